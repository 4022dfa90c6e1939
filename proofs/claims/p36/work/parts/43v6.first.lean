/-! the first HOURS that prove (own work) -/
def XNQ (d : xD) (n : Nat) : Prop := xqu d (xlot d n) (d 0 3).toNat = 0
def XPV (e d : xD) (N : Nat) (X : Int) : Prop := ∀ n : Nat, n < N → XNQ d n → ¬ XLF (xvy e d (xlot d n)) (d 0 2) X
def XP1 (f : Nat → Int) (K : Int → Prop) (z : Int) : Prop := ∃ a : Nat, a < 24 ∧ f a > 0 ∧ K (Y1 a) ∧ z = Y1 a ∧ ∀ a' : Nat, a' < a → f a' > 0 → ¬ K (Y1 a')
def XN1 (f : Nat → Int) (K : Int → Prop) : Prop := ∀ a : Nat, a < 24 → f a > 0 → ¬ K (Y1 a)
def XP2 (f : Nat → Int) (K : Int → Prop) (z : Int) : Prop := ∃ a b : Nat, (a < 24 ∧ b < a) ∧ (f a > 0 ∧ f b > 0) ∧ K (Y2 a b) ∧ z = Y2 a b ∧ (∀ a' b' : Nat, a' < a → b' < a' → f a' > 0 → f b' > 0 → ¬ K (Y2 a' b')) ∧ ∀ b' : Nat, b' < b → f b' > 0 → ¬ K (Y2 a b')
def XN2 (f : Nat → Int) (K : Int → Prop) : Prop := ∀ a b : Nat, a < 24 → b < a → f a > 0 → f b > 0 → ¬ K (Y2 a b)
def XP3 (f : Nat → Int) (K : Int → Prop) (z : Int) : Prop := ∃ a b c : Nat, (a < 24 ∧ b < a ∧ c < b) ∧ (f a > 0 ∧ f b > 0 ∧ f c > 0) ∧ K (Y3 a b c) ∧ z = Y3 a b c ∧ (∀ a' b' c' : Nat, a' < a → b' < a' → c' < b' → f a' > 0 → f b' > 0 → f c' > 0 → ¬ K (Y3 a' b' c')) ∧ (∀ b' c' : Nat, b' < b → c' < b' → f b' > 0 → f c' > 0 → ¬ K (Y3 a b' c')) ∧ ∀ c' : Nat, c' < c → f c' > 0 → ¬ K (Y3 a b c')
def XN3 (f : Nat → Int) (K : Int → Prop) : Prop := ∀ a b c : Nat, a < 24 → b < a → c < b → f a > 0 → f b > 0 → f c > 0 → ¬ K (Y3 a b c)
def XPF (f : Nat → Int) (K : Int → Prop) (z : Int) : Prop := (K 0 ∧ z = 0) ∨ (¬ K 0 ∧ XP1 f K z) ∨ (¬ K 0 ∧ XN1 f K ∧ XP2 f K z) ∨ (¬ K 0 ∧ XN1 f K ∧ XN2 f K ∧ XP3 f K z) ∨ (¬ K 0 ∧ XN1 f K ∧ XN2 f K ∧ XN3 f K ∧ z = -2)
section FIRST

variable {f : Nat → Int} {K : Int → Prop} {z z' m : Int} {e d : xD} {N n : Nat} {V : Nat → Int} {X : Int}
theorem XP1_x (h : XP1 f K z) (k : XN1 f K) : False := by
  obtain ⟨a, h1, h2, h3, -, -⟩ := h
  exact k a h1 h2 h3
theorem XP2_x (h : XP2 f K z) (k : XN2 f K) : False := by
  obtain ⟨a, b, h1, h2, h3, -, -, -⟩ := h
  exact k a b h1.1 h1.2 h2.1 h2.2 h3
theorem XP3_x (h : XP3 f K z) (k : XN3 f K) : False := by
  obtain ⟨a, b, c, h1, h2, h3, -, -, -, -⟩ := h
  exact k a b c h1.1 h1.2.1 h1.2.2 h2.1 h2.2.1 h2.2.2 h3
theorem XP1_1 (h : XP1 f K z) (k : XP1 f K z') : z = z' := by
  obtain ⟨a, h1, h2, h3, h4, h5⟩ := h
  obtain ⟨b, k1, k2, k3, k4, k5⟩ := k
  by_cases c : a < b
  · exact absurd h3 (k5 a c h2)
  · by_cases c2 : b < a
    · exact absurd k3 (h5 b c2 k2)
    · rw [h4, k4, show a = b by omega]
theorem XP2_1 (h : XP2 f K z) (k : XP2 f K z') : z = z' := by
  obtain ⟨a, b, h1, h2, h3, h4, h5, h6⟩ := h
  obtain ⟨a', b', k1, k2, k3, k4, k5, k6⟩ := k
  by_cases c : a < a'
  · exact absurd h3 (k5 a b c h1.2 h2.1 h2.2)
  · by_cases c2 : a' < a
    · exact absurd k3 (h5 a' b' c2 k1.2 k2.1 k2.2)
    · have e : a = a' := by omega
      subst e
      by_cases c3 : b < b'
      · exact absurd h3 (k6 b c3 h2.2)
      · by_cases c4 : b' < b
        · exact absurd k3 (h6 b' c4 k2.2)
        · rw [h4, k4, show b = b' by omega]
theorem XP3_1 (h : XP3 f K z) (k : XP3 f K z') : z = z' := by
  obtain ⟨a, b, c, h1, h2, h3, h4, h5, h6, h7⟩ := h
  obtain ⟨a', b', c', k1, k2, k3, k4, k5, k6, k7⟩ := k
  by_cases q : a < a'
  · exact absurd h3 (k5 a b c q h1.2.1 h1.2.2 h2.1 h2.2.1 h2.2.2)
  · by_cases q2 : a' < a
    · exact absurd k3 (h5 a' b' c' q2 k1.2.1 k1.2.2 k2.1 k2.2.1 k2.2.2)
    · have e : a = a' := by omega
      subst e
      by_cases q3 : b < b'
      · exact absurd h3 (k6 b c q3 h1.2.2 h2.2.1 h2.2.2)
      · by_cases q4 : b' < b
        · exact absurd k3 (h6 b' c' q4 k1.2.2 k2.2.1 k2.2.2)
        · have e : b = b' := by omega
          subst e
          by_cases q5 : c < c'
          · exact absurd h3 (k7 c q5 h2.2.2)
          · by_cases q6 : c' < c
            · exact absurd k3 (h7 c' q6 k2.2.2)
            · rw [h4, k4, show c = c' by omega]
theorem XPF_1 (h : XPF f K z) (k : XPF f K z') : z = z' := by
  rcases h with ⟨h0, h1⟩ | ⟨h0, h1⟩ | ⟨h0, h1, h2⟩ | ⟨h0, h1, h2, h3⟩ | ⟨h0, h1, h2, h3, h4⟩ <;> rcases k with ⟨k0, k1⟩ | ⟨k0, k1⟩ | ⟨k0, k1, k2⟩ | ⟨k0, k1, k2, k3⟩ | ⟨k0, k1, k2, k3, k4⟩
  all_goals first
    | (rw [h1, k1]; done)
    | exact absurd h0 k0
    | exact absurd k0 h0
    | exact XP1_1 h1 k1
    | exact XP2_1 h2 k2
    | exact XP3_1 h3 k3
    | (rw [h4, k4]; done)
    | exact (XP1_x h1 k1).elim
    | exact (XP1_x k1 h1).elim
    | exact (XP2_x h2 k2).elim
    | exact (XP2_x k2 h2).elim
    | exact (XP3_x h3 k3).elim
    | exact (XP3_x k3 h3).elim
theorem XPF_z (h : XPF f K z) (e : z' = z) : XPF f K z' := by
  rw [e]
  exact h
/-! what is left -/
theorem XLF_24 (h : XFB (xbh X V) m 24 24) : XLF V m X := by
  rcases h with ⟨-, h⟩ | ⟨-, h, -, -⟩
  · exact fun j hj => h j (by omega)
  · omega
theorem XLF_n (h : XFB (xbh X V) m 24 z) (hz : z ≠ 24) : ¬ XLF V m X := fun k => by
  rcases h with ⟨h, -⟩ | ⟨h1, h2, h3, -⟩
  · exact hz h
  · rw [k z.toNat (by omega)] at h3
    exact absurd h3 (by decide)
theorem hb_z {h : Nat} : hb 0 h = 0 := by
  unfold hb
  rw [show (0 : Int).toNat = 0 from rfl, Nat.zero_div]
theorem XLF_0 (hm : 0 ≤ m) : XLF V m 0 := by
  have q : ∀ h : Nat, xbh 0 V h = 0 := fun h => if_pos hb_z
  have q2 : ∀ n : Nat, xco (xbh 0 V) n = 0 := fun n => by
    induction n with
    | zero => rfl
    | succ n ih =>
      show xco (xbh 0 V) n + xbh 0 V n = 0
      rw [ih, q n]
      rfl
  exact fun h _ => xbad_i.mpr ⟨by rw [q h]; decide, by rw [q2 (h + 1)]; exact hm⟩
theorem xnq_i : xnq d n > 0 ↔ XNQ d n := by
  unfold xnq XNQ
  split
  · next q => exact ⟨fun _ => q, fun _ => by decide⟩
  · next q => exact ⟨fun h => absurd h (by decide), fun h => absurd h q⟩
/-- how it is searched among LOTS without a quarrel, by their places -/
def xgf (e d : xD) (N i : Nat) : Int := xfZ (xvy e d (xlot d (xith (xnq d) (i : Int) N))) 24
theorem XPV_a {c : Int} (hc : c = xcn (xnq d) N) (h : ∀ i : Nat, (i : Int) < c → ¬ XLF (xvy e d (xlot d (xith (xnq d) (i : Int) N))) (d 0 2) X) : XPV e d N X := fun n hn hq => by
  have h1 := xnq_i.mpr hq
  have h2 := xcn_lt (f := xnq d) hn h1
  have h3 := (xcn_b (f := xnq d) n).1
  have h4 := h (xcn (xnq d) n).toNat (by omega)
  have h5 : xcn (xnq d) n = (((xcn (xnq d) n).toNat : Nat) : Int) := by omega
  rw [xith_e h1 h5 N hn] at h4
  exact h4
theorem XPV_f {i : Nat} (hi : (i : Int) < xcn (xnq d) N) (h : XLF (xvy e d (xlot d (xith (xnq d) (i : Int) N))) (d 0 2) X) : ¬ XPV e d N X := fun k => by
  have h1 := xith_ex (f := xnq d) (i := (i : Int)) N (by omega) hi
  exact k _ h1.2.2 (xnq_i.mp h1.1) h
theorem XPV_none (h : xcn (xnq d) N ≤ 0) : XPV e d N X := fun n hn hq => by
  have h2 := xcn_lt (f := xnq d) hn (xnq_i.mpr hq)
  have h3 := (xcn_b (f := xnq d) n).1
  omega
theorem XPV_0 (h : 0 < xcn (xnq d) N) (hm : 0 ≤ d 0 2) : ¬ XPV e d N 0 := XPV_f (i := 0) (by omega) (XLF_0 hm)
theorem XPV_s {i : Nat} (hi : i < N) (hq : XNQ d i) (h : XLF (xvy e d (xlot d i)) (d 0 2) X) : ¬ XPV e d N X := fun k => k i hi hq h
end FIRST
/-! by their places among those struck -/
def xGi (f : Nat → Int) (i : Int) : Nat := xith f i 24
def I1 (f : Nat → Int) (K : Int → Prop) (a : Int) : Prop := ∀ i : Int, 0 ≤ i → i < a → ¬ K (Y1 (xGi f i))
def I2 (f : Nat → Int) (K : Int → Prop) (a : Int) : Prop := ∀ i j : Int, i < a → 0 ≤ j → j < i → ¬ K (Y2 (xGi f i) (xGi f j))
def J2 (f : Nat → Int) (K : Int → Prop) (a b : Int) : Prop := ∀ j : Int, 0 ≤ j → j < b → ¬ K (Y2 (xGi f a) (xGi f j))
def I3 (f : Nat → Int) (K : Int → Prop) (a : Int) : Prop := ∀ i j k : Int, i < a → j < i → 0 ≤ k → k < j → ¬ K (Y3 (xGi f i) (xGi f j) (xGi f k))
def J3 (f : Nat → Int) (K : Int → Prop) (a b : Int) : Prop := ∀ j k : Int, j < b → 0 ≤ k → k < j → ¬ K (Y3 (xGi f a) (xGi f j) (xGi f k))
def L3 (f : Nat → Int) (K : Int → Prop) (a b c : Int) : Prop := ∀ k : Int, 0 ≤ k → k < c → ¬ K (Y3 (xGi f a) (xGi f b) (xGi f k))
section PLACES

variable {f : Nat → Int} {K : Int → Prop} {a b c : Int} {h h' : Nat}
theorem xGi_ex (h0 : 0 ≤ a) (h1 : a < xcn f 24) : f (xGi f a) > 0 ∧ xcn f (xGi f a) = a ∧ xGi f a < 24 := xith_ex 24 h0 h1
theorem xGi_e (hp : f h > 0) (hh : h < 24) : xGi f (xcn f h) = h := xith_e hp rfl 24 hh
theorem xGi_lt (h0 : 0 ≤ a) (h1 : a < b) (h2 : b < xcn f 24) : xGi f a < xGi f b := by
  have k1 := xGi_ex (f := f) h0 (by omega)
  have k2 := xGi_ex (f := f) (a := b) (by omega) h2
  by_cases q : xGi f a < xGi f b
  · exact q
  · have := xcn_mono (f := f) (m := xGi f b) (xGi f a) (by omega)
    omega
theorem xcn_l (hp : f h > 0) (hl : h < h') : 0 ≤ xcn f h ∧ xcn f h < xcn f h' := ⟨(xcn_b (f := f) h).1, xcn_lt hl hp⟩
theorem I1_0 : I1 f K 0 := fun i h1 h2 => by omega
theorem I1_n (hI : I1 f K a) (hk : ¬ K (Y1 (xGi f a))) : I1 f K (a + 1) := fun i h1 h2 => by
  by_cases q : i = a
  · rw [q]
    exact hk
  · exact hI i h1 (by omega)
theorem I1_e (hI : I1 f K a) (ha : xcn f 24 ≤ a) : XN1 f K := fun h hh hp => by
  have h1 := xcn_l hp hh
  have h2 := hI (xcn f h) h1.1 (by omega)
  rw [xGi_e hp hh] at h2
  exact h2
theorem I1_f (hI : I1 f K a) (h0 : 0 ≤ a) (ha : a < xcn f 24) (hk : K (Y1 (xGi f a))) : XP1 f K (Y1 (xGi f a)) := by
  have k1 := xGi_ex (f := f) h0 ha
  refine ⟨xGi f a, k1.2.2, k1.1, hk, rfl, fun h hl hp => ?_⟩
  have h1 := xcn_l hp hl
  have h2 := hI (xcn f h) h1.1 (by omega)
  rw [xGi_e hp (by omega)] at h2
  exact h2
theorem I2_1 : I2 f K 1 := fun i j h1 h2 h3 => by omega
theorem J2_0 : J2 f K a 0 := fun j h1 h2 => by omega
theorem J2_n (hJ : J2 f K a b) (hk : ¬ K (Y2 (xGi f a) (xGi f b))) : J2 f K a (b + 1) := fun j h1 h2 => by
  by_cases q : j = b
  · rw [q]
    exact hk
  · exact hJ j h1 (by omega)
theorem I2_n (hI : I2 f K a) (hJ : J2 f K a b) (hb : a ≤ b) : I2 f K (a + 1) := fun i j h1 h2 h3 => by
  by_cases q : i = a
  · rw [q]
    exact hJ j h2 (by omega)
  · exact hI i j (by omega) h2 h3
theorem I2_e (hI : I2 f K a) (ha : xcn f 24 ≤ a) : XN2 f K := fun h h' hh hl hp hp' => by
  have h1 := xcn_l hp hh
  have h2 := xcn_l hp' hl
  have h3 := hI (xcn f h) (xcn f h') (by omega) h2.1 h2.2
  rw [xGi_e hp hh, xGi_e hp' (by omega)] at h3
  exact h3
theorem I2_f (hI : I2 f K a) (hJ : J2 f K a b) (h0 : 0 ≤ b) (hb : b < a) (ha : a < xcn f 24) (hk : K (Y2 (xGi f a) (xGi f b))) : XP2 f K (Y2 (xGi f a) (xGi f b)) := by
  have k1 := xGi_ex (f := f) (a := a) (by omega) ha
  have k2 := xGi_ex (f := f) (a := b) h0 (by omega)
  refine ⟨xGi f a, xGi f b, ⟨k1.2.2, xGi_lt h0 hb ha⟩, ⟨k1.1, k2.1⟩, hk, rfl, fun h h' hl hl' hp hp' => ?_, fun h' hl' hp' => ?_⟩
  · have h1 := xcn_l hp hl
    have h2 := xcn_l hp' hl'
    have h3 := hI (xcn f h) (xcn f h') (by omega) h2.1 h2.2
    rw [xGi_e hp (by omega), xGi_e hp' (by omega)] at h3
    exact h3
  · have h2 := xcn_l hp' hl'
    have h3 := hJ (xcn f h') h2.1 (by omega)
    rw [xGi_e hp' (by omega)] at h3
    exact h3
theorem I3_2 : I3 f K 2 := fun i j k h1 h2 h3 h4 => by omega
theorem J3_1 : J3 f K a 1 := fun j k h1 h2 h3 => by omega
theorem L3_0 : L3 f K a b 0 := fun k h1 h2 => by omega
theorem L3_n (hL : L3 f K a b c) (hk : ¬ K (Y3 (xGi f a) (xGi f b) (xGi f c))) : L3 f K a b (c + 1) := fun k h1 h2 => by
  by_cases q : k = c
  · rw [q]
    exact hk
  · exact hL k h1 (by omega)
theorem J3_n (hJ : J3 f K a b) (hL : L3 f K a b c) (hc : b ≤ c) : J3 f K a (b + 1) := fun j k h1 h2 h3 => by
  by_cases q : j = b
  · rw [q]
    exact hL k h2 (by omega)
  · exact hJ j k (by omega) h2 h3
theorem I3_n (hI : I3 f K a) (hJ : J3 f K a b) (hb : a ≤ b) : I3 f K (a + 1) := fun i j k h1 h2 h3 h4 => by
  by_cases q : i = a
  · rw [q]
    exact hJ j k (by omega) h3 h4
  · exact hI i j k (by omega) h2 h3 h4
theorem I3_e (hI : I3 f K a) (ha : xcn f 24 ≤ a) : XN3 f K := fun x y w hh hl hl2 hp hp' hp2 => by
  have h1 := xcn_l hp hh
  have h2 := xcn_l hp' hl
  have h4 := xcn_l hp2 hl2
  have h3 := hI (xcn f x) (xcn f y) (xcn f w) (by omega) h2.2 h4.1 h4.2
  rw [xGi_e hp hh, xGi_e hp' (by omega), xGi_e hp2 (by omega)] at h3
  exact h3
theorem I3_f (hI : I3 f K a) (hJ : J3 f K a b) (hL : L3 f K a b c) (h0 : 0 ≤ c) (hc : c < b) (hb : b < a) (ha : a < xcn f 24) (hk : K (Y3 (xGi f a) (xGi f b) (xGi f c))) : XP3 f K (Y3 (xGi f a) (xGi f b) (xGi f c)) := by
  have k1 := xGi_ex (f := f) (a := a) (by omega) ha
  have k2 := xGi_ex (f := f) (a := b) (by omega) (by omega)
  have k3 := xGi_ex (f := f) (a := c) h0 (by omega)
  refine ⟨xGi f a, xGi f b, xGi f c, ⟨k1.2.2, xGi_lt (by omega) hb ha, xGi_lt h0 hc (by omega)⟩, ⟨k1.1, k2.1, k3.1⟩, hk, rfl, fun x y w hl hl' hl2 hp hp' hp2 => ?_, fun y w hl' hl2 hp' hp2 => ?_, fun w hl2 hp2 => ?_⟩
  · have h1 := xcn_l hp hl
    have h2 := xcn_l hp' hl'
    have h4 := xcn_l hp2 hl2
    have h3 := hI (xcn f x) (xcn f y) (xcn f w) (by omega) h2.2 h4.1 h4.2
    rw [xGi_e hp (by omega), xGi_e hp' (by omega), xGi_e hp2 (by omega)] at h3
    exact h3
  · have h2 := xcn_l hp' hl'
    have h4 := xcn_l hp2 hl2
    have h3 := hJ (xcn f y) (xcn f w) (by omega) h4.1 h4.2
    rw [xGi_e hp' (by omega), xGi_e hp2 (by omega)] at h3
    exact h3
  · have h4 := xcn_l hp2 hl2
    have h3 := hL (xcn f w) h4.1 (by omega)
    rw [xGi_e hp2 (by omega)] at h3
    exact h3
end PLACES
/-! by HOURS, with how many it is tried -/
def PA (f : Nat → Int) (K : Int → Prop) (m a : Int) : Prop := (m = 1 → ∀ x : Nat, (x : Int) < a → f x > 0 → ¬ K (Y1 x)) ∧ (m = 2 → ∀ x y : Nat, (x : Int) < a → y < x → f x > 0 → f y > 0 → ¬ K (Y2 x y)) ∧ (m = 3 → ∀ x y w : Nat, (x : Int) < a → y < x → w < y → f x > 0 → f y > 0 → f w > 0 → ¬ K (Y3 x y w))
def PB (f : Nat → Int) (K : Int → Prop) (m a b : Int) : Prop := (m = 2 → ∀ y : Nat, (y : Int) < b → f y > 0 → ¬ K (Y2 a.toNat y)) ∧ (m = 3 → ∀ y w : Nat, (y : Int) < b → w < y → f y > 0 → f w > 0 → ¬ K (Y3 a.toNat y w))
def PC (f : Nat → Int) (K : Int → Prop) (a b c : Int) : Prop := ∀ w : Nat, (w : Int) < c → f w > 0 → ¬ K (Y3 a.toNat b.toNat w)
def XLP (f : Nat → Int) (K : Int → Prop) (m z : Int) : Prop := (m = 0 ∧ ((K 0 ∧ z = 0) ∨ (¬ K 0 ∧ z = -1))) ∨ (m = 1 ∧ (XP1 f K z ∨ (XN1 f K ∧ z = -1))) ∨ (m = 2 ∧ (XP2 f K z ∨ (XN2 f K ∧ z = -1))) ∨ (m = 3 ∧ (XP3 f K z ∨ (XN3 f K ∧ z = -1)))
section TRIED

variable {f : Nat → Int} {K : Int → Prop} {a b c m z : Int}
theorem PA_0 (h : a = m - 1) : PA f K m a := ⟨fun h1 x hx => by omega, fun h1 x y hx hy => by omega, fun h1 x y w hx hy hw => by omega⟩
theorem PB_0 (h : b = m - 2) : PB f K m a b := ⟨fun h1 y hy => by omega, fun h1 y w hy hw => by omega⟩
theorem PC_0 : PC f K a b 0 := fun w hw => by omega
theorem PC_n (h0 : 0 ≤ c) (hP : PC f K a b c) (hk : f c.toNat > 0 → ¬ K (Y3 a.toNat b.toNat c.toNat)) : PC f K a b (c + 1) := fun w hw hp => by
  by_cases q : w = c.toNat
  · rw [q] at hp ⊢
    exact hk hp
  · exact hP w (by omega) hp
/-- that HOUR isn't struck -/
theorem PB_s (h0 : 0 ≤ b) (hP : PB f K m a b) (hb : f b.toNat ≤ 0) : PB f K m a (b + 1) := by
  refine ⟨fun hm y hy hp => ?_, fun hm y w hy hw hp hp' => ?_⟩
  · by_cases q : y = b.toNat
    · rw [q] at hp
      omega
    · exact hP.1 hm y (by omega) hp
  · by_cases q : y = b.toNat
    · rw [q] at hp
      omega
    · exact hP.2 hm y w (by omega) hw hp hp'
theorem PB_n (h0 : 0 ≤ b) (hP : PB f K m a b) (h2 : m = 2 → ¬ K (Y2 a.toNat b.toNat)) (h3 : m = 3 → PC f K a b c ∧ b ≤ c) : PB f K m a (b + 1) := by
  refine ⟨fun hm y hy hp => ?_, fun hm y w hy hw hp hp' => ?_⟩
  · by_cases q : y = b.toNat
    · rw [q]
      exact h2 hm
    · exact hP.1 hm y (by omega) hp
  · by_cases q : y = b.toNat
    · rw [q]
      exact (h3 hm).1 w (by have := (h3 hm).2; omega) hp'
    · exact hP.2 hm y w (by omega) hw hp hp'
theorem PA_s (h0 : 0 ≤ a) (hP : PA f K m a) (ha : f a.toNat ≤ 0) : PA f K m (a + 1) := by
  refine ⟨fun hm x hx hp => ?_, fun hm x y hx hy hp hp' => ?_, fun hm x y w hx hy hw hp hp' hp2 => ?_⟩
  · by_cases q : x = a.toNat
    · rw [q] at hp
      omega
    · exact hP.1 hm x (by omega) hp
  · by_cases q : x = a.toNat
    · rw [q] at hp
      omega
    · exact hP.2.1 hm x y (by omega) hy hp hp'
  · by_cases q : x = a.toNat
    · rw [q] at hp
      omega
    · exact hP.2.2 hm x y w (by omega) hy hw hp hp' hp2
theorem PA_n (h0 : 0 ≤ a) (hP : PA f K m a) (h1 : m = 1 → ¬ K (Y1 a.toNat)) (h2 : m ≠ 1 → PB f K m a b ∧ a ≤ b) : PA f K m (a + 1) := by
  refine ⟨fun hm x hx hp => ?_, fun hm x y hx hy hp hp' => ?_, fun hm x y w hx hy hw hp hp' hp2 => ?_⟩
  · by_cases q : x = a.toNat
    · rw [q]
      exact h1 hm
    · exact hP.1 hm x (by omega) hp
  · by_cases q : x = a.toNat
    · have k := h2 (by omega)
      rw [q]
      exact k.1.1 hm y (by omega) hp'
    · exact hP.2.1 hm x y (by omega) hy hp hp'
  · by_cases q : x = a.toNat
    · have k := h2 (by omega)
      rw [q]
      exact k.1.2 hm y w (by omega) hw hp' hp2
    · exact hP.2.2 hm x y w (by omega) hy hw hp hp' hp2
theorem XLP_e (hP : PA f K m a) (ha : 24 ≤ a) (hm : 1 ≤ m ∧ m ≤ 3) : XLP f K m (-1) := by
  by_cases q : m = 1
  · exact Or.inr (Or.inl ⟨q, Or.inr ⟨fun x hx hp => hP.1 q x (by omega) hp, rfl⟩⟩)
  · by_cases q2 : m = 2
    · exact Or.inr (Or.inr (Or.inl ⟨q2, Or.inr ⟨fun x y hx hy hp hp' => hP.2.1 q2 x y (by omega) hy hp hp', rfl⟩⟩))
    · have q3 : m = 3 := by omega
      exact Or.inr (Or.inr (Or.inr ⟨q3, Or.inr ⟨fun x y w hx hy hw hp hp' hp2 => hP.2.2 q3 x y w (by omega) hy hw hp hp' hp2, rfl⟩⟩))
theorem XLP_1 (hP : PA f K m a) (hm : m = 1) (h0 : 0 ≤ a ∧ a < 24) (hp : f a.toNat > 0) (hk : K (Y1 a.toNat)) : XLP f K m (Y1 a.toNat) :=
  Or.inr (Or.inl ⟨hm, Or.inl ⟨a.toNat, by omega, hp, hk, rfl, fun x hx hp' => hP.1 hm x (by omega) hp'⟩⟩)
theorem XLP_2 (hP : PA f K m a) (hQ : PB f K m a b) (hm : m = 2) (h0 : 0 ≤ b ∧ b < a ∧ a < 24) (hp : f a.toNat > 0) (hp' : f b.toNat > 0) (hk : K (Y2 a.toNat b.toNat)) : XLP f K m (Y2 a.toNat b.toNat) :=
  Or.inr (Or.inr (Or.inl ⟨hm, Or.inl ⟨a.toNat, b.toNat, ⟨by omega, by omega⟩, ⟨hp, hp'⟩, hk, rfl, fun x y hx hy k1 k2 => hP.2.1 hm x y (by omega) hy k1 k2, fun y hy k2 => hQ.1 hm y (by omega) k2⟩⟩))
theorem XLP_3 (hP : PA f K m a) (hQ : PB f K m a b) (hR : PC f K a b c) (hm : m = 3) (h0 : 0 ≤ c ∧ c < b ∧ b < a ∧ a < 24) (hp : f a.toNat > 0) (hp' : f b.toNat > 0) (hp2 : f c.toNat > 0) (hk : K (Y3 a.toNat b.toNat c.toNat)) : XLP f K m (Y3 a.toNat b.toNat c.toNat) :=
  Or.inr (Or.inr (Or.inr ⟨hm, Or.inl ⟨a.toNat, b.toNat, c.toNat, ⟨by omega, by omega, by omega⟩, ⟨hp, hp', hp2⟩, hk, rfl, fun x y w hx hy hw k1 k2 k3 => hP.2.2 hm x y w (by omega) hy hw k1 k2 k3, fun y w hy hw k2 k3 => hQ.2 hm y w (by omega) hw k2 k3, fun w hw k3 => hR w (by omega) k3⟩⟩))
theorem XP1_b (h : XP1 f K z) : 0 ≤ z ∧ z ≤ 16777215 := by
  obtain ⟨a, h1, -, -, h4, -⟩ := h
  rw [h4]
  exact Y1_b h1
theorem XP2_b (h : XP2 f K z) : 0 ≤ z ∧ z ≤ 16777215 := by
  obtain ⟨a, b, h1, -, -, h4, -, -⟩ := h
  rw [h4]
  exact Y2_b h1.1 (by omega)
theorem XP3_b (h : XP3 f K z) : 0 ≤ z ∧ z ≤ 16777215 := by
  obtain ⟨a, b, c, h1, -, -, h4, -, -, -⟩ := h
  rw [h4]
  exact Y3_b h1.1 (by omega) (by omega)
theorem XLP_b (h : XLP f K m z) : -1 ≤ z ∧ z ≤ 16777215 := by
  rcases h with ⟨-, ⟨-, h⟩ | ⟨-, h⟩⟩ | ⟨-, h | ⟨-, h⟩⟩ | ⟨-, h | ⟨-, h⟩⟩ | ⟨-, h | ⟨-, h⟩⟩
  · omega
  · omega
  · have := XP1_b h; omega
  · omega
  · have := XP2_b h; omega
  · omega
  · have := XP3_b h; omega
  · omega
/-- with fewer it isn't done -/
def XPM (f : Nat → Int) (K : Int → Prop) (m : Int) : Prop := (0 < m → ¬ K 0) ∧ (1 < m → XN1 f K) ∧ (2 < m → XN2 f K) ∧ (3 < m → XN3 f K)
theorem XPM_0 : XPM f K 0 := ⟨fun h => by omega, fun h => by omega, fun h => by omega, fun h => by omega⟩
theorem XPM_n (h : XPM f K m) (k : XLP f K m z) (hz : z = -1) : XPM f K (m + 1) := by
  rcases k with ⟨k0, ⟨-, k⟩ | ⟨k, -⟩⟩ | ⟨k0, k | ⟨k, -⟩⟩ | ⟨k0, k | ⟨k, -⟩⟩ | ⟨k0, k | ⟨k, -⟩⟩
  · omega
  · exact ⟨fun _ => k, fun q => by omega, fun q => by omega, fun q => by omega⟩
  · have := XP1_b k; omega
  · exact ⟨fun _ => h.1 (by omega), fun _ => k, fun q => by omega, fun q => by omega⟩
  · have := XP2_b k; omega
  · exact ⟨fun _ => h.1 (by omega), fun _ => h.2.1 (by omega), fun _ => k, fun q => by omega⟩
  · have := XP3_b k; omega
  · exact ⟨fun _ => h.1 (by omega), fun _ => h.2.1 (by omega), fun _ => h.2.2.1 (by omega), fun _ => k⟩
theorem XPM_f (h : XPM f K m) (k : XLP f K m z) (hz : z ≠ -1) : XPF f K z := by
  rcases k with ⟨k0, ⟨k1, k⟩ | ⟨-, k⟩⟩ | ⟨k0, k | ⟨-, k⟩⟩ | ⟨k0, k | ⟨-, k⟩⟩ | ⟨k0, k | ⟨-, k⟩⟩
  · exact Or.inl ⟨k1, k⟩
  · exact absurd k hz
  · exact Or.inr (Or.inl ⟨h.1 (by omega), k⟩)
  · exact absurd k hz
  · exact Or.inr (Or.inr (Or.inl ⟨h.1 (by omega), h.2.1 (by omega), k⟩))
  · exact absurd k hz
  · exact Or.inr (Or.inr (Or.inr (Or.inl ⟨h.1 (by omega), h.2.1 (by omega), h.2.2.1 (by omega), k⟩)))
  · exact absurd k hz
theorem XPM_e (h : XPM f K m) (hm : 4 ≤ m) : XPF f K (-2) := Or.inr (Or.inr (Or.inr (Or.inr ⟨h.1 (by omega), h.2.1 (by omega), h.2.2.1 (by omega), h.2.2.2 (by omega), rfl⟩)))
end TRIED
/-! HOURS struck, as bits; what the class keeps of them (own work) -/
section STRUCKB

variable {f : Nat → Int} {x X o z : Int} {h : Nat}
theorem hb_xob {P : Nat → Bool} (hh : h < 24) : hb (xob P 24) h = 1 ↔ P h = true := by
  have h1 := xon_t (P := P) (n := 24) hh
  rw [xob_on 24 (Nat.le_refl _), ← hb_1, Int.toNat_natCast, h1]
theorem hb_str (hx : x = xob (fun h => decide (f h > 0)) 24) (hh : h < 24) : hb x h = 1 ↔ f h > 0 := by
  rw [hx, hb_xob hh, decide_eq_true_eq]
theorem nb_left (ho : 0 ≤ o ∧ o ≤ 16777215) (hX : 0 ≤ X ∧ X ≤ 16777215) (hn : nbf 24 X.toNat ≤ 3) : nbf 24 (wq_and o X).toNat ≤ 3 := by
  rw [wq_and_n ⟨ho.1, by omega⟩ ⟨hX.1, by omega⟩, Int.toNat_natCast]
  have := nbf_and 24 o.toNat X.toNat
  omega
theorem XO_b {V : Nat → Int} : 0 ≤ XO V ∧ XO V ≤ 16777215 := xob_b 24 (Nat.le_refl _)
end STRUCKB
abbrev GF0 := DA 0 26
theorem GF0_fr {T : wq_T} {H H' : wq_H} {l : List (Nat × Nat)} {gr : Nat} {c : Int} {f : Nat → Int} (hW : WT T H) (gw : T.2.2.2 gr = some 25) (f0 : wfr l T H H') (x : DAw 25 0 26 l = true) (h : GF0 T H gr c f) : GF0 T H' gr c f := DAo_fr gw f0 x h
