/-! PROOFS: sets of HOURS by their bits (own work) -/
def Y1 (a : Nat) : Int := wq_shl 1 (a : Int)
def Y2 (a b : Nat) : Int := wq_or (Y1 a) (Y1 b)
def Y3 (a b c : Nat) : Int := wq_or (Y2 a b) (Y1 c)
theorem Y1_e {a : Nat} (h : a < 24) : Y1 a = ((2 ^ a : Nat) : Int) := of_decide_eq_true (List.all_eq_true.mp shl_all a (List.mem_range.mpr h))
theorem Y1_b {a : Nat} (h : a < 24) : 0 ≤ Y1 a ∧ Y1 a ≤ 16777215 := by
  have := wq_shl1_b (y := (a : Int)) ⟨by omega, by omega⟩
  unfold Y1
  omega
theorem Y2_b {a b : Nat} (ha : a < 24) (hb : b < 24) : 0 ≤ Y2 a b ∧ Y2 a b ≤ 16777215 := wq_or_24 (Y1_b ha) (Y1_b hb)
theorem Y3_b {a b c : Nat} (ha : a < 24) (hb : b < 24) (hc : c < 24) : 0 ≤ Y3 a b c ∧ Y3 a b c ≤ 16777215 := wq_or_24 (Y2_b ha hb) (Y1_b hc)
theorem nbf_and : ∀ f a b : Nat, nbf f (a &&& b) ≤ nbf f b
  | 0, _, _ => Nat.le_refl _
  | f + 1, a, b => by
    have h1 := nbf_and f (a / 2) (b / 2)
    have h2 := @Nat.and_mod_two_eq_one a b
    show (a &&& b) % 2 + nbf f ((a &&& b) / 2) ≤ b % 2 + nbf f (b / 2)
    rw [Nat.and_div_two]
    by_cases c : (a &&& b) % 2 = 1
    · have := (h2.mp c).2
      omega
    · omega
theorem nbf_or : ∀ f a b : Nat, nbf f (a ||| b) ≤ nbf f a + nbf f b
  | 0, _, _ => Nat.zero_le _
  | f + 1, a, b => by
    have h1 := nbf_or f (a / 2) (b / 2)
    have h2 := @Nat.or_mod_two_eq_one a b
    show (a ||| b) % 2 + nbf f ((a ||| b) / 2) ≤ a % 2 + nbf f (a / 2) + (b % 2 + nbf f (b / 2))
    rw [Nat.or_div_two]
    by_cases c : (a ||| b) % 2 = 1
    · rcases h2.mp c with q | q <;> omega
    · omega
theorem nbY1 {a : Nat} (h : a < 24) : nbf 24 (Y1 a).toNat ≤ 1 := by
  have h1 := nbf_a a 24 0 h (Nat.two_pow_pos a)
  rw [nbf_0, Nat.zero_add] at h1
  rw [Y1_e h, Int.toNat_natCast]
  omega
theorem nbY2 {a b : Nat} (ha : a < 24) (hb : b < 24) : nbf 24 (Y2 a b).toNat ≤ 2 := by
  have h1 := Y1_b ha
  have h2 := Y1_b hb
  unfold Y2
  rw [wq_or_n ⟨h1.1, by omega⟩ ⟨h2.1, by omega⟩, Int.toNat_natCast]
  have h3 := nbf_or 24 (Y1 a).toNat (Y1 b).toNat
  have h4 := nbY1 ha
  have h5 := nbY1 hb
  omega
theorem nbY3 {a b c : Nat} (ha : a < 24) (hb : b < 24) (hc : c < 24) : nbf 24 (Y3 a b c).toNat ≤ 3 := by
  have h1 := Y2_b ha hb
  have h2 := Y1_b hc
  unfold Y3
  rw [wq_or_n ⟨h1.1, by omega⟩ ⟨h2.1, by omega⟩, Int.toNat_natCast]
  have h3 := nbf_or 24 (Y2 a b).toNat (Y1 c).toNat
  have h4 := nbY2 ha hb
  have h5 := nbY1 hc
  omega
/-- all numbers of f bits of which j at most are set -/
def xg : Nat → Nat → List Nat
  | 0, _ => [0]
  | f + 1, 0 => (xg f 0).map (fun n => 2 * n)
  | f + 1, j + 1 => (xg f (j + 1)).map (fun n => 2 * n) ++ (xg f j).map (fun n => 2 * n + 1)
theorem xg_mem : ∀ f j n : Nat, n < 2 ^ f → nbf f n ≤ j → n ∈ xg f j
  | 0, j, n, h, _ => by
    have : (2 : Nat) ^ 0 = 1 := rfl
    have e : n = 0 := by omega
    subst e
    cases j <;> exact List.mem_cons_self
  | f + 1, 0, n, h, hn => by
    have hp : (2 : Nat) ^ (f + 1) = 2 ^ f * 2 := Nat.pow_succ 2 f
    have h1 : n % 2 + nbf f (n / 2) ≤ 0 := hn
    exact List.mem_map.mpr ⟨n / 2, xg_mem f 0 (n / 2) (by omega) (by omega), by omega⟩
  | f + 1, j + 1, n, h, hn => by
    have hp : (2 : Nat) ^ (f + 1) = 2 ^ f * 2 := Nat.pow_succ 2 f
    have h1 : n % 2 + nbf f (n / 2) ≤ j + 1 := hn
    refine List.mem_append.mpr ?_
    by_cases c : n % 2 = 1
    · exact Or.inr (List.mem_map.mpr ⟨n / 2, xg_mem f j (n / 2) (by omega) (by omega), by omega⟩)
    · exact Or.inl (List.mem_map.mpr ⟨n / 2, xg_mem f (j + 1) (n / 2) (by omega) (by omega), by omega⟩)
/-! longs by their bits -/
theorem shL_all : (List.range 57).all (fun n => decide (wl_shl 1 n = ((2 ^ n : Nat) : Int))) = true := by decide +kernel
theorem xoL_on {P : Nat → Bool} : ∀ n : Nat, n ≤ 57 → xoL P n = (xon P n : Int)
  | 0, _ => rfl
  | n + 1, h => by
    have h1 := xoL_on n (by omega) (P := P)
    have h2 := xon_b n (P := P)
    have h3 : (2 : Nat) ^ n ≤ 2 ^ 56 := Nat.pow_le_pow_right (by decide) (by omega)
    have h4 : (2 : Nat) ^ 56 = 72057594037927936 := by decide
    have h5 := of_decide_eq_true (List.all_eq_true.mp shL_all n (List.mem_range.mpr (by omega)))
    show (if P n = true then wl_or (xoL P n) (wl_shl 1 n) else xoL P n) = ((if P n = true then xon P n + 2 ^ n else xon P n : Nat) : Int)
    by_cases c : P n = true
    · rw [if_pos c, if_pos c, h1, h5, wl_or_n ⟨by omega, by omega⟩ ⟨by omega, by omega⟩]
      have h6 := Nat.two_pow_add_eq_or_of_lt h2 1
      rw [Nat.mul_one] at h6
      rw [Int.toNat_natCast, Int.toNat_natCast, Nat.or_comm, ← h6, Nat.add_comm]
    · rw [if_neg c, if_neg c]
      exact h1
theorem xon_t {P : Nat → Bool} {n h : Nat} (hh : h < n) : (xon P n).testBit h = P h := by
  have h1 := xon_hb n h hh (P := P)
  rw [← Nat.toNat_testBit] at h1
  cases q : (xon P n).testBit h <;> cases q2 : P h <;> rw [q, q2] at h1 <;> first | rfl | exact absurd h1 (by decide)
theorem xon_tf {P : Nat → Bool} {n h : Nat} (hh : n ≤ h) : (xon P n).testBit h = false := Nat.testBit_lt_two_pow (Nat.lt_of_lt_of_le (xon_b n) (Nat.pow_le_pow_right (by decide) hh))
/-- what is wrong in a LOT: HOURS that disagree, and from bit 32 those off by one -/
def xfP (V : Nat → Int) (u i : Nat) : Bool := (decide (i < u) && decide (V i = 2)) || (decide (32 ≤ i) && (decide (i < u + 32) && decide (V (i - 32) = 1)))
def xfZ (V : Nat → Int) (u : Nat) : Int := xoL (xfP V u) 57
def XD (V : Nat → Int) : Int := xob (fun i => decide (V i = 2)) 24
def XO (V : Nat → Int) : Int := xob (fun i => decide (V i = 1)) 24
section FLAW

variable {V : Nat → Int} {u h : Nat} {m X z : Int}
theorem xfP_b {a b : Bool} (h : a = true ↔ b = true) : a = b := by
  cases a <;> cases b <;> first | rfl | exact absurd (h.mp rfl) (by decide) | exact absurd (h.mpr rfl) (by decide)
theorem xfP_i {i : Nat} : xfP V u i = true ↔ (i < u ∧ V i = 2) ∨ (32 ≤ i ∧ i < u + 32 ∧ V (i - 32) = 1) := by
  unfold xfP
  rw [Bool.or_eq_true, Bool.and_eq_true, Bool.and_eq_true, Bool.and_eq_true, decide_eq_true_eq, decide_eq_true_eq, decide_eq_true_eq, decide_eq_true_eq, decide_eq_true_eq]
theorem xfZ_0 : xfZ V 0 = 0 := by
  have e : ∀ j, j < 57 → xfP V 0 j = (fun _ => false) j := fun j _ => xfP_b (by
    rw [xfP_i]
    exact ⟨fun q => by rcases q with q | q <;> omega, fun q => absurd (show false = true from q) (by decide)⟩)
  exact (xoL_cg 57 e).trans (xoL_e 57)
theorem xfZ_gap (hu : u ≤ h) (hq : ∀ j, u ≤ j → j < h → V j = 0) : xfZ V h = xfZ V u := xoL_cg 57 (fun j _ => xfP_b (by
  rw [xfP_i, xfP_i]
  constructor
  · intro q
    rcases q with ⟨q1, q2⟩ | ⟨q1, q2, q3⟩
    · by_cases c : j < u
      · exact Or.inl ⟨c, q2⟩
      · have := hq j (by omega) q1
        omega
    · by_cases c : j - 32 < u
      · exact Or.inr ⟨q1, by omega, q3⟩
      · have := hq (j - 32) (by omega) (by omega)
        omega
  · intro q
    rcases q with ⟨q1, q2⟩ | ⟨q1, q2, q3⟩
    · exact Or.inl ⟨by omega, q2⟩
    · exact Or.inr ⟨q1, by omega, q3⟩))
theorem xfZ_n (hv : V h ≠ 2 ∧ V h ≠ 1) : xfZ V (h + 1) = xfZ V h := xoL_cg 57 (fun j _ => xfP_b (by
  rw [xfP_i, xfP_i]
  constructor
  · intro q
    rcases q with ⟨q1, q2⟩ | ⟨q1, q2, q3⟩
    · by_cases c : j = h
      · subst c
        exact absurd q2 hv.1
      · exact Or.inl ⟨by omega, q2⟩
    · by_cases c : j - 32 = h
      · rw [c] at q3
        exact absurd q3 hv.2
      · exact Or.inr ⟨q1, by omega, q3⟩
  · intro q
    rcases q with ⟨q1, q2⟩ | ⟨q1, q2, q3⟩
    · exact Or.inl ⟨by omega, q2⟩
    · exact Or.inr ⟨q1, by omega, q3⟩))
theorem xfZ_2 {v s w : Int} (hh : h < 24) (hv : V h = 2) (hx : X = xfZ V h) (e1 : v = wl_or X s) (e2 : s = wl_shl 1 w) (ew : w = h) : v = xfZ V (h + 1) := by
  have e : xoL (fun i => xfP V h i || decide (i = h)) 57 = wl_or (xoL (xfP V h) 57) (wl_shl 1 h) := xoL_up 57 (by omega)
  rw [e1, e2, ew, hx]
  refine Eq.trans e.symm (xoL_cg 57 (fun j _ => xfP_b ?_))
  show (xfP V h j || decide (j = h)) = true ↔ _
  rw [Bool.or_eq_true, xfP_i, xfP_i, decide_eq_true_eq]
  constructor
  · intro q
    rcases q with (⟨q1, q2⟩ | ⟨q1, q2, q3⟩) | q
    · exact Or.inl ⟨by omega, q2⟩
    · exact Or.inr ⟨q1, by omega, q3⟩
    · subst q
      exact Or.inl ⟨by omega, hv⟩
  · intro q
    by_cases c : j = h
    · exact Or.inr c
    · rcases q with ⟨q1, q2⟩ | ⟨q1, q2, q3⟩
      · exact Or.inl (Or.inl ⟨by omega, q2⟩)
      · by_cases c2 : j - 32 = h
        · rw [c2, hv] at q3
          exact absurd q3 (by decide)
        · exact Or.inl (Or.inr ⟨q1, by omega, q3⟩)
theorem xfZ_1 {v s w : Int} (hh : h < 24) (hv : V h = 1) (hx : X = xfZ V h) (e1 : v = wl_or X s) (e2 : s = wl_shl 1 w) (ew : w = ((h + 32 : Nat) : Int)) : v = xfZ V (h + 1) := by
  have e : xoL (fun i => xfP V h i || decide (i = h + 32)) 57 = wl_or (xoL (xfP V h) 57) (wl_shl 1 ((h + 32 : Nat) : Int)) := xoL_up 57 (by omega)
  rw [e1, e2, ew, hx]
  refine Eq.trans e.symm (xoL_cg 57 (fun j _ => xfP_b ?_))
  show (xfP V h j || decide (j = h + 32)) = true ↔ _
  rw [Bool.or_eq_true, xfP_i, xfP_i, decide_eq_true_eq]
  constructor
  · intro q
    rcases q with (⟨q1, q2⟩ | ⟨q1, q2, q3⟩) | q
    · exact Or.inl ⟨by omega, q2⟩
    · exact Or.inr ⟨q1, by omega, q3⟩
    · subst q
      exact Or.inr ⟨by omega, by omega, by rw [Nat.add_sub_cancel]; exact hv⟩
  · intro q
    by_cases c : j = h + 32
    · exact Or.inr c
    · rcases q with ⟨q1, q2⟩ | ⟨q1, q2, q3⟩
      · by_cases c2 : j = h
        · rw [c2, hv] at q2
          exact absurd q2 (by decide)
        · exact Or.inl (Or.inl ⟨by omega, q2⟩)
      · exact Or.inl (Or.inr ⟨q1, by omega, q3⟩)
theorem xfZ_D : wq_w (xfZ V 24) = XD V := by
  unfold xfZ XD
  rw [xoL_on 57 (Nat.le_refl _), xob_on 24 (Nat.le_refl _)]
  have e : xon (xfP V 24) 57 % 2 ^ 32 = xon (fun i => decide (V i = 2)) 24 := Nat.eq_of_testBit_eq (fun i => by
    rw [Nat.testBit_mod_two_pow]
    by_cases c : i < 24
    · rw [xon_t (h := i) (n := 57) (by omega), xon_t (n := 24) c, decide_eq_true (show i < 32 by omega), Bool.true_and]
      refine xfP_b ?_
      rw [xfP_i, decide_eq_true_eq]
      exact ⟨fun q => by rcases q with q | q <;> omega, fun q => Or.inl ⟨c, q⟩⟩
    · rw [xon_tf (n := 24) (by omega)]
      by_cases c2 : i < 32
      · rw [xon_t (h := i) (n := 57) (by omega)]
        refine xfP_b ?_
        rw [Bool.and_eq_true, xfP_i]
        exact ⟨fun q => by rcases q.2 with q | q <;> omega, fun q => absurd q (by decide)⟩
      · rw [decide_eq_false c2, Bool.false_and])
  have h1 := xon_b 24 (P := fun i => decide (V i = 2))
  have h2 : (2 : Nat) ^ 24 = 16777216 := by decide
  have h3 : (2 : Nat) ^ 32 = 4294967296 := by decide
  rw [h3] at e
  generalize xon (xfP V 24) 57 = F at e
  have h4 : (Int32.ofInt (F : Int)).toInt = Int.bmod (F : Int) 4294967296 := Int32.toInt_ofInt
  show (Int32.ofInt (F : Int)).toInt = _
  rw [h4, ← e, Int.bmod_eq_emod_of_lt (by omega)]
  omega
theorem xfZ_O : wq_w (wl_shr (xfZ V 24) 32) = XO V := by
  unfold xfZ XO
  rw [xoL_on 57 (Nat.le_refl _), xob_on 24 (Nat.le_refl _)]
  have hb := xon_b 57 (P := xfP V 24)
  have h3 : (2 : Nat) ^ 57 = 144115188075855872 := by decide
  have e : xon (xfP V 24) 57 / 2 ^ 32 = xon (fun i => decide (V i = 1)) 24 := Nat.eq_of_testBit_eq (fun i => by
    rw [Nat.testBit_div_two_pow]
    by_cases c : i < 24
    · rw [xon_t (h := i + 32) (n := 57) (by omega), xon_t (n := 24) c]
      refine xfP_b ?_
      rw [xfP_i, decide_eq_true_eq, Nat.add_sub_cancel]
      exact ⟨fun q => by rcases q with q | q <;> omega, fun q => Or.inr ⟨by omega, by omega, q⟩⟩
    · rw [xon_tf (n := 24) (by omega)]
      by_cases c2 : i + 32 < 57
      · rw [xon_t (h := i + 32) (n := 57) c2]
        refine xfP_b ?_
        rw [xfP_i]
        exact ⟨fun q => by rcases q with q | q <;> omega, fun q => absurd q (by decide)⟩
      · exact xon_tf (by omega))
  have h1 := xon_b 24 (P := fun i => decide (V i = 1))
  have h2 : (2 : Nat) ^ 24 = 16777216 := by decide
  generalize xon (xfP V 24) 57 = F at e hb
  rw [show (32 : Int) = ((8 : Nat) : Int) * 4 by decide, wl_shr_n ⟨by omega, by omega⟩ (by decide), Int.toNat_natCast, show 4 * 8 = 32 from rfl, e]
  exact wq_w_id ⟨by omega, by omega⟩
/-! what some HOURS leave -/
def XLF (V : Nat → Int) (m X : Int) : Prop := ∀ h : Nat, h < 24 → xbad (xbh X V) m h = false
theorem and_xob {P : Nat → Bool} (hX : 0 ≤ X ∧ X ≤ 16777215) : wq_and (xob P 24) X = xob (fun h => P h && decide (hb X h = 1)) 24 := by
  have h1 := xob_b (P := P) 24 (Nat.le_refl _)
  rw [wq_and_n ⟨h1.1, by omega⟩ ⟨hX.1, by omega⟩, xob_on 24 (Nat.le_refl _), xob_on 24 (Nat.le_refl _), Int.toNat_natCast]
  refine congrArg _ (Nat.eq_of_testBit_eq (fun i => ?_))
  rw [Nat.testBit_and]
  by_cases c : i < 24
  · rw [xon_t (n := 24) c, xon_t (n := 24) c]
    refine xfP_b ?_
    rw [Bool.and_eq_true, Bool.and_eq_true, hb_1, decide_eq_true_eq]
  · rw [xon_tf (n := 24) (by omega), xon_tf (n := 24) (by omega), Bool.false_and]
theorem xob_0 {P : Nat → Bool} : xob P 24 = 0 ↔ ∀ h : Nat, h < 24 → P h = false := by
  constructor
  · intro q h hh
    rw [xob_on 24 (Nat.le_refl _)] at q
    have h1 := xon_t (P := P) (n := 24) hh
    rw [show xon P 24 = 0 by omega, Nat.zero_testBit] at h1
    exact h1.symm
  · intro q
    exact xob_gap (u := 0) (Nat.zero_le _) (fun j _ hj => q j hj)
theorem xco_x (hv : ∀ h, h < 24 → xbh X V h ≠ 2) (hV : ∀ h, 0 ≤ V h ∧ V h ≤ 2) : ∀ n : Nat, n ≤ 24 → xco (xbh X V) n = xcn (fun h => if V h = 1 ∧ hb X h = 1 then 1 else 0) n
  | 0, _ => rfl
  | n + 1, hn => by
    have h1 := xco_x hv hV n (by omega)
    have h2 := hv n (by omega)
    have h3 := hV n
    have h4 := @hb_b X n
    show xco (xbh X V) n + xbh X V n = xcn (fun h => if V h = 1 ∧ hb X h = 1 then 1 else 0) n + (if (if V n = 1 ∧ hb X n = 1 then (1 : Int) else 0) > 0 then 1 else 0)
    rw [h1]
    unfold xbh at h2 ⊢
    by_cases c : hb X n = 0
    · have e9 : (if V n = 1 ∧ hb X n = 1 then (1 : Int) else 0) = 0 := if_neg (by omega)
      rw [e9, if_pos c, if_neg (by decide)]
    · rw [if_neg c] at h2 ⊢
      by_cases c2 : V n = 1
      · have e9 : (if V n = 1 ∧ hb X n = 1 then (1 : Int) else 0) = 1 := if_pos ⟨c2, by omega⟩
        rw [e9, c2, if_pos (by decide)]
      · have e9 : (if V n = 1 ∧ hb X n = 1 then (1 : Int) else 0) = 0 := if_neg (fun q => c2 q.1)
        rw [e9, if_neg (by decide)]
        omega
theorem xbh_b (hV : ∀ h, 0 ≤ V h ∧ V h ≤ 2) : 0 ≤ xbh X V h := by
  have := hV h
  unfold xbh
  split <;> omega
theorem xco_up (hV : ∀ h, 0 ≤ V h ∧ V h ≤ 2) : ∀ n : Nat, h ≤ n → xco (xbh X V) h ≤ xco (xbh X V) n
  | 0, hn => by
    have : h = 0 := by omega
    rw [this]
    exact Int.le_refl _
  | n + 1, hn => by
    by_cases c : h = n + 1
    · rw [c]
      exact Int.le_refl _
    · have h1 := xco_up hV n (by omega)
      have h2 := xbh_b (X := X) (h := n) hV
      have h3 : xco (xbh X V) (n + 1) = xco (xbh X V) n + xbh X V n := rfl
      omega
theorem xbad_i {q : Nat → Int} : xbad q m h = false ↔ q h ≠ 2 ∧ xco q (h + 1) ≤ m := by
  unfold xbad
  rw [Bool.or_eq_false_iff, decide_eq_false_iff_not, decide_eq_false_iff_not, Int.not_lt]
theorem XLF_i (hV : ∀ h, 0 ≤ V h ∧ V h ≤ 2) (hX : 0 ≤ X ∧ X ≤ 16777215) : XLF V m X ↔ (wq_and (XD V) X = 0 ∧ ((nbf 24 (wq_and (XO V) X).toNat : Nat) : Int) ≤ m) := by
  have e1 : wq_and (XD V) X = xob (fun h => decide (V h = 2) && decide (hb X h = 1)) 24 := and_xob hX
  have e2 : wq_and (XO V) X = xob (fun h => decide (V h = 1) && decide (hb X h = 1)) 24 := and_xob hX
  have e3 : xob (fun h => decide (V h = 1) && decide (hb X h = 1)) 24 = xob (fun h => decide ((fun h => if V h = 1 ∧ hb X h = 1 then (1 : Int) else 0) h > 0)) 24 := xob_cg 24 (fun j _ => xfP_b (by
    rw [Bool.and_eq_true, decide_eq_true_eq, decide_eq_true_eq, decide_eq_true_eq]
    by_cases c : V j = 1 ∧ hb X j = 1
    · show _ ↔ (if V j = 1 ∧ hb X j = 1 then (1 : Int) else 0) > 0
      rw [if_pos c]
      exact ⟨fun _ => by decide, fun _ => c⟩
    · show _ ↔ (if V j = 1 ∧ hb X j = 1 then (1 : Int) else 0) > 0
      rw [if_neg c]
      exact ⟨fun q => absurd q c, fun q => absurd q (by decide)⟩))
  rw [e1, e2, e3, xob_bits, xob_0]
  have k2 : (∀ h : Nat, h < 24 → (decide (V h = 2) && decide (hb X h = 1)) = false) ↔ ∀ h : Nat, h < 24 → xbh X V h ≠ 2 := by
    constructor
    · intro q h hh k
      have h1 := q h hh
      have h4 := @hb_b X h
      unfold xbh at k
      by_cases c : hb X h = 0
      · rw [if_pos c] at k
        exact absurd k (by decide)
      · rw [if_neg c] at k
        rw [decide_eq_true k, decide_eq_true (show hb X h = 1 by omega)] at h1
        exact absurd h1 (by decide)
    · intro q h hh
      have h1 := q h hh
      by_cases c : hb X h = 1
      · unfold xbh at h1
        rw [if_neg (by omega)] at h1
        rw [decide_eq_false h1, Bool.false_and]
      · rw [decide_eq_false c, Bool.and_false]
  rw [k2]
  unfold XLF
  constructor
  · intro q
    have q2 : ∀ h : Nat, h < 24 → xbh X V h ≠ 2 := fun h hh => (xbad_i.mp (q h hh)).1
    refine ⟨q2, ?_⟩
    rw [← xco_x q2 hV 24 (Nat.le_refl _)]
    exact (xbad_i.mp (q 23 (by decide))).2
  · intro q h hh
    have h1 := xco_x q.1 hV 24 (Nat.le_refl _)
    have h2 := xco_up (X := X) hV 24 (h := h + 1) (by omega)
    refine xbad_i.mpr ⟨q.1 h hh, ?_⟩
    have h3 := q.2
    rw [← h1] at h3
    omega
end FLAW
