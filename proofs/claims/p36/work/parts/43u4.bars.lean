/-! LIES, BARS, HOURS WITHOUT A STROKE (own work) -/
/-- a LOT without a quarrel; one in which what was told is so, too -/
def xnq (d : xD) : Nat → Int := fun n => if xqu d (xlot d n) (d 0 3).toNat = 0 then 1 else 0
def xts (d : xD) (t n : Nat) : Prop := wq_and (xsb d (xlot d n) (d 14 t).toNat) (d 15 t) = d 15 t
def xtq (d : xD) (t : Nat) : Nat → Int := fun n => if xqu d (xlot d n) (d 0 3).toNat = 0 ∧ wq_and (xsb d (xlot d n) (d 14 t).toNat) (d 15 t) = d 15 t then 1 else 0
/-- which HOUR bars a LOT -/
def xfv (e d : xD) (n : Nat) (v : Int) : Prop := XFB (xvy e d (xlot d n)) (d 0 2) 24 v
/-- the greatest of what bars LOTS -/
def XBR (f : Nat → Int) (R : Nat → Int → Prop) (N : Nat) (z : Int) : Prop := (∀ n, n < N → f n > 0 → ∃ v, R n v ∧ v ≤ z) ∧ ((z = -1000 ∧ ∀ n, n < N → f n ≤ 0) ∨ ∃ n, n < N ∧ f n > 0 ∧ R n z)
section BARS

variable {q f : Nat → Int} {R : Nat → Int → Prop} {m z z' v w : Int} {N n t p i : Nat} {e d : xD} {g : Nat → Int}
theorem XFB_1 (h1 : XFB q m 24 z) (h2 : XFB q m 24 z') : z = z' := by
  rcases h1 with ⟨a1, a2⟩ | ⟨a1, a2, a3, a4⟩
  · rcases h2 with ⟨b1, -⟩ | ⟨b1, b2, b3, -⟩
    · omega
    · rw [a2 z'.toNat (by omega)] at b3
      cases b3
  · rcases h2 with ⟨b1, b2⟩ | ⟨b1, b2, b3, b4⟩
    · rw [b2 z.toNat (by omega)] at a3
      cases a3
    · by_cases c : z < z'
      · rw [b4 z.toNat (by omega)] at a3
        cases a3
      · by_cases c2 : z' < z
        · rw [a4 z'.toNat (by omega)] at b3
          cases b3
        · omega
theorem XFB_b (h : XFB q m 24 z) : 0 ≤ z ∧ z ≤ 24 := by
  rcases h with ⟨a1, -⟩ | ⟨a1, a2, -⟩ <;> omega
theorem xfb_k : ∀ n : Nat, (∀ h, h < n → xbad q m h = false) ∨ ∃ k, k < n ∧ xbad q m k = true ∧ ∀ h, h < k → xbad q m h = false
  | 0 => Or.inl (fun h hh => absurd hh (Nat.not_lt_zero h))
  | n + 1 => by
    rcases xfb_k n with a | ⟨k, k1, k2, k3⟩
    · cases c : xbad q m n with
      | true => exact Or.inr ⟨n, Nat.lt_succ_self n, c, a⟩
      | false =>
        refine Or.inl (fun h hh => ?_)
        by_cases t : h = n
        · rw [t]
          exact c
        · exact a h (by omega)
    · exact Or.inr ⟨k, by omega, k2, k3⟩
theorem XFB_ex : ∃ v, XFB q m 24 v := by
  rcases xfb_k (q := q) (m := m) 24 with a | ⟨k, k1, k2, k3⟩
  · exact ⟨24, XFB_e a⟩
  · exact ⟨(k : Int), XFB_y rfl k1 k2 k3⟩
theorem xfv_1 (h1 : xfv e d n v) (h2 : xfv e d n w) : v = w := XFB_1 h1 h2
theorem xfv_ex : ∃ v, xfv e d n v ∧ v ≤ 24 := by
  obtain ⟨v, h⟩ := XFB_ex (q := xvy e d (xlot d n)) (m := d 0 2)
  exact ⟨v, h, (XFB_b h).2⟩
theorem XBR_1 (hu : ∀ n v w, R n v → R n w → v = w) (h1 : XBR f R N z) (h2 : XBR f R N z') : z = z' := by
  obtain ⟨a1, a2⟩ := h1
  obtain ⟨b1, b2⟩ := h2
  rcases a2 with ⟨a3, a4⟩ | ⟨n, n1, n2, n3⟩
  · rcases b2 with ⟨b3, -⟩ | ⟨k, m1, m2, m3⟩
    · omega
    · have := a4 k m1
      omega
  · rcases b2 with ⟨b3, b4⟩ | ⟨k, m1, m2, m3⟩
    · have := b4 n n1
      omega
    · obtain ⟨v, v1, v2⟩ := b1 n n1 n2
      have e1 := hu _ _ _ n3 v1
      obtain ⟨w, w1, w2⟩ := a1 k m1 m2
      have e2 := hu _ _ _ m3 w1
      omega
theorem XBR_0 : XBR f R 0 (-1000) := ⟨fun n h => absurd h (Nat.not_lt_zero n), Or.inl ⟨rfl, fun n h => absurd h (Nat.not_lt_zero n)⟩⟩
theorem XBR_n (hf : f N ≤ 0) (h : XBR f R N z) : XBR f R (N + 1) z := by
  obtain ⟨a, b⟩ := h
  refine ⟨fun n h1 h2 => a n (Nat.lt_of_le_of_ne (by omega) (fun t => by rw [t] at h2; omega)) h2, ?_⟩
  rcases b with ⟨b1, b2⟩ | ⟨n, b1, b2, b3⟩
  · refine Or.inl ⟨b1, fun n h1 => ?_⟩
    by_cases t : n = N
    · rw [t]
      exact hf
    · exact b2 n (by omega)
  · exact Or.inr ⟨n, by omega, b2, b3⟩
theorem XBR_y (hf : f N > 0) (hv : R N v) (h0 : 0 ≤ v) (h : XBR f R N z) (hz : (z' = z ∧ v ≤ z) ∨ (z' = v ∧ z ≤ v)) : XBR f R (N + 1) z' := by
  obtain ⟨a, b⟩ := h
  refine ⟨fun n h1 h2 => ?_, ?_⟩
  · by_cases t : n = N
    · subst t
      exact ⟨v, hv, by omega⟩
    · obtain ⟨w, w1, w2⟩ := a n (by omega) h2
      exact ⟨w, w1, by omega⟩
  · by_cases c : z' = v
    · exact Or.inr ⟨N, by omega, hf, by rw [c]; exact hv⟩
    · rcases b with ⟨b1, b2⟩ | ⟨n, b1, b2, b3⟩
      · omega
      · exact Or.inr ⟨n, by omega, b2, by rw [show z' = z by omega]; exact b3⟩
theorem XBR_t (hn : n < N) (hf : f n > 0) (hv : R n 24) (hR : ∀ j, ∃ v, R j v ∧ v ≤ 24) : XBR f R N 24 := ⟨fun j _ _ => hR j, Or.inr ⟨n, hn, hf, hv⟩⟩
theorem xtq_y : xtq d t n > 0 ↔ xqu d (xlot d n) (d 0 3).toNat = 0 ∧ xts d t n := by
  unfold xtq xts
  by_cases c : xqu d (xlot d n) (d 0 3).toNat = 0 ∧ wq_and (xsb d (xlot d n) (d 14 t).toNat) (d 15 t) = d 15 t
  · rw [if_pos c]
    exact ⟨fun _ => c, fun _ => by decide⟩
  · rw [if_neg c]
    exact ⟨fun h => absurd h (by decide), fun h => absurd h c⟩
theorem xtq_n (h : ¬ (xqu d (xlot d n) (d 0 3).toNat = 0 ∧ xts d t n)) : xtq d t n ≤ 0 := by
  have h1 := @xtq_y n t d
  by_cases c : xtq d t n > 0
  · exact absurd (h1.mp c) h
  · omega
theorem xwf_f (hv : xfv e d n v) (hq : xqu d (xlot d n) (d 0 3).toNat = 0) : (v = 24 ∧ xwf e d n = 1) ∨ (v ≠ 24 ∧ xwf e d n = 0) := xwo_f hq hv
/-- what bars what was told -/
def XBO (e d : xD) (t N : Nat) (z : Int) : Prop := ∃ w, XBR (xtq d t) (xfv e d) N w ∧ ((w = 24 ∧ z = -2) ∨ (w ≠ 24 ∧ z = w))
theorem XBO_1 (h1 : XBO e d t N z) (h2 : XBO e d t N z') : z = z' := by
  obtain ⟨w, a1, a2⟩ := h1
  obtain ⟨w', b1, b2⟩ := h2
  have e1 : w = w' := XBR_1 (R := xfv e d) (fun _ _ _ h h' => xfv_1 h h') a1 b1
  clear a1 b1
  subst e1
  rcases a2 with ⟨p, q⟩ | ⟨p, q⟩ <;> rcases b2 with ⟨r, s⟩ | ⟨r, s⟩
  · rw [q, s]
  · exact absurd p r
  · exact absurd r p
  · rw [q, s]
theorem XBO_z (h : XBO e d t N z) (q : z' = z) : XBO e d t N z' := by
  rw [q]
  exact h
/-- is it so in some WORLD -/
def XLX (e d : xD) (t N : Nat) : Prop := ∃ n, n < N ∧ xwf e d n > 0 ∧ xts d t n
def XLZ (e d : xD) (t N : Nat) (z : Int) : Prop := (z = 0 ∧ XLX e d t N) ∨ (z = 1 ∧ ¬ XLX e d t N)
theorem XLZ_1 (h1 : XLZ e d t N z) (h2 : XLZ e d t N z') : z = z' := by
  rcases h1 with ⟨a1, a2⟩ | ⟨a1, a2⟩ <;> rcases h2 with ⟨b1, b2⟩ | ⟨b1, b2⟩
  · omega
  · exact absurd a2 b2
  · exact absurd b2 a2
  · omega
theorem XLZ_z (h : XLZ e d t N z) (q : z' = z) : XLZ e d t N z' := by
  rw [q]
  exact h
theorem XLZ_b (h : XBR (xtq d t) (xfv e d) N w) (hz : (w = 24 ∧ z = 0) ∨ (w ≠ 24 ∧ z = 1)) : XLZ e d t N z := by
  rcases hz with ⟨z1, z2⟩ | ⟨z1, z2⟩
  · refine Or.inl ⟨z2, ?_⟩
    obtain ⟨-, b⟩ := h
    rcases b with ⟨b1, -⟩ | ⟨n, b1, b2, b3⟩
    · omega
    · have h1 := xtq_y.mp b2
      rw [z1] at b3
      have u := xwf_f b3 h1.1
      exact ⟨n, b1, by omega, h1.2⟩
  · refine Or.inr ⟨z2, fun ⟨n, n1, n2, n3⟩ => ?_⟩
    have h1 : xqu d (xlot d n) (d 0 3).toNat = 0 := by
      by_cases s : xqu d (xlot d n) (d 0 3).toNat = 0
      · exact s
      · have h2 : xwf e d n = 0 := xwo_q s
        omega
    obtain ⟨a, b⟩ := h
    obtain ⟨v, v1, v2⟩ := a n n1 (xtq_y.mpr ⟨h1, n3⟩)
    have u := xwf_f v1 h1
    rcases b with ⟨b1, -⟩ | ⟨k, b1, b2, b3⟩
    · omega
    · have := XFB_b b3
      omega
/-- by SPANS held -/
theorem XLX_y {K : Nat} (hK : K = (d 14 t).toNat) (hx : 0 < xhc e d K i N) (hc : wq_and (xas d K ((xsp d K).getD i (0, 0))) (d 15 t) = d 15 t) : XLX e d t N := by
  subst hK
  obtain ⟨n, a, b, r⟩ := (wsm_ex (f := xwf e d) (g := fun n => (xlot d n (d 14 t).toNat).toNat) (i := i) N).mp hx
  have r : (xlot d n (d 14 t).toNat).toNat = i := r
  refine ⟨n, a, b, ?_⟩
  unfold xts xsb xpt
  rw [r]
  exact hc
theorem XLX_n {K : Nat} (hK : K = (d 14 t).toNat) (hP : xdP d) (hk : (K : Int) < d 0 3) (hN : (N : Int) = xlots d) (h : ∀ i : Nat, (i : Int) < ((xsp d K).length : Int) → ¬ (0 < xhc e d K i N ∧ wq_and (xas d K ((xsp d K).getD i (0, 0))) (d 15 t) = d 15 t)) : ¬ XLX e d t N := fun ⟨n, a, b, r⟩ => by
  subst hK
  have h1 := xlot_b (n := (n : Int)) hP (by omega) (by omega) hk
  refine h (xlot d n (d 14 t).toNat).toNat (by omega) ⟨(wsm_ex (f := xwf e d) (g := fun n => (xlot d n (d 14 t).toNat).toNat) N).mpr ⟨n, a, b, rfl⟩, ?_⟩
  unfold xts xsb xpt at r
  exact r
/-! HOURS in which nothing is struck -/
def xsi (d : xD) (g : Nat → Int) : Int := wq_and (xal d) (wq_xor (xfl d g (d 0 3).toNat) (-1))
theorem andn_n {a y : Int} (ha : 0 ≤ a ∧ a ≤ 16777215) (hy : 0 ≤ y ∧ y ≤ 16777215) : ∃ c : Nat, wq_and a (wq_xor y (-1)) = (c : Int) ∧ c ≤ 16777215 ∧ ∀ h : Nat, c.testBit h = (a.toNat.testBit h && !(y.toNat.testBit h)) := by
  have e : wq_and a (wq_xor y (-1)) = ((Int32.ofInt a).toBitVec &&& ((Int32.ofInt y).toBitVec ^^^ (Int32.ofInt (-1)).toBitVec)).toInt := by
    unfold wq_and wq_xor
    rw [Int32.ofInt_toInt]
    rfl
  have hM : (Int32.ofInt (-1)).toBitVec.toNat = 2 ^ 32 - 1 := by decide
  have hn : ((Int32.ofInt a).toBitVec &&& ((Int32.ofInt y).toBitVec ^^^ (Int32.ofInt (-1)).toBitVec)).toNat = a.toNat &&& (y.toNat ^^^ (2 ^ 32 - 1)) := by rw [BitVec.toNat_and, BitVec.toNat_xor, wI_toNat ha.1 (by omega), wI_toNat hy.1 (by omega), hM]
  have hb : a.toNat &&& (y.toNat ^^^ (2 ^ 32 - 1)) ≤ a.toNat := Nat.and_le_left
  have ht : ∀ h : Nat, (a.toNat &&& (y.toNat ^^^ (2 ^ 32 - 1))).testBit h = (a.toNat.testBit h && !(y.toNat.testBit h)) := fun h => by
    rw [Nat.testBit_and, Nat.testBit_xor, Nat.testBit_two_pow_sub_one]
    by_cases c : h < 32
    · rw [decide_eq_true c, Bool.xor_true]
    · have h1 : a.toNat.testBit h = false := Nat.testBit_lt_two_pow (Nat.lt_of_lt_of_le (show a.toNat < 2 ^ 24 by omega) (Nat.pow_le_pow_right (by decide) (by omega)))
      rw [h1, Bool.false_and, Bool.false_and]
  obtain ⟨c, hc⟩ : ∃ c, c = a.toNat &&& (y.toNat ^^^ (2 ^ 32 - 1)) := ⟨_, rfl⟩
  rw [← hc] at hn hb ht
  refine ⟨c, ?_, by omega, ht⟩
  have h2 := BitVec.toInt_eq_toNat_cond ((Int32.ofInt a).toBitVec &&& ((Int32.ofInt y).toBitVec ^^^ (Int32.ofInt (-1)).toBitVec))
  rw [hn] at h2
  rw [e, h2]
  split <;> omega
theorem hb_1 {b : Int} {h : Nat} : b.toNat.testBit h = true ↔ hb b h = 1 := by
  rw [hb_t]
  cases b.toNat.testBit h
  · exact ⟨fun q => absurd q (by decide), fun q => absurd q (by decide)⟩
  · exact ⟨fun _ => rfl, fun _ => rfl⟩
theorem xbf_t {f : Nat → Int} {h : Nat} (hh : h < 24) : ∀ n : Nat, (xbf f n).toNat.testBit h = true ↔ 0 < xbn f h n
  | 0 => by
    show (0 : Int).toNat.testBit h = true ↔ 0 < 0
    rw [show (0 : Int).toNat = 0 from rfl, Nat.zero_testBit]
    exact ⟨fun q => absurd q (by decide), fun q => absurd q (by decide)⟩
  | n + 1 => by
    have h1 := xbf_t (f := f) hh n
    have h2 := @hb_1 (xhs (f n) 24) h
    have h3 := hb_xhs (a := f n) (b := 24) hh
    show (wq_or (xbf f n) (xhs (f n) 24)).toNat.testBit h = true ↔ 0 < xbn f h n + (if f n ≤ (h : Int) then 1 else 0)
    rw [or_t (xbf_b n) xhs_b, Bool.or_eq_true, h1, h2, h3]
    by_cases c : f n ≤ (h : Int)
    · rw [if_pos ⟨c, by omega⟩, if_pos c]
      exact ⟨fun _ => by omega, fun _ => Or.inr rfl⟩
    · rw [if_neg (fun q => c q.1), if_neg c]
      exact ⟨fun q => by omega, fun q => Or.inl (by omega)⟩
theorem xfl_t {h : Nat} (hh : h < 24) : ∀ k : Nat, (xfl d g k).toNat.testBit h = true ↔ 0 < xct d g h k
  | 0 => xbf_t hh _
  | k + 1 => by
    have h1 := xfl_t hh k
    have h2 := @hb_1 (xwb d g k) h
    have h3 := @hb_b (xwb d g k) h
    show (wq_or (xfl d g k) (xwb d g k)).toNat.testBit h = true ↔ 0 < xct d g h k + hb (xwb d g k) h
    rw [or_t (xfl_b k) xwb_b, Bool.or_eq_true, h1, h2]
    exact ⟨fun q => by omega, fun q => by omega⟩
theorem xsi_b : 0 ≤ xsi d g ∧ xsi d g ≤ 16777215 := by
  obtain ⟨c, h1, h2, -⟩ := andn_n (@xal_b d) (@xfl_b d g (d 0 3).toNat)
  unfold xsi
  omega
theorem xsi_e (h0 : 0 ≤ d 0 0 ∧ d 0 0 ≤ 24) : xsi d g = xob (fun h => decide (xdue d g h = 0)) (d 0 0).toNat := by
  obtain ⟨c, h1, h2, h3⟩ := andn_n (@xal_b d) (@xfl_b d g (d 0 3).toNat)
  have h1 : xsi d g = (c : Int) := h1
  rw [h1, xob_on (d 0 0).toNat (by omega)]
  apply congrArg
  apply Nat.eq_of_testBit_eq
  intro i
  rw [h3 i]
  by_cases ci : i < (d 0 0).toNat
  · have a1 := hb_al h0 (show i < 24 by omega)
    rw [if_pos (by omega)] at a1
    have a2 := xon_hb (P := fun h => decide (xdue d g h = 0)) (d 0 0).toNat i ci
    rw [← Nat.toNat_testBit] at a2
    have a3 := @xfl_t d g i (by omega) (d 0 3).toNat
    rw [hb_1.mpr a1, Bool.true_and]
    by_cases c0 : xdue d g i = 0
    · have a2 : ((xon (fun h => decide (xdue d g h = 0)) (d 0 0).toNat).testBit i).toNat = (decide (xdue d g i = 0)).toNat := a2
      rw [decide_eq_true c0] at a2
      have a4 : (xfl d g (d 0 3).toNat).toNat.testBit i = false := by
        cases c1 : (xfl d g (d 0 3).toNat).toNat.testBit i with
        | false => rfl
        | true =>
          have := a3.mp c1
          unfold xdue at c0
          omega
      rw [a4]
      cases c2 : (xon (fun h => decide (xdue d g h = 0)) (d 0 0).toNat).testBit i with
      | true => rfl
      | false =>
        rw [c2] at a2
        exact absurd a2 (by decide)
    · have a2 : ((xon (fun h => decide (xdue d g h = 0)) (d 0 0).toNat).testBit i).toNat = (decide (xdue d g i = 0)).toNat := a2
      rw [decide_eq_false c0] at a2
      have a4 : (xfl d g (d 0 3).toNat).toNat.testBit i = true := a3.mpr (by unfold xdue at c0; omega)
      rw [a4]
      cases c2 : (xon (fun h => decide (xdue d g h = 0)) (d 0 0).toNat).testBit i with
      | false => rfl
      | true =>
        rw [c2] at a2
        exact absurd a2 (by decide)
  · have b1 : (xon (fun h => decide (xdue d g h = 0)) (d 0 0).toNat).testBit i = false := Nat.testBit_lt_two_pow (Nat.lt_of_lt_of_le (xon_b _) (Nat.pow_le_pow_right (by decide) (by omega)))
    have b2 : (xal d).toNat.testBit i = false := by
      by_cases c2 : i < 24
      · have a1 := hb_al h0 c2
        rw [if_neg (by omega)] at a1
        cases c3 : (xal d).toNat.testBit i with
        | false => rfl
        | true =>
          have := hb_1.mp c3
          omega
      · have := @xal_b d
        exact Nat.testBit_lt_two_pow (Nat.lt_of_lt_of_le (show (xal d).toNat < 2 ^ 24 by omega) (Nat.pow_le_pow_right (by decide) (by omega)))
    rw [b1, b2, Bool.false_and]
/-- of all LOTS without a quarrel -/
def xno (d : xD) (N : Nat) : Int := wfd (xnq d) (fun n x => wq_or x (xsi d (xlot d n))) 0 N
theorem xno_b : ∀ N : Nat, 0 ≤ xno d N ∧ xno d N ≤ 16777215
  | 0 => ⟨Int.le_refl _, by show (0 : Int) ≤ 16777215; decide⟩
  | N + 1 => by
    have h1 := xno_b N
    show 0 ≤ (if xnq d N > 0 then wq_or (xno d N) (xsi d (xlot d N)) else xno d N) ∧ (if xnq d N > 0 then wq_or (xno d N) (xsi d (xlot d N)) else xno d N) ≤ 16777215
    split
    · exact wq_or_24 h1 xsi_b
    · exact h1
theorem xno_y (h0 : 0 ≤ v) (hq : xqu d (xlot d v) (d 0 3).toNat = 0) (hz : z = wq_or (xno d v.toNat) (xsi d (xlot d v))) : z = xno d (v + 1).toNat := by
  have hf : xnq d v.toNat > 0 := by
    unfold xnq
    rw [Int.toNat_of_nonneg h0, if_pos hq]
    decide
  rw [show (v + 1).toNat = v.toNat + 1 by omega]
  show z = if xnq d v.toNat > 0 then wq_or (xno d v.toNat) (xsi d (xlot d (v.toNat : Nat))) else xno d v.toNat
  rw [if_pos hf, Int.toNat_of_nonneg h0]
  exact hz
theorem xno_n (h0 : 0 ≤ v) (hq : xqu d (xlot d v) (d 0 3).toNat ≠ 0) : xno d (v + 1).toNat = xno d v.toNat := by
  have hf : ¬ xnq d v.toNat > 0 := by
    unfold xnq
    rw [Int.toNat_of_nonneg h0, if_neg hq]
    decide
  rw [show (v + 1).toNat = v.toNat + 1 by omega]
  exact if_neg hf
theorem or_a {x y z : Int} : wq_or (wq_or x y) z = wq_or x (wq_or y z) := by
  unfold wq_or
  rw [Int32.ofInt_toInt, Int32.ofInt_toInt, Int32.or_assoc]
end BARS
theorem xts_i {A S v : Int} {K t : Nat} {d : xD} (hK : K = (d 14 t).toNat) (h0 : 0 ≤ v) (hA : A = xsb d (xlot d v) K) (hS : S = d 15 t) : wq_and A S = S ↔ xts d t v.toNat := by
  subst hK
  unfold xts
  rw [hA, hS, Int.toNat_of_nonneg h0]
theorem xfv_i {e d : xD} {v z : Int} (h0 : 0 ≤ v) (h : XFB (xvy e d (xlot d v)) (d 0 2) 24 z) : xfv e d v.toNat z := by
  unfold xfv
  rw [Int.toNat_of_nonneg h0]
  exact h
theorem xtq_yi {d : xD} {t : Nat} {v : Int} (h0 : 0 ≤ v) (hq : xqu d (xlot d v) (d 0 3).toNat = 0) (ht : xts d t v.toNat) : xtq d t v.toNat > 0 := xtq_y.mpr ⟨by rw [Int.toNat_of_nonneg h0]; exact hq, ht⟩
theorem xtq_nq {d : xD} {t : Nat} {v : Int} (h0 : 0 ≤ v) (hq : xqu d (xlot d v) (d 0 3).toNat ≠ 0) : xtq d t v.toNat ≤ 0 := xtq_n (fun h => hq (by have h1 := h.1; rw [Int.toNat_of_nonneg h0] at h1; exact h1))
theorem xtq_nt {d : xD} {t : Nat} {v : Int} (ht : ¬ xts d t v.toNat) : xtq d t v.toNat ≤ 0 := xtq_n (fun h => ht h.2)
theorem x15_k {dm : xD} {k : Nat} (h : (k : Int) < dm 0 6) : xset dm 15 k = wq_and (dm 15 k) (xal dm) := by
  rw [xset_15]
  exact if_pos h
theorem RP_22 {T : wq_T} {H : wq_H} {m mp : Nat} {e d : xD} (h : RP T H m mp e d) : MA22 T H mp (d 14) := by
  obtain ⟨-, ⟨dm, h3, rfl⟩, -⟩ := h
  exact h3.2.2.2.2.2.2.2.2.2.2.2.2.2.2.2.1
