/-! the reference's products and bounds (own work) -/
/-- a product of the first n -/
def wpr (f : Nat → Int) : Nat → Int
  | 0 => 1
  | n + 1 => wpr f n * f n
theorem wpr_b {f : Nat → Int} (h : ∀ j, j < 6 → 0 ≤ f j ∧ f j ≤ 40) : ∀ n, n ≤ 6 → 0 ≤ wpr f n ∧ wpr f n ≤ 40 ^ n
  | 0, _ => ⟨by show (0 : Int) ≤ 1; omega, by show (1 : Int) ≤ 40 ^ 0; decide⟩
  | n + 1, hn => by
    obtain ⟨h1, h2⟩ := wpr_b h n (by omega)
    obtain ⟨h3, h4⟩ := h n (by omega)
    refine ⟨Int.mul_nonneg h1 h3, ?_⟩
    have h5 : wpr f n * f n ≤ 40 ^ n * 40 := Int.mul_le_mul h2 h4 h3 (by exact Int.le_trans h1 h2)
    rw [Int.pow_succ]
    exact h5
theorem wpr_pos {f : Nat → Int} (h : ∀ j, j < 6 → 0 ≤ f j ∧ f j ≤ 40) : ∀ n, n ≤ 6 → 0 < wpr f n → ∀ j, j < n → 0 < f j
  | 0, _, _, _, hj => absurd hj (Nat.not_lt_zero _)
  | n + 1, hn, hp, j, hj => by
    obtain ⟨h1, h2⟩ := wpr_b h n (by omega)
    obtain ⟨h3, h4⟩ := h n (by omega)
    have hp : 0 < wpr f n * f n := hp
    have hfn : 0 < f n := by
      rcases Int.lt_or_eq_of_le h3 with h5 | h5
      · exact h5
      · rw [← h5, Int.mul_zero] at hp
        omega
    have hwn : 0 < wpr f n := by
      rcases Int.lt_or_eq_of_le h1 with h5 | h5
      · exact h5
      · rw [← h5, Int.zero_mul] at hp
        omega
    by_cases hjn : j = n
    · subst hjn
      exact hfn
    · exact wpr_pos h n (by omega) hwn j (by omega)
theorem w40 {n : Nat} (h : n ≤ 6) : (40 : Int) ^ n ≤ 4096000000 := by
  match n, h with
  | 0, _ => decide
  | 1, _ => decide
  | 2, _ => decide
  | 3, _ => decide
  | 4, _ => decide
  | 5, _ => decide
  | 6, _ => decide
  | n + 7, h => omega
/-- how many LOTS: of the PARISH that the reference's object m has; 0 without one -/
def wLM (H : wq_H) (m : Nat) : Int := if H m 3 = -1 then 0 else wpr (H (H m 21).toNat) (H (H m 3).toNat 3).toNat
def wLMx (l : List (Nat × Nat)) : Bool := l.all (fun q => !(q.1 == 42 && (q.2 == 3 || q.2 == 21 || q.2 == 999)) && !(q.1 == 45) && !(q.1 == 54 && (q.2 == 3 || q.2 == 999)))
theorem wmem_no {l : List (Nat × Nat)} {t j : Nat} (h : ∀ q ∈ l, ¬ (q.1 = t ∧ (q.2 = 999 ∨ q.2 = j))) : wmem l t j = false := by
  by_cases h1 : wmem l t j = true
  · unfold wmem at h1
    obtain ⟨q, hq, h2⟩ := List.any_eq_true.mp h1
    simp only [Bool.and_eq_true, Bool.or_eq_true, beq_iff_eq] at h2
    exact absurd h2 (h q hq)
  · simpa using h1
section WMD

variable {T : wq_T} {H H' : wq_H} {m R : Nat} {l : List (Nat × Nat)}
theorem wfr.fn {a t : Nat} (f : wfr l T H H') (g : T.2.2.2 a = some t) (h : l.all (fun q => !(q.1 == t)) = true) : H' a = H a := by
  funext j
  refine f a j t g (wmem_no (fun q hq hh => ?_))
  have h1 := List.all_eq_true.mp h q hq
  simp [hh.1] at h1
theorem wLM_fr (hW : WT T H) (g : T.2.2.2 m = some 42) (f : wfr l T H H') (h : wLMx l = true) : wLM H' m = wLM H m := by
  have hl : ∀ q ∈ l, ¬ (q.1 = 42 ∧ (q.2 = 3 ∨ q.2 = 21 ∨ q.2 = 999)) ∧ ¬ q.1 = 45 ∧ ¬ (q.1 = 54 ∧ (q.2 = 3 ∨ q.2 = 999)) := by
    intro q hq
    have h1 := List.all_eq_true.mp h q hq
    simp only [Bool.and_eq_true, Bool.not_eq_true', Bool.and_eq_false_iff, Bool.or_eq_false_iff, beq_eq_false_iff_ne] at h1
    refine ⟨?_, ?_, ?_⟩
    · rintro ⟨h2, h3⟩
      rcases h1.1.1 with h4 | h4
      · exact h4 h2
      · rcases h3 with h3 | h3 | h3
        · exact h4.1.1 h3
        · exact h4.1.2 h3
        · exact h4.2 h3
    · exact h1.1.2
    · rintro ⟨h2, h3⟩
      rcases h1.2 with h4 | h4
      · exact h4 h2
      · rcases h3 with h3 | h3
        · exact h4.1 h3
        · exact h4.2 h3
  have e3 : H' m 3 = H m 3 := f m 3 42 g (wmem_no (fun q hq hh => (hl q hq).1 ⟨hh.1, by rcases hh.2 with h5 | h5 <;> omega⟩))
  have e21 : H' m 21 = H m 21 := f m 21 42 g (wmem_no (fun q hq hh => (hl q hq).1 ⟨hh.1, by rcases hh.2 with h5 | h5 <;> omega⟩))
  unfold wLM
  rw [e3, e21]
  split
  · rfl
  · next hn =>
    obtain ⟨sp, hs1, hs2⟩ := hW.ref g (t' := 45) (n := 33) (j := 21) (p := 0) (q := 0) rfl (by decide) rfl
    have e4 : H' sp = H sp := f.fn hs2 (List.all_eq_true.mpr (fun q hq => by
      have := (hl q hq).2.1
      simpa using this))
    rcases hW.opt g (t' := 54) (n := 33) (j := 3) (p := 0) (q := 0) rfl (by decide) rfl with h5 | ⟨pp, h5, h6⟩
    · exact absurd h5 hn
    · rw [hs1, h5, Int.toNat_natCast, Int.toNat_natCast, e4]
      rw [f pp 3 54 h6 (wmem_no (fun q hq hh => (hl q hq).2.2 ⟨hh.1, by rcases hh.2 with h7 | h7 <;> omega⟩))]
theorem wLM_eq {pp sp : Nat} (h1 : H m 3 = (pp : Int)) (h2 : H m 21 = (sp : Int)) : wLM H m = wpr (H sp) (H pp 3).toNat := by
  unfold wLM
  rw [if_neg (by omega), h1, h2, Int.toNat_natCast, Int.toNat_natCast]
/-- the spans of a PARISH with LOTS -/
theorem wLM_sp (hW : WT T H) {pp sp : Nat} (g1 : T.2.2.2 pp = some 54) (g2 : T.2.2.2 sp = some 45) (h1 : H m 3 = (pp : Int)) (h2 : H m 21 = (sp : Int)) (hp : 0 < wLM H m) {j : Nat} (hj : (j : Int) < H pp 3) : 0 < H sp j := by
  rw [wLM_eq h1 h2] at hp
  have hb : 0 ≤ H pp 3 ∧ H pp 3 ≤ 6 := hW.box g1 (n := 27) rfl (by decide) rfl
  exact wpr_pos (fun j hj => hW.box g2 (n := 6) rfl hj rfl) _ (by omega) hp j (by omega)
/-- beds and sleeps of the people are told between bounds that fit -/
def wPIp (f1 f2 f3 f4 : Nat → Int) : Prop := ∀ k, k < 6 → f2 k ≤ f1 k + 7 ∧ f4 k ≤ f3 k + 4
def wPIq (H : wq_H) (R : Nat) : Prop := wPIp (H (H R 10).toNat) (H (H R 11).toNat) (H (H R 12).toNat) (H (H R 13).toNat)
noncomputable def wPI (H : wq_H) (R : Nat) : Int := @ite Int (wPIq H R) (Classical.propDecidable _) 1 0
theorem wPI_1 : wPI H R = 1 ↔ ∀ k, k < 6 → H (H R 11).toNat k ≤ H (H R 10).toNat k + 7 ∧ H (H R 13).toNat k ≤ H (H R 12).toNat k + 4 := by
  by_cases h : wPIq H R
  · have e : wPI H R = 1 := by
      show @ite Int (wPIq H R) (Classical.propDecidable _) 1 0 = 1
      exact if_pos h
    exact ⟨fun _ => h, fun _ => e⟩
  · have e : wPI H R = 0 := by
      show @ite Int (wPIq H R) (Classical.propDecidable _) 1 0 = 0
      exact if_neg h
    exact ⟨fun q => by rw [e] at q; exact absurd q (by decide), fun q => absurd q h⟩
theorem wPI_of {b1 b2 b3 b4 : Nat} (h1 : H R 10 = (b1 : Int)) (h2 : H R 11 = (b2 : Int)) (h3 : H R 12 = (b3 : Int)) (h4 : H R 13 = (b4 : Int)) (h : ∀ k, k < 6 → H b2 k ≤ H b1 k + 7 ∧ H b4 k ≤ H b3 k + 4) : wPI H R = 1 := by
  refine wPI_1.mpr (fun k hk => ?_)
  rw [h1, h2, h3, h4, Int.toNat_natCast, Int.toNat_natCast, Int.toNat_natCast, Int.toNat_natCast]
  exact h k hk
end WMD
/-- powers of ten -/
def w10 : Nat → Int
  | 0 => 1
  | n + 1 => w10 n * 10
theorem w10_b {n : Nat} (h : n ≤ 6) : 1 ≤ w10 n ∧ w10 n ≤ 1000000 := by
  match n, h with
  | 0, _ => decide
  | 1, _ => decide
  | 2, _ => decide
  | 3, _ => decide
  | 4, _ => decide
  | 5, _ => decide
  | 6, _ => decide
  | n + 7, h => omega
theorem w10_s {x y z : Int} {n m : Nat} (h : 1 ≤ x ∧ x ≤ w10 n) (hy : 1 ≤ y ∧ y ≤ 10) (hz : z = x * y) (hm : m = n + 1) : 1 ≤ z ∧ z ≤ w10 m := by
  subst hm
  subst hz
  refine ⟨?_, ?_⟩
  · have := Int.mul_le_mul h.1 hy.1 (by decide) (by omega)
    omega
  · exact Int.mul_le_mul h.2 hy.2 (by omega) (by omega)
theorem wl_mul_b {x y a b : Int} (hx : 0 ≤ x ∧ x ≤ a) (hy : 0 ≤ y ∧ y ≤ b) : 0 ≤ x * y ∧ x * y ≤ a * b := ⟨Int.mul_nonneg hx.1 hy.1, Int.mul_le_mul hx.2 hy.2 hy.1 (by omega)⟩
/-- bits below 2 ^ n -/
theorem wq_or_b {x y : Int} (n : Nat) (hn : n ≤ 31) (hx : 0 ≤ x ∧ x < 2 ^ n) (hy : 0 ≤ y ∧ y < 2 ^ n) : 0 ≤ wq_or x y ∧ wq_or x y < 2 ^ n := by
  have h31 : (2 : Int) ^ n ≤ 2147483648 := by
    have h1 : (2 : Nat) ^ n ≤ 2 ^ 31 := Nat.pow_le_pow_right (by decide) hn
    have h2 : ((2 ^ n : Nat) : Int) ≤ ((2 ^ 31 : Nat) : Int) := by exact_mod_cast h1
    have h3 : ((2 ^ n : Nat) : Int) = (2 : Int) ^ n := by simp
    rw [h3] at h2
    have h4 : ((2 ^ 31 : Nat) : Int) = 2147483648 := by decide
    omega
  have e : wq_or x y = ((Int32.ofInt x).toBitVec ||| (Int32.ofInt y).toBitVec).toInt := rfl
  have h1 := wI_toNat hx.1 (by omega : x ≤ 2147483647)
  have h2 := wI_toNat hy.1 (by omega : y ≤ 2147483647)
  have e3 : ((2 ^ n : Nat) : Int) = (2 : Int) ^ n := by simp
  have hn2 : ((Int32.ofInt x).toBitVec ||| (Int32.ofInt y).toBitVec).toNat < 2 ^ n := by
    rw [BitVec.toNat_or, h1, h2]
    exact Nat.or_lt_two_pow (by omega) (by omega)
  have h5 := BitVec.toInt_eq_toNat_cond ((Int32.ofInt x).toBitVec ||| (Int32.ofInt y).toBitVec)
  rw [e, h5]
  split <;> omega
theorem wq_shl1_6 {y : Int} (hy : 0 ≤ y ∧ y ≤ 6) : 1 ≤ wq_shl 1 y ∧ wq_shl 1 y ≤ 64 := by
  have h : y = 0 ∨ y = 1 ∨ y = 2 ∨ y = 3 ∨ y = 4 ∨ y = 5 ∨ y = 6 := by omega
  rcases h with h | h | h | h | h | h | h <;> subst h <;> decide +kernel
/-- WORLDS that are known stand on LOTS -/
def wKI (H : wq_H) (m : Nat) : Int := if H m 28 = 0 ∨ H m 29 = 0 ∨ 0 < wLM H m then 1 else 0
section WME

variable {T : wq_T} {H H' : wq_H} {m : Nat} {l : List (Nat × Nat)}
theorem wKI_1 : wKI H m = 1 ↔ (H m 28 = 0 ∨ H m 29 = 0 ∨ 0 < wLM H m) := by
  unfold wKI
  split
  · next h => exact ⟨fun _ => h, fun _ => rfl⟩
  · next h => exact ⟨fun q => absurd q (by decide), fun q => absurd q h⟩
theorem wKI_fr (hW : WT T H) (g : T.2.2.2 m = some 42) (f : wfr l T H H') (h : (wLMx l && !wmem l 42 28 && !wmem l 42 29) = true) : wKI H' m = wKI H m := by
  simp only [Bool.and_eq_true, Bool.not_eq_true'] at h
  unfold wKI
  rw [f m 28 42 g h.1.2, f m 29 42 g h.2, wLM_fr hW g f h.1.1]
theorem wq_u_a {a j b : Nat} {z : Int} (e : H' = wq_u H a j z) (h : b ≠ a) (i : Nat) : H' b i = H b i := by
  rw [e]
  exact wq_u_na h i
theorem wpr_s {f : Nat → Int} {x z : Int} {n k : Nat} (h : x = wpr f n) (hz : z = x * f n) (hk : k = n + 1) : z = wpr f k := by
  subst hk
  rw [hz, h]
  rfl
theorem wq_or_24 {x y : Int} (hx : 0 ≤ x ∧ x ≤ 16777215) (hy : 0 ≤ y ∧ y ≤ 16777215) : 0 ≤ wq_or x y ∧ wq_or x y ≤ 16777215 := by
  have e : (2 : Int) ^ 24 = 16777216 := by decide
  have h := wq_or_b (x := x) (y := y) 24 (by decide) (by rw [e]; omega) (by rw [e]; omega)
  rw [e] at h
  omega
theorem wq_shl1_24 {y : Int} (hy : 0 ≤ y ∧ y ≤ 23) : 1 ≤ wq_shl 1 y ∧ wq_shl 1 y ≤ 8388608 := by
  have h : y = 0 ∨ y = 1 ∨ y = 2 ∨ y = 3 ∨ y = 4 ∨ y = 5 ∨ y = 6 ∨ y = 7 ∨ y = 8 ∨ y = 9 ∨ y = 10 ∨ y = 11 ∨ y = 12 ∨ y = 13 ∨ y = 14 ∨ y = 15 ∨ y = 16 ∨ y = 17 ∨ y = 18 ∨ y = 19 ∨ y = 20 ∨ y = 21 ∨ y = 22 ∨ y = 23 := by omega
  rcases h with h | h | h | h | h | h | h | h | h | h | h | h | h | h | h | h | h | h | h | h | h | h | h | h <;> subst h <;> decide +kernel
end WME
