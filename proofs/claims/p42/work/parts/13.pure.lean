/-! PURE MEMORY (own work): what the mini machine's cells hold, as one function from address and place to a whole number; a reference is its address, null is -1 -/
def wq_ft (ty : FieldType) : Nat := match ty with
  | .int => 0
  | .long => 1
  | .byte => 3
  | .boolean => 4
  | _ => 2
/-- the kinds of values: 0 int, 1 long, 2 reference, 3 byte, 4 boolean -/
def wq_ak (t : Nat) : Nat := match t with
  | 0 => 0
  | 1 => 1
  | 2 => 3
  | 3 => 4
  | _ => 2
def wq_fk (c j : Nat) : Nat := if c < 11 then wq_ft (mc_t c j) else if j = 0 then 2 else 0
def vI (z : Int) : Value := .int (Int32.ofInt z)
def vL (z : Int) : Value := .long (Int64.ofInt z)
def vR (z : Int) : Value := if 0 ≤ z then .ref z.toNat else .null
def wq_v (k : Nat) (z : Int) : Value := match k with
  | 1 => vL z
  | 2 => vR z
  | _ => vI z
def wI (z : Int) : Prop := -2147483648 ≤ z ∧ z ≤ 2147483647
def wL (z : Int) : Prop := -9223372036854775808 ≤ z ∧ z ≤ 9223372036854775807
def wq_in (k : Nat) (z : Int) : Prop := match k with
  | 0 => wI z
  | 1 => wL z
  | 2 => True
  | 3 => -128 ≤ z ∧ z ≤ 127
  | _ => 0 ≤ z ∧ z ≤ 1
/-- shapes, how many cells, how many slots, tags (of our own) -/
abbrev wq_T : Type := (Nat → Option (Nat × Nat)) × Nat × Nat × (Nat → Option Nat)
abbrev wq_H : Type := Nat → Nat → Int
def wq_c (s : Option (Nat × Nat)) (h : Nat → Int) (e : mc_E) : Prop := match e with
  | .inl (t, n, f) => t < 100 ∧ s = some (t, n) ∧ ∀ j, j < n → f j = wq_v (wq_ak t) (h j) ∧ wq_in (wq_ak t) (h j)
  | .inr (c, fs) => s = some (100 + c, fs.length) ∧ ∀ j v, fs[j]? = some v → v = wq_v (wq_fk c j) (h j) ∧ wq_in (wq_fk c j) (h j)
def wq_R (kt : Nat → Option mc_E) (M : mc_M) (T : wq_T) (H : wq_H) : Prop :=
  T.2.1 = M.length ∧ T.2.2.1 = mc_sz M ∧ (∀ a e, mc_ce kt M a = some e → wq_c (T.1 a) (H a) e) ∧ ∀ a, mc_ce kt M a = none → T.1 a = none
def wq_u (H : wq_H) (a j : Nat) (z : Int) : wq_H := fun b i => if b = a ∧ i = j then z else H b i
theorem wq_u_eq {H : wq_H} {a j : Nat} {z : Int} : wq_u H a j z a j = z := if_pos ⟨rfl, rfl⟩
theorem wq_u_ne {H : wq_H} {a j b i : Nat} {z : Int} (h : ¬ (b = a ∧ i = j)) : wq_u H a j z b i = H b i := if_neg h
theorem wq_u_na {H : wq_H} {a j b : Nat} {z : Int} (h : b ≠ a) (i : Nat) : wq_u H a j z b i = H b i := if_neg (fun q => h q.1)
theorem wI_of (z : Int32) : wI z.toInt := ⟨Int32.le_toInt z, by have := Int32.toInt_lt z; omega⟩
theorem wL_of (z : Int64) : wL z.toInt := ⟨Int64.le_toInt z, by have := Int64.toInt_lt z; omega⟩
theorem wI_t {z : Int} (h : wI z) : (Int32.ofInt z).toInt = z := Int32.toInt_ofInt_of_le h.1 (by have := h.2; omega)
theorem wL_t {z : Int} (h : wL z) : (Int64.ofInt z).toInt = z := Int64.toInt_ofInt_of_le h.1 (by have := h.2; omega)
theorem vI_of (z : Int32) : Value.int z = vI z.toInt := by unfold vI; rw [Int32.ofInt_toInt]
theorem vL_of (z : Int64) : Value.long z = vL z.toInt := by unfold vL; rw [Int64.ofInt_toInt]
theorem vR_of (a : Nat) : vR (a : Int) = .ref a := by unfold vR; rw [if_pos (by omega)]; rfl
theorem vR_null : vR (-1) = .null := rfl
theorem wq_R.obj {kt : Nat → Option mc_E} {M : mc_M} {T : wq_T} {H : wq_H} (h : wq_R kt M T H) {a c n : Nat} (hs : T.1 a = some (100 + c, n)) : ∃ fs, mc_ce kt M a = some (.inr (c, fs)) ∧ fs.length = n ∧ ∀ j v, fs[j]? = some v → v = wq_v (wq_fk c j) (H a j) ∧ wq_in (wq_fk c j) (H a j) := by
  cases he : mc_ce kt M a with
  | none => rw [h.2.2.2 a he] at hs; cases hs
  | some e =>
    have h1 := h.2.2.1 a e he
    match e, h1 with
    | .inl (t, m, f), h1 =>
      obtain ⟨h2, h3, -⟩ := h1
      rw [hs] at h3
      cases h3
      omega
    | .inr (c', fs), h1 =>
      obtain ⟨h3, h4⟩ := h1
      rw [hs] at h3
      have h5 := Option.some.inj h3
      have h6 : 100 + c = 100 + c' := congrArg Prod.fst h5
      have h7 : n = fs.length := congrArg Prod.snd h5
      have h8 : c' = c := by omega
      subst h8
      exact ⟨fs, rfl, h7.symm, h4⟩
theorem wq_R.arr {kt : Nat → Option mc_E} {M : mc_M} {T : wq_T} {H : wq_H} (h : wq_R kt M T H) {a t n : Nat} (ht : t < 100) (hs : T.1 a = some (t, n)) : ∃ f, mc_ce kt M a = some (.inl (t, n, f)) ∧ ∀ j, j < n → f j = wq_v (wq_ak t) (H a j) ∧ wq_in (wq_ak t) (H a j) := by
  cases he : mc_ce kt M a with
  | none => rw [h.2.2.2 a he] at hs; cases hs
  | some e =>
    have h1 := h.2.2.1 a e he
    match e, h1 with
    | .inl (t', m, f), h1 =>
      obtain ⟨h2, h3, h4⟩ := h1
      rw [hs] at h3
      cases h3
      exact ⟨f, rfl, h4⟩
    | .inr (c', fs), h1 =>
      obtain ⟨h3, h4⟩ := h1
      rw [hs] at h3
      have h5 := Option.some.inj h3
      have h6 : t = 100 + c' := congrArg Prod.fst h5
      omega
theorem mc_ce_hi {kt : Nat → Option mc_E} {M : mc_M} {a : Nat} (h : 256 ≤ a) : mc_ce kt M a = M[a - 256]? := if_neg (by omega)
theorem mc_ce_lo {kt : Nat → Option mc_E} {M : mc_M} {a : Nat} (h : a < 256) : mc_ce kt M a = kt a := if_pos h
/-- one cell written -/
theorem wq_R.set {kt : Nat → Option mc_E} {M : mc_M} {T : wq_T} {H H' : wq_H} (h : wq_R kt M T H) {a : Nat} (ha : 256 ≤ a) {e0 e : mc_E} (he : M[a - 256]? = some e0) (hz : mc_es e = mc_es e0) (hc : wq_c (T.1 a) (H' a) e) (ho : ∀ b, b ≠ a → H' b = H b) : wq_R kt (M.set (a - 256) e) T H' := by
  have hlt : a - 256 < M.length := (List.getElem?_eq_some_iff.mp he).1
  refine ⟨by rw [List.length_set]; exact h.1, by rw [mc_sz_set he hz]; exact h.2.1, fun b e' hb => ?_, fun b hb => ?_⟩
  · by_cases hba : b = a
    · subst hba
      rw [mc_ce_hi ha, List.getElem?_set_self hlt] at hb
      cases hb
      exact hc
    · rw [ho b hba]
      refine h.2.2.1 b e' ?_
      by_cases hb0 : b < 256
      · rw [mc_ce_lo hb0] at hb ⊢
        exact hb
      · rw [mc_ce_hi (by omega)] at hb ⊢
        rw [List.getElem?_set_ne (by omega)] at hb
        exact hb
  · refine h.2.2.2 b ?_
    by_cases hb0 : b < 256
    · rw [mc_ce_lo hb0] at hb ⊢
      exact hb
    · rw [mc_ce_hi (by omega)] at hb ⊢
      rw [List.getElem?_eq_none_iff] at hb ⊢
      rw [List.length_set] at hb
      exact hb
theorem wq_R.putf {kt : Nat → Option mc_E} {M : mc_M} {T : wq_T} {H : wq_H} (h : wq_R kt M T H) {a c j : Nat} {fs : List Value} (ha : 256 ≤ a) (he : M[a - 256]? = some (.inr (c, fs))) {z : Int} (hz : wq_in (wq_fk c j) z) : wq_R kt (M.set (a - 256) (.inr (c, fs.set j (wq_v (wq_fk c j) z)))) T (wq_u H a j z) := by
  have h0 := h.2.2.1 a (.inr (c, fs)) (by rw [mc_ce_hi ha]; exact he)
  obtain ⟨h1, h2⟩ := h0
  refine h.set ha he (by simp [mc_es]) ⟨by rw [List.length_set]; exact h1, fun i v hv => ?_⟩ (fun b hb => by funext i; exact wq_u_na hb i)
  by_cases hij : i = j
  · subst hij
    have hl : i < fs.length := by
      have := (List.getElem?_eq_some_iff.mp hv).1
      rw [List.length_set] at this
      exact this
    rw [List.getElem?_set_self hl] at hv
    cases hv
    rw [wq_u_eq]
    exact ⟨rfl, hz⟩
  · rw [List.getElem?_set_ne (fun q => hij q.symm)] at hv
    rw [wq_u_ne (fun q => hij q.2)]
    exact h2 i v hv
theorem wq_R.puta {kt : Nat → Option mc_E} {M : mc_M} {T : wq_T} {H : wq_H} (h : wq_R kt M T H) {a t n j : Nat} {f : Nat → Value} (ha : 256 ≤ a) (he : M[a - 256]? = some (.inl (t, n, f))) {z : Int} (hz : wq_in (wq_ak t) z) : wq_R kt (M.set (a - 256) (.inl (t, n, updV f j (wq_v (wq_ak t) z)))) T (wq_u H a j z) := by
  have h0 := h.2.2.1 a (.inl (t, n, f)) (by rw [mc_ce_hi ha]; exact he)
  obtain ⟨h1, h2, h3⟩ := h0
  refine h.set ha he (by simp [mc_es]) ⟨h1, h2, fun i hi => ?_⟩ (fun b hb => by funext i; exact wq_u_na hb i)
  by_cases hij : i = j
  · subst hij
    rw [wq_u_eq]
    exact ⟨by unfold updV; rw [if_pos rfl], hz⟩
  · rw [wq_u_ne (fun q => hij q.2)]
    have := h3 i hi
    exact ⟨by unfold updV; rw [if_neg hij]; exact this.1, this.2⟩
