/-! FROM ONE LOT TO THE NEXT (own work) -/
section LOTS

variable {d : xD} {g g' : Nat → Int} {q c n v i : Int} {k h j m : Nat}
theorem dm_y (h0 : 0 ≤ q) (hc : 0 < c) (h : q % c + 1 < c) : (q + 1) / c = q / c ∧ (q + 1) % c = q % c + 1 := by
  have h1 := Int.emod_add_mul_ediv q c
  have h2 := Int.emod_nonneg q (b := c) (by omega)
  exact (Int.ediv_emod_unique hc).mpr ⟨by omega, by omega, h⟩
theorem dm_n (h0 : 0 ≤ q) (hc : 0 < c) (h : q % c + 1 = c) : (q + 1) / c = q / c + 1 ∧ (q + 1) % c = 0 := by
  have h1 := Int.emod_add_mul_ediv q c
  refine (Int.ediv_emod_unique hc).mpr ⟨?_, Int.le_refl _, hc⟩
  rw [Int.mul_add, Int.mul_one]
  omega
/-- what lies behind a person, of all LOTS -/
def xsT (d : xD) (k : Nat) : Int := xpr d k ((d 0 3).toNat - k)
theorem xsT_0 (hP : xdP d) : 0 ≤ xsT d k := (xpr_b hP _ _).1
theorem xsT_s (hk : (k : Int) < d 0 3) : xsT d k = ((xsp d k).length : Int) * xsT d (k + 1) := xpr_i hk
theorem xsT_e : xsT d (d 0 3).toNat = 1 := by
  unfold xsT
  rw [Nat.sub_self]
  rfl
theorem xlot_s {a : Int} : xlot d a k = a / xsT d (k + 1) % ((xsp d k).length : Int) := rfl
theorem xsT_d (hP : xdP d) (hk : (k : Int) < d 0 3) {a : Int} : a / xsT d k = a / xsT d (k + 1) / ((xsp d k).length : Int) := by
  rw [xsT_s hk, Int.ediv_ediv_of_nonneg (xsT_0 hP), Int.mul_comm]
/-- so far all wrapped round: one more is carried on -/
def xcy (d : xD) (n : Int) (i : Int) : Prop := (n + 1) / xsT d (i + 1).toNat = n / xsT d (i + 1).toNat + 1
theorem xcy_0 (hi : i = d 0 3 - 1) : xcy d n i := by
  unfold xcy
  rw [show (i + 1).toNat = (d 0 3).toNat by omega, xsT_e, Int.ediv_one, Int.ediv_one]
theorem xcy_y (hP : xdP d) (h0 : 0 ≤ n) (hi : 0 ≤ i) (h3 : i < d 0 3) (hc : xcy d n i) (hl : xlot d n i.toNat + 1 < ((xsp d i.toNat).length : Int)) : xlot d (n + 1) i.toNat = xlot d n i.toNat + 1 ∧ (n + 1) / xsT d i.toNat = n / xsT d i.toNat := by
  unfold xcy at hc
  rw [show (i + 1).toNat = i.toNat + 1 by omega] at hc
  have h1 : 0 ≤ n / xsT d (i.toNat + 1) := Int.ediv_nonneg h0 (xsT_0 hP)
  rw [xlot_s] at hl
  have h2 := Int.emod_nonneg (n / xsT d (i.toNat + 1)) (b := ((xsp d i.toNat).length : Int))
  have h4 : 0 < ((xsp d i.toNat).length : Int) := by
    by_cases e : ((xsp d i.toNat).length : Int) = 0
    · rw [e, Int.emod_zero] at hl
      omega
    · omega
  have h5 := dm_y h1 h4 hl
  rw [xlot_s, xlot_s, xsT_d (k := i.toNat) hP (by omega), xsT_d (k := i.toNat) hP (by omega), hc]
  exact ⟨h5.2, h5.1⟩
theorem xcy_n (hP : xdP d) (h0 : 0 ≤ n) (hi : 0 ≤ i) (h3 : i < d 0 3) (hc : xcy d n i) (hl : xlot d n i.toNat + 1 = ((xsp d i.toNat).length : Int)) : xlot d (n + 1) i.toNat = 0 ∧ xcy d n (i + (-1)) := by
  unfold xcy at hc ⊢
  rw [show (i + (-1) + 1).toNat = i.toNat by omega]
  rw [show (i + 1).toNat = i.toNat + 1 by omega] at hc
  have h1 : 0 ≤ n / xsT d (i.toNat + 1) := Int.ediv_nonneg h0 (xsT_0 hP)
  rw [xlot_s] at hl
  have h4 : 0 < ((xsp d i.toNat).length : Int) := by
    by_cases e : ((xsp d i.toNat).length : Int) = 0
    · rw [e, Int.emod_zero] at hl
      omega
    · omega
  have h5 := dm_n h1 h4 hl
  rw [xlot_s, xsT_d (k := i.toNat) hP (by omega), xsT_d (k := i.toNat) hP (by omega), hc]
  exact ⟨h5.2, h5.1⟩
/-- those ahead stay as they are -/
theorem xlot_up (hP : xdP d) : ∀ m k : Nat, ((k + m : Nat) : Int) ≤ d 0 3 → (n + 1) / xsT d (k + m) = n / xsT d (k + m) → (n + 1) / xsT d k = n / xsT d k
  | 0, k, _, h => h
  | m + 1, k, hk, h => by
    have h1 := xlot_up hP m (k + 1) (by omega) (by rw [show k + 1 + m = k + (m + 1) by omega]; exact h)
    rw [xsT_d (k := k) hP (by omega), xsT_d (k := k) hP (by omega), h1]
theorem xlot_a (hP : xdP d) (hi : 0 ≤ i) (h3 : i < d 0 3) (h : (n + 1) / xsT d i.toNat = n / xsT d i.toNat) (hk : (k : Int) < i) : xlot d (n + 1) k = xlot d n k := by
  have h1 := xlot_up (n := n) hP (i.toNat - (k + 1)) (k + 1) (by omega) (by rw [show k + 1 + (i.toNat - (k + 1)) = i.toNat by omega]; exact h)
  rw [xlot_s, xlot_s, h1]
theorem xlot_b (hP : xdP d) (h0 : 0 ≤ n) (hl : 0 < xlots d) (hk : (k : Int) < d 0 3) : 0 ≤ xlot d n k ∧ xlot d n k < ((xsp d k).length : Int) := by
  have h1 := (xpr_pos hP hl hk).1
  rw [xlot_s]
  exact ⟨Int.emod_nonneg _ (by omega), Int.emod_lt_of_pos _ h1⟩
theorem xlot_0 (hP : xdP d) : xlot d 0 k = 0 := by
  rw [xlot_s, Int.zero_ediv, Int.zero_emod]
theorem SL_lot (hP : xdP d) (h0 : 0 ≤ n) (hl : 0 < xlots d) : SL d (xlot d n) := fun k hk => xlot_b hP h0 hl hk
/-- what is counted of the first people hangs on their picks alone -/
theorem xwb_cg (e : g k = g' k) : xwb d g k = xwb d g' k ∧ xsb d g k = xsb d g' k := by
  unfold xwb xsb xpt
  rw [e]
  exact ⟨rfl, rfl⟩
theorem xct_cg : ∀ k : Nat, (∀ j, j < k → g j = g' j) → xct d g h k = xct d g' h k
  | 0, _ => rfl
  | k + 1, e => by
    show xct d g h k + hb (xwb d g k) h = xct d g' h k + hb (xwb d g' k) h
    rw [xct_cg k (fun j hj => e j (by omega)), (xwb_cg (e k (by omega))).1]
theorem xer_cg (e : ∀ j, j < k → g j = g' j) : xer d g k = xer d g' k := by
  unfold xer
  rw [tal_cg 12 (fun h _ => xct_cg k e)]
theorem xla_cg (e : ∀ j, j < k → g j = g' j) : xla d g k = xla d g' k := by
  unfold xla
  rw [tal_cg 12 (fun h _ => xct_cg (h := h + 12) k e)]
theorem xfl_cg : ∀ k : Nat, (∀ j, j < k → g j = g' j) → xfl d g k = xfl d g' k
  | 0, _ => rfl
  | k + 1, e => by
    show wq_or (xfl d g k) (xwb d g k) = wq_or (xfl d g' k) (xwb d g' k)
    rw [xfl_cg k (fun j hj => e j (by omega)), (xwb_cg (e k (by omega))).1]
theorem xqo_cg {i : Nat} (ei : g i = g' i) : ∀ k : Nat, (∀ j, j < k → g j = g' j) → xqo d g i k = xqo d g' i k
  | 0, _ => rfl
  | k + 1, e => by
    show (if xagf d i k (d 0 4).toNat = 0 then xqo d g i k else wq_or (xqo d g i k) (wq_and (xsb d g i) (xsb d g k))) = (if xagf d i k (d 0 4).toNat = 0 then xqo d g' i k else wq_or (xqo d g' i k) (wq_and (xsb d g' i) (xsb d g' k)))
    rw [xqo_cg ei k (fun j hj => e j (by omega)), (xwb_cg ei).2, (xwb_cg (e k (by omega))).2]
theorem xqu_cg : ∀ k : Nat, (∀ j, j < k → g j = g' j) → xqu d g k = xqu d g' k
  | 0, _ => rfl
  | k + 1, e => by
    show wq_or (xqu d g k) (xqo d g k k) = wq_or (xqu d g' k) (xqo d g' k k)
    rw [xqu_cg k (fun j hj => e j (by omega)), xqo_cg (e k (by omega)) k (fun j hj => e j (by omega))]
end LOTS

section WCG

variable {T : wq_T} {H : wq_H} {w : Nat} {c c' : Int} {f f' : Nat → Int}
theorem DA_cut {S tg r : Nat} (h : DA S tg T H r c f) (hc : c' ≤ c) (e : ∀ k : Nat, (k : Int) < c' → f k = f' k) : DA S tg T H r c' f' := by
  obtain ⟨b, h1, h2, h3⟩ := h
  exact ⟨b, h1, h2, fun k hk => (h3 k (by omega)).trans (e k hk)⟩
end WCG
