/-! FROM ONE LOT TO THE NEXT (own work) -/
section LOTS

variable {d : xD} {g g' : Nat → Int} {q c n v i : Int} {k h j m : Nat}
/-- what lies behind a person, of all LOTS -/
def xsT (d : xD) (k : Nat) : Int := xpr d k ((d 0 3).toNat - k)
theorem xlot_s {a : Int} : xlot d a k = a / xsT d (k + 1) % ((xsp d k).length : Int) := rfl
theorem xlot_b (hP : xdP d) (h0 : 0 ≤ n) (hl : 0 < xlots d) (hk : (k : Int) < d 0 3) : 0 ≤ xlot d n k ∧ xlot d n k < ((xsp d k).length : Int) := by
  have h1 := (xpr_pos hP hl hk).1
  rw [xlot_s]
  exact ⟨Int.emod_nonneg _ (by omega), Int.emod_lt_of_pos _ h1⟩
theorem SL_lot (hP : xdP d) (h0 : 0 ≤ n) (hl : 0 < xlots d) : SL d (xlot d n) := fun k hk => xlot_b hP h0 hl hk
end LOTS

section WCG

variable {T : wq_T} {H : wq_H} {w : Nat} {c c' : Int} {f f' : Nat → Int}
end WCG
