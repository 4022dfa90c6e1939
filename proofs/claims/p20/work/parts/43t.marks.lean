/-! MARKS (own work): a bit for each LOT, 64 in a number; the reference's list -/
theorem wl_bit_or {x y s : Int} : wl_and (wl_shr (wl_or x y) s) 1 = wl_or (wl_and (wl_shr x s) 1) (wl_and (wl_shr y s) 1) := by
  unfold wl_and wl_shr wl_or
  rw [Int64.ofInt_toInt, Int64.ofInt_toInt, Int64.ofInt_toInt, Int64.ofInt_toInt, Int64.ofInt_toInt, Int64.ofInt_toInt]
  apply congrArg Int64.toInt
  apply Int64.toBitVec_inj.mp
  generalize ((Int32.ofInt s).toInt64 &&& 63) = k
  show ((Int64.ofInt x).toBitVec ||| (Int64.ofInt y).toBitVec).sshiftRight (k.toBitVec.smod 64).toNat &&& (Int64.ofInt 1).toBitVec = ((Int64.ofInt x).toBitVec.sshiftRight (k.toBitVec.smod 64).toNat &&& (Int64.ofInt 1).toBitVec) ||| ((Int64.ofInt y).toBitVec.sshiftRight (k.toBitVec.smod 64).toNat &&& (Int64.ofInt 1).toBitVec)
  rw [BitVec.sshiftRight_or_distrib, BitVec.and_or_distrib_right]
theorem wl_bit_1 : (List.range 64).all (fun j => (List.range 64).all (fun k => decide (wl_and (wl_shr (wl_shl 1 (k : Nat)) (j : Nat)) 1 = if j = k then 1 else 0))) = true := by decide +kernel
theorem wl_bit_b {x : Int} : wl_and x 1 = 0 ∨ wl_and x 1 = 1 := by
  have e : wl_and x 1 = ((Int64.ofInt x).toBitVec &&& (Int64.ofInt 1).toBitVec).toInt := rfl
  have hn : ((Int64.ofInt x).toBitVec &&& (Int64.ofInt 1).toBitVec).toNat = (Int64.ofInt x).toBitVec.toNat % 2 := by
    rw [BitVec.toNat_and]
    exact Nat.and_one_is_mod _
  have h2 := BitVec.toInt_eq_toNat_cond ((Int64.ofInt x).toBitVec &&& (Int64.ofInt 1).toBitVec)
  rw [hn] at h2
  rw [e, h2]
  split <;> omega
theorem wl_or_01 {x y : Int} (hx : x = 0 ∨ x = 1) (hy : y = 0 ∨ y = 1) : wl_or x y = if x = 1 ∨ y = 1 then 1 else 0 := by
  rcases hx with rfl | rfl <;> rcases hy with rfl | rfl <;> decide
/-- one bit is set -/
theorem wl_mark {W : Int} {j k : Nat} (hj : j < 64) (hk : k < 64) : wl_and (wl_shr (wl_or W (wl_shl 1 k)) j) 1 = if j = k then 1 else wl_and (wl_shr W j) 1 := by
  have h := of_decide_eq_true (List.all_eq_true.mp (List.all_eq_true.mp wl_bit_1 j (List.mem_range.mpr hj)) k (List.mem_range.mpr hk))
  have h0 := @wl_bit_b (wl_shr W j)
  rw [wl_bit_or, h]
  by_cases e : j = k
  · rw [if_pos e, if_pos e, wl_or_01 h0 (Or.inr rfl), if_pos (Or.inr rfl)]
  · rw [if_neg e, if_neg e, wl_or_01 h0 (Or.inl rfl)]
    rcases h0 with h0 | h0
    · rw [h0]
      rfl
    · rw [h0]
      rfl
