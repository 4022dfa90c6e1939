/-! STRIKES AS TALLIES (own work): four bits for each of twelve HOURS -/
theorem wL_toNat {x : Int} (h : 0 ≤ x) (h2 : x ≤ 9223372036854775807) : (Int64.ofInt x).toBitVec.toNat = x.toNat := by
  have h1 := wL_t (z := x) ⟨by omega, h2⟩
  have h3 : (Int64.ofInt x).toBitVec.toInt = x := h1
  rw [BitVec.toInt_eq_toNat_cond] at h3
  split at h3 <;> omega
theorem wl_or_n {x y : Int} (hx : 0 ≤ x ∧ x ≤ 9223372036854775807) (hy : 0 ≤ y ∧ y ≤ 9223372036854775807) : wl_or x y = ((x.toNat ||| y.toNat : Nat) : Int) := by
  have e : wl_or x y = ((Int64.ofInt x).toBitVec ||| (Int64.ofInt y).toBitVec).toInt := rfl
  have hn : ((Int64.ofInt x).toBitVec ||| (Int64.ofInt y).toBitVec).toNat = x.toNat ||| y.toNat := by rw [BitVec.toNat_or, wL_toNat hx.1 hx.2, wL_toNat hy.1 hy.2]
  have hb : x.toNat ||| y.toNat < 2 ^ 63 := Nat.or_lt_two_pow (by omega) (by omega)
  have h2 := BitVec.toInt_eq_toNat_cond ((Int64.ofInt x).toBitVec ||| (Int64.ofInt y).toBitVec)
  rw [hn] at h2
  rw [e, h2]
  split <;> omega
theorem shr_all : (List.range 24).all (fun n => decide (((Int32.ofInt (n : Int) &&& 31).toBitVec.smod 32).toNat = n)) = true := by decide +kernel
theorem wq_shr_n {x : Int} {n : Nat} (hx : 0 ≤ x ∧ x ≤ 2147483647) (hn : n < 24) : wq_shr x n = ((x.toNat / 2 ^ n : Nat) : Int) := by
  have e : wq_shr x n = ((Int32.ofInt x).toBitVec.sshiftRight' ((Int32.ofInt (n : Int) &&& 31).toBitVec.smod 32)).toInt := rfl
  have h1 := of_decide_eq_true (List.all_eq_true.mp shr_all n (List.mem_range.mpr hn))
  have h2 : (Int32.ofInt x).toBitVec.toInt = x := wI_t ⟨by omega, hx.2⟩
  rw [e, BitVec.toInt_sshiftRight', h1, h2, Int.shiftRight_eq_div_pow]
  rw [← Int.toNat_of_nonneg hx.1]
  rfl
theorem lsr_all : (List.range 12).all (fun n => decide ((((Int32.ofInt ((n : Int) * 4)).toInt64 &&& 63).toBitVec.smod 64).toNat = 4 * n)) = true := by decide +kernel
theorem wl_shr_n {x : Int} {n : Nat} (hx : 0 ≤ x ∧ x ≤ 9223372036854775807) (hn : n < 12) : wl_shr x ((n : Int) * 4) = ((x.toNat / 2 ^ (4 * n) : Nat) : Int) := by
  have e : wl_shr x ((n : Int) * 4) = ((Int64.ofInt x).toBitVec.sshiftRight' (((Int32.ofInt ((n : Int) * 4)).toInt64 &&& 63).toBitVec.smod 64)).toInt := rfl
  have h1 := of_decide_eq_true (List.all_eq_true.mp lsr_all n (List.mem_range.mpr hn))
  have h2 : (Int64.ofInt x).toBitVec.toInt = x := wL_t ⟨by omega, hx.2⟩
  rw [e, BitVec.toInt_sshiftRight', h1, h2, Int.shiftRight_eq_div_pow]
  rw [← Int.toNat_of_nonneg hx.1]
  rfl
/-- a bit -/
def hb (b : Int) (h : Nat) : Nat := b.toNat / 2 ^ h % 2
theorem hb_b {b : Int} {h : Nat} : hb b h ≤ 1 := by
  unfold hb
  omega
theorem hb_and {b : Int} {h : Nat} (hx : 0 ≤ b ∧ b ≤ 2147483647) (hh : h < 24) : wq_and (wq_shr b h) 1 = (hb b h : Int) := by
  have h2 : b.toNat / 2 ^ h ≤ b.toNat := Nat.div_le_self _ _
  rw [wq_shr_n hx hh]
  unfold hb
  generalize b.toNat / 2 ^ h = c at h2 ⊢
  rw [wq_and_n ⟨by omega, by omega⟩ ⟨by decide, by decide⟩, Int.toNat_natCast]
  show ((c &&& 1 : Nat) : Int) = ((c % 2 : Nat) : Int)
  rw [Nat.and_one_is_mod]
/-- twelve counts in one number -/
def tal (f : Nat → Nat) : Nat → Nat
  | 0 => 0
  | n + 1 => tal f n + f n * 2 ^ (4 * n)
