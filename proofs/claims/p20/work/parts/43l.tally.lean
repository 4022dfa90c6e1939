/-! STRIKES AS TALLIES (own work): four bits for each of twelve HOURS -/
theorem wL_toNat {x : Int} (h : 0 ≤ x) (h2 : x ≤ 9223372036854775807) : (Int64.ofInt x).toBitVec.toNat = x.toNat := by
  have h1 := wL_t (z := x) ⟨by omega, h2⟩
  have h3 : (Int64.ofInt x).toBitVec.toInt = x := h1
  rw [BitVec.toInt_eq_toNat_cond] at h3
  split at h3 <;> omega
theorem wl_and_n {x y : Int} (hx : 0 ≤ x ∧ x ≤ 9223372036854775807) (hy : 0 ≤ y ∧ y ≤ 9223372036854775807) : wl_and x y = ((x.toNat &&& y.toNat : Nat) : Int) := by
  have e : wl_and x y = ((Int64.ofInt x).toBitVec &&& (Int64.ofInt y).toBitVec).toInt := rfl
  have hn : ((Int64.ofInt x).toBitVec &&& (Int64.ofInt y).toBitVec).toNat = x.toNat &&& y.toNat := by rw [BitVec.toNat_and, wL_toNat hx.1 hx.2, wL_toNat hy.1 hy.2]
  have hb : x.toNat &&& y.toNat ≤ y.toNat := Nat.and_le_right
  have h2 := BitVec.toInt_eq_toNat_cond ((Int64.ofInt x).toBitVec &&& (Int64.ofInt y).toBitVec)
  rw [hn] at h2
  rw [e, h2]
  split <;> omega
theorem wl_or_n {x y : Int} (hx : 0 ≤ x ∧ x ≤ 9223372036854775807) (hy : 0 ≤ y ∧ y ≤ 9223372036854775807) : wl_or x y = ((x.toNat ||| y.toNat : Nat) : Int) := by
  have e : wl_or x y = ((Int64.ofInt x).toBitVec ||| (Int64.ofInt y).toBitVec).toInt := rfl
  have hn : ((Int64.ofInt x).toBitVec ||| (Int64.ofInt y).toBitVec).toNat = x.toNat ||| y.toNat := by rw [BitVec.toNat_or, wL_toNat hx.1 hx.2, wL_toNat hy.1 hy.2]
  have hb : x.toNat ||| y.toNat < 2 ^ 63 := Nat.or_lt_two_pow (by omega) (by omega)
  have h2 := BitVec.toInt_eq_toNat_cond ((Int64.ofInt x).toBitVec ||| (Int64.ofInt y).toBitVec)
  rw [hn] at h2
  rw [e, h2]
  split <;> omega
theorem shr_all : (List.range 24).all (fun n => decide (((Int32.ofInt (n : Int) &&& 31).toBitVec.smod 32).toNat = n)) = true := by decide +kernel
theorem wq_shr_n {x : Int} {n : Nat} (hx : 0 ≤ x ∧ x ≤ 2147483647) (hn : n < 24) : wq_shr x n = ((x.toNat / 2 ^ n : Nat) : Int) := by
  have e : wq_shr x n = ((Int32.ofInt x).toBitVec.sshiftRight' ((Int32.ofInt (n : Int) &&& 31).toBitVec.smod 32)).toInt := rfl
  have h1 := of_decide_eq_true (List.all_eq_true.mp shr_all n (List.mem_range.mpr hn))
  have h2 : (Int32.ofInt x).toBitVec.toInt = x := wI_t ⟨by omega, hx.2⟩
  rw [e, BitVec.toInt_sshiftRight', h1, h2, Int.shiftRight_eq_div_pow]
  rw [← Int.toNat_of_nonneg hx.1]
  rfl
theorem lsr_all : (List.range 12).all (fun n => decide ((((Int32.ofInt ((n : Int) * 4)).toInt64 &&& 63).toBitVec.smod 64).toNat = 4 * n)) = true := by decide +kernel
theorem wl_shr_n {x : Int} {n : Nat} (hx : 0 ≤ x ∧ x ≤ 9223372036854775807) (hn : n < 12) : wl_shr x ((n : Int) * 4) = ((x.toNat / 2 ^ (4 * n) : Nat) : Int) := by
  have e : wl_shr x ((n : Int) * 4) = ((Int64.ofInt x).toBitVec.sshiftRight' (((Int32.ofInt ((n : Int) * 4)).toInt64 &&& 63).toBitVec.smod 64)).toInt := rfl
  have h1 := of_decide_eq_true (List.all_eq_true.mp lsr_all n (List.mem_range.mpr hn))
  have h2 : (Int64.ofInt x).toBitVec.toInt = x := wL_t ⟨by omega, hx.2⟩
  rw [e, BitVec.toInt_sshiftRight', h1, h2, Int.shiftRight_eq_div_pow]
  rw [← Int.toNat_of_nonneg hx.1]
  rfl
theorem lsl_all : (List.range 12).all (fun n => decide (wl_shl 0 ((n : Int) * 4) = 0) && decide (wl_shl 1 ((n : Int) * 4) = ((2 ^ (4 * n) : Nat) : Int))) = true := by decide +kernel
/-- a bit -/
def hb (b : Int) (h : Nat) : Nat := b.toNat / 2 ^ h % 2
theorem hb_b {b : Int} {h : Nat} : hb b h ≤ 1 := by
  unfold hb
  omega
theorem hb_and {b : Int} {h : Nat} (hx : 0 ≤ b ∧ b ≤ 2147483647) (hh : h < 24) : wq_and (wq_shr b h) 1 = (hb b h : Int) := by
  have h2 : b.toNat / 2 ^ h ≤ b.toNat := Nat.div_le_self _ _
  rw [wq_shr_n hx hh]
  unfold hb
  generalize b.toNat / 2 ^ h = c at h2 ⊢
  rw [wq_and_n ⟨by omega, by omega⟩ ⟨by decide, by decide⟩, Int.toNat_natCast]
  show ((c &&& 1 : Nat) : Int) = ((c % 2 : Nat) : Int)
  rw [Nat.and_one_is_mod]
theorem hb_land {b : Int} {h : Nat} (hx : 0 ≤ b ∧ b ≤ 2147483647) (hh : h < 24) : wl_and (wq_shr b h) 1 = (hb b h : Int) := by
  have h2 : b.toNat / 2 ^ h ≤ b.toNat := Nat.div_le_self _ _
  rw [wq_shr_n hx hh]
  unfold hb
  generalize b.toNat / 2 ^ h = c at h2 ⊢
  rw [wl_and_n ⟨by omega, by omega⟩ ⟨by decide, by decide⟩, Int.toNat_natCast]
  show ((c &&& 1 : Nat) : Int) = ((c % 2 : Nat) : Int)
  rw [Nat.and_one_is_mod]
/-- twelve counts in one number -/
def tal (f : Nat → Nat) : Nat → Nat
  | 0 => 0
  | n + 1 => tal f n + f n * 2 ^ (4 * n)
theorem tal_p {n : Nat} : (2 : Nat) ^ (4 * (n + 1)) = 2 ^ (4 * n) * 16 := by
  rw [show 4 * (n + 1) = 4 * n + 4 by omega, Nat.pow_add]
theorem tal_b {f : Nat → Nat} : ∀ n : Nat, (∀ h, h < n → f h ≤ 15) → tal f n < 2 ^ (4 * n)
  | 0, _ => by
    show 0 < 2 ^ 0
    decide
  | n + 1, h => by
    have h1 := tal_b n (fun j hj => h j (by omega))
    have h2 := h n (by omega)
    have h3 : f n * 2 ^ (4 * n) ≤ 15 * 2 ^ (4 * n) := Nat.mul_le_mul_right _ h2
    show tal f n + f n * 2 ^ (4 * n) < _
    rw [tal_p]
    omega
theorem tal_add {f g : Nat → Nat} : ∀ n : Nat, tal f n + tal g n = tal (fun h => f h + g h) n
  | 0 => rfl
  | n + 1 => by
    have h1 := tal_add n (f := f) (g := g)
    show tal f n + f n * 2 ^ (4 * n) + (tal g n + g n * 2 ^ (4 * n)) = tal (fun h => f h + g h) n + (f n + g n) * 2 ^ (4 * n)
    rw [← h1, Nat.add_mul]
    omega
theorem tal_cg {f g : Nat → Nat} : ∀ n : Nat, (∀ h, h < n → f h = g h) → tal f n = tal g n
  | 0, _ => rfl
  | n + 1, h => by
    show tal f n + f n * 2 ^ (4 * n) = tal g n + g n * 2 ^ (4 * n)
    rw [tal_cg n (fun j hj => h j (by omega)), h n (by omega)]
theorem tal_0 : ∀ n : Nat, tal (fun _ => 0) n = 0
  | 0 => rfl
  | n + 1 => by
    show tal (fun _ => 0) n + 0 * 2 ^ (4 * n) = 0
    rw [tal_0 n]
    omega
theorem tal_r {f : Nat → Nat} {p : Nat} : ∀ m : Nat, ∃ r, tal f (p + 1 + m) = tal f p + f p * 2 ^ (4 * p) + 2 ^ (4 * p) * (16 * r)
  | 0 => ⟨0, by
    show tal f p + f p * 2 ^ (4 * p) = _
    omega⟩
  | m + 1 => by
    obtain ⟨r, h⟩ := tal_r m (f := f) (p := p)
    refine ⟨r + f (p + 1 + m) * 2 ^ (4 * m), ?_⟩
    show tal f (p + 1 + m) + f (p + 1 + m) * 2 ^ (4 * (p + 1 + m)) = _
    rw [h, show 4 * (p + 1 + m) = 4 * p + 4 + 4 * m by omega, Nat.pow_add, Nat.pow_add, Nat.mul_add 16, Nat.mul_add (2 ^ (4 * p))]
    rw [show f (p + 1 + m) * (2 ^ (4 * p) * 2 ^ 4 * 2 ^ (4 * m)) = 2 ^ (4 * p) * (16 * (f (p + 1 + m) * 2 ^ (4 * m))) by
      rw [show (2 : Nat) ^ 4 = 16 from rfl, Nat.mul_assoc (2 ^ (4 * p)), Nat.mul_left_comm, Nat.mul_left_comm (f (p + 1 + m)) 16]]
    omega
/-- one of them again -/
theorem tal_at {f : Nat → Nat} {p : Nat} (hp : p < 12) (h : ∀ j, j < 12 → f j ≤ 15) : tal f 12 / 2 ^ (4 * p) % 16 = f p := by
  obtain ⟨r, e⟩ := tal_r (11 - p) (f := f) (p := p)
  rw [show p + 1 + (11 - p) = 12 by omega] at e
  have h1 := tal_b p (fun j hj => h j (by omega)) (f := f)
  have h2 := h p hp
  have h3 : tal f 12 = tal f p + 2 ^ (4 * p) * (f p + 16 * r) := by
    rw [e, Nat.mul_add, Nat.mul_comm (f p)]
    omega
  rw [h3, Nat.add_mul_div_left _ _ (Nat.two_pow_pos _), Nat.div_eq_of_lt h1]
  omega
theorem xtal_e {b : Int} (hx : 0 ≤ b ∧ b ≤ 2147483647) : ∀ n : Nat, n ≤ 12 → xtal b n = (tal (hb b) n : Int)
  | 0, _ => rfl
  | n + 1, h => by
    have h1 := xtal_e hx n (by omega)
    have h2 := tal_b n (fun j _ => Nat.le_trans (@hb_b b j) (by decide)) (f := hb b)
    have h3 : (2 : Nat) ^ (4 * n) ≤ 2 ^ 44 := Nat.pow_le_pow_right (by decide) (by omega)
    have h4 : (2 : Nat) ^ 44 = 17592186044416 := by decide
    have h5 := List.all_eq_true.mp lsl_all n (List.mem_range.mpr (by omega))
    rw [Bool.and_eq_true, decide_eq_true_eq, decide_eq_true_eq] at h5
    show wl_or (xtal b n) (wl_shl (wl_and (wq_shr b n) 1) ((n : Int) * 4)) = ((tal (hb b) n + hb b n * 2 ^ (4 * n) : Nat) : Int)
    rw [hb_land hx (by omega), h1]
    have h6 := @hb_b b n
    by_cases c : hb b n = 0
    · rw [c, show ((0 : Nat) : Int) = 0 from rfl, h5.1, wl_or_n ⟨by omega, by omega⟩ ⟨by decide, by decide⟩, Int.toNat_natCast]
      show ((tal (hb b) n ||| 0 : Nat) : Int) = _
      rw [Nat.or_zero]
      omega
    · rw [show hb b n = 1 by omega, show ((1 : Nat) : Int) = 1 from rfl, h5.2, wl_or_n ⟨by omega, by omega⟩ ⟨by omega, by omega⟩, Int.toNat_natCast, Int.toNat_natCast]
      have h7 := Nat.two_pow_add_eq_or_of_lt h2 1
      rw [Nat.mul_one] at h7
      rw [Nat.or_comm, ← h7]
      omega
theorem and15 {V : Int} (h : 0 ≤ V) : wq_and (wq_w V) 15 = ((V.toNat % 16 : Nat) : Int) := by
  have e : wq_and (wq_w V) 15 = ((Int32.ofInt (wq_w V)).toBitVec &&& (Int32.ofInt 15).toBitVec).toInt := rfl
  have e1 : Int32.ofInt (wq_w V) = Int32.ofInt V := by
    unfold wq_w
    rw [Int32.ofInt_toInt]
  have e2 : (Int32.ofInt V).toBitVec = BitVec.ofInt 32 V := rfl
  have hn : ((Int32.ofInt (wq_w V)).toBitVec &&& (Int32.ofInt 15).toBitVec).toNat = V.toNat % 16 := by
    rw [e1, BitVec.toNat_and, wI_toNat (x := 15) (by decide) (by decide), e2, BitVec.toNat_ofInt]
    show ((V % ((2 ^ 32 : Nat) : Int)).toNat &&& 2 ^ 4 - 1) = _
    rw [Nat.and_two_pow_sub_one_eq_mod]
    omega
  have h2 := BitVec.toInt_eq_toNat_cond ((Int32.ofInt (wq_w V)).toBitVec &&& (Int32.ofInt 15).toBitVec)
  rw [hn] at h2
  rw [e, h2]
  split <;> omega
/-- a tally's HOUR -/
theorem tal_due {f : Nat → Nat} {p : Nat} {V : Int} (hp : p < 12) (h : ∀ j, j < 12 → f j ≤ 15) (e : V = (tal f 12 : Int)) : wq_and (wq_w (wl_shr V ((p : Int) * 4))) 15 = (f p : Int) := by
  have h1 := tal_b 12 h
  have h4 : (2 : Nat) ^ (4 * 12) = 281474976710656 := by decide
  rw [e, wl_shr_n ⟨by omega, by omega⟩ hp, Int.toNat_natCast, and15 (Int.natCast_nonneg _), Int.toNat_natCast, tal_at hp h]
