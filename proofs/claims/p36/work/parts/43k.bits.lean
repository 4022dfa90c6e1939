/-! BITS AS NUMBERS (own work) -/
theorem wq_and_n {x y : Int} (hx : 0 ≤ x ∧ x ≤ 2147483647) (hy : 0 ≤ y ∧ y ≤ 2147483647) : wq_and x y = ((x.toNat &&& y.toNat : Nat) : Int) := by
  have e : wq_and x y = ((Int32.ofInt x).toBitVec &&& (Int32.ofInt y).toBitVec).toInt := rfl
  have hn : ((Int32.ofInt x).toBitVec &&& (Int32.ofInt y).toBitVec).toNat = x.toNat &&& y.toNat := by rw [BitVec.toNat_and, wI_toNat hx.1 hx.2, wI_toNat hy.1 hy.2]
  have hb : x.toNat &&& y.toNat ≤ y.toNat := Nat.and_le_right
  have h2 := BitVec.toInt_eq_toNat_cond ((Int32.ofInt x).toBitVec &&& (Int32.ofInt y).toBitVec)
  rw [hn] at h2
  rw [e, h2]
  split <;> omega
theorem wq_or_n {x y : Int} (hx : 0 ≤ x ∧ x ≤ 2147483647) (hy : 0 ≤ y ∧ y ≤ 2147483647) : wq_or x y = ((x.toNat ||| y.toNat : Nat) : Int) := by
  have e : wq_or x y = ((Int32.ofInt x).toBitVec ||| (Int32.ofInt y).toBitVec).toInt := rfl
  have hn : ((Int32.ofInt x).toBitVec ||| (Int32.ofInt y).toBitVec).toNat = x.toNat ||| y.toNat := by rw [BitVec.toNat_or, wI_toNat hx.1 hx.2, wI_toNat hy.1 hy.2]
  have hb : x.toNat ||| y.toNat < 2 ^ 31 := Nat.or_lt_two_pow (by omega) (by omega)
  have h2 := BitVec.toInt_eq_toNat_cond ((Int32.ofInt x).toBitVec ||| (Int32.ofInt y).toBitVec)
  rw [hn] at h2
  rw [e, h2]
  split <;> omega
/-- how many bits are set -/
def nbf : Nat → Nat → Nat
  | 0, _ => 0
  | f + 1, x => x % 2 + nbf f (x / 2)
theorem nbf_0 : ∀ f, nbf f 0 = 0
  | 0 => rfl
  | f + 1 => by
    show 0 % 2 + nbf f (0 / 2) = 0
    rw [show (0 : Nat) / 2 = 0 from rfl, nbf_0 f]
theorem nbf_a : ∀ (n f y : Nat), n < f → y < 2 ^ n → nbf f (y + 2 ^ n) = nbf f y + 1
  | _, 0, _, h, _ => by omega
  | 0, f + 1, y, _, h => by
    have h1 : y = 0 := by
      have : (2 : Nat) ^ 0 = 1 := rfl
      omega
    subst h1
    show 1 + nbf f 0 = 0 + nbf f 0 + 1
    omega
  | n + 1, f + 1, y, hf, h => by
    have hp : (2 : Nat) ^ (n + 1) = 2 ^ n * 2 := Nat.pow_succ 2 n
    have h1 := nbf_a n f (y / 2) (by omega) (by omega)
    show (y + 2 ^ (n + 1)) % 2 + nbf f ((y + 2 ^ (n + 1)) / 2) = y % 2 + nbf f (y / 2) + 1
    rw [show (y + 2 ^ (n + 1)) % 2 = y % 2 by omega, show (y + 2 ^ (n + 1)) / 2 = y / 2 + 2 ^ n by omega, h1]
    omega
def xon (P : Nat → Bool) : Nat → Nat
  | 0 => 0
  | n + 1 => if P n = true then xon P n + 2 ^ n else xon P n
theorem shl_all : (List.range 24).all (fun n => decide (wq_shl 1 n = ((2 ^ n : Nat) : Int))) = true := by decide +kernel
theorem xon_b {P : Nat → Bool} : ∀ n : Nat, xon P n < 2 ^ n
  | 0 => by
    show 0 < 2 ^ 0
    decide
  | n + 1 => by
    have h := xon_b n (P := P)
    have hp : (2 : Nat) ^ (n + 1) = 2 ^ n * 2 := Nat.pow_succ 2 n
    show (if P n = true then xon P n + 2 ^ n else xon P n) < _
    split <;> omega
theorem xob_on {P : Nat → Bool} : ∀ n : Nat, n ≤ 24 → xob P n = (xon P n : Int)
  | 0, _ => rfl
  | n + 1, h => by
    have h1 := xob_on n (by omega) (P := P)
    have h2 := xon_b n (P := P)
    have h3 : (2 : Nat) ^ n ≤ 2 ^ 23 := Nat.pow_le_pow_right (by decide) (by omega)
    have h4 : (2 : Nat) ^ 23 = 8388608 := by decide
    have h5 := of_decide_eq_true (List.all_eq_true.mp shl_all n (List.mem_range.mpr (by omega)))
    show (if P n = true then wq_or (xob P n) (wq_shl 1 n) else xob P n) = ((if P n = true then xon P n + 2 ^ n else xon P n : Nat) : Int)
    by_cases c : P n = true
    · rw [if_pos c, if_pos c, h1, h5, wq_or_n ⟨by omega, by omega⟩ ⟨by omega, by omega⟩]
      have h6 := Nat.two_pow_add_eq_or_of_lt h2 1
      rw [Nat.mul_one] at h6
      rw [Int.toNat_natCast, Int.toNat_natCast, Nat.or_comm, ← h6, Nat.add_comm]
    · rw [if_neg c, if_neg c]
      exact h1
theorem xon_nb {f : Nat → Int} : ∀ n : Nat, n ≤ 24 → ((nbf 24 (xon (fun h => decide (f h > 0)) n) : Nat) : Int) = xcn f n
  | 0, _ => by
    show ((nbf 24 0 : Nat) : Int) = 0
    rw [nbf_0]
    rfl
  | n + 1, h => by
    have h1 := xon_nb n (by omega) (f := f)
    show ((nbf 24 (if decide (f n > 0) = true then xon (fun h => decide (f h > 0)) n + 2 ^ n else xon (fun h => decide (f h > 0)) n) : Nat) : Int) = xcn f n + (if f n > 0 then 1 else 0)
    by_cases c : f n > 0
    · rw [if_pos (decide_eq_true c), if_pos c, nbf_a n 24 _ (by omega) (xon_b n)]
      omega
    · rw [if_neg (by rw [decide_eq_false c]; decide), if_neg c]
      omega
theorem xob_bits {f : Nat → Int} : ((nbf 24 (xob (fun h => decide (f h > 0)) 24).toNat : Nat) : Int) = xcn f 24 := by
  rw [xob_on 24 (Nat.le_refl _), Int.toNat_natCast]
  exact xon_nb 24 (Nat.le_refl _)
