/-! THE FEWEST WATCHES (own work) -/
theorem xhf_b {a b : Int} : ∀ n : Nat, 0 ≤ xhf a b n ∧ xhf a b n + 1 ≤ 2 ^ n
  | 0 => ⟨Int.le_refl _, by show (0 : Int) + 1 ≤ 2 ^ 0; decide⟩
  | n + 1 => by
    have h := @xhf_b a b n
    have h2 : (0 : Int) ≤ 2 ^ n := Int.le_of_lt (Int.pow_pos (by decide))
    show 0 ≤ xhf a b n + (if a ≤ n ∧ (n : Int) < b then 2 ^ n else 0) ∧ xhf a b n + (if a ≤ n ∧ (n : Int) < b then 2 ^ n else 0) + 1 ≤ 2 ^ (n + 1)
    rw [Int.pow_succ]
    split <;> omega
theorem xhs_b {a b : Int} : 0 ≤ xhs a b ∧ xhs a b ≤ 16777215 := by
  have h := @xhf_b a b 24
  have e : (2 : Int) ^ 24 = 16777216 := by decide
  unfold xhs
  omega
def xho (f : Nat → Int) (S : Int) : Nat → Int
  | 0 => 0
  | n + 1 => if wq_and (wq_shr S n) 1 = 0 then xho f S n else wq_or (xho f S n) (f n)
theorem bv_an {x y : BitVec 32} (h : x &&& (y ^^^ BitVec.allOnes 32) = 0#32) : y &&& x = x := by
  apply BitVec.eq_of_getLsbD_eq
  intro i hi
  have h1 := congrArg (fun v => BitVec.getLsbD v i) h
  simp only [BitVec.getLsbD_and, BitVec.getLsbD_xor, BitVec.getLsbD_allOnes, BitVec.getLsbD_zero, decide_eq_true hi] at h1 ⊢
  revert h1
  cases x.getLsbD i <;> cases y.getLsbD i <;> decide
theorem bv_na {x y : BitVec 32} (h : y &&& x = x) : x &&& (y ^^^ BitVec.allOnes 32) = 0#32 := by
  apply BitVec.eq_of_getLsbD_eq
  intro i hi
  have h1 := congrArg (fun v => BitVec.getLsbD v i) h
  simp only [BitVec.getLsbD_and, BitVec.getLsbD_xor, BitVec.getLsbD_allOnes, BitVec.getLsbD_zero, decide_eq_true hi] at h1 ⊢
  revert h1
  cases x.getLsbD i <;> cases y.getLsbD i <;> decide
theorem i32_inj {x y : Int32} (h : x.toInt = y.toInt) : x = y := by
  rw [← Int32.ofInt_toInt x, ← Int32.ofInt_toInt y, h]
theorem wq_and_or {x y a : Int} : wq_and (wq_or x y) a = wq_or (wq_and x a) (wq_and y a) := by
  unfold wq_and wq_or
  rw [Int32.ofInt_toInt, Int32.ofInt_toInt, Int32.ofInt_toInt]
  exact congrArg Int32.toInt (Int32.toBitVec_inj.mp (BitVec.and_or_distrib_right : ((Int32.ofInt x).toBitVec ||| (Int32.ofInt y).toBitVec) &&& (Int32.ofInt a).toBitVec = _))
theorem wq_an {a y : Int} (ha : -2147483648 ≤ a ∧ a ≤ 2147483647) : wq_and a (wq_xor y (-1)) = 0 ↔ wq_and y a = a := by
  have e1 : wq_and a (wq_xor y (-1)) = (Int32.ofInt a &&& (Int32.ofInt y ^^^ Int32.ofInt (-1))).toInt := by
    unfold wq_and wq_xor
    rw [Int32.ofInt_toInt]
  have e2 : (Int32.ofInt a).toInt = a := Int32.toInt_ofInt_of_le ha.1 (by omega)
  have m1 : (Int32.ofInt (-1)).toBitVec = BitVec.allOnes 32 := by decide
  rw [e1]
  constructor
  · intro h
    have h1 : (Int32.ofInt a &&& (Int32.ofInt y ^^^ Int32.ofInt (-1))) = 0 := i32_inj (h.trans (by decide))
    have h2 : (Int32.ofInt a).toBitVec &&& ((Int32.ofInt y).toBitVec ^^^ BitVec.allOnes 32) = 0#32 := by
      rw [← m1]
      exact congrArg Int32.toBitVec h1
    have h3 : Int32.ofInt y &&& Int32.ofInt a = Int32.ofInt a := Int32.toBitVec_inj.mp (bv_an h2)
    show (Int32.ofInt y &&& Int32.ofInt a).toInt = a
    rw [h3, e2]
  · intro h
    have h1 : Int32.ofInt y &&& Int32.ofInt a = Int32.ofInt a := i32_inj (show (Int32.ofInt y &&& Int32.ofInt a).toInt = (Int32.ofInt a).toInt from h.trans e2.symm)
    have h2 := bv_na (show (Int32.ofInt y).toBitVec &&& (Int32.ofInt a).toBitVec = (Int32.ofInt a).toBitVec from congrArg Int32.toBitVec h1)
    rw [← m1] at h2
    have h3 : (Int32.ofInt a &&& (Int32.ofInt y ^^^ Int32.ofInt (-1))) = 0 := Int32.toBitVec_inj.mp h2
    rw [h3]
    decide
section XHO

variable {f g : Nat → Int} {S a v i : Int} {n : Nat}
theorem xho_y (h : 0 ≤ i) (hp : wq_and (wq_shr S i) 1 ≠ 0) : xho f S (i + 1).toNat = wq_or (xho f S i.toNat) (f i.toNat) := by
  rw [show (i + 1).toNat = i.toNat + 1 by omega]
  show (if wq_and (wq_shr S (i.toNat : Nat)) 1 = 0 then xho f S i.toNat else wq_or (xho f S i.toNat) (f i.toNat)) = _
  rw [Int.toNat_of_nonneg h, if_neg hp]
theorem xho_n (h : 0 ≤ i) (hp : wq_and (wq_shr S i) 1 = 0) : xho f S (i + 1).toNat = xho f S i.toNat := by
  rw [show (i + 1).toNat = i.toNat + 1 by omega]
  show (if wq_and (wq_shr S (i.toNat : Nat)) 1 = 0 then xho f S i.toNat else wq_or (xho f S i.toNat) (f i.toNat)) = _
  rw [Int.toNat_of_nonneg h, if_pos hp]
theorem xho_m : ∀ n : Nat, (n : Int) ≤ v → xho (xmk f a v) S n = wq_and (xho f S n) a
  | 0, _ => by
    show (0 : Int) = wq_and 0 a
    unfold wq_and
    rw [show Int32.ofInt 0 = 0 from rfl, Int32.zero_and]
    rfl
  | n + 1, h => by
    show (if wq_and (wq_shr S n) 1 = 0 then xho (xmk f a v) S n else wq_or (xho (xmk f a v) S n) (xmk f a v n)) = wq_and (if wq_and (wq_shr S n) 1 = 0 then xho f S n else wq_or (xho f S n) (f n)) a
    rw [xho_m n (by omega)]
    split
    · rfl
    · rw [wq_and_or]
      unfold xmk
      rw [if_pos (by omega)]
end XHO
/-- the sets of offers by which all HOURS are watched; which of two comes first -/
def xhK (d : xD) (S : Int) : Prop := xho (d 16) S (d 0 7).toNat = xal d
def xhT (d : xD) (S : Int) : Prop := 0 ≤ S ∧ S < 2 ^ (d 0 7).toNat
def nbS (S : Int) : Nat := nbf 24 S.toNat
def xhL (x y : Int) : Prop := nbS x < nbS y ∨ (nbS x = nbS y ∧ x ≤ y)
/-- x is what KEEP answers -/
def xhA (d : xD) (x : Int) : Prop := (x = -2 ∧ ∀ S, xhT d S → ¬ xhK d S) ∨ (xhT d x ∧ xhK d x ∧ ∀ S, xhT d S → xhK d S → xhL x S)
theorem xhA_z {d : xD} {x y : Int} (h : x = y) (k : xhA d y) : xhA d x := by
  rw [h]
  exact k
/-- the class's loops: so many, and from which set on -/
def xhC (d : xD) (m b : Int) : Prop := ∀ S, xhT d S → 0 < S → ((nbS S : Int) < m ∨ ((nbS S : Int) = m ∧ S < b)) → ¬ xhK d S
theorem nbS_6 {S : Int} {n : Nat} (hn : n ≤ 6) (h0 : 0 ≤ S) (h : S < 2 ^ n) : nbS S ≤ n ∧ (0 < S → 0 < nbS S) := by
  have all : (List.range 7).all (fun n => (List.range (2 ^ n)).all (fun x => decide (nbf 24 x ≤ n ∧ (0 < x → 0 < nbf 24 x)))) = true := by decide +kernel
  have a := List.all_eq_true.mp all n (List.mem_range.mpr (by omega))
  have e : ((2 ^ n : Nat) : Int) = 2 ^ n := Int.natCast_pow 2 n
  have b := of_decide_eq_true (List.all_eq_true.mp a S.toNat (List.mem_range.mpr (by omega)))
  unfold nbS
  exact ⟨b.1, fun h => b.2 (by omega)⟩
theorem shl1_6 {n : Int} (h : 0 ≤ n ∧ n ≤ 6) : wq_shl 1 n = 2 ^ n.toNat := by
  have all : (List.range 7).all (fun n => decide (wq_shl 1 (n : Int) = 2 ^ n)) = true := by decide +kernel
  have q := of_decide_eq_true (List.all_eq_true.mp all n.toNat (List.mem_range.mpr (by omega)))
  rw [Int.toNat_of_nonneg h.1] at q
  exact q
theorem p2_6 {n : Nat} : (1 : Int) ≤ 2 ^ n := by
  have h : ((2 ^ n : Nat) : Int) = 2 ^ n := Int.natCast_pow 2 n
  have := Nat.two_pow_pos n
  omega
section XHC

variable {d : xD} {m b x S : Int}
theorem xhC_0 (h7 : 0 ≤ d 0 7 ∧ d 0 7 ≤ 6) : xhC d 1 1 := fun S hS h1 h2 => by
  have := @nbS_6 S (d 0 7).toNat (by omega) hS.1 hS.2
  omega
theorem xhC_n (h : xhC d m b) (hb : (nbS b : Int) ≠ m ∨ ¬ xhK d b) : xhC d m (b + 1) := fun S hS h1 h2 => by
  by_cases e : S = b
  · subst e
    rcases hb with hb | hb
    · rcases h2 with h2 | h2
      · exact h S hS h1 (Or.inl h2)
      · exact absurd h2.1 hb
    · exact hb
  · refine h S hS h1 ?_
    omega
theorem xhC_o (h : xhC d m b) (hb : 2 ^ (d 0 7).toNat ≤ b) : xhC d (m + 1) 1 := fun S hS h1 h2 => by
  refine h S hS h1 ?_
  have := hS.2
  omega
theorem xhC_r (h : xhC d m b) (hT : xhT d b) (hm : (nbS b : Int) = m) (hk : xhK d b) (hz : ¬ xhK d 0) : xhA d b := by
  refine Or.inr ⟨hT, hk, fun S hS hK => ?_⟩
  by_cases h0 : 0 < S
  · have h1 := h S hS h0
    unfold xhL
    by_cases c : (nbS S : Int) < m ∨ ((nbS S : Int) = m ∧ S < b)
    · exact absurd hK (h1 c)
    · omega
  · have : S = 0 := by
      have := hS.1
      omega
    subst this
    exact absurd hK hz
theorem xhC_e (h : xhC d m b) (h7 : 0 ≤ d 0 7 ∧ d 0 7 ≤ 6) (hm : d 0 7 < m) (hz : ¬ xhK d 0) : xhA d (-2) := by
  refine Or.inl ⟨rfl, fun S hS hK => ?_⟩
  by_cases h0 : 0 < S
  · have := (@nbS_6 S (d 0 7).toNat (by omega) hS.1 hS.2).1
    exact h S hS h0 (Or.inl (by omega)) hK
  · have : S = 0 := by
      have := hS.1
      omega
    subst this
    exact hz hK
theorem xho_z {f : Nat → Int} : ∀ n : Nat, n ≤ 6 → xho f 0 n = 0
  | 0, _ => rfl
  | n + 1, h => by
    show (if wq_and (wq_shr 0 n) 1 = 0 then xho f 0 n else wq_or (xho f 0 n) (f n)) = 0
    have all : (List.range 7).all (fun n => decide (wq_and (wq_shr 0 (n : Nat)) 1 = 0)) = true := by decide +kernel
    rw [if_pos (of_decide_eq_true (List.all_eq_true.mp all n (List.mem_range.mpr (by omega))))]
    exact xho_z n (by omega)
theorem xal_pos (h : 1 ≤ d 0 0) : xal d ≠ 0 := by
  unfold xal
  have h1 : ∀ n : Nat, 1 ≤ xhf 0 (d 0 0) (n + 1) := fun n => by
    induction n with
    | zero =>
      show 1 ≤ xhf 0 (d 0 0) 0 + (if (0 : Int) ≤ ((0 : Nat) : Int) ∧ ((0 : Nat) : Int) < d 0 0 then 2 ^ 0 else 0)
      rw [if_pos ⟨by omega, by omega⟩]
      show (1 : Int) ≤ 0 + 2 ^ 0
      decide
    | succ n ih =>
      have h2 : (0 : Int) ≤ 2 ^ (n + 1) := Int.le_of_lt (Int.pow_pos (by decide))
      show 1 ≤ xhf 0 (d 0 0) (n + 1) + (if (0 : Int) ≤ ((n + 1 : Nat) : Int) ∧ ((n + 1 : Nat) : Int) < d 0 0 then 2 ^ (n + 1) else 0)
      split <;> omega
  have h3 : 1 ≤ xhf 0 (d 0 0) 24 := h1 23
  unfold xhs
  omega
theorem xhK_0 (h : 1 ≤ d 0 0) (h7 : 0 ≤ d 0 7 ∧ d 0 7 ≤ 6) : ¬ xhK d 0 := fun k => by
  unfold xhK at k
  rw [xho_z (d 0 7).toNat (by omega)] at k
  exact xal_pos h k.symm
/-- the reference's loop: the best of the sets below s -/
def xhG (d : xD) (x s : Int) : Prop := (x = -2 ∧ ∀ S, 0 ≤ S → S < s → ¬ xhK d S) ∨ (0 ≤ x ∧ x < s ∧ xhK d x ∧ ∀ S, 0 ≤ S → S < s → xhK d S → xhL x S)
theorem xhG_0 : xhG d (-2) 0 := Or.inl ⟨rfl, fun S h1 h2 => by omega⟩
theorem xhG_n {s : Int} (h : xhG d x s) (hk : ¬ xhK d s) : xhG d x (s + 1) := by
  rcases h with ⟨h1, h2⟩ | ⟨h1, h2, h3, h4⟩
  · refine Or.inl ⟨h1, fun S a b => ?_⟩
    by_cases e : S = s
    · rw [e]
      exact hk
    · exact h2 S a (by omega)
  · refine Or.inr ⟨h1, by omega, h3, fun S a b c => ?_⟩
    by_cases e : S = s
    · rw [e] at c
      exact absurd c hk
    · exact h4 S a (by omega) c
theorem xhG_y {s : Int} (h : xhG d x s) (h0 : 0 ≤ s) (hk : xhK d s) (hx : x = -2 ∨ nbS s < nbS x) : xhG d s (s + 1) := by
  refine Or.inr ⟨h0, by omega, hk, fun S a b c => ?_⟩
  unfold xhL
  by_cases e : S = s
  · subst e
    omega
  · rcases h with ⟨h1, h2⟩ | ⟨h1, h2, h3, h4⟩
    · exact absurd c (h2 S a (by omega))
    · have := h4 S a (by omega) c
      unfold xhL at this
      omega
theorem xhG_k {s : Int} (h : xhG d x s) (h0 : 0 ≤ s) (hx : x ≠ -2) (hn : nbS x ≤ nbS s) : xhG d x (s + 1) := by
  rcases h with ⟨h1, h2⟩ | ⟨h1, h2, h3, h4⟩
  · exact absurd h1 hx
  · refine Or.inr ⟨h1, by omega, h3, fun S a b c => ?_⟩
    by_cases e : S = s
    · subst e
      unfold xhL
      omega
    · exact h4 S a (by omega) c
theorem xhG_e {s : Int} (h : xhG d x s) (hs : s = 2 ^ (d 0 7).toNat) : xhA d x := by
  subst hs
  rcases h with ⟨h1, h2⟩ | ⟨h1, h2, h3, h4⟩
  · exact Or.inl ⟨h1, fun S a => h2 S a.1 a.2⟩
  · exact Or.inr ⟨⟨h1, h2⟩, h3, fun S a => h4 S a.1 a.2⟩
/-- by the reference's own hours -/
theorem xhK_m {dm : xD} (h7 : 0 ≤ dm 0 7) : wq_and (xal dm) (wq_xor (xho (dm 16) S (dm 0 7).toNat) (-1)) = 0 ↔ xhK (xset dm) S := by
  have hb := @xhs_b 0 (dm 0 0)
  rw [wq_an (by unfold xal; omega)]
  unfold xhK
  rw [xset_16, xset_al, xset_v.2.2.2.2.2.2.2.1, xho_m (v := dm 0 7) (dm 0 7).toNat (by omega)]
end XHC
