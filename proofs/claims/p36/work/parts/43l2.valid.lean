theorem xhf_b {a b : Int} : ∀ n : Nat, 0 ≤ xhf a b n ∧ xhf a b n + 1 ≤ 2 ^ n
  | 0 => ⟨Int.le_refl _, by show (0 : Int) + 1 ≤ 2 ^ 0; decide⟩
  | n + 1 => by
    have h := @xhf_b a b n
    have h2 : (0 : Int) ≤ 2 ^ n := Int.le_of_lt (Int.pow_pos (by decide))
    show 0 ≤ xhf a b n + (if a ≤ n ∧ (n : Int) < b then 2 ^ n else 0) ∧ xhf a b n + (if a ≤ n ∧ (n : Int) < b then 2 ^ n else 0) + 1 ≤ 2 ^ (n + 1)
    rw [Int.pow_succ]
    split <;> omega
theorem xhs_b {a b : Int} : 0 ≤ xhs a b ∧ xhs a b ≤ 16777215 := by
  have h := @xhf_b a b 24
  have e : (2 : Int) ^ 24 = 16777216 := by decide
  unfold xhs
  omega
def XC (d : xD) : Prop := 0 ≤ d 0 0 ∧ d 0 0 ≤ 24 ∧ 0 ≤ d 0 1 ∧ d 0 1 ≤ 9 ∧ 0 ≤ d 0 2 ∧ d 0 2 ≤ 3 ∧ 0 ≤ d 0 3 ∧ d 0 3 ≤ 6 ∧ 0 ≤ d 0 4 ∧ d 0 4 ≤ 3 ∧ 0 ≤ d 0 5 ∧ d 0 5 ≤ 3 ∧ 0 ≤ d 0 6 ∧ d 0 6 ≤ 4 ∧ 0 ≤ d 0 7 ∧ d 0 7 ≤ 6 ∧ -1 ≤ d 0 8 ∧ d 0 8 < d 0 3
def xwB (p x : Int) : Prop := 0 ≤ x ∧ x < p
def xhB (x : Int) : Prop := 0 ≤ x ∧ x ≤ 16777215
def xrB (x : Int) : Prop := 0 ≤ x ∧ x ≤ 23
def XR (d : xD) : Prop := (∀ k : Nat, (k : Int) < d 0 4 → xwB (d 0 3) (d 10 k)) ∧ (∀ k : Nat, (k : Int) < d 0 4 → xwB (d 0 3) (d 11 k)) ∧ (∀ k : Nat, (k : Int) < d 0 5 → xrB (d 12 k)) ∧ (∀ k : Nat, (k : Int) < d 0 6 → xwB (d 0 3) (d 14 k)) ∧ (∀ k : Nat, (k : Int) < d 0 6 → xhB (d 15 k)) ∧ (∀ k : Nat, (k : Int) < d 0 7 → xhB (d 16 k)) ∧ (∀ k : Nat, (k : Int) < d 0 7 → xwB (d 0 3) (d 17 k)) ∧ ∀ h : Nat, 0 ≤ d 13 h ∧ d 13 h ≤ 100
def XW (d : xD) : Prop := xdP d ∧ XC d ∧ XR d
section XVL

variable {B : Nat → Int} {n q : Int} {d : xD}
end XVL
