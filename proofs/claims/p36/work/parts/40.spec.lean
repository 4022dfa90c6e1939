/-! THE READING, as functions (own work): the tokens of a tape, the faults of a line, what it tells -/
/-- from p on as long as a byte lies between lo and hi -/
def xGf (lo hi : Int) (B : Nat → Int) (n : Int) : Nat → Int → Int
  | 0, p => p
  | f + 1, p => if p < n ∧ lo ≤ B p.toNat ∧ B p.toNat ≤ hi then xGf lo hi B n f (p + 1) else p
def xG (lo hi : Int) (B : Nat → Int) (n p : Int) : Int := xGf lo hi B n (n - p).toNat p
/-- the first i places from q on, as a number: m to the place, c off each byte -/
def xkf (m c : Int) (B : Nat → Int) (q : Int) : Nat → Int
  | 0 => 0
  | i + 1 => m * xkf m c B q i + (B (q + i).toNat - c)
/-- a token at q: its kind (0 the end, 1 a word, 2 a whole, 3 and 4 signs, 5 none), its end, its value, its key, and where the next one stands -/
def xK (B : Nat → Int) (n q : Int) : Int := if n ≤ q then 0 else if 97 ≤ B q.toNat ∧ B q.toNat ≤ 122 then (if xG 97 122 B n q - q ≤ 8 then 1 else 5) else if 48 ≤ B q.toNat ∧ B q.toNat ≤ 57 then (if xG 48 57 B n q - q ≤ 3 then 2 else 5) else if B q.toNat = 59 then 3 else if B q.toNat = 44 then 4 else 5
def xE (B : Nat → Int) (n q : Int) : Int := if n ≤ q then q else if 97 ≤ B q.toNat ∧ B q.toNat ≤ 122 then xG 97 122 B n q else if 48 ≤ B q.toNat ∧ B q.toNat ≤ 57 then xG 48 57 B n q else q + 1
def xY (B : Nat → Int) (n q : Int) : Int := xkf 32 96 B q (xG 97 122 B n q - q).toNat
def xV (B : Nat → Int) (n q : Int) : Int := xkf 10 48 B q (xG 48 57 B n q - q).toNat
/-- what it is, and where it ends -/
def xKE (B : Nat → Int) (n q : Int) : Int × Int := if n ≤ q then (0, q) else if 97 ≤ B q.toNat ∧ B q.toNat ≤ 122 then (if xG 97 122 B n q - q ≤ 8 then (1, xG 97 122 B n q) else (5, xG 97 122 B n q)) else if 48 ≤ B q.toNat ∧ B q.toNat ≤ 57 then (if xG 48 57 B n q - q ≤ 3 then (2, xG 48 57 B n q) else (5, xG 48 57 B n q)) else if B q.toNat = 59 then (3, q + 1) else if B q.toNat = 44 then (4, q + 1) else (5, q + 1)
theorem xKE_e {B : Nat → Int} {n q : Int} : xKE B n q = (xK B n q, xE B n q) := by
  unfold xKE xK xE
  by_cases h1 : n ≤ q
  · rw [if_pos h1, if_pos h1, if_pos h1]
  · rw [if_neg h1, if_neg h1, if_neg h1]
    by_cases h2 : 97 ≤ B q.toNat ∧ B q.toNat ≤ 122
    · rw [if_pos h2, if_pos h2, if_pos h2]
      by_cases h3 : xG 97 122 B n q - q ≤ 8
      · rw [if_pos h3, if_pos h3]
      · rw [if_neg h3, if_neg h3]
    · rw [if_neg h2, if_neg h2, if_neg h2]
      by_cases h3 : 48 ≤ B q.toNat ∧ B q.toNat ≤ 57
      · rw [if_pos h3, if_pos h3, if_pos h3]
        by_cases h4 : xG 48 57 B n q - q ≤ 3
        · rw [if_pos h4, if_pos h4]
        · rw [if_neg h4, if_neg h4]
      · rw [if_neg h3, if_neg h3, if_neg h3]
        by_cases h4 : B q.toNat = 59
        · rw [if_pos h4, if_pos h4]
        · rw [if_neg h4, if_neg h4]
          by_cases h5 : B q.toNat = 44
          · rw [if_pos h5, if_pos h5]
          · rw [if_neg h5, if_neg h5]
section XSP

variable {lo hi : Int} {B : Nat → Int} {n p q : Int}
theorem xG_s (h1 : p < n) (h2 : lo ≤ B p.toNat) (h3 : B p.toNat ≤ hi) : xG lo hi B n p = xG lo hi B n (p + 1) := by
  unfold xG
  rw [show (n - p).toNat = (n - (p + 1)).toNat + 1 by omega]
  exact if_pos ⟨h1, h2, h3⟩
theorem xG_e (h : ¬ (p < n ∧ lo ≤ B p.toNat ∧ B p.toNat ≤ hi)) : xG lo hi B n p = p := by
  unfold xG
  match (n - p).toNat with
  | 0 => rfl
  | f + 1 => exact if_neg h
theorem xGf_b : ∀ (f : Nat) (p : Int), p ≤ xGf lo hi B n f p ∧ (xGf lo hi B n f p ≤ n ∨ xGf lo hi B n f p = p)
  | 0, p => ⟨Int.le_refl _, Or.inr rfl⟩
  | f + 1, p => by
    by_cases h : p < n ∧ lo ≤ B p.toNat ∧ B p.toNat ≤ hi
    · rw [show xGf lo hi B n (f + 1) p = xGf lo hi B n f (p + 1) from if_pos h]
      have := xGf_b f (p + 1)
      omega
    · rw [show xGf lo hi B n (f + 1) p = p from if_neg h]
      omega
theorem xG_b : p ≤ xG lo hi B n p ∧ (xG lo hi B n p ≤ n ∨ xG lo hi B n p = p) := xGf_b _ _
theorem xGf_in : ∀ (f : Nat) (p j : Int), p ≤ j → j < xGf lo hi B n f p → lo ≤ B j.toNat ∧ B j.toNat ≤ hi
  | 0, p, j, h1, h2 => by
    have h2 : j < p := h2
    omega
  | f + 1, p, j, h1, h2 => by
    by_cases h : p < n ∧ lo ≤ B p.toNat ∧ B p.toNat ≤ hi
    · rw [show xGf lo hi B n (f + 1) p = xGf lo hi B n f (p + 1) from if_pos h] at h2
      by_cases hj : j = p
      · subst hj
        exact h.2
      · exact xGf_in f (p + 1) j (by omega) h2
    · rw [show xGf lo hi B n (f + 1) p = p from if_neg h] at h2
      omega
theorem xG_in {j : Int} (h1 : p ≤ j) (h2 : j < xG lo hi B n p) : lo ≤ B j.toNat ∧ B j.toNat ≤ hi := xGf_in _ _ _ h1 h2
theorem xG_1 (h1 : p < n) (h2 : lo ≤ B p.toNat) (h3 : B p.toNat ≤ hi) : p < xG lo hi B n p := by
  rw [xG_s h1 h2 h3]
  have := @xG_b lo hi B n (p + 1)
  omega
theorem xkf_s {m c v : Int} (h : q ≤ v) : xkf m c B q (v + 1 - q).toNat = m * xkf m c B q (v - q).toNat + (B v.toNat - c) := by
  rw [show (v + 1 - q).toNat = (v - q).toNat + 1 by omega]
  show m * xkf m c B q (v - q).toNat + (B (q + ((v - q).toNat : Nat)).toNat - c) = _
  rw [show q + ((v - q).toNat : Nat) = v by omega]
theorem xkf_0 {m c : Int} : xkf m c B q (q - q).toNat = 0 := by
  rw [show (q - q).toNat = 0 by omega]
  rfl
theorem xkf_b {m c : Int} (hm : 1 ≤ m) {i : Nat} (h : ∀ j : Nat, j < i → 0 ≤ B (q + j).toNat - c ∧ B (q + j).toNat - c ≤ m - 1) : 0 ≤ xkf m c B q i ∧ xkf m c B q i + 1 ≤ m ^ i := by
  induction i with
  | zero => exact ⟨Int.le_refl _, by show (0 : Int) + 1 ≤ m ^ 0; rw [Int.pow_zero]; omega⟩
  | succ i ih =>
    have h1 := ih (fun j hj => h j (by omega))
    have h2 := h i (by omega)
    show 0 ≤ m * xkf m c B q i + (B (q + i).toNat - c) ∧ m * xkf m c B q i + (B (q + i).toNat - c) + 1 ≤ m ^ (i + 1)
    rw [Int.pow_succ]
    have h3 : 0 ≤ m * xkf m c B q i := Int.mul_nonneg (by omega) h1.1
    have h4 : m * (xkf m c B q i + 1) ≤ m * m ^ i := Int.mul_le_mul_of_nonneg_left h1.2 (by omega)
    rw [Int.mul_add, Int.mul_one] at h4
    rw [Int.mul_comm (m ^ i) m]
    omega
theorem p32 {i : Nat} (h : i ≤ 8) : (32 : Int) ^ i ≤ 1099511627776 := by
  match i, h with
  | 0, _ => decide
  | 1, _ => decide
  | 2, _ => decide
  | 3, _ => decide
  | 4, _ => decide
  | 5, _ => decide
  | 6, _ => decide
  | 7, _ => decide
  | 8, _ => decide
  | n + 9, h => omega
theorem p10 {i : Nat} (h : i ≤ 3) : (10 : Int) ^ i ≤ 1000 := by
  match i, h with
  | 0, _ => decide
  | 1, _ => decide
  | 2, _ => decide
  | 3, _ => decide
  | n + 4, h => omega
/-- up to eight letters fill 40 bits -/
theorem xkf_Y {v : Int} (h0 : q ≤ v) (h : v - q ≤ 8) (hl : ∀ j : Int, q ≤ j → j < v → 97 ≤ B j.toNat ∧ B j.toNat ≤ 122) : 0 ≤ xkf 32 96 B q (v - q).toNat ∧ xkf 32 96 B q (v - q).toNat ≤ 1099511627775 := by
  have h1 := @xkf_b B q 32 96 (by omega) (v - q).toNat (fun j hj => by have := hl (q + j) (by omega) (by omega); omega)
  have h2 := @p32 (v - q).toNat (by omega)
  omega
theorem xkf_V {v : Int} (h0 : q ≤ v) (h : v - q ≤ 3) (hl : ∀ j : Int, q ≤ j → j < v → 48 ≤ B j.toNat ∧ B j.toNat ≤ 57) : 0 ≤ xkf 10 48 B q (v - q).toNat ∧ xkf 10 48 B q (v - q).toNat ≤ 999 := by
  have h1 := @xkf_b B q 10 48 (by omega) (v - q).toNat (fun j hj => by have := hl (q + j) (by omega) (by omega); omega)
  have h2 := @p10 (v - q).toNat (by omega)
  omega
end XSP
/-- what a text has told so far: row 0 its counts (hours 0, beside 1, off 2, people 3, apart 4, born 5, told 6, offers 7, sexton 8), then rows by number (name 1, bed 2 3, long 4 5, habit 6, nap 7 8, away 9, apart 10 11, born 12, struck, one more, 13, who told 14, told hours 15, offered hours 16, who offers 17) -/
abbrev xD : Type := Nat → Nat → Int
def xD0 : xD := fun i j => if i = 0 ∧ j = 8 then -1 else 0
section XLN

variable (B : Nat → Int) (n q : Int)
/-- is it told already that a and b are apart -/
def xagf (d : xD) (a b : Int) : Nat → Int
  | 0 => 0
  | k + 1 => if (d 10 k = a ∧ d 11 k = b) ∨ (d 10 k = b ∧ d 11 k = a) then 1 else xagf d a b k
/-- how many HOURS are struck -/
def xcn (f : Nat → Int) : Nat → Int
  | 0 => 0
  | h + 1 => xcn f h + (if f h > 0 then 1 else 0)
/-- bits of HOURS from one up to the one ahead of another -/
def xhf (a b : Int) : Nat → Int
  | 0 => 0
  | h + 1 => xhf a b h + (if a ≤ h ∧ (h : Int) < b then 2 ^ h else 0)
def xhs (a b : Int) : Int := xhf a b 24
end XLN
section XTK

variable {lo hi : Int} {B : Nat → Int} {n p q v : Int}
theorem xG_or : n ≤ q ∨ B q.toNat < lo ∨ hi < B q.toNat ∨ q < xG lo hi B n q := by
  by_cases h : q < n ∧ lo ≤ B q.toNat ∧ B q.toNat ≤ hi
  · exact Or.inr (Or.inr (Or.inr (xG_1 h.1 h.2.1 h.2.2)))
  · omega
theorem xG_at : xG lo hi B n q = q ∨ (lo ≤ B q.toNat ∧ B q.toNat ≤ hi ∧ q < n) := by
  by_cases h : q < n ∧ lo ≤ B q.toNat ∧ B q.toNat ≤ hi
  · exact Or.inr ⟨h.2.1, h.2.2, h.1⟩
  · exact Or.inl (xG_e h)
theorem xG_ez : (q < n ∧ lo ≤ B q.toNat ∧ B q.toNat ≤ hi) ∨ xG lo hi B n q = q := by
  by_cases h : q < n ∧ lo ≤ B q.toNat ∧ B q.toNat ≤ hi
  · exact Or.inl h
  · exact Or.inr (xG_e h)
theorem xkf_Y2 (h0 : q ≤ v) (h : v ≤ xG 97 122 B n q) : 8 < v - q ∨ (0 ≤ xkf 32 96 B q (v - q).toNat ∧ xkf 32 96 B q (v - q).toNat ≤ 1099511627775) := by
  by_cases h8 : 8 < v - q
  · exact Or.inl h8
  · exact Or.inr (xkf_Y h0 (by omega) (fun j h1 h2 => xG_in (n := n) h1 (by omega)))
theorem xkf_V2 (h0 : q ≤ v) : xG 48 57 B n q < v ∨ 3 < v - q ∨ (0 ≤ xkf 10 48 B q (v - q).toNat ∧ xkf 10 48 B q (v - q).toNat ≤ 999) := by
  by_cases h : xG 48 57 B n q < v
  · exact Or.inl h
  · by_cases h8 : 3 < v - q
    · exact Or.inr (Or.inl h8)
    · exact Or.inr (Or.inr (xkf_V h0 (by omega) (fun j h1 h2 => xG_in (n := n) h1 (by omega))))
theorem xG_q : v ≠ q ∨ xG lo hi B n v = xG lo hi B n q := by
  by_cases h : v = q
  · subst h
    exact Or.inr rfl
  · exact Or.inl h
theorem xkf_q {m c : Int} : v ≠ q ∨ xkf m c B q (v - q).toNat = 0 := by
  by_cases h : v = q
  · subst h
    exact Or.inr xkf_0
  · exact Or.inl h
theorem xB_q : v ≠ q ∨ B v.toNat = B q.toNat := by
  by_cases h : v = q
  · subst h
    exact Or.inr rfl
  · exact Or.inl h
theorem xY_of : v ≠ xG 97 122 B n q ∨ xkf 32 96 B q (v - q).toNat = xY B n q := by
  by_cases h : v = xG 97 122 B n q
  · subst h
    exact Or.inr rfl
  · exact Or.inl h
theorem xV_of : v ≠ xG 48 57 B n q ∨ xkf 10 48 B q (v - q).toNat = xV B n q := by
  by_cases h : v = xG 48 57 B n q
  · subst h
    exact Or.inr rfl
  · exact Or.inl h
end XTK
section XRE

variable {B : Nat → Int} {n q : Int}
end XRE
