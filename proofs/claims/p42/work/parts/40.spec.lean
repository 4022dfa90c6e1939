/-! THE READING, as functions (own work): the tokens of a tape, the faults of a line, what it tells -/
/-- from p on as long as a byte lies between lo and hi -/
def xGf (lo hi : Int) (B : Nat → Int) (n : Int) : Nat → Int → Int
  | 0, p => p
  | f + 1, p => if p < n ∧ lo ≤ B p.toNat ∧ B p.toNat ≤ hi then xGf lo hi B n f (p + 1) else p
def xG (lo hi : Int) (B : Nat → Int) (n p : Int) : Int := xGf lo hi B n (n - p).toNat p
/-- the first i places from q on, as a number: m to the place, c off each byte -/
def xkf (m c : Int) (B : Nat → Int) (q : Int) : Nat → Int
  | 0 => 0
  | i + 1 => m * xkf m c B q i + (B (q + i).toNat - c)
/-- a token at q: its kind (0 the end, 1 a word, 2 a whole, 3 and 4 signs, 5 none), its end, its value, its key, and where the next one stands -/
def xK (B : Nat → Int) (n q : Int) : Int := if n ≤ q then 0 else if 97 ≤ B q.toNat ∧ B q.toNat ≤ 122 then (if xG 97 122 B n q - q ≤ 8 then 1 else 5) else if 48 ≤ B q.toNat ∧ B q.toNat ≤ 57 then (if xG 48 57 B n q - q ≤ 3 then 2 else 5) else if B q.toNat = 59 then 3 else if B q.toNat = 44 then 4 else 5
def xE (B : Nat → Int) (n q : Int) : Int := if n ≤ q then q else if 97 ≤ B q.toNat ∧ B q.toNat ≤ 122 then xG 97 122 B n q else if 48 ≤ B q.toNat ∧ B q.toNat ≤ 57 then xG 48 57 B n q else q + 1
def xY (B : Nat → Int) (n q : Int) : Int := xkf 32 96 B q (xG 97 122 B n q - q).toNat
def xV (B : Nat → Int) (n q : Int) : Int := xkf 10 48 B q (xG 48 57 B n q - q).toNat
def xN (B : Nat → Int) (n q : Int) : Int := xG 32 32 B n (xE B n q)
section XSP

variable {lo hi : Int} {B : Nat → Int} {n p q : Int}
theorem xG_s (h1 : p < n) (h2 : lo ≤ B p.toNat) (h3 : B p.toNat ≤ hi) : xG lo hi B n p = xG lo hi B n (p + 1) := by
  unfold xG
  rw [show (n - p).toNat = (n - (p + 1)).toNat + 1 by omega]
  exact if_pos ⟨h1, h2, h3⟩
theorem xG_e (h : ¬ (p < n ∧ lo ≤ B p.toNat ∧ B p.toNat ≤ hi)) : xG lo hi B n p = p := by
  unfold xG
  match (n - p).toNat with
  | 0 => rfl
  | f + 1 => exact if_neg h
theorem xGf_b : ∀ (f : Nat) (p : Int), p ≤ xGf lo hi B n f p ∧ (xGf lo hi B n f p ≤ n ∨ xGf lo hi B n f p = p)
  | 0, p => ⟨Int.le_refl _, Or.inr rfl⟩
  | f + 1, p => by
    by_cases h : p < n ∧ lo ≤ B p.toNat ∧ B p.toNat ≤ hi
    · rw [show xGf lo hi B n (f + 1) p = xGf lo hi B n f (p + 1) from if_pos h]
      have := xGf_b f (p + 1)
      omega
    · rw [show xGf lo hi B n (f + 1) p = p from if_neg h]
      omega
theorem xG_b : p ≤ xG lo hi B n p ∧ (xG lo hi B n p ≤ n ∨ xG lo hi B n p = p) := xGf_b _ _
theorem xGf_in : ∀ (f : Nat) (p j : Int), p ≤ j → j < xGf lo hi B n f p → lo ≤ B j.toNat ∧ B j.toNat ≤ hi
  | 0, p, j, h1, h2 => by
    have h2 : j < p := h2
    omega
  | f + 1, p, j, h1, h2 => by
    by_cases h : p < n ∧ lo ≤ B p.toNat ∧ B p.toNat ≤ hi
    · rw [show xGf lo hi B n (f + 1) p = xGf lo hi B n f (p + 1) from if_pos h] at h2
      by_cases hj : j = p
      · subst hj
        exact h.2
      · exact xGf_in f (p + 1) j (by omega) h2
    · rw [show xGf lo hi B n (f + 1) p = p from if_neg h] at h2
      omega
theorem xG_in {j : Int} (h1 : p ≤ j) (h2 : j < xG lo hi B n p) : lo ≤ B j.toNat ∧ B j.toNat ≤ hi := xGf_in _ _ _ h1 h2
theorem xG_1 (h1 : p < n) (h2 : lo ≤ B p.toNat) (h3 : B p.toNat ≤ hi) : p < xG lo hi B n p := by
  rw [xG_s h1 h2 h3]
  have := @xG_b lo hi B n (p + 1)
  omega
theorem xkf_s {m c v : Int} (h : q ≤ v) : xkf m c B q (v + 1 - q).toNat = m * xkf m c B q (v - q).toNat + (B v.toNat - c) := by
  rw [show (v + 1 - q).toNat = (v - q).toNat + 1 by omega]
  show m * xkf m c B q (v - q).toNat + (B (q + ((v - q).toNat : Nat)).toNat - c) = _
  rw [show q + ((v - q).toNat : Nat) = v by omega]
theorem xkf_0 {m c : Int} : xkf m c B q (q - q).toNat = 0 := by
  rw [show (q - q).toNat = 0 by omega]
  rfl
theorem xkf_b {m c : Int} (hm : 1 ≤ m) {i : Nat} (h : ∀ j : Nat, j < i → 0 ≤ B (q + j).toNat - c ∧ B (q + j).toNat - c ≤ m - 1) : 0 ≤ xkf m c B q i ∧ xkf m c B q i + 1 ≤ m ^ i := by
  induction i with
  | zero => exact ⟨Int.le_refl _, by show (0 : Int) + 1 ≤ m ^ 0; rw [Int.pow_zero]; omega⟩
  | succ i ih =>
    have h1 := ih (fun j hj => h j (by omega))
    have h2 := h i (by omega)
    show 0 ≤ m * xkf m c B q i + (B (q + i).toNat - c) ∧ m * xkf m c B q i + (B (q + i).toNat - c) + 1 ≤ m ^ (i + 1)
    rw [Int.pow_succ]
    have h3 : 0 ≤ m * xkf m c B q i := Int.mul_nonneg (by omega) h1.1
    have h4 : m * (xkf m c B q i + 1) ≤ m * m ^ i := Int.mul_le_mul_of_nonneg_left h1.2 (by omega)
    rw [Int.mul_add, Int.mul_one] at h4
    rw [Int.mul_comm (m ^ i) m]
    omega
theorem p32 {i : Nat} (h : i ≤ 8) : (32 : Int) ^ i ≤ 1099511627776 := by
  match i, h with
  | 0, _ => decide
  | 1, _ => decide
  | 2, _ => decide
  | 3, _ => decide
  | 4, _ => decide
  | 5, _ => decide
  | 6, _ => decide
  | 7, _ => decide
  | 8, _ => decide
  | n + 9, h => omega
theorem p10 {i : Nat} (h : i ≤ 3) : (10 : Int) ^ i ≤ 1000 := by
  match i, h with
  | 0, _ => decide
  | 1, _ => decide
  | 2, _ => decide
  | 3, _ => decide
  | n + 4, h => omega
/-- up to eight letters fill 40 bits -/
theorem xkf_Y {v : Int} (h0 : q ≤ v) (h : v - q ≤ 8) (hl : ∀ j : Int, q ≤ j → j < v → 97 ≤ B j.toNat ∧ B j.toNat ≤ 122) : 0 ≤ xkf 32 96 B q (v - q).toNat ∧ xkf 32 96 B q (v - q).toNat ≤ 1099511627775 := by
  have h1 := @xkf_b B q 32 96 (by omega) (v - q).toNat (fun j hj => by have := hl (q + j) (by omega) (by omega); omega)
  have h2 := @p32 (v - q).toNat (by omega)
  omega
theorem xkf_V {v : Int} (h0 : q ≤ v) (h : v - q ≤ 3) (hl : ∀ j : Int, q ≤ j → j < v → 48 ≤ B j.toNat ∧ B j.toNat ≤ 57) : 0 ≤ xkf 10 48 B q (v - q).toNat ∧ xkf 10 48 B q (v - q).toNat ≤ 999 := by
  have h1 := @xkf_b B q 10 48 (by omega) (v - q).toNat (fun j hj => by have := hl (q + j) (by omega) (by omega); omega)
  have h2 := @p10 (v - q).toNat (by omega)
  omega
theorem xK_b : 0 ≤ xK B n q ∧ xK B n q ≤ 5 := by
  unfold xK
  split
  · omega
  · split
    · split <;> omega
    · split
      · split <;> omega
      · split
        · omega
        · split <;> omega
theorem xV_b (h : xK B n q = 2) : 0 ≤ xV B n q ∧ xV B n q ≤ 999 := by
  unfold xK at h
  split at h
  · omega
  · split at h
    · split at h <;> omega
    · split at h
      · next h4 h5 h6 =>
        split at h
        · next h7 => exact xkf_V (xG_b).1 h7 (fun j => xG_in)
        · omega
      · split at h
        · omega
        · split at h <;> omega
theorem xV_b2 : xK B n q ≠ 2 ∨ (0 ≤ xV B n q ∧ xV B n q ≤ 999) := by
  by_cases h : xK B n q = 2
  · exact Or.inr (xV_b h)
  · exact Or.inl h
theorem xE_b (h0 : 0 ≤ q) (h : q ≤ n) : q ≤ xE B n q ∧ xE B n q ≤ n ∧ (q < n → q < xE B n q) := by
  unfold xE
  split
  · omega
  · next h1 =>
    split
    · next h2 =>
      have := @xG_b 97 122 B n q
      have := @xG_1 97 122 B n q (by omega) h2.1 h2.2
      omega
    · split
      · next h2 =>
        have := @xG_b 48 57 B n q
        have := @xG_1 48 57 B n q (by omega) h2.1 h2.2
        omega
      · omega
theorem xN_b (h0 : 0 ≤ q) (h : q ≤ n) : q ≤ xN B n q ∧ xN B n q ≤ n ∧ (q < n → q < xN B n q) := by
  have h1 := @xE_b B n q h0 h
  have := @xG_b 32 32 B n (xE B n q)
  unfold xN
  omega
theorem xK_0 (h : 0 ≤ q) (hq : q ≤ n) : xK B n q = 0 ↔ q = n := by
  constructor
  · intro h1
    unfold xK at h1
    split at h1
    · omega
    · split at h1
      · split at h1 <;> omega
      · split at h1
        · split at h1 <;> omega
        · split at h1
          · omega
          · split at h1 <;> omega
  · intro h1
    exact if_pos (by omega)
end XSP
/-- the words that are no names, and that begin lines -/
def xRK (i : Nat) : Int := [12343, 542723566, 643584494, 1574484, 81486, 659117163, 671108, 15931570, 8423732, 14384, 56377].getD i 0
def xref (y : Int) : Nat → Int → Int
  | 0, v => v
  | f + 1, v => if y = xRK v.toNat then v else xref y f (v + 1)
/-- which of those a token is: its place; 11 another word; 12 no word -/
def xre (B : Nat → Int) (n q : Int) : Int := if xK B n q = 1 then xref (xY B n q) 11 0 else 12
theorem xref_s {y v : Int} {f : Nat} (h : y ≠ xRK v.toNat) : xref y (f + 1) v = xref y f (v + 1) := if_neg h
theorem xref_e {y v : Int} {f : Nat} (h : y = xRK v.toNat) : xref y (f + 1) v = v := if_pos h
/-- codes of faults: a word, a kind, a whole -/
def xw (B : Nat → Int) (n q kk : Int) : Int := if xK B n q = 1 ∧ xY B n q = kk then 0 else 1
def xk (B : Nat → Int) (n q kd : Int) : Int := if xK B n q = kd then 0 else 1
def xh (B : Nat → Int) (n q lo hi : Int) : Int := if xK B n q = 2 then (if lo ≤ xV B n q ∧ xV B n q ≤ hi then 0 else 4) else 1
theorem xw_b {B : Nat → Int} {n q kk : Int} : (xw B n q kk = 0 ∧ xK B n q = 1 ∧ xY B n q = kk) ∨ (xw B n q kk = 1 ∧ (xK B n q ≠ 1 ∨ xY B n q ≠ kk)) := by
  unfold xw
  split <;> omega
theorem xk_b {B : Nat → Int} {n q kd : Int} : (xk B n q kd = 0 ∧ xK B n q = kd) ∨ (xk B n q kd = 1 ∧ xK B n q ≠ kd) := by
  unfold xk
  split <;> omega
theorem xh_b {B : Nat → Int} {n q lo hi : Int} : (xh B n q lo hi = 0 ∧ xK B n q = 2 ∧ lo ≤ xV B n q ∧ xV B n q ≤ hi) ∨ (xh B n q lo hi = 4 ∧ xK B n q = 2 ∧ (xV B n q < lo ∨ hi < xV B n q)) ∨ (xh B n q lo hi = 1 ∧ xK B n q ≠ 2) := by
  unfold xh
  split
  · split <;> omega
  · omega
/-- the first of n places whose value is y; -1 if none -/
def xff (f : Nat → Int) (n y : Int) : Nat → Int → Int
  | 0, _ => -1
  | g + 1, i => if i < n then (if f i.toNat = y then i else xff f n y g (i + 1)) else -1
def xfr (f : Nat → Int) (n y i : Int) : Int := xff f n y (n - i).toNat i
def xfi (f : Nat → Int) (n y : Int) : Int := xfr f n y 0
theorem xfr_s {f : Nat → Int} {n y i : Int} (h : i < n) (h1 : f i.toNat ≠ y) : xfr f n y i = xfr f n y (i + 1) := by
  unfold xfr
  rw [show (n - i).toNat = (n - (i + 1)).toNat + 1 by omega]
  exact (if_pos h).trans (if_neg h1)
theorem xfr_e {f : Nat → Int} {n y i : Int} (h : i < n) (h1 : f i.toNat = y) : xfr f n y i = i := by
  unfold xfr
  rw [show (n - i).toNat = (n - (i + 1)).toNat + 1 by omega]
  exact (if_pos h).trans (if_pos h1)
theorem xfr_n {f : Nat → Int} {n y i : Int} (h : n ≤ i) : xfr f n y i = -1 := by
  unfold xfr
  rw [show (n - i).toNat = 0 by omega]
  rfl
theorem xff_b {f : Nat → Int} {n y : Int} : ∀ (g : Nat) (i : Int), xff f n y g i = -1 ∨ (i ≤ xff f n y g i ∧ xff f n y g i < n ∧ f (xff f n y g i).toNat = y)
  | 0, i => Or.inl rfl
  | g + 1, i => by
    by_cases h : i < n
    · rw [show xff f n y (g + 1) i = if f i.toNat = y then i else xff f n y g (i + 1) from if_pos h]
      split
      · next h1 => exact Or.inr ⟨Int.le_refl _, h, h1⟩
      · rcases xff_b g (i + 1) with h2 | ⟨h2, h3⟩
        · exact Or.inl h2
        · exact Or.inr ⟨by omega, h3⟩
    · exact Or.inl (if_neg h)
theorem xfi_b {f : Nat → Int} {n y : Int} : xfi f n y = -1 ∨ (0 ≤ xfi f n y ∧ xfi f n y < n ∧ f (xfi f n y).toNat = y) := xff_b _ _
/-- what a text has told so far: row 0 its counts (hours 0, beside 1, off 2, people 3, apart 4, born 5, told 6, offers 7, sexton 8), then rows by number (name 1, bed 2 3, long 4 5, habit 6, nap 7 8, away 9, apart 10 11, born 12, struck, one more, 13, who told 14, told hours 15, offered hours 16, who offers 17) -/
abbrev xD : Type := Nat → Nat → Int
def xD0 : xD := fun i j => if i = 0 ∧ j = 8 then -1 else 0
abbrev xO : Type := Int × Int × Int
def xkn (B : Nat → Int) (n q : Int) (d : xD) : Int := if xre B n q = 11 then (if xfi (d 1) (d 0 3) (xY B n q) = -1 then 2 else 0) else 1
def xnm (B : Nat → Int) (n q : Int) (d : xD) : Int := if xre B n q = 11 then (if xfi (d 1) (d 0 3) (xY B n q) = -1 then 0 else 3) else 1
def xs (f q : Int) (k : xO) : xO := if f = 0 then k else (f, q, q)
theorem xs_0 {f q : Int} {k : xO} (h : f = 0) : xs f q k = k := if_pos h
theorem xs_1 {f q : Int} {k : xO} (h : f ≠ 0) : xs f q k = (f, q, q) := if_neg h
section XLN

variable (B : Nat → Int) (n q : Int)
def xlaw : xO := xs (xw B n q 8902227) q <| xs (xh B n (xN B n q) 1 24) (xN B n q) <| xs (xw B n (xN B n (xN B n q)) 72983685) (xN B n (xN B n q)) <| xs (xh B n (xN B n (xN B n (xN B n q))) 0 9) (xN B n (xN B n (xN B n q))) <| xs (xw B n (xN B n (xN B n (xN B n (xN B n q)))) 15558) (xN B n (xN B n (xN B n (xN B n q)))) <| xs (xh B n (xN B n (xN B n (xN B n (xN B n (xN B n q))))) 0 3) (xN B n (xN B n (xN B n (xN B n (xN B n q))))) (0, q, xN B n (xN B n (xN B n (xN B n (xN B n (xN B n q))))))
/-- bounds apart: a whole to a0, the word to, a whole from a2 more up to a3 more, at most a4 -/
def xrg (a1 a2 a3 a4 : Int) : xO := xs (xh B n q 0 a1) q <| xs (xw B n (xN B n q) 655) (xN B n q) <| xs (xh B n (xN B n (xN B n q)) (xV B n q + a2) (min (xV B n q + a3) a4)) (xN B n (xN B n q)) (0, q, xN B n (xN B n (xN B n q)))
def xbd (d : xD) : xO := xs (xnm B n q d) q <| xs (xw B n (xN B n q) 2212) (xN B n q) <| xs (xrg B n (xN B n (xN B n q)) 23 0 7 23).1 (xrg B n (xN B n (xN B n q)) 23 0 7 23).2.1 <| xs (xw B n (xN B n (xN B n (xN B n (xN B n (xN B n q))))) 409031) (xN B n (xN B n (xN B n (xN B n (xN B n q))))) <| xs (xrg B n (xN B n (xN B n (xN B n (xN B n (xN B n (xN B n q)))))) 12 0 4 12).1 (xrg B n (xN B n (xN B n (xN B n (xN B n (xN B n (xN B n q)))))) 12 0 4 12).2.1 (0, q, xN B n (xN B n (xN B n (xN B n (xN B n (xN B n (xN B n (xN B n (xN B n q)))))))))
/-- behind the habit, the nap, away -/
def xqa : Int := if xw B n q 8423732 = 0 then xN B n (xN B n q) else q
def xqb : Int := if xw B n q 14384 = 0 then xN B n (xN B n (xN B n (xN B n q))) else q
def xqc : Int := if xw B n q 56377 = 0 then xN B n q else q
def xca (k : xO) : xO := if xw B n q 8423732 = 0 then xs (xh B n (xN B n q) 0 23) (xN B n q) k else k
def xcb (k : xO) : xO := if xw B n q 14384 = 0 then xs (xrg B n (xN B n q) 23 1 24 24).1 (xrg B n (xN B n q) 23 1 24 24).2.1 k else k
def xcs : xO := xca B n q <| xcb B n (xqa B n q) (0, q, xqc B n (xqb B n (xqa B n q)))
def xper (d : xD) : xO := xs (xbd B n q d).1 (xbd B n q d).2.1 <| xcs B n (xN B n (xN B n (xN B n (xN B n (xN B n (xN B n (xN B n (xN B n (xN B n q)))))))))
def xsex (d : xD) : xO := xs (xkn B n q d) q (0, q, xN B n q)
/-- is it told already that a and b are apart -/
def xagf (d : xD) (a b : Int) : Nat → Int
  | 0 => 0
  | k + 1 => if (d 10 k = a ∧ d 11 k = b) ∨ (d 10 k = b ∧ d 11 k = a) then 1 else xagf d a b k
def xag (d : xD) (a b : Int) : Int := if a = b then 1 else xagf d a b (d 0 4).toNat
def xac (d : xD) (a b : Int) : Int := if xag d a b = 0 then 0 else 3
def xwho (d : xD) : Int := xfi (d 1) (d 0 3) (xY B n q)
def xap (d : xD) : xO := xs (xkn B n q d) q <| xs (xk B n (xN B n q) 4) (xN B n q) <| xs (xkn B n (xN B n (xN B n q)) d) (xN B n (xN B n q)) <| xs (xac d (xwho B n q d) (xwho B n (xN B n (xN B n q)) d)) (xN B n (xN B n q)) (0, q, xN B n (xN B n (xN B n q)))
def xbo : xO := xs (xh B n q 0 23) q (0, q, xN B n q)
def xsh (d : xD) : Int := if xK B n q = 2 ∧ xV B n q ≤ 23 ∧ d 13 (xV B n q).toNat > 0 then 3 else xh B n q 0 23
def xst (d : xD) : xO := xs (xsh B n q d) q <| xs (xw B n (xN B n q) 307) (xN B n q) <| xs (xh B n (xN B n (xN B n q)) 0 99) (xN B n (xN B n q)) (0, q, xN B n (xN B n (xN B n q)))
def xtl (d : xD) : xO := xs (xkn B n q d) q <| xs (xrg B n (xN B n q) 23 1 24 24).1 (xrg B n (xN B n q) 23 1 24 24).2.1 (0, q, xN B n (xN B n (xN B n (xN B n q))))
/-- how many HOURS are struck -/
def xcn (f : Nat → Int) : Nat → Int
  | 0 => 0
  | h + 1 => xcn f h + (if f h > 0 then 1 else 0)
/-- a line -/
def xl0 (d : xD) : xO := if d 0 0 > 0 then (3, q, q) else xlaw B n (xN B n q)
def xl1 (d : xD) : xO := if d 0 3 ≥ 6 then (5, q, q) else xper B n (xN B n q) d
def xl2 (d : xD) : xO := if d 0 8 ≥ 0 then (3, q, q) else xsex B n (xN B n q) d
def xl3 (d : xD) : xO := if d 0 4 ≥ 3 then (5, q, q) else xap B n (xN B n q) d
def xl4 (d : xD) : xO := if d 0 5 ≥ 3 then (5, q, q) else xbo B n (xN B n q)
def xl5 (d : xD) : xO := if xcn (d 13) 24 ≥ 24 then (5, q, q) else xst B n (xN B n q) d
def xl6 (d : xD) : xO := if d 0 6 ≥ 4 then (5, q, q) else xtl B n (xN B n q) d
def xl7 (d : xD) : xO := if d 0 7 ≥ 6 then (5, q, q) else xtl B n (xN B n q) d
def xline (d : xD) : xO :=
  if xre B n q = 0 then xl0 B n q d
  else if xre B n q = 1 then xl1 B n q d
  else if xre B n q = 2 then xl2 B n q d
  else if xre B n q = 3 then xl3 B n q d
  else if xre B n q = 4 then xl4 B n q d
  else if xre B n q = 5 then xl5 B n q d
  else if xre B n q = 6 then xl6 B n q d
  else if xre B n q = 7 then xl7 B n q d
  else (1, q, q)
/-- bits of HOURS from one up to the one ahead of another -/
def xhf (a b : Int) : Nat → Int
  | 0 => 0
  | h + 1 => xhf a b h + (if a ≤ h ∧ (h : Int) < b then 2 ^ h else 0)
def xhs (a b : Int) : Int := xhf a b 24
/-- what is told behind the line -/
def xdlaw (d : xD) : xD := wq_u (wq_u (wq_u d 0 0 (xV B n (xN B n q))) 0 1 (xV B n (xN B n (xN B n (xN B n q))))) 0 2 (xV B n (xN B n (xN B n (xN B n (xN B n (xN B n q))))))
def xhb : Int := if xw B n q 8423732 = 0 then xV B n (xN B n q) else -1
def xnf : Int := if xw B n q 14384 = 0 then xV B n (xN B n q) else 0
def xnt : Int := if xw B n q 14384 = 0 then xV B n (xN B n (xN B n (xN B n q))) else 0
def xaw : Int := if xw B n q 56377 = 0 then 1 else 0
def xdper (d : xD) : xD := wq_u (wq_u (wq_u (wq_u (wq_u (wq_u (wq_u (wq_u (wq_u (wq_u d 1 (d 0 3).toNat (xY B n q)) 2 (d 0 3).toNat (xV B n (xN B n (xN B n q)))) 3 (d 0 3).toNat (xV B n (xN B n (xN B n (xN B n (xN B n q)))))) 4 (d 0 3).toNat (xV B n (xN B n (xN B n (xN B n (xN B n (xN B n (xN B n q)))))))) 5 (d 0 3).toNat (xV B n (xN B n (xN B n (xN B n (xN B n (xN B n (xN B n (xN B n (xN B n q)))))))))) 6 (d 0 3).toNat (xhb B n (xN B n (xN B n (xN B n (xN B n (xN B n (xN B n (xN B n (xN B n (xN B n q))))))))))) 7 (d 0 3).toNat (xnf B n (xqa B n (xN B n (xN B n (xN B n (xN B n (xN B n (xN B n (xN B n (xN B n (xN B n q)))))))))))) 8 (d 0 3).toNat (xnt B n (xqa B n (xN B n (xN B n (xN B n (xN B n (xN B n (xN B n (xN B n (xN B n (xN B n q)))))))))))) 9 (d 0 3).toNat (xaw B n (xqb B n (xqa B n (xN B n (xN B n (xN B n (xN B n (xN B n (xN B n (xN B n (xN B n (xN B n q))))))))))))) 0 3 (d 0 3 + 1)
def xdsex (d : xD) : xD := wq_u d 0 8 (xwho B n q d)
def xdap (d : xD) : xD := wq_u (wq_u (wq_u d 10 (d 0 4).toNat (xwho B n q d)) 11 (d 0 4).toNat (xwho B n (xN B n (xN B n q)) d)) 0 4 (d 0 4 + 1)
def xdbo (d : xD) : xD := wq_u (wq_u d 12 (d 0 5).toNat (xV B n q)) 0 5 (d 0 5 + 1)
def xdst (d : xD) : xD := wq_u d 13 (xV B n q).toNat (xV B n (xN B n (xN B n q)) + 1)
def xdtl (d : xD) : xD := wq_u (wq_u (wq_u d 14 (d 0 6).toNat (xwho B n q d)) 15 (d 0 6).toNat (xhs (xV B n (xN B n q)) (xV B n (xN B n (xN B n (xN B n q)))))) 0 6 (d 0 6 + 1)
def xdof (d : xD) : xD := wq_u (wq_u (wq_u d 17 (d 0 7).toNat (xwho B n q d)) 16 (d 0 7).toNat (xhs (xV B n (xN B n q)) (xV B n (xN B n (xN B n (xN B n q)))))) 0 7 (d 0 7 + 1)
def xdline (d : xD) : xD :=
  if xre B n q = 0 then xdlaw B n (xN B n q) d
  else if xre B n q = 1 then xdper B n (xN B n q) d
  else if xre B n q = 2 then xdsex B n (xN B n q) d
  else if xre B n q = 3 then xdap B n (xN B n q) d
  else if xre B n q = 4 then xdbo B n (xN B n q) d
  else if xre B n q = 5 then xdst B n (xN B n q) d
  else if xre B n q = 6 then xdtl B n (xN B n q) d
  else xdof B n (xN B n q) d
end XLN
/-- a text: line behind line -/
def xpf (B : Nat → Int) (n : Int) : Nat → Int → xD → xO × xD
  | 0, q, d => ((1, q, q), d)
  | f + 1, q, d =>
    if (xline B n q d).1 = 0 then
      (if xK B n (xline B n q d).2.2 = 0 then
        (if xdline B n q d 0 0 > 0 ∧ xdline B n q d 0 3 > 0 then ((0, q, q), xdline B n q d) else ((6, (xline B n q d).2.2, q), xdline B n q d))
      else if xK B n (xline B n q d).2.2 = 3 then xpf B n f (xN B n (xline B n q d).2.2) (xdline B n q d)
      else ((1, (xline B n q d).2.2, q), xdline B n q d))
    else (xline B n q d, d)
def xparse (B : Nat → Int) (n : Int) : xO × xD := xpf B n 902 (xG 32 32 B n 0) xD0
section XTK

variable {lo hi : Int} {B : Nat → Int} {n p q v : Int}
theorem xG_at : xG lo hi B n q = q ∨ (lo ≤ B q.toNat ∧ B q.toNat ≤ hi ∧ q < n) := by
  by_cases h : q < n ∧ lo ≤ B q.toNat ∧ B q.toNat ≤ hi
  · exact Or.inr ⟨h.2.1, h.2.2, h.1⟩
  · exact Or.inl (xG_e h)
theorem xG_ez : (q < n ∧ lo ≤ B q.toNat ∧ B q.toNat ≤ hi) ∨ xG lo hi B n q = q := by
  by_cases h : q < n ∧ lo ≤ B q.toNat ∧ B q.toNat ≤ hi
  · exact Or.inl h
  · exact Or.inr (xG_e h)
theorem xkf_Y2 (h0 : q ≤ v) (h : v ≤ xG 97 122 B n q) : 8 < v - q ∨ (0 ≤ xkf 32 96 B q (v - q).toNat ∧ xkf 32 96 B q (v - q).toNat ≤ 1099511627775) := by
  by_cases h8 : 8 < v - q
  · exact Or.inl h8
  · exact Or.inr (xkf_Y h0 (by omega) (fun j h1 h2 => xG_in (n := n) h1 (by omega)))
theorem xkf_V2 (h0 : q ≤ v) : xG 48 57 B n q < v ∨ 3 < v - q ∨ (0 ≤ xkf 10 48 B q (v - q).toNat ∧ xkf 10 48 B q (v - q).toNat ≤ 999) := by
  by_cases h : xG 48 57 B n q < v
  · exact Or.inl h
  · by_cases h8 : 3 < v - q
    · exact Or.inr (Or.inl h8)
    · exact Or.inr (Or.inr (xkf_V h0 (by omega) (fun j h1 h2 => xG_in (n := n) h1 (by omega))))
theorem xG_q : v ≠ q ∨ xG lo hi B n v = xG lo hi B n q := by
  by_cases h : v = q
  · subst h
    exact Or.inr rfl
  · exact Or.inl h
theorem xkf_q {m c : Int} : v ≠ q ∨ xkf m c B q (v - q).toNat = 0 := by
  by_cases h : v = q
  · subst h
    exact Or.inr xkf_0
  · exact Or.inl h
theorem xY_of : v ≠ xG 97 122 B n q ∨ xkf 32 96 B q (v - q).toNat = xY B n q := by
  by_cases h : v = xG 97 122 B n q
  · subst h
    exact Or.inr rfl
  · exact Or.inl h
theorem xV_of : v ≠ xG 48 57 B n q ∨ xkf 10 48 B q (v - q).toNat = xV B n q := by
  by_cases h : v = xG 48 57 B n q
  · subst h
    exact Or.inr rfl
  · exact Or.inl h
end XTK
/-- a string's key, as it is computed -/
def wkw (t : List Int32) : Nat → Int
  | 0 => 0
  | i + 1 => wl_w (wl_w (wkw t i * 32) + wq_w (wq_w ((t.getD i 0).toInt - 97) + 1))
theorem wkw_s {t : List Int32} {i : Int} (h : 0 ≤ i) : wkw t (i + 1).toNat = wl_w (wl_w (wkw t i.toNat * 32) + wq_w (wq_w ((t.getD i.toNat 0).toInt - 97) + 1)) := by
  rw [show (i + 1).toNat = i.toNat + 1 by omega]
  rfl
theorem wkw_m {t : List Int32} {i : Int} (h : 0 ≤ i) : wkw t (i + 1).toNat = wl_w (wl_w (32 * wkw t i.toNat) + wq_w (wq_w ((t.getD i.toNat 0).toInt - 97) + 1)) := by
  rw [wkw_s h, Int.mul_comm]
theorem xref_b {y : Int} : ∀ (f : Nat) (v : Int), v ≤ xref y f v ∧ xref y f v ≤ v + f
  | 0, v => by
    show v ≤ v ∧ v ≤ v + (0 : Nat)
    omega
  | f + 1, v => by
    by_cases h : y = xRK v.toNat
    · rw [xref_e h]
      omega
    · rw [xref_s h]
      have := @xref_b y f (v + 1)
      omega
theorem xref_at {y : Int} : ∀ (f : Nat) (v : Int), xref y f v = v + f ∨ y = xRK (xref y f v).toNat
  | 0, v => Or.inl (by show v = v + (0 : Nat); omega)
  | f + 1, v => by
    by_cases h : y = xRK v.toNat
    · rw [xref_e h]
      exact Or.inr h
    · rw [xref_s h]
      rcases @xref_at y f (v + 1) with h1 | h1
      · exact Or.inl (by rw [h1]; omega)
      · exact Or.inr h1
theorem xref_le {y : Int} : ∀ (f : Nat) (v i : Int), v ≤ i → i < v + f → y = xRK i.toNat → xref y f v ≤ i
  | 0, v, i, h1, h2, h3 => by omega
  | f + 1, v, i, h1, h2, h3 => by
    by_cases h : y = xRK v.toNat
    · rw [xref_e h]
      exact h1
    · rw [xref_s h]
      by_cases hi : i = v
      · subst hi
        exact absurd h3 h
      · exact xref_le f (v + 1) i (by omega) (by omega) h3
section XRE

variable {B : Nat → Int} {n q : Int}
theorem xre_b : (xK B n q = 1 ∧ 0 ≤ xre B n q ∧ xre B n q ≤ 11) ∨ (xK B n q ≠ 1 ∧ xre B n q = 12) := by
  unfold xre
  split
  · next h =>
    have := @xref_b (xY B n q) 11 0
    exact Or.inl ⟨h, by omega, by omega⟩
  · next h => exact Or.inr ⟨h, rfl⟩
theorem xre_at (i K : Int) (h : xRK i.toNat = K) (h0 : 0 ≤ i ∧ i < 11) : xre B n q ≠ i ∨ (xK B n q = 1 ∧ xY B n q = K) := by
  by_cases hi : xre B n q = i
  · rcases @xre_b B n q with ⟨h1, h2⟩ | h1
    · refine Or.inr ⟨h1, ?_⟩
      have e : xre B n q = xref (xY B n q) 11 0 := if_pos h1
      rcases @xref_at (xY B n q) 11 0 with h3 | h3
      · rw [← e] at h3
        omega
      · rw [← e, hi, h] at h3
        exact h3
    · omega
  · exact Or.inl hi
theorem xre_le (i K : Int) (h : xRK i.toNat = K) (h0 : 0 ≤ i ∧ i < 11) : xK B n q ≠ 1 ∨ xY B n q ≠ K ∨ xre B n q ≤ i := by
  by_cases h1 : xK B n q = 1
  · by_cases h2 : xY B n q = K
    · refine Or.inr (Or.inr ?_)
      have e : xre B n q = xref (xY B n q) 11 0 := if_pos h1
      rw [e]
      exact xref_le 11 0 i (by omega) (by omega) (by rw [h2, h])
    · exact Or.inr (Or.inl h2)
  · exact Or.inl h1
end XRE
/-! bits, by trial of all (own work) -/
theorem hb_all : (List.range 25).all (fun a => (List.range 37).all (fun b => decide (b < a) || decide (wq_and (wq_w (wl_w (wl_shl 1 (b : Int) - wl_shl 1 (a : Int)))) 16777215 = xhs a b))) = true := by decide +kernel
theorem hb_ok {a b : Int} (h0 : 0 ≤ a) (h1 : a ≤ 24) (h2 : a ≤ b) (h3 : b ≤ 36) : wq_and (wq_w (wl_w (wl_shl 1 b - wl_shl 1 a))) 16777215 = xhs a b := by
  have h := List.all_eq_true.mp (List.all_eq_true.mp hb_all a.toNat (List.mem_range.mpr (by omega))) b.toNat (List.mem_range.mpr (by omega))
  simp only [Bool.or_eq_true, decide_eq_true_eq, Int.toNat_of_nonneg h0, Int.toNat_of_nonneg (Int.le_trans h0 h2)] at h
  rcases h with h | h
  · omega
  · exact h
theorem ab_all : (List.range 64).all (fun m => (List.range 6).all (fun s => decide (0 ≤ wq_or (m : Int) (wq_shl 1 (s : Int)) ∧ wq_or (m : Int) (wq_shl 1 (s : Int)) ≤ 63) && (List.range 6).all (fun j => decide (wq_and (wq_shr (wq_or (m : Int) (wq_shl 1 (s : Int))) (j : Int)) 1 = if j = s then 1 else wq_and (wq_shr (m : Int) (j : Int)) 1)))) = true := by decide +kernel
theorem ab_ok {m s : Int} (h0 : 0 ≤ m) (h1 : m ≤ 63) (h2 : 0 ≤ s) (h3 : s < 6) : 0 ≤ wq_or m (wq_shl 1 s) ∧ wq_or m (wq_shl 1 s) ≤ 63 ∧ ∀ j : Nat, j < 6 → wq_and (wq_shr (wq_or m (wq_shl 1 s)) (j : Int)) 1 = if (j : Int) = s then 1 else wq_and (wq_shr m (j : Int)) 1 := by
  have h := List.all_eq_true.mp (List.all_eq_true.mp ab_all m.toNat (List.mem_range.mpr (by omega))) s.toNat (List.mem_range.mpr (by omega))
  simp only [Bool.and_eq_true, decide_eq_true_eq, Int.toNat_of_nonneg h0, Int.toNat_of_nonneg h2] at h
  refine ⟨h.1.1, h.1.2, fun j hj => ?_⟩
  have h5 := List.all_eq_true.mp h.2 j (List.mem_range.mpr hj)
  simp only [decide_eq_true_eq] at h5
  rw [h5]
  by_cases e : j = s.toNat
  · rw [if_pos e, if_pos (by omega)]
  · rw [if_neg e, if_neg (by omega)]
theorem ab_0 : (List.range 6).all (fun j => decide (wq_and (wq_shr 0 (j : Int)) 1 = 0)) = true := by decide +kernel
theorem ab_z {j : Nat} (h : j < 6) : wq_and (wq_shr 0 (j : Int)) 1 = 0 := by
  have h1 := List.all_eq_true.mp ab_0 j (List.mem_range.mpr h)
  simpa using h1
theorem xpf_u {B : Nat → Int} {n q : Int} {d : xD} (f : Nat) : xpf B n (f + 1) q d = if (xline B n q d).1 = 0 then (if xK B n (xline B n q d).2.2 = 0 then (if xdline B n q d 0 0 > 0 ∧ xdline B n q d 0 3 > 0 then ((0, q, q), xdline B n q d) else ((6, (xline B n q d).2.2, q), xdline B n q d)) else if xK B n (xline B n q d).2.2 = 3 then xpf B n f (xN B n (xline B n q d).2.2) (xdline B n q d) else ((1, (xline B n q d).2.2, q), xdline B n q d)) else (xline B n q d, d) := rfl
theorem xpf_e {B : Nat → Int} {n q v : Int} {d : xD} (h : v ≤ 901) : xpf B n (902 - v).toNat q d = if (xline B n q d).1 = 0 then (if xK B n (xline B n q d).2.2 = 0 then (if xdline B n q d 0 0 > 0 ∧ xdline B n q d 0 3 > 0 then ((0, q, q), xdline B n q d) else ((6, (xline B n q d).2.2, q), xdline B n q d)) else if xK B n (xline B n q d).2.2 = 3 then xpf B n (902 - (v + 1)).toNat (xN B n (xline B n q d).2.2) (xdline B n q d) else ((1, (xline B n q d).2.2, q), xdline B n q d)) else (xline B n q d, d) := by
  rw [show (902 - v).toNat = (902 - (v + 1)).toNat + 1 by omega]
  exact xpf_u _
/-! what a token is, by the numbers that both readers hold -/
/-- where letters or else digits end -/
def xZ (B : Nat → Int) (n q : Int) : Int := if xG 97 122 B n q = q then xG 48 57 B n q else xG 97 122 B n q
theorem xG_b2 {lo hi : Int} {B : Nat → Int} {n p : Int} (h : p ≤ n) : p ≤ xG lo hi B n p ∧ xG lo hi B n p ≤ n := by
  have := @xG_b lo hi B n p
  omega
theorem xB_e {B : Nat → Int} {q v : Int} (h : v = q) : B v.toNat = B q.toNat := by rw [h]
theorem xZ_w {B : Nat → Int} {n q : Int} : xG 97 122 B n q = q ∨ xZ B n q = xG 97 122 B n q := by
  by_cases h : xG 97 122 B n q = q
  · exact Or.inl h
  · exact Or.inr (if_neg h)
theorem xZ_d {B : Nat → Int} {n q : Int} : xG 97 122 B n q ≠ q ∨ xZ B n q = xG 48 57 B n q := by
  by_cases h : xG 97 122 B n q = q
  · exact Or.inr (if_pos h)
  · exact Or.inl h
theorem xZ_b {B : Nat → Int} {n q : Int} (h : q ≤ n) : q ≤ xZ B n q ∧ xZ B n q ≤ n := by
  have h1 := @xG_b2 97 122 B n q h
  have h2 := @xG_b2 48 57 B n q h
  unfold xZ
  split
  · exact h2
  · exact h1
theorem xM0 {B : Nat → Int} {n q : Int} (h : n ≤ q) : xK B n q = 0 ∧ xE B n q = q := ⟨if_pos h, if_pos h⟩
theorem xM1 {B : Nat → Int} {n q : Int} (h0 : q < n) (h1 : 97 ≤ B q.toNat) (h2 : B q.toNat ≤ 122) (h3 : xG 97 122 B n q - q ≤ 8) : xK B n q = 1 ∧ xE B n q = xG 97 122 B n q := by
  have c1 : ¬ (n ≤ q) := by omega
  have c2 : 97 ≤ B q.toNat ∧ B q.toNat ≤ 122 := ⟨h1, h2⟩
  unfold xK xE
  exact ⟨by rw [if_neg c1, if_pos c2, if_pos h3], by rw [if_neg c1, if_pos c2]⟩
theorem xM5 {B : Nat → Int} {n q : Int} (h0 : q < n) (h1 : 97 ≤ B q.toNat) (h2 : B q.toNat ≤ 122) (h3 : 8 < xG 97 122 B n q - q) : xK B n q = 5 ∧ xE B n q = xG 97 122 B n q := by
  have c1 : ¬ (n ≤ q) := by omega
  have c2 : 97 ≤ B q.toNat ∧ B q.toNat ≤ 122 := ⟨h1, h2⟩
  have c3 : ¬ (xG 97 122 B n q - q ≤ 8) := by omega
  unfold xK xE
  exact ⟨by rw [if_neg c1, if_pos c2, if_neg c3], by rw [if_neg c1, if_pos c2]⟩
theorem xM2 {B : Nat → Int} {n q : Int} (h0 : q < n) (h1 : 48 ≤ B q.toNat) (h2 : B q.toNat ≤ 57) (h3 : xG 48 57 B n q - q ≤ 3) : xK B n q = 2 ∧ xE B n q = xG 48 57 B n q := by
  have c1 : ¬ (n ≤ q) := by omega
  have c2 : ¬ (97 ≤ B q.toNat ∧ B q.toNat ≤ 122) := by omega
  have c4 : 48 ≤ B q.toNat ∧ B q.toNat ≤ 57 := ⟨h1, h2⟩
  unfold xK xE
  exact ⟨by rw [if_neg c1, if_neg c2, if_pos c4, if_pos h3], by rw [if_neg c1, if_neg c2, if_pos c4]⟩
theorem xM6 {B : Nat → Int} {n q : Int} (h0 : q < n) (h1 : 48 ≤ B q.toNat) (h2 : B q.toNat ≤ 57) (h3 : 3 < xG 48 57 B n q - q) : xK B n q = 5 ∧ xE B n q = xG 48 57 B n q := by
  have c1 : ¬ (n ≤ q) := by omega
  have c2 : ¬ (97 ≤ B q.toNat ∧ B q.toNat ≤ 122) := by omega
  have c4 : 48 ≤ B q.toNat ∧ B q.toNat ≤ 57 := ⟨h1, h2⟩
  have c5 : ¬ (xG 48 57 B n q - q ≤ 3) := by omega
  unfold xK xE
  exact ⟨by rw [if_neg c1, if_neg c2, if_pos c4, if_neg c5], by rw [if_neg c1, if_neg c2, if_pos c4]⟩
theorem xM7 {B : Nat → Int} {n q : Int} (h0 : q < n) (h1 : ¬ (97 ≤ B q.toNat ∧ B q.toNat ≤ 122)) (h2 : ¬ (48 ≤ B q.toNat ∧ B q.toNat ≤ 57)) (h3 : B q.toNat ≠ 59) (h4 : B q.toNat ≠ 44) : xK B n q = 5 ∧ xE B n q = q + 1 := by
  have c1 : ¬ (n ≤ q) := by omega
  unfold xK xE
  exact ⟨by rw [if_neg c1, if_neg h1, if_neg h2, if_neg h3, if_neg h4], by rw [if_neg c1, if_neg h1, if_neg h2]⟩
theorem xM3 {B : Nat → Int} {n q : Int} (h0 : q < n) (h1 : B q.toNat = 59) : xK B n q = 3 ∧ xE B n q = q + 1 := by
  have c1 : ¬ (n ≤ q) := by omega
  have c2 : ¬ (97 ≤ B q.toNat ∧ B q.toNat ≤ 122) := by omega
  have c3 : ¬ (48 ≤ B q.toNat ∧ B q.toNat ≤ 57) := by omega
  unfold xK xE
  exact ⟨by rw [if_neg c1, if_neg c2, if_neg c3, if_pos h1], by rw [if_neg c1, if_neg c2, if_neg c3]⟩
theorem xM4 {B : Nat → Int} {n q : Int} (h0 : q < n) (h1 : B q.toNat = 44) : xK B n q = 4 ∧ xE B n q = q + 1 := by
  have c1 : ¬ (n ≤ q) := by omega
  have c2 : ¬ (97 ≤ B q.toNat ∧ B q.toNat ≤ 122) := by omega
  have c3 : ¬ (48 ≤ B q.toNat ∧ B q.toNat ≤ 57) := by omega
  have c4 : ¬ (B q.toNat = 59) := by omega
  unfold xK xE
  exact ⟨by rw [if_neg c1, if_neg c2, if_neg c3, if_neg c4, if_pos h1], by rw [if_neg c1, if_neg c2, if_neg c3]⟩
theorem xG_up {lo hi : Int} {B : Nat → Int} {n q : Int} (h : q < xG lo hi B n q) : lo ≤ B q.toNat ∧ B q.toNat ≤ hi ∧ q < n := by
  rcases @xG_at lo hi B n q with a | a
  · omega
  · exact a
theorem xG_no {lo hi : Int} {B : Nat → Int} {n q : Int} (h0 : q < n) (h : xG lo hi B n q ≤ q) : ¬ (lo ≤ B q.toNat ∧ B q.toNat ≤ hi) := fun c => by
  have := xG_1 h0 c.1 c.2
  omega
theorem xL1 {B : Nat → Int} {n q : Int} (h1 : q < xG 97 122 B n q) (h2 : xG 97 122 B n q - q ≤ 8) : xK B n q = 1 ∧ xE B n q = xZ B n q := by
  obtain ⟨a1, a2, a3⟩ := xG_up h1
  have e : xZ B n q = xG 97 122 B n q := if_neg (by omega)
  rw [e]
  exact xM1 a3 a1 a2 h2
theorem xL5 {B : Nat → Int} {n q : Int} (h1 : 8 < xG 97 122 B n q - q) : xK B n q = 5 ∧ xE B n q = xZ B n q := by
  obtain ⟨a1, a2, a3⟩ := xG_up (lo := 97) (hi := 122) (B := B) (n := n) (q := q) (by omega)
  have e : xZ B n q = xG 97 122 B n q := if_neg (by omega)
  rw [e]
  exact xM5 a3 a1 a2 h1
theorem xL2 {B : Nat → Int} {n q : Int} (h1 : xG 97 122 B n q ≤ q) (h2 : q < xZ B n q) (h3 : xZ B n q - q ≤ 3) : xK B n q = 2 ∧ xE B n q = xZ B n q := by
  have b := (@xG_b 97 122 B n q).1
  have e : xZ B n q = xG 48 57 B n q := if_pos (by omega)
  rw [e] at h2 h3 ⊢
  obtain ⟨a1, a2, a3⟩ := xG_up h2
  exact xM2 a3 a1 a2 h3
theorem xL6 {B : Nat → Int} {n q : Int} (h1 : xG 97 122 B n q ≤ q) (h3 : 3 < xZ B n q - q) : xK B n q = 5 ∧ xE B n q = xZ B n q := by
  have b := (@xG_b 97 122 B n q).1
  have e : xZ B n q = xG 48 57 B n q := if_pos (by omega)
  rw [e] at h3 ⊢
  obtain ⟨a1, a2, a3⟩ := xG_up (lo := 48) (hi := 57) (B := B) (n := n) (q := q) (by omega)
  exact xM6 a3 a1 a2 h3
theorem xL3 {B : Nat → Int} {n q : Int} (h0 : q < n) (h3 : B q.toNat = 59) : xK B n q = 3 ∧ xE B n q = q + 1 := xM3 h0 h3
theorem xL4 {B : Nat → Int} {n q : Int} (h0 : q < n) (h3 : B q.toNat = 44) : xK B n q = 4 ∧ xE B n q = q + 1 := xM4 h0 h3
theorem xL7 {B : Nat → Int} {n q : Int} (h0 : q < n) (h1 : xG 97 122 B n q ≤ q) (h2 : xZ B n q ≤ q) (h3 : B q.toNat ≠ 59) (h4 : B q.toNat ≠ 44) : xK B n q = 5 ∧ xE B n q = q + 1 := by
  have b := (@xG_b 97 122 B n q).1
  have e : xZ B n q = xG 48 57 B n q := if_pos (by omega)
  rw [e] at h2
  exact xM7 h0 (xG_no h0 h1) (xG_no h0 h2) h3 h4
