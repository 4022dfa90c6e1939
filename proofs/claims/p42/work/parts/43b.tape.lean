/-! THE TAPE (own work): what is fed -/
def xub (B : Nat → Int) (i z : Int) : Nat → Int := fun j => if j = i.toNat then z else B j
def xby (v s : Int) : Int := wq_i2b (wq_shr v s)
def xpk (B : Nat → Int) (t v : Int) : Nat → Nat → Int
  | 0 => B
  | i + 1 => xub (xpk B t v i) (t + i) (xby v (24 - 8 * i))
def xw5 (a b c d e : Int) (j : Nat) : Int := if j = 0 then a else if j = 1 then b else if j = 2 then c else if j = 3 then d else e
def xfk (B : Nat → Int) (t a b c d e : Int) : Nat → Nat → Int
  | 0 => B
  | k + 1 => xub (xfk B t a b c d e k) (t + k) (xby (xw5 a b c d e (k / 4)) (24 - 8 * (k % 4 : Nat)))
section TAPE

variable {T : wq_T} {H H' : wq_H} {rb k : Nat} {B : Nat → Int} {t v z s : Int} {i : Nat}
theorem TP_pk (h : TP T H rb (xpk B t v i)) (e : H' = wq_u H rb k z) (hk : (k : Int) = t + i) (hz : z = wq_i2b (wq_shr v s)) (hs : s = 24 - 8 * i) : TP T H' rb (xpk B t v (i + 1)) := fun j hj => by
  show H' rb j = if j = (t + i).toNat then xby v (24 - 8 * i) else xpk B t v i j
  rw [e]
  by_cases hjk : j = k
  · rw [hjk, wq_u_eq, if_pos (by omega), hz, hs]
    rfl
  · rw [wq_u_ne (fun q => hjk q.2), if_neg (by omega)]
    exact h j hj
theorem xfk_4 {a b c d e : Int} : xpk (xpk (xpk (xpk (xpk B t a 4) (t + 4) b 4) (t + 8) c 4) (t + 12) d 4) (t + 16) e 4 = xfk B t a b c d e 20 := by
  unfold xpk xpk xpk xpk xpk
  show _ = xub (xfk B t a b c d e 19) _ _
  simp only [xpk, xfk, Int.add_assoc]
  rfl
theorem TM_fk {a b c d e w sh : Int} (h : TM T H rb (xfk B t a b c d e i)) (e1 : H' = wq_u H rb k z) (hk : (k : Int) = t + i) (hz : z = wq_i2b (wq_shr w sh)) (hs : sh = 24 - 8 * (i % 4 : Nat)) (hw : w = xw5 a b c d e (i / 4)) : TM T H' rb (xfk B t a b c d e (i + 1)) := fun j hj => by
  show H' rb j = if j = (t + i).toNat then xby (xw5 a b c d e (i / 4)) (24 - 8 * (i % 4 : Nat)) else xfk B t a b c d e i j
  rw [e1]
  by_cases hjk : j = k
  · rw [hjk, wq_u_eq, if_pos (by omega), hz, hs, hw]
    rfl
  · rw [wq_u_ne (fun q => hjk q.2), if_neg (by omega)]
    exact h j hj
theorem xw5_e {a b c d e : Int} : (i / 4 = 0 ∧ xw5 a b c d e (i / 4) = a) ∨ (i / 4 = 1 ∧ xw5 a b c d e (i / 4) = b) ∨ (i / 4 = 2 ∧ xw5 a b c d e (i / 4) = c) ∨ (i / 4 = 3 ∧ xw5 a b c d e (i / 4) = d) ∨ (4 ≤ i / 4 ∧ xw5 a b c d e (i / 4) = e) := by
  unfold xw5
  repeat' split
  all_goals omega
end TAPE
