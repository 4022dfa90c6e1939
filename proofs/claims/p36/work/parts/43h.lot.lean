/-! A LOT BY ITS NUMBER (own work) -/
def xlot (d : xD) (a : Int) (k : Nat) : Int := a / xpr d (k + 1) ((d 0 3).toNat - (k + 1)) % ((xsp d k).length : Int)
section LOT6

variable {T : wq_T} {H H' : wq_H} {m b s tg : Nat} {d : xD} {v w S c a i n : Int} {k : Nat} {g : Nat → Int}
theorem pos_r {x y : Int} (h : 0 < x * y) (hy : 0 ≤ y) : 0 < y := by
  by_cases e : y = 0
  · rw [e, Int.mul_zero] at h
    omega
  · omega
theorem pos_l {x y : Int} (h : 0 < x * y) (hx : 0 ≤ x) : 0 < x := by
  rw [Int.mul_comm] at h
  exact pos_r h hx
theorem xpr_pos (hP : xdP d) (h : 0 < xlots d) (hk : (k : Int) < d 0 3) : 0 < ((xsp d k).length : Int) ∧ 0 < xpr d (k + 1) ((d 0 3).toNat - (k + 1)) := by
  have t := @wpr_x d (fun k => ((xsp d k).length : Int)) k ((d 0 3).toNat - k) (fun _ _ => rfl)
  rw [show k + ((d 0 3).toNat - k) = (d 0 3).toNat by omega] at t
  have h1 : 0 < wpr (fun k => ((xsp d k).length : Int)) k * xpr d k ((d 0 3).toNat - k) := by
    rw [t]
    exact h
  have h2 := pos_r h1 (xpr_b hP _ _).1
  rw [xpr_i hk] at h2
  exact ⟨pos_l h2 (by omega), pos_r h2 (xpr_b hP _ _).1⟩
/-- the reference's way: from the last person down -/
def LR (S tg : Nat) (T : wq_T) (H : wq_H) (m : Nat) (i n : Int) (f : Nat → Int) : Prop := ∃ b : Nat, H m S = (b : Int) ∧ T.2.2.2 b = some tg ∧ ∀ k : Nat, i ≤ k → (k : Int) < n → H b k = f k
abbrev LQ27 := LR 27 51
theorem LR_at (h : LR s tg T H m i n g) (e0 : H m s = (b : Int)) (hi : i ≤ k) (hk : (k : Int) < n) : H b k = g k := by
  obtain ⟨b', h1, h2, h3⟩ := h
  have hb : b' = b := by omega
  subst hb
  exact h3 k hi hk
end LOT6
