/-! A LOT BY ITS NUMBER (own work) -/
def xlot (d : xD) (a : Int) (k : Nat) : Int := a / xpr d (k + 1) ((d 0 3).toNat - (k + 1)) % ((xsp d k).length : Int)
section LOT6

variable {T : wq_T} {H H' : wq_H} {m b s tg : Nat} {d : xD} {v w S c a i n : Int} {k : Nat} {g : Nat → Int}
theorem xpr_5 (hP : xdP d) (h6 : d 0 3 ≤ 6) (k : Nat) : 0 ≤ xpr d (k + 1) ((d 0 3).toNat - (k + 1)) ∧ xpr d (k + 1) ((d 0 3).toNat - (k + 1)) ≤ 102400000 := by
  have h1 := xpr_b hP ((d 0 3).toNat - (k + 1)) (k + 1)
  have h2 : (40 : Int) ^ ((d 0 3).toNat - (k + 1)) ≤ 102400000 := by
    have h3 : (d 0 3).toNat - (k + 1) ≤ 5 := by omega
    generalize (d 0 3).toNat - (k + 1) = n at h3
    match n, h3 with
    | 0, _ => decide
    | 1, _ => decide
    | 2, _ => decide
    | 3, _ => decide
    | 4, _ => decide
    | 5, _ => decide
    | n + 6, h => omega
  omega
theorem pos_r {x y : Int} (h : 0 < x * y) (hy : 0 ≤ y) : 0 < y := by
  by_cases e : y = 0
  · rw [e, Int.mul_zero] at h
    omega
  · omega
theorem pos_l {x y : Int} (h : 0 < x * y) (hx : 0 ≤ x) : 0 < x := by
  rw [Int.mul_comm] at h
  exact pos_r h hx
theorem xpr_pos (hP : xdP d) (h : 0 < xlots d) (hk : (k : Int) < d 0 3) : 0 < ((xsp d k).length : Int) ∧ 0 < xpr d (k + 1) ((d 0 3).toNat - (k + 1)) := by
  have t := @wpr_x d (fun k => ((xsp d k).length : Int)) k ((d 0 3).toNat - k) (fun _ _ => rfl)
  rw [show k + ((d 0 3).toNat - k) = (d 0 3).toNat by omega] at t
  have h1 : 0 < wpr (fun k => ((xsp d k).length : Int)) k * xpr d k ((d 0 3).toNat - k) := by
    rw [t]
    exact h
  have h2 := pos_r h1 (xpr_b hP _ _).1
  rw [xpr_i hk] at h2
  exact ⟨pos_l h2 (by omega), pos_r h2 (xpr_b hP _ _).1⟩
/-- the reference's way: from the last person down -/
def LR (S tg : Nat) (T : wq_T) (H : wq_H) (m : Nat) (i n : Int) (f : Nat → Int) : Prop := ∃ b : Nat, H m S = (b : Int) ∧ T.2.2.2 b = some tg ∧ ∀ k : Nat, i ≤ k → (k : Int) < n → H b k = f k
abbrev LQ27 := LR 27 51
abbrev LQ31 := LR 31 53
theorem LR_fr (gm : T.2.2.2 m = some 42) {l : List (Nat × Nat)} (f : wfr l T H H') (x : DAw 42 s tg l = true) (h : LR s tg T H m i n g) : LR s tg T H' m i n g := by
  unfold DAw at x
  rw [Bool.and_eq_true] at x
  obtain ⟨b, h1, h2, h3⟩ := h
  exact ⟨b, (wno_f f gm x.1 (by simp)).trans h1, h2, fun k p q => (wno_f f h2 x.2 rfl).trans (h3 k p q)⟩
theorem LQ31_fr (hW : WT T H) (gm : T.2.2.2 m = some 42) {l : List (Nat × Nat)} (f : wfr l T H H') (x : DAw 42 31 53 l = true) (h : LQ31 T H m i n g) : LQ31 T H' m i n g := LR_fr gm f x h
theorem LR_0 (he : ∃ b : Nat, H m s = (b : Int) ∧ T.2.2.2 b = some tg) (hi : n ≤ i) : LR s tg T H m i n g := by
  obtain ⟨b, h1, h2⟩ := he
  exact ⟨b, h1, h2, fun k p q => by omega⟩
theorem LR_put (h : LR s tg T H m (i + 1) n g) (e0 : H m s = (b : Int)) (gm : T.2.2.2 m = some 42) (gb : T.2.2.2 b = some tg) (ne : tg ≠ 42) (e : H' = wq_u H b k v) (hk : (k : Int) = i) (hv : v = g k) : LR s tg T H' m i n g := by
  obtain ⟨b', h1, h2, h3⟩ := h
  have hb : b' = b := by omega
  subst hb
  refine ⟨b', ?_, h2, fun j p q => ?_⟩
  · rw [e, wq_u_na (fun q => ?_)]
    · exact h1
    · subst q
      rw [gm] at gb
      exact ne (Option.some.inj gb).symm
  · by_cases c : j = k
    · subst c
      rw [e, wq_u_eq]
      exact hv
    · rw [e, wq_u_ne (fun q => c q.2)]
      exact h3 j (by omega) q
theorem LR_at (h : LR s tg T H m i n g) (e0 : H m s = (b : Int)) (hi : i ≤ k) (hk : (k : Int) < n) : H b k = g k := by
  obtain ⟨b', h1, h2, h3⟩ := h
  have hb : b' = b := by omega
  subst hb
  exact h3 k hi hk
theorem lft_0 : a = a / xpr d (d 0 3).toNat 0 := by
  show a = a / 1
  rw [Int.ediv_one]
/-- what is left behind one more person -/
theorem lft_s (h0 : 0 ≤ i) (hi : i < d 0 3) (hP : xdP d) (h6 : d 0 3 ≤ 6) (ha : 0 ≤ a ∧ a ≤ 2147483647) (hl : v = a / xpr d (i + 1).toNat ((d 0 3).toNat - (i + 1).toNat)) (hc : 0 < c ∧ c ≤ 40) (ec : c = ((xsp d i.toNat).length : Int)) : (0 ≤ v ∧ v ≤ 2147483647) ∧ wq_rem v c = xlot d a i.toNat ∧ wq_div v c = a / xpr d i.toNat ((d 0 3).toNat - i.toNat) := by
  have b0 := (xpr_5 hP h6 i.toNat).1
  rw [show (i + 1).toNat = i.toNat + 1 by omega] at hl
  have b1 : 0 ≤ v := by
    rw [hl]
    exact Int.ediv_nonneg ha.1 b0
  have b2 : v ≤ a := by
    rw [hl]
    exact Int.ediv_le_self _ ha.1
  refine ⟨⟨b1, by omega⟩, ?_, ?_⟩
  · rw [wq_rem_e ⟨b1, by omega⟩ ⟨hc.1, by omega⟩, hl, ec]
    rfl
  · rw [wq_div_e ⟨b1, by omega⟩ ⟨hc.1, by omega⟩, hl, Int.ediv_ediv_of_nonneg b0, xpr_i (k := i.toNat) (by omega), ec, Int.mul_comm]
end LOT6
