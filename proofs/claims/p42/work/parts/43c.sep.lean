/-! TWO PARISHES APART (own work): a method that can't reach a family of cells is run as if those cells had other tags, which none of its changes names: so they stay as they were -/
def okT (s : Nat) : Bool := s != 1 && (decide (s < 27) || decide (41 < s))
def fine (ty : Nat × Int × Int × Nat) : Bool := ty.1 == 0 || ((ty.1 == 2 || ty.1 == 3) && okT ty.2.2.2) || (ty.1 == 4 && okT ty.2.2.2 && okT ty.2.1.toNat)
def lowt (ty : Nat × Int × Int × Nat) : Bool := ty.1 == 0 || ((ty.1 == 2 || ty.1 == 3) && decide (ty.2.2.2 < 200)) || (ty.1 == 4 && decide (ty.2.2.2 < 200) && decide (ty.2.1.toNat < 200))
theorem fineL {p : Nat × Int × Int × Nat → Bool} : ∀ {l : List (Nat × Int × Int × Nat)} {e : Nat × Int × Int × Nat}, l.all p = true → p e = true → ∀ j, p (l.getD j e) = true
  | [], e, _, he, j => he
  | a :: r, e, h, he, 0 => (Bool.and_eq_true _ _ ▸ h : p a = true ∧ r.all p = true).1
  | a :: r, e, h, he, j + 1 => fineL (l := r) (Bool.and_eq_true _ _ ▸ h : p a = true ∧ r.all p = true).2 he j
def fin : List (Nat → Nat × Int × Int × Nat) → Nat → Prop
  | [], _ => True
  | f :: r, t => (decide (t = 1 ∨ t = 27 ∨ t = 28 ∨ t = 35) = true ∨ ∀ j, fine (f j) = true ∧ lowt (f j) = true) ∧ fin r (t + 1)
theorem fin_all : fin wtyl 0 := ⟨Or.inr (fun _ => ⟨rfl, rfl⟩),
  Or.inl (by decide),
  Or.inr (fun _ => ⟨rfl, rfl⟩),
  Or.inr (fun j => ⟨fineL (e := (0, 0, 0, 0)) (l := ([(2, 0, 0, 4), (0, -1, 24, 0), (0, -1, 24, 0), (0, -2147483648, 2147483647, 0), (0, -2147483648, 2147483647, 0)] : List (Nat × Int × Int × Nat))) rfl rfl j, fineL (p := lowt) (e := (0, 0, 0, 0)) (l := ([(2, 0, 0, 4), (0, -1, 24, 0), (0, -1, 24, 0), (0, -2147483648, 2147483647, 0), (0, -2147483648, 2147483647, 0)] : List (Nat × Int × Int × Nat))) rfl rfl j⟩),
  Or.inr (fun j => ⟨fineL (e := (0, 0, 0, 0)) (l := ([(4, 5, 0, 2), (0, 0, 900, 0), (0, 0, 900, 0), (0, 0, 5, 0), (0, 0, 900, 0), (0, -2147483648, 2147483647, 0), (0, -9223372036854775808, 9223372036854775807, 0)] : List (Nat × Int × Int × Nat))) rfl rfl j, fineL (p := lowt) (e := (0, 0, 0, 0)) (l := ([(4, 5, 0, 2), (0, 0, 900, 0), (0, 0, 900, 0), (0, 0, 5, 0), (0, 0, 900, 0), (0, -2147483648, 2147483647, 0), (0, -9223372036854775808, 9223372036854775807, 0)] : List (Nat × Int × Int × Nat))) rfl rfl j⟩),
  Or.inr (fun _ => ⟨rfl, rfl⟩),
  Or.inr (fun j => ⟨fineL (e := (0, 0, 0, 0)) (l := ([(2, 0, 0, 7), (2, 0, 0, 8), (2, 0, 0, 9), (2, 0, 0, 10), (2, 0, 0, 11), (0, 0, 6, 0)] : List (Nat × Int × Int × Nat))) rfl rfl j, fineL (p := lowt) (e := (0, 0, 0, 0)) (l := ([(2, 0, 0, 7), (2, 0, 0, 8), (2, 0, 0, 9), (2, 0, 0, 10), (2, 0, 0, 11), (0, 0, 6, 0)] : List (Nat × Int × Int × Nat))) rfl rfl j⟩),
  Or.inr (fun _ => ⟨rfl, rfl⟩),
  Or.inr (fun _ => ⟨rfl, rfl⟩),
  Or.inr (fun _ => ⟨rfl, rfl⟩),
  Or.inr (fun _ => ⟨rfl, rfl⟩),
  Or.inr (fun _ => ⟨rfl, rfl⟩),
  Or.inr (fun j => ⟨fineL (e := (0, 0, 0, 0)) (l := ([(2, 0, 0, 13), (2, 0, 0, 14), (2, 0, 0, 16), (2, 0, 0, 18), (2, 0, 0, 19), (0, -2147483648, 2147483647, 0), (0, -9223372036854775808, 9223372036854775807, 0), (0, 0, 19999, 0), (0, -9223372036854775808, 9223372036854775807, 0), (0, 0, 1, 0)] : List (Nat × Int × Int × Nat))) rfl rfl j, fineL (p := lowt) (e := (0, 0, 0, 0)) (l := ([(2, 0, 0, 13), (2, 0, 0, 14), (2, 0, 0, 16), (2, 0, 0, 18), (2, 0, 0, 19), (0, -2147483648, 2147483647, 0), (0, -9223372036854775808, 9223372036854775807, 0), (0, 0, 19999, 0), (0, -9223372036854775808, 9223372036854775807, 0), (0, 0, 1, 0)] : List (Nat × Int × Int × Nat))) rfl rfl j⟩),
  Or.inr (fun _ => ⟨rfl, rfl⟩),
  Or.inr (fun _ => ⟨rfl, rfl⟩),
  Or.inr (fun _ => ⟨rfl, rfl⟩),
  Or.inr (fun _ => ⟨rfl, rfl⟩),
  Or.inr (fun _ => ⟨rfl, rfl⟩),
  Or.inr (fun _ => ⟨rfl, rfl⟩),
  Or.inr (fun _ => ⟨rfl, rfl⟩),
  Or.inr (fun j => ⟨fineL (e := (0, 0, 0, 0)) (l := ([(2, 0, 0, 21), (2, 0, 0, 22), (2, 0, 0, 23), (2, 0, 0, 24), (0, 0, 400, 0)] : List (Nat × Int × Int × Nat))) rfl rfl j, fineL (p := lowt) (e := (0, 0, 0, 0)) (l := ([(2, 0, 0, 21), (2, 0, 0, 22), (2, 0, 0, 23), (2, 0, 0, 24), (0, 0, 400, 0)] : List (Nat × Int × Int × Nat))) rfl rfl j⟩),
  Or.inr (fun _ => ⟨rfl, rfl⟩),
  Or.inr (fun _ => ⟨rfl, rfl⟩),
  Or.inr (fun _ => ⟨rfl, rfl⟩),
  Or.inr (fun _ => ⟨rfl, rfl⟩),
  Or.inr (fun j => ⟨fineL (e := (0, 0, 0, 0)) (l := ([(2, 0, 0, 26), (0, 0, 5000, 0), (0, 0, 4999, 0)] : List (Nat × Int × Int × Nat))) rfl rfl j, fineL (p := lowt) (e := (0, 0, 0, 0)) (l := ([(2, 0, 0, 26), (0, 0, 5000, 0), (0, 0, 4999, 0)] : List (Nat × Int × Int × Nat))) rfl rfl j⟩),
  Or.inr (fun _ => ⟨rfl, rfl⟩),
  Or.inl (by decide),
  Or.inl (by decide),
  Or.inr (fun _ => ⟨rfl, rfl⟩),
  Or.inr (fun _ => ⟨rfl, rfl⟩),
  Or.inr (fun _ => ⟨rfl, rfl⟩),
  Or.inr (fun _ => ⟨rfl, rfl⟩),
  Or.inr (fun _ => ⟨rfl, rfl⟩),
  Or.inr (fun _ => ⟨rfl, rfl⟩),
  Or.inl (by decide),
  Or.inr (fun _ => ⟨rfl, rfl⟩),
  Or.inr (fun _ => ⟨rfl, rfl⟩),
  Or.inr (fun _ => ⟨rfl, rfl⟩),
  Or.inr (fun _ => ⟨rfl, rfl⟩),
  Or.inr (fun _ => ⟨rfl, rfl⟩),
  Or.inr (fun _ => ⟨rfl, rfl⟩),
  Or.inr (fun j => ⟨fineL (e := (0, 0, 0, 0)) (l := ([(0, -2147483648, 2147483647, 0), (0, -2147483648, 2147483647, 0), (0, -2147483648, 2147483647, 0), (3, 0, 0, 54), (3, 0, 0, 54), (2, 0, 0, 43), (0, 0, 900, 0), (0, 0, 900, 0), (0, 0, 900, 0), (0, 0, 5, 0), (0, -2147483648, 2147483647, 0), (0, -2147483648, 2147483647, 0), (0, -2147483648, 2147483647, 0), (0, -2147483648, 2147483647, 0), (0, -2147483648, 2147483647, 0), (0, -9223372036854775808, 9223372036854775807, 0), (0, 0, 24, 0), (0, -2147483648, 2147483647, 0), (0, -2147483648, 2147483647, 0), (0, -2147483648, 2147483647, 0), (2, 0, 0, 44), (2, 0, 0, 45), (2, 0, 0, 46), (2, 0, 0, 47), (2, 0, 0, 48), (2, 0, 0, 49), (2, 0, 0, 50), (2, 0, 0, 51), (0, 0, 1, 0), (0, 0, 20000, 0), (2, 0, 0, 52), (2, 0, 0, 53), (0, 0, 2147483647, 0)] : List (Nat × Int × Int × Nat))) rfl rfl j, fineL (p := lowt) (e := (0, 0, 0, 0)) (l := ([(0, -2147483648, 2147483647, 0), (0, -2147483648, 2147483647, 0), (0, -2147483648, 2147483647, 0), (3, 0, 0, 54), (3, 0, 0, 54), (2, 0, 0, 43), (0, 0, 900, 0), (0, 0, 900, 0), (0, 0, 900, 0), (0, 0, 5, 0), (0, -2147483648, 2147483647, 0), (0, -2147483648, 2147483647, 0), (0, -2147483648, 2147483647, 0), (0, -2147483648, 2147483647, 0), (0, -2147483648, 2147483647, 0), (0, -9223372036854775808, 9223372036854775807, 0), (0, 0, 24, 0), (0, -2147483648, 2147483647, 0), (0, -2147483648, 2147483647, 0), (0, -2147483648, 2147483647, 0), (2, 0, 0, 44), (2, 0, 0, 45), (2, 0, 0, 46), (2, 0, 0, 47), (2, 0, 0, 48), (2, 0, 0, 49), (2, 0, 0, 50), (2, 0, 0, 51), (0, 0, 1, 0), (0, 0, 20000, 0), (2, 0, 0, 52), (2, 0, 0, 53), (0, 0, 2147483647, 0)] : List (Nat × Int × Int × Nat))) rfl rfl j⟩),
  Or.inr (fun _ => ⟨rfl, rfl⟩),
  Or.inr (fun _ => ⟨rfl, rfl⟩),
  Or.inr (fun _ => ⟨rfl, rfl⟩),
  Or.inr (fun _ => ⟨rfl, rfl⟩),
  Or.inr (fun _ => ⟨rfl, rfl⟩),
  Or.inr (fun _ => ⟨rfl, rfl⟩),
  Or.inr (fun _ => ⟨rfl, rfl⟩),
  Or.inr (fun _ => ⟨rfl, rfl⟩),
  Or.inr (fun _ => ⟨rfl, rfl⟩),
  Or.inr (fun _ => ⟨rfl, rfl⟩),
  Or.inr (fun _ => ⟨rfl, rfl⟩),
  Or.inr (fun j => ⟨fineL (e := (0, 0, 0, 0)) (l := ([(0, 0, 24, 0), (0, -2147483648, 2147483647, 0), (0, -2147483648, 2147483647, 0), (0, 0, 6, 0), (0, 0, 3, 0), (0, 0, 3, 0), (0, 0, 4, 0), (0, 0, 6, 0), (0, -2147483648, 2147483647, 0), (2, 0, 0, 55), (2, 0, 0, 56), (2, 0, 0, 57), (2, 0, 0, 58), (2, 0, 0, 59), (2, 0, 0, 60), (2, 0, 0, 61), (2, 0, 0, 62), (2, 0, 0, 63), (2, 0, 0, 64), (2, 0, 0, 65), (2, 0, 0, 66), (2, 0, 0, 67), (2, 0, 0, 68), (2, 0, 0, 69), (2, 0, 0, 70), (2, 0, 0, 71), (2, 0, 0, 72)] : List (Nat × Int × Int × Nat))) rfl rfl j, fineL (p := lowt) (e := (0, 0, 0, 0)) (l := ([(0, 0, 24, 0), (0, -2147483648, 2147483647, 0), (0, -2147483648, 2147483647, 0), (0, 0, 6, 0), (0, 0, 3, 0), (0, 0, 3, 0), (0, 0, 4, 0), (0, 0, 6, 0), (0, -2147483648, 2147483647, 0), (2, 0, 0, 55), (2, 0, 0, 56), (2, 0, 0, 57), (2, 0, 0, 58), (2, 0, 0, 59), (2, 0, 0, 60), (2, 0, 0, 61), (2, 0, 0, 62), (2, 0, 0, 63), (2, 0, 0, 64), (2, 0, 0, 65), (2, 0, 0, 66), (2, 0, 0, 67), (2, 0, 0, 68), (2, 0, 0, 69), (2, 0, 0, 70), (2, 0, 0, 71), (2, 0, 0, 72)] : List (Nat × Int × Int × Nat))) rfl rfl j⟩),
  Or.inr (fun _ => ⟨rfl, rfl⟩),
  Or.inr (fun _ => ⟨rfl, rfl⟩),
  Or.inr (fun _ => ⟨rfl, rfl⟩),
  Or.inr (fun _ => ⟨rfl, rfl⟩),
  Or.inr (fun _ => ⟨rfl, rfl⟩),
  Or.inr (fun _ => ⟨rfl, rfl⟩),
  Or.inr (fun _ => ⟨rfl, rfl⟩),
  Or.inr (fun _ => ⟨rfl, rfl⟩),
  Or.inr (fun _ => ⟨rfl, rfl⟩),
  Or.inr (fun _ => ⟨rfl, rfl⟩),
  Or.inr (fun _ => ⟨rfl, rfl⟩),
  Or.inr (fun _ => ⟨rfl, rfl⟩),
  Or.inr (fun _ => ⟨rfl, rfl⟩),
  Or.inr (fun _ => ⟨rfl, rfl⟩),
  Or.inr (fun _ => ⟨rfl, rfl⟩),
  Or.inr (fun _ => ⟨rfl, rfl⟩),
  Or.inr (fun _ => ⟨rfl, rfl⟩),
  Or.inr (fun _ => ⟨rfl, rfl⟩),
  Or.inr (fun _ => ⟨rfl, rfl⟩), trivial⟩
theorem fin_at : ∀ (l : List (Nat → Nat × Int × Int × Nat)) (s i : Nat), fin l s → decide (s + i = 1 ∨ s + i = 27 ∨ s + i = 28 ∨ s + i = 35) = true ∨ ∀ j, fine ((l.getD i (fun _ => (0, 0, 0, 0))) j) = true ∧ lowt ((l.getD i (fun _ => (0, 0, 0, 0))) j) = true
  | [], _, _, _ => Or.inr (fun _ => ⟨rfl, rfl⟩)
  | f :: r, s, 0, h => h.1
  | f :: r, s, i + 1, h => by
    have := fin_at r (s + 1) i h.2
    rw [show s + 1 + i = s + (i + 1) by omega] at this
    exact this
theorem wty_lo {t j : Nat} (h : t < 80) : wty t j = (wtyl.getD t (fun _ => (0, 0, 0, 0))) j := by
  unfold wty
  rw [if_pos h]
theorem wty_fin {t : Nat} (h : t < 80) (h1 : t ≠ 1) (h27 : t ≠ 27) (h28 : t ≠ 28) (h35 : t ≠ 35) (j : Nat) : fine (wty t j) = true ∧ lowt (wty t j) = true := by
  rw [wty_lo h]
  rcases fin_at wtyl 0 t fin_all with h2 | h2
  · have := of_decide_eq_true h2
    omega
  · exact h2 j
theorem wty_hi {t : Nat} (h : 80 ≤ t) (j : Nat) : (wty t j).1 = 0 ∨ (wty t j).1 = 5 := by
  unfold wty
  rw [if_neg (by omega)]
  split
  · exact Or.inl rfl
  · split
    · exact Or.inl rfl
    · split
      · exact Or.inl rfl
      · split
        · exact Or.inr rfl
        · split <;> exact Or.inl rfl
theorem wty_200 {s : Nat} (h : s < 80) (j : Nat) : (wty (200 + s) j).1 = 5 := by
  unfold wty
  rw [if_neg (by omega), if_neg (by omega), if_neg (by omega), if_neg (by omega), if_pos (by omega)]
theorem wsh_200 {s : Nat} (h : s < 80) : wsh (200 + s) = wsh s := by
  unfold wsh
  rw [if_neg (by omega), if_neg (by omega), if_neg (by omega), if_neg (by omega), if_pos (by omega), if_pos h, Nat.add_sub_cancel_left]
/-- the family's own slots: references come first -/
def famk (n : Nat) (ty : Nat × Int × Int × Nat) (j : Nat) : Prop := ty.1 = 0 ∨ (ty.1 = 2 ∧ ty.2.2.2 ≠ 1 ∧ ty.2.2.2 < 200 ∧ j < n)
theorem getD_0 {l : List (Nat × Int × Int × Nat)} (h : l.all (fun q => q.1 == 0) = true) (j : Nat) : (l.getD j (0, 0, 0, 0)).1 = 0 := by
  have := fineL (p := fun q => q.1 == 0) (e := (0, 0, 0, 0)) h rfl j
  exact beq_iff_eq.mp this
theorem fam27 : ∀ j, famk 7 (wty 27 j) j
  | 0 => Or.inr ⟨rfl, by decide, by decide, by decide⟩
  | 1 => Or.inr ⟨rfl, by decide, by decide, by decide⟩
  | 2 => Or.inr ⟨rfl, by decide, by decide, by decide⟩
  | 3 => Or.inr ⟨rfl, by decide, by decide, by decide⟩
  | 4 => Or.inr ⟨rfl, by decide, by decide, by decide⟩
  | 5 => Or.inr ⟨rfl, by decide, by decide, by decide⟩
  | 6 => Or.inr ⟨rfl, by decide, by decide, by decide⟩
  | n + 7 => Or.inl (getD_0 (l := ([(2, 0, 0, 28), (2, 0, 0, 29), (2, 0, 0, 30), (2, 0, 0, 31), (2, 0, 0, 32), (2, 0, 0, 33), (2, 0, 0, 34), (0, 0, 24, 0), (0, -2147483648, 2147483647, 0), (0, -2147483648, 2147483647, 0), (0, 0, 6, 0), (0, -2147483648, 2147483647, 0), (0, 0, 3, 0), (0, 0, 4, 0), (0, 0, 6, 0), (0, -2147483648, 2147483647, 0), (0, 0, 24, 0), (0, 0, 2147483647, 0), (0, -9223372036854775808, 9223372036854775807, 0)] : List (Nat × Int × Int × Nat)).drop 7) rfl n)
theorem fam28 (j : Nat) (h : j < 6) : famk 6 (wty 28 j) j := Or.inr ⟨rfl, (by decide : (35 : Nat) ≠ 1), (by decide : (35 : Nat) < 200), h⟩
theorem fam35 : ∀ j, famk 6 (wty 35 j) j
  | 0 => Or.inr ⟨rfl, by decide, by decide, by decide⟩
  | 1 => Or.inr ⟨rfl, by decide, by decide, by decide⟩
  | 2 => Or.inr ⟨rfl, by decide, by decide, by decide⟩
  | 3 => Or.inr ⟨rfl, by decide, by decide, by decide⟩
  | 4 => Or.inr ⟨rfl, by decide, by decide, by decide⟩
  | 5 => Or.inr ⟨rfl, by decide, by decide, by decide⟩
  | n + 6 => Or.inl (getD_0 (l := ([(2, 0, 0, 36), (2, 0, 0, 37), (2, 0, 0, 38), (2, 0, 0, 39), (2, 0, 0, 40), (2, 0, 0, 41), (0, -9223372036854775808, 9223372036854775807, 0), (0, -1, 24, 0), (0, -1, 24, 0), (0, -1, 24, 0), (0, -1, 24, 0), (0, -1, 23, 0), (0, -2147483648, 2147483647, 0), (0, 0, 1, 0), (0, -2147483648, 2147483647, 0), (0, 0, 40, 0), (0, 0, 39, 0), (0, -2147483648, 2147483647, 0)] : List (Nat × Int × Int × Nat)).drop 6) rfl n)
theorem low1 (j : Nat) : lowt (wty 1 j) = true := fineL (p := lowt) (e := (0, 0, 0, 0)) (l := ([(2, 0, 0, 2), (2, 0, 0, 3), (2, 0, 0, 6), (2, 0, 0, 12), (2, 0, 0, 20), (2, 0, 0, 25), (2, 0, 0, 27), (2, 0, 0, 27), (0, 0, 1, 0), (0, 0, 900, 0), (0, -2147483648, 2147483647, 0), (0, -2147483648, 2147483647, 0), (0, -2147483648, 2147483647, 0)] : List (Nat × Int × Int × Nat))) rfl rfl j
def rtF (T : wq_T) (C : Nat → Bool) (a : Nat) : Bool := match T.2.2.2 a with
  | some t => decide (t = 1) || (decide (27 ≤ t ∧ t ≤ 41) && C a)
  | none => false
def rtT (T : wq_T) (C : Nat → Bool) : wq_T := (T.1, T.2.1, T.2.2.1, fun a => if rtF T C a = true then (T.2.2.2 a).map (fun t => 200 + t) else T.2.2.2 a)
/-- references of the family stay within a colour -/
def SP (T : wq_T) (H : wq_H) (x : Nat) (C : Nat → Bool) : Prop := ∀ a t j, T.2.2.2 a = some t → ((t = 27 ∧ j < 7) ∨ (t = 28 ∧ j < 6) ∨ (t = 35 ∧ j < 6)) → C (H a j).toNat = C a
section RTS

variable {T : wq_T} {H H' : wq_H} {C : Nat → Bool} {a b t x : Nat} {l : List (Nat × Nat)}
theorem rtF_t (h : rtF T C a = true) : ∃ s, T.2.2.2 a = some s ∧ (s = 1 ∨ (27 ≤ s ∧ s ≤ 41 ∧ C a = true)) := by
  unfold rtF at h
  split at h
  · next s hs =>
    refine ⟨s, hs, ?_⟩
    simp only [Bool.or_eq_true, Bool.and_eq_true, decide_eq_true_eq] at h
    rcases h with h | h
    · exact Or.inl h
    · exact Or.inr ⟨h.1.1, h.1.2, h.2⟩
  · cases h
theorem rtF_o (h : T.2.2.2 a = some t) (h1 : t ≠ 1) (h2 : t < 27 ∨ 41 < t) : rtF T C a = false := by
  cases e : rtF T C a with
  | false => rfl
  | true =>
    obtain ⟨s, h3, h4⟩ := rtF_t e
    rw [h] at h3
    cases h3
    omega
theorem rtF_c (h : T.2.2.2 a = some t) (h1 : t ≠ 1) (hc : C a = false) : rtF T C a = false := by
  cases e : rtF T C a with
  | false => rfl
  | true =>
    obtain ⟨s, h3, h4⟩ := rtF_t e
    rw [h] at h3
    cases h3
    rw [hc] at h4
    rcases h4 with h4 | h4
    · exact absurd h4 h1
    · cases h4.2.2
theorem rtF_1 (h : T.2.2.2 a = some t) (h1 : 27 ≤ t) (h2 : t ≤ 41) (hc : C a = true) : rtF T C a = true := by
  unfold rtF
  rw [h]
  show (decide (t = 1) || (decide (27 ≤ t ∧ t ≤ 41) && C a)) = true
  rw [decide_eq_true (⟨h1, h2⟩ : 27 ≤ t ∧ t ≤ 41), hc]
  exact Bool.or_true _
theorem rtT_k (h : T.2.2.2 a = some t) (hF : rtF T C a = false) : (rtT T C).2.2.2 a = some t := by
  show (if rtF T C a = true then (T.2.2.2 a).map (fun t => 200 + t) else T.2.2.2 a) = some t
  rw [hF]
  exact h
theorem rtT_f (h : T.2.2.2 a = some t) (hF : rtF T C a = true) : (rtT T C).2.2.2 a = some (200 + t) := by
  show (if rtF T C a = true then (T.2.2.2 a).map (fun t => 200 + t) else T.2.2.2 a) = some (200 + t)
  rw [if_pos hF, h]
  rfl
theorem rtT_g {s : Nat} (h : (rtT T C).2.2.2 a = some s) : (rtF T C a = false ∧ T.2.2.2 a = some s) ∨ (rtF T C a = true ∧ ∃ u, T.2.2.2 a = some u ∧ s = 200 + u) := by
  have h : (if rtF T C a = true then (T.2.2.2 a).map (fun t => 200 + t) else T.2.2.2 a) = some s := h
  cases e : rtF T C a with
  | false =>
    rw [e] at h
    exact Or.inl ⟨rfl, h⟩
  | true =>
    rw [e, if_pos rfl] at h
    obtain ⟨u, h1, h2⟩ := Option.map_eq_some_iff.mp h
    exact Or.inr ⟨rfl, u, h1, h2.symm⟩
theorem rtT_lo {s : Nat} (h : (rtT T C).2.2.2 a = some s) (hs : s < 200) : T.2.2.2 a = some s := by
  rcases rtT_g h with ⟨-, h1⟩ | ⟨-, u, -, h2⟩
  · exact h1
  · omega
theorem okT_F {z : Nat} (h : T.2.2.2 z = some t) (ht : okT t = true) : rtF T C z = false := by
  unfold okT at ht
  simp only [Bool.and_eq_true, Bool.or_eq_true, bne_iff_ne, decide_eq_true_eq] at ht
  exact rtF_o h ht.1 ht.2
/-- a slot of a cell outside of the family points outside -/
theorem wok_rt {ty : Nat × Int × Int × Nat} {z : Int} (h : wok T ty z) (hk : ty.1 = 0 ∨ ty.1 = 5 ∨ ((ty.1 = 2 ∨ ty.1 = 3) ∧ ∀ s, T.2.2.2 z.toNat = some s → s = ty.2.2.2 → rtF T C z.toNat = false) ∨ (ty.1 = 4 ∧ ∀ s, T.2.2.2 z.toNat = some s → (s = ty.2.2.2 ∨ s = ty.2.1.toNat) → rtF T C z.toNat = false)) : wok (rtT T C) ty z := by
  obtain ⟨k, p, q, s⟩ := ty
  rcases hk with hk | hk | ⟨hk, hf⟩ | ⟨hk, hf⟩
  · have hk : k = 0 := hk
    subst hk
    exact h
  · have hk : k = 5 := hk
    subst hk
    trivial
  · have hk : k = 2 ∨ k = 3 := hk
    rcases hk with hk | hk
    · subst hk
      have h : 0 ≤ z ∧ T.2.2.2 z.toNat = some s := h
      exact ⟨h.1, rtT_k h.2 (hf s h.2 rfl)⟩
    · subst hk
      have h : z = -1 ∨ (0 ≤ z ∧ T.2.2.2 z.toNat = some s) := h
      rcases h with h | h
      · exact Or.inl h
      · exact Or.inr ⟨h.1, rtT_k h.2 (hf s h.2 rfl)⟩
  · have hk : k = 4 := hk
    subst hk
    have h : 0 ≤ z ∧ (T.2.2.2 z.toNat = some s ∨ T.2.2.2 z.toNat = some p.toNat) := h
    refine ⟨h.1, ?_⟩
    rcases h.2 with h2 | h2
    · exact Or.inl (rtT_k h2 (hf s h2 (Or.inl rfl)))
    · exact Or.inr (rtT_k h2 (hf _ h2 (Or.inr rfl)))
theorem wok_un {ty : Nat × Int × Int × Nat} {z : Int} (h : wok (rtT T C) ty z) (hk : ty.1 = 0 ∨ ty.1 = 5 ∨ lowt ty = true) : wok T ty z := by
  obtain ⟨k, p, q, s⟩ := ty
  rcases hk with hk | hk | hk
  · have hk : k = 0 := hk
    subst hk
    exact h
  · have hk : k = 5 := hk
    subst hk
    trivial
  · unfold lowt at hk
    simp only [Bool.or_eq_true, Bool.and_eq_true, beq_iff_eq, decide_eq_true_eq] at hk
    rcases hk with (hk | ⟨hk | hk, hs⟩) | ⟨⟨hk, hs⟩, hp⟩
    · subst hk
      exact h
    · subst hk
      have h : 0 ≤ z ∧ (rtT T C).2.2.2 z.toNat = some s := h
      exact ⟨h.1, rtT_lo h.2 hs⟩
    · subst hk
      have h : z = -1 ∨ (0 ≤ z ∧ (rtT T C).2.2.2 z.toNat = some s) := h
      rcases h with h | h
      · exact Or.inl h
      · exact Or.inr ⟨h.1, rtT_lo h.2 hs⟩
    · subst hk
      have h : 0 ≤ z ∧ ((rtT T C).2.2.2 z.toNat = some s ∨ (rtT T C).2.2.2 z.toNat = some p.toNat) := h
      refine ⟨h.1, ?_⟩
      rcases h.2 with h2 | h2
      · exact Or.inl (rtT_lo h2 hs)
      · exact Or.inr (rtT_lo h2 hp)
theorem famk_rt {n j : Nat} {z : Int} {ty : Nat × Int × Int × Nat} (h : famk n ty j) (hz : j < n → C z.toNat = false) : ty.1 = 0 ∨ ty.1 = 5 ∨ ((ty.1 = 2 ∨ ty.1 = 3) ∧ ∀ s, T.2.2.2 z.toNat = some s → s = ty.2.2.2 → rtF T C z.toNat = false) ∨ (ty.1 = 4 ∧ ∀ s, T.2.2.2 z.toNat = some s → (s = ty.2.2.2 ∨ s = ty.2.1.toNat) → rtF T C z.toNat = false) := by
  rcases h with h | ⟨h1, h2, -, h4⟩
  · exact Or.inl h
  · refine Or.inr (Or.inr (Or.inl ⟨Or.inl h1, fun s hs e => ?_⟩))
    subst e
    exact rtF_c hs h2 (hz h4)
theorem famk_un {n j : Nat} {ty : Nat × Int × Int × Nat} (h : famk n ty j) : ty.1 = 0 ∨ ty.1 = 5 ∨ lowt ty = true := by
  rcases h with h | ⟨h1, -, h3, -⟩
  · exact Or.inl h
  · refine Or.inr (Or.inr ?_)
    unfold lowt
    rw [h1, decide_eq_true h3]
    rfl
theorem fine_rt {z : Int} {ty : Nat × Int × Int × Nat} (h : fine ty = true) : ty.1 = 0 ∨ ty.1 = 5 ∨ ((ty.1 = 2 ∨ ty.1 = 3) ∧ ∀ s, T.2.2.2 z.toNat = some s → s = ty.2.2.2 → rtF T C z.toNat = false) ∨ (ty.1 = 4 ∧ ∀ s, T.2.2.2 z.toNat = some s → (s = ty.2.2.2 ∨ s = ty.2.1.toNat) → rtF T C z.toNat = false) := by
  unfold fine at h
  simp only [Bool.or_eq_true, Bool.and_eq_true, beq_iff_eq] at h
  rcases h with (h | ⟨h, hs⟩) | ⟨⟨h, hs⟩, hp⟩
  · exact Or.inl h
  · exact Or.inr (Or.inr (Or.inl ⟨h, fun s e1 e2 => okT_F e1 (by rw [e2]; exact hs)⟩))
  · refine Or.inr (Or.inr (Or.inr ⟨h, fun s e1 e2 => okT_F e1 ?_⟩))
    rcases e2 with e2 | e2
    · rw [e2]
      exact hs
    · rw [e2]
      exact hp
/-- what lies outside points outside -/
def SQ (T : wq_T) (H : wq_H) (C : Nat → Bool) : Prop := ∀ a t j, T.2.2.2 a = some t → ((t = 27 ∧ j < 7) ∨ (t = 28 ∧ j < 6) ∨ (t = 35 ∧ j < 6)) → C a = false → C (H a j).toNat = false
theorem SP.sq (h : SP T H x C) : SQ T H C := fun a t j h1 h2 h3 => (h a t j h1 h2).trans h3
theorem rt_WT (hW : WT T H) (hS : SQ T H C) : WT (rtT T C) H := by
  refine ⟨⟨rtT_k hW.1.1 (rtF_o hW.1.1 (by decide) (by decide)), rtT_k hW.1.2.1 (rtF_o hW.1.2.1 (by decide) (by decide)), fun i hi => rtT_k (hW.1.2.2 i hi) (rtF_o (hW.1.2.2 i hi) (by omega) (by omega))⟩, fun a t ht => ?_⟩
  rcases rtT_g ht with ⟨hF, h1⟩ | ⟨hF, u, h1, rfl⟩
  · obtain ⟨w1, w2, w3⟩ := hW.2 a t h1
    refine ⟨w1, w2, fun j hj => wok_rt (w3 j hj) ?_⟩
    by_cases h80 : t < 80
    · by_cases t1 : t = 1
      · subst t1
        have e1 : rtF T C a = true := by
          unfold rtF
          rw [h1]
          rfl
        rw [e1] at hF
        cases hF
      · have hc : 27 ≤ t → t ≤ 41 → C a = false := fun p q => by
          cases e : C a with
          | false => rfl
          | true =>
            rw [rtF_1 h1 p q e] at hF
            cases hF
        by_cases t27 : t = 27
        · subst t27
          exact famk_rt (fam27 j) (fun h7 => hS a 27 j h1 (Or.inl ⟨rfl, h7⟩) (hc (by decide) (by decide)))
        · by_cases t28 : t = 28
          · subst t28
            exact famk_rt (fam28 j hj) (fun h7 => hS a 28 j h1 (Or.inr (Or.inl ⟨rfl, h7⟩)) (hc (by decide) (by decide)))
          · by_cases t35 : t = 35
            · subst t35
              exact famk_rt (fam35 j) (fun h7 => hS a 35 j h1 (Or.inr (Or.inr ⟨rfl, h7⟩)) (hc (by decide) (by decide)))
            · exact fine_rt (wty_fin h80 t1 t27 t28 t35 j).1
    · rcases wty_hi (show 80 ≤ t by omega) j with h | h
      · exact Or.inl h
      · exact Or.inr (Or.inl h)
  · obtain ⟨w1, w2, w3⟩ := hW.2 a u h1
    obtain ⟨s, h2, h3⟩ := rtF_t hF
    rw [h1] at h2
    cases h2
    have h80 : u < 80 := by omega
    refine ⟨by rw [wsh_200 h80]; exact w1, fun h => by omega, fun j hj => ?_⟩
    have h5 := wty_200 h80 j
    generalize wty (200 + u) j = ty at h5
    obtain ⟨k, p, q, s⟩ := ty
    have h5 : k = 5 := h5
    subst h5
    trivial
theorem rt_old (hf : wfr l (rtT T C) H H') (hl : l.all (fun q => decide (q.1 < 200)) = true) : ∀ a, rtF T C a = true → H' a = H a := fun a ha => by
  obtain ⟨s, h1, -⟩ := rtF_t ha
  funext j
  refine hf a j (200 + s) (rtT_f h1 ha) (wmem_no (fun q hq hh => ?_))
  have := of_decide_eq_true (List.all_eq_true.mp hl q hq)
  have := hh.1
  omega
theorem rt_fr (hf : wfr l (rtT T C) H H') (hl : l.all (fun q => decide (q.1 < 200)) = true) : wfr l T H H' := fun a j t ht hm => by
  cases e : rtF T C a with
  | false => exact hf a j t (rtT_k ht e) hm
  | true => rw [rt_old hf hl a e]
theorem rt_un (hW : WT T H) (hW' : WT (rtT T C) H') (ho : ∀ a, rtF T C a = true → H' a = H a) : WT T H' := by
  refine ⟨hW.1, fun a t ht => ?_⟩
  obtain ⟨w1, w2, w3⟩ := hW.2 a t ht
  refine ⟨w1, w2, fun j hj => ?_⟩
  cases e : rtF T C a with
  | true =>
    rw [ho a e]
    exact w3 j hj
  | false =>
    refine wok_un ((hW'.2 a t (rtT_k ht e)).2.2 j hj) ?_
    by_cases h80 : t < 80
    · by_cases t1 : t = 1
      · subst t1
        exact Or.inr (Or.inr (low1 j))
      · by_cases t27 : t = 27
        · subst t27
          exact famk_un (fam27 j)
        · by_cases t28 : t = 28
          · subst t28
            exact famk_un (fam28 j hj)
          · by_cases t35 : t = 35
            · subst t35
              exact famk_un (fam35 j)
            · exact Or.inr (Or.inr (wty_fin h80 t1 t27 t28 t35 j).2)
    · rcases wty_hi (show 80 ≤ t by omega) j with h | h
      · exact Or.inl h
      · exact Or.inr (Or.inl h)
theorem rt_wpc {kt : Nat → Option mc_E} {d k : Nat} {as : List Value} {Q : Option Value → wq_T → wq_H → Prop} (h : wpc kt d k as (rtT T C) H Q) (hq : ∀ r T' H', Q r T' H' → rtT T C = T') : wpc kt d k as T H (fun r T' H' => T = T' ∧ Q r (rtT T C) H') := fun M hM => by
  obtain ⟨F, w, T', H', h1, h2, h3⟩ := h M hM
  have e := hq _ _ _ h3
  subst e
  exact ⟨F, w, T, H', h1, h2, rfl, h3⟩
theorem SP_not (h : SP T H x C) : SP T H x (fun a => !(C a)) := fun a t j ht hj => by
  show (!(C (H a j).toNat)) = !(C a)
  rw [h a t j ht hj]
def SPx (l : List (Nat × Nat)) : Bool := wno l 27 (fun j => decide (j < 7)) && wno l 28 (fun _ => true) && wno l 35 (fun j => decide (j < 6))
theorem SP_fr (hW : WT T H) (g : T.2.2.2 x = some 1) (f : wfr l T H H') (y : SPx l = true) (h : SP T H x C) : SP T H' x C := by
  unfold SPx at y
  simp only [Bool.and_eq_true] at y
  intro a t j ht hj
  rw [← h a t j ht hj]
  rcases hj with ⟨rfl, h7⟩ | ⟨rfl, h7⟩ | ⟨rfl, h7⟩
  · rw [wno_f f ht y.1.1 (decide_eq_true h7)]
  · rw [wno_f f ht y.1.2 rfl]
  · rw [wno_f f ht y.2 (decide_eq_true h7)]
theorem DD_rt {r : Nat} (g : T.2.2.2 r = some 27) (hS : SP T H x C) (hc : C r = false) (h : DD T H r) : DD (rtT T C) H r := by
  obtain ⟨pa, h1, h2, h3⟩ := h
  refine ⟨pa, h1, rtT_k h2 (rtF_c h2 (by decide) ?_), h3⟩
  have := hS r 27 0 g (Or.inl ⟨rfl, by decide⟩)
  rw [h1, Int.toNat_natCast] at this
  exact this.trans hc
theorem DC_un {r : Nat} {d : xD} (h : DC (rtT T C) H r d) : DC T H r d := by
  obtain ⟨h1, ⟨h2, h2b⟩, ⟨s, h3, h3b, h3c⟩, ⟨b, h4, h4b, h4c⟩, ⟨b5, h5, h5b, h5c⟩, ⟨b6, h6, h6b, h6c⟩, ⟨b7, h7, h7b, h7c⟩, ⟨b8, h8, h8b, h8c⟩⟩ := h
  refine ⟨h1, ⟨fun k hk => ?_, h2b⟩, ⟨s, h3, rtT_lo h3b (by decide), h3c⟩, ⟨b, h4, rtT_lo h4b (by decide), h4c⟩, ⟨b5, h5, rtT_lo h5b (by decide), h5c⟩, ⟨b6, h6, rtT_lo h6b (by decide), h6c⟩, ⟨b7, h7, rtT_lo h7b (by decide), h7c⟩, ⟨b8, h8, rtT_lo h8b (by decide), h8c⟩⟩
  obtain ⟨p, h9, h10, h11⟩ := h2 k hk
  exact ⟨p, h9, rtT_lo h10 (by decide), h11⟩
/-- what lies in the family is as it was -/
theorem fz_arr {r b j tg : Nat} (g : T.2.2.2 r = some 27) (hS : SP T H x C) (hc : C r = true) (ho : ∀ a, rtF T C a = true → H' a = H a) (hj : j < 7) (h1 : H r j = (b : Int)) (h2 : T.2.2.2 b = some tg) (ht : 27 ≤ tg) (ht2 : tg ≤ 41) : C b = true ∧ H' b = H b := by
  have h3 := hS r 27 j g (Or.inl ⟨rfl, hj⟩)
  rw [h1, Int.toNat_natCast] at h3
  exact ⟨h3.trans hc, ho b (rtF_1 h2 ht ht2 (h3.trans hc))⟩
theorem fz_per {r k p : Nat} (hW : WT T H) (g : T.2.2.2 r = some 27) (hS : SP T H x C) (hc : C r = true) (ho : ∀ a, rtF T C a = true → H' a = H a) (hk : k < 6) (h1 : H (H r 0).toNat k = (p : Int)) (h2 : T.2.2.2 p = some 35) : H' (H' r 0).toNat k = (p : Int) ∧ C p = true ∧ H' p = H p := by
  obtain ⟨pa, q1, q2⟩ := hW.ref g (t' := 28) (n := 19) (j := 0) (p := 0) (q := 0) rfl (by decide) rfl
  have ⟨c1, e1⟩ := fz_arr g hS hc ho (by decide) q1 q2 (by decide) (by decide)
  rw [q1, Int.toNat_natCast] at h1
  have h3 := hS pa 28 k q2 (Or.inr (Or.inl ⟨rfl, hk⟩))
  rw [h1, Int.toNat_natCast] at h3
  refine ⟨?_, h3.trans c1, ho p (rtF_1 h2 (by decide) (by decide) (h3.trans c1))⟩
  rw [ho r (rtF_1 g (by decide) (by decide) hc), q1, Int.toNat_natCast, e1]
  exact h1
theorem DC_fz {r : Nat} {d : xD} (hW : WT T H) (g : T.2.2.2 r = some 27) (hS : SP T H x C) (hc : C r = true) (ho : ∀ a, rtF T C a = true → H' a = H a) (h : DC T H r d) : DC T H' r d := by
  have er : H' r = H r := ho r (rtF_1 g (by decide) (by decide) hc)
  obtain ⟨h1, ⟨h2, h2b⟩, ⟨s, h3, h3b, h3c⟩, ⟨b, h4, h4b, h4c⟩, ⟨b5, h5, h5b, h5c⟩, ⟨b6, h6, h6b, h6c⟩, ⟨b7, h7, h7b, h7c⟩, ⟨b8, h8, h8b, h8c⟩⟩ := h
  have es := (fz_arr g hS hc ho (by decide) h3 h3b (by decide) (by decide)).2
  have eb := (fz_arr g hS hc ho (by decide) h4 h4b (by decide) (by decide)).2
  have e5 := (fz_arr g hS hc ho (by decide) h5 h5b (by decide) (by decide)).2
  have e6 := (fz_arr g hS hc ho (by decide) h6 h6b (by decide) (by decide)).2
  have e7 := (fz_arr g hS hc ho (by decide) h7 h7b (by decide) (by decide)).2
  have e8 := (fz_arr g hS hc ho (by decide) h8 h8b (by decide) (by decide)).2
  refine ⟨by unfold DSm; rw [er]; exact h1, ⟨fun k hk => ?_, h2b⟩, ⟨s, by rw [er]; exact h3, h3b, by rw [es]; exact h3c⟩, ⟨b, by rw [er]; exact h4, h4b, by rw [eb]; exact h4c⟩, ⟨b5, by rw [er]; exact h5, h5b, by rw [e5]; exact h5c⟩, ⟨b6, by rw [er]; exact h6, h6b, by rw [e6]; exact h6c⟩, ⟨b7, by rw [er]; exact h7, h7b, by rw [e7]; exact h7c⟩, ⟨b8, by rw [er]; exact h8, h8b, by rw [e8]; exact h8c⟩⟩
  obtain ⟨p, h9, h10, h11⟩ := h2 k hk
  have hk6 : k < 6 := by
    have := h1.2.2.2.2.2.2.2.2.2.2.2.2.2.1
    omega
  obtain ⟨q1, q2, q3⟩ := fz_per hW g hS hc ho hk6 h9 h10
  exact ⟨p, q1, h10, by unfold PF; rw [q3]; exact h11⟩
end RTS
