section
/-! TWO PARISHES APART (own work): a method that can't reach a family of cells is run as if those cells had other tags, which none of its changes names: so they stay as they were -/
def okT (s : Nat) : Bool := s != 1 && (decide (s < 27) || decide (41 < s))
def fine (ty : Nat × Int × Int × Nat) : Bool := ty.1 == 0 || ((ty.1 == 2 || ty.1 == 3) && okT ty.2.2.2) || (ty.1 == 4 && okT ty.2.2.2 && okT ty.2.1.toNat)
def lowt (ty : Nat × Int × Int × Nat) : Bool := ty.1 == 0 || ((ty.1 == 2 || ty.1 == 3) && decide (ty.2.2.2 < 200)) || (ty.1 == 4 && decide (ty.2.2.2 < 200) && decide (ty.2.1.toNat < 200))
theorem fineL {p : Nat × Int × Int × Nat → Bool} : ∀ {l : List (Nat × Int × Int × Nat)} {e : Nat × Int × Int × Nat}, l.all p = true → p e = true → ∀ j, p (l.getD j e) = true
  | [], e, _, he, j => he
  | a :: r, e, h, he, 0 => (Bool.and_eq_true _ _ ▸ h : p a = true ∧ r.all p = true).1
  | a :: r, e, h, he, j + 1 => fineL (l := r) (Bool.and_eq_true _ _ ▸ h : p a = true ∧ r.all p = true).2 he j
def fin : List (Nat → Nat × Int × Int × Nat) → Nat → Prop
  | [], _ => True
  | f :: r, t => (decide (t = 1 ∨ t = 27 ∨ t = 28 ∨ t = 35) = true ∨ ∀ j, fine (f j) = true ∧ lowt (f j) = true) ∧ fin r (t + 1)
theorem fin_all : fin wtyl 0 := ⟨Or.inr (fun _ => ⟨rfl, rfl⟩),
  Or.inl (by decide),
  Or.inr (fun _ => ⟨rfl, rfl⟩),
  Or.inr (fun j => ⟨fineL (e := (0, 0, 0, 0)) (l := ([(2, 0, 0, 4), (0, -1, 24, 0), (0, -1, 24, 0), (0, -2147483648, 2147483647, 0), (0, -2147483648, 2147483647, 0)] : List (Nat × Int × Int × Nat))) rfl rfl j, fineL (p := lowt) (e := (0, 0, 0, 0)) (l := ([(2, 0, 0, 4), (0, -1, 24, 0), (0, -1, 24, 0), (0, -2147483648, 2147483647, 0), (0, -2147483648, 2147483647, 0)] : List (Nat × Int × Int × Nat))) rfl rfl j⟩),
  Or.inr (fun j => ⟨fineL (e := (0, 0, 0, 0)) (l := ([(4, 5, 0, 2), (0, 0, 900, 0), (0, 0, 900, 0), (0, 0, 5, 0), (0, 0, 900, 0), (0, -2147483648, 2147483647, 0), (0, -9223372036854775808, 9223372036854775807, 0)] : List (Nat × Int × Int × Nat))) rfl rfl j, fineL (p := lowt) (e := (0, 0, 0, 0)) (l := ([(4, 5, 0, 2), (0, 0, 900, 0), (0, 0, 900, 0), (0, 0, 5, 0), (0, 0, 900, 0), (0, -2147483648, 2147483647, 0), (0, -9223372036854775808, 9223372036854775807, 0)] : List (Nat × Int × Int × Nat))) rfl rfl j⟩),
  Or.inr (fun _ => ⟨rfl, rfl⟩),
  Or.inr (fun j => ⟨fineL (e := (0, 0, 0, 0)) (l := ([(2, 0, 0, 7), (2, 0, 0, 8), (2, 0, 0, 9), (2, 0, 0, 10), (2, 0, 0, 11), (0, 0, 6, 0)] : List (Nat × Int × Int × Nat))) rfl rfl j, fineL (p := lowt) (e := (0, 0, 0, 0)) (l := ([(2, 0, 0, 7), (2, 0, 0, 8), (2, 0, 0, 9), (2, 0, 0, 10), (2, 0, 0, 11), (0, 0, 6, 0)] : List (Nat × Int × Int × Nat))) rfl rfl j⟩),
  Or.inr (fun _ => ⟨rfl, rfl⟩),
  Or.inr (fun _ => ⟨rfl, rfl⟩),
  Or.inr (fun _ => ⟨rfl, rfl⟩),
  Or.inr (fun _ => ⟨rfl, rfl⟩),
  Or.inr (fun _ => ⟨rfl, rfl⟩),
  Or.inr (fun j => ⟨fineL (e := (0, 0, 0, 0)) (l := ([(2, 0, 0, 13), (2, 0, 0, 14), (2, 0, 0, 16), (2, 0, 0, 18), (2, 0, 0, 19), (0, -2147483648, 2147483647, 0), (0, -9223372036854775808, 9223372036854775807, 0), (0, 0, 19999, 0), (0, -9223372036854775808, 9223372036854775807, 0), (0, 0, 1, 0)] : List (Nat × Int × Int × Nat))) rfl rfl j, fineL (p := lowt) (e := (0, 0, 0, 0)) (l := ([(2, 0, 0, 13), (2, 0, 0, 14), (2, 0, 0, 16), (2, 0, 0, 18), (2, 0, 0, 19), (0, -2147483648, 2147483647, 0), (0, -9223372036854775808, 9223372036854775807, 0), (0, 0, 19999, 0), (0, -9223372036854775808, 9223372036854775807, 0), (0, 0, 1, 0)] : List (Nat × Int × Int × Nat))) rfl rfl j⟩),
  Or.inr (fun _ => ⟨rfl, rfl⟩),
  Or.inr (fun _ => ⟨rfl, rfl⟩),
  Or.inr (fun _ => ⟨rfl, rfl⟩),
  Or.inr (fun _ => ⟨rfl, rfl⟩),
  Or.inr (fun _ => ⟨rfl, rfl⟩),
  Or.inr (fun _ => ⟨rfl, rfl⟩),
  Or.inr (fun _ => ⟨rfl, rfl⟩),
  Or.inr (fun j => ⟨fineL (e := (0, 0, 0, 0)) (l := ([(2, 0, 0, 21), (2, 0, 0, 22), (2, 0, 0, 23), (2, 0, 0, 24), (0, 0, 400, 0)] : List (Nat × Int × Int × Nat))) rfl rfl j, fineL (p := lowt) (e := (0, 0, 0, 0)) (l := ([(2, 0, 0, 21), (2, 0, 0, 22), (2, 0, 0, 23), (2, 0, 0, 24), (0, 0, 400, 0)] : List (Nat × Int × Int × Nat))) rfl rfl j⟩),
  Or.inr (fun _ => ⟨rfl, rfl⟩),
  Or.inr (fun _ => ⟨rfl, rfl⟩),
  Or.inr (fun _ => ⟨rfl, rfl⟩),
  Or.inr (fun _ => ⟨rfl, rfl⟩),
  Or.inr (fun j => ⟨fineL (e := (0, 0, 0, 0)) (l := ([(2, 0, 0, 26), (0, 0, 5000, 0), (0, 0, 4999, 0)] : List (Nat × Int × Int × Nat))) rfl rfl j, fineL (p := lowt) (e := (0, 0, 0, 0)) (l := ([(2, 0, 0, 26), (0, 0, 5000, 0), (0, 0, 4999, 0)] : List (Nat × Int × Int × Nat))) rfl rfl j⟩),
  Or.inr (fun _ => ⟨rfl, rfl⟩),
  Or.inl (by decide),
  Or.inl (by decide),
  Or.inr (fun _ => ⟨rfl, rfl⟩),
  Or.inr (fun _ => ⟨rfl, rfl⟩),
  Or.inr (fun _ => ⟨rfl, rfl⟩),
  Or.inr (fun _ => ⟨rfl, rfl⟩),
  Or.inr (fun _ => ⟨rfl, rfl⟩),
  Or.inr (fun _ => ⟨rfl, rfl⟩),
  Or.inl (by decide),
  Or.inr (fun _ => ⟨rfl, rfl⟩),
  Or.inr (fun _ => ⟨rfl, rfl⟩),
  Or.inr (fun _ => ⟨rfl, rfl⟩),
  Or.inr (fun _ => ⟨rfl, rfl⟩),
  Or.inr (fun _ => ⟨rfl, rfl⟩),
  Or.inr (fun _ => ⟨rfl, rfl⟩),
  Or.inr (fun j => ⟨fineL (e := (0, 0, 0, 0)) (l := ([(0, -2147483648, 2147483647, 0), (0, -2147483648, 2147483647, 0), (0, -2147483648, 2147483647, 0), (3, 0, 0, 54), (3, 0, 0, 54), (2, 0, 0, 43), (0, 0, 900, 0), (0, 0, 900, 0), (0, 0, 900, 0), (0, 0, 5, 0), (0, -2147483648, 2147483647, 0), (0, -2147483648, 2147483647, 0), (0, -2147483648, 2147483647, 0), (0, -2147483648, 2147483647, 0), (0, -2147483648, 2147483647, 0), (0, -9223372036854775808, 9223372036854775807, 0), (0, 0, 24, 0), (0, -2147483648, 2147483647, 0), (0, -2147483648, 2147483647, 0), (0, -2147483648, 2147483647, 0), (2, 0, 0, 44), (2, 0, 0, 45), (2, 0, 0, 46), (2, 0, 0, 47), (2, 0, 0, 48), (2, 0, 0, 49), (2, 0, 0, 50), (2, 0, 0, 51), (0, 0, 1, 0), (0, 0, 20000, 0), (2, 0, 0, 52), (2, 0, 0, 53), (0, 0, 2147483647, 0)] : List (Nat × Int × Int × Nat))) rfl rfl j, fineL (p := lowt) (e := (0, 0, 0, 0)) (l := ([(0, -2147483648, 2147483647, 0), (0, -2147483648, 2147483647, 0), (0, -2147483648, 2147483647, 0), (3, 0, 0, 54), (3, 0, 0, 54), (2, 0, 0, 43), (0, 0, 900, 0), (0, 0, 900, 0), (0, 0, 900, 0), (0, 0, 5, 0), (0, -2147483648, 2147483647, 0), (0, -2147483648, 2147483647, 0), (0, -2147483648, 2147483647, 0), (0, -2147483648, 2147483647, 0), (0, -2147483648, 2147483647, 0), (0, -9223372036854775808, 9223372036854775807, 0), (0, 0, 24, 0), (0, -2147483648, 2147483647, 0), (0, -2147483648, 2147483647, 0), (0, -2147483648, 2147483647, 0), (2, 0, 0, 44), (2, 0, 0, 45), (2, 0, 0, 46), (2, 0, 0, 47), (2, 0, 0, 48), (2, 0, 0, 49), (2, 0, 0, 50), (2, 0, 0, 51), (0, 0, 1, 0), (0, 0, 20000, 0), (2, 0, 0, 52), (2, 0, 0, 53), (0, 0, 2147483647, 0)] : List (Nat × Int × Int × Nat))) rfl rfl j⟩),
  Or.inr (fun _ => ⟨rfl, rfl⟩),
  Or.inr (fun _ => ⟨rfl, rfl⟩),
  Or.inr (fun _ => ⟨rfl, rfl⟩),
  Or.inr (fun _ => ⟨rfl, rfl⟩),
  Or.inr (fun _ => ⟨rfl, rfl⟩),
  Or.inr (fun _ => ⟨rfl, rfl⟩),
  Or.inr (fun _ => ⟨rfl, rfl⟩),
  Or.inr (fun _ => ⟨rfl, rfl⟩),
  Or.inr (fun _ => ⟨rfl, rfl⟩),
  Or.inr (fun _ => ⟨rfl, rfl⟩),
  Or.inr (fun _ => ⟨rfl, rfl⟩),
  Or.inr (fun j => ⟨fineL (e := (0, 0, 0, 0)) (l := ([(0, 0, 24, 0), (0, -2147483648, 2147483647, 0), (0, -2147483648, 2147483647, 0), (0, 0, 6, 0), (0, 0, 3, 0), (0, 0, 3, 0), (0, 0, 4, 0), (0, 0, 6, 0), (0, -2147483648, 2147483647, 0), (2, 0, 0, 55), (2, 0, 0, 56), (2, 0, 0, 57), (2, 0, 0, 58), (2, 0, 0, 59), (2, 0, 0, 60), (2, 0, 0, 61), (2, 0, 0, 62), (2, 0, 0, 63), (2, 0, 0, 64), (2, 0, 0, 65), (2, 0, 0, 66), (2, 0, 0, 67), (2, 0, 0, 68), (2, 0, 0, 69), (2, 0, 0, 70), (2, 0, 0, 71), (2, 0, 0, 72)] : List (Nat × Int × Int × Nat))) rfl rfl j, fineL (p := lowt) (e := (0, 0, 0, 0)) (l := ([(0, 0, 24, 0), (0, -2147483648, 2147483647, 0), (0, -2147483648, 2147483647, 0), (0, 0, 6, 0), (0, 0, 3, 0), (0, 0, 3, 0), (0, 0, 4, 0), (0, 0, 6, 0), (0, -2147483648, 2147483647, 0), (2, 0, 0, 55), (2, 0, 0, 56), (2, 0, 0, 57), (2, 0, 0, 58), (2, 0, 0, 59), (2, 0, 0, 60), (2, 0, 0, 61), (2, 0, 0, 62), (2, 0, 0, 63), (2, 0, 0, 64), (2, 0, 0, 65), (2, 0, 0, 66), (2, 0, 0, 67), (2, 0, 0, 68), (2, 0, 0, 69), (2, 0, 0, 70), (2, 0, 0, 71), (2, 0, 0, 72)] : List (Nat × Int × Int × Nat))) rfl rfl j⟩),
  Or.inr (fun _ => ⟨rfl, rfl⟩),
  Or.inr (fun _ => ⟨rfl, rfl⟩),
  Or.inr (fun _ => ⟨rfl, rfl⟩),
  Or.inr (fun _ => ⟨rfl, rfl⟩),
  Or.inr (fun _ => ⟨rfl, rfl⟩),
  Or.inr (fun _ => ⟨rfl, rfl⟩),
  Or.inr (fun _ => ⟨rfl, rfl⟩),
  Or.inr (fun _ => ⟨rfl, rfl⟩),
  Or.inr (fun _ => ⟨rfl, rfl⟩),
  Or.inr (fun _ => ⟨rfl, rfl⟩),
  Or.inr (fun _ => ⟨rfl, rfl⟩),
  Or.inr (fun _ => ⟨rfl, rfl⟩),
  Or.inr (fun _ => ⟨rfl, rfl⟩),
  Or.inr (fun _ => ⟨rfl, rfl⟩),
  Or.inr (fun _ => ⟨rfl, rfl⟩),
  Or.inr (fun _ => ⟨rfl, rfl⟩),
  Or.inr (fun _ => ⟨rfl, rfl⟩),
  Or.inr (fun _ => ⟨rfl, rfl⟩),
  Or.inr (fun _ => ⟨rfl, rfl⟩), trivial⟩
theorem fin_at : ∀ (l : List (Nat → Nat × Int × Int × Nat)) (s i : Nat), fin l s → decide (s + i = 1 ∨ s + i = 27 ∨ s + i = 28 ∨ s + i = 35) = true ∨ ∀ j, fine ((l.getD i (fun _ => (0, 0, 0, 0))) j) = true ∧ lowt ((l.getD i (fun _ => (0, 0, 0, 0))) j) = true
  | [], _, _, _ => Or.inr (fun _ => ⟨rfl, rfl⟩)
  | f :: r, s, 0, h => h.1
  | f :: r, s, i + 1, h => by
    have := fin_at r (s + 1) i h.2
    rw [show s + 1 + i = s + (i + 1) by omega] at this
    exact this
theorem wty_lo {t j : Nat} (h : t < 80) : wty t j = (wtyl.getD t (fun _ => (0, 0, 0, 0))) j := by
  unfold wty
  rw [if_pos h]
theorem wty_fin {t : Nat} (h : t < 80) (h1 : t ≠ 1) (h27 : t ≠ 27) (h28 : t ≠ 28) (h35 : t ≠ 35) (j : Nat) : fine (wty t j) = true ∧ lowt (wty t j) = true := by
  rw [wty_lo h]
  rcases fin_at wtyl 0 t fin_all with h2 | h2
  · have := of_decide_eq_true h2
    omega
  · exact h2 j
theorem wty_hi {t : Nat} (h : 80 ≤ t) (j : Nat) : (wty t j).1 = 0 ∨ (wty t j).1 = 5 := by
  unfold wty
  rw [if_neg (by omega)]
  split
  · exact Or.inl rfl
  · split
    · exact Or.inl rfl
    · split
      · exact Or.inl rfl
      · split
        · exact Or.inr rfl
        · split <;> exact Or.inl rfl
theorem wty_200 {s : Nat} (h : s < 80) (j : Nat) : (wty (200 + s) j).1 = 5 := by
  unfold wty
  rw [if_neg (by omega), if_neg (by omega), if_neg (by omega), if_neg (by omega), if_pos (by omega)]
theorem wsh_200 {s : Nat} (h : s < 80) : wsh (200 + s) = wsh s := by
  unfold wsh
  rw [if_neg (by omega), if_neg (by omega), if_neg (by omega), if_neg (by omega), if_pos (by omega), if_pos h, Nat.add_sub_cancel_left]
/-- the family's own slots: references come first -/
def famk (n : Nat) (ty : Nat × Int × Int × Nat) (j : Nat) : Prop := ty.1 = 0 ∨ (ty.1 = 2 ∧ ty.2.2.2 ≠ 1 ∧ ty.2.2.2 < 200 ∧ j < n)
theorem getD_0 {l : List (Nat × Int × Int × Nat)} (h : l.all (fun q => q.1 == 0) = true) (j : Nat) : (l.getD j (0, 0, 0, 0)).1 = 0 := by
  have := fineL (p := fun q => q.1 == 0) (e := (0, 0, 0, 0)) h rfl j
  exact beq_iff_eq.mp this
theorem fam27 : ∀ j, famk 7 (wty 27 j) j
  | 0 => Or.inr ⟨rfl, by decide, by decide, by decide⟩
  | 1 => Or.inr ⟨rfl, by decide, by decide, by decide⟩
  | 2 => Or.inr ⟨rfl, by decide, by decide, by decide⟩
  | 3 => Or.inr ⟨rfl, by decide, by decide, by decide⟩
  | 4 => Or.inr ⟨rfl, by decide, by decide, by decide⟩
  | 5 => Or.inr ⟨rfl, by decide, by decide, by decide⟩
  | 6 => Or.inr ⟨rfl, by decide, by decide, by decide⟩
  | n + 7 => Or.inl (getD_0 (l := ([(2, 0, 0, 28), (2, 0, 0, 29), (2, 0, 0, 30), (2, 0, 0, 31), (2, 0, 0, 32), (2, 0, 0, 33), (2, 0, 0, 34), (0, 0, 24, 0), (0, -2147483648, 2147483647, 0), (0, -2147483648, 2147483647, 0), (0, 0, 6, 0), (0, -2147483648, 2147483647, 0), (0, 0, 3, 0), (0, 0, 4, 0), (0, 0, 6, 0), (0, -2147483648, 2147483647, 0), (0, 0, 24, 0), (0, 0, 2147483647, 0), (0, -9223372036854775808, 9223372036854775807, 0)] : List (Nat × Int × Int × Nat)).drop 7) rfl n)
theorem fam28 (j : Nat) (h : j < 6) : famk 6 (wty 28 j) j := Or.inr ⟨rfl, (by decide : (35 : Nat) ≠ 1), (by decide : (35 : Nat) < 200), h⟩
theorem fam35 : ∀ j, famk 6 (wty 35 j) j
  | 0 => Or.inr ⟨rfl, by decide, by decide, by decide⟩
  | 1 => Or.inr ⟨rfl, by decide, by decide, by decide⟩
  | 2 => Or.inr ⟨rfl, by decide, by decide, by decide⟩
  | 3 => Or.inr ⟨rfl, by decide, by decide, by decide⟩
  | 4 => Or.inr ⟨rfl, by decide, by decide, by decide⟩
  | 5 => Or.inr ⟨rfl, by decide, by decide, by decide⟩
  | n + 6 => Or.inl (getD_0 (l := ([(2, 0, 0, 36), (2, 0, 0, 37), (2, 0, 0, 38), (2, 0, 0, 39), (2, 0, 0, 40), (2, 0, 0, 41), (0, -9223372036854775808, 9223372036854775807, 0), (0, -1, 24, 0), (0, -1, 24, 0), (0, -1, 24, 0), (0, -1, 24, 0), (0, -1, 23, 0), (0, -2147483648, 2147483647, 0), (0, 0, 1, 0), (0, -2147483648, 2147483647, 0), (0, 0, 40, 0), (0, 0, 39, 0), (0, -2147483648, 2147483647, 0)] : List (Nat × Int × Int × Nat)).drop 6) rfl n)
theorem low1 (j : Nat) : lowt (wty 1 j) = true := fineL (p := lowt) (e := (0, 0, 0, 0)) (l := ([(2, 0, 0, 2), (2, 0, 0, 3), (2, 0, 0, 6), (2, 0, 0, 12), (2, 0, 0, 20), (2, 0, 0, 25), (2, 0, 0, 27), (2, 0, 0, 27), (0, 0, 1, 0), (0, 0, 900, 0), (0, -2147483648, 2147483647, 0), (0, -2147483648, 2147483647, 0), (0, -2147483648, 2147483647, 0)] : List (Nat × Int × Int × Nat))) rfl rfl j
def rtF (T : wq_T) (C : Nat → Bool) (a : Nat) : Bool := match T.2.2.2 a with
  | some t => decide (t = 1) || (decide (27 ≤ t ∧ t ≤ 41) && C a)
  | none => false
def rtT (T : wq_T) (C : Nat → Bool) : wq_T := (T.1, T.2.1, T.2.2.1, fun a => if rtF T C a = true then (T.2.2.2 a).map (fun t => 200 + t) else T.2.2.2 a)
/-- references of the family stay within a colour -/
def SP (T : wq_T) (H : wq_H) (x : Nat) (C : Nat → Bool) : Prop := ∀ a t j, T.2.2.2 a = some t → ((t = 27 ∧ j < 7) ∨ (t = 28 ∧ j < 6) ∨ (t = 35 ∧ j < 6)) → C (H a j).toNat = C a
section RTS

variable {T : wq_T} {H H' : wq_H} {C : Nat → Bool} {a b t x : Nat} {l : List (Nat × Nat)}
theorem rtF_t (h : rtF T C a = true) : ∃ s, T.2.2.2 a = some s ∧ (s = 1 ∨ (27 ≤ s ∧ s ≤ 41 ∧ C a = true)) := by
  unfold rtF at h
  split at h
  · next s hs =>
    refine ⟨s, hs, ?_⟩
    simp only [Bool.or_eq_true, Bool.and_eq_true, decide_eq_true_eq] at h
    rcases h with h | h
    · exact Or.inl h
    · exact Or.inr ⟨h.1.1, h.1.2, h.2⟩
  · cases h
theorem rtF_o (h : T.2.2.2 a = some t) (h1 : t ≠ 1) (h2 : t < 27 ∨ 41 < t) : rtF T C a = false := by
  cases e : rtF T C a with
  | false => rfl
  | true =>
    obtain ⟨s, h3, h4⟩ := rtF_t e
    rw [h] at h3
    cases h3
    omega
theorem rtF_c (h : T.2.2.2 a = some t) (h1 : t ≠ 1) (hc : C a = false) : rtF T C a = false := by
  cases e : rtF T C a with
  | false => rfl
  | true =>
    obtain ⟨s, h3, h4⟩ := rtF_t e
    rw [h] at h3
    cases h3
    rw [hc] at h4
    rcases h4 with h4 | h4
    · exact absurd h4 h1
    · cases h4.2.2
theorem rtF_1 (h : T.2.2.2 a = some t) (h1 : 27 ≤ t) (h2 : t ≤ 41) (hc : C a = true) : rtF T C a = true := by
  unfold rtF
  rw [h]
  show (decide (t = 1) || (decide (27 ≤ t ∧ t ≤ 41) && C a)) = true
  rw [decide_eq_true (⟨h1, h2⟩ : 27 ≤ t ∧ t ≤ 41), hc]
  exact Bool.or_true _
theorem rtT_k (h : T.2.2.2 a = some t) (hF : rtF T C a = false) : (rtT T C).2.2.2 a = some t := by
  show (if rtF T C a = true then (T.2.2.2 a).map (fun t => 200 + t) else T.2.2.2 a) = some t
  rw [hF]
  exact h
theorem rtT_f (h : T.2.2.2 a = some t) (hF : rtF T C a = true) : (rtT T C).2.2.2 a = some (200 + t) := by
  show (if rtF T C a = true then (T.2.2.2 a).map (fun t => 200 + t) else T.2.2.2 a) = some (200 + t)
  rw [if_pos hF, h]
  rfl
theorem rtT_g {s : Nat} (h : (rtT T C).2.2.2 a = some s) : (rtF T C a = false ∧ T.2.2.2 a = some s) ∨ (rtF T C a = true ∧ ∃ u, T.2.2.2 a = some u ∧ s = 200 + u) := by
  have h : (if rtF T C a = true then (T.2.2.2 a).map (fun t => 200 + t) else T.2.2.2 a) = some s := h
  cases e : rtF T C a with
  | false =>
    rw [e] at h
    exact Or.inl ⟨rfl, h⟩
  | true =>
    rw [e, if_pos rfl] at h
    obtain ⟨u, h1, h2⟩ := Option.map_eq_some_iff.mp h
    exact Or.inr ⟨rfl, u, h1, h2.symm⟩
theorem rtT_lo {s : Nat} (h : (rtT T C).2.2.2 a = some s) (hs : s < 200) : T.2.2.2 a = some s := by
  rcases rtT_g h with ⟨-, h1⟩ | ⟨-, u, -, h2⟩
  · exact h1
  · omega
theorem okT_F {z : Nat} (h : T.2.2.2 z = some t) (ht : okT t = true) : rtF T C z = false := by
  unfold okT at ht
  simp only [Bool.and_eq_true, Bool.or_eq_true, bne_iff_ne, decide_eq_true_eq] at ht
  exact rtF_o h ht.1 ht.2
/-- a slot of a cell outside of the family points outside -/
theorem wok_rt {ty : Nat × Int × Int × Nat} {z : Int} (h : wok T ty z) (hk : ty.1 = 0 ∨ ty.1 = 5 ∨ ((ty.1 = 2 ∨ ty.1 = 3) ∧ ∀ s, T.2.2.2 z.toNat = some s → s = ty.2.2.2 → rtF T C z.toNat = false) ∨ (ty.1 = 4 ∧ ∀ s, T.2.2.2 z.toNat = some s → (s = ty.2.2.2 ∨ s = ty.2.1.toNat) → rtF T C z.toNat = false)) : wok (rtT T C) ty z := by
  obtain ⟨k, p, q, s⟩ := ty
  rcases hk with hk | hk | ⟨hk, hf⟩ | ⟨hk, hf⟩
  · have hk : k = 0 := hk
    subst hk
    exact h
  · have hk : k = 5 := hk
    subst hk
    trivial
  · have hk : k = 2 ∨ k = 3 := hk
    rcases hk with hk | hk
    · subst hk
      have h : 0 ≤ z ∧ T.2.2.2 z.toNat = some s := h
      exact ⟨h.1, rtT_k h.2 (hf s h.2 rfl)⟩
    · subst hk
      have h : z = -1 ∨ (0 ≤ z ∧ T.2.2.2 z.toNat = some s) := h
      rcases h with h | h
      · exact Or.inl h
      · exact Or.inr ⟨h.1, rtT_k h.2 (hf s h.2 rfl)⟩
  · have hk : k = 4 := hk
    subst hk
    have h : 0 ≤ z ∧ (T.2.2.2 z.toNat = some s ∨ T.2.2.2 z.toNat = some p.toNat) := h
    refine ⟨h.1, ?_⟩
    rcases h.2 with h2 | h2
    · exact Or.inl (rtT_k h2 (hf s h2 (Or.inl rfl)))
    · exact Or.inr (rtT_k h2 (hf _ h2 (Or.inr rfl)))
theorem wok_un {ty : Nat × Int × Int × Nat} {z : Int} (h : wok (rtT T C) ty z) (hk : ty.1 = 0 ∨ ty.1 = 5 ∨ lowt ty = true) : wok T ty z := by
  obtain ⟨k, p, q, s⟩ := ty
  rcases hk with hk | hk | hk
  · have hk : k = 0 := hk
    subst hk
    exact h
  · have hk : k = 5 := hk
    subst hk
    trivial
  · unfold lowt at hk
    simp only [Bool.or_eq_true, Bool.and_eq_true, beq_iff_eq, decide_eq_true_eq] at hk
    rcases hk with (hk | ⟨hk | hk, hs⟩) | ⟨⟨hk, hs⟩, hp⟩
    · subst hk
      exact h
    · subst hk
      have h : 0 ≤ z ∧ (rtT T C).2.2.2 z.toNat = some s := h
      exact ⟨h.1, rtT_lo h.2 hs⟩
    · subst hk
      have h : z = -1 ∨ (0 ≤ z ∧ (rtT T C).2.2.2 z.toNat = some s) := h
      rcases h with h | h
      · exact Or.inl h
      · exact Or.inr ⟨h.1, rtT_lo h.2 hs⟩
    · subst hk
      have h : 0 ≤ z ∧ ((rtT T C).2.2.2 z.toNat = some s ∨ (rtT T C).2.2.2 z.toNat = some p.toNat) := h
      refine ⟨h.1, ?_⟩
      rcases h.2 with h2 | h2
      · exact Or.inl (rtT_lo h2 hs)
      · exact Or.inr (rtT_lo h2 hp)
theorem famk_rt {n j : Nat} {z : Int} {ty : Nat × Int × Int × Nat} (h : famk n ty j) (hz : j < n → C z.toNat = false) : ty.1 = 0 ∨ ty.1 = 5 ∨ ((ty.1 = 2 ∨ ty.1 = 3) ∧ ∀ s, T.2.2.2 z.toNat = some s → s = ty.2.2.2 → rtF T C z.toNat = false) ∨ (ty.1 = 4 ∧ ∀ s, T.2.2.2 z.toNat = some s → (s = ty.2.2.2 ∨ s = ty.2.1.toNat) → rtF T C z.toNat = false) := by
  rcases h with h | ⟨h1, h2, -, h4⟩
  · exact Or.inl h
  · refine Or.inr (Or.inr (Or.inl ⟨Or.inl h1, fun s hs e => ?_⟩))
    subst e
    exact rtF_c hs h2 (hz h4)
theorem famk_un {n j : Nat} {ty : Nat × Int × Int × Nat} (h : famk n ty j) : ty.1 = 0 ∨ ty.1 = 5 ∨ lowt ty = true := by
  rcases h with h | ⟨h1, -, h3, -⟩
  · exact Or.inl h
  · refine Or.inr (Or.inr ?_)
    unfold lowt
    rw [h1, decide_eq_true h3]
    rfl
theorem fine_rt {z : Int} {ty : Nat × Int × Int × Nat} (h : fine ty = true) : ty.1 = 0 ∨ ty.1 = 5 ∨ ((ty.1 = 2 ∨ ty.1 = 3) ∧ ∀ s, T.2.2.2 z.toNat = some s → s = ty.2.2.2 → rtF T C z.toNat = false) ∨ (ty.1 = 4 ∧ ∀ s, T.2.2.2 z.toNat = some s → (s = ty.2.2.2 ∨ s = ty.2.1.toNat) → rtF T C z.toNat = false) := by
  unfold fine at h
  simp only [Bool.or_eq_true, Bool.and_eq_true, beq_iff_eq] at h
  rcases h with (h | ⟨h, hs⟩) | ⟨⟨h, hs⟩, hp⟩
  · exact Or.inl h
  · exact Or.inr (Or.inr (Or.inl ⟨h, fun s e1 e2 => okT_F e1 (by rw [e2]; exact hs)⟩))
  · refine Or.inr (Or.inr (Or.inr ⟨h, fun s e1 e2 => okT_F e1 ?_⟩))
    rcases e2 with e2 | e2
    · rw [e2]
      exact hs
    · rw [e2]
      exact hp
/-- what lies outside points outside -/
def SQ (T : wq_T) (H : wq_H) (C : Nat → Bool) : Prop := ∀ a t j, T.2.2.2 a = some t → ((t = 27 ∧ j < 7) ∨ (t = 28 ∧ j < 6) ∨ (t = 35 ∧ j < 6)) → C a = false → C (H a j).toNat = false
theorem SP.sq (h : SP T H x C) : SQ T H C := fun a t j h1 h2 h3 => (h a t j h1 h2).trans h3
theorem rt_WT (hW : WT T H) (hS : SQ T H C) : WT (rtT T C) H := by
  refine ⟨⟨rtT_k hW.1.1 (rtF_o hW.1.1 (by decide) (by decide)), rtT_k hW.1.2.1 (rtF_o hW.1.2.1 (by decide) (by decide)), fun i hi => rtT_k (hW.1.2.2 i hi) (rtF_o (hW.1.2.2 i hi) (by omega) (by omega))⟩, fun a t ht => ?_⟩
  rcases rtT_g ht with ⟨hF, h1⟩ | ⟨hF, u, h1, rfl⟩
  · obtain ⟨w1, w2, w3⟩ := hW.2 a t h1
    refine ⟨w1, w2, fun j hj => wok_rt (w3 j hj) ?_⟩
    by_cases h80 : t < 80
    · by_cases t1 : t = 1
      · subst t1
        have e1 : rtF T C a = true := by
          unfold rtF
          rw [h1]
          rfl
        rw [e1] at hF
        cases hF
      · have hc : 27 ≤ t → t ≤ 41 → C a = false := fun p q => by
          cases e : C a with
          | false => rfl
          | true =>
            rw [rtF_1 h1 p q e] at hF
            cases hF
        by_cases t27 : t = 27
        · subst t27
          exact famk_rt (fam27 j) (fun h7 => hS a 27 j h1 (Or.inl ⟨rfl, h7⟩) (hc (by decide) (by decide)))
        · by_cases t28 : t = 28
          · subst t28
            exact famk_rt (fam28 j hj) (fun h7 => hS a 28 j h1 (Or.inr (Or.inl ⟨rfl, h7⟩)) (hc (by decide) (by decide)))
          · by_cases t35 : t = 35
            · subst t35
              exact famk_rt (fam35 j) (fun h7 => hS a 35 j h1 (Or.inr (Or.inr ⟨rfl, h7⟩)) (hc (by decide) (by decide)))
            · exact fine_rt (wty_fin h80 t1 t27 t28 t35 j).1
    · rcases wty_hi (show 80 ≤ t by omega) j with h | h
      · exact Or.inl h
      · exact Or.inr (Or.inl h)
  · obtain ⟨w1, w2, w3⟩ := hW.2 a u h1
    obtain ⟨s, h2, h3⟩ := rtF_t hF
    rw [h1] at h2
    cases h2
    have h80 : u < 80 := by omega
    refine ⟨by rw [wsh_200 h80]; exact w1, fun h => by omega, fun j hj => ?_⟩
    have h5 := wty_200 h80 j
    generalize wty (200 + u) j = ty at h5
    obtain ⟨k, p, q, s⟩ := ty
    have h5 : k = 5 := h5
    subst h5
    trivial
theorem rt_old (hf : wfr l (rtT T C) H H') (hl : l.all (fun q => decide (q.1 < 200)) = true) : ∀ a, rtF T C a = true → H' a = H a := fun a ha => by
  obtain ⟨s, h1, -⟩ := rtF_t ha
  funext j
  refine hf a j (200 + s) (rtT_f h1 ha) (wmem_no (fun q hq hh => ?_))
  have := of_decide_eq_true (List.all_eq_true.mp hl q hq)
  have := hh.1
  omega
theorem rt_fr (hf : wfr l (rtT T C) H H') (hl : l.all (fun q => decide (q.1 < 200)) = true) : wfr l T H H' := fun a j t ht hm => by
  cases e : rtF T C a with
  | false => exact hf a j t (rtT_k ht e) hm
  | true => rw [rt_old hf hl a e]
theorem rt_un (hW : WT T H) (hW' : WT (rtT T C) H') (ho : ∀ a, rtF T C a = true → H' a = H a) : WT T H' := by
  refine ⟨hW.1, fun a t ht => ?_⟩
  obtain ⟨w1, w2, w3⟩ := hW.2 a t ht
  refine ⟨w1, w2, fun j hj => ?_⟩
  cases e : rtF T C a with
  | true =>
    rw [ho a e]
    exact w3 j hj
  | false =>
    refine wok_un ((hW'.2 a t (rtT_k ht e)).2.2 j hj) ?_
    by_cases h80 : t < 80
    · by_cases t1 : t = 1
      · subst t1
        exact Or.inr (Or.inr (low1 j))
      · by_cases t27 : t = 27
        · subst t27
          exact famk_un (fam27 j)
        · by_cases t28 : t = 28
          · subst t28
            exact famk_un (fam28 j hj)
          · by_cases t35 : t = 35
            · subst t35
              exact famk_un (fam35 j)
            · exact Or.inr (Or.inr (wty_fin h80 t1 t27 t28 t35 j).2)
    · rcases wty_hi (show 80 ≤ t by omega) j with h | h
      · exact Or.inl h
      · exact Or.inr (Or.inl h)
theorem rt_wpc {kt : Nat → Option mc_E} {d k : Nat} {as : List Value} {Q : Option Value → wq_T → wq_H → Prop} (h : wpc kt d k as (rtT T C) H Q) (hq : ∀ r T' H', Q r T' H' → rtT T C = T') : wpc kt d k as T H (fun r T' H' => T = T' ∧ Q r (rtT T C) H') := fun M hM => by
  obtain ⟨F, w, T', H', h1, h2, h3⟩ := h M hM
  have e := hq _ _ _ h3
  subst e
  exact ⟨F, w, T, H', h1, h2, rfl, h3⟩
theorem SP_not (h : SP T H x C) : SP T H x (fun a => !(C a)) := fun a t j ht hj => by
  show (!(C (H a j).toNat)) = !(C a)
  rw [h a t j ht hj]
def SPx (l : List (Nat × Nat)) : Bool := wno l 27 (fun j => decide (j < 7)) && wno l 28 (fun _ => true) && wno l 35 (fun j => decide (j < 6))
theorem SP_fr (hW : WT T H) (g : T.2.2.2 x = some 1) (f : wfr l T H H') (y : SPx l = true) (h : SP T H x C) : SP T H' x C := by
  unfold SPx at y
  simp only [Bool.and_eq_true] at y
  intro a t j ht hj
  rw [← h a t j ht hj]
  rcases hj with ⟨rfl, h7⟩ | ⟨rfl, h7⟩ | ⟨rfl, h7⟩
  · rw [wno_f f ht y.1.1 (decide_eq_true h7)]
  · rw [wno_f f ht y.1.2 rfl]
  · rw [wno_f f ht y.2 (decide_eq_true h7)]
theorem DD_rt {r : Nat} (g : T.2.2.2 r = some 27) (hS : SP T H x C) (hc : C r = false) (h : DD T H r) : DD (rtT T C) H r := by
  obtain ⟨pa, h1, h2, h3⟩ := h
  refine ⟨pa, h1, rtT_k h2 (rtF_c h2 (by decide) ?_), h3⟩
  have := hS r 27 0 g (Or.inl ⟨rfl, by decide⟩)
  rw [h1, Int.toNat_natCast] at this
  exact this.trans hc
theorem DC_un {r : Nat} {d : xD} (h : DC (rtT T C) H r d) : DC T H r d := by
  obtain ⟨h1, ⟨h2, h2b⟩, ⟨s, h3, h3b, h3c⟩, ⟨b, h4, h4b, h4c⟩, ⟨b5, h5, h5b, h5c⟩, ⟨b6, h6, h6b, h6c⟩, ⟨b7, h7, h7b, h7c⟩, ⟨b8, h8, h8b, h8c⟩⟩ := h
  refine ⟨h1, ⟨fun k hk => ?_, h2b⟩, ⟨s, h3, rtT_lo h3b (by decide), h3c⟩, ⟨b, h4, rtT_lo h4b (by decide), h4c⟩, ⟨b5, h5, rtT_lo h5b (by decide), h5c⟩, ⟨b6, h6, rtT_lo h6b (by decide), h6c⟩, ⟨b7, h7, rtT_lo h7b (by decide), h7c⟩, ⟨b8, h8, rtT_lo h8b (by decide), h8c⟩⟩
  obtain ⟨p, h9, h10, h11⟩ := h2 k hk
  exact ⟨p, h9, rtT_lo h10 (by decide), h11⟩
/-- what lies in the family is as it was -/
theorem fz_arr {r b j tg : Nat} (g : T.2.2.2 r = some 27) (hS : SP T H x C) (hc : C r = true) (ho : ∀ a, rtF T C a = true → H' a = H a) (hj : j < 7) (h1 : H r j = (b : Int)) (h2 : T.2.2.2 b = some tg) (ht : 27 ≤ tg) (ht2 : tg ≤ 41) : C b = true ∧ H' b = H b := by
  have h3 := hS r 27 j g (Or.inl ⟨rfl, hj⟩)
  rw [h1, Int.toNat_natCast] at h3
  exact ⟨h3.trans hc, ho b (rtF_1 h2 ht ht2 (h3.trans hc))⟩
theorem fz_per {r k p : Nat} (hW : WT T H) (g : T.2.2.2 r = some 27) (hS : SP T H x C) (hc : C r = true) (ho : ∀ a, rtF T C a = true → H' a = H a) (hk : k < 6) (h1 : H (H r 0).toNat k = (p : Int)) (h2 : T.2.2.2 p = some 35) : H' (H' r 0).toNat k = (p : Int) ∧ C p = true ∧ H' p = H p := by
  obtain ⟨pa, q1, q2⟩ := hW.ref g (t' := 28) (n := 19) (j := 0) (p := 0) (q := 0) rfl (by decide) rfl
  have ⟨c1, e1⟩ := fz_arr g hS hc ho (by decide) q1 q2 (by decide) (by decide)
  rw [q1, Int.toNat_natCast] at h1
  have h3 := hS pa 28 k q2 (Or.inr (Or.inl ⟨rfl, hk⟩))
  rw [h1, Int.toNat_natCast] at h3
  refine ⟨?_, h3.trans c1, ho p (rtF_1 h2 (by decide) (by decide) (h3.trans c1))⟩
  rw [ho r (rtF_1 g (by decide) (by decide) hc), q1, Int.toNat_natCast, e1]
  exact h1
theorem DC_fz {r : Nat} {d : xD} (hW : WT T H) (g : T.2.2.2 r = some 27) (hS : SP T H x C) (hc : C r = true) (ho : ∀ a, rtF T C a = true → H' a = H a) (h : DC T H r d) : DC T H' r d := by
  have er : H' r = H r := ho r (rtF_1 g (by decide) (by decide) hc)
  obtain ⟨h1, ⟨h2, h2b⟩, ⟨s, h3, h3b, h3c⟩, ⟨b, h4, h4b, h4c⟩, ⟨b5, h5, h5b, h5c⟩, ⟨b6, h6, h6b, h6c⟩, ⟨b7, h7, h7b, h7c⟩, ⟨b8, h8, h8b, h8c⟩⟩ := h
  have es := (fz_arr g hS hc ho (by decide) h3 h3b (by decide) (by decide)).2
  have eb := (fz_arr g hS hc ho (by decide) h4 h4b (by decide) (by decide)).2
  have e5 := (fz_arr g hS hc ho (by decide) h5 h5b (by decide) (by decide)).2
  have e6 := (fz_arr g hS hc ho (by decide) h6 h6b (by decide) (by decide)).2
  have e7 := (fz_arr g hS hc ho (by decide) h7 h7b (by decide) (by decide)).2
  have e8 := (fz_arr g hS hc ho (by decide) h8 h8b (by decide) (by decide)).2
  refine ⟨by unfold DSm; rw [er]; exact h1, ⟨fun k hk => ?_, h2b⟩, ⟨s, by rw [er]; exact h3, h3b, by rw [es]; exact h3c⟩, ⟨b, by rw [er]; exact h4, h4b, by rw [eb]; exact h4c⟩, ⟨b5, by rw [er]; exact h5, h5b, by rw [e5]; exact h5c⟩, ⟨b6, by rw [er]; exact h6, h6b, by rw [e6]; exact h6c⟩, ⟨b7, by rw [er]; exact h7, h7b, by rw [e7]; exact h7c⟩, ⟨b8, by rw [er]; exact h8, h8b, by rw [e8]; exact h8c⟩⟩
  obtain ⟨p, h9, h10, h11⟩ := h2 k hk
  have hk6 : k < 6 := by
    have := h1.2.2.2.2.2.2.2.2.2.2.2.2.2.1
    omega
  obtain ⟨q1, q2, q3⟩ := fz_per hW g hS hc ho hk6 h9 h10
  exact ⟨p, q1, h10, by unfold PF; rw [q3]; exact h11⟩
end RTS
end
section
/-! SPANS (own work): what is told, cut to its HOURS; a person's SPANS as a list; the relations of both programs to it -/
/-- bits, one after the other -/
def xob (P : Nat → Bool) : Nat → Int
  | 0 => 0
  | n + 1 => if P n = true then wq_or (xob P n) (wq_shl 1 n) else xob P n
theorem wq_or_0 {x : Int} (h : -2147483648 ≤ x ∧ x ≤ 2147483647) : wq_or x 0 = x := by
  unfold wq_or
  rw [show Int32.ofInt 0 = 0 from rfl, Int32.or_zero]
  exact Int32.toInt_ofInt_of_le h.1 (by omega)
theorem xob_s {P : Nat → Bool} {i : Int} (h : 0 ≤ i) (hp : P i.toNat = true) : xob P (i + 1).toNat = wq_or (xob P i.toNat) (wq_shl 1 i) := by
  rw [show (i + 1).toNat = i.toNat + 1 by omega]
  show (if P i.toNat = true then wq_or (xob P i.toNat) (wq_shl 1 (i.toNat : Nat)) else xob P i.toNat) = _
  rw [if_pos hp, Int.toNat_of_nonneg h]
theorem xob_n {P : Nat → Bool} {i : Int} (h : 0 ≤ i) (hp : P i.toNat = false) : xob P (i + 1).toNat = xob P i.toNat := by
  rw [show (i + 1).toNat = i.toNat + 1 by omega]
  show (if P i.toNat = true then wq_or (xob P i.toNat) (wq_shl 1 (i.toNat : Nat)) else xob P i.toNat) = _
  rw [if_neg (by rw [hp]; decide)]
theorem xob_b {P : Nat → Bool} : ∀ n : Nat, n ≤ 24 → 0 ≤ xob P n ∧ xob P n ≤ 16777215
  | 0, _ => ⟨Int.le_refl _, by show (0 : Int) ≤ 16777215; decide⟩
  | n + 1, h => by
    have h1 := xob_b n (by omega) (P := P)
    show 0 ≤ (if P n = true then wq_or (xob P n) (wq_shl 1 n) else xob P n) ∧ (if P n = true then wq_or (xob P n) (wq_shl 1 n) else xob P n) ≤ 16777215
    split
    · exact wq_or_24 h1 ⟨by have := (wq_shl1_24 (y := n) ⟨by omega, by omega⟩).1; omega, by have := (wq_shl1_24 (y := n) ⟨by omega, by omega⟩).2; omega⟩
    · exact h1
theorem xob_cg {P Q : Nat → Bool} : ∀ n : Nat, (∀ j, j < n → P j = Q j) → xob P n = xob Q n
  | 0, _ => rfl
  | n + 1, h => by
    show (if P n = true then wq_or (xob P n) (wq_shl 1 n) else xob P n) = (if Q n = true then wq_or (xob Q n) (wq_shl 1 n) else xob Q n)
    rw [h n (by omega), xob_cg n (fun j hj => h j (by omega))]
theorem xob_gap {P : Nat → Bool} {u h : Nat} (hu : u ≤ h) (hp : ∀ j, u ≤ j → j < h → P j = false) : xob P h = xob P u := by
  induction h with
  | zero =>
    have : u = 0 := by omega
    subst this
    rfl
  | succ n ih =>
    by_cases e : u = n + 1
    · rw [e]
    · show (if P n = true then wq_or (xob P n) (wq_shl 1 n) else xob P n) = _
      rw [hp n (by omega) (by omega), if_neg (by decide)]
      exact ih (by omega) (fun j h1 h2 => hp j h1 (by omega))
theorem xob_pn {P : Nat → Bool} {u n : Nat} {x : Int} (hx : x = xob P u) (g : xob P n = xob P u) (h : P n = false) : x = xob P (n + 1) := by
  show x = (if P n = true then wq_or (xob P n) (wq_shl 1 n) else xob P n)
  rw [h, if_neg (by decide), g]
  exact hx
theorem xob_py {P : Nat → Bool} {u n : Nat} {x y s w : Int} (hx : x = xob P u) (g : xob P n = xob P u) (h : P n = true) (e1 : y = wq_or x s) (e2 : s = wq_shl 1 w) (ew : w = n) : y = xob P (n + 1) := by
  show y = (if P n = true then wq_or (xob P n) (wq_shl 1 n) else xob P n)
  rw [h, if_pos rfl, g, ← hx, e1, e2, ew]
theorem SV_at {T : wq_T} {H : wq_H} {r b h : Nat} {f : Nat → Int} {i : Int} (q : SV T H r f i) (e0 : H r 2 = (b : Int)) (hk : (h : Int) < i) (hp : f h > 0) : H b (xcn f h).toNat = h := by
  obtain ⟨b', h1, -, h3⟩ := q
  have : b' = b := by omega
  subst this
  exact h3 h hk hp
theorem ST_at2 {T : wq_T} {H : wq_H} {r s k h : Nat} {f : Nat → Int} (q : ST T H r f) (e0 : H r 1 = (s : Int)) (hk : k < 24) (e : k = h) : 0 ≤ f h ∧ f h ≤ 100 ∧ ((f h > 0 ∧ H s k = f h - 1) ∨ (f h = 0 ∧ H s k = -2)) := by
  subst e
  exact ST_at q e0 hk
/-- the next HOUR struck -/
theorem xcn_nx {f : Nat → Int} {u : Nat} : ∀ n : Nat, u ≤ n → xcn f u < xcn f n → ∃ h, u ≤ h ∧ h < n ∧ f h > 0 ∧ xcn f h = xcn f u ∧ (∀ j, u ≤ j → j < h → f j ≤ 0)
  | 0, h0, h1 => by
    have : u = 0 := by omega
    subst this
    omega
  | n + 1, h0, h1 => by
    by_cases e : u = n + 1
    · rw [e] at h1
      omega
    · by_cases h2 : xcn f u < xcn f n
      · obtain ⟨h, a, b, c, q, r⟩ := xcn_nx n (by omega) h2
        exact ⟨h, a, by omega, c, q, r⟩
      · have h3 := xcn_mono (f := f) (m := u) n (by omega)
        have h4 : xcn f (n + 1) = xcn f n + (if f n > 0 then 1 else 0) := rfl
        have h5 : f n > 0 := by
          by_cases q : f n > 0
          · exact q
          · rw [if_neg q] at h4
            omega
        refine ⟨n, by omega, by omega, h5, by omega, fun j a b => ?_⟩
        by_cases q : f j ≤ 0
        · exact q
        · have := xcn_mono (f := f) (m := u) j a
          have := xcn_lt (f := f) b (by omega)
          omega
/-- what is told, cut to its HOURS -/
def xcu (f : Nat → Int) (n v : Int) : Nat → Int := fun h => if n ≤ h ∧ (h : Int) < v then 0 else f h
def xmk (f : Nat → Int) (a v : Int) : Nat → Int := fun k => if (k : Int) < v then wq_and (f k) a else f k
def xal (d : xD) : Int := xhs 0 (d 0 0)
def xset (d : xD) : xD := fun i => if i = 13 then xcu (d 13) (d 0 0) 24 else if i = 15 then xmk (d 15) (xal d) (d 0 6) else if i = 16 then xmk (d 16) (xal d) (d 0 7) else d i
theorem xset_o {d : xD} {i : Nat} (h : i ≠ 13 ∧ i ≠ 15 ∧ i ≠ 16) : xset d i = d i := by
  unfold xset
  rw [if_neg h.1, if_neg h.2.1, if_neg h.2.2]
theorem xset_13 {d : xD} : xset d 13 = xcu (d 13) (d 0 0) 24 := rfl
theorem xset_15 {d : xD} : xset d 15 = xmk (d 15) (xal d) (d 0 6) := rfl
theorem xset_16 {d : xD} : xset d 16 = xmk (d 16) (xal d) (d 0 7) := rfl
theorem xset_v {d : xD} : xset d 0 0 = d 0 0 ∧ xset d 0 1 = d 0 1 ∧ xset d 0 2 = d 0 2 ∧ xset d 0 3 = d 0 3 ∧ xset d 0 4 = d 0 4 ∧ xset d 0 5 = d 0 5 ∧ xset d 0 6 = d 0 6 ∧ xset d 0 7 = d 0 7 ∧ xset d 0 8 = d 0 8 := ⟨rfl, rfl, rfl, rfl, rfl, rfl, rfl, rfl, rfl⟩
theorem xcu_0 {f : Nat → Int} {n : Int} : xcu f n n = f := by
  funext h
  exact if_neg (by omega)
theorem xcu_c {f : Nat → Int} {n v : Int} (h0 : 0 ≤ v) (h : n ≤ v) : xcu f n (v + 1) v.toNat = 0 ∧ ∀ j : Nat, j ≠ v.toNat → xcu f n (v + 1) j = xcu f n v j := by
  refine ⟨if_pos (by omega), fun j hj => ?_⟩
  unfold xcu
  by_cases q : n ≤ (j : Int) ∧ (j : Int) < v
  · rw [if_pos q, if_pos (by omega)]
  · rw [if_neg q, if_neg (by omega)]
theorem xmk_0 {f : Nat → Int} {a : Int} : xmk f a 0 = f := by
  funext k
  exact if_neg (by omega)
theorem xmk_c {f : Nat → Int} {a v : Int} (h0 : 0 ≤ v) : xmk f a (v + 1) v.toNat = wq_and (f v.toNat) a ∧ (∀ j : Nat, j ≠ v.toNat → xmk f a (v + 1) j = xmk f a v j) ∧ xmk f a v v.toNat = f v.toNat := by
  refine ⟨if_pos (by omega), fun j hj => ?_, if_neg (by omega)⟩
  unfold xmk
  by_cases q : (j : Int) < v
  · rw [if_pos q, if_pos (by omega)]
  · rw [if_neg q, if_neg (by omega)]
/-- a person's SPANS -/
def xsl (d : xD) (k : Nat) (b l : Int) : Int := wq_and (wq_or (xhs b (b + l)) (xhs (d 7 k) (d 8 k))) (xal d)
def xmu (d : xD) (k : Nat) : Int := if (k : Int) = d 0 8 then xob (fun h => decide (d 13 h > 0)) 24 else 0
def xsr (d : xD) (k : Nat) (b : Int) : Int → Nat → List (Int × Int)
  | _, 0 => []
  | l, n + 1 => (if wq_and (xsl d k b l) (xmu d k) = 0 then [(b, l)] else []) ++ xsr d k b (l + 1) n
def xsa (d : xD) (k : Nat) : Int → Nat → List (Int × Int)
  | _, 0 => []
  | b, n + 1 => xsr d k b (d 4 k) (d 5 k + 1 - d 4 k).toNat ++ xsa d k (b + 1) n
def xsp (d : xD) (k : Nat) : List (Int × Int) := if d 9 k = 1 then [(0, 0)] else xsa d k (d 2 k) (d 3 k + 1 - d 2 k).toNat
def xas (d : xD) (k : Nat) (x : Int × Int) : Int := if d 9 k = 1 then 0 else xsl d k x.1 x.2
def xwk (d : xD) (k : Nat) (x : Int × Int) : Int := if d 9 k = 1 then 0 else wq_and (xal d) (wq_xor (xsl d k x.1 x.2) (-1))
def xtal (b : Int) : Nat → Int
  | 0 => 0
  | n + 1 => wl_or (xtal b n) (wl_shl (wl_and (wq_shr b n) 1) ((n : Int) * 4))
theorem xtal_s {b v : Int} (h : 0 ≤ v) : xtal b (v + 1).toNat = wl_or (xtal b v.toNat) (wl_shl (wl_and (wq_shr b v) 1) (v * 4)) := by
  rw [show (v + 1).toNat = v.toNat + 1 by omega]
  show wl_or (xtal b v.toNat) (wl_shl (wl_and (wq_shr b (v.toNat : Nat)) 1) (((v.toNat : Nat) : Int) * 4)) = _
  rw [Int.toNat_of_nonneg h]
section XSP2

variable {d : xD} {k : Nat} {P : List (Int × Int)} {b l z q a v w : Int}
theorem xsl_e (h1 : w = wq_or z q) (h2 : v = wq_and w a) (hz : z = xhs b (b + l)) (hq : q = xhs (d 7 k) (d 8 k)) (ha : a = xal d) : v = xsl d k b l := by
  unfold xsl
  rw [h2, h1, hz, hq, ha]
theorem xsr_len : ∀ (n : Nat) (l : Int), (xsr d k b l n).length ≤ n
  | 0, _ => Nat.le_refl _
  | n + 1, l => by
    show ((if wq_and (xsl d k b l) (xmu d k) = 0 then [(b, l)] else []) ++ xsr d k b (l + 1) n).length ≤ n + 1
    rw [List.length_append]
    have h1 := xsr_len n (l + 1)
    split
    · simp only [List.length_cons, List.length_nil]
      omega
    · simp only [List.length_nil]
      omega
theorem xsa_len (h5 : (d 5 k + 1 - d 4 k).toNat ≤ 5) : ∀ (n : Nat) (b : Int), (xsa d k b n).length ≤ 5 * n
  | 0, _ => Nat.le_refl _
  | n + 1, b => by
    show (xsr d k b (d 4 k) (d 5 k + 1 - d 4 k).toNat ++ xsa d k (b + 1) n).length ≤ 5 * (n + 1)
    rw [List.length_append]
    have h1 := xsa_len h5 n (b + 1)
    have h2 := @xsr_len d k b (d 5 k + 1 - d 4 k).toNat (d 4 k)
    omega
theorem xsp_len (h : xdP d) : (xsp d k).length ≤ 40 := by
  unfold xsp
  split
  · decide
  · have h1 := h k
    have h2 := @xsa_len d k (by omega) (d 3 k + 1 - d 2 k).toNat (d 2 k)
    omega
/-- at a head -/
theorem xsa_u (h : b ≤ d 3 k) : xsa d k b (d 3 k + 1 - b).toNat = xsr d k b (d 4 k) (d 5 k + 1 - d 4 k).toNat ++ xsa d k (b + 1) (d 3 k - b).toNat := by
  rw [show (d 3 k + 1 - b).toNat = (d 3 k - b).toNat + 1 by omega]
  rfl
theorem xsa_e (h : d 3 k < b) : xsa d k b (d 3 k + 1 - b).toNat = [] := by
  rw [show (d 3 k + 1 - b).toNat = 0 by omega]
  rfl
theorem xsr_u (h : l ≤ d 5 k) : xsr d k b l (d 5 k + 1 - l).toNat = (if wq_and (xsl d k b l) (xmu d k) = 0 then [(b, l)] else []) ++ xsr d k b (l + 1) (d 5 k + 1 - (l + 1)).toNat := by
  rw [show (d 5 k + 1 - l).toNat = (d 5 k + 1 - (l + 1)).toNat + 1 by omega]
  rfl
theorem xsr_e (h : d 5 k < l) : xsr d k b l (d 5 k + 1 - l).toNat = [] := by
  rw [show (d 5 k + 1 - l).toNat = 0 by omega]
  rfl
/-- the loops' facts -/
def xfo (d : xD) (k : Nat) (P : List (Int × Int)) (b : Int) : Prop := P ++ xsa d k b (d 3 k + 1 - b).toNat = xsp d k
def xfn (d : xD) (k : Nat) (P : List (Int × Int)) (b l : Int) : Prop := P ++ (xsr d k b l (d 5 k + 1 - l).toNat ++ xsa d k (b + 1) (d 3 k - b).toNat) = xsp d k
theorem xfo_0 (h : d 9 k ≠ 1) (hb : b = d 2 k) : xfo d k [] b := by
  unfold xfo xsp
  rw [if_neg h, hb]
  rfl
theorem xfo_i (h : xfo d k P b) (hb : b ≤ d 3 k) (hl : l = d 4 k) : xfn d k P b l := by
  unfold xfn
  unfold xfo at h
  rw [hl, ← xsa_u hb]
  exact h
theorem xfn_o (h : xfn d k P b l) (hl : d 5 k < l) : xfo d k P (b + 1) := by
  unfold xfn at h
  unfold xfo
  rw [xsr_e hl] at h
  rw [show d 3 k + 1 - (b + 1) = d 3 k - b by omega]
  exact h
theorem xfn_y (h : xfn d k P b l) (hl : l ≤ d 5 k) (hw : wq_and (xsl d k b l) (xmu d k) = 0) : xfn d k (P ++ [(b, l)]) b (l + 1) := by
  unfold xfn at h ⊢
  rw [xsr_u hl, if_pos hw] at h
  rw [← h]
  simp only [List.append_assoc]
theorem xfn_n (h : xfn d k P b l) (hl : l ≤ d 5 k) (hw : wq_and (xsl d k b l) (xmu d k) ≠ 0) : xfn d k P b (l + 1) := by
  unfold xfn at h ⊢
  rw [xsr_u hl, if_neg hw] at h
  exact h
theorem xfn_room (hP : xdP d) (h : xfn d k P b l) (hl : l ≤ d 5 k) (hw : wq_and (xsl d k b l) (xmu d k) = 0) : (P.length : Int) ≤ 39 := by
  have h1 := xfn_y h hl hw
  have h2 := @xsp_len d k hP
  unfold xfn at h1
  rw [← h1] at h2
  simp only [List.length_append, List.length_cons, List.length_nil] at h2
  omega
theorem xfo_e (h : xfo d k P b) (hb : d 3 k < b) : P = xsp d k := by
  unfold xfo at h
  rw [xsa_e hb, List.append_nil] at h
  exact h
theorem xsp_away (h : d 9 k = 1) : [] ++ [((0 : Int), (0 : Int))] = xsp d k := by
  unfold xsp
  rw [if_pos h]
  rfl
theorem xas_away (h : d 9 k = 1) : xas d k (0, 0) = 0 ∧ xwk d k (0, 0) = 0 := ⟨if_pos h, if_pos h⟩
theorem xas_not (h : d 9 k ≠ 1) {x : Int × Int} : xas d k x = xsl d k x.1 x.2 ∧ xwk d k x = wq_and (xal d) (wq_xor (xsl d k x.1 x.2) (-1)) := ⟨if_neg h, if_neg h⟩
/-- the list's rows -/
def xr1 (P : List (Int × Int)) : Nat → Int := fun i => (P.getD i (0, 0)).1
def xr2 (P : List (Int × Int)) : Nat → Int := fun i => (P.getD i (0, 0)).2
def xr3 (d : xD) (k : Nat) (P : List (Int × Int)) : Nat → Int := fun i => xas d k (P.getD i (0, 0))
def xr4 (d : xD) (k : Nat) (P : List (Int × Int)) : Nat → Int := fun i => xwk d k (P.getD i (0, 0))
def xr5 (d : xD) (k : Nat) (P : List (Int × Int)) : Nat → Int := fun i => xtal (xwk d k (P.getD i (0, 0))) 12
def xr6 (d : xD) (k : Nat) (P : List (Int × Int)) : Nat → Int := fun i => xtal (wq_shr (xwk d k (P.getD i (0, 0))) 12) 12
theorem getD_ap {x : Int × Int} : (P ++ [x]).getD P.length (0, 0) = x ∧ ∀ j, j ≠ P.length → (P ++ [x]).getD j (0, 0) = P.getD j (0, 0) := by
  refine ⟨by rw [List.getD_eq_getElem?_getD, List.getElem?_append_right (Nat.le_refl _), Nat.sub_self]; rfl, fun j hj => ?_⟩
  rw [List.getD_eq_getElem?_getD, List.getD_eq_getElem?_getD]
  by_cases h : j < P.length
  · rw [List.getElem?_append_left h]
  · rw [List.getElem?_append_right (by omega), List.getElem?_eq_none (by simp only [List.length_cons, List.length_nil]; omega), List.getElem?_eq_none (by omega)]
end XSP2
/-! an array of another owner, as far as it is filled -/
section DAO

variable {T : wq_T} {H H' : wq_H} {l : List (Nat × Nat)} {r b k o S tg : Nat} {c c' v : Int} {f f' : Nat → Int}
def DAw (o S tg : Nat) (l : List (Nat × Nat)) : Bool := wno l o (fun j => decide (j = S)) && wno l tg (fun _ => true)
theorem DAo_fr (g : T.2.2.2 r = some o) (f0 : wfr l T H H') (x : DAw o S tg l = true) (h : DA S tg T H r c f) : DA S tg T H' r c f := by
  unfold DAw at x
  simp only [Bool.and_eq_true] at x
  obtain ⟨b, h1, h2, h3⟩ := h
  exact ⟨b, (wno_f f0 g x.1 (by simp)).trans h1, h2, fun k hk => (wno_f f0 h2 x.2 rfl).trans (h3 k hk)⟩
theorem DAo_put (h : DA S tg T H r c f) (e0 : H r S = (b : Int)) (gr : T.2.2.2 r = some o) (gb : T.2.2.2 b = some tg) (ne : tg ≠ o) (e : H' = wq_u H b k v) (hk : (k : Int) = c) (hc : c' = c + 1) (fk : f' k = v) (fn : ∀ j, j ≠ k → f' j = f j) : DA S tg T H' r c' f' := by
  obtain ⟨b', h1, h2, h3⟩ := h
  have hb : b' = b := by omega
  subst hb
  refine ⟨b', ?_, h2, fun j hj => ?_⟩
  · rw [e, wq_u_na (fun q => ?_)]
    · exact h1
    · subst q
      rw [gr] at gb
      exact ne (Option.some.inj gb).symm
  · by_cases hjk : j = k
    · subst hjk
      rw [e, wq_u_eq, fk]
    · rw [e, wq_u_ne (fun q => hjk q.2), fn j hjk]
      exact h3 j (by omega)
/-- one place of it anew -/
theorem DAo_set (h : DA S tg T H r c f) (e0 : H r S = (b : Int)) (gr : T.2.2.2 r = some o) (gb : T.2.2.2 b = some tg) (ne : tg ≠ o) (e : H' = wq_u H b k v) (fk : f' k = v) (fn : ∀ j, j ≠ k → f' j = f j) : DA S tg T H' r c f' := by
  obtain ⟨b', h1, h2, h3⟩ := h
  have hb : b' = b := by omega
  subst hb
  refine ⟨b', ?_, h2, fun j hj => ?_⟩
  · rw [e, wq_u_na (fun q => ?_)]
    · exact h1
    · subst q
      rw [gr] at gb
      exact ne (Option.some.inj gb).symm
  · by_cases hjk : j = k
    · subst hjk
      rw [e, wq_u_eq, fk]
    · rw [e, wq_u_ne (fun q => hjk q.2), fn j hjk]
      exact h3 j hj
theorem DA_at (h : DA S tg T H r c f) (e0 : H r S = (b : Int)) (hk : (k : Int) < c) : H b k = f k := by
  obtain ⟨b', h1, -, h3⟩ := h
  have : b' = b := by omega
  subst this
  exact h3 k hk
theorem DA_le (h : DA S tg T H r c f) (hc : c' ≤ c) : DA S tg T H r c' f := by
  obtain ⟨b, h1, h2, h3⟩ := h
  exact ⟨b, h1, h2, fun k hk => h3 k (by omega)⟩
theorem DA_cg (h : DA S tg T H r c f) (e : c' = c) (e2 : f' = f) : DA S tg T H r c' f' := by rw [e, e2]; exact h
end DAO
/-- a person of the class: what it was told, its SPANS -/
def PX (T : wq_T) (H : wq_H) (p : Nat) (d : xD) (k : Nat) : Prop := PF H p d k ∧ xdP d
abbrev PA0 := DA 0 36
abbrev PA1 := DA 1 37
abbrev PA2 := DA 2 38
abbrev PA3 := DA 3 39
abbrev PA4 := DA 4 40
abbrev PA5 := DA 5 41
def PS (T : wq_T) (H : wq_H) (p : Nat) (d : xD) (k : Nat) (P : List (Int × Int)) : Prop := H p 15 = (P.length : Int) ∧ PA0 T H p P.length (xr1 P) ∧ PA1 T H p P.length (xr2 P) ∧ PA2 T H p P.length (xr3 d k P) ∧ PA3 T H p P.length (xr4 d k P) ∧ PA4 T H p P.length (xr5 d k P) ∧ PA5 T H p P.length (xr6 d k P)
def PSx (l : List (Nat × Nat)) : Bool := wno l 35 (fun j => decide (j ≤ 5 ∨ j = 15)) && wno l 36 (fun _ => true) && wno l 37 (fun _ => true) && wno l 38 (fun _ => true) && wno l 39 (fun _ => true) && wno l 40 (fun _ => true) && wno l 41 (fun _ => true)
section PREL

variable {T : wq_T} {H H' : wq_H} {l : List (Nat × Nat)} {p k : Nat} {d : xD} {P : List (Int × Int)} {c : Int} {f : Nat → Int}
theorem PX_k (h : PX T H p d k) : H p 7 = d 2 k ∧ H p 8 = d 3 k ∧ H p 9 = d 4 k ∧ H p 10 = d 5 k ∧ H p 12 = xhs (d 7 k) (d 8 k) ∧ H p 13 = d 9 k ∧ 0 ≤ d 2 k ∧ d 2 k ≤ d 3 k ∧ d 3 k ≤ d 2 k + 7 ∧ d 3 k ≤ 23 ∧ 0 ≤ d 4 k ∧ d 4 k ≤ d 5 k ∧ d 5 k ≤ d 4 k + 4 ∧ d 5 k ≤ 12 ∧ 0 ≤ d 9 k ∧ d 9 k ≤ 1 := by
  obtain ⟨⟨-, h1, h2, h3, h4, -, h5, h6, -⟩, hP⟩ := h
  have := hP k
  exact ⟨h1, h2, h3, h4, h5, h6, by omega, by omega, by omega, by omega, by omega, by omega, by omega, by omega, by omega, by omega⟩
theorem PS_mk (h0 : H p 15 = ((P.length : Int) + 1)) {x : Int × Int} (h1 : PA0 T H p ((P.length : Int) + 1) (xr1 (P ++ [x]))) (h2 : PA1 T H p ((P.length : Int) + 1) (xr2 (P ++ [x]))) (h3 : PA2 T H p ((P.length : Int) + 1) (xr3 d k (P ++ [x]))) (h4 : PA3 T H p ((P.length : Int) + 1) (xr4 d k (P ++ [x]))) (h5 : PA4 T H p ((P.length : Int) + 1) (xr5 d k (P ++ [x]))) (h6 : PA5 T H p ((P.length : Int) + 1) (xr6 d k (P ++ [x]))) : PS T H p d k (P ++ [x]) := by
  have e : ((P ++ [x]).length : Int) = (P.length : Int) + 1 := by
    rw [List.length_append]
    rfl
  unfold PS
  rw [e]
  exact ⟨h0, h1, h2, h3, h4, h5, h6⟩
theorem PA0_fr (hW : WT T H) (g : T.2.2.2 p = some 35) (f0 : wfr l T H H') (x : DAw 35 0 36 l = true) (h : PA0 T H p c f) : PA0 T H' p c f := DAo_fr g f0 x h
theorem PA1_fr (hW : WT T H) (g : T.2.2.2 p = some 35) (f0 : wfr l T H H') (x : DAw 35 1 37 l = true) (h : PA1 T H p c f) : PA1 T H' p c f := DAo_fr g f0 x h
theorem PA2_fr (hW : WT T H) (g : T.2.2.2 p = some 35) (f0 : wfr l T H H') (x : DAw 35 2 38 l = true) (h : PA2 T H p c f) : PA2 T H' p c f := DAo_fr g f0 x h
theorem PA3_fr (hW : WT T H) (g : T.2.2.2 p = some 35) (f0 : wfr l T H H') (x : DAw 35 3 39 l = true) (h : PA3 T H p c f) : PA3 T H' p c f := DAo_fr g f0 x h
theorem PA4_fr (hW : WT T H) (g : T.2.2.2 p = some 35) (f0 : wfr l T H H') (x : DAw 35 4 40 l = true) (h : PA4 T H p c f) : PA4 T H' p c f := DAo_fr g f0 x h
theorem PA5_fr (hW : WT T H) (g : T.2.2.2 p = some 35) (f0 : wfr l T H H') (x : DAw 35 5 41 l = true) (h : PA5 T H p c f) : PA5 T H' p c f := DAo_fr g f0 x h
theorem wno_le {t : Nat} {s s' : Nat → Bool} (h : wno l t s = true) (hs : ∀ j, s' j = true → s j = true) : wno l t s' = true := List.all_eq_true.mpr (fun q hq => by
  have h1 := List.all_eq_true.mp h q hq
  simp only [Bool.not_eq_true', Bool.and_eq_false_iff, Bool.or_eq_false_iff, beq_eq_false_iff_ne] at h1 ⊢
  rcases h1 with h1 | h1
  · exact Or.inl h1
  · refine Or.inr ⟨h1.1, ?_⟩
    cases e : s' q.2 with
    | false => rfl
    | true => rw [hs _ e] at h1; cases h1.2)
theorem PS_fr (hW : WT T H) (g : T.2.2.2 p = some 35) (f0 : wfr l T H H') (x : PSx l = true) (h : PS T H p d k P) : PS T H' p d k P := by
  unfold PSx at x
  simp only [Bool.and_eq_true] at x
  have y : ∀ S, S ≤ 5 → ∀ tg, wno l tg (fun _ => true) = true → DAw 35 S tg l = true := fun S hS tg ht => by
    unfold DAw
    rw [Bool.and_eq_true]
    exact ⟨wno_le x.1.1.1.1.1.1 (fun j hj => decide_eq_true (Or.inl (by have := of_decide_eq_true hj; omega))), ht⟩
  obtain ⟨h0, h1, h2, h3, h4, h5, h6⟩ := h
  exact ⟨(wno_f f0 g x.1.1.1.1.1.1 (j := 15) rfl).trans h0, DAo_fr g f0 (y 0 (by decide) 36 x.1.1.1.1.1.2) h1, DAo_fr g f0 (y 1 (by decide) 37 x.1.1.1.1.2) h2, DAo_fr g f0 (y 2 (by decide) 38 x.1.1.1.2) h3, DAo_fr g f0 (y 3 (by decide) 39 x.1.1.2) h4, DAo_fr g f0 (y 4 (by decide) 40 x.1.2) h5, DAo_fr g f0 (y 5 (by decide) 41 x.2) h6⟩
theorem PS_0 (hW : WT T H) (g : T.2.2.2 p = some 35) (h0 : H p 15 = 0) : PS T H p d k [] := by
  have h : ∀ S tg, (∃ b : Nat, H p S = (b : Int) ∧ T.2.2.2 b = some tg) → ∀ f : Nat → Int, DA S tg T H p (([] : List (Int × Int)).length : Int) f := fun S tg ⟨b, h1, h2⟩ f => ⟨b, h1, h2, fun k hk => by
    have hk : (k : Int) < 0 := hk
    omega⟩
  exact ⟨h0, h 0 36 (hW.ref g (n := 18) (p := 0) (q := 0) rfl (by decide) rfl) _, h 1 37 (hW.ref g (n := 18) (p := 0) (q := 0) rfl (by decide) rfl) _, h 2 38 (hW.ref g (n := 18) (p := 0) (q := 0) rfl (by decide) rfl) _, h 3 39 (hW.ref g (n := 18) (p := 0) (q := 0) rfl (by decide) rfl) _, h 4 40 (hW.ref g (n := 18) (p := 0) (q := 0) rfl (by decide) rfl) _, h 5 41 (hW.ref g (n := 18) (p := 0) (q := 0) rfl (by decide) rfl) _⟩
theorem PS_eq {P' : List (Int × Int)} (h : PS T H p d k P) (e : P = P') : PS T H p d k P' := e ▸ h
end PREL
/-! what is told of people lies between its bounds where a text goes well -/
section XDP

variable {B : Nat → Int} {n q : Int} {d : xD}
theorem xs_iff {f p : Int} {k : xO} : (xs f p k).1 = 0 ↔ f = 0 ∧ k.1 = 0 := by
  unfold xs
  split
  · next h => exact ⟨fun e => ⟨h, e⟩, fun e => e.2⟩
  · next h => exact ⟨fun e => absurd e h, fun e => absurd e.1 h⟩
theorem xh_z {lo hi : Int} (h : xh B n q lo hi = 0) : lo ≤ xV B n q ∧ xV B n q ≤ hi := by
  have := @xh_b B n q lo hi
  omega
theorem xrg_z {a1 a2 a3 a4 : Int} (h : (xrg B n q a1 a2 a3 a4).1 = 0) : 0 ≤ xV B n q ∧ xV B n q ≤ a1 ∧ xV B n q + a2 ≤ xV B n (xN B n (xN B n q)) ∧ xV B n (xN B n (xN B n q)) ≤ xV B n q + a3 ∧ xV B n (xN B n (xN B n q)) ≤ a4 := by
  unfold xrg at h
  simp only [xs_iff] at h
  have h1 := xh_z h.1
  have h2 := xh_z h.2.2.1
  omega
theorem xbd_z (h : (xbd B n q d).1 = 0) : (xrg B n (xN B n (xN B n q)) 23 0 7 23).1 = 0 ∧ (xrg B n (xN B n (xN B n (xN B n (xN B n (xN B n (xN B n q)))))) 12 0 4 12).1 = 0 := by
  unfold xbd at h
  simp only [xs_iff] at h
  exact ⟨h.2.2.1, h.2.2.2.2.1⟩
theorem xcs_z (h : (xcs B n q).1 = 0) : (-1 ≤ xhb B n q ∧ xhb B n q ≤ 23) ∧ (0 ≤ xnf B n (xqa B n q) ∧ xnf B n (xqa B n q) ≤ xnt B n (xqa B n q) ∧ xnt B n (xqa B n q) ≤ 24) := by
  unfold xcs xca at h
  have h2 : (xcb B n (xqa B n q) (0, q, xqc B n (xqb B n (xqa B n q)))).1 = 0 := by
    split at h
    · exact (xs_iff.mp h).2
    · exact h
  constructor
  · unfold xhb
    split at h
    · next e =>
      rw [if_pos e]
      have := xh_z (xs_iff.mp h).1
      omega
    · next e =>
      rw [if_neg e]
      omega
  · unfold xcb at h2
    unfold xnf xnt
    split at h2
    · next e =>
      rw [if_pos e, if_pos e]
      have := xrg_z (xs_iff.mp h2).1
      omega
    · next e =>
      rw [if_neg e, if_neg e]
      omega
theorem xaw_b {q : Int} : 0 ≤ xaw B n q ∧ xaw B n q ≤ 1 := by
  unfold xaw
  split <;> omega
theorem xdP_line (hP : xdP d) (h0 : 0 ≤ d 0 3) (h : (xline B n q d).1 = 0) : xdP (xdline B n q d) := by
  unfold xline at h
  unfold xdline
  split
  · exact xdP_cg hP (fun i h1 h2 => xdlaw_r (by omega))
  · next n0 =>
    rw [if_neg n0] at h
    split
    · next n1 =>
      rw [if_pos n1] at h
      unfold xl1 at h
      split at h
      · cases h
      · unfold xper at h
        have h1 := xs_iff.mp h
        have h2 := xbd_z h1.1
        have h3 := xrg_z h2.1
        have h4 := xrg_z h2.2
        have h5 := xcs_z h1.2
        have hk : (((d 0 3).toNat : Nat) : Int) = d 0 3 := by omega
        have h6 := @xdper_k (d 0 3).toNat d B n (xN B n q) hk
        obtain ⟨e1, e2, e3, e4, e5, e6, e7, e8, e9⟩ := h6
        refine xdP_per hP hk ?_
        rw [e2, e3, e4, e5, e6, e7, e8, e9]
        exact ⟨by omega, by omega, by omega, by omega, by omega, by omega, by omega, by omega, by omega, by omega, by omega, by omega, by omega, xaw_b.1, xaw_b.2⟩
    · split
      · exact xdP_cg hP (fun i h1 h2 => by unfold xdsex; rw [wq_u_row (by omega)])
      · split
        · exact xdP_cg hP (fun i h1 h2 => by unfold xdap; rw [wq_u_row (by omega), wq_u_row (by omega), wq_u_row (by omega)])
        · split
          · exact xdP_cg hP (fun i h1 h2 => by unfold xdbo; rw [wq_u_row (by omega), wq_u_row (by omega)])
          · split
            · exact xdP_cg hP (fun i h1 h2 => by unfold xdst; rw [wq_u_row (by omega)])
            · split
              · exact xdP_cg hP (fun i h1 h2 => by unfold xdtl; rw [wq_u_row (by omega), wq_u_row (by omega), wq_u_row (by omega)])
              · exact xdP_cg hP (fun i h1 h2 => by unfold xdof; rw [wq_u_row (by omega), wq_u_row (by omega), wq_u_row (by omega)])
theorem xd03_line (h0 : 0 ≤ d 0 3) : 0 ≤ xdline B n q d 0 3 := by
  unfold xdline
  split
  · rw [xdlaw_v.2.2.2.1]
    exact h0
  · split
    · rw [xdper_v.2.2.2.1]
      omega
    · split
      · rw [xdsex_v.2.2.2.1]
        exact h0
      · split
        · rw [xdap_v.2.2.2.1]
          exact h0
        · split
          · rw [xdbo_v.2.2.2.1]
            exact h0
          · split
            · show 0 ≤ wq_u d 13 (xV B n (xN B n q)).toNat (xV B n (xN B n (xN B n (xN B n q))) + 1) 0 3
              rw [wq_u_row (by decide)]
              exact h0
            · split
              · rw [xdtl_v.2.2.2.1]
                exact h0
              · rw [xdof_v.2.2.2.1]
                exact h0
theorem xdP_xpf : ∀ (f : Nat) (q : Int) (d : xD), xdP d → 0 ≤ d 0 3 → (xpf B n f q d).1.1 = 0 → xdP (xpf B n f q d).2
  | 0, q, d, hP, h0, h => absurd (show (1 : Int) = 0 from h) (by decide)
  | f + 1, q, d, hP, h0, h => by
    unfold xpf at h ⊢
    split at h
    · next a =>
      rw [if_pos a]
      have hP2 := xdP_line hP h0 a
      split at h
      · next b =>
        rw [if_pos b]
        split at h
        · next c =>
          rw [if_pos c]
          exact hP2
        · cases h
      · next b =>
        rw [if_neg b]
        split at h
        · next c =>
          rw [if_pos c]
          exact xdP_xpf f _ _ hP2 (xd03_line h0) h
        · cases h
    · next a => exact absurd h a
theorem xdP_parse (h : (xparse B n).1.1 = 0) : xdP (xparse B n).2 := xdP_xpf 902 _ xD0 xdP_0 (by decide) h
end XDP
end
section
/-! A PARISH OF THE CLASS, SETTLED (own work): its people's SPANS, what is SAID, where it was sought -/
/-- how a LOT's number grows with a person's SPANS: m people from k on -/
def xpr (d : xD) : Nat → Nat → Int
  | _, 0 => 1
  | k, m + 1 => (xsp d k).length * xpr d (k + 1) m
def xlots (d : xD) : Int := xpr d 0 (d 0 3).toNat
theorem xpr_b {d : xD} (h : xdP d) : ∀ (m k : Nat), 0 ≤ xpr d k m ∧ xpr d k m ≤ 40 ^ m
  | 0, _ => ⟨by show (0 : Int) ≤ 1; decide, by show (1 : Int) ≤ 1; decide⟩
  | m + 1, k => by
    have h1 := xpr_b h m (k + 1)
    have h2 := @xsp_len d k h
    show 0 ≤ (xsp d k).length * xpr d (k + 1) m ∧ ((xsp d k).length : Int) * xpr d (k + 1) m ≤ 40 ^ (m + 1)
    refine ⟨Int.mul_nonneg (by omega) h1.1, ?_⟩
    rw [Int.pow_succ, Int.mul_comm (40 ^ m)]
    exact Int.mul_le_mul (by omega) h1.2 h1.1 (by omega)
theorem p40 {m : Nat} (h : m ≤ 6) : (40 : Int) ^ m ≤ 4096000000 := by
  match m, h with
  | 0, _ => decide
  | 1, _ => decide
  | 2, _ => decide
  | 3, _ => decide
  | 4, _ => decide
  | 5, _ => decide
  | 6, _ => decide
  | n + 7, h => omega
/-- people from i on have their SPANS -/
def PQ (T : wq_T) (H : wq_H) (p : Nat) (d : xD) (k : Nat) : Prop := PS T H p d k (xsp d k) ∧ H p 17 = wq_w (xpr d (k + 1) ((d 0 3).toNat - (k + 1)))
def CS (T : wq_T) (H : wq_H) (r : Nat) (d : xD) (i : Int) : Prop := xdP d ∧ ∀ k : Nat, i ≤ k → (k : Int) < d 0 3 → ∃ p : Nat, H (H r 0).toNat k = (p : Int) ∧ T.2.2.2 p = some 35 ∧ PQ T H p d k
/-- what is SAID -/
def CG (T : wq_T) (H : wq_H) (r : Nat) (n : Int) (g : Nat → Int) : Prop := ∀ k : Nat, (k : Int) < n → ∃ p : Nat, H (H r 0).toNat k = (p : Int) ∧ T.2.2.2 p = some 35 ∧ H p 16 = g k
def CSx (l : List (Nat × Nat)) : Bool := wno l 27 (fun j => decide (j = 0)) && wno l 28 (fun _ => true) && (PSx l && wno l 35 (fun j => decide (j = 17)))
def CGx (l : List (Nat × Nat)) : Bool := wno l 27 (fun j => decide (j = 0)) && wno l 28 (fun _ => true) && wno l 35 (fun j => decide (j = 16))
section CREL

variable {T : wq_T} {H H' : wq_H} {l : List (Nat × Nat)} {r p q k : Nat} {d : xD} {i n v : Int} {g : Nat → Int}
theorem PQ_fr (hW : WT T H) (gp : T.2.2.2 p = some 35) (f : wfr l T H H') (x : (PSx l && wno l 35 (fun j => decide (j = 17))) = true) (h : PQ T H p d k) : PQ T H' p d k := by
  rw [Bool.and_eq_true] at x
  exact ⟨PS_fr hW gp f x.1 h.1, (wno_f f gp x.2 rfl).trans h.2⟩
theorem CS_fr (hW : WT T H) (gr : T.2.2.2 r = some 27) (f : wfr l T H H') (x : CSx l = true) (h : CS T H r d i) : CS T H' r d i := by
  unfold CSx at x
  rw [Bool.and_eq_true, Bool.and_eq_true] at x
  refine ⟨h.1, fun k hi hk => ?_⟩
  obtain ⟨p, h1, h2, h3⟩ := h.2 k hi hk
  exact ⟨p, (pa_fr hW gr f x.1.1 x.1.2 k).trans h1, h2, PQ_fr hW h2 f x.2 h3⟩
theorem CG_fr (hW : WT T H) (gr : T.2.2.2 r = some 27) (f : wfr l T H H') (x : CGx l = true) (h : CG T H r n g) : CG T H' r n g := by
  unfold CGx at x
  rw [Bool.and_eq_true, Bool.and_eq_true] at x
  intro k hk
  obtain ⟨p, h1, h2, h3⟩ := h k hk
  exact ⟨p, (pa_fr hW gr f x.1.1 x.1.2 k).trans h1, h2, (wno_f f h2 x.2 rfl).trans h3⟩
theorem CS_at {pa : Nat} (h : CS T H r d i) (e0 : H r 0 = (pa : Int)) (e1 : H pa k = (p : Int)) (hi : i ≤ k) (hk : (k : Int) < d 0 3) : PS T H p d k (xsp d k) ∧ H p 17 = wq_w (xpr d (k + 1) ((d 0 3).toNat - (k + 1))) := by
  obtain ⟨b, h1, -, h3⟩ := h.2 k hi hk
  rw [e0, Int.toNat_natCast, e1] at h1
  have : p = b := by omega
  subst this
  exact h3
theorem DQ_at {pa : Nat} (h : DQ T H r d) (e0 : H r 0 = (pa : Int)) (e1 : H pa k = (p : Int)) (hk : (k : Int) < d 0 3) : PF H p d k := by
  obtain ⟨b, h1, -, h3⟩ := h.1 k hk
  rw [e0, Int.toNat_natCast, e1] at h1
  have : p = b := by omega
  subst this
  exact h3
theorem CS_0 (hP : xdP d) (h : d 0 3 ≤ i) : CS T H r d i := ⟨hP, fun k h1 h2 => by omega⟩
end CREL
/-- a draft's people as they are told: no SPANS yet, nothing SAID; its CURSOR -/
def CZ (T : wq_T) (H : wq_H) (r : Nat) (n : Int) : Prop := H r 17 = 0 ∧ ∀ k : Nat, (k : Int) < n → ∃ p : Nat, H (H r 0).toNat k = (p : Int) ∧ T.2.2.2 p = some 35 ∧ H p 15 = 0 ∧ H p 16 = 0
def CZx (l : List (Nat × Nat)) : Bool := wno l 27 (fun j => decide (j = 0 ∨ j = 17)) && wno l 28 (fun _ => true) && wno l 35 (fun j => decide (j = 15 ∨ j = 16))
/-- no two of its people have an array in common -/
def DE (T : wq_T) (H : wq_H) (r : Nat) : Prop := ∀ i i' j : Nat, i < 6 → i' < 6 → j < 6 → H (H (H r 0).toNat i).toNat j = H (H (H r 0).toNat i').toNat j → i = i'
def DEx (l : List (Nat × Nat)) : Bool := wno l 27 (fun j => decide (j = 0)) && wno l 28 (fun _ => true) && wno l 35 (fun j => decide (j ≤ 5))
section CZREL

variable {T : wq_T} {H H' : wq_H} {l : List (Nat × Nat)} {r p q k : Nat} {d : xD} {i n n' v : Int} {g : Nat → Int} {C : Nat → Bool} {x : Nat}
theorem CZ_fr (hW : WT T H) (gr : T.2.2.2 r = some 27) (f : wfr l T H H') (y : CZx l = true) (h : CZ T H r n) : CZ T H' r n := by
  unfold CZx at y
  simp only [Bool.and_eq_true] at y
  have y0 : wno l 27 (fun j => decide (j = 0)) = true := wno_le y.1.1 (fun j hj => decide_eq_true (Or.inl (of_decide_eq_true hj)))
  refine ⟨(wno_f f gr y.1.1 (j := 17) rfl).trans h.1, fun k hk => ?_⟩
  obtain ⟨p, h1, h2, h3, h4⟩ := h.2 k hk
  exact ⟨p, (pa_fr hW gr f y0 y.1.2 k).trans h1, h2, (wno_f f h2 y.2 (j := 15) rfl).trans h3, (wno_f f h2 y.2 (j := 16) rfl).trans h4⟩
theorem CZ_le (h : CZ T H r n) (e : n' ≤ n) : CZ T H r n' := ⟨h.1, fun k hk => h.2 k (by omega)⟩
theorem CZ_0 (h : H r 17 = 0) (hn : n ≤ 0) : CZ T H r n := ⟨h, fun k hk => by omega⟩
theorem CZ_at {pa : Nat} (h : CZ T H r n) (e0 : H r 0 = (pa : Int)) (e1 : H pa k = (p : Int)) (hk : (k : Int) < n) : H p 15 = 0 ∧ H p 16 = 0 := by
  obtain ⟨b, h1, -, h3⟩ := h.2 k hk
  rw [e0, Int.toNat_natCast, e1] at h1
  have : p = b := by omega
  subst this
  exact h3
/-- one more is told; the others are as they were -/
theorem CZ_add {pa : Nat} (hW : WT T H) (gr : T.2.2.2 r = some 27) (f : wfr l T H H') (y : (wno l 27 (fun j => decide (j = 0 ∨ j = 17)) && wno l 28 (fun _ => true)) = true) (hd : DD T H r) (e0 : H r 0 = (pa : Int)) (e1 : H pa k = (p : Int)) (gp : T.2.2.2 p = some 35) (hk : (k : Int) = n) (hk6 : k < 6) (ho : ∀ a, a ≠ p → T.2.2.2 a = some 35 → H' a = H a) (h15 : H' p 15 = 0) (h16 : H' p 16 = 0) (h : CZ T H r n) : CZ T H' r (n + 1) := by
  rw [Bool.and_eq_true] at y
  have y0 : wno l 27 (fun j => decide (j = 0)) = true := wno_le y.1 (fun j hj => decide_eq_true (Or.inl (of_decide_eq_true hj)))
  refine ⟨(wno_f f gr y.1 (j := 17) rfl).trans h.1, fun j hj => ?_⟩
  by_cases e : j = k
  · subst e
    refine ⟨p, (pa_fr hW gr f y0 y.2 j).trans (by rw [e0, Int.toNat_natCast]; exact e1), gp, h15, h16⟩
  · obtain ⟨b, h1, h2, h3, h4⟩ := h.2 j (by omega)
    have hb : b ≠ p := fun q => by
      obtain ⟨pa', q1, -, q3⟩ := hd
      rw [e0] at q1
      have : pa' = pa := by omega
      subst this
      rw [e0, Int.toNat_natCast] at h1
      exact e (q3 j k (by omega) hk6 (by rw [h1, e1, q]))
    refine ⟨b, (pa_fr hW gr f y0 y.2 j).trans h1, h2, ?_, ?_⟩
    · rw [ho b hb h2]
      exact h3
    · rw [ho b hb h2]
      exact h4
theorem CG_z (h : CZ T H r n) : CG T H r n (fun _ => 0) := fun k hk => by
  obtain ⟨p, h1, h2, -, h4⟩ := h.2 k hk
  exact ⟨p, h1, h2, h4⟩
theorem DE_fr (hW : WT T H) (gr : T.2.2.2 r = some 27) (f : wfr l T H H') (y : DEx l = true) (h : DE T H r) : DE T H' r := by
  unfold DEx at y
  simp only [Bool.and_eq_true] at y
  intro i i' j hi hi' hj e
  obtain ⟨pa, q1, q2⟩ := hW.ref gr (t' := 28) (n := 19) (j := 0) (p := 0) (q := 0) rfl (by decide) rfl
  obtain ⟨a, a1, a2⟩ := hW.ref q2 (t' := 35) (n := 6) (j := i) (p := 0) (q := 0) rfl hi rfl
  obtain ⟨b, b1, b2⟩ := hW.ref q2 (t' := 35) (n := 6) (j := i') (p := 0) (q := 0) rfl hi' rfl
  refine h i i' j hi hi' hj ?_
  rw [pa_fr hW gr f y.1.1 y.1.2 i, pa_fr hW gr f y.1.1 y.1.2 i'] at e
  rw [q1, Int.toNat_natCast, a1, b1, Int.toNat_natCast, Int.toNat_natCast] at e ⊢
  rw [wno_f f a2 y.2 (decide_eq_true (show j ≤ 5 by omega)), wno_f f b2 y.2 (decide_eq_true (show j ≤ 5 by omega))] at e
  exact e
/-- a person and what hangs on it, by itself -/
def cP (H : wq_H) (p : Nat) (a : Nat) : Bool := !(decide (a = p) || (List.range 6).any (fun j => decide (H p j = (a : Int))))
theorem cP_p : cP H p p = false := by
  unfold cP
  rw [decide_eq_true rfl]
  rfl
theorem cP_a {b j : Nat} (hj : j < 6) (e : H p j = (b : Int)) : cP H p b = false := by
  unfold cP
  rw [show (List.range 6).any (fun j => decide (H p j = (b : Int))) = true from List.any_eq_true.mpr ⟨j, List.mem_range.mpr hj, decide_eq_true e⟩, Bool.or_true]
  rfl
theorem cP_f {b : Nat} (h : cP H p b = false) : b = p ∨ ∃ j, j < 6 ∧ H p j = (b : Int) := by
  unfold cP at h
  have h : (decide (b = p) || (List.range 6).any (fun j => decide (H p j = (b : Int)))) = true := by
    cases e : (decide (b = p) || (List.range 6).any (fun j => decide (H p j = (b : Int)))) with
    | true => rfl
    | false => rw [e] at h; cases h
  rw [Bool.or_eq_true] at h
  rcases h with h | h
  · exact Or.inl (of_decide_eq_true h)
  · obtain ⟨j, h1, h2⟩ := List.any_eq_true.mp h
    exact Or.inr ⟨j, List.mem_range.mp h1, of_decide_eq_true h2⟩
theorem per_ref (hW : WT T H) (gp : T.2.2.2 p = some 35) {j : Nat} (hj : j < 6) : ∃ b : Nat, H p j = (b : Int) ∧ T.2.2.2 b = some (36 + j) := by
  match j, hj with
  | 0, _ => exact hW.ref gp (n := 18) (p := 0) (q := 0) rfl (by decide) rfl
  | 1, _ => exact hW.ref gp (n := 18) (p := 0) (q := 0) rfl (by decide) rfl
  | 2, _ => exact hW.ref gp (n := 18) (p := 0) (q := 0) rfl (by decide) rfl
  | 3, _ => exact hW.ref gp (n := 18) (p := 0) (q := 0) rfl (by decide) rfl
  | 4, _ => exact hW.ref gp (n := 18) (p := 0) (q := 0) rfl (by decide) rfl
  | 5, _ => exact hW.ref gp (n := 18) (p := 0) (q := 0) rfl (by decide) rfl
theorem cP_SQ (hW : WT T H) (gp : T.2.2.2 p = some 35) : SQ T H (cP H p) := fun a t j ht hj hc => by
  rcases cP_f hc with rfl | ⟨i, hi, e⟩
  · rw [gp] at ht
    cases ht
    have hj6 : j < 6 := by omega
    obtain ⟨b, h1, -⟩ := per_ref hW gp hj6
    rw [h1, Int.toNat_natCast]
    exact cP_a hj6 h1
  · obtain ⟨b, h1, h2⟩ := per_ref hW gp hi
    have : a = b := by omega
    subst this
    rw [ht] at h2
    have := Option.some.inj h2
    omega
theorem PS_un {P : List (Int × Int)} (h : PS (rtT T C) H p d k P) : PS T H p d k P := by
  have u : ∀ {S tg : Nat} {c : Int} {f : Nat → Int}, tg < 200 → DA S tg (rtT T C) H p c f → DA S tg T H p c f := fun ht ⟨b, h1, h2, h3⟩ => ⟨b, h1, rtT_lo h2 ht, h3⟩
  obtain ⟨h0, h1, h2, h3, h4, h5, h6⟩ := h
  exact ⟨h0, u (by decide) h1, u (by decide) h2, u (by decide) h3, u (by decide) h4, u (by decide) h5, u (by decide) h6⟩
/-- another person and what hangs on it -/
theorem cP_q {pa i : Nat} (hW : WT T H) (gr : T.2.2.2 r = some 27) (hd : DD T H r) (he : DE T H r) (e0 : H r 0 = (pa : Int)) (e1 : H pa k = (p : Int)) (gp : T.2.2.2 p = some 35) (hk : k < 6) (hi : i < 6) (hne : i ≠ k) (e2 : H pa i = (q : Int)) (gq : T.2.2.2 q = some 35) : q ≠ p ∧ cP H p q = true ∧ ∀ j b : Nat, j < 6 → H q j = (b : Int) → T.2.2.2 b = some (36 + j) ∧ cP H p b = true := by
  have hqp : q ≠ p := fun e => by
    obtain ⟨pa', q1, -, q3⟩ := hd
    rw [e0] at q1
    have : pa' = pa := by omega
    subst this
    exact hne (q3 i k hi hk (by rw [e2, e1, e]))
  have tr : ∀ a, ¬ (cP H p a = false) → cP H p a = true := fun a h => by
    cases e : cP H p a with
    | true => rfl
    | false => exact absurd e h
  refine ⟨hqp, tr q (fun h => ?_), fun j b hj hb => ?_⟩
  · rcases cP_f h with h1 | ⟨j, h1, h2⟩
    · exact hqp h1
    · obtain ⟨b, h3, h4⟩ := per_ref hW gp h1
      have : q = b := by omega
      subst this
      rw [gq] at h4
      have := Option.some.inj h4
      omega
  · obtain ⟨b', h3, h4⟩ := per_ref hW gq hj
    have : b = b' := by omega
    subst this
    refine ⟨h4, tr b (fun h => ?_)⟩
    rcases cP_f h with h1 | ⟨j', h1, h2⟩
    · subst h1
      rw [gp] at h4
      have := Option.some.inj h4
      omega
    · obtain ⟨b2, h5, h6⟩ := per_ref hW gp h1
      have : b = b2 := by omega
      subst this
      rw [h4] at h6
      have := Option.some.inj h6
      have : j = j' := by omega
      subst this
      refine hne (he i k j hi hk hj ?_)
      rw [e0, Int.toNat_natCast, e1, e2, Int.toNat_natCast, Int.toNat_natCast, h3, h5]
theorem DA_mv {S tg : Nat} {c : Int} {f : Nat → Int} (h : DA S tg T H p c f) (ep : H' p = H p) (eb : ∀ b : Nat, H p S = (b : Int) → T.2.2.2 b = some tg → H' b = H b) : DA S tg T H' p c f := by
  obtain ⟨b, h1, h2, h3⟩ := h
  exact ⟨b, by rw [ep]; exact h1, h2, by rw [eb b h1 h2]; exact h3⟩
theorem PS_mv {P : List (Int × Int)} (h : PS T H p d k P) (ep : H' p = H p) (eb : ∀ j b : Nat, j < 6 → H p j = (b : Int) → T.2.2.2 b = some (36 + j) → H' b = H b) : PS T H' p d k P := by
  obtain ⟨h0, h1, h2, h3, h4, h5, h6⟩ := h
  exact ⟨by rw [ep]; exact h0, DA_mv h1 ep (fun b => eb 0 b (by decide)), DA_mv h2 ep (fun b => eb 1 b (by decide)), DA_mv h3 ep (fun b => eb 2 b (by decide)), DA_mv h4 ep (fun b => eb 3 b (by decide)), DA_mv h5 ep (fun b => eb 4 b (by decide)), DA_mv h6 ep (fun b => eb 5 b (by decide))⟩
/-- behind the making of one person's SPANS those of the others are as they were -/
theorem CS_mk {pa : Nat} (hW : WT T H) (gr : T.2.2.2 r = some 27) (hd : DD T H r) (he : DE T H r) (e0 : H r 0 = (pa : Int)) (g0 : T.2.2.2 pa = some 28) (e0' : H' r 0 = (pa : Int)) (e1' : ∀ j, H' pa j = H pa j) (e1 : H pa k = (p : Int)) (gp : T.2.2.2 p = some 35) (hk : k < 6) (h3 : d 0 3 ≤ 6) (ho : ∀ a, rtF T (cP H p) a = true → H' a = H a) (hi : (k : Int) < i) (h : CS T H r d i) : CS T H' r d i := by
  refine ⟨h.1, fun j hj hj2 => ?_⟩
  obtain ⟨q, q1, q2, q3, q4⟩ := h.2 j hj hj2
  rw [e0, Int.toNat_natCast] at q1
  obtain ⟨c1, c2, c3⟩ := cP_q hW gr hd he e0 e1 gp hk (show j < 6 by omega) (show j ≠ k by omega) q1 q2
  have eq : H' q = H q := ho q (rtF_1 q2 (by decide) (by decide) c2)
  refine ⟨q, by rw [e0', Int.toNat_natCast, e1']; exact q1, q2, PS_mv q3 eq (fun j b hj hb gb => ho b (rtF_1 gb (by omega) (by omega) (c3 j b hj hb).2)), by rw [eq]; exact q4⟩
theorem CZ_mk {pa : Nat} (hW : WT T H) (gr : T.2.2.2 r = some 27) (hd : DD T H r) (he : DE T H r) (e0 : H r 0 = (pa : Int)) (e0' : H' r 0 = (pa : Int)) (e1' : ∀ j, H' pa j = H pa j) (e17 : H' r 17 = H r 17) (e1 : H pa k = (p : Int)) (gp : T.2.2.2 p = some 35) (hk : k < 6) (hn : n ≤ k) (ho : ∀ a, rtF T (cP H p) a = true → H' a = H a) (h : CZ T H r (n + 1)) : CZ T H' r n := by
  refine ⟨e17.trans h.1, fun j hj => ?_⟩
  obtain ⟨q, q1, q2, q3, q4⟩ := h.2 j (by omega)
  rw [e0, Int.toNat_natCast] at q1
  obtain ⟨c1, c2, -⟩ := cP_q hW gr hd he e0 e1 gp hk (show j < 6 by omega) (show j ≠ k by omega) q1 q2
  have eq : H' q = H q := ho q (rtF_1 q2 (by decide) (by decide) c2)
  exact ⟨q, by rw [e0', Int.toNat_natCast, e1']; exact q1, q2, by rw [eq]; exact q3, by rw [eq]; exact q4⟩
/-- its own number is written -/
theorem CS_17 {pa : Nat} (hd : DD T H r) (e0 : H r 0 = (pa : Int)) (g0 : T.2.2.2 pa = some 28) (gr : T.2.2.2 r = some 27) (e1 : H pa k = (p : Int)) (gp : T.2.2.2 p = some 35) (hk : k < 6) (h3 : d 0 3 ≤ 6) (hi : (k : Int) < i) (e : H' = wq_u H p 17 v) (h : CS T H r d i) : CS T H' r d i := by
  refine ⟨h.1, fun j hj hj2 => ?_⟩
  obtain ⟨q, q1, q2, q3, q4⟩ := h.2 j hj hj2
  rw [e0, Int.toNat_natCast] at q1
  have hqp : q ≠ p := fun e => by
    obtain ⟨pa', a1, -, a3⟩ := hd
    rw [e0] at a1
    have : pa' = pa := by omega
    subst this
    have := a3 j k (by omega) hk (by rw [q1, e1, e])
    omega
  have n1 : ∀ a t, T.2.2.2 a = some t → t ≠ 35 → H' a = H a := fun a t ht ne => by
    rw [e]
    funext i
    exact wq_u_na (fun q => by subst q; rw [gp] at ht; exact ne (Option.some.inj ht).symm) i
  have eq : H' q = H q := by
    rw [e]
    funext i
    exact wq_u_na hqp i
  refine ⟨q, ?_, q2, PS_mv q3 eq (fun j b hj hb gb => n1 b _ gb (by omega)), by rw [eq]; exact q4⟩
  rw [n1 r _ gr (by decide), e0, Int.toNat_natCast, n1 pa _ g0 (by decide)]
  exact q1
/-- and one more has its SPANS -/
theorem CS_cons {pa : Nat} (e0 : H r 0 = (pa : Int)) (e1 : H pa k = (p : Int)) (gp : T.2.2.2 p = some 35) (hs : PS T H p d k (xsp d k)) (h17 : H p 17 = wq_w (xpr d (k + 1) ((d 0 3).toNat - (k + 1)))) (hi : i = k) (h : CS T H r d (i + 1)) : CS T H r d i := by
  refine ⟨h.1, fun j hj hj2 => ?_⟩
  by_cases e : j = k
  · subst e
    exact ⟨p, by rw [e0, Int.toNat_natCast]; exact e1, gp, hs, h17⟩
  · exact h.2 j (by omega) hj2
theorem CS_ge {i' : Int} (h : CS T H r d i) (e : i ≤ i') : CS T H r d i' := ⟨h.1, fun k h1 h2 => h.2 k (by omega) h2⟩
theorem xpr_i {k : Nat} (h : (k : Int) < d 0 3) : xpr d k ((d 0 3).toNat - k) = (xsp d k).length * xpr d (k + 1) ((d 0 3).toNat - (k + 1)) := by
  rw [show (d 0 3).toNat - k = ((d 0 3).toNat - (k + 1)) + 1 by omega]
  rfl
theorem xpr_z {k : Nat} (h : d 0 3 ≤ k) : xpr d k ((d 0 3).toNat - k) = 1 := by
  rw [show (d 0 3).toNat - k = 0 by omega]
  rfl
theorem xpr_c (hP : xdP d) (h3 : d 0 3 ≤ 6) (k : Nat) : 0 ≤ xpr d k ((d 0 3).toNat - k) ∧ xpr d k ((d 0 3).toNat - k) ≤ 4096000000 := by
  have h1 := xpr_b hP ((d 0 3).toNat - k) k
  have h2 := @p40 ((d 0 3).toNat - k) (by omega)
  omega
theorem xdP_set (h : xdP d) : xdP (xset d) := xdP_cg h (fun i h1 h2 => xset_o (by omega))
/-- what must be watched -/
theorem xmu_y {k : Nat} {z : Int} (e : (k : Int) = d 0 8) (hf : ∀ h, h < 24 → d 13 h ≤ 100) (hz : z = xob (fun h => decide (d 13 h > 0 ∧ d 13 h ≤ 99 + 1)) 24) : z = xmu d k := by
  unfold xmu
  rw [if_pos e, hz]
  refine xob_cg 24 (fun j hj => ?_)
  have := hf j hj
  by_cases q : d 13 j > 0
  · rw [decide_eq_true q, decide_eq_true ⟨q, by omega⟩]
  · rw [decide_eq_false q, decide_eq_false (fun c => q c.1)]
theorem xmu_n {k : Nat} (e : (k : Int) ≠ d 0 8) : 0 = xmu d k := by
  unfold xmu
  rw [if_neg e]
theorem xmu_s {k : Nat} {z : Int} (e : (k : Int) = d 0 8) (hz : z = xob (fun h => decide (d 13 h > 0)) 24) : z = xmu d k := by
  unfold xmu
  rw [if_pos e]
  exact hz
theorem and_0 {x : Int} : wq_and x 0 = 0 := by
  unfold wq_and
  rw [show Int32.ofInt 0 = 0 from rfl, Int32.and_zero]
  rfl
theorem ST_100 {f : Nat → Int} (h : ST T H r f) : ∀ k, k < 24 → f k ≤ 100 := fun k hk => by
  obtain ⟨s, -, -, h3⟩ := h
  exact (h3 k hk).2.1
theorem xmk_k {f : Nat → Int} {a z w x : Int} (h0 : 0 ≤ v) (e : w = wq_and x z) (hx : x = xmk f a v v.toNat) (hz : z = a) : xmk f a (v + 1) v.toNat = w := by
  have := @xmk_c f a v h0
  rw [this.1, e, hx, hz, this.2.2]
/-- the state between calls: what is told, what is struck now, SPANS, LOTS -/
def CU (T : wq_T) (H : wq_H) (r : Nat) (e d : xD) (n : Int) : Prop := DC T H r e ∧ CS T H r d 0 ∧ H r 18 = n
/-- and what is SAID, the CURSOR -/
def CY (T : wq_T) (H : wq_H) (r : Nat) (n : Int) (g : Nat → Int) (c : Int) : Prop := CG T H r n g ∧ H r 17 = c
def CUx (l : List (Nat × Nat)) : Bool := DCx l && CSx l && wno l 27 (fun j => decide (j = 18))
def CYx (l : List (Nat × Nat)) : Bool := CGx l && wno l 27 (fun j => decide (j = 17))
theorem CU_fr {e : xD} (hW : WT T H) (gr : T.2.2.2 r = some 27) (f : wfr l T H H') (y : CUx l = true) (h : CU T H r e d n) : CU T H' r e d n := by
  unfold CUx at y
  simp only [Bool.and_eq_true] at y
  obtain ⟨h1, h2, h3⟩ := h
  exact ⟨DC_fr hW gr f y.1.1 h1, CS_fr hW gr f y.1.2 h2, (wno_f f gr y.2 (j := 18) rfl).trans h3⟩
theorem CY_fr {c : Int} (hW : WT T H) (gr : T.2.2.2 r = some 27) (f : wfr l T H H') (y : CYx l = true) (h : CY T H r n g c) : CY T H' r n g c := by
  unfold CYx at y
  rw [Bool.and_eq_true] at y
  exact ⟨CG_fr hW gr f y.1 h.1, (wno_f f gr y.2 (j := 17) rfl).trans h.2⟩
theorem CU_fz {e : xD} (hW : WT T H) (gr : T.2.2.2 r = some 27) (hS : SP T H x C) (hc : C r = true) (ho : ∀ a, rtF T C a = true → H' a = H a) (h3 : d 0 3 ≤ 6) (h : CU T H r e d n) : CU T H' r e d n := by
  have er : H' r = H r := ho r (rtF_1 gr (by decide) (by decide) hc)
  obtain ⟨h1, h2, h4⟩ := h
  refine ⟨DC_fz hW gr hS hc ho h1, ⟨h2.1, fun k hk hk2 => ?_⟩, by rw [er]; exact h4⟩
  obtain ⟨p, a1, a2, a3, a4⟩ := h2.2 k hk hk2
  obtain ⟨b1, b2, b3⟩ := fz_per hW gr hS hc ho (show k < 6 by omega) a1 a2
  refine ⟨p, b1, a2, PS_mv a3 b3 (fun j b hj hb gb => ?_), by rw [b3]; exact a4⟩
  have c1 := hS p 35 j a2 (Or.inr (Or.inr ⟨rfl, hj⟩))
  rw [hb, Int.toNat_natCast] at c1
  exact ho b (rtF_1 gb (by omega) (by omega) (c1.trans b2))
theorem CY_fz {c : Int} (hW : WT T H) (gr : T.2.2.2 r = some 27) (hS : SP T H x C) (hc : C r = true) (ho : ∀ a, rtF T C a = true → H' a = H a) (h3 : n ≤ 6) (h : CY T H r n g c) : CY T H' r n g c := by
  have er : H' r = H r := ho r (rtF_1 gr (by decide) (by decide) hc)
  refine ⟨fun k hk => ?_, by rw [er]; exact h.2⟩
  obtain ⟨p, a1, a2, a3⟩ := h.1 k hk
  obtain ⟨b1, b2, b3⟩ := fz_per hW gr hS hc ho (show k < 6 by omega) a1 a2
  exact ⟨p, b1, a2, by rw [b3]; exact a3⟩
theorem CZ_un (h : CZ (rtT T C) H r n) : CZ T H r n := ⟨h.1, fun k hk => by
  obtain ⟨p, h1, h2, h3⟩ := h.2 k hk
  exact ⟨p, h1, rtT_lo h2 (by decide), h3⟩⟩
theorem xpr_m {v a b w : Int} (hP : xdP d) (h3 : d 0 3 ≤ 6) (h0 : 0 ≤ v) (hv : v < d 0 3) (ha : a = xpr d (v + 1).toNat ((d 0 3).toNat - (v + 1).toNat)) (hb : b = (xsp d v.toNat).length) (e : w = wl_w (a * b)) : w = xpr d v.toNat ((d 0 3).toNat - v.toNat) := by
  have h1 := xpr_c hP h3 v.toNat
  have h2 := @xpr_i d v.toNat (by omega)
  rw [show (v + 1).toNat = v.toNat + 1 by omega] at ha
  rw [e, ha, hb, Int.mul_comm, ← h2]
  exact wl_w_id ⟨by omega, by omega⟩
theorem str_m {v a w : Int} (h0 : 0 ≤ v) (ha : a = xpr d (v + 1).toNat ((d 0 3).toNat - (v + 1).toNat)) (e : w = wq_w a) : w = wq_w (xpr d (v.toNat + 1) ((d 0 3).toNat - (v.toNat + 1))) := by
  rw [e, ha, show (v + 1).toNat = v.toNat + 1 by omega]
theorem xlots_e {v : Int} (h : v = -1) : xpr d (v + 1).toNat ((d 0 3).toNat - (v + 1).toNat) = xlots d := by
  subst h
  rfl
theorem CU_k {e : xD} (h : CU T H r e d n) : H r 7 = e 0 0 ∧ H r 8 = e 0 1 ∧ H r 9 = e 0 2 ∧ H r 10 = e 0 3 ∧ H r 11 = e 0 4 ∧ H r 12 = e 0 5 ∧ H r 13 = e 0 6 ∧ H r 14 = e 0 7 ∧ -1 ≤ e 0 8 ∧ e 0 8 ≤ 5 ∧ H r 15 = xsx (e 0 8) ∧ H r 16 = xcn (e 13) 24 ∧ 0 ≤ e 0 3 ∧ e 0 3 ≤ 6 ∧ 0 ≤ e 0 4 ∧ e 0 4 ≤ 3 ∧ H r 18 = n := by
  have := DC_k h.1
  obtain ⟨-, -, h5⟩ := h
  omega
end CZREL
end
section
/-! THE REFERENCE'S STATE (own work): what it has read last that went well, its SPANS, what is struck now, what is SAID -/
def MSq (H : wq_H) (R : Nat) (d : xD) : Prop := H R 0 = d 0 0 ∧ H R 1 = d 0 1 ∧ H R 2 = d 0 2 ∧ H R 3 = d 0 3 ∧ H R 4 = d 0 4 ∧ H R 5 = d 0 5 ∧ H R 6 = d 0 6 ∧ H R 7 = d 0 7 ∧ H R 8 = d 0 8 ∧ -1 ≤ d 0 8 ∧ d 0 8 ≤ 5
def MRo (T : wq_T) (H : wq_H) (R : Nat) (d : xD) : Prop := MA9 T H R (d 1) ∧ MA10 T H R (d 2) ∧ MA11 T H R (d 3) ∧ MA12 T H R (d 4) ∧ MA13 T H R (d 5) ∧ MA14 T H R (d 6) ∧ MA15 T H R (d 7) ∧ MA16 T H R (d 8) ∧ MA17 T H R (d 9) ∧ MA18 T H R (d 10) ∧ MA19 T H R (d 11) ∧ MA20 T H R (d 12) ∧ MA21 T H R (d 13) ∧ MA22 T H R (d 14) ∧ MA23 T H R (d 15) ∧ MA25 T H R (d 17) ∧ MA26 T H R (d 16)
def DMQ (T : wq_T) (H : wq_H) (R : Nat) (d : xD) : Prop := MSq H R d ∧ xdP d ∧ MRo T H R d
def DMQx (l : List (Nat × Nat)) : Bool := wno l 54 (fun _ => true) && (List.range 18).all (fun i => wno l (55 + i) (fun _ => true))
/-- the new one lies behind all that was there -/
def FZ (T : wq_T) (H : wq_H) (R : Nat) (N : Nat) (H0 : wq_H) : Prop := (∀ a t, T.2.2.2 a = some t → 54 ≤ t → t ≤ 72 → a < N → H a = H0 a) ∧ N ≤ R ∧ ∀ j, 9 ≤ j → j ≤ 26 → (N : Int) ≤ H R j
def FZx (l : List (Nat × Nat)) : Bool := wno l 54 (fun _ => true) && (List.range 18).all (fun i => wno l (55 + i) (fun _ => true))
section MSREL

variable {T T' : wq_T} {H H' H0 : wq_H} {l : List (Nat × Nat)} {R m b k N j S tg s t : Nat} {d : xD} {v : Int}
theorem DM_q (h : DM T H R m d) : DMQ T H R d := by
  obtain ⟨-, ⟨h0, h1, h2, h3, h4, h5, h6, h7, h8, -, h9, h10⟩, hp, hr⟩ := h
  exact ⟨⟨h0, h1, h2, h3, h4, h5, h6, h7, h8, h9, h10⟩, hp, hr⟩
theorem MA_mv {n : Nat} {f : Nat → Int} (h : MA S tg n T H R f) (eR : H' R = H R) (eb : ∀ b, T.2.2.2 b = some tg → (H R S = (b : Int)) → H' b = H b) : MA S tg n T H' R f := by
  obtain ⟨b, h1, h2, h3⟩ := h
  exact ⟨b, by rw [eR]; exact h1, h2, by rw [eb b h2 h1]; exact h3⟩
theorem DMQ_mv (g : T.2.2.2 R = some 54) (ho : ∀ a t, T.2.2.2 a = some t → 54 ≤ t → t ≤ 72 → H' a = H a) (h : DMQ T H R d) : DMQ T H' R d := by
  have eR := ho R 54 g (by decide) (by decide)
  obtain ⟨h1, h2, a1, a2, a3, a4, a5, a6, a7, a8, a9, a10, a11, a12, a13, a14, a15, a16, a17⟩ := h
  have e : ∀ tg, 54 ≤ tg → tg ≤ 72 → ∀ (S b : Nat), T.2.2.2 b = some tg → (H R S = (b : Int)) → H' b = H b := fun tg t1 t2 S b hb _ => ho b tg hb t1 t2
  exact ⟨by unfold MSq; rw [eR]; exact h1, h2, MA_mv a1 eR (e _ (by decide) (by decide) _), MA_mv a2 eR (e _ (by decide) (by decide) _), MA_mv a3 eR (e _ (by decide) (by decide) _), MA_mv a4 eR (e _ (by decide) (by decide) _), MA_mv a5 eR (e _ (by decide) (by decide) _), MA_mv a6 eR (e _ (by decide) (by decide) _), MA_mv a7 eR (e _ (by decide) (by decide) _), MA_mv a8 eR (e _ (by decide) (by decide) _), MA_mv a9 eR (e _ (by decide) (by decide) _), MA_mv a10 eR (e _ (by decide) (by decide) _), MA_mv a11 eR (e _ (by decide) (by decide) _), MA_mv a12 eR (e _ (by decide) (by decide) _), MA_mv a13 eR (e _ (by decide) (by decide) _), MA_mv a14 eR (e _ (by decide) (by decide) _), MA_mv a15 eR (e _ (by decide) (by decide) _), MA_mv a16 eR (e _ (by decide) (by decide) _), MA_mv a17 eR (e _ (by decide) (by decide) _)⟩
theorem MA_mono {n : Nat} {f : Nat → Int} (mo : ∀ a t, T.2.2.2 a = some t → T'.2.2.2 a = some t) (h : MA S tg n T H R f) : MA S tg n T' H R f := by
  obtain ⟨b, h1, h2, h3⟩ := h
  exact ⟨b, h1, mo _ _ h2, h3⟩
theorem DMQ_mono (mo : ∀ a t, T.2.2.2 a = some t → T'.2.2.2 a = some t) (h : DMQ T H R d) : DMQ T' H R d := by
  obtain ⟨h1, h2, a1, a2, a3, a4, a5, a6, a7, a8, a9, a10, a11, a12, a13, a14, a15, a16, a17⟩ := h
  exact ⟨h1, h2, MA_mono mo a1, MA_mono mo a2, MA_mono mo a3, MA_mono mo a4, MA_mono mo a5, MA_mono mo a6, MA_mono mo a7, MA_mono mo a8, MA_mono mo a9, MA_mono mo a10, MA_mono mo a11, MA_mono mo a12, MA_mono mo a13, MA_mono mo a14, MA_mono mo a15, MA_mono mo a16, MA_mono mo a17⟩
theorem DMQ_k (h : DMQ T H R d) : H R 0 = d 0 0 ∧ H R 1 = d 0 1 ∧ H R 2 = d 0 2 ∧ H R 3 = d 0 3 ∧ H R 4 = d 0 4 ∧ H R 5 = d 0 5 ∧ H R 6 = d 0 6 ∧ H R 7 = d 0 7 ∧ H R 8 = d 0 8 ∧ -1 ≤ d 0 8 ∧ d 0 8 ≤ 5 := h.1
theorem fam_same (f : wfr l T H H') (x : DMQx l = true) : ∀ a t, T.2.2.2 a = some t → 54 ≤ t → t ≤ 72 → H' a = H a := fun a t ht h1 h2 => by
  unfold DMQx at x
  rw [Bool.and_eq_true] at x
  funext j
  by_cases e : t = 54
  · subst e
    exact wno_f f ht x.1 rfl
  · have := List.all_eq_true.mp x.2 (t - 55) (List.mem_range.mpr (by omega))
    rw [show 55 + (t - 55) = t by omega] at this
    exact wno_f f ht this rfl
theorem DMQ_fr (hW : WT T H) (g : T.2.2.2 R = some 54) (f : wfr l T H H') (x : DMQx l = true) (h : DMQ T H R d) : DMQ T H' R d := DMQ_mv g (fam_same f x) h
theorem FZ_fr (hW : WT T H) (g : T.2.2.2 R = some 54) (f : wfr l T H H') (x : FZx l = true) (h : FZ T H R N H0) : FZ T H' R N H0 := by
  have e := fam_same f x
  refine ⟨fun a t ht h1 h2 h3 => (e a t ht h1 h2).trans (h.1 a t ht h1 h2 h3), h.2.1, fun j h1 h2 => ?_⟩
  rw [e R 54 g (by decide) (by decide)]
  exact h.2.2 j h1 h2
theorem FZ_st (h : FZ T H R N H0) (q : H R S = (b : Int)) (hS : 9 ≤ S) (hS2 : S ≤ 26) (gr : T.2.2.2 R = some 54) (gb : T.2.2.2 b = some tg) (ne : tg ≠ 54) (e : H' = wq_u H b k v) : FZ T H' R N H0 := by
  have hb : N ≤ b := by
    have := h.2.2 S hS hS2
    omega
  refine ⟨fun a t ht h1 h2 h3 => ?_, h.2.1, fun j h1 h2 => ?_⟩
  · rw [e]
    have : wq_u H b k v a = H a := funext (fun i => wq_u_na (by omega) i)
    rw [this]
    exact h.1 a t ht h1 h2 h3
  · rw [e, wq_u_na (fun q => by subst q; rw [gr] at gb; exact ne (Option.some.inj gb).symm)]
    exact h.2.2 j h1 h2
theorem FZ_put (h : FZ T H R N H0) (hs : k < 9) (e : H' = wq_u H R k v) : FZ T H' R N H0 := by
  refine ⟨fun a t ht h1 h2 h3 => ?_, h.2.1, fun j h1 h2 => ?_⟩
  · rw [e]
    have h4 := h.2.1
    have : wq_u H R k v a = H a := funext (fun i => wq_u_na (by omega) i)
    rw [this]
    exact h.1 a t ht h1 h2 h3
  · rw [e, wq_u_ne (by omega)]
    exact h.2.2 j h1 h2
end MSREL
/-- arrays of the reference's own -/
abbrev MN20 := DA 20 44
abbrev MN21 := DA 21 45
abbrev MN26 := DA 26 50
def lup (Q : Nat → List (Int × Int)) (k : Nat) (P : List (Int × Int)) : Nat → List (Int × Int) := fun j => if j = k then P else Q j
def lln (Q : Nat → List (Int × Int)) : Nat → Int := fun j => (Q j).length
def LB (S tg : Nat) (T : wq_T) (H : wq_H) (m : Nat) (g : Nat → Int × Int → Int) (Q : Nat → List (Int × Int)) : Prop := ∃ b : Nat, H m S = (b : Int) ∧ T.2.2.2 b = some tg ∧ ∀ k i : Nat, ∀ x : Int × Int, k < 6 → i < 40 → (Q k)[i]? = some x → H b (40 * k + i) = g k x
abbrev LB22 := LB 22 46
abbrev LB23 := LB 23 47
abbrev LB24 := LB 24 48
abbrev LB25 := LB 25 49
def yb : Nat → Int × Int → Int := fun _ x => x.1
def yl : Nat → Int × Int → Int := fun _ x => x.2
section MNREL

variable {T T' : wq_T} {H H' : wq_H} {l : List (Nat × Nat)} {m b k S tg n : Nat} {c c' v : Int} {f : Nat → Int} {g : Nat → Int × Int → Int} {Q : Nat → List (Int × Int)} {x : Int × Int} {P : List (Int × Int)} {d : xD}
theorem MN20_fr (hW : WT T H) (gm : T.2.2.2 m = some 42) (f0 : wfr l T H H') (y : DAw 42 20 44 l = true) (h : MN20 T H m c f) : MN20 T H' m c f := DAo_fr gm f0 y h
theorem MN21_fr (hW : WT T H) (gm : T.2.2.2 m = some 42) (f0 : wfr l T H H') (y : DAw 42 21 45 l = true) (h : MN21 T H m c f) : MN21 T H' m c f := DAo_fr gm f0 y h
theorem MN26_fr (hW : WT T H) (gm : T.2.2.2 m = some 42) (f0 : wfr l T H H') (y : DAw 42 26 50 l = true) (h : MN26 T H m c f) : MN26 T H' m c f := DAo_fr gm f0 y h
theorem LB_fr (gm : T.2.2.2 m = some 42) (f0 : wfr l T H H') (y : DAw 42 S tg l = true) (h : LB S tg T H m g Q) : LB S tg T H' m g Q := by
  unfold DAw at y
  simp only [Bool.and_eq_true] at y
  obtain ⟨b, h1, h2, h3⟩ := h
  exact ⟨b, (wno_f f0 gm y.1 (by simp)).trans h1, h2, fun k i x a1 a2 a3 => (wno_f f0 h2 y.2 rfl).trans (h3 k i x a1 a2 a3)⟩
theorem LB22_fr (hW : WT T H) (gm : T.2.2.2 m = some 42) (f0 : wfr l T H H') (y : DAw 42 22 46 l = true) (h : LB22 T H m g Q) : LB22 T H' m g Q := LB_fr gm f0 y h
theorem LB23_fr (hW : WT T H) (gm : T.2.2.2 m = some 42) (f0 : wfr l T H H') (y : DAw 42 23 47 l = true) (h : LB23 T H m g Q) : LB23 T H' m g Q := LB_fr gm f0 y h
theorem LB24_fr (hW : WT T H) (gm : T.2.2.2 m = some 42) (f0 : wfr l T H H') (y : DAw 42 24 48 l = true) (h : LB24 T H m g Q) : LB24 T H' m g Q := LB_fr gm f0 y h
theorem LB25_fr (hW : WT T H) (gm : T.2.2.2 m = some 42) (f0 : wfr l T H H') (y : DAw 42 25 49 l = true) (h : LB25 T H m g Q) : LB25 T H' m g Q := LB_fr gm f0 y h
theorem lup_e : lup Q k P k = P := if_pos rfl
theorem lup_n {j : Nat} (h : j ≠ k) : lup Q k P j = Q j := if_neg h
/-- one more SPAN is laid -/
theorem LB_put (h : LB S tg T H m g Q) (e0 : H m S = (b : Int)) (gm : T.2.2.2 m = some 42) (gb : T.2.2.2 b = some tg) (ne : tg ≠ 42) (e : H' = wq_u H b n v) (hn : n = 40 * k + (Q k).length) (hl : (Q k).length < 40) (hv : v = g k x) : LB S tg T H' m g (lup Q k (Q k ++ [x])) := by
  obtain ⟨b', h1, h2, h3⟩ := h
  have hb : b' = b := by omega
  subst hb
  refine ⟨b', ?_, h2, fun j i y hj hi hy => ?_⟩
  · rw [e, wq_u_na (fun q => ?_)]
    · exact h1
    · subst q
      rw [gm] at gb
      exact ne (Option.some.inj gb).symm
  · by_cases q : j = k
    · subst q
      rw [lup_e] at hy
      by_cases q2 : i = (Q j).length
      · subst q2
        rw [List.getElem?_append_right (Nat.le_refl _), Nat.sub_self] at hy
        have hy : some x = some y := hy
        cases hy
        rw [e, hn, wq_u_eq, hv]
      · have hlt : i < (Q j).length := by
          by_cases q3 : i < (Q j).length
          · exact q3
          · rw [List.getElem?_eq_none (by rw [List.length_append]; simp only [List.length_cons, List.length_nil]; omega)] at hy
            cases hy
        rw [List.getElem?_append_left hlt] at hy
        rw [e, wq_u_ne (by omega)]
        exact h3 j i y hj hi hy
    · rw [lup_n q] at hy
      rw [e, wq_u_ne (fun c => by omega)]
      exact h3 j i y hj hi hy
theorem LB_cg {Q' : Nat → List (Int × Int)} (h : LB S tg T H m g Q) (e : ∀ k, Q' k = Q k ∨ Q' k = []) : LB S tg T H m g Q' := by
  obtain ⟨b, h1, h2, h3⟩ := h
  refine ⟨b, h1, h2, fun k i x a1 a2 a3 => ?_⟩
  rcases e k with q | q
  · rw [q] at a3
    exact h3 k i x a1 a2 a3
  · rw [q] at a3
    cases a3
theorem LB_0 (hW : WT T H) (he : ∃ b : Nat, H m S = (b : Int) ∧ T.2.2.2 b = some tg) : LB S tg T H m g (fun _ => []) := by
  obtain ⟨b, h1, h2⟩ := he
  exact ⟨b, h1, h2, fun k i x _ _ h => by cases h⟩
theorem LB_at {i : Nat} (h : LB S tg T H m g Q) (e0 : H m S = (b : Int)) (hk : k < 6) (hi : i < (Q k).length) (hl : (Q k).length ≤ 40) : H b (40 * k + i) = g k ((Q k).getD i (0, 0)) := by
  obtain ⟨b', h1, -, h3⟩ := h
  have : b' = b := by omega
  subst this
  refine h3 k i _ hk (by omega) ?_
  rw [List.getD_eq_getElem?_getD, List.getElem?_eq_getElem hi]
  rfl
theorem lln_k : lln (lup Q k (Q k ++ [x])) k = (Q k).length + 1 ∧ ∀ j, j ≠ k → lln (lup Q k (Q k ++ [x])) j = lln Q j := by
  refine ⟨?_, fun j hj => ?_⟩
  · show ((lup Q k (Q k ++ [x]) k).length : Int) = _
    rw [lup_e, List.length_append]
    rfl
  · show ((lup Q k (Q k ++ [x]) j).length : Int) = _
    rw [lup_n hj]
    rfl
theorem DAo_0 (he : ∃ b : Nat, H m S = (b : Int) ∧ T.2.2.2 b = some tg) (hc : c ≤ 0) : DA S tg T H m c f := by
  obtain ⟨b, h1, h2⟩ := he
  exact ⟨b, h1, h2, fun k hk => by omega⟩
/-- the people's SPANS, none for others -/
def xsq (d : xD) : Nat → List (Int × Int) := fun k => if (k : Int) < d 0 3 then xsp d k else []
/-- people ahead of v have their SPANS, those behind none yet -/
def QO (d : xD) (Q : Nat → List (Int × Int)) (v : Int) : Prop := (∀ j : Nat, (j : Int) < v → Q j = xsp d j) ∧ ∀ j : Nat, v ≤ j → Q j = []
def QF (d : xD) (Q : Nat → List (Int × Int)) (v : Int) : Prop := (∀ j : Nat, (j : Int) < v → Q j = xsp d j) ∧ ∀ j : Nat, v < j → Q j = []
theorem QO_0 : QO d (fun _ => []) 0 := ⟨fun j hj => by omega, fun _ _ => rfl⟩
theorem QO_f (h : QO d Q c) (h0 : 0 ≤ c) : QF d Q c ∧ Q c.toNat = [] := ⟨⟨h.1, fun j hj => h.2 j (by omega)⟩, h.2 _ (by omega)⟩
theorem QF_l (h : QF d Q c) (h0 : 0 ≤ c) : QF d (lup Q c.toNat P) c := ⟨fun j hj => by rw [lup_n (by omega)]; exact h.1 j hj, fun j hj => by rw [lup_n (by omega)]; exact h.2 j hj⟩
theorem QF_o (h : QF d Q c) (e : Q c.toNat = xsp d c.toNat) (h0 : 0 ≤ c) : QO d Q (c + 1) := by
  refine ⟨fun j hj => ?_, fun j hj => h.2 j (by omega)⟩
  by_cases q : (j : Int) = c
  · rw [show j = c.toNat by omega]
    exact e
  · exact h.1 j (by omega)
theorem QO_ln (h : QO d Q c) (hb : DA 21 45 T H m c (lln Q)) : MN21 T H m c (lln (xsp d)) := by
  obtain ⟨b, h1, h2, h3⟩ := hb
  refine ⟨b, h1, h2, fun k hk => ?_⟩
  rw [h3 k hk]
  unfold lln
  rw [h.1 k hk]
theorem QO_lb (h : QO d Q c) (e : c = d 0 3) (hb : LB S tg T H m g Q) : LB S tg T H m g (xsq d) := by
  subst e
  refine LB_cg hb (fun k => ?_)
  by_cases q : (k : Int) < d 0 3
  · exact Or.inl ((if_pos q).trans (h.1 k q).symm)
  · exact Or.inr (if_neg q)
theorem QO_ls (h : QO d Q c) (e : c' = c) (hb : DA 21 45 T H m c (lln Q)) : MN21 T H m c' (lln (xsp d)) := by
  subst e
  exact QO_ln h hb
theorem all_ok_all : (List.range 25).all (fun n => decide (wq_w (wq_shl 1 n - 1) = xhs 0 n)) = true := by decide +kernel
theorem all_ok {n : Int} (h0 : 0 ≤ n) (h1 : n ≤ 24) : wq_w (wq_shl 1 n - 1) = xhs 0 n := by
  have h := List.all_eq_true.mp all_ok_all n.toNat (List.mem_range.mpr (by omega))
  simpa [Int.toNat_of_nonneg h0] using h
theorem bit_all : (List.range 25).all (fun n => (List.range 24).all (fun h => decide (wq_and (wq_shr (xhs 0 n) h) 1 = if h < n then 1 else 0))) = true := by decide +kernel
theorem bit_ok {n h : Int} (h0 : 0 ≤ n) (h1 : n ≤ 24) (h2 : 0 ≤ h) (h3 : h < 24) : (h < n ∧ wq_and (wq_shr (xhs 0 n) h) 1 = 1) ∨ (n ≤ h ∧ wq_and (wq_shr (xhs 0 n) h) 1 = 0) := by
  have q := List.all_eq_true.mp (List.all_eq_true.mp bit_all n.toNat (List.mem_range.mpr (by omega))) h.toNat (List.mem_range.mpr (by omega))
  simp only [decide_eq_true_eq, Int.toNat_of_nonneg h0, Int.toNat_of_nonneg h2] at q
  by_cases c : h < n
  · rw [if_pos (by omega)] at q
    exact Or.inl ⟨c, q⟩
  · rw [if_neg (by omega)] at q
    exact Or.inr ⟨by omega, q⟩
theorem xcu_at {f : Nat → Int} {n h : Int} (h0 : 0 ≤ h) (h2 : h < 24) : (h < n ∧ xcu f n 24 h.toNat = f h.toNat) ∨ (n ≤ h ∧ xcu f n 24 h.toNat = 0) := by
  unfold xcu
  by_cases c : h < n
  · exact Or.inl ⟨c, if_neg (by omega)⟩
  · exact Or.inr ⟨by omega, if_pos (by omega)⟩
end MNREL
/-- the state between calls: no PARISH, or one -/
def RP (T : wq_T) (H : wq_H) (m mp : Nat) (e d : xD) : Prop := T.2.2.2 mp = some 54 ∧ (∃ dm, DMQ T H mp dm ∧ d = xset dm) ∧ H m 19 = xal d ∧ MN20 T H m 24 (e 13) ∧ MN21 T H m (d 0 3) (lln (xsp d)) ∧ LB22 T H m yb (xsq d) ∧ LB23 T H m yl (xsq d) ∧ LB24 T H m (xas d) (xsq d) ∧ LB25 T H m (xwk d) (xsq d)
def RB (T : wq_T) (H : wq_H) (m : Nat) (e d : xD) : Prop := (H m 3 = -1 ∧ e = xD0 ∧ d = xD0) ∨ ∃ mp : Nat, H m 3 = (mp : Int) ∧ RP T H m mp e d
/-- and what is SAID, the CURSOR -/
def RY (T : wq_T) (H : wq_H) (m : Nat) (n : Int) (g : Nat → Int) (c : Int) : Prop := MN26 T H m n g ∧ H m 32 = c
def RBx (l : List (Nat × Nat)) : Bool := DMQx l && wno l 42 (fun j => decide (j = 3 ∨ j = 19 ∨ j = 20 ∨ j = 21 ∨ j = 22 ∨ j = 23 ∨ j = 24 ∨ j = 25)) && (wno l 44 (fun _ => true) && wno l 45 (fun _ => true) && wno l 46 (fun _ => true) && wno l 47 (fun _ => true) && wno l 48 (fun _ => true) && wno l 49 (fun _ => true))
def RYx (l : List (Nat × Nat)) : Bool := wno l 42 (fun j => decide (j = 26 ∨ j = 32)) && wno l 50 (fun _ => true)
section RBREL

variable {T T' : wq_T} {H H' : wq_H} {l : List (Nat × Nat)} {m mp : Nat} {e d : xD} {g : Nat → Int} {c n : Int}
theorem DA_w {o S tg : Nat} {s : Nat → Bool} (h1 : wno l o s = true) (hs : s S = true) (h2 : wno l tg (fun _ => true) = true) : DAw o S tg l = true := by
  unfold DAw
  rw [Bool.and_eq_true]
  exact ⟨wno_le h1 (fun j hj => by rw [of_decide_eq_true hj]; exact hs), h2⟩
theorem RB_fr (hW : WT T H) (gm : T.2.2.2 m = some 42) (f : wfr l T H H') (x : RBx l = true) (h : RB T H m e d) : RB T H' m e d := by
  unfold RBx at x
  simp only [Bool.and_eq_true] at x
  obtain ⟨⟨x1, x2⟩, ⟨⟨⟨⟨⟨y44, y45⟩, y46⟩, y47⟩, y48⟩, y49⟩⟩ := x
  rcases h with ⟨h1, h2⟩ | ⟨mp, h1, h2, ⟨dm, h3, h4⟩, h5, h6, h7, h8, h9, h10, h11⟩
  · exact Or.inl ⟨(wno_f f gm x2 (j := 3) rfl).trans h1, h2⟩
  · exact Or.inr ⟨mp, (wno_f f gm x2 (j := 3) rfl).trans h1, h2, ⟨dm, DMQ_fr hW h2 f x1 h3, h4⟩, (wno_f f gm x2 (j := 19) rfl).trans h5, DAo_fr gm f (DA_w x2 rfl y44) h6, DAo_fr gm f (DA_w x2 rfl y45) h7, LB_fr gm f (DA_w x2 rfl y46) h8, LB_fr gm f (DA_w x2 rfl y47) h9, LB_fr gm f (DA_w x2 rfl y48) h10, LB_fr gm f (DA_w x2 rfl y49) h11⟩
theorem RY_fr (hW : WT T H) (gm : T.2.2.2 m = some 42) (f : wfr l T H H') (x : RYx l = true) (h : RY T H m n g c) : RY T H' m n g c := by
  unfold RYx at x
  rw [Bool.and_eq_true] at x
  exact ⟨DAo_fr gm f (DA_w x.1 rfl x.2) h.1, (wno_f f gm x.1 (j := 32) rfl).trans h.2⟩
/-- over more cells, all that was there as it was -/
theorem RB_mono (mo : ∀ a t, T.2.2.2 a = some t → T'.2.2.2 a = some t) (em : ∀ j, (j = 3 ∨ j = 19 ∨ j = 20 ∨ j = 21 ∨ j = 22 ∨ j = 23 ∨ j = 24 ∨ j = 25 ∨ j = 26 ∨ j = 32 ∨ j = 28 ∨ j = 29 ∨ j = 30) → H' m j = H m j) (ho : ∀ a t, T.2.2.2 a = some t → 44 ≤ t → t ≤ 72 → H' a = H a) (h : RB T H m e d) : RB T' H' m e d := by
  have da : ∀ {S tg : Nat} {c : Int} {f : Nat → Int}, H' m S = H m S → 44 ≤ tg → tg ≤ 72 → DA S tg T H m c f → DA S tg T' H' m c f := fun es t1 t2 ⟨b, h1, h2, h3⟩ => ⟨b, es.trans h1, mo _ _ h2, by rw [ho b _ h2 t1 t2]; exact h3⟩
  have lb : ∀ {S tg : Nat} {g : Nat → Int × Int → Int} {Q : Nat → List (Int × Int)}, H' m S = H m S → 44 ≤ tg → tg ≤ 72 → LB S tg T H m g Q → LB S tg T' H' m g Q := fun es t1 t2 ⟨b, h1, h2, h3⟩ => ⟨b, es.trans h1, mo _ _ h2, by rw [ho b _ h2 t1 t2]; exact h3⟩
  rcases h with ⟨h1, h2⟩ | ⟨mp, h1, h2, ⟨dm, h3, h4⟩, h5, h6, h7, h8, h9, h10, h11⟩
  · exact Or.inl ⟨(em 3 (by omega)).trans h1, h2⟩
  · exact Or.inr ⟨mp, (em 3 (by omega)).trans h1, mo _ _ h2, ⟨dm, DMQ_mono mo (DMQ_mv h2 (fun a t ht t1 t2 => ho a t ht (by omega) t2) h3), h4⟩, (em 19 (by omega)).trans h5, da (em 20 (by omega)) (by decide) (by decide) h6, da (em 21 (by omega)) (by decide) (by decide) h7, lb (em 22 (by omega)) (by decide) (by decide) h8, lb (em 23 (by omega)) (by decide) (by decide) h9, lb (em 24 (by omega)) (by decide) (by decide) h10, lb (em 25 (by omega)) (by decide) (by decide) h11⟩
theorem RY_mono (mo : ∀ a t, T.2.2.2 a = some t → T'.2.2.2 a = some t) (em : ∀ j, (j = 3 ∨ j = 19 ∨ j = 20 ∨ j = 21 ∨ j = 22 ∨ j = 23 ∨ j = 24 ∨ j = 25 ∨ j = 26 ∨ j = 32 ∨ j = 28 ∨ j = 29 ∨ j = 30) → H' m j = H m j) (ho : ∀ a t, T.2.2.2 a = some t → 44 ≤ t → t ≤ 72 → H' a = H a) (h : RY T H m n g c) : RY T' H' m n g c := by
  obtain ⟨⟨b, h1, h2, h3⟩, h4⟩ := h
  exact ⟨⟨b, (em 26 (by omega)).trans h1, mo _ _ h2, by rw [ho b _ h2 (by decide) (by decide)]; exact h3⟩, (em 32 (by omega)).trans h4⟩
theorem RB_at (h : RB T H m e d) (q : H m 3 = (mp : Int)) : RP T H m mp e d := by
  rcases h with ⟨h1, -⟩ | ⟨p, h1, h2⟩
  · omega
  · have : p = mp := by omega
    subst this
    exact h2
theorem RB_nu (h : RB T H m e d) (q : H m 3 = -1) : e = xD0 ∧ d = xD0 := by
  rcases h with ⟨-, h1⟩ | ⟨p, h1, -⟩
  · exact h1
  · omega
theorem RP_k (h : RP T H m mp e d) : H mp 0 = d 0 0 ∧ H mp 3 = d 0 3 ∧ H mp 4 = d 0 4 ∧ H mp 5 = d 0 5 ∧ H mp 6 = d 0 6 ∧ H mp 7 = d 0 7 ∧ H mp 8 = d 0 8 ∧ H mp 1 = d 0 1 ∧ H mp 2 = d 0 2 ∧ H m 19 = xal d ∧ xdP d := by
  obtain ⟨-, ⟨dm, ⟨⟨h0, h1, h2, h3, h4, h5, h6, h7, h8, -⟩, hp, -⟩, rfl⟩, h9, -⟩ := h
  exact ⟨h0, h3, h4, h5, h6, h7, h8, h1, h2, h9, xdP_set hp⟩
end RBREL
/-- what stays where a text doesn't go well -/
def ML (T : wq_T) (H : wq_H) (m : Nat) (H0 : wq_H) : Prop := (∀ j, (j = 3 ∨ j = 19 ∨ j = 20 ∨ j = 21 ∨ j = 22 ∨ j = 23 ∨ j = 24 ∨ j = 25 ∨ j = 26 ∨ j = 32 ∨ j = 28 ∨ j = 29 ∨ j = 30) → H m j = H0 m j) ∧ ∀ a t, T.2.2.2 a = some t → 44 ≤ t → t ≤ 53 → H a = H0 a
def MLx (l : List (Nat × Nat)) : Bool := wno l 42 (fun j => decide (j = 3 ∨ j = 19 ∨ j = 20 ∨ j = 21 ∨ j = 22 ∨ j = 23 ∨ j = 24 ∨ j = 25 ∨ j = 26 ∨ j = 32 ∨ j = 28 ∨ j = 29 ∨ j = 30)) && (List.range 10).all (fun i => wno l (44 + i) (fun _ => true))
def MO_ (T : wq_T) (H : wq_H) (m : Nat) (H0 : wq_H) : Prop := ML T H m H0 ∧ ∀ a t, T.2.2.2 a = some t → 54 ≤ t → t ≤ 72 → H a = H0 a
def MO_x (l : List (Nat × Nat)) : Bool := MLx l && DMQx l
section MLREL

variable {T T' : wq_T} {H H' H0 : wq_H} {l : List (Nat × Nat)} {m : Nat} {e d : xD} {g : Nat → Int} {c n : Int}
theorem ML_0 : ML T H m H := ⟨fun _ _ => rfl, fun _ _ _ _ _ => rfl⟩
theorem MO_0 : MO_ T H m H := ⟨ML_0, fun _ _ _ _ _ => rfl⟩
theorem ML_fr (hW : WT T H) (gm : T.2.2.2 m = some 42) (f : wfr l T H H') (x : MLx l = true) (h : ML T H m H0) : ML T H' m H0 := by
  unfold MLx at x
  rw [Bool.and_eq_true] at x
  refine ⟨fun j hj => (wno_f f gm x.1 (decide_eq_true hj)).trans (h.1 j hj), fun a t ht h1 h2 => ?_⟩
  rw [← h.2 a t ht h1 h2]
  funext j
  have := List.all_eq_true.mp x.2 (t - 44) (List.mem_range.mpr (by omega))
  rw [show 44 + (t - 44) = t by omega] at this
  exact wno_f f ht this rfl
theorem MO__fr (hW : WT T H) (gm : T.2.2.2 m = some 42) (f : wfr l T H H') (x : MO_x l = true) (h : MO_ T H m H0) : MO_ T H' m H0 := by
  unfold MO_x at x
  rw [Bool.and_eq_true] at x
  exact ⟨ML_fr hW gm f x.1 h.1, fun a t ht h1 h2 => (fam_same f x.2 a t ht h1 h2).trans (h.2 a t ht h1 h2)⟩
theorem MO_tr {Hc H9 : wq_H} {n : Nat} (mo : ∀ a t, T.2.2.2 a = some t → T'.2.2.2 a = some t) (hb : ∀ a t, T.2.2.2 a = some t → a < n) (gm : T.2.2.2 m = some 42) (o9 : ∀ a, a < n → H9 a = Hc a) (h : MO_ T Hc m H0) (k : ML T' H' m H9) (f : ∀ a t, T'.2.2.2 a = some t → 54 ≤ t → t ≤ 72 → a < n → H' a = H9 a) : MO_ T H' m H0 := by
  refine ⟨⟨fun j hj => ?_, fun a t ht h1 h2 => ?_⟩, fun a t ht h1 h2 => ?_⟩
  · rw [k.1 j hj, o9 m (hb m 42 gm)]
    exact h.1.1 j hj
  · rw [k.2 a t (mo a t ht) h1 h2, o9 a (hb a t ht)]
    exact h.1.2 a t ht h1 h2
  · rw [f a t (mo a t ht) h1 h2 (hb a t ht), o9 a (hb a t ht)]
    exact h.2 a t ht h1 h2
theorem MO_all (k : MO_ T H' m H) : ∀ a t, T.2.2.2 a = some t → 44 ≤ t → t ≤ 72 → H' a = H a := fun a t ht h1 h2 => by
  by_cases q : t ≤ 53
  · exact k.1.2 a t ht h1 q
  · exact k.2 a t ht (by omega) h2
theorem RB_keep (mo : ∀ a t, T.2.2.2 a = some t → T'.2.2.2 a = some t) (k : MO_ T H' m H) (h : RB T H m e d) : RB T' H' m e d := RB_mono mo k.1.1 (MO_all k) h
theorem RY_keep (mo : ∀ a t, T.2.2.2 a = some t → T'.2.2.2 a = some t) (k : MO_ T H' m H) (h : RY T H m n g c) : RY T' H' m n g c := RY_mono mo k.1.1 (MO_all k) h
end MLREL
end
section
/-! WHAT IS ASKED OF SPANS (own work): the state between calls, seen from a method; over more cells -/
section MORE6

variable {T T' : wq_T} {H H' : wq_H} {m b k mp r s i S tg : Nat} {e d : xD} {v v' n z : Int} {k' : Nat} {C : Nat → Bool} {x p : Nat} {P : List (Int × Int)} {g : Nat → Int × Int → Int}
theorem RB_n3 (h : RB T H m e d) : H m 3 = -1 → d 0 3 = 0 ∧ d 0 0 = 0 := fun q => by
  obtain ⟨h1, h2⟩ := RB_nu h q
  subst h2
  exact ⟨rfl, rfl⟩
theorem RB_ar (h : RB T H m e d) (q : H m 3 ≠ -1) : xdP d ∧ H m 19 = xal d ∧ MN20 T H m 24 (e 13) ∧ MN21 T H m (d 0 3) (lln (xsp d)) ∧ LB22 T H m yb (xsq d) ∧ LB23 T H m yl (xsq d) ∧ LB24 T H m (xas d) (xsq d) ∧ LB25 T H m (xwk d) (xsq d) := by
  rcases h with ⟨h1, -⟩ | ⟨mp, h1, h2, ⟨dm, h3, h4⟩, h5⟩
  · exact absurd h1 q
  · exact ⟨by rw [h4]; exact xdP_set h3.2.1, h5⟩
theorem RB_b (hW : WT T H) (h : RB T H m e d) : 0 ≤ d 0 3 ∧ d 0 3 ≤ 6 ∧ 0 ≤ d 0 0 ∧ d 0 0 ≤ 24 := by
  rcases h with ⟨h1, -, h2⟩ | ⟨mp, h1, h2, ⟨dm, ⟨h3, -⟩, h4⟩, h5⟩
  · subst h2
    decide
  · have e0 : H mp 0 = d 0 0 := by rw [h4]; exact h3.1
    have e3 : H mp 3 = d 0 3 := by rw [h4]; exact h3.2.2.2.1
    have b3 : (0 : Int) ≤ H mp 3 ∧ H mp 3 ≤ 6 := hW.box h2 (n := 27) rfl (by decide) rfl
    have b0 : (0 : Int) ≤ H mp 0 ∧ H mp 0 ≤ 24 := hW.box h2 (n := 27) rfl (by decide) rfl
    omega
theorem RB_st (hW : WT T H) (h : RB T H m e d) (ne : H m 3 ≠ -1) (gm : T.2.2.2 m = some 42) (q : H m 20 = (b : Int)) (gb : T.2.2.2 b = some 44) (E : H' = wq_u H b k v) (ek : k = k') (ev : v = v') : RB T H' m (wq_u e 13 k' v') d := by
  subst ek
  subst ev
  have f : wfr [(44, 999)] T H H' := (wfr.rf (l := [(44, 999)])).put' E gb rfl
  rcases h with ⟨h1, -⟩ | ⟨mp, h1, h2, ⟨dm, h3, h4⟩, h5, h6, h7, h8, h9, h10, h11⟩
  · exact absurd h1 ne
  · have w : ∀ j, H' m j = H m j := fun j => wno_f f gm (s := fun _ => true) rfl rfl
    refine Or.inr ⟨mp, (w 3).trans h1, h2, ⟨dm, DMQ_fr hW h2 f rfl h3, h4⟩, (w 19).trans h5, DAo_set h6 q gm gb (by decide) E wq_u_eq (fun j hj => wq_u_e2 (fun c => hj c.2)), DAo_fr gm f rfl h7, LB_fr gm f rfl h8, LB_fr gm f rfl h9, LB_fr gm f rfl h10, LB_fr gm f rfl h11⟩
theorem wpr_x {f : Nat → Int} : ∀ n m : Nat, (∀ k, k < n → f k = ((xsp d k).length : Int)) → wpr f n * xpr d n m = xpr d 0 (n + m)
  | 0, m, _ => by
    rw [Nat.zero_add]
    show 1 * xpr d 0 m = _
    rw [Int.one_mul]
  | n + 1, m, h => by
    have h1 := wpr_x n (m + 1) (fun k hk => h k (by omega))
    show wpr f n * f n * xpr d (n + 1) m = _
    rw [h n (by omega), Int.mul_assoc, show n + 1 + m = n + (m + 1) by omega]
    exact h1
theorem RB_lm (h : RB T H m e d) : H m 3 ≠ -1 → wLM H m = xlots d := fun q => by
  rcases h with ⟨h1, -⟩ | ⟨mp, h1, h2, ⟨dm, h3, h4⟩, h5, h6, ⟨sp, s1, s2, s3⟩, -⟩
  · exact absurd h1 q
  · rw [wLM_eq h1 s1]
    have e3 : H mp 3 = d 0 3 := by rw [h4]; exact h3.1.2.2.2.1
    rw [e3]
    have t := @wpr_x d (H sp) (d 0 3).toNat 0 (fun k hk => s3 k (by omega))
    have e1 : xpr d (d 0 3).toNat 0 = 1 := rfl
    rw [e1, Int.mul_one] at t
    exact t
theorem LB_x (h : LB S tg T H m g (xsq d)) (e0 : H m S = (b : Int)) (hk : (k : Int) < d 0 3) (h6 : d 0 3 ≤ 6) (hi : i < (xsp d k).length) (hP : xdP d) (hs : s = 40 * k + i) : H b s = g k ((xsp d k).getD i (0, 0)) := by
  have e : xsq d k = xsp d k := if_pos hk
  have h1 := LB_at (k := k) (i := i) h e0 (by omega) (by rw [e]; exact hi) (by rw [e]; have := @xsp_len d k hP; omega)
  rw [e] at h1
  rw [hs]
  exact h1
/-- over more cells -/
theorem DA_mono {c : Int} {f : Nat → Int} (mo : ∀ a t, T.2.2.2 a = some t → T'.2.2.2 a = some t) (h : DA S tg T H r c f) : DA S tg T' H r c f := by
  obtain ⟨b, h1, h2, h3⟩ := h
  exact ⟨b, h1, mo _ _ h2, h3⟩
theorem DC_mono (mo : ∀ a t, T.2.2.2 a = some t → T'.2.2.2 a = some t) (h : DC T H r d) : DC T' H r d := by
  obtain ⟨h1, ⟨h2, h2b⟩, ⟨s, h3, h3b, h3c⟩, ⟨b, h4, h4b, h4c⟩, h5, h6, h7, h8⟩ := h
  refine ⟨h1, ⟨fun k hk => ?_, h2b⟩, ⟨s, h3, mo _ _ h3b, h3c⟩, ⟨b, h4, mo _ _ h4b, h4c⟩, DA_mono mo h5, DA_mono mo h6, DA_mono mo h7, DA_mono mo h8⟩
  obtain ⟨p, h9, h10, h11⟩ := h2 k hk
  exact ⟨p, h9, mo _ _ h10, h11⟩
theorem PS_mono (mo : ∀ a t, T.2.2.2 a = some t → T'.2.2.2 a = some t) (h : PS T H p d k P) : PS T' H p d k P := by
  obtain ⟨h0, h1, h2, h3, h4, h5, h6⟩ := h
  exact ⟨h0, DA_mono mo h1, DA_mono mo h2, DA_mono mo h3, DA_mono mo h4, DA_mono mo h5, DA_mono mo h6⟩
theorem CU_mono (mo : ∀ a t, T.2.2.2 a = some t → T'.2.2.2 a = some t) (h : CU T H r e d n) : CU T' H r e d n := by
  obtain ⟨h1, ⟨h2, h3⟩, h4⟩ := h
  refine ⟨DC_mono mo h1, ⟨h2, fun k a b => ?_⟩, h4⟩
  obtain ⟨p, q1, q2, q3, q4⟩ := h3 k a b
  exact ⟨p, q1, mo _ _ q2, PS_mono mo q3, q4⟩
theorem SP_mono (rv : ∀ a t, T'.2.2.2 a = some t → T.2.2.2 a = some t ∨ 54 ≤ t) (h : SP T H x C) : SP T' H x C := fun a t j ht hj => by
  rcases rv a t ht with h1 | h1
  · exact h a t j h1 hj
  · omega
theorem xset_z {h : Nat} (h1 : d 0 0 ≤ (h : Int)) (h2 : h < 24) : xset d 13 h = 0 := by
  rw [xset_13]
  unfold xcu
  exact if_pos ⟨h1, by omega⟩
end MORE6
end
section
/-! A LOT BY ITS NUMBER (own work) -/
def xlot (d : xD) (a : Int) (k : Nat) : Int := a / xpr d (k + 1) ((d 0 3).toNat - (k + 1)) % ((xsp d k).length : Int)
section LOT6

variable {T : wq_T} {H H' : wq_H} {m b s tg : Nat} {d : xD} {v w S c a i n : Int} {k : Nat} {g : Nat → Int}
theorem xpr_5 (hP : xdP d) (h6 : d 0 3 ≤ 6) (k : Nat) : 0 ≤ xpr d (k + 1) ((d 0 3).toNat - (k + 1)) ∧ xpr d (k + 1) ((d 0 3).toNat - (k + 1)) ≤ 102400000 := by
  have h1 := xpr_b hP ((d 0 3).toNat - (k + 1)) (k + 1)
  have h2 : (40 : Int) ^ ((d 0 3).toNat - (k + 1)) ≤ 102400000 := by
    have h3 : (d 0 3).toNat - (k + 1) ≤ 5 := by omega
    generalize (d 0 3).toNat - (k + 1) = n at h3
    match n, h3 with
    | 0, _ => decide
    | 1, _ => decide
    | 2, _ => decide
    | 3, _ => decide
    | 4, _ => decide
    | 5, _ => decide
    | n + 6, h => omega
  omega
theorem pos_r {x y : Int} (h : 0 < x * y) (hy : 0 ≤ y) : 0 < y := by
  by_cases e : y = 0
  · rw [e, Int.mul_zero] at h
    omega
  · omega
theorem pos_l {x y : Int} (h : 0 < x * y) (hx : 0 ≤ x) : 0 < x := by
  rw [Int.mul_comm] at h
  exact pos_r h hx
theorem xpr_pos (hP : xdP d) (h : 0 < xlots d) (hk : (k : Int) < d 0 3) : 0 < ((xsp d k).length : Int) ∧ 0 < xpr d (k + 1) ((d 0 3).toNat - (k + 1)) := by
  have t := @wpr_x d (fun k => ((xsp d k).length : Int)) k ((d 0 3).toNat - k) (fun _ _ => rfl)
  rw [show k + ((d 0 3).toNat - k) = (d 0 3).toNat by omega] at t
  have h1 : 0 < wpr (fun k => ((xsp d k).length : Int)) k * xpr d k ((d 0 3).toNat - k) := by
    rw [t]
    exact h
  have h2 := pos_r h1 (xpr_b hP _ _).1
  rw [xpr_i hk] at h2
  exact ⟨pos_l h2 (by omega), pos_r h2 (xpr_b hP _ _).1⟩
/-- the reference's way: from the last person down -/
def LR (S tg : Nat) (T : wq_T) (H : wq_H) (m : Nat) (i n : Int) (f : Nat → Int) : Prop := ∃ b : Nat, H m S = (b : Int) ∧ T.2.2.2 b = some tg ∧ ∀ k : Nat, i ≤ k → (k : Int) < n → H b k = f k
abbrev LQ27 := LR 27 51
abbrev LQ31 := LR 31 53
theorem LR_fr (gm : T.2.2.2 m = some 42) {l : List (Nat × Nat)} (f : wfr l T H H') (x : DAw 42 s tg l = true) (h : LR s tg T H m i n g) : LR s tg T H' m i n g := by
  unfold DAw at x
  rw [Bool.and_eq_true] at x
  obtain ⟨b, h1, h2, h3⟩ := h
  exact ⟨b, (wno_f f gm x.1 (by simp)).trans h1, h2, fun k p q => (wno_f f h2 x.2 rfl).trans (h3 k p q)⟩
theorem LQ31_fr (hW : WT T H) (gm : T.2.2.2 m = some 42) {l : List (Nat × Nat)} (f : wfr l T H H') (x : DAw 42 31 53 l = true) (h : LQ31 T H m i n g) : LQ31 T H' m i n g := LR_fr gm f x h
theorem LR_0 (he : ∃ b : Nat, H m s = (b : Int) ∧ T.2.2.2 b = some tg) (hi : n ≤ i) : LR s tg T H m i n g := by
  obtain ⟨b, h1, h2⟩ := he
  exact ⟨b, h1, h2, fun k p q => by omega⟩
theorem LR_put (h : LR s tg T H m (i + 1) n g) (e0 : H m s = (b : Int)) (gm : T.2.2.2 m = some 42) (gb : T.2.2.2 b = some tg) (ne : tg ≠ 42) (e : H' = wq_u H b k v) (hk : (k : Int) = i) (hv : v = g k) : LR s tg T H' m i n g := by
  obtain ⟨b', h1, h2, h3⟩ := h
  have hb : b' = b := by omega
  subst hb
  refine ⟨b', ?_, h2, fun j p q => ?_⟩
  · rw [e, wq_u_na (fun q => ?_)]
    · exact h1
    · subst q
      rw [gm] at gb
      exact ne (Option.some.inj gb).symm
  · by_cases c : j = k
    · subst c
      rw [e, wq_u_eq]
      exact hv
    · rw [e, wq_u_ne (fun q => c q.2)]
      exact h3 j (by omega) q
theorem LR_at (h : LR s tg T H m i n g) (e0 : H m s = (b : Int)) (hi : i ≤ k) (hk : (k : Int) < n) : H b k = g k := by
  obtain ⟨b', h1, h2, h3⟩ := h
  have hb : b' = b := by omega
  subst hb
  exact h3 k hi hk
theorem lft_0 : a = a / xpr d (d 0 3).toNat 0 := by
  show a = a / 1
  rw [Int.ediv_one]
/-- what is left behind one more person -/
theorem lft_s (h0 : 0 ≤ i) (hi : i < d 0 3) (hP : xdP d) (h6 : d 0 3 ≤ 6) (ha : 0 ≤ a ∧ a ≤ 2147483647) (hl : v = a / xpr d (i + 1).toNat ((d 0 3).toNat - (i + 1).toNat)) (hc : 0 < c ∧ c ≤ 40) (ec : c = ((xsp d i.toNat).length : Int)) : (0 ≤ v ∧ v ≤ 2147483647) ∧ wq_rem v c = xlot d a i.toNat ∧ wq_div v c = a / xpr d i.toNat ((d 0 3).toNat - i.toNat) := by
  have b0 := (xpr_5 hP h6 i.toNat).1
  rw [show (i + 1).toNat = i.toNat + 1 by omega] at hl
  have b1 : 0 ≤ v := by
    rw [hl]
    exact Int.ediv_nonneg ha.1 b0
  have b2 : v ≤ a := by
    rw [hl]
    exact Int.ediv_le_self _ ha.1
  refine ⟨⟨b1, by omega⟩, ?_, ?_⟩
  · rw [wq_rem_e ⟨b1, by omega⟩ ⟨hc.1, by omega⟩, hl, ec]
    rfl
  · rw [wq_div_e ⟨b1, by omega⟩ ⟨hc.1, by omega⟩, hl, Int.ediv_ediv_of_nonneg b0, xpr_i (k := i.toNat) (by omega), ec, Int.mul_comm]
end LOT6
end
section
/-! AN IMAGE (own work): what it says of each person, whether that is a SPAN of it -/
def xdg (d : xD) (a : Int) (k : Nat) : Int := wdv ((d 0 3).toNat - 1 - k) a % 40
def xpd (d : xD) (a : Int) : Nat → Nat → Int
  | _, 0 => 0
  | k, m + 1 => (if xdg d a k = 0 ∨ xdg d a k < ((xsp d k).length : Int) then 0 else 1) + xpd d a (k + 1) m
section IMG6

variable {d : xD} {a v x i : Int} {k m : Nat}
theorem xpd_p : ∀ m k : Nat, 0 ≤ xpd d a k m
  | 0, _ => Int.le_refl _
  | m + 1, k => by
    have h := xpd_p m (k + 1)
    show 0 ≤ (if xdg d a k = 0 ∨ xdg d a k < ((xsp d k).length : Int) then 0 else 1) + xpd d a (k + 1) m
    split <;> omega
theorem xpd_i : ∀ j k m : Nat, xpd d a (k + j) m ≤ xpd d a k (j + m)
  | 0, k, m => by
    rw [Nat.zero_add]
    exact Int.le_refl _
  | j + 1, k, m => by
    have h := xpd_i j (k + 1) m
    rw [show k + 1 + j = k + (j + 1) by omega] at h
    rw [show j + 1 + m = (j + m) + 1 by omega]
    show _ ≤ (if xdg d a k = 0 ∨ xdg d a k < ((xsp d k).length : Int) then 0 else 1) + xpd d a (k + 1) (j + m)
    split <;> omega
theorem xpd_e (h : i = d 0 3) : xpd d a i.toNat ((d 0 3).toNat - i.toNat) = 0 := by
  subst h
  rw [Nat.sub_self]
  rfl
theorem xdg_e (h0 : 0 ≤ i) (hi : i < d 0 3) (hx : x = wdv (d 0 3 - 1 - i).toNat a) (hd : v = x % 40) : v = xdg d a i.toNat := by
  unfold xdg
  rw [hd, hx, show (d 0 3 - 1 - i).toNat = (d 0 3).toNat - 1 - i.toNat by omega]
theorem xpd_1 (h0 : 0 ≤ i) (hi : i < d 0 3) : xpd d a i.toNat ((d 0 3).toNat - i.toNat) = (if xdg d a i.toNat = 0 ∨ xdg d a i.toNat < ((xsp d i.toNat).length : Int) then 0 else 1) + xpd d a (i + 1).toNat ((d 0 3).toNat - (i + 1).toNat) := by
  rw [show (i + 1).toNat = i.toNat + 1 by omega, show (d 0 3).toNat - i.toNat = ((d 0 3).toNat - (i.toNat + 1)) + 1 by omega]
  rfl
/-- this person's is good, too -/
theorem xpd_s (h0 : 0 ≤ i) (hi : i < d 0 3) (hx : a < 0 ∨ x = wdv (d 0 3 - 1 - i).toNat a) (hd : a < 0 ∨ v = x % 40) (hg : v = 0 ∨ v < ((xsp d i.toNat).length : Int)) (h : a < 0 ∨ xpd d a (i + 1).toNat ((d 0 3).toNat - (i + 1).toNat) = 0) : a < 0 ∨ xpd d a i.toNat ((d 0 3).toNat - i.toNat) = 0 := by
  by_cases ha : a < 0
  · exact Or.inl ha
  · have e := xdg_e h0 hi (hx.resolve_left ha) (hd.resolve_left ha)
    rw [e] at hg
    rw [xpd_1 h0 hi, if_pos hg]
    exact Or.inr (by have := h.resolve_left ha; omega)
/-- this person's isn't -/
theorem xpd_n (h0 : 0 ≤ i) (hi : i < d 0 3) (hx : a < 0 ∨ x = wdv (d 0 3 - 1 - i).toNat a) (hd : a < 0 ∨ v = x % 40) (hg : v ≠ 0) (hl : ((xsp d i.toNat).length : Int) ≤ v) : a < 0 ∨ 0 < xpd d a 0 (d 0 3).toNat := by
  by_cases ha : a < 0
  · exact Or.inl ha
  · have e := xdg_e h0 hi (hx.resolve_left ha) (hd.resolve_left ha)
    have h1 := xpd_1 (a := a) h0 hi
    rw [if_neg (by omega)] at h1
    have h2 := @xpd_p d a ((d 0 3).toNat - (i + 1).toNat) (i + 1).toNat
    have h3 := @xpd_i d a i.toNat 0 ((d 0 3).toNat - i.toNat)
    rw [Nat.zero_add, show i.toNat + ((d 0 3).toNat - i.toNat) = (d 0 3).toNat by omega] at h3
    exact Or.inr (by omega)
theorem wdv_1 (hn : i = d 0 3 - 1) : a = wdv (d 0 3 - 1 - i).toNat a := by
  subst hn
  rw [show (d 0 3 - 1 - (d 0 3 - 1)).toNat = 0 by omega]
  rfl
theorem wdv_n (hi : i < d 0 3) (hx : x = wdv (d 0 3 - 1 - i).toNat a) (e : v = x / 40) : v = wdv (d 0 3 - 1 - (i + (-1))).toNat a := wdv_s hx (by omega) e
theorem wdv_z (hx : x = wdv (d 0 3 - 1 - i).toNat a) (hi : i = -1) : x = wdv (d 0 3).toNat a := by
  rw [hx, hi, show (d 0 3 - 1 - (-1)).toNat = (d 0 3).toNat by omega]
end IMG6
end
section
/-! WHAT IS SAID (own work): one person's changed; all by an image -/
def xup (g : Nat → Int) (k : Nat) (v : Int) : Nat → Int := fun j => if j = k then v else g j
/-- people from i on -/
def CGi (T : wq_T) (H : wq_H) (r : Nat) (i n : Int) (g : Nat → Int) : Prop := ∀ k : Nat, i ≤ (k : Int) → (k : Int) < n → ∃ p : Nat, H (H r 0).toNat k = (p : Int) ∧ T.2.2.2 p = some 35 ∧ H p 16 = g k
section SAID6

variable {T : wq_T} {H H' : wq_H} {l : List (Nat × Nat)} {r p q pa k b m : Nat} {i n v c : Int} {g : Nat → Int} {d : xD}
theorem xup_e : xup g k v k = v := if_pos rfl
theorem xup_n {j : Nat} (h : j ≠ k) : xup g k v j = g j := if_neg h
theorem CG_mono {T' : wq_T} (mo : ∀ a t, T.2.2.2 a = some t → T'.2.2.2 a = some t) (h : CG T H r n g) : CG T' H r n g := fun k hk => by
  obtain ⟨p, h1, h2, h3⟩ := h k hk
  exact ⟨p, h1, mo _ _ h2, h3⟩
theorem CGi_0 (h : n ≤ i) : CGi T H r i n g := fun k p q => by omega
theorem CGi_all (h : CGi T H r i n g) (hi : i ≤ 0) : CG T H r n g := fun k hk => h k (by omega) hk
theorem per_ne {j : Nat} (hd : DD T H r) (e0 : H r 0 = (pa : Int)) (e1 : H pa k = (p : Int)) (hk : k < 6) (hj : j < 6) (e2 : H pa j = (q : Int)) (ne : j ≠ k) : q ≠ p := fun e => by
  obtain ⟨pa', q1, -, q3⟩ := hd
  rw [e0] at q1
  have : pa' = pa := by omega
  subst this
  exact ne (q3 j k hj hk (by rw [e2, e1, e]))
/-- one person's is written: the others' are as they were -/
theorem CGi_w (hd : DD T H r) (e0 : H r 0 = (pa : Int)) (g0 : T.2.2.2 pa = some 28) (gr : T.2.2.2 r = some 27) (e1 : H pa k = (p : Int)) (gp : T.2.2.2 p = some 35) (hk : k < 6) (hn : n ≤ 6) (e : H' = wq_u H p 16 v) (h : ∀ j : Nat, j ≠ k → i ≤ (j : Int) → (j : Int) < n → ∃ q : Nat, H (H r 0).toNat j = (q : Int) ∧ T.2.2.2 q = some 35 ∧ H q 16 = g j) (hv : g k = v) : CGi T H' r i n g := by
  have n1 : ∀ a t, T.2.2.2 a = some t → t ≠ 35 → H' a = H a := fun a t ht ne => by
    rw [e]
    funext j
    exact wq_u_na (fun q => by subst q; rw [gp] at ht; exact ne (Option.some.inj ht).symm) j
  have a1 : ∀ j, H' (H' r 0).toNat j = H (H r 0).toNat j := fun j => by
    rw [n1 r _ gr (by decide), e0, Int.toNat_natCast, n1 pa _ g0 (by decide)]
  intro j hj hj2
  by_cases c : j = k
  · subst c
    refine ⟨p, ?_, gp, ?_⟩
    · rw [a1, e0, Int.toNat_natCast]
      exact e1
    · rw [e, wq_u_eq]
      exact hv.symm
  · obtain ⟨q, q1, q2, q3⟩ := h j c hj hj2
    refine ⟨q, ?_, q2, ?_⟩
    · rw [a1]
      exact q1
    · rw [e0, Int.toNat_natCast] at q1
      have hq : q ≠ p := per_ne hd e0 e1 hk (by omega) q1 c
      rw [e, wq_u_na hq]
      exact q3
theorem CY_put (hd : DD T H r) (e0 : H r 0 = (pa : Int)) (g0 : T.2.2.2 pa = some 28) (gr : T.2.2.2 r = some 27) (e1 : H pa k = (p : Int)) (gp : T.2.2.2 p = some 35) (hk : k < 6) (hn : n ≤ 6) (e : H' = wq_u H p 16 v) (h : CY T H r n g c) : CY T H' r n (xup g k v) c := by
  refine ⟨CGi_all (i := 0) (CGi_w hd e0 g0 gr e1 gp hk hn e (fun j hj _ h2 => ?_) xup_e) (Int.le_refl _), ?_⟩
  · obtain ⟨q, q1, q2, q3⟩ := h.1 j h2
    exact ⟨q, q1, q2, q3.trans (xup_n hj).symm⟩
  · rw [e, wq_u_na (fun q => by subst q; rw [gp] at gr; cases gr)]
    exact h.2
theorem CGi_put (hd : DD T H r) (e0 : H r 0 = (pa : Int)) (g0 : T.2.2.2 pa = some 28) (gr : T.2.2.2 r = some 27) (e1 : H pa k = (p : Int)) (gp : T.2.2.2 p = some 35) (hk : k < 6) (hn : n ≤ 6) (e : H' = wq_u H p 16 v) (hi : (k : Int) = i) (hv : v = g k) (h : CGi T H r (i + 1) n g) : CGi T H' r i n g :=
  CGi_w hd e0 g0 gr e1 gp hk hn e (fun j hj h1 h2 => h j (by omega) h2) hv.symm
theorem RY_put (h : RY T H m n g c) (e0 : H m 26 = (b : Int)) (gm : T.2.2.2 m = some 42) (gb : T.2.2.2 b = some 50) (e : H' = wq_u H b k v) : RY T H' m n (xup g k v) c := by
  refine ⟨DAo_set h.1 e0 gm gb (by decide) e xup_e (fun j hj => xup_n hj), ?_⟩
  rw [e, wq_u_na (fun q => by subst q; rw [gm] at gb; cases gb)]
  exact h.2
end SAID6
end
section
/-! BITS AS NUMBERS (own work) -/
theorem wq_and_n {x y : Int} (hx : 0 ≤ x ∧ x ≤ 2147483647) (hy : 0 ≤ y ∧ y ≤ 2147483647) : wq_and x y = ((x.toNat &&& y.toNat : Nat) : Int) := by
  have e : wq_and x y = ((Int32.ofInt x).toBitVec &&& (Int32.ofInt y).toBitVec).toInt := rfl
  have hn : ((Int32.ofInt x).toBitVec &&& (Int32.ofInt y).toBitVec).toNat = x.toNat &&& y.toNat := by rw [BitVec.toNat_and, wI_toNat hx.1 hx.2, wI_toNat hy.1 hy.2]
  have hb : x.toNat &&& y.toNat ≤ y.toNat := Nat.and_le_right
  have h2 := BitVec.toInt_eq_toNat_cond ((Int32.ofInt x).toBitVec &&& (Int32.ofInt y).toBitVec)
  rw [hn] at h2
  rw [e, h2]
  split <;> omega
theorem wq_or_n {x y : Int} (hx : 0 ≤ x ∧ x ≤ 2147483647) (hy : 0 ≤ y ∧ y ≤ 2147483647) : wq_or x y = ((x.toNat ||| y.toNat : Nat) : Int) := by
  have e : wq_or x y = ((Int32.ofInt x).toBitVec ||| (Int32.ofInt y).toBitVec).toInt := rfl
  have hn : ((Int32.ofInt x).toBitVec ||| (Int32.ofInt y).toBitVec).toNat = x.toNat ||| y.toNat := by rw [BitVec.toNat_or, wI_toNat hx.1 hx.2, wI_toNat hy.1 hy.2]
  have hb : x.toNat ||| y.toNat < 2 ^ 31 := Nat.or_lt_two_pow (by omega) (by omega)
  have h2 := BitVec.toInt_eq_toNat_cond ((Int32.ofInt x).toBitVec ||| (Int32.ofInt y).toBitVec)
  rw [hn] at h2
  rw [e, h2]
  split <;> omega
/-- how many bits are set -/
def nbf : Nat → Nat → Nat
  | 0, _ => 0
  | f + 1, x => x % 2 + nbf f (x / 2)
theorem nbf_0 : ∀ f, nbf f 0 = 0
  | 0 => rfl
  | f + 1 => by
    show 0 % 2 + nbf f (0 / 2) = 0
    rw [show (0 : Nat) / 2 = 0 from rfl, nbf_0 f]
theorem nbf_c : ∀ (f x : Nat), x < 2 ^ f → 0 < x → nbf f (x &&& (x - 1)) + 1 = nbf f x
  | 0, x, h, h0 => by
    have : (2 : Nat) ^ 0 = 1 := rfl
    omega
  | f + 1, x, h, h0 => by
    have hp : (2 : Nat) ^ (f + 1) = 2 ^ f * 2 := Nat.pow_succ 2 f
    show (x &&& (x - 1)) % 2 + nbf f ((x &&& (x - 1)) / 2) + 1 = x % 2 + nbf f (x / 2)
    have h1 : (x &&& (x - 1)) % 2 = 0 := by
      have h2 := @Nat.and_mod_two_eq_one x (x - 1)
      by_cases c : (x &&& (x - 1)) % 2 = 1
      · have := h2.mp c
        omega
      · omega
    rw [h1, Nat.and_div_two]
    by_cases c : x % 2 = 1
    · rw [show (x - 1) / 2 = x / 2 by omega, Nat.and_self, c]
      omega
    · have h3 := nbf_c f (x / 2) (by omega) (by omega)
      rw [show (x - 1) / 2 = x / 2 - 1 by omega]
      omega
theorem nbf_a : ∀ (n f y : Nat), n < f → y < 2 ^ n → nbf f (y + 2 ^ n) = nbf f y + 1
  | _, 0, _, h, _ => by omega
  | 0, f + 1, y, _, h => by
    have h1 : y = 0 := by
      have : (2 : Nat) ^ 0 = 1 := rfl
      omega
    subst h1
    show 1 + nbf f 0 = 0 + nbf f 0 + 1
    omega
  | n + 1, f + 1, y, hf, h => by
    have hp : (2 : Nat) ^ (n + 1) = 2 ^ n * 2 := Nat.pow_succ 2 n
    have h1 := nbf_a n f (y / 2) (by omega) (by omega)
    show (y + 2 ^ (n + 1)) % 2 + nbf f ((y + 2 ^ (n + 1)) / 2) = y % 2 + nbf f (y / 2) + 1
    rw [show (y + 2 ^ (n + 1)) % 2 = y % 2 by omega, show (y + 2 ^ (n + 1)) / 2 = y / 2 + 2 ^ n by omega, h1]
    omega
def xon (P : Nat → Bool) : Nat → Nat
  | 0 => 0
  | n + 1 => if P n = true then xon P n + 2 ^ n else xon P n
theorem shl_all : (List.range 24).all (fun n => decide (wq_shl 1 n = ((2 ^ n : Nat) : Int))) = true := by decide +kernel
theorem xon_b {P : Nat → Bool} : ∀ n : Nat, xon P n < 2 ^ n
  | 0 => by
    show 0 < 2 ^ 0
    decide
  | n + 1 => by
    have h := xon_b n (P := P)
    have hp : (2 : Nat) ^ (n + 1) = 2 ^ n * 2 := Nat.pow_succ 2 n
    show (if P n = true then xon P n + 2 ^ n else xon P n) < _
    split <;> omega
theorem xob_on {P : Nat → Bool} : ∀ n : Nat, n ≤ 24 → xob P n = (xon P n : Int)
  | 0, _ => rfl
  | n + 1, h => by
    have h1 := xob_on n (by omega) (P := P)
    have h2 := xon_b n (P := P)
    have h3 : (2 : Nat) ^ n ≤ 2 ^ 23 := Nat.pow_le_pow_right (by decide) (by omega)
    have h4 : (2 : Nat) ^ 23 = 8388608 := by decide
    have h5 := of_decide_eq_true (List.all_eq_true.mp shl_all n (List.mem_range.mpr (by omega)))
    show (if P n = true then wq_or (xob P n) (wq_shl 1 n) else xob P n) = ((if P n = true then xon P n + 2 ^ n else xon P n : Nat) : Int)
    by_cases c : P n = true
    · rw [if_pos c, if_pos c, h1, h5, wq_or_n ⟨by omega, by omega⟩ ⟨by omega, by omega⟩]
      have h6 := Nat.two_pow_add_eq_or_of_lt h2 1
      rw [Nat.mul_one] at h6
      rw [Int.toNat_natCast, Int.toNat_natCast, Nat.or_comm, ← h6, Nat.add_comm]
    · rw [if_neg c, if_neg c]
      exact h1
theorem xon_nb {f : Nat → Int} : ∀ n : Nat, n ≤ 24 → ((nbf 24 (xon (fun h => decide (f h > 0)) n) : Nat) : Int) = xcn f n
  | 0, _ => by
    show ((nbf 24 0 : Nat) : Int) = 0
    rw [nbf_0]
    rfl
  | n + 1, h => by
    have h1 := xon_nb n (by omega) (f := f)
    show ((nbf 24 (if decide (f n > 0) = true then xon (fun h => decide (f h > 0)) n + 2 ^ n else xon (fun h => decide (f h > 0)) n) : Nat) : Int) = xcn f n + (if f n > 0 then 1 else 0)
    by_cases c : f n > 0
    · rw [if_pos (decide_eq_true c), if_pos c, nbf_a n 24 _ (by omega) (xon_b n)]
      omega
    · rw [if_neg (by rw [decide_eq_false c]; decide), if_neg c]
      omega
theorem xob_bits {f : Nat → Int} : ((nbf 24 (xob (fun h => decide (f h > 0)) 24).toNat : Nat) : Int) = xcn f 24 := by
  rw [xob_on 24 (Nat.le_refl _), Int.toNat_natCast]
  exact xon_nb 24 (Nat.le_refl _)
theorem nb_step {x y z : Int} (h0 : 0 < x) (h1 : x ≤ 16777215) (hz : z = x - 1) (e : y = wq_and x z) : nbf 24 y.toNat + 1 = nbf 24 x.toNat := by
  rw [e, hz, wq_and_n ⟨by omega, by omega⟩ ⟨by omega, by omega⟩, Int.toNat_natCast, show (x - 1).toNat = x.toNat - 1 by omega]
  exact nbf_c 24 x.toNat (by have : (2 : Nat) ^ 24 = 16777216 := by decide
                             omega) (by omega)
end
section
/-! STRIKES AS TALLIES (own work): four bits for each of twelve HOURS -/
theorem wL_toNat {x : Int} (h : 0 ≤ x) (h2 : x ≤ 9223372036854775807) : (Int64.ofInt x).toBitVec.toNat = x.toNat := by
  have h1 := wL_t (z := x) ⟨by omega, h2⟩
  have h3 : (Int64.ofInt x).toBitVec.toInt = x := h1
  rw [BitVec.toInt_eq_toNat_cond] at h3
  split at h3 <;> omega
theorem wl_and_n {x y : Int} (hx : 0 ≤ x ∧ x ≤ 9223372036854775807) (hy : 0 ≤ y ∧ y ≤ 9223372036854775807) : wl_and x y = ((x.toNat &&& y.toNat : Nat) : Int) := by
  have e : wl_and x y = ((Int64.ofInt x).toBitVec &&& (Int64.ofInt y).toBitVec).toInt := rfl
  have hn : ((Int64.ofInt x).toBitVec &&& (Int64.ofInt y).toBitVec).toNat = x.toNat &&& y.toNat := by rw [BitVec.toNat_and, wL_toNat hx.1 hx.2, wL_toNat hy.1 hy.2]
  have hb : x.toNat &&& y.toNat ≤ y.toNat := Nat.and_le_right
  have h2 := BitVec.toInt_eq_toNat_cond ((Int64.ofInt x).toBitVec &&& (Int64.ofInt y).toBitVec)
  rw [hn] at h2
  rw [e, h2]
  split <;> omega
theorem wl_or_n {x y : Int} (hx : 0 ≤ x ∧ x ≤ 9223372036854775807) (hy : 0 ≤ y ∧ y ≤ 9223372036854775807) : wl_or x y = ((x.toNat ||| y.toNat : Nat) : Int) := by
  have e : wl_or x y = ((Int64.ofInt x).toBitVec ||| (Int64.ofInt y).toBitVec).toInt := rfl
  have hn : ((Int64.ofInt x).toBitVec ||| (Int64.ofInt y).toBitVec).toNat = x.toNat ||| y.toNat := by rw [BitVec.toNat_or, wL_toNat hx.1 hx.2, wL_toNat hy.1 hy.2]
  have hb : x.toNat ||| y.toNat < 2 ^ 63 := Nat.or_lt_two_pow (by omega) (by omega)
  have h2 := BitVec.toInt_eq_toNat_cond ((Int64.ofInt x).toBitVec ||| (Int64.ofInt y).toBitVec)
  rw [hn] at h2
  rw [e, h2]
  split <;> omega
theorem shr_all : (List.range 24).all (fun n => decide (((Int32.ofInt (n : Int) &&& 31).toBitVec.smod 32).toNat = n)) = true := by decide +kernel
theorem wq_shr_n {x : Int} {n : Nat} (hx : 0 ≤ x ∧ x ≤ 2147483647) (hn : n < 24) : wq_shr x n = ((x.toNat / 2 ^ n : Nat) : Int) := by
  have e : wq_shr x n = ((Int32.ofInt x).toBitVec.sshiftRight' ((Int32.ofInt (n : Int) &&& 31).toBitVec.smod 32)).toInt := rfl
  have h1 := of_decide_eq_true (List.all_eq_true.mp shr_all n (List.mem_range.mpr hn))
  have h2 : (Int32.ofInt x).toBitVec.toInt = x := wI_t ⟨by omega, hx.2⟩
  rw [e, BitVec.toInt_sshiftRight', h1, h2, Int.shiftRight_eq_div_pow]
  rw [← Int.toNat_of_nonneg hx.1]
  rfl
theorem lsr_all : (List.range 12).all (fun n => decide ((((Int32.ofInt ((n : Int) * 4)).toInt64 &&& 63).toBitVec.smod 64).toNat = 4 * n)) = true := by decide +kernel
theorem wl_shr_n {x : Int} {n : Nat} (hx : 0 ≤ x ∧ x ≤ 9223372036854775807) (hn : n < 12) : wl_shr x ((n : Int) * 4) = ((x.toNat / 2 ^ (4 * n) : Nat) : Int) := by
  have e : wl_shr x ((n : Int) * 4) = ((Int64.ofInt x).toBitVec.sshiftRight' (((Int32.ofInt ((n : Int) * 4)).toInt64 &&& 63).toBitVec.smod 64)).toInt := rfl
  have h1 := of_decide_eq_true (List.all_eq_true.mp lsr_all n (List.mem_range.mpr hn))
  have h2 : (Int64.ofInt x).toBitVec.toInt = x := wL_t ⟨by omega, hx.2⟩
  rw [e, BitVec.toInt_sshiftRight', h1, h2, Int.shiftRight_eq_div_pow]
  rw [← Int.toNat_of_nonneg hx.1]
  rfl
theorem lsl_all : (List.range 12).all (fun n => decide (wl_shl 0 ((n : Int) * 4) = 0) && decide (wl_shl 1 ((n : Int) * 4) = ((2 ^ (4 * n) : Nat) : Int))) = true := by decide +kernel
/-- a bit -/
def hb (b : Int) (h : Nat) : Nat := b.toNat / 2 ^ h % 2
theorem hb_b {b : Int} {h : Nat} : hb b h ≤ 1 := by
  unfold hb
  omega
theorem hb_and {b : Int} {h : Nat} (hx : 0 ≤ b ∧ b ≤ 2147483647) (hh : h < 24) : wq_and (wq_shr b h) 1 = (hb b h : Int) := by
  have h2 : b.toNat / 2 ^ h ≤ b.toNat := Nat.div_le_self _ _
  rw [wq_shr_n hx hh]
  unfold hb
  generalize b.toNat / 2 ^ h = c at h2 ⊢
  rw [wq_and_n ⟨by omega, by omega⟩ ⟨by decide, by decide⟩, Int.toNat_natCast]
  show ((c &&& 1 : Nat) : Int) = ((c % 2 : Nat) : Int)
  rw [Nat.and_one_is_mod]
theorem hb_land {b : Int} {h : Nat} (hx : 0 ≤ b ∧ b ≤ 2147483647) (hh : h < 24) : wl_and (wq_shr b h) 1 = (hb b h : Int) := by
  have h2 : b.toNat / 2 ^ h ≤ b.toNat := Nat.div_le_self _ _
  rw [wq_shr_n hx hh]
  unfold hb
  generalize b.toNat / 2 ^ h = c at h2 ⊢
  rw [wl_and_n ⟨by omega, by omega⟩ ⟨by decide, by decide⟩, Int.toNat_natCast]
  show ((c &&& 1 : Nat) : Int) = ((c % 2 : Nat) : Int)
  rw [Nat.and_one_is_mod]
/-- twelve counts in one number -/
def tal (f : Nat → Nat) : Nat → Nat
  | 0 => 0
  | n + 1 => tal f n + f n * 2 ^ (4 * n)
theorem tal_p {n : Nat} : (2 : Nat) ^ (4 * (n + 1)) = 2 ^ (4 * n) * 16 := by
  rw [show 4 * (n + 1) = 4 * n + 4 by omega, Nat.pow_add]
theorem tal_b {f : Nat → Nat} : ∀ n : Nat, (∀ h, h < n → f h ≤ 15) → tal f n < 2 ^ (4 * n)
  | 0, _ => by
    show 0 < 2 ^ 0
    decide
  | n + 1, h => by
    have h1 := tal_b n (fun j hj => h j (by omega))
    have h2 := h n (by omega)
    have h3 : f n * 2 ^ (4 * n) ≤ 15 * 2 ^ (4 * n) := Nat.mul_le_mul_right _ h2
    show tal f n + f n * 2 ^ (4 * n) < _
    rw [tal_p]
    omega
theorem tal_add {f g : Nat → Nat} : ∀ n : Nat, tal f n + tal g n = tal (fun h => f h + g h) n
  | 0 => rfl
  | n + 1 => by
    have h1 := tal_add n (f := f) (g := g)
    show tal f n + f n * 2 ^ (4 * n) + (tal g n + g n * 2 ^ (4 * n)) = tal (fun h => f h + g h) n + (f n + g n) * 2 ^ (4 * n)
    rw [← h1, Nat.add_mul]
    omega
theorem tal_cg {f g : Nat → Nat} : ∀ n : Nat, (∀ h, h < n → f h = g h) → tal f n = tal g n
  | 0, _ => rfl
  | n + 1, h => by
    show tal f n + f n * 2 ^ (4 * n) = tal g n + g n * 2 ^ (4 * n)
    rw [tal_cg n (fun j hj => h j (by omega)), h n (by omega)]
theorem tal_0 : ∀ n : Nat, tal (fun _ => 0) n = 0
  | 0 => rfl
  | n + 1 => by
    show tal (fun _ => 0) n + 0 * 2 ^ (4 * n) = 0
    rw [tal_0 n]
    omega
theorem tal_r {f : Nat → Nat} {p : Nat} : ∀ m : Nat, ∃ r, tal f (p + 1 + m) = tal f p + f p * 2 ^ (4 * p) + 2 ^ (4 * p) * (16 * r)
  | 0 => ⟨0, by
    show tal f p + f p * 2 ^ (4 * p) = _
    omega⟩
  | m + 1 => by
    obtain ⟨r, h⟩ := tal_r m (f := f) (p := p)
    refine ⟨r + f (p + 1 + m) * 2 ^ (4 * m), ?_⟩
    show tal f (p + 1 + m) + f (p + 1 + m) * 2 ^ (4 * (p + 1 + m)) = _
    rw [h, show 4 * (p + 1 + m) = 4 * p + 4 + 4 * m by omega, Nat.pow_add, Nat.pow_add, Nat.mul_add 16, Nat.mul_add (2 ^ (4 * p))]
    rw [show f (p + 1 + m) * (2 ^ (4 * p) * 2 ^ 4 * 2 ^ (4 * m)) = 2 ^ (4 * p) * (16 * (f (p + 1 + m) * 2 ^ (4 * m))) by
      rw [show (2 : Nat) ^ 4 = 16 from rfl, Nat.mul_assoc (2 ^ (4 * p)), Nat.mul_left_comm, Nat.mul_left_comm (f (p + 1 + m)) 16]]
    omega
/-- one of them again -/
theorem tal_at {f : Nat → Nat} {p : Nat} (hp : p < 12) (h : ∀ j, j < 12 → f j ≤ 15) : tal f 12 / 2 ^ (4 * p) % 16 = f p := by
  obtain ⟨r, e⟩ := tal_r (11 - p) (f := f) (p := p)
  rw [show p + 1 + (11 - p) = 12 by omega] at e
  have h1 := tal_b p (fun j hj => h j (by omega)) (f := f)
  have h2 := h p hp
  have h3 : tal f 12 = tal f p + 2 ^ (4 * p) * (f p + 16 * r) := by
    rw [e, Nat.mul_add, Nat.mul_comm (f p)]
    omega
  rw [h3, Nat.add_mul_div_left _ _ (Nat.two_pow_pos _), Nat.div_eq_of_lt h1]
  omega
theorem xtal_e {b : Int} (hx : 0 ≤ b ∧ b ≤ 2147483647) : ∀ n : Nat, n ≤ 12 → xtal b n = (tal (hb b) n : Int)
  | 0, _ => rfl
  | n + 1, h => by
    have h1 := xtal_e hx n (by omega)
    have h2 := tal_b n (fun j _ => Nat.le_trans (@hb_b b j) (by decide)) (f := hb b)
    have h3 : (2 : Nat) ^ (4 * n) ≤ 2 ^ 44 := Nat.pow_le_pow_right (by decide) (by omega)
    have h4 : (2 : Nat) ^ 44 = 17592186044416 := by decide
    have h5 := List.all_eq_true.mp lsl_all n (List.mem_range.mpr (by omega))
    rw [Bool.and_eq_true, decide_eq_true_eq, decide_eq_true_eq] at h5
    show wl_or (xtal b n) (wl_shl (wl_and (wq_shr b n) 1) ((n : Int) * 4)) = ((tal (hb b) n + hb b n * 2 ^ (4 * n) : Nat) : Int)
    rw [hb_land hx (by omega), h1]
    have h6 := @hb_b b n
    by_cases c : hb b n = 0
    · rw [c, show ((0 : Nat) : Int) = 0 from rfl, h5.1, wl_or_n ⟨by omega, by omega⟩ ⟨by decide, by decide⟩, Int.toNat_natCast]
      show ((tal (hb b) n ||| 0 : Nat) : Int) = _
      rw [Nat.or_zero]
      omega
    · rw [show hb b n = 1 by omega, show ((1 : Nat) : Int) = 1 from rfl, h5.2, wl_or_n ⟨by omega, by omega⟩ ⟨by omega, by omega⟩, Int.toNat_natCast, Int.toNat_natCast]
      have h7 := Nat.two_pow_add_eq_or_of_lt h2 1
      rw [Nat.mul_one] at h7
      rw [Nat.or_comm, ← h7]
      omega
theorem and15 {V : Int} (h : 0 ≤ V) : wq_and (wq_w V) 15 = ((V.toNat % 16 : Nat) : Int) := by
  have e : wq_and (wq_w V) 15 = ((Int32.ofInt (wq_w V)).toBitVec &&& (Int32.ofInt 15).toBitVec).toInt := rfl
  have e1 : Int32.ofInt (wq_w V) = Int32.ofInt V := by
    unfold wq_w
    rw [Int32.ofInt_toInt]
  have e2 : (Int32.ofInt V).toBitVec = BitVec.ofInt 32 V := rfl
  have hn : ((Int32.ofInt (wq_w V)).toBitVec &&& (Int32.ofInt 15).toBitVec).toNat = V.toNat % 16 := by
    rw [e1, BitVec.toNat_and, wI_toNat (x := 15) (by decide) (by decide), e2, BitVec.toNat_ofInt]
    show ((V % ((2 ^ 32 : Nat) : Int)).toNat &&& 2 ^ 4 - 1) = _
    rw [Nat.and_two_pow_sub_one_eq_mod]
    omega
  have h2 := BitVec.toInt_eq_toNat_cond ((Int32.ofInt (wq_w V)).toBitVec &&& (Int32.ofInt 15).toBitVec)
  rw [hn] at h2
  rw [e, h2]
  split <;> omega
/-- a tally's HOUR -/
theorem tal_due {f : Nat → Nat} {p : Nat} {V : Int} (hp : p < 12) (h : ∀ j, j < 12 → f j ≤ 15) (e : V = (tal f 12 : Int)) : wq_and (wq_w (wl_shr V ((p : Int) * 4))) 15 = (f p : Int) := by
  have h1 := tal_b 12 h
  have h4 : (2 : Nat) ^ (4 * 12) = 281474976710656 := by decide
  rw [e, wl_shr_n ⟨by omega, by omega⟩ hp, Int.toNat_natCast, and15 (Int.natCast_nonneg _), Int.toNat_natCast, tal_at hp h]
end
