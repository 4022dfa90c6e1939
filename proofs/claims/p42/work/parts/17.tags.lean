/-! TAGS (own work, wip/gen2/tags.py): what each kind of cell is, and between which bounds its slots lie -/
def wshl : List (Nat × Nat) := [(0, 0), (100, 13), (2, 900), (101, 5), (102, 7), (2, 0), (103, 6), (0, 6), (1, 7), (1, 7), (0, 7), (0, 7), (104, 10), (1, 313), (5, 6), (0, 40), (6, 6), (1, 40), (0, 24), (0, 24), (105, 5), (0, 400), (0, 400), (0, 400), (0, 1024), (106, 3), (1, 5000), (107, 19), (4, 6), (0, 24), (0, 24), (0, 3), (0, 4), (0, 4), (0, 6), (108, 18), (0, 40), (0, 40), (0, 40), (0, 40), (1, 40), (1, 40), (109, 33), (2, 900), (0, 24), (0, 6), (0, 240), (0, 240), (0, 240), (0, 240), (0, 6), (0, 6), (0, 20000), (0, 6), (110, 27), (1, 6), (0, 6), (0, 6), (0, 6), (0, 6), (0, 6), (0, 6), (0, 6), (3, 6), (0, 3), (0, 3), (0, 3), (0, 24), (0, 4), (0, 4), (0, 4), (0, 6), (0, 6), (1, 1)]
def wtyl : List (Nat → Nat × Int × Int × Nat) := [fun _ => (0, 0, 0, 0), fun j => [(2, 0, 0, 2), (2, 0, 0, 3), (2, 0, 0, 6), (2, 0, 0, 12), (2, 0, 0, 20), (2, 0, 0, 25), (2, 0, 0, 27), (2, 0, 0, 27), (0, 0, 1, 0), (0, 0, 900, 0), (0, -2147483648, 2147483647, 0), (0, -2147483648, 2147483647, 0), (0, -2147483648, 2147483647, 0)].getD j (0, 0, 0, 0),
  fun _ => (0, -128, 127, 0),
  fun j => [(2, 0, 0, 4), (0, -1, 24, 0), (0, -1, 24, 0), (0, -2147483648, 2147483647, 0), (0, -2147483648, 2147483647, 0)].getD j (0, 0, 0, 0),
  fun j => [(4, 5, 0, 2), (0, 0, 900, 0), (0, 0, 900, 0), (0, 0, 5, 0), (0, 0, 900, 0), (0, -2147483648, 2147483647, 0), (0, -9223372036854775808, 9223372036854775807, 0)].getD j (0, 0, 0, 0),
  fun _ => (0, -128, 127, 0),
  fun j => [(2, 0, 0, 7), (2, 0, 0, 8), (2, 0, 0, 9), (2, 0, 0, 10), (2, 0, 0, 11), (0, 0, 6, 0)].getD j (0, 0, 0, 0),
  fun _ => (0, 0, 39, 0),
  fun _ => (0, -9223372036854775808, 9223372036854775807, 0),
  fun _ => (0, -9223372036854775808, 9223372036854775807, 0),
  fun _ => (0, -2147483648, 2147483647, 0),
  fun _ => (0, -2147483648, 2147483647, 0),
  fun j => [(2, 0, 0, 13), (2, 0, 0, 14), (2, 0, 0, 16), (2, 0, 0, 18), (2, 0, 0, 19), (0, -2147483648, 2147483647, 0), (0, -9223372036854775808, 9223372036854775807, 0), (0, 0, 19999, 0), (0, -9223372036854775808, 9223372036854775807, 0), (0, 0, 1, 0)].getD j (0, 0, 0, 0),
  fun _ => (0, -9223372036854775808, 9223372036854775807, 0),
  fun _ => (2, 0, 0, 15),
  fun _ => (0, -2147483648, 2147483647, 0),
  fun _ => (2, 0, 0, 17),
  fun _ => (0, -9223372036854775808, 9223372036854775807, 0),
  fun _ => (0, -2147483648, 2147483647, 0),
  fun _ => (0, -2147483648, 2147483647, 0),
  fun j => [(2, 0, 0, 21), (2, 0, 0, 22), (2, 0, 0, 23), (2, 0, 0, 24), (0, 0, 400, 0)].getD j (0, 0, 0, 0),
  fun _ => (0, 0, 19999, 0),
  fun _ => (0, -2147483648, 2147483647, 0),
  fun _ => (0, -2147483648, 2147483647, 0),
  fun _ => (0, -1, 399, 0),
  fun j => [(2, 0, 0, 26), (0, 0, 5000, 0), (0, 0, 4999, 0)].getD j (0, 0, 0, 0),
  fun _ => (0, -9223372036854775808, 9223372036854775807, 0),
  fun j => [(2, 0, 0, 28), (2, 0, 0, 29), (2, 0, 0, 30), (2, 0, 0, 31), (2, 0, 0, 32), (2, 0, 0, 33), (2, 0, 0, 34), (0, 0, 24, 0), (0, -2147483648, 2147483647, 0), (0, -2147483648, 2147483647, 0), (0, 0, 6, 0), (0, -2147483648, 2147483647, 0), (0, 0, 3, 0), (0, 0, 4, 0), (0, 0, 6, 0), (0, -2147483648, 2147483647, 0), (0, 0, 24, 0), (0, 0, 2147483647, 0), (0, -9223372036854775808, 9223372036854775807, 0)].getD j (0, 0, 0, 0),
  fun _ => (2, 0, 0, 35),
  fun _ => (0, -2147483648, 2147483647, 0),
  fun _ => (0, 0, 23, 0),
  fun _ => (0, -2147483648, 2147483647, 0),
  fun _ => (0, 0, 5, 0),
  fun _ => (0, -2147483648, 2147483647, 0),
  fun _ => (0, -2147483648, 2147483647, 0),
  fun j => [(2, 0, 0, 36), (2, 0, 0, 37), (2, 0, 0, 38), (2, 0, 0, 39), (2, 0, 0, 40), (2, 0, 0, 41), (0, -9223372036854775808, 9223372036854775807, 0), (0, -1, 24, 0), (0, -1, 24, 0), (0, -1, 24, 0), (0, -1, 24, 0), (0, -1, 23, 0), (0, -2147483648, 2147483647, 0), (0, 0, 1, 0), (0, -2147483648, 2147483647, 0), (0, 0, 40, 0), (0, 0, 39, 0), (0, -2147483648, 2147483647, 0)].getD j (0, 0, 0, 0),
  fun _ => (0, -1, 24, 0),
  fun _ => (0, -1, 24, 0),
  fun _ => (0, -2147483648, 2147483647, 0),
  fun _ => (0, -2147483648, 2147483647, 0),
  fun _ => (0, -9223372036854775808, 9223372036854775807, 0),
  fun _ => (0, -9223372036854775808, 9223372036854775807, 0),
  fun j => [(0, -2147483648, 2147483647, 0), (0, -2147483648, 2147483647, 0), (0, -2147483648, 2147483647, 0), (3, 0, 0, 54), (3, 0, 0, 54), (2, 0, 0, 43), (0, 0, 900, 0), (0, 0, 900, 0), (0, 0, 900, 0), (0, 0, 5, 0), (0, -2147483648, 2147483647, 0), (0, -2147483648, 2147483647, 0), (0, -2147483648, 2147483647, 0), (0, -2147483648, 2147483647, 0), (0, -2147483648, 2147483647, 0), (0, -9223372036854775808, 9223372036854775807, 0), (0, 0, 24, 0), (0, -2147483648, 2147483647, 0), (0, -2147483648, 2147483647, 0), (0, -2147483648, 2147483647, 0), (2, 0, 0, 44), (2, 0, 0, 45), (2, 0, 0, 46), (2, 0, 0, 47), (2, 0, 0, 48), (2, 0, 0, 49), (2, 0, 0, 50), (2, 0, 0, 51), (0, 0, 1, 0), (0, 0, 20000, 0), (2, 0, 0, 52), (2, 0, 0, 53), (0, 0, 2147483647, 0)].getD j (0, 0, 0, 0),
  fun _ => (0, -128, 127, 0),
  fun _ => (0, -2147483648, 2147483647, 0),
  fun _ => (0, 0, 40, 0),
  fun _ => (0, 0, 30, 0),
  fun _ => (0, 0, 16, 0),
  fun _ => (0, -2147483648, 2147483647, 0),
  fun _ => (0, -2147483648, 2147483647, 0),
  fun _ => (0, 0, 39, 0),
  fun _ => (0, 0, 39, 0),
  fun _ => (0, 0, 19999, 0),
  fun _ => (0, 0, 39, 0),
  fun j => [(0, 0, 24, 0), (0, -2147483648, 2147483647, 0), (0, -2147483648, 2147483647, 0), (0, 0, 6, 0), (0, 0, 3, 0), (0, 0, 3, 0), (0, 0, 4, 0), (0, 0, 6, 0), (0, -2147483648, 2147483647, 0), (2, 0, 0, 55), (2, 0, 0, 56), (2, 0, 0, 57), (2, 0, 0, 58), (2, 0, 0, 59), (2, 0, 0, 60), (2, 0, 0, 61), (2, 0, 0, 62), (2, 0, 0, 63), (2, 0, 0, 64), (2, 0, 0, 65), (2, 0, 0, 66), (2, 0, 0, 67), (2, 0, 0, 68), (2, 0, 0, 69), (2, 0, 0, 70), (2, 0, 0, 71), (2, 0, 0, 72)].getD j (0, 0, 0, 0),
  fun _ => (0, -9223372036854775808, 9223372036854775807, 0),
  fun _ => (0, 0, 23, 0),
  fun _ => (0, 0, 30, 0),
  fun _ => (0, 0, 12, 0),
  fun _ => (0, 0, 16, 0),
  fun _ => (0, -1, 23, 0),
  fun _ => (0, -2147483648, 2147483647, 0),
  fun _ => (0, -2147483648, 2147483647, 0),
  fun _ => (0, 0, 1, 0),
  fun _ => (0, 0, 5, 0),
  fun _ => (0, 0, 5, 0),
  fun _ => (0, -2147483648, 2147483647, 0),
  fun _ => (0, -2147483648, 2147483647, 0),
  fun _ => (0, 0, 5, 0),
  fun _ => (0, -2147483648, 2147483647, 0),
  fun _ => (0, -2147483648, 2147483647, 0),
  fun _ => (0, 0, 5, 0),
  fun _ => (0, -2147483648, 2147483647, 0),
  fun _ => (0, -9223372036854775808, 9223372036854775807, 0)]
def wroom (i : Nat) : Int := [1, 6, 1, 3, 3, 24, 4, 6, 0, 0, 0].getD i 0
def wswm (i : Nat) : Int := [1, 2, 3, 4, 5, 6, 7, 8, 0, 0, 0].getD i 0
/-- a tag's shape: below 80 cells that are made; 81 RESERVED, 82 the switch's map, from 84 on the enum's constants -/
def wsh (t : Nat) : Nat × Nat := if t < 80 then wshl.getD t (0, 0) else if t = 81 then (7, 11) else if t = 82 then (0, 11) else if 1000 ≤ t then (0, t - 1000) else if 200 ≤ t then wshl.getD (t - 200) (0, 0) else (120, 2)
/-- a slot's type: 0 between bounds; 2 a reference to a tag; 3 that or null; 4 to one of two tags; 5 whatever (200 more: cells that aren't looked at) -/
def wty (t j : Nat) : Nat × Int × Int × Nat := if t < 80 then (wtyl.getD t (fun _ => (0, 0, 0, 0))) j else if t = 81 then (0, 16 + j, 16 + j, 0) else if t = 82 then (0, wswm j, wswm j, 0) else if 1000 ≤ t then (0, -2147483648, 2147483647, 0) else if 200 ≤ t then (5, 0, 0, 0) else if j = 0 then (0, 32 + (t - 84), 32 + (t - 84), 0) else (0, wroom (t - 84), wroom (t - 84), 0)
/-- the script, of n ints -/
theorem wsh_s (n : Nat) : wsh (1000 + n) = (0, n) := by
  unfold wsh
  rw [if_neg (by omega), if_neg (by omega), if_neg (by omega), if_pos (by omega), Nat.add_sub_cancel_left]
theorem wty_s (n j : Nat) : wty (1000 + n) j = (0, -2147483648, 2147483647, 0) := by
  unfold wty
  rw [if_neg (by omega), if_neg (by omega), if_neg (by omega), if_pos (by omega)]
def wok (T : wq_T) (ty : Nat × Int × Int × Nat) (z : Int) : Prop := match ty.1 with
  | 0 => ty.2.1 ≤ z ∧ z ≤ ty.2.2.1
  | 2 => 0 ≤ z ∧ T.2.2.2 z.toNat = some ty.2.2.2
  | 3 => z = -1 ∨ (0 ≤ z ∧ T.2.2.2 z.toNat = some ty.2.2.2)
  | 5 => True
  | _ => 0 ≤ z ∧ (T.2.2.2 z.toNat = some ty.2.2.2 ∨ T.2.2.2 z.toNat = some ty.2.1.toNat)
/-- the constants have their tags -/
def wkt (T : wq_T) : Prop := T.2.2.2 1 = some 81 ∧ T.2.2.2 2 = some 82 ∧ ∀ i, i < 11 → T.2.2.2 (16 + i) = some (84 + i)
/-- every tagged cell has its shape and its slots their types -/
def WT (T : wq_T) (H : wq_H) : Prop := wkt T ∧ ∀ a t, T.2.2.2 a = some t → T.1 a = some (wsh t) ∧ (t < 80 → 256 ≤ a) ∧ ∀ j, j < (wsh t).2 → wok T (wty t j) (H a j)
section WTS

variable {T : wq_T} {H H' H0 : wq_H} {a t j : Nat} {z : Int}
theorem WT.sh (h : WT T H) (ht : T.2.2.2 a = some t) {s : Nat × Nat} (hs : wsh t = s) : T.1 a = some s := by rw [← hs]; exact (h.2 a t ht).1
theorem WT.hi (h : WT T H) (ht : T.2.2.2 a = some t) (h8 : t < 80) : 256 ≤ a := (h.2 a t ht).2.1 h8
theorem WT.box (h : WT T H) (ht : T.2.2.2 a = some t) {lo hi : Int} {n : Nat} (hn : (wsh t).2 = n) (hj : j < n) (hty : wty t j = (0, lo, hi, 0)) : lo ≤ H a j ∧ H a j ≤ hi := by
  have h1 := (h.2 a t ht).2.2 j (by rw [hn]; exact hj)
  rw [hty] at h1
  exact h1
theorem WT.ref (h : WT T H) (ht : T.2.2.2 a = some t) {t' n : Nat} {p q : Int} (hn : (wsh t).2 = n) (hj : j < n) (hty : wty t j = (2, p, q, t')) : ∃ b : Nat, H a j = (b : Int) ∧ T.2.2.2 b = some t' := by
  have h1 := (h.2 a t ht).2.2 j (by rw [hn]; exact hj)
  rw [hty] at h1
  obtain ⟨h2, h3⟩ := h1
  exact ⟨(H a j).toNat, by omega, h3⟩
theorem WT.opt (h : WT T H) (ht : T.2.2.2 a = some t) {t' n : Nat} {p q : Int} (hn : (wsh t).2 = n) (hj : j < n) (hty : wty t j = (3, p, q, t')) : H a j = -1 ∨ ∃ b : Nat, H a j = (b : Int) ∧ T.2.2.2 b = some t' := by
  have h1 := (h.2 a t ht).2.2 j (by rw [hn]; exact hj)
  rw [hty] at h1
  rcases h1 with h1 | ⟨h2, h3⟩
  · exact Or.inl h1
  · exact Or.inr ⟨(H a j).toNat, by omega, h3⟩
theorem WT.put (h : WT T H) (ht : T.2.2.2 a = some t) (hz : wok T (wty t j) z) : WT T (wq_u H a j z) := by
  refine ⟨h.1, fun b s hb => ⟨(h.2 b s hb).1, (h.2 b s hb).2.1, fun i hi => ?_⟩⟩
  by_cases hq : b = a ∧ i = j
  · obtain ⟨rfl, rfl⟩ := hq
    rw [ht] at hb
    cases hb
    rw [wq_u_eq]
    exact hz
  · rw [wq_u_ne hq]
    exact (h.2 b s hb).2.2 i hi
theorem WT.putB (h : WT T H) (ht : T.2.2.2 a = some t) {lo hi : Int} (hty : wty t j = (0, lo, hi, 0)) (h1 : lo ≤ z) (h2 : z ≤ hi) : WT T (wq_u H a j z) := h.put ht (by rw [hty]; exact ⟨h1, h2⟩)
/-- may slot j of a cell with tag t have changed -/
def wmem (l : List (Nat × Nat)) (t j : Nat) : Bool := l.any (fun q => q.1 == t && (q.2 == 999 || q.2 == j))
/-- nothing else has changed -/
def wfr (l : List (Nat × Nat)) (T : wq_T) (H H' : wq_H) : Prop := ∀ a j t, T.2.2.2 a = some t → wmem l t j = false → H' a j = H a j
theorem wfr.rf {l : List (Nat × Nat)} : wfr l T H H := fun _ _ _ _ _ => rfl
theorem wfr.put {l : List (Nat × Nat)} (h : wfr l T H0 H) (ht : T.2.2.2 a = some t) (hm : wmem l t j = true) : wfr l T H0 (wq_u H a j z) := fun b i s hb hs => by
  rw [wq_u_ne, h b i s hb hs]
  rintro ⟨rfl, rfl⟩
  rw [ht] at hb
  cases hb
  rw [hm] at hs
  cases hs
/-- every change of one list is one of another's -/
def wsub (l l' : List (Nat × Nat)) : Bool := l.all (fun q => l'.any (fun r => r.1 == q.1 && (r.2 == 999 || r.2 == q.2)))
theorem wsub_of {l l' : List (Nat × Nat)} (h : wsub l l' = true) {t j : Nat} (hm : wmem l' t j = false) : wmem l t j = false := by
  by_cases h1 : wmem l t j = true
  · unfold wmem at h1
    obtain ⟨q, hq, h2⟩ := List.any_eq_true.mp h1
    obtain ⟨r, hr, h3⟩ := List.any_eq_true.mp (List.all_eq_true.mp h q hq)
    have h4 : wmem l' t j = true := by
      unfold wmem
      refine List.any_eq_true.mpr ⟨r, hr, ?_⟩
      simp only [Bool.and_eq_true, Bool.or_eq_true, beq_iff_eq] at h2 h3 ⊢
      refine ⟨h3.1.trans h2.1, ?_⟩
      rcases h3.2 with h5 | h5
      · exact Or.inl h5
      · rcases h2.2 with h6 | h6
        · exact Or.inl (h5.trans h6)
        · exact Or.inr (h5.trans h6)
    rw [hm] at h4
    cases h4
  · simpa using h1
theorem wfr.tr {l l' : List (Nat × Nat)} (h : wfr l T H0 H) (h2 : wfr l' T H H') (hs : wsub l' l = true) : wfr l T H0 H' := fun b i s hb hm => by
  rw [h2 b i s hb (wsub_of hs hm)]
  exact h b i s hb hm
theorem wtag_ne {a b t s : Nat} (ha : T.2.2.2 a = some t) (hb : T.2.2.2 b = some s) (h : (t == s) = false) : a ≠ b := fun e => by
  subst e
  rw [ha] at hb
  cases hb
  simp at h
end WTS
/-! ints by bits: their bounds (own work) -/
theorem wI_w (x : Int) : wI (wq_w x) := wI_of _
theorem wI_and (x y : Int) : wI (wq_and x y) := wI_of _
theorem wI_or (x y : Int) : wI (wq_or x y) := wI_of _
theorem wI_xor (x y : Int) : wI (wq_xor x y) := wI_of _
theorem wI_shl (x y : Int) : wI (wq_shl x y) := wI_of _
theorem wI_shr (x y : Int) : wI (wq_shr x y) := wI_of _
theorem wI_ushr (x y : Int) : wI (wq_ushr x y) := wI_of _
theorem wL_w (x : Int) : wL (wl_w x) := wL_of _
theorem wL_and (x y : Int) : wL (wl_and x y) := wL_of _
theorem wL_or (x y : Int) : wL (wl_or x y) := wL_of _
theorem wL_shl (x y : Int) : wL (wl_shl x y) := wL_of _
theorem wL_shr (x y : Int) : wL (wl_shr x y) := wL_of _
theorem wL_div (x y : Int) : wL (wl_div x y) := wL_of _
theorem wL_rem (x y : Int) : wL (wl_rem x y) := wL_of _
theorem wq_cmp_b (x y : Int) : (x < y ∧ wq_cmp x y = -1) ∨ (x = y ∧ wq_cmp x y = 0) ∨ (y < x ∧ wq_cmp x y = 1) := by
  unfold wq_cmp
  by_cases h1 : x < y
  · exact Or.inl ⟨h1, if_pos h1⟩
  · rw [if_neg h1]
    by_cases h2 : x = y
    · exact Or.inr (Or.inl ⟨h2, if_pos h2⟩)
    · rw [if_neg h2]
      exact Or.inr (Or.inr ⟨by omega, rfl⟩)
theorem wq_w_id {x : Int} (h : wI x) : wq_w x = x := wI_t h
theorem wl_w_id {x : Int} (h : wL x) : wl_w x = x := wL_t h
theorem wq_i2b_b (x : Int) : -128 ≤ wq_i2b x ∧ wq_i2b x ≤ 127 := by
  unfold wq_i2b
  rw [Int8.toInt_toInt32]
  exact ⟨Int8.le_toInt _, by have := Int8.toInt_lt (Int32.ofInt x).toInt8; omega⟩
theorem wI_toNat {x : Int} (h : 0 ≤ x) (h2 : x ≤ 2147483647) : (Int32.ofInt x).toBitVec.toNat = x.toNat := by
  have h1 := wI_t (z := x) ⟨by omega, h2⟩
  have h3 : (Int32.ofInt x).toBitVec.toInt = x := h1
  rw [BitVec.toInt_eq_toNat_cond] at h3
  split at h3 <;> omega
/-- masked by a number that isn't negative -/
theorem wq_and_b (x : Int) {y : Int} (h0 : 0 ≤ y) (h1 : y ≤ 2147483647) : 0 ≤ wq_and x y ∧ wq_and x y ≤ y := by
  have e : wq_and x y = ((Int32.ofInt x).toBitVec &&& (Int32.ofInt y).toBitVec).toInt := rfl
  have hn : ((Int32.ofInt x).toBitVec &&& (Int32.ofInt y).toBitVec).toNat ≤ y.toNat := by
    rw [BitVec.toNat_and, wI_toNat h0 h1]
    exact Nat.and_le_right
  have h2 := BitVec.toInt_eq_toNat_cond ((Int32.ofInt x).toBitVec &&& (Int32.ofInt y).toBitVec)
  rw [e, h2]
  split <;> omega
theorem wq_and_c (x y : Int) : wq_and x y = wq_and y x := by
  unfold wq_and
  rw [Int32.and_comm]
/-- a quotient, a remainder of numbers that aren't negative -/
theorem wq_div_e {x y : Int} (hx : 0 ≤ x ∧ x ≤ 2147483647) (hy : 0 < y ∧ y ≤ 2147483647) : wq_div x y = x / y := by
  unfold wq_div
  rw [Int32.toInt_div, wI_t ⟨by omega, hx.2⟩, wI_t ⟨by omega, hy.2⟩, Int.tdiv_eq_ediv_of_nonneg hx.1]
  have h1 : 0 ≤ x / y := Int.ediv_nonneg hx.1 (by omega)
  have h2 : x / y ≤ x := Int.ediv_le_self _ hx.1
  rw [Int.bmod_def]
  omega
theorem wq_rem_e {x y : Int} (hx : 0 ≤ x ∧ x ≤ 2147483647) (hy : 0 < y ∧ y ≤ 2147483647) : wq_rem x y = x % y := by
  have h0 := wq_div_e hx hy
  unfold wq_div at h0
  have e : Int32.ofInt x / Int32.ofInt y = Int32.ofInt (x / y) := by rw [← h0, Int32.ofInt_toInt]
  unfold wq_rem
  rw [e, ← Int32.ofInt_mul, ← Int32.ofInt_sub]
  have h3 : x - x / y * y = x % y := by
    have := Int.mul_ediv_add_emod x y
    rw [Int.mul_comm] at this
    omega
  rw [h3]
  have h4 := Int.emod_nonneg x (show y ≠ 0 by omega)
  have h5 := Int.emod_lt_of_pos x hy.1
  exact wI_t ⟨by omega, by omega⟩
theorem wl_div_e {x y : Int} (hx : 0 ≤ x ∧ x ≤ 9223372036854775807) (hy : 0 < y ∧ y ≤ 9223372036854775807) : wl_div x y = x / y := by
  unfold wl_div
  rw [Int64.toInt_div, wL_t ⟨by omega, hx.2⟩, wL_t ⟨by omega, hy.2⟩, Int.tdiv_eq_ediv_of_nonneg hx.1]
  have h1 : 0 ≤ x / y := Int.ediv_nonneg hx.1 (by omega)
  have h2 : x / y ≤ x := Int.ediv_le_self _ hx.1
  rw [Int.bmod_def]
  omega
theorem wl_rem_e {x y : Int} (hx : 0 ≤ x ∧ x ≤ 9223372036854775807) (hy : 0 < y ∧ y ≤ 9223372036854775807) : wl_rem x y = x % y := by
  have h0 := wl_div_e hx hy
  unfold wl_div at h0
  have e : Int64.ofInt x / Int64.ofInt y = Int64.ofInt (x / y) := by rw [← h0, Int64.ofInt_toInt]
  unfold wl_rem
  rw [e, ← Int64.ofInt_mul, ← Int64.ofInt_sub]
  have h3 : x - x / y * y = x % y := by
    have := Int.mul_ediv_add_emod x y
    rw [Int.mul_comm] at this
    omega
  rw [h3]
  have h4 := Int.emod_nonneg x (show y ≠ 0 by omega)
  have h5 := Int.emod_lt_of_pos x hy.1
  exact wL_t ⟨by omega, by omega⟩
/-! shorthands for the generator -/
theorem wq_hc {a c j n : Nat} (ha : 256 ≤ a) (h : (!decide (20 ≤ c) && decide (j < mc_N.getD c 0) && decide (j < n)) = true) : (decide (a < 256) == decide (20 ≤ c)) = true ∧ (decide (a < 256) || decide (j < mc_N.getD c 0)) = true ∧ j < n := by
  simp only [Bool.and_eq_true, Bool.not_eq_true', decide_eq_true_eq, decide_eq_false_iff_not] at h
  obtain ⟨⟨h1, h2⟩, h3⟩ := h
  refine ⟨?_, ?_, h3⟩
  · rw [decide_eq_false (by omega : ¬ a < 256), decide_eq_false h1]
    rfl
  · rw [decide_eq_true h2]
    simp
theorem wq_fitZ {z : Int} (h0 : 0 ≤ z) (h1 : z ≤ 1) : mc_fit .boolean (vI z) = true := by
  have h2 : z = 0 ∨ z = 1 := by omega
  rcases h2 with rfl | rfl <;> decide +kernel
theorem wp_lc {kt : Nat → Option mc_E} {d k pc : Nat} {L L' : List (Nat × Value)} {st : List Value} {T : wq_T} {H : wq_H} {Q : Option Value → wq_T → wq_H → Prop} {ks : List Nat} (h1 : ∀ q ∈ L, q ∈ L') (hk : L'.map Prod.fst = ks) (h2 : ks.Nodup) (h : wp kt d k pc L st T H Q) : wp kt d k pc L' st T H Q := wp_loc h1 (by rw [hk]; exact h2) h
theorem wl_div_or {x y : Int} (hx : -9223372036854775808 ≤ x ∧ x ≤ 9223372036854775807) (hy : 0 < y ∧ y ≤ 9223372036854775807) : x < 0 ∨ wl_div x y = x / y := by
  by_cases h : x < 0
  · exact Or.inl h
  · exact Or.inr (wl_div_e ⟨by omega, hx.2⟩ hy)
theorem wl_rem_or {x y : Int} (hx : -9223372036854775808 ≤ x ∧ x ≤ 9223372036854775807) (hy : 0 < y ∧ y ≤ 9223372036854775807) : x < 0 ∨ wl_rem x y = x % y := by
  by_cases h : x < 0
  · exact Or.inl h
  · exact Or.inr (wl_rem_e ⟨by omega, hx.2⟩ hy)
/-- x divided by 40, n times -/
def wdv : Nat → Int → Int
  | 0, x => x
  | n + 1, x => wdv n x / 40
theorem wdv_s {x y a : Int} {m n : Nat} (h : x = wdv m a) (hn : n = m + 1) (e : y = x / 40) : y = wdv n a := by
  subst hn
  rw [e, h]
  rfl
theorem wdv_o {x y a : Int} {m n : Nat} (h : a < 0 ∨ (0 ≤ x ∧ x = wdv m a)) (hn : n = m + 1) (e : x < 0 ∨ y = x / 40) : a < 0 ∨ (0 ≤ y ∧ y = wdv n a) := by
  rcases h with h | ⟨h1, h2⟩
  · exact Or.inl h
  · rcases e with e | e
    · omega
    · exact Or.inr ⟨by rw [e]; exact Int.ediv_nonneg h1 (by decide), wdv_s h2 hn e⟩
