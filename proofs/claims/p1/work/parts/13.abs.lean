/-! THE MINI MACHINE WITH UNKNOWN NUMBERS (own work): a value is known, or an int between two bounds, or some long; every branch must be decided by the bounds -/
abbrev mc_V : Type := Value ⊕ Option (Int × Int)
def mc_g (v : mc_V) (x : Value) : Prop := match v with
  | .inl y => x = y
  | .inr none => ∃ z : Int64, x = .long z
  | .inr (some r) => ∃ z : Int32, x = .int z ∧ r.1 ≤ z.toInt ∧ z.toInt ≤ r.2
def mcA_R2 {α β : Type} (R : α → β → Prop) : List α → List β → Prop
  | [], [] => True
  | a :: as, b :: bs => R a b ∧ mcA_R2 R as bs
  | _, _ => False
section R2
variable {α β : Type} {R : α → β → Prop}
theorem mcA_R2.len : ∀ {as : List α} {bs : List β}, mcA_R2 R as bs → as.length = bs.length
  | [], [], _ => rfl
  | _ :: _, _ :: _, h => congrArg (· + 1) (mcA_R2.len h.2)
  | [], _ :: _, h => h.elim
  | _ :: _, [], h => h.elim
theorem mcA_R2.at : ∀ {as : List α} {bs : List β}, mcA_R2 R as bs → ∀ {k : Nat} {a : α}, as[k]? = some a → ∃ b, bs[k]? = some b ∧ R a b
  | [], _, _, k, a, h => by simp at h
  | x :: as, y :: bs, h, 0, a, hk => by
    simp at hk
    subst hk
    exact ⟨y, rfl, h.1⟩
  | x :: as, y :: bs, h, k + 1, a, hk => by
    simp at hk
    obtain ⟨b, h1, h2⟩ := mcA_R2.at h.2 hk
    exact ⟨b, by simpa using h1, h2⟩
  | _ :: _, [], h, _, _, _ => h.elim
theorem mcA_R2.take : ∀ {as : List α} {bs : List β} (n : Nat), mcA_R2 R as bs → mcA_R2 R (as.take n) (bs.take n)
  | [], [], n, _ => by simp [mcA_R2]
  | x :: as, y :: bs, 0, _ => trivial
  | x :: as, y :: bs, n + 1, h => ⟨h.1, mcA_R2.take n h.2⟩
  | [], _ :: _, _, h => h.elim
  | _ :: _, [], _, h => h.elim
theorem mcA_R2.drop : ∀ {as : List α} {bs : List β} (n : Nat), mcA_R2 R as bs → mcA_R2 R (as.drop n) (bs.drop n)
  | [], [], n, _ => by simp [mcA_R2]
  | x :: as, y :: bs, 0, h => h
  | x :: as, y :: bs, n + 1, h => mcA_R2.drop n h.2
  | [], _ :: _, _, h => h.elim
  | _ :: _, [], _, h => h.elim
theorem mcA_R2.app : ∀ {as : List α} {bs : List β} {as' : List α} {bs' : List β}, mcA_R2 R as bs → mcA_R2 R as' bs' → mcA_R2 R (as ++ as') (bs ++ bs')
  | [], [], _, _, _, h => h
  | x :: as, y :: bs, _, _, h, h' => ⟨h.1, mcA_R2.app h.2 h'⟩
  | [], _ :: _, _, _, h, _ => h.elim
  | _ :: _, [], _, _, h, _ => h.elim
theorem mcA_R2.rev : ∀ {as : List α} {bs : List β}, mcA_R2 R as bs → mcA_R2 R as.reverse bs.reverse
  | [], [], _ => trivial
  | x :: as, y :: bs, h => by
    rw [List.reverse_cons, List.reverse_cons]
    exact mcA_R2.app (mcA_R2.rev h.2) ⟨h.1, trivial⟩
  | [], _ :: _, h => h.elim
  | _ :: _, [], h => h.elim
theorem mcA_R2.set : ∀ {as : List α} {bs : List β}, mcA_R2 R as bs → ∀ {a : α} {b : β}, R a b → ∀ k : Nat, mcA_R2 R (as.set k a) (bs.set k b)
  | [], [], _, _, _, _, k => by simp [mcA_R2]
  | x :: as, y :: bs, h, a, b, hab, 0 => ⟨hab, h.2⟩
  | x :: as, y :: bs, h, a, b, hab, k + 1 => ⟨h.1, mcA_R2.set h.2 hab k⟩
  | [], _ :: _, h, _, _, _, _ => h.elim
  | _ :: _, [], h, _, _, _, _ => h.elim
theorem mcA_R2.filt {p : α → Bool} {q : β → Bool} (hpq : ∀ a b, R a b → p a = q b) : ∀ {as : List α} {bs : List β}, mcA_R2 R as bs → mcA_R2 R (as.filter p) (bs.filter q)
  | [], [], _ => trivial
  | x :: as, y :: bs, h => by
    rw [List.filter_cons, List.filter_cons, hpq x y h.1]
    split
    · exact ⟨h.1, mcA_R2.filt hpq h.2⟩
    · exact mcA_R2.filt hpq h.2
  | [], _ :: _, h => h.elim
  | _ :: _, [], h => h.elim
theorem mcA_R2.same {f : α → Nat} {g : β → Nat} (hfg : ∀ a b, R a b → f a = g b) : ∀ {as : List α} {bs : List β}, mcA_R2 R as bs → (as.map f).sum = (bs.map g).sum
  | [], [], _ => rfl
  | x :: as, y :: bs, h => by
    rw [List.map_cons, List.map_cons, List.sum_cons, List.sum_cons, hfg x y h.1, mcA_R2.same hfg h.2]
  | [], _ :: _, h => h.elim
  | _ :: _, [], h => h.elim
theorem mcA_R2.nil {bs : List β} (h : mcA_R2 R [] bs) : bs = [] := by
  cases bs with
  | nil => rfl
  | cons => exact h.elim
theorem mcA_R2.cons {a : α} {as : List α} {bs : List β} (h : mcA_R2 R (a :: as) bs) : ∃ b bs', bs = b :: bs' ∧ R a b ∧ mcA_R2 R as bs' := by
  cases bs with
  | nil => exact h.elim
  | cons b bs => exact ⟨b, bs, rfl, h.1, h.2⟩
end R2
abbrev mcA_E : Type := (Nat × Nat × (Nat → mc_V)) ⊕ (Nat × List mc_V)
abbrev mcA_M : Type := List mcA_E
abbrev mcA_S : Type := Nat × List (Nat × mc_V) × List mc_V × mcA_M
abbrev mcA_R : Type := Option mc_V × mcA_M
abbrev mcA_O : Type := Option (mcA_S ⊕ mcA_R)
def mcA_gE (a : mcA_E) (b : mc_E) : Prop := match a, b with
  | .inl x, .inl y => x.1 = y.1 ∧ x.2.1 = y.2.1 ∧ ∀ j, mc_g (x.2.2 j) (y.2.2 j)
  | .inr x, .inr y => x.1 = y.1 ∧ mcA_R2 mc_g x.2 y.2
  | _, _ => False
def mcA_gL (a : Nat × mc_V) (b : Nat × Value) : Prop := a.1 = b.1 ∧ mc_g a.2 b.2
def mcA_gS (a : mcA_S) (b : mc_S) : Prop := a.1 = b.1 ∧ mcA_R2 mcA_gL a.2.1 b.2.1 ∧ mcA_R2 mc_g a.2.2.1 b.2.2.1 ∧ mcA_R2 mcA_gE a.2.2.2 b.2.2.2
def mcA_gO (a : Option mc_V) (b : Option Value) : Prop := match a, b with
  | none, none => True
  | some x, some y => mc_g x y
  | _, _ => False
def mcA_gR (a : mcA_R) (b : mc_R) : Prop := mcA_gO a.1 b.1 ∧ mcA_R2 mcA_gE a.2 b.2
def mcA_gX (a : mcA_S ⊕ mcA_R) (b : mc_S ⊕ mc_R) : Prop := match a, b with
  | .inl x, .inl y => mcA_gS x y
  | .inr x, .inr y => mcA_gR x y
  | _, _ => False
def mcA_cat (v : mc_V) : Nat := match v with
  | .inl x => x.category
  | .inr none => 2
  | .inr (some _) => 1
theorem mcA_cat_ok {v : mc_V} {x : Value} (h : mc_g v x) : mcA_cat v = x.category := by
  match v, h with
  | .inl y, h => cases (show x = y from h); rfl
  | .inr none, ⟨z, hz⟩ => subst hz; rfl
  | .inr (some r), ⟨z, hz, _⟩ => subst hz; rfl
def mcA_isI (v : mc_V) : Bool := match v with
  | .inl x => mc_isI x
  | .inr none => false
  | .inr (some _) => true
def mcA_isL (v : mc_V) : Bool := match v with
  | .inl x => mc_isL x
  | .inr none => true
  | .inr (some _) => false
def mcA_isA (v : mc_V) : Bool := match v with
  | .inl x => mc_isA x
  | _ => false
theorem mcA_isI_ok {v : mc_V} {x : Value} (h : mc_g v x) (hv : mcA_isI v = true) : mc_isI x = true := by
  match v, h with
  | .inl y, h => cases (show x = y from h); exact hv
  | .inr none, _ => cases hv
  | .inr (some r), ⟨z, hz, _⟩ => subst hz; rfl
theorem mcA_isL_ok {v : mc_V} {x : Value} (h : mc_g v x) (hv : mcA_isL v = true) : mc_isL x = true := by
  match v, h with
  | .inl y, h => cases (show x = y from h); exact hv
  | .inr none, ⟨z, hz⟩ => subst hz; rfl
  | .inr (some r), _ => cases hv
theorem mcA_isA_ok {v : mc_V} {x : Value} (h : mc_g v x) (hv : mcA_isA v = true) : mc_isA x = true := by
  match v, h with
  | .inl y, h => cases (show x = y from h); exact hv
  | .inr none, _ => cases hv
  | .inr (some r), _ => cases hv
/-- the bounds of an int -/
def mcA_rng (v : mc_V) : Option (Int × Int) := match v with
  | .inl (.int z) => some (z.toInt, z.toInt)
  | .inr (some r) => some r
  | _ => none
theorem mcA_rng_ok {v : mc_V} {x : Value} (h : mc_g v x) {r : Int × Int} (hr : mcA_rng v = some r) : ∃ z : Int32, x = .int z ∧ r.1 ≤ z.toInt ∧ z.toInt ≤ r.2 := by
  match v, h with
  | .inl (.int z), h =>
    cases (show x = .int z from h)
    cases hr
    exact ⟨z, rfl, Int.le_refl _, Int.le_refl _⟩
  | .inl (.long z), _ => cases hr
  | .inl (.float z), _ => cases hr
  | .inl (.double z), _ => cases hr
  | .inl .null, _ => cases hr
  | .inl (.ref z), _ => cases hr
  | .inl (.retAddr z), _ => cases hr
  | .inr none, _ => cases hr
  | .inr (some r'), h =>
    cases hr
    exact h
def mcA_top : mc_V := .inr (some (-2147483648, 2147483647))
theorem mcA_top_ok (z : Int32) : mc_g mcA_top (.int z) := ⟨z, rfl, Int32.le_toInt z, Int32.toInt_le z⟩
/-- a comparison that the bounds decide -/
def mcA_lt (x y : Int × Int) : Option Bool := if x.2 < y.1 then some true else if y.2 ≤ x.1 then some false else none
def mcA_eq (x y : Int × Int) : Option Bool := if x.1 = x.2 ∧ y.1 = y.2 ∧ x.1 = y.1 then some true else if x.2 < y.1 ∨ y.2 < x.1 then some false else none
theorem mcA_lt_ok {x y : Int × Int} {a b : Int32} {c : Bool} (ha : x.1 ≤ a.toInt ∧ a.toInt ≤ x.2) (hb : y.1 ≤ b.toInt ∧ b.toInt ≤ y.2) (h : mcA_lt x y = some c) : decide (a < b) = c := by
  unfold mcA_lt at h
  split at h
  · cases h
    exact decide_eq_true (Int32.lt_iff_toInt_lt.mpr (by omega))
  · split at h
    · cases h
      exact decide_eq_false (fun z => by have := Int32.lt_iff_toInt_lt.mp z; omega)
    · cases h
theorem mcA_eq_ok {x y : Int × Int} {a b : Int32} {c : Bool} (ha : x.1 ≤ a.toInt ∧ a.toInt ≤ x.2) (hb : y.1 ≤ b.toInt ∧ b.toInt ≤ y.2) (h : mcA_eq x y = some c) : decide (a = b) = c := by
  unfold mcA_eq at h
  split at h
  · cases h
    exact decide_eq_true (Int32.toInt_inj.mp (by omega))
  · split at h
    · cases h
      exact decide_eq_false (fun z => by subst z; omega)
    · cases h
def mcA_not (c : Option Bool) : Option Bool := c.map (fun b => !b)
def mcA_c2 (cd : ClassFile.Cond) (x y : Int × Int) : Option Bool := match cd with
  | .eq => mcA_eq x y
  | .ne => mcA_not (mcA_eq x y)
  | .lt => mcA_lt x y
  | .ge => mcA_not (mcA_lt x y)
  | .gt => mcA_lt y x
  | .le => mcA_not (mcA_lt y x)
def mc_f2 (cd : ClassFile.Cond) (x y : Int32) : Bool := match cd with
  | .eq => decide (x = y)
  | .ne => decide (¬ x = y)
  | .lt => decide (x < y)
  | .ge => decide (y ≤ x)
  | .gt => decide (y < x)
  | .le => decide (x ≤ y)
theorem mcA_c2_ok {cd : ClassFile.Cond} {x y : Int × Int} {a b : Int32} {c : Bool} (ha : x.1 ≤ a.toInt ∧ a.toInt ≤ x.2) (hb : y.1 ≤ b.toInt ∧ b.toInt ≤ y.2) (h : mcA_c2 cd x y = some c) : mc_f2 cd a b = c := by
  have hle : ∀ p q : Int32, decide (p ≤ q) = !decide (q < p) := fun p q => by
    by_cases hq : q < p
    · rw [decide_eq_true hq, decide_eq_false (fun z => by have h1 := Int32.lt_iff_toInt_lt.mp hq; have h2 := Int32.le_iff_toInt_le.mp z; omega)]
      rfl
    · rw [decide_eq_false hq, decide_eq_true (Int32.le_iff_toInt_le.mpr (by have h1 : ¬ q.toInt < p.toInt := fun z => hq (Int32.lt_iff_toInt_lt.mpr z); omega))]
      rfl
  cases cd with
  | eq => exact mcA_eq_ok ha hb h
  | ne =>
    simp only [mcA_c2, mcA_not, Option.map_eq_some_iff] at h
    obtain ⟨c', h1, rfl⟩ := h
    have := mcA_eq_ok ha hb h1
    rw [← this]
    show decide (¬ a = b) = !decide (a = b)
    rw [decide_not]
  | lt => exact mcA_lt_ok ha hb h
  | ge =>
    simp only [mcA_c2, mcA_not, Option.map_eq_some_iff] at h
    obtain ⟨c', h1, rfl⟩ := h
    have := mcA_lt_ok ha hb h1
    rw [← this]
    exact hle b a
  | gt => exact mcA_lt_ok hb ha h
  | le =>
    simp only [mcA_c2, mcA_not, Option.map_eq_some_iff] at h
    obtain ⟨c', h1, rfl⟩ := h
    have := mcA_lt_ok hb ha h1
    rw [← this]
    exact hle a b
theorem mcA_find : ∀ {LA : List (Nat × mc_V)} {L : List (Nat × Value)}, mcA_R2 mcA_gL LA L → ∀ {i : Nat} {v : mc_V}, mc_find LA i = some v → ∃ x, mc_find L i = some x ∧ mc_g v x
  | [], _, _, _, _, h => by cases h
  | a :: LA, b :: L, hR, i, v, h => by
    unfold mc_find at h ⊢
    rw [← hR.1.1]
    split at h
    · next e =>
      cases h
      rw [if_pos e]
      exact ⟨_, rfl, hR.1.2⟩
    · next e =>
      rw [if_neg e]
      exact mcA_find hR.2 h
  | _ :: _, [], hR, _, _, _ => hR.elim
def mcA_s1 (L : List (Nat × mc_V)) (i : Nat) (v : mc_V) : List (Nat × mc_V) := (i, v) :: L.filter (fun q => !(q.1 == i) && !(q.1 + 1 == i && mcA_cat q.2 == 2))
def mcA_s2 (L : List (Nat × mc_V)) (i : Nat) (v : mc_V) : List (Nat × mc_V) := (i, v) :: L.filter (fun q => !(q.1 == i) && (!(q.1 == i + 1) && !(q.1 + 1 == i && mcA_cat q.2 == 2)))
theorem mcA_s1_ok {LA : List (Nat × mc_V)} {L : List (Nat × Value)} (h : mcA_R2 mcA_gL LA L) (i : Nat) {v : mc_V} {x : Value} (hv : mc_g v x) : mcA_R2 mcA_gL (mcA_s1 LA i v) (mc_s1 L i x) :=
  ⟨⟨rfl, hv⟩, h.filt (fun a b hab => by rw [hab.1, mcA_cat_ok hab.2])⟩
theorem mcA_s2_ok {LA : List (Nat × mc_V)} {L : List (Nat × Value)} (h : mcA_R2 mcA_gL LA L) (i : Nat) {v : mc_V} {x : Value} (hv : mc_g v x) : mcA_R2 mcA_gL (mcA_s2 LA i v) (mc_s2 L i x) :=
  ⟨⟨rfl, hv⟩, h.filt (fun a b hab => by rw [hab.1, mcA_cat_ok hab.2])⟩
def mcA_args : Nat → List mc_V → List (Nat × mc_V)
  | _, [] => []
  | i, v :: vs => (i, v) :: mcA_args (if mcA_cat v = 2 then i + 2 else i + 1) vs
theorem mcA_args_ok : ∀ {vs : List mc_V} {xs : List Value}, mcA_R2 mc_g vs xs → ∀ i : Nat, mcA_R2 mcA_gL (mcA_args i vs) (lv_args i xs)
  | [], [], _, _ => trivial
  | v :: vs, x :: xs, h, i => by
    unfold mcA_args lv_args
    rw [mcA_cat_ok h.1]
    exact ⟨⟨rfl, h.1⟩, mcA_args_ok h.2 _⟩
  | [], _ :: _, h, _ => h.elim
  | _ :: _, [], h, _ => h.elim
theorem mc_sl_sum : ∀ xs : List Value, (lg_sl xs).length = (xs.map Value.category).sum
  | [] => rfl
  | x :: xs => by
    have h := mc_sl_sum xs
    simp only [lg_sl, List.flatMap_cons, List.length_append, List.map_cons, List.sum_cons] at h ⊢
    rw [h]
    congr 1
    rcases lv_cat x with hx | hx <;> rw [hx] <;> simp
theorem mcA_at {MA : mcA_M} {M : mc_M} (h : mcA_R2 mcA_gE MA M) {k : Nat} {q : Nat × List mc_V} (hk : MA[k]? = some (.inr q)) : ∃ z : Nat × List Value, M[k]? = some (.inr z) ∧ q.1 = z.1 ∧ mcA_R2 mc_g q.2 z.2 := by
  obtain ⟨b, h1, h2⟩ := h.at hk
  match b, h2 with
  | .inr z, h2 => exact ⟨z, h1, h2⟩
  | .inl z, h2 => exact h2.elim
theorem mcA_atA {MA : mcA_M} {M : mc_M} (h : mcA_R2 mcA_gE MA M) {k : Nat} {q : Nat × Nat × (Nat → mc_V)} (hk : MA[k]? = some (.inl q)) : ∃ z : Nat × Nat × (Nat → Value), M[k]? = some (.inl z) ∧ q.1 = z.1 ∧ q.2.1 = z.2.1 ∧ ∀ j, mc_g (q.2.2 j) (z.2.2 j) := by
  obtain ⟨b, h1, h2⟩ := h.at hk
  match b, h2 with
  | .inl z, h2 => exact ⟨z, h1, h2⟩
  | .inr z, h2 => exact h2.elim
