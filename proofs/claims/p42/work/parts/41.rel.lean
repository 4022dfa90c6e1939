/-! RELATIONS (own work): a tape's bytes, a token that stands -/
def TP (T : wq_T) (H : wq_H) (rb : Nat) (B : Nat → Int) : Prop := ∀ j, j < 900 → H rb j = B j
def TC (T : wq_T) (H : wq_H) (tk : Nat) (B : Nat → Int) (n q : Int) : Prop := (∃ rb : Nat, H tk 0 = (rb : Int) ∧ T.2.2.2 rb = some 2 ∧ TP T H rb B) ∧ H tk 1 = n ∧ 0 ≤ q ∧ q ≤ n ∧ n ≤ 900 ∧ H tk 2 = xE B n q ∧ H tk 3 = xK B n q ∧ H tk 4 = q ∧ (xK B n q = 2 → H tk 5 = xV B n q) ∧ (xK B n q = 1 → H tk 6 = xY B n q)
def TPx (l : List (Nat × Nat)) : Bool := l.all (fun q => !(q.1 == 2))
def TCx (l : List (Nat × Nat)) : Bool := l.all (fun q => !(q.1 == 4) && !(q.1 == 2))
section TREL

variable {T : wq_T} {H H' : wq_H} {l : List (Nat × Nat)} {tk rb : Nat} {B : Nat → Int} {n q : Int}
theorem TP_fr (hW : WT T H) (g : T.2.2.2 rb = some 2) (f : wfr l T H H') (x : TPx l = true) (h : TP T H rb B) : TP T H' rb B := fun j hj => by
  rw [f.fn g x]
  exact h j hj
theorem wall_1 {l : List (Nat × Nat)} {p r : Nat × Nat → Bool} (x : l.all (fun q => p q && r q) = true) : l.all p = true ∧ l.all r = true := by
  constructor <;> refine List.all_eq_true.mpr (fun q hq => ?_) <;> have := List.all_eq_true.mp x q hq <;> simp only [Bool.and_eq_true] at this
  · exact this.1
  · exact this.2
theorem TC_fr (hW : WT T H) (g : T.2.2.2 tk = some 4) (f : wfr l T H H') (x : TCx l = true) (h : TC T H tk B n q) : TC T H' tk B n q := by
  obtain ⟨⟨rb, h1, h2, h3⟩, h4⟩ := h
  obtain ⟨x1, x2⟩ := wall_1 x
  have e := f.fn g x1
  refine ⟨⟨rb, by rw [e]; exact h1, h2, TP_fr hW h2 f x2 h3⟩, ?_⟩
  rw [e]
  exact h4
theorem TC_tp (h : TC T H tk B n q) (e : H tk 0 = (rb : Int)) : TP T H rb B := by
  obtain ⟨⟨r, h1, -, h3⟩, -⟩ := h
  have : r = rb := by omega
  subst this
  exact h3
theorem TC_k (h : TC T H tk B n q) : H tk 1 = n ∧ 0 ≤ q ∧ q ≤ n ∧ n ≤ 900 ∧ H tk 2 = xE B n q ∧ H tk 3 = xK B n q ∧ H tk 4 = q ∧ q ≤ xN B n q ∧ xE B n q ≤ n := by
  obtain ⟨-, h1, h2, h3, h4, h5, h6, h7, h8, h9⟩ := h
  have := @xN_b B n q h2 h3
  have := @xE_b B n q h2 h3
  exact ⟨h1, h2, h3, h4, h5, h6, h7, by omega, by omega⟩
theorem TC_i (h : TC T H tk B n q) : (xK B n q ≠ 2 ∨ (H tk 5 = xV B n q ∧ 0 ≤ xV B n q ∧ xV B n q ≤ 999)) ∧ (xK B n q ≠ 1 ∨ H tk 6 = xY B n q) := by
  obtain ⟨-, h1, h2, h3, h4, h5, h6, h7, h8, h9⟩ := h
  refine ⟨?_, ?_⟩
  · by_cases e : xK B n q = 2
    · exact Or.inr ⟨h8 e, xV_b e⟩
    · exact Or.inl e
  · by_cases e : xK B n q = 1
    · exact Or.inr (h9 e)
    · exact Or.inl e
theorem TC_e (h : TC T H tk B n q) : (xK B n q = 0 ∧ q = n) ∨ (xK B n q ≠ 0 ∧ q < n ∧ q < xN B n q) := by
  obtain ⟨-, h1, h2, h3, h4, -⟩ := h
  have := @xN_b B n q h2 h3
  have := @xK_0 B n q h2 h3
  omega
theorem TC_mk (g0 : H tk 0 = (rb : Int)) (gt : T.2.2.2 rb = some 2) (tp : TP T H rb B) (h : H tk 1 = n ∧ 0 ≤ q ∧ q ≤ n ∧ n ≤ 900 ∧ H tk 2 = xE B n q ∧ H tk 3 = xK B n q ∧ H tk 4 = q) (hv : xK B n q = 2 → H tk 5 = xV B n q) (hy : xK B n q = 1 → H tk 6 = xY B n q) : TC T H tk B n q := ⟨⟨rb, g0, gt, tp⟩, h.1, h.2.1, h.2.2.1, h.2.2.2.1, h.2.2.2.2.1, h.2.2.2.2.2.1, h.2.2.2.2.2.2, hv, hy⟩
end TREL
