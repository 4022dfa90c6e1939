/-! RELATIONS (own work): a tape's bytes, a token that stands -/
def TP (T : wq_T) (H : wq_H) (rb : Nat) (B : Nat → Int) : Prop := ∀ j, j < 900 → H rb j = B j
def TC (T : wq_T) (H : wq_H) (tk : Nat) (B : Nat → Int) (n q : Int) : Prop := (∃ rb : Nat, H tk 0 = (rb : Int) ∧ T.2.2.2 rb = some 2 ∧ TP T H rb B) ∧ H tk 1 = n ∧ 0 ≤ q ∧ q ≤ n ∧ n ≤ 900 ∧ H tk 2 = xE B n q ∧ H tk 3 = xK B n q ∧ H tk 4 = q ∧ (xK B n q = 2 → H tk 5 = xV B n q) ∧ (xK B n q = 1 → H tk 6 = xY B n q)
def TPx (l : List (Nat × Nat)) : Bool := l.all (fun q => !(q.1 == 2))
section TREL

variable {T : wq_T} {H H' : wq_H} {l : List (Nat × Nat)} {tk rb : Nat} {B : Nat → Int} {n q : Int}
theorem TP_fr (hW : WT T H) (g : T.2.2.2 rb = some 2) (f : wfr l T H H') (x : TPx l = true) (h : TP T H rb B) : TP T H' rb B := fun j hj => by
  rw [f.fn g x]
  exact h j hj
theorem TC_mk (g0 : H tk 0 = (rb : Int)) (gt : T.2.2.2 rb = some 2) (tp : TP T H rb B) (h : H tk 1 = n ∧ 0 ≤ q ∧ q ≤ n ∧ n ≤ 900 ∧ H tk 2 = xE B n q ∧ H tk 3 = xK B n q ∧ H tk 4 = q) (hv : xK B n q = 2 → H tk 5 = xV B n q) (hy : xK B n q = 1 → H tk 6 = xY B n q) : TC T H tk B n q := ⟨⟨rb, g0, gt, tp⟩, h.1, h.2.1, h.2.2.1, h.2.2.2.1, h.2.2.2.2.1, h.2.2.2.2.2.1, h.2.2.2.2.2.2, hv, hy⟩
end TREL
