/-! WHAT IS HELD (own work): rows by people and SPANS, six apart from each other; the least and the greatest STRIKES of an HOUR -/
def HDr (S tA tR : Nat) (T : wq_T) (H : wq_H) (ce : Nat) : Prop := ∃ a : Nat, H ce S = (a : Int) ∧ T.2.2.2 a = some tA ∧ ∀ p q : Nat, p < 6 → q < 6 → p ≠ q → H a p ≠ H a q
def HDR (T : wq_T) (H : wq_H) (ce : Nat) : Prop := HDr 1 14 15 T H ce ∧ HDr 2 16 17 T H ce
def HV (S : Nat) (T : wq_T) (H : wq_H) (ce : Nat) (c : Int) (v : Nat → Nat → Int) : Prop := ∀ a r p i : Nat, H ce S = (a : Int) → (p : Int) < c → p < 6 → i < 40 → H a p = (r : Int) → H r i = v p i
abbrev HV1 := HV 1
abbrev HV2 := HV 2
def HV1x (l : List (Nat × Nat)) : Bool := wno l 12 (fun j => decide (j = 1)) && wno l 14 (fun _ => true) && wno l 15 (fun _ => true)
def HV2x (l : List (Nat × Nat)) : Bool := wno l 12 (fun j => decide (j = 2)) && wno l 16 (fun _ => true) && wno l 17 (fun _ => true)
def LDu (S tg : Nat) (m : Bool) (T : wq_T) (H : wq_H) (ce : Nat) (e d : xD) (N u : Nat) : Prop := ∃ b : Nat, H ce S = (b : Int) ∧ T.2.2.2 b = some tg ∧ ∀ h : Nat, h < 24 → e 13 h > 0 → (h < u ∨ 0 < xcn (xwf e d) N) → H b h = if h < u then xtr m (xwf e d) (fun n => ((xdue d (xlot d n) h : Nat) : Int)) (N + 1) else xtr m (xwf e d) (fun n => ((xdue d (xlot d n) h : Nat) : Int)) N
abbrev LD3 := LDu 3 18 false
abbrev LD4 := LDu 4 19 true
def LD3x (l : List (Nat × Nat)) : Bool := wno l 12 (fun j => decide (j = 3)) && wno l 18 (fun _ => true)
def LD4x (l : List (Nat × Nat)) : Bool := wno l 12 (fun j => decide (j = 4)) && wno l 19 (fun _ => true)
/-- all that is held of the first LOTS -/
def CEX (T : wq_T) (H : wq_H) (ce : Nat) (e d : xD) (N : Nat) : Prop := HV1 T H ce (d 0 3) (fun p i => xhc e d p i N) ∧ HV2 T H ce (d 0 3) (fun p i => xhw e d p i N) ∧ LD3 T H ce e d N 0 ∧ LD4 T H ce e d N 0
def CEXx (l : List (Nat × Nat)) : Bool := HV1x l && HV2x l && LD3x l && LD4x l
section HELD

variable {T T' : wq_T} {H H' : wq_H} {l : List (Nat × Nat)} {ce a r k p0 b h9 u N S tA tR tg : Nat} {e d : xD} {v v' : Nat → Nat → Int} {c x y : Int} {m : Bool}
theorem HV_fr (hW : WT T H) (g : T.2.2.2 ce = some 12) (f : wfr l T H H') (hS : S < 10) (t1 : wty 12 S = (2, 0, 0, tA)) (hn : (wsh tA).2 = 6) (t2 : ∀ j, wty tA j = (2, 0, 0, tR)) (x1 : wno l 12 (fun j => decide (j = S)) = true) (x2 : wno l tA (fun _ => true) = true) (x3 : wno l tR (fun _ => true) = true) (h : HV S T H ce c v) : HV S T H' ce c v := fun a r p i ha hp h6 hi hr => by
  obtain ⟨a', q1, q2⟩ := hW.ref g (t' := tA) (n := 10) (j := S) rfl hS t1
  have e1 : H' ce S = H ce S := wno_f f g x1 (by simp)
  have ea : a' = a := by omega
  subst ea
  obtain ⟨r', q3, q4⟩ := hW.ref q2 (t' := tR) (n := 6) (j := p) hn h6 (t2 p)
  have e2 : H' a' p = H a' p := wno_f f q2 x2 rfl
  have er : r' = r := by omega
  subst er
  exact (wno_f f q4 x3 rfl).trans (h a' r' p i q1 hp h6 hi q3)
theorem HV1_fr (hW : WT T H) (g : T.2.2.2 ce = some 12) (f : wfr l T H H') (x : HV1x l = true) (h : HV1 T H ce c v) : HV1 T H' ce c v := by
  unfold HV1x at x
  simp only [Bool.and_eq_true] at x
  exact HV_fr hW g f (by decide) (tA := 14) (tR := 15) rfl rfl (fun _ => rfl) x.1.1 x.1.2 x.2 h
theorem HV2_fr (hW : WT T H) (g : T.2.2.2 ce = some 12) (f : wfr l T H H') (x : HV2x l = true) (h : HV2 T H ce c v) : HV2 T H' ce c v := by
  unfold HV2x at x
  simp only [Bool.and_eq_true] at x
  exact HV_fr hW g f (by decide) (tA := 16) (tR := 17) rfl rfl (fun _ => rfl) x.1.1 x.1.2 x.2 h
theorem LDu_fr (g : T.2.2.2 ce = some 12) (f : wfr l T H H') (x1 : wno l 12 (fun j => decide (j = S)) = true) (x2 : wno l tg (fun _ => true) = true) (h : LDu S tg m T H ce e d N u) : LDu S tg m T H' ce e d N u := by
  obtain ⟨b, h1, h2, h3⟩ := h
  refine ⟨b, (wno_f f g x1 (by simp)).trans h1, h2, fun h hh he hu => ?_⟩
  rw [wno_f f h2 x2 rfl]
  exact h3 h hh he hu
theorem LD3_fr (hW : WT T H) (g : T.2.2.2 ce = some 12) (f : wfr l T H H') (x : LD3x l = true) (h : LD3 T H ce e d N u) : LD3 T H' ce e d N u := by
  unfold LD3x at x
  simp only [Bool.and_eq_true] at x
  exact LDu_fr g f x.1 x.2 h
theorem LD4_fr (hW : WT T H) (g : T.2.2.2 ce = some 12) (f : wfr l T H H') (x : LD4x l = true) (h : LD4 T H ce e d N u) : LD4 T H' ce e d N u := by
  unfold LD4x at x
  simp only [Bool.and_eq_true] at x
  exact LDu_fr g f x.1 x.2 h
theorem CEX_fr (hW : WT T H) (g : T.2.2.2 ce = some 12) (f : wfr l T H H') (x : CEXx l = true) (h : CEX T H ce e d N) : CEX T H' ce e d N := by
  unfold CEXx at x
  simp only [Bool.and_eq_true] at x
  exact ⟨HV1_fr hW g f x.1.1.1 h.1, HV2_fr hW g f x.1.1.2 h.2.1, LD3_fr hW g f x.1.2 h.2.2.1, LD4_fr hW g f x.2 h.2.2.2⟩
end HELD
