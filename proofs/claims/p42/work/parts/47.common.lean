/-! WHAT THE TWO OBJECTS HAVE IN COMMON between calls (own work): THE TAPE; two PARISHES of the class apart from each other; what is told, what is struck now, SPANS -/
def XI0 (T : wq_T) (H : wq_H) (x m : Nat) : Prop := ∃ (B : Nat → Int) (tc tm cu dr : Nat), H x 0 = (tc : Int) ∧ T.2.2.2 tc = some 2 ∧ TP T H tc B ∧ H m 5 = (tm : Int) ∧ T.2.2.2 tm = some 43 ∧ TM T H tm B ∧ H x 6 = (cu : Int) ∧ T.2.2.2 cu = some 27 ∧ H x 7 = (dr : Int) ∧ T.2.2.2 dr = some 27 ∧ DD T H cu ∧ DD T H dr ∧ T.2.2.2 m = some 42
def XI (T : wq_T) (H : wq_H) (x m : Nat) : Prop := ∃ (B : Nat → Int) (tc tm cu dr : Nat) (C : Nat → Bool) (e d : xD) (n : Int), H x 0 = (tc : Int) ∧ T.2.2.2 tc = some 2 ∧ TP T H tc B ∧ H m 5 = (tm : Int) ∧ T.2.2.2 tm = some 43 ∧ TM T H tm B ∧ H x 6 = (cu : Int) ∧ T.2.2.2 cu = some 27 ∧ H x 7 = (dr : Int) ∧ T.2.2.2 dr = some 27 ∧ DD T H cu ∧ DD T H dr ∧ DE T H cu ∧ DE T H dr ∧ SP T H x C ∧ C cu = true ∧ C dr = false ∧ CU T H cu e d n ∧ RB T H m e d ∧ (∀ i, i ≠ 13 → e i = d i) ∧ (∀ h : Nat, d 0 0 ≤ (h : Int) → h < 24 → e 13 h = 0) ∧ (H x 8 = 0 ∨ n = xlots d) ∧ T.2.2.2 m = some 42
def XIx (l : List (Nat × Nat)) : Bool := wno l 1 (fun j => decide (j = 0 ∨ j = 6 ∨ j = 7 ∨ j = 8)) && TPx l && wno l 42 (fun j => decide (j = 5)) && TMx l && DDx l && DEx l && SPx l && CUx l && RBx l
theorem XI_fr {T : wq_T} {H H' : wq_H} {l : List (Nat × Nat)} {x m : Nat} (hW : WT T H) (g : T.2.2.2 x = some 1) (f : wfr l T H H') (y : XIx l = true) (h : XI T H x m) : XI T H' x m := by
  unfold XIx at y
  simp only [Bool.and_eq_true] at y
  obtain ⟨⟨⟨⟨⟨⟨⟨⟨y1, y2⟩, y3⟩, y4⟩, y5⟩, y6⟩, y7⟩, y8⟩, y9⟩ := y
  obtain ⟨B, tc, tm, cu, dr, C, e, d, n, h1, h2, h3, h4, h5, h6, h7, h8, h9, h10, h11, h12, h13, h14, h15, h16, h17, h18, h19, h20, h20z, h21, h22⟩ := h
  have e8 : H' x 8 = H x 8 := wno_f f g y1 rfl
  exact ⟨B, tc, tm, cu, dr, C, e, d, n, (wno_f f g y1 rfl).trans h1, h2, TP_fr hW h2 f y2 h3, (wno_f f h22 y3 rfl).trans h4, h5, TM_fr hW h5 f y4 h6, (wno_f f g y1 rfl).trans h7, h8, (wno_f f g y1 rfl).trans h9, h10, DD_fr hW h8 f y5 h11, DD_fr hW h10 f y5 h12, DE_fr hW h8 f y6 h13, DE_fr hW h10 f y6 h14, SP_fr hW g f y7 h15, h16, h17, CU_fr hW h8 f y8 h18, RB_fr hW h22 f y9 h19, h20, h20z, by rw [e8]; exact h21, h22⟩
theorem DD_mono {T T' : wq_T} {H : wq_H} {r : Nat} (m : ∀ a t, T.2.2.2 a = some t → T'.2.2.2 a = some t) (h : DD T H r) : DD T' H r := by
  obtain ⟨pa, h1, h2, h3⟩ := h
  exact ⟨pa, h1, m _ _ h2, h3⟩
