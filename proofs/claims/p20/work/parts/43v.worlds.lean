/-! WORLDS (own work): which LOTS are, how many -/
/-- what is counted of the first LOTS -/
def CEB (T : wq_T) (H : wq_H) (ce : Nat) (e d : xD) (N : Nat) : Prop := H ce 5 = xcn (xwf e d) N ∧ H ce 6 = xsW e d N ∧ H ce 8 = (xbW e d N).1 ∧ H ce 7 = (xbW e d N).2 ∧ CEM T H ce (xwf e d) N
def CEN (T : wq_T) (H : wq_H) (ce : Nat) (e d : xD) : Prop := H ce 9 = 0 ∨ (xlots d ≤ 20000 ∧ CEB T H ce e d (xlots d).toNat ∧ CEX T H ce e d (xlots d).toNat)
def CEBx (l : List (Nat × Nat)) : Bool := wno l 12 (fun j => decide (j = 0 ∨ j = 5 ∨ j = 6 ∨ j = 7 ∨ j = 8)) && wno l 13 (fun _ => true)
def CENx (l : List (Nat × Nat)) : Bool := CEBx l && wno l 12 (fun j => decide (j = 9)) && CEXx l
/-- the reference's list of WORLDS -/
def KL (T : wq_T) (H : wq_H) (m : Nat) (f : Nat → Int) (N : Nat) : Prop := ∃ b : Nat, H m 30 = (b : Int) ∧ T.2.2.2 b = some 52 ∧ ∀ n : Nat, n < N → f n > 0 → H b (xcn f n).toNat = n
def KLx (l : List (Nat × Nat)) : Bool := wno l 42 (fun j => decide (j = 30)) && wno l 52 (fun _ => true)
def KNB (T : wq_T) (H : wq_H) (m : Nat) (e d : xD) (N : Nat) : Prop := H m 29 = xcn (xwf e d) N ∧ KL T H m (xwf e d) N
def KNN (T : wq_T) (H : wq_H) (m : Nat) (e d : xD) : Prop := H m 28 = 0 ∨ (xlots d ≤ 20000 ∧ KNB T H m e d (xlots d).toNat)
def KNBx (l : List (Nat × Nat)) : Bool := wno l 42 (fun j => decide (j = 29)) && KLx l
def KNNx (l : List (Nat × Nat)) : Bool := wno l 42 (fun j => decide (j = 28)) && KNBx l
/-- a WALK on a LOT, if there is one -/
def WRc (T : wq_T) (H : wq_H) (w : Nat) (d : xD) (g : Nat → Int) : Prop := xlots d = 0 ∨ WR T H w d g
section WORLD

variable {T T' : wq_T} {H H' : wq_H} {l : List (Nat × Nat)} {ce m w n : Nat} {e d : xD} {g : Nat → Int} {N : Nat} {v : Int}
theorem CEB_fr (hW : WT T H) (g : T.2.2.2 ce = some 12) (f : wfr l T H H') (x : CEBx l = true) (h : CEB T H ce e d N) : CEB T H' ce e d N := by
  unfold CEBx at x
  rw [Bool.and_eq_true] at x
  obtain ⟨h1, h2, h3, h4, h5⟩ := h
  exact ⟨(wno_f f g x.1 (j := 5) rfl).trans h1, (wno_f f g x.1 (j := 6) rfl).trans h2, (wno_f f g x.1 (j := 8) rfl).trans h3, (wno_f f g x.1 (j := 7) rfl).trans h4, CEM_fr hW g f (by unfold CEMx; rw [Bool.and_eq_true]; exact ⟨wno_le x.1 (fun j hj => decide_eq_true (Or.inl (of_decide_eq_true hj))), x.2⟩) h5⟩
theorem CEN_fr (hW : WT T H) (g : T.2.2.2 ce = some 12) (f : wfr l T H H') (x : CENx l = true) (h : CEN T H ce e d) : CEN T H' ce e d := by
  unfold CENx at x
  rw [Bool.and_eq_true, Bool.and_eq_true] at x
  rcases h with h | ⟨h1, h2, h3⟩
  · exact Or.inl ((wno_f f g x.1.2 (j := 9) rfl).trans h)
  · exact Or.inr ⟨h1, CEB_fr hW g f x.1.1 h2, CEX_fr hW g f x.2 h3⟩
theorem KL_fr {f : Nat → Int} (hW : WT T H) (g : T.2.2.2 m = some 42) (f0 : wfr l T H H') (x : KLx l = true) (h : KL T H m f N) : KL T H' m f N := by
  unfold KLx at x
  rw [Bool.and_eq_true] at x
  obtain ⟨b, h1, h2, h3⟩ := h
  exact ⟨b, (wno_f f0 g x.1 (j := 30) rfl).trans h1, h2, fun n hn hf => (wno_f f0 h2 x.2 rfl).trans (h3 n hn hf)⟩
theorem KNB_fr (hW : WT T H) (g : T.2.2.2 m = some 42) (f : wfr l T H H') (x : KNBx l = true) (h : KNB T H m e d N) : KNB T H' m e d N := by
  unfold KNBx at x
  rw [Bool.and_eq_true] at x
  exact ⟨(wno_f f g x.1 (j := 29) rfl).trans h.1, KL_fr hW g f x.2 h.2⟩
theorem KNN_fr (hW : WT T H) (g : T.2.2.2 m = some 42) (f : wfr l T H H') (x : KNNx l = true) (h : KNN T H m e d) : KNN T H' m e d := by
  unfold KNNx at x
  rw [Bool.and_eq_true] at x
  rcases h with h | ⟨h1, h2⟩
  · exact Or.inl ((wno_f f g x.1 (j := 28) rfl).trans h)
  · exact Or.inr ⟨h1, KNB_fr hW g f x.2 h2⟩
theorem KL_0 {f : Nat → Int} (hW : WT T H) (g : T.2.2.2 m = some 42) : KL T H m f 0 := by
  obtain ⟨b, h1, h2⟩ := hW.ref g (t' := 52) (n := 33) (j := 30) (p := 0) (q := 0) rfl (by decide) rfl
  exact ⟨b, h1, h2, fun n hn _ => by omega⟩
theorem KL_put {f : Nat → Int} {b s : Nat} (h : KL T H m f N) (e0 : H m 30 = (b : Int)) (gm : T.2.2.2 m = some 42) (gb : T.2.2.2 b = some 52) (e : H' = wq_u H b s v) (hs : (s : Int) = xcn f N) (hv : v = N) (hf : f N > 0) : KL T H' m f (N + 1) := by
  obtain ⟨b', h1, h2, h3⟩ := h
  have hb : b' = b := by omega
  subst hb
  refine ⟨b', ?_, h2, fun n hn hp => ?_⟩
  · rw [e, wq_u_na (fun q => ?_)]
    · exact h1
    · subst q
      rw [gm] at gb
      cases gb
  · have hx := xcn_b (f := f) n
    by_cases c : n = N
    · subst c
      rw [e, show (xcn f n).toNat = s by omega, wq_u_eq]
      exact hv
    · have h4 := xcn_lt (f := f) (show n < N by omega) hp
      rw [e, wq_u_ne (fun q => by omega)]
      exact h3 n (by omega) hp
theorem KL_n {f : Nat → Int} (hf : f N ≤ 0) (h : KL T H m f N) : KL T H m f (N + 1) := by
  obtain ⟨b, h1, h2, h3⟩ := h
  exact ⟨b, h1, h2, fun n hn hp => h3 n (Nat.lt_of_le_of_ne (by omega) (fun q => by rw [q] at hp; omega)) hp⟩
theorem KL_at {f : Nat → Int} {b n s : Nat} (h : KL T H m f N) (e0 : H m 30 = (b : Int)) (hn : n < N) (hp : f n > 0) (hs : (s : Int) = xcn f n) : H b s = n := by
  obtain ⟨b', h1, -, h3⟩ := h
  have : b' = b := by omega
  subst this
  have := h3 n hn hp
  rw [show (xcn f n).toNat = s by omega] at this
  exact this
theorem WRc_at (h : WRc T H w d g) (hl : xlots d ≠ 0) : WR T H w d g := h.resolve_left hl
theorem CEN_9 (h : CEN T H ce e d) (q : H ce 9 ≠ 0) : xlots d ≤ 20000 ∧ CEB T H ce e d (xlots d).toNat ∧ CEX T H ce e d (xlots d).toNat := h.resolve_left q
theorem KNN_28 (h : KNN T H m e d) (q : H m 28 ≠ 0) : xlots d ≤ 20000 ∧ KNB T H m e d (xlots d).toNat := h.resolve_left q
theorem CEB_n (h0 : 0 ≤ v) (hz : xwo e d (xlot d v) = 0) (h : CEB T H ce e d v.toNat) : CEB T H ce e d (v + 1).toNat := by
  obtain ⟨h1, h2, h3, h4, h5⟩ := h
  have hf : xwf e d v.toNat ≤ 0 := by
    rw [xwf_v h0, hz]
    exact Int.le_refl _
  have hc := xcw_s (e := e) (d := d) h0
  refine ⟨by omega, ?_, ?_, ?_, ?_⟩
  · rw [show (v + 1).toNat = v.toNat + 1 by omega, xsW_n hf]
    exact h2
  · rw [show (v + 1).toNat = v.toNat + 1 by omega, xbW_n hf]
    exact h3
  · rw [show (v + 1).toNat = v.toNat + 1 by omega, xbW_n hf]
    exact h4
  · rw [show (v + 1).toNat = v.toNat + 1 by omega]
    exact CEM_n hf h5
theorem CEN_new (h9 : H ce 9 = 0) : CEN T H ce e d := Or.inl h9
theorem KNN_new (h9 : H m 28 = 0) : KNN T H m e d := Or.inl h9
theorem CEN_mono (mo : ∀ a t, T.2.2.2 a = some t → T'.2.2.2 a = some t) (h : CEN T H ce e d) : CEN T' H ce e d := by
  rcases h with h | ⟨h1, ⟨h2, h3, h4, h5, b, h6, h7, h8⟩, h9⟩
  · exact Or.inl h
  · exact Or.inr ⟨h1, ⟨h2, h3, h4, h5, b, h6, mo _ _ h7, h8⟩, CEX_mono mo h9⟩
theorem KNN_mono (mo : ∀ a t, T.2.2.2 a = some t → T'.2.2.2 a = some t) (em : ∀ j, (j = 28 ∨ j = 29 ∨ j = 30) → H' m j = H m j) (ho : ∀ a t, T.2.2.2 a = some t → 44 ≤ t → t ≤ 53 → H' a = H a) (h : KNN T H m e d) : KNN T' H' m e d := by
  rcases h with h | ⟨h1, h2, b, h3, h4, h5⟩
  · exact Or.inl ((em 28 (by omega)).trans h)
  · exact Or.inr ⟨h1, (em 29 (by omega)).trans h2, b, (em 30 (by omega)).trans h3, mo _ _ h4, fun n hn hp => by rw [ho b 52 h4 (by decide) (by decide)]; exact h5 n hn hp⟩
end WORLD
section ITH

variable {f : Nat → Int} {i : Int} {n N : Nat}
end ITH
