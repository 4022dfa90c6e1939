/-! WORLDS (own work): which LOTS are, how many -/
/-- what is counted of the first LOTS -/
def CEB (T : wq_T) (H : wq_H) (ce : Nat) (e d : xD) (N : Nat) : Prop := H ce 5 = xcn (xwf e d) N ∧ H ce 6 = xsW e d N ∧ H ce 8 = (xbW e d N).1 ∧ H ce 7 = (xbW e d N).2 ∧ CEM T H ce (xwf e d) N
def CEN (T : wq_T) (H : wq_H) (ce : Nat) (e d : xD) : Prop := H ce 9 = 0 ∨ (xlots d ≤ 20000 ∧ CEB T H ce e d (xlots d).toNat ∧ CEX T H ce e d (xlots d).toNat)
def CEBx (l : List (Nat × Nat)) : Bool := wno l 12 (fun j => decide (j = 0 ∨ j = 5 ∨ j = 6 ∨ j = 7 ∨ j = 8)) && wno l 13 (fun _ => true)
def CENx (l : List (Nat × Nat)) : Bool := CEBx l && wno l 12 (fun j => decide (j = 9)) && CEXx l
/-- the reference's list of WORLDS -/
def KL (T : wq_T) (H : wq_H) (m : Nat) (f : Nat → Int) (N : Nat) : Prop := ∃ b : Nat, H m 30 = (b : Int) ∧ T.2.2.2 b = some 52 ∧ ∀ n : Nat, n < N → f n > 0 → H b (xcn f n).toNat = n
def KLx (l : List (Nat × Nat)) : Bool := wno l 42 (fun j => decide (j = 30)) && wno l 52 (fun _ => true)
def KNB (T : wq_T) (H : wq_H) (m : Nat) (e d : xD) (N : Nat) : Prop := H m 29 = xcn (xwf e d) N ∧ KL T H m (xwf e d) N
def KNN (T : wq_T) (H : wq_H) (m : Nat) (e d : xD) : Prop := H m 28 = 0 ∨ (xlots d ≤ 20000 ∧ KNB T H m e d (xlots d).toNat)
def KNBx (l : List (Nat × Nat)) : Bool := wno l 42 (fun j => decide (j = 29)) && KLx l
def KNNx (l : List (Nat × Nat)) : Bool := wno l 42 (fun j => decide (j = 28)) && KNBx l
/-- a WALK on a LOT, if there is one -/
def WRc (T : wq_T) (H : wq_H) (w : Nat) (d : xD) (g : Nat → Int) : Prop := xlots d = 0 ∨ WR T H w d g
section WORLD

variable {T T' : wq_T} {H H' : wq_H} {l : List (Nat × Nat)} {ce m w n : Nat} {e d : xD} {g : Nat → Int} {N : Nat} {v : Int}
theorem CEB_fr (hW : WT T H) (g : T.2.2.2 ce = some 12) (f : wfr l T H H') (x : CEBx l = true) (h : CEB T H ce e d N) : CEB T H' ce e d N := by
  unfold CEBx at x
  rw [Bool.and_eq_true] at x
  obtain ⟨h1, h2, h3, h4, h5⟩ := h
  exact ⟨(wno_f f g x.1 (j := 5) rfl).trans h1, (wno_f f g x.1 (j := 6) rfl).trans h2, (wno_f f g x.1 (j := 8) rfl).trans h3, (wno_f f g x.1 (j := 7) rfl).trans h4, CEM_fr hW g f (by unfold CEMx; rw [Bool.and_eq_true]; exact ⟨wno_le x.1 (fun j hj => decide_eq_true (Or.inl (of_decide_eq_true hj))), x.2⟩) h5⟩
theorem CEN_fr (hW : WT T H) (g : T.2.2.2 ce = some 12) (f : wfr l T H H') (x : CENx l = true) (h : CEN T H ce e d) : CEN T H' ce e d := by
  unfold CENx at x
  rw [Bool.and_eq_true, Bool.and_eq_true] at x
  rcases h with h | ⟨h1, h2, h3⟩
  · exact Or.inl ((wno_f f g x.1.2 (j := 9) rfl).trans h)
  · exact Or.inr ⟨h1, CEB_fr hW g f x.1.1 h2, CEX_fr hW g f x.2 h3⟩
theorem KL_fr {f : Nat → Int} (hW : WT T H) (g : T.2.2.2 m = some 42) (f0 : wfr l T H H') (x : KLx l = true) (h : KL T H m f N) : KL T H' m f N := by
  unfold KLx at x
  rw [Bool.and_eq_true] at x
  obtain ⟨b, h1, h2, h3⟩ := h
  exact ⟨b, (wno_f f0 g x.1 (j := 30) rfl).trans h1, h2, fun n hn hf => (wno_f f0 h2 x.2 rfl).trans (h3 n hn hf)⟩
theorem KNB_fr (hW : WT T H) (g : T.2.2.2 m = some 42) (f : wfr l T H H') (x : KNBx l = true) (h : KNB T H m e d N) : KNB T H' m e d N := by
  unfold KNBx at x
  rw [Bool.and_eq_true] at x
  exact ⟨(wno_f f g x.1 (j := 29) rfl).trans h.1, KL_fr hW g f x.2 h.2⟩
theorem KNN_fr (hW : WT T H) (g : T.2.2.2 m = some 42) (f : wfr l T H H') (x : KNNx l = true) (h : KNN T H m e d) : KNN T H' m e d := by
  unfold KNNx at x
  rw [Bool.and_eq_true] at x
  rcases h with h | ⟨h1, h2⟩
  · exact Or.inl ((wno_f f g x.1 (j := 28) rfl).trans h)
  · exact Or.inr ⟨h1, KNB_fr hW g f x.2 h2⟩
theorem KL_at {f : Nat → Int} {b n s : Nat} (h : KL T H m f N) (e0 : H m 30 = (b : Int)) (hn : n < N) (hp : f n > 0) (hs : (s : Int) = xcn f n) : H b s = n := by
  obtain ⟨b', h1, -, h3⟩ := h
  have : b' = b := by omega
  subst this
  have := h3 n hn hp
  rw [show (xcn f n).toNat = s by omega] at this
  exact this
theorem WRc_at (h : WRc T H w d g) (hl : xlots d ≠ 0) : WR T H w d g := h.resolve_left hl
end WORLD
/-! the i-th WORLD -/
def xith (f : Nat → Int) (i : Int) : Nat → Nat
  | 0 => 0
  | N + 1 => if xcn f N = i ∧ f N > 0 then N else xith f i N
section ITH

variable {f : Nat → Int} {i : Int} {n N : Nat}
theorem xith_e (hp : f n > 0) (hi : xcn f n = i) : ∀ N : Nat, n < N → xith f i N = n
  | 0, h => by omega
  | N + 1, h => by
    show (if xcn f N = i ∧ f N > 0 then N else xith f i N) = n
    by_cases c : n = N
    · subst c
      exact if_pos ⟨hi, hp⟩
    · have h1 := xcn_lt (f := f) (show n < N by omega) hp
      rw [if_neg (fun q => by omega)]
      exact xith_e hp hi N (by omega)
theorem xith_ex : ∀ N : Nat, 0 ≤ i → i < xcn f N → f (xith f i N) > 0 ∧ xcn f (xith f i N) = i ∧ xith f i N < N
  | 0, h0, h => by
    have : xcn f 0 = 0 := rfl
    omega
  | N + 1, h0, h => by
    have e : xith f i (N + 1) = if xcn f N = i ∧ f N > 0 then N else xith f i N := rfl
    have h1 : xcn f (N + 1) = xcn f N + (if f N > 0 then 1 else 0) := rfl
    rw [e]
    by_cases c : xcn f N = i ∧ f N > 0
    · rw [if_pos c]
      exact ⟨c.2, c.1, by omega⟩
    · rw [if_neg c]
      have h2 : i < xcn f N := by
        by_cases c2 : f N > 0
        · rw [if_pos c2] at h1
          have : xcn f N ≠ i := fun q => c ⟨q, c2⟩
          omega
        · rw [if_neg c2] at h1
          omega
      obtain ⟨a, b, r⟩ := xith_ex N h0 h2
      exact ⟨a, b, by omega⟩
end ITH
