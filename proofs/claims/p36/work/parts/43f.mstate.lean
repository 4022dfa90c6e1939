/-! THE REFERENCE'S STATE (own work): what it has read last that went well, its SPANS, what is struck now, what is SAID -/
def MSq (H : wq_H) (R : Nat) (d : xD) : Prop := H R 0 = d 0 0 ∧ H R 1 = d 0 1 ∧ H R 2 = d 0 2 ∧ H R 3 = d 0 3 ∧ H R 4 = d 0 4 ∧ H R 5 = d 0 5 ∧ H R 6 = d 0 6 ∧ H R 7 = d 0 7 ∧ H R 8 = d 0 8 ∧ -1 ≤ d 0 8 ∧ d 0 8 ≤ 5
def MRo (T : wq_T) (H : wq_H) (R : Nat) (d : xD) : Prop := MA9 T H R (d 1) ∧ MA10 T H R (d 2) ∧ MA11 T H R (d 3) ∧ MA12 T H R (d 4) ∧ MA13 T H R (d 5) ∧ MA14 T H R (d 6) ∧ MA15 T H R (d 7) ∧ MA16 T H R (d 8) ∧ MA17 T H R (d 9) ∧ MA18 T H R (d 10) ∧ MA19 T H R (d 11) ∧ MA20 T H R (d 12) ∧ MA21 T H R (d 13) ∧ MA22 T H R (d 14) ∧ MA23 T H R (d 15) ∧ MA25 T H R (d 17) ∧ MA26 T H R (d 16)
def DMQ (T : wq_T) (H : wq_H) (R : Nat) (d : xD) : Prop := MSq H R d ∧ xdP d ∧ MRo T H R d
def DMQx (l : List (Nat × Nat)) : Bool := wno l 54 (fun _ => true) && (List.range 18).all (fun i => wno l (55 + i) (fun _ => true))
section MSREL

variable {T T' : wq_T} {H H' H0 : wq_H} {l : List (Nat × Nat)} {R m b k N j S tg s t : Nat} {d : xD} {v : Int}
theorem MA_mv {n : Nat} {f : Nat → Int} (h : MA S tg n T H R f) (eR : H' R = H R) (eb : ∀ b, T.2.2.2 b = some tg → (H R S = (b : Int)) → H' b = H b) : MA S tg n T H' R f := by
  obtain ⟨b, h1, h2, h3⟩ := h
  exact ⟨b, by rw [eR]; exact h1, h2, by rw [eb b h2 h1]; exact h3⟩
theorem DMQ_mv (g : T.2.2.2 R = some 54) (ho : ∀ a t, T.2.2.2 a = some t → 54 ≤ t → t ≤ 72 → H' a = H a) (h : DMQ T H R d) : DMQ T H' R d := by
  have eR := ho R 54 g (by decide) (by decide)
  obtain ⟨h1, h2, a1, a2, a3, a4, a5, a6, a7, a8, a9, a10, a11, a12, a13, a14, a15, a16, a17⟩ := h
  have e : ∀ tg, 54 ≤ tg → tg ≤ 72 → ∀ (S b : Nat), T.2.2.2 b = some tg → (H R S = (b : Int)) → H' b = H b := fun tg t1 t2 S b hb _ => ho b tg hb t1 t2
  exact ⟨by unfold MSq; rw [eR]; exact h1, h2, MA_mv a1 eR (e _ (by decide) (by decide) _), MA_mv a2 eR (e _ (by decide) (by decide) _), MA_mv a3 eR (e _ (by decide) (by decide) _), MA_mv a4 eR (e _ (by decide) (by decide) _), MA_mv a5 eR (e _ (by decide) (by decide) _), MA_mv a6 eR (e _ (by decide) (by decide) _), MA_mv a7 eR (e _ (by decide) (by decide) _), MA_mv a8 eR (e _ (by decide) (by decide) _), MA_mv a9 eR (e _ (by decide) (by decide) _), MA_mv a10 eR (e _ (by decide) (by decide) _), MA_mv a11 eR (e _ (by decide) (by decide) _), MA_mv a12 eR (e _ (by decide) (by decide) _), MA_mv a13 eR (e _ (by decide) (by decide) _), MA_mv a14 eR (e _ (by decide) (by decide) _), MA_mv a15 eR (e _ (by decide) (by decide) _), MA_mv a16 eR (e _ (by decide) (by decide) _), MA_mv a17 eR (e _ (by decide) (by decide) _)⟩
theorem fam_same (f : wfr l T H H') (x : DMQx l = true) : ∀ a t, T.2.2.2 a = some t → 54 ≤ t → t ≤ 72 → H' a = H a := fun a t ht h1 h2 => by
  unfold DMQx at x
  rw [Bool.and_eq_true] at x
  funext j
  by_cases e : t = 54
  · subst e
    exact wno_f f ht x.1 rfl
  · have := List.all_eq_true.mp x.2 (t - 55) (List.mem_range.mpr (by omega))
    rw [show 55 + (t - 55) = t by omega] at this
    exact wno_f f ht this rfl
theorem DMQ_fr (hW : WT T H) (g : T.2.2.2 R = some 54) (f : wfr l T H H') (x : DMQx l = true) (h : DMQ T H R d) : DMQ T H' R d := DMQ_mv g (fam_same f x) h
end MSREL
/-- arrays of the reference's own -/
abbrev MN20 := DA 20 44
abbrev MN21 := DA 21 45
abbrev MN26 := DA 26 50
def lln (Q : Nat → List (Int × Int)) : Nat → Int := fun j => (Q j).length
def LB (S tg : Nat) (T : wq_T) (H : wq_H) (m : Nat) (g : Nat → Int × Int → Int) (Q : Nat → List (Int × Int)) : Prop := ∃ b : Nat, H m S = (b : Int) ∧ T.2.2.2 b = some tg ∧ ∀ k i : Nat, ∀ x : Int × Int, k < 6 → i < 40 → (Q k)[i]? = some x → H b (40 * k + i) = g k x
abbrev LB22 := LB 22 46
abbrev LB23 := LB 23 47
abbrev LB24 := LB 24 48
abbrev LB25 := LB 25 49
def yb : Nat → Int × Int → Int := fun _ x => x.1
def yl : Nat → Int × Int → Int := fun _ x => x.2
section MNREL

variable {T T' : wq_T} {H H' : wq_H} {l : List (Nat × Nat)} {m b k S tg n : Nat} {c c' v : Int} {f : Nat → Int} {g : Nat → Int × Int → Int} {Q : Nat → List (Int × Int)} {x : Int × Int} {P : List (Int × Int)} {d : xD}
theorem MN26_fr (hW : WT T H) (gm : T.2.2.2 m = some 42) (f0 : wfr l T H H') (y : DAw 42 26 50 l = true) (h : MN26 T H m c f) : MN26 T H' m c f := DAo_fr gm f0 y h
theorem LB_fr (gm : T.2.2.2 m = some 42) (f0 : wfr l T H H') (y : DAw 42 S tg l = true) (h : LB S tg T H m g Q) : LB S tg T H' m g Q := by
  unfold DAw at y
  simp only [Bool.and_eq_true] at y
  obtain ⟨b, h1, h2, h3⟩ := h
  exact ⟨b, (wno_f f0 gm y.1 (by simp)).trans h1, h2, fun k i x a1 a2 a3 => (wno_f f0 h2 y.2 rfl).trans (h3 k i x a1 a2 a3)⟩
theorem LB24_fr (hW : WT T H) (gm : T.2.2.2 m = some 42) (f0 : wfr l T H H') (y : DAw 42 24 48 l = true) (h : LB24 T H m g Q) : LB24 T H' m g Q := LB_fr gm f0 y h
theorem LB_at {i : Nat} (h : LB S tg T H m g Q) (e0 : H m S = (b : Int)) (hk : k < 6) (hi : i < (Q k).length) (hl : (Q k).length ≤ 40) : H b (40 * k + i) = g k ((Q k).getD i (0, 0)) := by
  obtain ⟨b', h1, -, h3⟩ := h
  have : b' = b := by omega
  subst this
  refine h3 k i _ hk (by omega) ?_
  rw [List.getD_eq_getElem?_getD, List.getElem?_eq_getElem hi]
  rfl
theorem DAo_0 (he : ∃ b : Nat, H m S = (b : Int) ∧ T.2.2.2 b = some tg) (hc : c ≤ 0) : DA S tg T H m c f := by
  obtain ⟨b, h1, h2⟩ := he
  exact ⟨b, h1, h2, fun k hk => by omega⟩
/-- the people's SPANS, none for others -/
def xsq (d : xD) : Nat → List (Int × Int) := fun k => if (k : Int) < d 0 3 then xsp d k else []
end MNREL
/-- the state between calls: no PARISH, or one -/
def RP (T : wq_T) (H : wq_H) (m mp : Nat) (e d : xD) : Prop := T.2.2.2 mp = some 54 ∧ (∃ dm, DMQ T H mp dm ∧ d = xset dm) ∧ H m 19 = xal d ∧ MN20 T H m 24 (e 13) ∧ MN21 T H m (d 0 3) (lln (xsp d)) ∧ LB22 T H m yb (xsq d) ∧ LB23 T H m yl (xsq d) ∧ LB24 T H m (xas d) (xsq d) ∧ LB25 T H m (xwk d) (xsq d)
def RB (T : wq_T) (H : wq_H) (m : Nat) (e d : xD) : Prop := (H m 3 = -1 ∧ e = xD0 ∧ d = xD0) ∨ ∃ mp : Nat, H m 3 = (mp : Int) ∧ RP T H m mp e d
/-- and what is SAID, the CURSOR -/
def RY (T : wq_T) (H : wq_H) (m : Nat) (n : Int) (g : Nat → Int) (c : Int) : Prop := MN26 T H m n g ∧ H m 32 = c
def RBx (l : List (Nat × Nat)) : Bool := DMQx l && wno l 42 (fun j => decide (j = 3 ∨ j = 19 ∨ j = 20 ∨ j = 21 ∨ j = 22 ∨ j = 23 ∨ j = 24 ∨ j = 25)) && (wno l 44 (fun _ => true) && wno l 45 (fun _ => true) && wno l 46 (fun _ => true) && wno l 47 (fun _ => true) && wno l 48 (fun _ => true) && wno l 49 (fun _ => true))
def RYx (l : List (Nat × Nat)) : Bool := wno l 42 (fun j => decide (j = 26 ∨ j = 32)) && wno l 50 (fun _ => true)
section RBREL

variable {T T' : wq_T} {H H' : wq_H} {l : List (Nat × Nat)} {m mp : Nat} {e d : xD} {g : Nat → Int} {c n : Int}
theorem DA_w {o S tg : Nat} {s : Nat → Bool} (h1 : wno l o s = true) (hs : s S = true) (h2 : wno l tg (fun _ => true) = true) : DAw o S tg l = true := by
  unfold DAw
  rw [Bool.and_eq_true]
  exact ⟨wno_le h1 (fun j hj => by rw [of_decide_eq_true hj]; exact hs), h2⟩
theorem RB_fr (hW : WT T H) (gm : T.2.2.2 m = some 42) (f : wfr l T H H') (x : RBx l = true) (h : RB T H m e d) : RB T H' m e d := by
  unfold RBx at x
  simp only [Bool.and_eq_true] at x
  obtain ⟨⟨x1, x2⟩, ⟨⟨⟨⟨⟨y44, y45⟩, y46⟩, y47⟩, y48⟩, y49⟩⟩ := x
  rcases h with ⟨h1, h2⟩ | ⟨mp, h1, h2, ⟨dm, h3, h4⟩, h5, h6, h7, h8, h9, h10, h11⟩
  · exact Or.inl ⟨(wno_f f gm x2 (j := 3) rfl).trans h1, h2⟩
  · exact Or.inr ⟨mp, (wno_f f gm x2 (j := 3) rfl).trans h1, h2, ⟨dm, DMQ_fr hW h2 f x1 h3, h4⟩, (wno_f f gm x2 (j := 19) rfl).trans h5, DAo_fr gm f (DA_w x2 rfl y44) h6, DAo_fr gm f (DA_w x2 rfl y45) h7, LB_fr gm f (DA_w x2 rfl y46) h8, LB_fr gm f (DA_w x2 rfl y47) h9, LB_fr gm f (DA_w x2 rfl y48) h10, LB_fr gm f (DA_w x2 rfl y49) h11⟩
theorem RY_fr (hW : WT T H) (gm : T.2.2.2 m = some 42) (f : wfr l T H H') (x : RYx l = true) (h : RY T H m n g c) : RY T H' m n g c := by
  unfold RYx at x
  rw [Bool.and_eq_true] at x
  exact ⟨DAo_fr gm f (DA_w x.1 rfl x.2) h.1, (wno_f f gm x.1 (j := 32) rfl).trans h.2⟩
theorem RB_at (h : RB T H m e d) (q : H m 3 = (mp : Int)) : RP T H m mp e d := by
  rcases h with ⟨h1, -⟩ | ⟨p, h1, h2⟩
  · omega
  · have : p = mp := by omega
    subst this
    exact h2
theorem RB_nu (h : RB T H m e d) (q : H m 3 = -1) : e = xD0 ∧ d = xD0 := by
  rcases h with ⟨-, h1⟩ | ⟨p, h1, -⟩
  · exact h1
  · omega
theorem RP_k (h : RP T H m mp e d) : H mp 0 = d 0 0 ∧ H mp 3 = d 0 3 ∧ H mp 4 = d 0 4 ∧ H mp 5 = d 0 5 ∧ H mp 6 = d 0 6 ∧ H mp 7 = d 0 7 ∧ H mp 8 = d 0 8 ∧ H mp 1 = d 0 1 ∧ H mp 2 = d 0 2 ∧ H m 19 = xal d ∧ xdP d := by
  obtain ⟨-, ⟨dm, ⟨⟨h0, h1, h2, h3, h4, h5, h6, h7, h8, -⟩, hp, -⟩, rfl⟩, h9, -⟩ := h
  exact ⟨h0, h3, h4, h5, h6, h7, h8, h1, h2, h9, xdP_set hp⟩
end RBREL
section MLREL

variable {T T' : wq_T} {H H' H0 : wq_H} {l : List (Nat × Nat)} {m : Nat} {e d : xD} {g : Nat → Int} {c n : Int}
end MLREL
