/-! THE REFERENCE'S STATE (own work): what it has read last that went well, its SPANS, what is struck now, what is SAID -/
def MSq (H : wq_H) (R : Nat) (d : xD) : Prop := H R 0 = d 0 0 ∧ H R 1 = d 0 1 ∧ H R 2 = d 0 2 ∧ H R 3 = d 0 3 ∧ H R 4 = d 0 4 ∧ H R 5 = d 0 5 ∧ H R 6 = d 0 6 ∧ H R 7 = d 0 7 ∧ H R 8 = d 0 8 ∧ -1 ≤ d 0 8 ∧ d 0 8 ≤ 5
def MRo (T : wq_T) (H : wq_H) (R : Nat) (d : xD) : Prop := MA9 T H R (d 1) ∧ MA10 T H R (d 2) ∧ MA11 T H R (d 3) ∧ MA12 T H R (d 4) ∧ MA13 T H R (d 5) ∧ MA14 T H R (d 6) ∧ MA15 T H R (d 7) ∧ MA16 T H R (d 8) ∧ MA17 T H R (d 9) ∧ MA18 T H R (d 10) ∧ MA19 T H R (d 11) ∧ MA20 T H R (d 12) ∧ MA21 T H R (d 13) ∧ MA22 T H R (d 14) ∧ MA23 T H R (d 15) ∧ MA25 T H R (d 17) ∧ MA26 T H R (d 16)
def DMQ (T : wq_T) (H : wq_H) (R : Nat) (d : xD) : Prop := MSq H R d ∧ xdP d ∧ MRo T H R d
def DMQx (l : List (Nat × Nat)) : Bool := wno l 54 (fun _ => true) && (List.range 18).all (fun i => wno l (55 + i) (fun _ => true))
/-- the new one lies behind all that was there -/
def FZ (T : wq_T) (H : wq_H) (R : Nat) (N : Nat) (H0 : wq_H) : Prop := (∀ a t, T.2.2.2 a = some t → 54 ≤ t → t ≤ 72 → a < N → H a = H0 a) ∧ N ≤ R ∧ ∀ j, 9 ≤ j → j ≤ 26 → (N : Int) ≤ H R j
def FZx (l : List (Nat × Nat)) : Bool := wno l 54 (fun _ => true) && (List.range 18).all (fun i => wno l (55 + i) (fun _ => true))
section MSREL

variable {T T' : wq_T} {H H' H0 : wq_H} {l : List (Nat × Nat)} {R m b k N j S tg s t : Nat} {d : xD} {v : Int}
theorem DM_q (h : DM T H R m d) : DMQ T H R d := by
  obtain ⟨-, ⟨h0, h1, h2, h3, h4, h5, h6, h7, h8, -, h9, h10⟩, hp, hr⟩ := h
  exact ⟨⟨h0, h1, h2, h3, h4, h5, h6, h7, h8, h9, h10⟩, hp, hr⟩
theorem MA_mv {n : Nat} {f : Nat → Int} (h : MA S tg n T H R f) (eR : H' R = H R) (eb : ∀ b, T.2.2.2 b = some tg → (H R S = (b : Int)) → H' b = H b) : MA S tg n T H' R f := by
  obtain ⟨b, h1, h2, h3⟩ := h
  exact ⟨b, by rw [eR]; exact h1, h2, by rw [eb b h2 h1]; exact h3⟩
theorem DMQ_mv (g : T.2.2.2 R = some 54) (ho : ∀ a t, T.2.2.2 a = some t → 54 ≤ t → t ≤ 72 → H' a = H a) (h : DMQ T H R d) : DMQ T H' R d := by
  have eR := ho R 54 g (by decide) (by decide)
  obtain ⟨h1, h2, a1, a2, a3, a4, a5, a6, a7, a8, a9, a10, a11, a12, a13, a14, a15, a16, a17⟩ := h
  have e : ∀ tg, 54 ≤ tg → tg ≤ 72 → ∀ (S b : Nat), T.2.2.2 b = some tg → (H R S = (b : Int)) → H' b = H b := fun tg t1 t2 S b hb _ => ho b tg hb t1 t2
  exact ⟨by unfold MSq; rw [eR]; exact h1, h2, MA_mv a1 eR (e _ (by decide) (by decide) _), MA_mv a2 eR (e _ (by decide) (by decide) _), MA_mv a3 eR (e _ (by decide) (by decide) _), MA_mv a4 eR (e _ (by decide) (by decide) _), MA_mv a5 eR (e _ (by decide) (by decide) _), MA_mv a6 eR (e _ (by decide) (by decide) _), MA_mv a7 eR (e _ (by decide) (by decide) _), MA_mv a8 eR (e _ (by decide) (by decide) _), MA_mv a9 eR (e _ (by decide) (by decide) _), MA_mv a10 eR (e _ (by decide) (by decide) _), MA_mv a11 eR (e _ (by decide) (by decide) _), MA_mv a12 eR (e _ (by decide) (by decide) _), MA_mv a13 eR (e _ (by decide) (by decide) _), MA_mv a14 eR (e _ (by decide) (by decide) _), MA_mv a15 eR (e _ (by decide) (by decide) _), MA_mv a16 eR (e _ (by decide) (by decide) _), MA_mv a17 eR (e _ (by decide) (by decide) _)⟩
theorem MA_mono {n : Nat} {f : Nat → Int} (mo : ∀ a t, T.2.2.2 a = some t → T'.2.2.2 a = some t) (h : MA S tg n T H R f) : MA S tg n T' H R f := by
  obtain ⟨b, h1, h2, h3⟩ := h
  exact ⟨b, h1, mo _ _ h2, h3⟩
theorem DMQ_mono (mo : ∀ a t, T.2.2.2 a = some t → T'.2.2.2 a = some t) (h : DMQ T H R d) : DMQ T' H R d := by
  obtain ⟨h1, h2, a1, a2, a3, a4, a5, a6, a7, a8, a9, a10, a11, a12, a13, a14, a15, a16, a17⟩ := h
  exact ⟨h1, h2, MA_mono mo a1, MA_mono mo a2, MA_mono mo a3, MA_mono mo a4, MA_mono mo a5, MA_mono mo a6, MA_mono mo a7, MA_mono mo a8, MA_mono mo a9, MA_mono mo a10, MA_mono mo a11, MA_mono mo a12, MA_mono mo a13, MA_mono mo a14, MA_mono mo a15, MA_mono mo a16, MA_mono mo a17⟩
theorem DMQ_k (h : DMQ T H R d) : H R 0 = d 0 0 ∧ H R 1 = d 0 1 ∧ H R 2 = d 0 2 ∧ H R 3 = d 0 3 ∧ H R 4 = d 0 4 ∧ H R 5 = d 0 5 ∧ H R 6 = d 0 6 ∧ H R 7 = d 0 7 ∧ H R 8 = d 0 8 ∧ -1 ≤ d 0 8 ∧ d 0 8 ≤ 5 := h.1
theorem fam_same (f : wfr l T H H') (x : DMQx l = true) : ∀ a t, T.2.2.2 a = some t → 54 ≤ t → t ≤ 72 → H' a = H a := fun a t ht h1 h2 => by
  unfold DMQx at x
  rw [Bool.and_eq_true] at x
  funext j
  by_cases e : t = 54
  · subst e
    exact wno_f f ht x.1 rfl
  · have := List.all_eq_true.mp x.2 (t - 55) (List.mem_range.mpr (by omega))
    rw [show 55 + (t - 55) = t by omega] at this
    exact wno_f f ht this rfl
theorem DMQ_fr (hW : WT T H) (g : T.2.2.2 R = some 54) (f : wfr l T H H') (x : DMQx l = true) (h : DMQ T H R d) : DMQ T H' R d := DMQ_mv g (fam_same f x) h
theorem FZ_fr (hW : WT T H) (g : T.2.2.2 R = some 54) (f : wfr l T H H') (x : FZx l = true) (h : FZ T H R N H0) : FZ T H' R N H0 := by
  have e := fam_same f x
  refine ⟨fun a t ht h1 h2 h3 => (e a t ht h1 h2).trans (h.1 a t ht h1 h2 h3), h.2.1, fun j h1 h2 => ?_⟩
  rw [e R 54 g (by decide) (by decide)]
  exact h.2.2 j h1 h2
theorem FZ_st (h : FZ T H R N H0) (q : H R S = (b : Int)) (hS : 9 ≤ S) (hS2 : S ≤ 26) (gr : T.2.2.2 R = some 54) (gb : T.2.2.2 b = some tg) (ne : tg ≠ 54) (e : H' = wq_u H b k v) : FZ T H' R N H0 := by
  have hb : N ≤ b := by
    have := h.2.2 S hS hS2
    omega
  refine ⟨fun a t ht h1 h2 h3 => ?_, h.2.1, fun j h1 h2 => ?_⟩
  · rw [e]
    have : wq_u H b k v a = H a := funext (fun i => wq_u_na (by omega) i)
    rw [this]
    exact h.1 a t ht h1 h2 h3
  · rw [e, wq_u_na (fun q => by subst q; rw [gr] at gb; exact ne (Option.some.inj gb).symm)]
    exact h.2.2 j h1 h2
theorem FZ_put (h : FZ T H R N H0) (hs : k < 9) (e : H' = wq_u H R k v) : FZ T H' R N H0 := by
  refine ⟨fun a t ht h1 h2 h3 => ?_, h.2.1, fun j h1 h2 => ?_⟩
  · rw [e]
    have h4 := h.2.1
    have : wq_u H R k v a = H a := funext (fun i => wq_u_na (by omega) i)
    rw [this]
    exact h.1 a t ht h1 h2 h3
  · rw [e, wq_u_ne (by omega)]
    exact h.2.2 j h1 h2
end MSREL
/-- arrays of the reference's own -/
abbrev MN20 := DA 20 44
abbrev MN21 := DA 21 45
abbrev MN26 := DA 26 50
def lup (Q : Nat → List (Int × Int)) (k : Nat) (P : List (Int × Int)) : Nat → List (Int × Int) := fun j => if j = k then P else Q j
def lln (Q : Nat → List (Int × Int)) : Nat → Int := fun j => (Q j).length
def LB (S tg : Nat) (T : wq_T) (H : wq_H) (m : Nat) (g : Nat → Int × Int → Int) (Q : Nat → List (Int × Int)) : Prop := ∃ b : Nat, H m S = (b : Int) ∧ T.2.2.2 b = some tg ∧ ∀ k i : Nat, ∀ x : Int × Int, k < 6 → i < 40 → (Q k)[i]? = some x → H b (40 * k + i) = g k x
abbrev LB22 := LB 22 46
abbrev LB23 := LB 23 47
abbrev LB24 := LB 24 48
abbrev LB25 := LB 25 49
def yb : Nat → Int × Int → Int := fun _ x => x.1
def yl : Nat → Int × Int → Int := fun _ x => x.2
section MNREL

variable {T T' : wq_T} {H H' : wq_H} {l : List (Nat × Nat)} {m b k S tg n : Nat} {c c' v : Int} {f : Nat → Int} {g : Nat → Int × Int → Int} {Q : Nat → List (Int × Int)} {x : Int × Int} {P : List (Int × Int)} {d : xD}
theorem MN20_fr (hW : WT T H) (gm : T.2.2.2 m = some 42) (f0 : wfr l T H H') (y : DAw 42 20 44 l = true) (h : MN20 T H m c f) : MN20 T H' m c f := DAo_fr gm f0 y h
theorem MN21_fr (hW : WT T H) (gm : T.2.2.2 m = some 42) (f0 : wfr l T H H') (y : DAw 42 21 45 l = true) (h : MN21 T H m c f) : MN21 T H' m c f := DAo_fr gm f0 y h
theorem MN26_fr (hW : WT T H) (gm : T.2.2.2 m = some 42) (f0 : wfr l T H H') (y : DAw 42 26 50 l = true) (h : MN26 T H m c f) : MN26 T H' m c f := DAo_fr gm f0 y h
theorem LB_fr (gm : T.2.2.2 m = some 42) (f0 : wfr l T H H') (y : DAw 42 S tg l = true) (h : LB S tg T H m g Q) : LB S tg T H' m g Q := by
  unfold DAw at y
  simp only [Bool.and_eq_true] at y
  obtain ⟨b, h1, h2, h3⟩ := h
  exact ⟨b, (wno_f f0 gm y.1 (by simp)).trans h1, h2, fun k i x a1 a2 a3 => (wno_f f0 h2 y.2 rfl).trans (h3 k i x a1 a2 a3)⟩
theorem LB22_fr (hW : WT T H) (gm : T.2.2.2 m = some 42) (f0 : wfr l T H H') (y : DAw 42 22 46 l = true) (h : LB22 T H m g Q) : LB22 T H' m g Q := LB_fr gm f0 y h
theorem LB23_fr (hW : WT T H) (gm : T.2.2.2 m = some 42) (f0 : wfr l T H H') (y : DAw 42 23 47 l = true) (h : LB23 T H m g Q) : LB23 T H' m g Q := LB_fr gm f0 y h
theorem LB24_fr (hW : WT T H) (gm : T.2.2.2 m = some 42) (f0 : wfr l T H H') (y : DAw 42 24 48 l = true) (h : LB24 T H m g Q) : LB24 T H' m g Q := LB_fr gm f0 y h
theorem LB25_fr (hW : WT T H) (gm : T.2.2.2 m = some 42) (f0 : wfr l T H H') (y : DAw 42 25 49 l = true) (h : LB25 T H m g Q) : LB25 T H' m g Q := LB_fr gm f0 y h
theorem lup_e : lup Q k P k = P := if_pos rfl
theorem lup_n {j : Nat} (h : j ≠ k) : lup Q k P j = Q j := if_neg h
/-- one more SPAN is laid -/
theorem LB_put (h : LB S tg T H m g Q) (e0 : H m S = (b : Int)) (gm : T.2.2.2 m = some 42) (gb : T.2.2.2 b = some tg) (ne : tg ≠ 42) (e : H' = wq_u H b n v) (hn : n = 40 * k + (Q k).length) (hl : (Q k).length < 40) (hv : v = g k x) : LB S tg T H' m g (lup Q k (Q k ++ [x])) := by
  obtain ⟨b', h1, h2, h3⟩ := h
  have hb : b' = b := by omega
  subst hb
  refine ⟨b', ?_, h2, fun j i y hj hi hy => ?_⟩
  · rw [e, wq_u_na (fun q => ?_)]
    · exact h1
    · subst q
      rw [gm] at gb
      exact ne (Option.some.inj gb).symm
  · by_cases q : j = k
    · subst q
      rw [lup_e] at hy
      by_cases q2 : i = (Q j).length
      · subst q2
        rw [List.getElem?_append_right (Nat.le_refl _), Nat.sub_self] at hy
        have hy : some x = some y := hy
        cases hy
        rw [e, hn, wq_u_eq, hv]
      · have hlt : i < (Q j).length := by
          by_cases q3 : i < (Q j).length
          · exact q3
          · rw [List.getElem?_eq_none (by rw [List.length_append]; simp only [List.length_cons, List.length_nil]; omega)] at hy
            cases hy
        rw [List.getElem?_append_left hlt] at hy
        rw [e, wq_u_ne (by omega)]
        exact h3 j i y hj hi hy
    · rw [lup_n q] at hy
      rw [e, wq_u_ne (fun c => by omega)]
      exact h3 j i y hj hi hy
theorem LB_cg {Q' : Nat → List (Int × Int)} (h : LB S tg T H m g Q) (e : ∀ k, Q' k = Q k ∨ Q' k = []) : LB S tg T H m g Q' := by
  obtain ⟨b, h1, h2, h3⟩ := h
  refine ⟨b, h1, h2, fun k i x a1 a2 a3 => ?_⟩
  rcases e k with q | q
  · rw [q] at a3
    exact h3 k i x a1 a2 a3
  · rw [q] at a3
    cases a3
theorem LB_0 (hW : WT T H) (he : ∃ b : Nat, H m S = (b : Int) ∧ T.2.2.2 b = some tg) : LB S tg T H m g (fun _ => []) := by
  obtain ⟨b, h1, h2⟩ := he
  exact ⟨b, h1, h2, fun k i x _ _ h => by cases h⟩
theorem lln_k : lln (lup Q k (Q k ++ [x])) k = (Q k).length + 1 ∧ ∀ j, j ≠ k → lln (lup Q k (Q k ++ [x])) j = lln Q j := by
  refine ⟨?_, fun j hj => ?_⟩
  · show ((lup Q k (Q k ++ [x]) k).length : Int) = _
    rw [lup_e, List.length_append]
    rfl
  · show ((lup Q k (Q k ++ [x]) j).length : Int) = _
    rw [lup_n hj]
    rfl
theorem DAo_0 (he : ∃ b : Nat, H m S = (b : Int) ∧ T.2.2.2 b = some tg) (hc : c ≤ 0) : DA S tg T H m c f := by
  obtain ⟨b, h1, h2⟩ := he
  exact ⟨b, h1, h2, fun k hk => by omega⟩
/-- the people's SPANS, none for others -/
def xsq (d : xD) : Nat → List (Int × Int) := fun k => if (k : Int) < d 0 3 then xsp d k else []
/-- people ahead of v have their SPANS, those behind none yet -/
def QO (d : xD) (Q : Nat → List (Int × Int)) (v : Int) : Prop := (∀ j : Nat, (j : Int) < v → Q j = xsp d j) ∧ ∀ j : Nat, v ≤ j → Q j = []
def QF (d : xD) (Q : Nat → List (Int × Int)) (v : Int) : Prop := (∀ j : Nat, (j : Int) < v → Q j = xsp d j) ∧ ∀ j : Nat, v < j → Q j = []
theorem QO_0 : QO d (fun _ => []) 0 := ⟨fun j hj => by omega, fun _ _ => rfl⟩
theorem QO_f (h : QO d Q c) (h0 : 0 ≤ c) : QF d Q c ∧ Q c.toNat = [] := ⟨⟨h.1, fun j hj => h.2 j (by omega)⟩, h.2 _ (by omega)⟩
theorem QF_l (h : QF d Q c) (h0 : 0 ≤ c) : QF d (lup Q c.toNat P) c := ⟨fun j hj => by rw [lup_n (by omega)]; exact h.1 j hj, fun j hj => by rw [lup_n (by omega)]; exact h.2 j hj⟩
theorem QF_o (h : QF d Q c) (e : Q c.toNat = xsp d c.toNat) (h0 : 0 ≤ c) : QO d Q (c + 1) := by
  refine ⟨fun j hj => ?_, fun j hj => h.2 j (by omega)⟩
  by_cases q : (j : Int) = c
  · rw [show j = c.toNat by omega]
    exact e
  · exact h.1 j (by omega)
theorem QO_ln (h : QO d Q c) (hb : DA 21 45 T H m c (lln Q)) : MN21 T H m c (lln (xsp d)) := by
  obtain ⟨b, h1, h2, h3⟩ := hb
  refine ⟨b, h1, h2, fun k hk => ?_⟩
  rw [h3 k hk]
  unfold lln
  rw [h.1 k hk]
theorem QO_lb (h : QO d Q c) (e : c = d 0 3) (hb : LB S tg T H m g Q) : LB S tg T H m g (xsq d) := by
  subst e
  refine LB_cg hb (fun k => ?_)
  by_cases q : (k : Int) < d 0 3
  · exact Or.inl ((if_pos q).trans (h.1 k q).symm)
  · exact Or.inr (if_neg q)
theorem QO_ls (h : QO d Q c) (e : c' = c) (hb : DA 21 45 T H m c (lln Q)) : MN21 T H m c' (lln (xsp d)) := by
  subst e
  exact QO_ln h hb
theorem all_ok_all : (List.range 25).all (fun n => decide (wq_w (wq_shl 1 n - 1) = xhs 0 n)) = true := by decide +kernel
theorem all_ok {n : Int} (h0 : 0 ≤ n) (h1 : n ≤ 24) : wq_w (wq_shl 1 n - 1) = xhs 0 n := by
  have h := List.all_eq_true.mp all_ok_all n.toNat (List.mem_range.mpr (by omega))
  simpa [Int.toNat_of_nonneg h0] using h
theorem bit_all : (List.range 25).all (fun n => (List.range 24).all (fun h => decide (wq_and (wq_shr (xhs 0 n) h) 1 = if h < n then 1 else 0))) = true := by decide +kernel
theorem bit_ok {n h : Int} (h0 : 0 ≤ n) (h1 : n ≤ 24) (h2 : 0 ≤ h) (h3 : h < 24) : (h < n ∧ wq_and (wq_shr (xhs 0 n) h) 1 = 1) ∨ (n ≤ h ∧ wq_and (wq_shr (xhs 0 n) h) 1 = 0) := by
  have q := List.all_eq_true.mp (List.all_eq_true.mp bit_all n.toNat (List.mem_range.mpr (by omega))) h.toNat (List.mem_range.mpr (by omega))
  simp only [decide_eq_true_eq, Int.toNat_of_nonneg h0, Int.toNat_of_nonneg h2] at q
  by_cases c : h < n
  · rw [if_pos (by omega)] at q
    exact Or.inl ⟨c, q⟩
  · rw [if_neg (by omega)] at q
    exact Or.inr ⟨by omega, q⟩
theorem xcu_at {f : Nat → Int} {n h : Int} (h0 : 0 ≤ h) (h2 : h < 24) : (h < n ∧ xcu f n 24 h.toNat = f h.toNat) ∨ (n ≤ h ∧ xcu f n 24 h.toNat = 0) := by
  unfold xcu
  by_cases c : h < n
  · exact Or.inl ⟨c, if_neg (by omega)⟩
  · exact Or.inr ⟨by omega, if_pos (by omega)⟩
end MNREL
/-- the state between calls: no PARISH, or one -/
def RP (T : wq_T) (H : wq_H) (m mp : Nat) (e d : xD) : Prop := T.2.2.2 mp = some 54 ∧ (∃ dm, DMQ T H mp dm ∧ d = xset dm) ∧ H m 19 = xal d ∧ MN20 T H m 24 (e 13) ∧ MN21 T H m (d 0 3) (lln (xsp d)) ∧ LB22 T H m yb (xsq d) ∧ LB23 T H m yl (xsq d) ∧ LB24 T H m (xas d) (xsq d) ∧ LB25 T H m (xwk d) (xsq d)
def RB (T : wq_T) (H : wq_H) (m : Nat) (e d : xD) : Prop := (H m 3 = -1 ∧ e = xD0 ∧ d = xD0) ∨ ∃ mp : Nat, H m 3 = (mp : Int) ∧ RP T H m mp e d
/-- and what is SAID, the CURSOR -/
def RY (T : wq_T) (H : wq_H) (m : Nat) (n : Int) (g : Nat → Int) (c : Int) : Prop := MN26 T H m n g ∧ H m 32 = c
def RBx (l : List (Nat × Nat)) : Bool := DMQx l && wno l 42 (fun j => decide (j = 3 ∨ j = 19 ∨ j = 20 ∨ j = 21 ∨ j = 22 ∨ j = 23 ∨ j = 24 ∨ j = 25)) && (wno l 44 (fun _ => true) && wno l 45 (fun _ => true) && wno l 46 (fun _ => true) && wno l 47 (fun _ => true) && wno l 48 (fun _ => true) && wno l 49 (fun _ => true))
section RBREL

variable {T T' : wq_T} {H H' : wq_H} {l : List (Nat × Nat)} {m mp : Nat} {e d : xD} {g : Nat → Int} {c n : Int}
theorem DA_w {o S tg : Nat} {s : Nat → Bool} (h1 : wno l o s = true) (hs : s S = true) (h2 : wno l tg (fun _ => true) = true) : DAw o S tg l = true := by
  unfold DAw
  rw [Bool.and_eq_true]
  exact ⟨wno_le h1 (fun j hj => by rw [of_decide_eq_true hj]; exact hs), h2⟩
theorem RB_fr (hW : WT T H) (gm : T.2.2.2 m = some 42) (f : wfr l T H H') (x : RBx l = true) (h : RB T H m e d) : RB T H' m e d := by
  unfold RBx at x
  simp only [Bool.and_eq_true] at x
  obtain ⟨⟨x1, x2⟩, ⟨⟨⟨⟨⟨y44, y45⟩, y46⟩, y47⟩, y48⟩, y49⟩⟩ := x
  rcases h with ⟨h1, h2⟩ | ⟨mp, h1, h2, ⟨dm, h3, h4⟩, h5, h6, h7, h8, h9, h10, h11⟩
  · exact Or.inl ⟨(wno_f f gm x2 (j := 3) rfl).trans h1, h2⟩
  · exact Or.inr ⟨mp, (wno_f f gm x2 (j := 3) rfl).trans h1, h2, ⟨dm, DMQ_fr hW h2 f x1 h3, h4⟩, (wno_f f gm x2 (j := 19) rfl).trans h5, DAo_fr gm f (DA_w x2 rfl y44) h6, DAo_fr gm f (DA_w x2 rfl y45) h7, LB_fr gm f (DA_w x2 rfl y46) h8, LB_fr gm f (DA_w x2 rfl y47) h9, LB_fr gm f (DA_w x2 rfl y48) h10, LB_fr gm f (DA_w x2 rfl y49) h11⟩
/-- over more cells, all that was there as it was -/
theorem RB_mono (mo : ∀ a t, T.2.2.2 a = some t → T'.2.2.2 a = some t) (em : ∀ j, (j = 3 ∨ j = 19 ∨ j = 20 ∨ j = 21 ∨ j = 22 ∨ j = 23 ∨ j = 24 ∨ j = 25 ∨ j = 26 ∨ j = 32) → H' m j = H m j) (ho : ∀ a t, T.2.2.2 a = some t → 44 ≤ t → t ≤ 72 → H' a = H a) (h : RB T H m e d) : RB T' H' m e d := by
  have da : ∀ {S tg : Nat} {c : Int} {f : Nat → Int}, H' m S = H m S → 44 ≤ tg → tg ≤ 72 → DA S tg T H m c f → DA S tg T' H' m c f := fun es t1 t2 ⟨b, h1, h2, h3⟩ => ⟨b, es.trans h1, mo _ _ h2, by rw [ho b _ h2 t1 t2]; exact h3⟩
  have lb : ∀ {S tg : Nat} {g : Nat → Int × Int → Int} {Q : Nat → List (Int × Int)}, H' m S = H m S → 44 ≤ tg → tg ≤ 72 → LB S tg T H m g Q → LB S tg T' H' m g Q := fun es t1 t2 ⟨b, h1, h2, h3⟩ => ⟨b, es.trans h1, mo _ _ h2, by rw [ho b _ h2 t1 t2]; exact h3⟩
  rcases h with ⟨h1, h2⟩ | ⟨mp, h1, h2, ⟨dm, h3, h4⟩, h5, h6, h7, h8, h9, h10, h11⟩
  · exact Or.inl ⟨(em 3 (by omega)).trans h1, h2⟩
  · exact Or.inr ⟨mp, (em 3 (by omega)).trans h1, mo _ _ h2, ⟨dm, DMQ_mono mo (DMQ_mv h2 (fun a t ht t1 t2 => ho a t ht (by omega) t2) h3), h4⟩, (em 19 (by omega)).trans h5, da (em 20 (by omega)) (by decide) (by decide) h6, da (em 21 (by omega)) (by decide) (by decide) h7, lb (em 22 (by omega)) (by decide) (by decide) h8, lb (em 23 (by omega)) (by decide) (by decide) h9, lb (em 24 (by omega)) (by decide) (by decide) h10, lb (em 25 (by omega)) (by decide) (by decide) h11⟩
theorem RB_at (h : RB T H m e d) (q : H m 3 = (mp : Int)) : RP T H m mp e d := by
  rcases h with ⟨h1, -⟩ | ⟨p, h1, h2⟩
  · omega
  · have : p = mp := by omega
    subst this
    exact h2
theorem RB_nu (h : RB T H m e d) (q : H m 3 = -1) : e = xD0 ∧ d = xD0 := by
  rcases h with ⟨-, h1⟩ | ⟨p, h1, -⟩
  · exact h1
  · omega
theorem RP_k (h : RP T H m mp e d) : H mp 0 = d 0 0 ∧ H mp 3 = d 0 3 ∧ H mp 4 = d 0 4 ∧ H mp 5 = d 0 5 ∧ H mp 6 = d 0 6 ∧ H mp 7 = d 0 7 ∧ H mp 8 = d 0 8 ∧ H mp 1 = d 0 1 ∧ H mp 2 = d 0 2 ∧ H m 19 = xal d ∧ xdP d := by
  obtain ⟨-, ⟨dm, ⟨⟨h0, h1, h2, h3, h4, h5, h6, h7, h8, -⟩, hp, -⟩, rfl⟩, h9, -⟩ := h
  exact ⟨h0, h3, h4, h5, h6, h7, h8, h1, h2, h9, xdP_set hp⟩
end RBREL
/-- what stays where a text doesn't go well -/
def ML (T : wq_T) (H : wq_H) (m : Nat) (H0 : wq_H) : Prop := (∀ j, (j = 3 ∨ j = 19 ∨ j = 20 ∨ j = 21 ∨ j = 22 ∨ j = 23 ∨ j = 24 ∨ j = 25 ∨ j = 26 ∨ j = 32) → H m j = H0 m j) ∧ ∀ a t, T.2.2.2 a = some t → 44 ≤ t → t ≤ 53 → H a = H0 a
def MLx (l : List (Nat × Nat)) : Bool := wno l 42 (fun j => decide (j = 3 ∨ j = 19 ∨ j = 20 ∨ j = 21 ∨ j = 22 ∨ j = 23 ∨ j = 24 ∨ j = 25 ∨ j = 26 ∨ j = 32)) && (List.range 10).all (fun i => wno l (44 + i) (fun _ => true))
def MO_ (T : wq_T) (H : wq_H) (m : Nat) (H0 : wq_H) : Prop := ML T H m H0 ∧ ∀ a t, T.2.2.2 a = some t → 54 ≤ t → t ≤ 72 → H a = H0 a
def MO_x (l : List (Nat × Nat)) : Bool := MLx l && DMQx l
section MLREL

variable {T T' : wq_T} {H H' H0 : wq_H} {l : List (Nat × Nat)} {m : Nat} {e d : xD} {g : Nat → Int} {c n : Int}
theorem ML_0 : ML T H m H := ⟨fun _ _ => rfl, fun _ _ _ _ _ => rfl⟩
theorem MO_0 : MO_ T H m H := ⟨ML_0, fun _ _ _ _ _ => rfl⟩
theorem ML_fr (hW : WT T H) (gm : T.2.2.2 m = some 42) (f : wfr l T H H') (x : MLx l = true) (h : ML T H m H0) : ML T H' m H0 := by
  unfold MLx at x
  rw [Bool.and_eq_true] at x
  refine ⟨fun j hj => (wno_f f gm x.1 (decide_eq_true hj)).trans (h.1 j hj), fun a t ht h1 h2 => ?_⟩
  rw [← h.2 a t ht h1 h2]
  funext j
  have := List.all_eq_true.mp x.2 (t - 44) (List.mem_range.mpr (by omega))
  rw [show 44 + (t - 44) = t by omega] at this
  exact wno_f f ht this rfl
theorem MO__fr (hW : WT T H) (gm : T.2.2.2 m = some 42) (f : wfr l T H H') (x : MO_x l = true) (h : MO_ T H m H0) : MO_ T H' m H0 := by
  unfold MO_x at x
  rw [Bool.and_eq_true] at x
  exact ⟨ML_fr hW gm f x.1 h.1, fun a t ht h1 h2 => (fam_same f x.2 a t ht h1 h2).trans (h.2 a t ht h1 h2)⟩
theorem MO_tr {Hc H9 : wq_H} {n : Nat} (mo : ∀ a t, T.2.2.2 a = some t → T'.2.2.2 a = some t) (hb : ∀ a t, T.2.2.2 a = some t → a < n) (gm : T.2.2.2 m = some 42) (o9 : ∀ a, a < n → H9 a = Hc a) (h : MO_ T Hc m H0) (k : ML T' H' m H9) (f : ∀ a t, T'.2.2.2 a = some t → 54 ≤ t → t ≤ 72 → a < n → H' a = H9 a) : MO_ T H' m H0 := by
  refine ⟨⟨fun j hj => ?_, fun a t ht h1 h2 => ?_⟩, fun a t ht h1 h2 => ?_⟩
  · rw [k.1 j hj, o9 m (hb m 42 gm)]
    exact h.1.1 j hj
  · rw [k.2 a t (mo a t ht) h1 h2, o9 a (hb a t ht)]
    exact h.1.2 a t ht h1 h2
  · rw [f a t (mo a t ht) h1 h2 (hb a t ht), o9 a (hb a t ht)]
    exact h.2 a t ht h1 h2
theorem MO_all (k : MO_ T H' m H) : ∀ a t, T.2.2.2 a = some t → 44 ≤ t → t ≤ 72 → H' a = H a := fun a t ht h1 h2 => by
  by_cases q : t ≤ 53
  · exact k.1.2 a t ht h1 q
  · exact k.2 a t ht (by omega) h2
theorem RB_keep (mo : ∀ a t, T.2.2.2 a = some t → T'.2.2.2 a = some t) (k : MO_ T H' m H) (h : RB T H m e d) : RB T' H' m e d := RB_mono mo k.1.1 (MO_all k) h
end MLREL
