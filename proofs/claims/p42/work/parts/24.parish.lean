/-! NEW CELLS: rows of new and newarray over pure memory; a PARISH of the reference that is made (own work) -/
def wq_gT (T : wq_T) (s : Nat × Nat) (n : Nat) : wq_T := ((fun a => if a = 256 + T.2.1 then some s else T.1 a), T.2.1 + 1, T.2.2.1 + n, T.2.2.2)
def wq_gH (H : wq_H) (a : Nat) (g : Nat → Int) : wq_H := fun b => if b = a then g else H b
theorem wq_gH_eq {H : wq_H} {a : Nat} {g : Nat → Int} : wq_gH H a g a = g := if_pos rfl
theorem wq_gH_ne {H : wq_H} {a b : Nat} {g : Nat → Int} (h : b ≠ a) : wq_gH H a g b = H b := if_neg h
theorem wq_R.fresh {kt : Nat → Option mc_E} {M : mc_M} {T : wq_T} {H : wq_H} (h : wq_R kt M T H) (a : Nat) (ha : 256 + T.2.1 ≤ a) : T.1 a = none := by
  refine h.2.2.2 a ?_
  have h1 := h.1
  rw [mc_ce_hi (by omega), List.getElem?_eq_none_iff]
  omega
theorem wq_R.grow {kt : Nat → Option mc_E} {M : mc_M} {T : wq_T} {H : wq_H} (h : wq_R kt M T H) {e : mc_E} {s : Nat × Nat} {g : Nat → Int} (hc : wq_c (some s) g e) : wq_R kt (M ++ [e]) (wq_gT T s (mc_es e)) (wq_gH H (256 + T.2.1) g) := by
  have h1 := h.1
  refine ⟨by show T.2.1 + 1 = _; rw [List.length_append, h1]; rfl, by show T.2.2.1 + _ = _; rw [mc_sz_app, mc_sz_one, h.2.1], fun a e' hb => ?_, fun b hb => ?_⟩
  · by_cases hba : a = 256 + T.2.1
    · subst hba
      rw [mc_ce_hi (by omega), h1, show 256 + M.length - 256 = M.length by omega, List.getElem?_append_right (Nat.le_refl _), Nat.sub_self] at hb
      cases hb
      rw [wq_gH_eq]
      show wq_c (if 256 + T.2.1 = 256 + T.2.1 then some s else _) g e
      rw [if_pos rfl]
      exact hc
    · rw [wq_gH_ne hba]
      show wq_c (if a = 256 + T.2.1 then some s else T.1 a) (H a) e'
      rw [if_neg hba]
      refine h.2.2.1 a e' ?_
      by_cases hb0 : a < 256
      · rw [mc_ce_lo hb0] at hb ⊢
        exact hb
      · rw [mc_ce_hi (by omega)] at hb ⊢
        by_cases hl : a - 256 < M.length
        · rw [List.getElem?_append_left hl] at hb
          exact hb
        · rw [List.getElem?_eq_none (by rw [List.length_append]; show M.length + 1 ≤ _; omega)] at hb
          cases hb
  · have hba : b ≠ 256 + T.2.1 := fun q => by
      subst q
      rw [mc_ce_hi (by omega), h1, show 256 + M.length - 256 = M.length by omega, List.getElem?_append_right (Nat.le_refl _), Nat.sub_self] at hb
      cases hb
    show (if b = 256 + T.2.1 then some s else T.1 b) = none
    rw [if_neg hba]
    refine h.2.2.2 b ?_
    by_cases hb0 : b < 256
    · rw [mc_ce_lo hb0] at hb ⊢
      exact hb
    · rw [mc_ce_hi (by omega)] at hb ⊢
      rw [List.getElem?_eq_none_iff] at hb ⊢
      rw [List.length_append] at hb
      omega
def wq_d (c j : Nat) : Int := if wq_fk c j = 2 then -1 else 0
theorem wq_d10 {j : Nat} (hj : j < 27) : defaultValue (mc_t 10 j) = wq_v (wq_fk 10 j) (wq_d 10 j) ∧ wq_in (wq_fk 10 j) (wq_d 10 j) := by
  match j, hj with
  | 0, _ => exact ⟨rfl, ⟨by decide, by decide⟩⟩
  | 1, _ => exact ⟨rfl, ⟨by decide, by decide⟩⟩
  | 2, _ => exact ⟨rfl, ⟨by decide, by decide⟩⟩
  | 3, _ => exact ⟨rfl, ⟨by decide, by decide⟩⟩
  | 4, _ => exact ⟨rfl, ⟨by decide, by decide⟩⟩
  | 5, _ => exact ⟨rfl, ⟨by decide, by decide⟩⟩
  | 6, _ => exact ⟨rfl, ⟨by decide, by decide⟩⟩
  | 7, _ => exact ⟨rfl, ⟨by decide, by decide⟩⟩
  | 8, _ => exact ⟨rfl, ⟨by decide, by decide⟩⟩
  | 9, _ => exact ⟨rfl, trivial⟩
  | 10, _ => exact ⟨rfl, trivial⟩
  | 11, _ => exact ⟨rfl, trivial⟩
  | 12, _ => exact ⟨rfl, trivial⟩
  | 13, _ => exact ⟨rfl, trivial⟩
  | 14, _ => exact ⟨rfl, trivial⟩
  | 15, _ => exact ⟨rfl, trivial⟩
  | 16, _ => exact ⟨rfl, trivial⟩
  | 17, _ => exact ⟨rfl, trivial⟩
  | 18, _ => exact ⟨rfl, trivial⟩
  | 19, _ => exact ⟨rfl, trivial⟩
  | 20, _ => exact ⟨rfl, trivial⟩
  | 21, _ => exact ⟨rfl, trivial⟩
  | 22, _ => exact ⟨rfl, trivial⟩
  | 23, _ => exact ⟨rfl, trivial⟩
  | 24, _ => exact ⟨rfl, trivial⟩
  | 25, _ => exact ⟨rfl, trivial⟩
  | 26, _ => exact ⟨rfl, trivial⟩
  | j + 27, h => omega
theorem wq_dty : ∀ t, t < 4 → defaultValue (mc_ty t) = wq_v (wq_ak t) 0 ∧ wq_in (wq_ak t) 0
  | 0, _ => ⟨rfl, ⟨by decide, by decide⟩⟩
  | 1, _ => ⟨rfl, ⟨by decide, by decide⟩⟩
  | 2, _ => ⟨rfl, ⟨by decide, by decide⟩⟩
  | 3, _ => ⟨rfl, ⟨by decide, by decide⟩⟩
  | t + 4, h => by omega
section NEW

variable {kt : Nat → Option mc_E} {d : Nat} {E : wq_E} {pc pc' : Nat} {L : List (Nat × Value)} {st : List Value} {T : wq_T} {H : wq_H} {K : Nat → List (Nat × Value) → List Value → wq_T → wq_H → Prop}
theorem rw_newa {t : ArrayType} {tt n : Nat} {z : Int} (ht : mc_tag t = some tt) (ht4 : tt < 4) (h0 : 0 ≤ z) (h1 : z ≤ 100000) (hn : z.toNat = n) (hp : pc + 2 = pc') (h : K pc' L (.ref (256 + T.2.1) :: st) (wq_gT T (tt, n) n) (wq_gH H (256 + T.2.1) (fun _ => 0))) : wq_s kt d E (.newarray t) 2 pc L (vI z :: st) T H K := fun M hM => by
  have hw : wI z := ⟨by omega, by omega⟩
  have e : (Int32.ofInt z).toNatClampNeg = n := by
    show (Int32.ofInt z).toInt.toNat = n
    rw [wI_t hw, hn]
  have e0 : ¬ Int32.ofInt z < 0 := fun q => by
    have := (wq_lt hw (y := 0) ⟨by omega, by omega⟩).mp q
    omega
  subst hp
  obtain ⟨d1, d2⟩ := wq_dty tt ht4
  refine ⟨0, pc + 2, L, .ref (256 + T.2.1) :: st, M ++ [.inl (tt, n, fun _ => defaultValue (mc_ty tt))], _, _, ?_, hM.grow (e := .inl (tt, n, fun _ => defaultValue (mc_ty tt))) (s := (tt, n)) (g := fun _ => 0) ⟨by omega, rfl, fun j hj => ⟨d1, d2⟩⟩, h⟩
  show mc_n (2 == 2) (mc_newa t pc L (.int (Int32.ofInt z) :: st) M) = _
  unfold mc_newa
  dsimp only
  rw [ht]
  dsimp only
  rw [e, decide_eq_true e0, decide_eq_true (by omega : n ≤ 100000), hM.1]
  rfl
theorem rw_new10 {idx : Nat} {e : Nat × Nat × Nat} (he : mc_find (mc_kl.getD E.1 []) idx = some e) (h10 : e.1 = 10) (hp : pc + 3 = pc') (h : (∀ a, 256 + T.2.1 ≤ a → T.1 a = none) → K pc' L (.ref (256 + T.2.1) :: st) (wq_gT T (110, 27) 27) (wq_gH H (256 + T.2.1) (wq_d 10))) : wq_s kt d E (.new idx) 3 pc L st T H K := fun M hM => by
  subst hp
  have hlen : ((List.range (mc_N.getD 10 0)).map (fun k => defaultValue (mc_t 10 k))).length = 27 := by rw [List.length_map, List.length_range]; rfl
  have hg := hM.grow (e := .inr (10, (List.range (mc_N.getD 10 0)).map (fun k => defaultValue (mc_t 10 k)))) (s := (110, 27)) (g := wq_d 10) ⟨by rw [hlen], fun j v hv => by
    have hj : j < 27 := by
      have := (List.getElem?_eq_some_iff.mp hv).1
      rw [hlen] at this
      exact this
    rw [List.getElem?_map, List.getElem?_range (by exact hj)] at hv
    cases hv
    exact wq_d10 hj⟩
  have hs : mc_es (.inr (10, (List.range (mc_N.getD 10 0)).map (fun k => defaultValue (mc_t 10 k))) : mc_E) = 27 := hlen
  rw [hs] at hg
  refine ⟨0, pc + 3, L, .ref (256 + T.2.1) :: st, M ++ [.inr (10, (List.range (mc_N.getD 10 0)).map (fun k => defaultValue (mc_t 10 k)))], _, _, ?_, hg, h hM.fresh⟩
  show mc_n (3 == 3) (mc_new E.1 idx pc L st M) = _
  unfold mc_new
  rw [he]
  dsimp only
  rw [h10, hM.1]
  rfl
theorem rw_obj {idx : Nat} {e : Nat × Nat} {a : Nat} (hm : mc_find (mc_ml.getD E.1 []) idx = none) (he : mc_find (mc_ol.getD E.1 []) idx = some e) (hcat : ((st.map Value.category).sum ≤ 8)) (hp : pc + 3 = pc') (h : K pc' L st T H) : wq_s kt d E (.invokespecial idx) 3 pc L (.ref a :: st) T H K := by
  subst hp
  refine wq_go (fun M => ?_) h
  show mc_n (3 == 3) (mc_or (mc_cal (mc_call kt 0 d) E.1 2 idx pc L (.ref a :: st) M) (mc_obj E.1 idx pc L (.ref a :: st) M)) = _
  refine wq_or2 hm ?_
  unfold mc_obj
  dsimp only
  rw [he]
  dsimp only
  rw [decide_eq_true hcat]
  rfl
end NEW
/-- tags are our own: a method's run knows nothing of them -/
theorem wp.ghost {kt : Nat → Option mc_E} {d k pc : Nat} {L : List (Nat × Value)} {st : List Value} {T : wq_T} {H : wq_H} {Q : Option Value → wq_T → wq_H → Prop} (g : Nat → Option Nat) (h : wp kt d k pc L st (T.1, T.2.1, T.2.2.1, g) H Q) : wp kt d k pc L st T H Q := fun M hM => h M hM
/-- how far the making of a PARISH is -/
def wNP (T0 : wq_T) (H0 : wq_H) (T : wq_T) (H : wq_H) (i : Nat) : Prop := (T.2.1 = T0.2.1 + 1 + i) ∧ (T.2.2.1 ≤ T0.2.2.1 + 27 + 24 * i) ∧ (T.2.2.2 = T0.2.2.2) ∧ (∀ a, a < 256 + T0.2.1 → T.1 a = T0.1 a ∧ H a = H0 a) ∧ (T.1 (256 + T0.2.1) = some (110, 27)) ∧ (∀ j, j < 8 → H (256 + T0.2.1) j = 0) ∧ (∀ k, k < i → H (256 + T0.2.1) (9 + k) = ((257 + T0.2.1 + k : Nat) : Int)) ∧ (∀ k, k < i → T.1 (257 + T0.2.1 + k) = some (wsh (55 + k)) ∧ ∀ j, H (257 + T0.2.1 + k) j = 0)
theorem wNP.n {T0 : wq_T} {H0 : wq_H} {T : wq_T} {H : wq_H} {i : Nat} (h : wNP T0 H0 T H i) : T.2.1 = T0.2.1 + 1 + i := h.1
theorem wNP.z {T0 : wq_T} {H0 : wq_H} {T : wq_T} {H : wq_H} {i : Nat} (h : wNP T0 H0 T H i) : T.2.2.1 ≤ T0.2.2.1 + 27 + 24 * i := h.2.1
theorem wNP.g {T0 : wq_T} {H0 : wq_H} {T : wq_T} {H : wq_H} {i : Nat} (h : wNP T0 H0 T H i) : T.2.2.2 = T0.2.2.2 := h.2.2.1
theorem wNP.old {T0 : wq_T} {H0 : wq_H} {T : wq_T} {H : wq_H} {i : Nat} (h : wNP T0 H0 T H i) : ∀ a, a < 256 + T0.2.1 → T.1 a = T0.1 a ∧ H a = H0 a := h.2.2.2.1
theorem wNP.ob {T0 : wq_T} {H0 : wq_H} {T : wq_T} {H : wq_H} {i : Nat} (h : wNP T0 H0 T H i) : T.1 (256 + T0.2.1) = some (110, 27) := h.2.2.2.2.1
theorem wNP.f0 {T0 : wq_T} {H0 : wq_H} {T : wq_T} {H : wq_H} {i : Nat} (h : wNP T0 H0 T H i) : ∀ j, j < 8 → H (256 + T0.2.1) j = 0 := h.2.2.2.2.2.1
theorem wNP.fr {T0 : wq_T} {H0 : wq_H} {T : wq_T} {H : wq_H} {i : Nat} (h : wNP T0 H0 T H i) : ∀ k, k < i → H (256 + T0.2.1) (9 + k) = ((257 + T0.2.1 + k : Nat) : Int) := h.2.2.2.2.2.2.1
theorem wNP.ar {T0 : wq_T} {H0 : wq_H} {T : wq_T} {H : wq_H} {i : Nat} (h : wNP T0 H0 T H i) : ∀ k, k < i → T.1 (257 + T0.2.1 + k) = some (wsh (55 + k)) ∧ ∀ j, H (257 + T0.2.1 + k) j = 0 := h.2.2.2.2.2.2.2
theorem wNP.mk {T0 : wq_T} {H0 : wq_H} {T : wq_T} {H : wq_H} {i : Nat} (n : T.2.1 = T0.2.1 + 1 + i) (z : T.2.2.1 ≤ T0.2.2.1 + 27 + 24 * i) (g : T.2.2.2 = T0.2.2.2) (old : ∀ a, a < 256 + T0.2.1 → T.1 a = T0.1 a ∧ H a = H0 a) (ob : T.1 (256 + T0.2.1) = some (110, 27)) (f0 : ∀ j, j < 8 → H (256 + T0.2.1) j = 0) (fr : ∀ k, k < i → H (256 + T0.2.1) (9 + k) = ((257 + T0.2.1 + k : Nat) : Int)) (ar : ∀ k, k < i → T.1 (257 + T0.2.1 + k) = some (wsh (55 + k)) ∧ ∀ j, H (257 + T0.2.1 + k) j = 0) : wNP T0 H0 T H i := ⟨n, z, g, old, ob, f0, fr, ar⟩
theorem wNP.zero {T0 : wq_T} {H0 : wq_H} : wNP T0 H0 (wq_gT T0 (110, 27) 27) (wq_gH H0 (256 + T0.2.1) (wq_d 10)) 0 := wNP.mk
  (n := rfl)
  (z := Nat.le_refl _)
  (g := rfl)
  (old := fun a ha => ⟨if_neg (by omega), wq_gH_ne (by omega)⟩)
  (ob := if_pos rfl)
  (f0 := fun j hj => by
    rw [wq_gH_eq]
    match j, hj with
    | 0, _ => rfl
    | 1, _ => rfl
    | 2, _ => rfl
    | 3, _ => rfl
    | 4, _ => rfl
    | 5, _ => rfl
    | 6, _ => rfl
    | 7, _ => rfl
    | j + 8, h => omega)
  (fr := fun k hk => absurd hk (Nat.not_lt_zero _))
  (ar := fun k hk => absurd hk (Nat.not_lt_zero _))
/-- a field of numbers written -/
theorem wNP.num {T0 : wq_T} {H0 : wq_H} {T : wq_T} {H : wq_H} (h : wNP T0 H0 T H 0) {z : Int} : wNP T0 H0 T (wq_u H (256 + T0.2.1) 8 z) 0 := wNP.mk
  (n := h.n)
  (z := h.z)
  (g := h.g)
  (old := fun a ha => ⟨(h.old a ha).1, by rw [← (h.old a ha).2]; funext j; exact wq_u_na (by omega) j⟩)
  (ob := h.ob)
  (f0 := fun j hj => by rw [wq_u_ne (by omega)]; exact h.f0 j hj)
  (fr := fun k hk => absurd hk (Nat.not_lt_zero _))
  (ar := fun k hk => absurd hk (Nat.not_lt_zero _))
theorem wNP.next {T0 : wq_T} {H0 : wq_H} {T : wq_T} {H : wq_H} {i tt n : Nat} (h : wNP T0 H0 T H i) (hs : wsh (55 + i) = (tt, n)) (hn : n ≤ 24) : wNP T0 H0 (wq_gT T (tt, n) n) (wq_u (wq_gH H (256 + T.2.1) (fun _ => 0)) (256 + T0.2.1) (9 + i) ((256 + T.2.1 : Nat) : Int)) (i + 1) := by
  have hT := h.n
  exact wNP.mk
      (n := by show T.2.1 + 1 = _; omega)
      (z := by have := h.z; show T.2.2.1 + n ≤ _; omega)
      (g := h.g)
      (old := fun a ha => ⟨by show (if a = 256 + T.2.1 then _ else T.1 a) = _; rw [if_neg (by omega)]; exact (h.old a ha).1, by rw [← (h.old a ha).2]; funext j; rw [wq_u_na (by omega) j, wq_gH_ne (by omega)]⟩)
      (ob := by show (if 256 + T0.2.1 = 256 + T.2.1 then _ else T.1 _) = _; rw [if_neg (by omega)]; exact h.ob)
      (f0 := fun j hj => by rw [wq_u_ne (by omega), wq_gH_ne (by omega)]; exact h.f0 j hj)
      (fr := fun k hk => by
          by_cases hki : k = i
          · subst hki
            rw [wq_u_eq]
            omega
          · rw [wq_u_ne (by omega), wq_gH_ne (by omega)]
            exact h.fr k (by omega))
      (ar := fun k hk => by
          by_cases hki : k = i
          · subst hki
            have e : 257 + T0.2.1 + k = 256 + T.2.1 := by omega
            rw [e]
            refine ⟨by show (if 256 + T.2.1 = 256 + T.2.1 then _ else _) = _; rw [if_pos rfl, hs], fun j => ?_⟩
            rw [wq_u_na (by omega), wq_gH_eq]
          · refine ⟨by show (if 257 + T0.2.1 + k = 256 + T.2.1 then _ else T.1 _) = _; rw [if_neg (by omega)]; exact (h.ar k (by omega)).1, fun j => ?_⟩
            rw [wq_u_na (by omega), wq_gH_ne (by omega)]
            exact (h.ar k (by omega)).2 j)
/-- the tags, when it is made -/
def wNPg (T0 : wq_T) (a : Nat) : Option Nat := if a = 256 + T0.2.1 then some 54 else if 256 + T0.2.1 < a ∧ a ≤ 274 + T0.2.1 then some (55 + (a - 257 - T0.2.1)) else T0.2.2.2 a
theorem wok.mono {T T' : wq_T} {ty : Nat × Int × Int × Nat} {z : Int} (h : ∀ a t, T.2.2.2 a = some t → T'.2.2.2 a = some t) (hk : wok T ty z) : wok T' ty z := by
  obtain ⟨k, p, q, t⟩ := ty
  unfold wok at hk ⊢
  dsimp only at hk ⊢
  split at hk <;> first | exact hk | exact ⟨hk.1, h _ _ hk.2⟩ | exact hk.imp id (fun x => ⟨x.1, h _ _ x.2⟩) | exact ⟨hk.1, hk.2.imp (h _ _) (h _ _)⟩
theorem wNPg_mono {T0 : wq_T} {H0 : wq_H} (hW : WT T0 H0) (hf : ∀ a, 256 + T0.2.1 ≤ a → T0.1 a = none) : ∀ a t, T0.2.2.2 a = some t → wNPg T0 a = some t := fun a t h => by
  have h1 := (hW.2 a t h).1
  have h2 : a < 256 + T0.2.1 := by
    by_cases h3 : a < 256 + T0.2.1
    · exact h3
    · rw [hf a (by omega)] at h1
      cases h1
  unfold wNPg
  rw [if_neg (by omega), if_neg (by omega)]
  exact h
theorem wNP.tag {T0 : wq_T} {k : Nat} (hk : k < 18) : wNPg T0 (257 + T0.2.1 + k) = some (55 + k) := by
  unfold wNPg
  rw [if_neg (by omega), if_pos (by omega)]
  congr 1
  omega
theorem wNP.done {T0 : wq_T} {H0 : wq_H} {T : wq_T} {H : wq_H} (h : wNP T0 H0 T H 18) (hx : wI (H (256 + T0.2.1) 8)) (hW : WT T0 H0) (hf : ∀ a, 256 + T0.2.1 ≤ a → T0.1 a = none) : WT (T.1, T.2.1, T.2.2.1, wNPg T0) H := by
  have hm := wNPg_mono hW hf
  refine ⟨⟨hm _ _ hW.1.1, hm _ _ hW.1.2.1, fun i hi => hm _ _ (hW.1.2.2 i hi)⟩, fun a t ht => ?_⟩
  have ht : wNPg T0 a = some t := ht
  by_cases ha : a = 256 + T0.2.1
  · have e : t = 54 := by
      unfold wNPg at ht
      rw [if_pos ha] at ht
      exact (Option.some.inj ht).symm
    subst e
    subst ha
    refine ⟨h.ob, fun _ => by omega, fun j hj => ?_⟩
    have hj : j < 27 := hj
    match j, hj with
    | 0, _ => exact (by rw [h.f0 0 (by omega), ty_54_0]; exact ⟨by decide, by decide⟩)
    | 1, _ => exact (by rw [h.f0 1 (by omega), ty_54_1]; exact ⟨by decide, by decide⟩)
    | 2, _ => exact (by rw [h.f0 2 (by omega), ty_54_2]; exact ⟨by decide, by decide⟩)
    | 3, _ => exact (by rw [h.f0 3 (by omega), ty_54_3]; exact ⟨by decide, by decide⟩)
    | 4, _ => exact (by rw [h.f0 4 (by omega), ty_54_4]; exact ⟨by decide, by decide⟩)
    | 5, _ => exact (by rw [h.f0 5 (by omega), ty_54_5]; exact ⟨by decide, by decide⟩)
    | 6, _ => exact (by rw [h.f0 6 (by omega), ty_54_6]; exact ⟨by decide, by decide⟩)
    | 7, _ => exact (by rw [h.f0 7 (by omega), ty_54_7]; exact ⟨by decide, by decide⟩)
    | 8, _ => exact (by rw [ty_54_8]; exact hx)
    | 9, _ => exact (by have e := h.fr 0 (by omega); rw [show (9 : Nat) = 9 + 0 from rfl, e]; exact wok_2 ty_54_9 (wNP.tag (by omega)))
    | 10, _ => exact (by have e := h.fr 1 (by omega); rw [show (10 : Nat) = 9 + 1 from rfl, e]; exact wok_2 ty_54_10 (wNP.tag (by omega)))
    | 11, _ => exact (by have e := h.fr 2 (by omega); rw [show (11 : Nat) = 9 + 2 from rfl, e]; exact wok_2 ty_54_11 (wNP.tag (by omega)))
    | 12, _ => exact (by have e := h.fr 3 (by omega); rw [show (12 : Nat) = 9 + 3 from rfl, e]; exact wok_2 ty_54_12 (wNP.tag (by omega)))
    | 13, _ => exact (by have e := h.fr 4 (by omega); rw [show (13 : Nat) = 9 + 4 from rfl, e]; exact wok_2 ty_54_13 (wNP.tag (by omega)))
    | 14, _ => exact (by have e := h.fr 5 (by omega); rw [show (14 : Nat) = 9 + 5 from rfl, e]; exact wok_2 ty_54_14 (wNP.tag (by omega)))
    | 15, _ => exact (by have e := h.fr 6 (by omega); rw [show (15 : Nat) = 9 + 6 from rfl, e]; exact wok_2 ty_54_15 (wNP.tag (by omega)))
    | 16, _ => exact (by have e := h.fr 7 (by omega); rw [show (16 : Nat) = 9 + 7 from rfl, e]; exact wok_2 ty_54_16 (wNP.tag (by omega)))
    | 17, _ => exact (by have e := h.fr 8 (by omega); rw [show (17 : Nat) = 9 + 8 from rfl, e]; exact wok_2 ty_54_17 (wNP.tag (by omega)))
    | 18, _ => exact (by have e := h.fr 9 (by omega); rw [show (18 : Nat) = 9 + 9 from rfl, e]; exact wok_2 ty_54_18 (wNP.tag (by omega)))
    | 19, _ => exact (by have e := h.fr 10 (by omega); rw [show (19 : Nat) = 9 + 10 from rfl, e]; exact wok_2 ty_54_19 (wNP.tag (by omega)))
    | 20, _ => exact (by have e := h.fr 11 (by omega); rw [show (20 : Nat) = 9 + 11 from rfl, e]; exact wok_2 ty_54_20 (wNP.tag (by omega)))
    | 21, _ => exact (by have e := h.fr 12 (by omega); rw [show (21 : Nat) = 9 + 12 from rfl, e]; exact wok_2 ty_54_21 (wNP.tag (by omega)))
    | 22, _ => exact (by have e := h.fr 13 (by omega); rw [show (22 : Nat) = 9 + 13 from rfl, e]; exact wok_2 ty_54_22 (wNP.tag (by omega)))
    | 23, _ => exact (by have e := h.fr 14 (by omega); rw [show (23 : Nat) = 9 + 14 from rfl, e]; exact wok_2 ty_54_23 (wNP.tag (by omega)))
    | 24, _ => exact (by have e := h.fr 15 (by omega); rw [show (24 : Nat) = 9 + 15 from rfl, e]; exact wok_2 ty_54_24 (wNP.tag (by omega)))
    | 25, _ => exact (by have e := h.fr 16 (by omega); rw [show (25 : Nat) = 9 + 16 from rfl, e]; exact wok_2 ty_54_25 (wNP.tag (by omega)))
    | 26, _ => exact (by have e := h.fr 17 (by omega); rw [show (26 : Nat) = 9 + 17 from rfl, e]; exact wok_2 ty_54_26 (wNP.tag (by omega)))
    | j + 27, h => omega
  · by_cases hb : 256 + T0.2.1 < a ∧ a ≤ 274 + T0.2.1
    · obtain ⟨k, hk, rfl⟩ : ∃ k, k < 18 ∧ a = 257 + T0.2.1 + k := ⟨a - 257 - T0.2.1, by omega, by omega⟩
      rw [wNP.tag hk] at ht
      cases ht
      refine ⟨(h.ar k hk).1, fun _ => by omega, fun j hj => ?_⟩
      rw [(h.ar k hk).2 j]
      match k, hk with
      | 0, _ => exact (by rw [show 55 + 0 = 55 from rfl, ty_55]; exact ⟨by decide, by decide⟩)
      | 1, _ => exact (by rw [show 55 + 1 = 56 from rfl, ty_56]; exact ⟨by decide, by decide⟩)
      | 2, _ => exact (by rw [show 55 + 2 = 57 from rfl, ty_57]; exact ⟨by decide, by decide⟩)
      | 3, _ => exact (by rw [show 55 + 3 = 58 from rfl, ty_58]; exact ⟨by decide, by decide⟩)
      | 4, _ => exact (by rw [show 55 + 4 = 59 from rfl, ty_59]; exact ⟨by decide, by decide⟩)
      | 5, _ => exact (by rw [show 55 + 5 = 60 from rfl, ty_60]; exact ⟨by decide, by decide⟩)
      | 6, _ => exact (by rw [show 55 + 6 = 61 from rfl, ty_61]; exact ⟨by decide, by decide⟩)
      | 7, _ => exact (by rw [show 55 + 7 = 62 from rfl, ty_62]; exact ⟨by decide, by decide⟩)
      | 8, _ => exact (by rw [show 55 + 8 = 63 from rfl, ty_63]; exact ⟨by decide, by decide⟩)
      | 9, _ => exact (by rw [show 55 + 9 = 64 from rfl, ty_64]; exact ⟨by decide, by decide⟩)
      | 10, _ => exact (by rw [show 55 + 10 = 65 from rfl, ty_65]; exact ⟨by decide, by decide⟩)
      | 11, _ => exact (by rw [show 55 + 11 = 66 from rfl, ty_66]; exact ⟨by decide, by decide⟩)
      | 12, _ => exact (by rw [show 55 + 12 = 67 from rfl, ty_67]; exact ⟨by decide, by decide⟩)
      | 13, _ => exact (by rw [show 55 + 13 = 68 from rfl, ty_68]; exact ⟨by decide, by decide⟩)
      | 14, _ => exact (by rw [show 55 + 14 = 69 from rfl, ty_69]; exact ⟨by decide, by decide⟩)
      | 15, _ => exact (by rw [show 55 + 15 = 70 from rfl, ty_70]; exact ⟨by decide, by decide⟩)
      | 16, _ => exact (by rw [show 55 + 16 = 71 from rfl, ty_71]; exact ⟨by decide, by decide⟩)
      | 17, _ => exact (by rw [show 55 + 17 = 72 from rfl, ty_72]; exact ⟨by decide, by decide⟩)
      | k + 18, h => omega
    · have ht0 : T0.2.2.2 a = some t := by
        unfold wNPg at ht
        rw [if_neg ha, if_neg hb] at ht
        exact ht
      obtain ⟨h1, h2, h3⟩ := hW.2 a t ht0
      have hlt : a < 256 + T0.2.1 := by
        by_cases h4 : a < 256 + T0.2.1
        · exact h4
        · rw [hf a (by omega)] at h1
          cases h1
      refine ⟨by show T.1 a = _; rw [(h.old a hlt).1]; exact h1, h2, fun j hj => ?_⟩
      rw [(h.old a hlt).2]
      exact wok.mono hm (h3 j hj)
theorem wLM_ot {T : wq_T} {H H' : wq_H} {m R : Nat} (hW : WT T H) (g : T.2.2.2 m = some 42) (e3 : H' m 3 = H m 3) (e21 : H' m 21 = H m 21) (es : ∀ sp, T.2.2.2 sp = some 45 → H' sp = H sp) (ho : ∀ a, a ≠ R → T.2.2.2 a = some 54 → H' a 3 = H a 3) (hne : H m 3 ≠ (R : Int)) : wLM H' m = wLM H m := by
  unfold wLM
  rw [e3, e21]
  split
  · rfl
  · next hn =>
    obtain ⟨sp, hs1, hs2⟩ := hW.ref g (t' := 45) (n := 33) (j := 21) (p := 0) (q := 0) rfl (by decide) rfl
    rcases hW.opt g (t' := 54) (n := 33) (j := 3) (p := 0) (q := 0) rfl (by decide) rfl with h5 | ⟨pp, h5, h6⟩
    · exact absurd h5 hn
    · rw [hs1, h5, Int.toNat_natCast, Int.toNat_natCast, es sp hs2, ho pp (fun q => hne (by rw [h5, q])) h6]
theorem wKI_old {T : wq_T} {H H' : wq_H} {m : Nat} (hW : WT T H) (g : T.2.2.2 m = some 42) (ho : ∀ a t, T.2.2.2 a = some t → H' a = H a) : wKI H' m = wKI H m := by
  have em := ho m _ g
  have el : wLM H' m = wLM H m := by
    unfold wLM
    rw [em]
    split
    · rfl
    · next hn =>
      obtain ⟨sp, hs1, hs2⟩ := hW.ref g (t' := 45) (n := 33) (j := 21) (p := 0) (q := 0) rfl (by decide) rfl
      rcases hW.opt g (t' := 54) (n := 33) (j := 3) (p := 0) (q := 0) rfl (by decide) rfl with h5 | ⟨pp, h5, h6⟩
      · exact absurd h5 hn
      · rw [hs1, h5, Int.toNat_natCast, Int.toNat_natCast, ho sp _ hs2, ho pp _ h6]
  unfold wKI
  rw [em, el]
theorem e171 : wq_en 171 = some (10, 1, true, none) := rfl
theorem c171_0 : mc_cd 171 0 = some (.aload_n 0, 1) := by decide +kernel
theorem c171_1 : mc_cd 171 1 = some (.invokespecial 3, 3) := by decide +kernel
theorem c171_4 : mc_cd 171 4 = some (.aload_n 0, 1) := by decide +kernel
theorem c171_5 : mc_cd 171 5 = some (.iconst (-1), 1) := by decide +kernel
theorem c171_6 : mc_cd 171 6 = some (.putfield 9, 3) := by decide +kernel
theorem c171_9 : mc_cd 171 9 = some (.aload_n 0, 1) := by decide +kernel
theorem c171_10 : mc_cd 171 10 = some (.bipush 6, 2) := by decide +kernel
theorem c171_12 : mc_cd 171 12 = some (.newarray .long, 2) := by decide +kernel
theorem c171_14 : mc_cd 171 14 = some (.putfield 15, 3) := by decide +kernel
theorem c171_17 : mc_cd 171 17 = some (.aload_n 0, 1) := by decide +kernel
theorem c171_18 : mc_cd 171 18 = some (.bipush 6, 2) := by decide +kernel
theorem c171_20 : mc_cd 171 20 = some (.newarray .int, 2) := by decide +kernel
theorem c171_22 : mc_cd 171 22 = some (.putfield 19, 3) := by decide +kernel
theorem c171_25 : mc_cd 171 25 = some (.aload_n 0, 1) := by decide +kernel
theorem c171_26 : mc_cd 171 26 = some (.bipush 6, 2) := by decide +kernel
theorem c171_28 : mc_cd 171 28 = some (.newarray .int, 2) := by decide +kernel
theorem c171_30 : mc_cd 171 30 = some (.putfield 23, 3) := by decide +kernel
theorem c171_33 : mc_cd 171 33 = some (.aload_n 0, 1) := by decide +kernel
theorem c171_34 : mc_cd 171 34 = some (.bipush 6, 2) := by decide +kernel
theorem c171_36 : mc_cd 171 36 = some (.newarray .int, 2) := by decide +kernel
theorem c171_38 : mc_cd 171 38 = some (.putfield 26, 3) := by decide +kernel
theorem c171_41 : mc_cd 171 41 = some (.aload_n 0, 1) := by decide +kernel
theorem c171_42 : mc_cd 171 42 = some (.bipush 6, 2) := by decide +kernel
theorem c171_44 : mc_cd 171 44 = some (.newarray .int, 2) := by decide +kernel
theorem c171_46 : mc_cd 171 46 = some (.putfield 29, 3) := by decide +kernel
theorem c171_49 : mc_cd 171 49 = some (.aload_n 0, 1) := by decide +kernel
theorem c171_50 : mc_cd 171 50 = some (.bipush 6, 2) := by decide +kernel
theorem c171_52 : mc_cd 171 52 = some (.newarray .int, 2) := by decide +kernel
theorem c171_54 : mc_cd 171 54 = some (.putfield 32, 3) := by decide +kernel
theorem c171_57 : mc_cd 171 57 = some (.aload_n 0, 1) := by decide +kernel
theorem c171_58 : mc_cd 171 58 = some (.bipush 6, 2) := by decide +kernel
theorem c171_60 : mc_cd 171 60 = some (.newarray .int, 2) := by decide +kernel
theorem c171_62 : mc_cd 171 62 = some (.putfield 35, 3) := by decide +kernel
theorem c171_65 : mc_cd 171 65 = some (.aload_n 0, 1) := by decide +kernel
theorem c171_66 : mc_cd 171 66 = some (.bipush 6, 2) := by decide +kernel
theorem c171_68 : mc_cd 171 68 = some (.newarray .int, 2) := by decide +kernel
theorem c171_70 : mc_cd 171 70 = some (.putfield 38, 3) := by decide +kernel
theorem c171_73 : mc_cd 171 73 = some (.aload_n 0, 1) := by decide +kernel
theorem c171_74 : mc_cd 171 74 = some (.bipush 6, 2) := by decide +kernel
theorem c171_76 : mc_cd 171 76 = some (.newarray .boolean, 2) := by decide +kernel
theorem c171_78 : mc_cd 171 78 = some (.putfield 41, 3) := by decide +kernel
theorem c171_81 : mc_cd 171 81 = some (.aload_n 0, 1) := by decide +kernel
theorem c171_82 : mc_cd 171 82 = some (.iconst 3, 1) := by decide +kernel
theorem c171_83 : mc_cd 171 83 = some (.newarray .int, 2) := by decide +kernel
theorem c171_85 : mc_cd 171 85 = some (.putfield 45, 3) := by decide +kernel
theorem c171_88 : mc_cd 171 88 = some (.aload_n 0, 1) := by decide +kernel
theorem c171_89 : mc_cd 171 89 = some (.iconst 3, 1) := by decide +kernel
theorem c171_90 : mc_cd 171 90 = some (.newarray .int, 2) := by decide +kernel
theorem c171_92 : mc_cd 171 92 = some (.putfield 48, 3) := by decide +kernel
theorem c171_95 : mc_cd 171 95 = some (.aload_n 0, 1) := by decide +kernel
theorem c171_96 : mc_cd 171 96 = some (.iconst 3, 1) := by decide +kernel
theorem c171_97 : mc_cd 171 97 = some (.newarray .int, 2) := by decide +kernel
theorem c171_99 : mc_cd 171 99 = some (.putfield 51, 3) := by decide +kernel
theorem c171_102 : mc_cd 171 102 = some (.aload_n 0, 1) := by decide +kernel
theorem c171_103 : mc_cd 171 103 = some (.bipush 24, 2) := by decide +kernel
theorem c171_105 : mc_cd 171 105 = some (.newarray .int, 2) := by decide +kernel
theorem c171_107 : mc_cd 171 107 = some (.putfield 54, 3) := by decide +kernel
theorem c171_110 : mc_cd 171 110 = some (.aload_n 0, 1) := by decide +kernel
theorem c171_111 : mc_cd 171 111 = some (.iconst 4, 1) := by decide +kernel
theorem c171_112 : mc_cd 171 112 = some (.newarray .int, 2) := by decide +kernel
theorem c171_114 : mc_cd 171 114 = some (.putfield 57, 3) := by decide +kernel
theorem c171_117 : mc_cd 171 117 = some (.aload_n 0, 1) := by decide +kernel
theorem c171_118 : mc_cd 171 118 = some (.iconst 4, 1) := by decide +kernel
theorem c171_119 : mc_cd 171 119 = some (.newarray .int, 2) := by decide +kernel
theorem c171_121 : mc_cd 171 121 = some (.putfield 60, 3) := by decide +kernel
theorem c171_124 : mc_cd 171 124 = some (.aload_n 0, 1) := by decide +kernel
theorem c171_125 : mc_cd 171 125 = some (.iconst 4, 1) := by decide +kernel
theorem c171_126 : mc_cd 171 126 = some (.newarray .int, 2) := by decide +kernel
theorem c171_128 : mc_cd 171 128 = some (.putfield 63, 3) := by decide +kernel
theorem c171_131 : mc_cd 171 131 = some (.aload_n 0, 1) := by decide +kernel
theorem c171_132 : mc_cd 171 132 = some (.bipush 6, 2) := by decide +kernel
theorem c171_134 : mc_cd 171 134 = some (.newarray .int, 2) := by decide +kernel
theorem c171_136 : mc_cd 171 136 = some (.putfield 66, 3) := by decide +kernel
theorem c171_139 : mc_cd 171 139 = some (.aload_n 0, 1) := by decide +kernel
theorem c171_140 : mc_cd 171 140 = some (.bipush 6, 2) := by decide +kernel
theorem c171_142 : mc_cd 171 142 = some (.newarray .int, 2) := by decide +kernel
theorem c171_144 : mc_cd 171 144 = some (.putfield 69, 3) := by decide +kernel
theorem c171_147 : mc_cd 171 147 = some (.return_, 1) := by decide +kernel
theorem px_R {kt : Nat → Option mc_E} {d : Nat} {E : wq_E} {pc pc' : Nat} {L : List (Nat × Value)} {st : List Value} {T : wq_T} {H : wq_H} {K : Nat → List (Nat × Value) → List Value → wq_T → wq_H → Prop} {idx c j n a : Nat} {b : Bool} {z : Int} {v : Value} (hl : wlf E.1 idx c j b) (hs : T.1 a = some (100 + c, n)) (ha : 256 ≤ a) (hc : (decide (c < 11) && decide (j < mc_N.getD c 0) && decide (j < n) && (!(mc_T c j).2.2.2 || (E.2.2.1 && E.1 == c && !b))) = true) (hf : mc_fit (mc_t c j) v = true) (hv : wq_v (wq_fk c j) z = v) (hz : wq_in (wq_fk c j) z) (hp : pc + 3 = pc') (h : K pc' L st T (wq_u H a j z)) : wq_s kt d E (.putfield idx) 3 pc L (v :: .ref a :: st) T H K := by
  obtain ⟨e, he, hj, hb⟩ := hl
  subst hb
  simp only [Bool.and_eq_true, decide_eq_true_eq] at hc
  obtain ⟨⟨⟨h1, h2⟩, h3⟩, h4⟩ := hc
  exact rw_putf he hj hs ha ⟨decide_eq_true h1, decide_eq_true h2, h3, h4⟩ hf hv hz hp h
abbrev q_171 (T0 : wq_T) (H0 : wq_H) : Option Value → wq_T → wq_H → Prop := fun r T' H' => WT T' H' ∧ (∀ a t, T0.2.2.2 a = some t → T'.2.2.2 a = some t) ∧ T'.2.2.2 (256 + T0.2.1) = some 54 ∧ (∀ a, a < 256 + T0.2.1 → H' a = H0 a) ∧ wPI H' (256 + T0.2.1) = 1 ∧ T'.2.1 = T0.2.1 + 19 ∧ T'.2.2.1 ≤ T0.2.2.1 + 459 ∧ none = r
theorem wNP.all {T0 : wq_T} {H0 : wq_H} {T : wq_T} {H : wq_H} (h : wNP T0 H0 T H 18) (hx : wI (H (256 + T0.2.1) 8)) (hW : WT T0 H0) (hf : ∀ a, 256 + T0.2.1 ≤ a → T0.1 a = none) : q_171 T0 H0 none (T.1, T.2.1, T.2.2.1, wNPg T0) H := by
  refine ⟨h.done hx hW hf, wNPg_mono hW hf, if_pos rfl, fun a ha => (h.old a ha).2, ?_, h.n, h.z, rfl⟩
  refine wPI_of (h.fr 1 (by omega)) (h.fr 2 (by omega)) (h.fr 3 (by omega)) (h.fr 4 (by omega)) (fun k _ => ?_)
  rw [(h.ar 1 (by omega)).2, (h.ar 2 (by omega)).2, (h.ar 3 (by omega)).2, (h.ar 4 (by omega)).2]
  exact ⟨by decide, by decide⟩
