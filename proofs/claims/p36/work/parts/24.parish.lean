/-! NEW CELLS: rows of new and newarray over pure memory; a PARISH of the reference that is made (own work) -/
def wq_gT (T : wq_T) (s : Nat × Nat) (n : Nat) : wq_T := ((fun a => if a = 256 + T.2.1 then some s else T.1 a), T.2.1 + 1, T.2.2.1 + n, T.2.2.2)
def wq_gH (H : wq_H) (a : Nat) (g : Nat → Int) : wq_H := fun b => if b = a then g else H b
theorem wq_gH_eq {H : wq_H} {a : Nat} {g : Nat → Int} : wq_gH H a g a = g := if_pos rfl
theorem wq_gH_ne {H : wq_H} {a b : Nat} {g : Nat → Int} (h : b ≠ a) : wq_gH H a g b = H b := if_neg h
def wq_d (c j : Nat) : Int := if wq_fk c j = 2 then -1 else 0
section NEW

variable {kt : Nat → Option mc_E} {d : Nat} {E : wq_E} {pc pc' : Nat} {L : List (Nat × Value)} {st : List Value} {T : wq_T} {H : wq_H} {K : Nat → List (Nat × Value) → List Value → wq_T → wq_H → Prop}
end NEW
/-- how far the making of a PARISH is -/
def wNP (T0 : wq_T) (H0 : wq_H) (T : wq_T) (H : wq_H) (i : Nat) : Prop := (T.2.1 = T0.2.1 + 1 + i) ∧ (T.2.2.1 ≤ T0.2.2.1 + 27 + 24 * i) ∧ (T.2.2.2 = T0.2.2.2) ∧ (∀ a, a < 256 + T0.2.1 → T.1 a = T0.1 a ∧ H a = H0 a) ∧ (T.1 (256 + T0.2.1) = some (110, 27)) ∧ (∀ j, j < 8 → H (256 + T0.2.1) j = 0) ∧ (∀ k, k < i → H (256 + T0.2.1) (9 + k) = ((257 + T0.2.1 + k : Nat) : Int)) ∧ (∀ k, k < i → T.1 (257 + T0.2.1 + k) = some (wsh (55 + k)) ∧ ∀ j, H (257 + T0.2.1 + k) j = 0)
theorem wNP.n {T0 : wq_T} {H0 : wq_H} {T : wq_T} {H : wq_H} {i : Nat} (h : wNP T0 H0 T H i) : T.2.1 = T0.2.1 + 1 + i := h.1
theorem wNP.z {T0 : wq_T} {H0 : wq_H} {T : wq_T} {H : wq_H} {i : Nat} (h : wNP T0 H0 T H i) : T.2.2.1 ≤ T0.2.2.1 + 27 + 24 * i := h.2.1
theorem wNP.g {T0 : wq_T} {H0 : wq_H} {T : wq_T} {H : wq_H} {i : Nat} (h : wNP T0 H0 T H i) : T.2.2.2 = T0.2.2.2 := h.2.2.1
theorem wNP.old {T0 : wq_T} {H0 : wq_H} {T : wq_T} {H : wq_H} {i : Nat} (h : wNP T0 H0 T H i) : ∀ a, a < 256 + T0.2.1 → T.1 a = T0.1 a ∧ H a = H0 a := h.2.2.2.1
theorem wNP.ob {T0 : wq_T} {H0 : wq_H} {T : wq_T} {H : wq_H} {i : Nat} (h : wNP T0 H0 T H i) : T.1 (256 + T0.2.1) = some (110, 27) := h.2.2.2.2.1
theorem wNP.f0 {T0 : wq_T} {H0 : wq_H} {T : wq_T} {H : wq_H} {i : Nat} (h : wNP T0 H0 T H i) : ∀ j, j < 8 → H (256 + T0.2.1) j = 0 := h.2.2.2.2.2.1
theorem wNP.fr {T0 : wq_T} {H0 : wq_H} {T : wq_T} {H : wq_H} {i : Nat} (h : wNP T0 H0 T H i) : ∀ k, k < i → H (256 + T0.2.1) (9 + k) = ((257 + T0.2.1 + k : Nat) : Int) := h.2.2.2.2.2.2.1
theorem wNP.ar {T0 : wq_T} {H0 : wq_H} {T : wq_T} {H : wq_H} {i : Nat} (h : wNP T0 H0 T H i) : ∀ k, k < i → T.1 (257 + T0.2.1 + k) = some (wsh (55 + k)) ∧ ∀ j, H (257 + T0.2.1 + k) j = 0 := h.2.2.2.2.2.2.2
theorem wNP.mk {T0 : wq_T} {H0 : wq_H} {T : wq_T} {H : wq_H} {i : Nat} (n : T.2.1 = T0.2.1 + 1 + i) (z : T.2.2.1 ≤ T0.2.2.1 + 27 + 24 * i) (g : T.2.2.2 = T0.2.2.2) (old : ∀ a, a < 256 + T0.2.1 → T.1 a = T0.1 a ∧ H a = H0 a) (ob : T.1 (256 + T0.2.1) = some (110, 27)) (f0 : ∀ j, j < 8 → H (256 + T0.2.1) j = 0) (fr : ∀ k, k < i → H (256 + T0.2.1) (9 + k) = ((257 + T0.2.1 + k : Nat) : Int)) (ar : ∀ k, k < i → T.1 (257 + T0.2.1 + k) = some (wsh (55 + k)) ∧ ∀ j, H (257 + T0.2.1 + k) j = 0) : wNP T0 H0 T H i := ⟨n, z, g, old, ob, f0, fr, ar⟩
theorem wNP.zero {T0 : wq_T} {H0 : wq_H} : wNP T0 H0 (wq_gT T0 (110, 27) 27) (wq_gH H0 (256 + T0.2.1) (wq_d 10)) 0 := wNP.mk
  (n := rfl)
  (z := Nat.le_refl _)
  (g := rfl)
  (old := fun a ha => ⟨if_neg (by omega), wq_gH_ne (by omega)⟩)
  (ob := if_pos rfl)
  (f0 := fun j hj => by
    rw [wq_gH_eq]
    match j, hj with
    | 0, _ => rfl
    | 1, _ => rfl
    | 2, _ => rfl
    | 3, _ => rfl
    | 4, _ => rfl
    | 5, _ => rfl
    | 6, _ => rfl
    | 7, _ => rfl
    | j + 8, h => omega)
  (fr := fun k hk => absurd hk (Nat.not_lt_zero _))
  (ar := fun k hk => absurd hk (Nat.not_lt_zero _))
theorem wNP.next {T0 : wq_T} {H0 : wq_H} {T : wq_T} {H : wq_H} {i tt n : Nat} (h : wNP T0 H0 T H i) (hs : wsh (55 + i) = (tt, n)) (hn : n ≤ 24) : wNP T0 H0 (wq_gT T (tt, n) n) (wq_u (wq_gH H (256 + T.2.1) (fun _ => 0)) (256 + T0.2.1) (9 + i) ((256 + T.2.1 : Nat) : Int)) (i + 1) := by
  have hT := h.n
  exact wNP.mk
      (n := by show T.2.1 + 1 = _; omega)
      (z := by have := h.z; show T.2.2.1 + n ≤ _; omega)
      (g := h.g)
      (old := fun a ha => ⟨by show (if a = 256 + T.2.1 then _ else T.1 a) = _; rw [if_neg (by omega)]; exact (h.old a ha).1, by rw [← (h.old a ha).2]; funext j; rw [wq_u_na (by omega) j, wq_gH_ne (by omega)]⟩)
      (ob := by show (if 256 + T0.2.1 = 256 + T.2.1 then _ else T.1 _) = _; rw [if_neg (by omega)]; exact h.ob)
      (f0 := fun j hj => by rw [wq_u_ne (by omega), wq_gH_ne (by omega)]; exact h.f0 j hj)
      (fr := fun k hk => by
          by_cases hki : k = i
          · subst hki
            rw [wq_u_eq]
            omega
          · rw [wq_u_ne (by omega), wq_gH_ne (by omega)]
            exact h.fr k (by omega))
      (ar := fun k hk => by
          by_cases hki : k = i
          · subst hki
            have e : 257 + T0.2.1 + k = 256 + T.2.1 := by omega
            rw [e]
            refine ⟨by show (if 256 + T.2.1 = 256 + T.2.1 then _ else _) = _; rw [if_pos rfl, hs], fun j => ?_⟩
            rw [wq_u_na (by omega), wq_gH_eq]
          · refine ⟨by show (if 257 + T0.2.1 + k = 256 + T.2.1 then _ else T.1 _) = _; rw [if_neg (by omega)]; exact (h.ar k (by omega)).1, fun j => ?_⟩
            rw [wq_u_na (by omega), wq_gH_ne (by omega)]
            exact (h.ar k (by omega)).2 j)
/-- the tags, when it is made -/
def wNPg (T0 : wq_T) (a : Nat) : Option Nat := if a = 256 + T0.2.1 then some 54 else if 256 + T0.2.1 < a ∧ a ≤ 274 + T0.2.1 then some (55 + (a - 257 - T0.2.1)) else T0.2.2.2 a
theorem wok.mono {T T' : wq_T} {ty : Nat × Int × Int × Nat} {z : Int} (h : ∀ a t, T.2.2.2 a = some t → T'.2.2.2 a = some t) (hk : wok T ty z) : wok T' ty z := by
  obtain ⟨k, p, q, t⟩ := ty
  unfold wok at hk ⊢
  dsimp only at hk ⊢
  split at hk <;> first | exact hk | exact ⟨hk.1, h _ _ hk.2⟩ | exact hk.imp id (fun x => ⟨x.1, h _ _ x.2⟩) | exact ⟨hk.1, hk.2.imp (h _ _) (h _ _)⟩
theorem wNPg_mono {T0 : wq_T} {H0 : wq_H} (hW : WT T0 H0) (hf : ∀ a, 256 + T0.2.1 ≤ a → T0.1 a = none) : ∀ a t, T0.2.2.2 a = some t → wNPg T0 a = some t := fun a t h => by
  have h1 := (hW.2 a t h).1
  have h2 : a < 256 + T0.2.1 := by
    by_cases h3 : a < 256 + T0.2.1
    · exact h3
    · rw [hf a (by omega)] at h1
      cases h1
  unfold wNPg
  rw [if_neg (by omega), if_neg (by omega)]
  exact h
theorem wNP.tag {T0 : wq_T} {k : Nat} (hk : k < 18) : wNPg T0 (257 + T0.2.1 + k) = some (55 + k) := by
  unfold wNPg
  rw [if_neg (by omega), if_pos (by omega)]
  congr 1
  omega
theorem wNP.done {T0 : wq_T} {H0 : wq_H} {T : wq_T} {H : wq_H} (h : wNP T0 H0 T H 18) (hx : wI (H (256 + T0.2.1) 8)) (hW : WT T0 H0) (hf : ∀ a, 256 + T0.2.1 ≤ a → T0.1 a = none) : WT (T.1, T.2.1, T.2.2.1, wNPg T0) H := by
  have hm := wNPg_mono hW hf
  refine ⟨⟨hm _ _ hW.1.1, hm _ _ hW.1.2.1, fun i hi => hm _ _ (hW.1.2.2 i hi)⟩, fun a t ht => ?_⟩
  have ht : wNPg T0 a = some t := ht
  by_cases ha : a = 256 + T0.2.1
  · have e : t = 54 := by
      unfold wNPg at ht
      rw [if_pos ha] at ht
      exact (Option.some.inj ht).symm
    subst e
    subst ha
    refine ⟨h.ob, fun _ => by omega, fun j hj => ?_⟩
    have hj : j < 27 := hj
    match j, hj with
    | 0, _ => exact (by rw [h.f0 0 (by omega), ty_54_0]; exact ⟨by decide, by decide⟩)
    | 1, _ => exact (by rw [h.f0 1 (by omega), ty_54_1]; exact ⟨by decide, by decide⟩)
    | 2, _ => exact (by rw [h.f0 2 (by omega), ty_54_2]; exact ⟨by decide, by decide⟩)
    | 3, _ => exact (by rw [h.f0 3 (by omega), ty_54_3]; exact ⟨by decide, by decide⟩)
    | 4, _ => exact (by rw [h.f0 4 (by omega), ty_54_4]; exact ⟨by decide, by decide⟩)
    | 5, _ => exact (by rw [h.f0 5 (by omega), ty_54_5]; exact ⟨by decide, by decide⟩)
    | 6, _ => exact (by rw [h.f0 6 (by omega), ty_54_6]; exact ⟨by decide, by decide⟩)
    | 7, _ => exact (by rw [h.f0 7 (by omega), ty_54_7]; exact ⟨by decide, by decide⟩)
    | 8, _ => exact (by rw [ty_54_8]; exact hx)
    | 9, _ => exact (by have e := h.fr 0 (by omega); rw [show (9 : Nat) = 9 + 0 from rfl, e]; exact wok_2 ty_54_9 (wNP.tag (by omega)))
    | 10, _ => exact (by have e := h.fr 1 (by omega); rw [show (10 : Nat) = 9 + 1 from rfl, e]; exact wok_2 ty_54_10 (wNP.tag (by omega)))
    | 11, _ => exact (by have e := h.fr 2 (by omega); rw [show (11 : Nat) = 9 + 2 from rfl, e]; exact wok_2 ty_54_11 (wNP.tag (by omega)))
    | 12, _ => exact (by have e := h.fr 3 (by omega); rw [show (12 : Nat) = 9 + 3 from rfl, e]; exact wok_2 ty_54_12 (wNP.tag (by omega)))
    | 13, _ => exact (by have e := h.fr 4 (by omega); rw [show (13 : Nat) = 9 + 4 from rfl, e]; exact wok_2 ty_54_13 (wNP.tag (by omega)))
    | 14, _ => exact (by have e := h.fr 5 (by omega); rw [show (14 : Nat) = 9 + 5 from rfl, e]; exact wok_2 ty_54_14 (wNP.tag (by omega)))
    | 15, _ => exact (by have e := h.fr 6 (by omega); rw [show (15 : Nat) = 9 + 6 from rfl, e]; exact wok_2 ty_54_15 (wNP.tag (by omega)))
    | 16, _ => exact (by have e := h.fr 7 (by omega); rw [show (16 : Nat) = 9 + 7 from rfl, e]; exact wok_2 ty_54_16 (wNP.tag (by omega)))
    | 17, _ => exact (by have e := h.fr 8 (by omega); rw [show (17 : Nat) = 9 + 8 from rfl, e]; exact wok_2 ty_54_17 (wNP.tag (by omega)))
    | 18, _ => exact (by have e := h.fr 9 (by omega); rw [show (18 : Nat) = 9 + 9 from rfl, e]; exact wok_2 ty_54_18 (wNP.tag (by omega)))
    | 19, _ => exact (by have e := h.fr 10 (by omega); rw [show (19 : Nat) = 9 + 10 from rfl, e]; exact wok_2 ty_54_19 (wNP.tag (by omega)))
    | 20, _ => exact (by have e := h.fr 11 (by omega); rw [show (20 : Nat) = 9 + 11 from rfl, e]; exact wok_2 ty_54_20 (wNP.tag (by omega)))
    | 21, _ => exact (by have e := h.fr 12 (by omega); rw [show (21 : Nat) = 9 + 12 from rfl, e]; exact wok_2 ty_54_21 (wNP.tag (by omega)))
    | 22, _ => exact (by have e := h.fr 13 (by omega); rw [show (22 : Nat) = 9 + 13 from rfl, e]; exact wok_2 ty_54_22 (wNP.tag (by omega)))
    | 23, _ => exact (by have e := h.fr 14 (by omega); rw [show (23 : Nat) = 9 + 14 from rfl, e]; exact wok_2 ty_54_23 (wNP.tag (by omega)))
    | 24, _ => exact (by have e := h.fr 15 (by omega); rw [show (24 : Nat) = 9 + 15 from rfl, e]; exact wok_2 ty_54_24 (wNP.tag (by omega)))
    | 25, _ => exact (by have e := h.fr 16 (by omega); rw [show (25 : Nat) = 9 + 16 from rfl, e]; exact wok_2 ty_54_25 (wNP.tag (by omega)))
    | 26, _ => exact (by have e := h.fr 17 (by omega); rw [show (26 : Nat) = 9 + 17 from rfl, e]; exact wok_2 ty_54_26 (wNP.tag (by omega)))
    | j + 27, h => omega
  · by_cases hb : 256 + T0.2.1 < a ∧ a ≤ 274 + T0.2.1
    · obtain ⟨k, hk, rfl⟩ : ∃ k, k < 18 ∧ a = 257 + T0.2.1 + k := ⟨a - 257 - T0.2.1, by omega, by omega⟩
      rw [wNP.tag hk] at ht
      cases ht
      refine ⟨(h.ar k hk).1, fun _ => by omega, fun j hj => ?_⟩
      rw [(h.ar k hk).2 j]
      match k, hk with
      | 0, _ => exact (by rw [show 55 + 0 = 55 from rfl, ty_55]; exact ⟨by decide, by decide⟩)
      | 1, _ => exact (by rw [show 55 + 1 = 56 from rfl, ty_56]; exact ⟨by decide, by decide⟩)
      | 2, _ => exact (by rw [show 55 + 2 = 57 from rfl, ty_57]; exact ⟨by decide, by decide⟩)
      | 3, _ => exact (by rw [show 55 + 3 = 58 from rfl, ty_58]; exact ⟨by decide, by decide⟩)
      | 4, _ => exact (by rw [show 55 + 4 = 59 from rfl, ty_59]; exact ⟨by decide, by decide⟩)
      | 5, _ => exact (by rw [show 55 + 5 = 60 from rfl, ty_60]; exact ⟨by decide, by decide⟩)
      | 6, _ => exact (by rw [show 55 + 6 = 61 from rfl, ty_61]; exact ⟨by decide, by decide⟩)
      | 7, _ => exact (by rw [show 55 + 7 = 62 from rfl, ty_62]; exact ⟨by decide, by decide⟩)
      | 8, _ => exact (by rw [show 55 + 8 = 63 from rfl, ty_63]; exact ⟨by decide, by decide⟩)
      | 9, _ => exact (by rw [show 55 + 9 = 64 from rfl, ty_64]; exact ⟨by decide, by decide⟩)
      | 10, _ => exact (by rw [show 55 + 10 = 65 from rfl, ty_65]; exact ⟨by decide, by decide⟩)
      | 11, _ => exact (by rw [show 55 + 11 = 66 from rfl, ty_66]; exact ⟨by decide, by decide⟩)
      | 12, _ => exact (by rw [show 55 + 12 = 67 from rfl, ty_67]; exact ⟨by decide, by decide⟩)
      | 13, _ => exact (by rw [show 55 + 13 = 68 from rfl, ty_68]; exact ⟨by decide, by decide⟩)
      | 14, _ => exact (by rw [show 55 + 14 = 69 from rfl, ty_69]; exact ⟨by decide, by decide⟩)
      | 15, _ => exact (by rw [show 55 + 15 = 70 from rfl, ty_70]; exact ⟨by decide, by decide⟩)
      | 16, _ => exact (by rw [show 55 + 16 = 71 from rfl, ty_71]; exact ⟨by decide, by decide⟩)
      | 17, _ => exact (by rw [show 55 + 17 = 72 from rfl, ty_72]; exact ⟨by decide, by decide⟩)
      | k + 18, h => omega
    · have ht0 : T0.2.2.2 a = some t := by
        unfold wNPg at ht
        rw [if_neg ha, if_neg hb] at ht
        exact ht
      obtain ⟨h1, h2, h3⟩ := hW.2 a t ht0
      have hlt : a < 256 + T0.2.1 := by
        by_cases h4 : a < 256 + T0.2.1
        · exact h4
        · rw [hf a (by omega)] at h1
          cases h1
      refine ⟨by show T.1 a = _; rw [(h.old a hlt).1]; exact h1, h2, fun j hj => ?_⟩
      rw [(h.old a hlt).2]
      exact wok.mono hm (h3 j hj)
abbrev q_171 (T0 : wq_T) (H0 : wq_H) : Option Value → wq_T → wq_H → Prop := fun r T' H' => WT T' H' ∧ (∀ a t, T0.2.2.2 a = some t → T'.2.2.2 a = some t) ∧ T'.2.2.2 (256 + T0.2.1) = some 54 ∧ (∀ a, a < 256 + T0.2.1 → H' a = H0 a) ∧ wPI H' (256 + T0.2.1) = 1 ∧ T'.2.1 = T0.2.1 + 19 ∧ T'.2.2.1 ≤ T0.2.2.1 + 459 ∧ none = r
theorem wNP.all {T0 : wq_T} {H0 : wq_H} {T : wq_T} {H : wq_H} (h : wNP T0 H0 T H 18) (hx : wI (H (256 + T0.2.1) 8)) (hW : WT T0 H0) (hf : ∀ a, 256 + T0.2.1 ≤ a → T0.1 a = none) : q_171 T0 H0 none (T.1, T.2.1, T.2.2.1, wNPg T0) H := by
  refine ⟨h.done hx hW hf, wNPg_mono hW hf, if_pos rfl, fun a ha => (h.old a ha).2, ?_, h.n, h.z, rfl⟩
  refine wPI_of (h.fr 1 (by omega)) (h.fr 2 (by omega)) (h.fr 3 (by omega)) (h.fr 4 (by omega)) (fun k _ => ?_)
  rw [(h.ar 1 (by omega)).2, (h.ar 2 (by omega)).2, (h.ar 3 (by omega)).2, (h.ar 4 (by omega)).2]
  exact ⟨by decide, by decide⟩
