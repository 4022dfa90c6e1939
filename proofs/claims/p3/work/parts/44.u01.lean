/-! what methods do (own work, written by wip/gen3/sx3.py) -/
/-! StrikeAwake$Parish.personNamed(J)I  -/
abbrev uq_27 (r0 : Nat) (a1 : Int) (d : xD) (y : Int) (T : wq_T) (H : wq_H) : Option Value → wq_T → wq_H → Prop := fun r T' H' => T = T' ∧ H = H' ∧ ∃ z : Int, some (vI z) = r ∧ ((-2147483648) ≤ z ∧ z ≤ 2147483647) ∧ (((-1 ≤ z ∧ z ≤ 5) ∧ (z = xfi (d 1) (d 0 3) y)))
set_option maxHeartbeats 4000000 in
theorem u_27 {kt : Nat → Option mc_E} {T : wq_T} {H : wq_H} {r0 : Nat} {a1 : Int} {d : xD} {y : Int} (hW : WT T H) (g0 : T.2.2.2 r0 = some 27) (i1 : (-9223372036854775808) ≤ a1 ∧ a1 ≤ 9223372036854775807) (p0 : a1 = y) (hDC_r0 : DC T H r0 d) : wpc kt 1 27 [.ref r0, vL a1] T H (uq_27 r0 a1 d y T H) := by
  refine wp_enter e27 (Nat.le_of_ble_eq_true rfl) rfl ?_
  show wp _ _ 27 0 [(0, .ref r0), (1, vL a1)] [] _ H _
  have u231237 := DC_k hDC_r0
  refine wp_of e27 c27_0 (rw_iconst (pc' := 1) rfl ?_)
  refine wp_of e27 c27_1 (rw_istore_n (pc' := 2) (z := 0) (L' := [(3, vI 0), (0, .ref r0), (1, vL a1)]) rfl rfl rfl ?_)
  have lp231336 : ∀ (n231337 : Nat) (v231339 : Int), (0 ≤ v231339 ∧ v231339 ≤ 6) → (xfr (d 1) (d 0 3) y v231339 = xfi (d 1) (d 0 3) y) → (6 - v231339).toNat = n231337 → wp kt 0 27 2 [(3, vI v231339), (0, .ref r0), (1, vL a1)] [] T H (uq_27 r0 a1 d y T H) := by
    intro n231337
    induction n231337 using Nat.strongRecOn with
    | _ n231337 ih231338 =>
      intro v231339 b231342 x231343 m231344
      refine wp_of e27 c27_2 (rw_iload_n (pc' := 3) (z := v231339) rfl rfl ?_)
      refine wp_of e27 c27_3 (rw_aload_n (pc' := 4) (v := .ref r0) rfl rfl rfl ?_)
      refine wp_of e27 c27_4 (xg_I (pc' := 7) lf_7_50 hW g0 sh_27 (by decide) (by decide) ty_27_10 rfl rfl (fun b231345 b231346 => ?_))
      refine wp_of e27 c27_7 (rw_icmp_ge (p1 := 32) (p2 := 10) (by decide) rfl ⟨by omega, by omega⟩ ⟨by omega, by omega⟩ (fun c231347 => ?_) (fun c231347 => ?_))
      · have := @xfr_n (d 1) (d 0 3) y v231339 (by omega)
        refine wp_of e27 c27_32 (rw_iconst (pc' := 33) rfl ?_)
        exact wp_ireturn e27 c27_33 rfl ⟨rfl, rfl, -1, rfl, ⟨by omega, by omega⟩, ⟨by omega, by omega⟩⟩
      · refine wp_of e27 c27_10 (rw_aload_n (pc' := 11) (v := .ref r0) rfl rfl rfl ?_)
        refine wp_of e27 c27_11 (xg_R (pc' := 14) lf_7_11 hW g0 sh_27 (by decide) (by decide) ty_27_0 rfl rfl (fun r231348 q231349 g231350 => ?_))
        refine wp_of e27 c27_14 (rw_iload_n (pc' := 15) (z := v231339) rfl rfl ?_)
        refine wp_of e27 c27_15 (xa_R (pc' := 16) (by decide) hW g231350 sh_28 (by decide) (ty_28 _) (by omega) (by omega) rfl (fun r231351 q231352 g231353 => ?_))
        have := DC_nm hDC_r0 q231349 q231352 (by omega)
        refine wp_of e27 c27_16 (xg_L (pc' := 19) lf_7_86 hW g231353 sh_35 (by decide) (by decide) ty_35_6 rfl rfl (fun b231354 b231355 => ?_))
        refine wp_of e27 c27_19 (rw_lload_n (pc' := 20) (z := a1) rfl rfl ?_)
        refine wp_of e27 c27_20 (rw_lcmp (pc' := 21) rfl ⟨by omega, by omega⟩ ⟨by omega, by omega⟩ ?_)
        have b231356 := wq_cmp_b (H r231351 6) a1
        refine wp_of e27 c27_21 (rw_if_ne (p1 := 26) (p2 := 24) (by decide) rfl ⟨by omega, by omega⟩ (fun c231357 => ?_) (fun c231357 => ?_))
        · have := @xfr_s (d 1) (d 0 3) y v231339 (by omega) (by omega)
          refine wp_of e27 c27_26 (rw_iinc (pc' := 29) (z := v231339) (L' := [(3, vI (v231339 + 1)), (0, .ref r0), (1, vL a1)]) rfl rfl rfl rfl ?_)
          refine wp_of e27 c27_29 (rw_goto (p1 := 2) (by decide) ?_)
          exact wp_lc (ks := [3, 0, 1]) (wl_c rfl (wl_c rfl (wl_c rfl wl_n))) rfl (by decide) (ih231338 _ (by omega) (v231339 + 1) ⟨by omega, by omega⟩ (by omega) rfl)
        · have := @xfr_e (d 1) (d 0 3) y v231339 (by omega) (by omega)
          refine wp_of e27 c27_24 (rw_iload_n (pc' := 25) (z := v231339) rfl rfl ?_)
          exact wp_ireturn e27 c27_25 rfl ⟨rfl, rfl, v231339, rfl, ⟨by omega, by omega⟩, ⟨by omega, by omega⟩⟩
  have : xfr (d 1) (d 0 3) y 0 = xfi (d 1) (d 0 3) y := rfl
  exact wp_lc (ks := [3, 0, 1]) (wl_c rfl (wl_c rfl (wl_c rfl wl_n))) rfl (by decide) (lp231336 _ 0 ⟨by omega, by omega⟩ (by omega) rfl)
/-! StrikeAwake$Reader.knownPerson(LStrikeAwake$Parish;)I  -/
abbrev uq_33 (r0 : Nat) (r1 : Nat) (tk : Nat) (rb : Nat) (B : Nat → Int) (n : Int) (q : Int) (d : xD) (T : wq_T) (H : wq_H) : Option Value → wq_T → wq_H → Prop := fun r T' H' => T = T' ∧ WT T H' ∧ wfr [(3, 3), (3, 4)] T H H' ∧ ∃ z : Int, some (vI z) = r ∧ ((-2147483648) ≤ z ∧ z ≤ 2147483647) ∧ (((0 ≤ z ∧ z ≤ 5) ∧ (xkn B n q d = 0) ∧ (z = xwho B n q d) ∧ (z < d 0 3)) ∨ ((z = -1) ∧ (xkn B n q d ≠ 0) ∧ (H' r0 3 = (xkn B n q d)) ∧ (H' r0 4 = q)))
set_option maxHeartbeats 4000000 in
theorem u_33 {kt : Nat → Option mc_E} {T : wq_T} {H : wq_H} {r0 : Nat} {r1 : Nat} {tk : Nat} {rb : Nat} {B : Nat → Int} {n : Int} {q : Int} {d : xD} (hW : WT T H) (g0 : T.2.2.2 r0 = some 3) (g1 : T.2.2.2 r1 = some 27) (qtk : H r0 0 = (tk : Int)) (gtk : T.2.2.2 tk = some 4) (qrb : H tk 0 = (rb : Int)) (grb : T.2.2.2 rb = some 2) (hTC_tk : TC T H tk B n q) (hDC_r1 : DC T H r1 d) : wpc kt 4 33 [.ref r0, .ref r1] T H (uq_33 r0 r1 tk rb B n q d T H) := by
  refine wp_enter e33 (Nat.le_of_ble_eq_true rfl) rfl ?_
  have f0 : wfr [(3, 3), (3, 4)] T H H := wfr.rf
  show wp _ _ 33 0 [(0, .ref r0), (1, .ref r1)] [] _ H _
  have u231419 := TC_k hTC_tk
  have u231420 := DC_k hDC_r1
  have _x1 := @xkn_b d B n q
  have _x2 := @xwho_e d B n q
  have _x3 := @xre_b B n q
  have _i := TC_i hTC_tk
  refine wp_of e33 c33_0 (rw_aload_n (pc' := 1) (v := .ref r0) rfl rfl rfl ?_)
  refine wp_of e33 c33_1 (xc_V (pc' := 4) (r := r0) (as := []) (st := []) (lm_1_131) rfl rfl (Nat.le_of_ble_eq_true rfl) hW g0 sh_3 (by decide) rfl (by decide) (u_26 (B := B) (n := n) (q := q) hW g0 qtk gtk qrb grb hTC_tk) (fun R231421 T231422 H231423 p231424 => ?_))
  obtain ⟨e231425, e231427, z231428, e231426, b231429, p231430⟩ := p231424
  subst e231425
  subst e231426
  subst e231427
  rcases p231430 with ⟨a231431, a231432⟩ | ⟨a231433, a231434⟩
  · show wp _ _ 33 4 [(0, .ref r0), (1, .ref r1)] [vI z231428] _ H _
    refine wp_of e33 c33_4 (rw_if_ne (p1 := 15) (p2 := 7) (by decide) rfl ⟨by omega, by omega⟩ (fun c231435 => ?_) (fun c231435 => ?_))
    · refine wp_of e33 c33_15 (rw_aload_n (pc' := 16) (v := .ref r1) rfl rfl rfl ?_)
      refine wp_of e33 c33_16 (rw_aload_n (pc' := 17) (v := .ref r0) rfl rfl rfl ?_)
      refine wp_of e33 c33_17 (xg_K (pc' := 20) lf_1_12 hW g0 sh_3 (by decide) (by decide) rfl qtk rfl ?_)
      refine wp_of e33 c33_20 (xg_L (pc' := 23) lf_1_135 hW gtk sh_4 (by decide) (by decide) ty_4_6 rfl rfl (fun b231436 b231437 => ?_))
      refine wp_of e33 c33_23 (xc_V (pc' := 26) (r := r1) (as := [vL (H tk 6)]) (st := []) (lm_1_139) rfl rfl (Nat.le_of_ble_eq_true rfl) hW g1 sh_27 (by decide) rfl (by decide) (u_27 (d := d) (y := (xY B n q)) hW g1 ⟨by omega, by omega⟩ (by omega) hDC_r1) (fun R231438 T231439 H231440 p231441 => ?_))
      obtain ⟨e231442, e231444, z231445, e231443, b231446, p231447⟩ := p231441
      subst e231442
      subst e231443
      subst e231444
      obtain ⟨a231448, a231449⟩ := p231447
      show wp _ _ 33 26 [(0, .ref r0), (1, .ref r1)] [vI z231445] _ H _
      refine wp_of e33 c33_26 (rw_istore_n (pc' := 27) (z := z231445) (L' := [(2, vI z231445), (0, .ref r0), (1, .ref r1)]) rfl rfl rfl ?_)
      refine wp_of e33 c33_27 (rw_iload_n (pc' := 28) (z := z231445) rfl rfl ?_)
      refine wp_of e33 c33_28 (rw_if_ge (p1 := 37) (p2 := 31) (by decide) rfl ⟨by omega, by omega⟩ (fun c231450 => ?_) (fun c231450 => ?_))
      · refine wp_of e33 c33_37 (rw_iload_n (pc' := 38) (z := z231445) rfl rfl ?_)
        exact wp_ireturn e33 c33_38 rfl ⟨rfl, hW, f0, z231445, rfl, ⟨by omega, by omega⟩, (Or.inl ⟨by omega, by omega, by omega, by omega⟩)⟩
      · refine wp_of e33 c33_31 (rw_aload_n (pc' := 32) (v := .ref r0) rfl rfl rfl ?_)
        refine wp_of e33 c33_32 (rw_iconst (pc' := 33) rfl ?_)
        refine wp_of e33 c33_33 (xc_V (pc' := 36) (r := r0) (as := [vI 2]) (st := []) (lm_1_47) rfl rfl (Nat.le_of_ble_eq_true rfl) hW g0 sh_3 (by decide) rfl (by decide) (u_20  hW g0 ⟨by omega, by omega⟩ qtk gtk) (fun R231451 T231452 H231453 p231454 => ?_))
        obtain ⟨e231455, w231457, f231458, z231459, e231456, b231460, p231461⟩ := p231454
        subst e231455
        subst e231456
        obtain ⟨a231462, a231463, a231464⟩ := p231461
        have f231465 := f0.tr f231458 rfl
        show wp _ _ 33 36 [(2, vI z231445), (0, .ref r0), (1, .ref r1)] [vI z231459] _ H231453 _
        refine wp_of e33 c33_36 (rw_pop (pc' := 37) rfl rfl ?_)
        refine wp_of e33 c33_37 (rw_iload_n (pc' := 38) (z := z231445) rfl rfl ?_)
        exact wp_ireturn e33 c33_38 rfl ⟨rfl, w231457, f231465, z231445, rfl, ⟨by omega, by omega⟩, (Or.inr ⟨by omega, by omega, by omega, by omega⟩)⟩
    · exfalso
      omega
  · show wp _ _ 33 4 [(0, .ref r0), (1, .ref r1)] [vI z231428] _ H _
    refine wp_of e33 c33_4 (rw_if_ne (p1 := 15) (p2 := 7) (by decide) rfl ⟨by omega, by omega⟩ (fun c231466 => ?_) (fun c231466 => ?_))
    · exfalso
      omega
    · refine wp_of e33 c33_7 (rw_aload_n (pc' := 8) (v := .ref r0) rfl rfl rfl ?_)
      refine wp_of e33 c33_8 (rw_iconst (pc' := 9) rfl ?_)
      refine wp_of e33 c33_9 (xc_V (pc' := 12) (r := r0) (as := [vI 1]) (st := []) (lm_1_47) rfl rfl (Nat.le_of_ble_eq_true rfl) hW g0 sh_3 (by decide) rfl (by decide) (u_20  hW g0 ⟨by omega, by omega⟩ qtk gtk) (fun R231467 T231468 H231469 p231470 => ?_))
      obtain ⟨e231471, w231473, f231474, z231475, e231472, b231476, p231477⟩ := p231470
      subst e231471
      subst e231472
      obtain ⟨a231478, a231479, a231480⟩ := p231477
      have f231481 := f0.tr f231474 rfl
      show wp _ _ 33 12 [(0, .ref r0), (1, .ref r1)] [vI z231475] _ H231469 _
      refine wp_of e33 c33_12 (rw_pop (pc' := 13) rfl rfl ?_)
      refine wp_of e33 c33_13 (rw_iconst (pc' := 14) rfl ?_)
      exact wp_ireturn e33 c33_14 rfl ⟨rfl, w231473, f231481, -1, rfl, ⟨by omega, by omega⟩, (Or.inr ⟨by omega, by omega, by omega, by omega⟩)⟩
/-! StrikeAwake$Parish.linesOf(LStrikeAwake$Reserved;)I 16 -/
abbrev uq_21_16 (r0 : Nat) (T : wq_T) (H : wq_H) : Option Value → wq_T → wq_H → Prop := fun r T' H' => T = T' ∧ H = H' ∧ ∃ z : Int, some (vI z) = r ∧ ((-2147483648) ≤ z ∧ z ≤ 2147483647) ∧ (((z = 1) ∧ (0 < H r0 7)) ∨ ((z = 0) ∧ (H r0 7 ≤ 0)))
set_option maxHeartbeats 4000000 in
theorem u_21_16 {kt : Nat → Option mc_E} {T : wq_T} {H : wq_H} {r0 : Nat} (hW : WT T H) (g0 : T.2.2.2 r0 = some 27) : wpc kt 1 21 [.ref r0, .ref 16] T H (uq_21_16 r0 T H) := by
  refine wp_enter e21 (Nat.le_of_ble_eq_true rfl) rfl ?_
  show wp _ _ 21 0 [(0, .ref r0), (1, .ref 16)] [] _ H _
  refine wp_of e21 c21_0 (rw_gs (pc' := 3) (k := 2) rfl rfl rfl rfl ?_)
  refine wp_of e21 c21_3 (rw_aload_n (pc' := 4) (v := .ref 16) rfl rfl rfl ?_)
  refine wp_of e21 c21_4 (rw_ord (pc' := 7) rfl rfl rfl (by decide) (Nat.le_of_ble_eq_true rfl) rfl ?_)
  show wp _ _ 21 7 [(0, .ref r0), (1, .ref 16)] [vI 0, .ref 2] _ H _
  have k231487 : H 2 (0 : Int).toNat = 1 := (hW.2 2 _ hW.1.2.1).2.2 0 (by decide) |> fun z => by have z1 : (1 : Int) ≤ H 2 0 ∧ H 2 0 ≤ 1 := z; exact Int.le_antisymm z1.2 z1.1
  refine wp_of e21 c21_7 (rw_iaload (pc' := 8) (n := 11) (hW.sh hW.1.2.1 rfl) (by decide) (by decide) (by decide) rfl rfl ?_)
  rw [k231487]
  refine wp_of e21 c21_8 (rw_tsw (p1 := 56) ⟨by omega, by omega⟩ (by decide) ?_)
  refine wp_of e21 c21_56 (rw_aload_n (pc' := 57) (v := .ref r0) rfl rfl rfl ?_)
  refine wp_of e21 c21_57 (xg_I (pc' := 60) lf_7_41 hW g0 sh_27 (by decide) (by decide) ty_27_7 rfl rfl (fun b231489 b231490 => ?_))
  refine wp_of e21 c21_60 (rw_if_le (p1 := 67) (p2 := 63) (by decide) rfl ⟨by omega, by omega⟩ (fun c231491 => ?_) (fun c231491 => ?_))
  · refine wp_of e21 c21_67 (rw_iconst (pc' := 68) rfl ?_)
    exact wp_ireturn e21 c21_68 rfl ⟨rfl, rfl, 0, rfl, ⟨by omega, by omega⟩, (Or.inr ⟨by omega, by omega⟩)⟩
  · refine wp_of e21 c21_63 (rw_iconst (pc' := 64) rfl ?_)
    refine wp_of e21 c21_64 (rw_goto (p1 := 68) (by decide) ?_)
    exact wp_ireturn e21 c21_68 rfl ⟨rfl, rfl, 1, rfl, ⟨by omega, by omega⟩, (Or.inl ⟨by omega, by omega⟩)⟩
/-! StrikeAwake$Parish.linesOf(LStrikeAwake$Reserved;)I 17 -/
abbrev uq_21_17 (r0 : Nat) (T : wq_T) (H : wq_H) : Option Value → wq_T → wq_H → Prop := fun r T' H' => T = T' ∧ H = H' ∧ ∃ z : Int, some (vI z) = r ∧ ((-2147483648) ≤ z ∧ z ≤ 2147483647) ∧ (((0 ≤ z ∧ z ≤ 6) ∧ (z = H r0 10)))
set_option maxHeartbeats 4000000 in
theorem u_21_17 {kt : Nat → Option mc_E} {T : wq_T} {H : wq_H} {r0 : Nat} (hW : WT T H) (g0 : T.2.2.2 r0 = some 27) : wpc kt 1 21 [.ref r0, .ref 17] T H (uq_21_17 r0 T H) := by
  refine wp_enter e21 (Nat.le_of_ble_eq_true rfl) rfl ?_
  show wp _ _ 21 0 [(0, .ref r0), (1, .ref 17)] [] _ H _
  refine wp_of e21 c21_0 (rw_gs (pc' := 3) (k := 2) rfl rfl rfl rfl ?_)
  refine wp_of e21 c21_3 (rw_aload_n (pc' := 4) (v := .ref 17) rfl rfl rfl ?_)
  refine wp_of e21 c21_4 (rw_ord (pc' := 7) rfl rfl rfl (by decide) (Nat.le_of_ble_eq_true rfl) rfl ?_)
  show wp _ _ 21 7 [(0, .ref r0), (1, .ref 17)] [vI 1, .ref 2] _ H _
  have k231496 : H 2 (1 : Int).toNat = 2 := (hW.2 2 _ hW.1.2.1).2.2 1 (by decide) |> fun z => by have z1 : (2 : Int) ≤ H 2 1 ∧ H 2 1 ≤ 2 := z; exact Int.le_antisymm z1.2 z1.1
  refine wp_of e21 c21_7 (rw_iaload (pc' := 8) (n := 11) (hW.sh hW.1.2.1 rfl) (by decide) (by decide) (by decide) rfl rfl ?_)
  rw [k231496]
  refine wp_of e21 c21_8 (rw_tsw (p1 := 69) ⟨by omega, by omega⟩ (by decide) ?_)
  refine wp_of e21 c21_69 (rw_aload_n (pc' := 70) (v := .ref r0) rfl rfl rfl ?_)
  refine wp_of e21 c21_70 (xg_I (pc' := 73) lf_7_50 hW g0 sh_27 (by decide) (by decide) ty_27_10 rfl rfl (fun b231498 b231499 => ?_))
  exact wp_ireturn e21 c21_73 rfl ⟨rfl, rfl, H r0 10, rfl, ⟨by omega, by omega⟩, ⟨by omega, by omega⟩⟩
/-! StrikeAwake$Parish.linesOf(LStrikeAwake$Reserved;)I 18 -/
abbrev uq_21_18 (r0 : Nat) (T : wq_T) (H : wq_H) : Option Value → wq_T → wq_H → Prop := fun r T' H' => T = T' ∧ H = H' ∧ ∃ z : Int, some (vI z) = r ∧ ((-2147483648) ≤ z ∧ z ≤ 2147483647) ∧ (((z = 1) ∧ (0 ≤ H r0 15)) ∨ ((z = 0) ∧ (H r0 15 < 0)))
set_option maxHeartbeats 4000000 in
theorem u_21_18 {kt : Nat → Option mc_E} {T : wq_T} {H : wq_H} {r0 : Nat} (hW : WT T H) (g0 : T.2.2.2 r0 = some 27) : wpc kt 1 21 [.ref r0, .ref 18] T H (uq_21_18 r0 T H) := by
  refine wp_enter e21 (Nat.le_of_ble_eq_true rfl) rfl ?_
  show wp _ _ 21 0 [(0, .ref r0), (1, .ref 18)] [] _ H _
  refine wp_of e21 c21_0 (rw_gs (pc' := 3) (k := 2) rfl rfl rfl rfl ?_)
  refine wp_of e21 c21_3 (rw_aload_n (pc' := 4) (v := .ref 18) rfl rfl rfl ?_)
  refine wp_of e21 c21_4 (rw_ord (pc' := 7) rfl rfl rfl (by decide) (Nat.le_of_ble_eq_true rfl) rfl ?_)
  show wp _ _ 21 7 [(0, .ref r0), (1, .ref 18)] [vI 2, .ref 2] _ H _
  have k231505 : H 2 (2 : Int).toNat = 3 := (hW.2 2 _ hW.1.2.1).2.2 2 (by decide) |> fun z => by have z1 : (3 : Int) ≤ H 2 2 ∧ H 2 2 ≤ 3 := z; exact Int.le_antisymm z1.2 z1.1
  refine wp_of e21 c21_7 (rw_iaload (pc' := 8) (n := 11) (hW.sh hW.1.2.1 rfl) (by decide) (by decide) (by decide) rfl rfl ?_)
  rw [k231505]
  refine wp_of e21 c21_8 (rw_tsw (p1 := 74) ⟨by omega, by omega⟩ (by decide) ?_)
  refine wp_of e21 c21_74 (rw_aload_n (pc' := 75) (v := .ref r0) rfl rfl rfl ?_)
  refine wp_of e21 c21_75 (xg_I (pc' := 78) lf_7_37 hW g0 sh_27 (by decide) (by decide) ty_27_15 rfl rfl (fun b231507 b231508 => ?_))
  refine wp_of e21 c21_78 (rw_if_lt (p1 := 85) (p2 := 81) (by decide) rfl ⟨by omega, by omega⟩ (fun c231509 => ?_) (fun c231509 => ?_))
  · refine wp_of e21 c21_85 (rw_iconst (pc' := 86) rfl ?_)
    exact wp_ireturn e21 c21_86 rfl ⟨rfl, rfl, 0, rfl, ⟨by omega, by omega⟩, (Or.inr ⟨by omega, by omega⟩)⟩
  · refine wp_of e21 c21_81 (rw_iconst (pc' := 82) rfl ?_)
    refine wp_of e21 c21_82 (rw_goto (p1 := 86) (by decide) ?_)
    exact wp_ireturn e21 c21_86 rfl ⟨rfl, rfl, 1, rfl, ⟨by omega, by omega⟩, (Or.inl ⟨by omega, by omega⟩)⟩
/-! StrikeAwake$Parish.linesOf(LStrikeAwake$Reserved;)I 19 -/
abbrev uq_21_19 (r0 : Nat) (T : wq_T) (H : wq_H) : Option Value → wq_T → wq_H → Prop := fun r T' H' => T = T' ∧ H = H' ∧ ∃ z : Int, some (vI z) = r ∧ ((-2147483648) ≤ z ∧ z ≤ 2147483647) ∧ (((-2147483648 ≤ z ∧ z ≤ 2147483647) ∧ (z = H r0 11)))
set_option maxHeartbeats 4000000 in
theorem u_21_19 {kt : Nat → Option mc_E} {T : wq_T} {H : wq_H} {r0 : Nat} (hW : WT T H) (g0 : T.2.2.2 r0 = some 27) : wpc kt 1 21 [.ref r0, .ref 19] T H (uq_21_19 r0 T H) := by
  refine wp_enter e21 (Nat.le_of_ble_eq_true rfl) rfl ?_
  show wp _ _ 21 0 [(0, .ref r0), (1, .ref 19)] [] _ H _
  refine wp_of e21 c21_0 (rw_gs (pc' := 3) (k := 2) rfl rfl rfl rfl ?_)
  refine wp_of e21 c21_3 (rw_aload_n (pc' := 4) (v := .ref 19) rfl rfl rfl ?_)
  refine wp_of e21 c21_4 (rw_ord (pc' := 7) rfl rfl rfl (by decide) (Nat.le_of_ble_eq_true rfl) rfl ?_)
  show wp _ _ 21 7 [(0, .ref r0), (1, .ref 19)] [vI 3, .ref 2] _ H _
  have k231514 : H 2 (3 : Int).toNat = 4 := (hW.2 2 _ hW.1.2.1).2.2 3 (by decide) |> fun z => by have z1 : (4 : Int) ≤ H 2 3 ∧ H 2 3 ≤ 4 := z; exact Int.le_antisymm z1.2 z1.1
  refine wp_of e21 c21_7 (rw_iaload (pc' := 8) (n := 11) (hW.sh hW.1.2.1 rfl) (by decide) (by decide) (by decide) rfl rfl ?_)
  rw [k231514]
  refine wp_of e21 c21_8 (rw_tsw (p1 := 87) ⟨by omega, by omega⟩ (by decide) ?_)
  refine wp_of e21 c21_87 (rw_aload_n (pc' := 88) (v := .ref r0) rfl rfl rfl ?_)
  refine wp_of e21 c21_88 (xg_I (pc' := 91) lf_7_53 hW g0 sh_27 (by decide) (by decide) ty_27_11 rfl rfl (fun b231516 b231517 => ?_))
  exact wp_ireturn e21 c21_91 rfl ⟨rfl, rfl, H r0 11, rfl, ⟨by omega, by omega⟩, ⟨by omega, by omega⟩⟩
/-! StrikeAwake$Parish.linesOf(LStrikeAwake$Reserved;)I 20 -/
abbrev uq_21_20 (r0 : Nat) (T : wq_T) (H : wq_H) : Option Value → wq_T → wq_H → Prop := fun r T' H' => T = T' ∧ H = H' ∧ ∃ z : Int, some (vI z) = r ∧ ((-2147483648) ≤ z ∧ z ≤ 2147483647) ∧ (((0 ≤ z ∧ z ≤ 3) ∧ (z = H r0 12)))
set_option maxHeartbeats 4000000 in
theorem u_21_20 {kt : Nat → Option mc_E} {T : wq_T} {H : wq_H} {r0 : Nat} (hW : WT T H) (g0 : T.2.2.2 r0 = some 27) : wpc kt 1 21 [.ref r0, .ref 20] T H (uq_21_20 r0 T H) := by
  refine wp_enter e21 (Nat.le_of_ble_eq_true rfl) rfl ?_
  show wp _ _ 21 0 [(0, .ref r0), (1, .ref 20)] [] _ H _
  refine wp_of e21 c21_0 (rw_gs (pc' := 3) (k := 2) rfl rfl rfl rfl ?_)
  refine wp_of e21 c21_3 (rw_aload_n (pc' := 4) (v := .ref 20) rfl rfl rfl ?_)
  refine wp_of e21 c21_4 (rw_ord (pc' := 7) rfl rfl rfl (by decide) (Nat.le_of_ble_eq_true rfl) rfl ?_)
  show wp _ _ 21 7 [(0, .ref r0), (1, .ref 20)] [vI 4, .ref 2] _ H _
  have k231522 : H 2 (4 : Int).toNat = 5 := (hW.2 2 _ hW.1.2.1).2.2 4 (by decide) |> fun z => by have z1 : (5 : Int) ≤ H 2 4 ∧ H 2 4 ≤ 5 := z; exact Int.le_antisymm z1.2 z1.1
  refine wp_of e21 c21_7 (rw_iaload (pc' := 8) (n := 11) (hW.sh hW.1.2.1 rfl) (by decide) (by decide) (by decide) rfl rfl ?_)
  rw [k231522]
  refine wp_of e21 c21_8 (rw_tsw (p1 := 92) ⟨by omega, by omega⟩ (by decide) ?_)
  refine wp_of e21 c21_92 (rw_aload_n (pc' := 93) (v := .ref r0) rfl rfl rfl ?_)
  refine wp_of e21 c21_93 (xg_I (pc' := 96) lf_7_56 hW g0 sh_27 (by decide) (by decide) ty_27_12 rfl rfl (fun b231524 b231525 => ?_))
  exact wp_ireturn e21 c21_96 rfl ⟨rfl, rfl, H r0 12, rfl, ⟨by omega, by omega⟩, ⟨by omega, by omega⟩⟩
/-! StrikeAwake$Parish.linesOf(LStrikeAwake$Reserved;)I 21 -/
abbrev uq_21_21 (r0 : Nat) (T : wq_T) (H : wq_H) : Option Value → wq_T → wq_H → Prop := fun r T' H' => T = T' ∧ H = H' ∧ ∃ z : Int, some (vI z) = r ∧ ((-2147483648) ≤ z ∧ z ≤ 2147483647) ∧ (((0 ≤ z ∧ z ≤ 24) ∧ (z = H r0 16)))
set_option maxHeartbeats 4000000 in
theorem u_21_21 {kt : Nat → Option mc_E} {T : wq_T} {H : wq_H} {r0 : Nat} (hW : WT T H) (g0 : T.2.2.2 r0 = some 27) : wpc kt 1 21 [.ref r0, .ref 21] T H (uq_21_21 r0 T H) := by
  refine wp_enter e21 (Nat.le_of_ble_eq_true rfl) rfl ?_
  show wp _ _ 21 0 [(0, .ref r0), (1, .ref 21)] [] _ H _
  refine wp_of e21 c21_0 (rw_gs (pc' := 3) (k := 2) rfl rfl rfl rfl ?_)
  refine wp_of e21 c21_3 (rw_aload_n (pc' := 4) (v := .ref 21) rfl rfl rfl ?_)
  refine wp_of e21 c21_4 (rw_ord (pc' := 7) rfl rfl rfl (by decide) (Nat.le_of_ble_eq_true rfl) rfl ?_)
  show wp _ _ 21 7 [(0, .ref r0), (1, .ref 21)] [vI 5, .ref 2] _ H _
  have k231530 : H 2 (5 : Int).toNat = 6 := (hW.2 2 _ hW.1.2.1).2.2 5 (by decide) |> fun z => by have z1 : (6 : Int) ≤ H 2 5 ∧ H 2 5 ≤ 6 := z; exact Int.le_antisymm z1.2 z1.1
  refine wp_of e21 c21_7 (rw_iaload (pc' := 8) (n := 11) (hW.sh hW.1.2.1 rfl) (by decide) (by decide) (by decide) rfl rfl ?_)
  rw [k231530]
  refine wp_of e21 c21_8 (rw_tsw (p1 := 97) ⟨by omega, by omega⟩ (by decide) ?_)
  refine wp_of e21 c21_97 (rw_aload_n (pc' := 98) (v := .ref r0) rfl rfl rfl ?_)
  refine wp_of e21 c21_98 (xg_I (pc' := 101) lf_7_65 hW g0 sh_27 (by decide) (by decide) ty_27_16 rfl rfl (fun b231532 b231533 => ?_))
  exact wp_ireturn e21 c21_101 rfl ⟨rfl, rfl, H r0 16, rfl, ⟨by omega, by omega⟩, ⟨by omega, by omega⟩⟩
/-! StrikeAwake$Parish.linesOf(LStrikeAwake$Reserved;)I 22 -/
abbrev uq_21_22 (r0 : Nat) (T : wq_T) (H : wq_H) : Option Value → wq_T → wq_H → Prop := fun r T' H' => T = T' ∧ H = H' ∧ ∃ z : Int, some (vI z) = r ∧ ((-2147483648) ≤ z ∧ z ≤ 2147483647) ∧ (((0 ≤ z ∧ z ≤ 4) ∧ (z = H r0 13)))
set_option maxHeartbeats 4000000 in
theorem u_21_22 {kt : Nat → Option mc_E} {T : wq_T} {H : wq_H} {r0 : Nat} (hW : WT T H) (g0 : T.2.2.2 r0 = some 27) : wpc kt 1 21 [.ref r0, .ref 22] T H (uq_21_22 r0 T H) := by
  refine wp_enter e21 (Nat.le_of_ble_eq_true rfl) rfl ?_
  show wp _ _ 21 0 [(0, .ref r0), (1, .ref 22)] [] _ H _
  refine wp_of e21 c21_0 (rw_gs (pc' := 3) (k := 2) rfl rfl rfl rfl ?_)
  refine wp_of e21 c21_3 (rw_aload_n (pc' := 4) (v := .ref 22) rfl rfl rfl ?_)
  refine wp_of e21 c21_4 (rw_ord (pc' := 7) rfl rfl rfl (by decide) (Nat.le_of_ble_eq_true rfl) rfl ?_)
  show wp _ _ 21 7 [(0, .ref r0), (1, .ref 22)] [vI 6, .ref 2] _ H _
  have k231538 : H 2 (6 : Int).toNat = 7 := (hW.2 2 _ hW.1.2.1).2.2 6 (by decide) |> fun z => by have z1 : (7 : Int) ≤ H 2 6 ∧ H 2 6 ≤ 7 := z; exact Int.le_antisymm z1.2 z1.1
  refine wp_of e21 c21_7 (rw_iaload (pc' := 8) (n := 11) (hW.sh hW.1.2.1 rfl) (by decide) (by decide) (by decide) rfl rfl ?_)
  rw [k231538]
  refine wp_of e21 c21_8 (rw_tsw (p1 := 102) ⟨by omega, by omega⟩ (by decide) ?_)
  refine wp_of e21 c21_102 (rw_aload_n (pc' := 103) (v := .ref r0) rfl rfl rfl ?_)
  refine wp_of e21 c21_103 (xg_I (pc' := 106) lf_7_59 hW g0 sh_27 (by decide) (by decide) ty_27_13 rfl rfl (fun b231540 b231541 => ?_))
  exact wp_ireturn e21 c21_106 rfl ⟨rfl, rfl, H r0 13, rfl, ⟨by omega, by omega⟩, ⟨by omega, by omega⟩⟩
/-! StrikeAwake$Parish.linesOf(LStrikeAwake$Reserved;)I 23 -/
abbrev uq_21_23 (r0 : Nat) (T : wq_T) (H : wq_H) : Option Value → wq_T → wq_H → Prop := fun r T' H' => T = T' ∧ H = H' ∧ ∃ z : Int, some (vI z) = r ∧ ((-2147483648) ≤ z ∧ z ≤ 2147483647) ∧ (((0 ≤ z ∧ z ≤ 6) ∧ (z = H r0 14)))
set_option maxHeartbeats 4000000 in
theorem u_21_23 {kt : Nat → Option mc_E} {T : wq_T} {H : wq_H} {r0 : Nat} (hW : WT T H) (g0 : T.2.2.2 r0 = some 27) : wpc kt 1 21 [.ref r0, .ref 23] T H (uq_21_23 r0 T H) := by
  refine wp_enter e21 (Nat.le_of_ble_eq_true rfl) rfl ?_
  show wp _ _ 21 0 [(0, .ref r0), (1, .ref 23)] [] _ H _
  refine wp_of e21 c21_0 (rw_gs (pc' := 3) (k := 2) rfl rfl rfl rfl ?_)
  refine wp_of e21 c21_3 (rw_aload_n (pc' := 4) (v := .ref 23) rfl rfl rfl ?_)
  refine wp_of e21 c21_4 (rw_ord (pc' := 7) rfl rfl rfl (by decide) (Nat.le_of_ble_eq_true rfl) rfl ?_)
  show wp _ _ 21 7 [(0, .ref r0), (1, .ref 23)] [vI 7, .ref 2] _ H _
  have k231546 : H 2 (7 : Int).toNat = 8 := (hW.2 2 _ hW.1.2.1).2.2 7 (by decide) |> fun z => by have z1 : (8 : Int) ≤ H 2 7 ∧ H 2 7 ≤ 8 := z; exact Int.le_antisymm z1.2 z1.1
  refine wp_of e21 c21_7 (rw_iaload (pc' := 8) (n := 11) (hW.sh hW.1.2.1 rfl) (by decide) (by decide) (by decide) rfl rfl ?_)
  rw [k231546]
  refine wp_of e21 c21_8 (rw_tsw (p1 := 107) ⟨by omega, by omega⟩ (by decide) ?_)
  refine wp_of e21 c21_107 (rw_aload_n (pc' := 108) (v := .ref r0) rfl rfl rfl ?_)
  refine wp_of e21 c21_108 (xg_I (pc' := 111) lf_7_62 hW g0 sh_27 (by decide) (by decide) ty_27_14 rfl rfl (fun b231548 b231549 => ?_))
  exact wp_ireturn e21 c21_111 rfl ⟨rfl, rfl, H r0 14, rfl, ⟨by omega, by omega⟩, ⟨by omega, by omega⟩⟩
/-! StrikeAwake$Reader.readsLaw(LStrikeAwake$Parish;)Z  -/
abbrev uq_22 (r0 : Nat) (r1 : Nat) (tk : Nat) (rb : Nat) (B : Nat → Int) (n : Int) (q : Int) (d : xD) (T : wq_T) (H : wq_H) : Option Value → wq_T → wq_H → Prop := fun r T' H' => T = T' ∧ WT T H' ∧ wfr [(27, 7), (27, 8), (27, 9), (3, 3), (3, 4), (4, 2), (4, 3), (4, 4), (4, 5), (4, 6)] T H H' ∧ ∃ z : Int, some (vI z) = r ∧ (0 ≤ z ∧ z ≤ 1) ∧ (((z = 1) ∧ ((xlaw B n q).1 = 0) ∧ (xlaw B n q = (0, q, (xN B n (xN B n (xN B n (xN B n (xN B n (xN B n q)))))))) ∧ (q ≤ (xN B n (xN B n (xN B n (xN B n (xN B n (xN B n q))))))) ∧ TC T H' tk B n (xN B n (xN B n (xN B n (xN B n (xN B n (xN B n q)))))) ∧ DC T H' r1 (xdlaw B n q d)) ∨ ((z = 0) ∧ ((xlaw B n q).1 ≠ 0) ∧ ((xlaw B n q).2.2 = (xlaw B n q).2.1) ∧ (H' r0 3 = (xlaw B n q).1) ∧ (H' r0 4 = (xlaw B n q).2.1)))
set_option maxHeartbeats 4000000 in
theorem u_22 {kt : Nat → Option mc_E} {T : wq_T} {H : wq_H} {r0 : Nat} {r1 : Nat} {tk : Nat} {rb : Nat} {B : Nat → Int} {n : Int} {q : Int} {d : xD} (hW : WT T H) (g0 : T.2.2.2 r0 = some 3) (g1 : T.2.2.2 r1 = some 27) (qtk : H r0 0 = (tk : Int)) (gtk : T.2.2.2 tk = some 4) (qrb : H tk 0 = (rb : Int)) (grb : T.2.2.2 rb = some 2) (hTC_tk : TC T H tk B n q) (hDC_r1 : DC T H r1 d) : wpc kt 3 22 [.ref r0, .ref r1] T H (uq_22 r0 r1 tk rb B n q d T H) := by
  refine wp_enter e22 (Nat.le_of_ble_eq_true rfl) rfl ?_
  have f0 : wfr [(27, 7), (27, 8), (27, 9), (3, 3), (3, 4), (4, 2), (4, 3), (4, 4), (4, 5), (4, 6)] T H H := wfr.rf
  show wp _ _ 22 0 [(0, .ref r0), (1, .ref r1)] [] _ H _
  have u231729 := TC_k hTC_tk
  have u231730 := DC_k hDC_r1
  refine wp_of e22 c22_0 (rw_aload_n (pc' := 1) (v := .ref r0) rfl rfl rfl ?_)
  refine wp_of e22 c22_1 (rw_ldcS (pc' := 3) (k := 64) rfl rfl rfl rfl ?_)
  refine wp_of e22 c22_3 (xc_V (pc' := 6) (r := r0) (as := [.ref 64]) (st := []) (lm_1_115) rfl rfl (Nat.le_of_ble_eq_true rfl) hW g0 sh_3 (by decide) rfl (by decide) (u_23 (B := B) (n := n) (q := q) (kk := 8902227) hW g0 rfl qtk gtk qrb grb (by decide +kernel) hTC_tk) (fun R231731 T231732 H231733 p231734 => ?_))
  obtain ⟨e231735, w231737, f231738, z231739, e231736, b231740, p231741⟩ := p231734
  subst e231735
  subst e231736
  rcases p231741 with ⟨a231742, a231743, a231744⟩ | ⟨a231745, a231746, a231747, a231748⟩
  · have f231749 := f0.tr f231738 rfl
    show wp _ _ 22 6 [(0, .ref r0), (1, .ref r1)] [vI z231739] _ H231733 _
    have u231750 := TC_k a231744
    refine wp_of e22 c22_6 (rw_if_eq (p1 := 19) (p2 := 9) (by decide) rfl ⟨by omega, by omega⟩ (fun c231751 => ?_) (fun c231751 => ?_))
    · exfalso
      omega
    · refine wp_of e22 c22_9 (rw_aload_n (pc' := 10) (v := .ref r0) rfl rfl rfl ?_)
      refine wp_of e22 c22_10 (rw_iconst (pc' := 11) rfl ?_)
      refine wp_of e22 c22_11 (rw_bipush (pc' := 13) (z := 24) rfl (by decide) ?_)
      have k231752 : H231733 r0 0 = H r0 0 := (f231738 r0 0 _ g0 rfl)
      have q231753 : H231733 r0 0 = (tk : Int) := k231752.trans qtk
      have k231754 : H231733 tk 0 = H tk 0 := (f231738 tk 0 _ gtk rfl)
      have q231755 : H231733 tk 0 = (rb : Int) := k231754.trans qrb
      refine wp_of e22 c22_13 (xc_V (pc' := 16) (r := r0) (as := [vI 1, vI 24]) (st := []) (lm_1_119) rfl rfl (Nat.le_of_ble_eq_true rfl) w231737 g0 sh_3 (by decide) rfl (by decide) (u_24 (B := B) (n := n) (q := ((xN B n q))) (lo := 1) (hi := 24) w231737 g0 ⟨by omega, by omega⟩ ⟨by omega, by omega⟩ q231753 gtk q231755 grb (by omega) (by omega) a231744) (fun R231756 T231757 H231758 p231759 => ?_))
      obtain ⟨e231760, w231762, f231763, z231764, e231761, b231765, p231766⟩ := p231759
      subst e231760
      subst e231761
      rcases p231766 with ⟨a231767, a231768, a231769, a231770⟩ | ⟨a231771, a231772, a231773, a231774⟩
      · have f231775 := f231749.tr f231763 rfl
        show wp _ _ 22 16 [(0, .ref r0), (1, .ref r1)] [vI z231764] _ H231758 _
        have u231776 := TC_k a231770
        refine wp_of e22 c22_16 (rw_goto (p1 := 20) (by decide) ?_)
        refine wp_of e22 c22_20 (rw_istore_n (pc' := 21) (z := z231764) (L' := [(2, vI z231764), (0, .ref r0), (1, .ref r1)]) rfl rfl rfl ?_)
        refine wp_of e22 c22_21 (rw_iload_n (pc' := 22) (z := z231764) rfl rfl ?_)
        refine wp_of e22 c22_22 (rw_if_lt (p1 := 44) (p2 := 25) (by decide) rfl ⟨by omega, by omega⟩ (fun c231777 => ?_) (fun c231777 => ?_))
        · exfalso
          omega
        · refine wp_of e22 c22_25 (rw_aload_n (pc' := 26) (v := .ref r0) rfl rfl rfl ?_)
          refine wp_of e22 c22_26 (rw_ldcS (pc' := 28) (k := 65) rfl rfl rfl rfl ?_)
          have k231778 : H231758 r0 0 = H231733 r0 0 := (f231763 r0 0 _ g0 rfl)
          have q231779 : H231758 r0 0 = (tk : Int) := k231778.trans q231753
          have k231780 : H231758 tk 0 = H231733 tk 0 := (f231763 tk 0 _ gtk rfl)
          have q231781 : H231758 tk 0 = (rb : Int) := k231780.trans q231755
          refine wp_of e22 c22_28 (xc_V (pc' := 31) (r := r0) (as := [.ref 65]) (st := []) (lm_1_115) rfl rfl (Nat.le_of_ble_eq_true rfl) w231762 g0 sh_3 (by decide) rfl (by decide) (u_23 (B := B) (n := n) (q := ((xN B n ((xN B n q))))) (kk := 72983685) w231762 g0 rfl q231779 gtk q231781 grb (by decide +kernel) a231770) (fun R231782 T231783 H231784 p231785 => ?_))
          obtain ⟨e231786, w231788, f231789, z231790, e231787, b231791, p231792⟩ := p231785
          subst e231786
          subst e231787
          rcases p231792 with ⟨a231793, a231794, a231795⟩ | ⟨a231796, a231797, a231798, a231799⟩
          · have f231800 := f231775.tr f231789 rfl
            show wp _ _ 22 31 [(2, vI z231764), (0, .ref r0), (1, .ref r1)] [vI z231790] _ H231784 _
            have u231801 := TC_k a231795
            refine wp_of e22 c22_31 (rw_if_eq (p1 := 44) (p2 := 34) (by decide) rfl ⟨by omega, by omega⟩ (fun c231802 => ?_) (fun c231802 => ?_))
            · exfalso
              omega
            · refine wp_of e22 c22_34 (rw_aload_n (pc' := 35) (v := .ref r0) rfl rfl rfl ?_)
              refine wp_of e22 c22_35 (rw_iconst (pc' := 36) rfl ?_)
              refine wp_of e22 c22_36 (rw_bipush (pc' := 38) (z := 9) rfl (by decide) ?_)
              have k231803 : H231784 r0 0 = H231758 r0 0 := (f231789 r0 0 _ g0 rfl)
              have q231804 : H231784 r0 0 = (tk : Int) := k231803.trans q231779
              have k231805 : H231784 tk 0 = H231758 tk 0 := (f231789 tk 0 _ gtk rfl)
              have q231806 : H231784 tk 0 = (rb : Int) := k231805.trans q231781
              refine wp_of e22 c22_38 (xc_V (pc' := 41) (r := r0) (as := [vI 0, vI 9]) (st := []) (lm_1_119) rfl rfl (Nat.le_of_ble_eq_true rfl) w231788 g0 sh_3 (by decide) rfl (by decide) (u_24 (B := B) (n := n) (q := ((xN B n ((xN B n ((xN B n q))))))) (lo := 0) (hi := 9) w231788 g0 ⟨by omega, by omega⟩ ⟨by omega, by omega⟩ q231804 gtk q231806 grb (by omega) (by omega) a231795) (fun R231807 T231808 H231809 p231810 => ?_))
              obtain ⟨e231811, w231813, f231814, z231815, e231812, b231816, p231817⟩ := p231810
              subst e231811
              subst e231812
              rcases p231817 with ⟨a231818, a231819, a231820, a231821⟩ | ⟨a231822, a231823, a231824, a231825⟩
              · have f231826 := f231800.tr f231814 rfl
                show wp _ _ 22 41 [(2, vI z231764), (0, .ref r0), (1, .ref r1)] [vI z231815] _ H231809 _
                have u231827 := TC_k a231821
                refine wp_of e22 c22_41 (rw_goto (p1 := 45) (by decide) ?_)
                refine wp_of e22 c22_45 (rw_istore_n (pc' := 46) (z := z231815) (L' := [(3, vI z231815), (2, vI z231764), (0, .ref r0), (1, .ref r1)]) rfl rfl rfl ?_)
                refine wp_of e22 c22_46 (rw_iload_n (pc' := 47) (z := z231815) rfl rfl ?_)
                refine wp_of e22 c22_47 (rw_if_lt (p1 := 68) (p2 := 50) (by decide) rfl ⟨by omega, by omega⟩ (fun c231828 => ?_) (fun c231828 => ?_))
                · exfalso
                  omega
                · refine wp_of e22 c22_50 (rw_aload_n (pc' := 51) (v := .ref r0) rfl rfl rfl ?_)
                  refine wp_of e22 c22_51 (rw_ldcS (pc' := 53) (k := 66) rfl rfl rfl rfl ?_)
                  have k231829 : H231809 r0 0 = H231784 r0 0 := (f231814 r0 0 _ g0 rfl)
                  have q231830 : H231809 r0 0 = (tk : Int) := k231829.trans q231804
                  have k231831 : H231809 tk 0 = H231784 tk 0 := (f231814 tk 0 _ gtk rfl)
                  have q231832 : H231809 tk 0 = (rb : Int) := k231831.trans q231806
                  refine wp_of e22 c22_53 (xc_V (pc' := 56) (r := r0) (as := [.ref 66]) (st := []) (lm_1_115) rfl rfl (Nat.le_of_ble_eq_true rfl) w231813 g0 sh_3 (by decide) rfl (by decide) (u_23 (B := B) (n := n) (q := ((xN B n ((xN B n ((xN B n ((xN B n q))))))))) (kk := 15558) w231813 g0 rfl q231830 gtk q231832 grb (by decide +kernel) a231821) (fun R231833 T231834 H231835 p231836 => ?_))
                  obtain ⟨e231837, w231839, f231840, z231841, e231838, b231842, p231843⟩ := p231836
                  subst e231837
                  subst e231838
                  rcases p231843 with ⟨a231844, a231845, a231846⟩ | ⟨a231847, a231848, a231849, a231850⟩
                  · have f231851 := f231826.tr f231840 rfl
                    show wp _ _ 22 56 [(3, vI z231815), (2, vI z231764), (0, .ref r0), (1, .ref r1)] [vI z231841] _ H231835 _
                    have u231852 := TC_k a231846
                    refine wp_of e22 c22_56 (rw_if_eq (p1 := 68) (p2 := 59) (by decide) rfl ⟨by omega, by omega⟩ (fun c231853 => ?_) (fun c231853 => ?_))
                    · exfalso
                      omega
                    · refine wp_of e22 c22_59 (rw_aload_n (pc' := 60) (v := .ref r0) rfl rfl rfl ?_)
                      refine wp_of e22 c22_60 (rw_iconst (pc' := 61) rfl ?_)
                      refine wp_of e22 c22_61 (rw_iconst (pc' := 62) rfl ?_)
                      have k231854 : H231835 r0 0 = H231809 r0 0 := (f231840 r0 0 _ g0 rfl)
                      have q231855 : H231835 r0 0 = (tk : Int) := k231854.trans q231830
                      have k231856 : H231835 tk 0 = H231809 tk 0 := (f231840 tk 0 _ gtk rfl)
                      have q231857 : H231835 tk 0 = (rb : Int) := k231856.trans q231832
                      refine wp_of e22 c22_62 (xc_V (pc' := 65) (r := r0) (as := [vI 0, vI 3]) (st := []) (lm_1_119) rfl rfl (Nat.le_of_ble_eq_true rfl) w231839 g0 sh_3 (by decide) rfl (by decide) (u_24 (B := B) (n := n) (q := ((xN B n ((xN B n ((xN B n ((xN B n ((xN B n q))))))))))) (lo := 0) (hi := 3) w231839 g0 ⟨by omega, by omega⟩ ⟨by omega, by omega⟩ q231855 gtk q231857 grb (by omega) (by omega) a231846) (fun R231858 T231859 H231860 p231861 => ?_))
                      obtain ⟨e231862, w231864, f231865, z231866, e231863, b231867, p231868⟩ := p231861
                      subst e231862
                      subst e231863
                      rcases p231868 with ⟨a231869, a231870, a231871, a231872⟩ | ⟨a231873, a231874, a231875, a231876⟩
                      · have f231877 := f231851.tr f231865 rfl
                        show wp _ _ 22 65 [(3, vI z231815), (2, vI z231764), (0, .ref r0), (1, .ref r1)] [vI z231866] _ H231860 _
                        have u231878 := TC_k a231872
                        refine wp_of e22 c22_65 (rw_goto (p1 := 69) (by decide) ?_)
                        refine wp_of e22 c22_69 (rw_istore (pc' := 71) (z := z231866) (L' := [(4, vI z231866), (3, vI z231815), (2, vI z231764), (0, .ref r0), (1, .ref r1)]) rfl rfl rfl ?_)
                        refine wp_of e22 c22_71 (rw_iload (pc' := 73) (z := z231866) rfl rfl ?_)
                        refine wp_of e22 c22_73 (rw_if_ge (p1 := 78) (p2 := 76) (by decide) rfl ⟨by omega, by omega⟩ (fun c231879 => ?_) (fun c231879 => ?_))
                        · refine wp_of e22 c22_78 (rw_aload_n (pc' := 79) (v := .ref r1) rfl rfl rfl ?_)
                          refine wp_of e22 c22_79 (rw_iload_n (pc' := 80) (z := z231764) rfl rfl ?_)
                          refine wp_of e22 c22_80 (xp_I (pc' := 83) lf_1_41 w231864 g1 sh_27 (by decide) (by decide) ty_27_7 rfl rfl (by omega) (by omega) ⟨by omega, by omega⟩ rfl (fun H231880 e231881 w231882 => ?_))
                          have f231883 := f231877.put' e231881 g1 rfl
                          have k231884 : H231880 r1 7 = z231764 := wq_u_s e231881
                          refine wp_of e22 c22_83 (rw_aload_n (pc' := 84) (v := .ref r1) rfl rfl rfl ?_)
                          refine wp_of e22 c22_84 (rw_iload_n (pc' := 85) (z := z231815) rfl rfl ?_)
                          refine wp_of e22 c22_85 (xp_I (pc' := 88) lf_1_127 w231882 g1 sh_27 (by decide) (by decide) ty_27_8 rfl rfl (by omega) (by omega) ⟨by omega, by omega⟩ rfl (fun H231885 e231886 w231887 => ?_))
                          have f231888 := f231883.put' e231886 g1 rfl
                          have k231889 : H231885 r1 8 = z231815 := wq_u_s e231886
                          refine wp_of e22 c22_88 (rw_aload_n (pc' := 89) (v := .ref r1) rfl rfl rfl ?_)
                          refine wp_of e22 c22_89 (rw_iload (pc' := 91) (z := z231866) rfl rfl ?_)
                          refine wp_of e22 c22_91 (xp_I (pc' := 94) lf_1_129 w231887 g1 sh_27 (by decide) (by decide) ty_27_9 rfl rfl (by omega) (by omega) ⟨by omega, by omega⟩ rfl (fun H231890 e231891 w231892 => ?_))
                          have f231893 := f231888.put' e231891 g1 rfl
                          have k231894 : H231890 r1 9 = z231866 := wq_u_s e231891
                          refine wp_of e22 c22_94 (rw_iconst (pc' := 95) rfl ?_)
                          have k231895 : H231890 r1 7 = H231880 r1 7 := ((wq_u_j e231891 rfl).trans (wq_u_j e231886 rfl))
                          have k231896 : H231890 r1 8 = H231885 r1 8 := (wq_u_j e231891 rfl)
                          have k231897 : H231890 r1 10 = H r1 10 := ((wq_u_j e231891 rfl).trans ((wq_u_j e231886 rfl).trans ((wq_u_j e231881 rfl).trans ((f231865 r1 10 _ g1 rfl).trans ((f231840 r1 10 _ g1 rfl).trans ((f231814 r1 10 _ g1 rfl).trans ((f231789 r1 10 _ g1 rfl).trans ((f231763 r1 10 _ g1 rfl).trans (f231738 r1 10 _ g1 rfl)))))))))
                          have k231898 : H231890 r1 11 = H r1 11 := ((wq_u_j e231891 rfl).trans ((wq_u_j e231886 rfl).trans ((wq_u_j e231881 rfl).trans ((f231865 r1 11 _ g1 rfl).trans ((f231840 r1 11 _ g1 rfl).trans ((f231814 r1 11 _ g1 rfl).trans ((f231789 r1 11 _ g1 rfl).trans ((f231763 r1 11 _ g1 rfl).trans (f231738 r1 11 _ g1 rfl)))))))))
                          have k231899 : H231890 r1 12 = H r1 12 := ((wq_u_j e231891 rfl).trans ((wq_u_j e231886 rfl).trans ((wq_u_j e231881 rfl).trans ((f231865 r1 12 _ g1 rfl).trans ((f231840 r1 12 _ g1 rfl).trans ((f231814 r1 12 _ g1 rfl).trans ((f231789 r1 12 _ g1 rfl).trans ((f231763 r1 12 _ g1 rfl).trans (f231738 r1 12 _ g1 rfl)))))))))
                          have k231900 : H231890 r1 13 = H r1 13 := ((wq_u_j e231891 rfl).trans ((wq_u_j e231886 rfl).trans ((wq_u_j e231881 rfl).trans ((f231865 r1 13 _ g1 rfl).trans ((f231840 r1 13 _ g1 rfl).trans ((f231814 r1 13 _ g1 rfl).trans ((f231789 r1 13 _ g1 rfl).trans ((f231763 r1 13 _ g1 rfl).trans (f231738 r1 13 _ g1 rfl)))))))))
                          have k231901 : H231890 r1 14 = H r1 14 := ((wq_u_j e231891 rfl).trans ((wq_u_j e231886 rfl).trans ((wq_u_j e231881 rfl).trans ((f231865 r1 14 _ g1 rfl).trans ((f231840 r1 14 _ g1 rfl).trans ((f231814 r1 14 _ g1 rfl).trans ((f231789 r1 14 _ g1 rfl).trans ((f231763 r1 14 _ g1 rfl).trans (f231738 r1 14 _ g1 rfl)))))))))
                          have k231902 : H231890 r1 15 = H r1 15 := ((wq_u_j e231891 rfl).trans ((wq_u_j e231886 rfl).trans ((wq_u_j e231881 rfl).trans ((f231865 r1 15 _ g1 rfl).trans ((f231840 r1 15 _ g1 rfl).trans ((f231814 r1 15 _ g1 rfl).trans ((f231789 r1 15 _ g1 rfl).trans ((f231763 r1 15 _ g1 rfl).trans (f231738 r1 15 _ g1 rfl)))))))))
                          have k231903 : H231890 r1 16 = H r1 16 := ((wq_u_j e231891 rfl).trans ((wq_u_j e231886 rfl).trans ((wq_u_j e231881 rfl).trans ((f231865 r1 16 _ g1 rfl).trans ((f231840 r1 16 _ g1 rfl).trans ((f231814 r1 16 _ g1 rfl).trans ((f231789 r1 16 _ g1 rfl).trans ((f231763 r1 16 _ g1 rfl).trans (f231738 r1 16 _ g1 rfl)))))))))
                          have o231904 : (xlaw B n q) = (0, q, (xN B n ((xN B n ((xN B n ((xN B n ((xN B n ((xN B n q)))))))))))) := by
                            unfold xlaw
                            repeat first | rw [xs_0 (by omega)] | rw [xs_1 (by omega)] | rw [if_pos (by omega)] | rw [if_neg (by omega)]
                            first | done | rfl | assumption | (exfalso; omega) | (refine Prod.ext ?_ (Prod.ext ?_ ?_) <;> (try dsimp only) <;> omega)
                          have o231904a : ((xlaw B n q)).1 = 0 := by rw [o231904]
                          have o231904b : ((xlaw B n q)).2.1 = q := by rw [o231904]
                          have o231904c : ((xlaw B n q)).2.2 = (xN B n ((xN B n ((xN B n ((xN B n ((xN B n ((xN B n q))))))))))) := by rw [o231904]
                          have _l := @xdlaw_v B n q d
                          have h231905 : TC T H231890 tk B n (xN B n ((xN B n ((xN B n ((xN B n ((xN B n ((xN B n q))))))))))) := (TC_fr w231887 gtk ((wfr.rf (l := [(27, 9)])).put' e231891 g1 rfl) rfl (TC_fr w231882 gtk ((wfr.rf (l := [(27, 8)])).put' e231886 g1 rfl) rfl (TC_fr w231864 gtk ((wfr.rf (l := [(27, 7)])).put' e231881 g1 rfl) rfl a231872)))
                          exact wp_zreturn e22 c22_95 rfl (by omega) ⟨rfl, w231892, f231893, 1, rfl, ⟨by omega, by omega⟩, (Or.inl ⟨by omega, by omega, o231904, by omega, h231905, DC_cnt hW g1 hDC_r1 f231893 rfl (fun i h => xdlaw_r h) ⟨by omega, by omega, by omega, by omega, by omega⟩ ⟨by omega, by omega, by omega, by omega, by omega, by omega, by omega, by omega, by omega, by omega, by omega, by omega, by omega, by omega, by omega, by omega⟩⟩)⟩
                        · exfalso
                          omega
                      · have f231906 := f231851.tr f231865 rfl
                        show wp _ _ 22 65 [(3, vI z231815), (2, vI z231764), (0, .ref r0), (1, .ref r1)] [vI z231866] _ H231860 _
                        refine wp_of e22 c22_65 (rw_goto (p1 := 69) (by decide) ?_)
                        refine wp_of e22 c22_69 (rw_istore (pc' := 71) (z := z231866) (L' := [(4, vI z231866), (3, vI z231815), (2, vI z231764), (0, .ref r0), (1, .ref r1)]) rfl rfl rfl ?_)
                        refine wp_of e22 c22_71 (rw_iload (pc' := 73) (z := z231866) rfl rfl ?_)
                        refine wp_of e22 c22_73 (rw_if_ge (p1 := 78) (p2 := 76) (by decide) rfl ⟨by omega, by omega⟩ (fun c231907 => ?_) (fun c231907 => ?_))
                        · exfalso
                          omega
                        · refine wp_of e22 c22_76 (rw_iconst (pc' := 77) rfl ?_)
                          have k231908 : H231860 r1 7 = H r1 7 := ((f231865 r1 7 _ g1 rfl).trans ((f231840 r1 7 _ g1 rfl).trans ((f231814 r1 7 _ g1 rfl).trans ((f231789 r1 7 _ g1 rfl).trans ((f231763 r1 7 _ g1 rfl).trans (f231738 r1 7 _ g1 rfl))))))
                          have k231909 : H231860 r1 8 = H r1 8 := ((f231865 r1 8 _ g1 rfl).trans ((f231840 r1 8 _ g1 rfl).trans ((f231814 r1 8 _ g1 rfl).trans ((f231789 r1 8 _ g1 rfl).trans ((f231763 r1 8 _ g1 rfl).trans (f231738 r1 8 _ g1 rfl))))))
                          have k231910 : H231860 r1 9 = H r1 9 := ((f231865 r1 9 _ g1 rfl).trans ((f231840 r1 9 _ g1 rfl).trans ((f231814 r1 9 _ g1 rfl).trans ((f231789 r1 9 _ g1 rfl).trans ((f231763 r1 9 _ g1 rfl).trans (f231738 r1 9 _ g1 rfl))))))
                          have k231911 : H231860 r1 10 = H r1 10 := ((f231865 r1 10 _ g1 rfl).trans ((f231840 r1 10 _ g1 rfl).trans ((f231814 r1 10 _ g1 rfl).trans ((f231789 r1 10 _ g1 rfl).trans ((f231763 r1 10 _ g1 rfl).trans (f231738 r1 10 _ g1 rfl))))))
                          have k231912 : H231860 r1 11 = H r1 11 := ((f231865 r1 11 _ g1 rfl).trans ((f231840 r1 11 _ g1 rfl).trans ((f231814 r1 11 _ g1 rfl).trans ((f231789 r1 11 _ g1 rfl).trans ((f231763 r1 11 _ g1 rfl).trans (f231738 r1 11 _ g1 rfl))))))
                          have k231913 : H231860 r1 12 = H r1 12 := ((f231865 r1 12 _ g1 rfl).trans ((f231840 r1 12 _ g1 rfl).trans ((f231814 r1 12 _ g1 rfl).trans ((f231789 r1 12 _ g1 rfl).trans ((f231763 r1 12 _ g1 rfl).trans (f231738 r1 12 _ g1 rfl))))))
                          have k231914 : H231860 r1 13 = H r1 13 := ((f231865 r1 13 _ g1 rfl).trans ((f231840 r1 13 _ g1 rfl).trans ((f231814 r1 13 _ g1 rfl).trans ((f231789 r1 13 _ g1 rfl).trans ((f231763 r1 13 _ g1 rfl).trans (f231738 r1 13 _ g1 rfl))))))
                          have k231915 : H231860 r1 14 = H r1 14 := ((f231865 r1 14 _ g1 rfl).trans ((f231840 r1 14 _ g1 rfl).trans ((f231814 r1 14 _ g1 rfl).trans ((f231789 r1 14 _ g1 rfl).trans ((f231763 r1 14 _ g1 rfl).trans (f231738 r1 14 _ g1 rfl))))))
                          have k231916 : H231860 r1 15 = H r1 15 := ((f231865 r1 15 _ g1 rfl).trans ((f231840 r1 15 _ g1 rfl).trans ((f231814 r1 15 _ g1 rfl).trans ((f231789 r1 15 _ g1 rfl).trans ((f231763 r1 15 _ g1 rfl).trans (f231738 r1 15 _ g1 rfl))))))
                          have k231917 : H231860 r1 16 = H r1 16 := ((f231865 r1 16 _ g1 rfl).trans ((f231840 r1 16 _ g1 rfl).trans ((f231814 r1 16 _ g1 rfl).trans ((f231789 r1 16 _ g1 rfl).trans ((f231763 r1 16 _ g1 rfl).trans (f231738 r1 16 _ g1 rfl))))))
                          have o231918 : (xlaw B n q) = (xh B n ((xN B n ((xN B n ((xN B n ((xN B n ((xN B n q)))))))))) 0 3, ((xN B n ((xN B n ((xN B n ((xN B n ((xN B n q)))))))))), ((xN B n ((xN B n ((xN B n ((xN B n ((xN B n q))))))))))) := by
                            unfold xlaw
                            repeat first | rw [xs_0 (by omega)] | rw [xs_1 (by omega)] | rw [if_pos (by omega)] | rw [if_neg (by omega)]
                            first | done | rfl | assumption | (exfalso; omega) | (refine Prod.ext ?_ (Prod.ext ?_ ?_) <;> (try dsimp only) <;> omega)
                          have o231918a : ((xlaw B n q)).1 = xh B n ((xN B n ((xN B n ((xN B n ((xN B n ((xN B n q)))))))))) 0 3 := by rw [o231918]
                          have o231918b : ((xlaw B n q)).2.1 = ((xN B n ((xN B n ((xN B n ((xN B n ((xN B n q)))))))))) := by rw [o231918]
                          have o231918c : ((xlaw B n q)).2.2 = ((xN B n ((xN B n ((xN B n ((xN B n ((xN B n q)))))))))) := by rw [o231918]
                          have _l := @xdlaw_v B n q d
                          exact wp_zreturn e22 c22_77 rfl (by omega) ⟨rfl, w231864, f231906, 0, rfl, ⟨by omega, by omega⟩, (Or.inr ⟨by omega, by omega, by omega, by omega, by omega⟩)⟩
                  · have f231919 := f231826.tr f231840 rfl
                    show wp _ _ 22 56 [(3, vI z231815), (2, vI z231764), (0, .ref r0), (1, .ref r1)] [vI z231841] _ H231835 _
                    refine wp_of e22 c22_56 (rw_if_eq (p1 := 68) (p2 := 59) (by decide) rfl ⟨by omega, by omega⟩ (fun c231920 => ?_) (fun c231920 => ?_))
                    · refine wp_of e22 c22_68 (rw_iconst (pc' := 69) rfl ?_)
                      refine wp_of e22 c22_69 (rw_istore (pc' := 71) (z := -1) (L' := [(4, vI (-1)), (3, vI z231815), (2, vI z231764), (0, .ref r0), (1, .ref r1)]) rfl rfl rfl ?_)
                      refine wp_of e22 c22_71 (rw_iload (pc' := 73) (z := -1) rfl rfl ?_)
                      refine wp_of e22 c22_73 (rw_if_ge (p1 := 78) (p2 := 76) (by decide) rfl ⟨by omega, by omega⟩ (fun c231921 => ?_) (fun c231921 => ?_))
                      · exfalso
                        omega
                      · refine wp_of e22 c22_76 (rw_iconst (pc' := 77) rfl ?_)
                        have k231922 : H231835 r1 7 = H r1 7 := ((f231840 r1 7 _ g1 rfl).trans ((f231814 r1 7 _ g1 rfl).trans ((f231789 r1 7 _ g1 rfl).trans ((f231763 r1 7 _ g1 rfl).trans (f231738 r1 7 _ g1 rfl)))))
                        have k231923 : H231835 r1 8 = H r1 8 := ((f231840 r1 8 _ g1 rfl).trans ((f231814 r1 8 _ g1 rfl).trans ((f231789 r1 8 _ g1 rfl).trans ((f231763 r1 8 _ g1 rfl).trans (f231738 r1 8 _ g1 rfl)))))
                        have k231924 : H231835 r1 9 = H r1 9 := ((f231840 r1 9 _ g1 rfl).trans ((f231814 r1 9 _ g1 rfl).trans ((f231789 r1 9 _ g1 rfl).trans ((f231763 r1 9 _ g1 rfl).trans (f231738 r1 9 _ g1 rfl)))))
                        have k231925 : H231835 r1 10 = H r1 10 := ((f231840 r1 10 _ g1 rfl).trans ((f231814 r1 10 _ g1 rfl).trans ((f231789 r1 10 _ g1 rfl).trans ((f231763 r1 10 _ g1 rfl).trans (f231738 r1 10 _ g1 rfl)))))
                        have k231926 : H231835 r1 11 = H r1 11 := ((f231840 r1 11 _ g1 rfl).trans ((f231814 r1 11 _ g1 rfl).trans ((f231789 r1 11 _ g1 rfl).trans ((f231763 r1 11 _ g1 rfl).trans (f231738 r1 11 _ g1 rfl)))))
                        have k231927 : H231835 r1 12 = H r1 12 := ((f231840 r1 12 _ g1 rfl).trans ((f231814 r1 12 _ g1 rfl).trans ((f231789 r1 12 _ g1 rfl).trans ((f231763 r1 12 _ g1 rfl).trans (f231738 r1 12 _ g1 rfl)))))
                        have k231928 : H231835 r1 13 = H r1 13 := ((f231840 r1 13 _ g1 rfl).trans ((f231814 r1 13 _ g1 rfl).trans ((f231789 r1 13 _ g1 rfl).trans ((f231763 r1 13 _ g1 rfl).trans (f231738 r1 13 _ g1 rfl)))))
                        have k231929 : H231835 r1 14 = H r1 14 := ((f231840 r1 14 _ g1 rfl).trans ((f231814 r1 14 _ g1 rfl).trans ((f231789 r1 14 _ g1 rfl).trans ((f231763 r1 14 _ g1 rfl).trans (f231738 r1 14 _ g1 rfl)))))
                        have k231930 : H231835 r1 15 = H r1 15 := ((f231840 r1 15 _ g1 rfl).trans ((f231814 r1 15 _ g1 rfl).trans ((f231789 r1 15 _ g1 rfl).trans ((f231763 r1 15 _ g1 rfl).trans (f231738 r1 15 _ g1 rfl)))))
                        have k231931 : H231835 r1 16 = H r1 16 := ((f231840 r1 16 _ g1 rfl).trans ((f231814 r1 16 _ g1 rfl).trans ((f231789 r1 16 _ g1 rfl).trans ((f231763 r1 16 _ g1 rfl).trans (f231738 r1 16 _ g1 rfl)))))
                        have o231932 : (xlaw B n q) = (xw B n ((xN B n ((xN B n ((xN B n ((xN B n q)))))))) 15558, ((xN B n ((xN B n ((xN B n ((xN B n q)))))))), ((xN B n ((xN B n ((xN B n ((xN B n q))))))))) := by
                          unfold xlaw
                          repeat first | rw [xs_0 (by omega)] | rw [xs_1 (by omega)] | rw [if_pos (by omega)] | rw [if_neg (by omega)]
                          first | done | rfl | assumption | (exfalso; omega) | (refine Prod.ext ?_ (Prod.ext ?_ ?_) <;> (try dsimp only) <;> omega)
                        have o231932a : ((xlaw B n q)).1 = xw B n ((xN B n ((xN B n ((xN B n ((xN B n q)))))))) 15558 := by rw [o231932]
                        have o231932b : ((xlaw B n q)).2.1 = ((xN B n ((xN B n ((xN B n ((xN B n q)))))))) := by rw [o231932]
                        have o231932c : ((xlaw B n q)).2.2 = ((xN B n ((xN B n ((xN B n ((xN B n q)))))))) := by rw [o231932]
                        have _l := @xdlaw_v B n q d
                        exact wp_zreturn e22 c22_77 rfl (by omega) ⟨rfl, w231839, f231919, 0, rfl, ⟨by omega, by omega⟩, (Or.inr ⟨by omega, by omega, by omega, by omega, by omega⟩)⟩
                    · exfalso
                      omega
              · have f231933 := f231800.tr f231814 rfl
                show wp _ _ 22 41 [(2, vI z231764), (0, .ref r0), (1, .ref r1)] [vI z231815] _ H231809 _
                refine wp_of e22 c22_41 (rw_goto (p1 := 45) (by decide) ?_)
                refine wp_of e22 c22_45 (rw_istore_n (pc' := 46) (z := z231815) (L' := [(3, vI z231815), (2, vI z231764), (0, .ref r0), (1, .ref r1)]) rfl rfl rfl ?_)
                refine wp_of e22 c22_46 (rw_iload_n (pc' := 47) (z := z231815) rfl rfl ?_)
                refine wp_of e22 c22_47 (rw_if_lt (p1 := 68) (p2 := 50) (by decide) rfl ⟨by omega, by omega⟩ (fun c231934 => ?_) (fun c231934 => ?_))
                · refine wp_of e22 c22_68 (rw_iconst (pc' := 69) rfl ?_)
                  refine wp_of e22 c22_69 (rw_istore (pc' := 71) (z := -1) (L' := [(4, vI (-1)), (3, vI z231815), (2, vI z231764), (0, .ref r0), (1, .ref r1)]) rfl rfl rfl ?_)
                  refine wp_of e22 c22_71 (rw_iload (pc' := 73) (z := -1) rfl rfl ?_)
                  refine wp_of e22 c22_73 (rw_if_ge (p1 := 78) (p2 := 76) (by decide) rfl ⟨by omega, by omega⟩ (fun c231935 => ?_) (fun c231935 => ?_))
                  · exfalso
                    omega
                  · refine wp_of e22 c22_76 (rw_iconst (pc' := 77) rfl ?_)
                    have k231936 : H231809 r1 7 = H r1 7 := ((f231814 r1 7 _ g1 rfl).trans ((f231789 r1 7 _ g1 rfl).trans ((f231763 r1 7 _ g1 rfl).trans (f231738 r1 7 _ g1 rfl))))
                    have k231937 : H231809 r1 8 = H r1 8 := ((f231814 r1 8 _ g1 rfl).trans ((f231789 r1 8 _ g1 rfl).trans ((f231763 r1 8 _ g1 rfl).trans (f231738 r1 8 _ g1 rfl))))
                    have k231938 : H231809 r1 9 = H r1 9 := ((f231814 r1 9 _ g1 rfl).trans ((f231789 r1 9 _ g1 rfl).trans ((f231763 r1 9 _ g1 rfl).trans (f231738 r1 9 _ g1 rfl))))
                    have k231939 : H231809 r1 10 = H r1 10 := ((f231814 r1 10 _ g1 rfl).trans ((f231789 r1 10 _ g1 rfl).trans ((f231763 r1 10 _ g1 rfl).trans (f231738 r1 10 _ g1 rfl))))
                    have k231940 : H231809 r1 11 = H r1 11 := ((f231814 r1 11 _ g1 rfl).trans ((f231789 r1 11 _ g1 rfl).trans ((f231763 r1 11 _ g1 rfl).trans (f231738 r1 11 _ g1 rfl))))
                    have k231941 : H231809 r1 12 = H r1 12 := ((f231814 r1 12 _ g1 rfl).trans ((f231789 r1 12 _ g1 rfl).trans ((f231763 r1 12 _ g1 rfl).trans (f231738 r1 12 _ g1 rfl))))
                    have k231942 : H231809 r1 13 = H r1 13 := ((f231814 r1 13 _ g1 rfl).trans ((f231789 r1 13 _ g1 rfl).trans ((f231763 r1 13 _ g1 rfl).trans (f231738 r1 13 _ g1 rfl))))
                    have k231943 : H231809 r1 14 = H r1 14 := ((f231814 r1 14 _ g1 rfl).trans ((f231789 r1 14 _ g1 rfl).trans ((f231763 r1 14 _ g1 rfl).trans (f231738 r1 14 _ g1 rfl))))
                    have k231944 : H231809 r1 15 = H r1 15 := ((f231814 r1 15 _ g1 rfl).trans ((f231789 r1 15 _ g1 rfl).trans ((f231763 r1 15 _ g1 rfl).trans (f231738 r1 15 _ g1 rfl))))
                    have k231945 : H231809 r1 16 = H r1 16 := ((f231814 r1 16 _ g1 rfl).trans ((f231789 r1 16 _ g1 rfl).trans ((f231763 r1 16 _ g1 rfl).trans (f231738 r1 16 _ g1 rfl))))
                    have o231946 : (xlaw B n q) = (xh B n ((xN B n ((xN B n ((xN B n q)))))) 0 9, ((xN B n ((xN B n ((xN B n q)))))), ((xN B n ((xN B n ((xN B n q))))))) := by
                      unfold xlaw
                      repeat first | rw [xs_0 (by omega)] | rw [xs_1 (by omega)] | rw [if_pos (by omega)] | rw [if_neg (by omega)]
                      first | done | rfl | assumption | (exfalso; omega) | (refine Prod.ext ?_ (Prod.ext ?_ ?_) <;> (try dsimp only) <;> omega)
                    have o231946a : ((xlaw B n q)).1 = xh B n ((xN B n ((xN B n ((xN B n q)))))) 0 9 := by rw [o231946]
                    have o231946b : ((xlaw B n q)).2.1 = ((xN B n ((xN B n ((xN B n q)))))) := by rw [o231946]
                    have o231946c : ((xlaw B n q)).2.2 = ((xN B n ((xN B n ((xN B n q)))))) := by rw [o231946]
                    have _l := @xdlaw_v B n q d
                    exact wp_zreturn e22 c22_77 rfl (by omega) ⟨rfl, w231813, f231933, 0, rfl, ⟨by omega, by omega⟩, (Or.inr ⟨by omega, by omega, by omega, by omega, by omega⟩)⟩
                · exfalso
                  omega
          · have f231947 := f231775.tr f231789 rfl
            show wp _ _ 22 31 [(2, vI z231764), (0, .ref r0), (1, .ref r1)] [vI z231790] _ H231784 _
            refine wp_of e22 c22_31 (rw_if_eq (p1 := 44) (p2 := 34) (by decide) rfl ⟨by omega, by omega⟩ (fun c231948 => ?_) (fun c231948 => ?_))
            · refine wp_of e22 c22_44 (rw_iconst (pc' := 45) rfl ?_)
              refine wp_of e22 c22_45 (rw_istore_n (pc' := 46) (z := -1) (L' := [(3, vI (-1)), (2, vI z231764), (0, .ref r0), (1, .ref r1)]) rfl rfl rfl ?_)
              refine wp_of e22 c22_46 (rw_iload_n (pc' := 47) (z := -1) rfl rfl ?_)
              refine wp_of e22 c22_47 (rw_if_lt (p1 := 68) (p2 := 50) (by decide) rfl ⟨by omega, by omega⟩ (fun c231949 => ?_) (fun c231949 => ?_))
              · refine wp_of e22 c22_68 (rw_iconst (pc' := 69) rfl ?_)
                refine wp_of e22 c22_69 (rw_istore (pc' := 71) (z := -1) (L' := [(4, vI (-1)), (3, vI (-1)), (2, vI z231764), (0, .ref r0), (1, .ref r1)]) rfl rfl rfl ?_)
                refine wp_of e22 c22_71 (rw_iload (pc' := 73) (z := -1) rfl rfl ?_)
                refine wp_of e22 c22_73 (rw_if_ge (p1 := 78) (p2 := 76) (by decide) rfl ⟨by omega, by omega⟩ (fun c231950 => ?_) (fun c231950 => ?_))
                · exfalso
                  omega
                · refine wp_of e22 c22_76 (rw_iconst (pc' := 77) rfl ?_)
                  have k231951 : H231784 r1 7 = H r1 7 := ((f231789 r1 7 _ g1 rfl).trans ((f231763 r1 7 _ g1 rfl).trans (f231738 r1 7 _ g1 rfl)))
                  have k231952 : H231784 r1 8 = H r1 8 := ((f231789 r1 8 _ g1 rfl).trans ((f231763 r1 8 _ g1 rfl).trans (f231738 r1 8 _ g1 rfl)))
                  have k231953 : H231784 r1 9 = H r1 9 := ((f231789 r1 9 _ g1 rfl).trans ((f231763 r1 9 _ g1 rfl).trans (f231738 r1 9 _ g1 rfl)))
                  have k231954 : H231784 r1 10 = H r1 10 := ((f231789 r1 10 _ g1 rfl).trans ((f231763 r1 10 _ g1 rfl).trans (f231738 r1 10 _ g1 rfl)))
                  have k231955 : H231784 r1 11 = H r1 11 := ((f231789 r1 11 _ g1 rfl).trans ((f231763 r1 11 _ g1 rfl).trans (f231738 r1 11 _ g1 rfl)))
                  have k231956 : H231784 r1 12 = H r1 12 := ((f231789 r1 12 _ g1 rfl).trans ((f231763 r1 12 _ g1 rfl).trans (f231738 r1 12 _ g1 rfl)))
                  have k231957 : H231784 r1 13 = H r1 13 := ((f231789 r1 13 _ g1 rfl).trans ((f231763 r1 13 _ g1 rfl).trans (f231738 r1 13 _ g1 rfl)))
                  have k231958 : H231784 r1 14 = H r1 14 := ((f231789 r1 14 _ g1 rfl).trans ((f231763 r1 14 _ g1 rfl).trans (f231738 r1 14 _ g1 rfl)))
                  have k231959 : H231784 r1 15 = H r1 15 := ((f231789 r1 15 _ g1 rfl).trans ((f231763 r1 15 _ g1 rfl).trans (f231738 r1 15 _ g1 rfl)))
                  have k231960 : H231784 r1 16 = H r1 16 := ((f231789 r1 16 _ g1 rfl).trans ((f231763 r1 16 _ g1 rfl).trans (f231738 r1 16 _ g1 rfl)))
                  have o231961 : (xlaw B n q) = (xw B n ((xN B n ((xN B n q)))) 72983685, ((xN B n ((xN B n q)))), ((xN B n ((xN B n q))))) := by
                    unfold xlaw
                    repeat first | rw [xs_0 (by omega)] | rw [xs_1 (by omega)] | rw [if_pos (by omega)] | rw [if_neg (by omega)]
                    first | done | rfl | assumption | (exfalso; omega) | (refine Prod.ext ?_ (Prod.ext ?_ ?_) <;> (try dsimp only) <;> omega)
                  have o231961a : ((xlaw B n q)).1 = xw B n ((xN B n ((xN B n q)))) 72983685 := by rw [o231961]
                  have o231961b : ((xlaw B n q)).2.1 = ((xN B n ((xN B n q)))) := by rw [o231961]
                  have o231961c : ((xlaw B n q)).2.2 = ((xN B n ((xN B n q)))) := by rw [o231961]
                  have _l := @xdlaw_v B n q d
                  exact wp_zreturn e22 c22_77 rfl (by omega) ⟨rfl, w231788, f231947, 0, rfl, ⟨by omega, by omega⟩, (Or.inr ⟨by omega, by omega, by omega, by omega, by omega⟩)⟩
              · exfalso
                omega
            · exfalso
              omega
      · have f231962 := f231749.tr f231763 rfl
        show wp _ _ 22 16 [(0, .ref r0), (1, .ref r1)] [vI z231764] _ H231758 _
        refine wp_of e22 c22_16 (rw_goto (p1 := 20) (by decide) ?_)
        refine wp_of e22 c22_20 (rw_istore_n (pc' := 21) (z := z231764) (L' := [(2, vI z231764), (0, .ref r0), (1, .ref r1)]) rfl rfl rfl ?_)
        refine wp_of e22 c22_21 (rw_iload_n (pc' := 22) (z := z231764) rfl rfl ?_)
        refine wp_of e22 c22_22 (rw_if_lt (p1 := 44) (p2 := 25) (by decide) rfl ⟨by omega, by omega⟩ (fun c231963 => ?_) (fun c231963 => ?_))
        · refine wp_of e22 c22_44 (rw_iconst (pc' := 45) rfl ?_)
          refine wp_of e22 c22_45 (rw_istore_n (pc' := 46) (z := -1) (L' := [(3, vI (-1)), (2, vI z231764), (0, .ref r0), (1, .ref r1)]) rfl rfl rfl ?_)
          refine wp_of e22 c22_46 (rw_iload_n (pc' := 47) (z := -1) rfl rfl ?_)
          refine wp_of e22 c22_47 (rw_if_lt (p1 := 68) (p2 := 50) (by decide) rfl ⟨by omega, by omega⟩ (fun c231964 => ?_) (fun c231964 => ?_))
          · refine wp_of e22 c22_68 (rw_iconst (pc' := 69) rfl ?_)
            refine wp_of e22 c22_69 (rw_istore (pc' := 71) (z := -1) (L' := [(4, vI (-1)), (3, vI (-1)), (2, vI z231764), (0, .ref r0), (1, .ref r1)]) rfl rfl rfl ?_)
            refine wp_of e22 c22_71 (rw_iload (pc' := 73) (z := -1) rfl rfl ?_)
            refine wp_of e22 c22_73 (rw_if_ge (p1 := 78) (p2 := 76) (by decide) rfl ⟨by omega, by omega⟩ (fun c231965 => ?_) (fun c231965 => ?_))
            · exfalso
              omega
            · refine wp_of e22 c22_76 (rw_iconst (pc' := 77) rfl ?_)
              have k231966 : H231758 r1 7 = H r1 7 := ((f231763 r1 7 _ g1 rfl).trans (f231738 r1 7 _ g1 rfl))
              have k231967 : H231758 r1 8 = H r1 8 := ((f231763 r1 8 _ g1 rfl).trans (f231738 r1 8 _ g1 rfl))
              have k231968 : H231758 r1 9 = H r1 9 := ((f231763 r1 9 _ g1 rfl).trans (f231738 r1 9 _ g1 rfl))
              have k231969 : H231758 r1 10 = H r1 10 := ((f231763 r1 10 _ g1 rfl).trans (f231738 r1 10 _ g1 rfl))
              have k231970 : H231758 r1 11 = H r1 11 := ((f231763 r1 11 _ g1 rfl).trans (f231738 r1 11 _ g1 rfl))
              have k231971 : H231758 r1 12 = H r1 12 := ((f231763 r1 12 _ g1 rfl).trans (f231738 r1 12 _ g1 rfl))
              have k231972 : H231758 r1 13 = H r1 13 := ((f231763 r1 13 _ g1 rfl).trans (f231738 r1 13 _ g1 rfl))
              have k231973 : H231758 r1 14 = H r1 14 := ((f231763 r1 14 _ g1 rfl).trans (f231738 r1 14 _ g1 rfl))
              have k231974 : H231758 r1 15 = H r1 15 := ((f231763 r1 15 _ g1 rfl).trans (f231738 r1 15 _ g1 rfl))
              have k231975 : H231758 r1 16 = H r1 16 := ((f231763 r1 16 _ g1 rfl).trans (f231738 r1 16 _ g1 rfl))
              have o231976 : (xlaw B n q) = (xh B n ((xN B n q)) 1 24, ((xN B n q)), ((xN B n q))) := by
                unfold xlaw
                repeat first | rw [xs_0 (by omega)] | rw [xs_1 (by omega)] | rw [if_pos (by omega)] | rw [if_neg (by omega)]
                first | done | rfl | assumption | (exfalso; omega) | (refine Prod.ext ?_ (Prod.ext ?_ ?_) <;> (try dsimp only) <;> omega)
              have o231976a : ((xlaw B n q)).1 = xh B n ((xN B n q)) 1 24 := by rw [o231976]
              have o231976b : ((xlaw B n q)).2.1 = ((xN B n q)) := by rw [o231976]
              have o231976c : ((xlaw B n q)).2.2 = ((xN B n q)) := by rw [o231976]
              have _l := @xdlaw_v B n q d
              exact wp_zreturn e22 c22_77 rfl (by omega) ⟨rfl, w231762, f231962, 0, rfl, ⟨by omega, by omega⟩, (Or.inr ⟨by omega, by omega, by omega, by omega, by omega⟩)⟩
          · exfalso
            omega
        · exfalso
          omega
  · have f231977 := f0.tr f231738 rfl
    show wp _ _ 22 6 [(0, .ref r0), (1, .ref r1)] [vI z231739] _ H231733 _
    refine wp_of e22 c22_6 (rw_if_eq (p1 := 19) (p2 := 9) (by decide) rfl ⟨by omega, by omega⟩ (fun c231978 => ?_) (fun c231978 => ?_))
    · refine wp_of e22 c22_19 (rw_iconst (pc' := 20) rfl ?_)
      refine wp_of e22 c22_20 (rw_istore_n (pc' := 21) (z := -1) (L' := [(2, vI (-1)), (0, .ref r0), (1, .ref r1)]) rfl rfl rfl ?_)
      refine wp_of e22 c22_21 (rw_iload_n (pc' := 22) (z := -1) rfl rfl ?_)
      refine wp_of e22 c22_22 (rw_if_lt (p1 := 44) (p2 := 25) (by decide) rfl ⟨by omega, by omega⟩ (fun c231979 => ?_) (fun c231979 => ?_))
      · refine wp_of e22 c22_44 (rw_iconst (pc' := 45) rfl ?_)
        refine wp_of e22 c22_45 (rw_istore_n (pc' := 46) (z := -1) (L' := [(3, vI (-1)), (2, vI (-1)), (0, .ref r0), (1, .ref r1)]) rfl rfl rfl ?_)
        refine wp_of e22 c22_46 (rw_iload_n (pc' := 47) (z := -1) rfl rfl ?_)
        refine wp_of e22 c22_47 (rw_if_lt (p1 := 68) (p2 := 50) (by decide) rfl ⟨by omega, by omega⟩ (fun c231980 => ?_) (fun c231980 => ?_))
        · refine wp_of e22 c22_68 (rw_iconst (pc' := 69) rfl ?_)
          refine wp_of e22 c22_69 (rw_istore (pc' := 71) (z := -1) (L' := [(4, vI (-1)), (3, vI (-1)), (2, vI (-1)), (0, .ref r0), (1, .ref r1)]) rfl rfl rfl ?_)
          refine wp_of e22 c22_71 (rw_iload (pc' := 73) (z := -1) rfl rfl ?_)
          refine wp_of e22 c22_73 (rw_if_ge (p1 := 78) (p2 := 76) (by decide) rfl ⟨by omega, by omega⟩ (fun c231981 => ?_) (fun c231981 => ?_))
          · exfalso
            omega
          · refine wp_of e22 c22_76 (rw_iconst (pc' := 77) rfl ?_)
            have k231982 : H231733 r1 7 = H r1 7 := (f231738 r1 7 _ g1 rfl)
            have k231983 : H231733 r1 8 = H r1 8 := (f231738 r1 8 _ g1 rfl)
            have k231984 : H231733 r1 9 = H r1 9 := (f231738 r1 9 _ g1 rfl)
            have k231985 : H231733 r1 10 = H r1 10 := (f231738 r1 10 _ g1 rfl)
            have k231986 : H231733 r1 11 = H r1 11 := (f231738 r1 11 _ g1 rfl)
            have k231987 : H231733 r1 12 = H r1 12 := (f231738 r1 12 _ g1 rfl)
            have k231988 : H231733 r1 13 = H r1 13 := (f231738 r1 13 _ g1 rfl)
            have k231989 : H231733 r1 14 = H r1 14 := (f231738 r1 14 _ g1 rfl)
            have k231990 : H231733 r1 15 = H r1 15 := (f231738 r1 15 _ g1 rfl)
            have k231991 : H231733 r1 16 = H r1 16 := (f231738 r1 16 _ g1 rfl)
            have o231992 : (xlaw B n q) = (xw B n q 8902227, q, q) := by
              unfold xlaw
              repeat first | rw [xs_0 (by omega)] | rw [xs_1 (by omega)] | rw [if_pos (by omega)] | rw [if_neg (by omega)]
              first | done | rfl | assumption | (exfalso; omega) | (refine Prod.ext ?_ (Prod.ext ?_ ?_) <;> (try dsimp only) <;> omega)
            have o231992a : ((xlaw B n q)).1 = xw B n q 8902227 := by rw [o231992]
            have o231992b : ((xlaw B n q)).2.1 = q := by rw [o231992]
            have o231992c : ((xlaw B n q)).2.2 = q := by rw [o231992]
            have _l := @xdlaw_v B n q d
            exact wp_zreturn e22 c22_77 rfl (by omega) ⟨rfl, w231737, f231977, 0, rfl, ⟨by omega, by omega⟩, (Or.inr ⟨by omega, by omega, by omega, by omega, by omega⟩)⟩
        · exfalso
          omega
      · exfalso
        omega
    · exfalso
      omega
/-! StrikeAwake$Reader.readsSexton(LStrikeAwake$Parish;)Z  -/
abbrev uq_32 (r0 : Nat) (r1 : Nat) (tk : Nat) (rb : Nat) (B : Nat → Int) (n : Int) (q : Int) (d : xD) (T : wq_T) (H : wq_H) : Option Value → wq_T → wq_H → Prop := fun r T' H' => T = T' ∧ WT T H' ∧ wfr [(27, 15), (3, 3), (3, 4), (4, 2), (4, 3), (4, 4), (4, 5), (4, 6)] T H H' ∧ ∃ z : Int, some (vI z) = r ∧ (0 ≤ z ∧ z ≤ 1) ∧ (((z = 1) ∧ ((xsex B n q d).1 = 0) ∧ (xsex B n q d = (0, q, (xN B n q))) ∧ (q ≤ (xN B n q)) ∧ TC T H' tk B n (xN B n q) ∧ DC T H' r1 (xdsex B n q d)) ∨ ((z = 0) ∧ ((xsex B n q d).1 ≠ 0) ∧ ((xsex B n q d).2.2 = (xsex B n q d).2.1) ∧ (H' r0 3 = (xsex B n q d).1) ∧ (H' r0 4 = (xsex B n q d).2.1)))
set_option maxHeartbeats 4000000 in
theorem u_32 {kt : Nat → Option mc_E} {T : wq_T} {H : wq_H} {r0 : Nat} {r1 : Nat} {tk : Nat} {rb : Nat} {B : Nat → Int} {n : Int} {q : Int} {d : xD} (hW : WT T H) (g0 : T.2.2.2 r0 = some 3) (g1 : T.2.2.2 r1 = some 27) (qtk : H r0 0 = (tk : Int)) (gtk : T.2.2.2 tk = some 4) (qrb : H tk 0 = (rb : Int)) (grb : T.2.2.2 rb = some 2) (hTC_tk : TC T H tk B n q) (hDC_r1 : DC T H r1 d) : wpc kt 5 32 [.ref r0, .ref r1] T H (uq_32 r0 r1 tk rb B n q d T H) := by
  refine wp_enter e32 (Nat.le_of_ble_eq_true rfl) rfl ?_
  have f0 : wfr [(27, 15), (3, 3), (3, 4), (4, 2), (4, 3), (4, 4), (4, 5), (4, 6)] T H H := wfr.rf
  show wp _ _ 32 0 [(0, .ref r0), (1, .ref r1)] [] _ H _
  have u232038 := TC_k hTC_tk
  have u232039 := DC_k hDC_r1
  refine wp_of e32 c32_0 (rw_aload_n (pc' := 1) (v := .ref r0) rfl rfl rfl ?_)
  refine wp_of e32 c32_1 (rw_aload_n (pc' := 2) (v := .ref r1) rfl rfl rfl ?_)
  refine wp_of e32 c32_2 (xc_V (pc' := 5) (r := r0) (as := [.ref r1]) (st := []) (lm_1_207) rfl rfl (Nat.le_of_ble_eq_true rfl) hW g0 sh_3 (by decide) rfl (by decide) (u_33 (B := B) (n := n) (q := q) (d := d) hW g0 g1 qtk gtk qrb grb hTC_tk hDC_r1) (fun R232040 T232041 H232042 p232043 => ?_))
  obtain ⟨e232044, w232046, f232047, z232048, e232045, b232049, p232050⟩ := p232043
  subst e232044
  subst e232045
  rcases p232050 with ⟨a232051, a232052, a232053, a232054⟩ | ⟨a232055, a232056, a232057, a232058⟩
  · have f232059 := f0.tr f232047 rfl
    show wp _ _ 32 5 [(0, .ref r0), (1, .ref r1)] [vI z232048] _ H232042 _
    refine wp_of e32 c32_5 (rw_istore_n (pc' := 6) (z := z232048) (L' := [(2, vI z232048), (0, .ref r0), (1, .ref r1)]) rfl rfl rfl ?_)
    refine wp_of e32 c32_6 (rw_iload_n (pc' := 7) (z := z232048) rfl rfl ?_)
    refine wp_of e32 c32_7 (rw_if_ge (p1 := 12) (p2 := 10) (by decide) rfl ⟨by omega, by omega⟩ (fun c232060 => ?_) (fun c232060 => ?_))
    · refine wp_of e32 c32_12 (rw_aload_n (pc' := 13) (v := .ref r0) rfl rfl rfl ?_)
      have k232061 : H232042 r0 0 = H r0 0 := (f232047 r0 0 _ g0 rfl)
      have q232062 : H232042 r0 0 = (tk : Int) := k232061.trans qtk
      refine wp_of e32 c32_13 (xg_K (pc' := 16) lf_1_12 w232046 g0 sh_3 (by decide) (by decide) rfl q232062 rfl ?_)
      have k232063 : H232042 tk 0 = H tk 0 := (f232047 tk 0 _ gtk rfl)
      have q232064 : H232042 tk 0 = (rb : Int) := k232063.trans qrb
      have k232065 : H232042 tk 1 = H tk 1 := (f232047 tk 1 _ gtk rfl)
      have k232066 : H232042 tk 2 = H tk 2 := (f232047 tk 2 _ gtk rfl)
      have h232067 : TC T H232042 tk B n q := (TC_fr hW gtk f232047 rfl hTC_tk)
      have h232068 : TP T H232042 rb B := TC_tp h232067 q232064
      refine wp_of e32 c32_16 (xc_V (pc' := 19) (r := tk) (as := []) (st := []) (lm_1_74) rfl rfl (Nat.le_of_ble_eq_true rfl) w232046 gtk sh_4 (by decide) rfl (by decide) (u_16 (B := B) (n := n) (a := (xE B n q)) (q := (xN B n q)) w232046 gtk q232064 grb (by omega) (by omega) (by omega) (rfl) h232068) (fun R232069 T232070 H232071 p232072 => ?_))
      obtain ⟨e232073, w232075, f232076, e232074, p232077⟩ := p232072
      subst e232073
      subst e232074
      have f232079 := f232059.tr f232076 rfl
      show wp _ _ 32 19 [(2, vI z232048), (0, .ref r0), (1, .ref r1)] [] _ H232071 _
      have u232080 := TC_k p232077
      refine wp_of e32 c32_19 (rw_aload_n (pc' := 20) (v := .ref r1) rfl rfl rfl ?_)
      refine wp_of e32 c32_20 (rw_iload_n (pc' := 21) (z := z232048) rfl rfl ?_)
      refine wp_of e32 c32_21 (xp_I (pc' := 24) lf_1_211 w232075 g1 sh_27 (by decide) (by decide) ty_27_15 rfl rfl (by omega) (by omega) ⟨by omega, by omega⟩ rfl (fun H232081 e232082 w232083 => ?_))
      have f232084 := f232079.put' e232082 g1 rfl
      have k232085 : H232081 r1 15 = z232048 := wq_u_s e232082
      refine wp_of e32 c32_24 (rw_iconst (pc' := 25) rfl ?_)
      have k232086 : H232081 r1 7 = H r1 7 := ((wq_u_j e232082 rfl).trans ((f232076 r1 7 _ g1 rfl).trans (f232047 r1 7 _ g1 rfl)))
      have k232087 : H232081 r1 8 = H r1 8 := ((wq_u_j e232082 rfl).trans ((f232076 r1 8 _ g1 rfl).trans (f232047 r1 8 _ g1 rfl)))
      have k232088 : H232081 r1 9 = H r1 9 := ((wq_u_j e232082 rfl).trans ((f232076 r1 9 _ g1 rfl).trans (f232047 r1 9 _ g1 rfl)))
      have k232089 : H232081 r1 10 = H r1 10 := ((wq_u_j e232082 rfl).trans ((f232076 r1 10 _ g1 rfl).trans (f232047 r1 10 _ g1 rfl)))
      have k232090 : H232081 r1 11 = H r1 11 := ((wq_u_j e232082 rfl).trans ((f232076 r1 11 _ g1 rfl).trans (f232047 r1 11 _ g1 rfl)))
      have k232091 : H232081 r1 12 = H r1 12 := ((wq_u_j e232082 rfl).trans ((f232076 r1 12 _ g1 rfl).trans (f232047 r1 12 _ g1 rfl)))
      have k232092 : H232081 r1 13 = H r1 13 := ((wq_u_j e232082 rfl).trans ((f232076 r1 13 _ g1 rfl).trans (f232047 r1 13 _ g1 rfl)))
      have k232093 : H232081 r1 14 = H r1 14 := ((wq_u_j e232082 rfl).trans ((f232076 r1 14 _ g1 rfl).trans (f232047 r1 14 _ g1 rfl)))
      have k232094 : H232081 r1 16 = H r1 16 := ((wq_u_j e232082 rfl).trans ((f232076 r1 16 _ g1 rfl).trans (f232047 r1 16 _ g1 rfl)))
      have o232095 : (xsex B n q d) = (0, q, (xN B n q)) := by
        unfold xsex
        repeat first | rw [xs_0 (by omega)] | rw [xs_1 (by omega)] | rw [if_pos (by omega)] | rw [if_neg (by omega)]
        first | done | rfl | assumption | (exfalso; omega) | (refine Prod.ext ?_ (Prod.ext ?_ ?_) <;> (try dsimp only) <;> omega)
      have o232095a : ((xsex B n q d)).1 = 0 := by rw [o232095]
      have o232095b : ((xsex B n q d)).2.1 = q := by rw [o232095]
      have o232095c : ((xsex B n q d)).2.2 = (xN B n q) := by rw [o232095]
      have _l := @xdsex_v B n q d
      have _w := @xwho_e d B n q
      have _e := @xsx_e (xwho B n q d)
      have h232096 : TC T H232081 tk B n (xN B n q) := (TC_fr w232075 gtk ((wfr.rf (l := [(27, 15)])).put' e232082 g1 rfl) rfl p232077)
      exact wp_zreturn e32 c32_25 rfl (by omega) ⟨rfl, w232083, f232084, 1, rfl, ⟨by omega, by omega⟩, (Or.inl ⟨by omega, by omega, o232095, by omega, h232096, DC_cnt hW g1 hDC_r1 f232084 rfl (fun i h => xdsex_r h) ⟨by omega, by omega, by omega, by omega, by omega⟩ ⟨by omega, by omega, by omega, by omega, by omega, by omega, by omega, by omega, by omega, by omega, by omega, by omega, by omega, by omega, by omega, by omega⟩⟩)⟩
    · exfalso
      omega
  · have f232097 := f0.tr f232047 rfl
    show wp _ _ 32 5 [(0, .ref r0), (1, .ref r1)] [vI z232048] _ H232042 _
    refine wp_of e32 c32_5 (rw_istore_n (pc' := 6) (z := z232048) (L' := [(2, vI z232048), (0, .ref r0), (1, .ref r1)]) rfl rfl rfl ?_)
    refine wp_of e32 c32_6 (rw_iload_n (pc' := 7) (z := z232048) rfl rfl ?_)
    refine wp_of e32 c32_7 (rw_if_ge (p1 := 12) (p2 := 10) (by decide) rfl ⟨by omega, by omega⟩ (fun c232098 => ?_) (fun c232098 => ?_))
    · exfalso
      omega
    · refine wp_of e32 c32_10 (rw_iconst (pc' := 11) rfl ?_)
      have k232099 : H232042 r1 7 = H r1 7 := (f232047 r1 7 _ g1 rfl)
      have k232100 : H232042 r1 8 = H r1 8 := (f232047 r1 8 _ g1 rfl)
      have k232101 : H232042 r1 9 = H r1 9 := (f232047 r1 9 _ g1 rfl)
      have k232102 : H232042 r1 10 = H r1 10 := (f232047 r1 10 _ g1 rfl)
      have k232103 : H232042 r1 11 = H r1 11 := (f232047 r1 11 _ g1 rfl)
      have k232104 : H232042 r1 12 = H r1 12 := (f232047 r1 12 _ g1 rfl)
      have k232105 : H232042 r1 13 = H r1 13 := (f232047 r1 13 _ g1 rfl)
      have k232106 : H232042 r1 14 = H r1 14 := (f232047 r1 14 _ g1 rfl)
      have k232107 : H232042 r1 15 = H r1 15 := (f232047 r1 15 _ g1 rfl)
      have k232108 : H232042 r1 16 = H r1 16 := (f232047 r1 16 _ g1 rfl)
      have o232109 : (xsex B n q d) = (xkn B n q d, q, q) := by
        unfold xsex
        repeat first | rw [xs_0 (by omega)] | rw [xs_1 (by omega)] | rw [if_pos (by omega)] | rw [if_neg (by omega)]
        first | done | rfl | assumption | (exfalso; omega) | (refine Prod.ext ?_ (Prod.ext ?_ ?_) <;> (try dsimp only) <;> omega)
      have o232109a : ((xsex B n q d)).1 = xkn B n q d := by rw [o232109]
      have o232109b : ((xsex B n q d)).2.1 = q := by rw [o232109]
      have o232109c : ((xsex B n q d)).2.2 = q := by rw [o232109]
      have _l := @xdsex_v B n q d
      have _w := @xwho_e d B n q
      have _e := @xsx_e (xwho B n q d)
      exact wp_zreturn e32 c32_11 rfl (by omega) ⟨rfl, w232046, f232097, 0, rfl, ⟨by omega, by omega⟩, (Or.inr ⟨by omega, by omega, by omega, by omega, by omega⟩)⟩
/-! StrikeAwake.hourBits(II)I  -/
abbrev uq_31 (a0 : Int) (a1 : Int) (lo : Int) (hi : Int) (T : wq_T) (H : wq_H) : Option Value → wq_T → wq_H → Prop := fun r T' H' => T = T' ∧ H = H' ∧ ∃ z : Int, some (vI z) = r ∧ (0 ≤ z ∧ z ≤ 16777215) ∧ (((z = xhs lo hi)))
set_option maxHeartbeats 4000000 in
theorem u_31 {kt : Nat → Option mc_E} {T : wq_T} {H : wq_H} {a0 : Int} {a1 : Int} {lo : Int} {hi : Int} (hW : WT T H) (i0 : 0 ≤ a0 ∧ a0 ≤ 24) (i1 : 0 ≤ a1 ∧ a1 ≤ 36) (p0 : a0 = lo) (p1 : a1 = hi) (p2 : lo ≤ hi) : wpc kt 1 31 [vI a0, vI a1] T H (uq_31 a0 a1 lo hi T H) := by
  refine wp_enter e31 (Nat.le_of_ble_eq_true rfl) rfl ?_
  show wp _ _ 31 0 [(0, vI a0), (1, vI a1)] [] _ H _
  refine wp_of e31 c31_0 (rw_lconst (pc' := 1) (z := 1) rfl rfl ?_)
  refine wp_of e31 c31_1 (rw_iload_n (pc' := 2) (z := a1) rfl rfl ?_)
  refine wp_of e31 c31_2 (rw_lshl (pc' := 3) rfl ?_)
  obtain ⟨v232120, e232121⟩ : ∃ x : Int, x = wl_shl 1 a1 := ⟨_, rfl⟩
  rw [← e232121]
  have b232122 : -9223372036854775808 ≤ v232120 ∧ v232120 ≤ 9223372036854775807 := by
    rw [e232121]
    exact wL_shl _ _
  refine wp_of e31 c31_3 (rw_lconst (pc' := 4) (z := 1) rfl rfl ?_)
  refine wp_of e31 c31_4 (rw_iload_n (pc' := 5) (z := a0) rfl rfl ?_)
  refine wp_of e31 c31_5 (rw_lshl (pc' := 6) rfl ?_)
  obtain ⟨v232123, e232124⟩ : ∃ x : Int, x = wl_shl 1 a0 := ⟨_, rfl⟩
  rw [← e232124]
  have b232125 : -9223372036854775808 ≤ v232123 ∧ v232123 ≤ 9223372036854775807 := by
    rw [e232124]
    exact wL_shl _ _
  refine wp_of e31 c31_6 (rw_lsubw (pc' := 7) rfl ?_)
  obtain ⟨v232126, e232127⟩ : ∃ x : Int, x = wl_w (v232120 - v232123) := ⟨_, rfl⟩
  rw [← e232127]
  have b232128 : -9223372036854775808 ≤ v232126 ∧ v232126 ≤ 9223372036854775807 := by
    rw [e232127]
    exact wL_w _
  have b232129 : (-9223372036854775808 ≤ v232120 - v232123 ∧ v232120 - v232123 ≤ 9223372036854775807) → v232126 = v232120 - v232123 := fun h => by rw [e232127]; exact wl_w_id h
  refine wp_of e31 c31_7 (rw_l2i (pc' := 8) rfl ?_)
  obtain ⟨v232130, e232131⟩ : ∃ x : Int, x = wq_w v232126 := ⟨_, rfl⟩
  rw [← e232131]
  have b232132 : -2147483648 ≤ v232130 ∧ v232130 ≤ 2147483647 := by
    rw [e232131]
    exact wI_w _
  have b232133 : (-2147483648 ≤ v232126 ∧ v232126 ≤ 2147483647) → v232130 = v232126 := by
    rw [e232131]
    exact fun h => wq_w_id h
  refine wp_of e31 c31_8 (rw_ldc_wI (pc' := 11) (z := 16777215) rfl rfl rfl ?_)
  refine wp_of e31 c31_11 (rw_iand (pc' := 12) rfl ?_)
  obtain ⟨v232134, e232135⟩ : ∃ x : Int, x = wq_and v232130 16777215 := ⟨_, rfl⟩
  rw [← e232135]
  have b232136 : 0 ≤ v232134 ∧ v232134 ≤ 16777215 := by
    rw [e232135]
    exact wq_and_b _ (by omega) (by omega)
  exact wp_ireturn e31 c31_12 rfl ⟨rfl, rfl, v232134, rfl, ⟨by omega, by omega⟩, (by subst_vars; exact hb_ok (by omega) (by omega) (by omega) (by omega))⟩
/-! StrikeAwake.hasBit(II)Z  -/
abbrev uq_36 (a0 : Int) (a1 : Int) (T : wq_T) (H : wq_H) : Option Value → wq_T → wq_H → Prop := fun r T' H' => T = T' ∧ H = H' ∧ ∃ z : Int, some (vI z) = r ∧ (0 ≤ z ∧ z ≤ 1) ∧ (((z = 1) ∧ (wq_and (wq_shr a0 a1) 1 ≠ 0)) ∨ ((z = 0) ∧ (wq_and (wq_shr a0 a1) 1 = 0)))
set_option maxHeartbeats 4000000 in
theorem u_36 {kt : Nat → Option mc_E} {T : wq_T} {H : wq_H} {a0 : Int} {a1 : Int} (hW : WT T H) (i0 : (-2147483648) ≤ a0 ∧ a0 ≤ 2147483647) (i1 : (-2147483648) ≤ a1 ∧ a1 ≤ 2147483647) : wpc kt 1 36 [vI a0, vI a1] T H (uq_36 a0 a1 T H) := by
  refine wp_enter e36 (Nat.le_of_ble_eq_true rfl) rfl ?_
  show wp _ _ 36 0 [(0, vI a0), (1, vI a1)] [] _ H _
  refine wp_of e36 c36_0 (rw_iload_n (pc' := 1) (z := a0) rfl rfl ?_)
  refine wp_of e36 c36_1 (rw_iload_n (pc' := 2) (z := a1) rfl rfl ?_)
  refine wp_of e36 c36_2 (rw_ishr (pc' := 3) rfl ?_)
  obtain ⟨v232142, e232143⟩ : ∃ x : Int, x = wq_shr a0 a1 := ⟨_, rfl⟩
  rw [← e232143]
  have b232144 : -2147483648 ≤ v232142 ∧ v232142 ≤ 2147483647 := by
    rw [e232143]
    exact wI_shr _ _
  refine wp_of e36 c36_3 (rw_iconst (pc' := 4) rfl ?_)
  refine wp_of e36 c36_4 (rw_iand (pc' := 5) rfl ?_)
  obtain ⟨v232145, e232146⟩ : ∃ x : Int, x = wq_and v232142 1 := ⟨_, rfl⟩
  rw [← e232146]
  have b232147 : 0 ≤ v232145 ∧ v232145 ≤ 1 := by
    rw [e232146]
    exact wq_and_b _ (by omega) (by omega)
  refine wp_of e36 c36_5 (rw_if_eq (p1 := 12) (p2 := 8) (by decide) rfl ⟨by omega, by omega⟩ (fun c232148 => ?_) (fun c232148 => ?_))
  · refine wp_of e36 c36_12 (rw_iconst (pc' := 13) rfl ?_)
    exact wp_zreturn e36 c36_13 rfl (by omega) ⟨rfl, rfl, 0, rfl, ⟨by omega, by omega⟩, (Or.inr ⟨by omega, by subst_vars; omega⟩)⟩
  · refine wp_of e36 c36_8 (rw_iconst (pc' := 9) rfl ?_)
    refine wp_of e36 c36_9 (rw_goto (p1 := 13) (by decide) ?_)
    exact wp_zreturn e36 c36_13 rfl (by omega) ⟨rfl, rfl, 1, rfl, ⟨by omega, by omega⟩, (Or.inl ⟨by omega, by subst_vars; omega⟩)⟩
/-! StrikeAwake$Parish.listStruck()V  -/
abbrev uq_41 (r0 : Nat) (f : Nat → Int) (T : wq_T) (H : wq_H) : Option Value → wq_T → wq_H → Prop := fun r T' H' => T = T' ∧ WT T H' ∧ wfr [(27, 16), (30, 999)] T H H' ∧ none = r ∧ (((H' r0 16 = xcn f 24) ∧ ST T H' r0 f ∧ SV T H' r0 f 24))
set_option maxHeartbeats 4000000 in
theorem u_41 {kt : Nat → Option mc_E} {T : wq_T} {H : wq_H} {r0 : Nat} {f : Nat → Int} (hW : WT T H) (g0 : T.2.2.2 r0 = some 27) (hST_r0 : ST T H r0 f) : wpc kt 1 41 [.ref r0] T H (uq_41 r0 f T H) := by
  refine wp_enter e41 (Nat.le_of_ble_eq_true rfl) rfl ?_
  have f0 : wfr [(27, 16), (30, 999)] T H H := wfr.rf
  show wp _ _ 41 0 [(0, .ref r0)] [] _ H _
  have _c := @xcn_b f 24
  refine wp_of e41 c41_0 (rw_aload_n (pc' := 1) (v := .ref r0) rfl rfl rfl ?_)
  refine wp_of e41 c41_1 (rw_iconst (pc' := 2) rfl ?_)
  refine wp_of e41 c41_2 (xp_I (pc' := 5) lf_7_65 hW g0 sh_27 (by decide) (by decide) ty_27_16 rfl rfl (by omega) (by omega) ⟨by omega, by omega⟩ rfl (fun H232372 e232373 w232374 => ?_))
  have f232375 := f0.put' e232373 g0 rfl
  have k232376 : H232372 r0 16 = 0 := wq_u_s e232373
  refine wp_of e41 c41_5 (rw_iconst (pc' := 6) rfl ?_)
  refine wp_of e41 c41_6 (rw_istore_n (pc' := 7) (z := 0) (L' := [(1, vI 0), (0, .ref r0)]) rfl rfl rfl ?_)
  have lp232570 : ∀ (n232571 : Nat) (v232573 : Int) (H232574 : wq_H), WT T H232574 → wfr [(27, 16), (30, 999)] T H232372 H232574 → (0 ≤ v232573 ∧ v232573 ≤ 24) → (H232574 r0 16 = xcn f (v232573).toNat) → (H232574 r0 16 ≤ v232573) → ST T H232574 r0 f → SV T H232574 r0 f v232573 → (24 - v232573).toNat = n232571 → wp kt 0 41 7 [(1, vI v232573), (0, .ref r0)] [] T H232574 (uq_41 r0 f T H) := by
    intro n232571
    induction n232571 using Nat.strongRecOn with
    | _ n232571 ih232572 =>
      intro v232573 H232574 w232575 f232576 b232577 x232578 x232579 h232581 h232582 m232580
      have f232583 := f232375.tr f232576 rfl
      refine wp_of e41 c41_7 (rw_iload_n (pc' := 8) (z := v232573) rfl rfl ?_)
      refine wp_of e41 c41_8 (rw_bipush (pc' := 10) (z := 24) rfl (by decide) ?_)
      refine wp_of e41 c41_10 (rw_icmp_ge (p1 := 48) (p2 := 13) (by decide) rfl ⟨by omega, by omega⟩ ⟨by omega, by omega⟩ (fun c232584 => ?_) (fun c232584 => ?_))
      · have : xcn f (v232573).toNat = xcn f 24 := by rw [show (v232573).toNat = 24 by omega]
        have h232585 : SV T H232574 r0 f 24 := by rw [show (24 : Int) = v232573 by omega]; exact h232582
        exact wp_return e41 c41_48 rfl ⟨rfl, w232575, f232583, rfl, ⟨by omega, h232581, h232585⟩⟩
      · refine wp_of e41 c41_13 (rw_aload_n (pc' := 14) (v := .ref r0) rfl rfl rfl ?_)
        refine wp_of e41 c41_14 (xg_R (pc' := 17) lf_7_17 w232575 g0 sh_27 (by decide) (by decide) ty_27_1 rfl rfl (fun r232586 q232587 g232588 => ?_))
        refine wp_of e41 c41_17 (rw_iload_n (pc' := 18) (z := v232573) rfl rfl ?_)
        refine wp_of e41 c41_18 (xa_I (so := 0) (pc' := 19) w232575 g232588 sh_29 (by decide) (ty_29 _) (by omega) (by omega) rfl (fun b232589 b232590 => ?_))
        have := ST_at h232581 q232587 (k := (v232573.toNat)) (by omega)
        refine wp_of e41 c41_19 (rw_if_lt (p1 := 42) (p2 := 22) (by decide) rfl ⟨by omega, by omega⟩ (fun c232591 => ?_) (fun c232591 => ?_))
        · have := @xcn_s1 f v232573 (by omega)
          have h232592 : SV T H232574 r0 f (v232573 + 1) := SV_skip h232582 (by omega) (by omega)
          refine wp_of e41 c41_42 (rw_iinc (pc' := 45) (z := v232573) (L' := [(1, vI (v232573 + 1)), (0, .ref r0)]) rfl rfl rfl rfl ?_)
          refine wp_of e41 c41_45 (rw_goto (p1 := 7) (by decide) ?_)
          exact wp_lc (ks := [1, 0]) (wl_c rfl (wl_c rfl wl_n)) rfl (by decide) (ih232572 _ (by omega) (v232573 + 1) H232574 w232575 f232576 ⟨by omega, by omega⟩ (by omega) (by omega) h232581 h232592 rfl)
        · refine wp_of e41 c41_22 (rw_aload_n (pc' := 23) (v := .ref r0) rfl rfl rfl ?_)
          refine wp_of e41 c41_23 (xg_R (pc' := 26) lf_7_21 w232575 g0 sh_27 (by decide) (by decide) ty_27_2 rfl rfl (fun r232593 q232594 g232595 => ?_))
          refine wp_of e41 c41_26 (rw_aload_n (pc' := 27) (v := .ref r0) rfl rfl rfl ?_)
          refine wp_of e41 c41_27 (xg_I (pc' := 30) lf_7_65 w232575 g0 sh_27 (by decide) (by decide) ty_27_16 rfl rfl (fun b232596 b232597 => ?_))
          refine wp_of e41 c41_30 (rw_iload_n (pc' := 31) (z := v232573) rfl rfl ?_)
          refine wp_of e41 c41_31 (xs_I (pc' := 32) w232575 g232595 (by decide) sh_30 (by decide) (ty_30 _) (by omega) (by omega) ⟨by omega, by omega⟩ (by omega) (by omega) rfl (fun H232598 e232599 w232600 => ?_))
          have f232601 := f232583.put' e232599 g232595 rfl
          have f232602 := f232576.put' e232599 g232595 rfl
          have h232603 : SV T H232598 r0 f (v232573 + 1) := SV_put h232582 q232594 g0 g232595 e232599 (by omega) (by omega) (by omega) (by omega)
          refine wp_of e41 c41_32 (rw_aload_n (pc' := 33) (v := .ref r0) rfl rfl rfl ?_)
          refine wp_of e41 c41_33 (rw_dup (pc' := 34) rfl rfl ?_)
          have k232604 : H232598 r0 16 = H232574 r0 16 := (wq_u_t e232599 g232595 g0 rfl 16)
          refine wp_of e41 c41_34 (xg_I (pc' := 37) lf_7_65 w232600 g0 sh_27 (by decide) (by decide) ty_27_16 rfl rfl (fun b232605 b232606 => ?_))
          refine wp_of e41 c41_37 (rw_iconst (pc' := 38) rfl ?_)
          refine wp_of e41 c41_38 (rw_iadd (pc' := 39) rfl ?_)
          refine wp_of e41 c41_39 (xp_I (pc' := 42) lf_7_65 w232600 g0 sh_27 (by decide) (by decide) ty_27_16 rfl rfl (by omega) (by omega) ⟨by omega, by omega⟩ rfl (fun H232607 e232608 w232609 => ?_))
          have f232610 := f232601.put' e232608 g0 rfl
          have f232611 := f232602.put' e232608 g0 rfl
          have k232612 : H232607 r0 16 = (H232598 r0 16) + 1 := wq_u_s e232608
          have := @xcn_s1 f v232573 (by omega)
          refine wp_of e41 c41_42 (rw_iinc (pc' := 45) (z := v232573) (L' := [(1, vI (v232573 + 1)), (0, .ref r0)]) rfl rfl rfl rfl ?_)
          refine wp_of e41 c41_45 (rw_goto (p1 := 7) (by decide) ?_)
          have h232613 : ST T H232607 r0 f := (ST_fr w232600 g0 ((wfr.rf (l := [(27, 16)])).put' e232608 g0 rfl) rfl (ST_fr w232575 g0 ((wfr.rf (l := [(30, 999)])).put' e232599 g232595 rfl) rfl h232581))
          have h232614 : SV T H232607 r0 f (v232573 + 1) := (SV_fr w232600 g0 ((wfr.rf (l := [(27, 16)])).put' e232608 g0 rfl) rfl h232603)
          exact wp_lc (ks := [1, 0]) (wl_c rfl (wl_c rfl wl_n)) rfl (by decide) (ih232572 _ (by omega) (v232573 + 1) H232607 w232609 f232611 ⟨by omega, by omega⟩ (by omega) (by omega) h232613 h232614 rfl)
  have : xcn f (0 : Int).toNat = 0 := rfl
  have h232615 : SV T H232372 r0 f 0 := SV_0 w232374 g0
  have h232616 : ST T H232372 r0 f := (ST_fr hW g0 ((wfr.rf (l := [(27, 16)])).put' e232373 g0 rfl) rfl hST_r0)
  exact wp_lc (ks := [1, 0]) (wl_c rfl (wl_c rfl wl_n)) rfl (by decide) (lp232570 _ 0 H232372 w232374 wfr.rf ⟨by omega, by omega⟩ (by omega) (by omega) h232616 h232615 rfl)
/-! StrikeAwake$Parish.setStroke(II)V  -/
abbrev uq_40 (r0 : Nat) (a1 : Int) (a2 : Int) (d : xD) (w : Int) (y : Int) (T : wq_T) (H : wq_H) : Option Value → wq_T → wq_H → Prop := fun r T' H' => T = T' ∧ WT T H' ∧ wfr [(27, 16), (29, 999), (30, 999)] T H H' ∧ none = r ∧ ((DC T H' r0 (wq_u d 13 y.toNat w)))
set_option maxHeartbeats 4000000 in
theorem u_40 {kt : Nat → Option mc_E} {T : wq_T} {H : wq_H} {r0 : Nat} {a1 : Int} {a2 : Int} {d : xD} {w : Int} {y : Int} (hW : WT T H) (g0 : T.2.2.2 r0 = some 27) (i1 : 0 ≤ a1 ∧ a1 ≤ 23) (i2 : (-2) ≤ a2 ∧ a2 ≤ 99) (p0 : (0 ≤ a2 ∧ w = a2 + 1) ∨ (a2 = -2 ∧ w = 0)) (p1 : a1 = y) (hDC_r0 : DC T H r0 d) : wpc kt 2 40 [.ref r0, vI a1, vI a2] T H (uq_40 r0 a1 a2 d w y T H) := by
  refine wp_enter e40 (Nat.le_of_ble_eq_true rfl) rfl ?_
  have f0 : wfr [(27, 16), (29, 999), (30, 999)] T H H := wfr.rf
  show wp _ _ 40 0 [(0, .ref r0), (1, vI a1), (2, vI a2)] [] _ H _
  have u232644 := DC_k hDC_r0
  have h232645 : DQ T H r0 d := hDC_r0.2.1
  have h232646 : ST T H r0 (d 13) := hDC_r0.2.2.1
  have h232647 : SV T H r0 (d 13) 24 := hDC_r0.2.2.2.1
  have h232648 : DA3 T H r0 (d 0 5) (d 12) := hDC_r0.2.2.2.2.1
  have h232649 : DA4 T H r0 (d 0 6) (d 14) := hDC_r0.2.2.2.2.2.1
  have h232650 : DA5 T H r0 (d 0 6) (d 15) := hDC_r0.2.2.2.2.2.2.1
  have h232651 : DA6 T H r0 (d 0 7) (d 16) := hDC_r0.2.2.2.2.2.2.2
  refine wp_of e40 c40_0 (rw_aload_n (pc' := 1) (v := .ref r0) rfl rfl rfl ?_)
  refine wp_of e40 c40_1 (xg_R (pc' := 4) lf_7_17 hW g0 sh_27 (by decide) (by decide) ty_27_1 rfl rfl (fun r232652 q232653 g232654 => ?_))
  refine wp_of e40 c40_4 (rw_iload_n (pc' := 5) (z := a1) rfl rfl ?_)
  refine wp_of e40 c40_5 (rw_iload_n (pc' := 6) (z := a2) rfl rfl ?_)
  refine wp_of e40 c40_6 (xs_I (pc' := 7) hW g232654 (by decide) sh_29 (by decide) (ty_29 _) (by omega) (by omega) ⟨by omega, by omega⟩ (by omega) (by omega) rfl (fun H232655 e232656 w232657 => ?_))
  have f232658 := f0.put' e232656 g232654 rfl
  have h232659 : ST T H232655 r0 (wq_u d 13 y.toNat w 13) := ST_put (w := w) h232646 q232653 g0 g232654 e232656 (by omega) (by rw [p1]; exact wq_u_eq) (fun j hj => wq_u_e2 (fun h => hj (by rw [p1]; exact h.2)))
  refine wp_of e40 c40_7 (rw_aload_n (pc' := 8) (v := .ref r0) rfl rfl rfl ?_)
  refine wp_of e40 c40_8 (xc_V (pc' := 11) (r := r0) (as := []) (st := []) (lm_7_89) rfl rfl (Nat.le_of_ble_eq_true rfl) w232657 g0 sh_27 (by decide) rfl (by decide) (u_41 (f := ((wq_u d 13 y.toNat w 13))) w232657 g0 h232659) (fun R232660 T232661 H232662 p232663 => ?_))
  obtain ⟨e232664, w232666, f232667, e232665, p232668⟩ := p232663
  subst e232664
  subst e232665
  obtain ⟨a232669, a232670, a232671⟩ := p232668
  have f232672 := f232658.tr f232667 rfl
  show wp _ _ 40 11 [(0, .ref r0), (1, vI a1), (2, vI a2)] [] _ H232662 _
  have k232673 : H232662 r0 7 = H r0 7 := ((f232667 r0 7 _ g0 rfl).trans (wq_u_t e232656 g232654 g0 rfl 7))
  have k232674 : H232662 r0 8 = H r0 8 := ((f232667 r0 8 _ g0 rfl).trans (wq_u_t e232656 g232654 g0 rfl 8))
  have k232675 : H232662 r0 9 = H r0 9 := ((f232667 r0 9 _ g0 rfl).trans (wq_u_t e232656 g232654 g0 rfl 9))
  have k232676 : H232662 r0 10 = H r0 10 := ((f232667 r0 10 _ g0 rfl).trans (wq_u_t e232656 g232654 g0 rfl 10))
  have k232677 : H232662 r0 11 = H r0 11 := ((f232667 r0 11 _ g0 rfl).trans (wq_u_t e232656 g232654 g0 rfl 11))
  have k232678 : H232662 r0 12 = H r0 12 := ((f232667 r0 12 _ g0 rfl).trans (wq_u_t e232656 g232654 g0 rfl 12))
  have k232679 : H232662 r0 13 = H r0 13 := ((f232667 r0 13 _ g0 rfl).trans (wq_u_t e232656 g232654 g0 rfl 13))
  have k232680 : H232662 r0 14 = H r0 14 := ((f232667 r0 14 _ g0 rfl).trans (wq_u_t e232656 g232654 g0 rfl 14))
  have k232681 : H232662 r0 15 = H r0 15 := ((f232667 r0 15 _ g0 rfl).trans (wq_u_t e232656 g232654 g0 rfl 15))
  have _v : wq_u d 13 y.toNat w 0 0 = d 0 0 ∧ wq_u d 13 y.toNat w 0 1 = d 0 1 ∧ wq_u d 13 y.toNat w 0 2 = d 0 2 ∧ wq_u d 13 y.toNat w 0 3 = d 0 3 ∧ wq_u d 13 y.toNat w 0 4 = d 0 4 ∧ wq_u d 13 y.toNat w 0 5 = d 0 5 ∧ wq_u d 13 y.toNat w 0 6 = d 0 6 ∧ wq_u d 13 y.toNat w 0 7 = d 0 7 ∧ wq_u d 13 y.toNat w 0 8 = d 0 8 := ⟨rfl, rfl, rfl, rfl, rfl, rfl, rfl, rfl, rfl⟩
  have _s : xsx (wq_u d 13 y.toNat w 0 8) = xsx (d 0 8) := rfl
  have h232682 : DQ T H232662 r0 d := (DQ_fr w232657 g0 f232667 rfl (DQ_fr hW g0 ((wfr.rf (l := [(29, 999)])).put' e232656 g232654 rfl) rfl h232645))
  have h232683 : DA3 T H232662 r0 (d 0 5) (d 12) := (DA3_fr w232657 g0 f232667 rfl (DA3_fr hW g0 ((wfr.rf (l := [(29, 999)])).put' e232656 g232654 rfl) rfl h232648))
  have h232684 : DA4 T H232662 r0 (d 0 6) (d 14) := (DA4_fr w232657 g0 f232667 rfl (DA4_fr hW g0 ((wfr.rf (l := [(29, 999)])).put' e232656 g232654 rfl) rfl h232649))
  have h232685 : DA5 T H232662 r0 (d 0 6) (d 15) := (DA5_fr w232657 g0 f232667 rfl (DA5_fr hW g0 ((wfr.rf (l := [(29, 999)])).put' e232656 g232654 rfl) rfl h232650))
  have h232686 : DA6 T H232662 r0 (d 0 7) (d 16) := (DA6_fr w232657 g0 f232667 rfl (DA6_fr hW g0 ((wfr.rf (l := [(29, 999)])).put' e232656 g232654 rfl) rfl h232651))
  exact wp_return e40 c40_11 rfl ⟨rfl, w232666, f232672, rfl, (DC_mk ⟨by omega, by omega, by omega, by omega, by omega, by omega, by omega, by omega, by omega, by omega, by omega, by omega, by omega, by omega, by omega, by omega⟩ (DQ_cg (fun i h1 h2 => wq_u_row (by omega)) rfl rfl h232682) a232670 a232671 h232683 h232684 h232685 h232686 ⟨rfl, rfl, rfl, rfl, rfl⟩ ⟨rfl, rfl, rfl⟩)⟩
/-! StrikeAwake$Parish.isStruck(I)Z  -/
abbrev uq_39 (r0 : Nat) (a1 : Int) (d : xD) (y : Int) (T : wq_T) (H : wq_H) : Option Value → wq_T → wq_H → Prop := fun r T' H' => T = T' ∧ H = H' ∧ ∃ z : Int, some (vI z) = r ∧ (0 ≤ z ∧ z ≤ 1) ∧ (((z = 1) ∧ (0 ≤ y ∧ y ≤ 23) ∧ (d 13 y.toNat > 0)) ∨ ((z = 0) ∧ (y < 0 ∨ 23 < y ∨ d 13 y.toNat ≤ 0)))
set_option maxHeartbeats 4000000 in
theorem u_39 {kt : Nat → Option mc_E} {T : wq_T} {H : wq_H} {r0 : Nat} {a1 : Int} {d : xD} {y : Int} (hW : WT T H) (g0 : T.2.2.2 r0 = some 27) (i1 : (-2147483648) ≤ a1 ∧ a1 ≤ 2147483647) (p0 : a1 = y) (hDC_r0 : DC T H r0 d) : wpc kt 1 39 [.ref r0, vI a1] T H (uq_39 r0 a1 d y T H) := by
  refine wp_enter e39 (Nat.le_of_ble_eq_true rfl) rfl ?_
  show wp _ _ 39 0 [(0, .ref r0), (1, vI a1)] [] _ H _
  have u232696 := DC_k hDC_r0
  have h232697 : ST T H r0 (d 13) := hDC_r0.2.2.1
  refine wp_of e39 c39_0 (rw_iload_n (pc' := 1) (z := a1) rfl rfl ?_)
  refine wp_of e39 c39_1 (rw_if_lt (p1 := 23) (p2 := 4) (by decide) rfl ⟨by omega, by omega⟩ (fun c232698 => ?_) (fun c232698 => ?_))
  · refine wp_of e39 c39_23 (rw_iconst (pc' := 24) rfl ?_)
    exact wp_zreturn e39 c39_24 rfl (by omega) ⟨rfl, rfl, 0, rfl, ⟨by omega, by omega⟩, (Or.inr ⟨by omega, by rw [← p0]; omega⟩)⟩
  · refine wp_of e39 c39_4 (rw_iload_n (pc' := 5) (z := a1) rfl rfl ?_)
    refine wp_of e39 c39_5 (rw_bipush (pc' := 7) (z := 24) rfl (by decide) ?_)
    refine wp_of e39 c39_7 (rw_icmp_ge (p1 := 23) (p2 := 10) (by decide) rfl ⟨by omega, by omega⟩ ⟨by omega, by omega⟩ (fun c232699 => ?_) (fun c232699 => ?_))
    · refine wp_of e39 c39_23 (rw_iconst (pc' := 24) rfl ?_)
      exact wp_zreturn e39 c39_24 rfl (by omega) ⟨rfl, rfl, 0, rfl, ⟨by omega, by omega⟩, (Or.inr ⟨by omega, by rw [← p0]; omega⟩)⟩
    · refine wp_of e39 c39_10 (rw_aload_n (pc' := 11) (v := .ref r0) rfl rfl rfl ?_)
      refine wp_of e39 c39_11 (xg_R (pc' := 14) lf_7_17 hW g0 sh_27 (by decide) (by decide) ty_27_1 rfl rfl (fun r232700 q232701 g232702 => ?_))
      refine wp_of e39 c39_14 (rw_iload_n (pc' := 15) (z := a1) rfl rfl ?_)
      refine wp_of e39 c39_15 (xa_I (so := 0) (pc' := 16) hW g232702 sh_29 (by decide) (ty_29 _) (by omega) (by omega) rfl (fun b232703 b232704 => ?_))
      have := ST_at h232697 q232701 (k := (a1.toNat)) (by omega)
      refine wp_of e39 c39_16 (rw_if_lt (p1 := 23) (p2 := 19) (by decide) rfl ⟨by omega, by omega⟩ (fun c232705 => ?_) (fun c232705 => ?_))
      · refine wp_of e39 c39_23 (rw_iconst (pc' := 24) rfl ?_)
        exact wp_zreturn e39 c39_24 rfl (by omega) ⟨rfl, rfl, 0, rfl, ⟨by omega, by omega⟩, (Or.inr ⟨by omega, by rw [← p0]; omega⟩)⟩
      · refine wp_of e39 c39_19 (rw_iconst (pc' := 20) rfl ?_)
        refine wp_of e39 c39_20 (rw_goto (p1 := 24) (by decide) ?_)
        exact wp_zreturn e39 c39_24 rfl (by omega) ⟨rfl, rfl, 1, rfl, ⟨by omega, by omega⟩, (Or.inl ⟨by omega, by omega, by rw [← p0]; omega⟩)⟩
/-! StrikeAwake$Reader.readsBorn(LStrikeAwake$Parish;)Z  -/
abbrev uq_37 (r0 : Nat) (r1 : Nat) (tk : Nat) (rb : Nat) (B : Nat → Int) (n : Int) (q : Int) (d : xD) (T : wq_T) (H : wq_H) : Option Value → wq_T → wq_H → Prop := fun r T' H' => T = T' ∧ WT T H' ∧ wfr [(27, 12), (3, 3), (3, 4), (4, 2), (4, 3), (4, 4), (4, 5), (4, 6), (31, 999)] T H H' ∧ ∃ z : Int, some (vI z) = r ∧ (0 ≤ z ∧ z ≤ 1) ∧ (((z = 1) ∧ ((xbo B n q).1 = 0) ∧ (xbo B n q = (0, q, (xN B n q))) ∧ (q ≤ (xN B n q)) ∧ TC T H' tk B n (xN B n q) ∧ DC T H' r1 (xdbo B n q d)) ∨ ((z = 0) ∧ ((xbo B n q).1 ≠ 0) ∧ ((xbo B n q).2.2 = (xbo B n q).2.1) ∧ (H' r0 3 = (xbo B n q).1) ∧ (H' r0 4 = (xbo B n q).2.1)))
set_option maxHeartbeats 4000000 in
theorem u_37 {kt : Nat → Option mc_E} {T : wq_T} {H : wq_H} {r0 : Nat} {r1 : Nat} {tk : Nat} {rb : Nat} {B : Nat → Int} {n : Int} {q : Int} {d : xD} (hW : WT T H) (g0 : T.2.2.2 r0 = some 3) (g1 : T.2.2.2 r1 = some 27) (qtk : H r0 0 = (tk : Int)) (gtk : T.2.2.2 tk = some 4) (qrb : H tk 0 = (rb : Int)) (grb : T.2.2.2 rb = some 2) (p0 : d 0 5 ≤ 2) (hTC_tk : TC T H tk B n q) (hDC_r1 : DC T H r1 d) : wpc kt 3 37 [.ref r0, .ref r1] T H (uq_37 r0 r1 tk rb B n q d T H) := by
  refine wp_enter e37 (Nat.le_of_ble_eq_true rfl) rfl ?_
  have f0 : wfr [(27, 12), (3, 3), (3, 4), (4, 2), (4, 3), (4, 4), (4, 5), (4, 6), (31, 999)] T H H := wfr.rf
  show wp _ _ 37 0 [(0, .ref r0), (1, .ref r1)] [] _ H _
  have u232754 := TC_k hTC_tk
  have u232755 := DC_k hDC_r1
  have h232756 : DQ T H r1 d := hDC_r1.2.1
  have h232757 : ST T H r1 (d 13) := hDC_r1.2.2.1
  have h232758 : SV T H r1 (d 13) 24 := hDC_r1.2.2.2.1
  have h232759 : DA3 T H r1 (d 0 5) (d 12) := hDC_r1.2.2.2.2.1
  have h232760 : DA4 T H r1 (d 0 6) (d 14) := hDC_r1.2.2.2.2.2.1
  have h232761 : DA5 T H r1 (d 0 6) (d 15) := hDC_r1.2.2.2.2.2.2.1
  have h232762 : DA6 T H r1 (d 0 7) (d 16) := hDC_r1.2.2.2.2.2.2.2
  refine wp_of e37 c37_0 (rw_aload_n (pc' := 1) (v := .ref r0) rfl rfl rfl ?_)
  refine wp_of e37 c37_1 (rw_iconst (pc' := 2) rfl ?_)
  refine wp_of e37 c37_2 (rw_bipush (pc' := 4) (z := 23) rfl (by decide) ?_)
  refine wp_of e37 c37_4 (xc_V (pc' := 7) (r := r0) (as := [vI 0, vI 23]) (st := []) (lm_1_119) rfl rfl (Nat.le_of_ble_eq_true rfl) hW g0 sh_3 (by decide) rfl (by decide) (u_24 (B := B) (n := n) (q := q) (lo := 0) (hi := 23) hW g0 ⟨by omega, by omega⟩ ⟨by omega, by omega⟩ qtk gtk qrb grb (by omega) (by omega) hTC_tk) (fun R232763 T232764 H232765 p232766 => ?_))
  obtain ⟨e232767, w232769, f232770, z232771, e232768, b232772, p232773⟩ := p232766
  subst e232767
  subst e232768
  rcases p232773 with ⟨a232774, a232775, a232776, a232777⟩ | ⟨a232778, a232779, a232780, a232781⟩
  · have f232782 := f0.tr f232770 rfl
    show wp _ _ 37 7 [(0, .ref r0), (1, .ref r1)] [vI z232771] _ H232765 _
    have u232783 := TC_k a232777
    refine wp_of e37 c37_7 (rw_istore_n (pc' := 8) (z := z232771) (L' := [(2, vI z232771), (0, .ref r0), (1, .ref r1)]) rfl rfl rfl ?_)
    refine wp_of e37 c37_8 (rw_iload_n (pc' := 9) (z := z232771) rfl rfl ?_)
    refine wp_of e37 c37_9 (rw_if_ge (p1 := 14) (p2 := 12) (by decide) rfl ⟨by omega, by omega⟩ (fun c232784 => ?_) (fun c232784 => ?_))
    · refine wp_of e37 c37_14 (rw_aload_n (pc' := 15) (v := .ref r1) rfl rfl rfl ?_)
      refine wp_of e37 c37_15 (xg_R (pc' := 18) lf_1_224 w232769 g1 sh_27 (by decide) (by decide) ty_27_3 rfl rfl (fun r232785 q232786 g232787 => ?_))
      refine wp_of e37 c37_18 (rw_aload_n (pc' := 19) (v := .ref r1) rfl rfl rfl ?_)
      have k232788 : H232765 r1 12 = H r1 12 := (f232770 r1 12 _ g1 rfl)
      refine wp_of e37 c37_19 (xg_I (pc' := 22) lf_1_227 w232769 g1 sh_27 (by decide) (by decide) ty_27_12 rfl rfl (fun b232789 b232790 => ?_))
      refine wp_of e37 c37_22 (rw_iload_n (pc' := 23) (z := z232771) rfl rfl ?_)
      have h232791 : DA3 T H232765 r1 (d 0 5) (d 12) := (DA3_fr hW g1 f232770 rfl h232759)
      refine wp_of e37 c37_23 (xs_I (pc' := 24) w232769 g232787 (by decide) sh_31 (by decide) (ty_31 _) (by omega) (by omega) ⟨by omega, by omega⟩ (by omega) (by omega) rfl (fun H232792 e232793 w232794 => ?_))
      have f232795 := f232782.put' e232793 g232787 rfl
      have h232796 : DA3 T H232792 r1 (d 0 5 + 1) (xdbo B n q d 12) := DA_put h232791 q232786 g1 g232787 (by decide) e232793 (by omega) rfl ((xdbo_c (k := ((H232765 r1 12).toNat)) (by omega)).1.trans (by omega)) (xdbo_c (k := ((H232765 r1 12).toNat)) (by omega)).2
      refine wp_of e37 c37_24 (rw_aload_n (pc' := 25) (v := .ref r1) rfl rfl rfl ?_)
      refine wp_of e37 c37_25 (rw_dup (pc' := 26) rfl rfl ?_)
      have k232797 : H232792 r1 12 = H232765 r1 12 := (wq_u_t e232793 g232787 g1 rfl 12)
      refine wp_of e37 c37_26 (xg_I (pc' := 29) lf_1_227 w232794 g1 sh_27 (by decide) (by decide) ty_27_12 rfl rfl (fun b232798 b232799 => ?_))
      refine wp_of e37 c37_29 (rw_iconst (pc' := 30) rfl ?_)
      refine wp_of e37 c37_30 (rw_iadd (pc' := 31) rfl ?_)
      refine wp_of e37 c37_31 (xp_I (pc' := 34) lf_1_227 w232794 g1 sh_27 (by decide) (by decide) ty_27_12 rfl rfl (by omega) (by omega) ⟨by omega, by omega⟩ rfl (fun H232800 e232801 w232802 => ?_))
      have f232803 := f232795.put' e232801 g1 rfl
      have k232804 : H232800 r1 12 = (H232792 r1 12) + 1 := wq_u_s e232801
      refine wp_of e37 c37_34 (rw_iconst (pc' := 35) rfl ?_)
      have k232805 : H232800 r1 7 = H r1 7 := ((wq_u_j e232801 rfl).trans ((wq_u_t e232793 g232787 g1 rfl 7).trans (f232770 r1 7 _ g1 rfl)))
      have k232806 : H232800 r1 8 = H r1 8 := ((wq_u_j e232801 rfl).trans ((wq_u_t e232793 g232787 g1 rfl 8).trans (f232770 r1 8 _ g1 rfl)))
      have k232807 : H232800 r1 9 = H r1 9 := ((wq_u_j e232801 rfl).trans ((wq_u_t e232793 g232787 g1 rfl 9).trans (f232770 r1 9 _ g1 rfl)))
      have k232808 : H232800 r1 10 = H r1 10 := ((wq_u_j e232801 rfl).trans ((wq_u_t e232793 g232787 g1 rfl 10).trans (f232770 r1 10 _ g1 rfl)))
      have k232809 : H232800 r1 11 = H r1 11 := ((wq_u_j e232801 rfl).trans ((wq_u_t e232793 g232787 g1 rfl 11).trans (f232770 r1 11 _ g1 rfl)))
      have k232810 : H232800 r1 13 = H r1 13 := ((wq_u_j e232801 rfl).trans ((wq_u_t e232793 g232787 g1 rfl 13).trans (f232770 r1 13 _ g1 rfl)))
      have k232811 : H232800 r1 14 = H r1 14 := ((wq_u_j e232801 rfl).trans ((wq_u_t e232793 g232787 g1 rfl 14).trans (f232770 r1 14 _ g1 rfl)))
      have k232812 : H232800 r1 15 = H r1 15 := ((wq_u_j e232801 rfl).trans ((wq_u_t e232793 g232787 g1 rfl 15).trans (f232770 r1 15 _ g1 rfl)))
      have k232813 : H232800 r1 16 = H r1 16 := ((wq_u_j e232801 rfl).trans ((wq_u_t e232793 g232787 g1 rfl 16).trans (f232770 r1 16 _ g1 rfl)))
      have o232814 : (xbo B n q) = (0, q, (xN B n q)) := by
        unfold xbo
        repeat first | rw [xs_0 (by omega)] | rw [xs_1 (by omega)] | rw [if_pos (by omega)] | rw [if_neg (by omega)]
        first | done | rfl | assumption | (exfalso; omega) | (refine Prod.ext ?_ (Prod.ext ?_ ?_) <;> (try dsimp only) <;> omega)
      have o232814a : ((xbo B n q)).1 = 0 := by rw [o232814]
      have o232814b : ((xbo B n q)).2.1 = q := by rw [o232814]
      have o232814c : ((xbo B n q)).2.2 = (xN B n q) := by rw [o232814]
      have _l := @xdbo_v B n q d
      have h232815 : TC T H232800 tk B n (xN B n q) := (TC_fr w232794 gtk ((wfr.rf (l := [(27, 12)])).put' e232801 g1 rfl) rfl (TC_fr w232769 gtk ((wfr.rf (l := [(31, 999)])).put' e232793 g232787 rfl) rfl a232777))
      have h232816 : DQ T H232800 r1 d := (DQ_fr w232794 g1 ((wfr.rf (l := [(27, 12)])).put' e232801 g1 rfl) rfl (DQ_fr w232769 g1 ((wfr.rf (l := [(31, 999)])).put' e232793 g232787 rfl) rfl (DQ_fr hW g1 f232770 rfl h232756)))
      have h232817 : ST T H232800 r1 (d 13) := (ST_fr w232794 g1 ((wfr.rf (l := [(27, 12)])).put' e232801 g1 rfl) rfl (ST_fr w232769 g1 ((wfr.rf (l := [(31, 999)])).put' e232793 g232787 rfl) rfl (ST_fr hW g1 f232770 rfl h232757)))
      have h232818 : SV T H232800 r1 (d 13) 24 := (SV_fr w232794 g1 ((wfr.rf (l := [(27, 12)])).put' e232801 g1 rfl) rfl (SV_fr w232769 g1 ((wfr.rf (l := [(31, 999)])).put' e232793 g232787 rfl) rfl (SV_fr hW g1 f232770 rfl h232758)))
      have h232819 : DA3 T H232800 r1 (d 0 5 + 1) (xdbo B n q d 12) := (DA3_fr w232794 g1 ((wfr.rf (l := [(27, 12)])).put' e232801 g1 rfl) rfl h232796)
      have h232820 : DA4 T H232800 r1 (d 0 6) (d 14) := (DA4_fr w232794 g1 ((wfr.rf (l := [(27, 12)])).put' e232801 g1 rfl) rfl (DA4_fr w232769 g1 ((wfr.rf (l := [(31, 999)])).put' e232793 g232787 rfl) rfl (DA4_fr hW g1 f232770 rfl h232760)))
      have h232821 : DA5 T H232800 r1 (d 0 6) (d 15) := (DA5_fr w232794 g1 ((wfr.rf (l := [(27, 12)])).put' e232801 g1 rfl) rfl (DA5_fr w232769 g1 ((wfr.rf (l := [(31, 999)])).put' e232793 g232787 rfl) rfl (DA5_fr hW g1 f232770 rfl h232761)))
      have h232822 : DA6 T H232800 r1 (d 0 7) (d 16) := (DA6_fr w232794 g1 ((wfr.rf (l := [(27, 12)])).put' e232801 g1 rfl) rfl (DA6_fr w232769 g1 ((wfr.rf (l := [(31, 999)])).put' e232793 g232787 rfl) rfl (DA6_fr hW g1 f232770 rfl h232762)))
      exact wp_zreturn e37 c37_35 rfl (by omega) ⟨rfl, w232802, f232803, 1, rfl, ⟨by omega, by omega⟩, (Or.inl ⟨by omega, by omega, o232814, by omega, h232815, DC_mk ⟨by omega, by omega, by omega, by omega, by omega, by omega, by omega, by omega, by omega, by omega, by omega, by omega, by omega, by omega, by omega, by omega⟩ (DQ_cg (fun i h1 h2 => xdbo_r h1 (by omega)) (by omega) (by omega) h232816) h232817 h232818 h232819 h232820 h232821 h232822 ⟨rfl, rfl, rfl, rfl, rfl⟩ ⟨by omega, by omega, by omega⟩⟩)⟩
    · exfalso
      omega
  · have f232823 := f0.tr f232770 rfl
    show wp _ _ 37 7 [(0, .ref r0), (1, .ref r1)] [vI z232771] _ H232765 _
    refine wp_of e37 c37_7 (rw_istore_n (pc' := 8) (z := z232771) (L' := [(2, vI z232771), (0, .ref r0), (1, .ref r1)]) rfl rfl rfl ?_)
    refine wp_of e37 c37_8 (rw_iload_n (pc' := 9) (z := z232771) rfl rfl ?_)
    refine wp_of e37 c37_9 (rw_if_ge (p1 := 14) (p2 := 12) (by decide) rfl ⟨by omega, by omega⟩ (fun c232824 => ?_) (fun c232824 => ?_))
    · exfalso
      omega
    · refine wp_of e37 c37_12 (rw_iconst (pc' := 13) rfl ?_)
      have k232825 : H232765 r1 7 = H r1 7 := (f232770 r1 7 _ g1 rfl)
      have k232826 : H232765 r1 8 = H r1 8 := (f232770 r1 8 _ g1 rfl)
      have k232827 : H232765 r1 9 = H r1 9 := (f232770 r1 9 _ g1 rfl)
      have k232828 : H232765 r1 10 = H r1 10 := (f232770 r1 10 _ g1 rfl)
      have k232829 : H232765 r1 11 = H r1 11 := (f232770 r1 11 _ g1 rfl)
      have k232830 : H232765 r1 12 = H r1 12 := (f232770 r1 12 _ g1 rfl)
      have k232831 : H232765 r1 13 = H r1 13 := (f232770 r1 13 _ g1 rfl)
      have k232832 : H232765 r1 14 = H r1 14 := (f232770 r1 14 _ g1 rfl)
      have k232833 : H232765 r1 15 = H r1 15 := (f232770 r1 15 _ g1 rfl)
      have k232834 : H232765 r1 16 = H r1 16 := (f232770 r1 16 _ g1 rfl)
      have o232835 : (xbo B n q) = (xh B n q 0 23, q, q) := by
        unfold xbo
        repeat first | rw [xs_0 (by omega)] | rw [xs_1 (by omega)] | rw [if_pos (by omega)] | rw [if_neg (by omega)]
        first | done | rfl | assumption | (exfalso; omega) | (refine Prod.ext ?_ (Prod.ext ?_ ?_) <;> (try dsimp only) <;> omega)
      have o232835a : ((xbo B n q)).1 = xh B n q 0 23 := by rw [o232835]
      have o232835b : ((xbo B n q)).2.1 = q := by rw [o232835]
      have o232835c : ((xbo B n q)).2.2 = q := by rw [o232835]
      have _l := @xdbo_v B n q d
      exact wp_zreturn e37 c37_13 rfl (by omega) ⟨rfl, w232769, f232823, 0, rfl, ⟨by omega, by omega⟩, (Or.inr ⟨by omega, by omega, by omega, by omega, by omega⟩)⟩
/-! StrikeAwake$Reader.readsStruck(LStrikeAwake$Parish;)Z  -/
abbrev uq_38 (r0 : Nat) (r1 : Nat) (tk : Nat) (rb : Nat) (B : Nat → Int) (n : Int) (q : Int) (d : xD) (T : wq_T) (H : wq_H) : Option Value → wq_T → wq_H → Prop := fun r T' H' => T = T' ∧ WT T H' ∧ wfr [(27, 16), (3, 3), (3, 4), (4, 2), (4, 3), (4, 4), (4, 5), (4, 6), (29, 999), (30, 999)] T H H' ∧ ∃ z : Int, some (vI z) = r ∧ (0 ≤ z ∧ z ≤ 1) ∧ (((z = 1) ∧ ((xst B n q d).1 = 0) ∧ (xst B n q d = (0, q, (xN B n (xN B n (xN B n q))))) ∧ (q ≤ (xN B n (xN B n (xN B n q)))) ∧ TC T H' tk B n (xN B n (xN B n (xN B n q))) ∧ DC T H' r1 (xdst B n q d)) ∨ ((z = 0) ∧ ((xst B n q d).1 ≠ 0) ∧ ((xst B n q d).2.2 = (xst B n q d).2.1) ∧ (H' r0 3 = (xst B n q d).1) ∧ (H' r0 4 = (xst B n q d).2.1)))
set_option maxHeartbeats 4000000 in
theorem u_38 {kt : Nat → Option mc_E} {T : wq_T} {H : wq_H} {r0 : Nat} {r1 : Nat} {tk : Nat} {rb : Nat} {B : Nat → Int} {n : Int} {q : Int} {d : xD} (hW : WT T H) (g0 : T.2.2.2 r0 = some 3) (g1 : T.2.2.2 r1 = some 27) (qtk : H r0 0 = (tk : Int)) (gtk : T.2.2.2 tk = some 4) (qrb : H tk 0 = (rb : Int)) (grb : T.2.2.2 rb = some 2) (hTC_tk : TC T H tk B n q) (hDC_r1 : DC T H r1 d) : wpc kt 3 38 [.ref r0, .ref r1] T H (uq_38 r0 r1 tk rb B n q d T H) := by
  refine wp_enter e38 (Nat.le_of_ble_eq_true rfl) rfl ?_
  have f0 : wfr [(27, 16), (3, 3), (3, 4), (4, 2), (4, 3), (4, 4), (4, 5), (4, 6), (29, 999), (30, 999)] T H H := wfr.rf
  show wp _ _ 38 0 [(0, .ref r0), (1, .ref r1)] [] _ H _
  have u233051 := TC_k hTC_tk
  have u233052 := DC_k hDC_r1
  have _i := TC_i hTC_tk
  have _h := @xsh_b B n q d
  have _k := @xh_b B n q 0 23
  refine wp_of e38 c38_0 (rw_aload_n (pc' := 1) (v := .ref r0) rfl rfl rfl ?_)
  refine wp_of e38 c38_1 (xg_K (pc' := 4) lf_1_12 hW g0 sh_3 (by decide) (by decide) rfl qtk rfl ?_)
  refine wp_of e38 c38_4 (xg_I (pc' := 7) lf_1_38 hW gtk sh_4 (by decide) (by decide) ty_4_3 rfl rfl (fun b233053 b233054 => ?_))
  refine wp_of e38 c38_7 (rw_iconst (pc' := 8) rfl ?_)
  refine wp_of e38 c38_8 (rw_icmp_ne (p1 := 31) (p2 := 11) (by decide) rfl ⟨by omega, by omega⟩ ⟨by omega, by omega⟩ (fun c233055 => ?_) (fun c233055 => ?_))
  · refine wp_of e38 c38_31 (rw_aload_n (pc' := 32) (v := .ref r0) rfl rfl rfl ?_)
    refine wp_of e38 c38_32 (rw_iconst (pc' := 33) rfl ?_)
    refine wp_of e38 c38_33 (rw_bipush (pc' := 35) (z := 23) rfl (by decide) ?_)
    refine wp_of e38 c38_35 (xc_V (pc' := 38) (r := r0) (as := [vI 0, vI 23]) (st := []) (lm_1_119) rfl rfl (Nat.le_of_ble_eq_true rfl) hW g0 sh_3 (by decide) rfl (by decide) (u_24 (B := B) (n := n) (q := q) (lo := 0) (hi := 23) hW g0 ⟨by omega, by omega⟩ ⟨by omega, by omega⟩ qtk gtk qrb grb (by omega) (by omega) hTC_tk) (fun R233056 T233057 H233058 p233059 => ?_))
    obtain ⟨e233060, w233062, f233063, z233064, e233061, b233065, p233066⟩ := p233059
    subst e233060
    subst e233061
    rcases p233066 with ⟨a233067, a233068, a233069, a233070⟩ | ⟨a233071, a233072, a233073, a233074⟩
    · have f233075 := f0.tr f233063 rfl
      show wp _ _ 38 38 [(0, .ref r0), (1, .ref r1)] [vI z233064] _ H233058 _
      have u233076 := TC_k a233070
      refine wp_of e38 c38_38 (rw_istore_n (pc' := 39) (z := z233064) (L' := [(2, vI z233064), (0, .ref r0), (1, .ref r1)]) rfl rfl rfl ?_)
      refine wp_of e38 c38_39 (rw_iload_n (pc' := 40) (z := z233064) rfl rfl ?_)
      refine wp_of e38 c38_40 (rw_if_lt (p1 := 62) (p2 := 43) (by decide) rfl ⟨by omega, by omega⟩ (fun c233077 => ?_) (fun c233077 => ?_))
      · exfalso
        omega
      · refine wp_of e38 c38_43 (rw_aload_n (pc' := 44) (v := .ref r0) rfl rfl rfl ?_)
        refine wp_of e38 c38_44 (rw_ldcS (pc' := 46) (k := 70) rfl rfl rfl rfl ?_)
        have k233078 : H233058 r0 0 = H r0 0 := (f233063 r0 0 _ g0 rfl)
        have q233079 : H233058 r0 0 = (tk : Int) := k233078.trans qtk
        have k233080 : H233058 tk 0 = H tk 0 := (f233063 tk 0 _ gtk rfl)
        have q233081 : H233058 tk 0 = (rb : Int) := k233080.trans qrb
        refine wp_of e38 c38_46 (xc_V (pc' := 49) (r := r0) (as := [.ref 70]) (st := []) (lm_1_115) rfl rfl (Nat.le_of_ble_eq_true rfl) w233062 g0 sh_3 (by decide) rfl (by decide) (u_23 (B := B) (n := n) (q := ((xN B n q))) (kk := 307) w233062 g0 rfl q233079 gtk q233081 grb (by decide +kernel) a233070) (fun R233082 T233083 H233084 p233085 => ?_))
        obtain ⟨e233086, w233088, f233089, z233090, e233087, b233091, p233092⟩ := p233085
        subst e233086
        subst e233087
        rcases p233092 with ⟨a233093, a233094, a233095⟩ | ⟨a233096, a233097, a233098, a233099⟩
        · have f233100 := f233075.tr f233089 rfl
          show wp _ _ 38 49 [(2, vI z233064), (0, .ref r0), (1, .ref r1)] [vI z233090] _ H233084 _
          have u233101 := TC_k a233095
          refine wp_of e38 c38_49 (rw_if_eq (p1 := 62) (p2 := 52) (by decide) rfl ⟨by omega, by omega⟩ (fun c233102 => ?_) (fun c233102 => ?_))
          · exfalso
            omega
          · refine wp_of e38 c38_52 (rw_aload_n (pc' := 53) (v := .ref r0) rfl rfl rfl ?_)
            refine wp_of e38 c38_53 (rw_iconst (pc' := 54) rfl ?_)
            refine wp_of e38 c38_54 (rw_bipush (pc' := 56) (z := 99) rfl (by decide) ?_)
            have k233103 : H233084 r0 0 = H233058 r0 0 := (f233089 r0 0 _ g0 rfl)
            have q233104 : H233084 r0 0 = (tk : Int) := k233103.trans q233079
            have k233105 : H233084 tk 0 = H233058 tk 0 := (f233089 tk 0 _ gtk rfl)
            have q233106 : H233084 tk 0 = (rb : Int) := k233105.trans q233081
            refine wp_of e38 c38_56 (xc_V (pc' := 59) (r := r0) (as := [vI 0, vI 99]) (st := []) (lm_1_119) rfl rfl (Nat.le_of_ble_eq_true rfl) w233088 g0 sh_3 (by decide) rfl (by decide) (u_24 (B := B) (n := n) (q := ((xN B n ((xN B n q))))) (lo := 0) (hi := 99) w233088 g0 ⟨by omega, by omega⟩ ⟨by omega, by omega⟩ q233104 gtk q233106 grb (by omega) (by omega) a233095) (fun R233107 T233108 H233109 p233110 => ?_))
            obtain ⟨e233111, w233113, f233114, z233115, e233112, b233116, p233117⟩ := p233110
            subst e233111
            subst e233112
            rcases p233117 with ⟨a233118, a233119, a233120, a233121⟩ | ⟨a233122, a233123, a233124, a233125⟩
            · have f233126 := f233100.tr f233114 rfl
              show wp _ _ 38 59 [(2, vI z233064), (0, .ref r0), (1, .ref r1)] [vI z233115] _ H233109 _
              have u233127 := TC_k a233121
              refine wp_of e38 c38_59 (rw_goto (p1 := 63) (by decide) ?_)
              refine wp_of e38 c38_63 (rw_istore_n (pc' := 64) (z := z233115) (L' := [(3, vI z233115), (2, vI z233064), (0, .ref r0), (1, .ref r1)]) rfl rfl rfl ?_)
              refine wp_of e38 c38_64 (rw_iload_n (pc' := 65) (z := z233115) rfl rfl ?_)
              refine wp_of e38 c38_65 (rw_if_ge (p1 := 70) (p2 := 68) (by decide) rfl ⟨by omega, by omega⟩ (fun c233128 => ?_) (fun c233128 => ?_))
              · refine wp_of e38 c38_70 (rw_aload_n (pc' := 71) (v := .ref r1) rfl rfl rfl ?_)
                refine wp_of e38 c38_71 (rw_iload_n (pc' := 72) (z := z233064) rfl rfl ?_)
                refine wp_of e38 c38_72 (rw_iload_n (pc' := 73) (z := z233115) rfl rfl ?_)
                have h233129 : DC T H233109 r1 d := (DC_fr w233088 g1 f233114 rfl (DC_fr w233062 g1 f233089 rfl (DC_fr hW g1 f233063 rfl hDC_r1)))
                refine wp_of e38 c38_73 (xc_V (pc' := 76) (r := r1) (as := [vI z233064, vI z233115]) (st := []) (lm_1_238) rfl rfl (Nat.le_of_ble_eq_true rfl) w233113 g1 sh_27 (by decide) rfl (by decide) (u_40 (d := d) (w := (xV B n (xN B n (xN B n q)) + 1)) (y := (xV B n q)) w233113 g1 ⟨by omega, by omega⟩ ⟨by omega, by omega⟩ (by omega) (by omega) h233129) (fun R233130 T233131 H233132 p233133 => ?_))
                obtain ⟨e233134, w233136, f233137, e233135, p233138⟩ := p233133
                subst e233134
                subst e233135
                have f233140 := f233126.tr f233137 rfl
                show wp _ _ 38 76 [(3, vI z233115), (2, vI z233064), (0, .ref r0), (1, .ref r1)] [] _ H233132 _
                have u233141 := DC_k p233138
                refine wp_of e38 c38_76 (rw_iconst (pc' := 77) rfl ?_)
                have o233142 : (xst B n q d) = (0, q, (xN B n ((xN B n ((xN B n q)))))) := by
                  unfold xst
                  repeat first | rw [xs_0 (by omega)] | rw [xs_1 (by omega)] | rw [if_pos (by omega)] | rw [if_neg (by omega)]
                  first | done | rfl | assumption | (exfalso; omega) | (refine Prod.ext ?_ (Prod.ext ?_ ?_) <;> (try dsimp only) <;> omega)
                have o233142a : ((xst B n q d)).1 = 0 := by rw [o233142]
                have o233142b : ((xst B n q d)).2.1 = q := by rw [o233142]
                have o233142c : ((xst B n q d)).2.2 = (xN B n ((xN B n ((xN B n q))))) := by rw [o233142]
                have h233143 : TC T H233132 tk B n (xN B n ((xN B n ((xN B n q))))) := (TC_fr w233113 gtk f233137 rfl a233121)
                exact wp_zreturn e38 c38_77 rfl (by omega) ⟨rfl, w233136, f233140, 1, rfl, ⟨by omega, by omega⟩, (Or.inl ⟨by omega, by omega, o233142, by omega, h233143, p233138⟩)⟩
              · exfalso
                omega
            · have f233144 := f233100.tr f233114 rfl
              show wp _ _ 38 59 [(2, vI z233064), (0, .ref r0), (1, .ref r1)] [vI z233115] _ H233109 _
              refine wp_of e38 c38_59 (rw_goto (p1 := 63) (by decide) ?_)
              refine wp_of e38 c38_63 (rw_istore_n (pc' := 64) (z := z233115) (L' := [(3, vI z233115), (2, vI z233064), (0, .ref r0), (1, .ref r1)]) rfl rfl rfl ?_)
              refine wp_of e38 c38_64 (rw_iload_n (pc' := 65) (z := z233115) rfl rfl ?_)
              refine wp_of e38 c38_65 (rw_if_ge (p1 := 70) (p2 := 68) (by decide) rfl ⟨by omega, by omega⟩ (fun c233145 => ?_) (fun c233145 => ?_))
              · exfalso
                omega
              · refine wp_of e38 c38_68 (rw_iconst (pc' := 69) rfl ?_)
                have k233146 : H233109 r1 7 = H r1 7 := ((f233114 r1 7 _ g1 rfl).trans ((f233089 r1 7 _ g1 rfl).trans (f233063 r1 7 _ g1 rfl)))
                have k233147 : H233109 r1 8 = H r1 8 := ((f233114 r1 8 _ g1 rfl).trans ((f233089 r1 8 _ g1 rfl).trans (f233063 r1 8 _ g1 rfl)))
                have k233148 : H233109 r1 9 = H r1 9 := ((f233114 r1 9 _ g1 rfl).trans ((f233089 r1 9 _ g1 rfl).trans (f233063 r1 9 _ g1 rfl)))
                have k233149 : H233109 r1 10 = H r1 10 := ((f233114 r1 10 _ g1 rfl).trans ((f233089 r1 10 _ g1 rfl).trans (f233063 r1 10 _ g1 rfl)))
                have k233150 : H233109 r1 11 = H r1 11 := ((f233114 r1 11 _ g1 rfl).trans ((f233089 r1 11 _ g1 rfl).trans (f233063 r1 11 _ g1 rfl)))
                have k233151 : H233109 r1 12 = H r1 12 := ((f233114 r1 12 _ g1 rfl).trans ((f233089 r1 12 _ g1 rfl).trans (f233063 r1 12 _ g1 rfl)))
                have k233152 : H233109 r1 13 = H r1 13 := ((f233114 r1 13 _ g1 rfl).trans ((f233089 r1 13 _ g1 rfl).trans (f233063 r1 13 _ g1 rfl)))
                have k233153 : H233109 r1 14 = H r1 14 := ((f233114 r1 14 _ g1 rfl).trans ((f233089 r1 14 _ g1 rfl).trans (f233063 r1 14 _ g1 rfl)))
                have k233154 : H233109 r1 15 = H r1 15 := ((f233114 r1 15 _ g1 rfl).trans ((f233089 r1 15 _ g1 rfl).trans (f233063 r1 15 _ g1 rfl)))
                have k233155 : H233109 r1 16 = H r1 16 := ((f233114 r1 16 _ g1 rfl).trans ((f233089 r1 16 _ g1 rfl).trans (f233063 r1 16 _ g1 rfl)))
                have o233156 : (xst B n q d) = (xh B n ((xN B n ((xN B n q)))) 0 99, ((xN B n ((xN B n q)))), ((xN B n ((xN B n q))))) := by
                  unfold xst
                  repeat first | rw [xs_0 (by omega)] | rw [xs_1 (by omega)] | rw [if_pos (by omega)] | rw [if_neg (by omega)]
                  first | done | rfl | assumption | (exfalso; omega) | (refine Prod.ext ?_ (Prod.ext ?_ ?_) <;> (try dsimp only) <;> omega)
                have o233156a : ((xst B n q d)).1 = xh B n ((xN B n ((xN B n q)))) 0 99 := by rw [o233156]
                have o233156b : ((xst B n q d)).2.1 = ((xN B n ((xN B n q)))) := by rw [o233156]
                have o233156c : ((xst B n q d)).2.2 = ((xN B n ((xN B n q)))) := by rw [o233156]
                exact wp_zreturn e38 c38_69 rfl (by omega) ⟨rfl, w233113, f233144, 0, rfl, ⟨by omega, by omega⟩, (Or.inr ⟨by omega, by omega, by omega, by omega, by omega⟩)⟩
        · have f233157 := f233075.tr f233089 rfl
          show wp _ _ 38 49 [(2, vI z233064), (0, .ref r0), (1, .ref r1)] [vI z233090] _ H233084 _
          refine wp_of e38 c38_49 (rw_if_eq (p1 := 62) (p2 := 52) (by decide) rfl ⟨by omega, by omega⟩ (fun c233158 => ?_) (fun c233158 => ?_))
          · refine wp_of e38 c38_62 (rw_iconst (pc' := 63) rfl ?_)
            refine wp_of e38 c38_63 (rw_istore_n (pc' := 64) (z := -1) (L' := [(3, vI (-1)), (2, vI z233064), (0, .ref r0), (1, .ref r1)]) rfl rfl rfl ?_)
            refine wp_of e38 c38_64 (rw_iload_n (pc' := 65) (z := -1) rfl rfl ?_)
            refine wp_of e38 c38_65 (rw_if_ge (p1 := 70) (p2 := 68) (by decide) rfl ⟨by omega, by omega⟩ (fun c233159 => ?_) (fun c233159 => ?_))
            · exfalso
              omega
            · refine wp_of e38 c38_68 (rw_iconst (pc' := 69) rfl ?_)
              have k233160 : H233084 r1 7 = H r1 7 := ((f233089 r1 7 _ g1 rfl).trans (f233063 r1 7 _ g1 rfl))
              have k233161 : H233084 r1 8 = H r1 8 := ((f233089 r1 8 _ g1 rfl).trans (f233063 r1 8 _ g1 rfl))
              have k233162 : H233084 r1 9 = H r1 9 := ((f233089 r1 9 _ g1 rfl).trans (f233063 r1 9 _ g1 rfl))
              have k233163 : H233084 r1 10 = H r1 10 := ((f233089 r1 10 _ g1 rfl).trans (f233063 r1 10 _ g1 rfl))
              have k233164 : H233084 r1 11 = H r1 11 := ((f233089 r1 11 _ g1 rfl).trans (f233063 r1 11 _ g1 rfl))
              have k233165 : H233084 r1 12 = H r1 12 := ((f233089 r1 12 _ g1 rfl).trans (f233063 r1 12 _ g1 rfl))
              have k233166 : H233084 r1 13 = H r1 13 := ((f233089 r1 13 _ g1 rfl).trans (f233063 r1 13 _ g1 rfl))
              have k233167 : H233084 r1 14 = H r1 14 := ((f233089 r1 14 _ g1 rfl).trans (f233063 r1 14 _ g1 rfl))
              have k233168 : H233084 r1 15 = H r1 15 := ((f233089 r1 15 _ g1 rfl).trans (f233063 r1 15 _ g1 rfl))
              have k233169 : H233084 r1 16 = H r1 16 := ((f233089 r1 16 _ g1 rfl).trans (f233063 r1 16 _ g1 rfl))
              have o233170 : (xst B n q d) = (xw B n ((xN B n q)) 307, ((xN B n q)), ((xN B n q))) := by
                unfold xst
                repeat first | rw [xs_0 (by omega)] | rw [xs_1 (by omega)] | rw [if_pos (by omega)] | rw [if_neg (by omega)]
                first | done | rfl | assumption | (exfalso; omega) | (refine Prod.ext ?_ (Prod.ext ?_ ?_) <;> (try dsimp only) <;> omega)
              have o233170a : ((xst B n q d)).1 = xw B n ((xN B n q)) 307 := by rw [o233170]
              have o233170b : ((xst B n q d)).2.1 = ((xN B n q)) := by rw [o233170]
              have o233170c : ((xst B n q d)).2.2 = ((xN B n q)) := by rw [o233170]
              exact wp_zreturn e38 c38_69 rfl (by omega) ⟨rfl, w233088, f233157, 0, rfl, ⟨by omega, by omega⟩, (Or.inr ⟨by omega, by omega, by omega, by omega, by omega⟩)⟩
          · exfalso
            omega
    · have f233171 := f0.tr f233063 rfl
      show wp _ _ 38 38 [(0, .ref r0), (1, .ref r1)] [vI z233064] _ H233058 _
      refine wp_of e38 c38_38 (rw_istore_n (pc' := 39) (z := z233064) (L' := [(2, vI z233064), (0, .ref r0), (1, .ref r1)]) rfl rfl rfl ?_)
      refine wp_of e38 c38_39 (rw_iload_n (pc' := 40) (z := z233064) rfl rfl ?_)
      refine wp_of e38 c38_40 (rw_if_lt (p1 := 62) (p2 := 43) (by decide) rfl ⟨by omega, by omega⟩ (fun c233172 => ?_) (fun c233172 => ?_))
      · refine wp_of e38 c38_62 (rw_iconst (pc' := 63) rfl ?_)
        refine wp_of e38 c38_63 (rw_istore_n (pc' := 64) (z := -1) (L' := [(3, vI (-1)), (2, vI z233064), (0, .ref r0), (1, .ref r1)]) rfl rfl rfl ?_)
        refine wp_of e38 c38_64 (rw_iload_n (pc' := 65) (z := -1) rfl rfl ?_)
        refine wp_of e38 c38_65 (rw_if_ge (p1 := 70) (p2 := 68) (by decide) rfl ⟨by omega, by omega⟩ (fun c233173 => ?_) (fun c233173 => ?_))
        · exfalso
          omega
        · refine wp_of e38 c38_68 (rw_iconst (pc' := 69) rfl ?_)
          have k233174 : H233058 r1 7 = H r1 7 := (f233063 r1 7 _ g1 rfl)
          have k233175 : H233058 r1 8 = H r1 8 := (f233063 r1 8 _ g1 rfl)
          have k233176 : H233058 r1 9 = H r1 9 := (f233063 r1 9 _ g1 rfl)
          have k233177 : H233058 r1 10 = H r1 10 := (f233063 r1 10 _ g1 rfl)
          have k233178 : H233058 r1 11 = H r1 11 := (f233063 r1 11 _ g1 rfl)
          have k233179 : H233058 r1 12 = H r1 12 := (f233063 r1 12 _ g1 rfl)
          have k233180 : H233058 r1 13 = H r1 13 := (f233063 r1 13 _ g1 rfl)
          have k233181 : H233058 r1 14 = H r1 14 := (f233063 r1 14 _ g1 rfl)
          have k233182 : H233058 r1 15 = H r1 15 := (f233063 r1 15 _ g1 rfl)
          have k233183 : H233058 r1 16 = H r1 16 := (f233063 r1 16 _ g1 rfl)
          have o233184 : (xst B n q d) = (xsh B n q d, q, q) := by
            unfold xst
            repeat first | rw [xs_0 (by omega)] | rw [xs_1 (by omega)] | rw [if_pos (by omega)] | rw [if_neg (by omega)]
            first | done | rfl | assumption | (exfalso; omega) | (refine Prod.ext ?_ (Prod.ext ?_ ?_) <;> (try dsimp only) <;> omega)
          have o233184a : ((xst B n q d)).1 = xsh B n q d := by rw [o233184]
          have o233184b : ((xst B n q d)).2.1 = q := by rw [o233184]
          have o233184c : ((xst B n q d)).2.2 = q := by rw [o233184]
          exact wp_zreturn e38 c38_69 rfl (by omega) ⟨rfl, w233062, f233171, 0, rfl, ⟨by omega, by omega⟩, (Or.inr ⟨by omega, by omega, by omega, by omega, by omega⟩)⟩
      · exfalso
        omega
  · refine wp_of e38 c38_11 (rw_aload_n (pc' := 12) (v := .ref r1) rfl rfl rfl ?_)
    refine wp_of e38 c38_12 (rw_aload_n (pc' := 13) (v := .ref r0) rfl rfl rfl ?_)
    refine wp_of e38 c38_13 (xg_K (pc' := 16) lf_1_12 hW g0 sh_3 (by decide) (by decide) rfl qtk rfl ?_)
    refine wp_of e38 c38_16 (xg_I (pc' := 19) lf_1_230 hW gtk sh_4 (by decide) (by decide) ty_4_5 rfl rfl (fun b233185 b233186 => ?_))
    refine wp_of e38 c38_19 (xc_V (pc' := 22) (r := r1) (as := [vI (H tk 5)]) (st := []) (lm_1_233) rfl rfl (Nat.le_of_ble_eq_true rfl) hW g1 sh_27 (by decide) rfl (by decide) (u_39 (d := d) (y := (xV B n q)) hW g1 ⟨by omega, by omega⟩ (by omega) hDC_r1) (fun R233187 T233188 H233189 p233190 => ?_))
    obtain ⟨e233191, e233193, z233194, e233192, b233195, p233196⟩ := p233190
    subst e233191
    subst e233192
    subst e233193
    rcases p233196 with ⟨a233197, a233198, a233199⟩ | ⟨a233200, a233201⟩
    · show wp _ _ 38 22 [(0, .ref r0), (1, .ref r1)] [vI z233194] _ H _
      refine wp_of e38 c38_22 (rw_if_eq (p1 := 31) (p2 := 25) (by decide) rfl ⟨by omega, by omega⟩ (fun c233202 => ?_) (fun c233202 => ?_))
      · exfalso
        omega
      · refine wp_of e38 c38_25 (rw_aload_n (pc' := 26) (v := .ref r0) rfl rfl rfl ?_)
        refine wp_of e38 c38_26 (rw_iconst (pc' := 27) rfl ?_)
        refine wp_of e38 c38_27 (xc_V (pc' := 30) (r := r0) (as := [vI 3]) (st := []) (lm_1_47) rfl rfl (Nat.le_of_ble_eq_true rfl) hW g0 sh_3 (by decide) rfl (by decide) (u_20  hW g0 ⟨by omega, by omega⟩ qtk gtk) (fun R233203 T233204 H233205 p233206 => ?_))
        obtain ⟨e233207, w233209, f233210, z233211, e233208, b233212, p233213⟩ := p233206
        subst e233207
        subst e233208
        obtain ⟨a233214, a233215, a233216⟩ := p233213
        have f233217 := f0.tr f233210 rfl
        show wp _ _ 38 30 [(0, .ref r0), (1, .ref r1)] [vI z233211] _ H233205 _
        have k233218 : H233205 r1 7 = H r1 7 := (f233210 r1 7 _ g1 rfl)
        have k233219 : H233205 r1 8 = H r1 8 := (f233210 r1 8 _ g1 rfl)
        have k233220 : H233205 r1 9 = H r1 9 := (f233210 r1 9 _ g1 rfl)
        have k233221 : H233205 r1 10 = H r1 10 := (f233210 r1 10 _ g1 rfl)
        have k233222 : H233205 r1 11 = H r1 11 := (f233210 r1 11 _ g1 rfl)
        have k233223 : H233205 r1 12 = H r1 12 := (f233210 r1 12 _ g1 rfl)
        have k233224 : H233205 r1 13 = H r1 13 := (f233210 r1 13 _ g1 rfl)
        have k233225 : H233205 r1 14 = H r1 14 := (f233210 r1 14 _ g1 rfl)
        have k233226 : H233205 r1 15 = H r1 15 := (f233210 r1 15 _ g1 rfl)
        have k233227 : H233205 r1 16 = H r1 16 := (f233210 r1 16 _ g1 rfl)
        have o233228 : (xst B n q d) = (xsh B n q d, q, q) := by
          unfold xst
          repeat first | rw [xs_0 (by omega)] | rw [xs_1 (by omega)] | rw [if_pos (by omega)] | rw [if_neg (by omega)]
          first | done | rfl | assumption | (exfalso; omega) | (refine Prod.ext ?_ (Prod.ext ?_ ?_) <;> (try dsimp only) <;> omega)
        have o233228a : ((xst B n q d)).1 = xsh B n q d := by rw [o233228]
        have o233228b : ((xst B n q d)).2.1 = q := by rw [o233228]
        have o233228c : ((xst B n q d)).2.2 = q := by rw [o233228]
        exact wp_zreturn e38 c38_30 rfl (by omega) ⟨rfl, w233209, f233217, z233211, rfl, ⟨by omega, by omega⟩, (Or.inr ⟨by omega, by omega, by omega, by omega, by omega⟩)⟩
    · show wp _ _ 38 22 [(0, .ref r0), (1, .ref r1)] [vI z233194] _ H _
      refine wp_of e38 c38_22 (rw_if_eq (p1 := 31) (p2 := 25) (by decide) rfl ⟨by omega, by omega⟩ (fun c233229 => ?_) (fun c233229 => ?_))
      · refine wp_of e38 c38_31 (rw_aload_n (pc' := 32) (v := .ref r0) rfl rfl rfl ?_)
        refine wp_of e38 c38_32 (rw_iconst (pc' := 33) rfl ?_)
        refine wp_of e38 c38_33 (rw_bipush (pc' := 35) (z := 23) rfl (by decide) ?_)
        refine wp_of e38 c38_35 (xc_V (pc' := 38) (r := r0) (as := [vI 0, vI 23]) (st := []) (lm_1_119) rfl rfl (Nat.le_of_ble_eq_true rfl) hW g0 sh_3 (by decide) rfl (by decide) (u_24 (B := B) (n := n) (q := q) (lo := 0) (hi := 23) hW g0 ⟨by omega, by omega⟩ ⟨by omega, by omega⟩ qtk gtk qrb grb (by omega) (by omega) hTC_tk) (fun R233230 T233231 H233232 p233233 => ?_))
        obtain ⟨e233234, w233236, f233237, z233238, e233235, b233239, p233240⟩ := p233233
        subst e233234
        subst e233235
        rcases p233240 with ⟨a233241, a233242, a233243, a233244⟩ | ⟨a233245, a233246, a233247, a233248⟩
        · have f233249 := f0.tr f233237 rfl
          show wp _ _ 38 38 [(0, .ref r0), (1, .ref r1)] [vI z233238] _ H233232 _
          have u233250 := TC_k a233244
          refine wp_of e38 c38_38 (rw_istore_n (pc' := 39) (z := z233238) (L' := [(2, vI z233238), (0, .ref r0), (1, .ref r1)]) rfl rfl rfl ?_)
          refine wp_of e38 c38_39 (rw_iload_n (pc' := 40) (z := z233238) rfl rfl ?_)
          refine wp_of e38 c38_40 (rw_if_lt (p1 := 62) (p2 := 43) (by decide) rfl ⟨by omega, by omega⟩ (fun c233251 => ?_) (fun c233251 => ?_))
          · exfalso
            omega
          · refine wp_of e38 c38_43 (rw_aload_n (pc' := 44) (v := .ref r0) rfl rfl rfl ?_)
            refine wp_of e38 c38_44 (rw_ldcS (pc' := 46) (k := 70) rfl rfl rfl rfl ?_)
            have k233252 : H233232 r0 0 = H r0 0 := (f233237 r0 0 _ g0 rfl)
            have q233253 : H233232 r0 0 = (tk : Int) := k233252.trans qtk
            have k233254 : H233232 tk 0 = H tk 0 := (f233237 tk 0 _ gtk rfl)
            have q233255 : H233232 tk 0 = (rb : Int) := k233254.trans qrb
            refine wp_of e38 c38_46 (xc_V (pc' := 49) (r := r0) (as := [.ref 70]) (st := []) (lm_1_115) rfl rfl (Nat.le_of_ble_eq_true rfl) w233236 g0 sh_3 (by decide) rfl (by decide) (u_23 (B := B) (n := n) (q := ((xN B n q))) (kk := 307) w233236 g0 rfl q233253 gtk q233255 grb (by decide +kernel) a233244) (fun R233256 T233257 H233258 p233259 => ?_))
            obtain ⟨e233260, w233262, f233263, z233264, e233261, b233265, p233266⟩ := p233259
            subst e233260
            subst e233261
            rcases p233266 with ⟨a233267, a233268, a233269⟩ | ⟨a233270, a233271, a233272, a233273⟩
            · have f233274 := f233249.tr f233263 rfl
              show wp _ _ 38 49 [(2, vI z233238), (0, .ref r0), (1, .ref r1)] [vI z233264] _ H233258 _
              have u233275 := TC_k a233269
              refine wp_of e38 c38_49 (rw_if_eq (p1 := 62) (p2 := 52) (by decide) rfl ⟨by omega, by omega⟩ (fun c233276 => ?_) (fun c233276 => ?_))
              · exfalso
                omega
              · refine wp_of e38 c38_52 (rw_aload_n (pc' := 53) (v := .ref r0) rfl rfl rfl ?_)
                refine wp_of e38 c38_53 (rw_iconst (pc' := 54) rfl ?_)
                refine wp_of e38 c38_54 (rw_bipush (pc' := 56) (z := 99) rfl (by decide) ?_)
                have k233277 : H233258 r0 0 = H233232 r0 0 := (f233263 r0 0 _ g0 rfl)
                have q233278 : H233258 r0 0 = (tk : Int) := k233277.trans q233253
                have k233279 : H233258 tk 0 = H233232 tk 0 := (f233263 tk 0 _ gtk rfl)
                have q233280 : H233258 tk 0 = (rb : Int) := k233279.trans q233255
                refine wp_of e38 c38_56 (xc_V (pc' := 59) (r := r0) (as := [vI 0, vI 99]) (st := []) (lm_1_119) rfl rfl (Nat.le_of_ble_eq_true rfl) w233262 g0 sh_3 (by decide) rfl (by decide) (u_24 (B := B) (n := n) (q := ((xN B n ((xN B n q))))) (lo := 0) (hi := 99) w233262 g0 ⟨by omega, by omega⟩ ⟨by omega, by omega⟩ q233278 gtk q233280 grb (by omega) (by omega) a233269) (fun R233281 T233282 H233283 p233284 => ?_))
                obtain ⟨e233285, w233287, f233288, z233289, e233286, b233290, p233291⟩ := p233284
                subst e233285
                subst e233286
                rcases p233291 with ⟨a233292, a233293, a233294, a233295⟩ | ⟨a233296, a233297, a233298, a233299⟩
                · have f233300 := f233274.tr f233288 rfl
                  show wp _ _ 38 59 [(2, vI z233238), (0, .ref r0), (1, .ref r1)] [vI z233289] _ H233283 _
                  have u233301 := TC_k a233295
                  refine wp_of e38 c38_59 (rw_goto (p1 := 63) (by decide) ?_)
                  refine wp_of e38 c38_63 (rw_istore_n (pc' := 64) (z := z233289) (L' := [(3, vI z233289), (2, vI z233238), (0, .ref r0), (1, .ref r1)]) rfl rfl rfl ?_)
                  refine wp_of e38 c38_64 (rw_iload_n (pc' := 65) (z := z233289) rfl rfl ?_)
                  refine wp_of e38 c38_65 (rw_if_ge (p1 := 70) (p2 := 68) (by decide) rfl ⟨by omega, by omega⟩ (fun c233302 => ?_) (fun c233302 => ?_))
                  · refine wp_of e38 c38_70 (rw_aload_n (pc' := 71) (v := .ref r1) rfl rfl rfl ?_)
                    refine wp_of e38 c38_71 (rw_iload_n (pc' := 72) (z := z233238) rfl rfl ?_)
                    refine wp_of e38 c38_72 (rw_iload_n (pc' := 73) (z := z233289) rfl rfl ?_)
                    have h233303 : DC T H233283 r1 d := (DC_fr w233262 g1 f233288 rfl (DC_fr w233236 g1 f233263 rfl (DC_fr hW g1 f233237 rfl hDC_r1)))
                    refine wp_of e38 c38_73 (xc_V (pc' := 76) (r := r1) (as := [vI z233238, vI z233289]) (st := []) (lm_1_238) rfl rfl (Nat.le_of_ble_eq_true rfl) w233287 g1 sh_27 (by decide) rfl (by decide) (u_40 (d := d) (w := (xV B n (xN B n (xN B n q)) + 1)) (y := (xV B n q)) w233287 g1 ⟨by omega, by omega⟩ ⟨by omega, by omega⟩ (by omega) (by omega) h233303) (fun R233304 T233305 H233306 p233307 => ?_))
                    obtain ⟨e233308, w233310, f233311, e233309, p233312⟩ := p233307
                    subst e233308
                    subst e233309
                    have f233314 := f233300.tr f233311 rfl
                    show wp _ _ 38 76 [(3, vI z233289), (2, vI z233238), (0, .ref r0), (1, .ref r1)] [] _ H233306 _
                    have u233315 := DC_k p233312
                    refine wp_of e38 c38_76 (rw_iconst (pc' := 77) rfl ?_)
                    have o233316 : (xst B n q d) = (0, q, (xN B n ((xN B n ((xN B n q)))))) := by
                      unfold xst
                      repeat first | rw [xs_0 (by omega)] | rw [xs_1 (by omega)] | rw [if_pos (by omega)] | rw [if_neg (by omega)]
                      first | done | rfl | assumption | (exfalso; omega) | (refine Prod.ext ?_ (Prod.ext ?_ ?_) <;> (try dsimp only) <;> omega)
                    have o233316a : ((xst B n q d)).1 = 0 := by rw [o233316]
                    have o233316b : ((xst B n q d)).2.1 = q := by rw [o233316]
                    have o233316c : ((xst B n q d)).2.2 = (xN B n ((xN B n ((xN B n q))))) := by rw [o233316]
                    have h233317 : TC T H233306 tk B n (xN B n ((xN B n ((xN B n q))))) := (TC_fr w233287 gtk f233311 rfl a233295)
                    exact wp_zreturn e38 c38_77 rfl (by omega) ⟨rfl, w233310, f233314, 1, rfl, ⟨by omega, by omega⟩, (Or.inl ⟨by omega, by omega, o233316, by omega, h233317, p233312⟩)⟩
                  · exfalso
                    omega
                · have f233318 := f233274.tr f233288 rfl
                  show wp _ _ 38 59 [(2, vI z233238), (0, .ref r0), (1, .ref r1)] [vI z233289] _ H233283 _
                  refine wp_of e38 c38_59 (rw_goto (p1 := 63) (by decide) ?_)
                  refine wp_of e38 c38_63 (rw_istore_n (pc' := 64) (z := z233289) (L' := [(3, vI z233289), (2, vI z233238), (0, .ref r0), (1, .ref r1)]) rfl rfl rfl ?_)
                  refine wp_of e38 c38_64 (rw_iload_n (pc' := 65) (z := z233289) rfl rfl ?_)
                  refine wp_of e38 c38_65 (rw_if_ge (p1 := 70) (p2 := 68) (by decide) rfl ⟨by omega, by omega⟩ (fun c233319 => ?_) (fun c233319 => ?_))
                  · exfalso
                    omega
                  · refine wp_of e38 c38_68 (rw_iconst (pc' := 69) rfl ?_)
                    have k233320 : H233283 r1 7 = H r1 7 := ((f233288 r1 7 _ g1 rfl).trans ((f233263 r1 7 _ g1 rfl).trans (f233237 r1 7 _ g1 rfl)))
                    have k233321 : H233283 r1 8 = H r1 8 := ((f233288 r1 8 _ g1 rfl).trans ((f233263 r1 8 _ g1 rfl).trans (f233237 r1 8 _ g1 rfl)))
                    have k233322 : H233283 r1 9 = H r1 9 := ((f233288 r1 9 _ g1 rfl).trans ((f233263 r1 9 _ g1 rfl).trans (f233237 r1 9 _ g1 rfl)))
                    have k233323 : H233283 r1 10 = H r1 10 := ((f233288 r1 10 _ g1 rfl).trans ((f233263 r1 10 _ g1 rfl).trans (f233237 r1 10 _ g1 rfl)))
                    have k233324 : H233283 r1 11 = H r1 11 := ((f233288 r1 11 _ g1 rfl).trans ((f233263 r1 11 _ g1 rfl).trans (f233237 r1 11 _ g1 rfl)))
                    have k233325 : H233283 r1 12 = H r1 12 := ((f233288 r1 12 _ g1 rfl).trans ((f233263 r1 12 _ g1 rfl).trans (f233237 r1 12 _ g1 rfl)))
                    have k233326 : H233283 r1 13 = H r1 13 := ((f233288 r1 13 _ g1 rfl).trans ((f233263 r1 13 _ g1 rfl).trans (f233237 r1 13 _ g1 rfl)))
                    have k233327 : H233283 r1 14 = H r1 14 := ((f233288 r1 14 _ g1 rfl).trans ((f233263 r1 14 _ g1 rfl).trans (f233237 r1 14 _ g1 rfl)))
                    have k233328 : H233283 r1 15 = H r1 15 := ((f233288 r1 15 _ g1 rfl).trans ((f233263 r1 15 _ g1 rfl).trans (f233237 r1 15 _ g1 rfl)))
                    have k233329 : H233283 r1 16 = H r1 16 := ((f233288 r1 16 _ g1 rfl).trans ((f233263 r1 16 _ g1 rfl).trans (f233237 r1 16 _ g1 rfl)))
                    have o233330 : (xst B n q d) = (xh B n ((xN B n ((xN B n q)))) 0 99, ((xN B n ((xN B n q)))), ((xN B n ((xN B n q))))) := by
                      unfold xst
                      repeat first | rw [xs_0 (by omega)] | rw [xs_1 (by omega)] | rw [if_pos (by omega)] | rw [if_neg (by omega)]
                      first | done | rfl | assumption | (exfalso; omega) | (refine Prod.ext ?_ (Prod.ext ?_ ?_) <;> (try dsimp only) <;> omega)
                    have o233330a : ((xst B n q d)).1 = xh B n ((xN B n ((xN B n q)))) 0 99 := by rw [o233330]
                    have o233330b : ((xst B n q d)).2.1 = ((xN B n ((xN B n q)))) := by rw [o233330]
                    have o233330c : ((xst B n q d)).2.2 = ((xN B n ((xN B n q)))) := by rw [o233330]
                    exact wp_zreturn e38 c38_69 rfl (by omega) ⟨rfl, w233287, f233318, 0, rfl, ⟨by omega, by omega⟩, (Or.inr ⟨by omega, by omega, by omega, by omega, by omega⟩)⟩
            · have f233331 := f233249.tr f233263 rfl
              show wp _ _ 38 49 [(2, vI z233238), (0, .ref r0), (1, .ref r1)] [vI z233264] _ H233258 _
              refine wp_of e38 c38_49 (rw_if_eq (p1 := 62) (p2 := 52) (by decide) rfl ⟨by omega, by omega⟩ (fun c233332 => ?_) (fun c233332 => ?_))
              · refine wp_of e38 c38_62 (rw_iconst (pc' := 63) rfl ?_)
                refine wp_of e38 c38_63 (rw_istore_n (pc' := 64) (z := -1) (L' := [(3, vI (-1)), (2, vI z233238), (0, .ref r0), (1, .ref r1)]) rfl rfl rfl ?_)
                refine wp_of e38 c38_64 (rw_iload_n (pc' := 65) (z := -1) rfl rfl ?_)
                refine wp_of e38 c38_65 (rw_if_ge (p1 := 70) (p2 := 68) (by decide) rfl ⟨by omega, by omega⟩ (fun c233333 => ?_) (fun c233333 => ?_))
                · exfalso
                  omega
                · refine wp_of e38 c38_68 (rw_iconst (pc' := 69) rfl ?_)
                  have k233334 : H233258 r1 7 = H r1 7 := ((f233263 r1 7 _ g1 rfl).trans (f233237 r1 7 _ g1 rfl))
                  have k233335 : H233258 r1 8 = H r1 8 := ((f233263 r1 8 _ g1 rfl).trans (f233237 r1 8 _ g1 rfl))
                  have k233336 : H233258 r1 9 = H r1 9 := ((f233263 r1 9 _ g1 rfl).trans (f233237 r1 9 _ g1 rfl))
                  have k233337 : H233258 r1 10 = H r1 10 := ((f233263 r1 10 _ g1 rfl).trans (f233237 r1 10 _ g1 rfl))
                  have k233338 : H233258 r1 11 = H r1 11 := ((f233263 r1 11 _ g1 rfl).trans (f233237 r1 11 _ g1 rfl))
                  have k233339 : H233258 r1 12 = H r1 12 := ((f233263 r1 12 _ g1 rfl).trans (f233237 r1 12 _ g1 rfl))
                  have k233340 : H233258 r1 13 = H r1 13 := ((f233263 r1 13 _ g1 rfl).trans (f233237 r1 13 _ g1 rfl))
                  have k233341 : H233258 r1 14 = H r1 14 := ((f233263 r1 14 _ g1 rfl).trans (f233237 r1 14 _ g1 rfl))
                  have k233342 : H233258 r1 15 = H r1 15 := ((f233263 r1 15 _ g1 rfl).trans (f233237 r1 15 _ g1 rfl))
                  have k233343 : H233258 r1 16 = H r1 16 := ((f233263 r1 16 _ g1 rfl).trans (f233237 r1 16 _ g1 rfl))
                  have o233344 : (xst B n q d) = (xw B n ((xN B n q)) 307, ((xN B n q)), ((xN B n q))) := by
                    unfold xst
                    repeat first | rw [xs_0 (by omega)] | rw [xs_1 (by omega)] | rw [if_pos (by omega)] | rw [if_neg (by omega)]
                    first | done | rfl | assumption | (exfalso; omega) | (refine Prod.ext ?_ (Prod.ext ?_ ?_) <;> (try dsimp only) <;> omega)
                  have o233344a : ((xst B n q d)).1 = xw B n ((xN B n q)) 307 := by rw [o233344]
                  have o233344b : ((xst B n q d)).2.1 = ((xN B n q)) := by rw [o233344]
                  have o233344c : ((xst B n q d)).2.2 = ((xN B n q)) := by rw [o233344]
                  exact wp_zreturn e38 c38_69 rfl (by omega) ⟨rfl, w233262, f233331, 0, rfl, ⟨by omega, by omega⟩, (Or.inr ⟨by omega, by omega, by omega, by omega, by omega⟩)⟩
              · exfalso
                omega
        · have f233345 := f0.tr f233237 rfl
          show wp _ _ 38 38 [(0, .ref r0), (1, .ref r1)] [vI z233238] _ H233232 _
          refine wp_of e38 c38_38 (rw_istore_n (pc' := 39) (z := z233238) (L' := [(2, vI z233238), (0, .ref r0), (1, .ref r1)]) rfl rfl rfl ?_)
          refine wp_of e38 c38_39 (rw_iload_n (pc' := 40) (z := z233238) rfl rfl ?_)
          refine wp_of e38 c38_40 (rw_if_lt (p1 := 62) (p2 := 43) (by decide) rfl ⟨by omega, by omega⟩ (fun c233346 => ?_) (fun c233346 => ?_))
          · refine wp_of e38 c38_62 (rw_iconst (pc' := 63) rfl ?_)
            refine wp_of e38 c38_63 (rw_istore_n (pc' := 64) (z := -1) (L' := [(3, vI (-1)), (2, vI z233238), (0, .ref r0), (1, .ref r1)]) rfl rfl rfl ?_)
            refine wp_of e38 c38_64 (rw_iload_n (pc' := 65) (z := -1) rfl rfl ?_)
            refine wp_of e38 c38_65 (rw_if_ge (p1 := 70) (p2 := 68) (by decide) rfl ⟨by omega, by omega⟩ (fun c233347 => ?_) (fun c233347 => ?_))
            · exfalso
              omega
            · refine wp_of e38 c38_68 (rw_iconst (pc' := 69) rfl ?_)
              have k233348 : H233232 r1 7 = H r1 7 := (f233237 r1 7 _ g1 rfl)
              have k233349 : H233232 r1 8 = H r1 8 := (f233237 r1 8 _ g1 rfl)
              have k233350 : H233232 r1 9 = H r1 9 := (f233237 r1 9 _ g1 rfl)
              have k233351 : H233232 r1 10 = H r1 10 := (f233237 r1 10 _ g1 rfl)
              have k233352 : H233232 r1 11 = H r1 11 := (f233237 r1 11 _ g1 rfl)
              have k233353 : H233232 r1 12 = H r1 12 := (f233237 r1 12 _ g1 rfl)
              have k233354 : H233232 r1 13 = H r1 13 := (f233237 r1 13 _ g1 rfl)
              have k233355 : H233232 r1 14 = H r1 14 := (f233237 r1 14 _ g1 rfl)
              have k233356 : H233232 r1 15 = H r1 15 := (f233237 r1 15 _ g1 rfl)
              have k233357 : H233232 r1 16 = H r1 16 := (f233237 r1 16 _ g1 rfl)
              have o233358 : (xst B n q d) = (xsh B n q d, q, q) := by
                unfold xst
                repeat first | rw [xs_0 (by omega)] | rw [xs_1 (by omega)] | rw [if_pos (by omega)] | rw [if_neg (by omega)]
                first | done | rfl | assumption | (exfalso; omega) | (refine Prod.ext ?_ (Prod.ext ?_ ?_) <;> (try dsimp only) <;> omega)
              have o233358a : ((xst B n q d)).1 = xsh B n q d := by rw [o233358]
              have o233358b : ((xst B n q d)).2.1 = q := by rw [o233358]
              have o233358c : ((xst B n q d)).2.2 = q := by rw [o233358]
              exact wp_zreturn e38 c38_69 rfl (by omega) ⟨rfl, w233236, f233345, 0, rfl, ⟨by omega, by omega⟩, (Or.inr ⟨by omega, by omega, by omega, by omega, by omega⟩)⟩
          · exfalso
            omega
      · exfalso
        omega
