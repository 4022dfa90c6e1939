/-! methods of the reference (own work, written by wip/gen2/sx.py) -/
/-! StrikeAwakeModel.strikes(I)I -/
theorem e226 : wq_en 226 = some (9, 2, false, some FieldType.int) := rfl
theorem cg226_0 : mc_cd 226 0 = some (.aload_n 0, 1) ∧ mc_cd 226 1 = some (.iconst 0, 1) ∧ mc_cd 226 2 = some (.putfield 48, 3) ∧ mc_cd 226 5 = some (.aload_n 0, 1) ∧ mc_cd 226 6 = some (.iload_n 1, 1) ∧ mc_cd 226 7 = some (.invokevirtual 373, 3) ∧ mc_cd 226 10 = some (.ifCond .ne 9, 3) ∧ mc_cd 226 13 = some (.aload_n 0, 1) := by decide +kernel
theorem c226_0 : mc_cd 226 0 = some (.aload_n 0, 1) := cg226_0.1
theorem c226_1 : mc_cd 226 1 = some (.iconst 0, 1) := cg226_0.2.1
theorem c226_2 : mc_cd 226 2 = some (.putfield 48, 3) := cg226_0.2.2.1
theorem c226_5 : mc_cd 226 5 = some (.aload_n 0, 1) := cg226_0.2.2.2.1
theorem c226_6 : mc_cd 226 6 = some (.iload_n 1, 1) := cg226_0.2.2.2.2.1
theorem c226_7 : mc_cd 226 7 = some (.invokevirtual 373, 3) := cg226_0.2.2.2.2.2.1
theorem c226_10 : mc_cd 226 10 = some (.ifCond .ne 9, 3) := cg226_0.2.2.2.2.2.2.1
theorem c226_13 : mc_cd 226 13 = some (.aload_n 0, 1) := cg226_0.2.2.2.2.2.2.2
theorem cg226_14 : mc_cd 226 14 = some (.iconst 1, 1) ∧ mc_cd 226 15 = some (.invokevirtual 54, 3) ∧ mc_cd 226 18 = some (.ireturn, 1) ∧ mc_cd 226 19 = some (.aload_n 0, 1) ∧ mc_cd 226 20 = some (.invokevirtual 406, 3) ∧ mc_cd 226 23 = some (.ifCond .eq 11, 3) ∧ mc_cd 226 26 = some (.aload_n 0, 1) ∧ mc_cd 226 27 = some (.iconst 5, 1) := by decide +kernel
theorem c226_14 : mc_cd 226 14 = some (.iconst 1, 1) := cg226_14.1
theorem c226_15 : mc_cd 226 15 = some (.invokevirtual 54, 3) := cg226_14.2.1
theorem c226_18 : mc_cd 226 18 = some (.ireturn, 1) := cg226_14.2.2.1
theorem c226_19 : mc_cd 226 19 = some (.aload_n 0, 1) := cg226_14.2.2.2.1
theorem c226_20 : mc_cd 226 20 = some (.invokevirtual 406, 3) := cg226_14.2.2.2.2.1
theorem c226_23 : mc_cd 226 23 = some (.ifCond .eq 11, 3) := cg226_14.2.2.2.2.2.1
theorem c226_26 : mc_cd 226 26 = some (.aload_n 0, 1) := cg226_14.2.2.2.2.2.2.1
theorem c226_27 : mc_cd 226 27 = some (.iconst 5, 1) := cg226_14.2.2.2.2.2.2.2
theorem cg226_28 : mc_cd 226 28 = some (.invokevirtual 54, 3) ∧ mc_cd 226 31 = some (.goto 16, 3) ∧ mc_cd 226 34 = some (.aload_n 0, 1) ∧ mc_cd 226 35 = some (.aload_n 0, 1) ∧ mc_cd 226 36 = some (.aload_n 0, 1) ∧ mc_cd 226 37 = some (.getfield 36, 3) ∧ mc_cd 226 40 = some (.iload_n 1, 1) ∧ mc_cd 226 41 = some (.invokevirtual 386, 3) := by decide +kernel
theorem c226_28 : mc_cd 226 28 = some (.invokevirtual 54, 3) := cg226_28.1
theorem c226_31 : mc_cd 226 31 = some (.goto 16, 3) := cg226_28.2.1
theorem c226_34 : mc_cd 226 34 = some (.aload_n 0, 1) := cg226_28.2.2.1
theorem c226_35 : mc_cd 226 35 = some (.aload_n 0, 1) := cg226_28.2.2.2.1
theorem c226_36 : mc_cd 226 36 = some (.aload_n 0, 1) := cg226_28.2.2.2.2.1
theorem c226_37 : mc_cd 226 37 = some (.getfield 36, 3) := cg226_28.2.2.2.2.2.1
theorem c226_40 : mc_cd 226 40 = some (.iload_n 1, 1) := cg226_28.2.2.2.2.2.2.1
theorem c226_41 : mc_cd 226 41 = some (.invokevirtual 386, 3) := cg226_28.2.2.2.2.2.2.2
theorem cg226_44 : mc_cd 226 44 = some (.invokevirtual 58, 3) ∧ mc_cd 226 47 = some (.ireturn, 1) := by decide +kernel
theorem c226_44 : mc_cd 226 44 = some (.invokevirtual 58, 3) := cg226_44.1
theorem c226_47 : mc_cd 226 47 = some (.ireturn, 1) := cg226_44.2
abbrev q_226 (r0 : Nat) (a1 : Int) (T : wq_T) (H : wq_H) : Option Value → wq_T → wq_H → Prop := fun r T' H' => T = T' ∧ WT T H' ∧ wfr [(42, 0), (42, 1), (42, 2)] T H H' ∧ ∃ z : Int, some (vI z) = r ∧ ((-2147483648) ≤ z ∧ z ≤ 2147483647) ∧ (wKI H' r0 = 1)
set_option maxHeartbeats 4000000 in
theorem s_226 {kt : Nat → Option mc_E} {T : wq_T} {H : wq_H} {r0 : Nat} {a1 : Int} (hW : WT T H) (g0 : T.2.2.2 r0 = some 42) (i1 : (-2147483648) ≤ a1 ∧ a1 ≤ 2147483647) (p0 : wKI H r0 = 1) : wpc kt 3 226 [.ref r0, vI a1] T H (q_226 r0 a1 T H) := by
  refine wp_enter e226 (Nat.le_of_ble_eq_true rfl) rfl ?_
  have f0 : wfr [(42, 0), (42, 1), (42, 2)] T H H := wfr.rf
  show wp _ _ 226 0 [(0, .ref r0), (1, vI a1)] [] _ H _
  refine wp_of e226 c226_0 (rw_aload_n (pc' := 1) (v := .ref r0) rfl rfl rfl ?_)
  refine wp_of e226 c226_1 (rw_iconst (pc' := 2) rfl ?_)
  refine wp_of e226 c226_2 (xp_I (pc' := 5) lf_9_48 hW g0 sh_42 (by decide) (by decide) ty_42_0 rfl rfl (by omega) (by omega) ⟨by omega, by omega⟩ rfl (fun H131371 e131372 w131373 => ?_))
  have f131374 := f0.put' e131372 g0 rfl
  have k131375 : H131371 r0 0 = 0 := wq_u_s e131372
  refine wp_of e226 c226_5 (rw_aload_n (pc' := 6) (v := .ref r0) rfl rfl rfl ?_)
  refine wp_of e226 c226_6 (rw_iload_n (pc' := 7) (z := a1) rfl rfl ?_)
  refine wp_of e226 c226_7 (xc_V (pc' := 10) (r := r0) (as := [vI a1]) (st := []) (lm_9_373) rfl rfl (Nat.le_of_ble_eq_true rfl) w131373 g0 sh_42 (by decide) rfl (by decide) (s_218 w131373 g0 ⟨by omega, by omega⟩) (fun R131376 T131377 H131378 p131379 => ?_))
  obtain ⟨e131380, e131382, z131384, e131381, b131385, p131383⟩ := p131379
  subst e131380
  subst e131381
  subst e131382
  show wp _ _ 226 10 [(0, .ref r0), (1, vI a1)] [vI z131384] _ H131371 _
  refine wp_of e226 c226_10 (rw_if_ne (p1 := 19) (p2 := 13) (by decide) rfl ⟨by omega, by omega⟩ (fun c131386 => ?_) (fun c131386 => ?_))
  · refine wp_of e226 c226_19 (rw_aload_n (pc' := 20) (v := .ref r0) rfl rfl rfl ?_)
    obtain ⟨r131387, q131388, g131389⟩ := (w131373.opt g0 (t' := 54) (n := 33) (j := 3) (p := 0) (q := 0) rfl (by decide) rfl).resolve_left (by omega)
    refine wp_of e226 c226_20 (xc_V (pc' := 23) (r := r0) (as := []) (st := []) (lm_9_406) rfl rfl (Nat.le_of_ble_eq_true rfl) w131373 g0 sh_42 (by decide) rfl (by decide) (s_227 w131373 g0 q131388 g131389) (fun R131390 T131391 H131392 p131393 => ?_))
    obtain ⟨e131394, e131396, z131397, e131395, b131398⟩ := p131393
    subst e131394
    subst e131395
    subst e131396
    show wp _ _ 226 23 [(0, .ref r0), (1, vI a1)] [vI z131397] _ H131371 _
    refine wp_of e226 c226_23 (rw_if_eq (p1 := 34) (p2 := 26) (by decide) rfl ⟨by omega, by omega⟩ (fun c131399 => ?_) (fun c131399 => ?_))
    · refine wp_of e226 c226_34 (rw_aload_n (pc' := 35) (v := .ref r0) rfl rfl rfl ?_)
      refine wp_of e226 c226_35 (rw_aload_n (pc' := 36) (v := .ref r0) rfl rfl rfl ?_)
      refine wp_of e226 c226_36 (rw_aload_n (pc' := 37) (v := .ref r0) rfl rfl rfl ?_)
      refine wp_of e226 c226_37 (xg_R (pc' := 40) lf_9_36 w131373 g0 sh_42 (by decide) (by decide) ty_42_26 rfl rfl (fun r131400 q131401 g131402 => ?_))
      refine wp_of e226 c226_40 (rw_iload_n (pc' := 41) (z := a1) rfl rfl ?_)
      refine wp_of e226 c226_41 (xc_V (pc' := 44) (r := r0) (as := [.ref r131400, vI a1]) (st := [.ref r0]) (lm_9_386) rfl rfl (Nat.le_of_ble_eq_true rfl) w131373 g0 sh_42 (by decide) rfl (by decide) (s_228_m_said w131373 g0 g131402 ⟨by omega, by omega⟩ q131388 g131389) (fun R131403 T131404 H131405 p131406 => ?_))
      obtain ⟨e131407, e131409, z131410, e131408, b131411⟩ := p131406
      subst e131407
      subst e131408
      subst e131409
      show wp _ _ 226 44 [(0, .ref r0), (1, vI a1)] [vI z131410, .ref r0] _ H131371 _
      refine wp_of e226 c226_44 (xc_V (pc' := 47) (r := r0) (as := [vI z131410]) (st := []) (lm_9_58) rfl rfl (Nat.le_of_ble_eq_true rfl) w131373 g0 sh_42 (by decide) rfl (by decide) (s_209 w131373 g0 ⟨by omega, by omega⟩) (fun R131412 T131413 H131414 p131415 => ?_))
      obtain ⟨e131416, w131418, f131419, z131420, e131417, b131421⟩ := p131415
      subst e131416
      subst e131417
      have f131422 := f131374.tr f131419 rfl
      show wp _ _ 226 47 [(0, .ref r0), (1, vI a1)] [vI z131420] _ H131414 _
      have k131423 : wKI H131414 r0 = wKI H r0 := ((wKI_fr w131373 g0 f131419 rfl).trans (wKI_fr hW g0 ((wfr.rf (l := [(42, 0)])).put' e131372 g0 rfl) rfl))
      exact wp_ireturn e226 c226_47 rfl ⟨rfl, w131418, f131422, z131420, rfl, ⟨by omega, by omega⟩, by omega⟩
    · refine wp_of e226 c226_26 (rw_aload_n (pc' := 27) (v := .ref r0) rfl rfl rfl ?_)
      refine wp_of e226 c226_27 (rw_iconst (pc' := 28) rfl ?_)
      refine wp_of e226 c226_28 (xc_V (pc' := 31) (r := r0) (as := [vI 5]) (st := []) (lm_9_54) rfl rfl (Nat.le_of_ble_eq_true rfl) w131373 g0 sh_42 (by decide) rfl (by decide) (s_170 w131373 g0 ⟨by omega, by omega⟩) (fun R131424 T131425 H131426 p131427 => ?_))
      obtain ⟨e131428, w131430, f131431, z131432, e131429, b131433⟩ := p131427
      subst e131428
      subst e131429
      have f131434 := f131374.tr f131431 rfl
      show wp _ _ 226 31 [(0, .ref r0), (1, vI a1)] [vI z131432] _ H131426 _
      refine wp_of e226 c226_31 (rw_goto (p1 := 47) (by decide) ?_)
      have k131435 : wKI H131426 r0 = wKI H r0 := ((wKI_fr w131373 g0 f131431 rfl).trans (wKI_fr hW g0 ((wfr.rf (l := [(42, 0)])).put' e131372 g0 rfl) rfl))
      exact wp_ireturn e226 c226_47 rfl ⟨rfl, w131430, f131434, z131432, rfl, ⟨by omega, by omega⟩, by omega⟩
  · refine wp_of e226 c226_13 (rw_aload_n (pc' := 14) (v := .ref r0) rfl rfl rfl ?_)
    refine wp_of e226 c226_14 (rw_iconst (pc' := 15) rfl ?_)
    refine wp_of e226 c226_15 (xc_V (pc' := 18) (r := r0) (as := [vI 1]) (st := []) (lm_9_54) rfl rfl (Nat.le_of_ble_eq_true rfl) w131373 g0 sh_42 (by decide) rfl (by decide) (s_170 w131373 g0 ⟨by omega, by omega⟩) (fun R131436 T131437 H131438 p131439 => ?_))
    obtain ⟨e131440, w131442, f131443, z131444, e131441, b131445⟩ := p131439
    subst e131440
    subst e131441
    have f131446 := f131374.tr f131443 rfl
    show wp _ _ 226 18 [(0, .ref r0), (1, vI a1)] [vI z131444] _ H131438 _
    have k131447 : wKI H131438 r0 = wKI H r0 := ((wKI_fr w131373 g0 f131443 rfl).trans (wKI_fr hW g0 ((wfr.rf (l := [(42, 0)])).put' e131372 g0 rfl) rfl))
    exact wp_ireturn e226 c226_18 rfl ⟨rfl, w131442, f131446, z131444, rfl, ⟨by omega, by omega⟩, by omega⟩
/-! StrikeAwakeModel.refusesSaid()I -/
theorem e231 : wq_en 231 = some (9, 1, false, some FieldType.int) := rfl
theorem cg231_0 : mc_cd 231 0 = some (.aload_n 0, 1) ∧ mc_cd 231 1 = some (.getfield 337, 3) ∧ mc_cd 231 4 = some (.ifnonnull 7, 3) ∧ mc_cd 231 7 = some (.iconst 1, 1) ∧ mc_cd 231 8 = some (.goto 15, 3) ∧ mc_cd 231 11 = some (.aload_n 0, 1) ∧ mc_cd 231 12 = some (.invokevirtual 406, 3) ∧ mc_cd 231 15 = some (.ifCond .eq 7, 3) := by decide +kernel
theorem c231_0 : mc_cd 231 0 = some (.aload_n 0, 1) := cg231_0.1
theorem c231_1 : mc_cd 231 1 = some (.getfield 337, 3) := cg231_0.2.1
theorem c231_4 : mc_cd 231 4 = some (.ifnonnull 7, 3) := cg231_0.2.2.1
theorem c231_7 : mc_cd 231 7 = some (.iconst 1, 1) := cg231_0.2.2.2.1
theorem c231_8 : mc_cd 231 8 = some (.goto 15, 3) := cg231_0.2.2.2.2.1
theorem c231_11 : mc_cd 231 11 = some (.aload_n 0, 1) := cg231_0.2.2.2.2.2.1
theorem c231_12 : mc_cd 231 12 = some (.invokevirtual 406, 3) := cg231_0.2.2.2.2.2.2.1
theorem c231_15 : mc_cd 231 15 = some (.ifCond .eq 7, 3) := cg231_0.2.2.2.2.2.2.2
theorem cg231_18 : mc_cd 231 18 = some (.iconst 5, 1) ∧ mc_cd 231 19 = some (.goto 4, 3) ∧ mc_cd 231 22 = some (.iconst 0, 1) ∧ mc_cd 231 23 = some (.ireturn, 1) := by decide +kernel
theorem c231_18 : mc_cd 231 18 = some (.iconst 5, 1) := cg231_18.1
theorem c231_19 : mc_cd 231 19 = some (.goto 4, 3) := cg231_18.2.1
theorem c231_22 : mc_cd 231 22 = some (.iconst 0, 1) := cg231_18.2.2.1
theorem c231_23 : mc_cd 231 23 = some (.ireturn, 1) := cg231_18.2.2.2
abbrev q_231 (r0 : Nat) (T : wq_T) (H : wq_H) : Option Value → wq_T → wq_H → Prop := fun r T' H' => T = T' ∧ H = H' ∧ ∃ z : Int, some (vI z) = r ∧ (0 ≤ z ∧ z ≤ 5) ∧ (z ≠ 0 ∨ H r0 3 ≠ -1)
set_option maxHeartbeats 4000000 in
theorem s_231 {kt : Nat → Option mc_E} {T : wq_T} {H : wq_H} {r0 : Nat} (hW : WT T H) (g0 : T.2.2.2 r0 = some 42) : wpc kt 3 231 [.ref r0] T H (q_231 r0 T H) := by
  refine wp_enter e231 (Nat.le_of_ble_eq_true rfl) rfl ?_
  show wp _ _ 231 0 [(0, .ref r0)] [] _ H _
  refine wp_of e231 c231_0 (rw_aload_n (pc' := 1) (v := .ref r0) rfl rfl rfl ?_)
  refine wp_of e231 c231_1 (xg_O (pc' := 4) lf_9_337 hW g0 sh_42 (by decide) (by decide) ty_42_3 rfl rfl (fun q131462 => ?_) (fun r131461 q131462 g131463 => ?_))
  · refine wp_of e231 c231_4 (rw_ifnonnull_n (p1 := 11) (p2 := 7) (by decide) rfl ?_)
    refine wp_of e231 c231_7 (rw_iconst (pc' := 8) rfl ?_)
    refine wp_of e231 c231_8 (rw_goto (p1 := 23) (by decide) ?_)
    exact wp_ireturn e231 c231_23 rfl ⟨rfl, rfl, 1, rfl, ⟨by omega, by omega⟩, by omega⟩
  · refine wp_of e231 c231_4 (rw_ifnonnull_r (p1 := 11) (p2 := 7) (by decide) rfl ?_)
    refine wp_of e231 c231_11 (rw_aload_n (pc' := 12) (v := .ref r0) rfl rfl rfl ?_)
    refine wp_of e231 c231_12 (xc_V (pc' := 15) (r := r0) (as := []) (st := []) (lm_9_406) rfl rfl (Nat.le_of_ble_eq_true rfl) hW g0 sh_42 (by decide) rfl (by decide) (s_227 hW g0 q131462 g131463) (fun R131464 T131465 H131466 p131467 => ?_))
    obtain ⟨e131468, e131470, z131471, e131469, b131472⟩ := p131467
    subst e131468
    subst e131469
    subst e131470
    show wp _ _ 231 15 [(0, .ref r0)] [vI z131471] _ H _
    refine wp_of e231 c231_15 (rw_if_eq (p1 := 22) (p2 := 18) (by decide) rfl ⟨by omega, by omega⟩ (fun c131473 => ?_) (fun c131473 => ?_))
    · refine wp_of e231 c231_22 (rw_iconst (pc' := 23) rfl ?_)
      exact wp_ireturn e231 c231_23 rfl ⟨rfl, rfl, 0, rfl, ⟨by omega, by omega⟩, by omega⟩
    · refine wp_of e231 c231_18 (rw_iconst (pc' := 19) rfl ?_)
      refine wp_of e231 c231_19 (rw_goto (p1 := 23) (by decide) ?_)
      exact wp_ireturn e231 c231_23 rfl ⟨rfl, rfl, 5, rfl, ⟨by omega, by omega⟩, by omega⟩
/-! StrikeAwakeModel.offIn([II)I -/
theorem e234 : wq_en 234 = some (9, 4, false, some FieldType.int) := rfl
theorem cg234_0 : mc_cd 234 0 = some (.aload_n 0, 1) ∧ mc_cd 234 1 = some (.getfield 17, 3) ∧ mc_cd 234 4 = some (.iload_n 2, 1) ∧ mc_cd 234 5 = some (.iaload, 1) ∧ mc_cd 234 6 = some (.iconst 1, 1) ∧ mc_cd 234 7 = some (.isub, 1) ∧ mc_cd 234 8 = some (.aload_n 0, 1) ∧ mc_cd 234 9 = some (.aload_n 1, 1) := by decide +kernel
theorem c234_0 : mc_cd 234 0 = some (.aload_n 0, 1) := cg234_0.1
theorem c234_1 : mc_cd 234 1 = some (.getfield 17, 3) := cg234_0.2.1
theorem c234_4 : mc_cd 234 4 = some (.iload_n 2, 1) := cg234_0.2.2.1
theorem c234_5 : mc_cd 234 5 = some (.iaload, 1) := cg234_0.2.2.2.1
theorem c234_6 : mc_cd 234 6 = some (.iconst 1, 1) := cg234_0.2.2.2.2.1
theorem c234_7 : mc_cd 234 7 = some (.isub, 1) := cg234_0.2.2.2.2.2.1
theorem c234_8 : mc_cd 234 8 = some (.aload_n 0, 1) := cg234_0.2.2.2.2.2.2.1
theorem c234_9 : mc_cd 234 9 = some (.aload_n 1, 1) := cg234_0.2.2.2.2.2.2.2
theorem cg234_10 : mc_cd 234 10 = some (.iload_n 2, 1) ∧ mc_cd 234 11 = some (.invokevirtual 386, 3) ∧ mc_cd 234 14 = some (.isub, 1) ∧ mc_cd 234 15 = some (.istore_n 3, 1) ∧ mc_cd 234 16 = some (.iload_n 3, 1) ∧ mc_cd 234 17 = some (.iconst 0, 1) ∧ mc_cd 234 18 = some (.aload_n 0, 1) ∧ mc_cd 234 19 = some (.getfield 337, 3) := by decide +kernel
theorem c234_10 : mc_cd 234 10 = some (.iload_n 2, 1) := cg234_10.1
theorem c234_11 : mc_cd 234 11 = some (.invokevirtual 386, 3) := cg234_10.2.1
theorem c234_14 : mc_cd 234 14 = some (.isub, 1) := cg234_10.2.2.1
theorem c234_15 : mc_cd 234 15 = some (.istore_n 3, 1) := cg234_10.2.2.2.1
theorem c234_16 : mc_cd 234 16 = some (.iload_n 3, 1) := cg234_10.2.2.2.2.1
theorem c234_17 : mc_cd 234 17 = some (.iconst 0, 1) := cg234_10.2.2.2.2.2.1
theorem c234_18 : mc_cd 234 18 = some (.aload_n 0, 1) := cg234_10.2.2.2.2.2.2.1
theorem c234_19 : mc_cd 234 19 = some (.getfield 337, 3) := cg234_10.2.2.2.2.2.2.2
theorem cg234_22 : mc_cd 234 22 = some (.getfield 222, 3) ∧ mc_cd 234 25 = some (.invokestatic 125, 3) ∧ mc_cd 234 28 = some (.ifCond .eq 5, 3) ∧ mc_cd 234 31 = some (.iconst 0, 1) ∧ mc_cd 234 32 = some (.ireturn, 1) ∧ mc_cd 234 33 = some (.iload_n 3, 1) ∧ mc_cd 234 34 = some (.iconst (-1), 1) ∧ mc_cd 234 35 = some (.if_icmp .eq 16, 3) := by decide +kernel
theorem c234_22 : mc_cd 234 22 = some (.getfield 222, 3) := cg234_22.1
theorem c234_25 : mc_cd 234 25 = some (.invokestatic 125, 3) := cg234_22.2.1
theorem c234_28 : mc_cd 234 28 = some (.ifCond .eq 5, 3) := cg234_22.2.2.1
theorem c234_31 : mc_cd 234 31 = some (.iconst 0, 1) := cg234_22.2.2.2.1
theorem c234_32 : mc_cd 234 32 = some (.ireturn, 1) := cg234_22.2.2.2.2.1
theorem c234_33 : mc_cd 234 33 = some (.iload_n 3, 1) := cg234_22.2.2.2.2.2.1
theorem c234_34 : mc_cd 234 34 = some (.iconst (-1), 1) := cg234_22.2.2.2.2.2.2.1
theorem c234_35 : mc_cd 234 35 = some (.if_icmp .eq 16, 3) := cg234_22.2.2.2.2.2.2.2
theorem cg234_38 : mc_cd 234 38 = some (.iload_n 3, 1) ∧ mc_cd 234 39 = some (.aload_n 0, 1) ∧ mc_cd 234 40 = some (.getfield 337, 3) ∧ mc_cd 234 43 = some (.getfield 222, 3) ∧ mc_cd 234 46 = some (.iconst 1, 1) ∧ mc_cd 234 47 = some (.iadd, 1) ∧ mc_cd 234 48 = some (.if_icmp .ne 7, 3) ∧ mc_cd 234 51 = some (.iconst 1, 1) := by decide +kernel
theorem c234_38 : mc_cd 234 38 = some (.iload_n 3, 1) := cg234_38.1
theorem c234_39 : mc_cd 234 39 = some (.aload_n 0, 1) := cg234_38.2.1
theorem c234_40 : mc_cd 234 40 = some (.getfield 337, 3) := cg234_38.2.2.1
theorem c234_43 : mc_cd 234 43 = some (.getfield 222, 3) := cg234_38.2.2.2.1
theorem c234_46 : mc_cd 234 46 = some (.iconst 1, 1) := cg234_38.2.2.2.2.1
theorem c234_47 : mc_cd 234 47 = some (.iadd, 1) := cg234_38.2.2.2.2.2.1
theorem c234_48 : mc_cd 234 48 = some (.if_icmp .ne 7, 3) := cg234_38.2.2.2.2.2.2.1
theorem c234_51 : mc_cd 234 51 = some (.iconst 1, 1) := cg234_38.2.2.2.2.2.2.2
theorem cg234_52 : mc_cd 234 52 = some (.goto 4, 3) ∧ mc_cd 234 55 = some (.iconst 2, 1) ∧ mc_cd 234 56 = some (.ireturn, 1) := by decide +kernel
theorem c234_52 : mc_cd 234 52 = some (.goto 4, 3) := cg234_52.1
theorem c234_55 : mc_cd 234 55 = some (.iconst 2, 1) := cg234_52.2.1
theorem c234_56 : mc_cd 234 56 = some (.ireturn, 1) := cg234_52.2.2
abbrev q_234_m_lot (r0 : Nat) (r1 : Nat) (a2 : Int) (pp : Nat) (T : wq_T) (H : wq_H) : Option Value → wq_T → wq_H → Prop := fun r T' H' => T = T' ∧ H = H' ∧ ∃ z : Int, some (vI z) = r ∧ (0 ≤ z ∧ z ≤ 2)
set_option maxHeartbeats 4000000 in
theorem s_234_m_lot {kt : Nat → Option mc_E} {T : wq_T} {H : wq_H} {r0 : Nat} {r1 : Nat} {a2 : Int} {pp : Nat} (hW : WT T H) (g0 : T.2.2.2 r0 = some 42) (g1 : T.2.2.2 r1 = some 51) (i2 : 0 ≤ a2 ∧ a2 ≤ 23) (qpp : H r0 3 = (pp : Int)) (gpp : T.2.2.2 pp = some 54) : wpc kt 3 234 [.ref r0, .ref r1, vI a2] T H (q_234_m_lot r0 r1 a2 pp T H) := by
  refine wp_enter e234 (Nat.le_of_ble_eq_true rfl) rfl ?_
  show wp _ _ 234 0 [(0, .ref r0), (1, .ref r1), (2, vI a2)] [] _ H _
  refine wp_of e234 c234_0 (rw_aload_n (pc' := 1) (v := .ref r0) rfl rfl rfl ?_)
  refine wp_of e234 c234_1 (xg_R (pc' := 4) lf_9_17 hW g0 sh_42 (by decide) (by decide) ty_42_20 rfl rfl (fun r131511 q131512 g131513 => ?_))
  refine wp_of e234 c234_4 (rw_iload_n (pc' := 5) (z := a2) rfl rfl ?_)
  refine wp_of e234 c234_5 (xa_I (so := 0) (pc' := 6) hW g131513 sh_44 (by decide) (ty_44 _) (by omega) (by omega) rfl (fun b131514 b131515 => ?_))
  refine wp_of e234 c234_6 (rw_iconst (pc' := 7) rfl ?_)
  refine wp_of e234 c234_7 (rw_isubw (pc' := 8) rfl ?_)
  obtain ⟨v131516, e131517⟩ : ∃ x : Int, x = wq_w ((H r131511 (a2.toNat)) - 1) := ⟨_, rfl⟩
  rw [← e131517]
  have b131518 : -2147483648 ≤ v131516 ∧ v131516 ≤ 2147483647 := by
    rw [e131517]
    exact wI_w _
  refine wp_of e234 c234_8 (rw_aload_n (pc' := 9) (v := .ref r0) rfl rfl rfl ?_)
  refine wp_of e234 c234_9 (rw_aload_n (pc' := 10) (v := .ref r1) rfl rfl rfl ?_)
  refine wp_of e234 c234_10 (rw_iload_n (pc' := 11) (z := a2) rfl rfl ?_)
  refine wp_of e234 c234_11 (xc_V (pc' := 14) (r := r0) (as := [.ref r1, vI a2]) (st := [vI v131516]) (lm_9_386) rfl rfl (Nat.le_of_ble_eq_true rfl) hW g0 sh_42 (by decide) rfl (by decide) (s_228_m_lot hW g0 g1 ⟨by omega, by omega⟩ qpp gpp) (fun R131519 T131520 H131521 p131522 => ?_))
  obtain ⟨e131523, e131525, z131526, e131524, b131527⟩ := p131522
  subst e131523
  subst e131524
  subst e131525
  show wp _ _ 234 14 [(0, .ref r0), (1, .ref r1), (2, vI a2)] [vI z131526, vI v131516] _ H _
  refine wp_of e234 c234_14 (rw_isubw (pc' := 15) rfl ?_)
  obtain ⟨v131528, e131529⟩ : ∃ x : Int, x = wq_w (v131516 - z131526) := ⟨_, rfl⟩
  rw [← e131529]
  have b131530 : -2147483648 ≤ v131528 ∧ v131528 ≤ 2147483647 := by
    rw [e131529]
    exact wI_w _
  refine wp_of e234 c234_15 (rw_istore_n (pc' := 16) (z := v131528) (L' := [(3, vI v131528), (0, .ref r0), (1, .ref r1), (2, vI a2)]) rfl rfl rfl ?_)
  refine wp_of e234 c234_16 (rw_iload_n (pc' := 17) (z := v131528) rfl rfl ?_)
  refine wp_of e234 c234_17 (rw_iconst (pc' := 18) rfl ?_)
  refine wp_of e234 c234_18 (rw_aload_n (pc' := 19) (v := .ref r0) rfl rfl rfl ?_)
  refine wp_of e234 c234_19 (xg_K (pc' := 22) lf_9_337 hW g0 sh_42 (by decide) (by decide) rfl qpp rfl ?_)
  refine wp_of e234 c234_22 (xg_I (pc' := 25) lf_9_222 hW gpp sh_54 (by decide) (by decide) ty_54_1 rfl rfl (fun b131531 b131532 => ?_))
  refine wp_of e234 c234_25 (xc_S (pc' := 28) (as := [vI v131528, vI 0, vI (H pp 1)]) (st := []) (lm_9_125) rfl rfl (Nat.le_of_ble_eq_true rfl) rfl (by decide) (s_186 hW ⟨by omega, by omega⟩ ⟨by omega, by omega⟩ ⟨by omega, by omega⟩) (fun R131533 T131534 H131535 p131536 => ?_))
  obtain ⟨e131537, e131539, z131541, e131538, b131542, p131540⟩ := p131536
  subst e131537
  subst e131538
  subst e131539
  show wp _ _ 234 28 [(3, vI v131528), (0, .ref r0), (1, .ref r1), (2, vI a2)] [vI z131541] _ H _
  refine wp_of e234 c234_28 (rw_if_eq (p1 := 33) (p2 := 31) (by decide) rfl ⟨by omega, by omega⟩ (fun c131543 => ?_) (fun c131543 => ?_))
  · refine wp_of e234 c234_33 (rw_iload_n (pc' := 34) (z := v131528) rfl rfl ?_)
    refine wp_of e234 c234_34 (rw_iconst (pc' := 35) rfl ?_)
    refine wp_of e234 c234_35 (rw_icmp_eq (p1 := 51) (p2 := 38) (by decide) rfl ⟨by omega, by omega⟩ ⟨by omega, by omega⟩ (fun c131544 => ?_) (fun c131544 => ?_))
    · refine wp_of e234 c234_51 (rw_iconst (pc' := 52) rfl ?_)
      refine wp_of e234 c234_52 (rw_goto (p1 := 56) (by decide) ?_)
      exact wp_ireturn e234 c234_56 rfl ⟨rfl, rfl, 1, rfl, ⟨by omega, by omega⟩⟩
    · refine wp_of e234 c234_38 (rw_iload_n (pc' := 39) (z := v131528) rfl rfl ?_)
      refine wp_of e234 c234_39 (rw_aload_n (pc' := 40) (v := .ref r0) rfl rfl rfl ?_)
      refine wp_of e234 c234_40 (xg_K (pc' := 43) lf_9_337 hW g0 sh_42 (by decide) (by decide) rfl qpp rfl ?_)
      refine wp_of e234 c234_43 (xg_I (pc' := 46) lf_9_222 hW gpp sh_54 (by decide) (by decide) ty_54_1 rfl rfl (fun b131545 b131546 => ?_))
      refine wp_of e234 c234_46 (rw_iconst (pc' := 47) rfl ?_)
      refine wp_of e234 c234_47 (rw_iaddw (pc' := 48) rfl ?_)
      obtain ⟨v131547, e131548⟩ : ∃ x : Int, x = wq_w ((H pp 1) + 1) := ⟨_, rfl⟩
      rw [← e131548]
      have b131549 : -2147483648 ≤ v131547 ∧ v131547 ≤ 2147483647 := by
        rw [e131548]
        exact wI_w _
      refine wp_of e234 c234_48 (rw_icmp_ne (p1 := 55) (p2 := 51) (by decide) rfl ⟨by omega, by omega⟩ ⟨by omega, by omega⟩ (fun c131550 => ?_) (fun c131550 => ?_))
      · refine wp_of e234 c234_55 (rw_iconst (pc' := 56) rfl ?_)
        exact wp_ireturn e234 c234_56 rfl ⟨rfl, rfl, 2, rfl, ⟨by omega, by omega⟩⟩
      · refine wp_of e234 c234_51 (rw_iconst (pc' := 52) rfl ?_)
        refine wp_of e234 c234_52 (rw_goto (p1 := 56) (by decide) ?_)
        exact wp_ireturn e234 c234_56 rfl ⟨rfl, rfl, 1, rfl, ⟨by omega, by omega⟩⟩
  · refine wp_of e234 c234_31 (rw_iconst (pc' := 32) rfl ?_)
    exact wp_ireturn e234 c234_32 rfl ⟨rfl, rfl, 0, rfl, ⟨by omega, by omega⟩⟩

/-! StrikeAwakeModel.offIn([II)I -/
abbrev q_234_m_said (r0 : Nat) (r1 : Nat) (a2 : Int) (pp : Nat) (T : wq_T) (H : wq_H) : Option Value → wq_T → wq_H → Prop := fun r T' H' => T = T' ∧ H = H' ∧ ∃ z : Int, some (vI z) = r ∧ (0 ≤ z ∧ z ≤ 2)
set_option maxHeartbeats 4000000 in
theorem s_234_m_said {kt : Nat → Option mc_E} {T : wq_T} {H : wq_H} {r0 : Nat} {r1 : Nat} {a2 : Int} {pp : Nat} (hW : WT T H) (g0 : T.2.2.2 r0 = some 42) (g1 : T.2.2.2 r1 = some 50) (i2 : 0 ≤ a2 ∧ a2 ≤ 23) (qpp : H r0 3 = (pp : Int)) (gpp : T.2.2.2 pp = some 54) : wpc kt 3 234 [.ref r0, .ref r1, vI a2] T H (q_234_m_said r0 r1 a2 pp T H) := by
  refine wp_enter e234 (Nat.le_of_ble_eq_true rfl) rfl ?_
  show wp _ _ 234 0 [(0, .ref r0), (1, .ref r1), (2, vI a2)] [] _ H _
  refine wp_of e234 c234_0 (rw_aload_n (pc' := 1) (v := .ref r0) rfl rfl rfl ?_)
  refine wp_of e234 c234_1 (xg_R (pc' := 4) lf_9_17 hW g0 sh_42 (by decide) (by decide) ty_42_20 rfl rfl (fun r131588 q131589 g131590 => ?_))
  refine wp_of e234 c234_4 (rw_iload_n (pc' := 5) (z := a2) rfl rfl ?_)
  refine wp_of e234 c234_5 (xa_I (so := 0) (pc' := 6) hW g131590 sh_44 (by decide) (ty_44 _) (by omega) (by omega) rfl (fun b131591 b131592 => ?_))
  refine wp_of e234 c234_6 (rw_iconst (pc' := 7) rfl ?_)
  refine wp_of e234 c234_7 (rw_isubw (pc' := 8) rfl ?_)
  obtain ⟨v131593, e131594⟩ : ∃ x : Int, x = wq_w ((H r131588 (a2.toNat)) - 1) := ⟨_, rfl⟩
  rw [← e131594]
  have b131595 : -2147483648 ≤ v131593 ∧ v131593 ≤ 2147483647 := by
    rw [e131594]
    exact wI_w _
  refine wp_of e234 c234_8 (rw_aload_n (pc' := 9) (v := .ref r0) rfl rfl rfl ?_)
  refine wp_of e234 c234_9 (rw_aload_n (pc' := 10) (v := .ref r1) rfl rfl rfl ?_)
  refine wp_of e234 c234_10 (rw_iload_n (pc' := 11) (z := a2) rfl rfl ?_)
  refine wp_of e234 c234_11 (xc_V (pc' := 14) (r := r0) (as := [.ref r1, vI a2]) (st := [vI v131593]) (lm_9_386) rfl rfl (Nat.le_of_ble_eq_true rfl) hW g0 sh_42 (by decide) rfl (by decide) (s_228_m_said hW g0 g1 ⟨by omega, by omega⟩ qpp gpp) (fun R131596 T131597 H131598 p131599 => ?_))
  obtain ⟨e131600, e131602, z131603, e131601, b131604⟩ := p131599
  subst e131600
  subst e131601
  subst e131602
  show wp _ _ 234 14 [(0, .ref r0), (1, .ref r1), (2, vI a2)] [vI z131603, vI v131593] _ H _
  refine wp_of e234 c234_14 (rw_isubw (pc' := 15) rfl ?_)
  obtain ⟨v131605, e131606⟩ : ∃ x : Int, x = wq_w (v131593 - z131603) := ⟨_, rfl⟩
  rw [← e131606]
  have b131607 : -2147483648 ≤ v131605 ∧ v131605 ≤ 2147483647 := by
    rw [e131606]
    exact wI_w _
  refine wp_of e234 c234_15 (rw_istore_n (pc' := 16) (z := v131605) (L' := [(3, vI v131605), (0, .ref r0), (1, .ref r1), (2, vI a2)]) rfl rfl rfl ?_)
  refine wp_of e234 c234_16 (rw_iload_n (pc' := 17) (z := v131605) rfl rfl ?_)
  refine wp_of e234 c234_17 (rw_iconst (pc' := 18) rfl ?_)
  refine wp_of e234 c234_18 (rw_aload_n (pc' := 19) (v := .ref r0) rfl rfl rfl ?_)
  refine wp_of e234 c234_19 (xg_K (pc' := 22) lf_9_337 hW g0 sh_42 (by decide) (by decide) rfl qpp rfl ?_)
  refine wp_of e234 c234_22 (xg_I (pc' := 25) lf_9_222 hW gpp sh_54 (by decide) (by decide) ty_54_1 rfl rfl (fun b131608 b131609 => ?_))
  refine wp_of e234 c234_25 (xc_S (pc' := 28) (as := [vI v131605, vI 0, vI (H pp 1)]) (st := []) (lm_9_125) rfl rfl (Nat.le_of_ble_eq_true rfl) rfl (by decide) (s_186 hW ⟨by omega, by omega⟩ ⟨by omega, by omega⟩ ⟨by omega, by omega⟩) (fun R131610 T131611 H131612 p131613 => ?_))
  obtain ⟨e131614, e131616, z131618, e131615, b131619, p131617⟩ := p131613
  subst e131614
  subst e131615
  subst e131616
  show wp _ _ 234 28 [(3, vI v131605), (0, .ref r0), (1, .ref r1), (2, vI a2)] [vI z131618] _ H _
  refine wp_of e234 c234_28 (rw_if_eq (p1 := 33) (p2 := 31) (by decide) rfl ⟨by omega, by omega⟩ (fun c131620 => ?_) (fun c131620 => ?_))
  · refine wp_of e234 c234_33 (rw_iload_n (pc' := 34) (z := v131605) rfl rfl ?_)
    refine wp_of e234 c234_34 (rw_iconst (pc' := 35) rfl ?_)
    refine wp_of e234 c234_35 (rw_icmp_eq (p1 := 51) (p2 := 38) (by decide) rfl ⟨by omega, by omega⟩ ⟨by omega, by omega⟩ (fun c131621 => ?_) (fun c131621 => ?_))
    · refine wp_of e234 c234_51 (rw_iconst (pc' := 52) rfl ?_)
      refine wp_of e234 c234_52 (rw_goto (p1 := 56) (by decide) ?_)
      exact wp_ireturn e234 c234_56 rfl ⟨rfl, rfl, 1, rfl, ⟨by omega, by omega⟩⟩
    · refine wp_of e234 c234_38 (rw_iload_n (pc' := 39) (z := v131605) rfl rfl ?_)
      refine wp_of e234 c234_39 (rw_aload_n (pc' := 40) (v := .ref r0) rfl rfl rfl ?_)
      refine wp_of e234 c234_40 (xg_K (pc' := 43) lf_9_337 hW g0 sh_42 (by decide) (by decide) rfl qpp rfl ?_)
      refine wp_of e234 c234_43 (xg_I (pc' := 46) lf_9_222 hW gpp sh_54 (by decide) (by decide) ty_54_1 rfl rfl (fun b131622 b131623 => ?_))
      refine wp_of e234 c234_46 (rw_iconst (pc' := 47) rfl ?_)
      refine wp_of e234 c234_47 (rw_iaddw (pc' := 48) rfl ?_)
      obtain ⟨v131624, e131625⟩ : ∃ x : Int, x = wq_w ((H pp 1) + 1) := ⟨_, rfl⟩
      rw [← e131625]
      have b131626 : -2147483648 ≤ v131624 ∧ v131624 ≤ 2147483647 := by
        rw [e131625]
        exact wI_w _
      refine wp_of e234 c234_48 (rw_icmp_ne (p1 := 55) (p2 := 51) (by decide) rfl ⟨by omega, by omega⟩ ⟨by omega, by omega⟩ (fun c131627 => ?_) (fun c131627 => ?_))
      · refine wp_of e234 c234_55 (rw_iconst (pc' := 56) rfl ?_)
        exact wp_ireturn e234 c234_56 rfl ⟨rfl, rfl, 2, rfl, ⟨by omega, by omega⟩⟩
      · refine wp_of e234 c234_51 (rw_iconst (pc' := 52) rfl ?_)
        refine wp_of e234 c234_52 (rw_goto (p1 := 56) (by decide) ?_)
        exact wp_ireturn e234 c234_56 rfl ⟨rfl, rfl, 1, rfl, ⟨by omega, by omega⟩⟩
  · refine wp_of e234 c234_31 (rw_iconst (pc' := 32) rfl ?_)
    exact wp_ireturn e234 c234_32 rfl ⟨rfl, rfl, 0, rfl, ⟨by omega, by omega⟩⟩
/-! StrikeAwakeModel.bothAsleep([I)I -/
theorem e235 : wq_en 235 = some (9, 4, false, some FieldType.int) := rfl
theorem cg235_0 : mc_cd 235 0 = some (.iconst 0, 1) ∧ mc_cd 235 1 = some (.istore_n 2, 1) ∧ mc_cd 235 2 = some (.iconst 0, 1) ∧ mc_cd 235 3 = some (.istore_n 3, 1) ∧ mc_cd 235 4 = some (.iload_n 3, 1) ∧ mc_cd 235 5 = some (.aload_n 0, 1) ∧ mc_cd 235 6 = some (.getfield 337, 3) ∧ mc_cd 235 9 = some (.getfield 276, 3) := by decide +kernel
theorem c235_0 : mc_cd 235 0 = some (.iconst 0, 1) := cg235_0.1
theorem c235_1 : mc_cd 235 1 = some (.istore_n 2, 1) := cg235_0.2.1
theorem c235_2 : mc_cd 235 2 = some (.iconst 0, 1) := cg235_0.2.2.1
theorem c235_3 : mc_cd 235 3 = some (.istore_n 3, 1) := cg235_0.2.2.2.1
theorem c235_4 : mc_cd 235 4 = some (.iload_n 3, 1) := cg235_0.2.2.2.2.1
theorem c235_5 : mc_cd 235 5 = some (.aload_n 0, 1) := cg235_0.2.2.2.2.2.1
theorem c235_6 : mc_cd 235 6 = some (.getfield 337, 3) := cg235_0.2.2.2.2.2.2.1
theorem c235_9 : mc_cd 235 9 = some (.getfield 276, 3) := cg235_0.2.2.2.2.2.2.2
theorem cg235_12 : mc_cd 235 12 = some (.if_icmp .ge 71, 3) ∧ mc_cd 235 15 = some (.iload_n 2, 1) ∧ mc_cd 235 16 = some (.aload_n 0, 1) ∧ mc_cd 235 17 = some (.getfield 30, 3) ∧ mc_cd 235 20 = some (.bipush 40, 2) ∧ mc_cd 235 22 = some (.aload_n 0, 1) ∧ mc_cd 235 23 = some (.getfield 337, 3) ∧ mc_cd 235 26 = some (.getfield 282, 3) := by decide +kernel
theorem c235_12 : mc_cd 235 12 = some (.if_icmp .ge 71, 3) := cg235_12.1
theorem c235_15 : mc_cd 235 15 = some (.iload_n 2, 1) := cg235_12.2.1
theorem c235_16 : mc_cd 235 16 = some (.aload_n 0, 1) := cg235_12.2.2.1
theorem c235_17 : mc_cd 235 17 = some (.getfield 30, 3) := cg235_12.2.2.2.1
theorem c235_20 : mc_cd 235 20 = some (.bipush 40, 2) := cg235_12.2.2.2.2.1
theorem c235_22 : mc_cd 235 22 = some (.aload_n 0, 1) := cg235_12.2.2.2.2.2.1
theorem c235_23 : mc_cd 235 23 = some (.getfield 337, 3) := cg235_12.2.2.2.2.2.2.1
theorem c235_26 : mc_cd 235 26 = some (.getfield 282, 3) := cg235_12.2.2.2.2.2.2.2
theorem cg235_29 : mc_cd 235 29 = some (.iload_n 3, 1) ∧ mc_cd 235 30 = some (.iaload, 1) ∧ mc_cd 235 31 = some (.imul, 1) ∧ mc_cd 235 32 = some (.aload_n 1, 1) ∧ mc_cd 235 33 = some (.aload_n 0, 1) ∧ mc_cd 235 34 = some (.getfield 337, 3) ∧ mc_cd 235 37 = some (.getfield 282, 3) ∧ mc_cd 235 40 = some (.iload_n 3, 1) := by decide +kernel
theorem c235_29 : mc_cd 235 29 = some (.iload_n 3, 1) := cg235_29.1
theorem c235_30 : mc_cd 235 30 = some (.iaload, 1) := cg235_29.2.1
theorem c235_31 : mc_cd 235 31 = some (.imul, 1) := cg235_29.2.2.1
theorem c235_32 : mc_cd 235 32 = some (.aload_n 1, 1) := cg235_29.2.2.2.1
theorem c235_33 : mc_cd 235 33 = some (.aload_n 0, 1) := cg235_29.2.2.2.2.1
theorem c235_34 : mc_cd 235 34 = some (.getfield 337, 3) := cg235_29.2.2.2.2.2.1
theorem c235_37 : mc_cd 235 37 = some (.getfield 282, 3) := cg235_29.2.2.2.2.2.2.1
theorem c235_40 : mc_cd 235 40 = some (.iload_n 3, 1) := cg235_29.2.2.2.2.2.2.2
theorem cg235_41 : mc_cd 235 41 = some (.iaload, 1) ∧ mc_cd 235 42 = some (.iaload, 1) ∧ mc_cd 235 43 = some (.iadd, 1) ∧ mc_cd 235 44 = some (.iaload, 1) ∧ mc_cd 235 45 = some (.aload_n 0, 1) ∧ mc_cd 235 46 = some (.getfield 30, 3) ∧ mc_cd 235 49 = some (.bipush 40, 2) ∧ mc_cd 235 51 = some (.aload_n 0, 1) := by decide +kernel
theorem c235_41 : mc_cd 235 41 = some (.iaload, 1) := cg235_41.1
theorem c235_42 : mc_cd 235 42 = some (.iaload, 1) := cg235_41.2.1
theorem c235_43 : mc_cd 235 43 = some (.iadd, 1) := cg235_41.2.2.1
theorem c235_44 : mc_cd 235 44 = some (.iaload, 1) := cg235_41.2.2.2.1
theorem c235_45 : mc_cd 235 45 = some (.aload_n 0, 1) := cg235_41.2.2.2.2.1
theorem c235_46 : mc_cd 235 46 = some (.getfield 30, 3) := cg235_41.2.2.2.2.2.1
theorem c235_49 : mc_cd 235 49 = some (.bipush 40, 2) := cg235_41.2.2.2.2.2.2.1
theorem c235_51 : mc_cd 235 51 = some (.aload_n 0, 1) := cg235_41.2.2.2.2.2.2.2
theorem cg235_52 : mc_cd 235 52 = some (.getfield 337, 3) ∧ mc_cd 235 55 = some (.getfield 285, 3) ∧ mc_cd 235 58 = some (.iload_n 3, 1) ∧ mc_cd 235 59 = some (.iaload, 1) ∧ mc_cd 235 60 = some (.imul, 1) ∧ mc_cd 235 61 = some (.aload_n 1, 1) ∧ mc_cd 235 62 = some (.aload_n 0, 1) ∧ mc_cd 235 63 = some (.getfield 337, 3) := by decide +kernel
theorem c235_52 : mc_cd 235 52 = some (.getfield 337, 3) := cg235_52.1
theorem c235_55 : mc_cd 235 55 = some (.getfield 285, 3) := cg235_52.2.1
theorem c235_58 : mc_cd 235 58 = some (.iload_n 3, 1) := cg235_52.2.2.1
theorem c235_59 : mc_cd 235 59 = some (.iaload, 1) := cg235_52.2.2.2.1
theorem c235_60 : mc_cd 235 60 = some (.imul, 1) := cg235_52.2.2.2.2.1
theorem c235_61 : mc_cd 235 61 = some (.aload_n 1, 1) := cg235_52.2.2.2.2.2.1
theorem c235_62 : mc_cd 235 62 = some (.aload_n 0, 1) := cg235_52.2.2.2.2.2.2.1
theorem c235_63 : mc_cd 235 63 = some (.getfield 337, 3) := cg235_52.2.2.2.2.2.2.2
theorem cg235_66 : mc_cd 235 66 = some (.getfield 285, 3) ∧ mc_cd 235 69 = some (.iload_n 3, 1) ∧ mc_cd 235 70 = some (.iaload, 1) ∧ mc_cd 235 71 = some (.iaload, 1) ∧ mc_cd 235 72 = some (.iadd, 1) ∧ mc_cd 235 73 = some (.iaload, 1) ∧ mc_cd 235 74 = some (.iand, 1) ∧ mc_cd 235 75 = some (.ior, 1) := by decide +kernel
theorem c235_66 : mc_cd 235 66 = some (.getfield 285, 3) := cg235_66.1
theorem c235_69 : mc_cd 235 69 = some (.iload_n 3, 1) := cg235_66.2.1
theorem c235_70 : mc_cd 235 70 = some (.iaload, 1) := cg235_66.2.2.1
theorem c235_71 : mc_cd 235 71 = some (.iaload, 1) := cg235_66.2.2.2.1
theorem c235_72 : mc_cd 235 72 = some (.iadd, 1) := cg235_66.2.2.2.2.1
theorem c235_73 : mc_cd 235 73 = some (.iaload, 1) := cg235_66.2.2.2.2.2.1
theorem c235_74 : mc_cd 235 74 = some (.iand, 1) := cg235_66.2.2.2.2.2.2.1
theorem c235_75 : mc_cd 235 75 = some (.ior, 1) := cg235_66.2.2.2.2.2.2.2
theorem cg235_76 : mc_cd 235 76 = some (.istore_n 2, 1) ∧ mc_cd 235 77 = some (.iinc 3 1, 3) ∧ mc_cd 235 80 = some (.goto (-76), 3) ∧ mc_cd 235 83 = some (.iload_n 2, 1) ∧ mc_cd 235 84 = some (.ireturn, 1) := by decide +kernel
theorem c235_76 : mc_cd 235 76 = some (.istore_n 2, 1) := cg235_76.1
theorem c235_77 : mc_cd 235 77 = some (.iinc 3 1, 3) := cg235_76.2.1
theorem c235_80 : mc_cd 235 80 = some (.goto (-76), 3) := cg235_76.2.2.1
theorem c235_83 : mc_cd 235 83 = some (.iload_n 2, 1) := cg235_76.2.2.2.1
theorem c235_84 : mc_cd 235 84 = some (.ireturn, 1) := cg235_76.2.2.2.2
abbrev q_235_m_lot (r0 : Nat) (r1 : Nat) (pp : Nat) (T : wq_T) (H : wq_H) : Option Value → wq_T → wq_H → Prop := fun r T' H' => T = T' ∧ H = H' ∧ ∃ z : Int, some (vI z) = r ∧ ((-2147483648) ≤ z ∧ z ≤ 2147483647)
set_option maxHeartbeats 4000000 in
theorem s_235_m_lot {kt : Nat → Option mc_E} {T : wq_T} {H : wq_H} {r0 : Nat} {r1 : Nat} {pp : Nat} (hW : WT T H) (g0 : T.2.2.2 r0 = some 42) (g1 : T.2.2.2 r1 = some 51) (qpp : H r0 3 = (pp : Int)) (gpp : T.2.2.2 pp = some 54) : wpc kt 1 235 [.ref r0, .ref r1] T H (q_235_m_lot r0 r1 pp T H) := by
  refine wp_enter e235 (Nat.le_of_ble_eq_true rfl) rfl ?_
  show wp _ _ 235 0 [(0, .ref r0), (1, .ref r1)] [] _ H _
  refine wp_of e235 c235_0 (rw_iconst (pc' := 1) rfl ?_)
  refine wp_of e235 c235_1 (rw_istore_n (pc' := 2) (z := 0) (L' := [(2, vI 0), (0, .ref r0), (1, .ref r1)]) rfl rfl rfl ?_)
  refine wp_of e235 c235_2 (rw_iconst (pc' := 3) rfl ?_)
  refine wp_of e235 c235_3 (rw_istore_n (pc' := 4) (z := 0) (L' := [(3, vI 0), (2, vI 0), (0, .ref r0), (1, .ref r1)]) rfl rfl rfl ?_)
  have lp131933 : ∀ (n131934 : Nat) (v131936 : Int) (v131937 : Int), (0 ≤ v131936 ∧ v131936 ≤ 3) → ((-2147483648) ≤ v131937 ∧ v131937 ≤ 2147483647) → (3 - v131936).toNat = n131934 → wp kt 0 235 4 [(3, vI v131936), (2, vI v131937), (0, .ref r0), (1, .ref r1)] [] T H (q_235_m_lot r0 r1 pp T H) := by
    intro n131934
    induction n131934 using Nat.strongRecOn with
    | _ n131934 ih131935 =>
      intro v131936 v131937 b131940 b131941 m131942
      refine wp_of e235 c235_4 (rw_iload_n (pc' := 5) (z := v131936) rfl rfl ?_)
      refine wp_of e235 c235_5 (rw_aload_n (pc' := 6) (v := .ref r0) rfl rfl rfl ?_)
      refine wp_of e235 c235_6 (xg_K (pc' := 9) lf_9_337 hW g0 sh_42 (by decide) (by decide) rfl qpp rfl ?_)
      refine wp_of e235 c235_9 (xg_I (pc' := 12) lf_9_276 hW gpp sh_54 (by decide) (by decide) ty_54_4 rfl rfl (fun b131943 b131944 => ?_))
      refine wp_of e235 c235_12 (rw_icmp_ge (p1 := 83) (p2 := 15) (by decide) rfl ⟨by omega, by omega⟩ ⟨by omega, by omega⟩ (fun c131945 => ?_) (fun c131945 => ?_))
      · refine wp_of e235 c235_83 (rw_iload_n (pc' := 84) (z := v131937) rfl rfl ?_)
        exact wp_ireturn e235 c235_84 rfl ⟨rfl, rfl, v131937, rfl, ⟨by omega, by omega⟩⟩
      · refine wp_of e235 c235_15 (rw_iload_n (pc' := 16) (z := v131937) rfl rfl ?_)
        refine wp_of e235 c235_16 (rw_aload_n (pc' := 17) (v := .ref r0) rfl rfl rfl ?_)
        refine wp_of e235 c235_17 (xg_R (pc' := 20) lf_9_30 hW g0 sh_42 (by decide) (by decide) ty_42_24 rfl rfl (fun r131946 q131947 g131948 => ?_))
        refine wp_of e235 c235_20 (rw_bipush (pc' := 22) (z := 40) rfl (by decide) ?_)
        refine wp_of e235 c235_22 (rw_aload_n (pc' := 23) (v := .ref r0) rfl rfl rfl ?_)
        refine wp_of e235 c235_23 (xg_K (pc' := 26) lf_9_337 hW g0 sh_42 (by decide) (by decide) rfl qpp rfl ?_)
        refine wp_of e235 c235_26 (xg_R (pc' := 29) lf_9_282 hW gpp sh_54 (by decide) (by decide) ty_54_18 rfl rfl (fun r131949 q131950 g131951 => ?_))
        refine wp_of e235 c235_29 (rw_iload_n (pc' := 30) (z := v131936) rfl rfl ?_)
        refine wp_of e235 c235_30 (xa_I (so := 0) (pc' := 31) hW g131951 sh_64 (by decide) (ty_64 _) (by omega) (by omega) rfl (fun b131952 b131953 => ?_))
        refine wp_of e235 c235_31 (rw_imul (pc' := 32) rfl ?_)
        refine wp_of e235 c235_32 (rw_aload_n (pc' := 33) (v := .ref r1) rfl rfl rfl ?_)
        refine wp_of e235 c235_33 (rw_aload_n (pc' := 34) (v := .ref r0) rfl rfl rfl ?_)
        refine wp_of e235 c235_34 (xg_K (pc' := 37) lf_9_337 hW g0 sh_42 (by decide) (by decide) rfl qpp rfl ?_)
        refine wp_of e235 c235_37 (xg_K (pc' := 40) lf_9_282 hW gpp sh_54 (by decide) (by decide) rfl q131950 rfl ?_)
        refine wp_of e235 c235_40 (rw_iload_n (pc' := 41) (z := v131936) rfl rfl ?_)
        refine wp_of e235 c235_41 (xa_I (so := 0) (pc' := 42) hW g131951 sh_64 (by decide) (ty_64 _) (by omega) (by omega) rfl (fun b131954 b131955 => ?_))
        refine wp_of e235 c235_42 (xa_I (so := 0) (pc' := 43) hW g1 sh_51 (by decide) (ty_51 _) (by omega) (by omega) rfl (fun b131956 b131957 => ?_))
        refine wp_of e235 c235_43 (rw_iadd (pc' := 44) rfl ?_)
        refine wp_of e235 c235_44 (xa_I (so := 0) (pc' := 45) hW g131948 sh_48 (by decide) (ty_48 _) (by omega) (by omega) rfl (fun b131958 b131959 => ?_))
        refine wp_of e235 c235_45 (rw_aload_n (pc' := 46) (v := .ref r0) rfl rfl rfl ?_)
        refine wp_of e235 c235_46 (xg_K (pc' := 49) lf_9_30 hW g0 sh_42 (by decide) (by decide) rfl q131947 rfl ?_)
        refine wp_of e235 c235_49 (rw_bipush (pc' := 51) (z := 40) rfl (by decide) ?_)
        refine wp_of e235 c235_51 (rw_aload_n (pc' := 52) (v := .ref r0) rfl rfl rfl ?_)
        refine wp_of e235 c235_52 (xg_K (pc' := 55) lf_9_337 hW g0 sh_42 (by decide) (by decide) rfl qpp rfl ?_)
        refine wp_of e235 c235_55 (xg_R (pc' := 58) lf_9_285 hW gpp sh_54 (by decide) (by decide) ty_54_19 rfl rfl (fun r131960 q131961 g131962 => ?_))
        refine wp_of e235 c235_58 (rw_iload_n (pc' := 59) (z := v131936) rfl rfl ?_)
        refine wp_of e235 c235_59 (xa_I (so := 0) (pc' := 60) hW g131962 sh_65 (by decide) (ty_65 _) (by omega) (by omega) rfl (fun b131963 b131964 => ?_))
        refine wp_of e235 c235_60 (rw_imul (pc' := 61) rfl ?_)
        refine wp_of e235 c235_61 (rw_aload_n (pc' := 62) (v := .ref r1) rfl rfl rfl ?_)
        refine wp_of e235 c235_62 (rw_aload_n (pc' := 63) (v := .ref r0) rfl rfl rfl ?_)
        refine wp_of e235 c235_63 (xg_K (pc' := 66) lf_9_337 hW g0 sh_42 (by decide) (by decide) rfl qpp rfl ?_)
        refine wp_of e235 c235_66 (xg_K (pc' := 69) lf_9_285 hW gpp sh_54 (by decide) (by decide) rfl q131961 rfl ?_)
        refine wp_of e235 c235_69 (rw_iload_n (pc' := 70) (z := v131936) rfl rfl ?_)
        refine wp_of e235 c235_70 (xa_I (so := 0) (pc' := 71) hW g131962 sh_65 (by decide) (ty_65 _) (by omega) (by omega) rfl (fun b131965 b131966 => ?_))
        refine wp_of e235 c235_71 (xa_I (so := 0) (pc' := 72) hW g1 sh_51 (by decide) (ty_51 _) (by omega) (by omega) rfl (fun b131967 b131968 => ?_))
        refine wp_of e235 c235_72 (rw_iadd (pc' := 73) rfl ?_)
        refine wp_of e235 c235_73 (xa_I (so := 0) (pc' := 74) hW g131948 sh_48 (by decide) (ty_48 _) (by omega) (by omega) rfl (fun b131969 b131970 => ?_))
        refine wp_of e235 c235_74 (rw_iand (pc' := 75) rfl ?_)
        obtain ⟨v131971, e131972⟩ : ∃ x : Int, x = wq_and (H r131946 (((40 * (H r131949 (v131936.toNat))) + (H r1 ((H r131949 (v131936.toNat)).toNat))).toNat)) (H r131946 (((40 * (H r131960 (v131936.toNat))) + (H r1 ((H r131960 (v131936.toNat)).toNat))).toNat)) := ⟨_, rfl⟩
        rw [← e131972]
        have b131973 : -2147483648 ≤ v131971 ∧ v131971 ≤ 2147483647 := by
          rw [e131972]
          exact wI_and _ _
        refine wp_of e235 c235_75 (rw_ior (pc' := 76) rfl ?_)
        obtain ⟨v131974, e131975⟩ : ∃ x : Int, x = wq_or v131937 v131971 := ⟨_, rfl⟩
        rw [← e131975]
        have b131976 : -2147483648 ≤ v131974 ∧ v131974 ≤ 2147483647 := by
          rw [e131975]
          exact wI_or _ _
        refine wp_of e235 c235_76 (rw_istore_n (pc' := 77) (z := v131974) (L' := [(2, vI v131974), (3, vI v131936), (0, .ref r0), (1, .ref r1)]) rfl rfl rfl ?_)
        refine wp_of e235 c235_77 (rw_iinc (pc' := 80) (z := v131936) (L' := [(3, vI (v131936 + 1)), (2, vI v131974), (0, .ref r0), (1, .ref r1)]) rfl rfl rfl rfl ?_)
        refine wp_of e235 c235_80 (rw_goto (p1 := 4) (by decide) ?_)
        exact wp_lc (ks := [3, 2, 0, 1]) (wl_c rfl (wl_c rfl (wl_c rfl (wl_c rfl wl_n)))) rfl (by decide) (ih131935 _ (by omega) (v131936 + 1) v131974 ⟨by omega, by omega⟩ ⟨by omega, by omega⟩ rfl)
  exact wp_lc (ks := [3, 2, 0, 1]) (wl_c rfl (wl_c rfl (wl_c rfl (wl_c rfl wl_n)))) rfl (by decide) (lp131933 _ 0 0 ⟨by omega, by omega⟩ ⟨by omega, by omega⟩ rfl)

/-! StrikeAwakeModel.bothAsleep([I)I -/
abbrev q_235_m_said (r0 : Nat) (r1 : Nat) (pp : Nat) (T : wq_T) (H : wq_H) : Option Value → wq_T → wq_H → Prop := fun r T' H' => T = T' ∧ H = H' ∧ ∃ z : Int, some (vI z) = r ∧ ((-2147483648) ≤ z ∧ z ≤ 2147483647)
set_option maxHeartbeats 4000000 in
theorem s_235_m_said {kt : Nat → Option mc_E} {T : wq_T} {H : wq_H} {r0 : Nat} {r1 : Nat} {pp : Nat} (hW : WT T H) (g0 : T.2.2.2 r0 = some 42) (g1 : T.2.2.2 r1 = some 50) (qpp : H r0 3 = (pp : Int)) (gpp : T.2.2.2 pp = some 54) : wpc kt 1 235 [.ref r0, .ref r1] T H (q_235_m_said r0 r1 pp T H) := by
  refine wp_enter e235 (Nat.le_of_ble_eq_true rfl) rfl ?_
  show wp _ _ 235 0 [(0, .ref r0), (1, .ref r1)] [] _ H _
  refine wp_of e235 c235_0 (rw_iconst (pc' := 1) rfl ?_)
  refine wp_of e235 c235_1 (rw_istore_n (pc' := 2) (z := 0) (L' := [(2, vI 0), (0, .ref r0), (1, .ref r1)]) rfl rfl rfl ?_)
  refine wp_of e235 c235_2 (rw_iconst (pc' := 3) rfl ?_)
  refine wp_of e235 c235_3 (rw_istore_n (pc' := 4) (z := 0) (L' := [(3, vI 0), (2, vI 0), (0, .ref r0), (1, .ref r1)]) rfl rfl rfl ?_)
  have lp132282 : ∀ (n132283 : Nat) (v132285 : Int) (v132286 : Int), (0 ≤ v132285 ∧ v132285 ≤ 3) → ((-2147483648) ≤ v132286 ∧ v132286 ≤ 2147483647) → (3 - v132285).toNat = n132283 → wp kt 0 235 4 [(3, vI v132285), (2, vI v132286), (0, .ref r0), (1, .ref r1)] [] T H (q_235_m_said r0 r1 pp T H) := by
    intro n132283
    induction n132283 using Nat.strongRecOn with
    | _ n132283 ih132284 =>
      intro v132285 v132286 b132289 b132290 m132291
      refine wp_of e235 c235_4 (rw_iload_n (pc' := 5) (z := v132285) rfl rfl ?_)
      refine wp_of e235 c235_5 (rw_aload_n (pc' := 6) (v := .ref r0) rfl rfl rfl ?_)
      refine wp_of e235 c235_6 (xg_K (pc' := 9) lf_9_337 hW g0 sh_42 (by decide) (by decide) rfl qpp rfl ?_)
      refine wp_of e235 c235_9 (xg_I (pc' := 12) lf_9_276 hW gpp sh_54 (by decide) (by decide) ty_54_4 rfl rfl (fun b132292 b132293 => ?_))
      refine wp_of e235 c235_12 (rw_icmp_ge (p1 := 83) (p2 := 15) (by decide) rfl ⟨by omega, by omega⟩ ⟨by omega, by omega⟩ (fun c132294 => ?_) (fun c132294 => ?_))
      · refine wp_of e235 c235_83 (rw_iload_n (pc' := 84) (z := v132286) rfl rfl ?_)
        exact wp_ireturn e235 c235_84 rfl ⟨rfl, rfl, v132286, rfl, ⟨by omega, by omega⟩⟩
      · refine wp_of e235 c235_15 (rw_iload_n (pc' := 16) (z := v132286) rfl rfl ?_)
        refine wp_of e235 c235_16 (rw_aload_n (pc' := 17) (v := .ref r0) rfl rfl rfl ?_)
        refine wp_of e235 c235_17 (xg_R (pc' := 20) lf_9_30 hW g0 sh_42 (by decide) (by decide) ty_42_24 rfl rfl (fun r132295 q132296 g132297 => ?_))
        refine wp_of e235 c235_20 (rw_bipush (pc' := 22) (z := 40) rfl (by decide) ?_)
        refine wp_of e235 c235_22 (rw_aload_n (pc' := 23) (v := .ref r0) rfl rfl rfl ?_)
        refine wp_of e235 c235_23 (xg_K (pc' := 26) lf_9_337 hW g0 sh_42 (by decide) (by decide) rfl qpp rfl ?_)
        refine wp_of e235 c235_26 (xg_R (pc' := 29) lf_9_282 hW gpp sh_54 (by decide) (by decide) ty_54_18 rfl rfl (fun r132298 q132299 g132300 => ?_))
        refine wp_of e235 c235_29 (rw_iload_n (pc' := 30) (z := v132285) rfl rfl ?_)
        refine wp_of e235 c235_30 (xa_I (so := 0) (pc' := 31) hW g132300 sh_64 (by decide) (ty_64 _) (by omega) (by omega) rfl (fun b132301 b132302 => ?_))
        refine wp_of e235 c235_31 (rw_imul (pc' := 32) rfl ?_)
        refine wp_of e235 c235_32 (rw_aload_n (pc' := 33) (v := .ref r1) rfl rfl rfl ?_)
        refine wp_of e235 c235_33 (rw_aload_n (pc' := 34) (v := .ref r0) rfl rfl rfl ?_)
        refine wp_of e235 c235_34 (xg_K (pc' := 37) lf_9_337 hW g0 sh_42 (by decide) (by decide) rfl qpp rfl ?_)
        refine wp_of e235 c235_37 (xg_K (pc' := 40) lf_9_282 hW gpp sh_54 (by decide) (by decide) rfl q132299 rfl ?_)
        refine wp_of e235 c235_40 (rw_iload_n (pc' := 41) (z := v132285) rfl rfl ?_)
        refine wp_of e235 c235_41 (xa_I (so := 0) (pc' := 42) hW g132300 sh_64 (by decide) (ty_64 _) (by omega) (by omega) rfl (fun b132303 b132304 => ?_))
        refine wp_of e235 c235_42 (xa_I (so := 0) (pc' := 43) hW g1 sh_50 (by decide) (ty_50 _) (by omega) (by omega) rfl (fun b132305 b132306 => ?_))
        refine wp_of e235 c235_43 (rw_iadd (pc' := 44) rfl ?_)
        refine wp_of e235 c235_44 (xa_I (so := 0) (pc' := 45) hW g132297 sh_48 (by decide) (ty_48 _) (by omega) (by omega) rfl (fun b132307 b132308 => ?_))
        refine wp_of e235 c235_45 (rw_aload_n (pc' := 46) (v := .ref r0) rfl rfl rfl ?_)
        refine wp_of e235 c235_46 (xg_K (pc' := 49) lf_9_30 hW g0 sh_42 (by decide) (by decide) rfl q132296 rfl ?_)
        refine wp_of e235 c235_49 (rw_bipush (pc' := 51) (z := 40) rfl (by decide) ?_)
        refine wp_of e235 c235_51 (rw_aload_n (pc' := 52) (v := .ref r0) rfl rfl rfl ?_)
        refine wp_of e235 c235_52 (xg_K (pc' := 55) lf_9_337 hW g0 sh_42 (by decide) (by decide) rfl qpp rfl ?_)
        refine wp_of e235 c235_55 (xg_R (pc' := 58) lf_9_285 hW gpp sh_54 (by decide) (by decide) ty_54_19 rfl rfl (fun r132309 q132310 g132311 => ?_))
        refine wp_of e235 c235_58 (rw_iload_n (pc' := 59) (z := v132285) rfl rfl ?_)
        refine wp_of e235 c235_59 (xa_I (so := 0) (pc' := 60) hW g132311 sh_65 (by decide) (ty_65 _) (by omega) (by omega) rfl (fun b132312 b132313 => ?_))
        refine wp_of e235 c235_60 (rw_imul (pc' := 61) rfl ?_)
        refine wp_of e235 c235_61 (rw_aload_n (pc' := 62) (v := .ref r1) rfl rfl rfl ?_)
        refine wp_of e235 c235_62 (rw_aload_n (pc' := 63) (v := .ref r0) rfl rfl rfl ?_)
        refine wp_of e235 c235_63 (xg_K (pc' := 66) lf_9_337 hW g0 sh_42 (by decide) (by decide) rfl qpp rfl ?_)
        refine wp_of e235 c235_66 (xg_K (pc' := 69) lf_9_285 hW gpp sh_54 (by decide) (by decide) rfl q132310 rfl ?_)
        refine wp_of e235 c235_69 (rw_iload_n (pc' := 70) (z := v132285) rfl rfl ?_)
        refine wp_of e235 c235_70 (xa_I (so := 0) (pc' := 71) hW g132311 sh_65 (by decide) (ty_65 _) (by omega) (by omega) rfl (fun b132314 b132315 => ?_))
        refine wp_of e235 c235_71 (xa_I (so := 0) (pc' := 72) hW g1 sh_50 (by decide) (ty_50 _) (by omega) (by omega) rfl (fun b132316 b132317 => ?_))
        refine wp_of e235 c235_72 (rw_iadd (pc' := 73) rfl ?_)
        refine wp_of e235 c235_73 (xa_I (so := 0) (pc' := 74) hW g132297 sh_48 (by decide) (ty_48 _) (by omega) (by omega) rfl (fun b132318 b132319 => ?_))
        refine wp_of e235 c235_74 (rw_iand (pc' := 75) rfl ?_)
        obtain ⟨v132320, e132321⟩ : ∃ x : Int, x = wq_and (H r132295 (((40 * (H r132298 (v132285.toNat))) + (H r1 ((H r132298 (v132285.toNat)).toNat))).toNat)) (H r132295 (((40 * (H r132309 (v132285.toNat))) + (H r1 ((H r132309 (v132285.toNat)).toNat))).toNat)) := ⟨_, rfl⟩
        rw [← e132321]
        have b132322 : -2147483648 ≤ v132320 ∧ v132320 ≤ 2147483647 := by
          rw [e132321]
          exact wI_and _ _
        refine wp_of e235 c235_75 (rw_ior (pc' := 76) rfl ?_)
        obtain ⟨v132323, e132324⟩ : ∃ x : Int, x = wq_or v132286 v132320 := ⟨_, rfl⟩
        rw [← e132324]
        have b132325 : -2147483648 ≤ v132323 ∧ v132323 ≤ 2147483647 := by
          rw [e132324]
          exact wI_or _ _
        refine wp_of e235 c235_76 (rw_istore_n (pc' := 77) (z := v132323) (L' := [(2, vI v132323), (3, vI v132285), (0, .ref r0), (1, .ref r1)]) rfl rfl rfl ?_)
        refine wp_of e235 c235_77 (rw_iinc (pc' := 80) (z := v132285) (L' := [(3, vI (v132285 + 1)), (2, vI v132323), (0, .ref r0), (1, .ref r1)]) rfl rfl rfl rfl ?_)
        refine wp_of e235 c235_80 (rw_goto (p1 := 4) (by decide) ?_)
        exact wp_lc (ks := [3, 2, 0, 1]) (wl_c rfl (wl_c rfl (wl_c rfl (wl_c rfl wl_n)))) rfl (by decide) (ih132284 _ (by omega) (v132285 + 1) v132323 ⟨by omega, by omega⟩ ⟨by omega, by omega⟩ rfl)
  exact wp_lc (ks := [3, 2, 0, 1]) (wl_c rfl (wl_c rfl (wl_c rfl (wl_c rfl wl_n)))) rfl (by decide) (lp132282 _ 0 0 ⟨by omega, by omega⟩ ⟨by omega, by omega⟩ rfl)
/-! StrikeAwakeModel.wrongIn(I)I -/
theorem e233 : wq_en 233 = some (9, 2, false, some FieldType.int) := rfl
theorem cg233_0 : mc_cd 233 0 = some (.aload_n 0, 1) ∧ mc_cd 233 1 = some (.getfield 17, 3) ∧ mc_cd 233 4 = some (.iload_n 1, 1) ∧ mc_cd 233 5 = some (.iaload, 1) ∧ mc_cd 233 6 = some (.ifCond .le 19, 3) ∧ mc_cd 233 9 = some (.aload_n 0, 1) ∧ mc_cd 233 10 = some (.aload_n 0, 1) ∧ mc_cd 233 11 = some (.getfield 36, 3) := by decide +kernel
theorem c233_0 : mc_cd 233 0 = some (.aload_n 0, 1) := cg233_0.1
theorem c233_1 : mc_cd 233 1 = some (.getfield 17, 3) := cg233_0.2.1
theorem c233_4 : mc_cd 233 4 = some (.iload_n 1, 1) := cg233_0.2.2.1
theorem c233_5 : mc_cd 233 5 = some (.iaload, 1) := cg233_0.2.2.2.1
theorem c233_6 : mc_cd 233 6 = some (.ifCond .le 19, 3) := cg233_0.2.2.2.2.1
theorem c233_9 : mc_cd 233 9 = some (.aload_n 0, 1) := cg233_0.2.2.2.2.2.1
theorem c233_10 : mc_cd 233 10 = some (.aload_n 0, 1) := cg233_0.2.2.2.2.2.2.1
theorem c233_11 : mc_cd 233 11 = some (.getfield 36, 3) := cg233_0.2.2.2.2.2.2.2
theorem cg233_14 : mc_cd 233 14 = some (.iload_n 1, 1) ∧ mc_cd 233 15 = some (.invokevirtual 390, 3) ∧ mc_cd 233 18 = some (.ifCond .le 7, 3) ∧ mc_cd 233 21 = some (.iconst 1, 1) ∧ mc_cd 233 22 = some (.goto 23, 3) ∧ mc_cd 233 25 = some (.aload_n 0, 1) ∧ mc_cd 233 26 = some (.aload_n 0, 1) ∧ mc_cd 233 27 = some (.getfield 36, 3) := by decide +kernel
theorem c233_14 : mc_cd 233 14 = some (.iload_n 1, 1) := cg233_14.1
theorem c233_15 : mc_cd 233 15 = some (.invokevirtual 390, 3) := cg233_14.2.1
theorem c233_18 : mc_cd 233 18 = some (.ifCond .le 7, 3) := cg233_14.2.2.1
theorem c233_21 : mc_cd 233 21 = some (.iconst 1, 1) := cg233_14.2.2.2.1
theorem c233_22 : mc_cd 233 22 = some (.goto 23, 3) := cg233_14.2.2.2.2.1
theorem c233_25 : mc_cd 233 25 = some (.aload_n 0, 1) := cg233_14.2.2.2.2.2.1
theorem c233_26 : mc_cd 233 26 = some (.aload_n 0, 1) := cg233_14.2.2.2.2.2.2.1
theorem c233_27 : mc_cd 233 27 = some (.getfield 36, 3) := cg233_14.2.2.2.2.2.2.2
theorem cg233_30 : mc_cd 233 30 = some (.invokevirtual 393, 3) ∧ mc_cd 233 33 = some (.iload_n 1, 1) ∧ mc_cd 233 34 = some (.invokestatic 346, 3) ∧ mc_cd 233 37 = some (.ifCond .eq 7, 3) ∧ mc_cd 233 40 = some (.iconst 2, 1) ∧ mc_cd 233 41 = some (.goto 4, 3) ∧ mc_cd 233 44 = some (.iconst 0, 1) ∧ mc_cd 233 45 = some (.ireturn, 1) := by decide +kernel
theorem c233_30 : mc_cd 233 30 = some (.invokevirtual 393, 3) := cg233_30.1
theorem c233_33 : mc_cd 233 33 = some (.iload_n 1, 1) := cg233_30.2.1
theorem c233_34 : mc_cd 233 34 = some (.invokestatic 346, 3) := cg233_30.2.2.1
theorem c233_37 : mc_cd 233 37 = some (.ifCond .eq 7, 3) := cg233_30.2.2.2.1
theorem c233_40 : mc_cd 233 40 = some (.iconst 2, 1) := cg233_30.2.2.2.2.1
theorem c233_41 : mc_cd 233 41 = some (.goto 4, 3) := cg233_30.2.2.2.2.2.1
theorem c233_44 : mc_cd 233 44 = some (.iconst 0, 1) := cg233_30.2.2.2.2.2.2.1
theorem c233_45 : mc_cd 233 45 = some (.ireturn, 1) := cg233_30.2.2.2.2.2.2.2
abbrev q_233 (r0 : Nat) (a1 : Int) (pp : Nat) (T : wq_T) (H : wq_H) : Option Value → wq_T → wq_H → Prop := fun r T' H' => T = T' ∧ H = H' ∧ ∃ z : Int, some (vI z) = r ∧ (0 ≤ z ∧ z ≤ 2)
set_option maxHeartbeats 4000000 in
theorem s_233 {kt : Nat → Option mc_E} {T : wq_T} {H : wq_H} {r0 : Nat} {a1 : Int} {pp : Nat} (hW : WT T H) (g0 : T.2.2.2 r0 = some 42) (i1 : 0 ≤ a1 ∧ a1 ≤ 23) (qpp : H r0 3 = (pp : Int)) (gpp : T.2.2.2 pp = some 54) : wpc kt 4 233 [.ref r0, vI a1] T H (q_233 r0 a1 pp T H) := by
  refine wp_enter e233 (Nat.le_of_ble_eq_true rfl) rfl ?_
  show wp _ _ 233 0 [(0, .ref r0), (1, vI a1)] [] _ H _
  refine wp_of e233 c233_0 (rw_aload_n (pc' := 1) (v := .ref r0) rfl rfl rfl ?_)
  refine wp_of e233 c233_1 (xg_R (pc' := 4) lf_9_17 hW g0 sh_42 (by decide) (by decide) ty_42_20 rfl rfl (fun r132386 q132387 g132388 => ?_))
  refine wp_of e233 c233_4 (rw_iload_n (pc' := 5) (z := a1) rfl rfl ?_)
  refine wp_of e233 c233_5 (xa_I (so := 0) (pc' := 6) hW g132388 sh_44 (by decide) (ty_44 _) (by omega) (by omega) rfl (fun b132389 b132390 => ?_))
  refine wp_of e233 c233_6 (rw_if_le (p1 := 25) (p2 := 9) (by decide) rfl ⟨by omega, by omega⟩ (fun c132391 => ?_) (fun c132391 => ?_))
  · refine wp_of e233 c233_25 (rw_aload_n (pc' := 26) (v := .ref r0) rfl rfl rfl ?_)
    refine wp_of e233 c233_26 (rw_aload_n (pc' := 27) (v := .ref r0) rfl rfl rfl ?_)
    refine wp_of e233 c233_27 (xg_R (pc' := 30) lf_9_36 hW g0 sh_42 (by decide) (by decide) ty_42_26 rfl rfl (fun r132392 q132393 g132394 => ?_))
    refine wp_of e233 c233_30 (xc_V (pc' := 33) (r := r0) (as := [.ref r132392]) (st := []) (lm_9_393) rfl rfl (Nat.le_of_ble_eq_true rfl) hW g0 sh_42 (by decide) rfl (by decide) (s_235_m_said hW g0 g132394 qpp gpp) (fun R132395 T132396 H132397 p132398 => ?_))
    obtain ⟨e132399, e132401, z132402, e132400, b132403⟩ := p132398
    subst e132399
    subst e132400
    subst e132401
    show wp _ _ 233 33 [(0, .ref r0), (1, vI a1)] [vI z132402] _ H _
    refine wp_of e233 c233_33 (rw_iload_n (pc' := 34) (z := a1) rfl rfl ?_)
    refine wp_of e233 c233_34 (xc_S (pc' := 37) (as := [vI z132402, vI a1]) (st := []) (lm_9_346) rfl rfl (Nat.le_of_ble_eq_true rfl) rfl (by decide) (s_205 hW ⟨by omega, by omega⟩ ⟨by omega, by omega⟩) (fun R132404 T132405 H132406 p132407 => ?_))
    obtain ⟨e132408, e132410, z132411, e132409, b132412⟩ := p132407
    subst e132408
    subst e132409
    subst e132410
    show wp _ _ 233 37 [(0, .ref r0), (1, vI a1)] [vI z132411] _ H _
    refine wp_of e233 c233_37 (rw_if_eq (p1 := 44) (p2 := 40) (by decide) rfl ⟨by omega, by omega⟩ (fun c132413 => ?_) (fun c132413 => ?_))
    · refine wp_of e233 c233_44 (rw_iconst (pc' := 45) rfl ?_)
      exact wp_ireturn e233 c233_45 rfl ⟨rfl, rfl, 0, rfl, ⟨by omega, by omega⟩⟩
    · refine wp_of e233 c233_40 (rw_iconst (pc' := 41) rfl ?_)
      refine wp_of e233 c233_41 (rw_goto (p1 := 45) (by decide) ?_)
      exact wp_ireturn e233 c233_45 rfl ⟨rfl, rfl, 2, rfl, ⟨by omega, by omega⟩⟩
  · refine wp_of e233 c233_9 (rw_aload_n (pc' := 10) (v := .ref r0) rfl rfl rfl ?_)
    refine wp_of e233 c233_10 (rw_aload_n (pc' := 11) (v := .ref r0) rfl rfl rfl ?_)
    refine wp_of e233 c233_11 (xg_R (pc' := 14) lf_9_36 hW g0 sh_42 (by decide) (by decide) ty_42_26 rfl rfl (fun r132414 q132415 g132416 => ?_))
    refine wp_of e233 c233_14 (rw_iload_n (pc' := 15) (z := a1) rfl rfl ?_)
    refine wp_of e233 c233_15 (xc_V (pc' := 18) (r := r0) (as := [.ref r132414, vI a1]) (st := []) (lm_9_390) rfl rfl (Nat.le_of_ble_eq_true rfl) hW g0 sh_42 (by decide) rfl (by decide) (s_234_m_said hW g0 g132416 ⟨by omega, by omega⟩ qpp gpp) (fun R132417 T132418 H132419 p132420 => ?_))
    obtain ⟨e132421, e132423, z132424, e132422, b132425⟩ := p132420
    subst e132421
    subst e132422
    subst e132423
    show wp _ _ 233 18 [(0, .ref r0), (1, vI a1)] [vI z132424] _ H _
    refine wp_of e233 c233_18 (rw_if_le (p1 := 25) (p2 := 21) (by decide) rfl ⟨by omega, by omega⟩ (fun c132426 => ?_) (fun c132426 => ?_))
    · refine wp_of e233 c233_25 (rw_aload_n (pc' := 26) (v := .ref r0) rfl rfl rfl ?_)
      refine wp_of e233 c233_26 (rw_aload_n (pc' := 27) (v := .ref r0) rfl rfl rfl ?_)
      refine wp_of e233 c233_27 (xg_K (pc' := 30) lf_9_36 hW g0 sh_42 (by decide) (by decide) rfl q132415 rfl ?_)
      refine wp_of e233 c233_30 (xc_V (pc' := 33) (r := r0) (as := [.ref r132414]) (st := []) (lm_9_393) rfl rfl (Nat.le_of_ble_eq_true rfl) hW g0 sh_42 (by decide) rfl (by decide) (s_235_m_said hW g0 g132416 qpp gpp) (fun R132427 T132428 H132429 p132430 => ?_))
      obtain ⟨e132431, e132433, z132434, e132432, b132435⟩ := p132430
      subst e132431
      subst e132432
      subst e132433
      show wp _ _ 233 33 [(0, .ref r0), (1, vI a1)] [vI z132434] _ H _
      refine wp_of e233 c233_33 (rw_iload_n (pc' := 34) (z := a1) rfl rfl ?_)
      refine wp_of e233 c233_34 (xc_S (pc' := 37) (as := [vI z132434, vI a1]) (st := []) (lm_9_346) rfl rfl (Nat.le_of_ble_eq_true rfl) rfl (by decide) (s_205 hW ⟨by omega, by omega⟩ ⟨by omega, by omega⟩) (fun R132436 T132437 H132438 p132439 => ?_))
      obtain ⟨e132440, e132442, z132443, e132441, b132444⟩ := p132439
      subst e132440
      subst e132441
      subst e132442
      show wp _ _ 233 37 [(0, .ref r0), (1, vI a1)] [vI z132443] _ H _
      refine wp_of e233 c233_37 (rw_if_eq (p1 := 44) (p2 := 40) (by decide) rfl ⟨by omega, by omega⟩ (fun c132445 => ?_) (fun c132445 => ?_))
      · refine wp_of e233 c233_44 (rw_iconst (pc' := 45) rfl ?_)
        exact wp_ireturn e233 c233_45 rfl ⟨rfl, rfl, 0, rfl, ⟨by omega, by omega⟩⟩
      · refine wp_of e233 c233_40 (rw_iconst (pc' := 41) rfl ?_)
        refine wp_of e233 c233_41 (rw_goto (p1 := 45) (by decide) ?_)
        exact wp_ireturn e233 c233_45 rfl ⟨rfl, rfl, 2, rfl, ⟨by omega, by omega⟩⟩
    · refine wp_of e233 c233_21 (rw_iconst (pc' := 22) rfl ?_)
      refine wp_of e233 c233_22 (rw_goto (p1 := 45) (by decide) ?_)
      exact wp_ireturn e233 c233_45 rfl ⟨rfl, rfl, 1, rfl, ⟨by omega, by omega⟩⟩
/-! StrikeAwakeModel.firstWrong()I -/
theorem e232 : wq_en 232 = some (9, 2, false, some FieldType.int) := rfl
theorem cg232_0 : mc_cd 232 0 = some (.iconst 0, 1) ∧ mc_cd 232 1 = some (.istore_n 1, 1) ∧ mc_cd 232 2 = some (.iload_n 1, 1) ∧ mc_cd 232 3 = some (.aload_n 0, 1) ∧ mc_cd 232 4 = some (.getfield 337, 3) ∧ mc_cd 232 7 = some (.getfield 185, 3) ∧ mc_cd 232 10 = some (.if_icmp .ge 19, 3) ∧ mc_cd 232 13 = some (.aload_n 0, 1) := by decide +kernel
theorem c232_0 : mc_cd 232 0 = some (.iconst 0, 1) := cg232_0.1
theorem c232_1 : mc_cd 232 1 = some (.istore_n 1, 1) := cg232_0.2.1
theorem c232_2 : mc_cd 232 2 = some (.iload_n 1, 1) := cg232_0.2.2.1
theorem c232_3 : mc_cd 232 3 = some (.aload_n 0, 1) := cg232_0.2.2.2.1
theorem c232_4 : mc_cd 232 4 = some (.getfield 337, 3) := cg232_0.2.2.2.2.1
theorem c232_7 : mc_cd 232 7 = some (.getfield 185, 3) := cg232_0.2.2.2.2.2.1
theorem c232_10 : mc_cd 232 10 = some (.if_icmp .ge 19, 3) := cg232_0.2.2.2.2.2.2.1
theorem c232_13 : mc_cd 232 13 = some (.aload_n 0, 1) := cg232_0.2.2.2.2.2.2.2
theorem cg232_14 : mc_cd 232 14 = some (.iload_n 1, 1) ∧ mc_cd 232 15 = some (.invokevirtual 409, 3) ∧ mc_cd 232 18 = some (.ifCond .le 5, 3) ∧ mc_cd 232 21 = some (.iload_n 1, 1) ∧ mc_cd 232 22 = some (.ireturn, 1) ∧ mc_cd 232 23 = some (.iinc 1 1, 3) ∧ mc_cd 232 26 = some (.goto (-24), 3) ∧ mc_cd 232 29 = some (.bipush (-2), 2) := by decide +kernel
theorem c232_14 : mc_cd 232 14 = some (.iload_n 1, 1) := cg232_14.1
theorem c232_15 : mc_cd 232 15 = some (.invokevirtual 409, 3) := cg232_14.2.1
theorem c232_18 : mc_cd 232 18 = some (.ifCond .le 5, 3) := cg232_14.2.2.1
theorem c232_21 : mc_cd 232 21 = some (.iload_n 1, 1) := cg232_14.2.2.2.1
theorem c232_22 : mc_cd 232 22 = some (.ireturn, 1) := cg232_14.2.2.2.2.1
theorem c232_23 : mc_cd 232 23 = some (.iinc 1 1, 3) := cg232_14.2.2.2.2.2.1
theorem c232_26 : mc_cd 232 26 = some (.goto (-24), 3) := cg232_14.2.2.2.2.2.2.1
theorem c232_29 : mc_cd 232 29 = some (.bipush (-2), 2) := cg232_14.2.2.2.2.2.2.2
theorem c232_31 : mc_cd 232 31 = some (.ireturn, 1) := by decide +kernel
abbrev q_232 (r0 : Nat) (pp : Nat) (T : wq_T) (H : wq_H) : Option Value → wq_T → wq_H → Prop := fun r T' H' => T = T' ∧ H = H' ∧ ∃ z : Int, some (vI z) = r ∧ ((-2) ≤ z ∧ z ≤ 23) ∧ (z = -2 ∨ 0 ≤ z)
set_option maxHeartbeats 4000000 in
theorem s_232 {kt : Nat → Option mc_E} {T : wq_T} {H : wq_H} {r0 : Nat} {pp : Nat} (hW : WT T H) (g0 : T.2.2.2 r0 = some 42) (qpp : H r0 3 = (pp : Int)) (gpp : T.2.2.2 pp = some 54) : wpc kt 5 232 [.ref r0] T H (q_232 r0 pp T H) := by
  refine wp_enter e232 (Nat.le_of_ble_eq_true rfl) rfl ?_
  show wp _ _ 232 0 [(0, .ref r0)] [] _ H _
  refine wp_of e232 c232_0 (rw_iconst (pc' := 1) rfl ?_)
  refine wp_of e232 c232_1 (rw_istore_n (pc' := 2) (z := 0) (L' := [(1, vI 0), (0, .ref r0)]) rfl rfl rfl ?_)
  have lp132700 : ∀ (n132701 : Nat) (v132703 : Int), (0 ≤ v132703 ∧ v132703 ≤ 24) → (24 - v132703).toNat = n132701 → wp kt 4 232 2 [(1, vI v132703), (0, .ref r0)] [] T H (q_232 r0 pp T H) := by
    intro n132701
    induction n132701 using Nat.strongRecOn with
    | _ n132701 ih132702 =>
      intro v132703 b132706 m132707
      refine wp_of e232 c232_2 (rw_iload_n (pc' := 3) (z := v132703) rfl rfl ?_)
      refine wp_of e232 c232_3 (rw_aload_n (pc' := 4) (v := .ref r0) rfl rfl rfl ?_)
      refine wp_of e232 c232_4 (xg_K (pc' := 7) lf_9_337 hW g0 sh_42 (by decide) (by decide) rfl qpp rfl ?_)
      refine wp_of e232 c232_7 (xg_I (pc' := 10) lf_9_185 hW gpp sh_54 (by decide) (by decide) ty_54_0 rfl rfl (fun b132708 b132709 => ?_))
      refine wp_of e232 c232_10 (rw_icmp_ge (p1 := 29) (p2 := 13) (by decide) rfl ⟨by omega, by omega⟩ ⟨by omega, by omega⟩ (fun c132710 => ?_) (fun c132710 => ?_))
      · refine wp_of e232 c232_29 (rw_bipush (pc' := 31) (z := -2) rfl (by decide) ?_)
        exact wp_ireturn e232 c232_31 rfl ⟨rfl, rfl, -2, rfl, ⟨by omega, by omega⟩, by omega⟩
      · refine wp_of e232 c232_13 (rw_aload_n (pc' := 14) (v := .ref r0) rfl rfl rfl ?_)
        refine wp_of e232 c232_14 (rw_iload_n (pc' := 15) (z := v132703) rfl rfl ?_)
        refine wp_of e232 c232_15 (xc_V (pc' := 18) (r := r0) (as := [vI v132703]) (st := []) (lm_9_409) rfl rfl (Nat.le_of_ble_eq_true rfl) hW g0 sh_42 (by decide) rfl (by decide) (s_233 hW g0 ⟨by omega, by omega⟩ qpp gpp) (fun R132711 T132712 H132713 p132714 => ?_))
        obtain ⟨e132715, e132717, z132718, e132716, b132719⟩ := p132714
        subst e132715
        subst e132716
        subst e132717
        show wp _ _ 232 18 [(1, vI v132703), (0, .ref r0)] [vI z132718] _ H _
        refine wp_of e232 c232_18 (rw_if_le (p1 := 23) (p2 := 21) (by decide) rfl ⟨by omega, by omega⟩ (fun c132720 => ?_) (fun c132720 => ?_))
        · refine wp_of e232 c232_23 (rw_iinc (pc' := 26) (z := v132703) (L' := [(1, vI (v132703 + 1)), (0, .ref r0)]) rfl rfl rfl rfl ?_)
          refine wp_of e232 c232_26 (rw_goto (p1 := 2) (by decide) ?_)
          exact wp_lc (ks := [1, 0]) (wl_c rfl (wl_c rfl wl_n)) rfl (by decide) (ih132702 _ (by omega) (v132703 + 1) ⟨by omega, by omega⟩ rfl)
        · refine wp_of e232 c232_21 (rw_iload_n (pc' := 22) (z := v132703) rfl rfl ?_)
          exact wp_ireturn e232 c232_22 rfl ⟨rfl, rfl, v132703, rfl, ⟨by omega, by omega⟩, by omega⟩
  exact wp_lc (ks := [1, 0]) (wl_c rfl (wl_c rfl wl_n)) rfl (by decide) (lp132700 _ 0 ⟨by omega, by omega⟩ rfl)
/-! StrikeAwakeModel.judge()I -/
theorem e230 : wq_en 230 = some (9, 2, false, some FieldType.int) := rfl
theorem cg230_0 : mc_cd 230 0 = some (.aload_n 0, 1) ∧ mc_cd 230 1 = some (.iconst 0, 1) ∧ mc_cd 230 2 = some (.putfield 48, 3) ∧ mc_cd 230 5 = some (.aload_n 0, 1) ∧ mc_cd 230 6 = some (.invokevirtual 412, 3) ∧ mc_cd 230 9 = some (.istore_n 1, 1) ∧ mc_cd 230 10 = some (.iload_n 1, 1) ∧ mc_cd 230 11 = some (.ifCond .le 11, 3) := by decide +kernel
theorem c230_0 : mc_cd 230 0 = some (.aload_n 0, 1) := cg230_0.1
theorem c230_1 : mc_cd 230 1 = some (.iconst 0, 1) := cg230_0.2.1
theorem c230_2 : mc_cd 230 2 = some (.putfield 48, 3) := cg230_0.2.2.1
theorem c230_5 : mc_cd 230 5 = some (.aload_n 0, 1) := cg230_0.2.2.2.1
theorem c230_6 : mc_cd 230 6 = some (.invokevirtual 412, 3) := cg230_0.2.2.2.2.1
theorem c230_9 : mc_cd 230 9 = some (.istore_n 1, 1) := cg230_0.2.2.2.2.2.1
theorem c230_10 : mc_cd 230 10 = some (.iload_n 1, 1) := cg230_0.2.2.2.2.2.2.1
theorem c230_11 : mc_cd 230 11 = some (.ifCond .le 11, 3) := cg230_0.2.2.2.2.2.2.2
theorem cg230_14 : mc_cd 230 14 = some (.aload_n 0, 1) ∧ mc_cd 230 15 = some (.iload_n 1, 1) ∧ mc_cd 230 16 = some (.invokevirtual 54, 3) ∧ mc_cd 230 19 = some (.goto 11, 3) ∧ mc_cd 230 22 = some (.aload_n 0, 1) ∧ mc_cd 230 23 = some (.aload_n 0, 1) ∧ mc_cd 230 24 = some (.invokevirtual 415, 3) ∧ mc_cd 230 27 = some (.invokevirtual 58, 3) := by decide +kernel
theorem c230_14 : mc_cd 230 14 = some (.aload_n 0, 1) := cg230_14.1
theorem c230_15 : mc_cd 230 15 = some (.iload_n 1, 1) := cg230_14.2.1
theorem c230_16 : mc_cd 230 16 = some (.invokevirtual 54, 3) := cg230_14.2.2.1
theorem c230_19 : mc_cd 230 19 = some (.goto 11, 3) := cg230_14.2.2.2.1
theorem c230_22 : mc_cd 230 22 = some (.aload_n 0, 1) := cg230_14.2.2.2.2.1
theorem c230_23 : mc_cd 230 23 = some (.aload_n 0, 1) := cg230_14.2.2.2.2.2.1
theorem c230_24 : mc_cd 230 24 = some (.invokevirtual 415, 3) := cg230_14.2.2.2.2.2.2.1
theorem c230_27 : mc_cd 230 27 = some (.invokevirtual 58, 3) := cg230_14.2.2.2.2.2.2.2
theorem c230_30 : mc_cd 230 30 = some (.ireturn, 1) := by decide +kernel
abbrev q_230 (r0 : Nat) (T : wq_T) (H : wq_H) : Option Value → wq_T → wq_H → Prop := fun r T' H' => T = T' ∧ WT T H' ∧ wfr [(42, 0), (42, 1), (42, 2)] T H H' ∧ ∃ z : Int, some (vI z) = r ∧ ((-2147483648) ≤ z ∧ z ≤ 2147483647) ∧ (wKI H' r0 = 1)
set_option maxHeartbeats 4000000 in
theorem s_230 {kt : Nat → Option mc_E} {T : wq_T} {H : wq_H} {r0 : Nat} (hW : WT T H) (g0 : T.2.2.2 r0 = some 42) (p0 : wKI H r0 = 1) : wpc kt 6 230 [.ref r0] T H (q_230 r0 T H) := by
  refine wp_enter e230 (Nat.le_of_ble_eq_true rfl) rfl ?_
  have f0 : wfr [(42, 0), (42, 1), (42, 2)] T H H := wfr.rf
  show wp _ _ 230 0 [(0, .ref r0)] [] _ H _
  refine wp_of e230 c230_0 (rw_aload_n (pc' := 1) (v := .ref r0) rfl rfl rfl ?_)
  refine wp_of e230 c230_1 (rw_iconst (pc' := 2) rfl ?_)
  refine wp_of e230 c230_2 (xp_I (pc' := 5) lf_9_48 hW g0 sh_42 (by decide) (by decide) ty_42_0 rfl rfl (by omega) (by omega) ⟨by omega, by omega⟩ rfl (fun H132774 e132775 w132776 => ?_))
  have f132777 := f0.put' e132775 g0 rfl
  have k132778 : H132774 r0 0 = 0 := wq_u_s e132775
  refine wp_of e230 c230_5 (rw_aload_n (pc' := 6) (v := .ref r0) rfl rfl rfl ?_)
  refine wp_of e230 c230_6 (xc_V (pc' := 9) (r := r0) (as := []) (st := []) (lm_9_412) rfl rfl (Nat.le_of_ble_eq_true rfl) w132776 g0 sh_42 (by decide) rfl (by decide) (s_231 w132776 g0) (fun R132779 T132780 H132781 p132782 => ?_))
  obtain ⟨e132783, e132785, z132787, e132784, b132788, p132786⟩ := p132782
  subst e132783
  subst e132784
  subst e132785
  show wp _ _ 230 9 [(0, .ref r0)] [vI z132787] _ H132774 _
  refine wp_of e230 c230_9 (rw_istore_n (pc' := 10) (z := z132787) (L' := [(1, vI z132787), (0, .ref r0)]) rfl rfl rfl ?_)
  refine wp_of e230 c230_10 (rw_iload_n (pc' := 11) (z := z132787) rfl rfl ?_)
  refine wp_of e230 c230_11 (rw_if_le (p1 := 22) (p2 := 14) (by decide) rfl ⟨by omega, by omega⟩ (fun c132789 => ?_) (fun c132789 => ?_))
  · refine wp_of e230 c230_22 (rw_aload_n (pc' := 23) (v := .ref r0) rfl rfl rfl ?_)
    refine wp_of e230 c230_23 (rw_aload_n (pc' := 24) (v := .ref r0) rfl rfl rfl ?_)
    obtain ⟨r132790, q132791, g132792⟩ := (w132776.opt g0 (t' := 54) (n := 33) (j := 3) (p := 0) (q := 0) rfl (by decide) rfl).resolve_left (by omega)
    refine wp_of e230 c230_24 (xc_V (pc' := 27) (r := r0) (as := []) (st := [.ref r0]) (lm_9_415) rfl rfl (Nat.le_of_ble_eq_true rfl) w132776 g0 sh_42 (by decide) rfl (by decide) (s_232 w132776 g0 q132791 g132792) (fun R132793 T132794 H132795 p132796 => ?_))
    obtain ⟨e132797, e132799, z132801, e132798, b132802, p132800⟩ := p132796
    subst e132797
    subst e132798
    subst e132799
    show wp _ _ 230 27 [(1, vI z132787), (0, .ref r0)] [vI z132801, .ref r0] _ H132774 _
    refine wp_of e230 c230_27 (xc_V (pc' := 30) (r := r0) (as := [vI z132801]) (st := []) (lm_9_58) rfl rfl (Nat.le_of_ble_eq_true rfl) w132776 g0 sh_42 (by decide) rfl (by decide) (s_209 w132776 g0 ⟨by omega, by omega⟩) (fun R132803 T132804 H132805 p132806 => ?_))
    obtain ⟨e132807, w132809, f132810, z132811, e132808, b132812⟩ := p132806
    subst e132807
    subst e132808
    have f132813 := f132777.tr f132810 rfl
    show wp _ _ 230 30 [(1, vI z132787), (0, .ref r0)] [vI z132811] _ H132805 _
    have k132814 : wKI H132805 r0 = wKI H r0 := ((wKI_fr w132776 g0 f132810 rfl).trans (wKI_fr hW g0 ((wfr.rf (l := [(42, 0)])).put' e132775 g0 rfl) rfl))
    exact wp_ireturn e230 c230_30 rfl ⟨rfl, w132809, f132813, z132811, rfl, ⟨by omega, by omega⟩, by omega⟩
  · refine wp_of e230 c230_14 (rw_aload_n (pc' := 15) (v := .ref r0) rfl rfl rfl ?_)
    refine wp_of e230 c230_15 (rw_iload_n (pc' := 16) (z := z132787) rfl rfl ?_)
    refine wp_of e230 c230_16 (xc_V (pc' := 19) (r := r0) (as := [vI z132787]) (st := []) (lm_9_54) rfl rfl (Nat.le_of_ble_eq_true rfl) w132776 g0 sh_42 (by decide) rfl (by decide) (s_170 w132776 g0 ⟨by omega, by omega⟩) (fun R132815 T132816 H132817 p132818 => ?_))
    obtain ⟨e132819, w132821, f132822, z132823, e132820, b132824⟩ := p132818
    subst e132819
    subst e132820
    have f132825 := f132777.tr f132822 rfl
    show wp _ _ 230 19 [(1, vI z132787), (0, .ref r0)] [vI z132823] _ H132817 _
    refine wp_of e230 c230_19 (rw_goto (p1 := 30) (by decide) ?_)
    have k132826 : wKI H132817 r0 = wKI H r0 := ((wKI_fr w132776 g0 f132822 rfl).trans (wKI_fr hW g0 ((wfr.rf (l := [(42, 0)])).put' e132775 g0 rfl) rfl))
    exact wp_ireturn e230 c230_30 rfl ⟨rfl, w132821, f132825, z132823, rfl, ⟨by omega, by omega⟩, by omega⟩
/-! StrikeAwakeModel.why()I -/
theorem e236 : wq_en 236 = some (9, 3, false, some FieldType.int) := rfl
theorem cg236_0 : mc_cd 236 0 = some (.aload_n 0, 1) ∧ mc_cd 236 1 = some (.iconst 0, 1) ∧ mc_cd 236 2 = some (.putfield 48, 3) ∧ mc_cd 236 5 = some (.aload_n 0, 1) ∧ mc_cd 236 6 = some (.invokevirtual 412, 3) ∧ mc_cd 236 9 = some (.istore_n 1, 1) ∧ mc_cd 236 10 = some (.iload_n 1, 1) ∧ mc_cd 236 11 = some (.ifCond .le 9, 3) := by decide +kernel
theorem c236_0 : mc_cd 236 0 = some (.aload_n 0, 1) := cg236_0.1
theorem c236_1 : mc_cd 236 1 = some (.iconst 0, 1) := cg236_0.2.1
theorem c236_2 : mc_cd 236 2 = some (.putfield 48, 3) := cg236_0.2.2.1
theorem c236_5 : mc_cd 236 5 = some (.aload_n 0, 1) := cg236_0.2.2.2.1
theorem c236_6 : mc_cd 236 6 = some (.invokevirtual 412, 3) := cg236_0.2.2.2.2.1
theorem c236_9 : mc_cd 236 9 = some (.istore_n 1, 1) := cg236_0.2.2.2.2.2.1
theorem c236_10 : mc_cd 236 10 = some (.iload_n 1, 1) := cg236_0.2.2.2.2.2.2.1
theorem c236_11 : mc_cd 236 11 = some (.ifCond .le 9, 3) := cg236_0.2.2.2.2.2.2.2
theorem cg236_14 : mc_cd 236 14 = some (.aload_n 0, 1) ∧ mc_cd 236 15 = some (.iload_n 1, 1) ∧ mc_cd 236 16 = some (.invokevirtual 54, 3) ∧ mc_cd 236 19 = some (.ireturn, 1) ∧ mc_cd 236 20 = some (.aload_n 0, 1) ∧ mc_cd 236 21 = some (.invokevirtual 415, 3) ∧ mc_cd 236 24 = some (.istore_n 2, 1) ∧ mc_cd 236 25 = some (.aload_n 0, 1) := by decide +kernel
theorem c236_14 : mc_cd 236 14 = some (.aload_n 0, 1) := cg236_14.1
theorem c236_15 : mc_cd 236 15 = some (.iload_n 1, 1) := cg236_14.2.1
theorem c236_16 : mc_cd 236 16 = some (.invokevirtual 54, 3) := cg236_14.2.2.1
theorem c236_19 : mc_cd 236 19 = some (.ireturn, 1) := cg236_14.2.2.2.1
theorem c236_20 : mc_cd 236 20 = some (.aload_n 0, 1) := cg236_14.2.2.2.2.1
theorem c236_21 : mc_cd 236 21 = some (.invokevirtual 415, 3) := cg236_14.2.2.2.2.2.1
theorem c236_24 : mc_cd 236 24 = some (.istore_n 2, 1) := cg236_14.2.2.2.2.2.2.1
theorem c236_25 : mc_cd 236 25 = some (.aload_n 0, 1) := cg236_14.2.2.2.2.2.2.2
theorem cg236_26 : mc_cd 236 26 = some (.iload_n 2, 1) ∧ mc_cd 236 27 = some (.bipush (-2), 2) ∧ mc_cd 236 29 = some (.if_icmp .ne 7, 3) ∧ mc_cd 236 32 = some (.iconst 0, 1) ∧ mc_cd 236 33 = some (.goto 8, 3) ∧ mc_cd 236 36 = some (.aload_n 0, 1) ∧ mc_cd 236 37 = some (.iload_n 2, 1) ∧ mc_cd 236 38 = some (.invokevirtual 409, 3) := by decide +kernel
theorem c236_26 : mc_cd 236 26 = some (.iload_n 2, 1) := cg236_26.1
theorem c236_27 : mc_cd 236 27 = some (.bipush (-2), 2) := cg236_26.2.1
theorem c236_29 : mc_cd 236 29 = some (.if_icmp .ne 7, 3) := cg236_26.2.2.1
theorem c236_32 : mc_cd 236 32 = some (.iconst 0, 1) := cg236_26.2.2.2.1
theorem c236_33 : mc_cd 236 33 = some (.goto 8, 3) := cg236_26.2.2.2.2.1
theorem c236_36 : mc_cd 236 36 = some (.aload_n 0, 1) := cg236_26.2.2.2.2.2.1
theorem c236_37 : mc_cd 236 37 = some (.iload_n 2, 1) := cg236_26.2.2.2.2.2.2.1
theorem c236_38 : mc_cd 236 38 = some (.invokevirtual 409, 3) := cg236_26.2.2.2.2.2.2.2
theorem cg236_41 : mc_cd 236 41 = some (.invokevirtual 58, 3) ∧ mc_cd 236 44 = some (.ireturn, 1) := by decide +kernel
theorem c236_41 : mc_cd 236 41 = some (.invokevirtual 58, 3) := cg236_41.1
theorem c236_44 : mc_cd 236 44 = some (.ireturn, 1) := cg236_41.2
abbrev q_236 (r0 : Nat) (T : wq_T) (H : wq_H) : Option Value → wq_T → wq_H → Prop := fun r T' H' => T = T' ∧ WT T H' ∧ wfr [(42, 0), (42, 1), (42, 2)] T H H' ∧ ∃ z : Int, some (vI z) = r ∧ ((-2147483648) ≤ z ∧ z ≤ 2147483647) ∧ (wKI H' r0 = 1)
set_option maxHeartbeats 4000000 in
theorem s_236 {kt : Nat → Option mc_E} {T : wq_T} {H : wq_H} {r0 : Nat} (hW : WT T H) (g0 : T.2.2.2 r0 = some 42) (p0 : wKI H r0 = 1) : wpc kt 6 236 [.ref r0] T H (q_236 r0 T H) := by
  refine wp_enter e236 (Nat.le_of_ble_eq_true rfl) rfl ?_
  have f0 : wfr [(42, 0), (42, 1), (42, 2)] T H H := wfr.rf
  show wp _ _ 236 0 [(0, .ref r0)] [] _ H _
  refine wp_of e236 c236_0 (rw_aload_n (pc' := 1) (v := .ref r0) rfl rfl rfl ?_)
  refine wp_of e236 c236_1 (rw_iconst (pc' := 2) rfl ?_)
  refine wp_of e236 c236_2 (xp_I (pc' := 5) lf_9_48 hW g0 sh_42 (by decide) (by decide) ty_42_0 rfl rfl (by omega) (by omega) ⟨by omega, by omega⟩ rfl (fun H132902 e132903 w132904 => ?_))
  have f132905 := f0.put' e132903 g0 rfl
  have k132906 : H132902 r0 0 = 0 := wq_u_s e132903
  refine wp_of e236 c236_5 (rw_aload_n (pc' := 6) (v := .ref r0) rfl rfl rfl ?_)
  refine wp_of e236 c236_6 (xc_V (pc' := 9) (r := r0) (as := []) (st := []) (lm_9_412) rfl rfl (Nat.le_of_ble_eq_true rfl) w132904 g0 sh_42 (by decide) rfl (by decide) (s_231 w132904 g0) (fun R132907 T132908 H132909 p132910 => ?_))
  obtain ⟨e132911, e132913, z132915, e132912, b132916, p132914⟩ := p132910
  subst e132911
  subst e132912
  subst e132913
  show wp _ _ 236 9 [(0, .ref r0)] [vI z132915] _ H132902 _
  refine wp_of e236 c236_9 (rw_istore_n (pc' := 10) (z := z132915) (L' := [(1, vI z132915), (0, .ref r0)]) rfl rfl rfl ?_)
  refine wp_of e236 c236_10 (rw_iload_n (pc' := 11) (z := z132915) rfl rfl ?_)
  refine wp_of e236 c236_11 (rw_if_le (p1 := 20) (p2 := 14) (by decide) rfl ⟨by omega, by omega⟩ (fun c132917 => ?_) (fun c132917 => ?_))
  · refine wp_of e236 c236_20 (rw_aload_n (pc' := 21) (v := .ref r0) rfl rfl rfl ?_)
    obtain ⟨r132918, q132919, g132920⟩ := (w132904.opt g0 (t' := 54) (n := 33) (j := 3) (p := 0) (q := 0) rfl (by decide) rfl).resolve_left (by omega)
    refine wp_of e236 c236_21 (xc_V (pc' := 24) (r := r0) (as := []) (st := []) (lm_9_415) rfl rfl (Nat.le_of_ble_eq_true rfl) w132904 g0 sh_42 (by decide) rfl (by decide) (s_232 w132904 g0 q132919 g132920) (fun R132921 T132922 H132923 p132924 => ?_))
    obtain ⟨e132925, e132927, z132929, e132926, b132930, p132928⟩ := p132924
    subst e132925
    subst e132926
    subst e132927
    show wp _ _ 236 24 [(1, vI z132915), (0, .ref r0)] [vI z132929] _ H132902 _
    refine wp_of e236 c236_24 (rw_istore_n (pc' := 25) (z := z132929) (L' := [(2, vI z132929), (1, vI z132915), (0, .ref r0)]) rfl rfl rfl ?_)
    refine wp_of e236 c236_25 (rw_aload_n (pc' := 26) (v := .ref r0) rfl rfl rfl ?_)
    refine wp_of e236 c236_26 (rw_iload_n (pc' := 27) (z := z132929) rfl rfl ?_)
    refine wp_of e236 c236_27 (rw_bipush (pc' := 29) (z := -2) rfl (by decide) ?_)
    refine wp_of e236 c236_29 (rw_icmp_ne (p1 := 36) (p2 := 32) (by decide) rfl ⟨by omega, by omega⟩ ⟨by omega, by omega⟩ (fun c132931 => ?_) (fun c132931 => ?_))
    · refine wp_of e236 c236_36 (rw_aload_n (pc' := 37) (v := .ref r0) rfl rfl rfl ?_)
      refine wp_of e236 c236_37 (rw_iload_n (pc' := 38) (z := z132929) rfl rfl ?_)
      refine wp_of e236 c236_38 (xc_V (pc' := 41) (r := r0) (as := [vI z132929]) (st := [.ref r0]) (lm_9_409) rfl rfl (Nat.le_of_ble_eq_true rfl) w132904 g0 sh_42 (by decide) rfl (by decide) (s_233 w132904 g0 ⟨by omega, by omega⟩ q132919 g132920) (fun R132932 T132933 H132934 p132935 => ?_))
      obtain ⟨e132936, e132938, z132939, e132937, b132940⟩ := p132935
      subst e132936
      subst e132937
      subst e132938
      show wp _ _ 236 41 [(2, vI z132929), (1, vI z132915), (0, .ref r0)] [vI z132939, .ref r0] _ H132902 _
      refine wp_of e236 c236_41 (xc_V (pc' := 44) (r := r0) (as := [vI z132939]) (st := []) (lm_9_58) rfl rfl (Nat.le_of_ble_eq_true rfl) w132904 g0 sh_42 (by decide) rfl (by decide) (s_209 w132904 g0 ⟨by omega, by omega⟩) (fun R132941 T132942 H132943 p132944 => ?_))
      obtain ⟨e132945, w132947, f132948, z132949, e132946, b132950⟩ := p132944
      subst e132945
      subst e132946
      have f132951 := f132905.tr f132948 rfl
      show wp _ _ 236 44 [(2, vI z132929), (1, vI z132915), (0, .ref r0)] [vI z132949] _ H132943 _
      have k132952 : wKI H132943 r0 = wKI H r0 := ((wKI_fr w132904 g0 f132948 rfl).trans (wKI_fr hW g0 ((wfr.rf (l := [(42, 0)])).put' e132903 g0 rfl) rfl))
      exact wp_ireturn e236 c236_44 rfl ⟨rfl, w132947, f132951, z132949, rfl, ⟨by omega, by omega⟩, by omega⟩
    · refine wp_of e236 c236_32 (rw_iconst (pc' := 33) rfl ?_)
      refine wp_of e236 c236_33 (rw_goto (p1 := 41) (by decide) ?_)
      refine wp_of e236 c236_41 (xc_V (pc' := 44) (r := r0) (as := [vI 0]) (st := []) (lm_9_58) rfl rfl (Nat.le_of_ble_eq_true rfl) w132904 g0 sh_42 (by decide) rfl (by decide) (s_209 w132904 g0 ⟨by omega, by omega⟩) (fun R132953 T132954 H132955 p132956 => ?_))
      obtain ⟨e132957, w132959, f132960, z132961, e132958, b132962⟩ := p132956
      subst e132957
      subst e132958
      have f132963 := f132905.tr f132960 rfl
      show wp _ _ 236 44 [(2, vI z132929), (1, vI z132915), (0, .ref r0)] [vI z132961] _ H132955 _
      have k132964 : wKI H132955 r0 = wKI H r0 := ((wKI_fr w132904 g0 f132960 rfl).trans (wKI_fr hW g0 ((wfr.rf (l := [(42, 0)])).put' e132903 g0 rfl) rfl))
      exact wp_ireturn e236 c236_44 rfl ⟨rfl, w132959, f132963, z132961, rfl, ⟨by omega, by omega⟩, by omega⟩
  · refine wp_of e236 c236_14 (rw_aload_n (pc' := 15) (v := .ref r0) rfl rfl rfl ?_)
    refine wp_of e236 c236_15 (rw_iload_n (pc' := 16) (z := z132915) rfl rfl ?_)
    refine wp_of e236 c236_16 (xc_V (pc' := 19) (r := r0) (as := [vI z132915]) (st := []) (lm_9_54) rfl rfl (Nat.le_of_ble_eq_true rfl) w132904 g0 sh_42 (by decide) rfl (by decide) (s_170 w132904 g0 ⟨by omega, by omega⟩) (fun R132965 T132966 H132967 p132968 => ?_))
    obtain ⟨e132969, w132971, f132972, z132973, e132970, b132974⟩ := p132968
    subst e132969
    subst e132970
    have f132975 := f132905.tr f132972 rfl
    show wp _ _ 236 19 [(1, vI z132915), (0, .ref r0)] [vI z132973] _ H132967 _
    have k132976 : wKI H132967 r0 = wKI H r0 := ((wKI_fr w132904 g0 f132972 rfl).trans (wKI_fr hW g0 ((wfr.rf (l := [(42, 0)])).put' e132903 g0 rfl) rfl))
    exact wp_ireturn e236 c236_19 rfl ⟨rfl, w132971, f132975, z132973, rfl, ⟨by omega, by omega⟩, by omega⟩
/-! StrikeAwakeModel.barredAt([II)I -/
theorem e239 : wq_en 239 = some (9, 6, false, some FieldType.int) := rfl
theorem cg239_0 : mc_cd 239 0 = some (.iconst 0, 1) ∧ mc_cd 239 1 = some (.istore_n 3, 1) ∧ mc_cd 239 2 = some (.iconst 0, 1) ∧ mc_cd 239 3 = some (.istore 4, 2) ∧ mc_cd 239 5 = some (.iload 4, 2) ∧ mc_cd 239 7 = some (.aload_n 0, 1) ∧ mc_cd 239 8 = some (.getfield 337, 3) ∧ mc_cd 239 11 = some (.getfield 185, 3) := by decide +kernel
theorem c239_0 : mc_cd 239 0 = some (.iconst 0, 1) := cg239_0.1
theorem c239_1 : mc_cd 239 1 = some (.istore_n 3, 1) := cg239_0.2.1
theorem c239_2 : mc_cd 239 2 = some (.iconst 0, 1) := cg239_0.2.2.1
theorem c239_3 : mc_cd 239 3 = some (.istore 4, 2) := cg239_0.2.2.2.1
theorem c239_5 : mc_cd 239 5 = some (.iload 4, 2) := cg239_0.2.2.2.2.1
theorem c239_7 : mc_cd 239 7 = some (.aload_n 0, 1) := cg239_0.2.2.2.2.2.1
theorem c239_8 : mc_cd 239 8 = some (.getfield 337, 3) := cg239_0.2.2.2.2.2.2.1
theorem c239_11 : mc_cd 239 11 = some (.getfield 185, 3) := cg239_0.2.2.2.2.2.2.2
theorem cg239_14 : mc_cd 239 14 = some (.if_icmp .ge 65, 3) ∧ mc_cd 239 17 = some (.iload_n 2, 1) ∧ mc_cd 239 18 = some (.iload 4, 2) ∧ mc_cd 239 20 = some (.invokestatic 346, 3) ∧ mc_cd 239 23 = some (.ifCond .eq 50, 3) ∧ mc_cd 239 26 = some (.aload_n 0, 1) ∧ mc_cd 239 27 = some (.getfield 17, 3) ∧ mc_cd 239 30 = some (.iload 4, 2) := by decide +kernel
theorem c239_14 : mc_cd 239 14 = some (.if_icmp .ge 65, 3) := cg239_14.1
theorem c239_17 : mc_cd 239 17 = some (.iload_n 2, 1) := cg239_14.2.1
theorem c239_18 : mc_cd 239 18 = some (.iload 4, 2) := cg239_14.2.2.1
theorem c239_20 : mc_cd 239 20 = some (.invokestatic 346, 3) := cg239_14.2.2.2.1
theorem c239_23 : mc_cd 239 23 = some (.ifCond .eq 50, 3) := cg239_14.2.2.2.2.1
theorem c239_26 : mc_cd 239 26 = some (.aload_n 0, 1) := cg239_14.2.2.2.2.2.1
theorem c239_27 : mc_cd 239 27 = some (.getfield 17, 3) := cg239_14.2.2.2.2.2.2.1
theorem c239_30 : mc_cd 239 30 = some (.iload 4, 2) := cg239_14.2.2.2.2.2.2.2
theorem cg239_32 : mc_cd 239 32 = some (.iaload, 1) ∧ mc_cd 239 33 = some (.ifCond .ne 6, 3) ∧ mc_cd 239 36 = some (.goto 37, 3) ∧ mc_cd 239 39 = some (.aload_n 0, 1) ∧ mc_cd 239 40 = some (.aload_n 1, 1) ∧ mc_cd 239 41 = some (.iload 4, 2) ∧ mc_cd 239 43 = some (.invokevirtual 390, 3) ∧ mc_cd 239 46 = some (.istore 5, 2) := by decide +kernel
theorem c239_32 : mc_cd 239 32 = some (.iaload, 1) := cg239_32.1
theorem c239_33 : mc_cd 239 33 = some (.ifCond .ne 6, 3) := cg239_32.2.1
theorem c239_36 : mc_cd 239 36 = some (.goto 37, 3) := cg239_32.2.2.1
theorem c239_39 : mc_cd 239 39 = some (.aload_n 0, 1) := cg239_32.2.2.2.1
theorem c239_40 : mc_cd 239 40 = some (.aload_n 1, 1) := cg239_32.2.2.2.2.1
theorem c239_41 : mc_cd 239 41 = some (.iload 4, 2) := cg239_32.2.2.2.2.2.1
theorem c239_43 : mc_cd 239 43 = some (.invokevirtual 390, 3) := cg239_32.2.2.2.2.2.2.1
theorem c239_46 : mc_cd 239 46 = some (.istore 5, 2) := cg239_32.2.2.2.2.2.2.2
theorem cg239_48 : mc_cd 239 48 = some (.iload_n 3, 1) ∧ mc_cd 239 49 = some (.iload 5, 2) ∧ mc_cd 239 51 = some (.iadd, 1) ∧ mc_cd 239 52 = some (.istore_n 3, 1) ∧ mc_cd 239 53 = some (.iload 5, 2) ∧ mc_cd 239 55 = some (.iconst 2, 1) ∧ mc_cd 239 56 = some (.if_icmp .eq 14, 3) ∧ mc_cd 239 59 = some (.iload_n 3, 1) := by decide +kernel
theorem c239_48 : mc_cd 239 48 = some (.iload_n 3, 1) := cg239_48.1
theorem c239_49 : mc_cd 239 49 = some (.iload 5, 2) := cg239_48.2.1
theorem c239_51 : mc_cd 239 51 = some (.iadd, 1) := cg239_48.2.2.1
theorem c239_52 : mc_cd 239 52 = some (.istore_n 3, 1) := cg239_48.2.2.2.1
theorem c239_53 : mc_cd 239 53 = some (.iload 5, 2) := cg239_48.2.2.2.2.1
theorem c239_55 : mc_cd 239 55 = some (.iconst 2, 1) := cg239_48.2.2.2.2.2.1
theorem c239_56 : mc_cd 239 56 = some (.if_icmp .eq 14, 3) := cg239_48.2.2.2.2.2.2.1
theorem c239_59 : mc_cd 239 59 = some (.iload_n 3, 1) := cg239_48.2.2.2.2.2.2.2
theorem cg239_60 : mc_cd 239 60 = some (.aload_n 0, 1) ∧ mc_cd 239 61 = some (.getfield 337, 3) ∧ mc_cd 239 64 = some (.getfield 226, 3) ∧ mc_cd 239 67 = some (.if_icmp .le 6, 3) ∧ mc_cd 239 70 = some (.iload 4, 2) ∧ mc_cd 239 72 = some (.ireturn, 1) ∧ mc_cd 239 73 = some (.iinc 4 1, 3) ∧ mc_cd 239 76 = some (.goto (-71), 3) := by decide +kernel
theorem c239_60 : mc_cd 239 60 = some (.aload_n 0, 1) := cg239_60.1
theorem c239_61 : mc_cd 239 61 = some (.getfield 337, 3) := cg239_60.2.1
theorem c239_64 : mc_cd 239 64 = some (.getfield 226, 3) := cg239_60.2.2.1
theorem c239_67 : mc_cd 239 67 = some (.if_icmp .le 6, 3) := cg239_60.2.2.2.1
theorem c239_70 : mc_cd 239 70 = some (.iload 4, 2) := cg239_60.2.2.2.2.1
theorem c239_72 : mc_cd 239 72 = some (.ireturn, 1) := cg239_60.2.2.2.2.2.1
theorem c239_73 : mc_cd 239 73 = some (.iinc 4 1, 3) := cg239_60.2.2.2.2.2.2.1
theorem c239_76 : mc_cd 239 76 = some (.goto (-71), 3) := cg239_60.2.2.2.2.2.2.2
theorem cg239_79 : mc_cd 239 79 = some (.bipush 24, 2) ∧ mc_cd 239 81 = some (.ireturn, 1) := by decide +kernel
theorem c239_79 : mc_cd 239 79 = some (.bipush 24, 2) := cg239_79.1
theorem c239_81 : mc_cd 239 81 = some (.ireturn, 1) := cg239_79.2
abbrev q_239_m_lot (r0 : Nat) (r1 : Nat) (a2 : Int) (pp : Nat) (T : wq_T) (H : wq_H) : Option Value → wq_T → wq_H → Prop := fun r T' H' => T = T' ∧ H = H' ∧ ∃ z : Int, some (vI z) = r ∧ (0 ≤ z ∧ z ≤ 24)
set_option maxHeartbeats 4000000 in
theorem s_239_m_lot {kt : Nat → Option mc_E} {T : wq_T} {H : wq_H} {r0 : Nat} {r1 : Nat} {a2 : Int} {pp : Nat} (hW : WT T H) (g0 : T.2.2.2 r0 = some 42) (g1 : T.2.2.2 r1 = some 51) (i2 : (-2147483648) ≤ a2 ∧ a2 ≤ 2147483647) (qpp : H r0 3 = (pp : Int)) (gpp : T.2.2.2 pp = some 54) : wpc kt 4 239 [.ref r0, .ref r1, vI a2] T H (q_239_m_lot r0 r1 a2 pp T H) := by
  refine wp_enter e239 (Nat.le_of_ble_eq_true rfl) rfl ?_
  show wp _ _ 239 0 [(0, .ref r0), (1, .ref r1), (2, vI a2)] [] _ H _
  refine wp_of e239 c239_0 (rw_iconst (pc' := 1) rfl ?_)
  refine wp_of e239 c239_1 (rw_istore_n (pc' := 2) (z := 0) (L' := [(3, vI 0), (0, .ref r0), (1, .ref r1), (2, vI a2)]) rfl rfl rfl ?_)
  refine wp_of e239 c239_2 (rw_iconst (pc' := 3) rfl ?_)
  refine wp_of e239 c239_3 (rw_istore (pc' := 5) (z := 0) (L' := [(4, vI 0), (3, vI 0), (0, .ref r0), (1, .ref r1), (2, vI a2)]) rfl rfl rfl ?_)
  have lp133632 : ∀ (n133633 : Nat) (v133635 : Int) (v133636 : Int), (0 ≤ v133635 ∧ v133635 ≤ 24) → ((-2147483648) ≤ v133636 ∧ v133636 ≤ 2147483647) → (24 - v133635).toNat = n133633 → wp kt 3 239 5 [(4, vI v133635), (3, vI v133636), (0, .ref r0), (1, .ref r1), (2, vI a2)] [] T H (q_239_m_lot r0 r1 a2 pp T H) := by
    intro n133633
    induction n133633 using Nat.strongRecOn with
    | _ n133633 ih133634 =>
      intro v133635 v133636 b133639 b133640 m133641
      refine wp_of e239 c239_5 (rw_iload (pc' := 7) (z := v133635) rfl rfl ?_)
      refine wp_of e239 c239_7 (rw_aload_n (pc' := 8) (v := .ref r0) rfl rfl rfl ?_)
      refine wp_of e239 c239_8 (xg_K (pc' := 11) lf_9_337 hW g0 sh_42 (by decide) (by decide) rfl qpp rfl ?_)
      refine wp_of e239 c239_11 (xg_I (pc' := 14) lf_9_185 hW gpp sh_54 (by decide) (by decide) ty_54_0 rfl rfl (fun b133642 b133643 => ?_))
      refine wp_of e239 c239_14 (rw_icmp_ge (p1 := 79) (p2 := 17) (by decide) rfl ⟨by omega, by omega⟩ ⟨by omega, by omega⟩ (fun c133644 => ?_) (fun c133644 => ?_))
      · refine wp_of e239 c239_79 (rw_bipush (pc' := 81) (z := 24) rfl (by decide) ?_)
        exact wp_ireturn e239 c239_81 rfl ⟨rfl, rfl, 24, rfl, ⟨by omega, by omega⟩⟩
      · refine wp_of e239 c239_17 (rw_iload_n (pc' := 18) (z := a2) rfl rfl ?_)
        refine wp_of e239 c239_18 (rw_iload (pc' := 20) (z := v133635) rfl rfl ?_)
        refine wp_of e239 c239_20 (xc_S (pc' := 23) (as := [vI a2, vI v133635]) (st := []) (lm_9_346) rfl rfl (Nat.le_of_ble_eq_true rfl) rfl (by decide) (s_205 hW ⟨by omega, by omega⟩ ⟨by omega, by omega⟩) (fun R133645 T133646 H133647 p133648 => ?_))
        obtain ⟨e133649, e133651, z133652, e133650, b133653⟩ := p133648
        subst e133649
        subst e133650
        subst e133651
        show wp _ _ 239 23 [(4, vI v133635), (3, vI v133636), (0, .ref r0), (1, .ref r1), (2, vI a2)] [vI z133652] _ H _
        refine wp_of e239 c239_23 (rw_if_eq (p1 := 73) (p2 := 26) (by decide) rfl ⟨by omega, by omega⟩ (fun c133654 => ?_) (fun c133654 => ?_))
        · refine wp_of e239 c239_73 (rw_iinc (pc' := 76) (z := v133635) (L' := [(4, vI (v133635 + 1)), (3, vI v133636), (0, .ref r0), (1, .ref r1), (2, vI a2)]) rfl rfl rfl rfl ?_)
          refine wp_of e239 c239_76 (rw_goto (p1 := 5) (by decide) ?_)
          exact wp_lc (ks := [4, 3, 0, 1, 2]) (wl_c rfl (wl_c rfl (wl_c rfl (wl_c rfl (wl_c rfl wl_n))))) rfl (by decide) (ih133634 _ (by omega) (v133635 + 1) v133636 ⟨by omega, by omega⟩ ⟨by omega, by omega⟩ rfl)
        · refine wp_of e239 c239_26 (rw_aload_n (pc' := 27) (v := .ref r0) rfl rfl rfl ?_)
          refine wp_of e239 c239_27 (xg_R (pc' := 30) lf_9_17 hW g0 sh_42 (by decide) (by decide) ty_42_20 rfl rfl (fun r133655 q133656 g133657 => ?_))
          refine wp_of e239 c239_30 (rw_iload (pc' := 32) (z := v133635) rfl rfl ?_)
          refine wp_of e239 c239_32 (xa_I (so := 0) (pc' := 33) hW g133657 sh_44 (by decide) (ty_44 _) (by omega) (by omega) rfl (fun b133658 b133659 => ?_))
          refine wp_of e239 c239_33 (rw_if_ne (p1 := 39) (p2 := 36) (by decide) rfl ⟨by omega, by omega⟩ (fun c133660 => ?_) (fun c133660 => ?_))
          · refine wp_of e239 c239_39 (rw_aload_n (pc' := 40) (v := .ref r0) rfl rfl rfl ?_)
            refine wp_of e239 c239_40 (rw_aload_n (pc' := 41) (v := .ref r1) rfl rfl rfl ?_)
            refine wp_of e239 c239_41 (rw_iload (pc' := 43) (z := v133635) rfl rfl ?_)
            refine wp_of e239 c239_43 (xc_V (pc' := 46) (r := r0) (as := [.ref r1, vI v133635]) (st := []) (lm_9_390) rfl rfl (Nat.le_of_ble_eq_true rfl) hW g0 sh_42 (by decide) rfl (by decide) (s_234_m_lot hW g0 g1 ⟨by omega, by omega⟩ qpp gpp) (fun R133661 T133662 H133663 p133664 => ?_))
            obtain ⟨e133665, e133667, z133668, e133666, b133669⟩ := p133664
            subst e133665
            subst e133666
            subst e133667
            show wp _ _ 239 46 [(4, vI v133635), (3, vI v133636), (0, .ref r0), (1, .ref r1), (2, vI a2)] [vI z133668] _ H _
            refine wp_of e239 c239_46 (rw_istore (pc' := 48) (z := z133668) (L' := [(5, vI z133668), (4, vI v133635), (3, vI v133636), (0, .ref r0), (1, .ref r1), (2, vI a2)]) rfl rfl rfl ?_)
            refine wp_of e239 c239_48 (rw_iload_n (pc' := 49) (z := v133636) rfl rfl ?_)
            refine wp_of e239 c239_49 (rw_iload (pc' := 51) (z := z133668) rfl rfl ?_)
            refine wp_of e239 c239_51 (rw_iaddw (pc' := 52) rfl ?_)
            obtain ⟨v133670, e133671⟩ : ∃ x : Int, x = wq_w (v133636 + z133668) := ⟨_, rfl⟩
            rw [← e133671]
            have b133672 : -2147483648 ≤ v133670 ∧ v133670 ≤ 2147483647 := by
              rw [e133671]
              exact wI_w _
            refine wp_of e239 c239_52 (rw_istore_n (pc' := 53) (z := v133670) (L' := [(3, vI v133670), (5, vI z133668), (4, vI v133635), (0, .ref r0), (1, .ref r1), (2, vI a2)]) rfl rfl rfl ?_)
            refine wp_of e239 c239_53 (rw_iload (pc' := 55) (z := z133668) rfl rfl ?_)
            refine wp_of e239 c239_55 (rw_iconst (pc' := 56) rfl ?_)
            refine wp_of e239 c239_56 (rw_icmp_eq (p1 := 70) (p2 := 59) (by decide) rfl ⟨by omega, by omega⟩ ⟨by omega, by omega⟩ (fun c133673 => ?_) (fun c133673 => ?_))
            · refine wp_of e239 c239_70 (rw_iload (pc' := 72) (z := v133635) rfl rfl ?_)
              exact wp_ireturn e239 c239_72 rfl ⟨rfl, rfl, v133635, rfl, ⟨by omega, by omega⟩⟩
            · refine wp_of e239 c239_59 (rw_iload_n (pc' := 60) (z := v133670) rfl rfl ?_)
              refine wp_of e239 c239_60 (rw_aload_n (pc' := 61) (v := .ref r0) rfl rfl rfl ?_)
              refine wp_of e239 c239_61 (xg_K (pc' := 64) lf_9_337 hW g0 sh_42 (by decide) (by decide) rfl qpp rfl ?_)
              refine wp_of e239 c239_64 (xg_I (pc' := 67) lf_9_226 hW gpp sh_54 (by decide) (by decide) ty_54_2 rfl rfl (fun b133674 b133675 => ?_))
              refine wp_of e239 c239_67 (rw_icmp_le (p1 := 73) (p2 := 70) (by decide) rfl ⟨by omega, by omega⟩ ⟨by omega, by omega⟩ (fun c133676 => ?_) (fun c133676 => ?_))
              · refine wp_of e239 c239_73 (rw_iinc (pc' := 76) (z := v133635) (L' := [(4, vI (v133635 + 1)), (3, vI v133670), (5, vI z133668), (0, .ref r0), (1, .ref r1), (2, vI a2)]) rfl rfl rfl rfl ?_)
                refine wp_of e239 c239_76 (rw_goto (p1 := 5) (by decide) ?_)
                exact wp_lc (ks := [4, 3, 5, 0, 1, 2]) (wl_c rfl (wl_c rfl (wl_c rfl (wl_c rfl (wl_c rfl wl_n))))) rfl (by decide) (ih133634 _ (by omega) (v133635 + 1) v133670 ⟨by omega, by omega⟩ ⟨by omega, by omega⟩ rfl)
              · refine wp_of e239 c239_70 (rw_iload (pc' := 72) (z := v133635) rfl rfl ?_)
                exact wp_ireturn e239 c239_72 rfl ⟨rfl, rfl, v133635, rfl, ⟨by omega, by omega⟩⟩
          · refine wp_of e239 c239_36 (rw_goto (p1 := 73) (by decide) ?_)
            refine wp_of e239 c239_73 (rw_iinc (pc' := 76) (z := v133635) (L' := [(4, vI (v133635 + 1)), (3, vI v133636), (0, .ref r0), (1, .ref r1), (2, vI a2)]) rfl rfl rfl rfl ?_)
            refine wp_of e239 c239_76 (rw_goto (p1 := 5) (by decide) ?_)
            exact wp_lc (ks := [4, 3, 0, 1, 2]) (wl_c rfl (wl_c rfl (wl_c rfl (wl_c rfl (wl_c rfl wl_n))))) rfl (by decide) (ih133634 _ (by omega) (v133635 + 1) v133636 ⟨by omega, by omega⟩ ⟨by omega, by omega⟩ rfl)
  exact wp_lc (ks := [4, 3, 0, 1, 2]) (wl_c rfl (wl_c rfl (wl_c rfl (wl_c rfl (wl_c rfl wl_n))))) rfl (by decide) (lp133632 _ 0 0 ⟨by omega, by omega⟩ ⟨by omega, by omega⟩ rfl)

/-! StrikeAwakeModel.barredAt([II)I -/
abbrev q_239_m_said (r0 : Nat) (r1 : Nat) (a2 : Int) (pp : Nat) (T : wq_T) (H : wq_H) : Option Value → wq_T → wq_H → Prop := fun r T' H' => T = T' ∧ H = H' ∧ ∃ z : Int, some (vI z) = r ∧ (0 ≤ z ∧ z ≤ 24)
set_option maxHeartbeats 4000000 in
theorem s_239_m_said {kt : Nat → Option mc_E} {T : wq_T} {H : wq_H} {r0 : Nat} {r1 : Nat} {a2 : Int} {pp : Nat} (hW : WT T H) (g0 : T.2.2.2 r0 = some 42) (g1 : T.2.2.2 r1 = some 50) (i2 : (-2147483648) ≤ a2 ∧ a2 ≤ 2147483647) (qpp : H r0 3 = (pp : Int)) (gpp : T.2.2.2 pp = some 54) : wpc kt 4 239 [.ref r0, .ref r1, vI a2] T H (q_239_m_said r0 r1 a2 pp T H) := by
  refine wp_enter e239 (Nat.le_of_ble_eq_true rfl) rfl ?_
  show wp _ _ 239 0 [(0, .ref r0), (1, .ref r1), (2, vI a2)] [] _ H _
  refine wp_of e239 c239_0 (rw_iconst (pc' := 1) rfl ?_)
  refine wp_of e239 c239_1 (rw_istore_n (pc' := 2) (z := 0) (L' := [(3, vI 0), (0, .ref r0), (1, .ref r1), (2, vI a2)]) rfl rfl rfl ?_)
  refine wp_of e239 c239_2 (rw_iconst (pc' := 3) rfl ?_)
  refine wp_of e239 c239_3 (rw_istore (pc' := 5) (z := 0) (L' := [(4, vI 0), (3, vI 0), (0, .ref r0), (1, .ref r1), (2, vI a2)]) rfl rfl rfl ?_)
  have lp134332 : ∀ (n134333 : Nat) (v134335 : Int) (v134336 : Int), (0 ≤ v134335 ∧ v134335 ≤ 24) → ((-2147483648) ≤ v134336 ∧ v134336 ≤ 2147483647) → (24 - v134335).toNat = n134333 → wp kt 3 239 5 [(4, vI v134335), (3, vI v134336), (0, .ref r0), (1, .ref r1), (2, vI a2)] [] T H (q_239_m_said r0 r1 a2 pp T H) := by
    intro n134333
    induction n134333 using Nat.strongRecOn with
    | _ n134333 ih134334 =>
      intro v134335 v134336 b134339 b134340 m134341
      refine wp_of e239 c239_5 (rw_iload (pc' := 7) (z := v134335) rfl rfl ?_)
      refine wp_of e239 c239_7 (rw_aload_n (pc' := 8) (v := .ref r0) rfl rfl rfl ?_)
      refine wp_of e239 c239_8 (xg_K (pc' := 11) lf_9_337 hW g0 sh_42 (by decide) (by decide) rfl qpp rfl ?_)
      refine wp_of e239 c239_11 (xg_I (pc' := 14) lf_9_185 hW gpp sh_54 (by decide) (by decide) ty_54_0 rfl rfl (fun b134342 b134343 => ?_))
      refine wp_of e239 c239_14 (rw_icmp_ge (p1 := 79) (p2 := 17) (by decide) rfl ⟨by omega, by omega⟩ ⟨by omega, by omega⟩ (fun c134344 => ?_) (fun c134344 => ?_))
      · refine wp_of e239 c239_79 (rw_bipush (pc' := 81) (z := 24) rfl (by decide) ?_)
        exact wp_ireturn e239 c239_81 rfl ⟨rfl, rfl, 24, rfl, ⟨by omega, by omega⟩⟩
      · refine wp_of e239 c239_17 (rw_iload_n (pc' := 18) (z := a2) rfl rfl ?_)
        refine wp_of e239 c239_18 (rw_iload (pc' := 20) (z := v134335) rfl rfl ?_)
        refine wp_of e239 c239_20 (xc_S (pc' := 23) (as := [vI a2, vI v134335]) (st := []) (lm_9_346) rfl rfl (Nat.le_of_ble_eq_true rfl) rfl (by decide) (s_205 hW ⟨by omega, by omega⟩ ⟨by omega, by omega⟩) (fun R134345 T134346 H134347 p134348 => ?_))
        obtain ⟨e134349, e134351, z134352, e134350, b134353⟩ := p134348
        subst e134349
        subst e134350
        subst e134351
        show wp _ _ 239 23 [(4, vI v134335), (3, vI v134336), (0, .ref r0), (1, .ref r1), (2, vI a2)] [vI z134352] _ H _
        refine wp_of e239 c239_23 (rw_if_eq (p1 := 73) (p2 := 26) (by decide) rfl ⟨by omega, by omega⟩ (fun c134354 => ?_) (fun c134354 => ?_))
        · refine wp_of e239 c239_73 (rw_iinc (pc' := 76) (z := v134335) (L' := [(4, vI (v134335 + 1)), (3, vI v134336), (0, .ref r0), (1, .ref r1), (2, vI a2)]) rfl rfl rfl rfl ?_)
          refine wp_of e239 c239_76 (rw_goto (p1 := 5) (by decide) ?_)
          exact wp_lc (ks := [4, 3, 0, 1, 2]) (wl_c rfl (wl_c rfl (wl_c rfl (wl_c rfl (wl_c rfl wl_n))))) rfl (by decide) (ih134334 _ (by omega) (v134335 + 1) v134336 ⟨by omega, by omega⟩ ⟨by omega, by omega⟩ rfl)
        · refine wp_of e239 c239_26 (rw_aload_n (pc' := 27) (v := .ref r0) rfl rfl rfl ?_)
          refine wp_of e239 c239_27 (xg_R (pc' := 30) lf_9_17 hW g0 sh_42 (by decide) (by decide) ty_42_20 rfl rfl (fun r134355 q134356 g134357 => ?_))
          refine wp_of e239 c239_30 (rw_iload (pc' := 32) (z := v134335) rfl rfl ?_)
          refine wp_of e239 c239_32 (xa_I (so := 0) (pc' := 33) hW g134357 sh_44 (by decide) (ty_44 _) (by omega) (by omega) rfl (fun b134358 b134359 => ?_))
          refine wp_of e239 c239_33 (rw_if_ne (p1 := 39) (p2 := 36) (by decide) rfl ⟨by omega, by omega⟩ (fun c134360 => ?_) (fun c134360 => ?_))
          · refine wp_of e239 c239_39 (rw_aload_n (pc' := 40) (v := .ref r0) rfl rfl rfl ?_)
            refine wp_of e239 c239_40 (rw_aload_n (pc' := 41) (v := .ref r1) rfl rfl rfl ?_)
            refine wp_of e239 c239_41 (rw_iload (pc' := 43) (z := v134335) rfl rfl ?_)
            refine wp_of e239 c239_43 (xc_V (pc' := 46) (r := r0) (as := [.ref r1, vI v134335]) (st := []) (lm_9_390) rfl rfl (Nat.le_of_ble_eq_true rfl) hW g0 sh_42 (by decide) rfl (by decide) (s_234_m_said hW g0 g1 ⟨by omega, by omega⟩ qpp gpp) (fun R134361 T134362 H134363 p134364 => ?_))
            obtain ⟨e134365, e134367, z134368, e134366, b134369⟩ := p134364
            subst e134365
            subst e134366
            subst e134367
            show wp _ _ 239 46 [(4, vI v134335), (3, vI v134336), (0, .ref r0), (1, .ref r1), (2, vI a2)] [vI z134368] _ H _
            refine wp_of e239 c239_46 (rw_istore (pc' := 48) (z := z134368) (L' := [(5, vI z134368), (4, vI v134335), (3, vI v134336), (0, .ref r0), (1, .ref r1), (2, vI a2)]) rfl rfl rfl ?_)
            refine wp_of e239 c239_48 (rw_iload_n (pc' := 49) (z := v134336) rfl rfl ?_)
            refine wp_of e239 c239_49 (rw_iload (pc' := 51) (z := z134368) rfl rfl ?_)
            refine wp_of e239 c239_51 (rw_iaddw (pc' := 52) rfl ?_)
            obtain ⟨v134370, e134371⟩ : ∃ x : Int, x = wq_w (v134336 + z134368) := ⟨_, rfl⟩
            rw [← e134371]
            have b134372 : -2147483648 ≤ v134370 ∧ v134370 ≤ 2147483647 := by
              rw [e134371]
              exact wI_w _
            refine wp_of e239 c239_52 (rw_istore_n (pc' := 53) (z := v134370) (L' := [(3, vI v134370), (5, vI z134368), (4, vI v134335), (0, .ref r0), (1, .ref r1), (2, vI a2)]) rfl rfl rfl ?_)
            refine wp_of e239 c239_53 (rw_iload (pc' := 55) (z := z134368) rfl rfl ?_)
            refine wp_of e239 c239_55 (rw_iconst (pc' := 56) rfl ?_)
            refine wp_of e239 c239_56 (rw_icmp_eq (p1 := 70) (p2 := 59) (by decide) rfl ⟨by omega, by omega⟩ ⟨by omega, by omega⟩ (fun c134373 => ?_) (fun c134373 => ?_))
            · refine wp_of e239 c239_70 (rw_iload (pc' := 72) (z := v134335) rfl rfl ?_)
              exact wp_ireturn e239 c239_72 rfl ⟨rfl, rfl, v134335, rfl, ⟨by omega, by omega⟩⟩
            · refine wp_of e239 c239_59 (rw_iload_n (pc' := 60) (z := v134370) rfl rfl ?_)
              refine wp_of e239 c239_60 (rw_aload_n (pc' := 61) (v := .ref r0) rfl rfl rfl ?_)
              refine wp_of e239 c239_61 (xg_K (pc' := 64) lf_9_337 hW g0 sh_42 (by decide) (by decide) rfl qpp rfl ?_)
              refine wp_of e239 c239_64 (xg_I (pc' := 67) lf_9_226 hW gpp sh_54 (by decide) (by decide) ty_54_2 rfl rfl (fun b134374 b134375 => ?_))
              refine wp_of e239 c239_67 (rw_icmp_le (p1 := 73) (p2 := 70) (by decide) rfl ⟨by omega, by omega⟩ ⟨by omega, by omega⟩ (fun c134376 => ?_) (fun c134376 => ?_))
              · refine wp_of e239 c239_73 (rw_iinc (pc' := 76) (z := v134335) (L' := [(4, vI (v134335 + 1)), (3, vI v134370), (5, vI z134368), (0, .ref r0), (1, .ref r1), (2, vI a2)]) rfl rfl rfl rfl ?_)
                refine wp_of e239 c239_76 (rw_goto (p1 := 5) (by decide) ?_)
                exact wp_lc (ks := [4, 3, 5, 0, 1, 2]) (wl_c rfl (wl_c rfl (wl_c rfl (wl_c rfl (wl_c rfl wl_n))))) rfl (by decide) (ih134334 _ (by omega) (v134335 + 1) v134370 ⟨by omega, by omega⟩ ⟨by omega, by omega⟩ rfl)
              · refine wp_of e239 c239_70 (rw_iload (pc' := 72) (z := v134335) rfl rfl ?_)
                exact wp_ireturn e239 c239_72 rfl ⟨rfl, rfl, v134335, rfl, ⟨by omega, by omega⟩⟩
          · refine wp_of e239 c239_36 (rw_goto (p1 := 73) (by decide) ?_)
            refine wp_of e239 c239_73 (rw_iinc (pc' := 76) (z := v134335) (L' := [(4, vI (v134335 + 1)), (3, vI v134336), (0, .ref r0), (1, .ref r1), (2, vI a2)]) rfl rfl rfl rfl ?_)
            refine wp_of e239 c239_76 (rw_goto (p1 := 5) (by decide) ?_)
            exact wp_lc (ks := [4, 3, 0, 1, 2]) (wl_c rfl (wl_c rfl (wl_c rfl (wl_c rfl (wl_c rfl wl_n))))) rfl (by decide) (ih134334 _ (by omega) (v134335 + 1) v134336 ⟨by omega, by omega⟩ ⟨by omega, by omega⟩ rfl)
  exact wp_lc (ks := [4, 3, 0, 1, 2]) (wl_c rfl (wl_c rfl (wl_c rfl (wl_c rfl (wl_c rfl wl_n))))) rfl (by decide) (lp134332 _ 0 0 ⟨by omega, by omega⟩ ⟨by omega, by omega⟩ rfl)
/-! StrikeAwakeModel.isWorld([I)Z -/
theorem e238 : wq_en 238 = some (9, 2, false, some FieldType.boolean) := rfl
theorem cg238_0 : mc_cd 238 0 = some (.aload_n 0, 1) ∧ mc_cd 238 1 = some (.aload_n 1, 1) ∧ mc_cd 238 2 = some (.invokevirtual 393, 3) ∧ mc_cd 238 5 = some (.ifCond .ne 21, 3) ∧ mc_cd 238 8 = some (.aload_n 0, 1) ∧ mc_cd 238 9 = some (.aload_n 1, 1) ∧ mc_cd 238 10 = some (.aload_n 0, 1) ∧ mc_cd 238 11 = some (.getfield 343, 3) := by decide +kernel
theorem c238_0 : mc_cd 238 0 = some (.aload_n 0, 1) := cg238_0.1
theorem c238_1 : mc_cd 238 1 = some (.aload_n 1, 1) := cg238_0.2.1
theorem c238_2 : mc_cd 238 2 = some (.invokevirtual 393, 3) := cg238_0.2.2.1
theorem c238_5 : mc_cd 238 5 = some (.ifCond .ne 21, 3) := cg238_0.2.2.2.1
theorem c238_8 : mc_cd 238 8 = some (.aload_n 0, 1) := cg238_0.2.2.2.2.1
theorem c238_9 : mc_cd 238 9 = some (.aload_n 1, 1) := cg238_0.2.2.2.2.2.1
theorem c238_10 : mc_cd 238 10 = some (.aload_n 0, 1) := cg238_0.2.2.2.2.2.2.1
theorem c238_11 : mc_cd 238 11 = some (.getfield 343, 3) := cg238_0.2.2.2.2.2.2.2
theorem cg238_14 : mc_cd 238 14 = some (.invokevirtual 397, 3) ∧ mc_cd 238 17 = some (.bipush 24, 2) ∧ mc_cd 238 19 = some (.if_icmp .ne 7, 3) ∧ mc_cd 238 22 = some (.iconst 1, 1) ∧ mc_cd 238 23 = some (.goto 4, 3) ∧ mc_cd 238 26 = some (.iconst 0, 1) ∧ mc_cd 238 27 = some (.ireturn, 1) := by decide +kernel
theorem c238_14 : mc_cd 238 14 = some (.invokevirtual 397, 3) := cg238_14.1
theorem c238_17 : mc_cd 238 17 = some (.bipush 24, 2) := cg238_14.2.1
theorem c238_19 : mc_cd 238 19 = some (.if_icmp .ne 7, 3) := cg238_14.2.2.1
theorem c238_22 : mc_cd 238 22 = some (.iconst 1, 1) := cg238_14.2.2.2.1
theorem c238_23 : mc_cd 238 23 = some (.goto 4, 3) := cg238_14.2.2.2.2.1
theorem c238_26 : mc_cd 238 26 = some (.iconst 0, 1) := cg238_14.2.2.2.2.2.1
theorem c238_27 : mc_cd 238 27 = some (.ireturn, 1) := cg238_14.2.2.2.2.2.2
/-! StrikeAwakeModel.isWorld([I)Z -/
abbrev q_238_m_said (r0 : Nat) (r1 : Nat) (pp : Nat) (T : wq_T) (H : wq_H) : Option Value → wq_T → wq_H → Prop := fun r T' H' => T = T' ∧ H = H' ∧ ∃ z : Int, some (vI z) = r ∧ (0 ≤ z ∧ z ≤ 1)
set_option maxHeartbeats 4000000 in
theorem s_238_m_said {kt : Nat → Option mc_E} {T : wq_T} {H : wq_H} {r0 : Nat} {r1 : Nat} {pp : Nat} (hW : WT T H) (g0 : T.2.2.2 r0 = some 42) (g1 : T.2.2.2 r1 = some 50) (qpp : H r0 3 = (pp : Int)) (gpp : T.2.2.2 pp = some 54) : wpc kt 5 238 [.ref r0, .ref r1] T H (q_238_m_said r0 r1 pp T H) := by
  refine wp_enter e238 (Nat.le_of_ble_eq_true rfl) rfl ?_
  show wp _ _ 238 0 [(0, .ref r0), (1, .ref r1)] [] _ H _
  refine wp_of e238 c238_0 (rw_aload_n (pc' := 1) (v := .ref r0) rfl rfl rfl ?_)
  refine wp_of e238 c238_1 (rw_aload_n (pc' := 2) (v := .ref r1) rfl rfl rfl ?_)
  refine wp_of e238 c238_2 (xc_V (pc' := 5) (r := r0) (as := [.ref r1]) (st := []) (lm_9_393) rfl rfl (Nat.le_of_ble_eq_true rfl) hW g0 sh_42 (by decide) rfl (by decide) (s_235_m_said hW g0 g1 qpp gpp) (fun R134443 T134444 H134445 p134446 => ?_))
  obtain ⟨e134447, e134449, z134450, e134448, b134451⟩ := p134446
  subst e134447
  subst e134448
  subst e134449
  show wp _ _ 238 5 [(0, .ref r0), (1, .ref r1)] [vI z134450] _ H _
  refine wp_of e238 c238_5 (rw_if_ne (p1 := 26) (p2 := 8) (by decide) rfl ⟨by omega, by omega⟩ (fun c134452 => ?_) (fun c134452 => ?_))
  · refine wp_of e238 c238_26 (rw_iconst (pc' := 27) rfl ?_)
    exact wp_zreturn e238 c238_27 rfl (by omega) ⟨rfl, rfl, 0, rfl, ⟨by omega, by omega⟩⟩
  · refine wp_of e238 c238_8 (rw_aload_n (pc' := 9) (v := .ref r0) rfl rfl rfl ?_)
    refine wp_of e238 c238_9 (rw_aload_n (pc' := 10) (v := .ref r1) rfl rfl rfl ?_)
    refine wp_of e238 c238_10 (rw_aload_n (pc' := 11) (v := .ref r0) rfl rfl rfl ?_)
    refine wp_of e238 c238_11 (xg_I (pc' := 14) lf_9_343 hW g0 sh_42 (by decide) (by decide) ty_42_19 rfl rfl (fun b134453 b134454 => ?_))
    refine wp_of e238 c238_14 (xc_V (pc' := 17) (r := r0) (as := [.ref r1, vI (H r0 19)]) (st := []) (lm_9_397) rfl rfl (Nat.le_of_ble_eq_true rfl) hW g0 sh_42 (by decide) rfl (by decide) (s_239_m_said hW g0 g1 ⟨by omega, by omega⟩ qpp gpp) (fun R134455 T134456 H134457 p134458 => ?_))
    obtain ⟨e134459, e134461, z134462, e134460, b134463⟩ := p134458
    subst e134459
    subst e134460
    subst e134461
    show wp _ _ 238 17 [(0, .ref r0), (1, .ref r1)] [vI z134462] _ H _
    refine wp_of e238 c238_17 (rw_bipush (pc' := 19) (z := 24) rfl (by decide) ?_)
    refine wp_of e238 c238_19 (rw_icmp_ne (p1 := 26) (p2 := 22) (by decide) rfl ⟨by omega, by omega⟩ ⟨by omega, by omega⟩ (fun c134464 => ?_) (fun c134464 => ?_))
    · refine wp_of e238 c238_26 (rw_iconst (pc' := 27) rfl ?_)
      exact wp_zreturn e238 c238_27 rfl (by omega) ⟨rfl, rfl, 0, rfl, ⟨by omega, by omega⟩⟩
    · refine wp_of e238 c238_22 (rw_iconst (pc' := 23) rfl ?_)
      refine wp_of e238 c238_23 (rw_goto (p1 := 27) (by decide) ?_)
      exact wp_zreturn e238 c238_27 rfl (by omega) ⟨rfl, rfl, 1, rfl, ⟨by omega, by omega⟩⟩
