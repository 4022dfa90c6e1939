/-! methods of the reference (own work, written by wip/gen2/sx.py) -/
/-! StrikeAwakeModel.lie(I)I -/
theorem e272 : wq_en 272 = some (9, 3, false, some FieldType.int) := rfl
theorem cg272_0 : mc_cd 272 0 = some (.aload_n 0, 1) ∧ mc_cd 272 1 = some (.iconst 0, 1) ∧ mc_cd 272 2 = some (.putfield 48, 3) ∧ mc_cd 272 5 = some (.aload_n 0, 1) ∧ mc_cd 272 6 = some (.aload_n 0, 1) ∧ mc_cd 272 7 = some (.iload_n 1, 1) ∧ mc_cd 272 8 = some (.invokevirtual 473, 3) ∧ mc_cd 272 11 = some (.invokevirtual 433, 3) := by decide +kernel
theorem c272_0 : mc_cd 272 0 = some (.aload_n 0, 1) := cg272_0.1
theorem c272_1 : mc_cd 272 1 = some (.iconst 0, 1) := cg272_0.2.1
theorem c272_2 : mc_cd 272 2 = some (.putfield 48, 3) := cg272_0.2.2.1
theorem c272_5 : mc_cd 272 5 = some (.aload_n 0, 1) := cg272_0.2.2.2.1
theorem c272_6 : mc_cd 272 6 = some (.aload_n 0, 1) := cg272_0.2.2.2.2.1
theorem c272_7 : mc_cd 272 7 = some (.iload_n 1, 1) := cg272_0.2.2.2.2.2.1
theorem c272_8 : mc_cd 272 8 = some (.invokevirtual 473, 3) := cg272_0.2.2.2.2.2.2.1
theorem c272_11 : mc_cd 272 11 = some (.invokevirtual 433, 3) := cg272_0.2.2.2.2.2.2.2
theorem cg272_14 : mc_cd 272 14 = some (.istore_n 2, 1) ∧ mc_cd 272 15 = some (.iload_n 2, 1) ∧ mc_cd 272 16 = some (.ifCond .le 11, 3) ∧ mc_cd 272 19 = some (.aload_n 0, 1) ∧ mc_cd 272 20 = some (.iload_n 2, 1) ∧ mc_cd 272 21 = some (.invokevirtual 54, 3) ∧ mc_cd 272 24 = some (.goto 22, 3) ∧ mc_cd 272 27 = some (.aload_n 0, 1) := by decide +kernel
theorem c272_14 : mc_cd 272 14 = some (.istore_n 2, 1) := cg272_14.1
theorem c272_15 : mc_cd 272 15 = some (.iload_n 2, 1) := cg272_14.2.1
theorem c272_16 : mc_cd 272 16 = some (.ifCond .le 11, 3) := cg272_14.2.2.1
theorem c272_19 : mc_cd 272 19 = some (.aload_n 0, 1) := cg272_14.2.2.2.1
theorem c272_20 : mc_cd 272 20 = some (.iload_n 2, 1) := cg272_14.2.2.2.2.1
theorem c272_21 : mc_cd 272 21 = some (.invokevirtual 54, 3) := cg272_14.2.2.2.2.2.1
theorem c272_24 : mc_cd 272 24 = some (.goto 22, 3) := cg272_14.2.2.2.2.2.2.1
theorem c272_27 : mc_cd 272 27 = some (.aload_n 0, 1) := cg272_14.2.2.2.2.2.2.2
theorem cg272_28 : mc_cd 272 28 = some (.aload_n 0, 1) ∧ mc_cd 272 29 = some (.iload_n 1, 1) ∧ mc_cd 272 30 = some (.invokevirtual 476, 3) ∧ mc_cd 272 33 = some (.bipush 24, 2) ∧ mc_cd 272 35 = some (.if_icmp .ne 7, 3) ∧ mc_cd 272 38 = some (.iconst 0, 1) ∧ mc_cd 272 39 = some (.goto 4, 3) ∧ mc_cd 272 42 = some (.iconst 1, 1) := by decide +kernel
theorem c272_28 : mc_cd 272 28 = some (.aload_n 0, 1) := cg272_28.1
theorem c272_29 : mc_cd 272 29 = some (.iload_n 1, 1) := cg272_28.2.1
theorem c272_30 : mc_cd 272 30 = some (.invokevirtual 476, 3) := cg272_28.2.2.1
theorem c272_33 : mc_cd 272 33 = some (.bipush 24, 2) := cg272_28.2.2.2.1
theorem c272_35 : mc_cd 272 35 = some (.if_icmp .ne 7, 3) := cg272_28.2.2.2.2.1
theorem c272_38 : mc_cd 272 38 = some (.iconst 0, 1) := cg272_28.2.2.2.2.2.1
theorem c272_39 : mc_cd 272 39 = some (.goto 4, 3) := cg272_28.2.2.2.2.2.2.1
theorem c272_42 : mc_cd 272 42 = some (.iconst 1, 1) := cg272_28.2.2.2.2.2.2.2
theorem cg272_43 : mc_cd 272 43 = some (.invokevirtual 58, 3) ∧ mc_cd 272 46 = some (.ireturn, 1) := by decide +kernel
theorem c272_43 : mc_cd 272 43 = some (.invokevirtual 58, 3) := cg272_43.1
theorem c272_46 : mc_cd 272 46 = some (.ireturn, 1) := cg272_43.2
/-! StrikeAwakeModel.bars(I)I -/
theorem e275 : wq_en 275 = some (9, 4, false, some FieldType.int) := rfl
theorem cg275_0 : mc_cd 275 0 = some (.aload_n 0, 1) ∧ mc_cd 275 1 = some (.iconst 0, 1) ∧ mc_cd 275 2 = some (.putfield 48, 3) ∧ mc_cd 275 5 = some (.aload_n 0, 1) ∧ mc_cd 275 6 = some (.aload_n 0, 1) ∧ mc_cd 275 7 = some (.iload_n 1, 1) ∧ mc_cd 275 8 = some (.invokevirtual 473, 3) ∧ mc_cd 275 11 = some (.invokevirtual 433, 3) := by decide +kernel
theorem c275_0 : mc_cd 275 0 = some (.aload_n 0, 1) := cg275_0.1
theorem c275_1 : mc_cd 275 1 = some (.iconst 0, 1) := cg275_0.2.1
theorem c275_2 : mc_cd 275 2 = some (.putfield 48, 3) := cg275_0.2.2.1
theorem c275_5 : mc_cd 275 5 = some (.aload_n 0, 1) := cg275_0.2.2.2.1
theorem c275_6 : mc_cd 275 6 = some (.aload_n 0, 1) := cg275_0.2.2.2.2.1
theorem c275_7 : mc_cd 275 7 = some (.iload_n 1, 1) := cg275_0.2.2.2.2.2.1
theorem c275_8 : mc_cd 275 8 = some (.invokevirtual 473, 3) := cg275_0.2.2.2.2.2.2.1
theorem c275_11 : mc_cd 275 11 = some (.invokevirtual 433, 3) := cg275_0.2.2.2.2.2.2.2
theorem cg275_14 : mc_cd 275 14 = some (.istore_n 2, 1) ∧ mc_cd 275 15 = some (.iload_n 2, 1) ∧ mc_cd 275 16 = some (.ifCond .le 9, 3) ∧ mc_cd 275 19 = some (.aload_n 0, 1) ∧ mc_cd 275 20 = some (.iload_n 2, 1) ∧ mc_cd 275 21 = some (.invokevirtual 54, 3) ∧ mc_cd 275 24 = some (.ireturn, 1) ∧ mc_cd 275 25 = some (.aload_n 0, 1) := by decide +kernel
theorem c275_14 : mc_cd 275 14 = some (.istore_n 2, 1) := cg275_14.1
theorem c275_15 : mc_cd 275 15 = some (.iload_n 2, 1) := cg275_14.2.1
theorem c275_16 : mc_cd 275 16 = some (.ifCond .le 9, 3) := cg275_14.2.2.1
theorem c275_19 : mc_cd 275 19 = some (.aload_n 0, 1) := cg275_14.2.2.2.1
theorem c275_20 : mc_cd 275 20 = some (.iload_n 2, 1) := cg275_14.2.2.2.2.1
theorem c275_21 : mc_cd 275 21 = some (.invokevirtual 54, 3) := cg275_14.2.2.2.2.2.1
theorem c275_24 : mc_cd 275 24 = some (.ireturn, 1) := cg275_14.2.2.2.2.2.2.1
theorem c275_25 : mc_cd 275 25 = some (.aload_n 0, 1) := cg275_14.2.2.2.2.2.2.2
theorem cg275_26 : mc_cd 275 26 = some (.iload_n 1, 1) ∧ mc_cd 275 27 = some (.invokevirtual 476, 3) ∧ mc_cd 275 30 = some (.istore_n 3, 1) ∧ mc_cd 275 31 = some (.aload_n 0, 1) ∧ mc_cd 275 32 = some (.iload_n 3, 1) ∧ mc_cd 275 33 = some (.bipush 24, 2) ∧ mc_cd 275 35 = some (.if_icmp .ne 8, 3) ∧ mc_cd 275 38 = some (.bipush (-2), 2) := by decide +kernel
theorem c275_26 : mc_cd 275 26 = some (.iload_n 1, 1) := cg275_26.1
theorem c275_27 : mc_cd 275 27 = some (.invokevirtual 476, 3) := cg275_26.2.1
theorem c275_30 : mc_cd 275 30 = some (.istore_n 3, 1) := cg275_26.2.2.1
theorem c275_31 : mc_cd 275 31 = some (.aload_n 0, 1) := cg275_26.2.2.2.1
theorem c275_32 : mc_cd 275 32 = some (.iload_n 3, 1) := cg275_26.2.2.2.2.1
theorem c275_33 : mc_cd 275 33 = some (.bipush 24, 2) := cg275_26.2.2.2.2.2.1
theorem c275_35 : mc_cd 275 35 = some (.if_icmp .ne 8, 3) := cg275_26.2.2.2.2.2.2.1
theorem c275_38 : mc_cd 275 38 = some (.bipush (-2), 2) := cg275_26.2.2.2.2.2.2.2
theorem cg275_40 : mc_cd 275 40 = some (.goto 4, 3) ∧ mc_cd 275 43 = some (.iload_n 3, 1) ∧ mc_cd 275 44 = some (.invokevirtual 58, 3) ∧ mc_cd 275 47 = some (.ireturn, 1) := by decide +kernel
theorem c275_40 : mc_cd 275 40 = some (.goto 4, 3) := cg275_40.1
theorem c275_43 : mc_cd 275 43 = some (.iload_n 3, 1) := cg275_40.2.1
theorem c275_44 : mc_cd 275 44 = some (.invokevirtual 58, 3) := cg275_40.2.2.1
theorem c275_47 : mc_cd 275 47 = some (.ireturn, 1) := cg275_40.2.2.2
/-! StrikeAwakeModel.proves(I)Z -/
theorem e278 : wq_en 278 = some (9, 3, false, some FieldType.boolean) := rfl
theorem cg278_0 : mc_cd 278 0 = some (.iconst 0, 1) ∧ mc_cd 278 1 = some (.istore_n 2, 1) ∧ mc_cd 278 2 = some (.iload_n 2, 1) ∧ mc_cd 278 3 = some (.i2l, 1) ∧ mc_cd 278 4 = some (.aload_n 0, 1) ∧ mc_cd 278 5 = some (.invokevirtual 376, 3) ∧ mc_cd 278 8 = some (.lcmp, 1) ∧ mc_cd 278 9 = some (.ifCond .ge 41, 3) := by decide +kernel
theorem c278_0 : mc_cd 278 0 = some (.iconst 0, 1) := cg278_0.1
theorem c278_1 : mc_cd 278 1 = some (.istore_n 2, 1) := cg278_0.2.1
theorem c278_2 : mc_cd 278 2 = some (.iload_n 2, 1) := cg278_0.2.2.1
theorem c278_3 : mc_cd 278 3 = some (.i2l, 1) := cg278_0.2.2.2.1
theorem c278_4 : mc_cd 278 4 = some (.aload_n 0, 1) := cg278_0.2.2.2.2.1
theorem c278_5 : mc_cd 278 5 = some (.invokevirtual 376, 3) := cg278_0.2.2.2.2.2.1
theorem c278_8 : mc_cd 278 8 = some (.lcmp, 1) := cg278_0.2.2.2.2.2.2.1
theorem c278_9 : mc_cd 278 9 = some (.ifCond .ge 41, 3) := cg278_0.2.2.2.2.2.2.2
theorem cg278_12 : mc_cd 278 12 = some (.aload_n 0, 1) ∧ mc_cd 278 13 = some (.iload_n 2, 1) ∧ mc_cd 278 14 = some (.invokevirtual 425, 3) ∧ mc_cd 278 17 = some (.aload_n 0, 1) ∧ mc_cd 278 18 = some (.aload_n 0, 1) ∧ mc_cd 278 19 = some (.getfield 39, 3) ∧ mc_cd 278 22 = some (.invokevirtual 393, 3) ∧ mc_cd 278 25 = some (.ifCond .ne 19, 3) := by decide +kernel
theorem c278_12 : mc_cd 278 12 = some (.aload_n 0, 1) := cg278_12.1
theorem c278_13 : mc_cd 278 13 = some (.iload_n 2, 1) := cg278_12.2.1
theorem c278_14 : mc_cd 278 14 = some (.invokevirtual 425, 3) := cg278_12.2.2.1
theorem c278_17 : mc_cd 278 17 = some (.aload_n 0, 1) := cg278_12.2.2.2.1
theorem c278_18 : mc_cd 278 18 = some (.aload_n 0, 1) := cg278_12.2.2.2.2.1
theorem c278_19 : mc_cd 278 19 = some (.getfield 39, 3) := cg278_12.2.2.2.2.2.1
theorem c278_22 : mc_cd 278 22 = some (.invokevirtual 393, 3) := cg278_12.2.2.2.2.2.2.1
theorem c278_25 : mc_cd 278 25 = some (.ifCond .ne 19, 3) := cg278_12.2.2.2.2.2.2.2
theorem cg278_28 : mc_cd 278 28 = some (.aload_n 0, 1) ∧ mc_cd 278 29 = some (.aload_n 0, 1) ∧ mc_cd 278 30 = some (.getfield 39, 3) ∧ mc_cd 278 33 = some (.iload_n 1, 1) ∧ mc_cd 278 34 = some (.invokevirtual 397, 3) ∧ mc_cd 278 37 = some (.bipush 24, 2) ∧ mc_cd 278 39 = some (.if_icmp .ne 5, 3) ∧ mc_cd 278 42 = some (.iconst 0, 1) := by decide +kernel
theorem c278_28 : mc_cd 278 28 = some (.aload_n 0, 1) := cg278_28.1
theorem c278_29 : mc_cd 278 29 = some (.aload_n 0, 1) := cg278_28.2.1
theorem c278_30 : mc_cd 278 30 = some (.getfield 39, 3) := cg278_28.2.2.1
theorem c278_33 : mc_cd 278 33 = some (.iload_n 1, 1) := cg278_28.2.2.2.1
theorem c278_34 : mc_cd 278 34 = some (.invokevirtual 397, 3) := cg278_28.2.2.2.2.1
theorem c278_37 : mc_cd 278 37 = some (.bipush 24, 2) := cg278_28.2.2.2.2.2.1
theorem c278_39 : mc_cd 278 39 = some (.if_icmp .ne 5, 3) := cg278_28.2.2.2.2.2.2.1
theorem c278_42 : mc_cd 278 42 = some (.iconst 0, 1) := cg278_28.2.2.2.2.2.2.2
theorem cg278_43 : mc_cd 278 43 = some (.ireturn, 1) ∧ mc_cd 278 44 = some (.iinc 2 1, 3) ∧ mc_cd 278 47 = some (.goto (-45), 3) ∧ mc_cd 278 50 = some (.iconst 1, 1) ∧ mc_cd 278 51 = some (.ireturn, 1) := by decide +kernel
theorem c278_43 : mc_cd 278 43 = some (.ireturn, 1) := cg278_43.1
theorem c278_44 : mc_cd 278 44 = some (.iinc 2 1, 3) := cg278_43.2.1
theorem c278_47 : mc_cd 278 47 = some (.goto (-45), 3) := cg278_43.2.2.1
theorem c278_50 : mc_cd 278 50 = some (.iconst 1, 1) := cg278_43.2.2.2.1
theorem c278_51 : mc_cd 278 51 = some (.ireturn, 1) := cg278_43.2.2.2.2
abbrev q_278 (r0 : Nat) (a1 : Int) (pp : Nat) (T : wq_T) (H : wq_H) : Option Value → wq_T → wq_H → Prop := fun r T' H' => T = T' ∧ WT T H' ∧ wfr [(51, 999)] T H H' ∧ ∃ z : Int, some (vI z) = r ∧ (0 ≤ z ∧ z ≤ 1)
set_option maxHeartbeats 4000000 in
theorem s_278 {kt : Nat → Option mc_E} {T : wq_T} {H : wq_H} {r0 : Nat} {a1 : Int} {pp : Nat} (hW : WT T H) (g0 : T.2.2.2 r0 = some 42) (i1 : (-2147483648) ≤ a1 ∧ a1 ≤ 2147483647) (qpp : H r0 3 = (pp : Int)) (gpp : T.2.2.2 pp = some 54) (p0 : wLM H r0 ≤ 20000) : wpc kt 5 278 [.ref r0, vI a1] T H (q_278 r0 a1 pp T H) := by
  refine wp_enter e278 (Nat.le_of_ble_eq_true rfl) rfl ?_
  have f0 : wfr [(51, 999)] T H H := wfr.rf
  show wp _ _ 278 0 [(0, .ref r0), (1, vI a1)] [] _ H _
  refine wp_of e278 c278_0 (rw_iconst (pc' := 1) rfl ?_)
  refine wp_of e278 c278_1 (rw_istore_n (pc' := 2) (z := 0) (L' := [(2, vI 0), (0, .ref r0), (1, vI a1)]) rfl rfl rfl ?_)
  have lp182243 : ∀ (n182244 : Nat) (v182246 : Int) (H182247 : wq_H), WT T H182247 → wfr [(51, 999)] T H H182247 → (0 ≤ v182246 ∧ v182246 ≤ 20000) → (20000 - v182246).toNat = n182244 → wp kt 4 278 2 [(2, vI v182246), (0, .ref r0), (1, vI a1)] [] T H182247 (q_278 r0 a1 pp T H) := by
    intro n182244
    induction n182244 using Nat.strongRecOn with
    | _ n182244 ih182245 =>
      intro v182246 H182247 w182248 f182249 b182250 m182251
      have f182252 := f0.tr f182249 rfl
      refine wp_of e278 c278_2 (rw_iload_n (pc' := 3) (z := v182246) rfl rfl ?_)
      refine wp_of e278 c278_3 (rw_i2l (pc' := 4) rfl ⟨by omega, by omega⟩ ?_)
      refine wp_of e278 c278_4 (rw_aload_n (pc' := 5) (v := .ref r0) rfl rfl rfl ?_)
      have k182253 : wLM H182247 r0 = wLM H r0 := (wLM_fr hW g0 f182249 rfl)
      have k182254 : H182247 r0 3 = H r0 3 := (f182249 r0 3 _ g0 rfl)
      have q182255 : H182247 r0 3 = (pp : Int) := k182254.trans qpp
      refine wp_of e278 c278_5 (xc_V (pc' := 8) (r := r0) (as := []) (st := [vL v182246]) (lm_9_376) rfl rfl (Nat.le_of_ble_eq_true rfl) w182248 g0 sh_42 (by decide) rfl (by decide) (s_220 w182248 g0 q182255 gpp) (fun R182256 T182257 H182258 p182259 => ?_))
      obtain ⟨e182260, e182262, z182264, e182261, b182265, p182263⟩ := p182259
      subst e182260
      subst e182261
      subst e182262
      show wp _ _ 278 8 [(2, vI v182246), (0, .ref r0), (1, vI a1)] [vL z182264, vL v182246] _ H182247 _
      refine wp_of e278 c278_8 (rw_lcmp (pc' := 9) rfl ⟨by omega, by omega⟩ ⟨by omega, by omega⟩ ?_)
      have b182266 := wq_cmp_b v182246 z182264
      refine wp_of e278 c278_9 (rw_if_ge (p1 := 50) (p2 := 12) (by decide) rfl ⟨by omega, by omega⟩ (fun c182267 => ?_) (fun c182267 => ?_))
      · refine wp_of e278 c278_50 (rw_iconst (pc' := 51) rfl ?_)
        exact wp_zreturn e278 c278_51 rfl (by omega) ⟨rfl, w182248, f182252, 1, rfl, ⟨by omega, by omega⟩⟩
      · refine wp_of e278 c278_12 (rw_aload_n (pc' := 13) (v := .ref r0) rfl rfl rfl ?_)
        refine wp_of e278 c278_13 (rw_iload_n (pc' := 14) (z := v182246) rfl rfl ?_)
        refine wp_of e278 c278_14 (xc_V (pc' := 17) (r := r0) (as := [vI v182246]) (st := []) (lm_9_425) rfl rfl (Nat.le_of_ble_eq_true rfl) w182248 g0 sh_42 (by decide) rfl (by decide) (s_243 w182248 g0 ⟨by omega, by omega⟩ q182255 gpp (by omega)) (fun R182268 T182269 H182270 p182271 => ?_))
        obtain ⟨e182272, w182274, f182275, e182273⟩ := p182271
        subst e182272
        subst e182273
        have f182276 := f182252.tr f182275 rfl
        have f182277 := f182249.tr f182275 rfl
        show wp _ _ 278 17 [(2, vI v182246), (0, .ref r0), (1, vI a1)] [] _ H182270 _
        refine wp_of e278 c278_17 (rw_aload_n (pc' := 18) (v := .ref r0) rfl rfl rfl ?_)
        refine wp_of e278 c278_18 (rw_aload_n (pc' := 19) (v := .ref r0) rfl rfl rfl ?_)
        refine wp_of e278 c278_19 (xg_R (pc' := 22) lf_9_39 w182274 g0 sh_42 (by decide) (by decide) ty_42_27 rfl rfl (fun r182278 q182279 g182280 => ?_))
        have k182281 : H182270 r0 3 = H182247 r0 3 := (f182275 r0 3 _ g0 rfl)
        have q182282 : H182270 r0 3 = (pp : Int) := k182281.trans q182255
        refine wp_of e278 c278_22 (xc_V (pc' := 25) (r := r0) (as := [.ref r182278]) (st := []) (lm_9_393) rfl rfl (Nat.le_of_ble_eq_true rfl) w182274 g0 sh_42 (by decide) rfl (by decide) (s_235_m_lot w182274 g0 g182280 q182282 gpp) (fun R182283 T182284 H182285 p182286 => ?_))
        obtain ⟨e182287, e182289, z182290, e182288, b182291⟩ := p182286
        subst e182287
        subst e182288
        subst e182289
        show wp _ _ 278 25 [(2, vI v182246), (0, .ref r0), (1, vI a1)] [vI z182290] _ H182270 _
        refine wp_of e278 c278_25 (rw_if_ne (p1 := 44) (p2 := 28) (by decide) rfl ⟨by omega, by omega⟩ (fun c182292 => ?_) (fun c182292 => ?_))
        · refine wp_of e278 c278_44 (rw_iinc (pc' := 47) (z := v182246) (L' := [(2, vI (v182246 + 1)), (0, .ref r0), (1, vI a1)]) rfl rfl rfl rfl ?_)
          refine wp_of e278 c278_47 (rw_goto (p1 := 2) (by decide) ?_)
          exact wp_lc (ks := [2, 0, 1]) (wl_c rfl (wl_c rfl (wl_c rfl wl_n))) rfl (by decide) (ih182245 _ (by omega) (v182246 + 1) H182270 w182274 f182277 ⟨by omega, by omega⟩ rfl)
        · refine wp_of e278 c278_28 (rw_aload_n (pc' := 29) (v := .ref r0) rfl rfl rfl ?_)
          refine wp_of e278 c278_29 (rw_aload_n (pc' := 30) (v := .ref r0) rfl rfl rfl ?_)
          refine wp_of e278 c278_30 (xg_K (pc' := 33) lf_9_39 w182274 g0 sh_42 (by decide) (by decide) rfl q182279 rfl ?_)
          refine wp_of e278 c278_33 (rw_iload_n (pc' := 34) (z := a1) rfl rfl ?_)
          refine wp_of e278 c278_34 (xc_V (pc' := 37) (r := r0) (as := [.ref r182278, vI a1]) (st := []) (lm_9_397) rfl rfl (Nat.le_of_ble_eq_true rfl) w182274 g0 sh_42 (by decide) rfl (by decide) (s_239_m_lot w182274 g0 g182280 ⟨by omega, by omega⟩ q182282 gpp) (fun R182293 T182294 H182295 p182296 => ?_))
          obtain ⟨e182297, e182299, z182300, e182298, b182301⟩ := p182296
          subst e182297
          subst e182298
          subst e182299
          show wp _ _ 278 37 [(2, vI v182246), (0, .ref r0), (1, vI a1)] [vI z182300] _ H182270 _
          refine wp_of e278 c278_37 (rw_bipush (pc' := 39) (z := 24) rfl (by decide) ?_)
          refine wp_of e278 c278_39 (rw_icmp_ne (p1 := 44) (p2 := 42) (by decide) rfl ⟨by omega, by omega⟩ ⟨by omega, by omega⟩ (fun c182302 => ?_) (fun c182302 => ?_))
          · refine wp_of e278 c278_44 (rw_iinc (pc' := 47) (z := v182246) (L' := [(2, vI (v182246 + 1)), (0, .ref r0), (1, vI a1)]) rfl rfl rfl rfl ?_)
            refine wp_of e278 c278_47 (rw_goto (p1 := 2) (by decide) ?_)
            exact wp_lc (ks := [2, 0, 1]) (wl_c rfl (wl_c rfl (wl_c rfl wl_n))) rfl (by decide) (ih182245 _ (by omega) (v182246 + 1) H182270 w182274 f182277 ⟨by omega, by omega⟩ rfl)
          · refine wp_of e278 c278_42 (rw_iconst (pc' := 43) rfl ?_)
            exact wp_zreturn e278 c278_43 rfl (by omega) ⟨rfl, w182274, f182276, 0, rfl, ⟨by omega, by omega⟩⟩
  exact wp_lc (ks := [2, 0, 1]) (wl_c rfl (wl_c rfl (wl_c rfl wl_n))) rfl (by decide) (lp182243 _ 0 H hW wfr.rf ⟨by omega, by omega⟩ rfl)
/-! StrikeAwakeModel.leastProof(II)I -/
theorem e277 : wq_en 277 = some (9, 6, false, some FieldType.int) := rfl
theorem cg277_0 : mc_cd 277 0 = some (.iload_n 2, 1) ∧ mc_cd 277 1 = some (.ifCond .ne 17, 3) ∧ mc_cd 277 4 = some (.aload_n 0, 1) ∧ mc_cd 277 5 = some (.iconst 0, 1) ∧ mc_cd 277 6 = some (.invokevirtual 484, 3) ∧ mc_cd 277 9 = some (.ifCond .eq 7, 3) ∧ mc_cd 277 12 = some (.iconst 0, 1) ∧ mc_cd 277 13 = some (.goto 4, 3) := by decide +kernel
theorem c277_0 : mc_cd 277 0 = some (.iload_n 2, 1) := cg277_0.1
theorem c277_1 : mc_cd 277 1 = some (.ifCond .ne 17, 3) := cg277_0.2.1
theorem c277_4 : mc_cd 277 4 = some (.aload_n 0, 1) := cg277_0.2.2.1
theorem c277_5 : mc_cd 277 5 = some (.iconst 0, 1) := cg277_0.2.2.2.1
theorem c277_6 : mc_cd 277 6 = some (.invokevirtual 484, 3) := cg277_0.2.2.2.2.1
theorem c277_9 : mc_cd 277 9 = some (.ifCond .eq 7, 3) := cg277_0.2.2.2.2.2.1
theorem c277_12 : mc_cd 277 12 = some (.iconst 0, 1) := cg277_0.2.2.2.2.2.2.1
theorem c277_13 : mc_cd 277 13 = some (.goto 4, 3) := cg277_0.2.2.2.2.2.2.2
theorem cg277_16 : mc_cd 277 16 = some (.iconst (-1), 1) ∧ mc_cd 277 17 = some (.ireturn, 1) ∧ mc_cd 277 18 = some (.iload_n 2, 1) ∧ mc_cd 277 19 = some (.iconst 1, 1) ∧ mc_cd 277 20 = some (.isub, 1) ∧ mc_cd 277 21 = some (.istore_n 3, 1) ∧ mc_cd 277 22 = some (.iload_n 3, 1) ∧ mc_cd 277 23 = some (.bipush 24, 2) := by decide +kernel
theorem c277_16 : mc_cd 277 16 = some (.iconst (-1), 1) := cg277_16.1
theorem c277_17 : mc_cd 277 17 = some (.ireturn, 1) := cg277_16.2.1
theorem c277_18 : mc_cd 277 18 = some (.iload_n 2, 1) := cg277_16.2.2.1
theorem c277_19 : mc_cd 277 19 = some (.iconst 1, 1) := cg277_16.2.2.2.1
theorem c277_20 : mc_cd 277 20 = some (.isub, 1) := cg277_16.2.2.2.2.1
theorem c277_21 : mc_cd 277 21 = some (.istore_n 3, 1) := cg277_16.2.2.2.2.2.1
theorem c277_22 : mc_cd 277 22 = some (.iload_n 3, 1) := cg277_16.2.2.2.2.2.2.1
theorem c277_23 : mc_cd 277 23 = some (.bipush 24, 2) := cg277_16.2.2.2.2.2.2.2
theorem cg277_25 : mc_cd 277 25 = some (.if_icmp .ge 166, 3) ∧ mc_cd 277 28 = some (.iload_n 1, 1) ∧ mc_cd 277 29 = some (.iload_n 3, 1) ∧ mc_cd 277 30 = some (.invokestatic 346, 3) ∧ mc_cd 277 33 = some (.ifCond .ne 6, 3) ∧ mc_cd 277 36 = some (.goto 149, 3) ∧ mc_cd 277 39 = some (.iload_n 2, 1) ∧ mc_cd 277 40 = some (.iconst 1, 1) := by decide +kernel
theorem c277_25 : mc_cd 277 25 = some (.if_icmp .ge 166, 3) := cg277_25.1
theorem c277_28 : mc_cd 277 28 = some (.iload_n 1, 1) := cg277_25.2.1
theorem c277_29 : mc_cd 277 29 = some (.iload_n 3, 1) := cg277_25.2.2.1
theorem c277_30 : mc_cd 277 30 = some (.invokestatic 346, 3) := cg277_25.2.2.2.1
theorem c277_33 : mc_cd 277 33 = some (.ifCond .ne 6, 3) := cg277_25.2.2.2.2.1
theorem c277_36 : mc_cd 277 36 = some (.goto 149, 3) := cg277_25.2.2.2.2.2.1
theorem c277_39 : mc_cd 277 39 = some (.iload_n 2, 1) := cg277_25.2.2.2.2.2.2.1
theorem c277_40 : mc_cd 277 40 = some (.iconst 1, 1) := cg277_25.2.2.2.2.2.2.2
theorem cg277_41 : mc_cd 277 41 = some (.if_icmp .ne 17, 3) ∧ mc_cd 277 44 = some (.aload_n 0, 1) ∧ mc_cd 277 45 = some (.iconst 1, 1) ∧ mc_cd 277 46 = some (.iload_n 3, 1) ∧ mc_cd 277 47 = some (.ishl, 1) ∧ mc_cd 277 48 = some (.invokevirtual 484, 3) ∧ mc_cd 277 51 = some (.ifCond .eq 7, 3) ∧ mc_cd 277 54 = some (.iconst 1, 1) := by decide +kernel
theorem c277_41 : mc_cd 277 41 = some (.if_icmp .ne 17, 3) := cg277_41.1
theorem c277_44 : mc_cd 277 44 = some (.aload_n 0, 1) := cg277_41.2.1
theorem c277_45 : mc_cd 277 45 = some (.iconst 1, 1) := cg277_41.2.2.1
theorem c277_46 : mc_cd 277 46 = some (.iload_n 3, 1) := cg277_41.2.2.2.1
theorem c277_47 : mc_cd 277 47 = some (.ishl, 1) := cg277_41.2.2.2.2.1
theorem c277_48 : mc_cd 277 48 = some (.invokevirtual 484, 3) := cg277_41.2.2.2.2.2.1
theorem c277_51 : mc_cd 277 51 = some (.ifCond .eq 7, 3) := cg277_41.2.2.2.2.2.2.1
theorem c277_54 : mc_cd 277 54 = some (.iconst 1, 1) := cg277_41.2.2.2.2.2.2.2
theorem cg277_55 : mc_cd 277 55 = some (.iload_n 3, 1) ∧ mc_cd 277 56 = some (.ishl, 1) ∧ mc_cd 277 57 = some (.ireturn, 1) ∧ mc_cd 277 58 = some (.iload_n 2, 1) ∧ mc_cd 277 59 = some (.iconst 2, 1) ∧ mc_cd 277 60 = some (.isub, 1) ∧ mc_cd 277 61 = some (.istore 4, 2) ∧ mc_cd 277 63 = some (.iload 4, 2) := by decide +kernel
theorem c277_55 : mc_cd 277 55 = some (.iload_n 3, 1) := cg277_55.1
theorem c277_56 : mc_cd 277 56 = some (.ishl, 1) := cg277_55.2.1
theorem c277_57 : mc_cd 277 57 = some (.ireturn, 1) := cg277_55.2.2.1
theorem c277_58 : mc_cd 277 58 = some (.iload_n 2, 1) := cg277_55.2.2.2.1
theorem c277_59 : mc_cd 277 59 = some (.iconst 2, 1) := cg277_55.2.2.2.2.1
theorem c277_60 : mc_cd 277 60 = some (.isub, 1) := cg277_55.2.2.2.2.2.1
theorem c277_61 : mc_cd 277 61 = some (.istore 4, 2) := cg277_55.2.2.2.2.2.2.1
theorem c277_63 : mc_cd 277 63 = some (.iload 4, 2) := cg277_55.2.2.2.2.2.2.2
theorem cg277_65 : mc_cd 277 65 = some (.iload_n 3, 1) ∧ mc_cd 277 66 = some (.if_icmp .ge 119, 3) ∧ mc_cd 277 69 = some (.iload_n 2, 1) ∧ mc_cd 277 70 = some (.iconst 1, 1) ∧ mc_cd 277 71 = some (.if_icmp .le 114, 3) ∧ mc_cd 277 74 = some (.iload_n 1, 1) ∧ mc_cd 277 75 = some (.iload 4, 2) ∧ mc_cd 277 77 = some (.invokestatic 346, 3) := by decide +kernel
theorem c277_65 : mc_cd 277 65 = some (.iload_n 3, 1) := cg277_65.1
theorem c277_66 : mc_cd 277 66 = some (.if_icmp .ge 119, 3) := cg277_65.2.1
theorem c277_69 : mc_cd 277 69 = some (.iload_n 2, 1) := cg277_65.2.2.1
theorem c277_70 : mc_cd 277 70 = some (.iconst 1, 1) := cg277_65.2.2.2.1
theorem c277_71 : mc_cd 277 71 = some (.if_icmp .le 114, 3) := cg277_65.2.2.2.2.1
theorem c277_74 : mc_cd 277 74 = some (.iload_n 1, 1) := cg277_65.2.2.2.2.2.1
theorem c277_75 : mc_cd 277 75 = some (.iload 4, 2) := cg277_65.2.2.2.2.2.2.1
theorem c277_77 : mc_cd 277 77 = some (.invokestatic 346, 3) := cg277_65.2.2.2.2.2.2.2
theorem cg277_80 : mc_cd 277 80 = some (.ifCond .ne 6, 3) ∧ mc_cd 277 83 = some (.goto 96, 3) ∧ mc_cd 277 86 = some (.iload_n 2, 1) ∧ mc_cd 277 87 = some (.iconst 2, 1) ∧ mc_cd 277 88 = some (.if_icmp .ne 27, 3) ∧ mc_cd 277 91 = some (.aload_n 0, 1) ∧ mc_cd 277 92 = some (.iconst 1, 1) ∧ mc_cd 277 93 = some (.iload_n 3, 1) := by decide +kernel
theorem c277_80 : mc_cd 277 80 = some (.ifCond .ne 6, 3) := cg277_80.1
theorem c277_83 : mc_cd 277 83 = some (.goto 96, 3) := cg277_80.2.1
theorem c277_86 : mc_cd 277 86 = some (.iload_n 2, 1) := cg277_80.2.2.1
theorem c277_87 : mc_cd 277 87 = some (.iconst 2, 1) := cg277_80.2.2.2.1
theorem c277_88 : mc_cd 277 88 = some (.if_icmp .ne 27, 3) := cg277_80.2.2.2.2.1
theorem c277_91 : mc_cd 277 91 = some (.aload_n 0, 1) := cg277_80.2.2.2.2.2.1
theorem c277_92 : mc_cd 277 92 = some (.iconst 1, 1) := cg277_80.2.2.2.2.2.2.1
theorem c277_93 : mc_cd 277 93 = some (.iload_n 3, 1) := cg277_80.2.2.2.2.2.2.2
theorem cg277_94 : mc_cd 277 94 = some (.ishl, 1) ∧ mc_cd 277 95 = some (.iconst 1, 1) ∧ mc_cd 277 96 = some (.iload 4, 2) ∧ mc_cd 277 98 = some (.ishl, 1) ∧ mc_cd 277 99 = some (.ior, 1) ∧ mc_cd 277 100 = some (.invokevirtual 484, 3) ∧ mc_cd 277 103 = some (.ifCond .eq 12, 3) ∧ mc_cd 277 106 = some (.iconst 1, 1) := by decide +kernel
theorem c277_94 : mc_cd 277 94 = some (.ishl, 1) := cg277_94.1
theorem c277_95 : mc_cd 277 95 = some (.iconst 1, 1) := cg277_94.2.1
theorem c277_96 : mc_cd 277 96 = some (.iload 4, 2) := cg277_94.2.2.1
theorem c277_98 : mc_cd 277 98 = some (.ishl, 1) := cg277_94.2.2.2.1
theorem c277_99 : mc_cd 277 99 = some (.ior, 1) := cg277_94.2.2.2.2.1
theorem c277_100 : mc_cd 277 100 = some (.invokevirtual 484, 3) := cg277_94.2.2.2.2.2.1
theorem c277_103 : mc_cd 277 103 = some (.ifCond .eq 12, 3) := cg277_94.2.2.2.2.2.2.1
theorem c277_106 : mc_cd 277 106 = some (.iconst 1, 1) := cg277_94.2.2.2.2.2.2.2
theorem cg277_107 : mc_cd 277 107 = some (.iload_n 3, 1) ∧ mc_cd 277 108 = some (.ishl, 1) ∧ mc_cd 277 109 = some (.iconst 1, 1) ∧ mc_cd 277 110 = some (.iload 4, 2) ∧ mc_cd 277 112 = some (.ishl, 1) ∧ mc_cd 277 113 = some (.ior, 1) ∧ mc_cd 277 114 = some (.ireturn, 1) ∧ mc_cd 277 115 = some (.iconst 0, 1) := by decide +kernel
theorem c277_107 : mc_cd 277 107 = some (.iload_n 3, 1) := cg277_107.1
theorem c277_108 : mc_cd 277 108 = some (.ishl, 1) := cg277_107.2.1
theorem c277_109 : mc_cd 277 109 = some (.iconst 1, 1) := cg277_107.2.2.1
theorem c277_110 : mc_cd 277 110 = some (.iload 4, 2) := cg277_107.2.2.2.1
theorem c277_112 : mc_cd 277 112 = some (.ishl, 1) := cg277_107.2.2.2.2.1
theorem c277_113 : mc_cd 277 113 = some (.ior, 1) := cg277_107.2.2.2.2.2.1
theorem c277_114 : mc_cd 277 114 = some (.ireturn, 1) := cg277_107.2.2.2.2.2.2.1
theorem c277_115 : mc_cd 277 115 = some (.iconst 0, 1) := cg277_107.2.2.2.2.2.2.2
theorem cg277_116 : mc_cd 277 116 = some (.istore 5, 2) ∧ mc_cd 277 118 = some (.iload 5, 2) ∧ mc_cd 277 120 = some (.iload 4, 2) ∧ mc_cd 277 122 = some (.if_icmp .ge 57, 3) ∧ mc_cd 277 125 = some (.iload_n 2, 1) ∧ mc_cd 277 126 = some (.iconst 2, 1) ∧ mc_cd 277 127 = some (.if_icmp .le 52, 3) ∧ mc_cd 277 130 = some (.iload_n 1, 1) := by decide +kernel
theorem c277_116 : mc_cd 277 116 = some (.istore 5, 2) := cg277_116.1
theorem c277_118 : mc_cd 277 118 = some (.iload 5, 2) := cg277_116.2.1
theorem c277_120 : mc_cd 277 120 = some (.iload 4, 2) := cg277_116.2.2.1
theorem c277_122 : mc_cd 277 122 = some (.if_icmp .ge 57, 3) := cg277_116.2.2.2.1
theorem c277_125 : mc_cd 277 125 = some (.iload_n 2, 1) := cg277_116.2.2.2.2.1
theorem c277_126 : mc_cd 277 126 = some (.iconst 2, 1) := cg277_116.2.2.2.2.2.1
theorem c277_127 : mc_cd 277 127 = some (.if_icmp .le 52, 3) := cg277_116.2.2.2.2.2.2.1
theorem c277_130 : mc_cd 277 130 = some (.iload_n 1, 1) := cg277_116.2.2.2.2.2.2.2
theorem cg277_131 : mc_cd 277 131 = some (.iload 5, 2) ∧ mc_cd 277 133 = some (.invokestatic 346, 3) ∧ mc_cd 277 136 = some (.ifCond .eq 37, 3) ∧ mc_cd 277 139 = some (.aload_n 0, 1) ∧ mc_cd 277 140 = some (.iconst 1, 1) ∧ mc_cd 277 141 = some (.iload_n 3, 1) ∧ mc_cd 277 142 = some (.ishl, 1) ∧ mc_cd 277 143 = some (.iconst 1, 1) := by decide +kernel
theorem c277_131 : mc_cd 277 131 = some (.iload 5, 2) := cg277_131.1
theorem c277_133 : mc_cd 277 133 = some (.invokestatic 346, 3) := cg277_131.2.1
theorem c277_136 : mc_cd 277 136 = some (.ifCond .eq 37, 3) := cg277_131.2.2.1
theorem c277_139 : mc_cd 277 139 = some (.aload_n 0, 1) := cg277_131.2.2.2.1
theorem c277_140 : mc_cd 277 140 = some (.iconst 1, 1) := cg277_131.2.2.2.2.1
theorem c277_141 : mc_cd 277 141 = some (.iload_n 3, 1) := cg277_131.2.2.2.2.2.1
theorem c277_142 : mc_cd 277 142 = some (.ishl, 1) := cg277_131.2.2.2.2.2.2.1
theorem c277_143 : mc_cd 277 143 = some (.iconst 1, 1) := cg277_131.2.2.2.2.2.2.2
theorem cg277_144 : mc_cd 277 144 = some (.iload 4, 2) ∧ mc_cd 277 146 = some (.ishl, 1) ∧ mc_cd 277 147 = some (.ior, 1) ∧ mc_cd 277 148 = some (.iconst 1, 1) ∧ mc_cd 277 149 = some (.iload 5, 2) ∧ mc_cd 277 151 = some (.ishl, 1) ∧ mc_cd 277 152 = some (.ior, 1) ∧ mc_cd 277 153 = some (.invokevirtual 484, 3) := by decide +kernel
theorem c277_144 : mc_cd 277 144 = some (.iload 4, 2) := cg277_144.1
theorem c277_146 : mc_cd 277 146 = some (.ishl, 1) := cg277_144.2.1
theorem c277_147 : mc_cd 277 147 = some (.ior, 1) := cg277_144.2.2.1
theorem c277_148 : mc_cd 277 148 = some (.iconst 1, 1) := cg277_144.2.2.2.1
theorem c277_149 : mc_cd 277 149 = some (.iload 5, 2) := cg277_144.2.2.2.2.1
theorem c277_151 : mc_cd 277 151 = some (.ishl, 1) := cg277_144.2.2.2.2.2.1
theorem c277_152 : mc_cd 277 152 = some (.ior, 1) := cg277_144.2.2.2.2.2.2.1
theorem c277_153 : mc_cd 277 153 = some (.invokevirtual 484, 3) := cg277_144.2.2.2.2.2.2.2
theorem cg277_156 : mc_cd 277 156 = some (.ifCond .eq 17, 3) ∧ mc_cd 277 159 = some (.iconst 1, 1) ∧ mc_cd 277 160 = some (.iload_n 3, 1) ∧ mc_cd 277 161 = some (.ishl, 1) ∧ mc_cd 277 162 = some (.iconst 1, 1) ∧ mc_cd 277 163 = some (.iload 4, 2) ∧ mc_cd 277 165 = some (.ishl, 1) ∧ mc_cd 277 166 = some (.ior, 1) := by decide +kernel
theorem c277_156 : mc_cd 277 156 = some (.ifCond .eq 17, 3) := cg277_156.1
theorem c277_159 : mc_cd 277 159 = some (.iconst 1, 1) := cg277_156.2.1
theorem c277_160 : mc_cd 277 160 = some (.iload_n 3, 1) := cg277_156.2.2.1
theorem c277_161 : mc_cd 277 161 = some (.ishl, 1) := cg277_156.2.2.2.1
theorem c277_162 : mc_cd 277 162 = some (.iconst 1, 1) := cg277_156.2.2.2.2.1
theorem c277_163 : mc_cd 277 163 = some (.iload 4, 2) := cg277_156.2.2.2.2.2.1
theorem c277_165 : mc_cd 277 165 = some (.ishl, 1) := cg277_156.2.2.2.2.2.2.1
theorem c277_166 : mc_cd 277 166 = some (.ior, 1) := cg277_156.2.2.2.2.2.2.2
theorem cg277_167 : mc_cd 277 167 = some (.iconst 1, 1) ∧ mc_cd 277 168 = some (.iload 5, 2) ∧ mc_cd 277 170 = some (.ishl, 1) ∧ mc_cd 277 171 = some (.ior, 1) ∧ mc_cd 277 172 = some (.ireturn, 1) ∧ mc_cd 277 173 = some (.iinc 5 1, 3) ∧ mc_cd 277 176 = some (.goto (-58), 3) ∧ mc_cd 277 179 = some (.iinc 4 1, 3) := by decide +kernel
theorem c277_167 : mc_cd 277 167 = some (.iconst 1, 1) := cg277_167.1
theorem c277_168 : mc_cd 277 168 = some (.iload 5, 2) := cg277_167.2.1
theorem c277_170 : mc_cd 277 170 = some (.ishl, 1) := cg277_167.2.2.1
theorem c277_171 : mc_cd 277 171 = some (.ior, 1) := cg277_167.2.2.2.1
theorem c277_172 : mc_cd 277 172 = some (.ireturn, 1) := cg277_167.2.2.2.2.1
theorem c277_173 : mc_cd 277 173 = some (.iinc 5 1, 3) := cg277_167.2.2.2.2.2.1
theorem c277_176 : mc_cd 277 176 = some (.goto (-58), 3) := cg277_167.2.2.2.2.2.2.1
theorem c277_179 : mc_cd 277 179 = some (.iinc 4 1, 3) := cg277_167.2.2.2.2.2.2.2
theorem cg277_182 : mc_cd 277 182 = some (.goto (-119), 3) ∧ mc_cd 277 185 = some (.iinc 3 1, 3) ∧ mc_cd 277 188 = some (.goto (-166), 3) ∧ mc_cd 277 191 = some (.iconst (-1), 1) ∧ mc_cd 277 192 = some (.ireturn, 1) := by decide +kernel
theorem c277_182 : mc_cd 277 182 = some (.goto (-119), 3) := cg277_182.1
theorem c277_185 : mc_cd 277 185 = some (.iinc 3 1, 3) := cg277_182.2.1
theorem c277_188 : mc_cd 277 188 = some (.goto (-166), 3) := cg277_182.2.2.1
theorem c277_191 : mc_cd 277 191 = some (.iconst (-1), 1) := cg277_182.2.2.2.1
theorem c277_192 : mc_cd 277 192 = some (.ireturn, 1) := cg277_182.2.2.2.2
abbrev q_277 (r0 : Nat) (a1 : Int) (a2 : Int) (pp : Nat) (T : wq_T) (H : wq_H) : Option Value → wq_T → wq_H → Prop := fun r T' H' => T = T' ∧ WT T H' ∧ wfr [(51, 999)] T H H' ∧ ∃ z : Int, some (vI z) = r ∧ ((-2147483648) ≤ z ∧ z ≤ 2147483647)
set_option maxHeartbeats 4000000 in
theorem s_277 {kt : Nat → Option mc_E} {T : wq_T} {H : wq_H} {r0 : Nat} {a1 : Int} {a2 : Int} {pp : Nat} (hW : WT T H) (g0 : T.2.2.2 r0 = some 42) (i1 : (-2147483648) ≤ a1 ∧ a1 ≤ 2147483647) (i2 : 0 ≤ a2 ∧ a2 ≤ 3) (qpp : H r0 3 = (pp : Int)) (gpp : T.2.2.2 pp = some 54) (p0 : wLM H r0 ≤ 20000) : wpc kt 6 277 [.ref r0, vI a1, vI a2] T H (q_277 r0 a1 a2 pp T H) := by
  refine wp_enter e277 (Nat.le_of_ble_eq_true rfl) rfl ?_
  have f0 : wfr [(51, 999)] T H H := wfr.rf
  show wp _ _ 277 0 [(0, .ref r0), (1, vI a1), (2, vI a2)] [] _ H _
  refine wp_of e277 c277_0 (rw_iload_n (pc' := 1) (z := a2) rfl rfl ?_)
  refine wp_of e277 c277_1 (rw_if_ne (p1 := 18) (p2 := 4) (by decide) rfl ⟨by omega, by omega⟩ (fun c197778 => ?_) (fun c197778 => ?_))
  · refine wp_of e277 c277_18 (rw_iload_n (pc' := 19) (z := a2) rfl rfl ?_)
    refine wp_of e277 c277_19 (rw_iconst (pc' := 20) rfl ?_)
    refine wp_of e277 c277_20 (rw_isub (pc' := 21) rfl ?_)
    refine wp_of e277 c277_21 (rw_istore_n (pc' := 22) (z := a2 - 1) (L' := [(3, vI (a2 - 1)), (0, .ref r0), (1, vI a1), (2, vI a2)]) rfl rfl rfl ?_)
    have lp210607 : ∀ (n210608 : Nat) (v210610 : Int) (H210611 : wq_H), WT T H210611 → wfr [(51, 999)] T H H210611 → (0 ≤ v210610 ∧ v210610 ≤ 24) → (24 - v210610).toNat = n210608 → wp kt 5 277 22 [(3, vI v210610), (0, .ref r0), (1, vI a1), (2, vI a2)] [] T H210611 (q_277 r0 a1 a2 pp T H) := by
      intro n210608
      induction n210608 using Nat.strongRecOn with
      | _ n210608 ih210609 =>
        intro v210610 H210611 w210612 f210613 b210614 m210615
        have f210616 := f0.tr f210613 rfl
        refine wp_of e277 c277_22 (rw_iload_n (pc' := 23) (z := v210610) rfl rfl ?_)
        refine wp_of e277 c277_23 (rw_bipush (pc' := 25) (z := 24) rfl (by decide) ?_)
        refine wp_of e277 c277_25 (rw_icmp_ge (p1 := 191) (p2 := 28) (by decide) rfl ⟨by omega, by omega⟩ ⟨by omega, by omega⟩ (fun c210617 => ?_) (fun c210617 => ?_))
        · refine wp_of e277 c277_191 (rw_iconst (pc' := 192) rfl ?_)
          exact wp_ireturn e277 c277_192 rfl ⟨rfl, w210612, f210616, -1, rfl, ⟨by omega, by omega⟩⟩
        · refine wp_of e277 c277_28 (rw_iload_n (pc' := 29) (z := a1) rfl rfl ?_)
          refine wp_of e277 c277_29 (rw_iload_n (pc' := 30) (z := v210610) rfl rfl ?_)
          refine wp_of e277 c277_30 (xc_S (pc' := 33) (as := [vI a1, vI v210610]) (st := []) (lm_9_346) rfl rfl (Nat.le_of_ble_eq_true rfl) rfl (by decide) (s_205 w210612 ⟨by omega, by omega⟩ ⟨by omega, by omega⟩) (fun R210618 T210619 H210620 p210621 => ?_))
          obtain ⟨e210622, e210624, z210625, e210623, b210626⟩ := p210621
          subst e210622
          subst e210623
          subst e210624
          show wp _ _ 277 33 [(3, vI v210610), (0, .ref r0), (1, vI a1), (2, vI a2)] [vI z210625] _ H210611 _
          refine wp_of e277 c277_33 (rw_if_ne (p1 := 39) (p2 := 36) (by decide) rfl ⟨by omega, by omega⟩ (fun c210627 => ?_) (fun c210627 => ?_))
          · refine wp_of e277 c277_39 (rw_iload_n (pc' := 40) (z := a2) rfl rfl ?_)
            refine wp_of e277 c277_40 (rw_iconst (pc' := 41) rfl ?_)
            refine wp_of e277 c277_41 (rw_icmp_ne (p1 := 58) (p2 := 44) (by decide) rfl ⟨by omega, by omega⟩ ⟨by omega, by omega⟩ (fun c210628 => ?_) (fun c210628 => ?_))
            · refine wp_of e277 c277_58 (rw_iload_n (pc' := 59) (z := a2) rfl rfl ?_)
              refine wp_of e277 c277_59 (rw_iconst (pc' := 60) rfl ?_)
              refine wp_of e277 c277_60 (rw_isub (pc' := 61) rfl ?_)
              refine wp_of e277 c277_61 (rw_istore (pc' := 63) (z := a2 - 2) (L' := [(4, vI (a2 - 2)), (3, vI v210610), (0, .ref r0), (1, vI a1), (2, vI a2)]) rfl rfl rfl ?_)
              have lp212895 : ∀ (n212896 : Nat) (v212898 : Int) (H212899 : wq_H), WT T H212899 → wfr [(51, 999)] T H210611 H212899 → (0 ≤ v212898 ∧ v212898 ≤ 23) → (23 - v212898).toNat = n212896 → wp kt 5 277 63 [(4, vI v212898), (3, vI v210610), (0, .ref r0), (1, vI a1), (2, vI a2)] [] T H212899 (q_277 r0 a1 a2 pp T H) := by
                intro n212896
                induction n212896 using Nat.strongRecOn with
                | _ n212896 ih212897 =>
                  intro v212898 H212899 w212900 f212901 b212902 m212903
                  have f212904 := f210616.tr f212901 rfl
                  have f212905 := f210613.tr f212901 rfl
                  refine wp_of e277 c277_63 (rw_iload (pc' := 65) (z := v212898) rfl rfl ?_)
                  refine wp_of e277 c277_65 (rw_iload_n (pc' := 66) (z := v210610) rfl rfl ?_)
                  refine wp_of e277 c277_66 (rw_icmp_ge (p1 := 185) (p2 := 69) (by decide) rfl ⟨by omega, by omega⟩ ⟨by omega, by omega⟩ (fun c212906 => ?_) (fun c212906 => ?_))
                  · refine wp_of e277 c277_185 (rw_iinc (pc' := 188) (z := v210610) (L' := [(3, vI (v210610 + 1)), (4, vI v212898), (0, .ref r0), (1, vI a1), (2, vI a2)]) rfl rfl rfl rfl ?_)
                    refine wp_of e277 c277_188 (rw_goto (p1 := 22) (by decide) ?_)
                    exact wp_lc (ks := [3, 4, 0, 1, 2]) (wl_c rfl (wl_c rfl (wl_c rfl (wl_c rfl wl_n)))) rfl (by decide) (ih210609 _ (by omega) (v210610 + 1) H212899 w212900 f212905 ⟨by omega, by omega⟩ rfl)
                  · refine wp_of e277 c277_69 (rw_iload_n (pc' := 70) (z := a2) rfl rfl ?_)
                    refine wp_of e277 c277_70 (rw_iconst (pc' := 71) rfl ?_)
                    refine wp_of e277 c277_71 (rw_icmp_le (p1 := 185) (p2 := 74) (by decide) rfl ⟨by omega, by omega⟩ ⟨by omega, by omega⟩ (fun c212907 => ?_) (fun c212907 => ?_))
                    · exfalso
                      omega
                    · refine wp_of e277 c277_74 (rw_iload_n (pc' := 75) (z := a1) rfl rfl ?_)
                      refine wp_of e277 c277_75 (rw_iload (pc' := 77) (z := v212898) rfl rfl ?_)
                      refine wp_of e277 c277_77 (xc_S (pc' := 80) (as := [vI a1, vI v212898]) (st := []) (lm_9_346) rfl rfl (Nat.le_of_ble_eq_true rfl) rfl (by decide) (s_205 w212900 ⟨by omega, by omega⟩ ⟨by omega, by omega⟩) (fun R212908 T212909 H212910 p212911 => ?_))
                      obtain ⟨e212912, e212914, z212915, e212913, b212916⟩ := p212911
                      subst e212912
                      subst e212913
                      subst e212914
                      show wp _ _ 277 80 [(4, vI v212898), (3, vI v210610), (0, .ref r0), (1, vI a1), (2, vI a2)] [vI z212915] _ H212899 _
                      refine wp_of e277 c277_80 (rw_if_ne (p1 := 86) (p2 := 83) (by decide) rfl ⟨by omega, by omega⟩ (fun c212917 => ?_) (fun c212917 => ?_))
                      · refine wp_of e277 c277_86 (rw_iload_n (pc' := 87) (z := a2) rfl rfl ?_)
                        refine wp_of e277 c277_87 (rw_iconst (pc' := 88) rfl ?_)
                        refine wp_of e277 c277_88 (rw_icmp_ne (p1 := 115) (p2 := 91) (by decide) rfl ⟨by omega, by omega⟩ ⟨by omega, by omega⟩ (fun c212918 => ?_) (fun c212918 => ?_))
                        · refine wp_of e277 c277_115 (rw_iconst (pc' := 116) rfl ?_)
                          refine wp_of e277 c277_116 (rw_istore (pc' := 118) (z := 0) (L' := [(5, vI 0), (4, vI v212898), (3, vI v210610), (0, .ref r0), (1, vI a1), (2, vI a2)]) rfl rfl rfl ?_)
                          have lp213231 : ∀ (n213232 : Nat) (v213234 : Int) (H213235 : wq_H), WT T H213235 → wfr [(51, 999)] T H212899 H213235 → (0 ≤ v213234 ∧ v213234 ≤ 22) → (22 - v213234).toNat = n213232 → wp kt 5 277 118 [(5, vI v213234), (4, vI v212898), (3, vI v210610), (0, .ref r0), (1, vI a1), (2, vI a2)] [] T H213235 (q_277 r0 a1 a2 pp T H) := by
                            intro n213232
                            induction n213232 using Nat.strongRecOn with
                            | _ n213232 ih213233 =>
                              intro v213234 H213235 w213236 f213237 b213238 m213239
                              have f213240 := f212904.tr f213237 rfl
                              have f213241 := f212905.tr f213237 rfl
                              have f213242 := f212901.tr f213237 rfl
                              refine wp_of e277 c277_118 (rw_iload (pc' := 120) (z := v213234) rfl rfl ?_)
                              refine wp_of e277 c277_120 (rw_iload (pc' := 122) (z := v212898) rfl rfl ?_)
                              refine wp_of e277 c277_122 (rw_icmp_ge (p1 := 179) (p2 := 125) (by decide) rfl ⟨by omega, by omega⟩ ⟨by omega, by omega⟩ (fun c213243 => ?_) (fun c213243 => ?_))
                              · refine wp_of e277 c277_179 (rw_iinc (pc' := 182) (z := v212898) (L' := [(4, vI (v212898 + 1)), (5, vI v213234), (3, vI v210610), (0, .ref r0), (1, vI a1), (2, vI a2)]) rfl rfl rfl rfl ?_)
                                refine wp_of e277 c277_182 (rw_goto (p1 := 63) (by decide) ?_)
                                exact wp_lc (ks := [4, 5, 3, 0, 1, 2]) (wl_c rfl (wl_c rfl (wl_c rfl (wl_c rfl (wl_c rfl wl_n))))) rfl (by decide) (ih212897 _ (by omega) (v212898 + 1) H213235 w213236 f213242 ⟨by omega, by omega⟩ rfl)
                              · refine wp_of e277 c277_125 (rw_iload_n (pc' := 126) (z := a2) rfl rfl ?_)
                                refine wp_of e277 c277_126 (rw_iconst (pc' := 127) rfl ?_)
                                refine wp_of e277 c277_127 (rw_icmp_le (p1 := 179) (p2 := 130) (by decide) rfl ⟨by omega, by omega⟩ ⟨by omega, by omega⟩ (fun c213244 => ?_) (fun c213244 => ?_))
                                · exfalso
                                  omega
                                · refine wp_of e277 c277_130 (rw_iload_n (pc' := 131) (z := a1) rfl rfl ?_)
                                  refine wp_of e277 c277_131 (rw_iload (pc' := 133) (z := v213234) rfl rfl ?_)
                                  refine wp_of e277 c277_133 (xc_S (pc' := 136) (as := [vI a1, vI v213234]) (st := []) (lm_9_346) rfl rfl (Nat.le_of_ble_eq_true rfl) rfl (by decide) (s_205 w213236 ⟨by omega, by omega⟩ ⟨by omega, by omega⟩) (fun R213245 T213246 H213247 p213248 => ?_))
                                  obtain ⟨e213249, e213251, z213252, e213250, b213253⟩ := p213248
                                  subst e213249
                                  subst e213250
                                  subst e213251
                                  show wp _ _ 277 136 [(5, vI v213234), (4, vI v212898), (3, vI v210610), (0, .ref r0), (1, vI a1), (2, vI a2)] [vI z213252] _ H213235 _
                                  refine wp_of e277 c277_136 (rw_if_eq (p1 := 173) (p2 := 139) (by decide) rfl ⟨by omega, by omega⟩ (fun c213254 => ?_) (fun c213254 => ?_))
                                  · refine wp_of e277 c277_173 (rw_iinc (pc' := 176) (z := v213234) (L' := [(5, vI (v213234 + 1)), (4, vI v212898), (3, vI v210610), (0, .ref r0), (1, vI a1), (2, vI a2)]) rfl rfl rfl rfl ?_)
                                    refine wp_of e277 c277_176 (rw_goto (p1 := 118) (by decide) ?_)
                                    exact wp_lc (ks := [5, 4, 3, 0, 1, 2]) (wl_c rfl (wl_c rfl (wl_c rfl (wl_c rfl (wl_c rfl (wl_c rfl wl_n)))))) rfl (by decide) (ih213233 _ (by omega) (v213234 + 1) H213235 w213236 f213237 ⟨by omega, by omega⟩ rfl)
                                  · refine wp_of e277 c277_139 (rw_aload_n (pc' := 140) (v := .ref r0) rfl rfl rfl ?_)
                                    refine wp_of e277 c277_140 (rw_iconst (pc' := 141) rfl ?_)
                                    refine wp_of e277 c277_141 (rw_iload_n (pc' := 142) (z := v210610) rfl rfl ?_)
                                    refine wp_of e277 c277_142 (rw_ishl (pc' := 143) rfl ?_)
                                    obtain ⟨v213255, e213256⟩ : ∃ x : Int, x = wq_shl 1 v210610 := ⟨_, rfl⟩
                                    rw [← e213256]
                                    have b213257 : 1 ≤ v213255 ∧ v213255 ≤ 8388608 := by
                                      rw [e213256]
                                      exact wq_shl1_24 ⟨by omega, by omega⟩
                                    refine wp_of e277 c277_143 (rw_iconst (pc' := 144) rfl ?_)
                                    refine wp_of e277 c277_144 (rw_iload (pc' := 146) (z := v212898) rfl rfl ?_)
                                    refine wp_of e277 c277_146 (rw_ishl (pc' := 147) rfl ?_)
                                    obtain ⟨v213258, e213259⟩ : ∃ x : Int, x = wq_shl 1 v212898 := ⟨_, rfl⟩
                                    rw [← e213259]
                                    have b213260 : 1 ≤ v213258 ∧ v213258 ≤ 8388608 := by
                                      rw [e213259]
                                      exact wq_shl1_24 ⟨by omega, by omega⟩
                                    refine wp_of e277 c277_147 (rw_ior (pc' := 148) rfl ?_)
                                    obtain ⟨v213261, e213262⟩ : ∃ x : Int, x = wq_or v213255 v213258 := ⟨_, rfl⟩
                                    rw [← e213262]
                                    have b213263 : 0 ≤ v213261 ∧ v213261 ≤ 16777215 := by
                                      rw [e213262]
                                      exact wq_or_24 ⟨by omega, by omega⟩ ⟨by omega, by omega⟩
                                    refine wp_of e277 c277_148 (rw_iconst (pc' := 149) rfl ?_)
                                    refine wp_of e277 c277_149 (rw_iload (pc' := 151) (z := v213234) rfl rfl ?_)
                                    refine wp_of e277 c277_151 (rw_ishl (pc' := 152) rfl ?_)
                                    obtain ⟨v213264, e213265⟩ : ∃ x : Int, x = wq_shl 1 v213234 := ⟨_, rfl⟩
                                    rw [← e213265]
                                    have b213266 : 1 ≤ v213264 ∧ v213264 ≤ 8388608 := by
                                      rw [e213265]
                                      exact wq_shl1_24 ⟨by omega, by omega⟩
                                    refine wp_of e277 c277_152 (rw_ior (pc' := 153) rfl ?_)
                                    obtain ⟨v213267, e213268⟩ : ∃ x : Int, x = wq_or v213261 v213264 := ⟨_, rfl⟩
                                    rw [← e213268]
                                    have b213269 : 0 ≤ v213267 ∧ v213267 ≤ 16777215 := by
                                      rw [e213268]
                                      exact wq_or_24 ⟨by omega, by omega⟩ ⟨by omega, by omega⟩
                                    have k213270 : wLM H213235 r0 = wLM H r0 := ((wLM_fr w212900 g0 f213237 rfl).trans ((wLM_fr w210612 g0 f212901 rfl).trans (wLM_fr hW g0 f210613 rfl)))
                                    have k213271 : H213235 r0 3 = H r0 3 := ((f213237 r0 3 _ g0 rfl).trans ((f212901 r0 3 _ g0 rfl).trans (f210613 r0 3 _ g0 rfl)))
                                    have q213272 : H213235 r0 3 = (pp : Int) := k213271.trans qpp
                                    refine wp_of e277 c277_153 (xc_V (pc' := 156) (r := r0) (as := [vI v213267]) (st := []) (lm_9_484) rfl rfl (Nat.le_of_ble_eq_true rfl) w213236 g0 sh_42 (by decide) rfl (by decide) (s_278 w213236 g0 ⟨by omega, by omega⟩ q213272 gpp (by omega)) (fun R213273 T213274 H213275 p213276 => ?_))
                                    obtain ⟨e213277, w213279, f213280, z213281, e213278, b213282⟩ := p213276
                                    subst e213277
                                    subst e213278
                                    have f213283 := f213240.tr f213280 rfl
                                    have f213284 := f213241.tr f213280 rfl
                                    have f213285 := f213242.tr f213280 rfl
                                    have f213286 := f213237.tr f213280 rfl
                                    show wp _ _ 277 156 [(5, vI v213234), (4, vI v212898), (3, vI v210610), (0, .ref r0), (1, vI a1), (2, vI a2)] [vI z213281] _ H213275 _
                                    refine wp_of e277 c277_156 (rw_if_eq (p1 := 173) (p2 := 159) (by decide) rfl ⟨by omega, by omega⟩ (fun c213287 => ?_) (fun c213287 => ?_))
                                    · refine wp_of e277 c277_173 (rw_iinc (pc' := 176) (z := v213234) (L' := [(5, vI (v213234 + 1)), (4, vI v212898), (3, vI v210610), (0, .ref r0), (1, vI a1), (2, vI a2)]) rfl rfl rfl rfl ?_)
                                      refine wp_of e277 c277_176 (rw_goto (p1 := 118) (by decide) ?_)
                                      exact wp_lc (ks := [5, 4, 3, 0, 1, 2]) (wl_c rfl (wl_c rfl (wl_c rfl (wl_c rfl (wl_c rfl (wl_c rfl wl_n)))))) rfl (by decide) (ih213233 _ (by omega) (v213234 + 1) H213275 w213279 f213286 ⟨by omega, by omega⟩ rfl)
                                    · refine wp_of e277 c277_159 (rw_iconst (pc' := 160) rfl ?_)
                                      refine wp_of e277 c277_160 (rw_iload_n (pc' := 161) (z := v210610) rfl rfl ?_)
                                      refine wp_of e277 c277_161 (rw_ishl (pc' := 162) rfl ?_)
                                      obtain ⟨v213288, e213289⟩ : ∃ x : Int, x = wq_shl 1 v210610 := ⟨_, rfl⟩
                                      rw [← e213289]
                                      have b213290 : 1 ≤ v213288 ∧ v213288 ≤ 8388608 := by
                                        rw [e213289]
                                        exact wq_shl1_24 ⟨by omega, by omega⟩
                                      refine wp_of e277 c277_162 (rw_iconst (pc' := 163) rfl ?_)
                                      refine wp_of e277 c277_163 (rw_iload (pc' := 165) (z := v212898) rfl rfl ?_)
                                      refine wp_of e277 c277_165 (rw_ishl (pc' := 166) rfl ?_)
                                      obtain ⟨v213291, e213292⟩ : ∃ x : Int, x = wq_shl 1 v212898 := ⟨_, rfl⟩
                                      rw [← e213292]
                                      have b213293 : 1 ≤ v213291 ∧ v213291 ≤ 8388608 := by
                                        rw [e213292]
                                        exact wq_shl1_24 ⟨by omega, by omega⟩
                                      refine wp_of e277 c277_166 (rw_ior (pc' := 167) rfl ?_)
                                      obtain ⟨v213294, e213295⟩ : ∃ x : Int, x = wq_or v213288 v213291 := ⟨_, rfl⟩
                                      rw [← e213295]
                                      have b213296 : 0 ≤ v213294 ∧ v213294 ≤ 16777215 := by
                                        rw [e213295]
                                        exact wq_or_24 ⟨by omega, by omega⟩ ⟨by omega, by omega⟩
                                      refine wp_of e277 c277_167 (rw_iconst (pc' := 168) rfl ?_)
                                      refine wp_of e277 c277_168 (rw_iload (pc' := 170) (z := v213234) rfl rfl ?_)
                                      refine wp_of e277 c277_170 (rw_ishl (pc' := 171) rfl ?_)
                                      obtain ⟨v213297, e213298⟩ : ∃ x : Int, x = wq_shl 1 v213234 := ⟨_, rfl⟩
                                      rw [← e213298]
                                      have b213299 : 1 ≤ v213297 ∧ v213297 ≤ 8388608 := by
                                        rw [e213298]
                                        exact wq_shl1_24 ⟨by omega, by omega⟩
                                      refine wp_of e277 c277_171 (rw_ior (pc' := 172) rfl ?_)
                                      obtain ⟨v213300, e213301⟩ : ∃ x : Int, x = wq_or v213294 v213297 := ⟨_, rfl⟩
                                      rw [← e213301]
                                      have b213302 : 0 ≤ v213300 ∧ v213300 ≤ 16777215 := by
                                        rw [e213301]
                                        exact wq_or_24 ⟨by omega, by omega⟩ ⟨by omega, by omega⟩
                                      exact wp_ireturn e277 c277_172 rfl ⟨rfl, w213279, f213283, v213300, rfl, ⟨by omega, by omega⟩⟩
                          exact wp_lc (ks := [5, 4, 3, 0, 1, 2]) (wl_c rfl (wl_c rfl (wl_c rfl (wl_c rfl (wl_c rfl (wl_c rfl wl_n)))))) rfl (by decide) (lp213231 _ 0 H212899 w212900 wfr.rf ⟨by omega, by omega⟩ rfl)
                        · refine wp_of e277 c277_91 (rw_aload_n (pc' := 92) (v := .ref r0) rfl rfl rfl ?_)
                          refine wp_of e277 c277_92 (rw_iconst (pc' := 93) rfl ?_)
                          refine wp_of e277 c277_93 (rw_iload_n (pc' := 94) (z := v210610) rfl rfl ?_)
                          refine wp_of e277 c277_94 (rw_ishl (pc' := 95) rfl ?_)
                          obtain ⟨v213303, e213304⟩ : ∃ x : Int, x = wq_shl 1 v210610 := ⟨_, rfl⟩
                          rw [← e213304]
                          have b213305 : 1 ≤ v213303 ∧ v213303 ≤ 8388608 := by
                            rw [e213304]
                            exact wq_shl1_24 ⟨by omega, by omega⟩
                          refine wp_of e277 c277_95 (rw_iconst (pc' := 96) rfl ?_)
                          refine wp_of e277 c277_96 (rw_iload (pc' := 98) (z := v212898) rfl rfl ?_)
                          refine wp_of e277 c277_98 (rw_ishl (pc' := 99) rfl ?_)
                          obtain ⟨v213306, e213307⟩ : ∃ x : Int, x = wq_shl 1 v212898 := ⟨_, rfl⟩
                          rw [← e213307]
                          have b213308 : 1 ≤ v213306 ∧ v213306 ≤ 8388608 := by
                            rw [e213307]
                            exact wq_shl1_24 ⟨by omega, by omega⟩
                          refine wp_of e277 c277_99 (rw_ior (pc' := 100) rfl ?_)
                          obtain ⟨v213309, e213310⟩ : ∃ x : Int, x = wq_or v213303 v213306 := ⟨_, rfl⟩
                          rw [← e213310]
                          have b213311 : 0 ≤ v213309 ∧ v213309 ≤ 16777215 := by
                            rw [e213310]
                            exact wq_or_24 ⟨by omega, by omega⟩ ⟨by omega, by omega⟩
                          have k213312 : wLM H212899 r0 = wLM H r0 := ((wLM_fr w210612 g0 f212901 rfl).trans (wLM_fr hW g0 f210613 rfl))
                          have k213313 : H212899 r0 3 = H r0 3 := ((f212901 r0 3 _ g0 rfl).trans (f210613 r0 3 _ g0 rfl))
                          have q213314 : H212899 r0 3 = (pp : Int) := k213313.trans qpp
                          refine wp_of e277 c277_100 (xc_V (pc' := 103) (r := r0) (as := [vI v213309]) (st := []) (lm_9_484) rfl rfl (Nat.le_of_ble_eq_true rfl) w212900 g0 sh_42 (by decide) rfl (by decide) (s_278 w212900 g0 ⟨by omega, by omega⟩ q213314 gpp (by omega)) (fun R213315 T213316 H213317 p213318 => ?_))
                          obtain ⟨e213319, w213321, f213322, z213323, e213320, b213324⟩ := p213318
                          subst e213319
                          subst e213320
                          have f213325 := f212904.tr f213322 rfl
                          have f213326 := f212905.tr f213322 rfl
                          have f213327 := f212901.tr f213322 rfl
                          show wp _ _ 277 103 [(4, vI v212898), (3, vI v210610), (0, .ref r0), (1, vI a1), (2, vI a2)] [vI z213323] _ H213317 _
                          refine wp_of e277 c277_103 (rw_if_eq (p1 := 115) (p2 := 106) (by decide) rfl ⟨by omega, by omega⟩ (fun c213328 => ?_) (fun c213328 => ?_))
                          · refine wp_of e277 c277_115 (rw_iconst (pc' := 116) rfl ?_)
                            refine wp_of e277 c277_116 (rw_istore (pc' := 118) (z := 0) (L' := [(5, vI 0), (4, vI v212898), (3, vI v210610), (0, .ref r0), (1, vI a1), (2, vI a2)]) rfl rfl rfl ?_)
                            have lp213331 : ∀ (n213332 : Nat) (v213334 : Int), (0 ≤ v213334 ∧ v213334 ≤ 0) → 0 = n213332 → wp kt 5 277 118 [(5, vI v213334), (4, vI v212898), (3, vI v210610), (0, .ref r0), (1, vI a1), (2, vI a2)] [] T H213317 (q_277 r0 a1 a2 pp T H) := by
                              intro n213332
                              induction n213332 using Nat.strongRecOn with
                              | _ n213332 ih213333 =>
                                intro v213334 b213337 m213338
                                refine wp_of e277 c277_118 (rw_iload (pc' := 120) (z := v213334) rfl rfl ?_)
                                refine wp_of e277 c277_120 (rw_iload (pc' := 122) (z := v212898) rfl rfl ?_)
                                refine wp_of e277 c277_122 (rw_icmp_ge (p1 := 179) (p2 := 125) (by decide) rfl ⟨by omega, by omega⟩ ⟨by omega, by omega⟩ (fun c213339 => ?_) (fun c213339 => ?_))
                                · refine wp_of e277 c277_179 (rw_iinc (pc' := 182) (z := v212898) (L' := [(4, vI (v212898 + 1)), (5, vI v213334), (3, vI v210610), (0, .ref r0), (1, vI a1), (2, vI a2)]) rfl rfl rfl rfl ?_)
                                  refine wp_of e277 c277_182 (rw_goto (p1 := 63) (by decide) ?_)
                                  exact wp_lc (ks := [4, 5, 3, 0, 1, 2]) (wl_c rfl (wl_c rfl (wl_c rfl (wl_c rfl (wl_c rfl wl_n))))) rfl (by decide) (ih212897 _ (by omega) (v212898 + 1) H213317 w213321 f213327 ⟨by omega, by omega⟩ rfl)
                                · refine wp_of e277 c277_125 (rw_iload_n (pc' := 126) (z := a2) rfl rfl ?_)
                                  refine wp_of e277 c277_126 (rw_iconst (pc' := 127) rfl ?_)
                                  refine wp_of e277 c277_127 (rw_icmp_le (p1 := 179) (p2 := 130) (by decide) rfl ⟨by omega, by omega⟩ ⟨by omega, by omega⟩ (fun c213340 => ?_) (fun c213340 => ?_))
                                  · refine wp_of e277 c277_179 (rw_iinc (pc' := 182) (z := v212898) (L' := [(4, vI (v212898 + 1)), (5, vI v213334), (3, vI v210610), (0, .ref r0), (1, vI a1), (2, vI a2)]) rfl rfl rfl rfl ?_)
                                    refine wp_of e277 c277_182 (rw_goto (p1 := 63) (by decide) ?_)
                                    exact wp_lc (ks := [4, 5, 3, 0, 1, 2]) (wl_c rfl (wl_c rfl (wl_c rfl (wl_c rfl (wl_c rfl wl_n))))) rfl (by decide) (ih212897 _ (by omega) (v212898 + 1) H213317 w213321 f213327 ⟨by omega, by omega⟩ rfl)
                                  · exfalso
                                    omega
                            exact wp_lc (ks := [5, 4, 3, 0, 1, 2]) (wl_c rfl (wl_c rfl (wl_c rfl (wl_c rfl (wl_c rfl (wl_c rfl wl_n)))))) rfl (by decide) (lp213331 _ 0 ⟨by omega, by omega⟩ rfl)
                          · refine wp_of e277 c277_106 (rw_iconst (pc' := 107) rfl ?_)
                            refine wp_of e277 c277_107 (rw_iload_n (pc' := 108) (z := v210610) rfl rfl ?_)
                            refine wp_of e277 c277_108 (rw_ishl (pc' := 109) rfl ?_)
                            obtain ⟨v213341, e213342⟩ : ∃ x : Int, x = wq_shl 1 v210610 := ⟨_, rfl⟩
                            rw [← e213342]
                            have b213343 : 1 ≤ v213341 ∧ v213341 ≤ 8388608 := by
                              rw [e213342]
                              exact wq_shl1_24 ⟨by omega, by omega⟩
                            refine wp_of e277 c277_109 (rw_iconst (pc' := 110) rfl ?_)
                            refine wp_of e277 c277_110 (rw_iload (pc' := 112) (z := v212898) rfl rfl ?_)
                            refine wp_of e277 c277_112 (rw_ishl (pc' := 113) rfl ?_)
                            obtain ⟨v213344, e213345⟩ : ∃ x : Int, x = wq_shl 1 v212898 := ⟨_, rfl⟩
                            rw [← e213345]
                            have b213346 : 1 ≤ v213344 ∧ v213344 ≤ 8388608 := by
                              rw [e213345]
                              exact wq_shl1_24 ⟨by omega, by omega⟩
                            refine wp_of e277 c277_113 (rw_ior (pc' := 114) rfl ?_)
                            obtain ⟨v213347, e213348⟩ : ∃ x : Int, x = wq_or v213341 v213344 := ⟨_, rfl⟩
                            rw [← e213348]
                            have b213349 : 0 ≤ v213347 ∧ v213347 ≤ 16777215 := by
                              rw [e213348]
                              exact wq_or_24 ⟨by omega, by omega⟩ ⟨by omega, by omega⟩
                            exact wp_ireturn e277 c277_114 rfl ⟨rfl, w213321, f213325, v213347, rfl, ⟨by omega, by omega⟩⟩
                      · refine wp_of e277 c277_83 (rw_goto (p1 := 179) (by decide) ?_)
                        refine wp_of e277 c277_179 (rw_iinc (pc' := 182) (z := v212898) (L' := [(4, vI (v212898 + 1)), (3, vI v210610), (0, .ref r0), (1, vI a1), (2, vI a2)]) rfl rfl rfl rfl ?_)
                        refine wp_of e277 c277_182 (rw_goto (p1 := 63) (by decide) ?_)
                        exact wp_lc (ks := [4, 3, 0, 1, 2]) (wl_c rfl (wl_c rfl (wl_c rfl (wl_c rfl (wl_c rfl wl_n))))) rfl (by decide) (ih212897 _ (by omega) (v212898 + 1) H212899 w212900 f212901 ⟨by omega, by omega⟩ rfl)
              exact wp_lc (ks := [4, 3, 0, 1, 2]) (wl_c rfl (wl_c rfl (wl_c rfl (wl_c rfl (wl_c rfl wl_n))))) rfl (by decide) (lp212895 _ (a2 - 2) H210611 w210612 wfr.rf ⟨by omega, by omega⟩ rfl)
            · refine wp_of e277 c277_44 (rw_aload_n (pc' := 45) (v := .ref r0) rfl rfl rfl ?_)
              refine wp_of e277 c277_45 (rw_iconst (pc' := 46) rfl ?_)
              refine wp_of e277 c277_46 (rw_iload_n (pc' := 47) (z := v210610) rfl rfl ?_)
              refine wp_of e277 c277_47 (rw_ishl (pc' := 48) rfl ?_)
              obtain ⟨v213350, e213351⟩ : ∃ x : Int, x = wq_shl 1 v210610 := ⟨_, rfl⟩
              rw [← e213351]
              have b213352 : 1 ≤ v213350 ∧ v213350 ≤ 8388608 := by
                rw [e213351]
                exact wq_shl1_24 ⟨by omega, by omega⟩
              have k213353 : wLM H210611 r0 = wLM H r0 := (wLM_fr hW g0 f210613 rfl)
              have k213354 : H210611 r0 3 = H r0 3 := (f210613 r0 3 _ g0 rfl)
              have q213355 : H210611 r0 3 = (pp : Int) := k213354.trans qpp
              refine wp_of e277 c277_48 (xc_V (pc' := 51) (r := r0) (as := [vI v213350]) (st := []) (lm_9_484) rfl rfl (Nat.le_of_ble_eq_true rfl) w210612 g0 sh_42 (by decide) rfl (by decide) (s_278 w210612 g0 ⟨by omega, by omega⟩ q213355 gpp (by omega)) (fun R213356 T213357 H213358 p213359 => ?_))
              obtain ⟨e213360, w213362, f213363, z213364, e213361, b213365⟩ := p213359
              subst e213360
              subst e213361
              have f213366 := f210616.tr f213363 rfl
              have f213367 := f210613.tr f213363 rfl
              show wp _ _ 277 51 [(3, vI v210610), (0, .ref r0), (1, vI a1), (2, vI a2)] [vI z213364] _ H213358 _
              refine wp_of e277 c277_51 (rw_if_eq (p1 := 58) (p2 := 54) (by decide) rfl ⟨by omega, by omega⟩ (fun c213368 => ?_) (fun c213368 => ?_))
              · refine wp_of e277 c277_58 (rw_iload_n (pc' := 59) (z := a2) rfl rfl ?_)
                refine wp_of e277 c277_59 (rw_iconst (pc' := 60) rfl ?_)
                refine wp_of e277 c277_60 (rw_isub (pc' := 61) rfl ?_)
                refine wp_of e277 c277_61 (rw_istore (pc' := 63) (z := a2 - 2) (L' := [(4, vI (a2 - 2)), (3, vI v210610), (0, .ref r0), (1, vI a1), (2, vI a2)]) rfl rfl rfl ?_)
                have lp213371 : ∀ (n213372 : Nat) (v213374 : Int), ((-1) ≤ v213374 ∧ v213374 ≤ (-1)) → 0 = n213372 → wp kt 5 277 63 [(4, vI v213374), (3, vI v210610), (0, .ref r0), (1, vI a1), (2, vI a2)] [] T H213358 (q_277 r0 a1 a2 pp T H) := by
                  intro n213372
                  induction n213372 using Nat.strongRecOn with
                  | _ n213372 ih213373 =>
                    intro v213374 b213377 m213378
                    refine wp_of e277 c277_63 (rw_iload (pc' := 65) (z := v213374) rfl rfl ?_)
                    refine wp_of e277 c277_65 (rw_iload_n (pc' := 66) (z := v210610) rfl rfl ?_)
                    refine wp_of e277 c277_66 (rw_icmp_ge (p1 := 185) (p2 := 69) (by decide) rfl ⟨by omega, by omega⟩ ⟨by omega, by omega⟩ (fun c213379 => ?_) (fun c213379 => ?_))
                    · exfalso
                      omega
                    · refine wp_of e277 c277_69 (rw_iload_n (pc' := 70) (z := a2) rfl rfl ?_)
                      refine wp_of e277 c277_70 (rw_iconst (pc' := 71) rfl ?_)
                      refine wp_of e277 c277_71 (rw_icmp_le (p1 := 185) (p2 := 74) (by decide) rfl ⟨by omega, by omega⟩ ⟨by omega, by omega⟩ (fun c213380 => ?_) (fun c213380 => ?_))
                      · refine wp_of e277 c277_185 (rw_iinc (pc' := 188) (z := v210610) (L' := [(3, vI (v210610 + 1)), (4, vI v213374), (0, .ref r0), (1, vI a1), (2, vI a2)]) rfl rfl rfl rfl ?_)
                        refine wp_of e277 c277_188 (rw_goto (p1 := 22) (by decide) ?_)
                        exact wp_lc (ks := [3, 4, 0, 1, 2]) (wl_c rfl (wl_c rfl (wl_c rfl (wl_c rfl wl_n)))) rfl (by decide) (ih210609 _ (by omega) (v210610 + 1) H213358 w213362 f213367 ⟨by omega, by omega⟩ rfl)
                      · exfalso
                        omega
                exact wp_lc (ks := [4, 3, 0, 1, 2]) (wl_c rfl (wl_c rfl (wl_c rfl (wl_c rfl (wl_c rfl wl_n))))) rfl (by decide) (lp213371 _ (a2 - 2) ⟨by omega, by omega⟩ rfl)
              · refine wp_of e277 c277_54 (rw_iconst (pc' := 55) rfl ?_)
                refine wp_of e277 c277_55 (rw_iload_n (pc' := 56) (z := v210610) rfl rfl ?_)
                refine wp_of e277 c277_56 (rw_ishl (pc' := 57) rfl ?_)
                obtain ⟨v213381, e213382⟩ : ∃ x : Int, x = wq_shl 1 v210610 := ⟨_, rfl⟩
                rw [← e213382]
                have b213383 : 1 ≤ v213381 ∧ v213381 ≤ 8388608 := by
                  rw [e213382]
                  exact wq_shl1_24 ⟨by omega, by omega⟩
                exact wp_ireturn e277 c277_57 rfl ⟨rfl, w213362, f213366, v213381, rfl, ⟨by omega, by omega⟩⟩
          · refine wp_of e277 c277_36 (rw_goto (p1 := 185) (by decide) ?_)
            refine wp_of e277 c277_185 (rw_iinc (pc' := 188) (z := v210610) (L' := [(3, vI (v210610 + 1)), (0, .ref r0), (1, vI a1), (2, vI a2)]) rfl rfl rfl rfl ?_)
            refine wp_of e277 c277_188 (rw_goto (p1 := 22) (by decide) ?_)
            exact wp_lc (ks := [3, 0, 1, 2]) (wl_c rfl (wl_c rfl (wl_c rfl (wl_c rfl wl_n)))) rfl (by decide) (ih210609 _ (by omega) (v210610 + 1) H210611 w210612 f210613 ⟨by omega, by omega⟩ rfl)
    exact wp_lc (ks := [3, 0, 1, 2]) (wl_c rfl (wl_c rfl (wl_c rfl (wl_c rfl wl_n)))) rfl (by decide) (lp210607 _ (a2 - 1) H hW wfr.rf ⟨by omega, by omega⟩ rfl)
  · refine wp_of e277 c277_4 (rw_aload_n (pc' := 5) (v := .ref r0) rfl rfl rfl ?_)
    refine wp_of e277 c277_5 (rw_iconst (pc' := 6) rfl ?_)
    refine wp_of e277 c277_6 (xc_V (pc' := 9) (r := r0) (as := [vI 0]) (st := []) (lm_9_484) rfl rfl (Nat.le_of_ble_eq_true rfl) hW g0 sh_42 (by decide) rfl (by decide) (s_278 hW g0 ⟨by omega, by omega⟩ qpp gpp (by omega)) (fun R213384 T213385 H213386 p213387 => ?_))
    obtain ⟨e213388, w213390, f213391, z213392, e213389, b213393⟩ := p213387
    subst e213388
    subst e213389
    have f213394 := f0.tr f213391 rfl
    show wp _ _ 277 9 [(0, .ref r0), (1, vI a1), (2, vI a2)] [vI z213392] _ H213386 _
    refine wp_of e277 c277_9 (rw_if_eq (p1 := 16) (p2 := 12) (by decide) rfl ⟨by omega, by omega⟩ (fun c213395 => ?_) (fun c213395 => ?_))
    · refine wp_of e277 c277_16 (rw_iconst (pc' := 17) rfl ?_)
      exact wp_ireturn e277 c277_17 rfl ⟨rfl, w213390, f213394, -1, rfl, ⟨by omega, by omega⟩⟩
    · refine wp_of e277 c277_12 (rw_iconst (pc' := 13) rfl ?_)
      refine wp_of e277 c277_13 (rw_goto (p1 := 17) (by decide) ?_)
      exact wp_ireturn e277 c277_17 rfl ⟨rfl, w213390, f213394, 0, rfl, ⟨by omega, by omega⟩⟩
/-! StrikeAwakeModel.proof()I -/
theorem e276 : wq_en 276 = some (9, 5, false, some FieldType.int) := rfl
theorem cg276_0 : mc_cd 276 0 = some (.aload_n 0, 1) ∧ mc_cd 276 1 = some (.iconst 0, 1) ∧ mc_cd 276 2 = some (.putfield 48, 3) ∧ mc_cd 276 5 = some (.aload_n 0, 1) ∧ mc_cd 276 6 = some (.aload_n 0, 1) ∧ mc_cd 276 7 = some (.getfield 337, 3) ∧ mc_cd 276 10 = some (.ifnull 7, 3) ∧ mc_cd 276 13 = some (.iconst 1, 1) := by decide +kernel
theorem c276_0 : mc_cd 276 0 = some (.aload_n 0, 1) := cg276_0.1
theorem c276_1 : mc_cd 276 1 = some (.iconst 0, 1) := cg276_0.2.1
theorem c276_2 : mc_cd 276 2 = some (.putfield 48, 3) := cg276_0.2.2.1
theorem c276_5 : mc_cd 276 5 = some (.aload_n 0, 1) := cg276_0.2.2.2.1
theorem c276_6 : mc_cd 276 6 = some (.aload_n 0, 1) := cg276_0.2.2.2.2.1
theorem c276_7 : mc_cd 276 7 = some (.getfield 337, 3) := cg276_0.2.2.2.2.2.1
theorem c276_10 : mc_cd 276 10 = some (.ifnull 7, 3) := cg276_0.2.2.2.2.2.2.1
theorem c276_13 : mc_cd 276 13 = some (.iconst 1, 1) := cg276_0.2.2.2.2.2.2.2
theorem cg276_14 : mc_cd 276 14 = some (.goto 4, 3) ∧ mc_cd 276 17 = some (.iconst 0, 1) ∧ mc_cd 276 18 = some (.invokevirtual 433, 3) ∧ mc_cd 276 21 = some (.istore_n 1, 1) ∧ mc_cd 276 22 = some (.iload_n 1, 1) ∧ mc_cd 276 23 = some (.ifCond .ne 16, 3) ∧ mc_cd 276 26 = some (.aload_n 0, 1) ∧ mc_cd 276 27 = some (.invokevirtual 376, 3) := by decide +kernel
theorem c276_14 : mc_cd 276 14 = some (.goto 4, 3) := cg276_14.1
theorem c276_17 : mc_cd 276 17 = some (.iconst 0, 1) := cg276_14.2.1
theorem c276_18 : mc_cd 276 18 = some (.invokevirtual 433, 3) := cg276_14.2.2.1
theorem c276_21 : mc_cd 276 21 = some (.istore_n 1, 1) := cg276_14.2.2.2.1
theorem c276_22 : mc_cd 276 22 = some (.iload_n 1, 1) := cg276_14.2.2.2.2.1
theorem c276_23 : mc_cd 276 23 = some (.ifCond .ne 16, 3) := cg276_14.2.2.2.2.2.1
theorem c276_26 : mc_cd 276 26 = some (.aload_n 0, 1) := cg276_14.2.2.2.2.2.2.1
theorem c276_27 : mc_cd 276 27 = some (.invokevirtual 376, 3) := cg276_14.2.2.2.2.2.2.2
theorem cg276_30 : mc_cd 276 30 = some (.ldc2_w 479, 3) ∧ mc_cd 276 33 = some (.lcmp, 1) ∧ mc_cd 276 34 = some (.ifCond .le 5, 3) ∧ mc_cd 276 37 = some (.iconst 3, 1) ∧ mc_cd 276 38 = some (.istore_n 1, 1) ∧ mc_cd 276 39 = some (.iload_n 1, 1) ∧ mc_cd 276 40 = some (.ifCond .ne 12, 3) ∧ mc_cd 276 43 = some (.aload_n 0, 1) := by decide +kernel
theorem c276_30 : mc_cd 276 30 = some (.ldc2_w 479, 3) := cg276_30.1
theorem c276_33 : mc_cd 276 33 = some (.lcmp, 1) := cg276_30.2.1
theorem c276_34 : mc_cd 276 34 = some (.ifCond .le 5, 3) := cg276_30.2.2.1
theorem c276_37 : mc_cd 276 37 = some (.iconst 3, 1) := cg276_30.2.2.2.1
theorem c276_38 : mc_cd 276 38 = some (.istore_n 1, 1) := cg276_30.2.2.2.2.1
theorem c276_39 : mc_cd 276 39 = some (.iload_n 1, 1) := cg276_30.2.2.2.2.2.1
theorem c276_40 : mc_cd 276 40 = some (.ifCond .ne 12, 3) := cg276_30.2.2.2.2.2.2.1
theorem c276_43 : mc_cd 276 43 = some (.aload_n 0, 1) := cg276_30.2.2.2.2.2.2.2
theorem cg276_44 : mc_cd 276 44 = some (.getfield 422, 3) ∧ mc_cd 276 47 = some (.ifCond .le 5, 3) ∧ mc_cd 276 50 = some (.iconst 5, 1) ∧ mc_cd 276 51 = some (.istore_n 1, 1) ∧ mc_cd 276 52 = some (.iload_n 1, 1) ∧ mc_cd 276 53 = some (.ifCond .le 9, 3) ∧ mc_cd 276 56 = some (.aload_n 0, 1) ∧ mc_cd 276 57 = some (.iload_n 1, 1) := by decide +kernel
theorem c276_44 : mc_cd 276 44 = some (.getfield 422, 3) := cg276_44.1
theorem c276_47 : mc_cd 276 47 = some (.ifCond .le 5, 3) := cg276_44.2.1
theorem c276_50 : mc_cd 276 50 = some (.iconst 5, 1) := cg276_44.2.2.1
theorem c276_51 : mc_cd 276 51 = some (.istore_n 1, 1) := cg276_44.2.2.2.1
theorem c276_52 : mc_cd 276 52 = some (.iload_n 1, 1) := cg276_44.2.2.2.2.1
theorem c276_53 : mc_cd 276 53 = some (.ifCond .le 9, 3) := cg276_44.2.2.2.2.2.1
theorem c276_56 : mc_cd 276 56 = some (.aload_n 0, 1) := cg276_44.2.2.2.2.2.2.1
theorem c276_57 : mc_cd 276 57 = some (.iload_n 1, 1) := cg276_44.2.2.2.2.2.2.2
theorem cg276_58 : mc_cd 276 58 = some (.invokevirtual 54, 3) ∧ mc_cd 276 61 = some (.ireturn, 1) ∧ mc_cd 276 62 = some (.aload_n 0, 1) ∧ mc_cd 276 63 = some (.invokevirtual 357, 3) ∧ mc_cd 276 66 = some (.istore_n 2, 1) ∧ mc_cd 276 67 = some (.iconst 0, 1) ∧ mc_cd 276 68 = some (.istore_n 3, 1) ∧ mc_cd 276 69 = some (.iload_n 3, 1) := by decide +kernel
theorem c276_58 : mc_cd 276 58 = some (.invokevirtual 54, 3) := cg276_58.1
theorem c276_61 : mc_cd 276 61 = some (.ireturn, 1) := cg276_58.2.1
theorem c276_62 : mc_cd 276 62 = some (.aload_n 0, 1) := cg276_58.2.2.1
theorem c276_63 : mc_cd 276 63 = some (.invokevirtual 357, 3) := cg276_58.2.2.2.1
theorem c276_66 : mc_cd 276 66 = some (.istore_n 2, 1) := cg276_58.2.2.2.2.1
theorem c276_67 : mc_cd 276 67 = some (.iconst 0, 1) := cg276_58.2.2.2.2.2.1
theorem c276_68 : mc_cd 276 68 = some (.istore_n 3, 1) := cg276_58.2.2.2.2.2.2.1
theorem c276_69 : mc_cd 276 69 = some (.iload_n 3, 1) := cg276_58.2.2.2.2.2.2.2
theorem cg276_70 : mc_cd 276 70 = some (.iconst 4, 1) ∧ mc_cd 276 71 = some (.if_icmp .ge 30, 3) ∧ mc_cd 276 74 = some (.aload_n 0, 1) ∧ mc_cd 276 75 = some (.iload_n 2, 1) ∧ mc_cd 276 76 = some (.iload_n 3, 1) ∧ mc_cd 276 77 = some (.invokevirtual 481, 3) ∧ mc_cd 276 80 = some (.istore 4, 2) ∧ mc_cd 276 82 = some (.iload 4, 2) := by decide +kernel
theorem c276_70 : mc_cd 276 70 = some (.iconst 4, 1) := cg276_70.1
theorem c276_71 : mc_cd 276 71 = some (.if_icmp .ge 30, 3) := cg276_70.2.1
theorem c276_74 : mc_cd 276 74 = some (.aload_n 0, 1) := cg276_70.2.2.1
theorem c276_75 : mc_cd 276 75 = some (.iload_n 2, 1) := cg276_70.2.2.2.1
theorem c276_76 : mc_cd 276 76 = some (.iload_n 3, 1) := cg276_70.2.2.2.2.1
theorem c276_77 : mc_cd 276 77 = some (.invokevirtual 481, 3) := cg276_70.2.2.2.2.2.1
theorem c276_80 : mc_cd 276 80 = some (.istore 4, 2) := cg276_70.2.2.2.2.2.2.1
theorem c276_82 : mc_cd 276 82 = some (.iload 4, 2) := cg276_70.2.2.2.2.2.2.2
theorem cg276_84 : mc_cd 276 84 = some (.iconst (-1), 1) ∧ mc_cd 276 85 = some (.if_icmp .eq 10, 3) ∧ mc_cd 276 88 = some (.aload_n 0, 1) ∧ mc_cd 276 89 = some (.iload 4, 2) ∧ mc_cd 276 91 = some (.invokevirtual 58, 3) ∧ mc_cd 276 94 = some (.ireturn, 1) ∧ mc_cd 276 95 = some (.iinc 3 1, 3) ∧ mc_cd 276 98 = some (.goto (-29), 3) := by decide +kernel
theorem c276_84 : mc_cd 276 84 = some (.iconst (-1), 1) := cg276_84.1
theorem c276_85 : mc_cd 276 85 = some (.if_icmp .eq 10, 3) := cg276_84.2.1
theorem c276_88 : mc_cd 276 88 = some (.aload_n 0, 1) := cg276_84.2.2.1
theorem c276_89 : mc_cd 276 89 = some (.iload 4, 2) := cg276_84.2.2.2.1
theorem c276_91 : mc_cd 276 91 = some (.invokevirtual 58, 3) := cg276_84.2.2.2.2.1
theorem c276_94 : mc_cd 276 94 = some (.ireturn, 1) := cg276_84.2.2.2.2.2.1
theorem c276_95 : mc_cd 276 95 = some (.iinc 3 1, 3) := cg276_84.2.2.2.2.2.2.1
theorem c276_98 : mc_cd 276 98 = some (.goto (-29), 3) := cg276_84.2.2.2.2.2.2.2
theorem cg276_101 : mc_cd 276 101 = some (.aload_n 0, 1) ∧ mc_cd 276 102 = some (.bipush (-2), 2) ∧ mc_cd 276 104 = some (.invokevirtual 58, 3) ∧ mc_cd 276 107 = some (.ireturn, 1) := by decide +kernel
theorem c276_101 : mc_cd 276 101 = some (.aload_n 0, 1) := cg276_101.1
theorem c276_102 : mc_cd 276 102 = some (.bipush (-2), 2) := cg276_101.2.1
theorem c276_104 : mc_cd 276 104 = some (.invokevirtual 58, 3) := cg276_101.2.2.1
theorem c276_107 : mc_cd 276 107 = some (.ireturn, 1) := cg276_101.2.2.2
/-! StrikeAwakeModel.isStruck(I)Z -/
theorem e280 : wq_en 280 = some (9, 2, false, some FieldType.boolean) := rfl
theorem cg280_0 : mc_cd 280 0 = some (.aload_n 0, 1) ∧ mc_cd 280 1 = some (.iload_n 1, 1) ∧ mc_cd 280 2 = some (.invokevirtual 373, 3) ∧ mc_cd 280 5 = some (.ifCond .eq 16, 3) ∧ mc_cd 280 8 = some (.aload_n 0, 1) ∧ mc_cd 280 9 = some (.getfield 17, 3) ∧ mc_cd 280 12 = some (.iload_n 1, 1) ∧ mc_cd 280 13 = some (.iaload, 1) := by decide +kernel
theorem c280_0 : mc_cd 280 0 = some (.aload_n 0, 1) := cg280_0.1
theorem c280_1 : mc_cd 280 1 = some (.iload_n 1, 1) := cg280_0.2.1
theorem c280_2 : mc_cd 280 2 = some (.invokevirtual 373, 3) := cg280_0.2.2.1
theorem c280_5 : mc_cd 280 5 = some (.ifCond .eq 16, 3) := cg280_0.2.2.2.1
theorem c280_8 : mc_cd 280 8 = some (.aload_n 0, 1) := cg280_0.2.2.2.2.1
theorem c280_9 : mc_cd 280 9 = some (.getfield 17, 3) := cg280_0.2.2.2.2.2.1
theorem c280_12 : mc_cd 280 12 = some (.iload_n 1, 1) := cg280_0.2.2.2.2.2.2.1
theorem c280_13 : mc_cd 280 13 = some (.iaload, 1) := cg280_0.2.2.2.2.2.2.2
theorem cg280_14 : mc_cd 280 14 = some (.ifCond .le 7, 3) ∧ mc_cd 280 17 = some (.iconst 1, 1) ∧ mc_cd 280 18 = some (.goto 4, 3) ∧ mc_cd 280 21 = some (.iconst 0, 1) ∧ mc_cd 280 22 = some (.ireturn, 1) := by decide +kernel
theorem c280_14 : mc_cd 280 14 = some (.ifCond .le 7, 3) := cg280_14.1
theorem c280_17 : mc_cd 280 17 = some (.iconst 1, 1) := cg280_14.2.1
theorem c280_18 : mc_cd 280 18 = some (.goto 4, 3) := cg280_14.2.2.1
theorem c280_21 : mc_cd 280 21 = some (.iconst 0, 1) := cg280_14.2.2.2.1
theorem c280_22 : mc_cd 280 22 = some (.ireturn, 1) := cg280_14.2.2.2.2
/-! StrikeAwakeModel.lost(I)I -/
theorem e281 : wq_en 281 = some (9, 2, false, some FieldType.int) := rfl
theorem cg281_0 : mc_cd 281 0 = some (.aload_n 0, 1) ∧ mc_cd 281 1 = some (.iload_n 1, 1) ∧ mc_cd 281 2 = some (.invokevirtual 54, 3) ∧ mc_cd 281 5 = some (.pop, 1) ∧ mc_cd 281 6 = some (.sipush (-1000), 3) ∧ mc_cd 281 9 = some (.ireturn, 1) := by decide +kernel
theorem c281_0 : mc_cd 281 0 = some (.aload_n 0, 1) := cg281_0.1
theorem c281_1 : mc_cd 281 1 = some (.iload_n 1, 1) := cg281_0.2.1
theorem c281_2 : mc_cd 281 2 = some (.invokevirtual 54, 3) := cg281_0.2.2.1
theorem c281_5 : mc_cd 281 5 = some (.pop, 1) := cg281_0.2.2.2.1
theorem c281_6 : mc_cd 281 6 = some (.sipush (-1000), 3) := cg281_0.2.2.2.2.1
theorem c281_9 : mc_cd 281 9 = some (.ireturn, 1) := cg281_0.2.2.2.2.2
