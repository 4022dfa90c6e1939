/-! methods (own work, written by wip/gen2/sx.py) -/
/-! StrikeAwake$Asking.fewestForHour(LStrikeAwake$Parish;LStrikeAwake$Census;I)I -/
theorem e131 : wq_en 131 = some (5, 5, false, some FieldType.int) := rfl
theorem c131_0 : mc_cd 131 0 = some (.aload_n 0, 1) := by decide +kernel
theorem c131_1 : mc_cd 131 1 = some (.aload_n 1, 1) := by decide +kernel
theorem c131_2 : mc_cd 131 2 = some (.aload_n 2, 1) := by decide +kernel
theorem c131_3 : mc_cd 131 3 = some (.invokevirtual 24, 3) := by decide +kernel
theorem c131_6 : mc_cd 131 6 = some (.iconst 0, 1) := by decide +kernel
theorem c131_7 : mc_cd 131 7 = some (.istore 4, 2) := by decide +kernel
theorem c131_9 : mc_cd 131 9 = some (.iload 4, 2) := by decide +kernel
theorem c131_11 : mc_cd 131 11 = some (.aload_n 0, 1) := by decide +kernel
theorem c131_12 : mc_cd 131 12 = some (.getfield 28, 3) := by decide +kernel
theorem c131_15 : mc_cd 131 15 = some (.if_icmp .ge 28, 3) := by decide +kernel
theorem c131_18 : mc_cd 131 18 = some (.aload_n 0, 1) := by decide +kernel
theorem c131_19 : mc_cd 131 19 = some (.getfield 15, 3) := by decide +kernel
theorem c131_22 : mc_cd 131 22 = some (.iload 4, 2) := by decide +kernel
theorem c131_24 : mc_cd 131 24 = some (.aload_n 1, 1) := by decide +kernel
theorem c131_25 : mc_cd 131 25 = some (.aload_n 0, 1) := by decide +kernel
theorem c131_26 : mc_cd 131 26 = some (.getfield 9, 3) := by decide +kernel
theorem c131_29 : mc_cd 131 29 = some (.iload 4, 2) := by decide +kernel
theorem c131_31 : mc_cd 131 31 = some (.iaload, 1) := by decide +kernel
theorem c131_32 : mc_cd 131 32 = some (.iload_n 3, 1) := by decide +kernel
theorem c131_33 : mc_cd 131 33 = some (.invokestatic 36, 3) := by decide +kernel
theorem c131_36 : mc_cd 131 36 = some (.iastore, 1) := by decide +kernel
theorem c131_37 : mc_cd 131 37 = some (.iinc 4 1, 3) := by decide +kernel
theorem c131_40 : mc_cd 131 40 = some (.goto (-31), 3) := by decide +kernel
theorem c131_43 : mc_cd 131 43 = some (.aload_n 0, 1) := by decide +kernel
theorem c131_44 : mc_cd 131 44 = some (.aload_n 1, 1) := by decide +kernel
theorem c131_45 : mc_cd 131 45 = some (.invokevirtual 32, 3) := by decide +kernel
theorem c131_48 : mc_cd 131 48 = some (.ireturn, 1) := by decide +kernel
abbrev q_131 (r0 : Nat) (r1 : Nat) (r2 : Nat) (a3 : Int) (T : wq_T) (H : wq_H) : Option Value → wq_T → wq_H → Prop := fun r T' H' => T = T' ∧ WT T H' ∧ wfr [(20, 4), (22, 999), (23, 999), (21, 999), (24, 999)] T H H' ∧ ∃ z : Int, some (vI z) = r ∧ ((-2147483648) ≤ z ∧ z ≤ 2147483647)
set_option maxHeartbeats 4000000 in
theorem s_131 {kt : Nat → Option mc_E} {T : wq_T} {H : wq_H} {r0 : Nat} {r1 : Nat} {r2 : Nat} {a3 : Int} (hW : WT T H) (g0 : T.2.2.2 r0 = some 20) (g1 : T.2.2.2 r1 = some 27) (g2 : T.2.2.2 r2 = some 12) (i3 : (-2147483648) ≤ a3 ∧ a3 ≤ 2147483647) : wpc kt 5 131 [.ref r0, .ref r1, .ref r2, vI a3] T H (q_131 r0 r1 r2 a3 T H) := by
  refine wp_enter e131 (Nat.le_of_ble_eq_true rfl) rfl ?_
  have f0 : wfr [(20, 4), (22, 999), (23, 999), (21, 999), (24, 999)] T H H := wfr.rf
  show wp _ _ 131 0 [(0, .ref r0), (1, .ref r1), (2, .ref r2), (3, vI a3)] [] _ H _
  refine wp_of e131 c131_0 (rw_aload_n (pc' := 1) (v := .ref r0) rfl rfl rfl ?_)
  refine wp_of e131 c131_1 (rw_aload_n (pc' := 2) (v := .ref r1) rfl rfl rfl ?_)
  refine wp_of e131 c131_2 (rw_aload_n (pc' := 3) (v := .ref r2) rfl rfl rfl ?_)
  refine wp_of e131 c131_3 (xc_V (pc' := 6) (r := r0) (as := [.ref r1, .ref r2]) (st := []) (lm_5_24) rfl rfl (Nat.le_of_ble_eq_true rfl) hW g0 sh_20 (by decide) rfl (by decide) (s_123 hW g0 g1 g2) (fun R42679 T42680 H42681 p42682 => ?_))
  obtain ⟨e42683, w42685, f42686, e42684⟩ := p42682
  subst e42683
  subst e42684
  have f42687 := f0.tr f42686 rfl
  show wp _ _ 131 6 [(0, .ref r0), (1, .ref r1), (2, .ref r2), (3, vI a3)] [] _ H42681 _
  refine wp_of e131 c131_6 (rw_iconst (pc' := 7) rfl ?_)
  refine wp_of e131 c131_7 (rw_istore (pc' := 9) (z := 0) (L' := [(4, vI 0), (0, .ref r0), (1, .ref r1), (2, .ref r2), (3, vI a3)]) rfl rfl rfl ?_)
  have lp42880 : ∀ (n42881 : Nat) (v42883 : Int) (H42884 : wq_H), WT T H42884 → wfr [(22, 999)] T H42681 H42884 → (0 ≤ v42883 ∧ v42883 ≤ 400) → (400 - v42883).toNat = n42881 → wp kt 4 131 9 [(4, vI v42883), (0, .ref r0), (1, .ref r1), (3, vI a3)] [] T H42884 (q_131 r0 r1 r2 a3 T H) := by
    intro n42881
    induction n42881 using Nat.strongRecOn with
    | _ n42881 ih42882 =>
      intro v42883 H42884 w42885 f42886 b42887 m42888
      have f42889 := f42687.tr f42886 rfl
      refine wp_of e131 c131_9 (rw_iload (pc' := 11) (z := v42883) rfl rfl ?_)
      refine wp_of e131 c131_11 (rw_aload_n (pc' := 12) (v := .ref r0) rfl rfl rfl ?_)
      refine wp_of e131 c131_12 (xg_I (pc' := 15) lf_5_28 w42885 g0 sh_20 (by decide) (by decide) ty_20_4 rfl rfl (fun b42890 b42891 => ?_))
      refine wp_of e131 c131_15 (rw_icmp_ge (p1 := 43) (p2 := 18) (by decide) rfl ⟨by omega, by omega⟩ ⟨by omega, by omega⟩ (fun c42892 => ?_) (fun c42892 => ?_))
      · refine wp_of e131 c131_43 (rw_aload_n (pc' := 44) (v := .ref r0) rfl rfl rfl ?_)
        refine wp_of e131 c131_44 (rw_aload_n (pc' := 45) (v := .ref r1) rfl rfl rfl ?_)
        refine wp_of e131 c131_45 (xc_V (pc' := 48) (r := r0) (as := [.ref r1]) (st := []) (lm_5_32) rfl rfl (Nat.le_of_ble_eq_true rfl) w42885 g0 sh_20 (by decide) rfl (by decide) (s_125 w42885 g0 g1) (fun R42893 T42894 H42895 p42896 => ?_))
        obtain ⟨e42897, w42899, f42900, z42901, e42898, b42902⟩ := p42896
        subst e42897
        subst e42898
        have f42903 := f42889.tr f42900 rfl
        show wp _ _ 131 48 [(4, vI v42883), (0, .ref r0), (1, .ref r1), (3, vI a3)] [vI z42901] _ H42895 _
        exact wp_ireturn e131 c131_48 rfl ⟨rfl, w42899, f42903, z42901, rfl, ⟨by omega, by omega⟩⟩
      · refine wp_of e131 c131_18 (rw_aload_n (pc' := 19) (v := .ref r0) rfl rfl rfl ?_)
        refine wp_of e131 c131_19 (xg_R (pc' := 22) lf_5_15 w42885 g0 sh_20 (by decide) (by decide) ty_20_1 rfl rfl (fun r42904 q42905 g42906 => ?_))
        refine wp_of e131 c131_22 (rw_iload (pc' := 24) (z := v42883) rfl rfl ?_)
        refine wp_of e131 c131_24 (rw_aload_n (pc' := 25) (v := .ref r1) rfl rfl rfl ?_)
        refine wp_of e131 c131_25 (rw_aload_n (pc' := 26) (v := .ref r0) rfl rfl rfl ?_)
        refine wp_of e131 c131_26 (xg_R (pc' := 29) lf_5_9 w42885 g0 sh_20 (by decide) (by decide) ty_20_0 rfl rfl (fun r42907 q42908 g42909 => ?_))
        refine wp_of e131 c131_29 (rw_iload (pc' := 31) (z := v42883) rfl rfl ?_)
        refine wp_of e131 c131_31 (xa_I (so := 0) (pc' := 32) w42885 g42909 sh_21 (by decide) (ty_21 _) (by omega) (by omega) rfl (fun b42910 b42911 => ?_))
        refine wp_of e131 c131_32 (rw_iload_n (pc' := 33) (z := a3) rfl rfl ?_)
        refine wp_of e131 c131_33 (xc_S (pc' := 36) (as := [.ref r1, vI (H42884 r42907 (v42883.toNat)), vI a3]) (st := [vI v42883, .ref r42904]) (lm_5_36) rfl rfl (Nat.le_of_ble_eq_true rfl) rfl (by decide) (s_116 w42885 g1 ⟨by omega, by omega⟩ ⟨by omega, by omega⟩) (fun R42912 T42913 H42914 p42915 => ?_))
        obtain ⟨e42916, e42918, z42919, e42917, b42920⟩ := p42915
        subst e42916
        subst e42917
        subst e42918
        show wp _ _ 131 36 [(4, vI v42883), (0, .ref r0), (1, .ref r1), (3, vI a3)] [vI z42919, vI v42883, .ref r42904] _ H42884 _
        refine wp_of e131 c131_36 (xs_I (pc' := 37) w42885 g42906 (by decide) sh_22 (by decide) (ty_22 _) (by omega) (by omega) ⟨by omega, by omega⟩ (by omega) (by omega) rfl (fun H42921 e42922 w42923 => ?_))
        have f42924 := f42889.put' e42922 g42906 rfl
        have f42925 := f42886.put' e42922 g42906 rfl
        refine wp_of e131 c131_37 (rw_iinc (pc' := 40) (z := v42883) (L' := [(4, vI (v42883 + 1)), (0, .ref r0), (1, .ref r1), (3, vI a3)]) rfl rfl rfl rfl ?_)
        refine wp_of e131 c131_40 (rw_goto (p1 := 9) (by decide) ?_)
        exact wp_lc (ks := [4, 0, 1, 3]) (wl_c rfl (wl_c rfl (wl_c rfl (wl_c rfl wl_n)))) rfl (by decide) (ih42882 _ (by omega) (v42883 + 1) H42921 w42923 f42925 ⟨by omega, by omega⟩ rfl)
  exact wp_lc (ks := [4, 0, 1, 2, 3]) (wl_c rfl (wl_c rfl (wl_c rfl (wl_c rfl wl_n)))) rfl (by decide) (lp42880 _ 0 H42681 w42685 wfr.rf ⟨by omega, by omega⟩ rfl)
/-! StrikeAwake.askFor(I)I -/
theorem e130 : wq_en 130 = some (0, 3, false, some FieldType.int) := rfl
theorem c130_0 : mc_cd 130 0 = some (.aload_n 0, 1) := by decide +kernel
theorem c130_1 : mc_cd 130 1 = some (.aload_n 0, 1) := by decide +kernel
theorem c130_2 : mc_cd 130 2 = some (.iload_n 1, 1) := by decide +kernel
theorem c130_3 : mc_cd 130 3 = some (.invokevirtual 132, 3) := by decide +kernel
theorem c130_6 : mc_cd 130 6 = some (.invokevirtual 227, 3) := by decide +kernel
theorem c130_9 : mc_cd 130 9 = some (.istore_n 2, 1) := by decide +kernel
theorem c130_10 : mc_cd 130 10 = some (.iload_n 2, 1) := by decide +kernel
theorem c130_11 : mc_cd 130 11 = some (.ifCond .eq 9, 3) := by decide +kernel
theorem c130_14 : mc_cd 130 14 = some (.aload_n 0, 1) := by decide +kernel
theorem c130_15 : mc_cd 130 15 = some (.iload_n 2, 1) := by decide +kernel
theorem c130_16 : mc_cd 130 16 = some (.invokevirtual 70, 3) := by decide +kernel
theorem c130_19 : mc_cd 130 19 = some (.ireturn, 1) := by decide +kernel
theorem c130_20 : mc_cd 130 20 = some (.aload_n 0, 1) := by decide +kernel
theorem c130_21 : mc_cd 130 21 = some (.aload_n 0, 1) := by decide +kernel
theorem c130_22 : mc_cd 130 22 = some (.getfield 37, 3) := by decide +kernel
theorem c130_25 : mc_cd 130 25 = some (.aload_n 0, 1) := by decide +kernel
theorem c130_26 : mc_cd 130 26 = some (.getfield 51, 3) := by decide +kernel
theorem c130_29 : mc_cd 130 29 = some (.aload_n 0, 1) := by decide +kernel
theorem c130_30 : mc_cd 130 30 = some (.getfield 30, 3) := by decide +kernel
theorem c130_33 : mc_cd 130 33 = some (.iload_n 1, 1) := by decide +kernel
theorem c130_34 : mc_cd 130 34 = some (.invokevirtual 234, 3) := by decide +kernel
theorem c130_37 : mc_cd 130 37 = some (.invokevirtual 99, 3) := by decide +kernel
theorem c130_40 : mc_cd 130 40 = some (.ireturn, 1) := by decide +kernel
abbrev q_130 (r0 : Nat) (a1 : Int) (T : wq_T) (H : wq_H) : Option Value → wq_T → wq_H → Prop := fun r T' H' => T = T' ∧ WT T H' ∧ wfr [(20, 4), (12, 5), (12, 6), (12, 7), (12, 8), (12, 9), (1, 10), (6, 5), (8, 999), (10, 999), (15, 999), (22, 999), (9, 999), (18, 999), (23, 999), (19, 999), (21, 999), (7, 999), (11, 999), (24, 999), (17, 999), (13, 999)] T H H' ∧ ∃ z : Int, some (vI z) = r ∧ ((-2147483648) ≤ z ∧ z ≤ 2147483647) ∧ (H' r0 10 ≠ 4)
set_option maxHeartbeats 4000000 in
theorem s_130 {kt : Nat → Option mc_E} {T : wq_T} {H : wq_H} {r0 : Nat} {a1 : Int} (hW : WT T H) (g0 : T.2.2.2 r0 = some 1) (i1 : (-2147483648) ≤ a1 ∧ a1 ≤ 2147483647) : wpc kt 7 130 [.ref r0, vI a1] T H (q_130 r0 a1 T H) := by
  refine wp_enter e130 (Nat.le_of_ble_eq_true rfl) rfl ?_
  have f0 : wfr [(20, 4), (12, 5), (12, 6), (12, 7), (12, 8), (12, 9), (1, 10), (6, 5), (8, 999), (10, 999), (15, 999), (22, 999), (9, 999), (18, 999), (23, 999), (19, 999), (21, 999), (7, 999), (11, 999), (24, 999), (17, 999), (13, 999)] T H H := wfr.rf
  show wp _ _ 130 0 [(0, .ref r0), (1, vI a1)] [] _ H _
  refine wp_of e130 c130_0 (rw_aload_n (pc' := 1) (v := .ref r0) rfl rfl rfl ?_)
  refine wp_of e130 c130_1 (rw_aload_n (pc' := 2) (v := .ref r0) rfl rfl rfl ?_)
  refine wp_of e130 c130_2 (rw_iload_n (pc' := 3) (z := a1) rfl rfl ?_)
  refine wp_of e130 c130_3 (xc_V (pc' := 6) (r := r0) (as := [vI a1]) (st := [.ref r0]) (lm_0_132) rfl rfl (Nat.le_of_ble_eq_true rfl) hW g0 sh_1 (by decide) rfl (by decide) (s_60 hW g0 ⟨by omega, by omega⟩) (fun R42994 T42995 H42996 p42997 => ?_))
  obtain ⟨e42998, e43000, z43002, e42999, b43003, p43001⟩ := p42997
  subst e42998
  subst e42999
  subst e43000
  show wp _ _ 130 6 [(0, .ref r0), (1, vI a1)] [vI z43002, .ref r0] _ H _
  refine wp_of e130 c130_6 (xc_V (pc' := 9) (r := r0) (as := [vI z43002]) (st := []) (lm_0_227) rfl rfl (Nat.le_of_ble_eq_true rfl) hW g0 sh_1 (by decide) rfl (by decide) (s_121 hW g0 ⟨by omega, by omega⟩) (fun R43004 T43005 H43006 p43007 => ?_))
  obtain ⟨e43008, w43010, f43011, z43014, e43009, b43015, p43012, p43013⟩ := p43007
  subst e43008
  subst e43009
  have f43016 := f0.tr f43011 rfl
  show wp _ _ 130 9 [(0, .ref r0), (1, vI a1)] [vI z43014] _ H43006 _
  refine wp_of e130 c130_9 (rw_istore_n (pc' := 10) (z := z43014) (L' := [(2, vI z43014), (0, .ref r0), (1, vI a1)]) rfl rfl rfl ?_)
  refine wp_of e130 c130_10 (rw_iload_n (pc' := 11) (z := z43014) rfl rfl ?_)
  refine wp_of e130 c130_11 (rw_if_eq (p1 := 20) (p2 := 14) (by decide) rfl ⟨by omega, by omega⟩ (fun c43017 => ?_) (fun c43017 => ?_))
  · refine wp_of e130 c130_20 (rw_aload_n (pc' := 21) (v := .ref r0) rfl rfl rfl ?_)
    refine wp_of e130 c130_21 (rw_aload_n (pc' := 22) (v := .ref r0) rfl rfl rfl ?_)
    refine wp_of e130 c130_22 (xg_R (pc' := 25) lf_0_37 w43010 g0 sh_1 (by decide) (by decide) ty_1_4 rfl rfl (fun r43018 q43019 g43020 => ?_))
    refine wp_of e130 c130_25 (rw_aload_n (pc' := 26) (v := .ref r0) rfl rfl rfl ?_)
    refine wp_of e130 c130_26 (xg_R (pc' := 29) lf_0_51 w43010 g0 sh_1 (by decide) (by decide) ty_1_6 rfl rfl (fun r43021 q43022 g43023 => ?_))
    refine wp_of e130 c130_29 (rw_aload_n (pc' := 30) (v := .ref r0) rfl rfl rfl ?_)
    refine wp_of e130 c130_30 (xg_R (pc' := 33) lf_0_30 w43010 g0 sh_1 (by decide) (by decide) ty_1_3 rfl rfl (fun r43024 q43025 g43026 => ?_))
    refine wp_of e130 c130_33 (rw_iload_n (pc' := 34) (z := a1) rfl rfl ?_)
    refine wp_of e130 c130_34 (xc_V (pc' := 37) (r := r43018) (as := [.ref r43021, .ref r43024, vI a1]) (st := [.ref r0]) (lm_0_234) rfl rfl (Nat.le_of_ble_eq_true rfl) w43010 g43020 sh_20 (by decide) rfl (by decide) (s_131 w43010 g43020 g43023 g43026 ⟨by omega, by omega⟩) (fun R43027 T43028 H43029 p43030 => ?_))
    obtain ⟨e43031, w43033, f43034, z43035, e43032, b43036⟩ := p43030
    subst e43031
    subst e43032
    have f43037 := f43016.tr f43034 rfl
    show wp _ _ 130 37 [(2, vI z43014), (0, .ref r0), (1, vI a1)] [vI z43035, .ref r0] _ H43029 _
    refine wp_of e130 c130_37 (xc_V (pc' := 40) (r := r0) (as := [vI z43035]) (st := []) (lm_0_99) rfl rfl (Nat.le_of_ble_eq_true rfl) w43033 g0 sh_1 (by decide) rfl (by decide) (s_51 w43033 g0 ⟨by omega, by omega⟩) (fun R43038 T43039 H43040 p43041 => ?_))
    obtain ⟨e43042, w43044, f43045, z43047, e43043, b43048, p43046⟩ := p43041
    subst e43042
    subst e43043
    have f43049 := f43037.tr f43045 rfl
    show wp _ _ 130 40 [(2, vI z43014), (0, .ref r0), (1, vI a1)] [vI z43047] _ H43040 _
    exact wp_ireturn e130 c130_40 rfl ⟨rfl, w43044, f43049, z43047, rfl, ⟨by omega, by omega⟩, by omega⟩
  · refine wp_of e130 c130_14 (rw_aload_n (pc' := 15) (v := .ref r0) rfl rfl rfl ?_)
    refine wp_of e130 c130_15 (rw_iload_n (pc' := 16) (z := z43014) rfl rfl ?_)
    refine wp_of e130 c130_16 (xc_V (pc' := 19) (r := r0) (as := [vI z43014]) (st := []) (lm_0_70) rfl rfl (Nat.le_of_ble_eq_true rfl) w43010 g0 sh_1 (by decide) rfl (by decide) (s_12 w43010 g0 ⟨by omega, by omega⟩) (fun R43050 T43051 H43052 p43053 => ?_))
    obtain ⟨e43054, w43056, f43057, z43059, e43055, b43060, p43058⟩ := p43053
    subst e43054
    subst e43055
    have f43061 := f43016.tr f43057 rfl
    show wp _ _ 130 19 [(2, vI z43014), (0, .ref r0), (1, vI a1)] [vI z43059] _ H43052 _
    exact wp_ireturn e130 c130_19 rfl ⟨rfl, w43056, f43061, z43059, rfl, ⟨by omega, by omega⟩, by omega⟩
/-! StrikeAwake.isTold(I)Z -/
theorem e133 : wq_en 133 = some (0, 2, false, some FieldType.boolean) := rfl
theorem c133_0 : mc_cd 133 0 = some (.iload_n 1, 1) := by decide +kernel
theorem c133_1 : mc_cd 133 1 = some (.ifCond .lt 18, 3) := by decide +kernel
theorem c133_4 : mc_cd 133 4 = some (.iload_n 1, 1) := by decide +kernel
theorem c133_5 : mc_cd 133 5 = some (.aload_n 0, 1) := by decide +kernel
theorem c133_6 : mc_cd 133 6 = some (.getfield 51, 3) := by decide +kernel
theorem c133_9 : mc_cd 133 9 = some (.getfield 333, 3) := by decide +kernel
theorem c133_12 : mc_cd 133 12 = some (.if_icmp .ge 7, 3) := by decide +kernel
theorem c133_15 : mc_cd 133 15 = some (.iconst 1, 1) := by decide +kernel
theorem c133_16 : mc_cd 133 16 = some (.goto 4, 3) := by decide +kernel
theorem c133_19 : mc_cd 133 19 = some (.iconst 0, 1) := by decide +kernel
theorem c133_20 : mc_cd 133 20 = some (.ireturn, 1) := by decide +kernel
abbrev q_133 (r0 : Nat) (a1 : Int) (T : wq_T) (H : wq_H) : Option Value → wq_T → wq_H → Prop := fun r T' H' => T = T' ∧ H = H' ∧ ∃ z : Int, some (vI z) = r ∧ (0 ≤ z ∧ z ≤ 1) ∧ (z = 0 ∨ (0 ≤ a1 ∧ a1 ≤ 3))
set_option maxHeartbeats 4000000 in
theorem s_133 {kt : Nat → Option mc_E} {T : wq_T} {H : wq_H} {r0 : Nat} {a1 : Int} (hW : WT T H) (g0 : T.2.2.2 r0 = some 1) (i1 : (-2147483648) ≤ a1 ∧ a1 ≤ 2147483647) : wpc kt 1 133 [.ref r0, vI a1] T H (q_133 r0 a1 T H) := by
  refine wp_enter e133 (Nat.le_of_ble_eq_true rfl) rfl ?_
  show wp _ _ 133 0 [(0, .ref r0), (1, vI a1)] [] _ H _
  refine wp_of e133 c133_0 (rw_iload_n (pc' := 1) (z := a1) rfl rfl ?_)
  refine wp_of e133 c133_1 (rw_if_lt (p1 := 19) (p2 := 4) (by decide) rfl ⟨by omega, by omega⟩ (fun c43069 => ?_) (fun c43069 => ?_))
  · refine wp_of e133 c133_19 (rw_iconst (pc' := 20) rfl ?_)
    exact wp_zreturn e133 c133_20 rfl (by omega) ⟨rfl, rfl, 0, rfl, ⟨by omega, by omega⟩, by omega⟩
  · refine wp_of e133 c133_4 (rw_iload_n (pc' := 5) (z := a1) rfl rfl ?_)
    refine wp_of e133 c133_5 (rw_aload_n (pc' := 6) (v := .ref r0) rfl rfl rfl ?_)
    refine wp_of e133 c133_6 (xg_R (pc' := 9) lf_0_51 hW g0 sh_1 (by decide) (by decide) ty_1_6 rfl rfl (fun r43070 q43071 g43072 => ?_))
    refine wp_of e133 c133_9 (xg_I (pc' := 12) lf_0_333 hW g43072 sh_27 (by decide) (by decide) ty_27_13 rfl rfl (fun b43073 b43074 => ?_))
    refine wp_of e133 c133_12 (rw_icmp_ge (p1 := 19) (p2 := 15) (by decide) rfl ⟨by omega, by omega⟩ ⟨by omega, by omega⟩ (fun c43075 => ?_) (fun c43075 => ?_))
    · refine wp_of e133 c133_19 (rw_iconst (pc' := 20) rfl ?_)
      exact wp_zreturn e133 c133_20 rfl (by omega) ⟨rfl, rfl, 0, rfl, ⟨by omega, by omega⟩, by omega⟩
    · refine wp_of e133 c133_15 (rw_iconst (pc' := 16) rfl ?_)
      refine wp_of e133 c133_16 (rw_goto (p1 := 20) (by decide) ?_)
      exact wp_zreturn e133 c133_20 rfl (by omega) ⟨rfl, rfl, 1, rfl, ⟨by omega, by omega⟩, by omega⟩
/-! StrikeAwake$Census.hasTold(LStrikeAwake$Parish;I)Z -/
theorem e134 : wq_en 134 = some (4, 7, false, some FieldType.boolean) := rfl
theorem c134_0 : mc_cd 134 0 = some (.aload_n 1, 1) := by decide +kernel
theorem c134_1 : mc_cd 134 1 = some (.getfield 144, 3) := by decide +kernel
theorem c134_4 : mc_cd 134 4 = some (.iload_n 2, 1) := by decide +kernel
theorem c134_5 : mc_cd 134 5 = some (.iaload, 1) := by decide +kernel
theorem c134_6 : mc_cd 134 6 = some (.istore_n 3, 1) := by decide +kernel
theorem c134_7 : mc_cd 134 7 = some (.aload_n 1, 1) := by decide +kernel
theorem c134_8 : mc_cd 134 8 = some (.getfield 147, 3) := by decide +kernel
theorem c134_11 : mc_cd 134 11 = some (.iload_n 2, 1) := by decide +kernel
theorem c134_12 : mc_cd 134 12 = some (.iaload, 1) := by decide +kernel
theorem c134_13 : mc_cd 134 13 = some (.istore 4, 2) := by decide +kernel
theorem c134_15 : mc_cd 134 15 = some (.aload_n 1, 1) := by decide +kernel
theorem c134_16 : mc_cd 134 16 = some (.getfield 78, 3) := by decide +kernel
theorem c134_19 : mc_cd 134 19 = some (.iload_n 3, 1) := by decide +kernel
theorem c134_20 : mc_cd 134 20 = some (.aaload, 1) := by decide +kernel
theorem c134_21 : mc_cd 134 21 = some (.astore 5, 2) := by decide +kernel
theorem c134_23 : mc_cd 134 23 = some (.iconst 0, 1) := by decide +kernel
theorem c134_24 : mc_cd 134 24 = some (.istore 6, 2) := by decide +kernel
theorem c134_26 : mc_cd 134 26 = some (.iload 6, 2) := by decide +kernel
theorem c134_28 : mc_cd 134 28 = some (.aload 5, 2) := by decide +kernel
theorem c134_30 : mc_cd 134 30 = some (.getfield 116, 3) := by decide +kernel
theorem c134_33 : mc_cd 134 33 = some (.if_icmp .ge 39, 3) := by decide +kernel
theorem c134_36 : mc_cd 134 36 = some (.aload_n 0, 1) := by decide +kernel
theorem c134_37 : mc_cd 134 37 = some (.getfield 17, 3) := by decide +kernel
theorem c134_40 : mc_cd 134 40 = some (.iload_n 3, 1) := by decide +kernel
theorem c134_41 : mc_cd 134 41 = some (.aaload, 1) := by decide +kernel
theorem c134_42 : mc_cd 134 42 = some (.iload 6, 2) := by decide +kernel
theorem c134_44 : mc_cd 134 44 = some (.iaload, 1) := by decide +kernel
theorem c134_45 : mc_cd 134 45 = some (.ifCond .le 21, 3) := by decide +kernel
theorem c134_48 : mc_cd 134 48 = some (.aload 5, 2) := by decide +kernel
theorem c134_50 : mc_cd 134 50 = some (.getfield 138, 3) := by decide +kernel
theorem c134_53 : mc_cd 134 53 = some (.iload 6, 2) := by decide +kernel
theorem c134_55 : mc_cd 134 55 = some (.iaload, 1) := by decide +kernel
theorem c134_56 : mc_cd 134 56 = some (.iload 4, 2) := by decide +kernel
theorem c134_58 : mc_cd 134 58 = some (.iand, 1) := by decide +kernel
theorem c134_59 : mc_cd 134 59 = some (.iload 4, 2) := by decide +kernel
theorem c134_61 : mc_cd 134 61 = some (.if_icmp .ne 5, 3) := by decide +kernel
theorem c134_64 : mc_cd 134 64 = some (.iconst 1, 1) := by decide +kernel
theorem c134_65 : mc_cd 134 65 = some (.ireturn, 1) := by decide +kernel
theorem c134_66 : mc_cd 134 66 = some (.iinc 6 1, 3) := by decide +kernel
theorem c134_69 : mc_cd 134 69 = some (.goto (-43), 3) := by decide +kernel
theorem c134_72 : mc_cd 134 72 = some (.iconst 0, 1) := by decide +kernel
theorem c134_73 : mc_cd 134 73 = some (.ireturn, 1) := by decide +kernel
abbrev q_134 (r0 : Nat) (r1 : Nat) (a2 : Int) (T : wq_T) (H : wq_H) : Option Value → wq_T → wq_H → Prop := fun r T' H' => T = T' ∧ H = H' ∧ ∃ z : Int, some (vI z) = r ∧ (0 ≤ z ∧ z ≤ 1)
set_option maxHeartbeats 4000000 in
theorem s_134 {kt : Nat → Option mc_E} {T : wq_T} {H : wq_H} {r0 : Nat} {r1 : Nat} {a2 : Int} (hW : WT T H) (g0 : T.2.2.2 r0 = some 12) (g1 : T.2.2.2 r1 = some 27) (i2 : 0 ≤ a2 ∧ a2 ≤ 3) : wpc kt 1 134 [.ref r0, .ref r1, vI a2] T H (q_134 r0 r1 a2 T H) := by
  refine wp_enter e134 (Nat.le_of_ble_eq_true rfl) rfl ?_
  show wp _ _ 134 0 [(0, .ref r0), (1, .ref r1), (2, vI a2)] [] _ H _
  refine wp_of e134 c134_0 (rw_aload_n (pc' := 1) (v := .ref r1) rfl rfl rfl ?_)
  refine wp_of e134 c134_1 (xg_R (pc' := 4) lf_4_144 hW g1 sh_27 (by decide) (by decide) ty_27_4 rfl rfl (fun r43273 q43274 g43275 => ?_))
  refine wp_of e134 c134_4 (rw_iload_n (pc' := 5) (z := a2) rfl rfl ?_)
  refine wp_of e134 c134_5 (xa_I (so := 0) (pc' := 6) hW g43275 sh_32 (by decide) (ty_32 _) (by omega) (by omega) rfl (fun b43276 b43277 => ?_))
  refine wp_of e134 c134_6 (rw_istore_n (pc' := 7) (z := H r43273 (a2.toNat)) (L' := [(3, vI (H r43273 (a2.toNat))), (0, .ref r0), (1, .ref r1), (2, vI a2)]) rfl rfl rfl ?_)
  refine wp_of e134 c134_7 (rw_aload_n (pc' := 8) (v := .ref r1) rfl rfl rfl ?_)
  refine wp_of e134 c134_8 (xg_R (pc' := 11) lf_4_147 hW g1 sh_27 (by decide) (by decide) ty_27_5 rfl rfl (fun r43278 q43279 g43280 => ?_))
  refine wp_of e134 c134_11 (rw_iload_n (pc' := 12) (z := a2) rfl rfl ?_)
  refine wp_of e134 c134_12 (xa_I (so := 0) (pc' := 13) hW g43280 sh_33 (by decide) (ty_33 _) (by omega) (by omega) rfl (fun b43281 b43282 => ?_))
  refine wp_of e134 c134_13 (rw_istore (pc' := 15) (z := H r43278 (a2.toNat)) (L' := [(4, vI (H r43278 (a2.toNat))), (3, vI (H r43273 (a2.toNat))), (0, .ref r0), (1, .ref r1), (2, vI a2)]) rfl rfl rfl ?_)
  refine wp_of e134 c134_15 (rw_aload_n (pc' := 16) (v := .ref r1) rfl rfl rfl ?_)
  refine wp_of e134 c134_16 (xg_R (pc' := 19) lf_4_78 hW g1 sh_27 (by decide) (by decide) ty_27_0 rfl rfl (fun r43283 q43284 g43285 => ?_))
  refine wp_of e134 c134_19 (rw_iload_n (pc' := 20) (z := H r43273 (a2.toNat)) rfl rfl ?_)
  refine wp_of e134 c134_20 (xa_R (pc' := 21) (by decide) hW g43285 sh_28 (by decide) (ty_28 _) (by omega) (by omega) rfl (fun r43286 q43287 g43288 => ?_))
  refine wp_of e134 c134_21 (rw_astore (pc' := 23) (v := .ref r43286) (L' := [(5, .ref r43286), (4, vI (H r43278 (a2.toNat))), (3, vI (H r43273 (a2.toNat))), (0, .ref r0), (1, .ref r1), (2, vI a2)]) rfl rfl rfl rfl ?_)
  refine wp_of e134 c134_23 (rw_iconst (pc' := 24) rfl ?_)
  refine wp_of e134 c134_24 (rw_istore (pc' := 26) (z := 0) (L' := [(6, vI 0), (5, .ref r43286), (4, vI (H r43278 (a2.toNat))), (3, vI (H r43273 (a2.toNat))), (0, .ref r0), (1, .ref r1), (2, vI a2)]) rfl rfl rfl ?_)
  have lp43449 : ∀ (n43450 : Nat) (v43452 : Int), (0 ≤ v43452 ∧ v43452 ≤ 40) → (40 - v43452).toNat = n43450 → wp kt 0 134 26 [(6, vI v43452), (5, .ref r43286), (4, vI (H r43278 (a2.toNat))), (3, vI (H r43273 (a2.toNat))), (0, .ref r0)] [] T H (q_134 r0 r1 a2 T H) := by
    intro n43450
    induction n43450 using Nat.strongRecOn with
    | _ n43450 ih43451 =>
      intro v43452 b43455 m43456
      refine wp_of e134 c134_26 (rw_iload (pc' := 28) (z := v43452) rfl rfl ?_)
      refine wp_of e134 c134_28 (rw_aload (pc' := 30) (v := .ref r43286) rfl rfl rfl ?_)
      refine wp_of e134 c134_30 (xg_I (pc' := 33) lf_4_116 hW g43288 sh_35 (by decide) (by decide) ty_35_15 rfl rfl (fun b43457 b43458 => ?_))
      refine wp_of e134 c134_33 (rw_icmp_ge (p1 := 72) (p2 := 36) (by decide) rfl ⟨by omega, by omega⟩ ⟨by omega, by omega⟩ (fun c43459 => ?_) (fun c43459 => ?_))
      · refine wp_of e134 c134_72 (rw_iconst (pc' := 73) rfl ?_)
        exact wp_zreturn e134 c134_73 rfl (by omega) ⟨rfl, rfl, 0, rfl, ⟨by omega, by omega⟩⟩
      · refine wp_of e134 c134_36 (rw_aload_n (pc' := 37) (v := .ref r0) rfl rfl rfl ?_)
        refine wp_of e134 c134_37 (xg_R (pc' := 40) lf_4_17 hW g0 sh_12 (by decide) (by decide) ty_12_1 rfl rfl (fun r43460 q43461 g43462 => ?_))
        refine wp_of e134 c134_40 (rw_iload_n (pc' := 41) (z := H r43273 (a2.toNat)) rfl rfl ?_)
        refine wp_of e134 c134_41 (xa_R (pc' := 42) (by decide) hW g43462 sh_14 (by decide) (ty_14 _) (by omega) (by omega) rfl (fun r43463 q43464 g43465 => ?_))
        refine wp_of e134 c134_42 (rw_iload (pc' := 44) (z := v43452) rfl rfl ?_)
        refine wp_of e134 c134_44 (xa_I (so := 0) (pc' := 45) hW g43465 sh_15 (by decide) (ty_15 _) (by omega) (by omega) rfl (fun b43466 b43467 => ?_))
        refine wp_of e134 c134_45 (rw_if_le (p1 := 66) (p2 := 48) (by decide) rfl ⟨by omega, by omega⟩ (fun c43468 => ?_) (fun c43468 => ?_))
        · refine wp_of e134 c134_66 (rw_iinc (pc' := 69) (z := v43452) (L' := [(6, vI (v43452 + 1)), (5, .ref r43286), (4, vI (H r43278 (a2.toNat))), (3, vI (H r43273 (a2.toNat))), (0, .ref r0)]) rfl rfl rfl rfl ?_)
          refine wp_of e134 c134_69 (rw_goto (p1 := 26) (by decide) ?_)
          exact wp_lc (ks := [6, 5, 4, 3, 0]) (wl_c rfl (wl_c rfl (wl_c rfl (wl_c rfl (wl_c rfl wl_n))))) rfl (by decide) (ih43451 _ (by omega) (v43452 + 1) ⟨by omega, by omega⟩ rfl)
        · refine wp_of e134 c134_48 (rw_aload (pc' := 50) (v := .ref r43286) rfl rfl rfl ?_)
          refine wp_of e134 c134_50 (xg_R (pc' := 53) lf_4_138 hW g43288 sh_35 (by decide) (by decide) ty_35_2 rfl rfl (fun r43469 q43470 g43471 => ?_))
          refine wp_of e134 c134_53 (rw_iload (pc' := 55) (z := v43452) rfl rfl ?_)
          refine wp_of e134 c134_55 (xa_I (so := 0) (pc' := 56) hW g43471 sh_38 (by decide) (ty_38 _) (by omega) (by omega) rfl (fun b43472 b43473 => ?_))
          refine wp_of e134 c134_56 (rw_iload (pc' := 58) (z := H r43278 (a2.toNat)) rfl rfl ?_)
          refine wp_of e134 c134_58 (rw_iand (pc' := 59) rfl ?_)
          obtain ⟨v43474, e43475⟩ : ∃ x : Int, x = wq_and (H r43469 (v43452.toNat)) (H r43278 (a2.toNat)) := ⟨_, rfl⟩
          rw [← e43475]
          have b43476 : -2147483648 ≤ v43474 ∧ v43474 ≤ 2147483647 := by
            rw [e43475]
            exact wI_and _ _
          refine wp_of e134 c134_59 (rw_iload (pc' := 61) (z := H r43278 (a2.toNat)) rfl rfl ?_)
          refine wp_of e134 c134_61 (rw_icmp_ne (p1 := 66) (p2 := 64) (by decide) rfl ⟨by omega, by omega⟩ ⟨by omega, by omega⟩ (fun c43477 => ?_) (fun c43477 => ?_))
          · refine wp_of e134 c134_66 (rw_iinc (pc' := 69) (z := v43452) (L' := [(6, vI (v43452 + 1)), (5, .ref r43286), (4, vI (H r43278 (a2.toNat))), (3, vI (H r43273 (a2.toNat))), (0, .ref r0)]) rfl rfl rfl rfl ?_)
            refine wp_of e134 c134_69 (rw_goto (p1 := 26) (by decide) ?_)
            exact wp_lc (ks := [6, 5, 4, 3, 0]) (wl_c rfl (wl_c rfl (wl_c rfl (wl_c rfl (wl_c rfl wl_n))))) rfl (by decide) (ih43451 _ (by omega) (v43452 + 1) ⟨by omega, by omega⟩ rfl)
          · refine wp_of e134 c134_64 (rw_iconst (pc' := 65) rfl ?_)
            exact wp_zreturn e134 c134_65 rfl (by omega) ⟨rfl, rfl, 1, rfl, ⟨by omega, by omega⟩⟩
  exact wp_lc (ks := [6, 5, 4, 3, 0, 1, 2]) (wl_c rfl (wl_c rfl (wl_c rfl (wl_c rfl (wl_c rfl wl_n))))) rfl (by decide) (lp43449 _ 0 ⟨by omega, by omega⟩ rfl)
/-! StrikeAwake.lie(I)I -/
theorem e132 : wq_en 132 = some (0, 3, false, some FieldType.int) := rfl
theorem c132_0 : mc_cd 132 0 = some (.aload_n 0, 1) := by decide +kernel
theorem c132_1 : mc_cd 132 1 = some (.aload_n 0, 1) := by decide +kernel
theorem c132_2 : mc_cd 132 2 = some (.iload_n 1, 1) := by decide +kernel
theorem c132_3 : mc_cd 132 3 = some (.invokevirtual 238, 3) := by decide +kernel
theorem c132_6 : mc_cd 132 6 = some (.invokevirtual 174, 3) := by decide +kernel
theorem c132_9 : mc_cd 132 9 = some (.istore_n 2, 1) := by decide +kernel
theorem c132_10 : mc_cd 132 10 = some (.iload_n 2, 1) := by decide +kernel
theorem c132_11 : mc_cd 132 11 = some (.ifCond .eq 9, 3) := by decide +kernel
theorem c132_14 : mc_cd 132 14 = some (.aload_n 0, 1) := by decide +kernel
theorem c132_15 : mc_cd 132 15 = some (.iload_n 2, 1) := by decide +kernel
theorem c132_16 : mc_cd 132 16 = some (.invokevirtual 70, 3) := by decide +kernel
theorem c132_19 : mc_cd 132 19 = some (.ireturn, 1) := by decide +kernel
theorem c132_20 : mc_cd 132 20 = some (.aload_n 0, 1) := by decide +kernel
theorem c132_21 : mc_cd 132 21 = some (.aload_n 0, 1) := by decide +kernel
theorem c132_22 : mc_cd 132 22 = some (.getfield 30, 3) := by decide +kernel
theorem c132_25 : mc_cd 132 25 = some (.aload_n 0, 1) := by decide +kernel
theorem c132_26 : mc_cd 132 26 = some (.getfield 51, 3) := by decide +kernel
theorem c132_29 : mc_cd 132 29 = some (.iload_n 1, 1) := by decide +kernel
theorem c132_30 : mc_cd 132 30 = some (.invokevirtual 241, 3) := by decide +kernel
theorem c132_33 : mc_cd 132 33 = some (.ifCond .eq 7, 3) := by decide +kernel
theorem c132_36 : mc_cd 132 36 = some (.iconst 0, 1) := by decide +kernel
theorem c132_37 : mc_cd 132 37 = some (.goto 4, 3) := by decide +kernel
theorem c132_40 : mc_cd 132 40 = some (.iconst 1, 1) := by decide +kernel
theorem c132_41 : mc_cd 132 41 = some (.invokevirtual 99, 3) := by decide +kernel
theorem c132_44 : mc_cd 132 44 = some (.ireturn, 1) := by decide +kernel
abbrev q_132 (r0 : Nat) (a1 : Int) (T : wq_T) (H : wq_H) : Option Value → wq_T → wq_H → Prop := fun r T' H' => T = T' ∧ WT T H' ∧ wfr [(12, 5), (12, 6), (12, 7), (12, 8), (12, 9), (1, 10), (6, 5), (8, 999), (10, 999), (15, 999), (9, 999), (18, 999), (19, 999), (7, 999), (11, 999), (17, 999), (13, 999)] T H H' ∧ ∃ z : Int, some (vI z) = r ∧ ((-2147483648) ≤ z ∧ z ≤ 2147483647) ∧ (H' r0 10 ≠ 4)
set_option maxHeartbeats 4000000 in
theorem s_132 {kt : Nat → Option mc_E} {T : wq_T} {H : wq_H} {r0 : Nat} {a1 : Int} (hW : WT T H) (g0 : T.2.2.2 r0 = some 1) (i1 : (-2147483648) ≤ a1 ∧ a1 ≤ 2147483647) : wpc kt 6 132 [.ref r0, vI a1] T H (q_132 r0 a1 T H) := by
  refine wp_enter e132 (Nat.le_of_ble_eq_true rfl) rfl ?_
  have f0 : wfr [(12, 5), (12, 6), (12, 7), (12, 8), (12, 9), (1, 10), (6, 5), (8, 999), (10, 999), (15, 999), (9, 999), (18, 999), (19, 999), (7, 999), (11, 999), (17, 999), (13, 999)] T H H := wfr.rf
  show wp _ _ 132 0 [(0, .ref r0), (1, vI a1)] [] _ H _
  refine wp_of e132 c132_0 (rw_aload_n (pc' := 1) (v := .ref r0) rfl rfl rfl ?_)
  refine wp_of e132 c132_1 (rw_aload_n (pc' := 2) (v := .ref r0) rfl rfl rfl ?_)
  refine wp_of e132 c132_2 (rw_iload_n (pc' := 3) (z := a1) rfl rfl ?_)
  refine wp_of e132 c132_3 (xc_V (pc' := 6) (r := r0) (as := [vI a1]) (st := [.ref r0]) (lm_0_238) rfl rfl (Nat.le_of_ble_eq_true rfl) hW g0 sh_1 (by decide) rfl (by decide) (s_133 hW g0 ⟨by omega, by omega⟩) (fun R43554 T43555 H43556 p43557 => ?_))
  obtain ⟨e43558, e43560, z43562, e43559, b43563, p43561⟩ := p43557
  subst e43558
  subst e43559
  subst e43560
  show wp _ _ 132 6 [(0, .ref r0), (1, vI a1)] [vI z43562, .ref r0] _ H _
  refine wp_of e132 c132_6 (xc_V (pc' := 9) (r := r0) (as := [vI z43562]) (st := []) (lm_0_174) rfl rfl (Nat.le_of_ble_eq_true rfl) hW g0 sh_1 (by decide) rfl (by decide) (s_83 hW g0 ⟨by omega, by omega⟩) (fun R43564 T43565 H43566 p43567 => ?_))
  obtain ⟨e43568, w43570, f43571, z43574, e43569, b43575, p43572, p43573⟩ := p43567
  subst e43568
  subst e43569
  have f43576 := f0.tr f43571 rfl
  show wp _ _ 132 9 [(0, .ref r0), (1, vI a1)] [vI z43574] _ H43566 _
  refine wp_of e132 c132_9 (rw_istore_n (pc' := 10) (z := z43574) (L' := [(2, vI z43574), (0, .ref r0), (1, vI a1)]) rfl rfl rfl ?_)
  refine wp_of e132 c132_10 (rw_iload_n (pc' := 11) (z := z43574) rfl rfl ?_)
  refine wp_of e132 c132_11 (rw_if_eq (p1 := 20) (p2 := 14) (by decide) rfl ⟨by omega, by omega⟩ (fun c43577 => ?_) (fun c43577 => ?_))
  · refine wp_of e132 c132_20 (rw_aload_n (pc' := 21) (v := .ref r0) rfl rfl rfl ?_)
    refine wp_of e132 c132_21 (rw_aload_n (pc' := 22) (v := .ref r0) rfl rfl rfl ?_)
    refine wp_of e132 c132_22 (xg_R (pc' := 25) lf_0_30 w43570 g0 sh_1 (by decide) (by decide) ty_1_3 rfl rfl (fun r43578 q43579 g43580 => ?_))
    refine wp_of e132 c132_25 (rw_aload_n (pc' := 26) (v := .ref r0) rfl rfl rfl ?_)
    refine wp_of e132 c132_26 (xg_R (pc' := 29) lf_0_51 w43570 g0 sh_1 (by decide) (by decide) ty_1_6 rfl rfl (fun r43581 q43582 g43583 => ?_))
    refine wp_of e132 c132_29 (rw_iload_n (pc' := 30) (z := a1) rfl rfl ?_)
    refine wp_of e132 c132_30 (xc_V (pc' := 33) (r := r43578) (as := [.ref r43581, vI a1]) (st := [.ref r0]) (lm_0_241) rfl rfl (Nat.le_of_ble_eq_true rfl) w43570 g43580 sh_12 (by decide) rfl (by decide) (s_134 w43570 g43580 g43583 ⟨by omega, by omega⟩) (fun R43584 T43585 H43586 p43587 => ?_))
    obtain ⟨e43588, e43590, z43591, e43589, b43592⟩ := p43587
    subst e43588
    subst e43589
    subst e43590
    show wp _ _ 132 33 [(2, vI z43574), (0, .ref r0), (1, vI a1)] [vI z43591, .ref r0] _ H43566 _
    refine wp_of e132 c132_33 (rw_if_eq (p1 := 40) (p2 := 36) (by decide) rfl ⟨by omega, by omega⟩ (fun c43593 => ?_) (fun c43593 => ?_))
    · refine wp_of e132 c132_40 (rw_iconst (pc' := 41) rfl ?_)
      refine wp_of e132 c132_41 (xc_V (pc' := 44) (r := r0) (as := [vI 1]) (st := []) (lm_0_99) rfl rfl (Nat.le_of_ble_eq_true rfl) w43570 g0 sh_1 (by decide) rfl (by decide) (s_51 w43570 g0 ⟨by omega, by omega⟩) (fun R43594 T43595 H43596 p43597 => ?_))
      obtain ⟨e43598, w43600, f43601, z43603, e43599, b43604, p43602⟩ := p43597
      subst e43598
      subst e43599
      have f43605 := f43576.tr f43601 rfl
      show wp _ _ 132 44 [(2, vI z43574), (0, .ref r0), (1, vI a1)] [vI z43603] _ H43596 _
      exact wp_ireturn e132 c132_44 rfl ⟨rfl, w43600, f43605, z43603, rfl, ⟨by omega, by omega⟩, by omega⟩
    · refine wp_of e132 c132_36 (rw_iconst (pc' := 37) rfl ?_)
      refine wp_of e132 c132_37 (rw_goto (p1 := 41) (by decide) ?_)
      refine wp_of e132 c132_41 (xc_V (pc' := 44) (r := r0) (as := [vI 0]) (st := []) (lm_0_99) rfl rfl (Nat.le_of_ble_eq_true rfl) w43570 g0 sh_1 (by decide) rfl (by decide) (s_51 w43570 g0 ⟨by omega, by omega⟩) (fun R43606 T43607 H43608 p43609 => ?_))
      obtain ⟨e43610, w43612, f43613, z43615, e43611, b43616, p43614⟩ := p43609
      subst e43610
      subst e43611
      have f43617 := f43576.tr f43613 rfl
      show wp _ _ 132 44 [(2, vI z43574), (0, .ref r0), (1, vI a1)] [vI z43615] _ H43608 _
      exact wp_ireturn e132 c132_44 rfl ⟨rfl, w43612, f43617, z43615, rfl, ⟨by omega, by omega⟩, by omega⟩
  · refine wp_of e132 c132_14 (rw_aload_n (pc' := 15) (v := .ref r0) rfl rfl rfl ?_)
    refine wp_of e132 c132_15 (rw_iload_n (pc' := 16) (z := z43574) rfl rfl ?_)
    refine wp_of e132 c132_16 (xc_V (pc' := 19) (r := r0) (as := [vI z43574]) (st := []) (lm_0_70) rfl rfl (Nat.le_of_ble_eq_true rfl) w43570 g0 sh_1 (by decide) rfl (by decide) (s_12 w43570 g0 ⟨by omega, by omega⟩) (fun R43618 T43619 H43620 p43621 => ?_))
    obtain ⟨e43622, w43624, f43625, z43627, e43623, b43628, p43626⟩ := p43621
    subst e43622
    subst e43623
    have f43629 := f43576.tr f43625 rfl
    show wp _ _ 132 19 [(2, vI z43574), (0, .ref r0), (1, vI a1)] [vI z43627] _ H43620 _
    exact wp_ireturn e132 c132_19 rfl ⟨rfl, w43624, f43629, z43627, rfl, ⟨by omega, by omega⟩, by omega⟩
/-! StrikeAwake$Grounds.barringHour(LStrikeAwake$Parish;LStrikeAwake$Walk;I)I -/
theorem e136 : wq_en 136 = some (6, 10, false, some FieldType.int) := rfl
theorem c136_0 : mc_cd 136 0 = some (.aload_n 1, 1) := by decide +kernel
theorem c136_1 : mc_cd 136 1 = some (.getfield 15, 3) := by decide +kernel
theorem c136_4 : mc_cd 136 4 = some (.aload_n 1, 1) := by decide +kernel
theorem c136_5 : mc_cd 136 5 = some (.getfield 21, 3) := by decide +kernel
theorem c136_8 : mc_cd 136 8 = some (.iload_n 3, 1) := by decide +kernel
theorem c136_9 : mc_cd 136 9 = some (.iaload, 1) := by decide +kernel
theorem c136_10 : mc_cd 136 10 = some (.aaload, 1) := by decide +kernel
theorem c136_11 : mc_cd 136 11 = some (.astore 4, 2) := by decide +kernel
theorem c136_13 : mc_cd 136 13 = some (.aload_n 1, 1) := by decide +kernel
theorem c136_14 : mc_cd 136 14 = some (.getfield 25, 3) := by decide +kernel
theorem c136_17 : mc_cd 136 17 = some (.iload_n 3, 1) := by decide +kernel
theorem c136_18 : mc_cd 136 18 = some (.iaload, 1) := by decide +kernel
theorem c136_19 : mc_cd 136 19 = some (.istore 5, 2) := by decide +kernel
theorem c136_21 : mc_cd 136 21 = some (.sipush (-1000), 3) := by decide +kernel
theorem c136_24 : mc_cd 136 24 = some (.istore 6, 2) := by decide +kernel
theorem c136_26 : mc_cd 136 26 = some (.aload_n 2, 1) := by decide +kernel
theorem c136_27 : mc_cd 136 27 = some (.aload_n 1, 1) := by decide +kernel
theorem c136_28 : mc_cd 136 28 = some (.invokevirtual 28, 3) := by decide +kernel
theorem c136_31 : mc_cd 136 31 = some (.iconst 0, 1) := by decide +kernel
theorem c136_32 : mc_cd 136 32 = some (.istore 7, 2) := by decide +kernel
theorem c136_34 : mc_cd 136 34 = some (.iload 7, 2) := by decide +kernel
theorem c136_36 : mc_cd 136 36 = some (.i2l, 1) := by decide +kernel
theorem c136_37 : mc_cd 136 37 = some (.aload_n 1, 1) := by decide +kernel
theorem c136_38 : mc_cd 136 38 = some (.getfield 34, 3) := by decide +kernel
theorem c136_41 : mc_cd 136 41 = some (.lcmp, 1) := by decide +kernel
theorem c136_42 : mc_cd 136 42 = some (.ifCond .ge 83, 3) := by decide +kernel
theorem c136_45 : mc_cd 136 45 = some (.iload 7, 2) := by decide +kernel
theorem c136_47 : mc_cd 136 47 = some (.sipush 20000, 3) := by decide +kernel
theorem c136_50 : mc_cd 136 50 = some (.if_icmp .ge 75, 3) := by decide +kernel
theorem c136_53 : mc_cd 136 53 = some (.aload 4, 2) := by decide +kernel
theorem c136_55 : mc_cd 136 55 = some (.getfield 38, 3) := by decide +kernel
theorem c136_58 : mc_cd 136 58 = some (.aload_n 2, 1) := by decide +kernel
theorem c136_59 : mc_cd 136 59 = some (.aload_n 1, 1) := by decide +kernel
theorem c136_60 : mc_cd 136 60 = some (.getfield 21, 3) := by decide +kernel
theorem c136_63 : mc_cd 136 63 = some (.iload_n 3, 1) := by decide +kernel
theorem c136_64 : mc_cd 136 64 = some (.iaload, 1) := by decide +kernel
theorem c136_65 : mc_cd 136 65 = some (.invokevirtual 43, 3) := by decide +kernel
theorem c136_68 : mc_cd 136 68 = some (.iaload, 1) := by decide +kernel
theorem c136_69 : mc_cd 136 69 = some (.istore 8, 2) := by decide +kernel
theorem c136_71 : mc_cd 136 71 = some (.aload_n 2, 1) := by decide +kernel
theorem c136_72 : mc_cd 136 72 = some (.invokevirtual 47, 3) := by decide +kernel
theorem c136_75 : mc_cd 136 75 = some (.ifCond .ne 39, 3) := by decide +kernel
theorem c136_78 : mc_cd 136 78 = some (.iload 8, 2) := by decide +kernel
theorem c136_80 : mc_cd 136 80 = some (.iload 5, 2) := by decide +kernel
theorem c136_82 : mc_cd 136 82 = some (.iand, 1) := by decide +kernel
theorem c136_83 : mc_cd 136 83 = some (.iload 5, 2) := by decide +kernel
theorem c136_85 : mc_cd 136 85 = some (.if_icmp .ne 29, 3) := by decide +kernel
theorem c136_88 : mc_cd 136 88 = some (.aload_n 2, 1) := by decide +kernel
theorem c136_89 : mc_cd 136 89 = some (.aload_n 1, 1) := by decide +kernel
theorem c136_90 : mc_cd 136 90 = some (.invokevirtual 51, 3) := by decide +kernel
theorem c136_93 : mc_cd 136 93 = some (.istore 9, 2) := by decide +kernel
theorem c136_95 : mc_cd 136 95 = some (.iload 9, 2) := by decide +kernel
theorem c136_97 : mc_cd 136 97 = some (.bipush 24, 2) := by decide +kernel
theorem c136_99 : mc_cd 136 99 = some (.if_icmp .ne 6, 3) := by decide +kernel
theorem c136_102 : mc_cd 136 102 = some (.bipush (-2), 2) := by decide +kernel
theorem c136_104 : mc_cd 136 104 = some (.ireturn, 1) := by decide +kernel
theorem c136_105 : mc_cd 136 105 = some (.iload 6, 2) := by decide +kernel
theorem c136_107 : mc_cd 136 107 = some (.iload 9, 2) := by decide +kernel
theorem c136_109 : mc_cd 136 109 = some (.invokestatic 55, 3) := by decide +kernel
theorem c136_112 : mc_cd 136 112 = some (.istore 6, 2) := by decide +kernel
theorem c136_114 : mc_cd 136 114 = some (.aload_n 2, 1) := by decide +kernel
theorem c136_115 : mc_cd 136 115 = some (.aload_n 1, 1) := by decide +kernel
theorem c136_116 : mc_cd 136 116 = some (.invokevirtual 61, 3) := by decide +kernel
theorem c136_119 : mc_cd 136 119 = some (.iinc 7 1, 3) := by decide +kernel
theorem c136_122 : mc_cd 136 122 = some (.goto (-88), 3) := by decide +kernel
theorem c136_125 : mc_cd 136 125 = some (.iload 6, 2) := by decide +kernel
theorem c136_127 : mc_cd 136 127 = some (.ireturn, 1) := by decide +kernel
abbrev q_136 (r0 : Nat) (r1 : Nat) (r2 : Nat) (a3 : Int) (T : wq_T) (H : wq_H) : Option Value → wq_T → wq_H → Prop := fun r T' H' => T = T' ∧ WT T H' ∧ wfr [(6, 5), (8, 999), (10, 999), (9, 999), (7, 999), (11, 999)] T H H' ∧ ∃ z : Int, some (vI z) = r ∧ ((-2147483648) ≤ z ∧ z ≤ 2147483647)
set_option maxHeartbeats 4000000 in
theorem s_136 {kt : Nat → Option mc_E} {T : wq_T} {H : wq_H} {r0 : Nat} {r1 : Nat} {r2 : Nat} {a3 : Int} (hW : WT T H) (g0 : T.2.2.2 r0 = some 25) (g1 : T.2.2.2 r1 = some 27) (g2 : T.2.2.2 r2 = some 6) (i3 : 0 ≤ a3 ∧ a3 ≤ 3) : wpc kt 4 136 [.ref r0, .ref r1, .ref r2, vI a3] T H (q_136 r0 r1 r2 a3 T H) := by
  refine wp_enter e136 (Nat.le_of_ble_eq_true rfl) rfl ?_
  have f0 : wfr [(6, 5), (8, 999), (10, 999), (9, 999), (7, 999), (11, 999)] T H H := wfr.rf
  show wp _ _ 136 0 [(0, .ref r0), (1, .ref r1), (2, .ref r2), (3, vI a3)] [] _ H _
  refine wp_of e136 c136_0 (rw_aload_n (pc' := 1) (v := .ref r1) rfl rfl rfl ?_)
  refine wp_of e136 c136_1 (xg_R (pc' := 4) lf_6_15 hW g1 sh_27 (by decide) (by decide) ty_27_0 rfl rfl (fun r44340 q44341 g44342 => ?_))
  refine wp_of e136 c136_4 (rw_aload_n (pc' := 5) (v := .ref r1) rfl rfl rfl ?_)
  refine wp_of e136 c136_5 (xg_R (pc' := 8) lf_6_21 hW g1 sh_27 (by decide) (by decide) ty_27_4 rfl rfl (fun r44343 q44344 g44345 => ?_))
  refine wp_of e136 c136_8 (rw_iload_n (pc' := 9) (z := a3) rfl rfl ?_)
  refine wp_of e136 c136_9 (xa_I (so := 0) (pc' := 10) hW g44345 sh_32 (by decide) (ty_32 _) (by omega) (by omega) rfl (fun b44346 b44347 => ?_))
  refine wp_of e136 c136_10 (xa_R (pc' := 11) (by decide) hW g44342 sh_28 (by decide) (ty_28 _) (by omega) (by omega) rfl (fun r44348 q44349 g44350 => ?_))
  refine wp_of e136 c136_11 (rw_astore (pc' := 13) (v := .ref r44348) (L' := [(4, .ref r44348), (0, .ref r0), (1, .ref r1), (2, .ref r2), (3, vI a3)]) rfl rfl rfl rfl ?_)
  refine wp_of e136 c136_13 (rw_aload_n (pc' := 14) (v := .ref r1) rfl rfl rfl ?_)
  refine wp_of e136 c136_14 (xg_R (pc' := 17) lf_6_25 hW g1 sh_27 (by decide) (by decide) ty_27_5 rfl rfl (fun r44351 q44352 g44353 => ?_))
  refine wp_of e136 c136_17 (rw_iload_n (pc' := 18) (z := a3) rfl rfl ?_)
  refine wp_of e136 c136_18 (xa_I (so := 0) (pc' := 19) hW g44353 sh_33 (by decide) (ty_33 _) (by omega) (by omega) rfl (fun b44354 b44355 => ?_))
  refine wp_of e136 c136_19 (rw_istore (pc' := 21) (z := H r44351 (a3.toNat)) (L' := [(5, vI (H r44351 (a3.toNat))), (4, .ref r44348), (0, .ref r0), (1, .ref r1), (2, .ref r2), (3, vI a3)]) rfl rfl rfl ?_)
  refine wp_of e136 c136_21 (rw_sipush (pc' := 24) (z := -1000) rfl (by decide) ?_)
  refine wp_of e136 c136_24 (rw_istore (pc' := 26) (z := -1000) (L' := [(6, vI (-1000)), (5, vI (H r44351 (a3.toNat))), (4, .ref r44348), (0, .ref r0), (1, .ref r1), (2, .ref r2), (3, vI a3)]) rfl rfl rfl ?_)
  refine wp_of e136 c136_26 (rw_aload_n (pc' := 27) (v := .ref r2) rfl rfl rfl ?_)
  refine wp_of e136 c136_27 (rw_aload_n (pc' := 28) (v := .ref r1) rfl rfl rfl ?_)
  refine wp_of e136 c136_28 (xc_V (pc' := 31) (r := r2) (as := [.ref r1]) (st := []) (lm_6_28) rfl rfl (Nat.le_of_ble_eq_true rfl) hW g2 sh_6 (by decide) rfl (by decide) (s_87 hW g2 g1) (fun R44356 T44357 H44358 p44359 => ?_))
  obtain ⟨e44360, w44362, f44363, e44361⟩ := p44359
  subst e44360
  subst e44361
  have f44364 := f0.tr f44363 rfl
  show wp _ _ 136 31 [(6, vI (-1000)), (5, vI (H r44351 (a3.toNat))), (4, .ref r44348), (0, .ref r0), (1, .ref r1), (2, .ref r2), (3, vI a3)] [] _ H44358 _
  refine wp_of e136 c136_31 (rw_iconst (pc' := 32) rfl ?_)
  refine wp_of e136 c136_32 (rw_istore (pc' := 34) (z := 0) (L' := [(7, vI 0), (6, vI (-1000)), (5, vI (H r44351 (a3.toNat))), (4, .ref r44348), (0, .ref r0), (1, .ref r1), (2, .ref r2), (3, vI a3)]) rfl rfl rfl ?_)
  have lp44973 : ∀ (n44974 : Nat) (v44976 : Int) (v44977 : Int) (H44978 : wq_H), WT T H44978 → wfr [(8, 999), (10, 999), (9, 999), (7, 999), (11, 999)] T H44358 H44978 → (0 ≤ v44976 ∧ v44976 ≤ 20000) → ((-1000) ≤ v44977 ∧ v44977 ≤ 23) → (20000 - v44976).toNat = n44974 → wp kt 3 136 34 [(7, vI v44976), (6, vI v44977), (5, vI (H r44351 (a3.toNat))), (4, .ref r44348), (1, .ref r1), (2, .ref r2), (3, vI a3)] [] T H44978 (q_136 r0 r1 r2 a3 T H) := by
    intro n44974
    induction n44974 using Nat.strongRecOn with
    | _ n44974 ih44975 =>
      intro v44976 v44977 H44978 w44979 f44980 b44981 b44982 m44983
      have f44984 := f44364.tr f44980 rfl
      refine wp_of e136 c136_34 (rw_iload (pc' := 36) (z := v44976) rfl rfl ?_)
      refine wp_of e136 c136_36 (rw_i2l (pc' := 37) rfl ⟨by omega, by omega⟩ ?_)
      refine wp_of e136 c136_37 (rw_aload_n (pc' := 38) (v := .ref r1) rfl rfl rfl ?_)
      refine wp_of e136 c136_38 (xg_L (pc' := 41) lf_6_34 w44979 g1 sh_27 (by decide) (by decide) ty_27_18 rfl rfl (fun b44985 b44986 => ?_))
      refine wp_of e136 c136_41 (rw_lcmp (pc' := 42) rfl ⟨by omega, by omega⟩ ⟨by omega, by omega⟩ ?_)
      have b44987 := wq_cmp_b v44976 (H44978 r1 18)
      refine wp_of e136 c136_42 (rw_if_ge (p1 := 125) (p2 := 45) (by decide) rfl ⟨by omega, by omega⟩ (fun c44988 => ?_) (fun c44988 => ?_))
      · refine wp_of e136 c136_125 (rw_iload (pc' := 127) (z := v44977) rfl rfl ?_)
        exact wp_ireturn e136 c136_127 rfl ⟨rfl, w44979, f44984, v44977, rfl, ⟨by omega, by omega⟩⟩
      · refine wp_of e136 c136_45 (rw_iload (pc' := 47) (z := v44976) rfl rfl ?_)
        refine wp_of e136 c136_47 (rw_sipush (pc' := 50) (z := 20000) rfl (by decide) ?_)
        refine wp_of e136 c136_50 (rw_icmp_ge (p1 := 125) (p2 := 53) (by decide) rfl ⟨by omega, by omega⟩ ⟨by omega, by omega⟩ (fun c44989 => ?_) (fun c44989 => ?_))
        · refine wp_of e136 c136_125 (rw_iload (pc' := 127) (z := v44977) rfl rfl ?_)
          exact wp_ireturn e136 c136_127 rfl ⟨rfl, w44979, f44984, v44977, rfl, ⟨by omega, by omega⟩⟩
        · refine wp_of e136 c136_53 (rw_aload (pc' := 55) (v := .ref r44348) rfl rfl rfl ?_)
          refine wp_of e136 c136_55 (xg_R (pc' := 58) lf_6_38 w44979 g44350 sh_35 (by decide) (by decide) ty_35_2 rfl rfl (fun r44990 q44991 g44992 => ?_))
          refine wp_of e136 c136_58 (rw_aload_n (pc' := 59) (v := .ref r2) rfl rfl rfl ?_)
          refine wp_of e136 c136_59 (rw_aload_n (pc' := 60) (v := .ref r1) rfl rfl rfl ?_)
          have k44993 : H44978 r1 4 = H r1 4 := ((f44980 r1 4 _ g1 rfl).trans (f44363 r1 4 _ g1 rfl))
          have q44994 : H44978 r1 4 = (r44343 : Int) := k44993.trans q44344
          refine wp_of e136 c136_60 (xg_K (pc' := 63) lf_6_21 w44979 g1 sh_27 (by decide) (by decide) rfl q44994 rfl ?_)
          refine wp_of e136 c136_63 (rw_iload_n (pc' := 64) (z := a3) rfl rfl ?_)
          have k44995 : H44978 r44343 (a3.toNat) = H r44343 (a3.toNat) := ((f44980 r44343 (a3.toNat) _ g44345 rfl).trans (f44363 r44343 (a3.toNat) _ g44345 rfl))
          refine wp_of e136 c136_64 (xa_I (so := 0) (pc' := 65) w44979 g44345 sh_32 (by decide) (ty_32 _) (by omega) (by omega) rfl (fun b44996 b44997 => ?_))
          refine wp_of e136 c136_65 (xc_V (pc' := 68) (r := r2) (as := [vI (H44978 r44343 (a3.toNat))]) (st := [.ref r44990]) (lm_6_43) rfl rfl (Nat.le_of_ble_eq_true rfl) w44979 g2 sh_6 (by decide) rfl (by decide) (s_89 w44979 g2 ⟨by omega, by omega⟩) (fun R44998 T44999 H45000 p45001 => ?_))
          obtain ⟨e45002, e45004, z45005, e45003, b45006⟩ := p45001
          subst e45002
          subst e45003
          subst e45004
          show wp _ _ 136 68 [(7, vI v44976), (6, vI v44977), (5, vI (H r44351 (a3.toNat))), (4, .ref r44348), (1, .ref r1), (2, .ref r2), (3, vI a3)] [vI z45005, .ref r44990] _ H44978 _
          refine wp_of e136 c136_68 (xa_I (so := 0) (pc' := 69) w44979 g44992 sh_38 (by decide) (ty_38 _) (by omega) (by omega) rfl (fun b45007 b45008 => ?_))
          refine wp_of e136 c136_69 (rw_istore (pc' := 71) (z := H44978 r44990 (z45005.toNat)) (L' := [(8, vI (H44978 r44990 (z45005.toNat))), (7, vI v44976), (6, vI v44977), (5, vI (H r44351 (a3.toNat))), (4, .ref r44348), (1, .ref r1), (2, .ref r2), (3, vI a3)]) rfl rfl rfl ?_)
          refine wp_of e136 c136_71 (rw_aload_n (pc' := 72) (v := .ref r2) rfl rfl rfl ?_)
          refine wp_of e136 c136_72 (xc_V (pc' := 75) (r := r2) (as := []) (st := []) (lm_6_47) rfl rfl (Nat.le_of_ble_eq_true rfl) w44979 g2 sh_6 (by decide) rfl (by decide) (s_80 w44979 g2) (fun R45009 T45010 H45011 p45012 => ?_))
          obtain ⟨e45013, e45015, z45016, e45014, b45017⟩ := p45012
          subst e45013
          subst e45014
          subst e45015
          show wp _ _ 136 75 [(8, vI (H44978 r44990 (z45005.toNat))), (7, vI v44976), (6, vI v44977), (5, vI (H r44351 (a3.toNat))), (4, .ref r44348), (1, .ref r1), (2, .ref r2), (3, vI a3)] [vI z45016] _ H44978 _
          refine wp_of e136 c136_75 (rw_if_ne (p1 := 114) (p2 := 78) (by decide) rfl ⟨by omega, by omega⟩ (fun c45018 => ?_) (fun c45018 => ?_))
          · refine wp_of e136 c136_114 (rw_aload_n (pc' := 115) (v := .ref r2) rfl rfl rfl ?_)
            refine wp_of e136 c136_115 (rw_aload_n (pc' := 116) (v := .ref r1) rfl rfl rfl ?_)
            refine wp_of e136 c136_116 (xc_V (pc' := 119) (r := r2) (as := [.ref r1]) (st := []) (lm_6_61) rfl rfl (Nat.le_of_ble_eq_true rfl) w44979 g2 sh_6 (by decide) rfl (by decide) (s_91 w44979 g2 g1) (fun R45019 T45020 H45021 p45022 => ?_))
            obtain ⟨e45023, w45025, f45026, e45024⟩ := p45022
            subst e45023
            subst e45024
            have f45027 := f44984.tr f45026 rfl
            have f45028 := f44980.tr f45026 rfl
            show wp _ _ 136 119 [(8, vI (H44978 r44990 (z45005.toNat))), (7, vI v44976), (6, vI v44977), (5, vI (H r44351 (a3.toNat))), (4, .ref r44348), (1, .ref r1), (2, .ref r2), (3, vI a3)] [] _ H45021 _
            refine wp_of e136 c136_119 (rw_iinc (pc' := 122) (z := v44976) (L' := [(7, vI (v44976 + 1)), (8, vI (H44978 r44990 (z45005.toNat))), (6, vI v44977), (5, vI (H r44351 (a3.toNat))), (4, .ref r44348), (1, .ref r1), (2, .ref r2), (3, vI a3)]) rfl rfl rfl rfl ?_)
            refine wp_of e136 c136_122 (rw_goto (p1 := 34) (by decide) ?_)
            exact wp_lc (ks := [7, 8, 6, 5, 4, 1, 2, 3]) (wl_c rfl (wl_c rfl (wl_c rfl (wl_c rfl (wl_c rfl (wl_c rfl (wl_c rfl wl_n))))))) rfl (by decide) (ih44975 _ (by omega) (v44976 + 1) v44977 H45021 w45025 f45028 ⟨by omega, by omega⟩ ⟨by omega, by omega⟩ rfl)
          · refine wp_of e136 c136_78 (rw_iload (pc' := 80) (z := H44978 r44990 (z45005.toNat)) rfl rfl ?_)
            refine wp_of e136 c136_80 (rw_iload (pc' := 82) (z := H r44351 (a3.toNat)) rfl rfl ?_)
            refine wp_of e136 c136_82 (rw_iand (pc' := 83) rfl ?_)
            obtain ⟨v45029, e45030⟩ : ∃ x : Int, x = wq_and (H44978 r44990 (z45005.toNat)) (H r44351 (a3.toNat)) := ⟨_, rfl⟩
            rw [← e45030]
            have b45031 : -2147483648 ≤ v45029 ∧ v45029 ≤ 2147483647 := by
              rw [e45030]
              exact wI_and _ _
            refine wp_of e136 c136_83 (rw_iload (pc' := 85) (z := H r44351 (a3.toNat)) rfl rfl ?_)
            refine wp_of e136 c136_85 (rw_icmp_ne (p1 := 114) (p2 := 88) (by decide) rfl ⟨by omega, by omega⟩ ⟨by omega, by omega⟩ (fun c45032 => ?_) (fun c45032 => ?_))
            · refine wp_of e136 c136_114 (rw_aload_n (pc' := 115) (v := .ref r2) rfl rfl rfl ?_)
              refine wp_of e136 c136_115 (rw_aload_n (pc' := 116) (v := .ref r1) rfl rfl rfl ?_)
              refine wp_of e136 c136_116 (xc_V (pc' := 119) (r := r2) (as := [.ref r1]) (st := []) (lm_6_61) rfl rfl (Nat.le_of_ble_eq_true rfl) w44979 g2 sh_6 (by decide) rfl (by decide) (s_91 w44979 g2 g1) (fun R45033 T45034 H45035 p45036 => ?_))
              obtain ⟨e45037, w45039, f45040, e45038⟩ := p45036
              subst e45037
              subst e45038
              have f45041 := f44984.tr f45040 rfl
              have f45042 := f44980.tr f45040 rfl
              show wp _ _ 136 119 [(8, vI (H44978 r44990 (z45005.toNat))), (7, vI v44976), (6, vI v44977), (5, vI (H r44351 (a3.toNat))), (4, .ref r44348), (1, .ref r1), (2, .ref r2), (3, vI a3)] [] _ H45035 _
              refine wp_of e136 c136_119 (rw_iinc (pc' := 122) (z := v44976) (L' := [(7, vI (v44976 + 1)), (8, vI (H44978 r44990 (z45005.toNat))), (6, vI v44977), (5, vI (H r44351 (a3.toNat))), (4, .ref r44348), (1, .ref r1), (2, .ref r2), (3, vI a3)]) rfl rfl rfl rfl ?_)
              refine wp_of e136 c136_122 (rw_goto (p1 := 34) (by decide) ?_)
              exact wp_lc (ks := [7, 8, 6, 5, 4, 1, 2, 3]) (wl_c rfl (wl_c rfl (wl_c rfl (wl_c rfl (wl_c rfl (wl_c rfl (wl_c rfl wl_n))))))) rfl (by decide) (ih44975 _ (by omega) (v44976 + 1) v44977 H45035 w45039 f45042 ⟨by omega, by omega⟩ ⟨by omega, by omega⟩ rfl)
            · refine wp_of e136 c136_88 (rw_aload_n (pc' := 89) (v := .ref r2) rfl rfl rfl ?_)
              refine wp_of e136 c136_89 (rw_aload_n (pc' := 90) (v := .ref r1) rfl rfl rfl ?_)
              refine wp_of e136 c136_90 (xc_V (pc' := 93) (r := r2) (as := [.ref r1]) (st := []) (lm_6_51) rfl rfl (Nat.le_of_ble_eq_true rfl) w44979 g2 sh_6 (by decide) rfl (by decide) (s_81 w44979 g2 g1) (fun R45043 T45044 H45045 p45046 => ?_))
              obtain ⟨e45047, e45049, z45050, e45048, b45051⟩ := p45046
              subst e45047
              subst e45048
              subst e45049
              show wp _ _ 136 93 [(8, vI (H44978 r44990 (z45005.toNat))), (7, vI v44976), (6, vI v44977), (5, vI (H r44351 (a3.toNat))), (4, .ref r44348), (1, .ref r1), (2, .ref r2), (3, vI a3)] [vI z45050] _ H44978 _
              refine wp_of e136 c136_93 (rw_istore (pc' := 95) (z := z45050) (L' := [(9, vI z45050), (8, vI (H44978 r44990 (z45005.toNat))), (7, vI v44976), (6, vI v44977), (5, vI (H r44351 (a3.toNat))), (4, .ref r44348), (1, .ref r1), (2, .ref r2), (3, vI a3)]) rfl rfl rfl ?_)
              refine wp_of e136 c136_95 (rw_iload (pc' := 97) (z := z45050) rfl rfl ?_)
              refine wp_of e136 c136_97 (rw_bipush (pc' := 99) (z := 24) rfl (by decide) ?_)
              refine wp_of e136 c136_99 (rw_icmp_ne (p1 := 105) (p2 := 102) (by decide) rfl ⟨by omega, by omega⟩ ⟨by omega, by omega⟩ (fun c45052 => ?_) (fun c45052 => ?_))
              · refine wp_of e136 c136_105 (rw_iload (pc' := 107) (z := v44977) rfl rfl ?_)
                refine wp_of e136 c136_107 (rw_iload (pc' := 109) (z := z45050) rfl rfl ?_)
                refine wp_of e136 c136_109 (rw_math2 (pc' := 112) (z := max v44977 z45050) rfl rfl ⟨by omega, by omega⟩ ⟨by omega, by omega⟩ (Or.inr ⟨rfl, rfl⟩) (Nat.le_of_ble_eq_true rfl) rfl ?_)
                obtain ⟨v45053, e45054⟩ : ∃ x : Int, x = max v44977 z45050 := ⟨_, rfl⟩
                rw [← e45054]
                have b45055 : v45053 = v44977 ∨ v45053 = z45050 := by
                  rw [e45054]
                  omega
                have b45056 : v44977 ≤ v45053 ∧ z45050 ≤ v45053 := by
                  rw [e45054]
                  omega
                refine wp_of e136 c136_112 (rw_istore (pc' := 114) (z := v45053) (L' := [(6, vI v45053), (9, vI z45050), (8, vI (H44978 r44990 (z45005.toNat))), (7, vI v44976), (5, vI (H r44351 (a3.toNat))), (4, .ref r44348), (1, .ref r1), (2, .ref r2), (3, vI a3)]) rfl rfl rfl ?_)
                refine wp_of e136 c136_114 (rw_aload_n (pc' := 115) (v := .ref r2) rfl rfl rfl ?_)
                refine wp_of e136 c136_115 (rw_aload_n (pc' := 116) (v := .ref r1) rfl rfl rfl ?_)
                refine wp_of e136 c136_116 (xc_V (pc' := 119) (r := r2) (as := [.ref r1]) (st := []) (lm_6_61) rfl rfl (Nat.le_of_ble_eq_true rfl) w44979 g2 sh_6 (by decide) rfl (by decide) (s_91 w44979 g2 g1) (fun R45057 T45058 H45059 p45060 => ?_))
                obtain ⟨e45061, w45063, f45064, e45062⟩ := p45060
                subst e45061
                subst e45062
                have f45065 := f44984.tr f45064 rfl
                have f45066 := f44980.tr f45064 rfl
                show wp _ _ 136 119 [(6, vI v45053), (9, vI z45050), (8, vI (H44978 r44990 (z45005.toNat))), (7, vI v44976), (5, vI (H r44351 (a3.toNat))), (4, .ref r44348), (1, .ref r1), (2, .ref r2), (3, vI a3)] [] _ H45059 _
                refine wp_of e136 c136_119 (rw_iinc (pc' := 122) (z := v44976) (L' := [(7, vI (v44976 + 1)), (6, vI v45053), (9, vI z45050), (8, vI (H44978 r44990 (z45005.toNat))), (5, vI (H r44351 (a3.toNat))), (4, .ref r44348), (1, .ref r1), (2, .ref r2), (3, vI a3)]) rfl rfl rfl rfl ?_)
                refine wp_of e136 c136_122 (rw_goto (p1 := 34) (by decide) ?_)
                exact wp_lc (ks := [7, 6, 9, 8, 5, 4, 1, 2, 3]) (wl_c rfl (wl_c rfl (wl_c rfl (wl_c rfl (wl_c rfl (wl_c rfl (wl_c rfl wl_n))))))) rfl (by decide) (ih44975 _ (by omega) (v44976 + 1) v45053 H45059 w45063 f45066 ⟨by omega, by omega⟩ ⟨by omega, by omega⟩ rfl)
              · refine wp_of e136 c136_102 (rw_bipush (pc' := 104) (z := -2) rfl (by decide) ?_)
                exact wp_ireturn e136 c136_104 rfl ⟨rfl, w44979, f44984, -2, rfl, ⟨by omega, by omega⟩⟩
  exact wp_lc (ks := [7, 6, 5, 4, 0, 1, 2, 3]) (wl_c rfl (wl_c rfl (wl_c rfl (wl_c rfl (wl_c rfl (wl_c rfl (wl_c rfl wl_n))))))) rfl (by decide) (lp44973 _ 0 (-1000) H44358 w44362 wfr.rf ⟨by omega, by omega⟩ ⟨by omega, by omega⟩ rfl)
/-! StrikeAwake.bars(I)I -/
theorem e135 : wq_en 135 = some (0, 3, false, some FieldType.int) := rfl
theorem c135_0 : mc_cd 135 0 = some (.aload_n 0, 1) := by decide +kernel
theorem c135_1 : mc_cd 135 1 = some (.aload_n 0, 1) := by decide +kernel
theorem c135_2 : mc_cd 135 2 = some (.iload_n 1, 1) := by decide +kernel
theorem c135_3 : mc_cd 135 3 = some (.invokevirtual 238, 3) := by decide +kernel
theorem c135_6 : mc_cd 135 6 = some (.invokevirtual 245, 3) := by decide +kernel
theorem c135_9 : mc_cd 135 9 = some (.istore_n 2, 1) := by decide +kernel
theorem c135_10 : mc_cd 135 10 = some (.iload_n 2, 1) := by decide +kernel
theorem c135_11 : mc_cd 135 11 = some (.ifCond .eq 9, 3) := by decide +kernel
theorem c135_14 : mc_cd 135 14 = some (.aload_n 0, 1) := by decide +kernel
theorem c135_15 : mc_cd 135 15 = some (.iload_n 2, 1) := by decide +kernel
theorem c135_16 : mc_cd 135 16 = some (.invokevirtual 70, 3) := by decide +kernel
theorem c135_19 : mc_cd 135 19 = some (.ireturn, 1) := by decide +kernel
theorem c135_20 : mc_cd 135 20 = some (.aload_n 0, 1) := by decide +kernel
theorem c135_21 : mc_cd 135 21 = some (.aload_n 0, 1) := by decide +kernel
theorem c135_22 : mc_cd 135 22 = some (.getfield 44, 3) := by decide +kernel
theorem c135_25 : mc_cd 135 25 = some (.aload_n 0, 1) := by decide +kernel
theorem c135_26 : mc_cd 135 26 = some (.getfield 51, 3) := by decide +kernel
theorem c135_29 : mc_cd 135 29 = some (.aload_n 0, 1) := by decide +kernel
theorem c135_30 : mc_cd 135 30 = some (.getfield 23, 3) := by decide +kernel
theorem c135_33 : mc_cd 135 33 = some (.iload_n 1, 1) := by decide +kernel
theorem c135_34 : mc_cd 135 34 = some (.invokevirtual 248, 3) := by decide +kernel
theorem c135_37 : mc_cd 135 37 = some (.invokevirtual 99, 3) := by decide +kernel
theorem c135_40 : mc_cd 135 40 = some (.ireturn, 1) := by decide +kernel
abbrev q_135 (r0 : Nat) (a1 : Int) (T : wq_T) (H : wq_H) : Option Value → wq_T → wq_H → Prop := fun r T' H' => T = T' ∧ WT T H' ∧ wfr [(1, 10), (6, 5), (8, 999), (10, 999), (9, 999), (7, 999), (11, 999)] T H H' ∧ ∃ z : Int, some (vI z) = r ∧ ((-2147483648) ≤ z ∧ z ≤ 2147483647) ∧ (H' r0 10 ≠ 4)
set_option maxHeartbeats 4000000 in
theorem s_135 {kt : Nat → Option mc_E} {T : wq_T} {H : wq_H} {r0 : Nat} {a1 : Int} (hW : WT T H) (g0 : T.2.2.2 r0 = some 1) (i1 : (-2147483648) ≤ a1 ∧ a1 ≤ 2147483647) : wpc kt 5 135 [.ref r0, vI a1] T H (q_135 r0 a1 T H) := by
  refine wp_enter e135 (Nat.le_of_ble_eq_true rfl) rfl ?_
  have f0 : wfr [(1, 10), (6, 5), (8, 999), (10, 999), (9, 999), (7, 999), (11, 999)] T H H := wfr.rf
  show wp _ _ 135 0 [(0, .ref r0), (1, vI a1)] [] _ H _
  refine wp_of e135 c135_0 (rw_aload_n (pc' := 1) (v := .ref r0) rfl rfl rfl ?_)
  refine wp_of e135 c135_1 (rw_aload_n (pc' := 2) (v := .ref r0) rfl rfl rfl ?_)
  refine wp_of e135 c135_2 (rw_iload_n (pc' := 3) (z := a1) rfl rfl ?_)
  refine wp_of e135 c135_3 (xc_V (pc' := 6) (r := r0) (as := [vI a1]) (st := [.ref r0]) (lm_0_238) rfl rfl (Nat.le_of_ble_eq_true rfl) hW g0 sh_1 (by decide) rfl (by decide) (s_133 hW g0 ⟨by omega, by omega⟩) (fun R45133 T45134 H45135 p45136 => ?_))
  obtain ⟨e45137, e45139, z45141, e45138, b45142, p45140⟩ := p45136
  subst e45137
  subst e45138
  subst e45139
  show wp _ _ 135 6 [(0, .ref r0), (1, vI a1)] [vI z45141, .ref r0] _ H _
  refine wp_of e135 c135_6 (xc_V (pc' := 9) (r := r0) (as := [vI z45141]) (st := []) (lm_0_245) rfl rfl (Nat.le_of_ble_eq_true rfl) hW g0 sh_1 (by decide) rfl (by decide) (s_84 hW g0 ⟨by omega, by omega⟩) (fun R45143 T45144 H45145 p45146 => ?_))
  obtain ⟨e45147, e45149, z45152, e45148, b45153, p45150, p45151⟩ := p45146
  subst e45147
  subst e45148
  subst e45149
  show wp _ _ 135 9 [(0, .ref r0), (1, vI a1)] [vI z45152] _ H _
  refine wp_of e135 c135_9 (rw_istore_n (pc' := 10) (z := z45152) (L' := [(2, vI z45152), (0, .ref r0), (1, vI a1)]) rfl rfl rfl ?_)
  refine wp_of e135 c135_10 (rw_iload_n (pc' := 11) (z := z45152) rfl rfl ?_)
  refine wp_of e135 c135_11 (rw_if_eq (p1 := 20) (p2 := 14) (by decide) rfl ⟨by omega, by omega⟩ (fun c45154 => ?_) (fun c45154 => ?_))
  · refine wp_of e135 c135_20 (rw_aload_n (pc' := 21) (v := .ref r0) rfl rfl rfl ?_)
    refine wp_of e135 c135_21 (rw_aload_n (pc' := 22) (v := .ref r0) rfl rfl rfl ?_)
    refine wp_of e135 c135_22 (xg_R (pc' := 25) lf_0_44 hW g0 sh_1 (by decide) (by decide) ty_1_5 rfl rfl (fun r45155 q45156 g45157 => ?_))
    refine wp_of e135 c135_25 (rw_aload_n (pc' := 26) (v := .ref r0) rfl rfl rfl ?_)
    refine wp_of e135 c135_26 (xg_R (pc' := 29) lf_0_51 hW g0 sh_1 (by decide) (by decide) ty_1_6 rfl rfl (fun r45158 q45159 g45160 => ?_))
    refine wp_of e135 c135_29 (rw_aload_n (pc' := 30) (v := .ref r0) rfl rfl rfl ?_)
    refine wp_of e135 c135_30 (xg_R (pc' := 33) lf_0_23 hW g0 sh_1 (by decide) (by decide) ty_1_2 rfl rfl (fun r45161 q45162 g45163 => ?_))
    refine wp_of e135 c135_33 (rw_iload_n (pc' := 34) (z := a1) rfl rfl ?_)
    refine wp_of e135 c135_34 (xc_V (pc' := 37) (r := r45155) (as := [.ref r45158, .ref r45161, vI a1]) (st := [.ref r0]) (lm_0_248) rfl rfl (Nat.le_of_ble_eq_true rfl) hW g45157 sh_25 (by decide) rfl (by decide) (s_136 hW g45157 g45160 g45163 ⟨by omega, by omega⟩) (fun R45164 T45165 H45166 p45167 => ?_))
    obtain ⟨e45168, w45170, f45171, z45172, e45169, b45173⟩ := p45167
    subst e45168
    subst e45169
    have f45174 := f0.tr f45171 rfl
    show wp _ _ 135 37 [(2, vI z45152), (0, .ref r0), (1, vI a1)] [vI z45172, .ref r0] _ H45166 _
    refine wp_of e135 c135_37 (xc_V (pc' := 40) (r := r0) (as := [vI z45172]) (st := []) (lm_0_99) rfl rfl (Nat.le_of_ble_eq_true rfl) w45170 g0 sh_1 (by decide) rfl (by decide) (s_51 w45170 g0 ⟨by omega, by omega⟩) (fun R45175 T45176 H45177 p45178 => ?_))
    obtain ⟨e45179, w45181, f45182, z45184, e45180, b45185, p45183⟩ := p45178
    subst e45179
    subst e45180
    have f45186 := f45174.tr f45182 rfl
    show wp _ _ 135 40 [(2, vI z45152), (0, .ref r0), (1, vI a1)] [vI z45184] _ H45177 _
    exact wp_ireturn e135 c135_40 rfl ⟨rfl, w45181, f45186, z45184, rfl, ⟨by omega, by omega⟩, by omega⟩
  · refine wp_of e135 c135_14 (rw_aload_n (pc' := 15) (v := .ref r0) rfl rfl rfl ?_)
    refine wp_of e135 c135_15 (rw_iload_n (pc' := 16) (z := z45152) rfl rfl ?_)
    refine wp_of e135 c135_16 (xc_V (pc' := 19) (r := r0) (as := [vI z45152]) (st := []) (lm_0_70) rfl rfl (Nat.le_of_ble_eq_true rfl) hW g0 sh_1 (by decide) rfl (by decide) (s_12 hW g0 ⟨by omega, by omega⟩) (fun R45187 T45188 H45189 p45190 => ?_))
    obtain ⟨e45191, w45193, f45194, z45196, e45192, b45197, p45195⟩ := p45190
    subst e45191
    subst e45192
    have f45198 := f0.tr f45194 rfl
    show wp _ _ 135 19 [(2, vI z45152), (0, .ref r0), (1, vI a1)] [vI z45196] _ H45189 _
    exact wp_ireturn e135 c135_19 rfl ⟨rfl, w45193, f45198, z45196, rfl, ⟨by omega, by omega⟩, by omega⟩
/-! StrikeAwake$Grounds.flawsOf(LStrikeAwake$Parish;LStrikeAwake$Walk;)J -/
theorem e140 : wq_en 140 = some (6, 7, false, some FieldType.long) := rfl
theorem c140_0 : mc_cd 140 0 = some (.lconst 0, 1) := by decide +kernel
theorem c140_1 : mc_cd 140 1 = some (.lstore_n 2, 1) := by decide +kernel
theorem c140_2 : mc_cd 140 2 = some (.iconst 0, 1) := by decide +kernel
theorem c140_3 : mc_cd 140 3 = some (.istore 4, 2) := by decide +kernel
theorem c140_5 : mc_cd 140 5 = some (.iload 4, 2) := by decide +kernel
theorem c140_7 : mc_cd 140 7 = some (.aload_n 0, 1) := by decide +kernel
theorem c140_8 : mc_cd 140 8 = some (.getfield 88, 3) := by decide +kernel
theorem c140_11 : mc_cd 140 11 = some (.if_icmp .ge 64, 3) := by decide +kernel
theorem c140_14 : mc_cd 140 14 = some (.aload_n 0, 1) := by decide +kernel
theorem c140_15 : mc_cd 140 15 = some (.getfield 91, 3) := by decide +kernel
theorem c140_18 : mc_cd 140 18 = some (.iload 4, 2) := by decide +kernel
theorem c140_20 : mc_cd 140 20 = some (.iaload, 1) := by decide +kernel
theorem c140_21 : mc_cd 140 21 = some (.istore 5, 2) := by decide +kernel
theorem c140_23 : mc_cd 140 23 = some (.aload_n 0, 1) := by decide +kernel
theorem c140_24 : mc_cd 140 24 = some (.iload 5, 2) := by decide +kernel
theorem c140_26 : mc_cd 140 26 = some (.aload_n 1, 1) := by decide +kernel
theorem c140_27 : mc_cd 140 27 = some (.iload 5, 2) := by decide +kernel
theorem c140_29 : mc_cd 140 29 = some (.invokevirtual 94, 3) := by decide +kernel
theorem c140_32 : mc_cd 140 32 = some (.invokevirtual 97, 3) := by decide +kernel
theorem c140_35 : mc_cd 140 35 = some (.istore 6, 2) := by decide +kernel
theorem c140_37 : mc_cd 140 37 = some (.iload 6, 2) := by decide +kernel
theorem c140_39 : mc_cd 140 39 = some (.iconst 2, 1) := by decide +kernel
theorem c140_40 : mc_cd 140 40 = some (.if_icmp .ne 13, 3) := by decide +kernel
theorem c140_43 : mc_cd 140 43 = some (.lload_n 2, 1) := by decide +kernel
theorem c140_44 : mc_cd 140 44 = some (.lconst 1, 1) := by decide +kernel
theorem c140_45 : mc_cd 140 45 = some (.iload 5, 2) := by decide +kernel
theorem c140_47 : mc_cd 140 47 = some (.lshl, 1) := by decide +kernel
theorem c140_48 : mc_cd 140 48 = some (.lor, 1) := by decide +kernel
theorem c140_49 : mc_cd 140 49 = some (.lstore_n 2, 1) := by decide +kernel
theorem c140_50 : mc_cd 140 50 = some (.goto 19, 3) := by decide +kernel
theorem c140_53 : mc_cd 140 53 = some (.iload 6, 2) := by decide +kernel
theorem c140_55 : mc_cd 140 55 = some (.iconst 1, 1) := by decide +kernel
theorem c140_56 : mc_cd 140 56 = some (.if_icmp .ne 13, 3) := by decide +kernel
theorem c140_59 : mc_cd 140 59 = some (.lload_n 2, 1) := by decide +kernel
theorem c140_60 : mc_cd 140 60 = some (.lconst 1, 1) := by decide +kernel
theorem c140_61 : mc_cd 140 61 = some (.iload 5, 2) := by decide +kernel
theorem c140_63 : mc_cd 140 63 = some (.bipush 32, 2) := by decide +kernel
theorem c140_65 : mc_cd 140 65 = some (.iadd, 1) := by decide +kernel
theorem c140_66 : mc_cd 140 66 = some (.lshl, 1) := by decide +kernel
theorem c140_67 : mc_cd 140 67 = some (.lor, 1) := by decide +kernel
theorem c140_68 : mc_cd 140 68 = some (.lstore_n 2, 1) := by decide +kernel
theorem c140_69 : mc_cd 140 69 = some (.iinc 4 1, 3) := by decide +kernel
theorem c140_72 : mc_cd 140 72 = some (.goto (-67), 3) := by decide +kernel
theorem c140_75 : mc_cd 140 75 = some (.lload_n 2, 1) := by decide +kernel
theorem c140_76 : mc_cd 140 76 = some (.lreturn, 1) := by decide +kernel
abbrev q_140 (r0 : Nat) (r1 : Nat) (T : wq_T) (H : wq_H) : Option Value → wq_T → wq_H → Prop := fun r T' H' => T = T' ∧ H = H' ∧ ∃ z : Int, some (vL z) = r ∧ ((-9223372036854775808) ≤ z ∧ z ≤ 9223372036854775807)
set_option maxHeartbeats 4000000 in
theorem s_140 {kt : Nat → Option mc_E} {T : wq_T} {H : wq_H} {r0 : Nat} {r1 : Nat} (hW : WT T H) (g0 : T.2.2.2 r0 = some 27) (g1 : T.2.2.2 r1 = some 6) : wpc kt 2 140 [.ref r0, .ref r1] T H (q_140 r0 r1 T H) := by
  refine wp_enter e140 (Nat.le_of_ble_eq_true rfl) rfl ?_
  show wp _ _ 140 0 [(0, .ref r0), (1, .ref r1)] [] _ H _
  refine wp_of e140 c140_0 (rw_lconst (pc' := 1) (z := 0) rfl rfl ?_)
  refine wp_of e140 c140_1 (rw_lstore_n (pc' := 2) (z := 0) (L' := [(2, vL 0), (0, .ref r0), (1, .ref r1)]) rfl rfl rfl ?_)
  refine wp_of e140 c140_2 (rw_iconst (pc' := 3) rfl ?_)
  refine wp_of e140 c140_3 (rw_istore (pc' := 5) (z := 0) (L' := [(4, vI 0), (2, vL 0), (0, .ref r0), (1, .ref r1)]) rfl rfl rfl ?_)
  have lp45812 : ∀ (n45813 : Nat) (v45815 : Int) (v45816 : Int), (0 ≤ v45815 ∧ v45815 ≤ 24) → ((-9223372036854775808) ≤ v45816 ∧ v45816 ≤ 9223372036854775807) → (24 - v45815).toNat = n45813 → wp kt 1 140 5 [(4, vI v45815), (2, vL v45816), (0, .ref r0), (1, .ref r1)] [] T H (q_140 r0 r1 T H) := by
    intro n45813
    induction n45813 using Nat.strongRecOn with
    | _ n45813 ih45814 =>
      intro v45815 v45816 b45819 b45820 m45821
      refine wp_of e140 c140_5 (rw_iload (pc' := 7) (z := v45815) rfl rfl ?_)
      refine wp_of e140 c140_7 (rw_aload_n (pc' := 8) (v := .ref r0) rfl rfl rfl ?_)
      refine wp_of e140 c140_8 (xg_I (pc' := 11) lf_6_88 hW g0 sh_27 (by decide) (by decide) ty_27_16 rfl rfl (fun b45822 b45823 => ?_))
      refine wp_of e140 c140_11 (rw_icmp_ge (p1 := 75) (p2 := 14) (by decide) rfl ⟨by omega, by omega⟩ ⟨by omega, by omega⟩ (fun c45824 => ?_) (fun c45824 => ?_))
      · refine wp_of e140 c140_75 (rw_lload_n (pc' := 76) (z := v45816) rfl rfl ?_)
        exact wp_lreturn e140 c140_76 rfl ⟨rfl, rfl, v45816, rfl, ⟨by omega, by omega⟩⟩
      · refine wp_of e140 c140_14 (rw_aload_n (pc' := 15) (v := .ref r0) rfl rfl rfl ?_)
        refine wp_of e140 c140_15 (xg_R (pc' := 18) lf_6_91 hW g0 sh_27 (by decide) (by decide) ty_27_2 rfl rfl (fun r45825 q45826 g45827 => ?_))
        refine wp_of e140 c140_18 (rw_iload (pc' := 20) (z := v45815) rfl rfl ?_)
        refine wp_of e140 c140_20 (xa_I (so := 0) (pc' := 21) hW g45827 sh_30 (by decide) (ty_30 _) (by omega) (by omega) rfl (fun b45828 b45829 => ?_))
        refine wp_of e140 c140_21 (rw_istore (pc' := 23) (z := H r45825 (v45815.toNat)) (L' := [(5, vI (H r45825 (v45815.toNat))), (4, vI v45815), (2, vL v45816), (0, .ref r0), (1, .ref r1)]) rfl rfl rfl ?_)
        refine wp_of e140 c140_23 (rw_aload_n (pc' := 24) (v := .ref r0) rfl rfl rfl ?_)
        refine wp_of e140 c140_24 (rw_iload (pc' := 26) (z := H r45825 (v45815.toNat)) rfl rfl ?_)
        refine wp_of e140 c140_26 (rw_aload_n (pc' := 27) (v := .ref r1) rfl rfl rfl ?_)
        refine wp_of e140 c140_27 (rw_iload (pc' := 29) (z := H r45825 (v45815.toNat)) rfl rfl ?_)
        refine wp_of e140 c140_29 (xc_V (pc' := 32) (r := r1) (as := [vI (H r45825 (v45815.toNat))]) (st := [vI (H r45825 (v45815.toNat)), .ref r0]) (lm_6_94) rfl rfl (Nat.le_of_ble_eq_true rfl) hW g1 sh_6 (by decide) rfl (by decide) (s_72 hW g1 ⟨by omega, by omega⟩) (fun R45830 T45831 H45832 p45833 => ?_))
        obtain ⟨e45834, e45836, z45837, e45835, b45838⟩ := p45833
        subst e45834
        subst e45835
        subst e45836
        show wp _ _ 140 32 [(5, vI (H r45825 (v45815.toNat))), (4, vI v45815), (2, vL v45816), (0, .ref r0), (1, .ref r1)] [vI z45837, vI (H r45825 (v45815.toNat)), .ref r0] _ H _
        refine wp_of e140 c140_32 (xc_V (pc' := 35) (r := r0) (as := [vI (H r45825 (v45815.toNat)), vI z45837]) (st := []) (lm_6_97) rfl rfl (Nat.le_of_ble_eq_true rfl) hW g0 sh_27 (by decide) rfl (by decide) (s_76 hW g0 ⟨by omega, by omega⟩ ⟨by omega, by omega⟩) (fun R45839 T45840 H45841 p45842 => ?_))
        obtain ⟨e45843, e45845, z45846, e45844, b45847⟩ := p45842
        subst e45843
        subst e45844
        subst e45845
        show wp _ _ 140 35 [(5, vI (H r45825 (v45815.toNat))), (4, vI v45815), (2, vL v45816), (0, .ref r0), (1, .ref r1)] [vI z45846] _ H _
        refine wp_of e140 c140_35 (rw_istore (pc' := 37) (z := z45846) (L' := [(6, vI z45846), (5, vI (H r45825 (v45815.toNat))), (4, vI v45815), (2, vL v45816), (0, .ref r0), (1, .ref r1)]) rfl rfl rfl ?_)
        refine wp_of e140 c140_37 (rw_iload (pc' := 39) (z := z45846) rfl rfl ?_)
        refine wp_of e140 c140_39 (rw_iconst (pc' := 40) rfl ?_)
        refine wp_of e140 c140_40 (rw_icmp_ne (p1 := 53) (p2 := 43) (by decide) rfl ⟨by omega, by omega⟩ ⟨by omega, by omega⟩ (fun c45848 => ?_) (fun c45848 => ?_))
        · refine wp_of e140 c140_53 (rw_iload (pc' := 55) (z := z45846) rfl rfl ?_)
          refine wp_of e140 c140_55 (rw_iconst (pc' := 56) rfl ?_)
          refine wp_of e140 c140_56 (rw_icmp_ne (p1 := 69) (p2 := 59) (by decide) rfl ⟨by omega, by omega⟩ ⟨by omega, by omega⟩ (fun c45849 => ?_) (fun c45849 => ?_))
          · refine wp_of e140 c140_69 (rw_iinc (pc' := 72) (z := v45815) (L' := [(4, vI (v45815 + 1)), (6, vI z45846), (5, vI (H r45825 (v45815.toNat))), (2, vL v45816), (0, .ref r0), (1, .ref r1)]) rfl rfl rfl rfl ?_)
            refine wp_of e140 c140_72 (rw_goto (p1 := 5) (by decide) ?_)
            exact wp_lc (ks := [4, 6, 5, 2, 0, 1]) (wl_c rfl (wl_c rfl (wl_c rfl (wl_c rfl wl_n)))) rfl (by decide) (ih45814 _ (by omega) (v45815 + 1) v45816 ⟨by omega, by omega⟩ ⟨by omega, by omega⟩ rfl)
          · refine wp_of e140 c140_59 (rw_lload_n (pc' := 60) (z := v45816) rfl rfl ?_)
            refine wp_of e140 c140_60 (rw_lconst (pc' := 61) (z := 1) rfl rfl ?_)
            refine wp_of e140 c140_61 (rw_iload (pc' := 63) (z := H r45825 (v45815.toNat)) rfl rfl ?_)
            refine wp_of e140 c140_63 (rw_bipush (pc' := 65) (z := 32) rfl (by decide) ?_)
            refine wp_of e140 c140_65 (rw_iadd (pc' := 66) rfl ?_)
            refine wp_of e140 c140_66 (rw_lshl (pc' := 67) rfl ?_)
            obtain ⟨v45850, e45851⟩ : ∃ x : Int, x = wl_shl 1 ((H r45825 (v45815.toNat)) + 32) := ⟨_, rfl⟩
            rw [← e45851]
            have b45852 : -9223372036854775808 ≤ v45850 ∧ v45850 ≤ 9223372036854775807 := by
              rw [e45851]
              exact wL_shl _ _
            refine wp_of e140 c140_67 (rw_lor (pc' := 68) rfl ?_)
            obtain ⟨v45853, e45854⟩ : ∃ x : Int, x = wl_or v45816 v45850 := ⟨_, rfl⟩
            rw [← e45854]
            have b45855 : -9223372036854775808 ≤ v45853 ∧ v45853 ≤ 9223372036854775807 := by
              rw [e45854]
              exact wL_or _ _
            refine wp_of e140 c140_68 (rw_lstore_n (pc' := 69) (z := v45853) (L' := [(2, vL v45853), (6, vI z45846), (5, vI (H r45825 (v45815.toNat))), (4, vI v45815), (0, .ref r0), (1, .ref r1)]) rfl rfl rfl ?_)
            refine wp_of e140 c140_69 (rw_iinc (pc' := 72) (z := v45815) (L' := [(4, vI (v45815 + 1)), (2, vL v45853), (6, vI z45846), (5, vI (H r45825 (v45815.toNat))), (0, .ref r0), (1, .ref r1)]) rfl rfl rfl rfl ?_)
            refine wp_of e140 c140_72 (rw_goto (p1 := 5) (by decide) ?_)
            exact wp_lc (ks := [4, 2, 6, 5, 0, 1]) (wl_c rfl (wl_c rfl (wl_c rfl (wl_c rfl wl_n)))) rfl (by decide) (ih45814 _ (by omega) (v45815 + 1) v45853 ⟨by omega, by omega⟩ ⟨by omega, by omega⟩ rfl)
        · refine wp_of e140 c140_43 (rw_lload_n (pc' := 44) (z := v45816) rfl rfl ?_)
          refine wp_of e140 c140_44 (rw_lconst (pc' := 45) (z := 1) rfl rfl ?_)
          refine wp_of e140 c140_45 (rw_iload (pc' := 47) (z := H r45825 (v45815.toNat)) rfl rfl ?_)
          refine wp_of e140 c140_47 (rw_lshl (pc' := 48) rfl ?_)
          obtain ⟨v45856, e45857⟩ : ∃ x : Int, x = wl_shl 1 (H r45825 (v45815.toNat)) := ⟨_, rfl⟩
          rw [← e45857]
          have b45858 : -9223372036854775808 ≤ v45856 ∧ v45856 ≤ 9223372036854775807 := by
            rw [e45857]
            exact wL_shl _ _
          refine wp_of e140 c140_48 (rw_lor (pc' := 49) rfl ?_)
          obtain ⟨v45859, e45860⟩ : ∃ x : Int, x = wl_or v45816 v45856 := ⟨_, rfl⟩
          rw [← e45860]
          have b45861 : -9223372036854775808 ≤ v45859 ∧ v45859 ≤ 9223372036854775807 := by
            rw [e45860]
            exact wL_or _ _
          refine wp_of e140 c140_49 (rw_lstore_n (pc' := 50) (z := v45859) (L' := [(2, vL v45859), (6, vI z45846), (5, vI (H r45825 (v45815.toNat))), (4, vI v45815), (0, .ref r0), (1, .ref r1)]) rfl rfl rfl ?_)
          refine wp_of e140 c140_50 (rw_goto (p1 := 69) (by decide) ?_)
          refine wp_of e140 c140_69 (rw_iinc (pc' := 72) (z := v45815) (L' := [(4, vI (v45815 + 1)), (2, vL v45859), (6, vI z45846), (5, vI (H r45825 (v45815.toNat))), (0, .ref r0), (1, .ref r1)]) rfl rfl rfl rfl ?_)
          refine wp_of e140 c140_72 (rw_goto (p1 := 5) (by decide) ?_)
          exact wp_lc (ks := [4, 2, 6, 5, 0, 1]) (wl_c rfl (wl_c rfl (wl_c rfl (wl_c rfl wl_n)))) rfl (by decide) (ih45814 _ (by omega) (v45815 + 1) v45859 ⟨by omega, by omega⟩ ⟨by omega, by omega⟩ rfl)
  exact wp_lc (ks := [4, 2, 0, 1]) (wl_c rfl (wl_c rfl (wl_c rfl (wl_c rfl wl_n)))) rfl (by decide) (lp45812 _ 0 0 ⟨by omega, by omega⟩ ⟨by omega, by omega⟩ rfl)
/-! StrikeAwake$Grounds.gather(LStrikeAwake$Parish;LStrikeAwake$Walk;)V -/
theorem e139 : wq_en 139 = some (6, 4, false, none) := rfl
theorem c139_0 : mc_cd 139 0 = some (.aload_n 0, 1) := by decide +kernel
theorem c139_1 : mc_cd 139 1 = some (.iconst 0, 1) := by decide +kernel
theorem c139_2 : mc_cd 139 2 = some (.putfield 68, 3) := by decide +kernel
theorem c139_5 : mc_cd 139 5 = some (.aload_n 0, 1) := by decide +kernel
theorem c139_6 : mc_cd 139 6 = some (.iconst 0, 1) := by decide +kernel
theorem c139_7 : mc_cd 139 7 = some (.putfield 81, 3) := by decide +kernel
theorem c139_10 : mc_cd 139 10 = some (.aload_n 2, 1) := by decide +kernel
theorem c139_11 : mc_cd 139 11 = some (.aload_n 1, 1) := by decide +kernel
theorem c139_12 : mc_cd 139 12 = some (.invokevirtual 28, 3) := by decide +kernel
theorem c139_15 : mc_cd 139 15 = some (.iconst 0, 1) := by decide +kernel
theorem c139_16 : mc_cd 139 16 = some (.istore_n 3, 1) := by decide +kernel
theorem c139_17 : mc_cd 139 17 = some (.iload_n 3, 1) := by decide +kernel
theorem c139_18 : mc_cd 139 18 = some (.i2l, 1) := by decide +kernel
theorem c139_19 : mc_cd 139 19 = some (.aload_n 1, 1) := by decide +kernel
theorem c139_20 : mc_cd 139 20 = some (.getfield 34, 3) := by decide +kernel
theorem c139_23 : mc_cd 139 23 = some (.lcmp, 1) := by decide +kernel
theorem c139_24 : mc_cd 139 24 = some (.ifCond .ge 52, 3) := by decide +kernel
theorem c139_27 : mc_cd 139 27 = some (.iload_n 3, 1) := by decide +kernel
theorem c139_28 : mc_cd 139 28 = some (.sipush 5000, 3) := by decide +kernel
theorem c139_31 : mc_cd 139 31 = some (.if_icmp .ge 45, 3) := by decide +kernel
theorem c139_34 : mc_cd 139 34 = some (.aload_n 2, 1) := by decide +kernel
theorem c139_35 : mc_cd 139 35 = some (.invokevirtual 47, 3) := by decide +kernel
theorem c139_38 : mc_cd 139 38 = some (.ifCond .ne 27, 3) := by decide +kernel
theorem c139_41 : mc_cd 139 41 = some (.aload_n 0, 1) := by decide +kernel
theorem c139_42 : mc_cd 139 42 = some (.getfield 9, 3) := by decide +kernel
theorem c139_45 : mc_cd 139 45 = some (.aload_n 0, 1) := by decide +kernel
theorem c139_46 : mc_cd 139 46 = some (.getfield 68, 3) := by decide +kernel
theorem c139_49 : mc_cd 139 49 = some (.aload_n 1, 1) := by decide +kernel
theorem c139_50 : mc_cd 139 50 = some (.aload_n 2, 1) := by decide +kernel
theorem c139_51 : mc_cd 139 51 = some (.invokestatic 84, 3) := by decide +kernel
theorem c139_54 : mc_cd 139 54 = some (.lastore, 1) := by decide +kernel
theorem c139_55 : mc_cd 139 55 = some (.aload_n 0, 1) := by decide +kernel
theorem c139_56 : mc_cd 139 56 = some (.dup, 1) := by decide +kernel
theorem c139_57 : mc_cd 139 57 = some (.getfield 68, 3) := by decide +kernel
theorem c139_60 : mc_cd 139 60 = some (.iconst 1, 1) := by decide +kernel
theorem c139_61 : mc_cd 139 61 = some (.iadd, 1) := by decide +kernel
theorem c139_62 : mc_cd 139 62 = some (.putfield 68, 3) := by decide +kernel
theorem c139_65 : mc_cd 139 65 = some (.aload_n 2, 1) := by decide +kernel
theorem c139_66 : mc_cd 139 66 = some (.aload_n 1, 1) := by decide +kernel
theorem c139_67 : mc_cd 139 67 = some (.invokevirtual 61, 3) := by decide +kernel
theorem c139_70 : mc_cd 139 70 = some (.iinc 3 1, 3) := by decide +kernel
theorem c139_73 : mc_cd 139 73 = some (.goto (-56), 3) := by decide +kernel
theorem c139_76 : mc_cd 139 76 = some (.return_, 1) := by decide +kernel
abbrev q_139 (r0 : Nat) (r1 : Nat) (r2 : Nat) (T : wq_T) (H : wq_H) : Option Value → wq_T → wq_H → Prop := fun r T' H' => T = T' ∧ WT T H' ∧ wfr [(25, 1), (25, 2), (6, 5), (8, 999), (10, 999), (26, 999), (9, 999), (7, 999), (11, 999)] T H H' ∧ none = r
set_option maxHeartbeats 4000000 in
theorem s_139 {kt : Nat → Option mc_E} {T : wq_T} {H : wq_H} {r0 : Nat} {r1 : Nat} {r2 : Nat} (hW : WT T H) (g0 : T.2.2.2 r0 = some 25) (g1 : T.2.2.2 r1 = some 27) (g2 : T.2.2.2 r2 = some 6) : wpc kt 4 139 [.ref r0, .ref r1, .ref r2] T H (q_139 r0 r1 r2 T H) := by
  refine wp_enter e139 (Nat.le_of_ble_eq_true rfl) rfl ?_
  have f0 : wfr [(25, 1), (25, 2), (6, 5), (8, 999), (10, 999), (26, 999), (9, 999), (7, 999), (11, 999)] T H H := wfr.rf
  show wp _ _ 139 0 [(0, .ref r0), (1, .ref r1), (2, .ref r2)] [] _ H _
  refine wp_of e139 c139_0 (rw_aload_n (pc' := 1) (v := .ref r0) rfl rfl rfl ?_)
  refine wp_of e139 c139_1 (rw_iconst (pc' := 2) rfl ?_)
  refine wp_of e139 c139_2 (xp_I (pc' := 5) lf_6_68 hW g0 sh_25 (by decide) (by decide) ty_25_1 rfl rfl (by omega) (by omega) ⟨by omega, by omega⟩ rfl (fun H46414 e46415 w46416 => ?_))
  have f46417 := f0.put' e46415 g0 rfl
  have k46418 : H46414 r0 1 = 0 := wq_u_s e46415
  refine wp_of e139 c139_5 (rw_aload_n (pc' := 6) (v := .ref r0) rfl rfl rfl ?_)
  refine wp_of e139 c139_6 (rw_iconst (pc' := 7) rfl ?_)
  refine wp_of e139 c139_7 (xp_I (pc' := 10) lf_6_81 w46416 g0 sh_25 (by decide) (by decide) ty_25_2 rfl rfl (by omega) (by omega) ⟨by omega, by omega⟩ rfl (fun H46419 e46420 w46421 => ?_))
  have f46422 := f46417.put' e46420 g0 rfl
  have k46423 : H46419 r0 2 = 0 := wq_u_s e46420
  refine wp_of e139 c139_10 (rw_aload_n (pc' := 11) (v := .ref r2) rfl rfl rfl ?_)
  refine wp_of e139 c139_11 (rw_aload_n (pc' := 12) (v := .ref r1) rfl rfl rfl ?_)
  refine wp_of e139 c139_12 (xc_V (pc' := 15) (r := r2) (as := [.ref r1]) (st := []) (lm_6_28) rfl rfl (Nat.le_of_ble_eq_true rfl) w46421 g2 sh_6 (by decide) rfl (by decide) (s_87 w46421 g2 g1) (fun R46424 T46425 H46426 p46427 => ?_))
  obtain ⟨e46428, w46430, f46431, e46429⟩ := p46427
  subst e46428
  subst e46429
  have f46432 := f46422.tr f46431 rfl
  show wp _ _ 139 15 [(0, .ref r0), (1, .ref r1), (2, .ref r2)] [] _ H46426 _
  refine wp_of e139 c139_15 (rw_iconst (pc' := 16) rfl ?_)
  refine wp_of e139 c139_16 (rw_istore_n (pc' := 17) (z := 0) (L' := [(3, vI 0), (0, .ref r0), (1, .ref r1), (2, .ref r2)]) rfl rfl rfl ?_)
  have k46911 : H46426 r0 1 = H46414 r0 1 := ((f46431 r0 1 _ g0 rfl).trans (wq_u_j e46420 rfl))
  have lp46906 : ∀ (n46907 : Nat) (v46909 : Int) (H46910 : wq_H), WT T H46910 → wfr [(25, 1), (8, 999), (10, 999), (26, 999), (9, 999), (7, 999), (11, 999)] T H46426 H46910 → (0 ≤ v46909 ∧ v46909 ≤ 5000) → (H46910 r0 1 ≤ v46909) → (5000 - v46909).toNat = n46907 → wp kt 3 139 17 [(3, vI v46909), (0, .ref r0), (1, .ref r1), (2, .ref r2)] [] T H46910 (q_139 r0 r1 r2 T H) := by
    intro n46907
    induction n46907 using Nat.strongRecOn with
    | _ n46907 ih46908 =>
      intro v46909 H46910 w46912 f46913 b46914 x46915 m46916
      have f46917 := f46432.tr f46913 rfl
      refine wp_of e139 c139_17 (rw_iload_n (pc' := 18) (z := v46909) rfl rfl ?_)
      refine wp_of e139 c139_18 (rw_i2l (pc' := 19) rfl ⟨by omega, by omega⟩ ?_)
      refine wp_of e139 c139_19 (rw_aload_n (pc' := 20) (v := .ref r1) rfl rfl rfl ?_)
      refine wp_of e139 c139_20 (xg_L (pc' := 23) lf_6_34 w46912 g1 sh_27 (by decide) (by decide) ty_27_18 rfl rfl (fun b46918 b46919 => ?_))
      refine wp_of e139 c139_23 (rw_lcmp (pc' := 24) rfl ⟨by omega, by omega⟩ ⟨by omega, by omega⟩ ?_)
      have b46920 := wq_cmp_b v46909 (H46910 r1 18)
      refine wp_of e139 c139_24 (rw_if_ge (p1 := 76) (p2 := 27) (by decide) rfl ⟨by omega, by omega⟩ (fun c46921 => ?_) (fun c46921 => ?_))
      · exact wp_return e139 c139_76 rfl ⟨rfl, w46912, f46917, rfl⟩
      · refine wp_of e139 c139_27 (rw_iload_n (pc' := 28) (z := v46909) rfl rfl ?_)
        refine wp_of e139 c139_28 (rw_sipush (pc' := 31) (z := 5000) rfl (by decide) ?_)
        refine wp_of e139 c139_31 (rw_icmp_ge (p1 := 76) (p2 := 34) (by decide) rfl ⟨by omega, by omega⟩ ⟨by omega, by omega⟩ (fun c46922 => ?_) (fun c46922 => ?_))
        · exact wp_return e139 c139_76 rfl ⟨rfl, w46912, f46917, rfl⟩
        · refine wp_of e139 c139_34 (rw_aload_n (pc' := 35) (v := .ref r2) rfl rfl rfl ?_)
          refine wp_of e139 c139_35 (xc_V (pc' := 38) (r := r2) (as := []) (st := []) (lm_6_47) rfl rfl (Nat.le_of_ble_eq_true rfl) w46912 g2 sh_6 (by decide) rfl (by decide) (s_80 w46912 g2) (fun R46923 T46924 H46925 p46926 => ?_))
          obtain ⟨e46927, e46929, z46930, e46928, b46931⟩ := p46926
          subst e46927
          subst e46928
          subst e46929
          show wp _ _ 139 38 [(3, vI v46909), (0, .ref r0), (1, .ref r1), (2, .ref r2)] [vI z46930] _ H46910 _
          refine wp_of e139 c139_38 (rw_if_ne (p1 := 65) (p2 := 41) (by decide) rfl ⟨by omega, by omega⟩ (fun c46932 => ?_) (fun c46932 => ?_))
          · refine wp_of e139 c139_65 (rw_aload_n (pc' := 66) (v := .ref r2) rfl rfl rfl ?_)
            refine wp_of e139 c139_66 (rw_aload_n (pc' := 67) (v := .ref r1) rfl rfl rfl ?_)
            refine wp_of e139 c139_67 (xc_V (pc' := 70) (r := r2) (as := [.ref r1]) (st := []) (lm_6_61) rfl rfl (Nat.le_of_ble_eq_true rfl) w46912 g2 sh_6 (by decide) rfl (by decide) (s_91 w46912 g2 g1) (fun R46933 T46934 H46935 p46936 => ?_))
            obtain ⟨e46937, w46939, f46940, e46938⟩ := p46936
            subst e46937
            subst e46938
            have f46941 := f46917.tr f46940 rfl
            have f46942 := f46913.tr f46940 rfl
            show wp _ _ 139 70 [(3, vI v46909), (0, .ref r0), (1, .ref r1), (2, .ref r2)] [] _ H46935 _
            refine wp_of e139 c139_70 (rw_iinc (pc' := 73) (z := v46909) (L' := [(3, vI (v46909 + 1)), (0, .ref r0), (1, .ref r1), (2, .ref r2)]) rfl rfl rfl rfl ?_)
            refine wp_of e139 c139_73 (rw_goto (p1 := 17) (by decide) ?_)
            have k46943 : H46935 r0 1 = H46910 r0 1 := (f46940 r0 1 _ g0 rfl)
            exact wp_lc (ks := [3, 0, 1, 2]) (wl_c rfl (wl_c rfl (wl_c rfl (wl_c rfl wl_n)))) rfl (by decide) (ih46908 _ (by omega) (v46909 + 1) H46935 w46939 f46942 ⟨by omega, by omega⟩ (by omega) rfl)
          · refine wp_of e139 c139_41 (rw_aload_n (pc' := 42) (v := .ref r0) rfl rfl rfl ?_)
            refine wp_of e139 c139_42 (xg_R (pc' := 45) lf_6_9 w46912 g0 sh_25 (by decide) (by decide) ty_25_0 rfl rfl (fun r46944 q46945 g46946 => ?_))
            refine wp_of e139 c139_45 (rw_aload_n (pc' := 46) (v := .ref r0) rfl rfl rfl ?_)
            refine wp_of e139 c139_46 (xg_I (pc' := 49) lf_6_68 w46912 g0 sh_25 (by decide) (by decide) ty_25_1 rfl rfl (fun b46947 b46948 => ?_))
            refine wp_of e139 c139_49 (rw_aload_n (pc' := 50) (v := .ref r1) rfl rfl rfl ?_)
            refine wp_of e139 c139_50 (rw_aload_n (pc' := 51) (v := .ref r2) rfl rfl rfl ?_)
            refine wp_of e139 c139_51 (xc_S (pc' := 54) (as := [.ref r1, .ref r2]) (st := [vI (H46910 r0 1), .ref r46944]) (lm_6_84) rfl rfl (Nat.le_of_ble_eq_true rfl) rfl (by decide) (s_140 w46912 g1 g2) (fun R46949 T46950 H46951 p46952 => ?_))
            obtain ⟨e46953, e46955, z46956, e46954, b46957⟩ := p46952
            subst e46953
            subst e46954
            subst e46955
            show wp _ _ 139 54 [(3, vI v46909), (0, .ref r0), (1, .ref r1), (2, .ref r2)] [vL z46956, vI (H46910 r0 1), .ref r46944] _ H46910 _
            refine wp_of e139 c139_54 (xs_L (pc' := 55) w46912 g46946 (by decide) sh_26 (by decide) (ty_26 _) (by omega) (by omega) ⟨by omega, by omega⟩ (by omega) (by omega) rfl (fun H46958 e46959 w46960 => ?_))
            have f46961 := f46917.put' e46959 g46946 rfl
            have f46962 := f46913.put' e46959 g46946 rfl
            refine wp_of e139 c139_55 (rw_aload_n (pc' := 56) (v := .ref r0) rfl rfl rfl ?_)
            refine wp_of e139 c139_56 (rw_dup (pc' := 57) rfl rfl ?_)
            have k46963 : H46958 r0 1 = H46910 r0 1 := (wq_u_t e46959 g46946 g0 rfl 1)
            refine wp_of e139 c139_57 (xg_I (pc' := 60) lf_6_68 w46960 g0 sh_25 (by decide) (by decide) ty_25_1 rfl rfl (fun b46964 b46965 => ?_))
            refine wp_of e139 c139_60 (rw_iconst (pc' := 61) rfl ?_)
            refine wp_of e139 c139_61 (rw_iadd (pc' := 62) rfl ?_)
            refine wp_of e139 c139_62 (xp_I (pc' := 65) lf_6_68 w46960 g0 sh_25 (by decide) (by decide) ty_25_1 rfl rfl (by omega) (by omega) ⟨by omega, by omega⟩ rfl (fun H46966 e46967 w46968 => ?_))
            have f46969 := f46961.put' e46967 g0 rfl
            have f46970 := f46962.put' e46967 g0 rfl
            have k46971 : H46966 r0 1 = (H46958 r0 1) + 1 := wq_u_s e46967
            refine wp_of e139 c139_65 (rw_aload_n (pc' := 66) (v := .ref r2) rfl rfl rfl ?_)
            refine wp_of e139 c139_66 (rw_aload_n (pc' := 67) (v := .ref r1) rfl rfl rfl ?_)
            refine wp_of e139 c139_67 (xc_V (pc' := 70) (r := r2) (as := [.ref r1]) (st := []) (lm_6_61) rfl rfl (Nat.le_of_ble_eq_true rfl) w46968 g2 sh_6 (by decide) rfl (by decide) (s_91 w46968 g2 g1) (fun R46972 T46973 H46974 p46975 => ?_))
            obtain ⟨e46976, w46978, f46979, e46977⟩ := p46975
            subst e46976
            subst e46977
            have f46980 := f46969.tr f46979 rfl
            have f46981 := f46970.tr f46979 rfl
            show wp _ _ 139 70 [(3, vI v46909), (0, .ref r0), (1, .ref r1), (2, .ref r2)] [] _ H46974 _
            refine wp_of e139 c139_70 (rw_iinc (pc' := 73) (z := v46909) (L' := [(3, vI (v46909 + 1)), (0, .ref r0), (1, .ref r1), (2, .ref r2)]) rfl rfl rfl rfl ?_)
            refine wp_of e139 c139_73 (rw_goto (p1 := 17) (by decide) ?_)
            have k46982 : H46974 r0 1 = H46966 r0 1 := (f46979 r0 1 _ g0 rfl)
            exact wp_lc (ks := [3, 0, 1, 2]) (wl_c rfl (wl_c rfl (wl_c rfl (wl_c rfl wl_n)))) rfl (by decide) (ih46908 _ (by omega) (v46909 + 1) H46974 w46978 f46981 ⟨by omega, by omega⟩ (by omega) rfl)
  exact wp_lc (ks := [3, 0, 1, 2]) (wl_c rfl (wl_c rfl (wl_c rfl (wl_c rfl wl_n)))) rfl (by decide) (lp46906 _ 0 H46426 w46430 wfr.rf ⟨by omega, by omega⟩ (by omega) rfl)
/-! StrikeAwake$Grounds.isLeft(LStrikeAwake$Parish;JI)Z -/
theorem e143 : wq_en 143 = some (6, 6, false, some FieldType.boolean) := rfl
theorem c143_0 : mc_cd 143 0 = some (.lload_n 1, 1) := by decide +kernel
theorem c143_1 : mc_cd 143 1 = some (.l2i, 1) := by decide +kernel
theorem c143_2 : mc_cd 143 2 = some (.iload_n 3, 1) := by decide +kernel
theorem c143_3 : mc_cd 143 3 = some (.iand, 1) := by decide +kernel
theorem c143_4 : mc_cd 143 4 = some (.istore 4, 2) := by decide +kernel
theorem c143_6 : mc_cd 143 6 = some (.lload_n 1, 1) := by decide +kernel
theorem c143_7 : mc_cd 143 7 = some (.bipush 32, 2) := by decide +kernel
theorem c143_9 : mc_cd 143 9 = some (.lshr, 1) := by decide +kernel
theorem c143_10 : mc_cd 143 10 = some (.l2i, 1) := by decide +kernel
theorem c143_11 : mc_cd 143 11 = some (.iload_n 3, 1) := by decide +kernel
theorem c143_12 : mc_cd 143 12 = some (.iand, 1) := by decide +kernel
theorem c143_13 : mc_cd 143 13 = some (.istore 5, 2) := by decide +kernel
theorem c143_15 : mc_cd 143 15 = some (.iload 4, 2) := by decide +kernel
theorem c143_17 : mc_cd 143 17 = some (.ifCond .ne 19, 3) := by decide +kernel
theorem c143_20 : mc_cd 143 20 = some (.iload 5, 2) := by decide +kernel
theorem c143_22 : mc_cd 143 22 = some (.invokestatic 108, 3) := by decide +kernel
theorem c143_25 : mc_cd 143 25 = some (.aload_n 0, 1) := by decide +kernel
theorem c143_26 : mc_cd 143 26 = some (.getfield 113, 3) := by decide +kernel
theorem c143_29 : mc_cd 143 29 = some (.if_icmp .gt 7, 3) := by decide +kernel
theorem c143_32 : mc_cd 143 32 = some (.iconst 1, 1) := by decide +kernel
theorem c143_33 : mc_cd 143 33 = some (.goto 4, 3) := by decide +kernel
theorem c143_36 : mc_cd 143 36 = some (.iconst 0, 1) := by decide +kernel
theorem c143_37 : mc_cd 143 37 = some (.ireturn, 1) := by decide +kernel
abbrev q_143 (r0 : Nat) (a1 : Int) (a2 : Int) (T : wq_T) (H : wq_H) : Option Value → wq_T → wq_H → Prop := fun r T' H' => T = T' ∧ H = H' ∧ ∃ z : Int, some (vI z) = r ∧ (0 ≤ z ∧ z ≤ 1)
set_option maxHeartbeats 4000000 in
theorem s_143 {kt : Nat → Option mc_E} {T : wq_T} {H : wq_H} {r0 : Nat} {a1 : Int} {a2 : Int} (hW : WT T H) (g0 : T.2.2.2 r0 = some 27) (i1 : (-9223372036854775808) ≤ a1 ∧ a1 ≤ 9223372036854775807) (i2 : (-2147483648) ≤ a2 ∧ a2 ≤ 2147483647) : wpc kt 2 143 [.ref r0, vL a1, vI a2] T H (q_143 r0 a1 a2 T H) := by
  refine wp_enter e143 (Nat.le_of_ble_eq_true rfl) rfl ?_
  show wp _ _ 143 0 [(0, .ref r0), (1, vL a1), (3, vI a2)] [] _ H _
  refine wp_of e143 c143_0 (rw_lload_n (pc' := 1) (z := a1) rfl rfl ?_)
  refine wp_of e143 c143_1 (rw_l2i (pc' := 2) rfl ?_)
  obtain ⟨v47006, e47007⟩ : ∃ x : Int, x = wq_w a1 := ⟨_, rfl⟩
  rw [← e47007]
  have b47008 : -2147483648 ≤ v47006 ∧ v47006 ≤ 2147483647 := by
    rw [e47007]
    exact wI_w _
  have b47009 : (-2147483648 ≤ a1 ∧ a1 ≤ 2147483647) → v47006 = a1 := by
    rw [e47007]
    exact fun h => wq_w_id h
  refine wp_of e143 c143_2 (rw_iload_n (pc' := 3) (z := a2) rfl rfl ?_)
  refine wp_of e143 c143_3 (rw_iand (pc' := 4) rfl ?_)
  obtain ⟨v47010, e47011⟩ : ∃ x : Int, x = wq_and v47006 a2 := ⟨_, rfl⟩
  rw [← e47011]
  have b47012 : -2147483648 ≤ v47010 ∧ v47010 ≤ 2147483647 := by
    rw [e47011]
    exact wI_and _ _
  refine wp_of e143 c143_4 (rw_istore (pc' := 6) (z := v47010) (L' := [(4, vI v47010), (0, .ref r0), (1, vL a1), (3, vI a2)]) rfl rfl rfl ?_)
  refine wp_of e143 c143_6 (rw_lload_n (pc' := 7) (z := a1) rfl rfl ?_)
  refine wp_of e143 c143_7 (rw_bipush (pc' := 9) (z := 32) rfl (by decide) ?_)
  refine wp_of e143 c143_9 (rw_lshr (pc' := 10) rfl ?_)
  obtain ⟨v47013, e47014⟩ : ∃ x : Int, x = wl_shr a1 32 := ⟨_, rfl⟩
  rw [← e47014]
  have b47015 : -9223372036854775808 ≤ v47013 ∧ v47013 ≤ 9223372036854775807 := by
    rw [e47014]
    exact wL_shr _ _
  refine wp_of e143 c143_10 (rw_l2i (pc' := 11) rfl ?_)
  obtain ⟨v47016, e47017⟩ : ∃ x : Int, x = wq_w v47013 := ⟨_, rfl⟩
  rw [← e47017]
  have b47018 : -2147483648 ≤ v47016 ∧ v47016 ≤ 2147483647 := by
    rw [e47017]
    exact wI_w _
  have b47019 : (-2147483648 ≤ v47013 ∧ v47013 ≤ 2147483647) → v47016 = v47013 := by
    rw [e47017]
    exact fun h => wq_w_id h
  refine wp_of e143 c143_11 (rw_iload_n (pc' := 12) (z := a2) rfl rfl ?_)
  refine wp_of e143 c143_12 (rw_iand (pc' := 13) rfl ?_)
  obtain ⟨v47020, e47021⟩ : ∃ x : Int, x = wq_and v47016 a2 := ⟨_, rfl⟩
  rw [← e47021]
  have b47022 : -2147483648 ≤ v47020 ∧ v47020 ≤ 2147483647 := by
    rw [e47021]
    exact wI_and _ _
  refine wp_of e143 c143_13 (rw_istore (pc' := 15) (z := v47020) (L' := [(5, vI v47020), (4, vI v47010), (0, .ref r0), (1, vL a1), (3, vI a2)]) rfl rfl rfl ?_)
  refine wp_of e143 c143_15 (rw_iload (pc' := 17) (z := v47010) rfl rfl ?_)
  refine wp_of e143 c143_17 (rw_if_ne (p1 := 36) (p2 := 20) (by decide) rfl ⟨by omega, by omega⟩ (fun c47023 => ?_) (fun c47023 => ?_))
  · refine wp_of e143 c143_36 (rw_iconst (pc' := 37) rfl ?_)
    exact wp_zreturn e143 c143_37 rfl (by omega) ⟨rfl, rfl, 0, rfl, ⟨by omega, by omega⟩⟩
  · refine wp_of e143 c143_20 (rw_iload (pc' := 22) (z := v47020) rfl rfl ?_)
    refine wp_of e143 c143_22 (xc_S (pc' := 25) (as := [vI v47020]) (st := []) (lm_6_108) rfl rfl (Nat.le_of_ble_eq_true rfl) rfl (by decide) (s_126 hW ⟨by omega, by omega⟩) (fun R47024 T47025 H47026 p47027 => ?_))
    obtain ⟨e47028, e47030, z47031, e47029, b47032⟩ := p47027
    subst e47028
    subst e47029
    subst e47030
    show wp _ _ 143 25 [(5, vI v47020), (4, vI v47010), (0, .ref r0), (1, vL a1), (3, vI a2)] [vI z47031] _ H _
    refine wp_of e143 c143_25 (rw_aload_n (pc' := 26) (v := .ref r0) rfl rfl rfl ?_)
    refine wp_of e143 c143_26 (xg_I (pc' := 29) lf_6_113 hW g0 sh_27 (by decide) (by decide) ty_27_9 rfl rfl (fun b47033 b47034 => ?_))
    refine wp_of e143 c143_29 (rw_icmp_gt (p1 := 36) (p2 := 32) (by decide) rfl ⟨by omega, by omega⟩ ⟨by omega, by omega⟩ (fun c47035 => ?_) (fun c47035 => ?_))
    · refine wp_of e143 c143_36 (rw_iconst (pc' := 37) rfl ?_)
      exact wp_zreturn e143 c143_37 rfl (by omega) ⟨rfl, rfl, 0, rfl, ⟨by omega, by omega⟩⟩
    · refine wp_of e143 c143_32 (rw_iconst (pc' := 33) rfl ?_)
      refine wp_of e143 c143_33 (rw_goto (p1 := 37) (by decide) ?_)
      exact wp_zreturn e143 c143_37 rfl (by omega) ⟨rfl, rfl, 1, rfl, ⟨by omega, by omega⟩⟩
/-! StrikeAwake$Grounds.leavesNone(LStrikeAwake$Parish;I)Z -/
theorem e142 : wq_en 142 = some (6, 4, false, some FieldType.boolean) := rfl
theorem c142_0 : mc_cd 142 0 = some (.aload_n 0, 1) := by decide +kernel
theorem c142_1 : mc_cd 142 1 = some (.getfield 81, 3) := by decide +kernel
theorem c142_4 : mc_cd 142 4 = some (.aload_n 0, 1) := by decide +kernel
theorem c142_5 : mc_cd 142 5 = some (.getfield 68, 3) := by decide +kernel
theorem c142_8 : mc_cd 142 8 = some (.if_icmp .ge 22, 3) := by decide +kernel
theorem c142_11 : mc_cd 142 11 = some (.aload_n 1, 1) := by decide +kernel
theorem c142_12 : mc_cd 142 12 = some (.aload_n 0, 1) := by decide +kernel
theorem c142_13 : mc_cd 142 13 = some (.getfield 9, 3) := by decide +kernel
theorem c142_16 : mc_cd 142 16 = some (.aload_n 0, 1) := by decide +kernel
theorem c142_17 : mc_cd 142 17 = some (.getfield 81, 3) := by decide +kernel
theorem c142_20 : mc_cd 142 20 = some (.laload, 1) := by decide +kernel
theorem c142_21 : mc_cd 142 21 = some (.iload_n 2, 1) := by decide +kernel
theorem c142_22 : mc_cd 142 22 = some (.invokestatic 104, 3) := by decide +kernel
theorem c142_25 : mc_cd 142 25 = some (.ifCond .eq 5, 3) := by decide +kernel
theorem c142_28 : mc_cd 142 28 = some (.iconst 0, 1) := by decide +kernel
theorem c142_29 : mc_cd 142 29 = some (.ireturn, 1) := by decide +kernel
theorem c142_30 : mc_cd 142 30 = some (.iconst 0, 1) := by decide +kernel
theorem c142_31 : mc_cd 142 31 = some (.istore_n 3, 1) := by decide +kernel
theorem c142_32 : mc_cd 142 32 = some (.iload_n 3, 1) := by decide +kernel
theorem c142_33 : mc_cd 142 33 = some (.aload_n 0, 1) := by decide +kernel
theorem c142_34 : mc_cd 142 34 = some (.getfield 68, 3) := by decide +kernel
theorem c142_37 : mc_cd 142 37 = some (.if_icmp .ge 30, 3) := by decide +kernel
theorem c142_40 : mc_cd 142 40 = some (.aload_n 1, 1) := by decide +kernel
theorem c142_41 : mc_cd 142 41 = some (.aload_n 0, 1) := by decide +kernel
theorem c142_42 : mc_cd 142 42 = some (.getfield 9, 3) := by decide +kernel
theorem c142_45 : mc_cd 142 45 = some (.iload_n 3, 1) := by decide +kernel
theorem c142_46 : mc_cd 142 46 = some (.laload, 1) := by decide +kernel
theorem c142_47 : mc_cd 142 47 = some (.iload_n 2, 1) := by decide +kernel
theorem c142_48 : mc_cd 142 48 = some (.invokestatic 104, 3) := by decide +kernel
theorem c142_51 : mc_cd 142 51 = some (.ifCond .eq 10, 3) := by decide +kernel
theorem c142_54 : mc_cd 142 54 = some (.aload_n 0, 1) := by decide +kernel
theorem c142_55 : mc_cd 142 55 = some (.iload_n 3, 1) := by decide +kernel
theorem c142_56 : mc_cd 142 56 = some (.putfield 81, 3) := by decide +kernel
theorem c142_59 : mc_cd 142 59 = some (.iconst 0, 1) := by decide +kernel
theorem c142_60 : mc_cd 142 60 = some (.ireturn, 1) := by decide +kernel
theorem c142_61 : mc_cd 142 61 = some (.iinc 3 1, 3) := by decide +kernel
theorem c142_64 : mc_cd 142 64 = some (.goto (-32), 3) := by decide +kernel
theorem c142_67 : mc_cd 142 67 = some (.iconst 1, 1) := by decide +kernel
theorem c142_68 : mc_cd 142 68 = some (.ireturn, 1) := by decide +kernel
abbrev q_142 (r0 : Nat) (r1 : Nat) (a2 : Int) (T : wq_T) (H : wq_H) : Option Value → wq_T → wq_H → Prop := fun r T' H' => T = T' ∧ WT T H' ∧ wfr [(25, 2)] T H H' ∧ ∃ z : Int, some (vI z) = r ∧ (0 ≤ z ∧ z ≤ 1)
set_option maxHeartbeats 4000000 in
theorem s_142 {kt : Nat → Option mc_E} {T : wq_T} {H : wq_H} {r0 : Nat} {r1 : Nat} {a2 : Int} (hW : WT T H) (g0 : T.2.2.2 r0 = some 25) (g1 : T.2.2.2 r1 = some 27) (i2 : (-2147483648) ≤ a2 ∧ a2 ≤ 2147483647) : wpc kt 3 142 [.ref r0, .ref r1, vI a2] T H (q_142 r0 r1 a2 T H) := by
  refine wp_enter e142 (Nat.le_of_ble_eq_true rfl) rfl ?_
  have f0 : wfr [(25, 2)] T H H := wfr.rf
  show wp _ _ 142 0 [(0, .ref r0), (1, .ref r1), (2, vI a2)] [] _ H _
  refine wp_of e142 c142_0 (rw_aload_n (pc' := 1) (v := .ref r0) rfl rfl rfl ?_)
  refine wp_of e142 c142_1 (xg_I (pc' := 4) lf_6_81 hW g0 sh_25 (by decide) (by decide) ty_25_2 rfl rfl (fun b47399 b47400 => ?_))
  refine wp_of e142 c142_4 (rw_aload_n (pc' := 5) (v := .ref r0) rfl rfl rfl ?_)
  refine wp_of e142 c142_5 (xg_I (pc' := 8) lf_6_68 hW g0 sh_25 (by decide) (by decide) ty_25_1 rfl rfl (fun b47401 b47402 => ?_))
  refine wp_of e142 c142_8 (rw_icmp_ge (p1 := 30) (p2 := 11) (by decide) rfl ⟨by omega, by omega⟩ ⟨by omega, by omega⟩ (fun c47403 => ?_) (fun c47403 => ?_))
  · refine wp_of e142 c142_30 (rw_iconst (pc' := 31) rfl ?_)
    refine wp_of e142 c142_31 (rw_istore_n (pc' := 32) (z := 0) (L' := [(3, vI 0), (0, .ref r0), (1, .ref r1), (2, vI a2)]) rfl rfl rfl ?_)
    have lp47556 : ∀ (n47557 : Nat) (v47559 : Int), (0 ≤ v47559 ∧ v47559 ≤ 4999) → (4999 - v47559).toNat = n47557 → wp kt 2 142 32 [(3, vI v47559), (0, .ref r0), (1, .ref r1), (2, vI a2)] [] T H (q_142 r0 r1 a2 T H) := by
      intro n47557
      induction n47557 using Nat.strongRecOn with
      | _ n47557 ih47558 =>
        intro v47559 b47562 m47563
        refine wp_of e142 c142_32 (rw_iload_n (pc' := 33) (z := v47559) rfl rfl ?_)
        refine wp_of e142 c142_33 (rw_aload_n (pc' := 34) (v := .ref r0) rfl rfl rfl ?_)
        refine wp_of e142 c142_34 (xg_I (pc' := 37) lf_6_68 hW g0 sh_25 (by decide) (by decide) ty_25_1 rfl rfl (fun b47564 b47565 => ?_))
        refine wp_of e142 c142_37 (rw_icmp_ge (p1 := 67) (p2 := 40) (by decide) rfl ⟨by omega, by omega⟩ ⟨by omega, by omega⟩ (fun c47566 => ?_) (fun c47566 => ?_))
        · refine wp_of e142 c142_67 (rw_iconst (pc' := 68) rfl ?_)
          exact wp_zreturn e142 c142_68 rfl (by omega) ⟨rfl, hW, f0, 1, rfl, ⟨by omega, by omega⟩⟩
        · refine wp_of e142 c142_40 (rw_aload_n (pc' := 41) (v := .ref r1) rfl rfl rfl ?_)
          refine wp_of e142 c142_41 (rw_aload_n (pc' := 42) (v := .ref r0) rfl rfl rfl ?_)
          refine wp_of e142 c142_42 (xg_R (pc' := 45) lf_6_9 hW g0 sh_25 (by decide) (by decide) ty_25_0 rfl rfl (fun r47567 q47568 g47569 => ?_))
          refine wp_of e142 c142_45 (rw_iload_n (pc' := 46) (z := v47559) rfl rfl ?_)
          refine wp_of e142 c142_46 (xa_L (pc' := 47) hW g47569 sh_26 (by decide) (ty_26 _) (by omega) (by omega) rfl (fun b47570 b47571 => ?_))
          refine wp_of e142 c142_47 (rw_iload_n (pc' := 48) (z := a2) rfl rfl ?_)
          refine wp_of e142 c142_48 (xc_S (pc' := 51) (as := [.ref r1, vL (H r47567 (v47559.toNat)), vI a2]) (st := []) (lm_6_104) rfl rfl (Nat.le_of_ble_eq_true rfl) rfl (by decide) (s_143 hW g1 ⟨by omega, by omega⟩ ⟨by omega, by omega⟩) (fun R47572 T47573 H47574 p47575 => ?_))
          obtain ⟨e47576, e47578, z47579, e47577, b47580⟩ := p47575
          subst e47576
          subst e47577
          subst e47578
          show wp _ _ 142 51 [(3, vI v47559), (0, .ref r0), (1, .ref r1), (2, vI a2)] [vI z47579] _ H _
          refine wp_of e142 c142_51 (rw_if_eq (p1 := 61) (p2 := 54) (by decide) rfl ⟨by omega, by omega⟩ (fun c47581 => ?_) (fun c47581 => ?_))
          · refine wp_of e142 c142_61 (rw_iinc (pc' := 64) (z := v47559) (L' := [(3, vI (v47559 + 1)), (0, .ref r0), (1, .ref r1), (2, vI a2)]) rfl rfl rfl rfl ?_)
            refine wp_of e142 c142_64 (rw_goto (p1 := 32) (by decide) ?_)
            exact wp_lc (ks := [3, 0, 1, 2]) (wl_c rfl (wl_c rfl (wl_c rfl (wl_c rfl wl_n)))) rfl (by decide) (ih47558 _ (by omega) (v47559 + 1) ⟨by omega, by omega⟩ rfl)
          · refine wp_of e142 c142_54 (rw_aload_n (pc' := 55) (v := .ref r0) rfl rfl rfl ?_)
            refine wp_of e142 c142_55 (rw_iload_n (pc' := 56) (z := v47559) rfl rfl ?_)
            refine wp_of e142 c142_56 (xp_I (pc' := 59) lf_6_81 hW g0 sh_25 (by decide) (by decide) ty_25_2 rfl rfl (by omega) (by omega) ⟨by omega, by omega⟩ rfl (fun H47582 e47583 w47584 => ?_))
            have f47585 := f0.put' e47583 g0 rfl
            have k47586 : H47582 r0 2 = v47559 := wq_u_s e47583
            refine wp_of e142 c142_59 (rw_iconst (pc' := 60) rfl ?_)
            exact wp_zreturn e142 c142_60 rfl (by omega) ⟨rfl, w47584, f47585, 0, rfl, ⟨by omega, by omega⟩⟩
    exact wp_lc (ks := [3, 0, 1, 2]) (wl_c rfl (wl_c rfl (wl_c rfl (wl_c rfl wl_n)))) rfl (by decide) (lp47556 _ 0 ⟨by omega, by omega⟩ rfl)
  · refine wp_of e142 c142_11 (rw_aload_n (pc' := 12) (v := .ref r1) rfl rfl rfl ?_)
    refine wp_of e142 c142_12 (rw_aload_n (pc' := 13) (v := .ref r0) rfl rfl rfl ?_)
    refine wp_of e142 c142_13 (xg_R (pc' := 16) lf_6_9 hW g0 sh_25 (by decide) (by decide) ty_25_0 rfl rfl (fun r47587 q47588 g47589 => ?_))
    refine wp_of e142 c142_16 (rw_aload_n (pc' := 17) (v := .ref r0) rfl rfl rfl ?_)
    refine wp_of e142 c142_17 (xg_I (pc' := 20) lf_6_81 hW g0 sh_25 (by decide) (by decide) ty_25_2 rfl rfl (fun b47590 b47591 => ?_))
    refine wp_of e142 c142_20 (xa_L (pc' := 21) hW g47589 sh_26 (by decide) (ty_26 _) (by omega) (by omega) rfl (fun b47592 b47593 => ?_))
    refine wp_of e142 c142_21 (rw_iload_n (pc' := 22) (z := a2) rfl rfl ?_)
    refine wp_of e142 c142_22 (xc_S (pc' := 25) (as := [.ref r1, vL (H r47587 ((H r0 2).toNat)), vI a2]) (st := []) (lm_6_104) rfl rfl (Nat.le_of_ble_eq_true rfl) rfl (by decide) (s_143 hW g1 ⟨by omega, by omega⟩ ⟨by omega, by omega⟩) (fun R47594 T47595 H47596 p47597 => ?_))
    obtain ⟨e47598, e47600, z47601, e47599, b47602⟩ := p47597
    subst e47598
    subst e47599
    subst e47600
    show wp _ _ 142 25 [(0, .ref r0), (1, .ref r1), (2, vI a2)] [vI z47601] _ H _
    refine wp_of e142 c142_25 (rw_if_eq (p1 := 30) (p2 := 28) (by decide) rfl ⟨by omega, by omega⟩ (fun c47603 => ?_) (fun c47603 => ?_))
    · refine wp_of e142 c142_30 (rw_iconst (pc' := 31) rfl ?_)
      refine wp_of e142 c142_31 (rw_istore_n (pc' := 32) (z := 0) (L' := [(3, vI 0), (0, .ref r0), (1, .ref r1), (2, vI a2)]) rfl rfl rfl ?_)
      have lp47748 : ∀ (n47749 : Nat) (v47751 : Int), (0 ≤ v47751 ∧ v47751 ≤ 5000) → (5000 - v47751).toNat = n47749 → wp kt 2 142 32 [(3, vI v47751), (0, .ref r0), (1, .ref r1), (2, vI a2)] [] T H (q_142 r0 r1 a2 T H) := by
        intro n47749
        induction n47749 using Nat.strongRecOn with
        | _ n47749 ih47750 =>
          intro v47751 b47754 m47755
          refine wp_of e142 c142_32 (rw_iload_n (pc' := 33) (z := v47751) rfl rfl ?_)
          refine wp_of e142 c142_33 (rw_aload_n (pc' := 34) (v := .ref r0) rfl rfl rfl ?_)
          refine wp_of e142 c142_34 (xg_I (pc' := 37) lf_6_68 hW g0 sh_25 (by decide) (by decide) ty_25_1 rfl rfl (fun b47756 b47757 => ?_))
          refine wp_of e142 c142_37 (rw_icmp_ge (p1 := 67) (p2 := 40) (by decide) rfl ⟨by omega, by omega⟩ ⟨by omega, by omega⟩ (fun c47758 => ?_) (fun c47758 => ?_))
          · refine wp_of e142 c142_67 (rw_iconst (pc' := 68) rfl ?_)
            exact wp_zreturn e142 c142_68 rfl (by omega) ⟨rfl, hW, f0, 1, rfl, ⟨by omega, by omega⟩⟩
          · refine wp_of e142 c142_40 (rw_aload_n (pc' := 41) (v := .ref r1) rfl rfl rfl ?_)
            refine wp_of e142 c142_41 (rw_aload_n (pc' := 42) (v := .ref r0) rfl rfl rfl ?_)
            refine wp_of e142 c142_42 (xg_K (pc' := 45) lf_6_9 hW g0 sh_25 (by decide) (by decide) rfl q47588 rfl ?_)
            refine wp_of e142 c142_45 (rw_iload_n (pc' := 46) (z := v47751) rfl rfl ?_)
            refine wp_of e142 c142_46 (xa_L (pc' := 47) hW g47589 sh_26 (by decide) (ty_26 _) (by omega) (by omega) rfl (fun b47759 b47760 => ?_))
            refine wp_of e142 c142_47 (rw_iload_n (pc' := 48) (z := a2) rfl rfl ?_)
            refine wp_of e142 c142_48 (xc_S (pc' := 51) (as := [.ref r1, vL (H r47587 (v47751.toNat)), vI a2]) (st := []) (lm_6_104) rfl rfl (Nat.le_of_ble_eq_true rfl) rfl (by decide) (s_143 hW g1 ⟨by omega, by omega⟩ ⟨by omega, by omega⟩) (fun R47761 T47762 H47763 p47764 => ?_))
            obtain ⟨e47765, e47767, z47768, e47766, b47769⟩ := p47764
            subst e47765
            subst e47766
            subst e47767
            show wp _ _ 142 51 [(3, vI v47751), (0, .ref r0), (1, .ref r1), (2, vI a2)] [vI z47768] _ H _
            refine wp_of e142 c142_51 (rw_if_eq (p1 := 61) (p2 := 54) (by decide) rfl ⟨by omega, by omega⟩ (fun c47770 => ?_) (fun c47770 => ?_))
            · refine wp_of e142 c142_61 (rw_iinc (pc' := 64) (z := v47751) (L' := [(3, vI (v47751 + 1)), (0, .ref r0), (1, .ref r1), (2, vI a2)]) rfl rfl rfl rfl ?_)
              refine wp_of e142 c142_64 (rw_goto (p1 := 32) (by decide) ?_)
              exact wp_lc (ks := [3, 0, 1, 2]) (wl_c rfl (wl_c rfl (wl_c rfl (wl_c rfl wl_n)))) rfl (by decide) (ih47750 _ (by omega) (v47751 + 1) ⟨by omega, by omega⟩ rfl)
            · refine wp_of e142 c142_54 (rw_aload_n (pc' := 55) (v := .ref r0) rfl rfl rfl ?_)
              refine wp_of e142 c142_55 (rw_iload_n (pc' := 56) (z := v47751) rfl rfl ?_)
              refine wp_of e142 c142_56 (xp_I (pc' := 59) lf_6_81 hW g0 sh_25 (by decide) (by decide) ty_25_2 rfl rfl (by omega) (by omega) ⟨by omega, by omega⟩ rfl (fun H47771 e47772 w47773 => ?_))
              have f47774 := f0.put' e47772 g0 rfl
              have k47775 : H47771 r0 2 = v47751 := wq_u_s e47772
              refine wp_of e142 c142_59 (rw_iconst (pc' := 60) rfl ?_)
              exact wp_zreturn e142 c142_60 rfl (by omega) ⟨rfl, w47773, f47774, 0, rfl, ⟨by omega, by omega⟩⟩
      exact wp_lc (ks := [3, 0, 1, 2]) (wl_c rfl (wl_c rfl (wl_c rfl (wl_c rfl wl_n)))) rfl (by decide) (lp47748 _ 0 ⟨by omega, by omega⟩ rfl)
    · refine wp_of e142 c142_28 (rw_iconst (pc' := 29) rfl ?_)
      exact wp_zreturn e142 c142_29 rfl (by omega) ⟨rfl, hW, f0, 0, rfl, ⟨by omega, by omega⟩⟩
/-! StrikeAwake$Grounds.oneHour(LStrikeAwake$Parish;)I -/
theorem e141 : wq_en 141 = some (6, 4, false, some FieldType.int) := rfl
theorem c141_0 : mc_cd 141 0 = some (.iconst 0, 1) := by decide +kernel
theorem c141_1 : mc_cd 141 1 = some (.istore_n 2, 1) := by decide +kernel
theorem c141_2 : mc_cd 141 2 = some (.iload_n 2, 1) := by decide +kernel
theorem c141_3 : mc_cd 141 3 = some (.aload_n 1, 1) := by decide +kernel
theorem c141_4 : mc_cd 141 4 = some (.getfield 88, 3) := by decide +kernel
theorem c141_7 : mc_cd 141 7 = some (.if_icmp .ge 29, 3) := by decide +kernel
theorem c141_10 : mc_cd 141 10 = some (.iconst 1, 1) := by decide +kernel
theorem c141_11 : mc_cd 141 11 = some (.aload_n 1, 1) := by decide +kernel
theorem c141_12 : mc_cd 141 12 = some (.getfield 91, 3) := by decide +kernel
theorem c141_15 : mc_cd 141 15 = some (.iload_n 2, 1) := by decide +kernel
theorem c141_16 : mc_cd 141 16 = some (.iaload, 1) := by decide +kernel
theorem c141_17 : mc_cd 141 17 = some (.ishl, 1) := by decide +kernel
theorem c141_18 : mc_cd 141 18 = some (.istore_n 3, 1) := by decide +kernel
theorem c141_19 : mc_cd 141 19 = some (.aload_n 0, 1) := by decide +kernel
theorem c141_20 : mc_cd 141 20 = some (.aload_n 1, 1) := by decide +kernel
theorem c141_21 : mc_cd 141 21 = some (.iload_n 3, 1) := by decide +kernel
theorem c141_22 : mc_cd 141 22 = some (.invokevirtual 100, 3) := by decide +kernel
theorem c141_25 : mc_cd 141 25 = some (.ifCond .eq 5, 3) := by decide +kernel
theorem c141_28 : mc_cd 141 28 = some (.iload_n 3, 1) := by decide +kernel
theorem c141_29 : mc_cd 141 29 = some (.ireturn, 1) := by decide +kernel
theorem c141_30 : mc_cd 141 30 = some (.iinc 2 1, 3) := by decide +kernel
theorem c141_33 : mc_cd 141 33 = some (.goto (-31), 3) := by decide +kernel
theorem c141_36 : mc_cd 141 36 = some (.bipush (-2), 2) := by decide +kernel
theorem c141_38 : mc_cd 141 38 = some (.ireturn, 1) := by decide +kernel
abbrev q_141 (r0 : Nat) (r1 : Nat) (T : wq_T) (H : wq_H) : Option Value → wq_T → wq_H → Prop := fun r T' H' => T = T' ∧ WT T H' ∧ wfr [(25, 2)] T H H' ∧ ∃ z : Int, some (vI z) = r ∧ ((-2147483648) ≤ z ∧ z ≤ 2147483647)
set_option maxHeartbeats 4000000 in
theorem s_141 {kt : Nat → Option mc_E} {T : wq_T} {H : wq_H} {r0 : Nat} {r1 : Nat} (hW : WT T H) (g0 : T.2.2.2 r0 = some 25) (g1 : T.2.2.2 r1 = some 27) : wpc kt 4 141 [.ref r0, .ref r1] T H (q_141 r0 r1 T H) := by
  refine wp_enter e141 (Nat.le_of_ble_eq_true rfl) rfl ?_
  have f0 : wfr [(25, 2)] T H H := wfr.rf
  show wp _ _ 141 0 [(0, .ref r0), (1, .ref r1)] [] _ H _
  refine wp_of e141 c141_0 (rw_iconst (pc' := 1) rfl ?_)
  refine wp_of e141 c141_1 (rw_istore_n (pc' := 2) (z := 0) (L' := [(2, vI 0), (0, .ref r0), (1, .ref r1)]) rfl rfl rfl ?_)
  have lp48151 : ∀ (n48152 : Nat) (v48154 : Int) (H48155 : wq_H), WT T H48155 → wfr [(25, 2)] T H H48155 → (0 ≤ v48154 ∧ v48154 ≤ 24) → (24 - v48154).toNat = n48152 → wp kt 3 141 2 [(2, vI v48154), (0, .ref r0), (1, .ref r1)] [] T H48155 (q_141 r0 r1 T H) := by
    intro n48152
    induction n48152 using Nat.strongRecOn with
    | _ n48152 ih48153 =>
      intro v48154 H48155 w48156 f48157 b48158 m48159
      have f48160 := f0.tr f48157 rfl
      refine wp_of e141 c141_2 (rw_iload_n (pc' := 3) (z := v48154) rfl rfl ?_)
      refine wp_of e141 c141_3 (rw_aload_n (pc' := 4) (v := .ref r1) rfl rfl rfl ?_)
      refine wp_of e141 c141_4 (xg_I (pc' := 7) lf_6_88 w48156 g1 sh_27 (by decide) (by decide) ty_27_16 rfl rfl (fun b48161 b48162 => ?_))
      refine wp_of e141 c141_7 (rw_icmp_ge (p1 := 36) (p2 := 10) (by decide) rfl ⟨by omega, by omega⟩ ⟨by omega, by omega⟩ (fun c48163 => ?_) (fun c48163 => ?_))
      · refine wp_of e141 c141_36 (rw_bipush (pc' := 38) (z := -2) rfl (by decide) ?_)
        exact wp_ireturn e141 c141_38 rfl ⟨rfl, w48156, f48160, -2, rfl, ⟨by omega, by omega⟩⟩
      · refine wp_of e141 c141_10 (rw_iconst (pc' := 11) rfl ?_)
        refine wp_of e141 c141_11 (rw_aload_n (pc' := 12) (v := .ref r1) rfl rfl rfl ?_)
        refine wp_of e141 c141_12 (xg_R (pc' := 15) lf_6_91 w48156 g1 sh_27 (by decide) (by decide) ty_27_2 rfl rfl (fun r48164 q48165 g48166 => ?_))
        refine wp_of e141 c141_15 (rw_iload_n (pc' := 16) (z := v48154) rfl rfl ?_)
        refine wp_of e141 c141_16 (xa_I (so := 0) (pc' := 17) w48156 g48166 sh_30 (by decide) (ty_30 _) (by omega) (by omega) rfl (fun b48167 b48168 => ?_))
        refine wp_of e141 c141_17 (rw_ishl (pc' := 18) rfl ?_)
        obtain ⟨v48169, e48170⟩ : ∃ x : Int, x = wq_shl 1 (H48155 r48164 (v48154.toNat)) := ⟨_, rfl⟩
        rw [← e48170]
        have b48171 : 1 ≤ v48169 ∧ v48169 ≤ 8388608 := by
          rw [e48170]
          exact wq_shl1_24 ⟨by omega, by omega⟩
        refine wp_of e141 c141_18 (rw_istore_n (pc' := 19) (z := v48169) (L' := [(3, vI v48169), (2, vI v48154), (0, .ref r0), (1, .ref r1)]) rfl rfl rfl ?_)
        refine wp_of e141 c141_19 (rw_aload_n (pc' := 20) (v := .ref r0) rfl rfl rfl ?_)
        refine wp_of e141 c141_20 (rw_aload_n (pc' := 21) (v := .ref r1) rfl rfl rfl ?_)
        refine wp_of e141 c141_21 (rw_iload_n (pc' := 22) (z := v48169) rfl rfl ?_)
        refine wp_of e141 c141_22 (xc_V (pc' := 25) (r := r0) (as := [.ref r1, vI v48169]) (st := []) (lm_6_100) rfl rfl (Nat.le_of_ble_eq_true rfl) w48156 g0 sh_25 (by decide) rfl (by decide) (s_142 w48156 g0 g1 ⟨by omega, by omega⟩) (fun R48172 T48173 H48174 p48175 => ?_))
        obtain ⟨e48176, w48178, f48179, z48180, e48177, b48181⟩ := p48175
        subst e48176
        subst e48177
        have f48182 := f48160.tr f48179 rfl
        have f48183 := f48157.tr f48179 rfl
        show wp _ _ 141 25 [(3, vI v48169), (2, vI v48154), (0, .ref r0), (1, .ref r1)] [vI z48180] _ H48174 _
        refine wp_of e141 c141_25 (rw_if_eq (p1 := 30) (p2 := 28) (by decide) rfl ⟨by omega, by omega⟩ (fun c48184 => ?_) (fun c48184 => ?_))
        · refine wp_of e141 c141_30 (rw_iinc (pc' := 33) (z := v48154) (L' := [(2, vI (v48154 + 1)), (3, vI v48169), (0, .ref r0), (1, .ref r1)]) rfl rfl rfl rfl ?_)
          refine wp_of e141 c141_33 (rw_goto (p1 := 2) (by decide) ?_)
          exact wp_lc (ks := [2, 3, 0, 1]) (wl_c rfl (wl_c rfl (wl_c rfl wl_n))) rfl (by decide) (ih48153 _ (by omega) (v48154 + 1) H48174 w48178 f48183 ⟨by omega, by omega⟩ rfl)
        · refine wp_of e141 c141_28 (rw_iload_n (pc' := 29) (z := v48169) rfl rfl ?_)
          exact wp_ireturn e141 c141_29 rfl ⟨rfl, w48178, f48182, v48169, rfl, ⟨by omega, by omega⟩⟩
  exact wp_lc (ks := [2, 0, 1]) (wl_c rfl (wl_c rfl (wl_c rfl wl_n))) rfl (by decide) (lp48151 _ 0 H hW wfr.rf ⟨by omega, by omega⟩ rfl)
/-! StrikeAwake$Grounds.twoHours(LStrikeAwake$Parish;)I -/
theorem e144 : wq_en 144 = some (6, 5, false, some FieldType.int) := rfl
theorem c144_0 : mc_cd 144 0 = some (.iconst 1, 1) := by decide +kernel
theorem c144_1 : mc_cd 144 1 = some (.istore_n 2, 1) := by decide +kernel
theorem c144_2 : mc_cd 144 2 = some (.iload_n 2, 1) := by decide +kernel
theorem c144_3 : mc_cd 144 3 = some (.aload_n 1, 1) := by decide +kernel
theorem c144_4 : mc_cd 144 4 = some (.getfield 88, 3) := by decide +kernel
theorem c144_7 : mc_cd 144 7 = some (.if_icmp .ge 54, 3) := by decide +kernel
theorem c144_10 : mc_cd 144 10 = some (.iconst 0, 1) := by decide +kernel
theorem c144_11 : mc_cd 144 11 = some (.istore_n 3, 1) := by decide +kernel
theorem c144_12 : mc_cd 144 12 = some (.iload_n 3, 1) := by decide +kernel
theorem c144_13 : mc_cd 144 13 = some (.iload_n 2, 1) := by decide +kernel
theorem c144_14 : mc_cd 144 14 = some (.if_icmp .ge 41, 3) := by decide +kernel
theorem c144_17 : mc_cd 144 17 = some (.iconst 1, 1) := by decide +kernel
theorem c144_18 : mc_cd 144 18 = some (.aload_n 1, 1) := by decide +kernel
theorem c144_19 : mc_cd 144 19 = some (.getfield 91, 3) := by decide +kernel
theorem c144_22 : mc_cd 144 22 = some (.iload_n 2, 1) := by decide +kernel
theorem c144_23 : mc_cd 144 23 = some (.iaload, 1) := by decide +kernel
theorem c144_24 : mc_cd 144 24 = some (.ishl, 1) := by decide +kernel
theorem c144_25 : mc_cd 144 25 = some (.iconst 1, 1) := by decide +kernel
theorem c144_26 : mc_cd 144 26 = some (.aload_n 1, 1) := by decide +kernel
theorem c144_27 : mc_cd 144 27 = some (.getfield 91, 3) := by decide +kernel
theorem c144_30 : mc_cd 144 30 = some (.iload_n 3, 1) := by decide +kernel
theorem c144_31 : mc_cd 144 31 = some (.iaload, 1) := by decide +kernel
theorem c144_32 : mc_cd 144 32 = some (.ishl, 1) := by decide +kernel
theorem c144_33 : mc_cd 144 33 = some (.ior, 1) := by decide +kernel
theorem c144_34 : mc_cd 144 34 = some (.istore 4, 2) := by decide +kernel
theorem c144_36 : mc_cd 144 36 = some (.aload_n 0, 1) := by decide +kernel
theorem c144_37 : mc_cd 144 37 = some (.aload_n 1, 1) := by decide +kernel
theorem c144_38 : mc_cd 144 38 = some (.iload 4, 2) := by decide +kernel
theorem c144_40 : mc_cd 144 40 = some (.invokevirtual 100, 3) := by decide +kernel
theorem c144_43 : mc_cd 144 43 = some (.ifCond .eq 6, 3) := by decide +kernel
theorem c144_46 : mc_cd 144 46 = some (.iload 4, 2) := by decide +kernel
theorem c144_48 : mc_cd 144 48 = some (.ireturn, 1) := by decide +kernel
theorem c144_49 : mc_cd 144 49 = some (.iinc 3 1, 3) := by decide +kernel
theorem c144_52 : mc_cd 144 52 = some (.goto (-40), 3) := by decide +kernel
theorem c144_55 : mc_cd 144 55 = some (.iinc 2 1, 3) := by decide +kernel
theorem c144_58 : mc_cd 144 58 = some (.goto (-56), 3) := by decide +kernel
theorem c144_61 : mc_cd 144 61 = some (.bipush (-2), 2) := by decide +kernel
theorem c144_63 : mc_cd 144 63 = some (.ireturn, 1) := by decide +kernel
abbrev q_144 (r0 : Nat) (r1 : Nat) (T : wq_T) (H : wq_H) : Option Value → wq_T → wq_H → Prop := fun r T' H' => T = T' ∧ WT T H' ∧ wfr [(25, 2)] T H H' ∧ ∃ z : Int, some (vI z) = r ∧ ((-2147483648) ≤ z ∧ z ≤ 2147483647)
set_option maxHeartbeats 4000000 in
theorem s_144 {kt : Nat → Option mc_E} {T : wq_T} {H : wq_H} {r0 : Nat} {r1 : Nat} (hW : WT T H) (g0 : T.2.2.2 r0 = some 25) (g1 : T.2.2.2 r1 = some 27) : wpc kt 4 144 [.ref r0, .ref r1] T H (q_144 r0 r1 T H) := by
  refine wp_enter e144 (Nat.le_of_ble_eq_true rfl) rfl ?_
  have f0 : wfr [(25, 2)] T H H := wfr.rf
  show wp _ _ 144 0 [(0, .ref r0), (1, .ref r1)] [] _ H _
  refine wp_of e144 c144_0 (rw_iconst (pc' := 1) rfl ?_)
  refine wp_of e144 c144_1 (rw_istore_n (pc' := 2) (z := 1) (L' := [(2, vI 1), (0, .ref r0), (1, .ref r1)]) rfl rfl rfl ?_)
  have lp51140 : ∀ (n51141 : Nat) (v51143 : Int) (H51144 : wq_H), WT T H51144 → wfr [(25, 2)] T H H51144 → (1 ≤ v51143 ∧ v51143 ≤ 24) → (24 - v51143).toNat = n51141 → wp kt 3 144 2 [(2, vI v51143), (0, .ref r0), (1, .ref r1)] [] T H51144 (q_144 r0 r1 T H) := by
    intro n51141
    induction n51141 using Nat.strongRecOn with
    | _ n51141 ih51142 =>
      intro v51143 H51144 w51145 f51146 b51147 m51148
      have f51149 := f0.tr f51146 rfl
      refine wp_of e144 c144_2 (rw_iload_n (pc' := 3) (z := v51143) rfl rfl ?_)
      refine wp_of e144 c144_3 (rw_aload_n (pc' := 4) (v := .ref r1) rfl rfl rfl ?_)
      refine wp_of e144 c144_4 (xg_I (pc' := 7) lf_6_88 w51145 g1 sh_27 (by decide) (by decide) ty_27_16 rfl rfl (fun b51150 b51151 => ?_))
      refine wp_of e144 c144_7 (rw_icmp_ge (p1 := 61) (p2 := 10) (by decide) rfl ⟨by omega, by omega⟩ ⟨by omega, by omega⟩ (fun c51152 => ?_) (fun c51152 => ?_))
      · refine wp_of e144 c144_61 (rw_bipush (pc' := 63) (z := -2) rfl (by decide) ?_)
        exact wp_ireturn e144 c144_63 rfl ⟨rfl, w51145, f51149, -2, rfl, ⟨by omega, by omega⟩⟩
      · refine wp_of e144 c144_10 (rw_iconst (pc' := 11) rfl ?_)
        refine wp_of e144 c144_11 (rw_istore_n (pc' := 12) (z := 0) (L' := [(3, vI 0), (2, vI v51143), (0, .ref r0), (1, .ref r1)]) rfl rfl rfl ?_)
        have lp51369 : ∀ (n51370 : Nat) (v51372 : Int) (H51373 : wq_H), WT T H51373 → wfr [(25, 2)] T H51144 H51373 → (0 ≤ v51372 ∧ v51372 ≤ 23) → (23 - v51372).toNat = n51370 → wp kt 3 144 12 [(3, vI v51372), (2, vI v51143), (0, .ref r0), (1, .ref r1)] [] T H51373 (q_144 r0 r1 T H) := by
          intro n51370
          induction n51370 using Nat.strongRecOn with
          | _ n51370 ih51371 =>
            intro v51372 H51373 w51374 f51375 b51376 m51377
            have f51378 := f51149.tr f51375 rfl
            have f51379 := f51146.tr f51375 rfl
            refine wp_of e144 c144_12 (rw_iload_n (pc' := 13) (z := v51372) rfl rfl ?_)
            refine wp_of e144 c144_13 (rw_iload_n (pc' := 14) (z := v51143) rfl rfl ?_)
            refine wp_of e144 c144_14 (rw_icmp_ge (p1 := 55) (p2 := 17) (by decide) rfl ⟨by omega, by omega⟩ ⟨by omega, by omega⟩ (fun c51380 => ?_) (fun c51380 => ?_))
            · refine wp_of e144 c144_55 (rw_iinc (pc' := 58) (z := v51143) (L' := [(2, vI (v51143 + 1)), (3, vI v51372), (0, .ref r0), (1, .ref r1)]) rfl rfl rfl rfl ?_)
              refine wp_of e144 c144_58 (rw_goto (p1 := 2) (by decide) ?_)
              exact wp_lc (ks := [2, 3, 0, 1]) (wl_c rfl (wl_c rfl (wl_c rfl wl_n))) rfl (by decide) (ih51142 _ (by omega) (v51143 + 1) H51373 w51374 f51379 ⟨by omega, by omega⟩ rfl)
            · refine wp_of e144 c144_17 (rw_iconst (pc' := 18) rfl ?_)
              refine wp_of e144 c144_18 (rw_aload_n (pc' := 19) (v := .ref r1) rfl rfl rfl ?_)
              refine wp_of e144 c144_19 (xg_R (pc' := 22) lf_6_91 w51374 g1 sh_27 (by decide) (by decide) ty_27_2 rfl rfl (fun r51381 q51382 g51383 => ?_))
              refine wp_of e144 c144_22 (rw_iload_n (pc' := 23) (z := v51143) rfl rfl ?_)
              refine wp_of e144 c144_23 (xa_I (so := 0) (pc' := 24) w51374 g51383 sh_30 (by decide) (ty_30 _) (by omega) (by omega) rfl (fun b51384 b51385 => ?_))
              refine wp_of e144 c144_24 (rw_ishl (pc' := 25) rfl ?_)
              obtain ⟨v51386, e51387⟩ : ∃ x : Int, x = wq_shl 1 (H51373 r51381 (v51143.toNat)) := ⟨_, rfl⟩
              rw [← e51387]
              have b51388 : 1 ≤ v51386 ∧ v51386 ≤ 8388608 := by
                rw [e51387]
                exact wq_shl1_24 ⟨by omega, by omega⟩
              refine wp_of e144 c144_25 (rw_iconst (pc' := 26) rfl ?_)
              refine wp_of e144 c144_26 (rw_aload_n (pc' := 27) (v := .ref r1) rfl rfl rfl ?_)
              refine wp_of e144 c144_27 (xg_K (pc' := 30) lf_6_91 w51374 g1 sh_27 (by decide) (by decide) rfl q51382 rfl ?_)
              refine wp_of e144 c144_30 (rw_iload_n (pc' := 31) (z := v51372) rfl rfl ?_)
              refine wp_of e144 c144_31 (xa_I (so := 0) (pc' := 32) w51374 g51383 sh_30 (by decide) (ty_30 _) (by omega) (by omega) rfl (fun b51389 b51390 => ?_))
              refine wp_of e144 c144_32 (rw_ishl (pc' := 33) rfl ?_)
              obtain ⟨v51391, e51392⟩ : ∃ x : Int, x = wq_shl 1 (H51373 r51381 (v51372.toNat)) := ⟨_, rfl⟩
              rw [← e51392]
              have b51393 : 1 ≤ v51391 ∧ v51391 ≤ 8388608 := by
                rw [e51392]
                exact wq_shl1_24 ⟨by omega, by omega⟩
              refine wp_of e144 c144_33 (rw_ior (pc' := 34) rfl ?_)
              obtain ⟨v51394, e51395⟩ : ∃ x : Int, x = wq_or v51386 v51391 := ⟨_, rfl⟩
              rw [← e51395]
              have b51396 : 0 ≤ v51394 ∧ v51394 ≤ 16777215 := by
                rw [e51395]
                exact wq_or_24 ⟨by omega, by omega⟩ ⟨by omega, by omega⟩
              refine wp_of e144 c144_34 (rw_istore (pc' := 36) (z := v51394) (L' := [(4, vI v51394), (3, vI v51372), (2, vI v51143), (0, .ref r0), (1, .ref r1)]) rfl rfl rfl ?_)
              refine wp_of e144 c144_36 (rw_aload_n (pc' := 37) (v := .ref r0) rfl rfl rfl ?_)
              refine wp_of e144 c144_37 (rw_aload_n (pc' := 38) (v := .ref r1) rfl rfl rfl ?_)
              refine wp_of e144 c144_38 (rw_iload (pc' := 40) (z := v51394) rfl rfl ?_)
              refine wp_of e144 c144_40 (xc_V (pc' := 43) (r := r0) (as := [.ref r1, vI v51394]) (st := []) (lm_6_100) rfl rfl (Nat.le_of_ble_eq_true rfl) w51374 g0 sh_25 (by decide) rfl (by decide) (s_142 w51374 g0 g1 ⟨by omega, by omega⟩) (fun R51397 T51398 H51399 p51400 => ?_))
              obtain ⟨e51401, w51403, f51404, z51405, e51402, b51406⟩ := p51400
              subst e51401
              subst e51402
              have f51407 := f51378.tr f51404 rfl
              have f51408 := f51379.tr f51404 rfl
              have f51409 := f51375.tr f51404 rfl
              show wp _ _ 144 43 [(4, vI v51394), (3, vI v51372), (2, vI v51143), (0, .ref r0), (1, .ref r1)] [vI z51405] _ H51399 _
              refine wp_of e144 c144_43 (rw_if_eq (p1 := 49) (p2 := 46) (by decide) rfl ⟨by omega, by omega⟩ (fun c51410 => ?_) (fun c51410 => ?_))
              · refine wp_of e144 c144_49 (rw_iinc (pc' := 52) (z := v51372) (L' := [(3, vI (v51372 + 1)), (4, vI v51394), (2, vI v51143), (0, .ref r0), (1, .ref r1)]) rfl rfl rfl rfl ?_)
                refine wp_of e144 c144_52 (rw_goto (p1 := 12) (by decide) ?_)
                exact wp_lc (ks := [3, 4, 2, 0, 1]) (wl_c rfl (wl_c rfl (wl_c rfl (wl_c rfl wl_n)))) rfl (by decide) (ih51371 _ (by omega) (v51372 + 1) H51399 w51403 f51409 ⟨by omega, by omega⟩ rfl)
              · refine wp_of e144 c144_46 (rw_iload (pc' := 48) (z := v51394) rfl rfl ?_)
                exact wp_ireturn e144 c144_48 rfl ⟨rfl, w51403, f51407, v51394, rfl, ⟨by omega, by omega⟩⟩
        exact wp_lc (ks := [3, 2, 0, 1]) (wl_c rfl (wl_c rfl (wl_c rfl (wl_c rfl wl_n)))) rfl (by decide) (lp51369 _ 0 H51144 w51145 wfr.rf ⟨by omega, by omega⟩ rfl)
  exact wp_lc (ks := [2, 0, 1]) (wl_c rfl (wl_c rfl (wl_c rfl wl_n))) rfl (by decide) (lp51140 _ 1 H hW wfr.rf ⟨by omega, by omega⟩ rfl)
/-! StrikeAwake$Grounds.threeHours(LStrikeAwake$Parish;)I -/
theorem e145 : wq_en 145 = some (6, 7, false, some FieldType.int) := rfl
theorem c145_0 : mc_cd 145 0 = some (.iconst 2, 1) := by decide +kernel
theorem c145_1 : mc_cd 145 1 = some (.istore_n 2, 1) := by decide +kernel
theorem c145_2 : mc_cd 145 2 = some (.iload_n 2, 1) := by decide +kernel
theorem c145_3 : mc_cd 145 3 = some (.aload_n 1, 1) := by decide +kernel
theorem c145_4 : mc_cd 145 4 = some (.getfield 88, 3) := by decide +kernel
theorem c145_7 : mc_cd 145 7 = some (.if_icmp .ge 83, 3) := by decide +kernel
theorem c145_10 : mc_cd 145 10 = some (.iconst 1, 1) := by decide +kernel
theorem c145_11 : mc_cd 145 11 = some (.istore_n 3, 1) := by decide +kernel
theorem c145_12 : mc_cd 145 12 = some (.iload_n 3, 1) := by decide +kernel
theorem c145_13 : mc_cd 145 13 = some (.iload_n 2, 1) := by decide +kernel
theorem c145_14 : mc_cd 145 14 = some (.if_icmp .ge 70, 3) := by decide +kernel
theorem c145_17 : mc_cd 145 17 = some (.iconst 0, 1) := by decide +kernel
theorem c145_18 : mc_cd 145 18 = some (.istore 4, 2) := by decide +kernel
theorem c145_20 : mc_cd 145 20 = some (.iload 4, 2) := by decide +kernel
theorem c145_22 : mc_cd 145 22 = some (.iload_n 3, 1) := by decide +kernel
theorem c145_23 : mc_cd 145 23 = some (.if_icmp .ge 55, 3) := by decide +kernel
theorem c145_26 : mc_cd 145 26 = some (.iconst 1, 1) := by decide +kernel
theorem c145_27 : mc_cd 145 27 = some (.aload_n 1, 1) := by decide +kernel
theorem c145_28 : mc_cd 145 28 = some (.getfield 91, 3) := by decide +kernel
theorem c145_31 : mc_cd 145 31 = some (.iload_n 2, 1) := by decide +kernel
theorem c145_32 : mc_cd 145 32 = some (.iaload, 1) := by decide +kernel
theorem c145_33 : mc_cd 145 33 = some (.ishl, 1) := by decide +kernel
theorem c145_34 : mc_cd 145 34 = some (.iconst 1, 1) := by decide +kernel
theorem c145_35 : mc_cd 145 35 = some (.aload_n 1, 1) := by decide +kernel
theorem c145_36 : mc_cd 145 36 = some (.getfield 91, 3) := by decide +kernel
theorem c145_39 : mc_cd 145 39 = some (.iload_n 3, 1) := by decide +kernel
theorem c145_40 : mc_cd 145 40 = some (.iaload, 1) := by decide +kernel
theorem c145_41 : mc_cd 145 41 = some (.ishl, 1) := by decide +kernel
theorem c145_42 : mc_cd 145 42 = some (.ior, 1) := by decide +kernel
theorem c145_43 : mc_cd 145 43 = some (.istore 5, 2) := by decide +kernel
theorem c145_45 : mc_cd 145 45 = some (.iload 5, 2) := by decide +kernel
theorem c145_47 : mc_cd 145 47 = some (.iconst 1, 1) := by decide +kernel
theorem c145_48 : mc_cd 145 48 = some (.aload_n 1, 1) := by decide +kernel
theorem c145_49 : mc_cd 145 49 = some (.getfield 91, 3) := by decide +kernel
theorem c145_52 : mc_cd 145 52 = some (.iload 4, 2) := by decide +kernel
theorem c145_54 : mc_cd 145 54 = some (.iaload, 1) := by decide +kernel
theorem c145_55 : mc_cd 145 55 = some (.ishl, 1) := by decide +kernel
theorem c145_56 : mc_cd 145 56 = some (.ior, 1) := by decide +kernel
theorem c145_57 : mc_cd 145 57 = some (.istore 6, 2) := by decide +kernel
theorem c145_59 : mc_cd 145 59 = some (.aload_n 0, 1) := by decide +kernel
theorem c145_60 : mc_cd 145 60 = some (.aload_n 1, 1) := by decide +kernel
theorem c145_61 : mc_cd 145 61 = some (.iload 6, 2) := by decide +kernel
theorem c145_63 : mc_cd 145 63 = some (.invokevirtual 100, 3) := by decide +kernel
theorem c145_66 : mc_cd 145 66 = some (.ifCond .eq 6, 3) := by decide +kernel
theorem c145_69 : mc_cd 145 69 = some (.iload 6, 2) := by decide +kernel
theorem c145_71 : mc_cd 145 71 = some (.ireturn, 1) := by decide +kernel
theorem c145_72 : mc_cd 145 72 = some (.iinc 4 1, 3) := by decide +kernel
theorem c145_75 : mc_cd 145 75 = some (.goto (-55), 3) := by decide +kernel
theorem c145_78 : mc_cd 145 78 = some (.iinc 3 1, 3) := by decide +kernel
theorem c145_81 : mc_cd 145 81 = some (.goto (-69), 3) := by decide +kernel
theorem c145_84 : mc_cd 145 84 = some (.iinc 2 1, 3) := by decide +kernel
theorem c145_87 : mc_cd 145 87 = some (.goto (-85), 3) := by decide +kernel
theorem c145_90 : mc_cd 145 90 = some (.bipush (-2), 2) := by decide +kernel
theorem c145_92 : mc_cd 145 92 = some (.ireturn, 1) := by decide +kernel
abbrev q_145 (r0 : Nat) (r1 : Nat) (T : wq_T) (H : wq_H) : Option Value → wq_T → wq_H → Prop := fun r T' H' => T = T' ∧ WT T H' ∧ wfr [(25, 2)] T H H' ∧ ∃ z : Int, some (vI z) = r ∧ ((-2147483648) ≤ z ∧ z ≤ 2147483647)
set_option maxHeartbeats 4000000 in
theorem s_145 {kt : Nat → Option mc_E} {T : wq_T} {H : wq_H} {r0 : Nat} {r1 : Nat} (hW : WT T H) (g0 : T.2.2.2 r0 = some 25) (g1 : T.2.2.2 r1 = some 27) : wpc kt 4 145 [.ref r0, .ref r1] T H (q_145 r0 r1 T H) := by
  refine wp_enter e145 (Nat.le_of_ble_eq_true rfl) rfl ?_
  have f0 : wfr [(25, 2)] T H H := wfr.rf
  show wp _ _ 145 0 [(0, .ref r0), (1, .ref r1)] [] _ H _
  refine wp_of e145 c145_0 (rw_iconst (pc' := 1) rfl ?_)
  refine wp_of e145 c145_1 (rw_istore_n (pc' := 2) (z := 2) (L' := [(2, vI 2), (0, .ref r0), (1, .ref r1)]) rfl rfl rfl ?_)
  have lp71798 : ∀ (n71799 : Nat) (v71801 : Int) (H71802 : wq_H), WT T H71802 → wfr [(25, 2)] T H H71802 → (2 ≤ v71801 ∧ v71801 ≤ 24) → (24 - v71801).toNat = n71799 → wp kt 3 145 2 [(2, vI v71801), (0, .ref r0), (1, .ref r1)] [] T H71802 (q_145 r0 r1 T H) := by
    intro n71799
    induction n71799 using Nat.strongRecOn with
    | _ n71799 ih71800 =>
      intro v71801 H71802 w71803 f71804 b71805 m71806
      have f71807 := f0.tr f71804 rfl
      refine wp_of e145 c145_2 (rw_iload_n (pc' := 3) (z := v71801) rfl rfl ?_)
      refine wp_of e145 c145_3 (rw_aload_n (pc' := 4) (v := .ref r1) rfl rfl rfl ?_)
      refine wp_of e145 c145_4 (xg_I (pc' := 7) lf_6_88 w71803 g1 sh_27 (by decide) (by decide) ty_27_16 rfl rfl (fun b71808 b71809 => ?_))
      refine wp_of e145 c145_7 (rw_icmp_ge (p1 := 90) (p2 := 10) (by decide) rfl ⟨by omega, by omega⟩ ⟨by omega, by omega⟩ (fun c71810 => ?_) (fun c71810 => ?_))
      · refine wp_of e145 c145_90 (rw_bipush (pc' := 92) (z := -2) rfl (by decide) ?_)
        exact wp_ireturn e145 c145_92 rfl ⟨rfl, w71803, f71807, -2, rfl, ⟨by omega, by omega⟩⟩
      · refine wp_of e145 c145_10 (rw_iconst (pc' := 11) rfl ?_)
        refine wp_of e145 c145_11 (rw_istore_n (pc' := 12) (z := 1) (L' := [(3, vI 1), (2, vI v71801), (0, .ref r0), (1, .ref r1)]) rfl rfl rfl ?_)
        have lp73510 : ∀ (n73511 : Nat) (v73513 : Int) (H73514 : wq_H), WT T H73514 → wfr [(25, 2)] T H71802 H73514 → (1 ≤ v73513 ∧ v73513 ≤ 23) → (23 - v73513).toNat = n73511 → wp kt 3 145 12 [(3, vI v73513), (2, vI v71801), (0, .ref r0), (1, .ref r1)] [] T H73514 (q_145 r0 r1 T H) := by
          intro n73511
          induction n73511 using Nat.strongRecOn with
          | _ n73511 ih73512 =>
            intro v73513 H73514 w73515 f73516 b73517 m73518
            have f73519 := f71807.tr f73516 rfl
            have f73520 := f71804.tr f73516 rfl
            refine wp_of e145 c145_12 (rw_iload_n (pc' := 13) (z := v73513) rfl rfl ?_)
            refine wp_of e145 c145_13 (rw_iload_n (pc' := 14) (z := v71801) rfl rfl ?_)
            refine wp_of e145 c145_14 (rw_icmp_ge (p1 := 84) (p2 := 17) (by decide) rfl ⟨by omega, by omega⟩ ⟨by omega, by omega⟩ (fun c73521 => ?_) (fun c73521 => ?_))
            · refine wp_of e145 c145_84 (rw_iinc (pc' := 87) (z := v71801) (L' := [(2, vI (v71801 + 1)), (3, vI v73513), (0, .ref r0), (1, .ref r1)]) rfl rfl rfl rfl ?_)
              refine wp_of e145 c145_87 (rw_goto (p1 := 2) (by decide) ?_)
              exact wp_lc (ks := [2, 3, 0, 1]) (wl_c rfl (wl_c rfl (wl_c rfl wl_n))) rfl (by decide) (ih71800 _ (by omega) (v71801 + 1) H73514 w73515 f73520 ⟨by omega, by omega⟩ rfl)
            · refine wp_of e145 c145_17 (rw_iconst (pc' := 18) rfl ?_)
              refine wp_of e145 c145_18 (rw_istore (pc' := 20) (z := 0) (L' := [(4, vI 0), (3, vI v73513), (2, vI v71801), (0, .ref r0), (1, .ref r1)]) rfl rfl rfl ?_)
              have lp73794 : ∀ (n73795 : Nat) (v73797 : Int) (H73798 : wq_H), WT T H73798 → wfr [(25, 2)] T H73514 H73798 → (0 ≤ v73797 ∧ v73797 ≤ 22) → (22 - v73797).toNat = n73795 → wp kt 3 145 20 [(4, vI v73797), (3, vI v73513), (2, vI v71801), (0, .ref r0), (1, .ref r1)] [] T H73798 (q_145 r0 r1 T H) := by
                intro n73795
                induction n73795 using Nat.strongRecOn with
                | _ n73795 ih73796 =>
                  intro v73797 H73798 w73799 f73800 b73801 m73802
                  have f73803 := f73519.tr f73800 rfl
                  have f73804 := f73520.tr f73800 rfl
                  have f73805 := f73516.tr f73800 rfl
                  refine wp_of e145 c145_20 (rw_iload (pc' := 22) (z := v73797) rfl rfl ?_)
                  refine wp_of e145 c145_22 (rw_iload_n (pc' := 23) (z := v73513) rfl rfl ?_)
                  refine wp_of e145 c145_23 (rw_icmp_ge (p1 := 78) (p2 := 26) (by decide) rfl ⟨by omega, by omega⟩ ⟨by omega, by omega⟩ (fun c73806 => ?_) (fun c73806 => ?_))
                  · refine wp_of e145 c145_78 (rw_iinc (pc' := 81) (z := v73513) (L' := [(3, vI (v73513 + 1)), (4, vI v73797), (2, vI v71801), (0, .ref r0), (1, .ref r1)]) rfl rfl rfl rfl ?_)
                    refine wp_of e145 c145_81 (rw_goto (p1 := 12) (by decide) ?_)
                    exact wp_lc (ks := [3, 4, 2, 0, 1]) (wl_c rfl (wl_c rfl (wl_c rfl (wl_c rfl wl_n)))) rfl (by decide) (ih73512 _ (by omega) (v73513 + 1) H73798 w73799 f73805 ⟨by omega, by omega⟩ rfl)
                  · refine wp_of e145 c145_26 (rw_iconst (pc' := 27) rfl ?_)
                    refine wp_of e145 c145_27 (rw_aload_n (pc' := 28) (v := .ref r1) rfl rfl rfl ?_)
                    refine wp_of e145 c145_28 (xg_R (pc' := 31) lf_6_91 w73799 g1 sh_27 (by decide) (by decide) ty_27_2 rfl rfl (fun r73807 q73808 g73809 => ?_))
                    refine wp_of e145 c145_31 (rw_iload_n (pc' := 32) (z := v71801) rfl rfl ?_)
                    refine wp_of e145 c145_32 (xa_I (so := 0) (pc' := 33) w73799 g73809 sh_30 (by decide) (ty_30 _) (by omega) (by omega) rfl (fun b73810 b73811 => ?_))
                    refine wp_of e145 c145_33 (rw_ishl (pc' := 34) rfl ?_)
                    obtain ⟨v73812, e73813⟩ : ∃ x : Int, x = wq_shl 1 (H73798 r73807 (v71801.toNat)) := ⟨_, rfl⟩
                    rw [← e73813]
                    have b73814 : 1 ≤ v73812 ∧ v73812 ≤ 8388608 := by
                      rw [e73813]
                      exact wq_shl1_24 ⟨by omega, by omega⟩
                    refine wp_of e145 c145_34 (rw_iconst (pc' := 35) rfl ?_)
                    refine wp_of e145 c145_35 (rw_aload_n (pc' := 36) (v := .ref r1) rfl rfl rfl ?_)
                    refine wp_of e145 c145_36 (xg_K (pc' := 39) lf_6_91 w73799 g1 sh_27 (by decide) (by decide) rfl q73808 rfl ?_)
                    refine wp_of e145 c145_39 (rw_iload_n (pc' := 40) (z := v73513) rfl rfl ?_)
                    refine wp_of e145 c145_40 (xa_I (so := 0) (pc' := 41) w73799 g73809 sh_30 (by decide) (ty_30 _) (by omega) (by omega) rfl (fun b73815 b73816 => ?_))
                    refine wp_of e145 c145_41 (rw_ishl (pc' := 42) rfl ?_)
                    obtain ⟨v73817, e73818⟩ : ∃ x : Int, x = wq_shl 1 (H73798 r73807 (v73513.toNat)) := ⟨_, rfl⟩
                    rw [← e73818]
                    have b73819 : 1 ≤ v73817 ∧ v73817 ≤ 8388608 := by
                      rw [e73818]
                      exact wq_shl1_24 ⟨by omega, by omega⟩
                    refine wp_of e145 c145_42 (rw_ior (pc' := 43) rfl ?_)
                    obtain ⟨v73820, e73821⟩ : ∃ x : Int, x = wq_or v73812 v73817 := ⟨_, rfl⟩
                    rw [← e73821]
                    have b73822 : 0 ≤ v73820 ∧ v73820 ≤ 16777215 := by
                      rw [e73821]
                      exact wq_or_24 ⟨by omega, by omega⟩ ⟨by omega, by omega⟩
                    refine wp_of e145 c145_43 (rw_istore (pc' := 45) (z := v73820) (L' := [(5, vI v73820), (4, vI v73797), (3, vI v73513), (2, vI v71801), (0, .ref r0), (1, .ref r1)]) rfl rfl rfl ?_)
                    refine wp_of e145 c145_45 (rw_iload (pc' := 47) (z := v73820) rfl rfl ?_)
                    refine wp_of e145 c145_47 (rw_iconst (pc' := 48) rfl ?_)
                    refine wp_of e145 c145_48 (rw_aload_n (pc' := 49) (v := .ref r1) rfl rfl rfl ?_)
                    refine wp_of e145 c145_49 (xg_K (pc' := 52) lf_6_91 w73799 g1 sh_27 (by decide) (by decide) rfl q73808 rfl ?_)
                    refine wp_of e145 c145_52 (rw_iload (pc' := 54) (z := v73797) rfl rfl ?_)
                    refine wp_of e145 c145_54 (xa_I (so := 0) (pc' := 55) w73799 g73809 sh_30 (by decide) (ty_30 _) (by omega) (by omega) rfl (fun b73823 b73824 => ?_))
                    refine wp_of e145 c145_55 (rw_ishl (pc' := 56) rfl ?_)
                    obtain ⟨v73825, e73826⟩ : ∃ x : Int, x = wq_shl 1 (H73798 r73807 (v73797.toNat)) := ⟨_, rfl⟩
                    rw [← e73826]
                    have b73827 : 1 ≤ v73825 ∧ v73825 ≤ 8388608 := by
                      rw [e73826]
                      exact wq_shl1_24 ⟨by omega, by omega⟩
                    refine wp_of e145 c145_56 (rw_ior (pc' := 57) rfl ?_)
                    obtain ⟨v73828, e73829⟩ : ∃ x : Int, x = wq_or v73820 v73825 := ⟨_, rfl⟩
                    rw [← e73829]
                    have b73830 : 0 ≤ v73828 ∧ v73828 ≤ 16777215 := by
                      rw [e73829]
                      exact wq_or_24 ⟨by omega, by omega⟩ ⟨by omega, by omega⟩
                    refine wp_of e145 c145_57 (rw_istore (pc' := 59) (z := v73828) (L' := [(6, vI v73828), (5, vI v73820), (4, vI v73797), (3, vI v73513), (2, vI v71801), (0, .ref r0), (1, .ref r1)]) rfl rfl rfl ?_)
                    refine wp_of e145 c145_59 (rw_aload_n (pc' := 60) (v := .ref r0) rfl rfl rfl ?_)
                    refine wp_of e145 c145_60 (rw_aload_n (pc' := 61) (v := .ref r1) rfl rfl rfl ?_)
                    refine wp_of e145 c145_61 (rw_iload (pc' := 63) (z := v73828) rfl rfl ?_)
                    refine wp_of e145 c145_63 (xc_V (pc' := 66) (r := r0) (as := [.ref r1, vI v73828]) (st := []) (lm_6_100) rfl rfl (Nat.le_of_ble_eq_true rfl) w73799 g0 sh_25 (by decide) rfl (by decide) (s_142 w73799 g0 g1 ⟨by omega, by omega⟩) (fun R73831 T73832 H73833 p73834 => ?_))
                    obtain ⟨e73835, w73837, f73838, z73839, e73836, b73840⟩ := p73834
                    subst e73835
                    subst e73836
                    have f73841 := f73803.tr f73838 rfl
                    have f73842 := f73804.tr f73838 rfl
                    have f73843 := f73805.tr f73838 rfl
                    have f73844 := f73800.tr f73838 rfl
                    show wp _ _ 145 66 [(6, vI v73828), (5, vI v73820), (4, vI v73797), (3, vI v73513), (2, vI v71801), (0, .ref r0), (1, .ref r1)] [vI z73839] _ H73833 _
                    refine wp_of e145 c145_66 (rw_if_eq (p1 := 72) (p2 := 69) (by decide) rfl ⟨by omega, by omega⟩ (fun c73845 => ?_) (fun c73845 => ?_))
                    · refine wp_of e145 c145_72 (rw_iinc (pc' := 75) (z := v73797) (L' := [(4, vI (v73797 + 1)), (6, vI v73828), (5, vI v73820), (3, vI v73513), (2, vI v71801), (0, .ref r0), (1, .ref r1)]) rfl rfl rfl rfl ?_)
                      refine wp_of e145 c145_75 (rw_goto (p1 := 20) (by decide) ?_)
                      exact wp_lc (ks := [4, 6, 5, 3, 2, 0, 1]) (wl_c rfl (wl_c rfl (wl_c rfl (wl_c rfl (wl_c rfl wl_n))))) rfl (by decide) (ih73796 _ (by omega) (v73797 + 1) H73833 w73837 f73844 ⟨by omega, by omega⟩ rfl)
                    · refine wp_of e145 c145_69 (rw_iload (pc' := 71) (z := v73828) rfl rfl ?_)
                      exact wp_ireturn e145 c145_71 rfl ⟨rfl, w73837, f73841, v73828, rfl, ⟨by omega, by omega⟩⟩
              exact wp_lc (ks := [4, 3, 2, 0, 1]) (wl_c rfl (wl_c rfl (wl_c rfl (wl_c rfl (wl_c rfl wl_n))))) rfl (by decide) (lp73794 _ 0 H73514 w73515 wfr.rf ⟨by omega, by omega⟩ rfl)
        exact wp_lc (ks := [3, 2, 0, 1]) (wl_c rfl (wl_c rfl (wl_c rfl (wl_c rfl wl_n)))) rfl (by decide) (lp73510 _ 1 H71802 w71803 wfr.rf ⟨by omega, by omega⟩ rfl)
  exact wp_lc (ks := [2, 0, 1]) (wl_c rfl (wl_c rfl (wl_c rfl wl_n))) rfl (by decide) (lp71798 _ 2 H hW wfr.rf ⟨by omega, by omega⟩ rfl)
/-! StrikeAwake$Grounds.fewestHours(LStrikeAwake$Parish;LStrikeAwake$Walk;)I -/
theorem e138 : wq_en 138 = some (6, 4, false, some FieldType.int) := rfl
theorem c138_0 : mc_cd 138 0 = some (.aload_n 0, 1) := by decide +kernel
theorem c138_1 : mc_cd 138 1 = some (.aload_n 1, 1) := by decide +kernel
theorem c138_2 : mc_cd 138 2 = some (.aload_n 2, 1) := by decide +kernel
theorem c138_3 : mc_cd 138 3 = some (.invokevirtual 64, 3) := by decide +kernel
theorem c138_6 : mc_cd 138 6 = some (.aload_n 0, 1) := by decide +kernel
theorem c138_7 : mc_cd 138 7 = some (.getfield 68, 3) := by decide +kernel
theorem c138_10 : mc_cd 138 10 = some (.ifCond .ne 5, 3) := by decide +kernel
theorem c138_13 : mc_cd 138 13 = some (.iconst 0, 1) := by decide +kernel
theorem c138_14 : mc_cd 138 14 = some (.ireturn, 1) := by decide +kernel
theorem c138_15 : mc_cd 138 15 = some (.aload_n 0, 1) := by decide +kernel
theorem c138_16 : mc_cd 138 16 = some (.aload_n 1, 1) := by decide +kernel
theorem c138_17 : mc_cd 138 17 = some (.invokevirtual 72, 3) := by decide +kernel
theorem c138_20 : mc_cd 138 20 = some (.istore_n 3, 1) := by decide +kernel
theorem c138_21 : mc_cd 138 21 = some (.iload_n 3, 1) := by decide +kernel
theorem c138_22 : mc_cd 138 22 = some (.bipush (-2), 2) := by decide +kernel
theorem c138_24 : mc_cd 138 24 = some (.if_icmp .ne 9, 3) := by decide +kernel
theorem c138_27 : mc_cd 138 27 = some (.aload_n 0, 1) := by decide +kernel
theorem c138_28 : mc_cd 138 28 = some (.aload_n 1, 1) := by decide +kernel
theorem c138_29 : mc_cd 138 29 = some (.invokevirtual 75, 3) := by decide +kernel
theorem c138_32 : mc_cd 138 32 = some (.istore_n 3, 1) := by decide +kernel
theorem c138_33 : mc_cd 138 33 = some (.iload_n 3, 1) := by decide +kernel
theorem c138_34 : mc_cd 138 34 = some (.bipush (-2), 2) := by decide +kernel
theorem c138_36 : mc_cd 138 36 = some (.if_icmp .ne 11, 3) := by decide +kernel
theorem c138_39 : mc_cd 138 39 = some (.aload_n 0, 1) := by decide +kernel
theorem c138_40 : mc_cd 138 40 = some (.aload_n 1, 1) := by decide +kernel
theorem c138_41 : mc_cd 138 41 = some (.invokevirtual 78, 3) := by decide +kernel
theorem c138_44 : mc_cd 138 44 = some (.goto 4, 3) := by decide +kernel
theorem c138_47 : mc_cd 138 47 = some (.iload_n 3, 1) := by decide +kernel
theorem c138_48 : mc_cd 138 48 = some (.ireturn, 1) := by decide +kernel
abbrev q_138 (r0 : Nat) (r1 : Nat) (r2 : Nat) (T : wq_T) (H : wq_H) : Option Value → wq_T → wq_H → Prop := fun r T' H' => T = T' ∧ WT T H' ∧ wfr [(25, 1), (25, 2), (6, 5), (8, 999), (10, 999), (26, 999), (9, 999), (7, 999), (11, 999)] T H H' ∧ ∃ z : Int, some (vI z) = r ∧ ((-2147483648) ≤ z ∧ z ≤ 2147483647)
set_option maxHeartbeats 4000000 in
theorem s_138 {kt : Nat → Option mc_E} {T : wq_T} {H : wq_H} {r0 : Nat} {r1 : Nat} {r2 : Nat} (hW : WT T H) (g0 : T.2.2.2 r0 = some 25) (g1 : T.2.2.2 r1 = some 27) (g2 : T.2.2.2 r2 = some 6) : wpc kt 5 138 [.ref r0, .ref r1, .ref r2] T H (q_138 r0 r1 r2 T H) := by
  refine wp_enter e138 (Nat.le_of_ble_eq_true rfl) rfl ?_
  have f0 : wfr [(25, 1), (25, 2), (6, 5), (8, 999), (10, 999), (26, 999), (9, 999), (7, 999), (11, 999)] T H H := wfr.rf
  show wp _ _ 138 0 [(0, .ref r0), (1, .ref r1), (2, .ref r2)] [] _ H _
  refine wp_of e138 c138_0 (rw_aload_n (pc' := 1) (v := .ref r0) rfl rfl rfl ?_)
  refine wp_of e138 c138_1 (rw_aload_n (pc' := 2) (v := .ref r1) rfl rfl rfl ?_)
  refine wp_of e138 c138_2 (rw_aload_n (pc' := 3) (v := .ref r2) rfl rfl rfl ?_)
  refine wp_of e138 c138_3 (xc_V (pc' := 6) (r := r0) (as := [.ref r1, .ref r2]) (st := []) (lm_6_64) rfl rfl (Nat.le_of_ble_eq_true rfl) hW g0 sh_25 (by decide) rfl (by decide) (s_139 hW g0 g1 g2) (fun R73905 T73906 H73907 p73908 => ?_))
  obtain ⟨e73909, w73911, f73912, e73910⟩ := p73908
  subst e73909
  subst e73910
  have f73913 := f0.tr f73912 rfl
  show wp _ _ 138 6 [(0, .ref r0), (1, .ref r1), (2, .ref r2)] [] _ H73907 _
  refine wp_of e138 c138_6 (rw_aload_n (pc' := 7) (v := .ref r0) rfl rfl rfl ?_)
  refine wp_of e138 c138_7 (xg_I (pc' := 10) lf_6_68 w73911 g0 sh_25 (by decide) (by decide) ty_25_1 rfl rfl (fun b73914 b73915 => ?_))
  refine wp_of e138 c138_10 (rw_if_ne (p1 := 15) (p2 := 13) (by decide) rfl ⟨by omega, by omega⟩ (fun c73916 => ?_) (fun c73916 => ?_))
  · refine wp_of e138 c138_15 (rw_aload_n (pc' := 16) (v := .ref r0) rfl rfl rfl ?_)
    refine wp_of e138 c138_16 (rw_aload_n (pc' := 17) (v := .ref r1) rfl rfl rfl ?_)
    refine wp_of e138 c138_17 (xc_V (pc' := 20) (r := r0) (as := [.ref r1]) (st := []) (lm_6_72) rfl rfl (Nat.le_of_ble_eq_true rfl) w73911 g0 sh_25 (by decide) rfl (by decide) (s_141 w73911 g0 g1) (fun R73917 T73918 H73919 p73920 => ?_))
    obtain ⟨e73921, w73923, f73924, z73925, e73922, b73926⟩ := p73920
    subst e73921
    subst e73922
    have f73927 := f73913.tr f73924 rfl
    show wp _ _ 138 20 [(0, .ref r0), (1, .ref r1), (2, .ref r2)] [vI z73925] _ H73919 _
    refine wp_of e138 c138_20 (rw_istore_n (pc' := 21) (z := z73925) (L' := [(3, vI z73925), (0, .ref r0), (1, .ref r1), (2, .ref r2)]) rfl rfl rfl ?_)
    refine wp_of e138 c138_21 (rw_iload_n (pc' := 22) (z := z73925) rfl rfl ?_)
    refine wp_of e138 c138_22 (rw_bipush (pc' := 24) (z := -2) rfl (by decide) ?_)
    refine wp_of e138 c138_24 (rw_icmp_ne (p1 := 33) (p2 := 27) (by decide) rfl ⟨by omega, by omega⟩ ⟨by omega, by omega⟩ (fun c73928 => ?_) (fun c73928 => ?_))
    · refine wp_of e138 c138_33 (rw_iload_n (pc' := 34) (z := z73925) rfl rfl ?_)
      refine wp_of e138 c138_34 (rw_bipush (pc' := 36) (z := -2) rfl (by decide) ?_)
      refine wp_of e138 c138_36 (rw_icmp_ne (p1 := 47) (p2 := 39) (by decide) rfl ⟨by omega, by omega⟩ ⟨by omega, by omega⟩ (fun c73929 => ?_) (fun c73929 => ?_))
      · refine wp_of e138 c138_47 (rw_iload_n (pc' := 48) (z := z73925) rfl rfl ?_)
        exact wp_ireturn e138 c138_48 rfl ⟨rfl, w73923, f73927, z73925, rfl, ⟨by omega, by omega⟩⟩
      · refine wp_of e138 c138_39 (rw_aload_n (pc' := 40) (v := .ref r0) rfl rfl rfl ?_)
        refine wp_of e138 c138_40 (rw_aload_n (pc' := 41) (v := .ref r1) rfl rfl rfl ?_)
        refine wp_of e138 c138_41 (xc_V (pc' := 44) (r := r0) (as := [.ref r1]) (st := []) (lm_6_78) rfl rfl (Nat.le_of_ble_eq_true rfl) w73923 g0 sh_25 (by decide) rfl (by decide) (s_145 w73923 g0 g1) (fun R73930 T73931 H73932 p73933 => ?_))
        obtain ⟨e73934, w73936, f73937, z73938, e73935, b73939⟩ := p73933
        subst e73934
        subst e73935
        have f73940 := f73927.tr f73937 rfl
        show wp _ _ 138 44 [(3, vI z73925), (0, .ref r0), (1, .ref r1), (2, .ref r2)] [vI z73938] _ H73932 _
        refine wp_of e138 c138_44 (rw_goto (p1 := 48) (by decide) ?_)
        exact wp_ireturn e138 c138_48 rfl ⟨rfl, w73936, f73940, z73938, rfl, ⟨by omega, by omega⟩⟩
    · refine wp_of e138 c138_27 (rw_aload_n (pc' := 28) (v := .ref r0) rfl rfl rfl ?_)
      refine wp_of e138 c138_28 (rw_aload_n (pc' := 29) (v := .ref r1) rfl rfl rfl ?_)
      refine wp_of e138 c138_29 (xc_V (pc' := 32) (r := r0) (as := [.ref r1]) (st := []) (lm_6_75) rfl rfl (Nat.le_of_ble_eq_true rfl) w73923 g0 sh_25 (by decide) rfl (by decide) (s_144 w73923 g0 g1) (fun R73941 T73942 H73943 p73944 => ?_))
      obtain ⟨e73945, w73947, f73948, z73949, e73946, b73950⟩ := p73944
      subst e73945
      subst e73946
      have f73951 := f73927.tr f73948 rfl
      show wp _ _ 138 32 [(3, vI z73925), (0, .ref r0), (1, .ref r1), (2, .ref r2)] [vI z73949] _ H73943 _
      refine wp_of e138 c138_32 (rw_istore_n (pc' := 33) (z := z73949) (L' := [(3, vI z73949), (0, .ref r0), (1, .ref r1), (2, .ref r2)]) rfl rfl rfl ?_)
      refine wp_of e138 c138_33 (rw_iload_n (pc' := 34) (z := z73949) rfl rfl ?_)
      refine wp_of e138 c138_34 (rw_bipush (pc' := 36) (z := -2) rfl (by decide) ?_)
      refine wp_of e138 c138_36 (rw_icmp_ne (p1 := 47) (p2 := 39) (by decide) rfl ⟨by omega, by omega⟩ ⟨by omega, by omega⟩ (fun c73952 => ?_) (fun c73952 => ?_))
      · refine wp_of e138 c138_47 (rw_iload_n (pc' := 48) (z := z73949) rfl rfl ?_)
        exact wp_ireturn e138 c138_48 rfl ⟨rfl, w73947, f73951, z73949, rfl, ⟨by omega, by omega⟩⟩
      · refine wp_of e138 c138_39 (rw_aload_n (pc' := 40) (v := .ref r0) rfl rfl rfl ?_)
        refine wp_of e138 c138_40 (rw_aload_n (pc' := 41) (v := .ref r1) rfl rfl rfl ?_)
        refine wp_of e138 c138_41 (xc_V (pc' := 44) (r := r0) (as := [.ref r1]) (st := []) (lm_6_78) rfl rfl (Nat.le_of_ble_eq_true rfl) w73947 g0 sh_25 (by decide) rfl (by decide) (s_145 w73947 g0 g1) (fun R73953 T73954 H73955 p73956 => ?_))
        obtain ⟨e73957, w73959, f73960, z73961, e73958, b73962⟩ := p73956
        subst e73957
        subst e73958
        have f73963 := f73951.tr f73960 rfl
        show wp _ _ 138 44 [(3, vI z73949), (0, .ref r0), (1, .ref r1), (2, .ref r2)] [vI z73961] _ H73955 _
        refine wp_of e138 c138_44 (rw_goto (p1 := 48) (by decide) ?_)
        exact wp_ireturn e138 c138_48 rfl ⟨rfl, w73959, f73963, z73961, rfl, ⟨by omega, by omega⟩⟩
  · refine wp_of e138 c138_13 (rw_iconst (pc' := 14) rfl ?_)
    exact wp_ireturn e138 c138_14 rfl ⟨rfl, w73911, f73913, 0, rfl, ⟨by omega, by omega⟩⟩
