/-! THE LAW, GONE ON WITH (own work) -/
set_option maxHeartbeats 4000000 in
theorem wl_c40 {kt : Nat → Option mc_E} {CB SB : Nat} {X : mc_S → Prop} {T : wq_T} {H : wq_H} {Len x m o : Nat} {i : Int} (hX : wlX kt CB SB X) (hb : T.2.1 ≤ CB ∧ T.2.2.1 ≤ SB) (hI : wlJ Len x m o T H) (hL : Len ≤ 3072) (hi : 0 ≤ i ∧ i + 6 ≤ Len) (hb2 : T.2.1 + 20 ≤ CB ∧ T.2.2.1 + 500 ≤ SB)  (next : ∀ T' H', wlJ Len x m o T' H' → T'.2.1 ≤ T.2.1 + 20 → T'.2.2.1 ≤ T.2.2.1 + 500 → WL kt CB SB X 1653 (wlL i x m o) [] T' H') : WL kt CB SB X 1404 (wlL i x m o) [] T H := by
  obtain ⟨⟨hW, g0, gx, gm, go, hK, hr⟩, hXI, hY1, hY2⟩ := hI
  refine wl_of hX hb cL_1404 (rw_aload_n (pc' := 1405) (v := .ref x) rfl rfl rfl ?_)
  refine wl_of hX hb cL_1405 (rw_aload_n (pc' := 1406) (v := .ref 0) rfl rfl rfl ?_)
  refine wl_of hX hb cL_1406 (rw_iload (pc' := 1408) (z := i) rfl rfl ?_)
  refine wl_of hX hb cL_1408 (rw_iconst (pc' := 1409) rfl ?_)
  refine wl_of hX hb cL_1409 (rw_iadd (pc' := 1410) rfl ?_)
  refine wl_of hX hb cL_1410 (xa_I (so := 0) (pc' := 1411) (a := 0) hW g0 (wsh_s _) (by omega) (wty_s _ _) (by omega) (by omega) rfl (fun b5793 b5794 => ?_))
  obtain ⟨B, tc, tm, cu, dr, C8, e8, d8, n8, g8, ce8, e0, gtc, htc, em, gtm, htm, ecu, gcu, edr, gdr, hcu, hdr, hdec, hded, hsp, hC1, hC2, hcu8, hrb8, hcg8, hmn8, hE, hZ, hn8, hXA, hV8, hSG, ece8, gce8, hcen8, hhdr8, hknn8, -⟩ := hXI
  have hN3 := RB_n3 hrb8
  have hE13 : ∀ h : Nat, h < 24 → 0 ≤ e8 13 h ∧ e8 13 h ≤ 100 := fun k hk => by
    obtain ⟨s, h1, h2, h3⟩ := hcu8.1.2.2.1
    exact ⟨(h3 k hk).1, (h3 k hk).2.1⟩
  have hXW := hXA.1
  have hXN := hXA.2
  have hE0 : e8 0 3 = d8 0 3 ∧ e8 0 0 = d8 0 0 := by
    have h := hE 0 (by decide)
    exact ⟨congrFun h 3, congrFun h 0⟩
  have u5795 := CU_k hcu8
  have h5796 : CY T H cu (d8 0 3) g8 (H cu 17) := ⟨hcg8, rfl⟩
  have h5797 : RY T H m (d8 0 3) g8 (H m 32) := ⟨hmn8, rfl⟩
  obtain ⟨t9, ht9⟩ : ∃ t : Int, t = H x 9 := ⟨_, rfl⟩
  obtain ⟨y9, hy9⟩ : ∃ y : Int, y = H 0 ((i + 1).toNat) := ⟨_, rfl⟩
  refine wl_of hX hb cL_1411 (xc_V (pc' := 1414) (r := x) (as := [vI (H 0 ((i + 1).toNat))]) (st := []) (lm_11_187) rfl rfl (Nat.le_of_ble_eq_true rfl) hW gx sh_1 (by decide) rfl (by decide) (u_154 (e := e8) (d := d8) (n := n8) (y := ((H 0 ((i + 1).toNat)))) hW gx ⟨by omega, by omega⟩ ecu gcu ece8 gce8 (by omega) (by omega) (by omega) hcu8 hcen8) (fun R5798 T5799 H5800 p5801 => ?_))
  obtain ⟨e5802, w5804, f5805, z5806, e5803, b5807, p5808⟩ := p5801
  subst e5802
  subst e5803
  rcases p5808 with ⟨a5809, a5810, a5811, a5812, a5813⟩ | ⟨a5814, a5815, a5816, a5817⟩
  · show WL _ _ _ _ 1414 [(4, vI i), (3, .ref o), (2, .ref m), (1, .ref x), (0, .ref 0)] [vI z5806] _ H5800
    have u5818 := CU_k a5813
    refine wl_of hX hb cL_1414 (rw_pop (pc' := 1415) rfl rfl ?_)
    refine wl_of hX hb cL_1415 (rw_aload_n (pc' := 1416) (v := .ref m) rfl rfl rfl ?_)
    refine wl_of hX hb cL_1416 (rw_aload_n (pc' := 1417) (v := .ref 0) rfl rfl rfl ?_)
    refine wl_of hX hb cL_1417 (rw_iload (pc' := 1419) (z := i) rfl rfl ?_)
    refine wl_of hX hb cL_1419 (rw_iconst (pc' := 1420) rfl ?_)
    refine wl_of hX hb cL_1420 (rw_iadd (pc' := 1421) rfl ?_)
    have k5821 : H5800 0 ((i + 1).toNat) = H 0 ((i + 1).toNat) := (f5805 0 ((i + 1).toNat) _ g0 (wmem_s rfl))
    refine wl_of hX hb cL_1421 (xa_I (so := 0) (pc' := 1422) (a := 0) w5804 g0 (wsh_s _) (by omega) (wty_s _ _) (by omega) (by omega) rfl (fun b5819 b5820 => ?_))
    have k5822 : wKI H5800 m = wKI H m := (wKI_fr hW gm f5805 rfl)
    have k5823 : H5800 x 9 = H x 9 := (f5805 x 9 _ gx rfl)
    have k5824 : H5800 m 6 = H m 6 := (f5805 m 6 _ gm rfl)
    have k5825 : H5800 x 11 = H x 11 := (f5805 x 11 _ gx rfl)
    have k5826 : H5800 m 13 = H m 13 := (f5805 m 13 _ gm rfl)
    have k5827 : H5800 x 8 = H x 8 := (f5805 x 8 _ gx rfl)
    have k5828 : H5800 m 3 = H m 3 := (f5805 m 3 _ gm rfl)
    rw [show H5800 0 ((i + 1).toNat) = H 0 ((i + 1).toNat) by omega]
    have h5829 : RB T H5800 m e8 d8 := (RB_fr hW gm f5805 rfl hrb8)
    have h5830 : KNN T H5800 m e8 d8 := (KNN_fr hW gm f5805 rfl hknn8)
    refine wl_of hX hb cL_1422 (xc_V (pc' := 1425) (r := m) (as := [vI (H 0 ((i + 1).toNat))]) (st := []) (lm_11_191) rfl rfl (Nat.le_of_ble_eq_true rfl) w5804 gm sh_42 (by decide) rfl (by decide) (u_286 (e := e8) (d := d8) (y := ((H 0 ((i + 1).toNat)))) w5804 gm ⟨by omega, by omega⟩ (by omega) (by omega) h5829 h5830) (fun R5831 T5832 H5833 p5834 => ?_))
    obtain ⟨e5835, w5837, f5838, z5839, e5836, b5840, p5841⟩ := p5834
    subst e5835
    subst e5836
    rcases p5841 with ⟨a5842, a5843, a5844, a5845, a5846, a5847⟩ | ⟨a5848, a5849, a5850, a5851, a5852⟩
    · show WL _ _ _ _ 1425 [(4, vI i), (3, .ref o), (2, .ref m), (1, .ref x), (0, .ref 0)] [vI z5839] _ H5833
      refine wl_of hX hb cL_1425 (rw_pop (pc' := 1426) rfl rfl ?_)
      refine wl_of hX hb cL_1426 (rw_goto (p1 := 1653) (by decide) ?_)
      have k5853 : H5833 x 9 = H5800 x 9 := (f5838 x 9 _ gx rfl)
      have k5854 : H5833 m 6 = H5800 m 6 := (f5838 m 6 _ gm rfl)
      have k5855 : H5833 x 11 = H5800 x 11 := (f5838 x 11 _ gx rfl)
      have k5856 : H5833 m 13 = H5800 m 13 := (f5838 m 13 _ gm rfl)
      have k5857 : H5833 x 8 = H5800 x 8 := (f5838 x 8 _ gx rfl)
      have k5858 : H5833 m 3 = H5800 m 3 := (f5838 m 3 _ gm rfl)
      have k5859 : H5833 x 0 = H x 0 := ((f5838 x 0 _ gx rfl).trans (f5805 x 0 _ gx rfl))
      have q5860 : H5833 x 0 = (tc : Int) := k5859.trans e0
      have k5861 : H5833 m 5 = H m 5 := ((f5838 m 5 _ gm rfl).trans (f5805 m 5 _ gm rfl))
      have q5862 : H5833 m 5 = (tm : Int) := k5861.trans em
      have k5863 : H5833 x 6 = H x 6 := ((f5838 x 6 _ gx rfl).trans (f5805 x 6 _ gx rfl))
      have q5864 : H5833 x 6 = (cu : Int) := k5863.trans ecu
      have k5865 : H5833 x 7 = H x 7 := ((f5838 x 7 _ gx rfl).trans (f5805 x 7 _ gx rfl))
      have q5866 : H5833 x 7 = (dr : Int) := k5865.trans edr
      have k5867 : H5833 ce8 9 = H5800 ce8 9 := (f5838 ce8 9 _ gce8 rfl)
      have h5868 : TP T H5833 tc B := (TP_fr w5804 gtc f5838 rfl (TP_fr hW gtc f5805 rfl htc))
      have h5869 : TM T H5833 tm B := (TM_fr w5804 gtm f5838 rfl (TM_fr hW gtm f5805 rfl htm))
      have h5870 : DD T H5833 cu  := (DD_fr w5804 gcu f5838 rfl (DD_fr hW gcu f5805 rfl hcu))
      have h5871 : DD T H5833 dr  := (DD_fr w5804 gdr f5838 rfl (DD_fr hW gdr f5805 rfl hdr))
      have h5872 : DE T H5833 cu  := (DE_fr w5804 gcu f5838 rfl (DE_fr hW gcu f5805 rfl hdec))
      have h5873 : DE T H5833 dr  := (DE_fr w5804 gdr f5838 rfl (DE_fr hW gdr f5805 rfl hded))
      have h5874 : SP T H5833 x C8 := (SP_fr w5804 gx f5838 rfl (SP_fr hW gx f5805 rfl hsp))
      have h5875 : CU T H5833 cu (wq_u e8 13 (((H 0 ((i + 1).toNat)))).toNat 0) d8 n8 := (CU_fr w5804 gcu f5838 rfl a5813)
      have h5876 : CY T H5833 cu (d8 0 3) g8 (H cu 17) := (CY_fr w5804 gcu f5838 rfl (CY_fr hW gcu f5805 rfl h5796))
      have k5877 : H5833 x 3 = H x 3 := ((f5838 x 3 _ gx rfl).trans (f5805 x 3 _ gx rfl))
      have q5878 : H5833 x 3 = (ce8 : Int) := k5877.trans ece8
      have h5879 : HDR T H5833 ce8  := (HDR_fr w5804 gce8 f5838 rfl (HDR_fr hW gce8 f5805 rfl hhdr8))
      have h5880 : RY T H5833 m (d8 0 3) g8 (H m 32) := (RY_fr w5804 gm f5838 rfl (RY_fr hW gm f5805 rfl h5797))
      exact WL.loc hX (by simp) (next T H5833 ⟨⟨w5837, g0, gx, gm, go, by omega, by omega⟩, ⟨_, tc, tm, cu, dr, _, _, _, _, _, ce8, q5860, gtc, h5868, q5862, gtm, h5869, q5864, gcu, q5866, gdr, h5870, h5871, h5872, h5873, h5874, hC1, hC2, h5875, a5847, (h5876).1, (h5880).1, (fun i hi => (wq_u_row hi).trans (hE i hi)), (fun h h1 h2 => by rw [wq_u_e2 (fun c => by omega)]; exact hZ h h1 h2), (by omega), (by assumption), (by omega), (by first | assumption | exact SG_0), q5878, gce8, (by first | assumption | exact CEN_new (by omega)), h5879, (by first | assumption | exact KNN_new (by omega)), gm⟩, by omega, by omega⟩ (by omega) (by omega))
    · show WL _ _ _ _ 1425 [(4, vI i), (3, .ref o), (2, .ref m), (1, .ref x), (0, .ref 0)] [vI z5839] _ H5833
      refine wl_of hX hb cL_1425 (rw_pop (pc' := 1426) rfl rfl ?_)
      refine wl_of hX hb cL_1426 (rw_goto (p1 := 1653) (by decide) ?_)
      have k5881 : H5833 x 9 = H5800 x 9 := (f5838 x 9 _ gx rfl)
      have k5882 : H5833 m 6 = H5800 m 6 := (f5838 m 6 _ gm rfl)
      have k5883 : H5833 x 11 = H5800 x 11 := (f5838 x 11 _ gx rfl)
      have k5884 : H5833 m 13 = H5800 m 13 := (f5838 m 13 _ gm rfl)
      have k5885 : H5833 x 8 = H5800 x 8 := (f5838 x 8 _ gx rfl)
      have k5886 : H5833 m 3 = H5800 m 3 := (f5838 m 3 _ gm rfl)
      have k5887 : H5833 x 0 = H x 0 := ((f5838 x 0 _ gx rfl).trans (f5805 x 0 _ gx rfl))
      have q5888 : H5833 x 0 = (tc : Int) := k5887.trans e0
      have k5889 : H5833 m 5 = H m 5 := ((f5838 m 5 _ gm rfl).trans (f5805 m 5 _ gm rfl))
      have q5890 : H5833 m 5 = (tm : Int) := k5889.trans em
      have k5891 : H5833 x 6 = H x 6 := ((f5838 x 6 _ gx rfl).trans (f5805 x 6 _ gx rfl))
      have q5892 : H5833 x 6 = (cu : Int) := k5891.trans ecu
      have k5893 : H5833 x 7 = H x 7 := ((f5838 x 7 _ gx rfl).trans (f5805 x 7 _ gx rfl))
      have q5894 : H5833 x 7 = (dr : Int) := k5893.trans edr
      have k5895 : H5833 ce8 9 = H5800 ce8 9 := (f5838 ce8 9 _ gce8 rfl)
      have h5896 : TP T H5833 tc B := (TP_fr w5804 gtc f5838 rfl (TP_fr hW gtc f5805 rfl htc))
      have h5897 : TM T H5833 tm B := (TM_fr w5804 gtm f5838 rfl (TM_fr hW gtm f5805 rfl htm))
      have h5898 : DD T H5833 cu  := (DD_fr w5804 gcu f5838 rfl (DD_fr hW gcu f5805 rfl hcu))
      have h5899 : DD T H5833 dr  := (DD_fr w5804 gdr f5838 rfl (DD_fr hW gdr f5805 rfl hdr))
      have h5900 : DE T H5833 cu  := (DE_fr w5804 gcu f5838 rfl (DE_fr hW gcu f5805 rfl hdec))
      have h5901 : DE T H5833 dr  := (DE_fr w5804 gdr f5838 rfl (DE_fr hW gdr f5805 rfl hded))
      have h5902 : SP T H5833 x C8 := (SP_fr w5804 gx f5838 rfl (SP_fr hW gx f5805 rfl hsp))
      have h5903 : CU T H5833 cu (wq_u e8 13 (((H 0 ((i + 1).toNat)))).toNat 0) d8 n8 := (CU_fr w5804 gcu f5838 rfl a5813)
      have h5904 : CY T H5833 cu (d8 0 3) g8 (H cu 17) := (CY_fr w5804 gcu f5838 rfl (CY_fr hW gcu f5805 rfl h5796))
      have k5905 : H5833 x 3 = H x 3 := ((f5838 x 3 _ gx rfl).trans (f5805 x 3 _ gx rfl))
      have q5906 : H5833 x 3 = (ce8 : Int) := k5905.trans ece8
      have h5907 : HDR T H5833 ce8  := (HDR_fr w5804 gce8 f5838 rfl (HDR_fr hW gce8 f5805 rfl hhdr8))
      exfalso
      omega
  · show WL _ _ _ _ 1414 [(4, vI i), (3, .ref o), (2, .ref m), (1, .ref x), (0, .ref 0)] [vI z5806] _ H5800
    have u5908 := CU_k a5816
    refine wl_of hX hb cL_1414 (rw_pop (pc' := 1415) rfl rfl ?_)
    refine wl_of hX hb cL_1415 (rw_aload_n (pc' := 1416) (v := .ref m) rfl rfl rfl ?_)
    refine wl_of hX hb cL_1416 (rw_aload_n (pc' := 1417) (v := .ref 0) rfl rfl rfl ?_)
    refine wl_of hX hb cL_1417 (rw_iload (pc' := 1419) (z := i) rfl rfl ?_)
    refine wl_of hX hb cL_1419 (rw_iconst (pc' := 1420) rfl ?_)
    refine wl_of hX hb cL_1420 (rw_iadd (pc' := 1421) rfl ?_)
    have k5911 : H5800 0 ((i + 1).toNat) = H 0 ((i + 1).toNat) := (f5805 0 ((i + 1).toNat) _ g0 (wmem_s rfl))
    refine wl_of hX hb cL_1421 (xa_I (so := 0) (pc' := 1422) (a := 0) w5804 g0 (wsh_s _) (by omega) (wty_s _ _) (by omega) (by omega) rfl (fun b5909 b5910 => ?_))
    have k5912 : wKI H5800 m = wKI H m := (wKI_fr hW gm f5805 rfl)
    have k5913 : H5800 x 9 = H x 9 := (f5805 x 9 _ gx rfl)
    have k5914 : H5800 m 6 = H m 6 := (f5805 m 6 _ gm rfl)
    have k5915 : H5800 x 11 = H x 11 := (f5805 x 11 _ gx rfl)
    have k5916 : H5800 m 13 = H m 13 := (f5805 m 13 _ gm rfl)
    have k5917 : H5800 x 8 = H x 8 := (f5805 x 8 _ gx rfl)
    have k5918 : H5800 m 3 = H m 3 := (f5805 m 3 _ gm rfl)
    rw [show H5800 0 ((i + 1).toNat) = H 0 ((i + 1).toNat) by omega]
    have h5919 : RB T H5800 m e8 d8 := (RB_fr hW gm f5805 rfl hrb8)
    have h5920 : KNN T H5800 m e8 d8 := (KNN_fr hW gm f5805 rfl hknn8)
    refine wl_of hX hb cL_1422 (xc_V (pc' := 1425) (r := m) (as := [vI (H 0 ((i + 1).toNat))]) (st := []) (lm_11_191) rfl rfl (Nat.le_of_ble_eq_true rfl) w5804 gm sh_42 (by decide) rfl (by decide) (u_286 (e := e8) (d := d8) (y := ((H 0 ((i + 1).toNat)))) w5804 gm ⟨by omega, by omega⟩ (by omega) (by omega) h5919 h5920) (fun R5921 T5922 H5923 p5924 => ?_))
    obtain ⟨e5925, w5927, f5928, z5929, e5926, b5930, p5931⟩ := p5924
    subst e5925
    subst e5926
    rcases p5931 with ⟨a5932, a5933, a5934, a5935, a5936, a5937⟩ | ⟨a5938, a5939, a5940, a5941, a5942⟩
    · show WL _ _ _ _ 1425 [(4, vI i), (3, .ref o), (2, .ref m), (1, .ref x), (0, .ref 0)] [vI z5929] _ H5923
      refine wl_of hX hb cL_1425 (rw_pop (pc' := 1426) rfl rfl ?_)
      refine wl_of hX hb cL_1426 (rw_goto (p1 := 1653) (by decide) ?_)
      have k5943 : H5923 x 9 = H5800 x 9 := (f5928 x 9 _ gx rfl)
      have k5944 : H5923 m 6 = H5800 m 6 := (f5928 m 6 _ gm rfl)
      have k5945 : H5923 x 11 = H5800 x 11 := (f5928 x 11 _ gx rfl)
      have k5946 : H5923 m 13 = H5800 m 13 := (f5928 m 13 _ gm rfl)
      have k5947 : H5923 x 8 = H5800 x 8 := (f5928 x 8 _ gx rfl)
      have k5948 : H5923 m 3 = H5800 m 3 := (f5928 m 3 _ gm rfl)
      have k5949 : H5923 x 0 = H x 0 := ((f5928 x 0 _ gx rfl).trans (f5805 x 0 _ gx rfl))
      have q5950 : H5923 x 0 = (tc : Int) := k5949.trans e0
      have k5951 : H5923 m 5 = H m 5 := ((f5928 m 5 _ gm rfl).trans (f5805 m 5 _ gm rfl))
      have q5952 : H5923 m 5 = (tm : Int) := k5951.trans em
      have k5953 : H5923 x 6 = H x 6 := ((f5928 x 6 _ gx rfl).trans (f5805 x 6 _ gx rfl))
      have q5954 : H5923 x 6 = (cu : Int) := k5953.trans ecu
      have k5955 : H5923 x 7 = H x 7 := ((f5928 x 7 _ gx rfl).trans (f5805 x 7 _ gx rfl))
      have q5956 : H5923 x 7 = (dr : Int) := k5955.trans edr
      have h5957 : CEN T H5923 ce8 e8 d8 := (CEN_fr w5804 gce8 f5928 rfl a5817)
      have h5958 : TP T H5923 tc B := (TP_fr w5804 gtc f5928 rfl (TP_fr hW gtc f5805 rfl htc))
      have h5959 : TM T H5923 tm B := (TM_fr w5804 gtm f5928 rfl (TM_fr hW gtm f5805 rfl htm))
      have h5960 : DD T H5923 cu  := (DD_fr w5804 gcu f5928 rfl (DD_fr hW gcu f5805 rfl hcu))
      have h5961 : DD T H5923 dr  := (DD_fr w5804 gdr f5928 rfl (DD_fr hW gdr f5805 rfl hdr))
      have h5962 : DE T H5923 cu  := (DE_fr w5804 gcu f5928 rfl (DE_fr hW gcu f5805 rfl hdec))
      have h5963 : DE T H5923 dr  := (DE_fr w5804 gdr f5928 rfl (DE_fr hW gdr f5805 rfl hded))
      have h5964 : SP T H5923 x C8 := (SP_fr w5804 gx f5928 rfl (SP_fr hW gx f5805 rfl hsp))
      have h5965 : CU T H5923 cu e8 d8 n8 := (CU_fr w5804 gcu f5928 rfl a5816)
      have h5966 : CY T H5923 cu (d8 0 3) g8 (H cu 17) := (CY_fr w5804 gcu f5928 rfl (CY_fr hW gcu f5805 rfl h5796))
      have k5967 : H5923 x 3 = H x 3 := ((f5928 x 3 _ gx rfl).trans (f5805 x 3 _ gx rfl))
      have q5968 : H5923 x 3 = (ce8 : Int) := k5967.trans ece8
      have h5969 : HDR T H5923 ce8  := (HDR_fr w5804 gce8 f5928 rfl (HDR_fr hW gce8 f5805 rfl hhdr8))
      exfalso
      omega
    · show WL _ _ _ _ 1425 [(4, vI i), (3, .ref o), (2, .ref m), (1, .ref x), (0, .ref 0)] [vI z5929] _ H5923
      refine wl_of hX hb cL_1425 (rw_pop (pc' := 1426) rfl rfl ?_)
      refine wl_of hX hb cL_1426 (rw_goto (p1 := 1653) (by decide) ?_)
      have k5970 : H5923 x 9 = H5800 x 9 := (f5928 x 9 _ gx rfl)
      have k5971 : H5923 m 6 = H5800 m 6 := (f5928 m 6 _ gm rfl)
      have k5972 : H5923 x 11 = H5800 x 11 := (f5928 x 11 _ gx rfl)
      have k5973 : H5923 m 13 = H5800 m 13 := (f5928 m 13 _ gm rfl)
      have k5974 : H5923 x 8 = H5800 x 8 := (f5928 x 8 _ gx rfl)
      have k5975 : H5923 m 3 = H5800 m 3 := (f5928 m 3 _ gm rfl)
      have k5976 : H5923 x 0 = H x 0 := ((f5928 x 0 _ gx rfl).trans (f5805 x 0 _ gx rfl))
      have q5977 : H5923 x 0 = (tc : Int) := k5976.trans e0
      have k5978 : H5923 m 5 = H m 5 := ((f5928 m 5 _ gm rfl).trans (f5805 m 5 _ gm rfl))
      have q5979 : H5923 m 5 = (tm : Int) := k5978.trans em
      have k5980 : H5923 x 6 = H x 6 := ((f5928 x 6 _ gx rfl).trans (f5805 x 6 _ gx rfl))
      have q5981 : H5923 x 6 = (cu : Int) := k5980.trans ecu
      have k5982 : H5923 x 7 = H x 7 := ((f5928 x 7 _ gx rfl).trans (f5805 x 7 _ gx rfl))
      have q5983 : H5923 x 7 = (dr : Int) := k5982.trans edr
      have h5984 : CEN T H5923 ce8 e8 d8 := (CEN_fr w5804 gce8 f5928 rfl a5817)
      have h5985 : TP T H5923 tc B := (TP_fr w5804 gtc f5928 rfl (TP_fr hW gtc f5805 rfl htc))
      have h5986 : TM T H5923 tm B := (TM_fr w5804 gtm f5928 rfl (TM_fr hW gtm f5805 rfl htm))
      have h5987 : DD T H5923 cu  := (DD_fr w5804 gcu f5928 rfl (DD_fr hW gcu f5805 rfl hcu))
      have h5988 : DD T H5923 dr  := (DD_fr w5804 gdr f5928 rfl (DD_fr hW gdr f5805 rfl hdr))
      have h5989 : DE T H5923 cu  := (DE_fr w5804 gcu f5928 rfl (DE_fr hW gcu f5805 rfl hdec))
      have h5990 : DE T H5923 dr  := (DE_fr w5804 gdr f5928 rfl (DE_fr hW gdr f5805 rfl hded))
      have h5991 : SP T H5923 x C8 := (SP_fr w5804 gx f5928 rfl (SP_fr hW gx f5805 rfl hsp))
      have h5992 : CU T H5923 cu e8 d8 n8 := (CU_fr w5804 gcu f5928 rfl a5816)
      have h5993 : CY T H5923 cu (d8 0 3) g8 (H cu 17) := (CY_fr w5804 gcu f5928 rfl (CY_fr hW gcu f5805 rfl h5796))
      have k5994 : H5923 x 3 = H x 3 := ((f5928 x 3 _ gx rfl).trans (f5805 x 3 _ gx rfl))
      have q5995 : H5923 x 3 = (ce8 : Int) := k5994.trans ece8
      have h5996 : HDR T H5923 ce8  := (HDR_fr w5804 gce8 f5928 rfl (HDR_fr hW gce8 f5805 rfl hhdr8))
      have h5997 : RY T H5923 m (d8 0 3) g8 (H m 32) := (RY_fr w5804 gm f5928 rfl (RY_fr hW gm f5805 rfl h5797))
      exact WL.loc hX (by simp) (next T H5923 ⟨⟨w5927, g0, gx, gm, go, by omega, by omega⟩, ⟨_, tc, tm, cu, dr, _, _, _, _, _, ce8, q5977, gtc, h5985, q5979, gtm, h5986, q5981, gcu, q5983, gdr, h5987, h5988, h5989, h5990, h5991, hC1, hC2, h5992, a5941, (h5993).1, (h5997).1, hE, hZ, (by omega), (by assumption), (by omega), (by first | assumption | exact SG_0), q5995, gce8, h5984, h5996, a5942, gm⟩, by omega, by omega⟩ (by omega) (by omega))
set_option maxHeartbeats 4000000 in
theorem wl_c41 {kt : Nat → Option mc_E} {CB SB : Nat} {X : mc_S → Prop} {T : wq_T} {H : wq_H} {Len x m o : Nat} {i : Int} (hX : wlX kt CB SB X) (hb : T.2.1 ≤ CB ∧ T.2.2.1 ≤ SB) (hI : wlJ Len x m o T H) (hL : Len ≤ 3072) (hi : 0 ≤ i ∧ i + 6 ≤ Len) (hb2 : T.2.1 + 20 ≤ CB ∧ T.2.2.1 + 500 ≤ SB)  (next : ∀ T' H', wlJ Len x m o T' H' → T'.2.1 ≤ T.2.1 + 20 → T'.2.2.1 ≤ T.2.2.1 + 500 → WL kt CB SB X 1653 (wlL i x m o) [] T' H') : WL kt CB SB X 1429 (wlL i x m o) [] T H := by
  obtain ⟨⟨hW, g0, gx, gm, go, hK, hr⟩, hXI, hY1, hY2⟩ := hI
  refine wl_of hX hb cL_1429 (rw_aload_n (pc' := 1430) (v := .ref x) rfl rfl rfl ?_)
  refine wl_of hX hb cL_1430 (rw_aload_n (pc' := 1431) (v := .ref 0) rfl rfl rfl ?_)
  refine wl_of hX hb cL_1431 (rw_iload (pc' := 1433) (z := i) rfl rfl ?_)
  refine wl_of hX hb cL_1433 (rw_iconst (pc' := 1434) rfl ?_)
  refine wl_of hX hb cL_1434 (rw_iadd (pc' := 1435) rfl ?_)
  refine wl_of hX hb cL_1435 (xa_I (so := 0) (pc' := 1436) (a := 0) hW g0 (wsh_s _) (by omega) (wty_s _ _) (by omega) (by omega) rfl (fun b5998 b5999 => ?_))
  refine wl_of hX hb cL_1436 (xc_V (pc' := 1439) (r := x) (as := [vI (H 0 ((i + 1).toNat))]) (st := []) (lm_11_192) rfl rfl (Nat.le_of_ble_eq_true rfl) hW gx sh_1 (by decide) rfl (by decide) (s_155 hW gx ⟨by omega, by omega⟩) (fun R6000 T6001 H6002 p6003 => ?_))
  obtain ⟨e6004, w6006, f6007, z6008, e6005, b6009⟩ := p6003
  subst e6004
  subst e6005
  show WL _ _ _ _ 1439 [(4, vI i), (3, .ref o), (2, .ref m), (1, .ref x), (0, .ref 0)] [vI z6008] _ H6002
  refine wl_of hX hb cL_1439 (rw_pop (pc' := 1440) rfl rfl ?_)
  refine wl_of hX hb cL_1440 (rw_aload_n (pc' := 1441) (v := .ref m) rfl rfl rfl ?_)
  refine wl_of hX hb cL_1441 (rw_aload_n (pc' := 1442) (v := .ref 0) rfl rfl rfl ?_)
  refine wl_of hX hb cL_1442 (rw_iload (pc' := 1444) (z := i) rfl rfl ?_)
  refine wl_of hX hb cL_1444 (rw_iconst (pc' := 1445) rfl ?_)
  refine wl_of hX hb cL_1445 (rw_iadd (pc' := 1446) rfl ?_)
  have k6012 : H6002 0 ((i + 1).toNat) = H 0 ((i + 1).toNat) := (f6007 0 ((i + 1).toNat) _ g0 (wmem_s rfl))
  refine wl_of hX hb cL_1446 (xa_I (so := 0) (pc' := 1447) (a := 0) w6006 g0 (wsh_s _) (by omega) (wty_s _ _) (by omega) (by omega) rfl (fun b6010 b6011 => ?_))
  have k6013 : wKI H6002 m = wKI H m := (wKI_fr hW gm f6007 rfl)
  have k6014 : H6002 x 9 = H x 9 := (f6007 x 9 _ gx rfl)
  have k6015 : H6002 m 6 = H m 6 := (f6007 m 6 _ gm rfl)
  have k6016 : H6002 x 11 = H x 11 := (f6007 x 11 _ gx rfl)
  have k6017 : H6002 m 13 = H m 13 := (f6007 m 13 _ gm rfl)
  have k6018 : H6002 x 8 = H x 8 := (f6007 x 8 _ gx rfl)
  have k6019 : H6002 m 3 = H m 3 := (f6007 m 3 _ gm rfl)
  refine wl_of hX hb cL_1447 (xc_V (pc' := 1450) (r := m) (as := [vI (H6002 0 ((i + 1).toNat))]) (st := []) (lm_11_195) rfl rfl (Nat.le_of_ble_eq_true rfl) w6006 gm sh_42 (by decide) rfl (by decide) (s_287 w6006 gm ⟨by omega, by omega⟩ (by omega)) (fun R6020 T6021 H6022 p6023 => ?_))
  obtain ⟨e6024, w6026, f6027, z6029, e6025, b6030, p6028⟩ := p6023
  subst e6024
  subst e6025
  show WL _ _ _ _ 1450 [(4, vI i), (3, .ref o), (2, .ref m), (1, .ref x), (0, .ref 0)] [vI z6029] _ H6022
  refine wl_of hX hb cL_1450 (rw_pop (pc' := 1451) rfl rfl ?_)
  refine wl_of hX hb cL_1451 (rw_goto (p1 := 1653) (by decide) ?_)
  have k6031 : H6022 x 9 = H6002 x 9 := (f6027 x 9 _ gx rfl)
  have k6032 : H6022 m 6 = H6002 m 6 := (f6027 m 6 _ gm rfl)
  have k6033 : H6022 x 11 = H6002 x 11 := (f6027 x 11 _ gx rfl)
  have k6034 : H6022 m 13 = H6002 m 13 := (f6027 m 13 _ gm rfl)
  have k6035 : H6022 x 8 = H6002 x 8 := (f6027 x 8 _ gx rfl)
  have k6036 : H6022 m 3 = H6002 m 3 := (f6027 m 3 _ gm rfl)
  have h6037 : XI T H6022 x m := (XI_fr w6006 gx f6027 rfl (XI_fr hW gx f6007 rfl hXI))
  exact WL.loc hX (by simp) (next T H6022 ⟨⟨w6026, g0, gx, gm, go, by omega, by omega⟩, h6037, by omega, by omega⟩ (by omega) (by omega))
set_option maxHeartbeats 4000000 in
theorem wl_c42 {kt : Nat → Option mc_E} {CB SB : Nat} {X : mc_S → Prop} {T : wq_T} {H : wq_H} {Len x m o : Nat} {i : Int} (hX : wlX kt CB SB X) (hb : T.2.1 ≤ CB ∧ T.2.2.1 ≤ SB) (hI : wlJ Len x m o T H) (hL : Len ≤ 3072) (hi : 0 ≤ i ∧ i + 6 ≤ Len) (hb2 : T.2.1 + 20 ≤ CB ∧ T.2.2.1 + 500 ≤ SB)  (next : ∀ T' H', wlJ Len x m o T' H' → T'.2.1 ≤ T.2.1 + 20 → T'.2.2.1 ≤ T.2.2.1 + 500 → WL kt CB SB X 1653 (wlL i x m o) [] T' H') : WL kt CB SB X 1454 (wlL i x m o) [] T H := by
  obtain ⟨⟨hW, g0, gx, gm, go, hK, hr⟩, hXI, hY1, hY2⟩ := hI
  refine wl_of hX hb cL_1454 (rw_aload_n (pc' := 1455) (v := .ref x) rfl rfl rfl ?_)
  obtain ⟨B, tc, tm, cu, dr, C8, e8, d8, n8, g8, ce8, e0, gtc, htc, em, gtm, htm, ecu, gcu, edr, gdr, hcu, hdr, hdec, hded, hsp, hC1, hC2, hcu8, hrb8, hcg8, hmn8, hE, hZ, hn8, hXA, hV8, hSG, ece8, gce8, hcen8, hhdr8, hknn8, -⟩ := hXI
  have hN3 := RB_n3 hrb8
  have hE13 : ∀ h : Nat, h < 24 → 0 ≤ e8 13 h ∧ e8 13 h ≤ 100 := fun k hk => by
    obtain ⟨s, h1, h2, h3⟩ := hcu8.1.2.2.1
    exact ⟨(h3 k hk).1, (h3 k hk).2.1⟩
  have hXW := hXA.1
  have hXN := hXA.2
  have hE0 : e8 0 3 = d8 0 3 ∧ e8 0 0 = d8 0 0 := by
    have h := hE 0 (by decide)
    exact ⟨congrFun h 3, congrFun h 0⟩
  have u6038 := CU_k hcu8
  have h6039 : CY T H cu (d8 0 3) g8 (H cu 17) := ⟨hcg8, rfl⟩
  have h6040 : RY T H m (d8 0 3) g8 (H m 32) := ⟨hmn8, rfl⟩
  obtain ⟨t9, ht9⟩ : ∃ t : Int, t = H x 9 := ⟨_, rfl⟩
  obtain ⟨r6041, q6042, g6043⟩ := hW.ref gx (t' := 6) (n := 13) (j := 2) (p := 0) (q := 0) rfl (by decide) rfl
  refine wl_of hX hb cL_1455 (xc_V (pc' := 1458) (r := x) (as := []) (st := []) (lm_11_196) rfl rfl (Nat.le_of_ble_eq_true rfl) hW gx sh_1 (by decide) rfl (by decide) (u_156 (e := e8) (d := d8) (n := n8) hW gx ecu gcu q6042 g6043 ece8 gce8 (by assumption) (by assumption) (by omega) (by omega) (by omega) (by omega) hcu8 hcen8 hhdr8) (fun R6044 T6045 H6046 p6047 => ?_))
  obtain ⟨e6048, w6050, f6051, z6052, e6049, b6053, p6054⟩ := p6047
  subst e6048
  subst e6049
  show WL _ _ _ _ 1458 [(4, vI i), (3, .ref o), (2, .ref m), (1, .ref x), (0, .ref 0)] [vI z6052] _ H6046
  refine wl_of hX hb cL_1458 (rw_pop (pc' := 1459) rfl rfl ?_)
  refine wl_of hX hb cL_1459 (rw_aload_n (pc' := 1460) (v := .ref m) rfl rfl rfl ?_)
  have k6056 : wKI H6046 m = wKI H m := (wKI_fr hW gm f6051 rfl)
  have k6057 : H6046 x 9 = H x 9 := (f6051 x 9 _ gx rfl)
  have k6058 : H6046 m 6 = H m 6 := (f6051 m 6 _ gm rfl)
  have k6059 : H6046 x 11 = H x 11 := (f6051 x 11 _ gx rfl)
  have k6060 : H6046 m 13 = H m 13 := (f6051 m 13 _ gm rfl)
  have k6061 : H6046 x 8 = H x 8 := (f6051 x 8 _ gx rfl)
  have k6062 : H6046 m 3 = H m 3 := (f6051 m 3 _ gm rfl)
  have h6063 : RB T H6046 m e8 d8 := (RB_fr hW gm f6051 rfl hrb8)
  have h6064 : KNN T H6046 m e8 d8 := (KNN_fr hW gm f6051 rfl hknn8)
  refine wl_of hX hb cL_1460 (xc_V (pc' := 1463) (r := m) (as := []) (st := []) (lm_11_199) rfl rfl (Nat.le_of_ble_eq_true rfl) w6050 gm sh_42 (by decide) rfl (by decide) (u_288 (e := e8) (d := d8) w6050 gm (by omega) (by assumption) (by assumption) (by assumption) (by assumption) h6063 h6064) (fun R6065 T6066 H6067 p6068 => ?_))
  obtain ⟨e6069, w6071, f6072, z6073, e6070, b6074, p6075⟩ := p6068
  subst e6069
  subst e6070
  obtain ⟨a6076, a6077⟩ := p6075
  show WL _ _ _ _ 1463 [(4, vI i), (3, .ref o), (2, .ref m), (1, .ref x), (0, .ref 0)] [vI z6073] _ H6067
  refine wl_of hX hb cL_1463 (rw_pop (pc' := 1464) rfl rfl ?_)
  refine wl_of hX hb cL_1464 (rw_goto (p1 := 1653) (by decide) ?_)
  have k6078 : H6067 x 9 = H6046 x 9 := (f6072 x 9 _ gx rfl)
  have k6079 : H6067 m 6 = H6046 m 6 := (f6072 m 6 _ gm rfl)
  have k6080 : H6067 x 11 = H6046 x 11 := (f6072 x 11 _ gx rfl)
  have k6081 : H6067 m 13 = H6046 m 13 := (f6072 m 13 _ gm rfl)
  have k6082 : H6067 x 8 = H6046 x 8 := (f6072 x 8 _ gx rfl)
  have k6083 : H6067 m 3 = H6046 m 3 := (f6072 m 3 _ gm rfl)
  have k6084 : H6067 x 0 = H x 0 := ((f6072 x 0 _ gx rfl).trans (f6051 x 0 _ gx rfl))
  have q6085 : H6067 x 0 = (tc : Int) := k6084.trans e0
  have k6086 : H6067 m 5 = H m 5 := ((f6072 m 5 _ gm rfl).trans (f6051 m 5 _ gm rfl))
  have q6087 : H6067 m 5 = (tm : Int) := k6086.trans em
  have k6088 : H6067 x 6 = H x 6 := ((f6072 x 6 _ gx rfl).trans (f6051 x 6 _ gx rfl))
  have q6089 : H6067 x 6 = (cu : Int) := k6088.trans ecu
  have k6090 : H6067 x 7 = H x 7 := ((f6072 x 7 _ gx rfl).trans (f6051 x 7 _ gx rfl))
  have q6091 : H6067 x 7 = (dr : Int) := k6090.trans edr
  have h6092 : CEN T H6067 ce8 e8 d8 := (CEN_fr w6050 gce8 f6072 rfl p6054)
  have h6093 : TP T H6067 tc B := (TP_fr w6050 gtc f6072 rfl (TP_fr hW gtc f6051 rfl htc))
  have h6094 : TM T H6067 tm B := (TM_fr w6050 gtm f6072 rfl (TM_fr hW gtm f6051 rfl htm))
  have h6095 : DD T H6067 cu  := (DD_fr w6050 gcu f6072 rfl (DD_fr hW gcu f6051 rfl hcu))
  have h6096 : DD T H6067 dr  := (DD_fr w6050 gdr f6072 rfl (DD_fr hW gdr f6051 rfl hdr))
  have h6097 : DE T H6067 cu  := (DE_fr w6050 gcu f6072 rfl (DE_fr hW gcu f6051 rfl hdec))
  have h6098 : DE T H6067 dr  := (DE_fr w6050 gdr f6072 rfl (DE_fr hW gdr f6051 rfl hded))
  have h6099 : SP T H6067 x C8 := (SP_fr w6050 gx f6072 rfl (SP_fr hW gx f6051 rfl hsp))
  have h6100 : CU T H6067 cu e8 d8 n8 := (CU_fr w6050 gcu f6072 rfl (CU_fr hW gcu f6051 rfl hcu8))
  have h6101 : CG T H6067 cu (d8 0 3) g8 := (CG_fr w6050 gcu f6072 rfl (CG_fr hW gcu f6051 rfl hcg8))
  have k6102 : H6067 x 3 = H x 3 := ((f6072 x 3 _ gx rfl).trans (f6051 x 3 _ gx rfl))
  have q6103 : H6067 x 3 = (ce8 : Int) := k6102.trans ece8
  have h6104 : HDR T H6067 ce8  := (HDR_fr w6050 gce8 f6072 rfl (HDR_fr hW gce8 f6051 rfl hhdr8))
  have h6105 : MN26 T H6067 m (d8 0 3) g8 := (MN26_fr w6050 gm f6072 rfl (MN26_fr hW gm f6051 rfl hmn8))
  have h6106 : RB T H6067 m e8 d8 := (RB_fr w6050 gm f6072 rfl h6063)
  exact WL.loc hX (by simp) (next T H6067 ⟨⟨w6071, g0, gx, gm, go, by omega, by omega⟩, ⟨_, tc, tm, cu, dr, _, _, _, _, _, ce8, q6085, gtc, h6093, q6087, gtm, h6094, q6089, gcu, q6091, gdr, h6095, h6096, h6097, h6098, h6099, hC1, hC2, h6100, h6106, h6101, h6105, hE, hZ, (by omega), (by assumption), (by omega), (by first | assumption | exact SG_0), q6103, gce8, h6092, h6104, a6077, gm⟩, by omega, by omega⟩ (by omega) (by omega))
set_option maxHeartbeats 4000000 in
theorem wl_c43 {kt : Nat → Option mc_E} {CB SB : Nat} {X : mc_S → Prop} {T : wq_T} {H : wq_H} {Len x m o : Nat} {i : Int} (hX : wlX kt CB SB X) (hb : T.2.1 ≤ CB ∧ T.2.2.1 ≤ SB) (hI : wlJ Len x m o T H) (hL : Len ≤ 3072) (hi : 0 ≤ i ∧ i + 6 ≤ Len) (hb2 : T.2.1 + 20 ≤ CB ∧ T.2.2.1 + 500 ≤ SB)  (next : ∀ T' H', wlJ Len x m o T' H' → T'.2.1 ≤ T.2.1 + 20 → T'.2.2.1 ≤ T.2.2.1 + 500 → WL kt CB SB X 1653 (wlL i x m o) [] T' H') : WL kt CB SB X 1467 (wlL i x m o) [] T H := by
  obtain ⟨⟨hW, g0, gx, gm, go, hK, hr⟩, hXI, hY1, hY2⟩ := hI
  refine wl_of hX hb cL_1467 (rw_aload_n (pc' := 1468) (v := .ref x) rfl rfl rfl ?_)
  refine wl_of hX hb cL_1468 (rw_aload_n (pc' := 1469) (v := .ref 0) rfl rfl rfl ?_)
  refine wl_of hX hb cL_1469 (rw_iload (pc' := 1471) (z := i) rfl rfl ?_)
  refine wl_of hX hb cL_1471 (rw_iconst (pc' := 1472) rfl ?_)
  refine wl_of hX hb cL_1472 (rw_iadd (pc' := 1473) rfl ?_)
  refine wl_of hX hb cL_1473 (xa_I (so := 0) (pc' := 1474) (a := 0) hW g0 (wsh_s _) (by omega) (wty_s _ _) (by omega) (by omega) rfl (fun b6107 b6108 => ?_))
  refine wl_of hX hb cL_1474 (rw_aload_n (pc' := 1475) (v := .ref 0) rfl rfl rfl ?_)
  refine wl_of hX hb cL_1475 (rw_iload (pc' := 1477) (z := i) rfl rfl ?_)
  refine wl_of hX hb cL_1477 (rw_iconst (pc' := 1478) rfl ?_)
  refine wl_of hX hb cL_1478 (rw_iadd (pc' := 1479) rfl ?_)
  refine wl_of hX hb cL_1479 (xa_I (so := 0) (pc' := 1480) (a := 0) hW g0 (wsh_s _) (by omega) (wty_s _ _) (by omega) (by omega) rfl (fun b6109 b6110 => ?_))
  refine wl_of hX hb cL_1480 (xc_V (pc' := 1483) (r := x) (as := [vI (H 0 ((i + 1).toNat)), vI (H 0 ((i + 2).toNat))]) (st := []) (lm_11_200) rfl rfl (Nat.le_of_ble_eq_true rfl) hW gx sh_1 (by decide) rfl (by decide) (s_157 hW gx ⟨by omega, by omega⟩ ⟨by omega, by omega⟩) (fun R6111 T6112 H6113 p6114 => ?_))
  obtain ⟨e6115, w6117, f6118, z6119, e6116, b6120⟩ := p6114
  subst e6115
  subst e6116
  show WL _ _ _ _ 1483 [(4, vI i), (3, .ref o), (2, .ref m), (1, .ref x), (0, .ref 0)] [vI z6119] _ H6113
  refine wl_of hX hb cL_1483 (rw_pop (pc' := 1484) rfl rfl ?_)
  refine wl_of hX hb cL_1484 (rw_aload_n (pc' := 1485) (v := .ref m) rfl rfl rfl ?_)
  refine wl_of hX hb cL_1485 (rw_aload_n (pc' := 1486) (v := .ref 0) rfl rfl rfl ?_)
  refine wl_of hX hb cL_1486 (rw_iload (pc' := 1488) (z := i) rfl rfl ?_)
  refine wl_of hX hb cL_1488 (rw_iconst (pc' := 1489) rfl ?_)
  refine wl_of hX hb cL_1489 (rw_iadd (pc' := 1490) rfl ?_)
  have k6123 : H6113 0 ((i + 1).toNat) = H 0 ((i + 1).toNat) := (f6118 0 ((i + 1).toNat) _ g0 (wmem_s rfl))
  refine wl_of hX hb cL_1490 (xa_I (so := 0) (pc' := 1491) (a := 0) w6117 g0 (wsh_s _) (by omega) (wty_s _ _) (by omega) (by omega) rfl (fun b6121 b6122 => ?_))
  refine wl_of hX hb cL_1491 (rw_aload_n (pc' := 1492) (v := .ref 0) rfl rfl rfl ?_)
  refine wl_of hX hb cL_1492 (rw_iload (pc' := 1494) (z := i) rfl rfl ?_)
  refine wl_of hX hb cL_1494 (rw_iconst (pc' := 1495) rfl ?_)
  refine wl_of hX hb cL_1495 (rw_iadd (pc' := 1496) rfl ?_)
  have k6126 : H6113 0 ((i + 2).toNat) = H 0 ((i + 2).toNat) := (f6118 0 ((i + 2).toNat) _ g0 (wmem_s rfl))
  refine wl_of hX hb cL_1496 (xa_I (so := 0) (pc' := 1497) (a := 0) w6117 g0 (wsh_s _) (by omega) (wty_s _ _) (by omega) (by omega) rfl (fun b6124 b6125 => ?_))
  have k6127 : wKI H6113 m = wKI H m := (wKI_fr hW gm f6118 rfl)
  have k6128 : H6113 x 9 = H x 9 := (f6118 x 9 _ gx rfl)
  have k6129 : H6113 m 6 = H m 6 := (f6118 m 6 _ gm rfl)
  have k6130 : H6113 x 11 = H x 11 := (f6118 x 11 _ gx rfl)
  have k6131 : H6113 m 13 = H m 13 := (f6118 m 13 _ gm rfl)
  have k6132 : H6113 x 8 = H x 8 := (f6118 x 8 _ gx rfl)
  have k6133 : H6113 m 3 = H m 3 := (f6118 m 3 _ gm rfl)
  refine wl_of hX hb cL_1497 (xc_V (pc' := 1500) (r := m) (as := [vI (H6113 0 ((i + 1).toNat)), vI (H6113 0 ((i + 2).toNat))]) (st := []) (lm_11_203) rfl rfl (Nat.le_of_ble_eq_true rfl) w6117 gm sh_42 (by decide) rfl (by decide) (s_289 w6117 gm ⟨by omega, by omega⟩ ⟨by omega, by omega⟩ (by omega)) (fun R6134 T6135 H6136 p6137 => ?_))
  obtain ⟨e6138, w6140, f6141, z6143, e6139, b6144, p6142⟩ := p6137
  subst e6138
  subst e6139
  show WL _ _ _ _ 1500 [(4, vI i), (3, .ref o), (2, .ref m), (1, .ref x), (0, .ref 0)] [vI z6143] _ H6136
  refine wl_of hX hb cL_1500 (rw_pop (pc' := 1501) rfl rfl ?_)
  refine wl_of hX hb cL_1501 (rw_goto (p1 := 1653) (by decide) ?_)
  have k6145 : H6136 x 9 = H6113 x 9 := (f6141 x 9 _ gx rfl)
  have k6146 : H6136 m 6 = H6113 m 6 := (f6141 m 6 _ gm rfl)
  have k6147 : H6136 x 11 = H6113 x 11 := (f6141 x 11 _ gx rfl)
  have k6148 : H6136 m 13 = H6113 m 13 := (f6141 m 13 _ gm rfl)
  have k6149 : H6136 x 8 = H6113 x 8 := (f6141 x 8 _ gx rfl)
  have k6150 : H6136 m 3 = H6113 m 3 := (f6141 m 3 _ gm rfl)
  have h6151 : XI T H6136 x m := (XI_fr w6117 gx f6141 rfl (XI_fr hW gx f6118 rfl hXI))
  exact WL.loc hX (by simp) (next T H6136 ⟨⟨w6140, g0, gx, gm, go, by omega, by omega⟩, h6151, by omega, by omega⟩ (by omega) (by omega))
set_option maxHeartbeats 4000000 in
theorem wl_c44 {kt : Nat → Option mc_E} {CB SB : Nat} {X : mc_S → Prop} {T : wq_T} {H : wq_H} {Len x m o : Nat} {i : Int} (hX : wlX kt CB SB X) (hb : T.2.1 ≤ CB ∧ T.2.2.1 ≤ SB) (hI : wlJ Len x m o T H) (hL : Len ≤ 3072) (hi : 0 ≤ i ∧ i + 6 ≤ Len) (hb2 : T.2.1 + 20 ≤ CB ∧ T.2.2.1 + 500 ≤ SB)  (next : ∀ T' H', wlJ Len x m o T' H' → T'.2.1 ≤ T.2.1 + 20 → T'.2.2.1 ≤ T.2.2.1 + 500 → WL kt CB SB X 1653 (wlL i x m o) [] T' H') : WL kt CB SB X 1504 (wlL i x m o) [] T H := by
  obtain ⟨⟨hW, g0, gx, gm, go, hK, hr⟩, hXI, hY1, hY2⟩ := hI
  refine wl_of hX hb cL_1504 (rw_aload_n (pc' := 1505) (v := .ref x) rfl rfl rfl ?_)
  refine wl_of hX hb cL_1505 (xc_V (pc' := 1508) (r := x) (as := []) (st := []) (lm_11_204) rfl rfl (Nat.le_of_ble_eq_true rfl) hW gx sh_1 (by decide) rfl (by decide) (s_158 hW gx) (fun R6152 T6153 H6154 p6155 => ?_))
  obtain ⟨e6156, w6158, f6159, z6160, e6157, b6161⟩ := p6155
  subst e6156
  subst e6157
  show WL _ _ _ _ 1508 [(4, vI i), (3, .ref o), (2, .ref m), (1, .ref x), (0, .ref 0)] [vI z6160] _ H6154
  refine wl_of hX hb cL_1508 (rw_pop (pc' := 1509) rfl rfl ?_)
  refine wl_of hX hb cL_1509 (rw_aload_n (pc' := 1510) (v := .ref m) rfl rfl rfl ?_)
  have k6162 : wKI H6154 m = wKI H m := (wKI_fr hW gm f6159 rfl)
  have k6163 : H6154 x 9 = H x 9 := (f6159 x 9 _ gx rfl)
  have k6164 : H6154 m 6 = H m 6 := (f6159 m 6 _ gm rfl)
  have k6165 : H6154 x 11 = H x 11 := (f6159 x 11 _ gx rfl)
  have k6166 : H6154 m 13 = H m 13 := (f6159 m 13 _ gm rfl)
  have k6167 : H6154 x 8 = H x 8 := (f6159 x 8 _ gx rfl)
  have k6168 : H6154 m 3 = H m 3 := (f6159 m 3 _ gm rfl)
  refine wl_of hX hb cL_1510 (xc_V (pc' := 1513) (r := m) (as := []) (st := []) (lm_11_208) rfl rfl (Nat.le_of_ble_eq_true rfl) w6158 gm sh_42 (by decide) rfl (by decide) (s_290 w6158 gm (by omega)) (fun R6169 T6170 H6171 p6172 => ?_))
  obtain ⟨e6173, w6175, f6176, z6178, e6174, b6179, p6177⟩ := p6172
  subst e6173
  subst e6174
  show WL _ _ _ _ 1513 [(4, vI i), (3, .ref o), (2, .ref m), (1, .ref x), (0, .ref 0)] [vI z6178] _ H6171
  refine wl_of hX hb cL_1513 (rw_pop (pc' := 1514) rfl rfl ?_)
  refine wl_of hX hb cL_1514 (rw_goto (p1 := 1653) (by decide) ?_)
  have k6180 : H6171 x 9 = H6154 x 9 := (f6176 x 9 _ gx rfl)
  have k6181 : H6171 m 6 = H6154 m 6 := (f6176 m 6 _ gm rfl)
  have k6182 : H6171 x 11 = H6154 x 11 := (f6176 x 11 _ gx rfl)
  have k6183 : H6171 m 13 = H6154 m 13 := (f6176 m 13 _ gm rfl)
  have k6184 : H6171 x 8 = H6154 x 8 := (f6176 x 8 _ gx rfl)
  have k6185 : H6171 m 3 = H6154 m 3 := (f6176 m 3 _ gm rfl)
  have h6186 : XI T H6171 x m := (XI_fr w6158 gx f6176 rfl (XI_fr hW gx f6159 rfl hXI))
  exact WL.loc hX (by simp) (next T H6171 ⟨⟨w6175, g0, gx, gm, go, by omega, by omega⟩, h6186, by omega, by omega⟩ (by omega) (by omega))
set_option maxHeartbeats 4000000 in
theorem wl_c45 {kt : Nat → Option mc_E} {CB SB : Nat} {X : mc_S → Prop} {T : wq_T} {H : wq_H} {Len x m o : Nat} {i : Int} (hX : wlX kt CB SB X) (hb : T.2.1 ≤ CB ∧ T.2.2.1 ≤ SB) (hI : wlJ Len x m o T H) (hL : Len ≤ 3072) (hi : 0 ≤ i ∧ i + 6 ≤ Len) (hb2 : T.2.1 + 20 ≤ CB ∧ T.2.2.1 + 500 ≤ SB)  (next : ∀ T' H', wlJ Len x m o T' H' → T'.2.1 ≤ T.2.1 + 20 → T'.2.2.1 ≤ T.2.2.1 + 500 → WL kt CB SB X 1653 (wlL i x m o) [] T' H') : WL kt CB SB X 1517 (wlL i x m o) [] T H := by
  obtain ⟨⟨hW, g0, gx, gm, go, hK, hr⟩, hXI, hY1, hY2⟩ := hI
  refine wl_of hX hb cL_1517 (rw_aload_n (pc' := 1518) (v := .ref x) rfl rfl rfl ?_)
  refine wl_of hX hb cL_1518 (xc_V (pc' := 1521) (r := x) (as := []) (st := []) (lm_11_209) rfl rfl (Nat.le_of_ble_eq_true rfl) hW gx sh_1 (by decide) rfl (by decide) (s_159 hW gx) (fun R6187 T6188 H6189 p6190 => ?_))
  obtain ⟨e6191, w6193, f6194, z6195, e6192, b6196⟩ := p6190
  subst e6191
  subst e6192
  show WL _ _ _ _ 1521 [(4, vI i), (3, .ref o), (2, .ref m), (1, .ref x), (0, .ref 0)] [vL z6195] _ H6189
  refine wl_of hX hb cL_1521 (rw_pop2 (pc' := 1522) rfl rfl ?_)
  refine wl_of hX hb cL_1522 (rw_aload_n (pc' := 1523) (v := .ref m) rfl rfl rfl ?_)
  have k6197 : wKI H6189 m = wKI H m := (wKI_fr hW gm f6194 rfl)
  have k6198 : H6189 x 9 = H x 9 := (f6194 x 9 _ gx rfl)
  have k6199 : H6189 m 6 = H m 6 := (f6194 m 6 _ gm rfl)
  have k6200 : H6189 x 11 = H x 11 := (f6194 x 11 _ gx rfl)
  have k6201 : H6189 m 13 = H m 13 := (f6194 m 13 _ gm rfl)
  have k6202 : H6189 x 8 = H x 8 := (f6194 x 8 _ gx rfl)
  have k6203 : H6189 m 3 = H m 3 := (f6194 m 3 _ gm rfl)
  refine wl_of hX hb cL_1523 (xc_V (pc' := 1526) (r := m) (as := []) (st := []) (lm_11_212) rfl rfl (Nat.le_of_ble_eq_true rfl) w6193 gm sh_42 (by decide) rfl (by decide) (s_291 w6193 gm (by omega)) (fun R6204 T6205 H6206 p6207 => ?_))
  obtain ⟨e6208, w6210, f6211, z6213, e6209, b6214, p6212⟩ := p6207
  subst e6208
  subst e6209
  show WL _ _ _ _ 1526 [(4, vI i), (3, .ref o), (2, .ref m), (1, .ref x), (0, .ref 0)] [vL z6213] _ H6206
  refine wl_of hX hb cL_1526 (rw_pop2 (pc' := 1527) rfl rfl ?_)
  refine wl_of hX hb cL_1527 (rw_goto (p1 := 1653) (by decide) ?_)
  have k6215 : H6206 x 9 = H6189 x 9 := (f6211 x 9 _ gx rfl)
  have k6216 : H6206 m 6 = H6189 m 6 := (f6211 m 6 _ gm rfl)
  have k6217 : H6206 x 11 = H6189 x 11 := (f6211 x 11 _ gx rfl)
  have k6218 : H6206 m 13 = H6189 m 13 := (f6211 m 13 _ gm rfl)
  have k6219 : H6206 x 8 = H6189 x 8 := (f6211 x 8 _ gx rfl)
  have k6220 : H6206 m 3 = H6189 m 3 := (f6211 m 3 _ gm rfl)
  have h6221 : XI T H6206 x m := (XI_fr w6193 gx f6211 rfl (XI_fr hW gx f6194 rfl hXI))
  exact WL.loc hX (by simp) (next T H6206 ⟨⟨w6210, g0, gx, gm, go, by omega, by omega⟩, h6221, by omega, by omega⟩ (by omega) (by omega))
set_option maxHeartbeats 4000000 in
theorem wl_c46 {kt : Nat → Option mc_E} {CB SB : Nat} {X : mc_S → Prop} {T : wq_T} {H : wq_H} {Len x m o : Nat} {i : Int} (hX : wlX kt CB SB X) (hb : T.2.1 ≤ CB ∧ T.2.2.1 ≤ SB) (hI : wlJ Len x m o T H) (hL : Len ≤ 3072) (hi : 0 ≤ i ∧ i + 6 ≤ Len) (hb2 : T.2.1 + 20 ≤ CB ∧ T.2.2.1 + 500 ≤ SB)  (next : ∀ T' H', wlJ Len x m o T' H' → T'.2.1 ≤ T.2.1 + 20 → T'.2.2.1 ≤ T.2.2.1 + 500 → WL kt CB SB X 1653 (wlL i x m o) [] T' H') : WL kt CB SB X 1530 (wlL i x m o) [] T H := by
  obtain ⟨⟨hW, g0, gx, gm, go, hK, hr⟩, hXI, hY1, hY2⟩ := hI
  refine wl_of hX hb cL_1530 (rw_aload_n (pc' := 1531) (v := .ref x) rfl rfl rfl ?_)
  refine wl_of hX hb cL_1531 (rw_aload_n (pc' := 1532) (v := .ref 0) rfl rfl rfl ?_)
  refine wl_of hX hb cL_1532 (rw_iload (pc' := 1534) (z := i) rfl rfl ?_)
  refine wl_of hX hb cL_1534 (rw_iconst (pc' := 1535) rfl ?_)
  refine wl_of hX hb cL_1535 (rw_iadd (pc' := 1536) rfl ?_)
  refine wl_of hX hb cL_1536 (xa_I (so := 0) (pc' := 1537) (a := 0) hW g0 (wsh_s _) (by omega) (wty_s _ _) (by omega) (by omega) rfl (fun b6222 b6223 => ?_))
  refine wl_of hX hb cL_1537 (rw_i2l (pc' := 1538) rfl ⟨by omega, by omega⟩ ?_)
  refine wl_of hX hb cL_1538 (rw_bipush (pc' := 1540) (z := 32) rfl (by decide) ?_)
  refine wl_of hX hb cL_1540 (rw_lshl (pc' := 1541) rfl ?_)
  obtain ⟨v6224, e6225⟩ : ∃ x : Int, x = wl_shl (H 0 ((i + 1).toNat)) 32 := ⟨_, rfl⟩
  rw [← e6225]
  have b6226 : -9223372036854775808 ≤ v6224 ∧ v6224 ≤ 9223372036854775807 := by
    rw [e6225]
    exact wL_shl _ _
  refine wl_of hX hb cL_1541 (rw_aload_n (pc' := 1542) (v := .ref 0) rfl rfl rfl ?_)
  refine wl_of hX hb cL_1542 (rw_iload (pc' := 1544) (z := i) rfl rfl ?_)
  refine wl_of hX hb cL_1544 (rw_iconst (pc' := 1545) rfl ?_)
  refine wl_of hX hb cL_1545 (rw_iadd (pc' := 1546) rfl ?_)
  refine wl_of hX hb cL_1546 (xa_I (so := 0) (pc' := 1547) (a := 0) hW g0 (wsh_s _) (by omega) (wty_s _ _) (by omega) (by omega) rfl (fun b6227 b6228 => ?_))
  refine wl_of hX hb cL_1547 (rw_i2l (pc' := 1548) rfl ⟨by omega, by omega⟩ ?_)
  refine wl_of hX hb cL_1548 (rw_ldc2 (pc' := 1551) (z := 4294967295) rfl rfl rfl ?_)
  refine wl_of hX hb cL_1551 (rw_land (pc' := 1552) rfl ?_)
  obtain ⟨v6229, e6230⟩ : ∃ x : Int, x = wl_and (H 0 ((i + 2).toNat)) 4294967295 := ⟨_, rfl⟩
  rw [← e6230]
  have b6231 : -9223372036854775808 ≤ v6229 ∧ v6229 ≤ 9223372036854775807 := by
    rw [e6230]
    exact wL_and _ _
  refine wl_of hX hb cL_1552 (rw_lor (pc' := 1553) rfl ?_)
  obtain ⟨v6232, e6233⟩ : ∃ x : Int, x = wl_or v6224 v6229 := ⟨_, rfl⟩
  rw [← e6233]
  have b6234 : -9223372036854775808 ≤ v6232 ∧ v6232 ≤ 9223372036854775807 := by
    rw [e6233]
    exact wL_or _ _
  obtain ⟨B, tc, tm, cu, dr, C8, e8, d8, n8, g8, ce8, e0, gtc, htc, em, gtm, htm, ecu, gcu, edr, gdr, hcu, hdr, hdec, hded, hsp, hC1, hC2, hcu8, hrb8, hcg8, hmn8, hE, hZ, hn8, hXA, hV8, hSG, ece8, gce8, hcen8, hhdr8, hknn8, -⟩ := hXI
  have hN3 := RB_n3 hrb8
  have hE13 : ∀ h : Nat, h < 24 → 0 ≤ e8 13 h ∧ e8 13 h ≤ 100 := fun k hk => by
    obtain ⟨s, h1, h2, h3⟩ := hcu8.1.2.2.1
    exact ⟨(h3 k hk).1, (h3 k hk).2.1⟩
  have hXW := hXA.1
  have hXN := hXA.2
  have hE0 : e8 0 3 = d8 0 3 ∧ e8 0 0 = d8 0 0 := by
    have h := hE 0 (by decide)
    exact ⟨congrFun h 3, congrFun h 0⟩
  have u6235 := CU_k hcu8
  have h6236 : CY T H cu (d8 0 3) g8 (H cu 17) := ⟨hcg8, rfl⟩
  have h6237 : RY T H m (d8 0 3) g8 (H m 32) := ⟨hmn8, rfl⟩
  obtain ⟨t9, ht9⟩ : ∃ t : Int, t = H x 9 := ⟨_, rfl⟩
  refine wl_of hX hb cL_1553 (xc_V (pc' := 1556) (r := x) (as := [vL v6232]) (st := []) (lm_11_215) rfl rfl (Nat.le_of_ble_eq_true rfl) hW gx sh_1 (by decide) rfl (by decide) (u_161 (e := e8) (d := d8) (n := n8) (nY := ((d8 0 3))) (gY := g8) (cY := ((H cu 17))) hW gx ⟨b6234.1, b6234.2⟩ ecu gcu (by omega) (by omega) (by omega) hcu8 h6236 hcu) (fun R6238 T6239 H6240 p6241 => ?_))
  obtain ⟨e6242, w6244, f6245, z6246, e6243, b6247, p6248⟩ := p6241
  subst e6242
  subst e6243
  rcases p6248 with ⟨a6249, a6250, a6251, a6252, a6253⟩ | ⟨a6254, a6255, a6256⟩
  · show WL _ _ _ _ 1556 [(4, vI i), (3, .ref o), (2, .ref m), (1, .ref x), (0, .ref 0)] [vI z6246] _ H6240
    refine wl_of hX hb cL_1556 (rw_pop (pc' := 1557) rfl rfl ?_)
    refine wl_of hX hb cL_1557 (rw_aload_n (pc' := 1558) (v := .ref m) rfl rfl rfl ?_)
    refine wl_of hX hb cL_1558 (rw_aload_n (pc' := 1559) (v := .ref 0) rfl rfl rfl ?_)
    refine wl_of hX hb cL_1559 (rw_iload (pc' := 1561) (z := i) rfl rfl ?_)
    refine wl_of hX hb cL_1561 (rw_iconst (pc' := 1562) rfl ?_)
    refine wl_of hX hb cL_1562 (rw_iadd (pc' := 1563) rfl ?_)
    have k6259 : H6240 0 ((i + 1).toNat) = H 0 ((i + 1).toNat) := (f6245 0 ((i + 1).toNat) _ g0 (wmem_s rfl))
    refine wl_of hX hb cL_1563 (xa_I (so := 0) (pc' := 1564) (a := 0) w6244 g0 (wsh_s _) (by omega) (wty_s _ _) (by omega) (by omega) rfl (fun b6257 b6258 => ?_))
    refine wl_of hX hb cL_1564 (rw_i2l (pc' := 1565) rfl ⟨by omega, by omega⟩ ?_)
    refine wl_of hX hb cL_1565 (rw_bipush (pc' := 1567) (z := 32) rfl (by decide) ?_)
    refine wl_of hX hb cL_1567 (rw_lshl (pc' := 1568) rfl ?_)
    obtain ⟨v6260, e6261⟩ : ∃ x : Int, x = wl_shl (H6240 0 ((i + 1).toNat)) 32 := ⟨_, rfl⟩
    rw [← e6261]
    have b6262 : -9223372036854775808 ≤ v6260 ∧ v6260 ≤ 9223372036854775807 := by
      rw [e6261]
      exact wL_shl _ _
    refine wl_of hX hb cL_1568 (rw_aload_n (pc' := 1569) (v := .ref 0) rfl rfl rfl ?_)
    refine wl_of hX hb cL_1569 (rw_iload (pc' := 1571) (z := i) rfl rfl ?_)
    refine wl_of hX hb cL_1571 (rw_iconst (pc' := 1572) rfl ?_)
    refine wl_of hX hb cL_1572 (rw_iadd (pc' := 1573) rfl ?_)
    have k6265 : H6240 0 ((i + 2).toNat) = H 0 ((i + 2).toNat) := (f6245 0 ((i + 2).toNat) _ g0 (wmem_s rfl))
    refine wl_of hX hb cL_1573 (xa_I (so := 0) (pc' := 1574) (a := 0) w6244 g0 (wsh_s _) (by omega) (wty_s _ _) (by omega) (by omega) rfl (fun b6263 b6264 => ?_))
    refine wl_of hX hb cL_1574 (rw_i2l (pc' := 1575) rfl ⟨by omega, by omega⟩ ?_)
    refine wl_of hX hb cL_1575 (rw_ldc2 (pc' := 1578) (z := 4294967295) rfl rfl rfl ?_)
    refine wl_of hX hb cL_1578 (rw_land (pc' := 1579) rfl ?_)
    obtain ⟨v6266, e6267⟩ : ∃ x : Int, x = wl_and (H6240 0 ((i + 2).toNat)) 4294967295 := ⟨_, rfl⟩
    rw [← e6267]
    have b6268 : -9223372036854775808 ≤ v6266 ∧ v6266 ≤ 9223372036854775807 := by
      rw [e6267]
      exact wL_and _ _
    refine wl_of hX hb cL_1579 (rw_lor (pc' := 1580) rfl ?_)
    obtain ⟨v6269, e6270⟩ : ∃ x : Int, x = wl_or v6260 v6266 := ⟨_, rfl⟩
    rw [← e6270]
    have b6271 : -9223372036854775808 ≤ v6269 ∧ v6269 ≤ 9223372036854775807 := by
      rw [e6270]
      exact wL_or _ _
    have k6272 : wKI H6240 m = wKI H m := (wKI_fr hW gm f6245 rfl)
    have k6273 : H6240 x 9 = H x 9 := (f6245 x 9 _ gx rfl)
    have k6274 : H6240 m 6 = H m 6 := (f6245 m 6 _ gm rfl)
    have k6275 : H6240 x 11 = H x 11 := (f6245 x 11 _ gx rfl)
    have k6276 : H6240 m 13 = H m 13 := (f6245 m 13 _ gm rfl)
    have k6277 : H6240 x 8 = H x 8 := (f6245 x 8 _ gx rfl)
    have k6278 : H6240 m 3 = H m 3 := (f6245 m 3 _ gm rfl)
    have rs9 : v6269 = v6232 := by
      rw [e6270, e6261, e6267, e6233, e6225, e6230, show H6240 0 ((i + 1).toNat) = H 0 ((i + 1).toNat) by omega, show H6240 0 ((i + 2).toNat) = H 0 ((i + 2).toNat) by omega]
    rw [rs9]
    have h6279 : RB T H6240 m e8 d8 := (RB_fr hW gm f6245 rfl hrb8)
    have h6280 : RY T H6240 m (d8 0 3) g8 (H m 32) := (RY_fr hW gm f6245 rfl h6237)
    refine wl_of hX hb cL_1580 (xc_V (pc' := 1583) (r := m) (as := [vL v6232]) (st := []) (lm_11_219) rfl rfl (Nat.le_of_ble_eq_true rfl) w6244 gm sh_42 (by decide) rfl (by decide) (u_292 (e := e8) (d := d8) (nY := ((d8 0 3))) (gY := g8) (cY := ((H m 32))) w6244 gm ⟨b6234.1, b6234.2⟩ (by omega) h6279 h6280) (fun R6281 T6282 H6283 p6284 => ?_))
    obtain ⟨e6285, w6287, f6288, z6289, e6286, b6290, p6291⟩ := p6284
    subst e6285
    subst e6286
    rcases p6291 with ⟨a6292, a6293, a6294, a6295⟩ | ⟨a6296, a6297, a6298⟩
    · show WL _ _ _ _ 1583 [(4, vI i), (3, .ref o), (2, .ref m), (1, .ref x), (0, .ref 0)] [vI z6289] _ H6283
      refine wl_of hX hb cL_1583 (rw_pop (pc' := 1584) rfl rfl ?_)
      refine wl_of hX hb cL_1584 (rw_goto (p1 := 1653) (by decide) ?_)
      have k6299 : wKI H6283 m = wKI H6240 m := (wKI_fr w6244 gm f6288 rfl)
      have k6300 : H6283 x 9 = H6240 x 9 := (f6288 x 9 _ gx rfl)
      have k6301 : H6283 m 6 = H6240 m 6 := (f6288 m 6 _ gm rfl)
      have k6302 : H6283 x 11 = H6240 x 11 := (f6288 x 11 _ gx rfl)
      have k6303 : H6283 m 13 = H6240 m 13 := (f6288 m 13 _ gm rfl)
      have k6304 : H6283 x 8 = H6240 x 8 := (f6288 x 8 _ gx rfl)
      have k6305 : H6283 m 3 = H6240 m 3 := (f6288 m 3 _ gm rfl)
      have k6306 : H6283 x 0 = H x 0 := ((f6288 x 0 _ gx rfl).trans (f6245 x 0 _ gx rfl))
      have q6307 : H6283 x 0 = (tc : Int) := k6306.trans e0
      have k6308 : H6283 m 5 = H m 5 := ((f6288 m 5 _ gm rfl).trans (f6245 m 5 _ gm rfl))
      have q6309 : H6283 m 5 = (tm : Int) := k6308.trans em
      have k6310 : H6283 x 6 = H x 6 := ((f6288 x 6 _ gx rfl).trans (f6245 x 6 _ gx rfl))
      have q6311 : H6283 x 6 = (cu : Int) := k6310.trans ecu
      have k6312 : H6283 x 7 = H x 7 := ((f6288 x 7 _ gx rfl).trans (f6245 x 7 _ gx rfl))
      have q6313 : H6283 x 7 = (dr : Int) := k6312.trans edr
      have h6314 : CEN T H6283 ce8 e8 d8 := (CEN_fr w6244 gce8 f6288 rfl (CEN_fr hW gce8 f6245 rfl hcen8))
      have h6315 : TP T H6283 tc B := (TP_fr w6244 gtc f6288 rfl (TP_fr hW gtc f6245 rfl htc))
      have h6316 : TM T H6283 tm B := (TM_fr w6244 gtm f6288 rfl (TM_fr hW gtm f6245 rfl htm))
      have h6317 : DD T H6283 cu  := (DD_fr w6244 gcu f6288 rfl (DD_fr hW gcu f6245 rfl hcu))
      have h6318 : DD T H6283 dr  := (DD_fr w6244 gdr f6288 rfl (DD_fr hW gdr f6245 rfl hdr))
      have h6319 : DE T H6283 cu  := (DE_fr w6244 gcu f6288 rfl (DE_fr hW gcu f6245 rfl hdec))
      have h6320 : DE T H6283 dr  := (DE_fr w6244 gdr f6288 rfl (DE_fr hW gdr f6245 rfl hded))
      have h6321 : SP T H6283 x C8 := (SP_fr w6244 gx f6288 rfl (SP_fr hW gx f6245 rfl hsp))
      have h6322 : CU T H6283 cu e8 d8 n8 := (CU_fr w6244 gcu f6288 rfl (CU_fr hW gcu f6245 rfl hcu8))
      have h6323 : CY T H6283 cu ((d8 0 3)) (xdg d8 v6232) (wdv (d8 0 3).toNat v6232) := (CY_fr w6244 gcu f6288 rfl a6253)
      have k6324 : H6283 x 3 = H x 3 := ((f6288 x 3 _ gx rfl).trans (f6245 x 3 _ gx rfl))
      have q6325 : H6283 x 3 = (ce8 : Int) := k6324.trans ece8
      have h6326 : HDR T H6283 ce8  := (HDR_fr w6244 gce8 f6288 rfl (HDR_fr hW gce8 f6245 rfl hhdr8))
      have h6327 : KNN T H6283 m e8 d8 := (KNN_fr w6244 gm f6288 rfl (KNN_fr hW gm f6245 rfl hknn8))
      have h6328 : RB T H6283 m e8 d8 := (RB_fr w6244 gm f6288 rfl h6279)
      exact WL.loc hX (by simp) (next T H6283 ⟨⟨w6287, g0, gx, gm, go, by omega, by omega⟩, ⟨_, tc, tm, cu, dr, _, _, _, _, _, ce8, q6307, gtc, h6315, q6309, gtm, h6316, q6311, gcu, q6313, gdr, h6317, h6318, h6319, h6320, h6321, hC1, hC2, h6322, h6328, (h6323).1, (a6295).1, hE, hZ, (by omega), (by assumption), (by omega), (by first | assumption | exact SG_0), q6325, gce8, h6314, h6326, h6327, gm⟩, by omega, by omega⟩ (by omega) (by omega))
    · show WL _ _ _ _ 1583 [(4, vI i), (3, .ref o), (2, .ref m), (1, .ref x), (0, .ref 0)] [vI z6289] _ H6283
      refine wl_of hX hb cL_1583 (rw_pop (pc' := 1584) rfl rfl ?_)
      refine wl_of hX hb cL_1584 (rw_goto (p1 := 1653) (by decide) ?_)
      have k6329 : wKI H6283 m = wKI H6240 m := (wKI_fr w6244 gm f6288 rfl)
      have k6330 : H6283 x 9 = H6240 x 9 := (f6288 x 9 _ gx rfl)
      have k6331 : H6283 m 6 = H6240 m 6 := (f6288 m 6 _ gm rfl)
      have k6332 : H6283 x 11 = H6240 x 11 := (f6288 x 11 _ gx rfl)
      have k6333 : H6283 m 13 = H6240 m 13 := (f6288 m 13 _ gm rfl)
      have k6334 : H6283 x 8 = H6240 x 8 := (f6288 x 8 _ gx rfl)
      have k6335 : H6283 m 3 = H6240 m 3 := (f6288 m 3 _ gm rfl)
      have k6336 : H6283 x 0 = H x 0 := ((f6288 x 0 _ gx rfl).trans (f6245 x 0 _ gx rfl))
      have q6337 : H6283 x 0 = (tc : Int) := k6336.trans e0
      have k6338 : H6283 m 5 = H m 5 := ((f6288 m 5 _ gm rfl).trans (f6245 m 5 _ gm rfl))
      have q6339 : H6283 m 5 = (tm : Int) := k6338.trans em
      have k6340 : H6283 x 6 = H x 6 := ((f6288 x 6 _ gx rfl).trans (f6245 x 6 _ gx rfl))
      have q6341 : H6283 x 6 = (cu : Int) := k6340.trans ecu
      have k6342 : H6283 x 7 = H x 7 := ((f6288 x 7 _ gx rfl).trans (f6245 x 7 _ gx rfl))
      have q6343 : H6283 x 7 = (dr : Int) := k6342.trans edr
      have h6344 : CEN T H6283 ce8 e8 d8 := (CEN_fr w6244 gce8 f6288 rfl (CEN_fr hW gce8 f6245 rfl hcen8))
      have h6345 : TP T H6283 tc B := (TP_fr w6244 gtc f6288 rfl (TP_fr hW gtc f6245 rfl htc))
      have h6346 : TM T H6283 tm B := (TM_fr w6244 gtm f6288 rfl (TM_fr hW gtm f6245 rfl htm))
      have h6347 : DD T H6283 cu  := (DD_fr w6244 gcu f6288 rfl (DD_fr hW gcu f6245 rfl hcu))
      have h6348 : DD T H6283 dr  := (DD_fr w6244 gdr f6288 rfl (DD_fr hW gdr f6245 rfl hdr))
      have h6349 : DE T H6283 cu  := (DE_fr w6244 gcu f6288 rfl (DE_fr hW gcu f6245 rfl hdec))
      have h6350 : DE T H6283 dr  := (DE_fr w6244 gdr f6288 rfl (DE_fr hW gdr f6245 rfl hded))
      have h6351 : SP T H6283 x C8 := (SP_fr w6244 gx f6288 rfl (SP_fr hW gx f6245 rfl hsp))
      have h6352 : CU T H6283 cu e8 d8 n8 := (CU_fr w6244 gcu f6288 rfl (CU_fr hW gcu f6245 rfl hcu8))
      have h6353 : CY T H6283 cu ((d8 0 3)) (xdg d8 v6232) (wdv (d8 0 3).toNat v6232) := (CY_fr w6244 gcu f6288 rfl a6253)
      have k6354 : H6283 x 3 = H x 3 := ((f6288 x 3 _ gx rfl).trans (f6245 x 3 _ gx rfl))
      have q6355 : H6283 x 3 = (ce8 : Int) := k6354.trans ece8
      have h6356 : HDR T H6283 ce8  := (HDR_fr w6244 gce8 f6288 rfl (HDR_fr hW gce8 f6245 rfl hhdr8))
      have h6357 : KNN T H6283 m e8 d8 := (KNN_fr w6244 gm f6288 rfl (KNN_fr hW gm f6245 rfl hknn8))
      exfalso
      omega
  · show WL _ _ _ _ 1556 [(4, vI i), (3, .ref o), (2, .ref m), (1, .ref x), (0, .ref 0)] [vI z6246] _ H6240
    refine wl_of hX hb cL_1556 (rw_pop (pc' := 1557) rfl rfl ?_)
    refine wl_of hX hb cL_1557 (rw_aload_n (pc' := 1558) (v := .ref m) rfl rfl rfl ?_)
    refine wl_of hX hb cL_1558 (rw_aload_n (pc' := 1559) (v := .ref 0) rfl rfl rfl ?_)
    refine wl_of hX hb cL_1559 (rw_iload (pc' := 1561) (z := i) rfl rfl ?_)
    refine wl_of hX hb cL_1561 (rw_iconst (pc' := 1562) rfl ?_)
    refine wl_of hX hb cL_1562 (rw_iadd (pc' := 1563) rfl ?_)
    have k6360 : H6240 0 ((i + 1).toNat) = H 0 ((i + 1).toNat) := (f6245 0 ((i + 1).toNat) _ g0 (wmem_s rfl))
    refine wl_of hX hb cL_1563 (xa_I (so := 0) (pc' := 1564) (a := 0) w6244 g0 (wsh_s _) (by omega) (wty_s _ _) (by omega) (by omega) rfl (fun b6358 b6359 => ?_))
    refine wl_of hX hb cL_1564 (rw_i2l (pc' := 1565) rfl ⟨by omega, by omega⟩ ?_)
    refine wl_of hX hb cL_1565 (rw_bipush (pc' := 1567) (z := 32) rfl (by decide) ?_)
    refine wl_of hX hb cL_1567 (rw_lshl (pc' := 1568) rfl ?_)
    obtain ⟨v6361, e6362⟩ : ∃ x : Int, x = wl_shl (H6240 0 ((i + 1).toNat)) 32 := ⟨_, rfl⟩
    rw [← e6362]
    have b6363 : -9223372036854775808 ≤ v6361 ∧ v6361 ≤ 9223372036854775807 := by
      rw [e6362]
      exact wL_shl _ _
    refine wl_of hX hb cL_1568 (rw_aload_n (pc' := 1569) (v := .ref 0) rfl rfl rfl ?_)
    refine wl_of hX hb cL_1569 (rw_iload (pc' := 1571) (z := i) rfl rfl ?_)
    refine wl_of hX hb cL_1571 (rw_iconst (pc' := 1572) rfl ?_)
    refine wl_of hX hb cL_1572 (rw_iadd (pc' := 1573) rfl ?_)
    have k6366 : H6240 0 ((i + 2).toNat) = H 0 ((i + 2).toNat) := (f6245 0 ((i + 2).toNat) _ g0 (wmem_s rfl))
    refine wl_of hX hb cL_1573 (xa_I (so := 0) (pc' := 1574) (a := 0) w6244 g0 (wsh_s _) (by omega) (wty_s _ _) (by omega) (by omega) rfl (fun b6364 b6365 => ?_))
    refine wl_of hX hb cL_1574 (rw_i2l (pc' := 1575) rfl ⟨by omega, by omega⟩ ?_)
    refine wl_of hX hb cL_1575 (rw_ldc2 (pc' := 1578) (z := 4294967295) rfl rfl rfl ?_)
    refine wl_of hX hb cL_1578 (rw_land (pc' := 1579) rfl ?_)
    obtain ⟨v6367, e6368⟩ : ∃ x : Int, x = wl_and (H6240 0 ((i + 2).toNat)) 4294967295 := ⟨_, rfl⟩
    rw [← e6368]
    have b6369 : -9223372036854775808 ≤ v6367 ∧ v6367 ≤ 9223372036854775807 := by
      rw [e6368]
      exact wL_and _ _
    refine wl_of hX hb cL_1579 (rw_lor (pc' := 1580) rfl ?_)
    obtain ⟨v6370, e6371⟩ : ∃ x : Int, x = wl_or v6361 v6367 := ⟨_, rfl⟩
    rw [← e6371]
    have b6372 : -9223372036854775808 ≤ v6370 ∧ v6370 ≤ 9223372036854775807 := by
      rw [e6371]
      exact wL_or _ _
    have k6373 : wKI H6240 m = wKI H m := (wKI_fr hW gm f6245 rfl)
    have k6374 : H6240 x 9 = H x 9 := (f6245 x 9 _ gx rfl)
    have k6375 : H6240 m 6 = H m 6 := (f6245 m 6 _ gm rfl)
    have k6376 : H6240 x 11 = H x 11 := (f6245 x 11 _ gx rfl)
    have k6377 : H6240 m 13 = H m 13 := (f6245 m 13 _ gm rfl)
    have k6378 : H6240 x 8 = H x 8 := (f6245 x 8 _ gx rfl)
    have k6379 : H6240 m 3 = H m 3 := (f6245 m 3 _ gm rfl)
    have rs9 : v6370 = v6232 := by
      rw [e6371, e6362, e6368, e6233, e6225, e6230, show H6240 0 ((i + 1).toNat) = H 0 ((i + 1).toNat) by omega, show H6240 0 ((i + 2).toNat) = H 0 ((i + 2).toNat) by omega]
    rw [rs9]
    have h6380 : RB T H6240 m e8 d8 := (RB_fr hW gm f6245 rfl hrb8)
    have h6381 : RY T H6240 m (d8 0 3) g8 (H m 32) := (RY_fr hW gm f6245 rfl h6237)
    refine wl_of hX hb cL_1580 (xc_V (pc' := 1583) (r := m) (as := [vL v6232]) (st := []) (lm_11_219) rfl rfl (Nat.le_of_ble_eq_true rfl) w6244 gm sh_42 (by decide) rfl (by decide) (u_292 (e := e8) (d := d8) (nY := ((d8 0 3))) (gY := g8) (cY := ((H m 32))) w6244 gm ⟨b6234.1, b6234.2⟩ (by omega) h6380 h6381) (fun R6382 T6383 H6384 p6385 => ?_))
    obtain ⟨e6386, w6388, f6389, z6390, e6387, b6391, p6392⟩ := p6385
    subst e6386
    subst e6387
    rcases p6392 with ⟨a6393, a6394, a6395, a6396⟩ | ⟨a6397, a6398, a6399⟩
    · show WL _ _ _ _ 1583 [(4, vI i), (3, .ref o), (2, .ref m), (1, .ref x), (0, .ref 0)] [vI z6390] _ H6384
      refine wl_of hX hb cL_1583 (rw_pop (pc' := 1584) rfl rfl ?_)
      refine wl_of hX hb cL_1584 (rw_goto (p1 := 1653) (by decide) ?_)
      have k6400 : wKI H6384 m = wKI H6240 m := (wKI_fr w6244 gm f6389 rfl)
      have k6401 : H6384 x 9 = H6240 x 9 := (f6389 x 9 _ gx rfl)
      have k6402 : H6384 m 6 = H6240 m 6 := (f6389 m 6 _ gm rfl)
      have k6403 : H6384 x 11 = H6240 x 11 := (f6389 x 11 _ gx rfl)
      have k6404 : H6384 m 13 = H6240 m 13 := (f6389 m 13 _ gm rfl)
      have k6405 : H6384 x 8 = H6240 x 8 := (f6389 x 8 _ gx rfl)
      have k6406 : H6384 m 3 = H6240 m 3 := (f6389 m 3 _ gm rfl)
      have k6407 : H6384 x 0 = H x 0 := ((f6389 x 0 _ gx rfl).trans (f6245 x 0 _ gx rfl))
      have q6408 : H6384 x 0 = (tc : Int) := k6407.trans e0
      have k6409 : H6384 m 5 = H m 5 := ((f6389 m 5 _ gm rfl).trans (f6245 m 5 _ gm rfl))
      have q6410 : H6384 m 5 = (tm : Int) := k6409.trans em
      have k6411 : H6384 x 6 = H x 6 := ((f6389 x 6 _ gx rfl).trans (f6245 x 6 _ gx rfl))
      have q6412 : H6384 x 6 = (cu : Int) := k6411.trans ecu
      have k6413 : H6384 x 7 = H x 7 := ((f6389 x 7 _ gx rfl).trans (f6245 x 7 _ gx rfl))
      have q6414 : H6384 x 7 = (dr : Int) := k6413.trans edr
      have h6415 : CEN T H6384 ce8 e8 d8 := (CEN_fr w6244 gce8 f6389 rfl (CEN_fr hW gce8 f6245 rfl hcen8))
      have h6416 : TP T H6384 tc B := (TP_fr w6244 gtc f6389 rfl (TP_fr hW gtc f6245 rfl htc))
      have h6417 : TM T H6384 tm B := (TM_fr w6244 gtm f6389 rfl (TM_fr hW gtm f6245 rfl htm))
      have h6418 : DD T H6384 cu  := (DD_fr w6244 gcu f6389 rfl (DD_fr hW gcu f6245 rfl hcu))
      have h6419 : DD T H6384 dr  := (DD_fr w6244 gdr f6389 rfl (DD_fr hW gdr f6245 rfl hdr))
      have h6420 : DE T H6384 cu  := (DE_fr w6244 gcu f6389 rfl (DE_fr hW gcu f6245 rfl hdec))
      have h6421 : DE T H6384 dr  := (DE_fr w6244 gdr f6389 rfl (DE_fr hW gdr f6245 rfl hded))
      have h6422 : SP T H6384 x C8 := (SP_fr w6244 gx f6389 rfl (SP_fr hW gx f6245 rfl hsp))
      have h6423 : CU T H6384 cu e8 d8 n8 := (CU_fr w6244 gcu f6389 rfl (CU_fr hW gcu f6245 rfl hcu8))
      have h6424 : CY T H6384 cu ((d8 0 3)) g8 ((H cu 17)) := (CY_fr w6244 gcu f6389 rfl a6256)
      have k6425 : H6384 x 3 = H x 3 := ((f6389 x 3 _ gx rfl).trans (f6245 x 3 _ gx rfl))
      have q6426 : H6384 x 3 = (ce8 : Int) := k6425.trans ece8
      have h6427 : HDR T H6384 ce8  := (HDR_fr w6244 gce8 f6389 rfl (HDR_fr hW gce8 f6245 rfl hhdr8))
      have h6428 : KNN T H6384 m e8 d8 := (KNN_fr w6244 gm f6389 rfl (KNN_fr hW gm f6245 rfl hknn8))
      exfalso
      omega
    · show WL _ _ _ _ 1583 [(4, vI i), (3, .ref o), (2, .ref m), (1, .ref x), (0, .ref 0)] [vI z6390] _ H6384
      refine wl_of hX hb cL_1583 (rw_pop (pc' := 1584) rfl rfl ?_)
      refine wl_of hX hb cL_1584 (rw_goto (p1 := 1653) (by decide) ?_)
      have k6429 : wKI H6384 m = wKI H6240 m := (wKI_fr w6244 gm f6389 rfl)
      have k6430 : H6384 x 9 = H6240 x 9 := (f6389 x 9 _ gx rfl)
      have k6431 : H6384 m 6 = H6240 m 6 := (f6389 m 6 _ gm rfl)
      have k6432 : H6384 x 11 = H6240 x 11 := (f6389 x 11 _ gx rfl)
      have k6433 : H6384 m 13 = H6240 m 13 := (f6389 m 13 _ gm rfl)
      have k6434 : H6384 x 8 = H6240 x 8 := (f6389 x 8 _ gx rfl)
      have k6435 : H6384 m 3 = H6240 m 3 := (f6389 m 3 _ gm rfl)
      have k6436 : H6384 x 0 = H x 0 := ((f6389 x 0 _ gx rfl).trans (f6245 x 0 _ gx rfl))
      have q6437 : H6384 x 0 = (tc : Int) := k6436.trans e0
      have k6438 : H6384 m 5 = H m 5 := ((f6389 m 5 _ gm rfl).trans (f6245 m 5 _ gm rfl))
      have q6439 : H6384 m 5 = (tm : Int) := k6438.trans em
      have k6440 : H6384 x 6 = H x 6 := ((f6389 x 6 _ gx rfl).trans (f6245 x 6 _ gx rfl))
      have q6441 : H6384 x 6 = (cu : Int) := k6440.trans ecu
      have k6442 : H6384 x 7 = H x 7 := ((f6389 x 7 _ gx rfl).trans (f6245 x 7 _ gx rfl))
      have q6443 : H6384 x 7 = (dr : Int) := k6442.trans edr
      have h6444 : CEN T H6384 ce8 e8 d8 := (CEN_fr w6244 gce8 f6389 rfl (CEN_fr hW gce8 f6245 rfl hcen8))
      have h6445 : TP T H6384 tc B := (TP_fr w6244 gtc f6389 rfl (TP_fr hW gtc f6245 rfl htc))
      have h6446 : TM T H6384 tm B := (TM_fr w6244 gtm f6389 rfl (TM_fr hW gtm f6245 rfl htm))
      have h6447 : DD T H6384 cu  := (DD_fr w6244 gcu f6389 rfl (DD_fr hW gcu f6245 rfl hcu))
      have h6448 : DD T H6384 dr  := (DD_fr w6244 gdr f6389 rfl (DD_fr hW gdr f6245 rfl hdr))
      have h6449 : DE T H6384 cu  := (DE_fr w6244 gcu f6389 rfl (DE_fr hW gcu f6245 rfl hdec))
      have h6450 : DE T H6384 dr  := (DE_fr w6244 gdr f6389 rfl (DE_fr hW gdr f6245 rfl hded))
      have h6451 : SP T H6384 x C8 := (SP_fr w6244 gx f6389 rfl (SP_fr hW gx f6245 rfl hsp))
      have h6452 : CU T H6384 cu e8 d8 n8 := (CU_fr w6244 gcu f6389 rfl (CU_fr hW gcu f6245 rfl hcu8))
      have h6453 : CY T H6384 cu ((d8 0 3)) g8 ((H cu 17)) := (CY_fr w6244 gcu f6389 rfl a6256)
      have k6454 : H6384 x 3 = H x 3 := ((f6389 x 3 _ gx rfl).trans (f6245 x 3 _ gx rfl))
      have q6455 : H6384 x 3 = (ce8 : Int) := k6454.trans ece8
      have h6456 : HDR T H6384 ce8  := (HDR_fr w6244 gce8 f6389 rfl (HDR_fr hW gce8 f6245 rfl hhdr8))
      have h6457 : KNN T H6384 m e8 d8 := (KNN_fr w6244 gm f6389 rfl (KNN_fr hW gm f6245 rfl hknn8))
      have h6458 : RB T H6384 m e8 d8 := (RB_fr w6244 gm f6389 rfl h6380)
      exact WL.loc hX (by simp) (next T H6384 ⟨⟨w6388, g0, gx, gm, go, by omega, by omega⟩, ⟨_, tc, tm, cu, dr, _, _, _, _, _, ce8, q6437, gtc, h6445, q6439, gtm, h6446, q6441, gcu, q6443, gdr, h6447, h6448, h6449, h6450, h6451, hC1, hC2, h6452, h6458, (h6453).1, (a6399).1, hE, hZ, (by omega), (by assumption), (by omega), (by first | assumption | exact SG_0), q6455, gce8, h6444, h6456, h6457, gm⟩, by omega, by omega⟩ (by omega) (by omega))
