/-! THE LAW, GONE ON WITH (own work) -/
set_option maxHeartbeats 4000000 in
theorem wl_c35 {kt : Nat → Option mc_E} {CB SB : Nat} {X : mc_S → Prop} {T : wq_T} {H : wq_H} {Len x m o : Nat} {i : Int} (hX : wlX kt CB SB X) (hb : T.2.1 ≤ CB ∧ T.2.2.1 ≤ SB) (hI : wlJ Len x m o T H) (hL : Len ≤ 3072) (hi : 0 ≤ i ∧ i + 6 ≤ Len) (hb2 : T.2.1 + 20 ≤ CB ∧ T.2.2.1 + 500 ≤ SB)  (next : ∀ T' H', wlJ Len x m o T' H' → T'.2.1 ≤ T.2.1 + 20 → T'.2.2.1 ≤ T.2.2.1 + 500 → WL kt CB SB X 1653 (wlL i x m o) [] T' H') : WL kt CB SB X 1263 (wlL i x m o) [] T H := by
  obtain ⟨⟨hW, g0, gx, gm, go, hK, hr⟩, hXI, hY1, hY2⟩ := hI
  refine wl_of hX hb cL_1263 (rw_aload_n (pc' := 1264) (v := .ref x) rfl rfl rfl ?_)
  refine wl_of hX hb cL_1264 (rw_aload_n (pc' := 1265) (v := .ref 0) rfl rfl rfl ?_)
  refine wl_of hX hb cL_1265 (rw_iload (pc' := 1267) (z := i) rfl rfl ?_)
  refine wl_of hX hb cL_1267 (rw_iconst (pc' := 1268) rfl ?_)
  refine wl_of hX hb cL_1268 (rw_iadd (pc' := 1269) rfl ?_)
  refine wl_of hX hb cL_1269 (xa_I (so := 0) (pc' := 1270) (a := 0) hW g0 (wsh_s _) (by omega) (wty_s _ _) (by omega) (by omega) rfl (fun b4831 b4832 => ?_))
  refine wl_of hX hb cL_1270 (rw_aload_n (pc' := 1271) (v := .ref 0) rfl rfl rfl ?_)
  refine wl_of hX hb cL_1271 (rw_iload (pc' := 1273) (z := i) rfl rfl ?_)
  refine wl_of hX hb cL_1273 (rw_iconst (pc' := 1274) rfl ?_)
  refine wl_of hX hb cL_1274 (rw_iadd (pc' := 1275) rfl ?_)
  refine wl_of hX hb cL_1275 (xa_I (so := 0) (pc' := 1276) (a := 0) hW g0 (wsh_s _) (by omega) (wty_s _ _) (by omega) (by omega) rfl (fun b4833 b4834 => ?_))
  refine wl_of hX hb cL_1276 (rw_if_eq (p1 := 1283) (p2 := 1279) (by decide) rfl ⟨by omega, by omega⟩ (fun c4835 => ?_) (fun c4835 => ?_))
  · refine wl_of hX hb cL_1283 (rw_iconst (pc' := 1284) rfl ?_)
    obtain ⟨B, tc, tm, cu, dr, C8, e8, d8, n8, g8, ce8, e0, gtc, htc, em, gtm, htm, ecu, gcu, edr, gdr, hcu, hdr, hdec, hded, hsp, hC1, hC2, hcu8, hrb8, hcg8, hmn8, hE, hZ, hn8, hXA, hV8, hSG, ece8, gce8, hcen8, hhdr8, hknn8, -⟩ := hXI
    have hN3 := RB_n3 hrb8
    have hE13 : ∀ h : Nat, h < 24 → 0 ≤ e8 13 h ∧ e8 13 h ≤ 100 := fun k hk => by
      obtain ⟨s, h1, h2, h3⟩ := hcu8.1.2.2.1
      exact ⟨(h3 k hk).1, (h3 k hk).2.1⟩
    have hXW := hXA.1
    have hXN := hXA.2
    have hE0 : e8 0 3 = d8 0 3 ∧ e8 0 0 = d8 0 0 := by
      have h := hE 0 (by decide)
      exact ⟨congrFun h 3, congrFun h 0⟩
    have u4836 := CU_k hcu8
    have h4837 : CY T H cu (d8 0 3) g8 (H cu 17) := ⟨hcg8, rfl⟩
    have h4838 : RY T H m (d8 0 3) g8 (H m 32) := ⟨hmn8, rfl⟩
    obtain ⟨t9, ht9⟩ : ∃ t : Int, t = H x 9 := ⟨_, rfl⟩
    obtain ⟨y9, hy9⟩ : ∃ y : Int, y = 0 := ⟨_, rfl⟩
    obtain ⟨r4839, q4840, g4841⟩ := hW.ref gx (t' := 6) (n := 13) (j := 2) (p := 0) (q := 0) rfl (by decide) rfl
    refine wl_of hX hb cL_1284 (xc_V (pc' := 1287) (r := x) (as := [vI (H 0 ((i + 1).toNat)), vI 0]) (st := []) (lm_11_167) rfl rfl (Nat.le_of_ble_eq_true rfl) hW gx sh_1 (by decide) rfl (by decide) (u_146 (e := e8) (d := d8) (n := n8) hW gx ⟨by omega, by omega⟩ ⟨by decide, by decide⟩ ecu gcu q4840 g4841 ece8 gce8 (by assumption) (by assumption) (by omega) (by omega) (by omega) (by omega) hcu8 hcen8 hhdr8) (fun R4842 T4843 H4844 p4845 => ?_))
    obtain ⟨e4846, w4848, f4849, z4850, e4847, b4851, p4852⟩ := p4845
    subst e4846
    subst e4847
    rcases p4852 with ⟨a4853, a4854, a4855⟩ | ⟨a4856, a4857, a4858⟩
    · show WL _ _ _ _ 1287 [(4, vI i), (3, .ref o), (2, .ref m), (1, .ref x), (0, .ref 0)] [vI z4850] _ H4844
      refine wl_of hX hb cL_1287 (rw_aload_n (pc' := 1288) (v := .ref m) rfl rfl rfl ?_)
      refine wl_of hX hb cL_1288 (rw_aload_n (pc' := 1289) (v := .ref 0) rfl rfl rfl ?_)
      refine wl_of hX hb cL_1289 (rw_iload (pc' := 1291) (z := i) rfl rfl ?_)
      refine wl_of hX hb cL_1291 (rw_iconst (pc' := 1292) rfl ?_)
      refine wl_of hX hb cL_1292 (rw_iadd (pc' := 1293) rfl ?_)
      have k4861 : H4844 0 ((i + 1).toNat) = H 0 ((i + 1).toNat) := (f4849 0 ((i + 1).toNat) _ g0 (wmem_s rfl))
      refine wl_of hX hb cL_1293 (xa_I (so := 0) (pc' := 1294) (a := 0) w4848 g0 (wsh_s _) (by omega) (wty_s _ _) (by omega) (by omega) rfl (fun b4859 b4860 => ?_))
      refine wl_of hX hb cL_1294 (rw_aload_n (pc' := 1295) (v := .ref 0) rfl rfl rfl ?_)
      refine wl_of hX hb cL_1295 (rw_iload (pc' := 1297) (z := i) rfl rfl ?_)
      refine wl_of hX hb cL_1297 (rw_iconst (pc' := 1298) rfl ?_)
      refine wl_of hX hb cL_1298 (rw_iadd (pc' := 1299) rfl ?_)
      have k4864 : H4844 0 ((i + 2).toNat) = H 0 ((i + 2).toNat) := (f4849 0 ((i + 2).toNat) _ g0 (wmem_s rfl))
      refine wl_of hX hb cL_1299 (xa_I (so := 0) (pc' := 1300) (a := 0) w4848 g0 (wsh_s _) (by omega) (wty_s _ _) (by omega) (by omega) rfl (fun b4862 b4863 => ?_))
      refine wl_of hX hb cL_1300 (rw_if_eq (p1 := 1307) (p2 := 1303) (by decide) rfl ⟨by omega, by omega⟩ (fun c4865 => ?_) (fun c4865 => ?_))
      · refine wl_of hX hb cL_1307 (rw_iconst (pc' := 1308) rfl ?_)
        have k4866 : wKI H4844 m = wKI H m := (wKI_fr hW gm f4849 rfl)
        have k4867 : H4844 x 9 = H x 9 := (f4849 x 9 _ gx rfl)
        have k4868 : H4844 m 6 = H m 6 := (f4849 m 6 _ gm rfl)
        have k4869 : H4844 x 11 = H x 11 := (f4849 x 11 _ gx rfl)
        have k4870 : H4844 m 13 = H m 13 := (f4849 m 13 _ gm rfl)
        have k4871 : H4844 x 8 = H x 8 := (f4849 x 8 _ gx rfl)
        have k4872 : H4844 m 3 = H m 3 := (f4849 m 3 _ gm rfl)
        rw [show H4844 0 ((i + 1).toNat) = H 0 ((i + 1).toNat) by omega]
        have h4873 : RB T H4844 m e8 d8 := (RB_fr hW gm f4849 rfl hrb8)
        have h4874 : KNN T H4844 m e8 d8 := (KNN_fr hW gm f4849 rfl hknn8)
        refine wl_of hX hb cL_1308 (xc_V (pc' := 1311) (r := m) (as := [vI (H 0 ((i + 1).toNat)), vI 0]) (st := [vI z4850]) (lm_11_170) rfl rfl (Nat.le_of_ble_eq_true rfl) w4848 gm sh_42 (by decide) rfl (by decide) (u_279 (e := e8) (d := d8) w4848 gm ⟨by omega, by omega⟩ ⟨by decide, by decide⟩ (by omega) (by assumption) (by assumption) (by assumption) (by assumption) h4873 h4874) (fun R4875 T4876 H4877 p4878 => ?_))
        obtain ⟨e4879, w4881, f4882, z4883, e4880, b4884, p4885⟩ := p4878
        subst e4879
        subst e4880
        rcases p4885 with ⟨a4886, a4887, a4888, a4889⟩ | ⟨a4890, a4891, a4892, a4893⟩
        · show WL _ _ _ _ 1311 [(4, vI i), (3, .ref o), (2, .ref m), (1, .ref x), (0, .ref 0)] [vI z4883, vI z4850] _ H4877
          refine wl_of hX hb cL_1311 (rw_icmp_eq (p1 := 1653) (p2 := 1314) (by decide) rfl ⟨b4851.1, b4851.2⟩ ⟨b4884.1, b4884.2⟩ (fun c4894 => ?_) (fun c4894 => ?_))
          · have k4895 : H4877 x 9 = H4844 x 9 := (f4882 x 9 _ gx rfl)
            have k4896 : H4877 m 6 = H4844 m 6 := (f4882 m 6 _ gm rfl)
            have k4897 : H4877 x 11 = H4844 x 11 := (f4882 x 11 _ gx rfl)
            have k4898 : H4877 m 13 = H4844 m 13 := (f4882 m 13 _ gm rfl)
            have k4899 : H4877 x 8 = H4844 x 8 := (f4882 x 8 _ gx rfl)
            have k4900 : H4877 m 3 = H4844 m 3 := (f4882 m 3 _ gm rfl)
            have k4901 : H4877 x 0 = H x 0 := ((f4882 x 0 _ gx rfl).trans (f4849 x 0 _ gx rfl))
            have q4902 : H4877 x 0 = (tc : Int) := k4901.trans e0
            have k4903 : H4877 m 5 = H m 5 := ((f4882 m 5 _ gm rfl).trans (f4849 m 5 _ gm rfl))
            have q4904 : H4877 m 5 = (tm : Int) := k4903.trans em
            have k4905 : H4877 x 6 = H x 6 := ((f4882 x 6 _ gx rfl).trans (f4849 x 6 _ gx rfl))
            have q4906 : H4877 x 6 = (cu : Int) := k4905.trans ecu
            have k4907 : H4877 x 7 = H x 7 := ((f4882 x 7 _ gx rfl).trans (f4849 x 7 _ gx rfl))
            have q4908 : H4877 x 7 = (dr : Int) := k4907.trans edr
            have h4909 : CEN T H4877 ce8 e8 d8 := (CEN_fr w4848 gce8 f4882 rfl a4855)
            have h4910 : TP T H4877 tc B := (TP_fr w4848 gtc f4882 rfl (TP_fr hW gtc f4849 rfl htc))
            have h4911 : TM T H4877 tm B := (TM_fr w4848 gtm f4882 rfl (TM_fr hW gtm f4849 rfl htm))
            have h4912 : DD T H4877 cu  := (DD_fr w4848 gcu f4882 rfl (DD_fr hW gcu f4849 rfl hcu))
            have h4913 : DD T H4877 dr  := (DD_fr w4848 gdr f4882 rfl (DD_fr hW gdr f4849 rfl hdr))
            have h4914 : DE T H4877 cu  := (DE_fr w4848 gcu f4882 rfl (DE_fr hW gcu f4849 rfl hdec))
            have h4915 : DE T H4877 dr  := (DE_fr w4848 gdr f4882 rfl (DE_fr hW gdr f4849 rfl hded))
            have h4916 : SP T H4877 x C8 := (SP_fr w4848 gx f4882 rfl (SP_fr hW gx f4849 rfl hsp))
            have h4917 : CU T H4877 cu e8 d8 n8 := (CU_fr w4848 gcu f4882 rfl (CU_fr hW gcu f4849 rfl hcu8))
            have h4918 : CY T H4877 cu (d8 0 3) g8 (H cu 17) := (CY_fr w4848 gcu f4882 rfl (CY_fr hW gcu f4849 rfl h4837))
            have k4919 : H4877 x 3 = H x 3 := ((f4882 x 3 _ gx rfl).trans (f4849 x 3 _ gx rfl))
            have q4920 : H4877 x 3 = (ce8 : Int) := k4919.trans ece8
            have h4921 : HDR T H4877 ce8  := (HDR_fr w4848 gce8 f4882 rfl (HDR_fr hW gce8 f4849 rfl hhdr8))
            have h4922 : RY T H4877 m (d8 0 3) g8 (H m 32) := (RY_fr w4848 gm f4882 rfl (RY_fr hW gm f4849 rfl h4838))
            have h4923 : RB T H4877 m e8 d8 := (RB_fr w4848 gm f4882 rfl h4873)
            exact WL.loc hX (by simp) (next T H4877 ⟨⟨w4881, g0, gx, gm, go, by omega, by omega⟩, ⟨_, tc, tm, cu, dr, _, _, _, _, _, ce8, q4902, gtc, h4910, q4904, gtm, h4911, q4906, gcu, q4908, gdr, h4912, h4913, h4914, h4915, h4916, hC1, hC2, h4917, h4923, (h4918).1, (h4922).1, hE, hZ, (by omega), (by assumption), (by omega), (by first | assumption | exact SG_0), q4920, gce8, h4909, h4921, a4889, gm⟩, by omega, by omega⟩ (by omega) (by omega))
          · exfalso
            omega
        · show WL _ _ _ _ 1311 [(4, vI i), (3, .ref o), (2, .ref m), (1, .ref x), (0, .ref 0)] [vI z4883, vI z4850] _ H4877
          try have _u9 : z4850 = z4883 := XEX_1 (by assumption : XEX _ _ _ _ z4850) (by assumption)
          refine wl_of hX hb cL_1311 (rw_icmp_eq (p1 := 1653) (p2 := 1314) (by decide) rfl ⟨b4851.1, b4851.2⟩ ⟨b4884.1, b4884.2⟩ (fun c4924 => ?_) (fun c4924 => ?_))
          · have k4925 : H4877 x 9 = H4844 x 9 := (f4882 x 9 _ gx rfl)
            have k4926 : H4877 m 6 = H4844 m 6 := (f4882 m 6 _ gm rfl)
            have k4927 : H4877 x 11 = H4844 x 11 := (f4882 x 11 _ gx rfl)
            have k4928 : H4877 m 13 = H4844 m 13 := (f4882 m 13 _ gm rfl)
            have k4929 : H4877 x 8 = H4844 x 8 := (f4882 x 8 _ gx rfl)
            have k4930 : H4877 m 3 = H4844 m 3 := (f4882 m 3 _ gm rfl)
            have k4931 : H4877 x 0 = H x 0 := ((f4882 x 0 _ gx rfl).trans (f4849 x 0 _ gx rfl))
            have q4932 : H4877 x 0 = (tc : Int) := k4931.trans e0
            have k4933 : H4877 m 5 = H m 5 := ((f4882 m 5 _ gm rfl).trans (f4849 m 5 _ gm rfl))
            have q4934 : H4877 m 5 = (tm : Int) := k4933.trans em
            have k4935 : H4877 x 6 = H x 6 := ((f4882 x 6 _ gx rfl).trans (f4849 x 6 _ gx rfl))
            have q4936 : H4877 x 6 = (cu : Int) := k4935.trans ecu
            have k4937 : H4877 x 7 = H x 7 := ((f4882 x 7 _ gx rfl).trans (f4849 x 7 _ gx rfl))
            have q4938 : H4877 x 7 = (dr : Int) := k4937.trans edr
            have h4939 : CEN T H4877 ce8 e8 d8 := (CEN_fr w4848 gce8 f4882 rfl a4855)
            have h4940 : TP T H4877 tc B := (TP_fr w4848 gtc f4882 rfl (TP_fr hW gtc f4849 rfl htc))
            have h4941 : TM T H4877 tm B := (TM_fr w4848 gtm f4882 rfl (TM_fr hW gtm f4849 rfl htm))
            have h4942 : DD T H4877 cu  := (DD_fr w4848 gcu f4882 rfl (DD_fr hW gcu f4849 rfl hcu))
            have h4943 : DD T H4877 dr  := (DD_fr w4848 gdr f4882 rfl (DD_fr hW gdr f4849 rfl hdr))
            have h4944 : DE T H4877 cu  := (DE_fr w4848 gcu f4882 rfl (DE_fr hW gcu f4849 rfl hdec))
            have h4945 : DE T H4877 dr  := (DE_fr w4848 gdr f4882 rfl (DE_fr hW gdr f4849 rfl hded))
            have h4946 : SP T H4877 x C8 := (SP_fr w4848 gx f4882 rfl (SP_fr hW gx f4849 rfl hsp))
            have h4947 : CU T H4877 cu e8 d8 n8 := (CU_fr w4848 gcu f4882 rfl (CU_fr hW gcu f4849 rfl hcu8))
            have h4948 : CY T H4877 cu (d8 0 3) g8 (H cu 17) := (CY_fr w4848 gcu f4882 rfl (CY_fr hW gcu f4849 rfl h4837))
            have k4949 : H4877 x 3 = H x 3 := ((f4882 x 3 _ gx rfl).trans (f4849 x 3 _ gx rfl))
            have q4950 : H4877 x 3 = (ce8 : Int) := k4949.trans ece8
            have h4951 : HDR T H4877 ce8  := (HDR_fr w4848 gce8 f4882 rfl (HDR_fr hW gce8 f4849 rfl hhdr8))
            have h4952 : RY T H4877 m (d8 0 3) g8 (H m 32) := (RY_fr w4848 gm f4882 rfl (RY_fr hW gm f4849 rfl h4838))
            have h4953 : RB T H4877 m e8 d8 := (RB_fr w4848 gm f4882 rfl h4873)
            exact WL.loc hX (by simp) (next T H4877 ⟨⟨w4881, g0, gx, gm, go, by omega, by omega⟩, ⟨_, tc, tm, cu, dr, _, _, _, _, _, ce8, q4932, gtc, h4940, q4934, gtm, h4941, q4936, gcu, q4938, gdr, h4942, h4943, h4944, h4945, h4946, hC1, hC2, h4947, h4953, (h4948).1, (h4952).1, hE, hZ, (by omega), (by assumption), (by omega), (by first | assumption | exact SG_0), q4950, gce8, h4939, h4951, a4893, gm⟩, by omega, by omega⟩ (by omega) (by omega))
          · refine wl_of hX hb cL_1314 (rw_iconst (pc' := 1315) rfl ?_)
            exfalso
            omega
      · exfalso
        omega
    · show WL _ _ _ _ 1287 [(4, vI i), (3, .ref o), (2, .ref m), (1, .ref x), (0, .ref 0)] [vI z4850] _ H4844
      refine wl_of hX hb cL_1287 (rw_aload_n (pc' := 1288) (v := .ref m) rfl rfl rfl ?_)
      refine wl_of hX hb cL_1288 (rw_aload_n (pc' := 1289) (v := .ref 0) rfl rfl rfl ?_)
      refine wl_of hX hb cL_1289 (rw_iload (pc' := 1291) (z := i) rfl rfl ?_)
      refine wl_of hX hb cL_1291 (rw_iconst (pc' := 1292) rfl ?_)
      refine wl_of hX hb cL_1292 (rw_iadd (pc' := 1293) rfl ?_)
      have k4956 : H4844 0 ((i + 1).toNat) = H 0 ((i + 1).toNat) := (f4849 0 ((i + 1).toNat) _ g0 (wmem_s rfl))
      refine wl_of hX hb cL_1293 (xa_I (so := 0) (pc' := 1294) (a := 0) w4848 g0 (wsh_s _) (by omega) (wty_s _ _) (by omega) (by omega) rfl (fun b4954 b4955 => ?_))
      refine wl_of hX hb cL_1294 (rw_aload_n (pc' := 1295) (v := .ref 0) rfl rfl rfl ?_)
      refine wl_of hX hb cL_1295 (rw_iload (pc' := 1297) (z := i) rfl rfl ?_)
      refine wl_of hX hb cL_1297 (rw_iconst (pc' := 1298) rfl ?_)
      refine wl_of hX hb cL_1298 (rw_iadd (pc' := 1299) rfl ?_)
      have k4959 : H4844 0 ((i + 2).toNat) = H 0 ((i + 2).toNat) := (f4849 0 ((i + 2).toNat) _ g0 (wmem_s rfl))
      refine wl_of hX hb cL_1299 (xa_I (so := 0) (pc' := 1300) (a := 0) w4848 g0 (wsh_s _) (by omega) (wty_s _ _) (by omega) (by omega) rfl (fun b4957 b4958 => ?_))
      refine wl_of hX hb cL_1300 (rw_if_eq (p1 := 1307) (p2 := 1303) (by decide) rfl ⟨by omega, by omega⟩ (fun c4960 => ?_) (fun c4960 => ?_))
      · refine wl_of hX hb cL_1307 (rw_iconst (pc' := 1308) rfl ?_)
        have k4961 : wKI H4844 m = wKI H m := (wKI_fr hW gm f4849 rfl)
        have k4962 : H4844 x 9 = H x 9 := (f4849 x 9 _ gx rfl)
        have k4963 : H4844 m 6 = H m 6 := (f4849 m 6 _ gm rfl)
        have k4964 : H4844 x 11 = H x 11 := (f4849 x 11 _ gx rfl)
        have k4965 : H4844 m 13 = H m 13 := (f4849 m 13 _ gm rfl)
        have k4966 : H4844 x 8 = H x 8 := (f4849 x 8 _ gx rfl)
        have k4967 : H4844 m 3 = H m 3 := (f4849 m 3 _ gm rfl)
        rw [show H4844 0 ((i + 1).toNat) = H 0 ((i + 1).toNat) by omega]
        have h4968 : RB T H4844 m e8 d8 := (RB_fr hW gm f4849 rfl hrb8)
        have h4969 : KNN T H4844 m e8 d8 := (KNN_fr hW gm f4849 rfl hknn8)
        refine wl_of hX hb cL_1308 (xc_V (pc' := 1311) (r := m) (as := [vI (H 0 ((i + 1).toNat)), vI 0]) (st := [vI z4850]) (lm_11_170) rfl rfl (Nat.le_of_ble_eq_true rfl) w4848 gm sh_42 (by decide) rfl (by decide) (u_279 (e := e8) (d := d8) w4848 gm ⟨by omega, by omega⟩ ⟨by decide, by decide⟩ (by omega) (by assumption) (by assumption) (by assumption) (by assumption) h4968 h4969) (fun R4970 T4971 H4972 p4973 => ?_))
        obtain ⟨e4974, w4976, f4977, z4978, e4975, b4979, p4980⟩ := p4973
        subst e4974
        subst e4975
        rcases p4980 with ⟨a4981, a4982, a4983, a4984⟩ | ⟨a4985, a4986, a4987, a4988⟩
        · show WL _ _ _ _ 1311 [(4, vI i), (3, .ref o), (2, .ref m), (1, .ref x), (0, .ref 0)] [vI z4978, vI z4850] _ H4972
          refine wl_of hX hb cL_1311 (rw_icmp_eq (p1 := 1653) (p2 := 1314) (by decide) rfl ⟨b4851.1, b4851.2⟩ ⟨b4979.1, b4979.2⟩ (fun c4989 => ?_) (fun c4989 => ?_))
          · have k4990 : H4972 x 9 = H4844 x 9 := (f4977 x 9 _ gx rfl)
            have k4991 : H4972 m 6 = H4844 m 6 := (f4977 m 6 _ gm rfl)
            have k4992 : H4972 x 11 = H4844 x 11 := (f4977 x 11 _ gx rfl)
            have k4993 : H4972 m 13 = H4844 m 13 := (f4977 m 13 _ gm rfl)
            have k4994 : H4972 x 8 = H4844 x 8 := (f4977 x 8 _ gx rfl)
            have k4995 : H4972 m 3 = H4844 m 3 := (f4977 m 3 _ gm rfl)
            have k4996 : H4972 x 0 = H x 0 := ((f4977 x 0 _ gx rfl).trans (f4849 x 0 _ gx rfl))
            have q4997 : H4972 x 0 = (tc : Int) := k4996.trans e0
            have k4998 : H4972 m 5 = H m 5 := ((f4977 m 5 _ gm rfl).trans (f4849 m 5 _ gm rfl))
            have q4999 : H4972 m 5 = (tm : Int) := k4998.trans em
            have k5000 : H4972 x 6 = H x 6 := ((f4977 x 6 _ gx rfl).trans (f4849 x 6 _ gx rfl))
            have q5001 : H4972 x 6 = (cu : Int) := k5000.trans ecu
            have k5002 : H4972 x 7 = H x 7 := ((f4977 x 7 _ gx rfl).trans (f4849 x 7 _ gx rfl))
            have q5003 : H4972 x 7 = (dr : Int) := k5002.trans edr
            have h5004 : CEN T H4972 ce8 e8 d8 := (CEN_fr w4848 gce8 f4977 rfl a4858)
            have h5005 : TP T H4972 tc B := (TP_fr w4848 gtc f4977 rfl (TP_fr hW gtc f4849 rfl htc))
            have h5006 : TM T H4972 tm B := (TM_fr w4848 gtm f4977 rfl (TM_fr hW gtm f4849 rfl htm))
            have h5007 : DD T H4972 cu  := (DD_fr w4848 gcu f4977 rfl (DD_fr hW gcu f4849 rfl hcu))
            have h5008 : DD T H4972 dr  := (DD_fr w4848 gdr f4977 rfl (DD_fr hW gdr f4849 rfl hdr))
            have h5009 : DE T H4972 cu  := (DE_fr w4848 gcu f4977 rfl (DE_fr hW gcu f4849 rfl hdec))
            have h5010 : DE T H4972 dr  := (DE_fr w4848 gdr f4977 rfl (DE_fr hW gdr f4849 rfl hded))
            have h5011 : SP T H4972 x C8 := (SP_fr w4848 gx f4977 rfl (SP_fr hW gx f4849 rfl hsp))
            have h5012 : CU T H4972 cu e8 d8 n8 := (CU_fr w4848 gcu f4977 rfl (CU_fr hW gcu f4849 rfl hcu8))
            have h5013 : CY T H4972 cu (d8 0 3) g8 (H cu 17) := (CY_fr w4848 gcu f4977 rfl (CY_fr hW gcu f4849 rfl h4837))
            have k5014 : H4972 x 3 = H x 3 := ((f4977 x 3 _ gx rfl).trans (f4849 x 3 _ gx rfl))
            have q5015 : H4972 x 3 = (ce8 : Int) := k5014.trans ece8
            have h5016 : HDR T H4972 ce8  := (HDR_fr w4848 gce8 f4977 rfl (HDR_fr hW gce8 f4849 rfl hhdr8))
            have h5017 : RY T H4972 m (d8 0 3) g8 (H m 32) := (RY_fr w4848 gm f4977 rfl (RY_fr hW gm f4849 rfl h4838))
            have h5018 : RB T H4972 m e8 d8 := (RB_fr w4848 gm f4977 rfl h4968)
            exact WL.loc hX (by simp) (next T H4972 ⟨⟨w4976, g0, gx, gm, go, by omega, by omega⟩, ⟨_, tc, tm, cu, dr, _, _, _, _, _, ce8, q4997, gtc, h5005, q4999, gtm, h5006, q5001, gcu, q5003, gdr, h5007, h5008, h5009, h5010, h5011, hC1, hC2, h5012, h5018, (h5013).1, (h5017).1, hE, hZ, (by omega), (by assumption), (by omega), (by first | assumption | exact SG_0), q5015, gce8, h5004, h5016, a4984, gm⟩, by omega, by omega⟩ (by omega) (by omega))
          · refine wl_of hX hb cL_1314 (rw_iconst (pc' := 1315) rfl ?_)
            exfalso
            omega
        · show WL _ _ _ _ 1311 [(4, vI i), (3, .ref o), (2, .ref m), (1, .ref x), (0, .ref 0)] [vI z4978, vI z4850] _ H4972
          try have _u9 : z4850 = z4978 := XEX_1 (by assumption : XEX _ _ _ _ z4850) (by assumption)
          refine wl_of hX hb cL_1311 (rw_icmp_eq (p1 := 1653) (p2 := 1314) (by decide) rfl ⟨b4851.1, b4851.2⟩ ⟨b4979.1, b4979.2⟩ (fun c5019 => ?_) (fun c5019 => ?_))
          · have k5020 : H4972 x 9 = H4844 x 9 := (f4977 x 9 _ gx rfl)
            have k5021 : H4972 m 6 = H4844 m 6 := (f4977 m 6 _ gm rfl)
            have k5022 : H4972 x 11 = H4844 x 11 := (f4977 x 11 _ gx rfl)
            have k5023 : H4972 m 13 = H4844 m 13 := (f4977 m 13 _ gm rfl)
            have k5024 : H4972 x 8 = H4844 x 8 := (f4977 x 8 _ gx rfl)
            have k5025 : H4972 m 3 = H4844 m 3 := (f4977 m 3 _ gm rfl)
            have k5026 : H4972 x 0 = H x 0 := ((f4977 x 0 _ gx rfl).trans (f4849 x 0 _ gx rfl))
            have q5027 : H4972 x 0 = (tc : Int) := k5026.trans e0
            have k5028 : H4972 m 5 = H m 5 := ((f4977 m 5 _ gm rfl).trans (f4849 m 5 _ gm rfl))
            have q5029 : H4972 m 5 = (tm : Int) := k5028.trans em
            have k5030 : H4972 x 6 = H x 6 := ((f4977 x 6 _ gx rfl).trans (f4849 x 6 _ gx rfl))
            have q5031 : H4972 x 6 = (cu : Int) := k5030.trans ecu
            have k5032 : H4972 x 7 = H x 7 := ((f4977 x 7 _ gx rfl).trans (f4849 x 7 _ gx rfl))
            have q5033 : H4972 x 7 = (dr : Int) := k5032.trans edr
            have h5034 : CEN T H4972 ce8 e8 d8 := (CEN_fr w4848 gce8 f4977 rfl a4858)
            have h5035 : TP T H4972 tc B := (TP_fr w4848 gtc f4977 rfl (TP_fr hW gtc f4849 rfl htc))
            have h5036 : TM T H4972 tm B := (TM_fr w4848 gtm f4977 rfl (TM_fr hW gtm f4849 rfl htm))
            have h5037 : DD T H4972 cu  := (DD_fr w4848 gcu f4977 rfl (DD_fr hW gcu f4849 rfl hcu))
            have h5038 : DD T H4972 dr  := (DD_fr w4848 gdr f4977 rfl (DD_fr hW gdr f4849 rfl hdr))
            have h5039 : DE T H4972 cu  := (DE_fr w4848 gcu f4977 rfl (DE_fr hW gcu f4849 rfl hdec))
            have h5040 : DE T H4972 dr  := (DE_fr w4848 gdr f4977 rfl (DE_fr hW gdr f4849 rfl hded))
            have h5041 : SP T H4972 x C8 := (SP_fr w4848 gx f4977 rfl (SP_fr hW gx f4849 rfl hsp))
            have h5042 : CU T H4972 cu e8 d8 n8 := (CU_fr w4848 gcu f4977 rfl (CU_fr hW gcu f4849 rfl hcu8))
            have h5043 : CY T H4972 cu (d8 0 3) g8 (H cu 17) := (CY_fr w4848 gcu f4977 rfl (CY_fr hW gcu f4849 rfl h4837))
            have k5044 : H4972 x 3 = H x 3 := ((f4977 x 3 _ gx rfl).trans (f4849 x 3 _ gx rfl))
            have q5045 : H4972 x 3 = (ce8 : Int) := k5044.trans ece8
            have h5046 : HDR T H4972 ce8  := (HDR_fr w4848 gce8 f4977 rfl (HDR_fr hW gce8 f4849 rfl hhdr8))
            have h5047 : RY T H4972 m (d8 0 3) g8 (H m 32) := (RY_fr w4848 gm f4977 rfl (RY_fr hW gm f4849 rfl h4838))
            have h5048 : RB T H4972 m e8 d8 := (RB_fr w4848 gm f4977 rfl h4968)
            exact WL.loc hX (by simp) (next T H4972 ⟨⟨w4976, g0, gx, gm, go, by omega, by omega⟩, ⟨_, tc, tm, cu, dr, _, _, _, _, _, ce8, q5027, gtc, h5035, q5029, gtm, h5036, q5031, gcu, q5033, gdr, h5037, h5038, h5039, h5040, h5041, hC1, hC2, h5042, h5048, (h5043).1, (h5047).1, hE, hZ, (by omega), (by assumption), (by omega), (by first | assumption | exact SG_0), q5045, gce8, h5034, h5046, a4988, gm⟩, by omega, by omega⟩ (by omega) (by omega))
          · refine wl_of hX hb cL_1314 (rw_iconst (pc' := 1315) rfl ?_)
            exfalso
            omega
      · exfalso
        omega
  · refine wl_of hX hb cL_1279 (rw_iconst (pc' := 1280) rfl ?_)
    refine wl_of hX hb cL_1280 (rw_goto (p1 := 1284) (by decide) ?_)
    obtain ⟨B, tc, tm, cu, dr, C8, e8, d8, n8, g8, ce8, e0, gtc, htc, em, gtm, htm, ecu, gcu, edr, gdr, hcu, hdr, hdec, hded, hsp, hC1, hC2, hcu8, hrb8, hcg8, hmn8, hE, hZ, hn8, hXA, hV8, hSG, ece8, gce8, hcen8, hhdr8, hknn8, -⟩ := hXI
    have hN3 := RB_n3 hrb8
    have hE13 : ∀ h : Nat, h < 24 → 0 ≤ e8 13 h ∧ e8 13 h ≤ 100 := fun k hk => by
      obtain ⟨s, h1, h2, h3⟩ := hcu8.1.2.2.1
      exact ⟨(h3 k hk).1, (h3 k hk).2.1⟩
    have hXW := hXA.1
    have hXN := hXA.2
    have hE0 : e8 0 3 = d8 0 3 ∧ e8 0 0 = d8 0 0 := by
      have h := hE 0 (by decide)
      exact ⟨congrFun h 3, congrFun h 0⟩
    have u5049 := CU_k hcu8
    have h5050 : CY T H cu (d8 0 3) g8 (H cu 17) := ⟨hcg8, rfl⟩
    have h5051 : RY T H m (d8 0 3) g8 (H m 32) := ⟨hmn8, rfl⟩
    obtain ⟨t9, ht9⟩ : ∃ t : Int, t = H x 9 := ⟨_, rfl⟩
    obtain ⟨y9, hy9⟩ : ∃ y : Int, y = 1 := ⟨_, rfl⟩
    obtain ⟨r5052, q5053, g5054⟩ := hW.ref gx (t' := 6) (n := 13) (j := 2) (p := 0) (q := 0) rfl (by decide) rfl
    refine wl_of hX hb cL_1284 (xc_V (pc' := 1287) (r := x) (as := [vI (H 0 ((i + 1).toNat)), vI 1]) (st := []) (lm_11_167) rfl rfl (Nat.le_of_ble_eq_true rfl) hW gx sh_1 (by decide) rfl (by decide) (u_146 (e := e8) (d := d8) (n := n8) hW gx ⟨by omega, by omega⟩ ⟨by decide, by decide⟩ ecu gcu q5053 g5054 ece8 gce8 (by assumption) (by assumption) (by omega) (by omega) (by omega) (by omega) hcu8 hcen8 hhdr8) (fun R5055 T5056 H5057 p5058 => ?_))
    obtain ⟨e5059, w5061, f5062, z5063, e5060, b5064, p5065⟩ := p5058
    subst e5059
    subst e5060
    rcases p5065 with ⟨a5066, a5067, a5068⟩ | ⟨a5069, a5070, a5071⟩
    · show WL _ _ _ _ 1287 [(4, vI i), (3, .ref o), (2, .ref m), (1, .ref x), (0, .ref 0)] [vI z5063] _ H5057
      refine wl_of hX hb cL_1287 (rw_aload_n (pc' := 1288) (v := .ref m) rfl rfl rfl ?_)
      refine wl_of hX hb cL_1288 (rw_aload_n (pc' := 1289) (v := .ref 0) rfl rfl rfl ?_)
      refine wl_of hX hb cL_1289 (rw_iload (pc' := 1291) (z := i) rfl rfl ?_)
      refine wl_of hX hb cL_1291 (rw_iconst (pc' := 1292) rfl ?_)
      refine wl_of hX hb cL_1292 (rw_iadd (pc' := 1293) rfl ?_)
      have k5074 : H5057 0 ((i + 1).toNat) = H 0 ((i + 1).toNat) := (f5062 0 ((i + 1).toNat) _ g0 (wmem_s rfl))
      refine wl_of hX hb cL_1293 (xa_I (so := 0) (pc' := 1294) (a := 0) w5061 g0 (wsh_s _) (by omega) (wty_s _ _) (by omega) (by omega) rfl (fun b5072 b5073 => ?_))
      refine wl_of hX hb cL_1294 (rw_aload_n (pc' := 1295) (v := .ref 0) rfl rfl rfl ?_)
      refine wl_of hX hb cL_1295 (rw_iload (pc' := 1297) (z := i) rfl rfl ?_)
      refine wl_of hX hb cL_1297 (rw_iconst (pc' := 1298) rfl ?_)
      refine wl_of hX hb cL_1298 (rw_iadd (pc' := 1299) rfl ?_)
      have k5077 : H5057 0 ((i + 2).toNat) = H 0 ((i + 2).toNat) := (f5062 0 ((i + 2).toNat) _ g0 (wmem_s rfl))
      refine wl_of hX hb cL_1299 (xa_I (so := 0) (pc' := 1300) (a := 0) w5061 g0 (wsh_s _) (by omega) (wty_s _ _) (by omega) (by omega) rfl (fun b5075 b5076 => ?_))
      refine wl_of hX hb cL_1300 (rw_if_eq (p1 := 1307) (p2 := 1303) (by decide) rfl ⟨by omega, by omega⟩ (fun c5078 => ?_) (fun c5078 => ?_))
      · exfalso
        omega
      · refine wl_of hX hb cL_1303 (rw_iconst (pc' := 1304) rfl ?_)
        refine wl_of hX hb cL_1304 (rw_goto (p1 := 1308) (by decide) ?_)
        have k5167 : wKI H5057 m = wKI H m := (wKI_fr hW gm f5062 rfl)
        have k5168 : H5057 x 9 = H x 9 := (f5062 x 9 _ gx rfl)
        have k5169 : H5057 m 6 = H m 6 := (f5062 m 6 _ gm rfl)
        have k5170 : H5057 x 11 = H x 11 := (f5062 x 11 _ gx rfl)
        have k5171 : H5057 m 13 = H m 13 := (f5062 m 13 _ gm rfl)
        have k5172 : H5057 x 8 = H x 8 := (f5062 x 8 _ gx rfl)
        have k5173 : H5057 m 3 = H m 3 := (f5062 m 3 _ gm rfl)
        rw [show H5057 0 ((i + 1).toNat) = H 0 ((i + 1).toNat) by omega]
        have h5174 : RB T H5057 m e8 d8 := (RB_fr hW gm f5062 rfl hrb8)
        have h5175 : KNN T H5057 m e8 d8 := (KNN_fr hW gm f5062 rfl hknn8)
        refine wl_of hX hb cL_1308 (xc_V (pc' := 1311) (r := m) (as := [vI (H 0 ((i + 1).toNat)), vI 1]) (st := [vI z5063]) (lm_11_170) rfl rfl (Nat.le_of_ble_eq_true rfl) w5061 gm sh_42 (by decide) rfl (by decide) (u_279 (e := e8) (d := d8) w5061 gm ⟨by omega, by omega⟩ ⟨by decide, by decide⟩ (by omega) (by assumption) (by assumption) (by assumption) (by assumption) h5174 h5175) (fun R5176 T5177 H5178 p5179 => ?_))
        obtain ⟨e5180, w5182, f5183, z5184, e5181, b5185, p5186⟩ := p5179
        subst e5180
        subst e5181
        rcases p5186 with ⟨a5187, a5188, a5189, a5190⟩ | ⟨a5191, a5192, a5193, a5194⟩
        · show WL _ _ _ _ 1311 [(4, vI i), (3, .ref o), (2, .ref m), (1, .ref x), (0, .ref 0)] [vI z5184, vI z5063] _ H5178
          refine wl_of hX hb cL_1311 (rw_icmp_eq (p1 := 1653) (p2 := 1314) (by decide) rfl ⟨b5064.1, b5064.2⟩ ⟨b5185.1, b5185.2⟩ (fun c5195 => ?_) (fun c5195 => ?_))
          · have k5196 : H5178 x 9 = H5057 x 9 := (f5183 x 9 _ gx rfl)
            have k5197 : H5178 m 6 = H5057 m 6 := (f5183 m 6 _ gm rfl)
            have k5198 : H5178 x 11 = H5057 x 11 := (f5183 x 11 _ gx rfl)
            have k5199 : H5178 m 13 = H5057 m 13 := (f5183 m 13 _ gm rfl)
            have k5200 : H5178 x 8 = H5057 x 8 := (f5183 x 8 _ gx rfl)
            have k5201 : H5178 m 3 = H5057 m 3 := (f5183 m 3 _ gm rfl)
            have k5202 : H5178 x 0 = H x 0 := ((f5183 x 0 _ gx rfl).trans (f5062 x 0 _ gx rfl))
            have q5203 : H5178 x 0 = (tc : Int) := k5202.trans e0
            have k5204 : H5178 m 5 = H m 5 := ((f5183 m 5 _ gm rfl).trans (f5062 m 5 _ gm rfl))
            have q5205 : H5178 m 5 = (tm : Int) := k5204.trans em
            have k5206 : H5178 x 6 = H x 6 := ((f5183 x 6 _ gx rfl).trans (f5062 x 6 _ gx rfl))
            have q5207 : H5178 x 6 = (cu : Int) := k5206.trans ecu
            have k5208 : H5178 x 7 = H x 7 := ((f5183 x 7 _ gx rfl).trans (f5062 x 7 _ gx rfl))
            have q5209 : H5178 x 7 = (dr : Int) := k5208.trans edr
            have h5210 : CEN T H5178 ce8 e8 d8 := (CEN_fr w5061 gce8 f5183 rfl a5068)
            have h5211 : TP T H5178 tc B := (TP_fr w5061 gtc f5183 rfl (TP_fr hW gtc f5062 rfl htc))
            have h5212 : TM T H5178 tm B := (TM_fr w5061 gtm f5183 rfl (TM_fr hW gtm f5062 rfl htm))
            have h5213 : DD T H5178 cu  := (DD_fr w5061 gcu f5183 rfl (DD_fr hW gcu f5062 rfl hcu))
            have h5214 : DD T H5178 dr  := (DD_fr w5061 gdr f5183 rfl (DD_fr hW gdr f5062 rfl hdr))
            have h5215 : DE T H5178 cu  := (DE_fr w5061 gcu f5183 rfl (DE_fr hW gcu f5062 rfl hdec))
            have h5216 : DE T H5178 dr  := (DE_fr w5061 gdr f5183 rfl (DE_fr hW gdr f5062 rfl hded))
            have h5217 : SP T H5178 x C8 := (SP_fr w5061 gx f5183 rfl (SP_fr hW gx f5062 rfl hsp))
            have h5218 : CU T H5178 cu e8 d8 n8 := (CU_fr w5061 gcu f5183 rfl (CU_fr hW gcu f5062 rfl hcu8))
            have h5219 : CY T H5178 cu (d8 0 3) g8 (H cu 17) := (CY_fr w5061 gcu f5183 rfl (CY_fr hW gcu f5062 rfl h5050))
            have k5220 : H5178 x 3 = H x 3 := ((f5183 x 3 _ gx rfl).trans (f5062 x 3 _ gx rfl))
            have q5221 : H5178 x 3 = (ce8 : Int) := k5220.trans ece8
            have h5222 : HDR T H5178 ce8  := (HDR_fr w5061 gce8 f5183 rfl (HDR_fr hW gce8 f5062 rfl hhdr8))
            have h5223 : RY T H5178 m (d8 0 3) g8 (H m 32) := (RY_fr w5061 gm f5183 rfl (RY_fr hW gm f5062 rfl h5051))
            have h5224 : RB T H5178 m e8 d8 := (RB_fr w5061 gm f5183 rfl h5174)
            exact WL.loc hX (by simp) (next T H5178 ⟨⟨w5182, g0, gx, gm, go, by omega, by omega⟩, ⟨_, tc, tm, cu, dr, _, _, _, _, _, ce8, q5203, gtc, h5211, q5205, gtm, h5212, q5207, gcu, q5209, gdr, h5213, h5214, h5215, h5216, h5217, hC1, hC2, h5218, h5224, (h5219).1, (h5223).1, hE, hZ, (by omega), (by assumption), (by omega), (by first | assumption | exact SG_0), q5221, gce8, h5210, h5222, a5190, gm⟩, by omega, by omega⟩ (by omega) (by omega))
          · exfalso
            omega
        · show WL _ _ _ _ 1311 [(4, vI i), (3, .ref o), (2, .ref m), (1, .ref x), (0, .ref 0)] [vI z5184, vI z5063] _ H5178
          try have _u9 : z5063 = z5184 := XEX_1 (by assumption : XEX _ _ _ _ z5063) (by assumption)
          refine wl_of hX hb cL_1311 (rw_icmp_eq (p1 := 1653) (p2 := 1314) (by decide) rfl ⟨b5064.1, b5064.2⟩ ⟨b5185.1, b5185.2⟩ (fun c5225 => ?_) (fun c5225 => ?_))
          · have k5226 : H5178 x 9 = H5057 x 9 := (f5183 x 9 _ gx rfl)
            have k5227 : H5178 m 6 = H5057 m 6 := (f5183 m 6 _ gm rfl)
            have k5228 : H5178 x 11 = H5057 x 11 := (f5183 x 11 _ gx rfl)
            have k5229 : H5178 m 13 = H5057 m 13 := (f5183 m 13 _ gm rfl)
            have k5230 : H5178 x 8 = H5057 x 8 := (f5183 x 8 _ gx rfl)
            have k5231 : H5178 m 3 = H5057 m 3 := (f5183 m 3 _ gm rfl)
            have k5232 : H5178 x 0 = H x 0 := ((f5183 x 0 _ gx rfl).trans (f5062 x 0 _ gx rfl))
            have q5233 : H5178 x 0 = (tc : Int) := k5232.trans e0
            have k5234 : H5178 m 5 = H m 5 := ((f5183 m 5 _ gm rfl).trans (f5062 m 5 _ gm rfl))
            have q5235 : H5178 m 5 = (tm : Int) := k5234.trans em
            have k5236 : H5178 x 6 = H x 6 := ((f5183 x 6 _ gx rfl).trans (f5062 x 6 _ gx rfl))
            have q5237 : H5178 x 6 = (cu : Int) := k5236.trans ecu
            have k5238 : H5178 x 7 = H x 7 := ((f5183 x 7 _ gx rfl).trans (f5062 x 7 _ gx rfl))
            have q5239 : H5178 x 7 = (dr : Int) := k5238.trans edr
            have h5240 : CEN T H5178 ce8 e8 d8 := (CEN_fr w5061 gce8 f5183 rfl a5068)
            have h5241 : TP T H5178 tc B := (TP_fr w5061 gtc f5183 rfl (TP_fr hW gtc f5062 rfl htc))
            have h5242 : TM T H5178 tm B := (TM_fr w5061 gtm f5183 rfl (TM_fr hW gtm f5062 rfl htm))
            have h5243 : DD T H5178 cu  := (DD_fr w5061 gcu f5183 rfl (DD_fr hW gcu f5062 rfl hcu))
            have h5244 : DD T H5178 dr  := (DD_fr w5061 gdr f5183 rfl (DD_fr hW gdr f5062 rfl hdr))
            have h5245 : DE T H5178 cu  := (DE_fr w5061 gcu f5183 rfl (DE_fr hW gcu f5062 rfl hdec))
            have h5246 : DE T H5178 dr  := (DE_fr w5061 gdr f5183 rfl (DE_fr hW gdr f5062 rfl hded))
            have h5247 : SP T H5178 x C8 := (SP_fr w5061 gx f5183 rfl (SP_fr hW gx f5062 rfl hsp))
            have h5248 : CU T H5178 cu e8 d8 n8 := (CU_fr w5061 gcu f5183 rfl (CU_fr hW gcu f5062 rfl hcu8))
            have h5249 : CY T H5178 cu (d8 0 3) g8 (H cu 17) := (CY_fr w5061 gcu f5183 rfl (CY_fr hW gcu f5062 rfl h5050))
            have k5250 : H5178 x 3 = H x 3 := ((f5183 x 3 _ gx rfl).trans (f5062 x 3 _ gx rfl))
            have q5251 : H5178 x 3 = (ce8 : Int) := k5250.trans ece8
            have h5252 : HDR T H5178 ce8  := (HDR_fr w5061 gce8 f5183 rfl (HDR_fr hW gce8 f5062 rfl hhdr8))
            have h5253 : RY T H5178 m (d8 0 3) g8 (H m 32) := (RY_fr w5061 gm f5183 rfl (RY_fr hW gm f5062 rfl h5051))
            have h5254 : RB T H5178 m e8 d8 := (RB_fr w5061 gm f5183 rfl h5174)
            exact WL.loc hX (by simp) (next T H5178 ⟨⟨w5182, g0, gx, gm, go, by omega, by omega⟩, ⟨_, tc, tm, cu, dr, _, _, _, _, _, ce8, q5233, gtc, h5241, q5235, gtm, h5242, q5237, gcu, q5239, gdr, h5243, h5244, h5245, h5246, h5247, hC1, hC2, h5248, h5254, (h5249).1, (h5253).1, hE, hZ, (by omega), (by assumption), (by omega), (by first | assumption | exact SG_0), q5251, gce8, h5240, h5252, a5194, gm⟩, by omega, by omega⟩ (by omega) (by omega))
          · refine wl_of hX hb cL_1314 (rw_iconst (pc' := 1315) rfl ?_)
            exfalso
            omega
    · show WL _ _ _ _ 1287 [(4, vI i), (3, .ref o), (2, .ref m), (1, .ref x), (0, .ref 0)] [vI z5063] _ H5057
      refine wl_of hX hb cL_1287 (rw_aload_n (pc' := 1288) (v := .ref m) rfl rfl rfl ?_)
      refine wl_of hX hb cL_1288 (rw_aload_n (pc' := 1289) (v := .ref 0) rfl rfl rfl ?_)
      refine wl_of hX hb cL_1289 (rw_iload (pc' := 1291) (z := i) rfl rfl ?_)
      refine wl_of hX hb cL_1291 (rw_iconst (pc' := 1292) rfl ?_)
      refine wl_of hX hb cL_1292 (rw_iadd (pc' := 1293) rfl ?_)
      have k5257 : H5057 0 ((i + 1).toNat) = H 0 ((i + 1).toNat) := (f5062 0 ((i + 1).toNat) _ g0 (wmem_s rfl))
      refine wl_of hX hb cL_1293 (xa_I (so := 0) (pc' := 1294) (a := 0) w5061 g0 (wsh_s _) (by omega) (wty_s _ _) (by omega) (by omega) rfl (fun b5255 b5256 => ?_))
      refine wl_of hX hb cL_1294 (rw_aload_n (pc' := 1295) (v := .ref 0) rfl rfl rfl ?_)
      refine wl_of hX hb cL_1295 (rw_iload (pc' := 1297) (z := i) rfl rfl ?_)
      refine wl_of hX hb cL_1297 (rw_iconst (pc' := 1298) rfl ?_)
      refine wl_of hX hb cL_1298 (rw_iadd (pc' := 1299) rfl ?_)
      have k5260 : H5057 0 ((i + 2).toNat) = H 0 ((i + 2).toNat) := (f5062 0 ((i + 2).toNat) _ g0 (wmem_s rfl))
      refine wl_of hX hb cL_1299 (xa_I (so := 0) (pc' := 1300) (a := 0) w5061 g0 (wsh_s _) (by omega) (wty_s _ _) (by omega) (by omega) rfl (fun b5258 b5259 => ?_))
      refine wl_of hX hb cL_1300 (rw_if_eq (p1 := 1307) (p2 := 1303) (by decide) rfl ⟨by omega, by omega⟩ (fun c5261 => ?_) (fun c5261 => ?_))
      · exfalso
        omega
      · refine wl_of hX hb cL_1303 (rw_iconst (pc' := 1304) rfl ?_)
        refine wl_of hX hb cL_1304 (rw_goto (p1 := 1308) (by decide) ?_)
        have k5350 : wKI H5057 m = wKI H m := (wKI_fr hW gm f5062 rfl)
        have k5351 : H5057 x 9 = H x 9 := (f5062 x 9 _ gx rfl)
        have k5352 : H5057 m 6 = H m 6 := (f5062 m 6 _ gm rfl)
        have k5353 : H5057 x 11 = H x 11 := (f5062 x 11 _ gx rfl)
        have k5354 : H5057 m 13 = H m 13 := (f5062 m 13 _ gm rfl)
        have k5355 : H5057 x 8 = H x 8 := (f5062 x 8 _ gx rfl)
        have k5356 : H5057 m 3 = H m 3 := (f5062 m 3 _ gm rfl)
        rw [show H5057 0 ((i + 1).toNat) = H 0 ((i + 1).toNat) by omega]
        have h5357 : RB T H5057 m e8 d8 := (RB_fr hW gm f5062 rfl hrb8)
        have h5358 : KNN T H5057 m e8 d8 := (KNN_fr hW gm f5062 rfl hknn8)
        refine wl_of hX hb cL_1308 (xc_V (pc' := 1311) (r := m) (as := [vI (H 0 ((i + 1).toNat)), vI 1]) (st := [vI z5063]) (lm_11_170) rfl rfl (Nat.le_of_ble_eq_true rfl) w5061 gm sh_42 (by decide) rfl (by decide) (u_279 (e := e8) (d := d8) w5061 gm ⟨by omega, by omega⟩ ⟨by decide, by decide⟩ (by omega) (by assumption) (by assumption) (by assumption) (by assumption) h5357 h5358) (fun R5359 T5360 H5361 p5362 => ?_))
        obtain ⟨e5363, w5365, f5366, z5367, e5364, b5368, p5369⟩ := p5362
        subst e5363
        subst e5364
        rcases p5369 with ⟨a5370, a5371, a5372, a5373⟩ | ⟨a5374, a5375, a5376, a5377⟩
        · show WL _ _ _ _ 1311 [(4, vI i), (3, .ref o), (2, .ref m), (1, .ref x), (0, .ref 0)] [vI z5367, vI z5063] _ H5361
          refine wl_of hX hb cL_1311 (rw_icmp_eq (p1 := 1653) (p2 := 1314) (by decide) rfl ⟨b5064.1, b5064.2⟩ ⟨b5368.1, b5368.2⟩ (fun c5378 => ?_) (fun c5378 => ?_))
          · have k5379 : H5361 x 9 = H5057 x 9 := (f5366 x 9 _ gx rfl)
            have k5380 : H5361 m 6 = H5057 m 6 := (f5366 m 6 _ gm rfl)
            have k5381 : H5361 x 11 = H5057 x 11 := (f5366 x 11 _ gx rfl)
            have k5382 : H5361 m 13 = H5057 m 13 := (f5366 m 13 _ gm rfl)
            have k5383 : H5361 x 8 = H5057 x 8 := (f5366 x 8 _ gx rfl)
            have k5384 : H5361 m 3 = H5057 m 3 := (f5366 m 3 _ gm rfl)
            have k5385 : H5361 x 0 = H x 0 := ((f5366 x 0 _ gx rfl).trans (f5062 x 0 _ gx rfl))
            have q5386 : H5361 x 0 = (tc : Int) := k5385.trans e0
            have k5387 : H5361 m 5 = H m 5 := ((f5366 m 5 _ gm rfl).trans (f5062 m 5 _ gm rfl))
            have q5388 : H5361 m 5 = (tm : Int) := k5387.trans em
            have k5389 : H5361 x 6 = H x 6 := ((f5366 x 6 _ gx rfl).trans (f5062 x 6 _ gx rfl))
            have q5390 : H5361 x 6 = (cu : Int) := k5389.trans ecu
            have k5391 : H5361 x 7 = H x 7 := ((f5366 x 7 _ gx rfl).trans (f5062 x 7 _ gx rfl))
            have q5392 : H5361 x 7 = (dr : Int) := k5391.trans edr
            have h5393 : CEN T H5361 ce8 e8 d8 := (CEN_fr w5061 gce8 f5366 rfl a5071)
            have h5394 : TP T H5361 tc B := (TP_fr w5061 gtc f5366 rfl (TP_fr hW gtc f5062 rfl htc))
            have h5395 : TM T H5361 tm B := (TM_fr w5061 gtm f5366 rfl (TM_fr hW gtm f5062 rfl htm))
            have h5396 : DD T H5361 cu  := (DD_fr w5061 gcu f5366 rfl (DD_fr hW gcu f5062 rfl hcu))
            have h5397 : DD T H5361 dr  := (DD_fr w5061 gdr f5366 rfl (DD_fr hW gdr f5062 rfl hdr))
            have h5398 : DE T H5361 cu  := (DE_fr w5061 gcu f5366 rfl (DE_fr hW gcu f5062 rfl hdec))
            have h5399 : DE T H5361 dr  := (DE_fr w5061 gdr f5366 rfl (DE_fr hW gdr f5062 rfl hded))
            have h5400 : SP T H5361 x C8 := (SP_fr w5061 gx f5366 rfl (SP_fr hW gx f5062 rfl hsp))
            have h5401 : CU T H5361 cu e8 d8 n8 := (CU_fr w5061 gcu f5366 rfl (CU_fr hW gcu f5062 rfl hcu8))
            have h5402 : CY T H5361 cu (d8 0 3) g8 (H cu 17) := (CY_fr w5061 gcu f5366 rfl (CY_fr hW gcu f5062 rfl h5050))
            have k5403 : H5361 x 3 = H x 3 := ((f5366 x 3 _ gx rfl).trans (f5062 x 3 _ gx rfl))
            have q5404 : H5361 x 3 = (ce8 : Int) := k5403.trans ece8
            have h5405 : HDR T H5361 ce8  := (HDR_fr w5061 gce8 f5366 rfl (HDR_fr hW gce8 f5062 rfl hhdr8))
            have h5406 : RY T H5361 m (d8 0 3) g8 (H m 32) := (RY_fr w5061 gm f5366 rfl (RY_fr hW gm f5062 rfl h5051))
            have h5407 : RB T H5361 m e8 d8 := (RB_fr w5061 gm f5366 rfl h5357)
            exact WL.loc hX (by simp) (next T H5361 ⟨⟨w5365, g0, gx, gm, go, by omega, by omega⟩, ⟨_, tc, tm, cu, dr, _, _, _, _, _, ce8, q5386, gtc, h5394, q5388, gtm, h5395, q5390, gcu, q5392, gdr, h5396, h5397, h5398, h5399, h5400, hC1, hC2, h5401, h5407, (h5402).1, (h5406).1, hE, hZ, (by omega), (by assumption), (by omega), (by first | assumption | exact SG_0), q5404, gce8, h5393, h5405, a5373, gm⟩, by omega, by omega⟩ (by omega) (by omega))
          · refine wl_of hX hb cL_1314 (rw_iconst (pc' := 1315) rfl ?_)
            exfalso
            omega
        · show WL _ _ _ _ 1311 [(4, vI i), (3, .ref o), (2, .ref m), (1, .ref x), (0, .ref 0)] [vI z5367, vI z5063] _ H5361
          try have _u9 : z5063 = z5367 := XEX_1 (by assumption : XEX _ _ _ _ z5063) (by assumption)
          refine wl_of hX hb cL_1311 (rw_icmp_eq (p1 := 1653) (p2 := 1314) (by decide) rfl ⟨b5064.1, b5064.2⟩ ⟨b5368.1, b5368.2⟩ (fun c5408 => ?_) (fun c5408 => ?_))
          · have k5409 : H5361 x 9 = H5057 x 9 := (f5366 x 9 _ gx rfl)
            have k5410 : H5361 m 6 = H5057 m 6 := (f5366 m 6 _ gm rfl)
            have k5411 : H5361 x 11 = H5057 x 11 := (f5366 x 11 _ gx rfl)
            have k5412 : H5361 m 13 = H5057 m 13 := (f5366 m 13 _ gm rfl)
            have k5413 : H5361 x 8 = H5057 x 8 := (f5366 x 8 _ gx rfl)
            have k5414 : H5361 m 3 = H5057 m 3 := (f5366 m 3 _ gm rfl)
            have k5415 : H5361 x 0 = H x 0 := ((f5366 x 0 _ gx rfl).trans (f5062 x 0 _ gx rfl))
            have q5416 : H5361 x 0 = (tc : Int) := k5415.trans e0
            have k5417 : H5361 m 5 = H m 5 := ((f5366 m 5 _ gm rfl).trans (f5062 m 5 _ gm rfl))
            have q5418 : H5361 m 5 = (tm : Int) := k5417.trans em
            have k5419 : H5361 x 6 = H x 6 := ((f5366 x 6 _ gx rfl).trans (f5062 x 6 _ gx rfl))
            have q5420 : H5361 x 6 = (cu : Int) := k5419.trans ecu
            have k5421 : H5361 x 7 = H x 7 := ((f5366 x 7 _ gx rfl).trans (f5062 x 7 _ gx rfl))
            have q5422 : H5361 x 7 = (dr : Int) := k5421.trans edr
            have h5423 : CEN T H5361 ce8 e8 d8 := (CEN_fr w5061 gce8 f5366 rfl a5071)
            have h5424 : TP T H5361 tc B := (TP_fr w5061 gtc f5366 rfl (TP_fr hW gtc f5062 rfl htc))
            have h5425 : TM T H5361 tm B := (TM_fr w5061 gtm f5366 rfl (TM_fr hW gtm f5062 rfl htm))
            have h5426 : DD T H5361 cu  := (DD_fr w5061 gcu f5366 rfl (DD_fr hW gcu f5062 rfl hcu))
            have h5427 : DD T H5361 dr  := (DD_fr w5061 gdr f5366 rfl (DD_fr hW gdr f5062 rfl hdr))
            have h5428 : DE T H5361 cu  := (DE_fr w5061 gcu f5366 rfl (DE_fr hW gcu f5062 rfl hdec))
            have h5429 : DE T H5361 dr  := (DE_fr w5061 gdr f5366 rfl (DE_fr hW gdr f5062 rfl hded))
            have h5430 : SP T H5361 x C8 := (SP_fr w5061 gx f5366 rfl (SP_fr hW gx f5062 rfl hsp))
            have h5431 : CU T H5361 cu e8 d8 n8 := (CU_fr w5061 gcu f5366 rfl (CU_fr hW gcu f5062 rfl hcu8))
            have h5432 : CY T H5361 cu (d8 0 3) g8 (H cu 17) := (CY_fr w5061 gcu f5366 rfl (CY_fr hW gcu f5062 rfl h5050))
            have k5433 : H5361 x 3 = H x 3 := ((f5366 x 3 _ gx rfl).trans (f5062 x 3 _ gx rfl))
            have q5434 : H5361 x 3 = (ce8 : Int) := k5433.trans ece8
            have h5435 : HDR T H5361 ce8  := (HDR_fr w5061 gce8 f5366 rfl (HDR_fr hW gce8 f5062 rfl hhdr8))
            have h5436 : RY T H5361 m (d8 0 3) g8 (H m 32) := (RY_fr w5061 gm f5366 rfl (RY_fr hW gm f5062 rfl h5051))
            have h5437 : RB T H5361 m e8 d8 := (RB_fr w5061 gm f5366 rfl h5357)
            exact WL.loc hX (by simp) (next T H5361 ⟨⟨w5365, g0, gx, gm, go, by omega, by omega⟩, ⟨_, tc, tm, cu, dr, _, _, _, _, _, ce8, q5416, gtc, h5424, q5418, gtm, h5425, q5420, gcu, q5422, gdr, h5426, h5427, h5428, h5429, h5430, hC1, hC2, h5431, h5437, (h5432).1, (h5436).1, hE, hZ, (by omega), (by assumption), (by omega), (by first | assumption | exact SG_0), q5434, gce8, h5423, h5435, a5377, gm⟩, by omega, by omega⟩ (by omega) (by omega))
          · refine wl_of hX hb cL_1314 (rw_iconst (pc' := 1315) rfl ?_)
            exfalso
            omega
