/-! THE LAW, GONE ON WITH (own work) -/
set_option maxHeartbeats 4000000 in
theorem wl_c9 {kt : Nat → Option mc_E} {CB SB : Nat} {X : mc_S → Prop} {T : wq_T} {H : wq_H} {Len x m o : Nat} {i : Int} (hX : wlX kt CB SB X) (hb : T.2.1 ≤ CB ∧ T.2.2.1 ≤ SB) (hI : wlJ Len x m o T H) (hL : Len ≤ 3072) (hi : 0 ≤ i ∧ i + 6 ≤ Len) (hb2 : T.2.1 + 20 ≤ CB ∧ T.2.2.1 + 500 ≤ SB)  (next : ∀ T' H', wlJ Len x m o T' H' → T'.2.1 ≤ T.2.1 + 20 → T'.2.2.1 ≤ T.2.2.1 + 500 → WL kt CB SB X 1653 (wlL i x m o) [] T' H') : WL kt CB SB X 553 (wlL i x m o) [] T H := by
  obtain ⟨⟨hW, g0, gx, gm, go, hK, hr⟩, hXI, hY1, hY2⟩ := hI
  refine wl_of hX hb cL_553 (rw_aload_n (pc' := 554) (v := .ref x) rfl rfl rfl ?_)
  refine wl_of hX hb cL_554 (rw_aload_n (pc' := 555) (v := .ref 0) rfl rfl rfl ?_)
  refine wl_of hX hb cL_555 (rw_iload (pc' := 557) (z := i) rfl rfl ?_)
  refine wl_of hX hb cL_557 (rw_iconst (pc' := 558) rfl ?_)
  refine wl_of hX hb cL_558 (rw_iadd (pc' := 559) rfl ?_)
  refine wl_of hX hb cL_559 (xa_I (so := 0) (pc' := 560) (a := 0) hW g0 (wsh_s _) (by omega) (wty_s _ _) (by omega) (by omega) rfl (fun b1958 b1959 => ?_))
  refine wl_of hX hb cL_560 (xc_V (pc' := 563) (r := x) (as := [vI (H 0 ((i + 1).toNat))]) (st := []) (lm_11_60) rfl rfl (Nat.le_of_ble_eq_true rfl) hW gx sh_1 (by decide) rfl (by decide) (s_65 hW gx ⟨by omega, by omega⟩) (fun R1960 T1961 H1962 p1963 => ?_))
  obtain ⟨e1964, w1966, f1967, z1968, e1965, b1969⟩ := p1963
  subst e1964
  subst e1965
  show WL _ _ _ _ 563 [(4, vI i), (3, .ref o), (2, .ref m), (1, .ref x), (0, .ref 0)] [vI z1968] _ H1962
  refine wl_of hX hb cL_563 (rw_pop (pc' := 564) rfl rfl ?_)
  refine wl_of hX hb cL_564 (rw_aload_n (pc' := 565) (v := .ref m) rfl rfl rfl ?_)
  refine wl_of hX hb cL_565 (rw_aload_n (pc' := 566) (v := .ref 0) rfl rfl rfl ?_)
  refine wl_of hX hb cL_566 (rw_iload (pc' := 568) (z := i) rfl rfl ?_)
  refine wl_of hX hb cL_568 (rw_iconst (pc' := 569) rfl ?_)
  refine wl_of hX hb cL_569 (rw_iadd (pc' := 570) rfl ?_)
  have k1972 : H1962 0 ((i + 1).toNat) = H 0 ((i + 1).toNat) := (f1967 0 ((i + 1).toNat) _ g0 (wmem_s rfl))
  refine wl_of hX hb cL_570 (xa_I (so := 0) (pc' := 571) (a := 0) w1966 g0 (wsh_s _) (by omega) (wty_s _ _) (by omega) (by omega) rfl (fun b1970 b1971 => ?_))
  have k1973 : wKI H1962 m = wKI H m := (wKI_fr hW gm f1967 rfl)
  have k1974 : H1962 x 9 = H x 9 := (f1967 x 9 _ gx rfl)
  have k1975 : H1962 m 6 = H m 6 := (f1967 m 6 _ gm rfl)
  have k1976 : H1962 x 11 = H x 11 := (f1967 x 11 _ gx rfl)
  have k1977 : H1962 m 13 = H m 13 := (f1967 m 13 _ gm rfl)
  have k1978 : H1962 x 8 = H x 8 := (f1967 x 8 _ gx rfl)
  have k1979 : H1962 m 3 = H m 3 := (f1967 m 3 _ gm rfl)
  refine wl_of hX hb cL_571 (xc_V (pc' := 574) (r := m) (as := [vI (H1962 0 ((i + 1).toNat))]) (st := []) (lm_11_63) rfl rfl (Nat.le_of_ble_eq_true rfl) w1966 gm sh_42 (by decide) rfl (by decide) (s_225 w1966 gm ⟨by omega, by omega⟩ (by omega)) (fun R1980 T1981 H1982 p1983 => ?_))
  obtain ⟨e1984, w1986, f1987, z1989, e1985, b1990, p1988⟩ := p1983
  subst e1984
  subst e1985
  show WL _ _ _ _ 574 [(4, vI i), (3, .ref o), (2, .ref m), (1, .ref x), (0, .ref 0)] [vI z1989] _ H1982
  refine wl_of hX hb cL_574 (rw_pop (pc' := 575) rfl rfl ?_)
  refine wl_of hX hb cL_575 (rw_goto (p1 := 1653) (by decide) ?_)
  have k1991 : H1982 x 9 = H1962 x 9 := (f1987 x 9 _ gx rfl)
  have k1992 : H1982 m 6 = H1962 m 6 := (f1987 m 6 _ gm rfl)
  have k1993 : H1982 x 11 = H1962 x 11 := (f1987 x 11 _ gx rfl)
  have k1994 : H1982 m 13 = H1962 m 13 := (f1987 m 13 _ gm rfl)
  have k1995 : H1982 x 8 = H1962 x 8 := (f1987 x 8 _ gx rfl)
  have k1996 : H1982 m 3 = H1962 m 3 := (f1987 m 3 _ gm rfl)
  have h1997 : XI T H1982 x m := (XI_fr w1966 gx f1987 rfl (XI_fr hW gx f1967 rfl hXI))
  exact WL.loc hX (by simp) (next T H1982 ⟨⟨w1986, g0, gx, gm, go, by omega, by omega⟩, h1997, by omega, by omega⟩ (by omega) (by omega))
set_option maxHeartbeats 4000000 in
theorem wl_c10 {kt : Nat → Option mc_E} {CB SB : Nat} {X : mc_S → Prop} {T : wq_T} {H : wq_H} {Len x m o : Nat} {i : Int} (hX : wlX kt CB SB X) (hb : T.2.1 ≤ CB ∧ T.2.2.1 ≤ SB) (hI : wlJ Len x m o T H) (hL : Len ≤ 3072) (hi : 0 ≤ i ∧ i + 6 ≤ Len) (hb2 : T.2.1 + 20 ≤ CB ∧ T.2.2.1 + 500 ≤ SB)  (next : ∀ T' H', wlJ Len x m o T' H' → T'.2.1 ≤ T.2.1 + 20 → T'.2.2.1 ≤ T.2.2.1 + 500 → WL kt CB SB X 1653 (wlL i x m o) [] T' H') : WL kt CB SB X 578 (wlL i x m o) [] T H := by
  obtain ⟨⟨hW, g0, gx, gm, go, hK, hr⟩, hXI, hY1, hY2⟩ := hI
  refine wl_of hX hb cL_578 (rw_aload_n (pc' := 579) (v := .ref x) rfl rfl rfl ?_)
  refine wl_of hX hb cL_579 (rw_aload_n (pc' := 580) (v := .ref 0) rfl rfl rfl ?_)
  refine wl_of hX hb cL_580 (rw_iload (pc' := 582) (z := i) rfl rfl ?_)
  refine wl_of hX hb cL_582 (rw_iconst (pc' := 583) rfl ?_)
  refine wl_of hX hb cL_583 (rw_iadd (pc' := 584) rfl ?_)
  refine wl_of hX hb cL_584 (xa_I (so := 0) (pc' := 585) (a := 0) hW g0 (wsh_s _) (by omega) (wty_s _ _) (by omega) (by omega) rfl (fun b1998 b1999 => ?_))
  refine wl_of hX hb cL_585 (xc_V (pc' := 588) (r := x) (as := [vI (H 0 ((i + 1).toNat))]) (st := []) (lm_11_64) rfl rfl (Nat.le_of_ble_eq_true rfl) hW gx sh_1 (by decide) rfl (by decide) (s_66 hW gx ⟨by omega, by omega⟩) (fun R2000 T2001 H2002 p2003 => ?_))
  obtain ⟨e2004, w2006, f2007, z2008, e2005, b2009⟩ := p2003
  subst e2004
  subst e2005
  show WL _ _ _ _ 588 [(4, vI i), (3, .ref o), (2, .ref m), (1, .ref x), (0, .ref 0)] [vI z2008] _ H2002
  refine wl_of hX hb cL_588 (rw_pop (pc' := 589) rfl rfl ?_)
  refine wl_of hX hb cL_589 (rw_aload_n (pc' := 590) (v := .ref m) rfl rfl rfl ?_)
  refine wl_of hX hb cL_590 (rw_aload_n (pc' := 591) (v := .ref 0) rfl rfl rfl ?_)
  refine wl_of hX hb cL_591 (rw_iload (pc' := 593) (z := i) rfl rfl ?_)
  refine wl_of hX hb cL_593 (rw_iconst (pc' := 594) rfl ?_)
  refine wl_of hX hb cL_594 (rw_iadd (pc' := 595) rfl ?_)
  have k2012 : H2002 0 ((i + 1).toNat) = H 0 ((i + 1).toNat) := (f2007 0 ((i + 1).toNat) _ g0 (wmem_s rfl))
  refine wl_of hX hb cL_595 (xa_I (so := 0) (pc' := 596) (a := 0) w2006 g0 (wsh_s _) (by omega) (wty_s _ _) (by omega) (by omega) rfl (fun b2010 b2011 => ?_))
  have k2013 : wKI H2002 m = wKI H m := (wKI_fr hW gm f2007 rfl)
  have k2014 : H2002 x 9 = H x 9 := (f2007 x 9 _ gx rfl)
  have k2015 : H2002 m 6 = H m 6 := (f2007 m 6 _ gm rfl)
  have k2016 : H2002 x 11 = H x 11 := (f2007 x 11 _ gx rfl)
  have k2017 : H2002 m 13 = H m 13 := (f2007 m 13 _ gm rfl)
  have k2018 : H2002 x 8 = H x 8 := (f2007 x 8 _ gx rfl)
  have k2019 : H2002 m 3 = H m 3 := (f2007 m 3 _ gm rfl)
  refine wl_of hX hb cL_596 (xc_V (pc' := 599) (r := m) (as := [vI (H2002 0 ((i + 1).toNat))]) (st := []) (lm_11_67) rfl rfl (Nat.le_of_ble_eq_true rfl) w2006 gm sh_42 (by decide) rfl (by decide) (s_226 w2006 gm ⟨by omega, by omega⟩ (by omega)) (fun R2020 T2021 H2022 p2023 => ?_))
  obtain ⟨e2024, w2026, f2027, z2029, e2025, b2030, p2028⟩ := p2023
  subst e2024
  subst e2025
  show WL _ _ _ _ 599 [(4, vI i), (3, .ref o), (2, .ref m), (1, .ref x), (0, .ref 0)] [vI z2029] _ H2022
  refine wl_of hX hb cL_599 (rw_pop (pc' := 600) rfl rfl ?_)
  refine wl_of hX hb cL_600 (rw_goto (p1 := 1653) (by decide) ?_)
  have k2031 : H2022 x 9 = H2002 x 9 := (f2027 x 9 _ gx rfl)
  have k2032 : H2022 m 6 = H2002 m 6 := (f2027 m 6 _ gm rfl)
  have k2033 : H2022 x 11 = H2002 x 11 := (f2027 x 11 _ gx rfl)
  have k2034 : H2022 m 13 = H2002 m 13 := (f2027 m 13 _ gm rfl)
  have k2035 : H2022 x 8 = H2002 x 8 := (f2027 x 8 _ gx rfl)
  have k2036 : H2022 m 3 = H2002 m 3 := (f2027 m 3 _ gm rfl)
  have h2037 : XI T H2022 x m := (XI_fr w2006 gx f2027 rfl (XI_fr hW gx f2007 rfl hXI))
  exact WL.loc hX (by simp) (next T H2022 ⟨⟨w2026, g0, gx, gm, go, by omega, by omega⟩, h2037, by omega, by omega⟩ (by omega) (by omega))
set_option maxHeartbeats 4000000 in
theorem wl_c11 {kt : Nat → Option mc_E} {CB SB : Nat} {X : mc_S → Prop} {T : wq_T} {H : wq_H} {Len x m o : Nat} {i : Int} (hX : wlX kt CB SB X) (hb : T.2.1 ≤ CB ∧ T.2.2.1 ≤ SB) (hI : wlJ Len x m o T H) (hL : Len ≤ 3072) (hi : 0 ≤ i ∧ i + 6 ≤ Len) (hb2 : T.2.1 + 20 ≤ CB ∧ T.2.2.1 + 500 ≤ SB)  (next : ∀ T' H', wlJ Len x m o T' H' → T'.2.1 ≤ T.2.1 + 20 → T'.2.2.1 ≤ T.2.2.1 + 500 → WL kt CB SB X 1653 (wlL i x m o) [] T' H') : WL kt CB SB X 603 (wlL i x m o) [] T H := by
  obtain ⟨⟨hW, g0, gx, gm, go, hK, hr⟩, hXI, hY1, hY2⟩ := hI
  refine wl_of hX hb cL_603 (rw_aload_n (pc' := 604) (v := .ref x) rfl rfl rfl ?_)
  obtain ⟨B, tc, tm, cu, dr, C8, e8, d8, n8, g8, e0, gtc, htc, em, gtm, htm, ecu, gcu, edr, gdr, hcu, hdr, hdec, hded, hsp, hC1, hC2, hcu8, hrb8, hcg8, hmn8, hE, hZ, hn8, hXA, hV8, hSG, -⟩ := hXI
  have hN3 := RB_n3 hrb8
  have hE13 : ∀ h : Nat, h < 24 → 0 ≤ e8 13 h ∧ e8 13 h ≤ 100 := fun k hk => by
    obtain ⟨s, h1, h2, h3⟩ := hcu8.1.2.2.1
    exact ⟨(h3 k hk).1, (h3 k hk).2.1⟩
  have hXW := hXA.1
  have hXN := hXA.2
  have hE0 : e8 0 3 = d8 0 3 ∧ e8 0 0 = d8 0 0 := by
    have h := hE 0 (by decide)
    exact ⟨congrFun h 3, congrFun h 0⟩
  have u2038 := CU_k hcu8
  have h2039 : CY T H cu (d8 0 3) g8 (H cu 17) := ⟨hcg8, rfl⟩
  have h2040 : RY T H m (d8 0 3) g8 (H m 32) := ⟨hmn8, rfl⟩
  obtain ⟨t9, ht9⟩ : ∃ t : Int, t = H x 9 := ⟨_, rfl⟩
  obtain ⟨r2041, q2042, g2043⟩ := hW.ref gx (t' := 6) (n := 13) (j := 2) (p := 0) (q := 0) rfl (by decide) rfl
  refine wl_of hX hb cL_604 (xc_V (pc' := 607) (r := x) (as := []) (st := []) (lm_11_68) rfl rfl (Nat.le_of_ble_eq_true rfl) hW gx sh_1 (by decide) rfl (by decide) (u_73 (e := e8) (d := d8) (n := n8) (nY := ((d8 0 3))) (gY := g8) (cY := ((H cu 17))) hW gx ecu gcu q2042 g2043 (by assumption) (by assumption) (by omega) (by omega) (by omega) (by assumption) (by omega) hcu8 h2039) (fun R2044 T2045 H2046 p2047 => ?_))
  obtain ⟨e2048, w2050, f2051, z2052, e2049, b2053, p2054⟩ := p2047
  subst e2048
  subst e2049
  rcases p2054 with ⟨a2055, a2056⟩ | ⟨a2057, a2058, a2059⟩
  · show WL _ _ _ _ 607 [(4, vI i), (3, .ref o), (2, .ref m), (1, .ref x), (0, .ref 0)] [vI z2052] _ H2046
    refine wl_of hX hb cL_607 (rw_aload_n (pc' := 608) (v := .ref m) rfl rfl rfl ?_)
    have k2060 : wKI H2046 m = wKI H m := (wKI_fr hW gm f2051 rfl)
    have k2061 : H2046 x 9 = H x 9 := (f2051 x 9 _ gx rfl)
    have k2062 : H2046 m 6 = H m 6 := (f2051 m 6 _ gm rfl)
    have k2063 : H2046 x 11 = H x 11 := (f2051 x 11 _ gx rfl)
    have k2064 : H2046 m 13 = H m 13 := (f2051 m 13 _ gm rfl)
    have k2065 : H2046 x 8 = H x 8 := (f2051 x 8 _ gx rfl)
    have k2066 : H2046 m 3 = H m 3 := (f2051 m 3 _ gm rfl)
    have h2067 : RB T H2046 m e8 d8 := (RB_fr hW gm f2051 rfl hrb8)
    have h2068 : RY T H2046 m (d8 0 3) g8 (H m 32) := (RY_fr hW gm f2051 rfl h2040)
    refine wl_of hX hb cL_608 (xc_V (pc' := 611) (r := m) (as := []) (st := [vI z2052]) (lm_11_71) rfl rfl (Nat.le_of_ble_eq_true rfl) w2050 gm sh_42 (by decide) rfl (by decide) (u_230 (e := e8) (d := d8) (nY := ((d8 0 3))) (gY := g8) (cY := ((H m 32))) w2050 gm (by assumption) (by omega) (by assumption) (by assumption) (by assumption) (by assumption) h2067 h2068) (fun R2069 T2070 H2071 p2072 => ?_))
    obtain ⟨e2073, w2075, f2076, z2077, e2074, b2078, p2079⟩ := p2072
    subst e2073
    subst e2074
    rcases p2079 with ⟨a2080, a2081⟩ | ⟨a2082, a2083, a2084⟩
    · show WL _ _ _ _ 611 [(4, vI i), (3, .ref o), (2, .ref m), (1, .ref x), (0, .ref 0)] [vI z2077, vI z2052] _ H2071
      refine wl_of hX hb cL_611 (rw_icmp_eq (p1 := 1653) (p2 := 614) (by decide) rfl ⟨b2053.1, b2053.2⟩ ⟨b2078.1, b2078.2⟩ (fun c2085 => ?_) (fun c2085 => ?_))
      · have k2086 : wKI H2071 m = wKI H2046 m := (wKI_fr w2050 gm f2076 rfl)
        have k2087 : H2071 x 9 = H2046 x 9 := (f2076 x 9 _ gx rfl)
        have k2088 : H2071 m 6 = H2046 m 6 := (f2076 m 6 _ gm rfl)
        have k2089 : H2071 x 11 = H2046 x 11 := (f2076 x 11 _ gx rfl)
        have k2090 : H2071 m 13 = H2046 m 13 := (f2076 m 13 _ gm rfl)
        have k2091 : H2071 x 8 = H2046 x 8 := (f2076 x 8 _ gx rfl)
        have k2092 : H2071 m 3 = H2046 m 3 := (f2076 m 3 _ gm rfl)
        have k2093 : H2071 x 0 = H x 0 := ((f2076 x 0 _ gx rfl).trans (f2051 x 0 _ gx rfl))
        have q2094 : H2071 x 0 = (tc : Int) := k2093.trans e0
        have k2095 : H2071 m 5 = H m 5 := ((f2076 m 5 _ gm rfl).trans (f2051 m 5 _ gm rfl))
        have q2096 : H2071 m 5 = (tm : Int) := k2095.trans em
        have k2097 : H2071 x 6 = H x 6 := ((f2076 x 6 _ gx rfl).trans (f2051 x 6 _ gx rfl))
        have q2098 : H2071 x 6 = (cu : Int) := k2097.trans ecu
        have k2099 : H2071 x 7 = H x 7 := ((f2076 x 7 _ gx rfl).trans (f2051 x 7 _ gx rfl))
        have q2100 : H2071 x 7 = (dr : Int) := k2099.trans edr
        have h2101 : TP T H2071 tc B := (TP_fr w2050 gtc f2076 rfl (TP_fr hW gtc f2051 rfl htc))
        have h2102 : TM T H2071 tm B := (TM_fr w2050 gtm f2076 rfl (TM_fr hW gtm f2051 rfl htm))
        have h2103 : DD T H2071 cu  := (DD_fr w2050 gcu f2076 rfl (DD_fr hW gcu f2051 rfl hcu))
        have h2104 : DD T H2071 dr  := (DD_fr w2050 gdr f2076 rfl (DD_fr hW gdr f2051 rfl hdr))
        have h2105 : DE T H2071 cu  := (DE_fr w2050 gcu f2076 rfl (DE_fr hW gcu f2051 rfl hdec))
        have h2106 : DE T H2071 dr  := (DE_fr w2050 gdr f2076 rfl (DE_fr hW gdr f2051 rfl hded))
        have h2107 : SP T H2071 x C8 := (SP_fr w2050 gx f2076 rfl (SP_fr hW gx f2051 rfl hsp))
        have h2108 : CU T H2071 cu e8 d8 n8 := (CU_fr w2050 gcu f2076 rfl (CU_fr hW gcu f2051 rfl hcu8))
        have h2109 : CY T H2071 cu (d8 0 3) g8 (H cu 17) := (CY_fr w2050 gcu f2076 rfl (CY_fr hW gcu f2051 rfl h2039))
        have h2110 : RY T H2071 m (d8 0 3) g8 (H m 32) := (RY_fr w2050 gm f2076 rfl h2068)
        have h2111 : RB T H2071 m e8 d8 := (RB_fr w2050 gm f2076 rfl h2067)
        exact WL.loc hX (by simp) (next T H2071 ⟨⟨w2075, g0, gx, gm, go, by omega, by omega⟩, ⟨_, tc, tm, cu, dr, _, _, _, _, _, q2094, gtc, h2101, q2096, gtm, h2102, q2098, gcu, q2100, gdr, h2103, h2104, h2105, h2106, h2107, hC1, hC2, h2108, h2111, (h2109).1, (h2110).1, hE, hZ, (by omega), (by assumption), (by omega), (by first | assumption | exact SG_0), gm⟩, by omega, by omega⟩ (by omega) (by omega))
      · exfalso
        omega
    · show WL _ _ _ _ 611 [(4, vI i), (3, .ref o), (2, .ref m), (1, .ref x), (0, .ref 0)] [vI z2077, vI z2052] _ H2071
      try have _u9 : z2052 = z2077 := XFW_1 (by assumption : XFW _ _ z2052) (by assumption)
      refine wl_of hX hb cL_611 (rw_icmp_eq (p1 := 1653) (p2 := 614) (by decide) rfl ⟨b2053.1, b2053.2⟩ ⟨b2078.1, b2078.2⟩ (fun c2112 => ?_) (fun c2112 => ?_))
      · have k2113 : wKI H2071 m = wKI H2046 m := (wKI_fr w2050 gm f2076 rfl)
        have k2114 : H2071 x 9 = H2046 x 9 := (f2076 x 9 _ gx rfl)
        have k2115 : H2071 m 6 = H2046 m 6 := (f2076 m 6 _ gm rfl)
        have k2116 : H2071 x 11 = H2046 x 11 := (f2076 x 11 _ gx rfl)
        have k2117 : H2071 m 13 = H2046 m 13 := (f2076 m 13 _ gm rfl)
        have k2118 : H2071 x 8 = H2046 x 8 := (f2076 x 8 _ gx rfl)
        have k2119 : H2071 m 3 = H2046 m 3 := (f2076 m 3 _ gm rfl)
        have k2120 : H2071 x 0 = H x 0 := ((f2076 x 0 _ gx rfl).trans (f2051 x 0 _ gx rfl))
        have q2121 : H2071 x 0 = (tc : Int) := k2120.trans e0
        have k2122 : H2071 m 5 = H m 5 := ((f2076 m 5 _ gm rfl).trans (f2051 m 5 _ gm rfl))
        have q2123 : H2071 m 5 = (tm : Int) := k2122.trans em
        have k2124 : H2071 x 6 = H x 6 := ((f2076 x 6 _ gx rfl).trans (f2051 x 6 _ gx rfl))
        have q2125 : H2071 x 6 = (cu : Int) := k2124.trans ecu
        have k2126 : H2071 x 7 = H x 7 := ((f2076 x 7 _ gx rfl).trans (f2051 x 7 _ gx rfl))
        have q2127 : H2071 x 7 = (dr : Int) := k2126.trans edr
        have h2128 : TP T H2071 tc B := (TP_fr w2050 gtc f2076 rfl (TP_fr hW gtc f2051 rfl htc))
        have h2129 : TM T H2071 tm B := (TM_fr w2050 gtm f2076 rfl (TM_fr hW gtm f2051 rfl htm))
        have h2130 : DD T H2071 cu  := (DD_fr w2050 gcu f2076 rfl (DD_fr hW gcu f2051 rfl hcu))
        have h2131 : DD T H2071 dr  := (DD_fr w2050 gdr f2076 rfl (DD_fr hW gdr f2051 rfl hdr))
        have h2132 : DE T H2071 cu  := (DE_fr w2050 gcu f2076 rfl (DE_fr hW gcu f2051 rfl hdec))
        have h2133 : DE T H2071 dr  := (DE_fr w2050 gdr f2076 rfl (DE_fr hW gdr f2051 rfl hded))
        have h2134 : SP T H2071 x C8 := (SP_fr w2050 gx f2076 rfl (SP_fr hW gx f2051 rfl hsp))
        have h2135 : CU T H2071 cu e8 d8 n8 := (CU_fr w2050 gcu f2076 rfl (CU_fr hW gcu f2051 rfl hcu8))
        have h2136 : CY T H2071 cu (d8 0 3) g8 (H cu 17) := (CY_fr w2050 gcu f2076 rfl (CY_fr hW gcu f2051 rfl h2039))
        have h2137 : RY T H2071 m (d8 0 3) g8 (H m 32) := (RY_fr w2050 gm f2076 rfl h2068)
        have h2138 : RB T H2071 m e8 d8 := (RB_fr w2050 gm f2076 rfl h2067)
        exact WL.loc hX (by simp) (next T H2071 ⟨⟨w2075, g0, gx, gm, go, by omega, by omega⟩, ⟨_, tc, tm, cu, dr, _, _, _, _, _, q2121, gtc, h2128, q2123, gtm, h2129, q2125, gcu, q2127, gdr, h2130, h2131, h2132, h2133, h2134, hC1, hC2, h2135, h2138, (h2136).1, (h2137).1, hE, hZ, (by omega), (by assumption), (by omega), (by first | assumption | exact SG_0), gm⟩, by omega, by omega⟩ (by omega) (by omega))
      · refine wl_of hX hb cL_614 (rw_iconst (pc' := 615) rfl ?_)
        exfalso
        omega
  · show WL _ _ _ _ 607 [(4, vI i), (3, .ref o), (2, .ref m), (1, .ref x), (0, .ref 0)] [vI z2052] _ H2046
    refine wl_of hX hb cL_607 (rw_aload_n (pc' := 608) (v := .ref m) rfl rfl rfl ?_)
    have k2139 : wKI H2046 m = wKI H m := (wKI_fr hW gm f2051 rfl)
    have k2140 : H2046 x 9 = H x 9 := (f2051 x 9 _ gx rfl)
    have k2141 : H2046 m 6 = H m 6 := (f2051 m 6 _ gm rfl)
    have k2142 : H2046 x 11 = H x 11 := (f2051 x 11 _ gx rfl)
    have k2143 : H2046 m 13 = H m 13 := (f2051 m 13 _ gm rfl)
    have k2144 : H2046 x 8 = H x 8 := (f2051 x 8 _ gx rfl)
    have k2145 : H2046 m 3 = H m 3 := (f2051 m 3 _ gm rfl)
    have h2146 : RB T H2046 m e8 d8 := (RB_fr hW gm f2051 rfl hrb8)
    have h2147 : RY T H2046 m (d8 0 3) g8 (H m 32) := (RY_fr hW gm f2051 rfl h2040)
    refine wl_of hX hb cL_608 (xc_V (pc' := 611) (r := m) (as := []) (st := [vI z2052]) (lm_11_71) rfl rfl (Nat.le_of_ble_eq_true rfl) w2050 gm sh_42 (by decide) rfl (by decide) (u_230 (e := e8) (d := d8) (nY := ((d8 0 3))) (gY := g8) (cY := ((H m 32))) w2050 gm (by assumption) (by omega) (by assumption) (by assumption) (by assumption) (by assumption) h2146 h2147) (fun R2148 T2149 H2150 p2151 => ?_))
    obtain ⟨e2152, w2154, f2155, z2156, e2153, b2157, p2158⟩ := p2151
    subst e2152
    subst e2153
    rcases p2158 with ⟨a2159, a2160⟩ | ⟨a2161, a2162, a2163⟩
    · show WL _ _ _ _ 611 [(4, vI i), (3, .ref o), (2, .ref m), (1, .ref x), (0, .ref 0)] [vI z2156, vI z2052] _ H2150
      refine wl_of hX hb cL_611 (rw_icmp_eq (p1 := 1653) (p2 := 614) (by decide) rfl ⟨b2053.1, b2053.2⟩ ⟨b2157.1, b2157.2⟩ (fun c2164 => ?_) (fun c2164 => ?_))
      · have k2165 : wKI H2150 m = wKI H2046 m := (wKI_fr w2050 gm f2155 rfl)
        have k2166 : H2150 x 9 = H2046 x 9 := (f2155 x 9 _ gx rfl)
        have k2167 : H2150 m 6 = H2046 m 6 := (f2155 m 6 _ gm rfl)
        have k2168 : H2150 x 11 = H2046 x 11 := (f2155 x 11 _ gx rfl)
        have k2169 : H2150 m 13 = H2046 m 13 := (f2155 m 13 _ gm rfl)
        have k2170 : H2150 x 8 = H2046 x 8 := (f2155 x 8 _ gx rfl)
        have k2171 : H2150 m 3 = H2046 m 3 := (f2155 m 3 _ gm rfl)
        have k2172 : H2150 x 0 = H x 0 := ((f2155 x 0 _ gx rfl).trans (f2051 x 0 _ gx rfl))
        have q2173 : H2150 x 0 = (tc : Int) := k2172.trans e0
        have k2174 : H2150 m 5 = H m 5 := ((f2155 m 5 _ gm rfl).trans (f2051 m 5 _ gm rfl))
        have q2175 : H2150 m 5 = (tm : Int) := k2174.trans em
        have k2176 : H2150 x 6 = H x 6 := ((f2155 x 6 _ gx rfl).trans (f2051 x 6 _ gx rfl))
        have q2177 : H2150 x 6 = (cu : Int) := k2176.trans ecu
        have k2178 : H2150 x 7 = H x 7 := ((f2155 x 7 _ gx rfl).trans (f2051 x 7 _ gx rfl))
        have q2179 : H2150 x 7 = (dr : Int) := k2178.trans edr
        have h2180 : TP T H2150 tc B := (TP_fr w2050 gtc f2155 rfl (TP_fr hW gtc f2051 rfl htc))
        have h2181 : TM T H2150 tm B := (TM_fr w2050 gtm f2155 rfl (TM_fr hW gtm f2051 rfl htm))
        have h2182 : DD T H2150 cu  := (DD_fr w2050 gcu f2155 rfl (DD_fr hW gcu f2051 rfl hcu))
        have h2183 : DD T H2150 dr  := (DD_fr w2050 gdr f2155 rfl (DD_fr hW gdr f2051 rfl hdr))
        have h2184 : DE T H2150 cu  := (DE_fr w2050 gcu f2155 rfl (DE_fr hW gcu f2051 rfl hdec))
        have h2185 : DE T H2150 dr  := (DE_fr w2050 gdr f2155 rfl (DE_fr hW gdr f2051 rfl hded))
        have h2186 : SP T H2150 x C8 := (SP_fr w2050 gx f2155 rfl (SP_fr hW gx f2051 rfl hsp))
        have h2187 : CU T H2150 cu e8 d8 n8 := (CU_fr w2050 gcu f2155 rfl (CU_fr hW gcu f2051 rfl hcu8))
        have h2188 : CY T H2150 cu (d8 0 3) g8 (H cu 17) := (CY_fr w2050 gcu f2155 rfl (CY_fr hW gcu f2051 rfl h2039))
        have h2189 : RY T H2150 m (d8 0 3) g8 (H m 32) := (RY_fr w2050 gm f2155 rfl h2147)
        have h2190 : RB T H2150 m e8 d8 := (RB_fr w2050 gm f2155 rfl h2146)
        exact WL.loc hX (by simp) (next T H2150 ⟨⟨w2154, g0, gx, gm, go, by omega, by omega⟩, ⟨_, tc, tm, cu, dr, _, _, _, _, _, q2173, gtc, h2180, q2175, gtm, h2181, q2177, gcu, q2179, gdr, h2182, h2183, h2184, h2185, h2186, hC1, hC2, h2187, h2190, (h2188).1, (h2189).1, hE, hZ, (by omega), (by assumption), (by omega), (by first | assumption | exact SG_0), gm⟩, by omega, by omega⟩ (by omega) (by omega))
      · refine wl_of hX hb cL_614 (rw_iconst (pc' := 615) rfl ?_)
        exfalso
        omega
    · show WL _ _ _ _ 611 [(4, vI i), (3, .ref o), (2, .ref m), (1, .ref x), (0, .ref 0)] [vI z2156, vI z2052] _ H2150
      try have _u9 : z2052 = z2156 := XFW_1 (by assumption : XFW _ _ z2052) (by assumption)
      refine wl_of hX hb cL_611 (rw_icmp_eq (p1 := 1653) (p2 := 614) (by decide) rfl ⟨b2053.1, b2053.2⟩ ⟨b2157.1, b2157.2⟩ (fun c2191 => ?_) (fun c2191 => ?_))
      · have k2192 : wKI H2150 m = wKI H2046 m := (wKI_fr w2050 gm f2155 rfl)
        have k2193 : H2150 x 9 = H2046 x 9 := (f2155 x 9 _ gx rfl)
        have k2194 : H2150 m 6 = H2046 m 6 := (f2155 m 6 _ gm rfl)
        have k2195 : H2150 x 11 = H2046 x 11 := (f2155 x 11 _ gx rfl)
        have k2196 : H2150 m 13 = H2046 m 13 := (f2155 m 13 _ gm rfl)
        have k2197 : H2150 x 8 = H2046 x 8 := (f2155 x 8 _ gx rfl)
        have k2198 : H2150 m 3 = H2046 m 3 := (f2155 m 3 _ gm rfl)
        have k2199 : H2150 x 0 = H x 0 := ((f2155 x 0 _ gx rfl).trans (f2051 x 0 _ gx rfl))
        have q2200 : H2150 x 0 = (tc : Int) := k2199.trans e0
        have k2201 : H2150 m 5 = H m 5 := ((f2155 m 5 _ gm rfl).trans (f2051 m 5 _ gm rfl))
        have q2202 : H2150 m 5 = (tm : Int) := k2201.trans em
        have k2203 : H2150 x 6 = H x 6 := ((f2155 x 6 _ gx rfl).trans (f2051 x 6 _ gx rfl))
        have q2204 : H2150 x 6 = (cu : Int) := k2203.trans ecu
        have k2205 : H2150 x 7 = H x 7 := ((f2155 x 7 _ gx rfl).trans (f2051 x 7 _ gx rfl))
        have q2206 : H2150 x 7 = (dr : Int) := k2205.trans edr
        have h2207 : TP T H2150 tc B := (TP_fr w2050 gtc f2155 rfl (TP_fr hW gtc f2051 rfl htc))
        have h2208 : TM T H2150 tm B := (TM_fr w2050 gtm f2155 rfl (TM_fr hW gtm f2051 rfl htm))
        have h2209 : DD T H2150 cu  := (DD_fr w2050 gcu f2155 rfl (DD_fr hW gcu f2051 rfl hcu))
        have h2210 : DD T H2150 dr  := (DD_fr w2050 gdr f2155 rfl (DD_fr hW gdr f2051 rfl hdr))
        have h2211 : DE T H2150 cu  := (DE_fr w2050 gcu f2155 rfl (DE_fr hW gcu f2051 rfl hdec))
        have h2212 : DE T H2150 dr  := (DE_fr w2050 gdr f2155 rfl (DE_fr hW gdr f2051 rfl hded))
        have h2213 : SP T H2150 x C8 := (SP_fr w2050 gx f2155 rfl (SP_fr hW gx f2051 rfl hsp))
        have h2214 : CU T H2150 cu e8 d8 n8 := (CU_fr w2050 gcu f2155 rfl (CU_fr hW gcu f2051 rfl hcu8))
        have h2215 : CY T H2150 cu (d8 0 3) g8 (H cu 17) := (CY_fr w2050 gcu f2155 rfl (CY_fr hW gcu f2051 rfl h2039))
        have h2216 : RY T H2150 m (d8 0 3) g8 (H m 32) := (RY_fr w2050 gm f2155 rfl h2147)
        have h2217 : RB T H2150 m e8 d8 := (RB_fr w2050 gm f2155 rfl h2146)
        exact WL.loc hX (by simp) (next T H2150 ⟨⟨w2154, g0, gx, gm, go, by omega, by omega⟩, ⟨_, tc, tm, cu, dr, _, _, _, _, _, q2200, gtc, h2207, q2202, gtm, h2208, q2204, gcu, q2206, gdr, h2209, h2210, h2211, h2212, h2213, hC1, hC2, h2214, h2217, (h2215).1, (h2216).1, hE, hZ, (by omega), (by assumption), (by omega), (by first | assumption | exact SG_0), gm⟩, by omega, by omega⟩ (by omega) (by omega))
      · refine wl_of hX hb cL_614 (rw_iconst (pc' := 615) rfl ?_)
        exfalso
        omega
set_option maxHeartbeats 4000000 in
theorem wl_c12 {kt : Nat → Option mc_E} {CB SB : Nat} {X : mc_S → Prop} {T : wq_T} {H : wq_H} {Len x m o : Nat} {i : Int} (hX : wlX kt CB SB X) (hb : T.2.1 ≤ CB ∧ T.2.2.1 ≤ SB) (hI : wlJ Len x m o T H) (hL : Len ≤ 3072) (hi : 0 ≤ i ∧ i + 6 ≤ Len) (hb2 : T.2.1 + 20 ≤ CB ∧ T.2.2.1 + 500 ≤ SB)  (next : ∀ T' H', wlJ Len x m o T' H' → T'.2.1 ≤ T.2.1 + 20 → T'.2.2.1 ≤ T.2.2.1 + 500 → WL kt CB SB X 1653 (wlL i x m o) [] T' H') : WL kt CB SB X 616 (wlL i x m o) [] T H := by
  obtain ⟨⟨hW, g0, gx, gm, go, hK, hr⟩, hXI, hY1, hY2⟩ := hI
  refine wl_of hX hb cL_616 (rw_aload_n (pc' := 617) (v := .ref x) rfl rfl rfl ?_)
  refine wl_of hX hb cL_617 (xc_V (pc' := 620) (r := x) (as := []) (st := []) (lm_11_72) rfl rfl (Nat.le_of_ble_eq_true rfl) hW gx sh_1 (by decide) rfl (by decide) (s_77 hW gx) (fun R2218 T2219 H2220 p2221 => ?_))
  obtain ⟨e2222, w2224, f2225, z2226, e2223, b2227⟩ := p2221
  subst e2222
  subst e2223
  show WL _ _ _ _ 620 [(4, vI i), (3, .ref o), (2, .ref m), (1, .ref x), (0, .ref 0)] [vI z2226] _ H2220
  refine wl_of hX hb cL_620 (rw_pop (pc' := 621) rfl rfl ?_)
  refine wl_of hX hb cL_621 (rw_aload_n (pc' := 622) (v := .ref m) rfl rfl rfl ?_)
  have k2228 : wKI H2220 m = wKI H m := (wKI_fr hW gm f2225 rfl)
  have k2229 : H2220 x 9 = H x 9 := (f2225 x 9 _ gx rfl)
  have k2230 : H2220 m 6 = H m 6 := (f2225 m 6 _ gm rfl)
  have k2231 : H2220 x 11 = H x 11 := (f2225 x 11 _ gx rfl)
  have k2232 : H2220 m 13 = H m 13 := (f2225 m 13 _ gm rfl)
  have k2233 : H2220 x 8 = H x 8 := (f2225 x 8 _ gx rfl)
  have k2234 : H2220 m 3 = H m 3 := (f2225 m 3 _ gm rfl)
  refine wl_of hX hb cL_622 (xc_V (pc' := 625) (r := m) (as := []) (st := []) (lm_11_75) rfl rfl (Nat.le_of_ble_eq_true rfl) w2224 gm sh_42 (by decide) rfl (by decide) (s_236 w2224 gm (by omega)) (fun R2235 T2236 H2237 p2238 => ?_))
  obtain ⟨e2239, w2241, f2242, z2244, e2240, b2245, p2243⟩ := p2238
  subst e2239
  subst e2240
  show WL _ _ _ _ 625 [(4, vI i), (3, .ref o), (2, .ref m), (1, .ref x), (0, .ref 0)] [vI z2244] _ H2237
  refine wl_of hX hb cL_625 (rw_pop (pc' := 626) rfl rfl ?_)
  refine wl_of hX hb cL_626 (rw_goto (p1 := 1653) (by decide) ?_)
  have k2246 : H2237 x 9 = H2220 x 9 := (f2242 x 9 _ gx rfl)
  have k2247 : H2237 m 6 = H2220 m 6 := (f2242 m 6 _ gm rfl)
  have k2248 : H2237 x 11 = H2220 x 11 := (f2242 x 11 _ gx rfl)
  have k2249 : H2237 m 13 = H2220 m 13 := (f2242 m 13 _ gm rfl)
  have k2250 : H2237 x 8 = H2220 x 8 := (f2242 x 8 _ gx rfl)
  have k2251 : H2237 m 3 = H2220 m 3 := (f2242 m 3 _ gm rfl)
  have h2252 : XI T H2237 x m := (XI_fr w2224 gx f2242 rfl (XI_fr hW gx f2225 rfl hXI))
  exact WL.loc hX (by simp) (next T H2237 ⟨⟨w2241, g0, gx, gm, go, by omega, by omega⟩, h2252, by omega, by omega⟩ (by omega) (by omega))
set_option maxHeartbeats 4000000 in
theorem wl_c13 {kt : Nat → Option mc_E} {CB SB : Nat} {X : mc_S → Prop} {T : wq_T} {H : wq_H} {Len x m o : Nat} {i : Int} (hX : wlX kt CB SB X) (hb : T.2.1 ≤ CB ∧ T.2.2.1 ≤ SB) (hI : wlJ Len x m o T H) (hL : Len ≤ 3072) (hi : 0 ≤ i ∧ i + 6 ≤ Len) (hb2 : T.2.1 + 20 ≤ CB ∧ T.2.2.1 + 500 ≤ SB)  (next : ∀ T' H', wlJ Len x m o T' H' → T'.2.1 ≤ T.2.1 + 20 → T'.2.2.1 ≤ T.2.2.1 + 500 → WL kt CB SB X 1653 (wlL i x m o) [] T' H') : WL kt CB SB X 629 (wlL i x m o) [] T H := by
  obtain ⟨⟨hW, g0, gx, gm, go, hK, hr⟩, hXI, hY1, hY2⟩ := hI
  refine wl_of hX hb cL_629 (rw_aload_n (pc' := 630) (v := .ref x) rfl rfl rfl ?_)
  refine wl_of hX hb cL_630 (xc_V (pc' := 633) (r := x) (as := []) (st := []) (lm_11_76) rfl rfl (Nat.le_of_ble_eq_true rfl) hW gx sh_1 (by decide) rfl (by decide) (s_78 hW gx) (fun R2253 T2254 H2255 p2256 => ?_))
  obtain ⟨e2257, w2259, f2260, z2261, e2258, b2262⟩ := p2256
  subst e2257
  subst e2258
  show WL _ _ _ _ 633 [(4, vI i), (3, .ref o), (2, .ref m), (1, .ref x), (0, .ref 0)] [vI z2261] _ H2255
  refine wl_of hX hb cL_633 (rw_pop (pc' := 634) rfl rfl ?_)
  refine wl_of hX hb cL_634 (rw_aload_n (pc' := 635) (v := .ref m) rfl rfl rfl ?_)
  have k2263 : wKI H2255 m = wKI H m := (wKI_fr hW gm f2260 rfl)
  have k2264 : H2255 x 9 = H x 9 := (f2260 x 9 _ gx rfl)
  have k2265 : H2255 m 6 = H m 6 := (f2260 m 6 _ gm rfl)
  have k2266 : H2255 x 11 = H x 11 := (f2260 x 11 _ gx rfl)
  have k2267 : H2255 m 13 = H m 13 := (f2260 m 13 _ gm rfl)
  have k2268 : H2255 x 8 = H x 8 := (f2260 x 8 _ gx rfl)
  have k2269 : H2255 m 3 = H m 3 := (f2260 m 3 _ gm rfl)
  refine wl_of hX hb cL_635 (xc_V (pc' := 638) (r := m) (as := []) (st := []) (lm_11_79) rfl rfl (Nat.le_of_ble_eq_true rfl) w2259 gm sh_42 (by decide) rfl (by decide) (s_237 w2259 gm (by omega)) (fun R2270 T2271 H2272 p2273 => ?_))
  obtain ⟨e2274, w2276, f2277, z2279, e2275, b2280, p2278⟩ := p2273
  subst e2274
  subst e2275
  show WL _ _ _ _ 638 [(4, vI i), (3, .ref o), (2, .ref m), (1, .ref x), (0, .ref 0)] [vI z2279] _ H2272
  refine wl_of hX hb cL_638 (rw_pop (pc' := 639) rfl rfl ?_)
  refine wl_of hX hb cL_639 (rw_goto (p1 := 1653) (by decide) ?_)
  have k2281 : H2272 x 9 = H2255 x 9 := (f2277 x 9 _ gx rfl)
  have k2282 : H2272 m 6 = H2255 m 6 := (f2277 m 6 _ gm rfl)
  have k2283 : H2272 x 11 = H2255 x 11 := (f2277 x 11 _ gx rfl)
  have k2284 : H2272 m 13 = H2255 m 13 := (f2277 m 13 _ gm rfl)
  have k2285 : H2272 x 8 = H2255 x 8 := (f2277 x 8 _ gx rfl)
  have k2286 : H2272 m 3 = H2255 m 3 := (f2277 m 3 _ gm rfl)
  have h2287 : XI T H2272 x m := (XI_fr w2259 gx f2277 rfl (XI_fr hW gx f2260 rfl hXI))
  exact WL.loc hX (by simp) (next T H2272 ⟨⟨w2276, g0, gx, gm, go, by omega, by omega⟩, h2287, by omega, by omega⟩ (by omega) (by omega))
set_option maxHeartbeats 4000000 in
theorem wl_c14 {kt : Nat → Option mc_E} {CB SB : Nat} {X : mc_S → Prop} {T : wq_T} {H : wq_H} {Len x m o : Nat} {i : Int} (hX : wlX kt CB SB X) (hb : T.2.1 ≤ CB ∧ T.2.2.1 ≤ SB) (hI : wlJ Len x m o T H) (hL : Len ≤ 3072) (hi : 0 ≤ i ∧ i + 6 ≤ Len) (hb2 : T.2.1 + 20 ≤ CB ∧ T.2.2.1 + 500 ≤ SB)  (next : ∀ T' H', wlJ Len x m o T' H' → T'.2.1 ≤ T.2.1 + 20 → T'.2.2.1 ≤ T.2.2.1 + 500 → WL kt CB SB X 1653 (wlL i x m o) [] T' H') : WL kt CB SB X 642 (wlL i x m o) [] T H := by
  obtain ⟨⟨hW, g0, gx, gm, go, hK, hr⟩, hXI, hY1, hY2⟩ := hI
  refine wl_of hX hb cL_642 (rw_aload_n (pc' := 643) (v := .ref x) rfl rfl rfl ?_)
  refine wl_of hX hb cL_643 (xc_V (pc' := 646) (r := x) (as := []) (st := []) (lm_11_80) rfl rfl (Nat.le_of_ble_eq_true rfl) hW gx sh_1 (by decide) rfl (by decide) (s_82 hW gx) (fun R2288 T2289 H2290 p2291 => ?_))
  obtain ⟨e2292, w2294, f2295, z2296, e2293, b2297⟩ := p2291
  subst e2292
  subst e2293
  show WL _ _ _ _ 646 [(4, vI i), (3, .ref o), (2, .ref m), (1, .ref x), (0, .ref 0)] [vI z2296] _ H2290
  refine wl_of hX hb cL_646 (rw_pop (pc' := 647) rfl rfl ?_)
  refine wl_of hX hb cL_647 (rw_aload_n (pc' := 648) (v := .ref m) rfl rfl rfl ?_)
  have k2298 : wKI H2290 m = wKI H m := (wKI_fr hW gm f2295 rfl)
  have k2299 : H2290 x 9 = H x 9 := (f2295 x 9 _ gx rfl)
  have k2300 : H2290 m 6 = H m 6 := (f2295 m 6 _ gm rfl)
  have k2301 : H2290 x 11 = H x 11 := (f2295 x 11 _ gx rfl)
  have k2302 : H2290 m 13 = H m 13 := (f2295 m 13 _ gm rfl)
  have k2303 : H2290 x 8 = H x 8 := (f2295 x 8 _ gx rfl)
  have k2304 : H2290 m 3 = H m 3 := (f2295 m 3 _ gm rfl)
  refine wl_of hX hb cL_648 (xc_V (pc' := 651) (r := m) (as := []) (st := []) (lm_11_83) rfl rfl (Nat.le_of_ble_eq_true rfl) w2294 gm sh_42 (by decide) rfl (by decide) (s_240 w2294 gm (by omega)) (fun R2305 T2306 H2307 p2308 => ?_))
  obtain ⟨e2309, w2311, f2312, z2314, e2310, b2315, p2313⟩ := p2308
  subst e2309
  subst e2310
  show WL _ _ _ _ 651 [(4, vI i), (3, .ref o), (2, .ref m), (1, .ref x), (0, .ref 0)] [vI z2314] _ H2307
  refine wl_of hX hb cL_651 (rw_pop (pc' := 652) rfl rfl ?_)
  refine wl_of hX hb cL_652 (rw_goto (p1 := 1653) (by decide) ?_)
  have k2316 : H2307 x 9 = H2290 x 9 := (f2312 x 9 _ gx rfl)
  have k2317 : H2307 m 6 = H2290 m 6 := (f2312 m 6 _ gm rfl)
  have k2318 : H2307 x 11 = H2290 x 11 := (f2312 x 11 _ gx rfl)
  have k2319 : H2307 m 13 = H2290 m 13 := (f2312 m 13 _ gm rfl)
  have k2320 : H2307 x 8 = H2290 x 8 := (f2312 x 8 _ gx rfl)
  have k2321 : H2307 m 3 = H2290 m 3 := (f2312 m 3 _ gm rfl)
  have h2322 : XI T H2307 x m := (XI_fr w2294 gx f2312 rfl (XI_fr hW gx f2295 rfl hXI))
  exact WL.loc hX (by simp) (next T H2307 ⟨⟨w2311, g0, gx, gm, go, by omega, by omega⟩, h2322, by omega, by omega⟩ (by omega) (by omega))
set_option maxHeartbeats 4000000 in
theorem wl_c15 {kt : Nat → Option mc_E} {CB SB : Nat} {X : mc_S → Prop} {T : wq_T} {H : wq_H} {Len x m o : Nat} {i : Int} (hX : wlX kt CB SB X) (hb : T.2.1 ≤ CB ∧ T.2.2.1 ≤ SB) (hI : wlJ Len x m o T H) (hL : Len ≤ 3072) (hi : 0 ≤ i ∧ i + 6 ≤ Len) (hb2 : T.2.1 + 20 ≤ CB ∧ T.2.2.1 + 500 ≤ SB)  (next : ∀ T' H', wlJ Len x m o T' H' → T'.2.1 ≤ T.2.1 + 20 → T'.2.2.1 ≤ T.2.2.1 + 500 → WL kt CB SB X 1653 (wlL i x m o) [] T' H') : WL kt CB SB X 655 (wlL i x m o) [] T H := by
  obtain ⟨⟨hW, g0, gx, gm, go, hK, hr⟩, hXI, hY1, hY2⟩ := hI
  refine wl_of hX hb cL_655 (rw_aload_n (pc' := 656) (v := .ref x) rfl rfl rfl ?_)
  refine wl_of hX hb cL_656 (xc_V (pc' := 659) (r := x) (as := []) (st := []) (lm_11_84) rfl rfl (Nat.le_of_ble_eq_true rfl) hW gx sh_1 (by decide) rfl (by decide) (s_92 hW gx) (fun R2323 T2324 H2325 p2326 => ?_))
  obtain ⟨e2327, w2329, f2330, z2331, e2328, b2332⟩ := p2326
  subst e2327
  subst e2328
  show WL _ _ _ _ 659 [(4, vI i), (3, .ref o), (2, .ref m), (1, .ref x), (0, .ref 0)] [vI z2331] _ H2325
  refine wl_of hX hb cL_659 (rw_pop (pc' := 660) rfl rfl ?_)
  refine wl_of hX hb cL_660 (rw_aload_n (pc' := 661) (v := .ref m) rfl rfl rfl ?_)
  have k2333 : wKI H2325 m = wKI H m := (wKI_fr hW gm f2330 rfl)
  have k2334 : H2325 x 9 = H x 9 := (f2330 x 9 _ gx rfl)
  have k2335 : H2325 m 6 = H m 6 := (f2330 m 6 _ gm rfl)
  have k2336 : H2325 x 11 = H x 11 := (f2330 x 11 _ gx rfl)
  have k2337 : H2325 m 13 = H m 13 := (f2330 m 13 _ gm rfl)
  have k2338 : H2325 x 8 = H x 8 := (f2330 x 8 _ gx rfl)
  have k2339 : H2325 m 3 = H m 3 := (f2330 m 3 _ gm rfl)
  refine wl_of hX hb cL_661 (xc_V (pc' := 664) (r := m) (as := []) (st := []) (lm_11_87) rfl rfl (Nat.le_of_ble_eq_true rfl) w2329 gm sh_42 (by decide) rfl (by decide) (s_244 w2329 gm (by omega)) (fun R2340 T2341 H2342 p2343 => ?_))
  obtain ⟨e2344, w2346, f2347, z2349, e2345, b2350, p2348⟩ := p2343
  subst e2344
  subst e2345
  show WL _ _ _ _ 664 [(4, vI i), (3, .ref o), (2, .ref m), (1, .ref x), (0, .ref 0)] [vI z2349] _ H2342
  refine wl_of hX hb cL_664 (rw_pop (pc' := 665) rfl rfl ?_)
  refine wl_of hX hb cL_665 (rw_goto (p1 := 1653) (by decide) ?_)
  have k2351 : H2342 x 9 = H2325 x 9 := (f2347 x 9 _ gx rfl)
  have k2352 : H2342 m 6 = H2325 m 6 := (f2347 m 6 _ gm rfl)
  have k2353 : H2342 x 11 = H2325 x 11 := (f2347 x 11 _ gx rfl)
  have k2354 : H2342 m 13 = H2325 m 13 := (f2347 m 13 _ gm rfl)
  have k2355 : H2342 x 8 = H2325 x 8 := (f2347 x 8 _ gx rfl)
  have k2356 : H2342 m 3 = H2325 m 3 := (f2347 m 3 _ gm rfl)
  have h2357 : XI T H2342 x m := (XI_fr w2329 gx f2347 rfl (XI_fr hW gx f2330 rfl hXI))
  exact WL.loc hX (by simp) (next T H2342 ⟨⟨w2346, g0, gx, gm, go, by omega, by omega⟩, h2357, by omega, by omega⟩ (by omega) (by omega))
set_option maxHeartbeats 4000000 in
theorem wl_c16 {kt : Nat → Option mc_E} {CB SB : Nat} {X : mc_S → Prop} {T : wq_T} {H : wq_H} {Len x m o : Nat} {i : Int} (hX : wlX kt CB SB X) (hb : T.2.1 ≤ CB ∧ T.2.2.1 ≤ SB) (hI : wlJ Len x m o T H) (hL : Len ≤ 3072) (hi : 0 ≤ i ∧ i + 6 ≤ Len) (hb2 : T.2.1 + 20 ≤ CB ∧ T.2.2.1 + 500 ≤ SB)  (next : ∀ T' H', wlJ Len x m o T' H' → T'.2.1 ≤ T.2.1 + 20 → T'.2.2.1 ≤ T.2.2.1 + 500 → WL kt CB SB X 1653 (wlL i x m o) [] T' H') : WL kt CB SB X 668 (wlL i x m o) [] T H := by
  obtain ⟨⟨hW, g0, gx, gm, go, hK, hr⟩, hXI, hY1, hY2⟩ := hI
  refine wl_of hX hb cL_668 (rw_aload_n (pc' := 669) (v := .ref x) rfl rfl rfl ?_)
  refine wl_of hX hb cL_669 (rw_aload_n (pc' := 670) (v := .ref 0) rfl rfl rfl ?_)
  refine wl_of hX hb cL_670 (rw_iload (pc' := 672) (z := i) rfl rfl ?_)
  refine wl_of hX hb cL_672 (rw_iconst (pc' := 673) rfl ?_)
  refine wl_of hX hb cL_673 (rw_iadd (pc' := 674) rfl ?_)
  refine wl_of hX hb cL_674 (xa_I (so := 0) (pc' := 675) (a := 0) hW g0 (wsh_s _) (by omega) (wty_s _ _) (by omega) (by omega) rfl (fun b2358 b2359 => ?_))
  refine wl_of hX hb cL_675 (rw_aload_n (pc' := 676) (v := .ref 0) rfl rfl rfl ?_)
  refine wl_of hX hb cL_676 (rw_iload (pc' := 678) (z := i) rfl rfl ?_)
  refine wl_of hX hb cL_678 (rw_iconst (pc' := 679) rfl ?_)
  refine wl_of hX hb cL_679 (rw_iadd (pc' := 680) rfl ?_)
  refine wl_of hX hb cL_680 (xa_I (so := 0) (pc' := 681) (a := 0) hW g0 (wsh_s _) (by omega) (wty_s _ _) (by omega) (by omega) rfl (fun b2360 b2361 => ?_))
  refine wl_of hX hb cL_681 (xc_V (pc' := 684) (r := x) (as := [vI (H 0 ((i + 1).toNat)), vI (H 0 ((i + 2).toNat))]) (st := []) (lm_11_88) rfl rfl (Nat.le_of_ble_eq_true rfl) hW gx sh_1 (by decide) rfl (by decide) (s_93 hW gx ⟨by omega, by omega⟩ ⟨by omega, by omega⟩) (fun R2362 T2363 H2364 p2365 => ?_))
  obtain ⟨e2366, w2368, f2369, z2370, e2367, b2371⟩ := p2365
  subst e2366
  subst e2367
  show WL _ _ _ _ 684 [(4, vI i), (3, .ref o), (2, .ref m), (1, .ref x), (0, .ref 0)] [vI z2370] _ H2364
  refine wl_of hX hb cL_684 (rw_pop (pc' := 685) rfl rfl ?_)
  refine wl_of hX hb cL_685 (rw_aload_n (pc' := 686) (v := .ref m) rfl rfl rfl ?_)
  refine wl_of hX hb cL_686 (rw_aload_n (pc' := 687) (v := .ref 0) rfl rfl rfl ?_)
  refine wl_of hX hb cL_687 (rw_iload (pc' := 689) (z := i) rfl rfl ?_)
  refine wl_of hX hb cL_689 (rw_iconst (pc' := 690) rfl ?_)
  refine wl_of hX hb cL_690 (rw_iadd (pc' := 691) rfl ?_)
  have k2374 : H2364 0 ((i + 1).toNat) = H 0 ((i + 1).toNat) := (f2369 0 ((i + 1).toNat) _ g0 (wmem_s rfl))
  refine wl_of hX hb cL_691 (xa_I (so := 0) (pc' := 692) (a := 0) w2368 g0 (wsh_s _) (by omega) (wty_s _ _) (by omega) (by omega) rfl (fun b2372 b2373 => ?_))
  refine wl_of hX hb cL_692 (rw_aload_n (pc' := 693) (v := .ref 0) rfl rfl rfl ?_)
  refine wl_of hX hb cL_693 (rw_iload (pc' := 695) (z := i) rfl rfl ?_)
  refine wl_of hX hb cL_695 (rw_iconst (pc' := 696) rfl ?_)
  refine wl_of hX hb cL_696 (rw_iadd (pc' := 697) rfl ?_)
  have k2377 : H2364 0 ((i + 2).toNat) = H 0 ((i + 2).toNat) := (f2369 0 ((i + 2).toNat) _ g0 (wmem_s rfl))
  refine wl_of hX hb cL_697 (xa_I (so := 0) (pc' := 698) (a := 0) w2368 g0 (wsh_s _) (by omega) (wty_s _ _) (by omega) (by omega) rfl (fun b2375 b2376 => ?_))
  have k2378 : wKI H2364 m = wKI H m := (wKI_fr hW gm f2369 rfl)
  have k2379 : H2364 x 9 = H x 9 := (f2369 x 9 _ gx rfl)
  have k2380 : H2364 m 6 = H m 6 := (f2369 m 6 _ gm rfl)
  have k2381 : H2364 x 11 = H x 11 := (f2369 x 11 _ gx rfl)
  have k2382 : H2364 m 13 = H m 13 := (f2369 m 13 _ gm rfl)
  have k2383 : H2364 x 8 = H x 8 := (f2369 x 8 _ gx rfl)
  have k2384 : H2364 m 3 = H m 3 := (f2369 m 3 _ gm rfl)
  refine wl_of hX hb cL_698 (xc_V (pc' := 701) (r := m) (as := [vI (H2364 0 ((i + 1).toNat)), vI (H2364 0 ((i + 2).toNat))]) (st := []) (lm_11_92) rfl rfl (Nat.le_of_ble_eq_true rfl) w2368 gm sh_42 (by decide) rfl (by decide) (s_245 w2368 gm ⟨by omega, by omega⟩ ⟨by omega, by omega⟩ (by omega)) (fun R2385 T2386 H2387 p2388 => ?_))
  obtain ⟨e2389, w2391, f2392, z2394, e2390, b2395, p2393⟩ := p2388
  subst e2389
  subst e2390
  show WL _ _ _ _ 701 [(4, vI i), (3, .ref o), (2, .ref m), (1, .ref x), (0, .ref 0)] [vI z2394] _ H2387
  refine wl_of hX hb cL_701 (rw_pop (pc' := 702) rfl rfl ?_)
  refine wl_of hX hb cL_702 (rw_goto (p1 := 1653) (by decide) ?_)
  have k2396 : H2387 x 9 = H2364 x 9 := (f2392 x 9 _ gx rfl)
  have k2397 : H2387 m 6 = H2364 m 6 := (f2392 m 6 _ gm rfl)
  have k2398 : H2387 x 11 = H2364 x 11 := (f2392 x 11 _ gx rfl)
  have k2399 : H2387 m 13 = H2364 m 13 := (f2392 m 13 _ gm rfl)
  have k2400 : H2387 x 8 = H2364 x 8 := (f2392 x 8 _ gx rfl)
  have k2401 : H2387 m 3 = H2364 m 3 := (f2392 m 3 _ gm rfl)
  have h2402 : XI T H2387 x m := (XI_fr w2368 gx f2392 rfl (XI_fr hW gx f2369 rfl hXI))
  exact WL.loc hX (by simp) (next T H2387 ⟨⟨w2391, g0, gx, gm, go, by omega, by omega⟩, h2402, by omega, by omega⟩ (by omega) (by omega))
set_option maxHeartbeats 4000000 in
theorem wl_c17 {kt : Nat → Option mc_E} {CB SB : Nat} {X : mc_S → Prop} {T : wq_T} {H : wq_H} {Len x m o : Nat} {i : Int} (hX : wlX kt CB SB X) (hb : T.2.1 ≤ CB ∧ T.2.2.1 ≤ SB) (hI : wlJ Len x m o T H) (hL : Len ≤ 3072) (hi : 0 ≤ i ∧ i + 6 ≤ Len) (hb2 : T.2.1 + 20 ≤ CB ∧ T.2.2.1 + 500 ≤ SB)  (next : ∀ T' H', wlJ Len x m o T' H' → T'.2.1 ≤ T.2.1 + 20 → T'.2.2.1 ≤ T.2.2.1 + 500 → WL kt CB SB X 1653 (wlL i x m o) [] T' H') : WL kt CB SB X 705 (wlL i x m o) [] T H := by
  obtain ⟨⟨hW, g0, gx, gm, go, hK, hr⟩, hXI, hY1, hY2⟩ := hI
  refine wl_of hX hb cL_705 (rw_aload_n (pc' := 706) (v := .ref x) rfl rfl rfl ?_)
  refine wl_of hX hb cL_706 (xc_V (pc' := 709) (r := x) (as := []) (st := []) (lm_11_93) rfl rfl (Nat.le_of_ble_eq_true rfl) hW gx sh_1 (by decide) rfl (by decide) (s_97 hW gx) (fun R2403 T2404 H2405 p2406 => ?_))
  obtain ⟨e2407, w2409, f2410, z2411, e2408, b2412⟩ := p2406
  subst e2407
  subst e2408
  show WL _ _ _ _ 709 [(4, vI i), (3, .ref o), (2, .ref m), (1, .ref x), (0, .ref 0)] [vL z2411] _ H2405
  refine wl_of hX hb cL_709 (rw_pop2 (pc' := 710) rfl rfl ?_)
  refine wl_of hX hb cL_710 (rw_aload_n (pc' := 711) (v := .ref m) rfl rfl rfl ?_)
  have k2413 : wKI H2405 m = wKI H m := (wKI_fr hW gm f2410 rfl)
  have k2414 : H2405 x 9 = H x 9 := (f2410 x 9 _ gx rfl)
  have k2415 : H2405 m 6 = H m 6 := (f2410 m 6 _ gm rfl)
  have k2416 : H2405 x 11 = H x 11 := (f2410 x 11 _ gx rfl)
  have k2417 : H2405 m 13 = H m 13 := (f2410 m 13 _ gm rfl)
  have k2418 : H2405 x 8 = H x 8 := (f2410 x 8 _ gx rfl)
  have k2419 : H2405 m 3 = H m 3 := (f2410 m 3 _ gm rfl)
  refine wl_of hX hb cL_711 (xc_V (pc' := 714) (r := m) (as := []) (st := []) (lm_11_96) rfl rfl (Nat.le_of_ble_eq_true rfl) w2409 gm sh_42 (by decide) rfl (by decide) (s_246 w2409 gm (by omega)) (fun R2420 T2421 H2422 p2423 => ?_))
  obtain ⟨e2424, w2426, f2427, z2429, e2425, b2430, p2428⟩ := p2423
  subst e2424
  subst e2425
  show WL _ _ _ _ 714 [(4, vI i), (3, .ref o), (2, .ref m), (1, .ref x), (0, .ref 0)] [vL z2429] _ H2422
  refine wl_of hX hb cL_714 (rw_pop2 (pc' := 715) rfl rfl ?_)
  refine wl_of hX hb cL_715 (rw_goto (p1 := 1653) (by decide) ?_)
  have k2431 : H2422 x 9 = H2405 x 9 := (f2427 x 9 _ gx rfl)
  have k2432 : H2422 m 6 = H2405 m 6 := (f2427 m 6 _ gm rfl)
  have k2433 : H2422 x 11 = H2405 x 11 := (f2427 x 11 _ gx rfl)
  have k2434 : H2422 m 13 = H2405 m 13 := (f2427 m 13 _ gm rfl)
  have k2435 : H2422 x 8 = H2405 x 8 := (f2427 x 8 _ gx rfl)
  have k2436 : H2422 m 3 = H2405 m 3 := (f2427 m 3 _ gm rfl)
  have h2437 : XI T H2422 x m := (XI_fr w2409 gx f2427 rfl (XI_fr hW gx f2410 rfl hXI))
  exact WL.loc hX (by simp) (next T H2422 ⟨⟨w2426, g0, gx, gm, go, by omega, by omega⟩, h2437, by omega, by omega⟩ (by omega) (by omega))
set_option maxHeartbeats 4000000 in
theorem wl_c18 {kt : Nat → Option mc_E} {CB SB : Nat} {X : mc_S → Prop} {T : wq_T} {H : wq_H} {Len x m o : Nat} {i : Int} (hX : wlX kt CB SB X) (hb : T.2.1 ≤ CB ∧ T.2.2.1 ≤ SB) (hI : wlJ Len x m o T H) (hL : Len ≤ 3072) (hi : 0 ≤ i ∧ i + 6 ≤ Len) (hb2 : T.2.1 + 20 ≤ CB ∧ T.2.2.1 + 500 ≤ SB)  (next : ∀ T' H', wlJ Len x m o T' H' → T'.2.1 ≤ T.2.1 + 20 → T'.2.2.1 ≤ T.2.2.1 + 500 → WL kt CB SB X 1653 (wlL i x m o) [] T' H') : WL kt CB SB X 718 (wlL i x m o) [] T H := by
  obtain ⟨⟨hW, g0, gx, gm, go, hK, hr⟩, hXI, hY1, hY2⟩ := hI
  refine wl_of hX hb cL_718 (rw_aload_n (pc' := 719) (v := .ref x) rfl rfl rfl ?_)
  refine wl_of hX hb cL_719 (rw_aload_n (pc' := 720) (v := .ref 0) rfl rfl rfl ?_)
  refine wl_of hX hb cL_720 (rw_iload (pc' := 722) (z := i) rfl rfl ?_)
  refine wl_of hX hb cL_722 (rw_iconst (pc' := 723) rfl ?_)
  refine wl_of hX hb cL_723 (rw_iadd (pc' := 724) rfl ?_)
  refine wl_of hX hb cL_724 (xa_I (so := 0) (pc' := 725) (a := 0) hW g0 (wsh_s _) (by omega) (wty_s _ _) (by omega) (by omega) rfl (fun b2438 b2439 => ?_))
  refine wl_of hX hb cL_725 (rw_aload_n (pc' := 726) (v := .ref 0) rfl rfl rfl ?_)
  refine wl_of hX hb cL_726 (rw_iload (pc' := 728) (z := i) rfl rfl ?_)
  refine wl_of hX hb cL_728 (rw_iconst (pc' := 729) rfl ?_)
  refine wl_of hX hb cL_729 (rw_iadd (pc' := 730) rfl ?_)
  refine wl_of hX hb cL_730 (xa_I (so := 0) (pc' := 731) (a := 0) hW g0 (wsh_s _) (by omega) (wty_s _ _) (by omega) (by omega) rfl (fun b2440 b2441 => ?_))
  refine wl_of hX hb cL_731 (xc_V (pc' := 734) (r := x) (as := [vI (H 0 ((i + 1).toNat)), vI (H 0 ((i + 2).toNat))]) (st := []) (lm_11_97) rfl rfl (Nat.le_of_ble_eq_true rfl) hW gx sh_1 (by decide) rfl (by decide) (s_98 hW gx ⟨by omega, by omega⟩ ⟨by omega, by omega⟩) (fun R2442 T2443 H2444 p2445 => ?_))
  obtain ⟨e2446, w2448, f2449, z2450, e2447, b2451⟩ := p2445
  subst e2446
  subst e2447
  show WL _ _ _ _ 734 [(4, vI i), (3, .ref o), (2, .ref m), (1, .ref x), (0, .ref 0)] [vI z2450] _ H2444
  refine wl_of hX hb cL_734 (rw_pop (pc' := 735) rfl rfl ?_)
  refine wl_of hX hb cL_735 (rw_aload_n (pc' := 736) (v := .ref m) rfl rfl rfl ?_)
  refine wl_of hX hb cL_736 (rw_aload_n (pc' := 737) (v := .ref 0) rfl rfl rfl ?_)
  refine wl_of hX hb cL_737 (rw_iload (pc' := 739) (z := i) rfl rfl ?_)
  refine wl_of hX hb cL_739 (rw_iconst (pc' := 740) rfl ?_)
  refine wl_of hX hb cL_740 (rw_iadd (pc' := 741) rfl ?_)
  have k2454 : H2444 0 ((i + 1).toNat) = H 0 ((i + 1).toNat) := (f2449 0 ((i + 1).toNat) _ g0 (wmem_s rfl))
  refine wl_of hX hb cL_741 (xa_I (so := 0) (pc' := 742) (a := 0) w2448 g0 (wsh_s _) (by omega) (wty_s _ _) (by omega) (by omega) rfl (fun b2452 b2453 => ?_))
  refine wl_of hX hb cL_742 (rw_aload_n (pc' := 743) (v := .ref 0) rfl rfl rfl ?_)
  refine wl_of hX hb cL_743 (rw_iload (pc' := 745) (z := i) rfl rfl ?_)
  refine wl_of hX hb cL_745 (rw_iconst (pc' := 746) rfl ?_)
  refine wl_of hX hb cL_746 (rw_iadd (pc' := 747) rfl ?_)
  have k2457 : H2444 0 ((i + 2).toNat) = H 0 ((i + 2).toNat) := (f2449 0 ((i + 2).toNat) _ g0 (wmem_s rfl))
  refine wl_of hX hb cL_747 (xa_I (so := 0) (pc' := 748) (a := 0) w2448 g0 (wsh_s _) (by omega) (wty_s _ _) (by omega) (by omega) rfl (fun b2455 b2456 => ?_))
  have k2458 : wKI H2444 m = wKI H m := (wKI_fr hW gm f2449 rfl)
  have k2459 : H2444 x 9 = H x 9 := (f2449 x 9 _ gx rfl)
  have k2460 : H2444 m 6 = H m 6 := (f2449 m 6 _ gm rfl)
  have k2461 : H2444 x 11 = H x 11 := (f2449 x 11 _ gx rfl)
  have k2462 : H2444 m 13 = H m 13 := (f2449 m 13 _ gm rfl)
  have k2463 : H2444 x 8 = H x 8 := (f2449 x 8 _ gx rfl)
  have k2464 : H2444 m 3 = H m 3 := (f2449 m 3 _ gm rfl)
  refine wl_of hX hb cL_748 (xc_V (pc' := 751) (r := m) (as := [vI (H2444 0 ((i + 1).toNat)), vI (H2444 0 ((i + 2).toNat))]) (st := []) (lm_11_100) rfl rfl (Nat.le_of_ble_eq_true rfl) w2448 gm sh_42 (by decide) rfl (by decide) (s_249 w2448 gm ⟨by omega, by omega⟩ ⟨by omega, by omega⟩ (by omega)) (fun R2465 T2466 H2467 p2468 => ?_))
  obtain ⟨e2469, w2471, f2472, z2474, e2470, b2475, p2473⟩ := p2468
  subst e2469
  subst e2470
  show WL _ _ _ _ 751 [(4, vI i), (3, .ref o), (2, .ref m), (1, .ref x), (0, .ref 0)] [vI z2474] _ H2467
  refine wl_of hX hb cL_751 (rw_pop (pc' := 752) rfl rfl ?_)
  refine wl_of hX hb cL_752 (rw_goto (p1 := 1653) (by decide) ?_)
  have k2476 : H2467 x 9 = H2444 x 9 := (f2472 x 9 _ gx rfl)
  have k2477 : H2467 m 6 = H2444 m 6 := (f2472 m 6 _ gm rfl)
  have k2478 : H2467 x 11 = H2444 x 11 := (f2472 x 11 _ gx rfl)
  have k2479 : H2467 m 13 = H2444 m 13 := (f2472 m 13 _ gm rfl)
  have k2480 : H2467 x 8 = H2444 x 8 := (f2472 x 8 _ gx rfl)
  have k2481 : H2467 m 3 = H2444 m 3 := (f2472 m 3 _ gm rfl)
  have h2482 : XI T H2467 x m := (XI_fr w2448 gx f2472 rfl (XI_fr hW gx f2449 rfl hXI))
  exact WL.loc hX (by simp) (next T H2467 ⟨⟨w2471, g0, gx, gm, go, by omega, by omega⟩, h2482, by omega, by omega⟩ (by omega) (by omega))
set_option maxHeartbeats 4000000 in
theorem wl_c19 {kt : Nat → Option mc_E} {CB SB : Nat} {X : mc_S → Prop} {T : wq_T} {H : wq_H} {Len x m o : Nat} {i : Int} (hX : wlX kt CB SB X) (hb : T.2.1 ≤ CB ∧ T.2.2.1 ≤ SB) (hI : wlJ Len x m o T H) (hL : Len ≤ 3072) (hi : 0 ≤ i ∧ i + 6 ≤ Len) (hb2 : T.2.1 + 20 ≤ CB ∧ T.2.2.1 + 500 ≤ SB)  (next : ∀ T' H', wlJ Len x m o T' H' → T'.2.1 ≤ T.2.1 + 20 → T'.2.2.1 ≤ T.2.2.1 + 500 → WL kt CB SB X 1653 (wlL i x m o) [] T' H') : WL kt CB SB X 755 (wlL i x m o) [] T H := by
  obtain ⟨⟨hW, g0, gx, gm, go, hK, hr⟩, hXI, hY1, hY2⟩ := hI
  refine wl_of hX hb cL_755 (rw_aload_n (pc' := 756) (v := .ref x) rfl rfl rfl ?_)
  refine wl_of hX hb cL_756 (rw_aload_n (pc' := 757) (v := .ref 0) rfl rfl rfl ?_)
  refine wl_of hX hb cL_757 (rw_iload (pc' := 759) (z := i) rfl rfl ?_)
  refine wl_of hX hb cL_759 (rw_iconst (pc' := 760) rfl ?_)
  refine wl_of hX hb cL_760 (rw_iadd (pc' := 761) rfl ?_)
  refine wl_of hX hb cL_761 (xa_I (so := 0) (pc' := 762) (a := 0) hW g0 (wsh_s _) (by omega) (wty_s _ _) (by omega) (by omega) rfl (fun b2483 b2484 => ?_))
  refine wl_of hX hb cL_762 (rw_aload_n (pc' := 763) (v := .ref 0) rfl rfl rfl ?_)
  refine wl_of hX hb cL_763 (rw_iload (pc' := 765) (z := i) rfl rfl ?_)
  refine wl_of hX hb cL_765 (rw_iconst (pc' := 766) rfl ?_)
  refine wl_of hX hb cL_766 (rw_iadd (pc' := 767) rfl ?_)
  refine wl_of hX hb cL_767 (xa_I (so := 0) (pc' := 768) (a := 0) hW g0 (wsh_s _) (by omega) (wty_s _ _) (by omega) (by omega) rfl (fun b2485 b2486 => ?_))
  refine wl_of hX hb cL_768 (xc_V (pc' := 771) (r := x) (as := [vI (H 0 ((i + 1).toNat)), vI (H 0 ((i + 2).toNat))]) (st := []) (lm_11_101) rfl rfl (Nat.le_of_ble_eq_true rfl) hW gx sh_1 (by decide) rfl (by decide) (s_99 hW gx ⟨by omega, by omega⟩ ⟨by omega, by omega⟩) (fun R2487 T2488 H2489 p2490 => ?_))
  obtain ⟨e2491, w2493, f2494, z2495, e2492, b2496⟩ := p2490
  subst e2491
  subst e2492
  show WL _ _ _ _ 771 [(4, vI i), (3, .ref o), (2, .ref m), (1, .ref x), (0, .ref 0)] [vI z2495] _ H2489
  refine wl_of hX hb cL_771 (rw_pop (pc' := 772) rfl rfl ?_)
  refine wl_of hX hb cL_772 (rw_aload_n (pc' := 773) (v := .ref m) rfl rfl rfl ?_)
  refine wl_of hX hb cL_773 (rw_aload_n (pc' := 774) (v := .ref 0) rfl rfl rfl ?_)
  refine wl_of hX hb cL_774 (rw_iload (pc' := 776) (z := i) rfl rfl ?_)
  refine wl_of hX hb cL_776 (rw_iconst (pc' := 777) rfl ?_)
  refine wl_of hX hb cL_777 (rw_iadd (pc' := 778) rfl ?_)
  have k2499 : H2489 0 ((i + 1).toNat) = H 0 ((i + 1).toNat) := (f2494 0 ((i + 1).toNat) _ g0 (wmem_s rfl))
  refine wl_of hX hb cL_778 (xa_I (so := 0) (pc' := 779) (a := 0) w2493 g0 (wsh_s _) (by omega) (wty_s _ _) (by omega) (by omega) rfl (fun b2497 b2498 => ?_))
  refine wl_of hX hb cL_779 (rw_aload_n (pc' := 780) (v := .ref 0) rfl rfl rfl ?_)
  refine wl_of hX hb cL_780 (rw_iload (pc' := 782) (z := i) rfl rfl ?_)
  refine wl_of hX hb cL_782 (rw_iconst (pc' := 783) rfl ?_)
  refine wl_of hX hb cL_783 (rw_iadd (pc' := 784) rfl ?_)
  have k2502 : H2489 0 ((i + 2).toNat) = H 0 ((i + 2).toNat) := (f2494 0 ((i + 2).toNat) _ g0 (wmem_s rfl))
  refine wl_of hX hb cL_784 (xa_I (so := 0) (pc' := 785) (a := 0) w2493 g0 (wsh_s _) (by omega) (wty_s _ _) (by omega) (by omega) rfl (fun b2500 b2501 => ?_))
  have k2503 : wKI H2489 m = wKI H m := (wKI_fr hW gm f2494 rfl)
  have k2504 : H2489 x 9 = H x 9 := (f2494 x 9 _ gx rfl)
  have k2505 : H2489 m 6 = H m 6 := (f2494 m 6 _ gm rfl)
  have k2506 : H2489 x 11 = H x 11 := (f2494 x 11 _ gx rfl)
  have k2507 : H2489 m 13 = H m 13 := (f2494 m 13 _ gm rfl)
  have k2508 : H2489 x 8 = H x 8 := (f2494 x 8 _ gx rfl)
  have k2509 : H2489 m 3 = H m 3 := (f2494 m 3 _ gm rfl)
  refine wl_of hX hb cL_785 (xc_V (pc' := 788) (r := m) (as := [vI (H2489 0 ((i + 1).toNat)), vI (H2489 0 ((i + 2).toNat))]) (st := []) (lm_11_104) rfl rfl (Nat.le_of_ble_eq_true rfl) w2493 gm sh_42 (by decide) rfl (by decide) (s_250 w2493 gm ⟨by omega, by omega⟩ ⟨by omega, by omega⟩ (by omega)) (fun R2510 T2511 H2512 p2513 => ?_))
  obtain ⟨e2514, w2516, f2517, z2519, e2515, b2520, p2518⟩ := p2513
  subst e2514
  subst e2515
  show WL _ _ _ _ 788 [(4, vI i), (3, .ref o), (2, .ref m), (1, .ref x), (0, .ref 0)] [vI z2519] _ H2512
  refine wl_of hX hb cL_788 (rw_pop (pc' := 789) rfl rfl ?_)
  refine wl_of hX hb cL_789 (rw_goto (p1 := 1653) (by decide) ?_)
  have k2521 : H2512 x 9 = H2489 x 9 := (f2517 x 9 _ gx rfl)
  have k2522 : H2512 m 6 = H2489 m 6 := (f2517 m 6 _ gm rfl)
  have k2523 : H2512 x 11 = H2489 x 11 := (f2517 x 11 _ gx rfl)
  have k2524 : H2512 m 13 = H2489 m 13 := (f2517 m 13 _ gm rfl)
  have k2525 : H2512 x 8 = H2489 x 8 := (f2517 x 8 _ gx rfl)
  have k2526 : H2512 m 3 = H2489 m 3 := (f2517 m 3 _ gm rfl)
  have h2527 : XI T H2512 x m := (XI_fr w2493 gx f2517 rfl (XI_fr hW gx f2494 rfl hXI))
  exact WL.loc hX (by simp) (next T H2512 ⟨⟨w2516, g0, gx, gm, go, by omega, by omega⟩, h2527, by omega, by omega⟩ (by omega) (by omega))
set_option maxHeartbeats 4000000 in
theorem wl_c20 {kt : Nat → Option mc_E} {CB SB : Nat} {X : mc_S → Prop} {T : wq_T} {H : wq_H} {Len x m o : Nat} {i : Int} (hX : wlX kt CB SB X) (hb : T.2.1 ≤ CB ∧ T.2.2.1 ≤ SB) (hI : wlJ Len x m o T H) (hL : Len ≤ 3072) (hi : 0 ≤ i ∧ i + 6 ≤ Len) (hb2 : T.2.1 + 20 ≤ CB ∧ T.2.2.1 + 500 ≤ SB)  (next : ∀ T' H', wlJ Len x m o T' H' → T'.2.1 ≤ T.2.1 + 20 → T'.2.2.1 ≤ T.2.2.1 + 500 → WL kt CB SB X 1653 (wlL i x m o) [] T' H') : WL kt CB SB X 792 (wlL i x m o) [] T H := by
  obtain ⟨⟨hW, g0, gx, gm, go, hK, hr⟩, hXI, hY1, hY2⟩ := hI
  refine wl_of hX hb cL_792 (rw_aload_n (pc' := 793) (v := .ref x) rfl rfl rfl ?_)
  refine wl_of hX hb cL_793 (rw_aload_n (pc' := 794) (v := .ref 0) rfl rfl rfl ?_)
  refine wl_of hX hb cL_794 (rw_iload (pc' := 796) (z := i) rfl rfl ?_)
  refine wl_of hX hb cL_796 (rw_iconst (pc' := 797) rfl ?_)
  refine wl_of hX hb cL_797 (rw_iadd (pc' := 798) rfl ?_)
  refine wl_of hX hb cL_798 (xa_I (so := 0) (pc' := 799) (a := 0) hW g0 (wsh_s _) (by omega) (wty_s _ _) (by omega) (by omega) rfl (fun b2528 b2529 => ?_))
  refine wl_of hX hb cL_799 (rw_aload_n (pc' := 800) (v := .ref 0) rfl rfl rfl ?_)
  refine wl_of hX hb cL_800 (rw_iload (pc' := 802) (z := i) rfl rfl ?_)
  refine wl_of hX hb cL_802 (rw_iconst (pc' := 803) rfl ?_)
  refine wl_of hX hb cL_803 (rw_iadd (pc' := 804) rfl ?_)
  refine wl_of hX hb cL_804 (xa_I (so := 0) (pc' := 805) (a := 0) hW g0 (wsh_s _) (by omega) (wty_s _ _) (by omega) (by omega) rfl (fun b2530 b2531 => ?_))
  refine wl_of hX hb cL_805 (xc_V (pc' := 808) (r := x) (as := [vI (H 0 ((i + 1).toNat)), vI (H 0 ((i + 2).toNat))]) (st := []) (lm_11_105) rfl rfl (Nat.le_of_ble_eq_true rfl) hW gx sh_1 (by decide) rfl (by decide) (s_101 hW gx ⟨by omega, by omega⟩ ⟨by omega, by omega⟩) (fun R2532 T2533 H2534 p2535 => ?_))
  obtain ⟨e2536, w2538, f2539, z2540, e2537, b2541⟩ := p2535
  subst e2536
  subst e2537
  show WL _ _ _ _ 808 [(4, vI i), (3, .ref o), (2, .ref m), (1, .ref x), (0, .ref 0)] [vI z2540] _ H2534
  refine wl_of hX hb cL_808 (rw_pop (pc' := 809) rfl rfl ?_)
  refine wl_of hX hb cL_809 (rw_aload_n (pc' := 810) (v := .ref m) rfl rfl rfl ?_)
  refine wl_of hX hb cL_810 (rw_aload_n (pc' := 811) (v := .ref 0) rfl rfl rfl ?_)
  refine wl_of hX hb cL_811 (rw_iload (pc' := 813) (z := i) rfl rfl ?_)
  refine wl_of hX hb cL_813 (rw_iconst (pc' := 814) rfl ?_)
  refine wl_of hX hb cL_814 (rw_iadd (pc' := 815) rfl ?_)
  have k2544 : H2534 0 ((i + 1).toNat) = H 0 ((i + 1).toNat) := (f2539 0 ((i + 1).toNat) _ g0 (wmem_s rfl))
  refine wl_of hX hb cL_815 (xa_I (so := 0) (pc' := 816) (a := 0) w2538 g0 (wsh_s _) (by omega) (wty_s _ _) (by omega) (by omega) rfl (fun b2542 b2543 => ?_))
  refine wl_of hX hb cL_816 (rw_aload_n (pc' := 817) (v := .ref 0) rfl rfl rfl ?_)
  refine wl_of hX hb cL_817 (rw_iload (pc' := 819) (z := i) rfl rfl ?_)
  refine wl_of hX hb cL_819 (rw_iconst (pc' := 820) rfl ?_)
  refine wl_of hX hb cL_820 (rw_iadd (pc' := 821) rfl ?_)
  have k2547 : H2534 0 ((i + 2).toNat) = H 0 ((i + 2).toNat) := (f2539 0 ((i + 2).toNat) _ g0 (wmem_s rfl))
  refine wl_of hX hb cL_821 (xa_I (so := 0) (pc' := 822) (a := 0) w2538 g0 (wsh_s _) (by omega) (wty_s _ _) (by omega) (by omega) rfl (fun b2545 b2546 => ?_))
  have k2548 : wKI H2534 m = wKI H m := (wKI_fr hW gm f2539 rfl)
  have k2549 : H2534 x 9 = H x 9 := (f2539 x 9 _ gx rfl)
  have k2550 : H2534 m 6 = H m 6 := (f2539 m 6 _ gm rfl)
  have k2551 : H2534 x 11 = H x 11 := (f2539 x 11 _ gx rfl)
  have k2552 : H2534 m 13 = H m 13 := (f2539 m 13 _ gm rfl)
  have k2553 : H2534 x 8 = H x 8 := (f2539 x 8 _ gx rfl)
  have k2554 : H2534 m 3 = H m 3 := (f2539 m 3 _ gm rfl)
  refine wl_of hX hb cL_822 (xc_V (pc' := 825) (r := m) (as := [vI (H2534 0 ((i + 1).toNat)), vI (H2534 0 ((i + 2).toNat))]) (st := []) (lm_11_108) rfl rfl (Nat.le_of_ble_eq_true rfl) w2538 gm sh_42 (by decide) rfl (by decide) (s_252 w2538 gm ⟨by omega, by omega⟩ ⟨by omega, by omega⟩ (by omega)) (fun R2555 T2556 H2557 p2558 => ?_))
  obtain ⟨e2559, w2561, f2562, z2564, e2560, b2565, p2563⟩ := p2558
  subst e2559
  subst e2560
  show WL _ _ _ _ 825 [(4, vI i), (3, .ref o), (2, .ref m), (1, .ref x), (0, .ref 0)] [vI z2564] _ H2557
  refine wl_of hX hb cL_825 (rw_pop (pc' := 826) rfl rfl ?_)
  refine wl_of hX hb cL_826 (rw_goto (p1 := 1653) (by decide) ?_)
  have k2566 : H2557 x 9 = H2534 x 9 := (f2562 x 9 _ gx rfl)
  have k2567 : H2557 m 6 = H2534 m 6 := (f2562 m 6 _ gm rfl)
  have k2568 : H2557 x 11 = H2534 x 11 := (f2562 x 11 _ gx rfl)
  have k2569 : H2557 m 13 = H2534 m 13 := (f2562 m 13 _ gm rfl)
  have k2570 : H2557 x 8 = H2534 x 8 := (f2562 x 8 _ gx rfl)
  have k2571 : H2557 m 3 = H2534 m 3 := (f2562 m 3 _ gm rfl)
  have h2572 : XI T H2557 x m := (XI_fr w2538 gx f2562 rfl (XI_fr hW gx f2539 rfl hXI))
  exact WL.loc hX (by simp) (next T H2557 ⟨⟨w2561, g0, gx, gm, go, by omega, by omega⟩, h2572, by omega, by omega⟩ (by omega) (by omega))
set_option maxHeartbeats 4000000 in
theorem wl_c21 {kt : Nat → Option mc_E} {CB SB : Nat} {X : mc_S → Prop} {T : wq_T} {H : wq_H} {Len x m o : Nat} {i : Int} (hX : wlX kt CB SB X) (hb : T.2.1 ≤ CB ∧ T.2.2.1 ≤ SB) (hI : wlJ Len x m o T H) (hL : Len ≤ 3072) (hi : 0 ≤ i ∧ i + 6 ≤ Len) (hb2 : T.2.1 + 20 ≤ CB ∧ T.2.2.1 + 500 ≤ SB)  (next : ∀ T' H', wlJ Len x m o T' H' → T'.2.1 ≤ T.2.1 + 20 → T'.2.2.1 ≤ T.2.2.1 + 500 → WL kt CB SB X 1653 (wlL i x m o) [] T' H') : WL kt CB SB X 829 (wlL i x m o) [] T H := by
  obtain ⟨⟨hW, g0, gx, gm, go, hK, hr⟩, hXI, hY1, hY2⟩ := hI
  refine wl_of hX hb cL_829 (rw_aload_n (pc' := 830) (v := .ref x) rfl rfl rfl ?_)
  refine wl_of hX hb cL_830 (rw_aload_n (pc' := 831) (v := .ref 0) rfl rfl rfl ?_)
  refine wl_of hX hb cL_831 (rw_iload (pc' := 833) (z := i) rfl rfl ?_)
  refine wl_of hX hb cL_833 (rw_iconst (pc' := 834) rfl ?_)
  refine wl_of hX hb cL_834 (rw_iadd (pc' := 835) rfl ?_)
  refine wl_of hX hb cL_835 (xa_I (so := 0) (pc' := 836) (a := 0) hW g0 (wsh_s _) (by omega) (wty_s _ _) (by omega) (by omega) rfl (fun b2573 b2574 => ?_))
  refine wl_of hX hb cL_836 (rw_aload_n (pc' := 837) (v := .ref 0) rfl rfl rfl ?_)
  refine wl_of hX hb cL_837 (rw_iload (pc' := 839) (z := i) rfl rfl ?_)
  refine wl_of hX hb cL_839 (rw_iconst (pc' := 840) rfl ?_)
  refine wl_of hX hb cL_840 (rw_iadd (pc' := 841) rfl ?_)
  refine wl_of hX hb cL_841 (xa_I (so := 0) (pc' := 842) (a := 0) hW g0 (wsh_s _) (by omega) (wty_s _ _) (by omega) (by omega) rfl (fun b2575 b2576 => ?_))
  refine wl_of hX hb cL_842 (rw_if_eq (p1 := 849) (p2 := 845) (by decide) rfl ⟨by omega, by omega⟩ (fun c2577 => ?_) (fun c2577 => ?_))
  · refine wl_of hX hb cL_849 (rw_iconst (pc' := 850) rfl ?_)
    refine wl_of hX hb cL_850 (xc_V (pc' := 853) (r := x) (as := [vI (H 0 ((i + 1).toNat)), vI 0]) (st := []) (lm_11_109) rfl rfl (Nat.le_of_ble_eq_true rfl) hW gx sh_1 (by decide) rfl (by decide) (s_104 hW gx ⟨by omega, by omega⟩ ⟨by decide, by decide⟩) (fun R2578 T2579 H2580 p2581 => ?_))
    obtain ⟨e2582, w2584, f2585, z2586, e2583, b2587⟩ := p2581
    subst e2582
    subst e2583
    show WL _ _ _ _ 853 [(4, vI i), (3, .ref o), (2, .ref m), (1, .ref x), (0, .ref 0)] [vI z2586] _ H2580
    refine wl_of hX hb cL_853 (rw_pop (pc' := 854) rfl rfl ?_)
    refine wl_of hX hb cL_854 (rw_aload_n (pc' := 855) (v := .ref m) rfl rfl rfl ?_)
    refine wl_of hX hb cL_855 (rw_aload_n (pc' := 856) (v := .ref 0) rfl rfl rfl ?_)
    refine wl_of hX hb cL_856 (rw_iload (pc' := 858) (z := i) rfl rfl ?_)
    refine wl_of hX hb cL_858 (rw_iconst (pc' := 859) rfl ?_)
    refine wl_of hX hb cL_859 (rw_iadd (pc' := 860) rfl ?_)
    have k2590 : H2580 0 ((i + 1).toNat) = H 0 ((i + 1).toNat) := (f2585 0 ((i + 1).toNat) _ g0 (wmem_s rfl))
    refine wl_of hX hb cL_860 (xa_I (so := 0) (pc' := 861) (a := 0) w2584 g0 (wsh_s _) (by omega) (wty_s _ _) (by omega) (by omega) rfl (fun b2588 b2589 => ?_))
    refine wl_of hX hb cL_861 (rw_aload_n (pc' := 862) (v := .ref 0) rfl rfl rfl ?_)
    refine wl_of hX hb cL_862 (rw_iload (pc' := 864) (z := i) rfl rfl ?_)
    refine wl_of hX hb cL_864 (rw_iconst (pc' := 865) rfl ?_)
    refine wl_of hX hb cL_865 (rw_iadd (pc' := 866) rfl ?_)
    have k2593 : H2580 0 ((i + 2).toNat) = H 0 ((i + 2).toNat) := (f2585 0 ((i + 2).toNat) _ g0 (wmem_s rfl))
    refine wl_of hX hb cL_866 (xa_I (so := 0) (pc' := 867) (a := 0) w2584 g0 (wsh_s _) (by omega) (wty_s _ _) (by omega) (by omega) rfl (fun b2591 b2592 => ?_))
    refine wl_of hX hb cL_867 (rw_if_eq (p1 := 874) (p2 := 870) (by decide) rfl ⟨by omega, by omega⟩ (fun c2594 => ?_) (fun c2594 => ?_))
    · refine wl_of hX hb cL_874 (rw_iconst (pc' := 875) rfl ?_)
      have k2595 : wKI H2580 m = wKI H m := (wKI_fr hW gm f2585 rfl)
      have k2596 : H2580 x 9 = H x 9 := (f2585 x 9 _ gx rfl)
      have k2597 : H2580 m 6 = H m 6 := (f2585 m 6 _ gm rfl)
      have k2598 : H2580 x 11 = H x 11 := (f2585 x 11 _ gx rfl)
      have k2599 : H2580 m 13 = H m 13 := (f2585 m 13 _ gm rfl)
      have k2600 : H2580 x 8 = H x 8 := (f2585 x 8 _ gx rfl)
      have k2601 : H2580 m 3 = H m 3 := (f2585 m 3 _ gm rfl)
      refine wl_of hX hb cL_875 (xc_V (pc' := 878) (r := m) (as := [vI (H2580 0 ((i + 1).toNat)), vI 0]) (st := []) (lm_11_113) rfl rfl (Nat.le_of_ble_eq_true rfl) w2584 gm sh_42 (by decide) rfl (by decide) (s_254 w2584 gm ⟨by omega, by omega⟩ ⟨by decide, by decide⟩ (by omega)) (fun R2602 T2603 H2604 p2605 => ?_))
      obtain ⟨e2606, w2608, f2609, z2611, e2607, b2612, p2610⟩ := p2605
      subst e2606
      subst e2607
      show WL _ _ _ _ 878 [(4, vI i), (3, .ref o), (2, .ref m), (1, .ref x), (0, .ref 0)] [vI z2611] _ H2604
      refine wl_of hX hb cL_878 (rw_pop (pc' := 879) rfl rfl ?_)
      refine wl_of hX hb cL_879 (rw_goto (p1 := 1653) (by decide) ?_)
      have k2613 : H2604 x 9 = H2580 x 9 := (f2609 x 9 _ gx rfl)
      have k2614 : H2604 m 6 = H2580 m 6 := (f2609 m 6 _ gm rfl)
      have k2615 : H2604 x 11 = H2580 x 11 := (f2609 x 11 _ gx rfl)
      have k2616 : H2604 m 13 = H2580 m 13 := (f2609 m 13 _ gm rfl)
      have k2617 : H2604 x 8 = H2580 x 8 := (f2609 x 8 _ gx rfl)
      have k2618 : H2604 m 3 = H2580 m 3 := (f2609 m 3 _ gm rfl)
      have h2619 : XI T H2604 x m := (XI_fr w2584 gx f2609 rfl (XI_fr hW gx f2585 rfl hXI))
      exact WL.loc hX (by simp) (next T H2604 ⟨⟨w2608, g0, gx, gm, go, by omega, by omega⟩, h2619, by omega, by omega⟩ (by omega) (by omega))
    · exfalso
      omega
  · refine wl_of hX hb cL_845 (rw_iconst (pc' := 846) rfl ?_)
    refine wl_of hX hb cL_846 (rw_goto (p1 := 850) (by decide) ?_)
    refine wl_of hX hb cL_850 (xc_V (pc' := 853) (r := x) (as := [vI (H 0 ((i + 1).toNat)), vI 1]) (st := []) (lm_11_109) rfl rfl (Nat.le_of_ble_eq_true rfl) hW gx sh_1 (by decide) rfl (by decide) (s_104 hW gx ⟨by omega, by omega⟩ ⟨by decide, by decide⟩) (fun R2620 T2621 H2622 p2623 => ?_))
    obtain ⟨e2624, w2626, f2627, z2628, e2625, b2629⟩ := p2623
    subst e2624
    subst e2625
    show WL _ _ _ _ 853 [(4, vI i), (3, .ref o), (2, .ref m), (1, .ref x), (0, .ref 0)] [vI z2628] _ H2622
    refine wl_of hX hb cL_853 (rw_pop (pc' := 854) rfl rfl ?_)
    refine wl_of hX hb cL_854 (rw_aload_n (pc' := 855) (v := .ref m) rfl rfl rfl ?_)
    refine wl_of hX hb cL_855 (rw_aload_n (pc' := 856) (v := .ref 0) rfl rfl rfl ?_)
    refine wl_of hX hb cL_856 (rw_iload (pc' := 858) (z := i) rfl rfl ?_)
    refine wl_of hX hb cL_858 (rw_iconst (pc' := 859) rfl ?_)
    refine wl_of hX hb cL_859 (rw_iadd (pc' := 860) rfl ?_)
    have k2632 : H2622 0 ((i + 1).toNat) = H 0 ((i + 1).toNat) := (f2627 0 ((i + 1).toNat) _ g0 (wmem_s rfl))
    refine wl_of hX hb cL_860 (xa_I (so := 0) (pc' := 861) (a := 0) w2626 g0 (wsh_s _) (by omega) (wty_s _ _) (by omega) (by omega) rfl (fun b2630 b2631 => ?_))
    refine wl_of hX hb cL_861 (rw_aload_n (pc' := 862) (v := .ref 0) rfl rfl rfl ?_)
    refine wl_of hX hb cL_862 (rw_iload (pc' := 864) (z := i) rfl rfl ?_)
    refine wl_of hX hb cL_864 (rw_iconst (pc' := 865) rfl ?_)
    refine wl_of hX hb cL_865 (rw_iadd (pc' := 866) rfl ?_)
    have k2635 : H2622 0 ((i + 2).toNat) = H 0 ((i + 2).toNat) := (f2627 0 ((i + 2).toNat) _ g0 (wmem_s rfl))
    refine wl_of hX hb cL_866 (xa_I (so := 0) (pc' := 867) (a := 0) w2626 g0 (wsh_s _) (by omega) (wty_s _ _) (by omega) (by omega) rfl (fun b2633 b2634 => ?_))
    refine wl_of hX hb cL_867 (rw_if_eq (p1 := 874) (p2 := 870) (by decide) rfl ⟨by omega, by omega⟩ (fun c2636 => ?_) (fun c2636 => ?_))
    · refine wl_of hX hb cL_874 (rw_iconst (pc' := 875) rfl ?_)
      have k2637 : wKI H2622 m = wKI H m := (wKI_fr hW gm f2627 rfl)
      have k2638 : H2622 x 9 = H x 9 := (f2627 x 9 _ gx rfl)
      have k2639 : H2622 m 6 = H m 6 := (f2627 m 6 _ gm rfl)
      have k2640 : H2622 x 11 = H x 11 := (f2627 x 11 _ gx rfl)
      have k2641 : H2622 m 13 = H m 13 := (f2627 m 13 _ gm rfl)
      have k2642 : H2622 x 8 = H x 8 := (f2627 x 8 _ gx rfl)
      have k2643 : H2622 m 3 = H m 3 := (f2627 m 3 _ gm rfl)
      refine wl_of hX hb cL_875 (xc_V (pc' := 878) (r := m) (as := [vI (H2622 0 ((i + 1).toNat)), vI 0]) (st := []) (lm_11_113) rfl rfl (Nat.le_of_ble_eq_true rfl) w2626 gm sh_42 (by decide) rfl (by decide) (s_254 w2626 gm ⟨by omega, by omega⟩ ⟨by decide, by decide⟩ (by omega)) (fun R2644 T2645 H2646 p2647 => ?_))
      obtain ⟨e2648, w2650, f2651, z2653, e2649, b2654, p2652⟩ := p2647
      subst e2648
      subst e2649
      show WL _ _ _ _ 878 [(4, vI i), (3, .ref o), (2, .ref m), (1, .ref x), (0, .ref 0)] [vI z2653] _ H2646
      refine wl_of hX hb cL_878 (rw_pop (pc' := 879) rfl rfl ?_)
      refine wl_of hX hb cL_879 (rw_goto (p1 := 1653) (by decide) ?_)
      have k2655 : H2646 x 9 = H2622 x 9 := (f2651 x 9 _ gx rfl)
      have k2656 : H2646 m 6 = H2622 m 6 := (f2651 m 6 _ gm rfl)
      have k2657 : H2646 x 11 = H2622 x 11 := (f2651 x 11 _ gx rfl)
      have k2658 : H2646 m 13 = H2622 m 13 := (f2651 m 13 _ gm rfl)
      have k2659 : H2646 x 8 = H2622 x 8 := (f2651 x 8 _ gx rfl)
      have k2660 : H2646 m 3 = H2622 m 3 := (f2651 m 3 _ gm rfl)
      have h2661 : XI T H2646 x m := (XI_fr w2626 gx f2651 rfl (XI_fr hW gx f2627 rfl hXI))
      exact WL.loc hX (by simp) (next T H2646 ⟨⟨w2650, g0, gx, gm, go, by omega, by omega⟩, h2661, by omega, by omega⟩ (by omega) (by omega))
    · refine wl_of hX hb cL_870 (rw_iconst (pc' := 871) rfl ?_)
      refine wl_of hX hb cL_871 (rw_goto (p1 := 875) (by decide) ?_)
      have k2662 : wKI H2622 m = wKI H m := (wKI_fr hW gm f2627 rfl)
      have k2663 : H2622 x 9 = H x 9 := (f2627 x 9 _ gx rfl)
      have k2664 : H2622 m 6 = H m 6 := (f2627 m 6 _ gm rfl)
      have k2665 : H2622 x 11 = H x 11 := (f2627 x 11 _ gx rfl)
      have k2666 : H2622 m 13 = H m 13 := (f2627 m 13 _ gm rfl)
      have k2667 : H2622 x 8 = H x 8 := (f2627 x 8 _ gx rfl)
      have k2668 : H2622 m 3 = H m 3 := (f2627 m 3 _ gm rfl)
      refine wl_of hX hb cL_875 (xc_V (pc' := 878) (r := m) (as := [vI (H2622 0 ((i + 1).toNat)), vI 1]) (st := []) (lm_11_113) rfl rfl (Nat.le_of_ble_eq_true rfl) w2626 gm sh_42 (by decide) rfl (by decide) (s_254 w2626 gm ⟨by omega, by omega⟩ ⟨by decide, by decide⟩ (by omega)) (fun R2669 T2670 H2671 p2672 => ?_))
      obtain ⟨e2673, w2675, f2676, z2678, e2674, b2679, p2677⟩ := p2672
      subst e2673
      subst e2674
      show WL _ _ _ _ 878 [(4, vI i), (3, .ref o), (2, .ref m), (1, .ref x), (0, .ref 0)] [vI z2678] _ H2671
      refine wl_of hX hb cL_878 (rw_pop (pc' := 879) rfl rfl ?_)
      refine wl_of hX hb cL_879 (rw_goto (p1 := 1653) (by decide) ?_)
      have k2680 : H2671 x 9 = H2622 x 9 := (f2676 x 9 _ gx rfl)
      have k2681 : H2671 m 6 = H2622 m 6 := (f2676 m 6 _ gm rfl)
      have k2682 : H2671 x 11 = H2622 x 11 := (f2676 x 11 _ gx rfl)
      have k2683 : H2671 m 13 = H2622 m 13 := (f2676 m 13 _ gm rfl)
      have k2684 : H2671 x 8 = H2622 x 8 := (f2676 x 8 _ gx rfl)
      have k2685 : H2671 m 3 = H2622 m 3 := (f2676 m 3 _ gm rfl)
      have h2686 : XI T H2671 x m := (XI_fr w2626 gx f2676 rfl (XI_fr hW gx f2627 rfl hXI))
      exact WL.loc hX (by simp) (next T H2671 ⟨⟨w2675, g0, gx, gm, go, by omega, by omega⟩, h2686, by omega, by omega⟩ (by omega) (by omega))
set_option maxHeartbeats 4000000 in
theorem wl_c22 {kt : Nat → Option mc_E} {CB SB : Nat} {X : mc_S → Prop} {T : wq_T} {H : wq_H} {Len x m o : Nat} {i : Int} (hX : wlX kt CB SB X) (hb : T.2.1 ≤ CB ∧ T.2.2.1 ≤ SB) (hI : wlJ Len x m o T H) (hL : Len ≤ 3072) (hi : 0 ≤ i ∧ i + 6 ≤ Len) (hb2 : T.2.1 + 20 ≤ CB ∧ T.2.2.1 + 500 ≤ SB)  (next : ∀ T' H', wlJ Len x m o T' H' → T'.2.1 ≤ T.2.1 + 20 → T'.2.2.1 ≤ T.2.2.1 + 500 → WL kt CB SB X 1653 (wlL i x m o) [] T' H') : WL kt CB SB X 882 (wlL i x m o) [] T H := by
  obtain ⟨⟨hW, g0, gx, gm, go, hK, hr⟩, hXI, hY1, hY2⟩ := hI
  refine wl_of hX hb cL_882 (rw_aload_n (pc' := 883) (v := .ref x) rfl rfl rfl ?_)
  refine wl_of hX hb cL_883 (rw_aload_n (pc' := 884) (v := .ref 0) rfl rfl rfl ?_)
  refine wl_of hX hb cL_884 (rw_iload (pc' := 886) (z := i) rfl rfl ?_)
  refine wl_of hX hb cL_886 (rw_iconst (pc' := 887) rfl ?_)
  refine wl_of hX hb cL_887 (rw_iadd (pc' := 888) rfl ?_)
  refine wl_of hX hb cL_888 (xa_I (so := 0) (pc' := 889) (a := 0) hW g0 (wsh_s _) (by omega) (wty_s _ _) (by omega) (by omega) rfl (fun b2687 b2688 => ?_))
  refine wl_of hX hb cL_889 (rw_aload_n (pc' := 890) (v := .ref 0) rfl rfl rfl ?_)
  refine wl_of hX hb cL_890 (rw_iload (pc' := 892) (z := i) rfl rfl ?_)
  refine wl_of hX hb cL_892 (rw_iconst (pc' := 893) rfl ?_)
  refine wl_of hX hb cL_893 (rw_iadd (pc' := 894) rfl ?_)
  refine wl_of hX hb cL_894 (xa_I (so := 0) (pc' := 895) (a := 0) hW g0 (wsh_s _) (by omega) (wty_s _ _) (by omega) (by omega) rfl (fun b2689 b2690 => ?_))
  refine wl_of hX hb cL_895 (xc_V (pc' := 898) (r := x) (as := [vI (H 0 ((i + 1).toNat)), vI (H 0 ((i + 2).toNat))]) (st := []) (lm_11_114) rfl rfl (Nat.le_of_ble_eq_true rfl) hW gx sh_1 (by decide) rfl (by decide) (s_105 hW gx ⟨by omega, by omega⟩ ⟨by omega, by omega⟩) (fun R2691 T2692 H2693 p2694 => ?_))
  obtain ⟨e2695, w2697, f2698, z2699, e2696, b2700⟩ := p2694
  subst e2695
  subst e2696
  show WL _ _ _ _ 898 [(4, vI i), (3, .ref o), (2, .ref m), (1, .ref x), (0, .ref 0)] [vI z2699] _ H2693
  refine wl_of hX hb cL_898 (rw_pop (pc' := 899) rfl rfl ?_)
  refine wl_of hX hb cL_899 (rw_aload_n (pc' := 900) (v := .ref m) rfl rfl rfl ?_)
  refine wl_of hX hb cL_900 (rw_aload_n (pc' := 901) (v := .ref 0) rfl rfl rfl ?_)
  refine wl_of hX hb cL_901 (rw_iload (pc' := 903) (z := i) rfl rfl ?_)
  refine wl_of hX hb cL_903 (rw_iconst (pc' := 904) rfl ?_)
  refine wl_of hX hb cL_904 (rw_iadd (pc' := 905) rfl ?_)
  have k2703 : H2693 0 ((i + 1).toNat) = H 0 ((i + 1).toNat) := (f2698 0 ((i + 1).toNat) _ g0 (wmem_s rfl))
  refine wl_of hX hb cL_905 (xa_I (so := 0) (pc' := 906) (a := 0) w2697 g0 (wsh_s _) (by omega) (wty_s _ _) (by omega) (by omega) rfl (fun b2701 b2702 => ?_))
  refine wl_of hX hb cL_906 (rw_aload_n (pc' := 907) (v := .ref 0) rfl rfl rfl ?_)
  refine wl_of hX hb cL_907 (rw_iload (pc' := 909) (z := i) rfl rfl ?_)
  refine wl_of hX hb cL_909 (rw_iconst (pc' := 910) rfl ?_)
  refine wl_of hX hb cL_910 (rw_iadd (pc' := 911) rfl ?_)
  have k2706 : H2693 0 ((i + 2).toNat) = H 0 ((i + 2).toNat) := (f2698 0 ((i + 2).toNat) _ g0 (wmem_s rfl))
  refine wl_of hX hb cL_911 (xa_I (so := 0) (pc' := 912) (a := 0) w2697 g0 (wsh_s _) (by omega) (wty_s _ _) (by omega) (by omega) rfl (fun b2704 b2705 => ?_))
  have k2707 : wKI H2693 m = wKI H m := (wKI_fr hW gm f2698 rfl)
  have k2708 : H2693 x 9 = H x 9 := (f2698 x 9 _ gx rfl)
  have k2709 : H2693 m 6 = H m 6 := (f2698 m 6 _ gm rfl)
  have k2710 : H2693 x 11 = H x 11 := (f2698 x 11 _ gx rfl)
  have k2711 : H2693 m 13 = H m 13 := (f2698 m 13 _ gm rfl)
  have k2712 : H2693 x 8 = H x 8 := (f2698 x 8 _ gx rfl)
  have k2713 : H2693 m 3 = H m 3 := (f2698 m 3 _ gm rfl)
  refine wl_of hX hb cL_912 (xc_V (pc' := 915) (r := m) (as := [vI (H2693 0 ((i + 1).toNat)), vI (H2693 0 ((i + 2).toNat))]) (st := []) (lm_11_117) rfl rfl (Nat.le_of_ble_eq_true rfl) w2697 gm sh_42 (by decide) rfl (by decide) (s_255 w2697 gm ⟨by omega, by omega⟩ ⟨by omega, by omega⟩ (by omega)) (fun R2714 T2715 H2716 p2717 => ?_))
  obtain ⟨e2718, w2720, f2721, z2723, e2719, b2724, p2722⟩ := p2717
  subst e2718
  subst e2719
  show WL _ _ _ _ 915 [(4, vI i), (3, .ref o), (2, .ref m), (1, .ref x), (0, .ref 0)] [vI z2723] _ H2716
  refine wl_of hX hb cL_915 (rw_pop (pc' := 916) rfl rfl ?_)
  refine wl_of hX hb cL_916 (rw_goto (p1 := 1653) (by decide) ?_)
  have k2725 : H2716 x 9 = H2693 x 9 := (f2721 x 9 _ gx rfl)
  have k2726 : H2716 m 6 = H2693 m 6 := (f2721 m 6 _ gm rfl)
  have k2727 : H2716 x 11 = H2693 x 11 := (f2721 x 11 _ gx rfl)
  have k2728 : H2716 m 13 = H2693 m 13 := (f2721 m 13 _ gm rfl)
  have k2729 : H2716 x 8 = H2693 x 8 := (f2721 x 8 _ gx rfl)
  have k2730 : H2716 m 3 = H2693 m 3 := (f2721 m 3 _ gm rfl)
  have h2731 : XI T H2716 x m := (XI_fr w2697 gx f2721 rfl (XI_fr hW gx f2698 rfl hXI))
  exact WL.loc hX (by simp) (next T H2716 ⟨⟨w2720, g0, gx, gm, go, by omega, by omega⟩, h2731, by omega, by omega⟩ (by omega) (by omega))
set_option maxHeartbeats 4000000 in
theorem wl_c23 {kt : Nat → Option mc_E} {CB SB : Nat} {X : mc_S → Prop} {T : wq_T} {H : wq_H} {Len x m o : Nat} {i : Int} (hX : wlX kt CB SB X) (hb : T.2.1 ≤ CB ∧ T.2.2.1 ≤ SB) (hI : wlJ Len x m o T H) (hL : Len ≤ 3072) (hi : 0 ≤ i ∧ i + 6 ≤ Len) (hb2 : T.2.1 + 20 ≤ CB ∧ T.2.2.1 + 500 ≤ SB)  (next : ∀ T' H', wlJ Len x m o T' H' → T'.2.1 ≤ T.2.1 + 20 → T'.2.2.1 ≤ T.2.2.1 + 500 → WL kt CB SB X 1653 (wlL i x m o) [] T' H') : WL kt CB SB X 919 (wlL i x m o) [] T H := by
  obtain ⟨⟨hW, g0, gx, gm, go, hK, hr⟩, hXI, hY1, hY2⟩ := hI
  refine wl_of hX hb cL_919 (rw_aload_n (pc' := 920) (v := .ref x) rfl rfl rfl ?_)
  refine wl_of hX hb cL_920 (rw_aload_n (pc' := 921) (v := .ref 0) rfl rfl rfl ?_)
  refine wl_of hX hb cL_921 (rw_iload (pc' := 923) (z := i) rfl rfl ?_)
  refine wl_of hX hb cL_923 (rw_iconst (pc' := 924) rfl ?_)
  refine wl_of hX hb cL_924 (rw_iadd (pc' := 925) rfl ?_)
  refine wl_of hX hb cL_925 (xa_I (so := 0) (pc' := 926) (a := 0) hW g0 (wsh_s _) (by omega) (wty_s _ _) (by omega) (by omega) rfl (fun b2732 b2733 => ?_))
  refine wl_of hX hb cL_926 (xc_V (pc' := 929) (r := x) (as := [vI (H 0 ((i + 1).toNat))]) (st := []) (lm_11_118) rfl rfl (Nat.le_of_ble_eq_true rfl) hW gx sh_1 (by decide) rfl (by decide) (s_107 hW gx ⟨by omega, by omega⟩) (fun R2734 T2735 H2736 p2737 => ?_))
  obtain ⟨e2738, w2740, f2741, z2742, e2739, b2743⟩ := p2737
  subst e2738
  subst e2739
  show WL _ _ _ _ 929 [(4, vI i), (3, .ref o), (2, .ref m), (1, .ref x), (0, .ref 0)] [vI z2742] _ H2736
  refine wl_of hX hb cL_929 (rw_pop (pc' := 930) rfl rfl ?_)
  refine wl_of hX hb cL_930 (rw_aload_n (pc' := 931) (v := .ref m) rfl rfl rfl ?_)
  refine wl_of hX hb cL_931 (rw_aload_n (pc' := 932) (v := .ref 0) rfl rfl rfl ?_)
  refine wl_of hX hb cL_932 (rw_iload (pc' := 934) (z := i) rfl rfl ?_)
  refine wl_of hX hb cL_934 (rw_iconst (pc' := 935) rfl ?_)
  refine wl_of hX hb cL_935 (rw_iadd (pc' := 936) rfl ?_)
  have k2746 : H2736 0 ((i + 1).toNat) = H 0 ((i + 1).toNat) := (f2741 0 ((i + 1).toNat) _ g0 (wmem_s rfl))
  refine wl_of hX hb cL_936 (xa_I (so := 0) (pc' := 937) (a := 0) w2740 g0 (wsh_s _) (by omega) (wty_s _ _) (by omega) (by omega) rfl (fun b2744 b2745 => ?_))
  have k2747 : wKI H2736 m = wKI H m := (wKI_fr hW gm f2741 rfl)
  have k2748 : H2736 x 9 = H x 9 := (f2741 x 9 _ gx rfl)
  have k2749 : H2736 m 6 = H m 6 := (f2741 m 6 _ gm rfl)
  have k2750 : H2736 x 11 = H x 11 := (f2741 x 11 _ gx rfl)
  have k2751 : H2736 m 13 = H m 13 := (f2741 m 13 _ gm rfl)
  have k2752 : H2736 x 8 = H x 8 := (f2741 x 8 _ gx rfl)
  have k2753 : H2736 m 3 = H m 3 := (f2741 m 3 _ gm rfl)
  refine wl_of hX hb cL_937 (xc_V (pc' := 940) (r := m) (as := [vI (H2736 0 ((i + 1).toNat))]) (st := []) (lm_11_121) rfl rfl (Nat.le_of_ble_eq_true rfl) w2740 gm sh_42 (by decide) rfl (by decide) (s_256 w2740 gm ⟨by omega, by omega⟩ (by omega)) (fun R2754 T2755 H2756 p2757 => ?_))
  obtain ⟨e2758, w2760, f2761, z2763, e2759, b2764, p2762⟩ := p2757
  subst e2758
  subst e2759
  show WL _ _ _ _ 940 [(4, vI i), (3, .ref o), (2, .ref m), (1, .ref x), (0, .ref 0)] [vI z2763] _ H2756
  refine wl_of hX hb cL_940 (rw_pop (pc' := 941) rfl rfl ?_)
  refine wl_of hX hb cL_941 (rw_goto (p1 := 1653) (by decide) ?_)
  have k2765 : H2756 x 9 = H2736 x 9 := (f2761 x 9 _ gx rfl)
  have k2766 : H2756 m 6 = H2736 m 6 := (f2761 m 6 _ gm rfl)
  have k2767 : H2756 x 11 = H2736 x 11 := (f2761 x 11 _ gx rfl)
  have k2768 : H2756 m 13 = H2736 m 13 := (f2761 m 13 _ gm rfl)
  have k2769 : H2756 x 8 = H2736 x 8 := (f2761 x 8 _ gx rfl)
  have k2770 : H2756 m 3 = H2736 m 3 := (f2761 m 3 _ gm rfl)
  have h2771 : XI T H2756 x m := (XI_fr w2740 gx f2761 rfl (XI_fr hW gx f2741 rfl hXI))
  exact WL.loc hX (by simp) (next T H2756 ⟨⟨w2760, g0, gx, gm, go, by omega, by omega⟩, h2771, by omega, by omega⟩ (by omega) (by omega))
set_option maxHeartbeats 4000000 in
theorem wl_c24 {kt : Nat → Option mc_E} {CB SB : Nat} {X : mc_S → Prop} {T : wq_T} {H : wq_H} {Len x m o : Nat} {i : Int} (hX : wlX kt CB SB X) (hb : T.2.1 ≤ CB ∧ T.2.2.1 ≤ SB) (hI : wlJ Len x m o T H) (hL : Len ≤ 3072) (hi : 0 ≤ i ∧ i + 6 ≤ Len) (hb2 : T.2.1 + 20 ≤ CB ∧ T.2.2.1 + 500 ≤ SB)  (next : ∀ T' H', wlJ Len x m o T' H' → T'.2.1 ≤ T.2.1 + 20 → T'.2.2.1 ≤ T.2.2.1 + 500 → WL kt CB SB X 1653 (wlL i x m o) [] T' H') : WL kt CB SB X 944 (wlL i x m o) [] T H := by
  obtain ⟨⟨hW, g0, gx, gm, go, hK, hr⟩, hXI, hY1, hY2⟩ := hI
  refine wl_of hX hb cL_944 (rw_aload_n (pc' := 945) (v := .ref x) rfl rfl rfl ?_)
  refine wl_of hX hb cL_945 (xc_V (pc' := 948) (r := x) (as := []) (st := []) (lm_11_122) rfl rfl (Nat.le_of_ble_eq_true rfl) hW gx sh_1 (by decide) rfl (by decide) (s_108 hW gx) (fun R2772 T2773 H2774 p2775 => ?_))
  obtain ⟨e2776, w2778, f2779, z2780, e2777, b2781⟩ := p2775
  subst e2776
  subst e2777
  show WL _ _ _ _ 948 [(4, vI i), (3, .ref o), (2, .ref m), (1, .ref x), (0, .ref 0)] [vL z2780] _ H2774
  refine wl_of hX hb cL_948 (rw_pop2 (pc' := 949) rfl rfl ?_)
  refine wl_of hX hb cL_949 (rw_aload_n (pc' := 950) (v := .ref m) rfl rfl rfl ?_)
  have k2782 : wKI H2774 m = wKI H m := (wKI_fr hW gm f2779 rfl)
  have k2783 : H2774 x 9 = H x 9 := (f2779 x 9 _ gx rfl)
  have k2784 : H2774 m 6 = H m 6 := (f2779 m 6 _ gm rfl)
  have k2785 : H2774 x 11 = H x 11 := (f2779 x 11 _ gx rfl)
  have k2786 : H2774 m 13 = H m 13 := (f2779 m 13 _ gm rfl)
  have k2787 : H2774 x 8 = H x 8 := (f2779 x 8 _ gx rfl)
  have k2788 : H2774 m 3 = H m 3 := (f2779 m 3 _ gm rfl)
  refine wl_of hX hb cL_950 (xc_V (pc' := 953) (r := m) (as := []) (st := []) (lm_11_125) rfl rfl (Nat.le_of_ble_eq_true rfl) w2778 gm sh_42 (by decide) rfl (by decide) (s_258 w2778 gm (by omega)) (fun R2789 T2790 H2791 p2792 => ?_))
  obtain ⟨e2793, w2795, f2796, z2798, e2794, b2799, p2797⟩ := p2792
  subst e2793
  subst e2794
  show WL _ _ _ _ 953 [(4, vI i), (3, .ref o), (2, .ref m), (1, .ref x), (0, .ref 0)] [vL z2798] _ H2791
  refine wl_of hX hb cL_953 (rw_pop2 (pc' := 954) rfl rfl ?_)
  refine wl_of hX hb cL_954 (rw_goto (p1 := 1653) (by decide) ?_)
  have k2800 : H2791 x 9 = H2774 x 9 := (f2796 x 9 _ gx rfl)
  have k2801 : H2791 m 6 = H2774 m 6 := (f2796 m 6 _ gm rfl)
  have k2802 : H2791 x 11 = H2774 x 11 := (f2796 x 11 _ gx rfl)
  have k2803 : H2791 m 13 = H2774 m 13 := (f2796 m 13 _ gm rfl)
  have k2804 : H2791 x 8 = H2774 x 8 := (f2796 x 8 _ gx rfl)
  have k2805 : H2791 m 3 = H2774 m 3 := (f2796 m 3 _ gm rfl)
  have h2806 : XI T H2791 x m := (XI_fr w2778 gx f2796 rfl (XI_fr hW gx f2779 rfl hXI))
  exact WL.loc hX (by simp) (next T H2791 ⟨⟨w2795, g0, gx, gm, go, by omega, by omega⟩, h2806, by omega, by omega⟩ (by omega) (by omega))
set_option maxHeartbeats 4000000 in
theorem wl_c25 {kt : Nat → Option mc_E} {CB SB : Nat} {X : mc_S → Prop} {T : wq_T} {H : wq_H} {Len x m o : Nat} {i : Int} (hX : wlX kt CB SB X) (hb : T.2.1 ≤ CB ∧ T.2.2.1 ≤ SB) (hI : wlJ Len x m o T H) (hL : Len ≤ 3072) (hi : 0 ≤ i ∧ i + 6 ≤ Len) (hb2 : T.2.1 + 20 ≤ CB ∧ T.2.2.1 + 500 ≤ SB)  (next : ∀ T' H', wlJ Len x m o T' H' → T'.2.1 ≤ T.2.1 + 20 → T'.2.2.1 ≤ T.2.2.1 + 500 → WL kt CB SB X 1653 (wlL i x m o) [] T' H') : WL kt CB SB X 957 (wlL i x m o) [] T H := by
  obtain ⟨⟨hW, g0, gx, gm, go, hK, hr⟩, hXI, hY1, hY2⟩ := hI
  refine wl_of hX hb cL_957 (rw_aload_n (pc' := 958) (v := .ref x) rfl rfl rfl ?_)
  refine wl_of hX hb cL_958 (rw_aload_n (pc' := 959) (v := .ref 0) rfl rfl rfl ?_)
  refine wl_of hX hb cL_959 (rw_iload (pc' := 961) (z := i) rfl rfl ?_)
  refine wl_of hX hb cL_961 (rw_iconst (pc' := 962) rfl ?_)
  refine wl_of hX hb cL_962 (rw_iadd (pc' := 963) rfl ?_)
  refine wl_of hX hb cL_963 (xa_I (so := 0) (pc' := 964) (a := 0) hW g0 (wsh_s _) (by omega) (wty_s _ _) (by omega) (by omega) rfl (fun b2807 b2808 => ?_))
  refine wl_of hX hb cL_964 (rw_aload_n (pc' := 965) (v := .ref 0) rfl rfl rfl ?_)
  refine wl_of hX hb cL_965 (rw_iload (pc' := 967) (z := i) rfl rfl ?_)
  refine wl_of hX hb cL_967 (rw_iconst (pc' := 968) rfl ?_)
  refine wl_of hX hb cL_968 (rw_iadd (pc' := 969) rfl ?_)
  refine wl_of hX hb cL_969 (xa_I (so := 0) (pc' := 970) (a := 0) hW g0 (wsh_s _) (by omega) (wty_s _ _) (by omega) (by omega) rfl (fun b2809 b2810 => ?_))
  refine wl_of hX hb cL_970 (xc_V (pc' := 973) (r := x) (as := [vI (H 0 ((i + 1).toNat)), vI (H 0 ((i + 2).toNat))]) (st := []) (lm_11_126) rfl rfl (Nat.le_of_ble_eq_true rfl) hW gx sh_1 (by decide) rfl (by decide) (s_109 hW gx ⟨by omega, by omega⟩ ⟨by omega, by omega⟩) (fun R2811 T2812 H2813 p2814 => ?_))
  obtain ⟨e2815, w2817, f2818, z2819, e2816, b2820⟩ := p2814
  subst e2815
  subst e2816
  show WL _ _ _ _ 973 [(4, vI i), (3, .ref o), (2, .ref m), (1, .ref x), (0, .ref 0)] [vI z2819] _ H2813
  refine wl_of hX hb cL_973 (rw_pop (pc' := 974) rfl rfl ?_)
  refine wl_of hX hb cL_974 (rw_aload_n (pc' := 975) (v := .ref m) rfl rfl rfl ?_)
  refine wl_of hX hb cL_975 (rw_aload_n (pc' := 976) (v := .ref 0) rfl rfl rfl ?_)
  refine wl_of hX hb cL_976 (rw_iload (pc' := 978) (z := i) rfl rfl ?_)
  refine wl_of hX hb cL_978 (rw_iconst (pc' := 979) rfl ?_)
  refine wl_of hX hb cL_979 (rw_iadd (pc' := 980) rfl ?_)
  have k2823 : H2813 0 ((i + 1).toNat) = H 0 ((i + 1).toNat) := (f2818 0 ((i + 1).toNat) _ g0 (wmem_s rfl))
  refine wl_of hX hb cL_980 (xa_I (so := 0) (pc' := 981) (a := 0) w2817 g0 (wsh_s _) (by omega) (wty_s _ _) (by omega) (by omega) rfl (fun b2821 b2822 => ?_))
  refine wl_of hX hb cL_981 (rw_aload_n (pc' := 982) (v := .ref 0) rfl rfl rfl ?_)
  refine wl_of hX hb cL_982 (rw_iload (pc' := 984) (z := i) rfl rfl ?_)
  refine wl_of hX hb cL_984 (rw_iconst (pc' := 985) rfl ?_)
  refine wl_of hX hb cL_985 (rw_iadd (pc' := 986) rfl ?_)
  have k2826 : H2813 0 ((i + 2).toNat) = H 0 ((i + 2).toNat) := (f2818 0 ((i + 2).toNat) _ g0 (wmem_s rfl))
  refine wl_of hX hb cL_986 (xa_I (so := 0) (pc' := 987) (a := 0) w2817 g0 (wsh_s _) (by omega) (wty_s _ _) (by omega) (by omega) rfl (fun b2824 b2825 => ?_))
  have k2827 : wKI H2813 m = wKI H m := (wKI_fr hW gm f2818 rfl)
  have k2828 : H2813 x 9 = H x 9 := (f2818 x 9 _ gx rfl)
  have k2829 : H2813 m 6 = H m 6 := (f2818 m 6 _ gm rfl)
  have k2830 : H2813 x 11 = H x 11 := (f2818 x 11 _ gx rfl)
  have k2831 : H2813 m 13 = H m 13 := (f2818 m 13 _ gm rfl)
  have k2832 : H2813 x 8 = H x 8 := (f2818 x 8 _ gx rfl)
  have k2833 : H2813 m 3 = H m 3 := (f2818 m 3 _ gm rfl)
  refine wl_of hX hb cL_987 (xc_V (pc' := 990) (r := m) (as := [vI (H2813 0 ((i + 1).toNat)), vI (H2813 0 ((i + 2).toNat))]) (st := []) (lm_11_129) rfl rfl (Nat.le_of_ble_eq_true rfl) w2817 gm sh_42 (by decide) rfl (by decide) (s_259 w2817 gm ⟨by omega, by omega⟩ ⟨by omega, by omega⟩ (by omega)) (fun R2834 T2835 H2836 p2837 => ?_))
  obtain ⟨e2838, w2840, f2841, z2843, e2839, b2844, p2842⟩ := p2837
  subst e2838
  subst e2839
  show WL _ _ _ _ 990 [(4, vI i), (3, .ref o), (2, .ref m), (1, .ref x), (0, .ref 0)] [vI z2843] _ H2836
  refine wl_of hX hb cL_990 (rw_pop (pc' := 991) rfl rfl ?_)
  refine wl_of hX hb cL_991 (rw_goto (p1 := 1653) (by decide) ?_)
  have k2845 : H2836 x 9 = H2813 x 9 := (f2841 x 9 _ gx rfl)
  have k2846 : H2836 m 6 = H2813 m 6 := (f2841 m 6 _ gm rfl)
  have k2847 : H2836 x 11 = H2813 x 11 := (f2841 x 11 _ gx rfl)
  have k2848 : H2836 m 13 = H2813 m 13 := (f2841 m 13 _ gm rfl)
  have k2849 : H2836 x 8 = H2813 x 8 := (f2841 x 8 _ gx rfl)
  have k2850 : H2836 m 3 = H2813 m 3 := (f2841 m 3 _ gm rfl)
  have h2851 : XI T H2836 x m := (XI_fr w2817 gx f2841 rfl (XI_fr hW gx f2818 rfl hXI))
  exact WL.loc hX (by simp) (next T H2836 ⟨⟨w2840, g0, gx, gm, go, by omega, by omega⟩, h2851, by omega, by omega⟩ (by omega) (by omega))
set_option maxHeartbeats 4000000 in
theorem wl_c26 {kt : Nat → Option mc_E} {CB SB : Nat} {X : mc_S → Prop} {T : wq_T} {H : wq_H} {Len x m o : Nat} {i : Int} (hX : wlX kt CB SB X) (hb : T.2.1 ≤ CB ∧ T.2.2.1 ≤ SB) (hI : wlJ Len x m o T H) (hL : Len ≤ 3072) (hi : 0 ≤ i ∧ i + 6 ≤ Len) (hb2 : T.2.1 + 20 ≤ CB ∧ T.2.2.1 + 500 ≤ SB)  (next : ∀ T' H', wlJ Len x m o T' H' → T'.2.1 ≤ T.2.1 + 20 → T'.2.2.1 ≤ T.2.2.1 + 500 → WL kt CB SB X 1653 (wlL i x m o) [] T' H') : WL kt CB SB X 994 (wlL i x m o) [] T H := by
  obtain ⟨⟨hW, g0, gx, gm, go, hK, hr⟩, hXI, hY1, hY2⟩ := hI
  refine wl_of hX hb cL_994 (rw_aload_n (pc' := 995) (v := .ref x) rfl rfl rfl ?_)
  refine wl_of hX hb cL_995 (rw_aload_n (pc' := 996) (v := .ref 0) rfl rfl rfl ?_)
  refine wl_of hX hb cL_996 (rw_iload (pc' := 998) (z := i) rfl rfl ?_)
  refine wl_of hX hb cL_998 (rw_iconst (pc' := 999) rfl ?_)
  refine wl_of hX hb cL_999 (rw_iadd (pc' := 1000) rfl ?_)
  refine wl_of hX hb cL_1000 (xa_I (so := 0) (pc' := 1001) (a := 0) hW g0 (wsh_s _) (by omega) (wty_s _ _) (by omega) (by omega) rfl (fun b2852 b2853 => ?_))
  refine wl_of hX hb cL_1001 (xc_V (pc' := 1004) (r := x) (as := [vI (H 0 ((i + 1).toNat))]) (st := []) (lm_11_130) rfl rfl (Nat.le_of_ble_eq_true rfl) hW gx sh_1 (by decide) rfl (by decide) (s_112 hW gx ⟨by omega, by omega⟩) (fun R2854 T2855 H2856 p2857 => ?_))
  obtain ⟨e2858, w2860, f2861, z2862, e2859, b2863⟩ := p2857
  subst e2858
  subst e2859
  show WL _ _ _ _ 1004 [(4, vI i), (3, .ref o), (2, .ref m), (1, .ref x), (0, .ref 0)] [vL z2862] _ H2856
  refine wl_of hX hb cL_1004 (rw_pop2 (pc' := 1005) rfl rfl ?_)
  refine wl_of hX hb cL_1005 (rw_aload_n (pc' := 1006) (v := .ref m) rfl rfl rfl ?_)
  refine wl_of hX hb cL_1006 (rw_aload_n (pc' := 1007) (v := .ref 0) rfl rfl rfl ?_)
  refine wl_of hX hb cL_1007 (rw_iload (pc' := 1009) (z := i) rfl rfl ?_)
  refine wl_of hX hb cL_1009 (rw_iconst (pc' := 1010) rfl ?_)
  refine wl_of hX hb cL_1010 (rw_iadd (pc' := 1011) rfl ?_)
  have k2866 : H2856 0 ((i + 1).toNat) = H 0 ((i + 1).toNat) := (f2861 0 ((i + 1).toNat) _ g0 (wmem_s rfl))
  refine wl_of hX hb cL_1011 (xa_I (so := 0) (pc' := 1012) (a := 0) w2860 g0 (wsh_s _) (by omega) (wty_s _ _) (by omega) (by omega) rfl (fun b2864 b2865 => ?_))
  have k2867 : wKI H2856 m = wKI H m := (wKI_fr hW gm f2861 rfl)
  have k2868 : H2856 x 9 = H x 9 := (f2861 x 9 _ gx rfl)
  have k2869 : H2856 m 6 = H m 6 := (f2861 m 6 _ gm rfl)
  have k2870 : H2856 x 11 = H x 11 := (f2861 x 11 _ gx rfl)
  have k2871 : H2856 m 13 = H m 13 := (f2861 m 13 _ gm rfl)
  have k2872 : H2856 x 8 = H x 8 := (f2861 x 8 _ gx rfl)
  have k2873 : H2856 m 3 = H m 3 := (f2861 m 3 _ gm rfl)
  refine wl_of hX hb cL_1012 (xc_V (pc' := 1015) (r := m) (as := [vI (H2856 0 ((i + 1).toNat))]) (st := []) (lm_11_134) rfl rfl (Nat.le_of_ble_eq_true rfl) w2860 gm sh_42 (by decide) rfl (by decide) (s_260 w2860 gm ⟨by omega, by omega⟩ (by omega)) (fun R2874 T2875 H2876 p2877 => ?_))
  obtain ⟨e2878, w2880, f2881, z2883, e2879, b2884, p2882⟩ := p2877
  subst e2878
  subst e2879
  show WL _ _ _ _ 1015 [(4, vI i), (3, .ref o), (2, .ref m), (1, .ref x), (0, .ref 0)] [vL z2883] _ H2876
  refine wl_of hX hb cL_1015 (rw_pop2 (pc' := 1016) rfl rfl ?_)
  refine wl_of hX hb cL_1016 (rw_goto (p1 := 1653) (by decide) ?_)
  have k2885 : H2876 x 9 = H2856 x 9 := (f2881 x 9 _ gx rfl)
  have k2886 : H2876 m 6 = H2856 m 6 := (f2881 m 6 _ gm rfl)
  have k2887 : H2876 x 11 = H2856 x 11 := (f2881 x 11 _ gx rfl)
  have k2888 : H2876 m 13 = H2856 m 13 := (f2881 m 13 _ gm rfl)
  have k2889 : H2876 x 8 = H2856 x 8 := (f2881 x 8 _ gx rfl)
  have k2890 : H2876 m 3 = H2856 m 3 := (f2881 m 3 _ gm rfl)
  have h2891 : XI T H2876 x m := (XI_fr w2860 gx f2881 rfl (XI_fr hW gx f2861 rfl hXI))
  exact WL.loc hX (by simp) (next T H2876 ⟨⟨w2880, g0, gx, gm, go, by omega, by omega⟩, h2891, by omega, by omega⟩ (by omega) (by omega))
set_option maxHeartbeats 4000000 in
theorem wl_c27 {kt : Nat → Option mc_E} {CB SB : Nat} {X : mc_S → Prop} {T : wq_T} {H : wq_H} {Len x m o : Nat} {i : Int} (hX : wlX kt CB SB X) (hb : T.2.1 ≤ CB ∧ T.2.2.1 ≤ SB) (hI : wlJ Len x m o T H) (hL : Len ≤ 3072) (hi : 0 ≤ i ∧ i + 6 ≤ Len) (hb2 : T.2.1 + 20 ≤ CB ∧ T.2.2.1 + 500 ≤ SB)  (next : ∀ T' H', wlJ Len x m o T' H' → T'.2.1 ≤ T.2.1 + 20 → T'.2.2.1 ≤ T.2.2.1 + 500 → WL kt CB SB X 1653 (wlL i x m o) [] T' H') : WL kt CB SB X 1019 (wlL i x m o) [] T H := by
  obtain ⟨⟨hW, g0, gx, gm, go, hK, hr⟩, hXI, hY1, hY2⟩ := hI
  refine wl_of hX hb cL_1019 (rw_aload_n (pc' := 1020) (v := .ref x) rfl rfl rfl ?_)
  refine wl_of hX hb cL_1020 (rw_aload_n (pc' := 1021) (v := .ref 0) rfl rfl rfl ?_)
  refine wl_of hX hb cL_1021 (rw_iload (pc' := 1023) (z := i) rfl rfl ?_)
  refine wl_of hX hb cL_1023 (rw_iconst (pc' := 1024) rfl ?_)
  refine wl_of hX hb cL_1024 (rw_iadd (pc' := 1025) rfl ?_)
  refine wl_of hX hb cL_1025 (xa_I (so := 0) (pc' := 1026) (a := 0) hW g0 (wsh_s _) (by omega) (wty_s _ _) (by omega) (by omega) rfl (fun b2892 b2893 => ?_))
  refine wl_of hX hb cL_1026 (rw_aload_n (pc' := 1027) (v := .ref 0) rfl rfl rfl ?_)
  refine wl_of hX hb cL_1027 (rw_iload (pc' := 1029) (z := i) rfl rfl ?_)
  refine wl_of hX hb cL_1029 (rw_iconst (pc' := 1030) rfl ?_)
  refine wl_of hX hb cL_1030 (rw_iadd (pc' := 1031) rfl ?_)
  refine wl_of hX hb cL_1031 (xa_I (so := 0) (pc' := 1032) (a := 0) hW g0 (wsh_s _) (by omega) (wty_s _ _) (by omega) (by omega) rfl (fun b2894 b2895 => ?_))
  refine wl_of hX hb cL_1032 (xc_V (pc' := 1035) (r := x) (as := [vI (H 0 ((i + 1).toNat)), vI (H 0 ((i + 2).toNat))]) (st := []) (lm_11_135) rfl rfl (Nat.le_of_ble_eq_true rfl) hW gx sh_1 (by decide) rfl (by decide) (s_114 hW gx ⟨by omega, by omega⟩ ⟨by omega, by omega⟩) (fun R2896 T2897 H2898 p2899 => ?_))
  obtain ⟨e2900, w2902, f2903, z2904, e2901, b2905⟩ := p2899
  subst e2900
  subst e2901
  show WL _ _ _ _ 1035 [(4, vI i), (3, .ref o), (2, .ref m), (1, .ref x), (0, .ref 0)] [vI z2904] _ H2898
  refine wl_of hX hb cL_1035 (rw_pop (pc' := 1036) rfl rfl ?_)
  refine wl_of hX hb cL_1036 (rw_aload_n (pc' := 1037) (v := .ref m) rfl rfl rfl ?_)
  refine wl_of hX hb cL_1037 (rw_aload_n (pc' := 1038) (v := .ref 0) rfl rfl rfl ?_)
  refine wl_of hX hb cL_1038 (rw_iload (pc' := 1040) (z := i) rfl rfl ?_)
  refine wl_of hX hb cL_1040 (rw_iconst (pc' := 1041) rfl ?_)
  refine wl_of hX hb cL_1041 (rw_iadd (pc' := 1042) rfl ?_)
  have k2908 : H2898 0 ((i + 1).toNat) = H 0 ((i + 1).toNat) := (f2903 0 ((i + 1).toNat) _ g0 (wmem_s rfl))
  refine wl_of hX hb cL_1042 (xa_I (so := 0) (pc' := 1043) (a := 0) w2902 g0 (wsh_s _) (by omega) (wty_s _ _) (by omega) (by omega) rfl (fun b2906 b2907 => ?_))
  refine wl_of hX hb cL_1043 (rw_aload_n (pc' := 1044) (v := .ref 0) rfl rfl rfl ?_)
  refine wl_of hX hb cL_1044 (rw_iload (pc' := 1046) (z := i) rfl rfl ?_)
  refine wl_of hX hb cL_1046 (rw_iconst (pc' := 1047) rfl ?_)
  refine wl_of hX hb cL_1047 (rw_iadd (pc' := 1048) rfl ?_)
  have k2911 : H2898 0 ((i + 2).toNat) = H 0 ((i + 2).toNat) := (f2903 0 ((i + 2).toNat) _ g0 (wmem_s rfl))
  refine wl_of hX hb cL_1048 (xa_I (so := 0) (pc' := 1049) (a := 0) w2902 g0 (wsh_s _) (by omega) (wty_s _ _) (by omega) (by omega) rfl (fun b2909 b2910 => ?_))
  have k2912 : wKI H2898 m = wKI H m := (wKI_fr hW gm f2903 rfl)
  have k2913 : H2898 x 9 = H x 9 := (f2903 x 9 _ gx rfl)
  have k2914 : H2898 m 6 = H m 6 := (f2903 m 6 _ gm rfl)
  have k2915 : H2898 x 11 = H x 11 := (f2903 x 11 _ gx rfl)
  have k2916 : H2898 m 13 = H m 13 := (f2903 m 13 _ gm rfl)
  have k2917 : H2898 x 8 = H x 8 := (f2903 x 8 _ gx rfl)
  have k2918 : H2898 m 3 = H m 3 := (f2903 m 3 _ gm rfl)
  refine wl_of hX hb cL_1049 (xc_V (pc' := 1052) (r := m) (as := [vI (H2898 0 ((i + 1).toNat)), vI (H2898 0 ((i + 2).toNat))]) (st := []) (lm_11_138) rfl rfl (Nat.le_of_ble_eq_true rfl) w2902 gm sh_42 (by decide) rfl (by decide) (s_261 w2902 gm ⟨by omega, by omega⟩ ⟨by omega, by omega⟩ (by omega)) (fun R2919 T2920 H2921 p2922 => ?_))
  obtain ⟨e2923, w2925, f2926, z2928, e2924, b2929, p2927⟩ := p2922
  subst e2923
  subst e2924
  show WL _ _ _ _ 1052 [(4, vI i), (3, .ref o), (2, .ref m), (1, .ref x), (0, .ref 0)] [vI z2928] _ H2921
  refine wl_of hX hb cL_1052 (rw_pop (pc' := 1053) rfl rfl ?_)
  refine wl_of hX hb cL_1053 (rw_goto (p1 := 1653) (by decide) ?_)
  have k2930 : H2921 x 9 = H2898 x 9 := (f2926 x 9 _ gx rfl)
  have k2931 : H2921 m 6 = H2898 m 6 := (f2926 m 6 _ gm rfl)
  have k2932 : H2921 x 11 = H2898 x 11 := (f2926 x 11 _ gx rfl)
  have k2933 : H2921 m 13 = H2898 m 13 := (f2926 m 13 _ gm rfl)
  have k2934 : H2921 x 8 = H2898 x 8 := (f2926 x 8 _ gx rfl)
  have k2935 : H2921 m 3 = H2898 m 3 := (f2926 m 3 _ gm rfl)
  have h2936 : XI T H2921 x m := (XI_fr w2902 gx f2926 rfl (XI_fr hW gx f2903 rfl hXI))
  exact WL.loc hX (by simp) (next T H2921 ⟨⟨w2925, g0, gx, gm, go, by omega, by omega⟩, h2936, by omega, by omega⟩ (by omega) (by omega))
set_option maxHeartbeats 4000000 in
theorem wl_c28 {kt : Nat → Option mc_E} {CB SB : Nat} {X : mc_S → Prop} {T : wq_T} {H : wq_H} {Len x m o : Nat} {i : Int} (hX : wlX kt CB SB X) (hb : T.2.1 ≤ CB ∧ T.2.2.1 ≤ SB) (hI : wlJ Len x m o T H) (hL : Len ≤ 3072) (hi : 0 ≤ i ∧ i + 6 ≤ Len) (hb2 : T.2.1 + 20 ≤ CB ∧ T.2.2.1 + 500 ≤ SB)  (next : ∀ T' H', wlJ Len x m o T' H' → T'.2.1 ≤ T.2.1 + 20 → T'.2.2.1 ≤ T.2.2.1 + 500 → WL kt CB SB X 1653 (wlL i x m o) [] T' H') : WL kt CB SB X 1056 (wlL i x m o) [] T H := by
  obtain ⟨⟨hW, g0, gx, gm, go, hK, hr⟩, hXI, hY1, hY2⟩ := hI
  refine wl_of hX hb cL_1056 (rw_aload_n (pc' := 1057) (v := .ref x) rfl rfl rfl ?_)
  refine wl_of hX hb cL_1057 (rw_aload_n (pc' := 1058) (v := .ref 0) rfl rfl rfl ?_)
  refine wl_of hX hb cL_1058 (rw_iload (pc' := 1060) (z := i) rfl rfl ?_)
  refine wl_of hX hb cL_1060 (rw_iconst (pc' := 1061) rfl ?_)
  refine wl_of hX hb cL_1061 (rw_iadd (pc' := 1062) rfl ?_)
  refine wl_of hX hb cL_1062 (xa_I (so := 0) (pc' := 1063) (a := 0) hW g0 (wsh_s _) (by omega) (wty_s _ _) (by omega) (by omega) rfl (fun b2937 b2938 => ?_))
  refine wl_of hX hb cL_1063 (rw_aload_n (pc' := 1064) (v := .ref 0) rfl rfl rfl ?_)
  refine wl_of hX hb cL_1064 (rw_iload (pc' := 1066) (z := i) rfl rfl ?_)
  refine wl_of hX hb cL_1066 (rw_iconst (pc' := 1067) rfl ?_)
  refine wl_of hX hb cL_1067 (rw_iadd (pc' := 1068) rfl ?_)
  refine wl_of hX hb cL_1068 (xa_I (so := 0) (pc' := 1069) (a := 0) hW g0 (wsh_s _) (by omega) (wty_s _ _) (by omega) (by omega) rfl (fun b2939 b2940 => ?_))
  refine wl_of hX hb cL_1069 (rw_if_eq (p1 := 1076) (p2 := 1072) (by decide) rfl ⟨by omega, by omega⟩ (fun c2941 => ?_) (fun c2941 => ?_))
  · refine wl_of hX hb cL_1076 (rw_iconst (pc' := 1077) rfl ?_)
    refine wl_of hX hb cL_1077 (xc_V (pc' := 1080) (r := x) (as := [vI (H 0 ((i + 1).toNat)), vI 0]) (st := []) (lm_11_139) rfl rfl (Nat.le_of_ble_eq_true rfl) hW gx sh_1 (by decide) rfl (by decide) (s_117 hW gx ⟨by omega, by omega⟩ ⟨by decide, by decide⟩) (fun R2942 T2943 H2944 p2945 => ?_))
    obtain ⟨e2946, w2948, f2949, z2950, e2947, b2951⟩ := p2945
    subst e2946
    subst e2947
    show WL _ _ _ _ 1080 [(4, vI i), (3, .ref o), (2, .ref m), (1, .ref x), (0, .ref 0)] [vI z2950] _ H2944
    refine wl_of hX hb cL_1080 (rw_pop (pc' := 1081) rfl rfl ?_)
    refine wl_of hX hb cL_1081 (rw_aload_n (pc' := 1082) (v := .ref m) rfl rfl rfl ?_)
    refine wl_of hX hb cL_1082 (rw_aload_n (pc' := 1083) (v := .ref 0) rfl rfl rfl ?_)
    refine wl_of hX hb cL_1083 (rw_iload (pc' := 1085) (z := i) rfl rfl ?_)
    refine wl_of hX hb cL_1085 (rw_iconst (pc' := 1086) rfl ?_)
    refine wl_of hX hb cL_1086 (rw_iadd (pc' := 1087) rfl ?_)
    have k2954 : H2944 0 ((i + 1).toNat) = H 0 ((i + 1).toNat) := (f2949 0 ((i + 1).toNat) _ g0 (wmem_s rfl))
    refine wl_of hX hb cL_1087 (xa_I (so := 0) (pc' := 1088) (a := 0) w2948 g0 (wsh_s _) (by omega) (wty_s _ _) (by omega) (by omega) rfl (fun b2952 b2953 => ?_))
    refine wl_of hX hb cL_1088 (rw_aload_n (pc' := 1089) (v := .ref 0) rfl rfl rfl ?_)
    refine wl_of hX hb cL_1089 (rw_iload (pc' := 1091) (z := i) rfl rfl ?_)
    refine wl_of hX hb cL_1091 (rw_iconst (pc' := 1092) rfl ?_)
    refine wl_of hX hb cL_1092 (rw_iadd (pc' := 1093) rfl ?_)
    have k2957 : H2944 0 ((i + 2).toNat) = H 0 ((i + 2).toNat) := (f2949 0 ((i + 2).toNat) _ g0 (wmem_s rfl))
    refine wl_of hX hb cL_1093 (xa_I (so := 0) (pc' := 1094) (a := 0) w2948 g0 (wsh_s _) (by omega) (wty_s _ _) (by omega) (by omega) rfl (fun b2955 b2956 => ?_))
    refine wl_of hX hb cL_1094 (rw_if_eq (p1 := 1101) (p2 := 1097) (by decide) rfl ⟨by omega, by omega⟩ (fun c2958 => ?_) (fun c2958 => ?_))
    · refine wl_of hX hb cL_1101 (rw_iconst (pc' := 1102) rfl ?_)
      have k2959 : wKI H2944 m = wKI H m := (wKI_fr hW gm f2949 rfl)
      have k2960 : H2944 x 9 = H x 9 := (f2949 x 9 _ gx rfl)
      have k2961 : H2944 m 6 = H m 6 := (f2949 m 6 _ gm rfl)
      have k2962 : H2944 x 11 = H x 11 := (f2949 x 11 _ gx rfl)
      have k2963 : H2944 m 13 = H m 13 := (f2949 m 13 _ gm rfl)
      have k2964 : H2944 x 8 = H x 8 := (f2949 x 8 _ gx rfl)
      have k2965 : H2944 m 3 = H m 3 := (f2949 m 3 _ gm rfl)
      refine wl_of hX hb cL_1102 (xc_V (pc' := 1105) (r := m) (as := [vI (H2944 0 ((i + 1).toNat)), vI 0]) (st := []) (lm_11_142) rfl rfl (Nat.le_of_ble_eq_true rfl) w2948 gm sh_42 (by decide) rfl (by decide) (s_263 w2948 gm ⟨by omega, by omega⟩ ⟨by decide, by decide⟩ (by omega)) (fun R2966 T2967 H2968 p2969 => ?_))
      obtain ⟨e2970, w2972, f2973, z2975, e2971, b2976, p2974⟩ := p2969
      subst e2970
      subst e2971
      show WL _ _ _ _ 1105 [(4, vI i), (3, .ref o), (2, .ref m), (1, .ref x), (0, .ref 0)] [vI z2975] _ H2968
      refine wl_of hX hb cL_1105 (rw_pop (pc' := 1106) rfl rfl ?_)
      refine wl_of hX hb cL_1106 (rw_goto (p1 := 1653) (by decide) ?_)
      have k2977 : H2968 x 9 = H2944 x 9 := (f2973 x 9 _ gx rfl)
      have k2978 : H2968 m 6 = H2944 m 6 := (f2973 m 6 _ gm rfl)
      have k2979 : H2968 x 11 = H2944 x 11 := (f2973 x 11 _ gx rfl)
      have k2980 : H2968 m 13 = H2944 m 13 := (f2973 m 13 _ gm rfl)
      have k2981 : H2968 x 8 = H2944 x 8 := (f2973 x 8 _ gx rfl)
      have k2982 : H2968 m 3 = H2944 m 3 := (f2973 m 3 _ gm rfl)
      have h2983 : XI T H2968 x m := (XI_fr w2948 gx f2973 rfl (XI_fr hW gx f2949 rfl hXI))
      exact WL.loc hX (by simp) (next T H2968 ⟨⟨w2972, g0, gx, gm, go, by omega, by omega⟩, h2983, by omega, by omega⟩ (by omega) (by omega))
    · exfalso
      omega
  · refine wl_of hX hb cL_1072 (rw_iconst (pc' := 1073) rfl ?_)
    refine wl_of hX hb cL_1073 (rw_goto (p1 := 1077) (by decide) ?_)
    refine wl_of hX hb cL_1077 (xc_V (pc' := 1080) (r := x) (as := [vI (H 0 ((i + 1).toNat)), vI 1]) (st := []) (lm_11_139) rfl rfl (Nat.le_of_ble_eq_true rfl) hW gx sh_1 (by decide) rfl (by decide) (s_117 hW gx ⟨by omega, by omega⟩ ⟨by decide, by decide⟩) (fun R2984 T2985 H2986 p2987 => ?_))
    obtain ⟨e2988, w2990, f2991, z2992, e2989, b2993⟩ := p2987
    subst e2988
    subst e2989
    show WL _ _ _ _ 1080 [(4, vI i), (3, .ref o), (2, .ref m), (1, .ref x), (0, .ref 0)] [vI z2992] _ H2986
    refine wl_of hX hb cL_1080 (rw_pop (pc' := 1081) rfl rfl ?_)
    refine wl_of hX hb cL_1081 (rw_aload_n (pc' := 1082) (v := .ref m) rfl rfl rfl ?_)
    refine wl_of hX hb cL_1082 (rw_aload_n (pc' := 1083) (v := .ref 0) rfl rfl rfl ?_)
    refine wl_of hX hb cL_1083 (rw_iload (pc' := 1085) (z := i) rfl rfl ?_)
    refine wl_of hX hb cL_1085 (rw_iconst (pc' := 1086) rfl ?_)
    refine wl_of hX hb cL_1086 (rw_iadd (pc' := 1087) rfl ?_)
    have k2996 : H2986 0 ((i + 1).toNat) = H 0 ((i + 1).toNat) := (f2991 0 ((i + 1).toNat) _ g0 (wmem_s rfl))
    refine wl_of hX hb cL_1087 (xa_I (so := 0) (pc' := 1088) (a := 0) w2990 g0 (wsh_s _) (by omega) (wty_s _ _) (by omega) (by omega) rfl (fun b2994 b2995 => ?_))
    refine wl_of hX hb cL_1088 (rw_aload_n (pc' := 1089) (v := .ref 0) rfl rfl rfl ?_)
    refine wl_of hX hb cL_1089 (rw_iload (pc' := 1091) (z := i) rfl rfl ?_)
    refine wl_of hX hb cL_1091 (rw_iconst (pc' := 1092) rfl ?_)
    refine wl_of hX hb cL_1092 (rw_iadd (pc' := 1093) rfl ?_)
    have k2999 : H2986 0 ((i + 2).toNat) = H 0 ((i + 2).toNat) := (f2991 0 ((i + 2).toNat) _ g0 (wmem_s rfl))
    refine wl_of hX hb cL_1093 (xa_I (so := 0) (pc' := 1094) (a := 0) w2990 g0 (wsh_s _) (by omega) (wty_s _ _) (by omega) (by omega) rfl (fun b2997 b2998 => ?_))
    refine wl_of hX hb cL_1094 (rw_if_eq (p1 := 1101) (p2 := 1097) (by decide) rfl ⟨by omega, by omega⟩ (fun c3000 => ?_) (fun c3000 => ?_))
    · refine wl_of hX hb cL_1101 (rw_iconst (pc' := 1102) rfl ?_)
      have k3001 : wKI H2986 m = wKI H m := (wKI_fr hW gm f2991 rfl)
      have k3002 : H2986 x 9 = H x 9 := (f2991 x 9 _ gx rfl)
      have k3003 : H2986 m 6 = H m 6 := (f2991 m 6 _ gm rfl)
      have k3004 : H2986 x 11 = H x 11 := (f2991 x 11 _ gx rfl)
      have k3005 : H2986 m 13 = H m 13 := (f2991 m 13 _ gm rfl)
      have k3006 : H2986 x 8 = H x 8 := (f2991 x 8 _ gx rfl)
      have k3007 : H2986 m 3 = H m 3 := (f2991 m 3 _ gm rfl)
      refine wl_of hX hb cL_1102 (xc_V (pc' := 1105) (r := m) (as := [vI (H2986 0 ((i + 1).toNat)), vI 0]) (st := []) (lm_11_142) rfl rfl (Nat.le_of_ble_eq_true rfl) w2990 gm sh_42 (by decide) rfl (by decide) (s_263 w2990 gm ⟨by omega, by omega⟩ ⟨by decide, by decide⟩ (by omega)) (fun R3008 T3009 H3010 p3011 => ?_))
      obtain ⟨e3012, w3014, f3015, z3017, e3013, b3018, p3016⟩ := p3011
      subst e3012
      subst e3013
      show WL _ _ _ _ 1105 [(4, vI i), (3, .ref o), (2, .ref m), (1, .ref x), (0, .ref 0)] [vI z3017] _ H3010
      refine wl_of hX hb cL_1105 (rw_pop (pc' := 1106) rfl rfl ?_)
      refine wl_of hX hb cL_1106 (rw_goto (p1 := 1653) (by decide) ?_)
      have k3019 : H3010 x 9 = H2986 x 9 := (f3015 x 9 _ gx rfl)
      have k3020 : H3010 m 6 = H2986 m 6 := (f3015 m 6 _ gm rfl)
      have k3021 : H3010 x 11 = H2986 x 11 := (f3015 x 11 _ gx rfl)
      have k3022 : H3010 m 13 = H2986 m 13 := (f3015 m 13 _ gm rfl)
      have k3023 : H3010 x 8 = H2986 x 8 := (f3015 x 8 _ gx rfl)
      have k3024 : H3010 m 3 = H2986 m 3 := (f3015 m 3 _ gm rfl)
      have h3025 : XI T H3010 x m := (XI_fr w2990 gx f3015 rfl (XI_fr hW gx f2991 rfl hXI))
      exact WL.loc hX (by simp) (next T H3010 ⟨⟨w3014, g0, gx, gm, go, by omega, by omega⟩, h3025, by omega, by omega⟩ (by omega) (by omega))
    · refine wl_of hX hb cL_1097 (rw_iconst (pc' := 1098) rfl ?_)
      refine wl_of hX hb cL_1098 (rw_goto (p1 := 1102) (by decide) ?_)
      have k3026 : wKI H2986 m = wKI H m := (wKI_fr hW gm f2991 rfl)
      have k3027 : H2986 x 9 = H x 9 := (f2991 x 9 _ gx rfl)
      have k3028 : H2986 m 6 = H m 6 := (f2991 m 6 _ gm rfl)
      have k3029 : H2986 x 11 = H x 11 := (f2991 x 11 _ gx rfl)
      have k3030 : H2986 m 13 = H m 13 := (f2991 m 13 _ gm rfl)
      have k3031 : H2986 x 8 = H x 8 := (f2991 x 8 _ gx rfl)
      have k3032 : H2986 m 3 = H m 3 := (f2991 m 3 _ gm rfl)
      refine wl_of hX hb cL_1102 (xc_V (pc' := 1105) (r := m) (as := [vI (H2986 0 ((i + 1).toNat)), vI 1]) (st := []) (lm_11_142) rfl rfl (Nat.le_of_ble_eq_true rfl) w2990 gm sh_42 (by decide) rfl (by decide) (s_263 w2990 gm ⟨by omega, by omega⟩ ⟨by decide, by decide⟩ (by omega)) (fun R3033 T3034 H3035 p3036 => ?_))
      obtain ⟨e3037, w3039, f3040, z3042, e3038, b3043, p3041⟩ := p3036
      subst e3037
      subst e3038
      show WL _ _ _ _ 1105 [(4, vI i), (3, .ref o), (2, .ref m), (1, .ref x), (0, .ref 0)] [vI z3042] _ H3035
      refine wl_of hX hb cL_1105 (rw_pop (pc' := 1106) rfl rfl ?_)
      refine wl_of hX hb cL_1106 (rw_goto (p1 := 1653) (by decide) ?_)
      have k3044 : H3035 x 9 = H2986 x 9 := (f3040 x 9 _ gx rfl)
      have k3045 : H3035 m 6 = H2986 m 6 := (f3040 m 6 _ gm rfl)
      have k3046 : H3035 x 11 = H2986 x 11 := (f3040 x 11 _ gx rfl)
      have k3047 : H3035 m 13 = H2986 m 13 := (f3040 m 13 _ gm rfl)
      have k3048 : H3035 x 8 = H2986 x 8 := (f3040 x 8 _ gx rfl)
      have k3049 : H3035 m 3 = H2986 m 3 := (f3040 m 3 _ gm rfl)
      have h3050 : XI T H3035 x m := (XI_fr w2990 gx f3040 rfl (XI_fr hW gx f2991 rfl hXI))
      exact WL.loc hX (by simp) (next T H3035 ⟨⟨w3039, g0, gx, gm, go, by omega, by omega⟩, h3050, by omega, by omega⟩ (by omega) (by omega))
set_option maxHeartbeats 4000000 in
theorem wl_c29 {kt : Nat → Option mc_E} {CB SB : Nat} {X : mc_S → Prop} {T : wq_T} {H : wq_H} {Len x m o : Nat} {i : Int} (hX : wlX kt CB SB X) (hb : T.2.1 ≤ CB ∧ T.2.2.1 ≤ SB) (hI : wlJ Len x m o T H) (hL : Len ≤ 3072) (hi : 0 ≤ i ∧ i + 6 ≤ Len) (hb2 : T.2.1 + 20 ≤ CB ∧ T.2.2.1 + 500 ≤ SB)  (next : ∀ T' H', wlJ Len x m o T' H' → T'.2.1 ≤ T.2.1 + 20 → T'.2.2.1 ≤ T.2.2.1 + 500 → WL kt CB SB X 1653 (wlL i x m o) [] T' H') : WL kt CB SB X 1109 (wlL i x m o) [] T H := by
  obtain ⟨⟨hW, g0, gx, gm, go, hK, hr⟩, hXI, hY1, hY2⟩ := hI
  refine wl_of hX hb cL_1109 (rw_aload_n (pc' := 1110) (v := .ref x) rfl rfl rfl ?_)
  refine wl_of hX hb cL_1110 (rw_aload_n (pc' := 1111) (v := .ref 0) rfl rfl rfl ?_)
  refine wl_of hX hb cL_1111 (rw_iload (pc' := 1113) (z := i) rfl rfl ?_)
  refine wl_of hX hb cL_1113 (rw_iconst (pc' := 1114) rfl ?_)
  refine wl_of hX hb cL_1114 (rw_iadd (pc' := 1115) rfl ?_)
  refine wl_of hX hb cL_1115 (xa_I (so := 0) (pc' := 1116) (a := 0) hW g0 (wsh_s _) (by omega) (wty_s _ _) (by omega) (by omega) rfl (fun b3051 b3052 => ?_))
  refine wl_of hX hb cL_1116 (rw_aload_n (pc' := 1117) (v := .ref 0) rfl rfl rfl ?_)
  refine wl_of hX hb cL_1117 (rw_iload (pc' := 1119) (z := i) rfl rfl ?_)
  refine wl_of hX hb cL_1119 (rw_iconst (pc' := 1120) rfl ?_)
  refine wl_of hX hb cL_1120 (rw_iadd (pc' := 1121) rfl ?_)
  refine wl_of hX hb cL_1121 (xa_I (so := 0) (pc' := 1122) (a := 0) hW g0 (wsh_s _) (by omega) (wty_s _ _) (by omega) (by omega) rfl (fun b3053 b3054 => ?_))
  refine wl_of hX hb cL_1122 (rw_if_eq (p1 := 1129) (p2 := 1125) (by decide) rfl ⟨by omega, by omega⟩ (fun c3055 => ?_) (fun c3055 => ?_))
  · refine wl_of hX hb cL_1129 (rw_iconst (pc' := 1130) rfl ?_)
    refine wl_of hX hb cL_1130 (xc_V (pc' := 1133) (r := x) (as := [vI (H 0 ((i + 1).toNat)), vI 0]) (st := []) (lm_11_143) rfl rfl (Nat.le_of_ble_eq_true rfl) hW gx sh_1 (by decide) rfl (by decide) (s_119 hW gx ⟨by omega, by omega⟩ ⟨by decide, by decide⟩) (fun R3056 T3057 H3058 p3059 => ?_))
    obtain ⟨e3060, w3062, f3063, z3064, e3061, b3065⟩ := p3059
    subst e3060
    subst e3061
    show WL _ _ _ _ 1133 [(4, vI i), (3, .ref o), (2, .ref m), (1, .ref x), (0, .ref 0)] [vI z3064] _ H3058
    refine wl_of hX hb cL_1133 (rw_pop (pc' := 1134) rfl rfl ?_)
    refine wl_of hX hb cL_1134 (rw_aload_n (pc' := 1135) (v := .ref m) rfl rfl rfl ?_)
    refine wl_of hX hb cL_1135 (rw_aload_n (pc' := 1136) (v := .ref 0) rfl rfl rfl ?_)
    refine wl_of hX hb cL_1136 (rw_iload (pc' := 1138) (z := i) rfl rfl ?_)
    refine wl_of hX hb cL_1138 (rw_iconst (pc' := 1139) rfl ?_)
    refine wl_of hX hb cL_1139 (rw_iadd (pc' := 1140) rfl ?_)
    have k3068 : H3058 0 ((i + 1).toNat) = H 0 ((i + 1).toNat) := (f3063 0 ((i + 1).toNat) _ g0 (wmem_s rfl))
    refine wl_of hX hb cL_1140 (xa_I (so := 0) (pc' := 1141) (a := 0) w3062 g0 (wsh_s _) (by omega) (wty_s _ _) (by omega) (by omega) rfl (fun b3066 b3067 => ?_))
    refine wl_of hX hb cL_1141 (rw_aload_n (pc' := 1142) (v := .ref 0) rfl rfl rfl ?_)
    refine wl_of hX hb cL_1142 (rw_iload (pc' := 1144) (z := i) rfl rfl ?_)
    refine wl_of hX hb cL_1144 (rw_iconst (pc' := 1145) rfl ?_)
    refine wl_of hX hb cL_1145 (rw_iadd (pc' := 1146) rfl ?_)
    have k3071 : H3058 0 ((i + 2).toNat) = H 0 ((i + 2).toNat) := (f3063 0 ((i + 2).toNat) _ g0 (wmem_s rfl))
    refine wl_of hX hb cL_1146 (xa_I (so := 0) (pc' := 1147) (a := 0) w3062 g0 (wsh_s _) (by omega) (wty_s _ _) (by omega) (by omega) rfl (fun b3069 b3070 => ?_))
    refine wl_of hX hb cL_1147 (rw_if_eq (p1 := 1154) (p2 := 1150) (by decide) rfl ⟨by omega, by omega⟩ (fun c3072 => ?_) (fun c3072 => ?_))
    · refine wl_of hX hb cL_1154 (rw_iconst (pc' := 1155) rfl ?_)
      have k3073 : wKI H3058 m = wKI H m := (wKI_fr hW gm f3063 rfl)
      have k3074 : H3058 x 9 = H x 9 := (f3063 x 9 _ gx rfl)
      have k3075 : H3058 m 6 = H m 6 := (f3063 m 6 _ gm rfl)
      have k3076 : H3058 x 11 = H x 11 := (f3063 x 11 _ gx rfl)
      have k3077 : H3058 m 13 = H m 13 := (f3063 m 13 _ gm rfl)
      have k3078 : H3058 x 8 = H x 8 := (f3063 x 8 _ gx rfl)
      have k3079 : H3058 m 3 = H m 3 := (f3063 m 3 _ gm rfl)
      refine wl_of hX hb cL_1155 (xc_V (pc' := 1158) (r := m) (as := [vI (H3058 0 ((i + 1).toNat)), vI 0]) (st := []) (lm_11_146) rfl rfl (Nat.le_of_ble_eq_true rfl) w3062 gm sh_42 (by decide) rfl (by decide) (s_265 w3062 gm ⟨by omega, by omega⟩ ⟨by decide, by decide⟩ (by omega)) (fun R3080 T3081 H3082 p3083 => ?_))
      obtain ⟨e3084, w3086, f3087, z3089, e3085, b3090, p3088⟩ := p3083
      subst e3084
      subst e3085
      show WL _ _ _ _ 1158 [(4, vI i), (3, .ref o), (2, .ref m), (1, .ref x), (0, .ref 0)] [vI z3089] _ H3082
      refine wl_of hX hb cL_1158 (rw_pop (pc' := 1159) rfl rfl ?_)
      refine wl_of hX hb cL_1159 (rw_goto (p1 := 1653) (by decide) ?_)
      have k3091 : H3082 x 9 = H3058 x 9 := (f3087 x 9 _ gx rfl)
      have k3092 : H3082 m 6 = H3058 m 6 := (f3087 m 6 _ gm rfl)
      have k3093 : H3082 x 11 = H3058 x 11 := (f3087 x 11 _ gx rfl)
      have k3094 : H3082 m 13 = H3058 m 13 := (f3087 m 13 _ gm rfl)
      have k3095 : H3082 x 8 = H3058 x 8 := (f3087 x 8 _ gx rfl)
      have k3096 : H3082 m 3 = H3058 m 3 := (f3087 m 3 _ gm rfl)
      have h3097 : XI T H3082 x m := (XI_fr w3062 gx f3087 rfl (XI_fr hW gx f3063 rfl hXI))
      exact WL.loc hX (by simp) (next T H3082 ⟨⟨w3086, g0, gx, gm, go, by omega, by omega⟩, h3097, by omega, by omega⟩ (by omega) (by omega))
    · exfalso
      omega
  · refine wl_of hX hb cL_1125 (rw_iconst (pc' := 1126) rfl ?_)
    refine wl_of hX hb cL_1126 (rw_goto (p1 := 1130) (by decide) ?_)
    refine wl_of hX hb cL_1130 (xc_V (pc' := 1133) (r := x) (as := [vI (H 0 ((i + 1).toNat)), vI 1]) (st := []) (lm_11_143) rfl rfl (Nat.le_of_ble_eq_true rfl) hW gx sh_1 (by decide) rfl (by decide) (s_119 hW gx ⟨by omega, by omega⟩ ⟨by decide, by decide⟩) (fun R3098 T3099 H3100 p3101 => ?_))
    obtain ⟨e3102, w3104, f3105, z3106, e3103, b3107⟩ := p3101
    subst e3102
    subst e3103
    show WL _ _ _ _ 1133 [(4, vI i), (3, .ref o), (2, .ref m), (1, .ref x), (0, .ref 0)] [vI z3106] _ H3100
    refine wl_of hX hb cL_1133 (rw_pop (pc' := 1134) rfl rfl ?_)
    refine wl_of hX hb cL_1134 (rw_aload_n (pc' := 1135) (v := .ref m) rfl rfl rfl ?_)
    refine wl_of hX hb cL_1135 (rw_aload_n (pc' := 1136) (v := .ref 0) rfl rfl rfl ?_)
    refine wl_of hX hb cL_1136 (rw_iload (pc' := 1138) (z := i) rfl rfl ?_)
    refine wl_of hX hb cL_1138 (rw_iconst (pc' := 1139) rfl ?_)
    refine wl_of hX hb cL_1139 (rw_iadd (pc' := 1140) rfl ?_)
    have k3110 : H3100 0 ((i + 1).toNat) = H 0 ((i + 1).toNat) := (f3105 0 ((i + 1).toNat) _ g0 (wmem_s rfl))
    refine wl_of hX hb cL_1140 (xa_I (so := 0) (pc' := 1141) (a := 0) w3104 g0 (wsh_s _) (by omega) (wty_s _ _) (by omega) (by omega) rfl (fun b3108 b3109 => ?_))
    refine wl_of hX hb cL_1141 (rw_aload_n (pc' := 1142) (v := .ref 0) rfl rfl rfl ?_)
    refine wl_of hX hb cL_1142 (rw_iload (pc' := 1144) (z := i) rfl rfl ?_)
    refine wl_of hX hb cL_1144 (rw_iconst (pc' := 1145) rfl ?_)
    refine wl_of hX hb cL_1145 (rw_iadd (pc' := 1146) rfl ?_)
    have k3113 : H3100 0 ((i + 2).toNat) = H 0 ((i + 2).toNat) := (f3105 0 ((i + 2).toNat) _ g0 (wmem_s rfl))
    refine wl_of hX hb cL_1146 (xa_I (so := 0) (pc' := 1147) (a := 0) w3104 g0 (wsh_s _) (by omega) (wty_s _ _) (by omega) (by omega) rfl (fun b3111 b3112 => ?_))
    refine wl_of hX hb cL_1147 (rw_if_eq (p1 := 1154) (p2 := 1150) (by decide) rfl ⟨by omega, by omega⟩ (fun c3114 => ?_) (fun c3114 => ?_))
    · refine wl_of hX hb cL_1154 (rw_iconst (pc' := 1155) rfl ?_)
      have k3115 : wKI H3100 m = wKI H m := (wKI_fr hW gm f3105 rfl)
      have k3116 : H3100 x 9 = H x 9 := (f3105 x 9 _ gx rfl)
      have k3117 : H3100 m 6 = H m 6 := (f3105 m 6 _ gm rfl)
      have k3118 : H3100 x 11 = H x 11 := (f3105 x 11 _ gx rfl)
      have k3119 : H3100 m 13 = H m 13 := (f3105 m 13 _ gm rfl)
      have k3120 : H3100 x 8 = H x 8 := (f3105 x 8 _ gx rfl)
      have k3121 : H3100 m 3 = H m 3 := (f3105 m 3 _ gm rfl)
      refine wl_of hX hb cL_1155 (xc_V (pc' := 1158) (r := m) (as := [vI (H3100 0 ((i + 1).toNat)), vI 0]) (st := []) (lm_11_146) rfl rfl (Nat.le_of_ble_eq_true rfl) w3104 gm sh_42 (by decide) rfl (by decide) (s_265 w3104 gm ⟨by omega, by omega⟩ ⟨by decide, by decide⟩ (by omega)) (fun R3122 T3123 H3124 p3125 => ?_))
      obtain ⟨e3126, w3128, f3129, z3131, e3127, b3132, p3130⟩ := p3125
      subst e3126
      subst e3127
      show WL _ _ _ _ 1158 [(4, vI i), (3, .ref o), (2, .ref m), (1, .ref x), (0, .ref 0)] [vI z3131] _ H3124
      refine wl_of hX hb cL_1158 (rw_pop (pc' := 1159) rfl rfl ?_)
      refine wl_of hX hb cL_1159 (rw_goto (p1 := 1653) (by decide) ?_)
      have k3133 : H3124 x 9 = H3100 x 9 := (f3129 x 9 _ gx rfl)
      have k3134 : H3124 m 6 = H3100 m 6 := (f3129 m 6 _ gm rfl)
      have k3135 : H3124 x 11 = H3100 x 11 := (f3129 x 11 _ gx rfl)
      have k3136 : H3124 m 13 = H3100 m 13 := (f3129 m 13 _ gm rfl)
      have k3137 : H3124 x 8 = H3100 x 8 := (f3129 x 8 _ gx rfl)
      have k3138 : H3124 m 3 = H3100 m 3 := (f3129 m 3 _ gm rfl)
      have h3139 : XI T H3124 x m := (XI_fr w3104 gx f3129 rfl (XI_fr hW gx f3105 rfl hXI))
      exact WL.loc hX (by simp) (next T H3124 ⟨⟨w3128, g0, gx, gm, go, by omega, by omega⟩, h3139, by omega, by omega⟩ (by omega) (by omega))
    · refine wl_of hX hb cL_1150 (rw_iconst (pc' := 1151) rfl ?_)
      refine wl_of hX hb cL_1151 (rw_goto (p1 := 1155) (by decide) ?_)
      have k3140 : wKI H3100 m = wKI H m := (wKI_fr hW gm f3105 rfl)
      have k3141 : H3100 x 9 = H x 9 := (f3105 x 9 _ gx rfl)
      have k3142 : H3100 m 6 = H m 6 := (f3105 m 6 _ gm rfl)
      have k3143 : H3100 x 11 = H x 11 := (f3105 x 11 _ gx rfl)
      have k3144 : H3100 m 13 = H m 13 := (f3105 m 13 _ gm rfl)
      have k3145 : H3100 x 8 = H x 8 := (f3105 x 8 _ gx rfl)
      have k3146 : H3100 m 3 = H m 3 := (f3105 m 3 _ gm rfl)
      refine wl_of hX hb cL_1155 (xc_V (pc' := 1158) (r := m) (as := [vI (H3100 0 ((i + 1).toNat)), vI 1]) (st := []) (lm_11_146) rfl rfl (Nat.le_of_ble_eq_true rfl) w3104 gm sh_42 (by decide) rfl (by decide) (s_265 w3104 gm ⟨by omega, by omega⟩ ⟨by decide, by decide⟩ (by omega)) (fun R3147 T3148 H3149 p3150 => ?_))
      obtain ⟨e3151, w3153, f3154, z3156, e3152, b3157, p3155⟩ := p3150
      subst e3151
      subst e3152
      show WL _ _ _ _ 1158 [(4, vI i), (3, .ref o), (2, .ref m), (1, .ref x), (0, .ref 0)] [vI z3156] _ H3149
      refine wl_of hX hb cL_1158 (rw_pop (pc' := 1159) rfl rfl ?_)
      refine wl_of hX hb cL_1159 (rw_goto (p1 := 1653) (by decide) ?_)
      have k3158 : H3149 x 9 = H3100 x 9 := (f3154 x 9 _ gx rfl)
      have k3159 : H3149 m 6 = H3100 m 6 := (f3154 m 6 _ gm rfl)
      have k3160 : H3149 x 11 = H3100 x 11 := (f3154 x 11 _ gx rfl)
      have k3161 : H3149 m 13 = H3100 m 13 := (f3154 m 13 _ gm rfl)
      have k3162 : H3149 x 8 = H3100 x 8 := (f3154 x 8 _ gx rfl)
      have k3163 : H3149 m 3 = H3100 m 3 := (f3154 m 3 _ gm rfl)
      have h3164 : XI T H3149 x m := (XI_fr w3104 gx f3154 rfl (XI_fr hW gx f3105 rfl hXI))
      exact WL.loc hX (by simp) (next T H3149 ⟨⟨w3153, g0, gx, gm, go, by omega, by omega⟩, h3164, by omega, by omega⟩ (by omega) (by omega))
set_option maxHeartbeats 4000000 in
theorem wl_c30 {kt : Nat → Option mc_E} {CB SB : Nat} {X : mc_S → Prop} {T : wq_T} {H : wq_H} {Len x m o : Nat} {i : Int} (hX : wlX kt CB SB X) (hb : T.2.1 ≤ CB ∧ T.2.2.1 ≤ SB) (hI : wlJ Len x m o T H) (hL : Len ≤ 3072) (hi : 0 ≤ i ∧ i + 6 ≤ Len) (hb2 : T.2.1 + 20 ≤ CB ∧ T.2.2.1 + 500 ≤ SB)  (next : ∀ T' H', wlJ Len x m o T' H' → T'.2.1 ≤ T.2.1 + 20 → T'.2.2.1 ≤ T.2.2.1 + 500 → WL kt CB SB X 1653 (wlL i x m o) [] T' H') : WL kt CB SB X 1162 (wlL i x m o) [] T H := by
  obtain ⟨⟨hW, g0, gx, gm, go, hK, hr⟩, hXI, hY1, hY2⟩ := hI
  refine wl_of hX hb cL_1162 (rw_aload_n (pc' := 1163) (v := .ref x) rfl rfl rfl ?_)
  refine wl_of hX hb cL_1163 (xc_V (pc' := 1166) (r := x) (as := []) (st := []) (lm_11_147) rfl rfl (Nat.le_of_ble_eq_true rfl) hW gx sh_1 (by decide) rfl (by decide) (s_120 hW gx) (fun R3165 T3166 H3167 p3168 => ?_))
  obtain ⟨e3169, w3171, f3172, z3173, e3170, b3174⟩ := p3168
  subst e3169
  subst e3170
  show WL _ _ _ _ 1166 [(4, vI i), (3, .ref o), (2, .ref m), (1, .ref x), (0, .ref 0)] [vI z3173] _ H3167
  refine wl_of hX hb cL_1166 (rw_pop (pc' := 1167) rfl rfl ?_)
  refine wl_of hX hb cL_1167 (rw_aload_n (pc' := 1168) (v := .ref m) rfl rfl rfl ?_)
  have k3175 : wKI H3167 m = wKI H m := (wKI_fr hW gm f3172 rfl)
  have k3176 : H3167 x 9 = H x 9 := (f3172 x 9 _ gx rfl)
  have k3177 : H3167 m 6 = H m 6 := (f3172 m 6 _ gm rfl)
  have k3178 : H3167 x 11 = H x 11 := (f3172 x 11 _ gx rfl)
  have k3179 : H3167 m 13 = H m 13 := (f3172 m 13 _ gm rfl)
  have k3180 : H3167 x 8 = H x 8 := (f3172 x 8 _ gx rfl)
  have k3181 : H3167 m 3 = H m 3 := (f3172 m 3 _ gm rfl)
  refine wl_of hX hb cL_1168 (xc_V (pc' := 1171) (r := m) (as := []) (st := []) (lm_11_150) rfl rfl (Nat.le_of_ble_eq_true rfl) w3171 gm sh_42 (by decide) rfl (by decide) (s_266 w3171 gm (by omega)) (fun R3182 T3183 H3184 p3185 => ?_))
  obtain ⟨e3186, w3188, f3189, z3191, e3187, b3192, p3190⟩ := p3185
  subst e3186
  subst e3187
  show WL _ _ _ _ 1171 [(4, vI i), (3, .ref o), (2, .ref m), (1, .ref x), (0, .ref 0)] [vI z3191] _ H3184
  refine wl_of hX hb cL_1171 (rw_pop (pc' := 1172) rfl rfl ?_)
  refine wl_of hX hb cL_1172 (rw_goto (p1 := 1653) (by decide) ?_)
  have k3193 : H3184 x 9 = H3167 x 9 := (f3189 x 9 _ gx rfl)
  have k3194 : H3184 m 6 = H3167 m 6 := (f3189 m 6 _ gm rfl)
  have k3195 : H3184 x 11 = H3167 x 11 := (f3189 x 11 _ gx rfl)
  have k3196 : H3184 m 13 = H3167 m 13 := (f3189 m 13 _ gm rfl)
  have k3197 : H3184 x 8 = H3167 x 8 := (f3189 x 8 _ gx rfl)
  have k3198 : H3184 m 3 = H3167 m 3 := (f3189 m 3 _ gm rfl)
  have h3199 : XI T H3184 x m := (XI_fr w3171 gx f3189 rfl (XI_fr hW gx f3172 rfl hXI))
  exact WL.loc hX (by simp) (next T H3184 ⟨⟨w3188, g0, gx, gm, go, by omega, by omega⟩, h3199, by omega, by omega⟩ (by omega) (by omega))
set_option maxHeartbeats 4000000 in
theorem wl_c31 {kt : Nat → Option mc_E} {CB SB : Nat} {X : mc_S → Prop} {T : wq_T} {H : wq_H} {Len x m o : Nat} {i : Int} (hX : wlX kt CB SB X) (hb : T.2.1 ≤ CB ∧ T.2.2.1 ≤ SB) (hI : wlJ Len x m o T H) (hL : Len ≤ 3072) (hi : 0 ≤ i ∧ i + 6 ≤ Len) (hb2 : T.2.1 + 20 ≤ CB ∧ T.2.2.1 + 500 ≤ SB)  (next : ∀ T' H', wlJ Len x m o T' H' → T'.2.1 ≤ T.2.1 + 20 → T'.2.2.1 ≤ T.2.2.1 + 500 → WL kt CB SB X 1653 (wlL i x m o) [] T' H') : WL kt CB SB X 1175 (wlL i x m o) [] T H := by
  obtain ⟨⟨hW, g0, gx, gm, go, hK, hr⟩, hXI, hY1, hY2⟩ := hI
  refine wl_of hX hb cL_1175 (rw_aload_n (pc' := 1176) (v := .ref x) rfl rfl rfl ?_)
  refine wl_of hX hb cL_1176 (rw_aload_n (pc' := 1177) (v := .ref 0) rfl rfl rfl ?_)
  refine wl_of hX hb cL_1177 (rw_iload (pc' := 1179) (z := i) rfl rfl ?_)
  refine wl_of hX hb cL_1179 (rw_iconst (pc' := 1180) rfl ?_)
  refine wl_of hX hb cL_1180 (rw_iadd (pc' := 1181) rfl ?_)
  refine wl_of hX hb cL_1181 (xa_I (so := 0) (pc' := 1182) (a := 0) hW g0 (wsh_s _) (by omega) (wty_s _ _) (by omega) (by omega) rfl (fun b3200 b3201 => ?_))
  refine wl_of hX hb cL_1182 (xc_V (pc' := 1185) (r := x) (as := [vI (H 0 ((i + 1).toNat))]) (st := []) (lm_11_151) rfl rfl (Nat.le_of_ble_eq_true rfl) hW gx sh_1 (by decide) rfl (by decide) (s_130 hW gx ⟨by omega, by omega⟩) (fun R3202 T3203 H3204 p3205 => ?_))
  obtain ⟨e3206, w3208, f3209, z3210, e3207, b3211⟩ := p3205
  subst e3206
  subst e3207
  show WL _ _ _ _ 1185 [(4, vI i), (3, .ref o), (2, .ref m), (1, .ref x), (0, .ref 0)] [vI z3210] _ H3204
  refine wl_of hX hb cL_1185 (rw_pop (pc' := 1186) rfl rfl ?_)
  refine wl_of hX hb cL_1186 (rw_aload_n (pc' := 1187) (v := .ref m) rfl rfl rfl ?_)
  refine wl_of hX hb cL_1187 (rw_aload_n (pc' := 1188) (v := .ref 0) rfl rfl rfl ?_)
  refine wl_of hX hb cL_1188 (rw_iload (pc' := 1190) (z := i) rfl rfl ?_)
  refine wl_of hX hb cL_1190 (rw_iconst (pc' := 1191) rfl ?_)
  refine wl_of hX hb cL_1191 (rw_iadd (pc' := 1192) rfl ?_)
  have k3214 : H3204 0 ((i + 1).toNat) = H 0 ((i + 1).toNat) := (f3209 0 ((i + 1).toNat) _ g0 (wmem_s rfl))
  refine wl_of hX hb cL_1192 (xa_I (so := 0) (pc' := 1193) (a := 0) w3208 g0 (wsh_s _) (by omega) (wty_s _ _) (by omega) (by omega) rfl (fun b3212 b3213 => ?_))
  have k3215 : wKI H3204 m = wKI H m := (wKI_fr hW gm f3209 rfl)
  have k3216 : H3204 x 9 = H x 9 := (f3209 x 9 _ gx rfl)
  have k3217 : H3204 m 6 = H m 6 := (f3209 m 6 _ gm rfl)
  have k3218 : H3204 x 11 = H x 11 := (f3209 x 11 _ gx rfl)
  have k3219 : H3204 m 13 = H m 13 := (f3209 m 13 _ gm rfl)
  have k3220 : H3204 x 8 = H x 8 := (f3209 x 8 _ gx rfl)
  have k3221 : H3204 m 3 = H m 3 := (f3209 m 3 _ gm rfl)
  refine wl_of hX hb cL_1193 (xc_V (pc' := 1196) (r := m) (as := [vI (H3204 0 ((i + 1).toNat))]) (st := []) (lm_11_154) rfl rfl (Nat.le_of_ble_eq_true rfl) w3208 gm sh_42 (by decide) rfl (by decide) (s_271 w3208 gm ⟨by omega, by omega⟩ (by omega)) (fun R3222 T3223 H3224 p3225 => ?_))
  obtain ⟨e3226, w3228, f3229, z3231, e3227, b3232, p3230⟩ := p3225
  subst e3226
  subst e3227
  show WL _ _ _ _ 1196 [(4, vI i), (3, .ref o), (2, .ref m), (1, .ref x), (0, .ref 0)] [vI z3231] _ H3224
  refine wl_of hX hb cL_1196 (rw_pop (pc' := 1197) rfl rfl ?_)
  refine wl_of hX hb cL_1197 (rw_goto (p1 := 1653) (by decide) ?_)
  have k3233 : H3224 x 9 = H3204 x 9 := (f3229 x 9 _ gx rfl)
  have k3234 : H3224 m 6 = H3204 m 6 := (f3229 m 6 _ gm rfl)
  have k3235 : H3224 x 11 = H3204 x 11 := (f3229 x 11 _ gx rfl)
  have k3236 : H3224 m 13 = H3204 m 13 := (f3229 m 13 _ gm rfl)
  have k3237 : H3224 x 8 = H3204 x 8 := (f3229 x 8 _ gx rfl)
  have k3238 : H3224 m 3 = H3204 m 3 := (f3229 m 3 _ gm rfl)
  have h3239 : XI T H3224 x m := (XI_fr w3208 gx f3229 rfl (XI_fr hW gx f3209 rfl hXI))
  exact WL.loc hX (by simp) (next T H3224 ⟨⟨w3228, g0, gx, gm, go, by omega, by omega⟩, h3239, by omega, by omega⟩ (by omega) (by omega))
set_option maxHeartbeats 4000000 in
theorem wl_c32 {kt : Nat → Option mc_E} {CB SB : Nat} {X : mc_S → Prop} {T : wq_T} {H : wq_H} {Len x m o : Nat} {i : Int} (hX : wlX kt CB SB X) (hb : T.2.1 ≤ CB ∧ T.2.2.1 ≤ SB) (hI : wlJ Len x m o T H) (hL : Len ≤ 3072) (hi : 0 ≤ i ∧ i + 6 ≤ Len) (hb2 : T.2.1 + 20 ≤ CB ∧ T.2.2.1 + 500 ≤ SB)  (next : ∀ T' H', wlJ Len x m o T' H' → T'.2.1 ≤ T.2.1 + 20 → T'.2.2.1 ≤ T.2.2.1 + 500 → WL kt CB SB X 1653 (wlL i x m o) [] T' H') : WL kt CB SB X 1200 (wlL i x m o) [] T H := by
  obtain ⟨⟨hW, g0, gx, gm, go, hK, hr⟩, hXI, hY1, hY2⟩ := hI
  refine wl_of hX hb cL_1200 (rw_aload_n (pc' := 1201) (v := .ref x) rfl rfl rfl ?_)
  refine wl_of hX hb cL_1201 (rw_aload_n (pc' := 1202) (v := .ref 0) rfl rfl rfl ?_)
  refine wl_of hX hb cL_1202 (rw_iload (pc' := 1204) (z := i) rfl rfl ?_)
  refine wl_of hX hb cL_1204 (rw_iconst (pc' := 1205) rfl ?_)
  refine wl_of hX hb cL_1205 (rw_iadd (pc' := 1206) rfl ?_)
  refine wl_of hX hb cL_1206 (xa_I (so := 0) (pc' := 1207) (a := 0) hW g0 (wsh_s _) (by omega) (wty_s _ _) (by omega) (by omega) rfl (fun b3240 b3241 => ?_))
  refine wl_of hX hb cL_1207 (xc_V (pc' := 1210) (r := x) (as := [vI (H 0 ((i + 1).toNat))]) (st := []) (lm_11_155) rfl rfl (Nat.le_of_ble_eq_true rfl) hW gx sh_1 (by decide) rfl (by decide) (s_132 hW gx ⟨by omega, by omega⟩) (fun R3242 T3243 H3244 p3245 => ?_))
  obtain ⟨e3246, w3248, f3249, z3250, e3247, b3251⟩ := p3245
  subst e3246
  subst e3247
  show WL _ _ _ _ 1210 [(4, vI i), (3, .ref o), (2, .ref m), (1, .ref x), (0, .ref 0)] [vI z3250] _ H3244
  refine wl_of hX hb cL_1210 (rw_pop (pc' := 1211) rfl rfl ?_)
  refine wl_of hX hb cL_1211 (rw_aload_n (pc' := 1212) (v := .ref m) rfl rfl rfl ?_)
  refine wl_of hX hb cL_1212 (rw_aload_n (pc' := 1213) (v := .ref 0) rfl rfl rfl ?_)
  refine wl_of hX hb cL_1213 (rw_iload (pc' := 1215) (z := i) rfl rfl ?_)
  refine wl_of hX hb cL_1215 (rw_iconst (pc' := 1216) rfl ?_)
  refine wl_of hX hb cL_1216 (rw_iadd (pc' := 1217) rfl ?_)
  have k3254 : H3244 0 ((i + 1).toNat) = H 0 ((i + 1).toNat) := (f3249 0 ((i + 1).toNat) _ g0 (wmem_s rfl))
  refine wl_of hX hb cL_1217 (xa_I (so := 0) (pc' := 1218) (a := 0) w3248 g0 (wsh_s _) (by omega) (wty_s _ _) (by omega) (by omega) rfl (fun b3252 b3253 => ?_))
  have k3255 : wKI H3244 m = wKI H m := (wKI_fr hW gm f3249 rfl)
  have k3256 : H3244 x 9 = H x 9 := (f3249 x 9 _ gx rfl)
  have k3257 : H3244 m 6 = H m 6 := (f3249 m 6 _ gm rfl)
  have k3258 : H3244 x 11 = H x 11 := (f3249 x 11 _ gx rfl)
  have k3259 : H3244 m 13 = H m 13 := (f3249 m 13 _ gm rfl)
  have k3260 : H3244 x 8 = H x 8 := (f3249 x 8 _ gx rfl)
  have k3261 : H3244 m 3 = H m 3 := (f3249 m 3 _ gm rfl)
  refine wl_of hX hb cL_1218 (xc_V (pc' := 1221) (r := m) (as := [vI (H3244 0 ((i + 1).toNat))]) (st := []) (lm_11_158) rfl rfl (Nat.le_of_ble_eq_true rfl) w3248 gm sh_42 (by decide) rfl (by decide) (s_272 w3248 gm ⟨by omega, by omega⟩ (by omega)) (fun R3262 T3263 H3264 p3265 => ?_))
  obtain ⟨e3266, w3268, f3269, z3271, e3267, b3272, p3270⟩ := p3265
  subst e3266
  subst e3267
  show WL _ _ _ _ 1221 [(4, vI i), (3, .ref o), (2, .ref m), (1, .ref x), (0, .ref 0)] [vI z3271] _ H3264
  refine wl_of hX hb cL_1221 (rw_pop (pc' := 1222) rfl rfl ?_)
  refine wl_of hX hb cL_1222 (rw_goto (p1 := 1653) (by decide) ?_)
  have k3273 : H3264 x 9 = H3244 x 9 := (f3269 x 9 _ gx rfl)
  have k3274 : H3264 m 6 = H3244 m 6 := (f3269 m 6 _ gm rfl)
  have k3275 : H3264 x 11 = H3244 x 11 := (f3269 x 11 _ gx rfl)
  have k3276 : H3264 m 13 = H3244 m 13 := (f3269 m 13 _ gm rfl)
  have k3277 : H3264 x 8 = H3244 x 8 := (f3269 x 8 _ gx rfl)
  have k3278 : H3264 m 3 = H3244 m 3 := (f3269 m 3 _ gm rfl)
  have h3279 : XI T H3264 x m := (XI_fr w3248 gx f3269 rfl (XI_fr hW gx f3249 rfl hXI))
  exact WL.loc hX (by simp) (next T H3264 ⟨⟨w3268, g0, gx, gm, go, by omega, by omega⟩, h3279, by omega, by omega⟩ (by omega) (by omega))
set_option maxHeartbeats 4000000 in
theorem wl_c33 {kt : Nat → Option mc_E} {CB SB : Nat} {X : mc_S → Prop} {T : wq_T} {H : wq_H} {Len x m o : Nat} {i : Int} (hX : wlX kt CB SB X) (hb : T.2.1 ≤ CB ∧ T.2.2.1 ≤ SB) (hI : wlJ Len x m o T H) (hL : Len ≤ 3072) (hi : 0 ≤ i ∧ i + 6 ≤ Len) (hb2 : T.2.1 + 20 ≤ CB ∧ T.2.2.1 + 500 ≤ SB)  (next : ∀ T' H', wlJ Len x m o T' H' → T'.2.1 ≤ T.2.1 + 20 → T'.2.2.1 ≤ T.2.2.1 + 500 → WL kt CB SB X 1653 (wlL i x m o) [] T' H') : WL kt CB SB X 1225 (wlL i x m o) [] T H := by
  obtain ⟨⟨hW, g0, gx, gm, go, hK, hr⟩, hXI, hY1, hY2⟩ := hI
  refine wl_of hX hb cL_1225 (rw_aload_n (pc' := 1226) (v := .ref x) rfl rfl rfl ?_)
  refine wl_of hX hb cL_1226 (rw_aload_n (pc' := 1227) (v := .ref 0) rfl rfl rfl ?_)
  refine wl_of hX hb cL_1227 (rw_iload (pc' := 1229) (z := i) rfl rfl ?_)
  refine wl_of hX hb cL_1229 (rw_iconst (pc' := 1230) rfl ?_)
  refine wl_of hX hb cL_1230 (rw_iadd (pc' := 1231) rfl ?_)
  refine wl_of hX hb cL_1231 (xa_I (so := 0) (pc' := 1232) (a := 0) hW g0 (wsh_s _) (by omega) (wty_s _ _) (by omega) (by omega) rfl (fun b3280 b3281 => ?_))
  refine wl_of hX hb cL_1232 (xc_V (pc' := 1235) (r := x) (as := [vI (H 0 ((i + 1).toNat))]) (st := []) (lm_11_159) rfl rfl (Nat.le_of_ble_eq_true rfl) hW gx sh_1 (by decide) rfl (by decide) (s_135 hW gx ⟨by omega, by omega⟩) (fun R3282 T3283 H3284 p3285 => ?_))
  obtain ⟨e3286, w3288, f3289, z3290, e3287, b3291⟩ := p3285
  subst e3286
  subst e3287
  show WL _ _ _ _ 1235 [(4, vI i), (3, .ref o), (2, .ref m), (1, .ref x), (0, .ref 0)] [vI z3290] _ H3284
  refine wl_of hX hb cL_1235 (rw_pop (pc' := 1236) rfl rfl ?_)
  refine wl_of hX hb cL_1236 (rw_aload_n (pc' := 1237) (v := .ref m) rfl rfl rfl ?_)
  refine wl_of hX hb cL_1237 (rw_aload_n (pc' := 1238) (v := .ref 0) rfl rfl rfl ?_)
  refine wl_of hX hb cL_1238 (rw_iload (pc' := 1240) (z := i) rfl rfl ?_)
  refine wl_of hX hb cL_1240 (rw_iconst (pc' := 1241) rfl ?_)
  refine wl_of hX hb cL_1241 (rw_iadd (pc' := 1242) rfl ?_)
  have k3294 : H3284 0 ((i + 1).toNat) = H 0 ((i + 1).toNat) := (f3289 0 ((i + 1).toNat) _ g0 (wmem_s rfl))
  refine wl_of hX hb cL_1242 (xa_I (so := 0) (pc' := 1243) (a := 0) w3288 g0 (wsh_s _) (by omega) (wty_s _ _) (by omega) (by omega) rfl (fun b3292 b3293 => ?_))
  have k3295 : wKI H3284 m = wKI H m := (wKI_fr hW gm f3289 rfl)
  have k3296 : H3284 x 9 = H x 9 := (f3289 x 9 _ gx rfl)
  have k3297 : H3284 m 6 = H m 6 := (f3289 m 6 _ gm rfl)
  have k3298 : H3284 x 11 = H x 11 := (f3289 x 11 _ gx rfl)
  have k3299 : H3284 m 13 = H m 13 := (f3289 m 13 _ gm rfl)
  have k3300 : H3284 x 8 = H x 8 := (f3289 x 8 _ gx rfl)
  have k3301 : H3284 m 3 = H m 3 := (f3289 m 3 _ gm rfl)
  refine wl_of hX hb cL_1243 (xc_V (pc' := 1246) (r := m) (as := [vI (H3284 0 ((i + 1).toNat))]) (st := []) (lm_11_162) rfl rfl (Nat.le_of_ble_eq_true rfl) w3288 gm sh_42 (by decide) rfl (by decide) (s_275 w3288 gm ⟨by omega, by omega⟩ (by omega)) (fun R3302 T3303 H3304 p3305 => ?_))
  obtain ⟨e3306, w3308, f3309, z3311, e3307, b3312, p3310⟩ := p3305
  subst e3306
  subst e3307
  show WL _ _ _ _ 1246 [(4, vI i), (3, .ref o), (2, .ref m), (1, .ref x), (0, .ref 0)] [vI z3311] _ H3304
  refine wl_of hX hb cL_1246 (rw_pop (pc' := 1247) rfl rfl ?_)
  refine wl_of hX hb cL_1247 (rw_goto (p1 := 1653) (by decide) ?_)
  have k3313 : H3304 x 9 = H3284 x 9 := (f3309 x 9 _ gx rfl)
  have k3314 : H3304 m 6 = H3284 m 6 := (f3309 m 6 _ gm rfl)
  have k3315 : H3304 x 11 = H3284 x 11 := (f3309 x 11 _ gx rfl)
  have k3316 : H3304 m 13 = H3284 m 13 := (f3309 m 13 _ gm rfl)
  have k3317 : H3304 x 8 = H3284 x 8 := (f3309 x 8 _ gx rfl)
  have k3318 : H3304 m 3 = H3284 m 3 := (f3309 m 3 _ gm rfl)
  have h3319 : XI T H3304 x m := (XI_fr w3288 gx f3309 rfl (XI_fr hW gx f3289 rfl hXI))
  exact WL.loc hX (by simp) (next T H3304 ⟨⟨w3308, g0, gx, gm, go, by omega, by omega⟩, h3319, by omega, by omega⟩ (by omega) (by omega))
set_option maxHeartbeats 4000000 in
theorem wl_c34 {kt : Nat → Option mc_E} {CB SB : Nat} {X : mc_S → Prop} {T : wq_T} {H : wq_H} {Len x m o : Nat} {i : Int} (hX : wlX kt CB SB X) (hb : T.2.1 ≤ CB ∧ T.2.2.1 ≤ SB) (hI : wlJ Len x m o T H) (hL : Len ≤ 3072) (hi : 0 ≤ i ∧ i + 6 ≤ Len) (hb2 : T.2.1 + 20 ≤ CB ∧ T.2.2.1 + 500 ≤ SB)  (next : ∀ T' H', wlJ Len x m o T' H' → T'.2.1 ≤ T.2.1 + 20 → T'.2.2.1 ≤ T.2.2.1 + 500 → WL kt CB SB X 1653 (wlL i x m o) [] T' H') : WL kt CB SB X 1250 (wlL i x m o) [] T H := by
  obtain ⟨⟨hW, g0, gx, gm, go, hK, hr⟩, hXI, hY1, hY2⟩ := hI
  refine wl_of hX hb cL_1250 (rw_aload_n (pc' := 1251) (v := .ref x) rfl rfl rfl ?_)
  refine wl_of hX hb cL_1251 (xc_V (pc' := 1254) (r := x) (as := []) (st := []) (lm_11_163) rfl rfl (Nat.le_of_ble_eq_true rfl) hW gx sh_1 (by decide) rfl (by decide) (s_137 hW gx) (fun R3320 T3321 H3322 p3323 => ?_))
  obtain ⟨e3324, w3326, f3327, z3328, e3325, b3329⟩ := p3323
  subst e3324
  subst e3325
  show WL _ _ _ _ 1254 [(4, vI i), (3, .ref o), (2, .ref m), (1, .ref x), (0, .ref 0)] [vI z3328] _ H3322
  refine wl_of hX hb cL_1254 (rw_pop (pc' := 1255) rfl rfl ?_)
  refine wl_of hX hb cL_1255 (rw_aload_n (pc' := 1256) (v := .ref m) rfl rfl rfl ?_)
  have k3330 : wKI H3322 m = wKI H m := (wKI_fr hW gm f3327 rfl)
  have k3331 : H3322 x 9 = H x 9 := (f3327 x 9 _ gx rfl)
  have k3332 : H3322 m 6 = H m 6 := (f3327 m 6 _ gm rfl)
  have k3333 : H3322 x 11 = H x 11 := (f3327 x 11 _ gx rfl)
  have k3334 : H3322 m 13 = H m 13 := (f3327 m 13 _ gm rfl)
  have k3335 : H3322 x 8 = H x 8 := (f3327 x 8 _ gx rfl)
  have k3336 : H3322 m 3 = H m 3 := (f3327 m 3 _ gm rfl)
  refine wl_of hX hb cL_1256 (xc_V (pc' := 1259) (r := m) (as := []) (st := []) (lm_11_166) rfl rfl (Nat.le_of_ble_eq_true rfl) w3326 gm sh_42 (by decide) rfl (by decide) (s_276 w3326 gm (by omega)) (fun R3337 T3338 H3339 p3340 => ?_))
  obtain ⟨e3341, w3343, f3344, z3346, e3342, b3347, p3345⟩ := p3340
  subst e3341
  subst e3342
  show WL _ _ _ _ 1259 [(4, vI i), (3, .ref o), (2, .ref m), (1, .ref x), (0, .ref 0)] [vI z3346] _ H3339
  refine wl_of hX hb cL_1259 (rw_pop (pc' := 1260) rfl rfl ?_)
  refine wl_of hX hb cL_1260 (rw_goto (p1 := 1653) (by decide) ?_)
  have k3348 : H3339 x 9 = H3322 x 9 := (f3344 x 9 _ gx rfl)
  have k3349 : H3339 m 6 = H3322 m 6 := (f3344 m 6 _ gm rfl)
  have k3350 : H3339 x 11 = H3322 x 11 := (f3344 x 11 _ gx rfl)
  have k3351 : H3339 m 13 = H3322 m 13 := (f3344 m 13 _ gm rfl)
  have k3352 : H3339 x 8 = H3322 x 8 := (f3344 x 8 _ gx rfl)
  have k3353 : H3339 m 3 = H3322 m 3 := (f3344 m 3 _ gm rfl)
  have h3354 : XI T H3339 x m := (XI_fr w3326 gx f3344 rfl (XI_fr hW gx f3327 rfl hXI))
  exact WL.loc hX (by simp) (next T H3339 ⟨⟨w3343, g0, gx, gm, go, by omega, by omega⟩, h3354, by omega, by omega⟩ (by omega) (by omega))
set_option maxHeartbeats 4000000 in
theorem wl_c35 {kt : Nat → Option mc_E} {CB SB : Nat} {X : mc_S → Prop} {T : wq_T} {H : wq_H} {Len x m o : Nat} {i : Int} (hX : wlX kt CB SB X) (hb : T.2.1 ≤ CB ∧ T.2.2.1 ≤ SB) (hI : wlJ Len x m o T H) (hL : Len ≤ 3072) (hi : 0 ≤ i ∧ i + 6 ≤ Len) (hb2 : T.2.1 + 20 ≤ CB ∧ T.2.2.1 + 500 ≤ SB)  (next : ∀ T' H', wlJ Len x m o T' H' → T'.2.1 ≤ T.2.1 + 20 → T'.2.2.1 ≤ T.2.2.1 + 500 → WL kt CB SB X 1653 (wlL i x m o) [] T' H') : WL kt CB SB X 1263 (wlL i x m o) [] T H := by
  obtain ⟨⟨hW, g0, gx, gm, go, hK, hr⟩, hXI, hY1, hY2⟩ := hI
  refine wl_of hX hb cL_1263 (rw_aload_n (pc' := 1264) (v := .ref x) rfl rfl rfl ?_)
  refine wl_of hX hb cL_1264 (rw_aload_n (pc' := 1265) (v := .ref 0) rfl rfl rfl ?_)
  refine wl_of hX hb cL_1265 (rw_iload (pc' := 1267) (z := i) rfl rfl ?_)
  refine wl_of hX hb cL_1267 (rw_iconst (pc' := 1268) rfl ?_)
  refine wl_of hX hb cL_1268 (rw_iadd (pc' := 1269) rfl ?_)
  refine wl_of hX hb cL_1269 (xa_I (so := 0) (pc' := 1270) (a := 0) hW g0 (wsh_s _) (by omega) (wty_s _ _) (by omega) (by omega) rfl (fun b3355 b3356 => ?_))
  refine wl_of hX hb cL_1270 (rw_aload_n (pc' := 1271) (v := .ref 0) rfl rfl rfl ?_)
  refine wl_of hX hb cL_1271 (rw_iload (pc' := 1273) (z := i) rfl rfl ?_)
  refine wl_of hX hb cL_1273 (rw_iconst (pc' := 1274) rfl ?_)
  refine wl_of hX hb cL_1274 (rw_iadd (pc' := 1275) rfl ?_)
  refine wl_of hX hb cL_1275 (xa_I (so := 0) (pc' := 1276) (a := 0) hW g0 (wsh_s _) (by omega) (wty_s _ _) (by omega) (by omega) rfl (fun b3357 b3358 => ?_))
  refine wl_of hX hb cL_1276 (rw_if_eq (p1 := 1283) (p2 := 1279) (by decide) rfl ⟨by omega, by omega⟩ (fun c3359 => ?_) (fun c3359 => ?_))
  · refine wl_of hX hb cL_1283 (rw_iconst (pc' := 1284) rfl ?_)
    refine wl_of hX hb cL_1284 (xc_V (pc' := 1287) (r := x) (as := [vI (H 0 ((i + 1).toNat)), vI 0]) (st := []) (lm_11_167) rfl rfl (Nat.le_of_ble_eq_true rfl) hW gx sh_1 (by decide) rfl (by decide) (s_146 hW gx ⟨by omega, by omega⟩ ⟨by decide, by decide⟩) (fun R3360 T3361 H3362 p3363 => ?_))
    obtain ⟨e3364, w3366, f3367, z3368, e3365, b3369⟩ := p3363
    subst e3364
    subst e3365
    show WL _ _ _ _ 1287 [(4, vI i), (3, .ref o), (2, .ref m), (1, .ref x), (0, .ref 0)] [vI z3368] _ H3362
    refine wl_of hX hb cL_1287 (rw_pop (pc' := 1288) rfl rfl ?_)
    refine wl_of hX hb cL_1288 (rw_aload_n (pc' := 1289) (v := .ref m) rfl rfl rfl ?_)
    refine wl_of hX hb cL_1289 (rw_aload_n (pc' := 1290) (v := .ref 0) rfl rfl rfl ?_)
    refine wl_of hX hb cL_1290 (rw_iload (pc' := 1292) (z := i) rfl rfl ?_)
    refine wl_of hX hb cL_1292 (rw_iconst (pc' := 1293) rfl ?_)
    refine wl_of hX hb cL_1293 (rw_iadd (pc' := 1294) rfl ?_)
    have k3372 : H3362 0 ((i + 1).toNat) = H 0 ((i + 1).toNat) := (f3367 0 ((i + 1).toNat) _ g0 (wmem_s rfl))
    refine wl_of hX hb cL_1294 (xa_I (so := 0) (pc' := 1295) (a := 0) w3366 g0 (wsh_s _) (by omega) (wty_s _ _) (by omega) (by omega) rfl (fun b3370 b3371 => ?_))
    refine wl_of hX hb cL_1295 (rw_aload_n (pc' := 1296) (v := .ref 0) rfl rfl rfl ?_)
    refine wl_of hX hb cL_1296 (rw_iload (pc' := 1298) (z := i) rfl rfl ?_)
    refine wl_of hX hb cL_1298 (rw_iconst (pc' := 1299) rfl ?_)
    refine wl_of hX hb cL_1299 (rw_iadd (pc' := 1300) rfl ?_)
    have k3375 : H3362 0 ((i + 2).toNat) = H 0 ((i + 2).toNat) := (f3367 0 ((i + 2).toNat) _ g0 (wmem_s rfl))
    refine wl_of hX hb cL_1300 (xa_I (so := 0) (pc' := 1301) (a := 0) w3366 g0 (wsh_s _) (by omega) (wty_s _ _) (by omega) (by omega) rfl (fun b3373 b3374 => ?_))
    refine wl_of hX hb cL_1301 (rw_if_eq (p1 := 1308) (p2 := 1304) (by decide) rfl ⟨by omega, by omega⟩ (fun c3376 => ?_) (fun c3376 => ?_))
    · refine wl_of hX hb cL_1308 (rw_iconst (pc' := 1309) rfl ?_)
      have k3377 : wKI H3362 m = wKI H m := (wKI_fr hW gm f3367 rfl)
      have k3378 : H3362 x 9 = H x 9 := (f3367 x 9 _ gx rfl)
      have k3379 : H3362 m 6 = H m 6 := (f3367 m 6 _ gm rfl)
      have k3380 : H3362 x 11 = H x 11 := (f3367 x 11 _ gx rfl)
      have k3381 : H3362 m 13 = H m 13 := (f3367 m 13 _ gm rfl)
      have k3382 : H3362 x 8 = H x 8 := (f3367 x 8 _ gx rfl)
      have k3383 : H3362 m 3 = H m 3 := (f3367 m 3 _ gm rfl)
      refine wl_of hX hb cL_1309 (xc_V (pc' := 1312) (r := m) (as := [vI (H3362 0 ((i + 1).toNat)), vI 0]) (st := []) (lm_11_170) rfl rfl (Nat.le_of_ble_eq_true rfl) w3366 gm sh_42 (by decide) rfl (by decide) (s_279 w3366 gm ⟨by omega, by omega⟩ ⟨by decide, by decide⟩ (by omega)) (fun R3384 T3385 H3386 p3387 => ?_))
      obtain ⟨e3388, w3390, f3391, z3393, e3389, b3394, p3392⟩ := p3387
      subst e3388
      subst e3389
      show WL _ _ _ _ 1312 [(4, vI i), (3, .ref o), (2, .ref m), (1, .ref x), (0, .ref 0)] [vI z3393] _ H3386
      refine wl_of hX hb cL_1312 (rw_pop (pc' := 1313) rfl rfl ?_)
      refine wl_of hX hb cL_1313 (rw_goto (p1 := 1653) (by decide) ?_)
      have k3395 : H3386 x 9 = H3362 x 9 := (f3391 x 9 _ gx rfl)
      have k3396 : H3386 m 6 = H3362 m 6 := (f3391 m 6 _ gm rfl)
      have k3397 : H3386 x 11 = H3362 x 11 := (f3391 x 11 _ gx rfl)
      have k3398 : H3386 m 13 = H3362 m 13 := (f3391 m 13 _ gm rfl)
      have k3399 : H3386 x 8 = H3362 x 8 := (f3391 x 8 _ gx rfl)
      have k3400 : H3386 m 3 = H3362 m 3 := (f3391 m 3 _ gm rfl)
      have h3401 : XI T H3386 x m := (XI_fr w3366 gx f3391 rfl (XI_fr hW gx f3367 rfl hXI))
      exact WL.loc hX (by simp) (next T H3386 ⟨⟨w3390, g0, gx, gm, go, by omega, by omega⟩, h3401, by omega, by omega⟩ (by omega) (by omega))
    · exfalso
      omega
  · refine wl_of hX hb cL_1279 (rw_iconst (pc' := 1280) rfl ?_)
    refine wl_of hX hb cL_1280 (rw_goto (p1 := 1284) (by decide) ?_)
    refine wl_of hX hb cL_1284 (xc_V (pc' := 1287) (r := x) (as := [vI (H 0 ((i + 1).toNat)), vI 1]) (st := []) (lm_11_167) rfl rfl (Nat.le_of_ble_eq_true rfl) hW gx sh_1 (by decide) rfl (by decide) (s_146 hW gx ⟨by omega, by omega⟩ ⟨by decide, by decide⟩) (fun R3402 T3403 H3404 p3405 => ?_))
    obtain ⟨e3406, w3408, f3409, z3410, e3407, b3411⟩ := p3405
    subst e3406
    subst e3407
    show WL _ _ _ _ 1287 [(4, vI i), (3, .ref o), (2, .ref m), (1, .ref x), (0, .ref 0)] [vI z3410] _ H3404
    refine wl_of hX hb cL_1287 (rw_pop (pc' := 1288) rfl rfl ?_)
    refine wl_of hX hb cL_1288 (rw_aload_n (pc' := 1289) (v := .ref m) rfl rfl rfl ?_)
    refine wl_of hX hb cL_1289 (rw_aload_n (pc' := 1290) (v := .ref 0) rfl rfl rfl ?_)
    refine wl_of hX hb cL_1290 (rw_iload (pc' := 1292) (z := i) rfl rfl ?_)
    refine wl_of hX hb cL_1292 (rw_iconst (pc' := 1293) rfl ?_)
    refine wl_of hX hb cL_1293 (rw_iadd (pc' := 1294) rfl ?_)
    have k3414 : H3404 0 ((i + 1).toNat) = H 0 ((i + 1).toNat) := (f3409 0 ((i + 1).toNat) _ g0 (wmem_s rfl))
    refine wl_of hX hb cL_1294 (xa_I (so := 0) (pc' := 1295) (a := 0) w3408 g0 (wsh_s _) (by omega) (wty_s _ _) (by omega) (by omega) rfl (fun b3412 b3413 => ?_))
    refine wl_of hX hb cL_1295 (rw_aload_n (pc' := 1296) (v := .ref 0) rfl rfl rfl ?_)
    refine wl_of hX hb cL_1296 (rw_iload (pc' := 1298) (z := i) rfl rfl ?_)
    refine wl_of hX hb cL_1298 (rw_iconst (pc' := 1299) rfl ?_)
    refine wl_of hX hb cL_1299 (rw_iadd (pc' := 1300) rfl ?_)
    have k3417 : H3404 0 ((i + 2).toNat) = H 0 ((i + 2).toNat) := (f3409 0 ((i + 2).toNat) _ g0 (wmem_s rfl))
    refine wl_of hX hb cL_1300 (xa_I (so := 0) (pc' := 1301) (a := 0) w3408 g0 (wsh_s _) (by omega) (wty_s _ _) (by omega) (by omega) rfl (fun b3415 b3416 => ?_))
    refine wl_of hX hb cL_1301 (rw_if_eq (p1 := 1308) (p2 := 1304) (by decide) rfl ⟨by omega, by omega⟩ (fun c3418 => ?_) (fun c3418 => ?_))
    · refine wl_of hX hb cL_1308 (rw_iconst (pc' := 1309) rfl ?_)
      have k3419 : wKI H3404 m = wKI H m := (wKI_fr hW gm f3409 rfl)
      have k3420 : H3404 x 9 = H x 9 := (f3409 x 9 _ gx rfl)
      have k3421 : H3404 m 6 = H m 6 := (f3409 m 6 _ gm rfl)
      have k3422 : H3404 x 11 = H x 11 := (f3409 x 11 _ gx rfl)
      have k3423 : H3404 m 13 = H m 13 := (f3409 m 13 _ gm rfl)
      have k3424 : H3404 x 8 = H x 8 := (f3409 x 8 _ gx rfl)
      have k3425 : H3404 m 3 = H m 3 := (f3409 m 3 _ gm rfl)
      refine wl_of hX hb cL_1309 (xc_V (pc' := 1312) (r := m) (as := [vI (H3404 0 ((i + 1).toNat)), vI 0]) (st := []) (lm_11_170) rfl rfl (Nat.le_of_ble_eq_true rfl) w3408 gm sh_42 (by decide) rfl (by decide) (s_279 w3408 gm ⟨by omega, by omega⟩ ⟨by decide, by decide⟩ (by omega)) (fun R3426 T3427 H3428 p3429 => ?_))
      obtain ⟨e3430, w3432, f3433, z3435, e3431, b3436, p3434⟩ := p3429
      subst e3430
      subst e3431
      show WL _ _ _ _ 1312 [(4, vI i), (3, .ref o), (2, .ref m), (1, .ref x), (0, .ref 0)] [vI z3435] _ H3428
      refine wl_of hX hb cL_1312 (rw_pop (pc' := 1313) rfl rfl ?_)
      refine wl_of hX hb cL_1313 (rw_goto (p1 := 1653) (by decide) ?_)
      have k3437 : H3428 x 9 = H3404 x 9 := (f3433 x 9 _ gx rfl)
      have k3438 : H3428 m 6 = H3404 m 6 := (f3433 m 6 _ gm rfl)
      have k3439 : H3428 x 11 = H3404 x 11 := (f3433 x 11 _ gx rfl)
      have k3440 : H3428 m 13 = H3404 m 13 := (f3433 m 13 _ gm rfl)
      have k3441 : H3428 x 8 = H3404 x 8 := (f3433 x 8 _ gx rfl)
      have k3442 : H3428 m 3 = H3404 m 3 := (f3433 m 3 _ gm rfl)
      have h3443 : XI T H3428 x m := (XI_fr w3408 gx f3433 rfl (XI_fr hW gx f3409 rfl hXI))
      exact WL.loc hX (by simp) (next T H3428 ⟨⟨w3432, g0, gx, gm, go, by omega, by omega⟩, h3443, by omega, by omega⟩ (by omega) (by omega))
    · refine wl_of hX hb cL_1304 (rw_iconst (pc' := 1305) rfl ?_)
      refine wl_of hX hb cL_1305 (rw_goto (p1 := 1309) (by decide) ?_)
      have k3444 : wKI H3404 m = wKI H m := (wKI_fr hW gm f3409 rfl)
      have k3445 : H3404 x 9 = H x 9 := (f3409 x 9 _ gx rfl)
      have k3446 : H3404 m 6 = H m 6 := (f3409 m 6 _ gm rfl)
      have k3447 : H3404 x 11 = H x 11 := (f3409 x 11 _ gx rfl)
      have k3448 : H3404 m 13 = H m 13 := (f3409 m 13 _ gm rfl)
      have k3449 : H3404 x 8 = H x 8 := (f3409 x 8 _ gx rfl)
      have k3450 : H3404 m 3 = H m 3 := (f3409 m 3 _ gm rfl)
      refine wl_of hX hb cL_1309 (xc_V (pc' := 1312) (r := m) (as := [vI (H3404 0 ((i + 1).toNat)), vI 1]) (st := []) (lm_11_170) rfl rfl (Nat.le_of_ble_eq_true rfl) w3408 gm sh_42 (by decide) rfl (by decide) (s_279 w3408 gm ⟨by omega, by omega⟩ ⟨by decide, by decide⟩ (by omega)) (fun R3451 T3452 H3453 p3454 => ?_))
      obtain ⟨e3455, w3457, f3458, z3460, e3456, b3461, p3459⟩ := p3454
      subst e3455
      subst e3456
      show WL _ _ _ _ 1312 [(4, vI i), (3, .ref o), (2, .ref m), (1, .ref x), (0, .ref 0)] [vI z3460] _ H3453
      refine wl_of hX hb cL_1312 (rw_pop (pc' := 1313) rfl rfl ?_)
      refine wl_of hX hb cL_1313 (rw_goto (p1 := 1653) (by decide) ?_)
      have k3462 : H3453 x 9 = H3404 x 9 := (f3458 x 9 _ gx rfl)
      have k3463 : H3453 m 6 = H3404 m 6 := (f3458 m 6 _ gm rfl)
      have k3464 : H3453 x 11 = H3404 x 11 := (f3458 x 11 _ gx rfl)
      have k3465 : H3453 m 13 = H3404 m 13 := (f3458 m 13 _ gm rfl)
      have k3466 : H3453 x 8 = H3404 x 8 := (f3458 x 8 _ gx rfl)
      have k3467 : H3453 m 3 = H3404 m 3 := (f3458 m 3 _ gm rfl)
      have h3468 : XI T H3453 x m := (XI_fr w3408 gx f3458 rfl (XI_fr hW gx f3409 rfl hXI))
      exact WL.loc hX (by simp) (next T H3453 ⟨⟨w3457, g0, gx, gm, go, by omega, by omega⟩, h3468, by omega, by omega⟩ (by omega) (by omega))
set_option maxHeartbeats 4000000 in
theorem wl_c36 {kt : Nat → Option mc_E} {CB SB : Nat} {X : mc_S → Prop} {T : wq_T} {H : wq_H} {Len x m o : Nat} {i : Int} (hX : wlX kt CB SB X) (hb : T.2.1 ≤ CB ∧ T.2.2.1 ≤ SB) (hI : wlJ Len x m o T H) (hL : Len ≤ 3072) (hi : 0 ≤ i ∧ i + 6 ≤ Len) (hb2 : T.2.1 + 20 ≤ CB ∧ T.2.2.1 + 500 ≤ SB)  (next : ∀ T' H', wlJ Len x m o T' H' → T'.2.1 ≤ T.2.1 + 20 → T'.2.2.1 ≤ T.2.2.1 + 500 → WL kt CB SB X 1653 (wlL i x m o) [] T' H') : WL kt CB SB X 1316 (wlL i x m o) [] T H := by
  obtain ⟨⟨hW, g0, gx, gm, go, hK, hr⟩, hXI, hY1, hY2⟩ := hI
  refine wl_of hX hb cL_1316 (rw_aload_n (pc' := 1317) (v := .ref x) rfl rfl rfl ?_)
  refine wl_of hX hb cL_1317 (xc_V (pc' := 1320) (r := x) (as := []) (st := []) (lm_11_171) rfl rfl (Nat.le_of_ble_eq_true rfl) hW gx sh_1 (by decide) rfl (by decide) (s_147 hW gx) (fun R3469 T3470 H3471 p3472 => ?_))
  obtain ⟨e3473, w3475, f3476, z3477, e3474, b3478⟩ := p3472
  subst e3473
  subst e3474
  show WL _ _ _ _ 1320 [(4, vI i), (3, .ref o), (2, .ref m), (1, .ref x), (0, .ref 0)] [vI z3477] _ H3471
  refine wl_of hX hb cL_1320 (rw_pop (pc' := 1321) rfl rfl ?_)
  refine wl_of hX hb cL_1321 (rw_aload_n (pc' := 1322) (v := .ref m) rfl rfl rfl ?_)
  have k3479 : wKI H3471 m = wKI H m := (wKI_fr hW gm f3476 rfl)
  have k3480 : H3471 x 9 = H x 9 := (f3476 x 9 _ gx rfl)
  have k3481 : H3471 m 6 = H m 6 := (f3476 m 6 _ gm rfl)
  have k3482 : H3471 x 11 = H x 11 := (f3476 x 11 _ gx rfl)
  have k3483 : H3471 m 13 = H m 13 := (f3476 m 13 _ gm rfl)
  have k3484 : H3471 x 8 = H x 8 := (f3476 x 8 _ gx rfl)
  have k3485 : H3471 m 3 = H m 3 := (f3476 m 3 _ gm rfl)
  refine wl_of hX hb cL_1322 (xc_V (pc' := 1325) (r := m) (as := []) (st := []) (lm_11_174) rfl rfl (Nat.le_of_ble_eq_true rfl) w3475 gm sh_42 (by decide) rfl (by decide) (s_282 w3475 gm (by omega)) (fun R3486 T3487 H3488 p3489 => ?_))
  obtain ⟨e3490, w3492, f3493, z3495, e3491, b3496, p3494⟩ := p3489
  subst e3490
  subst e3491
  show WL _ _ _ _ 1325 [(4, vI i), (3, .ref o), (2, .ref m), (1, .ref x), (0, .ref 0)] [vI z3495] _ H3488
  refine wl_of hX hb cL_1325 (rw_pop (pc' := 1326) rfl rfl ?_)
  refine wl_of hX hb cL_1326 (rw_goto (p1 := 1653) (by decide) ?_)
  have k3497 : H3488 x 9 = H3471 x 9 := (f3493 x 9 _ gx rfl)
  have k3498 : H3488 m 6 = H3471 m 6 := (f3493 m 6 _ gm rfl)
  have k3499 : H3488 x 11 = H3471 x 11 := (f3493 x 11 _ gx rfl)
  have k3500 : H3488 m 13 = H3471 m 13 := (f3493 m 13 _ gm rfl)
  have k3501 : H3488 x 8 = H3471 x 8 := (f3493 x 8 _ gx rfl)
  have k3502 : H3488 m 3 = H3471 m 3 := (f3493 m 3 _ gm rfl)
  have h3503 : XI T H3488 x m := (XI_fr w3475 gx f3493 rfl (XI_fr hW gx f3476 rfl hXI))
  exact WL.loc hX (by simp) (next T H3488 ⟨⟨w3492, g0, gx, gm, go, by omega, by omega⟩, h3503, by omega, by omega⟩ (by omega) (by omega))
set_option maxHeartbeats 4000000 in
theorem wl_c37 {kt : Nat → Option mc_E} {CB SB : Nat} {X : mc_S → Prop} {T : wq_T} {H : wq_H} {Len x m o : Nat} {i : Int} (hX : wlX kt CB SB X) (hb : T.2.1 ≤ CB ∧ T.2.2.1 ≤ SB) (hI : wlJ Len x m o T H) (hL : Len ≤ 3072) (hi : 0 ≤ i ∧ i + 6 ≤ Len) (hb2 : T.2.1 + 20 ≤ CB ∧ T.2.2.1 + 500 ≤ SB)  (next : ∀ T' H', wlJ Len x m o T' H' → T'.2.1 ≤ T.2.1 + 20 → T'.2.2.1 ≤ T.2.2.1 + 500 → WL kt CB SB X 1653 (wlL i x m o) [] T' H') : WL kt CB SB X 1329 (wlL i x m o) [] T H := by
  obtain ⟨⟨hW, g0, gx, gm, go, hK, hr⟩, hXI, hY1, hY2⟩ := hI
  refine wl_of hX hb cL_1329 (rw_aload_n (pc' := 1330) (v := .ref x) rfl rfl rfl ?_)
  refine wl_of hX hb cL_1330 (xc_V (pc' := 1333) (r := x) (as := []) (st := []) (lm_11_175) rfl rfl (Nat.le_of_ble_eq_true rfl) hW gx sh_1 (by decide) rfl (by decide) (s_149 hW gx) (fun R3504 T3505 H3506 p3507 => ?_))
  obtain ⟨e3508, w3510, f3511, z3512, e3509, b3513⟩ := p3507
  subst e3508
  subst e3509
  show WL _ _ _ _ 1333 [(4, vI i), (3, .ref o), (2, .ref m), (1, .ref x), (0, .ref 0)] [vI z3512] _ H3506
  refine wl_of hX hb cL_1333 (rw_pop (pc' := 1334) rfl rfl ?_)
  refine wl_of hX hb cL_1334 (rw_aload_n (pc' := 1335) (v := .ref m) rfl rfl rfl ?_)
  have k3514 : wKI H3506 m = wKI H m := (wKI_fr hW gm f3511 rfl)
  have k3515 : H3506 x 9 = H x 9 := (f3511 x 9 _ gx rfl)
  have k3516 : H3506 m 6 = H m 6 := (f3511 m 6 _ gm rfl)
  have k3517 : H3506 x 11 = H x 11 := (f3511 x 11 _ gx rfl)
  have k3518 : H3506 m 13 = H m 13 := (f3511 m 13 _ gm rfl)
  have k3519 : H3506 x 8 = H x 8 := (f3511 x 8 _ gx rfl)
  have k3520 : H3506 m 3 = H m 3 := (f3511 m 3 _ gm rfl)
  refine wl_of hX hb cL_1335 (xc_V (pc' := 1338) (r := m) (as := []) (st := []) (lm_11_178) rfl rfl (Nat.le_of_ble_eq_true rfl) w3510 gm sh_42 (by decide) rfl (by decide) (s_283 w3510 gm (by omega)) (fun R3521 T3522 H3523 p3524 => ?_))
  obtain ⟨e3525, w3527, f3528, z3530, e3526, b3531, p3529⟩ := p3524
  subst e3525
  subst e3526
  show WL _ _ _ _ 1338 [(4, vI i), (3, .ref o), (2, .ref m), (1, .ref x), (0, .ref 0)] [vI z3530] _ H3523
  refine wl_of hX hb cL_1338 (rw_pop (pc' := 1339) rfl rfl ?_)
  refine wl_of hX hb cL_1339 (rw_goto (p1 := 1653) (by decide) ?_)
  have k3532 : H3523 x 9 = H3506 x 9 := (f3528 x 9 _ gx rfl)
  have k3533 : H3523 m 6 = H3506 m 6 := (f3528 m 6 _ gm rfl)
  have k3534 : H3523 x 11 = H3506 x 11 := (f3528 x 11 _ gx rfl)
  have k3535 : H3523 m 13 = H3506 m 13 := (f3528 m 13 _ gm rfl)
  have k3536 : H3523 x 8 = H3506 x 8 := (f3528 x 8 _ gx rfl)
  have k3537 : H3523 m 3 = H3506 m 3 := (f3528 m 3 _ gm rfl)
  have h3538 : XI T H3523 x m := (XI_fr w3510 gx f3528 rfl (XI_fr hW gx f3511 rfl hXI))
  exact WL.loc hX (by simp) (next T H3523 ⟨⟨w3527, g0, gx, gm, go, by omega, by omega⟩, h3538, by omega, by omega⟩ (by omega) (by omega))
