/-! THE LAW, GONE ON WITH (own work) -/
set_option maxHeartbeats 4000000 in
theorem wl_c9 {kt : Nat → Option mc_E} {CB SB : Nat} {X : mc_S → Prop} {T : wq_T} {H : wq_H} {Len x m o : Nat} {i : Int} (hX : wlX kt CB SB X) (hb : T.2.1 ≤ CB ∧ T.2.2.1 ≤ SB) (hI : wlJ Len x m o T H) (hL : Len ≤ 3072) (hi : 0 ≤ i ∧ i + 6 ≤ Len) (hb2 : T.2.1 + 20 ≤ CB ∧ T.2.2.1 + 500 ≤ SB)  (next : ∀ T' H', wlJ Len x m o T' H' → T'.2.1 ≤ T.2.1 + 20 → T'.2.2.1 ≤ T.2.2.1 + 500 → WL kt CB SB X 1653 (wlL i x m o) [] T' H') : WL kt CB SB X 553 (wlL i x m o) [] T H := by
  obtain ⟨⟨hW, g0, gx, gm, go, hK, hr⟩, hXI, hY1, hY2⟩ := hI
  refine wl_of hX hb cL_553 (rw_aload_n (pc' := 554) (v := .ref x) rfl rfl rfl ?_)
  refine wl_of hX hb cL_554 (rw_aload_n (pc' := 555) (v := .ref 0) rfl rfl rfl ?_)
  refine wl_of hX hb cL_555 (rw_iload (pc' := 557) (z := i) rfl rfl ?_)
  refine wl_of hX hb cL_557 (rw_iconst (pc' := 558) rfl ?_)
  refine wl_of hX hb cL_558 (rw_iadd (pc' := 559) rfl ?_)
  refine wl_of hX hb cL_559 (xa_I (so := 0) (pc' := 560) (a := 0) hW g0 (wsh_s _) (by omega) (wty_s _ _) (by omega) (by omega) rfl (fun b1958 b1959 => ?_))
  refine wl_of hX hb cL_560 (xc_V (pc' := 563) (r := x) (as := [vI (H 0 ((i + 1).toNat))]) (st := []) (lm_11_60) rfl rfl (Nat.le_of_ble_eq_true rfl) hW gx sh_1 (by decide) rfl (by decide) (s_65 hW gx ⟨by omega, by omega⟩) (fun R1960 T1961 H1962 p1963 => ?_))
  obtain ⟨e1964, w1966, f1967, z1968, e1965, b1969⟩ := p1963
  subst e1964
  subst e1965
  show WL _ _ _ _ 563 [(4, vI i), (3, .ref o), (2, .ref m), (1, .ref x), (0, .ref 0)] [vI z1968] _ H1962
  refine wl_of hX hb cL_563 (rw_pop (pc' := 564) rfl rfl ?_)
  refine wl_of hX hb cL_564 (rw_aload_n (pc' := 565) (v := .ref m) rfl rfl rfl ?_)
  refine wl_of hX hb cL_565 (rw_aload_n (pc' := 566) (v := .ref 0) rfl rfl rfl ?_)
  refine wl_of hX hb cL_566 (rw_iload (pc' := 568) (z := i) rfl rfl ?_)
  refine wl_of hX hb cL_568 (rw_iconst (pc' := 569) rfl ?_)
  refine wl_of hX hb cL_569 (rw_iadd (pc' := 570) rfl ?_)
  have k1972 : H1962 0 ((i + 1).toNat) = H 0 ((i + 1).toNat) := (f1967 0 ((i + 1).toNat) _ g0 (wmem_s rfl))
  refine wl_of hX hb cL_570 (xa_I (so := 0) (pc' := 571) (a := 0) w1966 g0 (wsh_s _) (by omega) (wty_s _ _) (by omega) (by omega) rfl (fun b1970 b1971 => ?_))
  have k1973 : wKI H1962 m = wKI H m := (wKI_fr hW gm f1967 rfl)
  have k1974 : H1962 x 9 = H x 9 := (f1967 x 9 _ gx rfl)
  have k1975 : H1962 m 6 = H m 6 := (f1967 m 6 _ gm rfl)
  have k1976 : H1962 x 11 = H x 11 := (f1967 x 11 _ gx rfl)
  have k1977 : H1962 m 13 = H m 13 := (f1967 m 13 _ gm rfl)
  have k1978 : H1962 x 8 = H x 8 := (f1967 x 8 _ gx rfl)
  have k1979 : H1962 m 3 = H m 3 := (f1967 m 3 _ gm rfl)
  refine wl_of hX hb cL_571 (xc_V (pc' := 574) (r := m) (as := [vI (H1962 0 ((i + 1).toNat))]) (st := []) (lm_11_63) rfl rfl (Nat.le_of_ble_eq_true rfl) w1966 gm sh_42 (by decide) rfl (by decide) (s_225 w1966 gm ⟨by omega, by omega⟩ (by omega)) (fun R1980 T1981 H1982 p1983 => ?_))
  obtain ⟨e1984, w1986, f1987, z1989, e1985, b1990, p1988⟩ := p1983
  subst e1984
  subst e1985
  show WL _ _ _ _ 574 [(4, vI i), (3, .ref o), (2, .ref m), (1, .ref x), (0, .ref 0)] [vI z1989] _ H1982
  refine wl_of hX hb cL_574 (rw_pop (pc' := 575) rfl rfl ?_)
  refine wl_of hX hb cL_575 (rw_goto (p1 := 1653) (by decide) ?_)
  have k1991 : H1982 x 9 = H1962 x 9 := (f1987 x 9 _ gx rfl)
  have k1992 : H1982 m 6 = H1962 m 6 := (f1987 m 6 _ gm rfl)
  have k1993 : H1982 x 11 = H1962 x 11 := (f1987 x 11 _ gx rfl)
  have k1994 : H1982 m 13 = H1962 m 13 := (f1987 m 13 _ gm rfl)
  have k1995 : H1982 x 8 = H1962 x 8 := (f1987 x 8 _ gx rfl)
  have k1996 : H1982 m 3 = H1962 m 3 := (f1987 m 3 _ gm rfl)
  have h1997 : XI T H1982 x m := (XI_fr w1966 gx f1987 rfl (XI_fr hW gx f1967 rfl hXI))
  exact WL.loc hX (by simp) (next T H1982 ⟨⟨w1986, g0, gx, gm, go, by omega, by omega⟩, h1997, by omega, by omega⟩ (by omega) (by omega))
set_option maxHeartbeats 4000000 in
theorem wl_c10 {kt : Nat → Option mc_E} {CB SB : Nat} {X : mc_S → Prop} {T : wq_T} {H : wq_H} {Len x m o : Nat} {i : Int} (hX : wlX kt CB SB X) (hb : T.2.1 ≤ CB ∧ T.2.2.1 ≤ SB) (hI : wlJ Len x m o T H) (hL : Len ≤ 3072) (hi : 0 ≤ i ∧ i + 6 ≤ Len) (hb2 : T.2.1 + 20 ≤ CB ∧ T.2.2.1 + 500 ≤ SB)  (next : ∀ T' H', wlJ Len x m o T' H' → T'.2.1 ≤ T.2.1 + 20 → T'.2.2.1 ≤ T.2.2.1 + 500 → WL kt CB SB X 1653 (wlL i x m o) [] T' H') : WL kt CB SB X 578 (wlL i x m o) [] T H := by
  obtain ⟨⟨hW, g0, gx, gm, go, hK, hr⟩, hXI, hY1, hY2⟩ := hI
  refine wl_of hX hb cL_578 (rw_aload_n (pc' := 579) (v := .ref x) rfl rfl rfl ?_)
  refine wl_of hX hb cL_579 (rw_aload_n (pc' := 580) (v := .ref 0) rfl rfl rfl ?_)
  refine wl_of hX hb cL_580 (rw_iload (pc' := 582) (z := i) rfl rfl ?_)
  refine wl_of hX hb cL_582 (rw_iconst (pc' := 583) rfl ?_)
  refine wl_of hX hb cL_583 (rw_iadd (pc' := 584) rfl ?_)
  refine wl_of hX hb cL_584 (xa_I (so := 0) (pc' := 585) (a := 0) hW g0 (wsh_s _) (by omega) (wty_s _ _) (by omega) (by omega) rfl (fun b1998 b1999 => ?_))
  refine wl_of hX hb cL_585 (xc_V (pc' := 588) (r := x) (as := [vI (H 0 ((i + 1).toNat))]) (st := []) (lm_11_64) rfl rfl (Nat.le_of_ble_eq_true rfl) hW gx sh_1 (by decide) rfl (by decide) (s_66 hW gx ⟨by omega, by omega⟩) (fun R2000 T2001 H2002 p2003 => ?_))
  obtain ⟨e2004, w2006, f2007, z2008, e2005, b2009⟩ := p2003
  subst e2004
  subst e2005
  show WL _ _ _ _ 588 [(4, vI i), (3, .ref o), (2, .ref m), (1, .ref x), (0, .ref 0)] [vI z2008] _ H2002
  refine wl_of hX hb cL_588 (rw_pop (pc' := 589) rfl rfl ?_)
  refine wl_of hX hb cL_589 (rw_aload_n (pc' := 590) (v := .ref m) rfl rfl rfl ?_)
  refine wl_of hX hb cL_590 (rw_aload_n (pc' := 591) (v := .ref 0) rfl rfl rfl ?_)
  refine wl_of hX hb cL_591 (rw_iload (pc' := 593) (z := i) rfl rfl ?_)
  refine wl_of hX hb cL_593 (rw_iconst (pc' := 594) rfl ?_)
  refine wl_of hX hb cL_594 (rw_iadd (pc' := 595) rfl ?_)
  have k2012 : H2002 0 ((i + 1).toNat) = H 0 ((i + 1).toNat) := (f2007 0 ((i + 1).toNat) _ g0 (wmem_s rfl))
  refine wl_of hX hb cL_595 (xa_I (so := 0) (pc' := 596) (a := 0) w2006 g0 (wsh_s _) (by omega) (wty_s _ _) (by omega) (by omega) rfl (fun b2010 b2011 => ?_))
  have k2013 : wKI H2002 m = wKI H m := (wKI_fr hW gm f2007 rfl)
  have k2014 : H2002 x 9 = H x 9 := (f2007 x 9 _ gx rfl)
  have k2015 : H2002 m 6 = H m 6 := (f2007 m 6 _ gm rfl)
  have k2016 : H2002 x 11 = H x 11 := (f2007 x 11 _ gx rfl)
  have k2017 : H2002 m 13 = H m 13 := (f2007 m 13 _ gm rfl)
  have k2018 : H2002 x 8 = H x 8 := (f2007 x 8 _ gx rfl)
  have k2019 : H2002 m 3 = H m 3 := (f2007 m 3 _ gm rfl)
  refine wl_of hX hb cL_596 (xc_V (pc' := 599) (r := m) (as := [vI (H2002 0 ((i + 1).toNat))]) (st := []) (lm_11_67) rfl rfl (Nat.le_of_ble_eq_true rfl) w2006 gm sh_42 (by decide) rfl (by decide) (s_226 w2006 gm ⟨by omega, by omega⟩ (by omega)) (fun R2020 T2021 H2022 p2023 => ?_))
  obtain ⟨e2024, w2026, f2027, z2029, e2025, b2030, p2028⟩ := p2023
  subst e2024
  subst e2025
  show WL _ _ _ _ 599 [(4, vI i), (3, .ref o), (2, .ref m), (1, .ref x), (0, .ref 0)] [vI z2029] _ H2022
  refine wl_of hX hb cL_599 (rw_pop (pc' := 600) rfl rfl ?_)
  refine wl_of hX hb cL_600 (rw_goto (p1 := 1653) (by decide) ?_)
  have k2031 : H2022 x 9 = H2002 x 9 := (f2027 x 9 _ gx rfl)
  have k2032 : H2022 m 6 = H2002 m 6 := (f2027 m 6 _ gm rfl)
  have k2033 : H2022 x 11 = H2002 x 11 := (f2027 x 11 _ gx rfl)
  have k2034 : H2022 m 13 = H2002 m 13 := (f2027 m 13 _ gm rfl)
  have k2035 : H2022 x 8 = H2002 x 8 := (f2027 x 8 _ gx rfl)
  have k2036 : H2022 m 3 = H2002 m 3 := (f2027 m 3 _ gm rfl)
  have h2037 : XI T H2022 x m := (XI_fr w2006 gx f2027 rfl (XI_fr hW gx f2007 rfl hXI))
  exact WL.loc hX (by simp) (next T H2022 ⟨⟨w2026, g0, gx, gm, go, by omega, by omega⟩, h2037, by omega, by omega⟩ (by omega) (by omega))
set_option maxHeartbeats 4000000 in
theorem wl_c11 {kt : Nat → Option mc_E} {CB SB : Nat} {X : mc_S → Prop} {T : wq_T} {H : wq_H} {Len x m o : Nat} {i : Int} (hX : wlX kt CB SB X) (hb : T.2.1 ≤ CB ∧ T.2.2.1 ≤ SB) (hI : wlJ Len x m o T H) (hL : Len ≤ 3072) (hi : 0 ≤ i ∧ i + 6 ≤ Len) (hb2 : T.2.1 + 20 ≤ CB ∧ T.2.2.1 + 500 ≤ SB)  (next : ∀ T' H', wlJ Len x m o T' H' → T'.2.1 ≤ T.2.1 + 20 → T'.2.2.1 ≤ T.2.2.1 + 500 → WL kt CB SB X 1653 (wlL i x m o) [] T' H') : WL kt CB SB X 603 (wlL i x m o) [] T H := by
  obtain ⟨⟨hW, g0, gx, gm, go, hK, hr⟩, hXI, hY1, hY2⟩ := hI
  refine wl_of hX hb cL_603 (rw_aload_n (pc' := 604) (v := .ref x) rfl rfl rfl ?_)
  refine wl_of hX hb cL_604 (xc_V (pc' := 607) (r := x) (as := []) (st := []) (lm_11_68) rfl rfl (Nat.le_of_ble_eq_true rfl) hW gx sh_1 (by decide) rfl (by decide) (s_73 hW gx) (fun R2038 T2039 H2040 p2041 => ?_))
  obtain ⟨e2042, w2044, f2045, z2046, e2043, b2047⟩ := p2041
  subst e2042
  subst e2043
  show WL _ _ _ _ 607 [(4, vI i), (3, .ref o), (2, .ref m), (1, .ref x), (0, .ref 0)] [vI z2046] _ H2040
  refine wl_of hX hb cL_607 (rw_pop (pc' := 608) rfl rfl ?_)
  refine wl_of hX hb cL_608 (rw_aload_n (pc' := 609) (v := .ref m) rfl rfl rfl ?_)
  have k2048 : wKI H2040 m = wKI H m := (wKI_fr hW gm f2045 rfl)
  have k2049 : H2040 x 9 = H x 9 := (f2045 x 9 _ gx rfl)
  have k2050 : H2040 m 6 = H m 6 := (f2045 m 6 _ gm rfl)
  have k2051 : H2040 x 11 = H x 11 := (f2045 x 11 _ gx rfl)
  have k2052 : H2040 m 13 = H m 13 := (f2045 m 13 _ gm rfl)
  have k2053 : H2040 x 8 = H x 8 := (f2045 x 8 _ gx rfl)
  have k2054 : H2040 m 3 = H m 3 := (f2045 m 3 _ gm rfl)
  refine wl_of hX hb cL_609 (xc_V (pc' := 612) (r := m) (as := []) (st := []) (lm_11_71) rfl rfl (Nat.le_of_ble_eq_true rfl) w2044 gm sh_42 (by decide) rfl (by decide) (s_230 w2044 gm (by omega)) (fun R2055 T2056 H2057 p2058 => ?_))
  obtain ⟨e2059, w2061, f2062, z2064, e2060, b2065, p2063⟩ := p2058
  subst e2059
  subst e2060
  show WL _ _ _ _ 612 [(4, vI i), (3, .ref o), (2, .ref m), (1, .ref x), (0, .ref 0)] [vI z2064] _ H2057
  refine wl_of hX hb cL_612 (rw_pop (pc' := 613) rfl rfl ?_)
  refine wl_of hX hb cL_613 (rw_goto (p1 := 1653) (by decide) ?_)
  have k2066 : H2057 x 9 = H2040 x 9 := (f2062 x 9 _ gx rfl)
  have k2067 : H2057 m 6 = H2040 m 6 := (f2062 m 6 _ gm rfl)
  have k2068 : H2057 x 11 = H2040 x 11 := (f2062 x 11 _ gx rfl)
  have k2069 : H2057 m 13 = H2040 m 13 := (f2062 m 13 _ gm rfl)
  have k2070 : H2057 x 8 = H2040 x 8 := (f2062 x 8 _ gx rfl)
  have k2071 : H2057 m 3 = H2040 m 3 := (f2062 m 3 _ gm rfl)
  have h2072 : XI T H2057 x m := (XI_fr w2044 gx f2062 rfl (XI_fr hW gx f2045 rfl hXI))
  exact WL.loc hX (by simp) (next T H2057 ⟨⟨w2061, g0, gx, gm, go, by omega, by omega⟩, h2072, by omega, by omega⟩ (by omega) (by omega))
set_option maxHeartbeats 4000000 in
theorem wl_c12 {kt : Nat → Option mc_E} {CB SB : Nat} {X : mc_S → Prop} {T : wq_T} {H : wq_H} {Len x m o : Nat} {i : Int} (hX : wlX kt CB SB X) (hb : T.2.1 ≤ CB ∧ T.2.2.1 ≤ SB) (hI : wlJ Len x m o T H) (hL : Len ≤ 3072) (hi : 0 ≤ i ∧ i + 6 ≤ Len) (hb2 : T.2.1 + 20 ≤ CB ∧ T.2.2.1 + 500 ≤ SB)  (next : ∀ T' H', wlJ Len x m o T' H' → T'.2.1 ≤ T.2.1 + 20 → T'.2.2.1 ≤ T.2.2.1 + 500 → WL kt CB SB X 1653 (wlL i x m o) [] T' H') : WL kt CB SB X 616 (wlL i x m o) [] T H := by
  obtain ⟨⟨hW, g0, gx, gm, go, hK, hr⟩, hXI, hY1, hY2⟩ := hI
  refine wl_of hX hb cL_616 (rw_aload_n (pc' := 617) (v := .ref x) rfl rfl rfl ?_)
  refine wl_of hX hb cL_617 (xc_V (pc' := 620) (r := x) (as := []) (st := []) (lm_11_72) rfl rfl (Nat.le_of_ble_eq_true rfl) hW gx sh_1 (by decide) rfl (by decide) (s_77 hW gx) (fun R2073 T2074 H2075 p2076 => ?_))
  obtain ⟨e2077, w2079, f2080, z2081, e2078, b2082⟩ := p2076
  subst e2077
  subst e2078
  show WL _ _ _ _ 620 [(4, vI i), (3, .ref o), (2, .ref m), (1, .ref x), (0, .ref 0)] [vI z2081] _ H2075
  refine wl_of hX hb cL_620 (rw_pop (pc' := 621) rfl rfl ?_)
  refine wl_of hX hb cL_621 (rw_aload_n (pc' := 622) (v := .ref m) rfl rfl rfl ?_)
  have k2083 : wKI H2075 m = wKI H m := (wKI_fr hW gm f2080 rfl)
  have k2084 : H2075 x 9 = H x 9 := (f2080 x 9 _ gx rfl)
  have k2085 : H2075 m 6 = H m 6 := (f2080 m 6 _ gm rfl)
  have k2086 : H2075 x 11 = H x 11 := (f2080 x 11 _ gx rfl)
  have k2087 : H2075 m 13 = H m 13 := (f2080 m 13 _ gm rfl)
  have k2088 : H2075 x 8 = H x 8 := (f2080 x 8 _ gx rfl)
  have k2089 : H2075 m 3 = H m 3 := (f2080 m 3 _ gm rfl)
  refine wl_of hX hb cL_622 (xc_V (pc' := 625) (r := m) (as := []) (st := []) (lm_11_75) rfl rfl (Nat.le_of_ble_eq_true rfl) w2079 gm sh_42 (by decide) rfl (by decide) (s_236 w2079 gm (by omega)) (fun R2090 T2091 H2092 p2093 => ?_))
  obtain ⟨e2094, w2096, f2097, z2099, e2095, b2100, p2098⟩ := p2093
  subst e2094
  subst e2095
  show WL _ _ _ _ 625 [(4, vI i), (3, .ref o), (2, .ref m), (1, .ref x), (0, .ref 0)] [vI z2099] _ H2092
  refine wl_of hX hb cL_625 (rw_pop (pc' := 626) rfl rfl ?_)
  refine wl_of hX hb cL_626 (rw_goto (p1 := 1653) (by decide) ?_)
  have k2101 : H2092 x 9 = H2075 x 9 := (f2097 x 9 _ gx rfl)
  have k2102 : H2092 m 6 = H2075 m 6 := (f2097 m 6 _ gm rfl)
  have k2103 : H2092 x 11 = H2075 x 11 := (f2097 x 11 _ gx rfl)
  have k2104 : H2092 m 13 = H2075 m 13 := (f2097 m 13 _ gm rfl)
  have k2105 : H2092 x 8 = H2075 x 8 := (f2097 x 8 _ gx rfl)
  have k2106 : H2092 m 3 = H2075 m 3 := (f2097 m 3 _ gm rfl)
  have h2107 : XI T H2092 x m := (XI_fr w2079 gx f2097 rfl (XI_fr hW gx f2080 rfl hXI))
  exact WL.loc hX (by simp) (next T H2092 ⟨⟨w2096, g0, gx, gm, go, by omega, by omega⟩, h2107, by omega, by omega⟩ (by omega) (by omega))
set_option maxHeartbeats 4000000 in
theorem wl_c13 {kt : Nat → Option mc_E} {CB SB : Nat} {X : mc_S → Prop} {T : wq_T} {H : wq_H} {Len x m o : Nat} {i : Int} (hX : wlX kt CB SB X) (hb : T.2.1 ≤ CB ∧ T.2.2.1 ≤ SB) (hI : wlJ Len x m o T H) (hL : Len ≤ 3072) (hi : 0 ≤ i ∧ i + 6 ≤ Len) (hb2 : T.2.1 + 20 ≤ CB ∧ T.2.2.1 + 500 ≤ SB)  (next : ∀ T' H', wlJ Len x m o T' H' → T'.2.1 ≤ T.2.1 + 20 → T'.2.2.1 ≤ T.2.2.1 + 500 → WL kt CB SB X 1653 (wlL i x m o) [] T' H') : WL kt CB SB X 629 (wlL i x m o) [] T H := by
  obtain ⟨⟨hW, g0, gx, gm, go, hK, hr⟩, hXI, hY1, hY2⟩ := hI
  refine wl_of hX hb cL_629 (rw_aload_n (pc' := 630) (v := .ref x) rfl rfl rfl ?_)
  obtain ⟨B, tc, tm, cu, dr, C8, e8, d8, n8, g8, e0, gtc, htc, em, gtm, htm, ecu, gcu, edr, gdr, hcu, hdr, hdec, hded, hsp, hC1, hC2, hcu8, hrb8, hcg8, hmn8, hE, hZ, hn8, hXA, hV8, hSG, -⟩ := hXI
  have hN3 := RB_n3 hrb8
  have hE13 : ∀ h : Nat, h < 24 → 0 ≤ e8 13 h ∧ e8 13 h ≤ 100 := fun k hk => by
    obtain ⟨s, h1, h2, h3⟩ := hcu8.1.2.2.1
    exact ⟨(h3 k hk).1, (h3 k hk).2.1⟩
  have hXW := hXA.1
  have hXN := hXA.2
  have hE0 : e8 0 3 = d8 0 3 ∧ e8 0 0 = d8 0 0 := by
    have h := hE 0 (by decide)
    exact ⟨congrFun h 3, congrFun h 0⟩
  have u2108 := CU_k hcu8
  have h2109 : CY T H cu (d8 0 3) g8 (H cu 17) := ⟨hcg8, rfl⟩
  have h2110 : RY T H m (d8 0 3) g8 (H m 32) := ⟨hmn8, rfl⟩
  obtain ⟨t9, ht9⟩ : ∃ t : Int, t = H x 9 := ⟨_, rfl⟩
  obtain ⟨r2111, q2112, g2113⟩ := hW.ref gx (t' := 6) (n := 13) (j := 2) (p := 0) (q := 0) rfl (by decide) rfl
  refine wl_of hX hb cL_630 (xc_V (pc' := 633) (r := x) (as := []) (st := []) (lm_11_76) rfl rfl (Nat.le_of_ble_eq_true rfl) hW gx sh_1 (by decide) rfl (by decide) (u_78 (e := e8) (d := d8) (n := n8) (nY := ((d8 0 3))) (gY := g8) (cY := ((H cu 17))) hW gx ecu gcu q2112 g2113 (by assumption) (by assumption) (by omega) (by omega) (by omega) (by assumption) (by omega) hcu8 h2109) (fun R2114 T2115 H2116 p2117 => ?_))
  obtain ⟨e2118, w2120, f2121, z2122, e2119, b2123, p2124⟩ := p2117
  subst e2118
  subst e2119
  rcases p2124 with ⟨a2125, a2126⟩ | ⟨a2127, a2128, a2129⟩
  · show WL _ _ _ _ 633 [(4, vI i), (3, .ref o), (2, .ref m), (1, .ref x), (0, .ref 0)] [vI z2122] _ H2116
    refine wl_of hX hb cL_633 (rw_aload_n (pc' := 634) (v := .ref m) rfl rfl rfl ?_)
    have k2130 : wKI H2116 m = wKI H m := (wKI_fr hW gm f2121 rfl)
    have k2131 : H2116 x 9 = H x 9 := (f2121 x 9 _ gx rfl)
    have k2132 : H2116 m 6 = H m 6 := (f2121 m 6 _ gm rfl)
    have k2133 : H2116 x 11 = H x 11 := (f2121 x 11 _ gx rfl)
    have k2134 : H2116 m 13 = H m 13 := (f2121 m 13 _ gm rfl)
    have k2135 : H2116 x 8 = H x 8 := (f2121 x 8 _ gx rfl)
    have k2136 : H2116 m 3 = H m 3 := (f2121 m 3 _ gm rfl)
    have h2137 : RB T H2116 m e8 d8 := (RB_fr hW gm f2121 rfl hrb8)
    have h2138 : RY T H2116 m (d8 0 3) g8 (H m 32) := (RY_fr hW gm f2121 rfl h2110)
    refine wl_of hX hb cL_634 (xc_V (pc' := 637) (r := m) (as := []) (st := [vI z2122]) (lm_11_79) rfl rfl (Nat.le_of_ble_eq_true rfl) w2120 gm sh_42 (by decide) rfl (by decide) (u_237 (e := e8) (d := d8) (nY := ((d8 0 3))) (gY := g8) (cY := ((H m 32))) w2120 gm (by assumption) (by omega) (by assumption) (by assumption) (by assumption) (by assumption) h2137 h2138) (fun R2139 T2140 H2141 p2142 => ?_))
    obtain ⟨e2143, w2145, f2146, z2147, e2144, b2148, p2149⟩ := p2142
    subst e2143
    subst e2144
    rcases p2149 with ⟨a2150, a2151⟩ | ⟨a2152, a2153, a2154⟩
    · show WL _ _ _ _ 637 [(4, vI i), (3, .ref o), (2, .ref m), (1, .ref x), (0, .ref 0)] [vI z2147, vI z2122] _ H2141
      refine wl_of hX hb cL_637 (rw_icmp_eq (p1 := 1653) (p2 := 640) (by decide) rfl ⟨b2123.1, b2123.2⟩ ⟨b2148.1, b2148.2⟩ (fun c2155 => ?_) (fun c2155 => ?_))
      · have k2156 : wKI H2141 m = wKI H2116 m := (wKI_fr w2120 gm f2146 rfl)
        have k2157 : H2141 x 9 = H2116 x 9 := (f2146 x 9 _ gx rfl)
        have k2158 : H2141 m 6 = H2116 m 6 := (f2146 m 6 _ gm rfl)
        have k2159 : H2141 x 11 = H2116 x 11 := (f2146 x 11 _ gx rfl)
        have k2160 : H2141 m 13 = H2116 m 13 := (f2146 m 13 _ gm rfl)
        have k2161 : H2141 x 8 = H2116 x 8 := (f2146 x 8 _ gx rfl)
        have k2162 : H2141 m 3 = H2116 m 3 := (f2146 m 3 _ gm rfl)
        have k2163 : H2141 x 0 = H x 0 := ((f2146 x 0 _ gx rfl).trans (f2121 x 0 _ gx rfl))
        have q2164 : H2141 x 0 = (tc : Int) := k2163.trans e0
        have k2165 : H2141 m 5 = H m 5 := ((f2146 m 5 _ gm rfl).trans (f2121 m 5 _ gm rfl))
        have q2166 : H2141 m 5 = (tm : Int) := k2165.trans em
        have k2167 : H2141 x 6 = H x 6 := ((f2146 x 6 _ gx rfl).trans (f2121 x 6 _ gx rfl))
        have q2168 : H2141 x 6 = (cu : Int) := k2167.trans ecu
        have k2169 : H2141 x 7 = H x 7 := ((f2146 x 7 _ gx rfl).trans (f2121 x 7 _ gx rfl))
        have q2170 : H2141 x 7 = (dr : Int) := k2169.trans edr
        have h2171 : TP T H2141 tc B := (TP_fr w2120 gtc f2146 rfl (TP_fr hW gtc f2121 rfl htc))
        have h2172 : TM T H2141 tm B := (TM_fr w2120 gtm f2146 rfl (TM_fr hW gtm f2121 rfl htm))
        have h2173 : DD T H2141 cu  := (DD_fr w2120 gcu f2146 rfl (DD_fr hW gcu f2121 rfl hcu))
        have h2174 : DD T H2141 dr  := (DD_fr w2120 gdr f2146 rfl (DD_fr hW gdr f2121 rfl hdr))
        have h2175 : DE T H2141 cu  := (DE_fr w2120 gcu f2146 rfl (DE_fr hW gcu f2121 rfl hdec))
        have h2176 : DE T H2141 dr  := (DE_fr w2120 gdr f2146 rfl (DE_fr hW gdr f2121 rfl hded))
        have h2177 : SP T H2141 x C8 := (SP_fr w2120 gx f2146 rfl (SP_fr hW gx f2121 rfl hsp))
        have h2178 : CU T H2141 cu e8 d8 n8 := (CU_fr w2120 gcu f2146 rfl (CU_fr hW gcu f2121 rfl hcu8))
        have h2179 : CY T H2141 cu (d8 0 3) g8 (H cu 17) := (CY_fr w2120 gcu f2146 rfl (CY_fr hW gcu f2121 rfl h2109))
        have h2180 : RY T H2141 m (d8 0 3) g8 (H m 32) := (RY_fr w2120 gm f2146 rfl h2138)
        have h2181 : RB T H2141 m e8 d8 := (RB_fr w2120 gm f2146 rfl h2137)
        exact WL.loc hX (by simp) (next T H2141 ⟨⟨w2145, g0, gx, gm, go, by omega, by omega⟩, ⟨_, tc, tm, cu, dr, _, _, _, _, _, q2164, gtc, h2171, q2166, gtm, h2172, q2168, gcu, q2170, gdr, h2173, h2174, h2175, h2176, h2177, hC1, hC2, h2178, h2181, (h2179).1, (h2180).1, hE, hZ, (by omega), (by assumption), (by omega), (by first | assumption | exact SG_0), gm⟩, by omega, by omega⟩ (by omega) (by omega))
      · exfalso
        omega
    · show WL _ _ _ _ 637 [(4, vI i), (3, .ref o), (2, .ref m), (1, .ref x), (0, .ref 0)] [vI z2147, vI z2122] _ H2141
      refine wl_of hX hb cL_637 (rw_icmp_eq (p1 := 1653) (p2 := 640) (by decide) rfl ⟨b2123.1, b2123.2⟩ ⟨b2148.1, b2148.2⟩ (fun c2182 => ?_) (fun c2182 => ?_))
      · exfalso
        omega
      · refine wl_of hX hb cL_640 (rw_iconst (pc' := 641) rfl ?_)
        exfalso
        omega
  · show WL _ _ _ _ 633 [(4, vI i), (3, .ref o), (2, .ref m), (1, .ref x), (0, .ref 0)] [vI z2122] _ H2116
    refine wl_of hX hb cL_633 (rw_aload_n (pc' := 634) (v := .ref m) rfl rfl rfl ?_)
    have k2183 : wKI H2116 m = wKI H m := (wKI_fr hW gm f2121 rfl)
    have k2184 : H2116 x 9 = H x 9 := (f2121 x 9 _ gx rfl)
    have k2185 : H2116 m 6 = H m 6 := (f2121 m 6 _ gm rfl)
    have k2186 : H2116 x 11 = H x 11 := (f2121 x 11 _ gx rfl)
    have k2187 : H2116 m 13 = H m 13 := (f2121 m 13 _ gm rfl)
    have k2188 : H2116 x 8 = H x 8 := (f2121 x 8 _ gx rfl)
    have k2189 : H2116 m 3 = H m 3 := (f2121 m 3 _ gm rfl)
    have h2190 : RB T H2116 m e8 d8 := (RB_fr hW gm f2121 rfl hrb8)
    have h2191 : RY T H2116 m (d8 0 3) g8 (H m 32) := (RY_fr hW gm f2121 rfl h2110)
    refine wl_of hX hb cL_634 (xc_V (pc' := 637) (r := m) (as := []) (st := [vI z2122]) (lm_11_79) rfl rfl (Nat.le_of_ble_eq_true rfl) w2120 gm sh_42 (by decide) rfl (by decide) (u_237 (e := e8) (d := d8) (nY := ((d8 0 3))) (gY := g8) (cY := ((H m 32))) w2120 gm (by assumption) (by omega) (by assumption) (by assumption) (by assumption) (by assumption) h2190 h2191) (fun R2192 T2193 H2194 p2195 => ?_))
    obtain ⟨e2196, w2198, f2199, z2200, e2197, b2201, p2202⟩ := p2195
    subst e2196
    subst e2197
    rcases p2202 with ⟨a2203, a2204⟩ | ⟨a2205, a2206, a2207⟩
    · show WL _ _ _ _ 637 [(4, vI i), (3, .ref o), (2, .ref m), (1, .ref x), (0, .ref 0)] [vI z2200, vI z2122] _ H2194
      refine wl_of hX hb cL_637 (rw_icmp_eq (p1 := 1653) (p2 := 640) (by decide) rfl ⟨b2123.1, b2123.2⟩ ⟨b2201.1, b2201.2⟩ (fun c2208 => ?_) (fun c2208 => ?_))
      · exfalso
        omega
      · refine wl_of hX hb cL_640 (rw_iconst (pc' := 641) rfl ?_)
        exfalso
        omega
    · show WL _ _ _ _ 637 [(4, vI i), (3, .ref o), (2, .ref m), (1, .ref x), (0, .ref 0)] [vI z2200, vI z2122] _ H2194
      refine wl_of hX hb cL_637 (rw_icmp_eq (p1 := 1653) (p2 := 640) (by decide) rfl ⟨b2123.1, b2123.2⟩ ⟨b2201.1, b2201.2⟩ (fun c2209 => ?_) (fun c2209 => ?_))
      · have k2210 : wKI H2194 m = wKI H2116 m := (wKI_fr w2120 gm f2199 rfl)
        have k2211 : H2194 x 9 = H2116 x 9 := (f2199 x 9 _ gx rfl)
        have k2212 : H2194 m 6 = H2116 m 6 := (f2199 m 6 _ gm rfl)
        have k2213 : H2194 x 11 = H2116 x 11 := (f2199 x 11 _ gx rfl)
        have k2214 : H2194 m 13 = H2116 m 13 := (f2199 m 13 _ gm rfl)
        have k2215 : H2194 x 8 = H2116 x 8 := (f2199 x 8 _ gx rfl)
        have k2216 : H2194 m 3 = H2116 m 3 := (f2199 m 3 _ gm rfl)
        have k2217 : H2194 x 0 = H x 0 := ((f2199 x 0 _ gx rfl).trans (f2121 x 0 _ gx rfl))
        have q2218 : H2194 x 0 = (tc : Int) := k2217.trans e0
        have k2219 : H2194 m 5 = H m 5 := ((f2199 m 5 _ gm rfl).trans (f2121 m 5 _ gm rfl))
        have q2220 : H2194 m 5 = (tm : Int) := k2219.trans em
        have k2221 : H2194 x 6 = H x 6 := ((f2199 x 6 _ gx rfl).trans (f2121 x 6 _ gx rfl))
        have q2222 : H2194 x 6 = (cu : Int) := k2221.trans ecu
        have k2223 : H2194 x 7 = H x 7 := ((f2199 x 7 _ gx rfl).trans (f2121 x 7 _ gx rfl))
        have q2224 : H2194 x 7 = (dr : Int) := k2223.trans edr
        have h2225 : TP T H2194 tc B := (TP_fr w2120 gtc f2199 rfl (TP_fr hW gtc f2121 rfl htc))
        have h2226 : TM T H2194 tm B := (TM_fr w2120 gtm f2199 rfl (TM_fr hW gtm f2121 rfl htm))
        have h2227 : DD T H2194 cu  := (DD_fr w2120 gcu f2199 rfl (DD_fr hW gcu f2121 rfl hcu))
        have h2228 : DD T H2194 dr  := (DD_fr w2120 gdr f2199 rfl (DD_fr hW gdr f2121 rfl hdr))
        have h2229 : DE T H2194 cu  := (DE_fr w2120 gcu f2199 rfl (DE_fr hW gcu f2121 rfl hdec))
        have h2230 : DE T H2194 dr  := (DE_fr w2120 gdr f2199 rfl (DE_fr hW gdr f2121 rfl hded))
        have h2231 : SP T H2194 x C8 := (SP_fr w2120 gx f2199 rfl (SP_fr hW gx f2121 rfl hsp))
        have h2232 : CU T H2194 cu e8 d8 n8 := (CU_fr w2120 gcu f2199 rfl (CU_fr hW gcu f2121 rfl hcu8))
        have h2233 : CY T H2194 cu (d8 0 3) g8 (H cu 17) := (CY_fr w2120 gcu f2199 rfl (CY_fr hW gcu f2121 rfl h2109))
        have h2234 : RY T H2194 m (d8 0 3) g8 (H m 32) := (RY_fr w2120 gm f2199 rfl h2191)
        have h2235 : RB T H2194 m e8 d8 := (RB_fr w2120 gm f2199 rfl h2190)
        exact WL.loc hX (by simp) (next T H2194 ⟨⟨w2198, g0, gx, gm, go, by omega, by omega⟩, ⟨_, tc, tm, cu, dr, _, _, _, _, _, q2218, gtc, h2225, q2220, gtm, h2226, q2222, gcu, q2224, gdr, h2227, h2228, h2229, h2230, h2231, hC1, hC2, h2232, h2235, (h2233).1, (h2234).1, hE, hZ, (by omega), (by assumption), (by omega), (by first | assumption | exact SG_0), gm⟩, by omega, by omega⟩ (by omega) (by omega))
      · refine wl_of hX hb cL_640 (rw_iconst (pc' := 641) rfl ?_)
        exfalso
        omega
set_option maxHeartbeats 4000000 in
theorem wl_c14 {kt : Nat → Option mc_E} {CB SB : Nat} {X : mc_S → Prop} {T : wq_T} {H : wq_H} {Len x m o : Nat} {i : Int} (hX : wlX kt CB SB X) (hb : T.2.1 ≤ CB ∧ T.2.2.1 ≤ SB) (hI : wlJ Len x m o T H) (hL : Len ≤ 3072) (hi : 0 ≤ i ∧ i + 6 ≤ Len) (hb2 : T.2.1 + 20 ≤ CB ∧ T.2.2.1 + 500 ≤ SB)  (next : ∀ T' H', wlJ Len x m o T' H' → T'.2.1 ≤ T.2.1 + 20 → T'.2.2.1 ≤ T.2.2.1 + 500 → WL kt CB SB X 1653 (wlL i x m o) [] T' H') : WL kt CB SB X 642 (wlL i x m o) [] T H := by
  obtain ⟨⟨hW, g0, gx, gm, go, hK, hr⟩, hXI, hY1, hY2⟩ := hI
  refine wl_of hX hb cL_642 (rw_aload_n (pc' := 643) (v := .ref x) rfl rfl rfl ?_)
  refine wl_of hX hb cL_643 (xc_V (pc' := 646) (r := x) (as := []) (st := []) (lm_11_80) rfl rfl (Nat.le_of_ble_eq_true rfl) hW gx sh_1 (by decide) rfl (by decide) (s_82 hW gx) (fun R2236 T2237 H2238 p2239 => ?_))
  obtain ⟨e2240, w2242, f2243, z2244, e2241, b2245⟩ := p2239
  subst e2240
  subst e2241
  show WL _ _ _ _ 646 [(4, vI i), (3, .ref o), (2, .ref m), (1, .ref x), (0, .ref 0)] [vI z2244] _ H2238
  refine wl_of hX hb cL_646 (rw_pop (pc' := 647) rfl rfl ?_)
  refine wl_of hX hb cL_647 (rw_aload_n (pc' := 648) (v := .ref m) rfl rfl rfl ?_)
  have k2246 : wKI H2238 m = wKI H m := (wKI_fr hW gm f2243 rfl)
  have k2247 : H2238 x 9 = H x 9 := (f2243 x 9 _ gx rfl)
  have k2248 : H2238 m 6 = H m 6 := (f2243 m 6 _ gm rfl)
  have k2249 : H2238 x 11 = H x 11 := (f2243 x 11 _ gx rfl)
  have k2250 : H2238 m 13 = H m 13 := (f2243 m 13 _ gm rfl)
  have k2251 : H2238 x 8 = H x 8 := (f2243 x 8 _ gx rfl)
  have k2252 : H2238 m 3 = H m 3 := (f2243 m 3 _ gm rfl)
  refine wl_of hX hb cL_648 (xc_V (pc' := 651) (r := m) (as := []) (st := []) (lm_11_83) rfl rfl (Nat.le_of_ble_eq_true rfl) w2242 gm sh_42 (by decide) rfl (by decide) (s_240 w2242 gm (by omega)) (fun R2253 T2254 H2255 p2256 => ?_))
  obtain ⟨e2257, w2259, f2260, z2262, e2258, b2263, p2261⟩ := p2256
  subst e2257
  subst e2258
  show WL _ _ _ _ 651 [(4, vI i), (3, .ref o), (2, .ref m), (1, .ref x), (0, .ref 0)] [vI z2262] _ H2255
  refine wl_of hX hb cL_651 (rw_pop (pc' := 652) rfl rfl ?_)
  refine wl_of hX hb cL_652 (rw_goto (p1 := 1653) (by decide) ?_)
  have k2264 : H2255 x 9 = H2238 x 9 := (f2260 x 9 _ gx rfl)
  have k2265 : H2255 m 6 = H2238 m 6 := (f2260 m 6 _ gm rfl)
  have k2266 : H2255 x 11 = H2238 x 11 := (f2260 x 11 _ gx rfl)
  have k2267 : H2255 m 13 = H2238 m 13 := (f2260 m 13 _ gm rfl)
  have k2268 : H2255 x 8 = H2238 x 8 := (f2260 x 8 _ gx rfl)
  have k2269 : H2255 m 3 = H2238 m 3 := (f2260 m 3 _ gm rfl)
  have h2270 : XI T H2255 x m := (XI_fr w2242 gx f2260 rfl (XI_fr hW gx f2243 rfl hXI))
  exact WL.loc hX (by simp) (next T H2255 ⟨⟨w2259, g0, gx, gm, go, by omega, by omega⟩, h2270, by omega, by omega⟩ (by omega) (by omega))
set_option maxHeartbeats 4000000 in
theorem wl_c15 {kt : Nat → Option mc_E} {CB SB : Nat} {X : mc_S → Prop} {T : wq_T} {H : wq_H} {Len x m o : Nat} {i : Int} (hX : wlX kt CB SB X) (hb : T.2.1 ≤ CB ∧ T.2.2.1 ≤ SB) (hI : wlJ Len x m o T H) (hL : Len ≤ 3072) (hi : 0 ≤ i ∧ i + 6 ≤ Len) (hb2 : T.2.1 + 20 ≤ CB ∧ T.2.2.1 + 500 ≤ SB)  (next : ∀ T' H', wlJ Len x m o T' H' → T'.2.1 ≤ T.2.1 + 20 → T'.2.2.1 ≤ T.2.2.1 + 500 → WL kt CB SB X 1653 (wlL i x m o) [] T' H') : WL kt CB SB X 655 (wlL i x m o) [] T H := by
  obtain ⟨⟨hW, g0, gx, gm, go, hK, hr⟩, hXI, hY1, hY2⟩ := hI
  refine wl_of hX hb cL_655 (rw_aload_n (pc' := 656) (v := .ref x) rfl rfl rfl ?_)
  refine wl_of hX hb cL_656 (xc_V (pc' := 659) (r := x) (as := []) (st := []) (lm_11_84) rfl rfl (Nat.le_of_ble_eq_true rfl) hW gx sh_1 (by decide) rfl (by decide) (s_92 hW gx) (fun R2271 T2272 H2273 p2274 => ?_))
  obtain ⟨e2275, w2277, f2278, z2279, e2276, b2280⟩ := p2274
  subst e2275
  subst e2276
  show WL _ _ _ _ 659 [(4, vI i), (3, .ref o), (2, .ref m), (1, .ref x), (0, .ref 0)] [vI z2279] _ H2273
  refine wl_of hX hb cL_659 (rw_pop (pc' := 660) rfl rfl ?_)
  refine wl_of hX hb cL_660 (rw_aload_n (pc' := 661) (v := .ref m) rfl rfl rfl ?_)
  have k2281 : wKI H2273 m = wKI H m := (wKI_fr hW gm f2278 rfl)
  have k2282 : H2273 x 9 = H x 9 := (f2278 x 9 _ gx rfl)
  have k2283 : H2273 m 6 = H m 6 := (f2278 m 6 _ gm rfl)
  have k2284 : H2273 x 11 = H x 11 := (f2278 x 11 _ gx rfl)
  have k2285 : H2273 m 13 = H m 13 := (f2278 m 13 _ gm rfl)
  have k2286 : H2273 x 8 = H x 8 := (f2278 x 8 _ gx rfl)
  have k2287 : H2273 m 3 = H m 3 := (f2278 m 3 _ gm rfl)
  refine wl_of hX hb cL_661 (xc_V (pc' := 664) (r := m) (as := []) (st := []) (lm_11_87) rfl rfl (Nat.le_of_ble_eq_true rfl) w2277 gm sh_42 (by decide) rfl (by decide) (s_244 w2277 gm (by omega)) (fun R2288 T2289 H2290 p2291 => ?_))
  obtain ⟨e2292, w2294, f2295, z2297, e2293, b2298, p2296⟩ := p2291
  subst e2292
  subst e2293
  show WL _ _ _ _ 664 [(4, vI i), (3, .ref o), (2, .ref m), (1, .ref x), (0, .ref 0)] [vI z2297] _ H2290
  refine wl_of hX hb cL_664 (rw_pop (pc' := 665) rfl rfl ?_)
  refine wl_of hX hb cL_665 (rw_goto (p1 := 1653) (by decide) ?_)
  have k2299 : H2290 x 9 = H2273 x 9 := (f2295 x 9 _ gx rfl)
  have k2300 : H2290 m 6 = H2273 m 6 := (f2295 m 6 _ gm rfl)
  have k2301 : H2290 x 11 = H2273 x 11 := (f2295 x 11 _ gx rfl)
  have k2302 : H2290 m 13 = H2273 m 13 := (f2295 m 13 _ gm rfl)
  have k2303 : H2290 x 8 = H2273 x 8 := (f2295 x 8 _ gx rfl)
  have k2304 : H2290 m 3 = H2273 m 3 := (f2295 m 3 _ gm rfl)
  have h2305 : XI T H2290 x m := (XI_fr w2277 gx f2295 rfl (XI_fr hW gx f2278 rfl hXI))
  exact WL.loc hX (by simp) (next T H2290 ⟨⟨w2294, g0, gx, gm, go, by omega, by omega⟩, h2305, by omega, by omega⟩ (by omega) (by omega))
set_option maxHeartbeats 4000000 in
theorem wl_c16 {kt : Nat → Option mc_E} {CB SB : Nat} {X : mc_S → Prop} {T : wq_T} {H : wq_H} {Len x m o : Nat} {i : Int} (hX : wlX kt CB SB X) (hb : T.2.1 ≤ CB ∧ T.2.2.1 ≤ SB) (hI : wlJ Len x m o T H) (hL : Len ≤ 3072) (hi : 0 ≤ i ∧ i + 6 ≤ Len) (hb2 : T.2.1 + 20 ≤ CB ∧ T.2.2.1 + 500 ≤ SB)  (next : ∀ T' H', wlJ Len x m o T' H' → T'.2.1 ≤ T.2.1 + 20 → T'.2.2.1 ≤ T.2.2.1 + 500 → WL kt CB SB X 1653 (wlL i x m o) [] T' H') : WL kt CB SB X 668 (wlL i x m o) [] T H := by
  obtain ⟨⟨hW, g0, gx, gm, go, hK, hr⟩, hXI, hY1, hY2⟩ := hI
  refine wl_of hX hb cL_668 (rw_aload_n (pc' := 669) (v := .ref x) rfl rfl rfl ?_)
  refine wl_of hX hb cL_669 (rw_aload_n (pc' := 670) (v := .ref 0) rfl rfl rfl ?_)
  refine wl_of hX hb cL_670 (rw_iload (pc' := 672) (z := i) rfl rfl ?_)
  refine wl_of hX hb cL_672 (rw_iconst (pc' := 673) rfl ?_)
  refine wl_of hX hb cL_673 (rw_iadd (pc' := 674) rfl ?_)
  refine wl_of hX hb cL_674 (xa_I (so := 0) (pc' := 675) (a := 0) hW g0 (wsh_s _) (by omega) (wty_s _ _) (by omega) (by omega) rfl (fun b2306 b2307 => ?_))
  refine wl_of hX hb cL_675 (rw_aload_n (pc' := 676) (v := .ref 0) rfl rfl rfl ?_)
  refine wl_of hX hb cL_676 (rw_iload (pc' := 678) (z := i) rfl rfl ?_)
  refine wl_of hX hb cL_678 (rw_iconst (pc' := 679) rfl ?_)
  refine wl_of hX hb cL_679 (rw_iadd (pc' := 680) rfl ?_)
  refine wl_of hX hb cL_680 (xa_I (so := 0) (pc' := 681) (a := 0) hW g0 (wsh_s _) (by omega) (wty_s _ _) (by omega) (by omega) rfl (fun b2308 b2309 => ?_))
  refine wl_of hX hb cL_681 (xc_V (pc' := 684) (r := x) (as := [vI (H 0 ((i + 1).toNat)), vI (H 0 ((i + 2).toNat))]) (st := []) (lm_11_88) rfl rfl (Nat.le_of_ble_eq_true rfl) hW gx sh_1 (by decide) rfl (by decide) (s_93 hW gx ⟨by omega, by omega⟩ ⟨by omega, by omega⟩) (fun R2310 T2311 H2312 p2313 => ?_))
  obtain ⟨e2314, w2316, f2317, z2318, e2315, b2319⟩ := p2313
  subst e2314
  subst e2315
  show WL _ _ _ _ 684 [(4, vI i), (3, .ref o), (2, .ref m), (1, .ref x), (0, .ref 0)] [vI z2318] _ H2312
  refine wl_of hX hb cL_684 (rw_pop (pc' := 685) rfl rfl ?_)
  refine wl_of hX hb cL_685 (rw_aload_n (pc' := 686) (v := .ref m) rfl rfl rfl ?_)
  refine wl_of hX hb cL_686 (rw_aload_n (pc' := 687) (v := .ref 0) rfl rfl rfl ?_)
  refine wl_of hX hb cL_687 (rw_iload (pc' := 689) (z := i) rfl rfl ?_)
  refine wl_of hX hb cL_689 (rw_iconst (pc' := 690) rfl ?_)
  refine wl_of hX hb cL_690 (rw_iadd (pc' := 691) rfl ?_)
  have k2322 : H2312 0 ((i + 1).toNat) = H 0 ((i + 1).toNat) := (f2317 0 ((i + 1).toNat) _ g0 (wmem_s rfl))
  refine wl_of hX hb cL_691 (xa_I (so := 0) (pc' := 692) (a := 0) w2316 g0 (wsh_s _) (by omega) (wty_s _ _) (by omega) (by omega) rfl (fun b2320 b2321 => ?_))
  refine wl_of hX hb cL_692 (rw_aload_n (pc' := 693) (v := .ref 0) rfl rfl rfl ?_)
  refine wl_of hX hb cL_693 (rw_iload (pc' := 695) (z := i) rfl rfl ?_)
  refine wl_of hX hb cL_695 (rw_iconst (pc' := 696) rfl ?_)
  refine wl_of hX hb cL_696 (rw_iadd (pc' := 697) rfl ?_)
  have k2325 : H2312 0 ((i + 2).toNat) = H 0 ((i + 2).toNat) := (f2317 0 ((i + 2).toNat) _ g0 (wmem_s rfl))
  refine wl_of hX hb cL_697 (xa_I (so := 0) (pc' := 698) (a := 0) w2316 g0 (wsh_s _) (by omega) (wty_s _ _) (by omega) (by omega) rfl (fun b2323 b2324 => ?_))
  have k2326 : wKI H2312 m = wKI H m := (wKI_fr hW gm f2317 rfl)
  have k2327 : H2312 x 9 = H x 9 := (f2317 x 9 _ gx rfl)
  have k2328 : H2312 m 6 = H m 6 := (f2317 m 6 _ gm rfl)
  have k2329 : H2312 x 11 = H x 11 := (f2317 x 11 _ gx rfl)
  have k2330 : H2312 m 13 = H m 13 := (f2317 m 13 _ gm rfl)
  have k2331 : H2312 x 8 = H x 8 := (f2317 x 8 _ gx rfl)
  have k2332 : H2312 m 3 = H m 3 := (f2317 m 3 _ gm rfl)
  refine wl_of hX hb cL_698 (xc_V (pc' := 701) (r := m) (as := [vI (H2312 0 ((i + 1).toNat)), vI (H2312 0 ((i + 2).toNat))]) (st := []) (lm_11_92) rfl rfl (Nat.le_of_ble_eq_true rfl) w2316 gm sh_42 (by decide) rfl (by decide) (s_245 w2316 gm ⟨by omega, by omega⟩ ⟨by omega, by omega⟩ (by omega)) (fun R2333 T2334 H2335 p2336 => ?_))
  obtain ⟨e2337, w2339, f2340, z2342, e2338, b2343, p2341⟩ := p2336
  subst e2337
  subst e2338
  show WL _ _ _ _ 701 [(4, vI i), (3, .ref o), (2, .ref m), (1, .ref x), (0, .ref 0)] [vI z2342] _ H2335
  refine wl_of hX hb cL_701 (rw_pop (pc' := 702) rfl rfl ?_)
  refine wl_of hX hb cL_702 (rw_goto (p1 := 1653) (by decide) ?_)
  have k2344 : H2335 x 9 = H2312 x 9 := (f2340 x 9 _ gx rfl)
  have k2345 : H2335 m 6 = H2312 m 6 := (f2340 m 6 _ gm rfl)
  have k2346 : H2335 x 11 = H2312 x 11 := (f2340 x 11 _ gx rfl)
  have k2347 : H2335 m 13 = H2312 m 13 := (f2340 m 13 _ gm rfl)
  have k2348 : H2335 x 8 = H2312 x 8 := (f2340 x 8 _ gx rfl)
  have k2349 : H2335 m 3 = H2312 m 3 := (f2340 m 3 _ gm rfl)
  have h2350 : XI T H2335 x m := (XI_fr w2316 gx f2340 rfl (XI_fr hW gx f2317 rfl hXI))
  exact WL.loc hX (by simp) (next T H2335 ⟨⟨w2339, g0, gx, gm, go, by omega, by omega⟩, h2350, by omega, by omega⟩ (by omega) (by omega))
set_option maxHeartbeats 4000000 in
theorem wl_c17 {kt : Nat → Option mc_E} {CB SB : Nat} {X : mc_S → Prop} {T : wq_T} {H : wq_H} {Len x m o : Nat} {i : Int} (hX : wlX kt CB SB X) (hb : T.2.1 ≤ CB ∧ T.2.2.1 ≤ SB) (hI : wlJ Len x m o T H) (hL : Len ≤ 3072) (hi : 0 ≤ i ∧ i + 6 ≤ Len) (hb2 : T.2.1 + 20 ≤ CB ∧ T.2.2.1 + 500 ≤ SB)  (next : ∀ T' H', wlJ Len x m o T' H' → T'.2.1 ≤ T.2.1 + 20 → T'.2.2.1 ≤ T.2.2.1 + 500 → WL kt CB SB X 1653 (wlL i x m o) [] T' H') : WL kt CB SB X 705 (wlL i x m o) [] T H := by
  obtain ⟨⟨hW, g0, gx, gm, go, hK, hr⟩, hXI, hY1, hY2⟩ := hI
  refine wl_of hX hb cL_705 (rw_aload_n (pc' := 706) (v := .ref x) rfl rfl rfl ?_)
  refine wl_of hX hb cL_706 (xc_V (pc' := 709) (r := x) (as := []) (st := []) (lm_11_93) rfl rfl (Nat.le_of_ble_eq_true rfl) hW gx sh_1 (by decide) rfl (by decide) (s_97 hW gx) (fun R2351 T2352 H2353 p2354 => ?_))
  obtain ⟨e2355, w2357, f2358, z2359, e2356, b2360⟩ := p2354
  subst e2355
  subst e2356
  show WL _ _ _ _ 709 [(4, vI i), (3, .ref o), (2, .ref m), (1, .ref x), (0, .ref 0)] [vL z2359] _ H2353
  refine wl_of hX hb cL_709 (rw_pop2 (pc' := 710) rfl rfl ?_)
  refine wl_of hX hb cL_710 (rw_aload_n (pc' := 711) (v := .ref m) rfl rfl rfl ?_)
  have k2361 : wKI H2353 m = wKI H m := (wKI_fr hW gm f2358 rfl)
  have k2362 : H2353 x 9 = H x 9 := (f2358 x 9 _ gx rfl)
  have k2363 : H2353 m 6 = H m 6 := (f2358 m 6 _ gm rfl)
  have k2364 : H2353 x 11 = H x 11 := (f2358 x 11 _ gx rfl)
  have k2365 : H2353 m 13 = H m 13 := (f2358 m 13 _ gm rfl)
  have k2366 : H2353 x 8 = H x 8 := (f2358 x 8 _ gx rfl)
  have k2367 : H2353 m 3 = H m 3 := (f2358 m 3 _ gm rfl)
  refine wl_of hX hb cL_711 (xc_V (pc' := 714) (r := m) (as := []) (st := []) (lm_11_96) rfl rfl (Nat.le_of_ble_eq_true rfl) w2357 gm sh_42 (by decide) rfl (by decide) (s_246 w2357 gm (by omega)) (fun R2368 T2369 H2370 p2371 => ?_))
  obtain ⟨e2372, w2374, f2375, z2377, e2373, b2378, p2376⟩ := p2371
  subst e2372
  subst e2373
  show WL _ _ _ _ 714 [(4, vI i), (3, .ref o), (2, .ref m), (1, .ref x), (0, .ref 0)] [vL z2377] _ H2370
  refine wl_of hX hb cL_714 (rw_pop2 (pc' := 715) rfl rfl ?_)
  refine wl_of hX hb cL_715 (rw_goto (p1 := 1653) (by decide) ?_)
  have k2379 : H2370 x 9 = H2353 x 9 := (f2375 x 9 _ gx rfl)
  have k2380 : H2370 m 6 = H2353 m 6 := (f2375 m 6 _ gm rfl)
  have k2381 : H2370 x 11 = H2353 x 11 := (f2375 x 11 _ gx rfl)
  have k2382 : H2370 m 13 = H2353 m 13 := (f2375 m 13 _ gm rfl)
  have k2383 : H2370 x 8 = H2353 x 8 := (f2375 x 8 _ gx rfl)
  have k2384 : H2370 m 3 = H2353 m 3 := (f2375 m 3 _ gm rfl)
  have h2385 : XI T H2370 x m := (XI_fr w2357 gx f2375 rfl (XI_fr hW gx f2358 rfl hXI))
  exact WL.loc hX (by simp) (next T H2370 ⟨⟨w2374, g0, gx, gm, go, by omega, by omega⟩, h2385, by omega, by omega⟩ (by omega) (by omega))
set_option maxHeartbeats 4000000 in
theorem wl_c18 {kt : Nat → Option mc_E} {CB SB : Nat} {X : mc_S → Prop} {T : wq_T} {H : wq_H} {Len x m o : Nat} {i : Int} (hX : wlX kt CB SB X) (hb : T.2.1 ≤ CB ∧ T.2.2.1 ≤ SB) (hI : wlJ Len x m o T H) (hL : Len ≤ 3072) (hi : 0 ≤ i ∧ i + 6 ≤ Len) (hb2 : T.2.1 + 20 ≤ CB ∧ T.2.2.1 + 500 ≤ SB)  (next : ∀ T' H', wlJ Len x m o T' H' → T'.2.1 ≤ T.2.1 + 20 → T'.2.2.1 ≤ T.2.2.1 + 500 → WL kt CB SB X 1653 (wlL i x m o) [] T' H') : WL kt CB SB X 718 (wlL i x m o) [] T H := by
  obtain ⟨⟨hW, g0, gx, gm, go, hK, hr⟩, hXI, hY1, hY2⟩ := hI
  refine wl_of hX hb cL_718 (rw_aload_n (pc' := 719) (v := .ref x) rfl rfl rfl ?_)
  refine wl_of hX hb cL_719 (rw_aload_n (pc' := 720) (v := .ref 0) rfl rfl rfl ?_)
  refine wl_of hX hb cL_720 (rw_iload (pc' := 722) (z := i) rfl rfl ?_)
  refine wl_of hX hb cL_722 (rw_iconst (pc' := 723) rfl ?_)
  refine wl_of hX hb cL_723 (rw_iadd (pc' := 724) rfl ?_)
  refine wl_of hX hb cL_724 (xa_I (so := 0) (pc' := 725) (a := 0) hW g0 (wsh_s _) (by omega) (wty_s _ _) (by omega) (by omega) rfl (fun b2386 b2387 => ?_))
  refine wl_of hX hb cL_725 (rw_aload_n (pc' := 726) (v := .ref 0) rfl rfl rfl ?_)
  refine wl_of hX hb cL_726 (rw_iload (pc' := 728) (z := i) rfl rfl ?_)
  refine wl_of hX hb cL_728 (rw_iconst (pc' := 729) rfl ?_)
  refine wl_of hX hb cL_729 (rw_iadd (pc' := 730) rfl ?_)
  refine wl_of hX hb cL_730 (xa_I (so := 0) (pc' := 731) (a := 0) hW g0 (wsh_s _) (by omega) (wty_s _ _) (by omega) (by omega) rfl (fun b2388 b2389 => ?_))
  refine wl_of hX hb cL_731 (xc_V (pc' := 734) (r := x) (as := [vI (H 0 ((i + 1).toNat)), vI (H 0 ((i + 2).toNat))]) (st := []) (lm_11_97) rfl rfl (Nat.le_of_ble_eq_true rfl) hW gx sh_1 (by decide) rfl (by decide) (s_98 hW gx ⟨by omega, by omega⟩ ⟨by omega, by omega⟩) (fun R2390 T2391 H2392 p2393 => ?_))
  obtain ⟨e2394, w2396, f2397, z2398, e2395, b2399⟩ := p2393
  subst e2394
  subst e2395
  show WL _ _ _ _ 734 [(4, vI i), (3, .ref o), (2, .ref m), (1, .ref x), (0, .ref 0)] [vI z2398] _ H2392
  refine wl_of hX hb cL_734 (rw_pop (pc' := 735) rfl rfl ?_)
  refine wl_of hX hb cL_735 (rw_aload_n (pc' := 736) (v := .ref m) rfl rfl rfl ?_)
  refine wl_of hX hb cL_736 (rw_aload_n (pc' := 737) (v := .ref 0) rfl rfl rfl ?_)
  refine wl_of hX hb cL_737 (rw_iload (pc' := 739) (z := i) rfl rfl ?_)
  refine wl_of hX hb cL_739 (rw_iconst (pc' := 740) rfl ?_)
  refine wl_of hX hb cL_740 (rw_iadd (pc' := 741) rfl ?_)
  have k2402 : H2392 0 ((i + 1).toNat) = H 0 ((i + 1).toNat) := (f2397 0 ((i + 1).toNat) _ g0 (wmem_s rfl))
  refine wl_of hX hb cL_741 (xa_I (so := 0) (pc' := 742) (a := 0) w2396 g0 (wsh_s _) (by omega) (wty_s _ _) (by omega) (by omega) rfl (fun b2400 b2401 => ?_))
  refine wl_of hX hb cL_742 (rw_aload_n (pc' := 743) (v := .ref 0) rfl rfl rfl ?_)
  refine wl_of hX hb cL_743 (rw_iload (pc' := 745) (z := i) rfl rfl ?_)
  refine wl_of hX hb cL_745 (rw_iconst (pc' := 746) rfl ?_)
  refine wl_of hX hb cL_746 (rw_iadd (pc' := 747) rfl ?_)
  have k2405 : H2392 0 ((i + 2).toNat) = H 0 ((i + 2).toNat) := (f2397 0 ((i + 2).toNat) _ g0 (wmem_s rfl))
  refine wl_of hX hb cL_747 (xa_I (so := 0) (pc' := 748) (a := 0) w2396 g0 (wsh_s _) (by omega) (wty_s _ _) (by omega) (by omega) rfl (fun b2403 b2404 => ?_))
  have k2406 : wKI H2392 m = wKI H m := (wKI_fr hW gm f2397 rfl)
  have k2407 : H2392 x 9 = H x 9 := (f2397 x 9 _ gx rfl)
  have k2408 : H2392 m 6 = H m 6 := (f2397 m 6 _ gm rfl)
  have k2409 : H2392 x 11 = H x 11 := (f2397 x 11 _ gx rfl)
  have k2410 : H2392 m 13 = H m 13 := (f2397 m 13 _ gm rfl)
  have k2411 : H2392 x 8 = H x 8 := (f2397 x 8 _ gx rfl)
  have k2412 : H2392 m 3 = H m 3 := (f2397 m 3 _ gm rfl)
  refine wl_of hX hb cL_748 (xc_V (pc' := 751) (r := m) (as := [vI (H2392 0 ((i + 1).toNat)), vI (H2392 0 ((i + 2).toNat))]) (st := []) (lm_11_100) rfl rfl (Nat.le_of_ble_eq_true rfl) w2396 gm sh_42 (by decide) rfl (by decide) (s_249 w2396 gm ⟨by omega, by omega⟩ ⟨by omega, by omega⟩ (by omega)) (fun R2413 T2414 H2415 p2416 => ?_))
  obtain ⟨e2417, w2419, f2420, z2422, e2418, b2423, p2421⟩ := p2416
  subst e2417
  subst e2418
  show WL _ _ _ _ 751 [(4, vI i), (3, .ref o), (2, .ref m), (1, .ref x), (0, .ref 0)] [vI z2422] _ H2415
  refine wl_of hX hb cL_751 (rw_pop (pc' := 752) rfl rfl ?_)
  refine wl_of hX hb cL_752 (rw_goto (p1 := 1653) (by decide) ?_)
  have k2424 : H2415 x 9 = H2392 x 9 := (f2420 x 9 _ gx rfl)
  have k2425 : H2415 m 6 = H2392 m 6 := (f2420 m 6 _ gm rfl)
  have k2426 : H2415 x 11 = H2392 x 11 := (f2420 x 11 _ gx rfl)
  have k2427 : H2415 m 13 = H2392 m 13 := (f2420 m 13 _ gm rfl)
  have k2428 : H2415 x 8 = H2392 x 8 := (f2420 x 8 _ gx rfl)
  have k2429 : H2415 m 3 = H2392 m 3 := (f2420 m 3 _ gm rfl)
  have h2430 : XI T H2415 x m := (XI_fr w2396 gx f2420 rfl (XI_fr hW gx f2397 rfl hXI))
  exact WL.loc hX (by simp) (next T H2415 ⟨⟨w2419, g0, gx, gm, go, by omega, by omega⟩, h2430, by omega, by omega⟩ (by omega) (by omega))
set_option maxHeartbeats 4000000 in
theorem wl_c19 {kt : Nat → Option mc_E} {CB SB : Nat} {X : mc_S → Prop} {T : wq_T} {H : wq_H} {Len x m o : Nat} {i : Int} (hX : wlX kt CB SB X) (hb : T.2.1 ≤ CB ∧ T.2.2.1 ≤ SB) (hI : wlJ Len x m o T H) (hL : Len ≤ 3072) (hi : 0 ≤ i ∧ i + 6 ≤ Len) (hb2 : T.2.1 + 20 ≤ CB ∧ T.2.2.1 + 500 ≤ SB)  (next : ∀ T' H', wlJ Len x m o T' H' → T'.2.1 ≤ T.2.1 + 20 → T'.2.2.1 ≤ T.2.2.1 + 500 → WL kt CB SB X 1653 (wlL i x m o) [] T' H') : WL kt CB SB X 755 (wlL i x m o) [] T H := by
  obtain ⟨⟨hW, g0, gx, gm, go, hK, hr⟩, hXI, hY1, hY2⟩ := hI
  refine wl_of hX hb cL_755 (rw_aload_n (pc' := 756) (v := .ref x) rfl rfl rfl ?_)
  refine wl_of hX hb cL_756 (rw_aload_n (pc' := 757) (v := .ref 0) rfl rfl rfl ?_)
  refine wl_of hX hb cL_757 (rw_iload (pc' := 759) (z := i) rfl rfl ?_)
  refine wl_of hX hb cL_759 (rw_iconst (pc' := 760) rfl ?_)
  refine wl_of hX hb cL_760 (rw_iadd (pc' := 761) rfl ?_)
  refine wl_of hX hb cL_761 (xa_I (so := 0) (pc' := 762) (a := 0) hW g0 (wsh_s _) (by omega) (wty_s _ _) (by omega) (by omega) rfl (fun b2431 b2432 => ?_))
  refine wl_of hX hb cL_762 (rw_aload_n (pc' := 763) (v := .ref 0) rfl rfl rfl ?_)
  refine wl_of hX hb cL_763 (rw_iload (pc' := 765) (z := i) rfl rfl ?_)
  refine wl_of hX hb cL_765 (rw_iconst (pc' := 766) rfl ?_)
  refine wl_of hX hb cL_766 (rw_iadd (pc' := 767) rfl ?_)
  refine wl_of hX hb cL_767 (xa_I (so := 0) (pc' := 768) (a := 0) hW g0 (wsh_s _) (by omega) (wty_s _ _) (by omega) (by omega) rfl (fun b2433 b2434 => ?_))
  refine wl_of hX hb cL_768 (xc_V (pc' := 771) (r := x) (as := [vI (H 0 ((i + 1).toNat)), vI (H 0 ((i + 2).toNat))]) (st := []) (lm_11_101) rfl rfl (Nat.le_of_ble_eq_true rfl) hW gx sh_1 (by decide) rfl (by decide) (s_99 hW gx ⟨by omega, by omega⟩ ⟨by omega, by omega⟩) (fun R2435 T2436 H2437 p2438 => ?_))
  obtain ⟨e2439, w2441, f2442, z2443, e2440, b2444⟩ := p2438
  subst e2439
  subst e2440
  show WL _ _ _ _ 771 [(4, vI i), (3, .ref o), (2, .ref m), (1, .ref x), (0, .ref 0)] [vI z2443] _ H2437
  refine wl_of hX hb cL_771 (rw_pop (pc' := 772) rfl rfl ?_)
  refine wl_of hX hb cL_772 (rw_aload_n (pc' := 773) (v := .ref m) rfl rfl rfl ?_)
  refine wl_of hX hb cL_773 (rw_aload_n (pc' := 774) (v := .ref 0) rfl rfl rfl ?_)
  refine wl_of hX hb cL_774 (rw_iload (pc' := 776) (z := i) rfl rfl ?_)
  refine wl_of hX hb cL_776 (rw_iconst (pc' := 777) rfl ?_)
  refine wl_of hX hb cL_777 (rw_iadd (pc' := 778) rfl ?_)
  have k2447 : H2437 0 ((i + 1).toNat) = H 0 ((i + 1).toNat) := (f2442 0 ((i + 1).toNat) _ g0 (wmem_s rfl))
  refine wl_of hX hb cL_778 (xa_I (so := 0) (pc' := 779) (a := 0) w2441 g0 (wsh_s _) (by omega) (wty_s _ _) (by omega) (by omega) rfl (fun b2445 b2446 => ?_))
  refine wl_of hX hb cL_779 (rw_aload_n (pc' := 780) (v := .ref 0) rfl rfl rfl ?_)
  refine wl_of hX hb cL_780 (rw_iload (pc' := 782) (z := i) rfl rfl ?_)
  refine wl_of hX hb cL_782 (rw_iconst (pc' := 783) rfl ?_)
  refine wl_of hX hb cL_783 (rw_iadd (pc' := 784) rfl ?_)
  have k2450 : H2437 0 ((i + 2).toNat) = H 0 ((i + 2).toNat) := (f2442 0 ((i + 2).toNat) _ g0 (wmem_s rfl))
  refine wl_of hX hb cL_784 (xa_I (so := 0) (pc' := 785) (a := 0) w2441 g0 (wsh_s _) (by omega) (wty_s _ _) (by omega) (by omega) rfl (fun b2448 b2449 => ?_))
  have k2451 : wKI H2437 m = wKI H m := (wKI_fr hW gm f2442 rfl)
  have k2452 : H2437 x 9 = H x 9 := (f2442 x 9 _ gx rfl)
  have k2453 : H2437 m 6 = H m 6 := (f2442 m 6 _ gm rfl)
  have k2454 : H2437 x 11 = H x 11 := (f2442 x 11 _ gx rfl)
  have k2455 : H2437 m 13 = H m 13 := (f2442 m 13 _ gm rfl)
  have k2456 : H2437 x 8 = H x 8 := (f2442 x 8 _ gx rfl)
  have k2457 : H2437 m 3 = H m 3 := (f2442 m 3 _ gm rfl)
  refine wl_of hX hb cL_785 (xc_V (pc' := 788) (r := m) (as := [vI (H2437 0 ((i + 1).toNat)), vI (H2437 0 ((i + 2).toNat))]) (st := []) (lm_11_104) rfl rfl (Nat.le_of_ble_eq_true rfl) w2441 gm sh_42 (by decide) rfl (by decide) (s_250 w2441 gm ⟨by omega, by omega⟩ ⟨by omega, by omega⟩ (by omega)) (fun R2458 T2459 H2460 p2461 => ?_))
  obtain ⟨e2462, w2464, f2465, z2467, e2463, b2468, p2466⟩ := p2461
  subst e2462
  subst e2463
  show WL _ _ _ _ 788 [(4, vI i), (3, .ref o), (2, .ref m), (1, .ref x), (0, .ref 0)] [vI z2467] _ H2460
  refine wl_of hX hb cL_788 (rw_pop (pc' := 789) rfl rfl ?_)
  refine wl_of hX hb cL_789 (rw_goto (p1 := 1653) (by decide) ?_)
  have k2469 : H2460 x 9 = H2437 x 9 := (f2465 x 9 _ gx rfl)
  have k2470 : H2460 m 6 = H2437 m 6 := (f2465 m 6 _ gm rfl)
  have k2471 : H2460 x 11 = H2437 x 11 := (f2465 x 11 _ gx rfl)
  have k2472 : H2460 m 13 = H2437 m 13 := (f2465 m 13 _ gm rfl)
  have k2473 : H2460 x 8 = H2437 x 8 := (f2465 x 8 _ gx rfl)
  have k2474 : H2460 m 3 = H2437 m 3 := (f2465 m 3 _ gm rfl)
  have h2475 : XI T H2460 x m := (XI_fr w2441 gx f2465 rfl (XI_fr hW gx f2442 rfl hXI))
  exact WL.loc hX (by simp) (next T H2460 ⟨⟨w2464, g0, gx, gm, go, by omega, by omega⟩, h2475, by omega, by omega⟩ (by omega) (by omega))
set_option maxHeartbeats 4000000 in
theorem wl_c20 {kt : Nat → Option mc_E} {CB SB : Nat} {X : mc_S → Prop} {T : wq_T} {H : wq_H} {Len x m o : Nat} {i : Int} (hX : wlX kt CB SB X) (hb : T.2.1 ≤ CB ∧ T.2.2.1 ≤ SB) (hI : wlJ Len x m o T H) (hL : Len ≤ 3072) (hi : 0 ≤ i ∧ i + 6 ≤ Len) (hb2 : T.2.1 + 20 ≤ CB ∧ T.2.2.1 + 500 ≤ SB)  (next : ∀ T' H', wlJ Len x m o T' H' → T'.2.1 ≤ T.2.1 + 20 → T'.2.2.1 ≤ T.2.2.1 + 500 → WL kt CB SB X 1653 (wlL i x m o) [] T' H') : WL kt CB SB X 792 (wlL i x m o) [] T H := by
  obtain ⟨⟨hW, g0, gx, gm, go, hK, hr⟩, hXI, hY1, hY2⟩ := hI
  refine wl_of hX hb cL_792 (rw_aload_n (pc' := 793) (v := .ref x) rfl rfl rfl ?_)
  refine wl_of hX hb cL_793 (rw_aload_n (pc' := 794) (v := .ref 0) rfl rfl rfl ?_)
  refine wl_of hX hb cL_794 (rw_iload (pc' := 796) (z := i) rfl rfl ?_)
  refine wl_of hX hb cL_796 (rw_iconst (pc' := 797) rfl ?_)
  refine wl_of hX hb cL_797 (rw_iadd (pc' := 798) rfl ?_)
  refine wl_of hX hb cL_798 (xa_I (so := 0) (pc' := 799) (a := 0) hW g0 (wsh_s _) (by omega) (wty_s _ _) (by omega) (by omega) rfl (fun b2476 b2477 => ?_))
  refine wl_of hX hb cL_799 (rw_aload_n (pc' := 800) (v := .ref 0) rfl rfl rfl ?_)
  refine wl_of hX hb cL_800 (rw_iload (pc' := 802) (z := i) rfl rfl ?_)
  refine wl_of hX hb cL_802 (rw_iconst (pc' := 803) rfl ?_)
  refine wl_of hX hb cL_803 (rw_iadd (pc' := 804) rfl ?_)
  refine wl_of hX hb cL_804 (xa_I (so := 0) (pc' := 805) (a := 0) hW g0 (wsh_s _) (by omega) (wty_s _ _) (by omega) (by omega) rfl (fun b2478 b2479 => ?_))
  refine wl_of hX hb cL_805 (xc_V (pc' := 808) (r := x) (as := [vI (H 0 ((i + 1).toNat)), vI (H 0 ((i + 2).toNat))]) (st := []) (lm_11_105) rfl rfl (Nat.le_of_ble_eq_true rfl) hW gx sh_1 (by decide) rfl (by decide) (s_101 hW gx ⟨by omega, by omega⟩ ⟨by omega, by omega⟩) (fun R2480 T2481 H2482 p2483 => ?_))
  obtain ⟨e2484, w2486, f2487, z2488, e2485, b2489⟩ := p2483
  subst e2484
  subst e2485
  show WL _ _ _ _ 808 [(4, vI i), (3, .ref o), (2, .ref m), (1, .ref x), (0, .ref 0)] [vI z2488] _ H2482
  refine wl_of hX hb cL_808 (rw_pop (pc' := 809) rfl rfl ?_)
  refine wl_of hX hb cL_809 (rw_aload_n (pc' := 810) (v := .ref m) rfl rfl rfl ?_)
  refine wl_of hX hb cL_810 (rw_aload_n (pc' := 811) (v := .ref 0) rfl rfl rfl ?_)
  refine wl_of hX hb cL_811 (rw_iload (pc' := 813) (z := i) rfl rfl ?_)
  refine wl_of hX hb cL_813 (rw_iconst (pc' := 814) rfl ?_)
  refine wl_of hX hb cL_814 (rw_iadd (pc' := 815) rfl ?_)
  have k2492 : H2482 0 ((i + 1).toNat) = H 0 ((i + 1).toNat) := (f2487 0 ((i + 1).toNat) _ g0 (wmem_s rfl))
  refine wl_of hX hb cL_815 (xa_I (so := 0) (pc' := 816) (a := 0) w2486 g0 (wsh_s _) (by omega) (wty_s _ _) (by omega) (by omega) rfl (fun b2490 b2491 => ?_))
  refine wl_of hX hb cL_816 (rw_aload_n (pc' := 817) (v := .ref 0) rfl rfl rfl ?_)
  refine wl_of hX hb cL_817 (rw_iload (pc' := 819) (z := i) rfl rfl ?_)
  refine wl_of hX hb cL_819 (rw_iconst (pc' := 820) rfl ?_)
  refine wl_of hX hb cL_820 (rw_iadd (pc' := 821) rfl ?_)
  have k2495 : H2482 0 ((i + 2).toNat) = H 0 ((i + 2).toNat) := (f2487 0 ((i + 2).toNat) _ g0 (wmem_s rfl))
  refine wl_of hX hb cL_821 (xa_I (so := 0) (pc' := 822) (a := 0) w2486 g0 (wsh_s _) (by omega) (wty_s _ _) (by omega) (by omega) rfl (fun b2493 b2494 => ?_))
  have k2496 : wKI H2482 m = wKI H m := (wKI_fr hW gm f2487 rfl)
  have k2497 : H2482 x 9 = H x 9 := (f2487 x 9 _ gx rfl)
  have k2498 : H2482 m 6 = H m 6 := (f2487 m 6 _ gm rfl)
  have k2499 : H2482 x 11 = H x 11 := (f2487 x 11 _ gx rfl)
  have k2500 : H2482 m 13 = H m 13 := (f2487 m 13 _ gm rfl)
  have k2501 : H2482 x 8 = H x 8 := (f2487 x 8 _ gx rfl)
  have k2502 : H2482 m 3 = H m 3 := (f2487 m 3 _ gm rfl)
  refine wl_of hX hb cL_822 (xc_V (pc' := 825) (r := m) (as := [vI (H2482 0 ((i + 1).toNat)), vI (H2482 0 ((i + 2).toNat))]) (st := []) (lm_11_108) rfl rfl (Nat.le_of_ble_eq_true rfl) w2486 gm sh_42 (by decide) rfl (by decide) (s_252 w2486 gm ⟨by omega, by omega⟩ ⟨by omega, by omega⟩ (by omega)) (fun R2503 T2504 H2505 p2506 => ?_))
  obtain ⟨e2507, w2509, f2510, z2512, e2508, b2513, p2511⟩ := p2506
  subst e2507
  subst e2508
  show WL _ _ _ _ 825 [(4, vI i), (3, .ref o), (2, .ref m), (1, .ref x), (0, .ref 0)] [vI z2512] _ H2505
  refine wl_of hX hb cL_825 (rw_pop (pc' := 826) rfl rfl ?_)
  refine wl_of hX hb cL_826 (rw_goto (p1 := 1653) (by decide) ?_)
  have k2514 : H2505 x 9 = H2482 x 9 := (f2510 x 9 _ gx rfl)
  have k2515 : H2505 m 6 = H2482 m 6 := (f2510 m 6 _ gm rfl)
  have k2516 : H2505 x 11 = H2482 x 11 := (f2510 x 11 _ gx rfl)
  have k2517 : H2505 m 13 = H2482 m 13 := (f2510 m 13 _ gm rfl)
  have k2518 : H2505 x 8 = H2482 x 8 := (f2510 x 8 _ gx rfl)
  have k2519 : H2505 m 3 = H2482 m 3 := (f2510 m 3 _ gm rfl)
  have h2520 : XI T H2505 x m := (XI_fr w2486 gx f2510 rfl (XI_fr hW gx f2487 rfl hXI))
  exact WL.loc hX (by simp) (next T H2505 ⟨⟨w2509, g0, gx, gm, go, by omega, by omega⟩, h2520, by omega, by omega⟩ (by omega) (by omega))
set_option maxHeartbeats 4000000 in
theorem wl_c21 {kt : Nat → Option mc_E} {CB SB : Nat} {X : mc_S → Prop} {T : wq_T} {H : wq_H} {Len x m o : Nat} {i : Int} (hX : wlX kt CB SB X) (hb : T.2.1 ≤ CB ∧ T.2.2.1 ≤ SB) (hI : wlJ Len x m o T H) (hL : Len ≤ 3072) (hi : 0 ≤ i ∧ i + 6 ≤ Len) (hb2 : T.2.1 + 20 ≤ CB ∧ T.2.2.1 + 500 ≤ SB)  (next : ∀ T' H', wlJ Len x m o T' H' → T'.2.1 ≤ T.2.1 + 20 → T'.2.2.1 ≤ T.2.2.1 + 500 → WL kt CB SB X 1653 (wlL i x m o) [] T' H') : WL kt CB SB X 829 (wlL i x m o) [] T H := by
  obtain ⟨⟨hW, g0, gx, gm, go, hK, hr⟩, hXI, hY1, hY2⟩ := hI
  refine wl_of hX hb cL_829 (rw_aload_n (pc' := 830) (v := .ref x) rfl rfl rfl ?_)
  refine wl_of hX hb cL_830 (rw_aload_n (pc' := 831) (v := .ref 0) rfl rfl rfl ?_)
  refine wl_of hX hb cL_831 (rw_iload (pc' := 833) (z := i) rfl rfl ?_)
  refine wl_of hX hb cL_833 (rw_iconst (pc' := 834) rfl ?_)
  refine wl_of hX hb cL_834 (rw_iadd (pc' := 835) rfl ?_)
  refine wl_of hX hb cL_835 (xa_I (so := 0) (pc' := 836) (a := 0) hW g0 (wsh_s _) (by omega) (wty_s _ _) (by omega) (by omega) rfl (fun b2521 b2522 => ?_))
  refine wl_of hX hb cL_836 (rw_aload_n (pc' := 837) (v := .ref 0) rfl rfl rfl ?_)
  refine wl_of hX hb cL_837 (rw_iload (pc' := 839) (z := i) rfl rfl ?_)
  refine wl_of hX hb cL_839 (rw_iconst (pc' := 840) rfl ?_)
  refine wl_of hX hb cL_840 (rw_iadd (pc' := 841) rfl ?_)
  refine wl_of hX hb cL_841 (xa_I (so := 0) (pc' := 842) (a := 0) hW g0 (wsh_s _) (by omega) (wty_s _ _) (by omega) (by omega) rfl (fun b2523 b2524 => ?_))
  refine wl_of hX hb cL_842 (rw_if_eq (p1 := 849) (p2 := 845) (by decide) rfl ⟨by omega, by omega⟩ (fun c2525 => ?_) (fun c2525 => ?_))
  · refine wl_of hX hb cL_849 (rw_iconst (pc' := 850) rfl ?_)
    refine wl_of hX hb cL_850 (xc_V (pc' := 853) (r := x) (as := [vI (H 0 ((i + 1).toNat)), vI 0]) (st := []) (lm_11_109) rfl rfl (Nat.le_of_ble_eq_true rfl) hW gx sh_1 (by decide) rfl (by decide) (s_104 hW gx ⟨by omega, by omega⟩ ⟨by decide, by decide⟩) (fun R2526 T2527 H2528 p2529 => ?_))
    obtain ⟨e2530, w2532, f2533, z2534, e2531, b2535⟩ := p2529
    subst e2530
    subst e2531
    show WL _ _ _ _ 853 [(4, vI i), (3, .ref o), (2, .ref m), (1, .ref x), (0, .ref 0)] [vI z2534] _ H2528
    refine wl_of hX hb cL_853 (rw_pop (pc' := 854) rfl rfl ?_)
    refine wl_of hX hb cL_854 (rw_aload_n (pc' := 855) (v := .ref m) rfl rfl rfl ?_)
    refine wl_of hX hb cL_855 (rw_aload_n (pc' := 856) (v := .ref 0) rfl rfl rfl ?_)
    refine wl_of hX hb cL_856 (rw_iload (pc' := 858) (z := i) rfl rfl ?_)
    refine wl_of hX hb cL_858 (rw_iconst (pc' := 859) rfl ?_)
    refine wl_of hX hb cL_859 (rw_iadd (pc' := 860) rfl ?_)
    have k2538 : H2528 0 ((i + 1).toNat) = H 0 ((i + 1).toNat) := (f2533 0 ((i + 1).toNat) _ g0 (wmem_s rfl))
    refine wl_of hX hb cL_860 (xa_I (so := 0) (pc' := 861) (a := 0) w2532 g0 (wsh_s _) (by omega) (wty_s _ _) (by omega) (by omega) rfl (fun b2536 b2537 => ?_))
    refine wl_of hX hb cL_861 (rw_aload_n (pc' := 862) (v := .ref 0) rfl rfl rfl ?_)
    refine wl_of hX hb cL_862 (rw_iload (pc' := 864) (z := i) rfl rfl ?_)
    refine wl_of hX hb cL_864 (rw_iconst (pc' := 865) rfl ?_)
    refine wl_of hX hb cL_865 (rw_iadd (pc' := 866) rfl ?_)
    have k2541 : H2528 0 ((i + 2).toNat) = H 0 ((i + 2).toNat) := (f2533 0 ((i + 2).toNat) _ g0 (wmem_s rfl))
    refine wl_of hX hb cL_866 (xa_I (so := 0) (pc' := 867) (a := 0) w2532 g0 (wsh_s _) (by omega) (wty_s _ _) (by omega) (by omega) rfl (fun b2539 b2540 => ?_))
    refine wl_of hX hb cL_867 (rw_if_eq (p1 := 874) (p2 := 870) (by decide) rfl ⟨by omega, by omega⟩ (fun c2542 => ?_) (fun c2542 => ?_))
    · refine wl_of hX hb cL_874 (rw_iconst (pc' := 875) rfl ?_)
      have k2543 : wKI H2528 m = wKI H m := (wKI_fr hW gm f2533 rfl)
      have k2544 : H2528 x 9 = H x 9 := (f2533 x 9 _ gx rfl)
      have k2545 : H2528 m 6 = H m 6 := (f2533 m 6 _ gm rfl)
      have k2546 : H2528 x 11 = H x 11 := (f2533 x 11 _ gx rfl)
      have k2547 : H2528 m 13 = H m 13 := (f2533 m 13 _ gm rfl)
      have k2548 : H2528 x 8 = H x 8 := (f2533 x 8 _ gx rfl)
      have k2549 : H2528 m 3 = H m 3 := (f2533 m 3 _ gm rfl)
      refine wl_of hX hb cL_875 (xc_V (pc' := 878) (r := m) (as := [vI (H2528 0 ((i + 1).toNat)), vI 0]) (st := []) (lm_11_113) rfl rfl (Nat.le_of_ble_eq_true rfl) w2532 gm sh_42 (by decide) rfl (by decide) (s_254 w2532 gm ⟨by omega, by omega⟩ ⟨by decide, by decide⟩ (by omega)) (fun R2550 T2551 H2552 p2553 => ?_))
      obtain ⟨e2554, w2556, f2557, z2559, e2555, b2560, p2558⟩ := p2553
      subst e2554
      subst e2555
      show WL _ _ _ _ 878 [(4, vI i), (3, .ref o), (2, .ref m), (1, .ref x), (0, .ref 0)] [vI z2559] _ H2552
      refine wl_of hX hb cL_878 (rw_pop (pc' := 879) rfl rfl ?_)
      refine wl_of hX hb cL_879 (rw_goto (p1 := 1653) (by decide) ?_)
      have k2561 : H2552 x 9 = H2528 x 9 := (f2557 x 9 _ gx rfl)
      have k2562 : H2552 m 6 = H2528 m 6 := (f2557 m 6 _ gm rfl)
      have k2563 : H2552 x 11 = H2528 x 11 := (f2557 x 11 _ gx rfl)
      have k2564 : H2552 m 13 = H2528 m 13 := (f2557 m 13 _ gm rfl)
      have k2565 : H2552 x 8 = H2528 x 8 := (f2557 x 8 _ gx rfl)
      have k2566 : H2552 m 3 = H2528 m 3 := (f2557 m 3 _ gm rfl)
      have h2567 : XI T H2552 x m := (XI_fr w2532 gx f2557 rfl (XI_fr hW gx f2533 rfl hXI))
      exact WL.loc hX (by simp) (next T H2552 ⟨⟨w2556, g0, gx, gm, go, by omega, by omega⟩, h2567, by omega, by omega⟩ (by omega) (by omega))
    · exfalso
      omega
  · refine wl_of hX hb cL_845 (rw_iconst (pc' := 846) rfl ?_)
    refine wl_of hX hb cL_846 (rw_goto (p1 := 850) (by decide) ?_)
    refine wl_of hX hb cL_850 (xc_V (pc' := 853) (r := x) (as := [vI (H 0 ((i + 1).toNat)), vI 1]) (st := []) (lm_11_109) rfl rfl (Nat.le_of_ble_eq_true rfl) hW gx sh_1 (by decide) rfl (by decide) (s_104 hW gx ⟨by omega, by omega⟩ ⟨by decide, by decide⟩) (fun R2568 T2569 H2570 p2571 => ?_))
    obtain ⟨e2572, w2574, f2575, z2576, e2573, b2577⟩ := p2571
    subst e2572
    subst e2573
    show WL _ _ _ _ 853 [(4, vI i), (3, .ref o), (2, .ref m), (1, .ref x), (0, .ref 0)] [vI z2576] _ H2570
    refine wl_of hX hb cL_853 (rw_pop (pc' := 854) rfl rfl ?_)
    refine wl_of hX hb cL_854 (rw_aload_n (pc' := 855) (v := .ref m) rfl rfl rfl ?_)
    refine wl_of hX hb cL_855 (rw_aload_n (pc' := 856) (v := .ref 0) rfl rfl rfl ?_)
    refine wl_of hX hb cL_856 (rw_iload (pc' := 858) (z := i) rfl rfl ?_)
    refine wl_of hX hb cL_858 (rw_iconst (pc' := 859) rfl ?_)
    refine wl_of hX hb cL_859 (rw_iadd (pc' := 860) rfl ?_)
    have k2580 : H2570 0 ((i + 1).toNat) = H 0 ((i + 1).toNat) := (f2575 0 ((i + 1).toNat) _ g0 (wmem_s rfl))
    refine wl_of hX hb cL_860 (xa_I (so := 0) (pc' := 861) (a := 0) w2574 g0 (wsh_s _) (by omega) (wty_s _ _) (by omega) (by omega) rfl (fun b2578 b2579 => ?_))
    refine wl_of hX hb cL_861 (rw_aload_n (pc' := 862) (v := .ref 0) rfl rfl rfl ?_)
    refine wl_of hX hb cL_862 (rw_iload (pc' := 864) (z := i) rfl rfl ?_)
    refine wl_of hX hb cL_864 (rw_iconst (pc' := 865) rfl ?_)
    refine wl_of hX hb cL_865 (rw_iadd (pc' := 866) rfl ?_)
    have k2583 : H2570 0 ((i + 2).toNat) = H 0 ((i + 2).toNat) := (f2575 0 ((i + 2).toNat) _ g0 (wmem_s rfl))
    refine wl_of hX hb cL_866 (xa_I (so := 0) (pc' := 867) (a := 0) w2574 g0 (wsh_s _) (by omega) (wty_s _ _) (by omega) (by omega) rfl (fun b2581 b2582 => ?_))
    refine wl_of hX hb cL_867 (rw_if_eq (p1 := 874) (p2 := 870) (by decide) rfl ⟨by omega, by omega⟩ (fun c2584 => ?_) (fun c2584 => ?_))
    · refine wl_of hX hb cL_874 (rw_iconst (pc' := 875) rfl ?_)
      have k2585 : wKI H2570 m = wKI H m := (wKI_fr hW gm f2575 rfl)
      have k2586 : H2570 x 9 = H x 9 := (f2575 x 9 _ gx rfl)
      have k2587 : H2570 m 6 = H m 6 := (f2575 m 6 _ gm rfl)
      have k2588 : H2570 x 11 = H x 11 := (f2575 x 11 _ gx rfl)
      have k2589 : H2570 m 13 = H m 13 := (f2575 m 13 _ gm rfl)
      have k2590 : H2570 x 8 = H x 8 := (f2575 x 8 _ gx rfl)
      have k2591 : H2570 m 3 = H m 3 := (f2575 m 3 _ gm rfl)
      refine wl_of hX hb cL_875 (xc_V (pc' := 878) (r := m) (as := [vI (H2570 0 ((i + 1).toNat)), vI 0]) (st := []) (lm_11_113) rfl rfl (Nat.le_of_ble_eq_true rfl) w2574 gm sh_42 (by decide) rfl (by decide) (s_254 w2574 gm ⟨by omega, by omega⟩ ⟨by decide, by decide⟩ (by omega)) (fun R2592 T2593 H2594 p2595 => ?_))
      obtain ⟨e2596, w2598, f2599, z2601, e2597, b2602, p2600⟩ := p2595
      subst e2596
      subst e2597
      show WL _ _ _ _ 878 [(4, vI i), (3, .ref o), (2, .ref m), (1, .ref x), (0, .ref 0)] [vI z2601] _ H2594
      refine wl_of hX hb cL_878 (rw_pop (pc' := 879) rfl rfl ?_)
      refine wl_of hX hb cL_879 (rw_goto (p1 := 1653) (by decide) ?_)
      have k2603 : H2594 x 9 = H2570 x 9 := (f2599 x 9 _ gx rfl)
      have k2604 : H2594 m 6 = H2570 m 6 := (f2599 m 6 _ gm rfl)
      have k2605 : H2594 x 11 = H2570 x 11 := (f2599 x 11 _ gx rfl)
      have k2606 : H2594 m 13 = H2570 m 13 := (f2599 m 13 _ gm rfl)
      have k2607 : H2594 x 8 = H2570 x 8 := (f2599 x 8 _ gx rfl)
      have k2608 : H2594 m 3 = H2570 m 3 := (f2599 m 3 _ gm rfl)
      have h2609 : XI T H2594 x m := (XI_fr w2574 gx f2599 rfl (XI_fr hW gx f2575 rfl hXI))
      exact WL.loc hX (by simp) (next T H2594 ⟨⟨w2598, g0, gx, gm, go, by omega, by omega⟩, h2609, by omega, by omega⟩ (by omega) (by omega))
    · refine wl_of hX hb cL_870 (rw_iconst (pc' := 871) rfl ?_)
      refine wl_of hX hb cL_871 (rw_goto (p1 := 875) (by decide) ?_)
      have k2610 : wKI H2570 m = wKI H m := (wKI_fr hW gm f2575 rfl)
      have k2611 : H2570 x 9 = H x 9 := (f2575 x 9 _ gx rfl)
      have k2612 : H2570 m 6 = H m 6 := (f2575 m 6 _ gm rfl)
      have k2613 : H2570 x 11 = H x 11 := (f2575 x 11 _ gx rfl)
      have k2614 : H2570 m 13 = H m 13 := (f2575 m 13 _ gm rfl)
      have k2615 : H2570 x 8 = H x 8 := (f2575 x 8 _ gx rfl)
      have k2616 : H2570 m 3 = H m 3 := (f2575 m 3 _ gm rfl)
      refine wl_of hX hb cL_875 (xc_V (pc' := 878) (r := m) (as := [vI (H2570 0 ((i + 1).toNat)), vI 1]) (st := []) (lm_11_113) rfl rfl (Nat.le_of_ble_eq_true rfl) w2574 gm sh_42 (by decide) rfl (by decide) (s_254 w2574 gm ⟨by omega, by omega⟩ ⟨by decide, by decide⟩ (by omega)) (fun R2617 T2618 H2619 p2620 => ?_))
      obtain ⟨e2621, w2623, f2624, z2626, e2622, b2627, p2625⟩ := p2620
      subst e2621
      subst e2622
      show WL _ _ _ _ 878 [(4, vI i), (3, .ref o), (2, .ref m), (1, .ref x), (0, .ref 0)] [vI z2626] _ H2619
      refine wl_of hX hb cL_878 (rw_pop (pc' := 879) rfl rfl ?_)
      refine wl_of hX hb cL_879 (rw_goto (p1 := 1653) (by decide) ?_)
      have k2628 : H2619 x 9 = H2570 x 9 := (f2624 x 9 _ gx rfl)
      have k2629 : H2619 m 6 = H2570 m 6 := (f2624 m 6 _ gm rfl)
      have k2630 : H2619 x 11 = H2570 x 11 := (f2624 x 11 _ gx rfl)
      have k2631 : H2619 m 13 = H2570 m 13 := (f2624 m 13 _ gm rfl)
      have k2632 : H2619 x 8 = H2570 x 8 := (f2624 x 8 _ gx rfl)
      have k2633 : H2619 m 3 = H2570 m 3 := (f2624 m 3 _ gm rfl)
      have h2634 : XI T H2619 x m := (XI_fr w2574 gx f2624 rfl (XI_fr hW gx f2575 rfl hXI))
      exact WL.loc hX (by simp) (next T H2619 ⟨⟨w2623, g0, gx, gm, go, by omega, by omega⟩, h2634, by omega, by omega⟩ (by omega) (by omega))
set_option maxHeartbeats 4000000 in
theorem wl_c22 {kt : Nat → Option mc_E} {CB SB : Nat} {X : mc_S → Prop} {T : wq_T} {H : wq_H} {Len x m o : Nat} {i : Int} (hX : wlX kt CB SB X) (hb : T.2.1 ≤ CB ∧ T.2.2.1 ≤ SB) (hI : wlJ Len x m o T H) (hL : Len ≤ 3072) (hi : 0 ≤ i ∧ i + 6 ≤ Len) (hb2 : T.2.1 + 20 ≤ CB ∧ T.2.2.1 + 500 ≤ SB)  (next : ∀ T' H', wlJ Len x m o T' H' → T'.2.1 ≤ T.2.1 + 20 → T'.2.2.1 ≤ T.2.2.1 + 500 → WL kt CB SB X 1653 (wlL i x m o) [] T' H') : WL kt CB SB X 882 (wlL i x m o) [] T H := by
  obtain ⟨⟨hW, g0, gx, gm, go, hK, hr⟩, hXI, hY1, hY2⟩ := hI
  refine wl_of hX hb cL_882 (rw_aload_n (pc' := 883) (v := .ref x) rfl rfl rfl ?_)
  refine wl_of hX hb cL_883 (rw_aload_n (pc' := 884) (v := .ref 0) rfl rfl rfl ?_)
  refine wl_of hX hb cL_884 (rw_iload (pc' := 886) (z := i) rfl rfl ?_)
  refine wl_of hX hb cL_886 (rw_iconst (pc' := 887) rfl ?_)
  refine wl_of hX hb cL_887 (rw_iadd (pc' := 888) rfl ?_)
  refine wl_of hX hb cL_888 (xa_I (so := 0) (pc' := 889) (a := 0) hW g0 (wsh_s _) (by omega) (wty_s _ _) (by omega) (by omega) rfl (fun b2635 b2636 => ?_))
  refine wl_of hX hb cL_889 (rw_aload_n (pc' := 890) (v := .ref 0) rfl rfl rfl ?_)
  refine wl_of hX hb cL_890 (rw_iload (pc' := 892) (z := i) rfl rfl ?_)
  refine wl_of hX hb cL_892 (rw_iconst (pc' := 893) rfl ?_)
  refine wl_of hX hb cL_893 (rw_iadd (pc' := 894) rfl ?_)
  refine wl_of hX hb cL_894 (xa_I (so := 0) (pc' := 895) (a := 0) hW g0 (wsh_s _) (by omega) (wty_s _ _) (by omega) (by omega) rfl (fun b2637 b2638 => ?_))
  refine wl_of hX hb cL_895 (xc_V (pc' := 898) (r := x) (as := [vI (H 0 ((i + 1).toNat)), vI (H 0 ((i + 2).toNat))]) (st := []) (lm_11_114) rfl rfl (Nat.le_of_ble_eq_true rfl) hW gx sh_1 (by decide) rfl (by decide) (s_105 hW gx ⟨by omega, by omega⟩ ⟨by omega, by omega⟩) (fun R2639 T2640 H2641 p2642 => ?_))
  obtain ⟨e2643, w2645, f2646, z2647, e2644, b2648⟩ := p2642
  subst e2643
  subst e2644
  show WL _ _ _ _ 898 [(4, vI i), (3, .ref o), (2, .ref m), (1, .ref x), (0, .ref 0)] [vI z2647] _ H2641
  refine wl_of hX hb cL_898 (rw_pop (pc' := 899) rfl rfl ?_)
  refine wl_of hX hb cL_899 (rw_aload_n (pc' := 900) (v := .ref m) rfl rfl rfl ?_)
  refine wl_of hX hb cL_900 (rw_aload_n (pc' := 901) (v := .ref 0) rfl rfl rfl ?_)
  refine wl_of hX hb cL_901 (rw_iload (pc' := 903) (z := i) rfl rfl ?_)
  refine wl_of hX hb cL_903 (rw_iconst (pc' := 904) rfl ?_)
  refine wl_of hX hb cL_904 (rw_iadd (pc' := 905) rfl ?_)
  have k2651 : H2641 0 ((i + 1).toNat) = H 0 ((i + 1).toNat) := (f2646 0 ((i + 1).toNat) _ g0 (wmem_s rfl))
  refine wl_of hX hb cL_905 (xa_I (so := 0) (pc' := 906) (a := 0) w2645 g0 (wsh_s _) (by omega) (wty_s _ _) (by omega) (by omega) rfl (fun b2649 b2650 => ?_))
  refine wl_of hX hb cL_906 (rw_aload_n (pc' := 907) (v := .ref 0) rfl rfl rfl ?_)
  refine wl_of hX hb cL_907 (rw_iload (pc' := 909) (z := i) rfl rfl ?_)
  refine wl_of hX hb cL_909 (rw_iconst (pc' := 910) rfl ?_)
  refine wl_of hX hb cL_910 (rw_iadd (pc' := 911) rfl ?_)
  have k2654 : H2641 0 ((i + 2).toNat) = H 0 ((i + 2).toNat) := (f2646 0 ((i + 2).toNat) _ g0 (wmem_s rfl))
  refine wl_of hX hb cL_911 (xa_I (so := 0) (pc' := 912) (a := 0) w2645 g0 (wsh_s _) (by omega) (wty_s _ _) (by omega) (by omega) rfl (fun b2652 b2653 => ?_))
  have k2655 : wKI H2641 m = wKI H m := (wKI_fr hW gm f2646 rfl)
  have k2656 : H2641 x 9 = H x 9 := (f2646 x 9 _ gx rfl)
  have k2657 : H2641 m 6 = H m 6 := (f2646 m 6 _ gm rfl)
  have k2658 : H2641 x 11 = H x 11 := (f2646 x 11 _ gx rfl)
  have k2659 : H2641 m 13 = H m 13 := (f2646 m 13 _ gm rfl)
  have k2660 : H2641 x 8 = H x 8 := (f2646 x 8 _ gx rfl)
  have k2661 : H2641 m 3 = H m 3 := (f2646 m 3 _ gm rfl)
  refine wl_of hX hb cL_912 (xc_V (pc' := 915) (r := m) (as := [vI (H2641 0 ((i + 1).toNat)), vI (H2641 0 ((i + 2).toNat))]) (st := []) (lm_11_117) rfl rfl (Nat.le_of_ble_eq_true rfl) w2645 gm sh_42 (by decide) rfl (by decide) (s_255 w2645 gm ⟨by omega, by omega⟩ ⟨by omega, by omega⟩ (by omega)) (fun R2662 T2663 H2664 p2665 => ?_))
  obtain ⟨e2666, w2668, f2669, z2671, e2667, b2672, p2670⟩ := p2665
  subst e2666
  subst e2667
  show WL _ _ _ _ 915 [(4, vI i), (3, .ref o), (2, .ref m), (1, .ref x), (0, .ref 0)] [vI z2671] _ H2664
  refine wl_of hX hb cL_915 (rw_pop (pc' := 916) rfl rfl ?_)
  refine wl_of hX hb cL_916 (rw_goto (p1 := 1653) (by decide) ?_)
  have k2673 : H2664 x 9 = H2641 x 9 := (f2669 x 9 _ gx rfl)
  have k2674 : H2664 m 6 = H2641 m 6 := (f2669 m 6 _ gm rfl)
  have k2675 : H2664 x 11 = H2641 x 11 := (f2669 x 11 _ gx rfl)
  have k2676 : H2664 m 13 = H2641 m 13 := (f2669 m 13 _ gm rfl)
  have k2677 : H2664 x 8 = H2641 x 8 := (f2669 x 8 _ gx rfl)
  have k2678 : H2664 m 3 = H2641 m 3 := (f2669 m 3 _ gm rfl)
  have h2679 : XI T H2664 x m := (XI_fr w2645 gx f2669 rfl (XI_fr hW gx f2646 rfl hXI))
  exact WL.loc hX (by simp) (next T H2664 ⟨⟨w2668, g0, gx, gm, go, by omega, by omega⟩, h2679, by omega, by omega⟩ (by omega) (by omega))
set_option maxHeartbeats 4000000 in
theorem wl_c23 {kt : Nat → Option mc_E} {CB SB : Nat} {X : mc_S → Prop} {T : wq_T} {H : wq_H} {Len x m o : Nat} {i : Int} (hX : wlX kt CB SB X) (hb : T.2.1 ≤ CB ∧ T.2.2.1 ≤ SB) (hI : wlJ Len x m o T H) (hL : Len ≤ 3072) (hi : 0 ≤ i ∧ i + 6 ≤ Len) (hb2 : T.2.1 + 20 ≤ CB ∧ T.2.2.1 + 500 ≤ SB)  (next : ∀ T' H', wlJ Len x m o T' H' → T'.2.1 ≤ T.2.1 + 20 → T'.2.2.1 ≤ T.2.2.1 + 500 → WL kt CB SB X 1653 (wlL i x m o) [] T' H') : WL kt CB SB X 919 (wlL i x m o) [] T H := by
  obtain ⟨⟨hW, g0, gx, gm, go, hK, hr⟩, hXI, hY1, hY2⟩ := hI
  refine wl_of hX hb cL_919 (rw_aload_n (pc' := 920) (v := .ref x) rfl rfl rfl ?_)
  refine wl_of hX hb cL_920 (rw_aload_n (pc' := 921) (v := .ref 0) rfl rfl rfl ?_)
  refine wl_of hX hb cL_921 (rw_iload (pc' := 923) (z := i) rfl rfl ?_)
  refine wl_of hX hb cL_923 (rw_iconst (pc' := 924) rfl ?_)
  refine wl_of hX hb cL_924 (rw_iadd (pc' := 925) rfl ?_)
  refine wl_of hX hb cL_925 (xa_I (so := 0) (pc' := 926) (a := 0) hW g0 (wsh_s _) (by omega) (wty_s _ _) (by omega) (by omega) rfl (fun b2680 b2681 => ?_))
  refine wl_of hX hb cL_926 (xc_V (pc' := 929) (r := x) (as := [vI (H 0 ((i + 1).toNat))]) (st := []) (lm_11_118) rfl rfl (Nat.le_of_ble_eq_true rfl) hW gx sh_1 (by decide) rfl (by decide) (s_107 hW gx ⟨by omega, by omega⟩) (fun R2682 T2683 H2684 p2685 => ?_))
  obtain ⟨e2686, w2688, f2689, z2690, e2687, b2691⟩ := p2685
  subst e2686
  subst e2687
  show WL _ _ _ _ 929 [(4, vI i), (3, .ref o), (2, .ref m), (1, .ref x), (0, .ref 0)] [vI z2690] _ H2684
  refine wl_of hX hb cL_929 (rw_pop (pc' := 930) rfl rfl ?_)
  refine wl_of hX hb cL_930 (rw_aload_n (pc' := 931) (v := .ref m) rfl rfl rfl ?_)
  refine wl_of hX hb cL_931 (rw_aload_n (pc' := 932) (v := .ref 0) rfl rfl rfl ?_)
  refine wl_of hX hb cL_932 (rw_iload (pc' := 934) (z := i) rfl rfl ?_)
  refine wl_of hX hb cL_934 (rw_iconst (pc' := 935) rfl ?_)
  refine wl_of hX hb cL_935 (rw_iadd (pc' := 936) rfl ?_)
  have k2694 : H2684 0 ((i + 1).toNat) = H 0 ((i + 1).toNat) := (f2689 0 ((i + 1).toNat) _ g0 (wmem_s rfl))
  refine wl_of hX hb cL_936 (xa_I (so := 0) (pc' := 937) (a := 0) w2688 g0 (wsh_s _) (by omega) (wty_s _ _) (by omega) (by omega) rfl (fun b2692 b2693 => ?_))
  have k2695 : wKI H2684 m = wKI H m := (wKI_fr hW gm f2689 rfl)
  have k2696 : H2684 x 9 = H x 9 := (f2689 x 9 _ gx rfl)
  have k2697 : H2684 m 6 = H m 6 := (f2689 m 6 _ gm rfl)
  have k2698 : H2684 x 11 = H x 11 := (f2689 x 11 _ gx rfl)
  have k2699 : H2684 m 13 = H m 13 := (f2689 m 13 _ gm rfl)
  have k2700 : H2684 x 8 = H x 8 := (f2689 x 8 _ gx rfl)
  have k2701 : H2684 m 3 = H m 3 := (f2689 m 3 _ gm rfl)
  refine wl_of hX hb cL_937 (xc_V (pc' := 940) (r := m) (as := [vI (H2684 0 ((i + 1).toNat))]) (st := []) (lm_11_121) rfl rfl (Nat.le_of_ble_eq_true rfl) w2688 gm sh_42 (by decide) rfl (by decide) (s_256 w2688 gm ⟨by omega, by omega⟩ (by omega)) (fun R2702 T2703 H2704 p2705 => ?_))
  obtain ⟨e2706, w2708, f2709, z2711, e2707, b2712, p2710⟩ := p2705
  subst e2706
  subst e2707
  show WL _ _ _ _ 940 [(4, vI i), (3, .ref o), (2, .ref m), (1, .ref x), (0, .ref 0)] [vI z2711] _ H2704
  refine wl_of hX hb cL_940 (rw_pop (pc' := 941) rfl rfl ?_)
  refine wl_of hX hb cL_941 (rw_goto (p1 := 1653) (by decide) ?_)
  have k2713 : H2704 x 9 = H2684 x 9 := (f2709 x 9 _ gx rfl)
  have k2714 : H2704 m 6 = H2684 m 6 := (f2709 m 6 _ gm rfl)
  have k2715 : H2704 x 11 = H2684 x 11 := (f2709 x 11 _ gx rfl)
  have k2716 : H2704 m 13 = H2684 m 13 := (f2709 m 13 _ gm rfl)
  have k2717 : H2704 x 8 = H2684 x 8 := (f2709 x 8 _ gx rfl)
  have k2718 : H2704 m 3 = H2684 m 3 := (f2709 m 3 _ gm rfl)
  have h2719 : XI T H2704 x m := (XI_fr w2688 gx f2709 rfl (XI_fr hW gx f2689 rfl hXI))
  exact WL.loc hX (by simp) (next T H2704 ⟨⟨w2708, g0, gx, gm, go, by omega, by omega⟩, h2719, by omega, by omega⟩ (by omega) (by omega))
set_option maxHeartbeats 4000000 in
theorem wl_c24 {kt : Nat → Option mc_E} {CB SB : Nat} {X : mc_S → Prop} {T : wq_T} {H : wq_H} {Len x m o : Nat} {i : Int} (hX : wlX kt CB SB X) (hb : T.2.1 ≤ CB ∧ T.2.2.1 ≤ SB) (hI : wlJ Len x m o T H) (hL : Len ≤ 3072) (hi : 0 ≤ i ∧ i + 6 ≤ Len) (hb2 : T.2.1 + 20 ≤ CB ∧ T.2.2.1 + 500 ≤ SB)  (next : ∀ T' H', wlJ Len x m o T' H' → T'.2.1 ≤ T.2.1 + 20 → T'.2.2.1 ≤ T.2.2.1 + 500 → WL kt CB SB X 1653 (wlL i x m o) [] T' H') : WL kt CB SB X 944 (wlL i x m o) [] T H := by
  obtain ⟨⟨hW, g0, gx, gm, go, hK, hr⟩, hXI, hY1, hY2⟩ := hI
  refine wl_of hX hb cL_944 (rw_aload_n (pc' := 945) (v := .ref x) rfl rfl rfl ?_)
  refine wl_of hX hb cL_945 (xc_V (pc' := 948) (r := x) (as := []) (st := []) (lm_11_122) rfl rfl (Nat.le_of_ble_eq_true rfl) hW gx sh_1 (by decide) rfl (by decide) (s_108 hW gx) (fun R2720 T2721 H2722 p2723 => ?_))
  obtain ⟨e2724, w2726, f2727, z2728, e2725, b2729⟩ := p2723
  subst e2724
  subst e2725
  show WL _ _ _ _ 948 [(4, vI i), (3, .ref o), (2, .ref m), (1, .ref x), (0, .ref 0)] [vL z2728] _ H2722
  refine wl_of hX hb cL_948 (rw_pop2 (pc' := 949) rfl rfl ?_)
  refine wl_of hX hb cL_949 (rw_aload_n (pc' := 950) (v := .ref m) rfl rfl rfl ?_)
  have k2730 : wKI H2722 m = wKI H m := (wKI_fr hW gm f2727 rfl)
  have k2731 : H2722 x 9 = H x 9 := (f2727 x 9 _ gx rfl)
  have k2732 : H2722 m 6 = H m 6 := (f2727 m 6 _ gm rfl)
  have k2733 : H2722 x 11 = H x 11 := (f2727 x 11 _ gx rfl)
  have k2734 : H2722 m 13 = H m 13 := (f2727 m 13 _ gm rfl)
  have k2735 : H2722 x 8 = H x 8 := (f2727 x 8 _ gx rfl)
  have k2736 : H2722 m 3 = H m 3 := (f2727 m 3 _ gm rfl)
  refine wl_of hX hb cL_950 (xc_V (pc' := 953) (r := m) (as := []) (st := []) (lm_11_125) rfl rfl (Nat.le_of_ble_eq_true rfl) w2726 gm sh_42 (by decide) rfl (by decide) (s_258 w2726 gm (by omega)) (fun R2737 T2738 H2739 p2740 => ?_))
  obtain ⟨e2741, w2743, f2744, z2746, e2742, b2747, p2745⟩ := p2740
  subst e2741
  subst e2742
  show WL _ _ _ _ 953 [(4, vI i), (3, .ref o), (2, .ref m), (1, .ref x), (0, .ref 0)] [vL z2746] _ H2739
  refine wl_of hX hb cL_953 (rw_pop2 (pc' := 954) rfl rfl ?_)
  refine wl_of hX hb cL_954 (rw_goto (p1 := 1653) (by decide) ?_)
  have k2748 : H2739 x 9 = H2722 x 9 := (f2744 x 9 _ gx rfl)
  have k2749 : H2739 m 6 = H2722 m 6 := (f2744 m 6 _ gm rfl)
  have k2750 : H2739 x 11 = H2722 x 11 := (f2744 x 11 _ gx rfl)
  have k2751 : H2739 m 13 = H2722 m 13 := (f2744 m 13 _ gm rfl)
  have k2752 : H2739 x 8 = H2722 x 8 := (f2744 x 8 _ gx rfl)
  have k2753 : H2739 m 3 = H2722 m 3 := (f2744 m 3 _ gm rfl)
  have h2754 : XI T H2739 x m := (XI_fr w2726 gx f2744 rfl (XI_fr hW gx f2727 rfl hXI))
  exact WL.loc hX (by simp) (next T H2739 ⟨⟨w2743, g0, gx, gm, go, by omega, by omega⟩, h2754, by omega, by omega⟩ (by omega) (by omega))
set_option maxHeartbeats 4000000 in
theorem wl_c25 {kt : Nat → Option mc_E} {CB SB : Nat} {X : mc_S → Prop} {T : wq_T} {H : wq_H} {Len x m o : Nat} {i : Int} (hX : wlX kt CB SB X) (hb : T.2.1 ≤ CB ∧ T.2.2.1 ≤ SB) (hI : wlJ Len x m o T H) (hL : Len ≤ 3072) (hi : 0 ≤ i ∧ i + 6 ≤ Len) (hb2 : T.2.1 + 20 ≤ CB ∧ T.2.2.1 + 500 ≤ SB)  (next : ∀ T' H', wlJ Len x m o T' H' → T'.2.1 ≤ T.2.1 + 20 → T'.2.2.1 ≤ T.2.2.1 + 500 → WL kt CB SB X 1653 (wlL i x m o) [] T' H') : WL kt CB SB X 957 (wlL i x m o) [] T H := by
  obtain ⟨⟨hW, g0, gx, gm, go, hK, hr⟩, hXI, hY1, hY2⟩ := hI
  refine wl_of hX hb cL_957 (rw_aload_n (pc' := 958) (v := .ref x) rfl rfl rfl ?_)
  refine wl_of hX hb cL_958 (rw_aload_n (pc' := 959) (v := .ref 0) rfl rfl rfl ?_)
  refine wl_of hX hb cL_959 (rw_iload (pc' := 961) (z := i) rfl rfl ?_)
  refine wl_of hX hb cL_961 (rw_iconst (pc' := 962) rfl ?_)
  refine wl_of hX hb cL_962 (rw_iadd (pc' := 963) rfl ?_)
  refine wl_of hX hb cL_963 (xa_I (so := 0) (pc' := 964) (a := 0) hW g0 (wsh_s _) (by omega) (wty_s _ _) (by omega) (by omega) rfl (fun b2755 b2756 => ?_))
  refine wl_of hX hb cL_964 (rw_aload_n (pc' := 965) (v := .ref 0) rfl rfl rfl ?_)
  refine wl_of hX hb cL_965 (rw_iload (pc' := 967) (z := i) rfl rfl ?_)
  refine wl_of hX hb cL_967 (rw_iconst (pc' := 968) rfl ?_)
  refine wl_of hX hb cL_968 (rw_iadd (pc' := 969) rfl ?_)
  refine wl_of hX hb cL_969 (xa_I (so := 0) (pc' := 970) (a := 0) hW g0 (wsh_s _) (by omega) (wty_s _ _) (by omega) (by omega) rfl (fun b2757 b2758 => ?_))
  refine wl_of hX hb cL_970 (xc_V (pc' := 973) (r := x) (as := [vI (H 0 ((i + 1).toNat)), vI (H 0 ((i + 2).toNat))]) (st := []) (lm_11_126) rfl rfl (Nat.le_of_ble_eq_true rfl) hW gx sh_1 (by decide) rfl (by decide) (s_109 hW gx ⟨by omega, by omega⟩ ⟨by omega, by omega⟩) (fun R2759 T2760 H2761 p2762 => ?_))
  obtain ⟨e2763, w2765, f2766, z2767, e2764, b2768⟩ := p2762
  subst e2763
  subst e2764
  show WL _ _ _ _ 973 [(4, vI i), (3, .ref o), (2, .ref m), (1, .ref x), (0, .ref 0)] [vI z2767] _ H2761
  refine wl_of hX hb cL_973 (rw_pop (pc' := 974) rfl rfl ?_)
  refine wl_of hX hb cL_974 (rw_aload_n (pc' := 975) (v := .ref m) rfl rfl rfl ?_)
  refine wl_of hX hb cL_975 (rw_aload_n (pc' := 976) (v := .ref 0) rfl rfl rfl ?_)
  refine wl_of hX hb cL_976 (rw_iload (pc' := 978) (z := i) rfl rfl ?_)
  refine wl_of hX hb cL_978 (rw_iconst (pc' := 979) rfl ?_)
  refine wl_of hX hb cL_979 (rw_iadd (pc' := 980) rfl ?_)
  have k2771 : H2761 0 ((i + 1).toNat) = H 0 ((i + 1).toNat) := (f2766 0 ((i + 1).toNat) _ g0 (wmem_s rfl))
  refine wl_of hX hb cL_980 (xa_I (so := 0) (pc' := 981) (a := 0) w2765 g0 (wsh_s _) (by omega) (wty_s _ _) (by omega) (by omega) rfl (fun b2769 b2770 => ?_))
  refine wl_of hX hb cL_981 (rw_aload_n (pc' := 982) (v := .ref 0) rfl rfl rfl ?_)
  refine wl_of hX hb cL_982 (rw_iload (pc' := 984) (z := i) rfl rfl ?_)
  refine wl_of hX hb cL_984 (rw_iconst (pc' := 985) rfl ?_)
  refine wl_of hX hb cL_985 (rw_iadd (pc' := 986) rfl ?_)
  have k2774 : H2761 0 ((i + 2).toNat) = H 0 ((i + 2).toNat) := (f2766 0 ((i + 2).toNat) _ g0 (wmem_s rfl))
  refine wl_of hX hb cL_986 (xa_I (so := 0) (pc' := 987) (a := 0) w2765 g0 (wsh_s _) (by omega) (wty_s _ _) (by omega) (by omega) rfl (fun b2772 b2773 => ?_))
  have k2775 : wKI H2761 m = wKI H m := (wKI_fr hW gm f2766 rfl)
  have k2776 : H2761 x 9 = H x 9 := (f2766 x 9 _ gx rfl)
  have k2777 : H2761 m 6 = H m 6 := (f2766 m 6 _ gm rfl)
  have k2778 : H2761 x 11 = H x 11 := (f2766 x 11 _ gx rfl)
  have k2779 : H2761 m 13 = H m 13 := (f2766 m 13 _ gm rfl)
  have k2780 : H2761 x 8 = H x 8 := (f2766 x 8 _ gx rfl)
  have k2781 : H2761 m 3 = H m 3 := (f2766 m 3 _ gm rfl)
  refine wl_of hX hb cL_987 (xc_V (pc' := 990) (r := m) (as := [vI (H2761 0 ((i + 1).toNat)), vI (H2761 0 ((i + 2).toNat))]) (st := []) (lm_11_129) rfl rfl (Nat.le_of_ble_eq_true rfl) w2765 gm sh_42 (by decide) rfl (by decide) (s_259 w2765 gm ⟨by omega, by omega⟩ ⟨by omega, by omega⟩ (by omega)) (fun R2782 T2783 H2784 p2785 => ?_))
  obtain ⟨e2786, w2788, f2789, z2791, e2787, b2792, p2790⟩ := p2785
  subst e2786
  subst e2787
  show WL _ _ _ _ 990 [(4, vI i), (3, .ref o), (2, .ref m), (1, .ref x), (0, .ref 0)] [vI z2791] _ H2784
  refine wl_of hX hb cL_990 (rw_pop (pc' := 991) rfl rfl ?_)
  refine wl_of hX hb cL_991 (rw_goto (p1 := 1653) (by decide) ?_)
  have k2793 : H2784 x 9 = H2761 x 9 := (f2789 x 9 _ gx rfl)
  have k2794 : H2784 m 6 = H2761 m 6 := (f2789 m 6 _ gm rfl)
  have k2795 : H2784 x 11 = H2761 x 11 := (f2789 x 11 _ gx rfl)
  have k2796 : H2784 m 13 = H2761 m 13 := (f2789 m 13 _ gm rfl)
  have k2797 : H2784 x 8 = H2761 x 8 := (f2789 x 8 _ gx rfl)
  have k2798 : H2784 m 3 = H2761 m 3 := (f2789 m 3 _ gm rfl)
  have h2799 : XI T H2784 x m := (XI_fr w2765 gx f2789 rfl (XI_fr hW gx f2766 rfl hXI))
  exact WL.loc hX (by simp) (next T H2784 ⟨⟨w2788, g0, gx, gm, go, by omega, by omega⟩, h2799, by omega, by omega⟩ (by omega) (by omega))
set_option maxHeartbeats 4000000 in
theorem wl_c26 {kt : Nat → Option mc_E} {CB SB : Nat} {X : mc_S → Prop} {T : wq_T} {H : wq_H} {Len x m o : Nat} {i : Int} (hX : wlX kt CB SB X) (hb : T.2.1 ≤ CB ∧ T.2.2.1 ≤ SB) (hI : wlJ Len x m o T H) (hL : Len ≤ 3072) (hi : 0 ≤ i ∧ i + 6 ≤ Len) (hb2 : T.2.1 + 20 ≤ CB ∧ T.2.2.1 + 500 ≤ SB)  (next : ∀ T' H', wlJ Len x m o T' H' → T'.2.1 ≤ T.2.1 + 20 → T'.2.2.1 ≤ T.2.2.1 + 500 → WL kt CB SB X 1653 (wlL i x m o) [] T' H') : WL kt CB SB X 994 (wlL i x m o) [] T H := by
  obtain ⟨⟨hW, g0, gx, gm, go, hK, hr⟩, hXI, hY1, hY2⟩ := hI
  refine wl_of hX hb cL_994 (rw_aload_n (pc' := 995) (v := .ref x) rfl rfl rfl ?_)
  refine wl_of hX hb cL_995 (rw_aload_n (pc' := 996) (v := .ref 0) rfl rfl rfl ?_)
  refine wl_of hX hb cL_996 (rw_iload (pc' := 998) (z := i) rfl rfl ?_)
  refine wl_of hX hb cL_998 (rw_iconst (pc' := 999) rfl ?_)
  refine wl_of hX hb cL_999 (rw_iadd (pc' := 1000) rfl ?_)
  refine wl_of hX hb cL_1000 (xa_I (so := 0) (pc' := 1001) (a := 0) hW g0 (wsh_s _) (by omega) (wty_s _ _) (by omega) (by omega) rfl (fun b2800 b2801 => ?_))
  refine wl_of hX hb cL_1001 (xc_V (pc' := 1004) (r := x) (as := [vI (H 0 ((i + 1).toNat))]) (st := []) (lm_11_130) rfl rfl (Nat.le_of_ble_eq_true rfl) hW gx sh_1 (by decide) rfl (by decide) (s_112 hW gx ⟨by omega, by omega⟩) (fun R2802 T2803 H2804 p2805 => ?_))
  obtain ⟨e2806, w2808, f2809, z2810, e2807, b2811⟩ := p2805
  subst e2806
  subst e2807
  show WL _ _ _ _ 1004 [(4, vI i), (3, .ref o), (2, .ref m), (1, .ref x), (0, .ref 0)] [vL z2810] _ H2804
  refine wl_of hX hb cL_1004 (rw_pop2 (pc' := 1005) rfl rfl ?_)
  refine wl_of hX hb cL_1005 (rw_aload_n (pc' := 1006) (v := .ref m) rfl rfl rfl ?_)
  refine wl_of hX hb cL_1006 (rw_aload_n (pc' := 1007) (v := .ref 0) rfl rfl rfl ?_)
  refine wl_of hX hb cL_1007 (rw_iload (pc' := 1009) (z := i) rfl rfl ?_)
  refine wl_of hX hb cL_1009 (rw_iconst (pc' := 1010) rfl ?_)
  refine wl_of hX hb cL_1010 (rw_iadd (pc' := 1011) rfl ?_)
  have k2814 : H2804 0 ((i + 1).toNat) = H 0 ((i + 1).toNat) := (f2809 0 ((i + 1).toNat) _ g0 (wmem_s rfl))
  refine wl_of hX hb cL_1011 (xa_I (so := 0) (pc' := 1012) (a := 0) w2808 g0 (wsh_s _) (by omega) (wty_s _ _) (by omega) (by omega) rfl (fun b2812 b2813 => ?_))
  have k2815 : wKI H2804 m = wKI H m := (wKI_fr hW gm f2809 rfl)
  have k2816 : H2804 x 9 = H x 9 := (f2809 x 9 _ gx rfl)
  have k2817 : H2804 m 6 = H m 6 := (f2809 m 6 _ gm rfl)
  have k2818 : H2804 x 11 = H x 11 := (f2809 x 11 _ gx rfl)
  have k2819 : H2804 m 13 = H m 13 := (f2809 m 13 _ gm rfl)
  have k2820 : H2804 x 8 = H x 8 := (f2809 x 8 _ gx rfl)
  have k2821 : H2804 m 3 = H m 3 := (f2809 m 3 _ gm rfl)
  refine wl_of hX hb cL_1012 (xc_V (pc' := 1015) (r := m) (as := [vI (H2804 0 ((i + 1).toNat))]) (st := []) (lm_11_134) rfl rfl (Nat.le_of_ble_eq_true rfl) w2808 gm sh_42 (by decide) rfl (by decide) (s_260 w2808 gm ⟨by omega, by omega⟩ (by omega)) (fun R2822 T2823 H2824 p2825 => ?_))
  obtain ⟨e2826, w2828, f2829, z2831, e2827, b2832, p2830⟩ := p2825
  subst e2826
  subst e2827
  show WL _ _ _ _ 1015 [(4, vI i), (3, .ref o), (2, .ref m), (1, .ref x), (0, .ref 0)] [vL z2831] _ H2824
  refine wl_of hX hb cL_1015 (rw_pop2 (pc' := 1016) rfl rfl ?_)
  refine wl_of hX hb cL_1016 (rw_goto (p1 := 1653) (by decide) ?_)
  have k2833 : H2824 x 9 = H2804 x 9 := (f2829 x 9 _ gx rfl)
  have k2834 : H2824 m 6 = H2804 m 6 := (f2829 m 6 _ gm rfl)
  have k2835 : H2824 x 11 = H2804 x 11 := (f2829 x 11 _ gx rfl)
  have k2836 : H2824 m 13 = H2804 m 13 := (f2829 m 13 _ gm rfl)
  have k2837 : H2824 x 8 = H2804 x 8 := (f2829 x 8 _ gx rfl)
  have k2838 : H2824 m 3 = H2804 m 3 := (f2829 m 3 _ gm rfl)
  have h2839 : XI T H2824 x m := (XI_fr w2808 gx f2829 rfl (XI_fr hW gx f2809 rfl hXI))
  exact WL.loc hX (by simp) (next T H2824 ⟨⟨w2828, g0, gx, gm, go, by omega, by omega⟩, h2839, by omega, by omega⟩ (by omega) (by omega))
set_option maxHeartbeats 4000000 in
theorem wl_c27 {kt : Nat → Option mc_E} {CB SB : Nat} {X : mc_S → Prop} {T : wq_T} {H : wq_H} {Len x m o : Nat} {i : Int} (hX : wlX kt CB SB X) (hb : T.2.1 ≤ CB ∧ T.2.2.1 ≤ SB) (hI : wlJ Len x m o T H) (hL : Len ≤ 3072) (hi : 0 ≤ i ∧ i + 6 ≤ Len) (hb2 : T.2.1 + 20 ≤ CB ∧ T.2.2.1 + 500 ≤ SB)  (next : ∀ T' H', wlJ Len x m o T' H' → T'.2.1 ≤ T.2.1 + 20 → T'.2.2.1 ≤ T.2.2.1 + 500 → WL kt CB SB X 1653 (wlL i x m o) [] T' H') : WL kt CB SB X 1019 (wlL i x m o) [] T H := by
  obtain ⟨⟨hW, g0, gx, gm, go, hK, hr⟩, hXI, hY1, hY2⟩ := hI
  refine wl_of hX hb cL_1019 (rw_aload_n (pc' := 1020) (v := .ref x) rfl rfl rfl ?_)
  refine wl_of hX hb cL_1020 (rw_aload_n (pc' := 1021) (v := .ref 0) rfl rfl rfl ?_)
  refine wl_of hX hb cL_1021 (rw_iload (pc' := 1023) (z := i) rfl rfl ?_)
  refine wl_of hX hb cL_1023 (rw_iconst (pc' := 1024) rfl ?_)
  refine wl_of hX hb cL_1024 (rw_iadd (pc' := 1025) rfl ?_)
  refine wl_of hX hb cL_1025 (xa_I (so := 0) (pc' := 1026) (a := 0) hW g0 (wsh_s _) (by omega) (wty_s _ _) (by omega) (by omega) rfl (fun b2840 b2841 => ?_))
  refine wl_of hX hb cL_1026 (rw_aload_n (pc' := 1027) (v := .ref 0) rfl rfl rfl ?_)
  refine wl_of hX hb cL_1027 (rw_iload (pc' := 1029) (z := i) rfl rfl ?_)
  refine wl_of hX hb cL_1029 (rw_iconst (pc' := 1030) rfl ?_)
  refine wl_of hX hb cL_1030 (rw_iadd (pc' := 1031) rfl ?_)
  refine wl_of hX hb cL_1031 (xa_I (so := 0) (pc' := 1032) (a := 0) hW g0 (wsh_s _) (by omega) (wty_s _ _) (by omega) (by omega) rfl (fun b2842 b2843 => ?_))
  refine wl_of hX hb cL_1032 (xc_V (pc' := 1035) (r := x) (as := [vI (H 0 ((i + 1).toNat)), vI (H 0 ((i + 2).toNat))]) (st := []) (lm_11_135) rfl rfl (Nat.le_of_ble_eq_true rfl) hW gx sh_1 (by decide) rfl (by decide) (s_114 hW gx ⟨by omega, by omega⟩ ⟨by omega, by omega⟩) (fun R2844 T2845 H2846 p2847 => ?_))
  obtain ⟨e2848, w2850, f2851, z2852, e2849, b2853⟩ := p2847
  subst e2848
  subst e2849
  show WL _ _ _ _ 1035 [(4, vI i), (3, .ref o), (2, .ref m), (1, .ref x), (0, .ref 0)] [vI z2852] _ H2846
  refine wl_of hX hb cL_1035 (rw_pop (pc' := 1036) rfl rfl ?_)
  refine wl_of hX hb cL_1036 (rw_aload_n (pc' := 1037) (v := .ref m) rfl rfl rfl ?_)
  refine wl_of hX hb cL_1037 (rw_aload_n (pc' := 1038) (v := .ref 0) rfl rfl rfl ?_)
  refine wl_of hX hb cL_1038 (rw_iload (pc' := 1040) (z := i) rfl rfl ?_)
  refine wl_of hX hb cL_1040 (rw_iconst (pc' := 1041) rfl ?_)
  refine wl_of hX hb cL_1041 (rw_iadd (pc' := 1042) rfl ?_)
  have k2856 : H2846 0 ((i + 1).toNat) = H 0 ((i + 1).toNat) := (f2851 0 ((i + 1).toNat) _ g0 (wmem_s rfl))
  refine wl_of hX hb cL_1042 (xa_I (so := 0) (pc' := 1043) (a := 0) w2850 g0 (wsh_s _) (by omega) (wty_s _ _) (by omega) (by omega) rfl (fun b2854 b2855 => ?_))
  refine wl_of hX hb cL_1043 (rw_aload_n (pc' := 1044) (v := .ref 0) rfl rfl rfl ?_)
  refine wl_of hX hb cL_1044 (rw_iload (pc' := 1046) (z := i) rfl rfl ?_)
  refine wl_of hX hb cL_1046 (rw_iconst (pc' := 1047) rfl ?_)
  refine wl_of hX hb cL_1047 (rw_iadd (pc' := 1048) rfl ?_)
  have k2859 : H2846 0 ((i + 2).toNat) = H 0 ((i + 2).toNat) := (f2851 0 ((i + 2).toNat) _ g0 (wmem_s rfl))
  refine wl_of hX hb cL_1048 (xa_I (so := 0) (pc' := 1049) (a := 0) w2850 g0 (wsh_s _) (by omega) (wty_s _ _) (by omega) (by omega) rfl (fun b2857 b2858 => ?_))
  have k2860 : wKI H2846 m = wKI H m := (wKI_fr hW gm f2851 rfl)
  have k2861 : H2846 x 9 = H x 9 := (f2851 x 9 _ gx rfl)
  have k2862 : H2846 m 6 = H m 6 := (f2851 m 6 _ gm rfl)
  have k2863 : H2846 x 11 = H x 11 := (f2851 x 11 _ gx rfl)
  have k2864 : H2846 m 13 = H m 13 := (f2851 m 13 _ gm rfl)
  have k2865 : H2846 x 8 = H x 8 := (f2851 x 8 _ gx rfl)
  have k2866 : H2846 m 3 = H m 3 := (f2851 m 3 _ gm rfl)
  refine wl_of hX hb cL_1049 (xc_V (pc' := 1052) (r := m) (as := [vI (H2846 0 ((i + 1).toNat)), vI (H2846 0 ((i + 2).toNat))]) (st := []) (lm_11_138) rfl rfl (Nat.le_of_ble_eq_true rfl) w2850 gm sh_42 (by decide) rfl (by decide) (s_261 w2850 gm ⟨by omega, by omega⟩ ⟨by omega, by omega⟩ (by omega)) (fun R2867 T2868 H2869 p2870 => ?_))
  obtain ⟨e2871, w2873, f2874, z2876, e2872, b2877, p2875⟩ := p2870
  subst e2871
  subst e2872
  show WL _ _ _ _ 1052 [(4, vI i), (3, .ref o), (2, .ref m), (1, .ref x), (0, .ref 0)] [vI z2876] _ H2869
  refine wl_of hX hb cL_1052 (rw_pop (pc' := 1053) rfl rfl ?_)
  refine wl_of hX hb cL_1053 (rw_goto (p1 := 1653) (by decide) ?_)
  have k2878 : H2869 x 9 = H2846 x 9 := (f2874 x 9 _ gx rfl)
  have k2879 : H2869 m 6 = H2846 m 6 := (f2874 m 6 _ gm rfl)
  have k2880 : H2869 x 11 = H2846 x 11 := (f2874 x 11 _ gx rfl)
  have k2881 : H2869 m 13 = H2846 m 13 := (f2874 m 13 _ gm rfl)
  have k2882 : H2869 x 8 = H2846 x 8 := (f2874 x 8 _ gx rfl)
  have k2883 : H2869 m 3 = H2846 m 3 := (f2874 m 3 _ gm rfl)
  have h2884 : XI T H2869 x m := (XI_fr w2850 gx f2874 rfl (XI_fr hW gx f2851 rfl hXI))
  exact WL.loc hX (by simp) (next T H2869 ⟨⟨w2873, g0, gx, gm, go, by omega, by omega⟩, h2884, by omega, by omega⟩ (by omega) (by omega))
set_option maxHeartbeats 4000000 in
theorem wl_c28 {kt : Nat → Option mc_E} {CB SB : Nat} {X : mc_S → Prop} {T : wq_T} {H : wq_H} {Len x m o : Nat} {i : Int} (hX : wlX kt CB SB X) (hb : T.2.1 ≤ CB ∧ T.2.2.1 ≤ SB) (hI : wlJ Len x m o T H) (hL : Len ≤ 3072) (hi : 0 ≤ i ∧ i + 6 ≤ Len) (hb2 : T.2.1 + 20 ≤ CB ∧ T.2.2.1 + 500 ≤ SB)  (next : ∀ T' H', wlJ Len x m o T' H' → T'.2.1 ≤ T.2.1 + 20 → T'.2.2.1 ≤ T.2.2.1 + 500 → WL kt CB SB X 1653 (wlL i x m o) [] T' H') : WL kt CB SB X 1056 (wlL i x m o) [] T H := by
  obtain ⟨⟨hW, g0, gx, gm, go, hK, hr⟩, hXI, hY1, hY2⟩ := hI
  refine wl_of hX hb cL_1056 (rw_aload_n (pc' := 1057) (v := .ref x) rfl rfl rfl ?_)
  refine wl_of hX hb cL_1057 (rw_aload_n (pc' := 1058) (v := .ref 0) rfl rfl rfl ?_)
  refine wl_of hX hb cL_1058 (rw_iload (pc' := 1060) (z := i) rfl rfl ?_)
  refine wl_of hX hb cL_1060 (rw_iconst (pc' := 1061) rfl ?_)
  refine wl_of hX hb cL_1061 (rw_iadd (pc' := 1062) rfl ?_)
  refine wl_of hX hb cL_1062 (xa_I (so := 0) (pc' := 1063) (a := 0) hW g0 (wsh_s _) (by omega) (wty_s _ _) (by omega) (by omega) rfl (fun b2885 b2886 => ?_))
  refine wl_of hX hb cL_1063 (rw_aload_n (pc' := 1064) (v := .ref 0) rfl rfl rfl ?_)
  refine wl_of hX hb cL_1064 (rw_iload (pc' := 1066) (z := i) rfl rfl ?_)
  refine wl_of hX hb cL_1066 (rw_iconst (pc' := 1067) rfl ?_)
  refine wl_of hX hb cL_1067 (rw_iadd (pc' := 1068) rfl ?_)
  refine wl_of hX hb cL_1068 (xa_I (so := 0) (pc' := 1069) (a := 0) hW g0 (wsh_s _) (by omega) (wty_s _ _) (by omega) (by omega) rfl (fun b2887 b2888 => ?_))
  refine wl_of hX hb cL_1069 (rw_if_eq (p1 := 1076) (p2 := 1072) (by decide) rfl ⟨by omega, by omega⟩ (fun c2889 => ?_) (fun c2889 => ?_))
  · refine wl_of hX hb cL_1076 (rw_iconst (pc' := 1077) rfl ?_)
    refine wl_of hX hb cL_1077 (xc_V (pc' := 1080) (r := x) (as := [vI (H 0 ((i + 1).toNat)), vI 0]) (st := []) (lm_11_139) rfl rfl (Nat.le_of_ble_eq_true rfl) hW gx sh_1 (by decide) rfl (by decide) (s_117 hW gx ⟨by omega, by omega⟩ ⟨by decide, by decide⟩) (fun R2890 T2891 H2892 p2893 => ?_))
    obtain ⟨e2894, w2896, f2897, z2898, e2895, b2899⟩ := p2893
    subst e2894
    subst e2895
    show WL _ _ _ _ 1080 [(4, vI i), (3, .ref o), (2, .ref m), (1, .ref x), (0, .ref 0)] [vI z2898] _ H2892
    refine wl_of hX hb cL_1080 (rw_pop (pc' := 1081) rfl rfl ?_)
    refine wl_of hX hb cL_1081 (rw_aload_n (pc' := 1082) (v := .ref m) rfl rfl rfl ?_)
    refine wl_of hX hb cL_1082 (rw_aload_n (pc' := 1083) (v := .ref 0) rfl rfl rfl ?_)
    refine wl_of hX hb cL_1083 (rw_iload (pc' := 1085) (z := i) rfl rfl ?_)
    refine wl_of hX hb cL_1085 (rw_iconst (pc' := 1086) rfl ?_)
    refine wl_of hX hb cL_1086 (rw_iadd (pc' := 1087) rfl ?_)
    have k2902 : H2892 0 ((i + 1).toNat) = H 0 ((i + 1).toNat) := (f2897 0 ((i + 1).toNat) _ g0 (wmem_s rfl))
    refine wl_of hX hb cL_1087 (xa_I (so := 0) (pc' := 1088) (a := 0) w2896 g0 (wsh_s _) (by omega) (wty_s _ _) (by omega) (by omega) rfl (fun b2900 b2901 => ?_))
    refine wl_of hX hb cL_1088 (rw_aload_n (pc' := 1089) (v := .ref 0) rfl rfl rfl ?_)
    refine wl_of hX hb cL_1089 (rw_iload (pc' := 1091) (z := i) rfl rfl ?_)
    refine wl_of hX hb cL_1091 (rw_iconst (pc' := 1092) rfl ?_)
    refine wl_of hX hb cL_1092 (rw_iadd (pc' := 1093) rfl ?_)
    have k2905 : H2892 0 ((i + 2).toNat) = H 0 ((i + 2).toNat) := (f2897 0 ((i + 2).toNat) _ g0 (wmem_s rfl))
    refine wl_of hX hb cL_1093 (xa_I (so := 0) (pc' := 1094) (a := 0) w2896 g0 (wsh_s _) (by omega) (wty_s _ _) (by omega) (by omega) rfl (fun b2903 b2904 => ?_))
    refine wl_of hX hb cL_1094 (rw_if_eq (p1 := 1101) (p2 := 1097) (by decide) rfl ⟨by omega, by omega⟩ (fun c2906 => ?_) (fun c2906 => ?_))
    · refine wl_of hX hb cL_1101 (rw_iconst (pc' := 1102) rfl ?_)
      have k2907 : wKI H2892 m = wKI H m := (wKI_fr hW gm f2897 rfl)
      have k2908 : H2892 x 9 = H x 9 := (f2897 x 9 _ gx rfl)
      have k2909 : H2892 m 6 = H m 6 := (f2897 m 6 _ gm rfl)
      have k2910 : H2892 x 11 = H x 11 := (f2897 x 11 _ gx rfl)
      have k2911 : H2892 m 13 = H m 13 := (f2897 m 13 _ gm rfl)
      have k2912 : H2892 x 8 = H x 8 := (f2897 x 8 _ gx rfl)
      have k2913 : H2892 m 3 = H m 3 := (f2897 m 3 _ gm rfl)
      refine wl_of hX hb cL_1102 (xc_V (pc' := 1105) (r := m) (as := [vI (H2892 0 ((i + 1).toNat)), vI 0]) (st := []) (lm_11_142) rfl rfl (Nat.le_of_ble_eq_true rfl) w2896 gm sh_42 (by decide) rfl (by decide) (s_263 w2896 gm ⟨by omega, by omega⟩ ⟨by decide, by decide⟩ (by omega)) (fun R2914 T2915 H2916 p2917 => ?_))
      obtain ⟨e2918, w2920, f2921, z2923, e2919, b2924, p2922⟩ := p2917
      subst e2918
      subst e2919
      show WL _ _ _ _ 1105 [(4, vI i), (3, .ref o), (2, .ref m), (1, .ref x), (0, .ref 0)] [vI z2923] _ H2916
      refine wl_of hX hb cL_1105 (rw_pop (pc' := 1106) rfl rfl ?_)
      refine wl_of hX hb cL_1106 (rw_goto (p1 := 1653) (by decide) ?_)
      have k2925 : H2916 x 9 = H2892 x 9 := (f2921 x 9 _ gx rfl)
      have k2926 : H2916 m 6 = H2892 m 6 := (f2921 m 6 _ gm rfl)
      have k2927 : H2916 x 11 = H2892 x 11 := (f2921 x 11 _ gx rfl)
      have k2928 : H2916 m 13 = H2892 m 13 := (f2921 m 13 _ gm rfl)
      have k2929 : H2916 x 8 = H2892 x 8 := (f2921 x 8 _ gx rfl)
      have k2930 : H2916 m 3 = H2892 m 3 := (f2921 m 3 _ gm rfl)
      have h2931 : XI T H2916 x m := (XI_fr w2896 gx f2921 rfl (XI_fr hW gx f2897 rfl hXI))
      exact WL.loc hX (by simp) (next T H2916 ⟨⟨w2920, g0, gx, gm, go, by omega, by omega⟩, h2931, by omega, by omega⟩ (by omega) (by omega))
    · exfalso
      omega
  · refine wl_of hX hb cL_1072 (rw_iconst (pc' := 1073) rfl ?_)
    refine wl_of hX hb cL_1073 (rw_goto (p1 := 1077) (by decide) ?_)
    refine wl_of hX hb cL_1077 (xc_V (pc' := 1080) (r := x) (as := [vI (H 0 ((i + 1).toNat)), vI 1]) (st := []) (lm_11_139) rfl rfl (Nat.le_of_ble_eq_true rfl) hW gx sh_1 (by decide) rfl (by decide) (s_117 hW gx ⟨by omega, by omega⟩ ⟨by decide, by decide⟩) (fun R2932 T2933 H2934 p2935 => ?_))
    obtain ⟨e2936, w2938, f2939, z2940, e2937, b2941⟩ := p2935
    subst e2936
    subst e2937
    show WL _ _ _ _ 1080 [(4, vI i), (3, .ref o), (2, .ref m), (1, .ref x), (0, .ref 0)] [vI z2940] _ H2934
    refine wl_of hX hb cL_1080 (rw_pop (pc' := 1081) rfl rfl ?_)
    refine wl_of hX hb cL_1081 (rw_aload_n (pc' := 1082) (v := .ref m) rfl rfl rfl ?_)
    refine wl_of hX hb cL_1082 (rw_aload_n (pc' := 1083) (v := .ref 0) rfl rfl rfl ?_)
    refine wl_of hX hb cL_1083 (rw_iload (pc' := 1085) (z := i) rfl rfl ?_)
    refine wl_of hX hb cL_1085 (rw_iconst (pc' := 1086) rfl ?_)
    refine wl_of hX hb cL_1086 (rw_iadd (pc' := 1087) rfl ?_)
    have k2944 : H2934 0 ((i + 1).toNat) = H 0 ((i + 1).toNat) := (f2939 0 ((i + 1).toNat) _ g0 (wmem_s rfl))
    refine wl_of hX hb cL_1087 (xa_I (so := 0) (pc' := 1088) (a := 0) w2938 g0 (wsh_s _) (by omega) (wty_s _ _) (by omega) (by omega) rfl (fun b2942 b2943 => ?_))
    refine wl_of hX hb cL_1088 (rw_aload_n (pc' := 1089) (v := .ref 0) rfl rfl rfl ?_)
    refine wl_of hX hb cL_1089 (rw_iload (pc' := 1091) (z := i) rfl rfl ?_)
    refine wl_of hX hb cL_1091 (rw_iconst (pc' := 1092) rfl ?_)
    refine wl_of hX hb cL_1092 (rw_iadd (pc' := 1093) rfl ?_)
    have k2947 : H2934 0 ((i + 2).toNat) = H 0 ((i + 2).toNat) := (f2939 0 ((i + 2).toNat) _ g0 (wmem_s rfl))
    refine wl_of hX hb cL_1093 (xa_I (so := 0) (pc' := 1094) (a := 0) w2938 g0 (wsh_s _) (by omega) (wty_s _ _) (by omega) (by omega) rfl (fun b2945 b2946 => ?_))
    refine wl_of hX hb cL_1094 (rw_if_eq (p1 := 1101) (p2 := 1097) (by decide) rfl ⟨by omega, by omega⟩ (fun c2948 => ?_) (fun c2948 => ?_))
    · refine wl_of hX hb cL_1101 (rw_iconst (pc' := 1102) rfl ?_)
      have k2949 : wKI H2934 m = wKI H m := (wKI_fr hW gm f2939 rfl)
      have k2950 : H2934 x 9 = H x 9 := (f2939 x 9 _ gx rfl)
      have k2951 : H2934 m 6 = H m 6 := (f2939 m 6 _ gm rfl)
      have k2952 : H2934 x 11 = H x 11 := (f2939 x 11 _ gx rfl)
      have k2953 : H2934 m 13 = H m 13 := (f2939 m 13 _ gm rfl)
      have k2954 : H2934 x 8 = H x 8 := (f2939 x 8 _ gx rfl)
      have k2955 : H2934 m 3 = H m 3 := (f2939 m 3 _ gm rfl)
      refine wl_of hX hb cL_1102 (xc_V (pc' := 1105) (r := m) (as := [vI (H2934 0 ((i + 1).toNat)), vI 0]) (st := []) (lm_11_142) rfl rfl (Nat.le_of_ble_eq_true rfl) w2938 gm sh_42 (by decide) rfl (by decide) (s_263 w2938 gm ⟨by omega, by omega⟩ ⟨by decide, by decide⟩ (by omega)) (fun R2956 T2957 H2958 p2959 => ?_))
      obtain ⟨e2960, w2962, f2963, z2965, e2961, b2966, p2964⟩ := p2959
      subst e2960
      subst e2961
      show WL _ _ _ _ 1105 [(4, vI i), (3, .ref o), (2, .ref m), (1, .ref x), (0, .ref 0)] [vI z2965] _ H2958
      refine wl_of hX hb cL_1105 (rw_pop (pc' := 1106) rfl rfl ?_)
      refine wl_of hX hb cL_1106 (rw_goto (p1 := 1653) (by decide) ?_)
      have k2967 : H2958 x 9 = H2934 x 9 := (f2963 x 9 _ gx rfl)
      have k2968 : H2958 m 6 = H2934 m 6 := (f2963 m 6 _ gm rfl)
      have k2969 : H2958 x 11 = H2934 x 11 := (f2963 x 11 _ gx rfl)
      have k2970 : H2958 m 13 = H2934 m 13 := (f2963 m 13 _ gm rfl)
      have k2971 : H2958 x 8 = H2934 x 8 := (f2963 x 8 _ gx rfl)
      have k2972 : H2958 m 3 = H2934 m 3 := (f2963 m 3 _ gm rfl)
      have h2973 : XI T H2958 x m := (XI_fr w2938 gx f2963 rfl (XI_fr hW gx f2939 rfl hXI))
      exact WL.loc hX (by simp) (next T H2958 ⟨⟨w2962, g0, gx, gm, go, by omega, by omega⟩, h2973, by omega, by omega⟩ (by omega) (by omega))
    · refine wl_of hX hb cL_1097 (rw_iconst (pc' := 1098) rfl ?_)
      refine wl_of hX hb cL_1098 (rw_goto (p1 := 1102) (by decide) ?_)
      have k2974 : wKI H2934 m = wKI H m := (wKI_fr hW gm f2939 rfl)
      have k2975 : H2934 x 9 = H x 9 := (f2939 x 9 _ gx rfl)
      have k2976 : H2934 m 6 = H m 6 := (f2939 m 6 _ gm rfl)
      have k2977 : H2934 x 11 = H x 11 := (f2939 x 11 _ gx rfl)
      have k2978 : H2934 m 13 = H m 13 := (f2939 m 13 _ gm rfl)
      have k2979 : H2934 x 8 = H x 8 := (f2939 x 8 _ gx rfl)
      have k2980 : H2934 m 3 = H m 3 := (f2939 m 3 _ gm rfl)
      refine wl_of hX hb cL_1102 (xc_V (pc' := 1105) (r := m) (as := [vI (H2934 0 ((i + 1).toNat)), vI 1]) (st := []) (lm_11_142) rfl rfl (Nat.le_of_ble_eq_true rfl) w2938 gm sh_42 (by decide) rfl (by decide) (s_263 w2938 gm ⟨by omega, by omega⟩ ⟨by decide, by decide⟩ (by omega)) (fun R2981 T2982 H2983 p2984 => ?_))
      obtain ⟨e2985, w2987, f2988, z2990, e2986, b2991, p2989⟩ := p2984
      subst e2985
      subst e2986
      show WL _ _ _ _ 1105 [(4, vI i), (3, .ref o), (2, .ref m), (1, .ref x), (0, .ref 0)] [vI z2990] _ H2983
      refine wl_of hX hb cL_1105 (rw_pop (pc' := 1106) rfl rfl ?_)
      refine wl_of hX hb cL_1106 (rw_goto (p1 := 1653) (by decide) ?_)
      have k2992 : H2983 x 9 = H2934 x 9 := (f2988 x 9 _ gx rfl)
      have k2993 : H2983 m 6 = H2934 m 6 := (f2988 m 6 _ gm rfl)
      have k2994 : H2983 x 11 = H2934 x 11 := (f2988 x 11 _ gx rfl)
      have k2995 : H2983 m 13 = H2934 m 13 := (f2988 m 13 _ gm rfl)
      have k2996 : H2983 x 8 = H2934 x 8 := (f2988 x 8 _ gx rfl)
      have k2997 : H2983 m 3 = H2934 m 3 := (f2988 m 3 _ gm rfl)
      have h2998 : XI T H2983 x m := (XI_fr w2938 gx f2988 rfl (XI_fr hW gx f2939 rfl hXI))
      exact WL.loc hX (by simp) (next T H2983 ⟨⟨w2987, g0, gx, gm, go, by omega, by omega⟩, h2998, by omega, by omega⟩ (by omega) (by omega))
set_option maxHeartbeats 4000000 in
theorem wl_c29 {kt : Nat → Option mc_E} {CB SB : Nat} {X : mc_S → Prop} {T : wq_T} {H : wq_H} {Len x m o : Nat} {i : Int} (hX : wlX kt CB SB X) (hb : T.2.1 ≤ CB ∧ T.2.2.1 ≤ SB) (hI : wlJ Len x m o T H) (hL : Len ≤ 3072) (hi : 0 ≤ i ∧ i + 6 ≤ Len) (hb2 : T.2.1 + 20 ≤ CB ∧ T.2.2.1 + 500 ≤ SB)  (next : ∀ T' H', wlJ Len x m o T' H' → T'.2.1 ≤ T.2.1 + 20 → T'.2.2.1 ≤ T.2.2.1 + 500 → WL kt CB SB X 1653 (wlL i x m o) [] T' H') : WL kt CB SB X 1109 (wlL i x m o) [] T H := by
  obtain ⟨⟨hW, g0, gx, gm, go, hK, hr⟩, hXI, hY1, hY2⟩ := hI
  refine wl_of hX hb cL_1109 (rw_aload_n (pc' := 1110) (v := .ref x) rfl rfl rfl ?_)
  refine wl_of hX hb cL_1110 (rw_aload_n (pc' := 1111) (v := .ref 0) rfl rfl rfl ?_)
  refine wl_of hX hb cL_1111 (rw_iload (pc' := 1113) (z := i) rfl rfl ?_)
  refine wl_of hX hb cL_1113 (rw_iconst (pc' := 1114) rfl ?_)
  refine wl_of hX hb cL_1114 (rw_iadd (pc' := 1115) rfl ?_)
  refine wl_of hX hb cL_1115 (xa_I (so := 0) (pc' := 1116) (a := 0) hW g0 (wsh_s _) (by omega) (wty_s _ _) (by omega) (by omega) rfl (fun b2999 b3000 => ?_))
  refine wl_of hX hb cL_1116 (rw_aload_n (pc' := 1117) (v := .ref 0) rfl rfl rfl ?_)
  refine wl_of hX hb cL_1117 (rw_iload (pc' := 1119) (z := i) rfl rfl ?_)
  refine wl_of hX hb cL_1119 (rw_iconst (pc' := 1120) rfl ?_)
  refine wl_of hX hb cL_1120 (rw_iadd (pc' := 1121) rfl ?_)
  refine wl_of hX hb cL_1121 (xa_I (so := 0) (pc' := 1122) (a := 0) hW g0 (wsh_s _) (by omega) (wty_s _ _) (by omega) (by omega) rfl (fun b3001 b3002 => ?_))
  refine wl_of hX hb cL_1122 (rw_if_eq (p1 := 1129) (p2 := 1125) (by decide) rfl ⟨by omega, by omega⟩ (fun c3003 => ?_) (fun c3003 => ?_))
  · refine wl_of hX hb cL_1129 (rw_iconst (pc' := 1130) rfl ?_)
    refine wl_of hX hb cL_1130 (xc_V (pc' := 1133) (r := x) (as := [vI (H 0 ((i + 1).toNat)), vI 0]) (st := []) (lm_11_143) rfl rfl (Nat.le_of_ble_eq_true rfl) hW gx sh_1 (by decide) rfl (by decide) (s_119 hW gx ⟨by omega, by omega⟩ ⟨by decide, by decide⟩) (fun R3004 T3005 H3006 p3007 => ?_))
    obtain ⟨e3008, w3010, f3011, z3012, e3009, b3013⟩ := p3007
    subst e3008
    subst e3009
    show WL _ _ _ _ 1133 [(4, vI i), (3, .ref o), (2, .ref m), (1, .ref x), (0, .ref 0)] [vI z3012] _ H3006
    refine wl_of hX hb cL_1133 (rw_pop (pc' := 1134) rfl rfl ?_)
    refine wl_of hX hb cL_1134 (rw_aload_n (pc' := 1135) (v := .ref m) rfl rfl rfl ?_)
    refine wl_of hX hb cL_1135 (rw_aload_n (pc' := 1136) (v := .ref 0) rfl rfl rfl ?_)
    refine wl_of hX hb cL_1136 (rw_iload (pc' := 1138) (z := i) rfl rfl ?_)
    refine wl_of hX hb cL_1138 (rw_iconst (pc' := 1139) rfl ?_)
    refine wl_of hX hb cL_1139 (rw_iadd (pc' := 1140) rfl ?_)
    have k3016 : H3006 0 ((i + 1).toNat) = H 0 ((i + 1).toNat) := (f3011 0 ((i + 1).toNat) _ g0 (wmem_s rfl))
    refine wl_of hX hb cL_1140 (xa_I (so := 0) (pc' := 1141) (a := 0) w3010 g0 (wsh_s _) (by omega) (wty_s _ _) (by omega) (by omega) rfl (fun b3014 b3015 => ?_))
    refine wl_of hX hb cL_1141 (rw_aload_n (pc' := 1142) (v := .ref 0) rfl rfl rfl ?_)
    refine wl_of hX hb cL_1142 (rw_iload (pc' := 1144) (z := i) rfl rfl ?_)
    refine wl_of hX hb cL_1144 (rw_iconst (pc' := 1145) rfl ?_)
    refine wl_of hX hb cL_1145 (rw_iadd (pc' := 1146) rfl ?_)
    have k3019 : H3006 0 ((i + 2).toNat) = H 0 ((i + 2).toNat) := (f3011 0 ((i + 2).toNat) _ g0 (wmem_s rfl))
    refine wl_of hX hb cL_1146 (xa_I (so := 0) (pc' := 1147) (a := 0) w3010 g0 (wsh_s _) (by omega) (wty_s _ _) (by omega) (by omega) rfl (fun b3017 b3018 => ?_))
    refine wl_of hX hb cL_1147 (rw_if_eq (p1 := 1154) (p2 := 1150) (by decide) rfl ⟨by omega, by omega⟩ (fun c3020 => ?_) (fun c3020 => ?_))
    · refine wl_of hX hb cL_1154 (rw_iconst (pc' := 1155) rfl ?_)
      have k3021 : wKI H3006 m = wKI H m := (wKI_fr hW gm f3011 rfl)
      have k3022 : H3006 x 9 = H x 9 := (f3011 x 9 _ gx rfl)
      have k3023 : H3006 m 6 = H m 6 := (f3011 m 6 _ gm rfl)
      have k3024 : H3006 x 11 = H x 11 := (f3011 x 11 _ gx rfl)
      have k3025 : H3006 m 13 = H m 13 := (f3011 m 13 _ gm rfl)
      have k3026 : H3006 x 8 = H x 8 := (f3011 x 8 _ gx rfl)
      have k3027 : H3006 m 3 = H m 3 := (f3011 m 3 _ gm rfl)
      refine wl_of hX hb cL_1155 (xc_V (pc' := 1158) (r := m) (as := [vI (H3006 0 ((i + 1).toNat)), vI 0]) (st := []) (lm_11_146) rfl rfl (Nat.le_of_ble_eq_true rfl) w3010 gm sh_42 (by decide) rfl (by decide) (s_265 w3010 gm ⟨by omega, by omega⟩ ⟨by decide, by decide⟩ (by omega)) (fun R3028 T3029 H3030 p3031 => ?_))
      obtain ⟨e3032, w3034, f3035, z3037, e3033, b3038, p3036⟩ := p3031
      subst e3032
      subst e3033
      show WL _ _ _ _ 1158 [(4, vI i), (3, .ref o), (2, .ref m), (1, .ref x), (0, .ref 0)] [vI z3037] _ H3030
      refine wl_of hX hb cL_1158 (rw_pop (pc' := 1159) rfl rfl ?_)
      refine wl_of hX hb cL_1159 (rw_goto (p1 := 1653) (by decide) ?_)
      have k3039 : H3030 x 9 = H3006 x 9 := (f3035 x 9 _ gx rfl)
      have k3040 : H3030 m 6 = H3006 m 6 := (f3035 m 6 _ gm rfl)
      have k3041 : H3030 x 11 = H3006 x 11 := (f3035 x 11 _ gx rfl)
      have k3042 : H3030 m 13 = H3006 m 13 := (f3035 m 13 _ gm rfl)
      have k3043 : H3030 x 8 = H3006 x 8 := (f3035 x 8 _ gx rfl)
      have k3044 : H3030 m 3 = H3006 m 3 := (f3035 m 3 _ gm rfl)
      have h3045 : XI T H3030 x m := (XI_fr w3010 gx f3035 rfl (XI_fr hW gx f3011 rfl hXI))
      exact WL.loc hX (by simp) (next T H3030 ⟨⟨w3034, g0, gx, gm, go, by omega, by omega⟩, h3045, by omega, by omega⟩ (by omega) (by omega))
    · exfalso
      omega
  · refine wl_of hX hb cL_1125 (rw_iconst (pc' := 1126) rfl ?_)
    refine wl_of hX hb cL_1126 (rw_goto (p1 := 1130) (by decide) ?_)
    refine wl_of hX hb cL_1130 (xc_V (pc' := 1133) (r := x) (as := [vI (H 0 ((i + 1).toNat)), vI 1]) (st := []) (lm_11_143) rfl rfl (Nat.le_of_ble_eq_true rfl) hW gx sh_1 (by decide) rfl (by decide) (s_119 hW gx ⟨by omega, by omega⟩ ⟨by decide, by decide⟩) (fun R3046 T3047 H3048 p3049 => ?_))
    obtain ⟨e3050, w3052, f3053, z3054, e3051, b3055⟩ := p3049
    subst e3050
    subst e3051
    show WL _ _ _ _ 1133 [(4, vI i), (3, .ref o), (2, .ref m), (1, .ref x), (0, .ref 0)] [vI z3054] _ H3048
    refine wl_of hX hb cL_1133 (rw_pop (pc' := 1134) rfl rfl ?_)
    refine wl_of hX hb cL_1134 (rw_aload_n (pc' := 1135) (v := .ref m) rfl rfl rfl ?_)
    refine wl_of hX hb cL_1135 (rw_aload_n (pc' := 1136) (v := .ref 0) rfl rfl rfl ?_)
    refine wl_of hX hb cL_1136 (rw_iload (pc' := 1138) (z := i) rfl rfl ?_)
    refine wl_of hX hb cL_1138 (rw_iconst (pc' := 1139) rfl ?_)
    refine wl_of hX hb cL_1139 (rw_iadd (pc' := 1140) rfl ?_)
    have k3058 : H3048 0 ((i + 1).toNat) = H 0 ((i + 1).toNat) := (f3053 0 ((i + 1).toNat) _ g0 (wmem_s rfl))
    refine wl_of hX hb cL_1140 (xa_I (so := 0) (pc' := 1141) (a := 0) w3052 g0 (wsh_s _) (by omega) (wty_s _ _) (by omega) (by omega) rfl (fun b3056 b3057 => ?_))
    refine wl_of hX hb cL_1141 (rw_aload_n (pc' := 1142) (v := .ref 0) rfl rfl rfl ?_)
    refine wl_of hX hb cL_1142 (rw_iload (pc' := 1144) (z := i) rfl rfl ?_)
    refine wl_of hX hb cL_1144 (rw_iconst (pc' := 1145) rfl ?_)
    refine wl_of hX hb cL_1145 (rw_iadd (pc' := 1146) rfl ?_)
    have k3061 : H3048 0 ((i + 2).toNat) = H 0 ((i + 2).toNat) := (f3053 0 ((i + 2).toNat) _ g0 (wmem_s rfl))
    refine wl_of hX hb cL_1146 (xa_I (so := 0) (pc' := 1147) (a := 0) w3052 g0 (wsh_s _) (by omega) (wty_s _ _) (by omega) (by omega) rfl (fun b3059 b3060 => ?_))
    refine wl_of hX hb cL_1147 (rw_if_eq (p1 := 1154) (p2 := 1150) (by decide) rfl ⟨by omega, by omega⟩ (fun c3062 => ?_) (fun c3062 => ?_))
    · refine wl_of hX hb cL_1154 (rw_iconst (pc' := 1155) rfl ?_)
      have k3063 : wKI H3048 m = wKI H m := (wKI_fr hW gm f3053 rfl)
      have k3064 : H3048 x 9 = H x 9 := (f3053 x 9 _ gx rfl)
      have k3065 : H3048 m 6 = H m 6 := (f3053 m 6 _ gm rfl)
      have k3066 : H3048 x 11 = H x 11 := (f3053 x 11 _ gx rfl)
      have k3067 : H3048 m 13 = H m 13 := (f3053 m 13 _ gm rfl)
      have k3068 : H3048 x 8 = H x 8 := (f3053 x 8 _ gx rfl)
      have k3069 : H3048 m 3 = H m 3 := (f3053 m 3 _ gm rfl)
      refine wl_of hX hb cL_1155 (xc_V (pc' := 1158) (r := m) (as := [vI (H3048 0 ((i + 1).toNat)), vI 0]) (st := []) (lm_11_146) rfl rfl (Nat.le_of_ble_eq_true rfl) w3052 gm sh_42 (by decide) rfl (by decide) (s_265 w3052 gm ⟨by omega, by omega⟩ ⟨by decide, by decide⟩ (by omega)) (fun R3070 T3071 H3072 p3073 => ?_))
      obtain ⟨e3074, w3076, f3077, z3079, e3075, b3080, p3078⟩ := p3073
      subst e3074
      subst e3075
      show WL _ _ _ _ 1158 [(4, vI i), (3, .ref o), (2, .ref m), (1, .ref x), (0, .ref 0)] [vI z3079] _ H3072
      refine wl_of hX hb cL_1158 (rw_pop (pc' := 1159) rfl rfl ?_)
      refine wl_of hX hb cL_1159 (rw_goto (p1 := 1653) (by decide) ?_)
      have k3081 : H3072 x 9 = H3048 x 9 := (f3077 x 9 _ gx rfl)
      have k3082 : H3072 m 6 = H3048 m 6 := (f3077 m 6 _ gm rfl)
      have k3083 : H3072 x 11 = H3048 x 11 := (f3077 x 11 _ gx rfl)
      have k3084 : H3072 m 13 = H3048 m 13 := (f3077 m 13 _ gm rfl)
      have k3085 : H3072 x 8 = H3048 x 8 := (f3077 x 8 _ gx rfl)
      have k3086 : H3072 m 3 = H3048 m 3 := (f3077 m 3 _ gm rfl)
      have h3087 : XI T H3072 x m := (XI_fr w3052 gx f3077 rfl (XI_fr hW gx f3053 rfl hXI))
      exact WL.loc hX (by simp) (next T H3072 ⟨⟨w3076, g0, gx, gm, go, by omega, by omega⟩, h3087, by omega, by omega⟩ (by omega) (by omega))
    · refine wl_of hX hb cL_1150 (rw_iconst (pc' := 1151) rfl ?_)
      refine wl_of hX hb cL_1151 (rw_goto (p1 := 1155) (by decide) ?_)
      have k3088 : wKI H3048 m = wKI H m := (wKI_fr hW gm f3053 rfl)
      have k3089 : H3048 x 9 = H x 9 := (f3053 x 9 _ gx rfl)
      have k3090 : H3048 m 6 = H m 6 := (f3053 m 6 _ gm rfl)
      have k3091 : H3048 x 11 = H x 11 := (f3053 x 11 _ gx rfl)
      have k3092 : H3048 m 13 = H m 13 := (f3053 m 13 _ gm rfl)
      have k3093 : H3048 x 8 = H x 8 := (f3053 x 8 _ gx rfl)
      have k3094 : H3048 m 3 = H m 3 := (f3053 m 3 _ gm rfl)
      refine wl_of hX hb cL_1155 (xc_V (pc' := 1158) (r := m) (as := [vI (H3048 0 ((i + 1).toNat)), vI 1]) (st := []) (lm_11_146) rfl rfl (Nat.le_of_ble_eq_true rfl) w3052 gm sh_42 (by decide) rfl (by decide) (s_265 w3052 gm ⟨by omega, by omega⟩ ⟨by decide, by decide⟩ (by omega)) (fun R3095 T3096 H3097 p3098 => ?_))
      obtain ⟨e3099, w3101, f3102, z3104, e3100, b3105, p3103⟩ := p3098
      subst e3099
      subst e3100
      show WL _ _ _ _ 1158 [(4, vI i), (3, .ref o), (2, .ref m), (1, .ref x), (0, .ref 0)] [vI z3104] _ H3097
      refine wl_of hX hb cL_1158 (rw_pop (pc' := 1159) rfl rfl ?_)
      refine wl_of hX hb cL_1159 (rw_goto (p1 := 1653) (by decide) ?_)
      have k3106 : H3097 x 9 = H3048 x 9 := (f3102 x 9 _ gx rfl)
      have k3107 : H3097 m 6 = H3048 m 6 := (f3102 m 6 _ gm rfl)
      have k3108 : H3097 x 11 = H3048 x 11 := (f3102 x 11 _ gx rfl)
      have k3109 : H3097 m 13 = H3048 m 13 := (f3102 m 13 _ gm rfl)
      have k3110 : H3097 x 8 = H3048 x 8 := (f3102 x 8 _ gx rfl)
      have k3111 : H3097 m 3 = H3048 m 3 := (f3102 m 3 _ gm rfl)
      have h3112 : XI T H3097 x m := (XI_fr w3052 gx f3102 rfl (XI_fr hW gx f3053 rfl hXI))
      exact WL.loc hX (by simp) (next T H3097 ⟨⟨w3101, g0, gx, gm, go, by omega, by omega⟩, h3112, by omega, by omega⟩ (by omega) (by omega))
set_option maxHeartbeats 4000000 in
theorem wl_c30 {kt : Nat → Option mc_E} {CB SB : Nat} {X : mc_S → Prop} {T : wq_T} {H : wq_H} {Len x m o : Nat} {i : Int} (hX : wlX kt CB SB X) (hb : T.2.1 ≤ CB ∧ T.2.2.1 ≤ SB) (hI : wlJ Len x m o T H) (hL : Len ≤ 3072) (hi : 0 ≤ i ∧ i + 6 ≤ Len) (hb2 : T.2.1 + 20 ≤ CB ∧ T.2.2.1 + 500 ≤ SB)  (next : ∀ T' H', wlJ Len x m o T' H' → T'.2.1 ≤ T.2.1 + 20 → T'.2.2.1 ≤ T.2.2.1 + 500 → WL kt CB SB X 1653 (wlL i x m o) [] T' H') : WL kt CB SB X 1162 (wlL i x m o) [] T H := by
  obtain ⟨⟨hW, g0, gx, gm, go, hK, hr⟩, hXI, hY1, hY2⟩ := hI
  refine wl_of hX hb cL_1162 (rw_aload_n (pc' := 1163) (v := .ref x) rfl rfl rfl ?_)
  refine wl_of hX hb cL_1163 (xc_V (pc' := 1166) (r := x) (as := []) (st := []) (lm_11_147) rfl rfl (Nat.le_of_ble_eq_true rfl) hW gx sh_1 (by decide) rfl (by decide) (s_120 hW gx) (fun R3113 T3114 H3115 p3116 => ?_))
  obtain ⟨e3117, w3119, f3120, z3121, e3118, b3122⟩ := p3116
  subst e3117
  subst e3118
  show WL _ _ _ _ 1166 [(4, vI i), (3, .ref o), (2, .ref m), (1, .ref x), (0, .ref 0)] [vI z3121] _ H3115
  refine wl_of hX hb cL_1166 (rw_pop (pc' := 1167) rfl rfl ?_)
  refine wl_of hX hb cL_1167 (rw_aload_n (pc' := 1168) (v := .ref m) rfl rfl rfl ?_)
  have k3123 : wKI H3115 m = wKI H m := (wKI_fr hW gm f3120 rfl)
  have k3124 : H3115 x 9 = H x 9 := (f3120 x 9 _ gx rfl)
  have k3125 : H3115 m 6 = H m 6 := (f3120 m 6 _ gm rfl)
  have k3126 : H3115 x 11 = H x 11 := (f3120 x 11 _ gx rfl)
  have k3127 : H3115 m 13 = H m 13 := (f3120 m 13 _ gm rfl)
  have k3128 : H3115 x 8 = H x 8 := (f3120 x 8 _ gx rfl)
  have k3129 : H3115 m 3 = H m 3 := (f3120 m 3 _ gm rfl)
  refine wl_of hX hb cL_1168 (xc_V (pc' := 1171) (r := m) (as := []) (st := []) (lm_11_150) rfl rfl (Nat.le_of_ble_eq_true rfl) w3119 gm sh_42 (by decide) rfl (by decide) (s_266 w3119 gm (by omega)) (fun R3130 T3131 H3132 p3133 => ?_))
  obtain ⟨e3134, w3136, f3137, z3139, e3135, b3140, p3138⟩ := p3133
  subst e3134
  subst e3135
  show WL _ _ _ _ 1171 [(4, vI i), (3, .ref o), (2, .ref m), (1, .ref x), (0, .ref 0)] [vI z3139] _ H3132
  refine wl_of hX hb cL_1171 (rw_pop (pc' := 1172) rfl rfl ?_)
  refine wl_of hX hb cL_1172 (rw_goto (p1 := 1653) (by decide) ?_)
  have k3141 : H3132 x 9 = H3115 x 9 := (f3137 x 9 _ gx rfl)
  have k3142 : H3132 m 6 = H3115 m 6 := (f3137 m 6 _ gm rfl)
  have k3143 : H3132 x 11 = H3115 x 11 := (f3137 x 11 _ gx rfl)
  have k3144 : H3132 m 13 = H3115 m 13 := (f3137 m 13 _ gm rfl)
  have k3145 : H3132 x 8 = H3115 x 8 := (f3137 x 8 _ gx rfl)
  have k3146 : H3132 m 3 = H3115 m 3 := (f3137 m 3 _ gm rfl)
  have h3147 : XI T H3132 x m := (XI_fr w3119 gx f3137 rfl (XI_fr hW gx f3120 rfl hXI))
  exact WL.loc hX (by simp) (next T H3132 ⟨⟨w3136, g0, gx, gm, go, by omega, by omega⟩, h3147, by omega, by omega⟩ (by omega) (by omega))
set_option maxHeartbeats 4000000 in
theorem wl_c31 {kt : Nat → Option mc_E} {CB SB : Nat} {X : mc_S → Prop} {T : wq_T} {H : wq_H} {Len x m o : Nat} {i : Int} (hX : wlX kt CB SB X) (hb : T.2.1 ≤ CB ∧ T.2.2.1 ≤ SB) (hI : wlJ Len x m o T H) (hL : Len ≤ 3072) (hi : 0 ≤ i ∧ i + 6 ≤ Len) (hb2 : T.2.1 + 20 ≤ CB ∧ T.2.2.1 + 500 ≤ SB)  (next : ∀ T' H', wlJ Len x m o T' H' → T'.2.1 ≤ T.2.1 + 20 → T'.2.2.1 ≤ T.2.2.1 + 500 → WL kt CB SB X 1653 (wlL i x m o) [] T' H') : WL kt CB SB X 1175 (wlL i x m o) [] T H := by
  obtain ⟨⟨hW, g0, gx, gm, go, hK, hr⟩, hXI, hY1, hY2⟩ := hI
  refine wl_of hX hb cL_1175 (rw_aload_n (pc' := 1176) (v := .ref x) rfl rfl rfl ?_)
  refine wl_of hX hb cL_1176 (rw_aload_n (pc' := 1177) (v := .ref 0) rfl rfl rfl ?_)
  refine wl_of hX hb cL_1177 (rw_iload (pc' := 1179) (z := i) rfl rfl ?_)
  refine wl_of hX hb cL_1179 (rw_iconst (pc' := 1180) rfl ?_)
  refine wl_of hX hb cL_1180 (rw_iadd (pc' := 1181) rfl ?_)
  refine wl_of hX hb cL_1181 (xa_I (so := 0) (pc' := 1182) (a := 0) hW g0 (wsh_s _) (by omega) (wty_s _ _) (by omega) (by omega) rfl (fun b3148 b3149 => ?_))
  refine wl_of hX hb cL_1182 (xc_V (pc' := 1185) (r := x) (as := [vI (H 0 ((i + 1).toNat))]) (st := []) (lm_11_151) rfl rfl (Nat.le_of_ble_eq_true rfl) hW gx sh_1 (by decide) rfl (by decide) (s_130 hW gx ⟨by omega, by omega⟩) (fun R3150 T3151 H3152 p3153 => ?_))
  obtain ⟨e3154, w3156, f3157, z3158, e3155, b3159⟩ := p3153
  subst e3154
  subst e3155
  show WL _ _ _ _ 1185 [(4, vI i), (3, .ref o), (2, .ref m), (1, .ref x), (0, .ref 0)] [vI z3158] _ H3152
  refine wl_of hX hb cL_1185 (rw_pop (pc' := 1186) rfl rfl ?_)
  refine wl_of hX hb cL_1186 (rw_aload_n (pc' := 1187) (v := .ref m) rfl rfl rfl ?_)
  refine wl_of hX hb cL_1187 (rw_aload_n (pc' := 1188) (v := .ref 0) rfl rfl rfl ?_)
  refine wl_of hX hb cL_1188 (rw_iload (pc' := 1190) (z := i) rfl rfl ?_)
  refine wl_of hX hb cL_1190 (rw_iconst (pc' := 1191) rfl ?_)
  refine wl_of hX hb cL_1191 (rw_iadd (pc' := 1192) rfl ?_)
  have k3162 : H3152 0 ((i + 1).toNat) = H 0 ((i + 1).toNat) := (f3157 0 ((i + 1).toNat) _ g0 (wmem_s rfl))
  refine wl_of hX hb cL_1192 (xa_I (so := 0) (pc' := 1193) (a := 0) w3156 g0 (wsh_s _) (by omega) (wty_s _ _) (by omega) (by omega) rfl (fun b3160 b3161 => ?_))
  have k3163 : wKI H3152 m = wKI H m := (wKI_fr hW gm f3157 rfl)
  have k3164 : H3152 x 9 = H x 9 := (f3157 x 9 _ gx rfl)
  have k3165 : H3152 m 6 = H m 6 := (f3157 m 6 _ gm rfl)
  have k3166 : H3152 x 11 = H x 11 := (f3157 x 11 _ gx rfl)
  have k3167 : H3152 m 13 = H m 13 := (f3157 m 13 _ gm rfl)
  have k3168 : H3152 x 8 = H x 8 := (f3157 x 8 _ gx rfl)
  have k3169 : H3152 m 3 = H m 3 := (f3157 m 3 _ gm rfl)
  refine wl_of hX hb cL_1193 (xc_V (pc' := 1196) (r := m) (as := [vI (H3152 0 ((i + 1).toNat))]) (st := []) (lm_11_154) rfl rfl (Nat.le_of_ble_eq_true rfl) w3156 gm sh_42 (by decide) rfl (by decide) (s_271 w3156 gm ⟨by omega, by omega⟩ (by omega)) (fun R3170 T3171 H3172 p3173 => ?_))
  obtain ⟨e3174, w3176, f3177, z3179, e3175, b3180, p3178⟩ := p3173
  subst e3174
  subst e3175
  show WL _ _ _ _ 1196 [(4, vI i), (3, .ref o), (2, .ref m), (1, .ref x), (0, .ref 0)] [vI z3179] _ H3172
  refine wl_of hX hb cL_1196 (rw_pop (pc' := 1197) rfl rfl ?_)
  refine wl_of hX hb cL_1197 (rw_goto (p1 := 1653) (by decide) ?_)
  have k3181 : H3172 x 9 = H3152 x 9 := (f3177 x 9 _ gx rfl)
  have k3182 : H3172 m 6 = H3152 m 6 := (f3177 m 6 _ gm rfl)
  have k3183 : H3172 x 11 = H3152 x 11 := (f3177 x 11 _ gx rfl)
  have k3184 : H3172 m 13 = H3152 m 13 := (f3177 m 13 _ gm rfl)
  have k3185 : H3172 x 8 = H3152 x 8 := (f3177 x 8 _ gx rfl)
  have k3186 : H3172 m 3 = H3152 m 3 := (f3177 m 3 _ gm rfl)
  have h3187 : XI T H3172 x m := (XI_fr w3156 gx f3177 rfl (XI_fr hW gx f3157 rfl hXI))
  exact WL.loc hX (by simp) (next T H3172 ⟨⟨w3176, g0, gx, gm, go, by omega, by omega⟩, h3187, by omega, by omega⟩ (by omega) (by omega))
set_option maxHeartbeats 4000000 in
theorem wl_c32 {kt : Nat → Option mc_E} {CB SB : Nat} {X : mc_S → Prop} {T : wq_T} {H : wq_H} {Len x m o : Nat} {i : Int} (hX : wlX kt CB SB X) (hb : T.2.1 ≤ CB ∧ T.2.2.1 ≤ SB) (hI : wlJ Len x m o T H) (hL : Len ≤ 3072) (hi : 0 ≤ i ∧ i + 6 ≤ Len) (hb2 : T.2.1 + 20 ≤ CB ∧ T.2.2.1 + 500 ≤ SB)  (next : ∀ T' H', wlJ Len x m o T' H' → T'.2.1 ≤ T.2.1 + 20 → T'.2.2.1 ≤ T.2.2.1 + 500 → WL kt CB SB X 1653 (wlL i x m o) [] T' H') : WL kt CB SB X 1200 (wlL i x m o) [] T H := by
  obtain ⟨⟨hW, g0, gx, gm, go, hK, hr⟩, hXI, hY1, hY2⟩ := hI
  refine wl_of hX hb cL_1200 (rw_aload_n (pc' := 1201) (v := .ref x) rfl rfl rfl ?_)
  refine wl_of hX hb cL_1201 (rw_aload_n (pc' := 1202) (v := .ref 0) rfl rfl rfl ?_)
  refine wl_of hX hb cL_1202 (rw_iload (pc' := 1204) (z := i) rfl rfl ?_)
  refine wl_of hX hb cL_1204 (rw_iconst (pc' := 1205) rfl ?_)
  refine wl_of hX hb cL_1205 (rw_iadd (pc' := 1206) rfl ?_)
  refine wl_of hX hb cL_1206 (xa_I (so := 0) (pc' := 1207) (a := 0) hW g0 (wsh_s _) (by omega) (wty_s _ _) (by omega) (by omega) rfl (fun b3188 b3189 => ?_))
  refine wl_of hX hb cL_1207 (xc_V (pc' := 1210) (r := x) (as := [vI (H 0 ((i + 1).toNat))]) (st := []) (lm_11_155) rfl rfl (Nat.le_of_ble_eq_true rfl) hW gx sh_1 (by decide) rfl (by decide) (s_132 hW gx ⟨by omega, by omega⟩) (fun R3190 T3191 H3192 p3193 => ?_))
  obtain ⟨e3194, w3196, f3197, z3198, e3195, b3199⟩ := p3193
  subst e3194
  subst e3195
  show WL _ _ _ _ 1210 [(4, vI i), (3, .ref o), (2, .ref m), (1, .ref x), (0, .ref 0)] [vI z3198] _ H3192
  refine wl_of hX hb cL_1210 (rw_pop (pc' := 1211) rfl rfl ?_)
  refine wl_of hX hb cL_1211 (rw_aload_n (pc' := 1212) (v := .ref m) rfl rfl rfl ?_)
  refine wl_of hX hb cL_1212 (rw_aload_n (pc' := 1213) (v := .ref 0) rfl rfl rfl ?_)
  refine wl_of hX hb cL_1213 (rw_iload (pc' := 1215) (z := i) rfl rfl ?_)
  refine wl_of hX hb cL_1215 (rw_iconst (pc' := 1216) rfl ?_)
  refine wl_of hX hb cL_1216 (rw_iadd (pc' := 1217) rfl ?_)
  have k3202 : H3192 0 ((i + 1).toNat) = H 0 ((i + 1).toNat) := (f3197 0 ((i + 1).toNat) _ g0 (wmem_s rfl))
  refine wl_of hX hb cL_1217 (xa_I (so := 0) (pc' := 1218) (a := 0) w3196 g0 (wsh_s _) (by omega) (wty_s _ _) (by omega) (by omega) rfl (fun b3200 b3201 => ?_))
  have k3203 : wKI H3192 m = wKI H m := (wKI_fr hW gm f3197 rfl)
  have k3204 : H3192 x 9 = H x 9 := (f3197 x 9 _ gx rfl)
  have k3205 : H3192 m 6 = H m 6 := (f3197 m 6 _ gm rfl)
  have k3206 : H3192 x 11 = H x 11 := (f3197 x 11 _ gx rfl)
  have k3207 : H3192 m 13 = H m 13 := (f3197 m 13 _ gm rfl)
  have k3208 : H3192 x 8 = H x 8 := (f3197 x 8 _ gx rfl)
  have k3209 : H3192 m 3 = H m 3 := (f3197 m 3 _ gm rfl)
  refine wl_of hX hb cL_1218 (xc_V (pc' := 1221) (r := m) (as := [vI (H3192 0 ((i + 1).toNat))]) (st := []) (lm_11_158) rfl rfl (Nat.le_of_ble_eq_true rfl) w3196 gm sh_42 (by decide) rfl (by decide) (s_272 w3196 gm ⟨by omega, by omega⟩ (by omega)) (fun R3210 T3211 H3212 p3213 => ?_))
  obtain ⟨e3214, w3216, f3217, z3219, e3215, b3220, p3218⟩ := p3213
  subst e3214
  subst e3215
  show WL _ _ _ _ 1221 [(4, vI i), (3, .ref o), (2, .ref m), (1, .ref x), (0, .ref 0)] [vI z3219] _ H3212
  refine wl_of hX hb cL_1221 (rw_pop (pc' := 1222) rfl rfl ?_)
  refine wl_of hX hb cL_1222 (rw_goto (p1 := 1653) (by decide) ?_)
  have k3221 : H3212 x 9 = H3192 x 9 := (f3217 x 9 _ gx rfl)
  have k3222 : H3212 m 6 = H3192 m 6 := (f3217 m 6 _ gm rfl)
  have k3223 : H3212 x 11 = H3192 x 11 := (f3217 x 11 _ gx rfl)
  have k3224 : H3212 m 13 = H3192 m 13 := (f3217 m 13 _ gm rfl)
  have k3225 : H3212 x 8 = H3192 x 8 := (f3217 x 8 _ gx rfl)
  have k3226 : H3212 m 3 = H3192 m 3 := (f3217 m 3 _ gm rfl)
  have h3227 : XI T H3212 x m := (XI_fr w3196 gx f3217 rfl (XI_fr hW gx f3197 rfl hXI))
  exact WL.loc hX (by simp) (next T H3212 ⟨⟨w3216, g0, gx, gm, go, by omega, by omega⟩, h3227, by omega, by omega⟩ (by omega) (by omega))
set_option maxHeartbeats 4000000 in
theorem wl_c33 {kt : Nat → Option mc_E} {CB SB : Nat} {X : mc_S → Prop} {T : wq_T} {H : wq_H} {Len x m o : Nat} {i : Int} (hX : wlX kt CB SB X) (hb : T.2.1 ≤ CB ∧ T.2.2.1 ≤ SB) (hI : wlJ Len x m o T H) (hL : Len ≤ 3072) (hi : 0 ≤ i ∧ i + 6 ≤ Len) (hb2 : T.2.1 + 20 ≤ CB ∧ T.2.2.1 + 500 ≤ SB)  (next : ∀ T' H', wlJ Len x m o T' H' → T'.2.1 ≤ T.2.1 + 20 → T'.2.2.1 ≤ T.2.2.1 + 500 → WL kt CB SB X 1653 (wlL i x m o) [] T' H') : WL kt CB SB X 1225 (wlL i x m o) [] T H := by
  obtain ⟨⟨hW, g0, gx, gm, go, hK, hr⟩, hXI, hY1, hY2⟩ := hI
  refine wl_of hX hb cL_1225 (rw_aload_n (pc' := 1226) (v := .ref x) rfl rfl rfl ?_)
  refine wl_of hX hb cL_1226 (rw_aload_n (pc' := 1227) (v := .ref 0) rfl rfl rfl ?_)
  refine wl_of hX hb cL_1227 (rw_iload (pc' := 1229) (z := i) rfl rfl ?_)
  refine wl_of hX hb cL_1229 (rw_iconst (pc' := 1230) rfl ?_)
  refine wl_of hX hb cL_1230 (rw_iadd (pc' := 1231) rfl ?_)
  refine wl_of hX hb cL_1231 (xa_I (so := 0) (pc' := 1232) (a := 0) hW g0 (wsh_s _) (by omega) (wty_s _ _) (by omega) (by omega) rfl (fun b3228 b3229 => ?_))
  refine wl_of hX hb cL_1232 (xc_V (pc' := 1235) (r := x) (as := [vI (H 0 ((i + 1).toNat))]) (st := []) (lm_11_159) rfl rfl (Nat.le_of_ble_eq_true rfl) hW gx sh_1 (by decide) rfl (by decide) (s_135 hW gx ⟨by omega, by omega⟩) (fun R3230 T3231 H3232 p3233 => ?_))
  obtain ⟨e3234, w3236, f3237, z3238, e3235, b3239⟩ := p3233
  subst e3234
  subst e3235
  show WL _ _ _ _ 1235 [(4, vI i), (3, .ref o), (2, .ref m), (1, .ref x), (0, .ref 0)] [vI z3238] _ H3232
  refine wl_of hX hb cL_1235 (rw_pop (pc' := 1236) rfl rfl ?_)
  refine wl_of hX hb cL_1236 (rw_aload_n (pc' := 1237) (v := .ref m) rfl rfl rfl ?_)
  refine wl_of hX hb cL_1237 (rw_aload_n (pc' := 1238) (v := .ref 0) rfl rfl rfl ?_)
  refine wl_of hX hb cL_1238 (rw_iload (pc' := 1240) (z := i) rfl rfl ?_)
  refine wl_of hX hb cL_1240 (rw_iconst (pc' := 1241) rfl ?_)
  refine wl_of hX hb cL_1241 (rw_iadd (pc' := 1242) rfl ?_)
  have k3242 : H3232 0 ((i + 1).toNat) = H 0 ((i + 1).toNat) := (f3237 0 ((i + 1).toNat) _ g0 (wmem_s rfl))
  refine wl_of hX hb cL_1242 (xa_I (so := 0) (pc' := 1243) (a := 0) w3236 g0 (wsh_s _) (by omega) (wty_s _ _) (by omega) (by omega) rfl (fun b3240 b3241 => ?_))
  have k3243 : wKI H3232 m = wKI H m := (wKI_fr hW gm f3237 rfl)
  have k3244 : H3232 x 9 = H x 9 := (f3237 x 9 _ gx rfl)
  have k3245 : H3232 m 6 = H m 6 := (f3237 m 6 _ gm rfl)
  have k3246 : H3232 x 11 = H x 11 := (f3237 x 11 _ gx rfl)
  have k3247 : H3232 m 13 = H m 13 := (f3237 m 13 _ gm rfl)
  have k3248 : H3232 x 8 = H x 8 := (f3237 x 8 _ gx rfl)
  have k3249 : H3232 m 3 = H m 3 := (f3237 m 3 _ gm rfl)
  refine wl_of hX hb cL_1243 (xc_V (pc' := 1246) (r := m) (as := [vI (H3232 0 ((i + 1).toNat))]) (st := []) (lm_11_162) rfl rfl (Nat.le_of_ble_eq_true rfl) w3236 gm sh_42 (by decide) rfl (by decide) (s_275 w3236 gm ⟨by omega, by omega⟩ (by omega)) (fun R3250 T3251 H3252 p3253 => ?_))
  obtain ⟨e3254, w3256, f3257, z3259, e3255, b3260, p3258⟩ := p3253
  subst e3254
  subst e3255
  show WL _ _ _ _ 1246 [(4, vI i), (3, .ref o), (2, .ref m), (1, .ref x), (0, .ref 0)] [vI z3259] _ H3252
  refine wl_of hX hb cL_1246 (rw_pop (pc' := 1247) rfl rfl ?_)
  refine wl_of hX hb cL_1247 (rw_goto (p1 := 1653) (by decide) ?_)
  have k3261 : H3252 x 9 = H3232 x 9 := (f3257 x 9 _ gx rfl)
  have k3262 : H3252 m 6 = H3232 m 6 := (f3257 m 6 _ gm rfl)
  have k3263 : H3252 x 11 = H3232 x 11 := (f3257 x 11 _ gx rfl)
  have k3264 : H3252 m 13 = H3232 m 13 := (f3257 m 13 _ gm rfl)
  have k3265 : H3252 x 8 = H3232 x 8 := (f3257 x 8 _ gx rfl)
  have k3266 : H3252 m 3 = H3232 m 3 := (f3257 m 3 _ gm rfl)
  have h3267 : XI T H3252 x m := (XI_fr w3236 gx f3257 rfl (XI_fr hW gx f3237 rfl hXI))
  exact WL.loc hX (by simp) (next T H3252 ⟨⟨w3256, g0, gx, gm, go, by omega, by omega⟩, h3267, by omega, by omega⟩ (by omega) (by omega))
set_option maxHeartbeats 4000000 in
theorem wl_c34 {kt : Nat → Option mc_E} {CB SB : Nat} {X : mc_S → Prop} {T : wq_T} {H : wq_H} {Len x m o : Nat} {i : Int} (hX : wlX kt CB SB X) (hb : T.2.1 ≤ CB ∧ T.2.2.1 ≤ SB) (hI : wlJ Len x m o T H) (hL : Len ≤ 3072) (hi : 0 ≤ i ∧ i + 6 ≤ Len) (hb2 : T.2.1 + 20 ≤ CB ∧ T.2.2.1 + 500 ≤ SB)  (next : ∀ T' H', wlJ Len x m o T' H' → T'.2.1 ≤ T.2.1 + 20 → T'.2.2.1 ≤ T.2.2.1 + 500 → WL kt CB SB X 1653 (wlL i x m o) [] T' H') : WL kt CB SB X 1250 (wlL i x m o) [] T H := by
  obtain ⟨⟨hW, g0, gx, gm, go, hK, hr⟩, hXI, hY1, hY2⟩ := hI
  refine wl_of hX hb cL_1250 (rw_aload_n (pc' := 1251) (v := .ref x) rfl rfl rfl ?_)
  refine wl_of hX hb cL_1251 (xc_V (pc' := 1254) (r := x) (as := []) (st := []) (lm_11_163) rfl rfl (Nat.le_of_ble_eq_true rfl) hW gx sh_1 (by decide) rfl (by decide) (s_137 hW gx) (fun R3268 T3269 H3270 p3271 => ?_))
  obtain ⟨e3272, w3274, f3275, z3276, e3273, b3277⟩ := p3271
  subst e3272
  subst e3273
  show WL _ _ _ _ 1254 [(4, vI i), (3, .ref o), (2, .ref m), (1, .ref x), (0, .ref 0)] [vI z3276] _ H3270
  refine wl_of hX hb cL_1254 (rw_pop (pc' := 1255) rfl rfl ?_)
  refine wl_of hX hb cL_1255 (rw_aload_n (pc' := 1256) (v := .ref m) rfl rfl rfl ?_)
  have k3278 : wKI H3270 m = wKI H m := (wKI_fr hW gm f3275 rfl)
  have k3279 : H3270 x 9 = H x 9 := (f3275 x 9 _ gx rfl)
  have k3280 : H3270 m 6 = H m 6 := (f3275 m 6 _ gm rfl)
  have k3281 : H3270 x 11 = H x 11 := (f3275 x 11 _ gx rfl)
  have k3282 : H3270 m 13 = H m 13 := (f3275 m 13 _ gm rfl)
  have k3283 : H3270 x 8 = H x 8 := (f3275 x 8 _ gx rfl)
  have k3284 : H3270 m 3 = H m 3 := (f3275 m 3 _ gm rfl)
  refine wl_of hX hb cL_1256 (xc_V (pc' := 1259) (r := m) (as := []) (st := []) (lm_11_166) rfl rfl (Nat.le_of_ble_eq_true rfl) w3274 gm sh_42 (by decide) rfl (by decide) (s_276 w3274 gm (by omega)) (fun R3285 T3286 H3287 p3288 => ?_))
  obtain ⟨e3289, w3291, f3292, z3294, e3290, b3295, p3293⟩ := p3288
  subst e3289
  subst e3290
  show WL _ _ _ _ 1259 [(4, vI i), (3, .ref o), (2, .ref m), (1, .ref x), (0, .ref 0)] [vI z3294] _ H3287
  refine wl_of hX hb cL_1259 (rw_pop (pc' := 1260) rfl rfl ?_)
  refine wl_of hX hb cL_1260 (rw_goto (p1 := 1653) (by decide) ?_)
  have k3296 : H3287 x 9 = H3270 x 9 := (f3292 x 9 _ gx rfl)
  have k3297 : H3287 m 6 = H3270 m 6 := (f3292 m 6 _ gm rfl)
  have k3298 : H3287 x 11 = H3270 x 11 := (f3292 x 11 _ gx rfl)
  have k3299 : H3287 m 13 = H3270 m 13 := (f3292 m 13 _ gm rfl)
  have k3300 : H3287 x 8 = H3270 x 8 := (f3292 x 8 _ gx rfl)
  have k3301 : H3287 m 3 = H3270 m 3 := (f3292 m 3 _ gm rfl)
  have h3302 : XI T H3287 x m := (XI_fr w3274 gx f3292 rfl (XI_fr hW gx f3275 rfl hXI))
  exact WL.loc hX (by simp) (next T H3287 ⟨⟨w3291, g0, gx, gm, go, by omega, by omega⟩, h3302, by omega, by omega⟩ (by omega) (by omega))
set_option maxHeartbeats 4000000 in
theorem wl_c35 {kt : Nat → Option mc_E} {CB SB : Nat} {X : mc_S → Prop} {T : wq_T} {H : wq_H} {Len x m o : Nat} {i : Int} (hX : wlX kt CB SB X) (hb : T.2.1 ≤ CB ∧ T.2.2.1 ≤ SB) (hI : wlJ Len x m o T H) (hL : Len ≤ 3072) (hi : 0 ≤ i ∧ i + 6 ≤ Len) (hb2 : T.2.1 + 20 ≤ CB ∧ T.2.2.1 + 500 ≤ SB)  (next : ∀ T' H', wlJ Len x m o T' H' → T'.2.1 ≤ T.2.1 + 20 → T'.2.2.1 ≤ T.2.2.1 + 500 → WL kt CB SB X 1653 (wlL i x m o) [] T' H') : WL kt CB SB X 1263 (wlL i x m o) [] T H := by
  obtain ⟨⟨hW, g0, gx, gm, go, hK, hr⟩, hXI, hY1, hY2⟩ := hI
  refine wl_of hX hb cL_1263 (rw_aload_n (pc' := 1264) (v := .ref x) rfl rfl rfl ?_)
  refine wl_of hX hb cL_1264 (rw_aload_n (pc' := 1265) (v := .ref 0) rfl rfl rfl ?_)
  refine wl_of hX hb cL_1265 (rw_iload (pc' := 1267) (z := i) rfl rfl ?_)
  refine wl_of hX hb cL_1267 (rw_iconst (pc' := 1268) rfl ?_)
  refine wl_of hX hb cL_1268 (rw_iadd (pc' := 1269) rfl ?_)
  refine wl_of hX hb cL_1269 (xa_I (so := 0) (pc' := 1270) (a := 0) hW g0 (wsh_s _) (by omega) (wty_s _ _) (by omega) (by omega) rfl (fun b3303 b3304 => ?_))
  refine wl_of hX hb cL_1270 (rw_aload_n (pc' := 1271) (v := .ref 0) rfl rfl rfl ?_)
  refine wl_of hX hb cL_1271 (rw_iload (pc' := 1273) (z := i) rfl rfl ?_)
  refine wl_of hX hb cL_1273 (rw_iconst (pc' := 1274) rfl ?_)
  refine wl_of hX hb cL_1274 (rw_iadd (pc' := 1275) rfl ?_)
  refine wl_of hX hb cL_1275 (xa_I (so := 0) (pc' := 1276) (a := 0) hW g0 (wsh_s _) (by omega) (wty_s _ _) (by omega) (by omega) rfl (fun b3305 b3306 => ?_))
  refine wl_of hX hb cL_1276 (rw_if_eq (p1 := 1283) (p2 := 1279) (by decide) rfl ⟨by omega, by omega⟩ (fun c3307 => ?_) (fun c3307 => ?_))
  · refine wl_of hX hb cL_1283 (rw_iconst (pc' := 1284) rfl ?_)
    refine wl_of hX hb cL_1284 (xc_V (pc' := 1287) (r := x) (as := [vI (H 0 ((i + 1).toNat)), vI 0]) (st := []) (lm_11_167) rfl rfl (Nat.le_of_ble_eq_true rfl) hW gx sh_1 (by decide) rfl (by decide) (s_146 hW gx ⟨by omega, by omega⟩ ⟨by decide, by decide⟩) (fun R3308 T3309 H3310 p3311 => ?_))
    obtain ⟨e3312, w3314, f3315, z3316, e3313, b3317⟩ := p3311
    subst e3312
    subst e3313
    show WL _ _ _ _ 1287 [(4, vI i), (3, .ref o), (2, .ref m), (1, .ref x), (0, .ref 0)] [vI z3316] _ H3310
    refine wl_of hX hb cL_1287 (rw_pop (pc' := 1288) rfl rfl ?_)
    refine wl_of hX hb cL_1288 (rw_aload_n (pc' := 1289) (v := .ref m) rfl rfl rfl ?_)
    refine wl_of hX hb cL_1289 (rw_aload_n (pc' := 1290) (v := .ref 0) rfl rfl rfl ?_)
    refine wl_of hX hb cL_1290 (rw_iload (pc' := 1292) (z := i) rfl rfl ?_)
    refine wl_of hX hb cL_1292 (rw_iconst (pc' := 1293) rfl ?_)
    refine wl_of hX hb cL_1293 (rw_iadd (pc' := 1294) rfl ?_)
    have k3320 : H3310 0 ((i + 1).toNat) = H 0 ((i + 1).toNat) := (f3315 0 ((i + 1).toNat) _ g0 (wmem_s rfl))
    refine wl_of hX hb cL_1294 (xa_I (so := 0) (pc' := 1295) (a := 0) w3314 g0 (wsh_s _) (by omega) (wty_s _ _) (by omega) (by omega) rfl (fun b3318 b3319 => ?_))
    refine wl_of hX hb cL_1295 (rw_aload_n (pc' := 1296) (v := .ref 0) rfl rfl rfl ?_)
    refine wl_of hX hb cL_1296 (rw_iload (pc' := 1298) (z := i) rfl rfl ?_)
    refine wl_of hX hb cL_1298 (rw_iconst (pc' := 1299) rfl ?_)
    refine wl_of hX hb cL_1299 (rw_iadd (pc' := 1300) rfl ?_)
    have k3323 : H3310 0 ((i + 2).toNat) = H 0 ((i + 2).toNat) := (f3315 0 ((i + 2).toNat) _ g0 (wmem_s rfl))
    refine wl_of hX hb cL_1300 (xa_I (so := 0) (pc' := 1301) (a := 0) w3314 g0 (wsh_s _) (by omega) (wty_s _ _) (by omega) (by omega) rfl (fun b3321 b3322 => ?_))
    refine wl_of hX hb cL_1301 (rw_if_eq (p1 := 1308) (p2 := 1304) (by decide) rfl ⟨by omega, by omega⟩ (fun c3324 => ?_) (fun c3324 => ?_))
    · refine wl_of hX hb cL_1308 (rw_iconst (pc' := 1309) rfl ?_)
      have k3325 : wKI H3310 m = wKI H m := (wKI_fr hW gm f3315 rfl)
      have k3326 : H3310 x 9 = H x 9 := (f3315 x 9 _ gx rfl)
      have k3327 : H3310 m 6 = H m 6 := (f3315 m 6 _ gm rfl)
      have k3328 : H3310 x 11 = H x 11 := (f3315 x 11 _ gx rfl)
      have k3329 : H3310 m 13 = H m 13 := (f3315 m 13 _ gm rfl)
      have k3330 : H3310 x 8 = H x 8 := (f3315 x 8 _ gx rfl)
      have k3331 : H3310 m 3 = H m 3 := (f3315 m 3 _ gm rfl)
      refine wl_of hX hb cL_1309 (xc_V (pc' := 1312) (r := m) (as := [vI (H3310 0 ((i + 1).toNat)), vI 0]) (st := []) (lm_11_170) rfl rfl (Nat.le_of_ble_eq_true rfl) w3314 gm sh_42 (by decide) rfl (by decide) (s_279 w3314 gm ⟨by omega, by omega⟩ ⟨by decide, by decide⟩ (by omega)) (fun R3332 T3333 H3334 p3335 => ?_))
      obtain ⟨e3336, w3338, f3339, z3341, e3337, b3342, p3340⟩ := p3335
      subst e3336
      subst e3337
      show WL _ _ _ _ 1312 [(4, vI i), (3, .ref o), (2, .ref m), (1, .ref x), (0, .ref 0)] [vI z3341] _ H3334
      refine wl_of hX hb cL_1312 (rw_pop (pc' := 1313) rfl rfl ?_)
      refine wl_of hX hb cL_1313 (rw_goto (p1 := 1653) (by decide) ?_)
      have k3343 : H3334 x 9 = H3310 x 9 := (f3339 x 9 _ gx rfl)
      have k3344 : H3334 m 6 = H3310 m 6 := (f3339 m 6 _ gm rfl)
      have k3345 : H3334 x 11 = H3310 x 11 := (f3339 x 11 _ gx rfl)
      have k3346 : H3334 m 13 = H3310 m 13 := (f3339 m 13 _ gm rfl)
      have k3347 : H3334 x 8 = H3310 x 8 := (f3339 x 8 _ gx rfl)
      have k3348 : H3334 m 3 = H3310 m 3 := (f3339 m 3 _ gm rfl)
      have h3349 : XI T H3334 x m := (XI_fr w3314 gx f3339 rfl (XI_fr hW gx f3315 rfl hXI))
      exact WL.loc hX (by simp) (next T H3334 ⟨⟨w3338, g0, gx, gm, go, by omega, by omega⟩, h3349, by omega, by omega⟩ (by omega) (by omega))
    · exfalso
      omega
  · refine wl_of hX hb cL_1279 (rw_iconst (pc' := 1280) rfl ?_)
    refine wl_of hX hb cL_1280 (rw_goto (p1 := 1284) (by decide) ?_)
    refine wl_of hX hb cL_1284 (xc_V (pc' := 1287) (r := x) (as := [vI (H 0 ((i + 1).toNat)), vI 1]) (st := []) (lm_11_167) rfl rfl (Nat.le_of_ble_eq_true rfl) hW gx sh_1 (by decide) rfl (by decide) (s_146 hW gx ⟨by omega, by omega⟩ ⟨by decide, by decide⟩) (fun R3350 T3351 H3352 p3353 => ?_))
    obtain ⟨e3354, w3356, f3357, z3358, e3355, b3359⟩ := p3353
    subst e3354
    subst e3355
    show WL _ _ _ _ 1287 [(4, vI i), (3, .ref o), (2, .ref m), (1, .ref x), (0, .ref 0)] [vI z3358] _ H3352
    refine wl_of hX hb cL_1287 (rw_pop (pc' := 1288) rfl rfl ?_)
    refine wl_of hX hb cL_1288 (rw_aload_n (pc' := 1289) (v := .ref m) rfl rfl rfl ?_)
    refine wl_of hX hb cL_1289 (rw_aload_n (pc' := 1290) (v := .ref 0) rfl rfl rfl ?_)
    refine wl_of hX hb cL_1290 (rw_iload (pc' := 1292) (z := i) rfl rfl ?_)
    refine wl_of hX hb cL_1292 (rw_iconst (pc' := 1293) rfl ?_)
    refine wl_of hX hb cL_1293 (rw_iadd (pc' := 1294) rfl ?_)
    have k3362 : H3352 0 ((i + 1).toNat) = H 0 ((i + 1).toNat) := (f3357 0 ((i + 1).toNat) _ g0 (wmem_s rfl))
    refine wl_of hX hb cL_1294 (xa_I (so := 0) (pc' := 1295) (a := 0) w3356 g0 (wsh_s _) (by omega) (wty_s _ _) (by omega) (by omega) rfl (fun b3360 b3361 => ?_))
    refine wl_of hX hb cL_1295 (rw_aload_n (pc' := 1296) (v := .ref 0) rfl rfl rfl ?_)
    refine wl_of hX hb cL_1296 (rw_iload (pc' := 1298) (z := i) rfl rfl ?_)
    refine wl_of hX hb cL_1298 (rw_iconst (pc' := 1299) rfl ?_)
    refine wl_of hX hb cL_1299 (rw_iadd (pc' := 1300) rfl ?_)
    have k3365 : H3352 0 ((i + 2).toNat) = H 0 ((i + 2).toNat) := (f3357 0 ((i + 2).toNat) _ g0 (wmem_s rfl))
    refine wl_of hX hb cL_1300 (xa_I (so := 0) (pc' := 1301) (a := 0) w3356 g0 (wsh_s _) (by omega) (wty_s _ _) (by omega) (by omega) rfl (fun b3363 b3364 => ?_))
    refine wl_of hX hb cL_1301 (rw_if_eq (p1 := 1308) (p2 := 1304) (by decide) rfl ⟨by omega, by omega⟩ (fun c3366 => ?_) (fun c3366 => ?_))
    · refine wl_of hX hb cL_1308 (rw_iconst (pc' := 1309) rfl ?_)
      have k3367 : wKI H3352 m = wKI H m := (wKI_fr hW gm f3357 rfl)
      have k3368 : H3352 x 9 = H x 9 := (f3357 x 9 _ gx rfl)
      have k3369 : H3352 m 6 = H m 6 := (f3357 m 6 _ gm rfl)
      have k3370 : H3352 x 11 = H x 11 := (f3357 x 11 _ gx rfl)
      have k3371 : H3352 m 13 = H m 13 := (f3357 m 13 _ gm rfl)
      have k3372 : H3352 x 8 = H x 8 := (f3357 x 8 _ gx rfl)
      have k3373 : H3352 m 3 = H m 3 := (f3357 m 3 _ gm rfl)
      refine wl_of hX hb cL_1309 (xc_V (pc' := 1312) (r := m) (as := [vI (H3352 0 ((i + 1).toNat)), vI 0]) (st := []) (lm_11_170) rfl rfl (Nat.le_of_ble_eq_true rfl) w3356 gm sh_42 (by decide) rfl (by decide) (s_279 w3356 gm ⟨by omega, by omega⟩ ⟨by decide, by decide⟩ (by omega)) (fun R3374 T3375 H3376 p3377 => ?_))
      obtain ⟨e3378, w3380, f3381, z3383, e3379, b3384, p3382⟩ := p3377
      subst e3378
      subst e3379
      show WL _ _ _ _ 1312 [(4, vI i), (3, .ref o), (2, .ref m), (1, .ref x), (0, .ref 0)] [vI z3383] _ H3376
      refine wl_of hX hb cL_1312 (rw_pop (pc' := 1313) rfl rfl ?_)
      refine wl_of hX hb cL_1313 (rw_goto (p1 := 1653) (by decide) ?_)
      have k3385 : H3376 x 9 = H3352 x 9 := (f3381 x 9 _ gx rfl)
      have k3386 : H3376 m 6 = H3352 m 6 := (f3381 m 6 _ gm rfl)
      have k3387 : H3376 x 11 = H3352 x 11 := (f3381 x 11 _ gx rfl)
      have k3388 : H3376 m 13 = H3352 m 13 := (f3381 m 13 _ gm rfl)
      have k3389 : H3376 x 8 = H3352 x 8 := (f3381 x 8 _ gx rfl)
      have k3390 : H3376 m 3 = H3352 m 3 := (f3381 m 3 _ gm rfl)
      have h3391 : XI T H3376 x m := (XI_fr w3356 gx f3381 rfl (XI_fr hW gx f3357 rfl hXI))
      exact WL.loc hX (by simp) (next T H3376 ⟨⟨w3380, g0, gx, gm, go, by omega, by omega⟩, h3391, by omega, by omega⟩ (by omega) (by omega))
    · refine wl_of hX hb cL_1304 (rw_iconst (pc' := 1305) rfl ?_)
      refine wl_of hX hb cL_1305 (rw_goto (p1 := 1309) (by decide) ?_)
      have k3392 : wKI H3352 m = wKI H m := (wKI_fr hW gm f3357 rfl)
      have k3393 : H3352 x 9 = H x 9 := (f3357 x 9 _ gx rfl)
      have k3394 : H3352 m 6 = H m 6 := (f3357 m 6 _ gm rfl)
      have k3395 : H3352 x 11 = H x 11 := (f3357 x 11 _ gx rfl)
      have k3396 : H3352 m 13 = H m 13 := (f3357 m 13 _ gm rfl)
      have k3397 : H3352 x 8 = H x 8 := (f3357 x 8 _ gx rfl)
      have k3398 : H3352 m 3 = H m 3 := (f3357 m 3 _ gm rfl)
      refine wl_of hX hb cL_1309 (xc_V (pc' := 1312) (r := m) (as := [vI (H3352 0 ((i + 1).toNat)), vI 1]) (st := []) (lm_11_170) rfl rfl (Nat.le_of_ble_eq_true rfl) w3356 gm sh_42 (by decide) rfl (by decide) (s_279 w3356 gm ⟨by omega, by omega⟩ ⟨by decide, by decide⟩ (by omega)) (fun R3399 T3400 H3401 p3402 => ?_))
      obtain ⟨e3403, w3405, f3406, z3408, e3404, b3409, p3407⟩ := p3402
      subst e3403
      subst e3404
      show WL _ _ _ _ 1312 [(4, vI i), (3, .ref o), (2, .ref m), (1, .ref x), (0, .ref 0)] [vI z3408] _ H3401
      refine wl_of hX hb cL_1312 (rw_pop (pc' := 1313) rfl rfl ?_)
      refine wl_of hX hb cL_1313 (rw_goto (p1 := 1653) (by decide) ?_)
      have k3410 : H3401 x 9 = H3352 x 9 := (f3406 x 9 _ gx rfl)
      have k3411 : H3401 m 6 = H3352 m 6 := (f3406 m 6 _ gm rfl)
      have k3412 : H3401 x 11 = H3352 x 11 := (f3406 x 11 _ gx rfl)
      have k3413 : H3401 m 13 = H3352 m 13 := (f3406 m 13 _ gm rfl)
      have k3414 : H3401 x 8 = H3352 x 8 := (f3406 x 8 _ gx rfl)
      have k3415 : H3401 m 3 = H3352 m 3 := (f3406 m 3 _ gm rfl)
      have h3416 : XI T H3401 x m := (XI_fr w3356 gx f3406 rfl (XI_fr hW gx f3357 rfl hXI))
      exact WL.loc hX (by simp) (next T H3401 ⟨⟨w3405, g0, gx, gm, go, by omega, by omega⟩, h3416, by omega, by omega⟩ (by omega) (by omega))
set_option maxHeartbeats 4000000 in
theorem wl_c36 {kt : Nat → Option mc_E} {CB SB : Nat} {X : mc_S → Prop} {T : wq_T} {H : wq_H} {Len x m o : Nat} {i : Int} (hX : wlX kt CB SB X) (hb : T.2.1 ≤ CB ∧ T.2.2.1 ≤ SB) (hI : wlJ Len x m o T H) (hL : Len ≤ 3072) (hi : 0 ≤ i ∧ i + 6 ≤ Len) (hb2 : T.2.1 + 20 ≤ CB ∧ T.2.2.1 + 500 ≤ SB)  (next : ∀ T' H', wlJ Len x m o T' H' → T'.2.1 ≤ T.2.1 + 20 → T'.2.2.1 ≤ T.2.2.1 + 500 → WL kt CB SB X 1653 (wlL i x m o) [] T' H') : WL kt CB SB X 1316 (wlL i x m o) [] T H := by
  obtain ⟨⟨hW, g0, gx, gm, go, hK, hr⟩, hXI, hY1, hY2⟩ := hI
  refine wl_of hX hb cL_1316 (rw_aload_n (pc' := 1317) (v := .ref x) rfl rfl rfl ?_)
  refine wl_of hX hb cL_1317 (xc_V (pc' := 1320) (r := x) (as := []) (st := []) (lm_11_171) rfl rfl (Nat.le_of_ble_eq_true rfl) hW gx sh_1 (by decide) rfl (by decide) (s_147 hW gx) (fun R3417 T3418 H3419 p3420 => ?_))
  obtain ⟨e3421, w3423, f3424, z3425, e3422, b3426⟩ := p3420
  subst e3421
  subst e3422
  show WL _ _ _ _ 1320 [(4, vI i), (3, .ref o), (2, .ref m), (1, .ref x), (0, .ref 0)] [vI z3425] _ H3419
  refine wl_of hX hb cL_1320 (rw_pop (pc' := 1321) rfl rfl ?_)
  refine wl_of hX hb cL_1321 (rw_aload_n (pc' := 1322) (v := .ref m) rfl rfl rfl ?_)
  have k3427 : wKI H3419 m = wKI H m := (wKI_fr hW gm f3424 rfl)
  have k3428 : H3419 x 9 = H x 9 := (f3424 x 9 _ gx rfl)
  have k3429 : H3419 m 6 = H m 6 := (f3424 m 6 _ gm rfl)
  have k3430 : H3419 x 11 = H x 11 := (f3424 x 11 _ gx rfl)
  have k3431 : H3419 m 13 = H m 13 := (f3424 m 13 _ gm rfl)
  have k3432 : H3419 x 8 = H x 8 := (f3424 x 8 _ gx rfl)
  have k3433 : H3419 m 3 = H m 3 := (f3424 m 3 _ gm rfl)
  refine wl_of hX hb cL_1322 (xc_V (pc' := 1325) (r := m) (as := []) (st := []) (lm_11_174) rfl rfl (Nat.le_of_ble_eq_true rfl) w3423 gm sh_42 (by decide) rfl (by decide) (s_282 w3423 gm (by omega)) (fun R3434 T3435 H3436 p3437 => ?_))
  obtain ⟨e3438, w3440, f3441, z3443, e3439, b3444, p3442⟩ := p3437
  subst e3438
  subst e3439
  show WL _ _ _ _ 1325 [(4, vI i), (3, .ref o), (2, .ref m), (1, .ref x), (0, .ref 0)] [vI z3443] _ H3436
  refine wl_of hX hb cL_1325 (rw_pop (pc' := 1326) rfl rfl ?_)
  refine wl_of hX hb cL_1326 (rw_goto (p1 := 1653) (by decide) ?_)
  have k3445 : H3436 x 9 = H3419 x 9 := (f3441 x 9 _ gx rfl)
  have k3446 : H3436 m 6 = H3419 m 6 := (f3441 m 6 _ gm rfl)
  have k3447 : H3436 x 11 = H3419 x 11 := (f3441 x 11 _ gx rfl)
  have k3448 : H3436 m 13 = H3419 m 13 := (f3441 m 13 _ gm rfl)
  have k3449 : H3436 x 8 = H3419 x 8 := (f3441 x 8 _ gx rfl)
  have k3450 : H3436 m 3 = H3419 m 3 := (f3441 m 3 _ gm rfl)
  have h3451 : XI T H3436 x m := (XI_fr w3423 gx f3441 rfl (XI_fr hW gx f3424 rfl hXI))
  exact WL.loc hX (by simp) (next T H3436 ⟨⟨w3440, g0, gx, gm, go, by omega, by omega⟩, h3451, by omega, by omega⟩ (by omega) (by omega))
set_option maxHeartbeats 4000000 in
theorem wl_c37 {kt : Nat → Option mc_E} {CB SB : Nat} {X : mc_S → Prop} {T : wq_T} {H : wq_H} {Len x m o : Nat} {i : Int} (hX : wlX kt CB SB X) (hb : T.2.1 ≤ CB ∧ T.2.2.1 ≤ SB) (hI : wlJ Len x m o T H) (hL : Len ≤ 3072) (hi : 0 ≤ i ∧ i + 6 ≤ Len) (hb2 : T.2.1 + 20 ≤ CB ∧ T.2.2.1 + 500 ≤ SB)  (next : ∀ T' H', wlJ Len x m o T' H' → T'.2.1 ≤ T.2.1 + 20 → T'.2.2.1 ≤ T.2.2.1 + 500 → WL kt CB SB X 1653 (wlL i x m o) [] T' H') : WL kt CB SB X 1329 (wlL i x m o) [] T H := by
  obtain ⟨⟨hW, g0, gx, gm, go, hK, hr⟩, hXI, hY1, hY2⟩ := hI
  refine wl_of hX hb cL_1329 (rw_aload_n (pc' := 1330) (v := .ref x) rfl rfl rfl ?_)
  refine wl_of hX hb cL_1330 (xc_V (pc' := 1333) (r := x) (as := []) (st := []) (lm_11_175) rfl rfl (Nat.le_of_ble_eq_true rfl) hW gx sh_1 (by decide) rfl (by decide) (s_149 hW gx) (fun R3452 T3453 H3454 p3455 => ?_))
  obtain ⟨e3456, w3458, f3459, z3460, e3457, b3461⟩ := p3455
  subst e3456
  subst e3457
  show WL _ _ _ _ 1333 [(4, vI i), (3, .ref o), (2, .ref m), (1, .ref x), (0, .ref 0)] [vI z3460] _ H3454
  refine wl_of hX hb cL_1333 (rw_pop (pc' := 1334) rfl rfl ?_)
  refine wl_of hX hb cL_1334 (rw_aload_n (pc' := 1335) (v := .ref m) rfl rfl rfl ?_)
  have k3462 : wKI H3454 m = wKI H m := (wKI_fr hW gm f3459 rfl)
  have k3463 : H3454 x 9 = H x 9 := (f3459 x 9 _ gx rfl)
  have k3464 : H3454 m 6 = H m 6 := (f3459 m 6 _ gm rfl)
  have k3465 : H3454 x 11 = H x 11 := (f3459 x 11 _ gx rfl)
  have k3466 : H3454 m 13 = H m 13 := (f3459 m 13 _ gm rfl)
  have k3467 : H3454 x 8 = H x 8 := (f3459 x 8 _ gx rfl)
  have k3468 : H3454 m 3 = H m 3 := (f3459 m 3 _ gm rfl)
  refine wl_of hX hb cL_1335 (xc_V (pc' := 1338) (r := m) (as := []) (st := []) (lm_11_178) rfl rfl (Nat.le_of_ble_eq_true rfl) w3458 gm sh_42 (by decide) rfl (by decide) (s_283 w3458 gm (by omega)) (fun R3469 T3470 H3471 p3472 => ?_))
  obtain ⟨e3473, w3475, f3476, z3478, e3474, b3479, p3477⟩ := p3472
  subst e3473
  subst e3474
  show WL _ _ _ _ 1338 [(4, vI i), (3, .ref o), (2, .ref m), (1, .ref x), (0, .ref 0)] [vI z3478] _ H3471
  refine wl_of hX hb cL_1338 (rw_pop (pc' := 1339) rfl rfl ?_)
  refine wl_of hX hb cL_1339 (rw_goto (p1 := 1653) (by decide) ?_)
  have k3480 : H3471 x 9 = H3454 x 9 := (f3476 x 9 _ gx rfl)
  have k3481 : H3471 m 6 = H3454 m 6 := (f3476 m 6 _ gm rfl)
  have k3482 : H3471 x 11 = H3454 x 11 := (f3476 x 11 _ gx rfl)
  have k3483 : H3471 m 13 = H3454 m 13 := (f3476 m 13 _ gm rfl)
  have k3484 : H3471 x 8 = H3454 x 8 := (f3476 x 8 _ gx rfl)
  have k3485 : H3471 m 3 = H3454 m 3 := (f3476 m 3 _ gm rfl)
  have h3486 : XI T H3471 x m := (XI_fr w3458 gx f3476 rfl (XI_fr hW gx f3459 rfl hXI))
  exact WL.loc hX (by simp) (next T H3471 ⟨⟨w3475, g0, gx, gm, go, by omega, by omega⟩, h3486, by omega, by omega⟩ (by omega) (by omega))
set_option maxHeartbeats 4000000 in
theorem wl_c38 {kt : Nat → Option mc_E} {CB SB : Nat} {X : mc_S → Prop} {T : wq_T} {H : wq_H} {Len x m o : Nat} {i : Int} (hX : wlX kt CB SB X) (hb : T.2.1 ≤ CB ∧ T.2.2.1 ≤ SB) (hI : wlJ Len x m o T H) (hL : Len ≤ 3072) (hi : 0 ≤ i ∧ i + 6 ≤ Len) (hb2 : T.2.1 + 20 ≤ CB ∧ T.2.2.1 + 500 ≤ SB)  (next : ∀ T' H', wlJ Len x m o T' H' → T'.2.1 ≤ T.2.1 + 20 → T'.2.2.1 ≤ T.2.2.1 + 500 → WL kt CB SB X 1653 (wlL i x m o) [] T' H') : WL kt CB SB X 1342 (wlL i x m o) [] T H := by
  obtain ⟨⟨hW, g0, gx, gm, go, hK, hr⟩, hXI, hY1, hY2⟩ := hI
  refine wl_of hX hb cL_1342 (rw_aload_n (pc' := 1343) (v := .ref x) rfl rfl rfl ?_)
  refine wl_of hX hb cL_1343 (rw_aload_n (pc' := 1344) (v := .ref 0) rfl rfl rfl ?_)
  refine wl_of hX hb cL_1344 (rw_iload (pc' := 1346) (z := i) rfl rfl ?_)
  refine wl_of hX hb cL_1346 (rw_iconst (pc' := 1347) rfl ?_)
  refine wl_of hX hb cL_1347 (rw_iadd (pc' := 1348) rfl ?_)
  refine wl_of hX hb cL_1348 (xa_I (so := 0) (pc' := 1349) (a := 0) hW g0 (wsh_s _) (by omega) (wty_s _ _) (by omega) (by omega) rfl (fun b3487 b3488 => ?_))
  refine wl_of hX hb cL_1349 (xc_V (pc' := 1352) (r := x) (as := [vI (H 0 ((i + 1).toNat))]) (st := []) (lm_11_179) rfl rfl (Nat.le_of_ble_eq_true rfl) hW gx sh_1 (by decide) rfl (by decide) (s_152 hW gx ⟨by omega, by omega⟩) (fun R3489 T3490 H3491 p3492 => ?_))
  obtain ⟨e3493, w3495, f3496, z3497, e3494, b3498⟩ := p3492
  subst e3493
  subst e3494
  show WL _ _ _ _ 1352 [(4, vI i), (3, .ref o), (2, .ref m), (1, .ref x), (0, .ref 0)] [vI z3497] _ H3491
  refine wl_of hX hb cL_1352 (rw_pop (pc' := 1353) rfl rfl ?_)
  refine wl_of hX hb cL_1353 (rw_aload_n (pc' := 1354) (v := .ref m) rfl rfl rfl ?_)
  refine wl_of hX hb cL_1354 (rw_aload_n (pc' := 1355) (v := .ref 0) rfl rfl rfl ?_)
  refine wl_of hX hb cL_1355 (rw_iload (pc' := 1357) (z := i) rfl rfl ?_)
  refine wl_of hX hb cL_1357 (rw_iconst (pc' := 1358) rfl ?_)
  refine wl_of hX hb cL_1358 (rw_iadd (pc' := 1359) rfl ?_)
  have k3501 : H3491 0 ((i + 1).toNat) = H 0 ((i + 1).toNat) := (f3496 0 ((i + 1).toNat) _ g0 (wmem_s rfl))
  refine wl_of hX hb cL_1359 (xa_I (so := 0) (pc' := 1360) (a := 0) w3495 g0 (wsh_s _) (by omega) (wty_s _ _) (by omega) (by omega) rfl (fun b3499 b3500 => ?_))
  have k3502 : wKI H3491 m = wKI H m := (wKI_fr hW gm f3496 rfl)
  have k3503 : H3491 x 9 = H x 9 := (f3496 x 9 _ gx rfl)
  have k3504 : H3491 m 6 = H m 6 := (f3496 m 6 _ gm rfl)
  have k3505 : H3491 x 11 = H x 11 := (f3496 x 11 _ gx rfl)
  have k3506 : H3491 m 13 = H m 13 := (f3496 m 13 _ gm rfl)
  have k3507 : H3491 x 8 = H x 8 := (f3496 x 8 _ gx rfl)
  have k3508 : H3491 m 3 = H m 3 := (f3496 m 3 _ gm rfl)
  refine wl_of hX hb cL_1360 (xc_V (pc' := 1363) (r := m) (as := [vI (H3491 0 ((i + 1).toNat))]) (st := []) (lm_11_182) rfl rfl (Nat.le_of_ble_eq_true rfl) w3495 gm sh_42 (by decide) rfl (by decide) (s_284 w3495 gm ⟨by omega, by omega⟩ (by omega)) (fun R3509 T3510 H3511 p3512 => ?_))
  obtain ⟨e3513, w3515, f3516, z3518, e3514, b3519, p3517⟩ := p3512
  subst e3513
  subst e3514
  show WL _ _ _ _ 1363 [(4, vI i), (3, .ref o), (2, .ref m), (1, .ref x), (0, .ref 0)] [vI z3518] _ H3511
  refine wl_of hX hb cL_1363 (rw_pop (pc' := 1364) rfl rfl ?_)
  refine wl_of hX hb cL_1364 (rw_goto (p1 := 1653) (by decide) ?_)
  have k3520 : H3511 x 9 = H3491 x 9 := (f3516 x 9 _ gx rfl)
  have k3521 : H3511 m 6 = H3491 m 6 := (f3516 m 6 _ gm rfl)
  have k3522 : H3511 x 11 = H3491 x 11 := (f3516 x 11 _ gx rfl)
  have k3523 : H3511 m 13 = H3491 m 13 := (f3516 m 13 _ gm rfl)
  have k3524 : H3511 x 8 = H3491 x 8 := (f3516 x 8 _ gx rfl)
  have k3525 : H3511 m 3 = H3491 m 3 := (f3516 m 3 _ gm rfl)
  have h3526 : XI T H3511 x m := (XI_fr w3495 gx f3516 rfl (XI_fr hW gx f3496 rfl hXI))
  exact WL.loc hX (by simp) (next T H3511 ⟨⟨w3515, g0, gx, gm, go, by omega, by omega⟩, h3526, by omega, by omega⟩ (by omega) (by omega))
set_option maxHeartbeats 4000000 in
theorem wl_c39 {kt : Nat → Option mc_E} {CB SB : Nat} {X : mc_S → Prop} {T : wq_T} {H : wq_H} {Len x m o : Nat} {i : Int} (hX : wlX kt CB SB X) (hb : T.2.1 ≤ CB ∧ T.2.2.1 ≤ SB) (hI : wlJ Len x m o T H) (hL : Len ≤ 3072) (hi : 0 ≤ i ∧ i + 6 ≤ Len) (hb2 : T.2.1 + 20 ≤ CB ∧ T.2.2.1 + 500 ≤ SB)  (next : ∀ T' H', wlJ Len x m o T' H' → T'.2.1 ≤ T.2.1 + 20 → T'.2.2.1 ≤ T.2.2.1 + 500 → WL kt CB SB X 1653 (wlL i x m o) [] T' H') : WL kt CB SB X 1367 (wlL i x m o) [] T H := by
  obtain ⟨⟨hW, g0, gx, gm, go, hK, hr⟩, hXI, hY1, hY2⟩ := hI
  refine wl_of hX hb cL_1367 (rw_aload_n (pc' := 1368) (v := .ref x) rfl rfl rfl ?_)
  refine wl_of hX hb cL_1368 (rw_aload_n (pc' := 1369) (v := .ref 0) rfl rfl rfl ?_)
  refine wl_of hX hb cL_1369 (rw_iload (pc' := 1371) (z := i) rfl rfl ?_)
  refine wl_of hX hb cL_1371 (rw_iconst (pc' := 1372) rfl ?_)
  refine wl_of hX hb cL_1372 (rw_iadd (pc' := 1373) rfl ?_)
  refine wl_of hX hb cL_1373 (xa_I (so := 0) (pc' := 1374) (a := 0) hW g0 (wsh_s _) (by omega) (wty_s _ _) (by omega) (by omega) rfl (fun b3527 b3528 => ?_))
  refine wl_of hX hb cL_1374 (rw_aload_n (pc' := 1375) (v := .ref 0) rfl rfl rfl ?_)
  refine wl_of hX hb cL_1375 (rw_iload (pc' := 1377) (z := i) rfl rfl ?_)
  refine wl_of hX hb cL_1377 (rw_iconst (pc' := 1378) rfl ?_)
  refine wl_of hX hb cL_1378 (rw_iadd (pc' := 1379) rfl ?_)
  refine wl_of hX hb cL_1379 (xa_I (so := 0) (pc' := 1380) (a := 0) hW g0 (wsh_s _) (by omega) (wty_s _ _) (by omega) (by omega) rfl (fun b3529 b3530 => ?_))
  obtain ⟨B, tc, tm, cu, dr, C8, e8, d8, n8, g8, e0, gtc, htc, em, gtm, htm, ecu, gcu, edr, gdr, hcu, hdr, hdec, hded, hsp, hC1, hC2, hcu8, hrb8, hcg8, hmn8, hE, hZ, hn8, hXA, hV8, hSG, -⟩ := hXI
  have hN3 := RB_n3 hrb8
  have hE13 : ∀ h : Nat, h < 24 → 0 ≤ e8 13 h ∧ e8 13 h ≤ 100 := fun k hk => by
    obtain ⟨s, h1, h2, h3⟩ := hcu8.1.2.2.1
    exact ⟨(h3 k hk).1, (h3 k hk).2.1⟩
  have hXW := hXA.1
  have hXN := hXA.2
  have hE0 : e8 0 3 = d8 0 3 ∧ e8 0 0 = d8 0 0 := by
    have h := hE 0 (by decide)
    exact ⟨congrFun h 3, congrFun h 0⟩
  have u3531 := CU_k hcu8
  have h3532 : CY T H cu (d8 0 3) g8 (H cu 17) := ⟨hcg8, rfl⟩
  have h3533 : RY T H m (d8 0 3) g8 (H m 32) := ⟨hmn8, rfl⟩
  obtain ⟨t9, ht9⟩ : ∃ t : Int, t = H x 9 := ⟨_, rfl⟩
  obtain ⟨y9, hy9⟩ : ∃ y : Int, y = H 0 ((i + 2).toNat) := ⟨_, rfl⟩
  refine wl_of hX hb cL_1380 (xc_V (pc' := 1383) (r := x) (as := [vI (H 0 ((i + 1).toNat)), vI (H 0 ((i + 2).toNat))]) (st := []) (lm_11_183) rfl rfl (Nat.le_of_ble_eq_true rfl) hW gx sh_1 (by decide) rfl (by decide) (u_153 (e := e8) (d := d8) (n := n8) (y := ((H 0 ((i + 1).toNat)))) (w := (((H 0 ((i + 2).toNat)) + 1))) hW gx ⟨by omega, by omega⟩ ⟨by omega, by omega⟩ ecu gcu (by omega) (by omega) (by omega) (by omega) hcu8) (fun R3534 T3535 H3536 p3537 => ?_))
  obtain ⟨e3538, w3540, f3541, z3542, e3539, b3543, p3544⟩ := p3537
  subst e3538
  subst e3539
  rcases p3544 with ⟨a3545, a3546, a3547⟩ | ⟨a3548, a3549, a3550, a3551⟩
  · show WL _ _ _ _ 1383 [(4, vI i), (3, .ref o), (2, .ref m), (1, .ref x), (0, .ref 0)] [vI z3542] _ H3536
    have u3552 := CU_k a3547
    refine wl_of hX hb cL_1383 (rw_pop (pc' := 1384) rfl rfl ?_)
    refine wl_of hX hb cL_1384 (rw_aload_n (pc' := 1385) (v := .ref m) rfl rfl rfl ?_)
    refine wl_of hX hb cL_1385 (rw_aload_n (pc' := 1386) (v := .ref 0) rfl rfl rfl ?_)
    refine wl_of hX hb cL_1386 (rw_iload (pc' := 1388) (z := i) rfl rfl ?_)
    refine wl_of hX hb cL_1388 (rw_iconst (pc' := 1389) rfl ?_)
    refine wl_of hX hb cL_1389 (rw_iadd (pc' := 1390) rfl ?_)
    have k3555 : H3536 0 ((i + 1).toNat) = H 0 ((i + 1).toNat) := (f3541 0 ((i + 1).toNat) _ g0 (wmem_s rfl))
    refine wl_of hX hb cL_1390 (xa_I (so := 0) (pc' := 1391) (a := 0) w3540 g0 (wsh_s _) (by omega) (wty_s _ _) (by omega) (by omega) rfl (fun b3553 b3554 => ?_))
    refine wl_of hX hb cL_1391 (rw_aload_n (pc' := 1392) (v := .ref 0) rfl rfl rfl ?_)
    refine wl_of hX hb cL_1392 (rw_iload (pc' := 1394) (z := i) rfl rfl ?_)
    refine wl_of hX hb cL_1394 (rw_iconst (pc' := 1395) rfl ?_)
    refine wl_of hX hb cL_1395 (rw_iadd (pc' := 1396) rfl ?_)
    have k3558 : H3536 0 ((i + 2).toNat) = H 0 ((i + 2).toNat) := (f3541 0 ((i + 2).toNat) _ g0 (wmem_s rfl))
    refine wl_of hX hb cL_1396 (xa_I (so := 0) (pc' := 1397) (a := 0) w3540 g0 (wsh_s _) (by omega) (wty_s _ _) (by omega) (by omega) rfl (fun b3556 b3557 => ?_))
    have k3559 : wKI H3536 m = wKI H m := (wKI_fr hW gm f3541 rfl)
    have k3560 : H3536 x 9 = H x 9 := (f3541 x 9 _ gx rfl)
    have k3561 : H3536 m 6 = H m 6 := (f3541 m 6 _ gm rfl)
    have k3562 : H3536 x 11 = H x 11 := (f3541 x 11 _ gx rfl)
    have k3563 : H3536 m 13 = H m 13 := (f3541 m 13 _ gm rfl)
    have k3564 : H3536 x 8 = H x 8 := (f3541 x 8 _ gx rfl)
    have k3565 : H3536 m 3 = H m 3 := (f3541 m 3 _ gm rfl)
    rw [show H3536 0 ((i + 2).toNat) = H 0 ((i + 2).toNat) by omega]
    rw [show H3536 0 ((i + 1).toNat) = H 0 ((i + 1).toNat) by omega]
    have h3566 : RB T H3536 m e8 d8 := (RB_fr hW gm f3541 rfl hrb8)
    refine wl_of hX hb cL_1397 (xc_V (pc' := 1400) (r := m) (as := [vI (H 0 ((i + 1).toNat)), vI (H 0 ((i + 2).toNat))]) (st := []) (lm_11_186) rfl rfl (Nat.le_of_ble_eq_true rfl) w3540 gm sh_42 (by decide) rfl (by decide) (u_285 (e := e8) (d := d8) (y := ((H 0 ((i + 1).toNat)))) (w := (((H 0 ((i + 2).toNat)) + 1))) w3540 gm ⟨by omega, by omega⟩ ⟨by omega, by omega⟩ (by omega) (by omega) (by omega) h3566) (fun R3567 T3568 H3569 p3570 => ?_))
    obtain ⟨e3571, w3573, f3574, z3575, e3572, b3576, p3577⟩ := p3570
    subst e3571
    subst e3572
    rcases p3577 with ⟨a3578, a3579, a3580, a3581⟩ | ⟨a3582, a3583, a3584, a3585⟩
    · show WL _ _ _ _ 1400 [(4, vI i), (3, .ref o), (2, .ref m), (1, .ref x), (0, .ref 0)] [vI z3575] _ H3569
      refine wl_of hX hb cL_1400 (rw_pop (pc' := 1401) rfl rfl ?_)
      refine wl_of hX hb cL_1401 (rw_goto (p1 := 1653) (by decide) ?_)
      have k3586 : H3569 x 9 = H3536 x 9 := (f3574 x 9 _ gx rfl)
      have k3587 : H3569 m 6 = H3536 m 6 := (f3574 m 6 _ gm rfl)
      have k3588 : H3569 x 11 = H3536 x 11 := (f3574 x 11 _ gx rfl)
      have k3589 : H3569 m 13 = H3536 m 13 := (f3574 m 13 _ gm rfl)
      have k3590 : H3569 x 8 = H3536 x 8 := (f3574 x 8 _ gx rfl)
      have k3591 : H3569 m 3 = H3536 m 3 := (f3574 m 3 _ gm rfl)
      have k3592 : H3569 x 0 = H x 0 := ((f3574 x 0 _ gx rfl).trans (f3541 x 0 _ gx rfl))
      have q3593 : H3569 x 0 = (tc : Int) := k3592.trans e0
      have k3594 : H3569 m 5 = H m 5 := ((f3574 m 5 _ gm rfl).trans (f3541 m 5 _ gm rfl))
      have q3595 : H3569 m 5 = (tm : Int) := k3594.trans em
      have k3596 : H3569 x 6 = H x 6 := ((f3574 x 6 _ gx rfl).trans (f3541 x 6 _ gx rfl))
      have q3597 : H3569 x 6 = (cu : Int) := k3596.trans ecu
      have k3598 : H3569 x 7 = H x 7 := ((f3574 x 7 _ gx rfl).trans (f3541 x 7 _ gx rfl))
      have q3599 : H3569 x 7 = (dr : Int) := k3598.trans edr
      have h3600 : TP T H3569 tc B := (TP_fr w3540 gtc f3574 rfl (TP_fr hW gtc f3541 rfl htc))
      have h3601 : TM T H3569 tm B := (TM_fr w3540 gtm f3574 rfl (TM_fr hW gtm f3541 rfl htm))
      have h3602 : DD T H3569 cu  := (DD_fr w3540 gcu f3574 rfl (DD_fr hW gcu f3541 rfl hcu))
      have h3603 : DD T H3569 dr  := (DD_fr w3540 gdr f3574 rfl (DD_fr hW gdr f3541 rfl hdr))
      have h3604 : DE T H3569 cu  := (DE_fr w3540 gcu f3574 rfl (DE_fr hW gcu f3541 rfl hdec))
      have h3605 : DE T H3569 dr  := (DE_fr w3540 gdr f3574 rfl (DE_fr hW gdr f3541 rfl hded))
      have h3606 : SP T H3569 x C8 := (SP_fr w3540 gx f3574 rfl (SP_fr hW gx f3541 rfl hsp))
      have h3607 : CU T H3569 cu e8 d8 n8 := (CU_fr w3540 gcu f3574 rfl a3547)
      have h3608 : CY T H3569 cu (d8 0 3) g8 (H cu 17) := (CY_fr w3540 gcu f3574 rfl (CY_fr hW gcu f3541 rfl h3532))
      have h3609 : RY T H3569 m (d8 0 3) g8 (H m 32) := (RY_fr w3540 gm f3574 rfl (RY_fr hW gm f3541 rfl h3533))
      exact WL.loc hX (by simp) (next T H3569 ⟨⟨w3573, g0, gx, gm, go, by omega, by omega⟩, ⟨_, tc, tm, cu, dr, _, _, _, _, _, q3593, gtc, h3600, q3595, gtm, h3601, q3597, gcu, q3599, gdr, h3602, h3603, h3604, h3605, h3606, hC1, hC2, h3607, a3581, (h3608).1, (h3609).1, hE, hZ, (by omega), (by assumption), (by omega), (by first | assumption | exact SG_0), gm⟩, by omega, by omega⟩ (by omega) (by omega))
    · show WL _ _ _ _ 1400 [(4, vI i), (3, .ref o), (2, .ref m), (1, .ref x), (0, .ref 0)] [vI z3575] _ H3569
      refine wl_of hX hb cL_1400 (rw_pop (pc' := 1401) rfl rfl ?_)
      refine wl_of hX hb cL_1401 (rw_goto (p1 := 1653) (by decide) ?_)
      have k3610 : H3569 x 9 = H3536 x 9 := (f3574 x 9 _ gx rfl)
      have k3611 : H3569 m 6 = H3536 m 6 := (f3574 m 6 _ gm rfl)
      have k3612 : H3569 x 11 = H3536 x 11 := (f3574 x 11 _ gx rfl)
      have k3613 : H3569 m 13 = H3536 m 13 := (f3574 m 13 _ gm rfl)
      have k3614 : H3569 x 8 = H3536 x 8 := (f3574 x 8 _ gx rfl)
      have k3615 : H3569 m 3 = H3536 m 3 := (f3574 m 3 _ gm rfl)
      have k3616 : H3569 x 0 = H x 0 := ((f3574 x 0 _ gx rfl).trans (f3541 x 0 _ gx rfl))
      have q3617 : H3569 x 0 = (tc : Int) := k3616.trans e0
      have k3618 : H3569 m 5 = H m 5 := ((f3574 m 5 _ gm rfl).trans (f3541 m 5 _ gm rfl))
      have q3619 : H3569 m 5 = (tm : Int) := k3618.trans em
      have k3620 : H3569 x 6 = H x 6 := ((f3574 x 6 _ gx rfl).trans (f3541 x 6 _ gx rfl))
      have q3621 : H3569 x 6 = (cu : Int) := k3620.trans ecu
      have k3622 : H3569 x 7 = H x 7 := ((f3574 x 7 _ gx rfl).trans (f3541 x 7 _ gx rfl))
      have q3623 : H3569 x 7 = (dr : Int) := k3622.trans edr
      have h3624 : TP T H3569 tc B := (TP_fr w3540 gtc f3574 rfl (TP_fr hW gtc f3541 rfl htc))
      have h3625 : TM T H3569 tm B := (TM_fr w3540 gtm f3574 rfl (TM_fr hW gtm f3541 rfl htm))
      have h3626 : DD T H3569 cu  := (DD_fr w3540 gcu f3574 rfl (DD_fr hW gcu f3541 rfl hcu))
      have h3627 : DD T H3569 dr  := (DD_fr w3540 gdr f3574 rfl (DD_fr hW gdr f3541 rfl hdr))
      have h3628 : DE T H3569 cu  := (DE_fr w3540 gcu f3574 rfl (DE_fr hW gcu f3541 rfl hdec))
      have h3629 : DE T H3569 dr  := (DE_fr w3540 gdr f3574 rfl (DE_fr hW gdr f3541 rfl hded))
      have h3630 : SP T H3569 x C8 := (SP_fr w3540 gx f3574 rfl (SP_fr hW gx f3541 rfl hsp))
      have h3631 : CU T H3569 cu e8 d8 n8 := (CU_fr w3540 gcu f3574 rfl a3547)
      have h3632 : CY T H3569 cu (d8 0 3) g8 (H cu 17) := (CY_fr w3540 gcu f3574 rfl (CY_fr hW gcu f3541 rfl h3532))
      exfalso
      omega
  · show WL _ _ _ _ 1383 [(4, vI i), (3, .ref o), (2, .ref m), (1, .ref x), (0, .ref 0)] [vI z3542] _ H3536
    have u3633 := CU_k a3551
    refine wl_of hX hb cL_1383 (rw_pop (pc' := 1384) rfl rfl ?_)
    refine wl_of hX hb cL_1384 (rw_aload_n (pc' := 1385) (v := .ref m) rfl rfl rfl ?_)
    refine wl_of hX hb cL_1385 (rw_aload_n (pc' := 1386) (v := .ref 0) rfl rfl rfl ?_)
    refine wl_of hX hb cL_1386 (rw_iload (pc' := 1388) (z := i) rfl rfl ?_)
    refine wl_of hX hb cL_1388 (rw_iconst (pc' := 1389) rfl ?_)
    refine wl_of hX hb cL_1389 (rw_iadd (pc' := 1390) rfl ?_)
    have k3636 : H3536 0 ((i + 1).toNat) = H 0 ((i + 1).toNat) := (f3541 0 ((i + 1).toNat) _ g0 (wmem_s rfl))
    refine wl_of hX hb cL_1390 (xa_I (so := 0) (pc' := 1391) (a := 0) w3540 g0 (wsh_s _) (by omega) (wty_s _ _) (by omega) (by omega) rfl (fun b3634 b3635 => ?_))
    refine wl_of hX hb cL_1391 (rw_aload_n (pc' := 1392) (v := .ref 0) rfl rfl rfl ?_)
    refine wl_of hX hb cL_1392 (rw_iload (pc' := 1394) (z := i) rfl rfl ?_)
    refine wl_of hX hb cL_1394 (rw_iconst (pc' := 1395) rfl ?_)
    refine wl_of hX hb cL_1395 (rw_iadd (pc' := 1396) rfl ?_)
    have k3639 : H3536 0 ((i + 2).toNat) = H 0 ((i + 2).toNat) := (f3541 0 ((i + 2).toNat) _ g0 (wmem_s rfl))
    refine wl_of hX hb cL_1396 (xa_I (so := 0) (pc' := 1397) (a := 0) w3540 g0 (wsh_s _) (by omega) (wty_s _ _) (by omega) (by omega) rfl (fun b3637 b3638 => ?_))
    have k3640 : wKI H3536 m = wKI H m := (wKI_fr hW gm f3541 rfl)
    have k3641 : H3536 x 9 = H x 9 := (f3541 x 9 _ gx rfl)
    have k3642 : H3536 m 6 = H m 6 := (f3541 m 6 _ gm rfl)
    have k3643 : H3536 x 11 = H x 11 := (f3541 x 11 _ gx rfl)
    have k3644 : H3536 m 13 = H m 13 := (f3541 m 13 _ gm rfl)
    have k3645 : H3536 x 8 = H x 8 := (f3541 x 8 _ gx rfl)
    have k3646 : H3536 m 3 = H m 3 := (f3541 m 3 _ gm rfl)
    rw [show H3536 0 ((i + 2).toNat) = H 0 ((i + 2).toNat) by omega]
    rw [show H3536 0 ((i + 1).toNat) = H 0 ((i + 1).toNat) by omega]
    have h3647 : RB T H3536 m e8 d8 := (RB_fr hW gm f3541 rfl hrb8)
    refine wl_of hX hb cL_1397 (xc_V (pc' := 1400) (r := m) (as := [vI (H 0 ((i + 1).toNat)), vI (H 0 ((i + 2).toNat))]) (st := []) (lm_11_186) rfl rfl (Nat.le_of_ble_eq_true rfl) w3540 gm sh_42 (by decide) rfl (by decide) (u_285 (e := e8) (d := d8) (y := ((H 0 ((i + 1).toNat)))) (w := (((H 0 ((i + 2).toNat)) + 1))) w3540 gm ⟨by omega, by omega⟩ ⟨by omega, by omega⟩ (by omega) (by omega) (by omega) h3647) (fun R3648 T3649 H3650 p3651 => ?_))
    obtain ⟨e3652, w3654, f3655, z3656, e3653, b3657, p3658⟩ := p3651
    subst e3652
    subst e3653
    rcases p3658 with ⟨a3659, a3660, a3661, a3662⟩ | ⟨a3663, a3664, a3665, a3666⟩
    · show WL _ _ _ _ 1400 [(4, vI i), (3, .ref o), (2, .ref m), (1, .ref x), (0, .ref 0)] [vI z3656] _ H3650
      refine wl_of hX hb cL_1400 (rw_pop (pc' := 1401) rfl rfl ?_)
      refine wl_of hX hb cL_1401 (rw_goto (p1 := 1653) (by decide) ?_)
      have k3667 : H3650 x 9 = H3536 x 9 := (f3655 x 9 _ gx rfl)
      have k3668 : H3650 m 6 = H3536 m 6 := (f3655 m 6 _ gm rfl)
      have k3669 : H3650 x 11 = H3536 x 11 := (f3655 x 11 _ gx rfl)
      have k3670 : H3650 m 13 = H3536 m 13 := (f3655 m 13 _ gm rfl)
      have k3671 : H3650 x 8 = H3536 x 8 := (f3655 x 8 _ gx rfl)
      have k3672 : H3650 m 3 = H3536 m 3 := (f3655 m 3 _ gm rfl)
      have k3673 : H3650 x 0 = H x 0 := ((f3655 x 0 _ gx rfl).trans (f3541 x 0 _ gx rfl))
      have q3674 : H3650 x 0 = (tc : Int) := k3673.trans e0
      have k3675 : H3650 m 5 = H m 5 := ((f3655 m 5 _ gm rfl).trans (f3541 m 5 _ gm rfl))
      have q3676 : H3650 m 5 = (tm : Int) := k3675.trans em
      have k3677 : H3650 x 6 = H x 6 := ((f3655 x 6 _ gx rfl).trans (f3541 x 6 _ gx rfl))
      have q3678 : H3650 x 6 = (cu : Int) := k3677.trans ecu
      have k3679 : H3650 x 7 = H x 7 := ((f3655 x 7 _ gx rfl).trans (f3541 x 7 _ gx rfl))
      have q3680 : H3650 x 7 = (dr : Int) := k3679.trans edr
      have h3681 : TP T H3650 tc B := (TP_fr w3540 gtc f3655 rfl (TP_fr hW gtc f3541 rfl htc))
      have h3682 : TM T H3650 tm B := (TM_fr w3540 gtm f3655 rfl (TM_fr hW gtm f3541 rfl htm))
      have h3683 : DD T H3650 cu  := (DD_fr w3540 gcu f3655 rfl (DD_fr hW gcu f3541 rfl hcu))
      have h3684 : DD T H3650 dr  := (DD_fr w3540 gdr f3655 rfl (DD_fr hW gdr f3541 rfl hdr))
      have h3685 : DE T H3650 cu  := (DE_fr w3540 gcu f3655 rfl (DE_fr hW gcu f3541 rfl hdec))
      have h3686 : DE T H3650 dr  := (DE_fr w3540 gdr f3655 rfl (DE_fr hW gdr f3541 rfl hded))
      have h3687 : SP T H3650 x C8 := (SP_fr w3540 gx f3655 rfl (SP_fr hW gx f3541 rfl hsp))
      have h3688 : CU T H3650 cu (wq_u e8 13 (((H 0 ((i + 1).toNat)))).toNat (((H 0 ((i + 2).toNat)) + 1))) d8 n8 := (CU_fr w3540 gcu f3655 rfl a3551)
      have h3689 : CY T H3650 cu (d8 0 3) g8 (H cu 17) := (CY_fr w3540 gcu f3655 rfl (CY_fr hW gcu f3541 rfl h3532))
      exfalso
      omega
    · show WL _ _ _ _ 1400 [(4, vI i), (3, .ref o), (2, .ref m), (1, .ref x), (0, .ref 0)] [vI z3656] _ H3650
      refine wl_of hX hb cL_1400 (rw_pop (pc' := 1401) rfl rfl ?_)
      refine wl_of hX hb cL_1401 (rw_goto (p1 := 1653) (by decide) ?_)
      have k3690 : H3650 x 9 = H3536 x 9 := (f3655 x 9 _ gx rfl)
      have k3691 : H3650 m 6 = H3536 m 6 := (f3655 m 6 _ gm rfl)
      have k3692 : H3650 x 11 = H3536 x 11 := (f3655 x 11 _ gx rfl)
      have k3693 : H3650 m 13 = H3536 m 13 := (f3655 m 13 _ gm rfl)
      have k3694 : H3650 x 8 = H3536 x 8 := (f3655 x 8 _ gx rfl)
      have k3695 : H3650 m 3 = H3536 m 3 := (f3655 m 3 _ gm rfl)
      have k3696 : H3650 x 0 = H x 0 := ((f3655 x 0 _ gx rfl).trans (f3541 x 0 _ gx rfl))
      have q3697 : H3650 x 0 = (tc : Int) := k3696.trans e0
      have k3698 : H3650 m 5 = H m 5 := ((f3655 m 5 _ gm rfl).trans (f3541 m 5 _ gm rfl))
      have q3699 : H3650 m 5 = (tm : Int) := k3698.trans em
      have k3700 : H3650 x 6 = H x 6 := ((f3655 x 6 _ gx rfl).trans (f3541 x 6 _ gx rfl))
      have q3701 : H3650 x 6 = (cu : Int) := k3700.trans ecu
      have k3702 : H3650 x 7 = H x 7 := ((f3655 x 7 _ gx rfl).trans (f3541 x 7 _ gx rfl))
      have q3703 : H3650 x 7 = (dr : Int) := k3702.trans edr
      have h3704 : TP T H3650 tc B := (TP_fr w3540 gtc f3655 rfl (TP_fr hW gtc f3541 rfl htc))
      have h3705 : TM T H3650 tm B := (TM_fr w3540 gtm f3655 rfl (TM_fr hW gtm f3541 rfl htm))
      have h3706 : DD T H3650 cu  := (DD_fr w3540 gcu f3655 rfl (DD_fr hW gcu f3541 rfl hcu))
      have h3707 : DD T H3650 dr  := (DD_fr w3540 gdr f3655 rfl (DD_fr hW gdr f3541 rfl hdr))
      have h3708 : DE T H3650 cu  := (DE_fr w3540 gcu f3655 rfl (DE_fr hW gcu f3541 rfl hdec))
      have h3709 : DE T H3650 dr  := (DE_fr w3540 gdr f3655 rfl (DE_fr hW gdr f3541 rfl hded))
      have h3710 : SP T H3650 x C8 := (SP_fr w3540 gx f3655 rfl (SP_fr hW gx f3541 rfl hsp))
      have h3711 : CU T H3650 cu (wq_u e8 13 (((H 0 ((i + 1).toNat)))).toNat (((H 0 ((i + 2).toNat)) + 1))) d8 n8 := (CU_fr w3540 gcu f3655 rfl a3551)
      have h3712 : CY T H3650 cu (d8 0 3) g8 (H cu 17) := (CY_fr w3540 gcu f3655 rfl (CY_fr hW gcu f3541 rfl h3532))
      have h3713 : RY T H3650 m (d8 0 3) g8 (H m 32) := (RY_fr w3540 gm f3655 rfl (RY_fr hW gm f3541 rfl h3533))
      exact WL.loc hX (by simp) (next T H3650 ⟨⟨w3654, g0, gx, gm, go, by omega, by omega⟩, ⟨_, tc, tm, cu, dr, _, _, _, _, _, q3697, gtc, h3704, q3699, gtm, h3705, q3701, gcu, q3703, gdr, h3706, h3707, h3708, h3709, h3710, hC1, hC2, h3711, a3666, (h3712).1, (h3713).1, (fun i hi => (wq_u_row hi).trans (hE i hi)), (fun h h1 h2 => by rw [wq_u_e2 (fun c => by omega)]; exact hZ h h1 h2), (by omega), (by assumption), (by omega), (by first | assumption | exact SG_0), gm⟩, by omega, by omega⟩ (by omega) (by omega))
