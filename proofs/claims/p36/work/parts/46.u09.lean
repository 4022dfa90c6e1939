/-! StrikeAwakeModel.proves(I)Z  -/
abbrev uq_278 (r0 : Nat) (a1 : Int) (pp : Nat) (e : xD) (d : xD) (T : wq_T) (H : wq_H) : Option Value → wq_T → wq_H → Prop := fun r T' H' => T = T' ∧ WT T H' ∧ wfr [(51, 999)] T H H' ∧ ∃ z : Int, some (vI z) = r ∧ (0 ≤ z ∧ z ≤ 1) ∧ (((z = 1) ∧ (XPV e d (xlots d).toNat a1)) ∨ ((z = 0) ∧ (¬ XPV e d (xlots d).toNat a1)))
set_option maxHeartbeats 4000000 in
theorem u_278 {kt : Nat → Option mc_E} {T : wq_T} {H : wq_H} {r0 : Nat} {a1 : Int} {pp : Nat} {e : xD} {d : xD} (hW : WT T H) (g0 : T.2.2.2 r0 = some 42) (i1 : 0 ≤ a1 ∧ a1 ≤ 16777215) (qpp : H r0 3 = (pp : Int)) (gpp : T.2.2.2 pp = some 54) (p0 : XW d) (p1 : ∀ h : Nat, d 0 0 ≤ (h : Int) → h < 24 → e 13 h = 0) (p2 : XN d) (p3 : ∀ h : Nat, h < 24 → 0 ≤ e 13 h ∧ e 13 h ≤ 100) (p4 : xlots d ≤ 20000) (hRB_r0 : RB T H r0 e d) : wpc kt 5 278 [.ref r0, vI a1] T H (uq_278 r0 a1 pp e d T H) := by
  refine wp_enter e278 (Nat.le_of_ble_eq_true rfl) rfl ?_
  have f0 : wfr [(51, 999)] T H H := wfr.rf
  show wp _ _ 278 0 [(0, .ref r0), (1, vI a1)] [] _ H _
  have _xw := (by assumption : XW d)
  have _xc := _xw.2.1
  unfold XC at _xc
  have _n3 : H r0 3 ≠ -1 := by omega
  have _k := RP_k (RB_at hRB_r0 qpp)
  have _lm := RB_lm hRB_r0
  have _x0 : 0 ≤ xlots d := (xpr_b _xw.1 _ _).1
  refine wp_of e278 c278_0 (rw_iconst (pc' := 1) rfl ?_)
  refine wp_of e278 c278_1 (rw_istore_n (pc' := 2) (z := 0) (L' := [(2, vI 0), (0, .ref r0), (1, vI a1)]) rfl rfl rfl ?_)
  have lp1937 : ∀ (n1938 : Nat) (v1940 : Int) (H1941 : wq_H), WT T H1941 → wfr [(51, 999)] T H H1941 → (0 ≤ v1940 ∧ v1940 ≤ 20000) → (v1940 ≤ xlots d) → (∀ n : Nat, (n : Int) < v1940 → XNQ d n → ¬ XLF (xvy e d (xlot d ((n : Nat) : Int))) (d 0 2) a1) → (20000 - v1940).toNat = n1938 → wp kt 4 278 2 [(2, vI v1940), (0, .ref r0), (1, vI a1)] [] T H1941 (uq_278 r0 a1 pp e d T H) := by
    intro n1938
    induction n1938 using Nat.strongRecOn with
    | _ n1938 ih1939 =>
      intro v1940 H1941 w1942 f1943 b1944 x1946 x1947 m1945
      have f1948 := f0.tr f1943 rfl
      refine wp_of e278 c278_2 (rw_iload_n (pc' := 3) (z := v1940) rfl rfl ?_)
      refine wp_of e278 c278_3 (rw_i2l (pc' := 4) rfl ⟨Int.le_trans (by decide) b1944.1, Int.le_trans b1944.2 (by decide)⟩ ?_)
      have k1949 : wLM H1941 r0 = wLM H r0 := (wLM_fr hW g0 f1943 rfl)
      refine wp_of e278 c278_4 (rw_aload_n (pc' := 5) (v := .ref r0) rfl rfl rfl ?_)
      have k1950 : H1941 r0 3 = H r0 3 := (f1943 r0 3 _ g0 rfl)
      have q1951 : H1941 r0 3 = (pp : Int) := k1950.trans qpp
      refine wp_of e278 c278_5 (xc_V (pc' := 8) (r := r0) (as := []) (st := [vL v1940]) (lm_9_376) rfl rfl (Nat.le_of_ble_eq_true rfl) w1942 g0 sh_42 (by decide) rfl (by decide) (s_220 w1942 g0 q1951 gpp) (fun R1952 T1953 H1954 p1955 => ?_))
      obtain ⟨e1956, e1958, z1960, e1957, b1961, p1959⟩ := p1955
      subst e1956
      subst e1957
      subst e1958
      show wp _ _ 278 8 [(2, vI v1940), (0, .ref r0), (1, vI a1)] [vL z1960, vL v1940] _ H1941 _
      refine wp_of e278 c278_8 (rw_lcmp (pc' := 9) rfl ⟨Int.le_trans (by decide) b1944.1, Int.le_trans b1944.2 (by decide)⟩ ⟨Int.le_trans (by decide) b1961.1, Int.le_trans b1961.2 (by decide)⟩ ?_)
      have b1962 := wq_cmp_b v1940 z1960
      refine wp_of e278 c278_9 (rw_if_ge (p1 := 50) (p2 := 12) (by decide) rfl ⟨by omega, by omega⟩ (fun c1963 => ?_) (fun c1963 => ?_))
      · have _z : XPV e d (xlots d).toNat a1 := fun n hn hq => (by assumption : ∀ n : Nat, (n : Int) < v1940 → XNQ d n → ¬ XLF (xvy e d (xlot d ((n : Nat) : Int))) (d 0 2) a1) n (by omega) hq
        refine wp_of e278 c278_50 (rw_iconst (pc' := 51) rfl ?_)
        exact wp_zreturn e278 c278_51 rfl (by omega) ⟨rfl, w1942, f1948, 1, rfl, ⟨by decide, by decide⟩, (Or.inl ⟨by omega, _z⟩)⟩
      · refine wp_of e278 c278_12 (rw_aload_n (pc' := 13) (v := .ref r0) rfl rfl rfl ?_)
        refine wp_of e278 c278_13 (rw_iload_n (pc' := 14) (z := v1940) rfl rfl ?_)
        have h1964 : RB T H1941 r0 e d := (RB_fr hW g0 f1943 rfl hRB_r0)
        refine wp_of e278 c278_14 (xc_V (pc' := 17) (r := r0) (as := [vI v1940]) (st := []) (lm_9_425) rfl rfl (Nat.le_of_ble_eq_true rfl) w1942 g0 sh_42 (by decide) rfl (by decide) (u_243 (e := e) (d := d) w1942 g0 ⟨b1944.1, Int.le_trans b1944.2 (by decide)⟩ q1951 gpp (by omega) h1964) (fun R1965 T1966 H1967 p1968 => ?_))
        obtain ⟨e1969, w1971, f1972, e1970, p1973⟩ := p1968
        subst e1969
        subst e1970
        have f1975 := f1948.tr f1972 rfl
        have f1976 := f1943.tr f1972 rfl
        show wp _ _ 278 17 [(2, vI v1940), (0, .ref r0), (1, vI a1)] [] _ H1967 _
        have _sl : SL d (xlot d v1940) := SL_lot _xw.1 (by omega) (by omega)
        have _cv : (((v1940).toNat : Nat) : Int) = v1940 := by omega
        refine wp_of e278 c278_17 (rw_aload_n (pc' := 18) (v := .ref r0) rfl rfl rfl ?_)
        refine wp_of e278 c278_18 (rw_aload_n (pc' := 19) (v := .ref r0) rfl rfl rfl ?_)
        refine wp_of e278 c278_19 (xg_R (pc' := 22) lf_9_39 w1971 g0 sh_42 (by decide) (by decide) ty_42_27 rfl rfl (fun r1977 q1978 g1979 => ?_))
        have h1980 : RR T H1967 r1977 (d 0 3) (xlot d v1940) := RR_27 p1973 q1978 g1979 (by omega)
        have k1981 : H1967 r0 3 = H1941 r0 3 := (f1972 r0 3 _ g0 rfl)
        have q1982 : H1967 r0 3 = (pp : Int) := k1981.trans q1951
        have h1983 : RB T H1967 r0 e d := (RB_fr w1942 g0 f1972 rfl h1964)
        refine wp_of e278 c278_22 (xc_V (pc' := 25) (r := r0) (as := [.ref r1977]) (st := []) (lm_9_393) rfl rfl (Nat.le_of_ble_eq_true rfl) w1971 g0 sh_42 (by decide) rfl (by decide) (u_235_l (e := e) (d := d) (g := ((xlot d v1940))) w1971 g0 g1979 q1982 gpp (by assumption) (by assumption) (by assumption) h1983 h1980) (fun R1984 T1985 H1986 p1987 => ?_))
        obtain ⟨e1988, e1990, z1991, e1989, b1992, p1993⟩ := p1987
        subst e1988
        subst e1989
        subst e1990
        show wp _ _ 278 25 [(2, vI v1940), (0, .ref r0), (1, vI a1)] [vI z1991] _ H1967 _
        refine wp_of e278 c278_25 (rw_if_ne (p1 := 44) (p2 := 28) (by decide) rfl ⟨Int.le_trans (by decide) b1992.1, Int.le_trans b1992.2 (by decide)⟩ (fun c1995 => ?_) (fun c1995 => ?_))
        · have _q : ∀ n : Nat, (n : Int) < v1940 + 1 → XNQ d n → ¬ XLF (xvy e d (xlot d ((n : Nat) : Int))) (d 0 2) a1 := fun n hn hq => by
            by_cases c0 : (n : Int) < v1940
            · exact (by assumption : ∀ n : Nat, (n : Int) < v1940 → XNQ d n → ¬ XLF (xvy e d (xlot d ((n : Nat) : Int))) (d 0 2) a1) n c0 hq
            · have e9 : n = (v1940).toNat := by omega
              subst e9
              unfold XNQ at hq
              rw [_cv] at hq ⊢
              first
              | exact absurd hq (by omega)
              | exact XLF_n (by assumption) (by omega)
          refine wp_of e278 c278_44 (rw_iinc (pc' := 47) (z := v1940) (L' := [(2, vI (v1940 + 1)), (0, .ref r0), (1, vI a1)]) rfl rfl rfl rfl ?_)
          refine wp_of e278 c278_47 (rw_goto (p1 := 2) (by decide) ?_)
          exact wp_lc (ks := [2, 0, 1]) (wl_c rfl (wl_c rfl (wl_c rfl wl_n))) rfl (by decide) (ih1939 _ (by omega) (v1940 + 1) H1967 w1971 f1976 ⟨by omega, by omega⟩ (by omega) (_q) rfl)
        · refine wp_of e278 c278_28 (rw_aload_n (pc' := 29) (v := .ref r0) rfl rfl rfl ?_)
          refine wp_of e278 c278_29 (rw_aload_n (pc' := 30) (v := .ref r0) rfl rfl rfl ?_)
          refine wp_of e278 c278_30 (xg_K (pc' := 33) lf_9_39 w1971 g0 sh_42 (by decide) (by decide) rfl q1978 rfl ?_)
          refine wp_of e278 c278_33 (rw_iload_n (pc' := 34) (z := a1) rfl rfl ?_)
          have h1996 : RR T H1967 r1977 (d 0 3) (xlot d v1940) := RR_27 p1973 q1978 g1979 (by omega)
          refine wp_of e278 c278_34 (xc_V (pc' := 37) (r := r0) (as := [.ref r1977, vI a1]) (st := []) (lm_9_397) rfl rfl (Nat.le_of_ble_eq_true rfl) w1971 g0 sh_42 (by decide) rfl (by decide) (u_239_l (e := e) (d := d) (g := ((xlot d v1940))) w1971 g0 g1979 ⟨i1.1, i1.2⟩ q1982 gpp (by assumption) (by assumption) (by assumption) (by assumption) h1983 h1996) (fun R1997 T1998 H1999 p2000 => ?_))
          obtain ⟨e2001, e2003, z2004, e2002, b2005, p2006⟩ := p2000
          subst e2001
          subst e2002
          subst e2003
          show wp _ _ 278 37 [(2, vI v1940), (0, .ref r0), (1, vI a1)] [vI z2004] _ H1967 _
          refine wp_of e278 c278_37 (rw_bipush (pc' := 39) (z := 24) rfl (by decide) ?_)
          refine wp_of e278 c278_39 (rw_icmp_ne (p1 := 44) (p2 := 42) (by decide) rfl ⟨Int.le_trans (by decide) b2005.1, Int.le_trans b2005.2 (by decide)⟩ ⟨by decide, by decide⟩ (fun c2008 => ?_) (fun c2008 => ?_))
          · have _q : ∀ n : Nat, (n : Int) < v1940 + 1 → XNQ d n → ¬ XLF (xvy e d (xlot d ((n : Nat) : Int))) (d 0 2) a1 := fun n hn hq => by
              by_cases c0 : (n : Int) < v1940
              · exact (by assumption : ∀ n : Nat, (n : Int) < v1940 → XNQ d n → ¬ XLF (xvy e d (xlot d ((n : Nat) : Int))) (d 0 2) a1) n c0 hq
              · have e9 : n = (v1940).toNat := by omega
                subst e9
                unfold XNQ at hq
                rw [_cv] at hq ⊢
                first
                | exact absurd hq (by omega)
                | exact XLF_n (by assumption) (by omega)
            refine wp_of e278 c278_44 (rw_iinc (pc' := 47) (z := v1940) (L' := [(2, vI (v1940 + 1)), (0, .ref r0), (1, vI a1)]) rfl rfl rfl rfl ?_)
            refine wp_of e278 c278_47 (rw_goto (p1 := 2) (by decide) ?_)
            exact wp_lc (ks := [2, 0, 1]) (wl_c rfl (wl_c rfl (wl_c rfl wl_n))) rfl (by decide) (ih1939 _ (by omega) (v1940 + 1) H1967 w1971 f1976 ⟨by omega, by omega⟩ (by omega) (_q) rfl)
          · have _z : ¬ XPV e d (xlots d).toNat a1 := XPV_s (i := (v1940).toNat) (by omega) (by
              unfold XNQ
              rw [_cv]
              omega) (by
              rw [_cv]
              exact XLF_24 (by have h9 := (by assumption : XFB _ _ 24 z2004); rwa [show z2004 = 24 by omega] at h9))
            refine wp_of e278 c278_42 (rw_iconst (pc' := 43) rfl ?_)
            exact wp_zreturn e278 c278_43 rfl (by omega) ⟨rfl, w1971, f1975, 0, rfl, ⟨by decide, by decide⟩, (Or.inr ⟨by omega, _z⟩)⟩
  exact wp_lc (ks := [2, 0, 1]) (wl_c rfl (wl_c rfl (wl_c rfl wl_n))) rfl (by decide) (lp1937 _ 0 H hW wfr.rf ⟨by decide, by decide⟩ (by omega) (fun n hn => by omega) rfl)
