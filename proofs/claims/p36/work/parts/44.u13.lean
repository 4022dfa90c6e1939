/-! StrikeAwake.nothing()I  -/
abbrev uq_147 (r0 : Nat) (cu : Nat) (wa : Nat) (ce : Nat) (e : xD) (d : xD) (n : Int) (T : wq_T) (H : wq_H) : Option Value → wq_T → wq_H → Prop := fun r T' H' => T = T' ∧ WT T H' ∧ wfr [(1, 10), (6, 5), (8, 999), (10, 999), (9, 999), (7, 999), (11, 999)] T H H' ∧ ∃ z : Int, some (vI z) = r ∧ ((-2147483648) ≤ z ∧ z ≤ 2147483647) ∧ (((z = -1) ∧ (H r0 8 = 0 ∨ 20000 < n) ∧ CEN T H' ce e d) ∨ ((H r0 8 ≠ 0 ∧ n ≤ 20000) ∧ (z = xno d (xlots d).toNat) ∧ CEN T H' ce e d))
set_option maxHeartbeats 4000000 in
theorem u_147 {kt : Nat → Option mc_E} {T : wq_T} {H : wq_H} {r0 : Nat} {cu : Nat} {wa : Nat} {ce : Nat} {e : xD} {d : xD} {n : Int} (hW : WT T H) (g0 : T.2.2.2 r0 = some 1) (qcu : H r0 6 = (cu : Int)) (gcu : T.2.2.2 cu = some 27) (qwa : H r0 2 = (wa : Int)) (gwa : T.2.2.2 wa = some 6) (qce : H r0 3 = (ce : Int)) (gce : T.2.2.2 ce = some 12) (p0 : ∀ i, i ≠ 13 → e i = d i) (p1 : XW d) (p2 : e 0 3 = d 0 3) (p3 : e 0 0 = d 0 0) (p4 : H r0 8 = 0 ∨ n = xlots d) (p5 : H r0 8 ≠ 0 ∨ (d 0 3 = 0 ∧ d 0 0 = 0)) (hCU_cu : CU T H cu e d n) (hCEN_ce : CEN T H ce e d) (hHDR_ce : HDR T H ce ) : wpc kt 4 147 [.ref r0] T H (uq_147 r0 cu wa ce e d n T H) := by
  refine wp_enter e147 (Nat.le_of_ble_eq_true rfl) rfl ?_
  have f0 : wfr [(1, 10), (6, 5), (8, 999), (10, 999), (9, 999), (7, 999), (11, 999)] T H H := wfr.rf
  show wp _ _ 147 0 [(0, .ref r0)] [] _ H _
  have u1623 := CU_k hCU_cu
  have b1624 : 0 ≤ H r0 8 ∧ H r0 8 ≤ 1 := hW.box g0 (n := 13) rfl (by decide) rfl
  have b1625 : (-9223372036854775808) ≤ H cu 18 ∧ H cu 18 ≤ 9223372036854775807 := hW.box gcu (n := 19) rfl (by decide) rfl
  have _c7 : d 0 0 ≤ 24 := p1.2.1.2.1
  have _c18 := hCU_cu.2.2
  have _x0 : 0 ≤ xlots d := (xpr_b hCU_cu.2.1.1 _ _).1
  refine wp_of e147 c147_0 (rw_aload_n (pc' := 1) (v := .ref r0) rfl rfl rfl ?_)
  refine wp_of e147 c147_1 (rw_aload_n (pc' := 2) (v := .ref r0) rfl rfl rfl ?_)
  refine wp_of e147 c147_2 (xg_I (pc' := 5) lf_0_58 hW g0 sh_1 (by decide) (by decide) ty_1_8 rfl rfl (fun b1626 b1627 => ?_))
  refine wp_of e147 c147_5 (xc_V (pc' := 8) (r := r0) (as := [vI (H r0 8)]) (st := []) (lm_0_245) rfl rfl (Nat.le_of_ble_eq_true rfl) hW g0 sh_1 (by decide) rfl (by decide) (u_84 (e := e) (d := d) (n := n) hW g0 ⟨b1626, b1627⟩ qcu gcu hCU_cu) (fun R1628 T1629 H1630 p1631 => ?_))
  obtain ⟨e1632, e1634, z1635, e1633, b1636, p1637⟩ := p1631
  subst e1632
  subst e1633
  subst e1634
  rcases p1637 with ⟨a1638, a1639, a1640⟩ | ⟨a1641, a1642⟩
  · show wp _ _ 147 8 [(0, .ref r0)] [vI z1635] _ H _
    refine wp_of e147 c147_8 (rw_istore_n (pc' := 9) (z := z1635) (L' := [(1, vI z1635), (0, .ref r0)]) rfl rfl rfl ?_)
    refine wp_of e147 c147_9 (rw_iload_n (pc' := 10) (z := z1635) rfl rfl ?_)
    refine wp_of e147 c147_10 (rw_if_eq (p1 := 19) (p2 := 13) (by decide) rfl ⟨Int.le_trans (by decide) b1636.1, Int.le_trans b1636.2 (by decide)⟩ (fun c1643 => ?_) (fun c1643 => ?_))
    · refine wp_of e147 c147_19 (rw_iconst (pc' := 20) rfl ?_)
      refine wp_of e147 c147_20 (rw_istore_n (pc' := 21) (z := 0) (L' := [(2, vI 0), (1, vI z1635), (0, .ref r0)]) rfl rfl rfl ?_)
      refine wp_of e147 c147_21 (rw_aload_n (pc' := 22) (v := .ref r0) rfl rfl rfl ?_)
      refine wp_of e147 c147_22 (xg_K (pc' := 25) lf_0_23 hW g0 sh_1 (by decide) (by decide) rfl qwa rfl ?_)
      refine wp_of e147 c147_25 (rw_aload_n (pc' := 26) (v := .ref r0) rfl rfl rfl ?_)
      refine wp_of e147 c147_26 (xg_K (pc' := 29) lf_0_51 hW g0 sh_1 (by decide) (by decide) rfl qcu rfl ?_)
      refine wp_of e147 c147_29 (xc_V (pc' := 32) (r := wa) (as := [.ref cu]) (st := []) (lm_0_271) rfl rfl (Nat.le_of_ble_eq_true rfl) hW gwa sh_6 (by decide) rfl (by decide) (u_87 (e := e) (d := d) (n := n) hW gwa gcu (by assumption) (by assumption) (by omega) hCU_cu) (fun R1644 T1645 H1646 p1647 => ?_))
      obtain ⟨e1648, w1650, f1651, e1649, p1652⟩ := p1647
      subst e1648
      subst e1649
      have f1654 := f0.tr f1651 rfl
      show wp _ _ 147 32 [(2, vI 0), (1, vI z1635), (0, .ref r0)] [] _ H1646 _
      refine wp_of e147 c147_32 (rw_iconst (pc' := 33) rfl ?_)
      refine wp_of e147 c147_33 (rw_istore_n (pc' := 34) (z := 0) (L' := [(3, vI 0), (2, vI 0), (1, vI z1635), (0, .ref r0)]) rfl rfl rfl ?_)
      have k2149 : H1646 cu 18 = H cu 18 := (f1651 cu 18 _ gcu rfl)
      have lp2143 : ∀ (n2144 : Nat) (v2146 : Int) (v2147 : Int) (H2148 : wq_H), WT T H2148 → wfr [(8, 999), (10, 999), (9, 999), (7, 999), (11, 999)] T H1646 H2148 → (0 ≤ v2146 ∧ v2146 ≤ 20000) → (0 ≤ v2147 ∧ v2147 ≤ 16777215) → WRc T H2148 wa d (xlot d v2146) → (v2146 ≤ xlots d) → (v2147 = xno d (v2146).toNat) → (20000 - v2146).toNat = n2144 → wp kt 3 147 34 [(3, vI v2146), (2, vI v2147), (0, .ref r0)] [] T H2148 (uq_147 r0 cu wa ce e d n T H) := by
        intro n2144
        induction n2144 using Nat.strongRecOn with
        | _ n2144 ih2145 =>
          intro v2146 v2147 H2148 w2150 f2151 b2152 b2153 h2155 x2156 x2157 m2154
          have f2158 := f1654.tr f2151 rfl
          have k2159 : H2148 cu 18 = H1646 cu 18 := (f2151 cu 18 _ gcu rfl)
          refine wp_of e147 c147_34 (rw_iload_n (pc' := 35) (z := v2146) rfl rfl ?_)
          refine wp_of e147 c147_35 (rw_i2l (pc' := 36) rfl ⟨Int.le_trans (by decide) b2152.1, Int.le_trans b2152.2 (by decide)⟩ ?_)
          refine wp_of e147 c147_36 (rw_aload_n (pc' := 37) (v := .ref r0) rfl rfl rfl ?_)
          have k2160 : H2148 r0 6 = H r0 6 := ((f2151 r0 6 _ g0 rfl).trans (f1651 r0 6 _ g0 rfl))
          have q2161 : H2148 r0 6 = (cu : Int) := k2160.trans qcu
          refine wp_of e147 c147_37 (xg_K (pc' := 40) lf_0_51 w2150 g0 sh_1 (by decide) (by decide) rfl q2161 rfl ?_)
          refine wp_of e147 c147_40 (xg_L (pc' := 43) lf_0_141 w2150 gcu sh_27 (by decide) (by decide) ty_27_18 rfl rfl (fun b2162 b2163 => ?_))
          refine wp_of e147 c147_43 (rw_lcmp (pc' := 44) rfl ⟨Int.le_trans (by decide) b2152.1, Int.le_trans b2152.2 (by decide)⟩ ⟨b2162, b2163⟩ ?_)
          have b2164 := wq_cmp_b v2146 (H2148 cu 18)
          refine wp_of e147 c147_44 (rw_if_ge (p1 := 95) (p2 := 47) (by decide) rfl ⟨by omega, by omega⟩ (fun c2165 => ?_) (fun c2165 => ?_))
          · have _z : v2147 = xno d (xlots d).toNat := by rw [show (xlots d).toNat = (v2146).toNat by omega]; assumption
            refine wp_of e147 c147_95 (rw_aload_n (pc' := 96) (v := .ref r0) rfl rfl rfl ?_)
            refine wp_of e147 c147_96 (rw_iload_n (pc' := 97) (z := v2147) rfl rfl ?_)
            refine wp_of e147 c147_97 (xc_V (pc' := 100) (r := r0) (as := [vI v2147]) (st := []) (lm_0_99) rfl rfl (Nat.le_of_ble_eq_true rfl) w2150 g0 sh_1 (by decide) rfl (by decide) (u_51  w2150 g0 ⟨Int.le_trans (by decide) b2153.1, Int.le_trans b2153.2 (by decide)⟩) (fun R2166 T2167 H2168 p2169 => ?_))
            obtain ⟨e2170, w2172, f2173, z2174, e2171, b2175, p2176⟩ := p2169
            subst e2170
            subst e2171
            obtain ⟨a2177, a2178⟩ := p2176
            have f2179 := f2158.tr f2173 rfl
            show wp _ _ 147 100 [(3, vI v2146), (2, vI v2147), (0, .ref r0)] [vI z2174] _ H2168 _
            have h2180 : CEN T H2168 ce e d := (CEN_fr w2150 gce f2173 rfl (CEN_fr w1650 gce f2151 rfl (CEN_fr hW gce f1651 rfl hCEN_ce)))
            exact wp_ireturn e147 c147_100 rfl ⟨rfl, w2172, f2179, z2174, rfl, ⟨b2175.1, b2175.2⟩, (Or.inr ⟨by omega, by omega, h2180⟩)⟩
          · refine wp_of e147 c147_47 (rw_iload_n (pc' := 48) (z := v2146) rfl rfl ?_)
            refine wp_of e147 c147_48 (rw_sipush (pc' := 51) (z := 20000) rfl (by decide) ?_)
            refine wp_of e147 c147_51 (rw_icmp_ge (p1 := 95) (p2 := 54) (by decide) rfl ⟨Int.le_trans (by decide) b2152.1, Int.le_trans b2152.2 (by decide)⟩ ⟨by decide, by decide⟩ (fun c2181 => ?_) (fun c2181 => ?_))
            · have _z : v2147 = xno d (xlots d).toNat := by rw [show (xlots d).toNat = (v2146).toNat by omega]; assumption
              refine wp_of e147 c147_95 (rw_aload_n (pc' := 96) (v := .ref r0) rfl rfl rfl ?_)
              refine wp_of e147 c147_96 (rw_iload_n (pc' := 97) (z := v2147) rfl rfl ?_)
              refine wp_of e147 c147_97 (xc_V (pc' := 100) (r := r0) (as := [vI v2147]) (st := []) (lm_0_99) rfl rfl (Nat.le_of_ble_eq_true rfl) w2150 g0 sh_1 (by decide) rfl (by decide) (u_51  w2150 g0 ⟨Int.le_trans (by decide) b2153.1, Int.le_trans b2153.2 (by decide)⟩) (fun R2182 T2183 H2184 p2185 => ?_))
              obtain ⟨e2186, w2188, f2189, z2190, e2187, b2191, p2192⟩ := p2185
              subst e2186
              subst e2187
              obtain ⟨a2193, a2194⟩ := p2192
              have f2195 := f2158.tr f2189 rfl
              show wp _ _ 147 100 [(3, vI v2146), (2, vI v2147), (0, .ref r0)] [vI z2190] _ H2184 _
              have h2196 : CEN T H2184 ce e d := (CEN_fr w2150 gce f2189 rfl (CEN_fr w1650 gce f2151 rfl (CEN_fr hW gce f1651 rfl hCEN_ce)))
              exact wp_ireturn e147 c147_100 rfl ⟨rfl, w2188, f2195, z2190, rfl, ⟨b2191.1, b2191.2⟩, (Or.inr ⟨by omega, by omega, h2196⟩)⟩
            · have h2197 : WR T H2148 wa d (xlot d v2146) := WRc_at h2155 (by omega)
              refine wp_of e147 c147_54 (rw_aload_n (pc' := 55) (v := .ref r0) rfl rfl rfl ?_)
              have k2198 : H2148 r0 2 = H r0 2 := ((f2151 r0 2 _ g0 rfl).trans (f1651 r0 2 _ g0 rfl))
              have q2199 : H2148 r0 2 = (wa : Int) := k2198.trans qwa
              refine wp_of e147 c147_55 (xg_K (pc' := 58) lf_0_23 w2150 g0 sh_1 (by decide) (by decide) rfl q2199 rfl ?_)
              refine wp_of e147 c147_58 (xc_V (pc' := 61) (r := wa) (as := []) (st := []) (lm_0_275) rfl rfl (Nat.le_of_ble_eq_true rfl) w2150 gwa sh_6 (by decide) rfl (by decide) (u_80 (d := d) (g := ((xlot d v2146))) w2150 gwa (by assumption) h2197) (fun R2200 T2201 H2202 p2203 => ?_))
              obtain ⟨e2204, e2206, z2207, e2205, b2208, p2209⟩ := p2203
              subst e2204
              subst e2205
              subst e2206
              rcases p2209 with ⟨a2210, a2211⟩ | ⟨a2212, a2213⟩
              · show wp _ _ 147 61 [(3, vI v2146), (2, vI v2147), (0, .ref r0)] [vI z2207] _ H2148 _
                refine wp_of e147 c147_61 (rw_if_ne (p1 := 78) (p2 := 64) (by decide) rfl ⟨Int.le_trans (by decide) b2208.1, Int.le_trans b2208.2 (by decide)⟩ (fun c2214 => ?_) (fun c2214 => ?_))
                · have _q : v2147 = xno d (v2146 + 1).toNat := by
                    rw [xno_n (by omega) (by assumption)]
                    assumption
                  refine wp_of e147 c147_78 (rw_aload_n (pc' := 79) (v := .ref r0) rfl rfl rfl ?_)
                  refine wp_of e147 c147_79 (xg_K (pc' := 82) lf_0_23 w2150 g0 sh_1 (by decide) (by decide) rfl q2199 rfl ?_)
                  refine wp_of e147 c147_82 (rw_aload_n (pc' := 83) (v := .ref r0) rfl rfl rfl ?_)
                  refine wp_of e147 c147_83 (xg_K (pc' := 86) lf_0_51 w2150 g0 sh_1 (by decide) (by decide) rfl q2161 rfl ?_)
                  have h2215 : CU T H2148 cu e d n := (CU_fr w1650 gcu f2151 rfl (CU_fr hW gcu f1651 rfl hCU_cu))
                  refine wp_of e147 c147_86 (xc_V (pc' := 89) (r := wa) (as := [.ref cu]) (st := []) (lm_0_281) rfl rfl (Nat.le_of_ble_eq_true rfl) w2150 gwa sh_6 (by decide) rfl (by decide) (u_91 (e := e) (d := d) (n := n) (a := v2146) w2150 gwa gcu (by assumption) (by assumption) (by omega) (by omega) (by omega) h2215 h2197) (fun R2216 T2217 H2218 p2219 => ?_))
                  obtain ⟨e2220, w2222, f2223, e2221, p2224⟩ := p2219
                  subst e2220
                  subst e2221
                  have f2226 := f2158.tr f2223 rfl
                  have f2227 := f2151.tr f2223 rfl
                  show wp _ _ 147 89 [(3, vI v2146), (2, vI v2147), (0, .ref r0)] [] _ H2218 _
                  have h2228 : WRc T H2218 wa d (xlot d (v2146 + 1)) := Or.inr p2224
                  refine wp_of e147 c147_89 (rw_iinc (pc' := 92) (z := v2146) (L' := [(3, vI (v2146 + 1)), (2, vI v2147), (0, .ref r0)]) rfl rfl rfl rfl ?_)
                  refine wp_of e147 c147_92 (rw_goto (p1 := 34) (by decide) ?_)
                  have k2229 : H2218 cu 18 = H2148 cu 18 := (f2223 cu 18 _ gcu rfl)
                  exact wp_lc (ks := [3, 2, 0]) (wl_c rfl (wl_c rfl (wl_c rfl wl_n))) rfl (by decide) (ih2145 _ (by omega) (v2146 + 1) v2147 H2218 w2222 f2227 ⟨by omega, by omega⟩ ⟨b2153.1, b2153.2⟩ h2228 (by omega) (_q) rfl)
                · exfalso
                  omega
              · show wp _ _ 147 61 [(3, vI v2146), (2, vI v2147), (0, .ref r0)] [vI z2207] _ H2148 _
                refine wp_of e147 c147_61 (rw_if_ne (p1 := 78) (p2 := 64) (by decide) rfl ⟨Int.le_trans (by decide) b2208.1, Int.le_trans b2208.2 (by decide)⟩ (fun c2230 => ?_) (fun c2230 => ?_))
                · exfalso
                  omega
                · refine wp_of e147 c147_64 (rw_iload_n (pc' := 65) (z := v2147) rfl rfl ?_)
                  refine wp_of e147 c147_65 (rw_aload_n (pc' := 66) (v := .ref r0) rfl rfl rfl ?_)
                  refine wp_of e147 c147_66 (xg_K (pc' := 69) lf_0_23 w2150 g0 sh_1 (by decide) (by decide) rfl q2199 rfl ?_)
                  refine wp_of e147 c147_69 (rw_aload_n (pc' := 70) (v := .ref r0) rfl rfl rfl ?_)
                  refine wp_of e147 c147_70 (xg_K (pc' := 73) lf_0_51 w2150 g0 sh_1 (by decide) (by decide) rfl q2161 rfl ?_)
                  have h2231 : CU T H2148 cu e d n := (CU_fr w1650 gcu f2151 rfl (CU_fr hW gcu f1651 rfl hCU_cu))
                  refine wp_of e147 c147_73 (xc_V (pc' := 76) (r := wa) (as := [.ref cu]) (st := [vI v2147]) (lm_0_278) rfl rfl (Nat.le_of_ble_eq_true rfl) w2150 gwa sh_6 (by decide) rfl (by decide) (u_148 (e := e) (d := d) (n := n) (g := ((xlot d v2146))) w2150 gwa gcu (by assumption) (by assumption) (by omega) (by omega) h2231 h2197) (fun R2232 T2233 H2234 p2235 => ?_))
                  obtain ⟨e2236, e2238, z2239, e2237, b2240, p2241⟩ := p2235
                  subst e2236
                  subst e2237
                  subst e2238
                  show wp _ _ 147 76 [(3, vI v2146), (2, vI v2147), (0, .ref r0)] [vI z2239, vI v2147] _ H2148 _
                  refine wp_of e147 c147_76 (rw_ior (pc' := 77) rfl ?_)
                  obtain ⟨v2243, e2244⟩ : ∃ x : Int, x = wq_or v2147 z2239 := ⟨_, rfl⟩
                  rw [← e2244]
                  have b2245 : 0 ≤ v2243 ∧ v2243 ≤ 16777215 := by
                    rw [e2244]
                    exact wq_or_24 ⟨by omega, by omega⟩ ⟨by omega, by omega⟩
                  refine wp_of e147 c147_77 (rw_istore_n (pc' := 78) (z := v2243) (L' := [(2, vI v2243), (3, vI v2146), (0, .ref r0)]) rfl rfl rfl ?_)
                  have _q : v2243 = xno d (v2146 + 1).toNat := xno_y (by omega) (by assumption) (by rw [e2244, ← ‹v2147 = xno d (v2146).toNat›, ← ‹z2239 = xsi d (xlot d v2146)›])
                  refine wp_of e147 c147_78 (rw_aload_n (pc' := 79) (v := .ref r0) rfl rfl rfl ?_)
                  refine wp_of e147 c147_79 (xg_K (pc' := 82) lf_0_23 w2150 g0 sh_1 (by decide) (by decide) rfl q2199 rfl ?_)
                  refine wp_of e147 c147_82 (rw_aload_n (pc' := 83) (v := .ref r0) rfl rfl rfl ?_)
                  refine wp_of e147 c147_83 (xg_K (pc' := 86) lf_0_51 w2150 g0 sh_1 (by decide) (by decide) rfl q2161 rfl ?_)
                  refine wp_of e147 c147_86 (xc_V (pc' := 89) (r := wa) (as := [.ref cu]) (st := []) (lm_0_281) rfl rfl (Nat.le_of_ble_eq_true rfl) w2150 gwa sh_6 (by decide) rfl (by decide) (u_91 (e := e) (d := d) (n := n) (a := v2146) w2150 gwa gcu (by assumption) (by assumption) (by omega) (by omega) (by omega) h2231 h2197) (fun R2246 T2247 H2248 p2249 => ?_))
                  obtain ⟨e2250, w2252, f2253, e2251, p2254⟩ := p2249
                  subst e2250
                  subst e2251
                  have f2256 := f2158.tr f2253 rfl
                  have f2257 := f2151.tr f2253 rfl
                  show wp _ _ 147 89 [(2, vI v2243), (3, vI v2146), (0, .ref r0)] [] _ H2248 _
                  have h2258 : WRc T H2248 wa d (xlot d (v2146 + 1)) := Or.inr p2254
                  refine wp_of e147 c147_89 (rw_iinc (pc' := 92) (z := v2146) (L' := [(3, vI (v2146 + 1)), (2, vI v2243), (0, .ref r0)]) rfl rfl rfl rfl ?_)
                  refine wp_of e147 c147_92 (rw_goto (p1 := 34) (by decide) ?_)
                  have k2259 : H2248 cu 18 = H2148 cu 18 := (f2253 cu 18 _ gcu rfl)
                  exact wp_lc (ks := [3, 2, 0]) (wl_c rfl (wl_c rfl (wl_c rfl wl_n))) rfl (by decide) (ih2145 _ (by omega) (v2146 + 1) v2243 H2248 w2252 f2257 ⟨by omega, by omega⟩ ⟨b2245.1, b2245.2⟩ h2258 (by omega) (_q) rfl)
      exact wp_lc (ks := [3, 2, 1, 0]) (wl_c rfl (wl_c rfl (wl_c rfl wl_n))) rfl (by decide) (lp2143 _ 0 0 H1646 w1650 wfr.rf ⟨by decide, by decide⟩ ⟨by decide, by decide⟩ p1652 (by omega) (rfl) rfl)
    · exfalso
      omega
  · show wp _ _ 147 8 [(0, .ref r0)] [vI z1635] _ H _
    refine wp_of e147 c147_8 (rw_istore_n (pc' := 9) (z := z1635) (L' := [(1, vI z1635), (0, .ref r0)]) rfl rfl rfl ?_)
    refine wp_of e147 c147_9 (rw_iload_n (pc' := 10) (z := z1635) rfl rfl ?_)
    refine wp_of e147 c147_10 (rw_if_eq (p1 := 19) (p2 := 13) (by decide) rfl ⟨Int.le_trans (by decide) b1636.1, Int.le_trans b1636.2 (by decide)⟩ (fun c2260 => ?_) (fun c2260 => ?_))
    · exfalso
      omega
    · refine wp_of e147 c147_13 (rw_aload_n (pc' := 14) (v := .ref r0) rfl rfl rfl ?_)
      refine wp_of e147 c147_14 (rw_iload_n (pc' := 15) (z := z1635) rfl rfl ?_)
      refine wp_of e147 c147_15 (xc_V (pc' := 18) (r := r0) (as := [vI z1635]) (st := []) (lm_0_70) rfl rfl (Nat.le_of_ble_eq_true rfl) hW g0 sh_1 (by decide) rfl (by decide) (u_12  hW g0 ⟨Int.le_trans (by decide) b1636.1, Int.le_trans b1636.2 (by decide)⟩) (fun R2261 T2262 H2263 p2264 => ?_))
      obtain ⟨e2265, w2267, f2268, z2269, e2266, b2270, p2271⟩ := p2264
      subst e2265
      subst e2266
      obtain ⟨a2272, a2273⟩ := p2271
      have f2274 := f0.tr f2268 rfl
      show wp _ _ 147 18 [(1, vI z1635), (0, .ref r0)] [vI z2269] _ H2263 _
      have h2275 : CEN T H2263 ce e d := (CEN_fr hW gce f2268 rfl hCEN_ce)
      exact wp_ireturn e147 c147_18 rfl ⟨rfl, w2267, f2274, z2269, rfl, ⟨b2270.1, b2270.2⟩, (Or.inl ⟨by omega, by omega, h2275⟩)⟩
/-! StrikeAwake.seek()I  -/
abbrev uq_156 (r0 : Nat) (cu : Nat) (wa : Nat) (ce : Nat) (e : xD) (d : xD) (n : Int) (nY : Int) (gY : Nat → Int) (cY : Int) (T : wq_T) (H : wq_H) : Option Value → wq_T → wq_H → Prop := fun r T' H' => T = T' ∧ WT T H' ∧ wfr [(12, 5), (12, 6), (12, 7), (12, 8), (12, 9), (27, 17), (1, 10), (6, 5), (8, 999), (10, 999), (15, 999), (9, 999), (18, 999), (19, 999), (7, 999), (11, 999), (17, 999), (13, 999)] T H H' ∧ ∃ z : Int, some (vI z) = r ∧ ((-2147483648) ≤ z ∧ z ≤ 2147483647) ∧ (((z = -1) ∧ (H r0 8 = 0 ∨ 20000 < n) ∧ CEN T H' ce e d ∧ CY T H' cu nY gY cY) ∨ ((z = -1) ∧ (H r0 8 ≠ 0 ∧ n ≤ 20000) ∧ (XNX (xwf e d) (xlots d).toNat cY z) ∧ CEN T H' ce e d ∧ CY T H' cu nY gY cY) ∨ ((0 ≤ z ∧ z ≤ 19999) ∧ (H r0 8 ≠ 0 ∧ n ≤ 20000) ∧ (XNX (xwf e d) (xlots d).toNat cY z) ∧ CEN T H' ce e d ∧ CY T H' cu nY gY (z + 1)))
set_option maxHeartbeats 4000000 in
theorem u_156 {kt : Nat → Option mc_E} {T : wq_T} {H : wq_H} {r0 : Nat} {cu : Nat} {wa : Nat} {ce : Nat} {e : xD} {d : xD} {n : Int} {nY : Int} {gY : Nat → Int} {cY : Int} (hW : WT T H) (g0 : T.2.2.2 r0 = some 1) (qcu : H r0 6 = (cu : Int)) (gcu : T.2.2.2 cu = some 27) (qwa : H r0 2 = (wa : Int)) (gwa : T.2.2.2 wa = some 6) (qce : H r0 3 = (ce : Int)) (gce : T.2.2.2 ce = some 12) (p0 : ∀ i, i ≠ 13 → e i = d i) (p1 : XW d) (p2 : e 0 3 = d 0 3) (p3 : e 0 0 = d 0 0) (p4 : H r0 8 = 0 ∨ n = xlots d) (p5 : H r0 8 ≠ 0 ∨ (d 0 3 = 0 ∧ d 0 0 = 0)) (hCU_cu : CU T H cu e d n) (hCEN_ce : CEN T H ce e d) (hHDR_ce : HDR T H ce ) (hCY_cu : CY T H cu nY gY cY) : wpc kt 6 156 [.ref r0] T H (uq_156 r0 cu wa ce e d n nY gY cY T H) := by
  refine wp_enter e156 (Nat.le_of_ble_eq_true rfl) rfl ?_
  have f0 : wfr [(12, 5), (12, 6), (12, 7), (12, 8), (12, 9), (27, 17), (1, 10), (6, 5), (8, 999), (10, 999), (15, 999), (9, 999), (18, 999), (19, 999), (7, 999), (11, 999), (17, 999), (13, 999)] T H H := wfr.rf
  show wp _ _ 156 0 [(0, .ref r0)] [] _ H _
  have u1095 := CU_k hCU_cu
  have b1096 : 0 ≤ H r0 8 ∧ H r0 8 ≤ 1 := hW.box g0 (n := 13) rfl (by decide) rfl
  have b1097 : 0 ≤ H cu 17 ∧ H cu 17 ≤ 2147483647 := hW.box gcu (n := 19) rfl (by decide) rfl
  have h1098 : CG T H cu nY gY := hCY_cu.1
  have _c7 : d 0 0 ≤ 24 := p1.2.1.2.1
  have _cy := hCY_cu.2
  have _x0 : 0 ≤ xlots d := (xpr_b hCU_cu.2.1.1 _ _).1
  refine wp_of e156 c156_0 (rw_aload_n (pc' := 1) (v := .ref r0) rfl rfl rfl ?_)
  refine wp_of e156 c156_1 (rw_aload_n (pc' := 2) (v := .ref r0) rfl rfl rfl ?_)
  refine wp_of e156 c156_2 (xg_I (pc' := 5) lf_0_58 hW g0 sh_1 (by decide) (by decide) ty_1_8 rfl rfl (fun b1099 b1100 => ?_))
  refine wp_of e156 c156_5 (xc_V (pc' := 8) (r := r0) (as := [vI (H r0 8)]) (st := []) (lm_0_174) rfl rfl (Nat.le_of_ble_eq_true rfl) hW g0 sh_1 (by decide) rfl (by decide) (u_83 (e := e) (d := d) (n := n) hW g0 ⟨b1099, b1100⟩ qcu gcu qwa gwa qce gce (by assumption) (by assumption) (by omega) (by omega) (by omega) hCU_cu hCEN_ce hHDR_ce) (fun R1101 T1102 H1103 p1104 => ?_))
  obtain ⟨e1105, w1107, f1108, z1109, e1106, b1110, p1111⟩ := p1104
  subst e1105
  subst e1106
  rcases p1111 with ⟨a1112, a1113, a1114, a1115, a1116, a1117⟩ | ⟨a1118, a1119, a1120⟩
  · have f1121 := f0.tr f1108 rfl
    show wp _ _ 156 8 [(0, .ref r0)] [vI z1109] _ H1103 _
    refine wp_of e156 c156_8 (rw_istore_n (pc' := 9) (z := z1109) (L' := [(1, vI z1109), (0, .ref r0)]) rfl rfl rfl ?_)
    refine wp_of e156 c156_9 (rw_iload_n (pc' := 10) (z := z1109) rfl rfl ?_)
    refine wp_of e156 c156_10 (rw_if_eq (p1 := 19) (p2 := 13) (by decide) rfl ⟨Int.le_trans (by decide) b1110.1, Int.le_trans b1110.2 (by decide)⟩ (fun c1122 => ?_) (fun c1122 => ?_))
    · have _cbb := a1116
      have _cb := _cbb.1
      have _cb6 := _cbb.2.1
      have _cb8 := _cbb.2.2.1
      have _cb7 := _cbb.2.2.2.1
      have h1123 : CEM T H1103 ce (xwf e d) (xlots d).toNat := _cbb.2.2.2.2
      have k1124 : H1103 cu 17 = H cu 17 := (f1108 cu 17 _ gcu rfl)
      refine wp_of e156 c156_19 (rw_aload_n (pc' := 20) (v := .ref r0) rfl rfl rfl ?_)
      have k1125 : H1103 r0 3 = H r0 3 := (f1108 r0 3 _ g0 rfl)
      have q1126 : H1103 r0 3 = (ce : Int) := k1125.trans qce
      refine wp_of e156 c156_20 (xg_K (pc' := 23) lf_0_30 w1107 g0 sh_1 (by decide) (by decide) rfl q1126 rfl ?_)
      refine wp_of e156 c156_23 (rw_aload_n (pc' := 24) (v := .ref r0) rfl rfl rfl ?_)
      have k1127 : H1103 r0 6 = H r0 6 := (f1108 r0 6 _ g0 rfl)
      have q1128 : H1103 r0 6 = (cu : Int) := k1127.trans qcu
      refine wp_of e156 c156_24 (xg_K (pc' := 27) lf_0_51 w1107 g0 sh_1 (by decide) (by decide) rfl q1128 rfl ?_)
      refine wp_of e156 c156_27 (xg_I (pc' := 30) lf_0_298 w1107 gcu sh_27 (by decide) (by decide) ty_27_17 rfl rfl (fun b1129 b1130 => ?_))
      refine wp_of e156 c156_30 (rw_aload_n (pc' := 31) (v := .ref r0) rfl rfl rfl ?_)
      refine wp_of e156 c156_31 (xg_K (pc' := 34) lf_0_51 w1107 g0 sh_1 (by decide) (by decide) rfl q1128 rfl ?_)
      have k1131 : H1103 cu 18 = H cu 18 := (f1108 cu 18 _ gcu rfl)
      have h1132 : CU T H1103 cu e d n := (CU_fr hW gcu f1108 rfl hCU_cu)
      refine wp_of e156 c156_34 (xc_V (pc' := 37) (r := ce) (as := [vI (H1103 cu 17), .ref cu]) (st := []) (lm_0_301) rfl rfl (Nat.le_of_ble_eq_true rfl) w1107 gce sh_12 (by decide) rfl (by decide) (u_124 (e := e) (d := d) (n := n) w1107 gce ⟨b1129, b1130⟩ gcu (by assumption) (by assumption) (by omega) (by omega) (by omega) h1132 h1123) (fun R1133 T1134 H1135 p1136 => ?_))
      obtain ⟨e1137, e1139, z1140, e1138, b1141, p1142⟩ := p1136
      subst e1137
      subst e1138
      subst e1139
      show wp _ _ 156 37 [(1, vI z1109), (0, .ref r0)] [vI z1140] _ H1103 _
      have _zn : XNX (xwf e d) (xlots d).toNat cY z1140 := by
        rw [← show H1103 cu 17 = cY by omega]
        assumption
      refine wp_of e156 c156_37 (rw_istore_n (pc' := 38) (z := z1140) (L' := [(2, vI z1140), (1, vI z1109), (0, .ref r0)]) rfl rfl rfl ?_)
      refine wp_of e156 c156_38 (rw_iload_n (pc' := 39) (z := z1140) rfl rfl ?_)
      refine wp_of e156 c156_39 (rw_if_ge (p1 := 49) (p2 := 42) (by decide) rfl ⟨Int.le_trans (by decide) b1141.1, Int.le_trans b1141.2 (by decide)⟩ (fun c1144 => ?_) (fun c1144 => ?_))
      · refine wp_of e156 c156_49 (rw_aload_n (pc' := 50) (v := .ref r0) rfl rfl rfl ?_)
        refine wp_of e156 c156_50 (xg_K (pc' := 53) lf_0_51 w1107 g0 sh_1 (by decide) (by decide) rfl q1128 rfl ?_)
        refine wp_of e156 c156_53 (rw_iload_n (pc' := 54) (z := z1140) rfl rfl ?_)
        refine wp_of e156 c156_54 (rw_iconst (pc' := 55) rfl ?_)
        refine wp_of e156 c156_55 (rw_iadd (pc' := 56) rfl ?_)
        refine wp_of e156 c156_56 (xp_I (pc' := 59) lf_0_298 w1107 gcu sh_27 (by decide) (by decide) ty_27_17 rfl rfl (by omega) (by omega) ⟨by omega, by omega⟩ rfl (fun H1145 e1146 w1147 => ?_))
        have f1148 := f1121.put' e1146 gcu rfl
        have k1149 : H1145 cu 17 = z1140 + 1 := wq_u_s e1146
        refine wp_of e156 c156_59 (rw_aload_n (pc' := 60) (v := .ref r0) rfl rfl rfl ?_)
        refine wp_of e156 c156_60 (rw_iload_n (pc' := 61) (z := z1140) rfl rfl ?_)
        refine wp_of e156 c156_61 (xc_V (pc' := 64) (r := r0) (as := [vI z1140]) (st := []) (lm_0_99) rfl rfl (Nat.le_of_ble_eq_true rfl) w1147 g0 sh_1 (by decide) rfl (by decide) (u_51  w1147 g0 ⟨Int.le_trans (by decide) b1141.1, Int.le_trans b1141.2 (by decide)⟩) (fun R1150 T1151 H1152 p1153 => ?_))
        obtain ⟨e1154, w1156, f1157, z1158, e1155, b1159, p1160⟩ := p1153
        subst e1154
        subst e1155
        obtain ⟨a1161, a1162⟩ := p1160
        have f1163 := f1148.tr f1157 rfl
        show wp _ _ 156 64 [(2, vI z1140), (1, vI z1109), (0, .ref r0)] [vI z1158] _ H1152 _
        have k1164 : H1152 cu 17 = H1145 cu 17 := (f1157 cu 17 _ gcu rfl)
        have h1165 : CEN T H1152 ce e d := (CEN_fr w1147 gce f1157 rfl (CEN_fr w1107 gce ((wfr.rf (l := [(27, 17)])).put' e1146 gcu rfl) rfl a1115))
        have h1166 : CG T H1152 cu nY gY := (CG_fr w1147 gcu f1157 rfl (CG_fr w1107 gcu ((wfr.rf (l := [(27, 17)])).put' e1146 gcu rfl) rfl (CG_fr hW gcu f1108 rfl h1098)))
        exact wp_ireturn e156 c156_64 rfl ⟨rfl, w1156, f1163, z1158, rfl, ⟨b1159.1, b1159.2⟩, (Or.inr (Or.inr ⟨by omega, by omega, XNX_z _zn (by omega), h1165, ⟨h1166, by omega⟩⟩))⟩
      · refine wp_of e156 c156_42 (rw_aload_n (pc' := 43) (v := .ref r0) rfl rfl rfl ?_)
        refine wp_of e156 c156_43 (rw_bipush (pc' := 45) (z := 6) rfl (by decide) ?_)
        refine wp_of e156 c156_45 (xc_V (pc' := 48) (r := r0) (as := [vI 6]) (st := []) (lm_0_70) rfl rfl (Nat.le_of_ble_eq_true rfl) w1107 g0 sh_1 (by decide) rfl (by decide) (u_12  w1107 g0 ⟨by decide, by decide⟩) (fun R1167 T1168 H1169 p1170 => ?_))
        obtain ⟨e1171, w1173, f1174, z1175, e1172, b1176, p1177⟩ := p1170
        subst e1171
        subst e1172
        obtain ⟨a1178, a1179⟩ := p1177
        have f1180 := f1121.tr f1174 rfl
        show wp _ _ 156 48 [(2, vI z1140), (1, vI z1109), (0, .ref r0)] [vI z1175] _ H1169 _
        have h1181 : CEN T H1169 ce e d := (CEN_fr w1107 gce f1174 rfl a1115)
        have h1182 : CY T H1169 cu nY gY cY := (CY_fr w1107 gcu f1174 rfl (CY_fr hW gcu f1108 rfl hCY_cu))
        exact wp_ireturn e156 c156_48 rfl ⟨rfl, w1173, f1180, z1175, rfl, ⟨b1176.1, b1176.2⟩, (Or.inr (Or.inl ⟨by omega, by omega, XNX_z _zn (by omega), h1181, h1182⟩))⟩
    · exfalso
      omega
  · have f1183 := f0.tr f1108 rfl
    show wp _ _ 156 8 [(0, .ref r0)] [vI z1109] _ H1103 _
    refine wp_of e156 c156_8 (rw_istore_n (pc' := 9) (z := z1109) (L' := [(1, vI z1109), (0, .ref r0)]) rfl rfl rfl ?_)
    refine wp_of e156 c156_9 (rw_iload_n (pc' := 10) (z := z1109) rfl rfl ?_)
    refine wp_of e156 c156_10 (rw_if_eq (p1 := 19) (p2 := 13) (by decide) rfl ⟨Int.le_trans (by decide) b1110.1, Int.le_trans b1110.2 (by decide)⟩ (fun c1184 => ?_) (fun c1184 => ?_))
    · exfalso
      omega
    · refine wp_of e156 c156_13 (rw_aload_n (pc' := 14) (v := .ref r0) rfl rfl rfl ?_)
      refine wp_of e156 c156_14 (rw_iload_n (pc' := 15) (z := z1109) rfl rfl ?_)
      refine wp_of e156 c156_15 (xc_V (pc' := 18) (r := r0) (as := [vI z1109]) (st := []) (lm_0_70) rfl rfl (Nat.le_of_ble_eq_true rfl) w1107 g0 sh_1 (by decide) rfl (by decide) (u_12  w1107 g0 ⟨Int.le_trans (by decide) b1110.1, Int.le_trans b1110.2 (by decide)⟩) (fun R1185 T1186 H1187 p1188 => ?_))
      obtain ⟨e1189, w1191, f1192, z1193, e1190, b1194, p1195⟩ := p1188
      subst e1189
      subst e1190
      obtain ⟨a1196, a1197⟩ := p1195
      have f1198 := f1183.tr f1192 rfl
      show wp _ _ 156 18 [(1, vI z1109), (0, .ref r0)] [vI z1193] _ H1187 _
      have h1199 : CEN T H1187 ce e d := (CEN_fr w1107 gce f1192 rfl a1120)
      have h1200 : CY T H1187 cu nY gY cY := (CY_fr w1107 gcu f1192 rfl (CY_fr hW gcu f1108 rfl hCY_cu))
      exact wp_ireturn e156 c156_18 rfl ⟨rfl, w1191, f1198, z1193, rfl, ⟨b1194.1, b1194.2⟩, (Or.inl ⟨by omega, by omega, h1199, h1200⟩)⟩
/-! StrikeAwake.size(I)I  -/
abbrev uq_164 (r0 : Nat) (a1 : Int) (cu : Nat) (e : xD) (d : xD) (n : Int) (nY : Int) (gY : Nat → Int) (cY : Int) (T : wq_T) (H : wq_H) : Option Value → wq_T → wq_H → Prop := fun r T' H' => T = T' ∧ H = H' ∧ ∃ z : Int, some (vI z) = r ∧ ((-2147483648) ≤ z ∧ z ≤ 2147483647) ∧ ((((a1 = 9 ∧ z = H r0 9) ∨ (a1 ≠ 9 ∧ z = xsz e d cY a1))))
set_option maxHeartbeats 4000000 in
theorem u_164 {kt : Nat → Option mc_E} {T : wq_T} {H : wq_H} {r0 : Nat} {a1 : Int} {cu : Nat} {e : xD} {d : xD} {n : Int} {nY : Int} {gY : Nat → Int} {cY : Int} (hW : WT T H) (g0 : T.2.2.2 r0 = some 1) (i1 : (-2147483648) ≤ a1 ∧ a1 ≤ 2147483647) (qcu : H r0 6 = (cu : Int)) (gcu : T.2.2.2 cu = some 27) (p0 : e 0 3 = d 0 3) (p1 : e 0 0 = d 0 0) (p2 : ∀ i, i ≠ 13 → e i = d i) (p3 : H r0 8 = 0 ∨ 1 ≤ d 0 0) (p4 : H r0 8 ≠ 0 ∨ d 0 0 = 0) (hCU_cu : CU T H cu e d n) (hCY_cu : CY T H cu nY gY cY) : wpc kt 1 164 [.ref r0, vI a1] T H (uq_164 r0 a1 cu e d n nY gY cY T H) := by
  refine wp_enter e164 (Nat.le_of_ble_eq_true rfl) rfl ?_
  show wp _ _ 164 0 [(0, .ref r0), (1, vI a1)] [] _ H _
  have u1025 := CU_k hCU_cu
  have b1026 : 0 ≤ H r0 8 ∧ H r0 8 ≤ 1 := hW.box g0 (n := 13) rfl (by decide) rfl
  have b1027 : 0 ≤ H r0 9 ∧ H r0 9 ≤ 900 := hW.box g0 (n := 13) rfl (by decide) rfl
  have b1028 : 0 ≤ H cu 17 ∧ H cu 17 ≤ 2147483647 := hW.box gcu (n := 19) rfl (by decide) rfl
  have _d0 := p2 0 (by decide)
  have _e3 := congrFun _d0 3
  have _e4 := congrFun _d0 4
  have _e5 := congrFun _d0 5
  have _e6 := congrFun _d0 6
  have _e7 := congrFun _d0 7
  have _e0 := congrFun _d0 0
  have _e8 := congrFun _d0 8
  have _cy := hCY_cu.2
  have _sx := @xsx_e (e 0 8)
  have _sy := @xsx_e (d 0 8)
  refine wp_of e164 c164_0 (rw_iload_n (pc' := 1) (z := a1) rfl rfl ?_)
  have c1029 : a1 = 0 ∨ a1 = 1 ∨ a1 = 2 ∨ a1 = 3 ∨ a1 = 4 ∨ a1 = 5 ∨ a1 = 6 ∨ a1 = 7 ∨ a1 = 8 ∨ a1 = 9 ∨ (a1 < 0 ∨ 9 < a1) := by omega
  rcases c1029 with c1029 | c1029 | c1029 | c1029 | c1029 | c1029 | c1029 | c1029 | c1029 | c1029 | c1029
  · refine wp_of e164 c164_1 (rw_tsw (p1 := 56) ⟨by omega, by omega⟩ (by rw [c1029]; decide) ?_)
    refine wp_of e164 c164_56 (rw_aload_n (pc' := 57) (v := .ref r0) rfl rfl rfl ?_)
    refine wp_of e164 c164_57 (xg_K (pc' := 60) lf_0_51 hW g0 sh_1 (by decide) (by decide) rfl qcu rfl ?_)
    refine wp_of e164 c164_60 (xg_I (pc' := 63) lf_0_96 hW gcu sh_27 (by decide) (by decide) ty_27_10 rfl rfl (fun b1030 b1031 => ?_))
    have _z : (H cu 10 : Int) = xsz e d cY a1 := by
      unfold xsz
      repeat first | rw [if_pos (by omega -splitDisjunctions)] | rw [if_neg (by omega -splitDisjunctions)] | rw [if_neg (by omega)] | rw [if_pos (by omega)]
      first | done | omega
    exact wp_ireturn e164 c164_63 rfl ⟨rfl, rfl, H cu 10, rfl, ⟨Int.le_trans (by decide) b1030, Int.le_trans b1031 (by decide)⟩, (by omega)⟩
  · refine wp_of e164 c164_1 (rw_tsw (p1 := 64) ⟨by omega, by omega⟩ (by rw [c1029]; decide) ?_)
    refine wp_of e164 c164_64 (rw_aload_n (pc' := 65) (v := .ref r0) rfl rfl rfl ?_)
    refine wp_of e164 c164_65 (xg_K (pc' := 68) lf_0_51 hW g0 sh_1 (by decide) (by decide) rfl qcu rfl ?_)
    refine wp_of e164 c164_68 (xg_I (pc' := 71) lf_0_327 hW gcu sh_27 (by decide) (by decide) ty_27_11 rfl rfl (fun b1032 b1033 => ?_))
    have _z : (H cu 11 : Int) = xsz e d cY a1 := by
      unfold xsz
      repeat first | rw [if_pos (by omega -splitDisjunctions)] | rw [if_neg (by omega -splitDisjunctions)] | rw [if_neg (by omega)] | rw [if_pos (by omega)]
      first | done | omega
    exact wp_ireturn e164 c164_71 rfl ⟨rfl, rfl, H cu 11, rfl, ⟨b1032, b1033⟩, (by omega)⟩
  · refine wp_of e164 c164_1 (rw_tsw (p1 := 72) ⟨by omega, by omega⟩ (by rw [c1029]; decide) ?_)
    refine wp_of e164 c164_72 (rw_aload_n (pc' := 73) (v := .ref r0) rfl rfl rfl ?_)
    refine wp_of e164 c164_73 (xg_K (pc' := 76) lf_0_51 hW g0 sh_1 (by decide) (by decide) rfl qcu rfl ?_)
    refine wp_of e164 c164_76 (xg_I (pc' := 79) lf_0_330 hW gcu sh_27 (by decide) (by decide) ty_27_12 rfl rfl (fun b1034 b1035 => ?_))
    have _z : (H cu 12 : Int) = xsz e d cY a1 := by
      unfold xsz
      repeat first | rw [if_pos (by omega -splitDisjunctions)] | rw [if_neg (by omega -splitDisjunctions)] | rw [if_neg (by omega)] | rw [if_pos (by omega)]
      first | done | omega
    exact wp_ireturn e164 c164_79 rfl ⟨rfl, rfl, H cu 12, rfl, ⟨Int.le_trans (by decide) b1034, Int.le_trans b1035 (by decide)⟩, (by omega)⟩
  · refine wp_of e164 c164_1 (rw_tsw (p1 := 80) ⟨by omega, by omega⟩ (by rw [c1029]; decide) ?_)
    refine wp_of e164 c164_80 (rw_aload_n (pc' := 81) (v := .ref r0) rfl rfl rfl ?_)
    refine wp_of e164 c164_81 (xg_K (pc' := 84) lf_0_51 hW g0 sh_1 (by decide) (by decide) rfl qcu rfl ?_)
    refine wp_of e164 c164_84 (xg_I (pc' := 87) lf_0_295 hW gcu sh_27 (by decide) (by decide) ty_27_16 rfl rfl (fun b1036 b1037 => ?_))
    have _z : (H cu 16 : Int) = xsz e d cY a1 := by
      unfold xsz
      repeat first | rw [if_pos (by omega -splitDisjunctions)] | rw [if_neg (by omega -splitDisjunctions)] | rw [if_neg (by omega)] | rw [if_pos (by omega)]
      first | done | omega
    exact wp_ireturn e164 c164_87 rfl ⟨rfl, rfl, H cu 16, rfl, ⟨Int.le_trans (by decide) b1036, Int.le_trans b1037 (by decide)⟩, (by omega)⟩
  · refine wp_of e164 c164_1 (rw_tsw (p1 := 88) ⟨by omega, by omega⟩ (by rw [c1029]; decide) ?_)
    refine wp_of e164 c164_88 (rw_aload_n (pc' := 89) (v := .ref r0) rfl rfl rfl ?_)
    refine wp_of e164 c164_89 (xg_K (pc' := 92) lf_0_51 hW g0 sh_1 (by decide) (by decide) rfl qcu rfl ?_)
    refine wp_of e164 c164_92 (xg_I (pc' := 95) lf_0_333 hW gcu sh_27 (by decide) (by decide) ty_27_13 rfl rfl (fun b1038 b1039 => ?_))
    have _z : (H cu 13 : Int) = xsz e d cY a1 := by
      unfold xsz
      repeat first | rw [if_pos (by omega -splitDisjunctions)] | rw [if_neg (by omega -splitDisjunctions)] | rw [if_neg (by omega)] | rw [if_pos (by omega)]
      first | done | omega
    exact wp_ireturn e164 c164_95 rfl ⟨rfl, rfl, H cu 13, rfl, ⟨Int.le_trans (by decide) b1038, Int.le_trans b1039 (by decide)⟩, (by omega)⟩
  · refine wp_of e164 c164_1 (rw_tsw (p1 := 96) ⟨by omega, by omega⟩ (by rw [c1029]; decide) ?_)
    refine wp_of e164 c164_96 (rw_aload_n (pc' := 97) (v := .ref r0) rfl rfl rfl ?_)
    refine wp_of e164 c164_97 (xg_K (pc' := 100) lf_0_51 hW g0 sh_1 (by decide) (by decide) rfl qcu rfl ?_)
    refine wp_of e164 c164_100 (xg_I (pc' := 103) lf_0_336 hW gcu sh_27 (by decide) (by decide) ty_27_14 rfl rfl (fun b1040 b1041 => ?_))
    have _z : (H cu 14 : Int) = xsz e d cY a1 := by
      unfold xsz
      repeat first | rw [if_pos (by omega -splitDisjunctions)] | rw [if_neg (by omega -splitDisjunctions)] | rw [if_neg (by omega)] | rw [if_pos (by omega)]
      first | done | omega
    exact wp_ireturn e164 c164_103 rfl ⟨rfl, rfl, H cu 14, rfl, ⟨Int.le_trans (by decide) b1040, Int.le_trans b1041 (by decide)⟩, (by omega)⟩
  · refine wp_of e164 c164_1 (rw_tsw (p1 := 104) ⟨by omega, by omega⟩ (by rw [c1029]; decide) ?_)
    refine wp_of e164 c164_104 (rw_aload_n (pc' := 105) (v := .ref r0) rfl rfl rfl ?_)
    refine wp_of e164 c164_105 (xg_K (pc' := 108) lf_0_51 hW g0 sh_1 (by decide) (by decide) rfl qcu rfl ?_)
    refine wp_of e164 c164_108 (xg_I (pc' := 111) lf_0_339 hW gcu sh_27 (by decide) (by decide) ty_27_7 rfl rfl (fun b1042 b1043 => ?_))
    have _z : (H cu 7 : Int) = xsz e d cY a1 := by
      unfold xsz
      repeat first | rw [if_pos (by omega -splitDisjunctions)] | rw [if_neg (by omega -splitDisjunctions)] | rw [if_neg (by omega)] | rw [if_pos (by omega)]
      first | done | omega
    exact wp_ireturn e164 c164_111 rfl ⟨rfl, rfl, H cu 7, rfl, ⟨Int.le_trans (by decide) b1042, Int.le_trans b1043 (by decide)⟩, (by omega)⟩
  · refine wp_of e164 c164_1 (rw_tsw (p1 := 112) ⟨by omega, by omega⟩ (by rw [c1029]; decide) ?_)
    refine wp_of e164 c164_112 (rw_aload_n (pc' := 113) (v := .ref r0) rfl rfl rfl ?_)
    refine wp_of e164 c164_113 (xg_I (pc' := 116) lf_0_58 hW g0 sh_1 (by decide) (by decide) ty_1_8 rfl rfl (fun b1044 b1045 => ?_))
    refine wp_of e164 c164_116 (rw_if_eq (p1 := 129) (p2 := 119) (by decide) rfl ⟨Int.le_trans (by decide) b1044, Int.le_trans b1045 (by decide)⟩ (fun c1046 => ?_) (fun c1046 => ?_))
    · refine wp_of e164 c164_129 (rw_iconst (pc' := 130) rfl ?_)
      have _z : (0 : Int) = xsz e d cY a1 := by
        unfold xsz
        repeat first | rw [if_pos (by omega -splitDisjunctions)] | rw [if_neg (by omega -splitDisjunctions)] | rw [if_neg (by omega)] | rw [if_pos (by omega)]
        first | done | omega
      exact wp_ireturn e164 c164_130 rfl ⟨rfl, rfl, 0, rfl, ⟨by decide, by decide⟩, (by omega)⟩
    · refine wp_of e164 c164_119 (rw_aload_n (pc' := 120) (v := .ref r0) rfl rfl rfl ?_)
      refine wp_of e164 c164_120 (xg_K (pc' := 123) lf_0_51 hW g0 sh_1 (by decide) (by decide) rfl qcu rfl ?_)
      refine wp_of e164 c164_123 (xg_I (pc' := 126) lf_0_342 hW gcu sh_27 (by decide) (by decide) ty_27_15 rfl rfl (fun b1047 b1048 => ?_))
      refine wp_of e164 c164_126 (rw_goto (p1 := 130) (by decide) ?_)
      have _z : (H cu 15 : Int) = xsz e d cY a1 := by
        unfold xsz
        repeat first | rw [if_pos (by omega -splitDisjunctions)] | rw [if_neg (by omega -splitDisjunctions)] | rw [if_neg (by omega)] | rw [if_pos (by omega)]
        first | done | omega
      exact wp_ireturn e164 c164_130 rfl ⟨rfl, rfl, H cu 15, rfl, ⟨b1047, b1048⟩, (by omega)⟩
  · refine wp_of e164 c164_1 (rw_tsw (p1 := 131) ⟨by omega, by omega⟩ (by rw [c1029]; decide) ?_)
    refine wp_of e164 c164_131 (rw_aload_n (pc' := 132) (v := .ref r0) rfl rfl rfl ?_)
    refine wp_of e164 c164_132 (xg_K (pc' := 135) lf_0_51 hW g0 sh_1 (by decide) (by decide) rfl qcu rfl ?_)
    refine wp_of e164 c164_135 (xg_I (pc' := 138) lf_0_298 hW gcu sh_27 (by decide) (by decide) ty_27_17 rfl rfl (fun b1049 b1050 => ?_))
    have _z : (H cu 17 : Int) = xsz e d cY a1 := by
      unfold xsz
      repeat first | rw [if_pos (by omega -splitDisjunctions)] | rw [if_neg (by omega -splitDisjunctions)] | rw [if_neg (by omega)] | rw [if_pos (by omega)]
      first | done | omega
    exact wp_ireturn e164 c164_138 rfl ⟨rfl, rfl, H cu 17, rfl, ⟨Int.le_trans (by decide) b1049, b1050⟩, (by omega)⟩
  · refine wp_of e164 c164_1 (rw_tsw (p1 := 139) ⟨by omega, by omega⟩ (by rw [c1029]; decide) ?_)
    refine wp_of e164 c164_139 (rw_aload_n (pc' := 140) (v := .ref r0) rfl rfl rfl ?_)
    refine wp_of e164 c164_140 (xg_I (pc' := 143) lf_0_62 hW g0 sh_1 (by decide) (by decide) ty_1_9 rfl rfl (fun b1051 b1052 => ?_))
    have _z : True := True.intro
    exact wp_ireturn e164 c164_143 rfl ⟨rfl, rfl, H r0 9, rfl, ⟨Int.le_trans (by decide) b1051, Int.le_trans b1052 (by decide)⟩, (by omega)⟩
  · refine wp_of e164 c164_1 (rw_tsw (p1 := 144) ⟨by omega, by omega⟩ (by rw [if_pos c1029]; decide) ?_)
    refine wp_of e164 c164_144 (rw_iconst (pc' := 145) rfl ?_)
    have _z : (-1 : Int) = xsz e d cY a1 := by
      unfold xsz
      repeat first | rw [if_pos (by omega -splitDisjunctions)] | rw [if_neg (by omega -splitDisjunctions)] | rw [if_neg (by omega)] | rw [if_pos (by omega)]
      first | done | omega
    exact wp_ireturn e164 c164_145 rfl ⟨rfl, rfl, -1, rfl, ⟨by decide, by decide⟩, (by omega)⟩
