section
/-! StrikeAwake$Walk.step(LStrikeAwake$Parish;)V  -/
abbrev uq_91 (r0 : Nat) (r1 : Nat) (e : xD) (d : xD) (n : Int) (a : Int) (T : wq_T) (H : wq_H) : Option Value → wq_T → wq_H → Prop := fun r T' H' => T = T' ∧ WT T H' ∧ wfr [(8, 999), (10, 999), (9, 999), (7, 999), (11, 999)] T H H' ∧ none = r ∧ ((WR T H' r0 d (xlot d (a + 1))))
set_option maxHeartbeats 4000000 in
theorem u_91 {kt : Nat → Option mc_E} {T : wq_T} {H : wq_H} {r0 : Nat} {r1 : Nat} {e : xD} {d : xD} {n : Int} {a : Int} (hW : WT T H) (g0 : T.2.2.2 r0 = some 6) (g1 : T.2.2.2 r1 = some 27) (p0 : ∀ i, i ≠ 13 → e i = d i) (p1 : XW d) (p2 : e 0 3 = d 0 3) (p3 : 0 ≤ a) (p4 : 0 < xlots d) (hCU_r1 : CU T H r1 e d n) (hWR_r0 : WR T H r0 d (xlot d a)) : wpc kt 3 91 [.ref r0, .ref r1] T H (uq_91 r0 r1 e d n a T H) := by
  refine wp_enter e91 (Nat.le_of_ble_eq_true rfl) rfl ?_
  have f0 : wfr [(8, 999), (10, 999), (9, 999), (7, 999), (11, 999)] T H H := wfr.rf
  show wp _ _ 91 0 [(0, .ref r0), (1, .ref r1)] [] _ H _
  have u1117 := CU_k hCU_r1
  have _k := CU_k hCU_r1
  have _xc := p1.2.1
  unfold XC at _xc
  have _e3 : e 0 3 = d 0 3 := p2
  have _w5 := hWR_r0.1
  have hP := p1.1
  refine wp_of e91 c91_0 (rw_iconst (pc' := 1) rfl ?_)
  refine wp_of e91 c91_1 (rw_istore_n (pc' := 2) (z := 0) (L' := [(2, vI 0), (0, .ref r0), (1, .ref r1)]) rfl rfl rfl ?_)
  refine wp_of e91 c91_2 (rw_aload_n (pc' := 3) (v := .ref r0) rfl rfl rfl ?_)
  refine wp_of e91 c91_3 (xg_I (pc' := 6) lf_3_51 hW g0 sh_6 (by decide) (by decide) ty_6_5 rfl rfl (fun b1 b2 => ?_))
  refine wp_of e91 c91_6 (rw_iconst (pc' := 7) rfl ?_)
  refine wp_of e91 c91_7 (rw_isub (pc' := 8) rfl ?_)
  refine wp_of e91 c91_8 (rw_istore_n (pc' := 9) (z := (H r0 5) - 1) (L' := [(3, vI ((H r0 5) - 1)), (2, vI 0), (0, .ref r0), (1, .ref r1)]) rfl rfl rfl ?_)
  have lp : ∀ (n9 : Nat) (v : Int) (H1 : wq_H) (g : Nat → Int), WT T H1 → wfr [(7, 999)] T H H1 → ((-1) ≤ v ∧ v ≤ 5) → v ≤ d 0 3 - 1 → WP0 T H1 r0 (d 0 3) g → (∀ k : Nat, (k : Int) ≤ v → g k = xlot d a k) → (∀ k : Nat, v < (k : Int) → (k : Int) < d 0 3 → g k = xlot d (a + 1) k) → xcy d a v → (v - (-1)).toNat = n9 → wp kt 2 91 9 [(3, vI v), (2, vI 0), (0, .ref r0), (1, .ref r1)] [] T H1 (uq_91 r0 r1 e d n a T H) := by
    intro n9
    induction n9 using Nat.strongRecOn with
    | _ n9 ih =>
      intro v H1 g w1 f1 b3 b4 hp hlo hhi hcy m1
      have f2 := f0.tr f1 rfl
      have k5 : H1 r0 5 = H r0 5 := f1 r0 5 _ g0 rfl
      have hcu : CU T H1 r1 e d n := CU_fr hW g1 f1 rfl hCU_r1
      have hq1 : WP1 T H1 r0 (d 0 3 + 1) (xer d (xlot d a)) := WP1_fr hW g0 f1 rfl hWR_r0.2.2.1
      have hq2 : WP2 T H1 r0 (d 0 3 + 1) (xla d (xlot d a)) := WP2_fr hW g0 f1 rfl hWR_r0.2.2.2.1
      have hq3 : WP3 T H1 r0 (d 0 3 + 1) (xfl d (xlot d a)) := WP3_fr hW g0 f1 rfl hWR_r0.2.2.2.2.1
      have hq4 : WP4 T H1 r0 (d 0 3 + 1) (xqu d (xlot d a)) := WP4_fr hW g0 f1 rfl hWR_r0.2.2.2.2.2
      refine wp_of e91 c91_9 (rw_iload_n (pc' := 10) (z := v) rfl rfl ?_)
      refine wp_of e91 c91_10 (rw_if_lt (p1 := 59) (p2 := 13) (by decide) rfl ⟨by omega, by omega⟩ (fun c1 => ?_) (fun c1 => ?_))
      · refine wp_of e91 c91_59 (rw_aload_n (pc' := 60) (v := .ref r0) rfl rfl rfl ?_)
        refine wp_of e91 c91_60 (rw_aload_n (pc' := 61) (v := .ref r1) rfl rfl rfl ?_)
        refine wp_of e91 c91_61 (rw_iload_n (pc' := 62) (z := 0) rfl rfl ?_)
        have hp9 : WP0 T H1 r0 (d 0 3) (xlot d (a + 1)) := DA_cut hp (Int.le_refl _) (fun k hk => hhi k (by omega) hk)
        have nx : ∀ j : Nat, j < 0 → xlot d a j = xlot d (a + 1) j := fun j hj => by omega
        have z0 : ∀ k : Nat, (k : Int) < 0 + 1 → k = 0 := fun k hk => by omega
        refine wp_of e91 c91_62 (xc_V (pc' := 65) (r := r0) (as := [.ref r1, vI 0]) (st := []) (lm_3_32) rfl rfl (Nat.le_of_ble_eq_true rfl) w1 g0 sh_6 (by decide) rfl (by decide) (u_70 (e := e) (d := d) (n := n) (g := xlot d (a + 1)) w1 g0 g1 ⟨by omega, by omega⟩ p0 p1 p2 (SL_lot hP (by omega) p4) (by omega) (by omega) hcu hp9 (DA_cut hq1 (by omega) (fun k hk => by rw [z0 k hk]; exact xer_cg nx)) (DA_cut hq2 (by omega) (fun k hk => by rw [z0 k hk]; exact xla_cg nx)) (DA_cut hq3 (by omega) (fun k hk => by rw [z0 k hk]; exact xfl_cg 0 nx)) (DA_cut hq4 (by omega) (fun k hk => by rw [z0 k hk]; exact xqu_cg 0 nx))) (fun R9 T9 H9 p9 => ?_))
        obtain ⟨e7, w9, f9, e8, a9, a1, a2, a3, a4⟩ := p9
        subst e7
        subst e8
        have f10 := f2.tr f9 rfl
        show wp _ _ 91 65 [(3, vI v), (2, vI 0), (0, .ref r0), (1, .ref r1)] [] _ H9 _
        exact wp_return e91 c91_65 rfl ⟨rfl, w9, f10, rfl, ⟨a9, WP0_fr w1 g0 f9 rfl hp9, a1, a2, a3, a4⟩⟩
      · refine wp_of e91 c91_13 (rw_aload_n (pc' := 14) (v := .ref r0) rfl rfl rfl ?_)
        refine wp_of e91 c91_14 (xg_R (pc' := 17) lf_3_9 w1 g0 sh_6 (by decide) (by decide) ty_6_0 rfl rfl (fun rp q1 gp => ?_))
        refine wp_of e91 c91_17 (rw_iload_n (pc' := 18) (z := v) rfl rfl ?_)
        refine wp_of e91 c91_18 (rw_dup2 (pc' := 19) rfl rfl rfl ?_)
        refine wp_of e91 c91_19 (xa_I (so := 0) (pc' := 20) w1 gp sh_7 (by decide) (ty_7 _) (by omega) (by omega) rfl (fun b5 b6 => ?_))
        refine wp_of e91 c91_20 (rw_iconst (pc' := 21) rfl ?_)
        refine wp_of e91 c91_21 (rw_iadd (pc' := 22) rfl ?_)
        have hpv := DA_at hp q1 (k := v.toNat) (by omega)
        have hlv := hlo v.toNat (by omega)
        have hlb := xlot_b (n := a) (k := v.toNat) hP (by omega) p4 (by omega)
        refine wp_of e91 c91_22 (rw_iastore (pc' := 23) (w1.sh gp sh_7) (w1.hi gp (by decide)) (by decide) ⟨by omega, by omega⟩ (by omega) (by omega) rfl ?_)
        obtain ⟨H2, e2⟩ : ∃ X : wq_H, X = wq_u H1 rp v.toNat (H1 rp v.toNat + 1) := ⟨_, rfl⟩
        rw [← e2]
        have k2 : H2 rp v.toNat = H1 rp v.toNat + 1 := wq_u_s e2
        obtain ⟨l9, hl9, hj9, -⟩ := lf_3_9
        obtain ⟨l42, hl42, hj42, -⟩ := lf_3_42
        obtain ⟨l52, hl52, hj52, -⟩ := lf_3_52
        have hc0 := wq_hc (a := r0) (c := 3) (j := 0) (n := 6) (w1.hi g0 (by decide)) (by decide)
        have q2 : H2 r0 0 = (rp : Int) := (wq_u_t e2 gp g0 rfl 0).trans q1
        refine wp_of e91 c91_23 (rw_aload_n (pc' := 24) (v := .ref r0) rfl rfl rfl ?_)
        refine wp_of e91 c91_24 (rw_getR (pc' := 27) hl9 hj9 (w1.sh g0 sh_6) hc0 rfl q2 rfl ?_)
        refine wp_of e91 c91_27 (rw_iload_n (pc' := 28) (z := v) rfl rfl ?_)
        refine wp_of e91 c91_28 (rw_iaload (pc' := 29) (w1.sh gp sh_7) ⟨by decide, rfl, Bool.or_true _, by decide⟩ (by omega) (by omega) rfl rfl ?_)
        obtain ⟨ra, q3, ga⟩ := w1.ref g1 (t' := 28) (n := 19) (j := 0) (p := 0) (q := 0) rfl (by decide) rfl
        have q4 : H2 r1 0 = (ra : Int) := (wq_u_t e2 gp g1 rfl 0).trans q3
        refine wp_of e91 c91_29 (rw_aload_n (pc' := 30) (v := .ref r1) rfl rfl rfl ?_)
        refine wp_of e91 c91_30 (rw_getR (pc' := 33) hl42 hj42 (w1.sh g1 sh_27) (wq_hc (w1.hi g1 (by decide)) (by decide)) rfl q4 rfl ?_)
        refine wp_of e91 c91_33 (rw_iload_n (pc' := 34) (z := v) rfl rfl ?_)
        obtain ⟨rs, q5, gs⟩ := w1.ref ga (t' := 35) (n := 6) (j := v.toNat) (p := 0) (q := 0) rfl (by omega) rfl
        have q6 : H2 ra v.toNat = (rs : Int) := (wq_u_t e2 gp ga rfl _).trans q5
        have hsp := (CS_at hcu.2.1 q3 q5 (k := v.toNat) (by omega) (by omega)).1.1
        refine wp_of e91 c91_34 (rw_aaload (pc' := 35) (w1.sh ga sh_28) ⟨by decide, rfl, Bool.or_true _, by decide⟩ (by omega) (by omega) rfl q6 rfl ?_)
        have b7 : (0 : Int) ≤ H1 rs 15 ∧ H1 rs 15 ≤ 40 := w1.box gs (n := 18) rfl (by decide) rfl
        have k3 : H2 rs 15 = H1 rs 15 := wq_u_t e2 gp gs rfl 15
        refine wp_of e91 c91_35 (rw_getI (pc' := 38) hl52 hj52 (w1.sh gs sh_35) (wq_hc (w1.hi gs (by decide)) (by decide)) rfl rfl ?_)
        refine wp_of e91 c91_38 (rw_icmp_ge (p1 := 46) (p2 := 41) (by decide) rfl ⟨by omega, by omega⟩ ⟨by omega, by omega⟩ (fun c2 => ?_) (fun c2 => ?_))
        · refine wp_of e91 c91_46 (rw_aload_n (pc' := 47) (v := .ref r0) rfl rfl rfl ?_)
          refine wp_of e91 c91_47 (rw_getR (pc' := 50) hl9 hj9 (w1.sh g0 sh_6) hc0 rfl q2 rfl ?_)
          refine wp_of e91 c91_50 (rw_iload_n (pc' := 51) (z := v) rfl rfl ?_)
          refine wp_of e91 c91_51 (rw_iconst (pc' := 52) rfl ?_)
          refine wp_of e91 c91_52 (rw_iastore (pc' := 53) (w1.sh gp sh_7) (w1.hi gp (by decide)) (by decide) ⟨by omega, by omega⟩ (by omega) (by omega) rfl ?_)
          have e3 : wq_u H2 rp v.toNat 0 = wq_u H1 rp v.toNat 0 := by
            funext b i
            by_cases hq : b = rp ∧ i = v.toNat
            · obtain ⟨rfl, rfl⟩ := hq
              rw [wq_u_eq, wq_u_eq]
            · rw [wq_u_ne hq, wq_u_ne hq, e2, wq_u_ne hq]
          rw [e3]
          have w3 : WT T (wq_u H1 rp v.toNat 0) := w1.putB gp (ty_7 _) (by omega) (by omega)
          have f3 : wfr [(7, 999)] T H (wq_u H1 rp v.toNat 0) := f1.put gp rfl
          have hn := xcy_n hP (by omega) (by omega) (by omega) hcy (by omega)
          have hp3 : WP0 T (wq_u H1 rp v.toNat 0) r0 (d 0 3) (xup g v.toNat 0) := DAo_set hp q1 g0 gp (by decide) rfl xup_e (fun j hj => xup_n hj)
          refine wp_of e91 c91_53 (rw_iinc (pc' := 56) (z := v) (L' := [(3, vI (v + (-1))), (2, vI 0), (0, .ref r0), (1, .ref r1)]) rfl rfl rfl rfl ?_)
          refine wp_of e91 c91_56 (rw_goto (p1 := 9) (by decide) ?_)
          exact wp_lc (ks := [3, 2, 0, 1]) (wl_c rfl (wl_c rfl (wl_c rfl (wl_c rfl wl_n)))) rfl (by decide) (ih _ (by omega) (v + (-1)) _ (xup g v.toNat 0) w3 f3 ⟨by omega, by omega⟩ (by omega) hp3 (fun k hk => (xup_n (by omega)).trans (hlo k (by omega))) (fun k hk hk2 => by
            by_cases c3 : k = v.toNat
            · rw [c3, xup_e]
              exact hn.1.symm
            · rw [xup_n c3]
              exact hhi k (by omega) hk2) hn.2 rfl)
        · have w2 : WT T H2 := by
            rw [e2]
            exact w1.putB gp (ty_7 _) (by omega) (by omega)
          have f3 := f2.put' e2 gp rfl
          have f4 : wfr [(7, 999)] T H H2 := f1.put' e2 gp rfl
          have hy := xcy_y hP (by omega) (by omega) (by omega) hcy (by omega)
          have eq9 : ∀ k : Nat, (k : Int) < v → xlot d a k = xlot d (a + 1) k := fun k hk => (xlot_a hP (by omega) (by omega) hy.2 hk).symm
          have hp2 : WP0 T H2 r0 (d 0 3) (xup g v.toNat (H1 rp v.toNat + 1)) := DAo_set hp q1 g0 gp (by decide) e2 xup_e (fun j hj => xup_n hj)
          have hp9 : WP0 T H2 r0 (d 0 3) (xlot d (a + 1)) := DA_cut hp2 (Int.le_refl _) (fun k hk => by
            by_cases c3 : k = v.toNat
            · rw [c3, xup_e, hy.1]
              omega
            · rw [xup_n c3]
              by_cases c4 : (k : Int) < v
              · rw [← eq9 k c4]
                exact hlo k (by omega)
              · exact hhi k (by omega) hk)
          have k6 : H2 r0 5 = H1 r0 5 := wq_u_t e2 gp g0 rfl 5
          have hcu2 : CU T H2 r1 e d n := CU_fr hW g1 f4 rfl hCU_r1
          have nx : ∀ k : Nat, (k : Int) < v + 1 → ∀ j : Nat, j < k → xlot d a j = xlot d (a + 1) j := fun k hk j hj => eq9 j (by omega)
          refine wp_of e91 c91_41 (rw_iload_n (pc' := 42) (z := v) rfl rfl ?_)
          refine wp_of e91 c91_42 (rw_istore_n (pc' := 43) (z := v) (L' := [(2, vI v), (3, vI v), (0, .ref r0), (1, .ref r1)]) rfl rfl rfl ?_)
          refine wp_of e91 c91_43 (rw_goto (p1 := 59) (by decide) ?_)
          refine wp_of e91 c91_59 (rw_aload_n (pc' := 60) (v := .ref r0) rfl rfl rfl ?_)
          refine wp_of e91 c91_60 (rw_aload_n (pc' := 61) (v := .ref r1) rfl rfl rfl ?_)
          refine wp_of e91 c91_61 (rw_iload_n (pc' := 62) (z := v) rfl rfl ?_)
          refine wp_of e91 c91_62 (xc_V (pc' := 65) (r := r0) (as := [.ref r1, vI v]) (st := []) (lm_3_32) rfl rfl (Nat.le_of_ble_eq_true rfl) w2 g0 sh_6 (by decide) rfl (by decide) (u_70 (e := e) (d := d) (n := n) (g := xlot d (a + 1)) w2 g0 g1 ⟨by omega, by omega⟩ p0 p1 p2 (SL_lot hP (by omega) p4) (by omega) (by omega) hcu2 hp9 (DA_cut (WP1_fr hW g0 f4 rfl hWR_r0.2.2.1) (by omega) (fun k hk => xer_cg (nx k hk))) (DA_cut (WP2_fr hW g0 f4 rfl hWR_r0.2.2.2.1) (by omega) (fun k hk => xla_cg (nx k hk))) (DA_cut (WP3_fr hW g0 f4 rfl hWR_r0.2.2.2.2.1) (by omega) (fun k hk => xfl_cg k (nx k hk))) (DA_cut (WP4_fr hW g0 f4 rfl hWR_r0.2.2.2.2.2) (by omega) (fun k hk => xqu_cg k (nx k hk)))) (fun R9 T9 H9 p9 => ?_))
          obtain ⟨e7, w9, f9, e8, a9, a1, a2, a3, a4⟩ := p9
          subst e7
          subst e8
          have f10 := f3.tr f9 rfl
          show wp _ _ 91 65 [(2, vI v), (3, vI v), (0, .ref r0), (1, .ref r1)] [] _ H9 _
          exact wp_return e91 c91_65 rfl ⟨rfl, w9, f10, rfl, ⟨a9, WP0_fr w2 g0 f9 rfl hp9, a1, a2, a3, a4⟩⟩
  exact wp_lc (ks := [3, 2, 0, 1]) (wl_c rfl (wl_c rfl (wl_c rfl (wl_c rfl wl_n)))) rfl (by decide) (lp _ ((H r0 5) - 1) H (xlot d a) hW wfr.rf ⟨by omega, by omega⟩ (by omega) hWR_r0.2.1 (fun _ _ => rfl) (fun k hk hk2 => by omega) (xcy_0 (by omega)) rfl)
/-! StrikeAwake$Walk.toFirst(LStrikeAwake$Parish;)V  -/
abbrev uq_87 (r0 : Nat) (r1 : Nat) (e : xD) (d : xD) (n : Int) (T : wq_T) (H : wq_H) : Option Value → wq_T → wq_H → Prop := fun r T' H' => T = T' ∧ WT T H' ∧ wfr [(6, 5), (8, 999), (10, 999), (9, 999), (7, 999), (11, 999)] T H H' ∧ none = r ∧ ((WRc T H' r0 d (xlot d 0)))
set_option maxHeartbeats 4000000 in
theorem u_87 {kt : Nat → Option mc_E} {T : wq_T} {H : wq_H} {r0 : Nat} {r1 : Nat} {e : xD} {d : xD} {n : Int} (hW : WT T H) (g0 : T.2.2.2 r0 = some 6) (g1 : T.2.2.2 r1 = some 27) (p0 : ∀ i, i ≠ 13 → e i = d i) (p1 : XW d) (p2 : e 0 3 = d 0 3) (hCU_r1 : CU T H r1 e d n) : wpc kt 3 87 [.ref r0, .ref r1] T H (uq_87 r0 r1 e d n T H) := by
  refine wp_enter e87 (Nat.le_of_ble_eq_true rfl) rfl ?_
  have f0 : wfr [(6, 5), (8, 999), (10, 999), (9, 999), (7, 999), (11, 999)] T H H := wfr.rf
  show wp _ _ 87 0 [(0, .ref r0), (1, .ref r1)] [] _ H _
  have u1116 := CU_k hCU_r1
  have _k := CU_k hCU_r1
  have _xc := p1.2.1
  unfold XC at _xc
  have _d0 := p0 0 (by decide)
  have _e3 : e 0 3 = d 0 3 := by rw [_d0]
  have _e4 : e 0 4 = d 0 4 := by rw [_d0]
  have _e5 : e 0 5 = d 0 5 := by rw [_d0]
  have _lb := (xpr_b p1.1 (d 0 3).toNat 0).1
  have _l0 : xlots d = xpr d 0 (d 0 3).toNat := rfl
  refine wp_of e87 c87_0 (rw_iconst (pc' := 1) rfl ?_)
  refine wp_of e87 c87_1 (rw_istore_n (pc' := 2) (z := 0) (L' := [(2, vI 0), (0, .ref r0), (1, .ref r1)]) rfl rfl rfl ?_)
  have lp1173 : ∀ (n1174 : Nat) (v1176 : Int) (H1177 : wq_H), WT T H1177 → wfr [(7, 999)] T H H1177 → (0 ≤ v1176 ∧ v1176 ≤ 6) → WP0 T H1177 r0 v1176 (fun _ => 0) → (6 - v1176).toNat = n1174 → wp kt 2 87 2 [(2, vI v1176), (0, .ref r0), (1, .ref r1)] [] T H1177 (uq_87 r0 r1 e d n T H) := by
    intro n1174
    induction n1174 using Nat.strongRecOn with
    | _ n1174 ih1175 =>
      intro v1176 H1177 w1178 f1179 b1180 h1182 m1181
      have f1183 := f0.tr f1179 rfl
      refine wp_of e87 c87_2 (rw_iload_n (pc' := 3) (z := v1176) rfl rfl ?_)
      refine wp_of e87 c87_3 (rw_bipush (pc' := 5) (z := 6) rfl (by decide) ?_)
      refine wp_of e87 c87_5 (rw_icmp_ge (p1 := 21) (p2 := 8) (by decide) rfl ⟨Int.le_trans (by decide) b1180.1, Int.le_trans b1180.2 (by decide)⟩ ⟨by decide, by decide⟩ (fun c1184 => ?_) (fun c1184 => ?_))
      · have h1185 : WP0 T H1177 r0 (d 0 3) (xlot d 0) := DA_cut h1182 (by omega) (fun k _ => (xlot_0 p1.1).symm)
        refine wp_of e87 c87_21 (rw_aload_n (pc' := 22) (v := .ref r0) rfl rfl rfl ?_)
        refine wp_of e87 c87_22 (rw_aload_n (pc' := 23) (v := .ref r1) rfl rfl rfl ?_)
        rcases (by omega : xlots d = 0 ∨ 0 < xlots d) with h1186 | h1186
        · have _ln := h1186
          refine wp_of e87 c87_23 (xc_V (pc' := 26) (r := r0) (as := [.ref r1]) (st := []) (lm_3_28) rfl rfl (Nat.le_of_ble_eq_true rfl) w1178 g0 sh_6 (by decide) rfl (by decide) (s_69 w1178 g0 g1) (fun R1187 T1188 H1189 p1190 => ?_))
          obtain ⟨e1191, w1193, f1194, e1192⟩ := p1190
          subst e1191
          subst e1192
          have f1195 := f1183.tr f1194 rfl
          show wp _ _ 87 26 [(2, vI v1176), (0, .ref r0), (1, .ref r1)] [] _ H1189 _
          refine wp_of e87 c87_26 (rw_aload_n (pc' := 27) (v := .ref r0) rfl rfl rfl ?_)
          refine wp_of e87 c87_27 (rw_aload_n (pc' := 28) (v := .ref r1) rfl rfl rfl ?_)
          refine wp_of e87 c87_28 (rw_iconst (pc' := 29) rfl ?_)
          refine wp_of e87 c87_29 (xc_V (pc' := 32) (r := r0) (as := [.ref r1, vI 0]) (st := []) (lm_3_32) rfl rfl (Nat.le_of_ble_eq_true rfl) w1193 g0 sh_6 (by decide) rfl (by decide) (s_70 w1193 g0 g1 ⟨by decide, by decide⟩) (fun R1196 T1197 H1198 p1199 => ?_))
          obtain ⟨e1200, w1202, f1203, e1201⟩ := p1199
          subst e1200
          subst e1201
          have f1204 := f1195.tr f1203 rfl
          show wp _ _ 87 32 [(2, vI v1176), (0, .ref r0), (1, .ref r1)] [] _ H1198 _
          have h1205 : WRc T H1198 r0 d (xlot d 0) := Or.inl _ln
          exact wp_return e87 c87_32 rfl ⟨rfl, w1202, f1204, rfl, (h1205)⟩
        · have _ln := h1186
          have _sl : SL d (xlot d 0) := SL_lot p1.1 (Int.le_refl _) h1186
          have k1206 : H1177 r1 12 = H r1 12 := (f1179 r1 12 _ g1 rfl)
          have h1207 : CU T H1177 r1 e d n := (CU_fr hW g1 f1179 rfl hCU_r1)
          refine wp_of e87 c87_23 (xc_V (pc' := 26) (r := r0) (as := [.ref r1]) (st := []) (lm_3_28) rfl rfl (Nat.le_of_ble_eq_true rfl) w1178 g0 sh_6 (by decide) rfl (by decide) (u_69 (e := e) (d := d) (n := n) (g := ((xlot d 0))) w1178 g0 g1 (by assumption) (by assumption) (by omega) h1207) (fun R1208 T1209 H1210 p1211 => ?_))
          obtain ⟨e1212, w1214, f1215, e1213, p1216⟩ := p1211
          subst e1212
          subst e1213
          obtain ⟨a1217, a1218, a1219, a1220, a1221⟩ := p1216
          have f1222 := f1183.tr f1215 rfl
          show wp _ _ 87 26 [(2, vI v1176), (0, .ref r0), (1, .ref r1)] [] _ H1210 _
          refine wp_of e87 c87_26 (rw_aload_n (pc' := 27) (v := .ref r0) rfl rfl rfl ?_)
          refine wp_of e87 c87_27 (rw_aload_n (pc' := 28) (v := .ref r1) rfl rfl rfl ?_)
          refine wp_of e87 c87_28 (rw_iconst (pc' := 29) rfl ?_)
          have h1223 : CU T H1210 r1 e d n := (CU_fr w1178 g1 f1215 rfl h1207)
          have h1224 : WP0 T H1210 r0 (d 0 3) (xlot d 0) := (WP0_fr w1178 g0 f1215 rfl h1185)
          refine wp_of e87 c87_29 (xc_V (pc' := 32) (r := r0) (as := [.ref r1, vI 0]) (st := []) (lm_3_32) rfl rfl (Nat.le_of_ble_eq_true rfl) w1214 g0 sh_6 (by decide) rfl (by decide) (u_70 (e := e) (d := d) (n := n) (g := ((xlot d 0))) w1214 g0 g1 ⟨by decide, by decide⟩ (by assumption) (by assumption) (by omega) (by assumption) (by omega) (by omega) h1223 h1224 a1218 a1219 a1220 a1221) (fun R1225 T1226 H1227 p1228 => ?_))
          obtain ⟨e1229, w1231, f1232, e1230, p1233⟩ := p1228
          subst e1229
          subst e1230
          obtain ⟨a1234, a1235, a1236, a1237, a1238⟩ := p1233
          have f1239 := f1222.tr f1232 rfl
          show wp _ _ 87 32 [(2, vI v1176), (0, .ref r0), (1, .ref r1)] [] _ H1227 _
          have h1240 : WP0 T H1227 r0 (d 0 3) (xlot d 0) := (WP0_fr w1214 g0 f1232 rfl h1224)
          have h1241 : WRc T H1227 r0 d (xlot d 0) := Or.inr ⟨by omega, h1240, a1235, a1236, a1237, a1238⟩
          exact wp_return e87 c87_32 rfl ⟨rfl, w1231, f1239, rfl, (h1241)⟩
      · refine wp_of e87 c87_8 (rw_aload_n (pc' := 9) (v := .ref r0) rfl rfl rfl ?_)
        refine wp_of e87 c87_9 (xg_R (pc' := 12) lf_3_9 w1178 g0 sh_6 (by decide) (by decide) ty_6_0 rfl rfl (fun r1242 q1243 g1244 => ?_))
        refine wp_of e87 c87_12 (rw_iload_n (pc' := 13) (z := v1176) rfl rfl ?_)
        refine wp_of e87 c87_13 (rw_iconst (pc' := 14) rfl ?_)
        refine wp_of e87 c87_14 (xs_I (pc' := 15) w1178 g1244 (by decide) sh_7 (by decide) (ty_7 _) (by decide) (by decide) ⟨by decide, by decide⟩ (b1180.1) (by omega) rfl (fun H1245 e1246 w1247 => ?_))
        have f1248 := f1183.put' e1246 g1244 rfl
        have f1249 := f1179.put' e1246 g1244 rfl
        have h1250 : WP0 T H1245 r0 (v1176 + 1) (fun _ => 0) := DAo_put h1182 q1243 g0 g1244 (by decide) e1246 (k := (v1176.toNat)) (by omega) rfl rfl (fun _ _ => rfl)
        refine wp_of e87 c87_15 (rw_iinc (pc' := 18) (z := v1176) (L' := [(2, vI (v1176 + 1)), (0, .ref r0), (1, .ref r1)]) rfl rfl rfl rfl ?_)
        refine wp_of e87 c87_18 (rw_goto (p1 := 2) (by decide) ?_)
        exact wp_lc (ks := [2, 0, 1]) (wl_c rfl (wl_c rfl (wl_c rfl wl_n))) rfl (by decide) (ih1175 _ (by omega) (v1176 + 1) H1245 w1247 f1249 ⟨by omega, by omega⟩ h1250 rfl)
  have h1251 : WP0 T H r0 0 (fun _ => 0) := DAo_0 (hW.ref g0 (n := 6) (p := 0) (q := 0) rfl (by decide) rfl) (Int.le_refl _)
  exact wp_lc (ks := [2, 0, 1]) (wl_c rfl (wl_c rfl (wl_c rfl wl_n))) rfl (by decide) (lp1173 _ 0 H hW wfr.rf ⟨by decide, by decide⟩ h1251 rfl)
/-! StrikeAwake$Walk.pickOf(I)I  -/
abbrev uq_89 (r0 : Nat) (a1 : Int) (d : xD) (g : Nat → Int) (T : wq_T) (H : wq_H) : Option Value → wq_T → wq_H → Prop := fun r T' H' => T = T' ∧ H = H' ∧ ∃ z : Int, some (vI z) = r ∧ (0 ≤ z ∧ z ≤ 39) ∧ (((z = g (a1).toNat)))
set_option maxHeartbeats 4000000 in
theorem u_89 {kt : Nat → Option mc_E} {T : wq_T} {H : wq_H} {r0 : Nat} {a1 : Int} {d : xD} {g : Nat → Int} (hW : WT T H) (g0 : T.2.2.2 r0 = some 6) (i1 : 0 ≤ a1 ∧ a1 ≤ 5) (p0 : a1 < d 0 3) (hWP0_r0 : WP0 T H r0 (d 0 3) g) : wpc kt 1 89 [.ref r0, vI a1] T H (uq_89 r0 a1 d g T H) := by
  refine wp_enter e89 (Nat.le_of_ble_eq_true rfl) rfl ?_
  show wp _ _ 89 0 [(0, .ref r0), (1, vI a1)] [] _ H _
  refine wp_of e89 c89_0 (rw_aload_n (pc' := 1) (v := .ref r0) rfl rfl rfl ?_)
  refine wp_of e89 c89_1 (xg_R (pc' := 4) lf_3_9 hW g0 sh_6 (by decide) (by decide) ty_6_0 rfl rfl (fun r1006 q1007 g1008 => ?_))
  refine wp_of e89 c89_4 (rw_iload_n (pc' := 5) (z := a1) rfl rfl ?_)
  refine wp_of e89 c89_5 (xa_I (so := 0) (pc' := 6) hW g1008 sh_7 (by decide) (ty_7 _) (i1.1) (Int.lt_of_le_of_lt i1.2 (by decide)) rfl (fun b1009 b1010 => ?_))
  have := DA_at hWP0_r0 q1007 (k := (a1.toNat)) (by omega)
  exact wp_ireturn e89 c89_6 rfl ⟨rfl, rfl, H r1006 (a1.toNat), rfl, ⟨b1009, b1010⟩, (by omega)⟩
/-! StrikeAwake$Census.enterDue(II)V  -/
abbrev uq_90 (r0 : Nat) (a1 : Int) (a2 : Int) (e : xD) (d : xD) (N : Nat) (u : Nat) (k : Nat) (T : wq_T) (H : wq_H) : Option Value → wq_T → wq_H → Prop := fun r T' H' => T = T' ∧ WT T H' ∧ wfr [(18, 999), (19, 999)] T H H' ∧ none = r ∧ ((LD3 T H' r0 e d N (k + 1) ∧ LD4 T H' r0 e d N (k + 1)))
set_option maxHeartbeats 4000000 in
theorem u_90 {kt : Nat → Option mc_E} {T : wq_T} {H : wq_H} {r0 : Nat} {a1 : Int} {a2 : Int} {e : xD} {d : xD} {N : Nat} {u : Nat} {k : Nat} (hW : WT T H) (g0 : T.2.2.2 r0 = some 12) (i1 : 0 ≤ a1 ∧ a1 ≤ 23) (i2 : (-2147483648) ≤ a2 ∧ a2 ≤ 2147483647) (p0 : a1 = ((k : Nat) : Int)) (p1 : u ≤ k) (p2 : ∀ j : Nat, u ≤ j → j < k → e 13 j ≤ 0) (p3 : xwf e d N > 0) (p4 : a2 = ((xdue d (xlot d ((N : Nat) : Int)) k : Nat) : Int)) (p5 : H r0 5 = xcn (xwf e d) N) (p6 : e 13 k > 0) (hLD3_r0 : LD3 T H r0 e d N u) (hLD4_r0 : LD4 T H r0 e d N u) : wpc kt 1 90 [.ref r0, vI a1, vI a2] T H (uq_90 r0 a1 a2 e d N u k T H) := by
  refine wp_enter e90 (Nat.le_of_ble_eq_true rfl) rfl ?_
  have f0 : wfr [(18, 999), (19, 999)] T H H := wfr.rf
  show wp _ _ 90 0 [(0, .ref r0), (1, vI a1), (2, vI a2)] [] _ H _
  have b1049 : (-2147483648) ≤ H r0 5 ∧ H r0 5 ≤ 2147483647 := hW.box g0 (n := 10) rfl (by decide) rfl
  have _xb := xcn_b (f := xwf e d) N
  refine wp_of e90 c90_0 (rw_aload_n (pc' := 1) (v := .ref r0) rfl rfl rfl ?_)
  refine wp_of e90 c90_1 (xg_R (pc' := 4) lf_4_25 hW g0 sh_12 (by decide) (by decide) ty_12_3 rfl rfl (fun r1050 q1051 g1052 => ?_))
  refine wp_of e90 c90_4 (rw_iload_n (pc' := 5) (z := a1) rfl rfl ?_)
  refine wp_of e90 c90_5 (rw_aload_n (pc' := 6) (v := .ref r0) rfl rfl rfl ?_)
  refine wp_of e90 c90_6 (xg_I (pc' := 9) lf_4_62 hW g0 sh_12 (by decide) (by decide) ty_12_5 rfl rfl (fun b1053 b1054 => ?_))
  refine wp_of e90 c90_9 (rw_if_ne (p1 := 16) (p2 := 12) (by decide) rfl ⟨b1053, b1054⟩ (fun c1055 => ?_) (fun c1055 => ?_))
  · refine wp_of e90 c90_16 (rw_aload_n (pc' := 17) (v := .ref r0) rfl rfl rfl ?_)
    refine wp_of e90 c90_17 (xg_K (pc' := 20) lf_4_25 hW g0 sh_12 (by decide) (by decide) rfl q1051 rfl ?_)
    refine wp_of e90 c90_20 (rw_iload_n (pc' := 21) (z := a1) rfl rfl ?_)
    refine wp_of e90 c90_21 (xa_I (so := 0) (pc' := 22) hW g1052 sh_18 (by decide) (ty_18 _) (i1.1) (Int.lt_of_le_of_lt i1.2 (by decide)) rfl (fun b1056 b1057 => ?_))
    have _y := LD_a0 hLD3_r0 q1051 (h := k) (s := (a1.toNat)) (by omega) (by omega) p6 (by omega) (by omega)
    refine wp_of e90 c90_22 (rw_iload_n (pc' := 23) (z := a2) rfl rfl ?_)
    refine wp_of e90 c90_23 (rw_math2 (pc' := 26) (z := min (H r1050 (a1.toNat)) a2) rfl rfl ⟨by omega, by omega⟩ ⟨by omega, by omega⟩ (Or.inl ⟨rfl, rfl⟩) (Nat.le_of_ble_eq_true rfl) rfl ?_)
    obtain ⟨v1058, e1059⟩ : ∃ x : Int, x = min (H r1050 (a1.toNat)) a2 := ⟨_, rfl⟩
    rw [← e1059]
    have b1060 : v1058 = (H r1050 (a1.toNat)) ∨ v1058 = a2 := by
      rw [e1059]
      omega
    have b1061 : v1058 ≤ (H r1050 (a1.toNat)) ∧ v1058 ≤ a2 := by
      rw [e1059]
      omega
    have _x : v1058 = xtr false (xwf e d) (fun n => ((xdue d (xlot d n) k : Nat) : Int)) (N + 1) := by
      first
      | exact ld_lo (y := 0) p3 (Or.inl ⟨by omega, by show v1058 = ((xdue d (xlot d ((N : Nat) : Int)) k : Nat) : Int); omega⟩)
      | exact ld_lo p3 (Or.inr ⟨by omega, _y, by omega, by show v1058 ≤ ((xdue d (xlot d ((N : Nat) : Int)) k : Nat) : Int); omega, by show _ ∨ v1058 = ((xdue d (xlot d ((N : Nat) : Int)) k : Nat) : Int); omega⟩)
    refine wp_of e90 c90_26 (xs_I (pc' := 27) hW g1052 (by decide) sh_18 (by decide) (ty_18 _) (by omega) (by omega) ⟨by omega, by omega⟩ (i1.1) (Int.lt_of_le_of_lt i1.2 (by decide)) rfl (fun H1062 e1063 w1064 => ?_))
    have f1065 := f0.put' e1063 g1052 rfl
    have h1066 : LD3 T H1062 r0 e d N (k + 1) := LD_put hLD3_r0 q1051 g0 g1052 (by decide) e1063 (k := (a1.toNat)) (h9 := k) (by omega) (by omega) p2 _x
    refine wp_of e90 c90_27 (rw_aload_n (pc' := 28) (v := .ref r0) rfl rfl rfl ?_)
    refine wp_of e90 c90_28 (xg_R (pc' := 31) lf_4_29 w1064 g0 sh_12 (by decide) (by decide) ty_12_4 rfl rfl (fun r1067 q1068 g1069 => ?_))
    refine wp_of e90 c90_31 (rw_iload_n (pc' := 32) (z := a1) rfl rfl ?_)
    refine wp_of e90 c90_32 (rw_aload_n (pc' := 33) (v := .ref r0) rfl rfl rfl ?_)
    have k1070 : H1062 r0 5 = H r0 5 := (wq_u_t e1063 g1052 g0 rfl 5)
    refine wp_of e90 c90_33 (xg_I (pc' := 36) lf_4_62 w1064 g0 sh_12 (by decide) (by decide) ty_12_5 rfl rfl (fun b1071 b1072 => ?_))
    refine wp_of e90 c90_36 (rw_if_ne (p1 := 43) (p2 := 39) (by decide) rfl ⟨b1071, b1072⟩ (fun c1073 => ?_) (fun c1073 => ?_))
    · refine wp_of e90 c90_43 (rw_aload_n (pc' := 44) (v := .ref r0) rfl rfl rfl ?_)
      refine wp_of e90 c90_44 (xg_K (pc' := 47) lf_4_29 w1064 g0 sh_12 (by decide) (by decide) rfl q1068 rfl ?_)
      refine wp_of e90 c90_47 (rw_iload_n (pc' := 48) (z := a1) rfl rfl ?_)
      refine wp_of e90 c90_48 (xa_I (so := 0) (pc' := 49) w1064 g1069 sh_19 (by decide) (ty_19 _) (i1.1) (Int.lt_of_le_of_lt i1.2 (by decide)) rfl (fun b1074 b1075 => ?_))
      have h1076 : LD4 T H1062 r0 e d N u := (LD4_fr hW g0 ((wfr.rf (l := [(18, 999)])).put' e1063 g1052 rfl) rfl hLD4_r0)
      have _y := LD_a0 h1076 q1068 (h := k) (s := (a1.toNat)) (by omega) (by omega) p6 (by omega) (by omega)
      refine wp_of e90 c90_49 (rw_iload_n (pc' := 50) (z := a2) rfl rfl ?_)
      refine wp_of e90 c90_50 (rw_math2 (pc' := 53) (z := max (H1062 r1067 (a1.toNat)) a2) rfl rfl ⟨by omega, by omega⟩ ⟨by omega, by omega⟩ (Or.inr ⟨rfl, rfl⟩) (Nat.le_of_ble_eq_true rfl) rfl ?_)
      obtain ⟨v1077, e1078⟩ : ∃ x : Int, x = max (H1062 r1067 (a1.toNat)) a2 := ⟨_, rfl⟩
      rw [← e1078]
      have b1079 : v1077 = (H1062 r1067 (a1.toNat)) ∨ v1077 = a2 := by
        rw [e1078]
        omega
      have b1080 : (H1062 r1067 (a1.toNat)) ≤ v1077 ∧ a2 ≤ v1077 := by
        rw [e1078]
        omega
      have _x : v1077 = xtr true (xwf e d) (fun n => ((xdue d (xlot d n) k : Nat) : Int)) (N + 1) := by
        first
        | exact ld_hi (y := 0) p3 (Or.inl ⟨by omega, by show v1077 = ((xdue d (xlot d ((N : Nat) : Int)) k : Nat) : Int); omega⟩)
        | exact ld_hi p3 (Or.inr ⟨by omega, _y, by omega, by show ((xdue d (xlot d ((N : Nat) : Int)) k : Nat) : Int) ≤ v1077; omega, by show _ ∨ v1077 = ((xdue d (xlot d ((N : Nat) : Int)) k : Nat) : Int); omega⟩)
      refine wp_of e90 c90_53 (xs_I (pc' := 54) w1064 g1069 (by decide) sh_19 (by decide) (ty_19 _) (by omega) (by omega) ⟨by omega, by omega⟩ (i1.1) (Int.lt_of_le_of_lt i1.2 (by decide)) rfl (fun H1081 e1082 w1083 => ?_))
      have f1084 := f1065.put' e1082 g1069 rfl
      have h1085 : LD4 T H1081 r0 e d N (k + 1) := LD_put h1076 q1068 g0 g1069 (by decide) e1082 (k := (a1.toNat)) (h9 := k) (by omega) (by omega) p2 _x
      have h1086 : LD3 T H1081 r0 e d N (k + 1) := (LD3_fr w1064 g0 ((wfr.rf (l := [(19, 999)])).put' e1082 g1069 rfl) rfl h1066)
      exact wp_return e90 c90_54 rfl ⟨rfl, w1083, f1084, rfl, ⟨h1086, h1085⟩⟩
    · refine wp_of e90 c90_39 (rw_iload_n (pc' := 40) (z := a2) rfl rfl ?_)
      refine wp_of e90 c90_40 (rw_goto (p1 := 53) (by decide) ?_)
      have _x : a2 = xtr true (xwf e d) (fun n => ((xdue d (xlot d n) k : Nat) : Int)) (N + 1) := by
        first
        | exact ld_hi (y := 0) p3 (Or.inl ⟨by omega, by show a2 = ((xdue d (xlot d ((N : Nat) : Int)) k : Nat) : Int); omega⟩)
        | exact ld_hi p3 (Or.inr ⟨by omega, _y, by omega, by show ((xdue d (xlot d ((N : Nat) : Int)) k : Nat) : Int) ≤ a2; omega, by show _ ∨ a2 = ((xdue d (xlot d ((N : Nat) : Int)) k : Nat) : Int); omega⟩)
      have h1087 : LD4 T H1062 r0 e d N u := (LD4_fr hW g0 ((wfr.rf (l := [(18, 999)])).put' e1063 g1052 rfl) rfl hLD4_r0)
      refine wp_of e90 c90_53 (xs_I (pc' := 54) w1064 g1069 (by decide) sh_19 (by decide) (ty_19 _) (i2.1) (i2.2) ⟨i2.1, i2.2⟩ (i1.1) (Int.lt_of_le_of_lt i1.2 (by decide)) rfl (fun H1088 e1089 w1090 => ?_))
      have f1091 := f1065.put' e1089 g1069 rfl
      have h1092 : LD4 T H1088 r0 e d N (k + 1) := LD_put h1087 q1068 g0 g1069 (by decide) e1089 (k := (a1.toNat)) (h9 := k) (by omega) (by omega) p2 _x
      have h1093 : LD3 T H1088 r0 e d N (k + 1) := (LD3_fr w1064 g0 ((wfr.rf (l := [(19, 999)])).put' e1089 g1069 rfl) rfl h1066)
      exact wp_return e90 c90_54 rfl ⟨rfl, w1090, f1091, rfl, ⟨h1093, h1092⟩⟩
  · refine wp_of e90 c90_12 (rw_iload_n (pc' := 13) (z := a2) rfl rfl ?_)
    refine wp_of e90 c90_13 (rw_goto (p1 := 26) (by decide) ?_)
    have _x : a2 = xtr false (xwf e d) (fun n => ((xdue d (xlot d n) k : Nat) : Int)) (N + 1) := by
      first
      | exact ld_lo (y := 0) p3 (Or.inl ⟨by omega, by show a2 = ((xdue d (xlot d ((N : Nat) : Int)) k : Nat) : Int); omega⟩)
      | exact ld_lo p3 (Or.inr ⟨by omega, _y, by omega, by show a2 ≤ ((xdue d (xlot d ((N : Nat) : Int)) k : Nat) : Int); omega, by show _ ∨ a2 = ((xdue d (xlot d ((N : Nat) : Int)) k : Nat) : Int); omega⟩)
    refine wp_of e90 c90_26 (xs_I (pc' := 27) hW g1052 (by decide) sh_18 (by decide) (ty_18 _) (i2.1) (i2.2) ⟨i2.1, i2.2⟩ (i1.1) (Int.lt_of_le_of_lt i1.2 (by decide)) rfl (fun H1094 e1095 w1096 => ?_))
    have f1097 := f0.put' e1095 g1052 rfl
    have h1098 : LD3 T H1094 r0 e d N (k + 1) := LD_put hLD3_r0 q1051 g0 g1052 (by decide) e1095 (k := (a1.toNat)) (h9 := k) (by omega) (by omega) p2 _x
    refine wp_of e90 c90_27 (rw_aload_n (pc' := 28) (v := .ref r0) rfl rfl rfl ?_)
    refine wp_of e90 c90_28 (xg_R (pc' := 31) lf_4_29 w1096 g0 sh_12 (by decide) (by decide) ty_12_4 rfl rfl (fun r1099 q1100 g1101 => ?_))
    refine wp_of e90 c90_31 (rw_iload_n (pc' := 32) (z := a1) rfl rfl ?_)
    refine wp_of e90 c90_32 (rw_aload_n (pc' := 33) (v := .ref r0) rfl rfl rfl ?_)
    have k1102 : H1094 r0 5 = H r0 5 := (wq_u_t e1095 g1052 g0 rfl 5)
    refine wp_of e90 c90_33 (xg_I (pc' := 36) lf_4_62 w1096 g0 sh_12 (by decide) (by decide) ty_12_5 rfl rfl (fun b1103 b1104 => ?_))
    refine wp_of e90 c90_36 (rw_if_ne (p1 := 43) (p2 := 39) (by decide) rfl ⟨b1103, b1104⟩ (fun c1105 => ?_) (fun c1105 => ?_))
    · exfalso
      omega
    · refine wp_of e90 c90_39 (rw_iload_n (pc' := 40) (z := a2) rfl rfl ?_)
      refine wp_of e90 c90_40 (rw_goto (p1 := 53) (by decide) ?_)
      have _x : a2 = xtr true (xwf e d) (fun n => ((xdue d (xlot d n) k : Nat) : Int)) (N + 1) := by
        first
        | exact ld_hi (y := 0) p3 (Or.inl ⟨by omega, by show a2 = ((xdue d (xlot d ((N : Nat) : Int)) k : Nat) : Int); omega⟩)
        | exact ld_hi p3 (Or.inr ⟨by omega, _y, by omega, by show ((xdue d (xlot d ((N : Nat) : Int)) k : Nat) : Int) ≤ a2; omega, by show _ ∨ a2 = ((xdue d (xlot d ((N : Nat) : Int)) k : Nat) : Int); omega⟩)
      have h1106 : LD4 T H1094 r0 e d N u := (LD4_fr hW g0 ((wfr.rf (l := [(18, 999)])).put' e1095 g1052 rfl) rfl hLD4_r0)
      refine wp_of e90 c90_53 (xs_I (pc' := 54) w1096 g1101 (by decide) sh_19 (by decide) (ty_19 _) (i2.1) (i2.2) ⟨i2.1, i2.2⟩ (i1.1) (Int.lt_of_le_of_lt i1.2 (by decide)) rfl (fun H1107 e1108 w1109 => ?_))
      have f1110 := f1097.put' e1108 g1101 rfl
      have h1111 : LD4 T H1107 r0 e d N (k + 1) := LD_put h1106 q1100 g0 g1101 (by decide) e1108 (k := (a1.toNat)) (h9 := k) (by omega) (by omega) p2 _x
      have h1112 : LD3 T H1107 r0 e d N (k + 1) := (LD3_fr w1096 g0 ((wfr.rf (l := [(19, 999)])).put' e1108 g1101 rfl) rfl h1098)
      exact wp_return e90 c90_54 rfl ⟨rfl, w1109, f1110, rfl, ⟨h1112, h1111⟩⟩
/-! StrikeAwake$Census.enter(LStrikeAwake$Parish;LStrikeAwake$Walk;I)V  -/
abbrev uq_88 (r0 : Nat) (r1 : Nat) (r2 : Nat) (a3 : Int) (e : xD) (d : xD) (n : Int) (T : wq_T) (H : wq_H) : Option Value → wq_T → wq_H → Prop := fun r T' H' => T = T' ∧ WT T H' ∧ wfr [(12, 5), (12, 6), (12, 7), (12, 8), (15, 999), (18, 999), (19, 999), (17, 999), (13, 999)] T H H' ∧ none = r ∧ ((CEB T H' r0 e d (a3 + 1).toNat ∧ CEX T H' r0 e d (a3 + 1).toNat))
set_option maxHeartbeats 4000000 in
theorem u_88 {kt : Nat → Option mc_E} {T : wq_T} {H : wq_H} {r0 : Nat} {r1 : Nat} {r2 : Nat} {a3 : Int} {e : xD} {d : xD} {n : Int} (hW : WT T H) (g0 : T.2.2.2 r0 = some 12) (g1 : T.2.2.2 r1 = some 27) (g2 : T.2.2.2 r2 = some 6) (i3 : 0 ≤ a3 ∧ a3 ≤ 19999) (p0 : ∀ i, i ≠ 13 → e i = d i) (p1 : XW d) (p2 : xwo e d (xlot d a3) = 1) (p3 : a3 < xlots d) (p4 : e 0 3 = d 0 3) (hCU_r1 : CU T H r1 e d n) (hWR_r2 : WR T H r2 d (xlot d a3)) (hCEB_r0 : CEB T H r0 e d (a3).toNat) (hCEX_r0 : CEX T H r0 e d (a3).toNat) (hHDR_r0 : HDR T H r0 ) : wpc kt 2 88 [.ref r0, .ref r1, .ref r2, vI a3] T H (uq_88 r0 r1 r2 a3 e d n T H) := by
  refine wp_enter e88 (Nat.le_of_ble_eq_true rfl) rfl ?_
  have f0 : wfr [(12, 5), (12, 6), (12, 7), (12, 8), (15, 999), (18, 999), (19, 999), (17, 999), (13, 999)] T H H := wfr.rf
  show wp _ _ 88 0 [(0, .ref r0), (1, .ref r1), (2, .ref r2), (3, vI a3)] [] _ H _
  have u2079 := CU_k hCU_r1
  have b2080 : (-2147483648) ≤ H r0 5 ∧ H r0 5 ≤ 2147483647 := hW.box g0 (n := 10) rfl (by decide) rfl
  have b2081 : (-9223372036854775808) ≤ H r0 6 ∧ H r0 6 ≤ 9223372036854775807 := hW.box g0 (n := 10) rfl (by decide) rfl
  have b2082 : 0 ≤ H r0 7 ∧ H r0 7 ≤ 19999 := hW.box g0 (n := 10) rfl (by decide) rfl
  have b2083 : (-9223372036854775808) ≤ H r0 8 ∧ H r0 8 ≤ 9223372036854775807 := hW.box g0 (n := 10) rfl (by decide) rfl
  have b2084 : 0 ≤ H r1 16 ∧ H r1 16 ≤ 24 := hW.box g1 (n := 19) rfl (by decide) rfl
  have h2085 : CEM T H r0 (xwf e d) (a3).toNat := hCEB_r0.2.2.2.2
  have h2086 : WP0 T H r2 (d 0 3) (xlot d a3) := hWR_r2.2.1
  have h2087 : HV1 T H r0 (d 0 3) (xhv e d (a3).toNat 0) := HVv_0 hCEX_r0.1
  have h2088 : HV2 T H r0 (d 0 3) (xwv e d (a3).toNat 0) := HWv_0 hCEX_r0.2.1
  have h2089 : LD3 T H r0 e d (a3).toNat 0 := hCEX_r0.2.2.1
  have h2090 : LD4 T H r0 e d (a3).toNat 0 := hCEX_r0.2.2.2
  have h2091 : SV T H r1 (e 13) 24 := hCU_r1.1.2.2.2.1
  have _k := CU_k hCU_r1
  have _xc := p1.2.1
  unfold XC at _xc
  have _d0 := p0 0 (by decide)
  have _e3 : e 0 3 = d 0 3 := by rw [_d0]
  have _e4 : e 0 4 = d 0 4 := by rw [_d0]
  have _e5 : e 0 5 = d 0 5 := by rw [_d0]
  have _c5 := hCEB_r0.1
  have _c6 := hCEB_r0.2.1
  have _c8 := hCEB_r0.2.2.1
  have _c7 := hCEB_r0.2.2.2.1
  have _fp : xwf e d (a3).toNat > 0 := by
    rw [xwf_v (by omega)]
    omega
  have _sb := @xsW_b d e (by omega) (a3).toNat
  have _bb := @xbW_b d e (by omega) (a3).toNat
  have _xc5 := xcn_b (f := xwf e d) (a3).toNat
  have _c16 := hCU_r1.1.1.2.2.2.2.2.2.2.2.2.2.2.1
  have _na : (((a3).toNat : Nat) : Int) = a3 := by omega
  have _lwb := xlW_b (d := d) (n := (a3).toNat) (by omega)
  refine wp_of e88 c88_0 (rw_lconst (pc' := 1) (z := 1) rfl rfl ?_)
  refine wp_of e88 c88_1 (rw_lstore (pc' := 3) (z := 1) (L' := [(4, vL 1), (0, .ref r0), (1, .ref r1), (2, .ref r2), (3, vI a3)]) rfl rfl rfl ?_)
  refine wp_of e88 c88_3 (rw_iconst (pc' := 4) rfl ?_)
  refine wp_of e88 c88_4 (rw_istore (pc' := 6) (z := 0) (L' := [(6, vI 0), (4, vL 1), (0, .ref r0), (1, .ref r1), (2, .ref r2), (3, vI a3)]) rfl rfl rfl ?_)
  have lp2328 : ∀ (n2329 : Nat) (v2331 : Int) (v2332 : Int), (0 ≤ v2331 ∧ v2331 ≤ 6) → (1 ≤ v2332 ∧ v2332 ≤ 1000000) → (v2331 ≤ d 0 3) → (v2332 = xlw d (xlot d a3) (v2331).toNat) → (6 - v2331).toNat = n2329 → wp kt 1 88 6 [(6, vI v2331), (4, vL v2332), (0, .ref r0), (1, .ref r1), (2, .ref r2), (3, vI a3)] [] T H (uq_88 r0 r1 r2 a3 e d n T H) := by
    intro n2329
    induction n2329 using Nat.strongRecOn with
    | _ n2329 ih2330 =>
      intro v2331 v2332 b2335 b2336 x2338 x2339 m2337
      refine wp_of e88 c88_6 (rw_iload (pc' := 8) (z := v2331) rfl rfl ?_)
      refine wp_of e88 c88_8 (rw_aload_n (pc' := 9) (v := .ref r1) rfl rfl rfl ?_)
      refine wp_of e88 c88_9 (xg_I (pc' := 12) lf_4_75 hW g1 sh_27 (by decide) (by decide) ty_27_10 rfl rfl (fun b2340 b2341 => ?_))
      refine wp_of e88 c88_12 (rw_icmp_ge (p1 := 43) (p2 := 15) (by decide) rfl ⟨Int.le_trans (by decide) b2335.1, Int.le_trans b2335.2 (by decide)⟩ ⟨Int.le_trans (by decide) b2340, Int.le_trans b2341 (by decide)⟩ (fun c2342 => ?_) (fun c2342 => ?_))
      · have _lw : v2332 = xlW d (a3).toNat := by
          unfold xlW
          rw [Int.toNat_of_nonneg (by omega : 0 ≤ a3), show (d 0 3).toNat = (v2331).toNat by omega]
          assumption
        refine wp_of e88 c88_43 (rw_iconst (pc' := 44) rfl ?_)
        refine wp_of e88 c88_44 (rw_istore (pc' := 46) (z := 0) (L' := [(6, vI 0), (4, vL v2332), (0, .ref r0), (1, .ref r1), (2, .ref r2), (3, vI a3)]) rfl rfl rfl ?_)
        have lp2721 : ∀ (n2722 : Nat) (v2724 : Int) (H2725 : wq_H), WT T H2725 → wfr [(15, 999), (17, 999)] T H H2725 → (0 ≤ v2724 ∧ v2724 ≤ 6) → HV1 T H2725 r0 (d 0 3) (xhv e d (a3).toNat (v2724).toNat) → HV2 T H2725 r0 (d 0 3) (xwv e d (a3).toNat (v2724).toNat) → (v2724 ≤ d 0 3) → (6 - v2724).toNat = n2722 → wp kt 1 88 46 [(6, vI v2724), (4, vL v2332), (0, .ref r0), (1, .ref r1), (2, .ref r2), (3, vI a3)] [] T H2725 (uq_88 r0 r1 r2 a3 e d n T H) := by
          intro n2722
          induction n2722 using Nat.strongRecOn with
          | _ n2722 ih2723 =>
            intro v2724 H2725 w2726 f2727 b2728 h2730 h2731 x2732 m2729
            have f2733 := f0.tr f2727 rfl
            refine wp_of e88 c88_46 (rw_iload (pc' := 48) (z := v2724) rfl rfl ?_)
            refine wp_of e88 c88_48 (rw_aload_n (pc' := 49) (v := .ref r1) rfl rfl rfl ?_)
            have k2734 : H2725 r1 10 = H r1 10 := (f2727 r1 10 _ g1 rfl)
            refine wp_of e88 c88_49 (xg_I (pc' := 52) lf_4_75 w2726 g1 sh_27 (by decide) (by decide) ty_27_10 rfl rfl (fun b2735 b2736 => ?_))
            refine wp_of e88 c88_52 (rw_icmp_ge (p1 := 98) (p2 := 55) (by decide) rfl ⟨Int.le_trans (by decide) b2728.1, Int.le_trans b2728.2 (by decide)⟩ ⟨Int.le_trans (by decide) b2735, Int.le_trans b2736 (by decide)⟩ (fun c2737 => ?_) (fun c2737 => ?_))
            · have h2738 : HV1 T H2725 r0 (d 0 3) (fun p i => xhc e d p i ((a3).toNat + 1)) := HVv_e h2730 (by omega)
              have h2739 : HV2 T H2725 r0 (d 0 3) (fun p i => xhw e d p i ((a3).toNat + 1)) := HWv_e h2731 (by omega)
              refine wp_of e88 c88_98 (rw_iconst (pc' := 99) rfl ?_)
              refine wp_of e88 c88_99 (rw_istore (pc' := 101) (z := 0) (L' := [(6, vI 0), (4, vL v2332), (0, .ref r0), (1, .ref r1), (2, .ref r2), (3, vI a3)]) rfl rfl rfl ?_)
              have k3026 : H2725 r1 16 = H r1 16 := (f2727 r1 16 _ g1 rfl)
              have lp3020 : ∀ (n3021 : Nat) (v3023 : Int) (H3024 : wq_H) (u3025 : Nat), WT T H3024 → wfr [(18, 999), (19, 999)] T H2725 H3024 → (0 ≤ v3023 ∧ v3023 ≤ 24) → LD3 T H3024 r0 e d (a3).toNat u3025 → LD4 T H3024 r0 e d (a3).toNat u3025 → (u3025 ≤ 24) → (xcn (e 13) u3025 = v3023) → (24 - v3023).toNat = n3021 → wp kt 1 88 101 [(6, vI v3023), (4, vL v2332), (0, .ref r0), (1, .ref r1), (2, .ref r2), (3, vI a3)] [] T H3024 (uq_88 r0 r1 r2 a3 e d n T H) := by
                intro n3021
                induction n3021 using Nat.strongRecOn with
                | _ n3021 ih3022 =>
                  intro v3023 H3024 u3025 w3027 f3028 b3029 h3031 h3032 x3033 x3034 m3030
                  have f3035 := f2733.tr f3028 rfl
                  have k3036 : H3024 r1 16 = H2725 r1 16 := (f3028 r1 16 _ g1 rfl)
                  refine wp_of e88 c88_101 (rw_iload (pc' := 103) (z := v3023) rfl rfl ?_)
                  refine wp_of e88 c88_103 (rw_aload_n (pc' := 104) (v := .ref r1) rfl rfl rfl ?_)
                  refine wp_of e88 c88_104 (xg_I (pc' := 107) lf_4_91 w3027 g1 sh_27 (by decide) (by decide) ty_27_16 rfl rfl (fun b3037 b3038 => ?_))
                  refine wp_of e88 c88_107 (rw_icmp_ge (p1 := 138) (p2 := 110) (by decide) rfl ⟨Int.le_trans (by decide) b3029.1, Int.le_trans b3029.2 (by decide)⟩ ⟨Int.le_trans (by decide) b3037, Int.le_trans b3038 (by decide)⟩ (fun c3039 => ?_) (fun c3039 => ?_))
                  · have h3040 : LD3 T H3024 r0 e d ((a3).toNat + 1) 0 := LD_all _fp h3031 (fun j p q => by
                      have h1 := xcn_mono (f := e 13) (m := u3025) j p
                      by_cases c0 : e 13 j ≤ 0
                      · exact c0
                      · have h2 := xcn_lt (f := e 13) (m := j) (n := 24) q (by omega)
                        omega)
                    have h3041 : LD4 T H3024 r0 e d ((a3).toNat + 1) 0 := LD_all _fp h3032 (fun j p q => by
                      have h1 := xcn_mono (f := e 13) (m := u3025) j p
                      by_cases c0 : e 13 j ≤ 0
                      · exact c0
                      · have h2 := xcn_lt (f := e 13) (m := j) (n := 24) q (by omega)
                        omega)
                    refine wp_of e88 c88_138 (rw_aload_n (pc' := 139) (v := .ref r0) rfl rfl rfl ?_)
                    refine wp_of e88 c88_139 (xg_R (pc' := 142) lf_4_11 w3027 g0 sh_12 (by decide) (by decide) ty_12_0 rfl rfl (fun r3042 q3043 g3044 => ?_))
                    refine wp_of e88 c88_142 (rw_iload_n (pc' := 143) (z := a3) rfl rfl ?_)
                    refine wp_of e88 c88_143 (rw_bipush (pc' := 145) (z := 64) rfl (by decide) ?_)
                    refine wp_of e88 c88_145 (rw_idiv (pc' := 146) rfl ⟨by omega, by omega⟩ (by omega) ?_)
                    obtain ⟨v3045, e3046⟩ : ∃ x : Int, x = wq_div a3 64 := ⟨_, rfl⟩
                    rw [← e3046]
                    have b3047 : v3045 = a3 / 64 := by
                      rw [e3046]
                      exact wq_div_e ⟨by omega, by omega⟩ ⟨by omega, by omega⟩
                    refine wp_of e88 c88_146 (rw_dup2 (pc' := 147) rfl rfl rfl ?_)
                    refine wp_of e88 c88_147 (xa_L (pc' := 148) w3027 g3044 sh_13 (by decide) (ty_13 _) (by omega) (by omega) rfl (fun b3048 b3049 => ?_))
                    refine wp_of e88 c88_148 (rw_lconst (pc' := 149) (z := 1) rfl rfl ?_)
                    refine wp_of e88 c88_149 (rw_iload_n (pc' := 150) (z := a3) rfl rfl ?_)
                    refine wp_of e88 c88_150 (rw_bipush (pc' := 152) (z := 64) rfl (by decide) ?_)
                    refine wp_of e88 c88_152 (rw_irem (pc' := 153) rfl ⟨by omega, by omega⟩ (by omega) ?_)
                    obtain ⟨v3050, e3051⟩ : ∃ x : Int, x = wq_rem a3 64 := ⟨_, rfl⟩
                    rw [← e3051]
                    have b3052 : v3050 = a3 % 64 := by
                      rw [e3051]
                      exact wq_rem_e ⟨by omega, by omega⟩ ⟨by omega, by omega⟩
                    refine wp_of e88 c88_153 (rw_lshl (pc' := 154) rfl ?_)
                    obtain ⟨v3053, e3054⟩ : ∃ x : Int, x = wl_shl 1 v3050 := ⟨_, rfl⟩
                    rw [← e3054]
                    have b3055 : -9223372036854775808 ≤ v3053 ∧ v3053 ≤ 9223372036854775807 := by
                      rw [e3054]
                      exact wL_shl _ _
                    refine wp_of e88 c88_154 (rw_lor (pc' := 155) rfl ?_)
                    obtain ⟨v3056, e3057⟩ : ∃ x : Int, x = wl_or (H3024 r3042 (v3045.toNat)) v3053 := ⟨_, rfl⟩
                    rw [← e3057]
                    have b3058 : -9223372036854775808 ≤ v3056 ∧ v3056 ≤ 9223372036854775807 := by
                      rw [e3057]
                      exact wL_or _ _
                    have _mw : v3053 = wl_shl 1 ((((a3).toNat % 64 : Nat)) : Int) := by
                      rw [e3054, show v3050 = ((((a3).toNat % 64 : Nat)) : Int) by omega]
                    have h3059 : CEM T H3024 r0 (xwf e d) (a3).toNat := (CEM_fr w2726 g0 f3028 rfl (CEM_fr hW g0 f2727 rfl h2085))
                    refine wp_of e88 c88_155 (xs_L (pc' := 156) w3027 g3044 (by decide) sh_13 (by decide) (ty_13 _) (b3058.1) (b3058.2) ⟨b3058.1, b3058.2⟩ (by omega) (by omega) rfl (fun H3060 e3061 w3062 => ?_))
                    have f3063 := f3035.put' e3061 g3044 rfl
                    have h3064 : CEM T H3060 r0 (xwf e d) (a3 + 1).toNat := by
                      rw [show (a3 + 1).toNat = (a3).toNat + 1 by omega]
                      exact CEM_put h3059 q3043 g0 g3044 e3061 (by omega) e3057 _mw _fp
                    refine wp_of e88 c88_156 (rw_aload_n (pc' := 157) (v := .ref r0) rfl rfl rfl ?_)
                    refine wp_of e88 c88_157 (rw_dup (pc' := 158) rfl rfl ?_)
                    have k3065 : H3060 r0 5 = H r0 5 := ((wq_u_t e3061 g3044 g0 rfl 5).trans ((f3028 r0 5 _ g0 rfl).trans (f2727 r0 5 _ g0 rfl)))
                    refine wp_of e88 c88_158 (xg_I (pc' := 161) lf_4_62 w3062 g0 sh_12 (by decide) (by decide) ty_12_5 rfl rfl (fun b3066 b3067 => ?_))
                    refine wp_of e88 c88_161 (rw_iconst (pc' := 162) rfl ?_)
                    refine wp_of e88 c88_162 (rw_iaddw (pc' := 163) rfl ?_)
                    obtain ⟨v3068, e3069⟩ : ∃ x : Int, x = wq_w ((H3060 r0 5) + 1) := ⟨_, rfl⟩
                    rw [← e3069]
                    have b3070 : -2147483648 ≤ v3068 ∧ v3068 ≤ 2147483647 := by
                      rw [e3069]
                      exact wI_w _
                    have b3071 : (-2147483648 ≤ (H3060 r0 5) + 1 ∧ (H3060 r0 5) + 1 ≤ 2147483647) → v3068 = (H3060 r0 5) + 1 := fun h => by rw [e3069]; exact wq_w_id h
                    refine wp_of e88 c88_163 (xp_I (pc' := 166) lf_4_62 w3062 g0 sh_12 (by decide) (by decide) ty_12_5 rfl rfl (b3070.1) (b3070.2) ⟨b3070.1, b3070.2⟩ rfl (fun H3072 e3073 w3074 => ?_))
                    have f3075 := f3063.put' e3073 g0 rfl
                    have k3076 : H3072 r0 5 = v3068 := wq_u_s e3073
                    refine wp_of e88 c88_166 (rw_aload_n (pc' := 167) (v := .ref r0) rfl rfl rfl ?_)
                    refine wp_of e88 c88_167 (rw_dup (pc' := 168) rfl rfl ?_)
                    have k3077 : H3072 r0 6 = H r0 6 := ((wq_u_j e3073 rfl).trans ((wq_u_t e3061 g3044 g0 rfl 6).trans ((f3028 r0 6 _ g0 rfl).trans (f2727 r0 6 _ g0 rfl))))
                    refine wp_of e88 c88_168 (xg_L (pc' := 171) lf_4_66 w3074 g0 sh_12 (by decide) (by decide) ty_12_6 rfl rfl (fun b3078 b3079 => ?_))
                    refine wp_of e88 c88_171 (rw_lload (pc' := 173) (z := v2332) rfl rfl ?_)
                    refine wp_of e88 c88_173 (rw_laddw (pc' := 174) rfl ?_)
                    obtain ⟨v3080, e3081⟩ : ∃ x : Int, x = wl_w ((H3072 r0 6) + v2332) := ⟨_, rfl⟩
                    rw [← e3081]
                    have b3082 : -9223372036854775808 ≤ v3080 ∧ v3080 ≤ 9223372036854775807 := by
                      rw [e3081]
                      exact wL_w _
                    have b3083 : (-9223372036854775808 ≤ (H3072 r0 6) + v2332 ∧ (H3072 r0 6) + v2332 ≤ 9223372036854775807) → v3080 = (H3072 r0 6) + v2332 := fun h => by rw [e3081]; exact wl_w_id h
                    refine wp_of e88 c88_174 (xp_L (pc' := 177) lf_4_66 w3074 g0 sh_12 (by decide) (by decide) ty_12_6 rfl rfl (b3082.1) (b3082.2) ⟨b3082.1, b3082.2⟩ rfl (fun H3084 e3085 w3086 => ?_))
                    have f3087 := f3075.put' e3085 g0 rfl
                    have k3088 : H3084 r0 6 = v3080 := wq_u_s e3085
                    refine wp_of e88 c88_177 (rw_lload (pc' := 179) (z := v2332) rfl rfl ?_)
                    refine wp_of e88 c88_179 (rw_aload_n (pc' := 180) (v := .ref r0) rfl rfl rfl ?_)
                    have k3089 : H3084 r0 8 = H r0 8 := ((wq_u_j e3085 rfl).trans ((wq_u_j e3073 rfl).trans ((wq_u_t e3061 g3044 g0 rfl 8).trans ((f3028 r0 8 _ g0 rfl).trans (f2727 r0 8 _ g0 rfl)))))
                    refine wp_of e88 c88_180 (xg_L (pc' := 183) lf_4_72 w3086 g0 sh_12 (by decide) (by decide) ty_12_8 rfl rfl (fun b3090 b3091 => ?_))
                    refine wp_of e88 c88_183 (rw_lcmp (pc' := 184) rfl ⟨Int.le_trans (by decide) b2336.1, Int.le_trans b2336.2 (by decide)⟩ ⟨b3090, b3091⟩ ?_)
                    have b3092 := wq_cmp_b v2332 (H3084 r0 8)
                    refine wp_of e88 c88_184 (rw_if_le (p1 := 198) (p2 := 187) (by decide) rfl ⟨by omega, by omega⟩ (fun c3093 => ?_) (fun c3093 => ?_))
                    · have k3094 : H3084 r0 5 = H3072 r0 5 := (wq_u_j e3085 rfl)
                      have k3095 : H3084 r0 7 = H r0 7 := ((wq_u_j e3085 rfl).trans ((wq_u_j e3073 rfl).trans ((wq_u_t e3061 g3044 g0 rfl 7).trans ((f3028 r0 7 _ g0 rfl).trans (f2727 r0 7 _ g0 rfl)))))
                      have h3096 : CEM T H3084 r0 (xwf e d) (a3 + 1).toNat := (CEM_fr w3074 g0 ((wfr.rf (l := [(12, 6)])).put' e3085 g0 rfl) rfl (CEM_fr w3062 g0 ((wfr.rf (l := [(12, 5)])).put' e3073 g0 rfl) rfl h3064))
                      have h3097 : HV1 T H3084 r0 (d 0 3) (fun p i => xhc e d p i ((a3).toNat + 1)) := (HV1_fr w3074 g0 ((wfr.rf (l := [(12, 6)])).put' e3085 g0 rfl) rfl (HV1_fr w3062 g0 ((wfr.rf (l := [(12, 5)])).put' e3073 g0 rfl) rfl (HV1_fr w3027 g0 ((wfr.rf (l := [(13, 999)])).put' e3061 g3044 rfl) rfl (HV1_fr w2726 g0 f3028 rfl h2738))))
                      have h3098 : HV2 T H3084 r0 (d 0 3) (fun p i => xhw e d p i ((a3).toNat + 1)) := (HV2_fr w3074 g0 ((wfr.rf (l := [(12, 6)])).put' e3085 g0 rfl) rfl (HV2_fr w3062 g0 ((wfr.rf (l := [(12, 5)])).put' e3073 g0 rfl) rfl (HV2_fr w3027 g0 ((wfr.rf (l := [(13, 999)])).put' e3061 g3044 rfl) rfl (HV2_fr w2726 g0 f3028 rfl h2739))))
                      have h3099 : LD3 T H3084 r0 e d ((a3).toNat + 1) 0 := (LD3_fr w3074 g0 ((wfr.rf (l := [(12, 6)])).put' e3085 g0 rfl) rfl (LD3_fr w3062 g0 ((wfr.rf (l := [(12, 5)])).put' e3073 g0 rfl) rfl (LD3_fr w3027 g0 ((wfr.rf (l := [(13, 999)])).put' e3061 g3044 rfl) rfl h3040)))
                      have h3100 : LD4 T H3084 r0 e d ((a3).toNat + 1) 0 := (LD4_fr w3074 g0 ((wfr.rf (l := [(12, 6)])).put' e3085 g0 rfl) rfl (LD4_fr w3062 g0 ((wfr.rf (l := [(12, 5)])).put' e3073 g0 rfl) rfl (LD4_fr w3027 g0 ((wfr.rf (l := [(13, 999)])).put' e3061 g3044 rfl) rfl h3041)))
                      exact wp_return e88 c88_198 rfl ⟨rfl, w3086, f3087, rfl, ⟨⟨by rw [xcw_s (by omega)]; omega, by rw [show (a3 + 1).toNat = (a3).toNat + 1 by omega, xsW_y _fp]; omega, by
                        rw [show (a3 + 1).toNat = (a3).toNat + 1 by omega, xbW_y _fp]
                        first | (rw [if_pos (by omega)]; show H3084 r0 8 = xlW d (a3).toNat; omega) | (rw [if_neg (by omega)]; omega), by
                        rw [show (a3 + 1).toNat = (a3).toNat + 1 by omega, xbW_y _fp]
                        first | (rw [if_pos (by omega)]; show H3084 r0 7 = (((a3).toNat : Nat) : Int); omega) | (rw [if_neg (by omega)]; omega), h3096⟩, (by rw [show (a3 + 1).toNat = (a3).toNat + 1 by omega]; exact ⟨h3097, h3098, h3099, h3100⟩)⟩⟩
                    · refine wp_of e88 c88_187 (rw_aload_n (pc' := 188) (v := .ref r0) rfl rfl rfl ?_)
                      refine wp_of e88 c88_188 (rw_lload (pc' := 190) (z := v2332) rfl rfl ?_)
                      refine wp_of e88 c88_190 (xp_L (pc' := 193) lf_4_72 w3086 g0 sh_12 (by decide) (by decide) ty_12_8 rfl rfl (Int.le_trans (by decide) b2336.1) (Int.le_trans b2336.2 (by decide)) ⟨Int.le_trans (by decide) b2336.1, Int.le_trans b2336.2 (by decide)⟩ rfl (fun H3101 e3102 w3103 => ?_))
                      have f3104 := f3087.put' e3102 g0 rfl
                      have k3105 : H3101 r0 8 = v2332 := wq_u_s e3102
                      refine wp_of e88 c88_193 (rw_aload_n (pc' := 194) (v := .ref r0) rfl rfl rfl ?_)
                      refine wp_of e88 c88_194 (rw_iload_n (pc' := 195) (z := a3) rfl rfl ?_)
                      refine wp_of e88 c88_195 (xp_I (pc' := 198) lf_4_69 w3103 g0 sh_12 (by decide) (by decide) ty_12_7 rfl rfl (i3.1) (i3.2) ⟨Int.le_trans (by decide) i3.1, Int.le_trans i3.2 (by decide)⟩ rfl (fun H3106 e3107 w3108 => ?_))
                      have f3109 := f3104.put' e3107 g0 rfl
                      have k3110 : H3106 r0 7 = a3 := wq_u_s e3107
                      have k3111 : H3106 r0 5 = H3072 r0 5 := ((wq_u_j e3107 rfl).trans ((wq_u_j e3102 rfl).trans (wq_u_j e3085 rfl)))
                      have k3112 : H3106 r0 6 = H3084 r0 6 := ((wq_u_j e3107 rfl).trans (wq_u_j e3102 rfl))
                      have k3113 : H3106 r0 8 = H3101 r0 8 := (wq_u_j e3107 rfl)
                      have h3114 : CEM T H3106 r0 (xwf e d) (a3 + 1).toNat := (CEM_fr w3103 g0 ((wfr.rf (l := [(12, 7)])).put' e3107 g0 rfl) rfl (CEM_fr w3086 g0 ((wfr.rf (l := [(12, 8)])).put' e3102 g0 rfl) rfl (CEM_fr w3074 g0 ((wfr.rf (l := [(12, 6)])).put' e3085 g0 rfl) rfl (CEM_fr w3062 g0 ((wfr.rf (l := [(12, 5)])).put' e3073 g0 rfl) rfl h3064))))
                      have h3115 : HV1 T H3106 r0 (d 0 3) (fun p i => xhc e d p i ((a3).toNat + 1)) := (HV1_fr w3103 g0 ((wfr.rf (l := [(12, 7)])).put' e3107 g0 rfl) rfl (HV1_fr w3086 g0 ((wfr.rf (l := [(12, 8)])).put' e3102 g0 rfl) rfl (HV1_fr w3074 g0 ((wfr.rf (l := [(12, 6)])).put' e3085 g0 rfl) rfl (HV1_fr w3062 g0 ((wfr.rf (l := [(12, 5)])).put' e3073 g0 rfl) rfl (HV1_fr w3027 g0 ((wfr.rf (l := [(13, 999)])).put' e3061 g3044 rfl) rfl (HV1_fr w2726 g0 f3028 rfl h2738))))))
                      have h3116 : HV2 T H3106 r0 (d 0 3) (fun p i => xhw e d p i ((a3).toNat + 1)) := (HV2_fr w3103 g0 ((wfr.rf (l := [(12, 7)])).put' e3107 g0 rfl) rfl (HV2_fr w3086 g0 ((wfr.rf (l := [(12, 8)])).put' e3102 g0 rfl) rfl (HV2_fr w3074 g0 ((wfr.rf (l := [(12, 6)])).put' e3085 g0 rfl) rfl (HV2_fr w3062 g0 ((wfr.rf (l := [(12, 5)])).put' e3073 g0 rfl) rfl (HV2_fr w3027 g0 ((wfr.rf (l := [(13, 999)])).put' e3061 g3044 rfl) rfl (HV2_fr w2726 g0 f3028 rfl h2739))))))
                      have h3117 : LD3 T H3106 r0 e d ((a3).toNat + 1) 0 := (LD3_fr w3103 g0 ((wfr.rf (l := [(12, 7)])).put' e3107 g0 rfl) rfl (LD3_fr w3086 g0 ((wfr.rf (l := [(12, 8)])).put' e3102 g0 rfl) rfl (LD3_fr w3074 g0 ((wfr.rf (l := [(12, 6)])).put' e3085 g0 rfl) rfl (LD3_fr w3062 g0 ((wfr.rf (l := [(12, 5)])).put' e3073 g0 rfl) rfl (LD3_fr w3027 g0 ((wfr.rf (l := [(13, 999)])).put' e3061 g3044 rfl) rfl h3040)))))
                      have h3118 : LD4 T H3106 r0 e d ((a3).toNat + 1) 0 := (LD4_fr w3103 g0 ((wfr.rf (l := [(12, 7)])).put' e3107 g0 rfl) rfl (LD4_fr w3086 g0 ((wfr.rf (l := [(12, 8)])).put' e3102 g0 rfl) rfl (LD4_fr w3074 g0 ((wfr.rf (l := [(12, 6)])).put' e3085 g0 rfl) rfl (LD4_fr w3062 g0 ((wfr.rf (l := [(12, 5)])).put' e3073 g0 rfl) rfl (LD4_fr w3027 g0 ((wfr.rf (l := [(13, 999)])).put' e3061 g3044 rfl) rfl h3041)))))
                      exact wp_return e88 c88_198 rfl ⟨rfl, w3108, f3109, rfl, ⟨⟨by rw [xcw_s (by omega)]; omega, by rw [show (a3 + 1).toNat = (a3).toNat + 1 by omega, xsW_y _fp]; omega, by
                        rw [show (a3 + 1).toNat = (a3).toNat + 1 by omega, xbW_y _fp]
                        first | (rw [if_pos (by omega)]; show H3106 r0 8 = xlW d (a3).toNat; omega) | (rw [if_neg (by omega)]; omega), by
                        rw [show (a3 + 1).toNat = (a3).toNat + 1 by omega, xbW_y _fp]
                        first | (rw [if_pos (by omega)]; show H3106 r0 7 = (((a3).toNat : Nat) : Int); omega) | (rw [if_neg (by omega)]; omega), h3114⟩, (by rw [show (a3 + 1).toNat = (a3).toNat + 1 by omega]; exact ⟨h3115, h3116, h3117, h3118⟩)⟩⟩
                  · obtain ⟨h9, _a, _b, _c, _e, _f⟩ := xcn_nx (f := e 13) (u := u3025) 24 (by omega) (by omega)
                    have _n9 : xcn (e 13) (h9 + 1) = xcn (e 13) h9 + 1 := by
                      show xcn (e 13) h9 + (if e 13 h9 > 0 then 1 else 0) = _
                      rw [if_pos _c]
                    refine wp_of e88 c88_110 (rw_aload_n (pc' := 111) (v := .ref r0) rfl rfl rfl ?_)
                    refine wp_of e88 c88_111 (rw_aload_n (pc' := 112) (v := .ref r1) rfl rfl rfl ?_)
                    refine wp_of e88 c88_112 (xg_R (pc' := 115) lf_4_94 w3027 g1 sh_27 (by decide) (by decide) ty_27_2 rfl rfl (fun r3119 q3120 g3121 => ?_))
                    refine wp_of e88 c88_115 (rw_iload (pc' := 117) (z := v3023) rfl rfl ?_)
                    have h3122 : SV T H3024 r1 (e 13) 24 := (SV_fr w2726 g1 f3028 rfl (SV_fr hW g1 f2727 rfl h2091))
                    have _v := SV_at h3122 q3120 (h := h9) (by omega) _c
                    rw [show xcn (e 13) h9 = v3023 by omega] at _v
                    refine wp_of e88 c88_117 (xa_I (so := 0) (pc' := 118) w3027 g3121 sh_30 (by decide) (ty_30 _) (b3029.1) (by omega) rfl (fun b3123 b3124 => ?_))
                    refine wp_of e88 c88_118 (rw_aload_n (pc' := 119) (v := .ref r2) rfl rfl rfl ?_)
                    refine wp_of e88 c88_119 (rw_aload_n (pc' := 120) (v := .ref r1) rfl rfl rfl ?_)
                    refine wp_of e88 c88_120 (xg_K (pc' := 123) lf_4_94 w3027 g1 sh_27 (by decide) (by decide) rfl q3120 rfl ?_)
                    refine wp_of e88 c88_123 (rw_iload (pc' := 125) (z := v3023) rfl rfl ?_)
                    refine wp_of e88 c88_125 (xa_I (so := 0) (pc' := 126) w3027 g3121 sh_30 (by decide) (ty_30 _) (b3029.1) (by omega) rfl (fun b3125 b3126 => ?_))
                    have h3127 : WR T H3024 r2 d (xlot d a3) := (WR_fr w2726 g2 f3028 rfl (WR_fr hW g2 f2727 rfl hWR_r2))
                    refine wp_of e88 c88_126 (xc_V (pc' := 129) (r := r2) (as := [vI (H3024 r3119 (v3023.toNat))]) (st := [vI (H3024 r3119 (v3023.toNat)), .ref r0]) (lm_4_97) rfl rfl (Nat.le_of_ble_eq_true rfl) w3027 g2 sh_6 (by decide) rfl (by decide) (u_72 (d := d) (g := ((xlot d a3))) w3027 g2 ⟨b3125, b3126⟩ (by assumption) h3127) (fun R3128 T3129 H3130 p3131 => ?_))
                    obtain ⟨e3132, e3134, z3135, e3133, b3136, p3137⟩ := p3131
                    subst e3132
                    subst e3133
                    subst e3134
                    show wp _ _ 88 129 [(6, vI v3023), (4, vL v2332), (0, .ref r0), (1, .ref r1), (2, .ref r2), (3, vI a3)] [vI z3135, vI (H3024 r3119 (v3023.toNat)), .ref r0] _ H3024 _
                    have _du : z3135 = ((xdue d (xlot d (((a3).toNat : Nat) : Int)) h9 : Nat) : Int) := by
                      rw [_na, show h9 = (H3024 r3119 (v3023.toNat)).toNat by omega]
                      assumption
                    have k3139 : H3024 r0 5 = H r0 5 := ((f3028 r0 5 _ g0 rfl).trans (f2727 r0 5 _ g0 rfl))
                    refine wp_of e88 c88_129 (xc_V (pc' := 132) (r := r0) (as := [vI (H3024 r3119 (v3023.toNat)), vI z3135]) (st := []) (lm_4_100) rfl rfl (Nat.le_of_ble_eq_true rfl) w3027 g0 sh_12 (by decide) rfl (by decide) (u_90 (e := e) (d := d) (N := ((a3).toNat)) (u := u3025) (k := h9) w3027 g0 ⟨b3125, b3126⟩ ⟨Int.le_trans (by decide) b3136.1, Int.le_trans b3136.2 (by decide)⟩ (by omega) (by omega) (_f) (by omega) (by omega) (by omega) (by omega) h3031 h3032) (fun R3140 T3141 H3142 p3143 => ?_))
                    obtain ⟨e3144, w3146, f3147, e3145, p3148⟩ := p3143
                    subst e3144
                    subst e3145
                    obtain ⟨a3149, a3150⟩ := p3148
                    have f3151 := f3035.tr f3147 rfl
                    have f3152 := f3028.tr f3147 rfl
                    show wp _ _ 88 132 [(6, vI v3023), (4, vL v2332), (0, .ref r0), (1, .ref r1), (2, .ref r2), (3, vI a3)] [] _ H3142 _
                    refine wp_of e88 c88_132 (rw_iinc (pc' := 135) (z := v3023) (L' := [(6, vI (v3023 + 1)), (4, vL v2332), (0, .ref r0), (1, .ref r1), (2, .ref r2), (3, vI a3)]) rfl rfl rfl rfl ?_)
                    refine wp_of e88 c88_135 (rw_goto (p1 := 101) (by decide) ?_)
                    have k3153 : H3142 r1 16 = H3024 r1 16 := (f3147 r1 16 _ g1 rfl)
                    exact wp_lc (ks := [6, 4, 0, 1, 2, 3]) (wl_c rfl (wl_c rfl (wl_c rfl (wl_c rfl (wl_c rfl (wl_c rfl wl_n)))))) rfl (by decide) (ih3022 _ (by omega) (v3023 + 1) H3142 ((h9 + 1)) w3146 f3152 ⟨by omega, by omega⟩ a3149 a3150 (by omega) (by omega) rfl)
              have h3154 : LD3 T H2725 r0 e d (a3).toNat 0 := (LD3_fr hW g0 f2727 rfl h2089)
              have h3155 : LD4 T H2725 r0 e d (a3).toNat 0 := (LD4_fr hW g0 f2727 rfl h2090)
              exact wp_lc (ks := [6, 4, 0, 1, 2, 3]) (wl_c rfl (wl_c rfl (wl_c rfl (wl_c rfl (wl_c rfl (wl_c rfl wl_n)))))) rfl (by decide) (lp3020 _ 0 H2725 0 w2726 wfr.rf ⟨by decide, by decide⟩ h3154 h3155 (by omega) (rfl) rfl)
            · refine wp_of e88 c88_55 (rw_aload_n (pc' := 56) (v := .ref r0) rfl rfl rfl ?_)
              refine wp_of e88 c88_56 (xg_R (pc' := 59) lf_4_17 w2726 g0 sh_12 (by decide) (by decide) ty_12_1 rfl rfl (fun r3156 q3157 g3158 => ?_))
              refine wp_of e88 c88_59 (rw_iload (pc' := 61) (z := v2724) rfl rfl ?_)
              refine wp_of e88 c88_61 (xa_R (pc' := 62) (by decide) w2726 g3158 sh_14 (by decide) (ty_14 _) (b2728.1) (by omega) rfl (fun r3159 q3160 g3161 => ?_))
              refine wp_of e88 c88_62 (rw_aload_n (pc' := 63) (v := .ref r2) rfl rfl rfl ?_)
              refine wp_of e88 c88_63 (rw_iload (pc' := 65) (z := v2724) rfl rfl ?_)
              have h3162 : WP0 T H2725 r2 (d 0 3) (xlot d a3) := (WP0_fr hW g2 f2727 rfl h2086)
              refine wp_of e88 c88_65 (xc_V (pc' := 68) (r := r2) (as := [vI v2724]) (st := [.ref r3159]) (lm_4_82) rfl rfl (Nat.le_of_ble_eq_true rfl) w2726 g2 sh_6 (by decide) rfl (by decide) (u_89 (d := d) (g := ((xlot d a3))) w2726 g2 ⟨b2728.1, by omega⟩ (by omega) h3162) (fun R3163 T3164 H3165 p3166 => ?_))
              obtain ⟨e3167, e3169, z3170, e3168, b3171, p3172⟩ := p3166
              subst e3167
              subst e3168
              subst e3169
              show wp _ _ 88 68 [(6, vI v2724), (4, vL v2332), (0, .ref r0), (1, .ref r1), (2, .ref r2), (3, vI a3)] [vI z3170, .ref r3159] _ H2725 _
              refine wp_of e88 c88_68 (rw_dup2 (pc' := 69) rfl rfl rfl ?_)
              have _hl : H2725 r3159 (z3170).toNat = xhv e d (a3).toNat (v2724).toNat (v2724).toNat (z3170).toNat := h2730 _ _ (v2724).toNat (z3170).toNat q3157 (by omega) (by omega) (by omega) q3160
              have _hb := xhv_b (N := (a3).toNat) (e := e) (d := d) (j := (v2724).toNat) (p := (v2724).toNat) (i := (z3170).toNat)
              refine wp_of e88 c88_69 (xa_I (so := 0) (pc' := 70) w2726 g3161 sh_15 (by decide) (ty_15 _) (b3171.1) (Int.lt_of_le_of_lt b3171.2 (by decide)) rfl (fun b3174 b3175 => ?_))
              refine wp_of e88 c88_70 (rw_iconst (pc' := 71) rfl ?_)
              refine wp_of e88 c88_71 (rw_iaddw (pc' := 72) rfl ?_)
              obtain ⟨v3176, e3177⟩ : ∃ x : Int, x = wq_w ((H2725 r3159 (z3170.toNat)) + 1) := ⟨_, rfl⟩
              rw [← e3177]
              have b3178 : -2147483648 ≤ v3176 ∧ v3176 ≤ 2147483647 := by
                rw [e3177]
                exact wI_w _
              have b3179 : (-2147483648 ≤ (H2725 r3159 (z3170.toNat)) + 1 ∧ (H2725 r3159 (z3170.toNat)) + 1 ≤ 2147483647) → v3176 = (H2725 r3159 (z3170.toNat)) + 1 := fun h => by rw [e3177]; exact wq_w_id h
              have _hs := xhv_s (e := e) (d := d) (N := (a3).toNat) _fp (j := (v2724).toNat) (k := (z3170).toNat) (z := v3176) (by omega) (by rw [_na]; omega)
              have h3180 : HDR T H2725 r0  := (HDR_fr hW g0 f2727 rfl hHDR_r0)
              refine wp_of e88 c88_72 (xs_I (pc' := 73) w2726 g3161 (by decide) sh_15 (by decide) (ty_15 _) (b3178.1) (b3178.2) ⟨b3178.1, b3178.2⟩ (b3171.1) (Int.lt_of_le_of_lt b3171.2 (by decide)) rfl (fun H3181 e3182 w3183 => ?_))
              have f3184 := f2733.put' e3182 g3161 rfl
              have f3185 := f2727.put' e3182 g3161 rfl
              have h3186 : HV1 T H3181 r0 (d 0 3) (xhv e d (a3).toNat (v2724 + 1).toNat) := by
                rw [show (v2724 + 1).toNat = (v2724).toNat + 1 by omega]
                exact HV_put h2730 (h3180).1 g0 q3157 q3160 g3161 (p0 := (v2724).toNat) (by omega) (by decide) (by decide) e3182 _hs.1 _hs.2
              refine wp_of e88 c88_73 (rw_aload_n (pc' := 74) (v := .ref r0) rfl rfl rfl ?_)
              refine wp_of e88 c88_74 (xg_R (pc' := 77) lf_4_22 w3183 g0 sh_12 (by decide) (by decide) ty_12_2 rfl rfl (fun r3187 q3188 g3189 => ?_))
              refine wp_of e88 c88_77 (rw_iload (pc' := 79) (z := v2724) rfl rfl ?_)
              refine wp_of e88 c88_79 (xa_R (pc' := 80) (by decide) w3183 g3189 sh_16 (by decide) (ty_16 _) (b2728.1) (by omega) rfl (fun r3190 q3191 g3192 => ?_))
              refine wp_of e88 c88_80 (rw_aload_n (pc' := 81) (v := .ref r2) rfl rfl rfl ?_)
              refine wp_of e88 c88_81 (rw_iload (pc' := 83) (z := v2724) rfl rfl ?_)
              have h3193 : WP0 T H3181 r2 (d 0 3) (xlot d a3) := (WP0_fr w2726 g2 ((wfr.rf (l := [(15, 999)])).put' e3182 g3161 rfl) rfl h3162)
              refine wp_of e88 c88_83 (xc_V (pc' := 86) (r := r2) (as := [vI v2724]) (st := [.ref r3190]) (lm_4_82) rfl rfl (Nat.le_of_ble_eq_true rfl) w3183 g2 sh_6 (by decide) rfl (by decide) (u_89 (d := d) (g := ((xlot d a3))) w3183 g2 ⟨b2728.1, by omega⟩ (by omega) h3193) (fun R3194 T3195 H3196 p3197 => ?_))
              obtain ⟨e3198, e3200, z3201, e3199, b3202, p3203⟩ := p3197
              subst e3198
              subst e3199
              subst e3200
              show wp _ _ 88 86 [(6, vI v2724), (4, vL v2332), (0, .ref r0), (1, .ref r1), (2, .ref r2), (3, vI a3)] [vI z3201, .ref r3190] _ H3181 _
              refine wp_of e88 c88_86 (rw_dup2 (pc' := 87) rfl rfl rfl ?_)
              have h3205 : HV2 T H3181 r0 (d 0 3) (xwv e d (a3).toNat (v2724).toNat) := (HV2_fr w2726 g0 ((wfr.rf (l := [(15, 999)])).put' e3182 g3161 rfl) rfl h2731)
              have _hl : H3181 r3190 (z3201).toNat = xwv e d (a3).toNat (v2724).toNat (v2724).toNat (z3201).toNat := h3205 _ _ (v2724).toNat (z3201).toNat q3188 (by omega) (by omega) (by omega) q3191
              have _hb := xwv_b (N := (a3).toNat) (e := e) (d := d) (j := (v2724).toNat) (p := (v2724).toNat) (i := (z3201).toNat) (by omega)
              refine wp_of e88 c88_87 (xa_L (pc' := 88) w3183 g3192 sh_17 (by decide) (ty_17 _) (b3202.1) (Int.lt_of_le_of_lt b3202.2 (by decide)) rfl (fun b3206 b3207 => ?_))
              refine wp_of e88 c88_88 (rw_lload (pc' := 90) (z := v2332) rfl rfl ?_)
              refine wp_of e88 c88_90 (rw_laddw (pc' := 91) rfl ?_)
              obtain ⟨v3208, e3209⟩ : ∃ x : Int, x = wl_w ((H3181 r3190 (z3201.toNat)) + v2332) := ⟨_, rfl⟩
              rw [← e3209]
              have b3210 : -9223372036854775808 ≤ v3208 ∧ v3208 ≤ 9223372036854775807 := by
                rw [e3209]
                exact wL_w _
              have b3211 : (-9223372036854775808 ≤ (H3181 r3190 (z3201.toNat)) + v2332 ∧ (H3181 r3190 (z3201.toNat)) + v2332 ≤ 9223372036854775807) → v3208 = (H3181 r3190 (z3201.toNat)) + v2332 := fun h => by rw [e3209]; exact wl_w_id h
              have _hs := xwv_s (e := e) (d := d) (N := (a3).toNat) _fp (j := (v2724).toNat) (k := (z3201).toNat) (z := v3208) (by omega) (by rw [_na]; omega)
              have h3212 : HDR T H3181 r0  := (HDR_fr w2726 g0 ((wfr.rf (l := [(15, 999)])).put' e3182 g3161 rfl) rfl h3180)
              refine wp_of e88 c88_91 (xs_L (pc' := 92) w3183 g3192 (by decide) sh_17 (by decide) (ty_17 _) (b3210.1) (b3210.2) ⟨b3210.1, b3210.2⟩ (b3202.1) (Int.lt_of_le_of_lt b3202.2 (by decide)) rfl (fun H3213 e3214 w3215 => ?_))
              have f3216 := f3184.put' e3214 g3192 rfl
              have f3217 := f3185.put' e3214 g3192 rfl
              have h3218 : HV2 T H3213 r0 (d 0 3) (xwv e d (a3).toNat (v2724 + 1).toNat) := by
                rw [show (v2724 + 1).toNat = (v2724).toNat + 1 by omega]
                exact HV_put h3205 (h3212).2 g0 q3188 q3191 g3192 (p0 := (v2724).toNat) (by omega) (by decide) (by decide) e3214 _hs.1 _hs.2
              refine wp_of e88 c88_92 (rw_iinc (pc' := 95) (z := v2724) (L' := [(6, vI (v2724 + 1)), (4, vL v2332), (0, .ref r0), (1, .ref r1), (2, .ref r2), (3, vI a3)]) rfl rfl rfl rfl ?_)
              refine wp_of e88 c88_95 (rw_goto (p1 := 46) (by decide) ?_)
              have h3219 : HV1 T H3213 r0 (d 0 3) (xhv e d (a3).toNat (v2724 + 1).toNat) := (HV1_fr w3183 g0 ((wfr.rf (l := [(17, 999)])).put' e3214 g3192 rfl) rfl h3186)
              exact wp_lc (ks := [6, 4, 0, 1, 2, 3]) (wl_c rfl (wl_c rfl (wl_c rfl (wl_c rfl (wl_c rfl (wl_c rfl wl_n)))))) rfl (by decide) (ih2723 _ (by omega) (v2724 + 1) H3213 w3215 f3217 ⟨by omega, by omega⟩ h3219 h3218 (by omega) rfl)
        exact wp_lc (ks := [6, 4, 0, 1, 2, 3]) (wl_c rfl (wl_c rfl (wl_c rfl (wl_c rfl (wl_c rfl (wl_c rfl wl_n)))))) rfl (by decide) (lp2721 _ 0 H hW wfr.rf ⟨by decide, by decide⟩ h2087 h2088 (by omega) rfl)
      · refine wp_of e88 c88_15 (rw_lload (pc' := 17) (z := v2332) rfl rfl ?_)
        refine wp_of e88 c88_17 (rw_aload_n (pc' := 18) (v := .ref r1) rfl rfl rfl ?_)
        refine wp_of e88 c88_18 (xg_R (pc' := 21) lf_4_78 hW g1 sh_27 (by decide) (by decide) ty_27_0 rfl rfl (fun r3220 q3221 g3222 => ?_))
        refine wp_of e88 c88_21 (rw_iload (pc' := 23) (z := v2331) rfl rfl ?_)
        refine wp_of e88 c88_23 (xa_R (pc' := 24) (by decide) hW g3222 sh_28 (by decide) (ty_28 _) (b2335.1) (by omega) rfl (fun r3223 q3224 g3225 => ?_))
        have _z := CS_at (hCU_r1).2.1 q3221 q3224 (k := (v2331).toNat) (by omega) (by omega)
        have _l := @xsp_len d (v2331).toNat (hCU_r1).2.1.1
        have h3226 : PS T H r3223 d (v2331).toNat (xsp d (v2331).toNat) := _z.1
        have _n := h3226.1
        have _f := DQ_at (hCU_r1).1.2.1 q3221 q3224 (k := (v2331).toNat) (by omega)
        have _h : H r3223 11 = d 6 (v2331).toNat := by
          rw [← congrFun (p0 6 (by decide)) (v2331).toNat]
          exact _f.2.2.2.2.2.1
        refine wp_of e88 c88_24 (rw_aload_n (pc' := 25) (v := .ref r2) rfl rfl rfl ?_)
        refine wp_of e88 c88_25 (rw_iload (pc' := 27) (z := v2331) rfl rfl ?_)
        refine wp_of e88 c88_27 (xc_V (pc' := 30) (r := r2) (as := [vI v2331]) (st := [.ref r3223, vL v2332]) (lm_4_82) rfl rfl (Nat.le_of_ble_eq_true rfl) hW g2 sh_6 (by decide) rfl (by decide) (u_89 (d := d) (g := ((xlot d a3))) hW g2 ⟨b2335.1, by omega⟩ (by omega) h2086) (fun R3227 T3228 H3229 p3230 => ?_))
        obtain ⟨e3231, e3233, z3234, e3232, b3235, p3236⟩ := p3230
        subst e3231
        subst e3232
        subst e3233
        show wp _ _ 88 30 [(6, vI v2331), (4, vL v2332), (0, .ref r0), (1, .ref r1), (2, .ref r2), (3, vI a3)] [vI z3234, .ref r3223, vL v2332] _ H _
        have _sl := xlot_b (k := (v2331).toNat) (n := a3) p1.1 (by omega) (by omega) (by omega)
        refine wp_of e88 c88_30 (xc_V (pc' := 33) (r := r3223) (as := [vI z3234]) (st := [vL v2332]) (lm_4_86) rfl rfl (Nat.le_of_ble_eq_true rfl) hW g3225 sh_35 (by decide) rfl (by decide) (u_58 (d := d) (k := ((v2331).toNat)) (P := ((xsp d (v2331).toNat))) (h := ((d 6 (v2331).toNat))) hW g3225 ⟨b3235.1, b3235.2⟩ (by omega) (by omega) h3226) (fun R3238 T3239 H3240 p3241 => ?_))
        obtain ⟨e3242, e3244, z3245, e3243, b3246, p3247⟩ := p3241
        subst e3242
        subst e3243
        subst e3244
        show wp _ _ 88 33 [(6, vI v2331), (4, vL v2332), (0, .ref r0), (1, .ref r1), (2, .ref r2), (3, vI a3)] [vI z3245, vL v2332] _ H _
        have _we : z3245 = xwe (d 6 (v2331).toNat) (xpt d (xlot d a3) (v2331).toNat).1 := by
          unfold xpt
          rw [show xlot d a3 (v2331).toNat = z3234 by omega]
          exact xwe_e (by assumption)
        refine wp_of e88 c88_33 (rw_i2l (pc' := 34) rfl ⟨Int.le_trans (by decide) b3246.1, Int.le_trans b3246.2 (by decide)⟩ ?_)
        refine wp_of e88 c88_34 (rw_lmul (pc' := 35) rfl ?_)
        obtain ⟨v3249, e3250⟩ : ∃ x : Int, x = v2332 * z3245 := ⟨_, rfl⟩
        rw [← e3250]
        have b3251 : 0 ≤ v3249 ∧ v3249 ≤ 10000000 := by
          rw [e3250]
          exact wl_mul_b (a := 1000000) (b := 10) ⟨by omega, by omega⟩ ⟨by omega, by omega⟩
        have _q : v3249 = xlw d (xlot d a3) (v2331 + 1).toNat := by
          rw [show (v2331 + 1).toNat = (v2331).toNat + 1 by omega]
          exact xlw_s (w := 0) (by omega) ‹v2332 = xlw d (xlot d a3) (v2331).toNat› _we (by first | assumption | exact fun _ => by assumption)
        have _qb := @xlw_6 d (xlot d a3) (v2331 + 1).toNat (by omega)
        refine wp_of e88 c88_35 (rw_lstore (pc' := 37) (z := v3249) (L' := [(4, vL v3249), (6, vI v2331), (0, .ref r0), (1, .ref r1), (2, .ref r2), (3, vI a3)]) rfl rfl rfl ?_)
        refine wp_of e88 c88_37 (rw_iinc (pc' := 40) (z := v2331) (L' := [(6, vI (v2331 + 1)), (4, vL v3249), (0, .ref r0), (1, .ref r1), (2, .ref r2), (3, vI a3)]) rfl rfl rfl rfl ?_)
        refine wp_of e88 c88_40 (rw_goto (p1 := 6) (by decide) ?_)
        exact wp_lc (ks := [6, 4, 0, 1, 2, 3]) (wl_c rfl (wl_c rfl (wl_c rfl (wl_c rfl (wl_c rfl (wl_c rfl wl_n)))))) rfl (by decide) (ih2330 _ (by omega) (v2331 + 1) v3249 ⟨by omega, by omega⟩ ⟨by omega, by omega⟩ (by omega) (_q) rfl)
  exact wp_lc (ks := [6, 4, 0, 1, 2, 3]) (wl_c rfl (wl_c rfl (wl_c rfl (wl_c rfl (wl_c rfl (wl_c rfl wl_n)))))) rfl (by decide) (lp2328 _ 0 1 ⟨by decide, by decide⟩ ⟨by decide, by decide⟩ (by omega) (rfl) rfl)
/-! StrikeAwake$Census.clear()V  -/
abbrev uq_86 (r0 : Nat) (e : xD) (d : xD) (T : wq_T) (H : wq_H) : Option Value → wq_T → wq_H → Prop := fun r T' H' => T = T' ∧ WT T H' ∧ wfr [(12, 5), (12, 6), (12, 7), (12, 8), (15, 999), (17, 999), (13, 999)] T H H' ∧ none = r ∧ ((CEB T H' r0 e d 0 ∧ CEX T H' r0 e d 0))
set_option maxHeartbeats 4000000 in
theorem u_86 {kt : Nat → Option mc_E} {T : wq_T} {H : wq_H} {r0 : Nat} {e : xD} {d : xD} (hW : WT T H) (g0 : T.2.2.2 r0 = some 12) (hHDR_r0 : HDR T H r0 ) : wpc kt 1 86 [.ref r0] T H (uq_86 r0 e d T H) := by
  refine wp_enter e86 (Nat.le_of_ble_eq_true rfl) rfl ?_
  have f0 : wfr [(12, 5), (12, 6), (12, 7), (12, 8), (15, 999), (17, 999), (13, 999)] T H H := wfr.rf
  show wp _ _ 86 0 [(0, .ref r0)] [] _ H _
  refine wp_of e86 c86_0 (rw_iconst (pc' := 1) rfl ?_)
  refine wp_of e86 c86_1 (rw_istore_n (pc' := 2) (z := 0) (L' := [(1, vI 0), (0, .ref r0)]) rfl rfl rfl ?_)
  have lp2687 : ∀ (n2688 : Nat) (v2690 : Int) (H2691 : wq_H), WT T H2691 → wfr [(13, 999)] T H H2691 → (0 ≤ v2690 ∧ v2690 ≤ 313) → CM0 T H2691 r0 v2690 (fun _ => 0) → (313 - v2690).toNat = n2688 → wp kt 0 86 2 [(1, vI v2690), (0, .ref r0)] [] T H2691 (uq_86 r0 e d T H) := by
    intro n2688
    induction n2688 using Nat.strongRecOn with
    | _ n2688 ih2689 =>
      intro v2690 H2691 w2692 f2693 b2694 h2696 m2695
      have f2697 := f0.tr f2693 rfl
      refine wp_of e86 c86_2 (rw_iload_n (pc' := 3) (z := v2690) rfl rfl ?_)
      refine wp_of e86 c86_3 (rw_aload_n (pc' := 4) (v := .ref r0) rfl rfl rfl ?_)
      refine wp_of e86 c86_4 (xg_R (pc' := 7) lf_4_11 w2692 g0 sh_12 (by decide) (by decide) ty_12_0 rfl rfl (fun r2698 q2699 g2700 => ?_))
      refine wp_of e86 c86_7 (xa_N (pc' := 8) (n := 313) w2692 g2700 sh_13 (by decide) rfl ?_)
      refine wp_of e86 c86_8 (rw_icmp_ge (p1 := 24) (p2 := 11) (by decide) rfl ⟨Int.le_trans (by decide) b2694.1, Int.le_trans b2694.2 (by decide)⟩ ⟨by decide, by decide⟩ (fun c2701 => ?_) (fun c2701 => ?_))
      · have h2702 : CEM T H2691 r0 (xwf e d) 0 := CEM_0d h2696 (by omega)
        refine wp_of e86 c86_24 (rw_iconst (pc' := 25) rfl ?_)
        refine wp_of e86 c86_25 (rw_istore_n (pc' := 26) (z := 0) (L' := [(1, vI 0), (0, .ref r0)]) rfl rfl rfl ?_)
        have lp4040 : ∀ (n4041 : Nat) (v4043 : Int) (H4044 : wq_H), WT T H4044 → wfr [(15, 999), (17, 999)] T H2691 H4044 → (0 ≤ v4043 ∧ v4043 ≤ 6) → HZ1 T H4044 r0 (v4043) 0 → HZ2 T H4044 r0 (v4043) 0 → (6 - v4043).toNat = n4041 → wp kt 0 86 26 [(1, vI v4043), (0, .ref r0)] [] T H4044 (uq_86 r0 e d T H) := by
          intro n4041
          induction n4041 using Nat.strongRecOn with
          | _ n4041 ih4042 =>
            intro v4043 H4044 w4045 f4046 b4047 h4049 h4050 m4048
            have f4051 := f2697.tr f4046 rfl
            refine wp_of e86 c86_26 (rw_iload_n (pc' := 27) (z := v4043) rfl rfl ?_)
            refine wp_of e86 c86_27 (rw_bipush (pc' := 29) (z := 6) rfl (by decide) ?_)
            refine wp_of e86 c86_29 (rw_icmp_ge (p1 := 70) (p2 := 32) (by decide) rfl ⟨Int.le_trans (by decide) b4047.1, Int.le_trans b4047.2 (by decide)⟩ ⟨by decide, by decide⟩ (fun c4052 => ?_) (fun c4052 => ?_))
            · have h4053 : HV1 T H4044 r0 (d 0 3) (fun p i => xhc e d p i 0) := HZ_1 (by rw [show (6 : Int) = v4043 by omega]; exact h4049)
              have h4054 : HV2 T H4044 r0 (d 0 3) (fun p i => xhw e d p i 0) := HZ_2 (by rw [show (6 : Int) = v4043 by omega]; exact h4050)
              refine wp_of e86 c86_70 (rw_aload_n (pc' := 71) (v := .ref r0) rfl rfl rfl ?_)
              refine wp_of e86 c86_71 (rw_iconst (pc' := 72) rfl ?_)
              refine wp_of e86 c86_72 (xp_I (pc' := 75) lf_4_62 w4045 g0 sh_12 (by decide) (by decide) ty_12_5 rfl rfl (by decide) (by decide) ⟨by decide, by decide⟩ rfl (fun H4055 e4056 w4057 => ?_))
              have f4058 := f4051.put' e4056 g0 rfl
              have k4059 : H4055 r0 5 = 0 := wq_u_s e4056
              refine wp_of e86 c86_75 (rw_aload_n (pc' := 76) (v := .ref r0) rfl rfl rfl ?_)
              refine wp_of e86 c86_76 (rw_lconst (pc' := 77) (z := 0) rfl rfl ?_)
              refine wp_of e86 c86_77 (xp_L (pc' := 80) lf_4_66 w4057 g0 sh_12 (by decide) (by decide) ty_12_6 rfl rfl (by decide) (by decide) ⟨by decide, by decide⟩ rfl (fun H4060 e4061 w4062 => ?_))
              have f4063 := f4058.put' e4061 g0 rfl
              have k4064 : H4060 r0 6 = 0 := wq_u_s e4061
              refine wp_of e86 c86_80 (rw_aload_n (pc' := 81) (v := .ref r0) rfl rfl rfl ?_)
              refine wp_of e86 c86_81 (rw_iconst (pc' := 82) rfl ?_)
              refine wp_of e86 c86_82 (xp_I (pc' := 85) lf_4_69 w4062 g0 sh_12 (by decide) (by decide) ty_12_7 rfl rfl (by decide) (by decide) ⟨by decide, by decide⟩ rfl (fun H4065 e4066 w4067 => ?_))
              have f4068 := f4063.put' e4066 g0 rfl
              have k4069 : H4065 r0 7 = 0 := wq_u_s e4066
              refine wp_of e86 c86_85 (rw_aload_n (pc' := 86) (v := .ref r0) rfl rfl rfl ?_)
              refine wp_of e86 c86_86 (rw_lconst (pc' := 87) (z := 0) rfl rfl ?_)
              refine wp_of e86 c86_87 (xp_L (pc' := 90) lf_4_72 w4067 g0 sh_12 (by decide) (by decide) ty_12_8 rfl rfl (by decide) (by decide) ⟨by decide, by decide⟩ rfl (fun H4070 e4071 w4072 => ?_))
              have f4073 := f4068.put' e4071 g0 rfl
              have k4074 : H4070 r0 8 = 0 := wq_u_s e4071
              have k4075 : H4070 r0 5 = H4055 r0 5 := ((wq_u_j e4071 rfl).trans ((wq_u_j e4066 rfl).trans (wq_u_j e4061 rfl)))
              have k4076 : H4070 r0 6 = H4060 r0 6 := ((wq_u_j e4071 rfl).trans (wq_u_j e4066 rfl))
              have k4077 : H4070 r0 7 = H4065 r0 7 := (wq_u_j e4071 rfl)
              have h4078 : CEM T H4070 r0 (xwf e d) 0 := (CEM_fr w4067 g0 ((wfr.rf (l := [(12, 8)])).put' e4071 g0 rfl) rfl (CEM_fr w4062 g0 ((wfr.rf (l := [(12, 7)])).put' e4066 g0 rfl) rfl (CEM_fr w4057 g0 ((wfr.rf (l := [(12, 6)])).put' e4061 g0 rfl) rfl (CEM_fr w4045 g0 ((wfr.rf (l := [(12, 5)])).put' e4056 g0 rfl) rfl (CEM_fr w2692 g0 f4046 rfl h2702)))))
              have h4079 : HV1 T H4070 r0 (d 0 3) (fun p i => xhc e d p i 0) := (HV1_fr w4067 g0 ((wfr.rf (l := [(12, 8)])).put' e4071 g0 rfl) rfl (HV1_fr w4062 g0 ((wfr.rf (l := [(12, 7)])).put' e4066 g0 rfl) rfl (HV1_fr w4057 g0 ((wfr.rf (l := [(12, 6)])).put' e4061 g0 rfl) rfl (HV1_fr w4045 g0 ((wfr.rf (l := [(12, 5)])).put' e4056 g0 rfl) rfl h4053))))
              have h4080 : HV2 T H4070 r0 (d 0 3) (fun p i => xhw e d p i 0) := (HV2_fr w4067 g0 ((wfr.rf (l := [(12, 8)])).put' e4071 g0 rfl) rfl (HV2_fr w4062 g0 ((wfr.rf (l := [(12, 7)])).put' e4066 g0 rfl) rfl (HV2_fr w4057 g0 ((wfr.rf (l := [(12, 6)])).put' e4061 g0 rfl) rfl (HV2_fr w4045 g0 ((wfr.rf (l := [(12, 5)])).put' e4056 g0 rfl) rfl h4054))))
              exact wp_return e86 c86_90 rfl ⟨rfl, w4072, f4073, rfl, ⟨⟨by show _ = (0 : Int); omega, by show _ = (0 : Int); omega, by show _ = (0 : Int); omega, by show _ = (0 : Int); omega, h4078⟩, ⟨h4079, h4080, LD_0 w4072 g0 (by decide) rfl, LD_0 w4072 g0 (by decide) rfl⟩⟩⟩
            · refine wp_of e86 c86_32 (rw_iconst (pc' := 33) rfl ?_)
              refine wp_of e86 c86_33 (rw_istore_n (pc' := 34) (z := 0) (L' := [(2, vI 0), (1, vI v4043), (0, .ref r0)]) rfl rfl rfl ?_)
              have lp4265 : ∀ (n4266 : Nat) (v4268 : Int) (H4269 : wq_H), WT T H4269 → wfr [(15, 999), (17, 999)] T H4044 H4269 → (0 ≤ v4268 ∧ v4268 ≤ 40) → HZ1 T H4269 r0 (v4043) (v4268) → HZ2 T H4269 r0 (v4043) (v4268) → (40 - v4268).toNat = n4266 → wp kt 0 86 34 [(2, vI v4268), (1, vI v4043), (0, .ref r0)] [] T H4269 (uq_86 r0 e d T H) := by
                intro n4266
                induction n4266 using Nat.strongRecOn with
                | _ n4266 ih4267 =>
                  intro v4268 H4269 w4270 f4271 b4272 h4274 h4275 m4273
                  have f4276 := f4051.tr f4271 rfl
                  have f4277 := f4046.tr f4271 rfl
                  refine wp_of e86 c86_34 (rw_iload_n (pc' := 35) (z := v4268) rfl rfl ?_)
                  refine wp_of e86 c86_35 (rw_bipush (pc' := 37) (z := 40) rfl (by decide) ?_)
                  refine wp_of e86 c86_37 (rw_icmp_ge (p1 := 64) (p2 := 40) (by decide) rfl ⟨Int.le_trans (by decide) b4272.1, Int.le_trans b4272.2 (by decide)⟩ ⟨by decide, by decide⟩ (fun c4278 => ?_) (fun c4278 => ?_))
                  · have h4279 : HZ1 T H4269 r0 (v4043 + 1) 0 := HZ_row (by rw [show (40 : Int) = v4268 by omega]; exact h4274)
                    have h4280 : HZ2 T H4269 r0 (v4043 + 1) 0 := HZ_row (by rw [show (40 : Int) = v4268 by omega]; exact h4275)
                    refine wp_of e86 c86_64 (rw_iinc (pc' := 67) (z := v4043) (L' := [(1, vI (v4043 + 1)), (2, vI v4268), (0, .ref r0)]) rfl rfl rfl rfl ?_)
                    refine wp_of e86 c86_67 (rw_goto (p1 := 26) (by decide) ?_)
                    exact wp_lc (ks := [1, 2, 0]) (wl_c rfl (wl_c rfl wl_n)) rfl (by decide) (ih4042 _ (by omega) (v4043 + 1) H4269 w4270 f4277 ⟨by omega, by omega⟩ h4279 h4280 rfl)
                  · refine wp_of e86 c86_40 (rw_aload_n (pc' := 41) (v := .ref r0) rfl rfl rfl ?_)
                    refine wp_of e86 c86_41 (xg_R (pc' := 44) lf_4_17 w4270 g0 sh_12 (by decide) (by decide) ty_12_1 rfl rfl (fun r4281 q4282 g4283 => ?_))
                    refine wp_of e86 c86_44 (rw_iload_n (pc' := 45) (z := v4043) rfl rfl ?_)
                    refine wp_of e86 c86_45 (xa_R (pc' := 46) (by decide) w4270 g4283 sh_14 (by decide) (ty_14 _) (b4047.1) (by omega) rfl (fun r4284 q4285 g4286 => ?_))
                    refine wp_of e86 c86_46 (rw_iload_n (pc' := 47) (z := v4268) rfl rfl ?_)
                    refine wp_of e86 c86_47 (rw_iconst (pc' := 48) rfl ?_)
                    have h4287 : HDR T H4269 r0  := (HDR_fr w4045 g0 f4271 rfl (HDR_fr w2692 g0 f4046 rfl (HDR_fr hW g0 f2693 rfl hHDR_r0)))
                    refine wp_of e86 c86_48 (xs_I (pc' := 49) w4270 g4286 (by decide) sh_15 (by decide) (ty_15 _) (by decide) (by decide) ⟨by decide, by decide⟩ (b4272.1) (by omega) rfl (fun H4288 e4289 w4290 => ?_))
                    have f4291 := f4276.put' e4289 g4286 rfl
                    have f4292 := f4277.put' e4289 g4286 rfl
                    have f4293 := f4271.put' e4289 g4286 rfl
                    have h4294 : HZ1 T H4288 r0 (v4043) (v4268 + 1) := HZ_put h4274 (h4287).1 g0 q4282 q4285 g4286 (p0 := (v4043).toNat) (by omega) (by decide) (by decide) e4289 (by omega) (by omega)
                    refine wp_of e86 c86_49 (rw_aload_n (pc' := 50) (v := .ref r0) rfl rfl rfl ?_)
                    refine wp_of e86 c86_50 (xg_R (pc' := 53) lf_4_22 w4290 g0 sh_12 (by decide) (by decide) ty_12_2 rfl rfl (fun r4295 q4296 g4297 => ?_))
                    refine wp_of e86 c86_53 (rw_iload_n (pc' := 54) (z := v4043) rfl rfl ?_)
                    refine wp_of e86 c86_54 (xa_R (pc' := 55) (by decide) w4290 g4297 sh_16 (by decide) (ty_16 _) (b4047.1) (by omega) rfl (fun r4298 q4299 g4300 => ?_))
                    refine wp_of e86 c86_55 (rw_iload_n (pc' := 56) (z := v4268) rfl rfl ?_)
                    refine wp_of e86 c86_56 (rw_lconst (pc' := 57) (z := 0) rfl rfl ?_)
                    have h4301 : HZ2 T H4288 r0 (v4043) (v4268) := (HZ2_fr w4270 g0 ((wfr.rf (l := [(15, 999)])).put' e4289 g4286 rfl) rfl h4275)
                    have h4302 : HDR T H4288 r0  := (HDR_fr w4270 g0 ((wfr.rf (l := [(15, 999)])).put' e4289 g4286 rfl) rfl h4287)
                    refine wp_of e86 c86_57 (xs_L (pc' := 58) w4290 g4300 (by decide) sh_17 (by decide) (ty_17 _) (by decide) (by decide) ⟨by decide, by decide⟩ (b4272.1) (by omega) rfl (fun H4303 e4304 w4305 => ?_))
                    have f4306 := f4291.put' e4304 g4300 rfl
                    have f4307 := f4292.put' e4304 g4300 rfl
                    have f4308 := f4293.put' e4304 g4300 rfl
                    have h4309 : HZ2 T H4303 r0 (v4043) (v4268 + 1) := HZ_put h4301 (h4302).2 g0 q4296 q4299 g4300 (p0 := (v4043).toNat) (by omega) (by decide) (by decide) e4304 (by omega) (by omega)
                    refine wp_of e86 c86_58 (rw_iinc (pc' := 61) (z := v4268) (L' := [(2, vI (v4268 + 1)), (1, vI v4043), (0, .ref r0)]) rfl rfl rfl rfl ?_)
                    refine wp_of e86 c86_61 (rw_goto (p1 := 34) (by decide) ?_)
                    have h4310 : HZ1 T H4303 r0 (v4043) (v4268 + 1) := (HZ1_fr w4290 g0 ((wfr.rf (l := [(17, 999)])).put' e4304 g4300 rfl) rfl h4294)
                    exact wp_lc (ks := [2, 1, 0]) (wl_c rfl (wl_c rfl (wl_c rfl wl_n))) rfl (by decide) (ih4267 _ (by omega) (v4268 + 1) H4303 w4305 f4308 ⟨by omega, by omega⟩ h4310 h4309 rfl)
              exact wp_lc (ks := [2, 1, 0]) (wl_c rfl (wl_c rfl (wl_c rfl wl_n))) rfl (by decide) (lp4265 _ 0 H4044 w4045 wfr.rf ⟨by decide, by decide⟩ h4049 h4050 rfl)
        have h4311 : HZ1 T H2691 r0 (0) 0 := HZ_0
        have h4312 : HZ2 T H2691 r0 (0) 0 := HZ_0
        exact wp_lc (ks := [1, 0]) (wl_c rfl (wl_c rfl wl_n)) rfl (by decide) (lp4040 _ 0 H2691 w2692 wfr.rf ⟨by decide, by decide⟩ h4311 h4312 rfl)
      · refine wp_of e86 c86_11 (rw_aload_n (pc' := 12) (v := .ref r0) rfl rfl rfl ?_)
        refine wp_of e86 c86_12 (xg_K (pc' := 15) lf_4_11 w2692 g0 sh_12 (by decide) (by decide) rfl q2699 rfl ?_)
        refine wp_of e86 c86_15 (rw_iload_n (pc' := 16) (z := v2690) rfl rfl ?_)
        refine wp_of e86 c86_16 (rw_lconst (pc' := 17) (z := 0) rfl rfl ?_)
        refine wp_of e86 c86_17 (xs_L (pc' := 18) w2692 g2700 (by decide) sh_13 (by decide) (ty_13 _) (by decide) (by decide) ⟨by decide, by decide⟩ (b2694.1) (by omega) rfl (fun H4313 e4314 w4315 => ?_))
        have f4316 := f2697.put' e4314 g2700 rfl
        have f4317 := f2693.put' e4314 g2700 rfl
        have h4318 : CM0 T H4313 r0 (v2690 + 1) (fun _ => 0) := DAo_put h2696 q2699 g0 g2700 (by decide) e4314 (k := (v2690.toNat)) (by omega) rfl rfl (fun _ _ => rfl)
        refine wp_of e86 c86_18 (rw_iinc (pc' := 21) (z := v2690) (L' := [(1, vI (v2690 + 1)), (0, .ref r0)]) rfl rfl rfl rfl ?_)
        refine wp_of e86 c86_21 (rw_goto (p1 := 2) (by decide) ?_)
        exact wp_lc (ks := [1, 0]) (wl_c rfl (wl_c rfl wl_n)) rfl (by decide) (ih2689 _ (by omega) (v2690 + 1) H4313 w4315 f4317 ⟨by omega, by omega⟩ h4318 rfl)
  have h4319 : CM0 T H r0 0 (fun _ => 0) := DAo_0 (hW.ref g0 (n := 10) (p := 0) (q := 0) rfl (by decide) rfl) (Int.le_refl _)
  exact wp_lc (ks := [1, 0]) (wl_c rfl (wl_c rfl wl_n)) rfl (by decide) (lp2687 _ 0 H hW wfr.rf ⟨by decide, by decide⟩ h4319 rfl)
/-! StrikeAwake$Census.renew(LStrikeAwake$Parish;LStrikeAwake$Walk;)V  -/
abbrev uq_85 (r0 : Nat) (r1 : Nat) (r2 : Nat) (e : xD) (d : xD) (n : Int) (T : wq_T) (H : wq_H) : Option Value → wq_T → wq_H → Prop := fun r T' H' => T = T' ∧ WT T H' ∧ wfr [(12, 5), (12, 6), (12, 7), (12, 8), (12, 9), (6, 5), (8, 999), (10, 999), (15, 999), (9, 999), (18, 999), (19, 999), (7, 999), (11, 999), (17, 999), (13, 999)] T H H' ∧ none = r ∧ (((H' r0 9 ≠ 0) ∧ CEB T H' r0 e d (xlots d).toNat ∧ CEX T H' r0 e d (xlots d).toNat ∧ CEN T H' r0 e d))
set_option maxHeartbeats 4000000 in
theorem u_85 {kt : Nat → Option mc_E} {T : wq_T} {H : wq_H} {r0 : Nat} {r1 : Nat} {r2 : Nat} {e : xD} {d : xD} {n : Int} (hW : WT T H) (g0 : T.2.2.2 r0 = some 12) (g1 : T.2.2.2 r1 = some 27) (g2 : T.2.2.2 r2 = some 6) (p0 : ∀ i, i ≠ 13 → e i = d i) (p1 : XW d) (p2 : e 0 3 = d 0 3) (p3 : e 0 0 = d 0 0) (p4 : n = xlots d) (p5 : n ≤ 20000) (hCU_r1 : CU T H r1 e d n) (hCEN_r0 : CEN T H r0 e d) (hHDR_r0 : HDR T H r0 ) : wpc kt 4 85 [.ref r0, .ref r1, .ref r2] T H (uq_85 r0 r1 r2 e d n T H) := by
  refine wp_enter e85 (Nat.le_of_ble_eq_true rfl) rfl ?_
  have f0 : wfr [(12, 5), (12, 6), (12, 7), (12, 8), (12, 9), (6, 5), (8, 999), (10, 999), (15, 999), (9, 999), (18, 999), (19, 999), (7, 999), (11, 999), (17, 999), (13, 999)] T H H := wfr.rf
  show wp _ _ 85 0 [(0, .ref r0), (1, .ref r1), (2, .ref r2)] [] _ H _
  have u1515 := CU_k hCU_r1
  have b1516 : (-9223372036854775808) ≤ H r1 18 ∧ H r1 18 ≤ 9223372036854775807 := hW.box g1 (n := 19) rfl (by decide) rfl
  have b1517 : 0 ≤ H r0 9 ∧ H r0 9 ≤ 1 := hW.box g0 (n := 10) rfl (by decide) rfl
  have _k := CU_k hCU_r1
  have _xc := p1.2.1
  unfold XC at _xc
  have _d0 := p0 0 (by decide)
  have _e3 : e 0 3 = d 0 3 := by rw [_d0]
  have _e4 : e 0 4 = d 0 4 := by rw [_d0]
  have _e5 : e 0 5 = d 0 5 := by rw [_d0]
  have _c18 := hCU_r1.2.2
  have _x0 : 0 ≤ xlots d := (xpr_b hCU_r1.2.1.1 _ _).1
  refine wp_of e85 c85_0 (rw_aload_n (pc' := 1) (v := .ref r0) rfl rfl rfl ?_)
  refine wp_of e85 c85_1 (xg_I (pc' := 4) lf_4_32 hW g0 sh_12 (by decide) (by decide) ty_12_9 rfl rfl (fun b1518 b1519 => ?_))
  refine wp_of e85 c85_4 (rw_if_eq (p1 := 8) (p2 := 7) (by decide) rfl ⟨Int.le_trans (by decide) b1518, Int.le_trans b1519 (by decide)⟩ (fun c1520 => ?_) (fun c1520 => ?_))
  · refine wp_of e85 c85_8 (rw_aload_n (pc' := 9) (v := .ref r0) rfl rfl rfl ?_)
    refine wp_of e85 c85_9 (xc_V (pc' := 12) (r := r0) (as := []) (st := []) (lm_4_36) rfl rfl (Nat.le_of_ble_eq_true rfl) hW g0 sh_12 (by decide) rfl (by decide) (u_86 (e := e) (d := d) hW g0 hHDR_r0) (fun R1521 T1522 H1523 p1524 => ?_))
    obtain ⟨e1525, w1527, f1528, e1526, p1529⟩ := p1524
    subst e1525
    subst e1526
    obtain ⟨a1530, a1531⟩ := p1529
    have f1532 := f0.tr f1528 rfl
    show wp _ _ 85 12 [(0, .ref r0), (1, .ref r1), (2, .ref r2)] [] _ H1523 _
    refine wp_of e85 c85_12 (rw_aload_n (pc' := 13) (v := .ref r2) rfl rfl rfl ?_)
    refine wp_of e85 c85_13 (rw_aload_n (pc' := 14) (v := .ref r1) rfl rfl rfl ?_)
    have h1533 : CU T H1523 r1 e d n := (CU_fr hW g1 f1528 rfl hCU_r1)
    refine wp_of e85 c85_14 (xc_V (pc' := 17) (r := r2) (as := [.ref r1]) (st := []) (lm_4_39) rfl rfl (Nat.le_of_ble_eq_true rfl) w1527 g2 sh_6 (by decide) rfl (by decide) (u_87 (e := e) (d := d) (n := n) w1527 g2 g1 (by assumption) (by assumption) (by omega) h1533) (fun R1534 T1535 H1536 p1537 => ?_))
    obtain ⟨e1538, w1540, f1541, e1539, p1542⟩ := p1537
    subst e1538
    subst e1539
    have f1544 := f1532.tr f1541 rfl
    show wp _ _ 85 17 [(0, .ref r0), (1, .ref r1), (2, .ref r2)] [] _ H1536 _
    have h1545 : CEB T H1536 r0 e d 0 := (CEB_fr w1527 g0 f1541 rfl a1530)
    have h1546 : CEB T H1536 r0 e d ((0 : Int)).toNat := h1545
    have h1547 : CEX T H1536 r0 e d 0 := (CEX_fr w1527 g0 f1541 rfl a1531)
    have h1548 : CEX T H1536 r0 e d ((0 : Int)).toNat := h1547
    refine wp_of e85 c85_17 (rw_iconst (pc' := 18) rfl ?_)
    refine wp_of e85 c85_18 (rw_istore_n (pc' := 19) (z := 0) (L' := [(3, vI 0), (0, .ref r0), (1, .ref r1), (2, .ref r2)]) rfl rfl rfl ?_)
    have k1978 : H1536 r1 18 = H r1 18 := ((f1541 r1 18 _ g1 rfl).trans (f1528 r1 18 _ g1 rfl))
    have lp1973 : ∀ (n1974 : Nat) (v1976 : Int) (H1977 : wq_H), WT T H1977 → wfr [(12, 5), (12, 6), (12, 7), (12, 8), (8, 999), (10, 999), (15, 999), (9, 999), (18, 999), (19, 999), (7, 999), (11, 999), (17, 999), (13, 999)] T H1536 H1977 → (0 ≤ v1976 ∧ v1976 ≤ 20000) → CEB T H1977 r0 e d (v1976).toNat → CEX T H1977 r0 e d (v1976).toNat → WRc T H1977 r2 d (xlot d v1976) → (v1976 ≤ xlots d) → (20000 - v1976).toNat = n1974 → wp kt 3 85 19 [(3, vI v1976), (0, .ref r0), (1, .ref r1), (2, .ref r2)] [] T H1977 (uq_85 r0 r1 r2 e d n T H) := by
      intro n1974
      induction n1974 using Nat.strongRecOn with
      | _ n1974 ih1975 =>
        intro v1976 H1977 w1979 f1980 b1981 h1983 h1984 h1985 x1986 m1982
        have f1987 := f1544.tr f1980 rfl
        have k1988 : H1977 r1 18 = H1536 r1 18 := (f1980 r1 18 _ g1 rfl)
        refine wp_of e85 c85_19 (rw_iload_n (pc' := 20) (z := v1976) rfl rfl ?_)
        refine wp_of e85 c85_20 (rw_i2l (pc' := 21) rfl ⟨Int.le_trans (by decide) b1981.1, Int.le_trans b1981.2 (by decide)⟩ ?_)
        refine wp_of e85 c85_21 (rw_aload_n (pc' := 22) (v := .ref r1) rfl rfl rfl ?_)
        refine wp_of e85 c85_22 (xg_L (pc' := 25) lf_4_45 w1979 g1 sh_27 (by decide) (by decide) ty_27_18 rfl rfl (fun b1989 b1990 => ?_))
        refine wp_of e85 c85_25 (rw_lcmp (pc' := 26) rfl ⟨Int.le_trans (by decide) b1981.1, Int.le_trans b1981.2 (by decide)⟩ ⟨b1989, b1990⟩ ?_)
        have b1991 := wq_cmp_b v1976 (H1977 r1 18)
        refine wp_of e85 c85_26 (rw_if_ge (p1 := 62) (p2 := 29) (by decide) rfl ⟨by omega, by omega⟩ (fun c1992 => ?_) (fun c1992 => ?_))
        · have h1993 : CEB T H1977 r0 e d (xlots d).toNat := by rw [show (xlots d).toNat = (v1976).toNat by omega]; exact h1983
          have h1994 : CEX T H1977 r0 e d (xlots d).toNat := by rw [show (xlots d).toNat = (v1976).toNat by omega]; exact h1984
          refine wp_of e85 c85_62 (rw_aload_n (pc' := 63) (v := .ref r0) rfl rfl rfl ?_)
          refine wp_of e85 c85_63 (rw_iconst (pc' := 64) rfl ?_)
          refine wp_of e85 c85_64 (xp_Z (pc' := 67) lf_4_32 w1979 g0 sh_12 (by decide) (by decide) ty_12_9 rfl rfl (by decide) (by decide) rfl (fun H1995 e1996 w1997 => ?_))
          have f1998 := f1987.put' e1996 g0 rfl
          have k1999 : H1995 r0 9 = 1 := wq_u_s e1996
          have h2000 : CEB T H1995 r0 e d (xlots d).toNat := (CEB_fr w1979 g0 ((wfr.rf (l := [(12, 9)])).put' e1996 g0 rfl) rfl h1993)
          have h2001 : CEX T H1995 r0 e d (xlots d).toNat := (CEX_fr w1979 g0 ((wfr.rf (l := [(12, 9)])).put' e1996 g0 rfl) rfl h1994)
          exact wp_return e85 c85_67 rfl ⟨rfl, w1997, f1998, rfl, ⟨by omega, h2000, h2001, Or.inr ⟨by omega, h2000, h2001⟩⟩⟩
        · refine wp_of e85 c85_29 (rw_iload_n (pc' := 30) (z := v1976) rfl rfl ?_)
          refine wp_of e85 c85_30 (rw_sipush (pc' := 33) (z := 20000) rfl (by decide) ?_)
          refine wp_of e85 c85_33 (rw_icmp_ge (p1 := 62) (p2 := 36) (by decide) rfl ⟨Int.le_trans (by decide) b1981.1, Int.le_trans b1981.2 (by decide)⟩ ⟨by decide, by decide⟩ (fun c2002 => ?_) (fun c2002 => ?_))
          · have h2003 : CEB T H1977 r0 e d (xlots d).toNat := by rw [show (xlots d).toNat = (v1976).toNat by omega]; exact h1983
            have h2004 : CEX T H1977 r0 e d (xlots d).toNat := by rw [show (xlots d).toNat = (v1976).toNat by omega]; exact h1984
            refine wp_of e85 c85_62 (rw_aload_n (pc' := 63) (v := .ref r0) rfl rfl rfl ?_)
            refine wp_of e85 c85_63 (rw_iconst (pc' := 64) rfl ?_)
            refine wp_of e85 c85_64 (xp_Z (pc' := 67) lf_4_32 w1979 g0 sh_12 (by decide) (by decide) ty_12_9 rfl rfl (by decide) (by decide) rfl (fun H2005 e2006 w2007 => ?_))
            have f2008 := f1987.put' e2006 g0 rfl
            have k2009 : H2005 r0 9 = 1 := wq_u_s e2006
            have h2010 : CEB T H2005 r0 e d (xlots d).toNat := (CEB_fr w1979 g0 ((wfr.rf (l := [(12, 9)])).put' e2006 g0 rfl) rfl h2003)
            have h2011 : CEX T H2005 r0 e d (xlots d).toNat := (CEX_fr w1979 g0 ((wfr.rf (l := [(12, 9)])).put' e2006 g0 rfl) rfl h2004)
            exact wp_return e85 c85_67 rfl ⟨rfl, w2007, f2008, rfl, ⟨by omega, h2010, h2011, Or.inr ⟨by omega, h2010, h2011⟩⟩⟩
          · have h2012 : WR T H1977 r2 d (xlot d v1976) := WRc_at h1985 (by omega)
            refine wp_of e85 c85_36 (rw_aload_n (pc' := 37) (v := .ref r2) rfl rfl rfl ?_)
            refine wp_of e85 c85_37 (rw_aload_n (pc' := 38) (v := .ref r1) rfl rfl rfl ?_)
            have h2013 : CU T H1977 r1 e d n := (CU_fr w1540 g1 f1980 rfl (CU_fr w1527 g1 f1541 rfl h1533))
            refine wp_of e85 c85_38 (xc_V (pc' := 41) (r := r2) (as := [.ref r1]) (st := []) (lm_4_51) rfl rfl (Nat.le_of_ble_eq_true rfl) w1979 g2 sh_6 (by decide) rfl (by decide) (u_79 (e := e) (d := d) (n := n) (g := ((xlot d v1976))) w1979 g2 g1 (by assumption) (by assumption) (by omega) (by omega) h2013 h2012) (fun R2014 T2015 H2016 p2017 => ?_))
            obtain ⟨e2018, e2020, z2021, e2019, b2022, p2023⟩ := p2017
            subst e2018
            subst e2019
            subst e2020
            show wp _ _ 85 41 [(3, vI v1976), (0, .ref r0), (1, .ref r1), (2, .ref r2)] [vI z2021] _ H1977 _
            refine wp_of e85 c85_41 (rw_if_eq (p1 := 51) (p2 := 44) (by decide) rfl ⟨Int.le_trans (by decide) b2022.1, Int.le_trans b2022.2 (by decide)⟩ (fun c2025 => ?_) (fun c2025 => ?_))
            · have h2026 : CEB T H1977 r0 e d (v1976 + 1).toNat := CEB_n (by omega) (by omega) h1983
              have h2027 : CEX T H1977 r0 e d (v1976 + 1).toNat := by
                rw [show (v1976 + 1).toNat = (v1976).toNat + 1 by omega]
                exact CEX_n (by rw [xwf_v (by omega)]; omega) h1984
              refine wp_of e85 c85_51 (rw_aload_n (pc' := 52) (v := .ref r2) rfl rfl rfl ?_)
              refine wp_of e85 c85_52 (rw_aload_n (pc' := 53) (v := .ref r1) rfl rfl rfl ?_)
              refine wp_of e85 c85_53 (xc_V (pc' := 56) (r := r2) (as := [.ref r1]) (st := []) (lm_4_59) rfl rfl (Nat.le_of_ble_eq_true rfl) w1979 g2 sh_6 (by decide) rfl (by decide) (u_91 (e := e) (d := d) (n := n) (a := v1976) w1979 g2 g1 (by assumption) (by assumption) (by omega) (by omega) (by omega) h2013 h2012) (fun R2028 T2029 H2030 p2031 => ?_))
              obtain ⟨e2032, w2034, f2035, e2033, p2036⟩ := p2031
              subst e2032
              subst e2033
              have f2038 := f1987.tr f2035 rfl
              have f2039 := f1980.tr f2035 rfl
              show wp _ _ 85 56 [(3, vI v1976), (0, .ref r0), (1, .ref r1), (2, .ref r2)] [] _ H2030 _
              have h2040 : WRc T H2030 r2 d (xlot d (v1976 + 1)) := Or.inr p2036
              refine wp_of e85 c85_56 (rw_iinc (pc' := 59) (z := v1976) (L' := [(3, vI (v1976 + 1)), (0, .ref r0), (1, .ref r1), (2, .ref r2)]) rfl rfl rfl rfl ?_)
              refine wp_of e85 c85_59 (rw_goto (p1 := 19) (by decide) ?_)
              have k2041 : H2030 r1 18 = H1977 r1 18 := (f2035 r1 18 _ g1 rfl)
              have h2042 : CEB T H2030 r0 e d (v1976 + 1).toNat := (CEB_fr w1979 g0 f2035 rfl h2026)
              have h2043 : CEX T H2030 r0 e d (v1976 + 1).toNat := (CEX_fr w1979 g0 f2035 rfl h2027)
              exact wp_lc (ks := [3, 0, 1, 2]) (wl_c rfl (wl_c rfl (wl_c rfl (wl_c rfl wl_n)))) rfl (by decide) (ih1975 _ (by omega) (v1976 + 1) H2030 w2034 f2039 ⟨by omega, by omega⟩ h2042 h2043 h2040 (by omega) rfl)
            · refine wp_of e85 c85_44 (rw_aload_n (pc' := 45) (v := .ref r0) rfl rfl rfl ?_)
              refine wp_of e85 c85_45 (rw_aload_n (pc' := 46) (v := .ref r1) rfl rfl rfl ?_)
              refine wp_of e85 c85_46 (rw_aload_n (pc' := 47) (v := .ref r2) rfl rfl rfl ?_)
              refine wp_of e85 c85_47 (rw_iload_n (pc' := 48) (z := v1976) rfl rfl ?_)
              have k2044 : H1977 r1 16 = H r1 16 := ((f1980 r1 16 _ g1 rfl).trans ((f1541 r1 16 _ g1 rfl).trans (f1528 r1 16 _ g1 rfl)))
              have h2045 : HDR T H1977 r0  := (HDR_fr w1540 g0 f1980 rfl (HDR_fr w1527 g0 f1541 rfl (HDR_fr hW g0 f1528 rfl hHDR_r0)))
              refine wp_of e85 c85_48 (xc_V (pc' := 51) (r := r0) (as := [.ref r1, .ref r2, vI v1976]) (st := []) (lm_4_55) rfl rfl (Nat.le_of_ble_eq_true rfl) w1979 g0 sh_12 (by decide) rfl (by decide) (u_88 (e := e) (d := d) (n := n) w1979 g0 g1 g2 ⟨b1981.1, by omega⟩ (by assumption) (by assumption) (by omega) (by omega) (by omega) h2013 h2012 h1983 h1984 h2045) (fun R2046 T2047 H2048 p2049 => ?_))
              obtain ⟨e2050, w2052, f2053, e2051, p2054⟩ := p2049
              subst e2050
              subst e2051
              obtain ⟨a2055, a2056⟩ := p2054
              have f2057 := f1987.tr f2053 rfl
              have f2058 := f1980.tr f2053 rfl
              show wp _ _ 85 51 [(3, vI v1976), (0, .ref r0), (1, .ref r1), (2, .ref r2)] [] _ H2048 _
              refine wp_of e85 c85_51 (rw_aload_n (pc' := 52) (v := .ref r2) rfl rfl rfl ?_)
              refine wp_of e85 c85_52 (rw_aload_n (pc' := 53) (v := .ref r1) rfl rfl rfl ?_)
              have h2059 : CU T H2048 r1 e d n := (CU_fr w1979 g1 f2053 rfl h2013)
              have h2060 : WR T H2048 r2 d (xlot d v1976) := (WR_fr w1979 g2 f2053 rfl h2012)
              refine wp_of e85 c85_53 (xc_V (pc' := 56) (r := r2) (as := [.ref r1]) (st := []) (lm_4_59) rfl rfl (Nat.le_of_ble_eq_true rfl) w2052 g2 sh_6 (by decide) rfl (by decide) (u_91 (e := e) (d := d) (n := n) (a := v1976) w2052 g2 g1 (by assumption) (by assumption) (by omega) (by omega) (by omega) h2059 h2060) (fun R2061 T2062 H2063 p2064 => ?_))
              obtain ⟨e2065, w2067, f2068, e2066, p2069⟩ := p2064
              subst e2065
              subst e2066
              have f2071 := f2057.tr f2068 rfl
              have f2072 := f2058.tr f2068 rfl
              show wp _ _ 85 56 [(3, vI v1976), (0, .ref r0), (1, .ref r1), (2, .ref r2)] [] _ H2063 _
              have h2073 : WRc T H2063 r2 d (xlot d (v1976 + 1)) := Or.inr p2069
              refine wp_of e85 c85_56 (rw_iinc (pc' := 59) (z := v1976) (L' := [(3, vI (v1976 + 1)), (0, .ref r0), (1, .ref r1), (2, .ref r2)]) rfl rfl rfl rfl ?_)
              refine wp_of e85 c85_59 (rw_goto (p1 := 19) (by decide) ?_)
              have k2074 : H2063 r1 18 = H1977 r1 18 := ((f2068 r1 18 _ g1 rfl).trans (f2053 r1 18 _ g1 rfl))
              have h2075 : CEB T H2063 r0 e d (v1976 + 1).toNat := (CEB_fr w2052 g0 f2068 rfl a2055)
              have h2076 : CEX T H2063 r0 e d (v1976 + 1).toNat := (CEX_fr w2052 g0 f2068 rfl a2056)
              exact wp_lc (ks := [3, 0, 1, 2]) (wl_c rfl (wl_c rfl (wl_c rfl (wl_c rfl wl_n)))) rfl (by decide) (ih1975 _ (by omega) (v1976 + 1) H2063 w2067 f2072 ⟨by omega, by omega⟩ h2075 h2076 h2073 (by omega) rfl)
    exact wp_lc (ks := [3, 0, 1, 2]) (wl_c rfl (wl_c rfl (wl_c rfl (wl_c rfl wl_n)))) rfl (by decide) (lp1973 _ 0 H1536 w1540 wfr.rf ⟨by decide, by decide⟩ h1546 h1548 p1542 (by omega) rfl)
  · have h2077 : CEB T H r0 e d (xlots d).toNat := (CEN_9 hCEN_r0 (by omega)).2.1
    have h2078 : CEX T H r0 e d (xlots d).toNat := (CEN_9 hCEN_r0 (by omega)).2.2
    exact wp_return e85 c85_7 rfl ⟨rfl, hW, f0, rfl, ⟨by omega, h2077, h2078, Or.inr ⟨by omega, h2077, h2078⟩⟩⟩
/-! StrikeAwake.isTold(I)Z  -/
abbrev uq_133 (r0 : Nat) (a1 : Int) (cu : Nat) (T : wq_T) (H : wq_H) : Option Value → wq_T → wq_H → Prop := fun r T' H' => T = T' ∧ H = H' ∧ ∃ z : Int, some (vI z) = r ∧ (0 ≤ z ∧ z ≤ 1) ∧ (((z = 1) ∧ (0 ≤ a1 ∧ a1 < H cu 13)) ∨ ((z = 0) ∧ (a1 < 0 ∨ H cu 13 ≤ a1)))
set_option maxHeartbeats 4000000 in
theorem u_133 {kt : Nat → Option mc_E} {T : wq_T} {H : wq_H} {r0 : Nat} {a1 : Int} {cu : Nat} (hW : WT T H) (g0 : T.2.2.2 r0 = some 1) (i1 : (-2147483648) ≤ a1 ∧ a1 ≤ 2147483647) (qcu : H r0 6 = (cu : Int)) (gcu : T.2.2.2 cu = some 27) : wpc kt 1 133 [.ref r0, vI a1] T H (uq_133 r0 a1 cu T H) := by
  refine wp_enter e133 (Nat.le_of_ble_eq_true rfl) rfl ?_
  show wp _ _ 133 0 [(0, .ref r0), (1, vI a1)] [] _ H _
  refine wp_of e133 c133_0 (rw_iload_n (pc' := 1) (z := a1) rfl rfl ?_)
  refine wp_of e133 c133_1 (rw_if_lt (p1 := 19) (p2 := 4) (by decide) rfl ⟨i1.1, i1.2⟩ (fun c1005 => ?_) (fun c1005 => ?_))
  · refine wp_of e133 c133_19 (rw_iconst (pc' := 20) rfl ?_)
    exact wp_zreturn e133 c133_20 rfl (by omega) ⟨rfl, rfl, 0, rfl, ⟨by decide, by decide⟩, (Or.inr ⟨by omega, by omega⟩)⟩
  · refine wp_of e133 c133_4 (rw_iload_n (pc' := 5) (z := a1) rfl rfl ?_)
    refine wp_of e133 c133_5 (rw_aload_n (pc' := 6) (v := .ref r0) rfl rfl rfl ?_)
    refine wp_of e133 c133_6 (xg_K (pc' := 9) lf_0_51 hW g0 sh_1 (by decide) (by decide) rfl qcu rfl ?_)
    refine wp_of e133 c133_9 (xg_I (pc' := 12) lf_0_333 hW gcu sh_27 (by decide) (by decide) ty_27_13 rfl rfl (fun b1006 b1007 => ?_))
    refine wp_of e133 c133_12 (rw_icmp_ge (p1 := 19) (p2 := 15) (by decide) rfl ⟨i1.1, i1.2⟩ ⟨Int.le_trans (by decide) b1006, Int.le_trans b1007 (by decide)⟩ (fun c1008 => ?_) (fun c1008 => ?_))
    · refine wp_of e133 c133_19 (rw_iconst (pc' := 20) rfl ?_)
      exact wp_zreturn e133 c133_20 rfl (by omega) ⟨rfl, rfl, 0, rfl, ⟨by decide, by decide⟩, (Or.inr ⟨by omega, by omega⟩)⟩
    · refine wp_of e133 c133_15 (rw_iconst (pc' := 16) rfl ?_)
      refine wp_of e133 c133_16 (rw_goto (p1 := 20) (by decide) ?_)
      exact wp_zreturn e133 c133_20 rfl (by omega) ⟨rfl, rfl, 1, rfl, ⟨by decide, by decide⟩, (Or.inl ⟨by omega, by omega⟩)⟩
end
section
/-! java/lang/Integer.bitCount(I)I  -/
abbrev uq_126 (a0 : Int) (T : wq_T) (H : wq_H) : Option Value → wq_T → wq_H → Prop := fun r T' H' => T = T' ∧ H = H' ∧ ∃ z : Int, some (vI z) = r ∧ (0 ≤ z ∧ z ≤ 32) ∧ (((z = ((nbf 24 (a0).toNat : Nat) : Int))))
set_option maxHeartbeats 4000000 in
theorem u_126 {kt : Nat → Option mc_E} {T : wq_T} {H : wq_H} {a0 : Int} (hW : WT T H) (i0 : 0 ≤ a0 ∧ a0 ≤ 16777215) (p0 : nbf 24 (a0).toNat ≤ 3) : wpc kt 1 126 [vI a0] T H (uq_126 a0 T H) := by
  refine wp_enter e126 (Nat.le_of_ble_eq_true rfl) rfl ?_
  show wp _ _ 126 0 [(0, vI a0)] [] _ H _
  refine wp_of e126 c126_0 (rw_iload_n (pc' := 1) (z := a0) rfl rfl ?_)
  refine wp_of e126 c126_1 (rw_iload_n (pc' := 2) (z := a0) rfl rfl ?_)
  refine wp_of e126 c126_2 (rw_iconst (pc' := 3) rfl ?_)
  refine wp_of e126 c126_3 (rw_iushr (pc' := 4) rfl ?_)
  obtain ⟨v1027, e1028⟩ : ∃ x : Int, x = wq_ushr a0 1 := ⟨_, rfl⟩
  rw [← e1028]
  have b1029 : -2147483648 ≤ v1027 ∧ v1027 ≤ 2147483647 := by
    rw [e1028]
    exact wI_ushr _ _
  refine wp_of e126 c126_4 (rw_ldc_wI (pc' := 7) (z := 1431655765) rfl rfl rfl ?_)
  refine wp_of e126 c126_7 (rw_iand (pc' := 8) rfl ?_)
  obtain ⟨v1030, e1031⟩ : ∃ x : Int, x = wq_and v1027 1431655765 := ⟨_, rfl⟩
  rw [← e1031]
  have b1032 : 0 ≤ v1030 ∧ v1030 ≤ 1431655765 := by
    rw [e1031]
    exact wq_and_b _ (by omega) (by omega)
  refine wp_of e126 c126_8 (rw_isub (pc' := 9) rfl ?_)
  refine wp_of e126 c126_9 (rw_istore_n (pc' := 10) (z := a0 - v1030) (L' := [(0, vI (a0 - v1030))]) rfl rfl rfl ?_)
  refine wp_of e126 c126_10 (rw_iload_n (pc' := 11) (z := a0 - v1030) rfl rfl ?_)
  refine wp_of e126 c126_11 (rw_ldc_wI (pc' := 14) (z := 858993459) rfl rfl rfl ?_)
  refine wp_of e126 c126_14 (rw_iand (pc' := 15) rfl ?_)
  obtain ⟨v1033, e1034⟩ : ∃ x : Int, x = wq_and (a0 - v1030) 858993459 := ⟨_, rfl⟩
  rw [← e1034]
  have b1035 : 0 ≤ v1033 ∧ v1033 ≤ 858993459 := by
    rw [e1034]
    exact wq_and_b _ (by omega) (by omega)
  refine wp_of e126 c126_15 (rw_iload_n (pc' := 16) (z := a0 - v1030) rfl rfl ?_)
  refine wp_of e126 c126_16 (rw_iconst (pc' := 17) rfl ?_)
  refine wp_of e126 c126_17 (rw_iushr (pc' := 18) rfl ?_)
  obtain ⟨v1036, e1037⟩ : ∃ x : Int, x = wq_ushr (a0 - v1030) 2 := ⟨_, rfl⟩
  rw [← e1037]
  have b1038 : -2147483648 ≤ v1036 ∧ v1036 ≤ 2147483647 := by
    rw [e1037]
    exact wI_ushr _ _
  refine wp_of e126 c126_18 (rw_ldc_wI (pc' := 21) (z := 858993459) rfl rfl rfl ?_)
  refine wp_of e126 c126_21 (rw_iand (pc' := 22) rfl ?_)
  obtain ⟨v1039, e1040⟩ : ∃ x : Int, x = wq_and v1036 858993459 := ⟨_, rfl⟩
  rw [← e1040]
  have b1041 : 0 ≤ v1039 ∧ v1039 ≤ 858993459 := by
    rw [e1040]
    exact wq_and_b _ (by omega) (by omega)
  refine wp_of e126 c126_22 (rw_iadd (pc' := 23) rfl ?_)
  refine wp_of e126 c126_23 (rw_istore_n (pc' := 24) (z := v1033 + v1039) (L' := [(0, vI (v1033 + v1039))]) rfl rfl rfl ?_)
  refine wp_of e126 c126_24 (rw_iload_n (pc' := 25) (z := v1033 + v1039) rfl rfl ?_)
  refine wp_of e126 c126_25 (rw_iload_n (pc' := 26) (z := v1033 + v1039) rfl rfl ?_)
  refine wp_of e126 c126_26 (rw_iconst (pc' := 27) rfl ?_)
  refine wp_of e126 c126_27 (rw_iushr (pc' := 28) rfl ?_)
  obtain ⟨v1042, e1043⟩ : ∃ x : Int, x = wq_ushr (v1033 + v1039) 4 := ⟨_, rfl⟩
  rw [← e1043]
  have b1044 : -2147483648 ≤ v1042 ∧ v1042 ≤ 2147483647 := by
    rw [e1043]
    exact wI_ushr _ _
  refine wp_of e126 c126_28 (rw_iaddw (pc' := 29) rfl ?_)
  obtain ⟨v1045, e1046⟩ : ∃ x : Int, x = wq_w ((v1033 + v1039) + v1042) := ⟨_, rfl⟩
  rw [← e1046]
  have b1047 : -2147483648 ≤ v1045 ∧ v1045 ≤ 2147483647 := by
    rw [e1046]
    exact wI_w _
  have b1048 : (-2147483648 ≤ (v1033 + v1039) + v1042 ∧ (v1033 + v1039) + v1042 ≤ 2147483647) → v1045 = (v1033 + v1039) + v1042 := fun h => by rw [e1046]; exact wq_w_id h
  refine wp_of e126 c126_29 (rw_ldc_wI (pc' := 32) (z := 252645135) rfl rfl rfl ?_)
  refine wp_of e126 c126_32 (rw_iand (pc' := 33) rfl ?_)
  obtain ⟨v1049, e1050⟩ : ∃ x : Int, x = wq_and v1045 252645135 := ⟨_, rfl⟩
  rw [← e1050]
  have b1051 : 0 ≤ v1049 ∧ v1049 ≤ 252645135 := by
    rw [e1050]
    exact wq_and_b _ (by omega) (by omega)
  refine wp_of e126 c126_33 (rw_istore_n (pc' := 34) (z := v1049) (L' := [(0, vI v1049)]) rfl rfl rfl ?_)
  refine wp_of e126 c126_34 (rw_iload_n (pc' := 35) (z := v1049) rfl rfl ?_)
  refine wp_of e126 c126_35 (rw_iload_n (pc' := 36) (z := v1049) rfl rfl ?_)
  refine wp_of e126 c126_36 (rw_bipush (pc' := 38) (z := 8) rfl (by decide) ?_)
  refine wp_of e126 c126_38 (rw_iushr (pc' := 39) rfl ?_)
  obtain ⟨v1052, e1053⟩ : ∃ x : Int, x = wq_ushr v1049 8 := ⟨_, rfl⟩
  rw [← e1053]
  have b1054 : -2147483648 ≤ v1052 ∧ v1052 ≤ 2147483647 := by
    rw [e1053]
    exact wI_ushr _ _
  refine wp_of e126 c126_39 (rw_iaddw (pc' := 40) rfl ?_)
  obtain ⟨v1055, e1056⟩ : ∃ x : Int, x = wq_w (v1049 + v1052) := ⟨_, rfl⟩
  rw [← e1056]
  have b1057 : -2147483648 ≤ v1055 ∧ v1055 ≤ 2147483647 := by
    rw [e1056]
    exact wI_w _
  have b1058 : (-2147483648 ≤ v1049 + v1052 ∧ v1049 + v1052 ≤ 2147483647) → v1055 = v1049 + v1052 := fun h => by rw [e1056]; exact wq_w_id h
  refine wp_of e126 c126_40 (rw_istore_n (pc' := 41) (z := v1055) (L' := [(0, vI v1055)]) rfl rfl rfl ?_)
  refine wp_of e126 c126_41 (rw_iload_n (pc' := 42) (z := v1055) rfl rfl ?_)
  refine wp_of e126 c126_42 (rw_iload_n (pc' := 43) (z := v1055) rfl rfl ?_)
  refine wp_of e126 c126_43 (rw_bipush (pc' := 45) (z := 16) rfl (by decide) ?_)
  refine wp_of e126 c126_45 (rw_iushr (pc' := 46) rfl ?_)
  obtain ⟨v1059, e1060⟩ : ∃ x : Int, x = wq_ushr v1055 16 := ⟨_, rfl⟩
  rw [← e1060]
  have b1061 : -2147483648 ≤ v1059 ∧ v1059 ≤ 2147483647 := by
    rw [e1060]
    exact wI_ushr _ _
  refine wp_of e126 c126_46 (rw_iaddw (pc' := 47) rfl ?_)
  obtain ⟨v1062, e1063⟩ : ∃ x : Int, x = wq_w (v1055 + v1059) := ⟨_, rfl⟩
  rw [← e1063]
  have b1064 : -2147483648 ≤ v1062 ∧ v1062 ≤ 2147483647 := by
    rw [e1063]
    exact wI_w _
  have b1065 : (-2147483648 ≤ v1055 + v1059 ∧ v1055 + v1059 ≤ 2147483647) → v1062 = v1055 + v1059 := fun h => by rw [e1063]; exact wq_w_id h
  refine wp_of e126 c126_47 (rw_istore_n (pc' := 48) (z := v1062) (L' := [(0, vI v1062)]) rfl rfl rfl ?_)
  refine wp_of e126 c126_48 (rw_iload_n (pc' := 49) (z := v1062) rfl rfl ?_)
  refine wp_of e126 c126_49 (rw_bipush (pc' := 51) (z := 63) rfl (by decide) ?_)
  refine wp_of e126 c126_51 (rw_iand (pc' := 52) rfl ?_)
  obtain ⟨v1066, e1067⟩ : ∃ x : Int, x = wq_and v1062 63 := ⟨_, rfl⟩
  rw [← e1067]
  have b1068 : 0 ≤ v1066 ∧ v1066 ≤ 63 := by
    rw [e1067]
    exact wq_and_b _ (by omega) (by omega)
  have _z : v1066 = ((nbf 24 (a0).toNat : Nat) : Int) := by
    rw [e1067, e1063, e1060, e1056, e1053, e1050, e1046, e1043, e1040, e1037, e1034, e1031, e1028]
    have all : (xg 24 3).all (fun n => decide ((wq_and (wq_w ((wq_w ((wq_and (wq_w (((wq_and ((n : Int) - (wq_and (wq_ushr (n : Int) 1) 1431655765)) 858993459) + (wq_and (wq_ushr ((n : Int) - (wq_and (wq_ushr (n : Int) 1) 1431655765)) 2) 858993459)) + (wq_ushr ((wq_and ((n : Int) - (wq_and (wq_ushr (n : Int) 1) 1431655765)) 858993459) + (wq_and (wq_ushr ((n : Int) - (wq_and (wq_ushr (n : Int) 1) 1431655765)) 2) 858993459)) 4))) 252645135) + (wq_ushr (wq_and (wq_w (((wq_and ((n : Int) - (wq_and (wq_ushr (n : Int) 1) 1431655765)) 858993459) + (wq_and (wq_ushr ((n : Int) - (wq_and (wq_ushr (n : Int) 1) 1431655765)) 2) 858993459)) + (wq_ushr ((wq_and ((n : Int) - (wq_and (wq_ushr (n : Int) 1) 1431655765)) 858993459) + (wq_and (wq_ushr ((n : Int) - (wq_and (wq_ushr (n : Int) 1) 1431655765)) 2) 858993459)) 4))) 252645135) 8))) + (wq_ushr (wq_w ((wq_and (wq_w (((wq_and ((n : Int) - (wq_and (wq_ushr (n : Int) 1) 1431655765)) 858993459) + (wq_and (wq_ushr ((n : Int) - (wq_and (wq_ushr (n : Int) 1) 1431655765)) 2) 858993459)) + (wq_ushr ((wq_and ((n : Int) - (wq_and (wq_ushr (n : Int) 1) 1431655765)) 858993459) + (wq_and (wq_ushr ((n : Int) - (wq_and (wq_ushr (n : Int) 1) 1431655765)) 2) 858993459)) 4))) 252645135) + (wq_ushr (wq_and (wq_w (((wq_and ((n : Int) - (wq_and (wq_ushr (n : Int) 1) 1431655765)) 858993459) + (wq_and (wq_ushr ((n : Int) - (wq_and (wq_ushr (n : Int) 1) 1431655765)) 2) 858993459)) + (wq_ushr ((wq_and ((n : Int) - (wq_and (wq_ushr (n : Int) 1) 1431655765)) 858993459) + (wq_and (wq_ushr ((n : Int) - (wq_and (wq_ushr (n : Int) 1) 1431655765)) 2) 858993459)) 4))) 252645135) 8))) 16))) 63) = ((nbf 24 n : Nat) : Int))) = true := by decide +kernel
    have h := of_decide_eq_true (List.all_eq_true.mp all (a0).toNat (xg_mem 24 3 (a0).toNat (by have : (2 : Nat) ^ 24 = 16777216 := by decide
                                                                                                omega) p0))
    rw [Int.toNat_of_nonneg (by omega)] at h
    exact h
  exact wp_ireturn e126 c126_52 rfl ⟨rfl, rfl, v1066, rfl, ⟨b1068.1, by omega⟩, (by assumption)⟩
/-! StrikeAwake$Grounds.flawsOf(LStrikeAwake$Parish;LStrikeAwake$Walk;)J  -/
abbrev uq_140 (r0 : Nat) (r1 : Nat) (e : xD) (d : xD) (n : Int) (g : Nat → Int) (T : wq_T) (H : wq_H) : Option Value → wq_T → wq_H → Prop := fun r T' H' => T = T' ∧ H = H' ∧ ∃ z : Int, some (vL z) = r ∧ ((-9223372036854775808) ≤ z ∧ z ≤ 9223372036854775807) ∧ (((z = xfZ (xvy e d g) 24)))
set_option maxHeartbeats 4000000 in
theorem u_140 {kt : Nat → Option mc_E} {T : wq_T} {H : wq_H} {r0 : Nat} {r1 : Nat} {e : xD} {d : xD} {n : Int} {g : Nat → Int} (hW : WT T H) (g0 : T.2.2.2 r0 = some 27) (g1 : T.2.2.2 r1 = some 6) (p0 : ∀ i, i ≠ 13 → e i = d i) (p1 : XW d) (p2 : e 0 3 = d 0 3) (p3 : e 0 0 = d 0 0) (hCU_r0 : CU T H r0 e d n) (hWR_r1 : WR T H r1 d g) : wpc kt 2 140 [.ref r0, .ref r1] T H (uq_140 r0 r1 e d n g T H) := by
  refine wp_enter e140 (Nat.le_of_ble_eq_true rfl) rfl ?_
  show wp _ _ 140 0 [(0, .ref r0), (1, .ref r1)] [] _ H _
  have u1380 := CU_k hCU_r0
  have b1381 : 0 ≤ H r0 16 ∧ H r0 16 ≤ 24 := hW.box g0 (n := 19) rfl (by decide) rfl
  have h1382 : ST T H r0 (e 13) := hCU_r0.1.2.2.1
  have h1383 : SV T H r0 (e 13) 24 := hCU_r0.1.2.2.2.1
  have _k := CU_k hCU_r0
  have _xc := p1.2.1
  unfold XC at _xc
  have _d0 := p0 0 (by decide)
  have _e3 : e 0 3 = d 0 3 := by rw [_d0]
  have _e4 : e 0 4 = d 0 4 := by rw [_d0]
  have _e5 : e 0 5 = d 0 5 := by rw [_d0]
  have _w5 := hWR_r1.1
  have _c16 := hCU_r0.1.1.2.2.2.2.2.2.2.2.2.2.2.1
  refine wp_of e140 c140_0 (rw_lconst (pc' := 1) (z := 0) rfl rfl ?_)
  refine wp_of e140 c140_1 (rw_lstore_n (pc' := 2) (z := 0) (L' := [(2, vL 0), (0, .ref r0), (1, .ref r1)]) rfl rfl rfl ?_)
  refine wp_of e140 c140_2 (rw_iconst (pc' := 3) rfl ?_)
  refine wp_of e140 c140_3 (rw_istore (pc' := 5) (z := 0) (L' := [(4, vI 0), (2, vL 0), (0, .ref r0), (1, .ref r1)]) rfl rfl rfl ?_)
  have lp1720 : ∀ (n1721 : Nat) (v1723 : Int) (v1724 : Int) (u1725 : Nat), (0 ≤ v1723 ∧ v1723 ≤ 24) → ((-9223372036854775808) ≤ v1724 ∧ v1724 ≤ 9223372036854775807) → (u1725 ≤ 24) → (xcn (e 13) u1725 = v1723) → (v1724 = xfZ (xvy e d g) u1725) → (24 - v1723).toNat = n1721 → wp kt 1 140 5 [(4, vI v1723), (2, vL v1724), (0, .ref r0), (1, .ref r1)] [] T H (uq_140 r0 r1 e d n g T H) := by
    intro n1721
    induction n1721 using Nat.strongRecOn with
    | _ n1721 ih1722 =>
      intro v1723 v1724 u1725 b1728 b1729 x1731 x1732 x1733 m1730
      refine wp_of e140 c140_5 (rw_iload (pc' := 7) (z := v1723) rfl rfl ?_)
      refine wp_of e140 c140_7 (rw_aload_n (pc' := 8) (v := .ref r0) rfl rfl rfl ?_)
      refine wp_of e140 c140_8 (xg_I (pc' := 11) lf_6_88 hW g0 sh_27 (by decide) (by decide) ty_27_16 rfl rfl (fun b1734 b1735 => ?_))
      refine wp_of e140 c140_11 (rw_icmp_ge (p1 := 75) (p2 := 14) (by decide) rfl ⟨Int.le_trans (by decide) b1728.1, Int.le_trans b1728.2 (by decide)⟩ ⟨Int.le_trans (by decide) b1734, Int.le_trans b1735 (by decide)⟩ (fun c1736 => ?_) (fun c1736 => ?_))
      · have _z : v1724 = xfZ (xvy e d g) 24 := by
          rw [xfZ_gap (u := u1725) (h := 24) (by omega) (fun j p q => xvy_0 (by have := xcn_mono (f := e 13) (m := u1725) j p; have := xcn_lt (f := e 13) (m := j) (n := 24) q; omega))]
          assumption
        refine wp_of e140 c140_75 (rw_lload_n (pc' := 76) (z := v1724) rfl rfl ?_)
        exact wp_lreturn e140 c140_76 rfl ⟨rfl, rfl, v1724, rfl, ⟨b1729.1, b1729.2⟩, (_z)⟩
      · obtain ⟨h9, _a, _b, _c, _e, _f⟩ := xcn_nx (f := e 13) (u := u1725) 24 (by omega) (by omega)
        have _zq : ∀ j : Nat, u1725 ≤ j → j < h9 → xvy e d g j = 0 := fun j p q => xvy_0 (_f j p q)
        have _n : xcn (e 13) (h9 + 1) = xcn (e 13) h9 + 1 := by
          show xcn (e 13) h9 + (if e 13 h9 > 0 then 1 else 0) = _
          rw [if_pos _c]
        have _yb := xvy_b (e := e) (d := d) (g := g) (h := h9)
        refine wp_of e140 c140_14 (rw_aload_n (pc' := 15) (v := .ref r0) rfl rfl rfl ?_)
        refine wp_of e140 c140_15 (xg_R (pc' := 18) lf_6_91 hW g0 sh_27 (by decide) (by decide) ty_27_2 rfl rfl (fun r1737 q1738 g1739 => ?_))
        refine wp_of e140 c140_18 (rw_iload (pc' := 20) (z := v1723) rfl rfl ?_)
        refine wp_of e140 c140_20 (xa_I (so := 0) (pc' := 21) hW g1739 sh_30 (by decide) (ty_30 _) (b1728.1) (by omega) rfl (fun b1740 b1741 => ?_))
        have _v := SV_at h1383 q1738 (h := h9) (by omega) _c
        rw [show xcn (e 13) h9 = v1723 by omega] at _v
        refine wp_of e140 c140_21 (rw_istore (pc' := 23) (z := H r1737 (v1723.toNat)) (L' := [(5, vI (H r1737 (v1723.toNat))), (4, vI v1723), (2, vL v1724), (0, .ref r0), (1, .ref r1)]) rfl rfl rfl ?_)
        refine wp_of e140 c140_23 (rw_aload_n (pc' := 24) (v := .ref r0) rfl rfl rfl ?_)
        refine wp_of e140 c140_24 (rw_iload (pc' := 26) (z := H r1737 (v1723.toNat)) rfl rfl ?_)
        refine wp_of e140 c140_26 (rw_aload_n (pc' := 27) (v := .ref r1) rfl rfl rfl ?_)
        refine wp_of e140 c140_27 (rw_iload (pc' := 29) (z := H r1737 (v1723.toNat)) rfl rfl ?_)
        refine wp_of e140 c140_29 (xc_V (pc' := 32) (r := r1) (as := [vI (H r1737 (v1723.toNat))]) (st := [vI (H r1737 (v1723.toNat)), .ref r0]) (lm_6_94) rfl rfl (Nat.le_of_ble_eq_true rfl) hW g1 sh_6 (by decide) rfl (by decide) (u_72 (d := d) (g := g) hW g1 ⟨b1740, b1741⟩ (by assumption) hWR_r1) (fun R1742 T1743 H1744 p1745 => ?_))
        obtain ⟨e1746, e1748, z1749, e1747, b1750, p1751⟩ := p1745
        subst e1746
        subst e1747
        subst e1748
        show wp _ _ 140 32 [(5, vI (H r1737 (v1723.toNat))), (4, vI v1723), (2, vL v1724), (0, .ref r0), (1, .ref r1)] [vI z1749, vI (H r1737 (v1723.toNat)), .ref r0] _ H _
        refine wp_of e140 c140_32 (xc_V (pc' := 35) (r := r0) (as := [vI (H r1737 (v1723.toNat)), vI z1749]) (st := []) (lm_6_97) rfl rfl (Nat.le_of_ble_eq_true rfl) hW g0 sh_27 (by decide) rfl (by decide) (u_76 (e := e) (d := d) (n := n) hW g0 ⟨b1740, b1741⟩ ⟨b1750.1, b1750.2⟩ (by assumption) (by assumption) hCU_r0) (fun R1753 T1754 H1755 p1756 => ?_))
        obtain ⟨e1757, e1759, z1760, e1758, b1761, p1762⟩ := p1756
        subst e1757
        subst e1758
        subst e1759
        show wp _ _ 140 35 [(5, vI (H r1737 (v1723.toNat))), (4, vI v1723), (2, vL v1724), (0, .ref r0), (1, .ref r1)] [vI z1760] _ H _
        refine wp_of e140 c140_35 (rw_istore (pc' := 37) (z := z1760) (L' := [(6, vI z1760), (5, vI (H r1737 (v1723.toNat))), (4, vI v1723), (2, vL v1724), (0, .ref r0), (1, .ref r1)]) rfl rfl rfl ?_)
        have _vb : z1760 = xvy e d g h9 := by
          unfold xvy
          have := (‹_ = ((xdue d g ((H r1737 (v1723.toNat))).toNat : Nat) : Int)› : _)
          rw [show h9 = ((H r1737 (v1723.toNat))).toNat by omega, ← this]
          assumption
        have _gp : xfZ (xvy e d g) h9 = v1724 := by
          rw [xfZ_gap _a _zq]
          exact (by assumption : v1724 = xfZ (xvy e d g) u1725).symm
        refine wp_of e140 c140_37 (rw_iload (pc' := 39) (z := z1760) rfl rfl ?_)
        refine wp_of e140 c140_39 (rw_iconst (pc' := 40) rfl ?_)
        refine wp_of e140 c140_40 (rw_icmp_ne (p1 := 53) (p2 := 43) (by decide) rfl ⟨Int.le_trans (by decide) b1761.1, Int.le_trans b1761.2 (by decide)⟩ ⟨by decide, by decide⟩ (fun c1764 => ?_) (fun c1764 => ?_))
        · refine wp_of e140 c140_53 (rw_iload (pc' := 55) (z := z1760) rfl rfl ?_)
          refine wp_of e140 c140_55 (rw_iconst (pc' := 56) rfl ?_)
          refine wp_of e140 c140_56 (rw_icmp_ne (p1 := 69) (p2 := 59) (by decide) rfl ⟨Int.le_trans (by decide) b1761.1, Int.le_trans b1761.2 (by decide)⟩ ⟨by decide, by decide⟩ (fun c1765 => ?_) (fun c1765 => ?_))
          · have _q : v1724 = xfZ (xvy e d g) (h9 + 1) := by
              rw [xfZ_n ⟨by omega, by omega⟩]
              exact _gp.symm
            refine wp_of e140 c140_69 (rw_iinc (pc' := 72) (z := v1723) (L' := [(4, vI (v1723 + 1)), (6, vI z1760), (5, vI (H r1737 (v1723.toNat))), (2, vL v1724), (0, .ref r0), (1, .ref r1)]) rfl rfl rfl rfl ?_)
            refine wp_of e140 c140_72 (rw_goto (p1 := 5) (by decide) ?_)
            exact wp_lc (ks := [4, 6, 5, 2, 0, 1]) (wl_c rfl (wl_c rfl (wl_c rfl (wl_c rfl wl_n)))) rfl (by decide) (ih1722 _ (by omega) (v1723 + 1) v1724 ((h9 + 1)) ⟨by omega, by omega⟩ ⟨b1729.1, b1729.2⟩ (by omega) (by omega) (_q) rfl)
          · refine wp_of e140 c140_59 (rw_lload_n (pc' := 60) (z := v1724) rfl rfl ?_)
            refine wp_of e140 c140_60 (rw_lconst (pc' := 61) (z := 1) rfl rfl ?_)
            refine wp_of e140 c140_61 (rw_iload (pc' := 63) (z := H r1737 (v1723.toNat)) rfl rfl ?_)
            refine wp_of e140 c140_63 (rw_bipush (pc' := 65) (z := 32) rfl (by decide) ?_)
            refine wp_of e140 c140_65 (rw_iadd (pc' := 66) rfl ?_)
            refine wp_of e140 c140_66 (rw_lshl (pc' := 67) rfl ?_)
            obtain ⟨v1766, e1767⟩ : ∃ x : Int, x = wl_shl 1 ((H r1737 (v1723.toNat)) + 32) := ⟨_, rfl⟩
            rw [← e1767]
            have b1768 : -9223372036854775808 ≤ v1766 ∧ v1766 ≤ 9223372036854775807 := by
              rw [e1767]
              exact wL_shl _ _
            refine wp_of e140 c140_67 (rw_lor (pc' := 68) rfl ?_)
            obtain ⟨v1769, e1770⟩ : ∃ x : Int, x = wl_or v1724 v1766 := ⟨_, rfl⟩
            rw [← e1770]
            have b1771 : -9223372036854775808 ≤ v1769 ∧ v1769 ≤ 9223372036854775807 := by
              rw [e1770]
              exact wL_or _ _
            refine wp_of e140 c140_68 (rw_lstore_n (pc' := 69) (z := v1769) (L' := [(2, vL v1769), (6, vI z1760), (5, vI (H r1737 (v1723.toNat))), (4, vI v1723), (0, .ref r0), (1, .ref r1)]) rfl rfl rfl ?_)
            have _q : v1769 = xfZ (xvy e d g) (h9 + 1) := by
              first
              | exact xfZ_2 (by omega) (by omega) _gp.symm e1770 e1767 (by omega)
              | exact xfZ_1 (by omega) (by omega) _gp.symm e1770 e1767 (by omega)
            refine wp_of e140 c140_69 (rw_iinc (pc' := 72) (z := v1723) (L' := [(4, vI (v1723 + 1)), (2, vL v1769), (6, vI z1760), (5, vI (H r1737 (v1723.toNat))), (0, .ref r0), (1, .ref r1)]) rfl rfl rfl rfl ?_)
            refine wp_of e140 c140_72 (rw_goto (p1 := 5) (by decide) ?_)
            exact wp_lc (ks := [4, 2, 6, 5, 0, 1]) (wl_c rfl (wl_c rfl (wl_c rfl (wl_c rfl wl_n)))) rfl (by decide) (ih1722 _ (by omega) (v1723 + 1) v1769 ((h9 + 1)) ⟨by omega, by omega⟩ ⟨b1771.1, b1771.2⟩ (by omega) (by omega) (_q) rfl)
        · refine wp_of e140 c140_43 (rw_lload_n (pc' := 44) (z := v1724) rfl rfl ?_)
          refine wp_of e140 c140_44 (rw_lconst (pc' := 45) (z := 1) rfl rfl ?_)
          refine wp_of e140 c140_45 (rw_iload (pc' := 47) (z := H r1737 (v1723.toNat)) rfl rfl ?_)
          refine wp_of e140 c140_47 (rw_lshl (pc' := 48) rfl ?_)
          obtain ⟨v1772, e1773⟩ : ∃ x : Int, x = wl_shl 1 (H r1737 (v1723.toNat)) := ⟨_, rfl⟩
          rw [← e1773]
          have b1774 : -9223372036854775808 ≤ v1772 ∧ v1772 ≤ 9223372036854775807 := by
            rw [e1773]
            exact wL_shl _ _
          refine wp_of e140 c140_48 (rw_lor (pc' := 49) rfl ?_)
          obtain ⟨v1775, e1776⟩ : ∃ x : Int, x = wl_or v1724 v1772 := ⟨_, rfl⟩
          rw [← e1776]
          have b1777 : -9223372036854775808 ≤ v1775 ∧ v1775 ≤ 9223372036854775807 := by
            rw [e1776]
            exact wL_or _ _
          refine wp_of e140 c140_49 (rw_lstore_n (pc' := 50) (z := v1775) (L' := [(2, vL v1775), (6, vI z1760), (5, vI (H r1737 (v1723.toNat))), (4, vI v1723), (0, .ref r0), (1, .ref r1)]) rfl rfl rfl ?_)
          refine wp_of e140 c140_50 (rw_goto (p1 := 69) (by decide) ?_)
          have _q : v1775 = xfZ (xvy e d g) (h9 + 1) := by
            first
            | exact xfZ_2 (by omega) (by omega) _gp.symm e1776 e1773 (by omega)
            | exact xfZ_1 (by omega) (by omega) _gp.symm e1776 e1773 (by omega)
          refine wp_of e140 c140_69 (rw_iinc (pc' := 72) (z := v1723) (L' := [(4, vI (v1723 + 1)), (2, vL v1775), (6, vI z1760), (5, vI (H r1737 (v1723.toNat))), (0, .ref r0), (1, .ref r1)]) rfl rfl rfl rfl ?_)
          refine wp_of e140 c140_72 (rw_goto (p1 := 5) (by decide) ?_)
          exact wp_lc (ks := [4, 2, 6, 5, 0, 1]) (wl_c rfl (wl_c rfl (wl_c rfl (wl_c rfl wl_n)))) rfl (by decide) (ih1722 _ (by omega) (v1723 + 1) v1775 ((h9 + 1)) ⟨by omega, by omega⟩ ⟨b1777.1, b1777.2⟩ (by omega) (by omega) (_q) rfl)
  exact wp_lc (ks := [4, 2, 0, 1]) (wl_c rfl (wl_c rfl (wl_c rfl (wl_c rfl wl_n)))) rfl (by decide) (lp1720 _ 0 0 0 ⟨by decide, by decide⟩ ⟨by decide, by decide⟩ (by omega) (rfl) (xfZ_0.symm) rfl)
end
