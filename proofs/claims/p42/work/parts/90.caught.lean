/-! THE CALL THAT CATCHES (own work) -/
set_option maxHeartbeats 300000 in
theorem mc_led2 (l : Launch) (hfl : l.stackTraces = false) {kt : Nat → Option mc_E} {G : mc_G} {F n9 : Nat} {x x2 : Int32} {a0 la : Nat} {fs : List Value} {M M2 M1 : mc_M} {L1 L2 : List (Nat × Value)} (ha0 : 256 ≤ a0) (hrc : M2[a0 - 256]? = some (.inr (0, fs)))
    (hM2 : M2.length = M.length ∧ mc_sz M2 = mc_sz M) (hM1 : M1.length = M2.length ∧ mc_sz M1 = mc_sz M2)
    (hseg2 : mc_seg kt (fun _ _ _ => none) 11 4 false (some .int) method_3_code 4 (0, lv_args 0 [.ref a0, .int x, .ref la], [], M) = some (4, L2, [.int x2, .ref a0, .int 0, .ref la], M2))
    (hseg1 : mc_seg kt (mc_call kt F 0) 0 4 false (some .int) prog_1_method_49_code n9 (0, lv_args 0 [.ref a0, .int x2], [], M2) = some (46, L1, [], M1)) :
    Met l mc_y2 (Cond.codeWith mc_y2 method_3_code 4 (some .int) [(0, 9, 12, 13)] :: mc_ws) mc_rm2 (mc_PT kt G M [.ref a0, .int x, .ref la]) (mc_Qc G (some (.int 1), M1 ++ [mc_op])) 1 6 (mc_A G) := by
  refine va_MetW (cc := method_3_code) (maxL := 4) (ret := some .int) (hh := [(0, 9, 12, 13)]) (by decide +kernel) rfl ?_
  intro p e s m args below meth c s₁ B hml hv
  obtain ⟨rfl, hH, hB, hTW, hTZ⟩ := hv
  generalize hav : (([.ref a0, .int x, .ref la] : List Value).map (mc_v G)).toArray = args at B hTW hTZ ⊢
  have hts : ∀ w ∈ mc_ws, w.before args s = true := fun w hw => atoms_spec (ws := Cond.codeWith mc_y2 method_3_code 4 (some .int) [(0, 9, 12, 13)] :: mc_ws) B.pre w (List.mem_cons_of_mem _ hw)
  have htab := vx_table (x := mc_y2) B (atoms_spec (ws := Cond.codeWith mc_y2 method_3_code 4 (some .int) [(0, 9, 12, 13)] :: mc_ws) B.pre _ List.mem_cons_self)
  have hown : s.vm.findClass (mc_cn 11) = some m.cls := findClass_of_methodNamed B.named
  have C : mc_X kt G 11 4 false (some .int) method_3_code p s m args meth c := ⟨B.exec, B.bytes, hown, hts, hml, hB, by rw [hH.1]; exact Nat.le_add_right _ _, (fun h => by cases h), B.notSynchronized, B.returns⟩
  obtain ⟨f1, f2, f3, f4, f5, f6, f7, f8, f9, f10, f11⟩ := mc_mfacts mc_l166
  have hlk7 : (Cond.methodLink "StrikeAwakeLaw" 7 mc_y1).before args s = true := hts _ (mc_wl_at (by unfold mc_y1; simp))
  have hcl13 : (Cond.classLink "StrikeAwakeLaw" 13 mc_NE).before args s = true := hts _ (mc_wl_at List.mem_cons_self)
  have hcast : (Cond.castable mc_NE mc_NE).before args s = true := hTW.use (mc_ls_in mc_TB_ca)
  obtain ⟨e4, e12, e13, e14⟩ := mc_dec2
  have kk : mc_W G p l e mc_rm2 s m args below meth c (MQ below (mc_Qc G (some (.int 1), M1 ++ [mc_op])) args s 1 6 (mc_A G)) 4 M.length (mc_sz M) (4, L2, [.int x2, .ref a0, .int 0, .ref la], M2) := by
    intro H locs ls cells slots hH9 hS hl1 hc hz
    have hH9 : mc_H G M2 H := hH9
    have hl1 : lv_has ls 4 (mc_L G L2) := hl1
    have hc : cells + M.length = M2.length := hc
    have hz : slots + mc_sz M = mc_sz M2 := hz
    obtain rfl : cells = 0 := by omega
    obtain rfl : slots = 0 := by omega
    have hrcv : ∃ cellB : Cell, H[mc_a G a0]? = some cellB ∧ cellB.vm.isStatics = false ∧ s.vm.findClass (mc_cn 0) = some cellB.cls := by
      obtain ⟨r9, y1, cell, y2, y3, y4, -⟩ := hH9.at ha0 hrc
      have hr9 := mc_cl_eq y1
      subst hr9
      exact ⟨cell, y2, by rw [y4]; rfl, by rw [y3]; exact (hB.1.1 0 _ y1).2.1⟩
    have hPV : PreV s H (mc_cn 0) (mc_a G a0) (mc_PT kt G M2 [.ref a0, .int x2]) [.int x2] := ⟨mc_PT_blind, hrcv, fun U hU hW => mc_preT C hTW hTZ hH9 hS hU hW⟩
    have hM := mc_led1 l hfl (G := G) (kt := kt) (as := [.ref a0, .int x2]) (M := M2) (M1 := M1) (L1 := L1) (by show 2 ≤ 4; omega) hM1 hseg1
    have hr : vx_Run p l e mc_rm2 s m args below meth c H locs 0 0 1 6 (F0 m 4 ls [.int x2, .ref (mc_a G a0), .int 0, .ref (mc_a G la)]) [.int 0, .ref (mc_a G la)] (mc_QF G (Value.ref (mc_a G a0) :: [Value.int x2]).toArray) (mc_XT G M1) (mc_A G) :=
      vx_runV (Ts := mc_ws) (own := "StrikeAwakeLaw") (C := mc_cn 0) (index := 7) (bytes := prog_1_method_49_code) (maxL := 4) (ret := some .int) (n := 1) (cc := method_3_code) (nL := 4) ⟨C.1, C.2.1, hml, hown, hts⟩ hM
        ⟨⟨rfl, rfl, by decide, by decide, mc_pay hts f1, List.mem_cons_self, hts _ f1, hts _ f5, f9, mc_npar f10, hlk7⟩, hts _ (f3 (by decide)), hts _ (f4 rfl)⟩ hPV rfl rfl hl1.1 rfl (lv_room (by show 2 ≤ 8; omega)) e4 ⟨Nat.le_refl _, Nat.le_refl _⟩
    refine vx_calli (A0 := mc_A G) (A1 := mc_A G) (AX := mc_A G) hr hS (fun q _ h => h) (fun q h => h) (fun q _ h => h) ?_ (fun r u t H1 locs1 _ _ hp => hp.elim)
    intro E ce q9 u t H1 locs1 ht hal _ hE hz1 hk1 hS1 hce hcv hcl
    obtain ⟨rfl, hH1⟩ := hE
    refine vx_catch (own := "StrikeAwakeLaw") (name := mc_NE) (E := mc_NE) hown [] ⟨0, 9, 12, 13⟩ [] htab (fun z hz => nomatch hz) (show covers ⟨0, 9, 12, 13⟩ 4 = true by decide) (by decide) hcl13 hcast hce hcv hcl ?_
    refine lv_astore_n C.1 C.2.1 e12 rfl hl1 (by decide) rfl fun ls' hl' => lv_iconst C.1 C.2.1 e13 rfl ?_
    exact W.zret C.1 C.2.1 B.returns rfl (fun t' ht' hW' => ⟨rfl, by rw [ht', ← ht]; exact hH1, hS1.F ht'⟩) hS1.2.2 e14 B.notSynchronized
  have hl9 := lv_entry (([.ref a0, .int x, .ref la] : List Value).map (mc_v G)) (n := 4) (by show 3 ≤ 4; omega)
  rw [← hav, lg_entry_eq]
  rw [hav]
  generalize (lg_sl (([.ref a0, .int x, .ref la] : List Value).map (mc_v G)) ++ List.replicate (4 - (lg_sl (([.ref a0, .int x, .ref la] : List Value).map (mc_v G))).length) Slot.unset).toArray = ls0 at hl9 ⊢
  have hl10 : lv_has ls0 4 (mc_L G (lv_args 0 [.ref a0, .int x, .ref la])) := by
    rw [mc_L_args]
    exact hl9
  exact mc_seg_ok (R := mc_rm2) (call := fun _ _ _ => none) (d := 0) C (fun k q as M w _ h => by cases h) (fun k as M w h => by cases h) ⟨by decide, by decide⟩ (T := (4, L2, [.int x2, .ref a0, .int 0, .ref la], M2)) ⟨by show M2.length ≤ 1 + M.length; omega, by show mc_sz M2 ≤ 6 + mc_sz M; omega⟩ kk 4 _ hseg2 s.heap [] ls0 0 0 hH va_S.rf hl10 (Nat.zero_add _) (Nat.zero_add _)
