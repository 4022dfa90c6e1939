/-! THE LAW'S HELPER WHERE NOTHING IS THROWN, and its call out of the law (own work) -/
theorem mc_led2r (l : Launch) {kt : Nat → Option mc_E} {G : mc_G} {F n9 : Nat} {as : List Value} {M : mc_M} {w : mc_R} (hlen : (lg_sl as).length ≤ 4) (h9 : mc_loop kt (mc_call kt F 1) 11 4 false (some .int) method_3_code n9 (0, lv_args 0 as, [], M) = some w) :
    Met l mc_y2 (Cond.codeWith mc_y2 method_3_code 4 (some .int) [(0, 9, 12, 13)] :: mc_ws) (mc_rmL M w.2) (mc_PT kt G M as) (mc_Qc G w) (w.2.length - M.length) (mc_sz w.2 - mc_sz M) (mc_A G) := by
  have hle : mc_le M w.2 := mc_loop_le (mc_call_le 1) n9 _ w h9
  refine va_MetW (cc := method_3_code) (maxL := 4) (ret := some .int) (hh := [(0, 9, 12, 13)]) (by decide +kernel) rfl ?_
  intro p e s m args below meth c s₁ B hml hv
  obtain ⟨rfl, hH, hB, hTW, hTZ⟩ := hv
  have hts : ∀ w ∈ mc_ws, w.before (as.map (mc_v G)).toArray s = true := fun w hw => atoms_spec (ws := Cond.codeWith mc_y2 method_3_code 4 (some .int) [(0, 9, 12, 13)] :: mc_ws) B.pre w (List.mem_cons_of_mem _ hw)
  have hown : s.vm.findClass (mc_cn 11) = some m.cls := findClass_of_methodNamed B.named
  have C : mc_X kt G 11 4 false (some .int) method_3_code p s m (as.map (mc_v G)).toArray meth c := ⟨B.exec, B.bytes, hown, hts, hml, hB, by rw [hH.1]; exact Nat.le_add_right _ _, (fun h => by cases h), B.notSynchronized, B.returns⟩
  have hl9 := lv_entry (as.map (mc_v G)) (n := 4) (by rw [mc_sl_len]; exact hlen)
  rw [lg_entry_eq]
  generalize (lg_sl (as.map (mc_v G)) ++ List.replicate (4 - (lg_sl (as.map (mc_v G))).length) Slot.unset).toArray = ls0 at hl9 ⊢
  have hl10 : lv_has ls0 4 (mc_L G (lv_args 0 as)) := by
    rw [mc_L_args]
    exact hl9
  have hw := mc_loop_ok (R := mc_rmL M w.2) (Q := MQ below (mc_Qc G w) (as.map (mc_v G)).toArray s (w.2.length - M.length) (mc_sz w.2 - mc_sz M) (mc_A G)) (l0 := M.length) (z0 := mc_sz M) (e := e) (l := l) (below := below) C (mc_call_ok l 1) (mc_call_le 1) ⟨Nat.le_refl 7, Nat.le_refl 252⟩ (w := w)
    ⟨by show w.2.length ≤ (w.2.length - M.length) + M.length; have := hle.1; omega, by show mc_sz w.2 ≤ (mc_sz w.2 - mc_sz M) + mc_sz M; have := hle.2; omega⟩
    (fun S x n hd hs => mc_fin C rfl hd hs) n9 _ h9
  exact hw s.heap [] ls0 0 0 hH va_S.rf hl10 (Nat.zero_add _) (Nat.zero_add _)
section MC14

variable {kt : Nat → Option mc_E} {p : Program} {l : Launch} {e : Env} {s : State} {m : MethodId} {below : List Frame} {meth : Method} {c : Code} {b : Nat} {G : mc_G}
/-- the law's call of its helper, at its place -/
theorem mc_ledcall (C : mc_X kt G 11 7 false (some .boolean) code p s m #[Value.ref b] meth c) (hT : mc_TW s) (hZ : mc_TZ G s s.heap) {x : Int32} {a0 la : Nat} {M : mc_M} {w : mc_R} {L : List (Nat × Value)} (hle : mc_le M w.2) (hfit : w.2.length ≤ 601024 ∧ mc_sz w.2 ≤ 7293034)
    (hM : Met l mc_y2 (Cond.codeWith mc_y2 method_3_code 4 (some .int) [(0, 9, 12, 13)] :: mc_ws) (mc_rmL M w.2) (mc_PT kt G M [.ref a0, .int x, .ref la]) (mc_Qc G w) (w.2.length - M.length) (mc_sz w.2 - mc_sz M) (mc_A G))
    (kk : mc_W G p l e room_1 s m #[Value.ref b] below meth c (lw_Z below #[Value.ref b] s) 7 0 0 (1598, L, mc_rs w.1, w.2)) : mc_W G p l e room_1 s m #[Value.ref b] below meth c (lw_Z below #[Value.ref b] s) 7 0 0 (1595, L, [.ref la, .int x, .ref a0], M) := by
  have C0 := C
  obtain ⟨hx, hb9, hown, hts, hml, hB, hba, hini, hlk, hret⟩ := C
  intro H locs ls cells slots hH hS hl hc hz
  have hH : mc_H G M H := hH
  have hl : lv_has ls 7 (mc_L G L) := hl
  have hc : cells + 0 = M.length := hc
  have hz : slots + 0 = mc_sz M := hz
  have hle1 := hle.1
  have hle2 := hle.2
  have hf1 := hfit.1
  have hf2 := hfit.2
  refine mc_after (w := w) (M := M) (L := L) (nL := 7) (l0 := 0) (z0 := 0) (rest := []) (a := (([.ref a0, .int x, .ref la] : List Value).map (mc_v G)).toArray) hS ?_ hle hl hc hz (by rw [List.append_nil]; exact kk)
  show va_Run p l e room_1 s m #[Value.ref b] below meth c H locs cells slots (w.2.length - M.length) (mc_sz w.2 - mc_sz M) (F0 m 1595 ls (([.ref la, .int x, .ref a0] : List Value).map (mc_v G))) [] (mc_Qc G w (([.ref a0, .int x, .ref la] : List Value).map (mc_v G)).toArray) (mc_A G)
  have hPS : PreS s H (mc_PT kt G M [.ref a0, .int x, .ref la]) (([.ref a0, .int x, .ref la] : List Value).map (mc_v G)) := ⟨mc_PT_blind, fun U hU hW => mc_preT C0 hT hZ hH hS hU hW⟩
  have w1 : (Cond.methodLink "StrikeAwakeLaw" 220 mc_y2).before #[Value.ref b] s = true := hts _ (mc_wl_at (by unfold mc_y2; simp))
  have w2 : (Cond.static mc_y2).before #[Value.ref b] s = true := hts _ (mc_wl_at (by unfold mc_y2; simp))
  have w3 : (Cond.initialized "StrikeAwakeLaw").before #[Value.ref b] s = true := hts _ (mc_wl_at (by simp))
  have w4 : Cond.codeWith mc_y2 method_3_code 4 (some .int) [(0, 9, 12, 13)] ∈ mc_ws := mc_wl_at (by unfold mc_y2; simp)
  have hnp : (parseMethodDescriptor mc_y2.desc).map (fun d => d.parameters.length) = some 3 := by decide +kernel
  have hhf : 7 + 1 ≤ room_1.frames := by decide
  have hhl : 8 + (4 + 11) + 252 ≤ room_1.locals := by decide
  have hhc : cells + (w.2.length - M.length) ≤ room_1.cells := by show cells + (w.2.length - M.length) ≤ 601024; omega
  have hhs : slots + (mc_sz w.2 - mc_sz M) ≤ room_1.slots := by show slots + (mc_sz w.2 - mc_sz M) ≤ 7293034; omega
  have hn1 : mc_y2.cls ≠ "java/lang/invoke/MethodHandle" := by decide +kernel
  have hn2 : mc_y2.cls ≠ "java/lang/invoke/VarHandle" := by decide +kernel
  exact vx_runSW (Ts := mc_ws) (own := "StrikeAwakeLaw") (index := 220) (bytes := method_3_code) (maxL := 4) (ret := some .int) (hh := [(0, 9, 12, 13)]) (n := 3) (cc := code) (nL := 7) ⟨hx, hb9, hml, hown, hts⟩ hM
    ⟨⟨rfl, rfl, hhf, hhl, mc_pay hts w4, List.mem_cons_self⟩, hts _ w4, w3, ⟨hn1, hn2⟩, mc_npar hnp, w1, w2⟩ hPS rfl rfl hl.1 rfl (lv_room (by show 0 ≤ 8; omega)) mc_dec3 ⟨hhc, hhs⟩
end MC14
