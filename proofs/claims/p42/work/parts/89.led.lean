/-! THE ONE METHOD THAT THROWS, and the law's call that catches it (own work) -/
def mc_y1 : MethodName := ⟨"StrikeAwake", "led", "(I)I"⟩
def mc_y2 : MethodName := ⟨"StrikeAwakeLaw", "led", "(LStrikeAwake;I[J)I"⟩
def mc_op : mc_E := .inl (99, 6, fun _ => .null)
def mc_rm1 : Room := { frames := 6, cells := 1, slots := 6, locals := 216 }
def mc_rm2 : Room := { frames := 7, cells := 1, slots := 6, locals := 252 }
def mc_rmL (M N : mc_M) : Room := { frames := 7, cells := N.length - M.length, slots := mc_sz N - mc_sz M, locals := 252 }
def mc_TW (U : State) : Prop := ∀ w ∈ mc_TB, va_Nw w U
theorem mc_TW.moved {s U : State} (hW : s.WarmedH U.vm) (h : mc_TW s) : mc_TW U := fun w hw => by
  have hk := List.all_eq_true.mp mc_TB_dk w hw
  have h1 := h w hw
  cases w with
  | declares x => exact va_Nw.warmD hW h1
  | castable C T => exact va_Nw.warmC hW h1
  | _ => cases hk
theorem mc_TW.same {s U : State} (hv : s.vm = U.vm) (h : mc_TW s) : mc_TW U := fun w hw => by
  have hk := List.all_eq_true.mp mc_TB_dk w hw
  have h1 := h w hw
  cases w with
  | declares x => exact va_Nw.same rfl hv h1
  | castable C T => exact va_Nw.same rfl hv h1
  | _ => cases hk
theorem mc_TW.use {s : State} {args : Array Value} (h : mc_TW s) {w : Cond} (hw : w ∈ mc_TB) : w.before args s = true := by
  have hk := List.all_eq_true.mp mc_TB_dk w hw
  have h1 := h w hw
  cases w with
  | declares x => exact va_Nw.use rfl h1
  | castable C T => exact va_Nw.use rfl h1
  | _ => cases hk
def mc_TZ (G : mc_G) (U : State) (H : Heap) : Prop := vx_Zq Bundle.tN "UNASSIGNED_STACK" Bundle.steD (mc_A G) U H ∧ vx_Zq Bundle.tN "SUPPRESSED_SENTINEL" Bundle.listD (mc_A G) U H
def mc_PT (kt : Nat → Option mc_E) (G : mc_G) (M : mc_M) (as : List Value) : Array Value → State → Prop := va_Pc (as.map (mc_v G)) (fun U => mc_H G M U.heap ∧ mc_B kt G U U.heap ∧ mc_TW U ∧ mc_TZ G U U.heap)
theorem mc_PT_blind {kt : Nat → Option mc_E} {G : mc_G} {M : mc_M} {as : List Value} : FrameBlind (mc_PT kt G M as) := by
  intro a U g mk ⟨h1, h2, h3, h4, h5, h6⟩
  exact ⟨h1, h2, mc_B.same (s := U) (U := U.calling g mk a) rfl h3, mc_TW.same (s := U) (U := U.calling g mk a) rfl h4, vx_Zq.moved (u := U) (U := U.calling g mk a) (Vm.Alike.refl _) h5, vx_Zq.moved (u := U) (U := U.calling g mk a) (Vm.Alike.refl _) h6⟩
def mc_XT (G : mc_G) (M : mc_M) : String → State → State → Prop := vx_X (S := Unit) (fun _ => True) (fun E _ t => E = mc_NE ∧ mc_H G (M ++ [mc_op]) t.heap) (mc_A G)
def mc_QF (G : mc_G) : Array Value → State → Outcome → State → Prop := va_Qi (S := Unit) (fun _ _ => False) (fun _ _ => True) (mc_A G)
theorem mc_wl_at {w : Cond} (h : w ∈ [Cond.classLink "StrikeAwakeLaw" 13 mc_NE, .methodLink "StrikeAwakeLaw" 220 ⟨"StrikeAwakeLaw", "led", "(LStrikeAwake;I[J)I"⟩, .static ⟨"StrikeAwakeLaw", "led", "(LStrikeAwake;I[J)I"⟩, .initialized "StrikeAwakeLaw", .codeWith ⟨"StrikeAwakeLaw", "led", "(LStrikeAwake;I[J)I"⟩ method_3_code 4 (some .int) [(0, 9, 12, 13)], .methodLink "StrikeAwakeLaw" 7 ⟨"StrikeAwake", "led", "(I)I"⟩]) : w ∈ mc_ws := by
  have h1 := List.all_eq_true.mp mc_wl w h
  simp only [Bool.and_eq_true] at h1
  exact List.mem_filter.mpr ⟨mc_ls_in h1.1, h1.2⟩
theorem mc_TH_at {s : State} {args : Array Value} (hts : ∀ w ∈ mc_ws, w.before args s = true) (hT : mc_TW s) : ∀ w ∈ mc_TH, w.before args s = true := fun w hw => by
  by_cases g : goodWord w = true
  · exact hts w (List.mem_filter.mpr ⟨mc_ls_in (List.all_eq_true.mp mc_TH_in w hw), g⟩)
  · exact hT.use (List.mem_filter.mpr ⟨hw, by
      cases hg : goodWord w
      · rfl
      · exact absurd hg g⟩)
theorem mc_TH_1 : Cond.classLink "StrikeAwake" 320 mc_NE ∈ mc_TH := List.mem_cons_self
theorem mc_TH_2 : Cond.initialized mc_NE ∈ mc_TH := List.mem_cons_of_mem _ List.mem_cons_self
theorem mc_TH_3 {w : Cond} (h : w ∈ mc_atX "StrikeAwake" 324 mc_NE 13 prog_29_method_4_code mc_nms) : w ∈ mc_TH := List.mem_cons_of_mem _ (List.mem_cons_of_mem _ h)
section MC13

variable {kt : Nat → Option mc_E} {own : Nat} {ini : Bool} {ret9 : Option FieldType} {cc : ByteArray}

variable {G : mc_G} {p : Program} {l : Launch} {e : Env} {R : Room} {s : State} {m : MethodId} {args : Array Value} {below : List Frame} {meth : Method} {c : Code} {Q : State → Prop} {nL l0 z0 : Nat}
theorem mc_seg_le {call : Nat → List Value → mc_M → Option mc_R} (IHle : ∀ (k : Nat) (as : List Value) (M : mc_M) (w : mc_R), call k as M = some w → mc_le M w.2) : ∀ (n : Nat) (S T : mc_S), mc_seg kt call own nL ini ret9 cc n S = some T → mc_le S.2.2.2 T.2.2.2
  | 0, S, T, h => by
    unfold mc_seg at h
    cases h
    exact mc_le_rf _
  | n + 1, S, T, h => by
    unfold mc_seg at h
    split at h
    · next x k hd =>
      split at h
      · next S1 hs => exact mc_le.tr (mc_step_k IHle hs) (mc_seg_le IHle n S1 T h)
      · cases h
    · cases h
theorem mc_seg_ok (C : mc_X kt G own nL ini ret9 cc p s m args meth c) {call : Nat → List Value → mc_M → Option mc_R} {d : Nat} (IH : ∀ (k : Nat) (q : Nat × MethodName × ByteArray × Nat × Option FieldType × Nat × Nat) (as : List Value) (M : mc_M) (w : mc_R), mc_mt k = some q → call k as M = some w → mc_Met l kt G d q as M w ∧ mc_le M w.2) (IHle : ∀ (k : Nat) (as : List Value) (M : mc_M) (w : mc_R), call k as M = some w → mc_le M w.2) (hF : d + 6 ≤ R.frames ∧ 36 * (d + 6) ≤ R.locals) {T : mc_S} (hR : T.2.2.2.length ≤ R.cells + l0 ∧ mc_sz T.2.2.2 ≤ R.slots + z0)
    (kk : mc_W G p l e R s m args below meth c Q nL l0 z0 T) : ∀ (n : Nat) (S : mc_S), mc_seg kt call own nL ini ret9 cc n S = some T → mc_W G p l e R s m args below meth c Q nL l0 z0 S
  | 0, S, h => by
    unfold mc_seg at h
    cases h
    exact kk
  | n + 1, S, h => by
    unfold mc_seg at h
    split at h
    · next x k hd =>
      split at h
      · next S1 hs =>
        have hle := mc_seg_le IHle n S1 T h
        exact mc_step_ok C IH hF hd hs ⟨Nat.le_trans hle.1 hR.1, Nat.le_trans hle.2 hR.2⟩ (mc_seg_ok C IH IHle hF hR kk n S1 h)
      · cases h
    · cases h
theorem mc_preT (C : mc_X kt G own nL ini ret9 cc p s m args meth c) (hT : mc_TW s) (hZ : mc_TZ G s s.heap) {M : mc_M} {H : Heap} {locs : List Loc} (hH : mc_H G M H) (hS : va_S (mc_A G) s.heap H locs) {as : List Value} {U : State} (hU : U.heap = H) (hW : s.WarmedH U.vm) : mc_PT kt G M as (as.map (mc_v G)).toArray U := by
  obtain ⟨h1, h2, h3⟩ := mc_pre C hH hS (as := as) hU hW
  refine ⟨h1, h2, h3, hT.moved hW, ?_, ?_⟩
  · rw [hU]
    exact vx_Zq.moved hW.alike (hZ.1.kept hS.2.1)
  · rw [hU]
    exact vx_Zq.moved hW.alike (hZ.2.kept hS.2.1)
end MC13
set_option maxHeartbeats 200000 in
theorem mc_led1 (l : Launch) (hfl : l.stackTraces = false) {kt : Nat → Option mc_E} {G : mc_G} {F n : Nat} {as : List Value} {M M1 : mc_M} {L1 : List (Nat × Value)} (hlen : (lg_sl as).length ≤ 4) (hM : M1.length = M.length ∧ mc_sz M1 = mc_sz M) (hseg : mc_seg kt (mc_call kt F 0) 0 4 false (some .int) prog_1_method_49_code n (0, lv_args 0 as, [], M) = some (46, L1, [], M1)) :
    vx_Met l mc_y1 (Cond.code mc_y1 prog_1_method_49_code 4 (some .int) :: mc_ws) mc_rm1 (mc_PT kt G M as) (mc_QF G) (mc_XT G M1) 1 6 (mc_A G) := by
  refine vx_ofW (cc := prog_1_method_49_code) (maxL := 4) (ret := some .int) (by decide +kernel) rfl ?_
  intro p e s m args below meth c s₁ B hml hnt hv
  obtain ⟨rfl, hH, hB, hTW, hTZ⟩ := hv
  have hts : ∀ w ∈ mc_ws, w.before (as.map (mc_v G)).toArray s = true := fun w hw => atoms_spec (ws := Cond.code mc_y1 prog_1_method_49_code 4 (some .int) :: mc_ws) B.pre w (List.mem_cons_of_mem _ hw)
  have hown : s.vm.findClass (mc_cn 0) = some m.cls := findClass_of_methodNamed B.named
  have C : mc_X kt G 0 4 false (some .int) prog_1_method_49_code p s m (as.map (mc_v G)).toArray meth c := ⟨B.exec, B.bytes, hown, hts, hml, hB, by rw [hH.1]; exact Nat.le_add_right _ _, (fun h => by cases h), B.notSynchronized, B.returns⟩
  have hTH := mc_TH_at hts hTW
  have hk1 : (Cond.classLink "StrikeAwake" 320 mc_NE).before (as.map (mc_v G)).toArray s = true := hTH _ mc_TH_1
  have hk2 : (Cond.initialized mc_NE).before (as.map (mc_v G)).toArray s = true := hTH _ mc_TH_2
  have hk3 : ∀ w ∈ mc_atX "StrikeAwake" 324 mc_NE 13 prog_29_method_4_code mc_nms, w.before (as.map (mc_v G)).toArray s = true := fun w hw => hTH w (mc_TH_3 hw)
  have hstr9 := hB.2.2.2.1.2.2.2.1
  have hstr0 := hstr9 _ mc_s71
  have hr1 : mc_nms.length + 3 < mc_rm1.frames := by decide +kernel
  have hr2 : (([] : List Value).map fun v => v.category).sum + (13 * (mc_nms.length + 1) + 43) ≤ mc_rm1.locals := by decide +kernel
  have hl9 := lv_entry (as.map (mc_v G)) (n := 4) (by rw [mc_sl_len]; exact hlen)
  rw [lg_entry_eq]
  generalize (lg_sl (as.map (mc_v G)) ++ List.replicate (4 - (lg_sl (as.map (mc_v G))).length) Slot.unset).toArray = ls0 at hl9 ⊢
  have hl10 : lv_has ls0 4 (mc_L G (lv_args 0 as)) := by
    rw [mc_L_args]
    exact hl9
  have kk : mc_W G p l e mc_rm1 s m (as.map (mc_v G)).toArray below meth c (vx_MQ below (mc_QF G) (mc_XT G M1) (as.map (mc_v G)).toArray s 1 6 (mc_A G)) 4 M.length (mc_sz M) (46, L1, [], M1) := by
    intro H locs ls cells slots hH9 hS hl1 hc hz
    have hH9 : mc_H G M1 H := hH9
    have hc : cells + M.length = M1.length := hc
    have hz : slots + mc_sz M = mc_sz M1 := hz
    obtain rfl : cells = 0 := by omega
    obtain rfl : slots = 0 := by omega
    obtain ⟨d0, d3, d4, d7, d10⟩ := mc_dec
    obtain ⟨x0, x1, x2, x5⟩ := mc_dec4
    have hstr : vk_R "StrikeAwake" 322 "there is no such person away" (mc_a G 71) s := hstr0
    have hgood : ∀ w ∈ Cond.classLink "StrikeAwake" 320 mc_NE :: Cond.initialized mc_NE :: mc_atX "StrikeAwake" 324 mc_NE 13 prog_29_method_4_code mc_nms, vx_ot w = true := List.all_eq_true.mp mc_TH_ot
    have hfit : ∀ n ∈ mc_nms, Bundle.fit n = true := by decide +kernel
    have hfit0 : Bundle.fit mc_NE = true := by decide +kernel
    have hsz : ls.size = c.maxLocals := by rw [hl1.1, hml]
    have hx9 : ∀ t : State, s.vm.Alike t.vm → t.heap.size = H.size + 1 → (∀ q : Nat, q < H.size → t.heap[q]? = H[q]?) → mc_XT G M1 mc_NE s t := fun t _ z hk => ⟨(), trivial, ⟨rfl, mc_H.push hH9 (fun h7 => absurd h7 (by decide)) z hk⟩, ⟨by rw [z]; have := hS.1; omega, fun q h1 h2 => by rw [hk q (Nat.lt_of_lt_of_le h1 hS.1)]; exact hS.2.1 q h1 h2⟩⟩
    exact mc_throwSW (mc := 1) (ms := 6) (A := mc_A G) (free := mc_A G) (Qc := mc_QF G) (XC := mc_XT G M1) (own := "StrikeAwake") (cls := mc_NE) (text := "there is no such person away") (names := mc_nms) (ik := 320) (is := 322) (ic := 324) (ix := 13) (rx := prog_29_method_4_code) (sa := mc_a G 71) (rest := []) (cc := prog_1_method_49_code) (pc := 46) C.1 C.2.1 hfl hown hfit0 hfit
      hk1 hk2 hstr hk3 hgood hTZ.1 hTZ.2 hS hsz x0 x1 x2 x5 d0 d3 d4 d7 d10 (fun x hx => (hnt x hx).elim) hr1 hr2 (Nat.le_refl _) (Nat.le_refl _) B.notSynchronized hx9 hS.2.2 (Nat.le_refl _) (Nat.le_refl _)
  exact mc_seg_ok (R := mc_rm1) (call := mc_call kt F 0) (d := 0) C (mc_call_ok l 0) (mc_call_le 0) ⟨by decide, by decide⟩ (T := (46, L1, [], M1)) ⟨by show M1.length ≤ 1 + M.length; omega, by show mc_sz M1 ≤ 6 + mc_sz M; omega⟩ kk n _ hseg s.heap [] ls0 0 0 hH va_S.rf hl10 (Nat.zero_add _) (Nat.zero_add _)
