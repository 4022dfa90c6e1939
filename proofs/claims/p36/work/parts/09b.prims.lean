section
/-! THE JDK's METHODS ON CONSTANTS (own work, wip/gen2/prims.py): a text's length and letters, an enum constant's place; each by contract over the machine, with the kit's rows -/
def mc_y_coder : MethodName := ⟨"java/lang/String", "coder", "()B"⟩
set_option maxRecDepth 20000 in
theorem mc_w_coder : Cond.code mc_y_coder prog_23_method_152_code 1 (some .byte) ∈ mc_ws := List.mem_filter.mpr ⟨mc_ch_sub 3 _ (List.mem_of_getElem? (i := 26) rfl), rfl⟩
def mc_y_length : MethodName := ⟨"java/lang/String", "length", "()I"⟩
set_option maxRecDepth 20000 in
theorem mc_w_length : Cond.code mc_y_length prog_23_method_54_code 1 (some .int) ∈ mc_ws := List.mem_filter.mpr ⟨mc_ch_sub 3 _ (List.mem_of_getElem? (i := 22) rfl), rfl⟩
def mc_y_isLatin1 : MethodName := ⟨"java/lang/String", "isLatin1", "()Z"⟩
set_option maxRecDepth 20000 in
theorem mc_w_isLatin1 : Cond.code mc_y_isLatin1 prog_23_method_154_code 1 (some .boolean) ∈ mc_ws := List.mem_filter.mpr ⟨mc_ch_sub 3 _ (List.mem_of_getElem? (i := 36) rfl), rfl⟩
def mc_y_charAt : MethodName := ⟨"java/lang/String", "charAt", "(I)C"⟩
set_option maxRecDepth 20000 in
theorem mc_w_charAt : Cond.code mc_y_charAt prog_23_method_56_code 2 (some .char) ∈ mc_ws := List.mem_filter.mpr ⟨mc_ch_sub 3 _ (List.mem_of_getElem? (i := 32) rfl), rfl⟩
def mc_y_check : MethodName := ⟨"java/lang/String", "checkIndex", "(II)V"⟩
set_option maxRecDepth 20000 in
theorem mc_w_check : Cond.code mc_y_check prog_23_method_155_code 2 (none) ∈ mc_ws := List.mem_filter.mpr ⟨mc_ch_sub 3 _ (List.mem_of_getElem? (i := 42) rfl), rfl⟩
def mc_y_pcheck : MethodName := ⟨"jdk/internal/util/Preconditions", "checkIndex", "(IILjava/util/function/BiFunction;)I"⟩
set_option maxRecDepth 20000 in
theorem mc_w_pcheck : Cond.code mc_y_pcheck prog_30_method_11_code 3 (some .int) ∈ mc_ws := List.mem_filter.mpr ⟨mc_ch_sub 3 _ (List.mem_of_getElem? (i := 47) rfl), rfl⟩
def mc_y_l1 : MethodName := ⟨"java/lang/StringLatin1", "charAt", "([BI)C"⟩
set_option maxRecDepth 20000 in
theorem mc_w_l1 : Cond.code mc_y_l1 prog_24_method_2_code 2 (some .char) ∈ mc_ws := List.mem_filter.mpr ⟨mc_ch_sub 3 _ (List.mem_of_getElem? (i := 39) rfl), rfl⟩
def mc_y_ordinal : MethodName := ⟨"java/lang/Enum", "ordinal", "()I"⟩
set_option maxRecDepth 20000 in
theorem mc_w_ordinal : Cond.code mc_y_ordinal prog_18_method_2_code 1 (some .int) ∈ mc_ws := List.mem_filter.mpr ⟨mc_ch_sub 3 _ (List.mem_of_getElem? (i := 82) rfl), rfl⟩
theorem mc_w_compact : Cond.fieldLink "java/lang/String" 38 "java/lang/String" "COMPACT_STRINGS" "Z" ∈ mc_ws := mc_at_mem (i := (3, 27)) (by decide +kernel)
theorem mc_w_fcoder : Cond.fieldLink "java/lang/String" 15 "java/lang/String" "coder" "B" ∈ mc_ws := mc_at_mem (i := (9, 114)) (by decide +kernel)
theorem mc_w_fvalue : Cond.fieldLink "java/lang/String" 9 "java/lang/String" "value" "[B" ∈ mc_ws := mc_at_mem (i := (9, 113)) (by decide +kernel)
theorem mc_w_siob : Cond.fieldLink "java/lang/String" 1053 "jdk/internal/util/Preconditions" "SIOOBE_FORMATTER" "Ljava/util/function/BiFunction;" ∈ mc_ws := mc_at_mem (i := (3, 43)) (by decide +kernel)
theorem mc_w_ford : Cond.fieldLink "java/lang/Enum" 7 "java/lang/Enum" "ordinal" "I" ∈ mc_ws := mc_at_mem (i := (9, 116)) (by decide +kernel)
theorem mc_w_l_coder : Cond.methodLink "java/lang/String" 335 mc_y_coder ∈ mc_ws := mc_at_mem (i := (3, 23)) (by decide +kernel)
theorem mc_w_l_isLatin1 : Cond.methodLink "java/lang/String" 492 mc_y_isLatin1 ∈ mc_ws := mc_at_mem (i := (3, 33)) (by decide +kernel)
theorem mc_w_l_l1 : Cond.methodLink "java/lang/String" 495 mc_y_l1 ∈ mc_ws := mc_at_mem (i := (3, 37)) (by decide +kernel)
theorem mc_w_l_check : Cond.methodLink "java/lang/StringLatin1" 9 mc_y_check ∈ mc_ws := mc_at_mem (i := (3, 40)) (by decide +kernel)
theorem mc_w_l_pcheck : Cond.methodLink "java/lang/String" 1059 mc_y_pcheck ∈ mc_ws := mc_at_mem (i := (3, 45)) (by decide +kernel)
theorem mc_w_i_coder : Cond.instanceMethod mc_y_coder ∈ mc_ws := mc_at_mem (i := (3, 24)) (by decide +kernel)
theorem mc_w_i_length : Cond.instanceMethod mc_y_length ∈ mc_ws := mc_at_mem (i := (3, 20)) (by decide +kernel)
theorem mc_w_i_isLatin1 : Cond.instanceMethod mc_y_isLatin1 ∈ mc_ws := mc_at_mem (i := (3, 34)) (by decide +kernel)
theorem mc_w_i_charAt : Cond.instanceMethod mc_y_charAt ∈ mc_ws := mc_at_mem (i := (3, 30)) (by decide +kernel)
theorem mc_w_i_ordinal : Cond.instanceMethod mc_y_ordinal ∈ mc_ws := mc_at_mem (i := (3, 81)) (by decide +kernel)
theorem mc_w_t_check : Cond.static mc_y_check ∈ mc_ws := mc_at_mem (i := (3, 41)) (by decide +kernel)
theorem mc_w_t_pcheck : Cond.static mc_y_pcheck ∈ mc_ws := mc_at_mem (i := (3, 46)) (by decide +kernel)
theorem mc_w_t_l1 : Cond.static mc_y_l1 ∈ mc_ws := mc_at_mem (i := (3, 38)) (by decide +kernel)
theorem mc_w_s_coder : Cond.selects "java/lang/String" mc_y_coder mc_y_coder ∈ mc_ws := mc_at_mem (i := (3, 25)) (by decide +kernel)
theorem mc_w_s_length : Cond.selects "java/lang/String" mc_y_length mc_y_length ∈ mc_ws := mc_at_mem (i := (3, 21)) (by decide +kernel)
theorem mc_w_s_isLatin1 : Cond.selects "java/lang/String" mc_y_isLatin1 mc_y_isLatin1 ∈ mc_ws := mc_at_mem (i := (3, 35)) (by decide +kernel)
theorem mc_w_s_charAt : Cond.selects "java/lang/String" mc_y_charAt mc_y_charAt ∈ mc_ws := mc_at_mem (i := (3, 31)) (by decide +kernel)
theorem mc_w_n_ST : Cond.initialized "java/lang/String" ∈ mc_ws := mc_at_mem (i := (1, 12)) (by decide +kernel)
theorem mc_w_n_L1 : Cond.initialized "java/lang/StringLatin1" ∈ mc_ws := mc_at_mem (i := (1, 13)) (by decide +kernel)
theorem mc_w_n_PC : Cond.initialized "jdk/internal/util/Preconditions" ∈ mc_ws := mc_at_mem (i := (1, 14)) (by decide +kernel)
theorem mc_w_n_EN : Cond.initialized "java/lang/Enum" ∈ mc_ws := mc_at_mem (i := (1, 17)) (by decide +kernel)
theorem mc_w_same : Cond.sameMethod "StrikeAwake$Reserved" "java/lang/Enum" "ordinal" "()I" ∈ mc_ws := mc_at_mem (i := (3, 78)) (by decide +kernel)
def mc_yR : MethodName := ⟨"StrikeAwake$Reserved", "ordinal", "()I"⟩
theorem mc_w_selR : Cond.selects "StrikeAwake$Reserved" mc_yR mc_y_ordinal ∈ mc_ws := mc_at_mem (i := (3, 80)) (by decide +kernel)
theorem mc_d_coder_0 : decode prog_23_method_152_code 0 = .ok (.getstatic 38, 3) := by decide +kernel
theorem mc_d_coder_3 : decode prog_23_method_152_code 3 = .ok (.ifCond .eq 10, 3) := by decide +kernel
theorem mc_d_coder_6 : decode prog_23_method_152_code 6 = .ok (.aload_n 0, 1) := by decide +kernel
theorem mc_d_coder_7 : decode prog_23_method_152_code 7 = .ok (.getfield 15, 3) := by decide +kernel
theorem mc_d_coder_10 : decode prog_23_method_152_code 10 = .ok (.goto 4, 3) := by decide +kernel
theorem mc_d_coder_14 : decode prog_23_method_152_code 14 = .ok (.ireturn, 1) := by decide +kernel
theorem mc_d_length_0 : decode prog_23_method_54_code 0 = .ok (.aload_n 0, 1) := by decide +kernel
theorem mc_d_length_1 : decode prog_23_method_54_code 1 = .ok (.getfield 9, 3) := by decide +kernel
theorem mc_d_length_4 : decode prog_23_method_54_code 4 = .ok (.arraylength, 1) := by decide +kernel
theorem mc_d_length_5 : decode prog_23_method_54_code 5 = .ok (.aload_n 0, 1) := by decide +kernel
theorem mc_d_length_6 : decode prog_23_method_54_code 6 = .ok (.invokevirtual 335, 3) := by decide +kernel
theorem mc_d_length_9 : decode prog_23_method_54_code 9 = .ok (.ishr, 1) := by decide +kernel
theorem mc_d_length_10 : decode prog_23_method_54_code 10 = .ok (.ireturn, 1) := by decide +kernel
theorem mc_d_isLatin1_0 : decode prog_23_method_154_code 0 = .ok (.getstatic 38, 3) := by decide +kernel
theorem mc_d_isLatin1_3 : decode prog_23_method_154_code 3 = .ok (.ifCond .eq 14, 3) := by decide +kernel
theorem mc_d_isLatin1_6 : decode prog_23_method_154_code 6 = .ok (.aload_n 0, 1) := by decide +kernel
theorem mc_d_isLatin1_7 : decode prog_23_method_154_code 7 = .ok (.getfield 15, 3) := by decide +kernel
theorem mc_d_isLatin1_10 : decode prog_23_method_154_code 10 = .ok (.ifCond .ne 7, 3) := by decide +kernel
theorem mc_d_isLatin1_13 : decode prog_23_method_154_code 13 = .ok (.iconst 1, 1) := by decide +kernel
theorem mc_d_isLatin1_14 : decode prog_23_method_154_code 14 = .ok (.goto 4, 3) := by decide +kernel
theorem mc_d_isLatin1_18 : decode prog_23_method_154_code 18 = .ok (.ireturn, 1) := by decide +kernel
theorem mc_d_charAt_0 : decode prog_23_method_56_code 0 = .ok (.aload_n 0, 1) := by decide +kernel
theorem mc_d_charAt_1 : decode prog_23_method_56_code 1 = .ok (.invokevirtual 492, 3) := by decide +kernel
theorem mc_d_charAt_4 : decode prog_23_method_56_code 4 = .ok (.ifCond .eq 12, 3) := by decide +kernel
theorem mc_d_charAt_7 : decode prog_23_method_56_code 7 = .ok (.aload_n 0, 1) := by decide +kernel
theorem mc_d_charAt_8 : decode prog_23_method_56_code 8 = .ok (.getfield 9, 3) := by decide +kernel
theorem mc_d_charAt_11 : decode prog_23_method_56_code 11 = .ok (.iload_n 1, 1) := by decide +kernel
theorem mc_d_charAt_12 : decode prog_23_method_56_code 12 = .ok (.invokestatic 495, 3) := by decide +kernel
theorem mc_d_charAt_15 : decode prog_23_method_56_code 15 = .ok (.ireturn, 1) := by decide +kernel
theorem mc_d_check_0 : decode prog_23_method_155_code 0 = .ok (.iload_n 0, 1) := by decide +kernel
theorem mc_d_check_1 : decode prog_23_method_155_code 1 = .ok (.iload_n 1, 1) := by decide +kernel
theorem mc_d_check_2 : decode prog_23_method_155_code 2 = .ok (.getstatic 1053, 3) := by decide +kernel
theorem mc_d_check_5 : decode prog_23_method_155_code 5 = .ok (.invokestatic 1059, 3) := by decide +kernel
theorem mc_d_check_8 : decode prog_23_method_155_code 8 = .ok (.pop, 1) := by decide +kernel
theorem mc_d_check_9 : decode prog_23_method_155_code 9 = .ok (.return_, 1) := by decide +kernel
theorem mc_d_pcheck_0 : decode prog_30_method_11_code 0 = .ok (.iload_n 0, 1) := by decide +kernel
theorem mc_d_pcheck_1 : decode prog_30_method_11_code 1 = .ok (.ifCond .lt 8, 3) := by decide +kernel
theorem mc_d_pcheck_4 : decode prog_30_method_11_code 4 = .ok (.iload_n 0, 1) := by decide +kernel
theorem mc_d_pcheck_5 : decode prog_30_method_11_code 5 = .ok (.iload_n 1, 1) := by decide +kernel
theorem mc_d_pcheck_6 : decode prog_30_method_11_code 6 = .ok (.if_icmp .lt 10, 3) := by decide +kernel
theorem mc_d_pcheck_16 : decode prog_30_method_11_code 16 = .ok (.iload_n 0, 1) := by decide +kernel
theorem mc_d_pcheck_17 : decode prog_30_method_11_code 17 = .ok (.ireturn, 1) := by decide +kernel
theorem mc_d_l1_0 : decode prog_24_method_2_code 0 = .ok (.iload_n 1, 1) := by decide +kernel
theorem mc_d_l1_1 : decode prog_24_method_2_code 1 = .ok (.aload_n 0, 1) := by decide +kernel
theorem mc_d_l1_2 : decode prog_24_method_2_code 2 = .ok (.arraylength, 1) := by decide +kernel
theorem mc_d_l1_3 : decode prog_24_method_2_code 3 = .ok (.invokestatic 9, 3) := by decide +kernel
theorem mc_d_l1_6 : decode prog_24_method_2_code 6 = .ok (.aload_n 0, 1) := by decide +kernel
theorem mc_d_l1_7 : decode prog_24_method_2_code 7 = .ok (.iload_n 1, 1) := by decide +kernel
theorem mc_d_l1_8 : decode prog_24_method_2_code 8 = .ok (.baload, 1) := by decide +kernel
theorem mc_d_l1_9 : decode prog_24_method_2_code 9 = .ok (.sipush 255, 3) := by decide +kernel
theorem mc_d_l1_12 : decode prog_24_method_2_code 12 = .ok (.iand, 1) := by decide +kernel
theorem mc_d_l1_13 : decode prog_24_method_2_code 13 = .ok (.i2c, 1) := by decide +kernel
theorem mc_d_l1_14 : decode prog_24_method_2_code 14 = .ok (.ireturn, 1) := by decide +kernel
theorem mc_d_ordinal_0 : decode prog_18_method_2_code 0 = .ok (.aload_n 0, 1) := by decide +kernel
theorem mc_d_ordinal_1 : decode prog_18_method_2_code 1 = .ok (.getfield 7, 3) := by decide +kernel
theorem mc_d_ordinal_4 : decode prog_18_method_2_code 4 = .ok (.ireturn, 1) := by decide +kernel
def mc_pr (f : Nat) : Room := { frames := f, cells := 0, slots := 0, locals := 36 * f }
/-- a method that changes nothing and answers v -/
def mc_PM (l : Launch) (kt : Nat → Option mc_E) (G : mc_G) (f : Nat) (y : MethodName) (bytes : ByteArray) (n : Nat) (ret : Option FieldType) (as : List Value) (v : Option Value) (M : mc_M) : Prop :=
  Met l y (Cond.code y bytes n ret :: mc_ws) (mc_pr f) (mc_Pc kt G M as) (mc_Qc G (v, M)) 0 0 (mc_A G)
theorem mc_sb_lt : mc_sb.all (fun q => decide (q.1 < 256) && decide (q.2.length < 64) && q.2.all (fun b => decide (0 ≤ b) && decide (b < 128))) = true := by decide +kernel
theorem mc_sb_k {k : Nat} {b : List Int32} (h : mc_find mc_sb k = some b) : k < 256 ∧ b.length < 64 ∧ ∀ x ∈ b, 0 ≤ x ∧ x < 128 := by
  have h1 := List.all_eq_true.mp mc_sb_lt _ (mc_find_mem h)
  simp only [Bool.and_eq_true, decide_eq_true_eq, List.all_eq_true] at h1
  exact ⟨h1.1.1, h1.1.2, h1.2⟩
theorem mc_sb_a {k : Nat} {b : List Int32} (h : mc_find mc_sb k = some b) (G : mc_G) : mc_a G k = G.1 k := mc_a_lo (mc_sb_k h).1
section MCP

variable {G : mc_G} {kt : Nat → Option mc_E} {l : Launch}
/-- a static call of such a method -/
theorem mc_pS {p : Program} {e : Env} {R : Room} {s : State} {m : MethodId} {args : Array Value} {below : List Frame} {meth : Method} {c : Code} {Q : State → Prop} {cc : ByteArray} {nL pc : Nat} {own : String} {M : mc_M} {as : List Value} {v : Option Value} {y : MethodName} {bytes : ByteArray} {n np f idx : Nat} {ret : Option FieldType}
    (hx : p.tables.exec = Jvm.exec) (hb : c.code = cc) (hml : c.maxLocals = nL) (hown : s.vm.findClass own = some m.cls) (hts : ∀ w ∈ mc_ws, w.before args s = true) (hB : mc_B kt G s s.heap) (hM : mc_PM l kt G f y bytes n ret as v M) (hcode : Cond.code y bytes n ret ∈ mc_ws) (hstat : Cond.static y ∈ mc_ws) (hini : Cond.initialized y.cls ∈ mc_ws) (hlink : Cond.methodLink own idx y ∈ mc_ws) (hy : y.cls ≠ "java/lang/invoke/MethodHandle" ∧ y.cls ≠ "java/lang/invoke/VarHandle") (hnp : (parseMethodDescriptor y.desc).map (fun d => d.parameters.length) = some np) (hn : np = as.length) (hR : f + 1 ≤ R.frames ∧ 8 + (n + 11) + 36 * f ≤ R.locals)
    {H : Heap} {locs : List Loc} {cells slots : Nat} {ls : Array Slot} {rest : List Value} (hH : mc_H G M H) (hS : va_S (mc_A G) s.heap H locs) (hsz : ls.size = nL) (hf : cells ≤ R.cells ∧ slots ≤ R.slots) (hW : (rest.map fun v => v.category).sum ≤ 8) (hd : decode cc pc = .ok (.invokestatic idx, 3))
    (k : ∀ (H1 : Heap) (locs1 : List Loc), mc_H G M H1 → va_S (mc_A G) s.heap H1 locs1 → W p l e R s m args below meth c H1 locs1 cells slots Q (F0 m (pc + 3) ls ((v.map (mc_v G)).toList ++ rest))) :
    W p l e R s m args below meth c H locs cells slots Q (F0 m pc ls ((as.reverse.map (mc_v G)) ++ rest)) := by
  have hPS : PreS s H (mc_Pc kt G M as) (as.map (mc_v G)) := ⟨mc_blind, fun U hU hW => ⟨rfl, by rw [hU]; exact hH, by
    refine mc_B.moved hW ?_
    rw [hU]
    exact hB.kept hS.2.1⟩⟩
  have hr : va_Run p l e R s m args below meth c H locs cells slots 0 0 (F0 m pc ls ((as.reverse.map (mc_v G)) ++ rest)) rest (mc_Qc G (v, M) (as.map (mc_v G)).toArray) (mc_A G) :=
    va_runS (Ts := mc_ws) (nL := nL) (n := np) ⟨hx, hb, hml, hown, hts⟩ hM ⟨⟨rfl, rfl, hR.1, hR.2, mc_pay hts hcode, List.mem_cons_self, hts _ hcode, hts _ hini, hy, mc_npar hnp, hts _ hlink⟩, hts _ hstat⟩ hPS rfl (by rw [List.length_map]; exact hn.symm) hsz (by show (as.reverse.map (mc_v G)) ++ rest = _; rw [List.map_reverse]) (lv_room hW) hd hf
  intro T hT X
  obtain ⟨v9, st₀, t, T', Lx, h0, X', hL, e1, e2, ⟨hv, hH1, hz1, hk1⟩, stp⟩ := hr T hT X
  cases Outcome.returned.inj hv
  rw [h0] at hz1 hk1
  obtain ⟨t2, a1, b1⟩ := k T'.heap (locs ++ Lx) (by rw [e1]; exact hH1) ⟨Nat.le_trans hS.1 (by rw [e1]; exact hz1), fun q h1 h2 => by rw [e1, hk1 q (Nat.lt_of_lt_of_le h1 hS.1) h2]; exact hS.2.1 q h1 h2, fun q hq => by
      rcases List.mem_append.mp hq with h | h
      · exact hS.2.2 q h
      · exact hL q h⟩ T' rfl X'
  exact ⟨t2, stp t2 a1, b1⟩
/-- a call by receiver of such a method -/
theorem mc_pV {p : Program} {e : Env} {R : Room} {s : State} {m : MethodId} {args : Array Value} {below : List Frame} {meth : Method} {c : Code} {Q : State → Prop} {cc : ByteArray} {nL pc : Nat} {own : String} {M : mc_M} {as : List Value} {b : Nat} {v : Option Value} {y : MethodName} {bytes : ByteArray} {n np f idx : Nat} {ret : Option FieldType}
    (hx : p.tables.exec = Jvm.exec) (hb : c.code = cc) (hml : c.maxLocals = nL) (hown : s.vm.findClass own = some m.cls) (hts : ∀ w ∈ mc_ws, w.before args s = true) (hB : mc_B kt G s s.heap) (hM : mc_PM l kt G f y bytes n ret (.ref b :: as) v M) (hcode : Cond.code y bytes n ret ∈ mc_ws) (hinst : Cond.instanceMethod y ∈ mc_ws) (hsel : Cond.selects y.cls y y ∈ mc_ws) (hini : Cond.initialized y.cls ∈ mc_ws) (hlink : Cond.methodLink own idx y ∈ mc_ws) (hy : y.cls ≠ "java/lang/invoke/MethodHandle" ∧ y.cls ≠ "java/lang/invoke/VarHandle") (hnp : (parseMethodDescriptor y.desc).map (fun d => d.parameters.length) = some np) (hn : np = as.length) (hR : f + 1 ≤ R.frames ∧ 8 + (n + 11) + 36 * f ≤ R.locals)
    {H : Heap} {locs : List Loc} {cells slots : Nat} {ls : Array Slot} {rest : List Value} (hH : mc_H G M H) (hS : va_S (mc_A G) s.heap H locs) (hO : va_O y.cls (mc_a G b) (mc_A G) s s.heap) (hsz : ls.size = nL) (hf : cells ≤ R.cells ∧ slots ≤ R.slots) (hW : (rest.map fun v => v.category).sum ≤ 8) (hd : decode cc pc = .ok (.invokevirtual idx, 3))
    (k : ∀ (H1 : Heap) (locs1 : List Loc), mc_H G M H1 → va_S (mc_A G) s.heap H1 locs1 → W p l e R s m args below meth c H1 locs1 cells slots Q (F0 m (pc + 3) ls ((v.map (mc_v G)).toList ++ rest))) :
    W p l e R s m args below meth c H locs cells slots Q (F0 m pc ls ((as.reverse.map (mc_v G)) ++ .ref (mc_a G b) :: rest)) := by
  have hrcv : ∃ cellB : Cell, H[mc_a G b]? = some cellB ∧ cellB.vm.isStatics = false ∧ s.vm.findClass y.cls = some cellB.cls := by
    obtain ⟨cell, h1, h2, h3, -⟩ := hO.kept hS.2.1
    exact ⟨cell, h1, h2, h3⟩
  have hPV : PreV s H y.cls (mc_a G b) (mc_Pc kt G M (.ref b :: as)) (as.map (mc_v G)) := ⟨mc_blind, hrcv, fun U hU hW => ⟨rfl, by rw [hU]; exact hH, by
    refine mc_B.moved hW ?_
    rw [hU]
    exact hB.kept hS.2.1⟩⟩
  have hr : va_Run p l e R s m args below meth c H locs cells slots 0 0 (F0 m pc ls ((as.reverse.map (mc_v G)) ++ .ref (mc_a G b) :: rest)) rest (mc_Qc G (v, M) (Value.ref (mc_a G b) :: as.map (mc_v G)).toArray) (mc_A G) :=
    va_runV (Ts := mc_ws) (nL := nL) (n := np) (C := y.cls) ⟨hx, hb, hml, hown, hts⟩ hM ⟨⟨rfl, rfl, hR.1, hR.2, mc_pay hts hcode, List.mem_cons_self, hts _ hcode, hts _ hini, hy, mc_npar hnp, hts _ hlink⟩, hts _ hinst, hts _ hsel⟩ hPV rfl (by rw [List.length_map]; exact hn.symm) hsz (by show (as.reverse.map (mc_v G)) ++ .ref (mc_a G b) :: rest = _; rw [List.map_reverse]) (lv_room hW) hd hf
  intro T hT X
  obtain ⟨v9, st₀, t, T', Lx, h0, X', hL, e1, e2, ⟨hv, hH1, hz1, hk1⟩, stp⟩ := hr T hT X
  cases Outcome.returned.inj hv
  rw [h0] at hz1 hk1
  obtain ⟨t2, a1, b1⟩ := k T'.heap (locs ++ Lx) (by rw [e1]; exact hH1) ⟨Nat.le_trans hS.1 (by rw [e1]; exact hz1), fun q h1 h2 => by rw [e1, hk1 q (Nat.lt_of_lt_of_le h1 hS.1) h2]; exact hS.2.1 q h1 h2, fun q hq => by
      rcases List.mem_append.mp hq with h | h
      · exact hS.2.2 q h
      · exact hL q h⟩ T' rfl X'
  exact ⟨t2, stp t2 a1, b1⟩
set_option maxHeartbeats 1000000 in
theorem mc_p_coder {k : Nat} {b : List Int32} (hk : mc_find mc_sb k = some b) (M : mc_M) : mc_PM l kt G 0 mc_y_coder prog_23_method_152_code 1 (some .byte) [.ref k] (some (.int 0)) M := by
  refine Met.ofW (cc := prog_23_method_152_code) (maxL := 1) (ret := some .byte) (by decide) rfl ?_
  intro p e s m args below meth c s₁ B hml hv
  obtain ⟨rfl, hH, hB⟩ := hv
  have hx := B.exec
  have hb := B.bytes
  have hr := B.returns
  have hts : ∀ w ∈ mc_ws, w.before (([.ref k] : List Value).map (mc_v G)).toArray s = true := fun w hw => atoms_spec (ws := Cond.code mc_y_coder prog_23_method_152_code 1 (some .byte) :: mc_ws) B.pre w (List.mem_cons_of_mem _ hw)
  have hown : s.vm.findClass "java/lang/String" = some m.cls := findClass_of_methodNamed B.named
  have hlk := B.notSynchronized
  have hl := lv_entry ([.ref (mc_a G k)]) (n := 1) (Nat.le_of_ble_eq_true rfl)
  show W p l e (mc_pr 0) s m ((([.ref k] : List Value).map (mc_v G)).toArray) below meth c s.heap [] 0 0 _ (entryFrame m ([.ref (mc_a G k)] : List Value).toArray 1)
  rw [lg_entry_eq]
  generalize (lg_sl ([.ref (mc_a G k)]) ++ List.replicate (1 - (lg_sl ([.ref (mc_a G k)])).length) Slot.unset).toArray = ls at hl ⊢
  have hl : lv_has ls 1 [(0, .ref (mc_a G k))] := hl
  have hS : va_S (mc_A G) s.heap s.heap [] := va_S.rf
  have hK := hB.2.2.2.2
  refine va_gets hx hb hK.2.2.1 hS hown (hts _ mc_w_compact) (fun x h => h) mc_d_coder_0 ?_
  refine lv_if_eq (tgt := 13) hx hb mc_d_coder_3 (by decide) (fun h => absurd h (by decide)) (fun _ => ?_)
  refine lv_aload_n hx hb mc_d_coder_6 rfl (lv_at hl 0 rfl) ?_
  rw [mc_sb_a hk]
  refine vk_getf hx hb (hK.1 k b hk).2.1 hS hown (hts _ mc_w_fcoder) (fun x h => h) mc_d_coder_7 ?_
  refine lv_goto (tgt := 14) hx hb mc_d_coder_10 (by decide) ?_
  exact W.zret hx hb hr rfl (fun t ht hW => ⟨rfl, by rw [ht]; exact hH, hS.F ht⟩) hS.2.2 mc_d_coder_14 hlk
set_option maxHeartbeats 1000000 in
theorem mc_p_isLatin1 {k : Nat} {b : List Int32} (hk : mc_find mc_sb k = some b) (M : mc_M) : mc_PM l kt G 0 mc_y_isLatin1 prog_23_method_154_code 1 (some .boolean) [.ref k] (some (.int 1)) M := by
  refine Met.ofW (cc := prog_23_method_154_code) (maxL := 1) (ret := some .boolean) (by decide) rfl ?_
  intro p e s m args below meth c s₁ B hml hv
  obtain ⟨rfl, hH, hB⟩ := hv
  have hx := B.exec
  have hb := B.bytes
  have hr := B.returns
  have hts : ∀ w ∈ mc_ws, w.before (([.ref k] : List Value).map (mc_v G)).toArray s = true := fun w hw => atoms_spec (ws := Cond.code mc_y_isLatin1 prog_23_method_154_code 1 (some .boolean) :: mc_ws) B.pre w (List.mem_cons_of_mem _ hw)
  have hown : s.vm.findClass "java/lang/String" = some m.cls := findClass_of_methodNamed B.named
  have hlk := B.notSynchronized
  have hl := lv_entry ([.ref (mc_a G k)]) (n := 1) (Nat.le_of_ble_eq_true rfl)
  show W p l e (mc_pr 0) s m ((([.ref k] : List Value).map (mc_v G)).toArray) below meth c s.heap [] 0 0 _ (entryFrame m ([.ref (mc_a G k)] : List Value).toArray 1)
  rw [lg_entry_eq]
  generalize (lg_sl ([.ref (mc_a G k)]) ++ List.replicate (1 - (lg_sl ([.ref (mc_a G k)])).length) Slot.unset).toArray = ls at hl ⊢
  have hl : lv_has ls 1 [(0, .ref (mc_a G k))] := hl
  have hS : va_S (mc_A G) s.heap s.heap [] := va_S.rf
  have hK := hB.2.2.2.2
  refine va_gets hx hb hK.2.2.1 hS hown (hts _ mc_w_compact) (fun x h => h) mc_d_isLatin1_0 ?_
  refine lv_if_eq (tgt := 17) hx hb mc_d_isLatin1_3 (by decide) (fun h => absurd h (by decide)) (fun _ => ?_)
  refine lv_aload_n hx hb mc_d_isLatin1_6 rfl (lv_at hl 0 rfl) ?_
  rw [mc_sb_a hk]
  refine vk_getf hx hb (hK.1 k b hk).2.1 hS hown (hts _ mc_w_fcoder) (fun x h => h) mc_d_isLatin1_7 ?_
  refine lv_if_ne (tgt := 17) hx hb mc_d_isLatin1_10 (by decide) (fun h => absurd rfl h) (fun _ => ?_)
  refine lv_iconst hx hb mc_d_isLatin1_13 rfl ?_
  refine lv_goto (tgt := 18) hx hb mc_d_isLatin1_14 (by decide) ?_
  exact W.zret hx hb hr rfl (fun t ht hW => ⟨rfl, by rw [ht]; exact hH, hS.F ht⟩) hS.2.2 mc_d_isLatin1_18 hlk
set_option maxHeartbeats 1000000 in
theorem mc_p_length {k : Nat} {b : List Int32} (hk : mc_find mc_sb k = some b) (M : mc_M) : mc_PM l kt G 1 mc_y_length prog_23_method_54_code 1 (some .int) [.ref k] (some (.int (Int32.ofNat b.length))) M := by
  refine Met.ofW (cc := prog_23_method_54_code) (maxL := 1) (ret := some .int) (by decide) rfl ?_
  intro p e s m args below meth c s₁ B hml hv
  obtain ⟨rfl, hH, hB⟩ := hv
  have hx := B.exec
  have hb := B.bytes
  have hr := B.returns
  have hts : ∀ w ∈ mc_ws, w.before (([.ref k] : List Value).map (mc_v G)).toArray s = true := fun w hw => atoms_spec (ws := Cond.code mc_y_length prog_23_method_54_code 1 (some .int) :: mc_ws) B.pre w (List.mem_cons_of_mem _ hw)
  have hown : s.vm.findClass "java/lang/String" = some m.cls := findClass_of_methodNamed B.named
  have hlk := B.notSynchronized
  have hl := lv_entry ([.ref (mc_a G k)]) (n := 1) (Nat.le_of_ble_eq_true rfl)
  show W p l e (mc_pr 1) s m ((([.ref k] : List Value).map (mc_v G)).toArray) below meth c s.heap [] 0 0 _ (entryFrame m ([.ref (mc_a G k)] : List Value).toArray 1)
  rw [lg_entry_eq]
  generalize (lg_sl ([.ref (mc_a G k)]) ++ List.replicate (1 - (lg_sl ([.ref (mc_a G k)])).length) Slot.unset).toArray = ls at hl ⊢
  have hl : lv_has ls 1 [(0, .ref (mc_a G k))] := hl
  have hS : va_S (mc_A G) s.heap s.heap [] := va_S.rf
  have hK := hB.2.2.2.2
  obtain ⟨t1, t2, v, t3, t4⟩ := hK.1 k b hk
  refine lv_aload_n hx hb mc_d_length_0 rfl (lv_at hl 0 rfl) ?_
  rw [mc_sb_a hk]
  refine vk_getf hx hb t3 hS hown (hts _ mc_w_fvalue) (fun x h => h) mc_d_length_1 ?_
  refine va_tlen hx hb t4 hS rfl mc_d_length_4 ?_
  refine lv_aload_n hx hb mc_d_length_5 rfl (lv_at hl 0 rfl) ?_
  refine mc_pV (as := []) (np := 0) (rest := [.int (Int32.ofNat b.length)]) hx hb hml hown hts hB (mc_p_coder hk M) mc_w_coder mc_w_i_coder mc_w_s_coder mc_w_n_ST mc_w_l_coder ⟨by decide +kernel, by decide +kernel⟩ (by decide +kernel) rfl ⟨by decide, by decide⟩ hH hS (by rw [mc_sb_a hk]; exact t1) hl.1 ⟨by decide, by decide⟩ (by show 1 + 0 ≤ 8; decide) mc_d_length_6 (fun H1 locs1 hH1 hS1 => ?_)
  refine lv_ishr hx hb mc_d_length_9 ?_
  have e0 : Int32.ofNat b.length >>> ((0 : Int32) &&& 31) = Int32.ofNat b.length := by
    rw [show ((0 : Int32) &&& 31) = 0 by decide]
    exact Int32.shiftRight_zero
  show W p l e (mc_pr 1) s m ((([.ref k] : List Value).map (mc_v G)).toArray) below meth c H1 locs1 0 0 _ (F0 m 10 ls [.int (Int32.ofNat b.length >>> ((0 : Int32) &&& 31))])
  rw [e0]
  exact W.zret hx hb hr rfl (fun t ht hW => ⟨rfl, by rw [ht]; exact hH1, hS1.F ht⟩) hS1.2.2 mc_d_length_10 hlk
set_option maxHeartbeats 1000000 in
/-- Preconditions.checkIndex of an index that is one; f: a reference or null -/
theorem mc_p_pcheck {i n : Int32} (h0 : ¬ i < 0) (h1 : i < n) (f : Value) (hf : f = .null ∨ ∃ a, f = .ref a) {A : Nat → Prop} (sz : Nat) (I : State → Prop) (hI : FrameBlind (va_Pc [.int i, .int n, f] I)) : Met l mc_y_pcheck (Cond.code mc_y_pcheck prog_30_method_11_code 3 (some .int) :: mc_ws) (mc_pr 0) (va_Pc [.int i, .int n, f] I) (fun _ st o t => o = .returned (some (.int i)) ∧ t.heap = st.heap ∧ va_F A st t) 0 0 A := by
  refine Met.ofW (cc := prog_30_method_11_code) (maxL := 3) (ret := some .int) (by decide) rfl ?_
  intro p e s m args below meth c s₁ B hml hv
  obtain ⟨rfl, -⟩ := hv
  have hx := B.exec
  have hb := B.bytes
  have hr := B.returns
  have hlk := B.notSynchronized
  have hl := lv_entry ([.int i, .int n, f]) (n := 3) (by rcases hf with rfl | ⟨a, rfl⟩ <;> exact Nat.le_of_ble_eq_true rfl)
  rw [lg_entry_eq]
  generalize (lg_sl ([.int i, .int n, f]) ++ List.replicate (3 - (lg_sl ([.int i, .int n, f])).length) Slot.unset).toArray = ls at hl ⊢
  have hl : lv_has ls 3 [(0, .int i), (1, .int n), (2, f)] := hl
  have hS : va_S A s.heap s.heap [] := va_S.rf
  refine lv_iload_n hx hb mc_d_pcheck_0 rfl (lv_at hl 0 rfl) ?_
  refine lv_if_lt (tgt := 9) hx hb mc_d_pcheck_1 (by decide) (fun h => absurd h h0) (fun _ => ?_)
  refine lv_iload_n hx hb mc_d_pcheck_4 rfl (lv_at hl 0 rfl) ?_
  refine lv_iload_n hx hb mc_d_pcheck_5 rfl (lv_at hl 1 rfl) ?_
  refine lv_icmp_lt (tgt := 16) hx hb mc_d_pcheck_6 (by decide) (fun _ => ?_) (fun h => absurd h1 h)
  refine lv_iload_n hx hb mc_d_pcheck_16 rfl (lv_at hl 0 rfl) ?_
  exact W.zret hx hb hr rfl (fun t ht hW => ⟨rfl, ht, hS.F ht⟩) hS.2.2 mc_d_pcheck_17 hlk
set_option maxHeartbeats 1000000 in
theorem mc_p_check {i n : Int32} (h0 : ¬ i < 0) (h1 : i < n) (M : mc_M) : mc_PM l kt G 1 mc_y_check prog_23_method_155_code 2 none [.int i, .int n] none M := by
  refine Met.ofW (cc := prog_23_method_155_code) (maxL := 2) (ret := none) (by decide) rfl ?_
  intro p e s m args below meth c s₁ B hml hv
  obtain ⟨rfl, hH, hB⟩ := hv
  have hx := B.exec
  have hb := B.bytes
  have hr := B.returns
  have hts : ∀ w ∈ mc_ws, w.before (([.int i, .int n] : List Value).map (mc_v G)).toArray s = true := fun w hw => atoms_spec (ws := Cond.code mc_y_check prog_23_method_155_code 2 none :: mc_ws) B.pre w (List.mem_cons_of_mem _ hw)
  have hown : s.vm.findClass "java/lang/String" = some m.cls := findClass_of_methodNamed B.named
  have hlk := B.notSynchronized
  have hl := lv_entry ([.int i, .int n]) (n := 2) (Nat.le_of_ble_eq_true rfl)
  show W p l e (mc_pr 1) s m ((([.int i, .int n] : List Value).map (mc_v G)).toArray) below meth c s.heap [] 0 0 _ (entryFrame m ([.int i, .int n] : List Value).toArray 2)
  rw [lg_entry_eq]
  generalize (lg_sl ([.int i, .int n]) ++ List.replicate (2 - (lg_sl ([.int i, .int n])).length) Slot.unset).toArray = ls at hl ⊢
  have hl : lv_has ls 2 [(0, .int i), (1, .int n)] := hl
  have hS : va_S (mc_A G) s.heap s.heap [] := va_S.rf
  have hK := hB.2.2.2.2
  have hr0 := hr
  refine lv_iload_n hx hb mc_d_check_0 rfl (lv_at hl 0 rfl) ?_
  refine lv_iload_n hx hb mc_d_check_1 rfl (lv_at hl 1 rfl) ?_
  have fin : ∀ f : Value, (f = .null ∨ ∃ a, f = .ref a) → W p l e (mc_pr 1) s m ((([.int i, .int n] : List Value).map (mc_v G)).toArray) below meth c s.heap [] 0 0 (MQ below (mc_Qc G (none, M)) (([.int i, .int n] : List Value).map (mc_v G)).toArray s 0 0 (mc_A G)) (F0 m 5 ls [f, .int n, .int i]) := by
    intro f hf
    have hbl : FrameBlind (va_Pc [.int i, .int n, f] (fun _ => True)) := by
      intro a U g mk ⟨h1, h2⟩
      exact ⟨h1, h2⟩
    have hr : va_Run p l e (mc_pr 1) s m ((([.int i, .int n] : List Value).map (mc_v G)).toArray) below meth c s.heap [] 0 0 0 0 (F0 m 5 ls [f, .int n, .int i]) [] (fun st o t => o = .returned (some (.int i)) ∧ t.heap = st.heap ∧ va_F (mc_A G) st t) (mc_A G) :=
      va_runS (Ts := mc_ws) (own := "java/lang/String") (nL := 2) (n := 3) (As := [.int i, .int n, f]) ⟨hx, hb, hml, hown, hts⟩ (mc_p_pcheck (l := l) (A := mc_A G) h0 h1 f hf s.heap.size (fun _ => True) hbl) ⟨⟨rfl, rfl, by decide, by decide, mc_pay hts mc_w_pcheck, List.mem_cons_self, hts _ mc_w_pcheck, hts _ mc_w_n_PC, ⟨by decide +kernel, by decide +kernel⟩, mc_npar (by decide +kernel), hts _ mc_w_l_pcheck⟩, hts _ mc_w_t_pcheck⟩ ⟨hbl, fun U hU hW => ⟨rfl, trivial⟩⟩ rfl rfl hl.1 rfl (lv_room (by decide)) mc_d_check_5 ⟨by decide, by decide⟩
    intro T hT X
    obtain ⟨v9, st₀, t, T', Lx, h0, X', hL, e1, e2, ⟨hv, hH1, hF1⟩, stp⟩ := hr T hT X
    cases Outcome.returned.inj hv
    have e3 : T'.heap = s.heap := by rw [e1, hH1, h0]
    have kk : W p l e (mc_pr 1) s m ((([.int i, .int n] : List Value).map (mc_v G)).toArray) below meth c s.heap Lx 0 0 (MQ below (mc_Qc G (none, M)) (([.int i, .int n] : List Value).map (mc_v G)).toArray s 0 0 (mc_A G)) (F0 m 8 ls [.int i]) := by
      refine lv_pop hx hb mc_d_check_8 rfl ?_
      have hS1 : va_S (mc_A G) s.heap s.heap Lx := ⟨Nat.le_refl _, fun _ _ _ => rfl, fun q hq => hL q hq⟩
      exact W.vret hx hb hr0 (fun t ht hW => ⟨rfl, by rw [ht]; exact hH, hS1.F ht⟩) hS1.2.2 mc_d_check_9 hlk
    obtain ⟨t2, a1, b1⟩ := kk T' e3 X'
    exact ⟨t2, stp t2 a1, b1⟩
  rcases hK.2.2.2 with hz | ⟨t, hz⟩
  · refine va_gets hx hb hz hS hown (hts _ mc_w_siob) (fun x h => h) mc_d_check_2 ?_
    exact fin _ (Or.inl rfl)
  · refine va_gets hx hb hz hS hown (hts _ mc_w_siob) (fun x h => h) mc_d_check_2 ?_
    exact fin _ (Or.inr ⟨t, rfl⟩)
/-- the letter at place i of a text's bytes -/
theorem mc_ch_nar : mc_sb.all (fun q => q.2.all (fun b => decide ((((b &&& 255)).toUInt32 % 65536).toInt32 = b) && decide (narrow .char (.int b) = .int b))) = true := by decide +kernel
theorem mc_ch_b {k : Nat} {b : List Int32} (hk : mc_find mc_sb k = some b) {j : Nat} (hj : j < b.length) : ((b.getD j 0 &&& 255).toUInt32 % 65536).toInt32 = b.getD j 0 ∧ narrow .char (.int (b.getD j 0)) = .int (b.getD j 0) := by
  have h1 := List.all_eq_true.mp (List.all_eq_true.mp mc_ch_nar _ (mc_find_mem hk)) (b.getD j 0) (by
    rw [List.getD_eq_getElem?_getD, List.getElem?_eq_getElem hj]
    exact List.getElem_mem hj)
  simp only [Bool.and_eq_true, decide_eq_true_eq] at h1
  exact h1
set_option maxHeartbeats 1000000 in
theorem mc_p_l1 {k : Nat} {b : List Int32} (hk : mc_find mc_sb k = some b) {i : Int32} (h0 : ¬ i < 0) (h1 : i.toNatClampNeg < b.length) (v : Nat) (M : mc_M) : Met l mc_y_l1 (Cond.code mc_y_l1 prog_24_method_2_code 2 (some .char) :: mc_ws) (mc_pr 2) (va_Pc [.ref v, .int i] (fun U => (mc_H G M U.heap ∧ mc_B kt G U U.heap) ∧ va_T .byte v b.length (fun j => .int (b.getD j 0)) (mc_A G) U U.heap)) (mc_Qc G (some (.int (b.getD i.toNatClampNeg 0)), M)) 0 0 (mc_A G) := by
  refine Met.ofW (cc := prog_24_method_2_code) (maxL := 2) (ret := some .char) (by decide) rfl ?_
  intro p e s m args below meth c s₁ B hml hv
  obtain ⟨rfl, ⟨hH, hB⟩, hT⟩ := hv
  have hx := B.exec
  have hb := B.bytes
  have hr := B.returns
  have hts : ∀ w ∈ mc_ws, w.before ([.ref v, .int i] : List Value).toArray s = true := fun w hw => atoms_spec (ws := Cond.code mc_y_l1 prog_24_method_2_code 2 (some .char) :: mc_ws) B.pre w (List.mem_cons_of_mem _ hw)
  have hown : s.vm.findClass "java/lang/StringLatin1" = some m.cls := findClass_of_methodNamed B.named
  have hlk := B.notSynchronized
  have hl := lv_entry ([.ref v, .int i]) (n := 2) (Nat.le_of_ble_eq_true rfl)
  rw [lg_entry_eq]
  generalize (lg_sl ([.ref v, .int i]) ++ List.replicate (2 - (lg_sl ([.ref v, .int i])).length) Slot.unset).toArray = ls at hl ⊢
  have hl : lv_has ls 2 [(0, .ref v), (1, .int i)] := hl
  have hS : va_S (mc_A G) s.heap s.heap [] := va_S.rf
  have hlen := (mc_sb_k hk).2.1
  have hin : vp_in i b.length := by
    unfold vp_in
    intro h
    rcases h with h | h
    · exact h0 h
    · omega
  have hlt : i < Int32.ofNat b.length := by
    obtain ⟨j, hj, rfl⟩ := vp_in_of hin (by omega)
    exact nI_lt hj (by omega)
  refine lv_iload_n hx hb mc_d_l1_0 rfl (lv_at hl 1 rfl) ?_
  refine lv_aload_n hx hb mc_d_l1_1 rfl (lv_at hl 0 rfl) ?_
  refine va_tlen hx hb hT hS rfl mc_d_l1_2 ?_
  refine mc_pS (kt := kt) (as := [.int i, .int (Int32.ofNat b.length)]) (np := 2) (rest := []) hx hb hml hown hts hB (mc_p_check h0 hlt M) mc_w_check mc_w_t_check mc_w_n_ST mc_w_l_check ⟨by decide +kernel, by decide +kernel⟩ (by decide +kernel) rfl ⟨by decide, by decide⟩ hH hS hl.1 ⟨by decide, by decide⟩ (by decide) mc_d_l1_3 (fun H1 locs1 hH1 hS1 => ?_)
  refine lv_aload_n hx hb mc_d_l1_6 rfl (lv_at hl 0 rfl) ?_
  refine lv_iload_n hx hb mc_d_l1_7 rfl (lv_at hl 1 rfl) ?_
  refine va_tb hx hb hT hS1 hin rfl mc_d_l1_8 ?_
  refine lv_sipush hx hb mc_d_l1_9 rfl ?_
  refine lv_iand hx hb mc_d_l1_12 ?_
  obtain ⟨e1, e2⟩ := mc_ch_b hk h1
  refine lv_i2c hx hb mc_d_l1_13 (v := b.getD i.toNatClampNeg 0) e1 ?_
  exact W.zret hx hb hr e2 (fun t ht hW => ⟨rfl, by rw [ht]; exact hH1, hS1.F ht⟩) hS1.2.2 mc_d_l1_14 hlk
set_option maxHeartbeats 1000000 in
theorem mc_p_charAt {k : Nat} {b : List Int32} (hk : mc_find mc_sb k = some b) {i : Int32} (h0 : ¬ i < 0) (h1 : i.toNatClampNeg < b.length) (M : mc_M) : mc_PM l kt G 3 mc_y_charAt prog_23_method_56_code 2 (some .char) [.ref k, .int i] (some (.int (b.getD i.toNatClampNeg 0))) M := by
  refine Met.ofW (cc := prog_23_method_56_code) (maxL := 2) (ret := some .char) (by decide) rfl ?_
  intro p e s m args below meth c s₁ B hml hv
  obtain ⟨rfl, hH, hB⟩ := hv
  have hx := B.exec
  have hb := B.bytes
  have hr := B.returns
  have hts : ∀ w ∈ mc_ws, w.before (([.ref k, .int i] : List Value).map (mc_v G)).toArray s = true := fun w hw => atoms_spec (ws := Cond.code mc_y_charAt prog_23_method_56_code 2 (some .char) :: mc_ws) B.pre w (List.mem_cons_of_mem _ hw)
  have hown : s.vm.findClass "java/lang/String" = some m.cls := findClass_of_methodNamed B.named
  have hlk := B.notSynchronized
  have hl := lv_entry ([.ref (mc_a G k), .int i]) (n := 2) (Nat.le_of_ble_eq_true rfl)
  show W p l e (mc_pr 3) s m ((([.ref k, .int i] : List Value).map (mc_v G)).toArray) below meth c s.heap [] 0 0 _ (entryFrame m ([.ref (mc_a G k), .int i] : List Value).toArray 2)
  rw [lg_entry_eq]
  generalize (lg_sl ([.ref (mc_a G k), .int i]) ++ List.replicate (2 - (lg_sl ([.ref (mc_a G k), .int i])).length) Slot.unset).toArray = ls at hl ⊢
  have hl : lv_has ls 2 [(0, .ref (mc_a G k)), (1, .int i)] := hl
  have hS : va_S (mc_A G) s.heap s.heap [] := va_S.rf
  have hK := hB.2.2.2.2
  obtain ⟨t1, t2, v, t3, t4⟩ := hK.1 k b hk
  refine lv_aload_n hx hb mc_d_charAt_0 rfl (lv_at hl 0 rfl) ?_
  refine mc_pV (as := []) (np := 0) (rest := []) hx hb hml hown hts hB (mc_p_isLatin1 hk M) mc_w_isLatin1 mc_w_i_isLatin1 mc_w_s_isLatin1 mc_w_n_ST mc_w_l_isLatin1 ⟨by decide +kernel, by decide +kernel⟩ (by decide +kernel) rfl ⟨by decide, by decide⟩ hH hS (by rw [mc_sb_a hk]; exact t1) hl.1 ⟨by decide, by decide⟩ (by decide) mc_d_charAt_1 (fun H1 locs1 hH1 hS1 => ?_)
  refine lv_if_eq (tgt := 16) hx hb mc_d_charAt_4 (by decide) (fun h => absurd h (by decide)) (fun _ => ?_)
  refine lv_aload_n hx hb mc_d_charAt_7 rfl (lv_at hl 0 rfl) ?_
  rw [mc_sb_a hk]
  refine vk_getf hx hb t3 hS1 hown (hts _ mc_w_fvalue) (fun x h => h) mc_d_charAt_8 ?_
  refine lv_iload_n hx hb mc_d_charAt_11 rfl (lv_at hl 1 rfl) ?_
  have hbl : FrameBlind (va_Pc [.ref v, .int i] (fun U => (mc_H G M U.heap ∧ mc_B kt G U U.heap) ∧ va_T .byte v b.length (fun j => .int (b.getD j 0)) (mc_A G) U U.heap)) := by
    intro a U g mk ⟨h1, ⟨h2, h3⟩, h4⟩
    exact ⟨h1, ⟨h2, mc_B.same (s := U) (U := U.calling g mk a) rfl h3⟩, h4.moved (u := U) (U := U.calling g mk a) (Vm.Alike.refl _)⟩
  have hr2 : va_Run p l e (mc_pr 3) s m ((([.ref k, .int i] : List Value).map (mc_v G)).toArray) below meth c H1 locs1 0 0 0 0 (F0 m 12 ls [.int i, .ref v]) [] (mc_Qc G (some (.int (b.getD i.toNatClampNeg 0)), M) ([.ref v, .int i] : List Value).toArray) (mc_A G) :=
    va_runS (Ts := mc_ws) (own := "java/lang/String") (nL := 2) (n := 2) (As := [.ref v, .int i]) ⟨hx, hb, hml, hown, hts⟩ (mc_p_l1 (kt := kt) hk h0 h1 v M) ⟨⟨rfl, rfl, by decide, by decide, mc_pay hts mc_w_l1, List.mem_cons_self, hts _ mc_w_l1, hts _ mc_w_n_L1, ⟨by decide +kernel, by decide +kernel⟩, mc_npar (by decide +kernel), hts _ mc_w_l_l1⟩, hts _ mc_w_t_l1⟩ ⟨hbl, fun U hU hW => ⟨rfl, ⟨by rw [hU]; exact hH1, by
        refine mc_B.moved hW ?_
        rw [hU]
        exact hB.kept hS1.2.1⟩, by rw [hU]; exact (t4.kept hS1.2.1).moved hW.alike⟩⟩ rfl rfl hl.1 rfl (lv_room (by decide)) mc_d_charAt_12 ⟨by decide, by decide⟩
  intro T hT X
  obtain ⟨v9, st₀, t, T', Lx, h0', X', hL, e1, e2, ⟨hv, hH2, hz1, hk1⟩, stp⟩ := hr2 T hT X
  cases Outcome.returned.inj hv
  rw [h0'] at hz1 hk1
  have hS2 : va_S (mc_A G) s.heap T'.heap (locs1 ++ Lx) := ⟨Nat.le_trans hS1.1 (by rw [e1]; exact hz1), fun q g1 g2 => by rw [e1, hk1 q (Nat.lt_of_lt_of_le g1 hS1.1) g2]; exact hS1.2.1 q g1 g2, fun q hq => by
    rcases List.mem_append.mp hq with h | h
    · exact hS1.2.2 q h
    · exact hL q h⟩
  have kk : W p l e (mc_pr 3) s m ((([.ref k, .int i] : List Value).map (mc_v G)).toArray) below meth c T'.heap (locs1 ++ Lx) 0 0 (MQ below (mc_Qc G (some (.int (b.getD i.toNatClampNeg 0)), M)) (([.ref k, .int i] : List Value).map (mc_v G)).toArray s 0 0 (mc_A G)) (F0 m 15 ls [.int (b.getD i.toNatClampNeg 0)]) :=
    W.zret hx hb hr (mc_ch_b hk h1).2 (fun t' ht hW => ⟨rfl, by rw [ht, e1]; exact hH2, hS2.F ht⟩) hS2.2.2 mc_d_charAt_15 hlk
  obtain ⟨t2, a1, b1⟩ := kk T' rfl X'
  exact ⟨t2, stp t2 a1, b1⟩
set_option maxHeartbeats 1000000 in
theorem mc_p_ordinal {i : Nat} (hi : i < 11) (M : mc_M) : mc_PM l kt G 0 mc_y_ordinal prog_18_method_2_code 1 (some .int) [.ref (16 + i)] (some (.int (Int32.ofNat i))) M := by
  refine Met.ofW (cc := prog_18_method_2_code) (maxL := 1) (ret := some .int) (by decide) rfl ?_
  intro p e s m args below meth c s₁ B hml hv
  obtain ⟨rfl, hH, hB⟩ := hv
  have hx := B.exec
  have hb := B.bytes
  have hr := B.returns
  have hts : ∀ w ∈ mc_ws, w.before (([.ref (16 + i)] : List Value).map (mc_v G)).toArray s = true := fun w hw => atoms_spec (ws := Cond.code mc_y_ordinal prog_18_method_2_code 1 (some .int) :: mc_ws) B.pre w (List.mem_cons_of_mem _ hw)
  have hown : s.vm.findClass "java/lang/Enum" = some m.cls := findClass_of_methodNamed B.named
  have hlk := B.notSynchronized
  have hl := lv_entry ([.ref (mc_a G (16 + i))]) (n := 1) (Nat.le_of_ble_eq_true rfl)
  show W p l e (mc_pr 0) s m ((([.ref (16 + i)] : List Value).map (mc_v G)).toArray) below meth c s.heap [] 0 0 _ (entryFrame m ([.ref (mc_a G (16 + i))] : List Value).toArray 1)
  rw [lg_entry_eq]
  generalize (lg_sl ([.ref (mc_a G (16 + i))]) ++ List.replicate (1 - (lg_sl ([.ref (mc_a G (16 + i))])).length) Slot.unset).toArray = ls at hl ⊢
  have hl : lv_has ls 1 [(0, .ref (mc_a G (16 + i)))] := hl
  have hS : va_S (mc_A G) s.heap s.heap [] := va_S.rf
  have hK := hB.2.2.2.2
  refine lv_aload_n hx hb mc_d_ordinal_0 rfl (lv_at hl 0 rfl) ?_
  rw [mc_a_lo (G := G) (a := 16 + i) (by omega)]
  refine vk_getf hx hb (hK.2.1 i hi).2 hS hown (hts _ mc_w_ford) (fun x h => h) mc_d_ordinal_1 ?_
  exact W.zret hx hb hr rfl (fun t ht hW => ⟨rfl, by rw [ht]; exact hH, hS.F ht⟩) hS.2.2 mc_d_ordinal_4 hlk
end MCP

section MCQ

variable {kt : Nat → Option mc_E} {own : Nat} {ini : Bool} {ret : Option FieldType} {cc : ByteArray}

variable {G : mc_G} {p : Program} {l : Launch} {e : Env} {R : Room} {s : State} {m : MethodId} {args : Array Value} {below : List Frame} {meth : Method} {c : Code} {Q : State → Prop} {nL l0 z0 : Nat}

variable {pc : Nat} {L : List (Nat × Value)} {st : List Value} {M : mc_M} {S : mc_S}
theorem mc_r_prim (C : mc_X kt G own nL ini ret cc p s m args meth c) {idx d : Nat} (hF : d + 6 ≤ R.frames ∧ 36 * (d + 6) ≤ R.locals) (hd : decode cc pc = .ok (.invokevirtual idx, 3)) (h : mc_prim own idx pc L st M = some (.inl S)) (hR : S.2.2.2.length ≤ R.cells + l0 ∧ mc_sz S.2.2.2 ≤ R.slots + z0) (k : mc_W G p l e R s m args below meth c Q nL l0 z0 S) : mc_W G p l e R s m args below meth c Q nL l0 z0 (pc, L, st, M) := by
  obtain ⟨hx, hb, hown, hts, hml, hB, hba, hini, hlk, hret⟩ := C
  have hK := hB.2.2.2.2
  have hF1 := hF.1
  have hF2 := hF.2
  unfold mc_prim at h
  split at h
  · next en he =>
    obtain ⟨r9, hr9, hm⟩ := mc_getD_mem (mc_find_mem he)
    have h1 := mc_at_mem (mc_each_at mc_pl_ok hr9 hm)
    obtain ⟨j, pl⟩ := en
    dsimp only at h
    split at h
    · next k9 r =>
      split at h
      · next b hb9 =>
        obtain ⟨hok, h⟩ := mc_n_t h
        simp only [decide_eq_true_eq] at hok
        rw [mc_go_S h] at k hR
        intro H locs ls cells slots hH hS hl hc hz
        have hc' : cells + l0 = M.length := hc
        have hz' : slots + z0 = mc_sz M := hz
        have hR1 : M.length ≤ R.cells + l0 := hR.1
        have hR2 : mc_sz M ≤ R.slots + z0 := hR.2
        have h1' : Cond.methodLink (mc_cn own) idx mc_y_length ∈ mc_ws := h1
        exact mc_pV (as := []) (np := 0) (rest := r.map (mc_v G)) hx hb hml hown hts hB (mc_p_length hb9 M) mc_w_length mc_w_i_length mc_w_s_length mc_w_n_ST h1' ⟨by decide +kernel, by decide +kernel⟩ (by decide +kernel) rfl ⟨by omega, by omega⟩ hH hS (by rw [mc_sb_a hb9]; exact (hK.1 _ _ hb9).1) hl.1 ⟨by omega, by omega⟩ (by rw [mc_sumcat]; exact hok) hd (fun H1 locs1 hH1 hS1 => k H1 locs1 ls cells slots hH1 hS1 hl hc hz)
      · cases h
    · next i k9 r =>
      split at h
      · next b hb9 =>
        obtain ⟨hok, h⟩ := mc_n_t h
        simp only [Bool.and_eq_true, decide_eq_true_eq] at hok
        obtain ⟨hin, hok⟩ := hok
        have hin : ¬ (i < 0 ∨ b.length ≤ i.toNatClampNeg) := of_decide_eq_true hin
        rw [mc_go_S h] at k hR
        intro H locs ls cells slots hH hS hl hc hz
        have hc' : cells + l0 = M.length := hc
        have hz' : slots + z0 = mc_sz M := hz
        have hR1 : M.length ≤ R.cells + l0 := hR.1
        have hR2 : mc_sz M ≤ R.slots + z0 := hR.2
        have h1' : Cond.methodLink (mc_cn own) idx mc_y_charAt ∈ mc_ws := h1
        exact mc_pV (as := [.int i]) (np := 1) (rest := r.map (mc_v G)) hx hb hml hown hts hB (mc_p_charAt hb9 (fun z => hin (Or.inl z)) (Nat.lt_of_not_le (fun z => hin (Or.inr z))) M) mc_w_charAt mc_w_i_charAt mc_w_s_charAt mc_w_n_ST h1' ⟨by decide +kernel, by decide +kernel⟩ (by decide +kernel) rfl ⟨by omega, by omega⟩ hH hS (by rw [mc_sb_a hb9]; exact (hK.1 _ _ hb9).1) hl.1 ⟨by omega, by omega⟩ (by rw [mc_sumcat]; exact hok) hd (fun H1 locs1 hH1 hS1 => k H1 locs1 ls cells slots hH1 hS1 hl hc hz)
      · cases h
    · next k9 r =>
      obtain ⟨hok, h⟩ := mc_n_t h
      simp only [Bool.and_eq_true, decide_eq_true_eq] at hok
      obtain ⟨⟨g1, g2⟩, hok⟩ := hok
      have g1 : (16 : Nat) ≤ k9 := g1
      have g2 : Nat.lt k9 27 := g2
      obtain ⟨i, hi0⟩ : ∃ i : Nat, k9 = 16 + i := ⟨Nat.sub k9 16, (Nat.add_sub_cancel' g1).symm⟩
      subst hi0
      have hi : i < 11 := by
        have g3 : 16 + i < 27 := g2
        omega
      rw [mc_go_S h] at k hR
      intro H locs ls cells slots hH hS hl hc hz
      have hc' : cells + l0 = M.length := hc
      have hz' : slots + z0 = mc_sz M := hz
      have hR1 : M.length ≤ R.cells + l0 := hR.1
      have hR2 : mc_sz M ≤ R.slots + z0 := hR.2
      have h1' : Cond.methodLink (mc_cn own) idx mc_yR ∈ mc_ws := h1
      have hM := mc_p_ordinal (l := l) (kt := kt) (G := G) hi M
      have hO : va_O "StrikeAwake$Reserved" (mc_a G (16 + i)) (mc_A G) s s.heap := by rw [mc_a_lo (G := G) (a := 16 + i) (Nat.lt_of_lt_of_le g2 (by decide))]; exact (hK.2.1 i hi).1
      have hrcv : ∃ cellB : Cell, H[mc_a G (16 + i)]? = some cellB ∧ cellB.vm.isStatics = false ∧ s.vm.findClass "StrikeAwake$Reserved" = some cellB.cls := by
        obtain ⟨cell, h1, h2, h3, -⟩ := hO.kept hS.2.1
        exact ⟨cell, h1, h2, h3⟩
      have hPV : PreV s H "StrikeAwake$Reserved" (mc_a G (16 + i)) (mc_Pc kt G M [.ref (16 + i)]) [] := ⟨mc_blind, hrcv, fun U hU hW => ⟨rfl, by rw [hU]; exact hH, by
        refine mc_B.moved hW ?_
        rw [hU]
        exact hB.kept hS.2.1⟩⟩
      have hr : va_Run p l e R s m args below meth c H locs cells slots 0 0 (F0 m pc ls (.ref (mc_a G (16 + i)) :: r.map (mc_v G))) (r.map (mc_v G)) (mc_Qc G (some (.int (Int32.ofNat i)), M) (Value.ref (mc_a G (16 + i)) :: []).toArray) (mc_A G) :=
        va_runU (Ts := mc_ws) (nL := nL) (n := 0) (As := []) (x := mc_yR) (owner := "java/lang/Enum") ⟨hx, hb, hml, hown, hts⟩ hM ⟨⟨rfl, rfl, by show 0 + 1 ≤ R.frames; omega, by show 8 + (1 + 11) + 36 * 0 ≤ R.locals; omega, mc_pay hts mc_w_ordinal, List.mem_cons_self⟩, hts _ mc_w_ordinal, hts _ mc_w_n_EN, ⟨by decide +kernel, by decide +kernel⟩, mc_npar (by decide +kernel), hts _ h1', hts _ mc_w_same, va_Decl.of (hts _ mc_w_i_ordinal) (hts _ mc_w_ordinal), hts _ mc_w_selR, hts _ mc_w_i_ordinal⟩ hPV rfl rfl hl.1 rfl (lv_room (by rw [mc_sumcat]; exact hok)) hd ⟨by omega, by omega⟩
      have kk : mc_W G p l e R s m args below meth c Q nL l0 z0 (pc + 3, L, .int (Int32.ofNat i) :: r, M) := by
        have e9 : 16 + i - 16 = i := Nat.add_sub_cancel_left ..
        rw [e9] at k
        exact k
      intro T hT X
      obtain ⟨v9, st₀, t, T', Lx, h0, X', hL, e1, e2, ⟨hv, hH1, hz1, hk1⟩, stp⟩ := hr T hT X
      cases Outcome.returned.inj hv
      rw [h0] at hz1 hk1
      obtain ⟨t2, a1, b1⟩ := kk T'.heap (locs ++ Lx) ls cells slots (by rw [e1]; exact hH1) ⟨Nat.le_trans hS.1 (by rw [e1]; exact hz1), fun q h1 h2 => by rw [e1, hk1 q (Nat.lt_of_lt_of_le h1 hS.1) h2]; exact hS.2.1 q h1 h2, fun q hq => by
          rcases List.mem_append.mp hq with h | h
          · exact hS.2.2 q h
          · exact hL q h⟩ hl hc hz T' rfl X'
      exact ⟨t2, stp t2 a1, b1⟩
    · cases h
  · cases h
end MCQ
end
section
/-! new T[n][m] (own work; by the library's law of it) -/
theorem mc_default_v {G : mc_G} {ty : FieldType} : mc_v G (defaultValue ty) = defaultValue ty := by cases ty <;> rfl
theorem mc_outer (c : ClassId) (N h0 : Nat) : ∀ i : Nat, Jvm.Free.Multi.outerC c N h0 i = arrV c N (fun j => if j < i then .ref (h0 + 1 + j) else .null)
  | 0 => by
    show ({ cls := c, slots := Array.replicate N .null, vm := .none } : Cell) = _
    rw [arrV_new]
    refine congrArg (arrV c N) (funext fun j => ?_)
    simp
  | i + 1 => by
    show (Jvm.Free.Multi.outerC c N h0 i).setSlot i (.ref (h0 + 1 + i)) = _
    rw [mc_outer c N h0 i, arrV_store]
    refine congrArg (arrV c N) (funext fun j => ?_)
    by_cases e : j = i
    · subst e
      simp [updV]
    · by_cases h : j < i
      · simp [updV, e, h, Nat.lt_succ_of_lt h]
      · simp [updV, e, h, show ¬ j < i + 1 by omega]
theorem mc_H_rows {G : mc_G} {M : mc_M} {H H1 : Heap} {x : mc_E} (h : mc_H G M H) (hx : mc_cell G H.size x H1) : ∀ (n : Nat) (y : mc_E), H1.size = H.size + 1 + n → (∀ q : Nat, q < H.size → H1[q]? = H[q]?) → (∀ j : Nat, j < n → mc_cell G (H.size + 1 + j) y H1) → mc_H G ((M ++ [x]) ++ List.replicate n y) H1 := by
  intro n y z oq hy
  refine ⟨by rw [z, h.1, List.length_append, List.length_append, List.length_replicate]; show _ = _ + (_ + 1 + _); omega, fun k e' hk => ?_⟩
  by_cases h1 : k < M.length
  · rw [List.getElem?_append_left (by rw [List.length_append]; omega), List.getElem?_append_left h1] at hk
    exact (h.2 k e' hk).kept (oq _ (by rw [h.1]; omega))
  · by_cases h2 : k = M.length
    · subst h2
      rw [List.getElem?_append_left (by rw [List.length_append]; exact Nat.lt_succ_self _), List.getElem?_append_right (Nat.le_refl _), Nat.sub_self] at hk
      cases hk
      rw [← h.1]
      exact hx
    · have hl : (M ++ [x]).length = M.length + 1 := by rw [List.length_append]; rfl
      rw [List.getElem?_append_right (by rw [hl]; omega), hl, List.getElem?_replicate] at hk
      split at hk
      · next hlt =>
        cases hk
        have e9 : G.2.1 + k = H.size + 1 + (k - (M.length + 1)) := by rw [h.1]; omega
        rw [e9]
        exact hy _ hlt
      · cases hk
theorem mc_sz_rep (n : Nat) (y : mc_E) : mc_sz (List.replicate n y) = n * mc_es y := by
  simp [mc_sz, List.map_replicate, List.sum_replicate_nat]
section MC6

variable {kt : Nat → Option mc_E} {own : Nat} {ini : Bool} {ret : Option FieldType} {cc : ByteArray}

variable {G : mc_G} {p : Program} {l : Launch} {e : Env} {R : Room} {s : State} {m : MethodId} {args : Array Value} {below : List Frame} {meth : Method} {c : Code} {Q : State → Prop} {nL l0 z0 : Nat}

variable {pc : Nat} {L : List (Nat × Value)} {st : List Value} {M : mc_M} {S : mc_S}
theorem mc_r_mna (C : mc_X kt G own nL ini ret cc p s m args meth c) {idx : Nat} (hd : decode cc pc = .ok (.multianewarray idx 2, 4)) (h : mc_mna own idx pc L st M = some (.inl S)) (hR : S.2.2.2.length ≤ R.cells + l0 ∧ mc_sz S.2.2.2 ≤ R.slots + z0) (k : mc_W G p l e R s m args below meth c Q nL l0 z0 S) : mc_W G p l e R s m args below meth c Q nL l0 z0 (pc, L, st, M) := by
  obtain ⟨hx, hb, hown, hts, hml, hB, hba, hini, hlk, hret⟩ := C
  unfold mc_mna at h
  split at h
  · next kk n r =>
    split at h
    · next en he =>
      obtain ⟨hok, h⟩ := mc_n_t h
      simp only [Bool.and_eq_true, decide_eq_true_eq] at hok
      obtain ⟨⟨⟨⟨h2, hn⟩, hk⟩, hN⟩, hK⟩ := hok
      rw [mc_go_S h] at k hR
      obtain ⟨r9, hr9, hm⟩ := mc_getD_mem (mc_find_mem he)
      have hw := mc_at_mem (mc_each_at mc_gl_ok hr9 hm)
      have hty : ∃ ty : FieldType, mc_ty en.1 = ty ∧ mc_ty (5 + en.1) = .array ty ∧ mc_gn en.1 = "[" ++ (FieldType.array ty).toString ∧ mc_AO (.array ty) s ∧ Cond.arrayClass ty ∈ mc_ws ∧ componentBytes ty ≤ 8 ∧ fits ty (defaultValue ty) = true ∧ (defaultValue ty).isDefault = true := by
        obtain ⟨j, pl⟩ := en
        have h2' : j < 2 := h2
        match j, h2' with
        | 0, _ => exact ⟨.int, rfl, rfl, (by decide : mc_gn 0 = "[" ++ (FieldType.array .int).toString), hB.2.1.2.1, mc_at_mem mc_ac_int, by decide, rfl, rfl⟩
        | 1, _ => exact ⟨.long, rfl, rfl, (by decide : mc_gn 1 = "[" ++ (FieldType.array .long).toString), hB.2.1.2.2, mc_at_mem mc_ac_long, by decide, rfl, rfl⟩
      obtain ⟨ty, e1, e2, e3, e4, e5, e6, e7, e8⟩ := hty
      have hw' : Cond.classLink (mc_cn own) idx ("[" ++ (FieldType.array ty).toString) ∈ mc_ws := by rw [← e3]; exact hw
      intro H locs ls cells slots hH hS hl hc hz
      have hc : cells + l0 = M.length := hc
      have hz : slots + z0 = mc_sz M := hz
      generalize hx0 : (Sum.inl (5 + en.1, n.toNatClampNeg, fun i => if i < n.toNatClampNeg then .ref (256 + M.length + 1 + i) else .null) : mc_E) = x at k hR
      generalize hy0 : (Sum.inl (en.1, kk.toNatClampNeg, fun _ => defaultValue (mc_ty en.1)) : mc_E) = y at k hR
      have ex : mc_es x = n.toNatClampNeg := by rw [← hx0]; rfl
      have ey : mc_es y = kk.toNatClampNeg := by rw [← hy0]; rfl
      have hlen : ((M ++ [x]) ++ List.replicate n.toNatClampNeg y).length = M.length + 1 + n.toNatClampNeg := by rw [List.length_append, List.length_append, List.length_replicate]; rfl
      have hsz : mc_sz ((M ++ [x]) ++ List.replicate n.toNatClampNeg y) = mc_sz M + n.toNatClampNeg + n.toNatClampNeg * kk.toNatClampNeg := by rw [mc_sz_app, mc_sz_app, mc_sz_one, mc_sz_rep, ex, ey]
      have hR1 : M.length + 1 + n.toNatClampNeg ≤ R.cells + l0 := by have := hR.1; rw [← hlen]; exact this
      have hR2 : mc_sz M + n.toNatClampNeg + n.toNatClampNeg * kk.toNatClampNeg ≤ R.slots + z0 := by have := hR.2; rw [← hsz]; exact this
      intro T hT Xs
      obtain ⟨vm₁, cA, comp, -, fA, fC, hO, -, X', step⟩ := Xs.multianewarray2F hx hown (hts _ hw') (by exact e4) (hts _ e5) (g := F0 m pc ls (.int kk :: .int n :: r.map (mc_v G))) rfl (by rw [hb]; exact hd) rfl hn hk (Nat.le_trans (Nat.mul_le_mul hN (Nat.le_refl 4)) (Nat.le_of_ble_eq_true rfl)) (Nat.le_trans (Nat.mul_le_mul hK e6) (Nat.le_of_ble_eq_true rfl)) (Nat.le_trans hK (Nat.le_of_ble_eq_true rfl)) e7 e8 (by omega) (by omega)
      have hTh : (T.setVm vm₁).heap = H := hT
      generalize hF : Jvm.Free.Multi.fill (T.setVm vm₁) cA comp n.toNatClampNeg kk.toNatClampNeg (defaultValue ty) n.toNatClampNeg = F at X' step
      obtain ⟨f1, f2, -, -⟩ := Jvm.Free.Multi.fill_facts (T.setVm vm₁) cA comp n.toNatClampNeg kk.toNatClampNeg (defaultValue ty) n.toNatClampNeg
      rw [hF, hTh] at f1 f2
      have hold : ∀ x : Nat, x < H.size → F.heap[x]? = H[x]? := fun x hx => by
        have := Jvm.Free.Multi.fill_old (T.setVm vm₁) cA comp n.toNatClampNeg kk.toNatClampNeg (defaultValue ty) (a := x) (by rw [hTh]; exact hx) n.toNatClampNeg
        rw [hF, hTh] at this
        exact this
      have hrow : ∀ j : Nat, j < n.toNatClampNeg → F.heap[H.size + 1 + j]? = some (arrV comp kk.toNatClampNeg (fun _ => defaultValue ty)) := fun j hj => by
        have := Jvm.Free.Multi.fill_inner (T.setVm vm₁) cA comp n.toNatClampNeg kk.toNatClampNeg (defaultValue ty) n.toNatClampNeg j hj
        rw [hF, hTh] at this
        rw [this, ← arrV_new]
        rfl
      rw [mc_outer] at f2
      have hcA : cA = G.2.2.1 (5 + en.1) := by
        have h10 := (hB.1.2 (5 + en.1) _ (mc_tys_at (by omega))).2
        rw [e2] at h10
        exact Option.some.inj (fA.symm.trans h10)
      have hcm : comp = G.2.2.1 en.1 := by
        have h10 := (hB.1.2 en.1 _ (mc_tys_at (by omega))).2
        have h11 : s.vm.findClass ("[" ++ (mc_ty en.1).toString) = some (G.2.2.1 en.1) := by
          obtain ⟨j, pl⟩ := en
          have h2' : j < 2 := h2
          match j, h2', h10 with
          | 0, _, h10 => exact h10
          | 1, _, h10 => exact h10
        rw [e1] at h11
        exact Option.some.inj (fC.symm.trans h11)
      have hv : mc_v G (.ref (256 + M.length)) = .ref H.size := by
        show Value.ref _ = _
        rw [mc_a_new, hH.1]
      have hH2 : mc_H G ((M ++ [x]) ++ List.replicate n.toNatClampNeg y) F.heap := by
        refine mc_H_rows hH ?_ _ y f1 hold (fun j hj => ?_)
        · rw [← hx0]
          intro _
          rw [f2, hcA]
          refine congrArg some (congrArg (arrV (G.2.2.1 (5 + en.1)) n.toNatClampNeg) (funext fun j => ?_))
          by_cases hj : j < n.toNatClampNeg
          · simp only [if_pos hj]
            show _ = Value.ref (mc_a G (256 + M.length + 1 + j))
            have e8 : H.size + 1 + j = G.2.1 + (M.length + 1 + j) := by
              have h9 : H.size = G.2.1 + M.length := hH.1
              omega
            have e7 : 256 + M.length + 1 + j = 256 + (M.length + 1 + j) := by omega
            rw [e7, mc_a_new, ← e8]
          · simp only [if_neg hj]
            rfl
        · rw [← hy0]
          intro _
          rw [hrow j hj, hcm]
          refine congrArg some (congrArg (arrV (G.2.2.1 en.1) kk.toNatClampNeg) (funext fun j => ?_))
          rw [mc_default_v, e1]
      have hS2 : va_S (mc_A G) s.heap F.heap locs := ⟨Nat.le_trans hS.1 (by omega), fun q h1 h2 => (hold q (Nat.lt_of_lt_of_le h1 hS.1)).trans (hS.2.1 q h1 h2), hS.2.2⟩
      obtain ⟨t, a1, b1⟩ := k F.heap locs ls (cells + 1 + n.toNatClampNeg) (slots + n.toNatClampNeg + n.toNatClampNeg * kk.toNatClampNeg) hH2 hS2 hl (by rw [hlen]; omega) (by rw [hsz]; omega) F rfl X'
      refine ⟨t, step t ?_, b1⟩
      have e9 : T.heap.size = H.size := by rw [hT]
      rw [e9, ← hv]
      exact a1
    · cases h
  · cases h
end MC6
end
section
theorem mc_or_t {a b : mc_O} {x : mc_S ⊕ mc_R} (h : mc_or a b = some x) : a = some x ∨ b = some x := by
  unfold mc_or at h
  split at h
  · exact Or.inl h
  · exact Or.inr h
theorem mc_void_ok : (List.range 296).all (fun k => match mc_mt k with
  | some q => decide (q.2.2.2.2.2.2 = 2) == false || decide (q.2.2.2.2.1 = none)
  | none => true) = true := by decide +kernel
theorem mc_mt_lt {k : Nat} {q : Nat × MethodName × ByteArray × Nat × Option FieldType × Nat × Nat} (h : mc_mt k = some q) : k < 296 := by
  unfold mc_mt at h
  split at h
  · next hb =>
    have hlt : k % 32 < 32 := (List.getElem?_eq_some_iff.mp h).1
    omega
  · next hb =>
    have hlt : k % 32 < 32 := (List.getElem?_eq_some_iff.mp h).1
    omega
  · next hb =>
    have hlt : k % 32 < 32 := (List.getElem?_eq_some_iff.mp h).1
    omega
  · next hb =>
    have hlt : k % 32 < 32 := (List.getElem?_eq_some_iff.mp h).1
    omega
  · next hb =>
    have hlt : k % 32 < 32 := (List.getElem?_eq_some_iff.mp h).1
    omega
  · next hb =>
    have hlt : k % 32 < 32 := (List.getElem?_eq_some_iff.mp h).1
    omega
  · next hb =>
    have hlt : k % 32 < 32 := (List.getElem?_eq_some_iff.mp h).1
    omega
  · next hb =>
    have hlt : k % 32 < 32 := (List.getElem?_eq_some_iff.mp h).1
    omega
  · next hb =>
    have hlt : k % 32 < 32 := (List.getElem?_eq_some_iff.mp h).1
    omega
  · next hb =>
    have hlt : k % 32 < 8 := (List.getElem?_eq_some_iff.mp h).1
    omega
  · cases h
theorem mc_void {k : Nat} {q : Nat × MethodName × ByteArray × Nat × Option FieldType × Nat × Nat} (h : mc_mt k = some q) (hs : q.2.2.2.2.2.2 = 2) : q.2.2.2.2.1 = none := by
  have h1 := List.all_eq_true.mp mc_void_ok k (List.mem_range.mpr (mc_mt_lt h))
  rw [h] at h1
  simpa [hs] using h1
theorem mc_retX {ret : Option FieldType} {st : List Value} {M : mc_M} {S : mc_S} : (mc_ret ret st M = some (.inl S) → False) ∧ (mc_retL ret st M = some (.inl S) → False) ∧ (mc_retA ret st M = some (.inl S) → False) ∧ (mc_retV ret st M = some (.inl S) → False) := by
  refine ⟨fun h => ?_, fun h => ?_, fun h => ?_, fun h => ?_⟩
  · unfold mc_ret at h
    split at h
    · cases h
    · cases (mc_n_t h).2
    · cases h
  · unfold mc_retL at h
    split at h <;> cases h
  · unfold mc_retA at h
    split at h
    · cases (mc_n_t h).2
    · cases (mc_n_t h).2
    · cases h
  · unfold mc_retV at h
    split at h <;> cases h
theorem mc_ref4 {t : Nat} (h : 4 ≤ t) : (mc_ty t).isReference = true := by
  match t, h with
  | 4, _ => rfl
  | 5, _ => rfl
  | 6, _ => rfl
  | n + 7, _ => rfl
section MC7

variable {kt : Nat → Option mc_E} {own : Nat} {ini : Bool} {ret : Option FieldType} {cc : ByteArray}

variable {G : mc_G} {p : Program} {l : Launch} {e : Env} {R : Room} {s : State} {m : MethodId} {args : Array Value} {below : List Frame} {meth : Method} {c : Code} {Q : State → Prop} {nL l0 z0 : Nat}

variable {S : mc_S}
set_option maxHeartbeats 4000000 in
/-- one instruction -/
theorem mc_step_ok (C : mc_X kt G own nL ini ret cc p s m args meth c) {call : Nat → List Value → mc_M → Option mc_R} {d : Nat} (IH : ∀ (k : Nat) (q : Nat × MethodName × ByteArray × Nat × Option FieldType × Nat × Nat) (as : List Value) (M : mc_M) (w : mc_R), mc_mt k = some q → call k as M = some w → mc_Met l kt G d q as M w ∧ mc_le M w.2) (hF : d + 6 ≤ R.frames ∧ 36 * (d + 6) ≤ R.locals) {x : Instr} {n : Nat} {S0 : mc_S} (hd : decode cc S0.1 = .ok (x, n)) (h : mc_step kt call own nL ini ret x n S0 = some (.inl S)) (hR : S.2.2.2.length ≤ R.cells + l0 ∧ mc_sz S.2.2.2 ≤ R.slots + z0) (kS : mc_W G p l e R s m args below meth c Q nL l0 z0 S) : mc_W G p l e R s m args below meth c Q nL l0 z0 S0 := by
  obtain ⟨pc, L, st, M⟩ := S0
  have hx := C.1
  have hb := C.2.1
  have hinj := C.2.2.2.2.2.1.2.2.2.1.2.2.2.2
  cases x with
  | iconst i =>
    have h : mc_n (n == 1) (mc_go (pc + 1) L (.int (Int32.ofInt i) :: st) M) = some (.inl S) := h
    obtain ⟨hn, h8⟩ := mc_n_t h
    have hn : n = 1 := by simpa using hn
    subst hn
    exact mc_r_go (fun H locs cells slots ls kk => lv_iconst hx hb hd rfl kk) h8 kS
  | bipush i =>
    have h : mc_n (n == 2) (mc_go (pc + 2) L (.int (Int8.ofInt i).toInt32 :: st) M) = some (.inl S) := h
    obtain ⟨hn, h8⟩ := mc_n_t h
    have hn : n = 2 := by simpa using hn
    subst hn
    exact mc_r_go (fun H locs cells slots ls kk => lv_bipush hx hb hd rfl kk) h8 kS
  | sipush i =>
    have h : mc_n (n == 3) (mc_go (pc + 3) L (.int (Int16.ofInt i).toInt32 :: st) M) = some (.inl S) := h
    obtain ⟨hn, h8⟩ := mc_n_t h
    have hn : n = 3 := by simpa using hn
    subst hn
    exact mc_r_go (fun H locs cells slots ls kk => lv_sipush hx hb hd rfl kk) h8 kS
  | lconst i =>
    have h : mc_n (n == 1) (mc_go (pc + 1) L (.long (Int64.ofNat (i : Nat)) :: st) M) = some (.inl S) := h
    obtain ⟨hn, h8⟩ := mc_n_t h
    have hn : n = 1 := by simpa using hn
    subst hn
    exact mc_r_go (fun H locs cells slots ls kk => lv_lconst hx hb hd rfl kk) h8 kS
  | aconst_null  =>
    have h : mc_n (n == 1) (mc_go (pc + 1) L (.null :: st) M) = some (.inl S) := h
    obtain ⟨hn, h8⟩ := mc_n_t h
    have hn : n = 1 := by simpa using hn
    subst hn
    exact mc_r_go (fun H locs cells slots ls kk => lv_null hx hb hd kk) h8 kS
  | iload_n i =>
    have h : mc_n (n == 1) (mc_ld mc_isI (i : Nat) 1 pc L st M) = some (.inl S) := h
    obtain ⟨hn, h8⟩ := mc_n_t h
    have hn : n = 1 := by simpa using hn
    subst hn
    exact mc_r_ld (fun H locs cells slots ls rest v hv hl kk => by
      cases v with
      | int x => exact lv_iload_n hx hb hd rfl hl kk
      | _ => cases hv) h8 kS
  | iload i =>
    have h : mc_n (n == 2) (mc_ld mc_isI i 2 pc L st M) = some (.inl S) := h
    obtain ⟨hn, h8⟩ := mc_n_t h
    have hn : n = 2 := by simpa using hn
    subst hn
    exact mc_r_ld (fun H locs cells slots ls rest v hv hl kk => by
      cases v with
      | int x => exact lv_iload hx hb hd hl kk
      | _ => cases hv) h8 kS
  | lload_n i =>
    have h : mc_n (n == 1) (mc_ld mc_isL (i : Nat) 1 pc L st M) = some (.inl S) := h
    obtain ⟨hn, h8⟩ := mc_n_t h
    have hn : n = 1 := by simpa using hn
    subst hn
    exact mc_r_ld (fun H locs cells slots ls rest v hv hl kk => by
      cases v with
      | long x => exact lv_lload_n hx hb hd rfl hl kk
      | _ => cases hv) h8 kS
  | lload i =>
    have h : mc_n (n == 2) (mc_ld mc_isL i 2 pc L st M) = some (.inl S) := h
    obtain ⟨hn, h8⟩ := mc_n_t h
    have hn : n = 2 := by simpa using hn
    subst hn
    exact mc_r_ld (fun H locs cells slots ls rest v hv hl kk => by
      cases v with
      | long x => exact lv_lload hx hb hd hl kk
      | _ => cases hv) h8 kS
  | aload_n i =>
    have h : mc_n (n == 1) (mc_ld mc_isA (i : Nat) 1 pc L st M) = some (.inl S) := h
    obtain ⟨hn, h8⟩ := mc_n_t h
    have hn : n = 1 := by simpa using hn
    subst hn
    exact mc_r_ld (fun H locs cells slots ls rest v hv hl kk => by
      cases v with
      | ref x => exact lv_aload_n hx hb hd rfl hl kk
      | null => exact lv_aload_nN hx hb hd rfl hl kk
      | _ => cases hv) h8 kS
  | aload i =>
    have h : mc_n (n == 2) (mc_ld mc_isA i 2 pc L st M) = some (.inl S) := h
    obtain ⟨hn, h8⟩ := mc_n_t h
    have hn : n = 2 := by simpa using hn
    subst hn
    exact mc_r_ld (fun H locs cells slots ls rest v hv hl kk => by
      cases v with
      | ref x => exact lv_aload hx hb hd hl kk
      | null => exact lv_aloadN hx hb hd hl kk
      | _ => cases hv) h8 kS
  | istore_n i =>
    have h : mc_n (n == 1) (mc_sv mc_isI nL (i : Nat) 1 pc L st M) = some (.inl S) := h
    obtain ⟨hn, h8⟩ := mc_n_t h
    have hn : n = 1 := by simpa using hn
    subst hn
    exact mc_r_sv (fun H locs cells slots ls rest v lv hv h9 hi kk => by
      cases v with
      | int x => exact lv_istore_n hx hb hd rfl h9 hi rfl kk
      | _ => cases hv) h8 kS
  | istore i =>
    have h : mc_n (n == 2) (mc_sv mc_isI nL i 2 pc L st M) = some (.inl S) := h
    obtain ⟨hn, h8⟩ := mc_n_t h
    have hn : n = 2 := by simpa using hn
    subst hn
    exact mc_r_sv (fun H locs cells slots ls rest v lv hv h9 hi kk => by
      cases v with
      | int x => exact lv_istore hx hb hd h9 hi rfl kk
      | _ => cases hv) h8 kS
  | astore_n i =>
    have h : mc_n (n == 1) (mc_sv mc_isA nL (i : Nat) 1 pc L st M) = some (.inl S) := h
    obtain ⟨hn, h8⟩ := mc_n_t h
    have hn : n = 1 := by simpa using hn
    subst hn
    exact mc_r_sv (fun H locs cells slots ls rest v lv hv h9 hi kk => by
      cases v with
      | ref x => exact lv_astore_n hx hb hd rfl h9 hi rfl kk
      | null => exact lv_astore_nN hx hb hd rfl h9 hi rfl kk
      | _ => cases hv) h8 kS
  | astore i =>
    have h : mc_n (n == 2) (mc_sv mc_isA nL i 2 pc L st M) = some (.inl S) := h
    obtain ⟨hn, h8⟩ := mc_n_t h
    have hn : n = 2 := by simpa using hn
    subst hn
    exact mc_r_sv (fun H locs cells slots ls rest v lv hv h9 hi kk => by
      cases v with
      | ref x => exact lv_astore hx hb hd h9 hi rfl kk
      | null => exact lv_astoreN hx hb hd h9 hi rfl kk
      | _ => cases hv) h8 kS
  | lstore_n i =>
    have h : mc_n (n == 1) (mc_svL nL (i : Nat) 1 pc L st M) = some (.inl S) := h
    obtain ⟨hn, h8⟩ := mc_n_t h
    have hn : n = 1 := by simpa using hn
    subst hn
    exact mc_r_svL (fun H locs cells slots ls rest x lv h9 hi kk => lv_lstore_n hx hb hd rfl h9 hi rfl kk) h8 kS
  | lstore i =>
    have h : mc_n (n == 2) (mc_svL nL i 2 pc L st M) = some (.inl S) := h
    obtain ⟨hn, h8⟩ := mc_n_t h
    have hn : n = 2 := by simpa using hn
    subst hn
    exact mc_r_svL (fun H locs cells slots ls rest x lv h9 hi kk => lv_lstore hx hb hd h9 hi rfl kk) h8 kS
  | iinc i k =>
    have h : mc_n (n == 3) (mc_inc nL i k pc L st M) = some (.inl S) := h
    obtain ⟨hn, h8⟩ := mc_n_t h
    have hn : n = 3 := by simpa using hn
    subst hn
    exact mc_r_inc (fun H locs cells slots ls rest x lv j h9 hj hi kk => lv_iinc hx hb hd h9 hj rfl hi rfl kk) h8 kS
  | iadd  =>
    have h : mc_n (n == 1) (mc_ii2 (fun x y => some (x + y)) pc L st M) = some (.inl S) := h
    obtain ⟨hn, h8⟩ := mc_n_t h
    have hn : n = 1 := by simpa using hn
    subst hn
    exact mc_r_ii2 (fun H locs cells slots ls rest x y z hz kk => by
      cases hz
      exact lv_iadd hx hb hd kk) h8 kS
  | isub  =>
    have h : mc_n (n == 1) (mc_ii2 (fun x y => some (x - y)) pc L st M) = some (.inl S) := h
    obtain ⟨hn, h8⟩ := mc_n_t h
    have hn : n = 1 := by simpa using hn
    subst hn
    exact mc_r_ii2 (fun H locs cells slots ls rest x y z hz kk => by
      cases hz
      exact lv_isub hx hb hd kk) h8 kS
  | imul  =>
    have h : mc_n (n == 1) (mc_ii2 (fun x y => some (x * y)) pc L st M) = some (.inl S) := h
    obtain ⟨hn, h8⟩ := mc_n_t h
    have hn : n = 1 := by simpa using hn
    subst hn
    exact mc_r_ii2 (fun H locs cells slots ls rest x y z hz kk => by
      cases hz
      exact lv_imul hx hb hd kk) h8 kS
  | iand  =>
    have h : mc_n (n == 1) (mc_ii2 (fun x y => some (x &&& y)) pc L st M) = some (.inl S) := h
    obtain ⟨hn, h8⟩ := mc_n_t h
    have hn : n = 1 := by simpa using hn
    subst hn
    exact mc_r_ii2 (fun H locs cells slots ls rest x y z hz kk => by
      cases hz
      exact lv_iand hx hb hd kk) h8 kS
  | ior  =>
    have h : mc_n (n == 1) (mc_ii2 (fun x y => some (x ||| y)) pc L st M) = some (.inl S) := h
    obtain ⟨hn, h8⟩ := mc_n_t h
    have hn : n = 1 := by simpa using hn
    subst hn
    exact mc_r_ii2 (fun H locs cells slots ls rest x y z hz kk => by
      cases hz
      exact lv_ior hx hb hd kk) h8 kS
  | ixor  =>
    have h : mc_n (n == 1) (mc_ii2 (fun x y => some (x ^^^ y)) pc L st M) = some (.inl S) := h
    obtain ⟨hn, h8⟩ := mc_n_t h
    have hn : n = 1 := by simpa using hn
    subst hn
    exact mc_r_ii2 (fun H locs cells slots ls rest x y z hz kk => by
      cases hz
      exact lv_ixor hx hb hd kk) h8 kS
  | ishl  =>
    have h : mc_n (n == 1) (mc_ii2 (fun x y => some (x <<< (y &&& 31))) pc L st M) = some (.inl S) := h
    obtain ⟨hn, h8⟩ := mc_n_t h
    have hn : n = 1 := by simpa using hn
    subst hn
    exact mc_r_ii2 (fun H locs cells slots ls rest x y z hz kk => by
      cases hz
      exact lv_ishl hx hb hd kk) h8 kS
  | ishr  =>
    have h : mc_n (n == 1) (mc_ii2 (fun x y => some (x >>> (y &&& 31))) pc L st M) = some (.inl S) := h
    obtain ⟨hn, h8⟩ := mc_n_t h
    have hn : n = 1 := by simpa using hn
    subst hn
    exact mc_r_ii2 (fun H locs cells slots ls rest x y z hz kk => by
      cases hz
      exact lv_ishr hx hb hd kk) h8 kS
  | iushr  =>
    have h : mc_n (n == 1) (mc_ii2 (fun x y => some (x.toUInt32 >>> (y.toUInt32 &&& Int32.toUInt32 31)).toInt32) pc L st M) = some (.inl S) := h
    obtain ⟨hn, h8⟩ := mc_n_t h
    have hn : n = 1 := by simpa using hn
    subst hn
    exact mc_r_ii2 (fun H locs cells slots ls rest x y z hz kk => by
      cases hz
      exact lv_iushr hx hb hd rfl kk) h8 kS
  | idiv  =>
    have h : mc_n (n == 1) (mc_ii2 (fun x y => if y = 0 then none else some (x / y)) pc L st M) = some (.inl S) := h
    obtain ⟨hn, h8⟩ := mc_n_t h
    have hn : n = 1 := by simpa using hn
    subst hn
    exact mc_r_ii2 (fun H locs cells slots ls rest x y z hz kk => by
      split at hz
      · cases hz
      · next hne =>
        cases hz
        exact lv_idiv hx hb hd hne kk) h8 kS
  | irem  =>
    have h : mc_n (n == 1) (mc_ii2 (fun x y => if y = 0 then none else some (x - x / y * y)) pc L st M) = some (.inl S) := h
    obtain ⟨hn, h8⟩ := mc_n_t h
    have hn : n = 1 := by simpa using hn
    subst hn
    exact mc_r_ii2 (fun H locs cells slots ls rest x y z hz kk => by
      split at hz
      · cases hz
      · next hne =>
        cases hz
        exact lv_irem hx hb hd hne kk) h8 kS
  | ladd  =>
    have h : mc_n (n == 1) (mc_ll2 (fun x y => some (x + y)) pc L st M) = some (.inl S) := h
    obtain ⟨hn, h8⟩ := mc_n_t h
    have hn : n = 1 := by simpa using hn
    subst hn
    exact mc_r_ll2 (fun H locs cells slots ls rest x y z hz kk => by
      cases hz
      exact lv_ladd hx hb hd kk) h8 kS
  | lsub  =>
    have h : mc_n (n == 1) (mc_ll2 (fun x y => some (x - y)) pc L st M) = some (.inl S) := h
    obtain ⟨hn, h8⟩ := mc_n_t h
    have hn : n = 1 := by simpa using hn
    subst hn
    exact mc_r_ll2 (fun H locs cells slots ls rest x y z hz kk => by
      cases hz
      exact lv_lsub hx hb hd kk) h8 kS
  | lmul  =>
    have h : mc_n (n == 1) (mc_ll2 (fun x y => some (x * y)) pc L st M) = some (.inl S) := h
    obtain ⟨hn, h8⟩ := mc_n_t h
    have hn : n = 1 := by simpa using hn
    subst hn
    exact mc_r_ll2 (fun H locs cells slots ls rest x y z hz kk => by
      cases hz
      exact lv_lmul hx hb hd kk) h8 kS
  | land  =>
    have h : mc_n (n == 1) (mc_ll2 (fun x y => some (x &&& y)) pc L st M) = some (.inl S) := h
    obtain ⟨hn, h8⟩ := mc_n_t h
    have hn : n = 1 := by simpa using hn
    subst hn
    exact mc_r_ll2 (fun H locs cells slots ls rest x y z hz kk => by
      cases hz
      exact lv_land hx hb hd kk) h8 kS
  | lor  =>
    have h : mc_n (n == 1) (mc_ll2 (fun x y => some (x ||| y)) pc L st M) = some (.inl S) := h
    obtain ⟨hn, h8⟩ := mc_n_t h
    have hn : n = 1 := by simpa using hn
    subst hn
    exact mc_r_ll2 (fun H locs cells slots ls rest x y z hz kk => by
      cases hz
      exact lv_lor hx hb hd kk) h8 kS
  | ldiv  =>
    have h : mc_n (n == 1) (mc_ll2 (fun x y => if y = 0 then none else some (x / y)) pc L st M) = some (.inl S) := h
    obtain ⟨hn, h8⟩ := mc_n_t h
    have hn : n = 1 := by simpa using hn
    subst hn
    exact mc_r_ll2 (fun H locs cells slots ls rest x y z hz kk => by
      split at hz
      · cases hz
      · next hne =>
        cases hz
        exact lv_ldiv hx hb hd hne kk) h8 kS
  | lrem  =>
    have h : mc_n (n == 1) (mc_ll2 (fun x y => if y = 0 then none else some (x - x / y * y)) pc L st M) = some (.inl S) := h
    obtain ⟨hn, h8⟩ := mc_n_t h
    have hn : n = 1 := by simpa using hn
    subst hn
    exact mc_r_ll2 (fun H locs cells slots ls rest x y z hz kk => by
      split at hz
      · cases hz
      · next hne =>
        cases hz
        exact lv_lrem hx hb hd hne kk) h8 kS
  | lshl  =>
    have h : mc_n (n == 1) (mc_li2 (fun x y => x <<< (y.toInt64 &&& 63)) pc L st M) = some (.inl S) := h
    obtain ⟨hn, h8⟩ := mc_n_t h
    have hn : n = 1 := by simpa using hn
    subst hn
    exact mc_r_li2 (fun H locs cells slots ls rest x y kk => lv_lshl hx hb hd rfl kk) h8 kS
  | lshr  =>
    have h : mc_n (n == 1) (mc_li2 (fun x y => x >>> (y.toInt64 &&& 63)) pc L st M) = some (.inl S) := h
    obtain ⟨hn, h8⟩ := mc_n_t h
    have hn : n = 1 := by simpa using hn
    subst hn
    exact mc_r_li2 (fun H locs cells slots ls rest x y kk => lv_lshr hx hb hd rfl kk) h8 kS
  | lcmp  =>
    have h : mc_n (n == 1) (mc_cmp pc L st M) = some (.inl S) := h
    obtain ⟨hn, h8⟩ := mc_n_t h
    have hn : n = 1 := by simpa using hn
    subst hn
    exact mc_r_cmp (fun H locs cells slots ls rest x y kk => W.lcmp hx hb hd kk) h8 kS
  | ineg  =>
    have h : mc_n (n == 1) (mc_i1 (fun x => .int (-x)) pc L st M) = some (.inl S) := h
    obtain ⟨hn, h8⟩ := mc_n_t h
    have hn : n = 1 := by simpa using hn
    subst hn
    exact mc_r_i1 (f := fun x => .int (-x)) (fun H locs cells slots ls rest x kk => lv_ineg hx hb hd kk) h8 kS
  | i2l  =>
    have h : mc_n (n == 1) (mc_i1 (fun x => .long x.toInt64) pc L st M) = some (.inl S) := h
    obtain ⟨hn, h8⟩ := mc_n_t h
    have hn : n = 1 := by simpa using hn
    subst hn
    exact mc_r_i1 (f := fun x => .long x.toInt64) (fun H locs cells slots ls rest x kk => lv_i2l hx hb hd rfl kk) h8 kS
  | i2b  =>
    have h : mc_n (n == 1) (mc_i1 (fun x => .int x.toInt8.toInt32) pc L st M) = some (.inl S) := h
    obtain ⟨hn, h8⟩ := mc_n_t h
    have hn : n = 1 := by simpa using hn
    subst hn
    exact mc_r_i1 (f := fun x => .int x.toInt8.toInt32) (fun H locs cells slots ls rest x kk => lv_i2b hx hb hd rfl kk) h8 kS
  | l2i  =>
    have h : mc_n (n == 1) (mc_l1 (fun x => .int x.toInt32) pc L st M) = some (.inl S) := h
    obtain ⟨hn, h8⟩ := mc_n_t h
    have hn : n = 1 := by simpa using hn
    subst hn
    exact mc_r_l1 (f := fun x => .int x.toInt32) (fun H locs cells slots ls rest x kk => lv_l2i hx hb hd rfl kk) h8 kS
  | if_icmp cond off =>
    cases cond with
    | eq =>
      have h : mc_n (n == 3) (mc_ic2 (fun x y => decide (x = y)) pc off L st M) = some (.inl S) := h
      obtain ⟨hn, h8⟩ := mc_n_t h
      have hn : n = 3 := by simpa using hn
      subst hn
      exact mc_r_ic2 (fun H locs cells slots ls rest x y tgt ht kt kf => lv_icmp_eq hx hb hd ht (fun q => kt (decide_eq_true q)) (fun q => kf (decide_eq_false q))) h8 kS
    | ne =>
      have h : mc_n (n == 3) (mc_ic2 (fun x y => decide (¬ x = y)) pc off L st M) = some (.inl S) := h
      obtain ⟨hn, h8⟩ := mc_n_t h
      have hn : n = 3 := by simpa using hn
      subst hn
      exact mc_r_ic2 (fun H locs cells slots ls rest x y tgt ht kt kf => lv_icmp_ne hx hb hd ht (fun q => kt (decide_eq_true q)) (fun q => kf (decide_eq_false (fun z => z q)))) h8 kS
    | lt =>
      have h : mc_n (n == 3) (mc_ic2 (fun x y => decide (x < y)) pc off L st M) = some (.inl S) := h
      obtain ⟨hn, h8⟩ := mc_n_t h
      have hn : n = 3 := by simpa using hn
      subst hn
      exact mc_r_ic2 (fun H locs cells slots ls rest x y tgt ht kt kf => lv_icmp_lt hx hb hd ht (fun q => kt (decide_eq_true q)) (fun q => kf (decide_eq_false q))) h8 kS
    | ge =>
      have h : mc_n (n == 3) (mc_ic2 (fun x y => decide (y ≤ x)) pc off L st M) = some (.inl S) := h
      obtain ⟨hn, h8⟩ := mc_n_t h
      have hn : n = 3 := by simpa using hn
      subst hn
      exact mc_r_ic2 (fun H locs cells slots ls rest x y tgt ht kt kf => lv_icmp_ge hx hb hd ht (fun q => kt (decide_eq_true q)) (fun q => kf (decide_eq_false q))) h8 kS
    | gt =>
      have h : mc_n (n == 3) (mc_ic2 (fun x y => decide (y < x)) pc off L st M) = some (.inl S) := h
      obtain ⟨hn, h8⟩ := mc_n_t h
      have hn : n = 3 := by simpa using hn
      subst hn
      exact mc_r_ic2 (fun H locs cells slots ls rest x y tgt ht kt kf => lv_icmp_gt hx hb hd ht (fun q => kt (decide_eq_true q)) (fun q => kf (decide_eq_false q))) h8 kS
    | le =>
      have h : mc_n (n == 3) (mc_ic2 (fun x y => decide (x ≤ y)) pc off L st M) = some (.inl S) := h
      obtain ⟨hn, h8⟩ := mc_n_t h
      have hn : n = 3 := by simpa using hn
      subst hn
      exact mc_r_ic2 (fun H locs cells slots ls rest x y tgt ht kt kf => lv_icmp_le hx hb hd ht (fun q => kt (decide_eq_true q)) (fun q => kf (decide_eq_false q))) h8 kS
  | ifCond cond off =>
    cases cond with
    | eq =>
      have h : mc_n (n == 3) (mc_ic1 (fun x => decide (x = 0)) pc off L st M) = some (.inl S) := h
      obtain ⟨hn, h8⟩ := mc_n_t h
      have hn : n = 3 := by simpa using hn
      subst hn
      exact mc_r_ic1 (fun H locs cells slots ls rest x tgt ht kt kf => lv_if_eq hx hb hd ht (fun q => kt (decide_eq_true q)) (fun q => kf (decide_eq_false q))) h8 kS
    | ne =>
      have h : mc_n (n == 3) (mc_ic1 (fun x => decide (¬ x = 0)) pc off L st M) = some (.inl S) := h
      obtain ⟨hn, h8⟩ := mc_n_t h
      have hn : n = 3 := by simpa using hn
      subst hn
      exact mc_r_ic1 (fun H locs cells slots ls rest x tgt ht kt kf => lv_if_ne hx hb hd ht (fun q => kt (decide_eq_true q)) (fun q => kf (decide_eq_false (fun z => z q)))) h8 kS
    | lt =>
      have h : mc_n (n == 3) (mc_ic1 (fun x => decide (x < 0)) pc off L st M) = some (.inl S) := h
      obtain ⟨hn, h8⟩ := mc_n_t h
      have hn : n = 3 := by simpa using hn
      subst hn
      exact mc_r_ic1 (fun H locs cells slots ls rest x tgt ht kt kf => lv_if_lt hx hb hd ht (fun q => kt (decide_eq_true q)) (fun q => kf (decide_eq_false q))) h8 kS
    | ge =>
      have h : mc_n (n == 3) (mc_ic1 (fun x => decide (0 ≤ x)) pc off L st M) = some (.inl S) := h
      obtain ⟨hn, h8⟩ := mc_n_t h
      have hn : n = 3 := by simpa using hn
      subst hn
      exact mc_r_ic1 (fun H locs cells slots ls rest x tgt ht kt kf => lv_if_ge hx hb hd ht (fun q => kt (decide_eq_true q)) (fun q => kf (decide_eq_false q))) h8 kS
    | gt =>
      have h : mc_n (n == 3) (mc_ic1 (fun x => decide (0 < x)) pc off L st M) = some (.inl S) := h
      obtain ⟨hn, h8⟩ := mc_n_t h
      have hn : n = 3 := by simpa using hn
      subst hn
      exact mc_r_ic1 (fun H locs cells slots ls rest x tgt ht kt kf => lv_if_gt hx hb hd ht (fun q => kt (decide_eq_true q)) (fun q => kf (decide_eq_false q))) h8 kS
    | le =>
      have h : mc_n (n == 3) (mc_ic1 (fun x => decide (x ≤ 0)) pc off L st M) = some (.inl S) := h
      obtain ⟨hn, h8⟩ := mc_n_t h
      have hn : n = 3 := by simpa using hn
      subst hn
      exact mc_r_ic1 (fun H locs cells slots ls rest x tgt ht kt kf => lv_if_le hx hb hd ht (fun q => kt (decide_eq_true q)) (fun q => kf (decide_eq_false q))) h8 kS
  | ifnull off =>
    have h : mc_n (n == 3) (mc_icn true pc off L st M) = some (.inl S) := h
    obtain ⟨hn, h8⟩ := mc_n_t h
    have hn : n = 3 := by simpa using hn
    subst hn
    exact mc_r_icn (f := true) (fun H locs cells slots ls rest x tgt ht kk => lv_ifnull hx hb hd kk) (fun H locs cells slots ls rest tgt ht kk => lv_ifnullN hx hb hd ht kk) h8 kS
  | ifnonnull off =>
    have h : mc_n (n == 3) (mc_icn false pc off L st M) = some (.inl S) := h
    obtain ⟨hn, h8⟩ := mc_n_t h
    have hn : n = 3 := by simpa using hn
    subst hn
    exact mc_r_icn (f := false) (fun H locs cells slots ls rest x tgt ht kk => lv_ifnonnull hx hb hd ht kk) (fun H locs cells slots ls rest tgt ht kk => lv_ifnonnullN hx hb hd kk) h8 kS
  | if_acmp cond off =>
    cases cond with
    | eq =>
      have h : mc_n (n == 3) (mc_ica true pc off L st M) = some (.inl S) := h
      obtain ⟨hn, h8⟩ := mc_n_t h
      have hn : n = 3 := by simpa using hn
      subst hn
      exact mc_r_ica hinj (fun H locs cells slots ls rest rx ry tgt ht kt kf => lv_acmp_eq hx hb hd ht (fun q => kt (by simp [q])) (fun q => kf (by simp [q]))) h8 kS
    | ne =>
      have h : mc_n (n == 3) (mc_ica false pc off L st M) = some (.inl S) := h
      obtain ⟨hn, h8⟩ := mc_n_t h
      have hn : n = 3 := by simpa using hn
      subst hn
      exact mc_r_ica hinj (fun H locs cells slots ls rest rx ry tgt ht kt kf => lv_acmp_ne hx hb hd ht (fun q => kt (by simp [q])) (fun q => kf (by simp [q]))) h8 kS
  | goto off =>
    have h : mc_n (n == 3) (mc_jp pc off L st M) = some (.inl S) := h
    obtain ⟨hn, h8⟩ := mc_n_t h
    have hn : n = 3 := by simpa using hn
    subst hn
    exact mc_r_jp (fun H locs cells slots ls rest tgt ht kk => lv_goto hx hb hd ht kk) h8 kS
  | dup  =>
    have h : mc_n (n == 1) (mc_dup pc L st M) = some (.inl S) := h
    obtain ⟨hn, h8⟩ := mc_n_t h
    have hn : n = 1 := by simpa using hn
    subst hn
    exact mc_r_dup (fun H locs cells slots ls rest v hv kk => lv_dup hx hb hd hv kk) h8 kS
  | pop  =>
    have h : mc_n (n == 1) (mc_pop pc L st M) = some (.inl S) := h
    obtain ⟨hn, h8⟩ := mc_n_t h
    have hn : n = 1 := by simpa using hn
    subst hn
    exact mc_r_pop (fun H locs cells slots ls rest v hv kk => lv_pop hx hb hd hv kk) h8 kS
  | dup2  =>
    have h : mc_n (n == 1) (mc_dup2 pc L st M) = some (.inl S) := h
    obtain ⟨hn, h8⟩ := mc_n_t h
    have hn : n = 1 := by simpa using hn
    subst hn
    exact mc_r_dup2 (fun H locs cells slots ls rest v hv kk => lv_dup2_2 hx hb hd hv kk) (fun H locs cells slots ls rest v w hv hw kk => lv_dup2_11 hx hb hd hv hw kk) h8 kS
  | pop2  =>
    have h : mc_n (n == 1) (mc_pop2 pc L st M) = some (.inl S) := h
    obtain ⟨hn, h8⟩ := mc_n_t h
    have hn : n = 1 := by simpa using hn
    subst hn
    exact mc_r_pop2 (fun H locs cells slots ls rest v hv kk => lv_pop2_2 hx hb hd hv kk) h8 kS
  | getfield i =>
    have h : mc_n (n == 3) (mc_getf kt own i pc L st M) = some (.inl S) := h
    obtain ⟨hn, h8⟩ := mc_n_t h
    have hn : n = 3 := by simpa using hn
    subst hn
    exact mc_r_getf C hd h8 kS
  | putfield i =>
    have h : mc_n (n == 3) (mc_putf own ini i pc L st M) = some (.inl S) := h
    obtain ⟨hn, h8⟩ := mc_n_t h
    have hn : n = 3 := by simpa using hn
    subst hn
    exact mc_r_putf C hd h8 kS
  | iaload  =>
    have h : mc_n (n == 1) (mc_ald kt (fun t => t == 0) pc L st M) = some (.inl S) := h
    obtain ⟨hn, h8⟩ := mc_n_t h
    have hn : n = 1 := by simpa using hn
    subst hn
    exact mc_r_ald C (fun H locs cells slots ls rest t a cell i v ht hcell harr hvm hin hv kk => by
      have ht : t = 0 := by simpa using ht
      subst ht
      exact W.iald hx hb hcell harr hvm hin hv rfl rfl hd kk) h8 kS
  | laload  =>
    have h : mc_n (n == 1) (mc_ald kt (fun t => t == 1) pc L st M) = some (.inl S) := h
    obtain ⟨hn, h8⟩ := mc_n_t h
    have hn : n = 1 := by simpa using hn
    subst hn
    exact mc_r_ald C (fun H locs cells slots ls rest t a cell i v ht hcell harr hvm hin hv kk => by
      have ht : t = 1 := by simpa using ht
      subst ht
      exact W.lald hx hb hcell harr hvm hin hv rfl rfl hd kk) h8 kS
  | baload  =>
    have h : mc_n (n == 1) (mc_ald kt (fun t => t == 2 || t == 3) pc L st M) = some (.inl S) := h
    obtain ⟨hn, h8⟩ := mc_n_t h
    have hn : n = 1 := by simpa using hn
    subst hn
    exact mc_r_ald C (fun H locs cells slots ls rest t a cell i v ht hcell harr hvm hin hv kk => by
      have ht : t = 2 ∨ t = 3 := by simpa using ht
      rcases ht with ht | ht <;> subst ht
      · exact W.bald hx hb hcell harr hvm hin hv rfl rfl hd kk
      · exact W.zald hx hb hcell harr hvm hin hv rfl rfl hd kk) h8 kS
  | aaload  =>
    have h : mc_n (n == 1) (mc_ald kt (fun t => decide (4 ≤ t)) pc L st M) = some (.inl S) := h
    obtain ⟨hn, h8⟩ := mc_n_t h
    have hn : n = 1 := by simpa using hn
    subst hn
    exact mc_r_ald C (fun H locs cells slots ls rest t a cell i v ht hcell harr hvm hin hv kk => by
      have ht : 4 ≤ t := by simpa using ht
      exact W.aald hx hb hcell harr (mc_ref4 ht) hvm hin hv rfl rfl hd kk) h8 kS
  | iastore  =>
    have h : mc_n (n == 1) (mc_ast kt (fun t v => t == 0 && mc_isI v) (fun _ v => v) pc L st M) = some (.inl S) := h
    obtain ⟨hn, h8⟩ := mc_n_t h
    have hn : n = 1 := by simpa using hn
    subst hn
    exact mc_r_ast C (fun H locs cells slots ls rest t v a cell i hok hcell harr hvm hin kk => by
      simp only [Bool.and_eq_true, beq_iff_eq] at hok
      obtain ⟨ht, hv⟩ := hok
      subst ht
      cases v with
      | int x => exact W.iast hx hb hcell harr hvm hin rfl rfl hd kk
      | _ => cases hv) (fun t v hok => by
      simp only [Bool.and_eq_true, beq_iff_eq] at hok
      omega) h8 kS
  | lastore  =>
    have h : mc_n (n == 1) (mc_ast kt (fun t v => t == 1 && mc_isL v) (fun _ v => v) pc L st M) = some (.inl S) := h
    obtain ⟨hn, h8⟩ := mc_n_t h
    have hn : n = 1 := by simpa using hn
    subst hn
    exact mc_r_ast C (fun H locs cells slots ls rest t v a cell i hok hcell harr hvm hin kk => by
      simp only [Bool.and_eq_true, beq_iff_eq] at hok
      obtain ⟨ht, hv⟩ := hok
      subst ht
      cases v with
      | long x => exact W.last hx hb hcell harr hvm hin rfl rfl hd kk
      | _ => cases hv) (fun t v hok => by
      simp only [Bool.and_eq_true, beq_iff_eq] at hok
      omega) h8 kS
  | bastore  =>
    have h : mc_n (n == 1) (mc_ast kt (fun t v => (t == 2 || t == 3) && mc_isI v) (fun t v => narrow (mc_ty t) v) pc L st M) = some (.inl S) := h
    obtain ⟨hn, h8⟩ := mc_n_t h
    have hn : n = 1 := by simpa using hn
    subst hn
    exact mc_r_ast C (fun H locs cells slots ls rest t v a cell i hok hcell harr hvm hin kk => by
      simp only [Bool.and_eq_true, Bool.or_eq_true, beq_iff_eq] at hok
      obtain ⟨ht, hv⟩ := hok
      cases v with
      | int x =>
        rcases ht with ht | ht <;> subst ht
        · exact W.bast hx hb hcell harr hvm hin rfl rfl hd kk
        · exact W.zast hx hb hcell harr hvm hin rfl rfl hd kk
      | _ => cases hv) (fun t v hok => by
      simp only [Bool.and_eq_true, Bool.or_eq_true, beq_iff_eq] at hok
      omega) h8 kS
  | aastore  =>
    have h : mc_n (n == 1) (mc_ast kt (mc_isP M) (fun _ v => v) pc L st M) = some (.inl S) := h
    obtain ⟨hn, h8⟩ := mc_n_t h
    have hn : n = 1 := by simpa using hn
    subst hn
    exact mc_r_aast C hd h8 kS
  | arraylength  =>
    have h : mc_n (n == 1) (mc_len kt pc L st M) = some (.inl S) := h
    obtain ⟨hn, h8⟩ := mc_n_t h
    have hn : n = 1 := by simpa using hn
    subst hn
    exact mc_r_len C hd h8 kS
  | newarray a =>
    have h : mc_n (n == 2) (mc_newa a pc L st M) = some (.inl S) := h
    obtain ⟨hn, h8⟩ := mc_n_t h
    have hn : n = 2 := by simpa using hn
    subst hn
    exact mc_r_newa C hd h8 hR kS
  | anewarray i =>
    have h : mc_n (n == 3) (mc_anew own i pc L st M) = some (.inl S) := h
    obtain ⟨hn, h8⟩ := mc_n_t h
    have hn : n = 3 := by simpa using hn
    subst hn
    exact mc_r_anew C hd h8 hR kS
  | multianewarray i j =>
    match j, hd, h with
    | 2, hd, h =>
      have h : mc_n (n == 4) (mc_mna own i pc L st M) = some (.inl S) := h
      obtain ⟨hn, h8⟩ := mc_n_t h
      have hn : n = 4 := by simpa using hn
      subst hn
      exact mc_r_mna C hd h8 hR kS
    | 0, hd, h => cases h
    | 1, hd, h => cases h
    | j + 3, hd, h => cases h
  | new i =>
    have h : mc_n (n == 3) (mc_new own i pc L st M) = some (.inl S) := h
    obtain ⟨hn, h8⟩ := mc_n_t h
    have hn : n = 3 := by simpa using hn
    subst hn
    exact mc_r_new C hd h8 hR kS
  | getstatic i =>
    have h : mc_n (n == 3) (mc_gs own i pc L st M) = some (.inl S) := h
    obtain ⟨hn, h8⟩ := mc_n_t h
    have hn : n = 3 := by simpa using hn
    subst hn
    exact mc_r_gs C hd h8 kS
  | ldc i =>
    have h : mc_n (n == 2) (mc_ldc own i 2 pc L st M) = some (.inl S) := h
    obtain ⟨hn, h8⟩ := mc_n_t h
    have hn : n = 2 := by simpa using hn
    subst hn
    exact mc_r_ldc C hd h8 kS
  | ldc_w i =>
    have h : mc_n (n == 3) (mc_ldc own i 3 pc L st M) = some (.inl S) := h
    obtain ⟨hn, h8⟩ := mc_n_t h
    have hn : n = 3 := by simpa using hn
    subst hn
    exact mc_r_ldcw C hd h8 kS
  | ldc2_w i =>
    have h : mc_n (n == 3) (mc_ldc2 own i pc L st M) = some (.inl S) := h
    obtain ⟨hn, h8⟩ := mc_n_t h
    have hn : n = 3 := by simpa using hn
    subst hn
    exact mc_r_ldc2 C hd h8 kS
  | tableswitch d lo hi offs =>
    have h8 : mc_tsw d lo hi offs pc L st M = some (.inl S) := h
    exact mc_r_tsw C hd h8 kS
  | invokevirtual i =>
    have h : mc_n (n == 3) (mc_or (mc_cal call own 1 i pc L st M) (mc_prim own i pc L st M)) = some (.inl S) := h
    obtain ⟨hn, h8⟩ := mc_n_t h
    have hn : n = 3 := by simpa using hn
    subst hn
    exact (mc_or_t h8).elim (fun h => mc_r_calV C IH hF hd h hR kS) (fun h => mc_r_prim C hF hd h hR kS)
  | invokestatic i =>
    have h : mc_n (n == 3) (mc_or (mc_cal call own 0 i pc L st M) (mc_math own i pc L st M)) = some (.inl S) := h
    obtain ⟨hn, h8⟩ := mc_n_t h
    have hn : n = 3 := by simpa using hn
    subst hn
    exact (mc_or_t h8).elim (fun h => mc_r_calS C IH hF hd h hR kS) (fun h => mc_r_math C hF hd h hR kS)
  | invokespecial i =>
    have h : mc_n (n == 3) (mc_or (mc_cal call own 2 i pc L st M) (mc_obj own i pc L st M)) = some (.inl S) := h
    obtain ⟨hn, h8⟩ := mc_n_t h
    have hn : n = 3 := by simpa using hn
    subst hn
    exact (mc_or_t h8).elim (fun h => mc_r_calI C IH (fun k q => mc_void) hF hd h hR kS) (fun h => mc_r_obj C hF hd h kS)
  | ireturn  =>
    have h : mc_n (n == 1) (mc_ret ret st M) = some (.inl S) := h
    obtain ⟨hn, h8⟩ := mc_n_t h
    have hn : n = 1 := by simpa using hn
    subst hn
    exact absurd h8 mc_retX.1
  | lreturn  =>
    have h : mc_n (n == 1) (mc_retL ret st M) = some (.inl S) := h
    obtain ⟨hn, h8⟩ := mc_n_t h
    have hn : n = 1 := by simpa using hn
    subst hn
    exact absurd h8 mc_retX.2.1
  | areturn  =>
    have h : mc_n (n == 1) (mc_retA ret st M) = some (.inl S) := h
    obtain ⟨hn, h8⟩ := mc_n_t h
    have hn : n = 1 := by simpa using hn
    subst hn
    exact absurd h8 mc_retX.2.2.1
  | return_  =>
    have h : mc_n (n == 1) (mc_retV ret st M) = some (.inl S) := h
    obtain ⟨hn, h8⟩ := mc_n_t h
    have hn : n = 1 := by simpa using hn
    subst hn
    exact absurd h8 mc_retX.2.2.2
  | _ => cases h
end MC7
end
