/-! one instruction, a row of them, a method, with unknown numbers (own work, wip/gen/absstep.py) -/
/-- is the pool entry one of the class's own methods -/
def mcA_own (own idx : Nat) : Bool := (mc_find (mc_ml.getD own []) idx).isSome
def mcA_step (kA : Nat → Option mcA_E) (call : Nat → List mc_V → mcA_M → Option mcA_R) (own nL : Nat) (ini : Bool) (ret : Option FieldType) (x : Instr) (n : Nat) (S : mcA_S) : mcA_O := match x with
  | .iconst i => mcA_n (n == 1) (mcA_go (S.1 + 1) S.2.1 (.inl (.int (Int32.ofInt i)) :: S.2.2.1) S.2.2.2)
  | .bipush i => mcA_n (n == 2) (mcA_go (S.1 + 2) S.2.1 (.inl (.int (Int8.ofInt i).toInt32) :: S.2.2.1) S.2.2.2)
  | .sipush i => mcA_n (n == 3) (mcA_go (S.1 + 3) S.2.1 (.inl (.int (Int16.ofInt i).toInt32) :: S.2.2.1) S.2.2.2)
  | .lconst i => mcA_n (n == 1) (mcA_go (S.1 + 1) S.2.1 (.inl (.long (Int64.ofNat (i : Nat))) :: S.2.2.1) S.2.2.2)
  | .aconst_null => mcA_n (n == 1) (mcA_go (S.1 + 1) S.2.1 (.inl (.null) :: S.2.2.1) S.2.2.2)
  | .iload_n i => mcA_n (n == 1) (mcA_ld mcA_isI (i : Nat) 1 S.1 S.2.1 S.2.2.1 S.2.2.2)
  | .iload i => mcA_n (n == 2) (mcA_ld mcA_isI i 2 S.1 S.2.1 S.2.2.1 S.2.2.2)
  | .lload_n i => mcA_n (n == 1) (mcA_ld mcA_isL (i : Nat) 1 S.1 S.2.1 S.2.2.1 S.2.2.2)
  | .lload i => mcA_n (n == 2) (mcA_ld mcA_isL i 2 S.1 S.2.1 S.2.2.1 S.2.2.2)
  | .aload_n i => mcA_n (n == 1) (mcA_ld mcA_isA (i : Nat) 1 S.1 S.2.1 S.2.2.1 S.2.2.2)
  | .aload i => mcA_n (n == 2) (mcA_ld mcA_isA i 2 S.1 S.2.1 S.2.2.1 S.2.2.2)
  | .istore_n i => mcA_n (n == 1) (mcA_sv mcA_isI nL (i : Nat) 1 S.1 S.2.1 S.2.2.1 S.2.2.2)
  | .istore i => mcA_n (n == 2) (mcA_sv mcA_isI nL i 2 S.1 S.2.1 S.2.2.1 S.2.2.2)
  | .astore_n i => mcA_n (n == 1) (mcA_sv mcA_isA nL (i : Nat) 1 S.1 S.2.1 S.2.2.1 S.2.2.2)
  | .astore i => mcA_n (n == 2) (mcA_sv mcA_isA nL i 2 S.1 S.2.1 S.2.2.1 S.2.2.2)
  | .lstore_n i => mcA_n (n == 1) (mcA_svL nL (i : Nat) 1 S.1 S.2.1 S.2.2.1 S.2.2.2)
  | .lstore i => mcA_n (n == 2) (mcA_svL nL i 2 S.1 S.2.1 S.2.2.1 S.2.2.2)
  | .iinc i k => mcA_n (n == 3) (mcA_inc nL i k S.1 S.2.1 S.2.2.1 S.2.2.2)
  | .iadd => mcA_n (n == 1) (mcA_ii2 (fun x y => x + y) S.1 S.2.1 S.2.2.1 S.2.2.2)
  | .isub => mcA_n (n == 1) (mcA_ii2 (fun x y => x - y) S.1 S.2.1 S.2.2.1 S.2.2.2)
  | .imul => mcA_n (n == 1) (mcA_ii2 (fun x y => x * y) S.1 S.2.1 S.2.2.1 S.2.2.2)
  | .iand => mcA_n (n == 1) (mcA_ii2 (fun x y => x &&& y) S.1 S.2.1 S.2.2.1 S.2.2.2)
  | .ior => mcA_n (n == 1) (mcA_ii2 (fun x y => x ||| y) S.1 S.2.1 S.2.2.1 S.2.2.2)
  | .ixor => mcA_n (n == 1) (mcA_ii2 (fun x y => x ^^^ y) S.1 S.2.1 S.2.2.1 S.2.2.2)
  | .ishl => mcA_n (n == 1) (mcA_ii2 (fun x y => x <<< (y &&& 31)) S.1 S.2.1 S.2.2.1 S.2.2.2)
  | .ishr => mcA_n (n == 1) (mcA_ii2 (fun x y => x >>> (y &&& 31)) S.1 S.2.1 S.2.2.1 S.2.2.2)
  | .idiv => mcA_n (n == 1) (mcA_ie2 (fun x y => if y = 0 then none else some (x / y)) S.1 S.2.1 S.2.2.1 S.2.2.2)
  | .irem => mcA_n (n == 1) (mcA_ie2 (fun x y => if y = 0 then none else some (x - x / y * y)) S.1 S.2.1 S.2.2.1 S.2.2.2)
  | .ladd => mcA_n (n == 1) (mcA_ll2 (fun x y => x + y) S.1 S.2.1 S.2.2.1 S.2.2.2)
  | .lsub => mcA_n (n == 1) (mcA_ll2 (fun x y => x - y) S.1 S.2.1 S.2.2.1 S.2.2.2)
  | .lmul => mcA_n (n == 1) (mcA_ll2 (fun x y => x * y) S.1 S.2.1 S.2.2.1 S.2.2.2)
  | .land => mcA_n (n == 1) (mcA_ll2 (fun x y => x &&& y) S.1 S.2.1 S.2.2.1 S.2.2.2)
  | .lor => mcA_n (n == 1) (mcA_ll2 (fun x y => x ||| y) S.1 S.2.1 S.2.2.1 S.2.2.2)
  | .lshl => mcA_n (n == 1) (mcA_li2 (fun x y => x <<< (y.toInt64 &&& 63)) S.1 S.2.1 S.2.2.1 S.2.2.2)
  | .lshr => mcA_n (n == 1) (mcA_li2 (fun x y => x >>> (y.toInt64 &&& 63)) S.1 S.2.1 S.2.2.1 S.2.2.2)
  | .lcmp => mcA_n (n == 1) (mcA_cmp S.1 S.2.1 S.2.2.1 S.2.2.2)
  | .ineg => mcA_n (n == 1) (mcA_i1 (fun x => .int (-x)) mcA_top S.1 S.2.1 S.2.2.1 S.2.2.2)
  | .i2l => mcA_n (n == 1) (mcA_i1 (fun x => .long x.toInt64) (.inr none) S.1 S.2.1 S.2.2.1 S.2.2.2)
  | .i2b => mcA_n (n == 1) (mcA_i1 (fun x => .int x.toInt8.toInt32) mcA_top S.1 S.2.1 S.2.2.1 S.2.2.2)
  | .l2i => mcA_n (n == 1) (mcA_l1 (fun x => .int x.toInt32) mcA_top S.1 S.2.1 S.2.2.1 S.2.2.2)
  | .if_icmp cd off => mcA_n (n == 3) (mcA_ic2 cd S.1 off S.2.1 S.2.2.1 S.2.2.2)
  | .ifCond cd off => mcA_n (n == 3) (mcA_ic1 cd S.1 off S.2.1 S.2.2.1 S.2.2.2)
  | .ifnull off => mcA_n (n == 3) (mcA_icn true S.1 off S.2.1 S.2.2.1 S.2.2.2)
  | .ifnonnull off => mcA_n (n == 3) (mcA_icn false S.1 off S.2.1 S.2.2.1 S.2.2.2)
  | .goto off => mcA_n (n == 3) (mcA_jp S.1 off S.2.1 S.2.2.1 S.2.2.2)
  | .dup => mcA_n (n == 1) (mcA_dup S.1 S.2.1 S.2.2.1 S.2.2.2)
  | .pop => mcA_n (n == 1) (mcA_pop S.1 S.2.1 S.2.2.1 S.2.2.2)
  | .dup2 => mcA_n (n == 1) (mcA_dup2 S.1 S.2.1 S.2.2.1 S.2.2.2)
  | .pop2 => mcA_n (n == 1) (mcA_pop2 S.1 S.2.1 S.2.2.1 S.2.2.2)
  | .getfield i => mcA_n (n == 3) (mcA_getf kA own i S.1 S.2.1 S.2.2.1 S.2.2.2)
  | .putfield i => mcA_n (n == 3) (mcA_putf own ini i S.1 S.2.1 S.2.2.1 S.2.2.2)
  | .iaload => mcA_n (n == 1) (mcA_ald kA (fun t => t == 0) S.1 S.2.1 S.2.2.1 S.2.2.2)
  | .laload => mcA_n (n == 1) (mcA_ald kA (fun t => t == 1) S.1 S.2.1 S.2.2.1 S.2.2.2)
  | .baload => mcA_n (n == 1) (mcA_ald kA (fun t => t == 2 || t == 3) S.1 S.2.1 S.2.2.1 S.2.2.2)
  | .aaload => mcA_n (n == 1) (mcA_ald kA (fun t => decide (4 ≤ t)) S.1 S.2.1 S.2.2.1 S.2.2.2)
  | .iastore => mcA_n (n == 1) (mcA_ast (fun t => t == 0) mcA_isI (fun _ v => v) (fun v => v) S.1 S.2.1 S.2.2.1 S.2.2.2)
  | .lastore => mcA_n (n == 1) (mcA_ast (fun t => t == 1) mcA_isL (fun _ v => v) (fun v => v) S.1 S.2.1 S.2.2.1 S.2.2.2)
  | .bastore => mcA_n (n == 1) (mcA_ast (fun t => t == 2) mcA_isI (fun t v => narrow (mc_ty t) v) (fun _ => mcA_top) S.1 S.2.1 S.2.2.1 S.2.2.2)
  | .aastore => mcA_n (n == 1) (mcA_aast S.1 S.2.1 S.2.2.1 S.2.2.2)
  | .anewarray i => mcA_n (n == 3) (mcA_anew own i S.1 S.2.1 S.2.2.1 S.2.2.2)
  | .multianewarray i 2 => mcA_n (n == 4) (mcA_mna own i S.1 S.2.1 S.2.2.1 S.2.2.2)
  | .arraylength => mcA_n (n == 1) (mcA_len kA S.1 S.2.1 S.2.2.1 S.2.2.2)
  | .newarray a => mcA_n (n == 2) (mcA_newa a S.1 S.2.1 S.2.2.1 S.2.2.2)
  | .new i => mcA_n (n == 3) (mcA_new own i S.1 S.2.1 S.2.2.1 S.2.2.2)
  | .getstatic i => mcA_n (n == 3) (mcA_gs own i S.1 S.2.1 S.2.2.1 S.2.2.2)
  | .ldc i => mcA_n (n == 2) (mcA_ldc own i 2 S.1 S.2.1 S.2.2.1 S.2.2.2)
  | .ldc2_w i => mcA_n (n == 3) (mcA_ldc2 own i S.1 S.2.1 S.2.2.1 S.2.2.2)
  | .tableswitch d lo hi offs => mcA_tsw d lo hi offs S.1 S.2.1 S.2.2.1 S.2.2.2
  | .invokevirtual i => mcA_n (n == 3) (mcA_cal call own 1 i S.1 S.2.1 S.2.2.1 S.2.2.2)
  | .invokestatic i => mcA_n (n == 3) (match mcA_own own i with
    | true => mcA_cal call own 0 i S.1 S.2.1 S.2.2.1 S.2.2.2
    | false => mcA_math own i S.1 S.2.1 S.2.2.1 S.2.2.2)
  | .invokespecial i => mcA_n (n == 3) (match mcA_own own i with
    | true => mcA_cal call own 2 i S.1 S.2.1 S.2.2.1 S.2.2.2
    | false => mcA_obj own i S.1 S.2.1 S.2.2.1 S.2.2.2)
  | .ireturn => mcA_n (n == 1) (mcA_ret ret S.2.2.1 S.2.2.2)
  | .lreturn => mcA_n (n == 1) (mcA_retL ret S.2.2.1 S.2.2.2)
  | .areturn => mcA_n (n == 1) (mcA_retA ret S.2.2.1 S.2.2.2)
  | .return_ => mcA_n (n == 1) (mcA_retV ret S.2.2.1 S.2.2.2)
  | _ => none
theorem mcA_or {a b : mc_O} {r : mcA_S ⊕ mcA_R} (h : ∃ r', a = some r' ∧ mcA_gX r r') : ∃ r', mc_or a b = some r' ∧ mcA_gX r r' := by
  obtain ⟨r', h1, h2⟩ := h
  exact ⟨r', by rw [h1]; rfl, h2⟩
theorem mcA_or2 {a b : mc_O} {r : mcA_S ⊕ mcA_R} (ha : a = none) (h : ∃ r', b = some r' ∧ mcA_gX r r') : ∃ r', mc_or a b = some r' ∧ mcA_gX r r' := by
  obtain ⟨r', h1, h2⟩ := h
  exact ⟨r', by rw [ha, h1]; rfl, h2⟩
theorem mcA_nocal {call : Nat → List Value → mc_M → Option mc_R} {own sort idx pc : Nat} {L : List (Nat × Value)} {st : List Value} {M : mc_M} (h : mcA_own own idx = false) : mc_cal call own sort idx pc L st M = none := by
  unfold mcA_own at h
  unfold mc_cal
  cases hf : mc_find (mc_ml.getD own []) idx with
  | none => rfl
  | some e => rw [hf] at h; cases h
set_option maxHeartbeats 4000000 in
theorem mcA_step_ok {kt : Nat → Option mc_E} {kA : Nat → Option mcA_E} (hk : ∀ (a : Nat) (eA : mcA_E), kA a = some eA → ∃ e, kt a = some e ∧ mcA_gE eA e) {callA : Nat → List mc_V → mcA_M → Option mcA_R} {call : Nat → List Value → mc_M → Option mc_R} (IH : ∀ (k : Nat) (vs : List mc_V) (xs : List Value) (MA : mcA_M) (M : mc_M) (w : mcA_R), mcA_R2 mc_g vs xs → mcA_R2 mcA_gE MA M → callA k vs MA = some w → ∃ w', call k xs M = some w' ∧ mcA_gR w w') {own nL : Nat} {ini : Bool} {ret : Option FieldType} {x : Instr} {n : Nat} {SA : mcA_S} {S : mc_S} (hS : mcA_gS SA S) {r : mcA_S ⊕ mcA_R} (h : mcA_step kA callA own nL ini ret x n SA = some r) : ∃ r', mc_step kt call own nL ini ret x n S = some r' ∧ mcA_gX r r' := by
  obtain ⟨pc0, LA, sA, MA⟩ := SA
  obtain ⟨pc, L, st, M⟩ := S
  obtain ⟨hpc, hL, hs, hM⟩ := hS
  dsimp only at hpc hL hs hM
  subst hpc
  cases x with
  | iconst i =>
    have h7 : mcA_n (n == 1) (mcA_go (pc0 + 1) LA (.inl (.int (Int32.ofInt i)) :: sA) MA) = some r := h
    obtain ⟨hn, h8⟩ := mcA_n_t h7
    show ∃ r', mc_n (n == 1) (mc_go (pc0 + 1) L (.int (Int32.ofInt i) :: st) M) = some r' ∧ mcA_gX r r'
    rw [mc_n_i hn]
    exact mcA_go_k hL (by exact ⟨rfl, hs⟩) hM h8
  | bipush i =>
    have h7 : mcA_n (n == 2) (mcA_go (pc0 + 2) LA (.inl (.int (Int8.ofInt i).toInt32) :: sA) MA) = some r := h
    obtain ⟨hn, h8⟩ := mcA_n_t h7
    show ∃ r', mc_n (n == 2) (mc_go (pc0 + 2) L (.int (Int8.ofInt i).toInt32 :: st) M) = some r' ∧ mcA_gX r r'
    rw [mc_n_i hn]
    exact mcA_go_k hL (by exact ⟨rfl, hs⟩) hM h8
  | sipush i =>
    have h7 : mcA_n (n == 3) (mcA_go (pc0 + 3) LA (.inl (.int (Int16.ofInt i).toInt32) :: sA) MA) = some r := h
    obtain ⟨hn, h8⟩ := mcA_n_t h7
    show ∃ r', mc_n (n == 3) (mc_go (pc0 + 3) L (.int (Int16.ofInt i).toInt32 :: st) M) = some r' ∧ mcA_gX r r'
    rw [mc_n_i hn]
    exact mcA_go_k hL (by exact ⟨rfl, hs⟩) hM h8
  | lconst i =>
    have h7 : mcA_n (n == 1) (mcA_go (pc0 + 1) LA (.inl (.long (Int64.ofNat (i : Nat))) :: sA) MA) = some r := h
    obtain ⟨hn, h8⟩ := mcA_n_t h7
    show ∃ r', mc_n (n == 1) (mc_go (pc0 + 1) L (.long (Int64.ofNat (i : Nat)) :: st) M) = some r' ∧ mcA_gX r r'
    rw [mc_n_i hn]
    exact mcA_go_k hL (by exact ⟨rfl, hs⟩) hM h8
  | aconst_null  =>
    have h7 : mcA_n (n == 1) (mcA_go (pc0 + 1) LA (.inl (.null) :: sA) MA) = some r := h
    obtain ⟨hn, h8⟩ := mcA_n_t h7
    show ∃ r', mc_n (n == 1) (mc_go (pc0 + 1) L (.null :: st) M) = some r' ∧ mcA_gX r r'
    rw [mc_n_i hn]
    exact mcA_go_k hL (by exact ⟨rfl, hs⟩) hM h8
  | iload_n i =>
    have h7 : mcA_n (n == 1) (mcA_ld mcA_isI (i : Nat) 1 pc0 LA sA MA) = some r := h
    obtain ⟨hn, h8⟩ := mcA_n_t h7
    show ∃ r', mc_n (n == 1) (mc_ld mc_isI (i : Nat) 1 pc0 L st M) = some r' ∧ mcA_gX r r'
    rw [mc_n_i hn]
    exact mcA_k_ld (fun v x => mcA_isI_ok) hL hs hM h8
  | iload i =>
    have h7 : mcA_n (n == 2) (mcA_ld mcA_isI i 2 pc0 LA sA MA) = some r := h
    obtain ⟨hn, h8⟩ := mcA_n_t h7
    show ∃ r', mc_n (n == 2) (mc_ld mc_isI i 2 pc0 L st M) = some r' ∧ mcA_gX r r'
    rw [mc_n_i hn]
    exact mcA_k_ld (fun v x => mcA_isI_ok) hL hs hM h8
  | lload_n i =>
    have h7 : mcA_n (n == 1) (mcA_ld mcA_isL (i : Nat) 1 pc0 LA sA MA) = some r := h
    obtain ⟨hn, h8⟩ := mcA_n_t h7
    show ∃ r', mc_n (n == 1) (mc_ld mc_isL (i : Nat) 1 pc0 L st M) = some r' ∧ mcA_gX r r'
    rw [mc_n_i hn]
    exact mcA_k_ld (fun v x => mcA_isL_ok) hL hs hM h8
  | lload i =>
    have h7 : mcA_n (n == 2) (mcA_ld mcA_isL i 2 pc0 LA sA MA) = some r := h
    obtain ⟨hn, h8⟩ := mcA_n_t h7
    show ∃ r', mc_n (n == 2) (mc_ld mc_isL i 2 pc0 L st M) = some r' ∧ mcA_gX r r'
    rw [mc_n_i hn]
    exact mcA_k_ld (fun v x => mcA_isL_ok) hL hs hM h8
  | aload_n i =>
    have h7 : mcA_n (n == 1) (mcA_ld mcA_isA (i : Nat) 1 pc0 LA sA MA) = some r := h
    obtain ⟨hn, h8⟩ := mcA_n_t h7
    show ∃ r', mc_n (n == 1) (mc_ld mc_isA (i : Nat) 1 pc0 L st M) = some r' ∧ mcA_gX r r'
    rw [mc_n_i hn]
    exact mcA_k_ld (fun v x => mcA_isA_ok) hL hs hM h8
  | aload i =>
    have h7 : mcA_n (n == 2) (mcA_ld mcA_isA i 2 pc0 LA sA MA) = some r := h
    obtain ⟨hn, h8⟩ := mcA_n_t h7
    show ∃ r', mc_n (n == 2) (mc_ld mc_isA i 2 pc0 L st M) = some r' ∧ mcA_gX r r'
    rw [mc_n_i hn]
    exact mcA_k_ld (fun v x => mcA_isA_ok) hL hs hM h8
  | istore_n i =>
    have h7 : mcA_n (n == 1) (mcA_sv mcA_isI nL (i : Nat) 1 pc0 LA sA MA) = some r := h
    obtain ⟨hn, h8⟩ := mcA_n_t h7
    show ∃ r', mc_n (n == 1) (mc_sv mc_isI nL (i : Nat) 1 pc0 L st M) = some r' ∧ mcA_gX r r'
    rw [mc_n_i hn]
    exact mcA_k_sv (fun v x => mcA_isI_ok) hL hs hM h8
  | istore i =>
    have h7 : mcA_n (n == 2) (mcA_sv mcA_isI nL i 2 pc0 LA sA MA) = some r := h
    obtain ⟨hn, h8⟩ := mcA_n_t h7
    show ∃ r', mc_n (n == 2) (mc_sv mc_isI nL i 2 pc0 L st M) = some r' ∧ mcA_gX r r'
    rw [mc_n_i hn]
    exact mcA_k_sv (fun v x => mcA_isI_ok) hL hs hM h8
  | astore_n i =>
    have h7 : mcA_n (n == 1) (mcA_sv mcA_isA nL (i : Nat) 1 pc0 LA sA MA) = some r := h
    obtain ⟨hn, h8⟩ := mcA_n_t h7
    show ∃ r', mc_n (n == 1) (mc_sv mc_isA nL (i : Nat) 1 pc0 L st M) = some r' ∧ mcA_gX r r'
    rw [mc_n_i hn]
    exact mcA_k_sv (fun v x => mcA_isA_ok) hL hs hM h8
  | astore i =>
    have h7 : mcA_n (n == 2) (mcA_sv mcA_isA nL i 2 pc0 LA sA MA) = some r := h
    obtain ⟨hn, h8⟩ := mcA_n_t h7
    show ∃ r', mc_n (n == 2) (mc_sv mc_isA nL i 2 pc0 L st M) = some r' ∧ mcA_gX r r'
    rw [mc_n_i hn]
    exact mcA_k_sv (fun v x => mcA_isA_ok) hL hs hM h8
  | lstore_n i =>
    have h7 : mcA_n (n == 1) (mcA_svL nL (i : Nat) 1 pc0 LA sA MA) = some r := h
    obtain ⟨hn, h8⟩ := mcA_n_t h7
    show ∃ r', mc_n (n == 1) (mc_svL nL (i : Nat) 1 pc0 L st M) = some r' ∧ mcA_gX r r'
    rw [mc_n_i hn]
    exact mcA_k_svL hL hs hM h8
  | lstore i =>
    have h7 : mcA_n (n == 2) (mcA_svL nL i 2 pc0 LA sA MA) = some r := h
    obtain ⟨hn, h8⟩ := mcA_n_t h7
    show ∃ r', mc_n (n == 2) (mc_svL nL i 2 pc0 L st M) = some r' ∧ mcA_gX r r'
    rw [mc_n_i hn]
    exact mcA_k_svL hL hs hM h8
  | iinc i k =>
    have h7 : mcA_n (n == 3) (mcA_inc nL i k pc0 LA sA MA) = some r := h
    obtain ⟨hn, h8⟩ := mcA_n_t h7
    show ∃ r', mc_n (n == 3) (mc_inc nL i k pc0 L st M) = some r' ∧ mcA_gX r r'
    rw [mc_n_i hn]
    exact mcA_k_inc hL hs hM h8
  | iadd  =>
    have h7 : mcA_n (n == 1) (mcA_ii2 (fun x y => x + y) pc0 LA sA MA) = some r := h
    obtain ⟨hn, h8⟩ := mcA_n_t h7
    show ∃ r', mc_n (n == 1) (mc_ii2 (fun x y => some (x + y)) pc0 L st M) = some r' ∧ mcA_gX r r'
    rw [mc_n_i hn]
    exact mcA_k_ii2 hL hs hM h8
  | isub  =>
    have h7 : mcA_n (n == 1) (mcA_ii2 (fun x y => x - y) pc0 LA sA MA) = some r := h
    obtain ⟨hn, h8⟩ := mcA_n_t h7
    show ∃ r', mc_n (n == 1) (mc_ii2 (fun x y => some (x - y)) pc0 L st M) = some r' ∧ mcA_gX r r'
    rw [mc_n_i hn]
    exact mcA_k_ii2 hL hs hM h8
  | imul  =>
    have h7 : mcA_n (n == 1) (mcA_ii2 (fun x y => x * y) pc0 LA sA MA) = some r := h
    obtain ⟨hn, h8⟩ := mcA_n_t h7
    show ∃ r', mc_n (n == 1) (mc_ii2 (fun x y => some (x * y)) pc0 L st M) = some r' ∧ mcA_gX r r'
    rw [mc_n_i hn]
    exact mcA_k_ii2 hL hs hM h8
  | iand  =>
    have h7 : mcA_n (n == 1) (mcA_ii2 (fun x y => x &&& y) pc0 LA sA MA) = some r := h
    obtain ⟨hn, h8⟩ := mcA_n_t h7
    show ∃ r', mc_n (n == 1) (mc_ii2 (fun x y => some (x &&& y)) pc0 L st M) = some r' ∧ mcA_gX r r'
    rw [mc_n_i hn]
    exact mcA_k_ii2 hL hs hM h8
  | ior  =>
    have h7 : mcA_n (n == 1) (mcA_ii2 (fun x y => x ||| y) pc0 LA sA MA) = some r := h
    obtain ⟨hn, h8⟩ := mcA_n_t h7
    show ∃ r', mc_n (n == 1) (mc_ii2 (fun x y => some (x ||| y)) pc0 L st M) = some r' ∧ mcA_gX r r'
    rw [mc_n_i hn]
    exact mcA_k_ii2 hL hs hM h8
  | ixor  =>
    have h7 : mcA_n (n == 1) (mcA_ii2 (fun x y => x ^^^ y) pc0 LA sA MA) = some r := h
    obtain ⟨hn, h8⟩ := mcA_n_t h7
    show ∃ r', mc_n (n == 1) (mc_ii2 (fun x y => some (x ^^^ y)) pc0 L st M) = some r' ∧ mcA_gX r r'
    rw [mc_n_i hn]
    exact mcA_k_ii2 hL hs hM h8
  | ishl  =>
    have h7 : mcA_n (n == 1) (mcA_ii2 (fun x y => x <<< (y &&& 31)) pc0 LA sA MA) = some r := h
    obtain ⟨hn, h8⟩ := mcA_n_t h7
    show ∃ r', mc_n (n == 1) (mc_ii2 (fun x y => some (x <<< (y &&& 31))) pc0 L st M) = some r' ∧ mcA_gX r r'
    rw [mc_n_i hn]
    exact mcA_k_ii2 hL hs hM h8
  | ishr  =>
    have h7 : mcA_n (n == 1) (mcA_ii2 (fun x y => x >>> (y &&& 31)) pc0 LA sA MA) = some r := h
    obtain ⟨hn, h8⟩ := mcA_n_t h7
    show ∃ r', mc_n (n == 1) (mc_ii2 (fun x y => some (x >>> (y &&& 31))) pc0 L st M) = some r' ∧ mcA_gX r r'
    rw [mc_n_i hn]
    exact mcA_k_ii2 hL hs hM h8
  | idiv  =>
    have h7 : mcA_n (n == 1) (mcA_ie2 (fun x y => if y = 0 then none else some (x / y)) pc0 LA sA MA) = some r := h
    obtain ⟨hn, h8⟩ := mcA_n_t h7
    show ∃ r', mc_n (n == 1) (mc_ii2 (fun x y => if y = 0 then none else some (x / y)) pc0 L st M) = some r' ∧ mcA_gX r r'
    rw [mc_n_i hn]
    exact mcA_k_ie2 hL hs hM h8
  | irem  =>
    have h7 : mcA_n (n == 1) (mcA_ie2 (fun x y => if y = 0 then none else some (x - x / y * y)) pc0 LA sA MA) = some r := h
    obtain ⟨hn, h8⟩ := mcA_n_t h7
    show ∃ r', mc_n (n == 1) (mc_ii2 (fun x y => if y = 0 then none else some (x - x / y * y)) pc0 L st M) = some r' ∧ mcA_gX r r'
    rw [mc_n_i hn]
    exact mcA_k_ie2 hL hs hM h8
  | ladd  =>
    have h7 : mcA_n (n == 1) (mcA_ll2 (fun x y => x + y) pc0 LA sA MA) = some r := h
    obtain ⟨hn, h8⟩ := mcA_n_t h7
    show ∃ r', mc_n (n == 1) (mc_ll2 (fun x y => some (x + y)) pc0 L st M) = some r' ∧ mcA_gX r r'
    rw [mc_n_i hn]
    exact mcA_k_ll2 hL hs hM h8
  | lsub  =>
    have h7 : mcA_n (n == 1) (mcA_ll2 (fun x y => x - y) pc0 LA sA MA) = some r := h
    obtain ⟨hn, h8⟩ := mcA_n_t h7
    show ∃ r', mc_n (n == 1) (mc_ll2 (fun x y => some (x - y)) pc0 L st M) = some r' ∧ mcA_gX r r'
    rw [mc_n_i hn]
    exact mcA_k_ll2 hL hs hM h8
  | lmul  =>
    have h7 : mcA_n (n == 1) (mcA_ll2 (fun x y => x * y) pc0 LA sA MA) = some r := h
    obtain ⟨hn, h8⟩ := mcA_n_t h7
    show ∃ r', mc_n (n == 1) (mc_ll2 (fun x y => some (x * y)) pc0 L st M) = some r' ∧ mcA_gX r r'
    rw [mc_n_i hn]
    exact mcA_k_ll2 hL hs hM h8
  | land  =>
    have h7 : mcA_n (n == 1) (mcA_ll2 (fun x y => x &&& y) pc0 LA sA MA) = some r := h
    obtain ⟨hn, h8⟩ := mcA_n_t h7
    show ∃ r', mc_n (n == 1) (mc_ll2 (fun x y => some (x &&& y)) pc0 L st M) = some r' ∧ mcA_gX r r'
    rw [mc_n_i hn]
    exact mcA_k_ll2 hL hs hM h8
  | lor  =>
    have h7 : mcA_n (n == 1) (mcA_ll2 (fun x y => x ||| y) pc0 LA sA MA) = some r := h
    obtain ⟨hn, h8⟩ := mcA_n_t h7
    show ∃ r', mc_n (n == 1) (mc_ll2 (fun x y => some (x ||| y)) pc0 L st M) = some r' ∧ mcA_gX r r'
    rw [mc_n_i hn]
    exact mcA_k_ll2 hL hs hM h8
  | lshl  =>
    have h7 : mcA_n (n == 1) (mcA_li2 (fun x y => x <<< (y.toInt64 &&& 63)) pc0 LA sA MA) = some r := h
    obtain ⟨hn, h8⟩ := mcA_n_t h7
    show ∃ r', mc_n (n == 1) (mc_li2 (fun x y => x <<< (y.toInt64 &&& 63)) pc0 L st M) = some r' ∧ mcA_gX r r'
    rw [mc_n_i hn]
    exact mcA_k_li2 hL hs hM h8
  | lshr  =>
    have h7 : mcA_n (n == 1) (mcA_li2 (fun x y => x >>> (y.toInt64 &&& 63)) pc0 LA sA MA) = some r := h
    obtain ⟨hn, h8⟩ := mcA_n_t h7
    show ∃ r', mc_n (n == 1) (mc_li2 (fun x y => x >>> (y.toInt64 &&& 63)) pc0 L st M) = some r' ∧ mcA_gX r r'
    rw [mc_n_i hn]
    exact mcA_k_li2 hL hs hM h8
  | lcmp  =>
    have h7 : mcA_n (n == 1) (mcA_cmp pc0 LA sA MA) = some r := h
    obtain ⟨hn, h8⟩ := mcA_n_t h7
    show ∃ r', mc_n (n == 1) (mc_cmp pc0 L st M) = some r' ∧ mcA_gX r r'
    rw [mc_n_i hn]
    exact mcA_k_cmp hL hs hM h8
  | ineg  =>
    have h7 : mcA_n (n == 1) (mcA_i1 (fun x => .int (-x)) mcA_top pc0 LA sA MA) = some r := h
    obtain ⟨hn, h8⟩ := mcA_n_t h7
    show ∃ r', mc_n (n == 1) (mc_i1 (fun x => .int (-x)) pc0 L st M) = some r' ∧ mcA_gX r r'
    rw [mc_n_i hn]
    exact mcA_k_i1 (fun x => mcA_top_ok _) hL hs hM h8
  | i2l  =>
    have h7 : mcA_n (n == 1) (mcA_i1 (fun x => .long x.toInt64) (.inr none) pc0 LA sA MA) = some r := h
    obtain ⟨hn, h8⟩ := mcA_n_t h7
    show ∃ r', mc_n (n == 1) (mc_i1 (fun x => .long x.toInt64) pc0 L st M) = some r' ∧ mcA_gX r r'
    rw [mc_n_i hn]
    exact mcA_k_i1 (t := .inr none) (fun x => ⟨x.toInt64, rfl⟩) hL hs hM h8
  | i2b  =>
    have h7 : mcA_n (n == 1) (mcA_i1 (fun x => .int x.toInt8.toInt32) mcA_top pc0 LA sA MA) = some r := h
    obtain ⟨hn, h8⟩ := mcA_n_t h7
    show ∃ r', mc_n (n == 1) (mc_i1 (fun x => .int x.toInt8.toInt32) pc0 L st M) = some r' ∧ mcA_gX r r'
    rw [mc_n_i hn]
    exact mcA_k_i1 (fun x => mcA_top_ok _) hL hs hM h8
  | l2i  =>
    have h7 : mcA_n (n == 1) (mcA_l1 (fun x => .int x.toInt32) mcA_top pc0 LA sA MA) = some r := h
    obtain ⟨hn, h8⟩ := mcA_n_t h7
    show ∃ r', mc_n (n == 1) (mc_l1 (fun x => .int x.toInt32) pc0 L st M) = some r' ∧ mcA_gX r r'
    rw [mc_n_i hn]
    exact mcA_k_l1 (fun x => mcA_top_ok _) hL hs hM h8
  | if_icmp cd off =>
    have h7 : mcA_n (n == 3) (mcA_ic2 cd pc0 off LA sA MA) = some r := h
    obtain ⟨hn, h8⟩ := mcA_n_t h7
    cases cd with
    | eq =>
      show ∃ r', mc_n (n == 3) (mc_ic2 (fun x y => decide (x = y)) pc0 off L st M) = some r' ∧ mcA_gX r r'
      rw [mc_n_i hn]
      exact mcA_k_ic2 (fun x y => rfl) hL hs hM h8
    | ne =>
      show ∃ r', mc_n (n == 3) (mc_ic2 (fun x y => decide (¬ x = y)) pc0 off L st M) = some r' ∧ mcA_gX r r'
      rw [mc_n_i hn]
      exact mcA_k_ic2 (fun x y => rfl) hL hs hM h8
    | lt =>
      show ∃ r', mc_n (n == 3) (mc_ic2 (fun x y => decide (x < y)) pc0 off L st M) = some r' ∧ mcA_gX r r'
      rw [mc_n_i hn]
      exact mcA_k_ic2 (fun x y => rfl) hL hs hM h8
    | ge =>
      show ∃ r', mc_n (n == 3) (mc_ic2 (fun x y => decide (y ≤ x)) pc0 off L st M) = some r' ∧ mcA_gX r r'
      rw [mc_n_i hn]
      exact mcA_k_ic2 (fun x y => rfl) hL hs hM h8
    | gt =>
      show ∃ r', mc_n (n == 3) (mc_ic2 (fun x y => decide (y < x)) pc0 off L st M) = some r' ∧ mcA_gX r r'
      rw [mc_n_i hn]
      exact mcA_k_ic2 (fun x y => rfl) hL hs hM h8
    | le =>
      show ∃ r', mc_n (n == 3) (mc_ic2 (fun x y => decide (x ≤ y)) pc0 off L st M) = some r' ∧ mcA_gX r r'
      rw [mc_n_i hn]
      exact mcA_k_ic2 (fun x y => rfl) hL hs hM h8
  | ifCond cd off =>
    have h7 : mcA_n (n == 3) (mcA_ic1 cd pc0 off LA sA MA) = some r := h
    obtain ⟨hn, h8⟩ := mcA_n_t h7
    cases cd with
    | eq =>
      show ∃ r', mc_n (n == 3) (mc_ic1 (fun x => decide (x = 0)) pc0 off L st M) = some r' ∧ mcA_gX r r'
      rw [mc_n_i hn]
      exact mcA_k_ic1 (fun x => rfl) hL hs hM h8
    | ne =>
      show ∃ r', mc_n (n == 3) (mc_ic1 (fun x => decide (¬ x = 0)) pc0 off L st M) = some r' ∧ mcA_gX r r'
      rw [mc_n_i hn]
      exact mcA_k_ic1 (fun x => rfl) hL hs hM h8
    | lt =>
      show ∃ r', mc_n (n == 3) (mc_ic1 (fun x => decide (x < 0)) pc0 off L st M) = some r' ∧ mcA_gX r r'
      rw [mc_n_i hn]
      exact mcA_k_ic1 (fun x => rfl) hL hs hM h8
    | ge =>
      show ∃ r', mc_n (n == 3) (mc_ic1 (fun x => decide (0 ≤ x)) pc0 off L st M) = some r' ∧ mcA_gX r r'
      rw [mc_n_i hn]
      exact mcA_k_ic1 (fun x => rfl) hL hs hM h8
    | gt =>
      show ∃ r', mc_n (n == 3) (mc_ic1 (fun x => decide (0 < x)) pc0 off L st M) = some r' ∧ mcA_gX r r'
      rw [mc_n_i hn]
      exact mcA_k_ic1 (fun x => rfl) hL hs hM h8
    | le =>
      show ∃ r', mc_n (n == 3) (mc_ic1 (fun x => decide (x ≤ 0)) pc0 off L st M) = some r' ∧ mcA_gX r r'
      rw [mc_n_i hn]
      exact mcA_k_ic1 (fun x => rfl) hL hs hM h8
  | ifnull off =>
    have h7 : mcA_n (n == 3) (mcA_icn true pc0 off LA sA MA) = some r := h
    obtain ⟨hn, h8⟩ := mcA_n_t h7
    show ∃ r', mc_n (n == 3) (mc_icn true pc0 off L st M) = some r' ∧ mcA_gX r r'
    rw [mc_n_i hn]
    exact mcA_k_icn hL hs hM h8
  | ifnonnull off =>
    have h7 : mcA_n (n == 3) (mcA_icn false pc0 off LA sA MA) = some r := h
    obtain ⟨hn, h8⟩ := mcA_n_t h7
    show ∃ r', mc_n (n == 3) (mc_icn false pc0 off L st M) = some r' ∧ mcA_gX r r'
    rw [mc_n_i hn]
    exact mcA_k_icn hL hs hM h8
  | goto off =>
    have h7 : mcA_n (n == 3) (mcA_jp pc0 off LA sA MA) = some r := h
    obtain ⟨hn, h8⟩ := mcA_n_t h7
    show ∃ r', mc_n (n == 3) (mc_jp pc0 off L st M) = some r' ∧ mcA_gX r r'
    rw [mc_n_i hn]
    exact mcA_k_jp hL hs hM h8
  | dup  =>
    have h7 : mcA_n (n == 1) (mcA_dup pc0 LA sA MA) = some r := h
    obtain ⟨hn, h8⟩ := mcA_n_t h7
    show ∃ r', mc_n (n == 1) (mc_dup pc0 L st M) = some r' ∧ mcA_gX r r'
    rw [mc_n_i hn]
    exact mcA_k_dup hL hs hM h8
  | pop  =>
    have h7 : mcA_n (n == 1) (mcA_pop pc0 LA sA MA) = some r := h
    obtain ⟨hn, h8⟩ := mcA_n_t h7
    show ∃ r', mc_n (n == 1) (mc_pop pc0 L st M) = some r' ∧ mcA_gX r r'
    rw [mc_n_i hn]
    exact mcA_k_pop hL hs hM h8
  | dup2  =>
    have h7 : mcA_n (n == 1) (mcA_dup2 pc0 LA sA MA) = some r := h
    obtain ⟨hn, h8⟩ := mcA_n_t h7
    show ∃ r', mc_n (n == 1) (mc_dup2 pc0 L st M) = some r' ∧ mcA_gX r r'
    rw [mc_n_i hn]
    exact mcA_k_dup2 hL hs hM h8
  | pop2  =>
    have h7 : mcA_n (n == 1) (mcA_pop2 pc0 LA sA MA) = some r := h
    obtain ⟨hn, h8⟩ := mcA_n_t h7
    show ∃ r', mc_n (n == 1) (mc_pop2 pc0 L st M) = some r' ∧ mcA_gX r r'
    rw [mc_n_i hn]
    exact mcA_k_pop2 hL hs hM h8
  | getfield i =>
    have h7 : mcA_n (n == 3) (mcA_getf kA own i pc0 LA sA MA) = some r := h
    obtain ⟨hn, h8⟩ := mcA_n_t h7
    show ∃ r', mc_n (n == 3) (mc_getf kt own i pc0 L st M) = some r' ∧ mcA_gX r r'
    rw [mc_n_i hn]
    exact mcA_k_getf hk hL hs hM h8
  | putfield i =>
    have h7 : mcA_n (n == 3) (mcA_putf own ini i pc0 LA sA MA) = some r := h
    obtain ⟨hn, h8⟩ := mcA_n_t h7
    show ∃ r', mc_n (n == 3) (mc_putf own ini i pc0 L st M) = some r' ∧ mcA_gX r r'
    rw [mc_n_i hn]
    exact mcA_k_putf hL hs hM h8
  | iaload  =>
    have h7 : mcA_n (n == 1) (mcA_ald kA (fun t => t == 0) pc0 LA sA MA) = some r := h
    obtain ⟨hn, h8⟩ := mcA_n_t h7
    show ∃ r', mc_n (n == 1) (mc_ald kt (fun t => t == 0) pc0 L st M) = some r' ∧ mcA_gX r r'
    rw [mc_n_i hn]
    exact mcA_k_ald hk hL hs hM h8
  | laload  =>
    have h7 : mcA_n (n == 1) (mcA_ald kA (fun t => t == 1) pc0 LA sA MA) = some r := h
    obtain ⟨hn, h8⟩ := mcA_n_t h7
    show ∃ r', mc_n (n == 1) (mc_ald kt (fun t => t == 1) pc0 L st M) = some r' ∧ mcA_gX r r'
    rw [mc_n_i hn]
    exact mcA_k_ald hk hL hs hM h8
  | baload  =>
    have h7 : mcA_n (n == 1) (mcA_ald kA (fun t => t == 2 || t == 3) pc0 LA sA MA) = some r := h
    obtain ⟨hn, h8⟩ := mcA_n_t h7
    show ∃ r', mc_n (n == 1) (mc_ald kt (fun t => t == 2 || t == 3) pc0 L st M) = some r' ∧ mcA_gX r r'
    rw [mc_n_i hn]
    exact mcA_k_ald hk hL hs hM h8
  | aaload  =>
    have h7 : mcA_n (n == 1) (mcA_ald kA (fun t => decide (4 ≤ t)) pc0 LA sA MA) = some r := h
    obtain ⟨hn, h8⟩ := mcA_n_t h7
    show ∃ r', mc_n (n == 1) (mc_ald kt (fun t => decide (4 ≤ t)) pc0 L st M) = some r' ∧ mcA_gX r r'
    rw [mc_n_i hn]
    exact mcA_k_ald hk hL hs hM h8
  | iastore  =>
    have h7 : mcA_n (n == 1) (mcA_ast (fun t => t == 0) mcA_isI (fun _ v => v) (fun v => v) pc0 LA sA MA) = some r := h
    obtain ⟨hn, h8⟩ := mcA_n_t h7
    show ∃ r', mc_n (n == 1) (mc_ast kt (fun t v => t == 0 && mc_isI v) (fun _ v => v) pc0 L st M) = some r' ∧ mcA_gX r r'
    rw [mc_n_i hn]
    exact mcA_k_ast (fun k v x hv h1 h2 => by simp only [Bool.and_eq_true]; exact ⟨h1, mcA_isI_ok hv h2⟩) (fun k v x hv h1 h2 => by
      match v, hv with
      | .inl y, hv => exact hv
      | .inr none, hv => exact hv
      | .inr (some q), hv => exact hv) hL hs hM h8
  | lastore  =>
    have h7 : mcA_n (n == 1) (mcA_ast (fun t => t == 1) mcA_isL (fun _ v => v) (fun v => v) pc0 LA sA MA) = some r := h
    obtain ⟨hn, h8⟩ := mcA_n_t h7
    show ∃ r', mc_n (n == 1) (mc_ast kt (fun t v => t == 1 && mc_isL v) (fun _ v => v) pc0 L st M) = some r' ∧ mcA_gX r r'
    rw [mc_n_i hn]
    exact mcA_k_ast (fun k v x hv h1 h2 => by simp only [Bool.and_eq_true]; exact ⟨h1, mcA_isL_ok hv h2⟩) (fun k v x hv h1 h2 => by
      match v, hv with
      | .inl y, hv => exact hv
      | .inr none, hv => exact hv
      | .inr (some q), hv => exact hv) hL hs hM h8
  | bastore  =>
    have h7 : mcA_n (n == 1) (mcA_ast (fun t => t == 2) mcA_isI (fun t v => narrow (mc_ty t) v) (fun _ => mcA_top) pc0 LA sA MA) = some r := h
    obtain ⟨hn, h8⟩ := mcA_n_t h7
    show ∃ r', mc_n (n == 1) (mc_ast kt (fun t v => (t == 2 || t == 3) && mc_isI v) (fun t v => narrow (mc_ty t) v) pc0 L st M) = some r' ∧ mcA_gX r r'
    rw [mc_n_i hn]
    exact mcA_k_ast (fun k v x hv h1 h2 => by
      have h1 : k = 2 := by simpa using h1
      subst h1
      simp only [Bool.and_eq_true]
      exact ⟨rfl, mcA_isI_ok hv h2⟩) (fun k v x hv h1 h2 => by
      have h1 : k = 2 := by simpa using h1
      subst h1
      obtain ⟨z, rfl⟩ := mcA_isI_val hv h2
      match v, hv with
      | .inl y, hv => cases (show Value.int z = y from hv); exact rfl
      | .inr none, hv => exact mcA_top_ok _
      | .inr (some q), hv => exact mcA_top_ok _) hL hs hM h8
  | aastore  =>
    have h7 : mcA_n (n == 1) (mcA_aast pc0 LA sA MA) = some r := h
    obtain ⟨hn, h8⟩ := mcA_n_t h7
    show ∃ r', mc_n (n == 1) (mc_ast kt (mc_isP M) (fun _ v => v) pc0 L st M) = some r' ∧ mcA_gX r r'
    rw [mc_n_i hn]
    exact mcA_k_aast hL hs hM h8
  | anewarray i =>
    have h7 : mcA_n (n == 3) (mcA_anew own i pc0 LA sA MA) = some r := h
    obtain ⟨hn, h8⟩ := mcA_n_t h7
    show ∃ r', mc_n (n == 3) (mc_anew own i pc0 L st M) = some r' ∧ mcA_gX r r'
    rw [mc_n_i hn]
    exact mcA_k_anew hL hs hM h8
  | multianewarray i j =>
    match j, h with
    | 2, h =>
      have h7 : mcA_n (n == 4) (mcA_mna own i pc0 LA sA MA) = some r := h
      obtain ⟨hn, h8⟩ := mcA_n_t h7
      show ∃ r', mc_n (n == 4) (mc_mna own i pc0 L st M) = some r' ∧ mcA_gX r r'
      rw [mc_n_i hn]
      exact mcA_k_mna hL hs hM h8
    | 0, h => cases h
    | 1, h => cases h
    | j + 3, h => cases h
  | arraylength  =>
    have h7 : mcA_n (n == 1) (mcA_len kA pc0 LA sA MA) = some r := h
    obtain ⟨hn, h8⟩ := mcA_n_t h7
    show ∃ r', mc_n (n == 1) (mc_len kt pc0 L st M) = some r' ∧ mcA_gX r r'
    rw [mc_n_i hn]
    exact mcA_k_len hk hL hs hM h8
  | newarray a =>
    have h7 : mcA_n (n == 2) (mcA_newa a pc0 LA sA MA) = some r := h
    obtain ⟨hn, h8⟩ := mcA_n_t h7
    show ∃ r', mc_n (n == 2) (mc_newa a pc0 L st M) = some r' ∧ mcA_gX r r'
    rw [mc_n_i hn]
    exact mcA_k_newa hL hs hM h8
  | new i =>
    have h7 : mcA_n (n == 3) (mcA_new own i pc0 LA sA MA) = some r := h
    obtain ⟨hn, h8⟩ := mcA_n_t h7
    show ∃ r', mc_n (n == 3) (mc_new own i pc0 L st M) = some r' ∧ mcA_gX r r'
    rw [mc_n_i hn]
    exact mcA_k_new hL hs hM h8
  | getstatic i =>
    have h7 : mcA_n (n == 3) (mcA_gs own i pc0 LA sA MA) = some r := h
    obtain ⟨hn, h8⟩ := mcA_n_t h7
    show ∃ r', mc_n (n == 3) (mc_gs own i pc0 L st M) = some r' ∧ mcA_gX r r'
    rw [mc_n_i hn]
    exact mcA_k_gs hL hs hM h8
  | ldc i =>
    have h7 : mcA_n (n == 2) (mcA_ldc own i 2 pc0 LA sA MA) = some r := h
    obtain ⟨hn, h8⟩ := mcA_n_t h7
    show ∃ r', mc_n (n == 2) (mc_ldc own i 2 pc0 L st M) = some r' ∧ mcA_gX r r'
    rw [mc_n_i hn]
    exact mcA_k_ldc hL hs hM h8
  | ldc2_w i =>
    have h7 : mcA_n (n == 3) (mcA_ldc2 own i pc0 LA sA MA) = some r := h
    obtain ⟨hn, h8⟩ := mcA_n_t h7
    show ∃ r', mc_n (n == 3) (mc_ldc2 own i pc0 L st M) = some r' ∧ mcA_gX r r'
    rw [mc_n_i hn]
    exact mcA_k_ldc2 hL hs hM h8
  | tableswitch d lo hi offs =>
    exact mcA_k_tsw hL hs hM h
  | invokevirtual i =>
    have h7 : mcA_n (n == 3) (mcA_cal callA own 1 i pc0 LA sA MA) = some r := h
    obtain ⟨hn, h8⟩ := mcA_n_t h7
    show ∃ r', mc_n (n == 3) (mc_cal call own 1 i pc0 L st M) = some r' ∧ mcA_gX r r'
    rw [mc_n_i hn]
    exact mcA_k_cal IH hL hs hM h8
  | invokestatic i =>
    have h7 : mcA_n (n == 3) (match mcA_own own i with
      | true => mcA_cal callA own 0 i pc0 LA sA MA
      | false => mcA_math own i pc0 LA sA MA) = some r := h
    obtain ⟨hn, h8⟩ := mcA_n_t h7
    show ∃ r', mc_n (n == 3) (mc_or (mc_cal call own 0 i pc0 L st M) (mc_math own i pc0 L st M)) = some r' ∧ mcA_gX r r'
    rw [mc_n_i hn]
    split at h8
    · exact mcA_or (mcA_k_cal IH hL hs hM h8)
    · next ho => exact mcA_or2 (mcA_nocal ho) (mcA_k_math hL hs hM h8)
  | invokespecial i =>
    have h7 : mcA_n (n == 3) (match mcA_own own i with
      | true => mcA_cal callA own 2 i pc0 LA sA MA
      | false => mcA_obj own i pc0 LA sA MA) = some r := h
    obtain ⟨hn, h8⟩ := mcA_n_t h7
    show ∃ r', mc_n (n == 3) (mc_or (mc_cal call own 2 i pc0 L st M) (mc_obj own i pc0 L st M)) = some r' ∧ mcA_gX r r'
    rw [mc_n_i hn]
    split at h8
    · exact mcA_or (mcA_k_cal IH hL hs hM h8)
    · next ho => exact mcA_or2 (mcA_nocal ho) (mcA_k_obj hL hs hM h8)
  | ireturn  =>
    have h7 : mcA_n (n == 1) (mcA_ret ret sA MA) = some r := h
    obtain ⟨hn, h8⟩ := mcA_n_t h7
    show ∃ r', mc_n (n == 1) (mc_ret ret st M) = some r' ∧ mcA_gX r r'
    rw [mc_n_i hn]
    exact (mcA_k_ret hs hM).1 h8
  | lreturn  =>
    have h7 : mcA_n (n == 1) (mcA_retL ret sA MA) = some r := h
    obtain ⟨hn, h8⟩ := mcA_n_t h7
    show ∃ r', mc_n (n == 1) (mc_retL ret st M) = some r' ∧ mcA_gX r r'
    rw [mc_n_i hn]
    exact (mcA_k_ret hs hM).2.1 h8
  | areturn  =>
    have h7 : mcA_n (n == 1) (mcA_retA ret sA MA) = some r := h
    obtain ⟨hn, h8⟩ := mcA_n_t h7
    show ∃ r', mc_n (n == 1) (mc_retA ret st M) = some r' ∧ mcA_gX r r'
    rw [mc_n_i hn]
    exact (mcA_k_ret hs hM).2.2.1 h8
  | return_  =>
    have h7 : mcA_n (n == 1) (mcA_retV ret sA MA) = some r := h
    obtain ⟨hn, h8⟩ := mcA_n_t h7
    show ∃ r', mc_n (n == 1) (mc_retV ret st M) = some r' ∧ mcA_gX r r'
    rw [mc_n_i hn]
    exact (mcA_k_ret hs hM).2.2.2 h8
  | _ => cases h
def mcA_loop (kA : Nat → Option mcA_E) (call : Nat → List mc_V → mcA_M → Option mcA_R) (own nL : Nat) (ini : Bool) (ret : Option FieldType) (cd : Nat → Option (Instr × Nat)) : Nat → mcA_S → Option mcA_R
  | 0, _ => none
  | n + 1, S => match cd S.1 with
    | some (x, k) => match mcA_step kA call own nL ini ret x k S with
      | some (.inl S1) => mcA_loop kA call own nL ini ret cd n S1
      | some (.inr w) => some w
      | none => none
    | none => none
def mcA_call (kA : Nat → Option mcA_E) (F : Nat) : Nat → Nat → List mc_V → mcA_M → Option mcA_R
  | 0, _, _, _ => none
  | d + 1, k, as, M => match mc_mt k with
    | some q => match decide ((as.map mcA_cat).sum ≤ q.2.2.2.1) with
      | true => mcA_loop kA (mcA_call kA F d) q.1 q.2.2.2.1 (q.2.2.2.2.2.2 == 2) q.2.2.2.2.1 (mc_cd k) F (0, mcA_args 0 as, [], M)
      | false => none
    | none => none
theorem mcA_loop_ok {kt : Nat → Option mc_E} {kA : Nat → Option mcA_E} (hk : ∀ (a : Nat) (eA : mcA_E), kA a = some eA → ∃ e, kt a = some e ∧ mcA_gE eA e) {callA : Nat → List mc_V → mcA_M → Option mcA_R} {call : Nat → List Value → mc_M → Option mc_R} (IH : ∀ (k : Nat) (vs : List mc_V) (xs : List Value) (MA : mcA_M) (M : mc_M) (w : mcA_R), mcA_R2 mc_g vs xs → mcA_R2 mcA_gE MA M → callA k vs MA = some w → ∃ w', call k xs M = some w' ∧ mcA_gR w w') {own nL : Nat} {ini : Bool} {ret : Option FieldType} {cc : ByteArray} {cd : Nat → Option (Instr × Nat)} (hcd : ∀ (pc : Nat) (x : Instr × Nat), cd pc = some x → decode cc pc = .ok x) : ∀ (n : Nat) (SA : mcA_S) (S : mc_S) (w : mcA_R), mcA_gS SA S → mcA_loop kA callA own nL ini ret cd n SA = some w → ∃ w', mc_loop kt call own nL ini ret cc n S = some w' ∧ mcA_gR w w'
  | 0, _, _, _, _, h => by cases h
  | n + 1, SA, S, w, hS, h => by
    unfold mcA_loop at h
    unfold mc_loop
    rw [← hS.1]
    split at h
    · next x k hd =>
      rw [hcd _ _ hd]
      dsimp only
      split at h
      · next S1 hs =>
        obtain ⟨r', h1, h2⟩ := mcA_step_ok hk IH hS hs
        match r', h1, h2 with
        | .inl S2, h1, h2 =>
          rw [h1]
          exact mcA_loop_ok hk IH hcd n S1 S2 w h2 h
        | .inr w2, h1, h2 => exact h2.elim
      · next w1 hs =>
        cases h
        obtain ⟨r', h1, h2⟩ := mcA_step_ok hk IH hS hs
        match r', h1, h2 with
        | .inl S2, h1, h2 => exact h2.elim
        | .inr w2, h1, h2 =>
          rw [h1]
          exact ⟨w2, rfl, h2⟩
      · cases h
    · cases h
theorem mcA_call_ok {kt : Nat → Option mc_E} {kA : Nat → Option mcA_E} (hk : ∀ (a : Nat) (eA : mcA_E), kA a = some eA → ∃ e, kt a = some e ∧ mcA_gE eA e) {F : Nat} : ∀ (d k : Nat) (vs : List mc_V) (xs : List Value) (MA : mcA_M) (M : mc_M) (w : mcA_R), mcA_R2 mc_g vs xs → mcA_R2 mcA_gE MA M → mcA_call kA F d k vs MA = some w → ∃ w', mc_call kt F d k xs M = some w' ∧ mcA_gR w w'
  | 0, _, _, _, _, _, _, _, _, h => by cases h
  | d + 1, k, vs, xs, MA, M, w, hv, hM, h => by
    unfold mcA_call at h
    unfold mc_call
    split at h
    · next q hq =>
      rw [hq]
      dsimp only
      split at h
      · next hl =>
        have hl2 : decide ((lg_sl xs).length ≤ q.2.2.2.1) = true := by
          rw [mc_sl_sum, ← hv.same (fun a b hab => mcA_cat_ok hab)]
          exact hl
        rw [hl2]
        exact mcA_loop_ok hk (mcA_call_ok hk d) (fun pc x hx => mc_cd_ok hq hx) F (0, mcA_args 0 vs, [], MA) (0, lv_args 0 xs, [], M) w ⟨rfl, mcA_args_ok hv 0, trivial, hM⟩ h
      · cases h
    · cases h
