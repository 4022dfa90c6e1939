theorem mc_or_t {a b : mc_O} {x : mc_S ⊕ mc_R} (h : mc_or a b = some x) : a = some x ∨ b = some x := by
  unfold mc_or at h
  split at h
  · exact Or.inl h
  · exact Or.inr h
theorem mc_void_ok : (List.range 296).all (fun k => match mc_mt k with
  | some q => decide (q.2.2.2.2.2.2 = 2) == false || decide (q.2.2.2.2.1 = none)
  | none => true) = true := by decide +kernel
theorem mc_mt_lt {k : Nat} {q : Nat × MethodName × ByteArray × Nat × Option FieldType × Nat × Nat} (h : mc_mt k = some q) : k < 296 := by
  unfold mc_mt at h
  split at h
  · next hb =>
    have hlt : k % 32 < 32 := (List.getElem?_eq_some_iff.mp h).1
    omega
  · next hb =>
    have hlt : k % 32 < 32 := (List.getElem?_eq_some_iff.mp h).1
    omega
  · next hb =>
    have hlt : k % 32 < 32 := (List.getElem?_eq_some_iff.mp h).1
    omega
  · next hb =>
    have hlt : k % 32 < 32 := (List.getElem?_eq_some_iff.mp h).1
    omega
  · next hb =>
    have hlt : k % 32 < 32 := (List.getElem?_eq_some_iff.mp h).1
    omega
  · next hb =>
    have hlt : k % 32 < 32 := (List.getElem?_eq_some_iff.mp h).1
    omega
  · next hb =>
    have hlt : k % 32 < 32 := (List.getElem?_eq_some_iff.mp h).1
    omega
  · next hb =>
    have hlt : k % 32 < 32 := (List.getElem?_eq_some_iff.mp h).1
    omega
  · next hb =>
    have hlt : k % 32 < 32 := (List.getElem?_eq_some_iff.mp h).1
    omega
  · next hb =>
    have hlt : k % 32 < 8 := (List.getElem?_eq_some_iff.mp h).1
    omega
  · cases h
theorem mc_void {k : Nat} {q : Nat × MethodName × ByteArray × Nat × Option FieldType × Nat × Nat} (h : mc_mt k = some q) (hs : q.2.2.2.2.2.2 = 2) : q.2.2.2.2.1 = none := by
  have h1 := List.all_eq_true.mp mc_void_ok k (List.mem_range.mpr (mc_mt_lt h))
  rw [h] at h1
  simpa [hs] using h1
theorem mc_retX {ret : Option FieldType} {st : List Value} {M : mc_M} {S : mc_S} : (mc_ret ret st M = some (.inl S) → False) ∧ (mc_retL ret st M = some (.inl S) → False) ∧ (mc_retA ret st M = some (.inl S) → False) ∧ (mc_retV ret st M = some (.inl S) → False) := by
  refine ⟨fun h => ?_, fun h => ?_, fun h => ?_, fun h => ?_⟩
  · unfold mc_ret at h
    split at h
    · cases h
    · cases (mc_n_t h).2
    · cases h
  · unfold mc_retL at h
    split at h <;> cases h
  · unfold mc_retA at h
    split at h
    · cases (mc_n_t h).2
    · cases (mc_n_t h).2
    · cases h
  · unfold mc_retV at h
    split at h <;> cases h
theorem mc_ref4 {t : Nat} (h : 4 ≤ t) : (mc_ty t).isReference = true := by
  match t, h with
  | 4, _ => rfl
  | 5, _ => rfl
  | 6, _ => rfl
  | n + 7, _ => rfl
section MC7

variable {kt : Nat → Option mc_E} {own : Nat} {ini : Bool} {ret : Option FieldType} {cc : ByteArray}

variable {G : mc_G} {p : Program} {l : Launch} {e : Env} {R : Room} {s : State} {m : MethodId} {args : Array Value} {below : List Frame} {meth : Method} {c : Code} {Q : State → Prop} {nL l0 z0 : Nat}

variable {S : mc_S}
set_option maxHeartbeats 4000000 in
/-- one instruction -/
theorem mc_step_ok (C : mc_X kt G own nL ini ret cc p s m args meth c) {call : Nat → List Value → mc_M → Option mc_R} {d : Nat} (IH : ∀ (k : Nat) (q : Nat × MethodName × ByteArray × Nat × Option FieldType × Nat × Nat) (as : List Value) (M : mc_M) (w : mc_R), mc_mt k = some q → call k as M = some w → mc_Met l kt G d q as M w ∧ mc_le M w.2) (hF : d + 6 ≤ R.frames ∧ 36 * (d + 6) ≤ R.locals) {x : Instr} {n : Nat} {S0 : mc_S} (hd : decode cc S0.1 = .ok (x, n)) (h : mc_step kt call own nL ini ret x n S0 = some (.inl S)) (hR : S.2.2.2.length ≤ R.cells + l0 ∧ mc_sz S.2.2.2 ≤ R.slots + z0) (kS : mc_W G p l e R s m args below meth c Q nL l0 z0 S) : mc_W G p l e R s m args below meth c Q nL l0 z0 S0 := by
  obtain ⟨pc, L, st, M⟩ := S0
  have hx := C.1
  have hb := C.2.1
  have hinj := C.2.2.2.2.2.1.2.2.2.1.2.2.2.2
  cases x with
  | iconst i =>
    have h : mc_n (n == 1) (mc_go (pc + 1) L (.int (Int32.ofInt i) :: st) M) = some (.inl S) := h
    obtain ⟨hn, h8⟩ := mc_n_t h
    have hn : n = 1 := by simpa using hn
    subst hn
    exact mc_r_go (fun H locs cells slots ls kk => lv_iconst hx hb hd rfl kk) h8 kS
  | bipush i =>
    have h : mc_n (n == 2) (mc_go (pc + 2) L (.int (Int8.ofInt i).toInt32 :: st) M) = some (.inl S) := h
    obtain ⟨hn, h8⟩ := mc_n_t h
    have hn : n = 2 := by simpa using hn
    subst hn
    exact mc_r_go (fun H locs cells slots ls kk => lv_bipush hx hb hd rfl kk) h8 kS
  | sipush i =>
    have h : mc_n (n == 3) (mc_go (pc + 3) L (.int (Int16.ofInt i).toInt32 :: st) M) = some (.inl S) := h
    obtain ⟨hn, h8⟩ := mc_n_t h
    have hn : n = 3 := by simpa using hn
    subst hn
    exact mc_r_go (fun H locs cells slots ls kk => lv_sipush hx hb hd rfl kk) h8 kS
  | lconst i =>
    have h : mc_n (n == 1) (mc_go (pc + 1) L (.long (Int64.ofNat (i : Nat)) :: st) M) = some (.inl S) := h
    obtain ⟨hn, h8⟩ := mc_n_t h
    have hn : n = 1 := by simpa using hn
    subst hn
    exact mc_r_go (fun H locs cells slots ls kk => lv_lconst hx hb hd rfl kk) h8 kS
  | aconst_null  =>
    have h : mc_n (n == 1) (mc_go (pc + 1) L (.null :: st) M) = some (.inl S) := h
    obtain ⟨hn, h8⟩ := mc_n_t h
    have hn : n = 1 := by simpa using hn
    subst hn
    exact mc_r_go (fun H locs cells slots ls kk => lv_null hx hb hd kk) h8 kS
  | iload_n i =>
    have h : mc_n (n == 1) (mc_ld mc_isI (i : Nat) 1 pc L st M) = some (.inl S) := h
    obtain ⟨hn, h8⟩ := mc_n_t h
    have hn : n = 1 := by simpa using hn
    subst hn
    exact mc_r_ld (fun H locs cells slots ls rest v hv hl kk => by
      cases v with
      | int x => exact lv_iload_n hx hb hd rfl hl kk
      | _ => cases hv) h8 kS
  | iload i =>
    have h : mc_n (n == 2) (mc_ld mc_isI i 2 pc L st M) = some (.inl S) := h
    obtain ⟨hn, h8⟩ := mc_n_t h
    have hn : n = 2 := by simpa using hn
    subst hn
    exact mc_r_ld (fun H locs cells slots ls rest v hv hl kk => by
      cases v with
      | int x => exact lv_iload hx hb hd hl kk
      | _ => cases hv) h8 kS
  | lload_n i =>
    have h : mc_n (n == 1) (mc_ld mc_isL (i : Nat) 1 pc L st M) = some (.inl S) := h
    obtain ⟨hn, h8⟩ := mc_n_t h
    have hn : n = 1 := by simpa using hn
    subst hn
    exact mc_r_ld (fun H locs cells slots ls rest v hv hl kk => by
      cases v with
      | long x => exact lv_lload_n hx hb hd rfl hl kk
      | _ => cases hv) h8 kS
  | lload i =>
    have h : mc_n (n == 2) (mc_ld mc_isL i 2 pc L st M) = some (.inl S) := h
    obtain ⟨hn, h8⟩ := mc_n_t h
    have hn : n = 2 := by simpa using hn
    subst hn
    exact mc_r_ld (fun H locs cells slots ls rest v hv hl kk => by
      cases v with
      | long x => exact lv_lload hx hb hd hl kk
      | _ => cases hv) h8 kS
  | aload_n i =>
    have h : mc_n (n == 1) (mc_ld mc_isA (i : Nat) 1 pc L st M) = some (.inl S) := h
    obtain ⟨hn, h8⟩ := mc_n_t h
    have hn : n = 1 := by simpa using hn
    subst hn
    exact mc_r_ld (fun H locs cells slots ls rest v hv hl kk => by
      cases v with
      | ref x => exact lv_aload_n hx hb hd rfl hl kk
      | null => exact lv_aload_nN hx hb hd rfl hl kk
      | _ => cases hv) h8 kS
  | aload i =>
    have h : mc_n (n == 2) (mc_ld mc_isA i 2 pc L st M) = some (.inl S) := h
    obtain ⟨hn, h8⟩ := mc_n_t h
    have hn : n = 2 := by simpa using hn
    subst hn
    exact mc_r_ld (fun H locs cells slots ls rest v hv hl kk => by
      cases v with
      | ref x => exact lv_aload hx hb hd hl kk
      | null => exact lv_aloadN hx hb hd hl kk
      | _ => cases hv) h8 kS
  | istore_n i =>
    have h : mc_n (n == 1) (mc_sv mc_isI nL (i : Nat) 1 pc L st M) = some (.inl S) := h
    obtain ⟨hn, h8⟩ := mc_n_t h
    have hn : n = 1 := by simpa using hn
    subst hn
    exact mc_r_sv (fun H locs cells slots ls rest v lv hv h9 hi kk => by
      cases v with
      | int x => exact lv_istore_n hx hb hd rfl h9 hi rfl kk
      | _ => cases hv) h8 kS
  | istore i =>
    have h : mc_n (n == 2) (mc_sv mc_isI nL i 2 pc L st M) = some (.inl S) := h
    obtain ⟨hn, h8⟩ := mc_n_t h
    have hn : n = 2 := by simpa using hn
    subst hn
    exact mc_r_sv (fun H locs cells slots ls rest v lv hv h9 hi kk => by
      cases v with
      | int x => exact lv_istore hx hb hd h9 hi rfl kk
      | _ => cases hv) h8 kS
  | astore_n i =>
    have h : mc_n (n == 1) (mc_sv mc_isA nL (i : Nat) 1 pc L st M) = some (.inl S) := h
    obtain ⟨hn, h8⟩ := mc_n_t h
    have hn : n = 1 := by simpa using hn
    subst hn
    exact mc_r_sv (fun H locs cells slots ls rest v lv hv h9 hi kk => by
      cases v with
      | ref x => exact lv_astore_n hx hb hd rfl h9 hi rfl kk
      | null => exact lv_astore_nN hx hb hd rfl h9 hi rfl kk
      | _ => cases hv) h8 kS
  | astore i =>
    have h : mc_n (n == 2) (mc_sv mc_isA nL i 2 pc L st M) = some (.inl S) := h
    obtain ⟨hn, h8⟩ := mc_n_t h
    have hn : n = 2 := by simpa using hn
    subst hn
    exact mc_r_sv (fun H locs cells slots ls rest v lv hv h9 hi kk => by
      cases v with
      | ref x => exact lv_astore hx hb hd h9 hi rfl kk
      | null => exact lv_astoreN hx hb hd h9 hi rfl kk
      | _ => cases hv) h8 kS
  | lstore_n i =>
    have h : mc_n (n == 1) (mc_svL nL (i : Nat) 1 pc L st M) = some (.inl S) := h
    obtain ⟨hn, h8⟩ := mc_n_t h
    have hn : n = 1 := by simpa using hn
    subst hn
    exact mc_r_svL (fun H locs cells slots ls rest x lv h9 hi kk => lv_lstore_n hx hb hd rfl h9 hi rfl kk) h8 kS
  | lstore i =>
    have h : mc_n (n == 2) (mc_svL nL i 2 pc L st M) = some (.inl S) := h
    obtain ⟨hn, h8⟩ := mc_n_t h
    have hn : n = 2 := by simpa using hn
    subst hn
    exact mc_r_svL (fun H locs cells slots ls rest x lv h9 hi kk => lv_lstore hx hb hd h9 hi rfl kk) h8 kS
  | iinc i k =>
    have h : mc_n (n == 3) (mc_inc nL i k pc L st M) = some (.inl S) := h
    obtain ⟨hn, h8⟩ := mc_n_t h
    have hn : n = 3 := by simpa using hn
    subst hn
    exact mc_r_inc (fun H locs cells slots ls rest x lv j h9 hj hi kk => lv_iinc hx hb hd h9 hj rfl hi rfl kk) h8 kS
  | iadd  =>
    have h : mc_n (n == 1) (mc_ii2 (fun x y => some (x + y)) pc L st M) = some (.inl S) := h
    obtain ⟨hn, h8⟩ := mc_n_t h
    have hn : n = 1 := by simpa using hn
    subst hn
    exact mc_r_ii2 (fun H locs cells slots ls rest x y z hz kk => by
      cases hz
      exact lv_iadd hx hb hd kk) h8 kS
  | isub  =>
    have h : mc_n (n == 1) (mc_ii2 (fun x y => some (x - y)) pc L st M) = some (.inl S) := h
    obtain ⟨hn, h8⟩ := mc_n_t h
    have hn : n = 1 := by simpa using hn
    subst hn
    exact mc_r_ii2 (fun H locs cells slots ls rest x y z hz kk => by
      cases hz
      exact lv_isub hx hb hd kk) h8 kS
  | imul  =>
    have h : mc_n (n == 1) (mc_ii2 (fun x y => some (x * y)) pc L st M) = some (.inl S) := h
    obtain ⟨hn, h8⟩ := mc_n_t h
    have hn : n = 1 := by simpa using hn
    subst hn
    exact mc_r_ii2 (fun H locs cells slots ls rest x y z hz kk => by
      cases hz
      exact lv_imul hx hb hd kk) h8 kS
  | iand  =>
    have h : mc_n (n == 1) (mc_ii2 (fun x y => some (x &&& y)) pc L st M) = some (.inl S) := h
    obtain ⟨hn, h8⟩ := mc_n_t h
    have hn : n = 1 := by simpa using hn
    subst hn
    exact mc_r_ii2 (fun H locs cells slots ls rest x y z hz kk => by
      cases hz
      exact lv_iand hx hb hd kk) h8 kS
  | ior  =>
    have h : mc_n (n == 1) (mc_ii2 (fun x y => some (x ||| y)) pc L st M) = some (.inl S) := h
    obtain ⟨hn, h8⟩ := mc_n_t h
    have hn : n = 1 := by simpa using hn
    subst hn
    exact mc_r_ii2 (fun H locs cells slots ls rest x y z hz kk => by
      cases hz
      exact lv_ior hx hb hd kk) h8 kS
  | ixor  =>
    have h : mc_n (n == 1) (mc_ii2 (fun x y => some (x ^^^ y)) pc L st M) = some (.inl S) := h
    obtain ⟨hn, h8⟩ := mc_n_t h
    have hn : n = 1 := by simpa using hn
    subst hn
    exact mc_r_ii2 (fun H locs cells slots ls rest x y z hz kk => by
      cases hz
      exact lv_ixor hx hb hd kk) h8 kS
  | ishl  =>
    have h : mc_n (n == 1) (mc_ii2 (fun x y => some (x <<< (y &&& 31))) pc L st M) = some (.inl S) := h
    obtain ⟨hn, h8⟩ := mc_n_t h
    have hn : n = 1 := by simpa using hn
    subst hn
    exact mc_r_ii2 (fun H locs cells slots ls rest x y z hz kk => by
      cases hz
      exact lv_ishl hx hb hd kk) h8 kS
  | ishr  =>
    have h : mc_n (n == 1) (mc_ii2 (fun x y => some (x >>> (y &&& 31))) pc L st M) = some (.inl S) := h
    obtain ⟨hn, h8⟩ := mc_n_t h
    have hn : n = 1 := by simpa using hn
    subst hn
    exact mc_r_ii2 (fun H locs cells slots ls rest x y z hz kk => by
      cases hz
      exact lv_ishr hx hb hd kk) h8 kS
  | iushr  =>
    have h : mc_n (n == 1) (mc_ii2 (fun x y => some (x.toUInt32 >>> (y.toUInt32 &&& Int32.toUInt32 31)).toInt32) pc L st M) = some (.inl S) := h
    obtain ⟨hn, h8⟩ := mc_n_t h
    have hn : n = 1 := by simpa using hn
    subst hn
    exact mc_r_ii2 (fun H locs cells slots ls rest x y z hz kk => by
      cases hz
      exact lv_iushr hx hb hd rfl kk) h8 kS
  | idiv  =>
    have h : mc_n (n == 1) (mc_ii2 (fun x y => if y = 0 then none else some (x / y)) pc L st M) = some (.inl S) := h
    obtain ⟨hn, h8⟩ := mc_n_t h
    have hn : n = 1 := by simpa using hn
    subst hn
    exact mc_r_ii2 (fun H locs cells slots ls rest x y z hz kk => by
      split at hz
      · cases hz
      · next hne =>
        cases hz
        exact lv_idiv hx hb hd hne kk) h8 kS
  | irem  =>
    have h : mc_n (n == 1) (mc_ii2 (fun x y => if y = 0 then none else some (x - x / y * y)) pc L st M) = some (.inl S) := h
    obtain ⟨hn, h8⟩ := mc_n_t h
    have hn : n = 1 := by simpa using hn
    subst hn
    exact mc_r_ii2 (fun H locs cells slots ls rest x y z hz kk => by
      split at hz
      · cases hz
      · next hne =>
        cases hz
        exact lv_irem hx hb hd hne kk) h8 kS
  | ladd  =>
    have h : mc_n (n == 1) (mc_ll2 (fun x y => some (x + y)) pc L st M) = some (.inl S) := h
    obtain ⟨hn, h8⟩ := mc_n_t h
    have hn : n = 1 := by simpa using hn
    subst hn
    exact mc_r_ll2 (fun H locs cells slots ls rest x y z hz kk => by
      cases hz
      exact lv_ladd hx hb hd kk) h8 kS
  | lsub  =>
    have h : mc_n (n == 1) (mc_ll2 (fun x y => some (x - y)) pc L st M) = some (.inl S) := h
    obtain ⟨hn, h8⟩ := mc_n_t h
    have hn : n = 1 := by simpa using hn
    subst hn
    exact mc_r_ll2 (fun H locs cells slots ls rest x y z hz kk => by
      cases hz
      exact lv_lsub hx hb hd kk) h8 kS
  | lmul  =>
    have h : mc_n (n == 1) (mc_ll2 (fun x y => some (x * y)) pc L st M) = some (.inl S) := h
    obtain ⟨hn, h8⟩ := mc_n_t h
    have hn : n = 1 := by simpa using hn
    subst hn
    exact mc_r_ll2 (fun H locs cells slots ls rest x y z hz kk => by
      cases hz
      exact lv_lmul hx hb hd kk) h8 kS
  | land  =>
    have h : mc_n (n == 1) (mc_ll2 (fun x y => some (x &&& y)) pc L st M) = some (.inl S) := h
    obtain ⟨hn, h8⟩ := mc_n_t h
    have hn : n = 1 := by simpa using hn
    subst hn
    exact mc_r_ll2 (fun H locs cells slots ls rest x y z hz kk => by
      cases hz
      exact lv_land hx hb hd kk) h8 kS
  | lor  =>
    have h : mc_n (n == 1) (mc_ll2 (fun x y => some (x ||| y)) pc L st M) = some (.inl S) := h
    obtain ⟨hn, h8⟩ := mc_n_t h
    have hn : n = 1 := by simpa using hn
    subst hn
    exact mc_r_ll2 (fun H locs cells slots ls rest x y z hz kk => by
      cases hz
      exact lv_lor hx hb hd kk) h8 kS
  | ldiv  =>
    have h : mc_n (n == 1) (mc_ll2 (fun x y => if y = 0 then none else some (x / y)) pc L st M) = some (.inl S) := h
    obtain ⟨hn, h8⟩ := mc_n_t h
    have hn : n = 1 := by simpa using hn
    subst hn
    exact mc_r_ll2 (fun H locs cells slots ls rest x y z hz kk => by
      split at hz
      · cases hz
      · next hne =>
        cases hz
        exact lv_ldiv hx hb hd hne kk) h8 kS
  | lrem  =>
    have h : mc_n (n == 1) (mc_ll2 (fun x y => if y = 0 then none else some (x - x / y * y)) pc L st M) = some (.inl S) := h
    obtain ⟨hn, h8⟩ := mc_n_t h
    have hn : n = 1 := by simpa using hn
    subst hn
    exact mc_r_ll2 (fun H locs cells slots ls rest x y z hz kk => by
      split at hz
      · cases hz
      · next hne =>
        cases hz
        exact lv_lrem hx hb hd hne kk) h8 kS
  | lshl  =>
    have h : mc_n (n == 1) (mc_li2 (fun x y => x <<< (y.toInt64 &&& 63)) pc L st M) = some (.inl S) := h
    obtain ⟨hn, h8⟩ := mc_n_t h
    have hn : n = 1 := by simpa using hn
    subst hn
    exact mc_r_li2 (fun H locs cells slots ls rest x y kk => lv_lshl hx hb hd rfl kk) h8 kS
  | lshr  =>
    have h : mc_n (n == 1) (mc_li2 (fun x y => x >>> (y.toInt64 &&& 63)) pc L st M) = some (.inl S) := h
    obtain ⟨hn, h8⟩ := mc_n_t h
    have hn : n = 1 := by simpa using hn
    subst hn
    exact mc_r_li2 (fun H locs cells slots ls rest x y kk => lv_lshr hx hb hd rfl kk) h8 kS
  | lcmp  =>
    have h : mc_n (n == 1) (mc_cmp pc L st M) = some (.inl S) := h
    obtain ⟨hn, h8⟩ := mc_n_t h
    have hn : n = 1 := by simpa using hn
    subst hn
    exact mc_r_cmp (fun H locs cells slots ls rest x y kk => W.lcmp hx hb hd kk) h8 kS
  | ineg  =>
    have h : mc_n (n == 1) (mc_i1 (fun x => .int (-x)) pc L st M) = some (.inl S) := h
    obtain ⟨hn, h8⟩ := mc_n_t h
    have hn : n = 1 := by simpa using hn
    subst hn
    exact mc_r_i1 (f := fun x => .int (-x)) (fun H locs cells slots ls rest x kk => lv_ineg hx hb hd kk) h8 kS
  | i2l  =>
    have h : mc_n (n == 1) (mc_i1 (fun x => .long x.toInt64) pc L st M) = some (.inl S) := h
    obtain ⟨hn, h8⟩ := mc_n_t h
    have hn : n = 1 := by simpa using hn
    subst hn
    exact mc_r_i1 (f := fun x => .long x.toInt64) (fun H locs cells slots ls rest x kk => lv_i2l hx hb hd rfl kk) h8 kS
  | i2b  =>
    have h : mc_n (n == 1) (mc_i1 (fun x => .int x.toInt8.toInt32) pc L st M) = some (.inl S) := h
    obtain ⟨hn, h8⟩ := mc_n_t h
    have hn : n = 1 := by simpa using hn
    subst hn
    exact mc_r_i1 (f := fun x => .int x.toInt8.toInt32) (fun H locs cells slots ls rest x kk => lv_i2b hx hb hd rfl kk) h8 kS
  | l2i  =>
    have h : mc_n (n == 1) (mc_l1 (fun x => .int x.toInt32) pc L st M) = some (.inl S) := h
    obtain ⟨hn, h8⟩ := mc_n_t h
    have hn : n = 1 := by simpa using hn
    subst hn
    exact mc_r_l1 (f := fun x => .int x.toInt32) (fun H locs cells slots ls rest x kk => lv_l2i hx hb hd rfl kk) h8 kS
  | if_icmp cond off =>
    cases cond with
    | eq =>
      have h : mc_n (n == 3) (mc_ic2 (fun x y => decide (x = y)) pc off L st M) = some (.inl S) := h
      obtain ⟨hn, h8⟩ := mc_n_t h
      have hn : n = 3 := by simpa using hn
      subst hn
      exact mc_r_ic2 (fun H locs cells slots ls rest x y tgt ht kt kf => lv_icmp_eq hx hb hd ht (fun q => kt (decide_eq_true q)) (fun q => kf (decide_eq_false q))) h8 kS
    | ne =>
      have h : mc_n (n == 3) (mc_ic2 (fun x y => decide (¬ x = y)) pc off L st M) = some (.inl S) := h
      obtain ⟨hn, h8⟩ := mc_n_t h
      have hn : n = 3 := by simpa using hn
      subst hn
      exact mc_r_ic2 (fun H locs cells slots ls rest x y tgt ht kt kf => lv_icmp_ne hx hb hd ht (fun q => kt (decide_eq_true q)) (fun q => kf (decide_eq_false (fun z => z q)))) h8 kS
    | lt =>
      have h : mc_n (n == 3) (mc_ic2 (fun x y => decide (x < y)) pc off L st M) = some (.inl S) := h
      obtain ⟨hn, h8⟩ := mc_n_t h
      have hn : n = 3 := by simpa using hn
      subst hn
      exact mc_r_ic2 (fun H locs cells slots ls rest x y tgt ht kt kf => lv_icmp_lt hx hb hd ht (fun q => kt (decide_eq_true q)) (fun q => kf (decide_eq_false q))) h8 kS
    | ge =>
      have h : mc_n (n == 3) (mc_ic2 (fun x y => decide (y ≤ x)) pc off L st M) = some (.inl S) := h
      obtain ⟨hn, h8⟩ := mc_n_t h
      have hn : n = 3 := by simpa using hn
      subst hn
      exact mc_r_ic2 (fun H locs cells slots ls rest x y tgt ht kt kf => lv_icmp_ge hx hb hd ht (fun q => kt (decide_eq_true q)) (fun q => kf (decide_eq_false q))) h8 kS
    | gt =>
      have h : mc_n (n == 3) (mc_ic2 (fun x y => decide (y < x)) pc off L st M) = some (.inl S) := h
      obtain ⟨hn, h8⟩ := mc_n_t h
      have hn : n = 3 := by simpa using hn
      subst hn
      exact mc_r_ic2 (fun H locs cells slots ls rest x y tgt ht kt kf => lv_icmp_gt hx hb hd ht (fun q => kt (decide_eq_true q)) (fun q => kf (decide_eq_false q))) h8 kS
    | le =>
      have h : mc_n (n == 3) (mc_ic2 (fun x y => decide (x ≤ y)) pc off L st M) = some (.inl S) := h
      obtain ⟨hn, h8⟩ := mc_n_t h
      have hn : n = 3 := by simpa using hn
      subst hn
      exact mc_r_ic2 (fun H locs cells slots ls rest x y tgt ht kt kf => lv_icmp_le hx hb hd ht (fun q => kt (decide_eq_true q)) (fun q => kf (decide_eq_false q))) h8 kS
  | ifCond cond off =>
    cases cond with
    | eq =>
      have h : mc_n (n == 3) (mc_ic1 (fun x => decide (x = 0)) pc off L st M) = some (.inl S) := h
      obtain ⟨hn, h8⟩ := mc_n_t h
      have hn : n = 3 := by simpa using hn
      subst hn
      exact mc_r_ic1 (fun H locs cells slots ls rest x tgt ht kt kf => lv_if_eq hx hb hd ht (fun q => kt (decide_eq_true q)) (fun q => kf (decide_eq_false q))) h8 kS
    | ne =>
      have h : mc_n (n == 3) (mc_ic1 (fun x => decide (¬ x = 0)) pc off L st M) = some (.inl S) := h
      obtain ⟨hn, h8⟩ := mc_n_t h
      have hn : n = 3 := by simpa using hn
      subst hn
      exact mc_r_ic1 (fun H locs cells slots ls rest x tgt ht kt kf => lv_if_ne hx hb hd ht (fun q => kt (decide_eq_true q)) (fun q => kf (decide_eq_false (fun z => z q)))) h8 kS
    | lt =>
      have h : mc_n (n == 3) (mc_ic1 (fun x => decide (x < 0)) pc off L st M) = some (.inl S) := h
      obtain ⟨hn, h8⟩ := mc_n_t h
      have hn : n = 3 := by simpa using hn
      subst hn
      exact mc_r_ic1 (fun H locs cells slots ls rest x tgt ht kt kf => lv_if_lt hx hb hd ht (fun q => kt (decide_eq_true q)) (fun q => kf (decide_eq_false q))) h8 kS
    | ge =>
      have h : mc_n (n == 3) (mc_ic1 (fun x => decide (0 ≤ x)) pc off L st M) = some (.inl S) := h
      obtain ⟨hn, h8⟩ := mc_n_t h
      have hn : n = 3 := by simpa using hn
      subst hn
      exact mc_r_ic1 (fun H locs cells slots ls rest x tgt ht kt kf => lv_if_ge hx hb hd ht (fun q => kt (decide_eq_true q)) (fun q => kf (decide_eq_false q))) h8 kS
    | gt =>
      have h : mc_n (n == 3) (mc_ic1 (fun x => decide (0 < x)) pc off L st M) = some (.inl S) := h
      obtain ⟨hn, h8⟩ := mc_n_t h
      have hn : n = 3 := by simpa using hn
      subst hn
      exact mc_r_ic1 (fun H locs cells slots ls rest x tgt ht kt kf => lv_if_gt hx hb hd ht (fun q => kt (decide_eq_true q)) (fun q => kf (decide_eq_false q))) h8 kS
    | le =>
      have h : mc_n (n == 3) (mc_ic1 (fun x => decide (x ≤ 0)) pc off L st M) = some (.inl S) := h
      obtain ⟨hn, h8⟩ := mc_n_t h
      have hn : n = 3 := by simpa using hn
      subst hn
      exact mc_r_ic1 (fun H locs cells slots ls rest x tgt ht kt kf => lv_if_le hx hb hd ht (fun q => kt (decide_eq_true q)) (fun q => kf (decide_eq_false q))) h8 kS
  | ifnull off =>
    have h : mc_n (n == 3) (mc_icn true pc off L st M) = some (.inl S) := h
    obtain ⟨hn, h8⟩ := mc_n_t h
    have hn : n = 3 := by simpa using hn
    subst hn
    exact mc_r_icn (f := true) (fun H locs cells slots ls rest x tgt ht kk => lv_ifnull hx hb hd kk) (fun H locs cells slots ls rest tgt ht kk => lv_ifnullN hx hb hd ht kk) h8 kS
  | ifnonnull off =>
    have h : mc_n (n == 3) (mc_icn false pc off L st M) = some (.inl S) := h
    obtain ⟨hn, h8⟩ := mc_n_t h
    have hn : n = 3 := by simpa using hn
    subst hn
    exact mc_r_icn (f := false) (fun H locs cells slots ls rest x tgt ht kk => lv_ifnonnull hx hb hd ht kk) (fun H locs cells slots ls rest tgt ht kk => lv_ifnonnullN hx hb hd kk) h8 kS
  | if_acmp cond off =>
    cases cond with
    | eq =>
      have h : mc_n (n == 3) (mc_ica true pc off L st M) = some (.inl S) := h
      obtain ⟨hn, h8⟩ := mc_n_t h
      have hn : n = 3 := by simpa using hn
      subst hn
      exact mc_r_ica hinj (fun H locs cells slots ls rest rx ry tgt ht kt kf => lv_acmp_eq hx hb hd ht (fun q => kt (by simp [q])) (fun q => kf (by simp [q]))) h8 kS
    | ne =>
      have h : mc_n (n == 3) (mc_ica false pc off L st M) = some (.inl S) := h
      obtain ⟨hn, h8⟩ := mc_n_t h
      have hn : n = 3 := by simpa using hn
      subst hn
      exact mc_r_ica hinj (fun H locs cells slots ls rest rx ry tgt ht kt kf => lv_acmp_ne hx hb hd ht (fun q => kt (by simp [q])) (fun q => kf (by simp [q]))) h8 kS
  | goto off =>
    have h : mc_n (n == 3) (mc_jp pc off L st M) = some (.inl S) := h
    obtain ⟨hn, h8⟩ := mc_n_t h
    have hn : n = 3 := by simpa using hn
    subst hn
    exact mc_r_jp (fun H locs cells slots ls rest tgt ht kk => lv_goto hx hb hd ht kk) h8 kS
  | dup  =>
    have h : mc_n (n == 1) (mc_dup pc L st M) = some (.inl S) := h
    obtain ⟨hn, h8⟩ := mc_n_t h
    have hn : n = 1 := by simpa using hn
    subst hn
    exact mc_r_dup (fun H locs cells slots ls rest v hv kk => lv_dup hx hb hd hv kk) h8 kS
  | pop  =>
    have h : mc_n (n == 1) (mc_pop pc L st M) = some (.inl S) := h
    obtain ⟨hn, h8⟩ := mc_n_t h
    have hn : n = 1 := by simpa using hn
    subst hn
    exact mc_r_pop (fun H locs cells slots ls rest v hv kk => lv_pop hx hb hd hv kk) h8 kS
  | dup2  =>
    have h : mc_n (n == 1) (mc_dup2 pc L st M) = some (.inl S) := h
    obtain ⟨hn, h8⟩ := mc_n_t h
    have hn : n = 1 := by simpa using hn
    subst hn
    exact mc_r_dup2 (fun H locs cells slots ls rest v hv kk => lv_dup2_2 hx hb hd hv kk) (fun H locs cells slots ls rest v w hv hw kk => lv_dup2_11 hx hb hd hv hw kk) h8 kS
  | pop2  =>
    have h : mc_n (n == 1) (mc_pop2 pc L st M) = some (.inl S) := h
    obtain ⟨hn, h8⟩ := mc_n_t h
    have hn : n = 1 := by simpa using hn
    subst hn
    exact mc_r_pop2 (fun H locs cells slots ls rest v hv kk => lv_pop2_2 hx hb hd hv kk) h8 kS
  | getfield i =>
    have h : mc_n (n == 3) (mc_getf kt own i pc L st M) = some (.inl S) := h
    obtain ⟨hn, h8⟩ := mc_n_t h
    have hn : n = 3 := by simpa using hn
    subst hn
    exact mc_r_getf C hd h8 kS
  | putfield i =>
    have h : mc_n (n == 3) (mc_putf own ini i pc L st M) = some (.inl S) := h
    obtain ⟨hn, h8⟩ := mc_n_t h
    have hn : n = 3 := by simpa using hn
    subst hn
    exact mc_r_putf C hd h8 kS
  | iaload  =>
    have h : mc_n (n == 1) (mc_ald kt (fun t => t == 0) pc L st M) = some (.inl S) := h
    obtain ⟨hn, h8⟩ := mc_n_t h
    have hn : n = 1 := by simpa using hn
    subst hn
    exact mc_r_ald C (fun H locs cells slots ls rest t a cell i v ht hcell harr hvm hin hv kk => by
      have ht : t = 0 := by simpa using ht
      subst ht
      exact W.iald hx hb hcell harr hvm hin hv rfl rfl hd kk) h8 kS
  | laload  =>
    have h : mc_n (n == 1) (mc_ald kt (fun t => t == 1) pc L st M) = some (.inl S) := h
    obtain ⟨hn, h8⟩ := mc_n_t h
    have hn : n = 1 := by simpa using hn
    subst hn
    exact mc_r_ald C (fun H locs cells slots ls rest t a cell i v ht hcell harr hvm hin hv kk => by
      have ht : t = 1 := by simpa using ht
      subst ht
      exact W.lald hx hb hcell harr hvm hin hv rfl rfl hd kk) h8 kS
  | baload  =>
    have h : mc_n (n == 1) (mc_ald kt (fun t => t == 2 || t == 3) pc L st M) = some (.inl S) := h
    obtain ⟨hn, h8⟩ := mc_n_t h
    have hn : n = 1 := by simpa using hn
    subst hn
    exact mc_r_ald C (fun H locs cells slots ls rest t a cell i v ht hcell harr hvm hin hv kk => by
      have ht : t = 2 ∨ t = 3 := by simpa using ht
      rcases ht with ht | ht <;> subst ht
      · exact W.bald hx hb hcell harr hvm hin hv rfl rfl hd kk
      · exact W.zald hx hb hcell harr hvm hin hv rfl rfl hd kk) h8 kS
  | aaload  =>
    have h : mc_n (n == 1) (mc_ald kt (fun t => decide (4 ≤ t)) pc L st M) = some (.inl S) := h
    obtain ⟨hn, h8⟩ := mc_n_t h
    have hn : n = 1 := by simpa using hn
    subst hn
    exact mc_r_ald C (fun H locs cells slots ls rest t a cell i v ht hcell harr hvm hin hv kk => by
      have ht : 4 ≤ t := by simpa using ht
      exact W.aald hx hb hcell harr (mc_ref4 ht) hvm hin hv rfl rfl hd kk) h8 kS
  | iastore  =>
    have h : mc_n (n == 1) (mc_ast kt (fun t v => t == 0 && mc_isI v) (fun _ v => v) pc L st M) = some (.inl S) := h
    obtain ⟨hn, h8⟩ := mc_n_t h
    have hn : n = 1 := by simpa using hn
    subst hn
    exact mc_r_ast C (fun H locs cells slots ls rest t v a cell i hok hcell harr hvm hin kk => by
      simp only [Bool.and_eq_true, beq_iff_eq] at hok
      obtain ⟨ht, hv⟩ := hok
      subst ht
      cases v with
      | int x => exact W.iast hx hb hcell harr hvm hin rfl rfl hd kk
      | _ => cases hv) (fun t v hok => by
      simp only [Bool.and_eq_true, beq_iff_eq] at hok
      omega) h8 kS
  | lastore  =>
    have h : mc_n (n == 1) (mc_ast kt (fun t v => t == 1 && mc_isL v) (fun _ v => v) pc L st M) = some (.inl S) := h
    obtain ⟨hn, h8⟩ := mc_n_t h
    have hn : n = 1 := by simpa using hn
    subst hn
    exact mc_r_ast C (fun H locs cells slots ls rest t v a cell i hok hcell harr hvm hin kk => by
      simp only [Bool.and_eq_true, beq_iff_eq] at hok
      obtain ⟨ht, hv⟩ := hok
      subst ht
      cases v with
      | long x => exact W.last hx hb hcell harr hvm hin rfl rfl hd kk
      | _ => cases hv) (fun t v hok => by
      simp only [Bool.and_eq_true, beq_iff_eq] at hok
      omega) h8 kS
  | bastore  =>
    have h : mc_n (n == 1) (mc_ast kt (fun t v => (t == 2 || t == 3) && mc_isI v) (fun t v => narrow (mc_ty t) v) pc L st M) = some (.inl S) := h
    obtain ⟨hn, h8⟩ := mc_n_t h
    have hn : n = 1 := by simpa using hn
    subst hn
    exact mc_r_ast C (fun H locs cells slots ls rest t v a cell i hok hcell harr hvm hin kk => by
      simp only [Bool.and_eq_true, Bool.or_eq_true, beq_iff_eq] at hok
      obtain ⟨ht, hv⟩ := hok
      cases v with
      | int x =>
        rcases ht with ht | ht <;> subst ht
        · exact W.bast hx hb hcell harr hvm hin rfl rfl hd kk
        · exact W.zast hx hb hcell harr hvm hin rfl rfl hd kk
      | _ => cases hv) (fun t v hok => by
      simp only [Bool.and_eq_true, Bool.or_eq_true, beq_iff_eq] at hok
      omega) h8 kS
  | aastore  =>
    have h : mc_n (n == 1) (mc_ast kt (mc_isP M) (fun _ v => v) pc L st M) = some (.inl S) := h
    obtain ⟨hn, h8⟩ := mc_n_t h
    have hn : n = 1 := by simpa using hn
    subst hn
    exact mc_r_aast C hd h8 kS
  | arraylength  =>
    have h : mc_n (n == 1) (mc_len kt pc L st M) = some (.inl S) := h
    obtain ⟨hn, h8⟩ := mc_n_t h
    have hn : n = 1 := by simpa using hn
    subst hn
    exact mc_r_len C hd h8 kS
  | newarray a =>
    have h : mc_n (n == 2) (mc_newa a pc L st M) = some (.inl S) := h
    obtain ⟨hn, h8⟩ := mc_n_t h
    have hn : n = 2 := by simpa using hn
    subst hn
    exact mc_r_newa C hd h8 hR kS
  | anewarray i =>
    have h : mc_n (n == 3) (mc_anew own i pc L st M) = some (.inl S) := h
    obtain ⟨hn, h8⟩ := mc_n_t h
    have hn : n = 3 := by simpa using hn
    subst hn
    exact mc_r_anew C hd h8 hR kS
  | multianewarray i j =>
    match j, hd, h with
    | 2, hd, h =>
      have h : mc_n (n == 4) (mc_mna own i pc L st M) = some (.inl S) := h
      obtain ⟨hn, h8⟩ := mc_n_t h
      have hn : n = 4 := by simpa using hn
      subst hn
      exact mc_r_mna C hd h8 hR kS
    | 0, hd, h => cases h
    | 1, hd, h => cases h
    | j + 3, hd, h => cases h
  | new i =>
    have h : mc_n (n == 3) (mc_new own i pc L st M) = some (.inl S) := h
    obtain ⟨hn, h8⟩ := mc_n_t h
    have hn : n = 3 := by simpa using hn
    subst hn
    exact mc_r_new C hd h8 hR kS
  | getstatic i =>
    have h : mc_n (n == 3) (mc_gs own i pc L st M) = some (.inl S) := h
    obtain ⟨hn, h8⟩ := mc_n_t h
    have hn : n = 3 := by simpa using hn
    subst hn
    exact mc_r_gs C hd h8 kS
  | ldc i =>
    have h : mc_n (n == 2) (mc_ldc own i 2 pc L st M) = some (.inl S) := h
    obtain ⟨hn, h8⟩ := mc_n_t h
    have hn : n = 2 := by simpa using hn
    subst hn
    exact mc_r_ldc C hd h8 kS
  | ldc_w i =>
    have h : mc_n (n == 3) (mc_ldc own i 3 pc L st M) = some (.inl S) := h
    obtain ⟨hn, h8⟩ := mc_n_t h
    have hn : n = 3 := by simpa using hn
    subst hn
    exact mc_r_ldcw C hd h8 kS
  | ldc2_w i =>
    have h : mc_n (n == 3) (mc_ldc2 own i pc L st M) = some (.inl S) := h
    obtain ⟨hn, h8⟩ := mc_n_t h
    have hn : n = 3 := by simpa using hn
    subst hn
    exact mc_r_ldc2 C hd h8 kS
  | tableswitch d lo hi offs =>
    have h8 : mc_tsw d lo hi offs pc L st M = some (.inl S) := h
    exact mc_r_tsw C hd h8 kS
  | invokevirtual i =>
    have h : mc_n (n == 3) (mc_or (mc_cal call own 1 i pc L st M) (mc_prim own i pc L st M)) = some (.inl S) := h
    obtain ⟨hn, h8⟩ := mc_n_t h
    have hn : n = 3 := by simpa using hn
    subst hn
    exact (mc_or_t h8).elim (fun h => mc_r_calV C IH hF hd h hR kS) (fun h => mc_r_prim C hF hd h hR kS)
  | invokestatic i =>
    have h : mc_n (n == 3) (mc_or (mc_cal call own 0 i pc L st M) (mc_math own i pc L st M)) = some (.inl S) := h
    obtain ⟨hn, h8⟩ := mc_n_t h
    have hn : n = 3 := by simpa using hn
    subst hn
    exact (mc_or_t h8).elim (fun h => mc_r_calS C IH hF hd h hR kS) (fun h => mc_r_math C hF hd h hR kS)
  | invokespecial i =>
    have h : mc_n (n == 3) (mc_or (mc_cal call own 2 i pc L st M) (mc_obj own i pc L st M)) = some (.inl S) := h
    obtain ⟨hn, h8⟩ := mc_n_t h
    have hn : n = 3 := by simpa using hn
    subst hn
    exact (mc_or_t h8).elim (fun h => mc_r_calI C IH (fun k q => mc_void) hF hd h hR kS) (fun h => mc_r_obj C hF hd h kS)
  | ireturn  =>
    have h : mc_n (n == 1) (mc_ret ret st M) = some (.inl S) := h
    obtain ⟨hn, h8⟩ := mc_n_t h
    have hn : n = 1 := by simpa using hn
    subst hn
    exact absurd h8 mc_retX.1
  | lreturn  =>
    have h : mc_n (n == 1) (mc_retL ret st M) = some (.inl S) := h
    obtain ⟨hn, h8⟩ := mc_n_t h
    have hn : n = 1 := by simpa using hn
    subst hn
    exact absurd h8 mc_retX.2.1
  | areturn  =>
    have h : mc_n (n == 1) (mc_retA ret st M) = some (.inl S) := h
    obtain ⟨hn, h8⟩ := mc_n_t h
    have hn : n = 1 := by simpa using hn
    subst hn
    exact absurd h8 mc_retX.2.2.1
  | return_  =>
    have h : mc_n (n == 1) (mc_retV ret st M) = some (.inl S) := h
    obtain ⟨hn, h8⟩ := mc_n_t h
    have hn : n = 1 := by simpa using hn
    subst hn
    exact absurd h8 mc_retX.2.2.2
  | _ => cases h
end MC7
