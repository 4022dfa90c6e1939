/-! MORE LOCALS CHANGE NO RUN (own work, wip/gen2/loc.py) -/
def wl_le (L L' : List (Nat × Value)) : Prop := (∀ q ∈ L, q ∈ L') ∧ (L'.map Prod.fst).Nodup
theorem mc_find_nd : ∀ {L : List (Nat × Value)} {i : Nat} {v : Value}, (L.map Prod.fst).Nodup → (i, v) ∈ L → mc_find L i = some v
  | [], _, _, _, h => absurd h List.not_mem_nil
  | q :: r, i, v, hn, h => by
    rw [List.map_cons, List.nodup_cons] at hn
    unfold mc_find
    rcases List.mem_cons.mp h with h | h
    · subst h
      rw [if_pos rfl]
    · split
      · next e =>
        exact absurd (List.mem_map.mpr ⟨(i, v), h, e.symm⟩) hn.1
      · exact mc_find_nd hn.2 h
theorem wl_le.find {L L' : List (Nat × Value)} (h : wl_le L L') {i : Nat} {v : Value} (hf : mc_find L i = some v) : mc_find L' i = some v := mc_find_nd h.2 (h.1 _ (mc_find_mem hf))
theorem wl_n {L : List (Nat × Value)} : ∀ q ∈ ([] : List (Nat × Value)), q ∈ L := fun _ h => absurd h List.not_mem_nil
theorem wl_c {L L' : List (Nat × Value)} {i : Nat} {v : Value} (h : mc_find L' i = some v) (t : ∀ q ∈ L, q ∈ L') : ∀ q ∈ (i, v) :: L, q ∈ L' := fun q hq => by
  rcases List.mem_cons.mp hq with hq | hq
  · subst hq
    exact mc_find_mem h
  · exact t q hq
theorem wl_nd {L : List (Nat × Value)} (p : Nat × Value → Bool) (h : (L.map Prod.fst).Nodup) : ((L.filter p).map Prod.fst).Nodup := List.Nodup.sublist (List.Sublist.map _ List.filter_sublist) h
theorem wl_s1 {L L' : List (Nat × Value)} (h : wl_le L L') (i : Nat) (v : Value) : wl_le (mc_s1 L i v) (mc_s1 L' i v) := by
  unfold mc_s1
  refine ⟨fun q hq => ?_, ?_⟩
  · rcases List.mem_cons.mp hq with hq | hq
    · rw [hq]
      exact List.mem_cons_self
    · have h1 := List.mem_filter.mp hq
      exact List.mem_cons_of_mem _ (List.mem_filter.mpr ⟨h.1 q h1.1, h1.2⟩)
  · rw [List.map_cons, List.nodup_cons]
    refine ⟨fun hm => ?_, wl_nd _ h.2⟩
    obtain ⟨q, h1, h2⟩ := List.mem_map.mp hm
    have h3 := (List.mem_filter.mp h1).2
    have h4 : q.1 = i := h2
    simp [h4] at h3
theorem wl_s2 {L L' : List (Nat × Value)} (h : wl_le L L') (i : Nat) (v : Value) : wl_le (mc_s2 L i v) (mc_s2 L' i v) := by
  unfold mc_s2
  refine ⟨fun q hq => ?_, ?_⟩
  · rcases List.mem_cons.mp hq with hq | hq
    · rw [hq]
      exact List.mem_cons_self
    · have h1 := List.mem_filter.mp hq
      exact List.mem_cons_of_mem _ (List.mem_filter.mpr ⟨h.1 q h1.1, h1.2⟩)
  · rw [List.map_cons, List.nodup_cons]
    refine ⟨fun hm => ?_, wl_nd _ h.2⟩
    obtain ⟨q, h1, h2⟩ := List.mem_map.mp hm
    have h3 := (List.mem_filter.mp h1).2
    have h4 : q.1 = i := h2
    simp [h4] at h3
section WLC

variable {kt : Nat → Option mc_E} {own nL : Nat} {ini : Bool} {ret : Option FieldType} {cc : ByteArray} {call : Nat → List Value → mc_M → Option mc_R}
/-- what a step from more locals comes to -/
def wl_x (a b : mc_S ⊕ mc_R) : Prop := match a, b with
  | .inl S, .inl S' => S.1 = S'.1 ∧ wl_le S.2.1 S'.2.1 ∧ S.2.2 = S'.2.2
  | .inr w, .inr w' => w = w'
  | _, _ => False
def wl_o (a b : mc_O) : Prop := ∀ r, a = some r → ∃ r', b = some r' ∧ wl_x r r'
variable {pc : Nat} {L L' : List (Nat × Value)} {st : List Value} {M : mc_M} {off : Int}
theorem wl_go {pc : Nat} {L L' : List (Nat × Value)} {st : List Value} {M : mc_M} (h : wl_le L L') : wl_o (mc_go pc L st M) (mc_go pc L' st M) := fun r hr => by
  cases hr
  exact ⟨_, rfl, rfl, h, rfl⟩
theorem wl_nn {b : Bool} {o o' : mc_O} (h : wl_o o o') : wl_o (mc_n b o) (mc_n b o') := by
  cases b with
  | true => exact h
  | false => intro r hr; cases hr
theorem wl_none {o : mc_O} : wl_o none o := fun r hr => by cases hr
theorem wl_mor {a a' b b' : mc_O} (ha : wl_o a a') (hb : wl_o b b') (hn : a = none → a' = none) : wl_o (mc_or a b) (mc_or a' b') := by
  intro r hr
  unfold mc_or at hr ⊢
  cases h1 : a with
  | some x =>
    rw [h1] at hr
    obtain ⟨y, h2, h3⟩ := ha x h1
    cases hr
    rw [h2]
    exact ⟨y, rfl, h3⟩
  | none =>
    rw [h1] at hr
    rw [hn h1]
    exact hb r hr
theorem wl_jp (h : wl_le L L') : wl_o (mc_jp pc off L st M) (mc_jp pc off L' st M) := by
  unfold mc_jp
  split
  · exact wl_go h
  · exact wl_none
theorem wl_br {b : Bool} (h : wl_le L L') : wl_o (mc_br b pc off L st M) (mc_br b pc off L' st M) := by
  unfold mc_br
  split
  · cases b
    · exact wl_go h
    · exact wl_go h
  · exact wl_none
theorem wl_ld {ok : Value → Bool} {i d : Nat} (h : wl_le L L') : wl_o (mc_ld ok i d pc L st M) (mc_ld ok i d pc L' st M) := by
  intro r hr
  unfold mc_ld at hr ⊢
  split at hr
  · next v hv =>
    rw [h.find hv]
    exact wl_nn (wl_go h) r hr
  · cases hr
theorem wl_inc {nL i : Nat} {k : Int} (h : wl_le L L') : wl_o (mc_inc nL i k pc L st M) (mc_inc nL i k pc L' st M) := by
  intro r hr
  unfold mc_inc at hr ⊢
  split at hr
  · next x hv =>
    rw [h.find hv]
    exact wl_nn (wl_go (wl_s1 h i _)) r hr
  · cases hr
theorem wl_sv {ok : Value → Bool} {nL i d : Nat} (h : wl_le L L') : wl_o (mc_sv ok nL i d pc L st M) (mc_sv ok nL i d pc L' st M) := by
  unfold mc_sv
  split
  · exact wl_nn (wl_go (wl_s1 h i _))
  · exact wl_none
theorem wl_svL {nL i d : Nat} (h : wl_le L L') : wl_o (mc_svL nL i d pc L st M) (mc_svL nL i d pc L' st M) := by
  unfold mc_svL
  split
  · exact wl_nn (wl_go (wl_s2 h i _))
  · exact wl_none
theorem wl_ii2 {f : Int32 → Int32 → Option Int32} (h : wl_le L L') : wl_o (mc_ii2 f pc L st M) (mc_ii2 f pc L' st M) := by
  unfold mc_ii2
  repeat' split
  all_goals first | exact wl_none | exact wl_go h | exact wl_nn (wl_go h) | exact wl_br h | exact wl_jp h
theorem wl_ll2 {f : Int64 → Int64 → Option Int64} (h : wl_le L L') : wl_o (mc_ll2 f pc L st M) (mc_ll2 f pc L' st M) := by
  unfold mc_ll2
  repeat' split
  all_goals first | exact wl_none | exact wl_go h | exact wl_nn (wl_go h) | exact wl_br h | exact wl_jp h
theorem wl_li2 {f : Int64 → Int32 → Int64} (h : wl_le L L') : wl_o (mc_li2 f pc L st M) (mc_li2 f pc L' st M) := by
  unfold mc_li2
  repeat' split
  all_goals first | exact wl_none | exact wl_go h | exact wl_nn (wl_go h) | exact wl_br h | exact wl_jp h
theorem wl_cmp (h : wl_le L L') : wl_o (mc_cmp pc L st M) (mc_cmp pc L' st M) := by
  unfold mc_cmp
  repeat' split
  all_goals first | exact wl_none | exact wl_go h | exact wl_nn (wl_go h) | exact wl_br h | exact wl_jp h
theorem wl_i1 {f : Int32 → Value} (h : wl_le L L') : wl_o (mc_i1 f pc L st M) (mc_i1 f pc L' st M) := by
  unfold mc_i1
  repeat' split
  all_goals first | exact wl_none | exact wl_go h | exact wl_nn (wl_go h) | exact wl_br h | exact wl_jp h
theorem wl_l1 {f : Int64 → Value} (h : wl_le L L') : wl_o (mc_l1 f pc L st M) (mc_l1 f pc L' st M) := by
  unfold mc_l1
  repeat' split
  all_goals first | exact wl_none | exact wl_go h | exact wl_nn (wl_go h) | exact wl_br h | exact wl_jp h
theorem wl_ic2 {f : Int32 → Int32 → Bool} (h : wl_le L L') : wl_o (mc_ic2 f pc off L st M) (mc_ic2 f pc off L' st M) := by
  unfold mc_ic2
  repeat' split
  all_goals first | exact wl_none | exact wl_go h | exact wl_nn (wl_go h) | exact wl_br h | exact wl_jp h
theorem wl_ic1 {f : Int32 → Bool} (h : wl_le L L') : wl_o (mc_ic1 f pc off L st M) (mc_ic1 f pc off L' st M) := by
  unfold mc_ic1
  repeat' split
  all_goals first | exact wl_none | exact wl_go h | exact wl_nn (wl_go h) | exact wl_br h | exact wl_jp h
theorem wl_icn {f : Bool} (h : wl_le L L') : wl_o (mc_icn f pc off L st M) (mc_icn f pc off L' st M) := by
  unfold mc_icn
  repeat' split
  all_goals first | exact wl_none | exact wl_go h | exact wl_nn (wl_go h) | exact wl_br h | exact wl_jp h
theorem wl_ica {f : Bool} (h : wl_le L L') : wl_o (mc_ica f pc off L st M) (mc_ica f pc off L' st M) := by
  unfold mc_ica
  repeat' split
  all_goals first | exact wl_none | exact wl_go h | exact wl_nn (wl_go h) | exact wl_br h | exact wl_jp h
theorem wl_dup (h : wl_le L L') : wl_o (mc_dup pc L st M) (mc_dup pc L' st M) := by
  unfold mc_dup
  repeat' split
  all_goals first | exact wl_none | exact wl_go h | exact wl_nn (wl_go h) | exact wl_br h | exact wl_jp h
theorem wl_pop (h : wl_le L L') : wl_o (mc_pop pc L st M) (mc_pop pc L' st M) := by
  unfold mc_pop
  repeat' split
  all_goals first | exact wl_none | exact wl_go h | exact wl_nn (wl_go h) | exact wl_br h | exact wl_jp h
theorem wl_dup2 (h : wl_le L L') : wl_o (mc_dup2 pc L st M) (mc_dup2 pc L' st M) := by
  unfold mc_dup2
  repeat' split
  all_goals first | exact wl_none | exact wl_go h | exact wl_nn (wl_go h) | exact wl_br h | exact wl_jp h
theorem wl_pop2 (h : wl_le L L') : wl_o (mc_pop2 pc L st M) (mc_pop2 pc L' st M) := by
  unfold mc_pop2
  repeat' split
  all_goals first | exact wl_none | exact wl_go h | exact wl_nn (wl_go h) | exact wl_br h | exact wl_jp h
theorem wl_getf {idx : Nat} (h : wl_le L L') : wl_o (mc_getf kt own idx pc L st M) (mc_getf kt own idx pc L' st M) := by
  unfold mc_getf
  repeat' split
  all_goals first | exact wl_none | exact wl_go h | exact wl_nn (wl_go h) | exact wl_br h | exact wl_jp h
theorem wl_putf {idx : Nat} (h : wl_le L L') : wl_o (mc_putf own ini idx pc L st M) (mc_putf own ini idx pc L' st M) := by
  unfold mc_putf
  repeat' split
  all_goals first | exact wl_none | exact wl_go h | exact wl_nn (wl_go h) | exact wl_br h | exact wl_jp h
theorem wl_ald {ok : Nat → Bool} (h : wl_le L L') : wl_o (mc_ald kt ok pc L st M) (mc_ald kt ok pc L' st M) := by
  unfold mc_ald
  repeat' split
  all_goals first | exact wl_none | exact wl_go h | exact wl_nn (wl_go h) | exact wl_br h | exact wl_jp h
theorem wl_ast {ok : Nat → Value → Bool} {w : Nat → Value → Value} (h : wl_le L L') : wl_o (mc_ast kt ok w pc L st M) (mc_ast kt ok w pc L' st M) := by
  unfold mc_ast
  repeat' split
  all_goals first | exact wl_none | exact wl_go h | exact wl_nn (wl_go h) | exact wl_br h | exact wl_jp h
theorem wl_len (h : wl_le L L') : wl_o (mc_len kt pc L st M) (mc_len kt pc L' st M) := by
  unfold mc_len
  repeat' split
  all_goals first | exact wl_none | exact wl_go h | exact wl_nn (wl_go h) | exact wl_br h | exact wl_jp h
theorem wl_newa {a : ArrayType} (h : wl_le L L') : wl_o (mc_newa a pc L st M) (mc_newa a pc L' st M) := by
  unfold mc_newa
  repeat' split
  all_goals first | exact wl_none | exact wl_go h | exact wl_nn (wl_go h) | exact wl_br h | exact wl_jp h
theorem wl_anew {idx : Nat} (h : wl_le L L') : wl_o (mc_anew own idx pc L st M) (mc_anew own idx pc L' st M) := by
  unfold mc_anew
  repeat' split
  all_goals first | exact wl_none | exact wl_go h | exact wl_nn (wl_go h) | exact wl_br h | exact wl_jp h
theorem wl_mna {idx : Nat} (h : wl_le L L') : wl_o (mc_mna own idx pc L st M) (mc_mna own idx pc L' st M) := by
  unfold mc_mna
  repeat' split
  all_goals first | exact wl_none | exact wl_go h | exact wl_nn (wl_go h) | exact wl_br h | exact wl_jp h
theorem wl_new {idx : Nat} (h : wl_le L L') : wl_o (mc_new own idx pc L st M) (mc_new own idx pc L' st M) := by
  unfold mc_new
  repeat' split
  all_goals first | exact wl_none | exact wl_go h | exact wl_nn (wl_go h) | exact wl_br h | exact wl_jp h
theorem wl_gs {idx : Nat} (h : wl_le L L') : wl_o (mc_gs own idx pc L st M) (mc_gs own idx pc L' st M) := by
  unfold mc_gs
  repeat' split
  all_goals first | exact wl_none | exact wl_go h | exact wl_nn (wl_go h) | exact wl_br h | exact wl_jp h
theorem wl_ldc {idx d : Nat} (h : wl_le L L') : wl_o (mc_ldc own idx d pc L st M) (mc_ldc own idx d pc L' st M) := by
  unfold mc_ldc
  repeat' split
  all_goals first | exact wl_none | exact wl_go h | exact wl_nn (wl_go h) | exact wl_br h | exact wl_jp h
theorem wl_ldc2 {idx : Nat} (h : wl_le L L') : wl_o (mc_ldc2 own idx pc L st M) (mc_ldc2 own idx pc L' st M) := by
  unfold mc_ldc2
  repeat' split
  all_goals first | exact wl_none | exact wl_go h | exact wl_nn (wl_go h) | exact wl_br h | exact wl_jp h
theorem wl_tsw {dflt lo hi : Int} {offs : Array Int} (h : wl_le L L') : wl_o (mc_tsw dflt lo hi offs pc L st M) (mc_tsw dflt lo hi offs pc L' st M) := by
  unfold mc_tsw
  repeat' split
  all_goals first | exact wl_none | exact wl_go h | exact wl_nn (wl_go h) | exact wl_br h | exact wl_jp h
theorem wl_obj {idx : Nat} (h : wl_le L L') : wl_o (mc_obj own idx pc L st M) (mc_obj own idx pc L' st M) := by
  unfold mc_obj
  repeat' split
  all_goals first | exact wl_none | exact wl_go h | exact wl_nn (wl_go h) | exact wl_br h | exact wl_jp h
theorem wl_math {idx : Nat} (h : wl_le L L') : wl_o (mc_math own idx pc L st M) (mc_math own idx pc L' st M) := by
  unfold mc_math
  repeat' split
  all_goals first | exact wl_none | exact wl_go h | exact wl_nn (wl_go h) | exact wl_br h | exact wl_jp h
theorem wl_prim {idx : Nat} (h : wl_le L L') : wl_o (mc_prim own idx pc L st M) (mc_prim own idx pc L' st M) := by
  unfold mc_prim
  repeat' split
  all_goals first | exact wl_none | exact wl_go h | exact wl_nn (wl_go h) | exact wl_br h | exact wl_jp h
theorem wl_cal {sort idx : Nat} (h : wl_le L L') : wl_o (mc_cal call own sort idx pc L st M) (mc_cal call own sort idx pc L' st M) := by
  unfold mc_cal
  cases mc_find (mc_ml.getD own []) idx with
  | none => exact wl_none
  | some e =>
    dsimp only
    cases mc_mt e.1 with
    | none => exact wl_none
    | some q =>
      dsimp only
      cases call e.1 ((st.take (if sort = 0 then q.2.2.2.2.2.1 else q.2.2.2.2.2.1 + 1)).reverse) M with
      | none => exact wl_none
      | some w => exact wl_nn (wl_go h)
theorem wl_cal_none {sort idx : Nat} (h : mc_cal call own sort idx pc L st M = none) : mc_cal call own sort idx pc L' st M = none := by
  unfold mc_cal at h ⊢
  cases h1 : mc_find (mc_ml.getD own []) idx with
  | none => rfl
  | some e =>
    rw [h1] at h
    dsimp only at h ⊢
    cases h2 : mc_mt e.1 with
    | none => rfl
    | some q =>
      rw [h2] at h
      dsimp only at h ⊢
      cases h3 : call e.1 ((st.take (if sort = 0 then q.2.2.2.2.2.1 else q.2.2.2.2.2.1 + 1)).reverse) M with
      | none => rfl
      | some w =>
        rw [h3] at h
        dsimp only at h ⊢
        revert h
        unfold mc_n
        split
        · intro h; cases h
        · intro _; rfl
theorem wl_ret {o : mc_O} (ho : ∀ S, o ≠ some (.inl S)) : wl_o o o := fun r hr => by
  match r, hr with
  | .inl S, hr => exact absurd hr (ho S)
  | .inr w, hr => exact ⟨.inr w, hr, rfl⟩
set_option maxHeartbeats 4000000 in
theorem wl_step {x : Instr} {n : Nat} (h : wl_le L L') : wl_o (mc_step kt call own nL ini ret x n (pc, L, st, M)) (mc_step kt call own nL ini ret x n (pc, L', st, M)) := by
  cases x with
  | iconst i => exact wl_nn (wl_go h)
  | bipush i => exact wl_nn (wl_go h)
  | sipush i => exact wl_nn (wl_go h)
  | lconst i => exact wl_nn (wl_go h)
  | aconst_null  => exact wl_nn (wl_go h)
  | iload_n i => exact wl_nn (wl_ld h)
  | iload i => exact wl_nn (wl_ld h)
  | lload_n i => exact wl_nn (wl_ld h)
  | lload i => exact wl_nn (wl_ld h)
  | aload_n i => exact wl_nn (wl_ld h)
  | aload i => exact wl_nn (wl_ld h)
  | istore_n i => exact wl_nn (wl_sv h)
  | istore i => exact wl_nn (wl_sv h)
  | astore_n i => exact wl_nn (wl_sv h)
  | astore i => exact wl_nn (wl_sv h)
  | lstore_n i => exact wl_nn (wl_svL h)
  | lstore i => exact wl_nn (wl_svL h)
  | iinc i k => exact wl_nn (wl_inc h)
  | iadd  => exact wl_nn (wl_ii2 h)
  | isub  => exact wl_nn (wl_ii2 h)
  | imul  => exact wl_nn (wl_ii2 h)
  | iand  => exact wl_nn (wl_ii2 h)
  | ior  => exact wl_nn (wl_ii2 h)
  | ixor  => exact wl_nn (wl_ii2 h)
  | ishl  => exact wl_nn (wl_ii2 h)
  | ishr  => exact wl_nn (wl_ii2 h)
  | iushr  => exact wl_nn (wl_ii2 h)
  | idiv  => exact wl_nn (wl_ii2 h)
  | irem  => exact wl_nn (wl_ii2 h)
  | ladd  => exact wl_nn (wl_ll2 h)
  | lsub  => exact wl_nn (wl_ll2 h)
  | lmul  => exact wl_nn (wl_ll2 h)
  | land  => exact wl_nn (wl_ll2 h)
  | lor  => exact wl_nn (wl_ll2 h)
  | ldiv  => exact wl_nn (wl_ll2 h)
  | lrem  => exact wl_nn (wl_ll2 h)
  | lshl  => exact wl_nn (wl_li2 h)
  | lshr  => exact wl_nn (wl_li2 h)
  | lcmp  => exact wl_nn (wl_cmp h)
  | ineg  => exact wl_nn (wl_i1 h)
  | i2l  => exact wl_nn (wl_i1 h)
  | i2b  => exact wl_nn (wl_i1 h)
  | l2i  => exact wl_nn (wl_l1 h)
  | if_icmp cond off =>
    cases cond with
    | eq => exact wl_nn (wl_ic2 h)
    | ne => exact wl_nn (wl_ic2 h)
    | lt => exact wl_nn (wl_ic2 h)
    | ge => exact wl_nn (wl_ic2 h)
    | gt => exact wl_nn (wl_ic2 h)
    | le => exact wl_nn (wl_ic2 h)
  | ifCond cond off =>
    cases cond with
    | eq => exact wl_nn (wl_ic1 h)
    | ne => exact wl_nn (wl_ic1 h)
    | lt => exact wl_nn (wl_ic1 h)
    | ge => exact wl_nn (wl_ic1 h)
    | gt => exact wl_nn (wl_ic1 h)
    | le => exact wl_nn (wl_ic1 h)
  | ifnull off => exact wl_nn (wl_icn h)
  | ifnonnull off => exact wl_nn (wl_icn h)
  | if_acmp cond off =>
    cases cond with
    | eq => exact wl_nn (wl_ica h)
    | ne => exact wl_nn (wl_ica h)
  | goto off => exact wl_nn (wl_jp h)
  | dup  => exact wl_nn (wl_dup h)
  | pop  => exact wl_nn (wl_pop h)
  | dup2  => exact wl_nn (wl_dup2 h)
  | pop2  => exact wl_nn (wl_pop2 h)
  | getfield i => exact wl_nn (wl_getf h)
  | putfield i => exact wl_nn (wl_putf h)
  | iaload  => exact wl_nn (wl_ald h)
  | laload  => exact wl_nn (wl_ald h)
  | baload  => exact wl_nn (wl_ald h)
  | aaload  => exact wl_nn (wl_ald h)
  | iastore  => exact wl_nn (wl_ast h)
  | lastore  => exact wl_nn (wl_ast h)
  | bastore  => exact wl_nn (wl_ast h)
  | aastore  => exact wl_nn (wl_ast h)
  | arraylength  => exact wl_nn (wl_len h)
  | newarray a => exact wl_nn (wl_newa h)
  | anewarray i => exact wl_nn (wl_anew h)
  | multianewarray i j =>
    match j with
    | 2 => exact wl_nn (wl_mna h)
    | 0 => exact wl_none
    | 1 => exact wl_none
    | j + 3 => exact wl_none
  | new i => exact wl_nn (wl_new h)
  | getstatic i => exact wl_nn (wl_gs h)
  | ldc i => exact wl_nn (wl_ldc h)
  | ldc_w i => exact wl_nn (wl_ldc h)
  | ldc2_w i => exact wl_nn (wl_ldc2 h)
  | tableswitch d lo hi offs => exact wl_tsw h
  | invokevirtual i => exact wl_nn (wl_mor (wl_cal h) (wl_prim h) wl_cal_none)
  | invokestatic i => exact wl_nn (wl_mor (wl_cal h) (wl_math h) wl_cal_none)
  | invokespecial i => exact wl_nn (wl_mor (wl_cal h) (wl_obj h) wl_cal_none)
  | ireturn => exact wl_nn (wl_ret (fun S h => mc_retX.1 h))
  | lreturn => exact wl_nn (wl_ret (fun S h => mc_retX.2.1 h))
  | areturn => exact wl_nn (wl_ret (fun S h => mc_retX.2.2.1 h))
  | return_ => exact wl_nn (wl_ret (fun S h => mc_retX.2.2.2 h))
  | _ => exact wl_none
theorem wl_loop : ∀ (n : Nat) (S S' : mc_S) (w : mc_R), S.1 = S'.1 → wl_le S.2.1 S'.2.1 → S.2.2 = S'.2.2 → mc_loop kt call own nL ini ret cc n S = some w → mc_loop kt call own nL ini ret cc n S' = some w
  | 0, _, _, _, _, _, _, h => by cases h
  | n + 1, (pc, L, st, M), (pc', L', st', M'), w, h1, h2, h3, h => by
    cases (show pc = pc' from h1)
    cases (show (st, M) = (st', M') from h3)
    unfold mc_loop at h ⊢
    dsimp only at h ⊢
    split at h
    · next x k hd =>
      split at h
      · next S1 hs =>
        obtain ⟨r', h4, h5⟩ := wl_step (kt := kt) (own := own) (nL := nL) (ini := ini) (ret := ret) (call := call) (x := x) (n := k) (pc := pc) (st := st) (M := M) (L := L) (L' := L') h2 _ hs
        match r', h4, h5 with
        | .inl S2, h4, h5 =>
          rw [h4]
          exact wl_loop n S1 S2 w h5.1 h5.2.1 h5.2.2 h
        | .inr w2, h4, h5 => exact h5.elim
      · next w1 hs =>
        obtain ⟨r', h4, h5⟩ := wl_step (kt := kt) (own := own) (nL := nL) (ini := ini) (ret := ret) (call := call) (x := x) (n := k) (pc := pc) (st := st) (M := M) (L := L) (L' := L') h2 _ hs
        match r', h4, h5 with
        | .inl S2, h4, h5 => exact h5.elim
        | .inr w2, h4, h5 =>
          rw [h4]
          cases (show w1 = w2 from h5)
          exact h
      · cases h
    · cases h
end WLC
/-- from more locals -/
theorem wp_loc {kt : Nat → Option mc_E} {d k pc : Nat} {L L' : List (Nat × Value)} {st : List Value} {T : wq_T} {H : wq_H} {Q : Option Value → wq_T → wq_H → Prop} (h1 : ∀ q ∈ L, q ∈ L') (h2 : (L'.map Prod.fst).Nodup) (h : wp kt d k pc L st T H Q) : wp kt d k pc L' st T H Q := fun M hM => by
  obtain ⟨F, n, w, T', H', h3, h4, h5⟩ := h M hM
  refine ⟨F, n, w, T', H', ?_, h4, h5⟩
  unfold wq_lp at h3 ⊢
  split at h3
  · exact wl_loop n (pc, L, st, M) (pc, L', st, M) w rfl ⟨h1, h2⟩ rfl h3
  · cases h3
