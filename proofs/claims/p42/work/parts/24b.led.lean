/-! THE ONE METHOD THAT THROWS: it answers, or comes to its 'new' with the memory that it found (own work) -/
def mc_seg (kt : Nat → Option mc_E) (call : Nat → List Value → mc_M → Option mc_R) (own nL : Nat) (ini : Bool) (ret : Option FieldType) (cc : ByteArray) : Nat → mc_S → Option mc_S
  | 0, S => some S
  | n + 1, S => match decode cc S.1 with
    | .ok (x, k) => match mc_step kt call own nL ini ret x k S with
      | some (.inl S1) => mc_seg kt call own nL ini ret cc n S1
      | _ => none
    | .error _ => none
theorem mc_seg_mono {kt : Nat → Option mc_E} {own nL : Nat} {ini : Bool} {ret : Option FieldType} {cc : ByteArray} {call call' : Nat → List Value → mc_M → Option mc_R} (hc : ∀ (k : Nat) (as : List Value) (M : mc_M) (w : mc_R), call k as M = some w → call' k as M = some w) : ∀ (n : Nat) (S S' : mc_S), mc_seg kt call own nL ini ret cc n S = some S' → mc_seg kt call' own nL ini ret cc n S = some S'
  | 0, _, _, h => h
  | n + 1, S, S', h => by
    unfold mc_seg at h ⊢
    split at h
    · next x k hd =>
      split at h
      · next S1 hs =>
        rw [mc_step_mono hc hs]
        exact mc_seg_mono hc n S1 S' h
      · cases h
    · cases h
def wq_sg (kt : Nat → Option mc_E) (F d k n : Nat) (S : mc_S) : Option mc_S := match mc_mt k with
  | some q => mc_seg kt (mc_call kt F d) q.1 q.2.2.2.1 (q.2.2.2.2.2.2 == 2) q.2.2.2.2.1 q.2.2.1 n S
  | none => none
/-- from this place method k ends, and Q holds; or it comes to 46, its stack empty, its memory T0, H0 -/
def wpx (T0 : wq_T) (H0 : wq_H) (kt : Nat → Option mc_E) (d k pc : Nat) (L : List (Nat × Value)) (st : List Value) (T : wq_T) (H : wq_H) (Q : Option Value → wq_T → wq_H → Prop) : Prop :=
  ∀ M, wq_R kt M T H → (∃ (F n : Nat) (w : mc_R) (T' : wq_T) (H' : wq_H), wq_lp kt F d k n (pc, L, st, M) = some w ∧ wq_R kt w.2 T' H' ∧ Q w.1 T' H') ∨ ∃ (F n : Nat) (L' : List (Nat × Value)) (M' : mc_M), wq_sg kt F d k n (pc, L, st, M) = some (46, L', [], M') ∧ wq_R kt M' T0 H0
theorem wpx_ret {T0 : wq_T} {H0 : wq_H} {kt : Nat → Option mc_E} {d k pc : Nat} {L : List (Nat × Value)} {st : List Value} {T : wq_T} {H : wq_H} {Q : Option Value → wq_T → wq_H → Prop} (h : wp kt d k pc L st T H Q) : wpx T0 H0 kt d k pc L st T H Q := fun M hM => Or.inl (h M hM)
theorem wpx_stop {kt : Nat → Option mc_E} {d k : Nat} {L : List (Nat × Value)} {T : wq_T} {H : wq_H} {Q : Option Value → wq_T → wq_H → Prop} {E : wq_E} (he : wq_en k = some E) : wpx T H kt d k 46 L [] T H Q := fun M hM => by
  obtain ⟨q, hq, rfl⟩ := wq_en_mt he
  refine Or.inr ⟨0, 0, L, M, ?_, hM⟩
  unfold wq_sg
  rw [hq]
  rfl
theorem wpx_of {T0 : wq_T} {H0 : wq_H} {kt : Nat → Option mc_E} {d k pc : Nat} {L : List (Nat × Value)} {st : List Value} {T : wq_T} {H : wq_H} {Q : Option Value → wq_T → wq_H → Prop} {E : wq_E} {x : Instr} {n : Nat} (he : wq_en k = some E) (hd : mc_cd k pc = some (x, n)) (h : wq_s kt d E x n pc L st T H (fun pc' L' st' T' H' => wpx T0 H0 kt d k pc' L' st' T' H' Q)) : wpx T0 H0 kt d k pc L st T H Q := fun M hM => by
  obtain ⟨q, hq, rfl⟩ := wq_en_mt he
  obtain ⟨F1, pc', L', st', M', T', H', h1, h2, h3⟩ := h M hM
  have hd' := mc_cd_ok hq hd
  rcases h3 M' h2 with ⟨F2, n2, w, T2, H2, h4, h5, h6⟩ | ⟨F2, n2, L2, M2, h4, h5⟩
  · refine Or.inl ⟨max F1 F2, n2 + 1, w, T2, H2, ?_, h5, h6⟩
    unfold wq_lp at h4 ⊢
    rw [hq] at h4 ⊢
    dsimp only at h4 ⊢
    unfold mc_loop
    dsimp only
    rw [hd']
    dsimp only
    rw [mc_step_mono (mc_call_mono (Nat.le_max_left F1 F2) d d (Nat.le_refl _)) h1]
    exact mc_loop_mono (mc_call_mono (Nat.le_max_right F1 F2) d d (Nat.le_refl _)) n2 n2 _ w (Nat.le_refl _) h4
  · refine Or.inr ⟨max F1 F2, n2 + 1, L2, M2, ?_, h5⟩
    unfold wq_sg at h4 ⊢
    rw [hq] at h4 ⊢
    dsimp only at h4 ⊢
    unfold mc_seg
    dsimp only
    rw [hd']
    dsimp only
    rw [mc_step_mono (mc_call_mono (Nat.le_max_left F1 F2) d d (Nat.le_refl _)) h1]
    exact mc_seg_mono (mc_call_mono (Nat.le_max_right F1 F2) d d (Nat.le_refl _)) n2 _ _ h4
/-! StrikeAwake.led(I)I -/
theorem e166 : wq_en 166 = some (0, 4, false, some FieldType.int) := rfl
theorem c166_0 : mc_cd 166 0 = some (.iconst 0, 1) := by decide +kernel
theorem c166_1 : mc_cd 166 1 = some (.istore_n 2, 1) := by decide +kernel
theorem c166_2 : mc_cd 166 2 = some (.iconst 0, 1) := by decide +kernel
theorem c166_3 : mc_cd 166 3 = some (.istore_n 3, 1) := by decide +kernel
theorem c166_4 : mc_cd 166 4 = some (.iload_n 3, 1) := by decide +kernel
theorem c166_5 : mc_cd 166 5 = some (.aload_n 0, 1) := by decide +kernel
theorem c166_6 : mc_cd 166 6 = some (.getfield 51, 3) := by decide +kernel
theorem c166_9 : mc_cd 166 9 = some (.getfield 96, 3) := by decide +kernel
theorem c166_12 : mc_cd 166 12 = some (.if_icmp .ge 34, 3) := by decide +kernel
theorem c166_15 : mc_cd 166 15 = some (.aload_n 0, 1) := by decide +kernel
theorem c166_16 : mc_cd 166 16 = some (.getfield 51, 3) := by decide +kernel
theorem c166_19 : mc_cd 166 19 = some (.getfield 109, 3) := by decide +kernel
theorem c166_22 : mc_cd 166 22 = some (.iload_n 3, 1) := by decide +kernel
theorem c166_23 : mc_cd 166 23 = some (.aaload, 1) := by decide +kernel
theorem c166_24 : mc_cd 166 24 = some (.getfield 317, 3) := by decide +kernel
theorem c166_27 : mc_cd 166 27 = some (.ifCond .eq 13, 3) := by decide +kernel
theorem c166_30 : mc_cd 166 30 = some (.iload_n 2, 1) := by decide +kernel
theorem c166_31 : mc_cd 166 31 = some (.iload_n 1, 1) := by decide +kernel
theorem c166_32 : mc_cd 166 32 = some (.if_icmp .ne 5, 3) := by decide +kernel
theorem c166_35 : mc_cd 166 35 = some (.iload_n 3, 1) := by decide +kernel
theorem c166_36 : mc_cd 166 36 = some (.ireturn, 1) := by decide +kernel
theorem c166_37 : mc_cd 166 37 = some (.iinc 2 1, 3) := by decide +kernel
theorem c166_40 : mc_cd 166 40 = some (.iinc 3 1, 3) := by decide +kernel
theorem c166_43 : mc_cd 166 43 = some (.goto (-39), 3) := by decide +kernel
abbrev q_166 (r0 : Nat) (a1 : Int) (T : wq_T) (H : wq_H) : Option Value → wq_T → wq_H → Prop := fun r T' H' => T = T' ∧ H = H' ∧ ∃ z : Int, some (vI z) = r ∧ ((-2147483648) ≤ z ∧ z ≤ 2147483647)
set_option maxHeartbeats 4000000 in
theorem x_166 {kt : Nat → Option mc_E} {T : wq_T} {H : wq_H} {r0 : Nat} {a1 : Int} (hW : WT T H) (g0 : T.2.2.2 r0 = some 1) (i1 : (-2147483648) ≤ a1 ∧ a1 ≤ 2147483647) : wpx T H kt 0 166 0 [(0, .ref r0), (1, vI a1)] [] T H (q_166 r0 a1 T H) := by
  show wpx _ _ _ _ 166 0 [(0, .ref r0), (1, vI a1)] [] _ H _
  refine wpx_of e166 c166_0 (rw_iconst (pc' := 1) rfl ?_)
  refine wpx_of e166 c166_1 (rw_istore_n (pc' := 2) (z := 0) (L' := [(2, vI 0), (0, .ref r0), (1, vI a1)]) rfl rfl rfl ?_)
  refine wpx_of e166 c166_2 (rw_iconst (pc' := 3) rfl ?_)
  refine wpx_of e166 c166_3 (rw_istore_n (pc' := 4) (z := 0) (L' := [(3, vI 0), (2, vI 0), (0, .ref r0), (1, vI a1)]) rfl rfl rfl ?_)
  have lp242 : ∀ (n243 : Nat) (v245 : Int) (v246 : Int), (0 ≤ v245 ∧ v245 ≤ 6) → (0 ≤ v246 ∧ v246 ≤ 6) → (v246 ≤ v245) → (6 - v245).toNat = n243 → wpx T H kt 0 166 4 [(3, vI v245), (2, vI v246), (0, .ref r0), (1, vI a1)] [] T H (q_166 r0 a1 T H) := by
    intro n243
    induction n243 using Nat.strongRecOn with
    | _ n243 ih244 =>
      intro v245 v246 b249 b250 x251 m252
      refine wpx_of e166 c166_4 (rw_iload_n (pc' := 5) (z := v245) rfl rfl ?_)
      refine wpx_of e166 c166_5 (rw_aload_n (pc' := 6) (v := .ref r0) rfl rfl rfl ?_)
      refine wpx_of e166 c166_6 (xg_R (pc' := 9) lf_0_51 hW g0 sh_1 (by decide) (by decide) ty_1_6 rfl rfl (fun r253 q254 g255 => ?_))
      refine wpx_of e166 c166_9 (xg_I (pc' := 12) lf_0_96 hW g255 sh_27 (by decide) (by decide) ty_27_10 rfl rfl (fun b256 b257 => ?_))
      refine wpx_of e166 c166_12 (rw_icmp_ge (p1 := 46) (p2 := 15) (by decide) rfl ⟨by omega, by omega⟩ ⟨by omega, by omega⟩ (fun c258 => ?_) (fun c258 => ?_))
      · exact wpx_stop e166
      · refine wpx_of e166 c166_15 (rw_aload_n (pc' := 16) (v := .ref r0) rfl rfl rfl ?_)
        refine wpx_of e166 c166_16 (xg_K (pc' := 19) lf_0_51 hW g0 sh_1 (by decide) (by decide) rfl q254 rfl ?_)
        refine wpx_of e166 c166_19 (xg_R (pc' := 22) lf_0_109 hW g255 sh_27 (by decide) (by decide) ty_27_0 rfl rfl (fun r259 q260 g261 => ?_))
        refine wpx_of e166 c166_22 (rw_iload_n (pc' := 23) (z := v245) rfl rfl ?_)
        refine wpx_of e166 c166_23 (xa_R (pc' := 24) (by decide) hW g261 sh_28 (by decide) (ty_28 _) (by omega) (by omega) rfl (fun r262 q263 g264 => ?_))
        refine wpx_of e166 c166_24 (xg_I (pc' := 27) lf_0_317 hW g264 sh_35 (by decide) (by decide) ty_35_13 rfl rfl (fun b265 b266 => ?_))
        refine wpx_of e166 c166_27 (rw_if_eq (p1 := 40) (p2 := 30) (by decide) rfl ⟨by omega, by omega⟩ (fun c267 => ?_) (fun c267 => ?_))
        · refine wpx_of e166 c166_40 (rw_iinc (pc' := 43) (z := v245) (L' := [(3, vI (v245 + 1)), (2, vI v246), (0, .ref r0), (1, vI a1)]) rfl rfl rfl rfl ?_)
          refine wpx_of e166 c166_43 (rw_goto (p1 := 4) (by decide) ?_)
          exact ih244 _ (by omega) (v245 + 1) v246 ⟨by omega, by omega⟩ ⟨by omega, by omega⟩ (by omega) rfl
        · refine wpx_of e166 c166_30 (rw_iload_n (pc' := 31) (z := v246) rfl rfl ?_)
          refine wpx_of e166 c166_31 (rw_iload_n (pc' := 32) (z := a1) rfl rfl ?_)
          refine wpx_of e166 c166_32 (rw_icmp_ne (p1 := 37) (p2 := 35) (by decide) rfl ⟨by omega, by omega⟩ ⟨by omega, by omega⟩ (fun c268 => ?_) (fun c268 => ?_))
          · refine wpx_of e166 c166_37 (rw_iinc (pc' := 40) (z := v246) (L' := [(2, vI (v246 + 1)), (3, vI v245), (0, .ref r0), (1, vI a1)]) rfl rfl rfl rfl ?_)
            refine wpx_of e166 c166_40 (rw_iinc (pc' := 43) (z := v245) (L' := [(3, vI (v245 + 1)), (2, vI (v246 + 1)), (0, .ref r0), (1, vI a1)]) rfl rfl rfl rfl ?_)
            refine wpx_of e166 c166_43 (rw_goto (p1 := 4) (by decide) ?_)
            exact ih244 _ (by omega) (v245 + 1) (v246 + 1) ⟨by omega, by omega⟩ ⟨by omega, by omega⟩ (by omega) rfl
          · refine wpx_of e166 c166_35 (rw_iload_n (pc' := 36) (z := v245) rfl rfl ?_)
            exact wpx_ret (wp_ireturn e166 c166_36 rfl ⟨rfl, rfl, v245, rfl, ⟨by omega, by omega⟩⟩)
  exact lp242 _ 0 0 ⟨by omega, by omega⟩ ⟨by omega, by omega⟩ (by omega) rfl
