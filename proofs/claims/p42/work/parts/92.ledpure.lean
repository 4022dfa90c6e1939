/-! THE LAW'S HELPER OVER PURE MEMORY (own work) -/
def wpC (kt : Nat → Option mc_E) (d : Nat) (E : wq_E) (cc : ByteArray) (pc : Nat) (L : List (Nat × Value)) (st : List Value) (T : wq_T) (H : wq_H) (Q : Option Value → wq_T → wq_H → Prop) : Prop :=
  ∀ M, wq_R kt M T H → ∃ (F n : Nat) (w : mc_R) (T' : wq_T) (H' : wq_H), mc_loop kt (mc_call kt F d) E.1 E.2.1 E.2.2.1 E.2.2.2 cc n (pc, L, st, M) = some w ∧ wq_R kt w.2 T' H' ∧ Q w.1 T' H'
theorem wpC_of {kt : Nat → Option mc_E} {d pc : Nat} {cc : ByteArray} {L : List (Nat × Value)} {st : List Value} {T : wq_T} {H : wq_H} {Q : Option Value → wq_T → wq_H → Prop} {E : wq_E} {x : Instr} {n : Nat} (hd : decode cc pc = .ok (x, n)) (h : wq_s kt d E x n pc L st T H (fun pc' L' st' T' H' => wpC kt d E cc pc' L' st' T' H' Q)) : wpC kt d E cc pc L st T H Q := fun M hM => by
  obtain ⟨F1, pc', L', st', M', T', H', h1, h2, h3⟩ := h M hM
  obtain ⟨F2, n2, w, T2, H2, h4, h5, h6⟩ := h3 M' h2
  refine ⟨max F1 F2, n2 + 1, w, T2, H2, ?_, h5, h6⟩
  unfold mc_loop
  dsimp only
  rw [hd]
  dsimp only
  rw [mc_step_mono (mc_call_mono (Nat.le_max_left F1 F2) d d (Nat.le_refl _)) h1]
  exact mc_loop_mono (mc_call_mono (Nat.le_max_right F1 F2) d d (Nat.le_refl _)) n2 n2 _ w (Nat.le_refl _) h4
theorem wpC_end {kt : Nat → Option mc_E} {d pc : Nat} {cc : ByteArray} {L : List (Nat × Value)} {st : List Value} {T : wq_T} {H : wq_H} {Q : Option Value → wq_T → wq_H → Prop} {E : wq_E} {x : Instr} {n : Nat} {r : Option Value} (hd : decode cc pc = .ok (x, n)) (h : ∀ M : mc_M, mc_step kt (mc_call kt 0 d) E.1 E.2.1 E.2.2.1 E.2.2.2 x n (pc, L, st, M) = some (.inr (r, M))) (hQ : Q r T H) : wpC kt d E cc pc L st T H Q := fun M hM => by
  refine ⟨0, 1, (r, M), T, H, ?_, hM, hQ⟩
  unfold mc_loop
  dsimp only
  rw [hd]
  dsimp only
  rw [h M]
theorem wh_d : decode method_3_code 0 = .ok (.aload_n 2, 1) ∧ decode method_3_code 1 = .ok (.iconst 0, 1) ∧ decode method_3_code 2 = .ok (.aload_n 0, 1) ∧ decode method_3_code 3 = .ok (.iload_n 1, 1) ∧ decode method_3_code 4 = .ok (.invokevirtual 7, 3) := ⟨by decide +kernel, by decide +kernel, by decide +kernel, by decide +kernel, by decide +kernel⟩
theorem wh_e : decode method_3_code 7 = .ok (.i2l, 1) ∧ decode method_3_code 8 = .ok (.lastore, 1) ∧ decode method_3_code 9 = .ok (.goto 6, 3) ∧ decode method_3_code 15 = .ok (.iconst 0, 1) ∧ decode method_3_code 16 = .ok (.ireturn, 1) := ⟨by decide +kernel, by decide +kernel, by decide +kernel, by decide +kernel, by decide +kernel⟩
def wh_E : wq_E := (11, 4, false, some .int)
def wh_L (x o : Nat) (z : Int) : List (Nat × Value) := lv_args 0 [.ref x, vI z, .ref o]
/-- behind the call -/
theorem wh_post {kt : Nat → Option mc_E} {T : wq_T} {H : wq_H} {o : Nat} {L : List (Nat × Value)} {z' : Int} (hW : WT T H) (go : T.2.2.2 o = some 73) (hz : wI z') : wpC kt 1 wh_E method_3_code 7 L [vI z', vI 0, .ref o] T H (fun r T' H' => T = T' ∧ H' = wq_u H o 0 z' ∧ WT T H' ∧ r = some (vI 0)) := by
  have hz' : wL z' := ⟨by have := hz.1; omega, by have := hz.2; omega⟩
  refine wpC_of wh_e.1 (rw_i2l (pc' := 8) rfl hz ?_)
  refine wpC_of wh_e.2.1 (xs_L (pc' := 9) (n := 1) (lo := -9223372036854775808) (hi := 9223372036854775807) hW go (by decide) rfl (by decide) rfl hz'.1 hz'.2 hz' (Int.le_refl _) (by decide) rfl (fun H' hH' hW' => ?_))
  refine wpC_of wh_e.2.2.1 (rw_goto (p1 := 15) (by decide) ?_)
  refine wpC_of wh_e.2.2.2.1 (rw_iconst (pc' := 16) rfl ?_)
  exact wpC_end wh_e.2.2.2.2 (fun M => rfl) ⟨rfl, hH', hW', rfl⟩
/-- as far as the call -/
theorem wh_seg {kt : Nat → Option mc_E} {call : Nat → List Value → mc_M → Option mc_R} {x o : Nat} {z : Int} {M : mc_M} : mc_seg kt call 11 4 false (some .int) method_3_code 4 (0, wh_L x o z, [], M) = some (4, wh_L x o z, [vI z, .ref x, vI 0, .ref o], M) := by
  obtain ⟨d0, d1, d2, d3, -⟩ := wh_d
  unfold mc_seg
  dsimp only
  rw [d0]
  show mc_seg kt call 11 4 false (some .int) method_3_code 3 (1, wh_L x o z, [.ref o], M) = _
  unfold mc_seg
  dsimp only
  rw [d1]
  show mc_seg kt call 11 4 false (some .int) method_3_code 2 (2, wh_L x o z, [vI 0, .ref o], M) = _
  unfold mc_seg
  dsimp only
  rw [d2]
  show mc_seg kt call 11 4 false (some .int) method_3_code 1 (3, wh_L x o z, [.ref x, vI 0, .ref o], M) = _
  unfold mc_seg
  dsimp only
  rw [d3]
  rfl
theorem mc_seg_loop {kt : Nat → Option mc_E} {call : Nat → List Value → mc_M → Option mc_R} {own nL : Nat} {ini : Bool} {ret : Option FieldType} {cc : ByteArray} {k : Nat} {S1 : mc_S} {w : mc_R} (hk : mc_loop kt call own nL ini ret cc k S1 = some w) : ∀ (n : Nat) (S : mc_S), mc_seg kt call own nL ini ret cc n S = some S1 → mc_loop kt call own nL ini ret cc (n + k) S = some w
  | 0, S, h => by
    unfold mc_seg at h
    cases h
    rw [Nat.zero_add]
    exact hk
  | n + 1, S, h => by
    unfold mc_seg at h
    rw [show n + 1 + k = (n + k) + 1 by omega]
    unfold mc_loop
    split at h
    · next x k1 hd =>
      rw [hd]
      split at h
      · next S2 hs =>
        dsimp only
        rw [hs]
        exact mc_seg_loop hk n S2 h
      · cases h
    · cases h
theorem wh_call {kt : Nat → Option mc_E} {call : Nat → List Value → mc_M → Option mc_R} {x o : Nat} {z z' : Int} {M M1 : mc_M} {fs : List Value} {L : List (Nat × Value)} (hx : 256 ≤ x) (hMx : M[x - 256]? = some (.inr (0, fs))) (hc : call 166 [.ref x, vI z] M = some (some (vI z'), M1)) : mc_step kt call 11 4 false (some .int) (.invokevirtual 7) 3 (4, L, [vI z, .ref x, vI 0, .ref o], M) = some (.inl (7, L, [vI z', vI 0, .ref o], M1)) := by
  obtain ⟨e, q, he, hq, ek, -⟩ := wq_ml_of lm_11_7
  have key : (decide (256 ≤ x) && (match M[x - 256]? with
    | some (.inr z) => z.1 == 0
    | _ => false)) = true := by
    rw [hMx, decide_eq_true hx]
    rfl
  have hcal : mc_cal call 11 1 7 4 L [vI z, .ref x, vI 0, .ref o] M = some (.inl (7, L, [vI z', vI 0, .ref o], M1)) := by
    unfold mc_cal
    rw [he]
    dsimp only
    rw [ek, mc_l166]
    dsimp only
    have e1 : (([vI z, .ref x, vI 0, .ref o] : List Value).take (if (1 : Nat) = 0 then 1 else 1 + 1)).reverse = [.ref x, vI z] := rfl
    rw [e1, hc]
    dsimp only
    show mc_n (true && true && true && (false || (decide (256 ≤ x) && (match M[x - 256]? with
      | some (.inr z) => z.1 == 0
      | _ => false)))) (mc_go 7 L [vI z', vI 0, .ref o] M1) = _
    rw [key]
    rfl
  show mc_n true (mc_or (mc_cal call 11 1 7 4 L [vI z, .ref x, vI 0, .ref o] M) (mc_prim 11 7 4 L [vI z, .ref x, vI 0, .ref o] M)) = _
  rw [hcal]
  rfl
theorem wh_loop {kt : Nat → Option mc_E} {T : wq_T} {H : wq_H} {x o : Nat} {z z' : Int} {M M1 : mc_M} {F : Nat} {fs : List Value} (hW : WT T H) (go : T.2.2.2 o = some 73) (hz : wI z') (hx : 256 ≤ x) (hMx : M[x - 256]? = some (.inr (0, fs))) (hc : mc_call kt F 1 166 [.ref x, vI z] M = some (some (vI z'), M1)) (hM1 : wq_R kt M1 T H) : ∃ (F' n : Nat) (w : mc_R) (H' : wq_H), mc_loop kt (mc_call kt F' 1) 11 4 false (some .int) method_3_code n (0, wh_L x o z, [], M) = some w ∧ wq_R kt w.2 T H' ∧ H' = wq_u H o 0 z' ∧ WT T H' ∧ w.1 = some (vI 0) := by
  obtain ⟨F2, n2, w, T', H', h1, h2, h3, h4, h5, h6⟩ := wh_post (kt := kt) (L := wh_L x o z) hW go hz M1 hM1
  subst h3
  have h1 : mc_loop kt (mc_call kt F2 1) 11 4 false (some .int) method_3_code n2 (7, wh_L x o z, [vI z', vI 0, .ref o], M1) = some w := h1
  refine ⟨max F F2, 4 + (n2 + 1), w, H', mc_seg_loop ?_ 4 _ wh_seg, h2, h4, h5, h6⟩
  unfold mc_loop
  dsimp only
  rw [wh_d.2.2.2.2]
  dsimp only
  rw [wh_call hx hMx (mc_call_mono (Nat.le_max_left F F2) 1 1 (Nat.le_refl _) _ _ _ _ hc)]
  exact mc_loop_mono (mc_call_mono (Nat.le_max_right F F2) 1 1 (Nat.le_refl _)) n2 n2 _ w (Nat.le_refl _) h1
