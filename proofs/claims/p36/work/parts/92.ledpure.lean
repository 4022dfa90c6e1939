section
/-! THE LAW'S HELPER OVER PURE MEMORY (own work) -/
def wpC (kt : Nat → Option mc_E) (d : Nat) (E : wq_E) (cc : ByteArray) (pc : Nat) (L : List (Nat × Value)) (st : List Value) (T : wq_T) (H : wq_H) (Q : Option Value → wq_T → wq_H → Prop) : Prop :=
  ∀ M, wq_R kt M T H → ∃ (F n : Nat) (w : mc_R) (T' : wq_T) (H' : wq_H), mc_loop kt (mc_call kt F d) E.1 E.2.1 E.2.2.1 E.2.2.2 cc n (pc, L, st, M) = some w ∧ wq_R kt w.2 T' H' ∧ Q w.1 T' H'
theorem wpC_of {kt : Nat → Option mc_E} {d pc : Nat} {cc : ByteArray} {L : List (Nat × Value)} {st : List Value} {T : wq_T} {H : wq_H} {Q : Option Value → wq_T → wq_H → Prop} {E : wq_E} {x : Instr} {n : Nat} (hd : decode cc pc = .ok (x, n)) (h : wq_s kt d E x n pc L st T H (fun pc' L' st' T' H' => wpC kt d E cc pc' L' st' T' H' Q)) : wpC kt d E cc pc L st T H Q := fun M hM => by
  obtain ⟨F1, pc', L', st', M', T', H', h1, h2, h3⟩ := h M hM
  obtain ⟨F2, n2, w, T2, H2, h4, h5, h6⟩ := h3 M' h2
  refine ⟨max F1 F2, n2 + 1, w, T2, H2, ?_, h5, h6⟩
  unfold mc_loop
  dsimp only
  rw [hd]
  dsimp only
  rw [mc_step_mono (mc_call_mono (Nat.le_max_left F1 F2) d d (Nat.le_refl _)) h1]
  exact mc_loop_mono (mc_call_mono (Nat.le_max_right F1 F2) d d (Nat.le_refl _)) n2 n2 _ w (Nat.le_refl _) h4
theorem wpC_end {kt : Nat → Option mc_E} {d pc : Nat} {cc : ByteArray} {L : List (Nat × Value)} {st : List Value} {T : wq_T} {H : wq_H} {Q : Option Value → wq_T → wq_H → Prop} {E : wq_E} {x : Instr} {n : Nat} {r : Option Value} (hd : decode cc pc = .ok (x, n)) (h : ∀ M : mc_M, mc_step kt (mc_call kt 0 d) E.1 E.2.1 E.2.2.1 E.2.2.2 x n (pc, L, st, M) = some (.inr (r, M))) (hQ : Q r T H) : wpC kt d E cc pc L st T H Q := fun M hM => by
  refine ⟨0, 1, (r, M), T, H, ?_, hM, hQ⟩
  unfold mc_loop
  dsimp only
  rw [hd]
  dsimp only
  rw [h M]
theorem wh_d : decode method_3_code 0 = .ok (.aload_n 2, 1) ∧ decode method_3_code 1 = .ok (.iconst 0, 1) ∧ decode method_3_code 2 = .ok (.aload_n 0, 1) ∧ decode method_3_code 3 = .ok (.iload_n 1, 1) ∧ decode method_3_code 4 = .ok (.invokevirtual 7, 3) := ⟨by decide +kernel, by decide +kernel, by decide +kernel, by decide +kernel, by decide +kernel⟩
theorem wh_e : decode method_3_code 7 = .ok (.i2l, 1) ∧ decode method_3_code 8 = .ok (.lastore, 1) ∧ decode method_3_code 9 = .ok (.goto 6, 3) ∧ decode method_3_code 15 = .ok (.iconst 0, 1) ∧ decode method_3_code 16 = .ok (.ireturn, 1) := ⟨by decide +kernel, by decide +kernel, by decide +kernel, by decide +kernel, by decide +kernel⟩
def wh_E : wq_E := (11, 4, false, some .int)
def wh_L (x o : Nat) (z : Int) : List (Nat × Value) := lv_args 0 [.ref x, vI z, .ref o]
/-- behind the call -/
theorem wh_post {kt : Nat → Option mc_E} {T : wq_T} {H : wq_H} {o : Nat} {L : List (Nat × Value)} {z' : Int} (hW : WT T H) (go : T.2.2.2 o = some 73) (hz : wI z') : wpC kt 1 wh_E method_3_code 7 L [vI z', vI 0, .ref o] T H (fun r T' H' => T = T' ∧ H' = wq_u H o 0 z' ∧ WT T H' ∧ r = some (vI 0)) := by
  have hz' : wL z' := ⟨by have := hz.1; omega, by have := hz.2; omega⟩
  refine wpC_of wh_e.1 (rw_i2l (pc' := 8) rfl hz ?_)
  refine wpC_of wh_e.2.1 (xs_L (pc' := 9) (n := 1) (lo := -9223372036854775808) (hi := 9223372036854775807) hW go (by decide) rfl (by decide) rfl hz'.1 hz'.2 hz' (Int.le_refl _) (by decide) rfl (fun H' hH' hW' => ?_))
  refine wpC_of wh_e.2.2.1 (rw_goto (p1 := 15) (by decide) ?_)
  refine wpC_of wh_e.2.2.2.1 (rw_iconst (pc' := 16) rfl ?_)
  exact wpC_end wh_e.2.2.2.2 (fun M => rfl) ⟨rfl, hH', hW', rfl⟩
/-- as far as the call -/
theorem wh_seg {kt : Nat → Option mc_E} {call : Nat → List Value → mc_M → Option mc_R} {x o : Nat} {z : Int} {M : mc_M} : mc_seg kt call 11 4 false (some .int) method_3_code 4 (0, wh_L x o z, [], M) = some (4, wh_L x o z, [vI z, .ref x, vI 0, .ref o], M) := by
  obtain ⟨d0, d1, d2, d3, -⟩ := wh_d
  unfold mc_seg
  dsimp only
  rw [d0]
  show mc_seg kt call 11 4 false (some .int) method_3_code 3 (1, wh_L x o z, [.ref o], M) = _
  unfold mc_seg
  dsimp only
  rw [d1]
  show mc_seg kt call 11 4 false (some .int) method_3_code 2 (2, wh_L x o z, [vI 0, .ref o], M) = _
  unfold mc_seg
  dsimp only
  rw [d2]
  show mc_seg kt call 11 4 false (some .int) method_3_code 1 (3, wh_L x o z, [.ref x, vI 0, .ref o], M) = _
  unfold mc_seg
  dsimp only
  rw [d3]
  rfl
theorem mc_seg_loop {kt : Nat → Option mc_E} {call : Nat → List Value → mc_M → Option mc_R} {own nL : Nat} {ini : Bool} {ret : Option FieldType} {cc : ByteArray} {k : Nat} {S1 : mc_S} {w : mc_R} (hk : mc_loop kt call own nL ini ret cc k S1 = some w) : ∀ (n : Nat) (S : mc_S), mc_seg kt call own nL ini ret cc n S = some S1 → mc_loop kt call own nL ini ret cc (n + k) S = some w
  | 0, S, h => by
    unfold mc_seg at h
    cases h
    rw [Nat.zero_add]
    exact hk
  | n + 1, S, h => by
    unfold mc_seg at h
    rw [show n + 1 + k = (n + k) + 1 by omega]
    unfold mc_loop
    split at h
    · next x k1 hd =>
      rw [hd]
      split at h
      · next S2 hs =>
        dsimp only
        rw [hs]
        exact mc_seg_loop hk n S2 h
      · cases h
    · cases h
theorem wh_call {kt : Nat → Option mc_E} {call : Nat → List Value → mc_M → Option mc_R} {x o : Nat} {z z' : Int} {M M1 : mc_M} {fs : List Value} {L : List (Nat × Value)} (hx : 256 ≤ x) (hMx : M[x - 256]? = some (.inr (0, fs))) (hc : call 166 [.ref x, vI z] M = some (some (vI z'), M1)) : mc_step kt call 11 4 false (some .int) (.invokevirtual 7) 3 (4, L, [vI z, .ref x, vI 0, .ref o], M) = some (.inl (7, L, [vI z', vI 0, .ref o], M1)) := by
  obtain ⟨e, q, he, hq, ek, -⟩ := wq_ml_of lm_11_7
  have key : (decide (256 ≤ x) && (match M[x - 256]? with
    | some (.inr z) => z.1 == 0
    | _ => false)) = true := by
    rw [hMx, decide_eq_true hx]
    rfl
  have hcal : mc_cal call 11 1 7 4 L [vI z, .ref x, vI 0, .ref o] M = some (.inl (7, L, [vI z', vI 0, .ref o], M1)) := by
    unfold mc_cal
    rw [he]
    dsimp only
    rw [ek, mc_l166]
    dsimp only
    have e1 : (([vI z, .ref x, vI 0, .ref o] : List Value).take (if (1 : Nat) = 0 then 1 else 1 + 1)).reverse = [.ref x, vI z] := rfl
    rw [e1, hc]
    dsimp only
    show mc_n (true && true && true && (false || (decide (256 ≤ x) && (match M[x - 256]? with
      | some (.inr z) => z.1 == 0
      | _ => false)))) (mc_go 7 L [vI z', vI 0, .ref o] M1) = _
    rw [key]
    rfl
  show mc_n true (mc_or (mc_cal call 11 1 7 4 L [vI z, .ref x, vI 0, .ref o] M) (mc_prim 11 7 4 L [vI z, .ref x, vI 0, .ref o] M)) = _
  rw [hcal]
  rfl
theorem wh_loop {kt : Nat → Option mc_E} {T : wq_T} {H : wq_H} {x o : Nat} {z z' : Int} {M M1 : mc_M} {F : Nat} {fs : List Value} (hW : WT T H) (go : T.2.2.2 o = some 73) (hz : wI z') (hx : 256 ≤ x) (hMx : M[x - 256]? = some (.inr (0, fs))) (hc : mc_call kt F 1 166 [.ref x, vI z] M = some (some (vI z'), M1)) (hM1 : wq_R kt M1 T H) : ∃ (F' n : Nat) (w : mc_R) (H' : wq_H), mc_loop kt (mc_call kt F' 1) 11 4 false (some .int) method_3_code n (0, wh_L x o z, [], M) = some w ∧ wq_R kt w.2 T H' ∧ H' = wq_u H o 0 z' ∧ WT T H' ∧ w.1 = some (vI 0) := by
  obtain ⟨F2, n2, w, T', H', h1, h2, h3, h4, h5, h6⟩ := wh_post (kt := kt) (L := wh_L x o z) hW go hz M1 hM1
  subst h3
  have h1 : mc_loop kt (mc_call kt F2 1) 11 4 false (some .int) method_3_code n2 (7, wh_L x o z, [vI z', vI 0, .ref o], M1) = some w := h1
  refine ⟨max F F2, 4 + (n2 + 1), w, H', mc_seg_loop ?_ 4 _ wh_seg, h2, h4, h5, h6⟩
  unfold mc_loop
  dsimp only
  rw [wh_d.2.2.2.2]
  dsimp only
  rw [wh_call hx hMx (mc_call_mono (Nat.le_max_left F F2) 1 1 (Nat.le_refl _) _ _ _ _ hc)]
  exact mc_loop_mono (mc_call_mono (Nat.le_max_right F F2) 1 1 (Nat.le_refl _)) n2 n2 _ w (Nat.le_refl _) h1
end
section
/-! THE LAW'S CALL OF ITS HELPER OVER THE MACHINE, both ways; from the entry to the end (own work) -/
theorem wgrow_WT {kt : Nat → Option mc_E} {M : mc_M} {T : wq_T} {H : wq_H} {s : Nat × Nat} {n : Nat} {g : Nat → Int} (hM : wq_R kt M T H) (hW : WT T H) : WT (wq_gT T s n) (wq_gH H (256 + T.2.1) g) ∧ ∀ a t, T.2.2.2 a = some t → wq_gH H (256 + T.2.1) g a = H a := by
  have hne : ∀ a t, T.2.2.2 a = some t → a ≠ 256 + T.2.1 := fun a t ht hh => by
    have h1 := (hW.2 a t ht).1
    rw [hM.fresh a (by omega)] at h1
    cases h1
  refine ⟨⟨hW.1, fun a t ht => ?_⟩, fun a t ht => wq_gH_ne (hne a t ht)⟩
  have ht : T.2.2.2 a = some t := ht
  obtain ⟨h1, h2, h3⟩ := hW.2 a t ht
  refine ⟨?_, h2, fun j hj => ?_⟩
  · show (if a = 256 + T.2.1 then some s else T.1 a) = _
    rw [if_neg (hne a t ht)]
    exact h1
  · rw [wq_gH_ne (hne a t ht)]
    exact h3 j hj
theorem wled_W {p : Program} {l : Launch} {e : Env} {s : State} {m : MethodId} {below : List Frame} {meth : Method} {c : Code} {b L : Nat} {xs : Nat → Int32} {G : mc_G} (C : mc_X (mc_kt L xs) G 11 7 false (some .boolean) code p s m #[Value.ref b] meth c) (hfl : l.stackTraces = false) (hT : mc_TW s) (hZ : mc_TZ G s s.heap) (x m9 o : Nat) : wlLed (mc_kt L xs) 601024 7293034 (mc_W G p l e room_1 s m #[Value.ref b] below meth c (lw_Z below #[Value.ref b] s) 7 0 0) L x m9 o := by
  intro T H i z hb hz hI k
  obtain ⟨⟨hW, g0, gx, gm, go, hK, hr⟩, hXI, hY1, hY2⟩ := hI
  refine ⟨⟨by omega, by omega⟩, fun M hM => ?_⟩
  have hx : 256 ≤ x := hW.hi gx (by decide)
  have hsx : T.1 x = some (100 + 0, 13) := hW.sh gx sh_1
  obtain ⟨fs, e6, -, -⟩ := hM.obj hsx
  rw [mc_ce_hi hx] at e6
  have hl1 := hM.1
  have hl2 := hM.2.1
  rcases x_166 hW gx hz M hM with ⟨F, n, w, T', H', h1, h2, h3, h4, z', h5, h6⟩ | ⟨F, n, L', M', h1, h2⟩
  · subst h3
    subst h4
    obtain ⟨r, M1⟩ := w
    have h5 : some (vI z') = r := h5
    subst h5
    have hc : mc_call (mc_kt L xs) (max F n) 1 166 [.ref x, vI z] M = some (some (vI z'), M1) := by
      unfold wq_lp at h1
      rw [mc_l166] at h1
      dsimp only at h1
      unfold mc_call
      rw [mc_l166]
      dsimp only
      rw [show decide ((lg_sl [.ref x, vI z]).length ≤ 4) = true from rfl]
      exact mc_loop_mono (mc_call_mono (Nat.le_max_left F n) 0 0 (Nat.le_refl _)) n (max F n) _ _ (Nat.le_max_right F n) h1
    obtain ⟨F', n', w, H', q1, q2, q3, q4, q5⟩ := wh_loop (o := o) hW go ⟨h6.1, h6.2⟩ hx e6 hc h2
    have hm1 := q2.1
    have hm2 := q2.2.1
    have f : wfr [(73, 0)] T H H' := (wfr.rf (l := [(73, 0)])).put' q3 go rfl
    have k1 : wKI H' m9 = wKI H m9 := wKI_fr hW gm f rfl
    have k2 : H' x 9 = H x 9 := f x 9 1 gx rfl
    have k3 : H' m9 6 = H m9 6 := f m9 6 42 gm rfl
    have k4 : H' x 11 = H x 11 := f x 11 1 gx rfl
    have k5 : H' m9 13 = H m9 13 := f m9 13 42 gm rfl
    have k6 : H' x 8 = H x 8 := f x 8 1 gx rfl
    have k7 : H' m9 3 = H m9 3 := f m9 3 42 gm rfl
    refine mc_ledcall (x := Int32.ofInt z) (a0 := x) (la := o) C hT hZ (w := w) ⟨by omega, by omega⟩ ⟨by omega, by omega⟩ (mc_led2r l (by show 3 ≤ 4; omega) q1) ?_
    rw [q5]
    exact (k 0 ⟨by decide, by decide⟩ T H' ⟨⟨q4, g0, gx, gm, go, by omega, by omega⟩, XI_fr hW gx f rfl hXI, by omega, by omega⟩ (by omega) (by omega)).2 w.2 q2
  · have hs1 : mc_seg (mc_kt L xs) (mc_call (mc_kt L xs) F 0) 0 4 false (some .int) prog_1_method_49_code n (0, lv_args 0 [.ref x, .int (Int32.ofInt z)], [], M) = some (46, L', [], M') := by
      unfold wq_sg at h1
      rw [mc_l166] at h1
      exact h1
    have hm1 := h2.1
    have hm2 := h2.2.1
    have hMet := mc_led2 l hfl (kt := mc_kt L xs) (G := G) (x := Int32.ofInt z) (x2 := Int32.ofInt z) (a0 := x) (la := o) (M := M) (M2 := M) (M1 := M') hx e6 ⟨rfl, rfl⟩ ⟨by omega, by omega⟩ wh_seg hs1
    have e1 : (M' ++ [mc_op]).length - M.length = 1 := by rw [List.length_append]; show M'.length + 1 - M.length = 1; omega
    have e2 : mc_sz (M' ++ [mc_op]) - mc_sz M = 6 := by rw [mc_sz_app, mc_sz_one]; show mc_sz M' + 6 - mc_sz M = 6; omega
    have e3 : (M' ++ [mc_op]).length = M.length + 1 := by rw [List.length_append]; show M'.length + 1 = M.length + 1; omega
    have e4 : mc_sz (M' ++ [mc_op]) = mc_sz M + 6 := by rw [mc_sz_app, mc_sz_one]; show mc_sz M' + 6 = mc_sz M + 6; omega
    have e5 : mc_rmL M (M' ++ [mc_op]) = mc_rm2 := by unfold mc_rmL mc_rm2; rw [e1, e2]
    have hg := h2.grow (e := mc_op) (s := (99, 6)) (g := fun _ => -1) ⟨by decide, rfl, fun j hj => ⟨rfl, trivial⟩⟩
    obtain ⟨hW', hold⟩ := wgrow_WT (s := (99, 6)) (n := mc_es mc_op) (g := fun _ => -1) h2 hW
    generalize wq_gH H (256 + T.2.1) (fun _ => -1) = H' at hg hW' hold
    have f : wfr [] T H H' := fun a j t ht _ => by rw [hold a t ht]
    have k1 : wKI H' m9 = wKI H m9 := wKI_fr hW gm f rfl
    have k2 : H' x 9 = H x 9 := f x 9 1 gx rfl
    have k3 : H' m9 6 = H m9 6 := f m9 6 42 gm rfl
    have k4 : H' x 11 = H x 11 := f x 11 1 gx rfl
    have k5 : H' m9 13 = H m9 13 := f m9 13 42 gm rfl
    have k6 : H' x 8 = H x 8 := f x 8 1 gx rfl
    have k7 : H' m9 3 = H m9 3 := f m9 3 42 gm rfl
    refine mc_ledcall (x := Int32.ofInt z) (a0 := x) (la := o) C hT hZ (w := (some (.int 1), M' ++ [mc_op])) ⟨by show M.length ≤ (M' ++ [mc_op]).length; omega, by show mc_sz M ≤ mc_sz (M' ++ [mc_op]); omega⟩ ⟨by show (M' ++ [mc_op]).length ≤ 601024; omega, by show mc_sz (M' ++ [mc_op]) ≤ 7293034; omega⟩ ?_ ?_
    · show Met l mc_y2 _ (mc_rmL M (M' ++ [mc_op])) _ _ ((M' ++ [mc_op]).length - M.length) (mc_sz (M' ++ [mc_op]) - mc_sz M) _
      rw [e5, e1, e2]
      exact hMet
    · exact (k 1 ⟨by decide, by decide⟩ (wq_gT T (99, 6) (mc_es mc_op)) H' ⟨⟨hW', g0, gx, gm, go, by omega, by omega⟩, (XI_fr (T := T) hW gx f rfl hXI : XI T H' x m9), by omega, by omega⟩ (by show T.2.1 + 1 ≤ _; omega) (by show T.2.2.1 + 6 ≤ _; omega)).2 (M' ++ [mc_op]) hg
theorem mc_TW_of {s : State} {args : Array Value} (hts : ∀ w ∈ lw_tbl, w.before args s = true) : mc_TW s := fun w hw => by
  have hk := List.all_eq_true.mp mc_TB_dk w hw
  have h1 := hts w (mc_ls_in (List.all_eq_true.mp mc_TH_in w (List.mem_filter.mp hw).1))
  cases w with
  | declares x => exact va_Nw.of rfl h1
  | castable C T => exact va_Nw.of rfl h1
  | _ => cases hk
theorem mc_TZ_of {s : State} {args : Array Value} {G : mc_G} (hbase : G.2.1 = s.heap.size) (hts : ∀ w ∈ lw_tbl, w.before args s = true) (hgv : (Jvm.Cond.and given_1 narrow_1).before args s = true) : mc_TZ G s s.heap := by
  have hfl : ∀ w ∈ mc_fl0, w.before args s = true := flat_of_before _ hgv
  have hA : ∀ a : Nat, a < s.heap.size → ¬ mc_A G a := fun a h h' => by
    have h' : G.2.1 ≤ a := h'
    omega
  have z1 := fun w hw => hts w (mc_ls_in (List.all_eq_true.mp mc_zl w hw))
  have z2 := fun w hw => hfl w (mc_ls_in (List.all_eq_true.mp mc_zr w hw))
  exact ⟨vx_Zqof (z1 _ (by simp)) (z1 _ (by simp)) (z2 _ (by simp)) hA, vx_Zqof (z1 _ (by simp)) (z1 _ (by simp)) (z2 _ (by simp)) hA⟩
theorem whole_start {p : Program} {e : Env} {s : State} {m : MethodId} {below : List Frame} {meth : Method} {c : Code} (l : Launch) (hflags : l.flags = flags0) {b L : Nat} {xs : Nat → Int32} (hL : L ≤ 3072) (C0 : lw_At p s m meth c b L xs) : W p l e room_1 s m #[Value.ref b] below meth c s.heap [] 0 0 (lw_Z below #[Value.ref b] s) (entryFrame m ([Value.ref b] : List Value).toArray 7) := by
  have hfl : l.stackTraces = false := by
    unfold Launch.stackTraces
    rw [hflags]
    decide +kernel
  obtain ⟨hx, hb, hr, hml, hown, hts, hX, hbl, hlk, hgv⟩ := C0
  obtain ⟨G, hbase, hG0, hB⟩ := mc_start hL hts hX hbl hgv
  have C : mc_X (mc_kt L xs) G 11 7 false (some .boolean) code p s m #[Value.ref b] meth c := ⟨hx, hb, hown, fun w hw => hts w (mc_ws_sub w hw), hml, hB, Nat.le_of_eq hbase, (fun h => by cases h), hlk, hr⟩
  have key : mc_W G p l e room_1 s m #[Value.ref b] below meth c (lw_Z below #[Value.ref b] s) 7 0 0 (0, [(0, .ref 0)], [], []) :=
    wbegin (wlX_W C hbase) (by omega) (by omega) hL (wled_W C hfl (mc_TW_of hts) (mc_TZ_of hbase hts hgv))
  have hl := lv_entry [Value.ref b] (n := 7) (by show 1 ≤ 7; omega)
  rw [lg_entry_eq]
  generalize (lg_sl [Value.ref b] ++ List.replicate (7 - (lg_sl [Value.ref b]).length) Slot.unset).toArray = ls at hl ⊢
  refine key s.heap [] ls 0 0 ⟨by rw [hbase]; rfl, fun k e h => by cases h⟩ va_S.rf ?_ rfl rfl
  have h2 : mc_L G [(0, Value.ref 0)] = lv_args 0 [Value.ref b] := by
    show [(0, Value.ref (mc_a G 0))] = [(0, Value.ref b)]
    rw [mc_a_lo (by decide), hG0]
  rw [h2]
  exact hl
end
section
set_option maxHeartbeats 4000000 in
theorem lw_walk (l : Launch) (hflags : l.flags = flags0) (b : Addr) (xs : List Int32) : MetFree l x (headSpec (Jvm.Cond.code x code maxLocals ret :: tables_1) room_1) (lw_P b xs) (fun _ _ _ _ _ => True) lw_Q := by
  refine MetFree.of_bodyS (code := code) (maxLocals := maxLocals) (ret := ret) (by decide) ?_ ?_
  · intro args s m h hn
    obtain ⟨meth, c, h1, h2, h3, h4, h5, h6, -, -⟩ := Cond.code_spec hn (atoms_spec (ws := Jvm.Cond.code x code maxLocals ret :: tables_1) h _ List.mem_cons_self)
    exact ⟨meth, c, h1, h2, h3, h4, h5, h6⟩
  · intro p e s m args below meth c s₁ B hml0 hP _
    obtain ⟨rfl, hx, hbd, hgv⟩ := hP
    obtain ⟨scr, harrAt, hlist, hof, hsmall⟩ := hx
    obtain ⟨hcb, hkn, -, -⟩ := State.arrayAt?_spec harrAt
    have hown : s.vm.findClass R_law = some m.cls := findClass_of_methodNamed B.named
    have hts0 : ∀ c ∈ (Jvm.Cond.code x code maxLocals ret :: tables_1), c.before #[Value.ref b] s = true := atoms_spec (ws := Jvm.Cond.code x code maxLocals ret :: tables_1) B.pre
    have hts : ∀ w ∈ lw_tbl, w.before #[Value.ref b] s = true := k2_hts_sels lw_privs (fun w hw => hts0 w (List.mem_cons_of_mem _ hw)) lw_privs_ok
    have hml : c.maxLocals = 7 := B.maxLocals_eq (hts0 _ List.mem_cons_self)
    have X₀ : Stand p l e room_1 s m #[Value.ref b] below meth c s₁ [] 0 0 := Stand.of_body B
    have hh0 : s₁.heap = s.heap := by rw [B.state]; rfl
    have hsz : scr.slots.size = xs.length := by rw [← Array.length_toList, hlist, List.length_map]
    have hval : ∀ j : Nat, j < xs.length → scr.slots[j]? = some (.int (xs.getD j 0)) := fun j hj => by
      rw [← Array.getElem?_toList, hlist]
      simp [hj]
    have hbl : b < s.heap.size := (Array.getElem?_eq_some_iff.mp hcb).1
    have hX : va_X b xs.length (fun j => xs.getD j 0) s s.heap := ⟨scr, hcb, hof, hkn, hsz, hval⟩
    have K : W p l e room_1 s m #[Value.ref b] below meth c s₁.heap [] 0 0 (lw_Z below #[Value.ref b] s) (entryFrame m ([Value.ref b] : List Value).toArray 7) := by
      rw [hh0]
      exact whole_start l hflags hbd ⟨B.exec, B.bytes, B.returns, hml, hown, hts, hX, hbl, B.notSynchronized, hgv⟩
    obtain ⟨t, a1, o, b1, b2, b3⟩ := K s₁ rfl X₀
    exact ⟨t, o, a1, b1, b2, b3⟩
theorem lw_pre_spec {args : Array Value} {s : State} (h : (Jvm.Cond.and given_1 narrow_1).before args s = true) (hr : rest_1_c.before args s = true) : ∃ (b : Addr) (xs : List Int32), lw_P b xs args s := by
  have hs := flat_of_before _ h
  have hq := flat_of_before _ hr
  have hc : (Cond.count 1).before args s = true := hs _ (by decide +kernel)
  have harr : (Cond.arrayOf (.arg 0) .int).before args s = true := hs _ (by decide +kernel)
  have hle : (Cond.le (.length (.arg 0)) (.int 3072)).before args s = true := hs _ (by decide +kernel)
  have hlen : (Cond.isInt (.length (.arg 0))).before args s = true := hq _ (by decide +kernel)
  have hall : (Cond.all (.arg 0) (.isInt (.elem (.arg 0) (.index 0)))).before args s = true := hq _ (by decide +kernel)
  obtain ⟨b, xs, hb, hx⟩ := State.ints_of_pre rfl harr hlen hall
  have hsm : xs.length < 2 ^ 31 := hx.choose_spec.2.2.2
  have hev : (Term.length (.arg 0)).eval args s none [] s = some (.int xs.length.toInt32) := hx.length_eval hb
  have hv := Cond.le_ints hev (show (Term.int 3072).eval args s none [] s = some (.int 3072) from rfl)
  have hd : xs.length.toInt32 ≤ 3072 := by
    simpa [Cond.before, Cond.holds, hv] using hle
  have hN : xs.length ≤ 3072 := (Int32.ofNat_le_ofNat hsm (by decide)).mp (show Int32.ofNat xs.length ≤ Int32.ofNat 3072 from hd)
  exact ⟨b, xs, Cond.one_arg hc (show args[0]? = some (.ref b) from hb), hx, hN, h⟩
theorem lw_comes (l : Launch) (hflags : l.flags = flags0) : Comes l x (Jvm.Cond.code x code maxLocals ret :: tables_1) room_1 (fun tb e args s => Calls_1 tb e args s ∧ rest_1 tb e args s ∧ Pre_1 tb e args s)
    (fun _ _ args s o t => lw_Q args s o t) := by
  intro p e ha hc hk s m args below hf hfit hheap happ hpre
  obtain ⟨b, xs, hP⟩ := lw_pre_spec hpre.2.2 hpre.2.1
  obtain ⟨k, o, h1, h2, h3, hQ⟩ := lw_walk l hflags b xs p e ha hc hk s m args below hf ((Spec.applies_iff_loose hf).mp happ).1 hP trivial
  exact ⟨k, o, h1, h2, h3, hQ⟩
theorem lw_frame {s t : State} {o : Outcome} {args : Array Value} (h : Framed s o t [] 601024 7293034) :
    Framed s o t (fieldLocs frame_1_writes args s ++ arrayLocs frame_1_arrays args s ++ staticLocs frame_1_statics s) 601024 7293034 := h
theorem lw_limb (L : Cond) (hL : ∀ (args : Array Value) (s t : State), L.after args s (.returned (some (.int 1))) t = true) :
    ArmFor flags0 classFile x code maxLocals ret World_1 tables_1 room_1 Calls_1 rest_1 Pre_1
      (fun tb e a s o t => postC L tb e a s o t ∧ Framed s o t (fieldLocs frame_1_writes a s ++ arrayLocs frame_1_arrays a s ++ staticLocs frame_1_statics s) 601024 7293034) := by
  intro l hflags _ _ p e ha hc hk s m args below hf hfit hheap happ hpre
  obtain ⟨k, o, h1, h2, h3, rfl, hF⟩ := lw_comes l hflags p e ha hc hk s m args below hf hfit hheap happ hpre
  exact ⟨k, _, h1, h2, h3, hL args s _, lw_frame hF⟩
end
