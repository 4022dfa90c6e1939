/-! THE LAW'S CALL OF ITS HELPER OVER THE MACHINE, both ways; from the entry to the end (own work) -/
theorem wgrow_WT {kt : Nat → Option mc_E} {M : mc_M} {T : wq_T} {H : wq_H} {s : Nat × Nat} {n : Nat} {g : Nat → Int} (hM : wq_R kt M T H) (hW : WT T H) : WT (wq_gT T s n) (wq_gH H (256 + T.2.1) g) ∧ ∀ a t, T.2.2.2 a = some t → wq_gH H (256 + T.2.1) g a = H a := by
  have hne : ∀ a t, T.2.2.2 a = some t → a ≠ 256 + T.2.1 := fun a t ht hh => by
    have h1 := (hW.2 a t ht).1
    rw [hM.fresh a (by omega)] at h1
    cases h1
  refine ⟨⟨hW.1, fun a t ht => ?_⟩, fun a t ht => wq_gH_ne (hne a t ht)⟩
  have ht : T.2.2.2 a = some t := ht
  obtain ⟨h1, h2, h3⟩ := hW.2 a t ht
  refine ⟨?_, h2, fun j hj => ?_⟩
  · show (if a = 256 + T.2.1 then some s else T.1 a) = _
    rw [if_neg (hne a t ht)]
    exact h1
  · rw [wq_gH_ne (hne a t ht)]
    exact h3 j hj
theorem wled_W {p : Program} {l : Launch} {e : Env} {s : State} {m : MethodId} {below : List Frame} {meth : Method} {c : Code} {b L : Nat} {xs : Nat → Int32} {G : mc_G} (C : mc_X (mc_kt L xs) G 11 7 false (some .boolean) code p s m #[Value.ref b] meth c) (hfl : l.stackTraces = false) (hT : mc_TW s) (hZ : mc_TZ G s s.heap) (x m9 o : Nat) : wlLed (mc_kt L xs) 601024 7293034 (mc_W G p l e room_1 s m #[Value.ref b] below meth c (lw_Z below #[Value.ref b] s) 7 0 0) L x m9 o := by
  intro T H i z hb hz hI k
  obtain ⟨⟨hW, g0, gx, gm, go, hK, hr⟩, hXI, hY1, hY2⟩ := hI
  refine ⟨⟨by omega, by omega⟩, fun M hM => ?_⟩
  have hx : 256 ≤ x := hW.hi gx (by decide)
  have hsx : T.1 x = some (100 + 0, 13) := hW.sh gx sh_1
  obtain ⟨fs, e6, -, -⟩ := hM.obj hsx
  rw [mc_ce_hi hx] at e6
  have hl1 := hM.1
  have hl2 := hM.2.1
  rcases x_166 hW gx hz M hM with ⟨F, n, w, T', H', h1, h2, h3, h4, z', h5, h6⟩ | ⟨F, n, L', M', h1, h2⟩
  · subst h3
    subst h4
    obtain ⟨r, M1⟩ := w
    have h5 : some (vI z') = r := h5
    subst h5
    have hc : mc_call (mc_kt L xs) (max F n) 1 166 [.ref x, vI z] M = some (some (vI z'), M1) := by
      unfold wq_lp at h1
      rw [mc_l166] at h1
      dsimp only at h1
      unfold mc_call
      rw [mc_l166]
      dsimp only
      rw [show decide ((lg_sl [.ref x, vI z]).length ≤ 4) = true from rfl]
      exact mc_loop_mono (mc_call_mono (Nat.le_max_left F n) 0 0 (Nat.le_refl _)) n (max F n) _ _ (Nat.le_max_right F n) h1
    obtain ⟨F', n', w, H', q1, q2, q3, q4, q5⟩ := wh_loop (o := o) hW go ⟨h6.1, h6.2⟩ hx e6 hc h2
    have hm1 := q2.1
    have hm2 := q2.2.1
    have f : wfr [(73, 0)] T H H' := (wfr.rf (l := [(73, 0)])).put' q3 go rfl
    have k1 : wKI H' m9 = wKI H m9 := wKI_fr hW gm f rfl
    have k2 : H' x 9 = H x 9 := f x 9 1 gx rfl
    have k3 : H' m9 6 = H m9 6 := f m9 6 42 gm rfl
    have k4 : H' x 11 = H x 11 := f x 11 1 gx rfl
    have k5 : H' m9 13 = H m9 13 := f m9 13 42 gm rfl
    have k6 : H' x 8 = H x 8 := f x 8 1 gx rfl
    have k7 : H' m9 3 = H m9 3 := f m9 3 42 gm rfl
    refine mc_ledcall (x := Int32.ofInt z) (a0 := x) (la := o) C hT hZ (w := w) ⟨by omega, by omega⟩ ⟨by omega, by omega⟩ (mc_led2r l (by show 3 ≤ 4; omega) q1) ?_
    rw [q5]
    exact (k 0 ⟨by decide, by decide⟩ T H' ⟨⟨q4, g0, gx, gm, go, by omega, by omega⟩, XI_fr hW gx f rfl hXI, by omega, by omega⟩ (by omega) (by omega)).2 w.2 q2
  · have hs1 : mc_seg (mc_kt L xs) (mc_call (mc_kt L xs) F 0) 0 4 false (some .int) prog_1_method_49_code n (0, lv_args 0 [.ref x, .int (Int32.ofInt z)], [], M) = some (46, L', [], M') := by
      unfold wq_sg at h1
      rw [mc_l166] at h1
      exact h1
    have hm1 := h2.1
    have hm2 := h2.2.1
    have hMet := mc_led2 l hfl (kt := mc_kt L xs) (G := G) (x := Int32.ofInt z) (x2 := Int32.ofInt z) (a0 := x) (la := o) (M := M) (M2 := M) (M1 := M') hx e6 ⟨rfl, rfl⟩ ⟨by omega, by omega⟩ wh_seg hs1
    have e1 : (M' ++ [mc_op]).length - M.length = 1 := by rw [List.length_append]; show M'.length + 1 - M.length = 1; omega
    have e2 : mc_sz (M' ++ [mc_op]) - mc_sz M = 6 := by rw [mc_sz_app, mc_sz_one]; show mc_sz M' + 6 - mc_sz M = 6; omega
    have e3 : (M' ++ [mc_op]).length = M.length + 1 := by rw [List.length_append]; show M'.length + 1 = M.length + 1; omega
    have e4 : mc_sz (M' ++ [mc_op]) = mc_sz M + 6 := by rw [mc_sz_app, mc_sz_one]; show mc_sz M' + 6 = mc_sz M + 6; omega
    have e5 : mc_rmL M (M' ++ [mc_op]) = mc_rm2 := by unfold mc_rmL mc_rm2; rw [e1, e2]
    have hg := h2.grow (e := mc_op) (s := (99, 6)) (g := fun _ => -1) ⟨by decide, rfl, fun j hj => ⟨rfl, trivial⟩⟩
    obtain ⟨hW', hold⟩ := wgrow_WT (s := (99, 6)) (n := mc_es mc_op) (g := fun _ => -1) h2 hW
    generalize wq_gH H (256 + T.2.1) (fun _ => -1) = H' at hg hW' hold
    have f : wfr [] T H H' := fun a j t ht _ => by rw [hold a t ht]
    have k1 : wKI H' m9 = wKI H m9 := wKI_fr hW gm f rfl
    have k2 : H' x 9 = H x 9 := f x 9 1 gx rfl
    have k3 : H' m9 6 = H m9 6 := f m9 6 42 gm rfl
    have k4 : H' x 11 = H x 11 := f x 11 1 gx rfl
    have k5 : H' m9 13 = H m9 13 := f m9 13 42 gm rfl
    have k6 : H' x 8 = H x 8 := f x 8 1 gx rfl
    have k7 : H' m9 3 = H m9 3 := f m9 3 42 gm rfl
    refine mc_ledcall (x := Int32.ofInt z) (a0 := x) (la := o) C hT hZ (w := (some (.int 1), M' ++ [mc_op])) ⟨by show M.length ≤ (M' ++ [mc_op]).length; omega, by show mc_sz M ≤ mc_sz (M' ++ [mc_op]); omega⟩ ⟨by show (M' ++ [mc_op]).length ≤ 601024; omega, by show mc_sz (M' ++ [mc_op]) ≤ 7293034; omega⟩ ?_ ?_
    · show Met l mc_y2 _ (mc_rmL M (M' ++ [mc_op])) _ _ ((M' ++ [mc_op]).length - M.length) (mc_sz (M' ++ [mc_op]) - mc_sz M) _
      rw [e5, e1, e2]
      exact hMet
    · exact (k 1 ⟨by decide, by decide⟩ (wq_gT T (99, 6) (mc_es mc_op)) H' ⟨⟨hW', g0, gx, gm, go, by omega, by omega⟩, (XI_fr (T := T) hW gx f rfl hXI : XI T H' x m9), by omega, by omega⟩ (by show T.2.1 + 1 ≤ _; omega) (by show T.2.2.1 + 6 ≤ _; omega)).2 (M' ++ [mc_op]) hg
theorem mc_TW_of {s : State} {args : Array Value} (hts : ∀ w ∈ lw_tbl, w.before args s = true) : mc_TW s := fun w hw => by
  have hk := List.all_eq_true.mp mc_TB_dk w hw
  have h1 := hts w (mc_ls_in (List.all_eq_true.mp mc_TH_in w (List.mem_filter.mp hw).1))
  cases w with
  | declares x => exact va_Nw.of rfl h1
  | castable C T => exact va_Nw.of rfl h1
  | _ => cases hk
theorem mc_TZ_of {s : State} {args : Array Value} {G : mc_G} (hbase : G.2.1 = s.heap.size) (hts : ∀ w ∈ lw_tbl, w.before args s = true) (hgv : (Jvm.Cond.and given_1 narrow_1).before args s = true) : mc_TZ G s s.heap := by
  have hfl : ∀ w ∈ mc_fl0, w.before args s = true := flat_of_before _ hgv
  have hA : ∀ a : Nat, a < s.heap.size → ¬ mc_A G a := fun a h h' => by
    have h' : G.2.1 ≤ a := h'
    omega
  have z1 := fun w hw => hts w (mc_ls_in (List.all_eq_true.mp mc_zl w hw))
  have z2 := fun w hw => hfl w (mc_ls_in (List.all_eq_true.mp mc_zr w hw))
  exact ⟨vx_Zqof (z1 _ (by simp)) (z1 _ (by simp)) (z2 _ (by simp)) hA, vx_Zqof (z1 _ (by simp)) (z1 _ (by simp)) (z2 _ (by simp)) hA⟩
theorem whole_start {p : Program} {e : Env} {s : State} {m : MethodId} {below : List Frame} {meth : Method} {c : Code} (l : Launch) (hflags : l.flags = flags0) {b L : Nat} {xs : Nat → Int32} (hL : L ≤ 3072) (C0 : lw_At p s m meth c b L xs) : W p l e room_1 s m #[Value.ref b] below meth c s.heap [] 0 0 (lw_Z below #[Value.ref b] s) (entryFrame m ([Value.ref b] : List Value).toArray 7) := by
  have hfl : l.stackTraces = false := by
    unfold Launch.stackTraces
    rw [hflags]
    decide +kernel
  obtain ⟨hx, hb, hr, hml, hown, hts, hX, hbl, hlk, hgv⟩ := C0
  obtain ⟨G, hbase, hG0, hB⟩ := mc_start hL hts hX hbl hgv
  have C : mc_X (mc_kt L xs) G 11 7 false (some .boolean) code p s m #[Value.ref b] meth c := ⟨hx, hb, hown, fun w hw => hts w (mc_ws_sub w hw), hml, hB, Nat.le_of_eq hbase, (fun h => by cases h), hlk, hr⟩
  have key : mc_W G p l e room_1 s m #[Value.ref b] below meth c (lw_Z below #[Value.ref b] s) 7 0 0 (0, [(0, .ref 0)], [], []) :=
    wbegin (wlX_W C hbase) (by omega) (by omega) hL (wled_W C hfl (mc_TW_of hts) (mc_TZ_of hbase hts hgv))
  have hl := lv_entry [Value.ref b] (n := 7) (by show 1 ≤ 7; omega)
  rw [lg_entry_eq]
  generalize (lg_sl [Value.ref b] ++ List.replicate (7 - (lg_sl [Value.ref b]).length) Slot.unset).toArray = ls at hl ⊢
  refine key s.heap [] ls 0 0 ⟨by rw [hbase]; rfl, fun k e h => by cases h⟩ va_S.rf ?_ rfl rfl
  have h2 : mc_L G [(0, Value.ref 0)] = lv_args 0 [Value.ref b] := by
    show [(0, Value.ref (mc_a G 0))] = [(0, Value.ref b)]
    rw [mc_a_lo (by decide), hG0]
  rw [h2]
  exact hl
