/-! THE LED CASE'S WALK, and the whole (own work) -/
theorem mcA_sm_ok {A B : mcA_M} {M N : mc_M} (h : mcA_sm A B = true) (hM : mcA_R2 mcA_gE A M) (hN : mcA_R2 mcA_gE B N) : M.length = N.length ∧ mc_sz M = mc_sz N := by
  unfold mcA_sm at h
  simp only [Bool.and_eq_true, decide_eq_true_eq] at h
  exact ⟨by rw [← hM.len, ← hN.len]; exact h.1, by rw [mcA_sz_eq hM, mcA_sz_eq hN]; exact h.2⟩
theorem mcA_is0_ok {A : mcA_M} {M : mc_M} {k : Nat} (h : mcA_is0 A[k]? = true) (hM : mcA_R2 mcA_gE A M) : ∃ fs, M[k]? = some (.inr (0, fs)) := by
  unfold mcA_is0 at h
  split at h
  · next z hz =>
    obtain ⟨b, h1, h2⟩ := hM.at hz
    match b, h2 with
    | .inr y, h2 =>
      obtain ⟨y1, y2⟩ := y
      have h3 : z.1 = y1 := h2.1
      have h4 : z.1 = 0 := of_decide_eq_true h
      rw [h4] at h3
      subst h3
      exact ⟨y2, h1⟩
  · cases h
section MC14
variable {p : Program} {l : Launch} {e : Env} {s : State} {m : MethodId} {below : List Frame} {meth : Method} {c : Code} {b : Nat} {xs : Nat → Int32} {G : mc_G}
/-- the law's call of led, at its place -/
theorem mc_ledcall (C : mc_X (mc_kt 6 xs) G 11 7 false (some .boolean) code p s m #[Value.ref b] meth c) (hfl : l.stackTraces = false) (hT : mc_TW s) (hZ : mc_TZ G s s.heap) {x x2 : Int32} {a0 la : Nat} {fs : List Value} {M M2 M1 : mc_M} {L Lx L2 : List (Nat × Value)} (ha0 : 256 ≤ a0) (hrc : M2[a0 - 256]? = some (.inr (0, fs)))
    (hM2 : M2.length = M.length ∧ mc_sz M2 = mc_sz M) (hM1 : M1.length = M2.length ∧ mc_sz M1 = mc_sz M2) (hfit : M.length ≤ 5000 ∧ mc_sz M ≤ 1000000)
    (hseg2 : mc_seg (mc_kt 6 xs) (fun _ _ _ => none) 11 4 false (some .int) method_3_code 4 (0, lv_args 0 [.ref a0, .int x, .ref la], [], M) = some (4, L2, [.int x2, .ref a0, .int 0, .ref la], M2))
    (hseg1 : mc_seg (mc_kt 6 xs) (fun _ _ _ => none) 0 4 false (some .int) prog_1_method_49_code 9 (0, lv_args 0 [.ref a0, .int x2], [], M2) = some (46, Lx, [], M1))
    (kk : mc_W G p l e room_1 s m #[Value.ref b] below meth c (lw_Z below #[Value.ref b] s) 7 0 0 (1603, L, [.int 1], M1 ++ [mc_op])) : mc_W G p l e room_1 s m #[Value.ref b] below meth c (lw_Z below #[Value.ref b] s) 7 0 0 (1600, L, [.ref la, .int x, .ref a0], M) := by
  have hM := mc_led2 l hfl (kt := mc_kt 6 xs) (G := G) (la := la) ha0 hrc hM2 hM1 hseg2 hseg1
  have C0 := C
  obtain ⟨hx, hb9, hown, hts, hml, hB, hba, hini, hlk, hret⟩ := C
  have e1 : (M1 ++ [mc_op]).length - M.length = 1 := by rw [List.length_append]; show M1.length + 1 - M.length = 1; omega
  have e2 : mc_sz (M1 ++ [mc_op]) - mc_sz M = 6 := by rw [mc_sz_app, mc_sz_one]; show mc_sz M1 + 6 - mc_sz M = 6; omega
  have hle : mc_le M (M1 ++ [mc_op]) := ⟨by rw [List.length_append]; show M.length ≤ M1.length + 1; omega, by rw [mc_sz_app]; omega⟩
  intro H locs ls cells slots hH hS hl hc hz
  have hH : mc_H G M H := hH
  have hl : lv_has ls 7 (mc_L G L) := hl
  have hc : cells + 0 = M.length := hc
  have hz : slots + 0 = mc_sz M := hz
  refine mc_after (w := (some (.int 1), M1 ++ [mc_op])) (M := M) (L := L) (nL := 7) (l0 := 0) (z0 := 0) (rest := []) (a := (([.ref a0, .int x, .ref la] : List Value).map (mc_v G)).toArray) hS ?_ hle hl hc hz kk
  show va_Run p l e room_1 s m #[Value.ref b] below meth c H locs cells slots ((M1 ++ [mc_op]).length - M.length) (mc_sz (M1 ++ [mc_op]) - mc_sz M) (F0 m 1600 ls (([.ref la, .int x, .ref a0] : List Value).map (mc_v G))) [] (mc_Qc G (some (.int 1), M1 ++ [mc_op]) (([.ref a0, .int x, .ref la] : List Value).map (mc_v G)).toArray) (mc_A G)
  rw [e1, e2]
  have hPS : PreS s H (mc_PT (mc_kt 6 xs) G M [.ref a0, .int x, .ref la]) (([.ref a0, .int x, .ref la] : List Value).map (mc_v G)) := ⟨mc_PT_blind, fun U hU hW => mc_preT C0 hT hZ hH hS hU hW⟩
  have w1 : (Cond.methodLink "StrikeAwakeLaw" 220 mc_y2).before #[Value.ref b] s = true := hts _ (mc_wl_at (by unfold mc_y2; simp))
  have w2 : (Cond.static mc_y2).before #[Value.ref b] s = true := hts _ (mc_wl_at (by unfold mc_y2; simp))
  have w3 : (Cond.initialized "StrikeAwakeLaw").before #[Value.ref b] s = true := hts _ (mc_wl_at (by simp))
  have w4 : Cond.codeWith mc_y2 method_3_code 4 (some .int) [(0, 9, 12, 13)] ∈ mc_ws := mc_wl_at (by unfold mc_y2; simp)
  have hnp : (parseMethodDescriptor mc_y2.desc).map (fun d => d.parameters.length) = some 3 := by decide +kernel
  have hhf : 7 + 1 ≤ room_1.frames := by decide
  have hhl : 8 + (4 + 11) + 120 ≤ room_1.locals := by decide
  have hhc : cells + 1 ≤ room_1.cells := by show cells + 1 ≤ 600002; omega
  have hhs : slots + 6 ≤ room_1.slots := by show slots + 6 ≤ 7302232; omega
  have hn1 : mc_y2.cls ≠ "java/lang/invoke/MethodHandle" := by decide +kernel
  have hn2 : mc_y2.cls ≠ "java/lang/invoke/VarHandle" := by decide +kernel
  exact vx_runSW (Ts := mc_ws) (own := "StrikeAwakeLaw") (index := 220) (bytes := method_3_code) (maxL := 4) (ret := some .int) (hh := [(0, 9, 12, 13)]) (n := 3) (cc := code) (nL := 7) ⟨hx, hb9, hml, hown, hts⟩ hM
    ⟨⟨rfl, rfl, hhf, hhl, mc_pay hts w4, List.mem_cons_self⟩, hts _ w4, w3, ⟨hn1, hn2⟩, mc_npar hnp, w1, w2⟩ hPS rfl rfl hl.1 rfl (lv_room (by show 0 ≤ 8; omega)) mc_dec3 ⟨hhc, hhs⟩
theorem mc_ledcase (C : mc_X (mc_kt 6 xs) G 11 7 false (some .boolean) code p s m #[Value.ref b] meth c) (hbase : G.2.1 = s.heap.size) (hfl : l.stackTraces = false) (hT : mc_TW s) (hZ : mc_TZ G s s.heap) (SA : mcA_S) (S : mc_S) (hSA : mcA_lseg mcA_b0 24 = some SA) (hS : mcA_gS SA S) : mc_W G p l e room_1 s m #[Value.ref b] below meth c (lw_Z below #[Value.ref b] s) 7 0 0 (1592, S.2.1, [], S.2.2.2) := by
  have hk := mcA_kt_ok (L := 6) (xs := xs) (bx := mcA_b0) (fun j => mcA_top_g _)
  have h0 := mcA_kq0_ok
  unfold mcA_kq0 at h0
  rw [hSA] at h0
  have h0 : mcA_kq1 SA = true := h0
  unfold mcA_kq1 at h0
  split at h0
  · next SB hB =>
    split at h0
    · next la r a0 hst =>
      simp only [Bool.and_eq_true, decide_eq_true_eq] at h0
      obtain ⟨⟨⟨⟨h1600, hf1⟩, hf2⟩, ha0⟩, h0⟩ := h0
      unfold mcA_kq2 at h0
      split at h0
      · next SC hC =>
        split at h0
        · next r2 a2 z la2 hst2 =>
          simp only [Bool.and_eq_true, decide_eq_true_eq] at h0
          obtain ⟨⟨⟨⟨⟨⟨h4, rfl⟩, rfl⟩, rfl⟩, hsm2⟩, his0⟩, h0⟩ := h0
          unfold mcA_kq3 at h0
          split at h0
          · next SD hD =>
            simp only [Bool.and_eq_true, decide_eq_true_eq] at h0
            obtain ⟨⟨⟨h46, hst3⟩, hsm1⟩, hE⟩ := h0
            obtain ⟨S1, s1, hS1⟩ := mcA_seg_ok hk (mcA_call_ok hk 15) (cc := code) (fun pc x hd => mc_lawcd_ok hd) 7 (1592, SA.2.1, [], SA.2.2.2) (1592, S.2.1, [], S.2.2.2) SB ⟨rfl, hS.2.1, trivial, hS.2.2.2⟩ hB
            have hfit5 : S1.2.2.2.length ≤ 5000 ∧ mc_sz S1.2.2.2 ≤ 1000000 := by
              have h7 := hS1.2.2.2
              rw [← h7.len, mcA_sz_eq h7]
              exact ⟨hf1, hf2⟩
            refine mc_seg_ok (R := room_1) C (mc_call_ok l 15) (mc_call_le 15) ⟨by decide, by decide⟩ (T := S1) ⟨by show S1.2.2.2.length ≤ 600002; omega, by show mc_sz S1.2.2.2 ≤ 7302232; omega⟩ ?_ 7 _ s1
            obtain ⟨pc, Lc, st, M⟩ := S1
            have hpc : pc = 1600 := hS1.1.symm.trans h1600
            subst hpc
            have hst' : mcA_R2 mc_g SB.2.2.1 st := hS1.2.2.1
            rw [hst] at hst'
            match st, hst' with
            | [v1, v2, v3], hst' =>
              obtain ⟨g1, g2, g3, -⟩ := hst'
              have g1 : v1 = .ref la2 := g1
              have g3 : v3 = .ref a2 := g3
              subst g1
              subst g3
              obtain ⟨x, rfl, gx1, gx2⟩ := g2
              obtain ⟨S2, s2, hS2⟩ := mcA_seg_ok hk (callA := mcA_noc) (call := fun _ _ _ => none) (fun k vs xs MA M w _ _ h => by cases h) (cc := method_3_code) (fun pc x hd => mcA_dc_ok hd) 4 (0, mcA_args 0 [.inl (.ref a2), .inr (some r), .inl (.ref la2)], [], SB.2.2.2) (0, lv_args 0 [.ref a2, .int x, .ref la2], [], M) SC ⟨rfl, mcA_args_ok (vs := [.inl (.ref a2), .inr (some r), .inl (.ref la2)]) (xs := [.ref a2, .int x, .ref la2]) ⟨rfl, ⟨x, rfl, gx1, gx2⟩, rfl, trivial⟩ 0, trivial, hS1.2.2.2⟩ hC
              obtain ⟨pc2, L2, st2, M2⟩ := S2
              have hpc2 : pc2 = 4 := hS2.1.symm.trans h4
              subst hpc2
              have hst2' : mcA_R2 mc_g SC.2.2.1 st2 := hS2.2.2.1
              rw [hst2] at hst2'
              match st2, hst2' with
              | [u1, u2, u3, u4], hst2' =>
                obtain ⟨k1, k2, k3, k4, -⟩ := hst2'
                have k2 : u2 = .ref a2 := k2
                have k3 : u3 = .int 0 := k3
                have k4 : u4 = .ref la2 := k4
                subst k2
                subst k3
                subst k4
                obtain ⟨x2, rfl, gy1, gy2⟩ := k1
                obtain ⟨S3, s3, hS3⟩ := mcA_seg_ok hk (callA := mcA_noc) (call := fun _ _ _ => none) (fun k vs xs MA M w _ _ h => by cases h) (cc := prog_1_method_49_code) (fun pc x hd => mcA_dc_ok hd) 9 (0, mcA_args 0 [.inl (.ref a2), .inr (some r2)], [], SC.2.2.2) (0, lv_args 0 [.ref a2, .int x2], [], M2) SD ⟨rfl, mcA_args_ok (vs := [.inl (.ref a2), .inr (some r2)]) (xs := [.ref a2, .int x2]) ⟨rfl, ⟨x2, rfl, gy1, gy2⟩, trivial⟩ 0, trivial, hS2.2.2.2⟩ hD
                obtain ⟨pc3, L3, st3, M3⟩ := S3
                have hpc3 : pc3 = 46 := hS3.1.symm.trans h46
                subst hpc3
                have hst3' : SD.2.2.1.length = st3.length := hS3.2.2.1.len
                have hst4 : st3 = [] := List.eq_nil_of_length_eq_zero (hst3'.symm.trans hst3)
                subst hst4
                obtain ⟨fs, hrc⟩ := mcA_is0_ok his0 (M := M2) hS2.2.2.2
                have hkk : mc_W G p l e room_1 s m #[Value.ref b] below meth c (lw_Z below #[Value.ref b] s) 7 0 0 (1603, Lc, [.int 1], M3 ++ [mc_op]) :=
                  mc_law_run C hbase (bx := mcA_b0) (fun j => mcA_top_g _) (SA := (1603, SB.2.1, [.inl (.int 1)], SD.2.2.2 ++ [mcA_opA])) (S := (1603, Lc, [.int 1], M3 ++ [mc_op])) ⟨rfl, hS1.2.1, ⟨rfl, trivial⟩, mcA_R2.app (as := SD.2.2.2) (bs := M3) (as' := [mcA_opA]) (bs' := [mc_op]) hS3.2.2.2 ⟨⟨rfl, rfl, fun _ => rfl⟩, trivial⟩⟩ hE
                exact mc_ledcall C hfl hT hZ ha0 hrc (mcA_sm_ok hsm2 hS2.2.2.2 hS1.2.2.2) (mcA_sm_ok hsm1 hS3.2.2.2 hS2.2.2.2) hfit5 s2 s3 hkk
          · cases h0
        · cases h0
      · cases h0
    · cases h0
  · cases h0
end MC14
theorem mc_TW_of {s : State} {args : Array Value} (hts : ∀ w ∈ lw_tbl, w.before args s = true) : mc_TW s := fun w hw => by
  have hk := List.all_eq_true.mp mc_TB_dk w hw
  have h1 := hts w (mc_ls_in (List.all_eq_true.mp mc_TH_in w (List.mem_filter.mp hw).1))
  cases w with
  | declares x => exact va_Nw.of rfl h1
  | castable C T => exact va_Nw.of rfl h1
  | _ => cases hk
theorem mc_TZ_of {s : State} {args : Array Value} {G : mc_G} (hbase : G.2.1 = s.heap.size) (hts : ∀ w ∈ lw_tbl, w.before args s = true) (hgv : (Jvm.Cond.and given_1 narrow_1).before args s = true) : mc_TZ G s s.heap := by
  have hfl : ∀ w ∈ mc_fl0, w.before args s = true := flat_of_before _ hgv
  have hA : ∀ a : Nat, a < s.heap.size → ¬ mc_A G a := fun a h h' => by
    have h' : G.2.1 ≤ a := h'
    omega
  have z1 := fun w hw => hts w (mc_ls_in (List.all_eq_true.mp mc_zl w hw))
  have z2 := fun w hw => hfl w (mc_ls_in (List.all_eq_true.mp mc_zr w hw))
  exact ⟨vx_Zqof (z1 _ (by simp)) (z1 _ (by simp)) (z2 _ (by simp)) hA, vx_Zqof (z1 _ (by simp)) (z1 _ (by simp)) (z2 _ (by simp)) hA⟩
theorem whole_start {p : Program} {e : Env} {s : State} {m : MethodId} {below : List Frame} {meth : Method} {c : Code} (l : Launch) (hflags : l.flags = flags0) {b L : Nat} {xs : Nat → Int32} (hL : L ≤ 6) (C0 : lw_At p s m meth c b L xs) : W p l e room_1 s m #[Value.ref b] below meth c s.heap [] 0 0 (lw_Z below #[Value.ref b] s) (entryFrame m ([Value.ref b] : List Value).toArray 7) := by
  have hfl : l.stackTraces = false := by
    unfold Launch.stackTraces
    rw [hflags]
    decide +kernel
  exact mc_walk l hL C0 fun G hbase C SA S hSA hS => mc_ledcase C hbase hfl (mc_TW_of C0.2.2.2.2.2.1) (mc_TZ_of hbase C0.2.2.2.2.2.1 C0.2.2.2.2.2.2.2.2.2) SA S hSA hS
