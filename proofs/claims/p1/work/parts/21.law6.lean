/-! A SCRIPT OF SIX, a short one (own work) -/
def mc_tg : List Nat := [256, 329, 354, 367, 380, 405, 454, 503, 517, 554, 579, 604, 617, 630, 643, 656, 669, 706, 720, 757, 794, 831, 884, 921, 946, 960, 997, 1023, 1060, 1113, 1166, 1179, 1204, 1229, 1254, 1267, 1320, 1333, 1346, 1371, 1408, 1433, 1458, 1471, 1508, 1521, 1535, 1592, 1648, 1673]
def mcA_hd : Bool := match mcA_lseg mcA_b0 24 with
  | some S => match S.2.2.1 with
    | [.inr (some _)] => decide (S.1 = 40) && decide (S.2.2.2.length ≤ 5000) && decide ((S.2.2.2.map mcA_es).sum ≤ 1000000)
    | _ => false
  | none => false
theorem mcA_hd_ok : mcA_hd = true := by decide +kernel
def mcA_sw : Bool := match mc_lawcd 40 with
  | some (.tableswitch d lo hi offs, _) => decide (d = 1646) && decide (lo = 0) && decide (hi = 49) && decide (offs.toList.map (fun o => (40 + o).toNat) = mc_tg) && offs.toList.all (fun o => decide (0 ≤ 40 + o))
  | _ => false
theorem mcA_sw_ok : mcA_sw = true := by decide +kernel
theorem mc_tg_in0 : (List.range 50).all (fun z => decide (z = 1) || decide (z = 47) || decide (z = 48) || [256, 354, 367, 380, 405, 454, 503, 517, 554, 579, 604, 617].contains (mc_tg.getD z 0) || [630, 643, 656, 669, 706, 720, 757, 794, 831, 884, 921, 946].contains (mc_tg.getD z 0) || [960, 997, 1023, 1060, 1113, 1166, 1179, 1204, 1229, 1254, 1267, 1320].contains (mc_tg.getD z 0) || [1333, 1346, 1371, 1408, 1433, 1458, 1471, 1508, 1521, 1535, 1673].contains (mc_tg.getD z 0)) = true := by decide +kernel
theorem mc_tg_in (z : Nat) (h : z < 50) (h1 : z ≠ 1) (h2 : z ≠ 47) (h3 : z ≠ 48) : mc_tg.getD z 0 ∈ [256, 354, 367, 380, 405, 454, 503, 517, 554, 579, 604, 617] ∨ mc_tg.getD z 0 ∈ [630, 643, 656, 669, 706, 720, 757, 794, 831, 884, 921, 946] ∨ mc_tg.getD z 0 ∈ [960, 997, 1023, 1060, 1113, 1166, 1179, 1204, 1229, 1254, 1267, 1320] ∨ mc_tg.getD z 0 ∈ [1333, 1346, 1371, 1408, 1433, 1458, 1471, 1508, 1521, 1535, 1673] := by
  have h0 := List.all_eq_true.mp mc_tg_in0 z (List.mem_range.mpr h)
  simp only [Bool.or_eq_true, decide_eq_true_eq, List.contains_iff_mem] at h0
  rcases h0 with (((((((h0 | h0) | h0) | h0) | h0) | h0) | h0))
  · exact absurd h0 h1
  · exact absurd h0 h2
  · exact absurd h0 h3
  · exact Or.inl h0
  · exact Or.inr (Or.inl h0)
  · exact Or.inr (Or.inr (Or.inl h0))
  · exact Or.inr (Or.inr (Or.inr h0))
theorem mcA_chk_of {l1 l2 : List mc_V} {tgts : List Nat} (h : mcA_chk l1 l2 tgts = true) {SA : mcA_S} (hs : mcA_lseg mcA_b0 24 = some SA) {t : Nat} (ht : t ∈ tgts) {b1 b2 : mc_V} (h1 : b1 ∈ l1) (h2 : b2 ∈ l2) : mcA_run b1 b2 t SA = true := by
  unfold mcA_chk at h
  rw [hs] at h
  simp only [Bool.and_eq_true] at h
  exact List.all_eq_true.mp (List.all_eq_true.mp (List.all_eq_true.mp h.2 t ht) b1 h1) b2 h2
section MC11
variable {p : Program} {l : Launch} {e : Env} {s : State} {m : MethodId} {below : List Frame} {meth : Method} {c : Code} {b : Nat} {xs : Nat → Int32} {G : mc_G}
/-- from a place of the switch with these bounds -/
theorem mc_six_at (C : mc_X (mc_kt 6 xs) G 11 7 false (some .boolean) code p s m #[Value.ref b] meth c) (hbase : G.2.1 = s.heap.size) {SA : mcA_S} {S : mc_S} (hS : mcA_gS SA S) {b1 b2 : mc_V} (h1 : mc_g b1 (.int (xs 1))) (h2 : mc_g b2 (.int (xs 2))) {t : Nat} (h : mcA_run b1 b2 t SA = true) : mc_W G p l e room_1 s m #[Value.ref b] below meth c (lw_Z below #[Value.ref b] s) 7 0 0 (t, S.2.1, [], S.2.2.2) :=
  mc_law_run C hbase (mcA_box_g h1 h2) (SA := (t, SA.2.1, [], SA.2.2.2)) ⟨rfl, hS.2.1, trivial, hS.2.2.2⟩ h
theorem mc_six (C : mc_X (mc_kt 6 xs) G 11 7 false (some .boolean) code p s m #[Value.ref b] meth c) (hbase : G.2.1 = s.heap.size)
    (hled : ∀ (SA : mcA_S) (S : mc_S), mcA_lseg mcA_b0 24 = some SA → mcA_gS SA S → mc_W G p l e room_1 s m #[Value.ref b] below meth c (lw_Z below #[Value.ref b] s) 7 0 0 (1592, S.2.1, [], S.2.2.2)) : mc_W G p l e room_1 s m #[Value.ref b] below meth c (lw_Z below #[Value.ref b] s) 7 0 0 (0, [(0, .ref 0)], [], []) := by
  have hk := mcA_kt_ok (L := 6) (xs := xs) (bx := mcA_b0) (fun j => mcA_top_g _)
  have h0 := mcA_hd_ok
  unfold mcA_hd at h0
  split at h0
  · next SA hSA =>
    split at h0
    · next z hz =>
      simp only [Bool.and_eq_true, decide_eq_true_eq] at h0
      obtain ⟨⟨h40, hf1⟩, hf2⟩ := h0
      obtain ⟨S, h1, hS⟩ := mcA_seg_ok hk (mcA_call_ok hk 15) (cc := code) (fun pc x hd => mc_lawcd_ok hd) 24 mcA_S0 (0, [(0, .ref 0)], [], []) SA ⟨rfl, ⟨⟨rfl, rfl⟩, trivial⟩, trivial, trivial⟩ hSA
      have hfit : S.2.2.2.length ≤ 600002 ∧ mc_sz S.2.2.2 ≤ 7302232 := by
        have h7 := hS.2.2.2
        rw [← h7.len, mcA_sz_eq h7]
        exact ⟨by omega, by omega⟩
      refine mc_seg_ok (R := room_1) C (mc_call_ok l 15) (mc_call_le 15) ⟨by decide, by decide⟩ hfit ?_ 24 _ h1
      obtain ⟨pc, Lc, st, M⟩ := S
      have hpc : pc = 40 := hS.1.symm.trans h40
      subst hpc
      have hst : mcA_R2 mc_g SA.2.2.1 st := hS.2.2.1
      rw [hz] at hst
      match st, hst with
      | [v], hst =>
        obtain ⟨x, hx, -, -⟩ := hst.1
        subst hx
        have hsw := mcA_sw_ok
        unfold mcA_sw at hsw
        split at hsw
        · next d lo hi offs n hd =>
          simp only [Bool.and_eq_true, decide_eq_true_eq] at hsw
          obtain ⟨⟨⟨⟨rfl, rfl⟩, rfl⟩, ho⟩, hp⟩ := hsw
          have hd' : decode code 40 = .ok (.tableswitch 1646 0 49 offs, n) := mc_lawcd_ok hd
          have go : ∀ t : Nat, mc_tsw 1646 0 49 offs 40 Lc [.int x] M = some (.inl (t, Lc, [], M)) → mc_W G p l e room_1 s m #[Value.ref b] below meth c (lw_Z below #[Value.ref b] s) 7 0 0 (t, Lc, [], M) → mc_W G p l e room_1 s m #[Value.ref b] below meth c (lw_Z below #[Value.ref b] s) 7 0 0 (40, Lc, [.int x], M) := fun t ht kk =>
            mc_step_ok (R := room_1) C (call := mc_call (mc_kt 6 xs) mcA_F 15) (mc_call_ok l 15) ⟨by decide, by decide⟩ hd' (S0 := (40, Lc, [.int x], M)) (S := (t, Lc, [], M)) ht hfit kk
          obtain ⟨b1, hb1, g1⟩ := mcA_bA_g (xs 1)
          obtain ⟨b2, hb2, g2⟩ := mcA_bC_g (xs 2)
          obtain ⟨b3, hb3, g3⟩ := mcA_bB_g (xs 1)
          by_cases hx : x.toInt < 0 ∨ 49 < x.toInt
          · refine go 1686 ?_ (mc_six_at (S := (40, Lc, [.int x], M)) C hbase hS g3 (mcA_top_g _) (mcA_chk_of mcA_ok_b hSA (by decide) hb3 List.mem_cons_self))
            show (if x.toInt < 0 ∨ 49 < x.toInt then mc_jp 40 1646 Lc [] M else match offs[(x.toInt - 0).toNat]? with | some off => mc_jp 40 off Lc [] M | none => none) = _
            rw [if_pos hx]
            rfl
          · obtain ⟨k, hk50⟩ : ∃ k : Nat, x.toInt = (k : Int) := ⟨x.toInt.toNat, by omega⟩
            have hk5 : k < 50 := by omega
            have hlo : offs.toList.length = 50 := by
              have := congrArg List.length ho
              rw [List.length_map] at this
              exact this
            have hto : ∃ off : Int, offs[k]? = some off ∧ 0 ≤ 40 + off ∧ (40 + off).toNat = mc_tg.getD k 0 := by
              have hk6 : k < offs.toList.length := by omega
              refine ⟨offs.toList[k], ?_, ?_, ?_⟩
              · rw [← Array.getElem?_toList]
                exact List.getElem?_eq_getElem hk6
              · exact of_decide_eq_true (List.all_eq_true.mp hp _ (List.getElem_mem hk6))
              · rw [← ho, List.getD_eq_getElem?_getD, List.getElem?_map, List.getElem?_eq_getElem hk6]
                rfl
            obtain ⟨off, ho1, ho2, ho3⟩ := hto
            have hjp : mc_tsw 1646 0 49 offs 40 Lc [.int x] M = some (.inl (mc_tg.getD k 0, Lc, [], M)) := by
              show (if x.toInt < 0 ∨ 49 < x.toInt then mc_jp 40 1646 Lc [] M else match offs[(x.toInt - 0).toNat]? with | some off => mc_jp 40 off Lc [] M | none => none) = _
              rw [if_neg hx, hk50, Int.sub_zero, Int.toNat_natCast, ho1]
              show mc_jp 40 off Lc [] M = _
              unfold mc_jp
              rw [if_pos (by exact ho2)]
              show mc_go (((40 : Nat) : Int) + off).toNat Lc [] M = _
              rw [show (((40 : Nat) : Int) + off).toNat = mc_tg.getD k 0 from ho3]
              rfl
            refine go _ hjp ?_
            by_cases k1 : k = 1
            · subst k1
              exact mc_six_at (S := (40, Lc, [.int x], M)) C hbase hS g3 (mcA_top_g _) (mcA_chk_of mcA_ok_b hSA (by decide) hb3 List.mem_cons_self)
            · by_cases k48 : k = 48
              · subst k48
                exact mc_six_at (S := (40, Lc, [.int x], M)) C hbase hS g3 (mcA_top_g _) (mcA_chk_of mcA_ok_b hSA (by decide) hb3 List.mem_cons_self)
              · by_cases k47 : k = 47
                · subst k47
                  exact hled SA (40, Lc, [.int x], M) hSA hS
                · rcases mc_tg_in k hk5 k1 k47 k48 with h | h | h | h
                  · exact mc_six_at (S := (40, Lc, [.int x], M)) C hbase hS g1 g2 (mcA_chk_of mcA_ok_0 hSA h hb1 hb2)
                  · exact mc_six_at (S := (40, Lc, [.int x], M)) C hbase hS g1 g2 (mcA_chk_of mcA_ok_1 hSA h hb1 hb2)
                  · exact mc_six_at (S := (40, Lc, [.int x], M)) C hbase hS g1 g2 (mcA_chk_of mcA_ok_2 hSA h hb1 hb2)
                  · exact mc_six_at (S := (40, Lc, [.int x], M)) C hbase hS g1 g2 (mcA_chk_of mcA_ok_3 hSA h hb1 hb2)
        · cases hsw
    · cases h0
  · cases h0
theorem mcA_short : ∀ L, L < 6 → mcA_chk0 L = true
  | 0, _ => mcA_ok0_0
  | 1, _ => mcA_ok0_1
  | 2, _ => mcA_ok0_2
  | 3, _ => mcA_ok0_3
  | 4, _ => mcA_ok0_4
  | 5, _ => mcA_ok0_5
  | L + 6, h => absurd h (by omega)
end MC11
/-- THE WALK, but for the one case with an exception -/
theorem mc_walk {p : Program} {e : Env} {s : State} {m : MethodId} {below : List Frame} {meth : Method} {c : Code} (l : Launch) {b L : Nat} {xs : Nat → Int32} (hL : L ≤ 6) (C0 : lw_At p s m meth c b L xs)
    (hled : ∀ (G : mc_G), G.2.1 = s.heap.size → mc_X (mc_kt 6 xs) G 11 7 false (some .boolean) code p s m #[Value.ref b] meth c → ∀ (SA : mcA_S) (S : mc_S), mcA_lseg mcA_b0 24 = some SA → mcA_gS SA S → mc_W G p l e room_1 s m #[Value.ref b] below meth c (lw_Z below #[Value.ref b] s) 7 0 0 (1592, S.2.1, [], S.2.2.2)) :
    W p l e room_1 s m #[Value.ref b] below meth c s.heap [] 0 0 (lw_Z below #[Value.ref b] s) (entryFrame m ([Value.ref b] : List Value).toArray 7) := by
  obtain ⟨hx, hb, hr, hml, hown, hts, hX, hbl, hlk, hgv⟩ := C0
  obtain ⟨G, hbase, hG0, hB⟩ := mc_start hL hts hX hbl hgv
  have C : mc_X (mc_kt L xs) G 11 7 false (some .boolean) code p s m #[Value.ref b] meth c := ⟨hx, hb, hown, fun w hw => hts w (mc_ws_sub w hw), hml, hB, Nat.le_of_eq hbase, (fun h => by cases h), hlk, hr⟩
  have key : mc_W G p l e room_1 s m #[Value.ref b] below meth c (lw_Z below #[Value.ref b] s) 7 0 0 (0, [(0, .ref 0)], [], []) := by
    by_cases h6 : L = 6
    · subst h6
      exact mc_six C hbase (hled G hbase C)
    · have h1 := mcA_short L (by omega)
      unfold mcA_chk0 at h1
      exact mc_law_run C hbase (fun j => mcA_top_g _) (SA := mcA_S0) (S := (0, [(0, .ref 0)], [], [])) ⟨rfl, ⟨⟨rfl, rfl⟩, trivial⟩, trivial, trivial⟩ h1
  have hl := lv_entry [Value.ref b] (n := 7) (by show 1 ≤ 7; omega)
  rw [lg_entry_eq]
  generalize (lg_sl [Value.ref b] ++ List.replicate (7 - (lg_sl [Value.ref b]).length) Slot.unset).toArray = ls at hl ⊢
  refine key s.heap [] ls 0 0 ⟨by rw [hbase]; rfl, fun k e h => by cases h⟩ va_S.rf ?_ rfl rfl
  have h2 : mc_L G [(0, Value.ref 0)] = lv_args 0 [Value.ref b] := by
    show [(0, Value.ref (mc_a G 0))] = [(0, Value.ref b)]
    rw [mc_a_lo (by decide), hG0]
  rw [h2]
  exact hl
