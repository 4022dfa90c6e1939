
section MC5

variable {kt : Nat → Option mc_E} {own : Nat} {ini : Bool} {ret : Option FieldType} {cc : ByteArray}

variable {G : mc_G} {p : Program} {l : Launch} {e : Env} {R : Room} {s : State} {m : MethodId} {args : Array Value} {below : List Frame} {meth : Method} {c : Code} {Q : State → Prop} {nL l0 z0 : Nat}

variable {pc : Nat} {L : List (Nat × Value)} {st : List Value} {M : mc_M} {S : mc_S}
theorem mc_sumcat (G : mc_G) (st : List Value) : ((st.map (mc_v G)).map fun v => v.category).sum = (st.map Value.category).sum := by
  rw [List.map_map]
  congr 1
  apply List.map_congr_left
  intro v _
  exact mc_v_cat G v
/-- what a call's own test says -/
theorem mc_cal_inv {call : Nat → List Value → mc_M → Option mc_R} {sort idx : Nat} (h : mc_cal call own sort idx pc L st M = some (.inl S)) :
    ∃ (en : Nat × Bool × String × Nat × Nat) (q : Nat × MethodName × ByteArray × Nat × Option FieldType × Nat × Nat) (w : mc_R) (n : Nat), mc_find (mc_ml.getD own []) idx = some en ∧ mc_mt en.1 = some q ∧ n = (if sort = 0 then q.2.2.2.2.2.1 else q.2.2.2.2.2.1 + 1) ∧ call en.1 ((st.take n).reverse) M = some w ∧ q.2.2.2.2.2.2 = sort ∧ ((st.drop n).map Value.category).sum ≤ 8 ∧ n ≤ st.length ∧
      (sort ≠ 0 → ∃ (b : Nat) (z : Nat × List Value), st[q.2.2.2.2.2.1]? = some (.ref b) ∧ 256 ≤ b ∧ M[b - 256]? = some (.inr z) ∧ z.1 = q.1) ∧ S = (pc + 3, L, mc_rs w.1 ++ st.drop n, w.2) := by
  unfold mc_cal at h
  split at h
  · next en he =>
    split at h
    · next q hq =>
      split at h
      · next w hw =>
        obtain ⟨hok, h⟩ := mc_n_t h
        simp only [Bool.and_eq_true, beq_iff_eq, decide_eq_true_eq] at hok
        obtain ⟨⟨⟨e1, e2⟩, e3⟩, e4⟩ := hok
        refine ⟨en, q, w, _, he, hq, rfl, hw, e1, e2, e3, fun hs => ?_, mc_go_S h⟩
        have hs' : (sort == 0) = false := by simpa using hs
        rw [hs', Bool.false_or] at e4
        split at e4
        · next b hb =>
          simp only [Bool.and_eq_true, decide_eq_true_eq] at e4
          obtain ⟨e5, e6⟩ := e4
          split at e6
          · next z hz => exact ⟨b, z, hb, e5, hz, by simpa using e6⟩
          · cases e6
        · cases e4
      · cases h
    · cases h
  · cases h
theorem mc_split {n : Nat} {b : Nat} (hb : st[n]? = some (.ref b)) (hn : n + 1 ≤ st.length) : st.map (mc_v G) = ((st.take n).map (mc_v G)) ++ .ref (mc_a G b) :: (st.drop (n + 1)).map (mc_v G) ∧ ((st.take (n + 1)).reverse).map (mc_v G) = .ref (mc_a G b) :: ((st.take n).reverse).map (mc_v G) ∧ ((st.take n).reverse.map (mc_v G)).length = n := by
  have hl : n < st.length := hn
  have hg : st[n] = .ref b := Option.some.inj ((List.getElem?_eq_getElem hl).symm.trans hb)
  refine ⟨?_, ?_, ?_⟩
  · conv => lhs; rw [← List.take_append_drop n st, List.drop_eq_getElem_cons hl, hg]
    rw [List.map_append, List.map_cons]
    rfl
  · rw [List.take_succ_eq_append_getElem hl, hg, List.reverse_append]
    rfl
  · rw [List.length_map, List.length_reverse, List.length_take]
    omega
theorem mc_r_calV (C : mc_X kt G own nL ini ret cc p s m args meth c) {call : Nat → List Value → mc_M → Option mc_R} {d idx : Nat} (IH : ∀ (k : Nat) (q : Nat × MethodName × ByteArray × Nat × Option FieldType × Nat × Nat) (as : List Value) (M : mc_M) (w : mc_R), mc_mt k = some q → call k as M = some w → mc_Met l kt G d q as M w ∧ mc_le M w.2) (hF : d + 6 ≤ R.frames ∧ 36 * (d + 6) ≤ R.locals)
    (hd : decode cc pc = .ok (.invokevirtual idx, 3)) (h : mc_cal call own 1 idx pc L st M = some (.inl S)) (hR : S.2.2.2.length ≤ R.cells + l0 ∧ mc_sz S.2.2.2 ≤ R.slots + z0) (k : mc_W G p l e R s m args below meth c Q nL l0 z0 S) : mc_W G p l e R s m args below meth c Q nL l0 z0 (pc, L, st, M) := by
  obtain ⟨en, q, w, n, he, hq, hn, hw, hso, hsum, hnl, hrc, hS9⟩ := mc_cal_inv h
  rw [hS9] at k hR
  obtain ⟨b, z, hb, hb0, hz9, hzc⟩ := hrc (by decide)
  obtain ⟨hM, hle⟩ := IH en.1 q _ M w hq hw
  obtain ⟨f1, f2, f3, f4, f5, f6, f7, f8, f9, f10, f11⟩ := mc_mfacts hq
  have C0 := C
  obtain ⟨hx, hb9, hown, hts, hml, hB, hba, hini, hlk, hret⟩ := C
  have hn' : n = q.2.2.2.2.2.1 + 1 := hn
  subst hn'
  obtain ⟨g1, g2, g3⟩ := mc_split (G := G) hb hnl
  intro H locs ls cells slots hH hS hl hc hz
  have hc : cells + l0 = M.length := hc
  have hz : slots + z0 = mc_sz M := hz
  have hf : cells + (w.2.length - M.length) ≤ R.cells ∧ slots + (mc_sz w.2 - mc_sz M) ≤ R.slots := by
    have h1 : w.2.length ≤ R.cells + l0 := hR.1
    have h2 : mc_sz w.2 ≤ R.slots + z0 := hR.2
    have := hle.1
    have := hle.2
    exact ⟨by omega, by omega⟩
  have hsz := hl.1
  have hW : 2 * (F0 m pc ls (st.map (mc_v G))).monitorRoom + (((st.drop (q.2.2.2.2.2.1 + 1)).map (mc_v G)).map fun v => v.category).sum ≤ 8 := lv_room (by rw [mc_sumcat]; exact hsum)
  have hrcv : ∃ cellB : Cell, H[mc_a G b]? = some cellB ∧ cellB.vm.isStatics = false ∧ s.vm.findClass (mc_cn q.1) = some cellB.cls := by
    obtain ⟨r9, y1, cell, y2, y3, y4, -⟩ := hH.at hb0 hz9
    have hr9 := mc_cl_eq y1
    subst hr9
    refine ⟨cell, y2, by rw [y4]; rfl, ?_⟩
    rw [y3, ← hzc]
    exact (hB.1.1 z.1 _ y1).2.1
  refine mc_after (w := w) (M := M) (L := L) (nL := nL) (l0 := l0) (z0 := z0) (rest := st.drop (q.2.2.2.2.2.1 + 1)) (a := (Value.ref (mc_a G b) :: ((st.take q.2.2.2.2.2.1).reverse).map (mc_v G)).toArray) hS ?_ hle hl hc hz k
  have hPV : PreV s H (mc_cn q.1) (mc_a G b) (mc_Pc kt G M ((st.take (q.2.2.2.2.2.1 + 1)).reverse)) (((st.take q.2.2.2.2.2.1).reverse).map (mc_v G)) := ⟨mc_blind, hrcv, fun U hU hW => by rw [← g2]; exact mc_pre C0 hH hS hU hW⟩
  have hstk : (F0 m pc ls (st.map (mc_v G))).stack = (((st.take q.2.2.2.2.2.1).reverse).map (mc_v G)).reverse ++ .ref (mc_a G b) :: (st.drop (q.2.2.2.2.2.1 + 1)).map (mc_v G) := by
    show st.map (mc_v G) = _
    rw [g1, ← List.map_reverse, List.reverse_reverse]
  rcases mc_mword hts hB.2.2.1 he hq with hlk9 | ⟨host, hlk9⟩
  · exact va_runV (Ts := mc_ws) ⟨hx, hb9, hml, hown, hts⟩ hM ⟨⟨rfl, rfl, hF.1, by show 8 + (q.2.2.2.1 + 11) + 36 * (d + 5) ≤ R.locals; have := hF.2; omega, mc_pay hts f1, List.mem_cons_self, hts _ f1, by rw [f6]; exact hts _ f5, f9, mc_npar f10, hlk9⟩, hts _ (f3 (by rw [hso]; decide)), hts _ (f4 hso)⟩ hPV rfl g3 hsz hstk hW hd hf
  · exact va_runVN (Ts := mc_ws) ⟨hx, hb9, hml, hown, hts⟩ hM ⟨⟨⟨rfl, rfl, hF.1, by show 8 + (q.2.2.2.1 + 11) + 36 * (d + 5) ≤ R.locals; have := hF.2; omega, mc_pay hts f1, List.mem_cons_self⟩, hts _ f1, by rw [f6]; exact hts _ f5, f9, mc_npar f10, hlk9⟩, hts _ (f3 (by rw [hso]; decide)), hts _ (f4 hso)⟩ hPV rfl g3 hsz hstk hW hd hf
theorem mc_r_calI (C : mc_X kt G own nL ini ret cc p s m args meth c) {call : Nat → List Value → mc_M → Option mc_R} {d idx : Nat} (IH : ∀ (k : Nat) (q : Nat × MethodName × ByteArray × Nat × Option FieldType × Nat × Nat) (as : List Value) (M : mc_M) (w : mc_R), mc_mt k = some q → call k as M = some w → mc_Met l kt G d q as M w ∧ mc_le M w.2) (hvoid : ∀ (k : Nat) (q : Nat × MethodName × ByteArray × Nat × Option FieldType × Nat × Nat), mc_mt k = some q → q.2.2.2.2.2.2 = 2 → q.2.2.2.2.1 = none) (hF : d + 6 ≤ R.frames ∧ 36 * (d + 6) ≤ R.locals)
    (hd : decode cc pc = .ok (.invokespecial idx, 3)) (h : mc_cal call own 2 idx pc L st M = some (.inl S)) (hR : S.2.2.2.length ≤ R.cells + l0 ∧ mc_sz S.2.2.2 ≤ R.slots + z0) (k : mc_W G p l e R s m args below meth c Q nL l0 z0 S) : mc_W G p l e R s m args below meth c Q nL l0 z0 (pc, L, st, M) := by
  obtain ⟨en, q, w, n, he, hq, hn, hw, hso, hsum, hnl, hrc, hS9⟩ := mc_cal_inv h
  rw [hS9] at k hR
  obtain ⟨b, z, hb, hb0, hz9, hzc⟩ := hrc (by decide)
  obtain ⟨hM, hle⟩ := IH en.1 q _ M w hq hw
  obtain ⟨f1, f2, f3, f4, f5, f6, f7, f8, f9, f10, f11⟩ := mc_mfacts hq
  have hno := hvoid en.1 q hq hso
  have C0 := C
  obtain ⟨hx, hb9, hown, hts, hml, hB, hba, hini, hlk, hret⟩ := C
  have hn' : n = q.2.2.2.2.2.1 + 1 := hn
  subst hn'
  obtain ⟨g1, g2, g3⟩ := mc_split (G := G) hb hnl
  intro H locs ls cells slots hH hS hl hc hz
  have hc : cells + l0 = M.length := hc
  have hz : slots + z0 = mc_sz M := hz
  have hf : cells + (w.2.length - M.length) ≤ R.cells ∧ slots + (mc_sz w.2 - mc_sz M) ≤ R.slots := by
    have h1 : w.2.length ≤ R.cells + l0 := hR.1
    have h2 : mc_sz w.2 ≤ R.slots + z0 := hR.2
    have := hle.1
    have := hle.2
    exact ⟨by omega, by omega⟩
  have hsz := hl.1
  have hW : 2 * (F0 m pc ls (st.map (mc_v G))).monitorRoom + (((st.drop (q.2.2.2.2.2.1 + 1)).map (mc_v G)).map fun v => v.category).sum ≤ 8 := lv_room (by rw [mc_sumcat]; exact hsum)
  refine mc_after (w := w) (M := M) (L := L) (nL := nL) (l0 := l0) (z0 := z0) (rest := st.drop (q.2.2.2.2.2.1 + 1)) (a := (Value.ref (mc_a G b) :: ((st.take q.2.2.2.2.2.1).reverse).map (mc_v G)).toArray) hS ?_ hle hl hc hz k
  have hPS : PreS s H (mc_Pc kt G M ((st.take (q.2.2.2.2.2.1 + 1)).reverse)) (.ref (mc_a G b) :: ((st.take q.2.2.2.2.2.1).reverse).map (mc_v G)) := ⟨mc_blind, fun U hU hW => by rw [← g2]; exact mc_pre C0 hH hS hU hW⟩
  have hstk : (F0 m pc ls (st.map (mc_v G))).stack = (((st.take q.2.2.2.2.2.1).reverse).map (mc_v G)).reverse ++ .ref (mc_a G b) :: (st.drop (q.2.2.2.2.2.1 + 1)).map (mc_v G) := by
    show st.map (mc_v G) = _
    rw [g1, ← List.map_reverse, List.reverse_reverse]
  unfold mc_Met at hM
  rw [hno] at f1 hM
  rcases mc_mword hts hB.2.2.1 he hq with hlk9 | ⟨host, hlk9⟩
  · exact va_runI (Ts := mc_ws) ⟨hx, hb9, hml, hown, hts⟩ hM ⟨⟨rfl, rfl, hF.1, by show 8 + (q.2.2.2.1 + 11) + 36 * (d + 5) ≤ R.locals; have := hF.2; omega, mc_pay hts f1, List.mem_cons_self, hts _ f1, by rw [f6]; exact hts _ f5, f9, mc_npar f10, hlk9⟩, f7 hso, hts _ (f3 (by rw [hso]; decide))⟩ hPS rfl g3 hsz hstk hW hd hf
  · exact va_runIN (Ts := mc_ws) ⟨hx, hb9, hml, hown, hts⟩ hM ⟨⟨⟨rfl, rfl, hF.1, by show 8 + (q.2.2.2.1 + 11) + 36 * (d + 5) ≤ R.locals; have := hF.2; omega, mc_pay hts f1, List.mem_cons_self⟩, hts _ f1, by rw [f6]; exact hts _ f5, f9, mc_npar f10, hlk9⟩, f7 hso, hts _ (f3 (by rw [hso]; decide))⟩ hPS rfl g3 hsz hstk hW hd hf
theorem mc_r_calS (C : mc_X kt G own nL ini ret cc p s m args meth c) {call : Nat → List Value → mc_M → Option mc_R} {d idx : Nat} (IH : ∀ (k : Nat) (q : Nat × MethodName × ByteArray × Nat × Option FieldType × Nat × Nat) (as : List Value) (M : mc_M) (w : mc_R), mc_mt k = some q → call k as M = some w → mc_Met l kt G d q as M w ∧ mc_le M w.2) (hF : d + 6 ≤ R.frames ∧ 36 * (d + 6) ≤ R.locals)
    (hd : decode cc pc = .ok (.invokestatic idx, 3)) (h : mc_cal call own 0 idx pc L st M = some (.inl S)) (hR : S.2.2.2.length ≤ R.cells + l0 ∧ mc_sz S.2.2.2 ≤ R.slots + z0) (k : mc_W G p l e R s m args below meth c Q nL l0 z0 S) : mc_W G p l e R s m args below meth c Q nL l0 z0 (pc, L, st, M) := by
  obtain ⟨en, q, w, n, he, hq, hn, hw, hso, hsum, hnl, hrc, hS9⟩ := mc_cal_inv h
  rw [hS9] at k hR
  obtain ⟨hM, hle⟩ := IH en.1 q _ M w hq hw
  obtain ⟨f1, f2, f3, f4, f5, f6, f7, f8, f9, f10, f11⟩ := mc_mfacts hq
  have C0 := C
  obtain ⟨hx, hb9, hown, hts, hml, hB, hba, hini, hlk, hret⟩ := C
  have hn' : n = q.2.2.2.2.2.1 := hn
  subst hn'
  intro H locs ls cells slots hH hS hl hc hz
  have hc : cells + l0 = M.length := hc
  have hz : slots + z0 = mc_sz M := hz
  have hf : cells + (w.2.length - M.length) ≤ R.cells ∧ slots + (mc_sz w.2 - mc_sz M) ≤ R.slots := by
    have h1 : w.2.length ≤ R.cells + l0 := hR.1
    have h2 : mc_sz w.2 ≤ R.slots + z0 := hR.2
    have := hle.1
    have := hle.2
    exact ⟨by omega, by omega⟩
  have hsz := hl.1
  have hW : 2 * (F0 m pc ls (st.map (mc_v G))).monitorRoom + (((st.drop q.2.2.2.2.2.1).map (mc_v G)).map fun v => v.category).sum ≤ 8 := lv_room (by rw [mc_sumcat]; exact hsum)
  refine mc_after (w := w) (M := M) (L := L) (nL := nL) (l0 := l0) (z0 := z0) (rest := st.drop q.2.2.2.2.2.1) (a := (((st.take q.2.2.2.2.2.1).reverse).map (mc_v G)).toArray) hS ?_ hle hl hc hz k
  have hPS : PreS s H (mc_Pc kt G M ((st.take q.2.2.2.2.2.1).reverse)) (((st.take q.2.2.2.2.2.1).reverse).map (mc_v G)) := ⟨mc_blind, fun U hU hW => mc_pre C0 hH hS hU hW⟩
  have hstk : (F0 m pc ls (st.map (mc_v G))).stack = (((st.take q.2.2.2.2.2.1).reverse).map (mc_v G)).reverse ++ (st.drop q.2.2.2.2.2.1).map (mc_v G) := by
    show st.map (mc_v G) = _
    rw [← List.map_reverse, List.reverse_reverse, ← List.map_append, List.take_append_drop]
  have g3 : ((st.take q.2.2.2.2.2.1).reverse.map (mc_v G)).length = q.2.2.2.2.2.1 := by
    rw [List.length_map, List.length_reverse, List.length_take]
    omega
  rcases mc_mword hts hB.2.2.1 he hq with hlk9 | ⟨host, hlk9⟩
  · exact va_runS (Ts := mc_ws) ⟨hx, hb9, hml, hown, hts⟩ hM ⟨⟨rfl, rfl, hF.1, by show 8 + (q.2.2.2.1 + 11) + 36 * (d + 5) ≤ R.locals; have := hF.2; omega, mc_pay hts f1, List.mem_cons_self, hts _ f1, by rw [f6]; exact hts _ f5, f9, mc_npar f10, hlk9⟩, hts _ (f2 hso)⟩ hPS rfl g3 hsz hstk hW hd hf
  · exact va_runSN (Ts := mc_ws) ⟨hx, hb9, hml, hown, hts⟩ hM ⟨⟨⟨rfl, rfl, hF.1, by show 8 + (q.2.2.2.1 + 11) + 36 * (d + 5) ≤ R.locals; have := hF.2; omega, mc_pay hts f1, List.mem_cons_self⟩, hts _ f1, by rw [f6]; exact hts _ f5, f9, mc_npar f10, hlk9⟩, hts _ (f2 hso), trivial⟩ hPS rfl g3 hsz hstk hW hd hf
theorem mc_r_obj (C : mc_X kt G own nL ini ret cc p s m args meth c) {idx d : Nat} (hF : d + 6 ≤ R.frames ∧ 36 * (d + 6) ≤ R.locals) (hd : decode cc pc = .ok (.invokespecial idx, 3)) (h : mc_obj own idx pc L st M = some (.inl S)) (k : mc_W G p l e R s m args below meth c Q nL l0 z0 S) : mc_W G p l e R s m args below meth c Q nL l0 z0 (pc, L, st, M) := by
  obtain ⟨hx, hb, hown, hts, hml, hB, hba, hini, hlk, hret⟩ := C
  unfold mc_obj at h
  split at h
  · next a r =>
    split at h
    · next en he =>
      obtain ⟨hok, h⟩ := mc_n_t h
      simp only [decide_eq_true_eq] at hok
      rw [mc_go_S h] at k
      obtain ⟨r9, hr9, hm⟩ := mc_getD_mem (mc_find_mem he)
      have h1 := mc_at_mem (mc_each_at mc_ol_ok hr9 hm)
      intro H locs ls cells slots hH hS hl hc hz
      refine W.objInit hx hb hown (hts _ h1) (hts _ (mc_at_mem mc_oi)) (hts _ (mc_at_mem mc_oc)) rfl (by rw [hml]; exact hl.1) rfl hd (by have := hF.1; omega) ?_ (k H locs ls cells slots hH hS hl hc hz)
      have h2 := lv_room (m := m) (pc := pc) (ls := ls) (rest := ((Value.ref a :: r).map (mc_v G))) (st := r.map (mc_v G)) (by rw [mc_sumcat]; exact hok)
      have h3 := hF.2
      exact Nat.le_trans (Nat.add_le_add_right h2 12) (by omega)
    · cases h
  · cases h
theorem mc_r_math (C : mc_X kt G own nL ini ret cc p s m args meth c) {idx d : Nat} (hF : d + 6 ≤ R.frames ∧ 36 * (d + 6) ≤ R.locals) (hd : decode cc pc = .ok (.invokestatic idx, 3)) (h : mc_math own idx pc L st M = some (.inl S)) (hR : S.2.2.2.length ≤ R.cells + l0 ∧ mc_sz S.2.2.2 ≤ R.slots + z0) (k : mc_W G p l e R s m args below meth c Q nL l0 z0 S) : mc_W G p l e R s m args below meth c Q nL l0 z0 (pc, L, st, M) := by
  obtain ⟨hx, hb, hown, hts, hml, hB, hba, hini, hlk, hret⟩ := C
  unfold mc_math at h
  split at h
  · next en he =>
    obtain ⟨r9, hr9, hm⟩ := mc_getD_mem (mc_find_mem he)
    have h1 := mc_at_mem (mc_each_at mc_jl_ok hr9 hm)
    obtain ⟨j, pl⟩ := en
    dsimp only at h
    split at h
    · obtain ⟨hok, h⟩ := mc_n_t h
      simp only [decide_eq_true_eq] at hok
      rw [mc_go_S h] at k hR
      intro H locs ls cells slots hH hS hl hc hz
      have hc' : cells + l0 = M.length := hc
      have hz' : slots + z0 = mc_sz M := hz
      have hR1 : M.length ≤ R.cells + l0 := hR.1
      have hR2 : mc_sz M ≤ R.slots + z0 := hR.2
      have h1' : Cond.methodLink (mc_cn own) idx Lib.Math.min.name ∈ mc_ws := h1
      refine va_mmin hx hb (by rw [hml]; exact hl.1.symm) hown (hts _ h1') (hts _ (mc_at_mem mc_j_min.1)) (hts _ (mc_at_mem mc_j_min.2.2)) (hts _ (mc_at_mem mc_j_min.2.1)) (by have := hF.1; omega) ?_ (by omega) (by omega) hd (k H locs ls cells slots hH hS hl hc hz)
      rw [mc_sumcat]
      have := hF.2
      omega
    · obtain ⟨hok, h⟩ := mc_n_t h
      simp only [decide_eq_true_eq] at hok
      rw [mc_go_S h] at k hR
      intro H locs ls cells slots hH hS hl hc hz
      have hc' : cells + l0 = M.length := hc
      have hz' : slots + z0 = mc_sz M := hz
      have hR1 : M.length ≤ R.cells + l0 := hR.1
      have hR2 : mc_sz M ≤ R.slots + z0 := hR.2
      have h1' : Cond.methodLink (mc_cn own) idx Lib.Math.max.name ∈ mc_ws := h1
      refine va_mmax hx hb (by rw [hml]; exact hl.1.symm) hown (hts _ h1') (hts _ (mc_at_mem mc_j_max.1)) (hts _ (mc_at_mem mc_j_max.2.2)) (hts _ (mc_at_mem mc_j_max.2.1)) (by have := hF.1; omega) ?_ (by omega) (by omega) hd (k H locs ls cells slots hH hS hl hc hz)
      rw [mc_sumcat]
      have := hF.2
      omega
    · obtain ⟨hok, h⟩ := mc_n_t h
      simp only [decide_eq_true_eq] at hok
      rw [mc_go_S h] at k hR
      intro H locs ls cells slots hH hS hl hc hz
      have hc' : cells + l0 = M.length := hc
      have hz' : slots + z0 = mc_sz M := hz
      have hR1 : M.length ≤ R.cells + l0 := hR.1
      have hR2 : mc_sz M ≤ R.slots + z0 := hR.2
      have h1' : Cond.methodLink (mc_cn own) idx Lib.Math.abs.name ∈ mc_ws := h1
      refine va_mabs hx hb (by rw [hml]; exact hl.1.symm) hown (hts _ h1') (hts _ (mc_at_mem mc_j_abs.1)) (hts _ (mc_at_mem mc_j_abs.2.2)) (hts _ (mc_at_mem mc_j_abs.2.1)) (by have := hF.1; omega) ?_ (by omega) (by omega) hd (k H locs ls cells slots hH hS hl hc hz)
      rw [mc_sumcat]
      have := hF.2
      omega
    · cases h
  · cases h
end MC5
