/-! THE MINI MACHINE'S STEPS ON ARRAYS, NEW CELLS, STATICS AND CONSTANTS ARE THE MACHINE'S (own work, over the kit's rows) -/
theorem mc_tys_at {G : mc_G} {t : Nat} (h : t < 7) : (mc_tys G)[t]? = some (G.2.2.1 t, mc_ty t) := by
  simp [mc_tys, h]
theorem mc_in_iff {i : Int32} {n : Nat} (h : mc_in i n = true) : ¬ (i < 0 ∨ n ≤ i.toNatClampNeg) := of_decide_eq_true h
theorem mc_AO_args {C : String} {s : State} (h : mc_AO (.object C) s) : va_AO C s := h
section MC3

variable {kt : Nat → Option mc_E} {own : Nat} {ini : Bool} {ret : Option FieldType} {cc : ByteArray}

variable {G : mc_G} {p : Program} {l : Launch} {e : Env} {R : Room} {s : State} {m : MethodId} {args : Array Value} {below : List Frame} {meth : Method} {c : Code} {Q : State → Prop} {nL l0 z0 : Nat}

variable {pc : Nat} {L : List (Nat × Value)} {st : List Value} {M : mc_M} {S : mc_S}
theorem mc_r_ald (C : mc_X kt G own nL ini ret cc p s m args meth c) {ok : Nat → Bool} (row : ∀ (H : Heap) (locs : List Loc) (cells slots : Nat) (ls : Array Slot) (rest : List Value) (t : Nat) (a : Addr) (cell : Cell) (i : Int32) (v : Value), ok t = true → H[a]? = some cell → s.isArrayOf cell (mc_ty t) → cell.vm ≠ .unknown → ¬ (i < 0 ∨ cell.slots.size ≤ i.toNatClampNeg) → cell.slots[i.toNatClampNeg]? = some v → W p l e R s m args below meth c H locs cells slots Q (F0 m (pc + 1) ls (v :: rest)) → W p l e R s m args below meth c H locs cells slots Q (F0 m pc ls (.int i :: .ref a :: rest)))
    (h : mc_ald kt ok pc L st M = some (.inl S)) (k : mc_W G p l e R s m args below meth c Q nL l0 z0 S) : mc_W G p l e R s m args below meth c Q nL l0 z0 (pc, L, st, M) := by
  obtain ⟨hx, hb, hown, hts, hml, hB, hba, hini, hlk, hret⟩ := C
  unfold mc_ald at h
  split at h
  · next i a r =>
    split at h
    · next q hq =>
      obtain ⟨hok, h⟩ := mc_n_t h
      simp only [Bool.and_eq_true, Bool.or_eq_true, decide_eq_true_eq] at hok
      obtain ⟨⟨hok, hin0⟩, hok7⟩ := hok
      have hin := mc_in_iff hin0
      have hlt : i.toNatClampNeg < q.2.1 := Nat.not_le.mp fun z => hin (Or.inr z)
      rw [mc_go_S h] at k
      intro H locs ls cells slots hH hS hl hc hz
      show W p l e R s m args below meth c H locs cells slots Q (F0 m pc ls (.int i :: .ref (mc_a G a) :: r.map (mc_v G)))
      by_cases ha : a < 256
      · have hq' : kt a = some (.inl (q.1, q.2.1, q.2.2)) := by
          have := hq
          unfold mc_ce at this
          rwa [if_pos ha] at this
        obtain ⟨cell, h1, h2, h3, h4, h5, h6, h7⟩ := (hB.2.2.2.1.1 a q.1 q.2.1 q.2.2 hq').kept hS.2.1
        rw [mc_a_lo ha]
        refine row H locs cells slots ls _ q.1 _ cell i (mc_v G (q.2.2 i.toNatClampNeg)) hok h1 h2 h3 (fun z => ?_) (h6 _ hlt) (k H locs ls cells slots hH hS hl hc hz)
        rcases z with z | z
        · exact hin (Or.inl z)
        · omega
      · have hq' : M[a - 256]? = some (.inl q) := by
          have := hq
          unfold mc_ce at this
          rwa [if_neg ha] at this
        have h7 := hok7.resolve_left ha
        have hcell : H[mc_a G a]? = some (arrV (G.2.2.1 q.1) q.2.1 (fun j => mc_v G (q.2.2 j))) := hH.at (Nat.not_lt.mp ha) hq' h7
        · refine row H locs cells slots ls _ q.1 _ _ i (mc_v G (q.2.2 i.toNatClampNeg)) hok hcell ((hB.1.2 q.1 _ (mc_tys_at h7)).1 _ _) (fun z => by cases z) ?_ (arrV_read _ _ hlt) (k H locs ls cells slots hH hS hl hc hz)
          rw [arrV_size]
          exact hin
    · cases h
  · cases h
theorem mc_r_ast (C : mc_X kt G own nL ini ret cc p s m args meth c) {ok : Nat → Value → Bool} {w : Nat → Value → Value} (row : ∀ (H : Heap) (locs : List Loc) (cells slots : Nat) (ls : Array Slot) (rest : List Value) (t : Nat) (v : Value) (a : Addr) (cell : Cell) (i : Int32), ok t v = true → H[a]? = some cell → s.isArrayOf cell (mc_ty t) → cell.vm ≠ .unknown → ¬ (i < 0 ∨ cell.slots.size ≤ i.toNatClampNeg) → (∀ H' : Heap, H'[a]? = some (cell.setSlot i.toNatClampNeg (mc_v G (w t v))) → H'.size = H.size → (∀ q : Nat, q ≠ a → H'[q]? = H[q]?) → W p l e R s m args below meth c H' (locs ++ [⟨a, i.toNatClampNeg⟩]) cells slots Q (F0 m (pc + 1) ls rest)) → W p l e R s m args below meth c H locs cells slots Q (F0 m pc ls (mc_v G v :: .int i :: .ref a :: rest)))
    (h7 : ∀ t v, ok t v = true → t < 7) (h : mc_ast kt ok w pc L st M = some (.inl S)) (k : mc_W G p l e R s m args below meth c Q nL l0 z0 S) : mc_W G p l e R s m args below meth c Q nL l0 z0 (pc, L, st, M) := by
  obtain ⟨hx, hb, hown, hts, hml, hB, hba, hini, hlk, hret⟩ := C
  unfold mc_ast at h
  split at h
  · next v i a r =>
    split at h
    · next q hq =>
      obtain ⟨hok, h⟩ := mc_n_t h
      simp only [Bool.and_eq_true, decide_eq_true_eq] at hok
      obtain ⟨⟨ha, hok⟩, hin0⟩ := hok
      have hin := mc_in_iff hin0
      rw [mc_go_S h] at k
      intro H locs ls cells slots hH hS hl hc hz
      have hcell : H[mc_a G a]? = some (arrV (G.2.2.1 q.1) q.2.1 (fun j => mc_v G (q.2.2 j))) := hH.at ha hq (h7 _ _ hok)
      have hk0 : G.2.1 + (a - 256) = mc_a G a := (mc_a_hi ha).symm
      show W p l e R s m args below meth c H locs cells slots Q (F0 m pc ls (mc_v G v :: .int i :: .ref (mc_a G a) :: r.map (mc_v G)))
      refine row H locs cells slots ls _ q.1 v _ _ i hok hcell ((hB.1.2 q.1 _ (mc_tys_at (h7 _ _ hok))).1 _ _) (fun z => by cases z) (by rw [arrV_size]; exact hin) (fun H' f1 f2 f3 => ?_)
      refine k H' _ ls cells slots (hH.set hq ?_ f2 (fun x hx => f3 x (by rw [← hk0]; exact hx))) (hS.put f2 f3 (by rw [← hk0]; exact Nat.le_add_right _ _)) hl (by rw [List.length_set]; exact hc) (by rw [mc_sz_set hq (by simp [mc_es])]; exact hz)
      intro _
      show H'[G.2.1 + (a - 256)]? = some (arrV _ _ _)
      rw [hk0, f1, arrV_store]
      refine congrArg some (congrArg (arrV (G.2.2.1 q.1) q.2.1) (funext fun j => ?_))
      by_cases hj : j = i.toNatClampNeg
      · subst hj
        simp [updV]
      · simp [updV, hj]
    · cases h
  · cases h
theorem mc_r_aast (C : mc_X kt G own nL ini ret cc p s m args meth c) (hd : decode cc pc = .ok (.aastore, 1)) (h : mc_ast kt (mc_isP M) (fun _ v => v) pc L st M = some (.inl S)) (k : mc_W G p l e R s m args below meth c Q nL l0 z0 S) : mc_W G p l e R s m args below meth c Q nL l0 z0 (pc, L, st, M) := by
  obtain ⟨hx, hb, hown, hts, hml, hB, hba, hini, hlk, hret⟩ := C
  unfold mc_ast at h
  split at h
  · next v i a r =>
    split at h
    · next q hq =>
      obtain ⟨hok, h⟩ := mc_n_t h
      simp only [Bool.and_eq_true, decide_eq_true_eq] at hok
      obtain ⟨⟨ha, hok⟩, hin0⟩ := hok
      have hin := mc_in_iff hin0
      rw [mc_go_S h] at k
      unfold mc_isP at hok
      simp only [Bool.and_eq_true, beq_iff_eq] at hok
      obtain ⟨ht, hok⟩ := hok
      split at hok
      · next b h9 =>
        simp only [Bool.and_eq_true, decide_eq_true_eq] at hok
        obtain ⟨hb0, hok⟩ := hok
        split at hok
        · next z hz9 =>
          have hz8 : z.1 = 8 := by simpa using hok
          intro H locs ls cells slots hH hS hl hc hz
          have hcell : H[mc_a G a]? = some (arrV (G.2.2.1 q.1) q.2.1 (fun j => mc_v G (q.2.2 j))) := hH.at ha hq (by rw [ht]; decide)
          have hk0 : G.2.1 + (a - 256) = mc_a G a := (mc_a_hi ha).symm
          obtain ⟨r9, g1, cell, q1, q2, q3, q4⟩ := hH.at hb0 hz9
          rw [hz8] at g1 q2
          have hcls := (hB.1.1 8 _ g1).2
          have hr9 := mc_cl_eq g1
          subst hr9
          obtain ⟨kA, comp, k1, k2, k3, -⟩ := (hB.1.2 4 _ (mc_tys_at (by decide))).2
          have hcomp : comp = G.2.2.2.1 8 := Option.some.inj (k3.symm.trans hcls.1)
          subst hcomp
          obtain ⟨kC, hkC, -⟩ := id hcls.2
          rw [ht] at hcell
          show W p l e R s m args below meth c H locs cells slots Q (F0 m pc ls (.ref (mc_a G b) :: .int i :: .ref (mc_a G a) :: r.map (mc_v G)))
          refine W.aast hx hb hcell (fun q h => by cases h) (fun h => by cases h) k1 k2 rfl hkC ⟨fun h => hin (Or.inl h), by rw [arrV_size]; exact Nat.not_le.mp fun h => hin (Or.inr h)⟩ q1 (fun q h => by rw [q3] at h; cases h) (by rw [q2]; exact hkC) (by rw [q2]; exact va_assign hcls) rfl rfl hd fun H' f1 f2 f3 => ?_
          refine k H' _ ls cells slots (hH.set hq ?_ f2 (fun x hx => f3 x (by rw [← hk0]; exact hx))) (hS.put f2 f3 (by rw [← hk0]; exact Nat.le_add_right _ _)) hl (by rw [List.length_set]; exact hc) (by rw [mc_sz_set hq (by simp [mc_es])]; exact hz)
          intro _
          show H'[G.2.1 + (a - 256)]? = some (arrV _ _ _)
          rw [hk0, f1, arrV_store, ht]
          refine congrArg some (congrArg (arrV (G.2.2.1 4) q.2.1) (funext fun j => ?_))
          by_cases hj : j = i.toNatClampNeg
          · subst hj
            simp [updV, mc_v]
          · simp [updV, hj]
        · cases hok
      · cases hok
    · cases h
  · cases h
theorem mc_r_len (C : mc_X kt G own nL ini ret cc p s m args meth c) (hd : decode cc pc = .ok (.arraylength, 1)) (h : mc_len kt pc L st M = some (.inl S)) (k : mc_W G p l e R s m args below meth c Q nL l0 z0 S) : mc_W G p l e R s m args below meth c Q nL l0 z0 (pc, L, st, M) := by
  obtain ⟨hx, hb, hown, hts, hml, hB, hba, hini, hlk, hret⟩ := C
  unfold mc_len at h
  split at h
  · next a r =>
    split at h
    · next q hq =>
      obtain ⟨hok, h⟩ := mc_n_t h
      simp only [Bool.or_eq_true, decide_eq_true_eq] at hok
      rw [mc_go_S h] at k
      intro H locs ls cells slots hH hS hl hc hz
      show W p l e R s m args below meth c H locs cells slots Q (F0 m pc ls (.ref (mc_a G a) :: r.map (mc_v G)))
      by_cases ha : a < 256
      · have hq' : kt a = some (.inl (q.1, q.2.1, q.2.2)) := by
          have := hq
          unfold mc_ce at this
          rwa [if_pos ha] at this
        obtain ⟨cell, h1, h2, h3, h4, h5, h6, h7⟩ := (hB.2.2.2.1.1 a q.1 q.2.1 q.2.2 hq').kept hS.2.1
        rw [mc_a_lo ha]
        exact W.alen (n := Int32.ofNat q.2.1) hx hb h1 h2 h5 rfl rfl hd (k H locs ls cells slots hH hS hl hc hz)
      · have hq' : M[a - 256]? = some (.inl q) := by
          have := hq
          unfold mc_ce at this
          rwa [if_neg ha] at this
        have hcell : H[mc_a G a]? = some (arrV (G.2.2.1 q.1) q.2.1 (fun j => mc_v G (q.2.2 j))) := hH.at (Nat.not_lt.mp ha) hq' (hok.resolve_left ha)
        exact W.alen (n := Int32.ofNat q.2.1) hx hb hcell ((hB.1.2 q.1 _ (mc_tys_at (hok.resolve_left ha))).1 _ _) (by rw [arrV_size]) rfl rfl hd (k H locs ls cells slots hH hS hl hc hz)
    · cases h
  · cases h
theorem mc_new1 {H H1 : Heap} {locs : List Loc} {x : mc_E} (hba : G.2.1 ≤ s.heap.size) (hS : va_S (mc_A G) s.heap H locs) (z : H1.size = H.size + 1) (oq : ∀ q : Nat, q < H.size → H1[q]? = H[q]?) : va_S (mc_A G) s.heap H1 locs :=
  ⟨Nat.le_trans hS.1 (by omega), fun q h1 h2 => (oq q (Nat.lt_of_lt_of_le h1 hS.1)).trans (hS.2.1 q h1 h2), hS.2.2⟩
theorem mc_r_newa (C : mc_X kt G own nL ini ret cc p s m args meth c) {a : ArrayType} (hd : decode cc pc = .ok (.newarray a, 2)) (h : mc_newa a pc L st M = some (.inl S)) (hR : S.2.2.2.length ≤ R.cells + l0 ∧ mc_sz S.2.2.2 ≤ R.slots + z0) (k : mc_W G p l e R s m args below meth c Q nL l0 z0 S) : mc_W G p l e R s m args below meth c Q nL l0 z0 (pc, L, st, M) := by
  obtain ⟨hx, hb, hown, hts, hml, hB, hba, hini, hlk, hret⟩ := C
  unfold mc_newa at h
  split at h
  · next n r =>
    split at h
    · next t ht =>
      obtain ⟨hok, h⟩ := mc_n_t h
      simp only [Bool.and_eq_true, decide_eq_true_eq] at hok
      obtain ⟨hn, hN⟩ := hok
      rw [mc_go_S h] at k hR
      have hty : newarray.typeOf a = mc_ty t ∧ t < 4 ∧ componentBytes (mc_ty t) ≤ 8 ∧ Cond.arrayClass (newarray.typeOf a) ∈ mc_ws := by
        cases a <;> simp only [mc_tag, Option.some.injEq, reduceCtorEq] at ht <;> subst ht
        · exact ⟨rfl, by decide, by decide, mc_at_mem mc_ac_boolean⟩
        · exact ⟨rfl, by decide, by decide, mc_at_mem mc_ac_byte⟩
        · exact ⟨rfl, by decide, by decide, mc_at_mem mc_ac_int⟩
        · exact ⟨rfl, by decide, by decide, mc_at_mem mc_ac_long⟩
      obtain ⟨e1, e2, e3, e4⟩ := hty
      intro H locs ls cells slots hH hS hl hc hz
      have hc : cells + l0 = M.length := hc
      have hz : slots + z0 = mc_sz M := hz
      have hlen : (M ++ [(Sum.inl (t, n.toNatClampNeg, fun _ => defaultValue (mc_ty t)) : mc_E)]).length = M.length + 1 := by rw [List.length_append]; rfl
      have hsz : mc_sz (M ++ [(Sum.inl (t, n.toNatClampNeg, fun _ => defaultValue (mc_ty t)) : mc_E)]) = mc_sz M + n.toNatClampNeg := by rw [mc_sz_app, mc_sz_one]; rfl
      have hR1 : M.length + 1 ≤ R.cells + l0 := by have := hR.1; rw [← hlen]; exact this
      have hR2 : mc_sz M + n.toNatClampNeg ≤ R.slots + z0 := by have := hR.2; rw [← hsz]; exact this
      refine va_newaK hx hb (hts _ e4) rfl hd rfl hn rfl (Nat.le_trans (Nat.mul_le_mul hN (by rw [e1]; exact e3)) (Nat.le_of_ble_eq_true rfl)) (by omega) (by omega) rfl fun H1 cA f1 f2 f3 hAr hNm => ?_
      have hcA : cA = G.2.2.1 t := by
        have h9 := (hB.1.2 t _ (mc_tys_at (by omega))).2
        rw [e1] at hNm
        have h10 : s.vm.findClass ("[" ++ (mc_ty t).toString) = some (G.2.2.1 t) := by
          match t, e2, h9 with
          | 0, _, h9 => exact h9
          | 1, _, h9 => exact h9
          | 2, _, h9 => exact h9
          | 3, _, h9 => exact h9
        exact Option.some.inj (hNm.symm.trans h10)
      have k := k H1 locs ls (cells + 1) (slots + n.toNatClampNeg) (hH.push (by
        intro _
        show H1[H.size]? = some (arrV _ _ _)
        rw [f1, hcA, e1]
        congr 2
        funext j
        match t, e2 with
        | 0, _ => rfl
        | 1, _ => rfl
        | 2, _ => rfl
        | 3, _ => rfl) f2 f3) (mc_new1 (x := Sum.inl (0, 0, fun _ => .null)) hba hS f2 f3) hl (by rw [hlen]; omega) (by rw [hsz]; omega)
      have hv : mc_v G (.ref (256 + M.length)) = .ref H.size := by
        show Value.ref _ = _
        rw [mc_a_new, hH.1]
      have k' : W p l e R s m args below meth c H1 locs (cells + 1) (slots + n.toNatClampNeg) Q (F0 m (pc + 2) ls (mc_v G (.ref (256 + M.length)) :: r.map (mc_v G))) := k
      rw [hv] at k'
      exact k'
    · cases h
  · cases h
theorem mc_r_anew (C : mc_X kt G own nL ini ret cc p s m args meth c) {idx : Nat} (hd : decode cc pc = .ok (.anewarray idx, 3)) (h : mc_anew own idx pc L st M = some (.inl S)) (hR : S.2.2.2.length ≤ R.cells + l0 ∧ mc_sz S.2.2.2 ≤ R.slots + z0) (k : mc_W G p l e R s m args below meth c Q nL l0 z0 S) : mc_W G p l e R s m args below meth c Q nL l0 z0 (pc, L, st, M) := by
  obtain ⟨hx, hb, hown, hts, hml, hB, hba, hini, hlk, hret⟩ := C
  unfold mc_anew at h
  split at h
  · next n r =>
    split at h
    · next en he =>
      obtain ⟨hok, h⟩ := mc_n_t h
      simp only [Bool.and_eq_true, decide_eq_true_eq, beq_iff_eq] at hok
      obtain ⟨⟨h8, hn⟩, hN⟩ := hok
      rw [mc_go_S h] at k hR
      obtain ⟨r9, hr9, hm⟩ := mc_getD_mem (mc_find_mem he)
      have hw : Cond.classLink (mc_cn own) idx (mc_cn 8) ∈ mc_ws := by
        have h9 := mc_at_mem (mc_each_at mc_kl_ok hr9 hm)
        rw [← h8]
        exact h9
      intro H locs ls cells slots hH hS hl hc hz
      have hc : cells + l0 = M.length := hc
      have hz : slots + z0 = mc_sz M := hz
      have hlen : (M ++ [(Sum.inl (4, n.toNatClampNeg, fun _ => .null) : mc_E)]).length = M.length + 1 := by rw [List.length_append]; rfl
      have hsz : mc_sz (M ++ [(Sum.inl (4, n.toNatClampNeg, fun _ => .null) : mc_E)]) = mc_sz M + n.toNatClampNeg := by rw [mc_sz_app, mc_sz_one]; rfl
      have hR1 : M.length + 1 ≤ R.cells + l0 := by have := hR.1; rw [← hlen]; exact this
      have hR2 : mc_sz M + n.toNatClampNeg ≤ R.slots + z0 := by have := hR.2; rw [← hsz]; exact this
      refine W.anew hx hb hown (hts _ hw) (va_AO.use (C := "StrikeAwake$Person") (A := args) (mc_AO_args hB.2.1.1)) rfl hd rfl hn (Nat.le_trans (Nat.mul_le_mul hN (Nat.le_refl 4)) (Nat.le_of_ble_eq_true rfl)) (by omega) (by omega) fun cA kA comp f1 f2 f3 f4 => ?_
      generalize hH1 : H.push ({ cls := cA, slots := Array.replicate n.toNatClampNeg .null, vm := .none } : Cell) = H1
      have y1 : H1.size = H.size + 1 := by rw [← hH1, Array.size_push]
      have y2 : H1[H.size]? = some (arrV cA n.toNatClampNeg (fun _ => .null)) := by rw [← hH1, Array.getElem?_push_size, ← arrV_new]
      have y3 : ∀ q : Nat, q < H.size → H1[q]? = H[q]? := fun q hq => by rw [← hH1, Array.getElem?_push, if_neg (Nat.ne_of_lt hq)]
      have hcA : cA = G.2.2.1 4 := by
        obtain ⟨kA', comp', -, -, -, h10⟩ := (hB.1.2 4 _ (mc_tys_at (by decide))).2
        exact Option.some.inj (f1.symm.trans h10)
      have k' : W p l e R s m args below meth c H1 locs (cells + 1) (slots + n.toNatClampNeg) Q (F0 m (pc + 3) ls (mc_v G (.ref (256 + M.length)) :: r.map (mc_v G))) := k H1 locs ls (cells + 1) (slots + n.toNatClampNeg) (hH.push (by
        intro _
        show H1[H.size]? = some (arrV _ _ _)
        rw [y2, hcA]
        rfl) y1 y3) (mc_new1 (x := Sum.inl (0, 0, fun _ => .null)) hba hS y1 y3) hl (by rw [hlen]; omega) (by rw [hsz]; omega)
      have hv : mc_v G (.ref (256 + M.length)) = .ref H.size := by
        show Value.ref _ = _
        rw [mc_a_new, hH.1]
      rw [hv] at k'
      exact k'
    · cases h
  · cases h
theorem mc_def_v {ty : FieldType} : mc_v G (defaultValue ty) = defaultValue ty := by cases ty <;> rfl
theorem mc_r_new (C : mc_X kt G own nL ini ret cc p s m args meth c) {idx : Nat} (hd : decode cc pc = .ok (.new idx, 3)) (h : mc_new own idx pc L st M = some (.inl S)) (hR : S.2.2.2.length ≤ R.cells + l0 ∧ mc_sz S.2.2.2 ≤ R.slots + z0) (k : mc_W G p l e R s m args below meth c Q nL l0 z0 S) : mc_W G p l e R s m args below meth c Q nL l0 z0 (pc, L, st, M) := by
  obtain ⟨hx, hb, hown, hts, hml, hB, hba, hini, hlk, hret⟩ := C
  unfold mc_new at h
  split at h
  · next en he =>
    obtain ⟨hok, h⟩ := mc_n_t h
    simp only [decide_eq_true_eq] at hok
    rw [mc_go_S h] at k hR
    obtain ⟨r9, hr9, hm⟩ := mc_getD_mem (mc_find_mem he)
    have hw : Cond.classLink (mc_cn own) idx (mc_cn en.1) ∈ mc_ws := mc_at_mem (mc_each_at mc_kl_ok hr9 hm)
    intro H locs ls cells slots hH hS hl hc hz
    have hc : cells + l0 = M.length := hc
    have hz : slots + z0 = mc_sz M := hz
    generalize hfs : (List.range (mc_N.getD en.1 0)).map (fun k => defaultValue (mc_t en.1 k)) = fs at k hR
    have hfl : fs.length = mc_N.getD en.1 0 := by rw [← hfs, List.length_map, List.length_range]
    have hlen : (M ++ [(Sum.inr (en.1, fs) : mc_E)]).length = M.length + 1 := by rw [List.length_append]; rfl
    have hsz : mc_sz (M ++ [(Sum.inr (en.1, fs) : mc_E)]) = mc_sz M + mc_N.getD en.1 0 := by rw [mc_sz_app, mc_sz_one, ← hfl]; rfl
    have hR1 : M.length + 1 ≤ R.cells + l0 := by have := hR.1; rw [← hlen]; exact this
    have hR2 : mc_sz M + mc_N.getD en.1 0 ≤ R.slots + z0 := by have := hR.2; rw [← hsz]; exact this
    have hKn := hB.1.1 en.1 _ (mc_cl_at en.1 hok)
    refine W.newcK hx hb hown (hts _ hw) (hts _ (mc_inst hok).1) (hts _ (mc_inst hok).2) rfl hd (by omega) (by omega) hKn.2.1 rfl fun H1 kC hkC f1 f2 f3 => ?_
    have k' : W p l e R s m args below meth c H1 locs (cells + 1) (slots + mc_N.getD en.1 0) Q (F0 m (pc + 3) ls (mc_v G (.ref (256 + M.length)) :: st.map (mc_v G))) := k H1 locs ls (cells + 1) (slots + mc_N.getD en.1 0) (hH.push (by
      refine ⟨_, mc_cl_at en.1 hok, (u_born (mc_t en.1) hts (mc_in_ws hok) hKn hkC f1 (fun j hj => (mc_ck_k hok hj).2.1)).to fun j hj => ?_⟩
      rw [← hfs]
      have hj' : j < mc_N.getD en.1 0 := hj
      simp only [vp_V, List.map_map, List.getD_eq_getElem?_getD, List.getElem?_map]
      rw [List.getElem?_range (by rw [← List.getD_eq_getElem?_getD]; exact hj')]
      exact mc_def_v.symm) f2 f3) (mc_new1 (x := Sum.inl (0, 0, fun _ => .null)) hba hS f2 f3) hl (by rw [hlen]; omega) (by rw [hsz]; omega)
    have hv : mc_v G (.ref (256 + M.length)) = .ref H.size := by
      show Value.ref _ = _
      rw [mc_a_new, hH.1]
    rw [hv] at k'
    exact k'
  · cases h
theorem mc_r_gs (C : mc_X kt G own nL ini ret cc p s m args meth c) {idx : Nat} (hd : decode cc pc = .ok (.getstatic idx, 3)) (h : mc_gs own idx pc L st M = some (.inl S)) (k : mc_W G p l e R s m args below meth c Q nL l0 z0 S) : mc_W G p l e R s m args below meth c Q nL l0 z0 (pc, L, st, M) := by
  obtain ⟨hx, hb, hown, hts, hml, hB, hba, hini, hlk, hret⟩ := C
  unfold mc_gs at h
  split at h
  · next en he =>
    split at h
    · next q hq =>
      rw [mc_go_S h] at k
      obtain ⟨r9, hr9, hm⟩ := mc_getD_mem (mc_find_mem he)
      have h1 := mc_each_at mc_sl_ok hr9 hm
      have hZ := hB.2.2.2.1.2.2.1 q (List.mem_of_getElem? hq)
      obtain ⟨j, nest, host, pl⟩ := en
      intro H locs ls cells slots hH hS hl hc hz
      have k' := k H locs ls cells slots hH hS hl hc hz
      cases nest with
      | false =>
        have hw := hts _ (mc_tb_ws (w := mc_sw own (idx, j, false, host, pl)) h1)
        unfold mc_sw at hw
        dsimp only at hq hw
        rw [hq] at hw
        exact va_gets hx hb hZ hS hown hw (fun _ h => h) hd k'
      | true =>
        have hw := hB.2.2.1.2.2 own r9 hr9 _ hm rfl
        unfold mc_sw at hw
        dsimp only at hq hw
        rw [hq] at hw
        exact va_getsN hx hb hZ hS hown (va_Nw.use rfl hw) (fun _ h => h) hd k'
    · cases h
  · cases h
theorem mc_r_ldc (C : mc_X kt G own nL ini ret cc p s m args meth c) {idx : Nat} (hd : decode cc pc = .ok (.ldc idx, 2)) (h : mc_ldc own idx 2 pc L st M = some (.inl S)) (k : mc_W G p l e R s m args below meth c Q nL l0 z0 S) : mc_W G p l e R s m args below meth c Q nL l0 z0 (pc, L, st, M) := by
  obtain ⟨hx, hb, hown, hts, hml, hB, hba, hini, hlk, hret⟩ := C
  unfold mc_ldc at h
  split at h
  · next en he =>
    obtain ⟨hok, h⟩ := mc_n_t h
    rw [mc_go_S h] at k
    obtain ⟨r9, hr9, hm⟩ := mc_getD_mem (mc_find_mem he)
    have h1 := mc_at_mem (mc_each_at mc_cs_ok hr9 hm)
    obtain ⟨v, pl⟩ := en
    intro H locs ls cells slots hH hS hl hc hz
    have k' := k H locs ls cells slots hH hS hl hc hz
    cases v with
    | int x => exact lv_ldc hx hb hown (hts _ h1) hd k'
    | _ => cases hok
  · split at h
    · next q hq =>
      rw [mc_go_S h] at k
      have hmem := List.mem_of_find?_eq_some hq
      have hp := List.find?_some hq
      simp only [Bool.and_eq_true, beq_iff_eq] at hp
      have hR := hB.2.2.2.1.2.2.2.1 q hmem
      rw [hp.1, hp.2] at hR
      intro H locs ls cells slots hH hS hl hc hz
      exact va_ldcS hx hb hown hR hd (k H locs ls cells slots hH hS hl hc hz)
    · cases h
theorem mc_ldcSW (hexec : p.tables.exec = Jvm.exec) (hb : c.code = cc) {own tx : String} {index q : Nat} {H : Heap} {locs : List Loc} {cells slots : Nat} {ls : Array Slot} {rest : List Value} (hown : s.vm.findClass own = some m.cls) (hZ : vk_R own index tx q s) (hdg : decode cc pc = .ok (.ldc_w index, 3))
    (k : W p l e R s m args below meth c H locs cells slots Q (F0 m (pc + 3) ls (.ref q :: rest))) : W p l e R s m args below meth c H locs cells slots Q (F0 m pc ls rest) := by
  intro T hT X
  obtain ⟨t, a1, b1⟩ := k T hT X
  exact ⟨t, X.ldcStringW hexec hown (text := tx) (a := q) hZ.1 hZ.2 (g := F0 m pc ls rest) rfl (by rw [hb]; exact hdg) t a1, b1⟩
theorem mc_r_ldcw (C : mc_X kt G own nL ini ret cc p s m args meth c) {idx : Nat} (hd : decode cc pc = .ok (.ldc_w idx, 3)) (h : mc_ldc own idx 3 pc L st M = some (.inl S)) (k : mc_W G p l e R s m args below meth c Q nL l0 z0 S) : mc_W G p l e R s m args below meth c Q nL l0 z0 (pc, L, st, M) := by
  obtain ⟨hx, hb, hown, hts, hml, hB, hba, hini, hlk, hret⟩ := C
  unfold mc_ldc at h
  split at h
  · next en he =>
    obtain ⟨hok, h⟩ := mc_n_t h
    rw [mc_go_S h] at k
    obtain ⟨r9, hr9, hm⟩ := mc_getD_mem (mc_find_mem he)
    have h1 := mc_at_mem (mc_each_at mc_cs_ok hr9 hm)
    obtain ⟨v, pl⟩ := en
    intro H locs ls cells slots hH hS hl hc hz
    have k' := k H locs ls cells slots hH hS hl hc hz
    cases v with
    | int x => exact lv_ldcw hx hb hown (hts _ h1) hd k'
    | _ => cases hok
  · split at h
    · next q hq =>
      rw [mc_go_S h] at k
      have hmem := List.mem_of_find?_eq_some hq
      have hp := List.find?_some hq
      simp only [Bool.and_eq_true, beq_iff_eq] at hp
      have hR := hB.2.2.2.1.2.2.2.1 q hmem
      rw [hp.1, hp.2] at hR
      intro H locs ls cells slots hH hS hl hc hz
      exact mc_ldcSW hx hb hown hR hd (k H locs ls cells slots hH hS hl hc hz)
    · cases h
theorem mc_r_ldc2 (C : mc_X kt G own nL ini ret cc p s m args meth c) {idx : Nat} (hd : decode cc pc = .ok (.ldc2_w idx, 3)) (h : mc_ldc2 own idx pc L st M = some (.inl S)) (k : mc_W G p l e R s m args below meth c Q nL l0 z0 S) : mc_W G p l e R s m args below meth c Q nL l0 z0 (pc, L, st, M) := by
  obtain ⟨hx, hb, hown, hts, hml, hB, hba, hini, hlk, hret⟩ := C
  unfold mc_ldc2 at h
  split at h
  · next en he =>
    obtain ⟨hok, h⟩ := mc_n_t h
    rw [mc_go_S h] at k
    obtain ⟨r9, hr9, hm⟩ := mc_getD_mem (mc_find_mem he)
    have h1 := mc_at_mem (mc_each_at mc_cs_ok hr9 hm)
    obtain ⟨v, pl⟩ := en
    intro H locs ls cells slots hH hS hl hc hz
    have k' := k H locs ls cells slots hH hS hl hc hz
    cases v with
    | long x => exact lv_ldc2 hx hb hown (hts _ h1) hd k'
    | _ => cases hok
  · cases h
theorem mc_r_tsw (C : mc_X kt G own nL ini ret cc p s m args meth c) {dflt lo hi : Int} {offs : Array Int} {len : Nat} (hd : decode cc pc = .ok (.tableswitch dflt lo hi offs, len)) (h : mc_tsw dflt lo hi offs pc L st M = some (.inl S)) (k : mc_W G p l e R s m args below meth c Q nL l0 z0 S) : mc_W G p l e R s m args below meth c Q nL l0 z0 (pc, L, st, M) := by
  obtain ⟨hx, hb, hown, hts, hml, hB, hba, hini, hlk, hret⟩ := C
  unfold mc_tsw at h
  split at h
  · next x r =>
    split at h
    · next ho =>
      unfold mc_jp at h
      split at h
      · next h0 =>
        rw [mc_go_S h] at k
        exact fun H locs ls cells slots hH hS hl hc hz => lv_tableOut hx hb hd ho (Int.toNat_of_nonneg h0).symm (k H locs ls cells slots hH hS hl hc hz)
      · cases h
    · next ho =>
      split at h
      · next off hoff =>
        unfold mc_jp at h
        split at h
        · next h0 =>
          rw [mc_go_S h] at k
          exact fun H locs ls cells slots hH hS hl hc hz => lv_tableIn hx hb hd (fun z => ho (Or.inl z)) (fun z => ho (Or.inr z)) hoff (Int.toNat_of_nonneg h0).symm (k H locs ls cells slots hH hS hl hc hz)
        · cases h
      · cases h
  · cases h
end MC3
