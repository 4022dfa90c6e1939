/-! new T[n][m] (own work; by the library's law of it) -/
theorem mc_default_v {G : mc_G} {ty : FieldType} : mc_v G (defaultValue ty) = defaultValue ty := by cases ty <;> rfl
theorem mc_outer (c : ClassId) (N h0 : Nat) : ∀ i : Nat, Jvm.Free.Multi.outerC c N h0 i = arrV c N (fun j => if j < i then .ref (h0 + 1 + j) else .null)
  | 0 => by
    show ({ cls := c, slots := Array.replicate N .null, vm := .none } : Cell) = _
    rw [arrV_new]
    refine congrArg (arrV c N) (funext fun j => ?_)
    simp
  | i + 1 => by
    show (Jvm.Free.Multi.outerC c N h0 i).setSlot i (.ref (h0 + 1 + i)) = _
    rw [mc_outer c N h0 i, arrV_store]
    refine congrArg (arrV c N) (funext fun j => ?_)
    by_cases e : j = i
    · subst e
      simp [updV]
    · by_cases h : j < i
      · simp [updV, e, h, Nat.lt_succ_of_lt h]
      · simp [updV, e, h, show ¬ j < i + 1 by omega]
theorem mc_H_rows {G : mc_G} {M : mc_M} {H H1 : Heap} {x : mc_E} (h : mc_H G M H) (hx : mc_cell G H.size x H1) : ∀ (n : Nat) (y : mc_E), H1.size = H.size + 1 + n → (∀ q : Nat, q < H.size → H1[q]? = H[q]?) → (∀ j : Nat, j < n → mc_cell G (H.size + 1 + j) y H1) → mc_H G ((M ++ [x]) ++ List.replicate n y) H1 := by
  intro n y z oq hy
  refine ⟨by rw [z, h.1, List.length_append, List.length_append, List.length_replicate]; show _ = _ + (_ + 1 + _); omega, fun k e' hk => ?_⟩
  by_cases h1 : k < M.length
  · rw [List.getElem?_append_left (by rw [List.length_append]; omega), List.getElem?_append_left h1] at hk
    exact (h.2 k e' hk).kept (oq _ (by rw [h.1]; omega))
  · by_cases h2 : k = M.length
    · subst h2
      rw [List.getElem?_append_left (by rw [List.length_append]; exact Nat.lt_succ_self _), List.getElem?_append_right (Nat.le_refl _), Nat.sub_self] at hk
      cases hk
      rw [← h.1]
      exact hx
    · have hl : (M ++ [x]).length = M.length + 1 := by rw [List.length_append]; rfl
      rw [List.getElem?_append_right (by rw [hl]; omega), hl, List.getElem?_replicate] at hk
      split at hk
      · next hlt =>
        cases hk
        have e9 : G.2.1 + k = H.size + 1 + (k - (M.length + 1)) := by rw [h.1]; omega
        rw [e9]
        exact hy _ hlt
      · cases hk
theorem mc_sz_rep (n : Nat) (y : mc_E) : mc_sz (List.replicate n y) = n * mc_es y := by
  simp [mc_sz, List.map_replicate, List.sum_replicate_nat]
section MC6

variable {kt : Nat → Option mc_E} {own : Nat} {ini : Bool} {ret : Option FieldType} {cc : ByteArray}

variable {G : mc_G} {p : Program} {l : Launch} {e : Env} {R : Room} {s : State} {m : MethodId} {args : Array Value} {below : List Frame} {meth : Method} {c : Code} {Q : State → Prop} {nL l0 z0 : Nat}

variable {pc : Nat} {L : List (Nat × Value)} {st : List Value} {M : mc_M} {S : mc_S}
theorem mc_r_mna (C : mc_X kt G own nL ini ret cc p s m args meth c) {idx : Nat} (hd : decode cc pc = .ok (.multianewarray idx 2, 4)) (h : mc_mna own idx pc L st M = some (.inl S)) (hR : S.2.2.2.length ≤ R.cells + l0 ∧ mc_sz S.2.2.2 ≤ R.slots + z0) (k : mc_W G p l e R s m args below meth c Q nL l0 z0 S) : mc_W G p l e R s m args below meth c Q nL l0 z0 (pc, L, st, M) := by
  obtain ⟨hx, hb, hown, hts, hml, hB, hba, hini, hlk, hret⟩ := C
  unfold mc_mna at h
  split at h
  · next kk n r =>
    split at h
    · next en he =>
      obtain ⟨hok, h⟩ := mc_n_t h
      simp only [Bool.and_eq_true, decide_eq_true_eq] at hok
      obtain ⟨⟨⟨⟨h2, hn⟩, hk⟩, hN⟩, hK⟩ := hok
      rw [mc_go_S h] at k hR
      obtain ⟨r9, hr9, hm⟩ := mc_getD_mem (mc_find_mem he)
      have hw := mc_at_mem (mc_each_at mc_gl_ok hr9 hm)
      have hty : ∃ ty : FieldType, mc_ty en.1 = ty ∧ mc_ty (5 + en.1) = .array ty ∧ mc_gn en.1 = "[" ++ (FieldType.array ty).toString ∧ mc_AO (.array ty) s ∧ Cond.arrayClass ty ∈ mc_ws ∧ componentBytes ty ≤ 8 ∧ fits ty (defaultValue ty) = true ∧ (defaultValue ty).isDefault = true := by
        obtain ⟨j, pl⟩ := en
        have h2' : j < 2 := h2
        match j, h2' with
        | 0, _ => exact ⟨.int, rfl, rfl, (by decide : mc_gn 0 = "[" ++ (FieldType.array .int).toString), hB.2.1.2.1, mc_at_mem mc_ac_int, by decide, rfl, rfl⟩
        | 1, _ => exact ⟨.long, rfl, rfl, (by decide : mc_gn 1 = "[" ++ (FieldType.array .long).toString), hB.2.1.2.2, mc_at_mem mc_ac_long, by decide, rfl, rfl⟩
      obtain ⟨ty, e1, e2, e3, e4, e5, e6, e7, e8⟩ := hty
      have hw' : Cond.classLink (mc_cn own) idx ("[" ++ (FieldType.array ty).toString) ∈ mc_ws := by rw [← e3]; exact hw
      intro H locs ls cells slots hH hS hl hc hz
      have hc : cells + l0 = M.length := hc
      have hz : slots + z0 = mc_sz M := hz
      generalize hx0 : (Sum.inl (5 + en.1, n.toNatClampNeg, fun i => if i < n.toNatClampNeg then .ref (256 + M.length + 1 + i) else .null) : mc_E) = x at k hR
      generalize hy0 : (Sum.inl (en.1, kk.toNatClampNeg, fun _ => defaultValue (mc_ty en.1)) : mc_E) = y at k hR
      have ex : mc_es x = n.toNatClampNeg := by rw [← hx0]; rfl
      have ey : mc_es y = kk.toNatClampNeg := by rw [← hy0]; rfl
      have hlen : ((M ++ [x]) ++ List.replicate n.toNatClampNeg y).length = M.length + 1 + n.toNatClampNeg := by rw [List.length_append, List.length_append, List.length_replicate]; rfl
      have hsz : mc_sz ((M ++ [x]) ++ List.replicate n.toNatClampNeg y) = mc_sz M + n.toNatClampNeg + n.toNatClampNeg * kk.toNatClampNeg := by rw [mc_sz_app, mc_sz_app, mc_sz_one, mc_sz_rep, ex, ey]
      have hR1 : M.length + 1 + n.toNatClampNeg ≤ R.cells + l0 := by have := hR.1; rw [← hlen]; exact this
      have hR2 : mc_sz M + n.toNatClampNeg + n.toNatClampNeg * kk.toNatClampNeg ≤ R.slots + z0 := by have := hR.2; rw [← hsz]; exact this
      intro T hT Xs
      obtain ⟨vm₁, cA, comp, -, fA, fC, hO, -, X', step⟩ := Xs.multianewarray2F hx hown (hts _ hw') (by exact e4) (hts _ e5) (g := F0 m pc ls (.int kk :: .int n :: r.map (mc_v G))) rfl (by rw [hb]; exact hd) rfl hn hk (Nat.le_trans (Nat.mul_le_mul hN (Nat.le_refl 4)) (Nat.le_of_ble_eq_true rfl)) (Nat.le_trans (Nat.mul_le_mul hK e6) (Nat.le_of_ble_eq_true rfl)) (Nat.le_trans hK (Nat.le_of_ble_eq_true rfl)) e7 e8 (by omega) (by omega)
      have hTh : (T.setVm vm₁).heap = H := hT
      generalize hF : Jvm.Free.Multi.fill (T.setVm vm₁) cA comp n.toNatClampNeg kk.toNatClampNeg (defaultValue ty) n.toNatClampNeg = F at X' step
      obtain ⟨f1, f2, -, -⟩ := Jvm.Free.Multi.fill_facts (T.setVm vm₁) cA comp n.toNatClampNeg kk.toNatClampNeg (defaultValue ty) n.toNatClampNeg
      rw [hF, hTh] at f1 f2
      have hold : ∀ x : Nat, x < H.size → F.heap[x]? = H[x]? := fun x hx => by
        have := Jvm.Free.Multi.fill_old (T.setVm vm₁) cA comp n.toNatClampNeg kk.toNatClampNeg (defaultValue ty) (a := x) (by rw [hTh]; exact hx) n.toNatClampNeg
        rw [hF, hTh] at this
        exact this
      have hrow : ∀ j : Nat, j < n.toNatClampNeg → F.heap[H.size + 1 + j]? = some (arrV comp kk.toNatClampNeg (fun _ => defaultValue ty)) := fun j hj => by
        have := Jvm.Free.Multi.fill_inner (T.setVm vm₁) cA comp n.toNatClampNeg kk.toNatClampNeg (defaultValue ty) n.toNatClampNeg j hj
        rw [hF, hTh] at this
        rw [this, ← arrV_new]
        rfl
      rw [mc_outer] at f2
      have hcA : cA = G.2.2.1 (5 + en.1) := by
        have h10 := (hB.1.2 (5 + en.1) _ (mc_tys_at (by omega))).2
        rw [e2] at h10
        exact Option.some.inj (fA.symm.trans h10)
      have hcm : comp = G.2.2.1 en.1 := by
        have h10 := (hB.1.2 en.1 _ (mc_tys_at (by omega))).2
        have h11 : s.vm.findClass ("[" ++ (mc_ty en.1).toString) = some (G.2.2.1 en.1) := by
          obtain ⟨j, pl⟩ := en
          have h2' : j < 2 := h2
          match j, h2', h10 with
          | 0, _, h10 => exact h10
          | 1, _, h10 => exact h10
        rw [e1] at h11
        exact Option.some.inj (fC.symm.trans h11)
      have hv : mc_v G (.ref (256 + M.length)) = .ref H.size := by
        show Value.ref _ = _
        rw [mc_a_new, hH.1]
      have hH2 : mc_H G ((M ++ [x]) ++ List.replicate n.toNatClampNeg y) F.heap := by
        refine mc_H_rows hH ?_ _ y f1 hold (fun j hj => ?_)
        · rw [← hx0]
          intro _
          rw [f2, hcA]
          refine congrArg some (congrArg (arrV (G.2.2.1 (5 + en.1)) n.toNatClampNeg) (funext fun j => ?_))
          by_cases hj : j < n.toNatClampNeg
          · simp only [if_pos hj]
            show _ = Value.ref (mc_a G (256 + M.length + 1 + j))
            have e8 : H.size + 1 + j = G.2.1 + (M.length + 1 + j) := by
              have h9 : H.size = G.2.1 + M.length := hH.1
              omega
            have e7 : 256 + M.length + 1 + j = 256 + (M.length + 1 + j) := by omega
            rw [e7, mc_a_new, ← e8]
          · simp only [if_neg hj]
            rfl
        · rw [← hy0]
          intro _
          rw [hrow j hj, hcm]
          refine congrArg some (congrArg (arrV (G.2.2.1 en.1) kk.toNatClampNeg) (funext fun j => ?_))
          rw [mc_default_v, e1]
      have hS2 : va_S (mc_A G) s.heap F.heap locs := ⟨Nat.le_trans hS.1 (by omega), fun q h1 h2 => (hold q (Nat.lt_of_lt_of_le h1 hS.1)).trans (hS.2.1 q h1 h2), hS.2.2⟩
      obtain ⟨t, a1, b1⟩ := k F.heap locs ls (cells + 1 + n.toNatClampNeg) (slots + n.toNatClampNeg + n.toNatClampNeg * kk.toNatClampNeg) hH2 hS2 hl (by rw [hlen]; omega) (by rw [hsz]; omega) F rfl X'
      refine ⟨t, step t ?_, b1⟩
      have e9 : T.heap.size = H.size := by rw [hT]
      rw [e9, ← hv]
      exact a1
    · cases h
  · cases h
end MC6
