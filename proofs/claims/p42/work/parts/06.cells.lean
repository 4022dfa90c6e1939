/-! THE MINI MACHINE'S STEPS ON CELLS ARE THE MACHINE'S (own work, over the kit's rows) -/
theorem mc_getD_mem {α : Type} {l : List (List α)} {own : Nat} {x : α} (h : x ∈ l.getD own []) : ∃ r, l[own]? = some r ∧ x ∈ r := by
  rw [List.getD_eq_getElem?_getD] at h
  cases hr : l[own]? with
  | none => rw [hr] at h; cases h
  | some r => rw [hr] at h; exact ⟨r, rfl, h⟩
theorem mc_tb_ws {i : Nat × Nat} {w : Cond} (h : mc_tb i w false = true) : w ∈ mc_ws := by
  simp only [mc_tb, Bool.and_eq_true, decide_eq_true_eq, Bool.false_or] at h
  exact List.mem_filter.mpr ⟨mc_ch_sub _ _ (List.mem_of_getElem? h.1), h.2⟩
theorem mc_cl_at : ∀ ci : Nat, ci < 11 → mc_cl[ci]? = some (mc_cn ci, mc_T ci, mc_N.getD ci 0)
  | 0, _ => rfl
  | 1, _ => rfl
  | 2, _ => rfl
  | 3, _ => rfl
  | 4, _ => rfl
  | 5, _ => rfl
  | 6, _ => rfl
  | 7, _ => rfl
  | 8, _ => rfl
  | 9, _ => rfl
  | 10, _ => rfl
theorem mc_cl_lt {ci : Nat} {r : vw_C} (h : mc_cl[ci]? = some r) : ci < 11 := (List.getElem?_eq_some_iff.mp h).1
theorem mc_cl_eq {ci : Nat} {r : vw_C} (h : mc_cl[ci]? = some r) : r = (mc_cn ci, mc_T ci, mc_N.getD ci 0) := Option.some.inj (h.symm.trans (mc_cl_at ci (mc_cl_lt h)))
theorem mc_ck_at {ci : Nat} (h : ci < 11) : mc_ck ci = true := List.all_eq_true.mp mc_ck_ok ci (List.mem_range.mpr h)
theorem mc_ck_k {ci k : Nat} (h : ci < 11) (hk : k < mc_N.getD ci 0) : u_lay (mc_cn ci) (mc_T ci) k ∈ mc_ws ∧ parseFieldDescriptor (mc_T ci k).2.2.1 = some (mc_t ci k) ∧ ∀ j, j < mc_N.getD ci 0 → k ≠ j → (mc_T ci k).2.1 ≠ (mc_T ci j).2.1 := by
  have h1 := mc_ck_at h
  simp only [mc_ck, Bool.and_eq_true] at h1
  have h2 := List.all_eq_true.mp h1.1.1 k (List.mem_range.mpr hk)
  simp only [Bool.and_eq_true, decide_eq_true_eq] at h2
  refine ⟨mc_at_mem h2.1.1, h2.1.2, fun j hj hne => ?_⟩
  have h3 := List.all_eq_true.mp h2.2 j (List.mem_range.mpr hj)
  simp only [Bool.or_eq_true, decide_eq_true_eq] at h3
  exact h3.resolve_left hne
theorem mc_in_ws {ci : Nat} (h : ci < 11) : ∀ w ∈ u_ws (mc_cn ci) (mc_T ci) (mc_N.getD ci 0), w ∈ mc_ws := fun w hw => by
  obtain ⟨k, hk, rfl⟩ := List.mem_map.mp hw
  exact (mc_ck_k h (List.mem_range.mp hk)).1
theorem mc_inst {ci : Nat} (h : ci < 11) : (Cond.instantiable (mc_cn ci) (mc_N.getD ci 0)) ∈ mc_ws ∧ (Cond.initialized (mc_cn ci)) ∈ mc_ws := by
  have h1 := mc_ck_at h
  simp only [mc_ck, Bool.and_eq_true] at h1
  exact ⟨mc_at_mem h1.1.2, mc_at_mem h1.2⟩
theorem mc_fr_lo {ci k : Nat} (h : ci < 11) : mc_fr ci k = ((mc_T ci k).1, (mc_T ci k).2.1, (mc_T ci k).2.2.1) := if_pos h
theorem mc_decl_ok : (List.range 11).all (fun ci => (List.range (mc_N.getD ci 0)).all (fun k => decide ((mc_T ci k).1 = mc_cn ci))) = true := by decide +kernel
theorem mc_decl {ci k : Nat} (h : ci < 11) (hk : k < mc_N.getD ci 0) : (mc_T ci k).1 = mc_cn ci := by
  have h1 := List.all_eq_true.mp (List.all_eq_true.mp mc_decl_ok ci (List.mem_range.mpr h)) k (List.mem_range.mpr hk)
  simpa using h1
/-- what holds within a method -/
def mc_X (kt : Nat → Option mc_E) (G : mc_G) (own nL : Nat) (ini : Bool) (ret : Option FieldType) (cc : ByteArray) (p : Program) (s : State) (m : MethodId) (args : Array Value) (meth : Method) (c : Code) : Prop :=
  p.tables.exec = Jvm.exec ∧ c.code = cc ∧ s.vm.findClass (mc_cn own) = some m.cls ∧ (∀ w ∈ mc_ws, w.before args s = true) ∧ c.maxLocals = nL ∧ mc_B kt G s s.heap ∧ G.2.1 ≤ s.heap.size ∧ (ini = true → meth.name = "<init>") ∧ meth.locks = false ∧ meth.sig.returnType = ret
theorem mc_fword {s : State} {args : Array Value} {own idx : Nat} {en : Nat × Nat × Bool × String × Nat × Nat} (hts : ∀ w ∈ mc_ws, w.before args s = true) (hN : mc_NW s) (h : mc_find (mc_fl.getD own []) idx = some en) :
    (en.2.2.1 = false ∧ (Cond.fieldLink (mc_cn own) idx (mc_fr en.1 en.2.1).1 (mc_fr en.1 en.2.1).2.1 (mc_fr en.1 en.2.1).2.2).before args s = true) ∨ (en.2.2.1 = true ∧ ∃ host, (Cond.fieldLinkNest (mc_cn own) idx (mc_fr en.1 en.2.1).1 (mc_fr en.1 en.2.1).2.1 (mc_fr en.1 en.2.1).2.2 host).before args s = true) := by
  obtain ⟨r, hr, hm⟩ := mc_getD_mem (mc_find_mem h)
  have h1 := mc_each_at mc_fl_ok hr hm
  obtain ⟨ci, k, nest, host, pl⟩ := en
  cases nest with
  | false => exact Or.inl ⟨rfl, hts _ (mc_tb_ws (w := mc_fw own (idx, ci, k, false, host, pl)) h1)⟩
  | true => exact Or.inr ⟨rfl, host, va_Nw.use (w := .fieldLinkNest (mc_cn own) idx (mc_fr ci k).1 (mc_fr ci k).2.1 (mc_fr ci k).2.2 host) rfl (hN.1 own r hr _ hm rfl)⟩
section MC2

variable {kt : Nat → Option mc_E} {own : Nat} {ini : Bool} {ret : Option FieldType} {cc : ByteArray}

variable {G : mc_G} {p : Program} {l : Launch} {e : Env} {R : Room} {s : State} {m : MethodId} {args : Array Value} {below : List Frame} {meth : Method} {c : Code} {Q : State → Prop} {nL l0 z0 : Nat}

variable {pc : Nat} {L : List (Nat × Value)} {st : List Value} {M : mc_M} {S : mc_S}
theorem mc_gf {H : Heap} {locs : List Loc} {cells slots : Nat} {ls : Array Slot} {rest : List Value} {o ref n d : String} {index : Nat} (hx : p.tables.exec = Jvm.exec) (hb : c.code = cc) (hown : s.vm.findClass o = some m.cls) (hw : (Cond.fieldLink o index ref n d).before args s = true ∨ ∃ host, (Cond.fieldLinkNest o index ref n d host).before args s = true)
    {cf i : Nat} {k : Class} {f : Field} (hi : s.fieldFound? ref n d = some (cf, k, i, f)) (hst : f.isStatic = false) {a : Addr} {cell : Cell} {v : Value} (hcell : H[a]? = some cell) (hknown : cell.vm ≠ .unknown) (hslot : cell.slots[f.slot]? = some v) (hdg : decode cc pc = .ok (.getfield index, 3))
    (kk : W p l e R s m args below meth c H locs cells slots Q (F0 m (pc + 3) ls (v :: rest))) : W p l e R s m args below meth c H locs cells slots Q (F0 m pc ls (.ref a :: rest)) := by
  rcases hw with h | ⟨host, h⟩
  · exact W.getf hx hb hown h hi hst hcell hknown hslot rfl rfl hdg kk
  · exact va_Wgetf hx hb hown h hi hst hcell hknown hslot rfl rfl hdg kk
theorem mc_pf {H : Heap} {locs : List Loc} {cells slots : Nat} {ls : Array Slot} {rest : List Value} {o ref n d : String} {index : Nat} (hx : p.tables.exec = Jvm.exec) (hb : c.code = cc) (hown : s.vm.findClass o = some m.cls) (hw : (Cond.fieldLink o index ref n d).before args s = true ∨ ∃ host, (Cond.fieldLinkNest o index ref n d host).before args s = true)
    {cf i : Nat} {k : Class} {f : Field} (hi : s.fieldFound? ref n d = some (cf, k, i, f)) (hst : f.isStatic = false) {a : Addr} {cell : Cell} {v : Value} (hSd : k2_Sd s f cell.cls v) (hcell : H[a]? = some cell) (hvm : cell.vm = .none) (hlt : f.slot < cell.slots.size) (hdg : decode cc pc = .ok (.putfield index, 3))
    (kk : ∀ H' : Heap, H'[a]? = some (cell.setSlot f.slot v) → H'.size = H.size → (∀ q, q ≠ a → H'[q]? = H[q]?) → W p l e R s m args below meth c H' (locs ++ [⟨a, f.slot⟩]) cells slots Q (F0 m (pc + 3) ls rest)) : W p l e R s m args below meth c H locs cells slots Q (F0 m pc ls (v :: .ref a :: rest)) := by
  rcases hw with h | ⟨host, h⟩
  · exact W.putK hx hb (f := f) ⟨hown, h, ⟨_, _, _, hi⟩, hst⟩ hSd hcell hvm hlt rfl rfl hdg kk
  · exact va_WputK hx hb (f := f) hown h hi hst hSd hcell hvm hlt rfl rfl hdg kk
theorem mc_r_getf (C : mc_X kt G own nL ini ret cc p s m args meth c) {idx : Nat} (hd : decode cc pc = .ok (.getfield idx, 3)) (h : mc_getf kt own idx pc L st M = some (.inl S)) (k : mc_W G p l e R s m args below meth c Q nL l0 z0 S) : mc_W G p l e R s m args below meth c Q nL l0 z0 (pc, L, st, M) := by
  obtain ⟨hx, hb, hown, hts, hml, hB, hba, hini, hlk, hret⟩ := C
  unfold mc_getf at h
  split at h
  · next a r =>
    split at h
    · next en he =>
      split at h
      · next q hq =>
        split at h
        · next v hv =>
          obtain ⟨hok, h⟩ := mc_n_t h
          simp only [Bool.and_eq_true, Bool.or_eq_true, beq_iff_eq, decide_eq_true_eq] at hok
          rw [mc_go_S h] at k
          have hw := mc_fword (en := en) hts hB.2.2.1 he
          have hw' := hw.imp (fun h => h.2) (fun h => h.2)
          intro H locs ls cells slots hH hS hl hc hz
          by_cases ha : a < 256
          · have hq' : kt a = some (.inr q) := by
              have := hq
              unfold mc_ce at this
              rwa [if_pos ha] at this
            have hOF := (hB.2.2.2.1.2.1 a q.1 q.2 hq' en.2.1 v hv).kept hS.2.1
            rw [hok.1.1] at hOF
            obtain ⟨cf, k9, fi, f, cell, h1, h2, h3, h4, h5, h6⟩ := hOF
            show W p l e R s m args below meth c H locs cells slots Q (F0 m pc ls (.ref (mc_a G a) :: r.map (mc_v G)))
            rw [mc_a_lo ha]
            exact mc_gf hx hb hown hw' h1 h2 h3 h4 h5 hd (k H locs ls cells slots hH hS hl hc hz)
          · have hq' : M[a - 256]? = some (.inr q) := by
              have := hq
              unfold mc_ce at this
              rwa [if_neg ha] at this
            obtain ⟨r9, g1, cell, q1, q2, q3, q4⟩ := hH.at (Nat.not_lt.mp ha) hq'
            have hci := mc_cl_lt g1
            have hr9 := mc_cl_eq g1
            subst hr9
            have hk := hok.2.resolve_left ha
            rw [← hok.1.1] at hw' hk
            rw [mc_fr_lo hci] at hw'
            obtain ⟨hSl, hfc, kC, hkC, hkind⟩ := hB.1.1 q.1 _ g1
            obtain ⟨cf, kf, fi, f, hi, hsl⟩ := hSl en.2.1 hk
            show W p l e R s m args below meth c H locs cells slots Q (F0 m pc ls (.ref (mc_a G a) :: r.map (mc_v G)))
            refine mc_gf hx hb hown hw' hi (u_facts hfc hkC (u_lays hts (mc_in_ws hci) hk) hi).1 q1 (by rw [q3]; exact fun h => by cases h) (v := mc_v G v) ?_ hd (k H locs ls cells slots hH hS hl hc hz)
            rw [hsl, q4 en.2.1 hk]
            simp [vp_V, hv]
        · cases h
      · cases h
    · cases h
  · cases h
theorem mc_fit_ok {ty : FieldType} {v : Value} (h : mc_fit ty v = true) : narrow ty (mc_v G v) = mc_v G v ∧ fits ty (mc_v G v) = true := by
  unfold mc_fit at h
  split at h
  · exact ⟨rfl, rfl⟩
  · exact ⟨rfl, rfl⟩
  · next x =>
    simp only [Bool.or_eq_true, beq_iff_eq] at h
    rcases h with rfl | rfl
    · exact ⟨rfl, rfl⟩
    · exact ⟨rfl, rfl⟩
  · exact ⟨rfl, rfl⟩
  · exact ⟨rfl, rfl⟩
  · exact ⟨rfl, rfl⟩
  · exact ⟨rfl, rfl⟩
  · cases h
theorem mc_r_putf (C : mc_X kt G own nL ini ret cc p s m args meth c) {idx : Nat} (hd : decode cc pc = .ok (.putfield idx, 3)) (h : mc_putf own ini idx pc L st M = some (.inl S)) (k : mc_W G p l e R s m args below meth c Q nL l0 z0 S) : mc_W G p l e R s m args below meth c Q nL l0 z0 (pc, L, st, M) := by
  obtain ⟨hx, hb, hown, hts, hml, hB, hba, hini, hlk, hret⟩ := C
  unfold mc_putf at h
  split at h
  · next v a r =>
    split at h
    · next en he =>
      split at h
      · next q hq =>
        obtain ⟨hok, h⟩ := mc_n_t h
        simp only [Bool.and_eq_true, Bool.or_eq_true, beq_iff_eq, decide_eq_true_eq, Bool.not_eq_true'] at hok
        obtain ⟨⟨⟨⟨⟨⟨e1, e2⟩, e3⟩, e4⟩, e5⟩, e6⟩, e7⟩ := hok
        rw [mc_go_S h] at k
        have hw := mc_fword (en := en) hts hB.2.2.1 he
        rw [mc_fr_lo e3] at hw
        obtain ⟨hn, hf⟩ := mc_fit_ok (G := G) e6
        obtain ⟨hlay, hty, hnm⟩ := mc_ck_k e3 e4
        intro H locs ls cells slots hH hS hl hc hz
        obtain ⟨r9, g1, cell, q1, q2, q3, q4⟩ := hH.at e2 hq
        have hr9 := mc_cl_eq g1
        subst hr9
        rw [e1] at g1 q2 q4
        have hap := va_apart (own := "") hts (mc_in_ws e3) (mc_t en.1) (fun j hj => (mc_ck_k e3 hj).2.1) (fun x hx y hy hne => (mc_ck_k e3 hx).2.2 y hy hne) hB.1 g1
        obtain ⟨hSl, hfc, kC, hkC, hkind⟩ := hB.1.1 en.1 _ g1
        obtain ⟨cf, kf, fi, f, hi, hsl⟩ := hSl en.2.1 e4
        have hst := (u_facts hfc hkC (u_lays hts (mc_in_ws e3) e4) hi).1
        have hk0 : G.2.1 + (a - 256) = mc_a G a := (mc_a_hi e2).symm
        have key : ∀ H' : Heap, H'[mc_a G a]? = some (cell.setSlot f.slot (mc_v G v)) → H'.size = H.size → (∀ q : Nat, q ≠ mc_a G a → H'[q]? = H[q]?) → W p l e R s m args below meth c H' (locs ++ [⟨mc_a G a, f.slot⟩]) cells slots Q (F0 m (pc + 3) ls (r.map (mc_v G))) := by
          intro H' f1 f2 f3
          rw [hsl] at f1 ⊢
          refine k H' _ ls cells slots (hH.set hq ?_ f2 (fun x hx => f3 x (by rw [← hk0]; exact hx))) (hS.put f2 f3 (by rw [← hk0]; exact Nat.le_add_right _ _)) hl (by rw [List.length_set]; exact hc) (by rw [mc_sz_set hq (by simp [mc_es])]; exact hz)
          refine ⟨(mc_cn en.1, mc_T en.1, mc_N.getD en.1 0), by rw [e1]; exact g1, ?_⟩
          rw [hk0, e1]
          refine t_OB.to (V := updV (vp_V (q.2.map (mc_v G))) en.2.1 (mc_v G v)) ⟨_, f1, q2, q3, t_set q4 hap e4 (mc_v G v)⟩ (fun j _ => ?_)
          rw [vp_updV_set (by rw [List.length_map]; exact e5), List.map_set]
        show W p l e R s m args below meth c H locs cells slots Q (F0 m pc ls (mc_v G v :: .ref (mc_a G a) :: r.map (mc_v G)))
        unfold u_lay at hlay
        rcases e7 with hfin | ⟨⟨i1, i2⟩, i3⟩
        · rw [if_neg (by rw [hfin]; decide)] at hlay
          exact mc_pf hx hb hown (hw.imp (fun h => h.2) (fun h => h.2)) hi hst (by rw [q2]; exact u_store hfc hkC hkind (hts _ hlay) hi hty hn hf) q1 q3 (by rw [hsl]; exact k2_hasslot (q4 en.2.1 e4)) hd key
        · by_cases hfin : (mc_T en.1 en.2.1).2.2.2 = true
          · rw [if_pos hfin] at hlay
            rcases hw with ⟨-, hw⟩ | ⟨hne, host, hw⟩
            · have hcf : m.cls = cf := by
                obtain ⟨_, _, c', _, _, _, -, -, hf', -, -, -, hown2, -⟩ := Cond.laysFinal_spec (hts _ hlay)
                have z1 : c' = cf := by have := hi.symm.trans hf'; simp at this; exact this.1.symm
                have z2 : (mc_T en.1 en.2.1).1 = mc_cn own := by
                  rw [i2]
                  exact mc_decl e3 e4
                rw [z2] at hown2
                rw [← z1]; exact Option.some.inj (hown.symm.trans hown2)
              exact W.putFinK hx hb hown hw hi hst hcf (hini i1) (by rw [q2]; exact u_fits hfc hkC hkind (Or.inr (hts _ hlay)) hi hty hn hf) q1 q3 (by rw [hsl]; exact k2_hasslot (q4 en.2.1 e4)) rfl rfl hd key
            · exact absurd i3 (by rw [hne]; decide)
          · rw [if_neg hfin] at hlay
            exact mc_pf hx hb hown (hw.imp (fun h => h.2) (fun h => h.2)) hi hst (by rw [q2]; exact u_store hfc hkC hkind (hts _ hlay) hi hty hn hf) q1 q3 (by rw [hsl]; exact k2_hasslot (q4 en.2.1 e4)) hd key
      · cases h
    · cases h
  · cases h
end MC2
