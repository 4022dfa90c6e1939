/-! THE MINI MACHINE'S CALLS ARE THE MACHINE'S (own work, over the kit's rows) -/
theorem mc_mk_all {k : Nat} {q : Nat × MethodName × ByteArray × Nat × Option FieldType × Nat × Nat} (h : mc_mt k = some q) : mc_mk k = true := by
  have h0 := h
  unfold mc_mt at h
  split at h
  · next hb =>
    have hlt : k % 32 < 32 := (List.getElem?_eq_some_iff.mp h).1
    have h1 := List.all_eq_true.mp mc_mk_0 (k % 32) (List.mem_range.mpr hlt)
    have e1 : 0 + k % 32 = k := by omega
    rw [e1] at h1
    exact h1
  · next hb =>
    have hlt : k % 32 < 32 := (List.getElem?_eq_some_iff.mp h).1
    have h1 := List.all_eq_true.mp mc_mk_1 (k % 32) (List.mem_range.mpr hlt)
    have e1 : 32 + k % 32 = k := by omega
    rw [e1] at h1
    exact h1
  · next hb =>
    have hlt : k % 32 < 32 := (List.getElem?_eq_some_iff.mp h).1
    have h1 := List.all_eq_true.mp mc_mk_2 (k % 32) (List.mem_range.mpr hlt)
    have e1 : 64 + k % 32 = k := by omega
    rw [e1] at h1
    exact h1
  · next hb =>
    have hlt : k % 32 < 32 := (List.getElem?_eq_some_iff.mp h).1
    have h1 := List.all_eq_true.mp mc_mk_3 (k % 32) (List.mem_range.mpr hlt)
    have e1 : 96 + k % 32 = k := by omega
    rw [e1] at h1
    exact h1
  · next hb =>
    have hlt : k % 32 < 32 := (List.getElem?_eq_some_iff.mp h).1
    have h1 := List.all_eq_true.mp mc_mk_4 (k % 32) (List.mem_range.mpr hlt)
    have e1 : 128 + k % 32 = k := by omega
    rw [e1] at h1
    exact h1
  · next hb =>
    have hlt : k % 32 < 32 := (List.getElem?_eq_some_iff.mp h).1
    have h1 := List.all_eq_true.mp mc_mk_5 (k % 32) (List.mem_range.mpr hlt)
    have e1 : 160 + k % 32 = k := by omega
    rw [e1] at h1
    exact h1
  · next hb =>
    have hlt : k % 32 < 32 := (List.getElem?_eq_some_iff.mp h).1
    have h1 := List.all_eq_true.mp mc_mk_6 (k % 32) (List.mem_range.mpr hlt)
    have e1 : 192 + k % 32 = k := by omega
    rw [e1] at h1
    exact h1
  · next hb =>
    have hlt : k % 32 < 32 := (List.getElem?_eq_some_iff.mp h).1
    have h1 := List.all_eq_true.mp mc_mk_7 (k % 32) (List.mem_range.mpr hlt)
    have e1 : 224 + k % 32 = k := by omega
    rw [e1] at h1
    exact h1
  · next hb =>
    have hlt : k % 32 < 32 := (List.getElem?_eq_some_iff.mp h).1
    have h1 := List.all_eq_true.mp mc_mk_8 (k % 32) (List.mem_range.mpr hlt)
    have e1 : 256 + k % 32 = k := by omega
    rw [e1] at h1
    exact h1
  · next hb =>
    have hlt : k % 32 < 8 := (List.getElem?_eq_some_iff.mp h).1
    have h1 := List.all_eq_true.mp mc_mk_9 (k % 32) (List.mem_range.mpr hlt)
    have e1 : 288 + k % 32 = k := by omega
    rw [e1] at h1
    exact h1
  · cases h
theorem mc_code_of {mi : List ((Nat × Nat) × (Nat × Nat) × (Nat × Nat) × (Nat × Nat))} {mt : List (Nat × MethodName × ByteArray × Nat × Option FieldType × Nat × Nat)} (h : mi.map (fun i => (mc_ch i.1.1)[i.1.2]?) = mt.map (fun q => some (Cond.code q.2.1 q.2.2.1 q.2.2.2.1 q.2.2.2.2.1))) {j : Nat} {q : Nat × MethodName × ByteArray × Nat × Option FieldType × Nat × Nat} (hq : mt[j]? = some q) : Cond.code q.2.1 q.2.2.1 q.2.2.2.1 q.2.2.2.2.1 ∈ mc_ws := by
  have h1 : (mi.map (fun i => (mc_ch i.1.1)[i.1.2]?))[j]? = some (some (Cond.code q.2.1 q.2.2.1 q.2.2.2.1 q.2.2.2.2.1)) := by rw [h, List.getElem?_map, hq]; rfl
  rw [List.getElem?_map] at h1
  cases hi : mi[j]? with
  | none => rw [hi] at h1; cases h1
  | some i =>
    rw [hi] at h1
    exact List.mem_filter.mpr ⟨mc_ch_sub _ _ (List.mem_of_getElem? (Option.some.inj h1)), rfl⟩
theorem mc_code_mem {k : Nat} {q : Nat × MethodName × ByteArray × Nat × Option FieldType × Nat × Nat} (h : mc_mt k = some q) : Cond.code q.2.1 q.2.2.1 q.2.2.2.1 q.2.2.2.2.1 ∈ mc_ws := by
  unfold mc_mt at h
  split at h
  · exact mc_code_of mc_cw_0 h
  · exact mc_code_of mc_cw_1 h
  · exact mc_code_of mc_cw_2 h
  · exact mc_code_of mc_cw_3 h
  · exact mc_code_of mc_cw_4 h
  · exact mc_code_of mc_cw_5 h
  · exact mc_code_of mc_cw_6 h
  · exact mc_code_of mc_cw_7 h
  · exact mc_code_of mc_cw_8 h
  · exact mc_code_of mc_cw_9 h
  · cases h
/-- what the tables say of method k -/
theorem mc_mfacts {k : Nat} {q : Nat × MethodName × ByteArray × Nat × Option FieldType × Nat × Nat} (h : mc_mt k = some q) :
    Cond.code q.2.1 q.2.2.1 q.2.2.2.1 q.2.2.2.2.1 ∈ mc_ws ∧ (q.2.2.2.2.2.2 = 0 → Cond.static q.2.1 ∈ mc_ws) ∧ (q.2.2.2.2.2.2 ≠ 0 → Cond.instanceMethod q.2.1 ∈ mc_ws) ∧ (q.2.2.2.2.2.2 = 1 → Cond.selects (mc_cn q.1) q.2.1 q.2.1 ∈ mc_ws) ∧ Cond.initialized (mc_cn q.1) ∈ mc_ws ∧ q.2.1.cls = mc_cn q.1 ∧ (q.2.2.2.2.2.2 = 2 → q.2.1.name = "<init>") ∧ plainName q.2.1.cls = true ∧ (q.2.1.cls ≠ "java/lang/invoke/MethodHandle" ∧ q.2.1.cls ≠ "java/lang/invoke/VarHandle") ∧ (parseMethodDescriptor q.2.1.desc).map (fun d => d.parameters.length) = some q.2.2.2.2.2.1 ∧ q.2.2.2.1 ≤ 13 := by
  have h1 := mc_mk_all h
  unfold mc_mk at h1
  rw [h] at h1
  obtain ⟨own, y, b, n, r, np, sort⟩ := q
  cases hi : mc_mi k with
  | none => rw [hi] at h1; cases h1
  | some z =>
    obtain ⟨i1, i2, i3, i4⟩ := z
    rw [hi] at h1
    simp only [Bool.and_eq_true, Bool.or_eq_true, decide_eq_true_eq] at h1
    obtain ⟨⟨⟨⟨⟨⟨⟨⟨⟨a2, a3⟩, a4⟩, a5⟩, a6⟩, a7⟩, a8⟩, a9⟩, a10⟩, a11⟩ := h1
    refine ⟨mc_code_mem h, fun hs => ?_, fun hs => ?_, fun hs => mc_at_mem (a3.resolve_left (fun z => z hs)), mc_at_mem a4, a5, fun hs => a6.resolve_left (fun z => z hs), a7, ⟨a8, a9⟩, a10, a11⟩
    · have hs' : sort = 0 := hs
      rw [if_pos hs'] at a2
      exact mc_at_mem a2
    · have hs' : ¬ sort = 0 := hs
      rw [if_neg hs'] at a2
      exact mc_at_mem a2
def mc_le (M N : mc_M) : Prop := M.length ≤ N.length ∧ mc_sz M ≤ mc_sz N
def mc_Pc (kt : Nat → Option mc_E) (G : mc_G) (M : mc_M) (as : List Value) : Array Value → State → Prop := va_Pc (as.map (mc_v G)) (fun U => mc_H G M U.heap ∧ mc_B kt G U U.heap)
def mc_Qc (G : mc_G) (w : mc_R) : Array Value → State → Outcome → State → Prop := fun _ st o t => o = .returned (w.1.map (mc_v G)) ∧ mc_H G w.2 t.heap ∧ va_F (mc_A G) st t
def mc_rm (d : Nat) (M N : mc_M) : Room := { frames := d + 5, cells := N.length - M.length, slots := mc_sz N - mc_sz M, locals := 36 * (d + 5) }
/-- method q's contract at one run of the mini machine -/
def mc_Met (l : Launch) (kt : Nat → Option mc_E) (G : mc_G) (d : Nat) (q : Nat × MethodName × ByteArray × Nat × Option FieldType × Nat × Nat) (as : List Value) (M : mc_M) (w : mc_R) : Prop :=
  Met l q.2.1 (Cond.code q.2.1 q.2.2.1 q.2.2.2.1 q.2.2.2.2.1 :: mc_ws) (mc_rm d M w.2) (mc_Pc kt G M as) (mc_Qc G w) (w.2.length - M.length) (mc_sz w.2 - mc_sz M) (mc_A G)
theorem mc_pay {s : State} {args : Array Value} {x : Cond} (hts : ∀ w ∈ mc_ws, w.before args s = true) (hx : x ∈ mc_ws) : ∀ w ∈ x :: mc_ws, ∀ (a' : Array Value) (U : State), s.WarmedH U.vm → w.before a' U = true := by
  refine pay_in hts fun w hw => ?_
  rcases List.mem_cons.mp hw with rfl | hw
  · exact ⟨hx, good_of_word (mc_ws_good _ hx)⟩
  · exact ⟨hw, good_of_word (mc_ws_good _ hw)⟩
theorem mc_blind {kt : Nat → Option mc_E} {G : mc_G} {M : mc_M} {as : List Value} : FrameBlind (mc_Pc kt G M as) := by
  intro a U g mk ⟨h1, h2, h3⟩
  exact ⟨h1, h2, mc_B.same (s := U) (U := U.calling g mk a) rfl h3⟩
theorem mc_npar {y : MethodName} {n : Nat} (h : (parseMethodDescriptor y.desc).map (fun d => d.parameters.length) = some n) : ∀ sig, parseMethodDescriptor y.desc = some sig → n = sig.parameters.length := fun sig hs => by
  rw [hs] at h
  exact (Option.some.inj h).symm
section MC4

variable {kt : Nat → Option mc_E} {own : Nat} {ini : Bool} {ret : Option FieldType} {cc : ByteArray}

variable {G : mc_G} {p : Program} {l : Launch} {e : Env} {R : Room} {s : State} {m : MethodId} {args : Array Value} {below : List Frame} {meth : Method} {c : Code} {Q : State → Prop} {nL l0 z0 : Nat}

variable {pc : Nat} {L : List (Nat × Value)} {st : List Value} {M : mc_M} {S : mc_S}
theorem mc_mword (hts : ∀ w ∈ mc_ws, w.before args s = true) (hN : mc_NW s) {idx : Nat} {en : Nat × Bool × String × Nat × Nat} {q : Nat × MethodName × ByteArray × Nat × Option FieldType × Nat × Nat} (h : mc_find (mc_ml.getD own []) idx = some en) (hq : mc_mt en.1 = some q) :
    (Cond.methodLink (mc_cn own) idx q.2.1).before args s = true ∨ ∃ host, (Cond.methodLinkNest (mc_cn own) idx q.2.1 host).before args s = true := by
  obtain ⟨r, hr, hm⟩ := mc_getD_mem (mc_find_mem h)
  have h1 := mc_each_at mc_ml_ok hr hm
  obtain ⟨k, nest, host, pl⟩ := en
  have hy : mc_yn k = q.2.1 := by
    unfold mc_yn
    rw [show mc_mt k = some q from hq]
  cases nest with
  | false =>
    have h2 := hts _ (mc_tb_ws (w := mc_mw own (idx, k, false, host, pl)) h1)
    have h3 : (Cond.methodLink (mc_cn own) idx (mc_yn k)).before args s = true := h2
    rw [hy] at h3
    exact Or.inl h3
  | true =>
    have h2 := hN.2.1 own r hr _ hm rfl
    have h3 : va_Nw (Cond.methodLinkNest (mc_cn own) idx (mc_yn k) host) s := h2
    rw [hy] at h3
    exact Or.inr ⟨host, va_Nw.use rfl h3⟩
theorem mc_pre (C : mc_X kt G own nL ini ret cc p s m args meth c) {H : Heap} {locs : List Loc} (hH : mc_H G M H) (hS : va_S (mc_A G) s.heap H locs) {as : List Value} {U : State} (hU : U.heap = H) (hW : s.WarmedH U.vm) : mc_Pc kt G M as (as.map (mc_v G)).toArray U := by
  refine ⟨rfl, by rw [hU]; exact hH, ?_⟩
  refine mc_B.moved hW ?_
  rw [hU]
  exact C.2.2.2.2.2.1.kept hS.2.1
theorem mc_after {H : Heap} {locs : List Loc} {cells slots : Nat} {ls : Array Slot} {st0 rest : List Value} {a : Array Value} {w : mc_R} (hS : va_S (mc_A G) s.heap H locs)
    (hr : va_Run p l e R s m args below meth c H locs cells slots (w.2.length - M.length) (mc_sz w.2 - mc_sz M) (F0 m pc ls st0) (rest.map (mc_v G)) (mc_Qc G w a) (mc_A G)) (hle : mc_le M w.2) (hl : lv_has ls nL (mc_L G L)) (hc : cells + l0 = M.length) (hz : slots + z0 = mc_sz M)
    (k : mc_W G p l e R s m args below meth c Q nL l0 z0 (pc + 3, L, mc_rs w.1 ++ rest, w.2)) : W p l e R s m args below meth c H locs cells slots Q (F0 m pc ls st0) := by
  intro T hT X
  obtain ⟨v, st₀, t, T', Lx, h0, X', hL, e1, e2, ⟨hv, hH1, hz1, hk1⟩, stp⟩ := hr T hT X
  cases Outcome.returned.inj hv
  rw [h0] at hz1 hk1
  obtain ⟨t2, a1, b1⟩ := k T'.heap (locs ++ Lx) ls (cells + (w.2.length - M.length)) (slots + (mc_sz w.2 - mc_sz M)) (by rw [e1]; exact hH1)
    ⟨Nat.le_trans hS.1 (by rw [e1]; exact hz1), fun q h1 h2 => by rw [e1, hk1 q (Nat.lt_of_lt_of_le h1 hS.1) h2]; exact hS.2.1 q h1 h2, fun q hq => by
      rcases List.mem_append.mp hq with h | h
      · exact hS.2.2 q h
      · exact hL q h⟩ hl (by have := hle.1; show _ = w.2.length; omega) (by have := hle.2; show _ = mc_sz w.2; omega) T' rfl X'
  refine ⟨t2, stp t2 ?_, b1⟩
  have ee : (w.1.map (mc_v G)).toList ++ rest.map (mc_v G) = (mc_rs w.1 ++ rest).map (mc_v G) := by
    cases w.1 <;> simp [mc_rs]
  rw [ee]
  exact a1
end MC4
