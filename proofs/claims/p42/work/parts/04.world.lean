/-! THE MINI MACHINE'S CELLS IN THE HEAP (own work). G: where the constants are, where the list of cells begins, the array classes, the classes and their slots. -/
abbrev mc_G : Type := (Nat → Nat) × Nat × (Nat → ClassId) × va_G
def mc_a (G : mc_G) (k : Nat) : Nat := if k < 256 then G.1 k else G.2.1 + (k - 256)
def mc_v (G : mc_G) (v : Value) : Value := match v with
  | .ref k => .ref (mc_a G k)
  | .int x => .int x
  | .long x => .long x
  | .float x => .float x
  | .double x => .double x
  | .null => .null
  | .retAddr x => .retAddr x
def mc_L (G : mc_G) (L : List (Nat × Value)) : List (Nat × Value) := L.map (fun q => (q.1, mc_v G q.2))
def mc_cell (G : mc_G) (a : Nat) (e : mc_E) (H : Heap) : Prop := match e with
  | .inl x => x.1 < 7 → H[a]? = some (arrV (G.2.2.1 x.1) x.2.1 (fun j => mc_v G (x.2.2 j)))
  | .inr o => ∃ r : vw_C, mc_cl[o.1]? = some r ∧ t_OB a (G.2.2.2.1 o.1) r.2.2 (G.2.2.2.2 o.1) H (vp_V (o.2.map (mc_v G)))
def mc_H (G : mc_G) (M : mc_M) (H : Heap) : Prop := H.size = G.2.1 + M.length ∧ ∀ (k : Nat) (e : mc_E), M[k]? = some e → mc_cell G (G.2.1 + k) e H
def mc_es (e : mc_E) : Nat := match e with
  | .inl x => x.2.1
  | .inr o => o.2.length
def mc_sz (M : mc_M) : Nat := (M.map mc_es).sum
def mc_A (G : mc_G) : Nat → Prop := fun q => G.2.1 ≤ q
def mc_tys (G : mc_G) : List (ClassId × FieldType) := (List.range 7).map (fun t => (G.2.2.1 t, mc_ty t))
theorem mc_v_cat (G : mc_G) (v : Value) : (mc_v G v).category = v.category := by cases v <;> rfl
theorem mc_find_L {G : mc_G} {L : List (Nat × Value)} {i : Nat} {v : Value} (h : mc_find L i = some v) : (i, mc_v G v) ∈ mc_L G L := List.mem_map.mpr ⟨(i, v), mc_find_mem h, rfl⟩
theorem mc_L_s1 (G : mc_G) (L : List (Nat × Value)) (i : Nat) (v : Value) : mc_L G (mc_s1 L i v) = mc_s1 (mc_L G L) i (mc_v G v) := by
  unfold mc_s1 mc_L
  rw [List.map_cons, List.filter_map]
  congr 2
  apply List.filter_congr
  intro q _
  simp [mc_v_cat]
theorem mc_L_s2 (G : mc_G) (L : List (Nat × Value)) (i : Nat) (v : Value) : mc_L G (mc_s2 L i v) = mc_s2 (mc_L G L) i (mc_v G v) := by
  unfold mc_s2 mc_L
  rw [List.map_cons, List.filter_map]
  congr 2
  apply List.filter_congr
  intro q _
  simp [mc_v_cat]
theorem mc_L_args (G : mc_G) : ∀ (vs : List Value) (i : Nat), mc_L G (lv_args i vs) = lv_args i (vs.map (mc_v G))
  | [], _ => rfl
  | v :: vs, i => by
    unfold lv_args
    rw [List.map_cons]
    show _ = (i, mc_v G v) :: lv_args (if (mc_v G v).category = 2 then i + 2 else i + 1) (vs.map (mc_v G))
    rw [mc_v_cat, ← mc_L_args G vs]
    rfl
theorem mc_sl_len (G : mc_G) : ∀ vs : List Value, (lg_sl (vs.map (mc_v G))).length = (lg_sl vs).length
  | [] => rfl
  | v :: vs => by
    have h := mc_sl_len G vs
    simp only [lg_sl, List.map_cons, List.flatMap_cons, List.length_append, mc_v_cat] at h ⊢
    rw [h]
    split <;> rfl
theorem mc_a_hi {G : mc_G} {a : Nat} (h : 256 ≤ a) : mc_a G a = G.2.1 + (a - 256) := if_neg (by omega)
theorem mc_a_lo {G : mc_G} {a : Nat} (h : a < 256) : mc_a G a = G.1 a := if_pos h
theorem mc_a_new (G : mc_G) (n : Nat) : mc_a G (256 + n) = G.2.1 + n := by
  rw [mc_a_hi (Nat.le_add_right 256 n), Nat.add_sub_cancel_left]
theorem mc_cell.kept {G : mc_G} {a : Nat} {e : mc_E} {H H1 : Heap} (h : mc_cell G a e H) (hq : H1[a]? = H[a]?) : mc_cell G a e H1 := by
  cases e with
  | inl x => exact fun h7 => hq.trans (h h7)
  | inr o =>
    obtain ⟨r, h1, h2⟩ := h
    exact ⟨r, h1, h2.kept hq⟩
theorem mc_H.at {G : mc_G} {M : mc_M} {H : Heap} (h : mc_H G M H) {a : Nat} (ha : 256 ≤ a) {e : mc_E} (he : M[a - 256]? = some e) : mc_cell G (mc_a G a) e H := by
  rw [mc_a_hi ha]
  exact h.2 _ e he
theorem mc_H.set {G : mc_G} {M : mc_M} {H H1 : Heap} (h : mc_H G M H) {k : Nat} {e0 e : mc_E} (hk : M[k]? = some e0) (he : mc_cell G (G.2.1 + k) e H1) (z : H1.size = H.size) (oq : ∀ q : Nat, q ≠ G.2.1 + k → H1[q]? = H[q]?) : mc_H G (M.set k e) H1 := by
  have hl := (List.getElem?_eq_some_iff.mp hk).1
  refine ⟨by rw [z, h.1, List.length_set], fun j e' hj => ?_⟩
  by_cases hjk : j = k
  · subst hjk
    rw [List.getElem?_set_self hl] at hj
    cases hj
    exact he
  · rw [List.getElem?_set_ne (Ne.symm hjk)] at hj
    exact (h.2 j e' hj).kept (oq _ (by omega))
theorem mc_H.push {G : mc_G} {M : mc_M} {H H1 : Heap} (h : mc_H G M H) {e : mc_E} (he : mc_cell G H.size e H1) (z : H1.size = H.size + 1) (oq : ∀ q : Nat, q < H.size → H1[q]? = H[q]?) : mc_H G (M ++ [e]) H1 := by
  refine ⟨by rw [z, h.1, List.length_append]; rfl, fun j e' hj => ?_⟩
  by_cases hl : j < M.length
  · rw [List.getElem?_append_left hl] at hj
    exact (h.2 j e' hj).kept (oq _ (by rw [h.1]; omega))
  · rw [List.getElem?_append_right (by omega)] at hj
    have hz : j - M.length < 1 := (List.getElem?_eq_some_iff.mp hj).1
    have hj0 : j = M.length := by omega
    subst hj0
    rw [Nat.sub_self] at hj
    cases hj
    rw [← h.1]
    exact he
theorem mc_sz_set {M : mc_M} {k : Nat} {e0 e : mc_E} (hk : M[k]? = some e0) (he : mc_es e = mc_es e0) : mc_sz (M.set k e) = mc_sz M := by
  induction M generalizing k with
  | nil => simp at hk
  | cons x M ih =>
    cases k with
    | zero =>
      simp at hk
      subst hk
      simp [mc_sz, he]
    | succ k =>
      simp at hk
      have := ih hk
      simp only [mc_sz, List.set_cons_succ, List.map_cons, List.sum_cons] at this ⊢
      rw [this]
theorem mc_sz_app (M N : mc_M) : mc_sz (M ++ N) = mc_sz M + mc_sz N := by simp [mc_sz]
theorem mc_sz_one (e : mc_E) : mc_sz [e] = mc_es e := by simp [mc_sz]
/-- a text of the JDK's: its class, its coder, its bytes -/
def mc_tx (G : mc_G) (k : Nat) (b : List Int32) (U : State) (H : Heap) : Prop := va_O "java/lang/String" (G.1 k) (mc_A G) U H ∧ va_OF "java/lang/String" "coder" "B" (.int 0) (G.1 k) (mc_A G) U H ∧ ∃ v, va_OF "java/lang/String" "value" "[B" (.ref v) (G.1 k) (mc_A G) U H ∧ va_T .byte v b.length (fun j => .int (b.getD j 0)) (mc_A G) U H
/-- an enum's constant: its class, its place -/
def mc_eo (G : mc_G) (i : Nat) (U : State) (H : Heap) : Prop := va_O "StrikeAwake$Reserved" (G.1 (16 + i)) (mc_A G) U H ∧ va_OF "java/lang/Enum" "ordinal" "I" (.int (Int32.ofNat i)) (G.1 (16 + i)) (mc_A G) U H
/-- what the JDK's methods on constants read -/
def mc_K (G : mc_G) (U : State) (H : Heap) : Prop := (∀ k b, mc_find mc_sb k = some b → mc_tx G k b U H) ∧ (∀ i, i < 11 → mc_eo G i U H) ∧ va_Z "java/lang/String" "COMPACT_STRINGS" "Z" (.int 1) (mc_A G) U H ∧ va_Zq "jdk/internal/util/Preconditions" "SIOOBE_FORMATTER" "Ljava/util/function/BiFunction;" (mc_A G) U H
theorem mc_tx.moved {G : mc_G} {k : Nat} {b : List Int32} {s U : State} {H : Heap} (hvm : s.vm.Alike U.vm) (h : mc_tx G k b s H) : mc_tx G k b U H := ⟨h.1.moved hvm, h.2.1.moved hvm, h.2.2.imp fun v hv => ⟨hv.1.moved hvm, hv.2.moved hvm⟩⟩
theorem mc_tx.kept {G : mc_G} {k : Nat} {b : List Int32} {U : State} {H H1 : Heap} (h : mc_tx G k b U H) (hq : ∀ a : Nat, a < H.size → ¬ mc_A G a → H1[a]? = H[a]?) : mc_tx G k b U H1 := ⟨h.1.kept hq, h.2.1.kept hq, h.2.2.imp fun v hv => ⟨hv.1.kept hq, hv.2.kept hq⟩⟩
theorem mc_K.moved {G : mc_G} {s U : State} {H : Heap} (hvm : s.vm.Alike U.vm) (h : mc_K G s H) : mc_K G U H := ⟨fun k b hk => (h.1 k b hk).moved hvm, fun i hi => ⟨(h.2.1 i hi).1.moved hvm, (h.2.1 i hi).2.moved hvm⟩, h.2.2.1.moved hvm, h.2.2.2.moved hvm⟩
theorem mc_K.kept {G : mc_G} {U : State} {H H1 : Heap} (h : mc_K G U H) (hq : ∀ a : Nat, a < H.size → ¬ mc_A G a → H1[a]? = H[a]?) : mc_K G U H1 := ⟨fun k b hk => (h.1 k b hk).kept hq, fun i hi => ⟨(h.2.1 i hi).1.kept hq, (h.2.1 i hi).2.kept hq⟩, h.2.2.1.kept hq, h.2.2.2.kept hq⟩
/-- the constants' contents, where they are; the statics and strings -/
def mc_C (kt : Nat → Option mc_E) (G : mc_G) (U : State) (H : Heap) : Prop :=
  (∀ (j t n : Nat) (f : Nat → Value), kt j = some (.inl (t, n, f)) → va_T (mc_ty t) (G.1 j) n (fun i => mc_v G (f i)) (mc_A G) U H) ∧
  (∀ (j ci : Nat) (fs : List Value), kt j = some (.inr (ci, fs)) → ∀ (k : Nat) (v : Value), fs[k]? = some v → va_OF (mc_fr ci k).1 (mc_fr ci k).2.1 (mc_fr ci k).2.2 (mc_v G v) (G.1 j) (mc_A G) U H) ∧
  (∀ e ∈ mc_st, va_Z e.1 e.2.1 e.2.2.1 (mc_v G (.ref e.2.2.2)) (mc_A G) U H) ∧
  (∀ e ∈ mc_sr, vk_R (mc_cn e.1) e.2.1 e.2.2.1 (mc_a G e.2.2.2.1) U) ∧
  (∀ i j : Nat, 16 ≤ i → i < 27 → 16 ≤ j → j < 27 → G.1 i = G.1 j → i = j)
/-- the words of nest mates -/
def mc_NW (U : State) : Prop :=
  (∀ (own : Nat) (r : List (Nat × Nat × Nat × Bool × String × Nat × Nat)), mc_fl[own]? = some r → ∀ e ∈ r, e.2.2.2.1 = true → va_Nw (mc_fw own e) U) ∧
  (∀ (own : Nat) (r : List (Nat × Nat × Bool × String × Nat × Nat)), mc_ml[own]? = some r → ∀ e ∈ r, e.2.2.1 = true → va_Nw (mc_mw own e) U) ∧
  (∀ (own : Nat) (r : List (Nat × Nat × Bool × String × Nat × Nat)), mc_sl[own]? = some r → ∀ e ∈ r, e.2.2.1 = true → va_Nw (mc_sw own e) U)
/-- a class of arrays of this type was made -/
def mc_AO (t : FieldType) (U : State) : Prop := (Cond.arrayOver t).before #[] U = true
def mc_B (kt : Nat → Option mc_E) (G : mc_G) (U : State) (H : Heap) : Prop := va_K G.2.2.2 mc_cl (mc_tys G) U ∧ (mc_AO (.object "StrikeAwake$Person") U ∧ mc_AO (.array .int) U ∧ mc_AO (.array .long) U) ∧ mc_NW U ∧ mc_C kt G U H ∧ mc_K G U H
theorem mc_AO.moved {t : FieldType} {u U : State} (hvm : u.vm.Alike U.vm) (h : mc_AO t u) : mc_AO t U := by
  have h1 : (Cond.arrayOver t).before #[] (u.setVm U.vm) = true := by rw [Cond.arrayOver_setVmC hvm]; exact h
  exact h1
theorem mc_C.moved {kt : Nat → Option mc_E} {G : mc_G} {s U : State} {H : Heap} (hW : s.WarmedH U.vm) (h : mc_C kt G s H) : mc_C kt G U H :=
  ⟨fun j t n f hj => (h.1 j t n f hj).moved hW.alike, fun j ci fs hj k v hk => (h.2.1 j ci fs hj k v hk).moved hW.alike, fun e he => (h.2.2.1 e he).moved hW.alike, fun e he => (h.2.2.2.1 e he).warm hW, h.2.2.2.2⟩
theorem mc_C.kept {kt : Nat → Option mc_E} {G : mc_G} {U : State} {H H1 : Heap} (h : mc_C kt G U H) (hq : ∀ a : Nat, a < H.size → ¬ mc_A G a → H1[a]? = H[a]?) : mc_C kt G U H1 :=
  ⟨fun j t n f hj => (h.1 j t n f hj).kept hq, fun j ci fs hj k v hk => (h.2.1 j ci fs hj k v hk).kept hq, fun e he => (h.2.2.1 e he).kept hq, h.2.2.2.1, h.2.2.2.2⟩
theorem mc_C.same {kt : Nat → Option mc_E} {G : mc_G} {s U : State} {H : Heap} (hv : U.vm = s.vm) (h : mc_C kt G s H) : mc_C kt G U H :=
  have ha : s.vm.Alike U.vm := by rw [hv]; exact Vm.Alike.refl _
  ⟨fun j t n f hj => (h.1 j t n f hj).moved ha, fun j ci fs hj k v hk => (h.2.1 j ci fs hj k v hk).moved ha, fun e he => (h.2.2.1 e he).moved ha, fun e he => (h.2.2.2.1 e he).same hv, h.2.2.2.2⟩
theorem mc_fw_nest {own : Nat} {e : Nat × Nat × Nat × Bool × String × Nat × Nat} (h : e.2.2.2.1 = true) : ∃ a i b n d x, mc_fw own e = .fieldLinkNest a i b n d x := ⟨_, _, _, _, _, _, if_pos h⟩
theorem mc_mw_nest {own : Nat} {e : Nat × Nat × Bool × String × Nat × Nat} (h : e.2.2.1 = true) : ∃ a i y x, mc_mw own e = .methodLinkNest a i y x := ⟨_, _, _, _, if_pos h⟩
theorem mc_sw_nest {own : Nat} {e : Nat × Nat × Bool × String × Nat × Nat} (h : e.2.2.1 = true) : (∃ a i b n d x, mc_sw own e = .fieldLinkNest a i b n d x) ∨ mc_sw own e = .tt := by
  unfold mc_sw
  split
  · exact Or.inl ⟨_, _, _, _, _, _, if_pos h⟩
  · exact Or.inr rfl
theorem mc_NW.moved {s U : State} (hW : s.WarmedH U.vm) (h : mc_NW s) : mc_NW U := by
  refine ⟨fun own r hr e he hn => ?_, fun own r hr e he hn => ?_, fun own r hr e he hn => ?_⟩
  · obtain ⟨a, i, b, n, d, x, hw⟩ := mc_fw_nest (own := own) hn
    have := h.1 own r hr e he hn
    rw [hw] at this ⊢
    exact va_Nw.warmF hW this
  · obtain ⟨a, i, y, x, hw⟩ := mc_mw_nest (own := own) hn
    have := h.2.1 own r hr e he hn
    rw [hw] at this ⊢
    exact va_Nw.warmM hW this
  · have := h.2.2 own r hr e he hn
    rcases mc_sw_nest (own := own) hn with ⟨a, i, b, n, d, x, hw⟩ | hw
    · rw [hw] at this ⊢
      exact va_Nw.warmF hW this
    · rw [hw]
      rfl
theorem mc_NW.same {s U : State} (hv : s.vm = U.vm) (h : mc_NW s) : mc_NW U := by
  refine ⟨fun own r hr e he hn => ?_, fun own r hr e he hn => ?_, fun own r hr e he hn => ?_⟩
  · obtain ⟨a, i, b, n, d, x, hw⟩ := mc_fw_nest (own := own) hn
    have := h.1 own r hr e he hn
    rw [hw] at this ⊢
    exact va_Nw.same rfl hv this
  · obtain ⟨a, i, y, x, hw⟩ := mc_mw_nest (own := own) hn
    have := h.2.1 own r hr e he hn
    rw [hw] at this ⊢
    exact va_Nw.same rfl hv this
  · have := h.2.2 own r hr e he hn
    rcases mc_sw_nest (own := own) hn with ⟨a, i, b, n, d, x, hw⟩ | hw
    · rw [hw] at this ⊢
      exact va_Nw.same rfl hv this
    · rw [hw]
      rfl
theorem mc_B.moved {kt : Nat → Option mc_E} {G : mc_G} {s U : State} {H : Heap} (hW : s.WarmedH U.vm) (h : mc_B kt G s H) : mc_B kt G U H :=
  ⟨va_K.moved hW.alike h.1, ⟨h.2.1.1.moved hW.alike, h.2.1.2.1.moved hW.alike, h.2.1.2.2.moved hW.alike⟩, h.2.2.1.moved hW, h.2.2.2.1.moved hW, h.2.2.2.2.moved hW.alike⟩
theorem mc_B.kept {kt : Nat → Option mc_E} {G : mc_G} {U : State} {H H1 : Heap} (h : mc_B kt G U H) (hq : ∀ a : Nat, a < H.size → ¬ mc_A G a → H1[a]? = H[a]?) : mc_B kt G U H1 := ⟨h.1, h.2.1, h.2.2.1, h.2.2.2.1.kept hq, h.2.2.2.2.kept hq⟩
theorem mc_B.same {kt : Nat → Option mc_E} {G : mc_G} {s U : State} {H : Heap} (hv : U.vm = s.vm) (h : mc_B kt G s H) : mc_B kt G U H :=
  have ha : s.vm.Alike U.vm := by rw [hv]; exact Vm.Alike.refl _
  ⟨va_K.moved ha h.1, ⟨h.2.1.1.moved ha, h.2.1.2.1.moved ha, h.2.1.2.2.moved ha⟩, h.2.2.1.same hv.symm, h.2.2.2.1.same hv, h.2.2.2.2.moved ha⟩
