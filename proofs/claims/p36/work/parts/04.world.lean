/-! THE MINI MACHINE'S CELLS IN THE HEAP (own work). G: where the constants are, where the list of cells begins, the array classes, the classes and their slots. -/
abbrev mc_G : Type := (Nat → Nat) × Nat × (Nat → ClassId) × va_G
def mc_a (G : mc_G) (k : Nat) : Nat := if k < 256 then G.1 k else G.2.1 + (k - 256)
def mc_v (G : mc_G) (v : Value) : Value := match v with
  | .ref k => .ref (mc_a G k)
  | .int x => .int x
  | .long x => .long x
  | .float x => .float x
  | .double x => .double x
  | .null => .null
  | .retAddr x => .retAddr x
def mc_cell (G : mc_G) (a : Nat) (e : mc_E) (H : Heap) : Prop := match e with
  | .inl x => x.1 < 7 → H[a]? = some (arrV (G.2.2.1 x.1) x.2.1 (fun j => mc_v G (x.2.2 j)))
  | .inr o => ∃ r : vw_C, mc_cl[o.1]? = some r ∧ t_OB a (G.2.2.2.1 o.1) r.2.2 (G.2.2.2.2 o.1) H (vp_V (o.2.map (mc_v G)))
def mc_H (G : mc_G) (M : mc_M) (H : Heap) : Prop := H.size = G.2.1 + M.length ∧ ∀ (k : Nat) (e : mc_E), M[k]? = some e → mc_cell G (G.2.1 + k) e H
def mc_es (e : mc_E) : Nat := match e with
  | .inl x => x.2.1
  | .inr o => o.2.length
def mc_sz (M : mc_M) : Nat := (M.map mc_es).sum
def mc_A (G : mc_G) : Nat → Prop := fun q => G.2.1 ≤ q
def mc_tys (G : mc_G) : List (ClassId × FieldType) := (List.range 7).map (fun t => (G.2.2.1 t, mc_ty t))
theorem mc_a_hi {G : mc_G} {a : Nat} (h : 256 ≤ a) : mc_a G a = G.2.1 + (a - 256) := if_neg (by omega)
theorem mc_cell.kept {G : mc_G} {a : Nat} {e : mc_E} {H H1 : Heap} (h : mc_cell G a e H) (hq : H1[a]? = H[a]?) : mc_cell G a e H1 := by
  cases e with
  | inl x => exact fun h7 => hq.trans (h h7)
  | inr o =>
    obtain ⟨r, h1, h2⟩ := h
    exact ⟨r, h1, h2.kept hq⟩
theorem mc_H.at {G : mc_G} {M : mc_M} {H : Heap} (h : mc_H G M H) {a : Nat} (ha : 256 ≤ a) {e : mc_E} (he : M[a - 256]? = some e) : mc_cell G (mc_a G a) e H := by
  rw [mc_a_hi ha]
  exact h.2 _ e he
theorem mc_H.set {G : mc_G} {M : mc_M} {H H1 : Heap} (h : mc_H G M H) {k : Nat} {e0 e : mc_E} (hk : M[k]? = some e0) (he : mc_cell G (G.2.1 + k) e H1) (z : H1.size = H.size) (oq : ∀ q : Nat, q ≠ G.2.1 + k → H1[q]? = H[q]?) : mc_H G (M.set k e) H1 := by
  have hl := (List.getElem?_eq_some_iff.mp hk).1
  refine ⟨by rw [z, h.1, List.length_set], fun j e' hj => ?_⟩
  by_cases hjk : j = k
  · subst hjk
    rw [List.getElem?_set_self hl] at hj
    cases hj
    exact he
  · rw [List.getElem?_set_ne (Ne.symm hjk)] at hj
    exact (h.2 j e' hj).kept (oq _ (by omega))
theorem mc_sz_set {M : mc_M} {k : Nat} {e0 e : mc_E} (hk : M[k]? = some e0) (he : mc_es e = mc_es e0) : mc_sz (M.set k e) = mc_sz M := by
  induction M generalizing k with
  | nil => simp at hk
  | cons x M ih =>
    cases k with
    | zero =>
      simp at hk
      subst hk
      simp [mc_sz, he]
    | succ k =>
      simp at hk
      have := ih hk
      simp only [mc_sz, List.set_cons_succ, List.map_cons, List.sum_cons] at this ⊢
      rw [this]
/-- a text of the JDK's: its class, its coder, its bytes -/
def mc_tx (G : mc_G) (k : Nat) (b : List Int32) (U : State) (H : Heap) : Prop := va_O "java/lang/String" (G.1 k) (mc_A G) U H ∧ va_OF "java/lang/String" "coder" "B" (.int 0) (G.1 k) (mc_A G) U H ∧ ∃ v, va_OF "java/lang/String" "value" "[B" (.ref v) (G.1 k) (mc_A G) U H ∧ va_T .byte v b.length (fun j => .int (b.getD j 0)) (mc_A G) U H
/-- an enum's constant: its class, its place -/
def mc_eo (G : mc_G) (i : Nat) (U : State) (H : Heap) : Prop := va_O "StrikeAwake$Reserved" (G.1 (16 + i)) (mc_A G) U H ∧ va_OF "java/lang/Enum" "ordinal" "I" (.int (Int32.ofNat i)) (G.1 (16 + i)) (mc_A G) U H
/-- what the JDK's methods on constants read -/
def mc_K (G : mc_G) (U : State) (H : Heap) : Prop := (∀ k b, mc_find mc_sb k = some b → mc_tx G k b U H) ∧ (∀ i, i < 11 → mc_eo G i U H) ∧ va_Z "java/lang/String" "COMPACT_STRINGS" "Z" (.int 1) (mc_A G) U H ∧ va_Zq "jdk/internal/util/Preconditions" "SIOOBE_FORMATTER" "Ljava/util/function/BiFunction;" (mc_A G) U H
theorem mc_tx.kept {G : mc_G} {k : Nat} {b : List Int32} {U : State} {H H1 : Heap} (h : mc_tx G k b U H) (hq : ∀ a : Nat, a < H.size → ¬ mc_A G a → H1[a]? = H[a]?) : mc_tx G k b U H1 := ⟨h.1.kept hq, h.2.1.kept hq, h.2.2.imp fun v hv => ⟨hv.1.kept hq, hv.2.kept hq⟩⟩
theorem mc_K.kept {G : mc_G} {U : State} {H H1 : Heap} (h : mc_K G U H) (hq : ∀ a : Nat, a < H.size → ¬ mc_A G a → H1[a]? = H[a]?) : mc_K G U H1 := ⟨fun k b hk => (h.1 k b hk).kept hq, fun i hi => ⟨(h.2.1 i hi).1.kept hq, (h.2.1 i hi).2.kept hq⟩, h.2.2.1.kept hq, h.2.2.2.kept hq⟩
/-- the constants' contents, where they are; the statics and strings -/
def mc_C (kt : Nat → Option mc_E) (G : mc_G) (U : State) (H : Heap) : Prop :=
  (∀ (j t n : Nat) (f : Nat → Value), kt j = some (.inl (t, n, f)) → va_T (mc_ty t) (G.1 j) n (fun i => mc_v G (f i)) (mc_A G) U H) ∧
  (∀ (j ci : Nat) (fs : List Value), kt j = some (.inr (ci, fs)) → ∀ (k : Nat) (v : Value), fs[k]? = some v → va_OF (mc_fr ci k).1 (mc_fr ci k).2.1 (mc_fr ci k).2.2 (mc_v G v) (G.1 j) (mc_A G) U H) ∧
  (∀ e ∈ mc_st, va_Z e.1 e.2.1 e.2.2.1 (mc_v G (.ref e.2.2.2)) (mc_A G) U H) ∧
  (∀ e ∈ mc_sr, vk_R (mc_cn e.1) e.2.1 e.2.2.1 (mc_a G e.2.2.2.1) U) ∧
  (∀ i j : Nat, 16 ≤ i → i < 27 → 16 ≤ j → j < 27 → G.1 i = G.1 j → i = j)
/-- the words of nest mates -/
def mc_NW (U : State) : Prop :=
  (∀ (own : Nat) (r : List (Nat × Nat × Nat × Bool × String × Nat × Nat)), mc_fl[own]? = some r → ∀ e ∈ r, e.2.2.2.1 = true → va_Nw (mc_fw own e) U) ∧
  (∀ (own : Nat) (r : List (Nat × Nat × Bool × String × Nat × Nat)), mc_ml[own]? = some r → ∀ e ∈ r, e.2.2.1 = true → va_Nw (mc_mw own e) U) ∧
  (∀ (own : Nat) (r : List (Nat × Nat × Bool × String × Nat × Nat)), mc_sl[own]? = some r → ∀ e ∈ r, e.2.2.1 = true → va_Nw (mc_sw own e) U)
/-- a class of arrays of this type was made -/
def mc_AO (t : FieldType) (U : State) : Prop := (Cond.arrayOver t).before #[] U = true
def mc_B (kt : Nat → Option mc_E) (G : mc_G) (U : State) (H : Heap) : Prop := va_K G.2.2.2 mc_cl (mc_tys G) U ∧ (mc_AO (.object "StrikeAwake$Person") U ∧ mc_AO (.array .int) U ∧ mc_AO (.array .long) U) ∧ mc_NW U ∧ mc_C kt G U H ∧ mc_K G U H
theorem mc_C.kept {kt : Nat → Option mc_E} {G : mc_G} {U : State} {H H1 : Heap} (h : mc_C kt G U H) (hq : ∀ a : Nat, a < H.size → ¬ mc_A G a → H1[a]? = H[a]?) : mc_C kt G U H1 :=
  ⟨fun j t n f hj => (h.1 j t n f hj).kept hq, fun j ci fs hj k v hk => (h.2.1 j ci fs hj k v hk).kept hq, fun e he => (h.2.2.1 e he).kept hq, h.2.2.2.1, h.2.2.2.2⟩
theorem mc_B.kept {kt : Nat → Option mc_E} {G : mc_G} {U : State} {H H1 : Heap} (h : mc_B kt G U H) (hq : ∀ a : Nat, a < H.size → ¬ mc_A G a → H1[a]? = H[a]?) : mc_B kt G U H1 := ⟨h.1, h.2.1, h.2.2.1, h.2.2.2.1.kept hq, h.2.2.2.2.kept hq⟩
