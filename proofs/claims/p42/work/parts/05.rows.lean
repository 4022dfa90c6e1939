/-! THE MINI MACHINE'S STEPS ARE THE MACHINE'S (own work, over the kit's rows) -/
/-- from every heap that holds these cells the machine comes to Q -/
def mc_W (G : mc_G) (p : Program) (l : Launch) (e : Env) (R : Room) (s : State) (m : MethodId) (args : Array Value) (below : List Frame) (meth : Method) (c : Code) (Q : State → Prop) (nL l0 z0 : Nat) (S : mc_S) : Prop :=
  ∀ (H : Heap) (locs : List Loc) (ls : Array Slot) (cells slots : Nat), mc_H G S.2.2.2 H → va_S (mc_A G) s.heap H locs → lv_has ls nL (mc_L G S.2.1) → cells + l0 = S.2.2.2.length → slots + z0 = mc_sz S.2.2.2 →
    W p l e R s m args below meth c H locs cells slots Q (F0 m S.1 ls (S.2.2.1.map (mc_v G)))
section MC1

variable {G : mc_G} {p : Program} {l : Launch} {e : Env} {R : Room} {s : State} {m : MethodId} {args : Array Value} {below : List Frame} {meth : Method} {c : Code} {Q : State → Prop} {nL l0 z0 : Nat}

variable {pc : Nat} {L : List (Nat × Value)} {st : List Value} {M : mc_M} {S : mc_S}
theorem mc_n_t {b : Bool} {o : mc_O} {x : mc_S ⊕ mc_R} (h : mc_n b o = some x) : b = true ∧ o = some x := by
  unfold mc_n at h
  split at h
  · exact ⟨rfl, h⟩
  · cases h
theorem mc_go_S {pc : Nat} {L : List (Nat × Value)} {st : List Value} {M : mc_M} {S : mc_S} (h : mc_go pc L st M = some (.inl S)) : S = (pc, L, st, M) := by
  unfold mc_go at h
  exact (Sum.inl.inj (Option.some.inj h)).symm
theorem mc_r_go {pc' : Nat} {st' : List Value} (row : ∀ (H : Heap) (locs : List Loc) (cells slots : Nat) (ls : Array Slot), W p l e R s m args below meth c H locs cells slots Q (F0 m pc' ls (st'.map (mc_v G))) → W p l e R s m args below meth c H locs cells slots Q (F0 m pc ls (st.map (mc_v G))))
    (h : mc_go pc' L st' M = some (.inl S)) (k : mc_W G p l e R s m args below meth c Q nL l0 z0 S) : mc_W G p l e R s m args below meth c Q nL l0 z0 (pc, L, st, M) := by
  rw [mc_go_S h] at k
  exact fun H locs ls cells slots hH hS hl hc hz => row H locs cells slots ls (k H locs ls cells slots hH hS hl hc hz)
theorem mc_r_ld {ok : Value → Bool} {i d : Nat} (row : ∀ (H : Heap) (locs : List Loc) (cells slots : Nat) (ls : Array Slot) (rest : List Value) (v : Value), ok v = true → ls[i]? = some (.val (mc_v G v)) → W p l e R s m args below meth c H locs cells slots Q (F0 m (pc + d) ls (mc_v G v :: rest)) → W p l e R s m args below meth c H locs cells slots Q (F0 m pc ls rest))
    (h : mc_ld ok i d pc L st M = some (.inl S)) (k : mc_W G p l e R s m args below meth c Q nL l0 z0 S) : mc_W G p l e R s m args below meth c Q nL l0 z0 (pc, L, st, M) := by
  unfold mc_ld at h
  split at h
  · next v hv =>
    obtain ⟨hok, h⟩ := mc_n_t h
    rw [mc_go_S h] at k
    exact fun H locs ls cells slots hH hS hl hc hz => row H locs cells slots ls _ v hok (hl.2.2 _ (mc_find_L hv)) (k H locs ls cells slots hH hS hl hc hz)
  · cases h
theorem mc_r_sv {ok : Value → Bool} {i d : Nat} (row : ∀ (H : Heap) (locs : List Loc) (cells slots : Nat) (ls : Array Slot) (rest : List Value) (v : Value) (lv : List (Nat × Value)), ok v = true → lv_has ls nL lv → i < nL → (∀ ls' : Array Slot, lv_has ls' nL (mc_s1 lv i (mc_v G v)) → W p l e R s m args below meth c H locs cells slots Q (F0 m (pc + d) ls' rest)) → W p l e R s m args below meth c H locs cells slots Q (F0 m pc ls (mc_v G v :: rest)))
    (h : mc_sv ok nL i d pc L st M = some (.inl S)) (k : mc_W G p l e R s m args below meth c Q nL l0 z0 S) : mc_W G p l e R s m args below meth c Q nL l0 z0 (pc, L, st, M) := by
  unfold mc_sv at h
  split at h
  · next v r =>
    obtain ⟨hok, h⟩ := mc_n_t h
    simp only [Bool.and_eq_true, decide_eq_true_eq] at hok
    rw [mc_go_S h] at k
    exact fun H locs ls cells slots hH hS hl hc hz => row H locs cells slots ls _ v _ hok.1 hl hok.2 (fun ls' hl' => k H locs ls' cells slots hH hS (by show lv_has ls' nL (mc_L G (mc_s1 L i v)); rw [mc_L_s1]; exact hl') hc hz)
  · cases h
theorem mc_r_svL {i d : Nat} (row : ∀ (H : Heap) (locs : List Loc) (cells slots : Nat) (ls : Array Slot) (rest : List Value) (x : Int64) (lv : List (Nat × Value)), lv_has ls nL lv → i + 1 < nL → (∀ ls' : Array Slot, lv_has ls' nL (mc_s2 lv i (.long x)) → W p l e R s m args below meth c H locs cells slots Q (F0 m (pc + d) ls' rest)) → W p l e R s m args below meth c H locs cells slots Q (F0 m pc ls (.long x :: rest)))
    (h : mc_svL nL i d pc L st M = some (.inl S)) (k : mc_W G p l e R s m args below meth c Q nL l0 z0 S) : mc_W G p l e R s m args below meth c Q nL l0 z0 (pc, L, st, M) := by
  unfold mc_svL at h
  split at h
  · next v r =>
    obtain ⟨hok, h⟩ := mc_n_t h
    simp only [Bool.and_eq_true, decide_eq_true_eq] at hok
    rw [mc_go_S h] at k
    obtain ⟨hv, hi⟩ := hok
    cases v with
    | long x => exact fun H locs ls cells slots hH hS hl hc hz => row H locs cells slots ls _ x _ hl hi (fun ls' hl' => k H locs ls' cells slots hH hS (by show lv_has ls' nL (mc_L G (mc_s2 L i (.long x))); rw [mc_L_s2]; exact hl') hc hz)
    | _ => cases hv
  · cases h
theorem mc_r_inc {i : Nat} {kk : Int} (row : ∀ (H : Heap) (locs : List Loc) (cells slots : Nat) (ls : Array Slot) (rest : List Value) (x : Int32) (lv : List (Nat × Value)) (j : Nat), lv_has ls nL lv → lv[j]? = some (i, .int x) → i < nL → (∀ ls' : Array Slot, lv_has ls' nL (mc_s1 lv i (.int (x + Int32.ofInt kk))) → W p l e R s m args below meth c H locs cells slots Q (F0 m (pc + 3) ls' rest)) → W p l e R s m args below meth c H locs cells slots Q (F0 m pc ls rest))
    (h : mc_inc nL i kk pc L st M = some (.inl S)) (k : mc_W G p l e R s m args below meth c Q nL l0 z0 S) : mc_W G p l e R s m args below meth c Q nL l0 z0 (pc, L, st, M) := by
  unfold mc_inc at h
  split at h
  · next x hv =>
    obtain ⟨hok, h⟩ := mc_n_t h
    simp only [decide_eq_true_eq] at hok
    rw [mc_go_S h] at k
    obtain ⟨j, hj⟩ := List.getElem?_of_mem (mc_find_L (G := G) hv)
    exact fun H locs ls cells slots hH hS hl hc hz => row H locs cells slots ls _ x _ j hl hj hok (fun ls' hl' => k H locs ls' cells slots hH hS (by show lv_has ls' nL (mc_L G (mc_s1 L i (.int _))); rw [mc_L_s1]; exact hl') hc hz)
  · cases h
theorem mc_r_ii2 {f : Int32 → Int32 → Option Int32} (row : ∀ (H : Heap) (locs : List Loc) (cells slots : Nat) (ls : Array Slot) (rest : List Value) (x y z : Int32), f x y = some z → W p l e R s m args below meth c H locs cells slots Q (F0 m (pc + 1) ls (.int z :: rest)) → W p l e R s m args below meth c H locs cells slots Q (F0 m pc ls (.int y :: .int x :: rest)))
    (h : mc_ii2 f pc L st M = some (.inl S)) (k : mc_W G p l e R s m args below meth c Q nL l0 z0 S) : mc_W G p l e R s m args below meth c Q nL l0 z0 (pc, L, st, M) := by
  unfold mc_ii2 at h
  split at h
  · split at h
    · next hz0 =>
      rw [mc_go_S h] at k
      exact fun H locs ls cells slots hH hS hl hc hz => row H locs cells slots ls _ _ _ _ hz0 (k H locs ls cells slots hH hS hl hc hz)
    · cases h
  · cases h
theorem mc_r_ll2 {f : Int64 → Int64 → Option Int64} (row : ∀ (H : Heap) (locs : List Loc) (cells slots : Nat) (ls : Array Slot) (rest : List Value) (x y z : Int64), f x y = some z → W p l e R s m args below meth c H locs cells slots Q (F0 m (pc + 1) ls (.long z :: rest)) → W p l e R s m args below meth c H locs cells slots Q (F0 m pc ls (.long y :: .long x :: rest)))
    (h : mc_ll2 f pc L st M = some (.inl S)) (k : mc_W G p l e R s m args below meth c Q nL l0 z0 S) : mc_W G p l e R s m args below meth c Q nL l0 z0 (pc, L, st, M) := by
  unfold mc_ll2 at h
  split at h
  · split at h
    · next hz0 =>
      rw [mc_go_S h] at k
      exact fun H locs ls cells slots hH hS hl hc hz => row H locs cells slots ls _ _ _ _ hz0 (k H locs ls cells slots hH hS hl hc hz)
    · cases h
  · cases h
theorem mc_r_li2 {f : Int64 → Int32 → Int64} (row : ∀ (H : Heap) (locs : List Loc) (cells slots : Nat) (ls : Array Slot) (rest : List Value) (x : Int64) (y : Int32), W p l e R s m args below meth c H locs cells slots Q (F0 m (pc + 1) ls (.long (f x y) :: rest)) → W p l e R s m args below meth c H locs cells slots Q (F0 m pc ls (.int y :: .long x :: rest)))
    (h : mc_li2 f pc L st M = some (.inl S)) (k : mc_W G p l e R s m args below meth c Q nL l0 z0 S) : mc_W G p l e R s m args below meth c Q nL l0 z0 (pc, L, st, M) := by
  unfold mc_li2 at h
  split at h
  · rw [mc_go_S h] at k
    exact fun H locs ls cells slots hH hS hl hc hz => row H locs cells slots ls _ _ _ (k H locs ls cells slots hH hS hl hc hz)
  · cases h
theorem mc_r_cmp (row : ∀ (H : Heap) (locs : List Loc) (cells slots : Nat) (ls : Array Slot) (rest : List Value) (x y : Int64), W p l e R s m args below meth c H locs cells slots Q (F0 m (pc + 1) ls (.int (lg_cmp x y) :: rest)) → W p l e R s m args below meth c H locs cells slots Q (F0 m pc ls (.long y :: .long x :: rest)))
    (h : mc_cmp pc L st M = some (.inl S)) (k : mc_W G p l e R s m args below meth c Q nL l0 z0 S) : mc_W G p l e R s m args below meth c Q nL l0 z0 (pc, L, st, M) := by
  unfold mc_cmp at h
  split at h
  · rw [mc_go_S h] at k
    exact fun H locs ls cells slots hH hS hl hc hz => row H locs cells slots ls _ _ _ (k H locs ls cells slots hH hS hl hc hz)
  · cases h
theorem mc_r_i1 {f : Int32 → Value} (row : ∀ (H : Heap) (locs : List Loc) (cells slots : Nat) (ls : Array Slot) (rest : List Value) (x : Int32), W p l e R s m args below meth c H locs cells slots Q (F0 m (pc + 1) ls (mc_v G (f x) :: rest)) → W p l e R s m args below meth c H locs cells slots Q (F0 m pc ls (.int x :: rest)))
    (h : mc_i1 f pc L st M = some (.inl S)) (k : mc_W G p l e R s m args below meth c Q nL l0 z0 S) : mc_W G p l e R s m args below meth c Q nL l0 z0 (pc, L, st, M) := by
  unfold mc_i1 at h
  split at h
  · rw [mc_go_S h] at k
    exact fun H locs ls cells slots hH hS hl hc hz => row H locs cells slots ls _ _ (k H locs ls cells slots hH hS hl hc hz)
  · cases h
theorem mc_r_l1 {f : Int64 → Value} (row : ∀ (H : Heap) (locs : List Loc) (cells slots : Nat) (ls : Array Slot) (rest : List Value) (x : Int64), W p l e R s m args below meth c H locs cells slots Q (F0 m (pc + 1) ls (mc_v G (f x) :: rest)) → W p l e R s m args below meth c H locs cells slots Q (F0 m pc ls (.long x :: rest)))
    (h : mc_l1 f pc L st M = some (.inl S)) (k : mc_W G p l e R s m args below meth c Q nL l0 z0 S) : mc_W G p l e R s m args below meth c Q nL l0 z0 (pc, L, st, M) := by
  unfold mc_l1 at h
  split at h
  · rw [mc_go_S h] at k
    exact fun H locs ls cells slots hH hS hl hc hz => row H locs cells slots ls _ _ (k H locs ls cells slots hH hS hl hc hz)
  · cases h
theorem mc_br_S {b : Bool} {off : Int} {r : List Value} (h : mc_br b pc off L r M = some (.inl S)) : ∃ tgt : Nat, (pc : Int) + off = (tgt : Int) ∧ (b = true → S = (tgt, L, r, M)) ∧ (b = false → S = (pc + 3, L, r, M)) := by
  unfold mc_br at h
  split at h
  · next h0 =>
    refine ⟨((pc : Int) + off).toNat, (Int.toNat_of_nonneg h0).symm, fun hb => ?_, fun hb => ?_⟩
    · subst hb
      exact mc_go_S h
    · subst hb
      exact mc_go_S h
  · cases h
theorem mc_r_ic2 {f : Int32 → Int32 → Bool} {off : Int} (row : ∀ (H : Heap) (locs : List Loc) (cells slots : Nat) (ls : Array Slot) (rest : List Value) (x y : Int32) (tgt : Nat), (pc : Int) + off = (tgt : Int) → (f x y = true → W p l e R s m args below meth c H locs cells slots Q (F0 m tgt ls rest)) → (f x y = false → W p l e R s m args below meth c H locs cells slots Q (F0 m (pc + 3) ls rest)) → W p l e R s m args below meth c H locs cells slots Q (F0 m pc ls (.int y :: .int x :: rest)))
    (h : mc_ic2 f pc off L st M = some (.inl S)) (k : mc_W G p l e R s m args below meth c Q nL l0 z0 S) : mc_W G p l e R s m args below meth c Q nL l0 z0 (pc, L, st, M) := by
  unfold mc_ic2 at h
  split at h
  · obtain ⟨tgt, ht, h1, h2⟩ := mc_br_S h
    exact fun H locs ls cells slots hH hS hl hc hz => row H locs cells slots ls _ _ _ tgt ht (fun hb => by rw [h1 hb] at k; exact k H locs ls cells slots hH hS hl hc hz) (fun hb => by rw [h2 hb] at k; exact k H locs ls cells slots hH hS hl hc hz)
  · cases h
theorem mc_r_ic1 {f : Int32 → Bool} {off : Int} (row : ∀ (H : Heap) (locs : List Loc) (cells slots : Nat) (ls : Array Slot) (rest : List Value) (x : Int32) (tgt : Nat), (pc : Int) + off = (tgt : Int) → (f x = true → W p l e R s m args below meth c H locs cells slots Q (F0 m tgt ls rest)) → (f x = false → W p l e R s m args below meth c H locs cells slots Q (F0 m (pc + 3) ls rest)) → W p l e R s m args below meth c H locs cells slots Q (F0 m pc ls (.int x :: rest)))
    (h : mc_ic1 f pc off L st M = some (.inl S)) (k : mc_W G p l e R s m args below meth c Q nL l0 z0 S) : mc_W G p l e R s m args below meth c Q nL l0 z0 (pc, L, st, M) := by
  unfold mc_ic1 at h
  split at h
  · obtain ⟨tgt, ht, h1, h2⟩ := mc_br_S h
    exact fun H locs ls cells slots hH hS hl hc hz => row H locs cells slots ls _ _ tgt ht (fun hb => by rw [h1 hb] at k; exact k H locs ls cells slots hH hS hl hc hz) (fun hb => by rw [h2 hb] at k; exact k H locs ls cells slots hH hS hl hc hz)
  · cases h
theorem mc_r_icn {f : Bool} {off : Int} (rowR : ∀ (H : Heap) (locs : List Loc) (cells slots : Nat) (ls : Array Slot) (rest : List Value) (x tgt : Nat), (pc : Int) + off = (tgt : Int) → W p l e R s m args below meth c H locs cells slots Q (F0 m (if f then pc + 3 else tgt) ls rest) → W p l e R s m args below meth c H locs cells slots Q (F0 m pc ls (.ref x :: rest)))
    (rowN : ∀ (H : Heap) (locs : List Loc) (cells slots : Nat) (ls : Array Slot) (rest : List Value) (tgt : Nat), (pc : Int) + off = (tgt : Int) → W p l e R s m args below meth c H locs cells slots Q (F0 m (if f then tgt else pc + 3) ls rest) → W p l e R s m args below meth c H locs cells slots Q (F0 m pc ls (.null :: rest)))
    (h : mc_icn f pc off L st M = some (.inl S)) (k : mc_W G p l e R s m args below meth c Q nL l0 z0 S) : mc_W G p l e R s m args below meth c Q nL l0 z0 (pc, L, st, M) := by
  unfold mc_icn at h
  split at h
  · obtain ⟨tgt, ht, h1, h2⟩ := mc_br_S h
    refine fun H locs ls cells slots hH hS hl hc hz => rowR H locs cells slots ls _ _ tgt ht ?_
    cases f
    · rw [h1 rfl] at k; exact k H locs ls cells slots hH hS hl hc hz
    · rw [h2 rfl] at k; exact k H locs ls cells slots hH hS hl hc hz
  · obtain ⟨tgt, ht, h1, h2⟩ := mc_br_S h
    refine fun H locs ls cells slots hH hS hl hc hz => rowN H locs cells slots ls _ tgt ht ?_
    cases f
    · rw [h2 rfl] at k; exact k H locs ls cells slots hH hS hl hc hz
    · rw [h1 rfl] at k; exact k H locs ls cells slots hH hS hl hc hz
  · cases h
theorem mc_r_jp {off : Int} (row : ∀ (H : Heap) (locs : List Loc) (cells slots : Nat) (ls : Array Slot) (rest : List Value) (tgt : Nat), (pc : Int) + off = (tgt : Int) → W p l e R s m args below meth c H locs cells slots Q (F0 m tgt ls rest) → W p l e R s m args below meth c H locs cells slots Q (F0 m pc ls rest))
    (h : mc_jp pc off L st M = some (.inl S)) (k : mc_W G p l e R s m args below meth c Q nL l0 z0 S) : mc_W G p l e R s m args below meth c Q nL l0 z0 (pc, L, st, M) := by
  unfold mc_jp at h
  split at h
  · next h0 =>
    rw [mc_go_S h] at k
    exact fun H locs ls cells slots hH hS hl hc hz => row H locs cells slots ls _ _ (Int.toNat_of_nonneg h0).symm (k H locs ls cells slots hH hS hl hc hz)
  · cases h
theorem mc_en_rf {v : Value} {a : Option Nat} (h : mc_en v = some a) : mc_v G v = va_rf (a.map (mc_a G)) ∧ ∀ k, a = some k → 16 ≤ k ∧ k < 27 := by
  unfold mc_en at h
  split at h
  · split at h
    · next h2 =>
      cases h
      exact ⟨rfl, fun k hk => by cases hk; exact h2⟩
    · cases h
  · cases h
    exact ⟨rfl, fun k hk => by cases hk⟩
  · cases h
theorem mc_en_inj (hinj : ∀ i j : Nat, 16 ≤ i → i < 27 → 16 ≤ j → j < 27 → G.1 i = G.1 j → i = j) {a b : Option Nat} (ha : ∀ k, a = some k → 16 ≤ k ∧ k < 27) (hb : ∀ k, b = some k → 16 ≤ k ∧ k < 27) : a.map (mc_a G) = b.map (mc_a G) ↔ a = b := by
  refine ⟨fun h => ?_, fun h => by rw [h]⟩
  cases a with
  | none => cases b with
    | none => rfl
    | some y => cases h
  | some x => cases b with
    | none => cases h
    | some y =>
      obtain ⟨a1, a2⟩ := ha x rfl
      obtain ⟨b1, b2⟩ := hb y rfl
      have h1 : mc_a G x = mc_a G y := Option.some.inj h
      rw [mc_a_lo (by omega), mc_a_lo (by omega)] at h1
      rw [hinj x y a1 a2 b1 b2 h1]
theorem mc_r_ica {f : Bool} {off : Int} (hinj : ∀ i j : Nat, 16 ≤ i → i < 27 → 16 ≤ j → j < 27 → G.1 i = G.1 j → i = j)
    (row : ∀ (H : Heap) (locs : List Loc) (cells slots : Nat) (ls : Array Slot) (rest : List Value) (rx ry : Option Nat) (tgt : Nat), (pc : Int) + off = (tgt : Int) → ((decide (rx = ry) == f) = true → W p l e R s m args below meth c H locs cells slots Q (F0 m tgt ls rest)) → ((decide (rx = ry) == f) = false → W p l e R s m args below meth c H locs cells slots Q (F0 m (pc + 3) ls rest)) → W p l e R s m args below meth c H locs cells slots Q (F0 m pc ls (va_rf ry :: va_rf rx :: rest)))
    (h : mc_ica f pc off L st M = some (.inl S)) (k : mc_W G p l e R s m args below meth c Q nL l0 z0 S) : mc_W G p l e R s m args below meth c Q nL l0 z0 (pc, L, st, M) := by
  unfold mc_ica at h
  split at h
  · next y x r =>
    split at h
    · next a b hx hy =>
      obtain ⟨tgt, ht, h1, h2⟩ := mc_br_S h
      obtain ⟨ex, bx⟩ := mc_en_rf (G := G) hx
      obtain ⟨ey, by'⟩ := mc_en_rf (G := G) hy
      have hi := mc_en_inj hinj bx by'
      intro H locs ls cells slots hH hS hl hc hz
      show W p l e R s m args below meth c H locs cells slots Q (F0 m pc ls (mc_v G y :: mc_v G x :: r.map (mc_v G)))
      rw [ex, ey]
      refine row H locs cells slots ls _ _ _ tgt ht (fun hb => ?_) (fun hb => ?_)
      · rw [decide_eq_decide.mpr hi] at hb
        rw [h1 hb] at k; exact k H locs ls cells slots hH hS hl hc hz
      · rw [decide_eq_decide.mpr hi] at hb
        rw [h2 hb] at k; exact k H locs ls cells slots hH hS hl hc hz
    · cases h
  · cases h
theorem mc_r_dup (row : ∀ (H : Heap) (locs : List Loc) (cells slots : Nat) (ls : Array Slot) (rest : List Value) (v : Value), v.category = 1 → W p l e R s m args below meth c H locs cells slots Q (F0 m (pc + 1) ls (v :: v :: rest)) → W p l e R s m args below meth c H locs cells slots Q (F0 m pc ls (v :: rest)))
    (h : mc_dup pc L st M = some (.inl S)) (k : mc_W G p l e R s m args below meth c Q nL l0 z0 S) : mc_W G p l e R s m args below meth c Q nL l0 z0 (pc, L, st, M) := by
  unfold mc_dup at h
  split at h
  · obtain ⟨hok, h⟩ := mc_n_t h
    rw [mc_go_S h] at k
    exact fun H locs ls cells slots hH hS hl hc hz => row H locs cells slots ls _ _ (by rw [mc_v_cat]; simpa using hok) (k H locs ls cells slots hH hS hl hc hz)
  · cases h
theorem mc_r_pop (row : ∀ (H : Heap) (locs : List Loc) (cells slots : Nat) (ls : Array Slot) (rest : List Value) (v : Value), v.category = 1 → W p l e R s m args below meth c H locs cells slots Q (F0 m (pc + 1) ls rest) → W p l e R s m args below meth c H locs cells slots Q (F0 m pc ls (v :: rest)))
    (h : mc_pop pc L st M = some (.inl S)) (k : mc_W G p l e R s m args below meth c Q nL l0 z0 S) : mc_W G p l e R s m args below meth c Q nL l0 z0 (pc, L, st, M) := by
  unfold mc_pop at h
  split at h
  · obtain ⟨hok, h⟩ := mc_n_t h
    rw [mc_go_S h] at k
    exact fun H locs ls cells slots hH hS hl hc hz => row H locs cells slots ls _ _ (by rw [mc_v_cat]; simpa using hok) (k H locs ls cells slots hH hS hl hc hz)
  · cases h
theorem mc_r_pop2 (row : ∀ (H : Heap) (locs : List Loc) (cells slots : Nat) (ls : Array Slot) (rest : List Value) (v : Value), v.category = 2 → W p l e R s m args below meth c H locs cells slots Q (F0 m (pc + 1) ls rest) → W p l e R s m args below meth c H locs cells slots Q (F0 m pc ls (v :: rest)))
    (h : mc_pop2 pc L st M = some (.inl S)) (k : mc_W G p l e R s m args below meth c Q nL l0 z0 S) : mc_W G p l e R s m args below meth c Q nL l0 z0 (pc, L, st, M) := by
  unfold mc_pop2 at h
  split at h
  · obtain ⟨hok, h⟩ := mc_n_t h
    rw [mc_go_S h] at k
    exact fun H locs ls cells slots hH hS hl hc hz => row H locs cells slots ls _ _ (by rw [mc_v_cat]; simpa using hok) (k H locs ls cells slots hH hS hl hc hz)
  · cases h
theorem mc_r_dup2 (row2 : ∀ (H : Heap) (locs : List Loc) (cells slots : Nat) (ls : Array Slot) (rest : List Value) (v : Value), v.category = 2 → W p l e R s m args below meth c H locs cells slots Q (F0 m (pc + 1) ls (v :: v :: rest)) → W p l e R s m args below meth c H locs cells slots Q (F0 m pc ls (v :: rest)))
    (row1 : ∀ (H : Heap) (locs : List Loc) (cells slots : Nat) (ls : Array Slot) (rest : List Value) (v w : Value), v.category = 1 → w.category = 1 → W p l e R s m args below meth c H locs cells slots Q (F0 m (pc + 1) ls (v :: w :: v :: w :: rest)) → W p l e R s m args below meth c H locs cells slots Q (F0 m pc ls (v :: w :: rest)))
    (h : mc_dup2 pc L st M = some (.inl S)) (k : mc_W G p l e R s m args below meth c Q nL l0 z0 S) : mc_W G p l e R s m args below meth c Q nL l0 z0 (pc, L, st, M) := by
  unfold mc_dup2 at h
  split at h
  · split at h
    · next hok =>
      rw [mc_go_S h] at k
      exact fun H locs ls cells slots hH hS hl hc hz => row2 H locs cells slots ls _ _ (by rw [mc_v_cat]; simpa using hok) (k H locs ls cells slots hH hS hl hc hz)
    · split at h
      · obtain ⟨hok, h⟩ := mc_n_t h
        simp only [Bool.and_eq_true, beq_iff_eq] at hok
        rw [mc_go_S h] at k
        exact fun H locs ls cells slots hH hS hl hc hz => row1 H locs cells slots ls _ _ _ (by rw [mc_v_cat]; exact hok.1) (by rw [mc_v_cat]; exact hok.2) (k H locs ls cells slots hH hS hl hc hz)
      · cases h
  · cases h
end MC1
