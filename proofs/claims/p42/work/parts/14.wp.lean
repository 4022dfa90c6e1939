/-! WHAT A RUN COMES TO (own work): more instructions and deeper calls change no run; wp: from this place the method ends so -/
section WQ1

variable {kt : Nat → Option mc_E} {own nL : Nat} {ini : Bool} {ret : Option FieldType} {cc : ByteArray}
theorem mc_cal_mono {call call' : Nat → List Value → mc_M → Option mc_R} (hc : ∀ (k : Nat) (as : List Value) (M : mc_M) (w : mc_R), call k as M = some w → call' k as M = some w) {sort idx pc : Nat} {L : List (Nat × Value)} {st : List Value} {M : mc_M} {r : mc_S ⊕ mc_R} (h : mc_cal call own sort idx pc L st M = some r) : mc_cal call' own sort idx pc L st M = some r := by
  unfold mc_cal at h ⊢
  split at h
  · next en he =>
    split at h
    · next q hq =>
      split at h
      · next w hw =>
        rw [hc _ _ _ _ hw]
        exact h
      · cases h
    · cases h
  · cases h
/-- a call link that names a method has no other meaning -/
theorem mc_cal_or {call call' : Nat → List Value → mc_M → Option mc_R} (hc : ∀ (k : Nat) (as : List Value) (M : mc_M) (w : mc_R), call k as M = some w → call' k as M = some w) {sort idx pc : Nat} {L : List (Nat × Value)} {st : List Value} {M : mc_M} {b : mc_O} {r : mc_S ⊕ mc_R} (hx : b ≠ none → mc_find (mc_ml.getD own []) idx = none) (h : mc_or (mc_cal call own sort idx pc L st M) b = some r) : mc_or (mc_cal call' own sort idx pc L st M) b = some r := by
  rcases mc_or_t h with h1 | h1
  · rw [mc_cal_mono hc h1]
    rfl
  · have h2 := hx (by rw [h1]; exact Option.some_ne_none _)
    have h3 : ∀ c9 : Nat → List Value → mc_M → Option mc_R, mc_cal c9 own sort idx pc L st M = none := fun c9 => by
      unfold mc_cal
      rw [h2]
    rw [h3]
    exact h1
/-- links of the JDK's methods are no links of ours -/
def mc_apart (own : Nat) (l : List Nat) : Bool := l.all (fun i => (mc_find (mc_ml.getD own []) i).isNone)
theorem mc_apart_ok : (List.range 24).all (fun own => mc_apart own ((mc_jl.getD own []).map Prod.fst) && mc_apart own ((mc_pl.getD own []).map Prod.fst) && mc_apart own ((mc_ol.getD own []).map Prod.fst)) = true := by decide +kernel
theorem mc_len24 : mc_jl.length ≤ 24 ∧ mc_pl.length ≤ 24 ∧ mc_ol.length ≤ 24 := by decide +kernel
theorem mc_find_fst {α : Type} {l : List (Nat × α)} {i : Nat} {a : α} (h : mc_find l i = some a) : i ∈ l.map Prod.fst := List.mem_map.mpr ⟨_, mc_find_mem h, rfl⟩
theorem mc_own24 {α : Type} {l : List (List (Nat × α))} (hl : l.length ≤ 24) {own i : Nat} {a : α} (h : mc_find (l.getD own []) i = some a) : own < 24 := by
  by_cases ho : own < l.length
  · omega
  · rw [List.getD_eq_getElem?_getD, List.getElem?_eq_none (by omega)] at h
    cases h
theorem mc_apart_of {own i : Nat} (ho : own < 24) (h : i ∈ (mc_jl.getD own []).map Prod.fst ∨ i ∈ (mc_pl.getD own []).map Prod.fst ∨ i ∈ (mc_ol.getD own []).map Prod.fst) : mc_find (mc_ml.getD own []) i = none := by
  have h1 := List.all_eq_true.mp mc_apart_ok own (List.mem_range.mpr ho)
  simp only [Bool.and_eq_true] at h1
  rcases h with h | h | h
  · exact Option.isNone_iff_eq_none.mp (List.all_eq_true.mp h1.1.1 i h)
  · exact Option.isNone_iff_eq_none.mp (List.all_eq_true.mp h1.1.2 i h)
  · exact Option.isNone_iff_eq_none.mp (List.all_eq_true.mp h1.2 i h)
theorem mc_math_x {idx pc : Nat} {L : List (Nat × Value)} {st : List Value} {M : mc_M} (h : mc_math own idx pc L st M ≠ none) : mc_find (mc_ml.getD own []) idx = none := by
  unfold mc_math at h
  split at h
  · next e he => exact mc_apart_of (mc_own24 mc_len24.1 he) (Or.inl (mc_find_fst he))
  · exact absurd rfl h
theorem mc_prim_x {idx pc : Nat} {L : List (Nat × Value)} {st : List Value} {M : mc_M} (h : mc_prim own idx pc L st M ≠ none) : mc_find (mc_ml.getD own []) idx = none := by
  unfold mc_prim at h
  split at h
  · next e he => exact mc_apart_of (mc_own24 mc_len24.2.1 he) (Or.inr (Or.inl (mc_find_fst he)))
  · exact absurd rfl h
theorem mc_obj_x {idx pc : Nat} {L : List (Nat × Value)} {st : List Value} {M : mc_M} (h : mc_obj own idx pc L st M ≠ none) : mc_find (mc_ml.getD own []) idx = none := by
  unfold mc_obj at h
  split at h
  · split at h
    · next e he => exact mc_apart_of (mc_own24 mc_len24.2.2 he) (Or.inr (Or.inr (mc_find_fst he)))
    · exact absurd rfl h
  · exact absurd rfl h
theorem mc_nmap {b : Bool} {o o' : mc_O} {r : mc_S ⊕ mc_R} (hm : o = some r → o' = some r) (h : mc_n b o = some r) : mc_n b o' = some r := by
  obtain ⟨h1, h2⟩ := mc_n_t h
  rw [h1]
  exact hm h2
set_option maxHeartbeats 4000000 in
theorem mc_step_mono {call call' : Nat → List Value → mc_M → Option mc_R} (hc : ∀ (k : Nat) (as : List Value) (M : mc_M) (w : mc_R), call k as M = some w → call' k as M = some w) {x : Instr} {n : Nat} {S : mc_S} {r : mc_S ⊕ mc_R} (h : mc_step kt call own nL ini ret x n S = some r) : mc_step kt call' own nL ini ret x n S = some r := by
  cases x with
  | invokevirtual i => exact mc_nmap (fun h => mc_cal_or hc mc_prim_x h) h
  | invokestatic i => exact mc_nmap (fun h => mc_cal_or hc mc_math_x h) h
  | invokespecial i => exact mc_nmap (fun h => mc_cal_or hc mc_obj_x h) h
  | if_acmp c o => cases c <;> exact h
  | if_icmp c o => cases c <;> exact h
  | ifCond c o => cases c <;> exact h
  | multianewarray i j =>
    match j, h with
    | 2, h => exact h
    | 0, h => exact h
    | 1, h => exact h
    | j + 3, h => exact h
  | _ => exact h
theorem mc_loop_mono {call call' : Nat → List Value → mc_M → Option mc_R} (hc : ∀ (k : Nat) (as : List Value) (M : mc_M) (w : mc_R), call k as M = some w → call' k as M = some w) : ∀ (n n' : Nat) (S : mc_S) (w : mc_R), n ≤ n' → mc_loop kt call own nL ini ret cc n S = some w → mc_loop kt call' own nL ini ret cc n' S = some w
  | 0, _, _, _, _, h => by cases h
  | n + 1, 0, _, _, hn, _ => absurd hn (by omega)
  | n + 1, n' + 1, S, w, hn, h => by
    unfold mc_loop at h ⊢
    split at h
    · next x k hd =>
      split at h
      · next S1 hs =>
        rw [mc_step_mono hc hs]
        exact mc_loop_mono hc n n' S1 w (by omega) h
      · next w' hs =>
        rw [mc_step_mono hc hs]
        exact h
      · cases h
    · cases h
theorem mc_call_mono {F F' : Nat} (hF : F ≤ F') : ∀ (d d' : Nat), d ≤ d' → ∀ (k : Nat) (as : List Value) (M : mc_M) (w : mc_R), mc_call kt F d k as M = some w → mc_call kt F' d' k as M = some w
  | 0, _, _, _, _, _, _, h => by cases h
  | d + 1, 0, hd, _, _, _, _, _ => absurd hd (by omega)
  | d + 1, d' + 1, hd, k, as, M, w, h => by
    unfold mc_call at h ⊢
    split at h
    · next q hq =>
      split at h
      · next hl =>
        exact mc_loop_mono (mc_call_mono hF d d' (by omega)) F F' _ w hF h
      · cases h
    · cases h
end WQ1
/-- what a method's instructions are read with: class, locals, constructor, answer -/
abbrev wq_E : Type := Nat × Nat × Bool × Option FieldType
def wq_en (k : Nat) : Option wq_E := (mc_mt k).map (fun q => (q.1, q.2.2.2.1, q.2.2.2.2.2.2 == 2, q.2.2.2.2.1))
def wq_lp (kt : Nat → Option mc_E) (F d k n : Nat) (S : mc_S) : Option mc_R := match mc_mt k with
  | some q => mc_loop kt (mc_call kt F d) q.1 q.2.2.2.1 (q.2.2.2.2.2.2 == 2) q.2.2.2.2.1 q.2.2.1 n S
  | none => none
/-- one instruction, and then K -/
def wq_s (kt : Nat → Option mc_E) (d : Nat) (E : wq_E) (x : Instr) (n pc : Nat) (L : List (Nat × Value)) (st : List Value) (T : wq_T) (H : wq_H) (K : Nat → List (Nat × Value) → List Value → wq_T → wq_H → Prop) : Prop :=
  ∀ M, wq_R kt M T H → ∃ (F pc' : Nat) (L' : List (Nat × Value)) (st' : List Value) (M' : mc_M) (T' : wq_T) (H' : wq_H), mc_step kt (mc_call kt F d) E.1 E.2.1 E.2.2.1 E.2.2.2 x n (pc, L, st, M) = some (.inl (pc', L', st', M')) ∧ wq_R kt M' T' H' ∧ K pc' L' st' T' H'
/-- from this place method k ends, and Q holds of its answer and its end -/
def wp (kt : Nat → Option mc_E) (d k pc : Nat) (L : List (Nat × Value)) (st : List Value) (T : wq_T) (H : wq_H) (Q : Option Value → wq_T → wq_H → Prop) : Prop :=
  ∀ M, wq_R kt M T H → ∃ (F n : Nat) (w : mc_R) (T' : wq_T) (H' : wq_H), wq_lp kt F d k n (pc, L, st, M) = some w ∧ wq_R kt w.2 T' H' ∧ Q w.1 T' H'
/-- method k, called with these values, ends, and Q holds -/
def wpc (kt : Nat → Option mc_E) (d k : Nat) (as : List Value) (T : wq_T) (H : wq_H) (Q : Option Value → wq_T → wq_H → Prop) : Prop :=
  ∀ M, wq_R kt M T H → ∃ (F : Nat) (w : mc_R) (T' : wq_T) (H' : wq_H), mc_call kt F d k as M = some w ∧ wq_R kt w.2 T' H' ∧ Q w.1 T' H'
theorem wpc.imp {kt : Nat → Option mc_E} {d k : Nat} {as : List Value} {T : wq_T} {H : wq_H} {Q Q' : Option Value → wq_T → wq_H → Prop} (h : wpc kt d k as T H Q) (hQ : ∀ r T' H', Q r T' H' → Q' r T' H') : wpc kt d k as T H Q' := fun M hM => by
  obtain ⟨F, w, T', H', h1, h2, h3⟩ := h M hM
  exact ⟨F, w, T', H', h1, h2, hQ _ _ _ h3⟩
theorem wpc.deep {kt : Nat → Option mc_E} {d d' k : Nat} {as : List Value} {T : wq_T} {H : wq_H} {Q : Option Value → wq_T → wq_H → Prop} (h : wpc kt d k as T H Q) (hd : d ≤ d') : wpc kt d' k as T H Q := fun M hM => by
  obtain ⟨F, w, T', H', h1, h2, h3⟩ := h M hM
  exact ⟨F, w, T', H', mc_call_mono (Nat.le_refl _) d d' hd _ _ _ _ h1, h2, h3⟩
theorem wp.imp {kt : Nat → Option mc_E} {d k pc : Nat} {L : List (Nat × Value)} {st : List Value} {T : wq_T} {H : wq_H} {Q Q' : Option Value → wq_T → wq_H → Prop} (h : wp kt d k pc L st T H Q) (hQ : ∀ r T' H', Q r T' H' → Q' r T' H') : wp kt d k pc L st T H Q' := fun M hM => by
  obtain ⟨F, n, w, T', H', h1, h2, h3⟩ := h M hM
  exact ⟨F, n, w, T', H', h1, h2, hQ _ _ _ h3⟩
theorem wq_en_mt {k : Nat} {E : wq_E} (he : wq_en k = some E) : ∃ q, mc_mt k = some q ∧ E = (q.1, q.2.2.2.1, q.2.2.2.2.2.2 == 2, q.2.2.2.2.1) := by
  unfold wq_en at he
  obtain ⟨q, h1, h2⟩ := Option.map_eq_some_iff.mp he
  exact ⟨q, h1, h2.symm⟩
/-- one instruction of a method -/
theorem wp_of {kt : Nat → Option mc_E} {d k pc : Nat} {L : List (Nat × Value)} {st : List Value} {T : wq_T} {H : wq_H} {Q : Option Value → wq_T → wq_H → Prop} {E : wq_E} {x : Instr} {n : Nat} (he : wq_en k = some E) (hd : mc_cd k pc = some (x, n)) (h : wq_s kt d E x n pc L st T H (fun pc' L' st' T' H' => wp kt d k pc' L' st' T' H' Q)) : wp kt d k pc L st T H Q := fun M hM => by
  obtain ⟨q, hq, rfl⟩ := wq_en_mt he
  obtain ⟨F1, pc', L', st', M', T', H', h1, h2, h3⟩ := h M hM
  obtain ⟨F2, n2, w, T2, H2, h4, h5, h6⟩ := h3 M' h2
  refine ⟨max F1 F2, n2 + 1, w, T2, H2, ?_, h5, h6⟩
  have hd' := mc_cd_ok hq hd
  unfold wq_lp at h4 ⊢
  rw [hq] at h4 ⊢
  dsimp only at h4 ⊢
  unfold mc_loop
  dsimp only
  rw [hd']
  dsimp only
  rw [mc_step_mono (mc_call_mono (Nat.le_max_left F1 F2) d d (Nat.le_refl _)) h1]
  exact mc_loop_mono (mc_call_mono (Nat.le_max_right F1 F2) d d (Nat.le_refl _)) n2 n2 _ w (Nat.le_refl _) h4
/-- a method's end -/
theorem wp_end {kt : Nat → Option mc_E} {d k pc : Nat} {L : List (Nat × Value)} {st : List Value} {T : wq_T} {H : wq_H} {Q : Option Value → wq_T → wq_H → Prop} {E : wq_E} {x : Instr} {n : Nat} {r : Option Value} (he : wq_en k = some E) (hd : mc_cd k pc = some (x, n)) (h : ∀ M : mc_M, mc_step kt (mc_call kt 0 d) E.1 E.2.1 E.2.2.1 E.2.2.2 x n (pc, L, st, M) = some (.inr (r, M))) (hQ : Q r T H) : wp kt d k pc L st T H Q := fun M hM => by
  obtain ⟨q, hq, rfl⟩ := wq_en_mt he
  refine ⟨0, 1, (r, M), T, H, ?_, hM, hQ⟩
  have hd' := mc_cd_ok hq hd
  unfold wq_lp
  rw [hq]
  dsimp only
  unfold mc_loop
  dsimp only
  rw [hd']
  dsimp only
  rw [h M]
theorem wp_enter {kt : Nat → Option mc_E} {d k : Nat} {as : List Value} {T : wq_T} {H : wq_H} {Q : Option Value → wq_T → wq_H → Prop} {E : wq_E} {L : List (Nat × Value)} (he : wq_en k = some E) (hl : (lg_sl as).length ≤ E.2.1) (hL : lv_args 0 as = L) (h : wp kt d k 0 L [] T H Q) : wpc kt (d + 1) k as T H Q := fun M hM => by
  subst hL
  obtain ⟨q, hq, rfl⟩ := wq_en_mt he
  obtain ⟨F, n, w, T', H', h1, h2, h3⟩ := h M hM
  refine ⟨max F n, w, T', H', ?_, h2, h3⟩
  unfold wq_lp at h1
  rw [hq] at h1
  dsimp only at h1
  unfold mc_call
  rw [hq]
  dsimp only
  rw [decide_eq_true hl]
  exact mc_loop_mono (mc_call_mono (Nat.le_max_left F n) d d (Nat.le_refl _)) n (max F n) _ w (Nat.le_max_right F n) h1
