section
/-! PURE MEMORY (own work): what the mini machine's cells hold, as one function from address and place to a whole number; a reference is its address, null is -1 -/
def wq_ft (ty : FieldType) : Nat := match ty with
  | .int => 0
  | .long => 1
  | .byte => 3
  | .boolean => 4
  | _ => 2
/-- the kinds of values: 0 int, 1 long, 2 reference, 3 byte, 4 boolean -/
def wq_ak (t : Nat) : Nat := match t with
  | 0 => 0
  | 1 => 1
  | 2 => 3
  | 3 => 4
  | _ => 2
def wq_fk (c j : Nat) : Nat := if c < 11 then wq_ft (mc_t c j) else if j = 0 then 2 else 0
def vI (z : Int) : Value := .int (Int32.ofInt z)
def vL (z : Int) : Value := .long (Int64.ofInt z)
def vR (z : Int) : Value := if 0 ≤ z then .ref z.toNat else .null
def wq_v (k : Nat) (z : Int) : Value := match k with
  | 1 => vL z
  | 2 => vR z
  | _ => vI z
def wI (z : Int) : Prop := -2147483648 ≤ z ∧ z ≤ 2147483647
def wL (z : Int) : Prop := -9223372036854775808 ≤ z ∧ z ≤ 9223372036854775807
def wq_in (k : Nat) (z : Int) : Prop := match k with
  | 0 => wI z
  | 1 => wL z
  | 2 => True
  | 3 => -128 ≤ z ∧ z ≤ 127
  | _ => 0 ≤ z ∧ z ≤ 1
/-- shapes, how many cells, how many slots, tags (of our own) -/
abbrev wq_T : Type := (Nat → Option (Nat × Nat)) × Nat × Nat × (Nat → Option Nat)
abbrev wq_H : Type := Nat → Nat → Int
def wq_c (s : Option (Nat × Nat)) (h : Nat → Int) (e : mc_E) : Prop := match e with
  | .inl (t, n, f) => t < 100 ∧ s = some (t, n) ∧ ∀ j, j < n → f j = wq_v (wq_ak t) (h j) ∧ wq_in (wq_ak t) (h j)
  | .inr (c, fs) => s = some (100 + c, fs.length) ∧ ∀ j v, fs[j]? = some v → v = wq_v (wq_fk c j) (h j) ∧ wq_in (wq_fk c j) (h j)
def wq_R (kt : Nat → Option mc_E) (M : mc_M) (T : wq_T) (H : wq_H) : Prop :=
  T.2.1 = M.length ∧ T.2.2.1 = mc_sz M ∧ (∀ a e, mc_ce kt M a = some e → wq_c (T.1 a) (H a) e) ∧ ∀ a, mc_ce kt M a = none → T.1 a = none
def wq_u (H : wq_H) (a j : Nat) (z : Int) : wq_H := fun b i => if b = a ∧ i = j then z else H b i
theorem wq_u_eq {H : wq_H} {a j : Nat} {z : Int} : wq_u H a j z a j = z := if_pos ⟨rfl, rfl⟩
theorem wq_u_ne {H : wq_H} {a j b i : Nat} {z : Int} (h : ¬ (b = a ∧ i = j)) : wq_u H a j z b i = H b i := if_neg h
theorem wq_u_na {H : wq_H} {a j b : Nat} {z : Int} (h : b ≠ a) (i : Nat) : wq_u H a j z b i = H b i := if_neg (fun q => h q.1)
theorem wI_of (z : Int32) : wI z.toInt := ⟨Int32.le_toInt z, by have := Int32.toInt_lt z; omega⟩
theorem wL_of (z : Int64) : wL z.toInt := ⟨Int64.le_toInt z, by have := Int64.toInt_lt z; omega⟩
theorem wI_t {z : Int} (h : wI z) : (Int32.ofInt z).toInt = z := Int32.toInt_ofInt_of_le h.1 (by have := h.2; omega)
theorem wL_t {z : Int} (h : wL z) : (Int64.ofInt z).toInt = z := Int64.toInt_ofInt_of_le h.1 (by have := h.2; omega)
theorem vI_of (z : Int32) : Value.int z = vI z.toInt := by unfold vI; rw [Int32.ofInt_toInt]
theorem vL_of (z : Int64) : Value.long z = vL z.toInt := by unfold vL; rw [Int64.ofInt_toInt]
theorem vR_of (a : Nat) : vR (a : Int) = .ref a := by unfold vR; rw [if_pos (by omega)]; rfl
theorem vR_null : vR (-1) = .null := rfl
theorem wq_R.obj {kt : Nat → Option mc_E} {M : mc_M} {T : wq_T} {H : wq_H} (h : wq_R kt M T H) {a c n : Nat} (hs : T.1 a = some (100 + c, n)) : ∃ fs, mc_ce kt M a = some (.inr (c, fs)) ∧ fs.length = n ∧ ∀ j v, fs[j]? = some v → v = wq_v (wq_fk c j) (H a j) ∧ wq_in (wq_fk c j) (H a j) := by
  cases he : mc_ce kt M a with
  | none => rw [h.2.2.2 a he] at hs; cases hs
  | some e =>
    have h1 := h.2.2.1 a e he
    match e, h1 with
    | .inl (t, m, f), h1 =>
      obtain ⟨h2, h3, -⟩ := h1
      rw [hs] at h3
      cases h3
      omega
    | .inr (c', fs), h1 =>
      obtain ⟨h3, h4⟩ := h1
      rw [hs] at h3
      have h5 := Option.some.inj h3
      have h6 : 100 + c = 100 + c' := congrArg Prod.fst h5
      have h7 : n = fs.length := congrArg Prod.snd h5
      have h8 : c' = c := by omega
      subst h8
      exact ⟨fs, rfl, h7.symm, h4⟩
theorem wq_R.arr {kt : Nat → Option mc_E} {M : mc_M} {T : wq_T} {H : wq_H} (h : wq_R kt M T H) {a t n : Nat} (ht : t < 100) (hs : T.1 a = some (t, n)) : ∃ f, mc_ce kt M a = some (.inl (t, n, f)) ∧ ∀ j, j < n → f j = wq_v (wq_ak t) (H a j) ∧ wq_in (wq_ak t) (H a j) := by
  cases he : mc_ce kt M a with
  | none => rw [h.2.2.2 a he] at hs; cases hs
  | some e =>
    have h1 := h.2.2.1 a e he
    match e, h1 with
    | .inl (t', m, f), h1 =>
      obtain ⟨h2, h3, h4⟩ := h1
      rw [hs] at h3
      cases h3
      exact ⟨f, rfl, h4⟩
    | .inr (c', fs), h1 =>
      obtain ⟨h3, h4⟩ := h1
      rw [hs] at h3
      have h5 := Option.some.inj h3
      have h6 : t = 100 + c' := congrArg Prod.fst h5
      omega
theorem mc_ce_hi {kt : Nat → Option mc_E} {M : mc_M} {a : Nat} (h : 256 ≤ a) : mc_ce kt M a = M[a - 256]? := if_neg (by omega)
theorem mc_ce_lo {kt : Nat → Option mc_E} {M : mc_M} {a : Nat} (h : a < 256) : mc_ce kt M a = kt a := if_pos h
/-- one cell written -/
theorem wq_R.set {kt : Nat → Option mc_E} {M : mc_M} {T : wq_T} {H H' : wq_H} (h : wq_R kt M T H) {a : Nat} (ha : 256 ≤ a) {e0 e : mc_E} (he : M[a - 256]? = some e0) (hz : mc_es e = mc_es e0) (hc : wq_c (T.1 a) (H' a) e) (ho : ∀ b, b ≠ a → H' b = H b) : wq_R kt (M.set (a - 256) e) T H' := by
  have hlt : a - 256 < M.length := (List.getElem?_eq_some_iff.mp he).1
  refine ⟨by rw [List.length_set]; exact h.1, by rw [mc_sz_set he hz]; exact h.2.1, fun b e' hb => ?_, fun b hb => ?_⟩
  · by_cases hba : b = a
    · subst hba
      rw [mc_ce_hi ha, List.getElem?_set_self hlt] at hb
      cases hb
      exact hc
    · rw [ho b hba]
      refine h.2.2.1 b e' ?_
      by_cases hb0 : b < 256
      · rw [mc_ce_lo hb0] at hb ⊢
        exact hb
      · rw [mc_ce_hi (by omega)] at hb ⊢
        rw [List.getElem?_set_ne (by omega)] at hb
        exact hb
  · refine h.2.2.2 b ?_
    by_cases hb0 : b < 256
    · rw [mc_ce_lo hb0] at hb ⊢
      exact hb
    · rw [mc_ce_hi (by omega)] at hb ⊢
      rw [List.getElem?_eq_none_iff] at hb ⊢
      rw [List.length_set] at hb
      exact hb
theorem wq_R.puta {kt : Nat → Option mc_E} {M : mc_M} {T : wq_T} {H : wq_H} (h : wq_R kt M T H) {a t n j : Nat} {f : Nat → Value} (ha : 256 ≤ a) (he : M[a - 256]? = some (.inl (t, n, f))) {z : Int} (hz : wq_in (wq_ak t) z) : wq_R kt (M.set (a - 256) (.inl (t, n, updV f j (wq_v (wq_ak t) z)))) T (wq_u H a j z) := by
  have h0 := h.2.2.1 a (.inl (t, n, f)) (by rw [mc_ce_hi ha]; exact he)
  obtain ⟨h1, h2, h3⟩ := h0
  refine h.set ha he (by simp [mc_es]) ⟨h1, h2, fun i hi => ?_⟩ (fun b hb => by funext i; exact wq_u_na hb i)
  by_cases hij : i = j
  · subst hij
    rw [wq_u_eq]
    exact ⟨by unfold updV; rw [if_pos rfl], hz⟩
  · rw [wq_u_ne (fun q => hij q.2)]
    have := h3 i hi
    exact ⟨by unfold updV; rw [if_neg hij]; exact this.1, this.2⟩
end
section
/-! WHAT A RUN COMES TO (own work): more instructions and deeper calls change no run; wp: from this place the method ends so -/
section WQ1

variable {kt : Nat → Option mc_E} {own nL : Nat} {ini : Bool} {ret : Option FieldType} {cc : ByteArray}
theorem mc_cal_mono {call call' : Nat → List Value → mc_M → Option mc_R} (hc : ∀ (k : Nat) (as : List Value) (M : mc_M) (w : mc_R), call k as M = some w → call' k as M = some w) {sort idx pc : Nat} {L : List (Nat × Value)} {st : List Value} {M : mc_M} {r : mc_S ⊕ mc_R} (h : mc_cal call own sort idx pc L st M = some r) : mc_cal call' own sort idx pc L st M = some r := by
  unfold mc_cal at h ⊢
  split at h
  · next en he =>
    split at h
    · next q hq =>
      split at h
      · next w hw =>
        rw [hc _ _ _ _ hw]
        exact h
      · cases h
    · cases h
  · cases h
/-- a call link that names a method has no other meaning -/
theorem mc_cal_or {call call' : Nat → List Value → mc_M → Option mc_R} (hc : ∀ (k : Nat) (as : List Value) (M : mc_M) (w : mc_R), call k as M = some w → call' k as M = some w) {sort idx pc : Nat} {L : List (Nat × Value)} {st : List Value} {M : mc_M} {b : mc_O} {r : mc_S ⊕ mc_R} (hx : b ≠ none → mc_find (mc_ml.getD own []) idx = none) (h : mc_or (mc_cal call own sort idx pc L st M) b = some r) : mc_or (mc_cal call' own sort idx pc L st M) b = some r := by
  rcases mc_or_t h with h1 | h1
  · rw [mc_cal_mono hc h1]
    rfl
  · have h2 := hx (by rw [h1]; exact Option.some_ne_none _)
    have h3 : ∀ c9 : Nat → List Value → mc_M → Option mc_R, mc_cal c9 own sort idx pc L st M = none := fun c9 => by
      unfold mc_cal
      rw [h2]
    rw [h3]
    exact h1
/-- links of the JDK's methods are no links of ours -/
def mc_apart (own : Nat) (l : List Nat) : Bool := l.all (fun i => (mc_find (mc_ml.getD own []) i).isNone)
theorem mc_apart_ok : (List.range 24).all (fun own => mc_apart own ((mc_jl.getD own []).map Prod.fst) && mc_apart own ((mc_pl.getD own []).map Prod.fst) && mc_apart own ((mc_ol.getD own []).map Prod.fst)) = true := by decide +kernel
theorem mc_len24 : mc_jl.length ≤ 24 ∧ mc_pl.length ≤ 24 ∧ mc_ol.length ≤ 24 := by decide +kernel
theorem mc_find_fst {α : Type} {l : List (Nat × α)} {i : Nat} {a : α} (h : mc_find l i = some a) : i ∈ l.map Prod.fst := List.mem_map.mpr ⟨_, mc_find_mem h, rfl⟩
theorem mc_own24 {α : Type} {l : List (List (Nat × α))} (hl : l.length ≤ 24) {own i : Nat} {a : α} (h : mc_find (l.getD own []) i = some a) : own < 24 := by
  by_cases ho : own < l.length
  · omega
  · rw [List.getD_eq_getElem?_getD, List.getElem?_eq_none (by omega)] at h
    cases h
theorem mc_apart_of {own i : Nat} (ho : own < 24) (h : i ∈ (mc_jl.getD own []).map Prod.fst ∨ i ∈ (mc_pl.getD own []).map Prod.fst ∨ i ∈ (mc_ol.getD own []).map Prod.fst) : mc_find (mc_ml.getD own []) i = none := by
  have h1 := List.all_eq_true.mp mc_apart_ok own (List.mem_range.mpr ho)
  simp only [Bool.and_eq_true] at h1
  rcases h with h | h | h
  · exact Option.isNone_iff_eq_none.mp (List.all_eq_true.mp h1.1.1 i h)
  · exact Option.isNone_iff_eq_none.mp (List.all_eq_true.mp h1.1.2 i h)
  · exact Option.isNone_iff_eq_none.mp (List.all_eq_true.mp h1.2 i h)
theorem mc_math_x {idx pc : Nat} {L : List (Nat × Value)} {st : List Value} {M : mc_M} (h : mc_math own idx pc L st M ≠ none) : mc_find (mc_ml.getD own []) idx = none := by
  unfold mc_math at h
  split at h
  · next e he => exact mc_apart_of (mc_own24 mc_len24.1 he) (Or.inl (mc_find_fst he))
  · exact absurd rfl h
theorem mc_prim_x {idx pc : Nat} {L : List (Nat × Value)} {st : List Value} {M : mc_M} (h : mc_prim own idx pc L st M ≠ none) : mc_find (mc_ml.getD own []) idx = none := by
  unfold mc_prim at h
  split at h
  · next e he => exact mc_apart_of (mc_own24 mc_len24.2.1 he) (Or.inr (Or.inl (mc_find_fst he)))
  · exact absurd rfl h
theorem mc_obj_x {idx pc : Nat} {L : List (Nat × Value)} {st : List Value} {M : mc_M} (h : mc_obj own idx pc L st M ≠ none) : mc_find (mc_ml.getD own []) idx = none := by
  unfold mc_obj at h
  split at h
  · split at h
    · next e he => exact mc_apart_of (mc_own24 mc_len24.2.2 he) (Or.inr (Or.inr (mc_find_fst he)))
    · exact absurd rfl h
  · exact absurd rfl h
theorem mc_nmap {b : Bool} {o o' : mc_O} {r : mc_S ⊕ mc_R} (hm : o = some r → o' = some r) (h : mc_n b o = some r) : mc_n b o' = some r := by
  obtain ⟨h1, h2⟩ := mc_n_t h
  rw [h1]
  exact hm h2
set_option maxHeartbeats 4000000 in
theorem mc_step_mono {call call' : Nat → List Value → mc_M → Option mc_R} (hc : ∀ (k : Nat) (as : List Value) (M : mc_M) (w : mc_R), call k as M = some w → call' k as M = some w) {x : Instr} {n : Nat} {S : mc_S} {r : mc_S ⊕ mc_R} (h : mc_step kt call own nL ini ret x n S = some r) : mc_step kt call' own nL ini ret x n S = some r := by
  cases x with
  | invokevirtual i => exact mc_nmap (fun h => mc_cal_or hc mc_prim_x h) h
  | invokestatic i => exact mc_nmap (fun h => mc_cal_or hc mc_math_x h) h
  | invokespecial i => exact mc_nmap (fun h => mc_cal_or hc mc_obj_x h) h
  | if_acmp c o => cases c <;> exact h
  | if_icmp c o => cases c <;> exact h
  | ifCond c o => cases c <;> exact h
  | multianewarray i j =>
    match j, h with
    | 2, h => exact h
    | 0, h => exact h
    | 1, h => exact h
    | j + 3, h => exact h
  | _ => exact h
theorem mc_loop_mono {call call' : Nat → List Value → mc_M → Option mc_R} (hc : ∀ (k : Nat) (as : List Value) (M : mc_M) (w : mc_R), call k as M = some w → call' k as M = some w) : ∀ (n n' : Nat) (S : mc_S) (w : mc_R), n ≤ n' → mc_loop kt call own nL ini ret cc n S = some w → mc_loop kt call' own nL ini ret cc n' S = some w
  | 0, _, _, _, _, h => by cases h
  | n + 1, 0, _, _, hn, _ => absurd hn (by omega)
  | n + 1, n' + 1, S, w, hn, h => by
    unfold mc_loop at h ⊢
    split at h
    · next x k hd =>
      split at h
      · next S1 hs =>
        rw [mc_step_mono hc hs]
        exact mc_loop_mono hc n n' S1 w (by omega) h
      · next w' hs =>
        rw [mc_step_mono hc hs]
        exact h
      · cases h
    · cases h
theorem mc_call_mono {F F' : Nat} (hF : F ≤ F') : ∀ (d d' : Nat), d ≤ d' → ∀ (k : Nat) (as : List Value) (M : mc_M) (w : mc_R), mc_call kt F d k as M = some w → mc_call kt F' d' k as M = some w
  | 0, _, _, _, _, _, _, h => by cases h
  | d + 1, 0, hd, _, _, _, _, _ => absurd hd (by omega)
  | d + 1, d' + 1, hd, k, as, M, w, h => by
    unfold mc_call at h ⊢
    split at h
    · next q hq =>
      split at h
      · next hl =>
        exact mc_loop_mono (mc_call_mono hF d d' (by omega)) F F' _ w hF h
      · cases h
    · cases h
end WQ1
/-- what a method's instructions are read with: class, locals, constructor, answer -/
abbrev wq_E : Type := Nat × Nat × Bool × Option FieldType
def wq_en (k : Nat) : Option wq_E := (mc_mt k).map (fun q => (q.1, q.2.2.2.1, q.2.2.2.2.2.2 == 2, q.2.2.2.2.1))
def wq_lp (kt : Nat → Option mc_E) (F d k n : Nat) (S : mc_S) : Option mc_R := match mc_mt k with
  | some q => mc_loop kt (mc_call kt F d) q.1 q.2.2.2.1 (q.2.2.2.2.2.2 == 2) q.2.2.2.2.1 q.2.2.1 n S
  | none => none
/-- one instruction, and then K -/
def wq_s (kt : Nat → Option mc_E) (d : Nat) (E : wq_E) (x : Instr) (n pc : Nat) (L : List (Nat × Value)) (st : List Value) (T : wq_T) (H : wq_H) (K : Nat → List (Nat × Value) → List Value → wq_T → wq_H → Prop) : Prop :=
  ∀ M, wq_R kt M T H → ∃ (F pc' : Nat) (L' : List (Nat × Value)) (st' : List Value) (M' : mc_M) (T' : wq_T) (H' : wq_H), mc_step kt (mc_call kt F d) E.1 E.2.1 E.2.2.1 E.2.2.2 x n (pc, L, st, M) = some (.inl (pc', L', st', M')) ∧ wq_R kt M' T' H' ∧ K pc' L' st' T' H'
/-- from this place method k ends, and Q holds of its answer and its end -/
def wp (kt : Nat → Option mc_E) (d k pc : Nat) (L : List (Nat × Value)) (st : List Value) (T : wq_T) (H : wq_H) (Q : Option Value → wq_T → wq_H → Prop) : Prop :=
  ∀ M, wq_R kt M T H → ∃ (F n : Nat) (w : mc_R) (T' : wq_T) (H' : wq_H), wq_lp kt F d k n (pc, L, st, M) = some w ∧ wq_R kt w.2 T' H' ∧ Q w.1 T' H'
/-- method k, called with these values, ends, and Q holds -/
def wpc (kt : Nat → Option mc_E) (d k : Nat) (as : List Value) (T : wq_T) (H : wq_H) (Q : Option Value → wq_T → wq_H → Prop) : Prop :=
  ∀ M, wq_R kt M T H → ∃ (F : Nat) (w : mc_R) (T' : wq_T) (H' : wq_H), mc_call kt F d k as M = some w ∧ wq_R kt w.2 T' H' ∧ Q w.1 T' H'
theorem wpc.imp {kt : Nat → Option mc_E} {d k : Nat} {as : List Value} {T : wq_T} {H : wq_H} {Q Q' : Option Value → wq_T → wq_H → Prop} (h : wpc kt d k as T H Q) (hQ : ∀ r T' H', Q r T' H' → Q' r T' H') : wpc kt d k as T H Q' := fun M hM => by
  obtain ⟨F, w, T', H', h1, h2, h3⟩ := h M hM
  exact ⟨F, w, T', H', h1, h2, hQ _ _ _ h3⟩
theorem wpc.deep {kt : Nat → Option mc_E} {d d' k : Nat} {as : List Value} {T : wq_T} {H : wq_H} {Q : Option Value → wq_T → wq_H → Prop} (h : wpc kt d k as T H Q) (hd : d ≤ d') : wpc kt d' k as T H Q := fun M hM => by
  obtain ⟨F, w, T', H', h1, h2, h3⟩ := h M hM
  exact ⟨F, w, T', H', mc_call_mono (Nat.le_refl _) d d' hd _ _ _ _ h1, h2, h3⟩
theorem wp.imp {kt : Nat → Option mc_E} {d k pc : Nat} {L : List (Nat × Value)} {st : List Value} {T : wq_T} {H : wq_H} {Q Q' : Option Value → wq_T → wq_H → Prop} (h : wp kt d k pc L st T H Q) (hQ : ∀ r T' H', Q r T' H' → Q' r T' H') : wp kt d k pc L st T H Q' := fun M hM => by
  obtain ⟨F, n, w, T', H', h1, h2, h3⟩ := h M hM
  exact ⟨F, n, w, T', H', h1, h2, hQ _ _ _ h3⟩
theorem wq_en_mt {k : Nat} {E : wq_E} (he : wq_en k = some E) : ∃ q, mc_mt k = some q ∧ E = (q.1, q.2.2.2.1, q.2.2.2.2.2.2 == 2, q.2.2.2.2.1) := by
  unfold wq_en at he
  obtain ⟨q, h1, h2⟩ := Option.map_eq_some_iff.mp he
  exact ⟨q, h1, h2.symm⟩
/-- a method's end -/
theorem wp_end {kt : Nat → Option mc_E} {d k pc : Nat} {L : List (Nat × Value)} {st : List Value} {T : wq_T} {H : wq_H} {Q : Option Value → wq_T → wq_H → Prop} {E : wq_E} {x : Instr} {n : Nat} {r : Option Value} (he : wq_en k = some E) (hd : mc_cd k pc = some (x, n)) (h : ∀ M : mc_M, mc_step kt (mc_call kt 0 d) E.1 E.2.1 E.2.2.1 E.2.2.2 x n (pc, L, st, M) = some (.inr (r, M))) (hQ : Q r T H) : wp kt d k pc L st T H Q := fun M hM => by
  obtain ⟨q, hq, rfl⟩ := wq_en_mt he
  refine ⟨0, 1, (r, M), T, H, ?_, hM, hQ⟩
  have hd' := mc_cd_ok hq hd
  unfold wq_lp
  rw [hq]
  dsimp only
  unfold mc_loop
  dsimp only
  rw [hd']
  dsimp only
  rw [h M]
end
section
theorem wq_lt {x y : Int} (hx : wI x) (hy : wI y) : (Int32.ofInt x < Int32.ofInt y) ↔ x < y := by rw [Int32.lt_iff_toInt_lt, wI_t hx, wI_t hy]
theorem wq_le {x y : Int} (hx : wI x) (hy : wI y) : (Int32.ofInt x ≤ Int32.ofInt y) ↔ x ≤ y := by rw [Int32.le_iff_toInt_le, wI_t hx, wI_t hy]
theorem wq_eq {x y : Int} (hx : wI x) (hy : wI y) : (Int32.ofInt x = Int32.ofInt y) ↔ x = y := by rw [← Int32.toInt_inj, wI_t hx, wI_t hy]
theorem wq_ix {z : Int} {n : Nat} (h0 : 0 ≤ z) (h1 : z < n) (hn : n ≤ 2147483648) : mc_in (Int32.ofInt z) n = true ∧ (Int32.ofInt z).toNatClampNeg = z.toNat := by
  have hw : wI z := ⟨by omega, by omega⟩
  have e : (Int32.ofInt z).toNatClampNeg = z.toNat := by
    show (Int32.ofInt z).toInt.toNat = z.toNat
    rw [wI_t hw]
  refine ⟨?_, e⟩
  unfold mc_in
  rw [decide_eq_true_eq, e]
  intro h
  rcases h with h | h
  · have := (wq_lt hw (y := 0) ⟨by omega, by omega⟩).mp h
    omega
  · omega
section WQR

variable {kt : Nat → Option mc_E} {d : Nat} {E : wq_E} {pc pc' : Nat} {L L' : List (Nat × Value)} {st : List Value} {T : wq_T} {H : wq_H} {K : Nat → List (Nat × Value) → List Value → wq_T → wq_H → Prop}
theorem wq_go {x : Instr} {n : Nat} {st' : List Value} (hs : ∀ M : mc_M, mc_step kt (mc_call kt 0 d) E.1 E.2.1 E.2.2.1 E.2.2.2 x n (pc, L, st, M) = some (.inl (pc', L', st', M))) (h : K pc' L' st' T H) : wq_s kt d E x n pc L st T H K := fun M hM => ⟨0, pc', L', st', M, T, H, hs M, hM, h⟩
theorem rw_iconst {i : Int} (hp : pc + 1 = pc') (h : K pc' L (vI i :: st) T H) : wq_s kt d E (.iconst i) 1 pc L (st) T H K := by
  subst hp
  refine wq_go (fun M => ?_) h
  rfl
theorem rw_iload_n {i : Fin 4} {z : Int} (hp : pc + 1 = pc') (hv : mc_find L (i : Nat) = some (vI z)) (h : K pc' L (vI z :: st) T H) : wq_s kt d E (.iload_n i) 1 pc L (st) T H K := by
  subst hp
  refine wq_go (fun M => ?_) h
  show mc_n (1 == 1) (mc_ld mc_isI (i : Nat) 1 pc L st M) = _
  unfold mc_ld
  rw [hv]
  rfl
theorem rw_aload_n {i : Fin 4} {v : Value} (hp : pc + 1 = pc') (hv : mc_find L (i : Nat) = some v) (ha : mc_isA v = true) (h : K pc' L (v :: st) T H) : wq_s kt d E (.aload_n i) 1 pc L (st) T H K := by
  subst hp
  refine wq_go (fun M => ?_) h
  show mc_n (1 == 1) (mc_ld mc_isA (i : Nat) 1 pc L st M) = _
  unfold mc_ld
  rw [hv]
  dsimp only
  rw [ha]
  rfl
theorem rw_istore_n {i : Fin 4} {z : Int} (hp : pc + 1 = pc') (hi : decide ((i : Nat) < E.2.1) = true) (hL : mc_s1 L (i : Nat) (vI z) = L') (h : K pc' L' (st) T H) : wq_s kt d E (.istore_n i) 1 pc L (vI z :: st) T H K := by
  subst hp
  refine wq_go (fun M => ?_) h
  subst hL
  show mc_n (1 == 1) (mc_n (mc_isI (vI z) && decide ((i : Nat) < E.2.1)) (mc_go (pc + 1) (mc_s1 L (i : Nat) (vI z)) st M)) = _
  rw [hi]
  rfl
theorem rw_iinc {i : Nat} {k z : Int} (hp : pc + 3 = pc') (hv : mc_find L i = some (vI z)) (hi : decide (i < E.2.1) = true) (hL : mc_s1 L i (vI (z + k)) = L') (h : K pc' L' (st) T H) : wq_s kt d E (.iinc i k) 3 pc L (st) T H K := by
  subst hp
  refine wq_go (fun M => ?_) h
  subst hL
  show mc_n (3 == 3) (mc_inc E.2.1 i k pc L st M) = _
  unfold mc_inc
  rw [hv]
  show mc_n (3 == 3) (mc_n (decide (i < E.2.1)) (mc_go (pc + 3) (mc_s1 L i (.int (Int32.ofInt z + Int32.ofInt k))) st M)) = _
  rw [hi, ← Int32.ofInt_add]
  rfl
theorem rw_i2l {x : Int} (hp : pc + 1 = pc') (hx : wI x) (h : K pc' L (vL x :: st) T H) : wq_s kt d E (.i2l) 1 pc L (vI x :: st) T H K := by
  subst hp
  refine wq_go (fun M => ?_) h
  show (some (Sum.inl (pc + 1, L, .long (Int32.ofInt x).toInt64 :: st, M)) : mc_O) = _
  have e : (Int32.ofInt x).toInt64 = Int64.ofInt x := by
    rw [← Int64.toInt_inj, Int32.toInt_toInt64, wI_t hx, wL_t ⟨by have := hx.1; omega, by have := hx.2; omega⟩]
  rw [e]
  rfl
theorem wq_br {x : Instr} {n : Nat} {st' : List Value} {b : Bool} {off : Int} {p1 p2 : Nat} (h1 : (pc : Int) + off = (p1 : Int)) (h2 : pc + 3 = p2) (hs : ∀ M : mc_M, mc_step kt (mc_call kt 0 d) E.1 E.2.1 E.2.2.1 E.2.2.2 x n (pc, L, st, M) = mc_br b pc off L st' M) (ht : b = true → K p1 L st' T H) (hf : b = false → K p2 L st' T H) : wq_s kt d E x n pc L st T H K := by
  subst h2
  cases b with
  | true =>
    refine wq_go (fun M => ?_) (ht rfl)
    rw [hs]
    unfold mc_br
    rw [if_pos (by omega), h1]
    rfl
  | false =>
    refine wq_go (fun M => ?_) (hf rfl)
    rw [hs]
    unfold mc_br
    rw [if_pos (by omega)]
    rfl
theorem rw_if_eq {x off : Int} {p1 p2 : Nat} (h1 : (pc : Int) + off = (p1 : Int)) (h2 : pc + 3 = p2) (hx : wI x) (ht : x = 0 → K p1 L st T H) (hf : x ≠ 0 → K p2 L st T H) : wq_s kt d E (.ifCond .eq off) 3 pc L (vI x :: st) T H K := by
  have hy : wI 0 := ⟨by omega, by omega⟩
  have e := wq_eq (y := 0) hx hy
  refine wq_br (b := decide (Int32.ofInt x = (0 : Int32))) h1 h2 (fun M => rfl) (fun q => ht (e.mp (of_decide_eq_true q))) (fun q => hf ?_)
  have q1 : ¬ (x = 0) := fun z => of_decide_eq_false q (e.mpr z)
  omega
theorem rw_icmp_ne {x y off : Int} {p1 p2 : Nat} (h1 : (pc : Int) + off = (p1 : Int)) (h2 : pc + 3 = p2) (hx : wI x) (hy : wI y) (ht : x ≠ y → K p1 L st T H) (hf : x = y → K p2 L st T H) : wq_s kt d E (.if_icmp .ne off) 3 pc L (vI y :: vI x :: st) T H K := by
  have e := not_congr (wq_eq hx hy)
  refine wq_br (b := decide (¬ Int32.ofInt x = Int32.ofInt y)) h1 h2 (fun M => rfl) (fun q => ht (e.mp (of_decide_eq_true q))) (fun q => hf ?_)
  have q1 : ¬ (x ≠ y) := fun z => of_decide_eq_false q (e.mpr z)
  omega
theorem rw_icmp_ge {x y off : Int} {p1 p2 : Nat} (h1 : (pc : Int) + off = (p1 : Int)) (h2 : pc + 3 = p2) (hx : wI x) (hy : wI y) (ht : y ≤ x → K p1 L st T H) (hf : x < y → K p2 L st T H) : wq_s kt d E (.if_icmp .ge off) 3 pc L (vI y :: vI x :: st) T H K := by
  have e := wq_le hy hx
  refine wq_br (b := decide (Int32.ofInt y ≤ Int32.ofInt x)) h1 h2 (fun M => rfl) (fun q => ht (e.mp (of_decide_eq_true q))) (fun q => hf ?_)
  have q1 : ¬ (y ≤ x) := fun z => of_decide_eq_false q (e.mpr z)
  omega
theorem rw_goto {off : Int} {p1 : Nat} (h1 : (pc : Int) + off = (p1 : Int)) (h : K p1 L st T H) : wq_s kt d E (.goto off) 3 pc L st T H K := by
  refine wq_go (fun M => ?_) h
  show mc_n (3 == 3) (mc_jp pc off L st M) = _
  unfold mc_jp
  rw [if_pos (by omega), h1]
  rfl
theorem wq_getf {idx c j n : Nat} {e : Nat × Nat × Bool × String × Nat × Nat} {a : Nat} {v : Value} (he : mc_find (mc_fl.getD E.1 []) idx = some e) (hj : e.1 = c ∧ e.2.1 = j) (hs : T.1 a = some (100 + c, n)) (hc : (decide (a < 256) == decide (20 ≤ c)) = true ∧ (decide (a < 256) || decide (j < mc_N.getD c 0)) = true ∧ j < n) (hv : wq_v (wq_fk c j) (H a j) = v) (hp : pc + 3 = pc') (h : wq_in (wq_fk c j) (H a j) → K pc' L (v :: st) T H) : wq_s kt d E (.getfield idx) 3 pc L (.ref a :: st) T H K := fun M hM => by
  obtain ⟨rfl, rfl⟩ := hj
  obtain ⟨fs, h1, h2, h3⟩ := hM.obj hs
  have hlt : e.2.1 < fs.length := by rw [h2]; exact hc.2.2
  obtain ⟨h4, h5⟩ := h3 e.2.1 _ (List.getElem?_eq_getElem hlt)
  subst hp
  refine ⟨0, pc + 3, L, v :: st, M, T, H, ?_, hM, h h5⟩
  show mc_n (3 == 3) (mc_getf kt E.1 idx pc L (.ref a :: st) M) = _
  unfold mc_getf
  dsimp only
  rw [he]
  dsimp only
  rw [h1]
  dsimp only
  rw [List.getElem?_eq_getElem hlt]
  dsimp only
  rw [hc.1, hc.2.1, h4, hv]
  simp [mc_n, mc_go]
theorem rw_getI {idx c j n : Nat} {e : Nat × Nat × Bool × String × Nat × Nat} {a : Nat} (he : mc_find (mc_fl.getD E.1 []) idx = some e) (hj : e.1 = c ∧ e.2.1 = j) (hs : T.1 a = some (100 + c, n)) (hc : (decide (a < 256) == decide (20 ≤ c)) = true ∧ (decide (a < 256) || decide (j < mc_N.getD c 0)) = true ∧ j < n) (hk : wq_v (wq_fk c j) (H a j) = vI (H a j)) (hp : pc + 3 = pc') (h : K pc' L (vI (H a j) :: st) T H) : wq_s kt d E (.getfield idx) 3 pc L (.ref a :: st) T H K := wq_getf he hj hs hc hk hp (fun _ => h)
theorem rw_getR {idx c j n : Nat} {e : Nat × Nat × Bool × String × Nat × Nat} {a b : Nat} (he : mc_find (mc_fl.getD E.1 []) idx = some e) (hj : e.1 = c ∧ e.2.1 = j) (hs : T.1 a = some (100 + c, n)) (hc : (decide (a < 256) == decide (20 ≤ c)) = true ∧ (decide (a < 256) || decide (j < mc_N.getD c 0)) = true ∧ j < n) (hk : wq_v (wq_fk c j) (H a j) = vR (H a j)) (hb : H a j = (b : Int)) (hp : pc + 3 = pc') (h : K pc' L (.ref b :: st) T H) : wq_s kt d E (.getfield idx) 3 pc L (.ref a :: st) T H K := wq_getf he hj hs hc (by rw [hk, hb, vR_of]) hp (fun _ => h)
theorem wq_ald {a : Nat} {z : Int} {x : Instr} {ok : Nat → Bool} (hx : ∀ M : mc_M, mc_step kt (mc_call kt 0 d) E.1 E.2.1 E.2.2.1 E.2.2.2 x 1 (pc, L, vI z :: .ref a :: st, M) = mc_ald kt ok pc L (vI z :: .ref a :: st) M) {t n : Nat} {v : Value} (hs : T.1 a = some (t, n)) (ht : t < 100 ∧ ok t = true ∧ (decide (a < 256) || decide (t < 7)) = true ∧ n ≤ 2147483648) (h0 : 0 ≤ z) (h1 : z < n) (hv : wq_v (wq_ak t) (H a z.toNat) = v) (hp : pc + 1 = pc') (h : wq_in (wq_ak t) (H a z.toNat) → K pc' L (v :: st) T H) : wq_s kt d E x 1 pc L (vI z :: .ref a :: st) T H K := fun M hM => by
  obtain ⟨f, h2, h3⟩ := hM.arr ht.1 hs
  obtain ⟨h4, h5⟩ := wq_ix h0 h1 ht.2.2.2
  obtain ⟨h6, h7⟩ := h3 z.toNat (by omega)
  subst hp
  refine ⟨0, pc + 1, L, v :: st, M, T, H, ?_, hM, h h7⟩
  rw [hx]
  unfold mc_ald vI
  dsimp only
  rw [h2]
  dsimp only
  rw [h4, ht.2.1, ht.2.2.1, h5, h6, hv]
  rfl
theorem rw_aaload {a t n b : Nat} {z : Int} (hs : T.1 a = some (t, n)) (ht : t < 100 ∧ decide (4 ≤ t) = true ∧ (decide (a < 256) || decide (t < 7)) = true ∧ n ≤ 2147483648) (h0 : 0 ≤ z) (h1 : z < n) (hk : wq_v (wq_ak t) (H a z.toNat) = vR (H a z.toNat)) (hb : H a z.toNat = (b : Int)) (hp : pc + 1 = pc') (h : K pc' L (.ref b :: st) T H) : wq_s kt d E .aaload 1 pc L (vI z :: .ref a :: st) T H K := wq_ald (ok := fun t => decide (4 ≤ t)) (fun M => rfl) hs ht h0 h1 (by rw [hk, hb, vR_of]) hp (fun _ => h)
theorem wq_ast {x : Instr} {a t n : Nat} {z y : Int} {v : Value} {ok : Nat → Value → Bool} {w : Nat → Value → Value} (hx : ∀ M : mc_M, mc_step kt (mc_call kt 0 d) E.1 E.2.1 E.2.2.1 E.2.2.2 x 1 (pc, L, v :: vI z :: .ref a :: st, M) = mc_ast kt ok w pc L (v :: vI z :: .ref a :: st) M) (hs : T.1 a = some (t, n)) (ha : 256 ≤ a) (ht : t < 100 ∧ n ≤ 2147483648) (hok : ok t v = true) (hw : w t v = wq_v (wq_ak t) y) (hy : wq_in (wq_ak t) y) (h0 : 0 ≤ z) (h1 : z < n) (hp : pc + 1 = pc') (h : K pc' L st T (wq_u H a z.toNat y)) : wq_s kt d E x 1 pc L (v :: vI z :: .ref a :: st) T H K := fun M hM => by
  obtain ⟨f, h2, h3⟩ := hM.arr ht.1 hs
  rw [mc_ce_hi ha] at h2
  obtain ⟨h4, h5⟩ := wq_ix h0 h1 ht.2
  subst hp
  refine ⟨0, pc + 1, L, st, _, T, wq_u H a z.toNat y, ?_, hM.puta ha h2 hy, h⟩
  rw [hx]
  unfold mc_ast vI
  dsimp only
  rw [h2]
  dsimp only
  rw [h4, hok, decide_eq_true ha, h5, hw]
  rfl
theorem rw_lastore {a n : Nat} {z y : Int} (hs : T.1 a = some (1, n)) (ha : 256 ≤ a) (hn : n ≤ 2147483648) (hy : wL y) (h0 : 0 ≤ z) (h1 : z < n) (hp : pc + 1 = pc') (h : K pc' L st T (wq_u H a z.toNat y)) : wq_s kt d E .lastore 1 pc L (vL y :: vI z :: .ref a :: st) T H K := wq_ast (ok := fun t v => t == 1 && mc_isL v) (w := fun _ v => v) (fun M => rfl) hs ha ⟨by decide, hn⟩ rfl rfl hy h0 h1 hp h
/-- a call's link: the method, its parameters, its sort -/
def wq_ml (own idx : Nat) : Option (Nat × Nat × Nat × Nat) := match mc_find (mc_ml.getD own []) idx with
  | some e => match mc_mt e.1 with
    | some q => some (e.1, q.2.2.2.2.2.1, q.2.2.2.2.2.2, q.1)
    | none => none
  | none => none
theorem wq_ml_of {own idx k2 np sort c : Nat} (h : wq_ml own idx = some (k2, np, sort, c)) : ∃ e q, mc_find (mc_ml.getD own []) idx = some e ∧ mc_mt e.1 = some q ∧ e.1 = k2 ∧ q.2.2.2.2.2.1 = np ∧ q.2.2.2.2.2.2 = sort ∧ q.1 = c := by
  unfold wq_ml at h
  split at h
  · next e he =>
    split at h
    · next q hq =>
      cases h
      exact ⟨e, q, he, hq, rfl, rfl, rfl, rfl⟩
    · cases h
  · cases h
end WQR

section WQE

variable {kt : Nat → Option mc_E} {d k pc : Nat} {L : List (Nat × Value)} {T : wq_T} {H : wq_H} {Q : Option Value → wq_T → wq_H → Prop} {E : wq_E}
theorem wp_ireturn {z : Int} (he : wq_en k = some E) (hd : mc_cd k pc = some (.ireturn, 1)) (hr : E.2.2.2 = some .int) (hQ : Q (some (vI z)) T H) : wp kt d k pc L [vI z] T H Q := wp_end he hd (fun M => by rw [hr]; rfl) hQ
end WQE
end
section
/-! MORE LOCALS CHANGE NO RUN (own work, wip/gen2/loc.py) -/
def wl_le (L L' : List (Nat × Value)) : Prop := (∀ q ∈ L, q ∈ L') ∧ (L'.map Prod.fst).Nodup
theorem mc_find_nd : ∀ {L : List (Nat × Value)} {i : Nat} {v : Value}, (L.map Prod.fst).Nodup → (i, v) ∈ L → mc_find L i = some v
  | [], _, _, _, h => absurd h List.not_mem_nil
  | q :: r, i, v, hn, h => by
    rw [List.map_cons, List.nodup_cons] at hn
    unfold mc_find
    rcases List.mem_cons.mp h with h | h
    · subst h
      rw [if_pos rfl]
    · split
      · next e =>
        exact absurd (List.mem_map.mpr ⟨(i, v), h, e.symm⟩) hn.1
      · exact mc_find_nd hn.2 h
theorem wl_le.find {L L' : List (Nat × Value)} (h : wl_le L L') {i : Nat} {v : Value} (hf : mc_find L i = some v) : mc_find L' i = some v := mc_find_nd h.2 (h.1 _ (mc_find_mem hf))
section WLC

variable {kt : Nat → Option mc_E} {own nL : Nat} {ini : Bool} {ret : Option FieldType} {cc : ByteArray} {call : Nat → List Value → mc_M → Option mc_R}
variable {pc : Nat} {L L' : List (Nat × Value)} {st : List Value} {M : mc_M} {off : Int}
end WLC
end
section
/-! TAGS (own work, wip/gen2/tags.py): what each kind of cell is, and between which bounds its slots lie -/
def wshl : List (Nat × Nat) := [(0, 0), (100, 13), (2, 900), (101, 5), (102, 7), (2, 0), (103, 6), (0, 6), (1, 7), (1, 7), (0, 7), (0, 7), (104, 10), (1, 313), (5, 6), (0, 40), (6, 6), (1, 40), (0, 24), (0, 24), (105, 5), (0, 400), (0, 400), (0, 400), (0, 1024), (106, 3), (1, 5000), (107, 19), (4, 6), (0, 24), (0, 24), (0, 3), (0, 4), (0, 4), (0, 6), (108, 18), (0, 40), (0, 40), (0, 40), (0, 40), (1, 40), (1, 40), (109, 33), (2, 900), (0, 24), (0, 6), (0, 240), (0, 240), (0, 240), (0, 240), (0, 6), (0, 6), (0, 20000), (0, 6), (110, 27), (1, 6), (0, 6), (0, 6), (0, 6), (0, 6), (0, 6), (0, 6), (0, 6), (3, 6), (0, 3), (0, 3), (0, 3), (0, 24), (0, 4), (0, 4), (0, 4), (0, 6), (0, 6), (1, 1)]
def wtyl : List (Nat → Nat × Int × Int × Nat) := [fun _ => (0, 0, 0, 0), fun j => [(2, 0, 0, 2), (2, 0, 0, 3), (2, 0, 0, 6), (2, 0, 0, 12), (2, 0, 0, 20), (2, 0, 0, 25), (2, 0, 0, 27), (2, 0, 0, 27), (0, 0, 1, 0), (0, 0, 900, 0), (0, -2147483648, 2147483647, 0), (0, -2147483648, 2147483647, 0), (0, -2147483648, 2147483647, 0)].getD j (0, 0, 0, 0),
  fun _ => (0, -128, 127, 0),
  fun j => [(2, 0, 0, 4), (0, -1, 24, 0), (0, -1, 24, 0), (0, -2147483648, 2147483647, 0), (0, -2147483648, 2147483647, 0)].getD j (0, 0, 0, 0),
  fun j => [(4, 5, 0, 2), (0, 0, 900, 0), (0, 0, 900, 0), (0, 0, 5, 0), (0, 0, 900, 0), (0, -2147483648, 2147483647, 0), (0, -9223372036854775808, 9223372036854775807, 0)].getD j (0, 0, 0, 0),
  fun _ => (0, -128, 127, 0),
  fun j => [(2, 0, 0, 7), (2, 0, 0, 8), (2, 0, 0, 9), (2, 0, 0, 10), (2, 0, 0, 11), (0, 0, 6, 0)].getD j (0, 0, 0, 0),
  fun _ => (0, 0, 39, 0),
  fun _ => (0, -9223372036854775808, 9223372036854775807, 0),
  fun _ => (0, -9223372036854775808, 9223372036854775807, 0),
  fun _ => (0, -2147483648, 2147483647, 0),
  fun _ => (0, -2147483648, 2147483647, 0),
  fun j => [(2, 0, 0, 13), (2, 0, 0, 14), (2, 0, 0, 16), (2, 0, 0, 18), (2, 0, 0, 19), (0, -2147483648, 2147483647, 0), (0, -9223372036854775808, 9223372036854775807, 0), (0, 0, 19999, 0), (0, -9223372036854775808, 9223372036854775807, 0), (0, 0, 1, 0)].getD j (0, 0, 0, 0),
  fun _ => (0, -9223372036854775808, 9223372036854775807, 0),
  fun _ => (2, 0, 0, 15),
  fun _ => (0, -2147483648, 2147483647, 0),
  fun _ => (2, 0, 0, 17),
  fun _ => (0, -9223372036854775808, 9223372036854775807, 0),
  fun _ => (0, -2147483648, 2147483647, 0),
  fun _ => (0, -2147483648, 2147483647, 0),
  fun j => [(2, 0, 0, 21), (2, 0, 0, 22), (2, 0, 0, 23), (2, 0, 0, 24), (0, 0, 400, 0)].getD j (0, 0, 0, 0),
  fun _ => (0, 0, 19999, 0),
  fun _ => (0, -2147483648, 2147483647, 0),
  fun _ => (0, -2147483648, 2147483647, 0),
  fun _ => (0, -1, 399, 0),
  fun j => [(2, 0, 0, 26), (0, 0, 5000, 0), (0, 0, 4999, 0)].getD j (0, 0, 0, 0),
  fun _ => (0, -9223372036854775808, 9223372036854775807, 0),
  fun j => [(2, 0, 0, 28), (2, 0, 0, 29), (2, 0, 0, 30), (2, 0, 0, 31), (2, 0, 0, 32), (2, 0, 0, 33), (2, 0, 0, 34), (0, 0, 24, 0), (0, -2147483648, 2147483647, 0), (0, -2147483648, 2147483647, 0), (0, 0, 6, 0), (0, -2147483648, 2147483647, 0), (0, 0, 3, 0), (0, 0, 4, 0), (0, 0, 6, 0), (0, -2147483648, 2147483647, 0), (0, 0, 24, 0), (0, 0, 2147483647, 0), (0, -9223372036854775808, 9223372036854775807, 0)].getD j (0, 0, 0, 0),
  fun _ => (2, 0, 0, 35),
  fun _ => (0, -2147483648, 2147483647, 0),
  fun _ => (0, 0, 23, 0),
  fun _ => (0, -2147483648, 2147483647, 0),
  fun _ => (0, 0, 5, 0),
  fun _ => (0, -2147483648, 2147483647, 0),
  fun _ => (0, -2147483648, 2147483647, 0),
  fun j => [(2, 0, 0, 36), (2, 0, 0, 37), (2, 0, 0, 38), (2, 0, 0, 39), (2, 0, 0, 40), (2, 0, 0, 41), (0, -9223372036854775808, 9223372036854775807, 0), (0, -1, 24, 0), (0, -1, 24, 0), (0, -1, 24, 0), (0, -1, 24, 0), (0, -1, 23, 0), (0, -2147483648, 2147483647, 0), (0, 0, 1, 0), (0, -2147483648, 2147483647, 0), (0, 0, 40, 0), (0, 0, 39, 0), (0, -2147483648, 2147483647, 0)].getD j (0, 0, 0, 0),
  fun _ => (0, -1, 24, 0),
  fun _ => (0, -1, 24, 0),
  fun _ => (0, -2147483648, 2147483647, 0),
  fun _ => (0, -2147483648, 2147483647, 0),
  fun _ => (0, -9223372036854775808, 9223372036854775807, 0),
  fun _ => (0, -9223372036854775808, 9223372036854775807, 0),
  fun j => [(0, -2147483648, 2147483647, 0), (0, -2147483648, 2147483647, 0), (0, -2147483648, 2147483647, 0), (3, 0, 0, 54), (3, 0, 0, 54), (2, 0, 0, 43), (0, 0, 900, 0), (0, 0, 900, 0), (0, 0, 900, 0), (0, 0, 5, 0), (0, -2147483648, 2147483647, 0), (0, -2147483648, 2147483647, 0), (0, -2147483648, 2147483647, 0), (0, -2147483648, 2147483647, 0), (0, -2147483648, 2147483647, 0), (0, -9223372036854775808, 9223372036854775807, 0), (0, 0, 24, 0), (0, -2147483648, 2147483647, 0), (0, -2147483648, 2147483647, 0), (0, -2147483648, 2147483647, 0), (2, 0, 0, 44), (2, 0, 0, 45), (2, 0, 0, 46), (2, 0, 0, 47), (2, 0, 0, 48), (2, 0, 0, 49), (2, 0, 0, 50), (2, 0, 0, 51), (0, 0, 1, 0), (0, 0, 20000, 0), (2, 0, 0, 52), (2, 0, 0, 53), (0, 0, 2147483647, 0)].getD j (0, 0, 0, 0),
  fun _ => (0, -128, 127, 0),
  fun _ => (0, -2147483648, 2147483647, 0),
  fun _ => (0, 0, 40, 0),
  fun _ => (0, 0, 30, 0),
  fun _ => (0, 0, 16, 0),
  fun _ => (0, -2147483648, 2147483647, 0),
  fun _ => (0, -2147483648, 2147483647, 0),
  fun _ => (0, 0, 39, 0),
  fun _ => (0, 0, 39, 0),
  fun _ => (0, 0, 19999, 0),
  fun _ => (0, 0, 39, 0),
  fun j => [(0, 0, 24, 0), (0, -2147483648, 2147483647, 0), (0, -2147483648, 2147483647, 0), (0, 0, 6, 0), (0, 0, 3, 0), (0, 0, 3, 0), (0, 0, 4, 0), (0, 0, 6, 0), (0, -2147483648, 2147483647, 0), (2, 0, 0, 55), (2, 0, 0, 56), (2, 0, 0, 57), (2, 0, 0, 58), (2, 0, 0, 59), (2, 0, 0, 60), (2, 0, 0, 61), (2, 0, 0, 62), (2, 0, 0, 63), (2, 0, 0, 64), (2, 0, 0, 65), (2, 0, 0, 66), (2, 0, 0, 67), (2, 0, 0, 68), (2, 0, 0, 69), (2, 0, 0, 70), (2, 0, 0, 71), (2, 0, 0, 72)].getD j (0, 0, 0, 0),
  fun _ => (0, -9223372036854775808, 9223372036854775807, 0),
  fun _ => (0, 0, 23, 0),
  fun _ => (0, 0, 30, 0),
  fun _ => (0, 0, 12, 0),
  fun _ => (0, 0, 16, 0),
  fun _ => (0, -1, 23, 0),
  fun _ => (0, -2147483648, 2147483647, 0),
  fun _ => (0, -2147483648, 2147483647, 0),
  fun _ => (0, 0, 1, 0),
  fun _ => (0, 0, 5, 0),
  fun _ => (0, 0, 5, 0),
  fun _ => (0, -2147483648, 2147483647, 0),
  fun _ => (0, -2147483648, 2147483647, 0),
  fun _ => (0, 0, 5, 0),
  fun _ => (0, -2147483648, 2147483647, 0),
  fun _ => (0, -2147483648, 2147483647, 0),
  fun _ => (0, 0, 5, 0),
  fun _ => (0, -2147483648, 2147483647, 0),
  fun _ => (0, -9223372036854775808, 9223372036854775807, 0)]
def wroom (i : Nat) : Int := [1, 6, 1, 3, 3, 24, 4, 6, 0, 0, 0].getD i 0
def wswm (i : Nat) : Int := [1, 2, 3, 4, 5, 6, 7, 8, 0, 0, 0].getD i 0
/-- a tag's shape: below 80 cells that are made; 81 RESERVED, 82 the switch's map, from 84 on the enum's constants -/
def wsh (t : Nat) : Nat × Nat := if t < 80 then wshl.getD t (0, 0) else if t = 81 then (7, 11) else if t = 82 then (0, 11) else if 1000 ≤ t then (0, t - 1000) else if 200 ≤ t then wshl.getD (t - 200) (0, 0) else (120, 2)
/-- a slot's type: 0 between bounds; 2 a reference to a tag; 3 that or null; 4 to one of two tags; 5 whatever (200 more: cells that aren't looked at) -/
def wty (t j : Nat) : Nat × Int × Int × Nat := if t < 80 then (wtyl.getD t (fun _ => (0, 0, 0, 0))) j else if t = 81 then (0, 16 + j, 16 + j, 0) else if t = 82 then (0, wswm j, wswm j, 0) else if 1000 ≤ t then (0, -2147483648, 2147483647, 0) else if 200 ≤ t then (5, 0, 0, 0) else if j = 0 then (0, 32 + (t - 84), 32 + (t - 84), 0) else (0, wroom (t - 84), wroom (t - 84), 0)
/-- the script, of n ints -/
theorem wsh_s (n : Nat) : wsh (1000 + n) = (0, n) := by
  unfold wsh
  rw [if_neg (by omega), if_neg (by omega), if_neg (by omega), if_pos (by omega), Nat.add_sub_cancel_left]
theorem wty_s (n j : Nat) : wty (1000 + n) j = (0, -2147483648, 2147483647, 0) := by
  unfold wty
  rw [if_neg (by omega), if_neg (by omega), if_neg (by omega), if_pos (by omega)]
def wok (T : wq_T) (ty : Nat × Int × Int × Nat) (z : Int) : Prop := match ty.1 with
  | 0 => ty.2.1 ≤ z ∧ z ≤ ty.2.2.1
  | 2 => 0 ≤ z ∧ T.2.2.2 z.toNat = some ty.2.2.2
  | 3 => z = -1 ∨ (0 ≤ z ∧ T.2.2.2 z.toNat = some ty.2.2.2)
  | 5 => True
  | _ => 0 ≤ z ∧ (T.2.2.2 z.toNat = some ty.2.2.2 ∨ T.2.2.2 z.toNat = some ty.2.1.toNat)
/-- the constants have their tags -/
def wkt (T : wq_T) : Prop := T.2.2.2 1 = some 81 ∧ T.2.2.2 2 = some 82 ∧ ∀ i, i < 11 → T.2.2.2 (16 + i) = some (84 + i)
/-- every tagged cell has its shape and its slots their types -/
def WT (T : wq_T) (H : wq_H) : Prop := wkt T ∧ ∀ a t, T.2.2.2 a = some t → T.1 a = some (wsh t) ∧ (t < 80 → 256 ≤ a) ∧ ∀ j, j < (wsh t).2 → wok T (wty t j) (H a j)
section WTS

variable {T : wq_T} {H H' H0 : wq_H} {a t j : Nat} {z : Int}
theorem WT.sh (h : WT T H) (ht : T.2.2.2 a = some t) {s : Nat × Nat} (hs : wsh t = s) : T.1 a = some s := by rw [← hs]; exact (h.2 a t ht).1
theorem WT.hi (h : WT T H) (ht : T.2.2.2 a = some t) (h8 : t < 80) : 256 ≤ a := (h.2 a t ht).2.1 h8
theorem WT.box (h : WT T H) (ht : T.2.2.2 a = some t) {lo hi : Int} {n : Nat} (hn : (wsh t).2 = n) (hj : j < n) (hty : wty t j = (0, lo, hi, 0)) : lo ≤ H a j ∧ H a j ≤ hi := by
  have h1 := (h.2 a t ht).2.2 j (by rw [hn]; exact hj)
  rw [hty] at h1
  exact h1
theorem WT.ref (h : WT T H) (ht : T.2.2.2 a = some t) {t' n : Nat} {p q : Int} (hn : (wsh t).2 = n) (hj : j < n) (hty : wty t j = (2, p, q, t')) : ∃ b : Nat, H a j = (b : Int) ∧ T.2.2.2 b = some t' := by
  have h1 := (h.2 a t ht).2.2 j (by rw [hn]; exact hj)
  rw [hty] at h1
  obtain ⟨h2, h3⟩ := h1
  exact ⟨(H a j).toNat, by omega, h3⟩
theorem WT.opt (h : WT T H) (ht : T.2.2.2 a = some t) {t' n : Nat} {p q : Int} (hn : (wsh t).2 = n) (hj : j < n) (hty : wty t j = (3, p, q, t')) : H a j = -1 ∨ ∃ b : Nat, H a j = (b : Int) ∧ T.2.2.2 b = some t' := by
  have h1 := (h.2 a t ht).2.2 j (by rw [hn]; exact hj)
  rw [hty] at h1
  rcases h1 with h1 | ⟨h2, h3⟩
  · exact Or.inl h1
  · exact Or.inr ⟨(H a j).toNat, by omega, h3⟩
theorem WT.put (h : WT T H) (ht : T.2.2.2 a = some t) (hz : wok T (wty t j) z) : WT T (wq_u H a j z) := by
  refine ⟨h.1, fun b s hb => ⟨(h.2 b s hb).1, (h.2 b s hb).2.1, fun i hi => ?_⟩⟩
  by_cases hq : b = a ∧ i = j
  · obtain ⟨rfl, rfl⟩ := hq
    rw [ht] at hb
    cases hb
    rw [wq_u_eq]
    exact hz
  · rw [wq_u_ne hq]
    exact (h.2 b s hb).2.2 i hi
theorem WT.putB (h : WT T H) (ht : T.2.2.2 a = some t) {lo hi : Int} (hty : wty t j = (0, lo, hi, 0)) (h1 : lo ≤ z) (h2 : z ≤ hi) : WT T (wq_u H a j z) := h.put ht (by rw [hty]; exact ⟨h1, h2⟩)
/-- may slot j of a cell with tag t have changed -/
def wmem (l : List (Nat × Nat)) (t j : Nat) : Bool := l.any (fun q => q.1 == t && (q.2 == 999 || q.2 == j))
/-- nothing else has changed -/
def wfr (l : List (Nat × Nat)) (T : wq_T) (H H' : wq_H) : Prop := ∀ a j t, T.2.2.2 a = some t → wmem l t j = false → H' a j = H a j
theorem wfr.rf {l : List (Nat × Nat)} : wfr l T H H := fun _ _ _ _ _ => rfl
theorem wfr.put {l : List (Nat × Nat)} (h : wfr l T H0 H) (ht : T.2.2.2 a = some t) (hm : wmem l t j = true) : wfr l T H0 (wq_u H a j z) := fun b i s hb hs => by
  rw [wq_u_ne, h b i s hb hs]
  rintro ⟨rfl, rfl⟩
  rw [ht] at hb
  cases hb
  rw [hm] at hs
  cases hs
/-- every change of one list is one of another's -/
def wsub (l l' : List (Nat × Nat)) : Bool := l.all (fun q => l'.any (fun r => r.1 == q.1 && (r.2 == 999 || r.2 == q.2)))
theorem wsub_of {l l' : List (Nat × Nat)} (h : wsub l l' = true) {t j : Nat} (hm : wmem l' t j = false) : wmem l t j = false := by
  by_cases h1 : wmem l t j = true
  · unfold wmem at h1
    obtain ⟨q, hq, h2⟩ := List.any_eq_true.mp h1
    obtain ⟨r, hr, h3⟩ := List.any_eq_true.mp (List.all_eq_true.mp h q hq)
    have h4 : wmem l' t j = true := by
      unfold wmem
      refine List.any_eq_true.mpr ⟨r, hr, ?_⟩
      simp only [Bool.and_eq_true, Bool.or_eq_true, beq_iff_eq] at h2 h3 ⊢
      refine ⟨h3.1.trans h2.1, ?_⟩
      rcases h3.2 with h5 | h5
      · exact Or.inl h5
      · rcases h2.2 with h6 | h6
        · exact Or.inl (h5.trans h6)
        · exact Or.inr (h5.trans h6)
    rw [hm] at h4
    cases h4
  · simpa using h1
theorem wfr.tr {l l' : List (Nat × Nat)} (h : wfr l T H0 H) (h2 : wfr l' T H H') (hs : wsub l' l = true) : wfr l T H0 H' := fun b i s hb hm => by
  rw [h2 b i s hb (wsub_of hs hm)]
  exact h b i s hb hm
end WTS
/-! shorthands for the generator -/
theorem wq_hc {a c j n : Nat} (ha : 256 ≤ a) (h : (!decide (20 ≤ c) && decide (j < mc_N.getD c 0) && decide (j < n)) = true) : (decide (a < 256) == decide (20 ≤ c)) = true ∧ (decide (a < 256) || decide (j < mc_N.getD c 0)) = true ∧ j < n := by
  simp only [Bool.and_eq_true, Bool.not_eq_true', decide_eq_true_eq, decide_eq_false_iff_not] at h
  obtain ⟨⟨h1, h2⟩, h3⟩ := h
  refine ⟨?_, ?_, h3⟩
  · rw [decide_eq_false (by omega : ¬ a < 256), decide_eq_false h1]
    rfl
  · rw [decide_eq_true h2]
    simp
end
section
/-! what each pool entry names (own work, wip/gen2/links.py) -/
abbrev wlf (own idx c j : Nat) (b : Bool) : Prop := ∃ e, mc_find (mc_fl.getD own []) idx = some e ∧ (e.1 = c ∧ e.2.1 = j) ∧ e.2.2.1 = b
section XR

variable {kt : Nat → Option mc_E} {d : Nat} {E : wq_E} {pc pc' : Nat} {L L' : List (Nat × Value)} {st : List Value} {T : wq_T} {H H0 : wq_H} {K : Nat → List (Nat × Value) → List Value → wq_T → wq_H → Prop}

variable {idx c j n t t' a : Nat} {b : Bool} {lo hi p q z : Int}
theorem xg_I (hl : wlf E.1 idx c j b) (hW : WT T H) (g : T.2.2.2 a = some t) (hsh : wsh t = (100 + c, n)) (hc : (!decide (20 ≤ c) && decide (j < mc_N.getD c 0) && decide (j < n)) = true) (h8 : t < 80) (hty : wty t j = (0, lo, hi, 0)) (hk : wq_v (wq_fk c j) (H a j) = vI (H a j)) (hp : pc + 3 = pc') (h : lo ≤ H a j → H a j ≤ hi → K pc' L (vI (H a j) :: st) T H) : wq_s kt d E (.getfield idx) 3 pc L (.ref a :: st) T H K := by
  obtain ⟨e, he, hj, -⟩ := hl
  have hcc := wq_hc (hW.hi g h8) hc
  have hb := hW.box g (n := n) (by rw [hsh]) hcc.2.2 hty
  exact rw_getI he hj (hW.sh g hsh) hcc hk hp (h hb.1 hb.2)
theorem xg_R (hl : wlf E.1 idx c j b) (hW : WT T H) (g : T.2.2.2 a = some t) (hsh : wsh t = (100 + c, n)) (hc : (!decide (20 ≤ c) && decide (j < mc_N.getD c 0) && decide (j < n)) = true) (h8 : t < 80) (hty : wty t j = (2, p, q, t')) (hk : wq_v (wq_fk c j) (H a j) = vR (H a j)) (hp : pc + 3 = pc') (h : ∀ r : Nat, H a j = (r : Int) → T.2.2.2 r = some t' → K pc' L (.ref r :: st) T H) : wq_s kt d E (.getfield idx) 3 pc L (.ref a :: st) T H K := by
  obtain ⟨e, he, hj, -⟩ := hl
  have hcc := wq_hc (hW.hi g h8) hc
  obtain ⟨r, h1, h2⟩ := hW.ref g (n := n) (by rw [hsh]) hcc.2.2 hty
  exact rw_getR he hj (hW.sh g hsh) hcc hk h1 hp (h r h1 h2)
/-- a reference that is known -/
theorem xg_K {r : Nat} (hl : wlf E.1 idx c j b) (hW : WT T H) (g : T.2.2.2 a = some t) (hsh : wsh t = (100 + c, n)) (hc : (!decide (20 ≤ c) && decide (j < mc_N.getD c 0) && decide (j < n)) = true) (h8 : t < 80) (hk : wq_v (wq_fk c j) (H a j) = vR (H a j)) (hr : H a j = (r : Int)) (hp : pc + 3 = pc') (h : K pc' L (.ref r :: st) T H) : wq_s kt d E (.getfield idx) 3 pc L (.ref a :: st) T H K := by
  obtain ⟨e, he, hj, -⟩ := hl
  exact rw_getR he hj (hW.sh g hsh) (wq_hc (hW.hi g h8) hc) hk hr hp h
theorem wok_2 {r : Nat} (hty : wty t j = (2, p, q, t')) (g : T.2.2.2 r = some t') : wok T (wty t j) (r : Int) := by rw [hty]; exact ⟨by omega, by simpa using g⟩
theorem xa_R {so : Nat} (hso : so = 4 ∨ so = 5 ∨ so = 6) (hW : WT T H) (g : T.2.2.2 a = some t) (hsh : wsh t = (so, n)) (hn : n ≤ 2147483648) (hty : wty t z.toNat = (2, p, q, t')) (h0 : 0 ≤ z) (h1 : z < n) (hp : pc + 1 = pc') (h : ∀ r : Nat, H a z.toNat = (r : Int) → T.2.2.2 r = some t' → K pc' L (.ref r :: st) T H) : wq_s kt d E .aaload 1 pc L (vI z :: .ref a :: st) T H K := by
  obtain ⟨r, h2, h3⟩ := hW.ref g (n := n) (by rw [hsh]) (by omega) hty
  rcases hso with rfl | rfl | rfl
  · exact rw_aaload (hW.sh g hsh) ⟨by decide, rfl, Bool.or_true _, hn⟩ h0 h1 rfl h2 hp (h r h2 h3)
  · exact rw_aaload (hW.sh g hsh) ⟨by decide, rfl, Bool.or_true _, hn⟩ h0 h1 rfl h2 hp (h r h2 h3)
  · exact rw_aaload (hW.sh g hsh) ⟨by decide, rfl, Bool.or_true _, hn⟩ h0 h1 rfl h2 hp (h r h2 h3)
theorem xs_L {y : Int} (hW : WT T H) (g : T.2.2.2 a = some t) (h8 : t < 80) (hsh : wsh t = (1, n)) (hn : n ≤ 2147483648) (hty : wty t z.toNat = (0, lo, hi, 0)) (h2 : lo ≤ y) (h3 : y ≤ hi) (h4 : wL y) (h0 : 0 ≤ z) (h1 : z < n) (hp : pc + 1 = pc') (h : ∀ H', H' = wq_u H a z.toNat y → WT T H' → K pc' L st T H') : wq_s kt d E .lastore 1 pc L (vL y :: vI z :: .ref a :: st) T H K :=
  rw_lastore (hW.sh g hsh) (hW.hi g h8) hn h4 h0 h1 hp (h _ rfl (hW.putB g hty h2 h3))
theorem wfr.put' {l : List (Nat × Nat)} {H2 : wq_H} (h : wfr l T H0 H) (e : H2 = wq_u H a j z) (ht : T.2.2.2 a = some t) (hm : wmem l t j = true) : wfr l T H0 H2 := by rw [e]; exact h.put ht hm
end XR
theorem lf_0_317 : wlf 0 317 8 13 false := ⟨_, rfl, ⟨rfl, rfl⟩, rfl⟩
theorem lf_0_109 : wlf 0 109 7 0 false := ⟨_, rfl, ⟨rfl, rfl⟩, rfl⟩
theorem lf_0_96 : wlf 0 96 7 10 false := ⟨_, rfl, ⟨rfl, rfl⟩, rfl⟩
theorem lf_0_51 : wlf 0 51 0 6 false := ⟨_, rfl, ⟨rfl, rfl⟩, rfl⟩
theorem lm_11_7 : wq_ml 11 7 = some (166, 1, 1, 0) := by decide +kernel
theorem sh_1 : wsh 1 = (100 + 0, 13) := rfl
theorem ty_1_6 : wty 1 6 = (2, 0, 0, 27) := rfl
theorem sh_27 : wsh 27 = (100 + 7, 19) := rfl
theorem ty_27_0 : wty 27 0 = (2, 0, 0, 28) := rfl
theorem ty_27_10 : wty 27 10 = (0, 0, 6, 0) := rfl
theorem sh_28 : wsh 28 = (4, 6) := rfl
theorem ty_28 (j : Nat) : wty 28 j = (2, 0, 0, 35) := rfl
theorem sh_35 : wsh 35 = (100 + 8, 18) := rfl
theorem ty_35_13 : wty 35 13 = (0, 0, 1, 0) := rfl
theorem ty_54_0 : wty 54 0 = (0, 0, 24, 0) := rfl
theorem ty_54_1 : wty 54 1 = (0, -2147483648, 2147483647, 0) := rfl
theorem ty_54_2 : wty 54 2 = (0, -2147483648, 2147483647, 0) := rfl
theorem ty_54_3 : wty 54 3 = (0, 0, 6, 0) := rfl
theorem ty_54_4 : wty 54 4 = (0, 0, 3, 0) := rfl
theorem ty_54_5 : wty 54 5 = (0, 0, 3, 0) := rfl
theorem ty_54_6 : wty 54 6 = (0, 0, 4, 0) := rfl
theorem ty_54_7 : wty 54 7 = (0, 0, 6, 0) := rfl
theorem ty_54_8 : wty 54 8 = (0, -2147483648, 2147483647, 0) := rfl
theorem ty_54_9 : wty 54 9 = (2, 0, 0, 55) := rfl
theorem ty_54_10 : wty 54 10 = (2, 0, 0, 56) := rfl
theorem ty_54_11 : wty 54 11 = (2, 0, 0, 57) := rfl
theorem ty_54_12 : wty 54 12 = (2, 0, 0, 58) := rfl
theorem ty_54_13 : wty 54 13 = (2, 0, 0, 59) := rfl
theorem ty_54_14 : wty 54 14 = (2, 0, 0, 60) := rfl
theorem ty_54_15 : wty 54 15 = (2, 0, 0, 61) := rfl
theorem ty_54_16 : wty 54 16 = (2, 0, 0, 62) := rfl
theorem ty_54_17 : wty 54 17 = (2, 0, 0, 63) := rfl
theorem ty_54_18 : wty 54 18 = (2, 0, 0, 64) := rfl
theorem ty_54_19 : wty 54 19 = (2, 0, 0, 65) := rfl
theorem ty_54_20 : wty 54 20 = (2, 0, 0, 66) := rfl
theorem ty_54_21 : wty 54 21 = (2, 0, 0, 67) := rfl
theorem ty_54_22 : wty 54 22 = (2, 0, 0, 68) := rfl
theorem ty_54_23 : wty 54 23 = (2, 0, 0, 69) := rfl
theorem ty_54_24 : wty 54 24 = (2, 0, 0, 70) := rfl
theorem ty_54_25 : wty 54 25 = (2, 0, 0, 71) := rfl
theorem ty_54_26 : wty 54 26 = (2, 0, 0, 72) := rfl
theorem ty_55 (j : Nat) : wty 55 j = (0, -9223372036854775808, 9223372036854775807, 0) := rfl
theorem ty_56 (j : Nat) : wty 56 j = (0, 0, 23, 0) := rfl
theorem ty_57 (j : Nat) : wty 57 j = (0, 0, 30, 0) := rfl
theorem ty_58 (j : Nat) : wty 58 j = (0, 0, 12, 0) := rfl
theorem ty_59 (j : Nat) : wty 59 j = (0, 0, 16, 0) := rfl
theorem ty_60 (j : Nat) : wty 60 j = (0, -1, 23, 0) := rfl
theorem ty_61 (j : Nat) : wty 61 j = (0, -2147483648, 2147483647, 0) := rfl
theorem ty_62 (j : Nat) : wty 62 j = (0, -2147483648, 2147483647, 0) := rfl
theorem ty_63 (j : Nat) : wty 63 j = (0, 0, 1, 0) := rfl
theorem ty_64 (j : Nat) : wty 64 j = (0, 0, 5, 0) := rfl
theorem ty_65 (j : Nat) : wty 65 j = (0, 0, 5, 0) := rfl
theorem ty_66 (j : Nat) : wty 66 j = (0, -2147483648, 2147483647, 0) := rfl
theorem ty_67 (j : Nat) : wty 67 j = (0, -2147483648, 2147483647, 0) := rfl
theorem ty_68 (j : Nat) : wty 68 j = (0, 0, 5, 0) := rfl
theorem ty_69 (j : Nat) : wty 69 j = (0, -2147483648, 2147483647, 0) := rfl
theorem ty_70 (j : Nat) : wty 70 j = (0, -2147483648, 2147483647, 0) := rfl
theorem ty_71 (j : Nat) : wty 71 j = (0, 0, 5, 0) := rfl
theorem ty_72 (j : Nat) : wty 72 j = (0, -2147483648, 2147483647, 0) := rfl
end
section
/-! the reference's products and bounds (own work) -/
/-- a product of the first n -/
def wpr (f : Nat → Int) : Nat → Int
  | 0 => 1
  | n + 1 => wpr f n * f n
/-- how many LOTS: of the PARISH that the reference's object m has; 0 without one -/
def wLM (H : wq_H) (m : Nat) : Int := if H m 3 = -1 then 0 else wpr (H (H m 21).toNat) (H (H m 3).toNat 3).toNat
def wLMx (l : List (Nat × Nat)) : Bool := l.all (fun q => !(q.1 == 42 && (q.2 == 3 || q.2 == 21 || q.2 == 999)) && !(q.1 == 45) && !(q.1 == 54 && (q.2 == 3 || q.2 == 999)))
theorem wmem_no {l : List (Nat × Nat)} {t j : Nat} (h : ∀ q ∈ l, ¬ (q.1 = t ∧ (q.2 = 999 ∨ q.2 = j))) : wmem l t j = false := by
  by_cases h1 : wmem l t j = true
  · unfold wmem at h1
    obtain ⟨q, hq, h2⟩ := List.any_eq_true.mp h1
    simp only [Bool.and_eq_true, Bool.or_eq_true, beq_iff_eq] at h2
    exact absurd h2 (h q hq)
  · simpa using h1
section WMD

variable {T : wq_T} {H H' : wq_H} {m R : Nat} {l : List (Nat × Nat)}
theorem wfr.fn {a t : Nat} (f : wfr l T H H') (g : T.2.2.2 a = some t) (h : l.all (fun q => !(q.1 == t)) = true) : H' a = H a := by
  funext j
  refine f a j t g (wmem_no (fun q hq hh => ?_))
  have h1 := List.all_eq_true.mp h q hq
  simp [hh.1] at h1
theorem wLM_fr (hW : WT T H) (g : T.2.2.2 m = some 42) (f : wfr l T H H') (h : wLMx l = true) : wLM H' m = wLM H m := by
  have hl : ∀ q ∈ l, ¬ (q.1 = 42 ∧ (q.2 = 3 ∨ q.2 = 21 ∨ q.2 = 999)) ∧ ¬ q.1 = 45 ∧ ¬ (q.1 = 54 ∧ (q.2 = 3 ∨ q.2 = 999)) := by
    intro q hq
    have h1 := List.all_eq_true.mp h q hq
    simp only [Bool.and_eq_true, Bool.not_eq_true', Bool.and_eq_false_iff, Bool.or_eq_false_iff, beq_eq_false_iff_ne] at h1
    refine ⟨?_, ?_, ?_⟩
    · rintro ⟨h2, h3⟩
      rcases h1.1.1 with h4 | h4
      · exact h4 h2
      · rcases h3 with h3 | h3 | h3
        · exact h4.1.1 h3
        · exact h4.1.2 h3
        · exact h4.2 h3
    · exact h1.1.2
    · rintro ⟨h2, h3⟩
      rcases h1.2 with h4 | h4
      · exact h4 h2
      · rcases h3 with h3 | h3
        · exact h4.1 h3
        · exact h4.2 h3
  have e3 : H' m 3 = H m 3 := f m 3 42 g (wmem_no (fun q hq hh => (hl q hq).1 ⟨hh.1, by rcases hh.2 with h5 | h5 <;> omega⟩))
  have e21 : H' m 21 = H m 21 := f m 21 42 g (wmem_no (fun q hq hh => (hl q hq).1 ⟨hh.1, by rcases hh.2 with h5 | h5 <;> omega⟩))
  unfold wLM
  rw [e3, e21]
  split
  · rfl
  · next hn =>
    obtain ⟨sp, hs1, hs2⟩ := hW.ref g (t' := 45) (n := 33) (j := 21) (p := 0) (q := 0) rfl (by decide) rfl
    have e4 : H' sp = H sp := f.fn hs2 (List.all_eq_true.mpr (fun q hq => by
      have := (hl q hq).2.1
      simpa using this))
    rcases hW.opt g (t' := 54) (n := 33) (j := 3) (p := 0) (q := 0) rfl (by decide) rfl with h5 | ⟨pp, h5, h6⟩
    · exact absurd h5 hn
    · rw [hs1, h5, Int.toNat_natCast, Int.toNat_natCast, e4]
      rw [f pp 3 54 h6 (wmem_no (fun q hq hh => (hl q hq).2.2 ⟨hh.1, by rcases hh.2 with h7 | h7 <;> omega⟩))]
/-- beds and sleeps of the people are told between bounds that fit -/
def wPIp (f1 f2 f3 f4 : Nat → Int) : Prop := ∀ k, k < 6 → f2 k ≤ f1 k + 7 ∧ f4 k ≤ f3 k + 4
def wPIq (H : wq_H) (R : Nat) : Prop := wPIp (H (H R 10).toNat) (H (H R 11).toNat) (H (H R 12).toNat) (H (H R 13).toNat)
noncomputable def wPI (H : wq_H) (R : Nat) : Int := @ite Int (wPIq H R) (Classical.propDecidable _) 1 0
theorem wPI_1 : wPI H R = 1 ↔ ∀ k, k < 6 → H (H R 11).toNat k ≤ H (H R 10).toNat k + 7 ∧ H (H R 13).toNat k ≤ H (H R 12).toNat k + 4 := by
  by_cases h : wPIq H R
  · have e : wPI H R = 1 := by
      show @ite Int (wPIq H R) (Classical.propDecidable _) 1 0 = 1
      exact if_pos h
    exact ⟨fun _ => h, fun _ => e⟩
  · have e : wPI H R = 0 := by
      show @ite Int (wPIq H R) (Classical.propDecidable _) 1 0 = 0
      exact if_neg h
    exact ⟨fun q => by rw [e] at q; exact absurd q (by decide), fun q => absurd q h⟩
theorem wPI_of {b1 b2 b3 b4 : Nat} (h1 : H R 10 = (b1 : Int)) (h2 : H R 11 = (b2 : Int)) (h3 : H R 12 = (b3 : Int)) (h4 : H R 13 = (b4 : Int)) (h : ∀ k, k < 6 → H b2 k ≤ H b1 k + 7 ∧ H b4 k ≤ H b3 k + 4) : wPI H R = 1 := by
  refine wPI_1.mpr (fun k hk => ?_)
  rw [h1, h2, h3, h4, Int.toNat_natCast, Int.toNat_natCast, Int.toNat_natCast, Int.toNat_natCast]
  exact h k hk
end WMD
/-- WORLDS that are known stand on LOTS -/
def wKI (H : wq_H) (m : Nat) : Int := if H m 28 = 0 ∨ H m 29 = 0 ∨ 0 < wLM H m then 1 else 0
section WME

variable {T : wq_T} {H H' : wq_H} {m : Nat} {l : List (Nat × Nat)}
theorem wKI_1 : wKI H m = 1 ↔ (H m 28 = 0 ∨ H m 29 = 0 ∨ 0 < wLM H m) := by
  unfold wKI
  split
  · next h => exact ⟨fun _ => h, fun _ => rfl⟩
  · next h => exact ⟨fun q => absurd q (by decide), fun q => absurd q h⟩
theorem wKI_fr (hW : WT T H) (g : T.2.2.2 m = some 42) (f : wfr l T H H') (h : (wLMx l && !wmem l 42 28 && !wmem l 42 29) = true) : wKI H' m = wKI H m := by
  simp only [Bool.and_eq_true, Bool.not_eq_true'] at h
  unfold wKI
  rw [f m 28 42 g h.1.2, f m 29 42 g h.2, wLM_fr hW g f h.1.1]
end WME
end
section
/-! StrikeAwake.feed(IIIII)I -/
theorem e9 : wq_en 9 = some (0, 6, false, some FieldType.int) := rfl
/-! StrikeAwake.refuse(I)I -/
theorem e12 : wq_en 12 = some (0, 2, false, some FieldType.int) := rfl
/-! StrikeAwake$Parish.clear()V -/
theorem e14 : wq_en 14 = some (7, 2, false, none) := rfl
end
section
/-! StrikeAwake$Parish.linesOf(LStrikeAwake$Reserved;)I -/
theorem e21 : wq_en 21 = some (7, 2, false, some FieldType.int) := rfl
end
section

end
section
/-! methods (own work, written by wip/gen2/sx.py) -/
/-! StrikeAwake$Reader.reads([BILStrikeAwake$Parish;)Z -/
theorem e13 : wq_en 13 = some (1, 5, false, some FieldType.boolean) := rfl
end
section

end
section

end
section

end
section

end
section

end
section

end
section

end
section

end
section

end
section

end
section

end
section

end
section

end
section

end
section

end
section

end
section

end
section

end
section

end
section

end
section

end
section
/-! NEW CELLS: rows of new and newarray over pure memory; a PARISH of the reference that is made (own work) -/
def wq_gT (T : wq_T) (s : Nat × Nat) (n : Nat) : wq_T := ((fun a => if a = 256 + T.2.1 then some s else T.1 a), T.2.1 + 1, T.2.2.1 + n, T.2.2.2)
def wq_gH (H : wq_H) (a : Nat) (g : Nat → Int) : wq_H := fun b => if b = a then g else H b
theorem wq_gH_eq {H : wq_H} {a : Nat} {g : Nat → Int} : wq_gH H a g a = g := if_pos rfl
theorem wq_gH_ne {H : wq_H} {a b : Nat} {g : Nat → Int} (h : b ≠ a) : wq_gH H a g b = H b := if_neg h
theorem wq_R.fresh {kt : Nat → Option mc_E} {M : mc_M} {T : wq_T} {H : wq_H} (h : wq_R kt M T H) (a : Nat) (ha : 256 + T.2.1 ≤ a) : T.1 a = none := by
  refine h.2.2.2 a ?_
  have h1 := h.1
  rw [mc_ce_hi (by omega), List.getElem?_eq_none_iff]
  omega
theorem wq_R.grow {kt : Nat → Option mc_E} {M : mc_M} {T : wq_T} {H : wq_H} (h : wq_R kt M T H) {e : mc_E} {s : Nat × Nat} {g : Nat → Int} (hc : wq_c (some s) g e) : wq_R kt (M ++ [e]) (wq_gT T s (mc_es e)) (wq_gH H (256 + T.2.1) g) := by
  have h1 := h.1
  refine ⟨by show T.2.1 + 1 = _; rw [List.length_append, h1]; rfl, by show T.2.2.1 + _ = _; rw [mc_sz_app, mc_sz_one, h.2.1], fun a e' hb => ?_, fun b hb => ?_⟩
  · by_cases hba : a = 256 + T.2.1
    · subst hba
      rw [mc_ce_hi (by omega), h1, show 256 + M.length - 256 = M.length by omega, List.getElem?_append_right (Nat.le_refl _), Nat.sub_self] at hb
      cases hb
      rw [wq_gH_eq]
      show wq_c (if 256 + T.2.1 = 256 + T.2.1 then some s else _) g e
      rw [if_pos rfl]
      exact hc
    · rw [wq_gH_ne hba]
      show wq_c (if a = 256 + T.2.1 then some s else T.1 a) (H a) e'
      rw [if_neg hba]
      refine h.2.2.1 a e' ?_
      by_cases hb0 : a < 256
      · rw [mc_ce_lo hb0] at hb ⊢
        exact hb
      · rw [mc_ce_hi (by omega)] at hb ⊢
        by_cases hl : a - 256 < M.length
        · rw [List.getElem?_append_left hl] at hb
          exact hb
        · rw [List.getElem?_eq_none (by rw [List.length_append]; show M.length + 1 ≤ _; omega)] at hb
          cases hb
  · have hba : b ≠ 256 + T.2.1 := fun q => by
      subst q
      rw [mc_ce_hi (by omega), h1, show 256 + M.length - 256 = M.length by omega, List.getElem?_append_right (Nat.le_refl _), Nat.sub_self] at hb
      cases hb
    show (if b = 256 + T.2.1 then some s else T.1 b) = none
    rw [if_neg hba]
    refine h.2.2.2 b ?_
    by_cases hb0 : b < 256
    · rw [mc_ce_lo hb0] at hb ⊢
      exact hb
    · rw [mc_ce_hi (by omega)] at hb ⊢
      rw [List.getElem?_eq_none_iff] at hb ⊢
      rw [List.length_append] at hb
      omega
def wq_d (c j : Nat) : Int := if wq_fk c j = 2 then -1 else 0
section NEW

variable {kt : Nat → Option mc_E} {d : Nat} {E : wq_E} {pc pc' : Nat} {L : List (Nat × Value)} {st : List Value} {T : wq_T} {H : wq_H} {K : Nat → List (Nat × Value) → List Value → wq_T → wq_H → Prop}
end NEW
/-- how far the making of a PARISH is -/
def wNP (T0 : wq_T) (H0 : wq_H) (T : wq_T) (H : wq_H) (i : Nat) : Prop := (T.2.1 = T0.2.1 + 1 + i) ∧ (T.2.2.1 ≤ T0.2.2.1 + 27 + 24 * i) ∧ (T.2.2.2 = T0.2.2.2) ∧ (∀ a, a < 256 + T0.2.1 → T.1 a = T0.1 a ∧ H a = H0 a) ∧ (T.1 (256 + T0.2.1) = some (110, 27)) ∧ (∀ j, j < 8 → H (256 + T0.2.1) j = 0) ∧ (∀ k, k < i → H (256 + T0.2.1) (9 + k) = ((257 + T0.2.1 + k : Nat) : Int)) ∧ (∀ k, k < i → T.1 (257 + T0.2.1 + k) = some (wsh (55 + k)) ∧ ∀ j, H (257 + T0.2.1 + k) j = 0)
theorem wNP.n {T0 : wq_T} {H0 : wq_H} {T : wq_T} {H : wq_H} {i : Nat} (h : wNP T0 H0 T H i) : T.2.1 = T0.2.1 + 1 + i := h.1
theorem wNP.z {T0 : wq_T} {H0 : wq_H} {T : wq_T} {H : wq_H} {i : Nat} (h : wNP T0 H0 T H i) : T.2.2.1 ≤ T0.2.2.1 + 27 + 24 * i := h.2.1
theorem wNP.g {T0 : wq_T} {H0 : wq_H} {T : wq_T} {H : wq_H} {i : Nat} (h : wNP T0 H0 T H i) : T.2.2.2 = T0.2.2.2 := h.2.2.1
theorem wNP.old {T0 : wq_T} {H0 : wq_H} {T : wq_T} {H : wq_H} {i : Nat} (h : wNP T0 H0 T H i) : ∀ a, a < 256 + T0.2.1 → T.1 a = T0.1 a ∧ H a = H0 a := h.2.2.2.1
theorem wNP.ob {T0 : wq_T} {H0 : wq_H} {T : wq_T} {H : wq_H} {i : Nat} (h : wNP T0 H0 T H i) : T.1 (256 + T0.2.1) = some (110, 27) := h.2.2.2.2.1
theorem wNP.f0 {T0 : wq_T} {H0 : wq_H} {T : wq_T} {H : wq_H} {i : Nat} (h : wNP T0 H0 T H i) : ∀ j, j < 8 → H (256 + T0.2.1) j = 0 := h.2.2.2.2.2.1
theorem wNP.fr {T0 : wq_T} {H0 : wq_H} {T : wq_T} {H : wq_H} {i : Nat} (h : wNP T0 H0 T H i) : ∀ k, k < i → H (256 + T0.2.1) (9 + k) = ((257 + T0.2.1 + k : Nat) : Int) := h.2.2.2.2.2.2.1
theorem wNP.ar {T0 : wq_T} {H0 : wq_H} {T : wq_T} {H : wq_H} {i : Nat} (h : wNP T0 H0 T H i) : ∀ k, k < i → T.1 (257 + T0.2.1 + k) = some (wsh (55 + k)) ∧ ∀ j, H (257 + T0.2.1 + k) j = 0 := h.2.2.2.2.2.2.2
theorem wNP.mk {T0 : wq_T} {H0 : wq_H} {T : wq_T} {H : wq_H} {i : Nat} (n : T.2.1 = T0.2.1 + 1 + i) (z : T.2.2.1 ≤ T0.2.2.1 + 27 + 24 * i) (g : T.2.2.2 = T0.2.2.2) (old : ∀ a, a < 256 + T0.2.1 → T.1 a = T0.1 a ∧ H a = H0 a) (ob : T.1 (256 + T0.2.1) = some (110, 27)) (f0 : ∀ j, j < 8 → H (256 + T0.2.1) j = 0) (fr : ∀ k, k < i → H (256 + T0.2.1) (9 + k) = ((257 + T0.2.1 + k : Nat) : Int)) (ar : ∀ k, k < i → T.1 (257 + T0.2.1 + k) = some (wsh (55 + k)) ∧ ∀ j, H (257 + T0.2.1 + k) j = 0) : wNP T0 H0 T H i := ⟨n, z, g, old, ob, f0, fr, ar⟩
theorem wNP.zero {T0 : wq_T} {H0 : wq_H} : wNP T0 H0 (wq_gT T0 (110, 27) 27) (wq_gH H0 (256 + T0.2.1) (wq_d 10)) 0 := wNP.mk
  (n := rfl)
  (z := Nat.le_refl _)
  (g := rfl)
  (old := fun a ha => ⟨if_neg (by omega), wq_gH_ne (by omega)⟩)
  (ob := if_pos rfl)
  (f0 := fun j hj => by
    rw [wq_gH_eq]
    match j, hj with
    | 0, _ => rfl
    | 1, _ => rfl
    | 2, _ => rfl
    | 3, _ => rfl
    | 4, _ => rfl
    | 5, _ => rfl
    | 6, _ => rfl
    | 7, _ => rfl
    | j + 8, h => omega)
  (fr := fun k hk => absurd hk (Nat.not_lt_zero _))
  (ar := fun k hk => absurd hk (Nat.not_lt_zero _))
theorem wNP.next {T0 : wq_T} {H0 : wq_H} {T : wq_T} {H : wq_H} {i tt n : Nat} (h : wNP T0 H0 T H i) (hs : wsh (55 + i) = (tt, n)) (hn : n ≤ 24) : wNP T0 H0 (wq_gT T (tt, n) n) (wq_u (wq_gH H (256 + T.2.1) (fun _ => 0)) (256 + T0.2.1) (9 + i) ((256 + T.2.1 : Nat) : Int)) (i + 1) := by
  have hT := h.n
  exact wNP.mk
      (n := by show T.2.1 + 1 = _; omega)
      (z := by have := h.z; show T.2.2.1 + n ≤ _; omega)
      (g := h.g)
      (old := fun a ha => ⟨by show (if a = 256 + T.2.1 then _ else T.1 a) = _; rw [if_neg (by omega)]; exact (h.old a ha).1, by rw [← (h.old a ha).2]; funext j; rw [wq_u_na (by omega) j, wq_gH_ne (by omega)]⟩)
      (ob := by show (if 256 + T0.2.1 = 256 + T.2.1 then _ else T.1 _) = _; rw [if_neg (by omega)]; exact h.ob)
      (f0 := fun j hj => by rw [wq_u_ne (by omega), wq_gH_ne (by omega)]; exact h.f0 j hj)
      (fr := fun k hk => by
          by_cases hki : k = i
          · subst hki
            rw [wq_u_eq]
            omega
          · rw [wq_u_ne (by omega), wq_gH_ne (by omega)]
            exact h.fr k (by omega))
      (ar := fun k hk => by
          by_cases hki : k = i
          · subst hki
            have e : 257 + T0.2.1 + k = 256 + T.2.1 := by omega
            rw [e]
            refine ⟨by show (if 256 + T.2.1 = 256 + T.2.1 then _ else _) = _; rw [if_pos rfl, hs], fun j => ?_⟩
            rw [wq_u_na (by omega), wq_gH_eq]
          · refine ⟨by show (if 257 + T0.2.1 + k = 256 + T.2.1 then _ else T.1 _) = _; rw [if_neg (by omega)]; exact (h.ar k (by omega)).1, fun j => ?_⟩
            rw [wq_u_na (by omega), wq_gH_ne (by omega)]
            exact (h.ar k (by omega)).2 j)
/-- the tags, when it is made -/
def wNPg (T0 : wq_T) (a : Nat) : Option Nat := if a = 256 + T0.2.1 then some 54 else if 256 + T0.2.1 < a ∧ a ≤ 274 + T0.2.1 then some (55 + (a - 257 - T0.2.1)) else T0.2.2.2 a
theorem wok.mono {T T' : wq_T} {ty : Nat × Int × Int × Nat} {z : Int} (h : ∀ a t, T.2.2.2 a = some t → T'.2.2.2 a = some t) (hk : wok T ty z) : wok T' ty z := by
  obtain ⟨k, p, q, t⟩ := ty
  unfold wok at hk ⊢
  dsimp only at hk ⊢
  split at hk <;> first | exact hk | exact ⟨hk.1, h _ _ hk.2⟩ | exact hk.imp id (fun x => ⟨x.1, h _ _ x.2⟩) | exact ⟨hk.1, hk.2.imp (h _ _) (h _ _)⟩
theorem wNPg_mono {T0 : wq_T} {H0 : wq_H} (hW : WT T0 H0) (hf : ∀ a, 256 + T0.2.1 ≤ a → T0.1 a = none) : ∀ a t, T0.2.2.2 a = some t → wNPg T0 a = some t := fun a t h => by
  have h1 := (hW.2 a t h).1
  have h2 : a < 256 + T0.2.1 := by
    by_cases h3 : a < 256 + T0.2.1
    · exact h3
    · rw [hf a (by omega)] at h1
      cases h1
  unfold wNPg
  rw [if_neg (by omega), if_neg (by omega)]
  exact h
theorem wNP.tag {T0 : wq_T} {k : Nat} (hk : k < 18) : wNPg T0 (257 + T0.2.1 + k) = some (55 + k) := by
  unfold wNPg
  rw [if_neg (by omega), if_pos (by omega)]
  congr 1
  omega
theorem wNP.done {T0 : wq_T} {H0 : wq_H} {T : wq_T} {H : wq_H} (h : wNP T0 H0 T H 18) (hx : wI (H (256 + T0.2.1) 8)) (hW : WT T0 H0) (hf : ∀ a, 256 + T0.2.1 ≤ a → T0.1 a = none) : WT (T.1, T.2.1, T.2.2.1, wNPg T0) H := by
  have hm := wNPg_mono hW hf
  refine ⟨⟨hm _ _ hW.1.1, hm _ _ hW.1.2.1, fun i hi => hm _ _ (hW.1.2.2 i hi)⟩, fun a t ht => ?_⟩
  have ht : wNPg T0 a = some t := ht
  by_cases ha : a = 256 + T0.2.1
  · have e : t = 54 := by
      unfold wNPg at ht
      rw [if_pos ha] at ht
      exact (Option.some.inj ht).symm
    subst e
    subst ha
    refine ⟨h.ob, fun _ => by omega, fun j hj => ?_⟩
    have hj : j < 27 := hj
    match j, hj with
    | 0, _ => exact (by rw [h.f0 0 (by omega), ty_54_0]; exact ⟨by decide, by decide⟩)
    | 1, _ => exact (by rw [h.f0 1 (by omega), ty_54_1]; exact ⟨by decide, by decide⟩)
    | 2, _ => exact (by rw [h.f0 2 (by omega), ty_54_2]; exact ⟨by decide, by decide⟩)
    | 3, _ => exact (by rw [h.f0 3 (by omega), ty_54_3]; exact ⟨by decide, by decide⟩)
    | 4, _ => exact (by rw [h.f0 4 (by omega), ty_54_4]; exact ⟨by decide, by decide⟩)
    | 5, _ => exact (by rw [h.f0 5 (by omega), ty_54_5]; exact ⟨by decide, by decide⟩)
    | 6, _ => exact (by rw [h.f0 6 (by omega), ty_54_6]; exact ⟨by decide, by decide⟩)
    | 7, _ => exact (by rw [h.f0 7 (by omega), ty_54_7]; exact ⟨by decide, by decide⟩)
    | 8, _ => exact (by rw [ty_54_8]; exact hx)
    | 9, _ => exact (by have e := h.fr 0 (by omega); rw [show (9 : Nat) = 9 + 0 from rfl, e]; exact wok_2 ty_54_9 (wNP.tag (by omega)))
    | 10, _ => exact (by have e := h.fr 1 (by omega); rw [show (10 : Nat) = 9 + 1 from rfl, e]; exact wok_2 ty_54_10 (wNP.tag (by omega)))
    | 11, _ => exact (by have e := h.fr 2 (by omega); rw [show (11 : Nat) = 9 + 2 from rfl, e]; exact wok_2 ty_54_11 (wNP.tag (by omega)))
    | 12, _ => exact (by have e := h.fr 3 (by omega); rw [show (12 : Nat) = 9 + 3 from rfl, e]; exact wok_2 ty_54_12 (wNP.tag (by omega)))
    | 13, _ => exact (by have e := h.fr 4 (by omega); rw [show (13 : Nat) = 9 + 4 from rfl, e]; exact wok_2 ty_54_13 (wNP.tag (by omega)))
    | 14, _ => exact (by have e := h.fr 5 (by omega); rw [show (14 : Nat) = 9 + 5 from rfl, e]; exact wok_2 ty_54_14 (wNP.tag (by omega)))
    | 15, _ => exact (by have e := h.fr 6 (by omega); rw [show (15 : Nat) = 9 + 6 from rfl, e]; exact wok_2 ty_54_15 (wNP.tag (by omega)))
    | 16, _ => exact (by have e := h.fr 7 (by omega); rw [show (16 : Nat) = 9 + 7 from rfl, e]; exact wok_2 ty_54_16 (wNP.tag (by omega)))
    | 17, _ => exact (by have e := h.fr 8 (by omega); rw [show (17 : Nat) = 9 + 8 from rfl, e]; exact wok_2 ty_54_17 (wNP.tag (by omega)))
    | 18, _ => exact (by have e := h.fr 9 (by omega); rw [show (18 : Nat) = 9 + 9 from rfl, e]; exact wok_2 ty_54_18 (wNP.tag (by omega)))
    | 19, _ => exact (by have e := h.fr 10 (by omega); rw [show (19 : Nat) = 9 + 10 from rfl, e]; exact wok_2 ty_54_19 (wNP.tag (by omega)))
    | 20, _ => exact (by have e := h.fr 11 (by omega); rw [show (20 : Nat) = 9 + 11 from rfl, e]; exact wok_2 ty_54_20 (wNP.tag (by omega)))
    | 21, _ => exact (by have e := h.fr 12 (by omega); rw [show (21 : Nat) = 9 + 12 from rfl, e]; exact wok_2 ty_54_21 (wNP.tag (by omega)))
    | 22, _ => exact (by have e := h.fr 13 (by omega); rw [show (22 : Nat) = 9 + 13 from rfl, e]; exact wok_2 ty_54_22 (wNP.tag (by omega)))
    | 23, _ => exact (by have e := h.fr 14 (by omega); rw [show (23 : Nat) = 9 + 14 from rfl, e]; exact wok_2 ty_54_23 (wNP.tag (by omega)))
    | 24, _ => exact (by have e := h.fr 15 (by omega); rw [show (24 : Nat) = 9 + 15 from rfl, e]; exact wok_2 ty_54_24 (wNP.tag (by omega)))
    | 25, _ => exact (by have e := h.fr 16 (by omega); rw [show (25 : Nat) = 9 + 16 from rfl, e]; exact wok_2 ty_54_25 (wNP.tag (by omega)))
    | 26, _ => exact (by have e := h.fr 17 (by omega); rw [show (26 : Nat) = 9 + 17 from rfl, e]; exact wok_2 ty_54_26 (wNP.tag (by omega)))
    | j + 27, h => omega
  · by_cases hb : 256 + T0.2.1 < a ∧ a ≤ 274 + T0.2.1
    · obtain ⟨k, hk, rfl⟩ : ∃ k, k < 18 ∧ a = 257 + T0.2.1 + k := ⟨a - 257 - T0.2.1, by omega, by omega⟩
      rw [wNP.tag hk] at ht
      cases ht
      refine ⟨(h.ar k hk).1, fun _ => by omega, fun j hj => ?_⟩
      rw [(h.ar k hk).2 j]
      match k, hk with
      | 0, _ => exact (by rw [show 55 + 0 = 55 from rfl, ty_55]; exact ⟨by decide, by decide⟩)
      | 1, _ => exact (by rw [show 55 + 1 = 56 from rfl, ty_56]; exact ⟨by decide, by decide⟩)
      | 2, _ => exact (by rw [show 55 + 2 = 57 from rfl, ty_57]; exact ⟨by decide, by decide⟩)
      | 3, _ => exact (by rw [show 55 + 3 = 58 from rfl, ty_58]; exact ⟨by decide, by decide⟩)
      | 4, _ => exact (by rw [show 55 + 4 = 59 from rfl, ty_59]; exact ⟨by decide, by decide⟩)
      | 5, _ => exact (by rw [show 55 + 5 = 60 from rfl, ty_60]; exact ⟨by decide, by decide⟩)
      | 6, _ => exact (by rw [show 55 + 6 = 61 from rfl, ty_61]; exact ⟨by decide, by decide⟩)
      | 7, _ => exact (by rw [show 55 + 7 = 62 from rfl, ty_62]; exact ⟨by decide, by decide⟩)
      | 8, _ => exact (by rw [show 55 + 8 = 63 from rfl, ty_63]; exact ⟨by decide, by decide⟩)
      | 9, _ => exact (by rw [show 55 + 9 = 64 from rfl, ty_64]; exact ⟨by decide, by decide⟩)
      | 10, _ => exact (by rw [show 55 + 10 = 65 from rfl, ty_65]; exact ⟨by decide, by decide⟩)
      | 11, _ => exact (by rw [show 55 + 11 = 66 from rfl, ty_66]; exact ⟨by decide, by decide⟩)
      | 12, _ => exact (by rw [show 55 + 12 = 67 from rfl, ty_67]; exact ⟨by decide, by decide⟩)
      | 13, _ => exact (by rw [show 55 + 13 = 68 from rfl, ty_68]; exact ⟨by decide, by decide⟩)
      | 14, _ => exact (by rw [show 55 + 14 = 69 from rfl, ty_69]; exact ⟨by decide, by decide⟩)
      | 15, _ => exact (by rw [show 55 + 15 = 70 from rfl, ty_70]; exact ⟨by decide, by decide⟩)
      | 16, _ => exact (by rw [show 55 + 16 = 71 from rfl, ty_71]; exact ⟨by decide, by decide⟩)
      | 17, _ => exact (by rw [show 55 + 17 = 72 from rfl, ty_72]; exact ⟨by decide, by decide⟩)
      | k + 18, h => omega
    · have ht0 : T0.2.2.2 a = some t := by
        unfold wNPg at ht
        rw [if_neg ha, if_neg hb] at ht
        exact ht
      obtain ⟨h1, h2, h3⟩ := hW.2 a t ht0
      have hlt : a < 256 + T0.2.1 := by
        by_cases h4 : a < 256 + T0.2.1
        · exact h4
        · rw [hf a (by omega)] at h1
          cases h1
      refine ⟨by show T.1 a = _; rw [(h.old a hlt).1]; exact h1, h2, fun j hj => ?_⟩
      rw [(h.old a hlt).2]
      exact wok.mono hm (h3 j hj)
abbrev q_171 (T0 : wq_T) (H0 : wq_H) : Option Value → wq_T → wq_H → Prop := fun r T' H' => WT T' H' ∧ (∀ a t, T0.2.2.2 a = some t → T'.2.2.2 a = some t) ∧ T'.2.2.2 (256 + T0.2.1) = some 54 ∧ (∀ a, a < 256 + T0.2.1 → H' a = H0 a) ∧ wPI H' (256 + T0.2.1) = 1 ∧ T'.2.1 = T0.2.1 + 19 ∧ T'.2.2.1 ≤ T0.2.2.1 + 459 ∧ none = r
theorem wNP.all {T0 : wq_T} {H0 : wq_H} {T : wq_T} {H : wq_H} (h : wNP T0 H0 T H 18) (hx : wI (H (256 + T0.2.1) 8)) (hW : WT T0 H0) (hf : ∀ a, 256 + T0.2.1 ≤ a → T0.1 a = none) : q_171 T0 H0 none (T.1, T.2.1, T.2.2.1, wNPg T0) H := by
  refine ⟨h.done hx hW hf, wNPg_mono hW hf, if_pos rfl, fun a ha => (h.old a ha).2, ?_, h.n, h.z, rfl⟩
  refine wPI_of (h.fr 1 (by omega)) (h.fr 2 (by omega)) (h.fr 3 (by omega)) (h.fr 4 (by omega)) (fun k _ => ?_)
  rw [(h.ar 1 (by omega)).2, (h.ar 2 (by omega)).2, (h.ar 3 (by omega)).2, (h.ar 4 (by omega)).2]
  exact ⟨by decide, by decide⟩
end
section

end
section
/-! THE ONE METHOD THAT THROWS: it answers, or comes to its 'new' with the memory that it found (own work) -/
def mc_seg (kt : Nat → Option mc_E) (call : Nat → List Value → mc_M → Option mc_R) (own nL : Nat) (ini : Bool) (ret : Option FieldType) (cc : ByteArray) : Nat → mc_S → Option mc_S
  | 0, S => some S
  | n + 1, S => match decode cc S.1 with
    | .ok (x, k) => match mc_step kt call own nL ini ret x k S with
      | some (.inl S1) => mc_seg kt call own nL ini ret cc n S1
      | _ => none
    | .error _ => none
theorem mc_seg_mono {kt : Nat → Option mc_E} {own nL : Nat} {ini : Bool} {ret : Option FieldType} {cc : ByteArray} {call call' : Nat → List Value → mc_M → Option mc_R} (hc : ∀ (k : Nat) (as : List Value) (M : mc_M) (w : mc_R), call k as M = some w → call' k as M = some w) : ∀ (n : Nat) (S S' : mc_S), mc_seg kt call own nL ini ret cc n S = some S' → mc_seg kt call' own nL ini ret cc n S = some S'
  | 0, _, _, h => h
  | n + 1, S, S', h => by
    unfold mc_seg at h ⊢
    split at h
    · next x k hd =>
      split at h
      · next S1 hs =>
        rw [mc_step_mono hc hs]
        exact mc_seg_mono hc n S1 S' h
      · cases h
    · cases h
def wq_sg (kt : Nat → Option mc_E) (F d k n : Nat) (S : mc_S) : Option mc_S := match mc_mt k with
  | some q => mc_seg kt (mc_call kt F d) q.1 q.2.2.2.1 (q.2.2.2.2.2.2 == 2) q.2.2.2.2.1 q.2.2.1 n S
  | none => none
/-! StrikeAwake.led(I)I -/
theorem e166 : wq_en 166 = some (0, 4, false, some FieldType.int) := rfl
theorem cg166_0 : mc_cd 166 0 = some (.iconst 0, 1) ∧ mc_cd 166 1 = some (.istore_n 2, 1) ∧ mc_cd 166 2 = some (.iconst 0, 1) ∧ mc_cd 166 3 = some (.istore_n 3, 1) ∧ mc_cd 166 4 = some (.iload_n 3, 1) ∧ mc_cd 166 5 = some (.aload_n 0, 1) ∧ mc_cd 166 6 = some (.getfield 51, 3) ∧ mc_cd 166 9 = some (.getfield 96, 3) := by decide +kernel
theorem c166_0 : mc_cd 166 0 = some (.iconst 0, 1) := cg166_0.1
theorem c166_1 : mc_cd 166 1 = some (.istore_n 2, 1) := cg166_0.2.1
theorem c166_2 : mc_cd 166 2 = some (.iconst 0, 1) := cg166_0.2.2.1
theorem c166_3 : mc_cd 166 3 = some (.istore_n 3, 1) := cg166_0.2.2.2.1
theorem c166_4 : mc_cd 166 4 = some (.iload_n 3, 1) := cg166_0.2.2.2.2.1
theorem c166_5 : mc_cd 166 5 = some (.aload_n 0, 1) := cg166_0.2.2.2.2.2.1
theorem c166_6 : mc_cd 166 6 = some (.getfield 51, 3) := cg166_0.2.2.2.2.2.2.1
theorem c166_9 : mc_cd 166 9 = some (.getfield 96, 3) := cg166_0.2.2.2.2.2.2.2
theorem cg166_12 : mc_cd 166 12 = some (.if_icmp .ge 34, 3) ∧ mc_cd 166 15 = some (.aload_n 0, 1) ∧ mc_cd 166 16 = some (.getfield 51, 3) ∧ mc_cd 166 19 = some (.getfield 109, 3) ∧ mc_cd 166 22 = some (.iload_n 3, 1) ∧ mc_cd 166 23 = some (.aaload, 1) ∧ mc_cd 166 24 = some (.getfield 317, 3) ∧ mc_cd 166 27 = some (.ifCond .eq 13, 3) := by decide +kernel
theorem c166_12 : mc_cd 166 12 = some (.if_icmp .ge 34, 3) := cg166_12.1
theorem c166_15 : mc_cd 166 15 = some (.aload_n 0, 1) := cg166_12.2.1
theorem c166_16 : mc_cd 166 16 = some (.getfield 51, 3) := cg166_12.2.2.1
theorem c166_19 : mc_cd 166 19 = some (.getfield 109, 3) := cg166_12.2.2.2.1
theorem c166_22 : mc_cd 166 22 = some (.iload_n 3, 1) := cg166_12.2.2.2.2.1
theorem c166_23 : mc_cd 166 23 = some (.aaload, 1) := cg166_12.2.2.2.2.2.1
theorem c166_24 : mc_cd 166 24 = some (.getfield 317, 3) := cg166_12.2.2.2.2.2.2.1
theorem c166_27 : mc_cd 166 27 = some (.ifCond .eq 13, 3) := cg166_12.2.2.2.2.2.2.2
theorem cg166_30 : mc_cd 166 30 = some (.iload_n 2, 1) ∧ mc_cd 166 31 = some (.iload_n 1, 1) ∧ mc_cd 166 32 = some (.if_icmp .ne 5, 3) ∧ mc_cd 166 35 = some (.iload_n 3, 1) ∧ mc_cd 166 36 = some (.ireturn, 1) ∧ mc_cd 166 37 = some (.iinc 2 1, 3) ∧ mc_cd 166 40 = some (.iinc 3 1, 3) ∧ mc_cd 166 43 = some (.goto (-39), 3) := by decide +kernel
theorem c166_30 : mc_cd 166 30 = some (.iload_n 2, 1) := cg166_30.1
theorem c166_31 : mc_cd 166 31 = some (.iload_n 1, 1) := cg166_30.2.1
theorem c166_32 : mc_cd 166 32 = some (.if_icmp .ne 5, 3) := cg166_30.2.2.1
theorem c166_35 : mc_cd 166 35 = some (.iload_n 3, 1) := cg166_30.2.2.2.1
theorem c166_36 : mc_cd 166 36 = some (.ireturn, 1) := cg166_30.2.2.2.2.1
theorem c166_37 : mc_cd 166 37 = some (.iinc 2 1, 3) := cg166_30.2.2.2.2.2.1
theorem c166_40 : mc_cd 166 40 = some (.iinc 3 1, 3) := cg166_30.2.2.2.2.2.2.1
theorem c166_43 : mc_cd 166 43 = some (.goto (-39), 3) := cg166_30.2.2.2.2.2.2.2
end
section
/-! WHO IS AWAY (own work): the one of that number, or none -/
def xled (f : Nat → Int) (i : Int) : Nat → Nat → Int → Int
  | _, 0, _ => -1
  | k, m + 1, c => if f k = 0 then xled f i (k + 1) m c else if c = i then (k : Int) else xled f i (k + 1) m (c + 1)
section XLED

variable {f g : Nat → Int} {i c v n : Int}
theorem xled_0 (h : n ≤ v) : xled f i v.toNat (n.toNat - v.toNat) c = -1 := by
  rw [show n.toNat - v.toNat = 0 by omega]
  rfl
theorem xled_1 (h0 : 0 ≤ v) (h : v < n) : xled f i v.toNat (n.toNat - v.toNat) c = if f v.toNat = 0 then xled f i (v + 1).toNat (n.toNat - (v + 1).toNat) c else if c = i then v else xled f i (v + 1).toNat (n.toNat - (v + 1).toNat) (c + 1) := by
  rw [show (v + 1).toNat = v.toNat + 1 by omega, show n.toNat - v.toNat = (n.toNat - (v.toNat + 1)) + 1 by omega]
  show (if f v.toNat = 0 then _ else if c = i then ((v.toNat : Nat) : Int) else _) = _
  rw [Int.toNat_of_nonneg h0]
theorem xled_y (h0 : 0 ≤ v) (h : v < n) (e : f v.toNat = 0) : xled f i (v + 1).toNat (n.toNat - (v + 1).toNat) c = xled f i v.toNat (n.toNat - v.toNat) c := by
  rw [xled_1 h0 h, if_pos e]
theorem xled_n (h0 : 0 ≤ v) (h : v < n) (e : f v.toNat ≠ 0) (hc : c ≠ i) : xled f i (v + 1).toNat (n.toNat - (v + 1).toNat) (c + 1) = xled f i v.toNat (n.toNat - v.toNat) c := by
  rw [xled_1 h0 h, if_neg e, if_neg hc]
theorem xled_r (h0 : 0 ≤ v) (h : v < n) (e : f v.toNat ≠ 0) (hc : c = i) : xled f i v.toNat (n.toNat - v.toNat) c = v := by
  rw [xled_1 h0 h, if_neg e, if_pos hc]
theorem xled_cg : ∀ (m k : Nat) (c : Int), (∀ j, k ≤ j → j < k + m → f j = g j) → xled f i k m c = xled g i k m c
  | 0, _, _, _ => rfl
  | m + 1, k, c, h => by
    show (if f k = 0 then xled f i (k + 1) m c else if c = i then (k : Int) else xled f i (k + 1) m (c + 1)) = (if g k = 0 then xled g i (k + 1) m c else if c = i then (k : Int) else xled g i (k + 1) m (c + 1))
    rw [h k (Nat.le_refl _) (by omega), xled_cg m (k + 1) c (fun j a b => h j (by omega) (by omega)), xled_cg m (k + 1) (c + 1) (fun j a b => h j (by omega) (by omega))]
end XLED
/-- by the class's cells -/
def XLF (H : wq_H) (x : Nat) (k : Nat) : Int := H (H (H (H x 6).toNat 0).toNat k).toNat 13
def XLH (H : wq_H) (x : Nat) (i : Int) : Int := xled (XLF H x) i 0 (H (H x 6).toNat 10).toNat 0
theorem XLH_fr {T : wq_T} {H H' : wq_H} {l : List (Nat × Nat)} {x : Nat} {i : Int} (hW : WT T H) (gx : T.2.2.2 x = some 1) (f : wfr l T H H') (y : l.all (fun q => !(q.1 == 1) && !(q.1 == 27) && !(q.1 == 28) && !(q.1 == 35)) = true) : XLH H' x i = XLH H x i := by
  have y1 : ∀ t, (t = 1 ∨ t = 27 ∨ t = 28 ∨ t = 35) → l.all (fun q => !(q.1 == t)) = true := fun t ht => List.all_eq_true.mpr (fun q hq => by
    have h := List.all_eq_true.mp y q hq
    simp only [Bool.and_eq_true] at h
    rcases ht with rfl | rfl | rfl | rfl
    · exact h.1.1.1
    · exact h.1.1.2
    · exact h.1.2
    · exact h.2)
  obtain ⟨cu, c1, c2⟩ := hW.ref gx (t' := 27) (n := 13) (j := 6) (p := 0) (q := 0) rfl (by decide) rfl
  obtain ⟨pa, p1, p2⟩ := hW.ref c2 (t' := 28) (n := 19) (j := 0) (p := 0) (q := 0) rfl (by decide) rfl
  have ex := f.fn gx (y1 1 (by omega))
  have ec := f.fn c2 (y1 27 (by omega))
  have ep := f.fn p2 (y1 28 (by omega))
  have hb : (0 : Int) ≤ H cu 10 ∧ H cu 10 ≤ 6 := hW.box c2 (n := 19) rfl (by decide) rfl
  unfold XLH
  rw [ex, c1, Int.toNat_natCast, ec]
  refine xled_cg _ _ _ (fun j _ hj => ?_)
  unfold XLF
  rw [ex, c1, Int.toNat_natCast, ec, p1, Int.toNat_natCast, ep]
  obtain ⟨q, q1, q2⟩ := hW.ref p2 (t' := 35) (n := 6) (j := j) (p := 0) (q := 0) rfl (by omega) rfl
  rw [q1, Int.toNat_natCast, f.fn q2 (y1 35 (by omega))]
/-- from this place method k ends, and Q holds; or it comes to 46, its stack empty, its memory T0, H0 -/
def wpy (P : Prop) (T0 : wq_T) (H0 : wq_H) (kt : Nat → Option mc_E) (d k pc : Nat) (L : List (Nat × Value)) (st : List Value) (T : wq_T) (H : wq_H) (Q : Option Value → wq_T → wq_H → Prop) : Prop :=
  ∀ M, wq_R kt M T H → (∃ (F n : Nat) (w : mc_R) (T' : wq_T) (H' : wq_H), wq_lp kt F d k n (pc, L, st, M) = some w ∧ wq_R kt w.2 T' H' ∧ Q w.1 T' H') ∨ ∃ (F n : Nat) (L' : List (Nat × Value)) (M' : mc_M), wq_sg kt F d k n (pc, L, st, M) = some (46, L', [], M') ∧ wq_R kt M' T0 H0 ∧ P
theorem wpy_ret {P : Prop} {T0 : wq_T} {H0 : wq_H} {kt : Nat → Option mc_E} {d k pc : Nat} {L : List (Nat × Value)} {st : List Value} {T : wq_T} {H : wq_H} {Q : Option Value → wq_T → wq_H → Prop} (h : wp kt d k pc L st T H Q) : wpy P T0 H0 kt d k pc L st T H Q := fun M hM => Or.inl (h M hM)
theorem wpy_stop {P : Prop} {kt : Nat → Option mc_E} {d k : Nat} {L : List (Nat × Value)} {T : wq_T} {H : wq_H} {Q : Option Value → wq_T → wq_H → Prop} {E : wq_E} (he : wq_en k = some E) (hp : P) : wpy P T H kt d k 46 L [] T H Q := fun M hM => by
  obtain ⟨q, hq, rfl⟩ := wq_en_mt he
  refine Or.inr ⟨0, 0, L, M, ?_, hM, hp⟩
  unfold wq_sg
  rw [hq]
  rfl
theorem wpy_of {P : Prop} {T0 : wq_T} {H0 : wq_H} {kt : Nat → Option mc_E} {d k pc : Nat} {L : List (Nat × Value)} {st : List Value} {T : wq_T} {H : wq_H} {Q : Option Value → wq_T → wq_H → Prop} {E : wq_E} {x : Instr} {n : Nat} (he : wq_en k = some E) (hd : mc_cd k pc = some (x, n)) (h : wq_s kt d E x n pc L st T H (fun pc' L' st' T' H' => wpy P T0 H0 kt d k pc' L' st' T' H' Q)) : wpy P T0 H0 kt d k pc L st T H Q := fun M hM => by
  obtain ⟨q, hq, rfl⟩ := wq_en_mt he
  obtain ⟨F1, pc', L', st', M', T', H', h1, h2, h3⟩ := h M hM
  have hd' := mc_cd_ok hq hd
  rcases h3 M' h2 with ⟨F2, n2, w, T2, H2, h4, h5, h6⟩ | ⟨F2, n2, L2, M2, h4, h5, h6⟩
  · refine Or.inl ⟨max F1 F2, n2 + 1, w, T2, H2, ?_, h5, h6⟩
    unfold wq_lp at h4 ⊢
    rw [hq] at h4 ⊢
    dsimp only at h4 ⊢
    unfold mc_loop
    dsimp only
    rw [hd']
    dsimp only
    rw [mc_step_mono (mc_call_mono (Nat.le_max_left F1 F2) d d (Nat.le_refl _)) h1]
    exact mc_loop_mono (mc_call_mono (Nat.le_max_right F1 F2) d d (Nat.le_refl _)) n2 n2 _ w (Nat.le_refl _) h4
  · refine Or.inr ⟨max F1 F2, n2 + 1, L2, M2, ?_, h5, h6⟩
    unfold wq_sg at h4 ⊢
    rw [hq] at h4 ⊢
    dsimp only at h4 ⊢
    unfold mc_seg
    dsimp only
    rw [hd']
    dsimp only
    rw [mc_step_mono (mc_call_mono (Nat.le_max_left F1 F2) d d (Nat.le_refl _)) h1]
    exact mc_seg_mono (mc_call_mono (Nat.le_max_right F1 F2) d d (Nat.le_refl _)) n2 _ _ h4
abbrev qy_166 (r0 : Nat) (a1 : Int) (T : wq_T) (H : wq_H) : Option Value → wq_T → wq_H → Prop := fun r T' H' => T = T' ∧ H = H' ∧ ∃ z : Int, some (vI z) = r ∧ ((-2147483648) ≤ z ∧ z ≤ 2147483647) ∧ z = XLH H r0 a1 ∧ 0 ≤ z
set_option maxHeartbeats 4000000 in
theorem y_166 {kt : Nat → Option mc_E} {T : wq_T} {H : wq_H} {r0 : Nat} {a1 : Int} (hW : WT T H) (g0 : T.2.2.2 r0 = some 1) (i1 : (-2147483648) ≤ a1 ∧ a1 ≤ 2147483647) : wpy (XLH H r0 a1 = -1) T H kt 0 166 0 [(0, .ref r0), (1, vI a1)] [] T H (qy_166 r0 a1 T H) := by
  show wpy _ _ _ _ _ 166 0 [(0, .ref r0), (1, vI a1)] [] _ H _
  refine wpy_of e166 c166_0 (rw_iconst (pc' := 1) rfl ?_)
  refine wpy_of e166 c166_1 (rw_istore_n (pc' := 2) (z := 0) (L' := [(2, vI 0), (0, .ref r0), (1, vI a1)]) rfl rfl rfl ?_)
  refine wpy_of e166 c166_2 (rw_iconst (pc' := 3) rfl ?_)
  refine wpy_of e166 c166_3 (rw_istore_n (pc' := 4) (z := 0) (L' := [(3, vI 0), (2, vI 0), (0, .ref r0), (1, vI a1)]) rfl rfl rfl ?_)
  have lp242 : ∀ (n243 : Nat) (v245 : Int) (v246 : Int), (0 ≤ v245 ∧ v245 ≤ 6) → (0 ≤ v246 ∧ v246 ≤ 6) → (v246 ≤ v245) → (xled (XLF H r0) a1 (v245).toNat ((H (H r0 6).toNat 10).toNat - (v245).toNat) v246 = XLH H r0 a1) → (6 - v245).toNat = n243 → wpy (XLH H r0 a1 = -1) T H kt 0 166 4 [(3, vI v245), (2, vI v246), (0, .ref r0), (1, vI a1)] [] T H (qy_166 r0 a1 T H) := by
    intro n243
    induction n243 using Nat.strongRecOn with
    | _ n243 ih244 =>
      intro v245 v246 b249 b250 x251 hxl m252
      refine wpy_of e166 c166_4 (rw_iload_n (pc' := 5) (z := v245) rfl rfl ?_)
      refine wpy_of e166 c166_5 (rw_aload_n (pc' := 6) (v := .ref r0) rfl rfl rfl ?_)
      refine wpy_of e166 c166_6 (xg_R (pc' := 9) lf_0_51 hW g0 sh_1 (by decide) (by decide) ty_1_6 rfl rfl (fun r253 q254 g255 => ?_))
      refine wpy_of e166 c166_9 (xg_I (pc' := 12) lf_0_96 hW g255 sh_27 (by decide) (by decide) ty_27_10 rfl rfl (fun b256 b257 => ?_))
      have hn : H (H r0 6).toNat 10 = H r253 10 := by rw [q254, Int.toNat_natCast]
      refine wpy_of e166 c166_12 (rw_icmp_ge (p1 := 46) (p2 := 15) (by decide) rfl ⟨by omega, by omega⟩ ⟨by omega, by omega⟩ (fun c258 => ?_) (fun c258 => ?_))
      · exact wpy_stop e166 (by have := xled_0 (f := XLF H r0) (i := a1) (c := v246) (v := v245) (n := H (H r0 6).toNat 10) (by omega); omega)
      · refine wpy_of e166 c166_15 (rw_aload_n (pc' := 16) (v := .ref r0) rfl rfl rfl ?_)
        refine wpy_of e166 c166_16 (xg_K (pc' := 19) lf_0_51 hW g0 sh_1 (by decide) (by decide) rfl q254 rfl ?_)
        refine wpy_of e166 c166_19 (xg_R (pc' := 22) lf_0_109 hW g255 sh_27 (by decide) (by decide) ty_27_0 rfl rfl (fun r259 q260 g261 => ?_))
        refine wpy_of e166 c166_22 (rw_iload_n (pc' := 23) (z := v245) rfl rfl ?_)
        refine wpy_of e166 c166_23 (xa_R (pc' := 24) (by decide) hW g261 sh_28 (by decide) (ty_28 _) (by omega) (by omega) rfl (fun r262 q263 g264 => ?_))
        refine wpy_of e166 c166_24 (xg_I (pc' := 27) lf_0_317 hW g264 sh_35 (by decide) (by decide) ty_35_13 rfl rfl (fun b265 b266 => ?_))
        have hf : XLF H r0 (v245).toNat = H r262 13 := by
          unfold XLF
          rw [q254, Int.toNat_natCast, q260, Int.toNat_natCast, q263, Int.toNat_natCast]
        refine wpy_of e166 c166_27 (rw_if_eq (p1 := 40) (p2 := 30) (by decide) rfl ⟨by omega, by omega⟩ (fun c267 => ?_) (fun c267 => ?_))
        · have _x := xled_y (f := XLF H r0) (i := a1) (c := v246) (v := v245) (n := H (H r0 6).toNat 10) (by omega) (by omega) (by omega)
          refine wpy_of e166 c166_40 (rw_iinc (pc' := 43) (z := v245) (L' := [(3, vI (v245 + 1)), (2, vI v246), (0, .ref r0), (1, vI a1)]) rfl rfl rfl rfl ?_)
          refine wpy_of e166 c166_43 (rw_goto (p1 := 4) (by decide) ?_)
          exact ih244 _ (by omega) (v245 + 1) v246 ⟨by omega, by omega⟩ ⟨by omega, by omega⟩ (by omega) (by omega) rfl
        · refine wpy_of e166 c166_30 (rw_iload_n (pc' := 31) (z := v246) rfl rfl ?_)
          refine wpy_of e166 c166_31 (rw_iload_n (pc' := 32) (z := a1) rfl rfl ?_)
          refine wpy_of e166 c166_32 (rw_icmp_ne (p1 := 37) (p2 := 35) (by decide) rfl ⟨by omega, by omega⟩ ⟨by omega, by omega⟩ (fun c268 => ?_) (fun c268 => ?_))
          · have _x := xled_n (f := XLF H r0) (i := a1) (c := v246) (v := v245) (n := H (H r0 6).toNat 10) (by omega) (by omega) (by omega) (by omega)
            refine wpy_of e166 c166_37 (rw_iinc (pc' := 40) (z := v246) (L' := [(2, vI (v246 + 1)), (3, vI v245), (0, .ref r0), (1, vI a1)]) rfl rfl rfl rfl ?_)
            refine wpy_of e166 c166_40 (rw_iinc (pc' := 43) (z := v245) (L' := [(3, vI (v245 + 1)), (2, vI (v246 + 1)), (0, .ref r0), (1, vI a1)]) rfl rfl rfl rfl ?_)
            refine wpy_of e166 c166_43 (rw_goto (p1 := 4) (by decide) ?_)
            exact ih244 _ (by omega) (v245 + 1) (v246 + 1) ⟨by omega, by omega⟩ ⟨by omega, by omega⟩ (by omega) (by omega) rfl
          · have _x := xled_r (f := XLF H r0) (i := a1) (c := v246) (v := v245) (n := H (H r0 6).toNat 10) (by omega) (by omega) (by omega) (by omega)
            refine wpy_of e166 c166_35 (rw_iload_n (pc' := 36) (z := v245) rfl rfl ?_)
            exact wpy_ret (wp_ireturn e166 c166_36 rfl ⟨rfl, rfl, v245, rfl, ⟨by omega, by omega⟩, by omega, by omega⟩)
  have hx0 : xled (XLF H r0) a1 ((0 : Int)).toNat ((H (H r0 6).toNat 10).toNat - ((0 : Int)).toNat) 0 = XLH H r0 a1 := rfl
  exact lp242 _ 0 0 ⟨by omega, by omega⟩ ⟨by omega, by omega⟩ (by omega) hx0 rfl
end
