section
/-! PURE MEMORY (own work): what the mini machine's cells hold, as one function from address and place to a whole number; a reference is its address, null is -1 -/
def wq_ft (ty : FieldType) : Nat := match ty with
  | .int => 0
  | .long => 1
  | .byte => 3
  | .boolean => 4
  | _ => 2
/-- the kinds of values: 0 int, 1 long, 2 reference, 3 byte, 4 boolean -/
def wq_ak (t : Nat) : Nat := match t with
  | 0 => 0
  | 1 => 1
  | 2 => 3
  | 3 => 4
  | _ => 2
def wq_fk (c j : Nat) : Nat := if c < 11 then wq_ft (mc_t c j) else if j = 0 then 2 else 0
def vI (z : Int) : Value := .int (Int32.ofInt z)
def vL (z : Int) : Value := .long (Int64.ofInt z)
def vR (z : Int) : Value := if 0 ≤ z then .ref z.toNat else .null
def wq_v (k : Nat) (z : Int) : Value := match k with
  | 1 => vL z
  | 2 => vR z
  | _ => vI z
def wI (z : Int) : Prop := -2147483648 ≤ z ∧ z ≤ 2147483647
def wL (z : Int) : Prop := -9223372036854775808 ≤ z ∧ z ≤ 9223372036854775807
def wq_in (k : Nat) (z : Int) : Prop := match k with
  | 0 => wI z
  | 1 => wL z
  | 2 => True
  | 3 => -128 ≤ z ∧ z ≤ 127
  | _ => 0 ≤ z ∧ z ≤ 1
/-- shapes, how many cells, how many slots, tags (of our own) -/
abbrev wq_T : Type := (Nat → Option (Nat × Nat)) × Nat × Nat × (Nat → Option Nat)
abbrev wq_H : Type := Nat → Nat → Int
def wq_c (s : Option (Nat × Nat)) (h : Nat → Int) (e : mc_E) : Prop := match e with
  | .inl (t, n, f) => t < 100 ∧ s = some (t, n) ∧ ∀ j, j < n → f j = wq_v (wq_ak t) (h j) ∧ wq_in (wq_ak t) (h j)
  | .inr (c, fs) => s = some (100 + c, fs.length) ∧ ∀ j v, fs[j]? = some v → v = wq_v (wq_fk c j) (h j) ∧ wq_in (wq_fk c j) (h j)
def wq_R (kt : Nat → Option mc_E) (M : mc_M) (T : wq_T) (H : wq_H) : Prop :=
  T.2.1 = M.length ∧ T.2.2.1 = mc_sz M ∧ (∀ a e, mc_ce kt M a = some e → wq_c (T.1 a) (H a) e) ∧ ∀ a, mc_ce kt M a = none → T.1 a = none
def wq_u (H : wq_H) (a j : Nat) (z : Int) : wq_H := fun b i => if b = a ∧ i = j then z else H b i
theorem wq_u_eq {H : wq_H} {a j : Nat} {z : Int} : wq_u H a j z a j = z := if_pos ⟨rfl, rfl⟩
theorem wq_u_ne {H : wq_H} {a j b i : Nat} {z : Int} (h : ¬ (b = a ∧ i = j)) : wq_u H a j z b i = H b i := if_neg h
theorem wq_u_na {H : wq_H} {a j b : Nat} {z : Int} (h : b ≠ a) (i : Nat) : wq_u H a j z b i = H b i := if_neg (fun q => h q.1)
theorem wI_of (z : Int32) : wI z.toInt := ⟨Int32.le_toInt z, by have := Int32.toInt_lt z; omega⟩
theorem wL_of (z : Int64) : wL z.toInt := ⟨Int64.le_toInt z, by have := Int64.toInt_lt z; omega⟩
theorem wI_t {z : Int} (h : wI z) : (Int32.ofInt z).toInt = z := Int32.toInt_ofInt_of_le h.1 (by have := h.2; omega)
theorem wL_t {z : Int} (h : wL z) : (Int64.ofInt z).toInt = z := Int64.toInt_ofInt_of_le h.1 (by have := h.2; omega)
theorem vI_of (z : Int32) : Value.int z = vI z.toInt := by unfold vI; rw [Int32.ofInt_toInt]
theorem vL_of (z : Int64) : Value.long z = vL z.toInt := by unfold vL; rw [Int64.ofInt_toInt]
theorem vR_of (a : Nat) : vR (a : Int) = .ref a := by unfold vR; rw [if_pos (by omega)]; rfl
theorem vR_null : vR (-1) = .null := rfl
theorem wq_R.obj {kt : Nat → Option mc_E} {M : mc_M} {T : wq_T} {H : wq_H} (h : wq_R kt M T H) {a c n : Nat} (hs : T.1 a = some (100 + c, n)) : ∃ fs, mc_ce kt M a = some (.inr (c, fs)) ∧ fs.length = n ∧ ∀ j v, fs[j]? = some v → v = wq_v (wq_fk c j) (H a j) ∧ wq_in (wq_fk c j) (H a j) := by
  cases he : mc_ce kt M a with
  | none => rw [h.2.2.2 a he] at hs; cases hs
  | some e =>
    have h1 := h.2.2.1 a e he
    match e, h1 with
    | .inl (t, m, f), h1 =>
      obtain ⟨h2, h3, -⟩ := h1
      rw [hs] at h3
      cases h3
      omega
    | .inr (c', fs), h1 =>
      obtain ⟨h3, h4⟩ := h1
      rw [hs] at h3
      have h5 := Option.some.inj h3
      have h6 : 100 + c = 100 + c' := congrArg Prod.fst h5
      have h7 : n = fs.length := congrArg Prod.snd h5
      have h8 : c' = c := by omega
      subst h8
      exact ⟨fs, rfl, h7.symm, h4⟩
theorem wq_R.arr {kt : Nat → Option mc_E} {M : mc_M} {T : wq_T} {H : wq_H} (h : wq_R kt M T H) {a t n : Nat} (ht : t < 100) (hs : T.1 a = some (t, n)) : ∃ f, mc_ce kt M a = some (.inl (t, n, f)) ∧ ∀ j, j < n → f j = wq_v (wq_ak t) (H a j) ∧ wq_in (wq_ak t) (H a j) := by
  cases he : mc_ce kt M a with
  | none => rw [h.2.2.2 a he] at hs; cases hs
  | some e =>
    have h1 := h.2.2.1 a e he
    match e, h1 with
    | .inl (t', m, f), h1 =>
      obtain ⟨h2, h3, h4⟩ := h1
      rw [hs] at h3
      cases h3
      exact ⟨f, rfl, h4⟩
    | .inr (c', fs), h1 =>
      obtain ⟨h3, h4⟩ := h1
      rw [hs] at h3
      have h5 := Option.some.inj h3
      have h6 : t = 100 + c' := congrArg Prod.fst h5
      omega
theorem mc_ce_hi {kt : Nat → Option mc_E} {M : mc_M} {a : Nat} (h : 256 ≤ a) : mc_ce kt M a = M[a - 256]? := if_neg (by omega)
theorem mc_ce_lo {kt : Nat → Option mc_E} {M : mc_M} {a : Nat} (h : a < 256) : mc_ce kt M a = kt a := if_pos h
/-- one cell written -/
theorem wq_R.set {kt : Nat → Option mc_E} {M : mc_M} {T : wq_T} {H H' : wq_H} (h : wq_R kt M T H) {a : Nat} (ha : 256 ≤ a) {e0 e : mc_E} (he : M[a - 256]? = some e0) (hz : mc_es e = mc_es e0) (hc : wq_c (T.1 a) (H' a) e) (ho : ∀ b, b ≠ a → H' b = H b) : wq_R kt (M.set (a - 256) e) T H' := by
  have hlt : a - 256 < M.length := (List.getElem?_eq_some_iff.mp he).1
  refine ⟨by rw [List.length_set]; exact h.1, by rw [mc_sz_set he hz]; exact h.2.1, fun b e' hb => ?_, fun b hb => ?_⟩
  · by_cases hba : b = a
    · subst hba
      rw [mc_ce_hi ha, List.getElem?_set_self hlt] at hb
      cases hb
      exact hc
    · rw [ho b hba]
      refine h.2.2.1 b e' ?_
      by_cases hb0 : b < 256
      · rw [mc_ce_lo hb0] at hb ⊢
        exact hb
      · rw [mc_ce_hi (by omega)] at hb ⊢
        rw [List.getElem?_set_ne (by omega)] at hb
        exact hb
  · refine h.2.2.2 b ?_
    by_cases hb0 : b < 256
    · rw [mc_ce_lo hb0] at hb ⊢
      exact hb
    · rw [mc_ce_hi (by omega)] at hb ⊢
      rw [List.getElem?_eq_none_iff] at hb ⊢
      rw [List.length_set] at hb
      exact hb
theorem wq_R.putf {kt : Nat → Option mc_E} {M : mc_M} {T : wq_T} {H : wq_H} (h : wq_R kt M T H) {a c j : Nat} {fs : List Value} (ha : 256 ≤ a) (he : M[a - 256]? = some (.inr (c, fs))) {z : Int} (hz : wq_in (wq_fk c j) z) : wq_R kt (M.set (a - 256) (.inr (c, fs.set j (wq_v (wq_fk c j) z)))) T (wq_u H a j z) := by
  have h0 := h.2.2.1 a (.inr (c, fs)) (by rw [mc_ce_hi ha]; exact he)
  obtain ⟨h1, h2⟩ := h0
  refine h.set ha he (by simp [mc_es]) ⟨by rw [List.length_set]; exact h1, fun i v hv => ?_⟩ (fun b hb => by funext i; exact wq_u_na hb i)
  by_cases hij : i = j
  · subst hij
    have hl : i < fs.length := by
      have := (List.getElem?_eq_some_iff.mp hv).1
      rw [List.length_set] at this
      exact this
    rw [List.getElem?_set_self hl] at hv
    cases hv
    rw [wq_u_eq]
    exact ⟨rfl, hz⟩
  · rw [List.getElem?_set_ne (fun q => hij q.symm)] at hv
    rw [wq_u_ne (fun q => hij q.2)]
    exact h2 i v hv
theorem wq_R.puta {kt : Nat → Option mc_E} {M : mc_M} {T : wq_T} {H : wq_H} (h : wq_R kt M T H) {a t n j : Nat} {f : Nat → Value} (ha : 256 ≤ a) (he : M[a - 256]? = some (.inl (t, n, f))) {z : Int} (hz : wq_in (wq_ak t) z) : wq_R kt (M.set (a - 256) (.inl (t, n, updV f j (wq_v (wq_ak t) z)))) T (wq_u H a j z) := by
  have h0 := h.2.2.1 a (.inl (t, n, f)) (by rw [mc_ce_hi ha]; exact he)
  obtain ⟨h1, h2, h3⟩ := h0
  refine h.set ha he (by simp [mc_es]) ⟨h1, h2, fun i hi => ?_⟩ (fun b hb => by funext i; exact wq_u_na hb i)
  by_cases hij : i = j
  · subst hij
    rw [wq_u_eq]
    exact ⟨by unfold updV; rw [if_pos rfl], hz⟩
  · rw [wq_u_ne (fun q => hij q.2)]
    have := h3 i hi
    exact ⟨by unfold updV; rw [if_neg hij]; exact this.1, this.2⟩
end
section
/-! WHAT A RUN COMES TO (own work): more instructions and deeper calls change no run; wp: from this place the method ends so -/
section WQ1

variable {kt : Nat → Option mc_E} {own nL : Nat} {ini : Bool} {ret : Option FieldType} {cc : ByteArray}
theorem mc_cal_mono {call call' : Nat → List Value → mc_M → Option mc_R} (hc : ∀ (k : Nat) (as : List Value) (M : mc_M) (w : mc_R), call k as M = some w → call' k as M = some w) {sort idx pc : Nat} {L : List (Nat × Value)} {st : List Value} {M : mc_M} {r : mc_S ⊕ mc_R} (h : mc_cal call own sort idx pc L st M = some r) : mc_cal call' own sort idx pc L st M = some r := by
  unfold mc_cal at h ⊢
  split at h
  · next en he =>
    split at h
    · next q hq =>
      split at h
      · next w hw =>
        rw [hc _ _ _ _ hw]
        exact h
      · cases h
    · cases h
  · cases h
/-- a call link that names a method has no other meaning -/
theorem mc_cal_or {call call' : Nat → List Value → mc_M → Option mc_R} (hc : ∀ (k : Nat) (as : List Value) (M : mc_M) (w : mc_R), call k as M = some w → call' k as M = some w) {sort idx pc : Nat} {L : List (Nat × Value)} {st : List Value} {M : mc_M} {b : mc_O} {r : mc_S ⊕ mc_R} (hx : b ≠ none → mc_find (mc_ml.getD own []) idx = none) (h : mc_or (mc_cal call own sort idx pc L st M) b = some r) : mc_or (mc_cal call' own sort idx pc L st M) b = some r := by
  rcases mc_or_t h with h1 | h1
  · rw [mc_cal_mono hc h1]
    rfl
  · have h2 := hx (by rw [h1]; exact Option.some_ne_none _)
    have h3 : ∀ c9 : Nat → List Value → mc_M → Option mc_R, mc_cal c9 own sort idx pc L st M = none := fun c9 => by
      unfold mc_cal
      rw [h2]
    rw [h3]
    exact h1
/-- links of the JDK's methods are no links of ours -/
def mc_apart (own : Nat) (l : List Nat) : Bool := l.all (fun i => (mc_find (mc_ml.getD own []) i).isNone)
theorem mc_apart_ok : (List.range 24).all (fun own => mc_apart own ((mc_jl.getD own []).map Prod.fst) && mc_apart own ((mc_pl.getD own []).map Prod.fst) && mc_apart own ((mc_ol.getD own []).map Prod.fst)) = true := by decide +kernel
theorem mc_len24 : mc_jl.length ≤ 24 ∧ mc_pl.length ≤ 24 ∧ mc_ol.length ≤ 24 := by decide +kernel
theorem mc_find_fst {α : Type} {l : List (Nat × α)} {i : Nat} {a : α} (h : mc_find l i = some a) : i ∈ l.map Prod.fst := List.mem_map.mpr ⟨_, mc_find_mem h, rfl⟩
theorem mc_own24 {α : Type} {l : List (List (Nat × α))} (hl : l.length ≤ 24) {own i : Nat} {a : α} (h : mc_find (l.getD own []) i = some a) : own < 24 := by
  by_cases ho : own < l.length
  · omega
  · rw [List.getD_eq_getElem?_getD, List.getElem?_eq_none (by omega)] at h
    cases h
theorem mc_apart_of {own i : Nat} (ho : own < 24) (h : i ∈ (mc_jl.getD own []).map Prod.fst ∨ i ∈ (mc_pl.getD own []).map Prod.fst ∨ i ∈ (mc_ol.getD own []).map Prod.fst) : mc_find (mc_ml.getD own []) i = none := by
  have h1 := List.all_eq_true.mp mc_apart_ok own (List.mem_range.mpr ho)
  simp only [Bool.and_eq_true] at h1
  rcases h with h | h | h
  · exact Option.isNone_iff_eq_none.mp (List.all_eq_true.mp h1.1.1 i h)
  · exact Option.isNone_iff_eq_none.mp (List.all_eq_true.mp h1.1.2 i h)
  · exact Option.isNone_iff_eq_none.mp (List.all_eq_true.mp h1.2 i h)
theorem mc_math_x {idx pc : Nat} {L : List (Nat × Value)} {st : List Value} {M : mc_M} (h : mc_math own idx pc L st M ≠ none) : mc_find (mc_ml.getD own []) idx = none := by
  unfold mc_math at h
  split at h
  · next e he => exact mc_apart_of (mc_own24 mc_len24.1 he) (Or.inl (mc_find_fst he))
  · exact absurd rfl h
theorem mc_prim_x {idx pc : Nat} {L : List (Nat × Value)} {st : List Value} {M : mc_M} (h : mc_prim own idx pc L st M ≠ none) : mc_find (mc_ml.getD own []) idx = none := by
  unfold mc_prim at h
  split at h
  · next e he => exact mc_apart_of (mc_own24 mc_len24.2.1 he) (Or.inr (Or.inl (mc_find_fst he)))
  · exact absurd rfl h
theorem mc_obj_x {idx pc : Nat} {L : List (Nat × Value)} {st : List Value} {M : mc_M} (h : mc_obj own idx pc L st M ≠ none) : mc_find (mc_ml.getD own []) idx = none := by
  unfold mc_obj at h
  split at h
  · split at h
    · next e he => exact mc_apart_of (mc_own24 mc_len24.2.2 he) (Or.inr (Or.inr (mc_find_fst he)))
    · exact absurd rfl h
  · exact absurd rfl h
theorem mc_nmap {b : Bool} {o o' : mc_O} {r : mc_S ⊕ mc_R} (hm : o = some r → o' = some r) (h : mc_n b o = some r) : mc_n b o' = some r := by
  obtain ⟨h1, h2⟩ := mc_n_t h
  rw [h1]
  exact hm h2
set_option maxHeartbeats 4000000 in
theorem mc_step_mono {call call' : Nat → List Value → mc_M → Option mc_R} (hc : ∀ (k : Nat) (as : List Value) (M : mc_M) (w : mc_R), call k as M = some w → call' k as M = some w) {x : Instr} {n : Nat} {S : mc_S} {r : mc_S ⊕ mc_R} (h : mc_step kt call own nL ini ret x n S = some r) : mc_step kt call' own nL ini ret x n S = some r := by
  cases x with
  | invokevirtual i => exact mc_nmap (fun h => mc_cal_or hc mc_prim_x h) h
  | invokestatic i => exact mc_nmap (fun h => mc_cal_or hc mc_math_x h) h
  | invokespecial i => exact mc_nmap (fun h => mc_cal_or hc mc_obj_x h) h
  | if_acmp c o => cases c <;> exact h
  | if_icmp c o => cases c <;> exact h
  | ifCond c o => cases c <;> exact h
  | multianewarray i j =>
    match j, h with
    | 2, h => exact h
    | 0, h => exact h
    | 1, h => exact h
    | j + 3, h => exact h
  | _ => exact h
theorem mc_loop_mono {call call' : Nat → List Value → mc_M → Option mc_R} (hc : ∀ (k : Nat) (as : List Value) (M : mc_M) (w : mc_R), call k as M = some w → call' k as M = some w) : ∀ (n n' : Nat) (S : mc_S) (w : mc_R), n ≤ n' → mc_loop kt call own nL ini ret cc n S = some w → mc_loop kt call' own nL ini ret cc n' S = some w
  | 0, _, _, _, _, h => by cases h
  | n + 1, 0, _, _, hn, _ => absurd hn (by omega)
  | n + 1, n' + 1, S, w, hn, h => by
    unfold mc_loop at h ⊢
    split at h
    · next x k hd =>
      split at h
      · next S1 hs =>
        rw [mc_step_mono hc hs]
        exact mc_loop_mono hc n n' S1 w (by omega) h
      · next w' hs =>
        rw [mc_step_mono hc hs]
        exact h
      · cases h
    · cases h
theorem mc_call_mono {F F' : Nat} (hF : F ≤ F') : ∀ (d d' : Nat), d ≤ d' → ∀ (k : Nat) (as : List Value) (M : mc_M) (w : mc_R), mc_call kt F d k as M = some w → mc_call kt F' d' k as M = some w
  | 0, _, _, _, _, _, _, h => by cases h
  | d + 1, 0, hd, _, _, _, _, _ => absurd hd (by omega)
  | d + 1, d' + 1, hd, k, as, M, w, h => by
    unfold mc_call at h ⊢
    split at h
    · next q hq =>
      split at h
      · next hl =>
        exact mc_loop_mono (mc_call_mono hF d d' (by omega)) F F' _ w hF h
      · cases h
    · cases h
end WQ1
/-- what a method's instructions are read with: class, locals, constructor, answer -/
abbrev wq_E : Type := Nat × Nat × Bool × Option FieldType
def wq_en (k : Nat) : Option wq_E := (mc_mt k).map (fun q => (q.1, q.2.2.2.1, q.2.2.2.2.2.2 == 2, q.2.2.2.2.1))
def wq_lp (kt : Nat → Option mc_E) (F d k n : Nat) (S : mc_S) : Option mc_R := match mc_mt k with
  | some q => mc_loop kt (mc_call kt F d) q.1 q.2.2.2.1 (q.2.2.2.2.2.2 == 2) q.2.2.2.2.1 q.2.2.1 n S
  | none => none
/-- one instruction, and then K -/
def wq_s (kt : Nat → Option mc_E) (d : Nat) (E : wq_E) (x : Instr) (n pc : Nat) (L : List (Nat × Value)) (st : List Value) (T : wq_T) (H : wq_H) (K : Nat → List (Nat × Value) → List Value → wq_T → wq_H → Prop) : Prop :=
  ∀ M, wq_R kt M T H → ∃ (F pc' : Nat) (L' : List (Nat × Value)) (st' : List Value) (M' : mc_M) (T' : wq_T) (H' : wq_H), mc_step kt (mc_call kt F d) E.1 E.2.1 E.2.2.1 E.2.2.2 x n (pc, L, st, M) = some (.inl (pc', L', st', M')) ∧ wq_R kt M' T' H' ∧ K pc' L' st' T' H'
/-- from this place method k ends, and Q holds of its answer and its end -/
def wp (kt : Nat → Option mc_E) (d k pc : Nat) (L : List (Nat × Value)) (st : List Value) (T : wq_T) (H : wq_H) (Q : Option Value → wq_T → wq_H → Prop) : Prop :=
  ∀ M, wq_R kt M T H → ∃ (F n : Nat) (w : mc_R) (T' : wq_T) (H' : wq_H), wq_lp kt F d k n (pc, L, st, M) = some w ∧ wq_R kt w.2 T' H' ∧ Q w.1 T' H'
/-- method k, called with these values, ends, and Q holds -/
def wpc (kt : Nat → Option mc_E) (d k : Nat) (as : List Value) (T : wq_T) (H : wq_H) (Q : Option Value → wq_T → wq_H → Prop) : Prop :=
  ∀ M, wq_R kt M T H → ∃ (F : Nat) (w : mc_R) (T' : wq_T) (H' : wq_H), mc_call kt F d k as M = some w ∧ wq_R kt w.2 T' H' ∧ Q w.1 T' H'
theorem wpc.imp {kt : Nat → Option mc_E} {d k : Nat} {as : List Value} {T : wq_T} {H : wq_H} {Q Q' : Option Value → wq_T → wq_H → Prop} (h : wpc kt d k as T H Q) (hQ : ∀ r T' H', Q r T' H' → Q' r T' H') : wpc kt d k as T H Q' := fun M hM => by
  obtain ⟨F, w, T', H', h1, h2, h3⟩ := h M hM
  exact ⟨F, w, T', H', h1, h2, hQ _ _ _ h3⟩
theorem wpc.deep {kt : Nat → Option mc_E} {d d' k : Nat} {as : List Value} {T : wq_T} {H : wq_H} {Q : Option Value → wq_T → wq_H → Prop} (h : wpc kt d k as T H Q) (hd : d ≤ d') : wpc kt d' k as T H Q := fun M hM => by
  obtain ⟨F, w, T', H', h1, h2, h3⟩ := h M hM
  exact ⟨F, w, T', H', mc_call_mono (Nat.le_refl _) d d' hd _ _ _ _ h1, h2, h3⟩
theorem wp.imp {kt : Nat → Option mc_E} {d k pc : Nat} {L : List (Nat × Value)} {st : List Value} {T : wq_T} {H : wq_H} {Q Q' : Option Value → wq_T → wq_H → Prop} (h : wp kt d k pc L st T H Q) (hQ : ∀ r T' H', Q r T' H' → Q' r T' H') : wp kt d k pc L st T H Q' := fun M hM => by
  obtain ⟨F, n, w, T', H', h1, h2, h3⟩ := h M hM
  exact ⟨F, n, w, T', H', h1, h2, hQ _ _ _ h3⟩
theorem wq_en_mt {k : Nat} {E : wq_E} (he : wq_en k = some E) : ∃ q, mc_mt k = some q ∧ E = (q.1, q.2.2.2.1, q.2.2.2.2.2.2 == 2, q.2.2.2.2.1) := by
  unfold wq_en at he
  obtain ⟨q, h1, h2⟩ := Option.map_eq_some_iff.mp he
  exact ⟨q, h1, h2.symm⟩
/-- one instruction of a method -/
theorem wp_of {kt : Nat → Option mc_E} {d k pc : Nat} {L : List (Nat × Value)} {st : List Value} {T : wq_T} {H : wq_H} {Q : Option Value → wq_T → wq_H → Prop} {E : wq_E} {x : Instr} {n : Nat} (he : wq_en k = some E) (hd : mc_cd k pc = some (x, n)) (h : wq_s kt d E x n pc L st T H (fun pc' L' st' T' H' => wp kt d k pc' L' st' T' H' Q)) : wp kt d k pc L st T H Q := fun M hM => by
  obtain ⟨q, hq, rfl⟩ := wq_en_mt he
  obtain ⟨F1, pc', L', st', M', T', H', h1, h2, h3⟩ := h M hM
  obtain ⟨F2, n2, w, T2, H2, h4, h5, h6⟩ := h3 M' h2
  refine ⟨max F1 F2, n2 + 1, w, T2, H2, ?_, h5, h6⟩
  have hd' := mc_cd_ok hq hd
  unfold wq_lp at h4 ⊢
  rw [hq] at h4 ⊢
  dsimp only at h4 ⊢
  unfold mc_loop
  dsimp only
  rw [hd']
  dsimp only
  rw [mc_step_mono (mc_call_mono (Nat.le_max_left F1 F2) d d (Nat.le_refl _)) h1]
  exact mc_loop_mono (mc_call_mono (Nat.le_max_right F1 F2) d d (Nat.le_refl _)) n2 n2 _ w (Nat.le_refl _) h4
/-- a method's end -/
theorem wp_end {kt : Nat → Option mc_E} {d k pc : Nat} {L : List (Nat × Value)} {st : List Value} {T : wq_T} {H : wq_H} {Q : Option Value → wq_T → wq_H → Prop} {E : wq_E} {x : Instr} {n : Nat} {r : Option Value} (he : wq_en k = some E) (hd : mc_cd k pc = some (x, n)) (h : ∀ M : mc_M, mc_step kt (mc_call kt 0 d) E.1 E.2.1 E.2.2.1 E.2.2.2 x n (pc, L, st, M) = some (.inr (r, M))) (hQ : Q r T H) : wp kt d k pc L st T H Q := fun M hM => by
  obtain ⟨q, hq, rfl⟩ := wq_en_mt he
  refine ⟨0, 1, (r, M), T, H, ?_, hM, hQ⟩
  have hd' := mc_cd_ok hq hd
  unfold wq_lp
  rw [hq]
  dsimp only
  unfold mc_loop
  dsimp only
  rw [hd']
  dsimp only
  rw [h M]
theorem wp_enter {kt : Nat → Option mc_E} {d k : Nat} {as : List Value} {T : wq_T} {H : wq_H} {Q : Option Value → wq_T → wq_H → Prop} {E : wq_E} {L : List (Nat × Value)} (he : wq_en k = some E) (hl : (lg_sl as).length ≤ E.2.1) (hL : lv_args 0 as = L) (h : wp kt d k 0 L [] T H Q) : wpc kt (d + 1) k as T H Q := fun M hM => by
  subst hL
  obtain ⟨q, hq, rfl⟩ := wq_en_mt he
  obtain ⟨F, n, w, T', H', h1, h2, h3⟩ := h M hM
  refine ⟨max F n, w, T', H', ?_, h2, h3⟩
  unfold wq_lp at h1
  rw [hq] at h1
  dsimp only at h1
  unfold mc_call
  rw [hq]
  dsimp only
  rw [decide_eq_true hl]
  exact mc_loop_mono (mc_call_mono (Nat.le_max_left F n) d d (Nat.le_refl _)) n (max F n) _ w (Nat.le_max_right F n) h1
end
section
/-! ROWS: an instruction over pure memory (own work, wip/gen2/rows.py) -/
theorem lg_cmp_of {x y : Int} (hx : wL x) (hy : wL y) : lg_cmp (Int64.ofInt x) (Int64.ofInt y) = Int32.ofInt (if x < y then -1 else if x = y then 0 else 1) := by
  have e1 : (Int64.ofInt x < Int64.ofInt y) ↔ x < y := by rw [Int64.lt_iff_toInt_lt, wL_t hx, wL_t hy]
  have e2 : (Int64.ofInt x = Int64.ofInt y) ↔ x = y := by rw [← Int64.toInt_inj, wL_t hx, wL_t hy]
  have e3 : (Int64.ofInt y < Int64.ofInt x) ↔ y < x := by rw [Int64.lt_iff_toInt_lt, wL_t hx, wL_t hy]
  unfold lg_cmp
  simp only [e1, e2, e3]
  by_cases h1 : x < y
  · have h2 : x ≠ y := by omega
    have h3 : ¬ y < x := by omega
    simp [h1, h2, h3]
  · by_cases h2 : x = y
    · subst h2
      simp
    · have h3 : y < x := by omega
      simp [h1, h2, h3]
theorem wq_lt {x y : Int} (hx : wI x) (hy : wI y) : (Int32.ofInt x < Int32.ofInt y) ↔ x < y := by rw [Int32.lt_iff_toInt_lt, wI_t hx, wI_t hy]
theorem wq_le {x y : Int} (hx : wI x) (hy : wI y) : (Int32.ofInt x ≤ Int32.ofInt y) ↔ x ≤ y := by rw [Int32.le_iff_toInt_le, wI_t hx, wI_t hy]
theorem wq_eq {x y : Int} (hx : wI x) (hy : wI y) : (Int32.ofInt x = Int32.ofInt y) ↔ x = y := by rw [← Int32.toInt_inj, wI_t hx, wI_t hy]
theorem wq_ix {z : Int} {n : Nat} (h0 : 0 ≤ z) (h1 : z < n) (hn : n ≤ 2147483648) : mc_in (Int32.ofInt z) n = true ∧ (Int32.ofInt z).toNatClampNeg = z.toNat := by
  have hw : wI z := ⟨by omega, by omega⟩
  have e : (Int32.ofInt z).toNatClampNeg = z.toNat := by
    show (Int32.ofInt z).toInt.toNat = z.toNat
    rw [wI_t hw]
  refine ⟨?_, e⟩
  unfold mc_in
  rw [decide_eq_true_eq, e]
  intro h
  rcases h with h | h
  · have := (wq_lt hw (y := 0) ⟨by omega, by omega⟩).mp h
    omega
  · omega
/-- ints that aren't computed as whole numbers -/
def wq_w (x : Int) : Int := (Int32.ofInt x).toInt
def wq_and (x y : Int) : Int := (Int32.ofInt x &&& Int32.ofInt y).toInt
def wq_or (x y : Int) : Int := (Int32.ofInt x ||| Int32.ofInt y).toInt
def wq_xor (x y : Int) : Int := (Int32.ofInt x ^^^ Int32.ofInt y).toInt
def wq_shl (x y : Int) : Int := (Int32.ofInt x <<< (Int32.ofInt y &&& 31)).toInt
def wq_shr (x y : Int) : Int := (Int32.ofInt x >>> (Int32.ofInt y &&& 31)).toInt
def wq_ushr (x y : Int) : Int := ((Int32.ofInt x).toUInt32 >>> ((Int32.ofInt y).toUInt32 &&& Int32.toUInt32 31)).toInt32.toInt
def wq_div (x y : Int) : Int := (Int32.ofInt x / Int32.ofInt y).toInt
def wq_rem (x y : Int) : Int := (Int32.ofInt x - Int32.ofInt x / Int32.ofInt y * Int32.ofInt y).toInt
def wl_w (x : Int) : Int := (Int64.ofInt x).toInt
def wl_and (x y : Int) : Int := (Int64.ofInt x &&& Int64.ofInt y).toInt
def wl_or (x y : Int) : Int := (Int64.ofInt x ||| Int64.ofInt y).toInt
def wl_shl (x y : Int) : Int := (Int64.ofInt x <<< ((Int32.ofInt y).toInt64 &&& 63)).toInt
def wl_shr (x y : Int) : Int := (Int64.ofInt x >>> ((Int32.ofInt y).toInt64 &&& 63)).toInt
def wl_div (x y : Int) : Int := (Int64.ofInt x / Int64.ofInt y).toInt
def wl_rem (x y : Int) : Int := (Int64.ofInt x - Int64.ofInt x / Int64.ofInt y * Int64.ofInt y).toInt
def wq_i2b (x : Int) : Int := (Int32.ofInt x).toInt8.toInt32.toInt
def wq_cmp (x y : Int) : Int := if x < y then -1 else if x = y then 0 else 1
section WQR

variable {kt : Nat → Option mc_E} {d : Nat} {E : wq_E} {pc pc' : Nat} {L L' : List (Nat × Value)} {st : List Value} {T : wq_T} {H : wq_H} {K : Nat → List (Nat × Value) → List Value → wq_T → wq_H → Prop}
theorem wq_go {x : Instr} {n : Nat} {st' : List Value} (hs : ∀ M : mc_M, mc_step kt (mc_call kt 0 d) E.1 E.2.1 E.2.2.1 E.2.2.2 x n (pc, L, st, M) = some (.inl (pc', L', st', M))) (h : K pc' L' st' T H) : wq_s kt d E x n pc L st T H K := fun M hM => ⟨0, pc', L', st', M, T, H, hs M, hM, h⟩
theorem rw_iconst {i : Int} (hp : pc + 1 = pc') (h : K pc' L (vI i :: st) T H) : wq_s kt d E (.iconst i) 1 pc L (st) T H K := by
  subst hp
  refine wq_go (fun M => ?_) h
  rfl
theorem rw_bipush {i z : Int} (hp : pc + 2 = pc') (hz : (Int8.ofInt i).toInt32 = Int32.ofInt z) (h : K pc' L (vI z :: st) T H) : wq_s kt d E (.bipush i) 2 pc L (st) T H K := by
  subst hp
  refine wq_go (fun M => ?_) h
  show (some (Sum.inl (pc + 2, L, .int (Int8.ofInt i).toInt32 :: st, M)) : mc_O) = _
  rw [hz]
  rfl
theorem rw_sipush {i z : Int} (hp : pc + 3 = pc') (hz : (Int16.ofInt i).toInt32 = Int32.ofInt z) (h : K pc' L (vI z :: st) T H) : wq_s kt d E (.sipush i) 3 pc L (st) T H K := by
  subst hp
  refine wq_go (fun M => ?_) h
  show (some (Sum.inl (pc + 3, L, .int (Int16.ofInt i).toInt32 :: st, M)) : mc_O) = _
  rw [hz]
  rfl
theorem rw_lconst {i : Fin 2} {z : Int} (hp : pc + 1 = pc') (hz : Int64.ofNat (i : Nat) = Int64.ofInt z) (h : K pc' L (vL z :: st) T H) : wq_s kt d E (.lconst i) 1 pc L (st) T H K := by
  subst hp
  refine wq_go (fun M => ?_) h
  show (some (Sum.inl (pc + 1, L, .long (Int64.ofNat (i : Nat)) :: st, M)) : mc_O) = _
  rw [hz]
  rfl
theorem rw_null (hp : pc + 1 = pc') (h : K pc' L (.null :: st) T H) : wq_s kt d E (.aconst_null) 1 pc L (st) T H K := by
  subst hp
  refine wq_go (fun M => ?_) h
  rfl
theorem rw_iload_n {i : Fin 4} {z : Int} (hp : pc + 1 = pc') (hv : mc_find L (i : Nat) = some (vI z)) (h : K pc' L (vI z :: st) T H) : wq_s kt d E (.iload_n i) 1 pc L (st) T H K := by
  subst hp
  refine wq_go (fun M => ?_) h
  show mc_n (1 == 1) (mc_ld mc_isI (i : Nat) 1 pc L st M) = _
  unfold mc_ld
  rw [hv]
  rfl
theorem rw_iload {i : Nat} {z : Int} (hp : pc + 2 = pc') (hv : mc_find L i = some (vI z)) (h : K pc' L (vI z :: st) T H) : wq_s kt d E (.iload i) 2 pc L (st) T H K := by
  subst hp
  refine wq_go (fun M => ?_) h
  show mc_n (2 == 2) (mc_ld mc_isI i 2 pc L st M) = _
  unfold mc_ld
  rw [hv]
  rfl
theorem rw_lload_n {i : Fin 4} {z : Int} (hp : pc + 1 = pc') (hv : mc_find L (i : Nat) = some (vL z)) (h : K pc' L (vL z :: st) T H) : wq_s kt d E (.lload_n i) 1 pc L (st) T H K := by
  subst hp
  refine wq_go (fun M => ?_) h
  show mc_n (1 == 1) (mc_ld mc_isL (i : Nat) 1 pc L st M) = _
  unfold mc_ld
  rw [hv]
  rfl
theorem rw_lload {i : Nat} {z : Int} (hp : pc + 2 = pc') (hv : mc_find L i = some (vL z)) (h : K pc' L (vL z :: st) T H) : wq_s kt d E (.lload i) 2 pc L (st) T H K := by
  subst hp
  refine wq_go (fun M => ?_) h
  show mc_n (2 == 2) (mc_ld mc_isL i 2 pc L st M) = _
  unfold mc_ld
  rw [hv]
  rfl
theorem rw_aload_n {i : Fin 4} {v : Value} (hp : pc + 1 = pc') (hv : mc_find L (i : Nat) = some v) (ha : mc_isA v = true) (h : K pc' L (v :: st) T H) : wq_s kt d E (.aload_n i) 1 pc L (st) T H K := by
  subst hp
  refine wq_go (fun M => ?_) h
  show mc_n (1 == 1) (mc_ld mc_isA (i : Nat) 1 pc L st M) = _
  unfold mc_ld
  rw [hv]
  dsimp only
  rw [ha]
  rfl
theorem rw_aload {i : Nat} {v : Value} (hp : pc + 2 = pc') (hv : mc_find L i = some v) (ha : mc_isA v = true) (h : K pc' L (v :: st) T H) : wq_s kt d E (.aload i) 2 pc L (st) T H K := by
  subst hp
  refine wq_go (fun M => ?_) h
  show mc_n (2 == 2) (mc_ld mc_isA i 2 pc L st M) = _
  unfold mc_ld
  rw [hv]
  dsimp only
  rw [ha]
  rfl
theorem rw_istore_n {i : Fin 4} {z : Int} (hp : pc + 1 = pc') (hi : decide ((i : Nat) < E.2.1) = true) (hL : mc_s1 L (i : Nat) (vI z) = L') (h : K pc' L' (st) T H) : wq_s kt d E (.istore_n i) 1 pc L (vI z :: st) T H K := by
  subst hp
  refine wq_go (fun M => ?_) h
  subst hL
  show mc_n (1 == 1) (mc_n (mc_isI (vI z) && decide ((i : Nat) < E.2.1)) (mc_go (pc + 1) (mc_s1 L (i : Nat) (vI z)) st M)) = _
  rw [hi]
  rfl
theorem rw_istore {i : Nat} {z : Int} (hp : pc + 2 = pc') (hi : decide (i < E.2.1) = true) (hL : mc_s1 L i (vI z) = L') (h : K pc' L' (st) T H) : wq_s kt d E (.istore i) 2 pc L (vI z :: st) T H K := by
  subst hp
  refine wq_go (fun M => ?_) h
  subst hL
  show mc_n (2 == 2) (mc_n (mc_isI (vI z) && decide (i < E.2.1)) (mc_go (pc + 2) (mc_s1 L i (vI z)) st M)) = _
  rw [hi]
  rfl
theorem rw_astore_n {i : Fin 4} {v : Value} (hp : pc + 1 = pc') (hi : decide ((i : Nat) < E.2.1) = true) (ha : mc_isA v = true) (hL : mc_s1 L (i : Nat) (v) = L') (h : K pc' L' (st) T H) : wq_s kt d E (.astore_n i) 1 pc L (v :: st) T H K := by
  subst hp
  refine wq_go (fun M => ?_) h
  subst hL
  show mc_n (1 == 1) (mc_n (mc_isA (v) && decide ((i : Nat) < E.2.1)) (mc_go (pc + 1) (mc_s1 L (i : Nat) (v)) st M)) = _
  rw [hi]
  rw [ha]
  rfl
theorem rw_astore {i : Nat} {v : Value} (hp : pc + 2 = pc') (hi : decide (i < E.2.1) = true) (ha : mc_isA v = true) (hL : mc_s1 L i (v) = L') (h : K pc' L' (st) T H) : wq_s kt d E (.astore i) 2 pc L (v :: st) T H K := by
  subst hp
  refine wq_go (fun M => ?_) h
  subst hL
  show mc_n (2 == 2) (mc_n (mc_isA (v) && decide (i < E.2.1)) (mc_go (pc + 2) (mc_s1 L i (v)) st M)) = _
  rw [hi]
  rw [ha]
  rfl
theorem rw_lstore_n {i : Fin 4} {z : Int} (hp : pc + 1 = pc') (hi : decide ((i : Nat) + 1 < E.2.1) = true) (hL : mc_s2 L (i : Nat) (vL z) = L') (h : K pc' L' (st) T H) : wq_s kt d E (.lstore_n i) 1 pc L (vL z :: st) T H K := by
  subst hp
  refine wq_go (fun M => ?_) h
  subst hL
  show mc_n (1 == 1) (mc_n (mc_isL (vL z) && decide ((i : Nat) + 1 < E.2.1)) (mc_go (pc + 1) (mc_s2 L (i : Nat) (vL z)) st M)) = _
  rw [hi]
  rfl
theorem rw_lstore {i : Nat} {z : Int} (hp : pc + 2 = pc') (hi : decide (i + 1 < E.2.1) = true) (hL : mc_s2 L i (vL z) = L') (h : K pc' L' (st) T H) : wq_s kt d E (.lstore i) 2 pc L (vL z :: st) T H K := by
  subst hp
  refine wq_go (fun M => ?_) h
  subst hL
  show mc_n (2 == 2) (mc_n (mc_isL (vL z) && decide (i + 1 < E.2.1)) (mc_go (pc + 2) (mc_s2 L i (vL z)) st M)) = _
  rw [hi]
  rfl
theorem rw_iinc {i : Nat} {k z : Int} (hp : pc + 3 = pc') (hv : mc_find L i = some (vI z)) (hi : decide (i < E.2.1) = true) (hL : mc_s1 L i (vI (z + k)) = L') (h : K pc' L' (st) T H) : wq_s kt d E (.iinc i k) 3 pc L (st) T H K := by
  subst hp
  refine wq_go (fun M => ?_) h
  subst hL
  show mc_n (3 == 3) (mc_inc E.2.1 i k pc L st M) = _
  unfold mc_inc
  rw [hv]
  show mc_n (3 == 3) (mc_n (decide (i < E.2.1)) (mc_go (pc + 3) (mc_s1 L i (.int (Int32.ofInt z + Int32.ofInt k))) st M)) = _
  rw [hi, ← Int32.ofInt_add]
  rfl
theorem rw_iadd {x y : Int} (hp : pc + 1 = pc') (h : K pc' L (vI (x + y) :: st) T H) : wq_s kt d E (.iadd) 1 pc L (vI y :: vI x :: st) T H K := by
  subst hp
  refine wq_go (fun M => ?_) h
  show (some (Sum.inl (pc + 1, L, .int (Int32.ofInt x + Int32.ofInt y) :: st, M)) : mc_O) = _
  rw [← Int32.ofInt_add]
  rfl
theorem rw_iaddw {x y : Int} (hp : pc + 1 = pc') (h : K pc' L (vI (wq_w (x + y)) :: st) T H) : wq_s kt d E (.iadd) 1 pc L (vI y :: vI x :: st) T H K := by
  subst hp
  refine wq_go (fun M => ?_) h
  show (some (Sum.inl (pc + 1, L, .int (Int32.ofInt x + Int32.ofInt y) :: st, M)) : mc_O) = _
  rw [← Int32.ofInt_add]
  unfold vI wq_w
  rw [Int32.ofInt_toInt]
theorem rw_isub {x y : Int} (hp : pc + 1 = pc') (h : K pc' L (vI (x - y) :: st) T H) : wq_s kt d E (.isub) 1 pc L (vI y :: vI x :: st) T H K := by
  subst hp
  refine wq_go (fun M => ?_) h
  show (some (Sum.inl (pc + 1, L, .int (Int32.ofInt x - Int32.ofInt y) :: st, M)) : mc_O) = _
  rw [← Int32.ofInt_sub]
  rfl
theorem rw_isubw {x y : Int} (hp : pc + 1 = pc') (h : K pc' L (vI (wq_w (x - y)) :: st) T H) : wq_s kt d E (.isub) 1 pc L (vI y :: vI x :: st) T H K := by
  subst hp
  refine wq_go (fun M => ?_) h
  show (some (Sum.inl (pc + 1, L, .int (Int32.ofInt x - Int32.ofInt y) :: st, M)) : mc_O) = _
  rw [← Int32.ofInt_sub]
  unfold vI wq_w
  rw [Int32.ofInt_toInt]
theorem rw_imul {x y : Int} (hp : pc + 1 = pc') (h : K pc' L (vI (x * y) :: st) T H) : wq_s kt d E (.imul) 1 pc L (vI y :: vI x :: st) T H K := by
  subst hp
  refine wq_go (fun M => ?_) h
  show (some (Sum.inl (pc + 1, L, .int (Int32.ofInt x * Int32.ofInt y) :: st, M)) : mc_O) = _
  rw [← Int32.ofInt_mul]
  rfl
theorem rw_imulw {x y : Int} (hp : pc + 1 = pc') (h : K pc' L (vI (wq_w (x * y)) :: st) T H) : wq_s kt d E (.imul) 1 pc L (vI y :: vI x :: st) T H K := by
  subst hp
  refine wq_go (fun M => ?_) h
  show (some (Sum.inl (pc + 1, L, .int (Int32.ofInt x * Int32.ofInt y) :: st, M)) : mc_O) = _
  rw [← Int32.ofInt_mul]
  unfold vI wq_w
  rw [Int32.ofInt_toInt]
theorem rw_iand {x y : Int} (hp : pc + 1 = pc') (h : K pc' L (vI (wq_and x y) :: st) T H) : wq_s kt d E (.iand) 1 pc L (vI y :: vI x :: st) T H K := by
  subst hp
  refine wq_go (fun M => ?_) h
  unfold vI wq_and
  rw [Int32.ofInt_toInt]
  rfl
theorem rw_ior {x y : Int} (hp : pc + 1 = pc') (h : K pc' L (vI (wq_or x y) :: st) T H) : wq_s kt d E (.ior) 1 pc L (vI y :: vI x :: st) T H K := by
  subst hp
  refine wq_go (fun M => ?_) h
  unfold vI wq_or
  rw [Int32.ofInt_toInt]
  rfl
theorem rw_ixor {x y : Int} (hp : pc + 1 = pc') (h : K pc' L (vI (wq_xor x y) :: st) T H) : wq_s kt d E (.ixor) 1 pc L (vI y :: vI x :: st) T H K := by
  subst hp
  refine wq_go (fun M => ?_) h
  unfold vI wq_xor
  rw [Int32.ofInt_toInt]
  rfl
theorem rw_ishl {x y : Int} (hp : pc + 1 = pc') (h : K pc' L (vI (wq_shl x y) :: st) T H) : wq_s kt d E (.ishl) 1 pc L (vI y :: vI x :: st) T H K := by
  subst hp
  refine wq_go (fun M => ?_) h
  unfold vI wq_shl
  rw [Int32.ofInt_toInt]
  rfl
theorem rw_ishr {x y : Int} (hp : pc + 1 = pc') (h : K pc' L (vI (wq_shr x y) :: st) T H) : wq_s kt d E (.ishr) 1 pc L (vI y :: vI x :: st) T H K := by
  subst hp
  refine wq_go (fun M => ?_) h
  unfold vI wq_shr
  rw [Int32.ofInt_toInt]
  rfl
theorem rw_iushr {x y : Int} (hp : pc + 1 = pc') (h : K pc' L (vI (wq_ushr x y) :: st) T H) : wq_s kt d E (.iushr) 1 pc L (vI y :: vI x :: st) T H K := by
  subst hp
  refine wq_go (fun M => ?_) h
  unfold vI wq_ushr
  rw [Int32.ofInt_toInt]
  rfl
theorem rw_idiv {x y : Int} (hp : pc + 1 = pc') (h1 : wI y) (h0 : y ≠ 0) (h : K pc' L (vI (wq_div x y) :: st) T H) : wq_s kt d E (.idiv) 1 pc L (vI y :: vI x :: st) T H K := by
  subst hp
  refine wq_go (fun M => ?_) h
  have hy : ¬ Int32.ofInt y = 0 := fun q => h0 ((wq_eq h1 (y := 0) ⟨by omega, by omega⟩).mp q)
  unfold vI wq_div
  rw [Int32.ofInt_toInt]
  show mc_n (1 == 1) (mc_ii2 (fun x y => if y = 0 then none else some (x / y)) pc L (.int (Int32.ofInt y) :: .int (Int32.ofInt x) :: st) M) = _
  unfold mc_ii2
  dsimp only
  rw [if_neg hy]
  rfl
theorem rw_irem {x y : Int} (hp : pc + 1 = pc') (h1 : wI y) (h0 : y ≠ 0) (h : K pc' L (vI (wq_rem x y) :: st) T H) : wq_s kt d E (.irem) 1 pc L (vI y :: vI x :: st) T H K := by
  subst hp
  refine wq_go (fun M => ?_) h
  have hy : ¬ Int32.ofInt y = 0 := fun q => h0 ((wq_eq h1 (y := 0) ⟨by omega, by omega⟩).mp q)
  unfold vI wq_rem
  rw [Int32.ofInt_toInt]
  show mc_n (1 == 1) (mc_ii2 (fun x y => if y = 0 then none else some (x - x / y * y)) pc L (.int (Int32.ofInt y) :: .int (Int32.ofInt x) :: st) M) = _
  unfold mc_ii2
  dsimp only
  rw [if_neg hy]
  rfl
theorem rw_ineg {x : Int} (hp : pc + 1 = pc') (h : K pc' L (vI (-x) :: st) T H) : wq_s kt d E (.ineg) 1 pc L (vI x :: st) T H K := by
  subst hp
  refine wq_go (fun M => ?_) h
  show (some (Sum.inl (pc + 1, L, .int (-Int32.ofInt x) :: st, M)) : mc_O) = _
  rw [← Int32.ofInt_neg]
  rfl
theorem rw_i2l {x : Int} (hp : pc + 1 = pc') (hx : wI x) (h : K pc' L (vL x :: st) T H) : wq_s kt d E (.i2l) 1 pc L (vI x :: st) T H K := by
  subst hp
  refine wq_go (fun M => ?_) h
  show (some (Sum.inl (pc + 1, L, .long (Int32.ofInt x).toInt64 :: st, M)) : mc_O) = _
  have e : (Int32.ofInt x).toInt64 = Int64.ofInt x := by
    rw [← Int64.toInt_inj, Int32.toInt_toInt64, wI_t hx, wL_t ⟨by have := hx.1; omega, by have := hx.2; omega⟩]
  rw [e]
  rfl
theorem rw_i2b {x : Int} (hp : pc + 1 = pc') (h : K pc' L (vI (wq_i2b x) :: st) T H) : wq_s kt d E (.i2b) 1 pc L (vI x :: st) T H K := by
  subst hp
  refine wq_go (fun M => ?_) h
  unfold vI wq_i2b
  rw [Int32.ofInt_toInt]
  rfl
theorem rw_l2i {x : Int} (hp : pc + 1 = pc') (h : K pc' L (vI (wq_w x) :: st) T H) : wq_s kt d E (.l2i) 1 pc L (vL x :: st) T H K := by
  subst hp
  refine wq_go (fun M => ?_) h
  show (some (Sum.inl (pc + 1, L, .int (Int64.ofInt x).toInt32 :: st, M)) : mc_O) = _
  have e : (Int64.ofInt x).toInt32 = Int32.ofInt x := Int64.toInt32_ofInt
  unfold vI wq_w
  rw [e, Int32.ofInt_toInt]
theorem rw_ladd {x y : Int} (hp : pc + 1 = pc') (h : K pc' L (vL (x + y) :: st) T H) : wq_s kt d E (.ladd) 1 pc L (vL y :: vL x :: st) T H K := by
  subst hp
  refine wq_go (fun M => ?_) h
  show (some (Sum.inl (pc + 1, L, .long (Int64.ofInt x + Int64.ofInt y) :: st, M)) : mc_O) = _
  rw [← Int64.ofInt_add]
  rfl
theorem rw_laddw {x y : Int} (hp : pc + 1 = pc') (h : K pc' L (vL (wl_w (x + y)) :: st) T H) : wq_s kt d E (.ladd) 1 pc L (vL y :: vL x :: st) T H K := by
  subst hp
  refine wq_go (fun M => ?_) h
  show (some (Sum.inl (pc + 1, L, .long (Int64.ofInt x + Int64.ofInt y) :: st, M)) : mc_O) = _
  rw [← Int64.ofInt_add]
  unfold vL wl_w
  rw [Int64.ofInt_toInt]
theorem rw_lsubw {x y : Int} (hp : pc + 1 = pc') (h : K pc' L (vL (wl_w (x - y)) :: st) T H) : wq_s kt d E (.lsub) 1 pc L (vL y :: vL x :: st) T H K := by
  subst hp
  refine wq_go (fun M => ?_) h
  show (some (Sum.inl (pc + 1, L, .long (Int64.ofInt x - Int64.ofInt y) :: st, M)) : mc_O) = _
  rw [← Int64.ofInt_sub]
  unfold vL wl_w
  rw [Int64.ofInt_toInt]
theorem rw_lmul {x y : Int} (hp : pc + 1 = pc') (h : K pc' L (vL (x * y) :: st) T H) : wq_s kt d E (.lmul) 1 pc L (vL y :: vL x :: st) T H K := by
  subst hp
  refine wq_go (fun M => ?_) h
  show (some (Sum.inl (pc + 1, L, .long (Int64.ofInt x * Int64.ofInt y) :: st, M)) : mc_O) = _
  rw [← Int64.ofInt_mul]
  rfl
theorem rw_lmulw {x y : Int} (hp : pc + 1 = pc') (h : K pc' L (vL (wl_w (x * y)) :: st) T H) : wq_s kt d E (.lmul) 1 pc L (vL y :: vL x :: st) T H K := by
  subst hp
  refine wq_go (fun M => ?_) h
  show (some (Sum.inl (pc + 1, L, .long (Int64.ofInt x * Int64.ofInt y) :: st, M)) : mc_O) = _
  rw [← Int64.ofInt_mul]
  unfold vL wl_w
  rw [Int64.ofInt_toInt]
theorem rw_land {x y : Int} (hp : pc + 1 = pc') (h : K pc' L (vL (wl_and x y) :: st) T H) : wq_s kt d E (.land) 1 pc L (vL y :: vL x :: st) T H K := by
  subst hp
  refine wq_go (fun M => ?_) h
  unfold vL wl_and
  rw [Int64.ofInt_toInt]
  rfl
theorem rw_lor {x y : Int} (hp : pc + 1 = pc') (h : K pc' L (vL (wl_or x y) :: st) T H) : wq_s kt d E (.lor) 1 pc L (vL y :: vL x :: st) T H K := by
  subst hp
  refine wq_go (fun M => ?_) h
  unfold vL wl_or
  rw [Int64.ofInt_toInt]
  rfl
theorem rw_lshl {x y : Int} (hp : pc + 1 = pc') (h : K pc' L (vL (wl_shl x y) :: st) T H) : wq_s kt d E (.lshl) 1 pc L (vI y :: vL x :: st) T H K := by
  subst hp
  refine wq_go (fun M => ?_) h
  unfold vL wl_shl
  rw [Int64.ofInt_toInt]
  rfl
theorem rw_lshr {x y : Int} (hp : pc + 1 = pc') (h : K pc' L (vL (wl_shr x y) :: st) T H) : wq_s kt d E (.lshr) 1 pc L (vI y :: vL x :: st) T H K := by
  subst hp
  refine wq_go (fun M => ?_) h
  unfold vL wl_shr
  rw [Int64.ofInt_toInt]
  rfl
theorem rw_ldiv {x y : Int} (hp : pc + 1 = pc') (h1 : wL y) (h0 : y ≠ 0) (h : K pc' L (vL (wl_div x y) :: st) T H) : wq_s kt d E (.ldiv) 1 pc L (vL y :: vL x :: st) T H K := by
  subst hp
  refine wq_go (fun M => ?_) h
  have hy : ¬ Int64.ofInt y = 0 := fun q => h0 (by
    have q1 := congrArg Int64.toInt q
    rw [wL_t h1] at q1
    exact q1)
  unfold vL wl_div
  rw [Int64.ofInt_toInt]
  show mc_n (1 == 1) (mc_ll2 (fun x y => if y = 0 then none else some (x / y)) pc L (.long (Int64.ofInt y) :: .long (Int64.ofInt x) :: st) M) = _
  unfold mc_ll2
  dsimp only
  rw [if_neg hy]
  rfl
theorem rw_lrem {x y : Int} (hp : pc + 1 = pc') (h1 : wL y) (h0 : y ≠ 0) (h : K pc' L (vL (wl_rem x y) :: st) T H) : wq_s kt d E (.lrem) 1 pc L (vL y :: vL x :: st) T H K := by
  subst hp
  refine wq_go (fun M => ?_) h
  have hy : ¬ Int64.ofInt y = 0 := fun q => h0 (by
    have q1 := congrArg Int64.toInt q
    rw [wL_t h1] at q1
    exact q1)
  unfold vL wl_rem
  rw [Int64.ofInt_toInt]
  show mc_n (1 == 1) (mc_ll2 (fun x y => if y = 0 then none else some (x - x / y * y)) pc L (.long (Int64.ofInt y) :: .long (Int64.ofInt x) :: st) M) = _
  unfold mc_ll2
  dsimp only
  rw [if_neg hy]
  rfl
theorem rw_lcmp {x y : Int} (hp : pc + 1 = pc') (hx : wL x) (hy : wL y) (h : K pc' L (vI (wq_cmp x y) :: st) T H) : wq_s kt d E (.lcmp) 1 pc L (vL y :: vL x :: st) T H K := by
  subst hp
  refine wq_go (fun M => ?_) h
  show (some (Sum.inl (pc + 1, L, .int (lg_cmp (Int64.ofInt x) (Int64.ofInt y)) :: st, M)) : mc_O) = _
  rw [lg_cmp_of hx hy]
  rfl
theorem rw_dup {v : Value} (hp : pc + 1 = pc') (hc : (v.category == 1) = true) (h : K pc' L (v :: v :: st) T H) : wq_s kt d E (.dup) 1 pc L (v :: st) T H K := by
  subst hp
  refine wq_go (fun M => ?_) h
  show mc_n (1 == 1) (mc_n (v.category == 1) _) = _
  rw [hc]
  rfl
theorem rw_pop {v : Value} (hp : pc + 1 = pc') (hc : (v.category == 1) = true) (h : K pc' L (st) T H) : wq_s kt d E (.pop) 1 pc L (v :: st) T H K := by
  subst hp
  refine wq_go (fun M => ?_) h
  show mc_n (1 == 1) (mc_n (v.category == 1) _) = _
  rw [hc]
  rfl
theorem rw_pop2 {v : Value} (hp : pc + 1 = pc') (hc : (v.category == 2) = true) (h : K pc' L (st) T H) : wq_s kt d E (.pop2) 1 pc L (v :: st) T H K := by
  subst hp
  refine wq_go (fun M => ?_) h
  show mc_n (1 == 1) (mc_n (v.category == 2) _) = _
  rw [hc]
  rfl
theorem rw_dup2 {v w : Value} (hp : pc + 1 = pc') (hc : (v.category == 2) = false) (hw : (v.category == 1 && w.category == 1) = true) (h : K pc' L (v :: w :: v :: w :: st) T H) : wq_s kt d E (.dup2) 1 pc L (v :: w :: st) T H K := by
  subst hp
  refine wq_go (fun M => ?_) h
  show mc_n (1 == 1) (mc_dup2 pc L (v :: w :: st) M) = _
  unfold mc_dup2
  dsimp only
  rw [hc]
  dsimp only
  rw [hw]
  rfl
theorem wq_br {x : Instr} {n : Nat} {st' : List Value} {b : Bool} {off : Int} {p1 p2 : Nat} (h1 : (pc : Int) + off = (p1 : Int)) (h2 : pc + 3 = p2) (hs : ∀ M : mc_M, mc_step kt (mc_call kt 0 d) E.1 E.2.1 E.2.2.1 E.2.2.2 x n (pc, L, st, M) = mc_br b pc off L st' M) (ht : b = true → K p1 L st' T H) (hf : b = false → K p2 L st' T H) : wq_s kt d E x n pc L st T H K := by
  subst h2
  cases b with
  | true =>
    refine wq_go (fun M => ?_) (ht rfl)
    rw [hs]
    unfold mc_br
    rw [if_pos (by omega), h1]
    rfl
  | false =>
    refine wq_go (fun M => ?_) (hf rfl)
    rw [hs]
    unfold mc_br
    rw [if_pos (by omega)]
    rfl
theorem rw_icmp_eq {x y off : Int} {p1 p2 : Nat} (h1 : (pc : Int) + off = (p1 : Int)) (h2 : pc + 3 = p2) (hx : wI x) (hy : wI y) (ht : x = y → K p1 L st T H) (hf : x ≠ y → K p2 L st T H) : wq_s kt d E (.if_icmp .eq off) 3 pc L (vI y :: vI x :: st) T H K := by
  have e := wq_eq hx hy
  refine wq_br (b := decide (Int32.ofInt x = Int32.ofInt y)) h1 h2 (fun M => rfl) (fun q => ht (e.mp (of_decide_eq_true q))) (fun q => hf ?_)
  have q1 : ¬ (x = y) := fun z => of_decide_eq_false q (e.mpr z)
  omega
theorem rw_if_eq {x off : Int} {p1 p2 : Nat} (h1 : (pc : Int) + off = (p1 : Int)) (h2 : pc + 3 = p2) (hx : wI x) (ht : x = 0 → K p1 L st T H) (hf : x ≠ 0 → K p2 L st T H) : wq_s kt d E (.ifCond .eq off) 3 pc L (vI x :: st) T H K := by
  have hy : wI 0 := ⟨by omega, by omega⟩
  have e := wq_eq (y := 0) hx hy
  refine wq_br (b := decide (Int32.ofInt x = (0 : Int32))) h1 h2 (fun M => rfl) (fun q => ht (e.mp (of_decide_eq_true q))) (fun q => hf ?_)
  have q1 : ¬ (x = 0) := fun z => of_decide_eq_false q (e.mpr z)
  omega
theorem rw_icmp_ne {x y off : Int} {p1 p2 : Nat} (h1 : (pc : Int) + off = (p1 : Int)) (h2 : pc + 3 = p2) (hx : wI x) (hy : wI y) (ht : x ≠ y → K p1 L st T H) (hf : x = y → K p2 L st T H) : wq_s kt d E (.if_icmp .ne off) 3 pc L (vI y :: vI x :: st) T H K := by
  have e := not_congr (wq_eq hx hy)
  refine wq_br (b := decide (¬ Int32.ofInt x = Int32.ofInt y)) h1 h2 (fun M => rfl) (fun q => ht (e.mp (of_decide_eq_true q))) (fun q => hf ?_)
  have q1 : ¬ (x ≠ y) := fun z => of_decide_eq_false q (e.mpr z)
  omega
theorem rw_if_ne {x off : Int} {p1 p2 : Nat} (h1 : (pc : Int) + off = (p1 : Int)) (h2 : pc + 3 = p2) (hx : wI x) (ht : x ≠ 0 → K p1 L st T H) (hf : x = 0 → K p2 L st T H) : wq_s kt d E (.ifCond .ne off) 3 pc L (vI x :: st) T H K := by
  have hy : wI 0 := ⟨by omega, by omega⟩
  have e := not_congr (wq_eq (y := 0) hx hy)
  refine wq_br (b := decide (¬ Int32.ofInt x = (0 : Int32))) h1 h2 (fun M => rfl) (fun q => ht (e.mp (of_decide_eq_true q))) (fun q => hf ?_)
  have q1 : ¬ (x ≠ 0) := fun z => of_decide_eq_false q (e.mpr z)
  omega
theorem rw_icmp_lt {x y off : Int} {p1 p2 : Nat} (h1 : (pc : Int) + off = (p1 : Int)) (h2 : pc + 3 = p2) (hx : wI x) (hy : wI y) (ht : x < y → K p1 L st T H) (hf : y ≤ x → K p2 L st T H) : wq_s kt d E (.if_icmp .lt off) 3 pc L (vI y :: vI x :: st) T H K := by
  have e := wq_lt hx hy
  refine wq_br (b := decide (Int32.ofInt x < Int32.ofInt y)) h1 h2 (fun M => rfl) (fun q => ht (e.mp (of_decide_eq_true q))) (fun q => hf ?_)
  have q1 : ¬ (x < y) := fun z => of_decide_eq_false q (e.mpr z)
  omega
theorem rw_if_lt {x off : Int} {p1 p2 : Nat} (h1 : (pc : Int) + off = (p1 : Int)) (h2 : pc + 3 = p2) (hx : wI x) (ht : x < 0 → K p1 L st T H) (hf : 0 ≤ x → K p2 L st T H) : wq_s kt d E (.ifCond .lt off) 3 pc L (vI x :: st) T H K := by
  have hy : wI 0 := ⟨by omega, by omega⟩
  have e := wq_lt (y := 0) hx hy
  refine wq_br (b := decide (Int32.ofInt x < (0 : Int32))) h1 h2 (fun M => rfl) (fun q => ht (e.mp (of_decide_eq_true q))) (fun q => hf ?_)
  have q1 : ¬ (x < 0) := fun z => of_decide_eq_false q (e.mpr z)
  omega
theorem rw_icmp_ge {x y off : Int} {p1 p2 : Nat} (h1 : (pc : Int) + off = (p1 : Int)) (h2 : pc + 3 = p2) (hx : wI x) (hy : wI y) (ht : y ≤ x → K p1 L st T H) (hf : x < y → K p2 L st T H) : wq_s kt d E (.if_icmp .ge off) 3 pc L (vI y :: vI x :: st) T H K := by
  have e := wq_le hy hx
  refine wq_br (b := decide (Int32.ofInt y ≤ Int32.ofInt x)) h1 h2 (fun M => rfl) (fun q => ht (e.mp (of_decide_eq_true q))) (fun q => hf ?_)
  have q1 : ¬ (y ≤ x) := fun z => of_decide_eq_false q (e.mpr z)
  omega
theorem rw_if_ge {x off : Int} {p1 p2 : Nat} (h1 : (pc : Int) + off = (p1 : Int)) (h2 : pc + 3 = p2) (hx : wI x) (ht : 0 ≤ x → K p1 L st T H) (hf : x < 0 → K p2 L st T H) : wq_s kt d E (.ifCond .ge off) 3 pc L (vI x :: st) T H K := by
  have hy : wI 0 := ⟨by omega, by omega⟩
  have e := wq_le (x := 0) hy hx
  refine wq_br (b := decide ((0 : Int32) ≤ Int32.ofInt x)) h1 h2 (fun M => rfl) (fun q => ht (e.mp (of_decide_eq_true q))) (fun q => hf ?_)
  have q1 : ¬ (0 ≤ x) := fun z => of_decide_eq_false q (e.mpr z)
  omega
theorem rw_icmp_gt {x y off : Int} {p1 p2 : Nat} (h1 : (pc : Int) + off = (p1 : Int)) (h2 : pc + 3 = p2) (hx : wI x) (hy : wI y) (ht : y < x → K p1 L st T H) (hf : x ≤ y → K p2 L st T H) : wq_s kt d E (.if_icmp .gt off) 3 pc L (vI y :: vI x :: st) T H K := by
  have e := wq_lt hy hx
  refine wq_br (b := decide (Int32.ofInt y < Int32.ofInt x)) h1 h2 (fun M => rfl) (fun q => ht (e.mp (of_decide_eq_true q))) (fun q => hf ?_)
  have q1 : ¬ (y < x) := fun z => of_decide_eq_false q (e.mpr z)
  omega
theorem rw_if_gt {x off : Int} {p1 p2 : Nat} (h1 : (pc : Int) + off = (p1 : Int)) (h2 : pc + 3 = p2) (hx : wI x) (ht : 0 < x → K p1 L st T H) (hf : x ≤ 0 → K p2 L st T H) : wq_s kt d E (.ifCond .gt off) 3 pc L (vI x :: st) T H K := by
  have hy : wI 0 := ⟨by omega, by omega⟩
  have e := wq_lt (x := 0) hy hx
  refine wq_br (b := decide ((0 : Int32) < Int32.ofInt x)) h1 h2 (fun M => rfl) (fun q => ht (e.mp (of_decide_eq_true q))) (fun q => hf ?_)
  have q1 : ¬ (0 < x) := fun z => of_decide_eq_false q (e.mpr z)
  omega
theorem rw_icmp_le {x y off : Int} {p1 p2 : Nat} (h1 : (pc : Int) + off = (p1 : Int)) (h2 : pc + 3 = p2) (hx : wI x) (hy : wI y) (ht : x ≤ y → K p1 L st T H) (hf : y < x → K p2 L st T H) : wq_s kt d E (.if_icmp .le off) 3 pc L (vI y :: vI x :: st) T H K := by
  have e := wq_le hx hy
  refine wq_br (b := decide (Int32.ofInt x ≤ Int32.ofInt y)) h1 h2 (fun M => rfl) (fun q => ht (e.mp (of_decide_eq_true q))) (fun q => hf ?_)
  have q1 : ¬ (x ≤ y) := fun z => of_decide_eq_false q (e.mpr z)
  omega
theorem rw_if_le {x off : Int} {p1 p2 : Nat} (h1 : (pc : Int) + off = (p1 : Int)) (h2 : pc + 3 = p2) (hx : wI x) (ht : x ≤ 0 → K p1 L st T H) (hf : 0 < x → K p2 L st T H) : wq_s kt d E (.ifCond .le off) 3 pc L (vI x :: st) T H K := by
  have hy : wI 0 := ⟨by omega, by omega⟩
  have e := wq_le (y := 0) hx hy
  refine wq_br (b := decide (Int32.ofInt x ≤ (0 : Int32))) h1 h2 (fun M => rfl) (fun q => ht (e.mp (of_decide_eq_true q))) (fun q => hf ?_)
  have q1 : ¬ (x ≤ 0) := fun z => of_decide_eq_false q (e.mpr z)
  omega
theorem rw_ifnull_r {off : Int} {a p1 p2 : Nat} (h1 : (pc : Int) + off = (p1 : Int)) (h2 : pc + 3 = p2) (h : K p2 L st T H) : wq_s kt d E (.ifnull off) 3 pc L (.ref a :: st) T H K :=
  wq_br (b := !true) h1 h2 (fun M => rfl) (fun q => by cases q) (fun q => h)
theorem rw_ifnull_n {off : Int} {p1 p2 : Nat} (h1 : (pc : Int) + off = (p1 : Int)) (h2 : pc + 3 = p2) (h : K p1 L st T H) : wq_s kt d E (.ifnull off) 3 pc L (.null :: st) T H K :=
  wq_br (b := true) h1 h2 (fun M => rfl) (fun q => h) (fun q => by cases q)
theorem rw_ifnonnull_r {off : Int} {a p1 p2 : Nat} (h1 : (pc : Int) + off = (p1 : Int)) (h2 : pc + 3 = p2) (h : K p1 L st T H) : wq_s kt d E (.ifnonnull off) 3 pc L (.ref a :: st) T H K :=
  wq_br (b := !false) h1 h2 (fun M => rfl) (fun q => h) (fun q => by cases q)
theorem rw_ifnonnull_n {off : Int} {p1 p2 : Nat} (h1 : (pc : Int) + off = (p1 : Int)) (h2 : pc + 3 = p2) (h : K p2 L st T H) : wq_s kt d E (.ifnonnull off) 3 pc L (.null :: st) T H K :=
  wq_br (b := false) h1 h2 (fun M => rfl) (fun q => by cases q) (fun q => h)
theorem rw_goto {off : Int} {p1 : Nat} (h1 : (pc : Int) + off = (p1 : Int)) (h : K p1 L st T H) : wq_s kt d E (.goto off) 3 pc L st T H K := by
  refine wq_go (fun M => ?_) h
  show mc_n (3 == 3) (mc_jp pc off L st M) = _
  unfold mc_jp
  rw [if_pos (by omega), h1]
  rfl
theorem rw_acmp_eq {off : Int} {x y : Value} {a b : Option Nat} {p1 p2 : Nat} (hx : mc_en x = some a) (hy : mc_en y = some b) (h1 : (pc : Int) + off = (p1 : Int)) (h2 : pc + 3 = p2) (ht : a = b → K p1 L st T H) (hf : a ≠ b → K p2 L st T H) : wq_s kt d E (.if_acmp .eq off) 3 pc L (y :: x :: st) T H K := by
  refine wq_br (b := decide (a = b) == true) h1 h2 (fun M => ?_) (fun q => ht (by simpa using q)) (fun q => hf (by simpa using q))
  show mc_n (3 == 3) (mc_ica true pc off L (y :: x :: st) M) = _
  unfold mc_ica
  dsimp only
  rw [hx, hy]
  rfl
theorem rw_acmp_ne {off : Int} {x y : Value} {a b : Option Nat} {p1 p2 : Nat} (hx : mc_en x = some a) (hy : mc_en y = some b) (h1 : (pc : Int) + off = (p1 : Int)) (h2 : pc + 3 = p2) (ht : a ≠ b → K p1 L st T H) (hf : a = b → K p2 L st T H) : wq_s kt d E (.if_acmp .ne off) 3 pc L (y :: x :: st) T H K := by
  refine wq_br (b := decide (a = b) == false) h1 h2 (fun M => ?_) (fun q => ht (by simpa using q)) (fun q => hf (by simpa using q))
  show mc_n (3 == 3) (mc_ica false pc off L (y :: x :: st) M) = _
  unfold mc_ica
  dsimp only
  rw [hx, hy]
  rfl
theorem rw_tsw {dflt lo hi : Int} {offs : Array Int} {n : Nat} {x : Int} {p1 : Nat} (hx : wI x) (h1 : (if x < lo ∨ hi < x then some dflt else offs[(x - lo).toNat]?) = some ((p1 : Int) - pc)) (h : K p1 L st T H) : wq_s kt d E (.tableswitch dflt lo hi offs) n pc L (vI x :: st) T H K := by
  refine wq_go (fun M => ?_) h
  show mc_tsw dflt lo hi offs pc L (.int (Int32.ofInt x) :: st) M = _
  unfold mc_tsw
  dsimp only
  rw [wI_t hx]
  have hj : mc_jp pc ((p1 : Int) - pc) L st M = some (.inl (p1, L, st, M)) := by
    unfold mc_jp
    rw [if_pos (by omega)]
    have e : ((pc : Int) + ((p1 : Int) - pc)).toNat = p1 := by omega
    rw [e]
    rfl
  split
  · next hc =>
    rw [if_pos hc] at h1
    cases h1
    exact hj
  · next hc =>
    rw [if_neg hc] at h1
    rw [h1]
    exact hj
theorem wq_getf {idx c j n : Nat} {e : Nat × Nat × Bool × String × Nat × Nat} {a : Nat} {v : Value} (he : mc_find (mc_fl.getD E.1 []) idx = some e) (hj : e.1 = c ∧ e.2.1 = j) (hs : T.1 a = some (100 + c, n)) (hc : (decide (a < 256) == decide (20 ≤ c)) = true ∧ (decide (a < 256) || decide (j < mc_N.getD c 0)) = true ∧ j < n) (hv : wq_v (wq_fk c j) (H a j) = v) (hp : pc + 3 = pc') (h : wq_in (wq_fk c j) (H a j) → K pc' L (v :: st) T H) : wq_s kt d E (.getfield idx) 3 pc L (.ref a :: st) T H K := fun M hM => by
  obtain ⟨rfl, rfl⟩ := hj
  obtain ⟨fs, h1, h2, h3⟩ := hM.obj hs
  have hlt : e.2.1 < fs.length := by rw [h2]; exact hc.2.2
  obtain ⟨h4, h5⟩ := h3 e.2.1 _ (List.getElem?_eq_getElem hlt)
  subst hp
  refine ⟨0, pc + 3, L, v :: st, M, T, H, ?_, hM, h h5⟩
  show mc_n (3 == 3) (mc_getf kt E.1 idx pc L (.ref a :: st) M) = _
  unfold mc_getf
  dsimp only
  rw [he]
  dsimp only
  rw [h1]
  dsimp only
  rw [List.getElem?_eq_getElem hlt]
  dsimp only
  rw [hc.1, hc.2.1, h4, hv]
  simp [mc_n, mc_go]
theorem rw_getI {idx c j n : Nat} {e : Nat × Nat × Bool × String × Nat × Nat} {a : Nat} (he : mc_find (mc_fl.getD E.1 []) idx = some e) (hj : e.1 = c ∧ e.2.1 = j) (hs : T.1 a = some (100 + c, n)) (hc : (decide (a < 256) == decide (20 ≤ c)) = true ∧ (decide (a < 256) || decide (j < mc_N.getD c 0)) = true ∧ j < n) (hk : wq_v (wq_fk c j) (H a j) = vI (H a j)) (hp : pc + 3 = pc') (h : K pc' L (vI (H a j) :: st) T H) : wq_s kt d E (.getfield idx) 3 pc L (.ref a :: st) T H K := wq_getf he hj hs hc hk hp (fun _ => h)
theorem rw_getL {idx c j n : Nat} {e : Nat × Nat × Bool × String × Nat × Nat} {a : Nat} (he : mc_find (mc_fl.getD E.1 []) idx = some e) (hj : e.1 = c ∧ e.2.1 = j) (hs : T.1 a = some (100 + c, n)) (hc : (decide (a < 256) == decide (20 ≤ c)) = true ∧ (decide (a < 256) || decide (j < mc_N.getD c 0)) = true ∧ j < n) (hk : wq_v (wq_fk c j) (H a j) = vL (H a j)) (hp : pc + 3 = pc') (h : K pc' L (vL (H a j) :: st) T H) : wq_s kt d E (.getfield idx) 3 pc L (.ref a :: st) T H K := wq_getf he hj hs hc hk hp (fun _ => h)
theorem rw_getR {idx c j n : Nat} {e : Nat × Nat × Bool × String × Nat × Nat} {a b : Nat} (he : mc_find (mc_fl.getD E.1 []) idx = some e) (hj : e.1 = c ∧ e.2.1 = j) (hs : T.1 a = some (100 + c, n)) (hc : (decide (a < 256) == decide (20 ≤ c)) = true ∧ (decide (a < 256) || decide (j < mc_N.getD c 0)) = true ∧ j < n) (hk : wq_v (wq_fk c j) (H a j) = vR (H a j)) (hb : H a j = (b : Int)) (hp : pc + 3 = pc') (h : K pc' L (.ref b :: st) T H) : wq_s kt d E (.getfield idx) 3 pc L (.ref a :: st) T H K := wq_getf he hj hs hc (by rw [hk, hb, vR_of]) hp (fun _ => h)
theorem rw_getN {idx c j n : Nat} {e : Nat × Nat × Bool × String × Nat × Nat} {a : Nat} (he : mc_find (mc_fl.getD E.1 []) idx = some e) (hj : e.1 = c ∧ e.2.1 = j) (hs : T.1 a = some (100 + c, n)) (hc : (decide (a < 256) == decide (20 ≤ c)) = true ∧ (decide (a < 256) || decide (j < mc_N.getD c 0)) = true ∧ j < n) (hk : wq_v (wq_fk c j) (H a j) = vR (H a j)) (hb : H a j = -1) (hp : pc + 3 = pc') (h : K pc' L (.null :: st) T H) : wq_s kt d E (.getfield idx) 3 pc L (.ref a :: st) T H K := wq_getf he hj hs hc (by rw [hk, hb, vR_null]) hp (fun _ => h)
theorem rw_putf {idx c j n : Nat} {e : Nat × Nat × Bool × String × Nat × Nat} {a : Nat} {v : Value} {z : Int} (he : mc_find (mc_fl.getD E.1 []) idx = some e) (hj : e.1 = c ∧ e.2.1 = j) (hs : T.1 a = some (100 + c, n)) (ha : 256 ≤ a) (hc : decide (c < 11) = true ∧ decide (j < mc_N.getD c 0) = true ∧ j < n ∧ (!(mc_T c j).2.2.2 || (E.2.2.1 && E.1 == c && !e.2.2.1)) = true) (hf : mc_fit (mc_t c j) v = true) (hv : wq_v (wq_fk c j) z = v) (hz : wq_in (wq_fk c j) z) (hp : pc + 3 = pc') (h : K pc' L st T (wq_u H a j z)) : wq_s kt d E (.putfield idx) 3 pc L (v :: .ref a :: st) T H K := fun M hM => by
  obtain ⟨rfl, rfl⟩ := hj
  obtain ⟨fs, h1, h2, h3⟩ := hM.obj hs
  rw [mc_ce_hi ha] at h1
  have hlt : e.2.1 < fs.length := by rw [h2]; exact hc.2.2.1
  subst hp
  subst hv
  refine ⟨0, pc + 3, L, st, _, T, wq_u H a e.2.1 z, ?_, hM.putf ha h1 hz, h⟩
  show mc_n (3 == 3) (mc_putf E.1 E.2.2.1 idx pc L (_ :: .ref a :: st) M) = _
  unfold mc_putf
  dsimp only
  rw [he]
  dsimp only
  rw [h1]
  dsimp only
  rw [hc.1, hc.2.1, hc.2.2.2, hf, decide_eq_true ha, decide_eq_true hlt]
  simp [mc_n, mc_go]
theorem wq_ald {a : Nat} {z : Int} {x : Instr} {ok : Nat → Bool} (hx : ∀ M : mc_M, mc_step kt (mc_call kt 0 d) E.1 E.2.1 E.2.2.1 E.2.2.2 x 1 (pc, L, vI z :: .ref a :: st, M) = mc_ald kt ok pc L (vI z :: .ref a :: st) M) {t n : Nat} {v : Value} (hs : T.1 a = some (t, n)) (ht : t < 100 ∧ ok t = true ∧ (decide (a < 256) || decide (t < 7)) = true ∧ n ≤ 2147483648) (h0 : 0 ≤ z) (h1 : z < n) (hv : wq_v (wq_ak t) (H a z.toNat) = v) (hp : pc + 1 = pc') (h : wq_in (wq_ak t) (H a z.toNat) → K pc' L (v :: st) T H) : wq_s kt d E x 1 pc L (vI z :: .ref a :: st) T H K := fun M hM => by
  obtain ⟨f, h2, h3⟩ := hM.arr ht.1 hs
  obtain ⟨h4, h5⟩ := wq_ix h0 h1 ht.2.2.2
  obtain ⟨h6, h7⟩ := h3 z.toNat (by omega)
  subst hp
  refine ⟨0, pc + 1, L, v :: st, M, T, H, ?_, hM, h h7⟩
  rw [hx]
  unfold mc_ald vI
  dsimp only
  rw [h2]
  dsimp only
  rw [h4, ht.2.1, ht.2.2.1, h5, h6, hv]
  rfl
theorem rw_iaload {a t n : Nat} {z : Int} (hs : T.1 a = some (t, n)) (ht : t < 100 ∧ (t == 0) = true ∧ (decide (a < 256) || decide (t < 7)) = true ∧ n ≤ 2147483648) (h0 : 0 ≤ z) (h1 : z < n) (hk : wq_v (wq_ak t) (H a z.toNat) = vI (H a z.toNat)) (hp : pc + 1 = pc') (h : K pc' L (vI (H a z.toNat) :: st) T H) : wq_s kt d E .iaload 1 pc L (vI z :: .ref a :: st) T H K := wq_ald (ok := fun t => t == 0) (fun M => rfl) hs ht h0 h1 hk hp (fun _ => h)
theorem rw_laload {a t n : Nat} {z : Int} (hs : T.1 a = some (t, n)) (ht : t < 100 ∧ (t == 1) = true ∧ (decide (a < 256) || decide (t < 7)) = true ∧ n ≤ 2147483648) (h0 : 0 ≤ z) (h1 : z < n) (hk : wq_v (wq_ak t) (H a z.toNat) = vL (H a z.toNat)) (hp : pc + 1 = pc') (h : K pc' L (vL (H a z.toNat) :: st) T H) : wq_s kt d E .laload 1 pc L (vI z :: .ref a :: st) T H K := wq_ald (ok := fun t => t == 1) (fun M => rfl) hs ht h0 h1 hk hp (fun _ => h)
theorem rw_baload {a t n : Nat} {z : Int} (hs : T.1 a = some (t, n)) (ht : t < 100 ∧ (t == 2 || t == 3) = true ∧ (decide (a < 256) || decide (t < 7)) = true ∧ n ≤ 2147483648) (h0 : 0 ≤ z) (h1 : z < n) (hk : wq_v (wq_ak t) (H a z.toNat) = vI (H a z.toNat)) (hp : pc + 1 = pc') (h : K pc' L (vI (H a z.toNat) :: st) T H) : wq_s kt d E .baload 1 pc L (vI z :: .ref a :: st) T H K := wq_ald (ok := fun t => t == 2 || t == 3) (fun M => rfl) hs ht h0 h1 hk hp (fun _ => h)
theorem rw_aaload {a t n b : Nat} {z : Int} (hs : T.1 a = some (t, n)) (ht : t < 100 ∧ decide (4 ≤ t) = true ∧ (decide (a < 256) || decide (t < 7)) = true ∧ n ≤ 2147483648) (h0 : 0 ≤ z) (h1 : z < n) (hk : wq_v (wq_ak t) (H a z.toNat) = vR (H a z.toNat)) (hb : H a z.toNat = (b : Int)) (hp : pc + 1 = pc') (h : K pc' L (.ref b :: st) T H) : wq_s kt d E .aaload 1 pc L (vI z :: .ref a :: st) T H K := wq_ald (ok := fun t => decide (4 ≤ t)) (fun M => rfl) hs ht h0 h1 (by rw [hk, hb, vR_of]) hp (fun _ => h)
theorem wq_ast {x : Instr} {a t n : Nat} {z y : Int} {v : Value} {ok : Nat → Value → Bool} {w : Nat → Value → Value} (hx : ∀ M : mc_M, mc_step kt (mc_call kt 0 d) E.1 E.2.1 E.2.2.1 E.2.2.2 x 1 (pc, L, v :: vI z :: .ref a :: st, M) = mc_ast kt ok w pc L (v :: vI z :: .ref a :: st) M) (hs : T.1 a = some (t, n)) (ha : 256 ≤ a) (ht : t < 100 ∧ n ≤ 2147483648) (hok : ok t v = true) (hw : w t v = wq_v (wq_ak t) y) (hy : wq_in (wq_ak t) y) (h0 : 0 ≤ z) (h1 : z < n) (hp : pc + 1 = pc') (h : K pc' L st T (wq_u H a z.toNat y)) : wq_s kt d E x 1 pc L (v :: vI z :: .ref a :: st) T H K := fun M hM => by
  obtain ⟨f, h2, h3⟩ := hM.arr ht.1 hs
  rw [mc_ce_hi ha] at h2
  obtain ⟨h4, h5⟩ := wq_ix h0 h1 ht.2
  subst hp
  refine ⟨0, pc + 1, L, st, _, T, wq_u H a z.toNat y, ?_, hM.puta ha h2 hy, h⟩
  rw [hx]
  unfold mc_ast vI
  dsimp only
  rw [h2]
  dsimp only
  rw [h4, hok, decide_eq_true ha, h5, hw]
  rfl
theorem rw_iastore {a n : Nat} {z y : Int} (hs : T.1 a = some (0, n)) (ha : 256 ≤ a) (hn : n ≤ 2147483648) (hy : wI y) (h0 : 0 ≤ z) (h1 : z < n) (hp : pc + 1 = pc') (h : K pc' L st T (wq_u H a z.toNat y)) : wq_s kt d E .iastore 1 pc L (vI y :: vI z :: .ref a :: st) T H K := wq_ast (ok := fun t v => t == 0 && mc_isI v) (w := fun _ v => v) (fun M => rfl) hs ha ⟨by decide, hn⟩ rfl rfl hy h0 h1 hp h
theorem rw_lastore {a n : Nat} {z y : Int} (hs : T.1 a = some (1, n)) (ha : 256 ≤ a) (hn : n ≤ 2147483648) (hy : wL y) (h0 : 0 ≤ z) (h1 : z < n) (hp : pc + 1 = pc') (h : K pc' L st T (wq_u H a z.toNat y)) : wq_s kt d E .lastore 1 pc L (vL y :: vI z :: .ref a :: st) T H K := wq_ast (ok := fun t v => t == 1 && mc_isL v) (w := fun _ v => v) (fun M => rfl) hs ha ⟨by decide, hn⟩ rfl rfl hy h0 h1 hp h
theorem rw_bastore {a n : Nat} {z y : Int} (hs : T.1 a = some (2, n)) (ha : 256 ≤ a) (hn : n ≤ 2147483648) (hy : -128 ≤ y ∧ y ≤ 127) (h0 : 0 ≤ z) (h1 : z < n) (hp : pc + 1 = pc') (h : K pc' L st T (wq_u H a z.toNat y)) : wq_s kt d E .bastore 1 pc L (vI y :: vI z :: .ref a :: st) T H K := by
  refine wq_ast (ok := fun t v => (t == 2 || t == 3) && mc_isI v) (w := fun t v => narrow (mc_ty t) v) (fun M => rfl) hs ha ⟨by decide, hn⟩ rfl ?_ hy h0 h1 hp h
  show Value.int ((Int32.ofInt y).toInt8.toInt32) = vI y
  have e : (Int32.ofInt y).toInt8.toInt32 = Int32.ofInt y := by
    rw [← Int32.toInt_inj, Int8.toInt_toInt32, Int32.toInt_toInt8, wI_t ⟨by omega, by omega⟩]
    rw [Int.bmod_def]
    omega
  rw [e]
  rfl
theorem rw_zastore {a n : Nat} {z y : Int} (hs : T.1 a = some (3, n)) (ha : 256 ≤ a) (hn : n ≤ 2147483648) (hy : 0 ≤ y ∧ y ≤ 1) (h0 : 0 ≤ z) (h1 : z < n) (hp : pc + 1 = pc') (h : K pc' L st T (wq_u H a z.toNat y)) : wq_s kt d E .bastore 1 pc L (vI y :: vI z :: .ref a :: st) T H K := by
  refine wq_ast (ok := fun t v => (t == 2 || t == 3) && mc_isI v) (w := fun t v => narrow (mc_ty t) v) (fun M => rfl) hs ha ⟨by decide, hn⟩ rfl ?_ hy h0 h1 hp h
  have h2 : y = 0 ∨ y = 1 := by omega
  rcases h2 with rfl | rfl
  · show narrow .boolean (.int (Int32.ofInt 0)) = .int (Int32.ofInt 0)
    decide +kernel
  · show narrow .boolean (.int (Int32.ofInt 1)) = .int (Int32.ofInt 1)
    decide +kernel
theorem rw_alen {a t n : Nat} (hs : T.1 a = some (t, n)) (ht : t < 100 ∧ (decide (a < 256) || decide (t < 7)) = true) (hp : pc + 1 = pc') (h : K pc' L (vI n :: st) T H) : wq_s kt d E .arraylength 1 pc L (.ref a :: st) T H K := fun M hM => by
  obtain ⟨f, h2, h3⟩ := hM.arr ht.1 hs
  subst hp
  refine ⟨0, pc + 1, L, vI n :: st, M, T, H, ?_, hM, h⟩
  show mc_n (1 == 1) (mc_len kt pc L (.ref a :: st) M) = _
  unfold mc_len
  dsimp only
  rw [h2]
  dsimp only
  rw [ht.2]
  rfl
theorem rw_gs {idx k : Nat} {e : Nat × Bool × String × Nat × Nat} {q : String × String × String × Nat} (he : mc_find (mc_sl.getD E.1 []) idx = some e) (hq : mc_st[e.1]? = some q) (hk : q.2.2.2 = k) (hp : pc + 3 = pc') (h : K pc' L (.ref k :: st) T H) : wq_s kt d E (.getstatic idx) 3 pc L st T H K := by
  subst hp
  subst hk
  refine wq_go (fun M => ?_) h
  show mc_n (3 == 3) (mc_gs E.1 idx pc L st M) = _
  unfold mc_gs
  rw [he]
  dsimp only
  rw [hq]
  rfl
theorem rw_ldcS {idx k : Nat} {q : Nat × Nat × String × Nat × Nat × Nat} (he : mc_find (mc_cs.getD E.1 []) idx = none) (hq : mc_sr.find? (fun q => q.1 == E.1 && q.2.1 == idx) = some q) (hk : q.2.2.2.1 = k) (hp : pc + 2 = pc') (h : K pc' L (.ref k :: st) T H) : wq_s kt d E (.ldc idx) 2 pc L st T H K := by
  subst hp
  subst hk
  refine wq_go (fun M => ?_) h
  show mc_n (2 == 2) (mc_ldc E.1 idx 2 pc L st M) = _
  unfold mc_ldc
  rw [he]
  dsimp only
  rw [hq]
  rfl
theorem rw_ldc_wI {idx : Nat} {z : Int} {e : Value × Nat × Nat} (he : mc_find (mc_cs.getD E.1 []) idx = some e) (hz : e.1 = vI z) (hp : pc + 3 = pc') (h : K pc' L (vI z :: st) T H) : wq_s kt d E (.ldc_w idx) 3 pc L st T H K := by
  subst hp
  refine wq_go (fun M => ?_) h
  show mc_n (3 == 3) (mc_ldc E.1 idx 3 pc L st M) = _
  unfold mc_ldc
  rw [he]
  dsimp only
  rw [hz]
  rfl
theorem rw_ldc_wS {idx k : Nat} {q : Nat × Nat × String × Nat × Nat × Nat} (he : mc_find (mc_cs.getD E.1 []) idx = none) (hq : mc_sr.find? (fun q => q.1 == E.1 && q.2.1 == idx) = some q) (hk : q.2.2.2.1 = k) (hp : pc + 3 = pc') (h : K pc' L (.ref k :: st) T H) : wq_s kt d E (.ldc_w idx) 3 pc L st T H K := by
  subst hp
  subst hk
  refine wq_go (fun M => ?_) h
  show mc_n (3 == 3) (mc_ldc E.1 idx 3 pc L st M) = _
  unfold mc_ldc
  rw [he]
  dsimp only
  rw [hq]
  rfl
theorem rw_ldc2 {idx : Nat} {z : Int} {e : Value × Nat × Nat} (he : mc_find (mc_cs.getD E.1 []) idx = some e) (hz : e.1 = vL z) (hp : pc + 3 = pc') (h : K pc' L (vL z :: st) T H) : wq_s kt d E (.ldc2_w idx) 3 pc L st T H K := by
  subst hp
  refine wq_go (fun M => ?_) h
  show mc_n (3 == 3) (mc_ldc2 E.1 idx pc L st M) = _
  unfold mc_ldc2
  rw [he]
  dsimp only
  rw [hz]
  rfl
/-- a call's link: the method, its parameters, its sort -/
def wq_ml (own idx : Nat) : Option (Nat × Nat × Nat × Nat) := match mc_find (mc_ml.getD own []) idx with
  | some e => match mc_mt e.1 with
    | some q => some (e.1, q.2.2.2.2.2.1, q.2.2.2.2.2.2, q.1)
    | none => none
  | none => none
theorem wq_ml_of {own idx k2 np sort c : Nat} (h : wq_ml own idx = some (k2, np, sort, c)) : ∃ e q, mc_find (mc_ml.getD own []) idx = some e ∧ mc_mt e.1 = some q ∧ e.1 = k2 ∧ q.2.2.2.2.2.1 = np ∧ q.2.2.2.2.2.2 = sort ∧ q.1 = c := by
  unfold wq_ml at h
  split at h
  · next e he =>
    split at h
    · next q hq =>
      cases h
      exact ⟨e, q, he, hq, rfl, rfl, rfl, rfl⟩
    · cases h
  · cases h
theorem wq_cal {x : Instr} {sort : Nat} {idx k2 np c n : Nat} {as : List Value} {st0 : List Value} {b : mc_M → mc_O} (hx : ∀ (F : Nat) (M : mc_M), mc_step kt (mc_call kt F d) E.1 E.2.1 E.2.2.1 E.2.2.2 x 3 (pc, L, st0, M) = mc_or (mc_cal (mc_call kt F d) E.1 sort idx pc L st0 M) (b M)) (hm : wq_ml E.1 idx = some (k2, np, sort, c)) (hn : n = if sort = 0 then np else np + 1) (hst : st0 = as.reverse ++ st) (hal : as.length = n) (hcat : ((st.map Value.category).sum ≤ 8)) (hr : sort = 0 ∨ ∃ (r nn : Nat) (as' : List Value), as = .ref r :: as' ∧ 256 ≤ r ∧ T.1 r = some (100 + c, nn)) (hp : pc + 3 = pc') (hcall : wpc kt d k2 as T H (fun r T' H' => K pc' L (mc_rs r ++ st) T' H')) : wq_s kt d E x 3 pc L st0 T H K := fun M hM => by
  obtain ⟨e, q, h1, h2, h3, h4, h5, h6⟩ := wq_ml_of hm
  obtain ⟨F, w, T', H', h7, h8, h9⟩ := hcall M hM
  subst hp
  refine ⟨F, pc + 3, L, mc_rs w.1 ++ st, w.2, T', H', ?_, h8, h9⟩
  rw [hx]
  have htake : (st0.take n).reverse = as := by
    rw [hst, List.take_left' (by rw [List.length_reverse]; exact hal), List.reverse_reverse]
  have hdrop : st0.drop n = st := by
    rw [hst]
    exact List.drop_left' (by rw [List.length_reverse]; exact hal)
  have hlen : n ≤ st0.length := by
    rw [hst, List.length_append, List.length_reverse, hal]
    omega
  have hcal : mc_cal (mc_call kt F d) E.1 sort idx pc L st0 M = some (.inl (pc + 3, L, mc_rs w.1 ++ st, w.2)) := by
    unfold mc_cal
    rw [h1]
    dsimp only
    rw [h2]
    dsimp only
    rw [h4, ← hn, htake, h3, h7]
    dsimp only
    rw [h5, hdrop, decide_eq_true hcat, decide_eq_true hlen]
    have hrc : (sort == 0 || match st0[np]? with
        | some (.ref b) => decide (256 ≤ b) && match M[b - 256]? with
          | some (.inr z) => z.1 == q.1
          | _ => false
        | _ => false) = true := by
      rcases hr with hr | ⟨r, nn, as', e1, e2, e3⟩
      · rw [hr]
        rfl
      · by_cases hs0 : sort = 0
        · rw [hs0]
          rfl
        · rw [if_neg hs0] at hn
          have e4 : st0[np]? = some (.ref r) := by
            rw [hst, e1, List.reverse_cons, List.append_assoc]
            have e5 : as'.reverse.length = np := by
              rw [e1, List.length_cons] at hal
              rw [List.length_reverse]
              omega
            rw [List.getElem?_append_right (by omega), e5, Nat.sub_self]
            rfl
          obtain ⟨fs, e6, -, -⟩ := hM.obj e3
          rw [mc_ce_hi e2] at e6
          rw [e4]
          dsimp only
          rw [e6]
          dsimp only
          rw [h6, decide_eq_true e2]
          simp
    have key : ∀ b : Bool, b = true → mc_n (sort == sort && true && true && b) (mc_go (pc + 3) L (mc_rs w.1 ++ st) w.2) = some (.inl (pc + 3, L, mc_rs w.1 ++ st, w.2)) := fun b hb => by
      rw [hb]
      simp [mc_n, mc_go]
    exact key _ hrc
  rw [hcal]
  rfl
theorem rw_calV {idx k2 np c r nn : Nat} {as : List Value} {st0 : List Value} (hm : wq_ml E.1 idx = some (k2, np, 1, c)) (hst : st0 = as.reverse ++ .ref r :: st) (hal : as.length = np) (hcat : ((st.map Value.category).sum ≤ 8)) (hr : 256 ≤ r) (hs : T.1 r = some (100 + c, nn)) (hp : pc + 3 = pc') (hcall : wpc kt d k2 (.ref r :: as) T H (fun r T' H' => K pc' L (mc_rs r ++ st) T' H')) : wq_s kt d E (.invokevirtual idx) 3 pc L st0 T H K :=
  wq_cal (as := .ref r :: as) (sort := 1) (b := fun M => mc_prim E.1 idx pc L st0 M) (fun F M => rfl) hm rfl (by rw [hst, List.reverse_cons, List.append_assoc]; rfl) (by rw [List.length_cons, hal]; rfl) hcat (Or.inr ⟨r, nn, as, rfl, hr, hs⟩) hp hcall
theorem rw_calI {idx k2 np c r nn : Nat} {as : List Value} {st0 : List Value} (hm : wq_ml E.1 idx = some (k2, np, 2, c)) (hst : st0 = as.reverse ++ .ref r :: st) (hal : as.length = np) (hcat : ((st.map Value.category).sum ≤ 8)) (hr : 256 ≤ r) (hs : T.1 r = some (100 + c, nn)) (hp : pc + 3 = pc') (hcall : wpc kt d k2 (.ref r :: as) T H (fun r T' H' => K pc' L (mc_rs r ++ st) T' H')) : wq_s kt d E (.invokespecial idx) 3 pc L st0 T H K :=
  wq_cal (as := .ref r :: as) (sort := 2) (b := fun M => mc_obj E.1 idx pc L st0 M) (fun F M => rfl) hm rfl (by rw [hst, List.reverse_cons, List.append_assoc]; rfl) (by rw [List.length_cons, hal]; rfl) hcat (Or.inr ⟨r, nn, as, rfl, hr, hs⟩) hp hcall
theorem rw_calS {idx k2 np c : Nat} {as : List Value} {st0 : List Value} (hm : wq_ml E.1 idx = some (k2, np, 0, c)) (hst : st0 = as.reverse ++ st) (hal : as.length = np) (hcat : ((st.map Value.category).sum ≤ 8)) (hp : pc + 3 = pc') (hcall : wpc kt d k2 as T H (fun r T' H' => K pc' L (mc_rs r ++ st) T' H')) : wq_s kt d E (.invokestatic idx) 3 pc L st0 T H K :=
  wq_cal (as := as) (sort := 0) (b := fun M => mc_math E.1 idx pc L st0 M) (fun F M => rfl) hm rfl hst hal hcat (Or.inl rfl) hp hcall
theorem wq_or2 {own sort idx : Nat} {call : Nat → List Value → mc_M → Option mc_R} {M : mc_M} {b r : mc_O} (h : mc_find (mc_ml.getD own []) idx = none) (hb : b = r) : mc_or (mc_cal call own sort idx pc L st M) b = r := by
  have h3 : mc_cal call own sort idx pc L st M = none := by
    unfold mc_cal
    rw [h]
  rw [h3, hb]
  rfl
theorem rw_math2 {idx : Nat} {e : Nat × Nat × Nat} {x y z : Int} (he : mc_find (mc_jl.getD E.1 []) idx = some e) (hn : mc_find (mc_ml.getD E.1 []) idx = none) (hx : wI x) (hy : wI y) (hz : (e.1 = 0 ∧ z = min x y) ∨ (e.1 = 1 ∧ z = max x y)) (hcat : ((st.map Value.category).sum ≤ 8)) (hp : pc + 3 = pc') (h : K pc' L (vI z :: st) T H) : wq_s kt d E (.invokestatic idx) 3 pc L (vI y :: vI x :: st) T H K := by
  subst hp
  refine wq_go (fun M => ?_) h
  refine wq_or2 hn ?_
  unfold mc_math
  rw [he]
  dsimp only
  rcases hz with ⟨h0, rfl⟩ | ⟨h0, rfl⟩
  · rw [h0]
    show mc_n (decide ((st.map Value.category).sum ≤ 8)) (mc_go (pc + 3) L (.int (if Int32.ofInt y < Int32.ofInt x then Int32.ofInt y else Int32.ofInt x) :: st) M) = _
    rw [decide_eq_true hcat]
    by_cases hc : y < x
    · rw [if_pos ((wq_lt hy hx).mpr hc), Int.min_eq_right (by omega)]
      rfl
    · rw [if_neg (fun q => hc ((wq_lt hy hx).mp q)), Int.min_eq_left (by omega)]
      rfl
  · rw [h0]
    show mc_n (decide ((st.map Value.category).sum ≤ 8)) (mc_go (pc + 3) L (.int (if Int32.ofInt x < Int32.ofInt y then Int32.ofInt y else Int32.ofInt x) :: st) M) = _
    rw [decide_eq_true hcat]
    by_cases hc : x < y
    · rw [if_pos ((wq_lt hx hy).mpr hc), Int.max_eq_right (by omega)]
      rfl
    · rw [if_neg (fun q => hc ((wq_lt hx hy).mp q)), Int.max_eq_left (by omega)]
      rfl
theorem rw_abs {idx : Nat} {e : Nat × Nat × Nat} {x : Int} (he : mc_find (mc_jl.getD E.1 []) idx = some e) (hn : mc_find (mc_ml.getD E.1 []) idx = none) (hx : wI x) (h2 : e.1 = 2) (hcat : ((st.map Value.category).sum ≤ 8)) (hp : pc + 3 = pc') (h : K pc' L (vI (if 0 ≤ x then x else 0 - x) :: st) T H) : wq_s kt d E (.invokestatic idx) 3 pc L (vI x :: st) T H K := by
  subst hp
  refine wq_go (fun M => ?_) h
  refine wq_or2 hn ?_
  unfold mc_math
  rw [he]
  dsimp only
  rw [h2]
  show mc_n (decide ((st.map Value.category).sum ≤ 8)) (mc_go (pc + 3) L (.int (if 0 ≤ Int32.ofInt x then Int32.ofInt x else 0 - Int32.ofInt x) :: st) M) = _
  rw [decide_eq_true hcat]
  have e0 : (0 ≤ Int32.ofInt x) ↔ 0 ≤ x := wq_le (x := 0) ⟨by omega, by omega⟩ hx
  by_cases hc : 0 ≤ x
  · rw [if_pos (e0.mpr hc), if_pos hc]
    rfl
  · rw [if_neg (fun q => hc (e0.mp q)), if_neg hc]
    show (some (Sum.inl (pc + 3, L, Value.int (Int32.ofInt 0 - Int32.ofInt x) :: st, M)) : mc_O) = _
    rw [← Int32.ofInt_sub]
    rfl
theorem rw_slen {idx k : Nat} {e : Nat × Nat × Nat} {b : List Int32} (he : mc_find (mc_pl.getD E.1 []) idx = some e) (hn : mc_find (mc_ml.getD E.1 []) idx = none) (h0 : e.1 = 0) (hb : mc_find mc_sb k = some b) (hcat : ((st.map Value.category).sum ≤ 8)) (hp : pc + 3 = pc') (h : K pc' L (vI b.length :: st) T H) : wq_s kt d E (.invokevirtual idx) 3 pc L (.ref k :: st) T H K := by
  subst hp
  refine wq_go (fun M => ?_) h
  refine wq_or2 hn ?_
  unfold mc_prim
  rw [he]
  dsimp only
  rw [h0]
  show (match mc_find mc_sb k with
    | some b => mc_n (decide ((st.map Value.category).sum ≤ 8)) (mc_go (pc + 3) L (.int (Int32.ofNat b.length) :: st) M)
    | none => none) = _
  rw [hb]
  dsimp only
  rw [decide_eq_true hcat]
  rfl
theorem rw_schr {idx k : Nat} {e : Nat × Nat × Nat} {b : List Int32} {z : Int} (he : mc_find (mc_pl.getD E.1 []) idx = some e) (hn : mc_find (mc_ml.getD E.1 []) idx = none) (h0 : e.1 = 1) (hb : mc_find mc_sb k = some b) (hz : 0 ≤ z) (hl : z < b.length) (hcat : ((st.map Value.category).sum ≤ 8)) (hp : pc + 3 = pc') (h : K pc' L (vI (b.getD z.toNat 0).toInt :: st) T H) : wq_s kt d E (.invokevirtual idx) 3 pc L (vI z :: .ref k :: st) T H K := by
  subst hp
  refine wq_go (fun M => ?_) h
  refine wq_or2 hn ?_
  unfold mc_prim
  rw [he]
  dsimp only
  rw [h0]
  unfold vI
  show (match mc_find mc_sb k with
    | some b => mc_n (mc_in (Int32.ofInt z) b.length && decide ((st.map Value.category).sum ≤ 8)) (mc_go (pc + 3) L (.int (b.getD (Int32.ofInt z).toNatClampNeg 0) :: st) M)
    | none => none) = _
  rw [hb]
  dsimp only
  have hlen := (mc_sb_k hb).2.1
  obtain ⟨h4, h5⟩ := wq_ix hz hl (by omega)
  rw [h4, decide_eq_true hcat, h5, Int32.ofInt_toInt]
  rfl
theorem rw_ord {idx k : Nat} {e : Nat × Nat × Nat} (he : mc_find (mc_pl.getD E.1 []) idx = some e) (hn : mc_find (mc_ml.getD E.1 []) idx = none) (h0 : e.1 = 2) (hk : 16 ≤ k ∧ k < 27) (hcat : ((st.map Value.category).sum ≤ 8)) (hp : pc + 3 = pc') (h : K pc' L (vI ((k - 16 : Nat) : Int) :: st) T H) : wq_s kt d E (.invokevirtual idx) 3 pc L (.ref k :: st) T H K := by
  subst hp
  refine wq_go (fun M => ?_) h
  refine wq_or2 hn ?_
  unfold mc_prim
  rw [he]
  dsimp only
  rw [h0]
  show mc_n (decide (16 ≤ k) && decide (k < 27) && decide ((st.map Value.category).sum ≤ 8)) (mc_go (pc + 3) L (.int (Int32.ofNat (k - 16)) :: st) M) = _
  rw [decide_eq_true hcat, decide_eq_true hk.1, decide_eq_true hk.2]
  rfl
end WQR

section WQE

variable {kt : Nat → Option mc_E} {d k pc : Nat} {L : List (Nat × Value)} {T : wq_T} {H : wq_H} {Q : Option Value → wq_T → wq_H → Prop} {E : wq_E}
theorem wp_ireturn {z : Int} (he : wq_en k = some E) (hd : mc_cd k pc = some (.ireturn, 1)) (hr : E.2.2.2 = some .int) (hQ : Q (some (vI z)) T H) : wp kt d k pc L [vI z] T H Q := wp_end he hd (fun M => by rw [hr]; rfl) hQ
theorem wp_zreturn {z : Int} (he : wq_en k = some E) (hd : mc_cd k pc = some (.ireturn, 1)) (hr : E.2.2.2 = some .boolean) (hz : z = 0 ∨ z = 1) (hQ : Q (some (vI z)) T H) : wp kt d k pc L [vI z] T H Q := wp_end he hd (fun M => by rw [hr]; rcases hz with rfl | rfl <;> rfl) hQ
theorem wp_lreturn {z : Int} (he : wq_en k = some E) (hd : mc_cd k pc = some (.lreturn, 1)) (hr : E.2.2.2 = some .long) (hQ : Q (some (vL z)) T H) : wp kt d k pc L [vL z] T H Q := wp_end he hd (fun M => by rw [hr]; rfl) hQ
theorem wp_areturn {v : Value} {c : String} (he : wq_en k = some E) (hd : mc_cd k pc = some (.areturn, 1)) (hr : E.2.2.2 = some (.object c)) (hv : mc_isA v = true) (hQ : Q (some v) T H) : wp kt d k pc L [v] T H Q := wp_end he hd (fun M => by
  rw [hr]
  show mc_n (1 == 1) (mc_n (mc_isA v) (some (.inr (some v, M)))) = _
  rw [hv]
  rfl) hQ
theorem wp_return (he : wq_en k = some E) (hd : mc_cd k pc = some (.return_, 1)) (hr : E.2.2.2 = none) (hQ : Q none T H) : wp kt d k pc L [] T H Q := wp_end he hd (fun M => by rw [hr]; rfl) hQ
end WQE
end
section
/-! MORE LOCALS CHANGE NO RUN (own work, wip/gen2/loc.py) -/
def wl_le (L L' : List (Nat × Value)) : Prop := (∀ q ∈ L, q ∈ L') ∧ (L'.map Prod.fst).Nodup
theorem mc_find_nd : ∀ {L : List (Nat × Value)} {i : Nat} {v : Value}, (L.map Prod.fst).Nodup → (i, v) ∈ L → mc_find L i = some v
  | [], _, _, _, h => absurd h List.not_mem_nil
  | q :: r, i, v, hn, h => by
    rw [List.map_cons, List.nodup_cons] at hn
    unfold mc_find
    rcases List.mem_cons.mp h with h | h
    · subst h
      rw [if_pos rfl]
    · split
      · next e =>
        exact absurd (List.mem_map.mpr ⟨(i, v), h, e.symm⟩) hn.1
      · exact mc_find_nd hn.2 h
theorem wl_le.find {L L' : List (Nat × Value)} (h : wl_le L L') {i : Nat} {v : Value} (hf : mc_find L i = some v) : mc_find L' i = some v := mc_find_nd h.2 (h.1 _ (mc_find_mem hf))
theorem wl_n {L : List (Nat × Value)} : ∀ q ∈ ([] : List (Nat × Value)), q ∈ L := fun _ h => absurd h List.not_mem_nil
theorem wl_c {L L' : List (Nat × Value)} {i : Nat} {v : Value} (h : mc_find L' i = some v) (t : ∀ q ∈ L, q ∈ L') : ∀ q ∈ (i, v) :: L, q ∈ L' := fun q hq => by
  rcases List.mem_cons.mp hq with hq | hq
  · subst hq
    exact mc_find_mem h
  · exact t q hq
theorem wl_nd {L : List (Nat × Value)} (p : Nat × Value → Bool) (h : (L.map Prod.fst).Nodup) : ((L.filter p).map Prod.fst).Nodup := List.Nodup.sublist (List.Sublist.map _ List.filter_sublist) h
theorem wl_s1 {L L' : List (Nat × Value)} (h : wl_le L L') (i : Nat) (v : Value) : wl_le (mc_s1 L i v) (mc_s1 L' i v) := by
  unfold mc_s1
  refine ⟨fun q hq => ?_, ?_⟩
  · rcases List.mem_cons.mp hq with hq | hq
    · rw [hq]
      exact List.mem_cons_self
    · have h1 := List.mem_filter.mp hq
      exact List.mem_cons_of_mem _ (List.mem_filter.mpr ⟨h.1 q h1.1, h1.2⟩)
  · rw [List.map_cons, List.nodup_cons]
    refine ⟨fun hm => ?_, wl_nd _ h.2⟩
    obtain ⟨q, h1, h2⟩ := List.mem_map.mp hm
    have h3 := (List.mem_filter.mp h1).2
    have h4 : q.1 = i := h2
    simp [h4] at h3
theorem wl_s2 {L L' : List (Nat × Value)} (h : wl_le L L') (i : Nat) (v : Value) : wl_le (mc_s2 L i v) (mc_s2 L' i v) := by
  unfold mc_s2
  refine ⟨fun q hq => ?_, ?_⟩
  · rcases List.mem_cons.mp hq with hq | hq
    · rw [hq]
      exact List.mem_cons_self
    · have h1 := List.mem_filter.mp hq
      exact List.mem_cons_of_mem _ (List.mem_filter.mpr ⟨h.1 q h1.1, h1.2⟩)
  · rw [List.map_cons, List.nodup_cons]
    refine ⟨fun hm => ?_, wl_nd _ h.2⟩
    obtain ⟨q, h1, h2⟩ := List.mem_map.mp hm
    have h3 := (List.mem_filter.mp h1).2
    have h4 : q.1 = i := h2
    simp [h4] at h3
section WLC

variable {kt : Nat → Option mc_E} {own nL : Nat} {ini : Bool} {ret : Option FieldType} {cc : ByteArray} {call : Nat → List Value → mc_M → Option mc_R}
/-- what a step from more locals comes to -/
def wl_x (a b : mc_S ⊕ mc_R) : Prop := match a, b with
  | .inl S, .inl S' => S.1 = S'.1 ∧ wl_le S.2.1 S'.2.1 ∧ S.2.2 = S'.2.2
  | .inr w, .inr w' => w = w'
  | _, _ => False
def wl_o (a b : mc_O) : Prop := ∀ r, a = some r → ∃ r', b = some r' ∧ wl_x r r'
variable {pc : Nat} {L L' : List (Nat × Value)} {st : List Value} {M : mc_M} {off : Int}
theorem wl_go {pc : Nat} {L L' : List (Nat × Value)} {st : List Value} {M : mc_M} (h : wl_le L L') : wl_o (mc_go pc L st M) (mc_go pc L' st M) := fun r hr => by
  cases hr
  exact ⟨_, rfl, rfl, h, rfl⟩
theorem wl_nn {b : Bool} {o o' : mc_O} (h : wl_o o o') : wl_o (mc_n b o) (mc_n b o') := by
  cases b with
  | true => exact h
  | false => intro r hr; cases hr
theorem wl_none {o : mc_O} : wl_o none o := fun r hr => by cases hr
theorem wl_mor {a a' b b' : mc_O} (ha : wl_o a a') (hb : wl_o b b') (hn : a = none → a' = none) : wl_o (mc_or a b) (mc_or a' b') := by
  intro r hr
  unfold mc_or at hr ⊢
  cases h1 : a with
  | some x =>
    rw [h1] at hr
    obtain ⟨y, h2, h3⟩ := ha x h1
    cases hr
    rw [h2]
    exact ⟨y, rfl, h3⟩
  | none =>
    rw [h1] at hr
    rw [hn h1]
    exact hb r hr
theorem wl_jp (h : wl_le L L') : wl_o (mc_jp pc off L st M) (mc_jp pc off L' st M) := by
  unfold mc_jp
  split
  · exact wl_go h
  · exact wl_none
theorem wl_br {b : Bool} (h : wl_le L L') : wl_o (mc_br b pc off L st M) (mc_br b pc off L' st M) := by
  unfold mc_br
  split
  · cases b
    · exact wl_go h
    · exact wl_go h
  · exact wl_none
theorem wl_ld {ok : Value → Bool} {i d : Nat} (h : wl_le L L') : wl_o (mc_ld ok i d pc L st M) (mc_ld ok i d pc L' st M) := by
  intro r hr
  unfold mc_ld at hr ⊢
  split at hr
  · next v hv =>
    rw [h.find hv]
    exact wl_nn (wl_go h) r hr
  · cases hr
theorem wl_inc {nL i : Nat} {k : Int} (h : wl_le L L') : wl_o (mc_inc nL i k pc L st M) (mc_inc nL i k pc L' st M) := by
  intro r hr
  unfold mc_inc at hr ⊢
  split at hr
  · next x hv =>
    rw [h.find hv]
    exact wl_nn (wl_go (wl_s1 h i _)) r hr
  · cases hr
theorem wl_sv {ok : Value → Bool} {nL i d : Nat} (h : wl_le L L') : wl_o (mc_sv ok nL i d pc L st M) (mc_sv ok nL i d pc L' st M) := by
  unfold mc_sv
  split
  · exact wl_nn (wl_go (wl_s1 h i _))
  · exact wl_none
theorem wl_svL {nL i d : Nat} (h : wl_le L L') : wl_o (mc_svL nL i d pc L st M) (mc_svL nL i d pc L' st M) := by
  unfold mc_svL
  split
  · exact wl_nn (wl_go (wl_s2 h i _))
  · exact wl_none
theorem wl_ii2 {f : Int32 → Int32 → Option Int32} (h : wl_le L L') : wl_o (mc_ii2 f pc L st M) (mc_ii2 f pc L' st M) := by
  unfold mc_ii2
  repeat' split
  all_goals first | exact wl_none | exact wl_go h | exact wl_nn (wl_go h) | exact wl_br h | exact wl_jp h
theorem wl_ll2 {f : Int64 → Int64 → Option Int64} (h : wl_le L L') : wl_o (mc_ll2 f pc L st M) (mc_ll2 f pc L' st M) := by
  unfold mc_ll2
  repeat' split
  all_goals first | exact wl_none | exact wl_go h | exact wl_nn (wl_go h) | exact wl_br h | exact wl_jp h
theorem wl_li2 {f : Int64 → Int32 → Int64} (h : wl_le L L') : wl_o (mc_li2 f pc L st M) (mc_li2 f pc L' st M) := by
  unfold mc_li2
  repeat' split
  all_goals first | exact wl_none | exact wl_go h | exact wl_nn (wl_go h) | exact wl_br h | exact wl_jp h
theorem wl_cmp (h : wl_le L L') : wl_o (mc_cmp pc L st M) (mc_cmp pc L' st M) := by
  unfold mc_cmp
  repeat' split
  all_goals first | exact wl_none | exact wl_go h | exact wl_nn (wl_go h) | exact wl_br h | exact wl_jp h
theorem wl_i1 {f : Int32 → Value} (h : wl_le L L') : wl_o (mc_i1 f pc L st M) (mc_i1 f pc L' st M) := by
  unfold mc_i1
  repeat' split
  all_goals first | exact wl_none | exact wl_go h | exact wl_nn (wl_go h) | exact wl_br h | exact wl_jp h
theorem wl_l1 {f : Int64 → Value} (h : wl_le L L') : wl_o (mc_l1 f pc L st M) (mc_l1 f pc L' st M) := by
  unfold mc_l1
  repeat' split
  all_goals first | exact wl_none | exact wl_go h | exact wl_nn (wl_go h) | exact wl_br h | exact wl_jp h
theorem wl_ic2 {f : Int32 → Int32 → Bool} (h : wl_le L L') : wl_o (mc_ic2 f pc off L st M) (mc_ic2 f pc off L' st M) := by
  unfold mc_ic2
  repeat' split
  all_goals first | exact wl_none | exact wl_go h | exact wl_nn (wl_go h) | exact wl_br h | exact wl_jp h
theorem wl_ic1 {f : Int32 → Bool} (h : wl_le L L') : wl_o (mc_ic1 f pc off L st M) (mc_ic1 f pc off L' st M) := by
  unfold mc_ic1
  repeat' split
  all_goals first | exact wl_none | exact wl_go h | exact wl_nn (wl_go h) | exact wl_br h | exact wl_jp h
theorem wl_icn {f : Bool} (h : wl_le L L') : wl_o (mc_icn f pc off L st M) (mc_icn f pc off L' st M) := by
  unfold mc_icn
  repeat' split
  all_goals first | exact wl_none | exact wl_go h | exact wl_nn (wl_go h) | exact wl_br h | exact wl_jp h
theorem wl_ica {f : Bool} (h : wl_le L L') : wl_o (mc_ica f pc off L st M) (mc_ica f pc off L' st M) := by
  unfold mc_ica
  repeat' split
  all_goals first | exact wl_none | exact wl_go h | exact wl_nn (wl_go h) | exact wl_br h | exact wl_jp h
theorem wl_dup (h : wl_le L L') : wl_o (mc_dup pc L st M) (mc_dup pc L' st M) := by
  unfold mc_dup
  repeat' split
  all_goals first | exact wl_none | exact wl_go h | exact wl_nn (wl_go h) | exact wl_br h | exact wl_jp h
theorem wl_pop (h : wl_le L L') : wl_o (mc_pop pc L st M) (mc_pop pc L' st M) := by
  unfold mc_pop
  repeat' split
  all_goals first | exact wl_none | exact wl_go h | exact wl_nn (wl_go h) | exact wl_br h | exact wl_jp h
theorem wl_dup2 (h : wl_le L L') : wl_o (mc_dup2 pc L st M) (mc_dup2 pc L' st M) := by
  unfold mc_dup2
  repeat' split
  all_goals first | exact wl_none | exact wl_go h | exact wl_nn (wl_go h) | exact wl_br h | exact wl_jp h
theorem wl_pop2 (h : wl_le L L') : wl_o (mc_pop2 pc L st M) (mc_pop2 pc L' st M) := by
  unfold mc_pop2
  repeat' split
  all_goals first | exact wl_none | exact wl_go h | exact wl_nn (wl_go h) | exact wl_br h | exact wl_jp h
theorem wl_getf {idx : Nat} (h : wl_le L L') : wl_o (mc_getf kt own idx pc L st M) (mc_getf kt own idx pc L' st M) := by
  unfold mc_getf
  repeat' split
  all_goals first | exact wl_none | exact wl_go h | exact wl_nn (wl_go h) | exact wl_br h | exact wl_jp h
theorem wl_putf {idx : Nat} (h : wl_le L L') : wl_o (mc_putf own ini idx pc L st M) (mc_putf own ini idx pc L' st M) := by
  unfold mc_putf
  repeat' split
  all_goals first | exact wl_none | exact wl_go h | exact wl_nn (wl_go h) | exact wl_br h | exact wl_jp h
theorem wl_ald {ok : Nat → Bool} (h : wl_le L L') : wl_o (mc_ald kt ok pc L st M) (mc_ald kt ok pc L' st M) := by
  unfold mc_ald
  repeat' split
  all_goals first | exact wl_none | exact wl_go h | exact wl_nn (wl_go h) | exact wl_br h | exact wl_jp h
theorem wl_ast {ok : Nat → Value → Bool} {w : Nat → Value → Value} (h : wl_le L L') : wl_o (mc_ast kt ok w pc L st M) (mc_ast kt ok w pc L' st M) := by
  unfold mc_ast
  repeat' split
  all_goals first | exact wl_none | exact wl_go h | exact wl_nn (wl_go h) | exact wl_br h | exact wl_jp h
theorem wl_len (h : wl_le L L') : wl_o (mc_len kt pc L st M) (mc_len kt pc L' st M) := by
  unfold mc_len
  repeat' split
  all_goals first | exact wl_none | exact wl_go h | exact wl_nn (wl_go h) | exact wl_br h | exact wl_jp h
theorem wl_newa {a : ArrayType} (h : wl_le L L') : wl_o (mc_newa a pc L st M) (mc_newa a pc L' st M) := by
  unfold mc_newa
  repeat' split
  all_goals first | exact wl_none | exact wl_go h | exact wl_nn (wl_go h) | exact wl_br h | exact wl_jp h
theorem wl_anew {idx : Nat} (h : wl_le L L') : wl_o (mc_anew own idx pc L st M) (mc_anew own idx pc L' st M) := by
  unfold mc_anew
  repeat' split
  all_goals first | exact wl_none | exact wl_go h | exact wl_nn (wl_go h) | exact wl_br h | exact wl_jp h
theorem wl_mna {idx : Nat} (h : wl_le L L') : wl_o (mc_mna own idx pc L st M) (mc_mna own idx pc L' st M) := by
  unfold mc_mna
  repeat' split
  all_goals first | exact wl_none | exact wl_go h | exact wl_nn (wl_go h) | exact wl_br h | exact wl_jp h
theorem wl_new {idx : Nat} (h : wl_le L L') : wl_o (mc_new own idx pc L st M) (mc_new own idx pc L' st M) := by
  unfold mc_new
  repeat' split
  all_goals first | exact wl_none | exact wl_go h | exact wl_nn (wl_go h) | exact wl_br h | exact wl_jp h
theorem wl_gs {idx : Nat} (h : wl_le L L') : wl_o (mc_gs own idx pc L st M) (mc_gs own idx pc L' st M) := by
  unfold mc_gs
  repeat' split
  all_goals first | exact wl_none | exact wl_go h | exact wl_nn (wl_go h) | exact wl_br h | exact wl_jp h
theorem wl_ldc {idx d : Nat} (h : wl_le L L') : wl_o (mc_ldc own idx d pc L st M) (mc_ldc own idx d pc L' st M) := by
  unfold mc_ldc
  repeat' split
  all_goals first | exact wl_none | exact wl_go h | exact wl_nn (wl_go h) | exact wl_br h | exact wl_jp h
theorem wl_ldc2 {idx : Nat} (h : wl_le L L') : wl_o (mc_ldc2 own idx pc L st M) (mc_ldc2 own idx pc L' st M) := by
  unfold mc_ldc2
  repeat' split
  all_goals first | exact wl_none | exact wl_go h | exact wl_nn (wl_go h) | exact wl_br h | exact wl_jp h
theorem wl_tsw {dflt lo hi : Int} {offs : Array Int} (h : wl_le L L') : wl_o (mc_tsw dflt lo hi offs pc L st M) (mc_tsw dflt lo hi offs pc L' st M) := by
  unfold mc_tsw
  repeat' split
  all_goals first | exact wl_none | exact wl_go h | exact wl_nn (wl_go h) | exact wl_br h | exact wl_jp h
theorem wl_obj {idx : Nat} (h : wl_le L L') : wl_o (mc_obj own idx pc L st M) (mc_obj own idx pc L' st M) := by
  unfold mc_obj
  repeat' split
  all_goals first | exact wl_none | exact wl_go h | exact wl_nn (wl_go h) | exact wl_br h | exact wl_jp h
theorem wl_math {idx : Nat} (h : wl_le L L') : wl_o (mc_math own idx pc L st M) (mc_math own idx pc L' st M) := by
  unfold mc_math
  repeat' split
  all_goals first | exact wl_none | exact wl_go h | exact wl_nn (wl_go h) | exact wl_br h | exact wl_jp h
theorem wl_prim {idx : Nat} (h : wl_le L L') : wl_o (mc_prim own idx pc L st M) (mc_prim own idx pc L' st M) := by
  unfold mc_prim
  repeat' split
  all_goals first | exact wl_none | exact wl_go h | exact wl_nn (wl_go h) | exact wl_br h | exact wl_jp h
theorem wl_cal {sort idx : Nat} (h : wl_le L L') : wl_o (mc_cal call own sort idx pc L st M) (mc_cal call own sort idx pc L' st M) := by
  unfold mc_cal
  cases mc_find (mc_ml.getD own []) idx with
  | none => exact wl_none
  | some e =>
    dsimp only
    cases mc_mt e.1 with
    | none => exact wl_none
    | some q =>
      dsimp only
      cases call e.1 ((st.take (if sort = 0 then q.2.2.2.2.2.1 else q.2.2.2.2.2.1 + 1)).reverse) M with
      | none => exact wl_none
      | some w => exact wl_nn (wl_go h)
theorem wl_cal_none {sort idx : Nat} (h : mc_cal call own sort idx pc L st M = none) : mc_cal call own sort idx pc L' st M = none := by
  unfold mc_cal at h ⊢
  cases h1 : mc_find (mc_ml.getD own []) idx with
  | none => rfl
  | some e =>
    rw [h1] at h
    dsimp only at h ⊢
    cases h2 : mc_mt e.1 with
    | none => rfl
    | some q =>
      rw [h2] at h
      dsimp only at h ⊢
      cases h3 : call e.1 ((st.take (if sort = 0 then q.2.2.2.2.2.1 else q.2.2.2.2.2.1 + 1)).reverse) M with
      | none => rfl
      | some w =>
        rw [h3] at h
        dsimp only at h ⊢
        revert h
        unfold mc_n
        split
        · intro h; cases h
        · intro _; rfl
theorem wl_ret {o : mc_O} (ho : ∀ S, o ≠ some (.inl S)) : wl_o o o := fun r hr => by
  match r, hr with
  | .inl S, hr => exact absurd hr (ho S)
  | .inr w, hr => exact ⟨.inr w, hr, rfl⟩
set_option maxHeartbeats 4000000 in
theorem wl_step {x : Instr} {n : Nat} (h : wl_le L L') : wl_o (mc_step kt call own nL ini ret x n (pc, L, st, M)) (mc_step kt call own nL ini ret x n (pc, L', st, M)) := by
  cases x with
  | iconst i => exact wl_nn (wl_go h)
  | bipush i => exact wl_nn (wl_go h)
  | sipush i => exact wl_nn (wl_go h)
  | lconst i => exact wl_nn (wl_go h)
  | aconst_null  => exact wl_nn (wl_go h)
  | iload_n i => exact wl_nn (wl_ld h)
  | iload i => exact wl_nn (wl_ld h)
  | lload_n i => exact wl_nn (wl_ld h)
  | lload i => exact wl_nn (wl_ld h)
  | aload_n i => exact wl_nn (wl_ld h)
  | aload i => exact wl_nn (wl_ld h)
  | istore_n i => exact wl_nn (wl_sv h)
  | istore i => exact wl_nn (wl_sv h)
  | astore_n i => exact wl_nn (wl_sv h)
  | astore i => exact wl_nn (wl_sv h)
  | lstore_n i => exact wl_nn (wl_svL h)
  | lstore i => exact wl_nn (wl_svL h)
  | iinc i k => exact wl_nn (wl_inc h)
  | iadd  => exact wl_nn (wl_ii2 h)
  | isub  => exact wl_nn (wl_ii2 h)
  | imul  => exact wl_nn (wl_ii2 h)
  | iand  => exact wl_nn (wl_ii2 h)
  | ior  => exact wl_nn (wl_ii2 h)
  | ixor  => exact wl_nn (wl_ii2 h)
  | ishl  => exact wl_nn (wl_ii2 h)
  | ishr  => exact wl_nn (wl_ii2 h)
  | iushr  => exact wl_nn (wl_ii2 h)
  | idiv  => exact wl_nn (wl_ii2 h)
  | irem  => exact wl_nn (wl_ii2 h)
  | ladd  => exact wl_nn (wl_ll2 h)
  | lsub  => exact wl_nn (wl_ll2 h)
  | lmul  => exact wl_nn (wl_ll2 h)
  | land  => exact wl_nn (wl_ll2 h)
  | lor  => exact wl_nn (wl_ll2 h)
  | ldiv  => exact wl_nn (wl_ll2 h)
  | lrem  => exact wl_nn (wl_ll2 h)
  | lshl  => exact wl_nn (wl_li2 h)
  | lshr  => exact wl_nn (wl_li2 h)
  | lcmp  => exact wl_nn (wl_cmp h)
  | ineg  => exact wl_nn (wl_i1 h)
  | i2l  => exact wl_nn (wl_i1 h)
  | i2b  => exact wl_nn (wl_i1 h)
  | l2i  => exact wl_nn (wl_l1 h)
  | if_icmp cond off =>
    cases cond with
    | eq => exact wl_nn (wl_ic2 h)
    | ne => exact wl_nn (wl_ic2 h)
    | lt => exact wl_nn (wl_ic2 h)
    | ge => exact wl_nn (wl_ic2 h)
    | gt => exact wl_nn (wl_ic2 h)
    | le => exact wl_nn (wl_ic2 h)
  | ifCond cond off =>
    cases cond with
    | eq => exact wl_nn (wl_ic1 h)
    | ne => exact wl_nn (wl_ic1 h)
    | lt => exact wl_nn (wl_ic1 h)
    | ge => exact wl_nn (wl_ic1 h)
    | gt => exact wl_nn (wl_ic1 h)
    | le => exact wl_nn (wl_ic1 h)
  | ifnull off => exact wl_nn (wl_icn h)
  | ifnonnull off => exact wl_nn (wl_icn h)
  | if_acmp cond off =>
    cases cond with
    | eq => exact wl_nn (wl_ica h)
    | ne => exact wl_nn (wl_ica h)
  | goto off => exact wl_nn (wl_jp h)
  | dup  => exact wl_nn (wl_dup h)
  | pop  => exact wl_nn (wl_pop h)
  | dup2  => exact wl_nn (wl_dup2 h)
  | pop2  => exact wl_nn (wl_pop2 h)
  | getfield i => exact wl_nn (wl_getf h)
  | putfield i => exact wl_nn (wl_putf h)
  | iaload  => exact wl_nn (wl_ald h)
  | laload  => exact wl_nn (wl_ald h)
  | baload  => exact wl_nn (wl_ald h)
  | aaload  => exact wl_nn (wl_ald h)
  | iastore  => exact wl_nn (wl_ast h)
  | lastore  => exact wl_nn (wl_ast h)
  | bastore  => exact wl_nn (wl_ast h)
  | aastore  => exact wl_nn (wl_ast h)
  | arraylength  => exact wl_nn (wl_len h)
  | newarray a => exact wl_nn (wl_newa h)
  | anewarray i => exact wl_nn (wl_anew h)
  | multianewarray i j =>
    match j with
    | 2 => exact wl_nn (wl_mna h)
    | 0 => exact wl_none
    | 1 => exact wl_none
    | j + 3 => exact wl_none
  | new i => exact wl_nn (wl_new h)
  | getstatic i => exact wl_nn (wl_gs h)
  | ldc i => exact wl_nn (wl_ldc h)
  | ldc_w i => exact wl_nn (wl_ldc h)
  | ldc2_w i => exact wl_nn (wl_ldc2 h)
  | tableswitch d lo hi offs => exact wl_tsw h
  | invokevirtual i => exact wl_nn (wl_mor (wl_cal h) (wl_prim h) wl_cal_none)
  | invokestatic i => exact wl_nn (wl_mor (wl_cal h) (wl_math h) wl_cal_none)
  | invokespecial i => exact wl_nn (wl_mor (wl_cal h) (wl_obj h) wl_cal_none)
  | ireturn => exact wl_nn (wl_ret (fun S h => mc_retX.1 h))
  | lreturn => exact wl_nn (wl_ret (fun S h => mc_retX.2.1 h))
  | areturn => exact wl_nn (wl_ret (fun S h => mc_retX.2.2.1 h))
  | return_ => exact wl_nn (wl_ret (fun S h => mc_retX.2.2.2 h))
  | _ => exact wl_none
theorem wl_loop : ∀ (n : Nat) (S S' : mc_S) (w : mc_R), S.1 = S'.1 → wl_le S.2.1 S'.2.1 → S.2.2 = S'.2.2 → mc_loop kt call own nL ini ret cc n S = some w → mc_loop kt call own nL ini ret cc n S' = some w
  | 0, _, _, _, _, _, _, h => by cases h
  | n + 1, (pc, L, st, M), (pc', L', st', M'), w, h1, h2, h3, h => by
    cases (show pc = pc' from h1)
    cases (show (st, M) = (st', M') from h3)
    unfold mc_loop at h ⊢
    dsimp only at h ⊢
    split at h
    · next x k hd =>
      split at h
      · next S1 hs =>
        obtain ⟨r', h4, h5⟩ := wl_step (kt := kt) (own := own) (nL := nL) (ini := ini) (ret := ret) (call := call) (x := x) (n := k) (pc := pc) (st := st) (M := M) (L := L) (L' := L') h2 _ hs
        match r', h4, h5 with
        | .inl S2, h4, h5 =>
          rw [h4]
          exact wl_loop n S1 S2 w h5.1 h5.2.1 h5.2.2 h
        | .inr w2, h4, h5 => exact h5.elim
      · next w1 hs =>
        obtain ⟨r', h4, h5⟩ := wl_step (kt := kt) (own := own) (nL := nL) (ini := ini) (ret := ret) (call := call) (x := x) (n := k) (pc := pc) (st := st) (M := M) (L := L) (L' := L') h2 _ hs
        match r', h4, h5 with
        | .inl S2, h4, h5 => exact h5.elim
        | .inr w2, h4, h5 =>
          rw [h4]
          cases (show w1 = w2 from h5)
          exact h
      · cases h
    · cases h
end WLC
/-- from more locals -/
theorem wp_loc {kt : Nat → Option mc_E} {d k pc : Nat} {L L' : List (Nat × Value)} {st : List Value} {T : wq_T} {H : wq_H} {Q : Option Value → wq_T → wq_H → Prop} (h1 : ∀ q ∈ L, q ∈ L') (h2 : (L'.map Prod.fst).Nodup) (h : wp kt d k pc L st T H Q) : wp kt d k pc L' st T H Q := fun M hM => by
  obtain ⟨F, n, w, T', H', h3, h4, h5⟩ := h M hM
  refine ⟨F, n, w, T', H', ?_, h4, h5⟩
  unfold wq_lp at h3 ⊢
  split at h3
  · exact wl_loop n (pc, L, st, M) (pc, L', st, M) w rfl ⟨h1, h2⟩ rfl h3
  · cases h3
end
section
/-! TAGS (own work, wip/gen2/tags.py): what each kind of cell is, and between which bounds its slots lie -/
def wshl : List (Nat × Nat) := [(0, 0), (100, 13), (2, 900), (101, 5), (102, 7), (2, 0), (103, 6), (0, 6), (1, 7), (1, 7), (0, 7), (0, 7), (104, 10), (1, 313), (5, 6), (0, 40), (6, 6), (1, 40), (0, 24), (0, 24), (105, 5), (0, 400), (0, 400), (0, 400), (0, 1024), (106, 3), (1, 5000), (107, 19), (4, 6), (0, 24), (0, 24), (0, 3), (0, 4), (0, 4), (0, 6), (108, 18), (0, 40), (0, 40), (0, 40), (0, 40), (1, 40), (1, 40), (109, 33), (2, 900), (0, 24), (0, 6), (0, 240), (0, 240), (0, 240), (0, 240), (0, 6), (0, 6), (0, 20000), (0, 6), (110, 27), (1, 6), (0, 6), (0, 6), (0, 6), (0, 6), (0, 6), (0, 6), (0, 6), (3, 6), (0, 3), (0, 3), (0, 3), (0, 24), (0, 4), (0, 4), (0, 4), (0, 6), (0, 6), (1, 1)]
/-- the first place is 0 ever -/
def wq0 (j : Nat) : Int := if j = 0 then 0 else -2147483648
def wq1 (j : Nat) : Int := if j = 0 then 0 else 2147483647
def wtyl : List (Nat → Nat × Int × Int × Nat) := [fun _ => (0, 0, 0, 0), fun j => [(2, 0, 0, 2), (2, 0, 0, 3), (2, 0, 0, 6), (2, 0, 0, 12), (2, 0, 0, 20), (2, 0, 0, 25), (2, 0, 0, 27), (2, 0, 0, 27), (0, 0, 1, 0), (0, 0, 900, 0), (0, -2147483648, 2147483647, 0), (0, -2147483648, 2147483647, 0), (0, -2147483648, 2147483647, 0)].getD j (0, 0, 0, 0),
  fun _ => (0, -128, 127, 0),
  fun j => [(2, 0, 0, 4), (0, -1, 24, 0), (0, -1, 24, 0), (0, -2147483648, 2147483647, 0), (0, -2147483648, 2147483647, 0)].getD j (0, 0, 0, 0),
  fun j => [(4, 5, 0, 2), (0, 0, 900, 0), (0, 0, 900, 0), (0, 0, 5, 0), (0, 0, 900, 0), (0, -2147483648, 2147483647, 0), (0, -9223372036854775808, 9223372036854775807, 0)].getD j (0, 0, 0, 0),
  fun _ => (0, -128, 127, 0),
  fun j => [(2, 0, 0, 7), (2, 0, 0, 8), (2, 0, 0, 9), (2, 0, 0, 10), (2, 0, 0, 11), (0, 0, 6, 0)].getD j (0, 0, 0, 0),
  fun _ => (0, 0, 39, 0),
  fun _ => (0, -9223372036854775808, 9223372036854775807, 0),
  fun _ => (0, -9223372036854775808, 9223372036854775807, 0),
  fun _ => (0, -2147483648, 2147483647, 0),
  fun j => (0, wq0 j, wq1 j, 0),
  fun j => [(2, 0, 0, 13), (2, 0, 0, 14), (2, 0, 0, 16), (2, 0, 0, 18), (2, 0, 0, 19), (0, -2147483648, 2147483647, 0), (0, -9223372036854775808, 9223372036854775807, 0), (0, 0, 19999, 0), (0, -9223372036854775808, 9223372036854775807, 0), (0, 0, 1, 0)].getD j (0, 0, 0, 0),
  fun _ => (0, -9223372036854775808, 9223372036854775807, 0),
  fun _ => (2, 0, 0, 15),
  fun _ => (0, -2147483648, 2147483647, 0),
  fun _ => (2, 0, 0, 17),
  fun _ => (0, -9223372036854775808, 9223372036854775807, 0),
  fun _ => (0, -2147483648, 2147483647, 0),
  fun _ => (0, -2147483648, 2147483647, 0),
  fun j => [(2, 0, 0, 21), (2, 0, 0, 22), (2, 0, 0, 23), (2, 0, 0, 24), (0, 0, 400, 0)].getD j (0, 0, 0, 0),
  fun _ => (0, 0, 19999, 0),
  fun _ => (0, -2147483648, 2147483647, 0),
  fun _ => (0, -2147483648, 2147483647, 0),
  fun _ => (0, -1, 399, 0),
  fun j => [(2, 0, 0, 26), (0, 0, 5000, 0), (0, 0, 4999, 0)].getD j (0, 0, 0, 0),
  fun _ => (0, -9223372036854775808, 9223372036854775807, 0),
  fun j => [(2, 0, 0, 28), (2, 0, 0, 29), (2, 0, 0, 30), (2, 0, 0, 31), (2, 0, 0, 32), (2, 0, 0, 33), (2, 0, 0, 34), (0, 0, 24, 0), (0, -2147483648, 2147483647, 0), (0, -2147483648, 2147483647, 0), (0, 0, 6, 0), (0, -2147483648, 2147483647, 0), (0, 0, 3, 0), (0, 0, 4, 0), (0, 0, 6, 0), (0, -2147483648, 2147483647, 0), (0, 0, 24, 0), (0, 0, 2147483647, 0), (0, -9223372036854775808, 9223372036854775807, 0)].getD j (0, 0, 0, 0),
  fun _ => (2, 0, 0, 35),
  fun _ => (0, -2147483648, 2147483647, 0),
  fun _ => (0, 0, 23, 0),
  fun _ => (0, -2147483648, 2147483647, 0),
  fun _ => (0, 0, 5, 0),
  fun _ => (0, -2147483648, 2147483647, 0),
  fun _ => (0, -2147483648, 2147483647, 0),
  fun j => [(2, 0, 0, 36), (2, 0, 0, 37), (2, 0, 0, 38), (2, 0, 0, 39), (2, 0, 0, 40), (2, 0, 0, 41), (0, -9223372036854775808, 9223372036854775807, 0), (0, -1, 24, 0), (0, -1, 24, 0), (0, -1, 24, 0), (0, -1, 24, 0), (0, -1, 23, 0), (0, -2147483648, 2147483647, 0), (0, 0, 1, 0), (0, -2147483648, 2147483647, 0), (0, 0, 40, 0), (0, 0, 39, 0), (0, -2147483648, 2147483647, 0)].getD j (0, 0, 0, 0),
  fun _ => (0, -1, 24, 0),
  fun _ => (0, -1, 24, 0),
  fun _ => (0, -2147483648, 2147483647, 0),
  fun _ => (0, -2147483648, 2147483647, 0),
  fun _ => (0, -9223372036854775808, 9223372036854775807, 0),
  fun _ => (0, -9223372036854775808, 9223372036854775807, 0),
  fun j => [(0, -2147483648, 2147483647, 0), (0, -2147483648, 2147483647, 0), (0, -2147483648, 2147483647, 0), (3, 0, 0, 54), (3, 0, 0, 54), (2, 0, 0, 43), (0, 0, 900, 0), (0, 0, 900, 0), (0, 0, 900, 0), (0, 0, 5, 0), (0, -2147483648, 2147483647, 0), (0, -2147483648, 2147483647, 0), (0, -2147483648, 2147483647, 0), (0, -2147483648, 2147483647, 0), (0, -2147483648, 2147483647, 0), (0, -9223372036854775808, 9223372036854775807, 0), (0, 0, 24, 0), (0, -2147483648, 2147483647, 0), (0, -2147483648, 2147483647, 0), (0, -2147483648, 2147483647, 0), (2, 0, 0, 44), (2, 0, 0, 45), (2, 0, 0, 46), (2, 0, 0, 47), (2, 0, 0, 48), (2, 0, 0, 49), (2, 0, 0, 50), (2, 0, 0, 51), (0, 0, 1, 0), (0, 0, 20000, 0), (2, 0, 0, 52), (2, 0, 0, 53), (0, 0, 2147483647, 0)].getD j (0, 0, 0, 0),
  fun _ => (0, -128, 127, 0),
  fun _ => (0, -2147483648, 2147483647, 0),
  fun _ => (0, 0, 40, 0),
  fun _ => (0, 0, 30, 0),
  fun _ => (0, 0, 16, 0),
  fun _ => (0, -2147483648, 2147483647, 0),
  fun _ => (0, -2147483648, 2147483647, 0),
  fun _ => (0, 0, 39, 0),
  fun _ => (0, 0, 39, 0),
  fun _ => (0, 0, 19999, 0),
  fun _ => (0, 0, 39, 0),
  fun j => [(0, 0, 24, 0), (0, -2147483648, 2147483647, 0), (0, -2147483648, 2147483647, 0), (0, 0, 6, 0), (0, 0, 3, 0), (0, 0, 3, 0), (0, 0, 4, 0), (0, 0, 6, 0), (0, -2147483648, 2147483647, 0), (2, 0, 0, 55), (2, 0, 0, 56), (2, 0, 0, 57), (2, 0, 0, 58), (2, 0, 0, 59), (2, 0, 0, 60), (2, 0, 0, 61), (2, 0, 0, 62), (2, 0, 0, 63), (2, 0, 0, 64), (2, 0, 0, 65), (2, 0, 0, 66), (2, 0, 0, 67), (2, 0, 0, 68), (2, 0, 0, 69), (2, 0, 0, 70), (2, 0, 0, 71), (2, 0, 0, 72)].getD j (0, 0, 0, 0),
  fun _ => (0, -9223372036854775808, 9223372036854775807, 0),
  fun _ => (0, 0, 23, 0),
  fun _ => (0, 0, 30, 0),
  fun _ => (0, 0, 12, 0),
  fun _ => (0, 0, 16, 0),
  fun _ => (0, -1, 23, 0),
  fun _ => (0, -2147483648, 2147483647, 0),
  fun _ => (0, -2147483648, 2147483647, 0),
  fun _ => (0, 0, 1, 0),
  fun _ => (0, 0, 5, 0),
  fun _ => (0, 0, 5, 0),
  fun _ => (0, -2147483648, 2147483647, 0),
  fun _ => (0, -2147483648, 2147483647, 0),
  fun _ => (0, 0, 5, 0),
  fun _ => (0, -2147483648, 2147483647, 0),
  fun _ => (0, -2147483648, 2147483647, 0),
  fun _ => (0, 0, 5, 0),
  fun _ => (0, -2147483648, 2147483647, 0),
  fun _ => (0, -9223372036854775808, 9223372036854775807, 0)]
def wroom (i : Nat) : Int := [1, 6, 1, 3, 3, 24, 4, 6, 0, 0, 0].getD i 0
def wswm (i : Nat) : Int := [1, 2, 3, 4, 5, 6, 7, 8, 0, 0, 0].getD i 0
/-- a tag's shape: below 80 cells that are made; 81 RESERVED, 82 the switch's map, from 84 on the enum's constants -/
def wsh (t : Nat) : Nat × Nat := if t < 80 then wshl.getD t (0, 0) else if t = 81 then (7, 11) else if t = 82 then (0, 11) else if 1000 ≤ t then (0, t - 1000) else if 200 ≤ t then wshl.getD (t - 200) (0, 0) else (120, 2)
/-- a slot's type: 0 between bounds; 2 a reference to a tag; 3 that or null; 4 to one of two tags; 5 whatever (200 more: cells that aren't looked at) -/
def wty (t j : Nat) : Nat × Int × Int × Nat := if t < 80 then (wtyl.getD t (fun _ => (0, 0, 0, 0))) j else if t = 81 then (0, 16 + j, 16 + j, 0) else if t = 82 then (0, wswm j, wswm j, 0) else if 1000 ≤ t then (0, -2147483648, 2147483647, 0) else if 200 ≤ t then (5, 0, 0, 0) else if j = 0 then (0, 32 + (t - 84), 32 + (t - 84), 0) else (0, wroom (t - 84), wroom (t - 84), 0)
/-- the script, of n ints -/
theorem wsh_s (n : Nat) : wsh (1000 + n) = (0, n) := by
  unfold wsh
  rw [if_neg (by omega), if_neg (by omega), if_neg (by omega), if_pos (by omega), Nat.add_sub_cancel_left]
theorem wty_s (n j : Nat) : wty (1000 + n) j = (0, -2147483648, 2147483647, 0) := by
  unfold wty
  rw [if_neg (by omega), if_neg (by omega), if_neg (by omega), if_pos (by omega)]
def wok (T : wq_T) (ty : Nat × Int × Int × Nat) (z : Int) : Prop := match ty.1 with
  | 0 => ty.2.1 ≤ z ∧ z ≤ ty.2.2.1
  | 2 => 0 ≤ z ∧ T.2.2.2 z.toNat = some ty.2.2.2
  | 3 => z = -1 ∨ (0 ≤ z ∧ T.2.2.2 z.toNat = some ty.2.2.2)
  | 5 => True
  | _ => 0 ≤ z ∧ (T.2.2.2 z.toNat = some ty.2.2.2 ∨ T.2.2.2 z.toNat = some ty.2.1.toNat)
/-- the constants have their tags -/
def wkt (T : wq_T) : Prop := T.2.2.2 1 = some 81 ∧ T.2.2.2 2 = some 82 ∧ ∀ i, i < 11 → T.2.2.2 (16 + i) = some (84 + i)
/-- every tagged cell has its shape and its slots their types -/
def WT (T : wq_T) (H : wq_H) : Prop := wkt T ∧ ∀ a t, T.2.2.2 a = some t → T.1 a = some (wsh t) ∧ (t < 80 → 256 ≤ a) ∧ ∀ j, j < (wsh t).2 → wok T (wty t j) (H a j)
section WTS

variable {T : wq_T} {H H' H0 : wq_H} {a t j : Nat} {z : Int}
theorem WT.sh (h : WT T H) (ht : T.2.2.2 a = some t) {s : Nat × Nat} (hs : wsh t = s) : T.1 a = some s := by rw [← hs]; exact (h.2 a t ht).1
theorem WT.hi (h : WT T H) (ht : T.2.2.2 a = some t) (h8 : t < 80) : 256 ≤ a := (h.2 a t ht).2.1 h8
theorem WT.box (h : WT T H) (ht : T.2.2.2 a = some t) {lo hi : Int} {n : Nat} (hn : (wsh t).2 = n) (hj : j < n) (hty : wty t j = (0, lo, hi, 0)) : lo ≤ H a j ∧ H a j ≤ hi := by
  have h1 := (h.2 a t ht).2.2 j (by rw [hn]; exact hj)
  rw [hty] at h1
  exact h1
theorem WT.ref (h : WT T H) (ht : T.2.2.2 a = some t) {t' n : Nat} {p q : Int} (hn : (wsh t).2 = n) (hj : j < n) (hty : wty t j = (2, p, q, t')) : ∃ b : Nat, H a j = (b : Int) ∧ T.2.2.2 b = some t' := by
  have h1 := (h.2 a t ht).2.2 j (by rw [hn]; exact hj)
  rw [hty] at h1
  obtain ⟨h2, h3⟩ := h1
  exact ⟨(H a j).toNat, by omega, h3⟩
theorem WT.opt (h : WT T H) (ht : T.2.2.2 a = some t) {t' n : Nat} {p q : Int} (hn : (wsh t).2 = n) (hj : j < n) (hty : wty t j = (3, p, q, t')) : H a j = -1 ∨ ∃ b : Nat, H a j = (b : Int) ∧ T.2.2.2 b = some t' := by
  have h1 := (h.2 a t ht).2.2 j (by rw [hn]; exact hj)
  rw [hty] at h1
  rcases h1 with h1 | ⟨h2, h3⟩
  · exact Or.inl h1
  · exact Or.inr ⟨(H a j).toNat, by omega, h3⟩
theorem WT.put (h : WT T H) (ht : T.2.2.2 a = some t) (hz : wok T (wty t j) z) : WT T (wq_u H a j z) := by
  refine ⟨h.1, fun b s hb => ⟨(h.2 b s hb).1, (h.2 b s hb).2.1, fun i hi => ?_⟩⟩
  by_cases hq : b = a ∧ i = j
  · obtain ⟨rfl, rfl⟩ := hq
    rw [ht] at hb
    cases hb
    rw [wq_u_eq]
    exact hz
  · rw [wq_u_ne hq]
    exact (h.2 b s hb).2.2 i hi
theorem WT.putB (h : WT T H) (ht : T.2.2.2 a = some t) {lo hi : Int} (hty : wty t j = (0, lo, hi, 0)) (h1 : lo ≤ z) (h2 : z ≤ hi) : WT T (wq_u H a j z) := h.put ht (by rw [hty]; exact ⟨h1, h2⟩)
/-- may slot j of a cell with tag t have changed -/
def wmem (l : List (Nat × Nat)) (t j : Nat) : Bool := l.any (fun q => q.1 == t && (q.2 == 999 || q.2 == j))
/-- nothing else has changed -/
def wfr (l : List (Nat × Nat)) (T : wq_T) (H H' : wq_H) : Prop := ∀ a j t, T.2.2.2 a = some t → wmem l t j = false → H' a j = H a j
theorem wfr.rf {l : List (Nat × Nat)} : wfr l T H H := fun _ _ _ _ _ => rfl
theorem wfr.put {l : List (Nat × Nat)} (h : wfr l T H0 H) (ht : T.2.2.2 a = some t) (hm : wmem l t j = true) : wfr l T H0 (wq_u H a j z) := fun b i s hb hs => by
  rw [wq_u_ne, h b i s hb hs]
  rintro ⟨rfl, rfl⟩
  rw [ht] at hb
  cases hb
  rw [hm] at hs
  cases hs
/-- every change of one list is one of another's -/
def wsub (l l' : List (Nat × Nat)) : Bool := l.all (fun q => l'.any (fun r => r.1 == q.1 && (r.2 == 999 || r.2 == q.2)))
theorem wsub_of {l l' : List (Nat × Nat)} (h : wsub l l' = true) {t j : Nat} (hm : wmem l' t j = false) : wmem l t j = false := by
  by_cases h1 : wmem l t j = true
  · unfold wmem at h1
    obtain ⟨q, hq, h2⟩ := List.any_eq_true.mp h1
    obtain ⟨r, hr, h3⟩ := List.any_eq_true.mp (List.all_eq_true.mp h q hq)
    have h4 : wmem l' t j = true := by
      unfold wmem
      refine List.any_eq_true.mpr ⟨r, hr, ?_⟩
      simp only [Bool.and_eq_true, Bool.or_eq_true, beq_iff_eq] at h2 h3 ⊢
      refine ⟨h3.1.trans h2.1, ?_⟩
      rcases h3.2 with h5 | h5
      · exact Or.inl h5
      · rcases h2.2 with h6 | h6
        · exact Or.inl (h5.trans h6)
        · exact Or.inr (h5.trans h6)
    rw [hm] at h4
    cases h4
  · simpa using h1
theorem wfr.tr {l l' : List (Nat × Nat)} (h : wfr l T H0 H) (h2 : wfr l' T H H') (hs : wsub l' l = true) : wfr l T H0 H' := fun b i s hb hm => by
  rw [h2 b i s hb (wsub_of hs hm)]
  exact h b i s hb hm
theorem wtag_ne {a b t s : Nat} (ha : T.2.2.2 a = some t) (hb : T.2.2.2 b = some s) (h : (t == s) = false) : a ≠ b := fun e => by
  subst e
  rw [ha] at hb
  cases hb
  simp at h
end WTS
/-! ints by bits: their bounds (own work) -/
theorem wI_w (x : Int) : wI (wq_w x) := wI_of _
theorem wI_and (x y : Int) : wI (wq_and x y) := wI_of _
theorem wI_or (x y : Int) : wI (wq_or x y) := wI_of _
theorem wI_xor (x y : Int) : wI (wq_xor x y) := wI_of _
theorem wI_shl (x y : Int) : wI (wq_shl x y) := wI_of _
theorem wI_shr (x y : Int) : wI (wq_shr x y) := wI_of _
theorem wI_ushr (x y : Int) : wI (wq_ushr x y) := wI_of _
theorem wL_w (x : Int) : wL (wl_w x) := wL_of _
theorem wL_and (x y : Int) : wL (wl_and x y) := wL_of _
theorem wL_or (x y : Int) : wL (wl_or x y) := wL_of _
theorem wL_shl (x y : Int) : wL (wl_shl x y) := wL_of _
theorem wL_shr (x y : Int) : wL (wl_shr x y) := wL_of _
theorem wL_div (x y : Int) : wL (wl_div x y) := wL_of _
theorem wL_rem (x y : Int) : wL (wl_rem x y) := wL_of _
theorem wq_cmp_b (x y : Int) : (x < y ∧ wq_cmp x y = -1) ∨ (x = y ∧ wq_cmp x y = 0) ∨ (y < x ∧ wq_cmp x y = 1) := by
  unfold wq_cmp
  by_cases h1 : x < y
  · exact Or.inl ⟨h1, if_pos h1⟩
  · rw [if_neg h1]
    by_cases h2 : x = y
    · exact Or.inr (Or.inl ⟨h2, if_pos h2⟩)
    · rw [if_neg h2]
      exact Or.inr (Or.inr ⟨by omega, rfl⟩)
theorem wq_w_id {x : Int} (h : wI x) : wq_w x = x := wI_t h
theorem wl_w_id {x : Int} (h : wL x) : wl_w x = x := wL_t h
theorem wq_i2b_b (x : Int) : -128 ≤ wq_i2b x ∧ wq_i2b x ≤ 127 := by
  unfold wq_i2b
  rw [Int8.toInt_toInt32]
  exact ⟨Int8.le_toInt _, by have := Int8.toInt_lt (Int32.ofInt x).toInt8; omega⟩
theorem wI_toNat {x : Int} (h : 0 ≤ x) (h2 : x ≤ 2147483647) : (Int32.ofInt x).toBitVec.toNat = x.toNat := by
  have h1 := wI_t (z := x) ⟨by omega, h2⟩
  have h3 : (Int32.ofInt x).toBitVec.toInt = x := h1
  rw [BitVec.toInt_eq_toNat_cond] at h3
  split at h3 <;> omega
/-- masked by a number that isn't negative -/
theorem wq_and_b (x : Int) {y : Int} (h0 : 0 ≤ y) (h1 : y ≤ 2147483647) : 0 ≤ wq_and x y ∧ wq_and x y ≤ y := by
  have e : wq_and x y = ((Int32.ofInt x).toBitVec &&& (Int32.ofInt y).toBitVec).toInt := rfl
  have hn : ((Int32.ofInt x).toBitVec &&& (Int32.ofInt y).toBitVec).toNat ≤ y.toNat := by
    rw [BitVec.toNat_and, wI_toNat h0 h1]
    exact Nat.and_le_right
  have h2 := BitVec.toInt_eq_toNat_cond ((Int32.ofInt x).toBitVec &&& (Int32.ofInt y).toBitVec)
  rw [e, h2]
  split <;> omega
theorem wq_and_c (x y : Int) : wq_and x y = wq_and y x := by
  unfold wq_and
  rw [Int32.and_comm]
/-- a quotient, a remainder of numbers that aren't negative -/
theorem wq_div_e {x y : Int} (hx : 0 ≤ x ∧ x ≤ 2147483647) (hy : 0 < y ∧ y ≤ 2147483647) : wq_div x y = x / y := by
  unfold wq_div
  rw [Int32.toInt_div, wI_t ⟨by omega, hx.2⟩, wI_t ⟨by omega, hy.2⟩, Int.tdiv_eq_ediv_of_nonneg hx.1]
  have h1 : 0 ≤ x / y := Int.ediv_nonneg hx.1 (by omega)
  have h2 : x / y ≤ x := Int.ediv_le_self _ hx.1
  rw [Int.bmod_def]
  omega
theorem wq_rem_e {x y : Int} (hx : 0 ≤ x ∧ x ≤ 2147483647) (hy : 0 < y ∧ y ≤ 2147483647) : wq_rem x y = x % y := by
  have h0 := wq_div_e hx hy
  unfold wq_div at h0
  have e : Int32.ofInt x / Int32.ofInt y = Int32.ofInt (x / y) := by rw [← h0, Int32.ofInt_toInt]
  unfold wq_rem
  rw [e, ← Int32.ofInt_mul, ← Int32.ofInt_sub]
  have h3 : x - x / y * y = x % y := by
    have := Int.mul_ediv_add_emod x y
    rw [Int.mul_comm] at this
    omega
  rw [h3]
  have h4 := Int.emod_nonneg x (show y ≠ 0 by omega)
  have h5 := Int.emod_lt_of_pos x hy.1
  exact wI_t ⟨by omega, by omega⟩
theorem wl_div_e {x y : Int} (hx : 0 ≤ x ∧ x ≤ 9223372036854775807) (hy : 0 < y ∧ y ≤ 9223372036854775807) : wl_div x y = x / y := by
  unfold wl_div
  rw [Int64.toInt_div, wL_t ⟨by omega, hx.2⟩, wL_t ⟨by omega, hy.2⟩, Int.tdiv_eq_ediv_of_nonneg hx.1]
  have h1 : 0 ≤ x / y := Int.ediv_nonneg hx.1 (by omega)
  have h2 : x / y ≤ x := Int.ediv_le_self _ hx.1
  rw [Int.bmod_def]
  omega
theorem wl_rem_e {x y : Int} (hx : 0 ≤ x ∧ x ≤ 9223372036854775807) (hy : 0 < y ∧ y ≤ 9223372036854775807) : wl_rem x y = x % y := by
  have h0 := wl_div_e hx hy
  unfold wl_div at h0
  have e : Int64.ofInt x / Int64.ofInt y = Int64.ofInt (x / y) := by rw [← h0, Int64.ofInt_toInt]
  unfold wl_rem
  rw [e, ← Int64.ofInt_mul, ← Int64.ofInt_sub]
  have h3 : x - x / y * y = x % y := by
    have := Int.mul_ediv_add_emod x y
    rw [Int.mul_comm] at this
    omega
  rw [h3]
  have h4 := Int.emod_nonneg x (show y ≠ 0 by omega)
  have h5 := Int.emod_lt_of_pos x hy.1
  exact wL_t ⟨by omega, by omega⟩
/-! shorthands for the generator -/
theorem wq_hc {a c j n : Nat} (ha : 256 ≤ a) (h : (!decide (20 ≤ c) && decide (j < mc_N.getD c 0) && decide (j < n)) = true) : (decide (a < 256) == decide (20 ≤ c)) = true ∧ (decide (a < 256) || decide (j < mc_N.getD c 0)) = true ∧ j < n := by
  simp only [Bool.and_eq_true, Bool.not_eq_true', decide_eq_true_eq, decide_eq_false_iff_not] at h
  obtain ⟨⟨h1, h2⟩, h3⟩ := h
  refine ⟨?_, ?_, h3⟩
  · rw [decide_eq_false (by omega : ¬ a < 256), decide_eq_false h1]
    rfl
  · rw [decide_eq_true h2]
    simp
theorem wq_fitZ {z : Int} (h0 : 0 ≤ z) (h1 : z ≤ 1) : mc_fit .boolean (vI z) = true := by
  have h2 : z = 0 ∨ z = 1 := by omega
  rcases h2 with rfl | rfl <;> decide +kernel
theorem wp_lc {kt : Nat → Option mc_E} {d k pc : Nat} {L L' : List (Nat × Value)} {st : List Value} {T : wq_T} {H : wq_H} {Q : Option Value → wq_T → wq_H → Prop} {ks : List Nat} (h1 : ∀ q ∈ L, q ∈ L') (hk : L'.map Prod.fst = ks) (h2 : ks.Nodup) (h : wp kt d k pc L st T H Q) : wp kt d k pc L' st T H Q := wp_loc h1 (by rw [hk]; exact h2) h
theorem wl_div_or {x y : Int} (hx : -9223372036854775808 ≤ x ∧ x ≤ 9223372036854775807) (hy : 0 < y ∧ y ≤ 9223372036854775807) : x < 0 ∨ wl_div x y = x / y := by
  by_cases h : x < 0
  · exact Or.inl h
  · exact Or.inr (wl_div_e ⟨by omega, hx.2⟩ hy)
theorem wl_rem_or {x y : Int} (hx : -9223372036854775808 ≤ x ∧ x ≤ 9223372036854775807) (hy : 0 < y ∧ y ≤ 9223372036854775807) : x < 0 ∨ wl_rem x y = x % y := by
  by_cases h : x < 0
  · exact Or.inl h
  · exact Or.inr (wl_rem_e ⟨by omega, hx.2⟩ hy)
/-- x divided by 40, n times -/
def wdv : Nat → Int → Int
  | 0, x => x
  | n + 1, x => wdv n x / 40
theorem wdv_s {x y a : Int} {m n : Nat} (h : x = wdv m a) (hn : n = m + 1) (e : y = x / 40) : y = wdv n a := by
  subst hn
  rw [e, h]
  rfl
end
