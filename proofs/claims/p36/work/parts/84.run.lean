/-! THE RUN TO THE LOOP'S HEAD: more constants change no run; the kernel runs it (own work) -/
section KTM

variable {kt kt' : Nat → Option mc_E} {own nL : Nat} {ini : Bool} {ret : Option FieldType} {cc : ByteArray}
theorem mc_ce_kt (hk : ∀ a e, kt a = some e → kt' a = some e) {M : mc_M} {a : Nat} {e : mc_E} (h : mc_ce kt M a = some e) : mc_ce kt' M a = some e := by
  by_cases ha : a < 256
  · rw [mc_ce_lo ha] at h ⊢
    exact hk a e h
  · rw [mc_ce_hi (by omega)] at h ⊢
    exact h
theorem mc_ald_kt (hk : ∀ a e, kt a = some e → kt' a = some e) {ok : Nat → Bool} {pc : Nat} {L : List (Nat × Value)} {st : List Value} {M : mc_M} {r : mc_S ⊕ mc_R} (h : mc_ald kt ok pc L st M = some r) : mc_ald kt' ok pc L st M = some r := by
  unfold mc_ald at h ⊢
  split at h
  · split at h
    · next q hq =>
      rw [mc_ce_kt hk hq]
      exact h
    · cases h
  · cases h
theorem mc_len_kt (hk : ∀ a e, kt a = some e → kt' a = some e) {pc : Nat} {L : List (Nat × Value)} {st : List Value} {M : mc_M} {r : mc_S ⊕ mc_R} (h : mc_len kt pc L st M = some r) : mc_len kt' pc L st M = some r := by
  unfold mc_len at h ⊢
  split at h
  · split at h
    · next q hq =>
      rw [mc_ce_kt hk hq]
      exact h
    · cases h
  · cases h
theorem mc_getf_kt (hk : ∀ a e, kt a = some e → kt' a = some e) {idx pc : Nat} {L : List (Nat × Value)} {st : List Value} {M : mc_M} {r : mc_S ⊕ mc_R} (h : mc_getf kt own idx pc L st M = some r) : mc_getf kt' own idx pc L st M = some r := by
  unfold mc_getf at h ⊢
  split at h
  · split at h
    · next e he =>
      split at h
      · next q hq =>
        rw [mc_ce_kt hk hq]
        exact h
      · cases h
    · cases h
  · cases h
set_option maxHeartbeats 4000000 in
theorem mc_step_kt (hk : ∀ a e, kt a = some e → kt' a = some e) {call call' : Nat → List Value → mc_M → Option mc_R} (hc : ∀ (k : Nat) (as : List Value) (M : mc_M) (w : mc_R), call k as M = some w → call' k as M = some w) {x : Instr} {n : Nat} {S : mc_S} {r : mc_S ⊕ mc_R} (h : mc_step kt call own nL ini ret x n S = some r) : mc_step kt' call' own nL ini ret x n S = some r := by
  refine mc_step_mono hc ?_
  cases x with
  | getfield i => exact mc_nmap (fun h => mc_getf_kt hk h) h
  | iaload => exact mc_nmap (fun h => mc_ald_kt hk h) h
  | laload => exact mc_nmap (fun h => mc_ald_kt hk h) h
  | baload => exact mc_nmap (fun h => mc_ald_kt hk h) h
  | aaload => exact mc_nmap (fun h => mc_ald_kt hk h) h
  | arraylength => exact mc_nmap (fun h => mc_len_kt hk h) h
  | if_acmp c o => cases c <;> exact h
  | if_icmp c o => cases c <;> exact h
  | ifCond c o => cases c <;> exact h
  | multianewarray i j =>
    match j, h with
    | 2, h => exact h
    | 0, h => exact h
    | 1, h => exact h
    | j + 3, h => exact h
  | _ => exact h
theorem mc_loop_kt (hk : ∀ a e, kt a = some e → kt' a = some e) {call call' : Nat → List Value → mc_M → Option mc_R} (hc : ∀ (k : Nat) (as : List Value) (M : mc_M) (w : mc_R), call k as M = some w → call' k as M = some w) : ∀ (n : Nat) (S : mc_S) (w : mc_R), mc_loop kt call own nL ini ret cc n S = some w → mc_loop kt' call' own nL ini ret cc n S = some w
  | 0, _, _, h => by cases h
  | n + 1, S, w, h => by
    unfold mc_loop at h ⊢
    split at h
    · next x k hd =>
      split at h
      · next S1 hs =>
        rw [mc_step_kt hk hc hs]
        exact mc_loop_kt hk hc n S1 w h
      · next w' hs =>
        rw [mc_step_kt hk hc hs]
        exact h
      · cases h
    · cases h
end KTM
theorem mc_call_kt {kt kt' : Nat → Option mc_E} (hk : ∀ a e, kt a = some e → kt' a = some e) {F : Nat} : ∀ (d : Nat) (k : Nat) (as : List Value) (M : mc_M) (w : mc_R), mc_call kt F d k as M = some w → mc_call kt' F d k as M = some w
  | 0, _, _, _, _, h => by cases h
  | d + 1, k, as, M, w, h => by
    unfold mc_call at h ⊢
    split at h
    · next q hq =>
      split at h
      · next hl => exact mc_loop_kt hk (mc_call_kt hk d) F _ w h
      · cases h
    · cases h
/-- the same run, its instructions looked up in the lists -/
noncomputable def mc_loopF (kt : Nat → Option mc_E) (call : Nat → List Value → mc_M → Option mc_R) (k own nL : Nat) (ini : Bool) (ret : Option FieldType) (n : Nat) : mc_S → Option mc_R := Nat.rec (motive := fun _ => mc_S → Option mc_R) (fun _ => none) (fun _ ih S => match mc_cd k S.1 with
  | some (x, j) => match mc_step kt call own nL ini ret x j S with
    | some (.inl S1) => ih S1
    | some (.inr w) => some w
    | none => none
  | none => none) n
theorem mc_loopF_S {kt : Nat → Option mc_E} {call : Nat → List Value → mc_M → Option mc_R} {k own nL : Nat} {ini : Bool} {ret : Option FieldType} {n : Nat} {S : mc_S} : mc_loopF kt call k own nL ini ret (n + 1) S = (match mc_cd k S.1 with
  | some (x, j) => match mc_step kt call own nL ini ret x j S with
    | some (.inl S1) => mc_loopF kt call k own nL ini ret n S1
    | some (.inr w) => some w
    | none => none
  | none => none) := rfl
theorem mc_loopF_ok {kt : Nat → Option mc_E} {call call' : Nat → List Value → mc_M → Option mc_R} (hc : ∀ (k : Nat) (as : List Value) (M : mc_M) (w : mc_R), call k as M = some w → call' k as M = some w) {k own nL : Nat} {ini : Bool} {ret : Option FieldType} {q : Nat × MethodName × ByteArray × Nat × Option FieldType × Nat × Nat} (hq : mc_mt k = some q) : ∀ (n : Nat) (S : mc_S) (w : mc_R), mc_loopF kt call k own nL ini ret n S = some w → mc_loop kt call' own nL ini ret q.2.2.1 n S = some w
  | 0, _, _, h => by cases h
  | n + 1, S, w, h => by
    rw [mc_loopF_S] at h
    unfold mc_loop
    split at h
    · next x j hx =>
      rw [mc_cd_ok hq hx]
      split at h
      · next S1 hs =>
        have h2 := mc_loopF_ok hc hq n S1 w h
        have h3 := mc_step_mono hc hs
        first
          | (dsimp only; rw [h3]; exact h2)
          | (simp only [h3]; exact h2)
      · next w9 hs =>
        have h3 := mc_step_mono hc hs
        first
          | (dsimp only; rw [h3]; exact h)
          | (simp only [h3]; exact h)
      · cases h
    · cases h
noncomputable def mc_callF (kt : Nat → Option mc_E) (F d : Nat) : Nat → List Value → mc_M → Option mc_R := Nat.rec (motive := fun _ => Nat → List Value → mc_M → Option mc_R) (fun _ _ _ => none) (fun _ ih k as M => match mc_mt k with
  | some q => match decide ((lg_sl as).length ≤ q.2.2.2.1) with
    | true => mc_loopF kt ih k q.1 q.2.2.2.1 (q.2.2.2.2.2.2 == 2) q.2.2.2.2.1 F (0, lv_args 0 as, [], M)
    | false => none
  | none => none) d
theorem mc_callF_S {kt : Nat → Option mc_E} {F d k : Nat} {as : List Value} {M : mc_M} : mc_callF kt F (d + 1) k as M = (match mc_mt k with
  | some q => match decide ((lg_sl as).length ≤ q.2.2.2.1) with
    | true => mc_loopF kt (mc_callF kt F d) k q.1 q.2.2.2.1 (q.2.2.2.2.2.2 == 2) q.2.2.2.2.1 F (0, lv_args 0 as, [], M)
    | false => none
  | none => none) := rfl
theorem mc_callF_ok {kt : Nat → Option mc_E} {F : Nat} : ∀ (d k : Nat) (as : List Value) (M : mc_M) (w : mc_R), mc_callF kt F d k as M = some w → mc_call kt F d k as M = some w
  | 0, _, _, _, _, h => by cases h
  | d + 1, k, as, M, w, h => by
    rw [mc_callF_S] at h
    unfold mc_call
    split at h
    · next q hq =>
      split at h
      · next hl =>
        have h2 := mc_loopF_ok (mc_callF_ok d) hq F _ w h
        first
          | exact h2
          | (rw [hl]; exact h2)
          | (rw [hq]; dsimp only; rw [hl]; exact h2)
          | (simp only [hq, hl]; exact h2)
          | (dsimp only; rw [hl]; exact h2)
          | simp_all
      · cases h
    · cases h
def mc_ktn (a : Nat) : Option mc_E := if a = 0 then none else mc_kt 0 (fun _ => 0) a
theorem mc_ktn_ok {L : Nat} {xs : Nat → Int32} : ∀ a e, mc_ktn a = some e → mc_kt L xs a = some e := fun a e h => by
  unfold mc_ktn at h
  split at h
  · cases h
  · next h0 =>
    unfold mc_kt at h ⊢
    rw [if_neg h0] at h ⊢
    exact h
/-- the law's code by its list -/
def mc_sgl (kt : Nat → Option mc_E) (call : Nat → List Value → mc_M → Option mc_R) : Nat → mc_S → Option mc_S
  | 0, S => some S
  | n + 1, S => match mc_lawcd S.1 with
    | some (x, k) => match mc_step kt call 11 7 false (some .boolean) x k S with
      | some (.inl S1) => mc_sgl kt call n S1
      | _ => none
    | none => none
noncomputable def wini : Option mc_S := mc_sgl mc_ktn (mc_callF mc_ktn 6000 11) 13 (0, [(0, .ref 0)], [], [])
def wacc (M : mc_M) (x m o : Nat) : List (Nat × Nat) := wbfs (wkids mc_ktn M) 3000 [(x, 1), (m, 42), (o, 73)] []
/-- a number at which p fails, if there is one -/
noncomputable def hil (p : Nat → Bool) : Nat := Classical.epsilon (fun j => p j = false)
theorem hil_ok {p : Nat → Bool} (h : p (hil p) = true) (j : Nat) : p j = true := by
  cases hj : p j with
  | true => rfl
  | false =>
    have h2 : p (hil p) = false := Classical.epsilon_spec (p := fun j => p j = false) ⟨j, hj⟩
    rw [h] at h2
    cases h2
/-- short: all of them; long: the one -/
noncomputable def wfsm (n : Nat) (p : Nat → Bool) : Bool := Nat.ble 257 n || wall n p 8 0
noncomputable def wbg (n : Nat) (p : Nat → Bool) (j : Nat) : Bool := Nat.ble n 256 || p j
theorem wfsb {n : Nat} {p : Nat → Bool} (h1 : wfsm n p = true) (h2 : ∀ j, wbg n p j = true) : ∀ j, j < n → p j = true := by
  intro j hj
  by_cases h : n ≤ 256
  · have e : Nat.ble 257 n = false := nble_f (by omega)
    unfold wfsm at h1
    rw [e, Bool.false_or] at h1
    have e8 : (2 : Nat) ^ 8 = 256 := by decide
    exact wall_ok 8 0 h1 j (Nat.zero_le _) (by rw [e8]; omega) hj
  · have e : Nat.ble n 256 = false := nble_f (by omega)
    have h3 := h2 j
    unfold wbg at h3
    rw [e, Bool.false_or] at h3
    exact h3
/-- a cell's slots: their kinds -/
noncomputable def wokS (e : mc_E) : Bool := match e with
  | .inl (t, n, f) => decide (t < 100) && decide (n ≤ 20480) && wfsm n (fun j => wmk (wq_ak t) (f j))
  | .inr (c, fs) => decide (fs.length ≤ 256) && wall fs.length (fun j => wmk (wq_fk c j) (fs.getD j .null)) 8 0
noncomputable def wokJ (j : Nat) (e : mc_E) : Bool := match e with
  | .inl (t, n, f) => wbg n (fun j => wmk (wq_ak t) (f j)) j
  | .inr _ => true
/-- and their types -/
noncomputable def wceS (kt : Nat → Option mc_E) (M : mc_M) (acc : List (Nat × Nat)) : Bool := acc.all (fun q => (decide (256 ≤ q.1) && decide (q.2 < 80) && decide (wmS kt M q.1 = some (wsh q.2)) && decide ((wsh q.2).2 ≤ 20480)) && (match wtyl[q.2]?, mc_ce kt M q.1 with
  | some ty, some e => wfsm (wsh q.2).2 (fun j => wokb acc (ty j) (wmh e j))
  | _, _ => false))
noncomputable def wceJ (kt : Nat → Option mc_E) (M : mc_M) (acc : List (Nat × Nat)) (j : Nat) : Bool := acc.all (fun q => match wtyl[q.2]?, mc_ce kt M q.1 with
  | some ty, some e => wbg (wsh q.2).2 (fun j => wokb acc (ty j) (wmh e j)) j
  | _, _ => false)
def wchk1 (M : mc_M) (x m o : Nat) (acc : List (Nat × Nat)) : Bool := decide (mc_find acc x = some 1) && decide (mc_find acc m = some 42) && decide (mc_find acc o = some 73) && decide (256 ≤ x) && decide (256 ≤ m) && decide (256 ≤ o) && decide (wmH mc_ktn M m 28 = 0) && decide (wmH mc_ktn M x 9 = wmH mc_ktn M m 6)
noncomputable def wini4 (p : mc_M → Nat → Nat → Nat → Bool) : Bool := match wini with
  | some S => match S.2.1, S.2.2.1 with
    | [(4, .int z), (3, .ref o), (2, .ref m), (1, .ref x), (0, .ref a)], [] => decide (S.1 = 23) && decide (z = 0) && decide (a = 0) && p S.2.2.2 x m o
    | _, _ => false
  | none => false
/-- what there is, the kinds of all slots -/
theorem wr_1 : wini4 (fun M x m o => (((decide (M.length ≤ 1000) && decide (mc_sz M ≤ 100000) && wchk1 M x m o (wacc M x m o)) && M.all wokS) && wceS mc_ktn M (wacc M x m o))) = true := by decide +kernel
