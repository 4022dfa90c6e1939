/-! THE RUN TO THE LOOP'S HEAD: more constants change no run; the kernel runs it (own work) -/
section KTM

variable {kt kt' : Nat → Option mc_E} {own nL : Nat} {ini : Bool} {ret : Option FieldType} {cc : ByteArray}
theorem mc_ce_kt (hk : ∀ a e, kt a = some e → kt' a = some e) {M : mc_M} {a : Nat} {e : mc_E} (h : mc_ce kt M a = some e) : mc_ce kt' M a = some e := by
  by_cases ha : a < 256
  · rw [mc_ce_lo ha] at h ⊢
    exact hk a e h
  · rw [mc_ce_hi (by omega)] at h ⊢
    exact h
theorem mc_ald_kt (hk : ∀ a e, kt a = some e → kt' a = some e) {ok : Nat → Bool} {pc : Nat} {L : List (Nat × Value)} {st : List Value} {M : mc_M} {r : mc_S ⊕ mc_R} (h : mc_ald kt ok pc L st M = some r) : mc_ald kt' ok pc L st M = some r := by
  unfold mc_ald at h ⊢
  split at h
  · split at h
    · next q hq =>
      rw [mc_ce_kt hk hq]
      exact h
    · cases h
  · cases h
theorem mc_len_kt (hk : ∀ a e, kt a = some e → kt' a = some e) {pc : Nat} {L : List (Nat × Value)} {st : List Value} {M : mc_M} {r : mc_S ⊕ mc_R} (h : mc_len kt pc L st M = some r) : mc_len kt' pc L st M = some r := by
  unfold mc_len at h ⊢
  split at h
  · split at h
    · next q hq =>
      rw [mc_ce_kt hk hq]
      exact h
    · cases h
  · cases h
theorem mc_getf_kt (hk : ∀ a e, kt a = some e → kt' a = some e) {idx pc : Nat} {L : List (Nat × Value)} {st : List Value} {M : mc_M} {r : mc_S ⊕ mc_R} (h : mc_getf kt own idx pc L st M = some r) : mc_getf kt' own idx pc L st M = some r := by
  unfold mc_getf at h ⊢
  split at h
  · split at h
    · next e he =>
      split at h
      · next q hq =>
        rw [mc_ce_kt hk hq]
        exact h
      · cases h
    · cases h
  · cases h
set_option maxHeartbeats 4000000 in
theorem mc_step_kt (hk : ∀ a e, kt a = some e → kt' a = some e) {call call' : Nat → List Value → mc_M → Option mc_R} (hc : ∀ (k : Nat) (as : List Value) (M : mc_M) (w : mc_R), call k as M = some w → call' k as M = some w) {x : Instr} {n : Nat} {S : mc_S} {r : mc_S ⊕ mc_R} (h : mc_step kt call own nL ini ret x n S = some r) : mc_step kt' call' own nL ini ret x n S = some r := by
  refine mc_step_mono hc ?_
  cases x with
  | getfield i => exact mc_nmap (fun h => mc_getf_kt hk h) h
  | iaload => exact mc_nmap (fun h => mc_ald_kt hk h) h
  | laload => exact mc_nmap (fun h => mc_ald_kt hk h) h
  | baload => exact mc_nmap (fun h => mc_ald_kt hk h) h
  | aaload => exact mc_nmap (fun h => mc_ald_kt hk h) h
  | arraylength => exact mc_nmap (fun h => mc_len_kt hk h) h
  | if_acmp c o => cases c <;> exact h
  | if_icmp c o => cases c <;> exact h
  | ifCond c o => cases c <;> exact h
  | multianewarray i j =>
    match j, h with
    | 2, h => exact h
    | 0, h => exact h
    | 1, h => exact h
    | j + 3, h => exact h
  | _ => exact h
theorem mc_loop_kt (hk : ∀ a e, kt a = some e → kt' a = some e) {call call' : Nat → List Value → mc_M → Option mc_R} (hc : ∀ (k : Nat) (as : List Value) (M : mc_M) (w : mc_R), call k as M = some w → call' k as M = some w) : ∀ (n : Nat) (S : mc_S) (w : mc_R), mc_loop kt call own nL ini ret cc n S = some w → mc_loop kt' call' own nL ini ret cc n S = some w
  | 0, _, _, h => by cases h
  | n + 1, S, w, h => by
    unfold mc_loop at h ⊢
    split at h
    · next x k hd =>
      split at h
      · next S1 hs =>
        rw [mc_step_kt hk hc hs]
        exact mc_loop_kt hk hc n S1 w h
      · next w' hs =>
        rw [mc_step_kt hk hc hs]
        exact h
      · cases h
    · cases h
end KTM
theorem mc_call_kt {kt kt' : Nat → Option mc_E} (hk : ∀ a e, kt a = some e → kt' a = some e) {F : Nat} : ∀ (d : Nat) (k : Nat) (as : List Value) (M : mc_M) (w : mc_R), mc_call kt F d k as M = some w → mc_call kt' F d k as M = some w
  | 0, _, _, _, _, h => by cases h
  | d + 1, k, as, M, w, h => by
    unfold mc_call at h ⊢
    split at h
    · next q hq =>
      split at h
      · next hl => exact mc_loop_kt hk (mc_call_kt hk d) F _ w h
      · cases h
    · cases h
def mc_ktn (a : Nat) : Option mc_E := if a = 0 then none else mc_kt 0 (fun _ => 0) a
theorem mc_ktn_ok {L : Nat} {xs : Nat → Int32} : ∀ a e, mc_ktn a = some e → mc_kt L xs a = some e := fun a e h => by
  unfold mc_ktn at h
  split at h
  · cases h
  · next h0 =>
    unfold mc_kt at h ⊢
    rw [if_neg h0] at h ⊢
    exact h
/-- the law's code by its list -/
def mc_sgl (kt : Nat → Option mc_E) (call : Nat → List Value → mc_M → Option mc_R) : Nat → mc_S → Option mc_S
  | 0, S => some S
  | n + 1, S => match mc_lawcd S.1 with
    | some (x, k) => match mc_step kt call 11 7 false (some .boolean) x k S with
      | some (.inl S1) => mc_sgl kt call n S1
      | _ => none
    | none => none
def wini : Option mc_S := mc_sgl mc_ktn (mc_call mc_ktn 6000 11) 13 (0, [(0, .ref 0)], [], [])
def wacc (M : mc_M) (x m o : Nat) : List (Nat × Nat) := wbfs (wkids mc_ktn M) 3000 [(x, 1), (m, 42), (o, 73)] []
/-- a cell's slots from lo on, 2 ^ d of them: their kinds -/
noncomputable def wokR (d lo : Nat) (e : mc_E) : Bool := match e with
  | .inl (t, n, f) => decide (t < 100) && decide (n ≤ 20480) && wall n (fun j => wmk (wq_ak t) (f j)) d lo
  | .inr (c, fs) => decide (fs.length ≤ 20480) && wall fs.length (fun j => wmk (wq_fk c j) (fs.getD j .null)) d lo
/-- and their types -/
noncomputable def wceR (d lo : Nat) (kt : Nat → Option mc_E) (M : mc_M) (acc : List (Nat × Nat)) : Bool := acc.all (fun q => decide (256 ≤ q.1) && decide (q.2 < 80) && decide (wmS kt M q.1 = some (wsh q.2)) && decide ((wsh q.2).2 ≤ 20480) && wall (wsh q.2).2 (fun j => wokb acc (wty q.2 j) (wmH kt M q.1 j)) d lo)
/-- the same, each cell and its types fetched once -/
noncomputable def wceF (d lo : Nat) (kt : Nat → Option mc_E) (M : mc_M) (acc : List (Nat × Nat)) : Bool := acc.all (fun q => decide (256 ≤ q.1) && decide (q.2 < 80) && decide (wmS kt M q.1 = some (wsh q.2)) && decide ((wsh q.2).2 ≤ 20480) && (match wtyl[q.2]?, mc_ce kt M q.1 with
  | some ty, some e => wall (wsh q.2).2 (fun j => wokb acc (ty j) (wmh e j)) d lo
  | _, _ => false))
theorem wceF_ok {d lo : Nat} {kt : Nat → Option mc_E} {M : mc_M} {acc : List (Nat × Nat)} (h : wceF d lo kt M acc = true) : wceR d lo kt M acc = true := by
  refine List.all_eq_true.mpr (fun q hq => ?_)
  have g := List.all_eq_true.mp h q hq
  rw [Bool.and_eq_true] at g ⊢
  refine ⟨g.1, ?_⟩
  have h80 : q.2 < 80 := by
    have g1 := g.1
    simp only [Bool.and_eq_true, decide_eq_true_eq] at g1
    exact g1.1.1.2
  have g2 := g.2
  split at g2
  · next ty e h1 h2 =>
    have e1 : wty q.2 = ty := by
      funext j
      unfold wty
      rw [if_pos h80, List.getD_eq_getElem?_getD, h1]
      rfl
    have e2 : wmH kt M q.1 = wmh e := by
      funext j
      unfold wmH
      rw [h2]
    rw [e1, e2]
    exact g2
  · cases g2
def wchk1 (M : mc_M) (x m o : Nat) (acc : List (Nat × Nat)) : Bool := decide (mc_find acc x = some 1) && decide (mc_find acc m = some 42) && decide (mc_find acc o = some 73) && decide (256 ≤ x) && decide (256 ≤ m) && decide (256 ≤ o) && decide (wmH mc_ktn M m 28 = 0) && decide (wmH mc_ktn M x 9 = wmH mc_ktn M m 6)
def wini4 (p : mc_M → Nat → Nat → Nat → Bool) : Bool := match wini with
  | some S => match S.2.1, S.2.2.1 with
    | [(4, .int z), (3, .ref o), (2, .ref m), (1, .ref x), (0, .ref a)], [] => decide (S.1 = 23) && decide (z = 0) && decide (a = 0) && p S.2.2.2 x m o
    | _, _ => false
  | none => false
/-- what there is, the kinds of all slots -/
theorem wr_1 : wini4 (fun M x m o => ((((decide (M.length ≤ 1000) && decide (mc_sz M ≤ 100000) && wchk1 M x m o (wacc M x m o)) && M.all (wokR 11 0)) && M.all (fun e => wokR 11 2048 e && wokR 12 4096 e)) && M.all (wokR 13 8192)) && M.all (wokR 12 16384)) = true := by decide +kernel
