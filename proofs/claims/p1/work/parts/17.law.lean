/-! THE LAW, run by the mini machine (own work) -/
def mc_room (i : Nat) : Int32 := [1, 6, 1, 3, 3, 24, 4, 6, 0, 0, 0].getD i 0
def mc_swm (i : Nat) : Int32 := [1, 2, 3, 4, 5, 6, 7, 8, 0, 0, 0].getD i 0
/-- the constants: the script, RESERVED, the switch's map, the enum's constants -/
def mc_kt (L : Nat) (xs : Nat → Int32) (a : Nat) : Option mc_E :=
  if a = 0 then some (.inl (0, L, fun j => .int (xs j)))
  else if a = 1 then some (.inl (7, 11, fun j => .ref (16 + j)))
  else if a = 2 then some (.inl (0, 11, fun j => .int (mc_swm j)))
  else if 16 ≤ a ∧ a < 27 then some (.inr (20, [.ref (16 + a), .int (mc_room (a - 16))]))
  else none
def mcA_kt (L : Nat) (bx : Nat → mc_V) (a : Nat) : Option mcA_E :=
  if a = 0 then some (.inl (0, L, bx))
  else if a = 1 then some (.inl (7, 11, fun j => .inl (.ref (16 + j))))
  else if a = 2 then some (.inl (0, 11, fun j => .inl (.int (mc_swm j))))
  else if 16 ≤ a ∧ a < 27 then some (.inr (20, [.inl (.ref (16 + a)), .inl (.int (mc_room (a - 16)))]))
  else none
theorem mcA_kt_ok {L : Nat} {xs : Nat → Int32} {bx : Nat → mc_V} (h : ∀ j, mc_g (bx j) (.int (xs j))) : ∀ (a : Nat) (eA : mcA_E), mcA_kt L bx a = some eA → ∃ e, mc_kt L xs a = some e ∧ mcA_gE eA e := by
  intro a eA ha
  unfold mcA_kt at ha
  unfold mc_kt
  split at ha
  · next h0 =>
    cases ha
    rw [if_pos h0]
    exact ⟨_, rfl, rfl, rfl, h⟩
  · next h0 =>
    rw [if_neg h0]
    split at ha
    · next h1 =>
      cases ha
      rw [if_pos h1]
      exact ⟨_, rfl, rfl, rfl, fun _ => rfl⟩
    · next h1 =>
      rw [if_neg h1]
      split at ha
      · next h2 =>
        cases ha
        rw [if_pos h2]
        exact ⟨_, rfl, rfl, rfl, fun _ => rfl⟩
      · next h2 =>
        rw [if_neg h2]
        split at ha
        · next h3 =>
          cases ha
          rw [if_pos h3]
          exact ⟨_, rfl, rfl, rfl, rfl, trivial⟩
        · cases ha
/-- so many instructions, none of them a return -/
def mc_seg (kt : Nat → Option mc_E) (call : Nat → List Value → mc_M → Option mc_R) (own nL : Nat) (ini : Bool) (ret : Option FieldType) (cc : ByteArray) : Nat → mc_S → Option mc_S
  | 0, S => some S
  | n + 1, S => match decode cc S.1 with
    | .ok (x, k) => match mc_step kt call own nL ini ret x k S with
      | some (.inl S1) => mc_seg kt call own nL ini ret cc n S1
      | _ => none
    | .error _ => none
def mcA_seg (kA : Nat → Option mcA_E) (call : Nat → List mc_V → mcA_M → Option mcA_R) (own nL : Nat) (ini : Bool) (ret : Option FieldType) (cd : Nat → Option (Instr × Nat)) : Nat → mcA_S → Option mcA_S
  | 0, S => some S
  | n + 1, S => match cd S.1 with
    | some (x, k) => match mcA_step kA call own nL ini ret x k S with
      | some (.inl S1) => mcA_seg kA call own nL ini ret cd n S1
      | _ => none
    | none => none
theorem mcA_seg_ok {kt : Nat → Option mc_E} {kA : Nat → Option mcA_E} (hk : ∀ (a : Nat) (eA : mcA_E), kA a = some eA → ∃ e, kt a = some e ∧ mcA_gE eA e) {callA : Nat → List mc_V → mcA_M → Option mcA_R} {call : Nat → List Value → mc_M → Option mc_R} (IH : ∀ (k : Nat) (vs : List mc_V) (xs : List Value) (MA : mcA_M) (M : mc_M) (w : mcA_R), mcA_R2 mc_g vs xs → mcA_R2 mcA_gE MA M → callA k vs MA = some w → ∃ w', call k xs M = some w' ∧ mcA_gR w w') {own nL : Nat} {ini : Bool} {ret : Option FieldType} {cc : ByteArray} {cd : Nat → Option (Instr × Nat)} (hcd : ∀ (pc : Nat) (x : Instr × Nat), cd pc = some x → decode cc pc = .ok x) : ∀ (n : Nat) (SA : mcA_S) (S : mc_S) (TA : mcA_S), mcA_gS SA S → mcA_seg kA callA own nL ini ret cd n SA = some TA → ∃ T, mc_seg kt call own nL ini ret cc n S = some T ∧ mcA_gS TA T
  | 0, SA, S, TA, hS, h => by
    unfold mcA_seg at h
    cases h
    exact ⟨S, rfl, hS⟩
  | n + 1, SA, S, w, hS, h => by
    unfold mcA_seg at h
    unfold mc_seg
    rw [← hS.1]
    split at h
    · next x k hd =>
      rw [hcd _ _ hd]
      dsimp only
      split at h
      · next S1 hs =>
        obtain ⟨r', h1, h2⟩ := mcA_step_ok hk IH hS hs
        match r', h1, h2 with
        | .inl S2, h1, h2 =>
          rw [h1]
          exact mcA_seg_ok hk IH hcd n S1 S2 w h2 h
        | .inr w2, h1, h2 => exact h2.elim
      · cases h
    · cases h
def mcA_S0 : mcA_S := (0, [(0, .inl (.ref 0))], [], [])
def mcA_F : Nat := 100000
def mcA_lseg (bx : Nat → mc_V) (n : Nat) : Option mcA_S := mcA_seg (mcA_kt 6 bx) (mcA_call (mcA_kt 6 bx) mcA_F 15) 11 7 false (some .boolean) mc_lawcd n mcA_S0
def mcA_es (e : mcA_E) : Nat := match e with
  | .inl x => x.2.1
  | .inr o => o.2.length
/-- the law ended with 1, within its room -/
def mcA_fin (w : Option mcA_R) : Bool := match w with
  | some (some (.inl (.int v)), M) => v == 1 && decide (M.length ≤ 5000) && decide ((M.map mcA_es).sum ≤ 1000000)
  | _ => false
def mcA_neg : mc_V := .inr (some (-2147483648, -1))
def mcA_nn : mc_V := .inr (some (0, 2147483647))
def mcA_pos : mc_V := .inr (some (1, 2147483647))
def mcA_ten : mc_V := .inr (some (10, 2147483647))
def mcA_zero : mc_V := .inl (.int 0)
def mcA_bA : List mc_V := [mcA_neg, mcA_nn]
def mcA_bB : List mc_V := [mcA_neg, .inl (.int 0), .inl (.int 1), .inl (.int 2), .inl (.int 3), .inl (.int 4), .inl (.int 5), .inl (.int 6), .inl (.int 7), .inl (.int 8), .inl (.int 9), mcA_ten]
def mcA_bC : List mc_V := [mcA_neg, mcA_zero, mcA_pos]
def mcA_box (b1 b2 : mc_V) (j : Nat) : mc_V := if j = 1 then b1 else if j = 2 then b2 else mcA_top
def mcA_b0 : Nat → mc_V := fun _ => mcA_top
/-- from place tgt to the end, whatever stands in the script within these bounds -/
def mcA_run (b1 b2 : mc_V) (tgt : Nat) (S : mcA_S) : Bool := mcA_fin (mcA_loop (mcA_kt 6 (mcA_box b1 b2)) (mcA_call (mcA_kt 6 (mcA_box b1 b2)) mcA_F 15) 11 7 false (some .boolean) mc_lawcd mcA_F (tgt, S.2.1, [], S.2.2.2))
def mcA_chk (l1 l2 : List mc_V) (tgts : List Nat) : Bool := match mcA_lseg mcA_b0 24 with
  | some S => decide (S.1 = 40) && decide (S.2.2.1.length = 1) && tgts.all (fun tgt => l1.all (fun b1 => l2.all (fun b2 => mcA_run b1 b2 tgt S)))
  | none => false
/-- a script that is too short -/
def mcA_chk0 (L : Nat) : Bool := mcA_fin (mcA_loop (mcA_kt L mcA_b0) (mcA_call (mcA_kt L mcA_b0) mcA_F 15) 11 7 false (some .boolean) mc_lawcd mcA_F mcA_S0)
