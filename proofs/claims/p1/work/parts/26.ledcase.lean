/-! THE LAW'S CASE WITH THE EXCEPTION (own work) -/
def mcA_opA : mcA_E := .inl (99, 6, fun _ => .inl .null)
def mcA_noc : Nat → List mc_V → mcA_M → Option mcA_R := fun _ _ _ => none
def mcA_dc (cc : ByteArray) (pc : Nat) : Option (Instr × Nat) := match decode cc pc with
  | .ok x => some x
  | .error _ => none
theorem mcA_dc_ok {cc : ByteArray} {pc : Nat} {x : Instr × Nat} (h : mcA_dc cc pc = some x) : decode cc pc = .ok x := by
  unfold mcA_dc at h
  split at h
  · next y hy =>
    cases h
    exact hy
  · cases h
def mcA_lB (S : mcA_S) : Option mcA_S := mcA_seg (mcA_kt 6 mcA_b0) (mcA_call (mcA_kt 6 mcA_b0) mcA_F 15) 11 7 false (some .boolean) mc_lawcd 7 (1592, S.2.1, [], S.2.2.2)
def mcA_lC (SB : mcA_S) (a0 : Nat) (r : Int × Int) (la : Nat) : Option mcA_S := mcA_seg (mcA_kt 6 mcA_b0) mcA_noc 11 4 false (some .int) (mcA_dc method_3_code) 4 (0, mcA_args 0 [.inl (.ref a0), .inr (some r), .inl (.ref la)], [], SB.2.2.2)
def mcA_lD (SC : mcA_S) (a0 : Nat) (r : Int × Int) : Option mcA_S := mcA_seg (mcA_kt 6 mcA_b0) mcA_noc 0 4 false (some .int) (mcA_dc prog_1_method_49_code) 9 (0, mcA_args 0 [.inl (.ref a0), .inr (some r)], [], SC.2.2.2)
def mcA_sm (A B : mcA_M) : Bool := decide (A.length = B.length) && decide ((A.map mcA_es).sum = (B.map mcA_es).sum)
def mcA_lE (SB SD : mcA_S) : Bool := mcA_fin (mcA_loop (mcA_kt 6 mcA_b0) (mcA_call (mcA_kt 6 mcA_b0) mcA_F 15) 11 7 false (some .boolean) mc_lawcd mcA_F (1603, SB.2.1, [.inl (.int 1)], SD.2.2.2 ++ [mcA_opA]))
def mcA_is0 (e : Option mcA_E) : Bool := match e with
  | some (.inr z) => decide (z.1 = 0)
  | _ => false
def mcA_kq3 (SB SC : mcA_S) (a0 : Nat) (r : Int × Int) : Bool := match mcA_lD SC a0 r with
  | some SD => decide (SD.1 = 46) && decide (SD.2.2.1.length = 0) && mcA_sm SD.2.2.2 SC.2.2.2 && mcA_lE SB SD
  | none => false
def mcA_kq2 (SB : mcA_S) (a0 : Nat) (r : Int × Int) (la : Nat) : Bool := match mcA_lC SB a0 r la with
  | some SC => match SC.2.2.1 with
    | [.inr (some r2), .inl (.ref a2), .inl (.int z), .inl (.ref la2)] => decide (SC.1 = 4) && decide (a2 = a0) && decide (la2 = la) && decide (z = 0) && mcA_sm SC.2.2.2 SB.2.2.2 && mcA_is0 SC.2.2.2[a0 - 256]? && mcA_kq3 SB SC a0 r2
    | _ => false
  | none => false
def mcA_kq1 (SA : mcA_S) : Bool := match mcA_lB SA with
  | some SB => match SB.2.2.1 with
    | [.inl (.ref la), .inr (some r), .inl (.ref a0)] => decide (SB.1 = 1600) && decide (SB.2.2.2.length ≤ 5000) && decide ((SB.2.2.2.map mcA_es).sum ≤ 1000000) && decide (256 ≤ a0) && mcA_kq2 SB a0 r la
    | _ => false
  | none => false
def mcA_kq0 : Bool := match mcA_lseg mcA_b0 24 with
  | some SA => mcA_kq1 SA
  | none => false
theorem mcA_kq0_ok : mcA_kq0 = true := by decide +kernel
