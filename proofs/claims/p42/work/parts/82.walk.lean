/-! THE CLAIM OUT OF ONE WALK OF THE LAW'S BODY. Your part is whole_start (and what it stands on); all else here is the same for every law, but numbers. -/
def R_law : String := "StrikeAwakeLaw"
def lw_P (b : Addr) (xs : List Int32) (args : Array Value) (s : State) : Prop := args = #[.ref b] ∧ s.IntsAt b xs ∧ xs.length ≤ 3072 ∧ (Jvm.Cond.and given_1 narrow_1).before args s = true
def lw_Q (_ : Array Value) (s : State) (o : Outcome) (t : State) : Prop := o = .returned (some (.int 1)) ∧ Framed s o t [] 601024 7293034
def lw_Z (below : List Frame) (a : Array Value) (s : State) : State → Prop := fun t => ∃ o, t.status = .running ∧ Ended t below o ∧ lw_Q a s o t
/-- the law's own end, with 1 on the stack, nothing written that was there before, its room as the claim has it -/
theorem lw_ret {p : Program} {l : Launch} {e : Env} {s : State} {m : MethodId} {below : List Frame} {meth : Method} {c : Code} {b : Nat} (hx : p.tables.exec = Jvm.exec) (hb : c.code = code) (hr : meth.sig.returnType = ret) (hlocks : meth.locks = false) {pc : Nat} {H : Heap} {ls : Array Slot} (hdg : decode code pc = .ok (.ireturn, 1)) : W p l e room_1 s m #[Value.ref b] below meth c H [] 601024 7293034 (lw_Z below #[Value.ref b] s) (F0 m pc ls [.int 1]) := by
  intro T hT X
  obtain ⟨fs, hret, hrun, hended, hW, hframe⟩ := X.leave (v := some (.int 1)) (hlocks := hlocks) (fun h => by rw [hr] at h; cases h)
  have hmeth' : T.vm.method? m = some meth := X.method'
  refine ⟨T.setFrames fs, ?_, .returned (some (.int 1)), hrun, hended, rfl, ⟨_, rfl⟩, hW, hframe⟩
  jvm_step X.here [X.here.top, hx, hb, hdg, hmeth', hr, ret, narrow_b1]
  (try refine ⟨rfl, ?_⟩); (try refine ⟨rfl, ?_⟩)
  first | (intro acts; rw [hret _ acts rfl rfl rfl]) | rw [hret _ _ rfl rfl rfl]
  exact Steps.refl _
/-- what holds at the law's entry: the machine, the code, the tables' words (any of lw_tbl by 'hts w (by decide +kernel)'), the script of L ints xs at the cell b, what the Statement gives of the start (any of its parts by flat_of_before) -/
def lw_At (p : Program) (s : State) (m : MethodId) (meth : Method) (c : Code) (b L : Nat) (xs : Nat → Int32) : Prop :=
  p.tables.exec = Jvm.exec ∧ c.code = code ∧ meth.sig.returnType = ret ∧ c.maxLocals = 7 ∧ s.vm.findClass R_law = some m.cls ∧ (∀ w ∈ lw_tbl, w.before #[Value.ref b] s = true) ∧ va_X b L xs s s.heap ∧ b < s.heap.size ∧ meth.locks = false ∧ (Jvm.Cond.and given_1 narrow_1).before #[Value.ref b] s = true
/-! THE LAW'S PLACES OVER THE MACHINE (own work) -/
theorem mc_ret_b {st : List Value} {M : mc_M} {w : mc_R} (h : mc_ret (some .boolean) st M = some (.inr w)) : ∃ v, st = [.int v] ∧ w = (some (.int v), M) := by
  unfold mc_ret at h
  split at h
  · cases h
    exact ⟨_, rfl, rfl⟩
  · obtain ⟨-, h⟩ := mc_n_t h
    cases h
    exact ⟨_, rfl, rfl⟩
  · cases h

section MC9

variable {kt : Nat → Option mc_E} {own : Nat} {ini : Bool} {ret9 : Option FieldType} {cc : ByteArray}

variable {G : mc_G} {p : Program} {l : Launch} {e : Env} {R : Room} {s : State} {m : MethodId} {args : Array Value} {below : List Frame} {meth : Method} {c : Code} {Q : State → Prop} {nL l0 z0 : Nat}
/-- the law's own end -/
theorem mc_lfin {b : Nat} (C : mc_X kt G 11 7 false (some .boolean) code p s m #[Value.ref b] meth c) (hbase : G.2.1 = s.heap.size) {call : Nat → List Value → mc_M → Option mc_R} {w : mc_R} (hw : w.1 = some (.int 1)) (hsz : w.2.length ≤ 601024 ∧ mc_sz w.2 ≤ 7293034) (S : mc_S) (x : Instr) (n : Nat) (hd : decode code S.1 = .ok (x, n)) (h : mc_step kt call 11 7 false (some .boolean) x n S = some (.inr w)) : mc_W G p l e room_1 s m #[Value.ref b] below meth c (lw_Z below #[Value.ref b] s) 7 0 0 S := by
  obtain ⟨pc, L, st, M⟩ := S
  obtain ⟨hx, hb, hown, hts, hml, hB, hba, hini, hlk, hret⟩ := C
  rcases mc_end_of h with ⟨rfl, rfl, h8⟩ | ⟨rfl, rfl, h8⟩ | ⟨rfl, rfl, h8⟩ | ⟨rfl, rfl, h8⟩
  · have h8 : mc_ret (some .boolean) st M = some (.inr w) := h8
    obtain ⟨v, rfl, rfl⟩ := mc_ret_b h8
    cases hw
    intro H locs ls cells slots hH hS hl hc hz
    have hc : cells + 0 = M.length := hc
    have hz : slots + 0 = mc_sz M := hz
    have hsz1 : M.length ≤ 601024 := hsz.1
    have hsz2 : mc_sz M ≤ 7293034 := hsz.2
    refine va_forget (fun q hq => ?_) (W.widen (k := 601024) (n := 7293034) (by omega) (by omega) ?_)
    · have h1 : G.2.1 ≤ q.base := hS.2.2 q hq
      omega
    · exact lw_ret hx hb hret hlk hd
  · cases h8
  · cases h8
  · cases h8
end MC9
theorem mc_W.loc {G : mc_G} {p : Program} {l : Launch} {e : Env} {R : Room} {s : State} {m : MethodId} {args : Array Value} {below : List Frame} {meth : Method} {c : Code} {Q : State → Prop} {nL l0 z0 pc : Nat} {L L' : List (Nat × Value)} {st : List Value} {M : mc_M} (hq : ∀ q ∈ L, q ∈ L') (h : mc_W G p l e R s m args below meth c Q nL l0 z0 (pc, L, st, M)) : mc_W G p l e R s m args below meth c Q nL l0 z0 (pc, L', st, M) := by
  intro H locs ls cells slots hH hS hl hc hz
  refine h H locs ls cells slots hH hS ⟨hl.1, hl.2.1, fun q hq' => ?_⟩ hc hz
  obtain ⟨q0, h1, rfl⟩ := List.mem_map.mp hq'
  exact hl.2.2 _ (List.mem_map.mpr ⟨q0, hq _ h1, rfl⟩)
theorem wlX_W {p : Program} {l : Launch} {e : Env} {s : State} {m : MethodId} {below : List Frame} {meth : Method} {c : Code} {b L : Nat} {xs : Nat → Int32} {G : mc_G} (C : mc_X (mc_kt L xs) G 11 7 false (some .boolean) code p s m #[Value.ref b] meth c) (hbase : G.2.1 = s.heap.size) : wlX (mc_kt L xs) 601024 7293034 (mc_W G p l e room_1 s m #[Value.ref b] below meth c (lw_Z below #[Value.ref b] s) 7 0 0) := by
  refine ⟨fun F x n S0 S hd h hb k => ?_, fun pc L L' st M hq h => mc_W.loc hq h, fun L9 M h1 h2 => ?_⟩
  · exact mc_step_ok (R := room_1) C (call := mc_call (mc_kt L xs) F 11) (d := 11) (mc_call_ok l 11) ⟨by decide, by decide⟩ (mc_lawcd_ok hd) h hb k
  · exact mc_lfin (call := fun _ _ _ => none) C hbase (w := (some (.int 1), M)) rfl ⟨h1, h2⟩ (1660, L9, [.int 1], M) .ireturn 1 (mc_lawcd_ok cL_1660) rfl
