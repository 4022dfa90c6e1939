section
/-! THE CLAIM OUT OF ONE WALK OF THE LAW'S BODY. Your part is whole_start (and what it stands on); all else here is the same for every law, but numbers. -/
def R_law : String := "StrikeAwakeLaw"
def lw_P (b : Addr) (xs : List Int32) (args : Array Value) (s : State) : Prop := args = #[.ref b] ∧ s.IntsAt b xs ∧ xs.length ≤ 3072 ∧ (Jvm.Cond.and given_1 narrow_1).before args s = true
def lw_Q (_ : Array Value) (s : State) (o : Outcome) (t : State) : Prop := o = .returned (some (.int 1)) ∧ Framed s o t [] 601024 7293034
def lw_Z (below : List Frame) (a : Array Value) (s : State) : State → Prop := fun t => ∃ o, t.status = .running ∧ Ended t below o ∧ lw_Q a s o t
/-- the law's own end, with 1 on the stack, nothing written that was there before, its room as the claim has it -/
theorem lw_ret {p : Program} {l : Launch} {e : Env} {s : State} {m : MethodId} {below : List Frame} {meth : Method} {c : Code} {b : Nat} (hx : p.tables.exec = Jvm.exec) (hb : c.code = code) (hr : meth.sig.returnType = ret) (hlocks : meth.locks = false) {pc : Nat} {H : Heap} {ls : Array Slot} (hdg : decode code pc = .ok (.ireturn, 1)) : W p l e room_1 s m #[Value.ref b] below meth c H [] 601024 7293034 (lw_Z below #[Value.ref b] s) (F0 m pc ls [.int 1]) := by
  intro T hT X
  obtain ⟨fs, hret, hrun, hended, hW, hframe⟩ := X.leave (v := some (.int 1)) (hlocks := hlocks) (fun h => by rw [hr] at h; cases h)
  have hmeth' : T.vm.method? m = some meth := X.method'
  refine ⟨T.setFrames fs, ?_, .returned (some (.int 1)), hrun, hended, rfl, ⟨_, rfl⟩, hW, hframe⟩
  jvm_step X.here [X.here.top, hx, hb, hdg, hmeth', hr, ret, narrow_b1]
  (try refine ⟨rfl, ?_⟩); (try refine ⟨rfl, ?_⟩)
  first | (intro acts; rw [hret _ acts rfl rfl rfl]) | rw [hret _ _ rfl rfl rfl]
  exact Steps.refl _
/-- what holds at the law's entry: the machine, the code, the tables' words (any of lw_tbl by 'hts w (by decide +kernel)'), the script of L ints xs at the cell b, what the Statement gives of the start (any of its parts by flat_of_before) -/
def lw_At (p : Program) (s : State) (m : MethodId) (meth : Method) (c : Code) (b L : Nat) (xs : Nat → Int32) : Prop :=
  p.tables.exec = Jvm.exec ∧ c.code = code ∧ meth.sig.returnType = ret ∧ c.maxLocals = 7 ∧ s.vm.findClass R_law = some m.cls ∧ (∀ w ∈ lw_tbl, w.before #[Value.ref b] s = true) ∧ va_X b L xs s s.heap ∧ b < s.heap.size ∧ meth.locks = false ∧ (Jvm.Cond.and given_1 narrow_1).before #[Value.ref b] s = true
/-! THE LAW'S PLACES OVER THE MACHINE (own work) -/
theorem mc_ret_b {st : List Value} {M : mc_M} {w : mc_R} (h : mc_ret (some .boolean) st M = some (.inr w)) : ∃ v, st = [.int v] ∧ w = (some (.int v), M) := by
  unfold mc_ret at h
  split at h
  · cases h
    exact ⟨_, rfl, rfl⟩
  · obtain ⟨-, h⟩ := mc_n_t h
    cases h
    exact ⟨_, rfl, rfl⟩
  · cases h

section MC9

variable {kt : Nat → Option mc_E} {own : Nat} {ini : Bool} {ret9 : Option FieldType} {cc : ByteArray}

variable {G : mc_G} {p : Program} {l : Launch} {e : Env} {R : Room} {s : State} {m : MethodId} {args : Array Value} {below : List Frame} {meth : Method} {c : Code} {Q : State → Prop} {nL l0 z0 : Nat}
/-- the law's own end -/
theorem mc_lfin {b : Nat} (C : mc_X kt G 11 7 false (some .boolean) code p s m #[Value.ref b] meth c) (hbase : G.2.1 = s.heap.size) {call : Nat → List Value → mc_M → Option mc_R} {w : mc_R} (hw : w.1 = some (.int 1)) (hsz : w.2.length ≤ 601024 ∧ mc_sz w.2 ≤ 7293034) (S : mc_S) (x : Instr) (n : Nat) (hd : decode code S.1 = .ok (x, n)) (h : mc_step kt call 11 7 false (some .boolean) x n S = some (.inr w)) : mc_W G p l e room_1 s m #[Value.ref b] below meth c (lw_Z below #[Value.ref b] s) 7 0 0 S := by
  obtain ⟨pc, L, st, M⟩ := S
  obtain ⟨hx, hb, hown, hts, hml, hB, hba, hini, hlk, hret⟩ := C
  rcases mc_end_of h with ⟨rfl, rfl, h8⟩ | ⟨rfl, rfl, h8⟩ | ⟨rfl, rfl, h8⟩ | ⟨rfl, rfl, h8⟩
  · have h8 : mc_ret (some .boolean) st M = some (.inr w) := h8
    obtain ⟨v, rfl, rfl⟩ := mc_ret_b h8
    cases hw
    intro H locs ls cells slots hH hS hl hc hz
    have hc : cells + 0 = M.length := hc
    have hz : slots + 0 = mc_sz M := hz
    have hsz1 : M.length ≤ 601024 := hsz.1
    have hsz2 : mc_sz M ≤ 7293034 := hsz.2
    refine va_forget (fun q hq => ?_) (W.widen (k := 601024) (n := 7293034) (by omega) (by omega) ?_)
    · have h1 : G.2.1 ≤ q.base := hS.2.2 q hq
      omega
    · exact lw_ret hx hb hret hlk hd
  · cases h8
  · cases h8
  · cases h8
end MC9
theorem mc_W.loc {G : mc_G} {p : Program} {l : Launch} {e : Env} {R : Room} {s : State} {m : MethodId} {args : Array Value} {below : List Frame} {meth : Method} {c : Code} {Q : State → Prop} {nL l0 z0 pc : Nat} {L L' : List (Nat × Value)} {st : List Value} {M : mc_M} (hq : ∀ q ∈ L, q ∈ L') (h : mc_W G p l e R s m args below meth c Q nL l0 z0 (pc, L, st, M)) : mc_W G p l e R s m args below meth c Q nL l0 z0 (pc, L', st, M) := by
  intro H locs ls cells slots hH hS hl hc hz
  refine h H locs ls cells slots hH hS ⟨hl.1, hl.2.1, fun q hq' => ?_⟩ hc hz
  obtain ⟨q0, h1, rfl⟩ := List.mem_map.mp hq'
  exact hl.2.2 _ (List.mem_map.mpr ⟨q0, hq _ h1, rfl⟩)
theorem wlX_W {p : Program} {l : Launch} {e : Env} {s : State} {m : MethodId} {below : List Frame} {meth : Method} {c : Code} {b L : Nat} {xs : Nat → Int32} {G : mc_G} (C : mc_X (mc_kt L xs) G 11 7 false (some .boolean) code p s m #[Value.ref b] meth c) (hbase : G.2.1 = s.heap.size) : wlX (mc_kt L xs) 601024 7293034 (mc_W G p l e room_1 s m #[Value.ref b] below meth c (lw_Z below #[Value.ref b] s) 7 0 0) := by
  refine ⟨fun F x n S0 S hd h hb k => ?_, fun pc L L' st M hq h => mc_W.loc hq h, fun L9 M h1 h2 => ?_⟩
  · exact mc_step_ok (R := room_1) C (call := mc_call (mc_kt L xs) F 11) (d := 11) (mc_call_ok l 11) ⟨by decide, by decide⟩ (mc_lawcd_ok hd) h hb k
  · exact mc_lfin (call := fun _ _ _ => none) C hbase (w := (some (.int 1), M)) rfl ⟨h1, h2⟩ (1660, L9, [.int 1], M) .ireturn 1 (mc_lawcd_ok cL_1660) rfl
end
section
/-! THE STATE AT THE LOOP'S HEAD: the machine run by the kernel from the law's entry, and what its cells are (own work) -/
def wmv (v : Value) : Int := match v with
  | .int z => z.toInt
  | .long z => z.toInt
  | .ref a => (a : Int)
  | _ => -1
def wmk (k : Nat) (v : Value) : Bool := match v with
  | .int z => decide (k = 0) || (decide (k = 3) && decide (-128 ≤ z.toInt) && decide (z.toInt ≤ 127)) || (decide (k = 4) && decide (0 ≤ z.toInt) && decide (z.toInt ≤ 1))
  | .long _ => decide (k = 1)
  | .ref _ => decide (k = 2)
  | .null => decide (k = 2)
  | _ => false
theorem wmk_ok {k : Nat} {v : Value} (h : wmk k v = true) : v = wq_v k (wmv v) ∧ wq_in k (wmv v) := by
  unfold wmk at h
  split at h
  · next z =>
    simp only [Bool.or_eq_true, Bool.and_eq_true, decide_eq_true_eq] at h
    rcases h with (rfl | ⟨⟨rfl, h2⟩, h3⟩) | ⟨⟨rfl, h2⟩, h3⟩
    · exact ⟨vI_of z, wI_of z⟩
    · exact ⟨vI_of z, h2, h3⟩
    · exact ⟨vI_of z, h2, h3⟩
  · next z =>
    have h := of_decide_eq_true h
    subst h
    exact ⟨vL_of z, wL_of z⟩
  · next a =>
    have h := of_decide_eq_true h
    subst h
    exact ⟨(vR_of a).symm, trivial⟩
  · have h := of_decide_eq_true h
    subst h
    exact ⟨vR_null.symm, trivial⟩
  · cases h
/-- all below n, by halves -/
noncomputable def wall (n : Nat) (p : Nat → Bool) (d : Nat) : Nat → Bool := Nat.rec (motive := fun _ => Nat → Bool) (fun lo => cond (Nat.ble n lo) true (p lo)) (fun d ih lo => cond (Nat.ble n lo) true (cond (ih lo) (ih (lo + 2 ^ d)) false)) d
theorem wall_0 {n : Nat} {p : Nat → Bool} {lo : Nat} : wall n p 0 lo = cond (Nat.ble n lo) true (p lo) := rfl
theorem wall_S {n : Nat} {p : Nat → Bool} {d lo : Nat} : wall n p (d + 1) lo = cond (Nat.ble n lo) true (cond (wall n p d lo) (wall n p d (lo + 2 ^ d)) false) := rfl
theorem nble_f {n lo : Nat} (h : lo < n) : Nat.ble n lo = false := by
  cases hb : Nat.ble n lo with
  | false => rfl
  | true =>
    have := Nat.le_of_ble_eq_true hb
    omega
theorem wall_ok {n : Nat} {p : Nat → Bool} : ∀ (d lo : Nat), wall n p d lo = true → ∀ j, lo ≤ j → j < lo + 2 ^ d → j < n → p j = true
  | 0, lo, h, j, h1, h2, h3 => by
    have e : j = lo := by
      have e : (2 : Nat) ^ 0 = 1 := rfl
      omega
    subst e
    rw [wall_0, nble_f h3] at h
    exact h
  | d + 1, lo, h, j, h1, h2, h3 => by
    rw [wall_S, nble_f (by omega)] at h
    have h : cond (wall n p d lo) (wall n p d (lo + 2 ^ d)) false = true := h
    cases ha : wall n p d lo with
    | false =>
      rw [ha] at h
      cases h
    | true =>
      rw [ha] at h
      have h : wall n p d (lo + 2 ^ d) = true := h
      by_cases hj : j < lo + 2 ^ d
      · exact wall_ok d lo ha j h1 hj h3
      · refine wall_ok d (lo + 2 ^ d) h j (by omega) ?_ h3
        have e : (2 : Nat) ^ (d + 1) = 2 ^ d + 2 ^ d := by rw [Nat.pow_succ]; omega
        omega
theorem wall_all {n : Nat} {p : Nat → Bool} (h : wall n p 15 0 = true) (hn : n ≤ 32768) (j : Nat) (hj : j < n) : p j = true := by
  have e : (2 : Nat) ^ 15 = 32768 := by decide
  exact wall_ok 15 0 h j (Nat.zero_le _) (by rw [e]; omega) hj
def wms (e : mc_E) : Nat × Nat := match e with
  | .inl (t, n, _) => (t, n)
  | .inr (c, fs) => (100 + c, fs.length)
def wmh (e : mc_E) (j : Nat) : Int := match e with
  | .inl (_, _, f) => wmv (f j)
  | .inr (_, fs) => wmv (fs.getD j .null)
noncomputable def wmok (e : mc_E) : Bool := match e with
  | .inl (t, n, f) => decide (t < 100) && decide (n ≤ 32768) && wall n (fun j => wmk (wq_ak t) (f j)) 15 0
  | .inr (c, fs) => decide (fs.length ≤ 32768) && wall fs.length (fun j => wmk (wq_fk c j) (fs.getD j .null)) 15 0
theorem wmok_c {e : mc_E} (h : wmok e = true) : wq_c (some (wms e)) (wmh e) e := by
  match e, h with
  | .inl (t, n, f), h =>
    unfold wmok at h
    simp only [Bool.and_eq_true, decide_eq_true_eq] at h
    exact ⟨h.1.1, rfl, fun j hj => wmk_ok (wall_all h.2 h.1.2 j hj)⟩
  | .inr (c, fs), h =>
    unfold wmok at h
    simp only [Bool.and_eq_true, decide_eq_true_eq] at h
    refine ⟨rfl, fun j v hv => ?_⟩
    have hj := (List.getElem?_eq_some_iff.mp hv).1
    have e1 : fs.getD j .null = v := by rw [List.getD_eq_getElem?_getD, hv]; rfl
    have h1 := wmk_ok (wall_all h.2 h.1 j hj)
    rw [e1] at h1
    show v = wq_v (wq_fk c j) (wmv (fs.getD j .null)) ∧ wq_in (wq_fk c j) (wmv (fs.getD j .null))
    rw [e1]
    exact h1
def wmS (kt : Nat → Option mc_E) (M : mc_M) (a : Nat) : Option (Nat × Nat) := (mc_ce kt M a).map wms
def wmH (kt : Nat → Option mc_E) (M : mc_M) (a j : Nat) : Int := match mc_ce kt M a with
  | some e => wmh e j
  | none => 0
theorem wmR {kt : Nat → Option mc_E} {M : mc_M} (hk : ∀ a e, a < 256 → kt a = some e → wq_c (some (wms e)) (wmh e) e) (hM : M.all wmok = true) (g : Nat → Option Nat) : wq_R kt M (wmS kt M, M.length, mc_sz M, g) (wmH kt M) := by
  refine ⟨rfl, rfl, fun a e h => ?_, fun a h => by show (mc_ce kt M a).map wms = none; rw [h]; rfl⟩
  have e1 : wmS kt M a = some (wms e) := by unfold wmS; rw [h]; rfl
  have e2 : wmH kt M a = wmh e := by funext j; unfold wmH; rw [h]
  show wq_c (wmS kt M a) (wmH kt M a) e
  rw [e1, e2]
  by_cases ha : a < 256
  · rw [mc_ce_lo ha] at h
    exact hk a e ha h
  · rw [mc_ce_hi (by omega)] at h
    exact wmok_c (List.all_eq_true.mp hM e (List.mem_of_getElem? h))
theorem wmK {L : Nat} {xs : Nat → Int32} : ∀ a e, a < 256 → mc_kt L xs a = some e → wq_c (some (wms e)) (wmh e) e := by
  intro a e ha h
  unfold mc_kt at h
  split at h
  · cases h
    exact ⟨by decide, rfl, fun j _ => ⟨vI_of _, wI_of _⟩⟩
  · split at h
    · cases h
      exact ⟨by decide, rfl, fun j _ => ⟨(vR_of _).symm, trivial⟩⟩
    · split at h
      · cases h
        exact ⟨by decide, rfl, fun j _ => ⟨vI_of _, wI_of _⟩⟩
      · split at h
        · cases h
          refine ⟨rfl, fun j v hv => ?_⟩
          match j, hv with
          | 0, hv =>
            cases hv
            exact ⟨(vR_of _).symm, trivial⟩
          | 1, hv =>
            cases hv
            exact ⟨vI_of _, wI_of _⟩
          | j + 2, hv => cases hv
        · cases h
/-- the tags, from the three that the law holds -/
def wkids (kt : Nat → Option mc_E) (M : mc_M) (a t : Nat) : List (Nat × Nat) := (List.range (min (wsh t).2 40)).filterMap (fun j => if (wty t j).1 = 0 then none else if wmH kt M a j < 256 then none else some ((wmH kt M a j).toNat, if (wty t j).1 = 4 then (wty t j).2.1.toNat else (wty t j).2.2.2))
def wbfs (f : Nat → Nat → List (Nat × Nat)) : Nat → List (Nat × Nat) → List (Nat × Nat) → List (Nat × Nat)
  | 0, _, acc => acc
  | _ + 1, [], acc => acc
  | n + 1, q :: w, acc => if acc.any (fun r => r.1 == q.1) then wbfs f n w acc else wbfs f n (f q.1 q.2 ++ w) (q :: acc)
def wtg (L : Nat) (acc : List (Nat × Nat)) (a : Nat) : Option Nat := if a < 256 then (if a = 0 then some (1000 + L) else if a = 1 then some 81 else if a = 2 then some 82 else if 16 ≤ a ∧ a < 27 then some (84 + (a - 16)) else none) else mc_find acc a
def wokb (acc : List (Nat × Nat)) (ty : Nat × Int × Int × Nat) (z : Int) : Bool := match ty.1 with
  | 0 => decide (ty.2.1 ≤ z) && decide (z ≤ ty.2.2.1)
  | 2 => decide (256 ≤ z) && mc_find acc z.toNat == some ty.2.2.2
  | 3 => decide (z = -1) || (decide (256 ≤ z) && mc_find acc z.toNat == some ty.2.2.2)
  | _ => decide (256 ≤ z) && mc_find acc z.toNat == some ty.2.1.toNat
theorem wokb_ok {T : wq_T} {L : Nat} {acc : List (Nat × Nat)} (hT : T.2.2.2 = wtg L acc) {ty : Nat × Int × Int × Nat} {z : Int} (h : wokb acc ty z = true) : wok T ty z := by
  have key : ∀ t, (256 : Int) ≤ z → mc_find acc z.toNat = some t → 0 ≤ z ∧ T.2.2.2 z.toNat = some t := fun t h1 h2 => ⟨by omega, by
    rw [hT]
    unfold wtg
    rw [if_neg (by omega)]
    exact h2⟩
  obtain ⟨k, p, q, t⟩ := ty
  match k, h with
  | 0, h =>
    have h : (decide (p ≤ z) && decide (z ≤ q)) = true := h
    simp only [Bool.and_eq_true, decide_eq_true_eq] at h
    exact h
  | 1, h =>
    have h : (decide (256 ≤ z) && mc_find acc z.toNat == some p.toNat) = true := h
    simp only [Bool.and_eq_true, decide_eq_true_eq, beq_iff_eq] at h
    have h2 := key _ h.1 h.2
    exact ⟨h2.1, Or.inr h2.2⟩
  | 2, h =>
    have h : (decide (256 ≤ z) && mc_find acc z.toNat == some t) = true := h
    simp only [Bool.and_eq_true, decide_eq_true_eq, beq_iff_eq] at h
    exact key _ h.1 h.2
  | 3, h =>
    have h : (decide (z = -1) || (decide (256 ≤ z) && mc_find acc z.toNat == some t)) = true := h
    simp only [Bool.or_eq_true, Bool.and_eq_true, decide_eq_true_eq, beq_iff_eq] at h
    exact h.imp id (fun h => key _ h.1 h.2)
  | 4, h =>
    have h : (decide (256 ≤ z) && mc_find acc z.toNat == some p.toNat) = true := h
    simp only [Bool.and_eq_true, decide_eq_true_eq, beq_iff_eq] at h
    have h2 := key _ h.1 h.2
    exact ⟨h2.1, Or.inr h2.2⟩
  | 5, h => trivial
  | k + 6, h =>
    have h : (decide (256 ≤ z) && mc_find acc z.toNat == some p.toNat) = true := h
    simp only [Bool.and_eq_true, decide_eq_true_eq, beq_iff_eq] at h
    have h2 := key _ h.1 h.2
    exact ⟨h2.1, Or.inr h2.2⟩
noncomputable def wcells (kt : Nat → Option mc_E) (M : mc_M) (acc : List (Nat × Nat)) : Bool := acc.all (fun q => decide (256 ≤ q.1) && decide (q.2 < 80) && decide (wmS kt M q.1 = some (wsh q.2)) && decide ((wsh q.2).2 ≤ 32768) && wall (wsh q.2).2 (fun j => wokb acc (wty q.2 j) (wmH kt M q.1 j)) 15 0)
theorem wmWT {L : Nat} {xs : Nat → Int32} {M : mc_M} {acc : List (Nat × Nat)} (h : wcells (mc_kt L xs) M acc = true) : WT (wmS (mc_kt L xs) M, M.length, mc_sz M, wtg L acc) (wmH (mc_kt L xs) M) := by
  have hlo : ∀ a e, a < 256 → mc_kt L xs a = some e → wmS (mc_kt L xs) M a = some (wms e) ∧ wmH (mc_kt L xs) M a = wmh e := fun a e ha he => by
    unfold wmS
    refine ⟨by rw [mc_ce_lo ha, he]; rfl, ?_⟩
    funext j
    unfold wmH
    rw [mc_ce_lo ha, he]
  refine ⟨⟨rfl, rfl, fun i hi => ?_⟩, fun a t ht => ?_⟩
  · show wtg L acc (16 + i) = some (84 + i)
    unfold wtg
    rw [if_pos (by omega), if_neg (by omega), if_neg (by omega), if_neg (by omega), if_pos (by omega), Nat.add_sub_cancel_left]
  · have ht : wtg L acc a = some t := ht
    show wmS (mc_kt L xs) M a = some (wsh t) ∧ _
    unfold wtg at ht
    split at ht
    · next ha =>
      split at ht
      · next h0 =>
        subst h0
        cases ht
        obtain ⟨h1, h2⟩ := hlo 0 _ (by decide) rfl
        refine ⟨by rw [h1, wsh_s]; rfl, fun h => by omega, fun j _ => ?_⟩
        show wok _ _ (wmH (mc_kt L xs) M 0 j)
        rw [h2, wty_s]
        exact wI_of (xs j)
      · split at ht
        · next h0 =>
          subst h0
          cases ht
          obtain ⟨h1, h2⟩ := hlo 1 _ (by decide) rfl
          refine ⟨h1, fun h => absurd h (by decide), fun j _ => ?_⟩
          show wok _ _ (wmH (mc_kt L xs) M 1 j)
          rw [h2]
          exact ⟨by show (16 : Int) + j ≤ ((16 + j : Nat) : Int); omega, by show ((16 + j : Nat) : Int) ≤ (16 : Int) + j; omega⟩
        · split at ht
          · next h0 =>
            subst h0
            cases ht
            obtain ⟨h1, h2⟩ := hlo 2 _ (by decide) rfl
            refine ⟨h1, fun h => absurd h (by decide), fun j hj => ?_⟩
            show wok _ _ (wmH (mc_kt L xs) M 2 j)
            rw [h2]
            have hj : j < 11 := hj
            have hs : ∀ j, j < 11 → wswm j = (mc_swm j).toInt := by decide +kernel
            exact ⟨by show wswm j ≤ (mc_swm j).toInt; rw [hs j hj]; exact Int.le_refl _, by show (mc_swm j).toInt ≤ wswm j; rw [hs j hj]; exact Int.le_refl _⟩
          · split at ht
            · next h0 =>
              obtain ⟨i, rfl⟩ : ∃ i, a = 16 + i := ⟨a - 16, by omega⟩
              rw [Nat.add_sub_cancel_left] at ht
              cases ht
              have hi : i < 11 := by omega
              have hk : mc_kt L xs (16 + i) = some (.inr (20, [.ref (16 + (16 + i)), .int (mc_room i)])) := by
                unfold mc_kt
                rw [if_neg (by omega), if_neg (by omega), if_neg (by omega), if_pos (by omega), Nat.add_sub_cancel_left]
              obtain ⟨h1, h2⟩ := hlo _ _ (by omega) hk
              have hsh : wsh (84 + i) = (120, 2) := by
                unfold wsh
                rw [if_neg (by omega), if_neg (by omega), if_neg (by omega), if_neg (by omega), if_neg (by omega)]
              refine ⟨by rw [h1, hsh]; rfl, fun h => by omega, fun j hj => ?_⟩
              rw [hsh] at hj
              have hj : j < 2 := hj
              show wok _ _ (wmH (mc_kt L xs) M (16 + i) j)
              rw [h2]
              have hr : ∀ i, i < 11 → wroom i = (mc_room i).toInt := by decide +kernel
              match j, hj with
              | 0, _ =>
                have e : wty (84 + i) 0 = (0, 32 + (i : Int), 32 + (i : Int), 0) := by
                  unfold wty
                  rw [if_neg (by omega), if_neg (by omega), if_neg (by omega), if_neg (by omega), if_neg (by omega), if_pos rfl, show (((84 + i : Nat) : Int) - 84) = (i : Int) by omega]
                rw [e]
                exact ⟨by show (32 : Int) + i ≤ ((16 + (16 + i) : Nat) : Int); omega, by show ((16 + (16 + i) : Nat) : Int) ≤ (32 : Int) + i; omega⟩
              | 1, _ =>
                have e : wty (84 + i) 1 = (0, wroom i, wroom i, 0) := by
                  unfold wty
                  rw [if_neg (by omega), if_neg (by omega), if_neg (by omega), if_neg (by omega), if_neg (by omega), if_neg (by decide), Nat.add_sub_cancel_left]
                rw [e]
                exact ⟨by show wroom i ≤ (mc_room i).toInt; rw [hr i hi]; exact Int.le_refl _, by show (mc_room i).toInt ≤ wroom i; rw [hr i hi]; exact Int.le_refl _⟩
              | j + 2, h => omega
            · cases ht
    · next ha =>
      have h1 := List.all_eq_true.mp h _ (mc_find_mem ht)
      simp only [Bool.and_eq_true, decide_eq_true_eq] at h1
      obtain ⟨⟨⟨⟨c1, c2⟩, c3⟩, c4⟩, c5⟩ := h1
      exact ⟨c3, fun _ => c1, fun j hj => wokb_ok (L := L) rfl (wall_all c5 c4 j hj)⟩
end
