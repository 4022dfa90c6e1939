/-! THE LAW'S WALK BY THE MINI MACHINE (own work) -/
theorem mc_ret_b {st : List Value} {M : mc_M} {w : mc_R} (h : mc_ret (some .boolean) st M = some (.inr w)) : ∃ v, st = [.int v] ∧ w = (some (.int v), M) := by
  unfold mc_ret at h
  split at h
  · cases h
    exact ⟨_, rfl, rfl⟩
  · obtain ⟨-, h⟩ := mc_n_t h
    cases h
    exact ⟨_, rfl, rfl⟩
  · cases h
section MC9
variable {kt : Nat → Option mc_E} {own : Nat} {ini : Bool} {ret9 : Option FieldType} {cc : ByteArray}
variable {G : mc_G} {p : Program} {l : Launch} {e : Env} {R : Room} {s : State} {m : MethodId} {args : Array Value} {below : List Frame} {meth : Method} {c : Code} {Q : State → Prop} {nL l0 z0 : Nat}
theorem mc_seg_le {call : Nat → List Value → mc_M → Option mc_R} (IHle : ∀ (k : Nat) (as : List Value) (M : mc_M) (w : mc_R), call k as M = some w → mc_le M w.2) : ∀ (n : Nat) (S T : mc_S), mc_seg kt call own nL ini ret9 cc n S = some T → mc_le S.2.2.2 T.2.2.2
  | 0, S, T, h => by
    unfold mc_seg at h
    cases h
    exact mc_le_rf _
  | n + 1, S, T, h => by
    unfold mc_seg at h
    split at h
    · next x k hd =>
      split at h
      · next S1 hs => exact mc_le.tr (mc_step_k IHle hs) (mc_seg_le IHle n S1 T h)
      · cases h
    · cases h
theorem mc_seg_ok (C : mc_X kt G own nL ini ret9 cc p s m args meth c) {call : Nat → List Value → mc_M → Option mc_R} {d : Nat} (IH : ∀ (k : Nat) (q : Nat × MethodName × ByteArray × Nat × Option FieldType × Nat × Nat) (as : List Value) (M : mc_M) (w : mc_R), mc_mt k = some q → call k as M = some w → mc_Met l kt G d q as M w ∧ mc_le M w.2) (IHle : ∀ (k : Nat) (as : List Value) (M : mc_M) (w : mc_R), call k as M = some w → mc_le M w.2) (hF : d + 1 ≤ R.frames ∧ 36 * (d + 1) ≤ R.locals) {T : mc_S} (hR : T.2.2.2.length ≤ R.cells + l0 ∧ mc_sz T.2.2.2 ≤ R.slots + z0)
    (kk : mc_W G p l e R s m args below meth c Q nL l0 z0 T) : ∀ (n : Nat) (S : mc_S), mc_seg kt call own nL ini ret9 cc n S = some T → mc_W G p l e R s m args below meth c Q nL l0 z0 S
  | 0, S, h => by
    unfold mc_seg at h
    cases h
    exact kk
  | n + 1, S, h => by
    unfold mc_seg at h
    split at h
    · next x k hd =>
      split at h
      · next S1 hs =>
        have hle := mc_seg_le IHle n S1 T h
        exact mc_step_ok C IH hF hd hs ⟨Nat.le_trans hle.1 hR.1, Nat.le_trans hle.2 hR.2⟩ (mc_seg_ok C IH IHle hF hR kk n S1 h)
      · cases h
    · cases h
/-- the law's own end -/
theorem mc_lfin {b : Nat} (C : mc_X kt G 11 7 false (some .boolean) code p s m #[Value.ref b] meth c) (hbase : G.2.1 = s.heap.size) {call : Nat → List Value → mc_M → Option mc_R} {w : mc_R} (hw : w.1 = some (.int 1)) (hsz : w.2.length ≤ 600002 ∧ mc_sz w.2 ≤ 7302232) (S : mc_S) (x : Instr) (n : Nat) (hd : decode code S.1 = .ok (x, n)) (h : mc_step kt call 11 7 false (some .boolean) x n S = some (.inr w)) : mc_W G p l e room_1 s m #[Value.ref b] below meth c (lw_Z below #[Value.ref b] s) 7 0 0 S := by
  obtain ⟨pc, L, st, M⟩ := S
  obtain ⟨hx, hb, hown, hts, hml, hB, hba, hini, hlk, hret⟩ := C
  rcases mc_end_of h with ⟨rfl, rfl, h8⟩ | ⟨rfl, rfl, h8⟩ | ⟨rfl, rfl, h8⟩ | ⟨rfl, rfl, h8⟩
  · have h8 : mc_ret (some .boolean) st M = some (.inr w) := h8
    obtain ⟨v, rfl, rfl⟩ := mc_ret_b h8
    cases hw
    intro H locs ls cells slots hH hS hl hc hz
    have hc : cells + 0 = M.length := hc
    have hz : slots + 0 = mc_sz M := hz
    have hsz1 : M.length ≤ 600002 := hsz.1
    have hsz2 : mc_sz M ≤ 7302232 := hsz.2
    refine va_forget (fun q hq => ?_) (W.widen (k := 600002) (n := 7302232) (by omega) (by omega) ?_)
    · have h1 : G.2.1 ≤ q.base := hS.2.2 q hq
      omega
    · exact lw_ret hx hb hret hlk hd
  · cases h8
  · cases h8
  · cases h8
end MC9
theorem mcA_sz_eq : ∀ {MA : mcA_M} {M : mc_M}, mcA_R2 mcA_gE MA M → mc_sz M = (MA.map mcA_es).sum
  | [], [], _ => rfl
  | a :: as, b :: bs, h => by
    have h1 := mcA_sz_eq h.2
    have h2 : mc_es b = mcA_es a := by
      match a, b, h.1 with
      | .inl x, .inl y, h0 => exact h0.2.1.symm
      | .inr x, .inr y, h0 => exact (mcA_R2.len h0.2).symm
    unfold mc_sz at h1 ⊢
    rw [List.map_cons, List.sum_cons, List.map_cons, List.sum_cons, h1, h2]
  | [], _ :: _, h => h.elim
  | _ :: _, [], h => h.elim
theorem mcA_fin_of {w : Option mcA_R} (h : mcA_fin w = true) : ∃ M : mcA_M, w = some (some (.inl (.int 1)), M) ∧ M.length ≤ 5000 ∧ (M.map mcA_es).sum ≤ 1000000 := by
  unfold mcA_fin at h
  split at h
  · next v M =>
    simp only [Bool.and_eq_true, beq_iff_eq, decide_eq_true_eq] at h
    obtain ⟨⟨rfl, h1⟩, h2⟩ := h
    exact ⟨M, rfl, h1, h2⟩
  · cases h
section MC10
variable {p : Program} {l : Launch} {e : Env} {s : State} {m : MethodId} {below : List Frame} {meth : Method} {c : Code} {b L : Nat} {xs : Nat → Int32} {G : mc_G}
/-- from a state that the mini machine with unknown numbers brings to the end -/
theorem mc_law_run (C : mc_X (mc_kt L xs) G 11 7 false (some .boolean) code p s m #[Value.ref b] meth c) (hbase : G.2.1 = s.heap.size) {bx : Nat → mc_V} (hg : ∀ j, mc_g (bx j) (.int (xs j))) {SA : mcA_S} {S : mc_S} (hS : mcA_gS SA S) {n : Nat} (h : mcA_fin (mcA_loop (mcA_kt L bx) (mcA_call (mcA_kt L bx) mcA_F 15) 11 7 false (some .boolean) mc_lawcd n SA) = true) : mc_W G p l e room_1 s m #[Value.ref b] below meth c (lw_Z below #[Value.ref b] s) 7 0 0 S := by
  obtain ⟨MA, h1, h2, h3⟩ := mcA_fin_of h
  have hk := mcA_kt_ok (L := L) (xs := xs) hg
  obtain ⟨w, h4, h5⟩ := mcA_loop_ok hk (mcA_call_ok hk 15) (cc := code) (fun pc x hd => mc_lawcd_ok hd) n SA S _ hS h1
  have h6 : w.1 = some (.int 1) := by
    obtain ⟨w1, w2⟩ := w
    match w1, h5.1 with
    | some v, h7 =>
      have h7 : v = .int 1 := h7
      rw [h7]
  have h7 : mcA_R2 mcA_gE MA w.2 := h5.2
  have h8 : w.2.length ≤ 600002 := by rw [← h7.len]; omega
  have h9 : mc_sz w.2 ≤ 7302232 := by rw [mcA_sz_eq h7]; omega
  exact mc_loop_ok (R := room_1) C (mc_call_ok l 15) (mc_call_le 15) ⟨by decide, by decide⟩ (w := w) ⟨h8, h9⟩ (mc_lfin C hbase h6 ⟨h8, h9⟩) n S h4
end MC10
theorem mcA_top_g (z : Int32) : mc_g mcA_top (.int z) := ⟨z, rfl, Int32.le_toInt z, by have := Int32.toInt_lt z; show z.toInt ≤ 2147483647; omega⟩
theorem mcA_bA_g (z : Int32) : ∃ v ∈ mcA_bA, mc_g v (.int z) := by
  by_cases h : z.toInt < 0
  · exact ⟨mcA_neg, List.mem_cons_self, z, rfl, Int32.le_toInt z, by show z.toInt ≤ -1; omega⟩
  · exact ⟨mcA_nn, List.mem_cons_of_mem _ List.mem_cons_self, z, rfl, by show 0 ≤ z.toInt; omega, by have := Int32.toInt_lt z; show z.toInt ≤ 2147483647; omega⟩
theorem mcA_bC_g (z : Int32) : ∃ v ∈ mcA_bC, mc_g v (.int z) := by
  by_cases h : z.toInt < 0
  · exact ⟨mcA_neg, List.mem_cons_self, z, rfl, Int32.le_toInt z, by show z.toInt ≤ -1; omega⟩
  · by_cases h0 : z.toInt = 0
    · have hz : z = 0 := Int32.toInt_inj.mp (by rw [h0]; rfl)
      subst hz
      exact ⟨mcA_zero, List.mem_cons_of_mem _ List.mem_cons_self, rfl⟩
    · exact ⟨mcA_pos, List.mem_cons_of_mem _ (List.mem_cons_of_mem _ List.mem_cons_self), z, rfl, by show 1 ≤ z.toInt; omega, by have := Int32.toInt_lt z; show z.toInt ≤ 2147483647; omega⟩
theorem mcA_bB_g (z : Int32) : ∃ v ∈ mcA_bB, mc_g v (.int z) := by
  by_cases h : z.toInt < 0
  · exact ⟨mcA_neg, List.mem_cons_self, z, rfl, Int32.le_toInt z, by show z.toInt ≤ -1; omega⟩
  · by_cases h0 : 10 ≤ z.toInt
    · exact ⟨mcA_ten, by unfold mcA_bB; simp, z, rfl, by show 10 ≤ z.toInt; omega, by have := Int32.toInt_lt z; show z.toInt ≤ 2147483647; omega⟩
    · have hz : ∀ k : Int32, z.toInt = k.toInt → z = k := fun k hk => Int32.toInt_inj.mp hk
      have h9 : z = 0 ∨ z = 1 ∨ z = 2 ∨ z = 3 ∨ z = 4 ∨ z = 5 ∨ z = 6 ∨ z = 7 ∨ z = 8 ∨ z = 9 := by
        have h10 : z.toInt = 0 ∨ z.toInt = 1 ∨ z.toInt = 2 ∨ z.toInt = 3 ∨ z.toInt = 4 ∨ z.toInt = 5 ∨ z.toInt = 6 ∨ z.toInt = 7 ∨ z.toInt = 8 ∨ z.toInt = 9 := by omega
        rcases h10 with h | h | h | h | h | h | h | h | h | h
        · exact Or.inl (hz 0 h)
        · exact Or.inr (Or.inl (hz 1 h))
        · exact Or.inr (Or.inr (Or.inl (hz 2 h)))
        · exact Or.inr (Or.inr (Or.inr (Or.inl (hz 3 h))))
        · exact Or.inr (Or.inr (Or.inr (Or.inr (Or.inl (hz 4 h)))))
        · exact Or.inr (Or.inr (Or.inr (Or.inr (Or.inr (Or.inl (hz 5 h))))))
        · exact Or.inr (Or.inr (Or.inr (Or.inr (Or.inr (Or.inr (Or.inl (hz 6 h)))))))
        · exact Or.inr (Or.inr (Or.inr (Or.inr (Or.inr (Or.inr (Or.inr (Or.inl (hz 7 h))))))))
        · exact Or.inr (Or.inr (Or.inr (Or.inr (Or.inr (Or.inr (Or.inr (Or.inr (Or.inl (hz 8 h)))))))))
        · exact Or.inr (Or.inr (Or.inr (Or.inr (Or.inr (Or.inr (Or.inr (Or.inr (Or.inr (hz 9 h)))))))))
      rcases h9 with rfl | rfl | rfl | rfl | rfl | rfl | rfl | rfl | rfl | rfl
      · exact ⟨.inl (.int 0), by unfold mcA_bB; simp, rfl⟩
      · exact ⟨.inl (.int 1), by unfold mcA_bB; simp, rfl⟩
      · exact ⟨.inl (.int 2), by unfold mcA_bB; simp, rfl⟩
      · exact ⟨.inl (.int 3), by unfold mcA_bB; simp, rfl⟩
      · exact ⟨.inl (.int 4), by unfold mcA_bB; simp, rfl⟩
      · exact ⟨.inl (.int 5), by unfold mcA_bB; simp, rfl⟩
      · exact ⟨.inl (.int 6), by unfold mcA_bB; simp, rfl⟩
      · exact ⟨.inl (.int 7), by unfold mcA_bB; simp, rfl⟩
      · exact ⟨.inl (.int 8), by unfold mcA_bB; simp, rfl⟩
      · exact ⟨.inl (.int 9), by unfold mcA_bB; simp, rfl⟩
theorem mcA_box_g {xs : Nat → Int32} {b1 b2 : mc_V} (h1 : mc_g b1 (.int (xs 1))) (h2 : mc_g b2 (.int (xs 2))) (j : Nat) : mc_g (mcA_box b1 b2 j) (.int (xs j)) := by
  unfold mcA_box
  split
  · next h => rw [h]; exact h1
  · split
    · next h => rw [h]; exact h2
    · exact mcA_top_g _
