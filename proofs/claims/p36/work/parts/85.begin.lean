/-! FROM THE LOOP'S HEAD BACK TO THE LAW'S ENTRY (own work) -/
theorem mc_sgl_kt {kt kt' : Nat → Option mc_E} (hk : ∀ a e, kt a = some e → kt' a = some e) {call call' : Nat → List Value → mc_M → Option mc_R} (hc : ∀ (k : Nat) (as : List Value) (M : mc_M) (w : mc_R), call k as M = some w → call' k as M = some w) : ∀ (n : Nat) (S S' : mc_S), mc_sgl kt call n S = some S' → mc_sgl kt' call' n S = some S'
  | 0, _, _, h => h
  | n + 1, S, S', h => by
    unfold mc_sgl at h ⊢
    split at h
    · next x k hd =>
      split at h
      · next S1 hs =>
        rw [mc_step_kt hk hc hs]
        exact mc_sgl_kt hk hc n S1 S' h
      · cases h
    · cases h
theorem mc_sgl_le {kt : Nat → Option mc_E} {call : Nat → List Value → mc_M → Option mc_R} (IHle : ∀ (k : Nat) (as : List Value) (M : mc_M) (w : mc_R), call k as M = some w → mc_le M w.2) : ∀ (n : Nat) (S T : mc_S), mc_sgl kt call n S = some T → mc_le S.2.2.2 T.2.2.2
  | 0, S, T, h => by
    unfold mc_sgl at h
    cases h
    exact mc_le_rf _
  | n + 1, S, T, h => by
    unfold mc_sgl at h
    split at h
    · next x k hd =>
      split at h
      · next S1 hs => exact mc_le.tr (mc_step_k IHle hs) (mc_sgl_le IHle n S1 T h)
      · cases h
    · cases h
theorem mc_sgl_X {kt : Nat → Option mc_E} {CB SB F : Nat} {X : mc_S → Prop} (hX : wlX kt CB SB X) {T : mc_S} (hb : T.2.2.2.length ≤ CB ∧ mc_sz T.2.2.2 ≤ SB) (kk : X T) : ∀ (n : Nat) (S : mc_S), mc_sgl kt (mc_call kt F 11) n S = some T → X S
  | 0, S, h => by
    unfold mc_sgl at h
    cases h
    exact kk
  | n + 1, S, h => by
    unfold mc_sgl at h
    split at h
    · next x k hd =>
      split at h
      · next S1 hs =>
        have hle := mc_sgl_le (mc_call_le 11) n S1 T h
        exact hX.1 F x k S S1 hd hs ⟨Nat.le_trans hle.1 hb.1, Nat.le_trans hle.2 hb.2⟩ (mc_sgl_X hX hb kk n S1 h)
      · cases h
    · cases h
/-- what the kernel found at the loop's head -/
theorem wini4_of {p : mc_M → Nat → Nat → Nat → Bool} (h : wini4 p = true) : ∃ (M : mc_M) (x m o : Nat), wini = some (23, [(4, .int 0), (3, .ref o), (2, .ref m), (1, .ref x), (0, .ref 0)], [], M) ∧ p M x m o = true := by
  unfold wini4 at h
  split at h
  · next S hS =>
    obtain ⟨pc, L, st, M⟩ := S
    split at h
    · next z o m x a h1 h2 =>
      simp only [Bool.and_eq_true, decide_eq_true_eq] at h
      obtain ⟨⟨⟨h3, h4⟩, h5⟩, h6⟩ := h
      have h1 : L = [(4, .int z), (3, .ref o), (2, .ref m), (1, .ref x), (0, .ref a)] := h1
      have h2 : st = [] := h2
      have h3 : pc = 23 := h3
      subst h1
      subst h2
      subst h3
      subst h4
      subst h5
      exact ⟨M, x, m, o, hS, h6⟩
    · cases h
  · cases h
theorem wini4_at {p : mc_M → Nat → Nat → Nat → Bool} (h : wini4 p = true) {M : mc_M} {x m o : Nat} (hw : wini = some (23, [(4, .int 0), (3, .ref o), (2, .ref m), (1, .ref x), (0, .ref 0)], [], M)) : p M x m o = true := by
  obtain ⟨M', x', m', o', h1, h2⟩ := wini4_of h
  rw [hw] at h1
  cases h1
  exact h2
theorem wall_of {n : Nat} {p : Nat → Bool} (h : ∀ j, j < n → p j = true) : ∀ d lo, wall n p d lo = true
  | 0, lo => by
    rw [wall_0]
    cases hb : Nat.ble n lo with
    | true => rfl
    | false =>
      refine h lo ?_
      by_cases q : n ≤ lo
      · rw [Nat.ble_eq_true_of_le q] at hb
        cases hb
      · omega
  | d + 1, lo => by
    rw [wall_S, wall_of h d lo, wall_of h d (lo + 2 ^ d)]
    cases Nat.ble n lo <;> rfl
theorem wmok_of {e : mc_E} (h0 : wokS e = true) (h1 : ∀ j, wokJ j e = true) : wmok e = true := by
  match e, h0, h1 with
  | .inl (t, n, f), h0, h1 =>
    unfold wokS at h0
    simp only [Bool.and_eq_true, decide_eq_true_eq] at h0
    unfold wmok
    simp only [Bool.and_eq_true, decide_eq_true_eq]
    exact ⟨⟨h0.1.1, by have := h0.1.2; omega⟩, wall_of (wfsb h0.2 h1) 15 0⟩
  | .inr (c, fs), h0, h1 =>
    unfold wokS at h0
    simp only [Bool.and_eq_true, decide_eq_true_eq] at h0
    unfold wmok
    simp only [Bool.and_eq_true, decide_eq_true_eq]
    have e8 : (2 : Nat) ^ 8 = 256 := by decide
    exact ⟨by have := h0.1; omega, wall_of (fun j hj => wall_ok 8 0 h0.2 j (Nat.zero_le _) (by have := h0.1; rw [e8]; omega) hj) 15 0⟩
theorem wmS_hi {kt kt' : Nat → Option mc_E} {M : mc_M} {a : Nat} (ha : 256 ≤ a) : wmS kt M a = wmS kt' M a ∧ wmH kt M a = wmH kt' M a := by
  refine ⟨by unfold wmS; rw [mc_ce_hi ha, mc_ce_hi ha], ?_⟩
  funext j
  unfold wmH
  rw [mc_ce_hi ha, mc_ce_hi ha]
theorem wcells_of {kt kt' : Nat → Option mc_E} {M : mc_M} {acc : List (Nat × Nat)} (h0 : wceS kt M acc = true) (h1 : ∀ j, wceJ kt M acc j = true) : wcells kt' M acc = true := by
  refine List.all_eq_true.mpr (fun q hq => ?_)
  have g0 := List.all_eq_true.mp h0 q hq
  have g1 := fun j => List.all_eq_true.mp (h1 j) q hq
  rw [Bool.and_eq_true] at g0
  obtain ⟨g0, g2⟩ := g0
  simp only [Bool.and_eq_true, decide_eq_true_eq] at g0 ⊢
  obtain ⟨e1, e2⟩ := wmS_hi (kt := kt') (kt' := kt) (M := M) g0.1.1.1
  rw [e1, e2]
  refine ⟨⟨⟨g0.1.1, g0.1.2⟩, by have := g0.2; omega⟩, wall_of ?_ 15 0⟩
  split at g2
  · next ty e h2 h3 =>
    have e3 : wty q.2 = ty := by
      funext j
      unfold wty
      rw [if_pos g0.1.1.2, List.getD_eq_getElem?_getD, h2]
      rfl
    have e4 : wmH kt M q.1 = wmh e := by
      funext j
      unfold wmH
      rw [h3]
    have g3 : ∀ j, wbg (wsh q.2).2 (fun j => wokb acc (ty j) (wmh e j)) j = true := fun j => by
      have g4 := g1 j
      simp only [h2, h3] at g4
      exact g4
    rw [e3, e4]
    exact wfsb g2 g3
  · cases g2
theorem wDD {kt : Nat → Option mc_E} {M : mc_M} {L r : Nat} {acc : List (Nat × Nat)} (hr : 256 ≤ r) (h : wdd M acc r = true) : DD (wmS kt M, M.length, mc_sz M, wtg L acc) (wmH kt M) r := by
  unfold wdd at h
  simp only [Bool.and_eq_true, decide_eq_true_eq] at h
  obtain ⟨⟨⟨h1, h2⟩, h3⟩, h4⟩ := h
  have e1 := (wmS_hi (kt := kt) (kt' := mc_ktn) (M := M) hr).2
  have e2 := (wmS_hi (kt := kt) (kt' := mc_ktn) (M := M) h3).2
  refine ⟨(wmH mc_ktn M r 0).toNat, by rw [e1]; exact h1, ?_, fun i j hi hj e => ?_⟩
  · show wtg L acc _ = some 28
    unfold wtg
    rw [if_neg (by omega)]
    exact h2
  · rw [e2] at e
    have h5 := List.all_eq_true.mp (List.all_eq_true.mp h4 i (List.mem_range.mpr hi)) j (List.mem_range.mpr hj)
    simp only [Bool.or_eq_true, decide_eq_true_eq] at h5
    rcases h5 with h5 | h5
    · exact absurd e h5
    · exact h5
theorem wXI0 {kt : Nat → Option mc_E} {M : mc_M} {L x m : Nat} {acc : List (Nat × Nat)} (hx : 256 ≤ x) (hm : 256 ≤ m) (fm : mc_find acc m = some 42) (h : wchkX M x m acc = true) : XI0 (wmS kt M, M.length, mc_sz M, wtg L acc) (wmH kt M) x m := by
  unfold wchkX at h
  generalize (wmH mc_ktn M x 0).toNat = tc at h
  generalize (wmH mc_ktn M m 5).toNat = tm at h
  generalize (wmH mc_ktn M x 6).toNat = cu at h
  generalize (wmH mc_ktn M x 7).toNat = dr at h
  unfold wchkY at h
  simp only [Bool.and_eq_true, decide_eq_true_eq] at h
  obtain ⟨⟨⟨⟨⟨⟨⟨⟨a1, a2⟩, a3⟩, ⟨⟨b1, b2⟩, b3⟩⟩, ⟨⟨c1, c2⟩, c3⟩⟩, ⟨⟨d1, d2⟩, d3⟩⟩, k1⟩, k2⟩, z⟩ := h
  have tg : ∀ a t, 256 ≤ a → mc_find acc a = some t → wtg L acc a = some t := fun a t h1 h2 => by
    unfold wtg
    rw [if_neg (by omega)]
    exact h2
  have eh : ∀ a, 256 ≤ a → wmH kt M a = wmH mc_ktn M a := fun a ha => (wmS_hi (kt := kt) (kt' := mc_ktn) (M := M) ha).2
  have hz : ∀ j, j < 900 → wmH mc_ktn M tc j = 0 ∧ wmH mc_ktn M tm j = 0 := fun j hj => by
    have := List.all_eq_true.mp z j (List.mem_range.mpr hj)
    simpa using this
  refine ⟨fun _ => 0, tc, tm, cu, dr, by rw [eh x hx]; exact a1, tg _ _ a3 a2, fun j hj => ?_, by rw [eh m hm]; exact b1, tg _ _ b3 b2, fun j hj => ?_, by rw [eh x hx]; exact c1, tg _ _ c3 c2, by rw [eh x hx]; exact d1, tg _ _ d3 d2, wDD c3 k1, wDD d3 k2, tg _ _ hm fm⟩
  · rw [eh tc a3]
    exact (hz j hj).1
  · rw [eh tm b3]
    exact (hz j hj).2
theorem wDE {kt : Nat → Option mc_E} {M : mc_M} {L r : Nat} {acc : List (Nat × Nat)} (h : wde M r = true) : DE (wmS kt M, M.length, mc_sz M, wtg L acc) (wmH kt M) r := by
  unfold wde at h
  simp only [Bool.and_eq_true, decide_eq_true_eq] at h
  obtain ⟨⟨⟨h0, h1⟩, h2⟩, h3⟩ := h
  have eh : ∀ a, 256 ≤ a → wmH kt M a = wmH mc_ktn M a := fun a ha => (wmS_hi (kt := kt) (kt' := mc_ktn) (M := M) ha).2
  intro i k j hi hk hj e
  have a1 := of_decide_eq_true (List.all_eq_true.mp h2 i (List.mem_range.mpr hi))
  have a2 := of_decide_eq_true (List.all_eq_true.mp h2 k (List.mem_range.mpr hk))
  have h4 := List.all_eq_true.mp (List.all_eq_true.mp h3 i (List.mem_range.mpr hi)) k (List.mem_range.mpr hk)
  rw [Bool.or_eq_true] at h4
  rcases h4 with h4 | h4
  · exact of_decide_eq_true h4
  · have h5 := of_decide_eq_true (List.all_eq_true.mp h4 j (List.mem_range.mpr hj))
    have e' : wmH kt M (wmH kt M (wmH kt M r 0).toNat i).toNat j = wmH kt M (wmH kt M (wmH kt M r 0).toNat k).toNat j := e
    rw [eh r h0, eh _ h1, eh _ a1, eh _ a2] at e'
    exact absurd e' h5
theorem wHD {kt : Nat → Option mc_E} {M : mc_M} {L ce S tA tR : Nat} {acc : List (Nat × Nat)} (hW : WT (wmS kt M, M.length, mc_sz M, wtg L acc) (wmH kt M)) (gc : wtg L acc ce = some 12) (hc : 256 ≤ ce) (hS : S < 10) (t1 : wty 12 S = (2, 0, 0, tA)) (h80 : tA < 80) (h : wchkR M ce S = true) : HDr S tA tR (wmS kt M, M.length, mc_sz M, wtg L acc) (wmH kt M) ce := by
  have eh : ∀ a, 256 ≤ a → wmH kt M a = wmH mc_ktn M a := fun a ha => (wmS_hi (kt := kt) (kt' := mc_ktn) (M := M) ha).2
  obtain ⟨a, k1, k2⟩ := hW.ref (t' := tA) (n := 10) (j := S) gc rfl hS t1
  have ha : 256 ≤ a := hW.hi k2 h80
  have e1 : (wmH mc_ktn M ce S).toNat = a := by
    rw [← eh ce hc, k1]
    exact Int.toNat_natCast a
  refine ⟨a, k1, k2, fun p q hp hq hn => ?_⟩
  have h1 := List.all_eq_true.mp (List.all_eq_true.mp h p (List.mem_range.mpr hp)) q (List.mem_range.mpr hq)
  rw [e1, Bool.or_eq_true] at h1
  rcases h1 with h1 | h1
  · exact absurd (of_decide_eq_true h1) hn
  · rw [eh a ha]
    exact of_decide_eq_true h1
theorem xD0_r {i j : Nat} (h : i ≠ 0) : xD0 i j = 0 := if_neg (fun c => h c.1)
theorem wXI {kt : Nat → Option mc_E} {M : mc_M} {L x m : Nat} {acc : List (Nat × Nat)} (hW : WT (wmS kt M, M.length, mc_sz M, wtg L acc) (wmH kt M)) (hx : 256 ≤ x) (hm : 256 ≤ m) (fm : mc_find acc m = some 42) (gx9 : wtg L acc x = some 1) (h : wchkX M x m acc = true) (hz : wchkZ M acc (wmH mc_ktn M x 6).toNat (wmH mc_ktn M x 7).toNat = true) (hc : wchkC M x m = true) (x8 : wmH kt M x 8 = 0) (m3 : wmH kt M m 3 = -1) : XI (wmS kt M, M.length, mc_sz M, wtg L acc) (wmH kt M) x m := by
  have eh : ∀ a, 256 ≤ a → wmH kt M a = wmH mc_ktn M a := fun a ha => (wmS_hi (kt := kt) (kt' := mc_ktn) (M := M) ha).2
  obtain ⟨B, tc, tm, cu, dr, h1, h2, h3, h4, h5, h6, h7, h8, h9, h10, h11, h12, h13⟩ := wXI0 hx hm fm h
  have ecu : (wmH mc_ktn M x 6).toNat = cu := by
    rw [← eh x hx, h7]
    exact Int.toNat_natCast cu
  have edr : (wmH mc_ktn M x 7).toNat = dr := by
    rw [← eh x hx, h9]
    exact Int.toNat_natCast dr
  rw [ecu, edr] at hz
  unfold wchkC at hc
  simp only [Bool.and_eq_true, decide_eq_true_eq] at hc
  obtain ⟨ce, k1, k2⟩ := hW.ref (t' := 12) (n := 13) (j := 3) (p := 0) (q := 0) gx9 rfl (by decide) rfl
  have k3' : (wmH mc_ktn M x 3).toNat = ce := by
    rw [← eh x hx, k1]
    exact Int.toNat_natCast ce
  rw [k3'] at hc
  have k9 : wmH kt M ce 9 = 0 := (congrFun (eh ce hc.1.1.1.1) 9).trans hc.1.1.1.2
  have k28 : wmH kt M m 28 = 0 := (congrFun (eh m hm) 28).trans hc.1.1.2
  unfold wchkZ at hz
  simp only [Bool.and_eq_true, decide_eq_true_eq] at hz
  obtain ⟨⟨⟨⟨⟨⟨⟨z1, z2⟩, z3⟩, z4⟩, ⟨z5, z6⟩⟩, z7⟩, z8⟩, z9⟩ := hz
  have hcu : 256 ≤ cu := hW.hi h8 (by decide)
  have hv : ∀ j, j < 8 → wmH kt M cu (7 + j) = 0 := fun j hj => by
    rw [eh cu hcu]
    exact of_decide_eq_true (List.all_eq_true.mp z2 j (List.mem_range.mpr hj))
  have hs : ∀ k, k < 24 → wmH kt M (wmH mc_ktn M cu 1).toNat k = -2 := fun k hk => by
    rw [eh _ z5]
    exact of_decide_eq_true (List.all_eq_true.mp z6 k (List.mem_range.mpr hk))
  have k3 : xD0 0 3 = 0 := by decide
  have k4 : xD0 0 4 = 0 := by decide
  have rf : ∀ (j t' : Nat) {p q : Int}, j < 19 → wty 27 j = (2, p, q, t') → ∃ b : Nat, wmH kt M cu j = (b : Int) ∧ wtg L acc b = some t' := fun j t' p q hj ht => hW.ref h8 (n := 19) rfl hj ht
  have hS : ST (wmS kt M, M.length, mc_sz M, wtg L acc) (wmH kt M) cu (xD0 13) := by
    obtain ⟨s, s1, s2⟩ := rf 1 29 (by decide) rfl
    have es : (wmH mc_ktn M cu 1).toNat = s := by
      rw [← eh cu hcu, s1]
      exact Int.toNat_natCast s
    rw [es] at hs
    refine ⟨s, s1, s2, fun k hk => ?_⟩
    rw [xD0_r (by decide), if_neg (by decide)]
    exact ⟨Int.le_refl _, by decide, hs k hk⟩
  have hV : SV (wmS kt M, M.length, mc_sz M, wtg L acc) (wmH kt M) cu (xD0 13) 24 := by
    obtain ⟨b, b1, b2⟩ := rf 2 30 (by decide) rfl
    refine ⟨b, b1, b2, fun k hk hp => ?_⟩
    rw [xD0_r (by decide)] at hp
    exact absurd hp (by decide)
  have hC : DC (wmS kt M, M.length, mc_sz M, wtg L acc) (wmH kt M) cu xD0 := by
    refine ⟨⟨hv 0 (by decide), hv 1 (by decide), hv 2 (by decide), hv 3 (by decide), hv 4 (by decide), hv 5 (by decide), hv 6 (by decide), hv 7 (by decide), by decide, by decide, ?_, ?_, by decide, by decide, by decide, by decide⟩, ⟨fun k hk => by omega, fun k hk => by omega⟩, hS, hV, DAo_0 (rf 3 31 (by decide) rfl) (by decide), DAo_0 (rf 4 32 (by decide) rfl) (by decide), DAo_0 (rf 5 33 (by decide) rfl) (by decide), DAo_0 (rf 6 34 (by decide) rfl) (by decide)⟩
    · rw [eh cu hcu, z3]
      decide
    · rw [eh cu hcu, z4]
      decide
  refine ⟨B, tc, tm, cu, dr, fun a => decide (a < dr), xD0, xD0, wmH kt M cu 18, fun _ => 0, ce, h1, h2, h3, h4, h5, h6, h7, h8, h9, h10, h11, h12, wDE z7, wDE z8, fun a t j ht hj => ?_, decide_eq_true z1, decide_eq_false (Nat.lt_irrefl dr), ⟨hC, ⟨xdP_0, fun k _ hk => by omega⟩, rfl⟩, Or.inl ⟨m3, rfl, rfl⟩, fun k hk => by omega, DAo_0 (hW.ref h13 (n := 33) rfl (by decide) rfl) (by decide), fun _ _ => rfl, fun h _ _ => xD0_r (by decide), Or.inl x8, XA_0, Or.inl x8, SG_0, k1, k2, CEN_new k9, ⟨wHD hW k2 hc.1.1.1.1 (by decide) rfl (by decide) hc.1.2, wHD hW k2 hc.1.1.1.1 (by decide) rfl (by decide) hc.2⟩, KNN_new k28, h13⟩
  have ha : 256 ≤ a := hW.hi ht (by omega)
  have ht' : wtg L acc a = some t := ht
  unfold wtg at ht'
  rw [if_neg (by omega)] at ht'
  have hq := List.all_eq_true.mp z9 _ (mc_find_mem ht')
  show decide ((wmH kt M a j).toNat < dr) = decide (a < dr)
  rw [eh a ha]
  rcases hj with ⟨rfl, hj⟩ | ⟨rfl, hj⟩ | ⟨rfl, hj⟩
  · rw [show ((27 : Nat) == 27 || (27 : Nat) == 28 || (27 : Nat) == 35) = true from rfl, Bool.not_true, Bool.false_or, Bool.and_eq_true] at hq
    exact of_decide_eq_true (List.all_eq_true.mp hq.2 j (List.mem_range.mpr hj))
  · rw [show ((28 : Nat) == 27 || (28 : Nat) == 28 || (28 : Nat) == 35) = true from rfl, Bool.not_true, Bool.false_or, Bool.and_eq_true] at hq
    exact of_decide_eq_true (List.all_eq_true.mp hq.2 j (List.mem_range.mpr hj))
  · rw [show ((35 : Nat) == 27 || (35 : Nat) == 28 || (35 : Nat) == 35) = true from rfl, Bool.not_true, Bool.false_or, Bool.and_eq_true] at hq
    exact of_decide_eq_true (List.all_eq_true.mp hq.2 j (List.mem_range.mpr hj))
set_option maxRecDepth 40000 in
theorem wbegin {L : Nat} {xs : Nat → Int32} {CB SB : Nat} {X : mc_S → Prop} (hX : wlX (mc_kt L xs) CB SB X) (hcb : 1000 + 4 * (L + 6) ≤ CB) (hsb : 100000 + 100 * (L + 6) ≤ SB) (hL : L ≤ 3072) (hled : ∀ x m o, wlLed (mc_kt L xs) CB SB X L x m o) : X (0, [(0, .ref 0)], [], []) := by
  obtain ⟨M, x, m, o, hw, r1⟩ := wini4_of wr_1
  try dsimp only at r1
  rw [Bool.and_eq_true, Bool.and_eq_true] at r1
  obtain ⟨⟨ha, b0⟩, c0⟩ := r1
  have rJ : ∀ j, (M.all (wokJ j) = true ∧ wceJ mc_ktn M (wacc M x m o) j = true) := fun j => by
    have h := wini4_at (wr_Ja j) hw
    try dsimp only at h
    rw [Bool.and_eq_true] at h
    exact h
  have c1 : ∀ j, wceJ mc_ktn M (wacc M x m o) j = true := fun j => (rJ j).2
  have b1 : ∀ j, M.all (wokJ j) = true := fun j => (rJ j).1
  clear rJ
  have r3 := wini4_at wr_3 hw
  try dsimp only at r3
  rw [Bool.and_eq_true, Bool.and_eq_true, Bool.and_eq_true] at r3
  obtain ⟨⟨⟨d9, d8⟩, d7⟩, d6⟩ := r3
  simp only [Bool.and_eq_true, decide_eq_true_eq] at d8
  generalize wacc M x m o = acc at ha c0 c1 d9 d7
  simp only [Bool.and_eq_true, decide_eq_true_eq, wchk1] at ha
  obtain ⟨⟨s1, s2⟩, ⟨⟨⟨⟨⟨⟨⟨f1, f2⟩, f3⟩, g1⟩, g2⟩, g3⟩, k1⟩, k2⟩⟩ := ha
  have hM : M.all wmok = true := List.all_eq_true.mpr (fun e he => wmok_of (List.all_eq_true.mp b0 e he) (fun j => List.all_eq_true.mp (b1 j) e he))
  have hC : wcells (mc_kt L xs) M acc = true := wcells_of c0 c1
  have hW := wmWT hC
  have hR := wmR (kt := mc_kt L xs) wmK hM (wtg L acc)
  have tg : ∀ a t, 256 ≤ a → mc_find acc a = some t → wtg L acc a = some t := fun a t h1 h2 => by
    unfold wtg
    rw [if_neg (by omega)]
    exact h2
  have hI0 : wlI L x m o (wmS (mc_kt L xs) M, M.length, mc_sz M, wtg L acc) (wmH (mc_kt L xs) M) := by
    refine ⟨hW, rfl, tg x 1 g1 f1, tg m 42 g2 f2, tg o 73 g3 f3, wKI_1.mpr (Or.inl ?_), ?_⟩
    · rw [(wmS_hi (kt := mc_kt L xs) (kt' := mc_ktn) (M := M) g2).2]
      exact k1
    · rw [(wmS_hi (kt := mc_kt L xs) (kt' := mc_ktn) (M := M) g1).2, (wmS_hi (kt := mc_kt L xs) (kt' := mc_ktn) (M := M) g2).2]
      exact k2
  have hI : wlJ L x m o (wmS (mc_kt L xs) M, M.length, mc_sz M, wtg L acc) (wmH (mc_kt L xs) M) := by
    have ex := (wmS_hi (kt := mc_kt L xs) (kt' := mc_ktn) (M := M) g1).2
    have em := (wmS_hi (kt := mc_kt L xs) (kt' := mc_ktn) (M := M) g2).2
    have x8 : wmH (mc_kt L xs) M x 8 = 0 := by rw [ex]; exact d8.1.2
    have m3 : wmH (mc_kt L xs) M m 3 = -1 := by rw [em]; exact d8.2
    exact ⟨hI0, wXI hW g1 g2 f2 (tg x 1 g1 f1) d9 d7 d6 x8 m3, by rw [ex, em]; exact d8.1.1, Or.inl ⟨x8, m3⟩⟩
  have hWL := wl_loopL hX hL (hled x m o) L _ _ 0 ⟨by omega, by omega⟩ (by omega) (by show M.length + 4 * (L + 6) ≤ CB; omega) (by show mc_sz M + 100 * (L + 6) ≤ SB; omega) hI
  have hx := hWL.2 M hR
  exact mc_sgl_X hX (T := (23, [(4, .int 0), (3, .ref o), (2, .ref m), (1, .ref x), (0, .ref 0)], [], M)) ⟨by show M.length ≤ CB; omega, by show mc_sz M ≤ SB; omega⟩ hx 13 _ (mc_sgl_kt mc_ktn_ok (fun k as M w h => mc_call_kt mc_ktn_ok 11 k as M w (mc_callF_ok 11 k as M w h)) 13 _ _ hw)
