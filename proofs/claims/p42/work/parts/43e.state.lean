/-! A PARISH OF THE CLASS, SETTLED (own work): its people's SPANS, what is SAID, where it was sought -/
/-- how a LOT's number grows with a person's SPANS: m people from k on -/
def xpr (d : xD) : Nat → Nat → Int
  | _, 0 => 1
  | k, m + 1 => (xsp d k).length * xpr d (k + 1) m
def xlots (d : xD) : Int := xpr d 0 (d 0 3).toNat
theorem xpr_b {d : xD} (h : xdP d) : ∀ (m k : Nat), 0 ≤ xpr d k m ∧ xpr d k m ≤ 40 ^ m
  | 0, _ => ⟨by show (0 : Int) ≤ 1; decide, by show (1 : Int) ≤ 1; decide⟩
  | m + 1, k => by
    have h1 := xpr_b h m (k + 1)
    have h2 := @xsp_len d k h
    show 0 ≤ (xsp d k).length * xpr d (k + 1) m ∧ ((xsp d k).length : Int) * xpr d (k + 1) m ≤ 40 ^ (m + 1)
    refine ⟨Int.mul_nonneg (by omega) h1.1, ?_⟩
    rw [Int.pow_succ, Int.mul_comm (40 ^ m)]
    exact Int.mul_le_mul (by omega) h1.2 h1.1 (by omega)
theorem p40 {m : Nat} (h : m ≤ 6) : (40 : Int) ^ m ≤ 4096000000 := by
  match m, h with
  | 0, _ => decide
  | 1, _ => decide
  | 2, _ => decide
  | 3, _ => decide
  | 4, _ => decide
  | 5, _ => decide
  | 6, _ => decide
  | n + 7, h => omega
/-- people from i on have their SPANS -/
def PQ (T : wq_T) (H : wq_H) (p : Nat) (d : xD) (k : Nat) : Prop := PS T H p d k (xsp d k) ∧ H p 17 = wq_w (xpr d (k + 1) ((d 0 3).toNat - (k + 1)))
def CS (T : wq_T) (H : wq_H) (r : Nat) (d : xD) (i : Int) : Prop := xdP d ∧ ∀ k : Nat, i ≤ k → (k : Int) < d 0 3 → ∃ p : Nat, H (H r 0).toNat k = (p : Int) ∧ T.2.2.2 p = some 35 ∧ PQ T H p d k
/-- what is SAID -/
def CG (T : wq_T) (H : wq_H) (r : Nat) (n : Int) (g : Nat → Int) : Prop := ∀ k : Nat, (k : Int) < n → ∃ p : Nat, H (H r 0).toNat k = (p : Int) ∧ T.2.2.2 p = some 35 ∧ H p 16 = g k
def CSx (l : List (Nat × Nat)) : Bool := wno l 27 (fun j => decide (j = 0)) && wno l 28 (fun _ => true) && (PSx l && wno l 35 (fun j => decide (j = 17)))
def CGx (l : List (Nat × Nat)) : Bool := wno l 27 (fun j => decide (j = 0)) && wno l 28 (fun _ => true) && wno l 35 (fun j => decide (j = 16))
section CREL

variable {T : wq_T} {H H' : wq_H} {l : List (Nat × Nat)} {r p q k : Nat} {d : xD} {i n v : Int} {g : Nat → Int}
theorem PQ_fr (hW : WT T H) (gp : T.2.2.2 p = some 35) (f : wfr l T H H') (x : (PSx l && wno l 35 (fun j => decide (j = 17))) = true) (h : PQ T H p d k) : PQ T H' p d k := by
  rw [Bool.and_eq_true] at x
  exact ⟨PS_fr hW gp f x.1 h.1, (wno_f f gp x.2 rfl).trans h.2⟩
theorem CS_fr (hW : WT T H) (gr : T.2.2.2 r = some 27) (f : wfr l T H H') (x : CSx l = true) (h : CS T H r d i) : CS T H' r d i := by
  unfold CSx at x
  rw [Bool.and_eq_true, Bool.and_eq_true] at x
  refine ⟨h.1, fun k hi hk => ?_⟩
  obtain ⟨p, h1, h2, h3⟩ := h.2 k hi hk
  exact ⟨p, (pa_fr hW gr f x.1.1 x.1.2 k).trans h1, h2, PQ_fr hW h2 f x.2 h3⟩
theorem CG_fr (hW : WT T H) (gr : T.2.2.2 r = some 27) (f : wfr l T H H') (x : CGx l = true) (h : CG T H r n g) : CG T H' r n g := by
  unfold CGx at x
  rw [Bool.and_eq_true, Bool.and_eq_true] at x
  intro k hk
  obtain ⟨p, h1, h2, h3⟩ := h k hk
  exact ⟨p, (pa_fr hW gr f x.1.1 x.1.2 k).trans h1, h2, (wno_f f h2 x.2 rfl).trans h3⟩
theorem DQ_at {pa : Nat} (h : DQ T H r d) (e0 : H r 0 = (pa : Int)) (e1 : H pa k = (p : Int)) (hk : (k : Int) < d 0 3) : PF H p d k := by
  obtain ⟨b, h1, -, h3⟩ := h.1 k hk
  rw [e0, Int.toNat_natCast, e1] at h1
  have : p = b := by omega
  subst this
  exact h3
theorem CS_0 (hP : xdP d) (h : d 0 3 ≤ i) : CS T H r d i := ⟨hP, fun k h1 h2 => by omega⟩
end CREL
/-- a draft's people as they are told: no SPANS yet, nothing SAID; its CURSOR -/
def CZ (T : wq_T) (H : wq_H) (r : Nat) (n : Int) : Prop := H r 17 = 0 ∧ ∀ k : Nat, (k : Int) < n → ∃ p : Nat, H (H r 0).toNat k = (p : Int) ∧ T.2.2.2 p = some 35 ∧ H p 15 = 0 ∧ H p 16 = 0
def CZx (l : List (Nat × Nat)) : Bool := wno l 27 (fun j => decide (j = 0 ∨ j = 17)) && wno l 28 (fun _ => true) && wno l 35 (fun j => decide (j = 15 ∨ j = 16))
/-- no two of its people have an array in common -/
def DE (T : wq_T) (H : wq_H) (r : Nat) : Prop := ∀ i i' j : Nat, i < 6 → i' < 6 → j < 6 → H (H (H r 0).toNat i).toNat j = H (H (H r 0).toNat i').toNat j → i = i'
def DEx (l : List (Nat × Nat)) : Bool := wno l 27 (fun j => decide (j = 0)) && wno l 28 (fun _ => true) && wno l 35 (fun j => decide (j ≤ 5))
section CZREL

variable {T : wq_T} {H H' : wq_H} {l : List (Nat × Nat)} {r p q k : Nat} {d : xD} {i n n' v : Int} {g : Nat → Int} {C : Nat → Bool} {x : Nat}
theorem CZ_fr (hW : WT T H) (gr : T.2.2.2 r = some 27) (f : wfr l T H H') (y : CZx l = true) (h : CZ T H r n) : CZ T H' r n := by
  unfold CZx at y
  simp only [Bool.and_eq_true] at y
  have y0 : wno l 27 (fun j => decide (j = 0)) = true := wno_le y.1.1 (fun j hj => decide_eq_true (Or.inl (of_decide_eq_true hj)))
  refine ⟨(wno_f f gr y.1.1 (j := 17) rfl).trans h.1, fun k hk => ?_⟩
  obtain ⟨p, h1, h2, h3, h4⟩ := h.2 k hk
  exact ⟨p, (pa_fr hW gr f y0 y.1.2 k).trans h1, h2, (wno_f f h2 y.2 (j := 15) rfl).trans h3, (wno_f f h2 y.2 (j := 16) rfl).trans h4⟩
theorem CZ_le (h : CZ T H r n) (e : n' ≤ n) : CZ T H r n' := ⟨h.1, fun k hk => h.2 k (by omega)⟩
theorem CZ_0 (h : H r 17 = 0) (hn : n ≤ 0) : CZ T H r n := ⟨h, fun k hk => by omega⟩
theorem CZ_at {pa : Nat} (h : CZ T H r n) (e0 : H r 0 = (pa : Int)) (e1 : H pa k = (p : Int)) (hk : (k : Int) < n) : H p 15 = 0 ∧ H p 16 = 0 := by
  obtain ⟨b, h1, -, h3⟩ := h.2 k hk
  rw [e0, Int.toNat_natCast, e1] at h1
  have : p = b := by omega
  subst this
  exact h3
/-- one more is told; the others are as they were -/
theorem CZ_add {pa : Nat} (hW : WT T H) (gr : T.2.2.2 r = some 27) (f : wfr l T H H') (y : (wno l 27 (fun j => decide (j = 0 ∨ j = 17)) && wno l 28 (fun _ => true)) = true) (hd : DD T H r) (e0 : H r 0 = (pa : Int)) (e1 : H pa k = (p : Int)) (gp : T.2.2.2 p = some 35) (hk : (k : Int) = n) (hk6 : k < 6) (ho : ∀ a, a ≠ p → T.2.2.2 a = some 35 → H' a = H a) (h15 : H' p 15 = 0) (h16 : H' p 16 = 0) (h : CZ T H r n) : CZ T H' r (n + 1) := by
  rw [Bool.and_eq_true] at y
  have y0 : wno l 27 (fun j => decide (j = 0)) = true := wno_le y.1 (fun j hj => decide_eq_true (Or.inl (of_decide_eq_true hj)))
  refine ⟨(wno_f f gr y.1 (j := 17) rfl).trans h.1, fun j hj => ?_⟩
  by_cases e : j = k
  · subst e
    refine ⟨p, (pa_fr hW gr f y0 y.2 j).trans (by rw [e0, Int.toNat_natCast]; exact e1), gp, h15, h16⟩
  · obtain ⟨b, h1, h2, h3, h4⟩ := h.2 j (by omega)
    have hb : b ≠ p := fun q => by
      obtain ⟨pa', q1, -, q3⟩ := hd
      rw [e0] at q1
      have : pa' = pa := by omega
      subst this
      rw [e0, Int.toNat_natCast] at h1
      exact e (q3 j k (by omega) hk6 (by rw [h1, e1, q]))
    refine ⟨b, (pa_fr hW gr f y0 y.2 j).trans h1, h2, ?_, ?_⟩
    · rw [ho b hb h2]
      exact h3
    · rw [ho b hb h2]
      exact h4
theorem CG_z (h : CZ T H r n) : CG T H r n (fun _ => 0) := fun k hk => by
  obtain ⟨p, h1, h2, -, h4⟩ := h.2 k hk
  exact ⟨p, h1, h2, h4⟩
theorem DE_fr (hW : WT T H) (gr : T.2.2.2 r = some 27) (f : wfr l T H H') (y : DEx l = true) (h : DE T H r) : DE T H' r := by
  unfold DEx at y
  simp only [Bool.and_eq_true] at y
  intro i i' j hi hi' hj e
  obtain ⟨pa, q1, q2⟩ := hW.ref gr (t' := 28) (n := 19) (j := 0) (p := 0) (q := 0) rfl (by decide) rfl
  obtain ⟨a, a1, a2⟩ := hW.ref q2 (t' := 35) (n := 6) (j := i) (p := 0) (q := 0) rfl hi rfl
  obtain ⟨b, b1, b2⟩ := hW.ref q2 (t' := 35) (n := 6) (j := i') (p := 0) (q := 0) rfl hi' rfl
  refine h i i' j hi hi' hj ?_
  rw [pa_fr hW gr f y.1.1 y.1.2 i, pa_fr hW gr f y.1.1 y.1.2 i'] at e
  rw [q1, Int.toNat_natCast, a1, b1, Int.toNat_natCast, Int.toNat_natCast] at e ⊢
  rw [wno_f f a2 y.2 (decide_eq_true (show j ≤ 5 by omega)), wno_f f b2 y.2 (decide_eq_true (show j ≤ 5 by omega))] at e
  exact e
/-- a person and what hangs on it, by itself -/
def cP (H : wq_H) (p : Nat) (a : Nat) : Bool := !(decide (a = p) || (List.range 6).any (fun j => decide (H p j = (a : Int))))
theorem cP_p : cP H p p = false := by
  unfold cP
  rw [decide_eq_true rfl]
  rfl
theorem cP_a {b j : Nat} (hj : j < 6) (e : H p j = (b : Int)) : cP H p b = false := by
  unfold cP
  rw [show (List.range 6).any (fun j => decide (H p j = (b : Int))) = true from List.any_eq_true.mpr ⟨j, List.mem_range.mpr hj, decide_eq_true e⟩, Bool.or_true]
  rfl
theorem cP_f {b : Nat} (h : cP H p b = false) : b = p ∨ ∃ j, j < 6 ∧ H p j = (b : Int) := by
  unfold cP at h
  have h : (decide (b = p) || (List.range 6).any (fun j => decide (H p j = (b : Int)))) = true := by
    cases e : (decide (b = p) || (List.range 6).any (fun j => decide (H p j = (b : Int)))) with
    | true => rfl
    | false => rw [e] at h; cases h
  rw [Bool.or_eq_true] at h
  rcases h with h | h
  · exact Or.inl (of_decide_eq_true h)
  · obtain ⟨j, h1, h2⟩ := List.any_eq_true.mp h
    exact Or.inr ⟨j, List.mem_range.mp h1, of_decide_eq_true h2⟩
theorem per_ref (hW : WT T H) (gp : T.2.2.2 p = some 35) {j : Nat} (hj : j < 6) : ∃ b : Nat, H p j = (b : Int) ∧ T.2.2.2 b = some (36 + j) := by
  match j, hj with
  | 0, _ => exact hW.ref gp (n := 18) (p := 0) (q := 0) rfl (by decide) rfl
  | 1, _ => exact hW.ref gp (n := 18) (p := 0) (q := 0) rfl (by decide) rfl
  | 2, _ => exact hW.ref gp (n := 18) (p := 0) (q := 0) rfl (by decide) rfl
  | 3, _ => exact hW.ref gp (n := 18) (p := 0) (q := 0) rfl (by decide) rfl
  | 4, _ => exact hW.ref gp (n := 18) (p := 0) (q := 0) rfl (by decide) rfl
  | 5, _ => exact hW.ref gp (n := 18) (p := 0) (q := 0) rfl (by decide) rfl
theorem cP_SQ (hW : WT T H) (gp : T.2.2.2 p = some 35) : SQ T H (cP H p) := fun a t j ht hj hc => by
  rcases cP_f hc with rfl | ⟨i, hi, e⟩
  · rw [gp] at ht
    cases ht
    have hj6 : j < 6 := by omega
    obtain ⟨b, h1, -⟩ := per_ref hW gp hj6
    rw [h1, Int.toNat_natCast]
    exact cP_a hj6 h1
  · obtain ⟨b, h1, h2⟩ := per_ref hW gp hi
    have : a = b := by omega
    subst this
    rw [ht] at h2
    have := Option.some.inj h2
    omega
theorem PS_un {P : List (Int × Int)} (h : PS (rtT T C) H p d k P) : PS T H p d k P := by
  have u : ∀ {S tg : Nat} {c : Int} {f : Nat → Int}, tg < 200 → DA S tg (rtT T C) H p c f → DA S tg T H p c f := fun ht ⟨b, h1, h2, h3⟩ => ⟨b, h1, rtT_lo h2 ht, h3⟩
  obtain ⟨h0, h1, h2, h3, h4, h5, h6⟩ := h
  exact ⟨h0, u (by decide) h1, u (by decide) h2, u (by decide) h3, u (by decide) h4, u (by decide) h5, u (by decide) h6⟩
/-- another person and what hangs on it -/
theorem cP_q {pa i : Nat} (hW : WT T H) (gr : T.2.2.2 r = some 27) (hd : DD T H r) (he : DE T H r) (e0 : H r 0 = (pa : Int)) (e1 : H pa k = (p : Int)) (gp : T.2.2.2 p = some 35) (hk : k < 6) (hi : i < 6) (hne : i ≠ k) (e2 : H pa i = (q : Int)) (gq : T.2.2.2 q = some 35) : q ≠ p ∧ cP H p q = true ∧ ∀ j b : Nat, j < 6 → H q j = (b : Int) → T.2.2.2 b = some (36 + j) ∧ cP H p b = true := by
  have hqp : q ≠ p := fun e => by
    obtain ⟨pa', q1, -, q3⟩ := hd
    rw [e0] at q1
    have : pa' = pa := by omega
    subst this
    exact hne (q3 i k hi hk (by rw [e2, e1, e]))
  have tr : ∀ a, ¬ (cP H p a = false) → cP H p a = true := fun a h => by
    cases e : cP H p a with
    | true => rfl
    | false => exact absurd e h
  refine ⟨hqp, tr q (fun h => ?_), fun j b hj hb => ?_⟩
  · rcases cP_f h with h1 | ⟨j, h1, h2⟩
    · exact hqp h1
    · obtain ⟨b, h3, h4⟩ := per_ref hW gp h1
      have : q = b := by omega
      subst this
      rw [gq] at h4
      have := Option.some.inj h4
      omega
  · obtain ⟨b', h3, h4⟩ := per_ref hW gq hj
    have : b = b' := by omega
    subst this
    refine ⟨h4, tr b (fun h => ?_)⟩
    rcases cP_f h with h1 | ⟨j', h1, h2⟩
    · subst h1
      rw [gp] at h4
      have := Option.some.inj h4
      omega
    · obtain ⟨b2, h5, h6⟩ := per_ref hW gp h1
      have : b = b2 := by omega
      subst this
      rw [h4] at h6
      have := Option.some.inj h6
      have : j = j' := by omega
      subst this
      refine hne (he i k j hi hk hj ?_)
      rw [e0, Int.toNat_natCast, e1, e2, Int.toNat_natCast, Int.toNat_natCast, h3, h5]
theorem DA_mv {S tg : Nat} {c : Int} {f : Nat → Int} (h : DA S tg T H p c f) (ep : H' p = H p) (eb : ∀ b : Nat, H p S = (b : Int) → T.2.2.2 b = some tg → H' b = H b) : DA S tg T H' p c f := by
  obtain ⟨b, h1, h2, h3⟩ := h
  exact ⟨b, by rw [ep]; exact h1, h2, by rw [eb b h1 h2]; exact h3⟩
theorem PS_mv {P : List (Int × Int)} (h : PS T H p d k P) (ep : H' p = H p) (eb : ∀ j b : Nat, j < 6 → H p j = (b : Int) → T.2.2.2 b = some (36 + j) → H' b = H b) : PS T H' p d k P := by
  obtain ⟨h0, h1, h2, h3, h4, h5, h6⟩ := h
  exact ⟨by rw [ep]; exact h0, DA_mv h1 ep (fun b => eb 0 b (by decide)), DA_mv h2 ep (fun b => eb 1 b (by decide)), DA_mv h3 ep (fun b => eb 2 b (by decide)), DA_mv h4 ep (fun b => eb 3 b (by decide)), DA_mv h5 ep (fun b => eb 4 b (by decide)), DA_mv h6 ep (fun b => eb 5 b (by decide))⟩
/-- behind the making of one person's SPANS those of the others are as they were -/
theorem CS_mk {pa : Nat} (hW : WT T H) (gr : T.2.2.2 r = some 27) (hd : DD T H r) (he : DE T H r) (e0 : H r 0 = (pa : Int)) (g0 : T.2.2.2 pa = some 28) (e0' : H' r 0 = (pa : Int)) (e1' : ∀ j, H' pa j = H pa j) (e1 : H pa k = (p : Int)) (gp : T.2.2.2 p = some 35) (hk : k < 6) (h3 : d 0 3 ≤ 6) (ho : ∀ a, rtF T (cP H p) a = true → H' a = H a) (hi : (k : Int) < i) (h : CS T H r d i) : CS T H' r d i := by
  refine ⟨h.1, fun j hj hj2 => ?_⟩
  obtain ⟨q, q1, q2, q3, q4⟩ := h.2 j hj hj2
  rw [e0, Int.toNat_natCast] at q1
  obtain ⟨c1, c2, c3⟩ := cP_q hW gr hd he e0 e1 gp hk (show j < 6 by omega) (show j ≠ k by omega) q1 q2
  have eq : H' q = H q := ho q (rtF_1 q2 (by decide) (by decide) c2)
  refine ⟨q, by rw [e0', Int.toNat_natCast, e1']; exact q1, q2, PS_mv q3 eq (fun j b hj hb gb => ho b (rtF_1 gb (by omega) (by omega) (c3 j b hj hb).2)), by rw [eq]; exact q4⟩
theorem CZ_mk {pa : Nat} (hW : WT T H) (gr : T.2.2.2 r = some 27) (hd : DD T H r) (he : DE T H r) (e0 : H r 0 = (pa : Int)) (e0' : H' r 0 = (pa : Int)) (e1' : ∀ j, H' pa j = H pa j) (e17 : H' r 17 = H r 17) (e1 : H pa k = (p : Int)) (gp : T.2.2.2 p = some 35) (hk : k < 6) (hn : n ≤ k) (ho : ∀ a, rtF T (cP H p) a = true → H' a = H a) (h : CZ T H r (n + 1)) : CZ T H' r n := by
  refine ⟨e17.trans h.1, fun j hj => ?_⟩
  obtain ⟨q, q1, q2, q3, q4⟩ := h.2 j (by omega)
  rw [e0, Int.toNat_natCast] at q1
  obtain ⟨c1, c2, -⟩ := cP_q hW gr hd he e0 e1 gp hk (show j < 6 by omega) (show j ≠ k by omega) q1 q2
  have eq : H' q = H q := ho q (rtF_1 q2 (by decide) (by decide) c2)
  exact ⟨q, by rw [e0', Int.toNat_natCast, e1']; exact q1, q2, by rw [eq]; exact q3, by rw [eq]; exact q4⟩
/-- its own number is written -/
theorem CS_17 {pa : Nat} (hd : DD T H r) (e0 : H r 0 = (pa : Int)) (g0 : T.2.2.2 pa = some 28) (gr : T.2.2.2 r = some 27) (e1 : H pa k = (p : Int)) (gp : T.2.2.2 p = some 35) (hk : k < 6) (h3 : d 0 3 ≤ 6) (hi : (k : Int) < i) (e : H' = wq_u H p 17 v) (h : CS T H r d i) : CS T H' r d i := by
  refine ⟨h.1, fun j hj hj2 => ?_⟩
  obtain ⟨q, q1, q2, q3, q4⟩ := h.2 j hj hj2
  rw [e0, Int.toNat_natCast] at q1
  have hqp : q ≠ p := fun e => by
    obtain ⟨pa', a1, -, a3⟩ := hd
    rw [e0] at a1
    have : pa' = pa := by omega
    subst this
    have := a3 j k (by omega) hk (by rw [q1, e1, e])
    omega
  have n1 : ∀ a t, T.2.2.2 a = some t → t ≠ 35 → H' a = H a := fun a t ht ne => by
    rw [e]
    funext i
    exact wq_u_na (fun q => by subst q; rw [gp] at ht; exact ne (Option.some.inj ht).symm) i
  have eq : H' q = H q := by
    rw [e]
    funext i
    exact wq_u_na hqp i
  refine ⟨q, ?_, q2, PS_mv q3 eq (fun j b hj hb gb => n1 b _ gb (by omega)), by rw [eq]; exact q4⟩
  rw [n1 r _ gr (by decide), e0, Int.toNat_natCast, n1 pa _ g0 (by decide)]
  exact q1
/-- and one more has its SPANS -/
theorem CS_cons {pa : Nat} (e0 : H r 0 = (pa : Int)) (e1 : H pa k = (p : Int)) (gp : T.2.2.2 p = some 35) (hs : PS T H p d k (xsp d k)) (h17 : H p 17 = wq_w (xpr d (k + 1) ((d 0 3).toNat - (k + 1)))) (hi : i = k) (h : CS T H r d (i + 1)) : CS T H r d i := by
  refine ⟨h.1, fun j hj hj2 => ?_⟩
  by_cases e : j = k
  · subst e
    exact ⟨p, by rw [e0, Int.toNat_natCast]; exact e1, gp, hs, h17⟩
  · exact h.2 j (by omega) hj2
theorem CS_ge {i' : Int} (h : CS T H r d i) (e : i ≤ i') : CS T H r d i' := ⟨h.1, fun k h1 h2 => h.2 k (by omega) h2⟩
theorem xpr_i {k : Nat} (h : (k : Int) < d 0 3) : xpr d k ((d 0 3).toNat - k) = (xsp d k).length * xpr d (k + 1) ((d 0 3).toNat - (k + 1)) := by
  rw [show (d 0 3).toNat - k = ((d 0 3).toNat - (k + 1)) + 1 by omega]
  rfl
theorem xpr_z {k : Nat} (h : d 0 3 ≤ k) : xpr d k ((d 0 3).toNat - k) = 1 := by
  rw [show (d 0 3).toNat - k = 0 by omega]
  rfl
theorem xpr_c (hP : xdP d) (h3 : d 0 3 ≤ 6) (k : Nat) : 0 ≤ xpr d k ((d 0 3).toNat - k) ∧ xpr d k ((d 0 3).toNat - k) ≤ 4096000000 := by
  have h1 := xpr_b hP ((d 0 3).toNat - k) k
  have h2 := @p40 ((d 0 3).toNat - k) (by omega)
  omega
theorem xdP_set (h : xdP d) : xdP (xset d) := xdP_cg h (fun i h1 h2 => xset_o (by omega))
/-- what must be watched -/
theorem xmu_y {k : Nat} {z : Int} (e : (k : Int) = d 0 8) (hf : ∀ h, h < 24 → d 13 h ≤ 100) (hz : z = xob (fun h => decide (d 13 h > 0 ∧ d 13 h ≤ 99 + 1)) 24) : z = xmu d k := by
  unfold xmu
  rw [if_pos e, hz]
  refine xob_cg 24 (fun j hj => ?_)
  have := hf j hj
  by_cases q : d 13 j > 0
  · rw [decide_eq_true q, decide_eq_true ⟨q, by omega⟩]
  · rw [decide_eq_false q, decide_eq_false (fun c => q c.1)]
theorem xmu_n {k : Nat} (e : (k : Int) ≠ d 0 8) : 0 = xmu d k := by
  unfold xmu
  rw [if_neg e]
theorem xmu_s {k : Nat} {z : Int} (e : (k : Int) = d 0 8) (hz : z = xob (fun h => decide (d 13 h > 0)) 24) : z = xmu d k := by
  unfold xmu
  rw [if_pos e]
  exact hz
theorem and_0 {x : Int} : wq_and x 0 = 0 := by
  unfold wq_and
  rw [show Int32.ofInt 0 = 0 from rfl, Int32.and_zero]
  rfl
theorem ST_100 {f : Nat → Int} (h : ST T H r f) : ∀ k, k < 24 → f k ≤ 100 := fun k hk => by
  obtain ⟨s, -, -, h3⟩ := h
  exact (h3 k hk).2.1
theorem xmk_k {f : Nat → Int} {a z w x : Int} (h0 : 0 ≤ v) (e : w = wq_and x z) (hx : x = xmk f a v v.toNat) (hz : z = a) : xmk f a (v + 1) v.toNat = w := by
  have := @xmk_c f a v h0
  rw [this.1, e, hx, hz, this.2.2]
/-- the state between calls: what is told, what is struck now, SPANS, LOTS -/
def CU (T : wq_T) (H : wq_H) (r : Nat) (e d : xD) (n : Int) : Prop := DC T H r e ∧ CS T H r d 0 ∧ H r 18 = n
/-- and what is SAID, the CURSOR -/
def CY (T : wq_T) (H : wq_H) (r : Nat) (n : Int) (g : Nat → Int) (c : Int) : Prop := CG T H r n g ∧ H r 17 = c
def CUx (l : List (Nat × Nat)) : Bool := DCx l && CSx l && wno l 27 (fun j => decide (j = 18))
def CYx (l : List (Nat × Nat)) : Bool := CGx l && wno l 27 (fun j => decide (j = 17))
theorem CU_fr {e : xD} (hW : WT T H) (gr : T.2.2.2 r = some 27) (f : wfr l T H H') (y : CUx l = true) (h : CU T H r e d n) : CU T H' r e d n := by
  unfold CUx at y
  simp only [Bool.and_eq_true] at y
  obtain ⟨h1, h2, h3⟩ := h
  exact ⟨DC_fr hW gr f y.1.1 h1, CS_fr hW gr f y.1.2 h2, (wno_f f gr y.2 (j := 18) rfl).trans h3⟩
theorem CY_fr {c : Int} (hW : WT T H) (gr : T.2.2.2 r = some 27) (f : wfr l T H H') (y : CYx l = true) (h : CY T H r n g c) : CY T H' r n g c := by
  unfold CYx at y
  rw [Bool.and_eq_true] at y
  exact ⟨CG_fr hW gr f y.1 h.1, (wno_f f gr y.2 (j := 17) rfl).trans h.2⟩
theorem CU_fz {e : xD} (hW : WT T H) (gr : T.2.2.2 r = some 27) (hS : SP T H x C) (hc : C r = true) (ho : ∀ a, rtF T C a = true → H' a = H a) (h3 : d 0 3 ≤ 6) (h : CU T H r e d n) : CU T H' r e d n := by
  have er : H' r = H r := ho r (rtF_1 gr (by decide) (by decide) hc)
  obtain ⟨h1, h2, h4⟩ := h
  refine ⟨DC_fz hW gr hS hc ho h1, ⟨h2.1, fun k hk hk2 => ?_⟩, by rw [er]; exact h4⟩
  obtain ⟨p, a1, a2, a3, a4⟩ := h2.2 k hk hk2
  obtain ⟨b1, b2, b3⟩ := fz_per hW gr hS hc ho (show k < 6 by omega) a1 a2
  refine ⟨p, b1, a2, PS_mv a3 b3 (fun j b hj hb gb => ?_), by rw [b3]; exact a4⟩
  have c1 := hS p 35 j a2 (Or.inr (Or.inr ⟨rfl, hj⟩))
  rw [hb, Int.toNat_natCast] at c1
  exact ho b (rtF_1 gb (by omega) (by omega) (c1.trans b2))
theorem CY_fz {c : Int} (hW : WT T H) (gr : T.2.2.2 r = some 27) (hS : SP T H x C) (hc : C r = true) (ho : ∀ a, rtF T C a = true → H' a = H a) (h3 : n ≤ 6) (h : CY T H r n g c) : CY T H' r n g c := by
  have er : H' r = H r := ho r (rtF_1 gr (by decide) (by decide) hc)
  refine ⟨fun k hk => ?_, by rw [er]; exact h.2⟩
  obtain ⟨p, a1, a2, a3⟩ := h.1 k hk
  obtain ⟨b1, b2, b3⟩ := fz_per hW gr hS hc ho (show k < 6 by omega) a1 a2
  exact ⟨p, b1, a2, by rw [b3]; exact a3⟩
theorem CZ_un (h : CZ (rtT T C) H r n) : CZ T H r n := ⟨h.1, fun k hk => by
  obtain ⟨p, h1, h2, h3⟩ := h.2 k hk
  exact ⟨p, h1, rtT_lo h2 (by decide), h3⟩⟩
theorem xpr_m {v a b w : Int} (hP : xdP d) (h3 : d 0 3 ≤ 6) (h0 : 0 ≤ v) (hv : v < d 0 3) (ha : a = xpr d (v + 1).toNat ((d 0 3).toNat - (v + 1).toNat)) (hb : b = (xsp d v.toNat).length) (e : w = wl_w (a * b)) : w = xpr d v.toNat ((d 0 3).toNat - v.toNat) := by
  have h1 := xpr_c hP h3 v.toNat
  have h2 := @xpr_i d v.toNat (by omega)
  rw [show (v + 1).toNat = v.toNat + 1 by omega] at ha
  rw [e, ha, hb, Int.mul_comm, ← h2]
  exact wl_w_id ⟨by omega, by omega⟩
theorem str_m {v a w : Int} (h0 : 0 ≤ v) (ha : a = xpr d (v + 1).toNat ((d 0 3).toNat - (v + 1).toNat)) (e : w = wq_w a) : w = wq_w (xpr d (v.toNat + 1) ((d 0 3).toNat - (v.toNat + 1))) := by
  rw [e, ha, show (v + 1).toNat = v.toNat + 1 by omega]
theorem xlots_e {v : Int} (h : v = -1) : xpr d (v + 1).toNat ((d 0 3).toNat - (v + 1).toNat) = xlots d := by
  subst h
  rfl
theorem CU_k {e : xD} (h : CU T H r e d n) : H r 7 = e 0 0 ∧ H r 8 = e 0 1 ∧ H r 9 = e 0 2 ∧ H r 10 = e 0 3 ∧ H r 11 = e 0 4 ∧ H r 12 = e 0 5 ∧ H r 13 = e 0 6 ∧ H r 14 = e 0 7 ∧ -1 ≤ e 0 8 ∧ e 0 8 ≤ 5 ∧ H r 15 = xsx (e 0 8) ∧ H r 16 = xcn (e 13) 24 ∧ 0 ≤ e 0 3 ∧ e 0 3 ≤ 6 ∧ 0 ≤ e 0 4 ∧ e 0 4 ≤ 3 ∧ H r 18 = n := by
  have := DC_k h.1
  obtain ⟨-, -, h5⟩ := h
  omega
end CZREL
