section
/-! A PARISH OF THE CLASS, SETTLED (own work): its people's SPANS, what is SAID, where it was sought -/
/-- how a LOT's number grows with a person's SPANS: m people from k on -/
def xpr (d : xD) : Nat → Nat → Int
  | _, 0 => 1
  | k, m + 1 => (xsp d k).length * xpr d (k + 1) m
def xlots (d : xD) : Int := xpr d 0 (d 0 3).toNat
theorem xpr_b {d : xD} (h : xdP d) : ∀ (m k : Nat), 0 ≤ xpr d k m ∧ xpr d k m ≤ 40 ^ m
  | 0, _ => ⟨by show (0 : Int) ≤ 1; decide, by show (1 : Int) ≤ 1; decide⟩
  | m + 1, k => by
    have h1 := xpr_b h m (k + 1)
    have h2 := @xsp_len d k h
    show 0 ≤ (xsp d k).length * xpr d (k + 1) m ∧ ((xsp d k).length : Int) * xpr d (k + 1) m ≤ 40 ^ (m + 1)
    refine ⟨Int.mul_nonneg (by omega) h1.1, ?_⟩
    rw [Int.pow_succ, Int.mul_comm (40 ^ m)]
    exact Int.mul_le_mul (by omega) h1.2 h1.1 (by omega)
theorem p40 {m : Nat} (h : m ≤ 6) : (40 : Int) ^ m ≤ 4096000000 := by
  match m, h with
  | 0, _ => decide
  | 1, _ => decide
  | 2, _ => decide
  | 3, _ => decide
  | 4, _ => decide
  | 5, _ => decide
  | 6, _ => decide
  | n + 7, h => omega
/-- people from i on have their SPANS -/
def PQ (T : wq_T) (H : wq_H) (p : Nat) (d : xD) (k : Nat) : Prop := PS T H p d k (xsp d k) ∧ H p 17 = wq_w (xpr d (k + 1) ((d 0 3).toNat - (k + 1)))
def CS (T : wq_T) (H : wq_H) (r : Nat) (d : xD) (i : Int) : Prop := xdP d ∧ ∀ k : Nat, i ≤ k → (k : Int) < d 0 3 → ∃ p : Nat, H (H r 0).toNat k = (p : Int) ∧ T.2.2.2 p = some 35 ∧ PQ T H p d k
/-- what is SAID -/
def CG (T : wq_T) (H : wq_H) (r : Nat) (n : Int) (g : Nat → Int) : Prop := ∀ k : Nat, (k : Int) < n → ∃ p : Nat, H (H r 0).toNat k = (p : Int) ∧ T.2.2.2 p = some 35 ∧ H p 16 = g k
def CSx (l : List (Nat × Nat)) : Bool := wno l 27 (fun j => decide (j = 0)) && wno l 28 (fun _ => true) && (PSx l && wno l 35 (fun j => decide (j = 17)))
def CGx (l : List (Nat × Nat)) : Bool := wno l 27 (fun j => decide (j = 0)) && wno l 28 (fun _ => true) && wno l 35 (fun j => decide (j = 16))
section CREL

variable {T : wq_T} {H H' : wq_H} {l : List (Nat × Nat)} {r p q k : Nat} {d : xD} {i n v : Int} {g : Nat → Int}
theorem PQ_fr (hW : WT T H) (gp : T.2.2.2 p = some 35) (f : wfr l T H H') (x : (PSx l && wno l 35 (fun j => decide (j = 17))) = true) (h : PQ T H p d k) : PQ T H' p d k := by
  rw [Bool.and_eq_true] at x
  exact ⟨PS_fr hW gp f x.1 h.1, (wno_f f gp x.2 rfl).trans h.2⟩
theorem CS_fr (hW : WT T H) (gr : T.2.2.2 r = some 27) (f : wfr l T H H') (x : CSx l = true) (h : CS T H r d i) : CS T H' r d i := by
  unfold CSx at x
  rw [Bool.and_eq_true, Bool.and_eq_true] at x
  refine ⟨h.1, fun k hi hk => ?_⟩
  obtain ⟨p, h1, h2, h3⟩ := h.2 k hi hk
  exact ⟨p, (pa_fr hW gr f x.1.1 x.1.2 k).trans h1, h2, PQ_fr hW h2 f x.2 h3⟩
theorem CG_fr (hW : WT T H) (gr : T.2.2.2 r = some 27) (f : wfr l T H H') (x : CGx l = true) (h : CG T H r n g) : CG T H' r n g := by
  unfold CGx at x
  rw [Bool.and_eq_true, Bool.and_eq_true] at x
  intro k hk
  obtain ⟨p, h1, h2, h3⟩ := h k hk
  exact ⟨p, (pa_fr hW gr f x.1.1 x.1.2 k).trans h1, h2, (wno_f f h2 x.2 rfl).trans h3⟩
theorem DQ_at {pa : Nat} (h : DQ T H r d) (e0 : H r 0 = (pa : Int)) (e1 : H pa k = (p : Int)) (hk : (k : Int) < d 0 3) : PF H p d k := by
  obtain ⟨b, h1, -, h3⟩ := h.1 k hk
  rw [e0, Int.toNat_natCast, e1] at h1
  have : p = b := by omega
  subst this
  exact h3
theorem CS_0 (hP : xdP d) (h : d 0 3 ≤ i) : CS T H r d i := ⟨hP, fun k h1 h2 => by omega⟩
end CREL
/-- a draft's people as they are told: no SPANS yet, nothing SAID; its CURSOR -/
def CZ (T : wq_T) (H : wq_H) (r : Nat) (n : Int) : Prop := H r 17 = 0 ∧ ∀ k : Nat, (k : Int) < n → ∃ p : Nat, H (H r 0).toNat k = (p : Int) ∧ T.2.2.2 p = some 35 ∧ H p 15 = 0 ∧ H p 16 = 0
def CZx (l : List (Nat × Nat)) : Bool := wno l 27 (fun j => decide (j = 0 ∨ j = 17)) && wno l 28 (fun _ => true) && wno l 35 (fun j => decide (j = 15 ∨ j = 16))
/-- no two of its people have an array in common -/
def DE (T : wq_T) (H : wq_H) (r : Nat) : Prop := ∀ i i' j : Nat, i < 6 → i' < 6 → j < 6 → H (H (H r 0).toNat i).toNat j = H (H (H r 0).toNat i').toNat j → i = i'
def DEx (l : List (Nat × Nat)) : Bool := wno l 27 (fun j => decide (j = 0)) && wno l 28 (fun _ => true) && wno l 35 (fun j => decide (j ≤ 5))
section CZREL

variable {T : wq_T} {H H' : wq_H} {l : List (Nat × Nat)} {r p q k : Nat} {d : xD} {i n n' v : Int} {g : Nat → Int} {C : Nat → Bool} {x : Nat}
theorem CZ_fr (hW : WT T H) (gr : T.2.2.2 r = some 27) (f : wfr l T H H') (y : CZx l = true) (h : CZ T H r n) : CZ T H' r n := by
  unfold CZx at y
  simp only [Bool.and_eq_true] at y
  have y0 : wno l 27 (fun j => decide (j = 0)) = true := wno_le y.1.1 (fun j hj => decide_eq_true (Or.inl (of_decide_eq_true hj)))
  refine ⟨(wno_f f gr y.1.1 (j := 17) rfl).trans h.1, fun k hk => ?_⟩
  obtain ⟨p, h1, h2, h3, h4⟩ := h.2 k hk
  exact ⟨p, (pa_fr hW gr f y0 y.1.2 k).trans h1, h2, (wno_f f h2 y.2 (j := 15) rfl).trans h3, (wno_f f h2 y.2 (j := 16) rfl).trans h4⟩
theorem CZ_le (h : CZ T H r n) (e : n' ≤ n) : CZ T H r n' := ⟨h.1, fun k hk => h.2 k (by omega)⟩
theorem CZ_0 (h : H r 17 = 0) (hn : n ≤ 0) : CZ T H r n := ⟨h, fun k hk => by omega⟩
theorem CZ_at {pa : Nat} (h : CZ T H r n) (e0 : H r 0 = (pa : Int)) (e1 : H pa k = (p : Int)) (hk : (k : Int) < n) : H p 15 = 0 ∧ H p 16 = 0 := by
  obtain ⟨b, h1, -, h3⟩ := h.2 k hk
  rw [e0, Int.toNat_natCast, e1] at h1
  have : p = b := by omega
  subst this
  exact h3
/-- one more is told; the others are as they were -/
theorem CZ_add {pa : Nat} (hW : WT T H) (gr : T.2.2.2 r = some 27) (f : wfr l T H H') (y : (wno l 27 (fun j => decide (j = 0 ∨ j = 17)) && wno l 28 (fun _ => true)) = true) (hd : DD T H r) (e0 : H r 0 = (pa : Int)) (e1 : H pa k = (p : Int)) (gp : T.2.2.2 p = some 35) (hk : (k : Int) = n) (hk6 : k < 6) (ho : ∀ a, a ≠ p → T.2.2.2 a = some 35 → H' a = H a) (h15 : H' p 15 = 0) (h16 : H' p 16 = 0) (h : CZ T H r n) : CZ T H' r (n + 1) := by
  rw [Bool.and_eq_true] at y
  have y0 : wno l 27 (fun j => decide (j = 0)) = true := wno_le y.1 (fun j hj => decide_eq_true (Or.inl (of_decide_eq_true hj)))
  refine ⟨(wno_f f gr y.1 (j := 17) rfl).trans h.1, fun j hj => ?_⟩
  by_cases e : j = k
  · subst e
    refine ⟨p, (pa_fr hW gr f y0 y.2 j).trans (by rw [e0, Int.toNat_natCast]; exact e1), gp, h15, h16⟩
  · obtain ⟨b, h1, h2, h3, h4⟩ := h.2 j (by omega)
    have hb : b ≠ p := fun q => by
      obtain ⟨pa', q1, -, q3⟩ := hd
      rw [e0] at q1
      have : pa' = pa := by omega
      subst this
      rw [e0, Int.toNat_natCast] at h1
      exact e (q3 j k (by omega) hk6 (by rw [h1, e1, q]))
    refine ⟨b, (pa_fr hW gr f y0 y.2 j).trans h1, h2, ?_, ?_⟩
    · rw [ho b hb h2]
      exact h3
    · rw [ho b hb h2]
      exact h4
theorem CG_z (h : CZ T H r n) : CG T H r n (fun _ => 0) := fun k hk => by
  obtain ⟨p, h1, h2, -, h4⟩ := h.2 k hk
  exact ⟨p, h1, h2, h4⟩
theorem DE_fr (hW : WT T H) (gr : T.2.2.2 r = some 27) (f : wfr l T H H') (y : DEx l = true) (h : DE T H r) : DE T H' r := by
  unfold DEx at y
  simp only [Bool.and_eq_true] at y
  intro i i' j hi hi' hj e
  obtain ⟨pa, q1, q2⟩ := hW.ref gr (t' := 28) (n := 19) (j := 0) (p := 0) (q := 0) rfl (by decide) rfl
  obtain ⟨a, a1, a2⟩ := hW.ref q2 (t' := 35) (n := 6) (j := i) (p := 0) (q := 0) rfl hi rfl
  obtain ⟨b, b1, b2⟩ := hW.ref q2 (t' := 35) (n := 6) (j := i') (p := 0) (q := 0) rfl hi' rfl
  refine h i i' j hi hi' hj ?_
  rw [pa_fr hW gr f y.1.1 y.1.2 i, pa_fr hW gr f y.1.1 y.1.2 i'] at e
  rw [q1, Int.toNat_natCast, a1, b1, Int.toNat_natCast, Int.toNat_natCast] at e ⊢
  rw [wno_f f a2 y.2 (decide_eq_true (show j ≤ 5 by omega)), wno_f f b2 y.2 (decide_eq_true (show j ≤ 5 by omega))] at e
  exact e
/-- a person and what hangs on it, by itself -/
def cP (H : wq_H) (p : Nat) (a : Nat) : Bool := !(decide (a = p) || (List.range 6).any (fun j => decide (H p j = (a : Int))))
theorem cP_p : cP H p p = false := by
  unfold cP
  rw [decide_eq_true rfl]
  rfl
theorem cP_a {b j : Nat} (hj : j < 6) (e : H p j = (b : Int)) : cP H p b = false := by
  unfold cP
  rw [show (List.range 6).any (fun j => decide (H p j = (b : Int))) = true from List.any_eq_true.mpr ⟨j, List.mem_range.mpr hj, decide_eq_true e⟩, Bool.or_true]
  rfl
theorem cP_f {b : Nat} (h : cP H p b = false) : b = p ∨ ∃ j, j < 6 ∧ H p j = (b : Int) := by
  unfold cP at h
  have h : (decide (b = p) || (List.range 6).any (fun j => decide (H p j = (b : Int)))) = true := by
    cases e : (decide (b = p) || (List.range 6).any (fun j => decide (H p j = (b : Int)))) with
    | true => rfl
    | false => rw [e] at h; cases h
  rw [Bool.or_eq_true] at h
  rcases h with h | h
  · exact Or.inl (of_decide_eq_true h)
  · obtain ⟨j, h1, h2⟩ := List.any_eq_true.mp h
    exact Or.inr ⟨j, List.mem_range.mp h1, of_decide_eq_true h2⟩
theorem per_ref (hW : WT T H) (gp : T.2.2.2 p = some 35) {j : Nat} (hj : j < 6) : ∃ b : Nat, H p j = (b : Int) ∧ T.2.2.2 b = some (36 + j) := by
  match j, hj with
  | 0, _ => exact hW.ref gp (n := 18) (p := 0) (q := 0) rfl (by decide) rfl
  | 1, _ => exact hW.ref gp (n := 18) (p := 0) (q := 0) rfl (by decide) rfl
  | 2, _ => exact hW.ref gp (n := 18) (p := 0) (q := 0) rfl (by decide) rfl
  | 3, _ => exact hW.ref gp (n := 18) (p := 0) (q := 0) rfl (by decide) rfl
  | 4, _ => exact hW.ref gp (n := 18) (p := 0) (q := 0) rfl (by decide) rfl
  | 5, _ => exact hW.ref gp (n := 18) (p := 0) (q := 0) rfl (by decide) rfl
theorem cP_SQ (hW : WT T H) (gp : T.2.2.2 p = some 35) : SQ T H (cP H p) := fun a t j ht hj hc => by
  rcases cP_f hc with rfl | ⟨i, hi, e⟩
  · rw [gp] at ht
    cases ht
    have hj6 : j < 6 := by omega
    obtain ⟨b, h1, -⟩ := per_ref hW gp hj6
    rw [h1, Int.toNat_natCast]
    exact cP_a hj6 h1
  · obtain ⟨b, h1, h2⟩ := per_ref hW gp hi
    have : a = b := by omega
    subst this
    rw [ht] at h2
    have := Option.some.inj h2
    omega
theorem PS_un {P : List (Int × Int)} (h : PS (rtT T C) H p d k P) : PS T H p d k P := by
  have u : ∀ {S tg : Nat} {c : Int} {f : Nat → Int}, tg < 200 → DA S tg (rtT T C) H p c f → DA S tg T H p c f := fun ht ⟨b, h1, h2, h3⟩ => ⟨b, h1, rtT_lo h2 ht, h3⟩
  obtain ⟨h0, h1, h2, h3, h4, h5, h6⟩ := h
  exact ⟨h0, u (by decide) h1, u (by decide) h2, u (by decide) h3, u (by decide) h4, u (by decide) h5, u (by decide) h6⟩
/-- another person and what hangs on it -/
theorem cP_q {pa i : Nat} (hW : WT T H) (gr : T.2.2.2 r = some 27) (hd : DD T H r) (he : DE T H r) (e0 : H r 0 = (pa : Int)) (e1 : H pa k = (p : Int)) (gp : T.2.2.2 p = some 35) (hk : k < 6) (hi : i < 6) (hne : i ≠ k) (e2 : H pa i = (q : Int)) (gq : T.2.2.2 q = some 35) : q ≠ p ∧ cP H p q = true ∧ ∀ j b : Nat, j < 6 → H q j = (b : Int) → T.2.2.2 b = some (36 + j) ∧ cP H p b = true := by
  have hqp : q ≠ p := fun e => by
    obtain ⟨pa', q1, -, q3⟩ := hd
    rw [e0] at q1
    have : pa' = pa := by omega
    subst this
    exact hne (q3 i k hi hk (by rw [e2, e1, e]))
  have tr : ∀ a, ¬ (cP H p a = false) → cP H p a = true := fun a h => by
    cases e : cP H p a with
    | true => rfl
    | false => exact absurd e h
  refine ⟨hqp, tr q (fun h => ?_), fun j b hj hb => ?_⟩
  · rcases cP_f h with h1 | ⟨j, h1, h2⟩
    · exact hqp h1
    · obtain ⟨b, h3, h4⟩ := per_ref hW gp h1
      have : q = b := by omega
      subst this
      rw [gq] at h4
      have := Option.some.inj h4
      omega
  · obtain ⟨b', h3, h4⟩ := per_ref hW gq hj
    have : b = b' := by omega
    subst this
    refine ⟨h4, tr b (fun h => ?_)⟩
    rcases cP_f h with h1 | ⟨j', h1, h2⟩
    · subst h1
      rw [gp] at h4
      have := Option.some.inj h4
      omega
    · obtain ⟨b2, h5, h6⟩ := per_ref hW gp h1
      have : b = b2 := by omega
      subst this
      rw [h4] at h6
      have := Option.some.inj h6
      have : j = j' := by omega
      subst this
      refine hne (he i k j hi hk hj ?_)
      rw [e0, Int.toNat_natCast, e1, e2, Int.toNat_natCast, Int.toNat_natCast, h3, h5]
theorem DA_mv {S tg : Nat} {c : Int} {f : Nat → Int} (h : DA S tg T H p c f) (ep : H' p = H p) (eb : ∀ b : Nat, H p S = (b : Int) → T.2.2.2 b = some tg → H' b = H b) : DA S tg T H' p c f := by
  obtain ⟨b, h1, h2, h3⟩ := h
  exact ⟨b, by rw [ep]; exact h1, h2, by rw [eb b h1 h2]; exact h3⟩
theorem PS_mv {P : List (Int × Int)} (h : PS T H p d k P) (ep : H' p = H p) (eb : ∀ j b : Nat, j < 6 → H p j = (b : Int) → T.2.2.2 b = some (36 + j) → H' b = H b) : PS T H' p d k P := by
  obtain ⟨h0, h1, h2, h3, h4, h5, h6⟩ := h
  exact ⟨by rw [ep]; exact h0, DA_mv h1 ep (fun b => eb 0 b (by decide)), DA_mv h2 ep (fun b => eb 1 b (by decide)), DA_mv h3 ep (fun b => eb 2 b (by decide)), DA_mv h4 ep (fun b => eb 3 b (by decide)), DA_mv h5 ep (fun b => eb 4 b (by decide)), DA_mv h6 ep (fun b => eb 5 b (by decide))⟩
/-- behind the making of one person's SPANS those of the others are as they were -/
theorem CS_mk {pa : Nat} (hW : WT T H) (gr : T.2.2.2 r = some 27) (hd : DD T H r) (he : DE T H r) (e0 : H r 0 = (pa : Int)) (g0 : T.2.2.2 pa = some 28) (e0' : H' r 0 = (pa : Int)) (e1' : ∀ j, H' pa j = H pa j) (e1 : H pa k = (p : Int)) (gp : T.2.2.2 p = some 35) (hk : k < 6) (h3 : d 0 3 ≤ 6) (ho : ∀ a, rtF T (cP H p) a = true → H' a = H a) (hi : (k : Int) < i) (h : CS T H r d i) : CS T H' r d i := by
  refine ⟨h.1, fun j hj hj2 => ?_⟩
  obtain ⟨q, q1, q2, q3, q4⟩ := h.2 j hj hj2
  rw [e0, Int.toNat_natCast] at q1
  obtain ⟨c1, c2, c3⟩ := cP_q hW gr hd he e0 e1 gp hk (show j < 6 by omega) (show j ≠ k by omega) q1 q2
  have eq : H' q = H q := ho q (rtF_1 q2 (by decide) (by decide) c2)
  refine ⟨q, by rw [e0', Int.toNat_natCast, e1']; exact q1, q2, PS_mv q3 eq (fun j b hj hb gb => ho b (rtF_1 gb (by omega) (by omega) (c3 j b hj hb).2)), by rw [eq]; exact q4⟩
theorem CZ_mk {pa : Nat} (hW : WT T H) (gr : T.2.2.2 r = some 27) (hd : DD T H r) (he : DE T H r) (e0 : H r 0 = (pa : Int)) (e0' : H' r 0 = (pa : Int)) (e1' : ∀ j, H' pa j = H pa j) (e17 : H' r 17 = H r 17) (e1 : H pa k = (p : Int)) (gp : T.2.2.2 p = some 35) (hk : k < 6) (hn : n ≤ k) (ho : ∀ a, rtF T (cP H p) a = true → H' a = H a) (h : CZ T H r (n + 1)) : CZ T H' r n := by
  refine ⟨e17.trans h.1, fun j hj => ?_⟩
  obtain ⟨q, q1, q2, q3, q4⟩ := h.2 j (by omega)
  rw [e0, Int.toNat_natCast] at q1
  obtain ⟨c1, c2, -⟩ := cP_q hW gr hd he e0 e1 gp hk (show j < 6 by omega) (show j ≠ k by omega) q1 q2
  have eq : H' q = H q := ho q (rtF_1 q2 (by decide) (by decide) c2)
  exact ⟨q, by rw [e0', Int.toNat_natCast, e1']; exact q1, q2, by rw [eq]; exact q3, by rw [eq]; exact q4⟩
/-- its own number is written -/
theorem CS_17 {pa : Nat} (hd : DD T H r) (e0 : H r 0 = (pa : Int)) (g0 : T.2.2.2 pa = some 28) (gr : T.2.2.2 r = some 27) (e1 : H pa k = (p : Int)) (gp : T.2.2.2 p = some 35) (hk : k < 6) (h3 : d 0 3 ≤ 6) (hi : (k : Int) < i) (e : H' = wq_u H p 17 v) (h : CS T H r d i) : CS T H' r d i := by
  refine ⟨h.1, fun j hj hj2 => ?_⟩
  obtain ⟨q, q1, q2, q3, q4⟩ := h.2 j hj hj2
  rw [e0, Int.toNat_natCast] at q1
  have hqp : q ≠ p := fun e => by
    obtain ⟨pa', a1, -, a3⟩ := hd
    rw [e0] at a1
    have : pa' = pa := by omega
    subst this
    have := a3 j k (by omega) hk (by rw [q1, e1, e])
    omega
  have n1 : ∀ a t, T.2.2.2 a = some t → t ≠ 35 → H' a = H a := fun a t ht ne => by
    rw [e]
    funext i
    exact wq_u_na (fun q => by subst q; rw [gp] at ht; exact ne (Option.some.inj ht).symm) i
  have eq : H' q = H q := by
    rw [e]
    funext i
    exact wq_u_na hqp i
  refine ⟨q, ?_, q2, PS_mv q3 eq (fun j b hj hb gb => n1 b _ gb (by omega)), by rw [eq]; exact q4⟩
  rw [n1 r _ gr (by decide), e0, Int.toNat_natCast, n1 pa _ g0 (by decide)]
  exact q1
/-- and one more has its SPANS -/
theorem CS_cons {pa : Nat} (e0 : H r 0 = (pa : Int)) (e1 : H pa k = (p : Int)) (gp : T.2.2.2 p = some 35) (hs : PS T H p d k (xsp d k)) (h17 : H p 17 = wq_w (xpr d (k + 1) ((d 0 3).toNat - (k + 1)))) (hi : i = k) (h : CS T H r d (i + 1)) : CS T H r d i := by
  refine ⟨h.1, fun j hj hj2 => ?_⟩
  by_cases e : j = k
  · subst e
    exact ⟨p, by rw [e0, Int.toNat_natCast]; exact e1, gp, hs, h17⟩
  · exact h.2 j (by omega) hj2
theorem CS_ge {i' : Int} (h : CS T H r d i) (e : i ≤ i') : CS T H r d i' := ⟨h.1, fun k h1 h2 => h.2 k (by omega) h2⟩
theorem xpr_i {k : Nat} (h : (k : Int) < d 0 3) : xpr d k ((d 0 3).toNat - k) = (xsp d k).length * xpr d (k + 1) ((d 0 3).toNat - (k + 1)) := by
  rw [show (d 0 3).toNat - k = ((d 0 3).toNat - (k + 1)) + 1 by omega]
  rfl
theorem xpr_z {k : Nat} (h : d 0 3 ≤ k) : xpr d k ((d 0 3).toNat - k) = 1 := by
  rw [show (d 0 3).toNat - k = 0 by omega]
  rfl
theorem xpr_c (hP : xdP d) (h3 : d 0 3 ≤ 6) (k : Nat) : 0 ≤ xpr d k ((d 0 3).toNat - k) ∧ xpr d k ((d 0 3).toNat - k) ≤ 4096000000 := by
  have h1 := xpr_b hP ((d 0 3).toNat - k) k
  have h2 := @p40 ((d 0 3).toNat - k) (by omega)
  omega
theorem xdP_set (h : xdP d) : xdP (xset d) := xdP_cg h (fun i h1 h2 => xset_o (by omega))
/-- what must be watched -/
theorem xmu_y {k : Nat} {z : Int} (e : (k : Int) = d 0 8) (hf : ∀ h, h < 24 → d 13 h ≤ 100) (hz : z = xob (fun h => decide (d 13 h > 0 ∧ d 13 h ≤ 99 + 1)) 24) : z = xmu d k := by
  unfold xmu
  rw [if_pos e, hz]
  refine xob_cg 24 (fun j hj => ?_)
  have := hf j hj
  by_cases q : d 13 j > 0
  · rw [decide_eq_true q, decide_eq_true ⟨q, by omega⟩]
  · rw [decide_eq_false q, decide_eq_false (fun c => q c.1)]
theorem xmu_n {k : Nat} (e : (k : Int) ≠ d 0 8) : 0 = xmu d k := by
  unfold xmu
  rw [if_neg e]
theorem xmu_s {k : Nat} {z : Int} (e : (k : Int) = d 0 8) (hz : z = xob (fun h => decide (d 13 h > 0)) 24) : z = xmu d k := by
  unfold xmu
  rw [if_pos e]
  exact hz
theorem and_0 {x : Int} : wq_and x 0 = 0 := by
  unfold wq_and
  rw [show Int32.ofInt 0 = 0 from rfl, Int32.and_zero]
  rfl
theorem ST_100 {f : Nat → Int} (h : ST T H r f) : ∀ k, k < 24 → f k ≤ 100 := fun k hk => by
  obtain ⟨s, -, -, h3⟩ := h
  exact (h3 k hk).2.1
theorem xmk_k {f : Nat → Int} {a z w x : Int} (h0 : 0 ≤ v) (e : w = wq_and x z) (hx : x = xmk f a v v.toNat) (hz : z = a) : xmk f a (v + 1) v.toNat = w := by
  have := @xmk_c f a v h0
  rw [this.1, e, hx, hz, this.2.2]
/-- the state between calls: what is told, what is struck now, SPANS, LOTS -/
def CU (T : wq_T) (H : wq_H) (r : Nat) (e d : xD) (n : Int) : Prop := DC T H r e ∧ CS T H r d 0 ∧ H r 18 = n
/-- and what is SAID, the CURSOR -/
def CY (T : wq_T) (H : wq_H) (r : Nat) (n : Int) (g : Nat → Int) (c : Int) : Prop := CG T H r n g ∧ H r 17 = c
def CUx (l : List (Nat × Nat)) : Bool := DCx l && CSx l && wno l 27 (fun j => decide (j = 18))
def CYx (l : List (Nat × Nat)) : Bool := CGx l && wno l 27 (fun j => decide (j = 17))
theorem CU_fr {e : xD} (hW : WT T H) (gr : T.2.2.2 r = some 27) (f : wfr l T H H') (y : CUx l = true) (h : CU T H r e d n) : CU T H' r e d n := by
  unfold CUx at y
  simp only [Bool.and_eq_true] at y
  obtain ⟨h1, h2, h3⟩ := h
  exact ⟨DC_fr hW gr f y.1.1 h1, CS_fr hW gr f y.1.2 h2, (wno_f f gr y.2 (j := 18) rfl).trans h3⟩
theorem CY_fr {c : Int} (hW : WT T H) (gr : T.2.2.2 r = some 27) (f : wfr l T H H') (y : CYx l = true) (h : CY T H r n g c) : CY T H' r n g c := by
  unfold CYx at y
  rw [Bool.and_eq_true] at y
  exact ⟨CG_fr hW gr f y.1 h.1, (wno_f f gr y.2 (j := 17) rfl).trans h.2⟩
theorem CU_fz {e : xD} (hW : WT T H) (gr : T.2.2.2 r = some 27) (hS : SP T H x C) (hc : C r = true) (ho : ∀ a, rtF T C a = true → H' a = H a) (h3 : d 0 3 ≤ 6) (h : CU T H r e d n) : CU T H' r e d n := by
  have er : H' r = H r := ho r (rtF_1 gr (by decide) (by decide) hc)
  obtain ⟨h1, h2, h4⟩ := h
  refine ⟨DC_fz hW gr hS hc ho h1, ⟨h2.1, fun k hk hk2 => ?_⟩, by rw [er]; exact h4⟩
  obtain ⟨p, a1, a2, a3, a4⟩ := h2.2 k hk hk2
  obtain ⟨b1, b2, b3⟩ := fz_per hW gr hS hc ho (show k < 6 by omega) a1 a2
  refine ⟨p, b1, a2, PS_mv a3 b3 (fun j b hj hb gb => ?_), by rw [b3]; exact a4⟩
  have c1 := hS p 35 j a2 (Or.inr (Or.inr ⟨rfl, hj⟩))
  rw [hb, Int.toNat_natCast] at c1
  exact ho b (rtF_1 gb (by omega) (by omega) (c1.trans b2))
theorem CY_fz {c : Int} (hW : WT T H) (gr : T.2.2.2 r = some 27) (hS : SP T H x C) (hc : C r = true) (ho : ∀ a, rtF T C a = true → H' a = H a) (h3 : n ≤ 6) (h : CY T H r n g c) : CY T H' r n g c := by
  have er : H' r = H r := ho r (rtF_1 gr (by decide) (by decide) hc)
  refine ⟨fun k hk => ?_, by rw [er]; exact h.2⟩
  obtain ⟨p, a1, a2, a3⟩ := h.1 k hk
  obtain ⟨b1, b2, b3⟩ := fz_per hW gr hS hc ho (show k < 6 by omega) a1 a2
  exact ⟨p, b1, a2, by rw [b3]; exact a3⟩
theorem CZ_un (h : CZ (rtT T C) H r n) : CZ T H r n := ⟨h.1, fun k hk => by
  obtain ⟨p, h1, h2, h3⟩ := h.2 k hk
  exact ⟨p, h1, rtT_lo h2 (by decide), h3⟩⟩
theorem xpr_m {v a b w : Int} (hP : xdP d) (h3 : d 0 3 ≤ 6) (h0 : 0 ≤ v) (hv : v < d 0 3) (ha : a = xpr d (v + 1).toNat ((d 0 3).toNat - (v + 1).toNat)) (hb : b = (xsp d v.toNat).length) (e : w = wl_w (a * b)) : w = xpr d v.toNat ((d 0 3).toNat - v.toNat) := by
  have h1 := xpr_c hP h3 v.toNat
  have h2 := @xpr_i d v.toNat (by omega)
  rw [show (v + 1).toNat = v.toNat + 1 by omega] at ha
  rw [e, ha, hb, Int.mul_comm, ← h2]
  exact wl_w_id ⟨by omega, by omega⟩
theorem str_m {v a w : Int} (h0 : 0 ≤ v) (ha : a = xpr d (v + 1).toNat ((d 0 3).toNat - (v + 1).toNat)) (e : w = wq_w a) : w = wq_w (xpr d (v.toNat + 1) ((d 0 3).toNat - (v.toNat + 1))) := by
  rw [e, ha, show (v + 1).toNat = v.toNat + 1 by omega]
theorem xlots_e {v : Int} (h : v = -1) : xpr d (v + 1).toNat ((d 0 3).toNat - (v + 1).toNat) = xlots d := by
  subst h
  rfl
theorem CU_k {e : xD} (h : CU T H r e d n) : H r 7 = e 0 0 ∧ H r 8 = e 0 1 ∧ H r 9 = e 0 2 ∧ H r 10 = e 0 3 ∧ H r 11 = e 0 4 ∧ H r 12 = e 0 5 ∧ H r 13 = e 0 6 ∧ H r 14 = e 0 7 ∧ -1 ≤ e 0 8 ∧ e 0 8 ≤ 5 ∧ H r 15 = xsx (e 0 8) ∧ H r 16 = xcn (e 13) 24 ∧ 0 ≤ e 0 3 ∧ e 0 3 ≤ 6 ∧ 0 ≤ e 0 4 ∧ e 0 4 ≤ 3 ∧ H r 18 = n := by
  have := DC_k h.1
  obtain ⟨-, -, h5⟩ := h
  omega
end CZREL
end
section
/-! THE REFERENCE'S STATE (own work): what it has read last that went well, its SPANS, what is struck now, what is SAID -/
def MSq (H : wq_H) (R : Nat) (d : xD) : Prop := H R 0 = d 0 0 ∧ H R 1 = d 0 1 ∧ H R 2 = d 0 2 ∧ H R 3 = d 0 3 ∧ H R 4 = d 0 4 ∧ H R 5 = d 0 5 ∧ H R 6 = d 0 6 ∧ H R 7 = d 0 7 ∧ H R 8 = d 0 8 ∧ -1 ≤ d 0 8 ∧ d 0 8 ≤ 5
def MRo (T : wq_T) (H : wq_H) (R : Nat) (d : xD) : Prop := MA9 T H R (d 1) ∧ MA10 T H R (d 2) ∧ MA11 T H R (d 3) ∧ MA12 T H R (d 4) ∧ MA13 T H R (d 5) ∧ MA14 T H R (d 6) ∧ MA15 T H R (d 7) ∧ MA16 T H R (d 8) ∧ MA17 T H R (d 9) ∧ MA18 T H R (d 10) ∧ MA19 T H R (d 11) ∧ MA20 T H R (d 12) ∧ MA21 T H R (d 13) ∧ MA22 T H R (d 14) ∧ MA23 T H R (d 15) ∧ MA25 T H R (d 17) ∧ MA26 T H R (d 16)
def DMQ (T : wq_T) (H : wq_H) (R : Nat) (d : xD) : Prop := MSq H R d ∧ xdP d ∧ MRo T H R d
def DMQx (l : List (Nat × Nat)) : Bool := wno l 54 (fun _ => true) && (List.range 18).all (fun i => wno l (55 + i) (fun _ => true))
/-- the new one lies behind all that was there -/
def FZ (T : wq_T) (H : wq_H) (R : Nat) (N : Nat) (H0 : wq_H) : Prop := (∀ a t, T.2.2.2 a = some t → 54 ≤ t → t ≤ 72 → a < N → H a = H0 a) ∧ N ≤ R ∧ ∀ j, 9 ≤ j → j ≤ 26 → (N : Int) ≤ H R j
def FZx (l : List (Nat × Nat)) : Bool := wno l 54 (fun _ => true) && (List.range 18).all (fun i => wno l (55 + i) (fun _ => true))
section MSREL

variable {T T' : wq_T} {H H' H0 : wq_H} {l : List (Nat × Nat)} {R m b k N j S tg s t : Nat} {d : xD} {v : Int}
theorem DM_q (h : DM T H R m d) : DMQ T H R d := by
  obtain ⟨-, ⟨h0, h1, h2, h3, h4, h5, h6, h7, h8, -, h9, h10⟩, hp, hr⟩ := h
  exact ⟨⟨h0, h1, h2, h3, h4, h5, h6, h7, h8, h9, h10⟩, hp, hr⟩
theorem MA_mv {n : Nat} {f : Nat → Int} (h : MA S tg n T H R f) (eR : H' R = H R) (eb : ∀ b, T.2.2.2 b = some tg → (H R S = (b : Int)) → H' b = H b) : MA S tg n T H' R f := by
  obtain ⟨b, h1, h2, h3⟩ := h
  exact ⟨b, by rw [eR]; exact h1, h2, by rw [eb b h2 h1]; exact h3⟩
theorem DMQ_mv (g : T.2.2.2 R = some 54) (ho : ∀ a t, T.2.2.2 a = some t → 54 ≤ t → t ≤ 72 → H' a = H a) (h : DMQ T H R d) : DMQ T H' R d := by
  have eR := ho R 54 g (by decide) (by decide)
  obtain ⟨h1, h2, a1, a2, a3, a4, a5, a6, a7, a8, a9, a10, a11, a12, a13, a14, a15, a16, a17⟩ := h
  have e : ∀ tg, 54 ≤ tg → tg ≤ 72 → ∀ (S b : Nat), T.2.2.2 b = some tg → (H R S = (b : Int)) → H' b = H b := fun tg t1 t2 S b hb _ => ho b tg hb t1 t2
  exact ⟨by unfold MSq; rw [eR]; exact h1, h2, MA_mv a1 eR (e _ (by decide) (by decide) _), MA_mv a2 eR (e _ (by decide) (by decide) _), MA_mv a3 eR (e _ (by decide) (by decide) _), MA_mv a4 eR (e _ (by decide) (by decide) _), MA_mv a5 eR (e _ (by decide) (by decide) _), MA_mv a6 eR (e _ (by decide) (by decide) _), MA_mv a7 eR (e _ (by decide) (by decide) _), MA_mv a8 eR (e _ (by decide) (by decide) _), MA_mv a9 eR (e _ (by decide) (by decide) _), MA_mv a10 eR (e _ (by decide) (by decide) _), MA_mv a11 eR (e _ (by decide) (by decide) _), MA_mv a12 eR (e _ (by decide) (by decide) _), MA_mv a13 eR (e _ (by decide) (by decide) _), MA_mv a14 eR (e _ (by decide) (by decide) _), MA_mv a15 eR (e _ (by decide) (by decide) _), MA_mv a16 eR (e _ (by decide) (by decide) _), MA_mv a17 eR (e _ (by decide) (by decide) _)⟩
theorem MA_mono {n : Nat} {f : Nat → Int} (mo : ∀ a t, T.2.2.2 a = some t → T'.2.2.2 a = some t) (h : MA S tg n T H R f) : MA S tg n T' H R f := by
  obtain ⟨b, h1, h2, h3⟩ := h
  exact ⟨b, h1, mo _ _ h2, h3⟩
theorem DMQ_mono (mo : ∀ a t, T.2.2.2 a = some t → T'.2.2.2 a = some t) (h : DMQ T H R d) : DMQ T' H R d := by
  obtain ⟨h1, h2, a1, a2, a3, a4, a5, a6, a7, a8, a9, a10, a11, a12, a13, a14, a15, a16, a17⟩ := h
  exact ⟨h1, h2, MA_mono mo a1, MA_mono mo a2, MA_mono mo a3, MA_mono mo a4, MA_mono mo a5, MA_mono mo a6, MA_mono mo a7, MA_mono mo a8, MA_mono mo a9, MA_mono mo a10, MA_mono mo a11, MA_mono mo a12, MA_mono mo a13, MA_mono mo a14, MA_mono mo a15, MA_mono mo a16, MA_mono mo a17⟩
theorem DMQ_k (h : DMQ T H R d) : H R 0 = d 0 0 ∧ H R 1 = d 0 1 ∧ H R 2 = d 0 2 ∧ H R 3 = d 0 3 ∧ H R 4 = d 0 4 ∧ H R 5 = d 0 5 ∧ H R 6 = d 0 6 ∧ H R 7 = d 0 7 ∧ H R 8 = d 0 8 ∧ -1 ≤ d 0 8 ∧ d 0 8 ≤ 5 := h.1
theorem fam_same (f : wfr l T H H') (x : DMQx l = true) : ∀ a t, T.2.2.2 a = some t → 54 ≤ t → t ≤ 72 → H' a = H a := fun a t ht h1 h2 => by
  unfold DMQx at x
  rw [Bool.and_eq_true] at x
  funext j
  by_cases e : t = 54
  · subst e
    exact wno_f f ht x.1 rfl
  · have := List.all_eq_true.mp x.2 (t - 55) (List.mem_range.mpr (by omega))
    rw [show 55 + (t - 55) = t by omega] at this
    exact wno_f f ht this rfl
theorem DMQ_fr (hW : WT T H) (g : T.2.2.2 R = some 54) (f : wfr l T H H') (x : DMQx l = true) (h : DMQ T H R d) : DMQ T H' R d := DMQ_mv g (fam_same f x) h
theorem FZ_fr (hW : WT T H) (g : T.2.2.2 R = some 54) (f : wfr l T H H') (x : FZx l = true) (h : FZ T H R N H0) : FZ T H' R N H0 := by
  have e := fam_same f x
  refine ⟨fun a t ht h1 h2 h3 => (e a t ht h1 h2).trans (h.1 a t ht h1 h2 h3), h.2.1, fun j h1 h2 => ?_⟩
  rw [e R 54 g (by decide) (by decide)]
  exact h.2.2 j h1 h2
theorem FZ_st (h : FZ T H R N H0) (q : H R S = (b : Int)) (hS : 9 ≤ S) (hS2 : S ≤ 26) (gr : T.2.2.2 R = some 54) (gb : T.2.2.2 b = some tg) (ne : tg ≠ 54) (e : H' = wq_u H b k v) : FZ T H' R N H0 := by
  have hb : N ≤ b := by
    have := h.2.2 S hS hS2
    omega
  refine ⟨fun a t ht h1 h2 h3 => ?_, h.2.1, fun j h1 h2 => ?_⟩
  · rw [e]
    have : wq_u H b k v a = H a := funext (fun i => wq_u_na (by omega) i)
    rw [this]
    exact h.1 a t ht h1 h2 h3
  · rw [e, wq_u_na (fun q => by subst q; rw [gr] at gb; exact ne (Option.some.inj gb).symm)]
    exact h.2.2 j h1 h2
theorem FZ_put (h : FZ T H R N H0) (hs : k < 9) (e : H' = wq_u H R k v) : FZ T H' R N H0 := by
  refine ⟨fun a t ht h1 h2 h3 => ?_, h.2.1, fun j h1 h2 => ?_⟩
  · rw [e]
    have h4 := h.2.1
    have : wq_u H R k v a = H a := funext (fun i => wq_u_na (by omega) i)
    rw [this]
    exact h.1 a t ht h1 h2 h3
  · rw [e, wq_u_ne (by omega)]
    exact h.2.2 j h1 h2
end MSREL
/-- arrays of the reference's own -/
abbrev MN20 := DA 20 44
abbrev MN21 := DA 21 45
abbrev MN26 := DA 26 50
def lup (Q : Nat → List (Int × Int)) (k : Nat) (P : List (Int × Int)) : Nat → List (Int × Int) := fun j => if j = k then P else Q j
def lln (Q : Nat → List (Int × Int)) : Nat → Int := fun j => (Q j).length
def LB (S tg : Nat) (T : wq_T) (H : wq_H) (m : Nat) (g : Nat → Int × Int → Int) (Q : Nat → List (Int × Int)) : Prop := ∃ b : Nat, H m S = (b : Int) ∧ T.2.2.2 b = some tg ∧ ∀ k i : Nat, ∀ x : Int × Int, k < 6 → i < 40 → (Q k)[i]? = some x → H b (40 * k + i) = g k x
abbrev LB22 := LB 22 46
abbrev LB23 := LB 23 47
abbrev LB24 := LB 24 48
abbrev LB25 := LB 25 49
def yb : Nat → Int × Int → Int := fun _ x => x.1
def yl : Nat → Int × Int → Int := fun _ x => x.2
section MNREL

variable {T T' : wq_T} {H H' : wq_H} {l : List (Nat × Nat)} {m b k S tg n : Nat} {c c' v : Int} {f : Nat → Int} {g : Nat → Int × Int → Int} {Q : Nat → List (Int × Int)} {x : Int × Int} {P : List (Int × Int)} {d : xD}
theorem MN20_fr (hW : WT T H) (gm : T.2.2.2 m = some 42) (f0 : wfr l T H H') (y : DAw 42 20 44 l = true) (h : MN20 T H m c f) : MN20 T H' m c f := DAo_fr gm f0 y h
theorem MN21_fr (hW : WT T H) (gm : T.2.2.2 m = some 42) (f0 : wfr l T H H') (y : DAw 42 21 45 l = true) (h : MN21 T H m c f) : MN21 T H' m c f := DAo_fr gm f0 y h
theorem MN26_fr (hW : WT T H) (gm : T.2.2.2 m = some 42) (f0 : wfr l T H H') (y : DAw 42 26 50 l = true) (h : MN26 T H m c f) : MN26 T H' m c f := DAo_fr gm f0 y h
theorem LB_fr (gm : T.2.2.2 m = some 42) (f0 : wfr l T H H') (y : DAw 42 S tg l = true) (h : LB S tg T H m g Q) : LB S tg T H' m g Q := by
  unfold DAw at y
  simp only [Bool.and_eq_true] at y
  obtain ⟨b, h1, h2, h3⟩ := h
  exact ⟨b, (wno_f f0 gm y.1 (by simp)).trans h1, h2, fun k i x a1 a2 a3 => (wno_f f0 h2 y.2 rfl).trans (h3 k i x a1 a2 a3)⟩
theorem LB22_fr (hW : WT T H) (gm : T.2.2.2 m = some 42) (f0 : wfr l T H H') (y : DAw 42 22 46 l = true) (h : LB22 T H m g Q) : LB22 T H' m g Q := LB_fr gm f0 y h
theorem LB23_fr (hW : WT T H) (gm : T.2.2.2 m = some 42) (f0 : wfr l T H H') (y : DAw 42 23 47 l = true) (h : LB23 T H m g Q) : LB23 T H' m g Q := LB_fr gm f0 y h
theorem LB24_fr (hW : WT T H) (gm : T.2.2.2 m = some 42) (f0 : wfr l T H H') (y : DAw 42 24 48 l = true) (h : LB24 T H m g Q) : LB24 T H' m g Q := LB_fr gm f0 y h
theorem LB25_fr (hW : WT T H) (gm : T.2.2.2 m = some 42) (f0 : wfr l T H H') (y : DAw 42 25 49 l = true) (h : LB25 T H m g Q) : LB25 T H' m g Q := LB_fr gm f0 y h
theorem lup_e : lup Q k P k = P := if_pos rfl
theorem lup_n {j : Nat} (h : j ≠ k) : lup Q k P j = Q j := if_neg h
/-- one more SPAN is laid -/
theorem LB_put (h : LB S tg T H m g Q) (e0 : H m S = (b : Int)) (gm : T.2.2.2 m = some 42) (gb : T.2.2.2 b = some tg) (ne : tg ≠ 42) (e : H' = wq_u H b n v) (hn : n = 40 * k + (Q k).length) (hl : (Q k).length < 40) (hv : v = g k x) : LB S tg T H' m g (lup Q k (Q k ++ [x])) := by
  obtain ⟨b', h1, h2, h3⟩ := h
  have hb : b' = b := by omega
  subst hb
  refine ⟨b', ?_, h2, fun j i y hj hi hy => ?_⟩
  · rw [e, wq_u_na (fun q => ?_)]
    · exact h1
    · subst q
      rw [gm] at gb
      exact ne (Option.some.inj gb).symm
  · by_cases q : j = k
    · subst q
      rw [lup_e] at hy
      by_cases q2 : i = (Q j).length
      · subst q2
        rw [List.getElem?_append_right (Nat.le_refl _), Nat.sub_self] at hy
        have hy : some x = some y := hy
        cases hy
        rw [e, hn, wq_u_eq, hv]
      · have hlt : i < (Q j).length := by
          by_cases q3 : i < (Q j).length
          · exact q3
          · rw [List.getElem?_eq_none (by rw [List.length_append]; simp only [List.length_cons, List.length_nil]; omega)] at hy
            cases hy
        rw [List.getElem?_append_left hlt] at hy
        rw [e, wq_u_ne (by omega)]
        exact h3 j i y hj hi hy
    · rw [lup_n q] at hy
      rw [e, wq_u_ne (fun c => by omega)]
      exact h3 j i y hj hi hy
theorem LB_cg {Q' : Nat → List (Int × Int)} (h : LB S tg T H m g Q) (e : ∀ k, Q' k = Q k ∨ Q' k = []) : LB S tg T H m g Q' := by
  obtain ⟨b, h1, h2, h3⟩ := h
  refine ⟨b, h1, h2, fun k i x a1 a2 a3 => ?_⟩
  rcases e k with q | q
  · rw [q] at a3
    exact h3 k i x a1 a2 a3
  · rw [q] at a3
    cases a3
theorem LB_0 (hW : WT T H) (he : ∃ b : Nat, H m S = (b : Int) ∧ T.2.2.2 b = some tg) : LB S tg T H m g (fun _ => []) := by
  obtain ⟨b, h1, h2⟩ := he
  exact ⟨b, h1, h2, fun k i x _ _ h => by cases h⟩
theorem lln_k : lln (lup Q k (Q k ++ [x])) k = (Q k).length + 1 ∧ ∀ j, j ≠ k → lln (lup Q k (Q k ++ [x])) j = lln Q j := by
  refine ⟨?_, fun j hj => ?_⟩
  · show ((lup Q k (Q k ++ [x]) k).length : Int) = _
    rw [lup_e, List.length_append]
    rfl
  · show ((lup Q k (Q k ++ [x]) j).length : Int) = _
    rw [lup_n hj]
    rfl
theorem DAo_0 (he : ∃ b : Nat, H m S = (b : Int) ∧ T.2.2.2 b = some tg) (hc : c ≤ 0) : DA S tg T H m c f := by
  obtain ⟨b, h1, h2⟩ := he
  exact ⟨b, h1, h2, fun k hk => by omega⟩
/-- the people's SPANS, none for others -/
def xsq (d : xD) : Nat → List (Int × Int) := fun k => if (k : Int) < d 0 3 then xsp d k else []
/-- people ahead of v have their SPANS, those behind none yet -/
def QO (d : xD) (Q : Nat → List (Int × Int)) (v : Int) : Prop := (∀ j : Nat, (j : Int) < v → Q j = xsp d j) ∧ ∀ j : Nat, v ≤ j → Q j = []
def QF (d : xD) (Q : Nat → List (Int × Int)) (v : Int) : Prop := (∀ j : Nat, (j : Int) < v → Q j = xsp d j) ∧ ∀ j : Nat, v < j → Q j = []
theorem QO_0 : QO d (fun _ => []) 0 := ⟨fun j hj => by omega, fun _ _ => rfl⟩
theorem QO_f (h : QO d Q c) (h0 : 0 ≤ c) : QF d Q c ∧ Q c.toNat = [] := ⟨⟨h.1, fun j hj => h.2 j (by omega)⟩, h.2 _ (by omega)⟩
theorem QF_l (h : QF d Q c) (h0 : 0 ≤ c) : QF d (lup Q c.toNat P) c := ⟨fun j hj => by rw [lup_n (by omega)]; exact h.1 j hj, fun j hj => by rw [lup_n (by omega)]; exact h.2 j hj⟩
theorem QF_o (h : QF d Q c) (e : Q c.toNat = xsp d c.toNat) (h0 : 0 ≤ c) : QO d Q (c + 1) := by
  refine ⟨fun j hj => ?_, fun j hj => h.2 j (by omega)⟩
  by_cases q : (j : Int) = c
  · rw [show j = c.toNat by omega]
    exact e
  · exact h.1 j (by omega)
theorem QO_ln (h : QO d Q c) (hb : DA 21 45 T H m c (lln Q)) : MN21 T H m c (lln (xsp d)) := by
  obtain ⟨b, h1, h2, h3⟩ := hb
  refine ⟨b, h1, h2, fun k hk => ?_⟩
  rw [h3 k hk]
  unfold lln
  rw [h.1 k hk]
theorem QO_lb (h : QO d Q c) (e : c = d 0 3) (hb : LB S tg T H m g Q) : LB S tg T H m g (xsq d) := by
  subst e
  refine LB_cg hb (fun k => ?_)
  by_cases q : (k : Int) < d 0 3
  · exact Or.inl ((if_pos q).trans (h.1 k q).symm)
  · exact Or.inr (if_neg q)
theorem QO_ls (h : QO d Q c) (e : c' = c) (hb : DA 21 45 T H m c (lln Q)) : MN21 T H m c' (lln (xsp d)) := by
  subst e
  exact QO_ln h hb
theorem all_ok_all : (List.range 25).all (fun n => decide (wq_w (wq_shl 1 n - 1) = xhs 0 n)) = true := by decide +kernel
theorem all_ok {n : Int} (h0 : 0 ≤ n) (h1 : n ≤ 24) : wq_w (wq_shl 1 n - 1) = xhs 0 n := by
  have h := List.all_eq_true.mp all_ok_all n.toNat (List.mem_range.mpr (by omega))
  simpa [Int.toNat_of_nonneg h0] using h
theorem bit_all : (List.range 25).all (fun n => (List.range 24).all (fun h => decide (wq_and (wq_shr (xhs 0 n) h) 1 = if h < n then 1 else 0))) = true := by decide +kernel
theorem bit_ok {n h : Int} (h0 : 0 ≤ n) (h1 : n ≤ 24) (h2 : 0 ≤ h) (h3 : h < 24) : (h < n ∧ wq_and (wq_shr (xhs 0 n) h) 1 = 1) ∨ (n ≤ h ∧ wq_and (wq_shr (xhs 0 n) h) 1 = 0) := by
  have q := List.all_eq_true.mp (List.all_eq_true.mp bit_all n.toNat (List.mem_range.mpr (by omega))) h.toNat (List.mem_range.mpr (by omega))
  simp only [decide_eq_true_eq, Int.toNat_of_nonneg h0, Int.toNat_of_nonneg h2] at q
  by_cases c : h < n
  · rw [if_pos (by omega)] at q
    exact Or.inl ⟨c, q⟩
  · rw [if_neg (by omega)] at q
    exact Or.inr ⟨by omega, q⟩
theorem xcu_at {f : Nat → Int} {n h : Int} (h0 : 0 ≤ h) (h2 : h < 24) : (h < n ∧ xcu f n 24 h.toNat = f h.toNat) ∨ (n ≤ h ∧ xcu f n 24 h.toNat = 0) := by
  unfold xcu
  by_cases c : h < n
  · exact Or.inl ⟨c, if_neg (by omega)⟩
  · exact Or.inr ⟨by omega, if_pos (by omega)⟩
end MNREL
/-- the state between calls: no PARISH, or one -/
def RP (T : wq_T) (H : wq_H) (m mp : Nat) (e d : xD) : Prop := T.2.2.2 mp = some 54 ∧ (∃ dm, DMQ T H mp dm ∧ d = xset dm) ∧ H m 19 = xal d ∧ MN20 T H m 24 (e 13) ∧ MN21 T H m (d 0 3) (lln (xsp d)) ∧ LB22 T H m yb (xsq d) ∧ LB23 T H m yl (xsq d) ∧ LB24 T H m (xas d) (xsq d) ∧ LB25 T H m (xwk d) (xsq d)
def RB (T : wq_T) (H : wq_H) (m : Nat) (e d : xD) : Prop := (H m 3 = -1 ∧ e = xD0 ∧ d = xD0) ∨ ∃ mp : Nat, H m 3 = (mp : Int) ∧ RP T H m mp e d
/-- and what is SAID, the CURSOR -/
def RY (T : wq_T) (H : wq_H) (m : Nat) (n : Int) (g : Nat → Int) (c : Int) : Prop := MN26 T H m n g ∧ H m 32 = c
def RBx (l : List (Nat × Nat)) : Bool := DMQx l && wno l 42 (fun j => decide (j = 3 ∨ j = 19 ∨ j = 20 ∨ j = 21 ∨ j = 22 ∨ j = 23 ∨ j = 24 ∨ j = 25)) && (wno l 44 (fun _ => true) && wno l 45 (fun _ => true) && wno l 46 (fun _ => true) && wno l 47 (fun _ => true) && wno l 48 (fun _ => true) && wno l 49 (fun _ => true))
section RBREL

variable {T T' : wq_T} {H H' : wq_H} {l : List (Nat × Nat)} {m mp : Nat} {e d : xD} {g : Nat → Int} {c n : Int}
theorem DA_w {o S tg : Nat} {s : Nat → Bool} (h1 : wno l o s = true) (hs : s S = true) (h2 : wno l tg (fun _ => true) = true) : DAw o S tg l = true := by
  unfold DAw
  rw [Bool.and_eq_true]
  exact ⟨wno_le h1 (fun j hj => by rw [of_decide_eq_true hj]; exact hs), h2⟩
theorem RB_fr (hW : WT T H) (gm : T.2.2.2 m = some 42) (f : wfr l T H H') (x : RBx l = true) (h : RB T H m e d) : RB T H' m e d := by
  unfold RBx at x
  simp only [Bool.and_eq_true] at x
  obtain ⟨⟨x1, x2⟩, ⟨⟨⟨⟨⟨y44, y45⟩, y46⟩, y47⟩, y48⟩, y49⟩⟩ := x
  rcases h with ⟨h1, h2⟩ | ⟨mp, h1, h2, ⟨dm, h3, h4⟩, h5, h6, h7, h8, h9, h10, h11⟩
  · exact Or.inl ⟨(wno_f f gm x2 (j := 3) rfl).trans h1, h2⟩
  · exact Or.inr ⟨mp, (wno_f f gm x2 (j := 3) rfl).trans h1, h2, ⟨dm, DMQ_fr hW h2 f x1 h3, h4⟩, (wno_f f gm x2 (j := 19) rfl).trans h5, DAo_fr gm f (DA_w x2 rfl y44) h6, DAo_fr gm f (DA_w x2 rfl y45) h7, LB_fr gm f (DA_w x2 rfl y46) h8, LB_fr gm f (DA_w x2 rfl y47) h9, LB_fr gm f (DA_w x2 rfl y48) h10, LB_fr gm f (DA_w x2 rfl y49) h11⟩
/-- over more cells, all that was there as it was -/
theorem RB_mono (mo : ∀ a t, T.2.2.2 a = some t → T'.2.2.2 a = some t) (em : ∀ j, (j = 3 ∨ j = 19 ∨ j = 20 ∨ j = 21 ∨ j = 22 ∨ j = 23 ∨ j = 24 ∨ j = 25 ∨ j = 26 ∨ j = 32) → H' m j = H m j) (ho : ∀ a t, T.2.2.2 a = some t → 44 ≤ t → t ≤ 72 → H' a = H a) (h : RB T H m e d) : RB T' H' m e d := by
  have da : ∀ {S tg : Nat} {c : Int} {f : Nat → Int}, H' m S = H m S → 44 ≤ tg → tg ≤ 72 → DA S tg T H m c f → DA S tg T' H' m c f := fun es t1 t2 ⟨b, h1, h2, h3⟩ => ⟨b, es.trans h1, mo _ _ h2, by rw [ho b _ h2 t1 t2]; exact h3⟩
  have lb : ∀ {S tg : Nat} {g : Nat → Int × Int → Int} {Q : Nat → List (Int × Int)}, H' m S = H m S → 44 ≤ tg → tg ≤ 72 → LB S tg T H m g Q → LB S tg T' H' m g Q := fun es t1 t2 ⟨b, h1, h2, h3⟩ => ⟨b, es.trans h1, mo _ _ h2, by rw [ho b _ h2 t1 t2]; exact h3⟩
  rcases h with ⟨h1, h2⟩ | ⟨mp, h1, h2, ⟨dm, h3, h4⟩, h5, h6, h7, h8, h9, h10, h11⟩
  · exact Or.inl ⟨(em 3 (by omega)).trans h1, h2⟩
  · exact Or.inr ⟨mp, (em 3 (by omega)).trans h1, mo _ _ h2, ⟨dm, DMQ_mono mo (DMQ_mv h2 (fun a t ht t1 t2 => ho a t ht (by omega) t2) h3), h4⟩, (em 19 (by omega)).trans h5, da (em 20 (by omega)) (by decide) (by decide) h6, da (em 21 (by omega)) (by decide) (by decide) h7, lb (em 22 (by omega)) (by decide) (by decide) h8, lb (em 23 (by omega)) (by decide) (by decide) h9, lb (em 24 (by omega)) (by decide) (by decide) h10, lb (em 25 (by omega)) (by decide) (by decide) h11⟩
theorem RB_at (h : RB T H m e d) (q : H m 3 = (mp : Int)) : RP T H m mp e d := by
  rcases h with ⟨h1, -⟩ | ⟨p, h1, h2⟩
  · omega
  · have : p = mp := by omega
    subst this
    exact h2
theorem RB_nu (h : RB T H m e d) (q : H m 3 = -1) : e = xD0 ∧ d = xD0 := by
  rcases h with ⟨-, h1⟩ | ⟨p, h1, -⟩
  · exact h1
  · omega
theorem RP_k (h : RP T H m mp e d) : H mp 0 = d 0 0 ∧ H mp 3 = d 0 3 ∧ H mp 4 = d 0 4 ∧ H mp 5 = d 0 5 ∧ H mp 6 = d 0 6 ∧ H mp 7 = d 0 7 ∧ H mp 8 = d 0 8 ∧ H mp 1 = d 0 1 ∧ H mp 2 = d 0 2 ∧ H m 19 = xal d ∧ xdP d := by
  obtain ⟨-, ⟨dm, ⟨⟨h0, h1, h2, h3, h4, h5, h6, h7, h8, -⟩, hp, -⟩, rfl⟩, h9, -⟩ := h
  exact ⟨h0, h3, h4, h5, h6, h7, h8, h1, h2, h9, xdP_set hp⟩
end RBREL
/-- what stays where a text doesn't go well -/
def ML (T : wq_T) (H : wq_H) (m : Nat) (H0 : wq_H) : Prop := (∀ j, (j = 3 ∨ j = 19 ∨ j = 20 ∨ j = 21 ∨ j = 22 ∨ j = 23 ∨ j = 24 ∨ j = 25 ∨ j = 26 ∨ j = 32) → H m j = H0 m j) ∧ ∀ a t, T.2.2.2 a = some t → 44 ≤ t → t ≤ 53 → H a = H0 a
def MLx (l : List (Nat × Nat)) : Bool := wno l 42 (fun j => decide (j = 3 ∨ j = 19 ∨ j = 20 ∨ j = 21 ∨ j = 22 ∨ j = 23 ∨ j = 24 ∨ j = 25 ∨ j = 26 ∨ j = 32)) && (List.range 10).all (fun i => wno l (44 + i) (fun _ => true))
def MO_ (T : wq_T) (H : wq_H) (m : Nat) (H0 : wq_H) : Prop := ML T H m H0 ∧ ∀ a t, T.2.2.2 a = some t → 54 ≤ t → t ≤ 72 → H a = H0 a
def MO_x (l : List (Nat × Nat)) : Bool := MLx l && DMQx l
section MLREL

variable {T T' : wq_T} {H H' H0 : wq_H} {l : List (Nat × Nat)} {m : Nat} {e d : xD} {g : Nat → Int} {c n : Int}
theorem ML_0 : ML T H m H := ⟨fun _ _ => rfl, fun _ _ _ _ _ => rfl⟩
theorem MO_0 : MO_ T H m H := ⟨ML_0, fun _ _ _ _ _ => rfl⟩
theorem ML_fr (hW : WT T H) (gm : T.2.2.2 m = some 42) (f : wfr l T H H') (x : MLx l = true) (h : ML T H m H0) : ML T H' m H0 := by
  unfold MLx at x
  rw [Bool.and_eq_true] at x
  refine ⟨fun j hj => (wno_f f gm x.1 (decide_eq_true hj)).trans (h.1 j hj), fun a t ht h1 h2 => ?_⟩
  rw [← h.2 a t ht h1 h2]
  funext j
  have := List.all_eq_true.mp x.2 (t - 44) (List.mem_range.mpr (by omega))
  rw [show 44 + (t - 44) = t by omega] at this
  exact wno_f f ht this rfl
theorem MO__fr (hW : WT T H) (gm : T.2.2.2 m = some 42) (f : wfr l T H H') (x : MO_x l = true) (h : MO_ T H m H0) : MO_ T H' m H0 := by
  unfold MO_x at x
  rw [Bool.and_eq_true] at x
  exact ⟨ML_fr hW gm f x.1 h.1, fun a t ht h1 h2 => (fam_same f x.2 a t ht h1 h2).trans (h.2 a t ht h1 h2)⟩
theorem MO_tr {Hc H9 : wq_H} {n : Nat} (mo : ∀ a t, T.2.2.2 a = some t → T'.2.2.2 a = some t) (hb : ∀ a t, T.2.2.2 a = some t → a < n) (gm : T.2.2.2 m = some 42) (o9 : ∀ a, a < n → H9 a = Hc a) (h : MO_ T Hc m H0) (k : ML T' H' m H9) (f : ∀ a t, T'.2.2.2 a = some t → 54 ≤ t → t ≤ 72 → a < n → H' a = H9 a) : MO_ T H' m H0 := by
  refine ⟨⟨fun j hj => ?_, fun a t ht h1 h2 => ?_⟩, fun a t ht h1 h2 => ?_⟩
  · rw [k.1 j hj, o9 m (hb m 42 gm)]
    exact h.1.1 j hj
  · rw [k.2 a t (mo a t ht) h1 h2, o9 a (hb a t ht)]
    exact h.1.2 a t ht h1 h2
  · rw [f a t (mo a t ht) h1 h2 (hb a t ht), o9 a (hb a t ht)]
    exact h.2 a t ht h1 h2
theorem MO_all (k : MO_ T H' m H) : ∀ a t, T.2.2.2 a = some t → 44 ≤ t → t ≤ 72 → H' a = H a := fun a t ht h1 h2 => by
  by_cases q : t ≤ 53
  · exact k.1.2 a t ht h1 q
  · exact k.2 a t ht (by omega) h2
theorem RB_keep (mo : ∀ a t, T.2.2.2 a = some t → T'.2.2.2 a = some t) (k : MO_ T H' m H) (h : RB T H m e d) : RB T' H' m e d := RB_mono mo k.1.1 (MO_all k) h
end MLREL
end
section
/-! WHAT IS ASKED OF SPANS (own work): the state between calls, seen from a method; over more cells -/
section MORE6

variable {T T' : wq_T} {H H' : wq_H} {m b k mp r s i S tg : Nat} {e d : xD} {v v' n z : Int} {k' : Nat} {C : Nat → Bool} {x p : Nat} {P : List (Int × Int)} {g : Nat → Int × Int → Int}
theorem RB_n3 (h : RB T H m e d) : H m 3 = -1 → d 0 3 = 0 ∧ d 0 0 = 0 := fun q => by
  obtain ⟨h1, h2⟩ := RB_nu h q
  subst h2
  exact ⟨rfl, rfl⟩
theorem RB_ar (h : RB T H m e d) (q : H m 3 ≠ -1) : xdP d ∧ H m 19 = xal d ∧ MN20 T H m 24 (e 13) ∧ MN21 T H m (d 0 3) (lln (xsp d)) ∧ LB22 T H m yb (xsq d) ∧ LB23 T H m yl (xsq d) ∧ LB24 T H m (xas d) (xsq d) ∧ LB25 T H m (xwk d) (xsq d) := by
  rcases h with ⟨h1, -⟩ | ⟨mp, h1, h2, ⟨dm, h3, h4⟩, h5⟩
  · exact absurd h1 q
  · exact ⟨by rw [h4]; exact xdP_set h3.2.1, h5⟩
theorem RB_b (hW : WT T H) (h : RB T H m e d) : 0 ≤ d 0 3 ∧ d 0 3 ≤ 6 ∧ 0 ≤ d 0 0 ∧ d 0 0 ≤ 24 := by
  rcases h with ⟨h1, -, h2⟩ | ⟨mp, h1, h2, ⟨dm, ⟨h3, -⟩, h4⟩, h5⟩
  · subst h2
    decide
  · have e0 : H mp 0 = d 0 0 := by rw [h4]; exact h3.1
    have e3 : H mp 3 = d 0 3 := by rw [h4]; exact h3.2.2.2.1
    have b3 : (0 : Int) ≤ H mp 3 ∧ H mp 3 ≤ 6 := hW.box h2 (n := 27) rfl (by decide) rfl
    have b0 : (0 : Int) ≤ H mp 0 ∧ H mp 0 ≤ 24 := hW.box h2 (n := 27) rfl (by decide) rfl
    omega
theorem RB_st (hW : WT T H) (h : RB T H m e d) (ne : H m 3 ≠ -1) (gm : T.2.2.2 m = some 42) (q : H m 20 = (b : Int)) (gb : T.2.2.2 b = some 44) (E : H' = wq_u H b k v) (ek : k = k') (ev : v = v') : RB T H' m (wq_u e 13 k' v') d := by
  subst ek
  subst ev
  have f : wfr [(44, 999)] T H H' := (wfr.rf (l := [(44, 999)])).put' E gb rfl
  rcases h with ⟨h1, -⟩ | ⟨mp, h1, h2, ⟨dm, h3, h4⟩, h5, h6, h7, h8, h9, h10, h11⟩
  · exact absurd h1 ne
  · have w : ∀ j, H' m j = H m j := fun j => wno_f f gm (s := fun _ => true) rfl rfl
    refine Or.inr ⟨mp, (w 3).trans h1, h2, ⟨dm, DMQ_fr hW h2 f rfl h3, h4⟩, (w 19).trans h5, DAo_set h6 q gm gb (by decide) E wq_u_eq (fun j hj => wq_u_e2 (fun c => hj c.2)), DAo_fr gm f rfl h7, LB_fr gm f rfl h8, LB_fr gm f rfl h9, LB_fr gm f rfl h10, LB_fr gm f rfl h11⟩
theorem RP_17 (h : RP T H m mp e d) : MA17 T H mp (d 9) := by
  obtain ⟨-, ⟨dm, h3, rfl⟩, -⟩ := h
  exact h3.2.2.2.2.2.2.2.2.2.2.1
/-- over more cells -/
theorem DA_mono {c : Int} {f : Nat → Int} (mo : ∀ a t, T.2.2.2 a = some t → T'.2.2.2 a = some t) (h : DA S tg T H r c f) : DA S tg T' H r c f := by
  obtain ⟨b, h1, h2, h3⟩ := h
  exact ⟨b, h1, mo _ _ h2, h3⟩
theorem DC_mono (mo : ∀ a t, T.2.2.2 a = some t → T'.2.2.2 a = some t) (h : DC T H r d) : DC T' H r d := by
  obtain ⟨h1, ⟨h2, h2b⟩, ⟨s, h3, h3b, h3c⟩, ⟨b, h4, h4b, h4c⟩, h5, h6, h7, h8⟩ := h
  refine ⟨h1, ⟨fun k hk => ?_, h2b⟩, ⟨s, h3, mo _ _ h3b, h3c⟩, ⟨b, h4, mo _ _ h4b, h4c⟩, DA_mono mo h5, DA_mono mo h6, DA_mono mo h7, DA_mono mo h8⟩
  obtain ⟨p, h9, h10, h11⟩ := h2 k hk
  exact ⟨p, h9, mo _ _ h10, h11⟩
theorem PS_mono (mo : ∀ a t, T.2.2.2 a = some t → T'.2.2.2 a = some t) (h : PS T H p d k P) : PS T' H p d k P := by
  obtain ⟨h0, h1, h2, h3, h4, h5, h6⟩ := h
  exact ⟨h0, DA_mono mo h1, DA_mono mo h2, DA_mono mo h3, DA_mono mo h4, DA_mono mo h5, DA_mono mo h6⟩
theorem CU_mono (mo : ∀ a t, T.2.2.2 a = some t → T'.2.2.2 a = some t) (h : CU T H r e d n) : CU T' H r e d n := by
  obtain ⟨h1, ⟨h2, h3⟩, h4⟩ := h
  refine ⟨DC_mono mo h1, ⟨h2, fun k a b => ?_⟩, h4⟩
  obtain ⟨p, q1, q2, q3, q4⟩ := h3 k a b
  exact ⟨p, q1, mo _ _ q2, PS_mono mo q3, q4⟩
theorem SP_mono (rv : ∀ a t, T'.2.2.2 a = some t → T.2.2.2 a = some t ∨ 54 ≤ t) (h : SP T H x C) : SP T' H x C := fun a t j ht hj => by
  rcases rv a t ht with h1 | h1
  · exact h a t j h1 hj
  · omega
theorem xset_z {h : Nat} (h1 : d 0 0 ≤ (h : Int)) (h2 : h < 24) : xset d 13 h = 0 := by
  rw [xset_13]
  unfold xcu
  exact if_pos ⟨h1, by omega⟩
theorem CY_0 : CY T H r 0 (fun _ => 0) (H r 17) := ⟨fun k hk => by omega, rfl⟩
end MORE6
end
section
/-! WHO IS AWAY, by what is settled (own work) -/
theorem XLH_cu {T : wq_T} {H : wq_H} {x r : Nat} {e d : xD} {n i : Int} (e0 : H x 6 = (r : Int)) (h : CU T H r e d n) (hE : ∀ j, j ≠ 13 → e j = d j) : XLH H x i = xled (d 9) i 0 (d 0 3).toNat 0 := by
  have k3 : e 0 3 = d 0 3 := congrFun (hE 0 (by decide)) 3
  have k9 : e 9 = d 9 := hE 9 (by decide)
  obtain ⟨h1, ⟨h2, -⟩, -⟩ := h.1
  have k10 : H r 10 = e 0 3 := h1.2.2.2.1
  unfold XLH
  rw [e0, Int.toNat_natCast, k10, k3]
  refine xled_cg _ _ _ (fun j _ hj => ?_)
  obtain ⟨p, q1, -, q3⟩ := h2 j (by omega)
  unfold XLF
  rw [e0, Int.toNat_natCast, q1, Int.toNat_natCast, ← k9]
  exact q3.2.2.2.2.2.2.2.1
/-- what the helper answers, what it leaves -/
def wlE (H H' : wq_H) (x o : Nat) (z z' : Int) : Prop := ((z' = 0 ∧ H' o 0 = XLH H' x z ∧ 0 ≤ XLH H' x z) ∨ (z' = 1 ∧ XLH H' x z = -1)) ∧ ∀ j, H' 0 j = H 0 j
end
