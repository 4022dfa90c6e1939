/-! A PARISH OF THE CLASS, SETTLED (own work): its people's SPANS, what is SAID, where it was sought -/
/-- how a LOT's number grows with a person's SPANS: m people from k on -/
def xpr (d : xD) : Nat → Nat → Int
  | _, 0 => 1
  | k, m + 1 => (xsp d k).length * xpr d (k + 1) m
def xlots (d : xD) : Int := xpr d 0 (d 0 3).toNat
theorem xpr_b {d : xD} (h : xdP d) : ∀ (m k : Nat), 0 ≤ xpr d k m ∧ xpr d k m ≤ 40 ^ m
  | 0, _ => ⟨by show (0 : Int) ≤ 1; decide, by show (1 : Int) ≤ 1; decide⟩
  | m + 1, k => by
    have h1 := xpr_b h m (k + 1)
    have h2 := @xsp_len d k h
    show 0 ≤ (xsp d k).length * xpr d (k + 1) m ∧ ((xsp d k).length : Int) * xpr d (k + 1) m ≤ 40 ^ (m + 1)
    refine ⟨Int.mul_nonneg (by omega) h1.1, ?_⟩
    rw [Int.pow_succ, Int.mul_comm (40 ^ m)]
    exact Int.mul_le_mul (by omega) h1.2 h1.1 (by omega)
/-- people from i on have their SPANS -/
def PQ (T : wq_T) (H : wq_H) (p : Nat) (d : xD) (k : Nat) : Prop := PS T H p d k (xsp d k) ∧ H p 17 = wq_w (xpr d (k + 1) ((d 0 3).toNat - (k + 1)))
def CS (T : wq_T) (H : wq_H) (r : Nat) (d : xD) (i : Int) : Prop := xdP d ∧ ∀ k : Nat, i ≤ k → (k : Int) < d 0 3 → ∃ p : Nat, H (H r 0).toNat k = (p : Int) ∧ T.2.2.2 p = some 35 ∧ PQ T H p d k
/-- what is SAID -/
def CG (T : wq_T) (H : wq_H) (r : Nat) (n : Int) (g : Nat → Int) : Prop := ∀ k : Nat, (k : Int) < n → ∃ p : Nat, H (H r 0).toNat k = (p : Int) ∧ T.2.2.2 p = some 35 ∧ H p 16 = g k
def CSx (l : List (Nat × Nat)) : Bool := wno l 27 (fun j => decide (j = 0)) && wno l 28 (fun _ => true) && (PSx l && wno l 35 (fun j => decide (j = 17)))
def CGx (l : List (Nat × Nat)) : Bool := wno l 27 (fun j => decide (j = 0)) && wno l 28 (fun _ => true) && wno l 35 (fun j => decide (j = 16))
section CREL

variable {T : wq_T} {H H' : wq_H} {l : List (Nat × Nat)} {r p q k : Nat} {d : xD} {i n v : Int} {g : Nat → Int}
theorem PQ_fr (hW : WT T H) (gp : T.2.2.2 p = some 35) (f : wfr l T H H') (x : (PSx l && wno l 35 (fun j => decide (j = 17))) = true) (h : PQ T H p d k) : PQ T H' p d k := by
  rw [Bool.and_eq_true] at x
  exact ⟨PS_fr hW gp f x.1 h.1, (wno_f f gp x.2 rfl).trans h.2⟩
theorem CS_fr (hW : WT T H) (gr : T.2.2.2 r = some 27) (f : wfr l T H H') (x : CSx l = true) (h : CS T H r d i) : CS T H' r d i := by
  unfold CSx at x
  rw [Bool.and_eq_true, Bool.and_eq_true] at x
  refine ⟨h.1, fun k hi hk => ?_⟩
  obtain ⟨p, h1, h2, h3⟩ := h.2 k hi hk
  exact ⟨p, (pa_fr hW gr f x.1.1 x.1.2 k).trans h1, h2, PQ_fr hW h2 f x.2 h3⟩
theorem CG_fr (hW : WT T H) (gr : T.2.2.2 r = some 27) (f : wfr l T H H') (x : CGx l = true) (h : CG T H r n g) : CG T H' r n g := by
  unfold CGx at x
  rw [Bool.and_eq_true, Bool.and_eq_true] at x
  intro k hk
  obtain ⟨p, h1, h2, h3⟩ := h k hk
  exact ⟨p, (pa_fr hW gr f x.1.1 x.1.2 k).trans h1, h2, (wno_f f h2 x.2 rfl).trans h3⟩
theorem CS_at {pa : Nat} (h : CS T H r d i) (e0 : H r 0 = (pa : Int)) (e1 : H pa k = (p : Int)) (hi : i ≤ k) (hk : (k : Int) < d 0 3) : PS T H p d k (xsp d k) ∧ H p 17 = wq_w (xpr d (k + 1) ((d 0 3).toNat - (k + 1))) := by
  obtain ⟨b, h1, -, h3⟩ := h.2 k hi hk
  rw [e0, Int.toNat_natCast, e1] at h1
  have : p = b := by omega
  subst this
  exact h3
end CREL
section CZREL

variable {T : wq_T} {H H' : wq_H} {l : List (Nat × Nat)} {r p q k : Nat} {d : xD} {i n n' v : Int} {g : Nat → Int} {C : Nat → Bool} {x : Nat}
theorem xpr_i {k : Nat} (h : (k : Int) < d 0 3) : xpr d k ((d 0 3).toNat - k) = (xsp d k).length * xpr d (k + 1) ((d 0 3).toNat - (k + 1)) := by
  rw [show (d 0 3).toNat - k = ((d 0 3).toNat - (k + 1)) + 1 by omega]
  rfl
theorem xdP_set (h : xdP d) : xdP (xset d) := xdP_cg h (fun i h1 h2 => xset_o (by omega))
/-- the state between calls: what is told, what is struck now, SPANS, LOTS -/
def CU (T : wq_T) (H : wq_H) (r : Nat) (e d : xD) (n : Int) : Prop := DC T H r e ∧ CS T H r d 0 ∧ H r 18 = n
/-- and what is SAID, the CURSOR -/
def CY (T : wq_T) (H : wq_H) (r : Nat) (n : Int) (g : Nat → Int) (c : Int) : Prop := CG T H r n g ∧ H r 17 = c
def CUx (l : List (Nat × Nat)) : Bool := DCx l && CSx l && wno l 27 (fun j => decide (j = 18))
def CYx (l : List (Nat × Nat)) : Bool := CGx l && wno l 27 (fun j => decide (j = 17))
theorem CU_fr {e : xD} (hW : WT T H) (gr : T.2.2.2 r = some 27) (f : wfr l T H H') (y : CUx l = true) (h : CU T H r e d n) : CU T H' r e d n := by
  unfold CUx at y
  simp only [Bool.and_eq_true] at y
  obtain ⟨h1, h2, h3⟩ := h
  exact ⟨DC_fr hW gr f y.1.1 h1, CS_fr hW gr f y.1.2 h2, (wno_f f gr y.2 (j := 18) rfl).trans h3⟩
theorem CY_fr {c : Int} (hW : WT T H) (gr : T.2.2.2 r = some 27) (f : wfr l T H H') (y : CYx l = true) (h : CY T H r n g c) : CY T H' r n g c := by
  unfold CYx at y
  rw [Bool.and_eq_true] at y
  exact ⟨CG_fr hW gr f y.1 h.1, (wno_f f gr y.2 (j := 17) rfl).trans h.2⟩
theorem CU_k {e : xD} (h : CU T H r e d n) : H r 7 = e 0 0 ∧ H r 8 = e 0 1 ∧ H r 9 = e 0 2 ∧ H r 10 = e 0 3 ∧ H r 11 = e 0 4 ∧ H r 12 = e 0 5 ∧ H r 13 = e 0 6 ∧ H r 14 = e 0 7 ∧ -1 ≤ e 0 8 ∧ e 0 8 ≤ 5 ∧ H r 15 = xsx (e 0 8) ∧ H r 16 = xcn (e 13) 24 ∧ 0 ≤ e 0 3 ∧ e 0 3 ≤ 6 ∧ 0 ≤ e 0 4 ∧ e 0 4 ≤ 3 ∧ H r 18 = n := by
  have := DC_k h.1
  obtain ⟨-, -, h5⟩ := h
  omega
end CZREL
