/-! RELATIONS (own work): what a PARISH of the StrikeAwake has been told -/
def xsx (z : Int) : Int := if z = -1 then -2 else z
theorem xsx_e {z : Int} : (z = -1 ∧ xsx z = -2) ∨ (z ≠ -1 ∧ xsx z = z) := by
  unfold xsx
  split <;> omega
def DSm (H : wq_H) (r : Nat) (d : xD) : Prop := H r 7 = d 0 0 ∧ H r 8 = d 0 1 ∧ H r 9 = d 0 2 ∧ H r 10 = d 0 3 ∧ H r 11 = d 0 4 ∧ H r 12 = d 0 5 ∧ H r 13 = d 0 6 ∧ H r 14 = d 0 7 ∧ -1 ≤ d 0 8 ∧ d 0 8 ≤ 5 ∧ H r 15 = xsx (d 0 8) ∧ H r 16 = xcn (d 13) 24 ∧ 0 ≤ d 0 3 ∧ d 0 3 ≤ 6 ∧ 0 ≤ d 0 4 ∧ d 0 4 ≤ 3
def PF (H : wq_H) (p : Nat) (d : xD) (k : Nat) : Prop := H p 6 = d 1 k ∧ H p 7 = d 2 k ∧ H p 8 = d 3 k ∧ H p 9 = d 4 k ∧ H p 10 = d 5 k ∧ H p 11 = d 6 k ∧ H p 12 = xhs (d 7 k) (d 8 k) ∧ H p 13 = d 9 k ∧ 0 ≤ H p 14 ∧ H p 14 ≤ 63 ∧ ∀ j : Nat, j < 6 → wq_and (wq_shr (H p 14) j) 1 = xagf d k j (d 0 4).toNat
def DQ (T : wq_T) (H : wq_H) (r : Nat) (d : xD) : Prop := (∀ k : Nat, (k : Int) < d 0 3 → ∃ p : Nat, H (H r 0).toNat k = (p : Int) ∧ T.2.2.2 p = some 35 ∧ PF H p d k) ∧ ∀ k : Nat, (k : Int) < d 0 4 → 0 ≤ d 10 k ∧ d 10 k < d 0 3 ∧ 0 ≤ d 11 k ∧ d 11 k < d 0 3
/-- HOURS struck: f, one more; in the order of the day the list -/
def ST (T : wq_T) (H : wq_H) (r : Nat) (f : Nat → Int) : Prop := ∃ s : Nat, H r 1 = (s : Int) ∧ T.2.2.2 s = some 29 ∧ ∀ k : Nat, k < 24 → 0 ≤ f k ∧ f k ≤ 100 ∧ H s k = if f k > 0 then f k - 1 else -2
def SV (T : wq_T) (H : wq_H) (r : Nat) (f : Nat → Int) (i : Int) : Prop := ∃ b : Nat, H r 2 = (b : Int) ∧ T.2.2.2 b = some 30 ∧ ∀ k : Nat, (k : Int) < i → f k > 0 → H b (xcn f k).toNat = k
/-- an array of a PARISH, as far as it is filled -/
def DA (S tg : Nat) (T : wq_T) (H : wq_H) (r : Nat) (c : Int) (f : Nat → Int) : Prop := ∃ b : Nat, H r S = (b : Int) ∧ T.2.2.2 b = some tg ∧ ∀ k : Nat, (k : Int) < c → H b k = f k
abbrev DA3 := DA 3 31
abbrev DA4 := DA 4 32
abbrev DA5 := DA 5 33
abbrev DA6 := DA 6 34
def DC (T : wq_T) (H : wq_H) (r : Nat) (d : xD) : Prop := DSm H r d ∧ DQ T H r d ∧ ST T H r (d 13) ∧ SV T H r (d 13) 24 ∧ DA3 T H r (d 0 5) (d 12) ∧ DA4 T H r (d 0 6) (d 14) ∧ DA5 T H r (d 0 6) (d 15) ∧ DA6 T H r (d 0 7) (d 16)
def wno (l : List (Nat × Nat)) (t : Nat) (s : Nat → Bool) : Bool := l.all (fun q => !(q.1 == t && (q.2 == 999 || s q.2)))
theorem wno_m {l : List (Nat × Nat)} {t j : Nat} {s : Nat → Bool} (h : wno l t s = true) (hj : s j = true) : wmem l t j = false := by
  refine wmem_no (fun q hq hh => ?_)
  have h1 := List.all_eq_true.mp h q hq
  rcases hh.2 with h2 | h2 <;> simp [hh.1, h2, hj] at h1
def DSx (l : List (Nat × Nat)) : Bool := wno l 27 (fun j => decide (7 ≤ j ∧ j ≤ 16))
def DQx (l : List (Nat × Nat)) : Bool := wno l 27 (fun j => decide (j = 0)) && wno l 28 (fun _ => true) && wno l 35 (fun j => decide (6 ≤ j ∧ j ≤ 14))
def STx (l : List (Nat × Nat)) : Bool := wno l 27 (fun j => decide (j = 1)) && wno l 29 (fun _ => true)
def SVx (l : List (Nat × Nat)) : Bool := wno l 27 (fun j => decide (j = 2)) && wno l 30 (fun _ => true)
def DAx (S tg : Nat) (l : List (Nat × Nat)) : Bool := wno l 27 (fun j => decide (j = S)) && wno l tg (fun _ => true)
def DCx (l : List (Nat × Nat)) : Bool := DSx l && DQx l && STx l && SVx l && DAx 3 31 l && DAx 4 32 l && DAx 5 33 l && DAx 6 34 l
section DREL

variable {T : wq_T} {H H' : wq_H} {l : List (Nat × Nat)} {r : Nat} {d d' : xD}
theorem wno_f {a t j : Nat} {s : Nat → Bool} (f : wfr l T H H') (g : T.2.2.2 a = some t) (x : wno l t s = true) (hj : s j = true) : H' a j = H a j := f a j t g (wno_m x hj)
theorem DS_fr (g : T.2.2.2 r = some 27) (f : wfr l T H H') (x : DSx l = true) (h : DSm H r d) : DSm H' r d := by
  unfold DSm
  rw [wno_f f g x (j := 7) rfl, wno_f f g x (j := 8) rfl, wno_f f g x (j := 9) rfl, wno_f f g x (j := 10) rfl, wno_f f g x (j := 11) rfl, wno_f f g x (j := 12) rfl, wno_f f g x (j := 13) rfl, wno_f f g x (j := 14) rfl, wno_f f g x (j := 15) rfl, wno_f f g x (j := 16) rfl]
  exact h
theorem PF_fr {p k : Nat} (g : T.2.2.2 p = some 35) (f : wfr l T H H') (x : wno l 35 (fun j => decide (6 ≤ j ∧ j ≤ 14)) = true) (h : PF H p d k) : PF H' p d k := by
  unfold PF
  rw [wno_f f g x (j := 6) rfl, wno_f f g x (j := 7) rfl, wno_f f g x (j := 8) rfl, wno_f f g x (j := 9) rfl, wno_f f g x (j := 10) rfl, wno_f f g x (j := 11) rfl, wno_f f g x (j := 12) rfl, wno_f f g x (j := 13) rfl, wno_f f g x (j := 14) rfl]
  exact h
theorem pa_fr (hW : WT T H) (g : T.2.2.2 r = some 27) (f : wfr l T H H') (x1 : wno l 27 (fun j => decide (j = 0)) = true) (x2 : wno l 28 (fun _ => true) = true) (k : Nat) : H' (H' r 0).toNat k = H (H r 0).toNat k := by
  rw [wno_f f g x1 (j := 0) rfl]
  obtain ⟨pa, h1, h2⟩ := hW.ref g (t' := 28) (n := 19) (j := 0) (p := 0) (q := 0) rfl (by decide) rfl
  rw [h1, Int.toNat_natCast]
  exact wno_f f h2 x2 rfl
theorem DQ_fr (hW : WT T H) (g : T.2.2.2 r = some 27) (f : wfr l T H H') (x : DQx l = true) (h : DQ T H r d) : DQ T H' r d := by
  unfold DQx at x
  simp only [Bool.and_eq_true] at x
  refine ⟨fun k hk => ?_, h.2⟩
  obtain ⟨p, h1, h2, h3⟩ := h.1 k hk
  exact ⟨p, (pa_fr hW g f x.1.1 x.1.2 k).trans h1, h2, PF_fr h2 f x.2 h3⟩
theorem ST_fr {f' : Nat → Int} (hW : WT T H) (g : T.2.2.2 r = some 27) (f : wfr l T H H') (x : STx l = true) (h : ST T H r f') : ST T H' r f' := by
  unfold STx at x
  simp only [Bool.and_eq_true] at x
  obtain ⟨s, h1, h2, h5⟩ := h
  exact ⟨s, (wno_f f g x.1 rfl).trans h1, h2, fun k hk => ⟨(h5 k hk).1, (h5 k hk).2.1, (wno_f f h2 x.2 rfl).trans (h5 k hk).2.2⟩⟩
theorem SV_fr {f' : Nat → Int} {i : Int} (hW : WT T H) (g : T.2.2.2 r = some 27) (f : wfr l T H H') (x : SVx l = true) (h : SV T H r f' i) : SV T H' r f' i := by
  unfold SVx at x
  simp only [Bool.and_eq_true] at x
  obtain ⟨s, h1, h2, h5⟩ := h
  exact ⟨s, (wno_f f g x.1 rfl).trans h1, h2, fun k hk hp => (wno_f f h2 x.2 rfl).trans (h5 k hk hp)⟩
theorem DA_fr {S tg : Nat} {c : Int} {f' : Nat → Int} (hW : WT T H) (g : T.2.2.2 r = some 27) (f : wfr l T H H') (x : DAx S tg l = true) (h : DA S tg T H r c f') : DA S tg T H' r c f' := by
  unfold DAx at x
  simp only [Bool.and_eq_true] at x
  obtain ⟨b, h1, h2, h3⟩ := h
  exact ⟨b, (wno_f f g x.1 (by simp)).trans h1, h2, fun k hk => (wno_f f h2 x.2 rfl).trans (h3 k hk)⟩
theorem DA4_fr {c : Int} {f' : Nat → Int} (hW : WT T H) (g : T.2.2.2 r = some 27) (f : wfr l T H H') (x : DAx 4 32 l = true) (h : DA4 T H r c f') : DA4 T H' r c f' := DA_fr hW g f x h
theorem DC_fr (hW : WT T H) (g : T.2.2.2 r = some 27) (f : wfr l T H H') (x : DCx l = true) (h : DC T H r d) : DC T H' r d := by
  unfold DCx at x
  simp only [Bool.and_eq_true] at x
  exact ⟨DS_fr g f x.1.1.1.1.1.1.1 h.1, DQ_fr hW g f x.1.1.1.1.1.1.2 h.2.1, ST_fr hW g f x.1.1.1.1.1.2 h.2.2.1, SV_fr hW g f x.1.1.1.1.2 h.2.2.2.1, DA_fr hW g f x.1.1.1.2 h.2.2.2.2.1, DA_fr hW g f x.1.1.2 h.2.2.2.2.2.1, DA_fr hW g f x.1.2 h.2.2.2.2.2.2.1, DA_fr hW g f x.2 h.2.2.2.2.2.2.2⟩
theorem DC_k (h : DC T H r d) : H r 7 = d 0 0 ∧ H r 8 = d 0 1 ∧ H r 9 = d 0 2 ∧ H r 10 = d 0 3 ∧ H r 11 = d 0 4 ∧ H r 12 = d 0 5 ∧ H r 13 = d 0 6 ∧ H r 14 = d 0 7 ∧ -1 ≤ d 0 8 ∧ d 0 8 ≤ 5 ∧ H r 15 = xsx (d 0 8) ∧ H r 16 = xcn (d 13) 24 ∧ 0 ≤ d 0 3 ∧ d 0 3 ≤ 6 ∧ 0 ≤ d 0 4 ∧ d 0 4 ≤ 3 := h.1
end DREL

section DROW

variable {B : Nat → Int} {n q v : Int} {d : xD} {a j i : Nat}
end DROW

section DLAW

variable {T : wq_T} {H H' : wq_H} {l : List (Nat × Nat)} {r b k : Nat} {d d' : xD} {f f12 f14 f15 f16 : Nat → Int} {c5 c6 c7 v : Int}
theorem xcn_b : ∀ n : Nat, 0 ≤ xcn f n ∧ xcn f n ≤ n
  | 0 => ⟨Int.le_refl _, Int.le_refl _⟩
  | n + 1 => by
    have := xcn_b n
    show 0 ≤ xcn f n + (if f n > 0 then 1 else 0) ∧ xcn f n + (if f n > 0 then 1 else 0) ≤ (n + 1 : Nat)
    split <;> omega
theorem xcn_mono {m : Nat} : ∀ n : Nat, m ≤ n → xcn f m ≤ xcn f n
  | 0, h => by
    have : m = 0 := by omega
    subst this
    omega
  | n + 1, h => by
    by_cases e : m = n + 1
    · subst e
      omega
    · have := xcn_mono n (show m ≤ n by omega)
      show xcn f m ≤ xcn f n + (if f n > 0 then 1 else 0)
      split <;> omega
theorem xcn_lt {m n : Nat} (h : m < n) (hp : f m > 0) : xcn f m < xcn f n := by
  have h1 := xcn_mono (f := f) (m := m + 1) n h
  have h2 : xcn f (m + 1) = xcn f m + 1 := by
    show xcn f m + (if f m > 0 then 1 else 0) = _
    rw [if_pos hp]
  omega
theorem xcn_s {i : Int} (h : 0 ≤ i) : xcn f (i + 1).toNat = xcn f i.toNat + (if f i.toNat > 0 then 1 else 0) := by
  rw [show (i + 1).toNat = i.toNat + 1 by omega]
  rfl
end DLAW

section DROW2

variable {B : Nat → Int} {n q : Int} {d : xD} {i : Nat}
end DROW2

section DPER

variable {T : wq_T} {H H' H0 : wq_H} {l : List (Nat × Nat)} {r p pa k : Nat} {d d' : xD} {B : Nat → Int} {n q y : Int} {M : wq_H}
end DPER
