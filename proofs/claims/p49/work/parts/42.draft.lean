section
/-! RELATIONS (own work): what a PARISH of the StrikeAwake has been told -/
def xsx (z : Int) : Int := if z = -1 then -2 else z
theorem xsx_e {z : Int} : (z = -1 ∧ xsx z = -2) ∨ (z ≠ -1 ∧ xsx z = z) := by
  unfold xsx
  split <;> omega
def DSm (H : wq_H) (r : Nat) (d : xD) : Prop := H r 7 = d 0 0 ∧ H r 8 = d 0 1 ∧ H r 9 = d 0 2 ∧ H r 10 = d 0 3 ∧ H r 11 = d 0 4 ∧ H r 12 = d 0 5 ∧ H r 13 = d 0 6 ∧ H r 14 = d 0 7 ∧ -1 ≤ d 0 8 ∧ d 0 8 ≤ 5 ∧ H r 15 = xsx (d 0 8) ∧ H r 16 = xcn (d 13) 24 ∧ 0 ≤ d 0 3 ∧ d 0 3 ≤ 6 ∧ 0 ≤ d 0 4 ∧ d 0 4 ≤ 3
def PF (H : wq_H) (p : Nat) (d : xD) (k : Nat) : Prop := H p 6 = d 1 k ∧ H p 7 = d 2 k ∧ H p 8 = d 3 k ∧ H p 9 = d 4 k ∧ H p 10 = d 5 k ∧ H p 11 = d 6 k ∧ H p 12 = xhs (d 7 k) (d 8 k) ∧ H p 13 = d 9 k ∧ 0 ≤ H p 14 ∧ H p 14 ≤ 63 ∧ ∀ j : Nat, j < 6 → wq_and (wq_shr (H p 14) j) 1 = xagf d k j (d 0 4).toNat
def DQ (T : wq_T) (H : wq_H) (r : Nat) (d : xD) : Prop := (∀ k : Nat, (k : Int) < d 0 3 → ∃ p : Nat, H (H r 0).toNat k = (p : Int) ∧ T.2.2.2 p = some 35 ∧ PF H p d k) ∧ ∀ k : Nat, (k : Int) < d 0 4 → 0 ≤ d 10 k ∧ d 10 k < d 0 3 ∧ 0 ≤ d 11 k ∧ d 11 k < d 0 3
/-- HOURS struck: f, one more; in the order of the day the list -/
def ST (T : wq_T) (H : wq_H) (r : Nat) (f : Nat → Int) : Prop := ∃ s : Nat, H r 1 = (s : Int) ∧ T.2.2.2 s = some 29 ∧ ∀ k : Nat, k < 24 → 0 ≤ f k ∧ f k ≤ 100 ∧ H s k = if f k > 0 then f k - 1 else -2
def SV (T : wq_T) (H : wq_H) (r : Nat) (f : Nat → Int) (i : Int) : Prop := ∃ b : Nat, H r 2 = (b : Int) ∧ T.2.2.2 b = some 30 ∧ ∀ k : Nat, (k : Int) < i → f k > 0 → H b (xcn f k).toNat = k
/-- an array of a PARISH, as far as it is filled -/
def DA (S tg : Nat) (T : wq_T) (H : wq_H) (r : Nat) (c : Int) (f : Nat → Int) : Prop := ∃ b : Nat, H r S = (b : Int) ∧ T.2.2.2 b = some tg ∧ ∀ k : Nat, (k : Int) < c → H b k = f k
abbrev DA3 := DA 3 31
abbrev DA4 := DA 4 32
abbrev DA5 := DA 5 33
abbrev DA6 := DA 6 34
def DC (T : wq_T) (H : wq_H) (r : Nat) (d : xD) : Prop := DSm H r d ∧ DQ T H r d ∧ ST T H r (d 13) ∧ SV T H r (d 13) 24 ∧ DA3 T H r (d 0 5) (d 12) ∧ DA4 T H r (d 0 6) (d 14) ∧ DA5 T H r (d 0 6) (d 15) ∧ DA6 T H r (d 0 7) (d 16)
/-- its persons are six -/
def DD (T : wq_T) (H : wq_H) (r : Nat) : Prop := ∃ pa : Nat, H r 0 = (pa : Int) ∧ T.2.2.2 pa = some 28 ∧ ∀ i j : Nat, i < 6 → j < 6 → H pa i = H pa j → i = j
def wno (l : List (Nat × Nat)) (t : Nat) (s : Nat → Bool) : Bool := l.all (fun q => !(q.1 == t && (q.2 == 999 || s q.2)))
theorem wno_m {l : List (Nat × Nat)} {t j : Nat} {s : Nat → Bool} (h : wno l t s = true) (hj : s j = true) : wmem l t j = false := by
  refine wmem_no (fun q hq hh => ?_)
  have h1 := List.all_eq_true.mp h q hq
  rcases hh.2 with h2 | h2 <;> simp [hh.1, h2, hj] at h1
def DSx (l : List (Nat × Nat)) : Bool := wno l 27 (fun j => decide (7 ≤ j ∧ j ≤ 16))
def DQx (l : List (Nat × Nat)) : Bool := wno l 27 (fun j => decide (j = 0)) && wno l 28 (fun _ => true) && wno l 35 (fun j => decide (6 ≤ j ∧ j ≤ 14))
def STx (l : List (Nat × Nat)) : Bool := wno l 27 (fun j => decide (j = 1)) && wno l 29 (fun _ => true)
def SVx (l : List (Nat × Nat)) : Bool := wno l 27 (fun j => decide (j = 2)) && wno l 30 (fun _ => true)
def DAx (S tg : Nat) (l : List (Nat × Nat)) : Bool := wno l 27 (fun j => decide (j = S)) && wno l tg (fun _ => true)
def DCx (l : List (Nat × Nat)) : Bool := DSx l && DQx l && STx l && SVx l && DAx 3 31 l && DAx 4 32 l && DAx 5 33 l && DAx 6 34 l
def DDx (l : List (Nat × Nat)) : Bool := wno l 27 (fun j => decide (j = 0)) && wno l 28 (fun _ => true)
section DREL

variable {T : wq_T} {H H' : wq_H} {l : List (Nat × Nat)} {r : Nat} {d d' : xD}
theorem wno_f {a t j : Nat} {s : Nat → Bool} (f : wfr l T H H') (g : T.2.2.2 a = some t) (x : wno l t s = true) (hj : s j = true) : H' a j = H a j := f a j t g (wno_m x hj)
theorem DS_fr (g : T.2.2.2 r = some 27) (f : wfr l T H H') (x : DSx l = true) (h : DSm H r d) : DSm H' r d := by
  unfold DSm
  rw [wno_f f g x (j := 7) rfl, wno_f f g x (j := 8) rfl, wno_f f g x (j := 9) rfl, wno_f f g x (j := 10) rfl, wno_f f g x (j := 11) rfl, wno_f f g x (j := 12) rfl, wno_f f g x (j := 13) rfl, wno_f f g x (j := 14) rfl, wno_f f g x (j := 15) rfl, wno_f f g x (j := 16) rfl]
  exact h
theorem PF_fr {p k : Nat} (g : T.2.2.2 p = some 35) (f : wfr l T H H') (x : wno l 35 (fun j => decide (6 ≤ j ∧ j ≤ 14)) = true) (h : PF H p d k) : PF H' p d k := by
  unfold PF
  rw [wno_f f g x (j := 6) rfl, wno_f f g x (j := 7) rfl, wno_f f g x (j := 8) rfl, wno_f f g x (j := 9) rfl, wno_f f g x (j := 10) rfl, wno_f f g x (j := 11) rfl, wno_f f g x (j := 12) rfl, wno_f f g x (j := 13) rfl, wno_f f g x (j := 14) rfl]
  exact h
theorem pa_fr (hW : WT T H) (g : T.2.2.2 r = some 27) (f : wfr l T H H') (x1 : wno l 27 (fun j => decide (j = 0)) = true) (x2 : wno l 28 (fun _ => true) = true) (k : Nat) : H' (H' r 0).toNat k = H (H r 0).toNat k := by
  rw [wno_f f g x1 (j := 0) rfl]
  obtain ⟨pa, h1, h2⟩ := hW.ref g (t' := 28) (n := 19) (j := 0) (p := 0) (q := 0) rfl (by decide) rfl
  rw [h1, Int.toNat_natCast]
  exact wno_f f h2 x2 rfl
theorem DQ_fr (hW : WT T H) (g : T.2.2.2 r = some 27) (f : wfr l T H H') (x : DQx l = true) (h : DQ T H r d) : DQ T H' r d := by
  unfold DQx at x
  simp only [Bool.and_eq_true] at x
  refine ⟨fun k hk => ?_, h.2⟩
  obtain ⟨p, h1, h2, h3⟩ := h.1 k hk
  exact ⟨p, (pa_fr hW g f x.1.1 x.1.2 k).trans h1, h2, PF_fr h2 f x.2 h3⟩
theorem ST_fr {f' : Nat → Int} (hW : WT T H) (g : T.2.2.2 r = some 27) (f : wfr l T H H') (x : STx l = true) (h : ST T H r f') : ST T H' r f' := by
  unfold STx at x
  simp only [Bool.and_eq_true] at x
  obtain ⟨s, h1, h2, h5⟩ := h
  exact ⟨s, (wno_f f g x.1 rfl).trans h1, h2, fun k hk => ⟨(h5 k hk).1, (h5 k hk).2.1, (wno_f f h2 x.2 rfl).trans (h5 k hk).2.2⟩⟩
theorem SV_fr {f' : Nat → Int} {i : Int} (hW : WT T H) (g : T.2.2.2 r = some 27) (f : wfr l T H H') (x : SVx l = true) (h : SV T H r f' i) : SV T H' r f' i := by
  unfold SVx at x
  simp only [Bool.and_eq_true] at x
  obtain ⟨s, h1, h2, h5⟩ := h
  exact ⟨s, (wno_f f g x.1 rfl).trans h1, h2, fun k hk hp => (wno_f f h2 x.2 rfl).trans (h5 k hk hp)⟩
theorem DA_fr {S tg : Nat} {c : Int} {f' : Nat → Int} (hW : WT T H) (g : T.2.2.2 r = some 27) (f : wfr l T H H') (x : DAx S tg l = true) (h : DA S tg T H r c f') : DA S tg T H' r c f' := by
  unfold DAx at x
  simp only [Bool.and_eq_true] at x
  obtain ⟨b, h1, h2, h3⟩ := h
  exact ⟨b, (wno_f f g x.1 (by simp)).trans h1, h2, fun k hk => (wno_f f h2 x.2 rfl).trans (h3 k hk)⟩
theorem DA3_fr {c : Int} {f' : Nat → Int} (hW : WT T H) (g : T.2.2.2 r = some 27) (f : wfr l T H H') (x : DAx 3 31 l = true) (h : DA3 T H r c f') : DA3 T H' r c f' := DA_fr hW g f x h
theorem DA4_fr {c : Int} {f' : Nat → Int} (hW : WT T H) (g : T.2.2.2 r = some 27) (f : wfr l T H H') (x : DAx 4 32 l = true) (h : DA4 T H r c f') : DA4 T H' r c f' := DA_fr hW g f x h
theorem DA5_fr {c : Int} {f' : Nat → Int} (hW : WT T H) (g : T.2.2.2 r = some 27) (f : wfr l T H H') (x : DAx 5 33 l = true) (h : DA5 T H r c f') : DA5 T H' r c f' := DA_fr hW g f x h
theorem DA6_fr {c : Int} {f' : Nat → Int} (hW : WT T H) (g : T.2.2.2 r = some 27) (f : wfr l T H H') (x : DAx 6 34 l = true) (h : DA6 T H r c f') : DA6 T H' r c f' := DA_fr hW g f x h
theorem DC_fr (hW : WT T H) (g : T.2.2.2 r = some 27) (f : wfr l T H H') (x : DCx l = true) (h : DC T H r d) : DC T H' r d := by
  unfold DCx at x
  simp only [Bool.and_eq_true] at x
  exact ⟨DS_fr g f x.1.1.1.1.1.1.1 h.1, DQ_fr hW g f x.1.1.1.1.1.1.2 h.2.1, ST_fr hW g f x.1.1.1.1.1.2 h.2.2.1, SV_fr hW g f x.1.1.1.1.2 h.2.2.2.1, DA_fr hW g f x.1.1.1.2 h.2.2.2.2.1, DA_fr hW g f x.1.1.2 h.2.2.2.2.2.1, DA_fr hW g f x.1.2 h.2.2.2.2.2.2.1, DA_fr hW g f x.2 h.2.2.2.2.2.2.2⟩
theorem DD_fr (hW : WT T H) (g : T.2.2.2 r = some 27) (f : wfr l T H H') (x : DDx l = true) (h : DD T H r) : DD T H' r := by
  unfold DDx at x
  simp only [Bool.and_eq_true] at x
  obtain ⟨pa, h1, h2, h3⟩ := h
  refine ⟨pa, (wno_f f g x.1 rfl).trans h1, h2, fun i j hi hj e => h3 i j hi hj ?_⟩
  rw [wno_f f h2 x.2 rfl, wno_f f h2 x.2 rfl] at e
  exact e
/-- other told things of other rows -/
theorem PF_cg {p k : Nat} (e : ∀ i, 1 ≤ i → i ≤ 11 → d' i = d i) (e4 : d' 0 4 = d 0 4) (h : PF H p d k) : PF H p d' k := by
  have ex : ∀ (n : Nat) (a b : Int), xagf d' a b n = xagf d a b n := by
    intro n a b
    induction n with
    | zero => rfl
    | succ n ih =>
      show (if (d' 10 n = a ∧ d' 11 n = b) ∨ (d' 10 n = b ∧ d' 11 n = a) then 1 else xagf d' a b n) = _
      rw [e 10 (by omega) (by omega), e 11 (by omega) (by omega), ih]
      rfl
  unfold PF
  rw [e 1 (by omega) (by omega), e 2 (by omega) (by omega), e 3 (by omega) (by omega), e 4 (by omega) (by omega), e 5 (by omega) (by omega), e 6 (by omega) (by omega), e 7 (by omega) (by omega), e 8 (by omega) (by omega), e 9 (by omega) (by omega), e4]
  simp only [ex]
  exact h
theorem DQ_cg (e : ∀ i, 1 ≤ i → i ≤ 11 → d' i = d i) (e3 : d' 0 3 = d 0 3) (e4 : d' 0 4 = d 0 4) (h : DQ T H r d) : DQ T H r d' := by
  refine ⟨fun k hk => ?_, fun k hk => ?_⟩
  · obtain ⟨p, h1, h2, h3⟩ := h.1 k (by omega)
    exact ⟨p, h1, h2, PF_cg e e4 h3⟩
  · rw [e 10 (by omega) (by omega), e 11 (by omega) (by omega), e3]
    exact h.2 k (by omega)
theorem DC_k (h : DC T H r d) : H r 7 = d 0 0 ∧ H r 8 = d 0 1 ∧ H r 9 = d 0 2 ∧ H r 10 = d 0 3 ∧ H r 11 = d 0 4 ∧ H r 12 = d 0 5 ∧ H r 13 = d 0 6 ∧ H r 14 = d 0 7 ∧ -1 ≤ d 0 8 ∧ d 0 8 ≤ 5 ∧ H r 15 = xsx (d 0 8) ∧ H r 16 = xcn (d 13) 24 ∧ 0 ≤ d 0 3 ∧ d 0 3 ≤ 6 ∧ 0 ≤ d 0 4 ∧ d 0 4 ≤ 3 := h.1
theorem DC_nm {pa p k : Nat} (h : DC T H r d) (e0 : H r 0 = (pa : Int)) (e1 : H pa k = (p : Int)) (hk : (k : Int) < d 0 3) : H p 6 = d 1 k := by
  obtain ⟨b, h1, -, h3⟩ := h.2.1.1 k hk
  rw [e0, Int.toNat_natCast, e1] at h1
  have : p = b := by omega
  subst this
  exact h3.1
theorem xkn_b {B : Nat → Int} {n q : Int} : (xkn B n q d = 0 ∧ xre B n q = 11 ∧ xwho B n q d ≠ -1) ∨ (xkn B n q d = 2 ∧ xre B n q = 11 ∧ xwho B n q d = -1) ∨ (xkn B n q d = 1 ∧ xre B n q ≠ 11) := by
  unfold xkn xwho
  split
  · split <;> omega
  · omega
theorem xwho_e {B : Nat → Int} {n q : Int} : xwho B n q d = xfi (d 1) (d 0 3) (xY B n q) ∧ (xwho B n q d = -1 ∨ (0 ≤ xwho B n q d ∧ xwho B n q d < d 0 3)) := ⟨rfl, by have := @xfi_b (d 1) (d 0 3) (xY B n q); unfold xwho; omega⟩
end DREL

section DROW

variable {B : Nat → Int} {n q v : Int} {d : xD} {a j i : Nat}
theorem wq_u_row (h : i ≠ a) : wq_u d a j v i = d i := by
  funext k
  exact if_neg (fun q => h q.1)
theorem wq_u_e2 {k : Nat} (h : ¬ (i = a ∧ k = j)) : wq_u d a j v i k = d i k := if_neg h
theorem xdlaw_v : xdlaw B n q d 0 0 = xV B n (xN B n q) ∧ xdlaw B n q d 0 1 = xV B n (xN B n (xN B n (xN B n q))) ∧ xdlaw B n q d 0 2 = xV B n (xN B n (xN B n (xN B n (xN B n (xN B n q))))) ∧ xdlaw B n q d 0 3 = d 0 3 ∧ xdlaw B n q d 0 4 = d 0 4 ∧ xdlaw B n q d 0 5 = d 0 5 ∧ xdlaw B n q d 0 6 = d 0 6 ∧ xdlaw B n q d 0 7 = d 0 7 ∧ xdlaw B n q d 0 8 = d 0 8 ∧ xsx (xdlaw B n q d 0 8) = xsx (d 0 8) ∧ xcn (xdlaw B n q d 13) 24 = xcn (d 13) 24 := ⟨rfl, rfl, rfl, rfl, rfl, rfl, rfl, rfl, rfl, rfl, rfl⟩
theorem xdlaw_r (h : 1 ≤ i) : xdlaw B n q d i = d i := by
  unfold xdlaw
  rw [wq_u_row (by omega), wq_u_row (by omega), wq_u_row (by omega)]
end DROW

section DLAW

variable {T : wq_T} {H H' : wq_H} {l : List (Nat × Nat)} {r b k : Nat} {d d' : xD} {f f12 f14 f15 f16 : Nat → Int} {c5 c6 c7 v : Int}
theorem DC_mk (s : DSm H r d') (q : DQ T H r d') (st : ST T H r f) (sh : SV T H r f 24) (a3 : DA3 T H r c5 f12) (a4 : DA4 T H r c6 f14) (a5 : DA5 T H r c6 f15) (a6 : DA6 T H r c7 f16) (e : d' 13 = f ∧ d' 12 = f12 ∧ d' 14 = f14 ∧ d' 15 = f15 ∧ d' 16 = f16) (c : d' 0 5 = c5 ∧ d' 0 6 = c6 ∧ d' 0 7 = c7) : DC T H r d' := by
  obtain ⟨e1, e2, e3, e4, e5⟩ := e
  obtain ⟨c1, c2, c3⟩ := c
  unfold DC
  rw [e1, e2, e3, e4, e5, c1, c2, c3]
  exact ⟨s, q, st, sh, a3, a4, a5, a6⟩
/-- counts alone have changed -/
theorem DC_cnt (hW : WT T H) (g : T.2.2.2 r = some 27) (hd : DC T H r d) (f : wfr l T H H') (x : (DQx l && STx l && SVx l && DAx 3 31 l && DAx 4 32 l && DAx 5 33 l && DAx 6 34 l) = true) (e : ∀ i, 1 ≤ i → d' i = d i) (e3 : d' 0 3 = d 0 3 ∧ d' 0 4 = d 0 4 ∧ d' 0 5 = d 0 5 ∧ d' 0 6 = d 0 6 ∧ d' 0 7 = d 0 7) (s : DSm H' r d') : DC T H' r d' := by
  simp only [Bool.and_eq_true] at x
  exact DC_mk s (DQ_cg (fun i h1 _ => e i h1) e3.1 e3.2.1 (DQ_fr hW g f x.1.1.1.1.1.1 hd.2.1)) (ST_fr hW g f x.1.1.1.1.1.2 hd.2.2.1) (SV_fr hW g f x.1.1.1.1.2 hd.2.2.2.1) (DA_fr hW g f x.1.1.1.2 hd.2.2.2.2.1) (DA_fr hW g f x.1.1.2 hd.2.2.2.2.2.1) (DA_fr hW g f x.1.2 hd.2.2.2.2.2.2.1) (DA_fr hW g f x.2 hd.2.2.2.2.2.2.2) ⟨e 13 (by omega), e 12 (by omega), e 14 (by omega), e 15 (by omega), e 16 (by omega)⟩ ⟨e3.2.2.1, e3.2.2.2.1, e3.2.2.2.2⟩
theorem DA_put {S tg : Nat} {c c' : Int} {f f' : Nat → Int} (h : DA S tg T H r c f) (e0 : H r S = (b : Int)) (gr : T.2.2.2 r = some 27) (gb : T.2.2.2 b = some tg) (ne : tg ≠ 27) (e : H' = wq_u H b k v) (hk : (k : Int) = c) (hc : c' = c + 1) (fk : f' k = v) (fn : ∀ j, j ≠ k → f' j = f j) : DA S tg T H' r c' f' := by
  obtain ⟨b', h1, h2, h3⟩ := h
  have hb : b' = b := by omega
  subst hb
  refine ⟨b', ?_, h2, fun j hj => ?_⟩
  · rw [e, wq_u_na (fun q => ?_)]
    · exact h1
    · subst q
      rw [gr] at gb
      exact ne (Option.some.inj gb).symm
  · by_cases hjk : j = k
    · subst hjk
      rw [e, wq_u_eq, fk]
    · rw [e, wq_u_ne (fun q => hjk q.2), fn j hjk]
      exact h3 j (by omega)
theorem ST_at {s k : Nat} (h : ST T H r f) (e0 : H r 1 = (s : Int)) (hk : k < 24) : 0 ≤ f k ∧ f k ≤ 100 ∧ ((f k > 0 ∧ H s k = f k - 1) ∨ (f k = 0 ∧ H s k = -2)) := by
  obtain ⟨b, h1, -, h3⟩ := h
  have : b = s := by omega
  subst this
  have h4 := h3 k hk
  split at h4 <;> omega
theorem ST_put {s k : Nat} {w : Int} {f' : Nat → Int} (h : ST T H r f) (e0 : H r 1 = (s : Int)) (gr : T.2.2.2 r = some 27) (gb : T.2.2.2 s = some 29) (e : H' = wq_u H s k v) (hv : (0 ≤ v ∧ v ≤ 99 ∧ w = v + 1) ∨ (v = -2 ∧ w = 0)) (fk : f' k = w) (fn : ∀ j, j ≠ k → f' j = f j) : ST T H' r f' := by
  obtain ⟨b', h1, h2, h3⟩ := h
  have hb : b' = s := by omega
  subst hb
  refine ⟨b', ?_, h2, fun j hj => ?_⟩
  · rw [e, wq_u_na (fun q => ?_)]
    · exact h1
    · subst q
      rw [gr] at gb
      cases gb
  · by_cases hjk : j = k
    · subst hjk
      rw [e, wq_u_eq, fk]
      split <;> omega
    · rw [e, wq_u_ne (fun q => hjk q.2), fn j hjk]
      exact h3 j hj
theorem xcn_b : ∀ n : Nat, 0 ≤ xcn f n ∧ xcn f n ≤ n
  | 0 => ⟨Int.le_refl _, Int.le_refl _⟩
  | n + 1 => by
    have := xcn_b n
    show 0 ≤ xcn f n + (if f n > 0 then 1 else 0) ∧ xcn f n + (if f n > 0 then 1 else 0) ≤ (n + 1 : Nat)
    split <;> omega
theorem xcn_mono {m : Nat} : ∀ n : Nat, m ≤ n → xcn f m ≤ xcn f n
  | 0, h => by
    have : m = 0 := by omega
    subst this
    omega
  | n + 1, h => by
    by_cases e : m = n + 1
    · subst e
      omega
    · have := xcn_mono n (show m ≤ n by omega)
      show xcn f m ≤ xcn f n + (if f n > 0 then 1 else 0)
      split <;> omega
theorem xcn_lt {m n : Nat} (h : m < n) (hp : f m > 0) : xcn f m < xcn f n := by
  have h1 := xcn_mono (f := f) (m := m + 1) n h
  have h2 : xcn f (m + 1) = xcn f m + 1 := by
    show xcn f m + (if f m > 0 then 1 else 0) = _
    rw [if_pos hp]
  omega
theorem xcn_s {i : Int} (h : 0 ≤ i) : xcn f (i + 1).toNat = xcn f i.toNat + (if f i.toNat > 0 then 1 else 0) := by
  rw [show (i + 1).toNat = i.toNat + 1 by omega]
  rfl
theorem xcn_s1 {i : Int} (h : 0 ≤ i) : (f i.toNat > 0 ∧ xcn f (i + 1).toNat = xcn f i.toNat + 1) ∨ (f i.toNat ≤ 0 ∧ xcn f (i + 1).toNat = xcn f i.toNat) := by
  rw [xcn_s h]
  split <;> omega
theorem SV_0 (hW : WT T H) (g : T.2.2.2 r = some 27) : SV T H r f 0 := by
  obtain ⟨b, h1, h2⟩ := hW.ref g (t' := 30) (n := 19) (j := 2) (p := 0) (q := 0) rfl (by decide) rfl
  exact ⟨b, h1, h2, fun k hk => by omega⟩
theorem SV_skip {i : Int} (h : SV T H r f i) (h0 : 0 ≤ i) (hi : f i.toNat ≤ 0) : SV T H r f (i + 1) := by
  obtain ⟨b, h1, h2, h3⟩ := h
  refine ⟨b, h1, h2, fun k hk hp => ?_⟩
  by_cases e : (k : Int) = i
  · rw [show i.toNat = k by omega] at hi
    omega
  · exact h3 k (by omega) hp
theorem SV_put {i : Int} (h : SV T H r f i) (e0 : H r 2 = (b : Int)) (gr : T.2.2.2 r = some 27) (gb : T.2.2.2 b = some 30) (e : H' = wq_u H b k v) (h0 : 0 ≤ i) (hk : (k : Int) = xcn f i.toNat) (hv : v = i) (hi : f i.toNat > 0) : SV T H' r f (i + 1) := by
  obtain ⟨b', h1, h2, h3⟩ := h
  have hb : b' = b := by omega
  subst hb
  refine ⟨b', ?_, h2, fun j hj hp => ?_⟩
  · rw [e, wq_u_na (fun q => ?_)]
    · exact h1
    · subst q
      rw [gr] at gb
      cases gb
  · by_cases e1 : (j : Int) = i
    · have ej : i.toNat = j := by omega
      rw [ej] at hk
      rw [e, show (xcn f j).toNat = k by omega, wq_u_eq]
      omega
    · have h4 := xcn_lt (f := f) (m := j) (n := i.toNat) (by omega) hp
      have h5 := @xcn_b f j
      rw [e, wq_u_ne (fun q => by omega)]
      exact h3 j (by omega) hp
end DLAW

section DROW2

variable {B : Nat → Int} {n q : Int} {d : xD} {i : Nat}
theorem xdbo_v : xdbo B n q d 0 0 = d 0 0 ∧ xdbo B n q d 0 1 = d 0 1 ∧ xdbo B n q d 0 2 = d 0 2 ∧ xdbo B n q d 0 3 = d 0 3 ∧ xdbo B n q d 0 4 = d 0 4 ∧ xdbo B n q d 0 5 = d 0 5 + 1 ∧ xdbo B n q d 0 6 = d 0 6 ∧ xdbo B n q d 0 7 = d 0 7 ∧ xdbo B n q d 0 8 = d 0 8 ∧ xsx (xdbo B n q d 0 8) = xsx (d 0 8) ∧ xcn (xdbo B n q d 13) 24 = xcn (d 13) 24 := ⟨rfl, rfl, rfl, rfl, rfl, rfl, rfl, rfl, rfl, rfl, rfl⟩
theorem xdtl_v : xdtl B n q d 0 0 = d 0 0 ∧ xdtl B n q d 0 1 = d 0 1 ∧ xdtl B n q d 0 2 = d 0 2 ∧ xdtl B n q d 0 3 = d 0 3 ∧ xdtl B n q d 0 4 = d 0 4 ∧ xdtl B n q d 0 5 = d 0 5 ∧ xdtl B n q d 0 6 = d 0 6 + 1 ∧ xdtl B n q d 0 7 = d 0 7 ∧ xdtl B n q d 0 8 = d 0 8 ∧ xsx (xdtl B n q d 0 8) = xsx (d 0 8) ∧ xcn (xdtl B n q d 13) 24 = xcn (d 13) 24 := ⟨rfl, rfl, rfl, rfl, rfl, rfl, rfl, rfl, rfl, rfl, rfl⟩
theorem xdof_v : xdof B n q d 0 0 = d 0 0 ∧ xdof B n q d 0 1 = d 0 1 ∧ xdof B n q d 0 2 = d 0 2 ∧ xdof B n q d 0 3 = d 0 3 ∧ xdof B n q d 0 4 = d 0 4 ∧ xdof B n q d 0 5 = d 0 5 ∧ xdof B n q d 0 6 = d 0 6 ∧ xdof B n q d 0 7 = d 0 7 + 1 ∧ xdof B n q d 0 8 = d 0 8 ∧ xsx (xdof B n q d 0 8) = xsx (d 0 8) ∧ xcn (xdof B n q d 13) 24 = xcn (d 13) 24 := ⟨rfl, rfl, rfl, rfl, rfl, rfl, rfl, rfl, rfl, rfl, rfl⟩
theorem xdap_v : xdap B n q d 0 0 = d 0 0 ∧ xdap B n q d 0 1 = d 0 1 ∧ xdap B n q d 0 2 = d 0 2 ∧ xdap B n q d 0 3 = d 0 3 ∧ xdap B n q d 0 4 = d 0 4 + 1 ∧ xdap B n q d 0 5 = d 0 5 ∧ xdap B n q d 0 6 = d 0 6 ∧ xdap B n q d 0 7 = d 0 7 ∧ xdap B n q d 0 8 = d 0 8 ∧ xsx (xdap B n q d 0 8) = xsx (d 0 8) ∧ xcn (xdap B n q d 13) 24 = xcn (d 13) 24 := ⟨rfl, rfl, rfl, rfl, rfl, rfl, rfl, rfl, rfl, rfl, rfl⟩
theorem xdper_v : xdper B n q d 0 0 = d 0 0 ∧ xdper B n q d 0 1 = d 0 1 ∧ xdper B n q d 0 2 = d 0 2 ∧ xdper B n q d 0 3 = d 0 3 + 1 ∧ xdper B n q d 0 4 = d 0 4 ∧ xdper B n q d 0 5 = d 0 5 ∧ xdper B n q d 0 6 = d 0 6 ∧ xdper B n q d 0 7 = d 0 7 ∧ xdper B n q d 0 8 = d 0 8 ∧ xsx (xdper B n q d 0 8) = xsx (d 0 8) ∧ xcn (xdper B n q d 13) 24 = xcn (d 13) 24 := ⟨rfl, rfl, rfl, rfl, rfl, rfl, rfl, rfl, rfl, rfl, rfl⟩
theorem xdbo_r (h1 : 1 ≤ i) (h2 : i ≤ 11) : xdbo B n q d i = d i := by
  unfold xdbo
  rw [wq_u_row (by omega), wq_u_row (by omega)]
theorem xdtl_r (h1 : 1 ≤ i) (h2 : i ≤ 11) : xdtl B n q d i = d i := by
  unfold xdtl
  rw [wq_u_row (by omega), wq_u_row (by omega), wq_u_row (by omega)]
theorem xdof_r (h1 : 1 ≤ i) (h2 : i ≤ 11) : xdof B n q d i = d i := by
  unfold xdof
  rw [wq_u_row (by omega), wq_u_row (by omega), wq_u_row (by omega)]
theorem xdbo_c {k : Nat} (hk : (k : Int) = d 0 5) : xdbo B n q d 12 k = xV B n q ∧ ∀ j, j ≠ k → xdbo B n q d 12 j = d 12 j := by
  have e : (d 0 5).toNat = k := by omega
  unfold xdbo
  rw [e]
  exact ⟨by simp [wq_u], fun j hj => by simp [wq_u, hj]⟩
theorem xdtl_c {k : Nat} (hk : (k : Int) = d 0 6) : xdtl B n q d 14 k = xwho B n q d ∧ ∀ j, j ≠ k → xdtl B n q d 14 j = d 14 j := by
  have e : (d 0 6).toNat = k := by omega
  unfold xdtl
  rw [e]
  exact ⟨by simp [wq_u], fun j hj => by simp [wq_u, hj]⟩
theorem xdtl_e {k : Nat} (hk : (k : Int) = d 0 6) : xdtl B n q d 15 k = xhs (xV B n (xN B n q)) (xV B n (xN B n (xN B n (xN B n q)))) ∧ ∀ j, j ≠ k → xdtl B n q d 15 j = d 15 j := by
  have e : (d 0 6).toNat = k := by omega
  unfold xdtl
  rw [e]
  exact ⟨by simp [wq_u], fun j hj => by simp [wq_u, hj]⟩
theorem xdof_c {k : Nat} (hk : (k : Int) = d 0 7) : xdof B n q d 16 k = xhs (xV B n (xN B n q)) (xV B n (xN B n (xN B n (xN B n q)))) ∧ ∀ j, j ≠ k → xdof B n q d 16 j = d 16 j := by
  have e : (d 0 7).toNat = k := by omega
  unfold xdof
  rw [e]
  exact ⟨by simp [wq_u], fun j hj => by simp [wq_u, hj]⟩
theorem xnm_b : (xnm B n q d = 0 ∧ xre B n q = 11 ∧ xfi (d 1) (d 0 3) (xY B n q) = -1) ∨ (xnm B n q d = 3 ∧ xre B n q = 11 ∧ xfi (d 1) (d 0 3) (xY B n q) ≠ -1) ∨ (xnm B n q d = 1 ∧ xre B n q ≠ 11) := by
  unfold xnm
  split
  · split <;> omega
  · omega
theorem xsh_b : (xsh B n q d = 3 ∧ xK B n q = 2 ∧ xV B n q ≤ 23 ∧ d 13 (xV B n q).toNat > 0) ∨ (xsh B n q d = xh B n q 0 23 ∧ (xK B n q ≠ 2 ∨ 23 < xV B n q ∨ d 13 (xV B n q).toNat ≤ 0)) := by
  unfold xsh
  split <;> omega
theorem xdsex_v : xdsex B n q d 0 0 = d 0 0 ∧ xdsex B n q d 0 1 = d 0 1 ∧ xdsex B n q d 0 2 = d 0 2 ∧ xdsex B n q d 0 3 = d 0 3 ∧ xdsex B n q d 0 4 = d 0 4 ∧ xdsex B n q d 0 5 = d 0 5 ∧ xdsex B n q d 0 6 = d 0 6 ∧ xdsex B n q d 0 7 = d 0 7 ∧ xdsex B n q d 0 8 = xwho B n q d ∧ xsx (xdsex B n q d 0 8) = xsx (xwho B n q d) ∧ xcn (xdsex B n q d 13) 24 = xcn (d 13) 24 := ⟨rfl, rfl, rfl, rfl, rfl, rfl, rfl, rfl, rfl, rfl, rfl⟩
theorem xdsex_r (h : 1 ≤ i) : xdsex B n q d i = d i := by
  unfold xdsex
  rw [wq_u_row (by omega)]
end DROW2

section DPER

variable {T : wq_T} {H H' H0 : wq_H} {l : List (Nat × Nat)} {r p pa k : Nat} {d d' : xD} {B : Nat → Int} {n q y : Int} {M : wq_H}
theorem wq_u_nf {H2 : wq_H} {a b j : Nat} {z : Int} (e : H2 = wq_u H a j z) (h : b ≠ a) : H2 b = H b := by
  subst e
  funext i
  exact if_neg (fun q => h q.1)
theorem wq_u_tf {H2 : wq_H} {a b j t t' : Nat} {z : Int} (e : H2 = wq_u H a j z) (g : T.2.2.2 a = some t) (g' : T.2.2.2 b = some t') (h : t ≠ t') : H2 b = H b := by
  refine wq_u_nf e (fun q => ?_)
  subst q
  rw [g] at g'
  exact h (Option.some.inj g')
/-- bits by a matrix -/
def xM (d : xD) : wq_H := fun k j => xagf d k j (d 0 4).toNat
def PG (H : wq_H) (p : Nat) (d : xD) (M : wq_H) (k : Nat) : Prop := H p 6 = d 1 k ∧ H p 7 = d 2 k ∧ H p 8 = d 3 k ∧ H p 9 = d 4 k ∧ H p 10 = d 5 k ∧ H p 11 = d 6 k ∧ H p 12 = xhs (d 7 k) (d 8 k) ∧ H p 13 = d 9 k ∧ 0 ≤ H p 14 ∧ H p 14 ≤ 63 ∧ ∀ j : Nat, j < 6 → wq_and (wq_shr (H p 14) j) 1 = M k j
def DG (T : wq_T) (H : wq_H) (r : Nat) (d : xD) (M : wq_H) : Prop := ∀ k : Nat, (k : Int) < d 0 3 → ∃ p : Nat, H (H r 0).toNat k = (p : Int) ∧ T.2.2.2 p = some 35 ∧ PG H p d M k
theorem DG_fr (hW : WT T H) (g : T.2.2.2 r = some 27) (f : wfr l T H H') (x : DQx l = true) (h : DG T H r d M) : DG T H' r d M := by
  unfold DQx at x
  simp only [Bool.and_eq_true] at x
  intro k hk
  obtain ⟨p, h1, h2, h3⟩ := h k hk
  refine ⟨p, (pa_fr hW g f x.1.1 x.1.2 k).trans h1, h2, ?_⟩
  unfold PG
  rw [wno_f f h2 x.2 (j := 6) rfl, wno_f f h2 x.2 (j := 7) rfl, wno_f f h2 x.2 (j := 8) rfl, wno_f f h2 x.2 (j := 9) rfl, wno_f f h2 x.2 (j := 10) rfl, wno_f f h2 x.2 (j := 11) rfl, wno_f f h2 x.2 (j := 12) rfl, wno_f f h2 x.2 (j := 13) rfl, wno_f f h2 x.2 (j := 14) rfl]
  exact h3
theorem DG_at {s : Int} (h : DG T H r d M) (e0 : H r 0 = (pa : Int)) (e1 : H pa k = (p : Int)) (hk : (k : Int) < d 0 3) (h0 : 0 ≤ s) (h1 : s < 6) : wq_and (wq_shr (H p 14) s) 1 = M k s.toNat ∧ 0 ≤ H p 14 ∧ H p 14 ≤ 63 := by
  obtain ⟨p', h2, -, h3⟩ := h k hk
  rw [e0, Int.toNat_natCast, e1] at h2
  have : p = p' := by omega
  subst this
  have h4 := h3.2.2.2.2.2.2.2.2.2.2 s.toNat (by omega)
  rw [Int.toNat_of_nonneg h0] at h4
  exact ⟨h4, h3.2.2.2.2.2.2.2.2.1, h3.2.2.2.2.2.2.2.2.2.1⟩
theorem DG_put {v s : Int} (hW : WT T H) (g : T.2.2.2 r = some 27) (h : DG T H r d M) (dd : DD T H r) (e0 : H r 0 = (pa : Int)) (e1 : H pa k = (p : Int)) (gp : T.2.2.2 p = some 35) (hk : (k : Int) < d 0 3) (h6 : d 0 3 ≤ 6) (h0 : 0 ≤ s) (h1 : s < 6) (e : H' = wq_u H p 14 v) (hv : v = wq_or (H p 14) (wq_shl 1 s)) : DG T H' r d (wq_u M k s.toNat 1) := by
  intro j hj
  obtain ⟨p', h2, h3, h4⟩ := h j hj
  have er : H' r = H r := wq_u_tf e gp g (by decide)
  obtain ⟨pa', d1, d2, d3⟩ := dd
  have epa : pa' = pa := by omega
  subst epa
  have epa : H' pa' = H pa' := wq_u_tf e gp d2 (by decide)
  refine ⟨p', by rw [er, e0, Int.toNat_natCast, epa, ← h2, e0, Int.toNat_natCast], h3, ?_⟩
  rw [e0, Int.toNat_natCast] at h2
  by_cases hjk : j = k
  · subst hjk
    have : p' = p := by omega
    subst this
    have hb := ab_ok h4.2.2.2.2.2.2.2.2.1 h4.2.2.2.2.2.2.2.2.2.1 h0 h1
    subst e
    unfold PG
    rw [wq_u_eq, wq_u_ne (i := 6) (by omega), wq_u_ne (i := 7) (by omega), wq_u_ne (i := 8) (by omega), wq_u_ne (i := 9) (by omega), wq_u_ne (i := 10) (by omega), wq_u_ne (i := 11) (by omega), wq_u_ne (i := 12) (by omega), wq_u_ne (i := 13) (by omega), hv]
    refine ⟨h4.1, h4.2.1, h4.2.2.1, h4.2.2.2.1, h4.2.2.2.2.1, h4.2.2.2.2.2.1, h4.2.2.2.2.2.2.1, h4.2.2.2.2.2.2.2.1, hb.1, hb.2.1, fun i hi => ?_⟩
    rw [hb.2.2 i hi, h4.2.2.2.2.2.2.2.2.2.2 i hi]
    unfold wq_u
    by_cases hi2 : (i : Int) = s
    · rw [if_pos hi2, if_pos ⟨rfl, by omega⟩]
    · rw [if_neg hi2, if_neg (by omega)]
  · have hp : p' ≠ p := fun q => hjk (d3 j k (by omega) (by omega) (by rw [h2, e1, q]))
    unfold PG
    rw [wq_u_nf e hp]
    refine ⟨h4.1, h4.2.1, h4.2.2.1, h4.2.2.2.1, h4.2.2.2.2.1, h4.2.2.2.2.2.1, h4.2.2.2.2.2.2.1, h4.2.2.2.2.2.2.2.1, h4.2.2.2.2.2.2.2.2.1, h4.2.2.2.2.2.2.2.2.2.1, fun i hi => ?_⟩
    rw [h4.2.2.2.2.2.2.2.2.2.2 i hi]
    exact (wq_u_ne (by omega)).symm
theorem xac_M {a b : Int} (h0 : 0 ≤ a) (h1 : 0 ≤ b) : (a = b ∧ xac d a b = 3) ∨ (a ≠ b ∧ xM d a.toNat b.toNat = 0 ∧ xac d a b = 0) ∨ (a ≠ b ∧ xM d a.toNat b.toNat ≠ 0 ∧ xac d a b = 3) := by
  unfold xac xag xM
  rw [Int.toNat_of_nonneg h0, Int.toNat_of_nonneg h1]
  by_cases e : a = b
  · rw [if_pos e, if_neg (by omega)]
    exact Or.inl ⟨e, rfl⟩
  · rw [if_neg e]
    split <;> omega
theorem xagf_u {a b : Int} : ∀ m : Nat, (∀ i, i < m → d' 10 i = d 10 i ∧ d' 11 i = d 11 i) → xagf d' a b m = xagf d a b m
  | 0, _ => rfl
  | m + 1, h => by
    show (if (d' 10 m = a ∧ d' 11 m = b) ∨ (d' 10 m = b ∧ d' 11 m = a) then 1 else xagf d' a b m) = _
    rw [(h m (by omega)).1, (h m (by omega)).2, xagf_u m (fun i hi => h i (by omega))]
    rfl
theorem xagf_0 {a b : Int} : ∀ m : Nat, (∀ i, i < m → d 10 i ≠ a ∧ d 11 i ≠ a) → xagf d a b m = 0
  | 0, _ => rfl
  | m + 1, h => by
    have := h m (by omega)
    show (if (d 10 m = a ∧ d 11 m = b) ∨ (d 10 m = b ∧ d 11 m = a) then 1 else xagf d a b m) = _
    rw [if_neg (by omega)]
    exact xagf_0 m (fun i hi => h i (by omega))
theorem xdap_r {i : Nat} (h1 : 1 ≤ i) (h2 : i ≠ 10) (h3 : i ≠ 11) : xdap B n q d i = d i := by
  unfold xdap
  rw [wq_u_row (by omega), wq_u_row (by omega), wq_u_row (by omega)]
/-- a pair more -/
theorem DQ_ap {a b : Int} (hq : DQ T H0 r d) (h4 : 0 ≤ d 0 4) (ha : xwho B n q d = a) (hb : xwho B n (xN B n (xN B n q)) d = b) (a0 : 0 ≤ a) (a1 : a < d 0 3) (b0 : 0 ≤ b) (b1 : b < d 0 3) (h : DG T H r d (wq_u (wq_u (xM d) a.toNat b.toNat 1) b.toNat a.toNat 1)) : DQ T H r (xdap B n q d) := by
  have e10 : xdap B n q d 10 (d 0 4).toNat = a := by
    unfold xdap
    rw [ha, hb]
    simp [wq_u]
  have e11 : xdap B n q d 11 (d 0 4).toNat = b := by
    unfold xdap
    rw [ha, hb]
    simp [wq_u]
  have en : ∀ i, i ≠ (d 0 4).toNat → xdap B n q d 10 i = d 10 i ∧ xdap B n q d 11 i = d 11 i := fun i hi => by
    unfold xdap
    constructor <;> simp [wq_u, hi]
  have e4 : xdap B n q d 0 4 = d 0 4 + 1 := rfl
  have e3 : xdap B n q d 0 3 = d 0 3 := rfl
  refine ⟨fun k hk => ?_, fun k hk => ?_⟩
  · obtain ⟨p, h1, h2, h5⟩ := h k (by omega)
    refine ⟨p, h1, h2, ?_⟩
    unfold PF
    rw [xdap_r (i := 1) (by omega) (by omega) (by omega), xdap_r (i := 2) (by omega) (by omega) (by omega), xdap_r (i := 3) (by omega) (by omega) (by omega), xdap_r (i := 4) (by omega) (by omega) (by omega), xdap_r (i := 5) (by omega) (by omega) (by omega), xdap_r (i := 6) (by omega) (by omega) (by omega), xdap_r (i := 7) (by omega) (by omega) (by omega), xdap_r (i := 8) (by omega) (by omega) (by omega), xdap_r (i := 9) (by omega) (by omega) (by omega)]
    refine ⟨h5.1, h5.2.1, h5.2.2.1, h5.2.2.2.1, h5.2.2.2.2.1, h5.2.2.2.2.2.1, h5.2.2.2.2.2.2.1, h5.2.2.2.2.2.2.2.1, h5.2.2.2.2.2.2.2.2.1, h5.2.2.2.2.2.2.2.2.2.1, fun j hj => ?_⟩
    rw [h5.2.2.2.2.2.2.2.2.2.2 j hj, e4, show (d 0 4 + 1).toNat = (d 0 4).toNat + 1 by omega]
    show _ = (if (xdap B n q d 10 (d 0 4).toNat = k ∧ xdap B n q d 11 (d 0 4).toNat = j) ∨ (xdap B n q d 10 (d 0 4).toNat = j ∧ xdap B n q d 11 (d 0 4).toNat = k) then 1 else xagf (xdap B n q d) k j (d 0 4).toNat)
    rw [e10, e11, xagf_u (d := d) (d 0 4).toNat (fun i hi => en i (by omega))]
    unfold wq_u
    by_cases c1 : k = b.toNat ∧ j = a.toNat
    · rw [if_pos c1, if_pos (by omega)]
    · rw [if_neg c1]
      by_cases c2 : k = a.toNat ∧ j = b.toNat
      · rw [if_pos c2, if_pos (by omega)]
      · rw [if_neg c2, if_neg (by omega)]
        rfl
  · by_cases e : k = (d 0 4).toNat
    · subst e
      rw [e10, e11, e3]
      omega
    · rw [(en k e).1, (en k e).2, e3]
      exact hq.2 k (by omega)
/-- the person that is told of, not counted yet -/
def PK (T : wq_T) (H : wq_H) (r : Nat) (B : Nat → Int) (n y : Int) (d : xD) : Prop := ∃ p : Nat, H (H r 0).toNat (d 0 3).toNat = (p : Int) ∧ T.2.2.2 p = some 35 ∧ H p 6 = xY B n y ∧ H p 7 = xV B n (xN B n (xN B n y)) ∧ H p 8 = xV B n (xN B n (xN B n (xN B n (xN B n y)))) ∧ H p 9 = xV B n (xN B n (xN B n (xN B n (xN B n (xN B n (xN B n y)))))) ∧ H p 10 = xV B n (xN B n (xN B n (xN B n (xN B n (xN B n (xN B n (xN B n (xN B n y)))))))) ∧ H p 11 = -1 ∧ H p 12 = 0 ∧ H p 13 = 0 ∧ H p 14 = 0
theorem PK_k (h : PK T H r B n y d) (e0 : H r 0 = (pa : Int)) (e1 : H pa k = (p : Int)) (hk : (k : Int) = d 0 3) : H p 6 = xY B n y ∧ H p 7 = xV B n (xN B n (xN B n y)) ∧ H p 8 = xV B n (xN B n (xN B n (xN B n (xN B n y)))) ∧ H p 9 = xV B n (xN B n (xN B n (xN B n (xN B n (xN B n (xN B n y)))))) ∧ H p 10 = xV B n (xN B n (xN B n (xN B n (xN B n (xN B n (xN B n (xN B n (xN B n y)))))))) ∧ H p 11 = -1 ∧ H p 12 = 0 ∧ H p 13 = 0 ∧ H p 14 = 0 := by
  obtain ⟨p', h1, h2, h3⟩ := h
  rw [e0, Int.toNat_natCast, show (d 0 3).toNat = k by omega, e1] at h1
  have : p = p' := by omega
  subst this
  exact h3
/-- a person that isn't counted is written to -/
theorem DQ_oth (hW : WT T H) (g : T.2.2.2 r = some 27) (f : wfr l T H H') (x : (wno l 27 (fun j => decide (j = 0)) && wno l 28 (fun _ => true)) = true) (dd : DD T H r) (e0 : H' r 0 = (pa : Int)) (e1 : H' pa k = (p : Int)) (hk : (k : Int) = d 0 3) (h6 : d 0 3 ≤ 5) (oth : ∀ a, a ≠ p → T.2.2.2 a = some 35 → H' a = H a) (h : DQ T H r d) : DQ T H' r d := by
  simp only [Bool.and_eq_true] at x
  refine ⟨fun j hj => ?_, h.2⟩
  obtain ⟨p', h1, h2, h3⟩ := h.1 j hj
  have e2 := pa_fr hW g f x.1 x.2 k
  have e4 := pa_fr hW g f x.1 x.2 j
  rw [e0, Int.toNat_natCast, e1] at e2
  obtain ⟨pa', d1, d2, d3⟩ := dd
  have hp : p' ≠ p := fun q => by
    have h7 : H pa' j = H pa' k := by
      rw [d1, Int.toNat_natCast] at h1 e2
      rw [h1, ← e2, q]
    have := d3 j k (by omega) (by omega) h7
    omega
  refine ⟨p', e4.trans h1, h2, ?_⟩
  unfold PF
  rw [oth p' hp h2]
  exact h3
theorem xdper_r {i : Nat} (h1 : 10 ≤ i) : xdper B n q d i = d i := by
  unfold xdper
  rw [wq_u_row (by omega), wq_u_row (by omega), wq_u_row (by omega), wq_u_row (by omega), wq_u_row (by omega), wq_u_row (by omega), wq_u_row (by omega), wq_u_row (by omega), wq_u_row (by omega), wq_u_row (by omega)]
theorem xdper_k (hk : (k : Int) = d 0 3) : xdper B n q d 1 k = xY B n q ∧ xdper B n q d 2 k = xV B n (xN B n (xN B n q)) ∧ xdper B n q d 3 k = xV B n (xN B n (xN B n (xN B n (xN B n q)))) ∧ xdper B n q d 4 k = xV B n (xN B n (xN B n (xN B n (xN B n (xN B n (xN B n q)))))) ∧ xdper B n q d 5 k = xV B n (xN B n (xN B n (xN B n (xN B n (xN B n (xN B n (xN B n (xN B n q)))))))) ∧ xdper B n q d 6 k = xhb B n (xN B n (xN B n (xN B n (xN B n (xN B n (xN B n (xN B n (xN B n (xN B n q))))))))) ∧ xdper B n q d 7 k = xnf B n (xqa B n (xN B n (xN B n (xN B n (xN B n (xN B n (xN B n (xN B n (xN B n (xN B n q)))))))))) ∧ xdper B n q d 8 k = xnt B n (xqa B n (xN B n (xN B n (xN B n (xN B n (xN B n (xN B n (xN B n (xN B n (xN B n q)))))))))) ∧ xdper B n q d 9 k = xaw B n (xqb B n (xqa B n (xN B n (xN B n (xN B n (xN B n (xN B n (xN B n (xN B n (xN B n (xN B n q))))))))))) := by
  have e : (d 0 3).toNat = k := by omega
  unfold xdper
  rw [e]
  refine ⟨?_, ?_, ?_, ?_, ?_, ?_, ?_, ?_, ?_⟩ <;> simp [wq_u]
theorem xdper_n (hk : (k : Int) = d 0 3) {i j : Nat} (hi : 1 ≤ i) (hj : j ≠ k) : xdper B n q d i j = d i j := by
  have e : (d 0 3).toNat = k := by omega
  unfold xdper
  rw [e, wq_u_e2 (by omega), wq_u_e2 (by omega), wq_u_e2 (by omega), wq_u_e2 (by omega), wq_u_e2 (by omega), wq_u_e2 (by omega), wq_u_e2 (by omega), wq_u_e2 (by omega), wq_u_e2 (by omega), wq_u_e2 (by omega)]
/-- a person more -/
theorem DQ_per (gp : T.2.2.2 p = some 35) (h : DQ T H r d) (h4 : 0 ≤ d 0 4) (e0 : H r 0 = (pa : Int)) (e1 : H pa k = (p : Int)) (hk : (k : Int) = d 0 3) (hf : H p 6 = xdper B n q d 1 k ∧ H p 7 = xdper B n q d 2 k ∧ H p 8 = xdper B n q d 3 k ∧ H p 9 = xdper B n q d 4 k ∧ H p 10 = xdper B n q d 5 k ∧ H p 11 = xdper B n q d 6 k ∧ H p 12 = xhs (xdper B n q d 7 k) (xdper B n q d 8 k) ∧ H p 13 = xdper B n q d 9 k ∧ H p 14 = 0) : DQ T H r (xdper B n q d) := by
  have e3 : xdper B n q d 0 3 = d 0 3 + 1 := rfl
  have e4 : xdper B n q d 0 4 = d 0 4 := rfl
  have ea : ∀ i, i < (d 0 4).toNat → xdper B n q d 10 i = d 10 i ∧ xdper B n q d 11 i = d 11 i := fun i _ => ⟨by rw [xdper_r (by omega)], by rw [xdper_r (by omega)]⟩
  refine ⟨fun j hj => ?_, fun j hj => ?_⟩
  · by_cases hjk : j = k
    · subst hjk
      refine ⟨p, by rw [e0, Int.toNat_natCast]; exact e1, gp, ?_⟩
      obtain ⟨f1, f2, f3, f4, f5, f6, f7, f8, f9⟩ := hf
      refine ⟨f1, f2, f3, f4, f5, f6, f7, f8, by omega, by omega, fun i hi => ?_⟩
      rw [f9, ab_z hi, e4, xagf_u (d := d) _ ea]
      exact (xagf_0 _ (fun m hm => by have := h.2 m (by omega); omega)).symm
    · obtain ⟨p', h1, h2, h3⟩ := h.1 j (by omega)
      refine ⟨p', h1, h2, ?_⟩
      unfold PF
      rw [xdper_n hk (i := 1) (by omega) hjk, xdper_n hk (i := 2) (by omega) hjk, xdper_n hk (i := 3) (by omega) hjk, xdper_n hk (i := 4) (by omega) hjk, xdper_n hk (i := 5) (by omega) hjk, xdper_n hk (i := 6) (by omega) hjk, xdper_n hk (i := 7) (by omega) hjk, xdper_n hk (i := 8) (by omega) hjk, xdper_n hk (i := 9) (by omega) hjk, e4]
      refine ⟨h3.1, h3.2.1, h3.2.2.1, h3.2.2.2.1, h3.2.2.2.2.1, h3.2.2.2.2.2.1, h3.2.2.2.2.2.2.1, h3.2.2.2.2.2.2.2.1, h3.2.2.2.2.2.2.2.2.1, h3.2.2.2.2.2.2.2.2.2.1, fun i hi => ?_⟩
      rw [xagf_u (d := d) _ ea]
      exact h3.2.2.2.2.2.2.2.2.2.2 i hi
  · rw [(ea j (by omega)).1, (ea j (by omega)).2, e3]
    have := h.2 j (by omega)
    omega
theorem DQ_0 (h3 : d 0 3 ≤ 0) (h4 : d 0 4 ≤ 0) : DQ T H r d := ⟨fun k hk => by omega, fun k hk => by omega⟩
theorem DA_0 {S tg t n : Nat} {a b c : Int} {f : Nat → Int} (hW : WT T H) (g : T.2.2.2 r = some t) (hn : (wsh t).2 = n) (hS : S < n) (hty : wty t S = (2, a, b, tg)) (hc : c ≤ 0) : DA S tg T H r c f := by
  obtain ⟨b, h1, h2⟩ := hW.ref g hn hS hty
  exact ⟨b, h1, h2, fun k hk => by omega⟩
/-- no strokes, as far as i -/
def SZ (T : wq_T) (H : wq_H) (r : Nat) (i : Int) : Prop := ∃ s : Nat, H r 1 = (s : Int) ∧ T.2.2.2 s = some 29 ∧ ∀ k : Nat, (k : Int) < i → H s k = -2
theorem SZ_0 (hW : WT T H) (g : T.2.2.2 r = some 27) : SZ T H r 0 := by
  obtain ⟨b, h1, h2⟩ := hW.ref g (t' := 29) (n := 19) (j := 1) (p := 0) (q := 0) rfl (by decide) rfl
  exact ⟨b, h1, h2, fun k hk => by omega⟩
theorem SZ_put {s : Nat} {i v : Int} (h : SZ T H r i) (e0 : H r 1 = (s : Int)) (gr : T.2.2.2 r = some 27) (gs : T.2.2.2 s = some 29) (e : H' = wq_u H s k v) (hk : (k : Int) = i) (hv : v = -2) : SZ T H' r (i + 1) := by
  obtain ⟨s', h1, h2, h3⟩ := h
  have : s' = s := by omega
  subst this
  refine ⟨s', ?_, h2, fun j hj => ?_⟩
  · rw [wq_u_tf e gs gr (by decide)]
    exact h1
  · subst e
    by_cases hjk : j = k
    · subst hjk
      rw [wq_u_eq, hv]
    · rw [wq_u_ne (fun q => hjk q.2)]
      exact h3 j (by omega)
theorem ST_z {f : Nat → Int} {i : Int} (h : SZ T H r i) (hi : 24 ≤ i) (hf : ∀ k, k < 24 → f k = 0) : ST T H r f := by
  obtain ⟨s, h1, h2, h3⟩ := h
  refine ⟨s, h1, h2, fun k hk => ?_⟩
  rw [hf k hk, h3 k (by omega)]
  exact ⟨by omega, by omega, rfl⟩
theorem SV_z {f : Nat → Int} {i : Int} (hW : WT T H) (g : T.2.2.2 r = some 27) (hf : ∀ k, f k ≤ 0) : SV T H r f i := by
  obtain ⟨b, h1, h2⟩ := hW.ref g (t' := 30) (n := 19) (j := 2) (p := 0) (q := 0) rfl (by decide) rfl
  exact ⟨b, h1, h2, fun k hk hp => by have := hf k; omega⟩
end DPER
end
section
/-! RELATIONS (own work): the reference's token, its fault, what it has read -/
def TM (T : wq_T) (H : wq_H) (rb : Nat) (B : Nat → Int) : Prop := ∀ j, j < 900 → H rb j = B j
/-- its sorts -/
def xso (k : Int) : Int := if k = 0 then 1 else if k = 1 then 2 else if k = 2 then 3 else if k = 3 then 4 else if k = 4 then 4 else 0
theorem xso_e {k : Int} (h0 : 0 ≤ k) (h5 : k ≤ 5) : (k = 0 ∧ xso k = 1) ∨ (k = 1 ∧ xso k = 2) ∨ (k = 2 ∧ xso k = 3) ∨ (k = 3 ∧ xso k = 4) ∨ (k = 4 ∧ xso k = 4) ∨ (k = 5 ∧ xso k = 0) := by
  unfold xso
  omega
def RC (T : wq_T) (H : wq_H) (m : Nat) (B : Nat → Int) (n q : Int) : Prop := (∃ rb : Nat, H m 5 = (rb : Int) ∧ T.2.2.2 rb = some 43 ∧ TM T H rb B) ∧ H m 7 = n ∧ 0 ≤ q ∧ q ≤ n ∧ n ≤ 900 ∧ H m 13 = 0 ∧ H m 10 = q ∧ H m 9 = xso (xK B n q) ∧ (xK B n q = 5 ∨ H m 8 = xE B n q) ∧ (xK B n q = 1 → H m 15 = xY B n q) ∧ (xK B n q = 2 → H m 12 = xV B n q) ∧ (xK B n q = 3 → H m 11 = 59) ∧ (xK B n q = 4 → H m 11 = 44)
def RO (T : wq_T) (H : wq_H) (m : Nat) (f p : Int) : Prop := H m 9 = 5 ∧ H m 13 = f ∧ H m 14 = p ∧ 1 ≤ f
def TMx (l : List (Nat × Nat)) : Bool := wno l 43 (fun _ => true)
def RCx (l : List (Nat × Nat)) : Bool := wno l 43 (fun _ => true) && wno l 42 (fun j => decide (j = 5 ∨ 7 ≤ j ∧ j ≤ 13 ∨ j = 15))
def ROx (l : List (Nat × Nat)) : Bool := wno l 42 (fun j => decide (j = 9 ∨ j = 13 ∨ j = 14))
section RREL

variable {T : wq_T} {H H' : wq_H} {l : List (Nat × Nat)} {m rb : Nat} {B : Nat → Int} {n q f p : Int}
theorem TM_fr (hW : WT T H) (g : T.2.2.2 rb = some 43) (f : wfr l T H H') (x : TMx l = true) (h : TM T H rb B) : TM T H' rb B := fun j hj => (wno_f f g x rfl).trans (h j hj)
theorem RC_fr (hW : WT T H) (g : T.2.2.2 m = some 42) (f : wfr l T H H') (x : RCx l = true) (h : RC T H m B n q) : RC T H' m B n q := by
  unfold RCx at x
  simp only [Bool.and_eq_true] at x
  obtain ⟨⟨rb, h1, h2, h3⟩, h4⟩ := h
  refine ⟨⟨rb, (wno_f f g x.2 rfl).trans h1, h2, TM_fr hW h2 f x.1 h3⟩, ?_⟩
  rw [wno_f f g x.2 (j := 7) rfl, wno_f f g x.2 (j := 8) rfl, wno_f f g x.2 (j := 9) rfl, wno_f f g x.2 (j := 10) rfl, wno_f f g x.2 (j := 11) rfl, wno_f f g x.2 (j := 12) rfl, wno_f f g x.2 (j := 13) rfl, wno_f f g x.2 (j := 15) rfl]
  exact h4
theorem RO_fr {fo : Int} (hW : WT T H) (g : T.2.2.2 m = some 42) (f : wfr l T H H') (x : ROx l = true) (h : RO T H m fo p) : RO T H' m fo p := by
  unfold RO
  rw [wno_f f g x (j := 9) rfl, wno_f f g x (j := 13) rfl, wno_f f g x (j := 14) rfl]
  exact h
theorem RC_tm (h : RC T H m B n q) (e : H m 5 = (rb : Int)) : TM T H rb B := by
  obtain ⟨⟨r, h1, -, h3⟩, -⟩ := h
  have : r = rb := by omega
  subst this
  exact h3
theorem RC_k (h : RC T H m B n q) : H m 7 = n ∧ 0 ≤ q ∧ q ≤ n ∧ n ≤ 900 ∧ H m 13 = 0 ∧ H m 10 = q ∧ H m 9 = xso (xK B n q) ∧ xso (xK B n q) ≤ 4 ∧ q ≤ xN B n q ∧ xE B n q ≤ n := by
  obtain ⟨-, h1, h2, h3, h4, h5, h6, h7, h8⟩ := h
  have := @xN_b B n q h2 h3
  have := @xE_b B n q h2 h3
  have k := @xK_b B n q
  have := xso_e k.1 k.2
  exact ⟨h1, h2, h3, h4, h5, h6, h7, by omega, by omega, by omega⟩
theorem RC_s (h : RC T H m B n q) : (xK B n q = 0 ∧ xso (xK B n q) = 1) ∨ (xK B n q = 1 ∧ xso (xK B n q) = 2 ∧ H m 15 = xY B n q) ∨ (xK B n q = 2 ∧ xso (xK B n q) = 3 ∧ H m 12 = xV B n q ∧ 0 ≤ xV B n q ∧ xV B n q ≤ 999) ∨ (xK B n q = 3 ∧ xso (xK B n q) = 4 ∧ H m 11 = 59) ∨ (xK B n q = 4 ∧ xso (xK B n q) = 4 ∧ H m 11 = 44) ∨ (xK B n q = 5 ∧ xso (xK B n q) = 0) := by
  obtain ⟨-, h1, h2, h3, h4, h5, h6, h7, h8, h9, h10, h11, h12⟩ := h
  have k := @xK_b B n q
  rcases xso_e k.1 k.2 with a | a | a | a | a | a
  · exact Or.inl a
  · exact Or.inr (Or.inl ⟨a.1, a.2, h9 a.1⟩)
  · exact Or.inr (Or.inr (Or.inl ⟨a.1, a.2, h10 a.1, xV_b a.1⟩))
  · exact Or.inr (Or.inr (Or.inr (Or.inl ⟨a.1, a.2, h11 a.1⟩)))
  · exact Or.inr (Or.inr (Or.inr (Or.inr (Or.inl ⟨a.1, a.2, h12 a.1⟩))))
  · exact Or.inr (Or.inr (Or.inr (Or.inr (Or.inr a))))
theorem RC_e (h : RC T H m B n q) : (xK B n q = 0 ∧ q = n) ∨ (xK B n q ≠ 0 ∧ q < n ∧ q < xN B n q) := by
  obtain ⟨-, h1, h2, h3, -⟩ := h
  have := @xN_b B n q h2 h3
  have := @xK_0 B n q h2 h3
  omega
theorem RC_a (h : RC T H m B n q) : xK B n q = 5 ∨ H m 8 = xE B n q := by
  obtain ⟨-, h1, h2, h3, h4, h5, h6, h7, h8, -⟩ := h
  exact h8
theorem RC_mk (g0 : H m 5 = (rb : Int)) (gt : T.2.2.2 rb = some 43) (tp : TM T H rb B) (h : H m 7 = n ∧ 0 ≤ q ∧ q ≤ n ∧ n ≤ 900 ∧ H m 13 = 0 ∧ H m 10 = q) (hs : H m 9 = xso (xK B n q)) (ha : xK B n q = 5 ∨ H m 8 = xE B n q) (hy : xK B n q ≠ 1 ∨ H m 15 = xY B n q) (hv : xK B n q ≠ 2 ∨ H m 12 = xV B n q) (h3 : xK B n q ≠ 3 ∨ H m 11 = 59) (h4 : xK B n q ≠ 4 ∨ H m 11 = 44) : RC T H m B n q := ⟨⟨rb, g0, gt, tp⟩, h.1, h.2.1, h.2.2.1, h.2.2.2.1, h.2.2.2.2.1, h.2.2.2.2.2, hs, ha, fun e => hy.resolve_left (fun c => c e), fun e => hv.resolve_left (fun c => c e), fun e => h3.resolve_left (fun c => c e), fun e => h4.resolve_left (fun c => c e)⟩
theorem RO_k (h : RO T H m f p) : H m 9 = 5 ∧ H m 13 = f ∧ H m 14 = p ∧ 1 ≤ f := h
theorem RO_eq {f' p' : Int} (h : RO T H m f p) (e : f' = f) (e2 : p' = p) : RO T H m f' p' := by rw [e, e2]; exact h
/-- a byte as the reference sees it -/
theorem by_all : (List.range 256).all (fun i => decide (wq_and ((i : Int) - 128) 255 = if i < 128 then (i : Int) + 128 else (i : Int) - 128)) = true := by decide +kernel
theorem by_ok {x : Int} (h0 : -128 ≤ x) (h1 : x ≤ 127) : (0 ≤ x ∧ wq_and x 255 = x) ∨ (x < 0 ∧ wq_and x 255 = x + 256) := by
  have h := List.all_eq_true.mp by_all (x + 128).toNat (List.mem_range.mpr (by omega))
  simp only [decide_eq_true_eq] at h
  rw [show (((x + 128).toNat : Nat) : Int) - 128 = x by omega] at h
  split at h <;> omega
/-- bits of HOURS, one more -/
theorem hf_all : (List.range 25).all (fun a => (List.range 25).all (fun b => decide (b < a) || decide (24 ≤ b) || decide (wq_or (xhs a b) (wq_shl 1 b) = xhs a (b + 1)))) = true := by decide +kernel
theorem hf_ok {a b : Int} (h0 : 0 ≤ a) (h1 : a ≤ 24) (h2 : a ≤ b) (h3 : b < 24) : wq_or (xhs a b) (wq_shl 1 b) = xhs a (b + 1) := by
  have h := List.all_eq_true.mp (List.all_eq_true.mp hf_all a.toNat (List.mem_range.mpr (by omega))) b.toNat (List.mem_range.mpr (by omega))
  simp only [Bool.or_eq_true, decide_eq_true_eq, Int.toNat_of_nonneg h0, Int.toNat_of_nonneg (Int.le_trans h0 h2)] at h
  rcases h with (h | h) | h
  · omega
  · omega
  · exact h
theorem hf_0 : (List.range 25).all (fun a => decide (xhs a a = 0)) = true := by decide +kernel
theorem hf_z {a : Int} (h0 : 0 ≤ a) (h1 : a ≤ 24) : xhs a a = 0 := by
  have h := List.all_eq_true.mp hf_0 a.toNat (List.mem_range.mpr (by omega))
  simpa [Int.toNat_of_nonneg h0] using h
/-- which of the words that are no names -/
theorem xre_r : 0 ≤ xre B n q ∧ xre B n q ≤ 12 ∧ (xre B n q = 12 ∨ xK B n q = 1) := by
  have := @xre_b B n q
  omega
theorem xre_y (i K : Int) (h : xRK i.toNat = K) (h0 : 0 ≤ i ∧ i < 11) (hw : xw B n q K = 0) : xre B n q ≤ i ∧ xK B n q = 1 := by
  have h1 := @xw_b B n q K
  have h2 := @xre_le B n q i K h h0
  omega
theorem xre_n (i K : Int) (h : xRK i.toNat = K) (h0 : 0 ≤ i ∧ i < 11) (hw : xw B n q K = 1) : xre B n q ≠ i := by
  have h1 := @xw_b B n q K
  have h2 := @xre_at B n q i K h h0
  omega
end RREL
/-- an array that the reference has read, whole -/
def MA (S tg len : Nat) (T : wq_T) (H : wq_H) (R : Nat) (f : Nat → Int) : Prop := ∃ b : Nat, H R S = (b : Int) ∧ T.2.2.2 b = some tg ∧ ∀ k : Nat, k < len → H b k = f k
def MS (H : wq_H) (R m : Nat) (d : xD) : Prop := H R 0 = d 0 0 ∧ H R 1 = d 0 1 ∧ H R 2 = d 0 2 ∧ H R 3 = d 0 3 ∧ H R 4 = d 0 4 ∧ H R 5 = d 0 5 ∧ H R 6 = d 0 6 ∧ H R 7 = d 0 7 ∧ H R 8 = d 0 8 ∧ H m 16 = xcn (d 13) 24 ∧ -1 ≤ d 0 8 ∧ d 0 8 ≤ 5
abbrev MA9 := MA 9 55 6
abbrev MA10 := MA 10 56 6
abbrev MA11 := MA 11 57 6
abbrev MA12 := MA 12 58 6
abbrev MA13 := MA 13 59 6
abbrev MA14 := MA 14 60 6
abbrev MA15 := MA 15 61 6
abbrev MA16 := MA 16 62 6
abbrev MA17 := MA 17 63 6
abbrev MA18 := MA 18 64 3
abbrev MA19 := MA 19 65 3
abbrev MA20 := MA 20 66 3
abbrev MA21 := MA 21 67 24
abbrev MA22 := MA 22 68 4
abbrev MA23 := MA 23 69 4
abbrev MA25 := MA 25 71 6
abbrev MA26 := MA 26 72 6
/-- what is told of people lies between its bounds -/
def xdP (d : xD) : Prop := ∀ k : Nat, 0 ≤ d 2 k ∧ d 2 k ≤ d 3 k ∧ d 3 k ≤ d 2 k + 7 ∧ d 3 k ≤ 23 ∧ 0 ≤ d 4 k ∧ d 4 k ≤ d 5 k ∧ d 5 k ≤ d 4 k + 4 ∧ d 5 k ≤ 12 ∧ -1 ≤ d 6 k ∧ d 6 k ≤ 23 ∧ 0 ≤ d 7 k ∧ d 7 k ≤ d 8 k ∧ d 8 k ≤ 24 ∧ 0 ≤ d 9 k ∧ d 9 k ≤ 1
theorem xdP_0 : xdP xD0 := fun k => ⟨Int.le_refl _, Int.le_refl _, by show (0 : Int) ≤ 0 + 7; omega, by show (0 : Int) ≤ 23; omega, Int.le_refl _, Int.le_refl _, by show (0 : Int) ≤ 0 + 4; omega, by show (0 : Int) ≤ 12; omega, by show (-1 : Int) ≤ 0; omega, by show (0 : Int) ≤ 23; omega, Int.le_refl _, Int.le_refl _, by show (0 : Int) ≤ 24; omega, Int.le_refl _, by show (0 : Int) ≤ 1; omega⟩
theorem xdP_cg {d d' : xD} (h : xdP d) (e : ∀ i, 2 ≤ i → i ≤ 9 → d' i = d i) : xdP d' := fun k => by
  rw [e 2 (by omega) (by omega), e 3 (by omega) (by omega), e 4 (by omega) (by omega), e 5 (by omega) (by omega), e 6 (by omega) (by omega), e 7 (by omega) (by omega), e 8 (by omega) (by omega), e 9 (by omega) (by omega)]
  exact h k
def DM (T : wq_T) (H : wq_H) (R m : Nat) (d : xD) : Prop := T.2.2.2 m = some 42 ∧ MS H R m d ∧ xdP d ∧ MA9 T H R (d 1) ∧ MA10 T H R (d 2) ∧ MA11 T H R (d 3) ∧ MA12 T H R (d 4) ∧ MA13 T H R (d 5) ∧ MA14 T H R (d 6) ∧ MA15 T H R (d 7) ∧ MA16 T H R (d 8) ∧ MA17 T H R (d 9) ∧ MA18 T H R (d 10) ∧ MA19 T H R (d 11) ∧ MA20 T H R (d 12) ∧ MA21 T H R (d 13) ∧ MA22 T H R (d 14) ∧ MA23 T H R (d 15) ∧ MA25 T H R (d 17) ∧ MA26 T H R (d 16)
def MAx (S tg : Nat) (l : List (Nat × Nat)) : Bool := wno l 54 (fun j => decide (j = S)) && wno l tg (fun _ => true)
def DMx (l : List (Nat × Nat)) : Bool := wno l 42 (fun j => decide (j = 16)) && wno l 54 (fun j => decide (j ≤ 8)) && MAx 9 55 l && MAx 10 56 l && MAx 11 57 l && MAx 12 58 l && MAx 13 59 l && MAx 14 60 l && MAx 15 61 l && MAx 16 62 l && MAx 17 63 l && MAx 18 64 l && MAx 19 65 l && MAx 20 66 l && MAx 21 67 l && MAx 22 68 l && MAx 23 69 l && MAx 25 71 l && MAx 26 72 l
section MREL

variable {T : wq_T} {H H' : wq_H} {l : List (Nat × Nat)} {R m b k : Nat} {d d' : xD}
theorem MA_fr {S tg len : Nat} {f' : Nat → Int} (hW : WT T H) (g : T.2.2.2 R = some 54) (f : wfr l T H H') (x : MAx S tg l = true) (h : MA S tg len T H R f') : MA S tg len T H' R f' := by
  unfold MAx at x
  simp only [Bool.and_eq_true] at x
  obtain ⟨b, h1, h2, h3⟩ := h
  exact ⟨b, (wno_f f g x.1 (by simp)).trans h1, h2, fun k hk => (wno_f f h2 x.2 rfl).trans (h3 k hk)⟩
theorem MA9_fr {f' : Nat → Int} (hW : WT T H) (g : T.2.2.2 R = some 54) (f : wfr l T H H') (x : MAx 9 55 l = true) (h : MA9 T H R f') : MA9 T H' R f' := MA_fr hW g f x h
theorem MA10_fr {f' : Nat → Int} (hW : WT T H) (g : T.2.2.2 R = some 54) (f : wfr l T H H') (x : MAx 10 56 l = true) (h : MA10 T H R f') : MA10 T H' R f' := MA_fr hW g f x h
theorem MA11_fr {f' : Nat → Int} (hW : WT T H) (g : T.2.2.2 R = some 54) (f : wfr l T H H') (x : MAx 11 57 l = true) (h : MA11 T H R f') : MA11 T H' R f' := MA_fr hW g f x h
theorem MA12_fr {f' : Nat → Int} (hW : WT T H) (g : T.2.2.2 R = some 54) (f : wfr l T H H') (x : MAx 12 58 l = true) (h : MA12 T H R f') : MA12 T H' R f' := MA_fr hW g f x h
theorem MA13_fr {f' : Nat → Int} (hW : WT T H) (g : T.2.2.2 R = some 54) (f : wfr l T H H') (x : MAx 13 59 l = true) (h : MA13 T H R f') : MA13 T H' R f' := MA_fr hW g f x h
theorem MA14_fr {f' : Nat → Int} (hW : WT T H) (g : T.2.2.2 R = some 54) (f : wfr l T H H') (x : MAx 14 60 l = true) (h : MA14 T H R f') : MA14 T H' R f' := MA_fr hW g f x h
theorem MA15_fr {f' : Nat → Int} (hW : WT T H) (g : T.2.2.2 R = some 54) (f : wfr l T H H') (x : MAx 15 61 l = true) (h : MA15 T H R f') : MA15 T H' R f' := MA_fr hW g f x h
theorem MA16_fr {f' : Nat → Int} (hW : WT T H) (g : T.2.2.2 R = some 54) (f : wfr l T H H') (x : MAx 16 62 l = true) (h : MA16 T H R f') : MA16 T H' R f' := MA_fr hW g f x h
theorem MA17_fr {f' : Nat → Int} (hW : WT T H) (g : T.2.2.2 R = some 54) (f : wfr l T H H') (x : MAx 17 63 l = true) (h : MA17 T H R f') : MA17 T H' R f' := MA_fr hW g f x h
theorem MA18_fr {f' : Nat → Int} (hW : WT T H) (g : T.2.2.2 R = some 54) (f : wfr l T H H') (x : MAx 18 64 l = true) (h : MA18 T H R f') : MA18 T H' R f' := MA_fr hW g f x h
theorem MA19_fr {f' : Nat → Int} (hW : WT T H) (g : T.2.2.2 R = some 54) (f : wfr l T H H') (x : MAx 19 65 l = true) (h : MA19 T H R f') : MA19 T H' R f' := MA_fr hW g f x h
theorem MA20_fr {f' : Nat → Int} (hW : WT T H) (g : T.2.2.2 R = some 54) (f : wfr l T H H') (x : MAx 20 66 l = true) (h : MA20 T H R f') : MA20 T H' R f' := MA_fr hW g f x h
theorem MA21_fr {f' : Nat → Int} (hW : WT T H) (g : T.2.2.2 R = some 54) (f : wfr l T H H') (x : MAx 21 67 l = true) (h : MA21 T H R f') : MA21 T H' R f' := MA_fr hW g f x h
theorem MA22_fr {f' : Nat → Int} (hW : WT T H) (g : T.2.2.2 R = some 54) (f : wfr l T H H') (x : MAx 22 68 l = true) (h : MA22 T H R f') : MA22 T H' R f' := MA_fr hW g f x h
theorem MA23_fr {f' : Nat → Int} (hW : WT T H) (g : T.2.2.2 R = some 54) (f : wfr l T H H') (x : MAx 23 69 l = true) (h : MA23 T H R f') : MA23 T H' R f' := MA_fr hW g f x h
theorem MA25_fr {f' : Nat → Int} (hW : WT T H) (g : T.2.2.2 R = some 54) (f : wfr l T H H') (x : MAx 25 71 l = true) (h : MA25 T H R f') : MA25 T H' R f' := MA_fr hW g f x h
theorem MA26_fr {f' : Nat → Int} (hW : WT T H) (g : T.2.2.2 R = some 54) (f : wfr l T H H') (x : MAx 26 72 l = true) (h : MA26 T H R f') : MA26 T H' R f' := MA_fr hW g f x h
theorem DM_fr (hW : WT T H) (g : T.2.2.2 R = some 54) (f : wfr l T H H') (x : DMx l = true) (h : DM T H R m d) : DM T H' R m d := by
  unfold DMx at x
  simp only [Bool.and_eq_true] at x
  obtain ⟨gm, hs, hp, hr⟩ := h
  refine ⟨gm, ?_, hp, ?_⟩
  · unfold MS
    rw [wno_f f g x.1.1.1.1.1.1.1.1.1.1.1.1.1.1.1.1.1.2 (j := 0) rfl, wno_f f g x.1.1.1.1.1.1.1.1.1.1.1.1.1.1.1.1.1.2 (j := 1) rfl, wno_f f g x.1.1.1.1.1.1.1.1.1.1.1.1.1.1.1.1.1.2 (j := 2) rfl, wno_f f g x.1.1.1.1.1.1.1.1.1.1.1.1.1.1.1.1.1.2 (j := 3) rfl, wno_f f g x.1.1.1.1.1.1.1.1.1.1.1.1.1.1.1.1.1.2 (j := 4) rfl, wno_f f g x.1.1.1.1.1.1.1.1.1.1.1.1.1.1.1.1.1.2 (j := 5) rfl, wno_f f g x.1.1.1.1.1.1.1.1.1.1.1.1.1.1.1.1.1.2 (j := 6) rfl, wno_f f g x.1.1.1.1.1.1.1.1.1.1.1.1.1.1.1.1.1.2 (j := 7) rfl, wno_f f g x.1.1.1.1.1.1.1.1.1.1.1.1.1.1.1.1.1.2 (j := 8) rfl, wno_f f gm x.1.1.1.1.1.1.1.1.1.1.1.1.1.1.1.1.1.1 (j := 16) rfl]
    exact hs
  · obtain ⟨h9, h10, h11, h12, h13, h14, h15, h16, h17, h18, h19, h20, h21, h22, h23, h25, h26⟩ := hr
    exact ⟨MA_fr hW g f x.1.1.1.1.1.1.1.1.1.1.1.1.1.1.1.1.2 h9, MA_fr hW g f x.1.1.1.1.1.1.1.1.1.1.1.1.1.1.1.2 h10, MA_fr hW g f x.1.1.1.1.1.1.1.1.1.1.1.1.1.1.2 h11, MA_fr hW g f x.1.1.1.1.1.1.1.1.1.1.1.1.1.2 h12, MA_fr hW g f x.1.1.1.1.1.1.1.1.1.1.1.1.2 h13, MA_fr hW g f x.1.1.1.1.1.1.1.1.1.1.1.2 h14, MA_fr hW g f x.1.1.1.1.1.1.1.1.1.1.2 h15, MA_fr hW g f x.1.1.1.1.1.1.1.1.1.2 h16, MA_fr hW g f x.1.1.1.1.1.1.1.1.2 h17, MA_fr hW g f x.1.1.1.1.1.1.1.2 h18, MA_fr hW g f x.1.1.1.1.1.1.2 h19, MA_fr hW g f x.1.1.1.1.1.2 h20, MA_fr hW g f x.1.1.1.1.2 h21, MA_fr hW g f x.1.1.1.2 h22, MA_fr hW g f x.1.1.2 h23, MA_fr hW g f x.1.2 h25, MA_fr hW g f x.2 h26⟩
theorem DM_k (h : DM T H R m d) : H R 0 = d 0 0 ∧ H R 1 = d 0 1 ∧ H R 2 = d 0 2 ∧ H R 3 = d 0 3 ∧ H R 4 = d 0 4 ∧ H R 5 = d 0 5 ∧ H R 6 = d 0 6 ∧ H R 7 = d 0 7 ∧ H R 8 = d 0 8 ∧ H m 16 = xcn (d 13) 24 ∧ -1 ≤ d 0 8 ∧ d 0 8 ≤ 5 := h.2.1
theorem DM_mk {f9 f10 f11 f12 f13 f14 f15 f16 f17 f18 f19 f20 f21 f22 f23 f25 f26 : Nat → Int} (g : T.2.2.2 m = some 42) (s : MS H R m d) (hp : xdP d) (a9 : MA9 T H R f9) (a10 : MA10 T H R f10) (a11 : MA11 T H R f11) (a12 : MA12 T H R f12) (a13 : MA13 T H R f13) (a14 : MA14 T H R f14) (a15 : MA15 T H R f15) (a16 : MA16 T H R f16) (a17 : MA17 T H R f17) (a18 : MA18 T H R f18) (a19 : MA19 T H R f19) (a20 : MA20 T H R f20) (a21 : MA21 T H R f21) (a22 : MA22 T H R f22) (a23 : MA23 T H R f23) (a25 : MA25 T H R f25) (a26 : MA26 T H R f26) (e : d 1 = f9 ∧ d 2 = f10 ∧ d 3 = f11 ∧ d 4 = f12 ∧ d 5 = f13 ∧ d 6 = f14 ∧ d 7 = f15 ∧ d 8 = f16 ∧ d 9 = f17 ∧ d 10 = f18 ∧ d 11 = f19 ∧ d 12 = f20 ∧ d 13 = f21 ∧ d 14 = f22 ∧ d 15 = f23 ∧ d 17 = f25 ∧ d 16 = f26) : DM T H R m d := by
  obtain ⟨e9, e10, e11, e12, e13, e14, e15, e16, e17, e18, e19, e20, e21, e22, e23, e25, e26⟩ := e
  unfold DM
  rw [e9, e10, e11, e12, e13, e14, e15, e16, e17, e18, e19, e20, e21, e22, e23, e25, e26]
  exact ⟨g, s, hp, a9, a10, a11, a12, a13, a14, a15, a16, a17, a18, a19, a20, a21, a22, a23, a25, a26⟩
theorem MA_at {S tg len : Nat} {f : Nat → Int} (h : MA S tg len T H R f) (e0 : H R S = (b : Int)) (hk : k < len) : H b k = f k := by
  obtain ⟨c, h1, -, h3⟩ := h
  have : c = b := by omega
  subst this
  exact h3 k hk
theorem MA_put {S tg len : Nat} {f f' : Nat → Int} {v : Int} (h : MA S tg len T H R f) (e0 : H R S = (b : Int)) (gr : T.2.2.2 R = some 54) (gb : T.2.2.2 b = some tg) (ne : tg ≠ 54) (e : H' = wq_u H b k v) (fk : f' k = v) (fn : ∀ j, j ≠ k → f' j = f j) : MA S tg len T H' R f' := by
  obtain ⟨c, h1, h2, h3⟩ := h
  have hb : c = b := by omega
  subst hb
  refine ⟨c, ?_, h2, fun j hj => ?_⟩
  · rw [wq_u_tf e gb gr ne]
    exact h1
  · by_cases hjk : j = k
    · subst hjk
      rw [e, wq_u_eq, fk]
    · rw [e, wq_u_ne (fun q => hjk q.2), fn j hjk]
      exact h3 j hj
end MREL
/-! outcomes, flat (own work) -/
theorem xs_xs {f q : Int} {k j : xO} : xs (xs f q k).1 (xs f q k).2.1 j = xs f q (xs k.1 k.2.1 j) := by
  unfold xs
  by_cases h : f = 0
  · rw [if_pos h, if_pos h]
  · rw [if_neg h, if_neg h]
    exact (if_neg h).symm
theorem xs_z {q p : Int} {j : xO} : xs ((0, q, p) : xO).1 ((0, q, p) : xO).2.1 j = j := rfl
theorem xagf_s {d : xD} {a b i : Int} (h : 0 ≤ i) : (((d 10 i.toNat = a ∧ d 11 i.toNat = b) ∨ (d 10 i.toNat = b ∧ d 11 i.toNat = a)) ∧ xagf d a b (i + 1).toNat = 1) ∨ (¬ ((d 10 i.toNat = a ∧ d 11 i.toNat = b) ∨ (d 10 i.toNat = b ∧ d 11 i.toNat = a)) ∧ xagf d a b (i + 1).toNat = xagf d a b i.toNat) := by
  rw [show (i + 1).toNat = i.toNat + 1 by omega]
  by_cases h1 : (d 10 i.toNat = a ∧ d 11 i.toNat = b) ∨ (d 10 i.toNat = b ∧ d 11 i.toNat = a)
  · exact Or.inl ⟨h1, if_pos h1⟩
  · exact Or.inr ⟨h1, if_neg h1⟩
/-- the pairs up to i, or one with itself -/
def xgg (d : xD) (a b : Int) (i : Int) : Int := if a = b then 1 else xagf d a b i.toNat
theorem xgg_0 {d : xD} {a b : Int} : (a = b ∧ xgg d a b 0 = 1) ∨ (a ≠ b ∧ xgg d a b 0 = 0) := by
  unfold xgg
  by_cases h : a = b
  · exact Or.inl ⟨h, if_pos h⟩
  · exact Or.inr ⟨h, if_neg h⟩
theorem xagf_01 {d : xD} {a b : Int} : ∀ n : Nat, xagf d a b n = 0 ∨ xagf d a b n = 1
  | 0 => Or.inl rfl
  | n + 1 => by
    show (if (d 10 n = a ∧ d 11 n = b) ∨ (d 10 n = b ∧ d 11 n = a) then 1 else xagf d a b n) = 0 ∨ _
    split
    · next h => exact Or.inr (if_pos h)
    · next h =>
      rw [show xagf d a b (n + 1) = xagf d a b n from if_neg h]
      exact xagf_01 n
theorem xgg_s {d : xD} {a b i : Int} (h : 0 ≤ i) : (xgg d a b i = 1 ∧ xgg d a b (i + 1) = 1) ∨ (xgg d a b i = 0 ∧ ((d 10 i.toNat = a ∧ d 11 i.toNat = b) ∨ (d 10 i.toNat = b ∧ d 11 i.toNat = a)) ∧ xgg d a b (i + 1) = 1) ∨ (xgg d a b i = 0 ∧ ¬ ((d 10 i.toNat = a ∧ d 11 i.toNat = b) ∨ (d 10 i.toNat = b ∧ d 11 i.toNat = a)) ∧ xgg d a b (i + 1) = 0) := by
  unfold xgg
  by_cases e : a = b
  · rw [if_pos e, if_pos e]
    exact Or.inl ⟨rfl, rfl⟩
  · rw [if_neg e, if_neg e]
    rcases xagf_s (d := d) (a := a) (b := b) h with h1 | h1
    · rcases xagf_01 (d := d) (a := a) (b := b) i.toNat with h2 | h2
      · exact Or.inr (Or.inl ⟨h2, h1⟩)
      · exact Or.inl ⟨h2, h1.2⟩
    · rcases xagf_01 (d := d) (a := a) (b := b) i.toNat with h2 | h2
      · exact Or.inr (Or.inr ⟨h2, h1.1, h1.2.trans h2⟩)
      · exact Or.inl ⟨h2, h1.2.trans h2⟩
theorem xac_g {d : xD} {a b : Int} {i : Int} (h : i = d 0 4) : (xgg d a b i = 0 ∧ xac d a b = 0) ∨ (xgg d a b i ≠ 0 ∧ xac d a b = 3) := by
  subst h
  unfold xac xag xgg
  by_cases e : a = b
  · rw [if_pos e]
    exact Or.inr ⟨by omega, rfl⟩
  · rw [if_neg e]
    split <;> omega
theorem xhf_24 {a b : Int} (hb : 24 ≤ b) : ∀ n : Nat, n ≤ 24 → xhf a b n = xhf a 24 n
  | 0, _ => rfl
  | n + 1, hn => by
    show xhf a b n + (if a ≤ n ∧ (n : Int) < b then 2 ^ n else 0) = xhf a 24 n + (if a ≤ n ∧ (n : Int) < 24 then 2 ^ n else 0)
    rw [xhf_24 hb n (by omega)]
    by_cases h : a ≤ n
    · rw [if_pos ⟨h, by omega⟩, if_pos ⟨h, by omega⟩]
    · rw [if_neg (fun c => h c.1), if_neg (fun c => h c.1)]
theorem xhs_24 {a b : Int} (hb : 24 ≤ b) : xhs a b = xhs a 24 := xhf_24 hb 24 (Nat.le_refl _)
section RST

variable {B : Nat → Int} {n q : Int} {d : xD}
theorem xcn_lo {f f' : Nat → Int} {k : Nat} (e : ∀ j, j ≠ k → f' j = f j) : ∀ m : Nat, m ≤ k → xcn f' m = xcn f m
  | 0, _ => rfl
  | m + 1, h => by
    show xcn f' m + (if f' m > 0 then 1 else 0) = xcn f m + (if f m > 0 then 1 else 0)
    rw [xcn_lo e m (by omega), e m (by omega)]
theorem xcn_up {f f' : Nat → Int} {k : Nat} (e : ∀ j, j ≠ k → f' j = f j) (h0 : f k ≤ 0) (h1 : f' k > 0) : ∀ m : Nat, k < m → xcn f' m = xcn f m + 1
  | 0, h => by omega
  | m + 1, h => by
    show xcn f' m + (if f' m > 0 then 1 else 0) = xcn f m + (if f m > 0 then 1 else 0) + 1
    by_cases hk : m = k
    · subst hk
      rw [xcn_lo e m (Nat.le_refl _), if_pos h1, if_neg (by omega)]
      omega
    · rw [xcn_up e h0 h1 m (by omega), e m hk]
      omega
theorem xdst_c {k : Nat} (hk : (k : Int) = xV B n q) : xdst B n q d 13 k = xV B n (xN B n (xN B n q)) + 1 ∧ ∀ j, j ≠ k → xdst B n q d 13 j = d 13 j := by
  have e : (xV B n q).toNat = k := by omega
  unfold xdst
  rw [e]
  exact ⟨by simp [wq_u], fun j hj => by simp [wq_u, hj]⟩
theorem xdst_v (h0 : 0 ≤ xV B n q ∧ xV B n q ≤ 23) (h1 : d 13 (xV B n q).toNat ≤ 0) (h2 : 0 ≤ xV B n (xN B n (xN B n q))) : xdst B n q d 0 0 = d 0 0 ∧ xdst B n q d 0 1 = d 0 1 ∧ xdst B n q d 0 2 = d 0 2 ∧ xdst B n q d 0 3 = d 0 3 ∧ xdst B n q d 0 4 = d 0 4 ∧ xdst B n q d 0 5 = d 0 5 ∧ xdst B n q d 0 6 = d 0 6 ∧ xdst B n q d 0 7 = d 0 7 ∧ xdst B n q d 0 8 = d 0 8 ∧ xcn (xdst B n q d 13) 24 = xcn (d 13) 24 + 1 := by
  have e := @xdst_c B n q d (xV B n q).toNat (by omega)
  exact ⟨rfl, rfl, rfl, rfl, rfl, rfl, rfl, rfl, rfl, xcn_up e.2 h1 (by omega) 24 (by omega)⟩
theorem xdap_c {k : Nat} (hk : (k : Int) = d 0 4) : xdap B n q d 10 k = xwho B n q d ∧ ∀ j, j ≠ k → xdap B n q d 10 j = d 10 j := by
  have e : (d 0 4).toNat = k := by omega
  unfold xdap
  rw [e]
  exact ⟨by simp [wq_u], fun j hj => by simp [wq_u, hj]⟩
theorem xdap_e {k : Nat} (hk : (k : Int) = d 0 4) : xdap B n q d 11 k = xwho B n (xN B n (xN B n q)) d ∧ ∀ j, j ≠ k → xdap B n q d 11 j = d 11 j := by
  have e : (d 0 4).toNat = k := by omega
  unfold xdap
  rw [e]
  exact ⟨by simp [wq_u], fun j hj => by simp [wq_u, hj]⟩
theorem xdP_per {k : Nat} (h : xdP d) (hk : (k : Int) = d 0 3) (e : 0 ≤ xdper B n q d 2 k ∧ xdper B n q d 2 k ≤ xdper B n q d 3 k ∧ xdper B n q d 3 k ≤ xdper B n q d 2 k + 7 ∧ xdper B n q d 3 k ≤ 23 ∧ 0 ≤ xdper B n q d 4 k ∧ xdper B n q d 4 k ≤ xdper B n q d 5 k ∧ xdper B n q d 5 k ≤ xdper B n q d 4 k + 4 ∧ xdper B n q d 5 k ≤ 12 ∧ -1 ≤ xdper B n q d 6 k ∧ xdper B n q d 6 k ≤ 23 ∧ 0 ≤ xdper B n q d 7 k ∧ xdper B n q d 7 k ≤ xdper B n q d 8 k ∧ xdper B n q d 8 k ≤ 24 ∧ 0 ≤ xdper B n q d 9 k ∧ xdper B n q d 9 k ≤ 1) : xdP (xdper B n q d) := fun j => by
  by_cases hj : j = k
  · subst hj
    exact e
  · rw [xdper_n hk (i := 2) (by omega) hj, xdper_n hk (i := 3) (by omega) hj, xdper_n hk (i := 4) (by omega) hj, xdper_n hk (i := 5) (by omega) hj, xdper_n hk (i := 6) (by omega) hj, xdper_n hk (i := 7) (by omega) hj, xdper_n hk (i := 8) (by omega) hj, xdper_n hk (i := 9) (by omega) hj]
    exact h j
theorem xdof_e {k : Nat} (hk : (k : Int) = d 0 7) : xdof B n q d 17 k = xwho B n q d ∧ ∀ j, j ≠ k → xdof B n q d 17 j = d 17 j := by
  have e : (d 0 7).toNat = k := by omega
  unfold xdof
  rw [e]
  exact ⟨by simp [wq_u], fun j hj => by simp [wq_u, hj]⟩
end RST
end
section
/-! THE TAPE (own work): what is fed -/
def xub (B : Nat → Int) (i z : Int) : Nat → Int := fun j => if j = i.toNat then z else B j
def xby (v s : Int) : Int := wq_i2b (wq_shr v s)
def xpk (B : Nat → Int) (t v : Int) : Nat → Nat → Int
  | 0 => B
  | i + 1 => xub (xpk B t v i) (t + i) (xby v (24 - 8 * i))
def xw5 (a b c d e : Int) (j : Nat) : Int := if j = 0 then a else if j = 1 then b else if j = 2 then c else if j = 3 then d else e
def xfk (B : Nat → Int) (t a b c d e : Int) : Nat → Nat → Int
  | 0 => B
  | k + 1 => xub (xfk B t a b c d e k) (t + k) (xby (xw5 a b c d e (k / 4)) (24 - 8 * (k % 4 : Nat)))
section TAPE

variable {T : wq_T} {H H' : wq_H} {rb k : Nat} {B : Nat → Int} {t v z s : Int} {i : Nat}
theorem TP_pk (h : TP T H rb (xpk B t v i)) (e : H' = wq_u H rb k z) (hk : (k : Int) = t + i) (hz : z = wq_i2b (wq_shr v s)) (hs : s = 24 - 8 * i) : TP T H' rb (xpk B t v (i + 1)) := fun j hj => by
  show H' rb j = if j = (t + i).toNat then xby v (24 - 8 * i) else xpk B t v i j
  rw [e]
  by_cases hjk : j = k
  · rw [hjk, wq_u_eq, if_pos (by omega), hz, hs]
    rfl
  · rw [wq_u_ne (fun q => hjk q.2), if_neg (by omega)]
    exact h j hj
theorem xfk_4 {a b c d e : Int} : xpk (xpk (xpk (xpk (xpk B t a 4) (t + 4) b 4) (t + 8) c 4) (t + 12) d 4) (t + 16) e 4 = xfk B t a b c d e 20 := by
  unfold xpk xpk xpk xpk xpk
  show _ = xub (xfk B t a b c d e 19) _ _
  simp only [xpk, xfk, Int.add_assoc]
  rfl
theorem TM_fk {a b c d e w sh : Int} (h : TM T H rb (xfk B t a b c d e i)) (e1 : H' = wq_u H rb k z) (hk : (k : Int) = t + i) (hz : z = wq_i2b (wq_shr w sh)) (hs : sh = 24 - 8 * (i % 4 : Nat)) (hw : w = xw5 a b c d e (i / 4)) : TM T H' rb (xfk B t a b c d e (i + 1)) := fun j hj => by
  show H' rb j = if j = (t + i).toNat then xby (xw5 a b c d e (i / 4)) (24 - 8 * (i % 4 : Nat)) else xfk B t a b c d e i j
  rw [e1]
  by_cases hjk : j = k
  · rw [hjk, wq_u_eq, if_pos (by omega), hz, hs, hw]
    rfl
  · rw [wq_u_ne (fun q => hjk q.2), if_neg (by omega)]
    exact h j hj
theorem xw5_e {a b c d e : Int} : (i / 4 = 0 ∧ xw5 a b c d e (i / 4) = a) ∨ (i / 4 = 1 ∧ xw5 a b c d e (i / 4) = b) ∨ (i / 4 = 2 ∧ xw5 a b c d e (i / 4) = c) ∨ (i / 4 = 3 ∧ xw5 a b c d e (i / 4) = d) ∨ (4 ≤ i / 4 ∧ xw5 a b c d e (i / 4) = e) := by
  unfold xw5
  repeat' split
  all_goals omega
end TAPE
end
section
/-! TWO PARISHES APART (own work): a method that can't reach a family of cells is run as if those cells had other tags, which none of its changes names: so they stay as they were -/
def okT (s : Nat) : Bool := s != 1 && (decide (s < 27) || decide (41 < s))
def fine (ty : Nat × Int × Int × Nat) : Bool := ty.1 == 0 || ((ty.1 == 2 || ty.1 == 3) && okT ty.2.2.2) || (ty.1 == 4 && okT ty.2.2.2 && okT ty.2.1.toNat)
def lowt (ty : Nat × Int × Int × Nat) : Bool := ty.1 == 0 || ((ty.1 == 2 || ty.1 == 3) && decide (ty.2.2.2 < 200)) || (ty.1 == 4 && decide (ty.2.2.2 < 200) && decide (ty.2.1.toNat < 200))
theorem fineL {p : Nat × Int × Int × Nat → Bool} : ∀ {l : List (Nat × Int × Int × Nat)} {e : Nat × Int × Int × Nat}, l.all p = true → p e = true → ∀ j, p (l.getD j e) = true
  | [], e, _, he, j => he
  | a :: r, e, h, he, 0 => (Bool.and_eq_true _ _ ▸ h : p a = true ∧ r.all p = true).1
  | a :: r, e, h, he, j + 1 => fineL (l := r) (Bool.and_eq_true _ _ ▸ h : p a = true ∧ r.all p = true).2 he j
def fin : List (Nat → Nat × Int × Int × Nat) → Nat → Prop
  | [], _ => True
  | f :: r, t => (decide (t = 1 ∨ t = 27 ∨ t = 28 ∨ t = 35) = true ∨ ∀ j, fine (f j) = true ∧ lowt (f j) = true) ∧ fin r (t + 1)
theorem fin_all : fin wtyl 0 := ⟨Or.inr (fun _ => ⟨rfl, rfl⟩),
  Or.inl (by decide),
  Or.inr (fun _ => ⟨rfl, rfl⟩),
  Or.inr (fun j => ⟨fineL (e := (0, 0, 0, 0)) (l := ([(2, 0, 0, 4), (0, -1, 24, 0), (0, -1, 24, 0), (0, -2147483648, 2147483647, 0), (0, -2147483648, 2147483647, 0)] : List (Nat × Int × Int × Nat))) rfl rfl j, fineL (p := lowt) (e := (0, 0, 0, 0)) (l := ([(2, 0, 0, 4), (0, -1, 24, 0), (0, -1, 24, 0), (0, -2147483648, 2147483647, 0), (0, -2147483648, 2147483647, 0)] : List (Nat × Int × Int × Nat))) rfl rfl j⟩),
  Or.inr (fun j => ⟨fineL (e := (0, 0, 0, 0)) (l := ([(4, 5, 0, 2), (0, 0, 900, 0), (0, 0, 900, 0), (0, 0, 5, 0), (0, 0, 900, 0), (0, -2147483648, 2147483647, 0), (0, -9223372036854775808, 9223372036854775807, 0)] : List (Nat × Int × Int × Nat))) rfl rfl j, fineL (p := lowt) (e := (0, 0, 0, 0)) (l := ([(4, 5, 0, 2), (0, 0, 900, 0), (0, 0, 900, 0), (0, 0, 5, 0), (0, 0, 900, 0), (0, -2147483648, 2147483647, 0), (0, -9223372036854775808, 9223372036854775807, 0)] : List (Nat × Int × Int × Nat))) rfl rfl j⟩),
  Or.inr (fun _ => ⟨rfl, rfl⟩),
  Or.inr (fun j => ⟨fineL (e := (0, 0, 0, 0)) (l := ([(2, 0, 0, 7), (2, 0, 0, 8), (2, 0, 0, 9), (2, 0, 0, 10), (2, 0, 0, 11), (0, 0, 6, 0)] : List (Nat × Int × Int × Nat))) rfl rfl j, fineL (p := lowt) (e := (0, 0, 0, 0)) (l := ([(2, 0, 0, 7), (2, 0, 0, 8), (2, 0, 0, 9), (2, 0, 0, 10), (2, 0, 0, 11), (0, 0, 6, 0)] : List (Nat × Int × Int × Nat))) rfl rfl j⟩),
  Or.inr (fun _ => ⟨rfl, rfl⟩),
  Or.inr (fun _ => ⟨rfl, rfl⟩),
  Or.inr (fun _ => ⟨rfl, rfl⟩),
  Or.inr (fun _ => ⟨rfl, rfl⟩),
  Or.inr (fun _ => ⟨rfl, rfl⟩),
  Or.inr (fun j => ⟨fineL (e := (0, 0, 0, 0)) (l := ([(2, 0, 0, 13), (2, 0, 0, 14), (2, 0, 0, 16), (2, 0, 0, 18), (2, 0, 0, 19), (0, -2147483648, 2147483647, 0), (0, -9223372036854775808, 9223372036854775807, 0), (0, 0, 19999, 0), (0, -9223372036854775808, 9223372036854775807, 0), (0, 0, 1, 0)] : List (Nat × Int × Int × Nat))) rfl rfl j, fineL (p := lowt) (e := (0, 0, 0, 0)) (l := ([(2, 0, 0, 13), (2, 0, 0, 14), (2, 0, 0, 16), (2, 0, 0, 18), (2, 0, 0, 19), (0, -2147483648, 2147483647, 0), (0, -9223372036854775808, 9223372036854775807, 0), (0, 0, 19999, 0), (0, -9223372036854775808, 9223372036854775807, 0), (0, 0, 1, 0)] : List (Nat × Int × Int × Nat))) rfl rfl j⟩),
  Or.inr (fun _ => ⟨rfl, rfl⟩),
  Or.inr (fun _ => ⟨rfl, rfl⟩),
  Or.inr (fun _ => ⟨rfl, rfl⟩),
  Or.inr (fun _ => ⟨rfl, rfl⟩),
  Or.inr (fun _ => ⟨rfl, rfl⟩),
  Or.inr (fun _ => ⟨rfl, rfl⟩),
  Or.inr (fun _ => ⟨rfl, rfl⟩),
  Or.inr (fun j => ⟨fineL (e := (0, 0, 0, 0)) (l := ([(2, 0, 0, 21), (2, 0, 0, 22), (2, 0, 0, 23), (2, 0, 0, 24), (0, 0, 400, 0)] : List (Nat × Int × Int × Nat))) rfl rfl j, fineL (p := lowt) (e := (0, 0, 0, 0)) (l := ([(2, 0, 0, 21), (2, 0, 0, 22), (2, 0, 0, 23), (2, 0, 0, 24), (0, 0, 400, 0)] : List (Nat × Int × Int × Nat))) rfl rfl j⟩),
  Or.inr (fun _ => ⟨rfl, rfl⟩),
  Or.inr (fun _ => ⟨rfl, rfl⟩),
  Or.inr (fun _ => ⟨rfl, rfl⟩),
  Or.inr (fun _ => ⟨rfl, rfl⟩),
  Or.inr (fun j => ⟨fineL (e := (0, 0, 0, 0)) (l := ([(2, 0, 0, 26), (0, 0, 5000, 0), (0, 0, 4999, 0)] : List (Nat × Int × Int × Nat))) rfl rfl j, fineL (p := lowt) (e := (0, 0, 0, 0)) (l := ([(2, 0, 0, 26), (0, 0, 5000, 0), (0, 0, 4999, 0)] : List (Nat × Int × Int × Nat))) rfl rfl j⟩),
  Or.inr (fun _ => ⟨rfl, rfl⟩),
  Or.inl (by decide),
  Or.inl (by decide),
  Or.inr (fun _ => ⟨rfl, rfl⟩),
  Or.inr (fun _ => ⟨rfl, rfl⟩),
  Or.inr (fun _ => ⟨rfl, rfl⟩),
  Or.inr (fun _ => ⟨rfl, rfl⟩),
  Or.inr (fun _ => ⟨rfl, rfl⟩),
  Or.inr (fun _ => ⟨rfl, rfl⟩),
  Or.inl (by decide),
  Or.inr (fun _ => ⟨rfl, rfl⟩),
  Or.inr (fun _ => ⟨rfl, rfl⟩),
  Or.inr (fun _ => ⟨rfl, rfl⟩),
  Or.inr (fun _ => ⟨rfl, rfl⟩),
  Or.inr (fun _ => ⟨rfl, rfl⟩),
  Or.inr (fun _ => ⟨rfl, rfl⟩),
  Or.inr (fun j => ⟨fineL (e := (0, 0, 0, 0)) (l := ([(0, -2147483648, 2147483647, 0), (0, -2147483648, 2147483647, 0), (0, -2147483648, 2147483647, 0), (3, 0, 0, 54), (3, 0, 0, 54), (2, 0, 0, 43), (0, 0, 900, 0), (0, 0, 900, 0), (0, 0, 900, 0), (0, 0, 5, 0), (0, -2147483648, 2147483647, 0), (0, -2147483648, 2147483647, 0), (0, -2147483648, 2147483647, 0), (0, -2147483648, 2147483647, 0), (0, -2147483648, 2147483647, 0), (0, -9223372036854775808, 9223372036854775807, 0), (0, 0, 24, 0), (0, -2147483648, 2147483647, 0), (0, -2147483648, 2147483647, 0), (0, -2147483648, 2147483647, 0), (2, 0, 0, 44), (2, 0, 0, 45), (2, 0, 0, 46), (2, 0, 0, 47), (2, 0, 0, 48), (2, 0, 0, 49), (2, 0, 0, 50), (2, 0, 0, 51), (0, 0, 1, 0), (0, 0, 20000, 0), (2, 0, 0, 52), (2, 0, 0, 53), (0, 0, 2147483647, 0)] : List (Nat × Int × Int × Nat))) rfl rfl j, fineL (p := lowt) (e := (0, 0, 0, 0)) (l := ([(0, -2147483648, 2147483647, 0), (0, -2147483648, 2147483647, 0), (0, -2147483648, 2147483647, 0), (3, 0, 0, 54), (3, 0, 0, 54), (2, 0, 0, 43), (0, 0, 900, 0), (0, 0, 900, 0), (0, 0, 900, 0), (0, 0, 5, 0), (0, -2147483648, 2147483647, 0), (0, -2147483648, 2147483647, 0), (0, -2147483648, 2147483647, 0), (0, -2147483648, 2147483647, 0), (0, -2147483648, 2147483647, 0), (0, -9223372036854775808, 9223372036854775807, 0), (0, 0, 24, 0), (0, -2147483648, 2147483647, 0), (0, -2147483648, 2147483647, 0), (0, -2147483648, 2147483647, 0), (2, 0, 0, 44), (2, 0, 0, 45), (2, 0, 0, 46), (2, 0, 0, 47), (2, 0, 0, 48), (2, 0, 0, 49), (2, 0, 0, 50), (2, 0, 0, 51), (0, 0, 1, 0), (0, 0, 20000, 0), (2, 0, 0, 52), (2, 0, 0, 53), (0, 0, 2147483647, 0)] : List (Nat × Int × Int × Nat))) rfl rfl j⟩),
  Or.inr (fun _ => ⟨rfl, rfl⟩),
  Or.inr (fun _ => ⟨rfl, rfl⟩),
  Or.inr (fun _ => ⟨rfl, rfl⟩),
  Or.inr (fun _ => ⟨rfl, rfl⟩),
  Or.inr (fun _ => ⟨rfl, rfl⟩),
  Or.inr (fun _ => ⟨rfl, rfl⟩),
  Or.inr (fun _ => ⟨rfl, rfl⟩),
  Or.inr (fun _ => ⟨rfl, rfl⟩),
  Or.inr (fun _ => ⟨rfl, rfl⟩),
  Or.inr (fun _ => ⟨rfl, rfl⟩),
  Or.inr (fun _ => ⟨rfl, rfl⟩),
  Or.inr (fun j => ⟨fineL (e := (0, 0, 0, 0)) (l := ([(0, 0, 24, 0), (0, -2147483648, 2147483647, 0), (0, -2147483648, 2147483647, 0), (0, 0, 6, 0), (0, 0, 3, 0), (0, 0, 3, 0), (0, 0, 4, 0), (0, 0, 6, 0), (0, -2147483648, 2147483647, 0), (2, 0, 0, 55), (2, 0, 0, 56), (2, 0, 0, 57), (2, 0, 0, 58), (2, 0, 0, 59), (2, 0, 0, 60), (2, 0, 0, 61), (2, 0, 0, 62), (2, 0, 0, 63), (2, 0, 0, 64), (2, 0, 0, 65), (2, 0, 0, 66), (2, 0, 0, 67), (2, 0, 0, 68), (2, 0, 0, 69), (2, 0, 0, 70), (2, 0, 0, 71), (2, 0, 0, 72)] : List (Nat × Int × Int × Nat))) rfl rfl j, fineL (p := lowt) (e := (0, 0, 0, 0)) (l := ([(0, 0, 24, 0), (0, -2147483648, 2147483647, 0), (0, -2147483648, 2147483647, 0), (0, 0, 6, 0), (0, 0, 3, 0), (0, 0, 3, 0), (0, 0, 4, 0), (0, 0, 6, 0), (0, -2147483648, 2147483647, 0), (2, 0, 0, 55), (2, 0, 0, 56), (2, 0, 0, 57), (2, 0, 0, 58), (2, 0, 0, 59), (2, 0, 0, 60), (2, 0, 0, 61), (2, 0, 0, 62), (2, 0, 0, 63), (2, 0, 0, 64), (2, 0, 0, 65), (2, 0, 0, 66), (2, 0, 0, 67), (2, 0, 0, 68), (2, 0, 0, 69), (2, 0, 0, 70), (2, 0, 0, 71), (2, 0, 0, 72)] : List (Nat × Int × Int × Nat))) rfl rfl j⟩),
  Or.inr (fun _ => ⟨rfl, rfl⟩),
  Or.inr (fun _ => ⟨rfl, rfl⟩),
  Or.inr (fun _ => ⟨rfl, rfl⟩),
  Or.inr (fun _ => ⟨rfl, rfl⟩),
  Or.inr (fun _ => ⟨rfl, rfl⟩),
  Or.inr (fun _ => ⟨rfl, rfl⟩),
  Or.inr (fun _ => ⟨rfl, rfl⟩),
  Or.inr (fun _ => ⟨rfl, rfl⟩),
  Or.inr (fun _ => ⟨rfl, rfl⟩),
  Or.inr (fun _ => ⟨rfl, rfl⟩),
  Or.inr (fun _ => ⟨rfl, rfl⟩),
  Or.inr (fun _ => ⟨rfl, rfl⟩),
  Or.inr (fun _ => ⟨rfl, rfl⟩),
  Or.inr (fun _ => ⟨rfl, rfl⟩),
  Or.inr (fun _ => ⟨rfl, rfl⟩),
  Or.inr (fun _ => ⟨rfl, rfl⟩),
  Or.inr (fun _ => ⟨rfl, rfl⟩),
  Or.inr (fun _ => ⟨rfl, rfl⟩),
  Or.inr (fun _ => ⟨rfl, rfl⟩), trivial⟩
theorem fin_at : ∀ (l : List (Nat → Nat × Int × Int × Nat)) (s i : Nat), fin l s → decide (s + i = 1 ∨ s + i = 27 ∨ s + i = 28 ∨ s + i = 35) = true ∨ ∀ j, fine ((l.getD i (fun _ => (0, 0, 0, 0))) j) = true ∧ lowt ((l.getD i (fun _ => (0, 0, 0, 0))) j) = true
  | [], _, _, _ => Or.inr (fun _ => ⟨rfl, rfl⟩)
  | f :: r, s, 0, h => h.1
  | f :: r, s, i + 1, h => by
    have := fin_at r (s + 1) i h.2
    rw [show s + 1 + i = s + (i + 1) by omega] at this
    exact this
theorem wty_lo {t j : Nat} (h : t < 80) : wty t j = (wtyl.getD t (fun _ => (0, 0, 0, 0))) j := by
  unfold wty
  rw [if_pos h]
theorem wty_fin {t : Nat} (h : t < 80) (h1 : t ≠ 1) (h27 : t ≠ 27) (h28 : t ≠ 28) (h35 : t ≠ 35) (j : Nat) : fine (wty t j) = true ∧ lowt (wty t j) = true := by
  rw [wty_lo h]
  rcases fin_at wtyl 0 t fin_all with h2 | h2
  · have := of_decide_eq_true h2
    omega
  · exact h2 j
theorem wty_hi {t : Nat} (h : 80 ≤ t) (j : Nat) : (wty t j).1 = 0 ∨ (wty t j).1 = 5 := by
  unfold wty
  rw [if_neg (by omega)]
  split
  · exact Or.inl rfl
  · split
    · exact Or.inl rfl
    · split
      · exact Or.inl rfl
      · split
        · exact Or.inr rfl
        · split <;> exact Or.inl rfl
theorem wty_200 {s : Nat} (h : s < 80) (j : Nat) : (wty (200 + s) j).1 = 5 := by
  unfold wty
  rw [if_neg (by omega), if_neg (by omega), if_neg (by omega), if_neg (by omega), if_pos (by omega)]
theorem wsh_200 {s : Nat} (h : s < 80) : wsh (200 + s) = wsh s := by
  unfold wsh
  rw [if_neg (by omega), if_neg (by omega), if_neg (by omega), if_neg (by omega), if_pos (by omega), if_pos h, Nat.add_sub_cancel_left]
/-- the family's own slots: references come first -/
def famk (n : Nat) (ty : Nat × Int × Int × Nat) (j : Nat) : Prop := ty.1 = 0 ∨ (ty.1 = 2 ∧ ty.2.2.2 ≠ 1 ∧ ty.2.2.2 < 200 ∧ j < n)
theorem getD_0 {l : List (Nat × Int × Int × Nat)} (h : l.all (fun q => q.1 == 0) = true) (j : Nat) : (l.getD j (0, 0, 0, 0)).1 = 0 := by
  have := fineL (p := fun q => q.1 == 0) (e := (0, 0, 0, 0)) h rfl j
  exact beq_iff_eq.mp this
theorem fam27 : ∀ j, famk 7 (wty 27 j) j
  | 0 => Or.inr ⟨rfl, by decide, by decide, by decide⟩
  | 1 => Or.inr ⟨rfl, by decide, by decide, by decide⟩
  | 2 => Or.inr ⟨rfl, by decide, by decide, by decide⟩
  | 3 => Or.inr ⟨rfl, by decide, by decide, by decide⟩
  | 4 => Or.inr ⟨rfl, by decide, by decide, by decide⟩
  | 5 => Or.inr ⟨rfl, by decide, by decide, by decide⟩
  | 6 => Or.inr ⟨rfl, by decide, by decide, by decide⟩
  | n + 7 => Or.inl (getD_0 (l := ([(2, 0, 0, 28), (2, 0, 0, 29), (2, 0, 0, 30), (2, 0, 0, 31), (2, 0, 0, 32), (2, 0, 0, 33), (2, 0, 0, 34), (0, 0, 24, 0), (0, -2147483648, 2147483647, 0), (0, -2147483648, 2147483647, 0), (0, 0, 6, 0), (0, -2147483648, 2147483647, 0), (0, 0, 3, 0), (0, 0, 4, 0), (0, 0, 6, 0), (0, -2147483648, 2147483647, 0), (0, 0, 24, 0), (0, 0, 2147483647, 0), (0, -9223372036854775808, 9223372036854775807, 0)] : List (Nat × Int × Int × Nat)).drop 7) rfl n)
theorem fam28 (j : Nat) (h : j < 6) : famk 6 (wty 28 j) j := Or.inr ⟨rfl, (by decide : (35 : Nat) ≠ 1), (by decide : (35 : Nat) < 200), h⟩
theorem fam35 : ∀ j, famk 6 (wty 35 j) j
  | 0 => Or.inr ⟨rfl, by decide, by decide, by decide⟩
  | 1 => Or.inr ⟨rfl, by decide, by decide, by decide⟩
  | 2 => Or.inr ⟨rfl, by decide, by decide, by decide⟩
  | 3 => Or.inr ⟨rfl, by decide, by decide, by decide⟩
  | 4 => Or.inr ⟨rfl, by decide, by decide, by decide⟩
  | 5 => Or.inr ⟨rfl, by decide, by decide, by decide⟩
  | n + 6 => Or.inl (getD_0 (l := ([(2, 0, 0, 36), (2, 0, 0, 37), (2, 0, 0, 38), (2, 0, 0, 39), (2, 0, 0, 40), (2, 0, 0, 41), (0, -9223372036854775808, 9223372036854775807, 0), (0, -1, 24, 0), (0, -1, 24, 0), (0, -1, 24, 0), (0, -1, 24, 0), (0, -1, 23, 0), (0, -2147483648, 2147483647, 0), (0, 0, 1, 0), (0, -2147483648, 2147483647, 0), (0, 0, 40, 0), (0, 0, 39, 0), (0, -2147483648, 2147483647, 0)] : List (Nat × Int × Int × Nat)).drop 6) rfl n)
theorem low1 (j : Nat) : lowt (wty 1 j) = true := fineL (p := lowt) (e := (0, 0, 0, 0)) (l := ([(2, 0, 0, 2), (2, 0, 0, 3), (2, 0, 0, 6), (2, 0, 0, 12), (2, 0, 0, 20), (2, 0, 0, 25), (2, 0, 0, 27), (2, 0, 0, 27), (0, 0, 1, 0), (0, 0, 900, 0), (0, -2147483648, 2147483647, 0), (0, -2147483648, 2147483647, 0), (0, -2147483648, 2147483647, 0)] : List (Nat × Int × Int × Nat))) rfl rfl j
def rtF (T : wq_T) (C : Nat → Bool) (a : Nat) : Bool := match T.2.2.2 a with
  | some t => decide (t = 1) || (decide (27 ≤ t ∧ t ≤ 41) && C a)
  | none => false
def rtT (T : wq_T) (C : Nat → Bool) : wq_T := (T.1, T.2.1, T.2.2.1, fun a => if rtF T C a = true then (T.2.2.2 a).map (fun t => 200 + t) else T.2.2.2 a)
/-- references of the family stay within a colour -/
def SP (T : wq_T) (H : wq_H) (x : Nat) (C : Nat → Bool) : Prop := ∀ a t j, T.2.2.2 a = some t → ((t = 27 ∧ j < 7) ∨ (t = 28 ∧ j < 6) ∨ (t = 35 ∧ j < 6)) → C (H a j).toNat = C a
section RTS

variable {T : wq_T} {H H' : wq_H} {C : Nat → Bool} {a b t x : Nat} {l : List (Nat × Nat)}
theorem rtF_t (h : rtF T C a = true) : ∃ s, T.2.2.2 a = some s ∧ (s = 1 ∨ (27 ≤ s ∧ s ≤ 41 ∧ C a = true)) := by
  unfold rtF at h
  split at h
  · next s hs =>
    refine ⟨s, hs, ?_⟩
    simp only [Bool.or_eq_true, Bool.and_eq_true, decide_eq_true_eq] at h
    rcases h with h | h
    · exact Or.inl h
    · exact Or.inr ⟨h.1.1, h.1.2, h.2⟩
  · cases h
theorem rtF_o (h : T.2.2.2 a = some t) (h1 : t ≠ 1) (h2 : t < 27 ∨ 41 < t) : rtF T C a = false := by
  cases e : rtF T C a with
  | false => rfl
  | true =>
    obtain ⟨s, h3, h4⟩ := rtF_t e
    rw [h] at h3
    cases h3
    omega
theorem rtF_c (h : T.2.2.2 a = some t) (h1 : t ≠ 1) (hc : C a = false) : rtF T C a = false := by
  cases e : rtF T C a with
  | false => rfl
  | true =>
    obtain ⟨s, h3, h4⟩ := rtF_t e
    rw [h] at h3
    cases h3
    rw [hc] at h4
    rcases h4 with h4 | h4
    · exact absurd h4 h1
    · cases h4.2.2
theorem rtF_1 (h : T.2.2.2 a = some t) (h1 : 27 ≤ t) (h2 : t ≤ 41) (hc : C a = true) : rtF T C a = true := by
  unfold rtF
  rw [h]
  show (decide (t = 1) || (decide (27 ≤ t ∧ t ≤ 41) && C a)) = true
  rw [decide_eq_true (⟨h1, h2⟩ : 27 ≤ t ∧ t ≤ 41), hc]
  exact Bool.or_true _
theorem rtT_k (h : T.2.2.2 a = some t) (hF : rtF T C a = false) : (rtT T C).2.2.2 a = some t := by
  show (if rtF T C a = true then (T.2.2.2 a).map (fun t => 200 + t) else T.2.2.2 a) = some t
  rw [hF]
  exact h
theorem rtT_f (h : T.2.2.2 a = some t) (hF : rtF T C a = true) : (rtT T C).2.2.2 a = some (200 + t) := by
  show (if rtF T C a = true then (T.2.2.2 a).map (fun t => 200 + t) else T.2.2.2 a) = some (200 + t)
  rw [if_pos hF, h]
  rfl
theorem rtT_g {s : Nat} (h : (rtT T C).2.2.2 a = some s) : (rtF T C a = false ∧ T.2.2.2 a = some s) ∨ (rtF T C a = true ∧ ∃ u, T.2.2.2 a = some u ∧ s = 200 + u) := by
  have h : (if rtF T C a = true then (T.2.2.2 a).map (fun t => 200 + t) else T.2.2.2 a) = some s := h
  cases e : rtF T C a with
  | false =>
    rw [e] at h
    exact Or.inl ⟨rfl, h⟩
  | true =>
    rw [e, if_pos rfl] at h
    obtain ⟨u, h1, h2⟩ := Option.map_eq_some_iff.mp h
    exact Or.inr ⟨rfl, u, h1, h2.symm⟩
theorem rtT_lo {s : Nat} (h : (rtT T C).2.2.2 a = some s) (hs : s < 200) : T.2.2.2 a = some s := by
  rcases rtT_g h with ⟨-, h1⟩ | ⟨-, u, -, h2⟩
  · exact h1
  · omega
theorem okT_F {z : Nat} (h : T.2.2.2 z = some t) (ht : okT t = true) : rtF T C z = false := by
  unfold okT at ht
  simp only [Bool.and_eq_true, Bool.or_eq_true, bne_iff_ne, decide_eq_true_eq] at ht
  exact rtF_o h ht.1 ht.2
/-- a slot of a cell outside of the family points outside -/
theorem wok_rt {ty : Nat × Int × Int × Nat} {z : Int} (h : wok T ty z) (hk : ty.1 = 0 ∨ ty.1 = 5 ∨ ((ty.1 = 2 ∨ ty.1 = 3) ∧ ∀ s, T.2.2.2 z.toNat = some s → s = ty.2.2.2 → rtF T C z.toNat = false) ∨ (ty.1 = 4 ∧ ∀ s, T.2.2.2 z.toNat = some s → (s = ty.2.2.2 ∨ s = ty.2.1.toNat) → rtF T C z.toNat = false)) : wok (rtT T C) ty z := by
  obtain ⟨k, p, q, s⟩ := ty
  rcases hk with hk | hk | ⟨hk, hf⟩ | ⟨hk, hf⟩
  · have hk : k = 0 := hk
    subst hk
    exact h
  · have hk : k = 5 := hk
    subst hk
    trivial
  · have hk : k = 2 ∨ k = 3 := hk
    rcases hk with hk | hk
    · subst hk
      have h : 0 ≤ z ∧ T.2.2.2 z.toNat = some s := h
      exact ⟨h.1, rtT_k h.2 (hf s h.2 rfl)⟩
    · subst hk
      have h : z = -1 ∨ (0 ≤ z ∧ T.2.2.2 z.toNat = some s) := h
      rcases h with h | h
      · exact Or.inl h
      · exact Or.inr ⟨h.1, rtT_k h.2 (hf s h.2 rfl)⟩
  · have hk : k = 4 := hk
    subst hk
    have h : 0 ≤ z ∧ (T.2.2.2 z.toNat = some s ∨ T.2.2.2 z.toNat = some p.toNat) := h
    refine ⟨h.1, ?_⟩
    rcases h.2 with h2 | h2
    · exact Or.inl (rtT_k h2 (hf s h2 (Or.inl rfl)))
    · exact Or.inr (rtT_k h2 (hf _ h2 (Or.inr rfl)))
theorem wok_un {ty : Nat × Int × Int × Nat} {z : Int} (h : wok (rtT T C) ty z) (hk : ty.1 = 0 ∨ ty.1 = 5 ∨ lowt ty = true) : wok T ty z := by
  obtain ⟨k, p, q, s⟩ := ty
  rcases hk with hk | hk | hk
  · have hk : k = 0 := hk
    subst hk
    exact h
  · have hk : k = 5 := hk
    subst hk
    trivial
  · unfold lowt at hk
    simp only [Bool.or_eq_true, Bool.and_eq_true, beq_iff_eq, decide_eq_true_eq] at hk
    rcases hk with (hk | ⟨hk | hk, hs⟩) | ⟨⟨hk, hs⟩, hp⟩
    · subst hk
      exact h
    · subst hk
      have h : 0 ≤ z ∧ (rtT T C).2.2.2 z.toNat = some s := h
      exact ⟨h.1, rtT_lo h.2 hs⟩
    · subst hk
      have h : z = -1 ∨ (0 ≤ z ∧ (rtT T C).2.2.2 z.toNat = some s) := h
      rcases h with h | h
      · exact Or.inl h
      · exact Or.inr ⟨h.1, rtT_lo h.2 hs⟩
    · subst hk
      have h : 0 ≤ z ∧ ((rtT T C).2.2.2 z.toNat = some s ∨ (rtT T C).2.2.2 z.toNat = some p.toNat) := h
      refine ⟨h.1, ?_⟩
      rcases h.2 with h2 | h2
      · exact Or.inl (rtT_lo h2 hs)
      · exact Or.inr (rtT_lo h2 hp)
theorem famk_rt {n j : Nat} {z : Int} {ty : Nat × Int × Int × Nat} (h : famk n ty j) (hz : j < n → C z.toNat = false) : ty.1 = 0 ∨ ty.1 = 5 ∨ ((ty.1 = 2 ∨ ty.1 = 3) ∧ ∀ s, T.2.2.2 z.toNat = some s → s = ty.2.2.2 → rtF T C z.toNat = false) ∨ (ty.1 = 4 ∧ ∀ s, T.2.2.2 z.toNat = some s → (s = ty.2.2.2 ∨ s = ty.2.1.toNat) → rtF T C z.toNat = false) := by
  rcases h with h | ⟨h1, h2, -, h4⟩
  · exact Or.inl h
  · refine Or.inr (Or.inr (Or.inl ⟨Or.inl h1, fun s hs e => ?_⟩))
    subst e
    exact rtF_c hs h2 (hz h4)
theorem famk_un {n j : Nat} {ty : Nat × Int × Int × Nat} (h : famk n ty j) : ty.1 = 0 ∨ ty.1 = 5 ∨ lowt ty = true := by
  rcases h with h | ⟨h1, -, h3, -⟩
  · exact Or.inl h
  · refine Or.inr (Or.inr ?_)
    unfold lowt
    rw [h1, decide_eq_true h3]
    rfl
theorem fine_rt {z : Int} {ty : Nat × Int × Int × Nat} (h : fine ty = true) : ty.1 = 0 ∨ ty.1 = 5 ∨ ((ty.1 = 2 ∨ ty.1 = 3) ∧ ∀ s, T.2.2.2 z.toNat = some s → s = ty.2.2.2 → rtF T C z.toNat = false) ∨ (ty.1 = 4 ∧ ∀ s, T.2.2.2 z.toNat = some s → (s = ty.2.2.2 ∨ s = ty.2.1.toNat) → rtF T C z.toNat = false) := by
  unfold fine at h
  simp only [Bool.or_eq_true, Bool.and_eq_true, beq_iff_eq] at h
  rcases h with (h | ⟨h, hs⟩) | ⟨⟨h, hs⟩, hp⟩
  · exact Or.inl h
  · exact Or.inr (Or.inr (Or.inl ⟨h, fun s e1 e2 => okT_F e1 (by rw [e2]; exact hs)⟩))
  · refine Or.inr (Or.inr (Or.inr ⟨h, fun s e1 e2 => okT_F e1 ?_⟩))
    rcases e2 with e2 | e2
    · rw [e2]
      exact hs
    · rw [e2]
      exact hp
/-- what lies outside points outside -/
def SQ (T : wq_T) (H : wq_H) (C : Nat → Bool) : Prop := ∀ a t j, T.2.2.2 a = some t → ((t = 27 ∧ j < 7) ∨ (t = 28 ∧ j < 6) ∨ (t = 35 ∧ j < 6)) → C a = false → C (H a j).toNat = false
theorem SP.sq (h : SP T H x C) : SQ T H C := fun a t j h1 h2 h3 => (h a t j h1 h2).trans h3
theorem rt_WT (hW : WT T H) (hS : SQ T H C) : WT (rtT T C) H := by
  refine ⟨⟨rtT_k hW.1.1 (rtF_o hW.1.1 (by decide) (by decide)), rtT_k hW.1.2.1 (rtF_o hW.1.2.1 (by decide) (by decide)), fun i hi => rtT_k (hW.1.2.2 i hi) (rtF_o (hW.1.2.2 i hi) (by omega) (by omega))⟩, fun a t ht => ?_⟩
  rcases rtT_g ht with ⟨hF, h1⟩ | ⟨hF, u, h1, rfl⟩
  · obtain ⟨w1, w2, w3⟩ := hW.2 a t h1
    refine ⟨w1, w2, fun j hj => wok_rt (w3 j hj) ?_⟩
    by_cases h80 : t < 80
    · by_cases t1 : t = 1
      · subst t1
        have e1 : rtF T C a = true := by
          unfold rtF
          rw [h1]
          rfl
        rw [e1] at hF
        cases hF
      · have hc : 27 ≤ t → t ≤ 41 → C a = false := fun p q => by
          cases e : C a with
          | false => rfl
          | true =>
            rw [rtF_1 h1 p q e] at hF
            cases hF
        by_cases t27 : t = 27
        · subst t27
          exact famk_rt (fam27 j) (fun h7 => hS a 27 j h1 (Or.inl ⟨rfl, h7⟩) (hc (by decide) (by decide)))
        · by_cases t28 : t = 28
          · subst t28
            exact famk_rt (fam28 j hj) (fun h7 => hS a 28 j h1 (Or.inr (Or.inl ⟨rfl, h7⟩)) (hc (by decide) (by decide)))
          · by_cases t35 : t = 35
            · subst t35
              exact famk_rt (fam35 j) (fun h7 => hS a 35 j h1 (Or.inr (Or.inr ⟨rfl, h7⟩)) (hc (by decide) (by decide)))
            · exact fine_rt (wty_fin h80 t1 t27 t28 t35 j).1
    · rcases wty_hi (show 80 ≤ t by omega) j with h | h
      · exact Or.inl h
      · exact Or.inr (Or.inl h)
  · obtain ⟨w1, w2, w3⟩ := hW.2 a u h1
    obtain ⟨s, h2, h3⟩ := rtF_t hF
    rw [h1] at h2
    cases h2
    have h80 : u < 80 := by omega
    refine ⟨by rw [wsh_200 h80]; exact w1, fun h => by omega, fun j hj => ?_⟩
    have h5 := wty_200 h80 j
    generalize wty (200 + u) j = ty at h5
    obtain ⟨k, p, q, s⟩ := ty
    have h5 : k = 5 := h5
    subst h5
    trivial
theorem rt_old (hf : wfr l (rtT T C) H H') (hl : l.all (fun q => decide (q.1 < 200)) = true) : ∀ a, rtF T C a = true → H' a = H a := fun a ha => by
  obtain ⟨s, h1, -⟩ := rtF_t ha
  funext j
  refine hf a j (200 + s) (rtT_f h1 ha) (wmem_no (fun q hq hh => ?_))
  have := of_decide_eq_true (List.all_eq_true.mp hl q hq)
  have := hh.1
  omega
theorem rt_fr (hf : wfr l (rtT T C) H H') (hl : l.all (fun q => decide (q.1 < 200)) = true) : wfr l T H H' := fun a j t ht hm => by
  cases e : rtF T C a with
  | false => exact hf a j t (rtT_k ht e) hm
  | true => rw [rt_old hf hl a e]
theorem rt_un (hW : WT T H) (hW' : WT (rtT T C) H') (ho : ∀ a, rtF T C a = true → H' a = H a) : WT T H' := by
  refine ⟨hW.1, fun a t ht => ?_⟩
  obtain ⟨w1, w2, w3⟩ := hW.2 a t ht
  refine ⟨w1, w2, fun j hj => ?_⟩
  cases e : rtF T C a with
  | true =>
    rw [ho a e]
    exact w3 j hj
  | false =>
    refine wok_un ((hW'.2 a t (rtT_k ht e)).2.2 j hj) ?_
    by_cases h80 : t < 80
    · by_cases t1 : t = 1
      · subst t1
        exact Or.inr (Or.inr (low1 j))
      · by_cases t27 : t = 27
        · subst t27
          exact famk_un (fam27 j)
        · by_cases t28 : t = 28
          · subst t28
            exact famk_un (fam28 j hj)
          · by_cases t35 : t = 35
            · subst t35
              exact famk_un (fam35 j)
            · exact Or.inr (Or.inr (wty_fin h80 t1 t27 t28 t35 j).2)
    · rcases wty_hi (show 80 ≤ t by omega) j with h | h
      · exact Or.inl h
      · exact Or.inr (Or.inl h)
theorem rt_wpc {kt : Nat → Option mc_E} {d k : Nat} {as : List Value} {Q : Option Value → wq_T → wq_H → Prop} (h : wpc kt d k as (rtT T C) H Q) (hq : ∀ r T' H', Q r T' H' → rtT T C = T') : wpc kt d k as T H (fun r T' H' => T = T' ∧ Q r (rtT T C) H') := fun M hM => by
  obtain ⟨F, w, T', H', h1, h2, h3⟩ := h M hM
  have e := hq _ _ _ h3
  subst e
  exact ⟨F, w, T, H', h1, h2, rfl, h3⟩
theorem SP_not (h : SP T H x C) : SP T H x (fun a => !(C a)) := fun a t j ht hj => by
  show (!(C (H a j).toNat)) = !(C a)
  rw [h a t j ht hj]
def SPx (l : List (Nat × Nat)) : Bool := wno l 27 (fun j => decide (j < 7)) && wno l 28 (fun _ => true) && wno l 35 (fun j => decide (j < 6))
theorem SP_fr (hW : WT T H) (g : T.2.2.2 x = some 1) (f : wfr l T H H') (y : SPx l = true) (h : SP T H x C) : SP T H' x C := by
  unfold SPx at y
  simp only [Bool.and_eq_true] at y
  intro a t j ht hj
  rw [← h a t j ht hj]
  rcases hj with ⟨rfl, h7⟩ | ⟨rfl, h7⟩ | ⟨rfl, h7⟩
  · rw [wno_f f ht y.1.1 (decide_eq_true h7)]
  · rw [wno_f f ht y.1.2 rfl]
  · rw [wno_f f ht y.2 (decide_eq_true h7)]
theorem DD_rt {r : Nat} (g : T.2.2.2 r = some 27) (hS : SP T H x C) (hc : C r = false) (h : DD T H r) : DD (rtT T C) H r := by
  obtain ⟨pa, h1, h2, h3⟩ := h
  refine ⟨pa, h1, rtT_k h2 (rtF_c h2 (by decide) ?_), h3⟩
  have := hS r 27 0 g (Or.inl ⟨rfl, by decide⟩)
  rw [h1, Int.toNat_natCast] at this
  exact this.trans hc
theorem DC_un {r : Nat} {d : xD} (h : DC (rtT T C) H r d) : DC T H r d := by
  obtain ⟨h1, ⟨h2, h2b⟩, ⟨s, h3, h3b, h3c⟩, ⟨b, h4, h4b, h4c⟩, ⟨b5, h5, h5b, h5c⟩, ⟨b6, h6, h6b, h6c⟩, ⟨b7, h7, h7b, h7c⟩, ⟨b8, h8, h8b, h8c⟩⟩ := h
  refine ⟨h1, ⟨fun k hk => ?_, h2b⟩, ⟨s, h3, rtT_lo h3b (by decide), h3c⟩, ⟨b, h4, rtT_lo h4b (by decide), h4c⟩, ⟨b5, h5, rtT_lo h5b (by decide), h5c⟩, ⟨b6, h6, rtT_lo h6b (by decide), h6c⟩, ⟨b7, h7, rtT_lo h7b (by decide), h7c⟩, ⟨b8, h8, rtT_lo h8b (by decide), h8c⟩⟩
  obtain ⟨p, h9, h10, h11⟩ := h2 k hk
  exact ⟨p, h9, rtT_lo h10 (by decide), h11⟩
/-- what lies in the family is as it was -/
theorem fz_arr {r b j tg : Nat} (g : T.2.2.2 r = some 27) (hS : SP T H x C) (hc : C r = true) (ho : ∀ a, rtF T C a = true → H' a = H a) (hj : j < 7) (h1 : H r j = (b : Int)) (h2 : T.2.2.2 b = some tg) (ht : 27 ≤ tg) (ht2 : tg ≤ 41) : C b = true ∧ H' b = H b := by
  have h3 := hS r 27 j g (Or.inl ⟨rfl, hj⟩)
  rw [h1, Int.toNat_natCast] at h3
  exact ⟨h3.trans hc, ho b (rtF_1 h2 ht ht2 (h3.trans hc))⟩
theorem fz_per {r k p : Nat} (hW : WT T H) (g : T.2.2.2 r = some 27) (hS : SP T H x C) (hc : C r = true) (ho : ∀ a, rtF T C a = true → H' a = H a) (hk : k < 6) (h1 : H (H r 0).toNat k = (p : Int)) (h2 : T.2.2.2 p = some 35) : H' (H' r 0).toNat k = (p : Int) ∧ C p = true ∧ H' p = H p := by
  obtain ⟨pa, q1, q2⟩ := hW.ref g (t' := 28) (n := 19) (j := 0) (p := 0) (q := 0) rfl (by decide) rfl
  have ⟨c1, e1⟩ := fz_arr g hS hc ho (by decide) q1 q2 (by decide) (by decide)
  rw [q1, Int.toNat_natCast] at h1
  have h3 := hS pa 28 k q2 (Or.inr (Or.inl ⟨rfl, hk⟩))
  rw [h1, Int.toNat_natCast] at h3
  refine ⟨?_, h3.trans c1, ho p (rtF_1 h2 (by decide) (by decide) (h3.trans c1))⟩
  rw [ho r (rtF_1 g (by decide) (by decide) hc), q1, Int.toNat_natCast, e1]
  exact h1
theorem DC_fz {r : Nat} {d : xD} (hW : WT T H) (g : T.2.2.2 r = some 27) (hS : SP T H x C) (hc : C r = true) (ho : ∀ a, rtF T C a = true → H' a = H a) (h : DC T H r d) : DC T H' r d := by
  have er : H' r = H r := ho r (rtF_1 g (by decide) (by decide) hc)
  obtain ⟨h1, ⟨h2, h2b⟩, ⟨s, h3, h3b, h3c⟩, ⟨b, h4, h4b, h4c⟩, ⟨b5, h5, h5b, h5c⟩, ⟨b6, h6, h6b, h6c⟩, ⟨b7, h7, h7b, h7c⟩, ⟨b8, h8, h8b, h8c⟩⟩ := h
  have es := (fz_arr g hS hc ho (by decide) h3 h3b (by decide) (by decide)).2
  have eb := (fz_arr g hS hc ho (by decide) h4 h4b (by decide) (by decide)).2
  have e5 := (fz_arr g hS hc ho (by decide) h5 h5b (by decide) (by decide)).2
  have e6 := (fz_arr g hS hc ho (by decide) h6 h6b (by decide) (by decide)).2
  have e7 := (fz_arr g hS hc ho (by decide) h7 h7b (by decide) (by decide)).2
  have e8 := (fz_arr g hS hc ho (by decide) h8 h8b (by decide) (by decide)).2
  refine ⟨by unfold DSm; rw [er]; exact h1, ⟨fun k hk => ?_, h2b⟩, ⟨s, by rw [er]; exact h3, h3b, by rw [es]; exact h3c⟩, ⟨b, by rw [er]; exact h4, h4b, by rw [eb]; exact h4c⟩, ⟨b5, by rw [er]; exact h5, h5b, by rw [e5]; exact h5c⟩, ⟨b6, by rw [er]; exact h6, h6b, by rw [e6]; exact h6c⟩, ⟨b7, by rw [er]; exact h7, h7b, by rw [e7]; exact h7c⟩, ⟨b8, by rw [er]; exact h8, h8b, by rw [e8]; exact h8c⟩⟩
  obtain ⟨p, h9, h10, h11⟩ := h2 k hk
  have hk6 : k < 6 := by
    have := h1.2.2.2.2.2.2.2.2.2.2.2.2.2.1
    omega
  obtain ⟨q1, q2, q3⟩ := fz_per hW g hS hc ho hk6 h9 h10
  exact ⟨p, q1, h10, by unfold PF; rw [q3]; exact h11⟩
end RTS
end
section
/-! SPANS (own work): what is told, cut to its HOURS; a person's SPANS as a list; the relations of both programs to it -/
/-- bits, one after the other -/
def xob (P : Nat → Bool) : Nat → Int
  | 0 => 0
  | n + 1 => if P n = true then wq_or (xob P n) (wq_shl 1 n) else xob P n
theorem wq_or_0 {x : Int} (h : -2147483648 ≤ x ∧ x ≤ 2147483647) : wq_or x 0 = x := by
  unfold wq_or
  rw [show Int32.ofInt 0 = 0 from rfl, Int32.or_zero]
  exact Int32.toInt_ofInt_of_le h.1 (by omega)
theorem xob_s {P : Nat → Bool} {i : Int} (h : 0 ≤ i) (hp : P i.toNat = true) : xob P (i + 1).toNat = wq_or (xob P i.toNat) (wq_shl 1 i) := by
  rw [show (i + 1).toNat = i.toNat + 1 by omega]
  show (if P i.toNat = true then wq_or (xob P i.toNat) (wq_shl 1 (i.toNat : Nat)) else xob P i.toNat) = _
  rw [if_pos hp, Int.toNat_of_nonneg h]
theorem xob_n {P : Nat → Bool} {i : Int} (h : 0 ≤ i) (hp : P i.toNat = false) : xob P (i + 1).toNat = xob P i.toNat := by
  rw [show (i + 1).toNat = i.toNat + 1 by omega]
  show (if P i.toNat = true then wq_or (xob P i.toNat) (wq_shl 1 (i.toNat : Nat)) else xob P i.toNat) = _
  rw [if_neg (by rw [hp]; decide)]
theorem xob_cg {P Q : Nat → Bool} : ∀ n : Nat, (∀ j, j < n → P j = Q j) → xob P n = xob Q n
  | 0, _ => rfl
  | n + 1, h => by
    show (if P n = true then wq_or (xob P n) (wq_shl 1 n) else xob P n) = (if Q n = true then wq_or (xob Q n) (wq_shl 1 n) else xob Q n)
    rw [h n (by omega), xob_cg n (fun j hj => h j (by omega))]
theorem xob_gap {P : Nat → Bool} {u h : Nat} (hu : u ≤ h) (hp : ∀ j, u ≤ j → j < h → P j = false) : xob P h = xob P u := by
  induction h with
  | zero =>
    have : u = 0 := by omega
    subst this
    rfl
  | succ n ih =>
    by_cases e : u = n + 1
    · rw [e]
    · show (if P n = true then wq_or (xob P n) (wq_shl 1 n) else xob P n) = _
      rw [hp n (by omega) (by omega), if_neg (by decide)]
      exact ih (by omega) (fun j h1 h2 => hp j h1 (by omega))
theorem xob_pn {P : Nat → Bool} {u n : Nat} {x : Int} (hx : x = xob P u) (g : xob P n = xob P u) (h : P n = false) : x = xob P (n + 1) := by
  show x = (if P n = true then wq_or (xob P n) (wq_shl 1 n) else xob P n)
  rw [h, if_neg (by decide), g]
  exact hx
theorem xob_py {P : Nat → Bool} {u n : Nat} {x y s w : Int} (hx : x = xob P u) (g : xob P n = xob P u) (h : P n = true) (e1 : y = wq_or x s) (e2 : s = wq_shl 1 w) (ew : w = n) : y = xob P (n + 1) := by
  show y = (if P n = true then wq_or (xob P n) (wq_shl 1 n) else xob P n)
  rw [h, if_pos rfl, g, ← hx, e1, e2, ew]
theorem SV_at {T : wq_T} {H : wq_H} {r b h : Nat} {f : Nat → Int} {i : Int} (q : SV T H r f i) (e0 : H r 2 = (b : Int)) (hk : (h : Int) < i) (hp : f h > 0) : H b (xcn f h).toNat = h := by
  obtain ⟨b', h1, -, h3⟩ := q
  have : b' = b := by omega
  subst this
  exact h3 h hk hp
theorem ST_at2 {T : wq_T} {H : wq_H} {r s k h : Nat} {f : Nat → Int} (q : ST T H r f) (e0 : H r 1 = (s : Int)) (hk : k < 24) (e : k = h) : 0 ≤ f h ∧ f h ≤ 100 ∧ ((f h > 0 ∧ H s k = f h - 1) ∨ (f h = 0 ∧ H s k = -2)) := by
  subst e
  exact ST_at q e0 hk
/-- the next HOUR struck -/
theorem xcn_nx {f : Nat → Int} {u : Nat} : ∀ n : Nat, u ≤ n → xcn f u < xcn f n → ∃ h, u ≤ h ∧ h < n ∧ f h > 0 ∧ xcn f h = xcn f u ∧ (∀ j, u ≤ j → j < h → f j ≤ 0)
  | 0, h0, h1 => by
    have : u = 0 := by omega
    subst this
    omega
  | n + 1, h0, h1 => by
    by_cases e : u = n + 1
    · rw [e] at h1
      omega
    · by_cases h2 : xcn f u < xcn f n
      · obtain ⟨h, a, b, c, q, r⟩ := xcn_nx n (by omega) h2
        exact ⟨h, a, by omega, c, q, r⟩
      · have h3 := xcn_mono (f := f) (m := u) n (by omega)
        have h4 : xcn f (n + 1) = xcn f n + (if f n > 0 then 1 else 0) := rfl
        have h5 : f n > 0 := by
          by_cases q : f n > 0
          · exact q
          · rw [if_neg q] at h4
            omega
        refine ⟨n, by omega, by omega, h5, by omega, fun j a b => ?_⟩
        by_cases q : f j ≤ 0
        · exact q
        · have := xcn_mono (f := f) (m := u) j a
          have := xcn_lt (f := f) b (by omega)
          omega
/-- what is told, cut to its HOURS -/
def xcu (f : Nat → Int) (n v : Int) : Nat → Int := fun h => if n ≤ h ∧ (h : Int) < v then 0 else f h
def xmk (f : Nat → Int) (a v : Int) : Nat → Int := fun k => if (k : Int) < v then wq_and (f k) a else f k
def xal (d : xD) : Int := xhs 0 (d 0 0)
def xset (d : xD) : xD := fun i => if i = 13 then xcu (d 13) (d 0 0) 24 else if i = 15 then xmk (d 15) (xal d) (d 0 6) else if i = 16 then xmk (d 16) (xal d) (d 0 7) else d i
theorem xset_o {d : xD} {i : Nat} (h : i ≠ 13 ∧ i ≠ 15 ∧ i ≠ 16) : xset d i = d i := by
  unfold xset
  rw [if_neg h.1, if_neg h.2.1, if_neg h.2.2]
theorem xset_13 {d : xD} : xset d 13 = xcu (d 13) (d 0 0) 24 := rfl
theorem xset_v {d : xD} : xset d 0 0 = d 0 0 ∧ xset d 0 1 = d 0 1 ∧ xset d 0 2 = d 0 2 ∧ xset d 0 3 = d 0 3 ∧ xset d 0 4 = d 0 4 ∧ xset d 0 5 = d 0 5 ∧ xset d 0 6 = d 0 6 ∧ xset d 0 7 = d 0 7 ∧ xset d 0 8 = d 0 8 := ⟨rfl, rfl, rfl, rfl, rfl, rfl, rfl, rfl, rfl⟩
theorem xcu_0 {f : Nat → Int} {n : Int} : xcu f n n = f := by
  funext h
  exact if_neg (by omega)
theorem xcu_c {f : Nat → Int} {n v : Int} (h0 : 0 ≤ v) (h : n ≤ v) : xcu f n (v + 1) v.toNat = 0 ∧ ∀ j : Nat, j ≠ v.toNat → xcu f n (v + 1) j = xcu f n v j := by
  refine ⟨if_pos (by omega), fun j hj => ?_⟩
  unfold xcu
  by_cases q : n ≤ (j : Int) ∧ (j : Int) < v
  · rw [if_pos q, if_pos (by omega)]
  · rw [if_neg q, if_neg (by omega)]
theorem xmk_0 {f : Nat → Int} {a : Int} : xmk f a 0 = f := by
  funext k
  exact if_neg (by omega)
theorem xmk_c {f : Nat → Int} {a v : Int} (h0 : 0 ≤ v) : xmk f a (v + 1) v.toNat = wq_and (f v.toNat) a ∧ (∀ j : Nat, j ≠ v.toNat → xmk f a (v + 1) j = xmk f a v j) ∧ xmk f a v v.toNat = f v.toNat := by
  refine ⟨if_pos (by omega), fun j hj => ?_, if_neg (by omega)⟩
  unfold xmk
  by_cases q : (j : Int) < v
  · rw [if_pos q, if_pos (by omega)]
  · rw [if_neg q, if_neg (by omega)]
/-- a person's SPANS -/
def xsl (d : xD) (k : Nat) (b l : Int) : Int := wq_and (wq_or (xhs b (b + l)) (xhs (d 7 k) (d 8 k))) (xal d)
def xmu (d : xD) (k : Nat) : Int := if (k : Int) = d 0 8 then xob (fun h => decide (d 13 h > 0)) 24 else 0
def xsr (d : xD) (k : Nat) (b : Int) : Int → Nat → List (Int × Int)
  | _, 0 => []
  | l, n + 1 => (if wq_and (xsl d k b l) (xmu d k) = 0 then [(b, l)] else []) ++ xsr d k b (l + 1) n
def xsa (d : xD) (k : Nat) : Int → Nat → List (Int × Int)
  | _, 0 => []
  | b, n + 1 => xsr d k b (d 4 k) (d 5 k + 1 - d 4 k).toNat ++ xsa d k (b + 1) n
def xsp (d : xD) (k : Nat) : List (Int × Int) := if d 9 k = 1 then [(0, 0)] else xsa d k (d 2 k) (d 3 k + 1 - d 2 k).toNat
def xas (d : xD) (k : Nat) (x : Int × Int) : Int := if d 9 k = 1 then 0 else xsl d k x.1 x.2
def xwk (d : xD) (k : Nat) (x : Int × Int) : Int := if d 9 k = 1 then 0 else wq_and (xal d) (wq_xor (xsl d k x.1 x.2) (-1))
def xtal (b : Int) : Nat → Int
  | 0 => 0
  | n + 1 => wl_or (xtal b n) (wl_shl (wl_and (wq_shr b n) 1) ((n : Int) * 4))
theorem xtal_s {b v : Int} (h : 0 ≤ v) : xtal b (v + 1).toNat = wl_or (xtal b v.toNat) (wl_shl (wl_and (wq_shr b v) 1) (v * 4)) := by
  rw [show (v + 1).toNat = v.toNat + 1 by omega]
  show wl_or (xtal b v.toNat) (wl_shl (wl_and (wq_shr b (v.toNat : Nat)) 1) (((v.toNat : Nat) : Int) * 4)) = _
  rw [Int.toNat_of_nonneg h]
section XSP2

variable {d : xD} {k : Nat} {P : List (Int × Int)} {b l z q a v w : Int}
theorem xsl_e (h1 : w = wq_or z q) (h2 : v = wq_and w a) (hz : z = xhs b (b + l)) (hq : q = xhs (d 7 k) (d 8 k)) (ha : a = xal d) : v = xsl d k b l := by
  unfold xsl
  rw [h2, h1, hz, hq, ha]
theorem xsr_len : ∀ (n : Nat) (l : Int), (xsr d k b l n).length ≤ n
  | 0, _ => Nat.le_refl _
  | n + 1, l => by
    show ((if wq_and (xsl d k b l) (xmu d k) = 0 then [(b, l)] else []) ++ xsr d k b (l + 1) n).length ≤ n + 1
    rw [List.length_append]
    have h1 := xsr_len n (l + 1)
    split
    · simp only [List.length_cons, List.length_nil]
      omega
    · simp only [List.length_nil]
      omega
theorem xsa_len (h5 : (d 5 k + 1 - d 4 k).toNat ≤ 5) : ∀ (n : Nat) (b : Int), (xsa d k b n).length ≤ 5 * n
  | 0, _ => Nat.le_refl _
  | n + 1, b => by
    show (xsr d k b (d 4 k) (d 5 k + 1 - d 4 k).toNat ++ xsa d k (b + 1) n).length ≤ 5 * (n + 1)
    rw [List.length_append]
    have h1 := xsa_len h5 n (b + 1)
    have h2 := @xsr_len d k b (d 5 k + 1 - d 4 k).toNat (d 4 k)
    omega
theorem xsp_len (h : xdP d) : (xsp d k).length ≤ 40 := by
  unfold xsp
  split
  · decide
  · have h1 := h k
    have h2 := @xsa_len d k (by omega) (d 3 k + 1 - d 2 k).toNat (d 2 k)
    omega
/-- at a head -/
theorem xsa_u (h : b ≤ d 3 k) : xsa d k b (d 3 k + 1 - b).toNat = xsr d k b (d 4 k) (d 5 k + 1 - d 4 k).toNat ++ xsa d k (b + 1) (d 3 k - b).toNat := by
  rw [show (d 3 k + 1 - b).toNat = (d 3 k - b).toNat + 1 by omega]
  rfl
theorem xsa_e (h : d 3 k < b) : xsa d k b (d 3 k + 1 - b).toNat = [] := by
  rw [show (d 3 k + 1 - b).toNat = 0 by omega]
  rfl
theorem xsr_u (h : l ≤ d 5 k) : xsr d k b l (d 5 k + 1 - l).toNat = (if wq_and (xsl d k b l) (xmu d k) = 0 then [(b, l)] else []) ++ xsr d k b (l + 1) (d 5 k + 1 - (l + 1)).toNat := by
  rw [show (d 5 k + 1 - l).toNat = (d 5 k + 1 - (l + 1)).toNat + 1 by omega]
  rfl
theorem xsr_e (h : d 5 k < l) : xsr d k b l (d 5 k + 1 - l).toNat = [] := by
  rw [show (d 5 k + 1 - l).toNat = 0 by omega]
  rfl
/-- the loops' facts -/
def xfo (d : xD) (k : Nat) (P : List (Int × Int)) (b : Int) : Prop := P ++ xsa d k b (d 3 k + 1 - b).toNat = xsp d k
def xfn (d : xD) (k : Nat) (P : List (Int × Int)) (b l : Int) : Prop := P ++ (xsr d k b l (d 5 k + 1 - l).toNat ++ xsa d k (b + 1) (d 3 k - b).toNat) = xsp d k
theorem xfo_0 (h : d 9 k ≠ 1) (hb : b = d 2 k) : xfo d k [] b := by
  unfold xfo xsp
  rw [if_neg h, hb]
  rfl
theorem xfo_i (h : xfo d k P b) (hb : b ≤ d 3 k) (hl : l = d 4 k) : xfn d k P b l := by
  unfold xfn
  unfold xfo at h
  rw [hl, ← xsa_u hb]
  exact h
theorem xfn_o (h : xfn d k P b l) (hl : d 5 k < l) : xfo d k P (b + 1) := by
  unfold xfn at h
  unfold xfo
  rw [xsr_e hl] at h
  rw [show d 3 k + 1 - (b + 1) = d 3 k - b by omega]
  exact h
theorem xfn_y (h : xfn d k P b l) (hl : l ≤ d 5 k) (hw : wq_and (xsl d k b l) (xmu d k) = 0) : xfn d k (P ++ [(b, l)]) b (l + 1) := by
  unfold xfn at h ⊢
  rw [xsr_u hl, if_pos hw] at h
  rw [← h]
  simp only [List.append_assoc]
theorem xfn_n (h : xfn d k P b l) (hl : l ≤ d 5 k) (hw : wq_and (xsl d k b l) (xmu d k) ≠ 0) : xfn d k P b (l + 1) := by
  unfold xfn at h ⊢
  rw [xsr_u hl, if_neg hw] at h
  exact h
theorem xfn_room (hP : xdP d) (h : xfn d k P b l) (hl : l ≤ d 5 k) (hw : wq_and (xsl d k b l) (xmu d k) = 0) : (P.length : Int) ≤ 39 := by
  have h1 := xfn_y h hl hw
  have h2 := @xsp_len d k hP
  unfold xfn at h1
  rw [← h1] at h2
  simp only [List.length_append, List.length_cons, List.length_nil] at h2
  omega
theorem xfo_e (h : xfo d k P b) (hb : d 3 k < b) : P = xsp d k := by
  unfold xfo at h
  rw [xsa_e hb, List.append_nil] at h
  exact h
theorem xsp_away (h : d 9 k = 1) : [] ++ [((0 : Int), (0 : Int))] = xsp d k := by
  unfold xsp
  rw [if_pos h]
  rfl
theorem xas_away (h : d 9 k = 1) : xas d k (0, 0) = 0 ∧ xwk d k (0, 0) = 0 := ⟨if_pos h, if_pos h⟩
theorem xas_not (h : d 9 k ≠ 1) {x : Int × Int} : xas d k x = xsl d k x.1 x.2 ∧ xwk d k x = wq_and (xal d) (wq_xor (xsl d k x.1 x.2) (-1)) := ⟨if_neg h, if_neg h⟩
/-- the list's rows -/
def xr1 (P : List (Int × Int)) : Nat → Int := fun i => (P.getD i (0, 0)).1
def xr2 (P : List (Int × Int)) : Nat → Int := fun i => (P.getD i (0, 0)).2
def xr3 (d : xD) (k : Nat) (P : List (Int × Int)) : Nat → Int := fun i => xas d k (P.getD i (0, 0))
def xr4 (d : xD) (k : Nat) (P : List (Int × Int)) : Nat → Int := fun i => xwk d k (P.getD i (0, 0))
def xr5 (d : xD) (k : Nat) (P : List (Int × Int)) : Nat → Int := fun i => xtal (xwk d k (P.getD i (0, 0))) 12
def xr6 (d : xD) (k : Nat) (P : List (Int × Int)) : Nat → Int := fun i => xtal (wq_shr (xwk d k (P.getD i (0, 0))) 12) 12
theorem getD_ap {x : Int × Int} : (P ++ [x]).getD P.length (0, 0) = x ∧ ∀ j, j ≠ P.length → (P ++ [x]).getD j (0, 0) = P.getD j (0, 0) := by
  refine ⟨by rw [List.getD_eq_getElem?_getD, List.getElem?_append_right (Nat.le_refl _), Nat.sub_self]; rfl, fun j hj => ?_⟩
  rw [List.getD_eq_getElem?_getD, List.getD_eq_getElem?_getD]
  by_cases h : j < P.length
  · rw [List.getElem?_append_left h]
  · rw [List.getElem?_append_right (by omega), List.getElem?_eq_none (by simp only [List.length_cons, List.length_nil]; omega), List.getElem?_eq_none (by omega)]
end XSP2
/-! an array of another owner, as far as it is filled -/
section DAO

variable {T : wq_T} {H H' : wq_H} {l : List (Nat × Nat)} {r b k o S tg : Nat} {c c' v : Int} {f f' : Nat → Int}
def DAw (o S tg : Nat) (l : List (Nat × Nat)) : Bool := wno l o (fun j => decide (j = S)) && wno l tg (fun _ => true)
theorem DAo_fr (g : T.2.2.2 r = some o) (f0 : wfr l T H H') (x : DAw o S tg l = true) (h : DA S tg T H r c f) : DA S tg T H' r c f := by
  unfold DAw at x
  simp only [Bool.and_eq_true] at x
  obtain ⟨b, h1, h2, h3⟩ := h
  exact ⟨b, (wno_f f0 g x.1 (by simp)).trans h1, h2, fun k hk => (wno_f f0 h2 x.2 rfl).trans (h3 k hk)⟩
theorem DAo_put (h : DA S tg T H r c f) (e0 : H r S = (b : Int)) (gr : T.2.2.2 r = some o) (gb : T.2.2.2 b = some tg) (ne : tg ≠ o) (e : H' = wq_u H b k v) (hk : (k : Int) = c) (hc : c' = c + 1) (fk : f' k = v) (fn : ∀ j, j ≠ k → f' j = f j) : DA S tg T H' r c' f' := by
  obtain ⟨b', h1, h2, h3⟩ := h
  have hb : b' = b := by omega
  subst hb
  refine ⟨b', ?_, h2, fun j hj => ?_⟩
  · rw [e, wq_u_na (fun q => ?_)]
    · exact h1
    · subst q
      rw [gr] at gb
      exact ne (Option.some.inj gb).symm
  · by_cases hjk : j = k
    · subst hjk
      rw [e, wq_u_eq, fk]
    · rw [e, wq_u_ne (fun q => hjk q.2), fn j hjk]
      exact h3 j (by omega)
/-- one place of it anew -/
theorem DAo_set (h : DA S tg T H r c f) (e0 : H r S = (b : Int)) (gr : T.2.2.2 r = some o) (gb : T.2.2.2 b = some tg) (ne : tg ≠ o) (e : H' = wq_u H b k v) (fk : f' k = v) (fn : ∀ j, j ≠ k → f' j = f j) : DA S tg T H' r c f' := by
  obtain ⟨b', h1, h2, h3⟩ := h
  have hb : b' = b := by omega
  subst hb
  refine ⟨b', ?_, h2, fun j hj => ?_⟩
  · rw [e, wq_u_na (fun q => ?_)]
    · exact h1
    · subst q
      rw [gr] at gb
      exact ne (Option.some.inj gb).symm
  · by_cases hjk : j = k
    · subst hjk
      rw [e, wq_u_eq, fk]
    · rw [e, wq_u_ne (fun q => hjk q.2), fn j hjk]
      exact h3 j hj
theorem DA_at (h : DA S tg T H r c f) (e0 : H r S = (b : Int)) (hk : (k : Int) < c) : H b k = f k := by
  obtain ⟨b', h1, -, h3⟩ := h
  have : b' = b := by omega
  subst this
  exact h3 k hk
theorem DA_le (h : DA S tg T H r c f) (hc : c' ≤ c) : DA S tg T H r c' f := by
  obtain ⟨b, h1, h2, h3⟩ := h
  exact ⟨b, h1, h2, fun k hk => h3 k (by omega)⟩
theorem DA_cg (h : DA S tg T H r c f) (e : c' = c) (e2 : f' = f) : DA S tg T H r c' f' := by rw [e, e2]; exact h
end DAO
/-- a person of the class: what it was told, its SPANS -/
def PX (T : wq_T) (H : wq_H) (p : Nat) (d : xD) (k : Nat) : Prop := PF H p d k ∧ xdP d
abbrev PA0 := DA 0 36
abbrev PA1 := DA 1 37
abbrev PA2 := DA 2 38
abbrev PA3 := DA 3 39
abbrev PA4 := DA 4 40
abbrev PA5 := DA 5 41
def PS (T : wq_T) (H : wq_H) (p : Nat) (d : xD) (k : Nat) (P : List (Int × Int)) : Prop := H p 15 = (P.length : Int) ∧ PA0 T H p P.length (xr1 P) ∧ PA1 T H p P.length (xr2 P) ∧ PA2 T H p P.length (xr3 d k P) ∧ PA3 T H p P.length (xr4 d k P) ∧ PA4 T H p P.length (xr5 d k P) ∧ PA5 T H p P.length (xr6 d k P)
def PSx (l : List (Nat × Nat)) : Bool := wno l 35 (fun j => decide (j ≤ 5 ∨ j = 15)) && wno l 36 (fun _ => true) && wno l 37 (fun _ => true) && wno l 38 (fun _ => true) && wno l 39 (fun _ => true) && wno l 40 (fun _ => true) && wno l 41 (fun _ => true)
section PREL

variable {T : wq_T} {H H' : wq_H} {l : List (Nat × Nat)} {p k : Nat} {d : xD} {P : List (Int × Int)} {c : Int} {f : Nat → Int}
theorem PX_k (h : PX T H p d k) : H p 7 = d 2 k ∧ H p 8 = d 3 k ∧ H p 9 = d 4 k ∧ H p 10 = d 5 k ∧ H p 12 = xhs (d 7 k) (d 8 k) ∧ H p 13 = d 9 k ∧ 0 ≤ d 2 k ∧ d 2 k ≤ d 3 k ∧ d 3 k ≤ d 2 k + 7 ∧ d 3 k ≤ 23 ∧ 0 ≤ d 4 k ∧ d 4 k ≤ d 5 k ∧ d 5 k ≤ d 4 k + 4 ∧ d 5 k ≤ 12 ∧ 0 ≤ d 9 k ∧ d 9 k ≤ 1 := by
  obtain ⟨⟨-, h1, h2, h3, h4, -, h5, h6, -⟩, hP⟩ := h
  have := hP k
  exact ⟨h1, h2, h3, h4, h5, h6, by omega, by omega, by omega, by omega, by omega, by omega, by omega, by omega, by omega, by omega⟩
theorem PS_mk (h0 : H p 15 = ((P.length : Int) + 1)) {x : Int × Int} (h1 : PA0 T H p ((P.length : Int) + 1) (xr1 (P ++ [x]))) (h2 : PA1 T H p ((P.length : Int) + 1) (xr2 (P ++ [x]))) (h3 : PA2 T H p ((P.length : Int) + 1) (xr3 d k (P ++ [x]))) (h4 : PA3 T H p ((P.length : Int) + 1) (xr4 d k (P ++ [x]))) (h5 : PA4 T H p ((P.length : Int) + 1) (xr5 d k (P ++ [x]))) (h6 : PA5 T H p ((P.length : Int) + 1) (xr6 d k (P ++ [x]))) : PS T H p d k (P ++ [x]) := by
  have e : ((P ++ [x]).length : Int) = (P.length : Int) + 1 := by
    rw [List.length_append]
    rfl
  unfold PS
  rw [e]
  exact ⟨h0, h1, h2, h3, h4, h5, h6⟩
theorem PA0_fr (hW : WT T H) (g : T.2.2.2 p = some 35) (f0 : wfr l T H H') (x : DAw 35 0 36 l = true) (h : PA0 T H p c f) : PA0 T H' p c f := DAo_fr g f0 x h
theorem PA1_fr (hW : WT T H) (g : T.2.2.2 p = some 35) (f0 : wfr l T H H') (x : DAw 35 1 37 l = true) (h : PA1 T H p c f) : PA1 T H' p c f := DAo_fr g f0 x h
theorem PA2_fr (hW : WT T H) (g : T.2.2.2 p = some 35) (f0 : wfr l T H H') (x : DAw 35 2 38 l = true) (h : PA2 T H p c f) : PA2 T H' p c f := DAo_fr g f0 x h
theorem PA3_fr (hW : WT T H) (g : T.2.2.2 p = some 35) (f0 : wfr l T H H') (x : DAw 35 3 39 l = true) (h : PA3 T H p c f) : PA3 T H' p c f := DAo_fr g f0 x h
theorem PA4_fr (hW : WT T H) (g : T.2.2.2 p = some 35) (f0 : wfr l T H H') (x : DAw 35 4 40 l = true) (h : PA4 T H p c f) : PA4 T H' p c f := DAo_fr g f0 x h
theorem PA5_fr (hW : WT T H) (g : T.2.2.2 p = some 35) (f0 : wfr l T H H') (x : DAw 35 5 41 l = true) (h : PA5 T H p c f) : PA5 T H' p c f := DAo_fr g f0 x h
theorem wno_le {t : Nat} {s s' : Nat → Bool} (h : wno l t s = true) (hs : ∀ j, s' j = true → s j = true) : wno l t s' = true := List.all_eq_true.mpr (fun q hq => by
  have h1 := List.all_eq_true.mp h q hq
  simp only [Bool.not_eq_true', Bool.and_eq_false_iff, Bool.or_eq_false_iff, beq_eq_false_iff_ne] at h1 ⊢
  rcases h1 with h1 | h1
  · exact Or.inl h1
  · refine Or.inr ⟨h1.1, ?_⟩
    cases e : s' q.2 with
    | false => rfl
    | true => rw [hs _ e] at h1; cases h1.2)
theorem PS_fr (hW : WT T H) (g : T.2.2.2 p = some 35) (f0 : wfr l T H H') (x : PSx l = true) (h : PS T H p d k P) : PS T H' p d k P := by
  unfold PSx at x
  simp only [Bool.and_eq_true] at x
  have y : ∀ S, S ≤ 5 → ∀ tg, wno l tg (fun _ => true) = true → DAw 35 S tg l = true := fun S hS tg ht => by
    unfold DAw
    rw [Bool.and_eq_true]
    exact ⟨wno_le x.1.1.1.1.1.1 (fun j hj => decide_eq_true (Or.inl (by have := of_decide_eq_true hj; omega))), ht⟩
  obtain ⟨h0, h1, h2, h3, h4, h5, h6⟩ := h
  exact ⟨(wno_f f0 g x.1.1.1.1.1.1 (j := 15) rfl).trans h0, DAo_fr g f0 (y 0 (by decide) 36 x.1.1.1.1.1.2) h1, DAo_fr g f0 (y 1 (by decide) 37 x.1.1.1.1.2) h2, DAo_fr g f0 (y 2 (by decide) 38 x.1.1.1.2) h3, DAo_fr g f0 (y 3 (by decide) 39 x.1.1.2) h4, DAo_fr g f0 (y 4 (by decide) 40 x.1.2) h5, DAo_fr g f0 (y 5 (by decide) 41 x.2) h6⟩
theorem PS_0 (hW : WT T H) (g : T.2.2.2 p = some 35) (h0 : H p 15 = 0) : PS T H p d k [] := by
  have h : ∀ S tg, (∃ b : Nat, H p S = (b : Int) ∧ T.2.2.2 b = some tg) → ∀ f : Nat → Int, DA S tg T H p (([] : List (Int × Int)).length : Int) f := fun S tg ⟨b, h1, h2⟩ f => ⟨b, h1, h2, fun k hk => by
    have hk : (k : Int) < 0 := hk
    omega⟩
  exact ⟨h0, h 0 36 (hW.ref g (n := 18) (p := 0) (q := 0) rfl (by decide) rfl) _, h 1 37 (hW.ref g (n := 18) (p := 0) (q := 0) rfl (by decide) rfl) _, h 2 38 (hW.ref g (n := 18) (p := 0) (q := 0) rfl (by decide) rfl) _, h 3 39 (hW.ref g (n := 18) (p := 0) (q := 0) rfl (by decide) rfl) _, h 4 40 (hW.ref g (n := 18) (p := 0) (q := 0) rfl (by decide) rfl) _, h 5 41 (hW.ref g (n := 18) (p := 0) (q := 0) rfl (by decide) rfl) _⟩
theorem PS_eq {P' : List (Int × Int)} (h : PS T H p d k P) (e : P = P') : PS T H p d k P' := e ▸ h
end PREL
/-! what is told of people lies between its bounds where a text goes well -/
section XDP

variable {B : Nat → Int} {n q : Int} {d : xD}
theorem xs_iff {f p : Int} {k : xO} : (xs f p k).1 = 0 ↔ f = 0 ∧ k.1 = 0 := by
  unfold xs
  split
  · next h => exact ⟨fun e => ⟨h, e⟩, fun e => e.2⟩
  · next h => exact ⟨fun e => absurd e h, fun e => absurd e.1 h⟩
theorem xh_z {lo hi : Int} (h : xh B n q lo hi = 0) : lo ≤ xV B n q ∧ xV B n q ≤ hi := by
  have := @xh_b B n q lo hi
  omega
theorem xrg_z {a1 a2 a3 a4 : Int} (h : (xrg B n q a1 a2 a3 a4).1 = 0) : 0 ≤ xV B n q ∧ xV B n q ≤ a1 ∧ xV B n q + a2 ≤ xV B n (xN B n (xN B n q)) ∧ xV B n (xN B n (xN B n q)) ≤ xV B n q + a3 ∧ xV B n (xN B n (xN B n q)) ≤ a4 := by
  unfold xrg at h
  simp only [xs_iff] at h
  have h1 := xh_z h.1
  have h2 := xh_z h.2.2.1
  omega
theorem xbd_z (h : (xbd B n q d).1 = 0) : (xrg B n (xN B n (xN B n q)) 23 0 7 23).1 = 0 ∧ (xrg B n (xN B n (xN B n (xN B n (xN B n (xN B n (xN B n q)))))) 12 0 4 12).1 = 0 := by
  unfold xbd at h
  simp only [xs_iff] at h
  exact ⟨h.2.2.1, h.2.2.2.2.1⟩
theorem xcs_z (h : (xcs B n q).1 = 0) : (-1 ≤ xhb B n q ∧ xhb B n q ≤ 23) ∧ (0 ≤ xnf B n (xqa B n q) ∧ xnf B n (xqa B n q) ≤ xnt B n (xqa B n q) ∧ xnt B n (xqa B n q) ≤ 24) := by
  unfold xcs xca at h
  have h2 : (xcb B n (xqa B n q) (0, q, xqc B n (xqb B n (xqa B n q)))).1 = 0 := by
    split at h
    · exact (xs_iff.mp h).2
    · exact h
  constructor
  · unfold xhb
    split at h
    · next e =>
      rw [if_pos e]
      have := xh_z (xs_iff.mp h).1
      omega
    · next e =>
      rw [if_neg e]
      omega
  · unfold xcb at h2
    unfold xnf xnt
    split at h2
    · next e =>
      rw [if_pos e, if_pos e]
      have := xrg_z (xs_iff.mp h2).1
      omega
    · next e =>
      rw [if_neg e, if_neg e]
      omega
theorem xaw_b {q : Int} : 0 ≤ xaw B n q ∧ xaw B n q ≤ 1 := by
  unfold xaw
  split <;> omega
theorem xdP_line (hP : xdP d) (h0 : 0 ≤ d 0 3) (h : (xline B n q d).1 = 0) : xdP (xdline B n q d) := by
  unfold xline at h
  unfold xdline
  split
  · exact xdP_cg hP (fun i h1 h2 => xdlaw_r (by omega))
  · next n0 =>
    rw [if_neg n0] at h
    split
    · next n1 =>
      rw [if_pos n1] at h
      unfold xl1 at h
      split at h
      · cases h
      · unfold xper at h
        have h1 := xs_iff.mp h
        have h2 := xbd_z h1.1
        have h3 := xrg_z h2.1
        have h4 := xrg_z h2.2
        have h5 := xcs_z h1.2
        have hk : (((d 0 3).toNat : Nat) : Int) = d 0 3 := by omega
        have h6 := @xdper_k (d 0 3).toNat d B n (xN B n q) hk
        obtain ⟨e1, e2, e3, e4, e5, e6, e7, e8, e9⟩ := h6
        refine xdP_per hP hk ?_
        rw [e2, e3, e4, e5, e6, e7, e8, e9]
        exact ⟨by omega, by omega, by omega, by omega, by omega, by omega, by omega, by omega, by omega, by omega, by omega, by omega, by omega, xaw_b.1, xaw_b.2⟩
    · split
      · exact xdP_cg hP (fun i h1 h2 => by unfold xdsex; rw [wq_u_row (by omega)])
      · split
        · exact xdP_cg hP (fun i h1 h2 => by unfold xdap; rw [wq_u_row (by omega), wq_u_row (by omega), wq_u_row (by omega)])
        · split
          · exact xdP_cg hP (fun i h1 h2 => by unfold xdbo; rw [wq_u_row (by omega), wq_u_row (by omega)])
          · split
            · exact xdP_cg hP (fun i h1 h2 => by unfold xdst; rw [wq_u_row (by omega)])
            · split
              · exact xdP_cg hP (fun i h1 h2 => by unfold xdtl; rw [wq_u_row (by omega), wq_u_row (by omega), wq_u_row (by omega)])
              · exact xdP_cg hP (fun i h1 h2 => by unfold xdof; rw [wq_u_row (by omega), wq_u_row (by omega), wq_u_row (by omega)])
theorem xd03_line (h0 : 0 ≤ d 0 3) : 0 ≤ xdline B n q d 0 3 := by
  unfold xdline
  split
  · rw [xdlaw_v.2.2.2.1]
    exact h0
  · split
    · rw [xdper_v.2.2.2.1]
      omega
    · split
      · rw [xdsex_v.2.2.2.1]
        exact h0
      · split
        · rw [xdap_v.2.2.2.1]
          exact h0
        · split
          · rw [xdbo_v.2.2.2.1]
            exact h0
          · split
            · show 0 ≤ wq_u d 13 (xV B n (xN B n q)).toNat (xV B n (xN B n (xN B n (xN B n q))) + 1) 0 3
              rw [wq_u_row (by decide)]
              exact h0
            · split
              · rw [xdtl_v.2.2.2.1]
                exact h0
              · rw [xdof_v.2.2.2.1]
                exact h0
theorem xdP_xpf : ∀ (f : Nat) (q : Int) (d : xD), xdP d → 0 ≤ d 0 3 → (xpf B n f q d).1.1 = 0 → xdP (xpf B n f q d).2
  | 0, q, d, hP, h0, h => absurd (show (1 : Int) = 0 from h) (by decide)
  | f + 1, q, d, hP, h0, h => by
    unfold xpf at h ⊢
    split at h
    · next a =>
      rw [if_pos a]
      have hP2 := xdP_line hP h0 a
      split at h
      · next b =>
        rw [if_pos b]
        split at h
        · next c =>
          rw [if_pos c]
          exact hP2
        · cases h
      · next b =>
        rw [if_neg b]
        split at h
        · next c =>
          rw [if_pos c]
          exact xdP_xpf f _ _ hP2 (xd03_line h0) h
        · cases h
    · next a => exact absurd h a
theorem xdP_parse (h : (xparse B n).1.1 = 0) : xdP (xparse B n).2 := xdP_xpf 902 _ xD0 xdP_0 (by decide) h
end XDP
end
