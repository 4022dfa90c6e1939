/-! RELATIONS (own work): what a PARISH of the StrikeAwake has been told -/
def xsx (z : Int) : Int := if z = -1 then -2 else z
theorem xsx_e {z : Int} : (z = -1 ∧ xsx z = -2) ∨ (z ≠ -1 ∧ xsx z = z) := by
  unfold xsx
  split <;> omega
def DSm (H : wq_H) (r : Nat) (d : xD) : Prop := H r 7 = d 0 0 ∧ H r 8 = d 0 1 ∧ H r 9 = d 0 2 ∧ H r 10 = d 0 3 ∧ H r 11 = d 0 4 ∧ H r 12 = d 0 5 ∧ H r 13 = d 0 6 ∧ H r 14 = d 0 7 ∧ -1 ≤ d 0 8 ∧ d 0 8 ≤ 5 ∧ H r 15 = xsx (d 0 8) ∧ H r 16 = xcn (d 13) 24 ∧ 0 ≤ d 0 3 ∧ d 0 3 ≤ 6 ∧ 0 ≤ d 0 4 ∧ d 0 4 ≤ 3
def PF (H : wq_H) (p : Nat) (d : xD) (k : Nat) : Prop := H p 6 = d 1 k ∧ H p 7 = d 2 k ∧ H p 8 = d 3 k ∧ H p 9 = d 4 k ∧ H p 10 = d 5 k ∧ H p 11 = d 6 k ∧ H p 12 = xhs (d 7 k) (d 8 k) ∧ H p 13 = d 9 k ∧ 0 ≤ H p 14 ∧ H p 14 ≤ 63 ∧ ∀ j : Nat, j < 6 → wq_and (wq_shr (H p 14) j) 1 = xagf d k j (d 0 4).toNat
def DQ (T : wq_T) (H : wq_H) (r : Nat) (d : xD) : Prop := (∀ k : Nat, (k : Int) < d 0 3 → ∃ p : Nat, H (H r 0).toNat k = (p : Int) ∧ T.2.2.2 p = some 35 ∧ PF H p d k) ∧ ∀ k : Nat, (k : Int) < d 0 4 → 0 ≤ d 10 k ∧ d 10 k < d 0 3 ∧ 0 ≤ d 11 k ∧ d 11 k < d 0 3
/-- HOURS struck: f, one more; in the order of the day the list -/
def ST (T : wq_T) (H : wq_H) (r : Nat) (f : Nat → Int) : Prop := ∃ s : Nat, H r 1 = (s : Int) ∧ T.2.2.2 s = some 29 ∧ ∀ k : Nat, k < 24 → 0 ≤ f k ∧ f k ≤ 100 ∧ H s k = if f k > 0 then f k - 1 else -2
def SV (T : wq_T) (H : wq_H) (r : Nat) (f : Nat → Int) (i : Int) : Prop := ∃ b : Nat, H r 2 = (b : Int) ∧ T.2.2.2 b = some 30 ∧ ∀ k : Nat, (k : Int) < i → f k > 0 → H b (xcn f k).toNat = k
/-- an array of a PARISH, as far as it is filled -/
def DA (S tg : Nat) (T : wq_T) (H : wq_H) (r : Nat) (c : Int) (f : Nat → Int) : Prop := ∃ b : Nat, H r S = (b : Int) ∧ T.2.2.2 b = some tg ∧ ∀ k : Nat, (k : Int) < c → H b k = f k
abbrev DA3 := DA 3 31
abbrev DA4 := DA 4 32
abbrev DA5 := DA 5 33
abbrev DA6 := DA 6 34
def DC (T : wq_T) (H : wq_H) (r : Nat) (d : xD) : Prop := DSm H r d ∧ DQ T H r d ∧ ST T H r (d 13) ∧ SV T H r (d 13) 24 ∧ DA3 T H r (d 0 5) (d 12) ∧ DA4 T H r (d 0 6) (d 14) ∧ DA5 T H r (d 0 6) (d 15) ∧ DA6 T H r (d 0 7) (d 16)
/-- its persons are six -/
def DD (T : wq_T) (H : wq_H) (r : Nat) : Prop := ∃ pa : Nat, H r 0 = (pa : Int) ∧ T.2.2.2 pa = some 28 ∧ ∀ i j : Nat, i < 6 → j < 6 → H pa i = H pa j → i = j
def wno (l : List (Nat × Nat)) (t : Nat) (s : Nat → Bool) : Bool := l.all (fun q => !(q.1 == t && (q.2 == 999 || s q.2)))
theorem wno_m {l : List (Nat × Nat)} {t j : Nat} {s : Nat → Bool} (h : wno l t s = true) (hj : s j = true) : wmem l t j = false := by
  refine wmem_no (fun q hq hh => ?_)
  have h1 := List.all_eq_true.mp h q hq
  rcases hh.2 with h2 | h2 <;> simp [hh.1, h2, hj] at h1
def DSx (l : List (Nat × Nat)) : Bool := wno l 27 (fun j => decide (7 ≤ j ∧ j ≤ 16))
def DQx (l : List (Nat × Nat)) : Bool := wno l 27 (fun j => decide (j = 0)) && wno l 28 (fun _ => true) && wno l 35 (fun j => decide (6 ≤ j ∧ j ≤ 14))
def STx (l : List (Nat × Nat)) : Bool := wno l 27 (fun j => decide (j = 1)) && wno l 29 (fun _ => true)
def SVx (l : List (Nat × Nat)) : Bool := wno l 27 (fun j => decide (j = 2)) && wno l 30 (fun _ => true)
def DAx (S tg : Nat) (l : List (Nat × Nat)) : Bool := wno l 27 (fun j => decide (j = S)) && wno l tg (fun _ => true)
def DCx (l : List (Nat × Nat)) : Bool := DSx l && DQx l && STx l && SVx l && DAx 3 31 l && DAx 4 32 l && DAx 5 33 l && DAx 6 34 l
def DDx (l : List (Nat × Nat)) : Bool := wno l 27 (fun j => decide (j = 0)) && wno l 28 (fun _ => true)
section DREL

variable {T : wq_T} {H H' : wq_H} {l : List (Nat × Nat)} {r : Nat} {d d' : xD}
theorem wno_f {a t j : Nat} {s : Nat → Bool} (f : wfr l T H H') (g : T.2.2.2 a = some t) (x : wno l t s = true) (hj : s j = true) : H' a j = H a j := f a j t g (wno_m x hj)
theorem DS_fr (g : T.2.2.2 r = some 27) (f : wfr l T H H') (x : DSx l = true) (h : DSm H r d) : DSm H' r d := by
  unfold DSm
  rw [wno_f f g x (j := 7) rfl, wno_f f g x (j := 8) rfl, wno_f f g x (j := 9) rfl, wno_f f g x (j := 10) rfl, wno_f f g x (j := 11) rfl, wno_f f g x (j := 12) rfl, wno_f f g x (j := 13) rfl, wno_f f g x (j := 14) rfl, wno_f f g x (j := 15) rfl, wno_f f g x (j := 16) rfl]
  exact h
theorem PF_fr {p k : Nat} (g : T.2.2.2 p = some 35) (f : wfr l T H H') (x : wno l 35 (fun j => decide (6 ≤ j ∧ j ≤ 14)) = true) (h : PF H p d k) : PF H' p d k := by
  unfold PF
  rw [wno_f f g x (j := 6) rfl, wno_f f g x (j := 7) rfl, wno_f f g x (j := 8) rfl, wno_f f g x (j := 9) rfl, wno_f f g x (j := 10) rfl, wno_f f g x (j := 11) rfl, wno_f f g x (j := 12) rfl, wno_f f g x (j := 13) rfl, wno_f f g x (j := 14) rfl]
  exact h
theorem pa_fr (hW : WT T H) (g : T.2.2.2 r = some 27) (f : wfr l T H H') (x1 : wno l 27 (fun j => decide (j = 0)) = true) (x2 : wno l 28 (fun _ => true) = true) (k : Nat) : H' (H' r 0).toNat k = H (H r 0).toNat k := by
  rw [wno_f f g x1 (j := 0) rfl]
  obtain ⟨pa, h1, h2⟩ := hW.ref g (t' := 28) (n := 19) (j := 0) (p := 0) (q := 0) rfl (by decide) rfl
  rw [h1, Int.toNat_natCast]
  exact wno_f f h2 x2 rfl
theorem DQ_fr (hW : WT T H) (g : T.2.2.2 r = some 27) (f : wfr l T H H') (x : DQx l = true) (h : DQ T H r d) : DQ T H' r d := by
  unfold DQx at x
  simp only [Bool.and_eq_true] at x
  refine ⟨fun k hk => ?_, h.2⟩
  obtain ⟨p, h1, h2, h3⟩ := h.1 k hk
  exact ⟨p, (pa_fr hW g f x.1.1 x.1.2 k).trans h1, h2, PF_fr h2 f x.2 h3⟩
theorem ST_fr {f' : Nat → Int} (hW : WT T H) (g : T.2.2.2 r = some 27) (f : wfr l T H H') (x : STx l = true) (h : ST T H r f') : ST T H' r f' := by
  unfold STx at x
  simp only [Bool.and_eq_true] at x
  obtain ⟨s, h1, h2, h5⟩ := h
  exact ⟨s, (wno_f f g x.1 rfl).trans h1, h2, fun k hk => ⟨(h5 k hk).1, (h5 k hk).2.1, (wno_f f h2 x.2 rfl).trans (h5 k hk).2.2⟩⟩
theorem SV_fr {f' : Nat → Int} {i : Int} (hW : WT T H) (g : T.2.2.2 r = some 27) (f : wfr l T H H') (x : SVx l = true) (h : SV T H r f' i) : SV T H' r f' i := by
  unfold SVx at x
  simp only [Bool.and_eq_true] at x
  obtain ⟨s, h1, h2, h5⟩ := h
  exact ⟨s, (wno_f f g x.1 rfl).trans h1, h2, fun k hk hp => (wno_f f h2 x.2 rfl).trans (h5 k hk hp)⟩
theorem DA_fr {S tg : Nat} {c : Int} {f' : Nat → Int} (hW : WT T H) (g : T.2.2.2 r = some 27) (f : wfr l T H H') (x : DAx S tg l = true) (h : DA S tg T H r c f') : DA S tg T H' r c f' := by
  unfold DAx at x
  simp only [Bool.and_eq_true] at x
  obtain ⟨b, h1, h2, h3⟩ := h
  exact ⟨b, (wno_f f g x.1 (by simp)).trans h1, h2, fun k hk => (wno_f f h2 x.2 rfl).trans (h3 k hk)⟩
theorem DA3_fr {c : Int} {f' : Nat → Int} (hW : WT T H) (g : T.2.2.2 r = some 27) (f : wfr l T H H') (x : DAx 3 31 l = true) (h : DA3 T H r c f') : DA3 T H' r c f' := DA_fr hW g f x h
theorem DA4_fr {c : Int} {f' : Nat → Int} (hW : WT T H) (g : T.2.2.2 r = some 27) (f : wfr l T H H') (x : DAx 4 32 l = true) (h : DA4 T H r c f') : DA4 T H' r c f' := DA_fr hW g f x h
theorem DA5_fr {c : Int} {f' : Nat → Int} (hW : WT T H) (g : T.2.2.2 r = some 27) (f : wfr l T H H') (x : DAx 5 33 l = true) (h : DA5 T H r c f') : DA5 T H' r c f' := DA_fr hW g f x h
theorem DA6_fr {c : Int} {f' : Nat → Int} (hW : WT T H) (g : T.2.2.2 r = some 27) (f : wfr l T H H') (x : DAx 6 34 l = true) (h : DA6 T H r c f') : DA6 T H' r c f' := DA_fr hW g f x h
theorem DC_fr (hW : WT T H) (g : T.2.2.2 r = some 27) (f : wfr l T H H') (x : DCx l = true) (h : DC T H r d) : DC T H' r d := by
  unfold DCx at x
  simp only [Bool.and_eq_true] at x
  exact ⟨DS_fr g f x.1.1.1.1.1.1.1 h.1, DQ_fr hW g f x.1.1.1.1.1.1.2 h.2.1, ST_fr hW g f x.1.1.1.1.1.2 h.2.2.1, SV_fr hW g f x.1.1.1.1.2 h.2.2.2.1, DA_fr hW g f x.1.1.1.2 h.2.2.2.2.1, DA_fr hW g f x.1.1.2 h.2.2.2.2.2.1, DA_fr hW g f x.1.2 h.2.2.2.2.2.2.1, DA_fr hW g f x.2 h.2.2.2.2.2.2.2⟩
theorem DD_fr (hW : WT T H) (g : T.2.2.2 r = some 27) (f : wfr l T H H') (x : DDx l = true) (h : DD T H r) : DD T H' r := by
  unfold DDx at x
  simp only [Bool.and_eq_true] at x
  obtain ⟨pa, h1, h2, h3⟩ := h
  refine ⟨pa, (wno_f f g x.1 rfl).trans h1, h2, fun i j hi hj e => h3 i j hi hj ?_⟩
  rw [wno_f f h2 x.2 rfl, wno_f f h2 x.2 rfl] at e
  exact e
/-- other told things of other rows -/
theorem PF_cg {p k : Nat} (e : ∀ i, 1 ≤ i → i ≤ 11 → d' i = d i) (e4 : d' 0 4 = d 0 4) (h : PF H p d k) : PF H p d' k := by
  have ex : ∀ (n : Nat) (a b : Int), xagf d' a b n = xagf d a b n := by
    intro n a b
    induction n with
    | zero => rfl
    | succ n ih =>
      show (if (d' 10 n = a ∧ d' 11 n = b) ∨ (d' 10 n = b ∧ d' 11 n = a) then 1 else xagf d' a b n) = _
      rw [e 10 (by omega) (by omega), e 11 (by omega) (by omega), ih]
      rfl
  unfold PF
  rw [e 1 (by omega) (by omega), e 2 (by omega) (by omega), e 3 (by omega) (by omega), e 4 (by omega) (by omega), e 5 (by omega) (by omega), e 6 (by omega) (by omega), e 7 (by omega) (by omega), e 8 (by omega) (by omega), e 9 (by omega) (by omega), e4]
  simp only [ex]
  exact h
theorem DQ_cg (e : ∀ i, 1 ≤ i → i ≤ 11 → d' i = d i) (e3 : d' 0 3 = d 0 3) (e4 : d' 0 4 = d 0 4) (h : DQ T H r d) : DQ T H r d' := by
  refine ⟨fun k hk => ?_, fun k hk => ?_⟩
  · obtain ⟨p, h1, h2, h3⟩ := h.1 k (by omega)
    exact ⟨p, h1, h2, PF_cg e e4 h3⟩
  · rw [e 10 (by omega) (by omega), e 11 (by omega) (by omega), e3]
    exact h.2 k (by omega)
theorem DC_k (h : DC T H r d) : H r 7 = d 0 0 ∧ H r 8 = d 0 1 ∧ H r 9 = d 0 2 ∧ H r 10 = d 0 3 ∧ H r 11 = d 0 4 ∧ H r 12 = d 0 5 ∧ H r 13 = d 0 6 ∧ H r 14 = d 0 7 ∧ -1 ≤ d 0 8 ∧ d 0 8 ≤ 5 ∧ H r 15 = xsx (d 0 8) ∧ H r 16 = xcn (d 13) 24 ∧ 0 ≤ d 0 3 ∧ d 0 3 ≤ 6 ∧ 0 ≤ d 0 4 ∧ d 0 4 ≤ 3 := h.1
theorem DC_nm {pa p k : Nat} (h : DC T H r d) (e0 : H r 0 = (pa : Int)) (e1 : H pa k = (p : Int)) (hk : (k : Int) < d 0 3) : H p 6 = d 1 k := by
  obtain ⟨b, h1, -, h3⟩ := h.2.1.1 k hk
  rw [e0, Int.toNat_natCast, e1] at h1
  have : p = b := by omega
  subst this
  exact h3.1
theorem xkn_b {B : Nat → Int} {n q : Int} : (xkn B n q d = 0 ∧ xre B n q = 11 ∧ xwho B n q d ≠ -1) ∨ (xkn B n q d = 2 ∧ xre B n q = 11 ∧ xwho B n q d = -1) ∨ (xkn B n q d = 1 ∧ xre B n q ≠ 11) := by
  unfold xkn xwho
  split
  · split <;> omega
  · omega
theorem xwho_e {B : Nat → Int} {n q : Int} : xwho B n q d = xfi (d 1) (d 0 3) (xY B n q) ∧ (xwho B n q d = -1 ∨ (0 ≤ xwho B n q d ∧ xwho B n q d < d 0 3)) := ⟨rfl, by have := @xfi_b (d 1) (d 0 3) (xY B n q); unfold xwho; omega⟩
end DREL

section DROW

variable {B : Nat → Int} {n q v : Int} {d : xD} {a j i : Nat}
theorem wq_u_row (h : i ≠ a) : wq_u d a j v i = d i := by
  funext k
  exact if_neg (fun q => h q.1)
theorem wq_u_e2 {k : Nat} (h : ¬ (i = a ∧ k = j)) : wq_u d a j v i k = d i k := if_neg h
theorem xdlaw_v : xdlaw B n q d 0 0 = xV B n (xN B n q) ∧ xdlaw B n q d 0 1 = xV B n (xN B n (xN B n (xN B n q))) ∧ xdlaw B n q d 0 2 = xV B n (xN B n (xN B n (xN B n (xN B n (xN B n q))))) ∧ xdlaw B n q d 0 3 = d 0 3 ∧ xdlaw B n q d 0 4 = d 0 4 ∧ xdlaw B n q d 0 5 = d 0 5 ∧ xdlaw B n q d 0 6 = d 0 6 ∧ xdlaw B n q d 0 7 = d 0 7 ∧ xdlaw B n q d 0 8 = d 0 8 ∧ xsx (xdlaw B n q d 0 8) = xsx (d 0 8) ∧ xcn (xdlaw B n q d 13) 24 = xcn (d 13) 24 := ⟨rfl, rfl, rfl, rfl, rfl, rfl, rfl, rfl, rfl, rfl, rfl⟩
theorem xdlaw_r (h : 1 ≤ i) : xdlaw B n q d i = d i := by
  unfold xdlaw
  rw [wq_u_row (by omega), wq_u_row (by omega), wq_u_row (by omega)]
end DROW

section DLAW

variable {T : wq_T} {H H' : wq_H} {l : List (Nat × Nat)} {r b k : Nat} {d d' : xD} {f f12 f14 f15 f16 : Nat → Int} {c5 c6 c7 v : Int}
theorem DC_mk (s : DSm H r d') (q : DQ T H r d') (st : ST T H r f) (sh : SV T H r f 24) (a3 : DA3 T H r c5 f12) (a4 : DA4 T H r c6 f14) (a5 : DA5 T H r c6 f15) (a6 : DA6 T H r c7 f16) (e : d' 13 = f ∧ d' 12 = f12 ∧ d' 14 = f14 ∧ d' 15 = f15 ∧ d' 16 = f16) (c : d' 0 5 = c5 ∧ d' 0 6 = c6 ∧ d' 0 7 = c7) : DC T H r d' := by
  obtain ⟨e1, e2, e3, e4, e5⟩ := e
  obtain ⟨c1, c2, c3⟩ := c
  unfold DC
  rw [e1, e2, e3, e4, e5, c1, c2, c3]
  exact ⟨s, q, st, sh, a3, a4, a5, a6⟩
/-- counts alone have changed -/
theorem DC_cnt (hW : WT T H) (g : T.2.2.2 r = some 27) (hd : DC T H r d) (f : wfr l T H H') (x : (DQx l && STx l && SVx l && DAx 3 31 l && DAx 4 32 l && DAx 5 33 l && DAx 6 34 l) = true) (e : ∀ i, 1 ≤ i → d' i = d i) (e3 : d' 0 3 = d 0 3 ∧ d' 0 4 = d 0 4 ∧ d' 0 5 = d 0 5 ∧ d' 0 6 = d 0 6 ∧ d' 0 7 = d 0 7) (s : DSm H' r d') : DC T H' r d' := by
  simp only [Bool.and_eq_true] at x
  exact DC_mk s (DQ_cg (fun i h1 _ => e i h1) e3.1 e3.2.1 (DQ_fr hW g f x.1.1.1.1.1.1 hd.2.1)) (ST_fr hW g f x.1.1.1.1.1.2 hd.2.2.1) (SV_fr hW g f x.1.1.1.1.2 hd.2.2.2.1) (DA_fr hW g f x.1.1.1.2 hd.2.2.2.2.1) (DA_fr hW g f x.1.1.2 hd.2.2.2.2.2.1) (DA_fr hW g f x.1.2 hd.2.2.2.2.2.2.1) (DA_fr hW g f x.2 hd.2.2.2.2.2.2.2) ⟨e 13 (by omega), e 12 (by omega), e 14 (by omega), e 15 (by omega), e 16 (by omega)⟩ ⟨e3.2.2.1, e3.2.2.2.1, e3.2.2.2.2⟩
theorem DA_put {S tg : Nat} {c c' : Int} {f f' : Nat → Int} (h : DA S tg T H r c f) (e0 : H r S = (b : Int)) (gr : T.2.2.2 r = some 27) (gb : T.2.2.2 b = some tg) (ne : tg ≠ 27) (e : H' = wq_u H b k v) (hk : (k : Int) = c) (hc : c' = c + 1) (fk : f' k = v) (fn : ∀ j, j ≠ k → f' j = f j) : DA S tg T H' r c' f' := by
  obtain ⟨b', h1, h2, h3⟩ := h
  have hb : b' = b := by omega
  subst hb
  refine ⟨b', ?_, h2, fun j hj => ?_⟩
  · rw [e, wq_u_na (fun q => ?_)]
    · exact h1
    · subst q
      rw [gr] at gb
      exact ne (Option.some.inj gb).symm
  · by_cases hjk : j = k
    · subst hjk
      rw [e, wq_u_eq, fk]
    · rw [e, wq_u_ne (fun q => hjk q.2), fn j hjk]
      exact h3 j (by omega)
theorem ST_at {s k : Nat} (h : ST T H r f) (e0 : H r 1 = (s : Int)) (hk : k < 24) : 0 ≤ f k ∧ f k ≤ 100 ∧ ((f k > 0 ∧ H s k = f k - 1) ∨ (f k = 0 ∧ H s k = -2)) := by
  obtain ⟨b, h1, -, h3⟩ := h
  have : b = s := by omega
  subst this
  have h4 := h3 k hk
  split at h4 <;> omega
theorem ST_put {s k : Nat} {w : Int} {f' : Nat → Int} (h : ST T H r f) (e0 : H r 1 = (s : Int)) (gr : T.2.2.2 r = some 27) (gb : T.2.2.2 s = some 29) (e : H' = wq_u H s k v) (hv : (0 ≤ v ∧ v ≤ 99 ∧ w = v + 1) ∨ (v = -2 ∧ w = 0)) (fk : f' k = w) (fn : ∀ j, j ≠ k → f' j = f j) : ST T H' r f' := by
  obtain ⟨b', h1, h2, h3⟩ := h
  have hb : b' = s := by omega
  subst hb
  refine ⟨b', ?_, h2, fun j hj => ?_⟩
  · rw [e, wq_u_na (fun q => ?_)]
    · exact h1
    · subst q
      rw [gr] at gb
      cases gb
  · by_cases hjk : j = k
    · subst hjk
      rw [e, wq_u_eq, fk]
      split <;> omega
    · rw [e, wq_u_ne (fun q => hjk q.2), fn j hjk]
      exact h3 j hj
theorem xcn_b : ∀ n : Nat, 0 ≤ xcn f n ∧ xcn f n ≤ n
  | 0 => ⟨Int.le_refl _, Int.le_refl _⟩
  | n + 1 => by
    have := xcn_b n
    show 0 ≤ xcn f n + (if f n > 0 then 1 else 0) ∧ xcn f n + (if f n > 0 then 1 else 0) ≤ (n + 1 : Nat)
    split <;> omega
theorem xcn_mono {m : Nat} : ∀ n : Nat, m ≤ n → xcn f m ≤ xcn f n
  | 0, h => by
    have : m = 0 := by omega
    subst this
    omega
  | n + 1, h => by
    by_cases e : m = n + 1
    · subst e
      omega
    · have := xcn_mono n (show m ≤ n by omega)
      show xcn f m ≤ xcn f n + (if f n > 0 then 1 else 0)
      split <;> omega
theorem xcn_lt {m n : Nat} (h : m < n) (hp : f m > 0) : xcn f m < xcn f n := by
  have h1 := xcn_mono (f := f) (m := m + 1) n h
  have h2 : xcn f (m + 1) = xcn f m + 1 := by
    show xcn f m + (if f m > 0 then 1 else 0) = _
    rw [if_pos hp]
  omega
theorem xcn_s {i : Int} (h : 0 ≤ i) : xcn f (i + 1).toNat = xcn f i.toNat + (if f i.toNat > 0 then 1 else 0) := by
  rw [show (i + 1).toNat = i.toNat + 1 by omega]
  rfl
theorem xcn_s1 {i : Int} (h : 0 ≤ i) : (f i.toNat > 0 ∧ xcn f (i + 1).toNat = xcn f i.toNat + 1) ∨ (f i.toNat ≤ 0 ∧ xcn f (i + 1).toNat = xcn f i.toNat) := by
  rw [xcn_s h]
  split <;> omega
theorem SV_0 (hW : WT T H) (g : T.2.2.2 r = some 27) : SV T H r f 0 := by
  obtain ⟨b, h1, h2⟩ := hW.ref g (t' := 30) (n := 19) (j := 2) (p := 0) (q := 0) rfl (by decide) rfl
  exact ⟨b, h1, h2, fun k hk => by omega⟩
theorem SV_skip {i : Int} (h : SV T H r f i) (h0 : 0 ≤ i) (hi : f i.toNat ≤ 0) : SV T H r f (i + 1) := by
  obtain ⟨b, h1, h2, h3⟩ := h
  refine ⟨b, h1, h2, fun k hk hp => ?_⟩
  by_cases e : (k : Int) = i
  · rw [show i.toNat = k by omega] at hi
    omega
  · exact h3 k (by omega) hp
theorem SV_put {i : Int} (h : SV T H r f i) (e0 : H r 2 = (b : Int)) (gr : T.2.2.2 r = some 27) (gb : T.2.2.2 b = some 30) (e : H' = wq_u H b k v) (h0 : 0 ≤ i) (hk : (k : Int) = xcn f i.toNat) (hv : v = i) (hi : f i.toNat > 0) : SV T H' r f (i + 1) := by
  obtain ⟨b', h1, h2, h3⟩ := h
  have hb : b' = b := by omega
  subst hb
  refine ⟨b', ?_, h2, fun j hj hp => ?_⟩
  · rw [e, wq_u_na (fun q => ?_)]
    · exact h1
    · subst q
      rw [gr] at gb
      cases gb
  · by_cases e1 : (j : Int) = i
    · have ej : i.toNat = j := by omega
      rw [ej] at hk
      rw [e, show (xcn f j).toNat = k by omega, wq_u_eq]
      omega
    · have h4 := xcn_lt (f := f) (m := j) (n := i.toNat) (by omega) hp
      have h5 := @xcn_b f j
      rw [e, wq_u_ne (fun q => by omega)]
      exact h3 j (by omega) hp
end DLAW

section DROW2

variable {B : Nat → Int} {n q : Int} {d : xD} {i : Nat}
theorem xdbo_v : xdbo B n q d 0 0 = d 0 0 ∧ xdbo B n q d 0 1 = d 0 1 ∧ xdbo B n q d 0 2 = d 0 2 ∧ xdbo B n q d 0 3 = d 0 3 ∧ xdbo B n q d 0 4 = d 0 4 ∧ xdbo B n q d 0 5 = d 0 5 + 1 ∧ xdbo B n q d 0 6 = d 0 6 ∧ xdbo B n q d 0 7 = d 0 7 ∧ xdbo B n q d 0 8 = d 0 8 ∧ xsx (xdbo B n q d 0 8) = xsx (d 0 8) ∧ xcn (xdbo B n q d 13) 24 = xcn (d 13) 24 := ⟨rfl, rfl, rfl, rfl, rfl, rfl, rfl, rfl, rfl, rfl, rfl⟩
theorem xdtl_v : xdtl B n q d 0 0 = d 0 0 ∧ xdtl B n q d 0 1 = d 0 1 ∧ xdtl B n q d 0 2 = d 0 2 ∧ xdtl B n q d 0 3 = d 0 3 ∧ xdtl B n q d 0 4 = d 0 4 ∧ xdtl B n q d 0 5 = d 0 5 ∧ xdtl B n q d 0 6 = d 0 6 + 1 ∧ xdtl B n q d 0 7 = d 0 7 ∧ xdtl B n q d 0 8 = d 0 8 ∧ xsx (xdtl B n q d 0 8) = xsx (d 0 8) ∧ xcn (xdtl B n q d 13) 24 = xcn (d 13) 24 := ⟨rfl, rfl, rfl, rfl, rfl, rfl, rfl, rfl, rfl, rfl, rfl⟩
theorem xdof_v : xdof B n q d 0 0 = d 0 0 ∧ xdof B n q d 0 1 = d 0 1 ∧ xdof B n q d 0 2 = d 0 2 ∧ xdof B n q d 0 3 = d 0 3 ∧ xdof B n q d 0 4 = d 0 4 ∧ xdof B n q d 0 5 = d 0 5 ∧ xdof B n q d 0 6 = d 0 6 ∧ xdof B n q d 0 7 = d 0 7 + 1 ∧ xdof B n q d 0 8 = d 0 8 ∧ xsx (xdof B n q d 0 8) = xsx (d 0 8) ∧ xcn (xdof B n q d 13) 24 = xcn (d 13) 24 := ⟨rfl, rfl, rfl, rfl, rfl, rfl, rfl, rfl, rfl, rfl, rfl⟩
theorem xdap_v : xdap B n q d 0 0 = d 0 0 ∧ xdap B n q d 0 1 = d 0 1 ∧ xdap B n q d 0 2 = d 0 2 ∧ xdap B n q d 0 3 = d 0 3 ∧ xdap B n q d 0 4 = d 0 4 + 1 ∧ xdap B n q d 0 5 = d 0 5 ∧ xdap B n q d 0 6 = d 0 6 ∧ xdap B n q d 0 7 = d 0 7 ∧ xdap B n q d 0 8 = d 0 8 ∧ xsx (xdap B n q d 0 8) = xsx (d 0 8) ∧ xcn (xdap B n q d 13) 24 = xcn (d 13) 24 := ⟨rfl, rfl, rfl, rfl, rfl, rfl, rfl, rfl, rfl, rfl, rfl⟩
theorem xdper_v : xdper B n q d 0 0 = d 0 0 ∧ xdper B n q d 0 1 = d 0 1 ∧ xdper B n q d 0 2 = d 0 2 ∧ xdper B n q d 0 3 = d 0 3 + 1 ∧ xdper B n q d 0 4 = d 0 4 ∧ xdper B n q d 0 5 = d 0 5 ∧ xdper B n q d 0 6 = d 0 6 ∧ xdper B n q d 0 7 = d 0 7 ∧ xdper B n q d 0 8 = d 0 8 ∧ xsx (xdper B n q d 0 8) = xsx (d 0 8) ∧ xcn (xdper B n q d 13) 24 = xcn (d 13) 24 := ⟨rfl, rfl, rfl, rfl, rfl, rfl, rfl, rfl, rfl, rfl, rfl⟩
theorem xdbo_r (h1 : 1 ≤ i) (h2 : i ≤ 11) : xdbo B n q d i = d i := by
  unfold xdbo
  rw [wq_u_row (by omega), wq_u_row (by omega)]
theorem xdtl_r (h1 : 1 ≤ i) (h2 : i ≤ 11) : xdtl B n q d i = d i := by
  unfold xdtl
  rw [wq_u_row (by omega), wq_u_row (by omega), wq_u_row (by omega)]
theorem xdof_r (h1 : 1 ≤ i) (h2 : i ≤ 11) : xdof B n q d i = d i := by
  unfold xdof
  rw [wq_u_row (by omega), wq_u_row (by omega), wq_u_row (by omega)]
theorem xdbo_c {k : Nat} (hk : (k : Int) = d 0 5) : xdbo B n q d 12 k = xV B n q ∧ ∀ j, j ≠ k → xdbo B n q d 12 j = d 12 j := by
  have e : (d 0 5).toNat = k := by omega
  unfold xdbo
  rw [e]
  exact ⟨by simp [wq_u], fun j hj => by simp [wq_u, hj]⟩
theorem xdtl_c {k : Nat} (hk : (k : Int) = d 0 6) : xdtl B n q d 14 k = xwho B n q d ∧ ∀ j, j ≠ k → xdtl B n q d 14 j = d 14 j := by
  have e : (d 0 6).toNat = k := by omega
  unfold xdtl
  rw [e]
  exact ⟨by simp [wq_u], fun j hj => by simp [wq_u, hj]⟩
theorem xdtl_e {k : Nat} (hk : (k : Int) = d 0 6) : xdtl B n q d 15 k = xhs (xV B n (xN B n q)) (xV B n (xN B n (xN B n (xN B n q)))) ∧ ∀ j, j ≠ k → xdtl B n q d 15 j = d 15 j := by
  have e : (d 0 6).toNat = k := by omega
  unfold xdtl
  rw [e]
  exact ⟨by simp [wq_u], fun j hj => by simp [wq_u, hj]⟩
theorem xdof_c {k : Nat} (hk : (k : Int) = d 0 7) : xdof B n q d 16 k = xhs (xV B n (xN B n q)) (xV B n (xN B n (xN B n (xN B n q)))) ∧ ∀ j, j ≠ k → xdof B n q d 16 j = d 16 j := by
  have e : (d 0 7).toNat = k := by omega
  unfold xdof
  rw [e]
  exact ⟨by simp [wq_u], fun j hj => by simp [wq_u, hj]⟩
theorem xnm_b : (xnm B n q d = 0 ∧ xre B n q = 11 ∧ xfi (d 1) (d 0 3) (xY B n q) = -1) ∨ (xnm B n q d = 3 ∧ xre B n q = 11 ∧ xfi (d 1) (d 0 3) (xY B n q) ≠ -1) ∨ (xnm B n q d = 1 ∧ xre B n q ≠ 11) := by
  unfold xnm
  split
  · split <;> omega
  · omega
theorem xsh_b : (xsh B n q d = 3 ∧ xK B n q = 2 ∧ xV B n q ≤ 23 ∧ d 13 (xV B n q).toNat > 0) ∨ (xsh B n q d = xh B n q 0 23 ∧ (xK B n q ≠ 2 ∨ 23 < xV B n q ∨ d 13 (xV B n q).toNat ≤ 0)) := by
  unfold xsh
  split <;> omega
theorem xdsex_v : xdsex B n q d 0 0 = d 0 0 ∧ xdsex B n q d 0 1 = d 0 1 ∧ xdsex B n q d 0 2 = d 0 2 ∧ xdsex B n q d 0 3 = d 0 3 ∧ xdsex B n q d 0 4 = d 0 4 ∧ xdsex B n q d 0 5 = d 0 5 ∧ xdsex B n q d 0 6 = d 0 6 ∧ xdsex B n q d 0 7 = d 0 7 ∧ xdsex B n q d 0 8 = xwho B n q d ∧ xsx (xdsex B n q d 0 8) = xsx (xwho B n q d) ∧ xcn (xdsex B n q d 13) 24 = xcn (d 13) 24 := ⟨rfl, rfl, rfl, rfl, rfl, rfl, rfl, rfl, rfl, rfl, rfl⟩
theorem xdsex_r (h : 1 ≤ i) : xdsex B n q d i = d i := by
  unfold xdsex
  rw [wq_u_row (by omega)]
end DROW2

section DPER

variable {T : wq_T} {H H' H0 : wq_H} {l : List (Nat × Nat)} {r p pa k : Nat} {d d' : xD} {B : Nat → Int} {n q y : Int} {M : wq_H}
theorem wq_u_nf {H2 : wq_H} {a b j : Nat} {z : Int} (e : H2 = wq_u H a j z) (h : b ≠ a) : H2 b = H b := by
  subst e
  funext i
  exact if_neg (fun q => h q.1)
theorem wq_u_tf {H2 : wq_H} {a b j t t' : Nat} {z : Int} (e : H2 = wq_u H a j z) (g : T.2.2.2 a = some t) (g' : T.2.2.2 b = some t') (h : t ≠ t') : H2 b = H b := by
  refine wq_u_nf e (fun q => ?_)
  subst q
  rw [g] at g'
  exact h (Option.some.inj g')
/-- bits by a matrix -/
def xM (d : xD) : wq_H := fun k j => xagf d k j (d 0 4).toNat
def PG (H : wq_H) (p : Nat) (d : xD) (M : wq_H) (k : Nat) : Prop := H p 6 = d 1 k ∧ H p 7 = d 2 k ∧ H p 8 = d 3 k ∧ H p 9 = d 4 k ∧ H p 10 = d 5 k ∧ H p 11 = d 6 k ∧ H p 12 = xhs (d 7 k) (d 8 k) ∧ H p 13 = d 9 k ∧ 0 ≤ H p 14 ∧ H p 14 ≤ 63 ∧ ∀ j : Nat, j < 6 → wq_and (wq_shr (H p 14) j) 1 = M k j
def DG (T : wq_T) (H : wq_H) (r : Nat) (d : xD) (M : wq_H) : Prop := ∀ k : Nat, (k : Int) < d 0 3 → ∃ p : Nat, H (H r 0).toNat k = (p : Int) ∧ T.2.2.2 p = some 35 ∧ PG H p d M k
theorem DG_fr (hW : WT T H) (g : T.2.2.2 r = some 27) (f : wfr l T H H') (x : DQx l = true) (h : DG T H r d M) : DG T H' r d M := by
  unfold DQx at x
  simp only [Bool.and_eq_true] at x
  intro k hk
  obtain ⟨p, h1, h2, h3⟩ := h k hk
  refine ⟨p, (pa_fr hW g f x.1.1 x.1.2 k).trans h1, h2, ?_⟩
  unfold PG
  rw [wno_f f h2 x.2 (j := 6) rfl, wno_f f h2 x.2 (j := 7) rfl, wno_f f h2 x.2 (j := 8) rfl, wno_f f h2 x.2 (j := 9) rfl, wno_f f h2 x.2 (j := 10) rfl, wno_f f h2 x.2 (j := 11) rfl, wno_f f h2 x.2 (j := 12) rfl, wno_f f h2 x.2 (j := 13) rfl, wno_f f h2 x.2 (j := 14) rfl]
  exact h3
theorem DG_at {s : Int} (h : DG T H r d M) (e0 : H r 0 = (pa : Int)) (e1 : H pa k = (p : Int)) (hk : (k : Int) < d 0 3) (h0 : 0 ≤ s) (h1 : s < 6) : wq_and (wq_shr (H p 14) s) 1 = M k s.toNat ∧ 0 ≤ H p 14 ∧ H p 14 ≤ 63 := by
  obtain ⟨p', h2, -, h3⟩ := h k hk
  rw [e0, Int.toNat_natCast, e1] at h2
  have : p = p' := by omega
  subst this
  have h4 := h3.2.2.2.2.2.2.2.2.2.2 s.toNat (by omega)
  rw [Int.toNat_of_nonneg h0] at h4
  exact ⟨h4, h3.2.2.2.2.2.2.2.2.1, h3.2.2.2.2.2.2.2.2.2.1⟩
theorem DG_put {v s : Int} (hW : WT T H) (g : T.2.2.2 r = some 27) (h : DG T H r d M) (dd : DD T H r) (e0 : H r 0 = (pa : Int)) (e1 : H pa k = (p : Int)) (gp : T.2.2.2 p = some 35) (hk : (k : Int) < d 0 3) (h6 : d 0 3 ≤ 6) (h0 : 0 ≤ s) (h1 : s < 6) (e : H' = wq_u H p 14 v) (hv : v = wq_or (H p 14) (wq_shl 1 s)) : DG T H' r d (wq_u M k s.toNat 1) := by
  intro j hj
  obtain ⟨p', h2, h3, h4⟩ := h j hj
  have er : H' r = H r := wq_u_tf e gp g (by decide)
  obtain ⟨pa', d1, d2, d3⟩ := dd
  have epa : pa' = pa := by omega
  subst epa
  have epa : H' pa' = H pa' := wq_u_tf e gp d2 (by decide)
  refine ⟨p', by rw [er, e0, Int.toNat_natCast, epa, ← h2, e0, Int.toNat_natCast], h3, ?_⟩
  rw [e0, Int.toNat_natCast] at h2
  by_cases hjk : j = k
  · subst hjk
    have : p' = p := by omega
    subst this
    have hb := ab_ok h4.2.2.2.2.2.2.2.2.1 h4.2.2.2.2.2.2.2.2.2.1 h0 h1
    subst e
    unfold PG
    rw [wq_u_eq, wq_u_ne (i := 6) (by omega), wq_u_ne (i := 7) (by omega), wq_u_ne (i := 8) (by omega), wq_u_ne (i := 9) (by omega), wq_u_ne (i := 10) (by omega), wq_u_ne (i := 11) (by omega), wq_u_ne (i := 12) (by omega), wq_u_ne (i := 13) (by omega), hv]
    refine ⟨h4.1, h4.2.1, h4.2.2.1, h4.2.2.2.1, h4.2.2.2.2.1, h4.2.2.2.2.2.1, h4.2.2.2.2.2.2.1, h4.2.2.2.2.2.2.2.1, hb.1, hb.2.1, fun i hi => ?_⟩
    rw [hb.2.2 i hi, h4.2.2.2.2.2.2.2.2.2.2 i hi]
    unfold wq_u
    by_cases hi2 : (i : Int) = s
    · rw [if_pos hi2, if_pos ⟨rfl, by omega⟩]
    · rw [if_neg hi2, if_neg (by omega)]
  · have hp : p' ≠ p := fun q => hjk (d3 j k (by omega) (by omega) (by rw [h2, e1, q]))
    unfold PG
    rw [wq_u_nf e hp]
    refine ⟨h4.1, h4.2.1, h4.2.2.1, h4.2.2.2.1, h4.2.2.2.2.1, h4.2.2.2.2.2.1, h4.2.2.2.2.2.2.1, h4.2.2.2.2.2.2.2.1, h4.2.2.2.2.2.2.2.2.1, h4.2.2.2.2.2.2.2.2.2.1, fun i hi => ?_⟩
    rw [h4.2.2.2.2.2.2.2.2.2.2 i hi]
    exact (wq_u_ne (by omega)).symm
theorem xac_M {a b : Int} (h0 : 0 ≤ a) (h1 : 0 ≤ b) : (a = b ∧ xac d a b = 3) ∨ (a ≠ b ∧ xM d a.toNat b.toNat = 0 ∧ xac d a b = 0) ∨ (a ≠ b ∧ xM d a.toNat b.toNat ≠ 0 ∧ xac d a b = 3) := by
  unfold xac xag xM
  rw [Int.toNat_of_nonneg h0, Int.toNat_of_nonneg h1]
  by_cases e : a = b
  · rw [if_pos e, if_neg (by omega)]
    exact Or.inl ⟨e, rfl⟩
  · rw [if_neg e]
    split <;> omega
theorem xagf_u {a b : Int} : ∀ m : Nat, (∀ i, i < m → d' 10 i = d 10 i ∧ d' 11 i = d 11 i) → xagf d' a b m = xagf d a b m
  | 0, _ => rfl
  | m + 1, h => by
    show (if (d' 10 m = a ∧ d' 11 m = b) ∨ (d' 10 m = b ∧ d' 11 m = a) then 1 else xagf d' a b m) = _
    rw [(h m (by omega)).1, (h m (by omega)).2, xagf_u m (fun i hi => h i (by omega))]
    rfl
theorem xagf_0 {a b : Int} : ∀ m : Nat, (∀ i, i < m → d 10 i ≠ a ∧ d 11 i ≠ a) → xagf d a b m = 0
  | 0, _ => rfl
  | m + 1, h => by
    have := h m (by omega)
    show (if (d 10 m = a ∧ d 11 m = b) ∨ (d 10 m = b ∧ d 11 m = a) then 1 else xagf d a b m) = _
    rw [if_neg (by omega)]
    exact xagf_0 m (fun i hi => h i (by omega))
theorem xdap_r {i : Nat} (h1 : 1 ≤ i) (h2 : i ≠ 10) (h3 : i ≠ 11) : xdap B n q d i = d i := by
  unfold xdap
  rw [wq_u_row (by omega), wq_u_row (by omega), wq_u_row (by omega)]
/-- a pair more -/
theorem DQ_ap {a b : Int} (hq : DQ T H0 r d) (h4 : 0 ≤ d 0 4) (ha : xwho B n q d = a) (hb : xwho B n (xN B n (xN B n q)) d = b) (a0 : 0 ≤ a) (a1 : a < d 0 3) (b0 : 0 ≤ b) (b1 : b < d 0 3) (h : DG T H r d (wq_u (wq_u (xM d) a.toNat b.toNat 1) b.toNat a.toNat 1)) : DQ T H r (xdap B n q d) := by
  have e10 : xdap B n q d 10 (d 0 4).toNat = a := by
    unfold xdap
    rw [ha, hb]
    simp [wq_u]
  have e11 : xdap B n q d 11 (d 0 4).toNat = b := by
    unfold xdap
    rw [ha, hb]
    simp [wq_u]
  have en : ∀ i, i ≠ (d 0 4).toNat → xdap B n q d 10 i = d 10 i ∧ xdap B n q d 11 i = d 11 i := fun i hi => by
    unfold xdap
    constructor <;> simp [wq_u, hi]
  have e4 : xdap B n q d 0 4 = d 0 4 + 1 := rfl
  have e3 : xdap B n q d 0 3 = d 0 3 := rfl
  refine ⟨fun k hk => ?_, fun k hk => ?_⟩
  · obtain ⟨p, h1, h2, h5⟩ := h k (by omega)
    refine ⟨p, h1, h2, ?_⟩
    unfold PF
    rw [xdap_r (i := 1) (by omega) (by omega) (by omega), xdap_r (i := 2) (by omega) (by omega) (by omega), xdap_r (i := 3) (by omega) (by omega) (by omega), xdap_r (i := 4) (by omega) (by omega) (by omega), xdap_r (i := 5) (by omega) (by omega) (by omega), xdap_r (i := 6) (by omega) (by omega) (by omega), xdap_r (i := 7) (by omega) (by omega) (by omega), xdap_r (i := 8) (by omega) (by omega) (by omega), xdap_r (i := 9) (by omega) (by omega) (by omega)]
    refine ⟨h5.1, h5.2.1, h5.2.2.1, h5.2.2.2.1, h5.2.2.2.2.1, h5.2.2.2.2.2.1, h5.2.2.2.2.2.2.1, h5.2.2.2.2.2.2.2.1, h5.2.2.2.2.2.2.2.2.1, h5.2.2.2.2.2.2.2.2.2.1, fun j hj => ?_⟩
    rw [h5.2.2.2.2.2.2.2.2.2.2 j hj, e4, show (d 0 4 + 1).toNat = (d 0 4).toNat + 1 by omega]
    show _ = (if (xdap B n q d 10 (d 0 4).toNat = k ∧ xdap B n q d 11 (d 0 4).toNat = j) ∨ (xdap B n q d 10 (d 0 4).toNat = j ∧ xdap B n q d 11 (d 0 4).toNat = k) then 1 else xagf (xdap B n q d) k j (d 0 4).toNat)
    rw [e10, e11, xagf_u (d := d) (d 0 4).toNat (fun i hi => en i (by omega))]
    unfold wq_u
    by_cases c1 : k = b.toNat ∧ j = a.toNat
    · rw [if_pos c1, if_pos (by omega)]
    · rw [if_neg c1]
      by_cases c2 : k = a.toNat ∧ j = b.toNat
      · rw [if_pos c2, if_pos (by omega)]
      · rw [if_neg c2, if_neg (by omega)]
        rfl
  · by_cases e : k = (d 0 4).toNat
    · subst e
      rw [e10, e11, e3]
      omega
    · rw [(en k e).1, (en k e).2, e3]
      exact hq.2 k (by omega)
/-- the person that is told of, not counted yet -/
def PK (T : wq_T) (H : wq_H) (r : Nat) (B : Nat → Int) (n y : Int) (d : xD) : Prop := ∃ p : Nat, H (H r 0).toNat (d 0 3).toNat = (p : Int) ∧ T.2.2.2 p = some 35 ∧ H p 6 = xY B n y ∧ H p 7 = xV B n (xN B n (xN B n y)) ∧ H p 8 = xV B n (xN B n (xN B n (xN B n (xN B n y)))) ∧ H p 9 = xV B n (xN B n (xN B n (xN B n (xN B n (xN B n (xN B n y)))))) ∧ H p 10 = xV B n (xN B n (xN B n (xN B n (xN B n (xN B n (xN B n (xN B n (xN B n y)))))))) ∧ H p 11 = -1 ∧ H p 12 = 0 ∧ H p 13 = 0 ∧ H p 14 = 0
theorem PK_k (h : PK T H r B n y d) (e0 : H r 0 = (pa : Int)) (e1 : H pa k = (p : Int)) (hk : (k : Int) = d 0 3) : H p 6 = xY B n y ∧ H p 7 = xV B n (xN B n (xN B n y)) ∧ H p 8 = xV B n (xN B n (xN B n (xN B n (xN B n y)))) ∧ H p 9 = xV B n (xN B n (xN B n (xN B n (xN B n (xN B n (xN B n y)))))) ∧ H p 10 = xV B n (xN B n (xN B n (xN B n (xN B n (xN B n (xN B n (xN B n (xN B n y)))))))) ∧ H p 11 = -1 ∧ H p 12 = 0 ∧ H p 13 = 0 ∧ H p 14 = 0 := by
  obtain ⟨p', h1, h2, h3⟩ := h
  rw [e0, Int.toNat_natCast, show (d 0 3).toNat = k by omega, e1] at h1
  have : p = p' := by omega
  subst this
  exact h3
/-- a person that isn't counted is written to -/
theorem DQ_oth (hW : WT T H) (g : T.2.2.2 r = some 27) (f : wfr l T H H') (x : (wno l 27 (fun j => decide (j = 0)) && wno l 28 (fun _ => true)) = true) (dd : DD T H r) (e0 : H' r 0 = (pa : Int)) (e1 : H' pa k = (p : Int)) (hk : (k : Int) = d 0 3) (h6 : d 0 3 ≤ 5) (oth : ∀ a, a ≠ p → T.2.2.2 a = some 35 → H' a = H a) (h : DQ T H r d) : DQ T H' r d := by
  simp only [Bool.and_eq_true] at x
  refine ⟨fun j hj => ?_, h.2⟩
  obtain ⟨p', h1, h2, h3⟩ := h.1 j hj
  have e2 := pa_fr hW g f x.1 x.2 k
  have e4 := pa_fr hW g f x.1 x.2 j
  rw [e0, Int.toNat_natCast, e1] at e2
  obtain ⟨pa', d1, d2, d3⟩ := dd
  have hp : p' ≠ p := fun q => by
    have h7 : H pa' j = H pa' k := by
      rw [d1, Int.toNat_natCast] at h1 e2
      rw [h1, ← e2, q]
    have := d3 j k (by omega) (by omega) h7
    omega
  refine ⟨p', e4.trans h1, h2, ?_⟩
  unfold PF
  rw [oth p' hp h2]
  exact h3
theorem xdper_r {i : Nat} (h1 : 10 ≤ i) : xdper B n q d i = d i := by
  unfold xdper
  rw [wq_u_row (by omega), wq_u_row (by omega), wq_u_row (by omega), wq_u_row (by omega), wq_u_row (by omega), wq_u_row (by omega), wq_u_row (by omega), wq_u_row (by omega), wq_u_row (by omega), wq_u_row (by omega)]
theorem xdper_k (hk : (k : Int) = d 0 3) : xdper B n q d 1 k = xY B n q ∧ xdper B n q d 2 k = xV B n (xN B n (xN B n q)) ∧ xdper B n q d 3 k = xV B n (xN B n (xN B n (xN B n (xN B n q)))) ∧ xdper B n q d 4 k = xV B n (xN B n (xN B n (xN B n (xN B n (xN B n (xN B n q)))))) ∧ xdper B n q d 5 k = xV B n (xN B n (xN B n (xN B n (xN B n (xN B n (xN B n (xN B n (xN B n q)))))))) ∧ xdper B n q d 6 k = xhb B n (xN B n (xN B n (xN B n (xN B n (xN B n (xN B n (xN B n (xN B n (xN B n q))))))))) ∧ xdper B n q d 7 k = xnf B n (xqa B n (xN B n (xN B n (xN B n (xN B n (xN B n (xN B n (xN B n (xN B n (xN B n q)))))))))) ∧ xdper B n q d 8 k = xnt B n (xqa B n (xN B n (xN B n (xN B n (xN B n (xN B n (xN B n (xN B n (xN B n (xN B n q)))))))))) ∧ xdper B n q d 9 k = xaw B n (xqb B n (xqa B n (xN B n (xN B n (xN B n (xN B n (xN B n (xN B n (xN B n (xN B n (xN B n q))))))))))) := by
  have e : (d 0 3).toNat = k := by omega
  unfold xdper
  rw [e]
  refine ⟨?_, ?_, ?_, ?_, ?_, ?_, ?_, ?_, ?_⟩ <;> simp [wq_u]
theorem xdper_n (hk : (k : Int) = d 0 3) {i j : Nat} (hi : 1 ≤ i) (hj : j ≠ k) : xdper B n q d i j = d i j := by
  have e : (d 0 3).toNat = k := by omega
  unfold xdper
  rw [e, wq_u_e2 (by omega), wq_u_e2 (by omega), wq_u_e2 (by omega), wq_u_e2 (by omega), wq_u_e2 (by omega), wq_u_e2 (by omega), wq_u_e2 (by omega), wq_u_e2 (by omega), wq_u_e2 (by omega), wq_u_e2 (by omega)]
/-- a person more -/
theorem DQ_per (gp : T.2.2.2 p = some 35) (h : DQ T H r d) (h4 : 0 ≤ d 0 4) (e0 : H r 0 = (pa : Int)) (e1 : H pa k = (p : Int)) (hk : (k : Int) = d 0 3) (hf : H p 6 = xdper B n q d 1 k ∧ H p 7 = xdper B n q d 2 k ∧ H p 8 = xdper B n q d 3 k ∧ H p 9 = xdper B n q d 4 k ∧ H p 10 = xdper B n q d 5 k ∧ H p 11 = xdper B n q d 6 k ∧ H p 12 = xhs (xdper B n q d 7 k) (xdper B n q d 8 k) ∧ H p 13 = xdper B n q d 9 k ∧ H p 14 = 0) : DQ T H r (xdper B n q d) := by
  have e3 : xdper B n q d 0 3 = d 0 3 + 1 := rfl
  have e4 : xdper B n q d 0 4 = d 0 4 := rfl
  have ea : ∀ i, i < (d 0 4).toNat → xdper B n q d 10 i = d 10 i ∧ xdper B n q d 11 i = d 11 i := fun i _ => ⟨by rw [xdper_r (by omega)], by rw [xdper_r (by omega)]⟩
  refine ⟨fun j hj => ?_, fun j hj => ?_⟩
  · by_cases hjk : j = k
    · subst hjk
      refine ⟨p, by rw [e0, Int.toNat_natCast]; exact e1, gp, ?_⟩
      obtain ⟨f1, f2, f3, f4, f5, f6, f7, f8, f9⟩ := hf
      refine ⟨f1, f2, f3, f4, f5, f6, f7, f8, by omega, by omega, fun i hi => ?_⟩
      rw [f9, ab_z hi, e4, xagf_u (d := d) _ ea]
      exact (xagf_0 _ (fun m hm => by have := h.2 m (by omega); omega)).symm
    · obtain ⟨p', h1, h2, h3⟩ := h.1 j (by omega)
      refine ⟨p', h1, h2, ?_⟩
      unfold PF
      rw [xdper_n hk (i := 1) (by omega) hjk, xdper_n hk (i := 2) (by omega) hjk, xdper_n hk (i := 3) (by omega) hjk, xdper_n hk (i := 4) (by omega) hjk, xdper_n hk (i := 5) (by omega) hjk, xdper_n hk (i := 6) (by omega) hjk, xdper_n hk (i := 7) (by omega) hjk, xdper_n hk (i := 8) (by omega) hjk, xdper_n hk (i := 9) (by omega) hjk, e4]
      refine ⟨h3.1, h3.2.1, h3.2.2.1, h3.2.2.2.1, h3.2.2.2.2.1, h3.2.2.2.2.2.1, h3.2.2.2.2.2.2.1, h3.2.2.2.2.2.2.2.1, h3.2.2.2.2.2.2.2.2.1, h3.2.2.2.2.2.2.2.2.2.1, fun i hi => ?_⟩
      rw [xagf_u (d := d) _ ea]
      exact h3.2.2.2.2.2.2.2.2.2.2 i hi
  · rw [(ea j (by omega)).1, (ea j (by omega)).2, e3]
    have := h.2 j (by omega)
    omega
theorem DQ_0 (h3 : d 0 3 ≤ 0) (h4 : d 0 4 ≤ 0) : DQ T H r d := ⟨fun k hk => by omega, fun k hk => by omega⟩
theorem DA_0 {S tg t n : Nat} {a b c : Int} {f : Nat → Int} (hW : WT T H) (g : T.2.2.2 r = some t) (hn : (wsh t).2 = n) (hS : S < n) (hty : wty t S = (2, a, b, tg)) (hc : c ≤ 0) : DA S tg T H r c f := by
  obtain ⟨b, h1, h2⟩ := hW.ref g hn hS hty
  exact ⟨b, h1, h2, fun k hk => by omega⟩
/-- no strokes, as far as i -/
def SZ (T : wq_T) (H : wq_H) (r : Nat) (i : Int) : Prop := ∃ s : Nat, H r 1 = (s : Int) ∧ T.2.2.2 s = some 29 ∧ ∀ k : Nat, (k : Int) < i → H s k = -2
theorem SZ_0 (hW : WT T H) (g : T.2.2.2 r = some 27) : SZ T H r 0 := by
  obtain ⟨b, h1, h2⟩ := hW.ref g (t' := 29) (n := 19) (j := 1) (p := 0) (q := 0) rfl (by decide) rfl
  exact ⟨b, h1, h2, fun k hk => by omega⟩
theorem SZ_put {s : Nat} {i v : Int} (h : SZ T H r i) (e0 : H r 1 = (s : Int)) (gr : T.2.2.2 r = some 27) (gs : T.2.2.2 s = some 29) (e : H' = wq_u H s k v) (hk : (k : Int) = i) (hv : v = -2) : SZ T H' r (i + 1) := by
  obtain ⟨s', h1, h2, h3⟩ := h
  have : s' = s := by omega
  subst this
  refine ⟨s', ?_, h2, fun j hj => ?_⟩
  · rw [wq_u_tf e gs gr (by decide)]
    exact h1
  · subst e
    by_cases hjk : j = k
    · subst hjk
      rw [wq_u_eq, hv]
    · rw [wq_u_ne (fun q => hjk q.2)]
      exact h3 j (by omega)
theorem ST_z {f : Nat → Int} {i : Int} (h : SZ T H r i) (hi : 24 ≤ i) (hf : ∀ k, k < 24 → f k = 0) : ST T H r f := by
  obtain ⟨s, h1, h2, h3⟩ := h
  refine ⟨s, h1, h2, fun k hk => ?_⟩
  rw [hf k hk, h3 k (by omega)]
  exact ⟨by omega, by omega, rfl⟩
theorem SV_z {f : Nat → Int} {i : Int} (hW : WT T H) (g : T.2.2.2 r = some 27) (hf : ∀ k, f k ≤ 0) : SV T H r f i := by
  obtain ⟨b, h1, h2⟩ := hW.ref g (t' := 30) (n := 19) (j := 2) (p := 0) (q := 0) rfl (by decide) rfl
  exact ⟨b, h1, h2, fun k hk hp => by have := hf k; omega⟩
end DPER
