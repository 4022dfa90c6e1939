/-! WHAT IS HELD (own work): rows by people and SPANS, six apart from each other; the least and the greatest STRIKES of an HOUR -/
def HDr (S tA tR : Nat) (T : wq_T) (H : wq_H) (ce : Nat) : Prop := ∃ a : Nat, H ce S = (a : Int) ∧ T.2.2.2 a = some tA ∧ ∀ p q : Nat, p < 6 → q < 6 → p ≠ q → H a p ≠ H a q
def HDR (T : wq_T) (H : wq_H) (ce : Nat) : Prop := HDr 1 14 15 T H ce ∧ HDr 2 16 17 T H ce
def HDRx (l : List (Nat × Nat)) : Bool := wno l 12 (fun j => decide (j = 1 ∨ j = 2)) && wno l 14 (fun _ => true) && wno l 16 (fun _ => true)
def HV (S : Nat) (T : wq_T) (H : wq_H) (ce : Nat) (c : Int) (v : Nat → Nat → Int) : Prop := ∀ a r p i : Nat, H ce S = (a : Int) → (p : Int) < c → p < 6 → i < 40 → H a p = (r : Int) → H r i = v p i
abbrev HV1 := HV 1
abbrev HV2 := HV 2
def HV1x (l : List (Nat × Nat)) : Bool := wno l 12 (fun j => decide (j = 1)) && wno l 14 (fun _ => true) && wno l 15 (fun _ => true)
def HV2x (l : List (Nat × Nat)) : Bool := wno l 12 (fun j => decide (j = 2)) && wno l 16 (fun _ => true) && wno l 17 (fun _ => true)
def LDu (S tg : Nat) (m : Bool) (T : wq_T) (H : wq_H) (ce : Nat) (e d : xD) (N u : Nat) : Prop := ∃ b : Nat, H ce S = (b : Int) ∧ T.2.2.2 b = some tg ∧ ∀ h : Nat, h < 24 → e 13 h > 0 → (h < u ∨ 0 < xcn (xwf e d) N) → H b h = if h < u then xtr m (xwf e d) (fun n => ((xdue d (xlot d n) h : Nat) : Int)) (N + 1) else xtr m (xwf e d) (fun n => ((xdue d (xlot d n) h : Nat) : Int)) N
abbrev LD3 := LDu 3 18 false
abbrev LD4 := LDu 4 19 true
def LD3x (l : List (Nat × Nat)) : Bool := wno l 12 (fun j => decide (j = 3)) && wno l 18 (fun _ => true)
def LD4x (l : List (Nat × Nat)) : Bool := wno l 12 (fun j => decide (j = 4)) && wno l 19 (fun _ => true)
/-- all that is held of the first LOTS -/
def CEX (T : wq_T) (H : wq_H) (ce : Nat) (e d : xD) (N : Nat) : Prop := HV1 T H ce (d 0 3) (fun p i => xhc e d p i N) ∧ HV2 T H ce (d 0 3) (fun p i => xhw e d p i N) ∧ LD3 T H ce e d N 0 ∧ LD4 T H ce e d N 0
def CEXx (l : List (Nat × Nat)) : Bool := HV1x l && HV2x l && LD3x l && LD4x l
section HELD

variable {T T' : wq_T} {H H' : wq_H} {l : List (Nat × Nat)} {ce a r k p0 b h9 u N S tA tR tg : Nat} {e d : xD} {v v' : Nat → Nat → Int} {c x y : Int} {m : Bool}
theorem HDr_fr (g : T.2.2.2 ce = some 12) (f : wfr l T H H') (x1 : wno l 12 (fun j => decide (j = S)) = true) (x2 : wno l tA (fun _ => true) = true) (h : HDr S tA tR T H ce) : HDr S tA tR T H' ce := by
  obtain ⟨a, h1, h2, h3⟩ := h
  refine ⟨a, (wno_f f g x1 (by simp)).trans h1, h2, fun p q hp hq hn => ?_⟩
  rw [wno_f f h2 x2 rfl, wno_f f h2 x2 rfl]
  exact h3 p q hp hq hn
theorem HDR_fr (hW : WT T H) (g : T.2.2.2 ce = some 12) (f : wfr l T H H') (x : HDRx l = true) (h : HDR T H ce) : HDR T H' ce := by
  unfold HDRx at x
  simp only [Bool.and_eq_true] at x
  exact ⟨HDr_fr g f (wno_le x.1.1 (fun j hj => decide_eq_true (Or.inl (of_decide_eq_true hj)))) x.1.2 h.1, HDr_fr g f (wno_le x.1.1 (fun j hj => decide_eq_true (Or.inr (of_decide_eq_true hj)))) x.2 h.2⟩
theorem HDR_mono (mo : ∀ a t, T.2.2.2 a = some t → T'.2.2.2 a = some t) (h : HDR T H ce) : HDR T' H ce := by
  obtain ⟨⟨a, h1, h2, h3⟩, ⟨b, k1, k2, k3⟩⟩ := h
  exact ⟨⟨a, h1, mo _ _ h2, h3⟩, ⟨b, k1, mo _ _ k2, k3⟩⟩
theorem HV_fr (hW : WT T H) (g : T.2.2.2 ce = some 12) (f : wfr l T H H') (hS : S < 10) (t1 : wty 12 S = (2, 0, 0, tA)) (hn : (wsh tA).2 = 6) (t2 : ∀ j, wty tA j = (2, 0, 0, tR)) (x1 : wno l 12 (fun j => decide (j = S)) = true) (x2 : wno l tA (fun _ => true) = true) (x3 : wno l tR (fun _ => true) = true) (h : HV S T H ce c v) : HV S T H' ce c v := fun a r p i ha hp h6 hi hr => by
  obtain ⟨a', q1, q2⟩ := hW.ref g (t' := tA) (n := 10) (j := S) rfl hS t1
  have e1 : H' ce S = H ce S := wno_f f g x1 (by simp)
  have ea : a' = a := by omega
  subst ea
  obtain ⟨r', q3, q4⟩ := hW.ref q2 (t' := tR) (n := 6) (j := p) hn h6 (t2 p)
  have e2 : H' a' p = H a' p := wno_f f q2 x2 rfl
  have er : r' = r := by omega
  subst er
  exact (wno_f f q4 x3 rfl).trans (h a' r' p i q1 hp h6 hi q3)
theorem HV1_fr (hW : WT T H) (g : T.2.2.2 ce = some 12) (f : wfr l T H H') (x : HV1x l = true) (h : HV1 T H ce c v) : HV1 T H' ce c v := by
  unfold HV1x at x
  simp only [Bool.and_eq_true] at x
  exact HV_fr hW g f (by decide) (tA := 14) (tR := 15) rfl rfl (fun _ => rfl) x.1.1 x.1.2 x.2 h
theorem HV2_fr (hW : WT T H) (g : T.2.2.2 ce = some 12) (f : wfr l T H H') (x : HV2x l = true) (h : HV2 T H ce c v) : HV2 T H' ce c v := by
  unfold HV2x at x
  simp only [Bool.and_eq_true] at x
  exact HV_fr hW g f (by decide) (tA := 16) (tR := 17) rfl rfl (fun _ => rfl) x.1.1 x.1.2 x.2 h
theorem HV_put (h : HV S T H ce c v) (hd : HDr S tA tR T H ce) (gc : T.2.2.2 ce = some 12) (qa : H ce S = (a : Int)) (qr : H a p0 = (r : Int)) (gr : T.2.2.2 r = some tR) (hp : p0 < 6) (n1 : tR ≠ 12) (n2 : tR ≠ tA) (ex : H' = wq_u H r k x) (vk : v' p0 k = x) (vn : ∀ p i, ¬ (p = p0 ∧ i = k) → v' p i = v p i) : HV S T H' ce c v' := by
  obtain ⟨a0, d1, d2, d3⟩ := hd
  have e0 : a0 = a := by omega
  subst e0
  have c1 : ce ≠ r := fun q => by
    subst q
    rw [gc] at gr
    exact n1 (Option.some.inj gr).symm
  have c2 : a0 ≠ r := fun q => by
    subst q
    rw [d2] at gr
    exact n2 (Option.some.inj gr).symm
  intro a' r' p i ha hpc h6 hi hr
  rw [ex, wq_u_na c1] at ha
  have e1 : a' = a0 := by omega
  subst e1
  rw [ex, wq_u_na c2] at hr
  by_cases q : p = p0
  · subst q
    have e2 : r' = r := by omega
    subst e2
    by_cases qi : i = k
    · subst qi
      rw [ex, wq_u_eq, vk]
    · rw [ex, wq_u_ne (fun t => qi t.2), vn p i (fun t => qi t.2)]
      exact h a' r' p i qa hpc h6 hi hr
  · have c3 : r' ≠ r := fun t => by
      subst t
      exact d3 p p0 h6 hp q (hr.trans qr.symm)
    rw [ex, wq_u_na c3, vn p i (fun t => q t.1)]
    exact h a' r' p i qa hpc h6 hi hr
theorem HV_cg (h : HV S T H ce c v) (e1 : ∀ p i : Nat, (p : Int) < c → p < 6 → i < 40 → v p i = v' p i) : HV S T H ce c v' := fun a r p i ha hp h6 hi hr => (h a r p i ha hp h6 hi hr).trans (e1 p i hp h6 hi)
theorem LDu_fr (g : T.2.2.2 ce = some 12) (f : wfr l T H H') (x1 : wno l 12 (fun j => decide (j = S)) = true) (x2 : wno l tg (fun _ => true) = true) (h : LDu S tg m T H ce e d N u) : LDu S tg m T H' ce e d N u := by
  obtain ⟨b, h1, h2, h3⟩ := h
  refine ⟨b, (wno_f f g x1 (by simp)).trans h1, h2, fun h hh he hu => ?_⟩
  rw [wno_f f h2 x2 rfl]
  exact h3 h hh he hu
theorem LD3_fr (hW : WT T H) (g : T.2.2.2 ce = some 12) (f : wfr l T H H') (x : LD3x l = true) (h : LD3 T H ce e d N u) : LD3 T H' ce e d N u := by
  unfold LD3x at x
  simp only [Bool.and_eq_true] at x
  exact LDu_fr g f x.1 x.2 h
theorem LD4_fr (hW : WT T H) (g : T.2.2.2 ce = some 12) (f : wfr l T H H') (x : LD4x l = true) (h : LD4 T H ce e d N u) : LD4 T H' ce e d N u := by
  unfold LD4x at x
  simp only [Bool.and_eq_true] at x
  exact LDu_fr g f x.1 x.2 h
theorem CEX_fr (hW : WT T H) (g : T.2.2.2 ce = some 12) (f : wfr l T H H') (x : CEXx l = true) (h : CEX T H ce e d N) : CEX T H' ce e d N := by
  unfold CEXx at x
  simp only [Bool.and_eq_true] at x
  exact ⟨HV1_fr hW g f x.1.1.1 h.1, HV2_fr hW g f x.1.1.2 h.2.1, LD3_fr hW g f x.1.2 h.2.2.1, LD4_fr hW g f x.2 h.2.2.2⟩
/-- one HOUR more -/
theorem LD_put (h : LDu S tg m T H ce e d N u) (q : H ce S = (b : Int)) (gc : T.2.2.2 ce = some 12) (gb : T.2.2.2 b = some tg) (ne : tg ≠ 12) (ex : H' = wq_u H b k x) (hk : k = h9) (hu : u ≤ h9) (hg : ∀ j : Nat, u ≤ j → j < h9 → e 13 j ≤ 0) (hx : x = xtr m (xwf e d) (fun n => ((xdue d (xlot d n) h9 : Nat) : Int)) (N + 1)) : LDu S tg m T H' ce e d N (h9 + 1) := by
  obtain ⟨b', h1, h2, h3⟩ := h
  have hb : b' = b := by omega
  subst hb
  refine ⟨b', ?_, h2, fun h hh he hp => ?_⟩
  · rw [ex, wq_u_na (fun q => ?_)]
    · exact h1
    · subst q
      rw [gc] at gb
      exact ne (Option.some.inj gb).symm
  · by_cases c1 : h = h9
    · subst c1
      rw [ex, hk, wq_u_eq, if_pos (Nat.lt_succ_self h), hx]
    · rw [ex, wq_u_ne (fun t => c1 (t.2.trans hk))]
      by_cases c2 : h < u
      · rw [h3 h hh he (Or.inl c2), if_pos c2, if_pos (by omega)]
      · by_cases c3 : h < h9
        · have := hg h (by omega) c3
          omega
        · rw [h3 h hh he (Or.inr (by rcases hp with t | t; omega; exact t)), if_neg c2, if_neg (by omega)]
theorem LD_all (hf : xwf e d N > 0) (h : LDu S tg m T H ce e d N u) (hu : ∀ j : Nat, u ≤ j → j < 24 → e 13 j ≤ 0) : LDu S tg m T H ce e d (N + 1) 0 := by
  obtain ⟨b, h1, h2, h3⟩ := h
  refine ⟨b, h1, h2, fun h hh he hp => ?_⟩
  by_cases c : h < u
  · rw [h3 h hh he (Or.inl c), if_pos c, if_neg (by omega)]
  · have := hu h (by omega) hh
    omega
theorem LD_n (hf : xwf e d N ≤ 0) (h : LDu S tg m T H ce e d N 0) : LDu S tg m T H ce e d (N + 1) 0 := by
  obtain ⟨b, h1, h2, h3⟩ := h
  have hc : xcn (xwf e d) (N + 1) = xcn (xwf e d) N := by
    show xcn (xwf e d) N + (if xwf e d N > 0 then 1 else 0) = _
    rw [if_neg (by omega)]
    exact Int.add_zero _
  refine ⟨b, h1, h2, fun h hh he hp => ?_⟩
  rw [h3 h hh he (by rw [← hc]; exact hp), if_neg (by omega), if_neg (by omega), xtr_n hf]
theorem LD_0 (hW : WT T H) (g : T.2.2.2 ce = some 12) (hS : S < 10) (t1 : wty 12 S = (2, 0, 0, tg)) : LDu S tg m T H ce e d 0 0 := by
  obtain ⟨b, q1, q2⟩ := hW.ref g (t' := tg) (n := 10) (j := S) rfl hS t1
  refine ⟨b, q1, q2, fun h hh he hp => ?_⟩
  rcases hp with hp | hp
  · omega
  · exact absurd hp (by show ¬ (0 : Int) < 0; decide)
theorem LD_at {h s : Nat} (q : LDu S tg m T H ce e d N u) (e0 : H ce S = (b : Int)) (hs : s = h) (hh : h < 24) (he : e 13 h > 0) (hp : h < u ∨ 0 < xcn (xwf e d) N) : H b s = if h < u then xtr m (xwf e d) (fun n => ((xdue d (xlot d n) h : Nat) : Int)) (N + 1) else xtr m (xwf e d) (fun n => ((xdue d (xlot d n) h : Nat) : Int)) N := by
  obtain ⟨b', h1, -, h3⟩ := q
  have : b' = b := by omega
  subst this
  rw [hs]
  exact h3 h hh he hp
theorem LD_a0 {h s : Nat} (q : LDu S tg m T H ce e d N u) (e0 : H ce S = (b : Int)) (hs : s = h) (hh : h < 24) (he : e 13 h > 0) (hu : u ≤ h) (hp : 0 < xcn (xwf e d) N) : H b s = xtr m (xwf e d) (fun n => ((xdue d (xlot d n) h : Nat) : Int)) N := by
  rw [LD_at q e0 hs hh he (Or.inr hp), if_neg (by omega)]
/-- what is stored of an HOUR -/
theorem ld_lo {f w : Nat → Int} {z : Int} (hf : f N > 0) (h : (xcn f N = 0 ∧ z = w N) ∨ (xcn f N ≠ 0 ∧ y = xtr false f w N ∧ z ≤ y ∧ z ≤ w N ∧ (z = y ∨ z = w N))) : z = xtr false f w (N + 1) := by
  rw [xtr_y hf]
  simp only [Bool.false_eq_true, if_false]
  split <;> omega
theorem ld_hi {f w : Nat → Int} {z : Int} (hf : f N > 0) (h : (xcn f N = 0 ∧ z = w N) ∨ (xcn f N ≠ 0 ∧ y = xtr true f w N ∧ y ≤ z ∧ w N ≤ z ∧ (z = y ∨ z = w N))) : z = xtr true f w (N + 1) := by
  rw [xtr_y hf]
  simp only [if_true]
  split <;> omega
/-- held: a LOT that is none; a LOT that is one, by people -/
theorem xhc_n {p i : Nat} (hf : xwf e d N ≤ 0) : xhc e d p i (N + 1) = xhc e d p i N ∧ xhw e d p i (N + 1) = xhw e d p i N := ⟨wsm_n hf, wsm_n hf⟩
theorem xhc_y {p i : Nat} (hf : xwf e d N > 0) : xhc e d p i (N + 1) = xhc e d p i N + (if (xlot d N p).toNat = i then 1 else 0) ∧ xhw e d p i (N + 1) = xhw e d p i N + (if (xlot d N p).toNat = i then xlW d N else 0) := ⟨wsm_y hf, wsm_y hf⟩
theorem xhc_b {p i : Nat} : 0 ≤ xhc e d p i N ∧ xhc e d p i N ≤ N := by
  have h := wsm_b (f := xwf e d) (w := fun n => if (xlot d n p).toNat = i then 1 else 0) (B := 1) (fun n => by show 0 ≤ (if (xlot d n p).toNat = i then (1 : Int) else 0) ∧ (if (xlot d n p).toNat = i then (1 : Int) else 0) ≤ 1; split <;> decide) N
  exact ⟨h.1, by have := h.2; rw [Int.one_mul] at this; exact this⟩
theorem xhw_b {p i : Nat} (h3 : d 0 3 ≤ 6) : 0 ≤ xhw e d p i N ∧ xhw e d p i N ≤ 1000000 * N := wsm_b (f := xwf e d) (w := fun n => if (xlot d n p).toNat = i then xlW d n else 0) (B := 1000000) (fun n => by
  have := @xlW_b d n h3
  show 0 ≤ (if (xlot d n p).toNat = i then xlW d n else 0) ∧ (if (xlot d n p).toNat = i then xlW d n else 0) ≤ 1000000
  split <;> omega) N
/-- while one LOT is entered, person by person -/
def xhv (e d : xD) (N j : Nat) (p i : Nat) : Int := if p < j then xhc e d p i (N + 1) else xhc e d p i N
def xwv (e d : xD) (N j : Nat) (p i : Nat) : Int := if p < j then xhw e d p i (N + 1) else xhw e d p i N
theorem xhv_s (hf : xwf e d N > 0) {j : Nat} {z : Int} (hz : z = xhv e d N j j k + 1) (hk : (xlot d N j).toNat = k) : xhv e d N (j + 1) j k = z ∧ ∀ p i, ¬ (p = j ∧ i = k) → xhv e d N (j + 1) p i = xhv e d N j p i := by
  refine ⟨?_, fun p i hn => ?_⟩
  · rw [hz]
    unfold xhv
    rw [if_pos (Nat.lt_succ_self j), if_neg (Nat.lt_irrefl j), (xhc_y hf).1, if_pos hk]
  · unfold xhv
    by_cases c1 : p < j
    · rw [if_pos c1, if_pos (by omega)]
    · by_cases c2 : p = j
      · subst c2
        rw [if_pos (Nat.lt_succ_self p), if_neg c1, (xhc_y hf).1, if_neg (fun t => hn ⟨rfl, by rw [← t, hk]⟩), Int.add_zero]
      · rw [if_neg (by omega), if_neg c1]
theorem xwv_s (hf : xwf e d N > 0) {j : Nat} {z : Int} (hz : z = xwv e d N j j k + xlW d N) (hk : (xlot d N j).toNat = k) : xwv e d N (j + 1) j k = z ∧ ∀ p i, ¬ (p = j ∧ i = k) → xwv e d N (j + 1) p i = xwv e d N j p i := by
  refine ⟨?_, fun p i hn => ?_⟩
  · rw [hz]
    unfold xwv
    rw [if_pos (Nat.lt_succ_self j), if_neg (Nat.lt_irrefl j), (xhc_y hf).2, if_pos hk]
  · unfold xwv
    by_cases c1 : p < j
    · rw [if_pos c1, if_pos (by omega)]
    · by_cases c2 : p = j
      · subst c2
        rw [if_pos (Nat.lt_succ_self p), if_neg c1, (xhc_y hf).2, if_neg (fun t => hn ⟨rfl, by rw [← t, hk]⟩), Int.add_zero]
      · rw [if_neg (by omega), if_neg c1]
theorem xhv_b {j p i : Nat} : 0 ≤ xhv e d N j p i ∧ xhv e d N j p i ≤ N + 1 := by
  have h1 := @xhc_b N e d p i
  have h2 := @xhc_b (N + 1) e d p i
  unfold xhv
  split <;> omega
theorem xwv_b {j p i : Nat} (h3 : d 0 3 ≤ 6) : 0 ≤ xwv e d N j p i ∧ xwv e d N j p i ≤ 1000000 * (N + 1) := by
  have h1 := @xhw_b N e d p i h3
  have h2 := @xhw_b (N + 1) e d p i h3
  unfold xwv
  split <;> omega
theorem HVv_0 (h : HV S T H ce c (fun p i => xhc e d p i N)) : HV S T H ce c (xhv e d N 0) := HV_cg h (fun p i _ _ _ => (if_neg (Nat.not_lt_zero p)).symm)
theorem HWv_0 (h : HV S T H ce c (fun p i => xhw e d p i N)) : HV S T H ce c (xwv e d N 0) := HV_cg h (fun p i _ _ _ => (if_neg (Nat.not_lt_zero p)).symm)
theorem HVv_e {j : Nat} (h : HV S T H ce c (xhv e d N j)) (hj : c ≤ j) : HV S T H ce c (fun p i => xhc e d p i (N + 1)) := HV_cg h (fun p i hp _ _ => if_pos (by omega))
theorem HWv_e {j : Nat} (h : HV S T H ce c (xwv e d N j)) (hj : c ≤ j) : HV S T H ce c (fun p i => xhw e d p i (N + 1)) := HV_cg h (fun p i hp _ _ => if_pos (by omega))
/-- while all is made 0 -/
def HZ (S : Nat) (T : wq_T) (H : wq_H) (ce : Nat) (j i0 : Int) : Prop := ∀ a r p i : Nat, H ce S = (a : Int) → p < 6 → i < 40 → ((p : Int) < j ∨ ((p : Int) = j ∧ (i : Int) < i0)) → H a p = (r : Int) → H r i = 0
abbrev HZ1 := HZ 1
abbrev HZ2 := HZ 2
theorem HZ_fr {j i0 : Int} (hW : WT T H) (g : T.2.2.2 ce = some 12) (f : wfr l T H H') (hS : S < 10) (t1 : wty 12 S = (2, 0, 0, tA)) (hn : (wsh tA).2 = 6) (t2 : ∀ j, wty tA j = (2, 0, 0, tR)) (x1 : wno l 12 (fun j => decide (j = S)) = true) (x2 : wno l tA (fun _ => true) = true) (x3 : wno l tR (fun _ => true) = true) (h : HZ S T H ce j i0) : HZ S T H' ce j i0 := fun a r p i ha h6 hi hq hr => by
  obtain ⟨a', q1, q2⟩ := hW.ref g (t' := tA) (n := 10) (j := S) rfl hS t1
  have e1 : H' ce S = H ce S := wno_f f g x1 (by simp)
  have ea : a' = a := by omega
  subst ea
  obtain ⟨r', q3, q4⟩ := hW.ref q2 (t' := tR) (n := 6) (j := p) hn h6 (t2 p)
  have e2 : H' a' p = H a' p := wno_f f q2 x2 rfl
  have er : r' = r := by omega
  subst er
  exact (wno_f f q4 x3 rfl).trans (h a' r' p i q1 h6 hi hq q3)
theorem HZ1_fr {j i0 : Int} (hW : WT T H) (g : T.2.2.2 ce = some 12) (f : wfr l T H H') (x : HV1x l = true) (h : HZ1 T H ce j i0) : HZ1 T H' ce j i0 := by
  unfold HV1x at x
  simp only [Bool.and_eq_true] at x
  exact HZ_fr hW g f (by decide) (tA := 14) (tR := 15) rfl rfl (fun _ => rfl) x.1.1 x.1.2 x.2 h
theorem HZ2_fr {j i0 : Int} (hW : WT T H) (g : T.2.2.2 ce = some 12) (f : wfr l T H H') (x : HV2x l = true) (h : HZ2 T H ce j i0) : HZ2 T H' ce j i0 := by
  unfold HV2x at x
  simp only [Bool.and_eq_true] at x
  exact HZ_fr hW g f (by decide) (tA := 16) (tR := 17) rfl rfl (fun _ => rfl) x.1.1 x.1.2 x.2 h
theorem HZ_0 : HZ S T H ce 0 0 := fun a r p i _ _ _ hq _ => by omega
theorem HZ_put {j i0 : Int} (h : HZ S T H ce j i0) (hd : HDr S tA tR T H ce) (gc : T.2.2.2 ce = some 12) (qa : H ce S = (a : Int)) (qr : H a p0 = (r : Int)) (gr : T.2.2.2 r = some tR) (hp : p0 < 6) (n1 : tR ≠ 12) (n2 : tR ≠ tA) (ex : H' = wq_u H r k 0) (hj : (p0 : Int) = j) (hk : (k : Int) = i0) : HZ S T H' ce j (i0 + 1) := by
  obtain ⟨a0, d1, d2, d3⟩ := hd
  have e0 : a0 = a := by omega
  subst e0
  have c1 : ce ≠ r := fun q => by
    subst q
    rw [gc] at gr
    exact n1 (Option.some.inj gr).symm
  have c2 : a0 ≠ r := fun q => by
    subst q
    rw [d2] at gr
    exact n2 (Option.some.inj gr).symm
  intro a' r' p i ha h6 hi hq hr
  rw [ex, wq_u_na c1] at ha
  have e1 : a' = a0 := by omega
  subst e1
  rw [ex, wq_u_na c2] at hr
  by_cases q : p = p0
  · subst q
    have e2 : r' = r := by omega
    subst e2
    by_cases qi : i = k
    · subst qi
      rw [ex, wq_u_eq]
    · rw [ex, wq_u_ne (fun t => qi t.2)]
      exact h a' r' p i qa h6 hi (by omega) hr
  · have c3 : r' ≠ r := fun t => by
      subst t
      exact d3 p p0 h6 hp q (hr.trans qr.symm)
    rw [ex, wq_u_na c3]
    exact h a' r' p i qa h6 hi (by omega) hr
theorem HZ_row {j : Int} (h : HZ S T H ce j 40) : HZ S T H ce (j + 1) 0 := fun a r p i ha h6 hi hq hr => h a r p i ha h6 hi (by omega) hr
theorem HZ_1 (h : HZ S T H ce 6 0) : HV S T H ce c (fun p i => xhc e d p i 0) := fun a r p i ha _ h6 hi hr => h a r p i ha h6 hi (by omega) hr
theorem HZ_2 (h : HZ S T H ce 6 0) : HV S T H ce c (fun p i => xhw e d p i 0) := fun a r p i ha _ h6 hi hr => h a r p i ha h6 hi (by omega) hr
theorem CEX_n (hf : xwf e d N ≤ 0) (h : CEX T H ce e d N) : CEX T H ce e d (N + 1) := ⟨HV_cg h.1 (fun p i _ _ _ => (xhc_n hf).1.symm), HV_cg h.2.1 (fun p i _ _ _ => (xhc_n hf).2.symm), LD_n hf h.2.2.1, LD_n hf h.2.2.2⟩
theorem LD_mono (mo : ∀ a t, T.2.2.2 a = some t → T'.2.2.2 a = some t) (h : LDu S tg m T H ce e d N u) : LDu S tg m T' H ce e d N u := by
  obtain ⟨b, h1, h2, h3⟩ := h
  exact ⟨b, h1, mo _ _ h2, h3⟩
theorem CEX_mono (mo : ∀ a t, T.2.2.2 a = some t → T'.2.2.2 a = some t) (h : CEX T H ce e d N) : CEX T' H ce e d N := ⟨h.1, h.2.1, LD_mono mo h.2.2.1, LD_mono mo h.2.2.2⟩
end HELD
