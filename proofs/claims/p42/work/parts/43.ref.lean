/-! RELATIONS (own work): the reference's token, its fault, what it has read -/
def TM (T : wq_T) (H : wq_H) (rb : Nat) (B : Nat → Int) : Prop := ∀ j, j < 900 → H rb j = B j
/-- its sorts -/
def xso (k : Int) : Int := if k = 0 then 1 else if k = 1 then 2 else if k = 2 then 3 else if k = 3 then 4 else if k = 4 then 4 else 0
theorem xso_e {k : Int} (h0 : 0 ≤ k) (h5 : k ≤ 5) : (k = 0 ∧ xso k = 1) ∨ (k = 1 ∧ xso k = 2) ∨ (k = 2 ∧ xso k = 3) ∨ (k = 3 ∧ xso k = 4) ∨ (k = 4 ∧ xso k = 4) ∨ (k = 5 ∧ xso k = 0) := by
  unfold xso
  omega
def RC (T : wq_T) (H : wq_H) (m : Nat) (B : Nat → Int) (n q : Int) : Prop := (∃ rb : Nat, H m 5 = (rb : Int) ∧ T.2.2.2 rb = some 43 ∧ TM T H rb B) ∧ H m 7 = n ∧ 0 ≤ q ∧ q ≤ n ∧ n ≤ 900 ∧ H m 13 = 0 ∧ H m 10 = q ∧ H m 9 = xso (xK B n q) ∧ (xK B n q = 5 ∨ H m 8 = xE B n q) ∧ (xK B n q = 1 → H m 15 = xY B n q) ∧ (xK B n q = 2 → H m 12 = xV B n q) ∧ (xK B n q = 3 → H m 11 = 59) ∧ (xK B n q = 4 → H m 11 = 44)
def RO (T : wq_T) (H : wq_H) (m : Nat) (f p : Int) : Prop := H m 9 = 5 ∧ H m 13 = f ∧ H m 14 = p ∧ 1 ≤ f
def TMx (l : List (Nat × Nat)) : Bool := wno l 43 (fun _ => true)
def RCx (l : List (Nat × Nat)) : Bool := wno l 43 (fun _ => true) && wno l 42 (fun j => decide (j = 5 ∨ 7 ≤ j ∧ j ≤ 13 ∨ j = 15))
def ROx (l : List (Nat × Nat)) : Bool := wno l 42 (fun j => decide (j = 9 ∨ j = 13 ∨ j = 14))
section RREL

variable {T : wq_T} {H H' : wq_H} {l : List (Nat × Nat)} {m rb : Nat} {B : Nat → Int} {n q f p : Int}
theorem TM_fr (hW : WT T H) (g : T.2.2.2 rb = some 43) (f : wfr l T H H') (x : TMx l = true) (h : TM T H rb B) : TM T H' rb B := fun j hj => (wno_f f g x rfl).trans (h j hj)
theorem RC_fr (hW : WT T H) (g : T.2.2.2 m = some 42) (f : wfr l T H H') (x : RCx l = true) (h : RC T H m B n q) : RC T H' m B n q := by
  unfold RCx at x
  simp only [Bool.and_eq_true] at x
  obtain ⟨⟨rb, h1, h2, h3⟩, h4⟩ := h
  refine ⟨⟨rb, (wno_f f g x.2 rfl).trans h1, h2, TM_fr hW h2 f x.1 h3⟩, ?_⟩
  rw [wno_f f g x.2 (j := 7) rfl, wno_f f g x.2 (j := 8) rfl, wno_f f g x.2 (j := 9) rfl, wno_f f g x.2 (j := 10) rfl, wno_f f g x.2 (j := 11) rfl, wno_f f g x.2 (j := 12) rfl, wno_f f g x.2 (j := 13) rfl, wno_f f g x.2 (j := 15) rfl]
  exact h4
theorem RO_fr {fo : Int} (hW : WT T H) (g : T.2.2.2 m = some 42) (f : wfr l T H H') (x : ROx l = true) (h : RO T H m fo p) : RO T H' m fo p := by
  unfold RO
  rw [wno_f f g x (j := 9) rfl, wno_f f g x (j := 13) rfl, wno_f f g x (j := 14) rfl]
  exact h
theorem RC_tm (h : RC T H m B n q) (e : H m 5 = (rb : Int)) : TM T H rb B := by
  obtain ⟨⟨r, h1, -, h3⟩, -⟩ := h
  have : r = rb := by omega
  subst this
  exact h3
theorem RC_k (h : RC T H m B n q) : H m 7 = n ∧ 0 ≤ q ∧ q ≤ n ∧ n ≤ 900 ∧ H m 13 = 0 ∧ H m 10 = q ∧ H m 9 = xso (xK B n q) ∧ xso (xK B n q) ≤ 4 ∧ q ≤ xN B n q ∧ xE B n q ≤ n := by
  obtain ⟨-, h1, h2, h3, h4, h5, h6, h7, h8⟩ := h
  have := @xN_b B n q h2 h3
  have := @xE_b B n q h2 h3
  have k := @xK_b B n q
  have := xso_e k.1 k.2
  exact ⟨h1, h2, h3, h4, h5, h6, h7, by omega, by omega, by omega⟩
theorem RC_s (h : RC T H m B n q) : (xK B n q = 0 ∧ xso (xK B n q) = 1) ∨ (xK B n q = 1 ∧ xso (xK B n q) = 2 ∧ H m 15 = xY B n q) ∨ (xK B n q = 2 ∧ xso (xK B n q) = 3 ∧ H m 12 = xV B n q ∧ 0 ≤ xV B n q ∧ xV B n q ≤ 999) ∨ (xK B n q = 3 ∧ xso (xK B n q) = 4 ∧ H m 11 = 59) ∨ (xK B n q = 4 ∧ xso (xK B n q) = 4 ∧ H m 11 = 44) ∨ (xK B n q = 5 ∧ xso (xK B n q) = 0) := by
  obtain ⟨-, h1, h2, h3, h4, h5, h6, h7, h8, h9, h10, h11, h12⟩ := h
  have k := @xK_b B n q
  rcases xso_e k.1 k.2 with a | a | a | a | a | a
  · exact Or.inl a
  · exact Or.inr (Or.inl ⟨a.1, a.2, h9 a.1⟩)
  · exact Or.inr (Or.inr (Or.inl ⟨a.1, a.2, h10 a.1, xV_b a.1⟩))
  · exact Or.inr (Or.inr (Or.inr (Or.inl ⟨a.1, a.2, h11 a.1⟩)))
  · exact Or.inr (Or.inr (Or.inr (Or.inr (Or.inl ⟨a.1, a.2, h12 a.1⟩))))
  · exact Or.inr (Or.inr (Or.inr (Or.inr (Or.inr a))))
theorem RC_e (h : RC T H m B n q) : (xK B n q = 0 ∧ q = n) ∨ (xK B n q ≠ 0 ∧ q < n ∧ q < xN B n q) := by
  obtain ⟨-, h1, h2, h3, -⟩ := h
  have := @xN_b B n q h2 h3
  have := @xK_0 B n q h2 h3
  omega
theorem RC_a (h : RC T H m B n q) : xK B n q = 5 ∨ H m 8 = xE B n q := by
  obtain ⟨-, h1, h2, h3, h4, h5, h6, h7, h8, -⟩ := h
  exact h8
theorem RC_mk (g0 : H m 5 = (rb : Int)) (gt : T.2.2.2 rb = some 43) (tp : TM T H rb B) (h : H m 7 = n ∧ 0 ≤ q ∧ q ≤ n ∧ n ≤ 900 ∧ H m 13 = 0 ∧ H m 10 = q) (hs : H m 9 = xso (xK B n q)) (ha : xK B n q = 5 ∨ H m 8 = xE B n q) (hy : xK B n q ≠ 1 ∨ H m 15 = xY B n q) (hv : xK B n q ≠ 2 ∨ H m 12 = xV B n q) (h3 : xK B n q ≠ 3 ∨ H m 11 = 59) (h4 : xK B n q ≠ 4 ∨ H m 11 = 44) : RC T H m B n q := ⟨⟨rb, g0, gt, tp⟩, h.1, h.2.1, h.2.2.1, h.2.2.2.1, h.2.2.2.2.1, h.2.2.2.2.2, hs, ha, fun e => hy.resolve_left (fun c => c e), fun e => hv.resolve_left (fun c => c e), fun e => h3.resolve_left (fun c => c e), fun e => h4.resolve_left (fun c => c e)⟩
theorem RO_k (h : RO T H m f p) : H m 9 = 5 ∧ H m 13 = f ∧ H m 14 = p ∧ 1 ≤ f := h
theorem RO_eq {f' p' : Int} (h : RO T H m f p) (e : f' = f) (e2 : p' = p) : RO T H m f' p' := by rw [e, e2]; exact h
/-- a byte as the reference sees it -/
theorem by_all : (List.range 256).all (fun i => decide (wq_and ((i : Int) - 128) 255 = if i < 128 then (i : Int) + 128 else (i : Int) - 128)) = true := by decide +kernel
theorem by_ok {x : Int} (h0 : -128 ≤ x) (h1 : x ≤ 127) : (0 ≤ x ∧ wq_and x 255 = x) ∨ (x < 0 ∧ wq_and x 255 = x + 256) := by
  have h := List.all_eq_true.mp by_all (x + 128).toNat (List.mem_range.mpr (by omega))
  simp only [decide_eq_true_eq] at h
  rw [show (((x + 128).toNat : Nat) : Int) - 128 = x by omega] at h
  split at h <;> omega
/-- bits of HOURS, one more -/
theorem hf_all : (List.range 25).all (fun a => (List.range 25).all (fun b => decide (b < a) || decide (24 ≤ b) || decide (wq_or (xhs a b) (wq_shl 1 b) = xhs a (b + 1)))) = true := by decide +kernel
theorem hf_ok {a b : Int} (h0 : 0 ≤ a) (h1 : a ≤ 24) (h2 : a ≤ b) (h3 : b < 24) : wq_or (xhs a b) (wq_shl 1 b) = xhs a (b + 1) := by
  have h := List.all_eq_true.mp (List.all_eq_true.mp hf_all a.toNat (List.mem_range.mpr (by omega))) b.toNat (List.mem_range.mpr (by omega))
  simp only [Bool.or_eq_true, decide_eq_true_eq, Int.toNat_of_nonneg h0, Int.toNat_of_nonneg (Int.le_trans h0 h2)] at h
  rcases h with (h | h) | h
  · omega
  · omega
  · exact h
theorem hf_0 : (List.range 25).all (fun a => decide (xhs a a = 0)) = true := by decide +kernel
theorem hf_z {a : Int} (h0 : 0 ≤ a) (h1 : a ≤ 24) : xhs a a = 0 := by
  have h := List.all_eq_true.mp hf_0 a.toNat (List.mem_range.mpr (by omega))
  simpa [Int.toNat_of_nonneg h0] using h
/-- which of the words that are no names -/
theorem xre_r : 0 ≤ xre B n q ∧ xre B n q ≤ 12 ∧ (xre B n q = 12 ∨ xK B n q = 1) := by
  have := @xre_b B n q
  omega
theorem xre_y (i K : Int) (h : xRK i.toNat = K) (h0 : 0 ≤ i ∧ i < 11) (hw : xw B n q K = 0) : xre B n q ≤ i ∧ xK B n q = 1 := by
  have h1 := @xw_b B n q K
  have h2 := @xre_le B n q i K h h0
  omega
theorem xre_n (i K : Int) (h : xRK i.toNat = K) (h0 : 0 ≤ i ∧ i < 11) (hw : xw B n q K = 1) : xre B n q ≠ i := by
  have h1 := @xw_b B n q K
  have h2 := @xre_at B n q i K h h0
  omega
end RREL
/-- an array that the reference has read, whole -/
def MA (S tg len : Nat) (T : wq_T) (H : wq_H) (R : Nat) (f : Nat → Int) : Prop := ∃ b : Nat, H R S = (b : Int) ∧ T.2.2.2 b = some tg ∧ ∀ k : Nat, k < len → H b k = f k
def MS (H : wq_H) (R m : Nat) (d : xD) : Prop := H R 0 = d 0 0 ∧ H R 1 = d 0 1 ∧ H R 2 = d 0 2 ∧ H R 3 = d 0 3 ∧ H R 4 = d 0 4 ∧ H R 5 = d 0 5 ∧ H R 6 = d 0 6 ∧ H R 7 = d 0 7 ∧ H R 8 = d 0 8 ∧ H m 16 = xcn (d 13) 24 ∧ -1 ≤ d 0 8 ∧ d 0 8 ≤ 5
abbrev MA9 := MA 9 55 6
abbrev MA10 := MA 10 56 6
abbrev MA11 := MA 11 57 6
abbrev MA12 := MA 12 58 6
abbrev MA13 := MA 13 59 6
abbrev MA14 := MA 14 60 6
abbrev MA15 := MA 15 61 6
abbrev MA16 := MA 16 62 6
abbrev MA17 := MA 17 63 6
abbrev MA18 := MA 18 64 3
abbrev MA19 := MA 19 65 3
abbrev MA20 := MA 20 66 3
abbrev MA21 := MA 21 67 24
abbrev MA22 := MA 22 68 4
abbrev MA23 := MA 23 69 4
abbrev MA25 := MA 25 71 6
abbrev MA26 := MA 26 72 6
/-- what is told of people lies between its bounds -/
def xdP (d : xD) : Prop := ∀ k : Nat, 0 ≤ d 2 k ∧ d 2 k ≤ d 3 k ∧ d 3 k ≤ d 2 k + 7 ∧ d 3 k ≤ 23 ∧ 0 ≤ d 4 k ∧ d 4 k ≤ d 5 k ∧ d 5 k ≤ d 4 k + 4 ∧ d 5 k ≤ 12 ∧ -1 ≤ d 6 k ∧ d 6 k ≤ 23 ∧ 0 ≤ d 7 k ∧ d 7 k ≤ d 8 k ∧ d 8 k ≤ 24 ∧ 0 ≤ d 9 k ∧ d 9 k ≤ 1
theorem xdP_0 : xdP xD0 := fun k => ⟨Int.le_refl _, Int.le_refl _, by show (0 : Int) ≤ 0 + 7; omega, by show (0 : Int) ≤ 23; omega, Int.le_refl _, Int.le_refl _, by show (0 : Int) ≤ 0 + 4; omega, by show (0 : Int) ≤ 12; omega, by show (-1 : Int) ≤ 0; omega, by show (0 : Int) ≤ 23; omega, Int.le_refl _, Int.le_refl _, by show (0 : Int) ≤ 24; omega, Int.le_refl _, by show (0 : Int) ≤ 1; omega⟩
theorem xdP_cg {d d' : xD} (h : xdP d) (e : ∀ i, 2 ≤ i → i ≤ 9 → d' i = d i) : xdP d' := fun k => by
  rw [e 2 (by omega) (by omega), e 3 (by omega) (by omega), e 4 (by omega) (by omega), e 5 (by omega) (by omega), e 6 (by omega) (by omega), e 7 (by omega) (by omega), e 8 (by omega) (by omega), e 9 (by omega) (by omega)]
  exact h k
def DM (T : wq_T) (H : wq_H) (R m : Nat) (d : xD) : Prop := T.2.2.2 m = some 42 ∧ MS H R m d ∧ xdP d ∧ MA9 T H R (d 1) ∧ MA10 T H R (d 2) ∧ MA11 T H R (d 3) ∧ MA12 T H R (d 4) ∧ MA13 T H R (d 5) ∧ MA14 T H R (d 6) ∧ MA15 T H R (d 7) ∧ MA16 T H R (d 8) ∧ MA17 T H R (d 9) ∧ MA18 T H R (d 10) ∧ MA19 T H R (d 11) ∧ MA20 T H R (d 12) ∧ MA21 T H R (d 13) ∧ MA22 T H R (d 14) ∧ MA23 T H R (d 15) ∧ MA25 T H R (d 17) ∧ MA26 T H R (d 16)
def MAx (S tg : Nat) (l : List (Nat × Nat)) : Bool := wno l 54 (fun j => decide (j = S)) && wno l tg (fun _ => true)
def DMx (l : List (Nat × Nat)) : Bool := wno l 42 (fun j => decide (j = 16)) && wno l 54 (fun j => decide (j ≤ 8)) && MAx 9 55 l && MAx 10 56 l && MAx 11 57 l && MAx 12 58 l && MAx 13 59 l && MAx 14 60 l && MAx 15 61 l && MAx 16 62 l && MAx 17 63 l && MAx 18 64 l && MAx 19 65 l && MAx 20 66 l && MAx 21 67 l && MAx 22 68 l && MAx 23 69 l && MAx 25 71 l && MAx 26 72 l
section MREL

variable {T : wq_T} {H H' : wq_H} {l : List (Nat × Nat)} {R m b k : Nat} {d d' : xD}
theorem MA_fr {S tg len : Nat} {f' : Nat → Int} (hW : WT T H) (g : T.2.2.2 R = some 54) (f : wfr l T H H') (x : MAx S tg l = true) (h : MA S tg len T H R f') : MA S tg len T H' R f' := by
  unfold MAx at x
  simp only [Bool.and_eq_true] at x
  obtain ⟨b, h1, h2, h3⟩ := h
  exact ⟨b, (wno_f f g x.1 (by simp)).trans h1, h2, fun k hk => (wno_f f h2 x.2 rfl).trans (h3 k hk)⟩
theorem MA9_fr {f' : Nat → Int} (hW : WT T H) (g : T.2.2.2 R = some 54) (f : wfr l T H H') (x : MAx 9 55 l = true) (h : MA9 T H R f') : MA9 T H' R f' := MA_fr hW g f x h
theorem MA10_fr {f' : Nat → Int} (hW : WT T H) (g : T.2.2.2 R = some 54) (f : wfr l T H H') (x : MAx 10 56 l = true) (h : MA10 T H R f') : MA10 T H' R f' := MA_fr hW g f x h
theorem MA11_fr {f' : Nat → Int} (hW : WT T H) (g : T.2.2.2 R = some 54) (f : wfr l T H H') (x : MAx 11 57 l = true) (h : MA11 T H R f') : MA11 T H' R f' := MA_fr hW g f x h
theorem MA12_fr {f' : Nat → Int} (hW : WT T H) (g : T.2.2.2 R = some 54) (f : wfr l T H H') (x : MAx 12 58 l = true) (h : MA12 T H R f') : MA12 T H' R f' := MA_fr hW g f x h
theorem MA13_fr {f' : Nat → Int} (hW : WT T H) (g : T.2.2.2 R = some 54) (f : wfr l T H H') (x : MAx 13 59 l = true) (h : MA13 T H R f') : MA13 T H' R f' := MA_fr hW g f x h
theorem MA14_fr {f' : Nat → Int} (hW : WT T H) (g : T.2.2.2 R = some 54) (f : wfr l T H H') (x : MAx 14 60 l = true) (h : MA14 T H R f') : MA14 T H' R f' := MA_fr hW g f x h
theorem MA15_fr {f' : Nat → Int} (hW : WT T H) (g : T.2.2.2 R = some 54) (f : wfr l T H H') (x : MAx 15 61 l = true) (h : MA15 T H R f') : MA15 T H' R f' := MA_fr hW g f x h
theorem MA16_fr {f' : Nat → Int} (hW : WT T H) (g : T.2.2.2 R = some 54) (f : wfr l T H H') (x : MAx 16 62 l = true) (h : MA16 T H R f') : MA16 T H' R f' := MA_fr hW g f x h
theorem MA17_fr {f' : Nat → Int} (hW : WT T H) (g : T.2.2.2 R = some 54) (f : wfr l T H H') (x : MAx 17 63 l = true) (h : MA17 T H R f') : MA17 T H' R f' := MA_fr hW g f x h
theorem MA18_fr {f' : Nat → Int} (hW : WT T H) (g : T.2.2.2 R = some 54) (f : wfr l T H H') (x : MAx 18 64 l = true) (h : MA18 T H R f') : MA18 T H' R f' := MA_fr hW g f x h
theorem MA19_fr {f' : Nat → Int} (hW : WT T H) (g : T.2.2.2 R = some 54) (f : wfr l T H H') (x : MAx 19 65 l = true) (h : MA19 T H R f') : MA19 T H' R f' := MA_fr hW g f x h
theorem MA20_fr {f' : Nat → Int} (hW : WT T H) (g : T.2.2.2 R = some 54) (f : wfr l T H H') (x : MAx 20 66 l = true) (h : MA20 T H R f') : MA20 T H' R f' := MA_fr hW g f x h
theorem MA21_fr {f' : Nat → Int} (hW : WT T H) (g : T.2.2.2 R = some 54) (f : wfr l T H H') (x : MAx 21 67 l = true) (h : MA21 T H R f') : MA21 T H' R f' := MA_fr hW g f x h
theorem MA22_fr {f' : Nat → Int} (hW : WT T H) (g : T.2.2.2 R = some 54) (f : wfr l T H H') (x : MAx 22 68 l = true) (h : MA22 T H R f') : MA22 T H' R f' := MA_fr hW g f x h
theorem MA23_fr {f' : Nat → Int} (hW : WT T H) (g : T.2.2.2 R = some 54) (f : wfr l T H H') (x : MAx 23 69 l = true) (h : MA23 T H R f') : MA23 T H' R f' := MA_fr hW g f x h
theorem MA25_fr {f' : Nat → Int} (hW : WT T H) (g : T.2.2.2 R = some 54) (f : wfr l T H H') (x : MAx 25 71 l = true) (h : MA25 T H R f') : MA25 T H' R f' := MA_fr hW g f x h
theorem MA26_fr {f' : Nat → Int} (hW : WT T H) (g : T.2.2.2 R = some 54) (f : wfr l T H H') (x : MAx 26 72 l = true) (h : MA26 T H R f') : MA26 T H' R f' := MA_fr hW g f x h
theorem DM_fr (hW : WT T H) (g : T.2.2.2 R = some 54) (f : wfr l T H H') (x : DMx l = true) (h : DM T H R m d) : DM T H' R m d := by
  unfold DMx at x
  simp only [Bool.and_eq_true] at x
  obtain ⟨gm, hs, hp, hr⟩ := h
  refine ⟨gm, ?_, hp, ?_⟩
  · unfold MS
    rw [wno_f f g x.1.1.1.1.1.1.1.1.1.1.1.1.1.1.1.1.1.2 (j := 0) rfl, wno_f f g x.1.1.1.1.1.1.1.1.1.1.1.1.1.1.1.1.1.2 (j := 1) rfl, wno_f f g x.1.1.1.1.1.1.1.1.1.1.1.1.1.1.1.1.1.2 (j := 2) rfl, wno_f f g x.1.1.1.1.1.1.1.1.1.1.1.1.1.1.1.1.1.2 (j := 3) rfl, wno_f f g x.1.1.1.1.1.1.1.1.1.1.1.1.1.1.1.1.1.2 (j := 4) rfl, wno_f f g x.1.1.1.1.1.1.1.1.1.1.1.1.1.1.1.1.1.2 (j := 5) rfl, wno_f f g x.1.1.1.1.1.1.1.1.1.1.1.1.1.1.1.1.1.2 (j := 6) rfl, wno_f f g x.1.1.1.1.1.1.1.1.1.1.1.1.1.1.1.1.1.2 (j := 7) rfl, wno_f f g x.1.1.1.1.1.1.1.1.1.1.1.1.1.1.1.1.1.2 (j := 8) rfl, wno_f f gm x.1.1.1.1.1.1.1.1.1.1.1.1.1.1.1.1.1.1 (j := 16) rfl]
    exact hs
  · obtain ⟨h9, h10, h11, h12, h13, h14, h15, h16, h17, h18, h19, h20, h21, h22, h23, h25, h26⟩ := hr
    exact ⟨MA_fr hW g f x.1.1.1.1.1.1.1.1.1.1.1.1.1.1.1.1.2 h9, MA_fr hW g f x.1.1.1.1.1.1.1.1.1.1.1.1.1.1.1.2 h10, MA_fr hW g f x.1.1.1.1.1.1.1.1.1.1.1.1.1.1.2 h11, MA_fr hW g f x.1.1.1.1.1.1.1.1.1.1.1.1.1.2 h12, MA_fr hW g f x.1.1.1.1.1.1.1.1.1.1.1.1.2 h13, MA_fr hW g f x.1.1.1.1.1.1.1.1.1.1.1.2 h14, MA_fr hW g f x.1.1.1.1.1.1.1.1.1.1.2 h15, MA_fr hW g f x.1.1.1.1.1.1.1.1.1.2 h16, MA_fr hW g f x.1.1.1.1.1.1.1.1.2 h17, MA_fr hW g f x.1.1.1.1.1.1.1.2 h18, MA_fr hW g f x.1.1.1.1.1.1.2 h19, MA_fr hW g f x.1.1.1.1.1.2 h20, MA_fr hW g f x.1.1.1.1.2 h21, MA_fr hW g f x.1.1.1.2 h22, MA_fr hW g f x.1.1.2 h23, MA_fr hW g f x.1.2 h25, MA_fr hW g f x.2 h26⟩
theorem DM_k (h : DM T H R m d) : H R 0 = d 0 0 ∧ H R 1 = d 0 1 ∧ H R 2 = d 0 2 ∧ H R 3 = d 0 3 ∧ H R 4 = d 0 4 ∧ H R 5 = d 0 5 ∧ H R 6 = d 0 6 ∧ H R 7 = d 0 7 ∧ H R 8 = d 0 8 ∧ H m 16 = xcn (d 13) 24 ∧ -1 ≤ d 0 8 ∧ d 0 8 ≤ 5 := h.2.1
theorem DM_mk {f9 f10 f11 f12 f13 f14 f15 f16 f17 f18 f19 f20 f21 f22 f23 f25 f26 : Nat → Int} (g : T.2.2.2 m = some 42) (s : MS H R m d) (hp : xdP d) (a9 : MA9 T H R f9) (a10 : MA10 T H R f10) (a11 : MA11 T H R f11) (a12 : MA12 T H R f12) (a13 : MA13 T H R f13) (a14 : MA14 T H R f14) (a15 : MA15 T H R f15) (a16 : MA16 T H R f16) (a17 : MA17 T H R f17) (a18 : MA18 T H R f18) (a19 : MA19 T H R f19) (a20 : MA20 T H R f20) (a21 : MA21 T H R f21) (a22 : MA22 T H R f22) (a23 : MA23 T H R f23) (a25 : MA25 T H R f25) (a26 : MA26 T H R f26) (e : d 1 = f9 ∧ d 2 = f10 ∧ d 3 = f11 ∧ d 4 = f12 ∧ d 5 = f13 ∧ d 6 = f14 ∧ d 7 = f15 ∧ d 8 = f16 ∧ d 9 = f17 ∧ d 10 = f18 ∧ d 11 = f19 ∧ d 12 = f20 ∧ d 13 = f21 ∧ d 14 = f22 ∧ d 15 = f23 ∧ d 17 = f25 ∧ d 16 = f26) : DM T H R m d := by
  obtain ⟨e9, e10, e11, e12, e13, e14, e15, e16, e17, e18, e19, e20, e21, e22, e23, e25, e26⟩ := e
  unfold DM
  rw [e9, e10, e11, e12, e13, e14, e15, e16, e17, e18, e19, e20, e21, e22, e23, e25, e26]
  exact ⟨g, s, hp, a9, a10, a11, a12, a13, a14, a15, a16, a17, a18, a19, a20, a21, a22, a23, a25, a26⟩
theorem MA_at {S tg len : Nat} {f : Nat → Int} (h : MA S tg len T H R f) (e0 : H R S = (b : Int)) (hk : k < len) : H b k = f k := by
  obtain ⟨c, h1, -, h3⟩ := h
  have : c = b := by omega
  subst this
  exact h3 k hk
theorem MA_put {S tg len : Nat} {f f' : Nat → Int} {v : Int} (h : MA S tg len T H R f) (e0 : H R S = (b : Int)) (gr : T.2.2.2 R = some 54) (gb : T.2.2.2 b = some tg) (ne : tg ≠ 54) (e : H' = wq_u H b k v) (fk : f' k = v) (fn : ∀ j, j ≠ k → f' j = f j) : MA S tg len T H' R f' := by
  obtain ⟨c, h1, h2, h3⟩ := h
  have hb : c = b := by omega
  subst hb
  refine ⟨c, ?_, h2, fun j hj => ?_⟩
  · rw [wq_u_tf e gb gr ne]
    exact h1
  · by_cases hjk : j = k
    · subst hjk
      rw [e, wq_u_eq, fk]
    · rw [e, wq_u_ne (fun q => hjk q.2), fn j hjk]
      exact h3 j hj
end MREL
/-! outcomes, flat (own work) -/
theorem xs_xs {f q : Int} {k j : xO} : xs (xs f q k).1 (xs f q k).2.1 j = xs f q (xs k.1 k.2.1 j) := by
  unfold xs
  by_cases h : f = 0
  · rw [if_pos h, if_pos h]
  · rw [if_neg h, if_neg h]
    exact (if_neg h).symm
theorem xs_z {q p : Int} {j : xO} : xs ((0, q, p) : xO).1 ((0, q, p) : xO).2.1 j = j := rfl
theorem xagf_s {d : xD} {a b i : Int} (h : 0 ≤ i) : (((d 10 i.toNat = a ∧ d 11 i.toNat = b) ∨ (d 10 i.toNat = b ∧ d 11 i.toNat = a)) ∧ xagf d a b (i + 1).toNat = 1) ∨ (¬ ((d 10 i.toNat = a ∧ d 11 i.toNat = b) ∨ (d 10 i.toNat = b ∧ d 11 i.toNat = a)) ∧ xagf d a b (i + 1).toNat = xagf d a b i.toNat) := by
  rw [show (i + 1).toNat = i.toNat + 1 by omega]
  by_cases h1 : (d 10 i.toNat = a ∧ d 11 i.toNat = b) ∨ (d 10 i.toNat = b ∧ d 11 i.toNat = a)
  · exact Or.inl ⟨h1, if_pos h1⟩
  · exact Or.inr ⟨h1, if_neg h1⟩
/-- the pairs up to i, or one with itself -/
def xgg (d : xD) (a b : Int) (i : Int) : Int := if a = b then 1 else xagf d a b i.toNat
theorem xgg_0 {d : xD} {a b : Int} : (a = b ∧ xgg d a b 0 = 1) ∨ (a ≠ b ∧ xgg d a b 0 = 0) := by
  unfold xgg
  by_cases h : a = b
  · exact Or.inl ⟨h, if_pos h⟩
  · exact Or.inr ⟨h, if_neg h⟩
theorem xagf_01 {d : xD} {a b : Int} : ∀ n : Nat, xagf d a b n = 0 ∨ xagf d a b n = 1
  | 0 => Or.inl rfl
  | n + 1 => by
    show (if (d 10 n = a ∧ d 11 n = b) ∨ (d 10 n = b ∧ d 11 n = a) then 1 else xagf d a b n) = 0 ∨ _
    split
    · next h => exact Or.inr (if_pos h)
    · next h =>
      rw [show xagf d a b (n + 1) = xagf d a b n from if_neg h]
      exact xagf_01 n
theorem xgg_s {d : xD} {a b i : Int} (h : 0 ≤ i) : (xgg d a b i = 1 ∧ xgg d a b (i + 1) = 1) ∨ (xgg d a b i = 0 ∧ ((d 10 i.toNat = a ∧ d 11 i.toNat = b) ∨ (d 10 i.toNat = b ∧ d 11 i.toNat = a)) ∧ xgg d a b (i + 1) = 1) ∨ (xgg d a b i = 0 ∧ ¬ ((d 10 i.toNat = a ∧ d 11 i.toNat = b) ∨ (d 10 i.toNat = b ∧ d 11 i.toNat = a)) ∧ xgg d a b (i + 1) = 0) := by
  unfold xgg
  by_cases e : a = b
  · rw [if_pos e, if_pos e]
    exact Or.inl ⟨rfl, rfl⟩
  · rw [if_neg e, if_neg e]
    rcases xagf_s (d := d) (a := a) (b := b) h with h1 | h1
    · rcases xagf_01 (d := d) (a := a) (b := b) i.toNat with h2 | h2
      · exact Or.inr (Or.inl ⟨h2, h1⟩)
      · exact Or.inl ⟨h2, h1.2⟩
    · rcases xagf_01 (d := d) (a := a) (b := b) i.toNat with h2 | h2
      · exact Or.inr (Or.inr ⟨h2, h1.1, h1.2.trans h2⟩)
      · exact Or.inl ⟨h2, h1.2.trans h2⟩
theorem xac_g {d : xD} {a b : Int} {i : Int} (h : i = d 0 4) : (xgg d a b i = 0 ∧ xac d a b = 0) ∨ (xgg d a b i ≠ 0 ∧ xac d a b = 3) := by
  subst h
  unfold xac xag xgg
  by_cases e : a = b
  · rw [if_pos e]
    exact Or.inr ⟨by omega, rfl⟩
  · rw [if_neg e]
    split <;> omega
theorem xhf_24 {a b : Int} (hb : 24 ≤ b) : ∀ n : Nat, n ≤ 24 → xhf a b n = xhf a 24 n
  | 0, _ => rfl
  | n + 1, hn => by
    show xhf a b n + (if a ≤ n ∧ (n : Int) < b then 2 ^ n else 0) = xhf a 24 n + (if a ≤ n ∧ (n : Int) < 24 then 2 ^ n else 0)
    rw [xhf_24 hb n (by omega)]
    by_cases h : a ≤ n
    · rw [if_pos ⟨h, by omega⟩, if_pos ⟨h, by omega⟩]
    · rw [if_neg (fun c => h c.1), if_neg (fun c => h c.1)]
theorem xhs_24 {a b : Int} (hb : 24 ≤ b) : xhs a b = xhs a 24 := xhf_24 hb 24 (Nat.le_refl _)
section RST

variable {B : Nat → Int} {n q : Int} {d : xD}
theorem xcn_lo {f f' : Nat → Int} {k : Nat} (e : ∀ j, j ≠ k → f' j = f j) : ∀ m : Nat, m ≤ k → xcn f' m = xcn f m
  | 0, _ => rfl
  | m + 1, h => by
    show xcn f' m + (if f' m > 0 then 1 else 0) = xcn f m + (if f m > 0 then 1 else 0)
    rw [xcn_lo e m (by omega), e m (by omega)]
theorem xcn_up {f f' : Nat → Int} {k : Nat} (e : ∀ j, j ≠ k → f' j = f j) (h0 : f k ≤ 0) (h1 : f' k > 0) : ∀ m : Nat, k < m → xcn f' m = xcn f m + 1
  | 0, h => by omega
  | m + 1, h => by
    show xcn f' m + (if f' m > 0 then 1 else 0) = xcn f m + (if f m > 0 then 1 else 0) + 1
    by_cases hk : m = k
    · subst hk
      rw [xcn_lo e m (Nat.le_refl _), if_pos h1, if_neg (by omega)]
      omega
    · rw [xcn_up e h0 h1 m (by omega), e m hk]
      omega
theorem xdst_c {k : Nat} (hk : (k : Int) = xV B n q) : xdst B n q d 13 k = xV B n (xN B n (xN B n q)) + 1 ∧ ∀ j, j ≠ k → xdst B n q d 13 j = d 13 j := by
  have e : (xV B n q).toNat = k := by omega
  unfold xdst
  rw [e]
  exact ⟨by simp [wq_u], fun j hj => by simp [wq_u, hj]⟩
theorem xdst_v (h0 : 0 ≤ xV B n q ∧ xV B n q ≤ 23) (h1 : d 13 (xV B n q).toNat ≤ 0) (h2 : 0 ≤ xV B n (xN B n (xN B n q))) : xdst B n q d 0 0 = d 0 0 ∧ xdst B n q d 0 1 = d 0 1 ∧ xdst B n q d 0 2 = d 0 2 ∧ xdst B n q d 0 3 = d 0 3 ∧ xdst B n q d 0 4 = d 0 4 ∧ xdst B n q d 0 5 = d 0 5 ∧ xdst B n q d 0 6 = d 0 6 ∧ xdst B n q d 0 7 = d 0 7 ∧ xdst B n q d 0 8 = d 0 8 ∧ xcn (xdst B n q d 13) 24 = xcn (d 13) 24 + 1 := by
  have e := @xdst_c B n q d (xV B n q).toNat (by omega)
  exact ⟨rfl, rfl, rfl, rfl, rfl, rfl, rfl, rfl, rfl, xcn_up e.2 h1 (by omega) 24 (by omega)⟩
theorem xdap_c {k : Nat} (hk : (k : Int) = d 0 4) : xdap B n q d 10 k = xwho B n q d ∧ ∀ j, j ≠ k → xdap B n q d 10 j = d 10 j := by
  have e : (d 0 4).toNat = k := by omega
  unfold xdap
  rw [e]
  exact ⟨by simp [wq_u], fun j hj => by simp [wq_u, hj]⟩
theorem xdap_e {k : Nat} (hk : (k : Int) = d 0 4) : xdap B n q d 11 k = xwho B n (xN B n (xN B n q)) d ∧ ∀ j, j ≠ k → xdap B n q d 11 j = d 11 j := by
  have e : (d 0 4).toNat = k := by omega
  unfold xdap
  rw [e]
  exact ⟨by simp [wq_u], fun j hj => by simp [wq_u, hj]⟩
theorem xdP_per {k : Nat} (h : xdP d) (hk : (k : Int) = d 0 3) (e : 0 ≤ xdper B n q d 2 k ∧ xdper B n q d 2 k ≤ xdper B n q d 3 k ∧ xdper B n q d 3 k ≤ xdper B n q d 2 k + 7 ∧ xdper B n q d 3 k ≤ 23 ∧ 0 ≤ xdper B n q d 4 k ∧ xdper B n q d 4 k ≤ xdper B n q d 5 k ∧ xdper B n q d 5 k ≤ xdper B n q d 4 k + 4 ∧ xdper B n q d 5 k ≤ 12 ∧ -1 ≤ xdper B n q d 6 k ∧ xdper B n q d 6 k ≤ 23 ∧ 0 ≤ xdper B n q d 7 k ∧ xdper B n q d 7 k ≤ xdper B n q d 8 k ∧ xdper B n q d 8 k ≤ 24 ∧ 0 ≤ xdper B n q d 9 k ∧ xdper B n q d 9 k ≤ 1) : xdP (xdper B n q d) := fun j => by
  by_cases hj : j = k
  · subst hj
    exact e
  · rw [xdper_n hk (i := 2) (by omega) hj, xdper_n hk (i := 3) (by omega) hj, xdper_n hk (i := 4) (by omega) hj, xdper_n hk (i := 5) (by omega) hj, xdper_n hk (i := 6) (by omega) hj, xdper_n hk (i := 7) (by omega) hj, xdper_n hk (i := 8) (by omega) hj, xdper_n hk (i := 9) (by omega) hj]
    exact h j
theorem xdof_e {k : Nat} (hk : (k : Int) = d 0 7) : xdof B n q d 17 k = xwho B n q d ∧ ∀ j, j ≠ k → xdof B n q d 17 j = d 17 j := by
  have e : (d 0 7).toNat = k := by omega
  unfold xdof
  rw [e]
  exact ⟨by simp [wq_u], fun j hj => by simp [wq_u, hj]⟩
end RST
