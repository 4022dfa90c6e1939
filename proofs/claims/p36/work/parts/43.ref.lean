/-! RELATIONS (own work): the reference's token, its fault, what it has read -/
def TM (T : wq_T) (H : wq_H) (rb : Nat) (B : Nat → Int) : Prop := ∀ j, j < 900 → H rb j = B j
/-- its sorts -/
def xso (k : Int) : Int := if k = 0 then 1 else if k = 1 then 2 else if k = 2 then 3 else if k = 3 then 4 else if k = 4 then 4 else 0
def RC (T : wq_T) (H : wq_H) (m : Nat) (B : Nat → Int) (n q : Int) : Prop := (∃ rb : Nat, H m 5 = (rb : Int) ∧ T.2.2.2 rb = some 43 ∧ TM T H rb B) ∧ H m 7 = n ∧ 0 ≤ q ∧ q ≤ n ∧ n ≤ 900 ∧ H m 13 = 0 ∧ H m 10 = q ∧ H m 9 = xso (xK B n q) ∧ (xK B n q = 5 ∨ H m 8 = xE B n q) ∧ (xK B n q = 1 → H m 15 = xY B n q) ∧ (xK B n q = 2 → H m 12 = xV B n q) ∧ (xK B n q = 3 → H m 11 = 59) ∧ (xK B n q = 4 → H m 11 = 44)
def RO (T : wq_T) (H : wq_H) (m : Nat) (f p : Int) : Prop := H m 9 = 5 ∧ H m 13 = f ∧ H m 14 = p ∧ 1 ≤ f
def TMx (l : List (Nat × Nat)) : Bool := wno l 43 (fun _ => true)
section RREL

variable {T : wq_T} {H H' : wq_H} {l : List (Nat × Nat)} {m rb : Nat} {B : Nat → Int} {n q f p : Int}
theorem TM_fr (hW : WT T H) (g : T.2.2.2 rb = some 43) (f : wfr l T H H') (x : TMx l = true) (h : TM T H rb B) : TM T H' rb B := fun j hj => (wno_f f g x rfl).trans (h j hj)
theorem RC_mk (g0 : H m 5 = (rb : Int)) (gt : T.2.2.2 rb = some 43) (tp : TM T H rb B) (h : H m 7 = n ∧ 0 ≤ q ∧ q ≤ n ∧ n ≤ 900 ∧ H m 13 = 0 ∧ H m 10 = q) (hs : H m 9 = xso (xK B n q)) (ha : xK B n q = 5 ∨ H m 8 = xE B n q) (hy : xK B n q ≠ 1 ∨ H m 15 = xY B n q) (hv : xK B n q ≠ 2 ∨ H m 12 = xV B n q) (h3 : xK B n q ≠ 3 ∨ H m 11 = 59) (h4 : xK B n q ≠ 4 ∨ H m 11 = 44) : RC T H m B n q := ⟨⟨rb, g0, gt, tp⟩, h.1, h.2.1, h.2.2.1, h.2.2.2.1, h.2.2.2.2.1, h.2.2.2.2.2, hs, ha, fun e => hy.resolve_left (fun c => c e), fun e => hv.resolve_left (fun c => c e), fun e => h3.resolve_left (fun c => c e), fun e => h4.resolve_left (fun c => c e)⟩
theorem RO_k (h : RO T H m f p) : H m 9 = 5 ∧ H m 13 = f ∧ H m 14 = p ∧ 1 ≤ f := h
end RREL
/-- an array that the reference has read, whole -/
def MA (S tg len : Nat) (T : wq_T) (H : wq_H) (R : Nat) (f : Nat → Int) : Prop := ∃ b : Nat, H R S = (b : Int) ∧ T.2.2.2 b = some tg ∧ ∀ k : Nat, k < len → H b k = f k
abbrev MA9 := MA 9 55 6
abbrev MA10 := MA 10 56 6
abbrev MA11 := MA 11 57 6
abbrev MA12 := MA 12 58 6
abbrev MA13 := MA 13 59 6
abbrev MA14 := MA 14 60 6
abbrev MA15 := MA 15 61 6
abbrev MA16 := MA 16 62 6
abbrev MA17 := MA 17 63 6
abbrev MA18 := MA 18 64 3
abbrev MA19 := MA 19 65 3
abbrev MA20 := MA 20 66 3
abbrev MA21 := MA 21 67 24
abbrev MA22 := MA 22 68 4
abbrev MA23 := MA 23 69 4
abbrev MA25 := MA 25 71 6
abbrev MA26 := MA 26 72 6
/-- what is told of people lies between its bounds -/
def xdP (d : xD) : Prop := ∀ k : Nat, 0 ≤ d 2 k ∧ d 2 k ≤ d 3 k ∧ d 3 k ≤ d 2 k + 7 ∧ d 3 k ≤ 23 ∧ 0 ≤ d 4 k ∧ d 4 k ≤ d 5 k ∧ d 5 k ≤ d 4 k + 4 ∧ d 5 k ≤ 12 ∧ -1 ≤ d 6 k ∧ d 6 k ≤ 23 ∧ 0 ≤ d 7 k ∧ d 7 k ≤ d 8 k ∧ d 8 k ≤ 24 ∧ 0 ≤ d 9 k ∧ d 9 k ≤ 1
theorem xdP_cg {d d' : xD} (h : xdP d) (e : ∀ i, 2 ≤ i → i ≤ 9 → d' i = d i) : xdP d' := fun k => by
  rw [e 2 (by omega) (by omega), e 3 (by omega) (by omega), e 4 (by omega) (by omega), e 5 (by omega) (by omega), e 6 (by omega) (by omega), e 7 (by omega) (by omega), e 8 (by omega) (by omega), e 9 (by omega) (by omega)]
  exact h k
section MREL

variable {T : wq_T} {H H' : wq_H} {l : List (Nat × Nat)} {R m b k : Nat} {d d' : xD}
theorem MA_at {S tg len : Nat} {f : Nat → Int} (h : MA S tg len T H R f) (e0 : H R S = (b : Int)) (hk : k < len) : H b k = f k := by
  obtain ⟨c, h1, -, h3⟩ := h
  have : c = b := by omega
  subst this
  exact h3 k hk
end MREL
section RST

variable {B : Nat → Int} {n q : Int} {d : xD}
end RST
