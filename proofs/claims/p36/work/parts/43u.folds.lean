/-! FOLDS OVER WORLDS (own work): what is counted, summed, sought over them; what a LOT weighs -/
def xwf (e d : xD) : Nat → Int := fun n => xwo e d (xlot d n)
section XWF

variable {e d : xD} {g : Nat → Int} {v : Int}
end XWF
def wfd {α : Type} (f : Nat → Int) (s : Nat → α → α) (a : α) : Nat → α
  | 0 => a
  | n + 1 => if f n > 0 then s n (wfd f s a n) else wfd f s a n
section FOLD

variable {α : Type} {f : Nat → Int} {s s' : Nat → α → α} {a : α} {n u h : Nat}
end FOLD
/-- the weight of a SPAN that begins at b, by a habit -/
def xwe (h b : Int) : Int := if h = -1 then 1 else if 9 ≤ b - h ∨ b - h ≤ -9 then 1 else if 0 ≤ b - h then 10 - (b - h) else 10 + (b - h)
def xlw (d : xD) (g : Nat → Int) : Nat → Int
  | 0 => 1
  | k + 1 => xlw d g k * xwe (d 6 k) (xpt d g k).1
def xlW (d : xD) (n : Nat) : Int := xlw d (xlot d n) (d 0 3).toNat
/-- of the first LOTS: all weights, the greatest and where it stands first -/
def xsW (e d : xD) (N : Nat) : Int := wfd (xwf e d) (fun n x => x + xlW d n) 0 N
def xbW (e d : xD) (N : Nat) : Int × Int := wfd (xwf e d) (fun n p => if xlW d n > p.1 then (xlW d n, (n : Int)) else p) (0, 0) N
section WEIGH

variable {d e : xD} {g : Nat → Int} {h b z x y v : Int} {k n N : Nat}
end WEIGH
/-- the marks of WORLDS -/
def CEM (T : wq_T) (H : wq_H) (ce : Nat) (f : Nat → Int) (N : Nat) : Prop := ∃ b : Nat, H ce 0 = (b : Int) ∧ T.2.2.2 b = some 13 ∧ ∀ n : Nat, n < 20000 → wl_and (wl_shr (H b (n / 64)) ((n % 64 : Nat) : Int)) 1 = if n < N ∧ f n > 0 then 1 else 0
def CEMx (l : List (Nat × Nat)) : Bool := wno l 12 (fun j => decide (j = 0)) && wno l 13 (fun _ => true)
section MARK

variable {T : wq_T} {H H' : wq_H} {l : List (Nat × Nat)} {ce b s n N : Nat} {f : Nat → Int} {v w : Int}
theorem CEM_fr (hW : WT T H) (g : T.2.2.2 ce = some 12) (f0 : wfr l T H H') (x : CEMx l = true) (h : CEM T H ce f N) : CEM T H' ce f N := by
  unfold CEMx at x
  rw [Bool.and_eq_true] at x
  obtain ⟨b, h1, h2, h3⟩ := h
  exact ⟨b, (wno_f f0 g x.1 (j := 0) rfl).trans h1, h2, fun n hn => by rw [wno_f f0 h2 x.2 rfl]; exact h3 n hn⟩
end MARK
