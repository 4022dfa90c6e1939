/-! SUMS AND BOUNDS OVER WORLDS (own work): what is held, by SPANS; sums by SPANS and by WORLDS; the least and the greatest; the next one -/
def wsm (f w : Nat → Int) : Nat → Int
  | 0 => 0
  | n + 1 => if f n > 0 then wsm f w n + w n else wsm f w n
section WSM

variable {f w w' x y : Nat → Int} {g : Nat → Nat} {c : Nat → Bool} {n N i k L u h : Nat} {B v z : Int}
theorem wsm_y (h : f n > 0) : wsm f w (n + 1) = wsm f w n + w n := if_pos h
theorem wsm_n (h : f n ≤ 0) : wsm f w (n + 1) = wsm f w n := if_neg (by omega)
theorem wsm_b (h : ∀ n, 0 ≤ w n ∧ w n ≤ B) : ∀ N : Nat, 0 ≤ wsm f w N ∧ wsm f w N ≤ B * N
  | 0 => ⟨Int.le_refl _, by show (0 : Int) ≤ B * ((0 : Nat) : Int); rw [show ((0 : Nat) : Int) = 0 from rfl, Int.mul_zero]; exact Int.le_refl _⟩
  | N + 1 => by
    have h1 := wsm_b h N
    have h2 := h N
    have h3 : B * ((N + 1 : Nat) : Int) = B * (N : Int) + B := by rw [show ((N + 1 : Nat) : Int) = (N : Int) + 1 by omega, Int.mul_add, Int.mul_one]
    by_cases q : f N > 0
    · rw [wsm_y q, h3]
      omega
    · rw [wsm_n (by omega), h3]
      omega
theorem wsm_gap (hu : u ≤ h) (hq : ∀ j, u ≤ j → j < h → f j ≤ 0) : wsm f w h = wsm f w u := by
  induction h with
  | zero =>
    have : u = 0 := by omega
    subst this
    rfl
  | succ n ih =>
    by_cases e : u = n + 1
    · rw [e]
    · rw [wsm_n (hq n (by omega) (by omega))]
      exact ih (by omega) (fun j p q => hq j p (by omega))
end WSM
/-- how many WORLDS hold a SPAN, what they weigh -/
def xhc (e d : xD) (p i N : Nat) : Int := wsm (xwf e d) (fun n => if (xlot d n p).toNat = i then 1 else 0) N
def xhw (e d : xD) (p i N : Nat) : Int := wsm (xwf e d) (fun n => if (xlot d n p).toNat = i then xlW d n else 0) N
/-- the least, or the greatest, of something by all WORLDS; the first one's to begin with -/
def xtr (m : Bool) (f v : Nat → Int) : Nat → Int
  | 0 => 0
  | n + 1 => if f n > 0 then (if xcn f n = 0 ∨ (if m = true then xtr m f v n < v n else v n < xtr m f v n) then v n else xtr m f v n) else xtr m f v n
section XTR

variable {f v v' : Nat → Int} {m : Bool} {n N : Nat} {z a : Int}
theorem xtr_y (h : f n > 0) : xtr m f v (n + 1) = if xcn f n = 0 ∨ (if m = true then xtr m f v n < v n else v n < xtr m f v n) then v n else xtr m f v n := if_pos h
theorem xtr_n (h : f n ≤ 0) : xtr m f v (n + 1) = xtr m f v n := if_neg (by omega)
end XTR
section AWK

variable {e d : xD} {p h : Nat}
end AWK
theorem wsm_end {f w : Nat → Int} {u N : Nat} (hu : u ≤ N) (h : xcn f N ≤ xcn f u) : wsm f w N = wsm f w u := wsm_gap hu (fun j p q => by
  have h1 := xcn_mono (f := f) (m := u) j p
  by_cases c0 : f j ≤ 0
  · exact c0
  · have h2 := xcn_lt (f := f) (m := j) (n := N) q (by omega)
    omega)
section XOUT

variable {m : Bool} {c f : Nat → Int} {n : Nat} {z z' : Int}
end XOUT
