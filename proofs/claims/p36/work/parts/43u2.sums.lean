/-! SUMS AND BOUNDS OVER WORLDS (own work): what is held, by SPANS; sums by SPANS and by WORLDS; the least and the greatest; the next one -/
def wsm (f w : Nat → Int) : Nat → Int
  | 0 => 0
  | n + 1 => if f n > 0 then wsm f w n + w n else wsm f w n
section WSM

variable {f w w' x y : Nat → Int} {g : Nat → Nat} {c : Nat → Bool} {n N i k L u h : Nat} {B v z : Int}
theorem wsm_y (h : f n > 0) : wsm f w (n + 1) = wsm f w n + w n := if_pos h
theorem wsm_n (h : f n ≤ 0) : wsm f w (n + 1) = wsm f w n := if_neg (by omega)
theorem wsm_b (h : ∀ n, 0 ≤ w n ∧ w n ≤ B) : ∀ N : Nat, 0 ≤ wsm f w N ∧ wsm f w N ≤ B * N
  | 0 => ⟨Int.le_refl _, by show (0 : Int) ≤ B * ((0 : Nat) : Int); rw [show ((0 : Nat) : Int) = 0 from rfl, Int.mul_zero]; exact Int.le_refl _⟩
  | N + 1 => by
    have h1 := wsm_b h N
    have h2 := h N
    have h3 : B * ((N + 1 : Nat) : Int) = B * (N : Int) + B := by rw [show ((N + 1 : Nat) : Int) = (N : Int) + 1 by omega, Int.mul_add, Int.mul_one]
    by_cases q : f N > 0
    · rw [wsm_y q, h3]
      omega
    · rw [wsm_n (by omega), h3]
      omega
/-- someone has it -/
theorem wsm_ex : ∀ N : Nat, (0 < wsm f (fun n => if g n = i then 1 else 0) N ↔ ∃ n, n < N ∧ f n > 0 ∧ g n = i)
  | 0 => ⟨fun h => absurd h (by show ¬ (0 : Int) < 0; decide), fun ⟨n, h, _⟩ => by omega⟩
  | N + 1 => by
    have h1 := wsm_ex N
    have h2 := wsm_b (f := f) (w := fun n => if g n = i then 1 else 0) (B := 1) (fun n => by show 0 ≤ (if g n = i then (1 : Int) else 0) ∧ (if g n = i then (1 : Int) else 0) ≤ 1; split <;> decide) N
    by_cases q : f N > 0
    · rw [wsm_y q]
      by_cases e : g N = i
      · refine ⟨fun _ => ⟨N, by omega, q, e⟩, fun _ => ?_⟩
        show 0 < wsm f (fun n => if g n = i then 1 else 0) N + (if g N = i then (1 : Int) else 0)
        rw [if_pos e]
        omega
      · show 0 < wsm f (fun n => if g n = i then 1 else 0) N + (if g N = i then (1 : Int) else 0) ↔ _
        rw [if_neg e, Int.add_zero, h1]
        exact ⟨fun ⟨n, a, b, r⟩ => ⟨n, by omega, b, r⟩, fun ⟨n, a, b, r⟩ => ⟨n, Nat.lt_of_le_of_ne (by omega) (fun t => e (t ▸ r)), b, r⟩⟩
    · rw [wsm_n (by omega), h1]
      exact ⟨fun ⟨n, a, b, r⟩ => ⟨n, by omega, b, r⟩, fun ⟨n, a, b, r⟩ => ⟨n, Nat.lt_of_le_of_ne (by omega) (fun t => q (t ▸ b)), b, r⟩⟩
end WSM
/-- how many WORLDS hold a SPAN, what they weigh -/
def xhc (e d : xD) (p i N : Nat) : Int := wsm (xwf e d) (fun n => if (xlot d n p).toNat = i then 1 else 0) N
def xhw (e d : xD) (p i N : Nat) : Int := wsm (xwf e d) (fun n => if (xlot d n p).toNat = i then xlW d n else 0) N
/-- the least, or the greatest, of something by all WORLDS; the first one's to begin with -/
def xtr (m : Bool) (f v : Nat → Int) : Nat → Int
  | 0 => 0
  | n + 1 => if f n > 0 then (if xcn f n = 0 ∨ (if m = true then xtr m f v n < v n else v n < xtr m f v n) then v n else xtr m f v n) else xtr m f v n
section XTR

variable {f v v' : Nat → Int} {m : Bool} {n N : Nat} {z a : Int}
end XTR
/-- the next one from a place on -/
def XNX (f : Nat → Int) (N : Nat) (c z : Int) : Prop := (z = -1 ∧ ∀ j : Nat, c ≤ (j : Int) → j < N → f j ≤ 0) ∨ (0 ≤ z ∧ c ≤ z ∧ z < N ∧ f z.toNat > 0 ∧ ∀ j : Nat, c ≤ (j : Int) → (j : Int) < z → f j ≤ 0)
/-! bits of a long, one after the other -/
theorem wl_or_c {x y : Int} : wl_or x y = wl_or y x := by
  unfold wl_or
  rw [Int64.or_comm]
theorem wl_or_a {x y z : Int} : wl_or (wl_or x y) z = wl_or x (wl_or y z) := by
  unfold wl_or
  rw [Int64.ofInt_toInt, Int64.ofInt_toInt, Int64.or_assoc]
theorem wl_or_s {x y : Int} : wl_or (wl_or x y) y = wl_or x y := by
  rw [wl_or_a]
  unfold wl_or
  rw [Int64.ofInt_toInt, Int64.or_self]
def xoL (P : Nat → Bool) : Nat → Int
  | 0 => 0
  | n + 1 => if P n = true then wl_or (xoL P n) (wl_shl 1 n) else xoL P n
theorem xoL_cg {P Q : Nat → Bool} : ∀ n : Nat, (∀ j, j < n → P j = Q j) → xoL P n = xoL Q n
  | 0, _ => rfl
  | n + 1, h => by
    show (if P n = true then wl_or (xoL P n) (wl_shl 1 n) else xoL P n) = (if Q n = true then wl_or (xoL Q n) (wl_shl 1 n) else xoL Q n)
    rw [h n (by omega), xoL_cg n (fun j hj => h j (by omega))]
theorem xoL_up {P : Nat → Bool} {k : Nat} : ∀ n : Nat, k < n → xoL (fun i => P i || decide (i = k)) n = wl_or (xoL P n) (wl_shl 1 k)
  | 0, h => by omega
  | n + 1, h => by
    have e : xoL (fun i => P i || decide (i = k)) (n + 1) = if (P n || decide (n = k)) = true then wl_or (xoL (fun i => P i || decide (i = k)) n) (wl_shl 1 n) else xoL (fun i => P i || decide (i = k)) n := rfl
    have e2 : xoL P (n + 1) = if P n = true then wl_or (xoL P n) (wl_shl 1 n) else xoL P n := rfl
    rw [e, e2]
    by_cases c : n = k
    · have h1 : xoL (fun i => P i || decide (i = k)) n = xoL P n := xoL_cg n (fun j hj => by
        show (P j || decide (j = k)) = P j
        rw [decide_eq_false (show ¬ j = k by omega), Bool.or_false])
      rw [h1, decide_eq_true c, Bool.or_true, if_pos rfl, c]
      split
      · rw [wl_or_s]
      · rfl
    · rw [xoL_up n (by omega), decide_eq_false c, Bool.or_false]
      split
      · rw [wl_or_a, wl_or_c (x := wl_shl 1 k), ← wl_or_a]
      · rfl
theorem xoL_e : ∀ n : Nat, xoL (fun _ => false) n = 0
  | 0 => rfl
  | n + 1 => by
    show (if false = true then wl_or (xoL (fun _ => false) n) (wl_shl 1 n) else xoL (fun _ => false) n) = 0
    rw [if_neg (by decide)]
    exact xoL_e n
section AWK

variable {e d : xD} {p h : Nat}
end AWK
section XOUT

variable {m : Bool} {c f : Nat → Int} {n : Nat} {z z' : Int}
end XOUT
