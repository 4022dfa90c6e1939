/-! SUMS AND BOUNDS OVER WORLDS (own work): what is held, by SPANS; sums by SPANS and by WORLDS; the least and the greatest; the next one -/
def wsm (f w : Nat → Int) : Nat → Int
  | 0 => 0
  | n + 1 => if f n > 0 then wsm f w n + w n else wsm f w n
def ssm (c : Nat → Bool) (x : Nat → Int) : Nat → Int
  | 0 => 0
  | i + 1 => if c i = true then ssm c x i + x i else ssm c x i
section WSM

variable {f w w' x y : Nat → Int} {g : Nat → Nat} {c : Nat → Bool} {n N i k L u h : Nat} {B v z : Int}
theorem wsm_y (h : f n > 0) : wsm f w (n + 1) = wsm f w n + w n := if_pos h
theorem wsm_n (h : f n ≤ 0) : wsm f w (n + 1) = wsm f w n := if_neg (by omega)
theorem wsm_b (h : ∀ n, 0 ≤ w n ∧ w n ≤ B) : ∀ N : Nat, 0 ≤ wsm f w N ∧ wsm f w N ≤ B * N
  | 0 => ⟨Int.le_refl _, by show (0 : Int) ≤ B * ((0 : Nat) : Int); rw [show ((0 : Nat) : Int) = 0 from rfl, Int.mul_zero]; exact Int.le_refl _⟩
  | N + 1 => by
    have h1 := wsm_b h N (f := f)
    have h2 := h N
    have h3 : B * ((N + 1 : Nat) : Int) = B * (N : Int) + B := by rw [show ((N + 1 : Nat) : Int) = (N : Int) + 1 by omega, Int.mul_add, Int.mul_one]
    by_cases q : f N > 0
    · rw [wsm_y q, h3]
      omega
    · rw [wsm_n (by omega), h3]
      omega
theorem wsm_gap (hu : u ≤ h) (hq : ∀ j, u ≤ j → j < h → f j ≤ 0) : wsm f w h = wsm f w u := by
  induction h with
  | zero =>
    have : u = 0 := by omega
    subst this
    rfl
  | succ n ih =>
    by_cases e : u = n + 1
    · rw [e]
    · rw [wsm_n (hq n (by omega) (by omega))]
      exact ih (by omega) (fun j p q => hq j p (by omega))
theorem wsm_cg : ∀ N : Nat, (∀ n, n < N → f n > 0 → w n = w' n) → wsm f w N = wsm f w' N
  | 0, _ => rfl
  | N + 1, h => by
    have h1 := wsm_cg N (fun n p q => h n (by omega) q)
    by_cases q : f N > 0
    · rw [wsm_y q, wsm_y q, h1, h N (by omega) q]
    · rw [wsm_n (by omega), wsm_n (by omega), h1]
theorem ssm_0 : ∀ L : Nat, ssm c (fun _ => 0) L = 0
  | 0 => rfl
  | L + 1 => by
    show (if c L = true then ssm c (fun _ => 0) L + 0 else ssm c (fun _ => 0) L) = 0
    rw [ssm_0 L]
    split <;> rfl
theorem ssm_add : ∀ L : Nat, ssm c (fun i => x i + y i) L = ssm c x L + ssm c y L
  | 0 => rfl
  | L + 1 => by
    show (if c L = true then ssm c (fun i => x i + y i) L + (x L + y L) else ssm c (fun i => x i + y i) L) = (if c L = true then ssm c x L + x L else ssm c x L) + (if c L = true then ssm c y L + y L else ssm c y L)
    rw [ssm_add L]
    split <;> omega
theorem ssm_far : ∀ L : Nat, L ≤ k → ssm c (fun i => if k = i then v else 0) L = 0
  | 0, _ => rfl
  | L + 1, h => by
    show (if c L = true then ssm c (fun i => if k = i then v else 0) L + (if k = L then v else 0) else ssm c (fun i => if k = i then v else 0) L) = 0
    rw [ssm_far L (by omega), if_neg (show ¬ k = L by omega)]
    split <;> rfl
theorem ssm_one : ∀ L : Nat, k < L → ssm c (fun i => if k = i then v else 0) L = if c k = true then v else 0
  | 0, h => by omega
  | L + 1, h => by
    show (if c L = true then ssm c (fun i => if k = i then v else 0) L + (if k = L then v else 0) else ssm c (fun i => if k = i then v else 0) L) = _
    by_cases e : k = L
    · rw [ssm_far L (by omega), if_pos e, e]
      split <;> omega
    · rw [ssm_one L (by omega), if_neg e]
      split <;> split <;> omega
/-- counted by SPANS as by WORLDS -/
theorem ssm_dc : ∀ N : Nat, (∀ n, n < N → f n > 0 → g n < L) → ssm c (fun i => wsm f (fun n => if g n = i then w n else 0) N) L = wsm f (fun n => if c (g n) = true then w n else 0) N
  | 0, _ => ssm_0 L
  | N + 1, h => by
    have h1 := ssm_dc N (fun n p q => h n (by omega) q)
    by_cases q : f N > 0
    · have e : (fun i => wsm f (fun n => if g n = i then w n else 0) (N + 1)) = fun i => wsm f (fun n => if g n = i then w n else 0) N + (if g N = i then w N else 0) := by
        funext i
        exact wsm_y q
      rw [e, ssm_add, h1, ssm_one L (h N (by omega) q), wsm_y q]
    · have e : (fun i => wsm f (fun n => if g n = i then w n else 0) (N + 1)) = fun i => wsm f (fun n => if g n = i then w n else 0) N := by
        funext i
        exact wsm_n (by omega)
      rw [e, h1, wsm_n (by omega)]
theorem ssm_y (hi : 0 ≤ v) (h : c v.toNat = true) (hz : z = x v.toNat) : ssm c x v.toNat + z = ssm c x (v + 1).toNat := by
  rw [show (v + 1).toNat = v.toNat + 1 by omega, hz]
  exact (if_pos h).symm
theorem ssm_n (hi : 0 ≤ v) (h : c v.toNat = false) : ssm c x v.toNat = ssm c x (v + 1).toNat := by
  rw [show (v + 1).toNat = v.toNat + 1 by omega]
  exact (if_neg (by rw [h]; decide)).symm
/-- someone has it -/
theorem wsm_ex : ∀ N : Nat, (0 < wsm f (fun n => if g n = i then 1 else 0) N ↔ ∃ n, n < N ∧ f n > 0 ∧ g n = i)
  | 0 => ⟨fun h => absurd h (by show ¬ (0 : Int) < 0; decide), fun ⟨n, h, _⟩ => by omega⟩
  | N + 1 => by
    have h1 := wsm_ex N
    have h2 := wsm_b (f := f) (w := fun n => if g n = i then 1 else 0) (B := 1) (fun n => by show 0 ≤ (if g n = i then (1 : Int) else 0) ∧ (if g n = i then (1 : Int) else 0) ≤ 1; split <;> decide) N
    by_cases q : f N > 0
    · rw [wsm_y q]
      by_cases e : g N = i
      · refine ⟨fun _ => ⟨N, by omega, q, e⟩, fun _ => ?_⟩
        show 0 < wsm f (fun n => if g n = i then 1 else 0) N + (if g N = i then (1 : Int) else 0)
        rw [if_pos e]
        omega
      · show 0 < wsm f (fun n => if g n = i then 1 else 0) N + (if g N = i then (1 : Int) else 0) ↔ _
        rw [if_neg e, Int.add_zero, h1]
        exact ⟨fun ⟨n, a, b, r⟩ => ⟨n, by omega, b, r⟩, fun ⟨n, a, b, r⟩ => ⟨n, by have : n ≠ N := fun t => e (t ▸ r)
                                                                                    omega, b, r⟩⟩
    · rw [wsm_n (by omega), h1]
      exact ⟨fun ⟨n, a, b, r⟩ => ⟨n, by omega, b, r⟩, fun ⟨n, a, b, r⟩ => ⟨n, by have : n ≠ N := fun t => q (t ▸ b)
                                                                                  omega, b, r⟩⟩
end WSM
/-- how many WORLDS hold a SPAN, what they weigh -/
def xhc (e d : xD) (p i N : Nat) : Int := wsm (xwf e d) (fun n => if (xlot d n p).toNat = i then 1 else 0) N
def xhw (e d : xD) (p i N : Nat) : Int := wsm (xwf e d) (fun n => if (xlot d n p).toNat = i then xlW d n else 0) N
/-- the least, or the greatest, of something by all WORLDS; the first one's to begin with -/
def xtr (m : Bool) (f v : Nat → Int) : Nat → Int
  | 0 => 0
  | n + 1 => if f n > 0 then (if xcn f n = 0 ∨ (if m = true then xtr m f v n < v n else v n < xtr m f v n) then v n else xtr m f v n) else xtr m f v n
section XTR

variable {f v v' : Nat → Int} {m : Bool} {n N : Nat} {z a : Int}
theorem xtr_y (h : f n > 0) : xtr m f v (n + 1) = if xcn f n = 0 ∨ (if m = true then xtr m f v n < v n else v n < xtr m f v n) then v n else xtr m f v n := if_pos h
theorem xtr_n (h : f n ≤ 0) : xtr m f v (n + 1) = xtr m f v n := if_neg (by omega)
/-- it is one's, and no other's is beyond it -/
def XEX (m : Bool) (f v : Nat → Int) (N : Nat) (z : Int) : Prop := (∃ n, n < N ∧ f n > 0 ∧ v n = z) ∧ ∀ n, n < N → f n > 0 → if m = true then v n ≤ z else z ≤ v n
theorem xtr_ex : ∀ N : Nat, 0 < xcn f N → XEX m f v N (xtr m f v N)
  | 0, h => by
    have : xcn f 0 = 0 := rfl
    omega
  | N + 1, h => by
    have h1 : xcn f (N + 1) = xcn f N + (if f N > 0 then 1 else 0) := rfl
    have h0 := (xcn_b (f := f) N).1
    by_cases q : f N > 0
    · rw [xtr_y q]
      by_cases c : xcn f N = 0
      · rw [if_pos (Or.inl c)]
        refine ⟨⟨N, by omega, q, rfl⟩, fun n hn hf => ?_⟩
        have : n = N := by
          by_cases t : n = N
          · exact t
          · have := xcn_lt (f := f) (show n < N by omega) hf
            have := (xcn_b (f := f) n).1
            omega
        subst this
        split <;> exact Int.le_refl _
      · obtain ⟨⟨a, a1, a2, a3⟩, p⟩ := xtr_ex N (by omega) (m := m) (v := v)
        cases m
        · simp only [Bool.false_eq_true, if_false] at p ⊢
          by_cases t : v N < xtr false f v N
          · rw [if_pos (Or.inr t)]
            refine ⟨⟨N, by omega, q, rfl⟩, fun n hn hf => ?_⟩
            rw [if_neg (by decide)]
            by_cases e : n = N
            · rw [e]
              exact Int.le_refl _
            · have := p n (by omega) hf
              omega
          · rw [if_neg (fun r => r.elim c t)]
            refine ⟨⟨a, by omega, a2, a3⟩, fun n hn hf => ?_⟩
            rw [if_neg (by decide)]
            by_cases e : n = N
            · rw [e]
              omega
            · exact p n (by omega) hf
        · simp only [if_true] at p ⊢
          by_cases t : xtr true f v N < v N
          · rw [if_pos (Or.inr t)]
            refine ⟨⟨N, by omega, q, rfl⟩, fun n hn hf => ?_⟩
            rw [if_pos rfl]
            by_cases e : n = N
            · rw [e]
              exact Int.le_refl _
            · have := p n (by omega) hf
              omega
          · rw [if_neg (fun r => r.elim c t)]
            refine ⟨⟨a, by omega, a2, a3⟩, fun n hn hf => ?_⟩
            rw [if_pos rfl]
            by_cases e : n = N
            · rw [e]
              omega
            · exact p n (by omega) hf
    · rw [xtr_n (by omega)]
      rw [if_neg q] at h1
      obtain ⟨⟨a, a1, a2, a3⟩, p⟩ := xtr_ex N (by omega) (m := m) (v := v)
      exact ⟨⟨a, by omega, a2, a3⟩, fun n hn hf => p n (by have : n ≠ N := fun t => q (t ▸ hf)
                                                            omega) hf⟩
/-- what is taken from a number: the other end -/
theorem XEX_sub (h : XEX m f v N z) : XEX (!m) f (fun n => a - v n) N (a - z) := by
  obtain ⟨⟨n, n1, n2, n3⟩, p⟩ := h
  refine ⟨⟨n, n1, n2, by show a - v n = a - z; rw [n3]⟩, fun j hj hf => ?_⟩
  have h1 := p j hj hf
  cases m
  · rw [if_neg (by decide)] at h1
    show if true = true then a - v j ≤ a - z else a - z ≤ a - v j
    rw [if_pos rfl]
    omega
  · rw [if_pos rfl] at h1
    show if false = true then a - v j ≤ a - z else a - z ≤ a - v j
    rw [if_neg (by decide)]
    omega
end XTR
/-! bits of a long, one after the other -/
theorem wl_or_c {x y : Int} : wl_or x y = wl_or y x := by
  unfold wl_or
  rw [Int64.or_comm]
theorem wl_or_a {x y z : Int} : wl_or (wl_or x y) z = wl_or x (wl_or y z) := by
  unfold wl_or
  rw [Int64.ofInt_toInt, Int64.ofInt_toInt, Int64.or_assoc]
theorem wl_or_s {x y : Int} : wl_or (wl_or x y) y = wl_or x y := by
  rw [wl_or_a]
  unfold wl_or
  rw [Int64.ofInt_toInt, Int64.or_self]
def xoL (P : Nat → Bool) : Nat → Int
  | 0 => 0
  | n + 1 => if P n = true then wl_or (xoL P n) (wl_shl 1 n) else xoL P n
theorem xoL_cg {P Q : Nat → Bool} : ∀ n : Nat, (∀ j, j < n → P j = Q j) → xoL P n = xoL Q n
  | 0, _ => rfl
  | n + 1, h => by
    show (if P n = true then wl_or (xoL P n) (wl_shl 1 n) else xoL P n) = (if Q n = true then wl_or (xoL Q n) (wl_shl 1 n) else xoL Q n)
    rw [h n (by omega), xoL_cg n (fun j hj => h j (by omega))]
theorem xoL_up {P : Nat → Bool} {k : Nat} : ∀ n : Nat, k < n → xoL (fun i => P i || decide (i = k)) n = wl_or (xoL P n) (wl_shl 1 k)
  | 0, h => by omega
  | n + 1, h => by
    have e : xoL (fun i => P i || decide (i = k)) (n + 1) = if (P n || decide (n = k)) = true then wl_or (xoL (fun i => P i || decide (i = k)) n) (wl_shl 1 n) else xoL (fun i => P i || decide (i = k)) n := rfl
    have e2 : xoL P (n + 1) = if P n = true then wl_or (xoL P n) (wl_shl 1 n) else xoL P n := rfl
    rw [e, e2]
    by_cases c : n = k
    · have h1 : xoL (fun i => P i || decide (i = k)) n = xoL P n := xoL_cg n (fun j hj => by
        show (P j || decide (j = k)) = P j
        rw [decide_eq_false (show ¬ j = k by omega), Bool.or_false])
      rw [h1, decide_eq_true c, Bool.or_true, if_pos rfl, c]
      split
      · rw [wl_or_s]
      · rfl
    · rw [xoL_up n (by omega), decide_eq_false c, Bool.or_false]
      split
      · rw [wl_or_a, wl_or_c (x := wl_shl 1 k), ← wl_or_a]
      · rfl
theorem xoL_e : ∀ n : Nat, xoL (fun _ => false) n = 0
  | 0 => rfl
  | n + 1 => by
    show (if false = true then wl_or (xoL (fun _ => false) n) (wl_shl 1 n) else xoL (fun _ => false) n) = 0
    rw [if_neg (by decide)]
    exact xoL_e n
/-- SPANS held, as bits, by SPANS as by WORLDS -/
theorem xoL_w {f : Nat → Int} {g : Nat → Nat} {L : Nat} : ∀ N : Nat, (∀ n, n < N → f n > 0 → g n < L) → wfd f (fun n x => wl_or x (wl_shl 1 (g n : Nat))) 0 N = xoL (fun i => decide (0 < wsm f (fun n => if g n = i then 1 else 0) N)) L
  | 0, _ => (xoL_e L).symm
  | N + 1, h => by
    have h1 := xoL_w N (fun n p q => h n (by omega) q)
    by_cases q : f N > 0
    · rw [wfd_y q, h1, ← xoL_up L (h N (by omega) q)]
      refine xoL_cg L (fun j hj => ?_)
      have h2 := @wsm_ex f g j N
      have h3 := @wsm_ex f g j (N + 1)
      show (decide (0 < wsm f (fun n => if g n = j then 1 else 0) N) || decide (j = g N)) = decide (0 < wsm f (fun n => if g n = j then 1 else 0) (N + 1))
      by_cases c : j = g N
      · rw [decide_eq_true c, Bool.or_true, decide_eq_true (h3.mpr ⟨N, by omega, q, c.symm⟩)]
      · rw [decide_eq_false c, Bool.or_false]
        apply decide_eq_decide.mpr
        rw [h2, h3]
        exact ⟨fun ⟨n, a, b, r⟩ => ⟨n, by omega, b, r⟩, fun ⟨n, a, b, r⟩ => ⟨n, by have : n ≠ N := fun t => c (by rw [← r, t])
                                                                                    omega, b, r⟩⟩
    · rw [wfd_n (by omega), h1]
      refine xoL_cg L (fun j hj => ?_)
      show decide (0 < wsm f (fun n => if g n = j then 1 else 0) N) = decide (0 < wsm f (fun n => if g n = j then 1 else 0) (N + 1))
      rw [wsm_n (by omega)]
theorem xsW_sum {e d : xD} : ∀ N : Nat, xsW e d N = wsm (xwf e d) (xlW d) N
  | 0 => rfl
  | N + 1 => by
    by_cases q : xwf e d N > 0
    · rw [xsW_y q, wsm_y q, xsW_sum N]
    · rw [xsW_n (by omega), wsm_n (by omega), xsW_sum N]
/-- in how many WORLDS one is AWAKE, what they weigh -/
def xta (e d : xD) (p h : Nat) : Int := wsm (xwf e d) (fun n => if hb (xwb d (xlot d n) p) h = 1 then 1 else 0) (xlots d).toNat
def xtw (e d : xD) (p h : Nat) : Int := wsm (xwf e d) (fun n => if hb (xwb d (xlot d n) p) h = 1 then xlW d n else 0) (xlots d).toNat
section AWK

variable {e d : xD} {p h : Nat}
theorem xpk_b (hP : xdP d) (hp : (p : Int) < d 0 3) : ∀ n : Nat, n < (xlots d).toNat → xwf e d n > 0 → (xlot d n p).toNat < (xsp d p).length := fun n hn _ => by
  have h1 := xlot_b (n := n) hP (by omega) (by omega) hp
  omega
theorem xta_s (hP : xdP d) (hp : (p : Int) < d 0 3) : ssm (fun i => decide (hb (xwk d p ((xsp d p).getD i (0, 0))) h = 1)) (fun i => xhc e d p i (xlots d).toNat) (xsp d p).length = xta e d p h := by
  unfold xhc xta
  rw [ssm_dc (w := fun _ => 1) (xlots d).toNat (xpk_b hP hp)]
  exact wsm_cg _ (fun n _ _ => by
    show (if decide (hb (xwb d (xlot d n) p) h = 1) = true then (1 : Int) else 0) = if hb (xwb d (xlot d n) p) h = 1 then 1 else 0
    simp only [decide_eq_true_eq])
theorem xtw_s (hP : xdP d) (hp : (p : Int) < d 0 3) : ssm (fun i => decide (hb (xwk d p ((xsp d p).getD i (0, 0))) h = 1)) (fun i => xhw e d p i (xlots d).toNat) (xsp d p).length = xtw e d p h := by
  unfold xhw xtw
  rw [ssm_dc (w := xlW d) (xlots d).toNat (xpk_b hP hp)]
  exact wsm_cg _ (fun n _ _ => by
    show (if decide (hb (xwb d (xlot d n) p) h = 1) = true then xlW d n else 0) = if hb (xwb d (xlot d n) p) h = 1 then xlW d n else 0
    simp only [decide_eq_true_eq])
end AWK
theorem wsm_end {f w : Nat → Int} {u N : Nat} (hu : u ≤ N) (h : xcn f N ≤ xcn f u) : wsm f w N = wsm f w u := wsm_gap hu (fun j p q => by
  have h1 := xcn_mono (f := f) (m := u) j p
  by_cases c0 : f j ≤ 0
  · exact c0
  · have h2 := xcn_lt (f := f) (m := j) (n := N) q (by omega)
    omega)
theorem wfd_end {α : Type} {f : Nat → Int} {s : Nat → α → α} {a : α} {u N : Nat} (hu : u ≤ N) (h : xcn f N ≤ xcn f u) : wfd f s a N = wfd f s a u := wfd_gap hu (fun j p q => by
  have h1 := xcn_mono (f := f) (m := u) j p
  by_cases c0 : f j ≤ 0
  · exact c0
  · have h2 := xcn_lt (f := f) (m := j) (n := N) q (by omega)
    omega)
theorem wsm_le {f w w' : Nat → Int} (h : ∀ n, w n ≤ w' n) : ∀ N : Nat, wsm f w N ≤ wsm f w' N
  | 0 => Int.le_refl _
  | N + 1 => by
    have h1 := wsm_le h N (f := f)
    have h2 := h N
    by_cases q : f N > 0
    · rw [wsm_y q, wsm_y q]
      omega
    · rw [wsm_n (by omega), wsm_n (by omega)]
      exact h1
/-- what those in which one is AWAKE weigh, at most all -/
theorem xtw_b {e d : xD} {p h : Nat} (h3 : d 0 3 ≤ 6) : 0 ≤ xtw e d p h ∧ xtw e d p h ≤ xsW e d (xlots d).toNat := by
  refine ⟨?_, ?_⟩
  · exact (wsm_b (f := xwf e d) (w := fun n => if hb (xwb d (xlot d n) p) h = 1 then xlW d n else 0) (B := 1000000) (fun n => by
      have := @xlW_b d n h3
      show 0 ≤ (if hb (xwb d (xlot d n) p) h = 1 then xlW d n else 0) ∧ (if hb (xwb d (xlot d n) p) h = 1 then xlW d n else 0) ≤ 1000000
      split <;> omega) (xlots d).toNat).1
  · rw [xsW_sum]
    exact wsm_le (fun n => by
      have := @xlW_b d n h3
      show (if hb (xwb d (xlot d n) p) h = 1 then xlW d n else 0) ≤ xlW d n
      split <;> omega) (xlots d).toNat
theorem xsW_p (e d : xD) (h3 : d 0 3 ≤ 6) : ∀ N : Nat, 0 < xcn (xwf e d) N → 0 < xsW e d N
  | 0, h => absurd h (by show ¬ (0 : Int) < 0; decide)
  | N + 1, h => by
    have h1 := (xsW_b (e := e) h3 N).1
    have h2 := @xlW_b d N h3
    have h4 : xcn (xwf e d) (N + 1) = xcn (xwf e d) N + (if xwf e d N > 0 then 1 else 0) := rfl
    by_cases q : xwf e d N > 0
    · rw [xsW_y q]
      omega
    · rw [if_neg q] at h4
      rw [xsW_n (by omega)]
      exact xsW_p e d h3 N (by omega)
/-- by hundredths -/
theorem chz {x w v q z s y : Int} (hb : 0 ≤ x ∧ x ≤ w) (hw : 0 < w) (hx : s = x) (hy : y = w) (hv : v = 100 * s) (hq : q = wl_div v y) (hl : w ≤ 20000000000) (hz : (-2147483648 ≤ q ∧ q ≤ 2147483647) → z = q) : z = (100 * x) / w := by
  have e1 : q = (100 * x) / w := by
    rw [hq, hv, hx, hy]
    exact wl_div_e ⟨by omega, by omega⟩ ⟨by omega, by omega⟩
  have h0 : 0 ≤ (100 * x) / w := Int.ediv_nonneg (by omega) (by omega)
  have h1 : (100 * x) / w < 101 := (Int.ediv_lt_iff_lt_mul hw).mpr (by omega)
  rw [hz (by omega), e1]
/-- all WORLDS' weights -/
theorem wsm_m1 (e d : xD) (h : Nat) : wsm (xwf e d) (fun n => if (-1 : Int) = -1 ∨ hb (xwb d (xlot d ((n : Nat) : Int)) ((-1 : Int)).toNat) h = 1 then xlW d n else 0) (xlots d).toNat = xsW e d (xlots d).toNat := by
  rw [xsW_sum]
  exact wsm_cg _ (fun n _ _ => by
    show (if (-1 : Int) = -1 ∨ hb (xwb d (xlot d n) ((-1 : Int)).toNat) h = 1 then xlW d n else 0) = xlW d n
    rw [if_pos (Or.inl rfl)])
theorem wsm_p1 (e d : xD) {a : Int} (h : Nat) (ha : 0 ≤ a) : wsm (xwf e d) (fun n => if a = -1 ∨ hb (xwb d (xlot d ((n : Nat) : Int)) a.toNat) h = 1 then xlW d n else 0) (xlots d).toNat = xtw e d a.toNat h := by
  unfold xtw
  exact wsm_cg _ (fun n _ _ => by
    show (if a = -1 ∨ hb (xwb d (xlot d n) a.toNat) h = 1 then xlW d n else 0) = if hb (xwb d (xlot d n) a.toNat) h = 1 then xlW d n else 0
    by_cases q : hb (xwb d (xlot d n) a.toNat) h = 1
    · rw [if_pos (Or.inr q), if_pos q]
    · rw [if_neg (fun c => c.elim (fun r => by omega) q), if_neg q])
/-- who is AWAKE in an HOUR, as bits -/
def xpa (d : xD) (g : Nat → Int) (h : Nat) : Int := xob (fun p => decide (hb (xwb d g p) h = 1)) (d 0 3).toNat
theorem or_and_e {x y z a b a' b' : Int} (e1 : y = wq_or x z) (e2 : z = wq_and a b) (ha : a = a') (hb : b = b') : y = wq_or x (wq_and a' b') := by rw [e1, e2, ha, hb]
theorem orl_e {x y z a a' : Int} (e1 : y = wl_or x z) (e2 : z = wl_shl 1 a) (ha : a = a') : y = wl_or x (wl_shl 1 a') := by rw [e1, e2, ha]
theorem xoL_s {P : Nat → Bool} {i : Int} (h : 0 ≤ i) (hp : P i.toNat = true) : xoL P (i + 1).toNat = wl_or (xoL P i.toNat) (wl_shl 1 i) := by
  rw [show (i + 1).toNat = i.toNat + 1 by omega]
  show (if P i.toNat = true then wl_or (xoL P i.toNat) (wl_shl 1 (i.toNat : Nat)) else xoL P i.toNat) = _
  rw [if_pos hp, Int.toNat_of_nonneg h]
theorem xoL_n {P : Nat → Bool} {i : Int} (h : 0 ≤ i) (hp : P i.toNat = false) : xoL P (i + 1).toNat = xoL P i.toNat := by
  rw [show (i + 1).toNat = i.toNat + 1 by omega]
  show (if P i.toNat = true then wl_or (xoL P i.toNat) (wl_shl 1 (i.toNat : Nat)) else xoL P i.toNat) = _
  rw [if_neg (by rw [hp]; decide)]
/-- SPANS that one has in some WORLD -/
def xps (e d : xD) (p : Nat) : Int := wfd (xwf e d) (fun n x => wl_or x (wl_shl 1 (((xlot d n p).toNat : Nat) : Int))) 0 (xlots d).toNat
theorem xps_s {e d : xD} {p : Nat} (hP : xdP d) (hp : (p : Int) < d 0 3) : xoL (fun i => decide (0 < xhc e d p i (xlots d).toNat)) (xsp d p).length = xps e d p := (xoL_w (xlots d).toNat (xpk_b hP hp)).symm
theorem xtr_gap {m : Bool} {f v : Nat → Int} {u h : Nat} (hu : u ≤ h) (hq : ∀ j, u ≤ j → j < h → f j ≤ 0) : xtr m f v h = xtr m f v u := by
  induction h with
  | zero =>
    have : u = 0 := by omega
    subst this
    rfl
  | succ n ih =>
    by_cases e : u = n + 1
    · rw [e]
    · rw [xtr_n (hq n (by omega) (by omega))]
      exact ih (by omega) (fun j p q => hq j p (by omega))
theorem xtr_end {m : Bool} {f v : Nat → Int} {u N : Nat} (hu : u ≤ N) (h : xcn f N ≤ xcn f u) : xtr m f v N = xtr m f v u := xtr_gap hu (fun j p q => by
  have h1 := xcn_mono (f := f) (m := u) j p
  by_cases c0 : f j ≤ 0
  · exact c0
  · have h2 := xcn_lt (f := f) (m := j) (n := N) q (by omega)
    omega)
/-- the outermost of what is held, so far -/
def XOU (m : Bool) (c f : Nat → Int) (n : Nat) (z : Int) : Prop := (z = -1 ∧ ∀ i : Nat, i < n → c i ≤ 0) ∨ (0 ≤ z ∧ (∃ i : Nat, i < n ∧ c i > 0 ∧ f i = z) ∧ ∀ i : Nat, i < n → c i > 0 → if m = true then f i ≤ z else z ≤ f i)
section XOUT

variable {m : Bool} {c f : Nat → Int} {n : Nat} {z z' : Int}
theorem XOU_0 : XOU m c f 0 (-1) := Or.inl ⟨rfl, fun i hi => by omega⟩
theorem XOU_n (h : XOU m c f n z) (hc : c n ≤ 0) : XOU m c f (n + 1) z := by
  have key : ∀ i, i < n + 1 → c i > 0 → i < n := fun i hi hp => by
    have : i ≠ n := fun q => by
      subst q
      omega
    omega
  rcases h with ⟨h1, h2⟩ | ⟨h1, ⟨i, a, b, r⟩, h3⟩
  · refine Or.inl ⟨h1, fun i hi => ?_⟩
    by_cases q : i = n
    · rw [q]
      exact hc
    · exact h2 i (by omega)
  · exact Or.inr ⟨h1, ⟨i, by omega, b, r⟩, fun i hi hp => h3 i (key i hi hp) hp⟩
theorem XOU_y (h : XOU m c f n z) (hc : 0 < c n) (hz : z' = f n) (h0 : 0 ≤ z') (hq : z = -1 ∨ if m = true then z < z' else z' < z) : XOU m c f (n + 1) z' := by
  refine Or.inr ⟨h0, ⟨n, by omega, hc, hz.symm⟩, fun i hi hp => ?_⟩
  by_cases q : i = n
  · subst q
    rw [hz]
    split <;> exact Int.le_refl _
  · rcases h with ⟨h1, h2⟩ | ⟨h1, -, h3⟩
    · have := h2 i (by omega)
      omega
    · have h4 := h3 i (by omega) hp
      rcases hq with hq | hq
      · omega
      · cases m
        · rw [if_neg (by decide)] at hq h4 ⊢
          omega
        · rw [if_pos rfl] at hq h4 ⊢
          omega
theorem XOU_k (h : XOU m c f n z) (hz : z ≠ -1) (hq : if m = true then f n ≤ z else z ≤ f n) : XOU m c f (n + 1) z := by
  rcases h with ⟨h1, h2⟩ | ⟨h1, ⟨i, a, b, r⟩, h3⟩
  · exact absurd h1 hz
  · refine Or.inr ⟨h1, ⟨i, by omega, b, r⟩, fun j hj hp => ?_⟩
    by_cases q : j = n
    · rw [q]
      exact hq
    · exact h3 j (by omega) hp
end XOUT
theorem xhc_lt {e d : xD} {p i : Nat} (hP : xdP d) (hp : (p : Int) < d 0 3) (h : 0 < xhc e d p i (xlots d).toNat) : i < (xsp d p).length := by
  obtain ⟨n, h1, h2, h3⟩ := wsm_ex (f := xwf e d) (g := fun n => (xlot d n p).toNat) (i := i) (xlots d).toNat |>.mp h
  have := xpk_b hP hp n h1 h2
  omega
theorem XOU_e {e d : xD} {p : Nat} {m : Bool} {f : Nat → Int} {z : Int} (hP : xdP d) (hp : (p : Int) < d 0 3) (hw : 0 < xcn (xwf e d) (xlots d).toNat) (h : XOU m (fun i => xhc e d p i (xlots d).toNat) f 40 z) : XEX m (xwf e d) (fun n => f (xlot d n p).toNat) (xlots d).toNat z := by
  have key : ∀ n, n < (xlots d).toNat → xwf e d n > 0 → (xlot d n p).toNat < 40 ∧ xhc e d p (xlot d n p).toNat (xlots d).toNat > 0 := fun n hn hf => by
    have h1 := xpk_b hP hp n hn hf
    have h2 := @xsp_len d p hP
    exact ⟨by omega, wsm_ex (f := xwf e d) (g := fun n => (xlot d n p).toNat) (i := (xlot d n p).toNat) (xlots d).toNat |>.mpr ⟨n, hn, hf, rfl⟩⟩
  rcases h with ⟨h1, h2⟩ | ⟨h1, ⟨i, a, b, r⟩, h3⟩
  · obtain ⟨n, n1, n2⟩ : ∃ n, n < (xlots d).toNat ∧ xwf e d n > 0 := by
      have h4 := xith_ex (f := xwf e d) (i := 0) (xlots d).toNat (Int.le_refl _) hw
      exact ⟨_, h4.2.2, h4.1⟩
    have h5 := key n n1 n2
    have h6 : xhc e d p (xlot d n p).toNat (xlots d).toNat ≤ 0 := h2 _ h5.1
    omega
  · obtain ⟨n, n1, n2, n3⟩ := wsm_ex (f := xwf e d) (g := fun n => (xlot d n p).toNat) (i := i) (xlots d).toNat |>.mp b
    refine ⟨⟨n, n1, n2, ?_⟩, fun j hj hf => ?_⟩
    · show f (xlot d n p).toNat = z
      rw [show (xlot d n p).toNat = i from n3]
      exact r
    · have h5 := key j hj hf
      exact h3 _ h5.1 h5.2
/-- rows by their places -/
def RWb (T : wq_T) (H : wq_H) (r : Nat) (c : Int) (f : Nat → Int) : Prop := ∀ k : Nat, (k : Int) < c → H r k = f k
abbrev RWs := RWb
def RMb (T : wq_T) (H : wq_H) (r : Nat) (o : Nat) (c : Int) (f : Nat → Int) : Prop := ∀ k : Nat, (k : Int) < c → H r (o + k) = f k
abbrev RMl := RMb
theorem RMb_fr {T : wq_T} {H H' : wq_H} {l : List (Nat × Nat)} {r o : Nat} {c : Int} {f : Nat → Int} (hW : WT T H) (g : T.2.2.2 r = some 46) (f0 : wfr l T H H') (x : wno l 46 (fun _ => true) = true) (h : RMb T H r o c f) : RMb T H' r o c f := fun k hk => (wno_f f0 g x rfl).trans (h k hk)
theorem RMl_fr {T : wq_T} {H H' : wq_H} {l : List (Nat × Nat)} {r o : Nat} {c : Int} {f : Nat → Int} (hW : WT T H) (g : T.2.2.2 r = some 47) (f0 : wfr l T H H') (x : wno l 47 (fun _ => true) = true) (h : RMl T H r o c f) : RMl T H' r o c f := fun k hk => (wno_f f0 g x rfl).trans (h k hk)
