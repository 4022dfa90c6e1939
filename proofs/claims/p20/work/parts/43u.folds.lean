/-! FOLDS OVER WORLDS (own work): what is counted, summed, sought over them; what a LOT weighs -/
def xwf (e d : xD) : Nat → Int := fun n => xwo e d (xlot d n)
section XWF

variable {e d : xD} {g : Nat → Int} {v : Int}
theorem xwo_b : 0 ≤ xwo e d g ∧ xwo e d g ≤ 1 := by
  unfold xwo
  split <;> omega
theorem xwf_v (h0 : 0 ≤ v) : xwf e d v.toNat = xwo e d (xlot d v) := by
  unfold xwf
  rw [Int.toNat_of_nonneg h0]
theorem xcw_s (h0 : 0 ≤ v) : xcn (xwf e d) (v + 1).toNat = xcn (xwf e d) v.toNat + xwo e d (xlot d v) := by
  have h1 := @xwo_b e d (xlot d v)
  rw [show (v + 1).toNat = v.toNat + 1 by omega]
  show xcn (xwf e d) v.toNat + (if xwf e d v.toNat > 0 then 1 else 0) = _
  rw [xwf_v h0]
  split <;> omega
end XWF
def wfd {α : Type} (f : Nat → Int) (s : Nat → α → α) (a : α) : Nat → α
  | 0 => a
  | n + 1 => if f n > 0 then s n (wfd f s a n) else wfd f s a n
section FOLD

variable {α : Type} {f : Nat → Int} {s s' : Nat → α → α} {a : α} {n u h : Nat}
theorem wfd_y (hf : f n > 0) : wfd f s a (n + 1) = s n (wfd f s a n) := if_pos hf
theorem wfd_n (hf : f n ≤ 0) : wfd f s a (n + 1) = wfd f s a n := if_neg (by omega)
end FOLD
/-- the weight of a SPAN that begins at b, by a habit -/
def xwe (h b : Int) : Int := if h = -1 then 1 else if 9 ≤ b - h ∨ b - h ≤ -9 then 1 else if 0 ≤ b - h then 10 - (b - h) else 10 + (b - h)
def xlw (d : xD) (g : Nat → Int) : Nat → Int
  | 0 => 1
  | k + 1 => xlw d g k * xwe (d 6 k) (xpt d g k).1
def xlW (d : xD) (n : Nat) : Int := xlw d (xlot d n) (d 0 3).toNat
def pw10 : Nat → Int
  | 0 => 1
  | k + 1 => pw10 k * 10
/-- of the first LOTS: all weights, the greatest and where it stands first -/
def xsW (e d : xD) (N : Nat) : Int := wfd (xwf e d) (fun n x => x + xlW d n) 0 N
def xbW (e d : xD) (N : Nat) : Int × Int := wfd (xwf e d) (fun n p => if xlW d n > p.1 then (xlW d n, (n : Int)) else p) (0, 0) N
section WEIGH

variable {d e : xD} {g : Nat → Int} {h b z x y v : Int} {k n N : Nat}
theorem xwe_e (q : (h = -1 ∧ z = 1) ∨ (h ≠ -1 ∧ ((z = 1 ∧ (9 ≤ b - h ∨ b - h ≤ -9)) ∨ (b - h ≤ 8 ∧ -8 ≤ b - h ∧ ((0 ≤ b - h ∧ z = 10 - (b - h)) ∨ (b - h < 0 ∧ z = 10 + (b - h))))))) : z = xwe h b := by
  unfold xwe
  split
  · omega
  · split
    · omega
    · split <;> omega
theorem xwe_b : 1 ≤ xwe h b ∧ xwe h b ≤ 10 := by
  unfold xwe
  split
  · omega
  · split
    · omega
    · split <;> omega
theorem mul_10 (hx : 1 ≤ x ∧ x ≤ y) (hz : 1 ≤ z ∧ z ≤ 10) : 1 ≤ x * z ∧ x * z ≤ y * 10 := by
  have h1 : 1 * 1 ≤ x * z := Int.mul_le_mul hx.1 hz.1 (by decide) (by omega)
  have h2 : x * z ≤ y * 10 := Int.mul_le_mul hx.2 hz.2 (by omega) (by omega)
  omega
theorem xlw_b : ∀ k : Nat, 1 ≤ xlw d g k ∧ xlw d g k ≤ pw10 k
  | 0 => ⟨by show (1 : Int) ≤ 1; decide, by show (1 : Int) ≤ 1; decide⟩
  | k + 1 => mul_10 (xlw_b k) xwe_b
theorem pw10_6 : ∀ {k : Nat}, k ≤ 6 → pw10 k ≤ 1000000 := by
  intro k hk
  have h := List.all_eq_true.mp (show (List.range 7).all (fun k => decide (pw10 k ≤ 1000000)) = true by decide) k (List.mem_range.mpr (by omega))
  exact of_decide_eq_true h
theorem xlw_6 (hk : k ≤ 6) : 1 ≤ xlw d g k ∧ xlw d g k ≤ 1000000 := by
  have h1 := @xlw_b d g k
  have h2 := pw10_6 hk
  omega
/-- one more person's -/
theorem xlw_s {w : Int} (hk : k < 6) (hx : x = xlw d g k) (hz : z = xwe (d 6 k) (xpt d g k).1) (hv : (-9223372036854775808 ≤ x * z ∧ x * z ≤ 9223372036854775807) → v = x * z) : v = xlw d g (k + 1) := by
  have h1 := @xlw_6 d g k (by omega)
  have h2 := @xwe_b (d 6 k) (xpt d g k).1
  have h3 := mul_10 (x := x) (y := 1000000) (z := z) (by omega) (by omega)
  rw [hv (by omega), hx, hz]
  rfl
theorem xlW_b (h3 : d 0 3 ≤ 6) : 1 ≤ xlW d n ∧ xlW d n ≤ 1000000 := xlw_6 (by omega)
theorem xsW_b (h3 : d 0 3 ≤ 6) : ∀ N : Nat, 0 ≤ xsW e d N ∧ xsW e d N ≤ 1000000 * N
  | 0 => ⟨Int.le_refl _, by show (0 : Int) ≤ 1000000 * ((0 : Nat) : Int); decide⟩
  | N + 1 => by
    have h1 := xsW_b h3 N
    have h2 := @xlW_b d N h3
    have e1 : xsW e d (N + 1) = if xwf e d N > 0 then xsW e d N + xlW d N else xsW e d N := rfl
    rw [e1]
    split <;> omega
theorem xsW_y (hf : xwf e d N > 0) : xsW e d (N + 1) = xsW e d N + xlW d N := wfd_y hf
theorem xsW_n (hf : xwf e d N ≤ 0) : xsW e d (N + 1) = xsW e d N := wfd_n hf
theorem xbW_y (hf : xwf e d N > 0) : xbW e d (N + 1) = if xlW d N > (xbW e d N).1 then (xlW d N, (N : Int)) else xbW e d N := wfd_y hf
theorem xbW_n (hf : xwf e d N ≤ 0) : xbW e d (N + 1) = xbW e d N := wfd_n hf
theorem xbW_b (h3 : d 0 3 ≤ 6) : ∀ N : Nat, 0 ≤ (xbW e d N).1 ∧ (xbW e d N).1 ≤ 1000000 ∧ 0 ≤ (xbW e d N).2 ∧ (xbW e d N).2 ≤ N
  | 0 => ⟨Int.le_refl _, by show (0 : Int) ≤ 1000000; decide, Int.le_refl _, Int.le_refl _⟩
  | N + 1 => by
    have h1 := xbW_b h3 N
    have h2 := @xlW_b d N h3
    by_cases c : xwf e d N > 0
    · rw [xbW_y c]
      split
      · exact ⟨by show 0 ≤ xlW d N; omega, by show xlW d N ≤ 1000000; omega, by show (0 : Int) ≤ (N : Int); omega, by show (N : Int) ≤ ((N + 1 : Nat) : Int); omega⟩
      · omega
    · rw [xbW_n (by omega)]
      omega
end WEIGH
/-- the marks of WORLDS -/
def CEM (T : wq_T) (H : wq_H) (ce : Nat) (f : Nat → Int) (N : Nat) : Prop := ∃ b : Nat, H ce 0 = (b : Int) ∧ T.2.2.2 b = some 13 ∧ ∀ n : Nat, n < 20000 → wl_and (wl_shr (H b (n / 64)) ((n % 64 : Nat) : Int)) 1 = if n < N ∧ f n > 0 then 1 else 0
def CEMx (l : List (Nat × Nat)) : Bool := wno l 12 (fun j => decide (j = 0)) && wno l 13 (fun _ => true)
section MARK

variable {T : wq_T} {H H' : wq_H} {l : List (Nat × Nat)} {ce b s n N : Nat} {f : Nat → Int} {v w : Int}
theorem CEM_fr (hW : WT T H) (g : T.2.2.2 ce = some 12) (f0 : wfr l T H H') (x : CEMx l = true) (h : CEM T H ce f N) : CEM T H' ce f N := by
  unfold CEMx at x
  rw [Bool.and_eq_true] at x
  obtain ⟨b, h1, h2, h3⟩ := h
  exact ⟨b, (wno_f f0 g x.1 (j := 0) rfl).trans h1, h2, fun n hn => by rw [wno_f f0 h2 x.2 rfl]; exact h3 n hn⟩
theorem CEM_put (h : CEM T H ce f N) (e0 : H ce 0 = (b : Int)) (gc : T.2.2.2 ce = some 12) (gb : T.2.2.2 b = some 13) (e : H' = wq_u H b s v) (hs : s = N / 64) (hv : v = wl_or (H b s) w) (hw : w = wl_shl 1 ((N % 64 : Nat) : Int)) (hf : f N > 0) : CEM T H' ce f (N + 1) := by
  obtain ⟨b', h1, h2, h3⟩ := h
  have hb : b' = b := by omega
  subst hb
  refine ⟨b', ?_, h2, fun n hn => ?_⟩
  · rw [e, wq_u_na (fun q => ?_)]
    · exact h1
    · subst q
      rw [gc] at gb
      cases gb
  · have h4 := h3 n hn
    by_cases c : n / 64 = s
    · rw [e, c, wq_u_eq, hv, hw, wl_mark (Nat.mod_lt _ (by decide)) (Nat.mod_lt _ (by decide))]
      rw [c] at h4
      by_cases c2 : n % 64 = N % 64
      · have : n = N := by omega
        subst this
        rw [if_pos rfl, if_pos ⟨by omega, hf⟩]
      · rw [if_neg c2, h4]
        by_cases c3 : n < N ∧ f n > 0
        · rw [if_pos c3, if_pos ⟨by omega, c3.2⟩]
        · rw [if_neg c3, if_neg (fun q => c3 ⟨by have : n ≠ N := fun r => c2 (by rw [r]); omega, q.2⟩)]
    · rw [e, wq_u_ne (fun q => c q.2), h4]
      by_cases c3 : n < N ∧ f n > 0
      · rw [if_pos c3, if_pos ⟨by omega, c3.2⟩]
      · rw [if_neg c3, if_neg (fun q => c3 ⟨by have : n ≠ N := fun r => c (by rw [hs, r]); omega, q.2⟩)]
theorem CEM_n (hf : f N ≤ 0) (h : CEM T H ce f N) : CEM T H ce f (N + 1) := by
  obtain ⟨b, h1, h2, h3⟩ := h
  refine ⟨b, h1, h2, fun n hn => ?_⟩
  rw [h3 n hn]
  by_cases c3 : n < N ∧ f n > 0
  · rw [if_pos c3, if_pos ⟨by omega, c3.2⟩]
  · rw [if_neg c3, if_neg (fun q => c3 ⟨by have : n ≠ N := fun r => by subst r; omega
                                           omega, q.2⟩)]
theorem CEM_0 (e0 : H ce 0 = (b : Int)) (gb : T.2.2.2 b = some 13) (hz : ∀ j : Nat, (j : Int) < 313 → H b j = 0) : CEM T H ce f 0 := by
  refine ⟨b, e0, gb, fun n hn => ?_⟩
  rw [hz (n / 64) (by omega), if_neg (fun q => by omega)]
  have h := List.all_eq_true.mp (show (List.range 64).all (fun k => decide (wl_and (wl_shr 0 (k : Nat)) 1 = 0)) = true by decide +kernel) (n % 64) (List.mem_range.mpr (Nat.mod_lt _ (by decide)))
  exact of_decide_eq_true h
end MARK
abbrev CM0 := DA 0 13
theorem CEM_0d {T : wq_T} {H : wq_H} {ce : Nat} {f : Nat → Int} {c : Int} (h : CM0 T H ce c (fun _ => 0)) (hc : c = 313) : CEM T H ce f 0 := by
  obtain ⟨b, h1, h2, h3⟩ := h
  exact CEM_0 h1 h2 (fun j hj => h3 j (by omega))
