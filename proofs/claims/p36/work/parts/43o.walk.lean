/-! THE WALK (own work): what a LOT's picks bring, person by person -/
theorem hb_t {b : Int} {h : Nat} : hb b h = (b.toNat.testBit h).toNat := (Nat.toNat_testBit b.toNat h).symm
theorem xon_hb {P : Nat → Bool} : ∀ n h : Nat, h < n → xon P n / 2 ^ h % 2 = (P h).toNat
  | 0, h, hh => by omega
  | n + 1, h, hh => by
    have h1 := xon_b n (P := P)
    show (if P n = true then xon P n + 2 ^ n else xon P n) / 2 ^ h % 2 = (P h).toNat
    by_cases e : h = n
    · subst e
      cases c : P h with
      | true =>
        rw [if_pos rfl, Nat.add_div_right _ (Nat.two_pow_pos h), Nat.div_eq_of_lt h1]
        rfl
      | false =>
        rw [if_neg (by decide), Nat.div_eq_of_lt h1]
        rfl
    · have h2 := xon_hb n h (by omega) (P := P)
      have h3 : (2 : Nat) ^ n = 2 ^ h * (2 * 2 ^ (n - h - 1)) := by
        rw [← Nat.pow_succ', ← Nat.pow_add]
        congr 1
        omega
      split
      · rw [h3, Nat.add_mul_div_left _ _ (Nat.two_pow_pos h), Nat.add_mul_mod_self_left]
        exact h2
      · exact h2
theorem xhf_on {a b : Int} : ∀ n : Nat, xhf a b n = ((xon (fun h => decide (a ≤ (h : Int) ∧ (h : Int) < b)) n : Nat) : Int)
  | 0 => rfl
  | n + 1 => by
    have h1 := xhf_on n (a := a) (b := b)
    show xhf a b n + (if a ≤ (n : Int) ∧ (n : Int) < b then 2 ^ n else 0) = ((if decide (a ≤ (n : Int) ∧ (n : Int) < b) = true then xon (fun h => decide (a ≤ (h : Int) ∧ (h : Int) < b)) n + 2 ^ n else xon (fun h => decide (a ≤ (h : Int) ∧ (h : Int) < b)) n : Nat) : Int)
    by_cases c : a ≤ (n : Int) ∧ (n : Int) < b
    · rw [if_pos c, if_pos (decide_eq_true c), h1, Int.natCast_add, Int.natCast_pow]
      rfl
    · rw [if_neg c, if_neg (by rw [decide_eq_false c]; decide), h1, Int.add_zero]
theorem hb_xhs {a b : Int} {h : Nat} (hh : h < 24) : hb (xhs a b) h = if a ≤ (h : Int) ∧ (h : Int) < b then 1 else 0 := by
  unfold hb xhs
  rw [xhf_on, Int.toNat_natCast, xon_hb 24 h hh]
  by_cases c : a ≤ (h : Int) ∧ (h : Int) < b
  · rw [if_pos c, decide_eq_true c]
    rfl
  · rw [if_neg c, decide_eq_false c]
    rfl
/-- a LOT's SPANS -/
def xpt (d : xD) (g : Nat → Int) (k : Nat) : Int × Int := (xsp d k).getD (g k).toNat (0, 0)
def xwb (d : xD) (g : Nat → Int) (k : Nat) : Int := xwk d k (xpt d g k)
def xsb (d : xD) (g : Nat → Int) (k : Nat) : Int := xas d k (xpt d g k)
def xbn (f : Nat → Int) (h : Nat) : Nat → Nat
  | 0 => 0
  | n + 1 => xbn f h n + (if f n ≤ (h : Int) then 1 else 0)
/-- how many are awake at an HOUR, of the births and the first people -/
def xct (d : xD) (g : Nat → Int) (h : Nat) : Nat → Nat
  | 0 => xbn (d 12) h (d 0 5).toNat
  | k + 1 => xct d g h k + hb (xwb d g k) h
def xdue (d : xD) (g : Nat → Int) (h : Nat) : Nat := xct d g h (d 0 3).toNat
def xer (d : xD) (g : Nat → Int) : Nat → Int := fun k => ((tal (fun h => xct d g h k) 12 : Nat) : Int)
def xla (d : xD) (g : Nat → Int) : Nat → Int := fun k => ((tal (fun h => xct d g (h + 12) k) 12 : Nat) : Int)
def xbf (f : Nat → Int) : Nat → Int
  | 0 => 0
  | n + 1 => wq_or (xbf f n) (xhs (f n) 24)
/-- the HOURS that are filled; those with a quarrel -/
def xfl (d : xD) (g : Nat → Int) : Nat → Int
  | 0 => xbf (d 12) (d 0 5).toNat
  | k + 1 => wq_or (xfl d g k) (xwb d g k)
def xqo (d : xD) (g : Nat → Int) (i : Nat) : Nat → Int
  | 0 => 0
  | j + 1 => if xagf d i j (d 0 4).toNat = 0 then xqo d g i j else wq_or (xqo d g i j) (wq_and (xsb d g i) (xsb d g j))
def xqu (d : xD) (g : Nat → Int) : Nat → Int
  | 0 => 0
  | i + 1 => wq_or (xqu d g i) (xqo d g i i)
/-- a SPAN for each person -/
def SG (d : xD) (g : Nat → Int) : Prop := ∀ k : Nat, (k : Int) < d 0 3 → 0 ≤ g k ∧ (g k = 0 ∨ g k < (xsp d k).length)
def SL (d : xD) (g : Nat → Int) : Prop := ∀ k : Nat, (k : Int) < d 0 3 → 0 ≤ g k ∧ g k < (xsp d k).length
section WALK

variable {d : xD} {g : Nat → Int} {k n h i j : Nat} {x : Int × Int} {v w z : Int}
theorem xal_b : 0 ≤ xal d ∧ xal d ≤ 16777215 := xhs_b
theorem xwk_b : 0 ≤ xwk d k x ∧ xwk d k x ≤ 16777215 := by
  unfold xwk
  split
  · omega
  · have h1 := @xal_b d
    rw [wq_and_c]
    have h2 := wq_and_b (wq_xor (xsl d k x.1 x.2) (-1)) h1.1 (by omega)
    omega
theorem xwb_b : 0 ≤ xwb d g k ∧ xwb d g k ≤ 16777215 := xwk_b
theorem xbf_b {f : Nat → Int} : ∀ n : Nat, 0 ≤ xbf f n ∧ xbf f n ≤ 16777215
  | 0 => ⟨Int.le_refl _, by show (0 : Int) ≤ 16777215; decide⟩
  | n + 1 => wq_or_24 (xbf_b n) xhs_b
theorem xfl_b : ∀ k : Nat, 0 ≤ xfl d g k ∧ xfl d g k ≤ 16777215
  | 0 => xbf_b _
  | k + 1 => wq_or_24 (xfl_b k) xwb_b
theorem or_t {a b : Int} (ha : 0 ≤ a ∧ a ≤ 16777215) (hb : 0 ≤ b ∧ b ≤ 16777215) : (wq_or a b).toNat.testBit h = (a.toNat.testBit h || b.toNat.testBit h) := by
  rw [wq_or_n ⟨ha.1, by omega⟩ ⟨hb.1, by omega⟩, Int.toNat_natCast, Nat.testBit_or]
/-- no two that are told apart are one -/
def XN (d : xD) : Prop := ∀ k : Nat, (k : Int) < d 0 4 → 0 ≤ d 10 k ∧ d 10 k < d 0 3 ∧ 0 ≤ d 11 k ∧ d 11 k < d 0 3 ∧ d 10 k ≠ d 11 k
end WALK
/-- where a WALK stands: its picks, the tallies of so many people -/
abbrev WP0 := DA 0 7
abbrev WP1 := DA 1 8
abbrev WP2 := DA 2 9
abbrev WP3 := DA 3 10
abbrev WP4 := DA 4 11
def WR (T : wq_T) (H : wq_H) (w : Nat) (d : xD) (g : Nat → Int) : Prop := H w 5 = d 0 3 ∧ WP0 T H w (d 0 3) g ∧ WP1 T H w (d 0 3 + 1) (xer d g) ∧ WP2 T H w (d 0 3 + 1) (xla d g) ∧ WP3 T H w (d 0 3 + 1) (xfl d g) ∧ WP4 T H w (d 0 3 + 1) (xqu d g)
def WRx (l : List (Nat × Nat)) : Bool := wno l 6 (fun _ => true) && wno l 7 (fun _ => true) && wno l 8 (fun _ => true) && wno l 9 (fun _ => true) && wno l 10 (fun _ => true) && wno l 11 (fun _ => true)
section WREL

variable {T : wq_T} {H H' : wq_H} {l : List (Nat × Nat)} {w : Nat} {c : Int} {f g : Nat → Int} {d : xD}
theorem WR_fr (hW : WT T H) (gw : T.2.2.2 w = some 6) (f0 : wfr l T H H') (x : WRx l = true) (h : WR T H w d g) : WR T H' w d g := by
  unfold WRx at x
  simp only [Bool.and_eq_true] at x
  obtain ⟨⟨⟨⟨⟨x6, x7⟩, x8⟩, x9⟩, x10⟩, x11⟩ := x
  obtain ⟨h1, h2, h3, h4, h5, h6⟩ := h
  exact ⟨(wno_f f0 gw x6 (j := 5) rfl).trans h1, DAo_fr gw f0 (DA_w x6 rfl x7) h2, DAo_fr gw f0 (DA_w x6 rfl x8) h3, DAo_fr gw f0 (DA_w x6 rfl x9) h4, DAo_fr gw f0 (DA_w x6 rfl x10) h5, DAo_fr gw f0 (DA_w x6 rfl x11) h6⟩
end WREL

section WALK2

variable {T : wq_T} {H H' : wq_H} {l : List (Nat × Nat)} {r b o S tg w k n i : Nat} {c v x y z a a' b' q : Int} {f f' g : Nat → Int} {d e : xD}
end WALK2
/-- a row of picks of the reference -/
def RR (T : wq_T) (H : wq_H) (r : Nat) (c : Int) (f : Nat → Int) : Prop := (T.2.2.2 r = some 50 ∨ T.2.2.2 r = some 51) ∧ ∀ k : Nat, (k : Int) < c → H r k = f k
section RROW

variable {T : wq_T} {H H' : wq_H} {l : List (Nat × Nat)} {r b k t m mp : Nat} {c c' : Int} {f : Nat → Int} {d e : xD}
theorem RR_27 (h : LQ27 T H m 0 c f) (e0 : H m 27 = (b : Int)) (gb : T.2.2.2 b = some 51) (hc : c' = c) : RR T H b c' f :=
  ⟨Or.inr gb, fun k hk => LR_at h e0 (by omega) (by omega)⟩
end RROW
