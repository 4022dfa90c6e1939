theorem hb_sh {b : Int} {h : Nat} (hx : 0 ≤ b ∧ b ≤ 2147483647) : hb (wq_shr b 12) h = hb b (h + 12) := by
  have e : wq_shr b ((12 : Nat) : Int) = _ := wq_shr_n hx (by decide)
  have e : wq_shr b 12 = ((b.toNat / 2 ^ 12 : Nat) : Int) := e
  unfold hb
  rw [e, Int.toNat_natCast, Nat.div_div_eq_div_mul, ← Nat.pow_add, Nat.add_comm]
theorem xon_hb {P : Nat → Bool} : ∀ n h : Nat, h < n → xon P n / 2 ^ h % 2 = (P h).toNat
  | 0, h, hh => by omega
  | n + 1, h, hh => by
    have h1 := xon_b n (P := P)
    show (if P n = true then xon P n + 2 ^ n else xon P n) / 2 ^ h % 2 = (P h).toNat
    by_cases e : h = n
    · subst e
      cases c : P h with
      | true =>
        rw [if_pos rfl, Nat.add_div_right _ (Nat.two_pow_pos h), Nat.div_eq_of_lt h1]
        rfl
      | false =>
        rw [if_neg (by decide), Nat.div_eq_of_lt h1]
        rfl
    · have h2 := xon_hb n h (by omega) (P := P)
      have h3 : (2 : Nat) ^ n = 2 ^ h * (2 * 2 ^ (n - h - 1)) := by
        rw [← Nat.pow_succ', ← Nat.pow_add]
        congr 1
        omega
      split
      · rw [h3, Nat.add_mul_div_left _ _ (Nat.two_pow_pos h), Nat.add_mul_mod_self_left]
        exact h2
      · exact h2
theorem xhf_on {a b : Int} : ∀ n : Nat, xhf a b n = ((xon (fun h => decide (a ≤ (h : Int) ∧ (h : Int) < b)) n : Nat) : Int)
  | 0 => rfl
  | n + 1 => by
    have h1 := xhf_on n (a := a) (b := b)
    show xhf a b n + (if a ≤ (n : Int) ∧ (n : Int) < b then 2 ^ n else 0) = ((if decide (a ≤ (n : Int) ∧ (n : Int) < b) = true then xon (fun h => decide (a ≤ (h : Int) ∧ (h : Int) < b)) n + 2 ^ n else xon (fun h => decide (a ≤ (h : Int) ∧ (h : Int) < b)) n : Nat) : Int)
    by_cases c : a ≤ (n : Int) ∧ (n : Int) < b
    · rw [if_pos c, if_pos (decide_eq_true c), h1, Int.natCast_add, Int.natCast_pow]
      rfl
    · rw [if_neg c, if_neg (by rw [decide_eq_false c]; decide), h1, Int.add_zero]
theorem hb_xhs {a b : Int} {h : Nat} (hh : h < 24) : hb (xhs a b) h = if a ≤ (h : Int) ∧ (h : Int) < b then 1 else 0 := by
  unfold hb xhs
  rw [xhf_on, Int.toNat_natCast, xon_hb 24 h hh]
  by_cases c : a ≤ (h : Int) ∧ (h : Int) < b
  · rw [if_pos c, decide_eq_true c]
    rfl
  · rw [if_neg c, decide_eq_false c]
    rfl
/-- a LOT's SPANS -/
def xpt (d : xD) (g : Nat → Int) (k : Nat) : Int × Int := (xsp d k).getD (g k).toNat (0, 0)
def xwb (d : xD) (g : Nat → Int) (k : Nat) : Int := xwk d k (xpt d g k)
def xsb (d : xD) (g : Nat → Int) (k : Nat) : Int := xas d k (xpt d g k)
def xbn (f : Nat → Int) (h : Nat) : Nat → Nat
  | 0 => 0
  | n + 1 => xbn f h n + (if f n ≤ (h : Int) then 1 else 0)
/-- how many are awake at an HOUR, of the births and the first people -/
def xct (d : xD) (g : Nat → Int) (h : Nat) : Nat → Nat
  | 0 => xbn (d 12) h (d 0 5).toNat
  | k + 1 => xct d g h k + hb (xwb d g k) h
def xdue (d : xD) (g : Nat → Int) (h : Nat) : Nat := xct d g h (d 0 3).toNat
def xbe (d : xD) : Nat → Int := fun n => ((tal (fun h => xbn (d 12) h n) 12 : Nat) : Int)
def xbl (d : xD) : Nat → Int := fun n => ((tal (fun h => xbn (d 12) (h + 12) n) 12 : Nat) : Int)
def xer (d : xD) (g : Nat → Int) : Nat → Int := fun k => ((tal (fun h => xct d g h k) 12 : Nat) : Int)
def xla (d : xD) (g : Nat → Int) : Nat → Int := fun k => ((tal (fun h => xct d g (h + 12) k) 12 : Nat) : Int)
def xbf (f : Nat → Int) : Nat → Int
  | 0 => 0
  | n + 1 => wq_or (xbf f n) (xhs (f n) 24)
/-- the HOURS that are filled; those with a quarrel -/
def xfl (d : xD) (g : Nat → Int) : Nat → Int
  | 0 => xbf (d 12) (d 0 5).toNat
  | k + 1 => wq_or (xfl d g k) (xwb d g k)
def xqo (d : xD) (g : Nat → Int) (i : Nat) : Nat → Int
  | 0 => 0
  | j + 1 => if xagf d i j (d 0 4).toNat = 0 then xqo d g i j else wq_or (xqo d g i j) (wq_and (xsb d g i) (xsb d g j))
def xqu (d : xD) (g : Nat → Int) : Nat → Int
  | 0 => 0
  | i + 1 => wq_or (xqu d g i) (xqo d g i i)
def xpq (d : xD) (g : Nat → Int) : Nat → Int
  | 0 => 0
  | k + 1 => wq_or (xpq d g k) (wq_and (xsb d g (d 10 k).toNat) (xsb d g (d 11 k).toNat))
/-- a SPAN for each person -/
def SG (d : xD) (g : Nat → Int) : Prop := ∀ k : Nat, (k : Int) < d 0 3 → 0 ≤ g k ∧ (g k = 0 ∨ g k < (xsp d k).length)
def SL (d : xD) (g : Nat → Int) : Prop := ∀ k : Nat, (k : Int) < d 0 3 → 0 ≤ g k ∧ g k < (xsp d k).length
section WALK

variable {d : xD} {g : Nat → Int} {k n h i j : Nat} {x : Int × Int} {v w z : Int}
theorem xal_b : 0 ≤ xal d ∧ xal d ≤ 16777215 := xhs_b
theorem xsl_b {b l : Int} : 0 ≤ xsl d k b l ∧ xsl d k b l ≤ 16777215 := by
  have h1 := @xal_b d
  have h2 := wq_and_b (wq_or (xhs b (b + l)) (xhs (d 7 k) (d 8 k))) h1.1 (by omega)
  unfold xsl
  omega
theorem xas_b : 0 ≤ xas d k x ∧ xas d k x ≤ 16777215 := by
  unfold xas
  split
  · omega
  · exact xsl_b
theorem xwk_b : 0 ≤ xwk d k x ∧ xwk d k x ≤ 16777215 := by
  unfold xwk
  split
  · omega
  · have h1 := @xal_b d
    rw [wq_and_c]
    have h2 := wq_and_b (wq_xor (xsl d k x.1 x.2) (-1)) h1.1 (by omega)
    omega
theorem xwb_b : 0 ≤ xwb d g k ∧ xwb d g k ≤ 16777215 := xwk_b
theorem xsb_b : 0 ≤ xsb d g k ∧ xsb d g k ≤ 16777215 := xas_b
theorem xbn_b {f : Nat → Int} : ∀ n : Nat, xbn f h n ≤ n
  | 0 => Nat.le_refl _
  | n + 1 => by
    have h1 := xbn_b n (f := f)
    show xbn f h n + (if f n ≤ (h : Int) then 1 else 0) ≤ n + 1
    split <;> omega
theorem xct_b : ∀ k : Nat, xct d g h k ≤ (d 0 5).toNat + k
  | 0 => xbn_b _
  | k + 1 => by
    have h1 := xct_b k
    have h2 := @hb_b (xwb d g k) h
    show xct d g h k + hb (xwb d g k) h ≤ (d 0 5).toNat + (k + 1)
    omega
theorem xer_b (h5 : d 0 5 ≤ 3) (hk : k ≤ 6) : 0 ≤ xer d g k ∧ xer d g k < 281474976710656 := by
  have h1 := tal_b 12 (f := fun h => xct d g h k) (fun h _ => by have := @xct_b d g h k; omega)
  have h4 : (2 : Nat) ^ (4 * 12) = 281474976710656 := by decide
  unfold xer
  omega
theorem xla_b (h5 : d 0 5 ≤ 3) (hk : k ≤ 6) : 0 ≤ xla d g k ∧ xla d g k < 281474976710656 := by
  have h1 := tal_b 12 (f := fun h => xct d g (h + 12) k) (fun h _ => by have := @xct_b d g (h + 12) k; omega)
  have h4 : (2 : Nat) ^ (4 * 12) = 281474976710656 := by decide
  unfold xla
  omega
theorem xbe_b (hn : n ≤ 3) : 0 ≤ xbe d n ∧ xbe d n < 281474976710656 := by
  have h1 := tal_b 12 (f := fun h => xbn (d 12) h n) (fun h _ => by have := @xbn_b h (d 12) n; omega)
  have h4 : (2 : Nat) ^ (4 * 12) = 281474976710656 := by decide
  unfold xbe
  omega
theorem xbl_b (hn : n ≤ 3) : 0 ≤ xbl d n ∧ xbl d n < 281474976710656 := by
  have h1 := tal_b 12 (f := fun h => xbn (d 12) (h + 12) n) (fun h _ => by have := @xbn_b (h + 12) (d 12) n; omega)
  have h4 : (2 : Nat) ^ (4 * 12) = 281474976710656 := by decide
  unfold xbl
  omega
theorem xtal_b {b : Int} (hx : 0 ≤ b ∧ b ≤ 16777215) : xtal b 12 = ((tal (hb b) 12 : Nat) : Int) ∧ 0 ≤ xtal b 12 ∧ xtal b 12 < 281474976710656 := by
  have h1 := xtal_e (b := b) ⟨hx.1, by omega⟩ 12 (Nat.le_refl _)
  have h2 := tal_b 12 (f := hb b) (fun h _ => Nat.le_trans (@hb_b b h) (by decide))
  have h4 : (2 : Nat) ^ (4 * 12) = 281474976710656 := by decide
  omega
theorem shr12_b {b : Int} (hx : 0 ≤ b ∧ b ≤ 16777215) : 0 ≤ wq_shr b 12 ∧ wq_shr b 12 ≤ 16777215 := by
  have e : wq_shr b ((12 : Nat) : Int) = _ := wq_shr_n ⟨hx.1, by omega⟩ (by decide)
  have e : wq_shr b 12 = ((b.toNat / 2 ^ 12 : Nat) : Int) := e
  have := Nat.div_le_self b.toNat (2 ^ 12)
  omega
/-- one more person -/
theorem xer_s : xer d g (k + 1) = xer d g k + xtal (xwb d g k) 12 := by
  have h : tal (fun h => xct d g h k) 12 + tal (hb (xwb d g k)) 12 = tal (fun h => xct d g h (k + 1)) 12 := tal_add 12
  have h1 := (xtal_b (@xwb_b d g k)).1
  unfold xer
  omega
theorem xla_s : xla d g (k + 1) = xla d g k + xtal (wq_shr (xwb d g k) 12) 12 := by
  have h0 : tal (fun h => xct d g (h + 12) k) 12 + tal (fun h => hb (xwb d g k) (h + 12)) 12 = tal (fun h => xct d g (h + 12) (k + 1)) 12 := tal_add 12
  have hw := @xwb_b d g k
  have h1 := (xtal_b (shr12_b hw)).1
  have h2 : tal (hb (wq_shr (xwb d g k) 12)) 12 = tal (fun h => hb (xwb d g k) (h + 12)) 12 := tal_cg 12 (fun h _ => hb_sh ⟨hw.1, by omega⟩)
  unfold xla
  omega
/-- one more birth -/
theorem xbe_s : xbe d (n + 1) = xbe d n + xtal (xhs (d 12 n) 24) 12 := by
  have h1 := (xtal_b (@xhs_b (d 12 n) 24)).1
  have h2 : tal (hb (xhs (d 12 n) 24)) 12 = tal (fun h => if d 12 n ≤ (h : Int) then 1 else 0) 12 := tal_cg 12 (fun h hh => by
    rw [hb_xhs (by omega)]
    by_cases c : d 12 n ≤ (h : Int)
    · rw [if_pos c, if_pos ⟨c, by omega⟩]
    · rw [if_neg c, if_neg (fun q => c q.1)])
  have h0 : tal (fun h => xbn (d 12) h n) 12 + tal (fun h => if d 12 n ≤ (h : Int) then 1 else 0) 12 = tal (fun h => xbn (d 12) h (n + 1)) 12 := tal_add 12
  unfold xbe
  omega
theorem xbl_s : xbl d (n + 1) = xbl d n + xtal (wq_shr (xhs (d 12 n) 24) 12) 12 := by
  have hw := @xhs_b (d 12 n) 24
  have h1 := (xtal_b (shr12_b hw)).1
  have h2 : tal (hb (wq_shr (xhs (d 12 n) 24) 12)) 12 = tal (fun h => if d 12 n ≤ ((h + 12 : Nat) : Int) then 1 else 0) 12 := tal_cg 12 (fun h hh => by
    rw [hb_sh ⟨hw.1, by omega⟩, hb_xhs (by omega)]
    by_cases c : d 12 n ≤ ((h + 12 : Nat) : Int)
    · rw [if_pos c, if_pos ⟨c, by omega⟩]
    · rw [if_neg c, if_neg (fun q => c q.1)])
  have h0 : tal (fun h => xbn (d 12) (h + 12) n) 12 + tal (fun h => if d 12 n ≤ ((h + 12 : Nat) : Int) then 1 else 0) 12 = tal (fun h => xbn (d 12) (h + 12) (n + 1)) 12 := tal_add 12
  unfold xbl
  omega
theorem xbe_0 : xbe d 0 = 0 := by
  unfold xbe
  rw [show (fun h => xbn (d 12) h 0) = (fun _ => 0) from rfl, tal_0]
  rfl
theorem xbl_0 : xbl d 0 = 0 := by
  unfold xbl
  rw [show (fun h => xbn (d 12) (h + 12) 0) = (fun _ => 0) from rfl, tal_0]
  rfl
/-- of an HOUR -/
theorem xdue_e {p : Int} (h5 : d 0 5 ≤ 3) (h3 : 0 ≤ d 0 3 ∧ d 0 3 ≤ 6) (hp : 0 ≤ p ∧ p < 12) {V : Int} (e : V = xer d g (d 0 3).toNat) : wq_and (wq_w (wl_shr V (p * 4))) 15 = (xdue d g p.toNat : Int) := by
  have h := tal_due (f := fun h => xct d g h (d 0 3).toNat) (p := p.toNat) (V := V) (by omega) (fun j _ => by have := @xct_b d g j (d 0 3).toNat; omega) e
  rw [Int.toNat_of_nonneg hp.1] at h
  exact h
theorem xdue_l {p : Int} (h5 : d 0 5 ≤ 3) (h3 : 0 ≤ d 0 3 ∧ d 0 3 ≤ 6) (hp : 12 ≤ p ∧ p < 24) {V : Int} (e : V = xla d g (d 0 3).toNat) : wq_and (wq_w (wl_shr V ((p - 12) * 4))) 15 = (xdue d g p.toNat : Int) := by
  have h := tal_due (f := fun h => xct d g (h + 12) (d 0 3).toNat) (p := (p - 12).toNat) (V := V) (by omega) (fun j _ => by have := @xct_b d g (j + 12) (d 0 3).toNat; omega) e
  rw [Int.toNat_of_nonneg (by omega)] at h
  rw [h]
  show ((xct d g ((p - 12).toNat + 12) (d 0 3).toNat : Nat) : Int) = _
  rw [show (p - 12).toNat + 12 = p.toNat by omega]
  rfl
/-- quarrels of one with those ahead -/
theorem xqo_y (e : v = xqo d g i j) (h : xagf d i j (d 0 4).toNat ≠ 0) (hw : w = wq_or v z) (hz : z = wq_and (xsb d g i) (xsb d g j)) : w = xqo d g i (j + 1) := by
  show w = if xagf d i j (d 0 4).toNat = 0 then xqo d g i j else wq_or (xqo d g i j) (wq_and (xsb d g i) (xsb d g j))
  rw [if_neg h, hw, hz, e]
theorem xqo_n (e : v = xqo d g i j) (h : xagf d i j (d 0 4).toNat = 0) : v = xqo d g i (j + 1) := by
  show v = if xagf d i j (d 0 4).toNat = 0 then xqo d g i j else wq_or (xqo d g i j) (wq_and (xsb d g i) (xsb d g j))
  rw [if_pos h]
  exact e
theorem xqo_z : ∀ j : Nat, (∀ j' : Nat, j' < j → xagf d i j' (d 0 4).toNat = 0) → xqo d g i j = 0
  | 0, _ => rfl
  | j + 1, h => by
    show (if xagf d i j (d 0 4).toNat = 0 then xqo d g i j else wq_or (xqo d g i j) (wq_and (xsb d g i) (xsb d g j))) = 0
    rw [if_pos (h j (by omega))]
    exact xqo_z j (fun j' hj => h j' (by omega))
theorem xsb_and : 0 ≤ wq_and (xsb d g i) (xsb d g j) ∧ wq_and (xsb d g i) (xsb d g j) ≤ 16777215 := by
  have h1 := @xsb_b d g i
  have h2 := @xsb_b d g j
  have h3 := wq_and_b (xsb d g i) h2.1 (by omega)
  omega
theorem xqo_b : ∀ j : Nat, 0 ≤ xqo d g i j ∧ xqo d g i j ≤ 16777215
  | 0 => ⟨Int.le_refl _, by show (0 : Int) ≤ 16777215; decide⟩
  | j + 1 => by
    have h1 := xqo_b j
    show 0 ≤ (if xagf d i j (d 0 4).toNat = 0 then xqo d g i j else wq_or (xqo d g i j) (wq_and (xsb d g i) (xsb d g j))) ∧ (if xagf d i j (d 0 4).toNat = 0 then xqo d g i j else wq_or (xqo d g i j) (wq_and (xsb d g i) (xsb d g j))) ≤ 16777215
    split
    · exact h1
    · exact wq_or_24 h1 xsb_and
theorem xqu_b : ∀ i : Nat, 0 ≤ xqu d g i ∧ xqu d g i ≤ 16777215
  | 0 => ⟨Int.le_refl _, by show (0 : Int) ≤ 16777215; decide⟩
  | i + 1 => wq_or_24 (xqu_b i) (xqo_b i)
theorem xpq_b : ∀ k : Nat, 0 ≤ xpq d g k ∧ xpq d g k ≤ 16777215
  | 0 => ⟨Int.le_refl _, by show (0 : Int) ≤ 16777215; decide⟩
  | k + 1 => wq_or_24 (xpq_b k) xsb_and
theorem xbf_b {f : Nat → Int} : ∀ n : Nat, 0 ≤ xbf f n ∧ xbf f n ≤ 16777215
  | 0 => ⟨Int.le_refl _, by show (0 : Int) ≤ 16777215; decide⟩
  | n + 1 => wq_or_24 (xbf_b n) xhs_b
theorem xfl_b : ∀ k : Nat, 0 ≤ xfl d g k ∧ xfl d g k ≤ 16777215
  | 0 => xbf_b _
  | k + 1 => wq_or_24 (xfl_b k) xwb_b
theorem or_t {a b : Int} (ha : 0 ≤ a ∧ a ≤ 16777215) (hb : 0 ≤ b ∧ b ≤ 16777215) : (wq_or a b).toNat.testBit h = (a.toNat.testBit h || b.toNat.testBit h) := by
  rw [wq_or_n ⟨ha.1, by omega⟩ ⟨hb.1, by omega⟩, Int.toNat_natCast, Nat.testBit_or]
theorem and_t {a b : Int} (ha : 0 ≤ a ∧ a ≤ 16777215) (hb : 0 ≤ b ∧ b ≤ 16777215) : (wq_and a b).toNat.testBit h = (a.toNat.testBit h && b.toNat.testBit h) := by
  rw [wq_and_n ⟨ha.1, by omega⟩ ⟨hb.1, by omega⟩, Int.toNat_natCast, Nat.testBit_and]
/-- both asleep -/
def xbt (d : xD) (g : Nat → Int) (h i j : Nat) : Prop := (xsb d g i).toNat.testBit h = true ∧ (xsb d g j).toNat.testBit h = true
theorem xsb_t : (wq_and (xsb d g i) (xsb d g j)).toNat.testBit h = true ↔ xbt d g h i j := by
  rw [and_t xsb_b xsb_b, Bool.and_eq_true]
  exact Iff.rfl
theorem xqo_t : ∀ j : Nat, (xqo d g i j).toNat.testBit h = true ↔ ∃ j' : Nat, j' < j ∧ xagf d i j' (d 0 4).toNat ≠ 0 ∧ xbt d g h i j'
  | 0 => by
    constructor
    · intro q
      have : (0 : Nat).testBit h = true := q
      rw [Nat.zero_testBit] at this
      cases this
    · rintro ⟨j', h1, -⟩
      omega
  | j + 1 => by
    have ih := xqo_t j
    have hb := @xqo_b d g i j
    have e : xqo d g i (j + 1) = if xagf d i j (d 0 4).toNat = 0 then xqo d g i j else wq_or (xqo d g i j) (wq_and (xsb d g i) (xsb d g j)) := rfl
    rw [e]
    by_cases c : xagf d i j (d 0 4).toNat = 0
    · rw [if_pos c, ih]
      constructor
      · rintro ⟨j', h1, h2⟩
        exact ⟨j', by omega, h2⟩
      · rintro ⟨j', h1, h2, h3⟩
        refine ⟨j', ?_, h2, h3⟩
        by_cases q : j' = j
        · subst q
          exact absurd c h2
        · omega
    · rw [if_neg c, or_t hb xsb_and, Bool.or_eq_true, ih, xsb_t]
      constructor
      · rintro (⟨j', h1, h2⟩ | h1)
        · exact ⟨j', by omega, h2⟩
        · exact ⟨j, by omega, c, h1⟩
      · rintro ⟨j', h1, h2, h3⟩
        by_cases q : j' = j
        · subst q
          exact Or.inr h3
        · exact Or.inl ⟨j', by omega, h2, h3⟩
theorem xqu_t : ∀ n : Nat, (xqu d g n).toNat.testBit h = true ↔ ∃ i j : Nat, i < n ∧ j < i ∧ xagf d i j (d 0 4).toNat ≠ 0 ∧ xbt d g h i j
  | 0 => by
    constructor
    · intro q
      have : (0 : Nat).testBit h = true := q
      rw [Nat.zero_testBit] at this
      cases this
    · rintro ⟨i, j, h1, -⟩
      omega
  | n + 1 => by
    have ih := xqu_t n
    have e : xqu d g (n + 1) = wq_or (xqu d g n) (xqo d g n n) := rfl
    rw [e, or_t (xqu_b n) (xqo_b n), Bool.or_eq_true, ih, xqo_t]
    constructor
    · rintro (⟨i, j, h1, h2⟩ | ⟨j, h1, h2⟩)
      · exact ⟨i, j, by omega, h2⟩
      · exact ⟨n, j, by omega, h1, h2⟩
    · rintro ⟨i, j, h1, h2, h3⟩
      by_cases q : i = n
      · subst q
        exact Or.inr ⟨j, h2, h3⟩
      · exact Or.inl ⟨i, j, by omega, h2, h3⟩
theorem xpq_t : ∀ n : Nat, (xpq d g n).toNat.testBit h = true ↔ ∃ k : Nat, k < n ∧ xbt d g h (d 10 k).toNat (d 11 k).toNat
  | 0 => by
    constructor
    · intro q
      have : (0 : Nat).testBit h = true := q
      rw [Nat.zero_testBit] at this
      cases this
    · rintro ⟨k, h1, -⟩
      omega
  | n + 1 => by
    have ih := xpq_t n
    have e : xpq d g (n + 1) = wq_or (xpq d g n) (wq_and (xsb d g (d 10 n).toNat) (xsb d g (d 11 n).toNat)) := rfl
    rw [e, or_t (xpq_b n) xsb_and, Bool.or_eq_true, ih, xsb_t]
    constructor
    · rintro (⟨k, h1, h2⟩ | h1)
      · exact ⟨k, by omega, h2⟩
      · exact ⟨n, by omega, h1⟩
    · rintro ⟨k, h1, h2⟩
      by_cases q : k = n
      · subst q
        exact Or.inr h2
      · exact Or.inl ⟨k, by omega, h2⟩
theorem xagf_t {a b : Int} : ∀ n : Nat, xagf d a b n ≠ 0 ↔ ∃ k : Nat, k < n ∧ ((d 10 k = a ∧ d 11 k = b) ∨ (d 10 k = b ∧ d 11 k = a))
  | 0 => by
    constructor
    · intro q
      exact absurd rfl q
    · rintro ⟨k, h1, -⟩
      omega
  | n + 1 => by
    have ih := xagf_t n (a := a) (b := b)
    have e : xagf d a b (n + 1) = if (d 10 n = a ∧ d 11 n = b) ∨ (d 10 n = b ∧ d 11 n = a) then 1 else xagf d a b n := rfl
    rw [e]
    by_cases c : (d 10 n = a ∧ d 11 n = b) ∨ (d 10 n = b ∧ d 11 n = a)
    · rw [if_pos c]
      exact ⟨fun _ => ⟨n, by omega, c⟩, fun _ => by decide⟩
    · rw [if_neg c, ih]
      constructor
      · rintro ⟨k, h1, h2⟩
        exact ⟨k, by omega, h2⟩
      · rintro ⟨k, h1, h2⟩
        by_cases q : k = n
        · subst q
          exact absurd h2 c
        · exact ⟨k, by omega, h2⟩
/-- no two that are told apart are one -/
def XN (d : xD) : Prop := ∀ k : Nat, (k : Int) < d 0 4 → 0 ≤ d 10 k ∧ d 10 k < d 0 3 ∧ 0 ≤ d 11 k ∧ d 11 k < d 0 3 ∧ d 10 k ≠ d 11 k
/-- the quarrels of both programs -/
theorem xqu_xpq (hN : XN d) (h4 : 0 ≤ d 0 4) : xqu d g (d 0 3).toNat = xpq d g (d 0 4).toNat := by
  have h1 := @xqu_b d g (d 0 3).toNat
  have h2 := @xpq_b d g (d 0 4).toNat
  have h3 : (xqu d g (d 0 3).toNat).toNat = (xpq d g (d 0 4).toNat).toNat := by
    apply Nat.eq_of_testBit_eq
    intro h
    have a := @xqu_t d g h (d 0 3).toNat
    have b := @xpq_t d g h (d 0 4).toNat
    have c : (xqu d g (d 0 3).toNat).toNat.testBit h = true ↔ (xpq d g (d 0 4).toNat).toNat.testBit h = true := by
      rw [a, b]
      constructor
      · rintro ⟨i, j, q1, q2, q3, q4⟩
        obtain ⟨k, r1, r2⟩ := (xagf_t _).mp q3
        refine ⟨k, r1, ?_⟩
        rcases r2 with ⟨s1, s2⟩ | ⟨s1, s2⟩
        · rw [s1, s2, Int.toNat_natCast, Int.toNat_natCast]
          exact q4
        · rw [s1, s2, Int.toNat_natCast, Int.toNat_natCast]
          exact ⟨q4.2, q4.1⟩
      · rintro ⟨k, q1, q2⟩
        have n1 := hN k (by omega)
        by_cases c : d 11 k < d 0 3 ∧ d 11 k < d 10 k
        · refine ⟨(d 10 k).toNat, (d 11 k).toNat, by omega, by omega, (xagf_t _).mpr ⟨k, q1, Or.inl ⟨by omega, by omega⟩⟩, q2⟩
        · refine ⟨(d 11 k).toNat, (d 10 k).toNat, by omega, by omega, (xagf_t _).mpr ⟨k, q1, Or.inr ⟨by omega, by omega⟩⟩, q2.2, q2.1⟩
    cases e1 : (xqu d g (d 0 3).toNat).toNat.testBit h with
    | true => rw [c.mp e1]
    | false =>
      cases e2 : (xpq d g (d 0 4).toNat).toNat.testBit h with
      | true => rw [c.mpr e2] at e1; cases e1
      | false => rfl
  omega
end WALK
/-- where a WALK stands: its picks, the tallies of so many people -/
abbrev WP0 := DA 0 7
abbrev WP1 := DA 1 8
abbrev WP2 := DA 2 9
abbrev WP3 := DA 3 10
abbrev WP4 := DA 4 11
def WR (T : wq_T) (H : wq_H) (w : Nat) (d : xD) (g : Nat → Int) : Prop := H w 5 = d 0 3 ∧ WP0 T H w (d 0 3) g ∧ WP1 T H w (d 0 3 + 1) (xer d g) ∧ WP2 T H w (d 0 3 + 1) (xla d g) ∧ WP3 T H w (d 0 3 + 1) (xfl d g) ∧ WP4 T H w (d 0 3 + 1) (xqu d g)
def WRx (l : List (Nat × Nat)) : Bool := wno l 6 (fun _ => true) && wno l 7 (fun _ => true) && wno l 8 (fun _ => true) && wno l 9 (fun _ => true) && wno l 10 (fun _ => true) && wno l 11 (fun _ => true)
section WREL

variable {T : wq_T} {H H' : wq_H} {l : List (Nat × Nat)} {w : Nat} {c : Int} {f g : Nat → Int} {d : xD}
theorem WP0_fr (hW : WT T H) (gw : T.2.2.2 w = some 6) (f0 : wfr l T H H') (x : DAw 6 0 7 l = true) (h : WP0 T H w c f) : WP0 T H' w c f := DAo_fr gw f0 x h
theorem WP1_fr (hW : WT T H) (gw : T.2.2.2 w = some 6) (f0 : wfr l T H H') (x : DAw 6 1 8 l = true) (h : WP1 T H w c f) : WP1 T H' w c f := DAo_fr gw f0 x h
theorem WP2_fr (hW : WT T H) (gw : T.2.2.2 w = some 6) (f0 : wfr l T H H') (x : DAw 6 2 9 l = true) (h : WP2 T H w c f) : WP2 T H' w c f := DAo_fr gw f0 x h
theorem WP3_fr (hW : WT T H) (gw : T.2.2.2 w = some 6) (f0 : wfr l T H H') (x : DAw 6 3 10 l = true) (h : WP3 T H w c f) : WP3 T H' w c f := DAo_fr gw f0 x h
theorem WP4_fr (hW : WT T H) (gw : T.2.2.2 w = some 6) (f0 : wfr l T H H') (x : DAw 6 4 11 l = true) (h : WP4 T H w c f) : WP4 T H' w c f := DAo_fr gw f0 x h
theorem WR_fr (hW : WT T H) (gw : T.2.2.2 w = some 6) (f0 : wfr l T H H') (x : WRx l = true) (h : WR T H w d g) : WR T H' w d g := by
  unfold WRx at x
  simp only [Bool.and_eq_true] at x
  obtain ⟨⟨⟨⟨⟨x6, x7⟩, x8⟩, x9⟩, x10⟩, x11⟩ := x
  obtain ⟨h1, h2, h3, h4, h5, h6⟩ := h
  exact ⟨(wno_f f0 gw x6 (j := 5) rfl).trans h1, DAo_fr gw f0 (DA_w x6 rfl x7) h2, DAo_fr gw f0 (DA_w x6 rfl x8) h3, DAo_fr gw f0 (DA_w x6 rfl x9) h4, DAo_fr gw f0 (DA_w x6 rfl x10) h5, DAo_fr gw f0 (DA_w x6 rfl x11) h6⟩
end WREL

section WALK2

variable {T : wq_T} {H H' : wq_H} {l : List (Nat × Nat)} {r b o S tg w k n i : Nat} {c v x y z a a' b' q : Int} {f f' g : Nat → Int} {d e : xD}
theorem DA_first (e0 : H r S = (b : Int)) (gr : T.2.2.2 r = some o) (gb : T.2.2.2 b = some tg) (ne : tg ≠ o) (e : H' = wq_u H b (0 : Int).toNat v) (hv : v = z) : DA S tg T H' r (0 + 1) (fun _ => z) := by
  refine ⟨b, ?_, gb, fun k hk => ?_⟩
  · rw [e, wq_u_na (fun q => ?_)]
    · exact e0
    · subst q
      rw [gr] at gb
      exact ne (Option.some.inj gb).symm
  · have : k = 0 := by omega
    subst this
    rw [e]
    show wq_u H b 0 v b 0 = z
    rw [wq_u_eq, hv]
theorem DA_1 (h : DA S tg T H r (0 + 1) f) (e : f 0 = f' 0) : DA S tg T H r (0 + 1) f' := by
  obtain ⟨b, h1, h2, h3⟩ := h
  refine ⟨b, h1, h2, fun k hk => ?_⟩
  have : k = 0 := by omega
  subst this
  rw [h3 0 hk, e]
theorem WP4_0 (hW : WT T H) (gw : T.2.2.2 w = some 6) : WP4 T H w (0 + 1) (xqu d g) := by
  obtain ⟨b, h1, h2⟩ := hW.ref gw (t' := 11) (n := 6) (j := 4) (p := 0) (q := 0) rfl (by decide) rfl
  refine ⟨b, h1, h2, fun k hk => ?_⟩
  have : k = 0 := by omega
  subst this
  have h3 := hW.box h2 (lo := 0) (hi := 0) (n := 7) (j := 0) rfl (by decide) rfl
  show H b 0 = 0
  omega
theorem xbf_s (e : v = wq_or x y) (hx : x = xbf f n) (hy : y = xhs (f n) 24) : v = xbf f (n + 1) := by
  rw [e, hx, hy]
  rfl
theorem xfl_s (e : v = wq_or x y) (hx : x = xfl d g n) (hy : y = xwb d g n) : v = xfl d g (n + 1) := by
  rw [e, hx, hy]
  rfl
theorem xqu_s (e : v = wq_or x y) (hx : x = xqu d g n) (hy : y = xqo d g n n) : v = xqu d g (n + 1) := by
  rw [e, hx, hy]
  rfl
theorem xand_e (e : y = wq_and a v) (ha : a = a') (hb : v = b') : y = wq_and a' b' := by rw [e, ha, hb]
theorem shr0 : ∀ {j : Nat}, j < 6 → wq_and (wq_shr 0 j) 1 = 0 := by
  intro j hj
  have h := List.all_eq_true.mp (show (List.range 6).all (fun j => decide (wq_and (wq_shr 0 (j : Nat)) 1 = 0)) = true by decide +kernel) j (List.mem_range.mpr hj)
  exact of_decide_eq_true h
theorem xagf_cg (h : ∀ i, i ≠ 13 → e i = d i) : ∀ n : Nat, xagf e a q n = xagf d a q n
  | 0 => rfl
  | n + 1 => by
    show (if (e 10 n = a ∧ e 11 n = q) ∨ (e 10 n = q ∧ e 11 n = a) then 1 else xagf e a q n) = (if (d 10 n = a ∧ d 11 n = q) ∨ (d 10 n = q ∧ d 11 n = a) then 1 else xagf d a q n)
    rw [h 10 (by decide), h 11 (by decide), xagf_cg h n]
end WALK2
/-- a row of picks of the reference -/
def RR (T : wq_T) (H : wq_H) (r : Nat) (c : Int) (f : Nat → Int) : Prop := (T.2.2.2 r = some 50 ∨ T.2.2.2 r = some 51) ∧ ∀ k : Nat, (k : Int) < c → H r k = f k
section RROW

variable {T : wq_T} {H H' : wq_H} {l : List (Nat × Nat)} {r b k t m mp : Nat} {c c' : Int} {f : Nat → Int} {d e : xD}
theorem RR_at (h : RR T H r c f) (hk : (k : Int) < c) : H r k = f k := h.2 k hk
theorem RR_27 (h : LQ27 T H m 0 c f) (e0 : H m 27 = (b : Int)) (gb : T.2.2.2 b = some 51) (hc : c' = c) : RR T H b c' f :=
  ⟨Or.inr gb, fun k hk => LR_at h e0 (by omega) (by omega)⟩
theorem RP_18 (h : RP T H m mp e d) : MA18 T H mp (d 10) := by
  obtain ⟨-, ⟨dm, h3, rfl⟩, -⟩ := h
  exact h3.2.2.2.2.2.2.2.2.2.2.2.1
theorem RP_19 (h : RP T H m mp e d) : MA19 T H mp (d 11) := by
  obtain ⟨-, ⟨dm, h3, rfl⟩, -⟩ := h
  exact h3.2.2.2.2.2.2.2.2.2.2.2.2.1
theorem RP_20 (h : RP T H m mp e d) : MA20 T H mp (d 12) := by
  obtain ⟨-, ⟨dm, h3, rfl⟩, -⟩ := h
  exact h3.2.2.2.2.2.2.2.2.2.2.2.2.2.1
end RROW
