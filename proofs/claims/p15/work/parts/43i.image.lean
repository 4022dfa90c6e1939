section
/-! AN IMAGE (own work): what it says of each person, whether that is a SPAN of it -/
def xdg (d : xD) (a : Int) (k : Nat) : Int := wdv ((d 0 3).toNat - 1 - k) a % 40
def xpd (d : xD) (a : Int) : Nat → Nat → Int
  | _, 0 => 0
  | k, m + 1 => (if xdg d a k = 0 ∨ xdg d a k < ((xsp d k).length : Int) then 0 else 1) + xpd d a (k + 1) m
section IMG6

variable {d : xD} {a v x i : Int} {k m : Nat}
theorem xpd_p : ∀ m k : Nat, 0 ≤ xpd d a k m
  | 0, _ => Int.le_refl _
  | m + 1, k => by
    have h := xpd_p m (k + 1)
    show 0 ≤ (if xdg d a k = 0 ∨ xdg d a k < ((xsp d k).length : Int) then 0 else 1) + xpd d a (k + 1) m
    split <;> omega
theorem xpd_i : ∀ j k m : Nat, xpd d a (k + j) m ≤ xpd d a k (j + m)
  | 0, k, m => by
    rw [Nat.zero_add]
    exact Int.le_refl _
  | j + 1, k, m => by
    have h := xpd_i j (k + 1) m
    rw [show k + 1 + j = k + (j + 1) by omega] at h
    rw [show j + 1 + m = (j + m) + 1 by omega]
    show _ ≤ (if xdg d a k = 0 ∨ xdg d a k < ((xsp d k).length : Int) then 0 else 1) + xpd d a (k + 1) (j + m)
    split <;> omega
theorem xpd_e (h : i = d 0 3) : xpd d a i.toNat ((d 0 3).toNat - i.toNat) = 0 := by
  subst h
  rw [Nat.sub_self]
  rfl
theorem xdg_e (h0 : 0 ≤ i) (hi : i < d 0 3) (hx : x = wdv (d 0 3 - 1 - i).toNat a) (hd : v = x % 40) : v = xdg d a i.toNat := by
  unfold xdg
  rw [hd, hx, show (d 0 3 - 1 - i).toNat = (d 0 3).toNat - 1 - i.toNat by omega]
theorem xpd_1 (h0 : 0 ≤ i) (hi : i < d 0 3) : xpd d a i.toNat ((d 0 3).toNat - i.toNat) = (if xdg d a i.toNat = 0 ∨ xdg d a i.toNat < ((xsp d i.toNat).length : Int) then 0 else 1) + xpd d a (i + 1).toNat ((d 0 3).toNat - (i + 1).toNat) := by
  rw [show (i + 1).toNat = i.toNat + 1 by omega, show (d 0 3).toNat - i.toNat = ((d 0 3).toNat - (i.toNat + 1)) + 1 by omega]
  rfl
/-- this person's is good, too -/
theorem xpd_s (h0 : 0 ≤ i) (hi : i < d 0 3) (hx : a < 0 ∨ x = wdv (d 0 3 - 1 - i).toNat a) (hd : a < 0 ∨ v = x % 40) (hg : v = 0 ∨ v < ((xsp d i.toNat).length : Int)) (h : a < 0 ∨ xpd d a (i + 1).toNat ((d 0 3).toNat - (i + 1).toNat) = 0) : a < 0 ∨ xpd d a i.toNat ((d 0 3).toNat - i.toNat) = 0 := by
  by_cases ha : a < 0
  · exact Or.inl ha
  · have e := xdg_e h0 hi (hx.resolve_left ha) (hd.resolve_left ha)
    rw [e] at hg
    rw [xpd_1 h0 hi, if_pos hg]
    exact Or.inr (by have := h.resolve_left ha; omega)
/-- this person's isn't -/
theorem xpd_n (h0 : 0 ≤ i) (hi : i < d 0 3) (hx : a < 0 ∨ x = wdv (d 0 3 - 1 - i).toNat a) (hd : a < 0 ∨ v = x % 40) (hg : v ≠ 0) (hl : ((xsp d i.toNat).length : Int) ≤ v) : a < 0 ∨ 0 < xpd d a 0 (d 0 3).toNat := by
  by_cases ha : a < 0
  · exact Or.inl ha
  · have e := xdg_e h0 hi (hx.resolve_left ha) (hd.resolve_left ha)
    have h1 := xpd_1 (a := a) h0 hi
    rw [if_neg (by omega)] at h1
    have h2 := @xpd_p d a ((d 0 3).toNat - (i + 1).toNat) (i + 1).toNat
    have h3 := @xpd_i d a i.toNat 0 ((d 0 3).toNat - i.toNat)
    rw [Nat.zero_add, show i.toNat + ((d 0 3).toNat - i.toNat) = (d 0 3).toNat by omega] at h3
    exact Or.inr (by omega)
theorem wdv_1 (hn : i = d 0 3 - 1) : a = wdv (d 0 3 - 1 - i).toNat a := by
  subst hn
  rw [show (d 0 3 - 1 - (d 0 3 - 1)).toNat = 0 by omega]
  rfl
theorem wdv_n (hi : i < d 0 3) (hx : x = wdv (d 0 3 - 1 - i).toNat a) (e : v = x / 40) : v = wdv (d 0 3 - 1 - (i + (-1))).toNat a := wdv_s hx (by omega) e
theorem wdv_z (hx : x = wdv (d 0 3 - 1 - i).toNat a) (hi : i = -1) : x = wdv (d 0 3).toNat a := by
  rw [hx, hi, show (d 0 3 - 1 - (-1)).toNat = (d 0 3).toNat by omega]
end IMG6
end
section
/-! WHAT IS SAID (own work): one person's changed; all by an image -/
def xup (g : Nat → Int) (k : Nat) (v : Int) : Nat → Int := fun j => if j = k then v else g j
/-- people from i on -/
def CGi (T : wq_T) (H : wq_H) (r : Nat) (i n : Int) (g : Nat → Int) : Prop := ∀ k : Nat, i ≤ (k : Int) → (k : Int) < n → ∃ p : Nat, H (H r 0).toNat k = (p : Int) ∧ T.2.2.2 p = some 35 ∧ H p 16 = g k
section SAID6

variable {T : wq_T} {H H' : wq_H} {l : List (Nat × Nat)} {r p q pa k b m : Nat} {i n v c : Int} {g : Nat → Int} {d : xD}
theorem xup_e : xup g k v k = v := if_pos rfl
theorem xup_n {j : Nat} (h : j ≠ k) : xup g k v j = g j := if_neg h
theorem CG_mono {T' : wq_T} (mo : ∀ a t, T.2.2.2 a = some t → T'.2.2.2 a = some t) (h : CG T H r n g) : CG T' H r n g := fun k hk => by
  obtain ⟨p, h1, h2, h3⟩ := h k hk
  exact ⟨p, h1, mo _ _ h2, h3⟩
theorem CGi_0 (h : n ≤ i) : CGi T H r i n g := fun k p q => by omega
theorem CGi_all (h : CGi T H r i n g) (hi : i ≤ 0) : CG T H r n g := fun k hk => h k (by omega) hk
theorem per_ne {j : Nat} (hd : DD T H r) (e0 : H r 0 = (pa : Int)) (e1 : H pa k = (p : Int)) (hk : k < 6) (hj : j < 6) (e2 : H pa j = (q : Int)) (ne : j ≠ k) : q ≠ p := fun e => by
  obtain ⟨pa', q1, -, q3⟩ := hd
  rw [e0] at q1
  have : pa' = pa := by omega
  subst this
  exact ne (q3 j k hj hk (by rw [e2, e1, e]))
/-- one person's is written: the others' are as they were -/
theorem CGi_w (hd : DD T H r) (e0 : H r 0 = (pa : Int)) (g0 : T.2.2.2 pa = some 28) (gr : T.2.2.2 r = some 27) (e1 : H pa k = (p : Int)) (gp : T.2.2.2 p = some 35) (hk : k < 6) (hn : n ≤ 6) (e : H' = wq_u H p 16 v) (h : ∀ j : Nat, j ≠ k → i ≤ (j : Int) → (j : Int) < n → ∃ q : Nat, H (H r 0).toNat j = (q : Int) ∧ T.2.2.2 q = some 35 ∧ H q 16 = g j) (hv : g k = v) : CGi T H' r i n g := by
  have n1 : ∀ a t, T.2.2.2 a = some t → t ≠ 35 → H' a = H a := fun a t ht ne => by
    rw [e]
    funext j
    exact wq_u_na (fun q => by subst q; rw [gp] at ht; exact ne (Option.some.inj ht).symm) j
  have a1 : ∀ j, H' (H' r 0).toNat j = H (H r 0).toNat j := fun j => by
    rw [n1 r _ gr (by decide), e0, Int.toNat_natCast, n1 pa _ g0 (by decide)]
  intro j hj hj2
  by_cases c : j = k
  · subst c
    refine ⟨p, ?_, gp, ?_⟩
    · rw [a1, e0, Int.toNat_natCast]
      exact e1
    · rw [e, wq_u_eq]
      exact hv.symm
  · obtain ⟨q, q1, q2, q3⟩ := h j c hj hj2
    refine ⟨q, ?_, q2, ?_⟩
    · rw [a1]
      exact q1
    · rw [e0, Int.toNat_natCast] at q1
      have hq : q ≠ p := per_ne hd e0 e1 hk (by omega) q1 c
      rw [e, wq_u_na hq]
      exact q3
theorem CY_put (hd : DD T H r) (e0 : H r 0 = (pa : Int)) (g0 : T.2.2.2 pa = some 28) (gr : T.2.2.2 r = some 27) (e1 : H pa k = (p : Int)) (gp : T.2.2.2 p = some 35) (hk : k < 6) (hn : n ≤ 6) (e : H' = wq_u H p 16 v) (h : CY T H r n g c) : CY T H' r n (xup g k v) c := by
  refine ⟨CGi_all (i := 0) (CGi_w hd e0 g0 gr e1 gp hk hn e (fun j hj _ h2 => ?_) xup_e) (Int.le_refl _), ?_⟩
  · obtain ⟨q, q1, q2, q3⟩ := h.1 j h2
    exact ⟨q, q1, q2, q3.trans (xup_n hj).symm⟩
  · rw [e, wq_u_na (fun q => by subst q; rw [gp] at gr; cases gr)]
    exact h.2
theorem CGi_put (hd : DD T H r) (e0 : H r 0 = (pa : Int)) (g0 : T.2.2.2 pa = some 28) (gr : T.2.2.2 r = some 27) (e1 : H pa k = (p : Int)) (gp : T.2.2.2 p = some 35) (hk : k < 6) (hn : n ≤ 6) (e : H' = wq_u H p 16 v) (hi : (k : Int) = i) (hv : v = g k) (h : CGi T H r (i + 1) n g) : CGi T H' r i n g :=
  CGi_w hd e0 g0 gr e1 gp hk hn e (fun j hj h1 h2 => h j (by omega) h2) hv.symm
theorem RY_put (h : RY T H m n g c) (e0 : H m 26 = (b : Int)) (gm : T.2.2.2 m = some 42) (gb : T.2.2.2 b = some 50) (e : H' = wq_u H b k v) : RY T H' m n (xup g k v) c := by
  refine ⟨DAo_set h.1 e0 gm gb (by decide) e xup_e (fun j hj => xup_n hj), ?_⟩
  rw [e, wq_u_na (fun q => by subst q; rw [gm] at gb; cases gb)]
  exact h.2
end SAID6
end
section
/-! BITS AS NUMBERS (own work) -/
theorem wq_and_n {x y : Int} (hx : 0 ≤ x ∧ x ≤ 2147483647) (hy : 0 ≤ y ∧ y ≤ 2147483647) : wq_and x y = ((x.toNat &&& y.toNat : Nat) : Int) := by
  have e : wq_and x y = ((Int32.ofInt x).toBitVec &&& (Int32.ofInt y).toBitVec).toInt := rfl
  have hn : ((Int32.ofInt x).toBitVec &&& (Int32.ofInt y).toBitVec).toNat = x.toNat &&& y.toNat := by rw [BitVec.toNat_and, wI_toNat hx.1 hx.2, wI_toNat hy.1 hy.2]
  have hb : x.toNat &&& y.toNat ≤ y.toNat := Nat.and_le_right
  have h2 := BitVec.toInt_eq_toNat_cond ((Int32.ofInt x).toBitVec &&& (Int32.ofInt y).toBitVec)
  rw [hn] at h2
  rw [e, h2]
  split <;> omega
theorem wq_or_n {x y : Int} (hx : 0 ≤ x ∧ x ≤ 2147483647) (hy : 0 ≤ y ∧ y ≤ 2147483647) : wq_or x y = ((x.toNat ||| y.toNat : Nat) : Int) := by
  have e : wq_or x y = ((Int32.ofInt x).toBitVec ||| (Int32.ofInt y).toBitVec).toInt := rfl
  have hn : ((Int32.ofInt x).toBitVec ||| (Int32.ofInt y).toBitVec).toNat = x.toNat ||| y.toNat := by rw [BitVec.toNat_or, wI_toNat hx.1 hx.2, wI_toNat hy.1 hy.2]
  have hb : x.toNat ||| y.toNat < 2 ^ 31 := Nat.or_lt_two_pow (by omega) (by omega)
  have h2 := BitVec.toInt_eq_toNat_cond ((Int32.ofInt x).toBitVec ||| (Int32.ofInt y).toBitVec)
  rw [hn] at h2
  rw [e, h2]
  split <;> omega
/-- how many bits are set -/
def nbf : Nat → Nat → Nat
  | 0, _ => 0
  | f + 1, x => x % 2 + nbf f (x / 2)
theorem nbf_0 : ∀ f, nbf f 0 = 0
  | 0 => rfl
  | f + 1 => by
    show 0 % 2 + nbf f (0 / 2) = 0
    rw [show (0 : Nat) / 2 = 0 from rfl, nbf_0 f]
theorem nbf_c : ∀ (f x : Nat), x < 2 ^ f → 0 < x → nbf f (x &&& (x - 1)) + 1 = nbf f x
  | 0, x, h, h0 => by
    have : (2 : Nat) ^ 0 = 1 := rfl
    omega
  | f + 1, x, h, h0 => by
    have hp : (2 : Nat) ^ (f + 1) = 2 ^ f * 2 := Nat.pow_succ 2 f
    show (x &&& (x - 1)) % 2 + nbf f ((x &&& (x - 1)) / 2) + 1 = x % 2 + nbf f (x / 2)
    have h1 : (x &&& (x - 1)) % 2 = 0 := by
      have h2 := @Nat.and_mod_two_eq_one x (x - 1)
      by_cases c : (x &&& (x - 1)) % 2 = 1
      · have := h2.mp c
        omega
      · omega
    rw [h1, Nat.and_div_two]
    by_cases c : x % 2 = 1
    · rw [show (x - 1) / 2 = x / 2 by omega, Nat.and_self, c]
      omega
    · have h3 := nbf_c f (x / 2) (by omega) (by omega)
      rw [show (x - 1) / 2 = x / 2 - 1 by omega]
      omega
theorem nbf_a : ∀ (n f y : Nat), n < f → y < 2 ^ n → nbf f (y + 2 ^ n) = nbf f y + 1
  | _, 0, _, h, _ => by omega
  | 0, f + 1, y, _, h => by
    have h1 : y = 0 := by
      have : (2 : Nat) ^ 0 = 1 := rfl
      omega
    subst h1
    show 1 + nbf f 0 = 0 + nbf f 0 + 1
    omega
  | n + 1, f + 1, y, hf, h => by
    have hp : (2 : Nat) ^ (n + 1) = 2 ^ n * 2 := Nat.pow_succ 2 n
    have h1 := nbf_a n f (y / 2) (by omega) (by omega)
    show (y + 2 ^ (n + 1)) % 2 + nbf f ((y + 2 ^ (n + 1)) / 2) = y % 2 + nbf f (y / 2) + 1
    rw [show (y + 2 ^ (n + 1)) % 2 = y % 2 by omega, show (y + 2 ^ (n + 1)) / 2 = y / 2 + 2 ^ n by omega, h1]
    omega
def xon (P : Nat → Bool) : Nat → Nat
  | 0 => 0
  | n + 1 => if P n = true then xon P n + 2 ^ n else xon P n
theorem shl_all : (List.range 24).all (fun n => decide (wq_shl 1 n = ((2 ^ n : Nat) : Int))) = true := by decide +kernel
theorem xon_b {P : Nat → Bool} : ∀ n : Nat, xon P n < 2 ^ n
  | 0 => by
    show 0 < 2 ^ 0
    decide
  | n + 1 => by
    have h := xon_b n (P := P)
    have hp : (2 : Nat) ^ (n + 1) = 2 ^ n * 2 := Nat.pow_succ 2 n
    show (if P n = true then xon P n + 2 ^ n else xon P n) < _
    split <;> omega
theorem xob_on {P : Nat → Bool} : ∀ n : Nat, n ≤ 24 → xob P n = (xon P n : Int)
  | 0, _ => rfl
  | n + 1, h => by
    have h1 := xob_on n (by omega) (P := P)
    have h2 := xon_b n (P := P)
    have h3 : (2 : Nat) ^ n ≤ 2 ^ 23 := Nat.pow_le_pow_right (by decide) (by omega)
    have h4 : (2 : Nat) ^ 23 = 8388608 := by decide
    have h5 := of_decide_eq_true (List.all_eq_true.mp shl_all n (List.mem_range.mpr (by omega)))
    show (if P n = true then wq_or (xob P n) (wq_shl 1 n) else xob P n) = ((if P n = true then xon P n + 2 ^ n else xon P n : Nat) : Int)
    by_cases c : P n = true
    · rw [if_pos c, if_pos c, h1, h5, wq_or_n ⟨by omega, by omega⟩ ⟨by omega, by omega⟩]
      have h6 := Nat.two_pow_add_eq_or_of_lt h2 1
      rw [Nat.mul_one] at h6
      rw [Int.toNat_natCast, Int.toNat_natCast, Nat.or_comm, ← h6, Nat.add_comm]
    · rw [if_neg c, if_neg c]
      exact h1
theorem xon_nb {f : Nat → Int} : ∀ n : Nat, n ≤ 24 → ((nbf 24 (xon (fun h => decide (f h > 0)) n) : Nat) : Int) = xcn f n
  | 0, _ => by
    show ((nbf 24 0 : Nat) : Int) = 0
    rw [nbf_0]
    rfl
  | n + 1, h => by
    have h1 := xon_nb n (by omega) (f := f)
    show ((nbf 24 (if decide (f n > 0) = true then xon (fun h => decide (f h > 0)) n + 2 ^ n else xon (fun h => decide (f h > 0)) n) : Nat) : Int) = xcn f n + (if f n > 0 then 1 else 0)
    by_cases c : f n > 0
    · rw [if_pos (decide_eq_true c), if_pos c, nbf_a n 24 _ (by omega) (xon_b n)]
      omega
    · rw [if_neg (by rw [decide_eq_false c]; decide), if_neg c]
      omega
theorem xob_bits {f : Nat → Int} : ((nbf 24 (xob (fun h => decide (f h > 0)) 24).toNat : Nat) : Int) = xcn f 24 := by
  rw [xob_on 24 (Nat.le_refl _), Int.toNat_natCast]
  exact xon_nb 24 (Nat.le_refl _)
theorem nb_step {x y z : Int} (h0 : 0 < x) (h1 : x ≤ 16777215) (hz : z = x - 1) (e : y = wq_and x z) : nbf 24 y.toNat + 1 = nbf 24 x.toNat := by
  rw [e, hz, wq_and_n ⟨by omega, by omega⟩ ⟨by omega, by omega⟩, Int.toNat_natCast, show (x - 1).toNat = x.toNat - 1 by omega]
  exact nbf_c 24 x.toNat (by have : (2 : Nat) ^ 24 = 16777216 := by decide
                             omega) (by omega)
end
section
/-! STRIKES AS TALLIES (own work): four bits for each of twelve HOURS -/
theorem wL_toNat {x : Int} (h : 0 ≤ x) (h2 : x ≤ 9223372036854775807) : (Int64.ofInt x).toBitVec.toNat = x.toNat := by
  have h1 := wL_t (z := x) ⟨by omega, h2⟩
  have h3 : (Int64.ofInt x).toBitVec.toInt = x := h1
  rw [BitVec.toInt_eq_toNat_cond] at h3
  split at h3 <;> omega
theorem wl_and_n {x y : Int} (hx : 0 ≤ x ∧ x ≤ 9223372036854775807) (hy : 0 ≤ y ∧ y ≤ 9223372036854775807) : wl_and x y = ((x.toNat &&& y.toNat : Nat) : Int) := by
  have e : wl_and x y = ((Int64.ofInt x).toBitVec &&& (Int64.ofInt y).toBitVec).toInt := rfl
  have hn : ((Int64.ofInt x).toBitVec &&& (Int64.ofInt y).toBitVec).toNat = x.toNat &&& y.toNat := by rw [BitVec.toNat_and, wL_toNat hx.1 hx.2, wL_toNat hy.1 hy.2]
  have hb : x.toNat &&& y.toNat ≤ y.toNat := Nat.and_le_right
  have h2 := BitVec.toInt_eq_toNat_cond ((Int64.ofInt x).toBitVec &&& (Int64.ofInt y).toBitVec)
  rw [hn] at h2
  rw [e, h2]
  split <;> omega
theorem wl_or_n {x y : Int} (hx : 0 ≤ x ∧ x ≤ 9223372036854775807) (hy : 0 ≤ y ∧ y ≤ 9223372036854775807) : wl_or x y = ((x.toNat ||| y.toNat : Nat) : Int) := by
  have e : wl_or x y = ((Int64.ofInt x).toBitVec ||| (Int64.ofInt y).toBitVec).toInt := rfl
  have hn : ((Int64.ofInt x).toBitVec ||| (Int64.ofInt y).toBitVec).toNat = x.toNat ||| y.toNat := by rw [BitVec.toNat_or, wL_toNat hx.1 hx.2, wL_toNat hy.1 hy.2]
  have hb : x.toNat ||| y.toNat < 2 ^ 63 := Nat.or_lt_two_pow (by omega) (by omega)
  have h2 := BitVec.toInt_eq_toNat_cond ((Int64.ofInt x).toBitVec ||| (Int64.ofInt y).toBitVec)
  rw [hn] at h2
  rw [e, h2]
  split <;> omega
theorem shr_all : (List.range 24).all (fun n => decide (((Int32.ofInt (n : Int) &&& 31).toBitVec.smod 32).toNat = n)) = true := by decide +kernel
theorem wq_shr_n {x : Int} {n : Nat} (hx : 0 ≤ x ∧ x ≤ 2147483647) (hn : n < 24) : wq_shr x n = ((x.toNat / 2 ^ n : Nat) : Int) := by
  have e : wq_shr x n = ((Int32.ofInt x).toBitVec.sshiftRight' ((Int32.ofInt (n : Int) &&& 31).toBitVec.smod 32)).toInt := rfl
  have h1 := of_decide_eq_true (List.all_eq_true.mp shr_all n (List.mem_range.mpr hn))
  have h2 : (Int32.ofInt x).toBitVec.toInt = x := wI_t ⟨by omega, hx.2⟩
  rw [e, BitVec.toInt_sshiftRight', h1, h2, Int.shiftRight_eq_div_pow]
  rw [← Int.toNat_of_nonneg hx.1]
  rfl
theorem lsr_all : (List.range 12).all (fun n => decide ((((Int32.ofInt ((n : Int) * 4)).toInt64 &&& 63).toBitVec.smod 64).toNat = 4 * n)) = true := by decide +kernel
theorem wl_shr_n {x : Int} {n : Nat} (hx : 0 ≤ x ∧ x ≤ 9223372036854775807) (hn : n < 12) : wl_shr x ((n : Int) * 4) = ((x.toNat / 2 ^ (4 * n) : Nat) : Int) := by
  have e : wl_shr x ((n : Int) * 4) = ((Int64.ofInt x).toBitVec.sshiftRight' (((Int32.ofInt ((n : Int) * 4)).toInt64 &&& 63).toBitVec.smod 64)).toInt := rfl
  have h1 := of_decide_eq_true (List.all_eq_true.mp lsr_all n (List.mem_range.mpr hn))
  have h2 : (Int64.ofInt x).toBitVec.toInt = x := wL_t ⟨by omega, hx.2⟩
  rw [e, BitVec.toInt_sshiftRight', h1, h2, Int.shiftRight_eq_div_pow]
  rw [← Int.toNat_of_nonneg hx.1]
  rfl
theorem lsl_all : (List.range 12).all (fun n => decide (wl_shl 0 ((n : Int) * 4) = 0) && decide (wl_shl 1 ((n : Int) * 4) = ((2 ^ (4 * n) : Nat) : Int))) = true := by decide +kernel
/-- a bit -/
def hb (b : Int) (h : Nat) : Nat := b.toNat / 2 ^ h % 2
theorem hb_b {b : Int} {h : Nat} : hb b h ≤ 1 := by
  unfold hb
  omega
theorem hb_and {b : Int} {h : Nat} (hx : 0 ≤ b ∧ b ≤ 2147483647) (hh : h < 24) : wq_and (wq_shr b h) 1 = (hb b h : Int) := by
  have h2 : b.toNat / 2 ^ h ≤ b.toNat := Nat.div_le_self _ _
  rw [wq_shr_n hx hh]
  unfold hb
  generalize b.toNat / 2 ^ h = c at h2 ⊢
  rw [wq_and_n ⟨by omega, by omega⟩ ⟨by decide, by decide⟩, Int.toNat_natCast]
  show ((c &&& 1 : Nat) : Int) = ((c % 2 : Nat) : Int)
  rw [Nat.and_one_is_mod]
theorem hb_land {b : Int} {h : Nat} (hx : 0 ≤ b ∧ b ≤ 2147483647) (hh : h < 24) : wl_and (wq_shr b h) 1 = (hb b h : Int) := by
  have h2 : b.toNat / 2 ^ h ≤ b.toNat := Nat.div_le_self _ _
  rw [wq_shr_n hx hh]
  unfold hb
  generalize b.toNat / 2 ^ h = c at h2 ⊢
  rw [wl_and_n ⟨by omega, by omega⟩ ⟨by decide, by decide⟩, Int.toNat_natCast]
  show ((c &&& 1 : Nat) : Int) = ((c % 2 : Nat) : Int)
  rw [Nat.and_one_is_mod]
/-- twelve counts in one number -/
def tal (f : Nat → Nat) : Nat → Nat
  | 0 => 0
  | n + 1 => tal f n + f n * 2 ^ (4 * n)
theorem tal_p {n : Nat} : (2 : Nat) ^ (4 * (n + 1)) = 2 ^ (4 * n) * 16 := by
  rw [show 4 * (n + 1) = 4 * n + 4 by omega, Nat.pow_add]
theorem tal_b {f : Nat → Nat} : ∀ n : Nat, (∀ h, h < n → f h ≤ 15) → tal f n < 2 ^ (4 * n)
  | 0, _ => by
    show 0 < 2 ^ 0
    decide
  | n + 1, h => by
    have h1 := tal_b n (fun j hj => h j (by omega))
    have h2 := h n (by omega)
    have h3 : f n * 2 ^ (4 * n) ≤ 15 * 2 ^ (4 * n) := Nat.mul_le_mul_right _ h2
    show tal f n + f n * 2 ^ (4 * n) < _
    rw [tal_p]
    omega
theorem tal_add {f g : Nat → Nat} : ∀ n : Nat, tal f n + tal g n = tal (fun h => f h + g h) n
  | 0 => rfl
  | n + 1 => by
    have h1 := tal_add n (f := f) (g := g)
    show tal f n + f n * 2 ^ (4 * n) + (tal g n + g n * 2 ^ (4 * n)) = tal (fun h => f h + g h) n + (f n + g n) * 2 ^ (4 * n)
    rw [← h1, Nat.add_mul]
    omega
theorem tal_cg {f g : Nat → Nat} : ∀ n : Nat, (∀ h, h < n → f h = g h) → tal f n = tal g n
  | 0, _ => rfl
  | n + 1, h => by
    show tal f n + f n * 2 ^ (4 * n) = tal g n + g n * 2 ^ (4 * n)
    rw [tal_cg n (fun j hj => h j (by omega)), h n (by omega)]
theorem tal_0 : ∀ n : Nat, tal (fun _ => 0) n = 0
  | 0 => rfl
  | n + 1 => by
    show tal (fun _ => 0) n + 0 * 2 ^ (4 * n) = 0
    rw [tal_0 n]
    omega
theorem tal_r {f : Nat → Nat} {p : Nat} : ∀ m : Nat, ∃ r, tal f (p + 1 + m) = tal f p + f p * 2 ^ (4 * p) + 2 ^ (4 * p) * (16 * r)
  | 0 => ⟨0, by
    show tal f p + f p * 2 ^ (4 * p) = _
    omega⟩
  | m + 1 => by
    obtain ⟨r, h⟩ := tal_r m (f := f) (p := p)
    refine ⟨r + f (p + 1 + m) * 2 ^ (4 * m), ?_⟩
    show tal f (p + 1 + m) + f (p + 1 + m) * 2 ^ (4 * (p + 1 + m)) = _
    rw [h, show 4 * (p + 1 + m) = 4 * p + 4 + 4 * m by omega, Nat.pow_add, Nat.pow_add, Nat.mul_add 16, Nat.mul_add (2 ^ (4 * p))]
    rw [show f (p + 1 + m) * (2 ^ (4 * p) * 2 ^ 4 * 2 ^ (4 * m)) = 2 ^ (4 * p) * (16 * (f (p + 1 + m) * 2 ^ (4 * m))) by
      rw [show (2 : Nat) ^ 4 = 16 from rfl, Nat.mul_assoc (2 ^ (4 * p)), Nat.mul_left_comm, Nat.mul_left_comm (f (p + 1 + m)) 16]]
    omega
/-- one of them again -/
theorem tal_at {f : Nat → Nat} {p : Nat} (hp : p < 12) (h : ∀ j, j < 12 → f j ≤ 15) : tal f 12 / 2 ^ (4 * p) % 16 = f p := by
  obtain ⟨r, e⟩ := tal_r (11 - p) (f := f) (p := p)
  rw [show p + 1 + (11 - p) = 12 by omega] at e
  have h1 := tal_b p (fun j hj => h j (by omega)) (f := f)
  have h2 := h p hp
  have h3 : tal f 12 = tal f p + 2 ^ (4 * p) * (f p + 16 * r) := by
    rw [e, Nat.mul_add, Nat.mul_comm (f p)]
    omega
  rw [h3, Nat.add_mul_div_left _ _ (Nat.two_pow_pos _), Nat.div_eq_of_lt h1]
  omega
theorem xtal_e {b : Int} (hx : 0 ≤ b ∧ b ≤ 2147483647) : ∀ n : Nat, n ≤ 12 → xtal b n = (tal (hb b) n : Int)
  | 0, _ => rfl
  | n + 1, h => by
    have h1 := xtal_e hx n (by omega)
    have h2 := tal_b n (fun j _ => Nat.le_trans (@hb_b b j) (by decide)) (f := hb b)
    have h3 : (2 : Nat) ^ (4 * n) ≤ 2 ^ 44 := Nat.pow_le_pow_right (by decide) (by omega)
    have h4 : (2 : Nat) ^ 44 = 17592186044416 := by decide
    have h5 := List.all_eq_true.mp lsl_all n (List.mem_range.mpr (by omega))
    rw [Bool.and_eq_true, decide_eq_true_eq, decide_eq_true_eq] at h5
    show wl_or (xtal b n) (wl_shl (wl_and (wq_shr b n) 1) ((n : Int) * 4)) = ((tal (hb b) n + hb b n * 2 ^ (4 * n) : Nat) : Int)
    rw [hb_land hx (by omega), h1]
    have h6 := @hb_b b n
    by_cases c : hb b n = 0
    · rw [c, show ((0 : Nat) : Int) = 0 from rfl, h5.1, wl_or_n ⟨by omega, by omega⟩ ⟨by decide, by decide⟩, Int.toNat_natCast]
      show ((tal (hb b) n ||| 0 : Nat) : Int) = _
      rw [Nat.or_zero]
      omega
    · rw [show hb b n = 1 by omega, show ((1 : Nat) : Int) = 1 from rfl, h5.2, wl_or_n ⟨by omega, by omega⟩ ⟨by omega, by omega⟩, Int.toNat_natCast, Int.toNat_natCast]
      have h7 := Nat.two_pow_add_eq_or_of_lt h2 1
      rw [Nat.mul_one] at h7
      rw [Nat.or_comm, ← h7]
      omega
theorem and15 {V : Int} (h : 0 ≤ V) : wq_and (wq_w V) 15 = ((V.toNat % 16 : Nat) : Int) := by
  have e : wq_and (wq_w V) 15 = ((Int32.ofInt (wq_w V)).toBitVec &&& (Int32.ofInt 15).toBitVec).toInt := rfl
  have e1 : Int32.ofInt (wq_w V) = Int32.ofInt V := by
    unfold wq_w
    rw [Int32.ofInt_toInt]
  have e2 : (Int32.ofInt V).toBitVec = BitVec.ofInt 32 V := rfl
  have hn : ((Int32.ofInt (wq_w V)).toBitVec &&& (Int32.ofInt 15).toBitVec).toNat = V.toNat % 16 := by
    rw [e1, BitVec.toNat_and, wI_toNat (x := 15) (by decide) (by decide), e2, BitVec.toNat_ofInt]
    show ((V % ((2 ^ 32 : Nat) : Int)).toNat &&& 2 ^ 4 - 1) = _
    rw [Nat.and_two_pow_sub_one_eq_mod]
    omega
  have h2 := BitVec.toInt_eq_toNat_cond ((Int32.ofInt (wq_w V)).toBitVec &&& (Int32.ofInt 15).toBitVec)
  rw [hn] at h2
  rw [e, h2]
  split <;> omega
/-- a tally's HOUR -/
theorem tal_due {f : Nat → Nat} {p : Nat} {V : Int} (hp : p < 12) (h : ∀ j, j < 12 → f j ≤ 15) (e : V = (tal f 12 : Int)) : wq_and (wq_w (wl_shr V ((p : Int) * 4))) 15 = (f p : Int) := by
  have h1 := tal_b 12 h
  have h4 : (2 : Nat) ^ (4 * 12) = 281474976710656 := by decide
  rw [e, wl_shr_n ⟨by omega, by omega⟩ hp, Int.toNat_natCast, and15 (Int.natCast_nonneg _), Int.toNat_natCast, tal_at hp h]
end
section
/-! WHAT IS TOLD KEEPS ITS BOUNDS (own work) -/
theorem row_ap {f f' : Nat → Int} {c c' : Int} {k : Nat} {P P' : Int → Prop} (h : ∀ j : Nat, (j : Int) < c → P (f j)) (hc : c' = c + 1) (hk : (k : Int) = c) (fk : P' (f' k)) (fn : ∀ j, j ≠ k → f' j = f j) (w : ∀ x, P x → P' x) : ∀ j : Nat, (j : Int) < c' → P' (f' j) := fun j hj => by
  by_cases e : j = k
  · subst e
    exact fk
  · rw [fn j e]
    exact w _ (h j (by omega))
theorem row_st {f f' : Nat → Int} {c c' : Int} {P P' : Int → Prop} (h : ∀ j : Nat, (j : Int) < c → P (f j)) (hc : c' = c) (ef : f' = f) (w : ∀ x, P x → P' x) : ∀ j : Nat, (j : Int) < c' → P' (f' j) := fun j hj => by
  rw [ef]
  exact w _ (h j (by omega))
theorem xhf_b {a b : Int} : ∀ n : Nat, 0 ≤ xhf a b n ∧ xhf a b n + 1 ≤ 2 ^ n
  | 0 => ⟨Int.le_refl _, by show (0 : Int) + 1 ≤ 2 ^ 0; decide⟩
  | n + 1 => by
    have h := @xhf_b a b n
    have h2 : (0 : Int) ≤ 2 ^ n := Int.le_of_lt (Int.pow_pos (by decide))
    show 0 ≤ xhf a b n + (if a ≤ n ∧ (n : Int) < b then 2 ^ n else 0) ∧ xhf a b n + (if a ≤ n ∧ (n : Int) < b then 2 ^ n else 0) + 1 ≤ 2 ^ (n + 1)
    rw [Int.pow_succ]
    split <;> omega
theorem xhs_b {a b : Int} : 0 ≤ xhs a b ∧ xhs a b ≤ 16777215 := by
  have h := @xhf_b a b 24
  have e : (2 : Int) ^ 24 = 16777216 := by decide
  unfold xhs
  omega
def XC (d : xD) : Prop := 0 ≤ d 0 0 ∧ d 0 0 ≤ 24 ∧ 0 ≤ d 0 1 ∧ d 0 1 ≤ 9 ∧ 0 ≤ d 0 2 ∧ d 0 2 ≤ 3 ∧ 0 ≤ d 0 3 ∧ d 0 3 ≤ 6 ∧ 0 ≤ d 0 4 ∧ d 0 4 ≤ 3 ∧ 0 ≤ d 0 5 ∧ d 0 5 ≤ 3 ∧ 0 ≤ d 0 6 ∧ d 0 6 ≤ 4 ∧ 0 ≤ d 0 7 ∧ d 0 7 ≤ 6 ∧ -1 ≤ d 0 8 ∧ d 0 8 < d 0 3
def xwB (p x : Int) : Prop := 0 ≤ x ∧ x < p
def xhB (x : Int) : Prop := 0 ≤ x ∧ x ≤ 16777215
def xrB (x : Int) : Prop := 0 ≤ x ∧ x ≤ 23
def XR (d : xD) : Prop := (∀ k : Nat, (k : Int) < d 0 4 → xwB (d 0 3) (d 10 k)) ∧ (∀ k : Nat, (k : Int) < d 0 4 → xwB (d 0 3) (d 11 k)) ∧ (∀ k : Nat, (k : Int) < d 0 5 → xrB (d 12 k)) ∧ (∀ k : Nat, (k : Int) < d 0 6 → xwB (d 0 3) (d 14 k)) ∧ (∀ k : Nat, (k : Int) < d 0 6 → xhB (d 15 k)) ∧ (∀ k : Nat, (k : Int) < d 0 7 → xhB (d 16 k)) ∧ (∀ k : Nat, (k : Int) < d 0 7 → xwB (d 0 3) (d 17 k)) ∧ ∀ h : Nat, 0 ≤ d 13 h ∧ d 13 h ≤ 100
def XW (d : xD) : Prop := xdP d ∧ XC d ∧ XR d
/-- what a text without a FAULT tells -/
def XV (d : xD) : Prop := XW d ∧ 1 ≤ d 0 0 ∧ 1 ≤ d 0 3
theorem XW_0 : XW xD0 := by
  refine ⟨xdP_0, by unfold XC; decide, ?_⟩
  have z : ∀ i, i ≠ 0 → ∀ k, xD0 i k = 0 := fun i hi k => if_neg (fun c => hi c.1)
  have e4 : xD0 0 4 = 0 := rfl
  have e5 : xD0 0 5 = 0 := rfl
  have e6 : xD0 0 6 = 0 := rfl
  have e7 : xD0 0 7 = 0 := rfl
  refine ⟨fun k h => ?_, fun k h => ?_, fun k h => ?_, fun k h => ?_, fun k h => ?_, fun k h => ?_, fun k h => ?_, fun k => ?_⟩
  · omega
  · omega
  · omega
  · omega
  · omega
  · omega
  · omega
  · rw [z 13 (by decide)]
    omega
section XVL

variable {B : Nat → Int} {n q : Int} {d : xD}
theorem xkn_z (h : xkn B n q d = 0) : xwB (d 0 3) (xwho B n q d) := by
  unfold xkn at h
  split at h
  · split at h
    · cases h
    · next c =>
      rcases @xfi_b (d 1) (d 0 3) (xY B n q) with e | e
      · exact absurd e c
      · exact ⟨e.1, e.2.1⟩
  · cases h
theorem wB_up {p p' : Int} (h : p ≤ p') : ∀ x, xwB p x → xwB p' x := fun x hx => ⟨hx.1, Int.lt_of_lt_of_le hx.2 h⟩
theorem idP {P : Int → Prop} : ∀ x, P x → P x := fun _ h => h
theorem XR_st {d' : xD} (h : XR d) (e3 : d 0 3 ≤ d' 0 3) (e4 : d' 0 4 = d 0 4) (e5 : d' 0 5 = d 0 5) (e6 : d' 0 6 = d 0 6) (e7 : d' 0 7 = d 0 7) (er : ∀ i, 10 ≤ i → i ≤ 17 → d' i = d i) : XR d' := by
  obtain ⟨h1, h2, h3, h4, h5, h6, h7, h8⟩ := h
  exact ⟨row_st h1 e4 (er 10 (by decide) (by decide)) (wB_up e3), row_st h2 e4 (er 11 (by decide) (by decide)) (wB_up e3), row_st h3 e5 (er 12 (by decide) (by decide)) idP, row_st h4 e6 (er 14 (by decide) (by decide)) (wB_up e3), row_st h5 e6 (er 15 (by decide) (by decide)) idP, row_st h6 e7 (er 16 (by decide) (by decide)) idP, row_st h7 e7 (er 17 (by decide) (by decide)) (wB_up e3), fun k => by rw [er 13 (by decide) (by decide)]; exact h8 k⟩
theorem XW_law (h : XW d) (f : (xl0 B n q d).1 = 0) : XW (xdlaw B n (xN B n q) d) := by
  obtain ⟨hP, hC, hR⟩ := h
  unfold xl0 at f
  split at f
  · cases f
  · unfold xlaw at f
    simp only [xs_iff] at f
    obtain ⟨-, f1, -, f2, -, f3, -⟩ := f
    have f1 := xh_z f1
    have f2 := xh_z f2
    have f3 := xh_z f3
    have v := @xdlaw_v B n (xN B n q) d
    unfold XC at hC
    exact ⟨xdP_cg hP (fun i h1 h2 => xdlaw_r (by omega)), by unfold XC; omega, XR_st hR (by omega) (by omega) (by omega) (by omega) (by omega) (fun i h1 h2 => xdlaw_r (by omega))⟩
theorem XW_per (h : XW d) (hx : xdP (xdper B n (xN B n q) d)) (f : (xl1 B n q d).1 = 0) : XW (xdper B n (xN B n q) d) := by
  obtain ⟨hP, hC, hR⟩ := h
  unfold xl1 at f
  split at f
  · cases f
  · have v := @xdper_v B n (xN B n q) d
    unfold XC at hC
    exact ⟨hx, by unfold XC; omega, XR_st hR (by omega) (by omega) (by omega) (by omega) (by omega) (fun i h1 h2 => xdper_r h1)⟩
theorem XW_sex (h : XW d) (f : (xl2 B n q d).1 = 0) : XW (xdsex B n (xN B n q) d) := by
  obtain ⟨hP, hC, hR⟩ := h
  unfold xl2 at f
  split at f
  · cases f
  · unfold xsex at f
    have f1 := xkn_z (xs_iff.mp f).1
    unfold xwB at f1
    have v := @xdsex_v B n (xN B n q) d
    have e8 : xdsex B n (xN B n q) d 0 8 = xwho B n (xN B n q) d := wq_u_eq
    unfold XC at hC
    exact ⟨xdP_cg hP (fun i h1 h2 => xdsex_r (by omega)), by unfold XC; omega, XR_st hR (by omega) (by omega) (by omega) (by omega) (by omega) (fun i h1 h2 => xdsex_r (by omega))⟩
theorem XW_ap (h : XW d) (f : (xl3 B n q d).1 = 0) : XW (xdap B n (xN B n q) d) := by
  obtain ⟨hP, hC, hR⟩ := h
  unfold xl3 at f
  split at f
  · cases f
  · unfold xap at f
    simp only [xs_iff] at f
    obtain ⟨f1, -, f2, -⟩ := f
    have f1 := xkn_z f1
    have f2 := xkn_z f2
    have v := @xdap_v B n (xN B n q) d
    unfold XC at hC
    have hk : (((d 0 4).toNat : Nat) : Int) = d 0 4 := by omega
    have c1 := @xdap_c B n (xN B n q) d _ hk
    have c2 := @xdap_e B n (xN B n q) d _ hk
    have e3 : xdap B n (xN B n q) d 0 3 = d 0 3 := by omega
    obtain ⟨h1, h2, h3, h4, h5, h6, h7, h8⟩ := hR
    refine ⟨xdP_cg hP (fun i h1 h2 => xdap_r (by omega) (by omega) (by omega)), by unfold XC; omega, ?_⟩
    unfold XR
    rw [e3]
    exact ⟨row_ap h1 (by omega) hk (by rw [c1.1]; exact f1) c1.2 idP, row_ap h2 (by omega) hk (by rw [c2.1]; exact f2) c2.2 idP, row_st h3 (by omega) (xdap_r (by decide) (by decide) (by decide)) idP, row_st h4 (by omega) (xdap_r (by decide) (by decide) (by decide)) idP, row_st h5 (by omega) (xdap_r (by decide) (by decide) (by decide)) idP, row_st h6 (by omega) (xdap_r (by decide) (by decide) (by decide)) idP, row_st h7 (by omega) (xdap_r (by decide) (by decide) (by decide)) idP, fun k => by rw [xdap_r (i := 13) (by decide) (by decide) (by decide)]; exact h8 k⟩
theorem XW_bo (h : XW d) (f : (xl4 B n q d).1 = 0) : XW (xdbo B n (xN B n q) d) := by
  obtain ⟨hP, hC, hR⟩ := h
  unfold xl4 at f
  split at f
  · cases f
  · unfold xbo at f
    have f1 := xh_z (xs_iff.mp f).1
    have v := @xdbo_v B n (xN B n q) d
    unfold XC at hC
    have hk : (((d 0 5).toNat : Nat) : Int) = d 0 5 := by omega
    have c1 := @xdbo_c B n (xN B n q) d _ hk
    have e3 : xdbo B n (xN B n q) d 0 3 = d 0 3 := by omega
    have r : ∀ i, i ≠ 0 → i ≠ 12 → xdbo B n (xN B n q) d i = d i := fun i h1 h2 => by
      unfold xdbo
      rw [wq_u_row (by omega), wq_u_row (by omega)]
    obtain ⟨h1, h2, h3, h4, h5, h6, h7, h8⟩ := hR
    refine ⟨xdP_cg hP (fun i h1 h2 => r i (by omega) (by omega)), by unfold XC; omega, ?_⟩
    unfold XR
    rw [e3]
    exact ⟨row_st h1 (by omega) (r _ (by decide) (by decide)) idP, row_st h2 (by omega) (r _ (by decide) (by decide)) idP, row_ap h3 (by omega) hk (by rw [c1.1]; exact f1) c1.2 idP, row_st h4 (by omega) (r _ (by decide) (by decide)) idP, row_st h5 (by omega) (r _ (by decide) (by decide)) idP, row_st h6 (by omega) (r _ (by decide) (by decide)) idP, row_st h7 (by omega) (r _ (by decide) (by decide)) idP, fun k => by rw [r 13 (by decide) (by decide)]; exact h8 k⟩
theorem XW_st (h : XW d) (f : (xl5 B n q d).1 = 0) : XW (xdst B n (xN B n q) d) := by
  obtain ⟨hP, hC, hR⟩ := h
  unfold xl5 at f
  split at f
  · cases f
  · unfold xst at f
    simp only [xs_iff] at f
    obtain ⟨f1, -, f2, -⟩ := f
    have f2 := xh_z f2
    have f1 : 0 ≤ xV B n (xN B n q) ∧ xV B n (xN B n q) ≤ 23 := by
      unfold xsh at f1
      split at f1
      · cases f1
      · exact xh_z f1
    have r : ∀ i, i ≠ 13 → xdst B n (xN B n q) d i = d i := fun i hi => wq_u_row hi
    have c := @xdst_c B n (xN B n q) d (xV B n (xN B n q)).toNat (by omega)
    have r0 := r 0 (by decide)
    have hC' : XC (xdst B n (xN B n q) d) := by
      unfold XC
      rw [r0]
      exact hC
    obtain ⟨h1, h2, h3, h4, h5, h6, h7, h8⟩ := hR
    refine ⟨xdP_cg hP (fun i h1 h2 => r i (by omega)), hC', ?_⟩
    unfold XR
    rw [r0, r 10 (by decide), r 11 (by decide), r 12 (by decide), r 14 (by decide), r 15 (by decide), r 16 (by decide), r 17 (by decide)]
    refine ⟨h1, h2, h3, h4, h5, h6, h7, fun k => ?_⟩
    by_cases e : k = (xV B n (xN B n q)).toNat
    · rw [e, c.1]
      omega
    · rw [c.2 k e]
      exact h8 k
theorem xtl_z (f : (xtl B n q d).1 = 0) : xwB (d 0 3) (xwho B n q d) := by
  unfold xtl at f
  exact xkn_z (xs_iff.mp f).1
theorem XW_tl (h : XW d) (f : (xl6 B n q d).1 = 0) : XW (xdtl B n (xN B n q) d) := by
  obtain ⟨hP, hC, hR⟩ := h
  unfold xl6 at f
  split at f
  · cases f
  · have f1 := xtl_z f
    have v := @xdtl_v B n (xN B n q) d
    unfold XC at hC
    have hk : (((d 0 6).toNat : Nat) : Int) = d 0 6 := by omega
    have c1 := @xdtl_c B n (xN B n q) d _ hk
    have c2 := @xdtl_e B n (xN B n q) d _ hk
    have e3 : xdtl B n (xN B n q) d 0 3 = d 0 3 := by omega
    have r : ∀ i, i ≠ 0 → i ≠ 14 → i ≠ 15 → xdtl B n (xN B n q) d i = d i := fun i h1 h2 h3 => by
      unfold xdtl
      rw [wq_u_row (by omega), wq_u_row (by omega), wq_u_row (by omega)]
    obtain ⟨h1, h2, h3, h4, h5, h6, h7, h8⟩ := hR
    refine ⟨xdP_cg hP (fun i h1 h2 => r i (by omega) (by omega) (by omega)), by unfold XC; omega, ?_⟩
    unfold XR
    rw [e3]
    exact ⟨row_st h1 (by omega) (r _ (by decide) (by decide) (by decide)) idP, row_st h2 (by omega) (r _ (by decide) (by decide) (by decide)) idP, row_st h3 (by omega) (r _ (by decide) (by decide) (by decide)) idP, row_ap h4 (by omega) hk (by rw [c1.1]; exact f1) c1.2 idP, row_ap h5 (by omega) hk (by rw [c2.1]; exact xhs_b) c2.2 idP, row_st h6 (by omega) (r _ (by decide) (by decide) (by decide)) idP, row_st h7 (by omega) (r _ (by decide) (by decide) (by decide)) idP, fun k => by rw [r 13 (by decide) (by decide) (by decide)]; exact h8 k⟩
theorem XW_of (h : XW d) (f : (xl7 B n q d).1 = 0) : XW (xdof B n (xN B n q) d) := by
  obtain ⟨hP, hC, hR⟩ := h
  unfold xl7 at f
  split at f
  · cases f
  · have f1 := xtl_z f
    have v := @xdof_v B n (xN B n q) d
    unfold XC at hC
    have hk : (((d 0 7).toNat : Nat) : Int) = d 0 7 := by omega
    have c1 := @xdof_c B n (xN B n q) d _ hk
    have c2 := @xdof_e B n (xN B n q) d _ hk
    have e3 : xdof B n (xN B n q) d 0 3 = d 0 3 := by omega
    have r : ∀ i, i ≠ 0 → i ≠ 16 → i ≠ 17 → xdof B n (xN B n q) d i = d i := fun i h1 h2 h3 => by
      unfold xdof
      rw [wq_u_row (by omega), wq_u_row (by omega), wq_u_row (by omega)]
    obtain ⟨h1, h2, h3, h4, h5, h6, h7, h8⟩ := hR
    refine ⟨xdP_cg hP (fun i h1 h2 => r i (by omega) (by omega) (by omega)), by unfold XC; omega, ?_⟩
    unfold XR
    rw [e3]
    exact ⟨row_st h1 (by omega) (r _ (by decide) (by decide) (by decide)) idP, row_st h2 (by omega) (r _ (by decide) (by decide) (by decide)) idP, row_st h3 (by omega) (r _ (by decide) (by decide) (by decide)) idP, row_st h4 (by omega) (r _ (by decide) (by decide) (by decide)) idP, row_st h5 (by omega) (r _ (by decide) (by decide) (by decide)) idP, row_ap h6 (by omega) hk (by rw [c1.1]; exact xhs_b) c1.2 idP, row_ap h7 (by omega) hk (by rw [c2.1]; exact f1) c2.2 idP, fun k => by rw [r 13 (by decide) (by decide) (by decide)]; exact h8 k⟩
theorem XW_line (h : XW d) (f : (xline B n q d).1 = 0) : XW (xdline B n q d) := by
  have h0 : 0 ≤ d 0 3 := by
    have := h.2.1
    unfold XC at this
    omega
  have hx := xdP_line h.1 h0 f
  unfold xline at f
  unfold xdline at hx ⊢
  split
  · next c0 =>
    rw [if_pos c0] at f
    exact XW_law h f
  · next c0 =>
    rw [if_neg c0] at f hx
    split
    · next c1 =>
      rw [if_pos c1] at f hx
      exact XW_per h hx f
    · next c1 =>
      rw [if_neg c1] at f
      split
      · next c2 =>
        rw [if_pos c2] at f
        exact XW_sex h f
      · next c2 =>
        rw [if_neg c2] at f
        split
        · next c3 =>
          rw [if_pos c3] at f
          exact XW_ap h f
        · next c3 =>
          rw [if_neg c3] at f
          split
          · next c4 =>
            rw [if_pos c4] at f
            exact XW_bo h f
          · next c4 =>
            rw [if_neg c4] at f
            split
            · next c5 =>
              rw [if_pos c5] at f
              exact XW_st h f
            · next c5 =>
              rw [if_neg c5] at f
              split
              · next c6 =>
                rw [if_pos c6] at f
                exact XW_tl h f
              · next c6 =>
                rw [if_neg c6] at f
                split at f
                · exact XW_of h f
                · cases f
theorem XV_xpf : ∀ (f : Nat) (q : Int) (d : xD), XW d → (xpf B n f q d).1.1 = 0 → XV (xpf B n f q d).2
  | 0, q, d, _, h => absurd (show (1 : Int) = 0 from h) (by decide)
  | f + 1, q, d, hw, h => by
    unfold xpf at h ⊢
    split at h
    · next a =>
      rw [if_pos a]
      have hw2 := XW_line hw a
      split at h
      · next b =>
        rw [if_pos b]
        split at h
        · next c =>
          rw [if_pos c]
          have z1 : 1 ≤ xdline B n q d 0 0 := by omega
          have z2 : 1 ≤ xdline B n q d 0 3 := by omega
          exact ⟨hw2, z1, z2⟩
        · cases h
      · next b =>
        rw [if_neg b]
        split at h
        · next c =>
          rw [if_pos c]
          exact XV_xpf f _ _ hw2 h
        · cases h
    · next a => exact absurd h a
theorem XV_parse (h : (xparse B n).1.1 = 0) : XV (xparse B n).2 := XV_xpf 902 _ xD0 XW_0 h
theorem XV_set (h : XV d) : XV (xset d) := by
  obtain ⟨⟨hP, hC, h1, h2, h3, h4, h5, h6, h7, h8⟩, h9, h10⟩ := h
  refine ⟨⟨xdP_set hP, hC, h1, h2, h3, h4, fun k hk => ?_, fun k hk => ?_, h7, fun k => ?_⟩, h9, h10⟩
  · rw [xset_15]
    unfold xmk
    have := h5 k hk
    unfold xhB at this ⊢
    split
    · have a := @xhs_b 0 (d 0 0)
      have b := wq_and_b (d 15 k) (y := xal d) a.1 (by have := a.2; unfold xal; omega)
      unfold xal at b ⊢
      omega
    · exact this
  · rw [xset_16]
    unfold xmk
    have := h6 k hk
    unfold xhB at this ⊢
    split
    · have a := @xhs_b 0 (d 0 0)
      have b := wq_and_b (d 16 k) (y := xal d) a.1 (by have := a.2; unfold xal; omega)
      unfold xal at b ⊢
      omega
    · exact this
  · rw [xset_13]
    unfold xcu
    split
    · omega
    · exact h8 k
end XVL
end
section
theorem hb_sh {b : Int} {h : Nat} (hx : 0 ≤ b ∧ b ≤ 2147483647) : hb (wq_shr b 12) h = hb b (h + 12) := by
  have e : wq_shr b ((12 : Nat) : Int) = _ := wq_shr_n hx (by decide)
  have e : wq_shr b 12 = ((b.toNat / 2 ^ 12 : Nat) : Int) := e
  unfold hb
  rw [e, Int.toNat_natCast, Nat.div_div_eq_div_mul, ← Nat.pow_add, Nat.add_comm]
theorem xon_hb {P : Nat → Bool} : ∀ n h : Nat, h < n → xon P n / 2 ^ h % 2 = (P h).toNat
  | 0, h, hh => by omega
  | n + 1, h, hh => by
    have h1 := xon_b n (P := P)
    show (if P n = true then xon P n + 2 ^ n else xon P n) / 2 ^ h % 2 = (P h).toNat
    by_cases e : h = n
    · subst e
      cases c : P h with
      | true =>
        rw [if_pos rfl, Nat.add_div_right _ (Nat.two_pow_pos h), Nat.div_eq_of_lt h1]
        rfl
      | false =>
        rw [if_neg (by decide), Nat.div_eq_of_lt h1]
        rfl
    · have h2 := xon_hb n h (by omega) (P := P)
      have h3 : (2 : Nat) ^ n = 2 ^ h * (2 * 2 ^ (n - h - 1)) := by
        rw [← Nat.pow_succ', ← Nat.pow_add]
        congr 1
        omega
      split
      · rw [h3, Nat.add_mul_div_left _ _ (Nat.two_pow_pos h), Nat.add_mul_mod_self_left]
        exact h2
      · exact h2
theorem xhf_on {a b : Int} : ∀ n : Nat, xhf a b n = ((xon (fun h => decide (a ≤ (h : Int) ∧ (h : Int) < b)) n : Nat) : Int)
  | 0 => rfl
  | n + 1 => by
    have h1 := xhf_on n (a := a) (b := b)
    show xhf a b n + (if a ≤ (n : Int) ∧ (n : Int) < b then 2 ^ n else 0) = ((if decide (a ≤ (n : Int) ∧ (n : Int) < b) = true then xon (fun h => decide (a ≤ (h : Int) ∧ (h : Int) < b)) n + 2 ^ n else xon (fun h => decide (a ≤ (h : Int) ∧ (h : Int) < b)) n : Nat) : Int)
    by_cases c : a ≤ (n : Int) ∧ (n : Int) < b
    · rw [if_pos c, if_pos (decide_eq_true c), h1, Int.natCast_add, Int.natCast_pow]
      rfl
    · rw [if_neg c, if_neg (by rw [decide_eq_false c]; decide), h1, Int.add_zero]
theorem hb_xhs {a b : Int} {h : Nat} (hh : h < 24) : hb (xhs a b) h = if a ≤ (h : Int) ∧ (h : Int) < b then 1 else 0 := by
  unfold hb xhs
  rw [xhf_on, Int.toNat_natCast, xon_hb 24 h hh]
  by_cases c : a ≤ (h : Int) ∧ (h : Int) < b
  · rw [if_pos c, decide_eq_true c]
    rfl
  · rw [if_neg c, decide_eq_false c]
    rfl
/-- a LOT's SPANS -/
def xpt (d : xD) (g : Nat → Int) (k : Nat) : Int × Int := (xsp d k).getD (g k).toNat (0, 0)
def xwb (d : xD) (g : Nat → Int) (k : Nat) : Int := xwk d k (xpt d g k)
def xsb (d : xD) (g : Nat → Int) (k : Nat) : Int := xas d k (xpt d g k)
def xbn (f : Nat → Int) (h : Nat) : Nat → Nat
  | 0 => 0
  | n + 1 => xbn f h n + (if f n ≤ (h : Int) then 1 else 0)
/-- how many are awake at an HOUR, of the births and the first people -/
def xct (d : xD) (g : Nat → Int) (h : Nat) : Nat → Nat
  | 0 => xbn (d 12) h (d 0 5).toNat
  | k + 1 => xct d g h k + hb (xwb d g k) h
def xdue (d : xD) (g : Nat → Int) (h : Nat) : Nat := xct d g h (d 0 3).toNat
def xbe (d : xD) : Nat → Int := fun n => ((tal (fun h => xbn (d 12) h n) 12 : Nat) : Int)
def xbl (d : xD) : Nat → Int := fun n => ((tal (fun h => xbn (d 12) (h + 12) n) 12 : Nat) : Int)
def xer (d : xD) (g : Nat → Int) : Nat → Int := fun k => ((tal (fun h => xct d g h k) 12 : Nat) : Int)
def xla (d : xD) (g : Nat → Int) : Nat → Int := fun k => ((tal (fun h => xct d g (h + 12) k) 12 : Nat) : Int)
def xbf (f : Nat → Int) : Nat → Int
  | 0 => 0
  | n + 1 => wq_or (xbf f n) (xhs (f n) 24)
/-- the HOURS that are filled; those with a quarrel -/
def xfl (d : xD) (g : Nat → Int) : Nat → Int
  | 0 => xbf (d 12) (d 0 5).toNat
  | k + 1 => wq_or (xfl d g k) (xwb d g k)
def xqo (d : xD) (g : Nat → Int) (i : Nat) : Nat → Int
  | 0 => 0
  | j + 1 => if xagf d i j (d 0 4).toNat = 0 then xqo d g i j else wq_or (xqo d g i j) (wq_and (xsb d g i) (xsb d g j))
def xqu (d : xD) (g : Nat → Int) : Nat → Int
  | 0 => 0
  | i + 1 => wq_or (xqu d g i) (xqo d g i i)
def xpq (d : xD) (g : Nat → Int) : Nat → Int
  | 0 => 0
  | k + 1 => wq_or (xpq d g k) (wq_and (xsb d g (d 10 k).toNat) (xsb d g (d 11 k).toNat))
/-- a SPAN for each person -/
def SG (d : xD) (g : Nat → Int) : Prop := ∀ k : Nat, (k : Int) < d 0 3 → 0 ≤ g k ∧ (g k = 0 ∨ g k < (xsp d k).length)
def SL (d : xD) (g : Nat → Int) : Prop := ∀ k : Nat, (k : Int) < d 0 3 → 0 ≤ g k ∧ g k < (xsp d k).length
section WALK

variable {d : xD} {g : Nat → Int} {k n h i j : Nat} {x : Int × Int} {v w z : Int}
theorem xal_b : 0 ≤ xal d ∧ xal d ≤ 16777215 := xhs_b
theorem xsl_b {b l : Int} : 0 ≤ xsl d k b l ∧ xsl d k b l ≤ 16777215 := by
  have h1 := @xal_b d
  have h2 := wq_and_b (wq_or (xhs b (b + l)) (xhs (d 7 k) (d 8 k))) h1.1 (by omega)
  unfold xsl
  omega
theorem xas_b : 0 ≤ xas d k x ∧ xas d k x ≤ 16777215 := by
  unfold xas
  split
  · omega
  · exact xsl_b
theorem xwk_b : 0 ≤ xwk d k x ∧ xwk d k x ≤ 16777215 := by
  unfold xwk
  split
  · omega
  · have h1 := @xal_b d
    rw [wq_and_c]
    have h2 := wq_and_b (wq_xor (xsl d k x.1 x.2) (-1)) h1.1 (by omega)
    omega
theorem xwb_b : 0 ≤ xwb d g k ∧ xwb d g k ≤ 16777215 := xwk_b
theorem xsb_b : 0 ≤ xsb d g k ∧ xsb d g k ≤ 16777215 := xas_b
theorem xbn_b {f : Nat → Int} : ∀ n : Nat, xbn f h n ≤ n
  | 0 => Nat.le_refl _
  | n + 1 => by
    have h1 := xbn_b n (f := f)
    show xbn f h n + (if f n ≤ (h : Int) then 1 else 0) ≤ n + 1
    split <;> omega
theorem xct_b : ∀ k : Nat, xct d g h k ≤ (d 0 5).toNat + k
  | 0 => xbn_b _
  | k + 1 => by
    have h1 := xct_b k
    have h2 := @hb_b (xwb d g k) h
    show xct d g h k + hb (xwb d g k) h ≤ (d 0 5).toNat + (k + 1)
    omega
theorem xer_b (h5 : d 0 5 ≤ 3) (hk : k ≤ 6) : 0 ≤ xer d g k ∧ xer d g k < 281474976710656 := by
  have h1 := tal_b 12 (f := fun h => xct d g h k) (fun h _ => by have := @xct_b d g h k; omega)
  have h4 : (2 : Nat) ^ (4 * 12) = 281474976710656 := by decide
  unfold xer
  omega
theorem xla_b (h5 : d 0 5 ≤ 3) (hk : k ≤ 6) : 0 ≤ xla d g k ∧ xla d g k < 281474976710656 := by
  have h1 := tal_b 12 (f := fun h => xct d g (h + 12) k) (fun h _ => by have := @xct_b d g (h + 12) k; omega)
  have h4 : (2 : Nat) ^ (4 * 12) = 281474976710656 := by decide
  unfold xla
  omega
theorem xbe_b (hn : n ≤ 3) : 0 ≤ xbe d n ∧ xbe d n < 281474976710656 := by
  have h1 := tal_b 12 (f := fun h => xbn (d 12) h n) (fun h _ => by have := @xbn_b h (d 12) n; omega)
  have h4 : (2 : Nat) ^ (4 * 12) = 281474976710656 := by decide
  unfold xbe
  omega
theorem xbl_b (hn : n ≤ 3) : 0 ≤ xbl d n ∧ xbl d n < 281474976710656 := by
  have h1 := tal_b 12 (f := fun h => xbn (d 12) (h + 12) n) (fun h _ => by have := @xbn_b (h + 12) (d 12) n; omega)
  have h4 : (2 : Nat) ^ (4 * 12) = 281474976710656 := by decide
  unfold xbl
  omega
theorem xtal_b {b : Int} (hx : 0 ≤ b ∧ b ≤ 16777215) : xtal b 12 = ((tal (hb b) 12 : Nat) : Int) ∧ 0 ≤ xtal b 12 ∧ xtal b 12 < 281474976710656 := by
  have h1 := xtal_e (b := b) ⟨hx.1, by omega⟩ 12 (Nat.le_refl _)
  have h2 := tal_b 12 (f := hb b) (fun h _ => Nat.le_trans (@hb_b b h) (by decide))
  have h4 : (2 : Nat) ^ (4 * 12) = 281474976710656 := by decide
  omega
theorem shr12_b {b : Int} (hx : 0 ≤ b ∧ b ≤ 16777215) : 0 ≤ wq_shr b 12 ∧ wq_shr b 12 ≤ 16777215 := by
  have e : wq_shr b ((12 : Nat) : Int) = _ := wq_shr_n ⟨hx.1, by omega⟩ (by decide)
  have e : wq_shr b 12 = ((b.toNat / 2 ^ 12 : Nat) : Int) := e
  have := Nat.div_le_self b.toNat (2 ^ 12)
  omega
/-- one more person -/
theorem xer_s : xer d g (k + 1) = xer d g k + xtal (xwb d g k) 12 := by
  have h : tal (fun h => xct d g h k) 12 + tal (hb (xwb d g k)) 12 = tal (fun h => xct d g h (k + 1)) 12 := tal_add 12
  have h1 := (xtal_b (@xwb_b d g k)).1
  unfold xer
  omega
theorem xla_s : xla d g (k + 1) = xla d g k + xtal (wq_shr (xwb d g k) 12) 12 := by
  have h0 : tal (fun h => xct d g (h + 12) k) 12 + tal (fun h => hb (xwb d g k) (h + 12)) 12 = tal (fun h => xct d g (h + 12) (k + 1)) 12 := tal_add 12
  have hw := @xwb_b d g k
  have h1 := (xtal_b (shr12_b hw)).1
  have h2 : tal (hb (wq_shr (xwb d g k) 12)) 12 = tal (fun h => hb (xwb d g k) (h + 12)) 12 := tal_cg 12 (fun h _ => hb_sh ⟨hw.1, by omega⟩)
  unfold xla
  omega
/-- one more birth -/
theorem xbe_s : xbe d (n + 1) = xbe d n + xtal (xhs (d 12 n) 24) 12 := by
  have h1 := (xtal_b (@xhs_b (d 12 n) 24)).1
  have h2 : tal (hb (xhs (d 12 n) 24)) 12 = tal (fun h => if d 12 n ≤ (h : Int) then 1 else 0) 12 := tal_cg 12 (fun h hh => by
    rw [hb_xhs (by omega)]
    by_cases c : d 12 n ≤ (h : Int)
    · rw [if_pos c, if_pos ⟨c, by omega⟩]
    · rw [if_neg c, if_neg (fun q => c q.1)])
  have h0 : tal (fun h => xbn (d 12) h n) 12 + tal (fun h => if d 12 n ≤ (h : Int) then 1 else 0) 12 = tal (fun h => xbn (d 12) h (n + 1)) 12 := tal_add 12
  unfold xbe
  omega
theorem xbl_s : xbl d (n + 1) = xbl d n + xtal (wq_shr (xhs (d 12 n) 24) 12) 12 := by
  have hw := @xhs_b (d 12 n) 24
  have h1 := (xtal_b (shr12_b hw)).1
  have h2 : tal (hb (wq_shr (xhs (d 12 n) 24) 12)) 12 = tal (fun h => if d 12 n ≤ ((h + 12 : Nat) : Int) then 1 else 0) 12 := tal_cg 12 (fun h hh => by
    rw [hb_sh ⟨hw.1, by omega⟩, hb_xhs (by omega)]
    by_cases c : d 12 n ≤ ((h + 12 : Nat) : Int)
    · rw [if_pos c, if_pos ⟨c, by omega⟩]
    · rw [if_neg c, if_neg (fun q => c q.1)])
  have h0 : tal (fun h => xbn (d 12) (h + 12) n) 12 + tal (fun h => if d 12 n ≤ ((h + 12 : Nat) : Int) then 1 else 0) 12 = tal (fun h => xbn (d 12) (h + 12) (n + 1)) 12 := tal_add 12
  unfold xbl
  omega
theorem xbe_0 : xbe d 0 = 0 := by
  unfold xbe
  rw [show (fun h => xbn (d 12) h 0) = (fun _ => 0) from rfl, tal_0]
  rfl
theorem xbl_0 : xbl d 0 = 0 := by
  unfold xbl
  rw [show (fun h => xbn (d 12) (h + 12) 0) = (fun _ => 0) from rfl, tal_0]
  rfl
/-- of an HOUR -/
theorem xdue_e {p : Int} (h5 : d 0 5 ≤ 3) (h3 : 0 ≤ d 0 3 ∧ d 0 3 ≤ 6) (hp : 0 ≤ p ∧ p < 12) {V : Int} (e : V = xer d g (d 0 3).toNat) : wq_and (wq_w (wl_shr V (p * 4))) 15 = (xdue d g p.toNat : Int) := by
  have h := tal_due (f := fun h => xct d g h (d 0 3).toNat) (p := p.toNat) (V := V) (by omega) (fun j _ => by have := @xct_b d g j (d 0 3).toNat; omega) e
  rw [Int.toNat_of_nonneg hp.1] at h
  exact h
theorem xdue_l {p : Int} (h5 : d 0 5 ≤ 3) (h3 : 0 ≤ d 0 3 ∧ d 0 3 ≤ 6) (hp : 12 ≤ p ∧ p < 24) {V : Int} (e : V = xla d g (d 0 3).toNat) : wq_and (wq_w (wl_shr V ((p - 12) * 4))) 15 = (xdue d g p.toNat : Int) := by
  have h := tal_due (f := fun h => xct d g (h + 12) (d 0 3).toNat) (p := (p - 12).toNat) (V := V) (by omega) (fun j _ => by have := @xct_b d g (j + 12) (d 0 3).toNat; omega) e
  rw [Int.toNat_of_nonneg (by omega)] at h
  rw [h]
  show ((xct d g ((p - 12).toNat + 12) (d 0 3).toNat : Nat) : Int) = _
  rw [show (p - 12).toNat + 12 = p.toNat by omega]
  rfl
/-- quarrels of one with those ahead -/
theorem xqo_y (e : v = xqo d g i j) (h : xagf d i j (d 0 4).toNat ≠ 0) (hw : w = wq_or v z) (hz : z = wq_and (xsb d g i) (xsb d g j)) : w = xqo d g i (j + 1) := by
  show w = if xagf d i j (d 0 4).toNat = 0 then xqo d g i j else wq_or (xqo d g i j) (wq_and (xsb d g i) (xsb d g j))
  rw [if_neg h, hw, hz, e]
theorem xqo_n (e : v = xqo d g i j) (h : xagf d i j (d 0 4).toNat = 0) : v = xqo d g i (j + 1) := by
  show v = if xagf d i j (d 0 4).toNat = 0 then xqo d g i j else wq_or (xqo d g i j) (wq_and (xsb d g i) (xsb d g j))
  rw [if_pos h]
  exact e
theorem xqo_z : ∀ j : Nat, (∀ j' : Nat, j' < j → xagf d i j' (d 0 4).toNat = 0) → xqo d g i j = 0
  | 0, _ => rfl
  | j + 1, h => by
    show (if xagf d i j (d 0 4).toNat = 0 then xqo d g i j else wq_or (xqo d g i j) (wq_and (xsb d g i) (xsb d g j))) = 0
    rw [if_pos (h j (by omega))]
    exact xqo_z j (fun j' hj => h j' (by omega))
theorem xsb_and : 0 ≤ wq_and (xsb d g i) (xsb d g j) ∧ wq_and (xsb d g i) (xsb d g j) ≤ 16777215 := by
  have h1 := @xsb_b d g i
  have h2 := @xsb_b d g j
  have h3 := wq_and_b (xsb d g i) h2.1 (by omega)
  omega
theorem xqo_b : ∀ j : Nat, 0 ≤ xqo d g i j ∧ xqo d g i j ≤ 16777215
  | 0 => ⟨Int.le_refl _, by show (0 : Int) ≤ 16777215; decide⟩
  | j + 1 => by
    have h1 := xqo_b j
    show 0 ≤ (if xagf d i j (d 0 4).toNat = 0 then xqo d g i j else wq_or (xqo d g i j) (wq_and (xsb d g i) (xsb d g j))) ∧ (if xagf d i j (d 0 4).toNat = 0 then xqo d g i j else wq_or (xqo d g i j) (wq_and (xsb d g i) (xsb d g j))) ≤ 16777215
    split
    · exact h1
    · exact wq_or_24 h1 xsb_and
theorem xqu_b : ∀ i : Nat, 0 ≤ xqu d g i ∧ xqu d g i ≤ 16777215
  | 0 => ⟨Int.le_refl _, by show (0 : Int) ≤ 16777215; decide⟩
  | i + 1 => wq_or_24 (xqu_b i) (xqo_b i)
theorem xpq_b : ∀ k : Nat, 0 ≤ xpq d g k ∧ xpq d g k ≤ 16777215
  | 0 => ⟨Int.le_refl _, by show (0 : Int) ≤ 16777215; decide⟩
  | k + 1 => wq_or_24 (xpq_b k) xsb_and
theorem xbf_b {f : Nat → Int} : ∀ n : Nat, 0 ≤ xbf f n ∧ xbf f n ≤ 16777215
  | 0 => ⟨Int.le_refl _, by show (0 : Int) ≤ 16777215; decide⟩
  | n + 1 => wq_or_24 (xbf_b n) xhs_b
theorem xfl_b : ∀ k : Nat, 0 ≤ xfl d g k ∧ xfl d g k ≤ 16777215
  | 0 => xbf_b _
  | k + 1 => wq_or_24 (xfl_b k) xwb_b
theorem or_t {a b : Int} (ha : 0 ≤ a ∧ a ≤ 16777215) (hb : 0 ≤ b ∧ b ≤ 16777215) : (wq_or a b).toNat.testBit h = (a.toNat.testBit h || b.toNat.testBit h) := by
  rw [wq_or_n ⟨ha.1, by omega⟩ ⟨hb.1, by omega⟩, Int.toNat_natCast, Nat.testBit_or]
theorem and_t {a b : Int} (ha : 0 ≤ a ∧ a ≤ 16777215) (hb : 0 ≤ b ∧ b ≤ 16777215) : (wq_and a b).toNat.testBit h = (a.toNat.testBit h && b.toNat.testBit h) := by
  rw [wq_and_n ⟨ha.1, by omega⟩ ⟨hb.1, by omega⟩, Int.toNat_natCast, Nat.testBit_and]
/-- both asleep -/
def xbt (d : xD) (g : Nat → Int) (h i j : Nat) : Prop := (xsb d g i).toNat.testBit h = true ∧ (xsb d g j).toNat.testBit h = true
theorem xsb_t : (wq_and (xsb d g i) (xsb d g j)).toNat.testBit h = true ↔ xbt d g h i j := by
  rw [and_t xsb_b xsb_b, Bool.and_eq_true]
  exact Iff.rfl
theorem xqo_t : ∀ j : Nat, (xqo d g i j).toNat.testBit h = true ↔ ∃ j' : Nat, j' < j ∧ xagf d i j' (d 0 4).toNat ≠ 0 ∧ xbt d g h i j'
  | 0 => by
    constructor
    · intro q
      have : (0 : Nat).testBit h = true := q
      rw [Nat.zero_testBit] at this
      cases this
    · rintro ⟨j', h1, -⟩
      omega
  | j + 1 => by
    have ih := xqo_t j
    have hb := @xqo_b d g i j
    have e : xqo d g i (j + 1) = if xagf d i j (d 0 4).toNat = 0 then xqo d g i j else wq_or (xqo d g i j) (wq_and (xsb d g i) (xsb d g j)) := rfl
    rw [e]
    by_cases c : xagf d i j (d 0 4).toNat = 0
    · rw [if_pos c, ih]
      constructor
      · rintro ⟨j', h1, h2⟩
        exact ⟨j', by omega, h2⟩
      · rintro ⟨j', h1, h2, h3⟩
        refine ⟨j', ?_, h2, h3⟩
        by_cases q : j' = j
        · subst q
          exact absurd c h2
        · omega
    · rw [if_neg c, or_t hb xsb_and, Bool.or_eq_true, ih, xsb_t]
      constructor
      · rintro (⟨j', h1, h2⟩ | h1)
        · exact ⟨j', by omega, h2⟩
        · exact ⟨j, by omega, c, h1⟩
      · rintro ⟨j', h1, h2, h3⟩
        by_cases q : j' = j
        · subst q
          exact Or.inr h3
        · exact Or.inl ⟨j', by omega, h2, h3⟩
theorem xqu_t : ∀ n : Nat, (xqu d g n).toNat.testBit h = true ↔ ∃ i j : Nat, i < n ∧ j < i ∧ xagf d i j (d 0 4).toNat ≠ 0 ∧ xbt d g h i j
  | 0 => by
    constructor
    · intro q
      have : (0 : Nat).testBit h = true := q
      rw [Nat.zero_testBit] at this
      cases this
    · rintro ⟨i, j, h1, -⟩
      omega
  | n + 1 => by
    have ih := xqu_t n
    have e : xqu d g (n + 1) = wq_or (xqu d g n) (xqo d g n n) := rfl
    rw [e, or_t (xqu_b n) (xqo_b n), Bool.or_eq_true, ih, xqo_t]
    constructor
    · rintro (⟨i, j, h1, h2⟩ | ⟨j, h1, h2⟩)
      · exact ⟨i, j, by omega, h2⟩
      · exact ⟨n, j, by omega, h1, h2⟩
    · rintro ⟨i, j, h1, h2, h3⟩
      by_cases q : i = n
      · subst q
        exact Or.inr ⟨j, h2, h3⟩
      · exact Or.inl ⟨i, j, by omega, h2, h3⟩
theorem xpq_t : ∀ n : Nat, (xpq d g n).toNat.testBit h = true ↔ ∃ k : Nat, k < n ∧ xbt d g h (d 10 k).toNat (d 11 k).toNat
  | 0 => by
    constructor
    · intro q
      have : (0 : Nat).testBit h = true := q
      rw [Nat.zero_testBit] at this
      cases this
    · rintro ⟨k, h1, -⟩
      omega
  | n + 1 => by
    have ih := xpq_t n
    have e : xpq d g (n + 1) = wq_or (xpq d g n) (wq_and (xsb d g (d 10 n).toNat) (xsb d g (d 11 n).toNat)) := rfl
    rw [e, or_t (xpq_b n) xsb_and, Bool.or_eq_true, ih, xsb_t]
    constructor
    · rintro (⟨k, h1, h2⟩ | h1)
      · exact ⟨k, by omega, h2⟩
      · exact ⟨n, by omega, h1⟩
    · rintro ⟨k, h1, h2⟩
      by_cases q : k = n
      · subst q
        exact Or.inr h2
      · exact Or.inl ⟨k, by omega, h2⟩
theorem xagf_t {a b : Int} : ∀ n : Nat, xagf d a b n ≠ 0 ↔ ∃ k : Nat, k < n ∧ ((d 10 k = a ∧ d 11 k = b) ∨ (d 10 k = b ∧ d 11 k = a))
  | 0 => by
    constructor
    · intro q
      exact absurd rfl q
    · rintro ⟨k, h1, -⟩
      omega
  | n + 1 => by
    have ih := xagf_t n (a := a) (b := b)
    have e : xagf d a b (n + 1) = if (d 10 n = a ∧ d 11 n = b) ∨ (d 10 n = b ∧ d 11 n = a) then 1 else xagf d a b n := rfl
    rw [e]
    by_cases c : (d 10 n = a ∧ d 11 n = b) ∨ (d 10 n = b ∧ d 11 n = a)
    · rw [if_pos c]
      exact ⟨fun _ => ⟨n, by omega, c⟩, fun _ => by decide⟩
    · rw [if_neg c, ih]
      constructor
      · rintro ⟨k, h1, h2⟩
        exact ⟨k, by omega, h2⟩
      · rintro ⟨k, h1, h2⟩
        by_cases q : k = n
        · subst q
          exact absurd h2 c
        · exact ⟨k, by omega, h2⟩
/-- no two that are told apart are one -/
def XN (d : xD) : Prop := ∀ k : Nat, (k : Int) < d 0 4 → 0 ≤ d 10 k ∧ d 10 k < d 0 3 ∧ 0 ≤ d 11 k ∧ d 11 k < d 0 3 ∧ d 10 k ≠ d 11 k
/-- the quarrels of both programs -/
theorem xqu_xpq (hN : XN d) (h4 : 0 ≤ d 0 4) : xqu d g (d 0 3).toNat = xpq d g (d 0 4).toNat := by
  have h1 := @xqu_b d g (d 0 3).toNat
  have h2 := @xpq_b d g (d 0 4).toNat
  have h3 : (xqu d g (d 0 3).toNat).toNat = (xpq d g (d 0 4).toNat).toNat := by
    apply Nat.eq_of_testBit_eq
    intro h
    have a := @xqu_t d g h (d 0 3).toNat
    have b := @xpq_t d g h (d 0 4).toNat
    have c : (xqu d g (d 0 3).toNat).toNat.testBit h = true ↔ (xpq d g (d 0 4).toNat).toNat.testBit h = true := by
      rw [a, b]
      constructor
      · rintro ⟨i, j, q1, q2, q3, q4⟩
        obtain ⟨k, r1, r2⟩ := (xagf_t _).mp q3
        refine ⟨k, r1, ?_⟩
        rcases r2 with ⟨s1, s2⟩ | ⟨s1, s2⟩
        · rw [s1, s2, Int.toNat_natCast, Int.toNat_natCast]
          exact q4
        · rw [s1, s2, Int.toNat_natCast, Int.toNat_natCast]
          exact ⟨q4.2, q4.1⟩
      · rintro ⟨k, q1, q2⟩
        have n1 := hN k (by omega)
        by_cases c : d 11 k < d 0 3 ∧ d 11 k < d 10 k
        · refine ⟨(d 10 k).toNat, (d 11 k).toNat, by omega, by omega, (xagf_t _).mpr ⟨k, q1, Or.inl ⟨by omega, by omega⟩⟩, q2⟩
        · refine ⟨(d 11 k).toNat, (d 10 k).toNat, by omega, by omega, (xagf_t _).mpr ⟨k, q1, Or.inr ⟨by omega, by omega⟩⟩, q2.2, q2.1⟩
    cases e1 : (xqu d g (d 0 3).toNat).toNat.testBit h with
    | true => rw [c.mp e1]
    | false =>
      cases e2 : (xpq d g (d 0 4).toNat).toNat.testBit h with
      | true => rw [c.mpr e2] at e1; cases e1
      | false => rfl
  omega
end WALK
/-- where a WALK stands: its picks, the tallies of so many people -/
abbrev WP0 := DA 0 7
abbrev WP1 := DA 1 8
abbrev WP2 := DA 2 9
abbrev WP3 := DA 3 10
abbrev WP4 := DA 4 11
def WR (T : wq_T) (H : wq_H) (w : Nat) (d : xD) (g : Nat → Int) : Prop := H w 5 = d 0 3 ∧ WP0 T H w (d 0 3) g ∧ WP1 T H w (d 0 3 + 1) (xer d g) ∧ WP2 T H w (d 0 3 + 1) (xla d g) ∧ WP3 T H w (d 0 3 + 1) (xfl d g) ∧ WP4 T H w (d 0 3 + 1) (xqu d g)
section WREL

variable {T : wq_T} {H H' : wq_H} {l : List (Nat × Nat)} {w : Nat} {c : Int} {f g : Nat → Int} {d : xD}
theorem WP0_fr (hW : WT T H) (gw : T.2.2.2 w = some 6) (f0 : wfr l T H H') (x : DAw 6 0 7 l = true) (h : WP0 T H w c f) : WP0 T H' w c f := DAo_fr gw f0 x h
theorem WP1_fr (hW : WT T H) (gw : T.2.2.2 w = some 6) (f0 : wfr l T H H') (x : DAw 6 1 8 l = true) (h : WP1 T H w c f) : WP1 T H' w c f := DAo_fr gw f0 x h
theorem WP2_fr (hW : WT T H) (gw : T.2.2.2 w = some 6) (f0 : wfr l T H H') (x : DAw 6 2 9 l = true) (h : WP2 T H w c f) : WP2 T H' w c f := DAo_fr gw f0 x h
theorem WP3_fr (hW : WT T H) (gw : T.2.2.2 w = some 6) (f0 : wfr l T H H') (x : DAw 6 3 10 l = true) (h : WP3 T H w c f) : WP3 T H' w c f := DAo_fr gw f0 x h
theorem WP4_fr (hW : WT T H) (gw : T.2.2.2 w = some 6) (f0 : wfr l T H H') (x : DAw 6 4 11 l = true) (h : WP4 T H w c f) : WP4 T H' w c f := DAo_fr gw f0 x h
end WREL

section WALK2

variable {T : wq_T} {H H' : wq_H} {l : List (Nat × Nat)} {r b o S tg w k n i : Nat} {c v x y z a a' b' q : Int} {f f' g : Nat → Int} {d e : xD}
theorem DA_first (e0 : H r S = (b : Int)) (gr : T.2.2.2 r = some o) (gb : T.2.2.2 b = some tg) (ne : tg ≠ o) (e : H' = wq_u H b (0 : Int).toNat v) (hv : v = z) : DA S tg T H' r (0 + 1) (fun _ => z) := by
  refine ⟨b, ?_, gb, fun k hk => ?_⟩
  · rw [e, wq_u_na (fun q => ?_)]
    · exact e0
    · subst q
      rw [gr] at gb
      exact ne (Option.some.inj gb).symm
  · have : k = 0 := by omega
    subst this
    rw [e]
    show wq_u H b 0 v b 0 = z
    rw [wq_u_eq, hv]
theorem DA_1 (h : DA S tg T H r (0 + 1) f) (e : f 0 = f' 0) : DA S tg T H r (0 + 1) f' := by
  obtain ⟨b, h1, h2, h3⟩ := h
  refine ⟨b, h1, h2, fun k hk => ?_⟩
  have : k = 0 := by omega
  subst this
  rw [h3 0 hk, e]
theorem WP4_0 (hW : WT T H) (gw : T.2.2.2 w = some 6) : WP4 T H w (0 + 1) (xqu d g) := by
  obtain ⟨b, h1, h2⟩ := hW.ref gw (t' := 11) (n := 6) (j := 4) (p := 0) (q := 0) rfl (by decide) rfl
  refine ⟨b, h1, h2, fun k hk => ?_⟩
  have : k = 0 := by omega
  subst this
  have h3 := hW.box h2 (lo := 0) (hi := 0) (n := 7) (j := 0) rfl (by decide) rfl
  show H b 0 = 0
  omega
theorem xbf_s (e : v = wq_or x y) (hx : x = xbf f n) (hy : y = xhs (f n) 24) : v = xbf f (n + 1) := by
  rw [e, hx, hy]
  rfl
theorem xfl_s (e : v = wq_or x y) (hx : x = xfl d g n) (hy : y = xwb d g n) : v = xfl d g (n + 1) := by
  rw [e, hx, hy]
  rfl
theorem xqu_s (e : v = wq_or x y) (hx : x = xqu d g n) (hy : y = xqo d g n n) : v = xqu d g (n + 1) := by
  rw [e, hx, hy]
  rfl
theorem xand_e (e : y = wq_and a v) (ha : a = a') (hb : v = b') : y = wq_and a' b' := by rw [e, ha, hb]
theorem shr0 : ∀ {j : Nat}, j < 6 → wq_and (wq_shr 0 j) 1 = 0 := by
  intro j hj
  have h := List.all_eq_true.mp (show (List.range 6).all (fun j => decide (wq_and (wq_shr 0 (j : Nat)) 1 = 0)) = true by decide +kernel) j (List.mem_range.mpr hj)
  exact of_decide_eq_true h
theorem xagf_cg (h : ∀ i, i ≠ 13 → e i = d i) : ∀ n : Nat, xagf e a q n = xagf d a q n
  | 0 => rfl
  | n + 1 => by
    show (if (e 10 n = a ∧ e 11 n = q) ∨ (e 10 n = q ∧ e 11 n = a) then 1 else xagf e a q n) = (if (d 10 n = a ∧ d 11 n = q) ∨ (d 10 n = q ∧ d 11 n = a) then 1 else xagf d a q n)
    rw [h 10 (by decide), h 11 (by decide), xagf_cg h n]
/-- where there is a LOT, each has SPANS -/
theorem SL_of (hP : xdP d) (h : SG d g) (h3 : d 0 3 ≤ 6) (hn : xlots d ≠ 0) : SL d g := fun k hk => by
  have h1 := h k hk
  have h2 := (xpr_b hP (d 0 3).toNat 0).1
  have h3' := (xpr_pos (k := k) hP (by unfold xlots at hn ⊢; omega) hk).1
  omega
end WALK2
/-- a row of picks of the reference -/
def RR (T : wq_T) (H : wq_H) (r : Nat) (c : Int) (f : Nat → Int) : Prop := (T.2.2.2 r = some 50 ∨ T.2.2.2 r = some 51) ∧ ∀ k : Nat, (k : Int) < c → H r k = f k
section RROW

variable {T : wq_T} {H H' : wq_H} {l : List (Nat × Nat)} {r b k t m mp : Nat} {c c' : Int} {f : Nat → Int} {d e : xD}
theorem RR_at (h : RR T H r c f) (hk : (k : Int) < c) : H r k = f k := h.2 k hk
theorem RR_26 (h : MN26 T H m c f) (e0 : H m 26 = (b : Int)) (gb : T.2.2.2 b = some 50) (hc : c' = c) : RR T H b c' f := by
  obtain ⟨b', h1, -, h3⟩ := h
  have : b' = b := by omega
  subst this
  exact ⟨Or.inl gb, fun k hk => h3 k (by omega)⟩
theorem RP_18 (h : RP T H m mp e d) : MA18 T H mp (d 10) := by
  obtain ⟨-, ⟨dm, h3, rfl⟩, -⟩ := h
  exact h3.2.2.2.2.2.2.2.2.2.2.2.1
theorem RP_19 (h : RP T H m mp e d) : MA19 T H mp (d 11) := by
  obtain ⟨-, ⟨dm, h3, rfl⟩, -⟩ := h
  exact h3.2.2.2.2.2.2.2.2.2.2.2.2.1
theorem RP_20 (h : RP T H m mp e d) : MA20 T H mp (d 12) := by
  obtain ⟨-, ⟨dm, h3, rfl⟩, -⟩ := h
  exact h3.2.2.2.2.2.2.2.2.2.2.2.2.2.1
end RROW
end
section
/-! WHO IS TOLD APART (own work): two that are told apart are two; what is SAID are SPANS -/
section XNL

variable {B : Nat → Int} {n q : Int} {d : xD} {g : Nat → Int} {a v : Int}
theorem XN_0 : XN xD0 := fun k hk => by
  have e4 : xD0 0 4 = 0 := rfl
  omega
theorem XN_st {d' : xD} (h : XN d) (e3 : d 0 3 ≤ d' 0 3) (e4 : d' 0 4 = d 0 4) (er : ∀ i, 10 ≤ i → i ≤ 11 → d' i = d i) : XN d' := fun k hk => by
  have := h k (by omega)
  rw [er 10 (by decide) (by decide), er 11 (by decide) (by decide)]
  omega
theorem XN_ap (hw : XW d) (h : XN d) (f : (xl3 B n q d).1 = 0) : XN (xdap B n (xN B n q) d) := by
  obtain ⟨hP, hC, hR⟩ := hw
  unfold xl3 at f
  split at f
  · cases f
  · unfold xap at f
    simp only [xs_iff] at f
    obtain ⟨f1, -, f2, f3⟩ := f
    have f1 := xkn_z f1
    have f2 := xkn_z f2
    unfold xwB at f1 f2
    have f3 : xac d (xwho B n (xN B n q) d) (xwho B n (xN B n (xN B n (xN B n q))) d) = 0 := f3.1
    have v := @xdap_v B n (xN B n q) d
    unfold XC at hC
    have hk : (((d 0 4).toNat : Nat) : Int) = d 0 4 := by omega
    have c1 := @xdap_c B n (xN B n q) d _ hk
    have c2 := @xdap_e B n (xN B n q) d _ hk
    have ne : xwho B n (xN B n q) d ≠ xwho B n (xN B n (xN B n (xN B n q))) d := fun e => by
      unfold xac xag at f3
      rw [if_pos e] at f3
      cases f3
    intro k hk2
    by_cases e : k = (d 0 4).toNat
    · rw [e, c1.1, c2.1]
      omega
    · have := h k (by omega)
      rw [c1.2 k e, c2.2 k e]
      omega
theorem XN_line (hw : XW d) (h : XN d) (f : (xline B n q d).1 = 0) : XN (xdline B n q d) := by
  unfold xline at f
  unfold xdline
  split
  · have v := @xdlaw_v B n (xN B n q) d
    exact XN_st h (by omega) (by omega) (fun i h1 h2 => xdlaw_r (by omega))
  · next c0 =>
    rw [if_neg c0] at f
    split
    · have v := @xdper_v B n (xN B n q) d
      exact XN_st h (by omega) (by omega) (fun i h1 h2 => xdper_r h1)
    · next c1 =>
      rw [if_neg c1] at f
      split
      · have v := @xdsex_v B n (xN B n q) d
        exact XN_st h (by omega) (by omega) (fun i h1 h2 => xdsex_r (by omega))
      · next c2 =>
        rw [if_neg c2] at f
        split
        · next c3 =>
          rw [if_pos c3] at f
          exact XN_ap hw h f
        · split
          · exact XN_st h (by unfold xdbo; rw [wq_u_e2 (fun c => by omega), wq_u_row (by decide)]; exact Int.le_refl _) (by unfold xdbo; rw [wq_u_e2 (fun c => by omega), wq_u_row (by decide)]) (fun i h1 h2 => by unfold xdbo; rw [wq_u_row (by omega), wq_u_row (by omega)])
          · split
            · exact XN_st h (by unfold xdst; rw [wq_u_row (by decide)]; exact Int.le_refl _) (by unfold xdst; rw [wq_u_row (by decide)]) (fun i h1 h2 => by unfold xdst; rw [wq_u_row (by omega)])
            · split
              · exact XN_st h (by unfold xdtl; rw [wq_u_e2 (fun c => by omega), wq_u_row (by decide), wq_u_row (by decide)]; exact Int.le_refl _) (by unfold xdtl; rw [wq_u_e2 (fun c => by omega), wq_u_row (by decide), wq_u_row (by decide)]) (fun i h1 h2 => by unfold xdtl; rw [wq_u_row (by omega), wq_u_row (by omega), wq_u_row (by omega)])
              · exact XN_st h (by unfold xdof; rw [wq_u_e2 (fun c => by omega), wq_u_row (by decide), wq_u_row (by decide)]; exact Int.le_refl _) (by unfold xdof; rw [wq_u_e2 (fun c => by omega), wq_u_row (by decide), wq_u_row (by decide)]) (fun i h1 h2 => by unfold xdof; rw [wq_u_row (by omega), wq_u_row (by omega), wq_u_row (by omega)])
theorem XN_xpf : ∀ (f : Nat) (q : Int) (d : xD), XW d → XN d → (xpf B n f q d).1.1 = 0 → XN (xpf B n f q d).2
  | 0, q, d, _, _, h => absurd (show (1 : Int) = 0 from h) (by decide)
  | f + 1, q, d, hw, hn, h => by
    unfold xpf at h ⊢
    split at h
    · next a =>
      rw [if_pos a]
      have hw2 := XW_line hw a
      have hn2 := XN_line hw hn a
      split at h
      · next b =>
        rw [if_pos b]
        split at h
        · next c =>
          rw [if_pos c]
          exact hn2
        · cases h
      · next b =>
        rw [if_neg b]
        split at h
        · next c =>
          rw [if_pos c]
          exact XN_xpf f _ _ hw2 hn2 h
        · cases h
    · next a => exact absurd h a
theorem XN_parse (h : (xparse B n).1.1 = 0) : XN (xparse B n).2 := XN_xpf 902 _ xD0 XW_0 XN_0 h
/-- what is known of what is told, between calls -/
def XA (d : xD) : Prop := XW d ∧ XN d
theorem XA_0 : XA xD0 := ⟨XW_0, XN_0⟩
theorem XA_set (h : (xparse B n).1.1 = 0) : XA (xset (xparse B n).2) ∧ 1 ≤ xset (xparse B n).2 0 0 ∧ 1 ≤ xset (xparse B n).2 0 3 := by
  have h1 := XV_set (XV_parse h)
  exact ⟨⟨h1.1, XN_parse h⟩, h1.2.1, h1.2.2⟩
theorem SG_0 : SG d (fun _ => 0) := fun k hk => ⟨Int.le_refl _, Or.inl rfl⟩
theorem SG_up {k : Nat} (h : SG d g) (h0 : 0 ≤ v) (hv : v < ((xsp d k).length : Int)) : SG d (xup g k v) := fun j hj => by
  by_cases e : j = k
  · subst e
    rw [xup_e]
    exact ⟨h0, Or.inr hv⟩
  · rw [xup_n e]
    exact h j hj
theorem xpd_at : ∀ m k j : Nat, xpd d a k m = 0 → k ≤ j → j < k + m → xdg d a j = 0 ∨ xdg d a j < ((xsp d j).length : Int)
  | 0, k, j, _, h1, h2 => by omega
  | m + 1, k, j, h, h1, h2 => by
    have h3 : (if xdg d a k = 0 ∨ xdg d a k < ((xsp d k).length : Int) then 0 else 1) + xpd d a (k + 1) m = 0 := h
    have h4 := @xpd_p d a m (k + 1)
    by_cases c : xdg d a k = 0 ∨ xdg d a k < ((xsp d k).length : Int)
    · rw [if_pos c] at h3
      by_cases e : j = k
      · rw [e]
        exact c
      · exact xpd_at m (k + 1) j (by omega) (by omega) (by omega)
    · rw [if_neg c] at h3
      omega
theorem SG_im (h : xpd d a 0 (d 0 3).toNat = 0) : SG d (xdg d a) := fun k hk => by
  refine ⟨?_, xpd_at _ 0 k h (Nat.zero_le _) (by omega)⟩
  unfold xdg
  omega
end XNL
end
section
/-! THE JUDGE (own work): which HOUR is wrong first; whether a LOT is a WORLD -/
def xvo (s due b : Int) : Int := if due ≤ s ∧ s ≤ due + b then 0 else if s = due - 1 ∨ s = due + b + 1 then 1 else 2
def xvc (s due b : Int) : Int := if s ≤ 0 then 0 else xvo (s - 1) due b
/-- what an HOUR's strokes say of a LOT: so, off by one, or not -/
def xvy (e d : xD) (g : Nat → Int) (h : Nat) : Int := xvc (e 13 h) (xdue d g h) (d 0 1)
def xco (q : Nat → Int) : Nat → Int
  | 0 => 0
  | h + 1 => xco q h + q h
def xbad (q : Nat → Int) (m : Int) (h : Nat) : Bool := decide (q h = 2) || decide (m < xco q (h + 1))
def XFB (q : Nat → Int) (m n z : Int) : Prop := (z = 24 ∧ ∀ h : Nat, (h : Int) < n → xbad q m h = false) ∨ (0 ≤ z ∧ z < n ∧ xbad q m z.toNat = true ∧ ∀ h : Nat, (h : Int) < z → xbad q m h = false)
def xbh (S : Int) (q : Nat → Int) (h : Nat) : Int := if hb S h = 0 then 0 else q h
def xwo (e d : xD) (g : Nat → Int) : Int := if xqu d g (d 0 3).toNat = 0 ∧ (List.range 24).all (fun h => !(xbad (xvy e d g) (d 0 2) h)) = true then 1 else 0
section JUDGE

variable {q q' : Nat → Int} {m n z z' v S : Int} {u k h : Nat} {e d : xD} {g : Nat → Int}
theorem xvo_b {s due b : Int} : 0 ≤ xvo s due b ∧ xvo s due b ≤ 2 := by
  unfold xvo
  split
  · omega
  · split <;> omega
theorem xvc_b {s due b : Int} : 0 ≤ xvc s due b ∧ xvc s due b ≤ 2 := by
  unfold xvc
  split
  · omega
  · exact xvo_b
theorem xvy_b : 0 ≤ xvy e d g h ∧ xvy e d g h ≤ 2 := xvc_b
theorem xvy_0 (he : e 13 h ≤ 0) : xvy e d g h = 0 := if_pos he
theorem xco_gap (hu : u ≤ h) (hq : ∀ j, u ≤ j → j < h → q j = 0) : xco q h = xco q u := by
  induction h with
  | zero =>
    have : u = 0 := by omega
    subst this
    rfl
  | succ n ih =>
    by_cases c : u = n + 1
    · rw [c]
    · have h1 : xco q (n + 1) = xco q n + q n := rfl
      rw [h1, hq n (by omega) (by omega), ih (by omega) (fun j a b => hq j a (by omega))]
      omega
theorem xbad_f (h1 : q h ≠ 2) (h2 : xco q (h + 1) ≤ m) : xbad q m h = false := by
  unfold xbad
  rw [decide_eq_false h1, decide_eq_false (by omega)]
  rfl
theorem xbad_t (h1 : q h = 2 ∨ m < xco q (h + 1)) : xbad q m h = true := by
  unfold xbad
  rcases h1 with h1 | h1
  · rw [decide_eq_true h1]
    rfl
  · rw [decide_eq_true h1]
    exact Bool.or_true _
theorem xbad_gap (hq : ∀ j, u ≤ j → j < k → q j = 0) (hm : xco q u ≤ m) : ∀ h, u ≤ h → h < k → xbad q m h = false := fun h h1 h2 => by
  have h3 := hq h h1 h2
  have h4 := xco_gap (h := h + 1) (q := q) (u := u) (by omega) (fun j a b => hq j a (by omega))
  exact xbad_f (by omega) (by omega)
theorem xbad_all {p : Nat → Bool} (h1 : ∀ h, h < u → p h = false) (h2 : ∀ h, u ≤ h → h < k → p h = false) : ∀ h, h < k → p h = false := fun h hk => by
  by_cases c : h < u
  · exact h1 h c
  · exact h2 h (by omega) hk
theorem XFB_y (h0 : (k : Int) = z) (h24 : k < 24) (hb : xbad q m k = true) (hn : ∀ h, h < k → xbad q m h = false) : XFB q m 24 z := by
  refine Or.inr ⟨by omega, by omega, ?_, fun h hh => hn h (by omega)⟩
  rw [show z.toNat = k by omega]
  exact hb
theorem XFB_e (hn : ∀ h, h < 24 → xbad q m h = false) : XFB q m 24 24 := Or.inl ⟨rfl, fun h hh => hn h (by omega)⟩
theorem xco_cg : ∀ n : Nat, (∀ h, h < n → q h = q' h) → xco q n = xco q' n
  | 0, _ => rfl
  | n + 1, hq => by
    show xco q n + q n = xco q' n + q' n
    rw [xco_cg n (fun h hh => hq h (by omega)), hq n (by omega)]
theorem xbad_cg (hq : ∀ h, h < 24 → q h = q' h) (hh : h < 24) : xbad q m h = xbad q' m h := by
  unfold xbad
  rw [hq h hh, xco_cg (h + 1) (fun j hj => hq j (by omega))]
theorem XFB_cg (hq : ∀ h, h < 24 → q h = q' h) (hf : XFB q m 24 z) : XFB q' m 24 z := by
  rcases hf with ⟨h1, h2⟩ | ⟨h1, h2, h3, h4⟩
  · exact Or.inl ⟨h1, fun h hh => by rw [← xbad_cg hq (by omega)]; exact h2 h hh⟩
  · exact Or.inr ⟨h1, h2, by rw [← xbad_cg hq (by omega)]; exact h3, fun h hh => by rw [← xbad_cg hq (by omega)]; exact h4 h hh⟩
theorem hb_al (h0 : 0 ≤ d 0 0 ∧ d 0 0 ≤ 24) (hh : h < 24) : hb (xal d) h = if (h : Int) < d 0 0 then 1 else 0 := by
  unfold xal
  rw [hb_xhs hh]
  by_cases c : (h : Int) < d 0 0
  · rw [if_pos c, if_pos ⟨by omega, c⟩]
  · rw [if_neg c, if_neg (fun q => c q.2)]
theorem xbh_al (h0 : 0 ≤ d 0 0 ∧ d 0 0 ≤ 24) (hz : ∀ h : Nat, d 0 0 ≤ (h : Int) → h < 24 → e 13 h = 0) : ∀ h, h < 24 → xbh (xal d) (xvy e d g) h = xvy e d g h := fun h hh => by
  unfold xbh
  rw [hb_al h0 hh]
  by_cases c : (h : Int) < d 0 0
  · rw [if_pos c, if_neg (by decide)]
  · rw [if_neg c, if_pos rfl, xvy_0 (by have := hz h (by omega) hh; omega)]
theorem xwo_q (h1 : xqu d g (d 0 3).toNat ≠ 0) : xwo e d g = 0 := if_neg (fun c => h1 c.1)
theorem xwo_f (h1 : xqu d g (d 0 3).toNat = 0) (hf : XFB (xvy e d g) (d 0 2) 24 z) : (z = 24 ∧ xwo e d g = 1) ∨ (z ≠ 24 ∧ xwo e d g = 0) := by
  rcases hf with ⟨a1, a2⟩ | ⟨a1, a2, a3, -⟩
  · refine Or.inl ⟨a1, if_pos ⟨h1, List.all_eq_true.mpr (fun h hh => ?_)⟩⟩
    rw [a2 h (by have := List.mem_range.mp hh; omega)]
    rfl
  · refine Or.inr ⟨by omega, if_neg (fun c => ?_)⟩
    have := List.all_eq_true.mp c.2 z.toNat (List.mem_range.mpr (by omega))
    rw [a3] at this
    cases this
theorem xpq_s {x y w : Int} (e1 : v = wq_or x w) (hx : x = xpq d g k) (hw : w = wq_and (xsb d g (d 10 k).toNat) (xsb d g (d 11 k).toNat)) : v = xpq d g (k + 1) := by
  rw [e1, hx, hw]
  rfl
end JUDGE
end
