section
/-! WHAT IS SAID (own work): one person's changed; all by an image -/
def xup (g : Nat → Int) (k : Nat) (v : Int) : Nat → Int := fun j => if j = k then v else g j
/-- people from i on -/
def CGi (T : wq_T) (H : wq_H) (r : Nat) (i n : Int) (g : Nat → Int) : Prop := ∀ k : Nat, i ≤ (k : Int) → (k : Int) < n → ∃ p : Nat, H (H r 0).toNat k = (p : Int) ∧ T.2.2.2 p = some 35 ∧ H p 16 = g k
section SAID6

variable {T : wq_T} {H H' : wq_H} {l : List (Nat × Nat)} {r p q pa k b m : Nat} {i n v c : Int} {g : Nat → Int} {d : xD}
theorem xup_e : xup g k v k = v := if_pos rfl
theorem xup_n {j : Nat} (h : j ≠ k) : xup g k v j = g j := if_neg h
theorem CG_mono {T' : wq_T} (mo : ∀ a t, T.2.2.2 a = some t → T'.2.2.2 a = some t) (h : CG T H r n g) : CG T' H r n g := fun k hk => by
  obtain ⟨p, h1, h2, h3⟩ := h k hk
  exact ⟨p, h1, mo _ _ h2, h3⟩
theorem CGi_0 (h : n ≤ i) : CGi T H r i n g := fun k p q => by omega
theorem CGi_all (h : CGi T H r i n g) (hi : i ≤ 0) : CG T H r n g := fun k hk => h k (by omega) hk
theorem per_ne {j : Nat} (hd : DD T H r) (e0 : H r 0 = (pa : Int)) (e1 : H pa k = (p : Int)) (hk : k < 6) (hj : j < 6) (e2 : H pa j = (q : Int)) (ne : j ≠ k) : q ≠ p := fun e => by
  obtain ⟨pa', q1, -, q3⟩ := hd
  rw [e0] at q1
  have : pa' = pa := by omega
  subst this
  exact ne (q3 j k hj hk (by rw [e2, e1, e]))
/-- one person's is written: the others' are as they were -/
theorem CGi_w (hd : DD T H r) (e0 : H r 0 = (pa : Int)) (g0 : T.2.2.2 pa = some 28) (gr : T.2.2.2 r = some 27) (e1 : H pa k = (p : Int)) (gp : T.2.2.2 p = some 35) (hk : k < 6) (hn : n ≤ 6) (e : H' = wq_u H p 16 v) (h : ∀ j : Nat, j ≠ k → i ≤ (j : Int) → (j : Int) < n → ∃ q : Nat, H (H r 0).toNat j = (q : Int) ∧ T.2.2.2 q = some 35 ∧ H q 16 = g j) (hv : g k = v) : CGi T H' r i n g := by
  have n1 : ∀ a t, T.2.2.2 a = some t → t ≠ 35 → H' a = H a := fun a t ht ne => by
    rw [e]
    funext j
    exact wq_u_na (fun q => by subst q; rw [gp] at ht; exact ne (Option.some.inj ht).symm) j
  have a1 : ∀ j, H' (H' r 0).toNat j = H (H r 0).toNat j := fun j => by
    rw [n1 r _ gr (by decide), e0, Int.toNat_natCast, n1 pa _ g0 (by decide)]
  intro j hj hj2
  by_cases c : j = k
  · subst c
    refine ⟨p, ?_, gp, ?_⟩
    · rw [a1, e0, Int.toNat_natCast]
      exact e1
    · rw [e, wq_u_eq]
      exact hv.symm
  · obtain ⟨q, q1, q2, q3⟩ := h j c hj hj2
    refine ⟨q, ?_, q2, ?_⟩
    · rw [a1]
      exact q1
    · rw [e0, Int.toNat_natCast] at q1
      have hq : q ≠ p := per_ne hd e0 e1 hk (by omega) q1 c
      rw [e, wq_u_na hq]
      exact q3
theorem CY_put (hd : DD T H r) (e0 : H r 0 = (pa : Int)) (g0 : T.2.2.2 pa = some 28) (gr : T.2.2.2 r = some 27) (e1 : H pa k = (p : Int)) (gp : T.2.2.2 p = some 35) (hk : k < 6) (hn : n ≤ 6) (e : H' = wq_u H p 16 v) (h : CY T H r n g c) : CY T H' r n (xup g k v) c := by
  refine ⟨CGi_all (i := 0) (CGi_w hd e0 g0 gr e1 gp hk hn e (fun j hj _ h2 => ?_) xup_e) (Int.le_refl _), ?_⟩
  · obtain ⟨q, q1, q2, q3⟩ := h.1 j h2
    exact ⟨q, q1, q2, q3.trans (xup_n hj).symm⟩
  · rw [e, wq_u_na (fun q => by subst q; rw [gp] at gr; cases gr)]
    exact h.2
theorem CGi_put (hd : DD T H r) (e0 : H r 0 = (pa : Int)) (g0 : T.2.2.2 pa = some 28) (gr : T.2.2.2 r = some 27) (e1 : H pa k = (p : Int)) (gp : T.2.2.2 p = some 35) (hk : k < 6) (hn : n ≤ 6) (e : H' = wq_u H p 16 v) (hi : (k : Int) = i) (hv : v = g k) (h : CGi T H r (i + 1) n g) : CGi T H' r i n g :=
  CGi_w hd e0 g0 gr e1 gp hk hn e (fun j hj h1 h2 => h j (by omega) h2) hv.symm
theorem RY_put (h : RY T H m n g c) (e0 : H m 26 = (b : Int)) (gm : T.2.2.2 m = some 42) (gb : T.2.2.2 b = some 50) (e : H' = wq_u H b k v) : RY T H' m n (xup g k v) c := by
  refine ⟨DAo_set h.1 e0 gm gb (by decide) e xup_e (fun j hj => xup_n hj), ?_⟩
  rw [e, wq_u_na (fun q => by subst q; rw [gm] at gb; cases gb)]
  exact h.2
end SAID6
end
section
/-! BITS AS NUMBERS (own work) -/
theorem wq_and_n {x y : Int} (hx : 0 ≤ x ∧ x ≤ 2147483647) (hy : 0 ≤ y ∧ y ≤ 2147483647) : wq_and x y = ((x.toNat &&& y.toNat : Nat) : Int) := by
  have e : wq_and x y = ((Int32.ofInt x).toBitVec &&& (Int32.ofInt y).toBitVec).toInt := rfl
  have hn : ((Int32.ofInt x).toBitVec &&& (Int32.ofInt y).toBitVec).toNat = x.toNat &&& y.toNat := by rw [BitVec.toNat_and, wI_toNat hx.1 hx.2, wI_toNat hy.1 hy.2]
  have hb : x.toNat &&& y.toNat ≤ y.toNat := Nat.and_le_right
  have h2 := BitVec.toInt_eq_toNat_cond ((Int32.ofInt x).toBitVec &&& (Int32.ofInt y).toBitVec)
  rw [hn] at h2
  rw [e, h2]
  split <;> omega
theorem wq_or_n {x y : Int} (hx : 0 ≤ x ∧ x ≤ 2147483647) (hy : 0 ≤ y ∧ y ≤ 2147483647) : wq_or x y = ((x.toNat ||| y.toNat : Nat) : Int) := by
  have e : wq_or x y = ((Int32.ofInt x).toBitVec ||| (Int32.ofInt y).toBitVec).toInt := rfl
  have hn : ((Int32.ofInt x).toBitVec ||| (Int32.ofInt y).toBitVec).toNat = x.toNat ||| y.toNat := by rw [BitVec.toNat_or, wI_toNat hx.1 hx.2, wI_toNat hy.1 hy.2]
  have hb : x.toNat ||| y.toNat < 2 ^ 31 := Nat.or_lt_two_pow (by omega) (by omega)
  have h2 := BitVec.toInt_eq_toNat_cond ((Int32.ofInt x).toBitVec ||| (Int32.ofInt y).toBitVec)
  rw [hn] at h2
  rw [e, h2]
  split <;> omega
/-- how many bits are set -/
def nbf : Nat → Nat → Nat
  | 0, _ => 0
  | f + 1, x => x % 2 + nbf f (x / 2)
theorem nbf_0 : ∀ f, nbf f 0 = 0
  | 0 => rfl
  | f + 1 => by
    show 0 % 2 + nbf f (0 / 2) = 0
    rw [show (0 : Nat) / 2 = 0 from rfl, nbf_0 f]
theorem nbf_c : ∀ (f x : Nat), x < 2 ^ f → 0 < x → nbf f (x &&& (x - 1)) + 1 = nbf f x
  | 0, x, h, h0 => by
    have : (2 : Nat) ^ 0 = 1 := rfl
    omega
  | f + 1, x, h, h0 => by
    have hp : (2 : Nat) ^ (f + 1) = 2 ^ f * 2 := Nat.pow_succ 2 f
    show (x &&& (x - 1)) % 2 + nbf f ((x &&& (x - 1)) / 2) + 1 = x % 2 + nbf f (x / 2)
    have h1 : (x &&& (x - 1)) % 2 = 0 := by
      have h2 := @Nat.and_mod_two_eq_one x (x - 1)
      by_cases c : (x &&& (x - 1)) % 2 = 1
      · have := h2.mp c
        omega
      · omega
    rw [h1, Nat.and_div_two]
    by_cases c : x % 2 = 1
    · rw [show (x - 1) / 2 = x / 2 by omega, Nat.and_self, c]
      omega
    · have h3 := nbf_c f (x / 2) (by omega) (by omega)
      rw [show (x - 1) / 2 = x / 2 - 1 by omega]
      omega
theorem nbf_a : ∀ (n f y : Nat), n < f → y < 2 ^ n → nbf f (y + 2 ^ n) = nbf f y + 1
  | _, 0, _, h, _ => by omega
  | 0, f + 1, y, _, h => by
    have h1 : y = 0 := by
      have : (2 : Nat) ^ 0 = 1 := rfl
      omega
    subst h1
    show 1 + nbf f 0 = 0 + nbf f 0 + 1
    omega
  | n + 1, f + 1, y, hf, h => by
    have hp : (2 : Nat) ^ (n + 1) = 2 ^ n * 2 := Nat.pow_succ 2 n
    have h1 := nbf_a n f (y / 2) (by omega) (by omega)
    show (y + 2 ^ (n + 1)) % 2 + nbf f ((y + 2 ^ (n + 1)) / 2) = y % 2 + nbf f (y / 2) + 1
    rw [show (y + 2 ^ (n + 1)) % 2 = y % 2 by omega, show (y + 2 ^ (n + 1)) / 2 = y / 2 + 2 ^ n by omega, h1]
    omega
def xon (P : Nat → Bool) : Nat → Nat
  | 0 => 0
  | n + 1 => if P n = true then xon P n + 2 ^ n else xon P n
theorem shl_all : (List.range 24).all (fun n => decide (wq_shl 1 n = ((2 ^ n : Nat) : Int))) = true := by decide +kernel
theorem xon_b {P : Nat → Bool} : ∀ n : Nat, xon P n < 2 ^ n
  | 0 => by
    show 0 < 2 ^ 0
    decide
  | n + 1 => by
    have h := xon_b n (P := P)
    have hp : (2 : Nat) ^ (n + 1) = 2 ^ n * 2 := Nat.pow_succ 2 n
    show (if P n = true then xon P n + 2 ^ n else xon P n) < _
    split <;> omega
theorem xob_on {P : Nat → Bool} : ∀ n : Nat, n ≤ 24 → xob P n = (xon P n : Int)
  | 0, _ => rfl
  | n + 1, h => by
    have h1 := xob_on n (by omega) (P := P)
    have h2 := xon_b n (P := P)
    have h3 : (2 : Nat) ^ n ≤ 2 ^ 23 := Nat.pow_le_pow_right (by decide) (by omega)
    have h4 : (2 : Nat) ^ 23 = 8388608 := by decide
    have h5 := of_decide_eq_true (List.all_eq_true.mp shl_all n (List.mem_range.mpr (by omega)))
    show (if P n = true then wq_or (xob P n) (wq_shl 1 n) else xob P n) = ((if P n = true then xon P n + 2 ^ n else xon P n : Nat) : Int)
    by_cases c : P n = true
    · rw [if_pos c, if_pos c, h1, h5, wq_or_n ⟨by omega, by omega⟩ ⟨by omega, by omega⟩]
      have h6 := Nat.two_pow_add_eq_or_of_lt h2 1
      rw [Nat.mul_one] at h6
      rw [Int.toNat_natCast, Int.toNat_natCast, Nat.or_comm, ← h6, Nat.add_comm]
    · rw [if_neg c, if_neg c]
      exact h1
theorem xon_nb {f : Nat → Int} : ∀ n : Nat, n ≤ 24 → ((nbf 24 (xon (fun h => decide (f h > 0)) n) : Nat) : Int) = xcn f n
  | 0, _ => by
    show ((nbf 24 0 : Nat) : Int) = 0
    rw [nbf_0]
    rfl
  | n + 1, h => by
    have h1 := xon_nb n (by omega) (f := f)
    show ((nbf 24 (if decide (f n > 0) = true then xon (fun h => decide (f h > 0)) n + 2 ^ n else xon (fun h => decide (f h > 0)) n) : Nat) : Int) = xcn f n + (if f n > 0 then 1 else 0)
    by_cases c : f n > 0
    · rw [if_pos (decide_eq_true c), if_pos c, nbf_a n 24 _ (by omega) (xon_b n)]
      omega
    · rw [if_neg (by rw [decide_eq_false c]; decide), if_neg c]
      omega
theorem xob_bits {f : Nat → Int} : ((nbf 24 (xob (fun h => decide (f h > 0)) 24).toNat : Nat) : Int) = xcn f 24 := by
  rw [xob_on 24 (Nat.le_refl _), Int.toNat_natCast]
  exact xon_nb 24 (Nat.le_refl _)
theorem nb_step {x y z : Int} (h0 : 0 < x) (h1 : x ≤ 16777215) (hz : z = x - 1) (e : y = wq_and x z) : nbf 24 y.toNat + 1 = nbf 24 x.toNat := by
  rw [e, hz, wq_and_n ⟨by omega, by omega⟩ ⟨by omega, by omega⟩, Int.toNat_natCast, show (x - 1).toNat = x.toNat - 1 by omega]
  exact nbf_c 24 x.toNat (by have : (2 : Nat) ^ 24 = 16777216 := by decide
                             omega) (by omega)
end
section
/-- a bit -/
def hb (b : Int) (h : Nat) : Nat := b.toNat / 2 ^ h % 2
end
section
/-! WHAT IS TOLD KEEPS ITS BOUNDS (own work) -/
theorem row_ap {f f' : Nat → Int} {c c' : Int} {k : Nat} {P P' : Int → Prop} (h : ∀ j : Nat, (j : Int) < c → P (f j)) (hc : c' = c + 1) (hk : (k : Int) = c) (fk : P' (f' k)) (fn : ∀ j, j ≠ k → f' j = f j) (w : ∀ x, P x → P' x) : ∀ j : Nat, (j : Int) < c' → P' (f' j) := fun j hj => by
  by_cases e : j = k
  · subst e
    exact fk
  · rw [fn j e]
    exact w _ (h j (by omega))
theorem row_st {f f' : Nat → Int} {c c' : Int} {P P' : Int → Prop} (h : ∀ j : Nat, (j : Int) < c → P (f j)) (hc : c' = c) (ef : f' = f) (w : ∀ x, P x → P' x) : ∀ j : Nat, (j : Int) < c' → P' (f' j) := fun j hj => by
  rw [ef]
  exact w _ (h j (by omega))
theorem xhf_b {a b : Int} : ∀ n : Nat, 0 ≤ xhf a b n ∧ xhf a b n + 1 ≤ 2 ^ n
  | 0 => ⟨Int.le_refl _, by show (0 : Int) + 1 ≤ 2 ^ 0; decide⟩
  | n + 1 => by
    have h := @xhf_b a b n
    have h2 : (0 : Int) ≤ 2 ^ n := Int.le_of_lt (Int.pow_pos (by decide))
    show 0 ≤ xhf a b n + (if a ≤ n ∧ (n : Int) < b then 2 ^ n else 0) ∧ xhf a b n + (if a ≤ n ∧ (n : Int) < b then 2 ^ n else 0) + 1 ≤ 2 ^ (n + 1)
    rw [Int.pow_succ]
    split <;> omega
theorem xhs_b {a b : Int} : 0 ≤ xhs a b ∧ xhs a b ≤ 16777215 := by
  have h := @xhf_b a b 24
  have e : (2 : Int) ^ 24 = 16777216 := by decide
  unfold xhs
  omega
def XC (d : xD) : Prop := 0 ≤ d 0 0 ∧ d 0 0 ≤ 24 ∧ 0 ≤ d 0 1 ∧ d 0 1 ≤ 9 ∧ 0 ≤ d 0 2 ∧ d 0 2 ≤ 3 ∧ 0 ≤ d 0 3 ∧ d 0 3 ≤ 6 ∧ 0 ≤ d 0 4 ∧ d 0 4 ≤ 3 ∧ 0 ≤ d 0 5 ∧ d 0 5 ≤ 3 ∧ 0 ≤ d 0 6 ∧ d 0 6 ≤ 4 ∧ 0 ≤ d 0 7 ∧ d 0 7 ≤ 6 ∧ -1 ≤ d 0 8 ∧ d 0 8 < d 0 3
def xwB (p x : Int) : Prop := 0 ≤ x ∧ x < p
def xhB (x : Int) : Prop := 0 ≤ x ∧ x ≤ 16777215
def xrB (x : Int) : Prop := 0 ≤ x ∧ x ≤ 23
def XR (d : xD) : Prop := (∀ k : Nat, (k : Int) < d 0 4 → xwB (d 0 3) (d 10 k)) ∧ (∀ k : Nat, (k : Int) < d 0 4 → xwB (d 0 3) (d 11 k)) ∧ (∀ k : Nat, (k : Int) < d 0 5 → xrB (d 12 k)) ∧ (∀ k : Nat, (k : Int) < d 0 6 → xwB (d 0 3) (d 14 k)) ∧ (∀ k : Nat, (k : Int) < d 0 6 → xhB (d 15 k)) ∧ (∀ k : Nat, (k : Int) < d 0 7 → xhB (d 16 k)) ∧ (∀ k : Nat, (k : Int) < d 0 7 → xwB (d 0 3) (d 17 k)) ∧ ∀ h : Nat, 0 ≤ d 13 h ∧ d 13 h ≤ 100
def XW (d : xD) : Prop := xdP d ∧ XC d ∧ XR d
/-- what a text without a FAULT tells -/
def XV (d : xD) : Prop := XW d ∧ 1 ≤ d 0 0 ∧ 1 ≤ d 0 3
theorem XW_0 : XW xD0 := by
  refine ⟨xdP_0, by unfold XC; decide, ?_⟩
  have z : ∀ i, i ≠ 0 → ∀ k, xD0 i k = 0 := fun i hi k => if_neg (fun c => hi c.1)
  have e4 : xD0 0 4 = 0 := rfl
  have e5 : xD0 0 5 = 0 := rfl
  have e6 : xD0 0 6 = 0 := rfl
  have e7 : xD0 0 7 = 0 := rfl
  refine ⟨fun k h => ?_, fun k h => ?_, fun k h => ?_, fun k h => ?_, fun k h => ?_, fun k h => ?_, fun k h => ?_, fun k => ?_⟩
  · omega
  · omega
  · omega
  · omega
  · omega
  · omega
  · omega
  · rw [z 13 (by decide)]
    omega
section XVL

variable {B : Nat → Int} {n q : Int} {d : xD}
theorem xkn_z (h : xkn B n q d = 0) : xwB (d 0 3) (xwho B n q d) := by
  unfold xkn at h
  split at h
  · split at h
    · cases h
    · next c =>
      rcases @xfi_b (d 1) (d 0 3) (xY B n q) with e | e
      · exact absurd e c
      · exact ⟨e.1, e.2.1⟩
  · cases h
theorem wB_up {p p' : Int} (h : p ≤ p') : ∀ x, xwB p x → xwB p' x := fun x hx => ⟨hx.1, Int.lt_of_lt_of_le hx.2 h⟩
theorem idP {P : Int → Prop} : ∀ x, P x → P x := fun _ h => h
theorem XR_st {d' : xD} (h : XR d) (e3 : d 0 3 ≤ d' 0 3) (e4 : d' 0 4 = d 0 4) (e5 : d' 0 5 = d 0 5) (e6 : d' 0 6 = d 0 6) (e7 : d' 0 7 = d 0 7) (er : ∀ i, 10 ≤ i → i ≤ 17 → d' i = d i) : XR d' := by
  obtain ⟨h1, h2, h3, h4, h5, h6, h7, h8⟩ := h
  exact ⟨row_st h1 e4 (er 10 (by decide) (by decide)) (wB_up e3), row_st h2 e4 (er 11 (by decide) (by decide)) (wB_up e3), row_st h3 e5 (er 12 (by decide) (by decide)) idP, row_st h4 e6 (er 14 (by decide) (by decide)) (wB_up e3), row_st h5 e6 (er 15 (by decide) (by decide)) idP, row_st h6 e7 (er 16 (by decide) (by decide)) idP, row_st h7 e7 (er 17 (by decide) (by decide)) (wB_up e3), fun k => by rw [er 13 (by decide) (by decide)]; exact h8 k⟩
theorem XW_law (h : XW d) (f : (xl0 B n q d).1 = 0) : XW (xdlaw B n (xN B n q) d) := by
  obtain ⟨hP, hC, hR⟩ := h
  unfold xl0 at f
  split at f
  · cases f
  · unfold xlaw at f
    simp only [xs_iff] at f
    obtain ⟨-, f1, -, f2, -, f3, -⟩ := f
    have f1 := xh_z f1
    have f2 := xh_z f2
    have f3 := xh_z f3
    have v := @xdlaw_v B n (xN B n q) d
    unfold XC at hC
    exact ⟨xdP_cg hP (fun i h1 h2 => xdlaw_r (by omega)), by unfold XC; omega, XR_st hR (by omega) (by omega) (by omega) (by omega) (by omega) (fun i h1 h2 => xdlaw_r (by omega))⟩
theorem XW_per (h : XW d) (hx : xdP (xdper B n (xN B n q) d)) (f : (xl1 B n q d).1 = 0) : XW (xdper B n (xN B n q) d) := by
  obtain ⟨hP, hC, hR⟩ := h
  unfold xl1 at f
  split at f
  · cases f
  · have v := @xdper_v B n (xN B n q) d
    unfold XC at hC
    exact ⟨hx, by unfold XC; omega, XR_st hR (by omega) (by omega) (by omega) (by omega) (by omega) (fun i h1 h2 => xdper_r h1)⟩
theorem XW_sex (h : XW d) (f : (xl2 B n q d).1 = 0) : XW (xdsex B n (xN B n q) d) := by
  obtain ⟨hP, hC, hR⟩ := h
  unfold xl2 at f
  split at f
  · cases f
  · unfold xsex at f
    have f1 := xkn_z (xs_iff.mp f).1
    unfold xwB at f1
    have v := @xdsex_v B n (xN B n q) d
    have e8 : xdsex B n (xN B n q) d 0 8 = xwho B n (xN B n q) d := wq_u_eq
    unfold XC at hC
    exact ⟨xdP_cg hP (fun i h1 h2 => xdsex_r (by omega)), by unfold XC; omega, XR_st hR (by omega) (by omega) (by omega) (by omega) (by omega) (fun i h1 h2 => xdsex_r (by omega))⟩
theorem XW_ap (h : XW d) (f : (xl3 B n q d).1 = 0) : XW (xdap B n (xN B n q) d) := by
  obtain ⟨hP, hC, hR⟩ := h
  unfold xl3 at f
  split at f
  · cases f
  · unfold xap at f
    simp only [xs_iff] at f
    obtain ⟨f1, -, f2, -⟩ := f
    have f1 := xkn_z f1
    have f2 := xkn_z f2
    have v := @xdap_v B n (xN B n q) d
    unfold XC at hC
    have hk : (((d 0 4).toNat : Nat) : Int) = d 0 4 := by omega
    have c1 := @xdap_c B n (xN B n q) d _ hk
    have c2 := @xdap_e B n (xN B n q) d _ hk
    have e3 : xdap B n (xN B n q) d 0 3 = d 0 3 := by omega
    obtain ⟨h1, h2, h3, h4, h5, h6, h7, h8⟩ := hR
    refine ⟨xdP_cg hP (fun i h1 h2 => xdap_r (by omega) (by omega) (by omega)), by unfold XC; omega, ?_⟩
    unfold XR
    rw [e3]
    exact ⟨row_ap h1 (by omega) hk (by rw [c1.1]; exact f1) c1.2 idP, row_ap h2 (by omega) hk (by rw [c2.1]; exact f2) c2.2 idP, row_st h3 (by omega) (xdap_r (by decide) (by decide) (by decide)) idP, row_st h4 (by omega) (xdap_r (by decide) (by decide) (by decide)) idP, row_st h5 (by omega) (xdap_r (by decide) (by decide) (by decide)) idP, row_st h6 (by omega) (xdap_r (by decide) (by decide) (by decide)) idP, row_st h7 (by omega) (xdap_r (by decide) (by decide) (by decide)) idP, fun k => by rw [xdap_r (i := 13) (by decide) (by decide) (by decide)]; exact h8 k⟩
theorem XW_bo (h : XW d) (f : (xl4 B n q d).1 = 0) : XW (xdbo B n (xN B n q) d) := by
  obtain ⟨hP, hC, hR⟩ := h
  unfold xl4 at f
  split at f
  · cases f
  · unfold xbo at f
    have f1 := xh_z (xs_iff.mp f).1
    have v := @xdbo_v B n (xN B n q) d
    unfold XC at hC
    have hk : (((d 0 5).toNat : Nat) : Int) = d 0 5 := by omega
    have c1 := @xdbo_c B n (xN B n q) d _ hk
    have e3 : xdbo B n (xN B n q) d 0 3 = d 0 3 := by omega
    have r : ∀ i, i ≠ 0 → i ≠ 12 → xdbo B n (xN B n q) d i = d i := fun i h1 h2 => by
      unfold xdbo
      rw [wq_u_row (by omega), wq_u_row (by omega)]
    obtain ⟨h1, h2, h3, h4, h5, h6, h7, h8⟩ := hR
    refine ⟨xdP_cg hP (fun i h1 h2 => r i (by omega) (by omega)), by unfold XC; omega, ?_⟩
    unfold XR
    rw [e3]
    exact ⟨row_st h1 (by omega) (r _ (by decide) (by decide)) idP, row_st h2 (by omega) (r _ (by decide) (by decide)) idP, row_ap h3 (by omega) hk (by rw [c1.1]; exact f1) c1.2 idP, row_st h4 (by omega) (r _ (by decide) (by decide)) idP, row_st h5 (by omega) (r _ (by decide) (by decide)) idP, row_st h6 (by omega) (r _ (by decide) (by decide)) idP, row_st h7 (by omega) (r _ (by decide) (by decide)) idP, fun k => by rw [r 13 (by decide) (by decide)]; exact h8 k⟩
theorem XW_st (h : XW d) (f : (xl5 B n q d).1 = 0) : XW (xdst B n (xN B n q) d) := by
  obtain ⟨hP, hC, hR⟩ := h
  unfold xl5 at f
  split at f
  · cases f
  · unfold xst at f
    simp only [xs_iff] at f
    obtain ⟨f1, -, f2, -⟩ := f
    have f2 := xh_z f2
    have f1 : 0 ≤ xV B n (xN B n q) ∧ xV B n (xN B n q) ≤ 23 := by
      unfold xsh at f1
      split at f1
      · cases f1
      · exact xh_z f1
    have r : ∀ i, i ≠ 13 → xdst B n (xN B n q) d i = d i := fun i hi => wq_u_row hi
    have c := @xdst_c B n (xN B n q) d (xV B n (xN B n q)).toNat (by omega)
    have r0 := r 0 (by decide)
    have hC' : XC (xdst B n (xN B n q) d) := by
      unfold XC
      rw [r0]
      exact hC
    obtain ⟨h1, h2, h3, h4, h5, h6, h7, h8⟩ := hR
    refine ⟨xdP_cg hP (fun i h1 h2 => r i (by omega)), hC', ?_⟩
    unfold XR
    rw [r0, r 10 (by decide), r 11 (by decide), r 12 (by decide), r 14 (by decide), r 15 (by decide), r 16 (by decide), r 17 (by decide)]
    refine ⟨h1, h2, h3, h4, h5, h6, h7, fun k => ?_⟩
    by_cases e : k = (xV B n (xN B n q)).toNat
    · rw [e, c.1]
      omega
    · rw [c.2 k e]
      exact h8 k
theorem xtl_z (f : (xtl B n q d).1 = 0) : xwB (d 0 3) (xwho B n q d) := by
  unfold xtl at f
  exact xkn_z (xs_iff.mp f).1
theorem XW_tl (h : XW d) (f : (xl6 B n q d).1 = 0) : XW (xdtl B n (xN B n q) d) := by
  obtain ⟨hP, hC, hR⟩ := h
  unfold xl6 at f
  split at f
  · cases f
  · have f1 := xtl_z f
    have v := @xdtl_v B n (xN B n q) d
    unfold XC at hC
    have hk : (((d 0 6).toNat : Nat) : Int) = d 0 6 := by omega
    have c1 := @xdtl_c B n (xN B n q) d _ hk
    have c2 := @xdtl_e B n (xN B n q) d _ hk
    have e3 : xdtl B n (xN B n q) d 0 3 = d 0 3 := by omega
    have r : ∀ i, i ≠ 0 → i ≠ 14 → i ≠ 15 → xdtl B n (xN B n q) d i = d i := fun i h1 h2 h3 => by
      unfold xdtl
      rw [wq_u_row (by omega), wq_u_row (by omega), wq_u_row (by omega)]
    obtain ⟨h1, h2, h3, h4, h5, h6, h7, h8⟩ := hR
    refine ⟨xdP_cg hP (fun i h1 h2 => r i (by omega) (by omega) (by omega)), by unfold XC; omega, ?_⟩
    unfold XR
    rw [e3]
    exact ⟨row_st h1 (by omega) (r _ (by decide) (by decide) (by decide)) idP, row_st h2 (by omega) (r _ (by decide) (by decide) (by decide)) idP, row_st h3 (by omega) (r _ (by decide) (by decide) (by decide)) idP, row_ap h4 (by omega) hk (by rw [c1.1]; exact f1) c1.2 idP, row_ap h5 (by omega) hk (by rw [c2.1]; exact xhs_b) c2.2 idP, row_st h6 (by omega) (r _ (by decide) (by decide) (by decide)) idP, row_st h7 (by omega) (r _ (by decide) (by decide) (by decide)) idP, fun k => by rw [r 13 (by decide) (by decide) (by decide)]; exact h8 k⟩
theorem XW_of (h : XW d) (f : (xl7 B n q d).1 = 0) : XW (xdof B n (xN B n q) d) := by
  obtain ⟨hP, hC, hR⟩ := h
  unfold xl7 at f
  split at f
  · cases f
  · have f1 := xtl_z f
    have v := @xdof_v B n (xN B n q) d
    unfold XC at hC
    have hk : (((d 0 7).toNat : Nat) : Int) = d 0 7 := by omega
    have c1 := @xdof_c B n (xN B n q) d _ hk
    have c2 := @xdof_e B n (xN B n q) d _ hk
    have e3 : xdof B n (xN B n q) d 0 3 = d 0 3 := by omega
    have r : ∀ i, i ≠ 0 → i ≠ 16 → i ≠ 17 → xdof B n (xN B n q) d i = d i := fun i h1 h2 h3 => by
      unfold xdof
      rw [wq_u_row (by omega), wq_u_row (by omega), wq_u_row (by omega)]
    obtain ⟨h1, h2, h3, h4, h5, h6, h7, h8⟩ := hR
    refine ⟨xdP_cg hP (fun i h1 h2 => r i (by omega) (by omega) (by omega)), by unfold XC; omega, ?_⟩
    unfold XR
    rw [e3]
    exact ⟨row_st h1 (by omega) (r _ (by decide) (by decide) (by decide)) idP, row_st h2 (by omega) (r _ (by decide) (by decide) (by decide)) idP, row_st h3 (by omega) (r _ (by decide) (by decide) (by decide)) idP, row_st h4 (by omega) (r _ (by decide) (by decide) (by decide)) idP, row_st h5 (by omega) (r _ (by decide) (by decide) (by decide)) idP, row_ap h6 (by omega) hk (by rw [c1.1]; exact xhs_b) c1.2 idP, row_ap h7 (by omega) hk (by rw [c2.1]; exact f1) c2.2 idP, fun k => by rw [r 13 (by decide) (by decide) (by decide)]; exact h8 k⟩
theorem XW_line (h : XW d) (f : (xline B n q d).1 = 0) : XW (xdline B n q d) := by
  have h0 : 0 ≤ d 0 3 := by
    have := h.2.1
    unfold XC at this
    omega
  have hx := xdP_line h.1 h0 f
  unfold xline at f
  unfold xdline at hx ⊢
  split
  · next c0 =>
    rw [if_pos c0] at f
    exact XW_law h f
  · next c0 =>
    rw [if_neg c0] at f hx
    split
    · next c1 =>
      rw [if_pos c1] at f hx
      exact XW_per h hx f
    · next c1 =>
      rw [if_neg c1] at f
      split
      · next c2 =>
        rw [if_pos c2] at f
        exact XW_sex h f
      · next c2 =>
        rw [if_neg c2] at f
        split
        · next c3 =>
          rw [if_pos c3] at f
          exact XW_ap h f
        · next c3 =>
          rw [if_neg c3] at f
          split
          · next c4 =>
            rw [if_pos c4] at f
            exact XW_bo h f
          · next c4 =>
            rw [if_neg c4] at f
            split
            · next c5 =>
              rw [if_pos c5] at f
              exact XW_st h f
            · next c5 =>
              rw [if_neg c5] at f
              split
              · next c6 =>
                rw [if_pos c6] at f
                exact XW_tl h f
              · next c6 =>
                rw [if_neg c6] at f
                split at f
                · exact XW_of h f
                · cases f
theorem XV_xpf : ∀ (f : Nat) (q : Int) (d : xD), XW d → (xpf B n f q d).1.1 = 0 → XV (xpf B n f q d).2
  | 0, q, d, _, h => absurd (show (1 : Int) = 0 from h) (by decide)
  | f + 1, q, d, hw, h => by
    unfold xpf at h ⊢
    split at h
    · next a =>
      rw [if_pos a]
      have hw2 := XW_line hw a
      split at h
      · next b =>
        rw [if_pos b]
        split at h
        · next c =>
          rw [if_pos c]
          have z1 : 1 ≤ xdline B n q d 0 0 := by omega
          have z2 : 1 ≤ xdline B n q d 0 3 := by omega
          exact ⟨hw2, z1, z2⟩
        · cases h
      · next b =>
        rw [if_neg b]
        split at h
        · next c =>
          rw [if_pos c]
          exact XV_xpf f _ _ hw2 h
        · cases h
    · next a => exact absurd h a
theorem XV_parse (h : (xparse B n).1.1 = 0) : XV (xparse B n).2 := XV_xpf 902 _ xD0 XW_0 h
theorem XV_set (h : XV d) : XV (xset d) := by
  obtain ⟨⟨hP, hC, h1, h2, h3, h4, h5, h6, h7, h8⟩, h9, h10⟩ := h
  refine ⟨⟨xdP_set hP, hC, h1, h2, h3, h4, fun k hk => ?_, fun k hk => ?_, h7, fun k => ?_⟩, h9, h10⟩
  · rw [xset_15]
    unfold xmk
    have := h5 k hk
    unfold xhB at this ⊢
    split
    · have a := @xhs_b 0 (d 0 0)
      have b := wq_and_b (d 15 k) (y := xal d) a.1 (by have := a.2; unfold xal; omega)
      unfold xal at b ⊢
      omega
    · exact this
  · rw [xset_16]
    unfold xmk
    have := h6 k hk
    unfold xhB at this ⊢
    split
    · have a := @xhs_b 0 (d 0 0)
      have b := wq_and_b (d 16 k) (y := xal d) a.1 (by have := a.2; unfold xal; omega)
      unfold xal at b ⊢
      omega
    · exact this
  · rw [xset_13]
    unfold xcu
    split
    · omega
    · exact h8 k
end XVL
end
section
/-! THE FEWEST WATCHES (own work) -/
def xho (f : Nat → Int) (S : Int) : Nat → Int
  | 0 => 0
  | n + 1 => if wq_and (wq_shr S n) 1 = 0 then xho f S n else wq_or (xho f S n) (f n)
theorem bv_an {x y : BitVec 32} (h : x &&& (y ^^^ BitVec.allOnes 32) = 0#32) : y &&& x = x := by
  apply BitVec.eq_of_getLsbD_eq
  intro i hi
  have h1 := congrArg (fun v => BitVec.getLsbD v i) h
  simp only [BitVec.getLsbD_and, BitVec.getLsbD_xor, BitVec.getLsbD_allOnes, BitVec.getLsbD_zero, decide_eq_true hi] at h1 ⊢
  revert h1
  cases x.getLsbD i <;> cases y.getLsbD i <;> decide
theorem bv_na {x y : BitVec 32} (h : y &&& x = x) : x &&& (y ^^^ BitVec.allOnes 32) = 0#32 := by
  apply BitVec.eq_of_getLsbD_eq
  intro i hi
  have h1 := congrArg (fun v => BitVec.getLsbD v i) h
  simp only [BitVec.getLsbD_and, BitVec.getLsbD_xor, BitVec.getLsbD_allOnes, BitVec.getLsbD_zero, decide_eq_true hi] at h1 ⊢
  revert h1
  cases x.getLsbD i <;> cases y.getLsbD i <;> decide
theorem i32_inj {x y : Int32} (h : x.toInt = y.toInt) : x = y := by
  rw [← Int32.ofInt_toInt x, ← Int32.ofInt_toInt y, h]
theorem wq_and_or {x y a : Int} : wq_and (wq_or x y) a = wq_or (wq_and x a) (wq_and y a) := by
  unfold wq_and wq_or
  rw [Int32.ofInt_toInt, Int32.ofInt_toInt, Int32.ofInt_toInt]
  exact congrArg Int32.toInt (Int32.toBitVec_inj.mp (BitVec.and_or_distrib_right : ((Int32.ofInt x).toBitVec ||| (Int32.ofInt y).toBitVec) &&& (Int32.ofInt a).toBitVec = _))
theorem wq_an {a y : Int} (ha : -2147483648 ≤ a ∧ a ≤ 2147483647) : wq_and a (wq_xor y (-1)) = 0 ↔ wq_and y a = a := by
  have e1 : wq_and a (wq_xor y (-1)) = (Int32.ofInt a &&& (Int32.ofInt y ^^^ Int32.ofInt (-1))).toInt := by
    unfold wq_and wq_xor
    rw [Int32.ofInt_toInt]
  have e2 : (Int32.ofInt a).toInt = a := Int32.toInt_ofInt_of_le ha.1 (by omega)
  have m1 : (Int32.ofInt (-1)).toBitVec = BitVec.allOnes 32 := by decide
  rw [e1]
  constructor
  · intro h
    have h1 : (Int32.ofInt a &&& (Int32.ofInt y ^^^ Int32.ofInt (-1))) = 0 := i32_inj (h.trans (by decide))
    have h2 : (Int32.ofInt a).toBitVec &&& ((Int32.ofInt y).toBitVec ^^^ BitVec.allOnes 32) = 0#32 := by
      rw [← m1]
      exact congrArg Int32.toBitVec h1
    have h3 : Int32.ofInt y &&& Int32.ofInt a = Int32.ofInt a := Int32.toBitVec_inj.mp (bv_an h2)
    show (Int32.ofInt y &&& Int32.ofInt a).toInt = a
    rw [h3, e2]
  · intro h
    have h1 : Int32.ofInt y &&& Int32.ofInt a = Int32.ofInt a := i32_inj (show (Int32.ofInt y &&& Int32.ofInt a).toInt = (Int32.ofInt a).toInt from h.trans e2.symm)
    have h2 := bv_na (show (Int32.ofInt y).toBitVec &&& (Int32.ofInt a).toBitVec = (Int32.ofInt a).toBitVec from congrArg Int32.toBitVec h1)
    rw [← m1] at h2
    have h3 : (Int32.ofInt a &&& (Int32.ofInt y ^^^ Int32.ofInt (-1))) = 0 := Int32.toBitVec_inj.mp h2
    rw [h3]
    decide
section XHO

variable {f g : Nat → Int} {S a v i : Int} {n : Nat}
theorem xho_y (h : 0 ≤ i) (hp : wq_and (wq_shr S i) 1 ≠ 0) : xho f S (i + 1).toNat = wq_or (xho f S i.toNat) (f i.toNat) := by
  rw [show (i + 1).toNat = i.toNat + 1 by omega]
  show (if wq_and (wq_shr S (i.toNat : Nat)) 1 = 0 then xho f S i.toNat else wq_or (xho f S i.toNat) (f i.toNat)) = _
  rw [Int.toNat_of_nonneg h, if_neg hp]
theorem xho_n (h : 0 ≤ i) (hp : wq_and (wq_shr S i) 1 = 0) : xho f S (i + 1).toNat = xho f S i.toNat := by
  rw [show (i + 1).toNat = i.toNat + 1 by omega]
  show (if wq_and (wq_shr S (i.toNat : Nat)) 1 = 0 then xho f S i.toNat else wq_or (xho f S i.toNat) (f i.toNat)) = _
  rw [Int.toNat_of_nonneg h, if_pos hp]
theorem xho_m : ∀ n : Nat, (n : Int) ≤ v → xho (xmk f a v) S n = wq_and (xho f S n) a
  | 0, _ => by
    show (0 : Int) = wq_and 0 a
    unfold wq_and
    rw [show Int32.ofInt 0 = 0 from rfl, Int32.zero_and]
    rfl
  | n + 1, h => by
    show (if wq_and (wq_shr S n) 1 = 0 then xho (xmk f a v) S n else wq_or (xho (xmk f a v) S n) (xmk f a v n)) = wq_and (if wq_and (wq_shr S n) 1 = 0 then xho f S n else wq_or (xho f S n) (f n)) a
    rw [xho_m n (by omega)]
    split
    · rfl
    · rw [wq_and_or]
      unfold xmk
      rw [if_pos (by omega)]
end XHO
/-- the sets of offers by which all HOURS are watched; which of two comes first -/
def xhK (d : xD) (S : Int) : Prop := xho (d 16) S (d 0 7).toNat = xal d
def xhT (d : xD) (S : Int) : Prop := 0 ≤ S ∧ S < 2 ^ (d 0 7).toNat
def nbS (S : Int) : Nat := nbf 24 S.toNat
def xhL (x y : Int) : Prop := nbS x < nbS y ∨ (nbS x = nbS y ∧ x ≤ y)
/-- x is what KEEP answers -/
def xhA (d : xD) (x : Int) : Prop := (x = -2 ∧ ∀ S, xhT d S → ¬ xhK d S) ∨ (xhT d x ∧ xhK d x ∧ ∀ S, xhT d S → xhK d S → xhL x S)
theorem xhA_1 {d : xD} {x y : Int} (h : xhA d x) (k : xhA d y) : x = y := by
  rcases h with ⟨h1, h2⟩ | ⟨h1, h2, h3⟩
  · rcases k with ⟨k1, -⟩ | ⟨k1, k2, -⟩
    · omega
    · exact absurd k2 (h2 y k1)
  · rcases k with ⟨k1, k2⟩ | ⟨k1, k2, k3⟩
    · exact absurd h2 (k2 x h1)
    · have a := h3 y k1 k2
      have b := k3 x h1 h2
      unfold xhL at a b
      omega
theorem xhA_z {d : xD} {x y : Int} (h : x = y) (k : xhA d y) : xhA d x := by
  rw [h]
  exact k
/-- the class's loops: so many, and from which set on -/
def xhC (d : xD) (m b : Int) : Prop := ∀ S, xhT d S → 0 < S → ((nbS S : Int) < m ∨ ((nbS S : Int) = m ∧ S < b)) → ¬ xhK d S
theorem nbS_6 {S : Int} {n : Nat} (hn : n ≤ 6) (h0 : 0 ≤ S) (h : S < 2 ^ n) : nbS S ≤ n ∧ (0 < S → 0 < nbS S) := by
  have all : (List.range 7).all (fun n => (List.range (2 ^ n)).all (fun x => decide (nbf 24 x ≤ n ∧ (0 < x → 0 < nbf 24 x)))) = true := by decide +kernel
  have a := List.all_eq_true.mp all n (List.mem_range.mpr (by omega))
  have e : ((2 ^ n : Nat) : Int) = 2 ^ n := Int.natCast_pow 2 n
  have b := of_decide_eq_true (List.all_eq_true.mp a S.toNat (List.mem_range.mpr (by omega)))
  unfold nbS
  exact ⟨b.1, fun h => b.2 (by omega)⟩
theorem shl1_6 {n : Int} (h : 0 ≤ n ∧ n ≤ 6) : wq_shl 1 n = 2 ^ n.toNat := by
  have all : (List.range 7).all (fun n => decide (wq_shl 1 (n : Int) = 2 ^ n)) = true := by decide +kernel
  have q := of_decide_eq_true (List.all_eq_true.mp all n.toNat (List.mem_range.mpr (by omega)))
  rw [Int.toNat_of_nonneg h.1] at q
  exact q
theorem p2_6 {n : Nat} : (1 : Int) ≤ 2 ^ n := by
  have h : ((2 ^ n : Nat) : Int) = 2 ^ n := Int.natCast_pow 2 n
  have := Nat.two_pow_pos n
  omega
section XHC

variable {d : xD} {m b x S : Int}
theorem xhC_0 (h7 : 0 ≤ d 0 7 ∧ d 0 7 ≤ 6) : xhC d 1 1 := fun S hS h1 h2 => by
  have := @nbS_6 S (d 0 7).toNat (by omega) hS.1 hS.2
  omega
theorem xhC_n (h : xhC d m b) (hb : (nbS b : Int) ≠ m ∨ ¬ xhK d b) : xhC d m (b + 1) := fun S hS h1 h2 => by
  by_cases e : S = b
  · subst e
    rcases hb with hb | hb
    · rcases h2 with h2 | h2
      · exact h S hS h1 (Or.inl h2)
      · exact absurd h2.1 hb
    · exact hb
  · refine h S hS h1 ?_
    omega
theorem xhC_o (h : xhC d m b) (hb : 2 ^ (d 0 7).toNat ≤ b) : xhC d (m + 1) 1 := fun S hS h1 h2 => by
  refine h S hS h1 ?_
  have := hS.2
  omega
theorem xhC_r (h : xhC d m b) (hT : xhT d b) (hm : (nbS b : Int) = m) (hk : xhK d b) (hz : ¬ xhK d 0) : xhA d b := by
  refine Or.inr ⟨hT, hk, fun S hS hK => ?_⟩
  by_cases h0 : 0 < S
  · have h1 := h S hS h0
    unfold xhL
    by_cases c : (nbS S : Int) < m ∨ ((nbS S : Int) = m ∧ S < b)
    · exact absurd hK (h1 c)
    · omega
  · have : S = 0 := by
      have := hS.1
      omega
    subst this
    exact absurd hK hz
theorem xhC_e (h : xhC d m b) (h7 : 0 ≤ d 0 7 ∧ d 0 7 ≤ 6) (hm : d 0 7 < m) (hz : ¬ xhK d 0) : xhA d (-2) := by
  refine Or.inl ⟨rfl, fun S hS hK => ?_⟩
  by_cases h0 : 0 < S
  · have := (@nbS_6 S (d 0 7).toNat (by omega) hS.1 hS.2).1
    exact h S hS h0 (Or.inl (by omega)) hK
  · have : S = 0 := by
      have := hS.1
      omega
    subst this
    exact hz hK
theorem xho_z {f : Nat → Int} : ∀ n : Nat, n ≤ 6 → xho f 0 n = 0
  | 0, _ => rfl
  | n + 1, h => by
    show (if wq_and (wq_shr 0 n) 1 = 0 then xho f 0 n else wq_or (xho f 0 n) (f n)) = 0
    have all : (List.range 7).all (fun n => decide (wq_and (wq_shr 0 (n : Nat)) 1 = 0)) = true := by decide +kernel
    rw [if_pos (of_decide_eq_true (List.all_eq_true.mp all n (List.mem_range.mpr (by omega))))]
    exact xho_z n (by omega)
theorem xal_pos (h : 1 ≤ d 0 0) : xal d ≠ 0 := by
  unfold xal
  have h1 : ∀ n : Nat, 1 ≤ xhf 0 (d 0 0) (n + 1) := fun n => by
    induction n with
    | zero =>
      show 1 ≤ xhf 0 (d 0 0) 0 + (if (0 : Int) ≤ ((0 : Nat) : Int) ∧ ((0 : Nat) : Int) < d 0 0 then 2 ^ 0 else 0)
      rw [if_pos ⟨by omega, by omega⟩]
      show (1 : Int) ≤ 0 + 2 ^ 0
      decide
    | succ n ih =>
      have h2 : (0 : Int) ≤ 2 ^ (n + 1) := Int.le_of_lt (Int.pow_pos (by decide))
      show 1 ≤ xhf 0 (d 0 0) (n + 1) + (if (0 : Int) ≤ ((n + 1 : Nat) : Int) ∧ ((n + 1 : Nat) : Int) < d 0 0 then 2 ^ (n + 1) else 0)
      split <;> omega
  have h3 : 1 ≤ xhf 0 (d 0 0) 24 := h1 23
  unfold xhs
  omega
theorem xhK_0 (h : 1 ≤ d 0 0) (h7 : 0 ≤ d 0 7 ∧ d 0 7 ≤ 6) : ¬ xhK d 0 := fun k => by
  unfold xhK at k
  rw [xho_z (d 0 7).toNat (by omega)] at k
  exact xal_pos h k.symm
/-- the reference's loop: the best of the sets below s -/
def xhG (d : xD) (x s : Int) : Prop := (x = -2 ∧ ∀ S, 0 ≤ S → S < s → ¬ xhK d S) ∨ (0 ≤ x ∧ x < s ∧ xhK d x ∧ ∀ S, 0 ≤ S → S < s → xhK d S → xhL x S)
theorem xhG_0 : xhG d (-2) 0 := Or.inl ⟨rfl, fun S h1 h2 => by omega⟩
theorem xhG_n {s : Int} (h : xhG d x s) (hk : ¬ xhK d s) : xhG d x (s + 1) := by
  rcases h with ⟨h1, h2⟩ | ⟨h1, h2, h3, h4⟩
  · refine Or.inl ⟨h1, fun S a b => ?_⟩
    by_cases e : S = s
    · rw [e]
      exact hk
    · exact h2 S a (by omega)
  · refine Or.inr ⟨h1, by omega, h3, fun S a b c => ?_⟩
    by_cases e : S = s
    · rw [e] at c
      exact absurd c hk
    · exact h4 S a (by omega) c
theorem xhG_y {s : Int} (h : xhG d x s) (h0 : 0 ≤ s) (hk : xhK d s) (hx : x = -2 ∨ nbS s < nbS x) : xhG d s (s + 1) := by
  refine Or.inr ⟨h0, by omega, hk, fun S a b c => ?_⟩
  unfold xhL
  by_cases e : S = s
  · subst e
    omega
  · rcases h with ⟨h1, h2⟩ | ⟨h1, h2, h3, h4⟩
    · exact absurd c (h2 S a (by omega))
    · have := h4 S a (by omega) c
      unfold xhL at this
      omega
theorem xhG_k {s : Int} (h : xhG d x s) (h0 : 0 ≤ s) (hx : x ≠ -2) (hn : nbS x ≤ nbS s) : xhG d x (s + 1) := by
  rcases h with ⟨h1, h2⟩ | ⟨h1, h2, h3, h4⟩
  · exact absurd h1 hx
  · refine Or.inr ⟨h1, by omega, h3, fun S a b c => ?_⟩
    by_cases e : S = s
    · subst e
      unfold xhL
      omega
    · exact h4 S a (by omega) c
theorem xhG_e {s : Int} (h : xhG d x s) (hs : s = 2 ^ (d 0 7).toNat) : xhA d x := by
  subst hs
  rcases h with ⟨h1, h2⟩ | ⟨h1, h2, h3, h4⟩
  · exact Or.inl ⟨h1, fun S a => h2 S a.1 a.2⟩
  · exact Or.inr ⟨⟨h1, h2⟩, h3, fun S a => h4 S a.1 a.2⟩
/-- by the reference's own hours -/
theorem xhK_m {dm : xD} (h7 : 0 ≤ dm 0 7) : wq_and (xal dm) (wq_xor (xho (dm 16) S (dm 0 7).toNat) (-1)) = 0 ↔ xhK (xset dm) S := by
  have hb := @xhs_b 0 (dm 0 0)
  rw [wq_an (by unfold xal; omega)]
  unfold xhK
  rw [xset_16, xset_al, xset_v.2.2.2.2.2.2.2.1, xho_m (v := dm 0 7) (dm 0 7).toNat (by omega)]
end XHC
end
section
/-- a SPAN for each person -/
def SG (d : xD) (g : Nat → Int) : Prop := ∀ k : Nat, (k : Int) < d 0 3 → 0 ≤ g k ∧ (g k = 0 ∨ g k < (xsp d k).length)
section WALK

variable {d : xD} {g : Nat → Int} {k n h i j : Nat} {x : Int × Int} {v w z : Int}
/-- no two that are told apart are one -/
def XN (d : xD) : Prop := ∀ k : Nat, (k : Int) < d 0 4 → 0 ≤ d 10 k ∧ d 10 k < d 0 3 ∧ 0 ≤ d 11 k ∧ d 11 k < d 0 3 ∧ d 10 k ≠ d 11 k
end WALK
section WREL

variable {T : wq_T} {H H' : wq_H} {l : List (Nat × Nat)} {w : Nat} {c : Int} {f g : Nat → Int} {d : xD}
end WREL

section WALK2

variable {T : wq_T} {H H' : wq_H} {l : List (Nat × Nat)} {r b o S tg w k n i : Nat} {c v x y z a a' b' q : Int} {f f' g : Nat → Int} {d e : xD}
end WALK2
section RROW

variable {T : wq_T} {H H' : wq_H} {l : List (Nat × Nat)} {r b k t m mp : Nat} {c c' : Int} {f : Nat → Int} {d e : xD}
end RROW
end
section
/-! WHO IS TOLD APART (own work): two that are told apart are two; what is SAID are SPANS -/
section XNL

variable {B : Nat → Int} {n q : Int} {d : xD} {g : Nat → Int} {a v : Int}
theorem XN_0 : XN xD0 := fun k hk => by
  have e4 : xD0 0 4 = 0 := rfl
  omega
theorem XN_st {d' : xD} (h : XN d) (e3 : d 0 3 ≤ d' 0 3) (e4 : d' 0 4 = d 0 4) (er : ∀ i, 10 ≤ i → i ≤ 11 → d' i = d i) : XN d' := fun k hk => by
  have := h k (by omega)
  rw [er 10 (by decide) (by decide), er 11 (by decide) (by decide)]
  omega
theorem XN_ap (hw : XW d) (h : XN d) (f : (xl3 B n q d).1 = 0) : XN (xdap B n (xN B n q) d) := by
  obtain ⟨hP, hC, hR⟩ := hw
  unfold xl3 at f
  split at f
  · cases f
  · unfold xap at f
    simp only [xs_iff] at f
    obtain ⟨f1, -, f2, f3⟩ := f
    have f1 := xkn_z f1
    have f2 := xkn_z f2
    unfold xwB at f1 f2
    have f3 : xac d (xwho B n (xN B n q) d) (xwho B n (xN B n (xN B n (xN B n q))) d) = 0 := f3.1
    have v := @xdap_v B n (xN B n q) d
    unfold XC at hC
    have hk : (((d 0 4).toNat : Nat) : Int) = d 0 4 := by omega
    have c1 := @xdap_c B n (xN B n q) d _ hk
    have c2 := @xdap_e B n (xN B n q) d _ hk
    have ne : xwho B n (xN B n q) d ≠ xwho B n (xN B n (xN B n (xN B n q))) d := fun e => by
      unfold xac xag at f3
      rw [if_pos e] at f3
      cases f3
    intro k hk2
    by_cases e : k = (d 0 4).toNat
    · rw [e, c1.1, c2.1]
      omega
    · have := h k (by omega)
      rw [c1.2 k e, c2.2 k e]
      omega
theorem XN_line (hw : XW d) (h : XN d) (f : (xline B n q d).1 = 0) : XN (xdline B n q d) := by
  unfold xline at f
  unfold xdline
  split
  · have v := @xdlaw_v B n (xN B n q) d
    exact XN_st h (by omega) (by omega) (fun i h1 h2 => xdlaw_r (by omega))
  · next c0 =>
    rw [if_neg c0] at f
    split
    · have v := @xdper_v B n (xN B n q) d
      exact XN_st h (by omega) (by omega) (fun i h1 h2 => xdper_r h1)
    · next c1 =>
      rw [if_neg c1] at f
      split
      · have v := @xdsex_v B n (xN B n q) d
        exact XN_st h (by omega) (by omega) (fun i h1 h2 => xdsex_r (by omega))
      · next c2 =>
        rw [if_neg c2] at f
        split
        · next c3 =>
          rw [if_pos c3] at f
          exact XN_ap hw h f
        · split
          · exact XN_st h (by unfold xdbo; rw [wq_u_e2 (fun c => by omega), wq_u_row (by decide)]; exact Int.le_refl _) (by unfold xdbo; rw [wq_u_e2 (fun c => by omega), wq_u_row (by decide)]) (fun i h1 h2 => by unfold xdbo; rw [wq_u_row (by omega), wq_u_row (by omega)])
          · split
            · exact XN_st h (by unfold xdst; rw [wq_u_row (by decide)]; exact Int.le_refl _) (by unfold xdst; rw [wq_u_row (by decide)]) (fun i h1 h2 => by unfold xdst; rw [wq_u_row (by omega)])
            · split
              · exact XN_st h (by unfold xdtl; rw [wq_u_e2 (fun c => by omega), wq_u_row (by decide), wq_u_row (by decide)]; exact Int.le_refl _) (by unfold xdtl; rw [wq_u_e2 (fun c => by omega), wq_u_row (by decide), wq_u_row (by decide)]) (fun i h1 h2 => by unfold xdtl; rw [wq_u_row (by omega), wq_u_row (by omega), wq_u_row (by omega)])
              · exact XN_st h (by unfold xdof; rw [wq_u_e2 (fun c => by omega), wq_u_row (by decide), wq_u_row (by decide)]; exact Int.le_refl _) (by unfold xdof; rw [wq_u_e2 (fun c => by omega), wq_u_row (by decide), wq_u_row (by decide)]) (fun i h1 h2 => by unfold xdof; rw [wq_u_row (by omega), wq_u_row (by omega), wq_u_row (by omega)])
theorem XN_xpf : ∀ (f : Nat) (q : Int) (d : xD), XW d → XN d → (xpf B n f q d).1.1 = 0 → XN (xpf B n f q d).2
  | 0, q, d, _, _, h => absurd (show (1 : Int) = 0 from h) (by decide)
  | f + 1, q, d, hw, hn, h => by
    unfold xpf at h ⊢
    split at h
    · next a =>
      rw [if_pos a]
      have hw2 := XW_line hw a
      have hn2 := XN_line hw hn a
      split at h
      · next b =>
        rw [if_pos b]
        split at h
        · next c =>
          rw [if_pos c]
          exact hn2
        · cases h
      · next b =>
        rw [if_neg b]
        split at h
        · next c =>
          rw [if_pos c]
          exact XN_xpf f _ _ hw2 hn2 h
        · cases h
    · next a => exact absurd h a
theorem XN_parse (h : (xparse B n).1.1 = 0) : XN (xparse B n).2 := XN_xpf 902 _ xD0 XW_0 XN_0 h
/-- what is known of what is told, between calls -/
def XA (d : xD) : Prop := XW d ∧ XN d
theorem XA_0 : XA xD0 := ⟨XW_0, XN_0⟩
theorem XA_set (h : (xparse B n).1.1 = 0) : XA (xset (xparse B n).2) ∧ 1 ≤ xset (xparse B n).2 0 0 ∧ 1 ≤ xset (xparse B n).2 0 3 := by
  have h1 := XV_set (XV_parse h)
  exact ⟨⟨h1.1, XN_parse h⟩, h1.2.1, h1.2.2⟩
theorem SG_0 : SG d (fun _ => 0) := fun k hk => ⟨Int.le_refl _, Or.inl rfl⟩
theorem SG_up {k : Nat} (h : SG d g) (h0 : 0 ≤ v) (hv : v < ((xsp d k).length : Int)) : SG d (xup g k v) := fun j hj => by
  by_cases e : j = k
  · subst e
    rw [xup_e]
    exact ⟨h0, Or.inr hv⟩
  · rw [xup_n e]
    exact h j hj
theorem xpd_at : ∀ m k j : Nat, xpd d a k m = 0 → k ≤ j → j < k + m → xdg d a j = 0 ∨ xdg d a j < ((xsp d j).length : Int)
  | 0, k, j, _, h1, h2 => by omega
  | m + 1, k, j, h, h1, h2 => by
    have h3 : (if xdg d a k = 0 ∨ xdg d a k < ((xsp d k).length : Int) then 0 else 1) + xpd d a (k + 1) m = 0 := h
    have h4 := @xpd_p d a m (k + 1)
    by_cases c : xdg d a k = 0 ∨ xdg d a k < ((xsp d k).length : Int)
    · rw [if_pos c] at h3
      by_cases e : j = k
      · rw [e]
        exact c
      · exact xpd_at m (k + 1) j (by omega) (by omega) (by omega)
    · rw [if_neg c] at h3
      omega
theorem SG_im (h : xpd d a 0 (d 0 3).toNat = 0) : SG d (xdg d a) := fun k hk => by
  refine ⟨?_, xpd_at _ 0 k h (Nat.zero_le _) (by omega)⟩
  unfold xdg
  omega
end XNL
end
