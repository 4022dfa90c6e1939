/-! AN IMAGE (own work): what it says of each person, whether that is a SPAN of it -/
def xdg (d : xD) (a : Int) (k : Nat) : Int := wdv ((d 0 3).toNat - 1 - k) a % 40
def xpd (d : xD) (a : Int) : Nat → Nat → Int
  | _, 0 => 0
  | k, m + 1 => (if xdg d a k = 0 ∨ xdg d a k < ((xsp d k).length : Int) then 0 else 1) + xpd d a (k + 1) m
section IMG6

variable {d : xD} {a v x i : Int} {k m : Nat}
theorem xpd_p : ∀ m k : Nat, 0 ≤ xpd d a k m
  | 0, _ => Int.le_refl _
  | m + 1, k => by
    have h := xpd_p m (k + 1)
    show 0 ≤ (if xdg d a k = 0 ∨ xdg d a k < ((xsp d k).length : Int) then 0 else 1) + xpd d a (k + 1) m
    split <;> omega
theorem xpd_i : ∀ j k m : Nat, xpd d a (k + j) m ≤ xpd d a k (j + m)
  | 0, k, m => by
    rw [Nat.zero_add]
    exact Int.le_refl _
  | j + 1, k, m => by
    have h := xpd_i j (k + 1) m
    rw [show k + 1 + j = k + (j + 1) by omega] at h
    rw [show j + 1 + m = (j + m) + 1 by omega]
    show _ ≤ (if xdg d a k = 0 ∨ xdg d a k < ((xsp d k).length : Int) then 0 else 1) + xpd d a (k + 1) (j + m)
    split <;> omega
theorem xpd_e (h : i = d 0 3) : xpd d a i.toNat ((d 0 3).toNat - i.toNat) = 0 := by
  subst h
  rw [Nat.sub_self]
  rfl
theorem xdg_e (h0 : 0 ≤ i) (hi : i < d 0 3) (hx : x = wdv (d 0 3 - 1 - i).toNat a) (hd : v = x % 40) : v = xdg d a i.toNat := by
  unfold xdg
  rw [hd, hx, show (d 0 3 - 1 - i).toNat = (d 0 3).toNat - 1 - i.toNat by omega]
theorem xpd_1 (h0 : 0 ≤ i) (hi : i < d 0 3) : xpd d a i.toNat ((d 0 3).toNat - i.toNat) = (if xdg d a i.toNat = 0 ∨ xdg d a i.toNat < ((xsp d i.toNat).length : Int) then 0 else 1) + xpd d a (i + 1).toNat ((d 0 3).toNat - (i + 1).toNat) := by
  rw [show (i + 1).toNat = i.toNat + 1 by omega, show (d 0 3).toNat - i.toNat = ((d 0 3).toNat - (i.toNat + 1)) + 1 by omega]
  rfl
/-- this person's is good, too -/
theorem xpd_s (h0 : 0 ≤ i) (hi : i < d 0 3) (hx : a < 0 ∨ x = wdv (d 0 3 - 1 - i).toNat a) (hd : a < 0 ∨ v = x % 40) (hg : v = 0 ∨ v < ((xsp d i.toNat).length : Int)) (h : a < 0 ∨ xpd d a (i + 1).toNat ((d 0 3).toNat - (i + 1).toNat) = 0) : a < 0 ∨ xpd d a i.toNat ((d 0 3).toNat - i.toNat) = 0 := by
  by_cases ha : a < 0
  · exact Or.inl ha
  · have e := xdg_e h0 hi (hx.resolve_left ha) (hd.resolve_left ha)
    rw [e] at hg
    rw [xpd_1 h0 hi, if_pos hg]
    exact Or.inr (by have := h.resolve_left ha; omega)
/-- this person's isn't -/
theorem xpd_n (h0 : 0 ≤ i) (hi : i < d 0 3) (hx : a < 0 ∨ x = wdv (d 0 3 - 1 - i).toNat a) (hd : a < 0 ∨ v = x % 40) (hg : v ≠ 0) (hl : ((xsp d i.toNat).length : Int) ≤ v) : a < 0 ∨ 0 < xpd d a 0 (d 0 3).toNat := by
  by_cases ha : a < 0
  · exact Or.inl ha
  · have e := xdg_e h0 hi (hx.resolve_left ha) (hd.resolve_left ha)
    have h1 := xpd_1 (a := a) h0 hi
    rw [if_neg (by omega)] at h1
    have h2 := @xpd_p d a ((d 0 3).toNat - (i + 1).toNat) (i + 1).toNat
    have h3 := @xpd_i d a i.toNat 0 ((d 0 3).toNat - i.toNat)
    rw [Nat.zero_add, show i.toNat + ((d 0 3).toNat - i.toNat) = (d 0 3).toNat by omega] at h3
    exact Or.inr (by omega)
theorem wdv_1 (hn : i = d 0 3 - 1) : a = wdv (d 0 3 - 1 - i).toNat a := by
  subst hn
  rw [show (d 0 3 - 1 - (d 0 3 - 1)).toNat = 0 by omega]
  rfl
theorem wdv_n (hi : i < d 0 3) (hx : x = wdv (d 0 3 - 1 - i).toNat a) (e : v = x / 40) : v = wdv (d 0 3 - 1 - (i + (-1))).toNat a := wdv_s hx (by omega) e
theorem wdv_z (hx : x = wdv (d 0 3 - 1 - i).toNat a) (hi : i = -1) : x = wdv (d 0 3).toNat a := by
  rw [hx, hi, show (d 0 3 - 1 - (-1)).toNat = (d 0 3).toNat by omega]
end IMG6
