/-! IMAGE (own work): a number of what is SAID and CURSOR -/
def xim (c : Int) (g : Nat → Int) : Nat → Int
  | 0 => c
  | k + 1 => xim c g k * 40 + g k
def pw40 : Nat → Int
  | 0 => 1
  | k + 1 => 40 * pw40 k
theorem pw40_5 {k : Nat} (hk : k ≤ 5) : 1 ≤ pw40 k ∧ pw40 k ≤ 102400000 := by
  have h := List.all_eq_true.mp (show (List.range 6).all (fun k => decide (1 ≤ pw40 k) && decide (pw40 k ≤ 102400000)) = true by decide) k (List.mem_range.mpr (by omega))
  rw [Bool.and_eq_true] at h
  exact ⟨of_decide_eq_true h.1, of_decide_eq_true h.2⟩
theorem xim_b {c n : Int} {g : Nat → Int} (hc : 0 ≤ c ∧ c ≤ 2147483647) (hg : ∀ k : Nat, (k : Int) < n → 0 ≤ g k ∧ g k ≤ 39) : ∀ k : Nat, (k : Int) ≤ n → 0 ≤ xim c g k ∧ xim c g k < 2147483648 * pw40 k
  | 0, _ => by
    show 0 ≤ c ∧ c < 2147483648 * 1
    omega
  | k + 1, h => by
    have h1 := xim_b hc hg k (by omega)
    have h2 := hg k (by omega)
    show 0 ≤ xim c g k * 40 + g k ∧ xim c g k * 40 + g k < 2147483648 * (40 * pw40 k)
    omega
theorem SG_39 {d : xD} {g : Nat → Int} {n : Int} (hP : xdP d) (h : SG d g) (hn : n ≤ d 0 3) : ∀ k : Nat, (k : Int) < n → 0 ≤ g k ∧ g k ≤ 39 := fun k hk => by
  have h1 := h k (by omega)
  have h2 := @xsp_len d k hP
  omega
theorem XNX_z {f : Nat → Int} {N : Nat} {c z z' : Int} (h : XNX f N c z) (e : z' = z) : XNX f N c z' := by
  rw [e]
  exact h
/-- how much there is -/
def xsz (e d : xD) (c a : Int) : Int := if a < 0 ∨ 8 < a then -1 else if a = 0 then d 0 3 else if a = 1 then d 0 4 else if a = 2 then d 0 5 else if a = 3 then xcn (e 13) 24 else if a = 4 then d 0 6 else if a = 5 then d 0 7 else if a = 6 then d 0 0 else if a = 7 then (if d 0 0 = 0 then 0 else xsx (d 0 8)) else c
theorem xsz_0 {a : Int} (h0 : 0 ≤ a) (h1 : a ≤ 8) : xsz xD0 xD0 0 a = 0 := by
  have h := List.all_eq_true.mp (show (List.range 9).all (fun n => decide (xsz xD0 xD0 0 (n : Int) = 0)) = true by decide +kernel) a.toNat (List.mem_range.mpr (by omega))
  have h := of_decide_eq_true h
  rw [Int.toNat_of_nonneg h0] at h
  exact h
theorem RP_8 {T : wq_T} {H : wq_H} {m mp : Nat} {e d : xD} (h : RP T H m mp e d) : -1 ≤ d 0 8 := by
  obtain ⟨-, ⟨dm, h3, rfl⟩, -⟩ := h
  exact h3.1.2.2.2.2.2.2.2.2.2.1
