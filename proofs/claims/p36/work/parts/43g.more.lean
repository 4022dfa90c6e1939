/-! WHAT IS ASKED OF SPANS (own work): the state between calls, seen from a method; over more cells -/
section MORE6

variable {T T' : wq_T} {H H' : wq_H} {m b k mp r s i S tg : Nat} {e d : xD} {v v' n z : Int} {k' : Nat} {C : Nat → Bool} {x p : Nat} {P : List (Int × Int)} {g : Nat → Int × Int → Int}
theorem RB_n3 (h : RB T H m e d) : H m 3 = -1 → d 0 3 = 0 ∧ d 0 0 = 0 := fun q => by
  obtain ⟨h1, h2⟩ := RB_nu h q
  subst h2
  exact ⟨rfl, rfl⟩
theorem RB_ar (h : RB T H m e d) (q : H m 3 ≠ -1) : xdP d ∧ H m 19 = xal d ∧ MN20 T H m 24 (e 13) ∧ MN21 T H m (d 0 3) (lln (xsp d)) ∧ LB22 T H m yb (xsq d) ∧ LB23 T H m yl (xsq d) ∧ LB24 T H m (xas d) (xsq d) ∧ LB25 T H m (xwk d) (xsq d) := by
  rcases h with ⟨h1, -⟩ | ⟨mp, h1, h2, ⟨dm, h3, h4⟩, h5⟩
  · exact absurd h1 q
  · exact ⟨by rw [h4]; exact xdP_set h3.2.1, h5⟩
theorem RB_b (hW : WT T H) (h : RB T H m e d) : 0 ≤ d 0 3 ∧ d 0 3 ≤ 6 ∧ 0 ≤ d 0 0 ∧ d 0 0 ≤ 24 := by
  rcases h with ⟨h1, -, h2⟩ | ⟨mp, h1, h2, ⟨dm, ⟨h3, -⟩, h4⟩, h5⟩
  · subst h2
    decide
  · have e0 : H mp 0 = d 0 0 := by rw [h4]; exact h3.1
    have e3 : H mp 3 = d 0 3 := by rw [h4]; exact h3.2.2.2.1
    have b3 : (0 : Int) ≤ H mp 3 ∧ H mp 3 ≤ 6 := hW.box h2 (n := 27) rfl (by decide) rfl
    have b0 : (0 : Int) ≤ H mp 0 ∧ H mp 0 ≤ 24 := hW.box h2 (n := 27) rfl (by decide) rfl
    omega
theorem wpr_x {f : Nat → Int} : ∀ n m : Nat, (∀ k, k < n → f k = ((xsp d k).length : Int)) → wpr f n * xpr d n m = xpr d 0 (n + m)
  | 0, m, _ => by
    rw [Nat.zero_add]
    show 1 * xpr d 0 m = _
    rw [Int.one_mul]
  | n + 1, m, h => by
    have h1 := wpr_x n (m + 1) (fun k hk => h k (by omega))
    show wpr f n * f n * xpr d (n + 1) m = _
    rw [h n (by omega), Int.mul_assoc, show n + 1 + m = n + (m + 1) by omega]
    exact h1
theorem RB_lm (h : RB T H m e d) : H m 3 ≠ -1 → wLM H m = xlots d := fun q => by
  rcases h with ⟨h1, -⟩ | ⟨mp, h1, h2, ⟨dm, h3, h4⟩, h5, h6, ⟨sp, s1, s2, s3⟩, -⟩
  · exact absurd h1 q
  · rw [wLM_eq h1 s1]
    have e3 : H mp 3 = d 0 3 := by rw [h4]; exact h3.1.2.2.2.1
    rw [e3]
    have t := @wpr_x d (H sp) (d 0 3).toNat 0 (fun k hk => s3 k (by omega))
    have e1 : xpr d (d 0 3).toNat 0 = 1 := rfl
    rw [e1, Int.mul_one] at t
    exact t
theorem LB_x (h : LB S tg T H m g (xsq d)) (e0 : H m S = (b : Int)) (hk : (k : Int) < d 0 3) (h6 : d 0 3 ≤ 6) (hi : i < (xsp d k).length) (hP : xdP d) (hs : s = 40 * k + i) : H b s = g k ((xsp d k).getD i (0, 0)) := by
  have e : xsq d k = xsp d k := if_pos hk
  have h1 := LB_at (k := k) (i := i) h e0 (by omega) (by rw [e]; exact hi) (by rw [e]; have := @xsp_len d k hP; omega)
  rw [e] at h1
  rw [hs]
  exact h1
end MORE6
