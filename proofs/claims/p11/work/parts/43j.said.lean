/-! WHAT IS SAID (own work): one person's changed; all by an image -/
def xup (g : Nat → Int) (k : Nat) (v : Int) : Nat → Int := fun j => if j = k then v else g j
/-- people from i on -/
def CGi (T : wq_T) (H : wq_H) (r : Nat) (i n : Int) (g : Nat → Int) : Prop := ∀ k : Nat, i ≤ (k : Int) → (k : Int) < n → ∃ p : Nat, H (H r 0).toNat k = (p : Int) ∧ T.2.2.2 p = some 35 ∧ H p 16 = g k
section SAID6

variable {T : wq_T} {H H' : wq_H} {l : List (Nat × Nat)} {r p q pa k b m : Nat} {i n v c : Int} {g : Nat → Int} {d : xD}
theorem xup_e : xup g k v k = v := if_pos rfl
theorem xup_n {j : Nat} (h : j ≠ k) : xup g k v j = g j := if_neg h
theorem CG_mono {T' : wq_T} (mo : ∀ a t, T.2.2.2 a = some t → T'.2.2.2 a = some t) (h : CG T H r n g) : CG T' H r n g := fun k hk => by
  obtain ⟨p, h1, h2, h3⟩ := h k hk
  exact ⟨p, h1, mo _ _ h2, h3⟩
theorem CGi_0 (h : n ≤ i) : CGi T H r i n g := fun k p q => by omega
theorem CGi_all (h : CGi T H r i n g) (hi : i ≤ 0) : CG T H r n g := fun k hk => h k (by omega) hk
theorem per_ne {j : Nat} (hd : DD T H r) (e0 : H r 0 = (pa : Int)) (e1 : H pa k = (p : Int)) (hk : k < 6) (hj : j < 6) (e2 : H pa j = (q : Int)) (ne : j ≠ k) : q ≠ p := fun e => by
  obtain ⟨pa', q1, -, q3⟩ := hd
  rw [e0] at q1
  have : pa' = pa := by omega
  subst this
  exact ne (q3 j k hj hk (by rw [e2, e1, e]))
/-- one person's is written: the others' are as they were -/
theorem CGi_w (hd : DD T H r) (e0 : H r 0 = (pa : Int)) (g0 : T.2.2.2 pa = some 28) (gr : T.2.2.2 r = some 27) (e1 : H pa k = (p : Int)) (gp : T.2.2.2 p = some 35) (hk : k < 6) (hn : n ≤ 6) (e : H' = wq_u H p 16 v) (h : ∀ j : Nat, j ≠ k → i ≤ (j : Int) → (j : Int) < n → ∃ q : Nat, H (H r 0).toNat j = (q : Int) ∧ T.2.2.2 q = some 35 ∧ H q 16 = g j) (hv : g k = v) : CGi T H' r i n g := by
  have n1 : ∀ a t, T.2.2.2 a = some t → t ≠ 35 → H' a = H a := fun a t ht ne => by
    rw [e]
    funext j
    exact wq_u_na (fun q => by subst q; rw [gp] at ht; exact ne (Option.some.inj ht).symm) j
  have a1 : ∀ j, H' (H' r 0).toNat j = H (H r 0).toNat j := fun j => by
    rw [n1 r _ gr (by decide), e0, Int.toNat_natCast, n1 pa _ g0 (by decide)]
  intro j hj hj2
  by_cases c : j = k
  · subst c
    refine ⟨p, ?_, gp, ?_⟩
    · rw [a1, e0, Int.toNat_natCast]
      exact e1
    · rw [e, wq_u_eq]
      exact hv.symm
  · obtain ⟨q, q1, q2, q3⟩ := h j c hj hj2
    refine ⟨q, ?_, q2, ?_⟩
    · rw [a1]
      exact q1
    · rw [e0, Int.toNat_natCast] at q1
      have hq : q ≠ p := per_ne hd e0 e1 hk (by omega) q1 c
      rw [e, wq_u_na hq]
      exact q3
theorem CY_put (hd : DD T H r) (e0 : H r 0 = (pa : Int)) (g0 : T.2.2.2 pa = some 28) (gr : T.2.2.2 r = some 27) (e1 : H pa k = (p : Int)) (gp : T.2.2.2 p = some 35) (hk : k < 6) (hn : n ≤ 6) (e : H' = wq_u H p 16 v) (h : CY T H r n g c) : CY T H' r n (xup g k v) c := by
  refine ⟨CGi_all (i := 0) (CGi_w hd e0 g0 gr e1 gp hk hn e (fun j hj _ h2 => ?_) xup_e) (Int.le_refl _), ?_⟩
  · obtain ⟨q, q1, q2, q3⟩ := h.1 j h2
    exact ⟨q, q1, q2, q3.trans (xup_n hj).symm⟩
  · rw [e, wq_u_na (fun q => by subst q; rw [gp] at gr; cases gr)]
    exact h.2
theorem CGi_put (hd : DD T H r) (e0 : H r 0 = (pa : Int)) (g0 : T.2.2.2 pa = some 28) (gr : T.2.2.2 r = some 27) (e1 : H pa k = (p : Int)) (gp : T.2.2.2 p = some 35) (hk : k < 6) (hn : n ≤ 6) (e : H' = wq_u H p 16 v) (hi : (k : Int) = i) (hv : v = g k) (h : CGi T H r (i + 1) n g) : CGi T H' r i n g :=
  CGi_w hd e0 g0 gr e1 gp hk hn e (fun j hj h1 h2 => h j (by omega) h2) hv.symm
theorem RY_put (h : RY T H m n g c) (e0 : H m 26 = (b : Int)) (gm : T.2.2.2 m = some 42) (gb : T.2.2.2 b = some 50) (e : H' = wq_u H b k v) : RY T H' m n (xup g k v) c := by
  refine ⟨DAo_set h.1 e0 gm gb (by decide) e xup_e (fun j hj => xup_n hj), ?_⟩
  rw [e, wq_u_na (fun q => by subst q; rw [gm] at gb; cases gb)]
  exact h.2
end SAID6
