section
/-! WHAT IS TOLD KEEPS ITS BOUNDS (own work) -/
theorem row_ap {f f' : Nat → Int} {c c' : Int} {k : Nat} {P P' : Int → Prop} (h : ∀ j : Nat, (j : Int) < c → P (f j)) (hc : c' = c + 1) (hk : (k : Int) = c) (fk : P' (f' k)) (fn : ∀ j, j ≠ k → f' j = f j) (w : ∀ x, P x → P' x) : ∀ j : Nat, (j : Int) < c' → P' (f' j) := fun j hj => by
  by_cases e : j = k
  · subst e
    exact fk
  · rw [fn j e]
    exact w _ (h j (by omega))
theorem row_st {f f' : Nat → Int} {c c' : Int} {P P' : Int → Prop} (h : ∀ j : Nat, (j : Int) < c → P (f j)) (hc : c' = c) (ef : f' = f) (w : ∀ x, P x → P' x) : ∀ j : Nat, (j : Int) < c' → P' (f' j) := fun j hj => by
  rw [ef]
  exact w _ (h j (by omega))
theorem xhf_b {a b : Int} : ∀ n : Nat, 0 ≤ xhf a b n ∧ xhf a b n + 1 ≤ 2 ^ n
  | 0 => ⟨Int.le_refl _, by show (0 : Int) + 1 ≤ 2 ^ 0; decide⟩
  | n + 1 => by
    have h := @xhf_b a b n
    have h2 : (0 : Int) ≤ 2 ^ n := Int.le_of_lt (Int.pow_pos (by decide))
    show 0 ≤ xhf a b n + (if a ≤ n ∧ (n : Int) < b then 2 ^ n else 0) ∧ xhf a b n + (if a ≤ n ∧ (n : Int) < b then 2 ^ n else 0) + 1 ≤ 2 ^ (n + 1)
    rw [Int.pow_succ]
    split <;> omega
theorem xhs_b {a b : Int} : 0 ≤ xhs a b ∧ xhs a b ≤ 16777215 := by
  have h := @xhf_b a b 24
  have e : (2 : Int) ^ 24 = 16777216 := by decide
  unfold xhs
  omega
def XC (d : xD) : Prop := 0 ≤ d 0 0 ∧ d 0 0 ≤ 24 ∧ 0 ≤ d 0 1 ∧ d 0 1 ≤ 9 ∧ 0 ≤ d 0 2 ∧ d 0 2 ≤ 3 ∧ 0 ≤ d 0 3 ∧ d 0 3 ≤ 6 ∧ 0 ≤ d 0 4 ∧ d 0 4 ≤ 3 ∧ 0 ≤ d 0 5 ∧ d 0 5 ≤ 3 ∧ 0 ≤ d 0 6 ∧ d 0 6 ≤ 4 ∧ 0 ≤ d 0 7 ∧ d 0 7 ≤ 6 ∧ -1 ≤ d 0 8 ∧ d 0 8 < d 0 3
def xwB (p x : Int) : Prop := 0 ≤ x ∧ x < p
def xhB (x : Int) : Prop := 0 ≤ x ∧ x ≤ 16777215
def xrB (x : Int) : Prop := 0 ≤ x ∧ x ≤ 23
def XR (d : xD) : Prop := (∀ k : Nat, (k : Int) < d 0 4 → xwB (d 0 3) (d 10 k)) ∧ (∀ k : Nat, (k : Int) < d 0 4 → xwB (d 0 3) (d 11 k)) ∧ (∀ k : Nat, (k : Int) < d 0 5 → xrB (d 12 k)) ∧ (∀ k : Nat, (k : Int) < d 0 6 → xwB (d 0 3) (d 14 k)) ∧ (∀ k : Nat, (k : Int) < d 0 6 → xhB (d 15 k)) ∧ (∀ k : Nat, (k : Int) < d 0 7 → xhB (d 16 k)) ∧ (∀ k : Nat, (k : Int) < d 0 7 → xwB (d 0 3) (d 17 k)) ∧ ∀ h : Nat, 0 ≤ d 13 h ∧ d 13 h ≤ 100
def XW (d : xD) : Prop := xdP d ∧ XC d ∧ XR d
/-- what a text without a FAULT tells -/
def XV (d : xD) : Prop := XW d ∧ 1 ≤ d 0 0 ∧ 1 ≤ d 0 3
theorem XW_0 : XW xD0 := by
  refine ⟨xdP_0, by unfold XC; decide, ?_⟩
  have z : ∀ i, i ≠ 0 → ∀ k, xD0 i k = 0 := fun i hi k => if_neg (fun c => hi c.1)
  have e4 : xD0 0 4 = 0 := rfl
  have e5 : xD0 0 5 = 0 := rfl
  have e6 : xD0 0 6 = 0 := rfl
  have e7 : xD0 0 7 = 0 := rfl
  refine ⟨fun k h => ?_, fun k h => ?_, fun k h => ?_, fun k h => ?_, fun k h => ?_, fun k h => ?_, fun k h => ?_, fun k => ?_⟩
  · omega
  · omega
  · omega
  · omega
  · omega
  · omega
  · omega
  · rw [z 13 (by decide)]
    omega
section XVL

variable {B : Nat → Int} {n q : Int} {d : xD}
theorem xkn_z (h : xkn B n q d = 0) : xwB (d 0 3) (xwho B n q d) := by
  unfold xkn at h
  split at h
  · split at h
    · cases h
    · next c =>
      rcases @xfi_b (d 1) (d 0 3) (xY B n q) with e | e
      · exact absurd e c
      · exact ⟨e.1, e.2.1⟩
  · cases h
theorem wB_up {p p' : Int} (h : p ≤ p') : ∀ x, xwB p x → xwB p' x := fun x hx => ⟨hx.1, Int.lt_of_lt_of_le hx.2 h⟩
theorem idP {P : Int → Prop} : ∀ x, P x → P x := fun _ h => h
theorem XR_st {d' : xD} (h : XR d) (e3 : d 0 3 ≤ d' 0 3) (e4 : d' 0 4 = d 0 4) (e5 : d' 0 5 = d 0 5) (e6 : d' 0 6 = d 0 6) (e7 : d' 0 7 = d 0 7) (er : ∀ i, 10 ≤ i → i ≤ 17 → d' i = d i) : XR d' := by
  obtain ⟨h1, h2, h3, h4, h5, h6, h7, h8⟩ := h
  exact ⟨row_st h1 e4 (er 10 (by decide) (by decide)) (wB_up e3), row_st h2 e4 (er 11 (by decide) (by decide)) (wB_up e3), row_st h3 e5 (er 12 (by decide) (by decide)) idP, row_st h4 e6 (er 14 (by decide) (by decide)) (wB_up e3), row_st h5 e6 (er 15 (by decide) (by decide)) idP, row_st h6 e7 (er 16 (by decide) (by decide)) idP, row_st h7 e7 (er 17 (by decide) (by decide)) (wB_up e3), fun k => by rw [er 13 (by decide) (by decide)]; exact h8 k⟩
theorem XW_law (h : XW d) (f : (xl0 B n q d).1 = 0) : XW (xdlaw B n (xN B n q) d) := by
  obtain ⟨hP, hC, hR⟩ := h
  unfold xl0 at f
  split at f
  · cases f
  · unfold xlaw at f
    simp only [xs_iff] at f
    obtain ⟨-, f1, -, f2, -, f3, -⟩ := f
    have f1 := xh_z f1
    have f2 := xh_z f2
    have f3 := xh_z f3
    have v := @xdlaw_v B n (xN B n q) d
    unfold XC at hC
    exact ⟨xdP_cg hP (fun i h1 h2 => xdlaw_r (by omega)), by unfold XC; omega, XR_st hR (by omega) (by omega) (by omega) (by omega) (by omega) (fun i h1 h2 => xdlaw_r (by omega))⟩
theorem XW_per (h : XW d) (hx : xdP (xdper B n (xN B n q) d)) (f : (xl1 B n q d).1 = 0) : XW (xdper B n (xN B n q) d) := by
  obtain ⟨hP, hC, hR⟩ := h
  unfold xl1 at f
  split at f
  · cases f
  · have v := @xdper_v B n (xN B n q) d
    unfold XC at hC
    exact ⟨hx, by unfold XC; omega, XR_st hR (by omega) (by omega) (by omega) (by omega) (by omega) (fun i h1 h2 => xdper_r h1)⟩
theorem XW_sex (h : XW d) (f : (xl2 B n q d).1 = 0) : XW (xdsex B n (xN B n q) d) := by
  obtain ⟨hP, hC, hR⟩ := h
  unfold xl2 at f
  split at f
  · cases f
  · unfold xsex at f
    have f1 := xkn_z (xs_iff.mp f).1
    unfold xwB at f1
    have v := @xdsex_v B n (xN B n q) d
    have e8 : xdsex B n (xN B n q) d 0 8 = xwho B n (xN B n q) d := wq_u_eq
    unfold XC at hC
    exact ⟨xdP_cg hP (fun i h1 h2 => xdsex_r (by omega)), by unfold XC; omega, XR_st hR (by omega) (by omega) (by omega) (by omega) (by omega) (fun i h1 h2 => xdsex_r (by omega))⟩
theorem XW_ap (h : XW d) (f : (xl3 B n q d).1 = 0) : XW (xdap B n (xN B n q) d) := by
  obtain ⟨hP, hC, hR⟩ := h
  unfold xl3 at f
  split at f
  · cases f
  · unfold xap at f
    simp only [xs_iff] at f
    obtain ⟨f1, -, f2, -⟩ := f
    have f1 := xkn_z f1
    have f2 := xkn_z f2
    have v := @xdap_v B n (xN B n q) d
    unfold XC at hC
    have hk : (((d 0 4).toNat : Nat) : Int) = d 0 4 := by omega
    have c1 := @xdap_c B n (xN B n q) d _ hk
    have c2 := @xdap_e B n (xN B n q) d _ hk
    have e3 : xdap B n (xN B n q) d 0 3 = d 0 3 := by omega
    obtain ⟨h1, h2, h3, h4, h5, h6, h7, h8⟩ := hR
    refine ⟨xdP_cg hP (fun i h1 h2 => xdap_r (by omega) (by omega) (by omega)), by unfold XC; omega, ?_⟩
    unfold XR
    rw [e3]
    exact ⟨row_ap h1 (by omega) hk (by rw [c1.1]; exact f1) c1.2 idP, row_ap h2 (by omega) hk (by rw [c2.1]; exact f2) c2.2 idP, row_st h3 (by omega) (xdap_r (by decide) (by decide) (by decide)) idP, row_st h4 (by omega) (xdap_r (by decide) (by decide) (by decide)) idP, row_st h5 (by omega) (xdap_r (by decide) (by decide) (by decide)) idP, row_st h6 (by omega) (xdap_r (by decide) (by decide) (by decide)) idP, row_st h7 (by omega) (xdap_r (by decide) (by decide) (by decide)) idP, fun k => by rw [xdap_r (i := 13) (by decide) (by decide) (by decide)]; exact h8 k⟩
theorem XW_bo (h : XW d) (f : (xl4 B n q d).1 = 0) : XW (xdbo B n (xN B n q) d) := by
  obtain ⟨hP, hC, hR⟩ := h
  unfold xl4 at f
  split at f
  · cases f
  · unfold xbo at f
    have f1 := xh_z (xs_iff.mp f).1
    have v := @xdbo_v B n (xN B n q) d
    unfold XC at hC
    have hk : (((d 0 5).toNat : Nat) : Int) = d 0 5 := by omega
    have c1 := @xdbo_c B n (xN B n q) d _ hk
    have e3 : xdbo B n (xN B n q) d 0 3 = d 0 3 := by omega
    have r : ∀ i, i ≠ 0 → i ≠ 12 → xdbo B n (xN B n q) d i = d i := fun i h1 h2 => by
      unfold xdbo
      rw [wq_u_row (by omega), wq_u_row (by omega)]
    obtain ⟨h1, h2, h3, h4, h5, h6, h7, h8⟩ := hR
    refine ⟨xdP_cg hP (fun i h1 h2 => r i (by omega) (by omega)), by unfold XC; omega, ?_⟩
    unfold XR
    rw [e3]
    exact ⟨row_st h1 (by omega) (r _ (by decide) (by decide)) idP, row_st h2 (by omega) (r _ (by decide) (by decide)) idP, row_ap h3 (by omega) hk (by rw [c1.1]; exact f1) c1.2 idP, row_st h4 (by omega) (r _ (by decide) (by decide)) idP, row_st h5 (by omega) (r _ (by decide) (by decide)) idP, row_st h6 (by omega) (r _ (by decide) (by decide)) idP, row_st h7 (by omega) (r _ (by decide) (by decide)) idP, fun k => by rw [r 13 (by decide) (by decide)]; exact h8 k⟩
theorem XW_st (h : XW d) (f : (xl5 B n q d).1 = 0) : XW (xdst B n (xN B n q) d) := by
  obtain ⟨hP, hC, hR⟩ := h
  unfold xl5 at f
  split at f
  · cases f
  · unfold xst at f
    simp only [xs_iff] at f
    obtain ⟨f1, -, f2, -⟩ := f
    have f2 := xh_z f2
    have f1 : 0 ≤ xV B n (xN B n q) ∧ xV B n (xN B n q) ≤ 23 := by
      unfold xsh at f1
      split at f1
      · cases f1
      · exact xh_z f1
    have r : ∀ i, i ≠ 13 → xdst B n (xN B n q) d i = d i := fun i hi => wq_u_row hi
    have c := @xdst_c B n (xN B n q) d (xV B n (xN B n q)).toNat (by omega)
    have r0 := r 0 (by decide)
    have hC' : XC (xdst B n (xN B n q) d) := by
      unfold XC
      rw [r0]
      exact hC
    obtain ⟨h1, h2, h3, h4, h5, h6, h7, h8⟩ := hR
    refine ⟨xdP_cg hP (fun i h1 h2 => r i (by omega)), hC', ?_⟩
    unfold XR
    rw [r0, r 10 (by decide), r 11 (by decide), r 12 (by decide), r 14 (by decide), r 15 (by decide), r 16 (by decide), r 17 (by decide)]
    refine ⟨h1, h2, h3, h4, h5, h6, h7, fun k => ?_⟩
    by_cases e : k = (xV B n (xN B n q)).toNat
    · rw [e, c.1]
      omega
    · rw [c.2 k e]
      exact h8 k
theorem xtl_z (f : (xtl B n q d).1 = 0) : xwB (d 0 3) (xwho B n q d) := by
  unfold xtl at f
  exact xkn_z (xs_iff.mp f).1
theorem XW_tl (h : XW d) (f : (xl6 B n q d).1 = 0) : XW (xdtl B n (xN B n q) d) := by
  obtain ⟨hP, hC, hR⟩ := h
  unfold xl6 at f
  split at f
  · cases f
  · have f1 := xtl_z f
    have v := @xdtl_v B n (xN B n q) d
    unfold XC at hC
    have hk : (((d 0 6).toNat : Nat) : Int) = d 0 6 := by omega
    have c1 := @xdtl_c B n (xN B n q) d _ hk
    have c2 := @xdtl_e B n (xN B n q) d _ hk
    have e3 : xdtl B n (xN B n q) d 0 3 = d 0 3 := by omega
    have r : ∀ i, i ≠ 0 → i ≠ 14 → i ≠ 15 → xdtl B n (xN B n q) d i = d i := fun i h1 h2 h3 => by
      unfold xdtl
      rw [wq_u_row (by omega), wq_u_row (by omega), wq_u_row (by omega)]
    obtain ⟨h1, h2, h3, h4, h5, h6, h7, h8⟩ := hR
    refine ⟨xdP_cg hP (fun i h1 h2 => r i (by omega) (by omega) (by omega)), by unfold XC; omega, ?_⟩
    unfold XR
    rw [e3]
    exact ⟨row_st h1 (by omega) (r _ (by decide) (by decide) (by decide)) idP, row_st h2 (by omega) (r _ (by decide) (by decide) (by decide)) idP, row_st h3 (by omega) (r _ (by decide) (by decide) (by decide)) idP, row_ap h4 (by omega) hk (by rw [c1.1]; exact f1) c1.2 idP, row_ap h5 (by omega) hk (by rw [c2.1]; exact xhs_b) c2.2 idP, row_st h6 (by omega) (r _ (by decide) (by decide) (by decide)) idP, row_st h7 (by omega) (r _ (by decide) (by decide) (by decide)) idP, fun k => by rw [r 13 (by decide) (by decide) (by decide)]; exact h8 k⟩
theorem XW_of (h : XW d) (f : (xl7 B n q d).1 = 0) : XW (xdof B n (xN B n q) d) := by
  obtain ⟨hP, hC, hR⟩ := h
  unfold xl7 at f
  split at f
  · cases f
  · have f1 := xtl_z f
    have v := @xdof_v B n (xN B n q) d
    unfold XC at hC
    have hk : (((d 0 7).toNat : Nat) : Int) = d 0 7 := by omega
    have c1 := @xdof_c B n (xN B n q) d _ hk
    have c2 := @xdof_e B n (xN B n q) d _ hk
    have e3 : xdof B n (xN B n q) d 0 3 = d 0 3 := by omega
    have r : ∀ i, i ≠ 0 → i ≠ 16 → i ≠ 17 → xdof B n (xN B n q) d i = d i := fun i h1 h2 h3 => by
      unfold xdof
      rw [wq_u_row (by omega), wq_u_row (by omega), wq_u_row (by omega)]
    obtain ⟨h1, h2, h3, h4, h5, h6, h7, h8⟩ := hR
    refine ⟨xdP_cg hP (fun i h1 h2 => r i (by omega) (by omega) (by omega)), by unfold XC; omega, ?_⟩
    unfold XR
    rw [e3]
    exact ⟨row_st h1 (by omega) (r _ (by decide) (by decide) (by decide)) idP, row_st h2 (by omega) (r _ (by decide) (by decide) (by decide)) idP, row_st h3 (by omega) (r _ (by decide) (by decide) (by decide)) idP, row_st h4 (by omega) (r _ (by decide) (by decide) (by decide)) idP, row_st h5 (by omega) (r _ (by decide) (by decide) (by decide)) idP, row_ap h6 (by omega) hk (by rw [c1.1]; exact xhs_b) c1.2 idP, row_ap h7 (by omega) hk (by rw [c2.1]; exact f1) c2.2 idP, fun k => by rw [r 13 (by decide) (by decide) (by decide)]; exact h8 k⟩
theorem XW_line (h : XW d) (f : (xline B n q d).1 = 0) : XW (xdline B n q d) := by
  have h0 : 0 ≤ d 0 3 := by
    have := h.2.1
    unfold XC at this
    omega
  have hx := xdP_line h.1 h0 f
  unfold xline at f
  unfold xdline at hx ⊢
  split
  · next c0 =>
    rw [if_pos c0] at f
    exact XW_law h f
  · next c0 =>
    rw [if_neg c0] at f hx
    split
    · next c1 =>
      rw [if_pos c1] at f hx
      exact XW_per h hx f
    · next c1 =>
      rw [if_neg c1] at f
      split
      · next c2 =>
        rw [if_pos c2] at f
        exact XW_sex h f
      · next c2 =>
        rw [if_neg c2] at f
        split
        · next c3 =>
          rw [if_pos c3] at f
          exact XW_ap h f
        · next c3 =>
          rw [if_neg c3] at f
          split
          · next c4 =>
            rw [if_pos c4] at f
            exact XW_bo h f
          · next c4 =>
            rw [if_neg c4] at f
            split
            · next c5 =>
              rw [if_pos c5] at f
              exact XW_st h f
            · next c5 =>
              rw [if_neg c5] at f
              split
              · next c6 =>
                rw [if_pos c6] at f
                exact XW_tl h f
              · next c6 =>
                rw [if_neg c6] at f
                split at f
                · exact XW_of h f
                · cases f
theorem XV_xpf : ∀ (f : Nat) (q : Int) (d : xD), XW d → (xpf B n f q d).1.1 = 0 → XV (xpf B n f q d).2
  | 0, q, d, _, h => absurd (show (1 : Int) = 0 from h) (by decide)
  | f + 1, q, d, hw, h => by
    unfold xpf at h ⊢
    split at h
    · next a =>
      rw [if_pos a]
      have hw2 := XW_line hw a
      split at h
      · next b =>
        rw [if_pos b]
        split at h
        · next c =>
          rw [if_pos c]
          have z1 : 1 ≤ xdline B n q d 0 0 := by omega
          have z2 : 1 ≤ xdline B n q d 0 3 := by omega
          exact ⟨hw2, z1, z2⟩
        · cases h
      · next b =>
        rw [if_neg b]
        split at h
        · next c =>
          rw [if_pos c]
          exact XV_xpf f _ _ hw2 h
        · cases h
    · next a => exact absurd h a
theorem XV_parse (h : (xparse B n).1.1 = 0) : XV (xparse B n).2 := XV_xpf 902 _ xD0 XW_0 h
theorem XV_set (h : XV d) : XV (xset d) := by
  obtain ⟨⟨hP, hC, h1, h2, h3, h4, h5, h6, h7, h8⟩, h9, h10⟩ := h
  refine ⟨⟨xdP_set hP, hC, h1, h2, h3, h4, fun k hk => ?_, fun k hk => ?_, h7, fun k => ?_⟩, h9, h10⟩
  · rw [xset_15]
    unfold xmk
    have := h5 k hk
    unfold xhB at this ⊢
    split
    · have a := @xhs_b 0 (d 0 0)
      have b := wq_and_b (d 15 k) (y := xal d) a.1 (by have := a.2; unfold xal; omega)
      unfold xal at b ⊢
      omega
    · exact this
  · rw [xset_16]
    unfold xmk
    have := h6 k hk
    unfold xhB at this ⊢
    split
    · have a := @xhs_b 0 (d 0 0)
      have b := wq_and_b (d 16 k) (y := xal d) a.1 (by have := a.2; unfold xal; omega)
      unfold xal at b ⊢
      omega
    · exact this
  · rw [xset_13]
    unfold xcu
    split
    · omega
    · exact h8 k
end XVL
end
section
section XHO

variable {f g : Nat → Int} {S a v i : Int} {n : Nat}
end XHO
section XHC

variable {d : xD} {m b x S : Int}
end XHC
end
section
/-! THE WALK (own work): what a LOT's picks bring, person by person -/
theorem hb_t {b : Int} {h : Nat} : hb b h = (b.toNat.testBit h).toNat := (Nat.toNat_testBit b.toNat h).symm
theorem hb_sh {b : Int} {h : Nat} (hx : 0 ≤ b ∧ b ≤ 2147483647) : hb (wq_shr b 12) h = hb b (h + 12) := by
  have e : wq_shr b ((12 : Nat) : Int) = _ := wq_shr_n hx (by decide)
  have e : wq_shr b 12 = ((b.toNat / 2 ^ 12 : Nat) : Int) := e
  unfold hb
  rw [e, Int.toNat_natCast, Nat.div_div_eq_div_mul, ← Nat.pow_add, Nat.add_comm]
theorem xon_hb {P : Nat → Bool} : ∀ n h : Nat, h < n → xon P n / 2 ^ h % 2 = (P h).toNat
  | 0, h, hh => by omega
  | n + 1, h, hh => by
    have h1 := xon_b n (P := P)
    show (if P n = true then xon P n + 2 ^ n else xon P n) / 2 ^ h % 2 = (P h).toNat
    by_cases e : h = n
    · subst e
      cases c : P h with
      | true =>
        rw [if_pos rfl, Nat.add_div_right _ (Nat.two_pow_pos h), Nat.div_eq_of_lt h1]
        rfl
      | false =>
        rw [if_neg (by decide), Nat.div_eq_of_lt h1]
        rfl
    · have h2 := xon_hb n h (by omega) (P := P)
      have h3 : (2 : Nat) ^ n = 2 ^ h * (2 * 2 ^ (n - h - 1)) := by
        rw [← Nat.pow_succ', ← Nat.pow_add]
        congr 1
        omega
      split
      · rw [h3, Nat.add_mul_div_left _ _ (Nat.two_pow_pos h), Nat.add_mul_mod_self_left]
        exact h2
      · exact h2
theorem xhf_on {a b : Int} : ∀ n : Nat, xhf a b n = ((xon (fun h => decide (a ≤ (h : Int) ∧ (h : Int) < b)) n : Nat) : Int)
  | 0 => rfl
  | n + 1 => by
    have h1 := xhf_on n (a := a) (b := b)
    show xhf a b n + (if a ≤ (n : Int) ∧ (n : Int) < b then 2 ^ n else 0) = ((if decide (a ≤ (n : Int) ∧ (n : Int) < b) = true then xon (fun h => decide (a ≤ (h : Int) ∧ (h : Int) < b)) n + 2 ^ n else xon (fun h => decide (a ≤ (h : Int) ∧ (h : Int) < b)) n : Nat) : Int)
    by_cases c : a ≤ (n : Int) ∧ (n : Int) < b
    · rw [if_pos c, if_pos (decide_eq_true c), h1, Int.natCast_add, Int.natCast_pow]
      rfl
    · rw [if_neg c, if_neg (by rw [decide_eq_false c]; decide), h1, Int.add_zero]
theorem hb_xhs {a b : Int} {h : Nat} (hh : h < 24) : hb (xhs a b) h = if a ≤ (h : Int) ∧ (h : Int) < b then 1 else 0 := by
  unfold hb xhs
  rw [xhf_on, Int.toNat_natCast, xon_hb 24 h hh]
  by_cases c : a ≤ (h : Int) ∧ (h : Int) < b
  · rw [if_pos c, decide_eq_true c]
    rfl
  · rw [if_neg c, decide_eq_false c]
    rfl
/-- a LOT's SPANS -/
def xpt (d : xD) (g : Nat → Int) (k : Nat) : Int × Int := (xsp d k).getD (g k).toNat (0, 0)
def xwb (d : xD) (g : Nat → Int) (k : Nat) : Int := xwk d k (xpt d g k)
def xsb (d : xD) (g : Nat → Int) (k : Nat) : Int := xas d k (xpt d g k)
def xbn (f : Nat → Int) (h : Nat) : Nat → Nat
  | 0 => 0
  | n + 1 => xbn f h n + (if f n ≤ (h : Int) then 1 else 0)
/-- how many are awake at an HOUR, of the births and the first people -/
def xct (d : xD) (g : Nat → Int) (h : Nat) : Nat → Nat
  | 0 => xbn (d 12) h (d 0 5).toNat
  | k + 1 => xct d g h k + hb (xwb d g k) h
def xdue (d : xD) (g : Nat → Int) (h : Nat) : Nat := xct d g h (d 0 3).toNat
def xbe (d : xD) : Nat → Int := fun n => ((tal (fun h => xbn (d 12) h n) 12 : Nat) : Int)
def xbl (d : xD) : Nat → Int := fun n => ((tal (fun h => xbn (d 12) (h + 12) n) 12 : Nat) : Int)
def xer (d : xD) (g : Nat → Int) : Nat → Int := fun k => ((tal (fun h => xct d g h k) 12 : Nat) : Int)
def xla (d : xD) (g : Nat → Int) : Nat → Int := fun k => ((tal (fun h => xct d g (h + 12) k) 12 : Nat) : Int)
def xbf (f : Nat → Int) : Nat → Int
  | 0 => 0
  | n + 1 => wq_or (xbf f n) (xhs (f n) 24)
/-- the HOURS that are filled; those with a quarrel -/
def xfl (d : xD) (g : Nat → Int) : Nat → Int
  | 0 => xbf (d 12) (d 0 5).toNat
  | k + 1 => wq_or (xfl d g k) (xwb d g k)
def xqo (d : xD) (g : Nat → Int) (i : Nat) : Nat → Int
  | 0 => 0
  | j + 1 => if xagf d i j (d 0 4).toNat = 0 then xqo d g i j else wq_or (xqo d g i j) (wq_and (xsb d g i) (xsb d g j))
def xqu (d : xD) (g : Nat → Int) : Nat → Int
  | 0 => 0
  | i + 1 => wq_or (xqu d g i) (xqo d g i i)
def xpq (d : xD) (g : Nat → Int) : Nat → Int
  | 0 => 0
  | k + 1 => wq_or (xpq d g k) (wq_and (xsb d g (d 10 k).toNat) (xsb d g (d 11 k).toNat))
/-- a SPAN for each person -/
def SG (d : xD) (g : Nat → Int) : Prop := ∀ k : Nat, (k : Int) < d 0 3 → 0 ≤ g k ∧ (g k = 0 ∨ g k < (xsp d k).length)
def SL (d : xD) (g : Nat → Int) : Prop := ∀ k : Nat, (k : Int) < d 0 3 → 0 ≤ g k ∧ g k < (xsp d k).length
section WALK

variable {d : xD} {g : Nat → Int} {k n h i j : Nat} {x : Int × Int} {v w z : Int}
theorem xal_b : 0 ≤ xal d ∧ xal d ≤ 16777215 := xhs_b
theorem xsl_b {b l : Int} : 0 ≤ xsl d k b l ∧ xsl d k b l ≤ 16777215 := by
  have h1 := @xal_b d
  have h2 := wq_and_b (wq_or (xhs b (b + l)) (xhs (d 7 k) (d 8 k))) h1.1 (by omega)
  unfold xsl
  omega
theorem xas_b : 0 ≤ xas d k x ∧ xas d k x ≤ 16777215 := by
  unfold xas
  split
  · omega
  · exact xsl_b
theorem xwk_b : 0 ≤ xwk d k x ∧ xwk d k x ≤ 16777215 := by
  unfold xwk
  split
  · omega
  · have h1 := @xal_b d
    rw [wq_and_c]
    have h2 := wq_and_b (wq_xor (xsl d k x.1 x.2) (-1)) h1.1 (by omega)
    omega
theorem xwb_b : 0 ≤ xwb d g k ∧ xwb d g k ≤ 16777215 := xwk_b
theorem xsb_b : 0 ≤ xsb d g k ∧ xsb d g k ≤ 16777215 := xas_b
theorem xbn_b {f : Nat → Int} : ∀ n : Nat, xbn f h n ≤ n
  | 0 => Nat.le_refl _
  | n + 1 => by
    have h1 := xbn_b n (f := f)
    show xbn f h n + (if f n ≤ (h : Int) then 1 else 0) ≤ n + 1
    split <;> omega
theorem xct_b : ∀ k : Nat, xct d g h k ≤ (d 0 5).toNat + k
  | 0 => xbn_b _
  | k + 1 => by
    have h1 := xct_b k
    have h2 := @hb_b (xwb d g k) h
    show xct d g h k + hb (xwb d g k) h ≤ (d 0 5).toNat + (k + 1)
    omega
theorem xer_b (h5 : d 0 5 ≤ 3) (hk : k ≤ 6) : 0 ≤ xer d g k ∧ xer d g k < 281474976710656 := by
  have h1 := tal_b 12 (f := fun h => xct d g h k) (fun h _ => by have := @xct_b d g h k; omega)
  have h4 : (2 : Nat) ^ (4 * 12) = 281474976710656 := by decide
  unfold xer
  omega
theorem xla_b (h5 : d 0 5 ≤ 3) (hk : k ≤ 6) : 0 ≤ xla d g k ∧ xla d g k < 281474976710656 := by
  have h1 := tal_b 12 (f := fun h => xct d g (h + 12) k) (fun h _ => by have := @xct_b d g (h + 12) k; omega)
  have h4 : (2 : Nat) ^ (4 * 12) = 281474976710656 := by decide
  unfold xla
  omega
theorem xbe_b (hn : n ≤ 3) : 0 ≤ xbe d n ∧ xbe d n < 281474976710656 := by
  have h1 := tal_b 12 (f := fun h => xbn (d 12) h n) (fun h _ => by have := @xbn_b h (d 12) n; omega)
  have h4 : (2 : Nat) ^ (4 * 12) = 281474976710656 := by decide
  unfold xbe
  omega
theorem xbl_b (hn : n ≤ 3) : 0 ≤ xbl d n ∧ xbl d n < 281474976710656 := by
  have h1 := tal_b 12 (f := fun h => xbn (d 12) (h + 12) n) (fun h _ => by have := @xbn_b (h + 12) (d 12) n; omega)
  have h4 : (2 : Nat) ^ (4 * 12) = 281474976710656 := by decide
  unfold xbl
  omega
theorem xtal_b {b : Int} (hx : 0 ≤ b ∧ b ≤ 16777215) : xtal b 12 = ((tal (hb b) 12 : Nat) : Int) ∧ 0 ≤ xtal b 12 ∧ xtal b 12 < 281474976710656 := by
  have h1 := xtal_e (b := b) ⟨hx.1, by omega⟩ 12 (Nat.le_refl _)
  have h2 := tal_b 12 (f := hb b) (fun h _ => Nat.le_trans (@hb_b b h) (by decide))
  have h4 : (2 : Nat) ^ (4 * 12) = 281474976710656 := by decide
  omega
theorem shr12_b {b : Int} (hx : 0 ≤ b ∧ b ≤ 16777215) : 0 ≤ wq_shr b 12 ∧ wq_shr b 12 ≤ 16777215 := by
  have e : wq_shr b ((12 : Nat) : Int) = _ := wq_shr_n ⟨hx.1, by omega⟩ (by decide)
  have e : wq_shr b 12 = ((b.toNat / 2 ^ 12 : Nat) : Int) := e
  have := Nat.div_le_self b.toNat (2 ^ 12)
  omega
/-- one more person -/
theorem xer_s : xer d g (k + 1) = xer d g k + xtal (xwb d g k) 12 := by
  have h : tal (fun h => xct d g h k) 12 + tal (hb (xwb d g k)) 12 = tal (fun h => xct d g h (k + 1)) 12 := tal_add 12
  have h1 := (xtal_b (@xwb_b d g k)).1
  unfold xer
  omega
theorem xla_s : xla d g (k + 1) = xla d g k + xtal (wq_shr (xwb d g k) 12) 12 := by
  have h0 : tal (fun h => xct d g (h + 12) k) 12 + tal (fun h => hb (xwb d g k) (h + 12)) 12 = tal (fun h => xct d g (h + 12) (k + 1)) 12 := tal_add 12
  have hw := @xwb_b d g k
  have h1 := (xtal_b (shr12_b hw)).1
  have h2 : tal (hb (wq_shr (xwb d g k) 12)) 12 = tal (fun h => hb (xwb d g k) (h + 12)) 12 := tal_cg 12 (fun h _ => hb_sh ⟨hw.1, by omega⟩)
  unfold xla
  omega
/-- one more birth -/
theorem xbe_s : xbe d (n + 1) = xbe d n + xtal (xhs (d 12 n) 24) 12 := by
  have h1 := (xtal_b (@xhs_b (d 12 n) 24)).1
  have h2 : tal (hb (xhs (d 12 n) 24)) 12 = tal (fun h => if d 12 n ≤ (h : Int) then 1 else 0) 12 := tal_cg 12 (fun h hh => by
    rw [hb_xhs (by omega)]
    by_cases c : d 12 n ≤ (h : Int)
    · rw [if_pos c, if_pos ⟨c, by omega⟩]
    · rw [if_neg c, if_neg (fun q => c q.1)])
  have h0 : tal (fun h => xbn (d 12) h n) 12 + tal (fun h => if d 12 n ≤ (h : Int) then 1 else 0) 12 = tal (fun h => xbn (d 12) h (n + 1)) 12 := tal_add 12
  unfold xbe
  omega
theorem xbl_s : xbl d (n + 1) = xbl d n + xtal (wq_shr (xhs (d 12 n) 24) 12) 12 := by
  have hw := @xhs_b (d 12 n) 24
  have h1 := (xtal_b (shr12_b hw)).1
  have h2 : tal (hb (wq_shr (xhs (d 12 n) 24) 12)) 12 = tal (fun h => if d 12 n ≤ ((h + 12 : Nat) : Int) then 1 else 0) 12 := tal_cg 12 (fun h hh => by
    rw [hb_sh ⟨hw.1, by omega⟩, hb_xhs (by omega)]
    by_cases c : d 12 n ≤ ((h + 12 : Nat) : Int)
    · rw [if_pos c, if_pos ⟨c, by omega⟩]
    · rw [if_neg c, if_neg (fun q => c q.1)])
  have h0 : tal (fun h => xbn (d 12) (h + 12) n) 12 + tal (fun h => if d 12 n ≤ ((h + 12 : Nat) : Int) then 1 else 0) 12 = tal (fun h => xbn (d 12) (h + 12) (n + 1)) 12 := tal_add 12
  unfold xbl
  omega
theorem xbe_0 : xbe d 0 = 0 := by
  unfold xbe
  rw [show (fun h => xbn (d 12) h 0) = (fun _ => 0) from rfl, tal_0]
  rfl
theorem xbl_0 : xbl d 0 = 0 := by
  unfold xbl
  rw [show (fun h => xbn (d 12) (h + 12) 0) = (fun _ => 0) from rfl, tal_0]
  rfl
/-- of an HOUR -/
theorem xdue_e {p : Int} (h5 : d 0 5 ≤ 3) (h3 : 0 ≤ d 0 3 ∧ d 0 3 ≤ 6) (hp : 0 ≤ p ∧ p < 12) {V : Int} (e : V = xer d g (d 0 3).toNat) : wq_and (wq_w (wl_shr V (p * 4))) 15 = (xdue d g p.toNat : Int) := by
  have h := tal_due (f := fun h => xct d g h (d 0 3).toNat) (p := p.toNat) (V := V) (by omega) (fun j _ => by have := @xct_b d g j (d 0 3).toNat; omega) e
  rw [Int.toNat_of_nonneg hp.1] at h
  exact h
theorem xdue_l {p : Int} (h5 : d 0 5 ≤ 3) (h3 : 0 ≤ d 0 3 ∧ d 0 3 ≤ 6) (hp : 12 ≤ p ∧ p < 24) {V : Int} (e : V = xla d g (d 0 3).toNat) : wq_and (wq_w (wl_shr V ((p - 12) * 4))) 15 = (xdue d g p.toNat : Int) := by
  have h := tal_due (f := fun h => xct d g (h + 12) (d 0 3).toNat) (p := (p - 12).toNat) (V := V) (by omega) (fun j _ => by have := @xct_b d g (j + 12) (d 0 3).toNat; omega) e
  rw [Int.toNat_of_nonneg (by omega)] at h
  rw [h]
  show ((xct d g ((p - 12).toNat + 12) (d 0 3).toNat : Nat) : Int) = _
  rw [show (p - 12).toNat + 12 = p.toNat by omega]
  rfl
/-- quarrels of one with those ahead -/
theorem xqo_y (e : v = xqo d g i j) (h : xagf d i j (d 0 4).toNat ≠ 0) (hw : w = wq_or v z) (hz : z = wq_and (xsb d g i) (xsb d g j)) : w = xqo d g i (j + 1) := by
  show w = if xagf d i j (d 0 4).toNat = 0 then xqo d g i j else wq_or (xqo d g i j) (wq_and (xsb d g i) (xsb d g j))
  rw [if_neg h, hw, hz, e]
theorem xqo_n (e : v = xqo d g i j) (h : xagf d i j (d 0 4).toNat = 0) : v = xqo d g i (j + 1) := by
  show v = if xagf d i j (d 0 4).toNat = 0 then xqo d g i j else wq_or (xqo d g i j) (wq_and (xsb d g i) (xsb d g j))
  rw [if_pos h]
  exact e
theorem xqo_z : ∀ j : Nat, (∀ j' : Nat, j' < j → xagf d i j' (d 0 4).toNat = 0) → xqo d g i j = 0
  | 0, _ => rfl
  | j + 1, h => by
    show (if xagf d i j (d 0 4).toNat = 0 then xqo d g i j else wq_or (xqo d g i j) (wq_and (xsb d g i) (xsb d g j))) = 0
    rw [if_pos (h j (by omega))]
    exact xqo_z j (fun j' hj => h j' (by omega))
theorem xsb_and : 0 ≤ wq_and (xsb d g i) (xsb d g j) ∧ wq_and (xsb d g i) (xsb d g j) ≤ 16777215 := by
  have h1 := @xsb_b d g i
  have h2 := @xsb_b d g j
  have h3 := wq_and_b (xsb d g i) h2.1 (by omega)
  omega
theorem xqo_b : ∀ j : Nat, 0 ≤ xqo d g i j ∧ xqo d g i j ≤ 16777215
  | 0 => ⟨Int.le_refl _, by show (0 : Int) ≤ 16777215; decide⟩
  | j + 1 => by
    have h1 := xqo_b j
    show 0 ≤ (if xagf d i j (d 0 4).toNat = 0 then xqo d g i j else wq_or (xqo d g i j) (wq_and (xsb d g i) (xsb d g j))) ∧ (if xagf d i j (d 0 4).toNat = 0 then xqo d g i j else wq_or (xqo d g i j) (wq_and (xsb d g i) (xsb d g j))) ≤ 16777215
    split
    · exact h1
    · exact wq_or_24 h1 xsb_and
theorem xqu_b : ∀ i : Nat, 0 ≤ xqu d g i ∧ xqu d g i ≤ 16777215
  | 0 => ⟨Int.le_refl _, by show (0 : Int) ≤ 16777215; decide⟩
  | i + 1 => wq_or_24 (xqu_b i) (xqo_b i)
theorem xpq_b : ∀ k : Nat, 0 ≤ xpq d g k ∧ xpq d g k ≤ 16777215
  | 0 => ⟨Int.le_refl _, by show (0 : Int) ≤ 16777215; decide⟩
  | k + 1 => wq_or_24 (xpq_b k) xsb_and
theorem xbf_b {f : Nat → Int} : ∀ n : Nat, 0 ≤ xbf f n ∧ xbf f n ≤ 16777215
  | 0 => ⟨Int.le_refl _, by show (0 : Int) ≤ 16777215; decide⟩
  | n + 1 => wq_or_24 (xbf_b n) xhs_b
theorem xfl_b : ∀ k : Nat, 0 ≤ xfl d g k ∧ xfl d g k ≤ 16777215
  | 0 => xbf_b _
  | k + 1 => wq_or_24 (xfl_b k) xwb_b
theorem or_t {a b : Int} (ha : 0 ≤ a ∧ a ≤ 16777215) (hb : 0 ≤ b ∧ b ≤ 16777215) : (wq_or a b).toNat.testBit h = (a.toNat.testBit h || b.toNat.testBit h) := by
  rw [wq_or_n ⟨ha.1, by omega⟩ ⟨hb.1, by omega⟩, Int.toNat_natCast, Nat.testBit_or]
theorem and_t {a b : Int} (ha : 0 ≤ a ∧ a ≤ 16777215) (hb : 0 ≤ b ∧ b ≤ 16777215) : (wq_and a b).toNat.testBit h = (a.toNat.testBit h && b.toNat.testBit h) := by
  rw [wq_and_n ⟨ha.1, by omega⟩ ⟨hb.1, by omega⟩, Int.toNat_natCast, Nat.testBit_and]
/-- both asleep -/
def xbt (d : xD) (g : Nat → Int) (h i j : Nat) : Prop := (xsb d g i).toNat.testBit h = true ∧ (xsb d g j).toNat.testBit h = true
theorem xsb_t : (wq_and (xsb d g i) (xsb d g j)).toNat.testBit h = true ↔ xbt d g h i j := by
  rw [and_t xsb_b xsb_b, Bool.and_eq_true]
  exact Iff.rfl
theorem xqo_t : ∀ j : Nat, (xqo d g i j).toNat.testBit h = true ↔ ∃ j' : Nat, j' < j ∧ xagf d i j' (d 0 4).toNat ≠ 0 ∧ xbt d g h i j'
  | 0 => by
    constructor
    · intro q
      have : (0 : Nat).testBit h = true := q
      rw [Nat.zero_testBit] at this
      cases this
    · rintro ⟨j', h1, -⟩
      omega
  | j + 1 => by
    have ih := xqo_t j
    have hb := @xqo_b d g i j
    have e : xqo d g i (j + 1) = if xagf d i j (d 0 4).toNat = 0 then xqo d g i j else wq_or (xqo d g i j) (wq_and (xsb d g i) (xsb d g j)) := rfl
    rw [e]
    by_cases c : xagf d i j (d 0 4).toNat = 0
    · rw [if_pos c, ih]
      constructor
      · rintro ⟨j', h1, h2⟩
        exact ⟨j', by omega, h2⟩
      · rintro ⟨j', h1, h2, h3⟩
        refine ⟨j', ?_, h2, h3⟩
        by_cases q : j' = j
        · subst q
          exact absurd c h2
        · omega
    · rw [if_neg c, or_t hb xsb_and, Bool.or_eq_true, ih, xsb_t]
      constructor
      · rintro (⟨j', h1, h2⟩ | h1)
        · exact ⟨j', by omega, h2⟩
        · exact ⟨j, by omega, c, h1⟩
      · rintro ⟨j', h1, h2, h3⟩
        by_cases q : j' = j
        · subst q
          exact Or.inr h3
        · exact Or.inl ⟨j', by omega, h2, h3⟩
theorem xqu_t : ∀ n : Nat, (xqu d g n).toNat.testBit h = true ↔ ∃ i j : Nat, i < n ∧ j < i ∧ xagf d i j (d 0 4).toNat ≠ 0 ∧ xbt d g h i j
  | 0 => by
    constructor
    · intro q
      have : (0 : Nat).testBit h = true := q
      rw [Nat.zero_testBit] at this
      cases this
    · rintro ⟨i, j, h1, -⟩
      omega
  | n + 1 => by
    have ih := xqu_t n
    have e : xqu d g (n + 1) = wq_or (xqu d g n) (xqo d g n n) := rfl
    rw [e, or_t (xqu_b n) (xqo_b n), Bool.or_eq_true, ih, xqo_t]
    constructor
    · rintro (⟨i, j, h1, h2⟩ | ⟨j, h1, h2⟩)
      · exact ⟨i, j, by omega, h2⟩
      · exact ⟨n, j, by omega, h1, h2⟩
    · rintro ⟨i, j, h1, h2, h3⟩
      by_cases q : i = n
      · subst q
        exact Or.inr ⟨j, h2, h3⟩
      · exact Or.inl ⟨i, j, by omega, h2, h3⟩
theorem xpq_t : ∀ n : Nat, (xpq d g n).toNat.testBit h = true ↔ ∃ k : Nat, k < n ∧ xbt d g h (d 10 k).toNat (d 11 k).toNat
  | 0 => by
    constructor
    · intro q
      have : (0 : Nat).testBit h = true := q
      rw [Nat.zero_testBit] at this
      cases this
    · rintro ⟨k, h1, -⟩
      omega
  | n + 1 => by
    have ih := xpq_t n
    have e : xpq d g (n + 1) = wq_or (xpq d g n) (wq_and (xsb d g (d 10 n).toNat) (xsb d g (d 11 n).toNat)) := rfl
    rw [e, or_t (xpq_b n) xsb_and, Bool.or_eq_true, ih, xsb_t]
    constructor
    · rintro (⟨k, h1, h2⟩ | h1)
      · exact ⟨k, by omega, h2⟩
      · exact ⟨n, by omega, h1⟩
    · rintro ⟨k, h1, h2⟩
      by_cases q : k = n
      · subst q
        exact Or.inr h2
      · exact Or.inl ⟨k, by omega, h2⟩
theorem xagf_t {a b : Int} : ∀ n : Nat, xagf d a b n ≠ 0 ↔ ∃ k : Nat, k < n ∧ ((d 10 k = a ∧ d 11 k = b) ∨ (d 10 k = b ∧ d 11 k = a))
  | 0 => by
    constructor
    · intro q
      exact absurd rfl q
    · rintro ⟨k, h1, -⟩
      omega
  | n + 1 => by
    have ih := xagf_t n (a := a) (b := b)
    have e : xagf d a b (n + 1) = if (d 10 n = a ∧ d 11 n = b) ∨ (d 10 n = b ∧ d 11 n = a) then 1 else xagf d a b n := rfl
    rw [e]
    by_cases c : (d 10 n = a ∧ d 11 n = b) ∨ (d 10 n = b ∧ d 11 n = a)
    · rw [if_pos c]
      exact ⟨fun _ => ⟨n, by omega, c⟩, fun _ => by decide⟩
    · rw [if_neg c, ih]
      constructor
      · rintro ⟨k, h1, h2⟩
        exact ⟨k, by omega, h2⟩
      · rintro ⟨k, h1, h2⟩
        by_cases q : k = n
        · subst q
          exact absurd h2 c
        · exact ⟨k, by omega, h2⟩
/-- no two that are told apart are one -/
def XN (d : xD) : Prop := ∀ k : Nat, (k : Int) < d 0 4 → 0 ≤ d 10 k ∧ d 10 k < d 0 3 ∧ 0 ≤ d 11 k ∧ d 11 k < d 0 3 ∧ d 10 k ≠ d 11 k
/-- the quarrels of both programs -/
theorem xqu_xpq (hN : XN d) (h4 : 0 ≤ d 0 4) : xqu d g (d 0 3).toNat = xpq d g (d 0 4).toNat := by
  have h1 := @xqu_b d g (d 0 3).toNat
  have h2 := @xpq_b d g (d 0 4).toNat
  have h3 : (xqu d g (d 0 3).toNat).toNat = (xpq d g (d 0 4).toNat).toNat := by
    apply Nat.eq_of_testBit_eq
    intro h
    have a := @xqu_t d g h (d 0 3).toNat
    have b := @xpq_t d g h (d 0 4).toNat
    have c : (xqu d g (d 0 3).toNat).toNat.testBit h = true ↔ (xpq d g (d 0 4).toNat).toNat.testBit h = true := by
      rw [a, b]
      constructor
      · rintro ⟨i, j, q1, q2, q3, q4⟩
        obtain ⟨k, r1, r2⟩ := (xagf_t _).mp q3
        refine ⟨k, r1, ?_⟩
        rcases r2 with ⟨s1, s2⟩ | ⟨s1, s2⟩
        · rw [s1, s2, Int.toNat_natCast, Int.toNat_natCast]
          exact q4
        · rw [s1, s2, Int.toNat_natCast, Int.toNat_natCast]
          exact ⟨q4.2, q4.1⟩
      · rintro ⟨k, q1, q2⟩
        have n1 := hN k (by omega)
        by_cases c : d 11 k < d 0 3 ∧ d 11 k < d 10 k
        · refine ⟨(d 10 k).toNat, (d 11 k).toNat, by omega, by omega, (xagf_t _).mpr ⟨k, q1, Or.inl ⟨by omega, by omega⟩⟩, q2⟩
        · refine ⟨(d 11 k).toNat, (d 10 k).toNat, by omega, by omega, (xagf_t _).mpr ⟨k, q1, Or.inr ⟨by omega, by omega⟩⟩, q2.2, q2.1⟩
    cases e1 : (xqu d g (d 0 3).toNat).toNat.testBit h with
    | true => rw [c.mp e1]
    | false =>
      cases e2 : (xpq d g (d 0 4).toNat).toNat.testBit h with
      | true => rw [c.mpr e2] at e1; cases e1
      | false => rfl
  omega
end WALK
/-- where a WALK stands: its picks, the tallies of so many people -/
abbrev WP0 := DA 0 7
abbrev WP1 := DA 1 8
abbrev WP2 := DA 2 9
abbrev WP3 := DA 3 10
abbrev WP4 := DA 4 11
def WR (T : wq_T) (H : wq_H) (w : Nat) (d : xD) (g : Nat → Int) : Prop := H w 5 = d 0 3 ∧ WP0 T H w (d 0 3) g ∧ WP1 T H w (d 0 3 + 1) (xer d g) ∧ WP2 T H w (d 0 3 + 1) (xla d g) ∧ WP3 T H w (d 0 3 + 1) (xfl d g) ∧ WP4 T H w (d 0 3 + 1) (xqu d g)
def WRx (l : List (Nat × Nat)) : Bool := wno l 6 (fun _ => true) && wno l 7 (fun _ => true) && wno l 8 (fun _ => true) && wno l 9 (fun _ => true) && wno l 10 (fun _ => true) && wno l 11 (fun _ => true)
section WREL

variable {T : wq_T} {H H' : wq_H} {l : List (Nat × Nat)} {w : Nat} {c : Int} {f g : Nat → Int} {d : xD}
theorem WP0_fr (hW : WT T H) (gw : T.2.2.2 w = some 6) (f0 : wfr l T H H') (x : DAw 6 0 7 l = true) (h : WP0 T H w c f) : WP0 T H' w c f := DAo_fr gw f0 x h
theorem WP1_fr (hW : WT T H) (gw : T.2.2.2 w = some 6) (f0 : wfr l T H H') (x : DAw 6 1 8 l = true) (h : WP1 T H w c f) : WP1 T H' w c f := DAo_fr gw f0 x h
theorem WP2_fr (hW : WT T H) (gw : T.2.2.2 w = some 6) (f0 : wfr l T H H') (x : DAw 6 2 9 l = true) (h : WP2 T H w c f) : WP2 T H' w c f := DAo_fr gw f0 x h
theorem WP3_fr (hW : WT T H) (gw : T.2.2.2 w = some 6) (f0 : wfr l T H H') (x : DAw 6 3 10 l = true) (h : WP3 T H w c f) : WP3 T H' w c f := DAo_fr gw f0 x h
theorem WP4_fr (hW : WT T H) (gw : T.2.2.2 w = some 6) (f0 : wfr l T H H') (x : DAw 6 4 11 l = true) (h : WP4 T H w c f) : WP4 T H' w c f := DAo_fr gw f0 x h
theorem WR_fr (hW : WT T H) (gw : T.2.2.2 w = some 6) (f0 : wfr l T H H') (x : WRx l = true) (h : WR T H w d g) : WR T H' w d g := by
  unfold WRx at x
  simp only [Bool.and_eq_true] at x
  obtain ⟨⟨⟨⟨⟨x6, x7⟩, x8⟩, x9⟩, x10⟩, x11⟩ := x
  obtain ⟨h1, h2, h3, h4, h5, h6⟩ := h
  exact ⟨(wno_f f0 gw x6 (j := 5) rfl).trans h1, DAo_fr gw f0 (DA_w x6 rfl x7) h2, DAo_fr gw f0 (DA_w x6 rfl x8) h3, DAo_fr gw f0 (DA_w x6 rfl x9) h4, DAo_fr gw f0 (DA_w x6 rfl x10) h5, DAo_fr gw f0 (DA_w x6 rfl x11) h6⟩
end WREL

section WALK2

variable {T : wq_T} {H H' : wq_H} {l : List (Nat × Nat)} {r b o S tg w k n i : Nat} {c v x y z a a' b' q : Int} {f f' g : Nat → Int} {d e : xD}
theorem DA_first (e0 : H r S = (b : Int)) (gr : T.2.2.2 r = some o) (gb : T.2.2.2 b = some tg) (ne : tg ≠ o) (e : H' = wq_u H b (0 : Int).toNat v) (hv : v = z) : DA S tg T H' r (0 + 1) (fun _ => z) := by
  refine ⟨b, ?_, gb, fun k hk => ?_⟩
  · rw [e, wq_u_na (fun q => ?_)]
    · exact e0
    · subst q
      rw [gr] at gb
      exact ne (Option.some.inj gb).symm
  · have : k = 0 := by omega
    subst this
    rw [e]
    show wq_u H b 0 v b 0 = z
    rw [wq_u_eq, hv]
theorem DA_1 (h : DA S tg T H r (0 + 1) f) (e : f 0 = f' 0) : DA S tg T H r (0 + 1) f' := by
  obtain ⟨b, h1, h2, h3⟩ := h
  refine ⟨b, h1, h2, fun k hk => ?_⟩
  have : k = 0 := by omega
  subst this
  rw [h3 0 hk, e]
theorem WP4_0 (hW : WT T H) (gw : T.2.2.2 w = some 6) : WP4 T H w (0 + 1) (xqu d g) := by
  obtain ⟨b, h1, h2⟩ := hW.ref gw (t' := 11) (n := 6) (j := 4) (p := 0) (q := 0) rfl (by decide) rfl
  refine ⟨b, h1, h2, fun k hk => ?_⟩
  have : k = 0 := by omega
  subst this
  have h3 := hW.box h2 (lo := 0) (hi := 0) (n := 7) (j := 0) rfl (by decide) rfl
  show H b 0 = 0
  omega
theorem xbf_s (e : v = wq_or x y) (hx : x = xbf f n) (hy : y = xhs (f n) 24) : v = xbf f (n + 1) := by
  rw [e, hx, hy]
  rfl
theorem xfl_s (e : v = wq_or x y) (hx : x = xfl d g n) (hy : y = xwb d g n) : v = xfl d g (n + 1) := by
  rw [e, hx, hy]
  rfl
theorem xqu_s (e : v = wq_or x y) (hx : x = xqu d g n) (hy : y = xqo d g n n) : v = xqu d g (n + 1) := by
  rw [e, hx, hy]
  rfl
theorem xand_e (e : y = wq_and a v) (ha : a = a') (hb : v = b') : y = wq_and a' b' := by rw [e, ha, hb]
theorem shr0 : ∀ {j : Nat}, j < 6 → wq_and (wq_shr 0 j) 1 = 0 := by
  intro j hj
  have h := List.all_eq_true.mp (show (List.range 6).all (fun j => decide (wq_and (wq_shr 0 (j : Nat)) 1 = 0)) = true by decide +kernel) j (List.mem_range.mpr hj)
  exact of_decide_eq_true h
theorem xagf_cg (h : ∀ i, i ≠ 13 → e i = d i) : ∀ n : Nat, xagf e a q n = xagf d a q n
  | 0 => rfl
  | n + 1 => by
    show (if (e 10 n = a ∧ e 11 n = q) ∨ (e 10 n = q ∧ e 11 n = a) then 1 else xagf e a q n) = (if (d 10 n = a ∧ d 11 n = q) ∨ (d 10 n = q ∧ d 11 n = a) then 1 else xagf d a q n)
    rw [h 10 (by decide), h 11 (by decide), xagf_cg h n]
end WALK2
/-- a row of picks of the reference -/
def RR (T : wq_T) (H : wq_H) (r : Nat) (c : Int) (f : Nat → Int) : Prop := (T.2.2.2 r = some 50 ∨ T.2.2.2 r = some 51) ∧ ∀ k : Nat, (k : Int) < c → H r k = f k
section RROW

variable {T : wq_T} {H H' : wq_H} {l : List (Nat × Nat)} {r b k t m mp : Nat} {c c' : Int} {f : Nat → Int} {d e : xD}
theorem RR_at (h : RR T H r c f) (hk : (k : Int) < c) : H r k = f k := h.2 k hk
theorem RR_27 (h : LQ27 T H m 0 c f) (e0 : H m 27 = (b : Int)) (gb : T.2.2.2 b = some 51) (hc : c' = c) : RR T H b c' f :=
  ⟨Or.inr gb, fun k hk => LR_at h e0 (by omega) (by omega)⟩
theorem RP_18 (h : RP T H m mp e d) : MA18 T H mp (d 10) := by
  obtain ⟨-, ⟨dm, h3, rfl⟩, -⟩ := h
  exact h3.2.2.2.2.2.2.2.2.2.2.2.1
theorem RP_19 (h : RP T H m mp e d) : MA19 T H mp (d 11) := by
  obtain ⟨-, ⟨dm, h3, rfl⟩, -⟩ := h
  exact h3.2.2.2.2.2.2.2.2.2.2.2.2.1
theorem RP_20 (h : RP T H m mp e d) : MA20 T H mp (d 12) := by
  obtain ⟨-, ⟨dm, h3, rfl⟩, -⟩ := h
  exact h3.2.2.2.2.2.2.2.2.2.2.2.2.2.1
end RROW
end
section
/-! WHO IS TOLD APART (own work): two that are told apart are two; what is SAID are SPANS -/
section XNL

variable {B : Nat → Int} {n q : Int} {d : xD} {g : Nat → Int} {a v : Int}
theorem XN_0 : XN xD0 := fun k hk => by
  have e4 : xD0 0 4 = 0 := rfl
  omega
theorem XN_st {d' : xD} (h : XN d) (e3 : d 0 3 ≤ d' 0 3) (e4 : d' 0 4 = d 0 4) (er : ∀ i, 10 ≤ i → i ≤ 11 → d' i = d i) : XN d' := fun k hk => by
  have := h k (by omega)
  rw [er 10 (by decide) (by decide), er 11 (by decide) (by decide)]
  omega
theorem XN_ap (hw : XW d) (h : XN d) (f : (xl3 B n q d).1 = 0) : XN (xdap B n (xN B n q) d) := by
  obtain ⟨hP, hC, hR⟩ := hw
  unfold xl3 at f
  split at f
  · cases f
  · unfold xap at f
    simp only [xs_iff] at f
    obtain ⟨f1, -, f2, f3⟩ := f
    have f1 := xkn_z f1
    have f2 := xkn_z f2
    unfold xwB at f1 f2
    have f3 : xac d (xwho B n (xN B n q) d) (xwho B n (xN B n (xN B n (xN B n q))) d) = 0 := f3.1
    have v := @xdap_v B n (xN B n q) d
    unfold XC at hC
    have hk : (((d 0 4).toNat : Nat) : Int) = d 0 4 := by omega
    have c1 := @xdap_c B n (xN B n q) d _ hk
    have c2 := @xdap_e B n (xN B n q) d _ hk
    have ne : xwho B n (xN B n q) d ≠ xwho B n (xN B n (xN B n (xN B n q))) d := fun e => by
      unfold xac xag at f3
      rw [if_pos e] at f3
      cases f3
    intro k hk2
    by_cases e : k = (d 0 4).toNat
    · rw [e, c1.1, c2.1]
      omega
    · have := h k (by omega)
      rw [c1.2 k e, c2.2 k e]
      omega
theorem XN_line (hw : XW d) (h : XN d) (f : (xline B n q d).1 = 0) : XN (xdline B n q d) := by
  unfold xline at f
  unfold xdline
  split
  · have v := @xdlaw_v B n (xN B n q) d
    exact XN_st h (by omega) (by omega) (fun i h1 h2 => xdlaw_r (by omega))
  · next c0 =>
    rw [if_neg c0] at f
    split
    · have v := @xdper_v B n (xN B n q) d
      exact XN_st h (by omega) (by omega) (fun i h1 h2 => xdper_r h1)
    · next c1 =>
      rw [if_neg c1] at f
      split
      · have v := @xdsex_v B n (xN B n q) d
        exact XN_st h (by omega) (by omega) (fun i h1 h2 => xdsex_r (by omega))
      · next c2 =>
        rw [if_neg c2] at f
        split
        · next c3 =>
          rw [if_pos c3] at f
          exact XN_ap hw h f
        · split
          · exact XN_st h (by unfold xdbo; rw [wq_u_e2 (fun c => by omega), wq_u_row (by decide)]; exact Int.le_refl _) (by unfold xdbo; rw [wq_u_e2 (fun c => by omega), wq_u_row (by decide)]) (fun i h1 h2 => by unfold xdbo; rw [wq_u_row (by omega), wq_u_row (by omega)])
          · split
            · exact XN_st h (by unfold xdst; rw [wq_u_row (by decide)]; exact Int.le_refl _) (by unfold xdst; rw [wq_u_row (by decide)]) (fun i h1 h2 => by unfold xdst; rw [wq_u_row (by omega)])
            · split
              · exact XN_st h (by unfold xdtl; rw [wq_u_e2 (fun c => by omega), wq_u_row (by decide), wq_u_row (by decide)]; exact Int.le_refl _) (by unfold xdtl; rw [wq_u_e2 (fun c => by omega), wq_u_row (by decide), wq_u_row (by decide)]) (fun i h1 h2 => by unfold xdtl; rw [wq_u_row (by omega), wq_u_row (by omega), wq_u_row (by omega)])
              · exact XN_st h (by unfold xdof; rw [wq_u_e2 (fun c => by omega), wq_u_row (by decide), wq_u_row (by decide)]; exact Int.le_refl _) (by unfold xdof; rw [wq_u_e2 (fun c => by omega), wq_u_row (by decide), wq_u_row (by decide)]) (fun i h1 h2 => by unfold xdof; rw [wq_u_row (by omega), wq_u_row (by omega), wq_u_row (by omega)])
theorem XN_xpf : ∀ (f : Nat) (q : Int) (d : xD), XW d → XN d → (xpf B n f q d).1.1 = 0 → XN (xpf B n f q d).2
  | 0, q, d, _, _, h => absurd (show (1 : Int) = 0 from h) (by decide)
  | f + 1, q, d, hw, hn, h => by
    unfold xpf at h ⊢
    split at h
    · next a =>
      rw [if_pos a]
      have hw2 := XW_line hw a
      have hn2 := XN_line hw hn a
      split at h
      · next b =>
        rw [if_pos b]
        split at h
        · next c =>
          rw [if_pos c]
          exact hn2
        · cases h
      · next b =>
        rw [if_neg b]
        split at h
        · next c =>
          rw [if_pos c]
          exact XN_xpf f _ _ hw2 hn2 h
        · cases h
    · next a => exact absurd h a
theorem XN_parse (h : (xparse B n).1.1 = 0) : XN (xparse B n).2 := XN_xpf 902 _ xD0 XW_0 XN_0 h
/-- what is known of what is told, between calls -/
def XA (d : xD) : Prop := XW d ∧ XN d
theorem XA_0 : XA xD0 := ⟨XW_0, XN_0⟩
theorem XA_set (h : (xparse B n).1.1 = 0) : XA (xset (xparse B n).2) ∧ 1 ≤ xset (xparse B n).2 0 0 ∧ 1 ≤ xset (xparse B n).2 0 3 := by
  have h1 := XV_set (XV_parse h)
  exact ⟨⟨h1.1, XN_parse h⟩, h1.2.1, h1.2.2⟩
theorem SG_0 : SG d (fun _ => 0) := fun k hk => ⟨Int.le_refl _, Or.inl rfl⟩
theorem SG_up {k : Nat} (h : SG d g) (h0 : 0 ≤ v) (hv : v < ((xsp d k).length : Int)) : SG d (xup g k v) := fun j hj => by
  by_cases e : j = k
  · subst e
    rw [xup_e]
    exact ⟨h0, Or.inr hv⟩
  · rw [xup_n e]
    exact h j hj
theorem xpd_at : ∀ m k j : Nat, xpd d a k m = 0 → k ≤ j → j < k + m → xdg d a j = 0 ∨ xdg d a j < ((xsp d j).length : Int)
  | 0, k, j, _, h1, h2 => by omega
  | m + 1, k, j, h, h1, h2 => by
    have h3 : (if xdg d a k = 0 ∨ xdg d a k < ((xsp d k).length : Int) then 0 else 1) + xpd d a (k + 1) m = 0 := h
    have h4 := @xpd_p d a m (k + 1)
    by_cases c : xdg d a k = 0 ∨ xdg d a k < ((xsp d k).length : Int)
    · rw [if_pos c] at h3
      by_cases e : j = k
      · rw [e]
        exact c
      · exact xpd_at m (k + 1) j (by omega) (by omega) (by omega)
    · rw [if_neg c] at h3
      omega
theorem SG_im (h : xpd d a 0 (d 0 3).toNat = 0) : SG d (xdg d a) := fun k hk => by
  refine ⟨?_, xpd_at _ 0 k h (Nat.zero_le _) (by omega)⟩
  unfold xdg
  omega
end XNL
end
section
/-! THE JUDGE (own work): which HOUR is wrong first; whether a LOT is a WORLD -/
def xvo (s due b : Int) : Int := if due ≤ s ∧ s ≤ due + b then 0 else if s = due - 1 ∨ s = due + b + 1 then 1 else 2
def xvc (s due b : Int) : Int := if s ≤ 0 then 0 else xvo (s - 1) due b
/-- what an HOUR's strokes say of a LOT: so, off by one, or not -/
def xvy (e d : xD) (g : Nat → Int) (h : Nat) : Int := xvc (e 13 h) (xdue d g h) (d 0 1)
def xco (q : Nat → Int) : Nat → Int
  | 0 => 0
  | h + 1 => xco q h + q h
def xbad (q : Nat → Int) (m : Int) (h : Nat) : Bool := decide (q h = 2) || decide (m < xco q (h + 1))
def XFB (q : Nat → Int) (m n z : Int) : Prop := (z = 24 ∧ ∀ h : Nat, (h : Int) < n → xbad q m h = false) ∨ (0 ≤ z ∧ z < n ∧ xbad q m z.toNat = true ∧ ∀ h : Nat, (h : Int) < z → xbad q m h = false)
def xbh (S : Int) (q : Nat → Int) (h : Nat) : Int := if hb S h = 0 then 0 else q h
def xwo (e d : xD) (g : Nat → Int) : Int := if xqu d g (d 0 3).toNat = 0 ∧ (List.range 24).all (fun h => !(xbad (xvy e d g) (d 0 2) h)) = true then 1 else 0
section JUDGE

variable {q q' : Nat → Int} {m n z z' v S : Int} {u k h : Nat} {e d : xD} {g : Nat → Int}
theorem xvo_b {s due b : Int} : 0 ≤ xvo s due b ∧ xvo s due b ≤ 2 := by
  unfold xvo
  split
  · omega
  · split <;> omega
theorem xvc_b {s due b : Int} : 0 ≤ xvc s due b ∧ xvc s due b ≤ 2 := by
  unfold xvc
  split
  · omega
  · exact xvo_b
theorem xvy_b : 0 ≤ xvy e d g h ∧ xvy e d g h ≤ 2 := xvc_b
theorem xvy_0 (he : e 13 h ≤ 0) : xvy e d g h = 0 := if_pos he
theorem xco_gap (hu : u ≤ h) (hq : ∀ j, u ≤ j → j < h → q j = 0) : xco q h = xco q u := by
  induction h with
  | zero =>
    have : u = 0 := by omega
    subst this
    rfl
  | succ n ih =>
    by_cases c : u = n + 1
    · rw [c]
    · have h1 : xco q (n + 1) = xco q n + q n := rfl
      rw [h1, hq n (by omega) (by omega), ih (by omega) (fun j a b => hq j a (by omega))]
      omega
theorem xbad_f (h1 : q h ≠ 2) (h2 : xco q (h + 1) ≤ m) : xbad q m h = false := by
  unfold xbad
  rw [decide_eq_false h1, decide_eq_false (by omega)]
  rfl
theorem xbad_t (h1 : q h = 2 ∨ m < xco q (h + 1)) : xbad q m h = true := by
  unfold xbad
  rcases h1 with h1 | h1
  · rw [decide_eq_true h1]
    rfl
  · rw [decide_eq_true h1]
    exact Bool.or_true _
theorem xbad_gap (hq : ∀ j, u ≤ j → j < k → q j = 0) (hm : xco q u ≤ m) : ∀ h, u ≤ h → h < k → xbad q m h = false := fun h h1 h2 => by
  have h3 := hq h h1 h2
  have h4 := xco_gap (h := h + 1) (q := q) (u := u) (by omega) (fun j a b => hq j a (by omega))
  exact xbad_f (by omega) (by omega)
theorem xbad_all {p : Nat → Bool} (h1 : ∀ h, h < u → p h = false) (h2 : ∀ h, u ≤ h → h < k → p h = false) : ∀ h, h < k → p h = false := fun h hk => by
  by_cases c : h < u
  · exact h1 h c
  · exact h2 h (by omega) hk
theorem XFB_y (h0 : (k : Int) = z) (h24 : k < 24) (hb : xbad q m k = true) (hn : ∀ h, h < k → xbad q m h = false) : XFB q m 24 z := by
  refine Or.inr ⟨by omega, by omega, ?_, fun h hh => hn h (by omega)⟩
  rw [show z.toNat = k by omega]
  exact hb
theorem XFB_e (hn : ∀ h, h < 24 → xbad q m h = false) : XFB q m 24 24 := Or.inl ⟨rfl, fun h hh => hn h (by omega)⟩
theorem xco_cg : ∀ n : Nat, (∀ h, h < n → q h = q' h) → xco q n = xco q' n
  | 0, _ => rfl
  | n + 1, hq => by
    show xco q n + q n = xco q' n + q' n
    rw [xco_cg n (fun h hh => hq h (by omega)), hq n (by omega)]
theorem xbad_cg (hq : ∀ h, h < 24 → q h = q' h) (hh : h < 24) : xbad q m h = xbad q' m h := by
  unfold xbad
  rw [hq h hh, xco_cg (h + 1) (fun j hj => hq j (by omega))]
theorem XFB_cg (hq : ∀ h, h < 24 → q h = q' h) (hf : XFB q m 24 z) : XFB q' m 24 z := by
  rcases hf with ⟨h1, h2⟩ | ⟨h1, h2, h3, h4⟩
  · exact Or.inl ⟨h1, fun h hh => by rw [← xbad_cg hq (by omega)]; exact h2 h hh⟩
  · exact Or.inr ⟨h1, h2, by rw [← xbad_cg hq (by omega)]; exact h3, fun h hh => by rw [← xbad_cg hq (by omega)]; exact h4 h hh⟩
theorem hb_al (h0 : 0 ≤ d 0 0 ∧ d 0 0 ≤ 24) (hh : h < 24) : hb (xal d) h = if (h : Int) < d 0 0 then 1 else 0 := by
  unfold xal
  rw [hb_xhs hh]
  by_cases c : (h : Int) < d 0 0
  · rw [if_pos c, if_pos ⟨by omega, c⟩]
  · rw [if_neg c, if_neg (fun q => c q.2)]
theorem xbh_al (h0 : 0 ≤ d 0 0 ∧ d 0 0 ≤ 24) (hz : ∀ h : Nat, d 0 0 ≤ (h : Int) → h < 24 → e 13 h = 0) : ∀ h, h < 24 → xbh (xal d) (xvy e d g) h = xvy e d g h := fun h hh => by
  unfold xbh
  rw [hb_al h0 hh]
  by_cases c : (h : Int) < d 0 0
  · rw [if_pos c, if_neg (by decide)]
  · rw [if_neg c, if_pos rfl, xvy_0 (by have := hz h (by omega) hh; omega)]
theorem xwo_q (h1 : xqu d g (d 0 3).toNat ≠ 0) : xwo e d g = 0 := if_neg (fun c => h1 c.1)
theorem xwo_f (h1 : xqu d g (d 0 3).toNat = 0) (hf : XFB (xvy e d g) (d 0 2) 24 z) : (z = 24 ∧ xwo e d g = 1) ∨ (z ≠ 24 ∧ xwo e d g = 0) := by
  rcases hf with ⟨a1, a2⟩ | ⟨a1, a2, a3, -⟩
  · refine Or.inl ⟨a1, if_pos ⟨h1, List.all_eq_true.mpr (fun h hh => ?_)⟩⟩
    rw [a2 h (by have := List.mem_range.mp hh; omega)]
    rfl
  · refine Or.inr ⟨by omega, if_neg (fun c => ?_)⟩
    have := List.all_eq_true.mp c.2 z.toNat (List.mem_range.mpr (by omega))
    rw [a3] at this
    cases this
theorem xpq_s {x y w : Int} (e1 : v = wq_or x w) (hx : x = xpq d g k) (hw : w = wq_and (xsb d g (d 10 k).toNat) (xsb d g (d 11 k).toNat)) : v = xpq d g (k + 1) := by
  rw [e1, hx, hw]
  rfl
end JUDGE
end
section
/-! FROM ONE LOT TO THE NEXT (own work) -/
section LOTS

variable {d : xD} {g g' : Nat → Int} {q c n v i : Int} {k h j m : Nat}
theorem dm_y (h0 : 0 ≤ q) (hc : 0 < c) (h : q % c + 1 < c) : (q + 1) / c = q / c ∧ (q + 1) % c = q % c + 1 := by
  have h1 := Int.emod_add_mul_ediv q c
  have h2 := Int.emod_nonneg q (b := c) (by omega)
  exact (Int.ediv_emod_unique hc).mpr ⟨by omega, by omega, h⟩
theorem dm_n (h0 : 0 ≤ q) (hc : 0 < c) (h : q % c + 1 = c) : (q + 1) / c = q / c + 1 ∧ (q + 1) % c = 0 := by
  have h1 := Int.emod_add_mul_ediv q c
  refine (Int.ediv_emod_unique hc).mpr ⟨?_, Int.le_refl _, hc⟩
  rw [Int.mul_add, Int.mul_one]
  omega
/-- what lies behind a person, of all LOTS -/
def xsT (d : xD) (k : Nat) : Int := xpr d k ((d 0 3).toNat - k)
theorem xsT_0 (hP : xdP d) : 0 ≤ xsT d k := (xpr_b hP _ _).1
theorem xsT_s (hk : (k : Int) < d 0 3) : xsT d k = ((xsp d k).length : Int) * xsT d (k + 1) := xpr_i hk
theorem xsT_e : xsT d (d 0 3).toNat = 1 := by
  unfold xsT
  rw [Nat.sub_self]
  rfl
theorem xlot_s {a : Int} : xlot d a k = a / xsT d (k + 1) % ((xsp d k).length : Int) := rfl
theorem xsT_d (hP : xdP d) (hk : (k : Int) < d 0 3) {a : Int} : a / xsT d k = a / xsT d (k + 1) / ((xsp d k).length : Int) := by
  rw [xsT_s hk, Int.ediv_ediv_of_nonneg (xsT_0 hP), Int.mul_comm]
/-- so far all wrapped round: one more is carried on -/
def xcy (d : xD) (n : Int) (i : Int) : Prop := (n + 1) / xsT d (i + 1).toNat = n / xsT d (i + 1).toNat + 1
theorem xcy_0 (hi : i = d 0 3 - 1) : xcy d n i := by
  unfold xcy
  rw [show (i + 1).toNat = (d 0 3).toNat by omega, xsT_e, Int.ediv_one, Int.ediv_one]
theorem xcy_y (hP : xdP d) (h0 : 0 ≤ n) (hi : 0 ≤ i) (h3 : i < d 0 3) (hc : xcy d n i) (hl : xlot d n i.toNat + 1 < ((xsp d i.toNat).length : Int)) : xlot d (n + 1) i.toNat = xlot d n i.toNat + 1 ∧ (n + 1) / xsT d i.toNat = n / xsT d i.toNat := by
  unfold xcy at hc
  rw [show (i + 1).toNat = i.toNat + 1 by omega] at hc
  have h1 : 0 ≤ n / xsT d (i.toNat + 1) := Int.ediv_nonneg h0 (xsT_0 hP)
  rw [xlot_s] at hl
  have h2 := Int.emod_nonneg (n / xsT d (i.toNat + 1)) (b := ((xsp d i.toNat).length : Int))
  have h4 : 0 < ((xsp d i.toNat).length : Int) := by
    by_cases e : ((xsp d i.toNat).length : Int) = 0
    · rw [e, Int.emod_zero] at hl
      omega
    · omega
  have h5 := dm_y h1 h4 hl
  rw [xlot_s, xlot_s, xsT_d (k := i.toNat) hP (by omega), xsT_d (k := i.toNat) hP (by omega), hc]
  exact ⟨h5.2, h5.1⟩
theorem xcy_n (hP : xdP d) (h0 : 0 ≤ n) (hi : 0 ≤ i) (h3 : i < d 0 3) (hc : xcy d n i) (hl : xlot d n i.toNat + 1 = ((xsp d i.toNat).length : Int)) : xlot d (n + 1) i.toNat = 0 ∧ xcy d n (i + (-1)) := by
  unfold xcy at hc ⊢
  rw [show (i + (-1) + 1).toNat = i.toNat by omega]
  rw [show (i + 1).toNat = i.toNat + 1 by omega] at hc
  have h1 : 0 ≤ n / xsT d (i.toNat + 1) := Int.ediv_nonneg h0 (xsT_0 hP)
  rw [xlot_s] at hl
  have h4 : 0 < ((xsp d i.toNat).length : Int) := by
    by_cases e : ((xsp d i.toNat).length : Int) = 0
    · rw [e, Int.emod_zero] at hl
      omega
    · omega
  have h5 := dm_n h1 h4 hl
  rw [xlot_s, xsT_d (k := i.toNat) hP (by omega), xsT_d (k := i.toNat) hP (by omega), hc]
  exact ⟨h5.2, h5.1⟩
/-- those ahead stay as they are -/
theorem xlot_up (hP : xdP d) : ∀ m k : Nat, ((k + m : Nat) : Int) ≤ d 0 3 → (n + 1) / xsT d (k + m) = n / xsT d (k + m) → (n + 1) / xsT d k = n / xsT d k
  | 0, k, _, h => h
  | m + 1, k, hk, h => by
    have h1 := xlot_up hP m (k + 1) (by omega) (by rw [show k + 1 + m = k + (m + 1) by omega]; exact h)
    rw [xsT_d (k := k) hP (by omega), xsT_d (k := k) hP (by omega), h1]
theorem xlot_a (hP : xdP d) (hi : 0 ≤ i) (h3 : i < d 0 3) (h : (n + 1) / xsT d i.toNat = n / xsT d i.toNat) (hk : (k : Int) < i) : xlot d (n + 1) k = xlot d n k := by
  have h1 := xlot_up (n := n) hP (i.toNat - (k + 1)) (k + 1) (by omega) (by rw [show k + 1 + (i.toNat - (k + 1)) = i.toNat by omega]; exact h)
  rw [xlot_s, xlot_s, h1]
theorem xlot_b (hP : xdP d) (h0 : 0 ≤ n) (hl : 0 < xlots d) (hk : (k : Int) < d 0 3) : 0 ≤ xlot d n k ∧ xlot d n k < ((xsp d k).length : Int) := by
  have h1 := (xpr_pos hP hl hk).1
  rw [xlot_s]
  exact ⟨Int.emod_nonneg _ (by omega), Int.emod_lt_of_pos _ h1⟩
theorem xlot_0 (hP : xdP d) : xlot d 0 k = 0 := by
  rw [xlot_s, Int.zero_ediv, Int.zero_emod]
theorem SL_lot (hP : xdP d) (h0 : 0 ≤ n) (hl : 0 < xlots d) : SL d (xlot d n) := fun k hk => xlot_b hP h0 hl hk
/-- what is counted of the first people hangs on their picks alone -/
theorem xwb_cg (e : g k = g' k) : xwb d g k = xwb d g' k ∧ xsb d g k = xsb d g' k := by
  unfold xwb xsb xpt
  rw [e]
  exact ⟨rfl, rfl⟩
theorem xct_cg : ∀ k : Nat, (∀ j, j < k → g j = g' j) → xct d g h k = xct d g' h k
  | 0, _ => rfl
  | k + 1, e => by
    show xct d g h k + hb (xwb d g k) h = xct d g' h k + hb (xwb d g' k) h
    rw [xct_cg k (fun j hj => e j (by omega)), (xwb_cg (e k (by omega))).1]
theorem xer_cg (e : ∀ j, j < k → g j = g' j) : xer d g k = xer d g' k := by
  unfold xer
  rw [tal_cg 12 (fun h _ => xct_cg k e)]
theorem xla_cg (e : ∀ j, j < k → g j = g' j) : xla d g k = xla d g' k := by
  unfold xla
  rw [tal_cg 12 (fun h _ => xct_cg (h := h + 12) k e)]
theorem xfl_cg : ∀ k : Nat, (∀ j, j < k → g j = g' j) → xfl d g k = xfl d g' k
  | 0, _ => rfl
  | k + 1, e => by
    show wq_or (xfl d g k) (xwb d g k) = wq_or (xfl d g' k) (xwb d g' k)
    rw [xfl_cg k (fun j hj => e j (by omega)), (xwb_cg (e k (by omega))).1]
theorem xqo_cg {i : Nat} (ei : g i = g' i) : ∀ k : Nat, (∀ j, j < k → g j = g' j) → xqo d g i k = xqo d g' i k
  | 0, _ => rfl
  | k + 1, e => by
    show (if xagf d i k (d 0 4).toNat = 0 then xqo d g i k else wq_or (xqo d g i k) (wq_and (xsb d g i) (xsb d g k))) = (if xagf d i k (d 0 4).toNat = 0 then xqo d g' i k else wq_or (xqo d g' i k) (wq_and (xsb d g' i) (xsb d g' k)))
    rw [xqo_cg ei k (fun j hj => e j (by omega)), (xwb_cg ei).2, (xwb_cg (e k (by omega))).2]
theorem xqu_cg : ∀ k : Nat, (∀ j, j < k → g j = g' j) → xqu d g k = xqu d g' k
  | 0, _ => rfl
  | k + 1, e => by
    show wq_or (xqu d g k) (xqo d g k k) = wq_or (xqu d g' k) (xqo d g' k k)
    rw [xqu_cg k (fun j hj => e j (by omega)), xqo_cg (e k (by omega)) k (fun j hj => e j (by omega))]
end LOTS

section WCG

variable {T : wq_T} {H : wq_H} {w : Nat} {c c' : Int} {f f' : Nat → Int}
theorem DA_cut {S tg r : Nat} (h : DA S tg T H r c f) (hc : c' ≤ c) (e : ∀ k : Nat, (k : Int) < c' → f k = f' k) : DA S tg T H r c' f' := by
  obtain ⟨b, h1, h2, h3⟩ := h
  exact ⟨b, h1, h2, fun k hk => (h3 k (by omega)).trans (e k hk)⟩
end WCG
end
section
/-! MARKS (own work): a bit for each LOT, 64 in a number; the reference's list -/
theorem wl_bit_or {x y s : Int} : wl_and (wl_shr (wl_or x y) s) 1 = wl_or (wl_and (wl_shr x s) 1) (wl_and (wl_shr y s) 1) := by
  unfold wl_and wl_shr wl_or
  rw [Int64.ofInt_toInt, Int64.ofInt_toInt, Int64.ofInt_toInt, Int64.ofInt_toInt, Int64.ofInt_toInt, Int64.ofInt_toInt]
  apply congrArg Int64.toInt
  apply Int64.toBitVec_inj.mp
  generalize ((Int32.ofInt s).toInt64 &&& 63) = k
  show ((Int64.ofInt x).toBitVec ||| (Int64.ofInt y).toBitVec).sshiftRight (k.toBitVec.smod 64).toNat &&& (Int64.ofInt 1).toBitVec = ((Int64.ofInt x).toBitVec.sshiftRight (k.toBitVec.smod 64).toNat &&& (Int64.ofInt 1).toBitVec) ||| ((Int64.ofInt y).toBitVec.sshiftRight (k.toBitVec.smod 64).toNat &&& (Int64.ofInt 1).toBitVec)
  rw [BitVec.sshiftRight_or_distrib, BitVec.and_or_distrib_right]
theorem wl_bit_1 : (List.range 64).all (fun j => (List.range 64).all (fun k => decide (wl_and (wl_shr (wl_shl 1 (k : Nat)) (j : Nat)) 1 = if j = k then 1 else 0))) = true := by decide +kernel
theorem wl_bit_b {x : Int} : wl_and x 1 = 0 ∨ wl_and x 1 = 1 := by
  have e : wl_and x 1 = ((Int64.ofInt x).toBitVec &&& (Int64.ofInt 1).toBitVec).toInt := rfl
  have hn : ((Int64.ofInt x).toBitVec &&& (Int64.ofInt 1).toBitVec).toNat = (Int64.ofInt x).toBitVec.toNat % 2 := by
    rw [BitVec.toNat_and]
    exact Nat.and_one_is_mod _
  have h2 := BitVec.toInt_eq_toNat_cond ((Int64.ofInt x).toBitVec &&& (Int64.ofInt 1).toBitVec)
  rw [hn] at h2
  rw [e, h2]
  split <;> omega
theorem wl_or_01 {x y : Int} (hx : x = 0 ∨ x = 1) (hy : y = 0 ∨ y = 1) : wl_or x y = if x = 1 ∨ y = 1 then 1 else 0 := by
  rcases hx with rfl | rfl <;> rcases hy with rfl | rfl <;> decide
/-- one bit is set -/
theorem wl_mark {W : Int} {j k : Nat} (hj : j < 64) (hk : k < 64) : wl_and (wl_shr (wl_or W (wl_shl 1 k)) j) 1 = if j = k then 1 else wl_and (wl_shr W j) 1 := by
  have h := of_decide_eq_true (List.all_eq_true.mp (List.all_eq_true.mp wl_bit_1 j (List.mem_range.mpr hj)) k (List.mem_range.mpr hk))
  have h0 := @wl_bit_b (wl_shr W j)
  rw [wl_bit_or, h]
  by_cases e : j = k
  · rw [if_pos e, if_pos e, wl_or_01 h0 (Or.inr rfl), if_pos (Or.inr rfl)]
  · rw [if_neg e, if_neg e, wl_or_01 h0 (Or.inl rfl)]
    rcases h0 with h0 | h0
    · rw [h0]
      rfl
    · rw [h0]
      rfl
end
section
/-! FOLDS OVER WORLDS (own work): what is counted, summed, sought over them; what a LOT weighs -/
def xwf (e d : xD) : Nat → Int := fun n => xwo e d (xlot d n)
section XWF

variable {e d : xD} {g : Nat → Int} {v : Int}
theorem xwo_b : 0 ≤ xwo e d g ∧ xwo e d g ≤ 1 := by
  unfold xwo
  split <;> omega
theorem xwf_v (h0 : 0 ≤ v) : xwf e d v.toNat = xwo e d (xlot d v) := by
  unfold xwf
  rw [Int.toNat_of_nonneg h0]
theorem xcw_s (h0 : 0 ≤ v) : xcn (xwf e d) (v + 1).toNat = xcn (xwf e d) v.toNat + xwo e d (xlot d v) := by
  have h1 := @xwo_b e d (xlot d v)
  rw [show (v + 1).toNat = v.toNat + 1 by omega]
  show xcn (xwf e d) v.toNat + (if xwf e d v.toNat > 0 then 1 else 0) = _
  rw [xwf_v h0]
  split <;> omega
end XWF
def wfd {α : Type} (f : Nat → Int) (s : Nat → α → α) (a : α) : Nat → α
  | 0 => a
  | n + 1 => if f n > 0 then s n (wfd f s a n) else wfd f s a n
section FOLD

variable {α : Type} {f : Nat → Int} {s s' : Nat → α → α} {a : α} {n u h : Nat}
theorem wfd_y (hf : f n > 0) : wfd f s a (n + 1) = s n (wfd f s a n) := if_pos hf
theorem wfd_n (hf : f n ≤ 0) : wfd f s a (n + 1) = wfd f s a n := if_neg (by omega)
end FOLD
/-- the weight of a SPAN that begins at b, by a habit -/
def xwe (h b : Int) : Int := if h = -1 then 1 else if 9 ≤ b - h ∨ b - h ≤ -9 then 1 else if 0 ≤ b - h then 10 - (b - h) else 10 + (b - h)
def xlw (d : xD) (g : Nat → Int) : Nat → Int
  | 0 => 1
  | k + 1 => xlw d g k * xwe (d 6 k) (xpt d g k).1
def xlW (d : xD) (n : Nat) : Int := xlw d (xlot d n) (d 0 3).toNat
def pw10 : Nat → Int
  | 0 => 1
  | k + 1 => pw10 k * 10
/-- of the first LOTS: all weights, the greatest and where it stands first -/
def xsW (e d : xD) (N : Nat) : Int := wfd (xwf e d) (fun n x => x + xlW d n) 0 N
def xbW (e d : xD) (N : Nat) : Int × Int := wfd (xwf e d) (fun n p => if xlW d n > p.1 then (xlW d n, (n : Int)) else p) (0, 0) N
section WEIGH

variable {d e : xD} {g : Nat → Int} {h b z x y v : Int} {k n N : Nat}
theorem xwe_e (q : (h = -1 ∧ z = 1) ∨ (h ≠ -1 ∧ ((z = 1 ∧ (9 ≤ b - h ∨ b - h ≤ -9)) ∨ (b - h ≤ 8 ∧ -8 ≤ b - h ∧ ((0 ≤ b - h ∧ z = 10 - (b - h)) ∨ (b - h < 0 ∧ z = 10 + (b - h))))))) : z = xwe h b := by
  unfold xwe
  split
  · omega
  · split
    · omega
    · split <;> omega
theorem xwe_b : 1 ≤ xwe h b ∧ xwe h b ≤ 10 := by
  unfold xwe
  split
  · omega
  · split
    · omega
    · split <;> omega
theorem mul_10 (hx : 1 ≤ x ∧ x ≤ y) (hz : 1 ≤ z ∧ z ≤ 10) : 1 ≤ x * z ∧ x * z ≤ y * 10 := by
  have h1 : 1 * 1 ≤ x * z := Int.mul_le_mul hx.1 hz.1 (by decide) (by omega)
  have h2 : x * z ≤ y * 10 := Int.mul_le_mul hx.2 hz.2 (by omega) (by omega)
  omega
theorem xlw_b : ∀ k : Nat, 1 ≤ xlw d g k ∧ xlw d g k ≤ pw10 k
  | 0 => ⟨by show (1 : Int) ≤ 1; decide, by show (1 : Int) ≤ 1; decide⟩
  | k + 1 => mul_10 (xlw_b k) xwe_b
theorem pw10_6 : ∀ {k : Nat}, k ≤ 6 → pw10 k ≤ 1000000 := by
  intro k hk
  have h := List.all_eq_true.mp (show (List.range 7).all (fun k => decide (pw10 k ≤ 1000000)) = true by decide) k (List.mem_range.mpr (by omega))
  exact of_decide_eq_true h
theorem xlw_6 (hk : k ≤ 6) : 1 ≤ xlw d g k ∧ xlw d g k ≤ 1000000 := by
  have h1 := @xlw_b d g k
  have h2 := pw10_6 hk
  omega
/-- one more person's -/
theorem xlw_s {w : Int} (hk : k < 6) (hx : x = xlw d g k) (hz : z = xwe (d 6 k) (xpt d g k).1) (hv : (-9223372036854775808 ≤ x * z ∧ x * z ≤ 9223372036854775807) → v = x * z) : v = xlw d g (k + 1) := by
  have h1 := @xlw_6 d g k (by omega)
  have h2 := @xwe_b (d 6 k) (xpt d g k).1
  have h3 := mul_10 (x := x) (y := 1000000) (z := z) (by omega) (by omega)
  rw [hv (by omega), hx, hz]
  rfl
theorem xlW_b (h3 : d 0 3 ≤ 6) : 1 ≤ xlW d n ∧ xlW d n ≤ 1000000 := xlw_6 (by omega)
theorem xsW_b (h3 : d 0 3 ≤ 6) : ∀ N : Nat, 0 ≤ xsW e d N ∧ xsW e d N ≤ 1000000 * N
  | 0 => ⟨Int.le_refl _, by show (0 : Int) ≤ 1000000 * ((0 : Nat) : Int); decide⟩
  | N + 1 => by
    have h1 := xsW_b h3 N
    have h2 := @xlW_b d N h3
    have e1 : xsW e d (N + 1) = if xwf e d N > 0 then xsW e d N + xlW d N else xsW e d N := rfl
    rw [e1]
    split <;> omega
theorem xsW_y (hf : xwf e d N > 0) : xsW e d (N + 1) = xsW e d N + xlW d N := wfd_y hf
theorem xsW_n (hf : xwf e d N ≤ 0) : xsW e d (N + 1) = xsW e d N := wfd_n hf
theorem xbW_y (hf : xwf e d N > 0) : xbW e d (N + 1) = if xlW d N > (xbW e d N).1 then (xlW d N, (N : Int)) else xbW e d N := wfd_y hf
theorem xbW_n (hf : xwf e d N ≤ 0) : xbW e d (N + 1) = xbW e d N := wfd_n hf
theorem xbW_b (h3 : d 0 3 ≤ 6) : ∀ N : Nat, 0 ≤ (xbW e d N).1 ∧ (xbW e d N).1 ≤ 1000000 ∧ 0 ≤ (xbW e d N).2 ∧ (xbW e d N).2 ≤ N
  | 0 => ⟨Int.le_refl _, by show (0 : Int) ≤ 1000000; decide, Int.le_refl _, Int.le_refl _⟩
  | N + 1 => by
    have h1 := xbW_b h3 N
    have h2 := @xlW_b d N h3
    by_cases c : xwf e d N > 0
    · rw [xbW_y c]
      split
      · exact ⟨by show 0 ≤ xlW d N; omega, by show xlW d N ≤ 1000000; omega, by show (0 : Int) ≤ (N : Int); omega, by show (N : Int) ≤ ((N + 1 : Nat) : Int); omega⟩
      · omega
    · rw [xbW_n (by omega)]
      omega
end WEIGH
/-- the marks of WORLDS -/
def CEM (T : wq_T) (H : wq_H) (ce : Nat) (f : Nat → Int) (N : Nat) : Prop := ∃ b : Nat, H ce 0 = (b : Int) ∧ T.2.2.2 b = some 13 ∧ ∀ n : Nat, n < 20000 → wl_and (wl_shr (H b (n / 64)) ((n % 64 : Nat) : Int)) 1 = if n < N ∧ f n > 0 then 1 else 0
def CEMx (l : List (Nat × Nat)) : Bool := wno l 12 (fun j => decide (j = 0)) && wno l 13 (fun _ => true)
section MARK

variable {T : wq_T} {H H' : wq_H} {l : List (Nat × Nat)} {ce b s n N : Nat} {f : Nat → Int} {v w : Int}
theorem CEM_fr (hW : WT T H) (g : T.2.2.2 ce = some 12) (f0 : wfr l T H H') (x : CEMx l = true) (h : CEM T H ce f N) : CEM T H' ce f N := by
  unfold CEMx at x
  rw [Bool.and_eq_true] at x
  obtain ⟨b, h1, h2, h3⟩ := h
  exact ⟨b, (wno_f f0 g x.1 (j := 0) rfl).trans h1, h2, fun n hn => by rw [wno_f f0 h2 x.2 rfl]; exact h3 n hn⟩
theorem CEM_put (h : CEM T H ce f N) (e0 : H ce 0 = (b : Int)) (gc : T.2.2.2 ce = some 12) (gb : T.2.2.2 b = some 13) (e : H' = wq_u H b s v) (hs : s = N / 64) (hv : v = wl_or (H b s) w) (hw : w = wl_shl 1 ((N % 64 : Nat) : Int)) (hf : f N > 0) : CEM T H' ce f (N + 1) := by
  obtain ⟨b', h1, h2, h3⟩ := h
  have hb : b' = b := by omega
  subst hb
  refine ⟨b', ?_, h2, fun n hn => ?_⟩
  · rw [e, wq_u_na (fun q => ?_)]
    · exact h1
    · subst q
      rw [gc] at gb
      cases gb
  · have h4 := h3 n hn
    by_cases c : n / 64 = s
    · rw [e, c, wq_u_eq, hv, hw, wl_mark (Nat.mod_lt _ (by decide)) (Nat.mod_lt _ (by decide))]
      rw [c] at h4
      by_cases c2 : n % 64 = N % 64
      · have : n = N := by omega
        subst this
        rw [if_pos rfl, if_pos ⟨by omega, hf⟩]
      · rw [if_neg c2, h4]
        by_cases c3 : n < N ∧ f n > 0
        · rw [if_pos c3, if_pos ⟨by omega, c3.2⟩]
        · rw [if_neg c3, if_neg (fun q => c3 ⟨by have : n ≠ N := fun r => c2 (by rw [r]); omega, q.2⟩)]
    · rw [e, wq_u_ne (fun q => c q.2), h4]
      by_cases c3 : n < N ∧ f n > 0
      · rw [if_pos c3, if_pos ⟨by omega, c3.2⟩]
      · rw [if_neg c3, if_neg (fun q => c3 ⟨by have : n ≠ N := fun r => c (by rw [hs, r]); omega, q.2⟩)]
theorem CEM_n (hf : f N ≤ 0) (h : CEM T H ce f N) : CEM T H ce f (N + 1) := by
  obtain ⟨b, h1, h2, h3⟩ := h
  refine ⟨b, h1, h2, fun n hn => ?_⟩
  rw [h3 n hn]
  by_cases c3 : n < N ∧ f n > 0
  · rw [if_pos c3, if_pos ⟨by omega, c3.2⟩]
  · rw [if_neg c3, if_neg (fun q => c3 ⟨by have : n ≠ N := fun r => by subst r; omega
                                           omega, q.2⟩)]
theorem CEM_0 (e0 : H ce 0 = (b : Int)) (gb : T.2.2.2 b = some 13) (hz : ∀ j : Nat, (j : Int) < 313 → H b j = 0) : CEM T H ce f 0 := by
  refine ⟨b, e0, gb, fun n hn => ?_⟩
  rw [hz (n / 64) (by omega), if_neg (fun q => by omega)]
  have h := List.all_eq_true.mp (show (List.range 64).all (fun k => decide (wl_and (wl_shr 0 (k : Nat)) 1 = 0)) = true by decide +kernel) (n % 64) (List.mem_range.mpr (Nat.mod_lt _ (by decide)))
  exact of_decide_eq_true h
end MARK
abbrev CM0 := DA 0 13
theorem CEM_0d {T : wq_T} {H : wq_H} {ce : Nat} {f : Nat → Int} {c : Int} (h : CM0 T H ce c (fun _ => 0)) (hc : c = 313) : CEM T H ce f 0 := by
  obtain ⟨b, h1, h2, h3⟩ := h
  exact CEM_0 h1 h2 (fun j hj => h3 j (by omega))
end
section
/-! SUMS AND BOUNDS OVER WORLDS (own work): what is held, by SPANS; sums by SPANS and by WORLDS; the least and the greatest; the next one -/
def wsm (f w : Nat → Int) : Nat → Int
  | 0 => 0
  | n + 1 => if f n > 0 then wsm f w n + w n else wsm f w n
section WSM

variable {f w w' x y : Nat → Int} {g : Nat → Nat} {c : Nat → Bool} {n N i k L u h : Nat} {B v z : Int}
theorem wsm_y (h : f n > 0) : wsm f w (n + 1) = wsm f w n + w n := if_pos h
theorem wsm_n (h : f n ≤ 0) : wsm f w (n + 1) = wsm f w n := if_neg (by omega)
theorem wsm_b (h : ∀ n, 0 ≤ w n ∧ w n ≤ B) : ∀ N : Nat, 0 ≤ wsm f w N ∧ wsm f w N ≤ B * N
  | 0 => ⟨Int.le_refl _, by show (0 : Int) ≤ B * ((0 : Nat) : Int); rw [show ((0 : Nat) : Int) = 0 from rfl, Int.mul_zero]; exact Int.le_refl _⟩
  | N + 1 => by
    have h1 := wsm_b h N
    have h2 := h N
    have h3 : B * ((N + 1 : Nat) : Int) = B * (N : Int) + B := by rw [show ((N + 1 : Nat) : Int) = (N : Int) + 1 by omega, Int.mul_add, Int.mul_one]
    by_cases q : f N > 0
    · rw [wsm_y q, h3]
      omega
    · rw [wsm_n (by omega), h3]
      omega
end WSM
/-- how many WORLDS hold a SPAN, what they weigh -/
def xhc (e d : xD) (p i N : Nat) : Int := wsm (xwf e d) (fun n => if (xlot d n p).toNat = i then 1 else 0) N
def xhw (e d : xD) (p i N : Nat) : Int := wsm (xwf e d) (fun n => if (xlot d n p).toNat = i then xlW d n else 0) N
/-- the least, or the greatest, of something by all WORLDS; the first one's to begin with -/
def xtr (m : Bool) (f v : Nat → Int) : Nat → Int
  | 0 => 0
  | n + 1 => if f n > 0 then (if xcn f n = 0 ∨ (if m = true then xtr m f v n < v n else v n < xtr m f v n) then v n else xtr m f v n) else xtr m f v n
section XTR

variable {f v v' : Nat → Int} {m : Bool} {n N : Nat} {z a : Int}
theorem xtr_y (h : f n > 0) : xtr m f v (n + 1) = if xcn f n = 0 ∨ (if m = true then xtr m f v n < v n else v n < xtr m f v n) then v n else xtr m f v n := if_pos h
theorem xtr_n (h : f n ≤ 0) : xtr m f v (n + 1) = xtr m f v n := if_neg (by omega)
end XTR
/-! bits of a long, one after the other -/
theorem wl_or_c {x y : Int} : wl_or x y = wl_or y x := by
  unfold wl_or
  rw [Int64.or_comm]
theorem wl_or_a {x y z : Int} : wl_or (wl_or x y) z = wl_or x (wl_or y z) := by
  unfold wl_or
  rw [Int64.ofInt_toInt, Int64.ofInt_toInt, Int64.or_assoc]
theorem wl_or_s {x y : Int} : wl_or (wl_or x y) y = wl_or x y := by
  rw [wl_or_a]
  unfold wl_or
  rw [Int64.ofInt_toInt, Int64.or_self]
def xoL (P : Nat → Bool) : Nat → Int
  | 0 => 0
  | n + 1 => if P n = true then wl_or (xoL P n) (wl_shl 1 n) else xoL P n
theorem xoL_cg {P Q : Nat → Bool} : ∀ n : Nat, (∀ j, j < n → P j = Q j) → xoL P n = xoL Q n
  | 0, _ => rfl
  | n + 1, h => by
    show (if P n = true then wl_or (xoL P n) (wl_shl 1 n) else xoL P n) = (if Q n = true then wl_or (xoL Q n) (wl_shl 1 n) else xoL Q n)
    rw [h n (by omega), xoL_cg n (fun j hj => h j (by omega))]
theorem xoL_up {P : Nat → Bool} {k : Nat} : ∀ n : Nat, k < n → xoL (fun i => P i || decide (i = k)) n = wl_or (xoL P n) (wl_shl 1 k)
  | 0, h => by omega
  | n + 1, h => by
    have e : xoL (fun i => P i || decide (i = k)) (n + 1) = if (P n || decide (n = k)) = true then wl_or (xoL (fun i => P i || decide (i = k)) n) (wl_shl 1 n) else xoL (fun i => P i || decide (i = k)) n := rfl
    have e2 : xoL P (n + 1) = if P n = true then wl_or (xoL P n) (wl_shl 1 n) else xoL P n := rfl
    rw [e, e2]
    by_cases c : n = k
    · have h1 : xoL (fun i => P i || decide (i = k)) n = xoL P n := xoL_cg n (fun j hj => by
        show (P j || decide (j = k)) = P j
        rw [decide_eq_false (show ¬ j = k by omega), Bool.or_false])
      rw [h1, decide_eq_true c, Bool.or_true, if_pos rfl, c]
      split
      · rw [wl_or_s]
      · rfl
    · rw [xoL_up n (by omega), decide_eq_false c, Bool.or_false]
      split
      · rw [wl_or_a, wl_or_c (x := wl_shl 1 k), ← wl_or_a]
      · rfl
theorem xoL_e : ∀ n : Nat, xoL (fun _ => false) n = 0
  | 0 => rfl
  | n + 1 => by
    show (if false = true then wl_or (xoL (fun _ => false) n) (wl_shl 1 n) else xoL (fun _ => false) n) = 0
    rw [if_neg (by decide)]
    exact xoL_e n
section AWK

variable {e d : xD} {p h : Nat}
end AWK
section XOUT

variable {m : Bool} {c f : Nat → Int} {n : Nat} {z z' : Int}
end XOUT
end
section
/-! WHAT IS HELD (own work): rows by people and SPANS, six apart from each other; the least and the greatest STRIKES of an HOUR -/
def HDr (S tA tR : Nat) (T : wq_T) (H : wq_H) (ce : Nat) : Prop := ∃ a : Nat, H ce S = (a : Int) ∧ T.2.2.2 a = some tA ∧ ∀ p q : Nat, p < 6 → q < 6 → p ≠ q → H a p ≠ H a q
def HDR (T : wq_T) (H : wq_H) (ce : Nat) : Prop := HDr 1 14 15 T H ce ∧ HDr 2 16 17 T H ce
def HDRx (l : List (Nat × Nat)) : Bool := wno l 12 (fun j => decide (j = 1 ∨ j = 2)) && wno l 14 (fun _ => true) && wno l 16 (fun _ => true)
def HV (S : Nat) (T : wq_T) (H : wq_H) (ce : Nat) (c : Int) (v : Nat → Nat → Int) : Prop := ∀ a r p i : Nat, H ce S = (a : Int) → (p : Int) < c → p < 6 → i < 40 → H a p = (r : Int) → H r i = v p i
abbrev HV1 := HV 1
abbrev HV2 := HV 2
def HV1x (l : List (Nat × Nat)) : Bool := wno l 12 (fun j => decide (j = 1)) && wno l 14 (fun _ => true) && wno l 15 (fun _ => true)
def HV2x (l : List (Nat × Nat)) : Bool := wno l 12 (fun j => decide (j = 2)) && wno l 16 (fun _ => true) && wno l 17 (fun _ => true)
def LDu (S tg : Nat) (m : Bool) (T : wq_T) (H : wq_H) (ce : Nat) (e d : xD) (N u : Nat) : Prop := ∃ b : Nat, H ce S = (b : Int) ∧ T.2.2.2 b = some tg ∧ ∀ h : Nat, h < 24 → e 13 h > 0 → (h < u ∨ 0 < xcn (xwf e d) N) → H b h = if h < u then xtr m (xwf e d) (fun n => ((xdue d (xlot d n) h : Nat) : Int)) (N + 1) else xtr m (xwf e d) (fun n => ((xdue d (xlot d n) h : Nat) : Int)) N
abbrev LD3 := LDu 3 18 false
abbrev LD4 := LDu 4 19 true
def LD3x (l : List (Nat × Nat)) : Bool := wno l 12 (fun j => decide (j = 3)) && wno l 18 (fun _ => true)
def LD4x (l : List (Nat × Nat)) : Bool := wno l 12 (fun j => decide (j = 4)) && wno l 19 (fun _ => true)
/-- all that is held of the first LOTS -/
def CEX (T : wq_T) (H : wq_H) (ce : Nat) (e d : xD) (N : Nat) : Prop := HV1 T H ce (d 0 3) (fun p i => xhc e d p i N) ∧ HV2 T H ce (d 0 3) (fun p i => xhw e d p i N) ∧ LD3 T H ce e d N 0 ∧ LD4 T H ce e d N 0
def CEXx (l : List (Nat × Nat)) : Bool := HV1x l && HV2x l && LD3x l && LD4x l
section HELD

variable {T T' : wq_T} {H H' : wq_H} {l : List (Nat × Nat)} {ce a r k p0 b h9 u N S tA tR tg : Nat} {e d : xD} {v v' : Nat → Nat → Int} {c x y : Int} {m : Bool}
theorem HDr_fr (g : T.2.2.2 ce = some 12) (f : wfr l T H H') (x1 : wno l 12 (fun j => decide (j = S)) = true) (x2 : wno l tA (fun _ => true) = true) (h : HDr S tA tR T H ce) : HDr S tA tR T H' ce := by
  obtain ⟨a, h1, h2, h3⟩ := h
  refine ⟨a, (wno_f f g x1 (by simp)).trans h1, h2, fun p q hp hq hn => ?_⟩
  rw [wno_f f h2 x2 rfl, wno_f f h2 x2 rfl]
  exact h3 p q hp hq hn
theorem HDR_fr (hW : WT T H) (g : T.2.2.2 ce = some 12) (f : wfr l T H H') (x : HDRx l = true) (h : HDR T H ce) : HDR T H' ce := by
  unfold HDRx at x
  simp only [Bool.and_eq_true] at x
  exact ⟨HDr_fr g f (wno_le x.1.1 (fun j hj => decide_eq_true (Or.inl (of_decide_eq_true hj)))) x.1.2 h.1, HDr_fr g f (wno_le x.1.1 (fun j hj => decide_eq_true (Or.inr (of_decide_eq_true hj)))) x.2 h.2⟩
theorem HDR_mono (mo : ∀ a t, T.2.2.2 a = some t → T'.2.2.2 a = some t) (h : HDR T H ce) : HDR T' H ce := by
  obtain ⟨⟨a, h1, h2, h3⟩, ⟨b, k1, k2, k3⟩⟩ := h
  exact ⟨⟨a, h1, mo _ _ h2, h3⟩, ⟨b, k1, mo _ _ k2, k3⟩⟩
theorem HV_fr (hW : WT T H) (g : T.2.2.2 ce = some 12) (f : wfr l T H H') (hS : S < 10) (t1 : wty 12 S = (2, 0, 0, tA)) (hn : (wsh tA).2 = 6) (t2 : ∀ j, wty tA j = (2, 0, 0, tR)) (x1 : wno l 12 (fun j => decide (j = S)) = true) (x2 : wno l tA (fun _ => true) = true) (x3 : wno l tR (fun _ => true) = true) (h : HV S T H ce c v) : HV S T H' ce c v := fun a r p i ha hp h6 hi hr => by
  obtain ⟨a', q1, q2⟩ := hW.ref g (t' := tA) (n := 10) (j := S) rfl hS t1
  have e1 : H' ce S = H ce S := wno_f f g x1 (by simp)
  have ea : a' = a := by omega
  subst ea
  obtain ⟨r', q3, q4⟩ := hW.ref q2 (t' := tR) (n := 6) (j := p) hn h6 (t2 p)
  have e2 : H' a' p = H a' p := wno_f f q2 x2 rfl
  have er : r' = r := by omega
  subst er
  exact (wno_f f q4 x3 rfl).trans (h a' r' p i q1 hp h6 hi q3)
theorem HV1_fr (hW : WT T H) (g : T.2.2.2 ce = some 12) (f : wfr l T H H') (x : HV1x l = true) (h : HV1 T H ce c v) : HV1 T H' ce c v := by
  unfold HV1x at x
  simp only [Bool.and_eq_true] at x
  exact HV_fr hW g f (by decide) (tA := 14) (tR := 15) rfl rfl (fun _ => rfl) x.1.1 x.1.2 x.2 h
theorem HV2_fr (hW : WT T H) (g : T.2.2.2 ce = some 12) (f : wfr l T H H') (x : HV2x l = true) (h : HV2 T H ce c v) : HV2 T H' ce c v := by
  unfold HV2x at x
  simp only [Bool.and_eq_true] at x
  exact HV_fr hW g f (by decide) (tA := 16) (tR := 17) rfl rfl (fun _ => rfl) x.1.1 x.1.2 x.2 h
theorem HV_put (h : HV S T H ce c v) (hd : HDr S tA tR T H ce) (gc : T.2.2.2 ce = some 12) (qa : H ce S = (a : Int)) (qr : H a p0 = (r : Int)) (gr : T.2.2.2 r = some tR) (hp : p0 < 6) (n1 : tR ≠ 12) (n2 : tR ≠ tA) (ex : H' = wq_u H r k x) (vk : v' p0 k = x) (vn : ∀ p i, ¬ (p = p0 ∧ i = k) → v' p i = v p i) : HV S T H' ce c v' := by
  obtain ⟨a0, d1, d2, d3⟩ := hd
  have e0 : a0 = a := by omega
  subst e0
  have c1 : ce ≠ r := fun q => by
    subst q
    rw [gc] at gr
    exact n1 (Option.some.inj gr).symm
  have c2 : a0 ≠ r := fun q => by
    subst q
    rw [d2] at gr
    exact n2 (Option.some.inj gr).symm
  intro a' r' p i ha hpc h6 hi hr
  rw [ex, wq_u_na c1] at ha
  have e1 : a' = a0 := by omega
  subst e1
  rw [ex, wq_u_na c2] at hr
  by_cases q : p = p0
  · subst q
    have e2 : r' = r := by omega
    subst e2
    by_cases qi : i = k
    · subst qi
      rw [ex, wq_u_eq, vk]
    · rw [ex, wq_u_ne (fun t => qi t.2), vn p i (fun t => qi t.2)]
      exact h a' r' p i qa hpc h6 hi hr
  · have c3 : r' ≠ r := fun t => by
      subst t
      exact d3 p p0 h6 hp q (hr.trans qr.symm)
    rw [ex, wq_u_na c3, vn p i (fun t => q t.1)]
    exact h a' r' p i qa hpc h6 hi hr
theorem HV_cg (h : HV S T H ce c v) (e1 : ∀ p i : Nat, (p : Int) < c → p < 6 → i < 40 → v p i = v' p i) : HV S T H ce c v' := fun a r p i ha hp h6 hi hr => (h a r p i ha hp h6 hi hr).trans (e1 p i hp h6 hi)
theorem LDu_fr (g : T.2.2.2 ce = some 12) (f : wfr l T H H') (x1 : wno l 12 (fun j => decide (j = S)) = true) (x2 : wno l tg (fun _ => true) = true) (h : LDu S tg m T H ce e d N u) : LDu S tg m T H' ce e d N u := by
  obtain ⟨b, h1, h2, h3⟩ := h
  refine ⟨b, (wno_f f g x1 (by simp)).trans h1, h2, fun h hh he hu => ?_⟩
  rw [wno_f f h2 x2 rfl]
  exact h3 h hh he hu
theorem LD3_fr (hW : WT T H) (g : T.2.2.2 ce = some 12) (f : wfr l T H H') (x : LD3x l = true) (h : LD3 T H ce e d N u) : LD3 T H' ce e d N u := by
  unfold LD3x at x
  simp only [Bool.and_eq_true] at x
  exact LDu_fr g f x.1 x.2 h
theorem LD4_fr (hW : WT T H) (g : T.2.2.2 ce = some 12) (f : wfr l T H H') (x : LD4x l = true) (h : LD4 T H ce e d N u) : LD4 T H' ce e d N u := by
  unfold LD4x at x
  simp only [Bool.and_eq_true] at x
  exact LDu_fr g f x.1 x.2 h
theorem CEX_fr (hW : WT T H) (g : T.2.2.2 ce = some 12) (f : wfr l T H H') (x : CEXx l = true) (h : CEX T H ce e d N) : CEX T H' ce e d N := by
  unfold CEXx at x
  simp only [Bool.and_eq_true] at x
  exact ⟨HV1_fr hW g f x.1.1.1 h.1, HV2_fr hW g f x.1.1.2 h.2.1, LD3_fr hW g f x.1.2 h.2.2.1, LD4_fr hW g f x.2 h.2.2.2⟩
/-- one HOUR more -/
theorem LD_put (h : LDu S tg m T H ce e d N u) (q : H ce S = (b : Int)) (gc : T.2.2.2 ce = some 12) (gb : T.2.2.2 b = some tg) (ne : tg ≠ 12) (ex : H' = wq_u H b k x) (hk : k = h9) (hu : u ≤ h9) (hg : ∀ j : Nat, u ≤ j → j < h9 → e 13 j ≤ 0) (hx : x = xtr m (xwf e d) (fun n => ((xdue d (xlot d n) h9 : Nat) : Int)) (N + 1)) : LDu S tg m T H' ce e d N (h9 + 1) := by
  obtain ⟨b', h1, h2, h3⟩ := h
  have hb : b' = b := by omega
  subst hb
  refine ⟨b', ?_, h2, fun h hh he hp => ?_⟩
  · rw [ex, wq_u_na (fun q => ?_)]
    · exact h1
    · subst q
      rw [gc] at gb
      exact ne (Option.some.inj gb).symm
  · by_cases c1 : h = h9
    · subst c1
      rw [ex, hk, wq_u_eq, if_pos (Nat.lt_succ_self h), hx]
    · rw [ex, wq_u_ne (fun t => c1 (t.2.trans hk))]
      by_cases c2 : h < u
      · rw [h3 h hh he (Or.inl c2), if_pos c2, if_pos (by omega)]
      · by_cases c3 : h < h9
        · have := hg h (by omega) c3
          omega
        · rw [h3 h hh he (Or.inr (by rcases hp with t | t; omega; exact t)), if_neg c2, if_neg (by omega)]
theorem LD_all (hf : xwf e d N > 0) (h : LDu S tg m T H ce e d N u) (hu : ∀ j : Nat, u ≤ j → j < 24 → e 13 j ≤ 0) : LDu S tg m T H ce e d (N + 1) 0 := by
  obtain ⟨b, h1, h2, h3⟩ := h
  refine ⟨b, h1, h2, fun h hh he hp => ?_⟩
  by_cases c : h < u
  · rw [h3 h hh he (Or.inl c), if_pos c, if_neg (by omega)]
  · have := hu h (by omega) hh
    omega
theorem LD_n (hf : xwf e d N ≤ 0) (h : LDu S tg m T H ce e d N 0) : LDu S tg m T H ce e d (N + 1) 0 := by
  obtain ⟨b, h1, h2, h3⟩ := h
  have hc : xcn (xwf e d) (N + 1) = xcn (xwf e d) N := by
    show xcn (xwf e d) N + (if xwf e d N > 0 then 1 else 0) = _
    rw [if_neg (by omega)]
    exact Int.add_zero _
  refine ⟨b, h1, h2, fun h hh he hp => ?_⟩
  rw [h3 h hh he (by rw [← hc]; exact hp), if_neg (by omega), if_neg (by omega), xtr_n hf]
theorem LD_0 (hW : WT T H) (g : T.2.2.2 ce = some 12) (hS : S < 10) (t1 : wty 12 S = (2, 0, 0, tg)) : LDu S tg m T H ce e d 0 0 := by
  obtain ⟨b, q1, q2⟩ := hW.ref g (t' := tg) (n := 10) (j := S) rfl hS t1
  refine ⟨b, q1, q2, fun h hh he hp => ?_⟩
  rcases hp with hp | hp
  · omega
  · exact absurd hp (by show ¬ (0 : Int) < 0; decide)
theorem LD_at {h s : Nat} (q : LDu S tg m T H ce e d N u) (e0 : H ce S = (b : Int)) (hs : s = h) (hh : h < 24) (he : e 13 h > 0) (hp : h < u ∨ 0 < xcn (xwf e d) N) : H b s = if h < u then xtr m (xwf e d) (fun n => ((xdue d (xlot d n) h : Nat) : Int)) (N + 1) else xtr m (xwf e d) (fun n => ((xdue d (xlot d n) h : Nat) : Int)) N := by
  obtain ⟨b', h1, -, h3⟩ := q
  have : b' = b := by omega
  subst this
  rw [hs]
  exact h3 h hh he hp
theorem LD_a0 {h s : Nat} (q : LDu S tg m T H ce e d N u) (e0 : H ce S = (b : Int)) (hs : s = h) (hh : h < 24) (he : e 13 h > 0) (hu : u ≤ h) (hp : 0 < xcn (xwf e d) N) : H b s = xtr m (xwf e d) (fun n => ((xdue d (xlot d n) h : Nat) : Int)) N := by
  rw [LD_at q e0 hs hh he (Or.inr hp), if_neg (by omega)]
/-- what is stored of an HOUR -/
theorem ld_lo {f w : Nat → Int} {z : Int} (hf : f N > 0) (h : (xcn f N = 0 ∧ z = w N) ∨ (xcn f N ≠ 0 ∧ y = xtr false f w N ∧ z ≤ y ∧ z ≤ w N ∧ (z = y ∨ z = w N))) : z = xtr false f w (N + 1) := by
  rw [xtr_y hf]
  simp only [Bool.false_eq_true, if_false]
  split <;> omega
theorem ld_hi {f w : Nat → Int} {z : Int} (hf : f N > 0) (h : (xcn f N = 0 ∧ z = w N) ∨ (xcn f N ≠ 0 ∧ y = xtr true f w N ∧ y ≤ z ∧ w N ≤ z ∧ (z = y ∨ z = w N))) : z = xtr true f w (N + 1) := by
  rw [xtr_y hf]
  simp only [if_true]
  split <;> omega
/-- held: a LOT that is none; a LOT that is one, by people -/
theorem xhc_n {p i : Nat} (hf : xwf e d N ≤ 0) : xhc e d p i (N + 1) = xhc e d p i N ∧ xhw e d p i (N + 1) = xhw e d p i N := ⟨wsm_n hf, wsm_n hf⟩
theorem xhc_y {p i : Nat} (hf : xwf e d N > 0) : xhc e d p i (N + 1) = xhc e d p i N + (if (xlot d N p).toNat = i then 1 else 0) ∧ xhw e d p i (N + 1) = xhw e d p i N + (if (xlot d N p).toNat = i then xlW d N else 0) := ⟨wsm_y hf, wsm_y hf⟩
theorem xhc_b {p i : Nat} : 0 ≤ xhc e d p i N ∧ xhc e d p i N ≤ N := by
  have h := wsm_b (f := xwf e d) (w := fun n => if (xlot d n p).toNat = i then 1 else 0) (B := 1) (fun n => by show 0 ≤ (if (xlot d n p).toNat = i then (1 : Int) else 0) ∧ (if (xlot d n p).toNat = i then (1 : Int) else 0) ≤ 1; split <;> decide) N
  exact ⟨h.1, by have := h.2; rw [Int.one_mul] at this; exact this⟩
theorem xhw_b {p i : Nat} (h3 : d 0 3 ≤ 6) : 0 ≤ xhw e d p i N ∧ xhw e d p i N ≤ 1000000 * N := wsm_b (f := xwf e d) (w := fun n => if (xlot d n p).toNat = i then xlW d n else 0) (B := 1000000) (fun n => by
  have := @xlW_b d n h3
  show 0 ≤ (if (xlot d n p).toNat = i then xlW d n else 0) ∧ (if (xlot d n p).toNat = i then xlW d n else 0) ≤ 1000000
  split <;> omega) N
/-- while one LOT is entered, person by person -/
def xhv (e d : xD) (N j : Nat) (p i : Nat) : Int := if p < j then xhc e d p i (N + 1) else xhc e d p i N
def xwv (e d : xD) (N j : Nat) (p i : Nat) : Int := if p < j then xhw e d p i (N + 1) else xhw e d p i N
theorem xhv_s (hf : xwf e d N > 0) {j : Nat} {z : Int} (hz : z = xhv e d N j j k + 1) (hk : (xlot d N j).toNat = k) : xhv e d N (j + 1) j k = z ∧ ∀ p i, ¬ (p = j ∧ i = k) → xhv e d N (j + 1) p i = xhv e d N j p i := by
  refine ⟨?_, fun p i hn => ?_⟩
  · rw [hz]
    unfold xhv
    rw [if_pos (Nat.lt_succ_self j), if_neg (Nat.lt_irrefl j), (xhc_y hf).1, if_pos hk]
  · unfold xhv
    by_cases c1 : p < j
    · rw [if_pos c1, if_pos (by omega)]
    · by_cases c2 : p = j
      · subst c2
        rw [if_pos (Nat.lt_succ_self p), if_neg c1, (xhc_y hf).1, if_neg (fun t => hn ⟨rfl, by rw [← t, hk]⟩), Int.add_zero]
      · rw [if_neg (by omega), if_neg c1]
theorem xwv_s (hf : xwf e d N > 0) {j : Nat} {z : Int} (hz : z = xwv e d N j j k + xlW d N) (hk : (xlot d N j).toNat = k) : xwv e d N (j + 1) j k = z ∧ ∀ p i, ¬ (p = j ∧ i = k) → xwv e d N (j + 1) p i = xwv e d N j p i := by
  refine ⟨?_, fun p i hn => ?_⟩
  · rw [hz]
    unfold xwv
    rw [if_pos (Nat.lt_succ_self j), if_neg (Nat.lt_irrefl j), (xhc_y hf).2, if_pos hk]
  · unfold xwv
    by_cases c1 : p < j
    · rw [if_pos c1, if_pos (by omega)]
    · by_cases c2 : p = j
      · subst c2
        rw [if_pos (Nat.lt_succ_self p), if_neg c1, (xhc_y hf).2, if_neg (fun t => hn ⟨rfl, by rw [← t, hk]⟩), Int.add_zero]
      · rw [if_neg (by omega), if_neg c1]
theorem xhv_b {j p i : Nat} : 0 ≤ xhv e d N j p i ∧ xhv e d N j p i ≤ N + 1 := by
  have h1 := @xhc_b N e d p i
  have h2 := @xhc_b (N + 1) e d p i
  unfold xhv
  split <;> omega
theorem xwv_b {j p i : Nat} (h3 : d 0 3 ≤ 6) : 0 ≤ xwv e d N j p i ∧ xwv e d N j p i ≤ 1000000 * (N + 1) := by
  have h1 := @xhw_b N e d p i h3
  have h2 := @xhw_b (N + 1) e d p i h3
  unfold xwv
  split <;> omega
theorem HVv_0 (h : HV S T H ce c (fun p i => xhc e d p i N)) : HV S T H ce c (xhv e d N 0) := HV_cg h (fun p i _ _ _ => (if_neg (Nat.not_lt_zero p)).symm)
theorem HWv_0 (h : HV S T H ce c (fun p i => xhw e d p i N)) : HV S T H ce c (xwv e d N 0) := HV_cg h (fun p i _ _ _ => (if_neg (Nat.not_lt_zero p)).symm)
theorem HVv_e {j : Nat} (h : HV S T H ce c (xhv e d N j)) (hj : c ≤ j) : HV S T H ce c (fun p i => xhc e d p i (N + 1)) := HV_cg h (fun p i hp _ _ => if_pos (by omega))
theorem HWv_e {j : Nat} (h : HV S T H ce c (xwv e d N j)) (hj : c ≤ j) : HV S T H ce c (fun p i => xhw e d p i (N + 1)) := HV_cg h (fun p i hp _ _ => if_pos (by omega))
/-- while all is made 0 -/
def HZ (S : Nat) (T : wq_T) (H : wq_H) (ce : Nat) (j i0 : Int) : Prop := ∀ a r p i : Nat, H ce S = (a : Int) → p < 6 → i < 40 → ((p : Int) < j ∨ ((p : Int) = j ∧ (i : Int) < i0)) → H a p = (r : Int) → H r i = 0
abbrev HZ1 := HZ 1
abbrev HZ2 := HZ 2
theorem HZ_fr {j i0 : Int} (hW : WT T H) (g : T.2.2.2 ce = some 12) (f : wfr l T H H') (hS : S < 10) (t1 : wty 12 S = (2, 0, 0, tA)) (hn : (wsh tA).2 = 6) (t2 : ∀ j, wty tA j = (2, 0, 0, tR)) (x1 : wno l 12 (fun j => decide (j = S)) = true) (x2 : wno l tA (fun _ => true) = true) (x3 : wno l tR (fun _ => true) = true) (h : HZ S T H ce j i0) : HZ S T H' ce j i0 := fun a r p i ha h6 hi hq hr => by
  obtain ⟨a', q1, q2⟩ := hW.ref g (t' := tA) (n := 10) (j := S) rfl hS t1
  have e1 : H' ce S = H ce S := wno_f f g x1 (by simp)
  have ea : a' = a := by omega
  subst ea
  obtain ⟨r', q3, q4⟩ := hW.ref q2 (t' := tR) (n := 6) (j := p) hn h6 (t2 p)
  have e2 : H' a' p = H a' p := wno_f f q2 x2 rfl
  have er : r' = r := by omega
  subst er
  exact (wno_f f q4 x3 rfl).trans (h a' r' p i q1 h6 hi hq q3)
theorem HZ1_fr {j i0 : Int} (hW : WT T H) (g : T.2.2.2 ce = some 12) (f : wfr l T H H') (x : HV1x l = true) (h : HZ1 T H ce j i0) : HZ1 T H' ce j i0 := by
  unfold HV1x at x
  simp only [Bool.and_eq_true] at x
  exact HZ_fr hW g f (by decide) (tA := 14) (tR := 15) rfl rfl (fun _ => rfl) x.1.1 x.1.2 x.2 h
theorem HZ2_fr {j i0 : Int} (hW : WT T H) (g : T.2.2.2 ce = some 12) (f : wfr l T H H') (x : HV2x l = true) (h : HZ2 T H ce j i0) : HZ2 T H' ce j i0 := by
  unfold HV2x at x
  simp only [Bool.and_eq_true] at x
  exact HZ_fr hW g f (by decide) (tA := 16) (tR := 17) rfl rfl (fun _ => rfl) x.1.1 x.1.2 x.2 h
theorem HZ_0 : HZ S T H ce 0 0 := fun a r p i _ _ _ hq _ => by omega
theorem HZ_put {j i0 : Int} (h : HZ S T H ce j i0) (hd : HDr S tA tR T H ce) (gc : T.2.2.2 ce = some 12) (qa : H ce S = (a : Int)) (qr : H a p0 = (r : Int)) (gr : T.2.2.2 r = some tR) (hp : p0 < 6) (n1 : tR ≠ 12) (n2 : tR ≠ tA) (ex : H' = wq_u H r k 0) (hj : (p0 : Int) = j) (hk : (k : Int) = i0) : HZ S T H' ce j (i0 + 1) := by
  obtain ⟨a0, d1, d2, d3⟩ := hd
  have e0 : a0 = a := by omega
  subst e0
  have c1 : ce ≠ r := fun q => by
    subst q
    rw [gc] at gr
    exact n1 (Option.some.inj gr).symm
  have c2 : a0 ≠ r := fun q => by
    subst q
    rw [d2] at gr
    exact n2 (Option.some.inj gr).symm
  intro a' r' p i ha h6 hi hq hr
  rw [ex, wq_u_na c1] at ha
  have e1 : a' = a0 := by omega
  subst e1
  rw [ex, wq_u_na c2] at hr
  by_cases q : p = p0
  · subst q
    have e2 : r' = r := by omega
    subst e2
    by_cases qi : i = k
    · subst qi
      rw [ex, wq_u_eq]
    · rw [ex, wq_u_ne (fun t => qi t.2)]
      exact h a' r' p i qa h6 hi (by omega) hr
  · have c3 : r' ≠ r := fun t => by
      subst t
      exact d3 p p0 h6 hp q (hr.trans qr.symm)
    rw [ex, wq_u_na c3]
    exact h a' r' p i qa h6 hi (by omega) hr
theorem HZ_row {j : Int} (h : HZ S T H ce j 40) : HZ S T H ce (j + 1) 0 := fun a r p i ha h6 hi hq hr => h a r p i ha h6 hi (by omega) hr
theorem HZ_1 (h : HZ S T H ce 6 0) : HV S T H ce c (fun p i => xhc e d p i 0) := fun a r p i ha _ h6 hi hr => h a r p i ha h6 hi (by omega) hr
theorem HZ_2 (h : HZ S T H ce 6 0) : HV S T H ce c (fun p i => xhw e d p i 0) := fun a r p i ha _ h6 hi hr => h a r p i ha h6 hi (by omega) hr
theorem CEX_n (hf : xwf e d N ≤ 0) (h : CEX T H ce e d N) : CEX T H ce e d (N + 1) := ⟨HV_cg h.1 (fun p i _ _ _ => (xhc_n hf).1.symm), HV_cg h.2.1 (fun p i _ _ _ => (xhc_n hf).2.symm), LD_n hf h.2.2.1, LD_n hf h.2.2.2⟩
theorem LD_mono (mo : ∀ a t, T.2.2.2 a = some t → T'.2.2.2 a = some t) (h : LDu S tg m T H ce e d N u) : LDu S tg m T' H ce e d N u := by
  obtain ⟨b, h1, h2, h3⟩ := h
  exact ⟨b, h1, mo _ _ h2, h3⟩
theorem CEX_mono (mo : ∀ a t, T.2.2.2 a = some t → T'.2.2.2 a = some t) (h : CEX T H ce e d N) : CEX T' H ce e d N := ⟨h.1, h.2.1, LD_mono mo h.2.2.1, LD_mono mo h.2.2.2⟩
end HELD
end
section
/-! LIES, BARS, HOURS WITHOUT A STROKE (own work) -/
/-- a LOT without a quarrel; one in which what was told is so, too -/
def xnq (d : xD) : Nat → Int := fun n => if xqu d (xlot d n) (d 0 3).toNat = 0 then 1 else 0
section BARS

variable {q f : Nat → Int} {R : Nat → Int → Prop} {m z z' v w : Int} {N n t p i : Nat} {e d : xD} {g : Nat → Int}
theorem hb_1 {b : Int} {h : Nat} : b.toNat.testBit h = true ↔ hb b h = 1 := by
  rw [hb_t]
  cases b.toNat.testBit h
  · exact ⟨fun q => absurd q (by decide), fun q => absurd q (by decide)⟩
  · exact ⟨fun _ => rfl, fun _ => rfl⟩
end BARS
end
section
/-! WORLDS (own work): which LOTS are, how many -/
/-- what is counted of the first LOTS -/
def CEB (T : wq_T) (H : wq_H) (ce : Nat) (e d : xD) (N : Nat) : Prop := H ce 5 = xcn (xwf e d) N ∧ H ce 6 = xsW e d N ∧ H ce 8 = (xbW e d N).1 ∧ H ce 7 = (xbW e d N).2 ∧ CEM T H ce (xwf e d) N
def CEN (T : wq_T) (H : wq_H) (ce : Nat) (e d : xD) : Prop := H ce 9 = 0 ∨ (xlots d ≤ 20000 ∧ CEB T H ce e d (xlots d).toNat ∧ CEX T H ce e d (xlots d).toNat)
def CEBx (l : List (Nat × Nat)) : Bool := wno l 12 (fun j => decide (j = 0 ∨ j = 5 ∨ j = 6 ∨ j = 7 ∨ j = 8)) && wno l 13 (fun _ => true)
def CENx (l : List (Nat × Nat)) : Bool := CEBx l && wno l 12 (fun j => decide (j = 9)) && CEXx l
/-- the reference's list of WORLDS -/
def KL (T : wq_T) (H : wq_H) (m : Nat) (f : Nat → Int) (N : Nat) : Prop := ∃ b : Nat, H m 30 = (b : Int) ∧ T.2.2.2 b = some 52 ∧ ∀ n : Nat, n < N → f n > 0 → H b (xcn f n).toNat = n
def KLx (l : List (Nat × Nat)) : Bool := wno l 42 (fun j => decide (j = 30)) && wno l 52 (fun _ => true)
def KNB (T : wq_T) (H : wq_H) (m : Nat) (e d : xD) (N : Nat) : Prop := H m 29 = xcn (xwf e d) N ∧ KL T H m (xwf e d) N
def KNN (T : wq_T) (H : wq_H) (m : Nat) (e d : xD) : Prop := H m 28 = 0 ∨ (xlots d ≤ 20000 ∧ KNB T H m e d (xlots d).toNat)
def KNBx (l : List (Nat × Nat)) : Bool := wno l 42 (fun j => decide (j = 29)) && KLx l
def KNNx (l : List (Nat × Nat)) : Bool := wno l 42 (fun j => decide (j = 28)) && KNBx l
/-- a WALK on a LOT, if there is one -/
def WRc (T : wq_T) (H : wq_H) (w : Nat) (d : xD) (g : Nat → Int) : Prop := xlots d = 0 ∨ WR T H w d g
section WORLD

variable {T T' : wq_T} {H H' : wq_H} {l : List (Nat × Nat)} {ce m w n : Nat} {e d : xD} {g : Nat → Int} {N : Nat} {v : Int}
theorem CEB_fr (hW : WT T H) (g : T.2.2.2 ce = some 12) (f : wfr l T H H') (x : CEBx l = true) (h : CEB T H ce e d N) : CEB T H' ce e d N := by
  unfold CEBx at x
  rw [Bool.and_eq_true] at x
  obtain ⟨h1, h2, h3, h4, h5⟩ := h
  exact ⟨(wno_f f g x.1 (j := 5) rfl).trans h1, (wno_f f g x.1 (j := 6) rfl).trans h2, (wno_f f g x.1 (j := 8) rfl).trans h3, (wno_f f g x.1 (j := 7) rfl).trans h4, CEM_fr hW g f (by unfold CEMx; rw [Bool.and_eq_true]; exact ⟨wno_le x.1 (fun j hj => decide_eq_true (Or.inl (of_decide_eq_true hj))), x.2⟩) h5⟩
theorem CEN_fr (hW : WT T H) (g : T.2.2.2 ce = some 12) (f : wfr l T H H') (x : CENx l = true) (h : CEN T H ce e d) : CEN T H' ce e d := by
  unfold CENx at x
  rw [Bool.and_eq_true, Bool.and_eq_true] at x
  rcases h with h | ⟨h1, h2, h3⟩
  · exact Or.inl ((wno_f f g x.1.2 (j := 9) rfl).trans h)
  · exact Or.inr ⟨h1, CEB_fr hW g f x.1.1 h2, CEX_fr hW g f x.2 h3⟩
theorem KL_fr {f : Nat → Int} (hW : WT T H) (g : T.2.2.2 m = some 42) (f0 : wfr l T H H') (x : KLx l = true) (h : KL T H m f N) : KL T H' m f N := by
  unfold KLx at x
  rw [Bool.and_eq_true] at x
  obtain ⟨b, h1, h2, h3⟩ := h
  exact ⟨b, (wno_f f0 g x.1 (j := 30) rfl).trans h1, h2, fun n hn hf => (wno_f f0 h2 x.2 rfl).trans (h3 n hn hf)⟩
theorem KNB_fr (hW : WT T H) (g : T.2.2.2 m = some 42) (f : wfr l T H H') (x : KNBx l = true) (h : KNB T H m e d N) : KNB T H' m e d N := by
  unfold KNBx at x
  rw [Bool.and_eq_true] at x
  exact ⟨(wno_f f g x.1 (j := 29) rfl).trans h.1, KL_fr hW g f x.2 h.2⟩
theorem KNN_fr (hW : WT T H) (g : T.2.2.2 m = some 42) (f : wfr l T H H') (x : KNNx l = true) (h : KNN T H m e d) : KNN T H' m e d := by
  unfold KNNx at x
  rw [Bool.and_eq_true] at x
  rcases h with h | ⟨h1, h2⟩
  · exact Or.inl ((wno_f f g x.1 (j := 28) rfl).trans h)
  · exact Or.inr ⟨h1, KNB_fr hW g f x.2 h2⟩
theorem KL_0 {f : Nat → Int} (hW : WT T H) (g : T.2.2.2 m = some 42) : KL T H m f 0 := by
  obtain ⟨b, h1, h2⟩ := hW.ref g (t' := 52) (n := 33) (j := 30) (p := 0) (q := 0) rfl (by decide) rfl
  exact ⟨b, h1, h2, fun n hn _ => by omega⟩
theorem KL_put {f : Nat → Int} {b s : Nat} (h : KL T H m f N) (e0 : H m 30 = (b : Int)) (gm : T.2.2.2 m = some 42) (gb : T.2.2.2 b = some 52) (e : H' = wq_u H b s v) (hs : (s : Int) = xcn f N) (hv : v = N) (hf : f N > 0) : KL T H' m f (N + 1) := by
  obtain ⟨b', h1, h2, h3⟩ := h
  have hb : b' = b := by omega
  subst hb
  refine ⟨b', ?_, h2, fun n hn hp => ?_⟩
  · rw [e, wq_u_na (fun q => ?_)]
    · exact h1
    · subst q
      rw [gm] at gb
      cases gb
  · have hx := xcn_b (f := f) n
    by_cases c : n = N
    · subst c
      rw [e, show (xcn f n).toNat = s by omega, wq_u_eq]
      exact hv
    · have h4 := xcn_lt (f := f) (show n < N by omega) hp
      rw [e, wq_u_ne (fun q => by omega)]
      exact h3 n (by omega) hp
theorem KL_n {f : Nat → Int} (hf : f N ≤ 0) (h : KL T H m f N) : KL T H m f (N + 1) := by
  obtain ⟨b, h1, h2, h3⟩ := h
  exact ⟨b, h1, h2, fun n hn hp => h3 n (Nat.lt_of_le_of_ne (by omega) (fun q => by rw [q] at hp; omega)) hp⟩
theorem WRc_at (h : WRc T H w d g) (hl : xlots d ≠ 0) : WR T H w d g := h.resolve_left hl
theorem CEN_9 (h : CEN T H ce e d) (q : H ce 9 ≠ 0) : xlots d ≤ 20000 ∧ CEB T H ce e d (xlots d).toNat ∧ CEX T H ce e d (xlots d).toNat := h.resolve_left q
theorem KNN_28 (h : KNN T H m e d) (q : H m 28 ≠ 0) : xlots d ≤ 20000 ∧ KNB T H m e d (xlots d).toNat := h.resolve_left q
theorem CEB_n (h0 : 0 ≤ v) (hz : xwo e d (xlot d v) = 0) (h : CEB T H ce e d v.toNat) : CEB T H ce e d (v + 1).toNat := by
  obtain ⟨h1, h2, h3, h4, h5⟩ := h
  have hf : xwf e d v.toNat ≤ 0 := by
    rw [xwf_v h0, hz]
    exact Int.le_refl _
  have hc := xcw_s (e := e) (d := d) h0
  refine ⟨by omega, ?_, ?_, ?_, ?_⟩
  · rw [show (v + 1).toNat = v.toNat + 1 by omega, xsW_n hf]
    exact h2
  · rw [show (v + 1).toNat = v.toNat + 1 by omega, xbW_n hf]
    exact h3
  · rw [show (v + 1).toNat = v.toNat + 1 by omega, xbW_n hf]
    exact h4
  · rw [show (v + 1).toNat = v.toNat + 1 by omega]
    exact CEM_n hf h5
theorem CEN_new (h9 : H ce 9 = 0) : CEN T H ce e d := Or.inl h9
theorem KNN_new (h9 : H m 28 = 0) : KNN T H m e d := Or.inl h9
theorem CEN_mono (mo : ∀ a t, T.2.2.2 a = some t → T'.2.2.2 a = some t) (h : CEN T H ce e d) : CEN T' H ce e d := by
  rcases h with h | ⟨h1, ⟨h2, h3, h4, h5, b, h6, h7, h8⟩, h9⟩
  · exact Or.inl h
  · exact Or.inr ⟨h1, ⟨h2, h3, h4, h5, b, h6, mo _ _ h7, h8⟩, CEX_mono mo h9⟩
theorem KNN_mono (mo : ∀ a t, T.2.2.2 a = some t → T'.2.2.2 a = some t) (em : ∀ j, (j = 28 ∨ j = 29 ∨ j = 30) → H' m j = H m j) (ho : ∀ a t, T.2.2.2 a = some t → 44 ≤ t → t ≤ 53 → H' a = H a) (h : KNN T H m e d) : KNN T' H' m e d := by
  rcases h with h | ⟨h1, h2, b, h3, h4, h5⟩
  · exact Or.inl ((em 28 (by omega)).trans h)
  · exact Or.inr ⟨h1, (em 29 (by omega)).trans h2, b, (em 30 (by omega)).trans h3, mo _ _ h4, fun n hn hp => by rw [ho b 52 h4 (by decide) (by decide)]; exact h5 n hn hp⟩
end WORLD
/-! the i-th WORLD -/
def xith (f : Nat → Int) (i : Int) : Nat → Nat
  | 0 => 0
  | N + 1 => if xcn f N = i ∧ f N > 0 then N else xith f i N
section ITH

variable {f : Nat → Int} {i : Int} {n N : Nat}
theorem xith_e (hp : f n > 0) (hi : xcn f n = i) : ∀ N : Nat, n < N → xith f i N = n
  | 0, h => by omega
  | N + 1, h => by
    show (if xcn f N = i ∧ f N > 0 then N else xith f i N) = n
    by_cases c : n = N
    · subst c
      exact if_pos ⟨hi, hp⟩
    · have h1 := xcn_lt (f := f) (show n < N by omega) hp
      rw [if_neg (fun q => by omega)]
      exact xith_e hp hi N (by omega)
theorem xith_ex : ∀ N : Nat, 0 ≤ i → i < xcn f N → f (xith f i N) > 0 ∧ xcn f (xith f i N) = i ∧ xith f i N < N
  | 0, h0, h => by
    have : xcn f 0 = 0 := rfl
    omega
  | N + 1, h0, h => by
    have e : xith f i (N + 1) = if xcn f N = i ∧ f N > 0 then N else xith f i N := rfl
    have h1 : xcn f (N + 1) = xcn f N + (if f N > 0 then 1 else 0) := rfl
    rw [e]
    by_cases c : xcn f N = i ∧ f N > 0
    · rw [if_pos c]
      exact ⟨c.2, c.1, by omega⟩
    · rw [if_neg c]
      have h2 : i < xcn f N := by
        by_cases c2 : f N > 0
        · rw [if_pos c2] at h1
          have : xcn f N ≠ i := fun q => c ⟨q, c2⟩
          omega
        · rw [if_neg c2] at h1
          omega
      obtain ⟨a, b, r⟩ := xith_ex N h0 h2
      exact ⟨a, b, by omega⟩
end ITH
end
section
/-! PROOFS: sets of HOURS by their bits (own work) -/
def Y1 (a : Nat) : Int := wq_shl 1 (a : Int)
def Y2 (a b : Nat) : Int := wq_or (Y1 a) (Y1 b)
def Y3 (a b c : Nat) : Int := wq_or (Y2 a b) (Y1 c)
theorem Y1_e {a : Nat} (h : a < 24) : Y1 a = ((2 ^ a : Nat) : Int) := of_decide_eq_true (List.all_eq_true.mp shl_all a (List.mem_range.mpr h))
theorem Y1_b {a : Nat} (h : a < 24) : 0 ≤ Y1 a ∧ Y1 a ≤ 16777215 := by
  have := wq_shl1_b (y := (a : Int)) ⟨by omega, by omega⟩
  unfold Y1
  omega
theorem Y2_b {a b : Nat} (ha : a < 24) (hb : b < 24) : 0 ≤ Y2 a b ∧ Y2 a b ≤ 16777215 := wq_or_24 (Y1_b ha) (Y1_b hb)
theorem Y3_b {a b c : Nat} (ha : a < 24) (hb : b < 24) (hc : c < 24) : 0 ≤ Y3 a b c ∧ Y3 a b c ≤ 16777215 := wq_or_24 (Y2_b ha hb) (Y1_b hc)
theorem nbf_and : ∀ f a b : Nat, nbf f (a &&& b) ≤ nbf f b
  | 0, _, _ => Nat.le_refl _
  | f + 1, a, b => by
    have h1 := nbf_and f (a / 2) (b / 2)
    have h2 := @Nat.and_mod_two_eq_one a b
    show (a &&& b) % 2 + nbf f ((a &&& b) / 2) ≤ b % 2 + nbf f (b / 2)
    rw [Nat.and_div_two]
    by_cases c : (a &&& b) % 2 = 1
    · have := (h2.mp c).2
      omega
    · omega
theorem nbf_or : ∀ f a b : Nat, nbf f (a ||| b) ≤ nbf f a + nbf f b
  | 0, _, _ => Nat.zero_le _
  | f + 1, a, b => by
    have h1 := nbf_or f (a / 2) (b / 2)
    have h2 := @Nat.or_mod_two_eq_one a b
    show (a ||| b) % 2 + nbf f ((a ||| b) / 2) ≤ a % 2 + nbf f (a / 2) + (b % 2 + nbf f (b / 2))
    rw [Nat.or_div_two]
    by_cases c : (a ||| b) % 2 = 1
    · rcases h2.mp c with q | q <;> omega
    · omega
theorem nbY1 {a : Nat} (h : a < 24) : nbf 24 (Y1 a).toNat ≤ 1 := by
  have h1 := nbf_a a 24 0 h (Nat.two_pow_pos a)
  rw [nbf_0, Nat.zero_add] at h1
  rw [Y1_e h, Int.toNat_natCast]
  omega
theorem nbY2 {a b : Nat} (ha : a < 24) (hb : b < 24) : nbf 24 (Y2 a b).toNat ≤ 2 := by
  have h1 := Y1_b ha
  have h2 := Y1_b hb
  unfold Y2
  rw [wq_or_n ⟨h1.1, by omega⟩ ⟨h2.1, by omega⟩, Int.toNat_natCast]
  have h3 := nbf_or 24 (Y1 a).toNat (Y1 b).toNat
  have h4 := nbY1 ha
  have h5 := nbY1 hb
  omega
theorem nbY3 {a b c : Nat} (ha : a < 24) (hb : b < 24) (hc : c < 24) : nbf 24 (Y3 a b c).toNat ≤ 3 := by
  have h1 := Y2_b ha hb
  have h2 := Y1_b hc
  unfold Y3
  rw [wq_or_n ⟨h1.1, by omega⟩ ⟨h2.1, by omega⟩, Int.toNat_natCast]
  have h3 := nbf_or 24 (Y2 a b).toNat (Y1 c).toNat
  have h4 := nbY2 ha hb
  have h5 := nbY1 hc
  omega
/-- all numbers of f bits of which j at most are set -/
def xg : Nat → Nat → List Nat
  | 0, _ => [0]
  | f + 1, 0 => (xg f 0).map (fun n => 2 * n)
  | f + 1, j + 1 => (xg f (j + 1)).map (fun n => 2 * n) ++ (xg f j).map (fun n => 2 * n + 1)
theorem xg_mem : ∀ f j n : Nat, n < 2 ^ f → nbf f n ≤ j → n ∈ xg f j
  | 0, j, n, h, _ => by
    have : (2 : Nat) ^ 0 = 1 := rfl
    have e : n = 0 := by omega
    subst e
    cases j <;> exact List.mem_cons_self
  | f + 1, 0, n, h, hn => by
    have hp : (2 : Nat) ^ (f + 1) = 2 ^ f * 2 := Nat.pow_succ 2 f
    have h1 : n % 2 + nbf f (n / 2) ≤ 0 := hn
    exact List.mem_map.mpr ⟨n / 2, xg_mem f 0 (n / 2) (by omega) (by omega), by omega⟩
  | f + 1, j + 1, n, h, hn => by
    have hp : (2 : Nat) ^ (f + 1) = 2 ^ f * 2 := Nat.pow_succ 2 f
    have h1 : n % 2 + nbf f (n / 2) ≤ j + 1 := hn
    refine List.mem_append.mpr ?_
    by_cases c : n % 2 = 1
    · exact Or.inr (List.mem_map.mpr ⟨n / 2, xg_mem f j (n / 2) (by omega) (by omega), by omega⟩)
    · exact Or.inl (List.mem_map.mpr ⟨n / 2, xg_mem f (j + 1) (n / 2) (by omega) (by omega), by omega⟩)
/-! longs by their bits -/
theorem shL_all : (List.range 57).all (fun n => decide (wl_shl 1 n = ((2 ^ n : Nat) : Int))) = true := by decide +kernel
theorem xoL_on {P : Nat → Bool} : ∀ n : Nat, n ≤ 57 → xoL P n = (xon P n : Int)
  | 0, _ => rfl
  | n + 1, h => by
    have h1 := xoL_on n (by omega) (P := P)
    have h2 := xon_b n (P := P)
    have h3 : (2 : Nat) ^ n ≤ 2 ^ 56 := Nat.pow_le_pow_right (by decide) (by omega)
    have h4 : (2 : Nat) ^ 56 = 72057594037927936 := by decide
    have h5 := of_decide_eq_true (List.all_eq_true.mp shL_all n (List.mem_range.mpr (by omega)))
    show (if P n = true then wl_or (xoL P n) (wl_shl 1 n) else xoL P n) = ((if P n = true then xon P n + 2 ^ n else xon P n : Nat) : Int)
    by_cases c : P n = true
    · rw [if_pos c, if_pos c, h1, h5, wl_or_n ⟨by omega, by omega⟩ ⟨by omega, by omega⟩]
      have h6 := Nat.two_pow_add_eq_or_of_lt h2 1
      rw [Nat.mul_one] at h6
      rw [Int.toNat_natCast, Int.toNat_natCast, Nat.or_comm, ← h6, Nat.add_comm]
    · rw [if_neg c, if_neg c]
      exact h1
theorem xon_t {P : Nat → Bool} {n h : Nat} (hh : h < n) : (xon P n).testBit h = P h := by
  have h1 := xon_hb n h hh (P := P)
  rw [← Nat.toNat_testBit] at h1
  cases q : (xon P n).testBit h <;> cases q2 : P h <;> rw [q, q2] at h1 <;> first | rfl | exact absurd h1 (by decide)
theorem xon_tf {P : Nat → Bool} {n h : Nat} (hh : n ≤ h) : (xon P n).testBit h = false := Nat.testBit_lt_two_pow (Nat.lt_of_lt_of_le (xon_b n) (Nat.pow_le_pow_right (by decide) hh))
/-- what is wrong in a LOT: HOURS that disagree, and from bit 32 those off by one -/
def xfP (V : Nat → Int) (u i : Nat) : Bool := (decide (i < u) && decide (V i = 2)) || (decide (32 ≤ i) && (decide (i < u + 32) && decide (V (i - 32) = 1)))
def xfZ (V : Nat → Int) (u : Nat) : Int := xoL (xfP V u) 57
def XD (V : Nat → Int) : Int := xob (fun i => decide (V i = 2)) 24
def XO (V : Nat → Int) : Int := xob (fun i => decide (V i = 1)) 24
section FLAW

variable {V : Nat → Int} {u h : Nat} {m X z : Int}
theorem xfP_b {a b : Bool} (h : a = true ↔ b = true) : a = b := by
  cases a <;> cases b <;> first | rfl | exact absurd (h.mp rfl) (by decide) | exact absurd (h.mpr rfl) (by decide)
theorem xfP_i {i : Nat} : xfP V u i = true ↔ (i < u ∧ V i = 2) ∨ (32 ≤ i ∧ i < u + 32 ∧ V (i - 32) = 1) := by
  unfold xfP
  rw [Bool.or_eq_true, Bool.and_eq_true, Bool.and_eq_true, Bool.and_eq_true, decide_eq_true_eq, decide_eq_true_eq, decide_eq_true_eq, decide_eq_true_eq, decide_eq_true_eq]
theorem xfZ_0 : xfZ V 0 = 0 := by
  have e : ∀ j, j < 57 → xfP V 0 j = (fun _ => false) j := fun j _ => xfP_b (by
    rw [xfP_i]
    exact ⟨fun q => by rcases q with q | q <;> omega, fun q => absurd (show false = true from q) (by decide)⟩)
  exact (xoL_cg 57 e).trans (xoL_e 57)
theorem xfZ_gap (hu : u ≤ h) (hq : ∀ j, u ≤ j → j < h → V j = 0) : xfZ V h = xfZ V u := xoL_cg 57 (fun j _ => xfP_b (by
  rw [xfP_i, xfP_i]
  constructor
  · intro q
    rcases q with ⟨q1, q2⟩ | ⟨q1, q2, q3⟩
    · by_cases c : j < u
      · exact Or.inl ⟨c, q2⟩
      · have := hq j (by omega) q1
        omega
    · by_cases c : j - 32 < u
      · exact Or.inr ⟨q1, by omega, q3⟩
      · have := hq (j - 32) (by omega) (by omega)
        omega
  · intro q
    rcases q with ⟨q1, q2⟩ | ⟨q1, q2, q3⟩
    · exact Or.inl ⟨by omega, q2⟩
    · exact Or.inr ⟨q1, by omega, q3⟩))
theorem xfZ_n (hv : V h ≠ 2 ∧ V h ≠ 1) : xfZ V (h + 1) = xfZ V h := xoL_cg 57 (fun j _ => xfP_b (by
  rw [xfP_i, xfP_i]
  constructor
  · intro q
    rcases q with ⟨q1, q2⟩ | ⟨q1, q2, q3⟩
    · by_cases c : j = h
      · subst c
        exact absurd q2 hv.1
      · exact Or.inl ⟨by omega, q2⟩
    · by_cases c : j - 32 = h
      · rw [c] at q3
        exact absurd q3 hv.2
      · exact Or.inr ⟨q1, by omega, q3⟩
  · intro q
    rcases q with ⟨q1, q2⟩ | ⟨q1, q2, q3⟩
    · exact Or.inl ⟨by omega, q2⟩
    · exact Or.inr ⟨q1, by omega, q3⟩))
theorem xfZ_2 {v s w : Int} (hh : h < 24) (hv : V h = 2) (hx : X = xfZ V h) (e1 : v = wl_or X s) (e2 : s = wl_shl 1 w) (ew : w = h) : v = xfZ V (h + 1) := by
  have e : xoL (fun i => xfP V h i || decide (i = h)) 57 = wl_or (xoL (xfP V h) 57) (wl_shl 1 h) := xoL_up 57 (by omega)
  rw [e1, e2, ew, hx]
  refine Eq.trans e.symm (xoL_cg 57 (fun j _ => xfP_b ?_))
  show (xfP V h j || decide (j = h)) = true ↔ _
  rw [Bool.or_eq_true, xfP_i, xfP_i, decide_eq_true_eq]
  constructor
  · intro q
    rcases q with (⟨q1, q2⟩ | ⟨q1, q2, q3⟩) | q
    · exact Or.inl ⟨by omega, q2⟩
    · exact Or.inr ⟨q1, by omega, q3⟩
    · subst q
      exact Or.inl ⟨by omega, hv⟩
  · intro q
    by_cases c : j = h
    · exact Or.inr c
    · rcases q with ⟨q1, q2⟩ | ⟨q1, q2, q3⟩
      · exact Or.inl (Or.inl ⟨by omega, q2⟩)
      · by_cases c2 : j - 32 = h
        · rw [c2, hv] at q3
          exact absurd q3 (by decide)
        · exact Or.inl (Or.inr ⟨q1, by omega, q3⟩)
theorem xfZ_1 {v s w : Int} (hh : h < 24) (hv : V h = 1) (hx : X = xfZ V h) (e1 : v = wl_or X s) (e2 : s = wl_shl 1 w) (ew : w = ((h + 32 : Nat) : Int)) : v = xfZ V (h + 1) := by
  have e : xoL (fun i => xfP V h i || decide (i = h + 32)) 57 = wl_or (xoL (xfP V h) 57) (wl_shl 1 ((h + 32 : Nat) : Int)) := xoL_up 57 (by omega)
  rw [e1, e2, ew, hx]
  refine Eq.trans e.symm (xoL_cg 57 (fun j _ => xfP_b ?_))
  show (xfP V h j || decide (j = h + 32)) = true ↔ _
  rw [Bool.or_eq_true, xfP_i, xfP_i, decide_eq_true_eq]
  constructor
  · intro q
    rcases q with (⟨q1, q2⟩ | ⟨q1, q2, q3⟩) | q
    · exact Or.inl ⟨by omega, q2⟩
    · exact Or.inr ⟨q1, by omega, q3⟩
    · subst q
      exact Or.inr ⟨by omega, by omega, by rw [Nat.add_sub_cancel]; exact hv⟩
  · intro q
    by_cases c : j = h + 32
    · exact Or.inr c
    · rcases q with ⟨q1, q2⟩ | ⟨q1, q2, q3⟩
      · by_cases c2 : j = h
        · rw [c2, hv] at q2
          exact absurd q2 (by decide)
        · exact Or.inl (Or.inl ⟨by omega, q2⟩)
      · exact Or.inl (Or.inr ⟨q1, by omega, q3⟩)
theorem xfZ_D : wq_w (xfZ V 24) = XD V := by
  unfold xfZ XD
  rw [xoL_on 57 (Nat.le_refl _), xob_on 24 (Nat.le_refl _)]
  have e : xon (xfP V 24) 57 % 2 ^ 32 = xon (fun i => decide (V i = 2)) 24 := Nat.eq_of_testBit_eq (fun i => by
    rw [Nat.testBit_mod_two_pow]
    by_cases c : i < 24
    · rw [xon_t (h := i) (n := 57) (by omega), xon_t (n := 24) c, decide_eq_true (show i < 32 by omega), Bool.true_and]
      refine xfP_b ?_
      rw [xfP_i, decide_eq_true_eq]
      exact ⟨fun q => by rcases q with q | q <;> omega, fun q => Or.inl ⟨c, q⟩⟩
    · rw [xon_tf (n := 24) (by omega)]
      by_cases c2 : i < 32
      · rw [xon_t (h := i) (n := 57) (by omega)]
        refine xfP_b ?_
        rw [Bool.and_eq_true, xfP_i]
        exact ⟨fun q => by rcases q.2 with q | q <;> omega, fun q => absurd q (by decide)⟩
      · rw [decide_eq_false c2, Bool.false_and])
  have h1 := xon_b 24 (P := fun i => decide (V i = 2))
  have h2 : (2 : Nat) ^ 24 = 16777216 := by decide
  have h3 : (2 : Nat) ^ 32 = 4294967296 := by decide
  rw [h3] at e
  generalize xon (xfP V 24) 57 = F at e
  have h4 : (Int32.ofInt (F : Int)).toInt = Int.bmod (F : Int) 4294967296 := Int32.toInt_ofInt
  show (Int32.ofInt (F : Int)).toInt = _
  rw [h4, ← e, Int.bmod_eq_emod_of_lt (by omega)]
  omega
theorem xfZ_O : wq_w (wl_shr (xfZ V 24) 32) = XO V := by
  unfold xfZ XO
  rw [xoL_on 57 (Nat.le_refl _), xob_on 24 (Nat.le_refl _)]
  have hb := xon_b 57 (P := xfP V 24)
  have h3 : (2 : Nat) ^ 57 = 144115188075855872 := by decide
  have e : xon (xfP V 24) 57 / 2 ^ 32 = xon (fun i => decide (V i = 1)) 24 := Nat.eq_of_testBit_eq (fun i => by
    rw [Nat.testBit_div_two_pow]
    by_cases c : i < 24
    · rw [xon_t (h := i + 32) (n := 57) (by omega), xon_t (n := 24) c]
      refine xfP_b ?_
      rw [xfP_i, decide_eq_true_eq, Nat.add_sub_cancel]
      exact ⟨fun q => by rcases q with q | q <;> omega, fun q => Or.inr ⟨by omega, by omega, q⟩⟩
    · rw [xon_tf (n := 24) (by omega)]
      by_cases c2 : i + 32 < 57
      · rw [xon_t (h := i + 32) (n := 57) c2]
        refine xfP_b ?_
        rw [xfP_i]
        exact ⟨fun q => by rcases q with q | q <;> omega, fun q => absurd q (by decide)⟩
      · exact xon_tf (by omega))
  have h1 := xon_b 24 (P := fun i => decide (V i = 1))
  have h2 : (2 : Nat) ^ 24 = 16777216 := by decide
  generalize xon (xfP V 24) 57 = F at e hb
  rw [show (32 : Int) = ((8 : Nat) : Int) * 4 by decide, wl_shr_n ⟨by omega, by omega⟩ (by decide), Int.toNat_natCast, show 4 * 8 = 32 from rfl, e]
  exact wq_w_id ⟨by omega, by omega⟩
/-! what some HOURS leave -/
def XLF (V : Nat → Int) (m X : Int) : Prop := ∀ h : Nat, h < 24 → xbad (xbh X V) m h = false
theorem and_xob {P : Nat → Bool} (hX : 0 ≤ X ∧ X ≤ 16777215) : wq_and (xob P 24) X = xob (fun h => P h && decide (hb X h = 1)) 24 := by
  have h1 := xob_b (P := P) 24 (Nat.le_refl _)
  rw [wq_and_n ⟨h1.1, by omega⟩ ⟨hX.1, by omega⟩, xob_on 24 (Nat.le_refl _), xob_on 24 (Nat.le_refl _), Int.toNat_natCast]
  refine congrArg _ (Nat.eq_of_testBit_eq (fun i => ?_))
  rw [Nat.testBit_and]
  by_cases c : i < 24
  · rw [xon_t (n := 24) c, xon_t (n := 24) c]
    refine xfP_b ?_
    rw [Bool.and_eq_true, Bool.and_eq_true, hb_1, decide_eq_true_eq]
  · rw [xon_tf (n := 24) (by omega), xon_tf (n := 24) (by omega), Bool.false_and]
theorem xob_0 {P : Nat → Bool} : xob P 24 = 0 ↔ ∀ h : Nat, h < 24 → P h = false := by
  constructor
  · intro q h hh
    rw [xob_on 24 (Nat.le_refl _)] at q
    have h1 := xon_t (P := P) (n := 24) hh
    rw [show xon P 24 = 0 by omega, Nat.zero_testBit] at h1
    exact h1.symm
  · intro q
    exact xob_gap (u := 0) (Nat.zero_le _) (fun j _ hj => q j hj)
theorem xco_x (hv : ∀ h, h < 24 → xbh X V h ≠ 2) (hV : ∀ h, 0 ≤ V h ∧ V h ≤ 2) : ∀ n : Nat, n ≤ 24 → xco (xbh X V) n = xcn (fun h => if V h = 1 ∧ hb X h = 1 then 1 else 0) n
  | 0, _ => rfl
  | n + 1, hn => by
    have h1 := xco_x hv hV n (by omega)
    have h2 := hv n (by omega)
    have h3 := hV n
    have h4 := @hb_b X n
    show xco (xbh X V) n + xbh X V n = xcn (fun h => if V h = 1 ∧ hb X h = 1 then 1 else 0) n + (if (if V n = 1 ∧ hb X n = 1 then (1 : Int) else 0) > 0 then 1 else 0)
    rw [h1]
    unfold xbh at h2 ⊢
    by_cases c : hb X n = 0
    · have e9 : (if V n = 1 ∧ hb X n = 1 then (1 : Int) else 0) = 0 := if_neg (by omega)
      rw [e9, if_pos c, if_neg (by decide)]
    · rw [if_neg c] at h2 ⊢
      by_cases c2 : V n = 1
      · have e9 : (if V n = 1 ∧ hb X n = 1 then (1 : Int) else 0) = 1 := if_pos ⟨c2, by omega⟩
        rw [e9, c2, if_pos (by decide)]
      · have e9 : (if V n = 1 ∧ hb X n = 1 then (1 : Int) else 0) = 0 := if_neg (fun q => c2 q.1)
        rw [e9, if_neg (by decide)]
        omega
theorem xbh_b (hV : ∀ h, 0 ≤ V h ∧ V h ≤ 2) : 0 ≤ xbh X V h := by
  have := hV h
  unfold xbh
  split <;> omega
theorem xco_up (hV : ∀ h, 0 ≤ V h ∧ V h ≤ 2) : ∀ n : Nat, h ≤ n → xco (xbh X V) h ≤ xco (xbh X V) n
  | 0, hn => by
    have : h = 0 := by omega
    rw [this]
    exact Int.le_refl _
  | n + 1, hn => by
    by_cases c : h = n + 1
    · rw [c]
      exact Int.le_refl _
    · have h1 := xco_up hV n (by omega)
      have h2 := xbh_b (X := X) (h := n) hV
      have h3 : xco (xbh X V) (n + 1) = xco (xbh X V) n + xbh X V n := rfl
      omega
theorem xbad_i {q : Nat → Int} : xbad q m h = false ↔ q h ≠ 2 ∧ xco q (h + 1) ≤ m := by
  unfold xbad
  rw [Bool.or_eq_false_iff, decide_eq_false_iff_not, decide_eq_false_iff_not, Int.not_lt]
theorem XLF_i (hV : ∀ h, 0 ≤ V h ∧ V h ≤ 2) (hX : 0 ≤ X ∧ X ≤ 16777215) : XLF V m X ↔ (wq_and (XD V) X = 0 ∧ ((nbf 24 (wq_and (XO V) X).toNat : Nat) : Int) ≤ m) := by
  have e1 : wq_and (XD V) X = xob (fun h => decide (V h = 2) && decide (hb X h = 1)) 24 := and_xob hX
  have e2 : wq_and (XO V) X = xob (fun h => decide (V h = 1) && decide (hb X h = 1)) 24 := and_xob hX
  have e3 : xob (fun h => decide (V h = 1) && decide (hb X h = 1)) 24 = xob (fun h => decide ((fun h => if V h = 1 ∧ hb X h = 1 then (1 : Int) else 0) h > 0)) 24 := xob_cg 24 (fun j _ => xfP_b (by
    rw [Bool.and_eq_true, decide_eq_true_eq, decide_eq_true_eq, decide_eq_true_eq]
    by_cases c : V j = 1 ∧ hb X j = 1
    · show _ ↔ (if V j = 1 ∧ hb X j = 1 then (1 : Int) else 0) > 0
      rw [if_pos c]
      exact ⟨fun _ => by decide, fun _ => c⟩
    · show _ ↔ (if V j = 1 ∧ hb X j = 1 then (1 : Int) else 0) > 0
      rw [if_neg c]
      exact ⟨fun q => absurd q c, fun q => absurd q (by decide)⟩))
  rw [e1, e2, e3, xob_bits, xob_0]
  have k2 : (∀ h : Nat, h < 24 → (decide (V h = 2) && decide (hb X h = 1)) = false) ↔ ∀ h : Nat, h < 24 → xbh X V h ≠ 2 := by
    constructor
    · intro q h hh k
      have h1 := q h hh
      have h4 := @hb_b X h
      unfold xbh at k
      by_cases c : hb X h = 0
      · rw [if_pos c] at k
        exact absurd k (by decide)
      · rw [if_neg c] at k
        rw [decide_eq_true k, decide_eq_true (show hb X h = 1 by omega)] at h1
        exact absurd h1 (by decide)
    · intro q h hh
      have h1 := q h hh
      by_cases c : hb X h = 1
      · unfold xbh at h1
        rw [if_neg (by omega)] at h1
        rw [decide_eq_false h1, Bool.false_and]
      · rw [decide_eq_false c, Bool.and_false]
  rw [k2]
  unfold XLF
  constructor
  · intro q
    have q2 : ∀ h : Nat, h < 24 → xbh X V h ≠ 2 := fun h hh => (xbad_i.mp (q h hh)).1
    refine ⟨q2, ?_⟩
    rw [← xco_x q2 hV 24 (Nat.le_refl _)]
    exact (xbad_i.mp (q 23 (by decide))).2
  · intro q h hh
    have h1 := xco_x q.1 hV 24 (Nat.le_refl _)
    have h2 := xco_up (X := X) hV 24 (h := h + 1) (by omega)
    refine xbad_i.mpr ⟨q.1 h hh, ?_⟩
    have h3 := q.2
    rw [← h1] at h3
    omega
end FLAW
end
