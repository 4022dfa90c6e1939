/-! WHAT IS TOLD KEEPS ITS BOUNDS (own work) -/
theorem row_ap {f f' : Nat → Int} {c c' : Int} {k : Nat} {P P' : Int → Prop} (h : ∀ j : Nat, (j : Int) < c → P (f j)) (hc : c' = c + 1) (hk : (k : Int) = c) (fk : P' (f' k)) (fn : ∀ j, j ≠ k → f' j = f j) (w : ∀ x, P x → P' x) : ∀ j : Nat, (j : Int) < c' → P' (f' j) := fun j hj => by
  by_cases e : j = k
  · subst e
    exact fk
  · rw [fn j e]
    exact w _ (h j (by omega))
theorem row_st {f f' : Nat → Int} {c c' : Int} {P P' : Int → Prop} (h : ∀ j : Nat, (j : Int) < c → P (f j)) (hc : c' = c) (ef : f' = f) (w : ∀ x, P x → P' x) : ∀ j : Nat, (j : Int) < c' → P' (f' j) := fun j hj => by
  rw [ef]
  exact w _ (h j (by omega))
theorem xhf_b {a b : Int} : ∀ n : Nat, 0 ≤ xhf a b n ∧ xhf a b n + 1 ≤ 2 ^ n
  | 0 => ⟨Int.le_refl _, by show (0 : Int) + 1 ≤ 2 ^ 0; decide⟩
  | n + 1 => by
    have h := @xhf_b a b n
    have h2 : (0 : Int) ≤ 2 ^ n := Int.le_of_lt (Int.pow_pos (by decide))
    show 0 ≤ xhf a b n + (if a ≤ n ∧ (n : Int) < b then 2 ^ n else 0) ∧ xhf a b n + (if a ≤ n ∧ (n : Int) < b then 2 ^ n else 0) + 1 ≤ 2 ^ (n + 1)
    rw [Int.pow_succ]
    split <;> omega
theorem xhs_b {a b : Int} : 0 ≤ xhs a b ∧ xhs a b ≤ 16777215 := by
  have h := @xhf_b a b 24
  have e : (2 : Int) ^ 24 = 16777216 := by decide
  unfold xhs
  omega
def XC (d : xD) : Prop := 0 ≤ d 0 0 ∧ d 0 0 ≤ 24 ∧ 0 ≤ d 0 1 ∧ d 0 1 ≤ 9 ∧ 0 ≤ d 0 2 ∧ d 0 2 ≤ 3 ∧ 0 ≤ d 0 3 ∧ d 0 3 ≤ 6 ∧ 0 ≤ d 0 4 ∧ d 0 4 ≤ 3 ∧ 0 ≤ d 0 5 ∧ d 0 5 ≤ 3 ∧ 0 ≤ d 0 6 ∧ d 0 6 ≤ 4 ∧ 0 ≤ d 0 7 ∧ d 0 7 ≤ 6 ∧ -1 ≤ d 0 8 ∧ d 0 8 < d 0 3
def xwB (p x : Int) : Prop := 0 ≤ x ∧ x < p
def xhB (x : Int) : Prop := 0 ≤ x ∧ x ≤ 16777215
def xrB (x : Int) : Prop := 0 ≤ x ∧ x ≤ 23
def XR (d : xD) : Prop := (∀ k : Nat, (k : Int) < d 0 4 → xwB (d 0 3) (d 10 k)) ∧ (∀ k : Nat, (k : Int) < d 0 4 → xwB (d 0 3) (d 11 k)) ∧ (∀ k : Nat, (k : Int) < d 0 5 → xrB (d 12 k)) ∧ (∀ k : Nat, (k : Int) < d 0 6 → xwB (d 0 3) (d 14 k)) ∧ (∀ k : Nat, (k : Int) < d 0 6 → xhB (d 15 k)) ∧ (∀ k : Nat, (k : Int) < d 0 7 → xhB (d 16 k)) ∧ (∀ k : Nat, (k : Int) < d 0 7 → xwB (d 0 3) (d 17 k)) ∧ ∀ h : Nat, 0 ≤ d 13 h ∧ d 13 h ≤ 100
def XW (d : xD) : Prop := xdP d ∧ XC d ∧ XR d
/-- what a text without a FAULT tells -/
def XV (d : xD) : Prop := XW d ∧ 1 ≤ d 0 0 ∧ 1 ≤ d 0 3
theorem XW_0 : XW xD0 := by
  refine ⟨xdP_0, by unfold XC; decide, ?_⟩
  have z : ∀ i, i ≠ 0 → ∀ k, xD0 i k = 0 := fun i hi k => if_neg (fun c => hi c.1)
  have e4 : xD0 0 4 = 0 := rfl
  have e5 : xD0 0 5 = 0 := rfl
  have e6 : xD0 0 6 = 0 := rfl
  have e7 : xD0 0 7 = 0 := rfl
  refine ⟨fun k h => ?_, fun k h => ?_, fun k h => ?_, fun k h => ?_, fun k h => ?_, fun k h => ?_, fun k h => ?_, fun k => ?_⟩
  · omega
  · omega
  · omega
  · omega
  · omega
  · omega
  · omega
  · rw [z 13 (by decide)]
    omega
section XVL

variable {B : Nat → Int} {n q : Int} {d : xD}
theorem xkn_z (h : xkn B n q d = 0) : xwB (d 0 3) (xwho B n q d) := by
  unfold xkn at h
  split at h
  · split at h
    · cases h
    · next c =>
      rcases @xfi_b (d 1) (d 0 3) (xY B n q) with e | e
      · exact absurd e c
      · exact ⟨e.1, e.2.1⟩
  · cases h
theorem wB_up {p p' : Int} (h : p ≤ p') : ∀ x, xwB p x → xwB p' x := fun x hx => ⟨hx.1, Int.lt_of_lt_of_le hx.2 h⟩
theorem idP {P : Int → Prop} : ∀ x, P x → P x := fun _ h => h
theorem XR_st {d' : xD} (h : XR d) (e3 : d 0 3 ≤ d' 0 3) (e4 : d' 0 4 = d 0 4) (e5 : d' 0 5 = d 0 5) (e6 : d' 0 6 = d 0 6) (e7 : d' 0 7 = d 0 7) (er : ∀ i, 10 ≤ i → i ≤ 17 → d' i = d i) : XR d' := by
  obtain ⟨h1, h2, h3, h4, h5, h6, h7, h8⟩ := h
  exact ⟨row_st h1 e4 (er 10 (by decide) (by decide)) (wB_up e3), row_st h2 e4 (er 11 (by decide) (by decide)) (wB_up e3), row_st h3 e5 (er 12 (by decide) (by decide)) idP, row_st h4 e6 (er 14 (by decide) (by decide)) (wB_up e3), row_st h5 e6 (er 15 (by decide) (by decide)) idP, row_st h6 e7 (er 16 (by decide) (by decide)) idP, row_st h7 e7 (er 17 (by decide) (by decide)) (wB_up e3), fun k => by rw [er 13 (by decide) (by decide)]; exact h8 k⟩
theorem XW_law (h : XW d) (f : (xl0 B n q d).1 = 0) : XW (xdlaw B n (xN B n q) d) := by
  obtain ⟨hP, hC, hR⟩ := h
  unfold xl0 at f
  split at f
  · cases f
  · unfold xlaw at f
    simp only [xs_iff] at f
    obtain ⟨-, f1, -, f2, -, f3, -⟩ := f
    have f1 := xh_z f1
    have f2 := xh_z f2
    have f3 := xh_z f3
    have v := @xdlaw_v B n (xN B n q) d
    unfold XC at hC
    exact ⟨xdP_cg hP (fun i h1 h2 => xdlaw_r (by omega)), by unfold XC; omega, XR_st hR (by omega) (by omega) (by omega) (by omega) (by omega) (fun i h1 h2 => xdlaw_r (by omega))⟩
theorem XW_per (h : XW d) (hx : xdP (xdper B n (xN B n q) d)) (f : (xl1 B n q d).1 = 0) : XW (xdper B n (xN B n q) d) := by
  obtain ⟨hP, hC, hR⟩ := h
  unfold xl1 at f
  split at f
  · cases f
  · have v := @xdper_v B n (xN B n q) d
    unfold XC at hC
    exact ⟨hx, by unfold XC; omega, XR_st hR (by omega) (by omega) (by omega) (by omega) (by omega) (fun i h1 h2 => xdper_r h1)⟩
theorem XW_sex (h : XW d) (f : (xl2 B n q d).1 = 0) : XW (xdsex B n (xN B n q) d) := by
  obtain ⟨hP, hC, hR⟩ := h
  unfold xl2 at f
  split at f
  · cases f
  · unfold xsex at f
    have f1 := xkn_z (xs_iff.mp f).1
    unfold xwB at f1
    have v := @xdsex_v B n (xN B n q) d
    have e8 : xdsex B n (xN B n q) d 0 8 = xwho B n (xN B n q) d := wq_u_eq
    unfold XC at hC
    exact ⟨xdP_cg hP (fun i h1 h2 => xdsex_r (by omega)), by unfold XC; omega, XR_st hR (by omega) (by omega) (by omega) (by omega) (by omega) (fun i h1 h2 => xdsex_r (by omega))⟩
theorem XW_ap (h : XW d) (f : (xl3 B n q d).1 = 0) : XW (xdap B n (xN B n q) d) := by
  obtain ⟨hP, hC, hR⟩ := h
  unfold xl3 at f
  split at f
  · cases f
  · unfold xap at f
    simp only [xs_iff] at f
    obtain ⟨f1, -, f2, -⟩ := f
    have f1 := xkn_z f1
    have f2 := xkn_z f2
    have v := @xdap_v B n (xN B n q) d
    unfold XC at hC
    have hk : (((d 0 4).toNat : Nat) : Int) = d 0 4 := by omega
    have c1 := @xdap_c B n (xN B n q) d _ hk
    have c2 := @xdap_e B n (xN B n q) d _ hk
    have e3 : xdap B n (xN B n q) d 0 3 = d 0 3 := by omega
    obtain ⟨h1, h2, h3, h4, h5, h6, h7, h8⟩ := hR
    refine ⟨xdP_cg hP (fun i h1 h2 => xdap_r (by omega) (by omega) (by omega)), by unfold XC; omega, ?_⟩
    unfold XR
    rw [e3]
    exact ⟨row_ap h1 (by omega) hk (by rw [c1.1]; exact f1) c1.2 idP, row_ap h2 (by omega) hk (by rw [c2.1]; exact f2) c2.2 idP, row_st h3 (by omega) (xdap_r (by decide) (by decide) (by decide)) idP, row_st h4 (by omega) (xdap_r (by decide) (by decide) (by decide)) idP, row_st h5 (by omega) (xdap_r (by decide) (by decide) (by decide)) idP, row_st h6 (by omega) (xdap_r (by decide) (by decide) (by decide)) idP, row_st h7 (by omega) (xdap_r (by decide) (by decide) (by decide)) idP, fun k => by rw [xdap_r (i := 13) (by decide) (by decide) (by decide)]; exact h8 k⟩
theorem XW_bo (h : XW d) (f : (xl4 B n q d).1 = 0) : XW (xdbo B n (xN B n q) d) := by
  obtain ⟨hP, hC, hR⟩ := h
  unfold xl4 at f
  split at f
  · cases f
  · unfold xbo at f
    have f1 := xh_z (xs_iff.mp f).1
    have v := @xdbo_v B n (xN B n q) d
    unfold XC at hC
    have hk : (((d 0 5).toNat : Nat) : Int) = d 0 5 := by omega
    have c1 := @xdbo_c B n (xN B n q) d _ hk
    have e3 : xdbo B n (xN B n q) d 0 3 = d 0 3 := by omega
    have r : ∀ i, i ≠ 0 → i ≠ 12 → xdbo B n (xN B n q) d i = d i := fun i h1 h2 => by
      unfold xdbo
      rw [wq_u_row (by omega), wq_u_row (by omega)]
    obtain ⟨h1, h2, h3, h4, h5, h6, h7, h8⟩ := hR
    refine ⟨xdP_cg hP (fun i h1 h2 => r i (by omega) (by omega)), by unfold XC; omega, ?_⟩
    unfold XR
    rw [e3]
    exact ⟨row_st h1 (by omega) (r _ (by decide) (by decide)) idP, row_st h2 (by omega) (r _ (by decide) (by decide)) idP, row_ap h3 (by omega) hk (by rw [c1.1]; exact f1) c1.2 idP, row_st h4 (by omega) (r _ (by decide) (by decide)) idP, row_st h5 (by omega) (r _ (by decide) (by decide)) idP, row_st h6 (by omega) (r _ (by decide) (by decide)) idP, row_st h7 (by omega) (r _ (by decide) (by decide)) idP, fun k => by rw [r 13 (by decide) (by decide)]; exact h8 k⟩
theorem XW_st (h : XW d) (f : (xl5 B n q d).1 = 0) : XW (xdst B n (xN B n q) d) := by
  obtain ⟨hP, hC, hR⟩ := h
  unfold xl5 at f
  split at f
  · cases f
  · unfold xst at f
    simp only [xs_iff] at f
    obtain ⟨f1, -, f2, -⟩ := f
    have f2 := xh_z f2
    have f1 : 0 ≤ xV B n (xN B n q) ∧ xV B n (xN B n q) ≤ 23 := by
      unfold xsh at f1
      split at f1
      · cases f1
      · exact xh_z f1
    have r : ∀ i, i ≠ 13 → xdst B n (xN B n q) d i = d i := fun i hi => wq_u_row hi
    have c := @xdst_c B n (xN B n q) d (xV B n (xN B n q)).toNat (by omega)
    have r0 := r 0 (by decide)
    have hC' : XC (xdst B n (xN B n q) d) := by
      unfold XC
      rw [r0]
      exact hC
    obtain ⟨h1, h2, h3, h4, h5, h6, h7, h8⟩ := hR
    refine ⟨xdP_cg hP (fun i h1 h2 => r i (by omega)), hC', ?_⟩
    unfold XR
    rw [r0, r 10 (by decide), r 11 (by decide), r 12 (by decide), r 14 (by decide), r 15 (by decide), r 16 (by decide), r 17 (by decide)]
    refine ⟨h1, h2, h3, h4, h5, h6, h7, fun k => ?_⟩
    by_cases e : k = (xV B n (xN B n q)).toNat
    · rw [e, c.1]
      omega
    · rw [c.2 k e]
      exact h8 k
theorem xtl_z (f : (xtl B n q d).1 = 0) : xwB (d 0 3) (xwho B n q d) := by
  unfold xtl at f
  exact xkn_z (xs_iff.mp f).1
theorem XW_tl (h : XW d) (f : (xl6 B n q d).1 = 0) : XW (xdtl B n (xN B n q) d) := by
  obtain ⟨hP, hC, hR⟩ := h
  unfold xl6 at f
  split at f
  · cases f
  · have f1 := xtl_z f
    have v := @xdtl_v B n (xN B n q) d
    unfold XC at hC
    have hk : (((d 0 6).toNat : Nat) : Int) = d 0 6 := by omega
    have c1 := @xdtl_c B n (xN B n q) d _ hk
    have c2 := @xdtl_e B n (xN B n q) d _ hk
    have e3 : xdtl B n (xN B n q) d 0 3 = d 0 3 := by omega
    have r : ∀ i, i ≠ 0 → i ≠ 14 → i ≠ 15 → xdtl B n (xN B n q) d i = d i := fun i h1 h2 h3 => by
      unfold xdtl
      rw [wq_u_row (by omega), wq_u_row (by omega), wq_u_row (by omega)]
    obtain ⟨h1, h2, h3, h4, h5, h6, h7, h8⟩ := hR
    refine ⟨xdP_cg hP (fun i h1 h2 => r i (by omega) (by omega) (by omega)), by unfold XC; omega, ?_⟩
    unfold XR
    rw [e3]
    exact ⟨row_st h1 (by omega) (r _ (by decide) (by decide) (by decide)) idP, row_st h2 (by omega) (r _ (by decide) (by decide) (by decide)) idP, row_st h3 (by omega) (r _ (by decide) (by decide) (by decide)) idP, row_ap h4 (by omega) hk (by rw [c1.1]; exact f1) c1.2 idP, row_ap h5 (by omega) hk (by rw [c2.1]; exact xhs_b) c2.2 idP, row_st h6 (by omega) (r _ (by decide) (by decide) (by decide)) idP, row_st h7 (by omega) (r _ (by decide) (by decide) (by decide)) idP, fun k => by rw [r 13 (by decide) (by decide) (by decide)]; exact h8 k⟩
theorem XW_of (h : XW d) (f : (xl7 B n q d).1 = 0) : XW (xdof B n (xN B n q) d) := by
  obtain ⟨hP, hC, hR⟩ := h
  unfold xl7 at f
  split at f
  · cases f
  · have f1 := xtl_z f
    have v := @xdof_v B n (xN B n q) d
    unfold XC at hC
    have hk : (((d 0 7).toNat : Nat) : Int) = d 0 7 := by omega
    have c1 := @xdof_c B n (xN B n q) d _ hk
    have c2 := @xdof_e B n (xN B n q) d _ hk
    have e3 : xdof B n (xN B n q) d 0 3 = d 0 3 := by omega
    have r : ∀ i, i ≠ 0 → i ≠ 16 → i ≠ 17 → xdof B n (xN B n q) d i = d i := fun i h1 h2 h3 => by
      unfold xdof
      rw [wq_u_row (by omega), wq_u_row (by omega), wq_u_row (by omega)]
    obtain ⟨h1, h2, h3, h4, h5, h6, h7, h8⟩ := hR
    refine ⟨xdP_cg hP (fun i h1 h2 => r i (by omega) (by omega) (by omega)), by unfold XC; omega, ?_⟩
    unfold XR
    rw [e3]
    exact ⟨row_st h1 (by omega) (r _ (by decide) (by decide) (by decide)) idP, row_st h2 (by omega) (r _ (by decide) (by decide) (by decide)) idP, row_st h3 (by omega) (r _ (by decide) (by decide) (by decide)) idP, row_st h4 (by omega) (r _ (by decide) (by decide) (by decide)) idP, row_st h5 (by omega) (r _ (by decide) (by decide) (by decide)) idP, row_ap h6 (by omega) hk (by rw [c1.1]; exact xhs_b) c1.2 idP, row_ap h7 (by omega) hk (by rw [c2.1]; exact f1) c2.2 idP, fun k => by rw [r 13 (by decide) (by decide) (by decide)]; exact h8 k⟩
theorem XW_line (h : XW d) (f : (xline B n q d).1 = 0) : XW (xdline B n q d) := by
  have h0 : 0 ≤ d 0 3 := by
    have := h.2.1
    unfold XC at this
    omega
  have hx := xdP_line h.1 h0 f
  unfold xline at f
  unfold xdline at hx ⊢
  split
  · next c0 =>
    rw [if_pos c0] at f
    exact XW_law h f
  · next c0 =>
    rw [if_neg c0] at f hx
    split
    · next c1 =>
      rw [if_pos c1] at f hx
      exact XW_per h hx f
    · next c1 =>
      rw [if_neg c1] at f
      split
      · next c2 =>
        rw [if_pos c2] at f
        exact XW_sex h f
      · next c2 =>
        rw [if_neg c2] at f
        split
        · next c3 =>
          rw [if_pos c3] at f
          exact XW_ap h f
        · next c3 =>
          rw [if_neg c3] at f
          split
          · next c4 =>
            rw [if_pos c4] at f
            exact XW_bo h f
          · next c4 =>
            rw [if_neg c4] at f
            split
            · next c5 =>
              rw [if_pos c5] at f
              exact XW_st h f
            · next c5 =>
              rw [if_neg c5] at f
              split
              · next c6 =>
                rw [if_pos c6] at f
                exact XW_tl h f
              · next c6 =>
                rw [if_neg c6] at f
                split at f
                · exact XW_of h f
                · cases f
theorem XV_xpf : ∀ (f : Nat) (q : Int) (d : xD), XW d → (xpf B n f q d).1.1 = 0 → XV (xpf B n f q d).2
  | 0, q, d, _, h => absurd (show (1 : Int) = 0 from h) (by decide)
  | f + 1, q, d, hw, h => by
    unfold xpf at h ⊢
    split at h
    · next a =>
      rw [if_pos a]
      have hw2 := XW_line hw a
      split at h
      · next b =>
        rw [if_pos b]
        split at h
        · next c =>
          rw [if_pos c]
          have z1 : 1 ≤ xdline B n q d 0 0 := by omega
          have z2 : 1 ≤ xdline B n q d 0 3 := by omega
          exact ⟨hw2, z1, z2⟩
        · cases h
      · next b =>
        rw [if_neg b]
        split at h
        · next c =>
          rw [if_pos c]
          exact XV_xpf f _ _ hw2 h
        · cases h
    · next a => exact absurd h a
theorem XV_parse (h : (xparse B n).1.1 = 0) : XV (xparse B n).2 := XV_xpf 902 _ xD0 XW_0 h
theorem XV_set (h : XV d) : XV (xset d) := by
  obtain ⟨⟨hP, hC, h1, h2, h3, h4, h5, h6, h7, h8⟩, h9, h10⟩ := h
  refine ⟨⟨xdP_set hP, hC, h1, h2, h3, h4, fun k hk => ?_, fun k hk => ?_, h7, fun k => ?_⟩, h9, h10⟩
  · rw [xset_15]
    unfold xmk
    have := h5 k hk
    unfold xhB at this ⊢
    split
    · have a := @xhs_b 0 (d 0 0)
      have b := wq_and_b (d 15 k) (y := xal d) a.1 (by have := a.2; unfold xal; omega)
      unfold xal at b ⊢
      omega
    · exact this
  · rw [xset_16]
    unfold xmk
    have := h6 k hk
    unfold xhB at this ⊢
    split
    · have a := @xhs_b 0 (d 0 0)
      have b := wq_and_b (d 16 k) (y := xal d) a.1 (by have := a.2; unfold xal; omega)
      unfold xal at b ⊢
      omega
    · exact this
  · rw [xset_13]
    unfold xcu
    split
    · omega
    · exact h8 k
end XVL
