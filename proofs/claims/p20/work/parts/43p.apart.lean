/-! WHO IS TOLD APART (own work): two that are told apart are two; what is SAID are SPANS -/
section XNL

variable {B : Nat → Int} {n q : Int} {d : xD} {g : Nat → Int} {a v : Int}
theorem XN_0 : XN xD0 := fun k hk => by
  have e4 : xD0 0 4 = 0 := rfl
  omega
theorem XN_st {d' : xD} (h : XN d) (e3 : d 0 3 ≤ d' 0 3) (e4 : d' 0 4 = d 0 4) (er : ∀ i, 10 ≤ i → i ≤ 11 → d' i = d i) : XN d' := fun k hk => by
  have := h k (by omega)
  rw [er 10 (by decide) (by decide), er 11 (by decide) (by decide)]
  omega
theorem XN_ap (hw : XW d) (h : XN d) (f : (xl3 B n q d).1 = 0) : XN (xdap B n (xN B n q) d) := by
  obtain ⟨hP, hC, hR⟩ := hw
  unfold xl3 at f
  split at f
  · cases f
  · unfold xap at f
    simp only [xs_iff] at f
    obtain ⟨f1, -, f2, f3⟩ := f
    have f1 := xkn_z f1
    have f2 := xkn_z f2
    unfold xwB at f1 f2
    have f3 : xac d (xwho B n (xN B n q) d) (xwho B n (xN B n (xN B n (xN B n q))) d) = 0 := f3.1
    have v := @xdap_v B n (xN B n q) d
    unfold XC at hC
    have hk : (((d 0 4).toNat : Nat) : Int) = d 0 4 := by omega
    have c1 := @xdap_c B n (xN B n q) d _ hk
    have c2 := @xdap_e B n (xN B n q) d _ hk
    have ne : xwho B n (xN B n q) d ≠ xwho B n (xN B n (xN B n (xN B n q))) d := fun e => by
      unfold xac xag at f3
      rw [if_pos e] at f3
      cases f3
    intro k hk2
    by_cases e : k = (d 0 4).toNat
    · rw [e, c1.1, c2.1]
      omega
    · have := h k (by omega)
      rw [c1.2 k e, c2.2 k e]
      omega
theorem XN_line (hw : XW d) (h : XN d) (f : (xline B n q d).1 = 0) : XN (xdline B n q d) := by
  unfold xline at f
  unfold xdline
  split
  · have v := @xdlaw_v B n (xN B n q) d
    exact XN_st h (by omega) (by omega) (fun i h1 h2 => xdlaw_r (by omega))
  · next c0 =>
    rw [if_neg c0] at f
    split
    · have v := @xdper_v B n (xN B n q) d
      exact XN_st h (by omega) (by omega) (fun i h1 h2 => xdper_r h1)
    · next c1 =>
      rw [if_neg c1] at f
      split
      · have v := @xdsex_v B n (xN B n q) d
        exact XN_st h (by omega) (by omega) (fun i h1 h2 => xdsex_r (by omega))
      · next c2 =>
        rw [if_neg c2] at f
        split
        · next c3 =>
          rw [if_pos c3] at f
          exact XN_ap hw h f
        · split
          · exact XN_st h (by unfold xdbo; rw [wq_u_e2 (fun c => by omega), wq_u_row (by decide)]; exact Int.le_refl _) (by unfold xdbo; rw [wq_u_e2 (fun c => by omega), wq_u_row (by decide)]) (fun i h1 h2 => by unfold xdbo; rw [wq_u_row (by omega), wq_u_row (by omega)])
          · split
            · exact XN_st h (by unfold xdst; rw [wq_u_row (by decide)]; exact Int.le_refl _) (by unfold xdst; rw [wq_u_row (by decide)]) (fun i h1 h2 => by unfold xdst; rw [wq_u_row (by omega)])
            · split
              · exact XN_st h (by unfold xdtl; rw [wq_u_e2 (fun c => by omega), wq_u_row (by decide), wq_u_row (by decide)]; exact Int.le_refl _) (by unfold xdtl; rw [wq_u_e2 (fun c => by omega), wq_u_row (by decide), wq_u_row (by decide)]) (fun i h1 h2 => by unfold xdtl; rw [wq_u_row (by omega), wq_u_row (by omega), wq_u_row (by omega)])
              · exact XN_st h (by unfold xdof; rw [wq_u_e2 (fun c => by omega), wq_u_row (by decide), wq_u_row (by decide)]; exact Int.le_refl _) (by unfold xdof; rw [wq_u_e2 (fun c => by omega), wq_u_row (by decide), wq_u_row (by decide)]) (fun i h1 h2 => by unfold xdof; rw [wq_u_row (by omega), wq_u_row (by omega), wq_u_row (by omega)])
theorem XN_xpf : ∀ (f : Nat) (q : Int) (d : xD), XW d → XN d → (xpf B n f q d).1.1 = 0 → XN (xpf B n f q d).2
  | 0, q, d, _, _, h => absurd (show (1 : Int) = 0 from h) (by decide)
  | f + 1, q, d, hw, hn, h => by
    unfold xpf at h ⊢
    split at h
    · next a =>
      rw [if_pos a]
      have hw2 := XW_line hw a
      have hn2 := XN_line hw hn a
      split at h
      · next b =>
        rw [if_pos b]
        split at h
        · next c =>
          rw [if_pos c]
          exact hn2
        · cases h
      · next b =>
        rw [if_neg b]
        split at h
        · next c =>
          rw [if_pos c]
          exact XN_xpf f _ _ hw2 hn2 h
        · cases h
    · next a => exact absurd h a
theorem XN_parse (h : (xparse B n).1.1 = 0) : XN (xparse B n).2 := XN_xpf 902 _ xD0 XW_0 XN_0 h
/-- what is known of what is told, between calls -/
def XA (d : xD) : Prop := XW d ∧ XN d
theorem XA_0 : XA xD0 := ⟨XW_0, XN_0⟩
theorem XA_set (h : (xparse B n).1.1 = 0) : XA (xset (xparse B n).2) ∧ 1 ≤ xset (xparse B n).2 0 0 ∧ 1 ≤ xset (xparse B n).2 0 3 := by
  have h1 := XV_set (XV_parse h)
  exact ⟨⟨h1.1, XN_parse h⟩, h1.2.1, h1.2.2⟩
theorem SG_0 : SG d (fun _ => 0) := fun k hk => ⟨Int.le_refl _, Or.inl rfl⟩
theorem SG_up {k : Nat} (h : SG d g) (h0 : 0 ≤ v) (hv : v < ((xsp d k).length : Int)) : SG d (xup g k v) := fun j hj => by
  by_cases e : j = k
  · subst e
    rw [xup_e]
    exact ⟨h0, Or.inr hv⟩
  · rw [xup_n e]
    exact h j hj
theorem xpd_at : ∀ m k j : Nat, xpd d a k m = 0 → k ≤ j → j < k + m → xdg d a j = 0 ∨ xdg d a j < ((xsp d j).length : Int)
  | 0, k, j, _, h1, h2 => by omega
  | m + 1, k, j, h, h1, h2 => by
    have h3 : (if xdg d a k = 0 ∨ xdg d a k < ((xsp d k).length : Int) then 0 else 1) + xpd d a (k + 1) m = 0 := h
    have h4 := @xpd_p d a m (k + 1)
    by_cases c : xdg d a k = 0 ∨ xdg d a k < ((xsp d k).length : Int)
    · rw [if_pos c] at h3
      by_cases e : j = k
      · rw [e]
        exact c
      · exact xpd_at m (k + 1) j (by omega) (by omega) (by omega)
    · rw [if_neg c] at h3
      omega
theorem SG_im (h : xpd d a 0 (d 0 3).toNat = 0) : SG d (xdg d a) := fun k hk => by
  refine ⟨?_, xpd_at _ 0 k h (Nat.zero_le _) (by omega)⟩
  unfold xdg
  omega
end XNL
