/-! A PARISH OF THE REFERENCE, MADE (own work): nothing is told yet -/
abbrev uq_171 (T0 : wq_T) (H0 : wq_H) : Option Value → wq_T → wq_H → Prop := fun r T' H' => q_171 T0 H0 r T' H' ∧ (∀ m, T0.2.2.2 m = some 42 → H0 m 16 = 0 → DM T' H' (256 + T0.2.1) m xD0) ∧ (∀ j, 9 ≤ j → j ≤ 26 → ((256 + T0.2.1 : Nat) : Int) ≤ H' (256 + T0.2.1) j) ∧ ∀ a t, T'.2.2.2 a = some t → T0.2.2.2 a = some t ∨ 54 ≤ t
theorem wNP.allf {T0 : wq_T} {H0 : wq_H} {T : wq_T} {H : wq_H} (h : wNP T0 H0 T H 18) (hx : H (256 + T0.2.1) 8 = -1) (hW : WT T0 H0) (hf : ∀ a, 256 + T0.2.1 ≤ a → T0.1 a = none) : uq_171 T0 H0 none (T.1, T.2.1, T.2.2.1, wNPg T0) H := by
  refine ⟨h.all (by rw [hx]; exact ⟨by decide, by decide⟩) hW hf, fun m gm h16 => ?_, fun j h1 h2 => by
    have h3 := h.fr (j - 9) (by omega)
    rw [show 9 + (j - 9) = j by omega] at h3
    rw [h3]
    omega, fun a t h => by
    have h : wNPg T0 a = some t := h
    unfold wNPg at h
    split at h
    · cases h
      exact Or.inr (by decide)
    · split at h
      · have := Option.some.inj h
        exact Or.inr (by omega)
      · exact Or.inl h⟩
  have hm : m < 256 + T0.2.1 := by
    by_cases q : m < 256 + T0.2.1
    · exact q
    · have h1 := (hW.2 m 42 gm).1
      rw [hf m (by omega)] at h1
      cases h1
  have e16 : H m 16 = 0 := by rw [(h.old m hm).2]; exact h16
  refine ⟨wNPg_mono hW hf m 42 gm, ⟨h.f0 0 (by omega), h.f0 1 (by omega), h.f0 2 (by omega), h.f0 3 (by omega), h.f0 4 (by omega), h.f0 5 (by omega), h.f0 6 (by omega), h.f0 7 (by omega), hx, e16, by decide, by decide⟩, xdP_0, ⟨257 + T0.2.1 + 0, h.fr 0 (by omega), wNP.tag (by omega), fun k _ => (h.ar 0 (by omega)).2 k⟩, ⟨257 + T0.2.1 + 1, h.fr 1 (by omega), wNP.tag (by omega), fun k _ => (h.ar 1 (by omega)).2 k⟩, ⟨257 + T0.2.1 + 2, h.fr 2 (by omega), wNP.tag (by omega), fun k _ => (h.ar 2 (by omega)).2 k⟩, ⟨257 + T0.2.1 + 3, h.fr 3 (by omega), wNP.tag (by omega), fun k _ => (h.ar 3 (by omega)).2 k⟩, ⟨257 + T0.2.1 + 4, h.fr 4 (by omega), wNP.tag (by omega), fun k _ => (h.ar 4 (by omega)).2 k⟩, ⟨257 + T0.2.1 + 5, h.fr 5 (by omega), wNP.tag (by omega), fun k _ => (h.ar 5 (by omega)).2 k⟩, ⟨257 + T0.2.1 + 6, h.fr 6 (by omega), wNP.tag (by omega), fun k _ => (h.ar 6 (by omega)).2 k⟩, ⟨257 + T0.2.1 + 7, h.fr 7 (by omega), wNP.tag (by omega), fun k _ => (h.ar 7 (by omega)).2 k⟩, ⟨257 + T0.2.1 + 8, h.fr 8 (by omega), wNP.tag (by omega), fun k _ => (h.ar 8 (by omega)).2 k⟩, ⟨257 + T0.2.1 + 9, h.fr 9 (by omega), wNP.tag (by omega), fun k _ => (h.ar 9 (by omega)).2 k⟩, ⟨257 + T0.2.1 + 10, h.fr 10 (by omega), wNP.tag (by omega), fun k _ => (h.ar 10 (by omega)).2 k⟩, ⟨257 + T0.2.1 + 11, h.fr 11 (by omega), wNP.tag (by omega), fun k _ => (h.ar 11 (by omega)).2 k⟩, ⟨257 + T0.2.1 + 12, h.fr 12 (by omega), wNP.tag (by omega), fun k _ => (h.ar 12 (by omega)).2 k⟩, ⟨257 + T0.2.1 + 13, h.fr 13 (by omega), wNP.tag (by omega), fun k _ => (h.ar 13 (by omega)).2 k⟩, ⟨257 + T0.2.1 + 14, h.fr 14 (by omega), wNP.tag (by omega), fun k _ => (h.ar 14 (by omega)).2 k⟩, ⟨257 + T0.2.1 + 16, h.fr 16 (by omega), wNP.tag (by omega), fun k _ => (h.ar 16 (by omega)).2 k⟩, ⟨257 + T0.2.1 + 17, h.fr 17 (by omega), wNP.tag (by omega), fun k _ => (h.ar 17 (by omega)).2 k⟩⟩
theorem wPI_dm {T : wq_T} {H : wq_H} {R m : Nat} {d : xD} (h : DM T H R m d) : wPI H R = 1 := by
  obtain ⟨-, -, hp, -, ⟨b1, q1, -, a1⟩, ⟨b2, q2, -, a2⟩, ⟨b3, q3, -, a3⟩, ⟨b4, q4, -, a4⟩, -⟩ := h
  refine wPI_of q1 q2 q3 q4 (fun k hk => ?_)
  rw [a1 k hk, a2 k hk, a3 k hk, a4 k hk]
  have := hp k
  omega
set_option maxHeartbeats 4000000 in
theorem u_171 {kt : Nat → Option mc_E} {T : wq_T} {H : wq_H} (hW : WT T H) (hf : ∀ a, 256 + T.2.1 ≤ a → T.1 a = none) : wpc kt 1 171 [.ref (256 + T.2.1)] (wq_gT T (110, 27) 27) (wq_gH H (256 + T.2.1) (wq_d 10)) (uq_171 T H) := by
  refine wp_enter e171 (Nat.le_of_ble_eq_true rfl) rfl ?_
  have G18 : (∀ T' H', wNP T H T' H' 18 → H' (256 + T.2.1) 8 = -1 → wp kt 0 171 147 [(0, .ref (256 + T.2.1))] [] T' H' (uq_171 T H)) := fun T' H' np hx => wp.ghost (wNPg T) (wp_return e171 c171_147 rfl (np.allf hx hW hf))
  have G17 : (∀ T' H', wNP T H T' H' 17 → H' (256 + T.2.1) 8 = -1 → wp kt 0 171 139 [(0, .ref (256 + T.2.1))] [] T' H' (uq_171 T H)) := fun T' H' np hx => by
    have hn := np.n
    refine wp_of e171 c171_139 (rw_aload_n (pc' := 140) (v := .ref (256 + T.2.1)) rfl rfl rfl ?_)
    refine wp_of e171 c171_140 (rw_bipush (pc' := 142) (z := 6) rfl (by decide) ?_)
    refine wp_of e171 c171_142 (rw_newa (pc' := 144) (tt := 0) (n := 6) rfl (by decide) (by decide) (by decide) rfl rfl ?_)
    refine wp_of e171 c171_144 (px_R (pc' := 147) (z := ((256 + T'.2.1 : Nat) : Int)) lf_10_69 (by show (if _ = _ then _ else T'.1 _) = _; rw [if_neg (by omega)]; exact np.ob) (by omega) (by decide) rfl (vR_of _) trivial rfl ?_)
    exact G18 _ _ (np.next (i := 17) sh_72 (by decide)) (by rw [wq_u_ne (by omega), wq_gH_ne (by omega)]; exact hx)
  have G16 : (∀ T' H', wNP T H T' H' 16 → H' (256 + T.2.1) 8 = -1 → wp kt 0 171 131 [(0, .ref (256 + T.2.1))] [] T' H' (uq_171 T H)) := fun T' H' np hx => by
    have hn := np.n
    refine wp_of e171 c171_131 (rw_aload_n (pc' := 132) (v := .ref (256 + T.2.1)) rfl rfl rfl ?_)
    refine wp_of e171 c171_132 (rw_bipush (pc' := 134) (z := 6) rfl (by decide) ?_)
    refine wp_of e171 c171_134 (rw_newa (pc' := 136) (tt := 0) (n := 6) rfl (by decide) (by decide) (by decide) rfl rfl ?_)
    refine wp_of e171 c171_136 (px_R (pc' := 139) (z := ((256 + T'.2.1 : Nat) : Int)) lf_10_66 (by show (if _ = _ then _ else T'.1 _) = _; rw [if_neg (by omega)]; exact np.ob) (by omega) (by decide) rfl (vR_of _) trivial rfl ?_)
    exact G17 _ _ (np.next (i := 16) sh_71 (by decide)) (by rw [wq_u_ne (by omega), wq_gH_ne (by omega)]; exact hx)
  have G15 : (∀ T' H', wNP T H T' H' 15 → H' (256 + T.2.1) 8 = -1 → wp kt 0 171 124 [(0, .ref (256 + T.2.1))] [] T' H' (uq_171 T H)) := fun T' H' np hx => by
    have hn := np.n
    refine wp_of e171 c171_124 (rw_aload_n (pc' := 125) (v := .ref (256 + T.2.1)) rfl rfl rfl ?_)
    refine wp_of e171 c171_125 (rw_iconst (pc' := 126) rfl ?_)
    refine wp_of e171 c171_126 (rw_newa (pc' := 128) (tt := 0) (n := 4) rfl (by decide) (by decide) (by decide) rfl rfl ?_)
    refine wp_of e171 c171_128 (px_R (pc' := 131) (z := ((256 + T'.2.1 : Nat) : Int)) lf_10_63 (by show (if _ = _ then _ else T'.1 _) = _; rw [if_neg (by omega)]; exact np.ob) (by omega) (by decide) rfl (vR_of _) trivial rfl ?_)
    exact G16 _ _ (np.next (i := 15) sh_70 (by decide)) (by rw [wq_u_ne (by omega), wq_gH_ne (by omega)]; exact hx)
  have G14 : (∀ T' H', wNP T H T' H' 14 → H' (256 + T.2.1) 8 = -1 → wp kt 0 171 117 [(0, .ref (256 + T.2.1))] [] T' H' (uq_171 T H)) := fun T' H' np hx => by
    have hn := np.n
    refine wp_of e171 c171_117 (rw_aload_n (pc' := 118) (v := .ref (256 + T.2.1)) rfl rfl rfl ?_)
    refine wp_of e171 c171_118 (rw_iconst (pc' := 119) rfl ?_)
    refine wp_of e171 c171_119 (rw_newa (pc' := 121) (tt := 0) (n := 4) rfl (by decide) (by decide) (by decide) rfl rfl ?_)
    refine wp_of e171 c171_121 (px_R (pc' := 124) (z := ((256 + T'.2.1 : Nat) : Int)) lf_10_60 (by show (if _ = _ then _ else T'.1 _) = _; rw [if_neg (by omega)]; exact np.ob) (by omega) (by decide) rfl (vR_of _) trivial rfl ?_)
    exact G15 _ _ (np.next (i := 14) sh_69 (by decide)) (by rw [wq_u_ne (by omega), wq_gH_ne (by omega)]; exact hx)
  have G13 : (∀ T' H', wNP T H T' H' 13 → H' (256 + T.2.1) 8 = -1 → wp kt 0 171 110 [(0, .ref (256 + T.2.1))] [] T' H' (uq_171 T H)) := fun T' H' np hx => by
    have hn := np.n
    refine wp_of e171 c171_110 (rw_aload_n (pc' := 111) (v := .ref (256 + T.2.1)) rfl rfl rfl ?_)
    refine wp_of e171 c171_111 (rw_iconst (pc' := 112) rfl ?_)
    refine wp_of e171 c171_112 (rw_newa (pc' := 114) (tt := 0) (n := 4) rfl (by decide) (by decide) (by decide) rfl rfl ?_)
    refine wp_of e171 c171_114 (px_R (pc' := 117) (z := ((256 + T'.2.1 : Nat) : Int)) lf_10_57 (by show (if _ = _ then _ else T'.1 _) = _; rw [if_neg (by omega)]; exact np.ob) (by omega) (by decide) rfl (vR_of _) trivial rfl ?_)
    exact G14 _ _ (np.next (i := 13) sh_68 (by decide)) (by rw [wq_u_ne (by omega), wq_gH_ne (by omega)]; exact hx)
  have G12 : (∀ T' H', wNP T H T' H' 12 → H' (256 + T.2.1) 8 = -1 → wp kt 0 171 102 [(0, .ref (256 + T.2.1))] [] T' H' (uq_171 T H)) := fun T' H' np hx => by
    have hn := np.n
    refine wp_of e171 c171_102 (rw_aload_n (pc' := 103) (v := .ref (256 + T.2.1)) rfl rfl rfl ?_)
    refine wp_of e171 c171_103 (rw_bipush (pc' := 105) (z := 24) rfl (by decide) ?_)
    refine wp_of e171 c171_105 (rw_newa (pc' := 107) (tt := 0) (n := 24) rfl (by decide) (by decide) (by decide) rfl rfl ?_)
    refine wp_of e171 c171_107 (px_R (pc' := 110) (z := ((256 + T'.2.1 : Nat) : Int)) lf_10_54 (by show (if _ = _ then _ else T'.1 _) = _; rw [if_neg (by omega)]; exact np.ob) (by omega) (by decide) rfl (vR_of _) trivial rfl ?_)
    exact G13 _ _ (np.next (i := 12) sh_67 (by decide)) (by rw [wq_u_ne (by omega), wq_gH_ne (by omega)]; exact hx)
  have G11 : (∀ T' H', wNP T H T' H' 11 → H' (256 + T.2.1) 8 = -1 → wp kt 0 171 95 [(0, .ref (256 + T.2.1))] [] T' H' (uq_171 T H)) := fun T' H' np hx => by
    have hn := np.n
    refine wp_of e171 c171_95 (rw_aload_n (pc' := 96) (v := .ref (256 + T.2.1)) rfl rfl rfl ?_)
    refine wp_of e171 c171_96 (rw_iconst (pc' := 97) rfl ?_)
    refine wp_of e171 c171_97 (rw_newa (pc' := 99) (tt := 0) (n := 3) rfl (by decide) (by decide) (by decide) rfl rfl ?_)
    refine wp_of e171 c171_99 (px_R (pc' := 102) (z := ((256 + T'.2.1 : Nat) : Int)) lf_10_51 (by show (if _ = _ then _ else T'.1 _) = _; rw [if_neg (by omega)]; exact np.ob) (by omega) (by decide) rfl (vR_of _) trivial rfl ?_)
    exact G12 _ _ (np.next (i := 11) sh_66 (by decide)) (by rw [wq_u_ne (by omega), wq_gH_ne (by omega)]; exact hx)
  have G10 : (∀ T' H', wNP T H T' H' 10 → H' (256 + T.2.1) 8 = -1 → wp kt 0 171 88 [(0, .ref (256 + T.2.1))] [] T' H' (uq_171 T H)) := fun T' H' np hx => by
    have hn := np.n
    refine wp_of e171 c171_88 (rw_aload_n (pc' := 89) (v := .ref (256 + T.2.1)) rfl rfl rfl ?_)
    refine wp_of e171 c171_89 (rw_iconst (pc' := 90) rfl ?_)
    refine wp_of e171 c171_90 (rw_newa (pc' := 92) (tt := 0) (n := 3) rfl (by decide) (by decide) (by decide) rfl rfl ?_)
    refine wp_of e171 c171_92 (px_R (pc' := 95) (z := ((256 + T'.2.1 : Nat) : Int)) lf_10_48 (by show (if _ = _ then _ else T'.1 _) = _; rw [if_neg (by omega)]; exact np.ob) (by omega) (by decide) rfl (vR_of _) trivial rfl ?_)
    exact G11 _ _ (np.next (i := 10) sh_65 (by decide)) (by rw [wq_u_ne (by omega), wq_gH_ne (by omega)]; exact hx)
  have G9 : (∀ T' H', wNP T H T' H' 9 → H' (256 + T.2.1) 8 = -1 → wp kt 0 171 81 [(0, .ref (256 + T.2.1))] [] T' H' (uq_171 T H)) := fun T' H' np hx => by
    have hn := np.n
    refine wp_of e171 c171_81 (rw_aload_n (pc' := 82) (v := .ref (256 + T.2.1)) rfl rfl rfl ?_)
    refine wp_of e171 c171_82 (rw_iconst (pc' := 83) rfl ?_)
    refine wp_of e171 c171_83 (rw_newa (pc' := 85) (tt := 0) (n := 3) rfl (by decide) (by decide) (by decide) rfl rfl ?_)
    refine wp_of e171 c171_85 (px_R (pc' := 88) (z := ((256 + T'.2.1 : Nat) : Int)) lf_10_45 (by show (if _ = _ then _ else T'.1 _) = _; rw [if_neg (by omega)]; exact np.ob) (by omega) (by decide) rfl (vR_of _) trivial rfl ?_)
    exact G10 _ _ (np.next (i := 9) sh_64 (by decide)) (by rw [wq_u_ne (by omega), wq_gH_ne (by omega)]; exact hx)
  have G8 : (∀ T' H', wNP T H T' H' 8 → H' (256 + T.2.1) 8 = -1 → wp kt 0 171 73 [(0, .ref (256 + T.2.1))] [] T' H' (uq_171 T H)) := fun T' H' np hx => by
    have hn := np.n
    refine wp_of e171 c171_73 (rw_aload_n (pc' := 74) (v := .ref (256 + T.2.1)) rfl rfl rfl ?_)
    refine wp_of e171 c171_74 (rw_bipush (pc' := 76) (z := 6) rfl (by decide) ?_)
    refine wp_of e171 c171_76 (rw_newa (pc' := 78) (tt := 3) (n := 6) rfl (by decide) (by decide) (by decide) rfl rfl ?_)
    refine wp_of e171 c171_78 (px_R (pc' := 81) (z := ((256 + T'.2.1 : Nat) : Int)) lf_10_41 (by show (if _ = _ then _ else T'.1 _) = _; rw [if_neg (by omega)]; exact np.ob) (by omega) (by decide) rfl (vR_of _) trivial rfl ?_)
    exact G9 _ _ (np.next (i := 8) sh_63 (by decide)) (by rw [wq_u_ne (by omega), wq_gH_ne (by omega)]; exact hx)
  have G7 : (∀ T' H', wNP T H T' H' 7 → H' (256 + T.2.1) 8 = -1 → wp kt 0 171 65 [(0, .ref (256 + T.2.1))] [] T' H' (uq_171 T H)) := fun T' H' np hx => by
    have hn := np.n
    refine wp_of e171 c171_65 (rw_aload_n (pc' := 66) (v := .ref (256 + T.2.1)) rfl rfl rfl ?_)
    refine wp_of e171 c171_66 (rw_bipush (pc' := 68) (z := 6) rfl (by decide) ?_)
    refine wp_of e171 c171_68 (rw_newa (pc' := 70) (tt := 0) (n := 6) rfl (by decide) (by decide) (by decide) rfl rfl ?_)
    refine wp_of e171 c171_70 (px_R (pc' := 73) (z := ((256 + T'.2.1 : Nat) : Int)) lf_10_38 (by show (if _ = _ then _ else T'.1 _) = _; rw [if_neg (by omega)]; exact np.ob) (by omega) (by decide) rfl (vR_of _) trivial rfl ?_)
    exact G8 _ _ (np.next (i := 7) sh_62 (by decide)) (by rw [wq_u_ne (by omega), wq_gH_ne (by omega)]; exact hx)
  have G6 : (∀ T' H', wNP T H T' H' 6 → H' (256 + T.2.1) 8 = -1 → wp kt 0 171 57 [(0, .ref (256 + T.2.1))] [] T' H' (uq_171 T H)) := fun T' H' np hx => by
    have hn := np.n
    refine wp_of e171 c171_57 (rw_aload_n (pc' := 58) (v := .ref (256 + T.2.1)) rfl rfl rfl ?_)
    refine wp_of e171 c171_58 (rw_bipush (pc' := 60) (z := 6) rfl (by decide) ?_)
    refine wp_of e171 c171_60 (rw_newa (pc' := 62) (tt := 0) (n := 6) rfl (by decide) (by decide) (by decide) rfl rfl ?_)
    refine wp_of e171 c171_62 (px_R (pc' := 65) (z := ((256 + T'.2.1 : Nat) : Int)) lf_10_35 (by show (if _ = _ then _ else T'.1 _) = _; rw [if_neg (by omega)]; exact np.ob) (by omega) (by decide) rfl (vR_of _) trivial rfl ?_)
    exact G7 _ _ (np.next (i := 6) sh_61 (by decide)) (by rw [wq_u_ne (by omega), wq_gH_ne (by omega)]; exact hx)
  have G5 : (∀ T' H', wNP T H T' H' 5 → H' (256 + T.2.1) 8 = -1 → wp kt 0 171 49 [(0, .ref (256 + T.2.1))] [] T' H' (uq_171 T H)) := fun T' H' np hx => by
    have hn := np.n
    refine wp_of e171 c171_49 (rw_aload_n (pc' := 50) (v := .ref (256 + T.2.1)) rfl rfl rfl ?_)
    refine wp_of e171 c171_50 (rw_bipush (pc' := 52) (z := 6) rfl (by decide) ?_)
    refine wp_of e171 c171_52 (rw_newa (pc' := 54) (tt := 0) (n := 6) rfl (by decide) (by decide) (by decide) rfl rfl ?_)
    refine wp_of e171 c171_54 (px_R (pc' := 57) (z := ((256 + T'.2.1 : Nat) : Int)) lf_10_32 (by show (if _ = _ then _ else T'.1 _) = _; rw [if_neg (by omega)]; exact np.ob) (by omega) (by decide) rfl (vR_of _) trivial rfl ?_)
    exact G6 _ _ (np.next (i := 5) sh_60 (by decide)) (by rw [wq_u_ne (by omega), wq_gH_ne (by omega)]; exact hx)
  have G4 : (∀ T' H', wNP T H T' H' 4 → H' (256 + T.2.1) 8 = -1 → wp kt 0 171 41 [(0, .ref (256 + T.2.1))] [] T' H' (uq_171 T H)) := fun T' H' np hx => by
    have hn := np.n
    refine wp_of e171 c171_41 (rw_aload_n (pc' := 42) (v := .ref (256 + T.2.1)) rfl rfl rfl ?_)
    refine wp_of e171 c171_42 (rw_bipush (pc' := 44) (z := 6) rfl (by decide) ?_)
    refine wp_of e171 c171_44 (rw_newa (pc' := 46) (tt := 0) (n := 6) rfl (by decide) (by decide) (by decide) rfl rfl ?_)
    refine wp_of e171 c171_46 (px_R (pc' := 49) (z := ((256 + T'.2.1 : Nat) : Int)) lf_10_29 (by show (if _ = _ then _ else T'.1 _) = _; rw [if_neg (by omega)]; exact np.ob) (by omega) (by decide) rfl (vR_of _) trivial rfl ?_)
    exact G5 _ _ (np.next (i := 4) sh_59 (by decide)) (by rw [wq_u_ne (by omega), wq_gH_ne (by omega)]; exact hx)
  have G3 : (∀ T' H', wNP T H T' H' 3 → H' (256 + T.2.1) 8 = -1 → wp kt 0 171 33 [(0, .ref (256 + T.2.1))] [] T' H' (uq_171 T H)) := fun T' H' np hx => by
    have hn := np.n
    refine wp_of e171 c171_33 (rw_aload_n (pc' := 34) (v := .ref (256 + T.2.1)) rfl rfl rfl ?_)
    refine wp_of e171 c171_34 (rw_bipush (pc' := 36) (z := 6) rfl (by decide) ?_)
    refine wp_of e171 c171_36 (rw_newa (pc' := 38) (tt := 0) (n := 6) rfl (by decide) (by decide) (by decide) rfl rfl ?_)
    refine wp_of e171 c171_38 (px_R (pc' := 41) (z := ((256 + T'.2.1 : Nat) : Int)) lf_10_26 (by show (if _ = _ then _ else T'.1 _) = _; rw [if_neg (by omega)]; exact np.ob) (by omega) (by decide) rfl (vR_of _) trivial rfl ?_)
    exact G4 _ _ (np.next (i := 3) sh_58 (by decide)) (by rw [wq_u_ne (by omega), wq_gH_ne (by omega)]; exact hx)
  have G2 : (∀ T' H', wNP T H T' H' 2 → H' (256 + T.2.1) 8 = -1 → wp kt 0 171 25 [(0, .ref (256 + T.2.1))] [] T' H' (uq_171 T H)) := fun T' H' np hx => by
    have hn := np.n
    refine wp_of e171 c171_25 (rw_aload_n (pc' := 26) (v := .ref (256 + T.2.1)) rfl rfl rfl ?_)
    refine wp_of e171 c171_26 (rw_bipush (pc' := 28) (z := 6) rfl (by decide) ?_)
    refine wp_of e171 c171_28 (rw_newa (pc' := 30) (tt := 0) (n := 6) rfl (by decide) (by decide) (by decide) rfl rfl ?_)
    refine wp_of e171 c171_30 (px_R (pc' := 33) (z := ((256 + T'.2.1 : Nat) : Int)) lf_10_23 (by show (if _ = _ then _ else T'.1 _) = _; rw [if_neg (by omega)]; exact np.ob) (by omega) (by decide) rfl (vR_of _) trivial rfl ?_)
    exact G3 _ _ (np.next (i := 2) sh_57 (by decide)) (by rw [wq_u_ne (by omega), wq_gH_ne (by omega)]; exact hx)
  have G1 : (∀ T' H', wNP T H T' H' 1 → H' (256 + T.2.1) 8 = -1 → wp kt 0 171 17 [(0, .ref (256 + T.2.1))] [] T' H' (uq_171 T H)) := fun T' H' np hx => by
    have hn := np.n
    refine wp_of e171 c171_17 (rw_aload_n (pc' := 18) (v := .ref (256 + T.2.1)) rfl rfl rfl ?_)
    refine wp_of e171 c171_18 (rw_bipush (pc' := 20) (z := 6) rfl (by decide) ?_)
    refine wp_of e171 c171_20 (rw_newa (pc' := 22) (tt := 0) (n := 6) rfl (by decide) (by decide) (by decide) rfl rfl ?_)
    refine wp_of e171 c171_22 (px_R (pc' := 25) (z := ((256 + T'.2.1 : Nat) : Int)) lf_10_19 (by show (if _ = _ then _ else T'.1 _) = _; rw [if_neg (by omega)]; exact np.ob) (by omega) (by decide) rfl (vR_of _) trivial rfl ?_)
    exact G2 _ _ (np.next (i := 1) sh_56 (by decide)) (by rw [wq_u_ne (by omega), wq_gH_ne (by omega)]; exact hx)
  have G0 : (∀ T' H', wNP T H T' H' 0 → H' (256 + T.2.1) 8 = -1 → wp kt 0 171 9 [(0, .ref (256 + T.2.1))] [] T' H' (uq_171 T H)) := fun T' H' np hx => by
    have hn := np.n
    refine wp_of e171 c171_9 (rw_aload_n (pc' := 10) (v := .ref (256 + T.2.1)) rfl rfl rfl ?_)
    refine wp_of e171 c171_10 (rw_bipush (pc' := 12) (z := 6) rfl (by decide) ?_)
    refine wp_of e171 c171_12 (rw_newa (pc' := 14) (tt := 1) (n := 6) rfl (by decide) (by decide) (by decide) rfl rfl ?_)
    refine wp_of e171 c171_14 (px_R (pc' := 17) (z := ((256 + T'.2.1 : Nat) : Int)) lf_10_15 (by show (if _ = _ then _ else T'.1 _) = _; rw [if_neg (by omega)]; exact np.ob) (by omega) (by decide) rfl (vR_of _) trivial rfl ?_)
    exact G1 _ _ (np.next (i := 0) sh_55 (by decide)) (by rw [wq_u_ne (by omega), wq_gH_ne (by omega)]; exact hx)
  refine wp_of e171 c171_0 (rw_aload_n (pc' := 1) (v := .ref (256 + T.2.1)) rfl rfl rfl ?_)
  refine wp_of e171 c171_1 (rw_obj (pc' := 4) (e := _) rfl rfl (Nat.le_of_ble_eq_true rfl) rfl ?_)
  refine wp_of e171 c171_4 (rw_aload_n (pc' := 5) (v := .ref (256 + T.2.1)) rfl rfl rfl ?_)
  refine wp_of e171 c171_5 (rw_iconst (pc' := 6) rfl ?_)
  refine wp_of e171 c171_6 (px_R (pc' := 9) (z := -1) lf_10_9 (if_pos rfl) (by omega) (by decide) rfl rfl ⟨by decide, by decide⟩ rfl ?_)
  exact G0 _ _ wNP.zero.num (by rw [wq_u_eq])
