/-! WHAT IS ASKED OF SPANS (own work): the state between calls, seen from a method; over more cells -/
section MORE6

variable {T T' : wq_T} {H H' : wq_H} {m b k mp r s i S tg : Nat} {e d : xD} {v v' n z : Int} {k' : Nat} {C : Nat → Bool} {x p : Nat} {P : List (Int × Int)} {g : Nat → Int × Int → Int}
theorem RB_n3 (h : RB T H m e d) : H m 3 = -1 → d 0 3 = 0 ∧ d 0 0 = 0 := fun q => by
  obtain ⟨h1, h2⟩ := RB_nu h q
  subst h2
  exact ⟨rfl, rfl⟩
theorem RB_ar (h : RB T H m e d) (q : H m 3 ≠ -1) : xdP d ∧ H m 19 = xal d ∧ MN20 T H m 24 (e 13) ∧ MN21 T H m (d 0 3) (lln (xsp d)) ∧ LB22 T H m yb (xsq d) ∧ LB23 T H m yl (xsq d) ∧ LB24 T H m (xas d) (xsq d) ∧ LB25 T H m (xwk d) (xsq d) := by
  rcases h with ⟨h1, -⟩ | ⟨mp, h1, h2, ⟨dm, h3, h4⟩, h5⟩
  · exact absurd h1 q
  · exact ⟨by rw [h4]; exact xdP_set h3.2.1, h5⟩
theorem RB_b (hW : WT T H) (h : RB T H m e d) : 0 ≤ d 0 3 ∧ d 0 3 ≤ 6 ∧ 0 ≤ d 0 0 ∧ d 0 0 ≤ 24 := by
  rcases h with ⟨h1, -, h2⟩ | ⟨mp, h1, h2, ⟨dm, ⟨h3, -⟩, h4⟩, h5⟩
  · subst h2
    decide
  · have e0 : H mp 0 = d 0 0 := by rw [h4]; exact h3.1
    have e3 : H mp 3 = d 0 3 := by rw [h4]; exact h3.2.2.2.1
    have b3 : (0 : Int) ≤ H mp 3 ∧ H mp 3 ≤ 6 := hW.box h2 (n := 27) rfl (by decide) rfl
    have b0 : (0 : Int) ≤ H mp 0 ∧ H mp 0 ≤ 24 := hW.box h2 (n := 27) rfl (by decide) rfl
    omega
theorem RB_st (hW : WT T H) (h : RB T H m e d) (ne : H m 3 ≠ -1) (gm : T.2.2.2 m = some 42) (q : H m 20 = (b : Int)) (gb : T.2.2.2 b = some 44) (E : H' = wq_u H b k v) (ek : k = k') (ev : v = v') : RB T H' m (wq_u e 13 k' v') d := by
  subst ek
  subst ev
  have f : wfr [(44, 999)] T H H' := (wfr.rf (l := [(44, 999)])).put' E gb rfl
  rcases h with ⟨h1, -⟩ | ⟨mp, h1, h2, ⟨dm, h3, h4⟩, h5, h6, h7, h8, h9, h10, h11⟩
  · exact absurd h1 ne
  · have w : ∀ j, H' m j = H m j := fun j => wno_f f gm (s := fun _ => true) rfl rfl
    refine Or.inr ⟨mp, (w 3).trans h1, h2, ⟨dm, DMQ_fr hW h2 f rfl h3, h4⟩, (w 19).trans h5, DAo_set h6 q gm gb (by decide) E wq_u_eq (fun j hj => wq_u_e2 (fun c => hj c.2)), DAo_fr gm f rfl h7, LB_fr gm f rfl h8, LB_fr gm f rfl h9, LB_fr gm f rfl h10, LB_fr gm f rfl h11⟩
/-- over more cells -/
theorem DA_mono {c : Int} {f : Nat → Int} (mo : ∀ a t, T.2.2.2 a = some t → T'.2.2.2 a = some t) (h : DA S tg T H r c f) : DA S tg T' H r c f := by
  obtain ⟨b, h1, h2, h3⟩ := h
  exact ⟨b, h1, mo _ _ h2, h3⟩
theorem DC_mono (mo : ∀ a t, T.2.2.2 a = some t → T'.2.2.2 a = some t) (h : DC T H r d) : DC T' H r d := by
  obtain ⟨h1, ⟨h2, h2b⟩, ⟨s, h3, h3b, h3c⟩, ⟨b, h4, h4b, h4c⟩, h5, h6, h7, h8⟩ := h
  refine ⟨h1, ⟨fun k hk => ?_, h2b⟩, ⟨s, h3, mo _ _ h3b, h3c⟩, ⟨b, h4, mo _ _ h4b, h4c⟩, DA_mono mo h5, DA_mono mo h6, DA_mono mo h7, DA_mono mo h8⟩
  obtain ⟨p, h9, h10, h11⟩ := h2 k hk
  exact ⟨p, h9, mo _ _ h10, h11⟩
theorem PS_mono (mo : ∀ a t, T.2.2.2 a = some t → T'.2.2.2 a = some t) (h : PS T H p d k P) : PS T' H p d k P := by
  obtain ⟨h0, h1, h2, h3, h4, h5, h6⟩ := h
  exact ⟨h0, DA_mono mo h1, DA_mono mo h2, DA_mono mo h3, DA_mono mo h4, DA_mono mo h5, DA_mono mo h6⟩
theorem CU_mono (mo : ∀ a t, T.2.2.2 a = some t → T'.2.2.2 a = some t) (h : CU T H r e d n) : CU T' H r e d n := by
  obtain ⟨h1, ⟨h2, h3⟩, h4⟩ := h
  refine ⟨DC_mono mo h1, ⟨h2, fun k a b => ?_⟩, h4⟩
  obtain ⟨p, q1, q2, q3, q4⟩ := h3 k a b
  exact ⟨p, q1, mo _ _ q2, PS_mono mo q3, q4⟩
theorem SP_mono (rv : ∀ a t, T'.2.2.2 a = some t → T.2.2.2 a = some t ∨ 54 ≤ t) (h : SP T H x C) : SP T' H x C := fun a t j ht hj => by
  rcases rv a t ht with h1 | h1
  · exact h a t j h1 hj
  · omega
theorem xset_z {h : Nat} (h1 : d 0 0 ≤ (h : Int)) (h2 : h < 24) : xset d 13 h = 0 := by
  rw [xset_13]
  unfold xcu
  exact if_pos ⟨h1, by omega⟩
theorem CY_0 : CY T H r 0 (fun _ => 0) (H r 17) := ⟨fun k hk => by omega, rfl⟩
end MORE6
