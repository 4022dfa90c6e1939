/-! what each pool entry names (own work, wip/gen2/links.py) -/
abbrev wlf (own idx c j : Nat) (b : Bool) : Prop := ∃ e, mc_find (mc_fl.getD own []) idx = some e ∧ (e.1 = c ∧ e.2.1 = j) ∧ e.2.2.1 = b
section XR

variable {kt : Nat → Option mc_E} {d : Nat} {E : wq_E} {pc pc' : Nat} {L L' : List (Nat × Value)} {st : List Value} {T : wq_T} {H H0 : wq_H} {K : Nat → List (Nat × Value) → List Value → wq_T → wq_H → Prop}

variable {idx c j n t t' a : Nat} {b : Bool} {lo hi p q z : Int}
theorem xg_I (hl : wlf E.1 idx c j b) (hW : WT T H) (g : T.2.2.2 a = some t) (hsh : wsh t = (100 + c, n)) (hc : (!decide (20 ≤ c) && decide (j < mc_N.getD c 0) && decide (j < n)) = true) (h8 : t < 80) (hty : wty t j = (0, lo, hi, 0)) (hk : wq_v (wq_fk c j) (H a j) = vI (H a j)) (hp : pc + 3 = pc') (h : lo ≤ H a j → H a j ≤ hi → K pc' L (vI (H a j) :: st) T H) : wq_s kt d E (.getfield idx) 3 pc L (.ref a :: st) T H K := by
  obtain ⟨e, he, hj, -⟩ := hl
  have hcc := wq_hc (hW.hi g h8) hc
  have hb := hW.box g (n := n) (by rw [hsh]) hcc.2.2 hty
  exact rw_getI he hj (hW.sh g hsh) hcc hk hp (h hb.1 hb.2)
theorem xg_L (hl : wlf E.1 idx c j b) (hW : WT T H) (g : T.2.2.2 a = some t) (hsh : wsh t = (100 + c, n)) (hc : (!decide (20 ≤ c) && decide (j < mc_N.getD c 0) && decide (j < n)) = true) (h8 : t < 80) (hty : wty t j = (0, lo, hi, 0)) (hk : wq_v (wq_fk c j) (H a j) = vL (H a j)) (hp : pc + 3 = pc') (h : lo ≤ H a j → H a j ≤ hi → K pc' L (vL (H a j) :: st) T H) : wq_s kt d E (.getfield idx) 3 pc L (.ref a :: st) T H K := by
  obtain ⟨e, he, hj, -⟩ := hl
  have hcc := wq_hc (hW.hi g h8) hc
  have hb := hW.box g (n := n) (by rw [hsh]) hcc.2.2 hty
  exact rw_getL he hj (hW.sh g hsh) hcc hk hp (h hb.1 hb.2)
theorem xg_R (hl : wlf E.1 idx c j b) (hW : WT T H) (g : T.2.2.2 a = some t) (hsh : wsh t = (100 + c, n)) (hc : (!decide (20 ≤ c) && decide (j < mc_N.getD c 0) && decide (j < n)) = true) (h8 : t < 80) (hty : wty t j = (2, p, q, t')) (hk : wq_v (wq_fk c j) (H a j) = vR (H a j)) (hp : pc + 3 = pc') (h : ∀ r : Nat, H a j = (r : Int) → T.2.2.2 r = some t' → K pc' L (.ref r :: st) T H) : wq_s kt d E (.getfield idx) 3 pc L (.ref a :: st) T H K := by
  obtain ⟨e, he, hj, -⟩ := hl
  have hcc := wq_hc (hW.hi g h8) hc
  obtain ⟨r, h1, h2⟩ := hW.ref g (n := n) (by rw [hsh]) hcc.2.2 hty
  exact rw_getR he hj (hW.sh g hsh) hcc hk h1 hp (h r h1 h2)
theorem xg_O (hl : wlf E.1 idx c j b) (hW : WT T H) (g : T.2.2.2 a = some t) (hsh : wsh t = (100 + c, n)) (hc : (!decide (20 ≤ c) && decide (j < mc_N.getD c 0) && decide (j < n)) = true) (h8 : t < 80) (hty : wty t j = (3, p, q, t')) (hk : wq_v (wq_fk c j) (H a j) = vR (H a j)) (hp : pc + 3 = pc') (h0 : H a j = -1 → K pc' L (.null :: st) T H) (h : ∀ r : Nat, H a j = (r : Int) → T.2.2.2 r = some t' → K pc' L (.ref r :: st) T H) : wq_s kt d E (.getfield idx) 3 pc L (.ref a :: st) T H K := by
  obtain ⟨e, he, hj, -⟩ := hl
  have hcc := wq_hc (hW.hi g h8) hc
  rcases hW.opt g (n := n) (by rw [hsh]) hcc.2.2 hty with h1 | ⟨r, h1, h2⟩
  · exact rw_getN he hj (hW.sh g hsh) hcc hk h1 hp (h0 h1)
  · exact rw_getR he hj (hW.sh g hsh) hcc hk h1 hp (h r h1 h2)
/-- a reference that is known -/
theorem xg_K {r : Nat} (hl : wlf E.1 idx c j b) (hW : WT T H) (g : T.2.2.2 a = some t) (hsh : wsh t = (100 + c, n)) (hc : (!decide (20 ≤ c) && decide (j < mc_N.getD c 0) && decide (j < n)) = true) (h8 : t < 80) (hk : wq_v (wq_fk c j) (H a j) = vR (H a j)) (hr : H a j = (r : Int)) (hp : pc + 3 = pc') (h : K pc' L (.ref r :: st) T H) : wq_s kt d E (.getfield idx) 3 pc L (.ref a :: st) T H K := by
  obtain ⟨e, he, hj, -⟩ := hl
  exact rw_getR he hj (hW.sh g hsh) (wq_hc (hW.hi g h8) hc) hk hr hp h
theorem xp_V {v : Value} (hl : wlf E.1 idx c j b) (hW : WT T H) (g : T.2.2.2 a = some t) (hsh : wsh t = (100 + c, n)) (hc : (decide (c < 11) && decide (j < mc_N.getD c 0) && decide (j < n) && (!(mc_T c j).2.2.2 || (E.2.2.1 && E.1 == c && !b))) = true) (h8 : t < 80) (hf : mc_fit (mc_t c j) v = true) (hv : wq_v (wq_fk c j) z = v) (hz : wq_in (wq_fk c j) z) (hk : wok T (wty t j) z) (hp : pc + 3 = pc') (h : ∀ H', H' = wq_u H a j z → WT T H' → K pc' L st T H') : wq_s kt d E (.putfield idx) 3 pc L (v :: .ref a :: st) T H K := by
  obtain ⟨e, he, hj, hb⟩ := hl
  subst hb
  simp only [Bool.and_eq_true, decide_eq_true_eq] at hc
  obtain ⟨⟨⟨h1, h2⟩, h3⟩, h4⟩ := hc
  exact rw_putf he hj (hW.sh g hsh) (hW.hi g h8) ⟨decide_eq_true h1, decide_eq_true h2, h3, h4⟩ hf hv hz hp (h _ rfl (hW.put g hk))
theorem xp_I (hl : wlf E.1 idx c j b) (hW : WT T H) (g : T.2.2.2 a = some t) (hsh : wsh t = (100 + c, n)) (hc : (decide (c < 11) && decide (j < mc_N.getD c 0) && decide (j < n) && (!(mc_T c j).2.2.2 || (E.2.2.1 && E.1 == c && !b))) = true) (h8 : t < 80) (hty : wty t j = (0, lo, hi, 0)) (hft : mc_t c j = .int) (hfk : wq_fk c j = 0) (h1 : lo ≤ z) (h2 : z ≤ hi) (h3 : wI z) (hp : pc + 3 = pc') (h : ∀ H', H' = wq_u H a j z → WT T H' → K pc' L st T H') : wq_s kt d E (.putfield idx) 3 pc L (vI z :: .ref a :: st) T H K :=
  xp_V hl hW g hsh hc h8 (by rw [hft]; rfl) (by rw [hfk]; rfl) (by rw [hfk]; exact h3) (by rw [hty]; exact ⟨h1, h2⟩) hp h
theorem xp_L (hl : wlf E.1 idx c j b) (hW : WT T H) (g : T.2.2.2 a = some t) (hsh : wsh t = (100 + c, n)) (hc : (decide (c < 11) && decide (j < mc_N.getD c 0) && decide (j < n) && (!(mc_T c j).2.2.2 || (E.2.2.1 && E.1 == c && !b))) = true) (h8 : t < 80) (hty : wty t j = (0, lo, hi, 0)) (hft : mc_t c j = .long) (hfk : wq_fk c j = 1) (h1 : lo ≤ z) (h2 : z ≤ hi) (h3 : wL z) (hp : pc + 3 = pc') (h : ∀ H', H' = wq_u H a j z → WT T H' → K pc' L st T H') : wq_s kt d E (.putfield idx) 3 pc L (vL z :: .ref a :: st) T H K :=
  xp_V hl hW g hsh hc h8 (by rw [hft]; rfl) (by rw [hfk]; rfl) (by rw [hfk]; exact h3) (by rw [hty]; exact ⟨h1, h2⟩) hp h
theorem wok_2 {r : Nat} (hty : wty t j = (2, p, q, t')) (g : T.2.2.2 r = some t') : wok T (wty t j) (r : Int) := by rw [hty]; exact ⟨by omega, by simpa using g⟩
theorem xa_I {so : Nat} (hW : WT T H) (g : T.2.2.2 a = some t) (hsh : wsh t = (0, n)) (hn : n ≤ 2147483648) (hty : wty t z.toNat = (0, lo, hi, 0)) (h0 : 0 ≤ z) (h1 : z < n) (hp : pc + 1 = pc') (h : lo ≤ H a z.toNat → H a z.toNat ≤ hi → K pc' L (vI (H a z.toNat) :: st) T H) : wq_s kt d E .iaload 1 pc L (vI z :: .ref a :: st) T H K := by
  have hb := hW.box g (n := n) (by rw [hsh]) (by omega) hty
  exact rw_iaload (hW.sh g hsh) ⟨by decide, rfl, Bool.or_true _, hn⟩ h0 h1 rfl hp (h hb.1 hb.2)
theorem xa_L (hW : WT T H) (g : T.2.2.2 a = some t) (hsh : wsh t = (1, n)) (hn : n ≤ 2147483648) (hty : wty t z.toNat = (0, lo, hi, 0)) (h0 : 0 ≤ z) (h1 : z < n) (hp : pc + 1 = pc') (h : lo ≤ H a z.toNat → H a z.toNat ≤ hi → K pc' L (vL (H a z.toNat) :: st) T H) : wq_s kt d E .laload 1 pc L (vI z :: .ref a :: st) T H K := by
  have hb := hW.box g (n := n) (by rw [hsh]) (by omega) hty
  exact rw_laload (hW.sh g hsh) ⟨by decide, rfl, Bool.or_true _, hn⟩ h0 h1 rfl hp (h hb.1 hb.2)
theorem xa_B {so : Nat} (hso : so = 2 ∨ so = 3) (hW : WT T H) (g : T.2.2.2 a = some t) (hsh : wsh t = (so, n)) (hn : n ≤ 2147483648) (hty : wty t z.toNat = (0, lo, hi, 0)) (h0 : 0 ≤ z) (h1 : z < n) (hp : pc + 1 = pc') (h : lo ≤ H a z.toNat → H a z.toNat ≤ hi → K pc' L (vI (H a z.toNat) :: st) T H) : wq_s kt d E .baload 1 pc L (vI z :: .ref a :: st) T H K := by
  have hb := hW.box g (n := n) (by rw [hsh]) (by omega) hty
  rcases hso with rfl | rfl
  · exact rw_baload (hW.sh g hsh) ⟨by decide, rfl, Bool.or_true _, hn⟩ h0 h1 rfl hp (h hb.1 hb.2)
  · exact rw_baload (hW.sh g hsh) ⟨by decide, rfl, Bool.or_true _, hn⟩ h0 h1 rfl hp (h hb.1 hb.2)
theorem xa_R {so : Nat} (hso : so = 4 ∨ so = 5 ∨ so = 6) (hW : WT T H) (g : T.2.2.2 a = some t) (hsh : wsh t = (so, n)) (hn : n ≤ 2147483648) (hty : wty t z.toNat = (2, p, q, t')) (h0 : 0 ≤ z) (h1 : z < n) (hp : pc + 1 = pc') (h : ∀ r : Nat, H a z.toNat = (r : Int) → T.2.2.2 r = some t' → K pc' L (.ref r :: st) T H) : wq_s kt d E .aaload 1 pc L (vI z :: .ref a :: st) T H K := by
  obtain ⟨r, h2, h3⟩ := hW.ref g (n := n) (by rw [hsh]) (by omega) hty
  rcases hso with rfl | rfl | rfl
  · exact rw_aaload (hW.sh g hsh) ⟨by decide, rfl, Bool.or_true _, hn⟩ h0 h1 rfl h2 hp (h r h2 h3)
  · exact rw_aaload (hW.sh g hsh) ⟨by decide, rfl, Bool.or_true _, hn⟩ h0 h1 rfl h2 hp (h r h2 h3)
  · exact rw_aaload (hW.sh g hsh) ⟨by decide, rfl, Bool.or_true _, hn⟩ h0 h1 rfl h2 hp (h r h2 h3)
theorem xs_L {y : Int} (hW : WT T H) (g : T.2.2.2 a = some t) (h8 : t < 80) (hsh : wsh t = (1, n)) (hn : n ≤ 2147483648) (hty : wty t z.toNat = (0, lo, hi, 0)) (h2 : lo ≤ y) (h3 : y ≤ hi) (h4 : wL y) (h0 : 0 ≤ z) (h1 : z < n) (hp : pc + 1 = pc') (h : ∀ H', H' = wq_u H a z.toNat y → WT T H' → K pc' L st T H') : wq_s kt d E .lastore 1 pc L (vL y :: vI z :: .ref a :: st) T H K :=
  rw_lastore (hW.sh g hsh) (hW.hi g h8) hn h4 h0 h1 hp (h _ rfl (hW.putB g hty h2 h3))
theorem xc_V {k2 np r D : Nat} {as : List Value} {st0 : List Value} {Q' : Option Value → wq_T → wq_H → Prop} (hm : wq_ml E.1 idx = some (k2, np, 1, c)) (hst : st0 = as.reverse ++ .ref r :: st) (hal : as.length = np) (hcat : ((st.map Value.category).sum ≤ 8)) (hW : WT T H) (g : T.2.2.2 r = some t) (hsh : wsh t = (100 + c, n)) (h8 : t < 80) (hp : pc + 3 = pc') (hD : D ≤ d) (hs : wpc kt D k2 (.ref r :: as) T H Q') (h : ∀ r T' H', Q' r T' H' → K pc' L (mc_rs r ++ st) T' H') : wq_s kt d E (.invokevirtual idx) 3 pc L st0 T H K :=
  rw_calV hm hst hal hcat (hW.hi g h8) (hW.sh g hsh) hp ((hs.imp h).deep hD)
theorem xc_S {k2 np D : Nat} {as : List Value} {st0 : List Value} {Q' : Option Value → wq_T → wq_H → Prop} (hm : wq_ml E.1 idx = some (k2, np, 0, c)) (hst : st0 = as.reverse ++ st) (hal : as.length = np) (hcat : ((st.map Value.category).sum ≤ 8)) (hp : pc + 3 = pc') (hD : D ≤ d) (hs : wpc kt D k2 as T H Q') (h : ∀ r T' H', Q' r T' H' → K pc' L (mc_rs r ++ st) T' H') : wq_s kt d E (.invokestatic idx) 3 pc L st0 T H K :=
  rw_calS hm hst hal hcat hp ((hs.imp h).deep hD)
theorem wfr.put' {l : List (Nat × Nat)} {H2 : wq_H} (h : wfr l T H0 H) (e : H2 = wq_u H a j z) (ht : T.2.2.2 a = some t) (hm : wmem l t j = true) : wfr l T H0 H2 := by rw [e]; exact h.put ht hm
theorem wq_u_s {H2 : wq_H} (e : H2 = wq_u H a j z) : H2 a j = z := by rw [e]; exact wq_u_eq
theorem wq_u_j {H2 : wq_H} {a' j' : Nat} (e : H2 = wq_u H a j z) (h : (j' == j) = false) : H2 a' j' = H a' j' := by
  rw [e]
  refine wq_u_ne (fun q => ?_)
  rw [q.2] at h
  simp at h
theorem wq_u_t {H2 : wq_H} {a' s : Nat} (e : H2 = wq_u H a j z) (g : T.2.2.2 a = some t) (g' : T.2.2.2 a' = some s) (h : (s == t) = false) (j' : Nat) : H2 a' j' = H a' j' := by
  rw [e]
  exact wq_u_na (wtag_ne g' g h) j'
end XR
theorem lf_0_177 : wlf 0 177 4 5 false := ⟨_, rfl, ⟨rfl, rfl⟩, rfl⟩
theorem lf_0_339 : wlf 0 339 7 7 false := ⟨_, rfl, ⟨rfl, rfl⟩, rfl⟩
theorem lf_0_96 : wlf 0 96 7 10 false := ⟨_, rfl, ⟨rfl, rfl⟩, rfl⟩
theorem lf_0_327 : wlf 0 327 7 11 false := ⟨_, rfl, ⟨rfl, rfl⟩, rfl⟩
theorem lf_0_330 : wlf 0 330 7 12 false := ⟨_, rfl, ⟨rfl, rfl⟩, rfl⟩
theorem lf_0_333 : wlf 0 333 7 13 false := ⟨_, rfl, ⟨rfl, rfl⟩, rfl⟩
theorem lf_0_336 : wlf 0 336 7 14 false := ⟨_, rfl, ⟨rfl, rfl⟩, rfl⟩
theorem lf_0_342 : wlf 0 342 7 15 false := ⟨_, rfl, ⟨rfl, rfl⟩, rfl⟩
theorem lf_0_295 : wlf 0 295 7 16 false := ⟨_, rfl, ⟨rfl, rfl⟩, rfl⟩
theorem lf_0_298 : wlf 0 298 7 17 false := ⟨_, rfl, ⟨rfl, rfl⟩, rfl⟩
theorem lf_0_141 : wlf 0 141 7 18 false := ⟨_, rfl, ⟨rfl, rfl⟩, rfl⟩
theorem lf_0_23 : wlf 0 23 0 2 false := ⟨_, rfl, ⟨rfl, rfl⟩, rfl⟩
theorem lf_0_30 : wlf 0 30 0 3 false := ⟨_, rfl, ⟨rfl, rfl⟩, rfl⟩
theorem lf_0_44 : wlf 0 44 0 5 false := ⟨_, rfl, ⟨rfl, rfl⟩, rfl⟩
theorem lf_0_51 : wlf 0 51 0 6 false := ⟨_, rfl, ⟨rfl, rfl⟩, rfl⟩
theorem lf_0_58 : wlf 0 58 0 8 false := ⟨_, rfl, ⟨rfl, rfl⟩, rfl⟩
theorem lf_0_62 : wlf 0 62 0 9 false := ⟨_, rfl, ⟨rfl, rfl⟩, rfl⟩
theorem lf_0_102 : wlf 0 102 0 10 false := ⟨_, rfl, ⟨rfl, rfl⟩, rfl⟩
theorem lf_2_7 : wlf 2 7 2 0 false := ⟨_, rfl, ⟨rfl, rfl⟩, rfl⟩
theorem lf_2_19 : wlf 2 19 2 1 false := ⟨_, rfl, ⟨rfl, rfl⟩, rfl⟩
theorem lf_2_23 : wlf 2 23 2 2 false := ⟨_, rfl, ⟨rfl, rfl⟩, rfl⟩
theorem lf_2_41 : wlf 2 41 2 3 false := ⟨_, rfl, ⟨rfl, rfl⟩, rfl⟩
theorem lf_2_29 : wlf 2 29 2 4 false := ⟨_, rfl, ⟨rfl, rfl⟩, rfl⟩
theorem lf_2_38 : wlf 2 38 2 5 false := ⟨_, rfl, ⟨rfl, rfl⟩, rfl⟩
theorem lf_2_32 : wlf 2 32 2 6 false := ⟨_, rfl, ⟨rfl, rfl⟩, rfl⟩
theorem lf_3_22 : wlf 3 22 3 3 false := ⟨_, rfl, ⟨rfl, rfl⟩, rfl⟩
theorem lf_3_51 : wlf 3 51 3 5 false := ⟨_, rfl, ⟨rfl, rfl⟩, rfl⟩
theorem lf_4_17 : wlf 4 17 4 1 false := ⟨_, rfl, ⟨rfl, rfl⟩, rfl⟩
theorem lf_4_138 : wlf 4 138 8 2 false := ⟨_, rfl, ⟨rfl, rfl⟩, rfl⟩
theorem lf_4_116 : wlf 4 116 8 15 false := ⟨_, rfl, ⟨rfl, rfl⟩, rfl⟩
theorem lf_4_78 : wlf 4 78 7 0 false := ⟨_, rfl, ⟨rfl, rfl⟩, rfl⟩
theorem lf_4_144 : wlf 4 144 7 4 false := ⟨_, rfl, ⟨rfl, rfl⟩, rfl⟩
theorem lf_4_147 : wlf 4 147 7 5 false := ⟨_, rfl, ⟨rfl, rfl⟩, rfl⟩
theorem lf_4_45 : wlf 4 45 7 18 false := ⟨_, rfl, ⟨rfl, rfl⟩, rfl⟩
theorem lf_6_9 : wlf 6 9 6 0 false := ⟨_, rfl, ⟨rfl, rfl⟩, rfl⟩
theorem lf_6_68 : wlf 6 68 6 1 false := ⟨_, rfl, ⟨rfl, rfl⟩, rfl⟩
theorem lf_6_81 : wlf 6 81 6 2 false := ⟨_, rfl, ⟨rfl, rfl⟩, rfl⟩
theorem lf_6_38 : wlf 6 38 8 2 false := ⟨_, rfl, ⟨rfl, rfl⟩, rfl⟩
theorem lf_6_15 : wlf 6 15 7 0 false := ⟨_, rfl, ⟨rfl, rfl⟩, rfl⟩
theorem lf_6_91 : wlf 6 91 7 2 false := ⟨_, rfl, ⟨rfl, rfl⟩, rfl⟩
theorem lf_6_21 : wlf 6 21 7 4 false := ⟨_, rfl, ⟨rfl, rfl⟩, rfl⟩
theorem lf_6_25 : wlf 6 25 7 5 false := ⟨_, rfl, ⟨rfl, rfl⟩, rfl⟩
theorem lf_6_113 : wlf 6 113 7 9 false := ⟨_, rfl, ⟨rfl, rfl⟩, rfl⟩
theorem lf_6_88 : wlf 6 88 7 16 false := ⟨_, rfl, ⟨rfl, rfl⟩, rfl⟩
theorem lf_6_34 : wlf 6 34 7 18 false := ⟨_, rfl, ⟨rfl, rfl⟩, rfl⟩
theorem lf_9_48 : wlf 9 48 9 0 false := ⟨_, rfl, ⟨rfl, rfl⟩, rfl⟩
theorem lf_9_337 : wlf 9 337 9 3 false := ⟨_, rfl, ⟨rfl, rfl⟩, rfl⟩
theorem lf_9_330 : wlf 9 330 9 6 false := ⟨_, rfl, ⟨rfl, rfl⟩, rfl⟩
theorem lf_9_78 : wlf 9 78 9 8 false := ⟨_, rfl, ⟨rfl, rfl⟩, rfl⟩
theorem lf_9_75 : wlf 9 75 9 9 false := ⟨_, rfl, ⟨rfl, rfl⟩, rfl⟩
theorem lf_9_84 : wlf 9 84 9 10 false := ⟨_, rfl, ⟨rfl, rfl⟩, rfl⟩
theorem lf_9_87 : wlf 9 87 9 11 false := ⟨_, rfl, ⟨rfl, rfl⟩, rfl⟩
theorem lf_9_101 : wlf 9 101 9 12 false := ⟨_, rfl, ⟨rfl, rfl⟩, rfl⟩
theorem lf_9_94 : wlf 9 94 9 15 false := ⟨_, rfl, ⟨rfl, rfl⟩, rfl⟩
theorem lf_9_343 : wlf 9 343 9 19 false := ⟨_, rfl, ⟨rfl, rfl⟩, rfl⟩
theorem lf_9_21 : wlf 9 21 9 21 false := ⟨_, rfl, ⟨rfl, rfl⟩, rfl⟩
theorem lf_9_30 : wlf 9 30 9 24 false := ⟨_, rfl, ⟨rfl, rfl⟩, rfl⟩
theorem lf_9_36 : wlf 9 36 9 26 false := ⟨_, rfl, ⟨rfl, rfl⟩, rfl⟩
theorem lf_9_39 : wlf 9 39 9 27 false := ⟨_, rfl, ⟨rfl, rfl⟩, rfl⟩
theorem lf_9_422 : wlf 9 422 9 29 false := ⟨_, rfl, ⟨rfl, rfl⟩, rfl⟩
theorem lf_9_42 : wlf 9 42 9 30 false := ⟨_, rfl, ⟨rfl, rfl⟩, rfl⟩
theorem lf_9_340 : wlf 9 340 9 32 false := ⟨_, rfl, ⟨rfl, rfl⟩, rfl⟩
theorem lf_9_185 : wlf 9 185 10 0 true := ⟨_, rfl, ⟨rfl, rfl⟩, rfl⟩
theorem lf_9_188 : wlf 9 188 10 3 true := ⟨_, rfl, ⟨rfl, rfl⟩, rfl⟩
theorem lf_9_276 : wlf 9 276 10 4 true := ⟨_, rfl, ⟨rfl, rfl⟩, rfl⟩
theorem lf_9_288 : wlf 9 288 10 5 true := ⟨_, rfl, ⟨rfl, rfl⟩, rfl⟩
theorem lf_9_306 : wlf 9 306 10 6 true := ⟨_, rfl, ⟨rfl, rfl⟩, rfl⟩
theorem lf_9_321 : wlf 9 321 10 7 true := ⟨_, rfl, ⟨rfl, rfl⟩, rfl⟩
theorem lf_9_271 : wlf 9 271 10 8 true := ⟨_, rfl, ⟨rfl, rfl⟩, rfl⟩
theorem lf_9_312 : wlf 9 312 10 22 true := ⟨_, rfl, ⟨rfl, rfl⟩, rfl⟩
theorem lf_9_315 : wlf 9 315 10 23 true := ⟨_, rfl, ⟨rfl, rfl⟩, rfl⟩
theorem lm_0_70 : wq_ml 0 70 = some (12, 1, 1, 0) := by decide +kernel
theorem lm_0_99 : wq_ml 0 99 = some (51, 1, 1, 0) := by decide +kernel
theorem lm_0_174 : wq_ml 0 174 = some (83, 1, 1, 0) := by decide +kernel
theorem lm_0_245 : wq_ml 0 245 = some (84, 1, 1, 0) := by decide +kernel
theorem lm_0_254 : wq_ml 0 254 = some (85, 2, 1, 4) := by decide +kernel
theorem lm_0_238 : wq_ml 0 238 = some (133, 1, 1, 0) := by decide +kernel
theorem lm_0_241 : wq_ml 0 241 = some (134, 2, 1, 4) := by decide +kernel
theorem lm_0_248 : wq_ml 0 248 = some (136, 3, 1, 6) := by decide +kernel
theorem lm_0_258 : wq_ml 0 258 = some (138, 2, 1, 6) := by decide +kernel
theorem lm_0_271 : wq_ml 0 271 = some (87, 1, 1, 3) := by decide +kernel
theorem lm_0_275 : wq_ml 0 275 = some (80, 0, 1, 3) := by decide +kernel
theorem lm_0_278 : wq_ml 0 278 = some (148, 1, 1, 3) := by decide +kernel
theorem lm_0_281 : wq_ml 0 281 = some (91, 1, 1, 3) := by decide +kernel
theorem lm_0_301 : wq_ml 0 301 = some (124, 2, 1, 4) := by decide +kernel
theorem lm_0_305 : wq_ml 0 305 = some (160, 0, 1, 7) := by decide +kernel
theorem lm_3_88 : wq_ml 3 88 = some (45, 0, 1, 7) := by decide +kernel
theorem lm_4_113 : wq_ml 4 113 = some (95, 1, 1, 4) := by decide +kernel
theorem lm_6_28 : wq_ml 6 28 = some (87, 1, 1, 3) := by decide +kernel
theorem lm_6_43 : wq_ml 6 43 = some (89, 1, 1, 3) := by decide +kernel
theorem lm_6_47 : wq_ml 6 47 = some (80, 0, 1, 3) := by decide +kernel
theorem lm_6_51 : wq_ml 6 51 = some (81, 1, 1, 3) := by decide +kernel
theorem lm_6_61 : wq_ml 6 61 = some (91, 1, 1, 3) := by decide +kernel
theorem lm_6_64 : wq_ml 6 64 = some (139, 2, 1, 6) := by decide +kernel
theorem lm_6_84 : wq_ml 6 84 = some (140, 2, 0, 6) := by decide +kernel
theorem lm_6_94 : wq_ml 6 94 = some (72, 1, 1, 3) := by decide +kernel
theorem lm_6_97 : wq_ml 6 97 = some (76, 2, 1, 7) := by decide +kernel
theorem lm_6_72 : wq_ml 6 72 = some (141, 1, 1, 6) := by decide +kernel
theorem lm_6_100 : wq_ml 6 100 = some (142, 2, 1, 6) := by decide +kernel
theorem lm_6_104 : wq_ml 6 104 = some (143, 3, 0, 6) := by decide +kernel
theorem lm_6_108 : wq_ml 6 108 = some (126, 1, 0, 15) := by decide +kernel
theorem lm_6_75 : wq_ml 6 75 = some (144, 1, 1, 6) := by decide +kernel
theorem lm_6_78 : wq_ml 6 78 = some (145, 1, 1, 6) := by decide +kernel
theorem lm_9_54 : wq_ml 9 54 = some (170, 1, 1, 9) := by decide +kernel
theorem lm_9_81 : wq_ml 9 81 = some (173, 1, 1, 9) := by decide +kernel
theorem lm_9_90 : wq_ml 9 90 = some (174, 1, 0, 9) := by decide +kernel
theorem lm_9_98 : wq_ml 9 98 = some (175, 1, 0, 9) := by decide +kernel
theorem lm_9_125 : wq_ml 9 125 = some (186, 3, 0, 9) := by decide +kernel
theorem lm_9_346 : wq_ml 9 346 = some (205, 2, 0, 9) := by decide +kernel
theorem lm_9_357 : wq_ml 9 357 = some (207, 0, 1, 9) := by decide +kernel
theorem lm_9_58 : wq_ml 9 58 = some (209, 1, 1, 9) := by decide +kernel
theorem lm_9_376 : wq_ml 9 376 = some (220, 0, 1, 9) := by decide +kernel
theorem lm_9_380 : wq_ml 9 380 = some (221, 1, 1, 9) := by decide +kernel
theorem lm_9_386 : wq_ml 9 386 = some (228, 2, 1, 9) := by decide +kernel
theorem lm_9_393 : wq_ml 9 393 = some (235, 1, 1, 9) := by decide +kernel
theorem lm_9_397 : wq_ml 9 397 = some (239, 2, 1, 9) := by decide +kernel
theorem lm_9_433 : wq_ml 9 433 = some (241, 1, 1, 9) := by decide +kernel
theorem lm_9_425 : wq_ml 9 425 = some (243, 1, 1, 9) := by decide +kernel
theorem lm_9_462 : wq_ml 9 462 = some (269, 1, 0, 9) := by decide +kernel
theorem lm_9_473 : wq_ml 9 473 = some (273, 1, 1, 9) := by decide +kernel
theorem lm_9_476 : wq_ml 9 476 = some (274, 1, 1, 9) := by decide +kernel
theorem lm_9_481 : wq_ml 9 481 = some (277, 2, 1, 9) := by decide +kernel
theorem lm_9_484 : wq_ml 9 484 = some (278, 1, 1, 9) := by decide +kernel
theorem sh_1 : wsh 1 = (100 + 0, 13) := rfl
theorem ty_1_8 : wty 1 8 = (0, 0, 1, 0) := rfl
theorem ty_1_9 : wty 1 9 = (0, 0, 900, 0) := rfl
theorem ty_1_10 : wty 1 10 = (0, -2147483648, 2147483647, 0) := rfl
theorem sh_2 : wsh 2 = (2, 900) := rfl
theorem ty_2 (j : Nat) : wty 2 j = (0, -128, 127, 0) := rfl
theorem sh_4 : wsh 4 = (100 + 2, 7) := rfl
theorem ty_4_1 : wty 4 1 = (0, 0, 900, 0) := rfl
theorem ty_4_2 : wty 4 2 = (0, 0, 900, 0) := rfl
theorem ty_4_3 : wty 4 3 = (0, 0, 5, 0) := rfl
theorem ty_4_4 : wty 4 4 = (0, 0, 900, 0) := rfl
theorem ty_4_5 : wty 4 5 = (0, -2147483648, 2147483647, 0) := rfl
theorem ty_4_6 : wty 4 6 = (0, -9223372036854775808, 9223372036854775807, 0) := rfl
theorem sh_6 : wsh 6 = (100 + 3, 6) := rfl
theorem ty_6_3 : wty 6 3 = (2, 0, 0, 10) := rfl
theorem ty_6_5 : wty 6 5 = (0, 0, 6, 0) := rfl
theorem sh_10 : wsh 10 = (0, 7) := rfl
theorem ty_10 (j : Nat) : wty 10 j = (0, -2147483648, 2147483647, 0) := rfl
theorem sh_12 : wsh 12 = (100 + 4, 10) := rfl
theorem ty_12_1 : wty 12 1 = (2, 0, 0, 14) := rfl
theorem ty_12_5 : wty 12 5 = (0, -2147483648, 2147483647, 0) := rfl
theorem sh_14 : wsh 14 = (5, 6) := rfl
theorem ty_14 (j : Nat) : wty 14 j = (2, 0, 0, 15) := rfl
theorem sh_15 : wsh 15 = (0, 40) := rfl
theorem ty_15 (j : Nat) : wty 15 j = (0, -2147483648, 2147483647, 0) := rfl
theorem sh_25 : wsh 25 = (100 + 6, 3) := rfl
theorem ty_25_0 : wty 25 0 = (2, 0, 0, 26) := rfl
theorem ty_25_1 : wty 25 1 = (0, 0, 5000, 0) := rfl
theorem ty_25_2 : wty 25 2 = (0, 0, 4999, 0) := rfl
theorem sh_26 : wsh 26 = (1, 5000) := rfl
theorem ty_26 (j : Nat) : wty 26 j = (0, -9223372036854775808, 9223372036854775807, 0) := rfl
theorem sh_27 : wsh 27 = (100 + 7, 19) := rfl
theorem ty_27_0 : wty 27 0 = (2, 0, 0, 28) := rfl
theorem ty_27_2 : wty 27 2 = (2, 0, 0, 30) := rfl
theorem ty_27_4 : wty 27 4 = (2, 0, 0, 32) := rfl
theorem ty_27_5 : wty 27 5 = (2, 0, 0, 33) := rfl
theorem ty_27_7 : wty 27 7 = (0, 0, 24, 0) := rfl
theorem ty_27_9 : wty 27 9 = (0, -2147483648, 2147483647, 0) := rfl
theorem ty_27_10 : wty 27 10 = (0, 0, 6, 0) := rfl
theorem ty_27_11 : wty 27 11 = (0, -2147483648, 2147483647, 0) := rfl
theorem ty_27_12 : wty 27 12 = (0, 0, 3, 0) := rfl
theorem ty_27_13 : wty 27 13 = (0, 0, 4, 0) := rfl
theorem ty_27_14 : wty 27 14 = (0, 0, 6, 0) := rfl
theorem ty_27_15 : wty 27 15 = (0, -2147483648, 2147483647, 0) := rfl
theorem ty_27_16 : wty 27 16 = (0, 0, 24, 0) := rfl
theorem ty_27_17 : wty 27 17 = (0, 0, 2147483647, 0) := rfl
theorem ty_27_18 : wty 27 18 = (0, -9223372036854775808, 9223372036854775807, 0) := rfl
theorem sh_28 : wsh 28 = (4, 6) := rfl
theorem ty_28 (j : Nat) : wty 28 j = (2, 0, 0, 35) := rfl
theorem sh_30 : wsh 30 = (0, 24) := rfl
theorem ty_30 (j : Nat) : wty 30 j = (0, 0, 23, 0) := rfl
theorem sh_32 : wsh 32 = (0, 4) := rfl
theorem ty_32 (j : Nat) : wty 32 j = (0, 0, 5, 0) := rfl
theorem sh_33 : wsh 33 = (0, 4) := rfl
theorem ty_33 (j : Nat) : wty 33 j = (0, -2147483648, 2147483647, 0) := rfl
theorem sh_35 : wsh 35 = (100 + 8, 18) := rfl
theorem ty_35_2 : wty 35 2 = (2, 0, 0, 38) := rfl
theorem ty_35_15 : wty 35 15 = (0, 0, 40, 0) := rfl
theorem sh_38 : wsh 38 = (0, 40) := rfl
theorem ty_38 (j : Nat) : wty 38 j = (0, -2147483648, 2147483647, 0) := rfl
theorem sh_42 : wsh 42 = (100 + 9, 33) := rfl
theorem ty_42_0 : wty 42 0 = (0, -2147483648, 2147483647, 0) := rfl
theorem ty_42_3 : wty 42 3 = (3, 0, 0, 54) := rfl
theorem ty_42_6 : wty 42 6 = (0, 0, 900, 0) := rfl
theorem ty_42_8 : wty 42 8 = (0, 0, 900, 0) := rfl
theorem ty_42_9 : wty 42 9 = (0, 0, 5, 0) := rfl
theorem ty_42_10 : wty 42 10 = (0, -2147483648, 2147483647, 0) := rfl
theorem ty_42_11 : wty 42 11 = (0, -2147483648, 2147483647, 0) := rfl
theorem ty_42_12 : wty 42 12 = (0, -2147483648, 2147483647, 0) := rfl
theorem ty_42_15 : wty 42 15 = (0, -9223372036854775808, 9223372036854775807, 0) := rfl
theorem ty_42_19 : wty 42 19 = (0, -2147483648, 2147483647, 0) := rfl
theorem ty_42_24 : wty 42 24 = (2, 0, 0, 48) := rfl
theorem ty_42_26 : wty 42 26 = (2, 0, 0, 50) := rfl
theorem ty_42_27 : wty 42 27 = (2, 0, 0, 51) := rfl
theorem ty_42_29 : wty 42 29 = (0, 0, 20000, 0) := rfl
theorem ty_42_30 : wty 42 30 = (2, 0, 0, 52) := rfl
theorem ty_42_32 : wty 42 32 = (0, 0, 2147483647, 0) := rfl
theorem sh_45 : wsh 45 = (0, 6) := rfl
theorem ty_45 (j : Nat) : wty 45 j = (0, 0, 40, 0) := rfl
theorem sh_48 : wsh 48 = (0, 240) := rfl
theorem ty_48 (j : Nat) : wty 48 j = (0, -2147483648, 2147483647, 0) := rfl
theorem sh_50 : wsh 50 = (0, 6) := rfl
theorem ty_50 (j : Nat) : wty 50 j = (0, 0, 39, 0) := rfl
theorem sh_51 : wsh 51 = (0, 6) := rfl
theorem ty_51 (j : Nat) : wty 51 j = (0, 0, 39, 0) := rfl
theorem sh_52 : wsh 52 = (0, 20000) := rfl
theorem ty_52 (j : Nat) : wty 52 j = (0, 0, 19999, 0) := rfl
theorem sh_54 : wsh 54 = (100 + 10, 27) := rfl
theorem ty_54_0 : wty 54 0 = (0, 0, 24, 0) := rfl
theorem ty_54_1 : wty 54 1 = (0, -2147483648, 2147483647, 0) := rfl
theorem ty_54_2 : wty 54 2 = (0, -2147483648, 2147483647, 0) := rfl
theorem ty_54_3 : wty 54 3 = (0, 0, 6, 0) := rfl
theorem ty_54_4 : wty 54 4 = (0, 0, 3, 0) := rfl
theorem ty_54_5 : wty 54 5 = (0, 0, 3, 0) := rfl
theorem ty_54_6 : wty 54 6 = (0, 0, 4, 0) := rfl
theorem ty_54_7 : wty 54 7 = (0, 0, 6, 0) := rfl
theorem ty_54_8 : wty 54 8 = (0, -2147483648, 2147483647, 0) := rfl
theorem ty_54_9 : wty 54 9 = (2, 0, 0, 55) := rfl
theorem ty_54_10 : wty 54 10 = (2, 0, 0, 56) := rfl
theorem ty_54_11 : wty 54 11 = (2, 0, 0, 57) := rfl
theorem ty_54_12 : wty 54 12 = (2, 0, 0, 58) := rfl
theorem ty_54_13 : wty 54 13 = (2, 0, 0, 59) := rfl
theorem ty_54_14 : wty 54 14 = (2, 0, 0, 60) := rfl
theorem ty_54_15 : wty 54 15 = (2, 0, 0, 61) := rfl
theorem ty_54_16 : wty 54 16 = (2, 0, 0, 62) := rfl
theorem ty_54_17 : wty 54 17 = (2, 0, 0, 63) := rfl
theorem ty_54_18 : wty 54 18 = (2, 0, 0, 64) := rfl
theorem ty_54_19 : wty 54 19 = (2, 0, 0, 65) := rfl
theorem ty_54_20 : wty 54 20 = (2, 0, 0, 66) := rfl
theorem ty_54_21 : wty 54 21 = (2, 0, 0, 67) := rfl
theorem ty_54_22 : wty 54 22 = (2, 0, 0, 68) := rfl
theorem ty_54_23 : wty 54 23 = (2, 0, 0, 69) := rfl
theorem ty_54_24 : wty 54 24 = (2, 0, 0, 70) := rfl
theorem ty_54_25 : wty 54 25 = (2, 0, 0, 71) := rfl
theorem ty_54_26 : wty 54 26 = (2, 0, 0, 72) := rfl
theorem ty_55 (j : Nat) : wty 55 j = (0, -9223372036854775808, 9223372036854775807, 0) := rfl
theorem ty_56 (j : Nat) : wty 56 j = (0, 0, 23, 0) := rfl
theorem ty_57 (j : Nat) : wty 57 j = (0, 0, 30, 0) := rfl
theorem ty_58 (j : Nat) : wty 58 j = (0, 0, 12, 0) := rfl
theorem ty_59 (j : Nat) : wty 59 j = (0, 0, 16, 0) := rfl
theorem ty_60 (j : Nat) : wty 60 j = (0, -1, 23, 0) := rfl
theorem ty_61 (j : Nat) : wty 61 j = (0, -2147483648, 2147483647, 0) := rfl
theorem ty_62 (j : Nat) : wty 62 j = (0, -2147483648, 2147483647, 0) := rfl
theorem ty_63 (j : Nat) : wty 63 j = (0, 0, 1, 0) := rfl
theorem ty_64 (j : Nat) : wty 64 j = (0, 0, 5, 0) := rfl
theorem ty_65 (j : Nat) : wty 65 j = (0, 0, 5, 0) := rfl
theorem ty_66 (j : Nat) : wty 66 j = (0, -2147483648, 2147483647, 0) := rfl
theorem ty_67 (j : Nat) : wty 67 j = (0, -2147483648, 2147483647, 0) := rfl
theorem sh_68 : wsh 68 = (0, 4) := rfl
theorem ty_68 (j : Nat) : wty 68 j = (0, 0, 5, 0) := rfl
theorem sh_69 : wsh 69 = (0, 4) := rfl
theorem ty_69 (j : Nat) : wty 69 j = (0, -2147483648, 2147483647, 0) := rfl
theorem ty_70 (j : Nat) : wty 70 j = (0, -2147483648, 2147483647, 0) := rfl
theorem ty_71 (j : Nat) : wty 71 j = (0, 0, 5, 0) := rfl
theorem ty_72 (j : Nat) : wty 72 j = (0, -2147483648, 2147483647, 0) := rfl
