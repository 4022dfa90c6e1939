section
/-! what each pool entry names (own work, wip/gen2/links.py) -/
abbrev wlf (own idx c j : Nat) (b : Bool) : Prop := ∃ e, mc_find (mc_fl.getD own []) idx = some e ∧ (e.1 = c ∧ e.2.1 = j) ∧ e.2.2.1 = b
section XR

variable {kt : Nat → Option mc_E} {d : Nat} {E : wq_E} {pc pc' : Nat} {L L' : List (Nat × Value)} {st : List Value} {T : wq_T} {H H0 : wq_H} {K : Nat → List (Nat × Value) → List Value → wq_T → wq_H → Prop}

variable {idx c j n t t' a : Nat} {b : Bool} {lo hi p q z : Int}
theorem xg_I (hl : wlf E.1 idx c j b) (hW : WT T H) (g : T.2.2.2 a = some t) (hsh : wsh t = (100 + c, n)) (hc : (!decide (20 ≤ c) && decide (j < mc_N.getD c 0) && decide (j < n)) = true) (h8 : t < 80) (hty : wty t j = (0, lo, hi, 0)) (hk : wq_v (wq_fk c j) (H a j) = vI (H a j)) (hp : pc + 3 = pc') (h : lo ≤ H a j → H a j ≤ hi → K pc' L (vI (H a j) :: st) T H) : wq_s kt d E (.getfield idx) 3 pc L (.ref a :: st) T H K := by
  obtain ⟨e, he, hj, -⟩ := hl
  have hcc := wq_hc (hW.hi g h8) hc
  have hb := hW.box g (n := n) (by rw [hsh]) hcc.2.2 hty
  exact rw_getI he hj (hW.sh g hsh) hcc hk hp (h hb.1 hb.2)
theorem xg_L (hl : wlf E.1 idx c j b) (hW : WT T H) (g : T.2.2.2 a = some t) (hsh : wsh t = (100 + c, n)) (hc : (!decide (20 ≤ c) && decide (j < mc_N.getD c 0) && decide (j < n)) = true) (h8 : t < 80) (hty : wty t j = (0, lo, hi, 0)) (hk : wq_v (wq_fk c j) (H a j) = vL (H a j)) (hp : pc + 3 = pc') (h : lo ≤ H a j → H a j ≤ hi → K pc' L (vL (H a j) :: st) T H) : wq_s kt d E (.getfield idx) 3 pc L (.ref a :: st) T H K := by
  obtain ⟨e, he, hj, -⟩ := hl
  have hcc := wq_hc (hW.hi g h8) hc
  have hb := hW.box g (n := n) (by rw [hsh]) hcc.2.2 hty
  exact rw_getL he hj (hW.sh g hsh) hcc hk hp (h hb.1 hb.2)
theorem xg_R (hl : wlf E.1 idx c j b) (hW : WT T H) (g : T.2.2.2 a = some t) (hsh : wsh t = (100 + c, n)) (hc : (!decide (20 ≤ c) && decide (j < mc_N.getD c 0) && decide (j < n)) = true) (h8 : t < 80) (hty : wty t j = (2, p, q, t')) (hk : wq_v (wq_fk c j) (H a j) = vR (H a j)) (hp : pc + 3 = pc') (h : ∀ r : Nat, H a j = (r : Int) → T.2.2.2 r = some t' → K pc' L (.ref r :: st) T H) : wq_s kt d E (.getfield idx) 3 pc L (.ref a :: st) T H K := by
  obtain ⟨e, he, hj, -⟩ := hl
  have hcc := wq_hc (hW.hi g h8) hc
  obtain ⟨r, h1, h2⟩ := hW.ref g (n := n) (by rw [hsh]) hcc.2.2 hty
  exact rw_getR he hj (hW.sh g hsh) hcc hk h1 hp (h r h1 h2)
theorem xg_O (hl : wlf E.1 idx c j b) (hW : WT T H) (g : T.2.2.2 a = some t) (hsh : wsh t = (100 + c, n)) (hc : (!decide (20 ≤ c) && decide (j < mc_N.getD c 0) && decide (j < n)) = true) (h8 : t < 80) (hty : wty t j = (3, p, q, t')) (hk : wq_v (wq_fk c j) (H a j) = vR (H a j)) (hp : pc + 3 = pc') (h0 : H a j = -1 → K pc' L (.null :: st) T H) (h : ∀ r : Nat, H a j = (r : Int) → T.2.2.2 r = some t' → K pc' L (.ref r :: st) T H) : wq_s kt d E (.getfield idx) 3 pc L (.ref a :: st) T H K := by
  obtain ⟨e, he, hj, -⟩ := hl
  have hcc := wq_hc (hW.hi g h8) hc
  rcases hW.opt g (n := n) (by rw [hsh]) hcc.2.2 hty with h1 | ⟨r, h1, h2⟩
  · exact rw_getN he hj (hW.sh g hsh) hcc hk h1 hp (h0 h1)
  · exact rw_getR he hj (hW.sh g hsh) hcc hk h1 hp (h r h1 h2)
/-- a reference that is known -/
theorem xg_K {r : Nat} (hl : wlf E.1 idx c j b) (hW : WT T H) (g : T.2.2.2 a = some t) (hsh : wsh t = (100 + c, n)) (hc : (!decide (20 ≤ c) && decide (j < mc_N.getD c 0) && decide (j < n)) = true) (h8 : t < 80) (hk : wq_v (wq_fk c j) (H a j) = vR (H a j)) (hr : H a j = (r : Int)) (hp : pc + 3 = pc') (h : K pc' L (.ref r :: st) T H) : wq_s kt d E (.getfield idx) 3 pc L (.ref a :: st) T H K := by
  obtain ⟨e, he, hj, -⟩ := hl
  exact rw_getR he hj (hW.sh g hsh) (wq_hc (hW.hi g h8) hc) hk hr hp h
theorem xp_V {v : Value} (hl : wlf E.1 idx c j b) (hW : WT T H) (g : T.2.2.2 a = some t) (hsh : wsh t = (100 + c, n)) (hc : (decide (c < 11) && decide (j < mc_N.getD c 0) && decide (j < n) && (!(mc_T c j).2.2.2 || (E.2.2.1 && E.1 == c && !b))) = true) (h8 : t < 80) (hf : mc_fit (mc_t c j) v = true) (hv : wq_v (wq_fk c j) z = v) (hz : wq_in (wq_fk c j) z) (hk : wok T (wty t j) z) (hp : pc + 3 = pc') (h : ∀ H', H' = wq_u H a j z → WT T H' → K pc' L st T H') : wq_s kt d E (.putfield idx) 3 pc L (v :: .ref a :: st) T H K := by
  obtain ⟨e, he, hj, hb⟩ := hl
  subst hb
  simp only [Bool.and_eq_true, decide_eq_true_eq] at hc
  obtain ⟨⟨⟨h1, h2⟩, h3⟩, h4⟩ := hc
  exact rw_putf he hj (hW.sh g hsh) (hW.hi g h8) ⟨decide_eq_true h1, decide_eq_true h2, h3, h4⟩ hf hv hz hp (h _ rfl (hW.put g hk))
theorem xp_I (hl : wlf E.1 idx c j b) (hW : WT T H) (g : T.2.2.2 a = some t) (hsh : wsh t = (100 + c, n)) (hc : (decide (c < 11) && decide (j < mc_N.getD c 0) && decide (j < n) && (!(mc_T c j).2.2.2 || (E.2.2.1 && E.1 == c && !b))) = true) (h8 : t < 80) (hty : wty t j = (0, lo, hi, 0)) (hft : mc_t c j = .int) (hfk : wq_fk c j = 0) (h1 : lo ≤ z) (h2 : z ≤ hi) (h3 : wI z) (hp : pc + 3 = pc') (h : ∀ H', H' = wq_u H a j z → WT T H' → K pc' L st T H') : wq_s kt d E (.putfield idx) 3 pc L (vI z :: .ref a :: st) T H K :=
  xp_V hl hW g hsh hc h8 (by rw [hft]; rfl) (by rw [hfk]; rfl) (by rw [hfk]; exact h3) (by rw [hty]; exact ⟨h1, h2⟩) hp h
theorem xp_Z (hl : wlf E.1 idx c j b) (hW : WT T H) (g : T.2.2.2 a = some t) (hsh : wsh t = (100 + c, n)) (hc : (decide (c < 11) && decide (j < mc_N.getD c 0) && decide (j < n) && (!(mc_T c j).2.2.2 || (E.2.2.1 && E.1 == c && !b))) = true) (h8 : t < 80) (hty : wty t j = (0, 0, 1, 0)) (hft : mc_t c j = .boolean) (hfk : wq_fk c j = 4) (h1 : 0 ≤ z) (h2 : z ≤ 1) (hp : pc + 3 = pc') (h : ∀ H', H' = wq_u H a j z → WT T H' → K pc' L st T H') : wq_s kt d E (.putfield idx) 3 pc L (vI z :: .ref a :: st) T H K :=
  xp_V hl hW g hsh hc h8 (by rw [hft]; exact wq_fitZ h1 h2) (by rw [hfk]; rfl) (by rw [hfk]; exact ⟨h1, h2⟩) (by rw [hty]; exact ⟨h1, h2⟩) hp h
theorem xp_L (hl : wlf E.1 idx c j b) (hW : WT T H) (g : T.2.2.2 a = some t) (hsh : wsh t = (100 + c, n)) (hc : (decide (c < 11) && decide (j < mc_N.getD c 0) && decide (j < n) && (!(mc_T c j).2.2.2 || (E.2.2.1 && E.1 == c && !b))) = true) (h8 : t < 80) (hty : wty t j = (0, lo, hi, 0)) (hft : mc_t c j = .long) (hfk : wq_fk c j = 1) (h1 : lo ≤ z) (h2 : z ≤ hi) (h3 : wL z) (hp : pc + 3 = pc') (h : ∀ H', H' = wq_u H a j z → WT T H' → K pc' L st T H') : wq_s kt d E (.putfield idx) 3 pc L (vL z :: .ref a :: st) T H K :=
  xp_V hl hW g hsh hc h8 (by rw [hft]; rfl) (by rw [hfk]; rfl) (by rw [hfk]; exact h3) (by rw [hty]; exact ⟨h1, h2⟩) hp h
/-- an object, an array in a field -/
theorem xp_R {r : Nat} (hl : wlf E.1 idx c j b) (hW : WT T H) (g : T.2.2.2 a = some t) (hsh : wsh t = (100 + c, n)) (hc : (decide (c < 11) && decide (j < mc_N.getD c 0) && decide (j < n) && (!(mc_T c j).2.2.2 || (E.2.2.1 && E.1 == c && !b))) = true) (h8 : t < 80) (hf : mc_fit (mc_t c j) (.ref r) = true) (hfk : wq_fk c j = 2) (hk : wok T (wty t j) (r : Int)) (hp : pc + 3 = pc') (h : ∀ H', H' = wq_u H a j (r : Int) → WT T H' → K pc' L st T H') : wq_s kt d E (.putfield idx) 3 pc L (.ref r :: .ref a :: st) T H K :=
  xp_V hl hW g hsh hc h8 hf (by rw [hfk]; exact vR_of r) (by rw [hfk]; trivial) hk hp h
theorem wok_2 {r : Nat} (hty : wty t j = (2, p, q, t')) (g : T.2.2.2 r = some t') : wok T (wty t j) (r : Int) := by rw [hty]; exact ⟨by omega, by simpa using g⟩
theorem wok_3 {r : Nat} (hty : wty t j = (3, p, q, t')) (g : T.2.2.2 r = some t') : wok T (wty t j) (r : Int) := by rw [hty]; exact Or.inr ⟨by omega, by simpa using g⟩
theorem wok_4 {r : Nat} (hty : wty t j = (4, p, q, t')) (g : T.2.2.2 r = some t') : wok T (wty t j) (r : Int) := by rw [hty]; exact ⟨by omega, Or.inl (by simpa using g)⟩
theorem xa_I {so : Nat} (hW : WT T H) (g : T.2.2.2 a = some t) (hsh : wsh t = (0, n)) (hn : n ≤ 2147483648) (hty : wty t z.toNat = (0, lo, hi, 0)) (h0 : 0 ≤ z) (h1 : z < n) (hp : pc + 1 = pc') (h : lo ≤ H a z.toNat → H a z.toNat ≤ hi → K pc' L (vI (H a z.toNat) :: st) T H) : wq_s kt d E .iaload 1 pc L (vI z :: .ref a :: st) T H K := by
  have hb := hW.box g (n := n) (by rw [hsh]) (by omega) hty
  exact rw_iaload (hW.sh g hsh) ⟨by decide, rfl, Bool.or_true _, hn⟩ h0 h1 rfl hp (h hb.1 hb.2)
theorem xa_L (hW : WT T H) (g : T.2.2.2 a = some t) (hsh : wsh t = (1, n)) (hn : n ≤ 2147483648) (hty : wty t z.toNat = (0, lo, hi, 0)) (h0 : 0 ≤ z) (h1 : z < n) (hp : pc + 1 = pc') (h : lo ≤ H a z.toNat → H a z.toNat ≤ hi → K pc' L (vL (H a z.toNat) :: st) T H) : wq_s kt d E .laload 1 pc L (vI z :: .ref a :: st) T H K := by
  have hb := hW.box g (n := n) (by rw [hsh]) (by omega) hty
  exact rw_laload (hW.sh g hsh) ⟨by decide, rfl, Bool.or_true _, hn⟩ h0 h1 rfl hp (h hb.1 hb.2)
theorem xa_B {so : Nat} (hso : so = 2 ∨ so = 3) (hW : WT T H) (g : T.2.2.2 a = some t) (hsh : wsh t = (so, n)) (hn : n ≤ 2147483648) (hty : wty t z.toNat = (0, lo, hi, 0)) (h0 : 0 ≤ z) (h1 : z < n) (hp : pc + 1 = pc') (h : lo ≤ H a z.toNat → H a z.toNat ≤ hi → K pc' L (vI (H a z.toNat) :: st) T H) : wq_s kt d E .baload 1 pc L (vI z :: .ref a :: st) T H K := by
  have hb := hW.box g (n := n) (by rw [hsh]) (by omega) hty
  rcases hso with rfl | rfl
  · exact rw_baload (hW.sh g hsh) ⟨by decide, rfl, Bool.or_true _, hn⟩ h0 h1 rfl hp (h hb.1 hb.2)
  · exact rw_baload (hW.sh g hsh) ⟨by decide, rfl, Bool.or_true _, hn⟩ h0 h1 rfl hp (h hb.1 hb.2)
theorem xa_R {so : Nat} (hso : so = 4 ∨ so = 5 ∨ so = 6) (hW : WT T H) (g : T.2.2.2 a = some t) (hsh : wsh t = (so, n)) (hn : n ≤ 2147483648) (hty : wty t z.toNat = (2, p, q, t')) (h0 : 0 ≤ z) (h1 : z < n) (hp : pc + 1 = pc') (h : ∀ r : Nat, H a z.toNat = (r : Int) → T.2.2.2 r = some t' → K pc' L (.ref r :: st) T H) : wq_s kt d E .aaload 1 pc L (vI z :: .ref a :: st) T H K := by
  obtain ⟨r, h2, h3⟩ := hW.ref g (n := n) (by rw [hsh]) (by omega) hty
  rcases hso with rfl | rfl | rfl
  · exact rw_aaload (hW.sh g hsh) ⟨by decide, rfl, Bool.or_true _, hn⟩ h0 h1 rfl h2 hp (h r h2 h3)
  · exact rw_aaload (hW.sh g hsh) ⟨by decide, rfl, Bool.or_true _, hn⟩ h0 h1 rfl h2 hp (h r h2 h3)
  · exact rw_aaload (hW.sh g hsh) ⟨by decide, rfl, Bool.or_true _, hn⟩ h0 h1 rfl h2 hp (h r h2 h3)
theorem xa_K {so r : Nat} (hso : so = 4 ∨ so = 5 ∨ so = 6) (hW : WT T H) (g : T.2.2.2 a = some t) (hsh : wsh t = (so, n)) (hn : n ≤ 2147483648) (h0 : 0 ≤ z) (h1 : z < n) (h2 : H a z.toNat = (r : Int)) (hp : pc + 1 = pc') (h : K pc' L (.ref r :: st) T H) : wq_s kt d E .aaload 1 pc L (vI z :: .ref a :: st) T H K := by
  rcases hso with rfl | rfl | rfl
  · exact rw_aaload (hW.sh g hsh) ⟨by decide, rfl, Bool.or_true _, hn⟩ h0 h1 rfl h2 hp h
  · exact rw_aaload (hW.sh g hsh) ⟨by decide, rfl, Bool.or_true _, hn⟩ h0 h1 rfl h2 hp h
  · exact rw_aaload (hW.sh g hsh) ⟨by decide, rfl, Bool.or_true _, hn⟩ h0 h1 rfl h2 hp h
theorem xs_I {y : Int} (hW : WT T H) (g : T.2.2.2 a = some t) (h8 : t < 80) (hsh : wsh t = (0, n)) (hn : n ≤ 2147483648) (hty : wty t z.toNat = (0, lo, hi, 0)) (h2 : lo ≤ y) (h3 : y ≤ hi) (h4 : wI y) (h0 : 0 ≤ z) (h1 : z < n) (hp : pc + 1 = pc') (h : ∀ H', H' = wq_u H a z.toNat y → WT T H' → K pc' L st T H') : wq_s kt d E .iastore 1 pc L (vI y :: vI z :: .ref a :: st) T H K :=
  rw_iastore (hW.sh g hsh) (hW.hi g h8) hn h4 h0 h1 hp (h _ rfl (hW.putB g hty h2 h3))
theorem xs_L {y : Int} (hW : WT T H) (g : T.2.2.2 a = some t) (h8 : t < 80) (hsh : wsh t = (1, n)) (hn : n ≤ 2147483648) (hty : wty t z.toNat = (0, lo, hi, 0)) (h2 : lo ≤ y) (h3 : y ≤ hi) (h4 : wL y) (h0 : 0 ≤ z) (h1 : z < n) (hp : pc + 1 = pc') (h : ∀ H', H' = wq_u H a z.toNat y → WT T H' → K pc' L st T H') : wq_s kt d E .lastore 1 pc L (vL y :: vI z :: .ref a :: st) T H K :=
  rw_lastore (hW.sh g hsh) (hW.hi g h8) hn h4 h0 h1 hp (h _ rfl (hW.putB g hty h2 h3))
theorem xs_B {y : Int} (hW : WT T H) (g : T.2.2.2 a = some t) (h8 : t < 80) (hsh : wsh t = (2, n)) (hn : n ≤ 2147483648) (hty : wty t z.toNat = (0, lo, hi, 0)) (h2 : lo ≤ y) (h3 : y ≤ hi) (h4 : -128 ≤ y ∧ y ≤ 127) (h0 : 0 ≤ z) (h1 : z < n) (hp : pc + 1 = pc') (h : ∀ H', H' = wq_u H a z.toNat y → WT T H' → K pc' L st T H') : wq_s kt d E .bastore 1 pc L (vI y :: vI z :: .ref a :: st) T H K :=
  rw_bastore (hW.sh g hsh) (hW.hi g h8) hn h4 h0 h1 hp (h _ rfl (hW.putB g hty h2 h3))
theorem xs_Z {y : Int} (hW : WT T H) (g : T.2.2.2 a = some t) (h8 : t < 80) (hsh : wsh t = (3, n)) (hn : n ≤ 2147483648) (hty : wty t z.toNat = (0, lo, hi, 0)) (h2 : lo ≤ y) (h3 : y ≤ hi) (h4 : 0 ≤ y ∧ y ≤ 1) (h0 : 0 ≤ z) (h1 : z < n) (hp : pc + 1 = pc') (h : ∀ H', H' = wq_u H a z.toNat y → WT T H' → K pc' L st T H') : wq_s kt d E .bastore 1 pc L (vI y :: vI z :: .ref a :: st) T H K :=
  rw_zastore (hW.sh g hsh) (hW.hi g h8) hn h4 h0 h1 hp (h _ rfl (hW.putB g hty h2 h3))
theorem xa_N {so : Nat} (hW : WT T H) (g : T.2.2.2 a = some t) (hsh : wsh t = (so, n)) (hs : so < 7) (hp : pc + 1 = pc') (h : K pc' L (vI n :: st) T H) : wq_s kt d E .arraylength 1 pc L (.ref a :: st) T H K :=
  rw_alen (hW.sh g hsh) ⟨by omega, by simp [hs]⟩ hp h
theorem xc_V {k2 np r D : Nat} {as : List Value} {st0 : List Value} {Q' : Option Value → wq_T → wq_H → Prop} (hm : wq_ml E.1 idx = some (k2, np, 1, c)) (hst : st0 = as.reverse ++ .ref r :: st) (hal : as.length = np) (hcat : ((st.map Value.category).sum ≤ 8)) (hW : WT T H) (g : T.2.2.2 r = some t) (hsh : wsh t = (100 + c, n)) (h8 : t < 80) (hp : pc + 3 = pc') (hD : D ≤ d) (hs : wpc kt D k2 (.ref r :: as) T H Q') (h : ∀ r T' H', Q' r T' H' → K pc' L (mc_rs r ++ st) T' H') : wq_s kt d E (.invokevirtual idx) 3 pc L st0 T H K :=
  rw_calV hm hst hal hcat (hW.hi g h8) (hW.sh g hsh) hp ((hs.imp h).deep hD)
theorem xc_S {k2 np D : Nat} {as : List Value} {st0 : List Value} {Q' : Option Value → wq_T → wq_H → Prop} (hm : wq_ml E.1 idx = some (k2, np, 0, c)) (hst : st0 = as.reverse ++ st) (hal : as.length = np) (hcat : ((st.map Value.category).sum ≤ 8)) (hp : pc + 3 = pc') (hD : D ≤ d) (hs : wpc kt D k2 as T H Q') (h : ∀ r T' H', Q' r T' H' → K pc' L (mc_rs r ++ st) T' H') : wq_s kt d E (.invokestatic idx) 3 pc L st0 T H K :=
  rw_calS hm hst hal hcat hp ((hs.imp h).deep hD)
theorem wfr.put' {l : List (Nat × Nat)} {H2 : wq_H} (h : wfr l T H0 H) (e : H2 = wq_u H a j z) (ht : T.2.2.2 a = some t) (hm : wmem l t j = true) : wfr l T H0 H2 := by rw [e]; exact h.put ht hm
theorem wq_u_s {H2 : wq_H} (e : H2 = wq_u H a j z) : H2 a j = z := by rw [e]; exact wq_u_eq
theorem wq_u_j {H2 : wq_H} {a' j' : Nat} (e : H2 = wq_u H a j z) (h : (j' == j) = false) : H2 a' j' = H a' j' := by
  rw [e]
  refine wq_u_ne (fun q => ?_)
  rw [q.2] at h
  simp at h
theorem wq_u_t {H2 : wq_H} {a' s : Nat} (e : H2 = wq_u H a j z) (g : T.2.2.2 a = some t) (g' : T.2.2.2 a' = some s) (h : (s == t) = false) (j' : Nat) : H2 a' j' = H a' j' := by
  rw [e]
  exact wq_u_na (wtag_ne g' g h) j'
end XR
theorem lf_0_78 : wlf 0 78 1 3 false := ⟨_, rfl, ⟨rfl, rfl⟩, rfl⟩
theorem lf_0_84 : wlf 0 84 1 4 false := ⟨_, rfl, ⟨rfl, rfl⟩, rfl⟩
theorem lf_0_190 : wlf 0 190 4 1 false := ⟨_, rfl, ⟨rfl, rfl⟩, rfl⟩
theorem lf_0_265 : wlf 0 265 4 3 false := ⟨_, rfl, ⟨rfl, rfl⟩, rfl⟩
theorem lf_0_268 : wlf 0 268 4 4 false := ⟨_, rfl, ⟨rfl, rfl⟩, rfl⟩
theorem lf_0_177 : wlf 0 177 4 5 false := ⟨_, rfl, ⟨rfl, rfl⟩, rfl⟩
theorem lf_0_187 : wlf 0 187 4 6 false := ⟨_, rfl, ⟨rfl, rfl⟩, rfl⟩
theorem lf_0_207 : wlf 0 207 4 7 false := ⟨_, rfl, ⟨rfl, rfl⟩, rfl⟩
theorem lf_0_210 : wlf 0 210 4 8 false := ⟨_, rfl, ⟨rfl, rfl⟩, rfl⟩
theorem lf_0_125 : wlf 0 125 8 0 false := ⟨_, rfl, ⟨rfl, rfl⟩, rfl⟩
theorem lf_0_129 : wlf 0 129 8 1 false := ⟨_, rfl, ⟨rfl, rfl⟩, rfl⟩
theorem lf_0_135 : wlf 0 135 8 3 false := ⟨_, rfl, ⟨rfl, rfl⟩, rfl⟩
theorem lf_0_317 : wlf 0 317 8 13 false := ⟨_, rfl, ⟨rfl, rfl⟩, rfl⟩
theorem lf_0_113 : wlf 0 113 8 15 false := ⟨_, rfl, ⟨rfl, rfl⟩, rfl⟩
theorem lf_0_148 : wlf 0 148 8 16 false := ⟨_, rfl, ⟨rfl, rfl⟩, rfl⟩
theorem lf_0_109 : wlf 0 109 7 0 false := ⟨_, rfl, ⟨rfl, rfl⟩, rfl⟩
theorem lf_0_262 : wlf 0 262 7 1 false := ⟨_, rfl, ⟨rfl, rfl⟩, rfl⟩
theorem lf_0_339 : wlf 0 339 7 7 false := ⟨_, rfl, ⟨rfl, rfl⟩, rfl⟩
theorem lf_0_96 : wlf 0 96 7 10 false := ⟨_, rfl, ⟨rfl, rfl⟩, rfl⟩
theorem lf_0_327 : wlf 0 327 7 11 false := ⟨_, rfl, ⟨rfl, rfl⟩, rfl⟩
theorem lf_0_330 : wlf 0 330 7 12 false := ⟨_, rfl, ⟨rfl, rfl⟩, rfl⟩
theorem lf_0_333 : wlf 0 333 7 13 false := ⟨_, rfl, ⟨rfl, rfl⟩, rfl⟩
theorem lf_0_336 : wlf 0 336 7 14 false := ⟨_, rfl, ⟨rfl, rfl⟩, rfl⟩
theorem lf_0_342 : wlf 0 342 7 15 false := ⟨_, rfl, ⟨rfl, rfl⟩, rfl⟩
theorem lf_0_295 : wlf 0 295 7 16 false := ⟨_, rfl, ⟨rfl, rfl⟩, rfl⟩
theorem lf_0_298 : wlf 0 298 7 17 false := ⟨_, rfl, ⟨rfl, rfl⟩, rfl⟩
theorem lf_0_141 : wlf 0 141 7 18 false := ⟨_, rfl, ⟨rfl, rfl⟩, rfl⟩
theorem lf_0_9 : wlf 0 9 0 0 false := ⟨_, rfl, ⟨rfl, rfl⟩, rfl⟩
theorem lf_0_16 : wlf 0 16 0 1 false := ⟨_, rfl, ⟨rfl, rfl⟩, rfl⟩
theorem lf_0_23 : wlf 0 23 0 2 false := ⟨_, rfl, ⟨rfl, rfl⟩, rfl⟩
theorem lf_0_30 : wlf 0 30 0 3 false := ⟨_, rfl, ⟨rfl, rfl⟩, rfl⟩
theorem lf_0_37 : wlf 0 37 0 4 false := ⟨_, rfl, ⟨rfl, rfl⟩, rfl⟩
theorem lf_0_44 : wlf 0 44 0 5 false := ⟨_, rfl, ⟨rfl, rfl⟩, rfl⟩
theorem lf_0_51 : wlf 0 51 0 6 false := ⟨_, rfl, ⟨rfl, rfl⟩, rfl⟩
theorem lf_0_55 : wlf 0 55 0 7 false := ⟨_, rfl, ⟨rfl, rfl⟩, rfl⟩
theorem lf_0_58 : wlf 0 58 0 8 false := ⟨_, rfl, ⟨rfl, rfl⟩, rfl⟩
theorem lf_0_62 : wlf 0 62 0 9 false := ⟨_, rfl, ⟨rfl, rfl⟩, rfl⟩
theorem lf_0_102 : wlf 0 102 0 10 false := ⟨_, rfl, ⟨rfl, rfl⟩, rfl⟩
theorem lf_0_81 : wlf 0 81 0 11 false := ⟨_, rfl, ⟨rfl, rfl⟩, rfl⟩
theorem lf_0_87 : wlf 0 87 0 12 false := ⟨_, rfl, ⟨rfl, rfl⟩, rfl⟩
theorem lf_1_38 : wlf 1 38 2 3 false := ⟨_, rfl, ⟨rfl, rfl⟩, rfl⟩
theorem lf_1_257 : wlf 1 257 2 4 false := ⟨_, rfl, ⟨rfl, rfl⟩, rfl⟩
theorem lf_1_230 : wlf 1 230 2 5 false := ⟨_, rfl, ⟨rfl, rfl⟩, rfl⟩
theorem lf_1_135 : wlf 1 135 2 6 false := ⟨_, rfl, ⟨rfl, rfl⟩, rfl⟩
theorem lf_1_12 : wlf 1 12 1 0 false := ⟨_, rfl, ⟨rfl, rfl⟩, rfl⟩
theorem lf_1_158 : wlf 1 158 1 1 false := ⟨_, rfl, ⟨rfl, rfl⟩, rfl⟩
theorem lf_1_164 : wlf 1 164 1 2 false := ⟨_, rfl, ⟨rfl, rfl⟩, rfl⟩
theorem lf_1_18 : wlf 1 18 1 3 false := ⟨_, rfl, ⟨rfl, rfl⟩, rfl⟩
theorem lf_1_22 : wlf 1 22 1 4 false := ⟨_, rfl, ⟨rfl, rfl⟩, rfl⟩
theorem lf_1_161 : wlf 1 161 8 7 false := ⟨_, rfl, ⟨rfl, rfl⟩, rfl⟩
theorem lf_1_167 : wlf 1 167 8 8 false := ⟨_, rfl, ⟨rfl, rfl⟩, rfl⟩
theorem lf_1_172 : wlf 1 172 8 9 false := ⟨_, rfl, ⟨rfl, rfl⟩, rfl⟩
theorem lf_1_175 : wlf 1 175 8 10 false := ⟨_, rfl, ⟨rfl, rfl⟩, rfl⟩
theorem lf_1_188 : wlf 1 188 8 11 false := ⟨_, rfl, ⟨rfl, rfl⟩, rfl⟩
theorem lf_1_197 : wlf 1 197 8 12 false := ⟨_, rfl, ⟨rfl, rfl⟩, rfl⟩
theorem lf_1_203 : wlf 1 203 8 13 false := ⟨_, rfl, ⟨rfl, rfl⟩, rfl⟩
theorem lf_1_214 : wlf 1 214 8 14 false := ⟨_, rfl, ⟨rfl, rfl⟩, rfl⟩
theorem lf_1_143 : wlf 1 143 7 0 false := ⟨_, rfl, ⟨rfl, rfl⟩, rfl⟩
theorem lf_1_224 : wlf 1 224 7 3 false := ⟨_, rfl, ⟨rfl, rfl⟩, rfl⟩
theorem lf_1_242 : wlf 1 242 7 4 false := ⟨_, rfl, ⟨rfl, rfl⟩, rfl⟩
theorem lf_1_248 : wlf 1 248 7 5 false := ⟨_, rfl, ⟨rfl, rfl⟩, rfl⟩
theorem lf_1_251 : wlf 1 251 7 6 false := ⟨_, rfl, ⟨rfl, rfl⟩, rfl⟩
theorem lf_1_41 : wlf 1 41 7 7 false := ⟨_, rfl, ⟨rfl, rfl⟩, rfl⟩
theorem lf_1_127 : wlf 1 127 7 8 false := ⟨_, rfl, ⟨rfl, rfl⟩, rfl⟩
theorem lf_1_129 : wlf 1 129 7 9 false := ⟨_, rfl, ⟨rfl, rfl⟩, rfl⟩
theorem lf_1_44 : wlf 1 44 7 10 false := ⟨_, rfl, ⟨rfl, rfl⟩, rfl⟩
theorem lf_1_221 : wlf 1 221 7 11 false := ⟨_, rfl, ⟨rfl, rfl⟩, rfl⟩
theorem lf_1_227 : wlf 1 227 7 12 false := ⟨_, rfl, ⟨rfl, rfl⟩, rfl⟩
theorem lf_1_245 : wlf 1 245 7 13 false := ⟨_, rfl, ⟨rfl, rfl⟩, rfl⟩
theorem lf_1_254 : wlf 1 254 7 14 false := ⟨_, rfl, ⟨rfl, rfl⟩, rfl⟩
theorem lf_1_211 : wlf 1 211 7 15 false := ⟨_, rfl, ⟨rfl, rfl⟩, rfl⟩
theorem lf_1_181 : wlf 1 181 20 0 false := ⟨_, rfl, ⟨rfl, rfl⟩, rfl⟩
theorem lf_1_58 : wlf 1 58 20 1 false := ⟨_, rfl, ⟨rfl, rfl⟩, rfl⟩
theorem lf_2_7 : wlf 2 7 2 0 false := ⟨_, rfl, ⟨rfl, rfl⟩, rfl⟩
theorem lf_2_19 : wlf 2 19 2 1 false := ⟨_, rfl, ⟨rfl, rfl⟩, rfl⟩
theorem lf_2_23 : wlf 2 23 2 2 false := ⟨_, rfl, ⟨rfl, rfl⟩, rfl⟩
theorem lf_2_41 : wlf 2 41 2 3 false := ⟨_, rfl, ⟨rfl, rfl⟩, rfl⟩
theorem lf_2_29 : wlf 2 29 2 4 false := ⟨_, rfl, ⟨rfl, rfl⟩, rfl⟩
theorem lf_2_38 : wlf 2 38 2 5 false := ⟨_, rfl, ⟨rfl, rfl⟩, rfl⟩
theorem lf_2_32 : wlf 2 32 2 6 false := ⟨_, rfl, ⟨rfl, rfl⟩, rfl⟩
theorem lf_3_9 : wlf 3 9 3 0 false := ⟨_, rfl, ⟨rfl, rfl⟩, rfl⟩
theorem lf_3_15 : wlf 3 15 3 1 false := ⟨_, rfl, ⟨rfl, rfl⟩, rfl⟩
theorem lf_3_19 : wlf 3 19 3 2 false := ⟨_, rfl, ⟨rfl, rfl⟩, rfl⟩
theorem lf_3_22 : wlf 3 22 3 3 false := ⟨_, rfl, ⟨rfl, rfl⟩, rfl⟩
theorem lf_3_25 : wlf 3 25 3 4 false := ⟨_, rfl, ⟨rfl, rfl⟩, rfl⟩
theorem lf_3_51 : wlf 3 51 3 5 false := ⟨_, rfl, ⟨rfl, rfl⟩, rfl⟩
theorem lf_3_85 : wlf 3 85 8 2 false := ⟨_, rfl, ⟨rfl, rfl⟩, rfl⟩
theorem lf_3_75 : wlf 3 75 8 3 false := ⟨_, rfl, ⟨rfl, rfl⟩, rfl⟩
theorem lf_3_69 : wlf 3 69 8 4 false := ⟨_, rfl, ⟨rfl, rfl⟩, rfl⟩
theorem lf_3_72 : wlf 3 72 8 5 false := ⟨_, rfl, ⟨rfl, rfl⟩, rfl⟩
theorem lf_3_82 : wlf 3 82 8 14 false := ⟨_, rfl, ⟨rfl, rfl⟩, rfl⟩
theorem lf_3_52 : wlf 3 52 8 15 false := ⟨_, rfl, ⟨rfl, rfl⟩, rfl⟩
theorem lf_3_46 : wlf 3 46 8 16 false := ⟨_, rfl, ⟨rfl, rfl⟩, rfl⟩
theorem lf_3_42 : wlf 3 42 7 0 false := ⟨_, rfl, ⟨rfl, rfl⟩, rfl⟩
theorem lf_3_112 : wlf 3 112 7 2 false := ⟨_, rfl, ⟨rfl, rfl⟩, rfl⟩
theorem lf_3_58 : wlf 3 58 7 3 false := ⟨_, rfl, ⟨rfl, rfl⟩, rfl⟩
theorem lf_3_103 : wlf 3 103 7 7 false := ⟨_, rfl, ⟨rfl, rfl⟩, rfl⟩
theorem lf_3_115 : wlf 3 115 7 9 false := ⟨_, rfl, ⟨rfl, rfl⟩, rfl⟩
theorem lf_3_36 : wlf 3 36 7 10 false := ⟨_, rfl, ⟨rfl, rfl⟩, rfl⟩
theorem lf_3_55 : wlf 3 55 7 12 false := ⟨_, rfl, ⟨rfl, rfl⟩, rfl⟩
theorem lf_3_109 : wlf 3 109 7 16 false := ⟨_, rfl, ⟨rfl, rfl⟩, rfl⟩
theorem lf_4_11 : wlf 4 11 4 0 false := ⟨_, rfl, ⟨rfl, rfl⟩, rfl⟩
theorem lf_4_17 : wlf 4 17 4 1 false := ⟨_, rfl, ⟨rfl, rfl⟩, rfl⟩
theorem lf_4_22 : wlf 4 22 4 2 false := ⟨_, rfl, ⟨rfl, rfl⟩, rfl⟩
theorem lf_4_25 : wlf 4 25 4 3 false := ⟨_, rfl, ⟨rfl, rfl⟩, rfl⟩
theorem lf_4_29 : wlf 4 29 4 4 false := ⟨_, rfl, ⟨rfl, rfl⟩, rfl⟩
theorem lf_4_62 : wlf 4 62 4 5 false := ⟨_, rfl, ⟨rfl, rfl⟩, rfl⟩
theorem lf_4_66 : wlf 4 66 4 6 false := ⟨_, rfl, ⟨rfl, rfl⟩, rfl⟩
theorem lf_4_69 : wlf 4 69 4 7 false := ⟨_, rfl, ⟨rfl, rfl⟩, rfl⟩
theorem lf_4_72 : wlf 4 72 4 8 false := ⟨_, rfl, ⟨rfl, rfl⟩, rfl⟩
theorem lf_4_32 : wlf 4 32 4 9 false := ⟨_, rfl, ⟨rfl, rfl⟩, rfl⟩
theorem lf_4_138 : wlf 4 138 8 2 false := ⟨_, rfl, ⟨rfl, rfl⟩, rfl⟩
theorem lf_4_119 : wlf 4 119 8 3 false := ⟨_, rfl, ⟨rfl, rfl⟩, rfl⟩
theorem lf_4_116 : wlf 4 116 8 15 false := ⟨_, rfl, ⟨rfl, rfl⟩, rfl⟩
theorem lf_4_78 : wlf 4 78 7 0 false := ⟨_, rfl, ⟨rfl, rfl⟩, rfl⟩
theorem lf_4_94 : wlf 4 94 7 2 false := ⟨_, rfl, ⟨rfl, rfl⟩, rfl⟩
theorem lf_4_144 : wlf 4 144 7 4 false := ⟨_, rfl, ⟨rfl, rfl⟩, rfl⟩
theorem lf_4_147 : wlf 4 147 7 5 false := ⟨_, rfl, ⟨rfl, rfl⟩, rfl⟩
theorem lf_4_75 : wlf 4 75 7 10 false := ⟨_, rfl, ⟨rfl, rfl⟩, rfl⟩
theorem lf_4_91 : wlf 4 91 7 16 false := ⟨_, rfl, ⟨rfl, rfl⟩, rfl⟩
theorem lf_4_45 : wlf 4 45 7 18 false := ⟨_, rfl, ⟨rfl, rfl⟩, rfl⟩
theorem lf_5_9 : wlf 5 9 5 0 false := ⟨_, rfl, ⟨rfl, rfl⟩, rfl⟩
theorem lf_5_15 : wlf 5 15 5 1 false := ⟨_, rfl, ⟨rfl, rfl⟩, rfl⟩
theorem lf_5_18 : wlf 5 18 5 2 false := ⟨_, rfl, ⟨rfl, rfl⟩, rfl⟩
theorem lf_5_21 : wlf 5 21 5 3 false := ⟨_, rfl, ⟨rfl, rfl⟩, rfl⟩
theorem lf_5_28 : wlf 5 28 5 4 false := ⟨_, rfl, ⟨rfl, rfl⟩, rfl⟩
theorem lf_5_79 : wlf 5 79 8 17 false := ⟨_, rfl, ⟨rfl, rfl⟩, rfl⟩
theorem lf_5_75 : wlf 5 75 7 0 false := ⟨_, rfl, ⟨rfl, rfl⟩, rfl⟩
theorem lf_5_46 : wlf 5 46 7 10 false := ⟨_, rfl, ⟨rfl, rfl⟩, rfl⟩
theorem lf_6_9 : wlf 6 9 6 0 false := ⟨_, rfl, ⟨rfl, rfl⟩, rfl⟩
theorem lf_6_68 : wlf 6 68 6 1 false := ⟨_, rfl, ⟨rfl, rfl⟩, rfl⟩
theorem lf_6_81 : wlf 6 81 6 2 false := ⟨_, rfl, ⟨rfl, rfl⟩, rfl⟩
theorem lf_6_38 : wlf 6 38 8 2 false := ⟨_, rfl, ⟨rfl, rfl⟩, rfl⟩
theorem lf_6_15 : wlf 6 15 7 0 false := ⟨_, rfl, ⟨rfl, rfl⟩, rfl⟩
theorem lf_6_91 : wlf 6 91 7 2 false := ⟨_, rfl, ⟨rfl, rfl⟩, rfl⟩
theorem lf_6_21 : wlf 6 21 7 4 false := ⟨_, rfl, ⟨rfl, rfl⟩, rfl⟩
theorem lf_6_25 : wlf 6 25 7 5 false := ⟨_, rfl, ⟨rfl, rfl⟩, rfl⟩
theorem lf_6_113 : wlf 6 113 7 9 false := ⟨_, rfl, ⟨rfl, rfl⟩, rfl⟩
theorem lf_6_88 : wlf 6 88 7 16 false := ⟨_, rfl, ⟨rfl, rfl⟩, rfl⟩
theorem lf_6_34 : wlf 6 34 7 18 false := ⟨_, rfl, ⟨rfl, rfl⟩, rfl⟩
theorem lf_7_86 : wlf 7 86 8 6 false := ⟨_, rfl, ⟨rfl, rfl⟩, rfl⟩
theorem lf_7_110 : wlf 7 110 8 15 false := ⟨_, rfl, ⟨rfl, rfl⟩, rfl⟩
theorem lf_7_127 : wlf 7 127 8 16 false := ⟨_, rfl, ⟨rfl, rfl⟩, rfl⟩
theorem lf_7_107 : wlf 7 107 8 17 false := ⟨_, rfl, ⟨rfl, rfl⟩, rfl⟩
theorem lf_7_11 : wlf 7 11 7 0 false := ⟨_, rfl, ⟨rfl, rfl⟩, rfl⟩
theorem lf_7_17 : wlf 7 17 7 1 false := ⟨_, rfl, ⟨rfl, rfl⟩, rfl⟩
theorem lf_7_21 : wlf 7 21 7 2 false := ⟨_, rfl, ⟨rfl, rfl⟩, rfl⟩
theorem lf_7_30 : wlf 7 30 7 5 false := ⟨_, rfl, ⟨rfl, rfl⟩, rfl⟩
theorem lf_7_33 : wlf 7 33 7 6 false := ⟨_, rfl, ⟨rfl, rfl⟩, rfl⟩
theorem lf_7_41 : wlf 7 41 7 7 false := ⟨_, rfl, ⟨rfl, rfl⟩, rfl⟩
theorem lf_7_44 : wlf 7 44 7 8 false := ⟨_, rfl, ⟨rfl, rfl⟩, rfl⟩
theorem lf_7_47 : wlf 7 47 7 9 false := ⟨_, rfl, ⟨rfl, rfl⟩, rfl⟩
theorem lf_7_50 : wlf 7 50 7 10 false := ⟨_, rfl, ⟨rfl, rfl⟩, rfl⟩
theorem lf_7_53 : wlf 7 53 7 11 false := ⟨_, rfl, ⟨rfl, rfl⟩, rfl⟩
theorem lf_7_56 : wlf 7 56 7 12 false := ⟨_, rfl, ⟨rfl, rfl⟩, rfl⟩
theorem lf_7_59 : wlf 7 59 7 13 false := ⟨_, rfl, ⟨rfl, rfl⟩, rfl⟩
theorem lf_7_62 : wlf 7 62 7 14 false := ⟨_, rfl, ⟨rfl, rfl⟩, rfl⟩
theorem lf_7_37 : wlf 7 37 7 15 false := ⟨_, rfl, ⟨rfl, rfl⟩, rfl⟩
theorem lf_7_65 : wlf 7 65 7 16 false := ⟨_, rfl, ⟨rfl, rfl⟩, rfl⟩
theorem lf_7_68 : wlf 7 68 7 17 false := ⟨_, rfl, ⟨rfl, rfl⟩, rfl⟩
theorem lf_7_71 : wlf 7 71 7 18 false := ⟨_, rfl, ⟨rfl, rfl⟩, rfl⟩
theorem lf_8_9 : wlf 8 9 8 0 false := ⟨_, rfl, ⟨rfl, rfl⟩, rfl⟩
theorem lf_8_15 : wlf 8 15 8 1 false := ⟨_, rfl, ⟨rfl, rfl⟩, rfl⟩
theorem lf_8_18 : wlf 8 18 8 2 false := ⟨_, rfl, ⟨rfl, rfl⟩, rfl⟩
theorem lf_8_21 : wlf 8 21 8 3 false := ⟨_, rfl, ⟨rfl, rfl⟩, rfl⟩
theorem lf_8_24 : wlf 8 24 8 4 false := ⟨_, rfl, ⟨rfl, rfl⟩, rfl⟩
theorem lf_8_28 : wlf 8 28 8 5 false := ⟨_, rfl, ⟨rfl, rfl⟩, rfl⟩
theorem lf_8_31 : wlf 8 31 8 6 false := ⟨_, rfl, ⟨rfl, rfl⟩, rfl⟩
theorem lf_8_62 : wlf 8 62 8 7 false := ⟨_, rfl, ⟨rfl, rfl⟩, rfl⟩
theorem lf_8_65 : wlf 8 65 8 8 false := ⟨_, rfl, ⟨rfl, rfl⟩, rfl⟩
theorem lf_8_68 : wlf 8 68 8 9 false := ⟨_, rfl, ⟨rfl, rfl⟩, rfl⟩
theorem lf_8_71 : wlf 8 71 8 10 false := ⟨_, rfl, ⟨rfl, rfl⟩, rfl⟩
theorem lf_8_35 : wlf 8 35 8 11 false := ⟨_, rfl, ⟨rfl, rfl⟩, rfl⟩
theorem lf_8_39 : wlf 8 39 8 12 false := ⟨_, rfl, ⟨rfl, rfl⟩, rfl⟩
theorem lf_8_42 : wlf 8 42 8 13 false := ⟨_, rfl, ⟨rfl, rfl⟩, rfl⟩
theorem lf_8_46 : wlf 8 46 8 14 false := ⟨_, rfl, ⟨rfl, rfl⟩, rfl⟩
theorem lf_8_49 : wlf 8 49 8 15 false := ⟨_, rfl, ⟨rfl, rfl⟩, rfl⟩
theorem lf_8_52 : wlf 8 52 8 16 false := ⟨_, rfl, ⟨rfl, rfl⟩, rfl⟩
theorem lf_8_55 : wlf 8 55 8 17 false := ⟨_, rfl, ⟨rfl, rfl⟩, rfl⟩
theorem lf_9_48 : wlf 9 48 9 0 false := ⟨_, rfl, ⟨rfl, rfl⟩, rfl⟩
theorem lf_9_51 : wlf 9 51 9 1 false := ⟨_, rfl, ⟨rfl, rfl⟩, rfl⟩
theorem lf_9_9 : wlf 9 9 9 2 false := ⟨_, rfl, ⟨rfl, rfl⟩, rfl⟩
theorem lf_9_337 : wlf 9 337 9 3 false := ⟨_, rfl, ⟨rfl, rfl⟩, rfl⟩
theorem lf_9_166 : wlf 9 166 9 4 false := ⟨_, rfl, ⟨rfl, rfl⟩, rfl⟩
theorem lf_9_13 : wlf 9 13 9 5 false := ⟨_, rfl, ⟨rfl, rfl⟩, rfl⟩
theorem lf_9_330 : wlf 9 330 9 6 false := ⟨_, rfl, ⟨rfl, rfl⟩, rfl⟩
theorem lf_9_61 : wlf 9 61 9 7 false := ⟨_, rfl, ⟨rfl, rfl⟩, rfl⟩
theorem lf_9_78 : wlf 9 78 9 8 false := ⟨_, rfl, ⟨rfl, rfl⟩, rfl⟩
theorem lf_9_75 : wlf 9 75 9 9 false := ⟨_, rfl, ⟨rfl, rfl⟩, rfl⟩
theorem lf_9_84 : wlf 9 84 9 10 false := ⟨_, rfl, ⟨rfl, rfl⟩, rfl⟩
theorem lf_9_87 : wlf 9 87 9 11 false := ⟨_, rfl, ⟨rfl, rfl⟩, rfl⟩
theorem lf_9_101 : wlf 9 101 9 12 false := ⟨_, rfl, ⟨rfl, rfl⟩, rfl⟩
theorem lf_9_104 : wlf 9 104 9 13 false := ⟨_, rfl, ⟨rfl, rfl⟩, rfl⟩
theorem lf_9_107 : wlf 9 107 9 14 false := ⟨_, rfl, ⟨rfl, rfl⟩, rfl⟩
theorem lf_9_94 : wlf 9 94 9 15 false := ⟨_, rfl, ⟨rfl, rfl⟩, rfl⟩
theorem lf_9_293 : wlf 9 293 9 16 false := ⟨_, rfl, ⟨rfl, rfl⟩, rfl⟩
theorem lf_9_300 : wlf 9 300 9 17 false := ⟨_, rfl, ⟨rfl, rfl⟩, rfl⟩
theorem lf_9_303 : wlf 9 303 9 18 false := ⟨_, rfl, ⟨rfl, rfl⟩, rfl⟩
theorem lf_9_343 : wlf 9 343 9 19 false := ⟨_, rfl, ⟨rfl, rfl⟩, rfl⟩
theorem lf_9_17 : wlf 9 17 9 20 false := ⟨_, rfl, ⟨rfl, rfl⟩, rfl⟩
theorem lf_9_21 : wlf 9 21 9 21 false := ⟨_, rfl, ⟨rfl, rfl⟩, rfl⟩
theorem lf_9_24 : wlf 9 24 9 22 false := ⟨_, rfl, ⟨rfl, rfl⟩, rfl⟩
theorem lf_9_27 : wlf 9 27 9 23 false := ⟨_, rfl, ⟨rfl, rfl⟩, rfl⟩
theorem lf_9_30 : wlf 9 30 9 24 false := ⟨_, rfl, ⟨rfl, rfl⟩, rfl⟩
theorem lf_9_33 : wlf 9 33 9 25 false := ⟨_, rfl, ⟨rfl, rfl⟩, rfl⟩
theorem lf_9_36 : wlf 9 36 9 26 false := ⟨_, rfl, ⟨rfl, rfl⟩, rfl⟩
theorem lf_9_39 : wlf 9 39 9 27 false := ⟨_, rfl, ⟨rfl, rfl⟩, rfl⟩
theorem lf_9_353 : wlf 9 353 9 28 false := ⟨_, rfl, ⟨rfl, rfl⟩, rfl⟩
theorem lf_9_422 : wlf 9 422 9 29 false := ⟨_, rfl, ⟨rfl, rfl⟩, rfl⟩
theorem lf_9_42 : wlf 9 42 9 30 false := ⟨_, rfl, ⟨rfl, rfl⟩, rfl⟩
theorem lf_9_45 : wlf 9 45 9 31 false := ⟨_, rfl, ⟨rfl, rfl⟩, rfl⟩
theorem lf_9_340 : wlf 9 340 9 32 false := ⟨_, rfl, ⟨rfl, rfl⟩, rfl⟩
theorem lf_9_185 : wlf 9 185 10 0 true := ⟨_, rfl, ⟨rfl, rfl⟩, rfl⟩
theorem lf_9_222 : wlf 9 222 10 1 true := ⟨_, rfl, ⟨rfl, rfl⟩, rfl⟩
theorem lf_9_226 : wlf 9 226 10 2 true := ⟨_, rfl, ⟨rfl, rfl⟩, rfl⟩
theorem lf_9_188 : wlf 9 188 10 3 true := ⟨_, rfl, ⟨rfl, rfl⟩, rfl⟩
theorem lf_9_276 : wlf 9 276 10 4 true := ⟨_, rfl, ⟨rfl, rfl⟩, rfl⟩
theorem lf_9_288 : wlf 9 288 10 5 true := ⟨_, rfl, ⟨rfl, rfl⟩, rfl⟩
theorem lf_9_306 : wlf 9 306 10 6 true := ⟨_, rfl, ⟨rfl, rfl⟩, rfl⟩
theorem lf_9_321 : wlf 9 321 10 7 true := ⟨_, rfl, ⟨rfl, rfl⟩, rfl⟩
theorem lf_9_271 : wlf 9 271 10 8 true := ⟨_, rfl, ⟨rfl, rfl⟩, rfl⟩
theorem lf_9_243 : wlf 9 243 10 9 true := ⟨_, rfl, ⟨rfl, rfl⟩, rfl⟩
theorem lf_9_247 : wlf 9 247 10 10 true := ⟨_, rfl, ⟨rfl, rfl⟩, rfl⟩
theorem lf_9_250 : wlf 9 250 10 11 true := ⟨_, rfl, ⟨rfl, rfl⟩, rfl⟩
theorem lf_9_253 : wlf 9 253 10 12 true := ⟨_, rfl, ⟨rfl, rfl⟩, rfl⟩
theorem lf_9_256 : wlf 9 256 10 13 true := ⟨_, rfl, ⟨rfl, rfl⟩, rfl⟩
theorem lf_9_259 : wlf 9 259 10 14 true := ⟨_, rfl, ⟨rfl, rfl⟩, rfl⟩
theorem lf_9_261 : wlf 9 261 10 15 true := ⟨_, rfl, ⟨rfl, rfl⟩, rfl⟩
theorem lf_9_264 : wlf 9 264 10 16 true := ⟨_, rfl, ⟨rfl, rfl⟩, rfl⟩
theorem lf_9_267 : wlf 9 267 10 17 true := ⟨_, rfl, ⟨rfl, rfl⟩, rfl⟩
theorem lf_9_282 : wlf 9 282 10 18 true := ⟨_, rfl, ⟨rfl, rfl⟩, rfl⟩
theorem lf_9_285 : wlf 9 285 10 19 true := ⟨_, rfl, ⟨rfl, rfl⟩, rfl⟩
theorem lf_9_291 : wlf 9 291 10 20 true := ⟨_, rfl, ⟨rfl, rfl⟩, rfl⟩
theorem lf_9_296 : wlf 9 296 10 21 true := ⟨_, rfl, ⟨rfl, rfl⟩, rfl⟩
theorem lf_9_312 : wlf 9 312 10 22 true := ⟨_, rfl, ⟨rfl, rfl⟩, rfl⟩
theorem lf_9_315 : wlf 9 315 10 23 true := ⟨_, rfl, ⟨rfl, rfl⟩, rfl⟩
theorem lf_9_324 : wlf 9 324 10 25 true := ⟨_, rfl, ⟨rfl, rfl⟩, rfl⟩
theorem lf_9_327 : wlf 9 327 10 26 true := ⟨_, rfl, ⟨rfl, rfl⟩, rfl⟩
theorem lf_10_72 : wlf 10 72 10 3 false := ⟨_, rfl, ⟨rfl, rfl⟩, rfl⟩
theorem lf_10_9 : wlf 10 9 10 8 false := ⟨_, rfl, ⟨rfl, rfl⟩, rfl⟩
theorem lf_10_15 : wlf 10 15 10 9 false := ⟨_, rfl, ⟨rfl, rfl⟩, rfl⟩
theorem lf_10_19 : wlf 10 19 10 10 false := ⟨_, rfl, ⟨rfl, rfl⟩, rfl⟩
theorem lf_10_23 : wlf 10 23 10 11 false := ⟨_, rfl, ⟨rfl, rfl⟩, rfl⟩
theorem lf_10_26 : wlf 10 26 10 12 false := ⟨_, rfl, ⟨rfl, rfl⟩, rfl⟩
theorem lf_10_29 : wlf 10 29 10 13 false := ⟨_, rfl, ⟨rfl, rfl⟩, rfl⟩
theorem lf_10_32 : wlf 10 32 10 14 false := ⟨_, rfl, ⟨rfl, rfl⟩, rfl⟩
theorem lf_10_35 : wlf 10 35 10 15 false := ⟨_, rfl, ⟨rfl, rfl⟩, rfl⟩
theorem lf_10_38 : wlf 10 38 10 16 false := ⟨_, rfl, ⟨rfl, rfl⟩, rfl⟩
theorem lf_10_41 : wlf 10 41 10 17 false := ⟨_, rfl, ⟨rfl, rfl⟩, rfl⟩
theorem lf_10_45 : wlf 10 45 10 18 false := ⟨_, rfl, ⟨rfl, rfl⟩, rfl⟩
theorem lf_10_48 : wlf 10 48 10 19 false := ⟨_, rfl, ⟨rfl, rfl⟩, rfl⟩
theorem lf_10_51 : wlf 10 51 10 20 false := ⟨_, rfl, ⟨rfl, rfl⟩, rfl⟩
theorem lf_10_54 : wlf 10 54 10 21 false := ⟨_, rfl, ⟨rfl, rfl⟩, rfl⟩
theorem lf_10_57 : wlf 10 57 10 22 false := ⟨_, rfl, ⟨rfl, rfl⟩, rfl⟩
theorem lf_10_60 : wlf 10 60 10 23 false := ⟨_, rfl, ⟨rfl, rfl⟩, rfl⟩
theorem lf_10_63 : wlf 10 63 10 24 false := ⟨_, rfl, ⟨rfl, rfl⟩, rfl⟩
theorem lf_10_66 : wlf 10 66 10 25 false := ⟨_, rfl, ⟨rfl, rfl⟩, rfl⟩
theorem lf_10_69 : wlf 10 69 10 26 false := ⟨_, rfl, ⟨rfl, rfl⟩, rfl⟩
theorem lm_0_66 : wq_ml 0 66 = some (10, 1, 1, 0) := by decide +kernel
theorem lm_0_70 : wq_ml 0 70 = some (12, 1, 1, 0) := by decide +kernel
theorem lm_0_74 : wq_ml 0 74 = some (13, 3, 1, 1) := by decide +kernel
theorem lm_0_90 : wq_ml 0 90 = some (44, 0, 1, 7) := by decide +kernel
theorem lm_0_93 : wq_ml 0 93 = some (50, 0, 1, 4) := by decide +kernel
theorem lm_0_99 : wq_ml 0 99 = some (51, 1, 1, 0) := by decide +kernel
theorem lm_0_105 : wq_ml 0 105 = some (55, 1, 1, 0) := by decide +kernel
theorem lm_0_118 : wq_ml 0 118 = some (57, 2, 1, 0) := by decide +kernel
theorem lm_0_122 : wq_ml 0 122 = some (58, 1, 1, 8) := by decide +kernel
theorem lm_0_132 : wq_ml 0 132 = some (60, 1, 1, 0) := by decide +kernel
theorem lm_0_138 : wq_ml 0 138 = some (36, 2, 0, 0) := by decide +kernel
theorem lm_0_145 : wq_ml 0 145 = some (63, 1, 1, 0) := by decide +kernel
theorem lm_0_151 : wq_ml 0 151 = some (64, 0, 1, 0) := by decide +kernel
theorem lm_0_155 : wq_ml 0 155 = some (67, 1, 1, 0) := by decide +kernel
theorem lm_0_345 : wq_ml 0 345 = some (68, 1, 1, 3) := by decide +kernel
theorem lm_0_159 : wq_ml 0 159 = some (72, 1, 1, 3) := by decide +kernel
theorem lm_0_162 : wq_ml 0 162 = some (74, 1, 1, 3) := by decide +kernel
theorem lm_0_166 : wq_ml 0 166 = some (75, 2, 1, 3) := by decide +kernel
theorem lm_0_170 : wq_ml 0 170 = some (79, 1, 1, 3) := by decide +kernel
theorem lm_0_174 : wq_ml 0 174 = some (83, 1, 1, 0) := by decide +kernel
theorem lm_0_245 : wq_ml 0 245 = some (84, 1, 1, 0) := by decide +kernel
theorem lm_0_254 : wq_ml 0 254 = some (85, 2, 1, 4) := by decide +kernel
theorem lm_0_180 : wq_ml 0 180 = some (94, 1, 1, 4) := by decide +kernel
theorem lm_0_183 : wq_ml 0 183 = some (96, 2, 1, 7) := by decide +kernel
theorem lm_0_194 : wq_ml 0 194 = some (100, 3, 1, 4) := by decide +kernel
theorem lm_0_198 : wq_ml 0 198 = some (102, 1, 1, 0) := by decide +kernel
theorem lm_0_201 : wq_ml 0 201 = some (103, 3, 1, 4) := by decide +kernel
theorem lm_0_204 : wq_ml 0 204 = some (106, 3, 1, 4) := by decide +kernel
theorem lm_0_213 : wq_ml 0 213 = some (110, 3, 1, 4) := by decide +kernel
theorem lm_0_216 : wq_ml 0 216 = some (113, 2, 1, 4) := by decide +kernel
theorem lm_0_220 : wq_ml 0 220 = some (115, 3, 1, 4) := by decide +kernel
theorem lm_0_223 : wq_ml 0 223 = some (118, 3, 1, 4) := by decide +kernel
theorem lm_0_227 : wq_ml 0 227 = some (121, 1, 1, 0) := by decide +kernel
theorem lm_0_230 : wq_ml 0 230 = some (122, 2, 1, 5) := by decide +kernel
theorem lm_0_234 : wq_ml 0 234 = some (131, 3, 1, 5) := by decide +kernel
theorem lm_0_238 : wq_ml 0 238 = some (133, 1, 1, 0) := by decide +kernel
theorem lm_0_241 : wq_ml 0 241 = some (134, 2, 1, 4) := by decide +kernel
theorem lm_0_248 : wq_ml 0 248 = some (136, 3, 1, 6) := by decide +kernel
theorem lm_0_258 : wq_ml 0 258 = some (138, 2, 1, 6) := by decide +kernel
theorem lm_0_271 : wq_ml 0 271 = some (87, 1, 1, 3) := by decide +kernel
theorem lm_0_275 : wq_ml 0 275 = some (80, 0, 1, 3) := by decide +kernel
theorem lm_0_278 : wq_ml 0 278 = some (148, 1, 1, 3) := by decide +kernel
theorem lm_0_281 : wq_ml 0 281 = some (91, 1, 1, 3) := by decide +kernel
theorem lm_0_284 : wq_ml 0 284 = some (150, 0, 1, 7) := by decide +kernel
theorem lm_0_288 : wq_ml 0 288 = some (46, 1, 1, 7) := by decide +kernel
theorem lm_0_291 : wq_ml 0 291 = some (40, 2, 1, 7) := by decide +kernel
theorem lm_0_301 : wq_ml 0 301 = some (124, 2, 1, 4) := by decide +kernel
theorem lm_0_305 : wq_ml 0 305 = some (160, 0, 1, 7) := by decide +kernel
theorem lm_0_309 : wq_ml 0 309 = some (162, 1, 1, 7) := by decide +kernel
theorem lm_0_313 : wq_ml 0 313 = some (163, 1, 1, 7) := by decide +kernel
theorem lm_1_25 : wq_ml 1 25 = some (14, 0, 1, 7) := by decide +kernel
theorem lm_1_30 : wq_ml 1 30 = some (15, 2, 1, 2) := by decide +kernel
theorem lm_1_34 : wq_ml 1 34 = some (17, 1, 1, 1) := by decide +kernel
theorem lm_1_54 : wq_ml 1 54 = some (18, 0, 1, 1) := by decide +kernel
theorem lm_1_185 : wq_ml 1 185 = some (19, 1, 1, 2) := by decide +kernel
theorem lm_1_47 : wq_ml 1 47 = some (20, 1, 1, 1) := by decide +kernel
theorem lm_1_63 : wq_ml 1 63 = some (21, 1, 1, 7) := by decide +kernel
theorem lm_1_74 : wq_ml 1 74 = some (16, 0, 1, 2) := by decide +kernel
theorem lm_1_87 : wq_ml 1 87 = some (22, 1, 1, 1) := by decide +kernel
theorem lm_1_115 : wq_ml 1 115 = some (23, 1, 1, 1) := by decide +kernel
theorem lm_1_119 : wq_ml 1 119 = some (24, 2, 1, 1) := by decide +kernel
theorem lm_1_90 : wq_ml 1 90 = some (25, 1, 1, 1) := by decide +kernel
theorem lm_1_131 : wq_ml 1 131 = some (26, 0, 1, 1) := by decide +kernel
theorem lm_1_139 : wq_ml 1 139 = some (27, 1, 1, 7) := by decide +kernel
theorem lm_1_147 : wq_ml 1 147 = some (28, 1, 1, 8) := by decide +kernel
theorem lm_1_154 : wq_ml 1 154 = some (29, 4, 1, 1) := by decide +kernel
theorem lm_1_93 : wq_ml 1 93 = some (30, 1, 1, 1) := by decide +kernel
theorem lm_1_194 : wq_ml 1 194 = some (31, 2, 0, 0) := by decide +kernel
theorem lm_1_96 : wq_ml 1 96 = some (32, 1, 1, 1) := by decide +kernel
theorem lm_1_207 : wq_ml 1 207 = some (33, 1, 1, 1) := by decide +kernel
theorem lm_1_99 : wq_ml 1 99 = some (34, 1, 1, 1) := by decide +kernel
theorem lm_1_51 : wq_ml 1 51 = some (35, 1, 1, 1) := by decide +kernel
theorem lm_1_217 : wq_ml 1 217 = some (36, 2, 0, 0) := by decide +kernel
theorem lm_1_102 : wq_ml 1 102 = some (37, 1, 1, 1) := by decide +kernel
theorem lm_1_105 : wq_ml 1 105 = some (38, 1, 1, 1) := by decide +kernel
theorem lm_1_233 : wq_ml 1 233 = some (39, 1, 1, 7) := by decide +kernel
theorem lm_1_238 : wq_ml 1 238 = some (40, 2, 1, 7) := by decide +kernel
theorem lm_1_108 : wq_ml 1 108 = some (42, 1, 1, 1) := by decide +kernel
theorem lm_1_111 : wq_ml 1 111 = some (43, 1, 1, 1) := by decide +kernel
theorem lm_2_26 : wq_ml 2 26 = some (16, 0, 1, 2) := by decide +kernel
theorem lm_3_28 : wq_ml 3 28 = some (69, 1, 1, 3) := by decide +kernel
theorem lm_3_61 : wq_ml 3 61 = some (31, 2, 0, 0) := by decide +kernel
theorem lm_3_65 : wq_ml 3 65 = some (49, 1, 0, 3) := by decide +kernel
theorem lm_3_32 : wq_ml 3 32 = some (70, 2, 1, 3) := by decide +kernel
theorem lm_3_78 : wq_ml 3 78 = some (71, 2, 1, 3) := by decide +kernel
theorem lm_3_106 : wq_ml 3 106 = some (75, 2, 1, 3) := by decide +kernel
theorem lm_3_92 : wq_ml 3 92 = some (72, 1, 1, 3) := by decide +kernel
theorem lm_3_96 : wq_ml 3 96 = some (76, 2, 1, 7) := by decide +kernel
theorem lm_3_99 : wq_ml 3 99 = some (36, 2, 0, 0) := by decide +kernel
theorem lm_3_118 : wq_ml 3 118 = some (80, 0, 1, 3) := by decide +kernel
theorem lm_3_122 : wq_ml 3 122 = some (81, 1, 1, 3) := by decide +kernel
theorem lm_3_88 : wq_ml 3 88 = some (45, 0, 1, 7) := by decide +kernel
theorem lm_4_36 : wq_ml 4 36 = some (86, 0, 1, 4) := by decide +kernel
theorem lm_4_39 : wq_ml 4 39 = some (87, 1, 1, 3) := by decide +kernel
theorem lm_4_51 : wq_ml 4 51 = some (79, 1, 1, 3) := by decide +kernel
theorem lm_4_55 : wq_ml 4 55 = some (88, 3, 1, 4) := by decide +kernel
theorem lm_4_82 : wq_ml 4 82 = some (89, 1, 1, 3) := by decide +kernel
theorem lm_4_86 : wq_ml 4 86 = some (58, 1, 1, 8) := by decide +kernel
theorem lm_4_97 : wq_ml 4 97 = some (72, 1, 1, 3) := by decide +kernel
theorem lm_4_100 : wq_ml 4 100 = some (90, 2, 1, 4) := by decide +kernel
theorem lm_4_59 : wq_ml 4 59 = some (91, 1, 1, 3) := by decide +kernel
theorem lm_4_113 : wq_ml 4 113 = some (95, 1, 1, 4) := by decide +kernel
theorem lm_4_122 : wq_ml 4 122 = some (36, 2, 0, 0) := by decide +kernel
theorem lm_4_126 : wq_ml 4 126 = some (100, 3, 1, 4) := by decide +kernel
theorem lm_4_132 : wq_ml 4 132 = some (111, 3, 0, 4) := by decide +kernel
theorem lm_4_135 : wq_ml 4 135 = some (96, 2, 1, 7) := by decide +kernel
theorem lm_4_141 : wq_ml 4 141 = some (116, 3, 0, 4) := by decide +kernel
theorem lm_5_24 : wq_ml 5 24 = some (123, 2, 1, 5) := by decide +kernel
theorem lm_5_42 : wq_ml 5 42 = some (124, 2, 1, 4) := by decide +kernel
theorem lm_5_32 : wq_ml 5 32 = some (125, 1, 1, 5) := by decide +kernel
theorem lm_5_51 : wq_ml 5 51 = some (126, 1, 0, 15) := by decide +kernel
theorem lm_5_57 : wq_ml 5 57 = some (127, 2, 1, 5) := by decide +kernel
theorem lm_5_61 : wq_ml 5 61 = some (128, 3, 0, 5) := by decide +kernel
theorem lm_5_67 : wq_ml 5 67 = some (36, 2, 0, 0) := by decide +kernel
theorem lm_5_71 : wq_ml 5 71 = some (96, 2, 1, 7) := by decide +kernel
theorem lm_5_64 : wq_ml 5 64 = some (129, 1, 1, 5) := by decide +kernel
theorem lm_5_36 : wq_ml 5 36 = some (116, 3, 0, 4) := by decide +kernel
theorem lm_6_28 : wq_ml 6 28 = some (87, 1, 1, 3) := by decide +kernel
theorem lm_6_43 : wq_ml 6 43 = some (89, 1, 1, 3) := by decide +kernel
theorem lm_6_47 : wq_ml 6 47 = some (80, 0, 1, 3) := by decide +kernel
theorem lm_6_51 : wq_ml 6 51 = some (81, 1, 1, 3) := by decide +kernel
theorem lm_6_61 : wq_ml 6 61 = some (91, 1, 1, 3) := by decide +kernel
theorem lm_6_64 : wq_ml 6 64 = some (139, 2, 1, 6) := by decide +kernel
theorem lm_6_84 : wq_ml 6 84 = some (140, 2, 0, 6) := by decide +kernel
theorem lm_6_94 : wq_ml 6 94 = some (72, 1, 1, 3) := by decide +kernel
theorem lm_6_97 : wq_ml 6 97 = some (76, 2, 1, 7) := by decide +kernel
theorem lm_6_72 : wq_ml 6 72 = some (141, 1, 1, 6) := by decide +kernel
theorem lm_6_100 : wq_ml 6 100 = some (142, 2, 1, 6) := by decide +kernel
theorem lm_6_104 : wq_ml 6 104 = some (143, 3, 0, 6) := by decide +kernel
theorem lm_6_108 : wq_ml 6 108 = some (126, 1, 0, 15) := by decide +kernel
theorem lm_6_75 : wq_ml 6 75 = some (144, 1, 1, 6) := by decide +kernel
theorem lm_6_78 : wq_ml 6 78 = some (145, 1, 1, 6) := by decide +kernel
theorem lm_7_89 : wq_ml 7 89 = some (41, 0, 1, 7) := by decide +kernel
theorem lm_7_96 : wq_ml 7 96 = some (45, 0, 1, 7) := by decide +kernel
theorem lm_7_92 : wq_ml 7 92 = some (31, 2, 0, 0) := by decide +kernel
theorem lm_7_99 : wq_ml 7 99 = some (46, 1, 1, 7) := by decide +kernel
theorem lm_7_103 : wq_ml 7 103 = some (47, 2, 1, 8) := by decide +kernel
theorem lm_7_113 : wq_ml 7 113 = some (126, 1, 0, 15) := by decide +kernel
theorem lm_7_118 : wq_ml 7 118 = some (151, 1, 1, 7) := by decide +kernel
theorem lm_7_121 : wq_ml 7 121 = some (36, 2, 0, 0) := by decide +kernel
theorem lm_8_58 : wq_ml 8 58 = some (48, 4, 1, 8) := by decide +kernel
theorem lm_8_78 : wq_ml 8 78 = some (49, 1, 0, 3) := by decide +kernel
theorem lm_8_74 : wq_ml 8 74 = some (31, 2, 0, 0) := by decide +kernel
theorem lm_9_54 : wq_ml 9 54 = some (170, 1, 1, 9) := by decide +kernel
theorem lm_9_333 : wq_ml 9 333 = some (171, 0, 2, 10) := by decide +kernel
theorem lm_9_118 : wq_ml 9 118 = some (172, 0, 1, 9) := by decide +kernel
theorem lm_9_81 : wq_ml 9 81 = some (173, 1, 1, 9) := by decide +kernel
theorem lm_9_90 : wq_ml 9 90 = some (174, 1, 0, 9) := by decide +kernel
theorem lm_9_98 : wq_ml 9 98 = some (175, 1, 0, 9) := by decide +kernel
theorem lm_9_334 : wq_ml 9 334 = some (176, 0, 1, 9) := by decide +kernel
theorem lm_9_179 : wq_ml 9 179 = some (177, 0, 1, 9) := by decide +kernel
theorem lm_9_114 : wq_ml 9 114 = some (178, 1, 1, 9) := by decide +kernel
theorem lm_9_110 : wq_ml 9 110 = some (179, 1, 0, 9) := by decide +kernel
theorem lm_9_191 : wq_ml 9 191 = some (180, 0, 1, 9) := by decide +kernel
theorem lm_9_121 : wq_ml 9 121 = some (181, 1, 1, 9) := by decide +kernel
theorem lm_9_216 : wq_ml 9 216 = some (182, 3, 1, 9) := by decide +kernel
theorem lm_9_133 : wq_ml 9 133 = some (183, 1, 1, 9) := by decide +kernel
theorem lm_9_137 : wq_ml 9 137 = some (184, 2, 1, 9) := by decide +kernel
theorem lm_9_129 : wq_ml 9 129 = some (185, 2, 1, 9) := by decide +kernel
theorem lm_9_125 : wq_ml 9 125 = some (186, 3, 0, 9) := by decide +kernel
theorem lm_9_194 : wq_ml 9 194 = some (187, 0, 1, 9) := by decide +kernel
theorem lm_9_228 : wq_ml 9 228 = some (188, 2, 1, 9) := by decide +kernel
theorem lm_9_162 : wq_ml 9 162 = some (189, 0, 1, 9) := by decide +kernel
theorem lm_9_170 : wq_ml 9 170 = some (190, 1, 1, 10) := by decide +kernel
theorem lm_9_235 : wq_ml 9 235 = some (191, 2, 0, 9) := by decide +kernel
theorem lm_9_240 : wq_ml 9 240 = some (192, 1, 1, 9) := by decide +kernel
theorem lm_9_197 : wq_ml 9 197 = some (193, 0, 1, 9) := by decide +kernel
theorem lm_9_273 : wq_ml 9 273 = some (194, 0, 1, 9) := by decide +kernel
theorem lm_9_176 : wq_ml 9 176 = some (195, 0, 1, 9) := by decide +kernel
theorem lm_9_200 : wq_ml 9 200 = some (196, 0, 1, 9) := by decide +kernel
theorem lm_9_279 : wq_ml 9 279 = some (197, 1, 1, 9) := by decide +kernel
theorem lm_9_203 : wq_ml 9 203 = some (198, 0, 1, 9) := by decide +kernel
theorem lm_9_206 : wq_ml 9 206 = some (199, 0, 1, 9) := by decide +kernel
theorem lm_9_209 : wq_ml 9 209 = some (200, 0, 1, 9) := by decide +kernel
theorem lm_9_309 : wq_ml 9 309 = some (201, 0, 1, 9) := by decide +kernel
theorem lm_9_318 : wq_ml 9 318 = some (202, 2, 0, 9) := by decide +kernel
theorem lm_9_212 : wq_ml 9 212 = some (203, 0, 1, 9) := by decide +kernel
theorem lm_9_182 : wq_ml 9 182 = some (204, 1, 1, 9) := by decide +kernel
theorem lm_9_346 : wq_ml 9 346 = some (205, 2, 0, 9) := by decide +kernel
theorem lm_9_350 : wq_ml 9 350 = some (206, 0, 1, 9) := by decide +kernel
theorem lm_9_357 : wq_ml 9 357 = some (207, 0, 1, 9) := by decide +kernel
theorem lm_9_360 : wq_ml 9 360 = some (208, 5, 1, 9) := by decide +kernel
theorem lm_9_58 : wq_ml 9 58 = some (209, 1, 1, 9) := by decide +kernel
theorem lm_9_364 : wq_ml 9 364 = some (213, 1, 1, 9) := by decide +kernel
theorem lm_9_367 : wq_ml 9 367 = some (215, 2, 1, 9) := by decide +kernel
theorem lm_9_370 : wq_ml 9 370 = some (216, 2, 1, 9) := by decide +kernel
theorem lm_9_373 : wq_ml 9 373 = some (218, 1, 1, 9) := by decide +kernel
theorem lm_9_376 : wq_ml 9 376 = some (220, 0, 1, 9) := by decide +kernel
theorem lm_9_380 : wq_ml 9 380 = some (221, 1, 1, 9) := by decide +kernel
theorem lm_9_400 : wq_ml 9 400 = some (223, 1, 1, 9) := by decide +kernel
theorem lm_9_403 : wq_ml 9 403 = some (224, 0, 1, 9) := by decide +kernel
theorem lm_9_406 : wq_ml 9 406 = some (227, 0, 1, 9) := by decide +kernel
theorem lm_9_386 : wq_ml 9 386 = some (228, 2, 1, 9) := by decide +kernel
theorem lm_9_384 : wq_ml 9 384 = some (229, 1, 1, 9) := by decide +kernel
theorem lm_9_412 : wq_ml 9 412 = some (231, 0, 1, 9) := by decide +kernel
theorem lm_9_415 : wq_ml 9 415 = some (232, 0, 1, 9) := by decide +kernel
theorem lm_9_409 : wq_ml 9 409 = some (233, 1, 1, 9) := by decide +kernel
theorem lm_9_390 : wq_ml 9 390 = some (234, 2, 1, 9) := by decide +kernel
theorem lm_9_393 : wq_ml 9 393 = some (235, 1, 1, 9) := by decide +kernel
theorem lm_9_418 : wq_ml 9 418 = some (238, 1, 1, 9) := by decide +kernel
theorem lm_9_397 : wq_ml 9 397 = some (239, 2, 1, 9) := by decide +kernel
theorem lm_9_433 : wq_ml 9 433 = some (241, 1, 1, 9) := by decide +kernel
theorem lm_9_430 : wq_ml 9 430 = some (242, 0, 1, 9) := by decide +kernel
theorem lm_9_425 : wq_ml 9 425 = some (243, 1, 1, 9) := by decide +kernel
theorem lm_9_440 : wq_ml 9 440 = some (247, 2, 1, 9) := by decide +kernel
theorem lm_9_437 : wq_ml 9 437 = some (248, 0, 1, 9) := by decide +kernel
theorem lm_9_444 : wq_ml 9 444 = some (251, 2, 1, 9) := by decide +kernel
theorem lm_9_447 : wq_ml 9 447 = some (253, 1, 1, 9) := by decide +kernel
theorem lm_9_452 : wq_ml 9 452 = some (257, 0, 1, 9) := by decide +kernel
theorem lm_9_455 : wq_ml 9 455 = some (262, 2, 1, 9) := by decide +kernel
theorem lm_9_458 : wq_ml 9 458 = some (264, 3, 1, 9) := by decide +kernel
theorem lm_9_467 : wq_ml 9 467 = some (267, 1, 1, 9) := by decide +kernel
theorem lm_9_470 : wq_ml 9 470 = some (268, 1, 1, 9) := by decide +kernel
theorem lm_9_462 : wq_ml 9 462 = some (269, 1, 0, 9) := by decide +kernel
theorem lm_9_465 : wq_ml 9 465 = some (270, 2, 1, 9) := by decide +kernel
theorem lm_9_473 : wq_ml 9 473 = some (273, 1, 1, 9) := by decide +kernel
theorem lm_9_476 : wq_ml 9 476 = some (274, 1, 1, 9) := by decide +kernel
theorem lm_9_481 : wq_ml 9 481 = some (277, 2, 1, 9) := by decide +kernel
theorem lm_9_484 : wq_ml 9 484 = some (278, 1, 1, 9) := by decide +kernel
theorem lm_9_487 : wq_ml 9 487 = some (280, 1, 1, 9) := by decide +kernel
theorem lm_9_490 : wq_ml 9 490 = some (281, 1, 1, 9) := by decide +kernel
theorem lm_11_19 : wq_ml 11 19 = some (9, 5, 1, 0) := by decide +kernel
theorem lm_11_24 : wq_ml 11 24 = some (11, 1, 1, 0) := by decide +kernel
theorem lm_11_28 : wq_ml 11 28 = some (52, 0, 1, 0) := by decide +kernel
theorem lm_11_33 : wq_ml 11 33 = some (53, 0, 1, 0) := by decide +kernel
theorem lm_11_37 : wq_ml 11 37 = some (54, 1, 1, 0) := by decide +kernel
theorem lm_11_41 : wq_ml 11 41 = some (56, 3, 1, 0) := by decide +kernel
theorem lm_11_46 : wq_ml 11 46 = some (59, 3, 1, 0) := by decide +kernel
theorem lm_11_50 : wq_ml 11 50 = some (61, 0, 1, 0) := by decide +kernel
theorem lm_11_55 : wq_ml 11 55 = some (62, 2, 1, 0) := by decide +kernel
theorem lm_11_60 : wq_ml 11 60 = some (65, 1, 1, 0) := by decide +kernel
theorem lm_11_64 : wq_ml 11 64 = some (66, 1, 1, 0) := by decide +kernel
theorem lm_11_68 : wq_ml 11 68 = some (73, 0, 1, 0) := by decide +kernel
theorem lm_11_72 : wq_ml 11 72 = some (77, 0, 1, 0) := by decide +kernel
theorem lm_11_76 : wq_ml 11 76 = some (78, 0, 1, 0) := by decide +kernel
theorem lm_11_80 : wq_ml 11 80 = some (82, 0, 1, 0) := by decide +kernel
theorem lm_11_84 : wq_ml 11 84 = some (92, 0, 1, 0) := by decide +kernel
theorem lm_11_88 : wq_ml 11 88 = some (93, 2, 1, 0) := by decide +kernel
theorem lm_11_93 : wq_ml 11 93 = some (97, 0, 1, 0) := by decide +kernel
theorem lm_11_97 : wq_ml 11 97 = some (98, 2, 1, 0) := by decide +kernel
theorem lm_11_101 : wq_ml 11 101 = some (99, 2, 1, 0) := by decide +kernel
theorem lm_11_105 : wq_ml 11 105 = some (101, 2, 1, 0) := by decide +kernel
theorem lm_11_109 : wq_ml 11 109 = some (104, 2, 1, 0) := by decide +kernel
theorem lm_11_114 : wq_ml 11 114 = some (105, 2, 1, 0) := by decide +kernel
theorem lm_11_118 : wq_ml 11 118 = some (107, 1, 1, 0) := by decide +kernel
theorem lm_11_122 : wq_ml 11 122 = some (108, 0, 1, 0) := by decide +kernel
theorem lm_11_126 : wq_ml 11 126 = some (109, 2, 1, 0) := by decide +kernel
theorem lm_11_130 : wq_ml 11 130 = some (112, 1, 1, 0) := by decide +kernel
theorem lm_11_135 : wq_ml 11 135 = some (114, 2, 1, 0) := by decide +kernel
theorem lm_11_139 : wq_ml 11 139 = some (117, 2, 1, 0) := by decide +kernel
theorem lm_11_143 : wq_ml 11 143 = some (119, 2, 1, 0) := by decide +kernel
theorem lm_11_147 : wq_ml 11 147 = some (120, 0, 1, 0) := by decide +kernel
theorem lm_11_151 : wq_ml 11 151 = some (130, 1, 1, 0) := by decide +kernel
theorem lm_11_155 : wq_ml 11 155 = some (132, 1, 1, 0) := by decide +kernel
theorem lm_11_159 : wq_ml 11 159 = some (135, 1, 1, 0) := by decide +kernel
theorem lm_11_163 : wq_ml 11 163 = some (137, 0, 1, 0) := by decide +kernel
theorem lm_11_167 : wq_ml 11 167 = some (146, 2, 1, 0) := by decide +kernel
theorem lm_11_171 : wq_ml 11 171 = some (147, 0, 1, 0) := by decide +kernel
theorem lm_11_175 : wq_ml 11 175 = some (149, 0, 1, 0) := by decide +kernel
theorem lm_11_179 : wq_ml 11 179 = some (152, 1, 1, 0) := by decide +kernel
theorem lm_11_183 : wq_ml 11 183 = some (153, 2, 1, 0) := by decide +kernel
theorem lm_11_187 : wq_ml 11 187 = some (154, 1, 1, 0) := by decide +kernel
theorem lm_11_192 : wq_ml 11 192 = some (155, 1, 1, 0) := by decide +kernel
theorem lm_11_196 : wq_ml 11 196 = some (156, 0, 1, 0) := by decide +kernel
theorem lm_11_200 : wq_ml 11 200 = some (157, 2, 1, 0) := by decide +kernel
theorem lm_11_204 : wq_ml 11 204 = some (158, 0, 1, 0) := by decide +kernel
theorem lm_11_209 : wq_ml 11 209 = some (159, 0, 1, 0) := by decide +kernel
theorem lm_11_215 : wq_ml 11 215 = some (161, 1, 1, 0) := by decide +kernel
theorem lm_11_226 : wq_ml 11 226 = some (164, 1, 1, 0) := by decide +kernel
theorem lm_11_230 : wq_ml 11 230 = some (165, 0, 1, 0) := by decide +kernel
theorem lm_11_7 : wq_ml 11 7 = some (166, 1, 1, 0) := by decide +kernel
theorem lm_11_23 : wq_ml 11 23 = some (168, 5, 1, 9) := by decide +kernel
theorem lm_11_27 : wq_ml 11 27 = some (169, 1, 1, 9) := by decide +kernel
theorem lm_11_32 : wq_ml 11 32 = some (210, 0, 1, 9) := by decide +kernel
theorem lm_11_36 : wq_ml 11 36 = some (211, 0, 1, 9) := by decide +kernel
theorem lm_11_40 : wq_ml 11 40 = some (212, 1, 1, 9) := by decide +kernel
theorem lm_11_45 : wq_ml 11 45 = some (214, 3, 1, 9) := by decide +kernel
theorem lm_11_49 : wq_ml 11 49 = some (217, 3, 1, 9) := by decide +kernel
theorem lm_11_54 : wq_ml 11 54 = some (219, 0, 1, 9) := by decide +kernel
theorem lm_11_59 : wq_ml 11 59 = some (222, 2, 1, 9) := by decide +kernel
theorem lm_11_63 : wq_ml 11 63 = some (225, 1, 1, 9) := by decide +kernel
theorem lm_11_67 : wq_ml 11 67 = some (226, 1, 1, 9) := by decide +kernel
theorem lm_11_71 : wq_ml 11 71 = some (230, 0, 1, 9) := by decide +kernel
theorem lm_11_75 : wq_ml 11 75 = some (236, 0, 1, 9) := by decide +kernel
theorem lm_11_79 : wq_ml 11 79 = some (237, 0, 1, 9) := by decide +kernel
theorem lm_11_83 : wq_ml 11 83 = some (240, 0, 1, 9) := by decide +kernel
theorem lm_11_87 : wq_ml 11 87 = some (244, 0, 1, 9) := by decide +kernel
theorem lm_11_92 : wq_ml 11 92 = some (245, 2, 1, 9) := by decide +kernel
theorem lm_11_96 : wq_ml 11 96 = some (246, 0, 1, 9) := by decide +kernel
theorem lm_11_100 : wq_ml 11 100 = some (249, 2, 1, 9) := by decide +kernel
theorem lm_11_104 : wq_ml 11 104 = some (250, 2, 1, 9) := by decide +kernel
theorem lm_11_108 : wq_ml 11 108 = some (252, 2, 1, 9) := by decide +kernel
theorem lm_11_113 : wq_ml 11 113 = some (254, 2, 1, 9) := by decide +kernel
theorem lm_11_117 : wq_ml 11 117 = some (255, 2, 1, 9) := by decide +kernel
theorem lm_11_121 : wq_ml 11 121 = some (256, 1, 1, 9) := by decide +kernel
theorem lm_11_125 : wq_ml 11 125 = some (258, 0, 1, 9) := by decide +kernel
theorem lm_11_129 : wq_ml 11 129 = some (259, 2, 1, 9) := by decide +kernel
theorem lm_11_134 : wq_ml 11 134 = some (260, 1, 1, 9) := by decide +kernel
theorem lm_11_138 : wq_ml 11 138 = some (261, 2, 1, 9) := by decide +kernel
theorem lm_11_142 : wq_ml 11 142 = some (263, 2, 1, 9) := by decide +kernel
theorem lm_11_146 : wq_ml 11 146 = some (265, 2, 1, 9) := by decide +kernel
theorem lm_11_150 : wq_ml 11 150 = some (266, 0, 1, 9) := by decide +kernel
theorem lm_11_154 : wq_ml 11 154 = some (271, 1, 1, 9) := by decide +kernel
theorem lm_11_158 : wq_ml 11 158 = some (272, 1, 1, 9) := by decide +kernel
theorem lm_11_162 : wq_ml 11 162 = some (275, 1, 1, 9) := by decide +kernel
theorem lm_11_166 : wq_ml 11 166 = some (276, 0, 1, 9) := by decide +kernel
theorem lm_11_170 : wq_ml 11 170 = some (279, 2, 1, 9) := by decide +kernel
theorem lm_11_174 : wq_ml 11 174 = some (282, 0, 1, 9) := by decide +kernel
theorem lm_11_178 : wq_ml 11 178 = some (283, 0, 1, 9) := by decide +kernel
theorem lm_11_182 : wq_ml 11 182 = some (284, 1, 1, 9) := by decide +kernel
theorem lm_11_186 : wq_ml 11 186 = some (285, 2, 1, 9) := by decide +kernel
theorem lm_11_191 : wq_ml 11 191 = some (286, 1, 1, 9) := by decide +kernel
theorem lm_11_195 : wq_ml 11 195 = some (287, 1, 1, 9) := by decide +kernel
theorem lm_11_199 : wq_ml 11 199 = some (288, 0, 1, 9) := by decide +kernel
theorem lm_11_203 : wq_ml 11 203 = some (289, 2, 1, 9) := by decide +kernel
theorem lm_11_208 : wq_ml 11 208 = some (290, 0, 1, 9) := by decide +kernel
theorem lm_11_212 : wq_ml 11 212 = some (291, 0, 1, 9) := by decide +kernel
theorem lm_11_219 : wq_ml 11 219 = some (292, 1, 1, 9) := by decide +kernel
theorem lm_11_225 : wq_ml 11 225 = some (293, 1, 1, 9) := by decide +kernel
theorem lm_11_229 : wq_ml 11 229 = some (294, 1, 1, 9) := by decide +kernel
theorem lm_11_233 : wq_ml 11 233 = some (295, 0, 1, 9) := by decide +kernel
theorem sh_1 : wsh 1 = (100 + 0, 13) := rfl
theorem ty_1_2 : wty 1 2 = (2, 0, 0, 6) := rfl
theorem ty_1_4 : wty 1 4 = (2, 0, 0, 20) := rfl
theorem ty_1_5 : wty 1 5 = (2, 0, 0, 25) := rfl
theorem ty_1_6 : wty 1 6 = (2, 0, 0, 27) := rfl
theorem ty_1_7 : wty 1 7 = (2, 0, 0, 27) := rfl
theorem ty_1_8 : wty 1 8 = (0, 0, 1, 0) := rfl
theorem ty_1_9 : wty 1 9 = (0, 0, 900, 0) := rfl
theorem ty_1_10 : wty 1 10 = (0, -2147483648, 2147483647, 0) := rfl
theorem ty_1_11 : wty 1 11 = (0, -2147483648, 2147483647, 0) := rfl
theorem ty_1_12 : wty 1 12 = (0, -2147483648, 2147483647, 0) := rfl
theorem sh_2 : wsh 2 = (2, 900) := rfl
theorem ty_2 (j : Nat) : wty 2 j = (0, -128, 127, 0) := rfl
theorem sh_3 : wsh 3 = (100 + 1, 5) := rfl
theorem ty_3_1 : wty 3 1 = (0, -1, 24, 0) := rfl
theorem ty_3_2 : wty 3 2 = (0, -1, 24, 0) := rfl
theorem ty_3_3 : wty 3 3 = (0, -2147483648, 2147483647, 0) := rfl
theorem ty_3_4 : wty 3 4 = (0, -2147483648, 2147483647, 0) := rfl
theorem sh_4 : wsh 4 = (100 + 2, 7) := rfl
theorem ty_4_0 : wty 4 0 = (4, 5, 0, 2) := rfl
theorem ty_4_1 : wty 4 1 = (0, 0, 900, 0) := rfl
theorem ty_4_2 : wty 4 2 = (0, 0, 900, 0) := rfl
theorem ty_4_3 : wty 4 3 = (0, 0, 5, 0) := rfl
theorem ty_4_4 : wty 4 4 = (0, 0, 900, 0) := rfl
theorem ty_4_5 : wty 4 5 = (0, -2147483648, 2147483647, 0) := rfl
theorem ty_4_6 : wty 4 6 = (0, -9223372036854775808, 9223372036854775807, 0) := rfl
theorem sh_6 : wsh 6 = (100 + 3, 6) := rfl
theorem ty_6_0 : wty 6 0 = (2, 0, 0, 7) := rfl
theorem ty_6_1 : wty 6 1 = (2, 0, 0, 8) := rfl
theorem ty_6_2 : wty 6 2 = (2, 0, 0, 9) := rfl
theorem ty_6_3 : wty 6 3 = (2, 0, 0, 10) := rfl
theorem ty_6_4 : wty 6 4 = (2, 0, 0, 11) := rfl
theorem ty_6_5 : wty 6 5 = (0, 0, 6, 0) := rfl
theorem sh_7 : wsh 7 = (0, 6) := rfl
theorem ty_7 (j : Nat) : wty 7 j = (0, 0, 39, 0) := rfl
theorem sh_8 : wsh 8 = (1, 7) := rfl
theorem ty_8 (j : Nat) : wty 8 j = (0, -9223372036854775808, 9223372036854775807, 0) := rfl
theorem sh_9 : wsh 9 = (1, 7) := rfl
theorem ty_9 (j : Nat) : wty 9 j = (0, -9223372036854775808, 9223372036854775807, 0) := rfl
theorem sh_10 : wsh 10 = (0, 7) := rfl
theorem ty_10 (j : Nat) : wty 10 j = (0, -2147483648, 2147483647, 0) := rfl
theorem sh_11 : wsh 11 = (0, 7) := rfl
theorem ty_11 (j : Nat) : wty 11 j = (0, wq0 j, wq1 j, 0) := rfl
theorem wq0_b (j : Nat) : -2147483648 ≤ wq0 j := by
  unfold wq0
  split <;> decide
theorem wq1_b (j : Nat) : wq1 j ≤ 2147483647 := by
  unfold wq1
  split <;> decide
theorem ty_11s {j : Nat} (h : j ≠ 0) : wty 11 j = (0, -2147483648, 2147483647, 0) := by
  rw [ty_11]
  unfold wq0 wq1
  rw [if_neg h, if_neg h]
theorem sh_12 : wsh 12 = (100 + 4, 10) := rfl
theorem ty_12_0 : wty 12 0 = (2, 0, 0, 13) := rfl
theorem ty_12_1 : wty 12 1 = (2, 0, 0, 14) := rfl
theorem ty_12_2 : wty 12 2 = (2, 0, 0, 16) := rfl
theorem ty_12_3 : wty 12 3 = (2, 0, 0, 18) := rfl
theorem ty_12_4 : wty 12 4 = (2, 0, 0, 19) := rfl
theorem ty_12_5 : wty 12 5 = (0, -2147483648, 2147483647, 0) := rfl
theorem ty_12_6 : wty 12 6 = (0, -9223372036854775808, 9223372036854775807, 0) := rfl
theorem ty_12_7 : wty 12 7 = (0, 0, 19999, 0) := rfl
theorem ty_12_8 : wty 12 8 = (0, -9223372036854775808, 9223372036854775807, 0) := rfl
theorem ty_12_9 : wty 12 9 = (0, 0, 1, 0) := rfl
theorem sh_13 : wsh 13 = (1, 313) := rfl
theorem ty_13 (j : Nat) : wty 13 j = (0, -9223372036854775808, 9223372036854775807, 0) := rfl
theorem sh_14 : wsh 14 = (5, 6) := rfl
theorem ty_14 (j : Nat) : wty 14 j = (2, 0, 0, 15) := rfl
theorem sh_15 : wsh 15 = (0, 40) := rfl
theorem ty_15 (j : Nat) : wty 15 j = (0, -2147483648, 2147483647, 0) := rfl
theorem sh_16 : wsh 16 = (6, 6) := rfl
theorem ty_16 (j : Nat) : wty 16 j = (2, 0, 0, 17) := rfl
theorem sh_17 : wsh 17 = (1, 40) := rfl
theorem ty_17 (j : Nat) : wty 17 j = (0, -9223372036854775808, 9223372036854775807, 0) := rfl
theorem sh_18 : wsh 18 = (0, 24) := rfl
theorem ty_18 (j : Nat) : wty 18 j = (0, -2147483648, 2147483647, 0) := rfl
theorem sh_19 : wsh 19 = (0, 24) := rfl
theorem ty_19 (j : Nat) : wty 19 j = (0, -2147483648, 2147483647, 0) := rfl
theorem sh_20 : wsh 20 = (100 + 5, 5) := rfl
theorem ty_20_0 : wty 20 0 = (2, 0, 0, 21) := rfl
theorem ty_20_1 : wty 20 1 = (2, 0, 0, 22) := rfl
theorem ty_20_2 : wty 20 2 = (2, 0, 0, 23) := rfl
theorem ty_20_3 : wty 20 3 = (2, 0, 0, 24) := rfl
theorem ty_20_4 : wty 20 4 = (0, 0, 400, 0) := rfl
theorem sh_21 : wsh 21 = (0, 400) := rfl
theorem ty_21 (j : Nat) : wty 21 j = (0, 0, 19999, 0) := rfl
theorem sh_22 : wsh 22 = (0, 400) := rfl
theorem ty_22 (j : Nat) : wty 22 j = (0, -2147483648, 2147483647, 0) := rfl
theorem sh_23 : wsh 23 = (0, 400) := rfl
theorem ty_23 (j : Nat) : wty 23 j = (0, -2147483648, 2147483647, 0) := rfl
theorem sh_24 : wsh 24 = (0, 1024) := rfl
theorem ty_24 (j : Nat) : wty 24 j = (0, -1, 399, 0) := rfl
theorem sh_25 : wsh 25 = (100 + 6, 3) := rfl
theorem ty_25_0 : wty 25 0 = (2, 0, 0, 26) := rfl
theorem ty_25_1 : wty 25 1 = (0, 0, 5000, 0) := rfl
theorem ty_25_2 : wty 25 2 = (0, 0, 4999, 0) := rfl
theorem sh_26 : wsh 26 = (1, 5000) := rfl
theorem ty_26 (j : Nat) : wty 26 j = (0, -9223372036854775808, 9223372036854775807, 0) := rfl
theorem sh_27 : wsh 27 = (100 + 7, 19) := rfl
theorem ty_27_0 : wty 27 0 = (2, 0, 0, 28) := rfl
theorem ty_27_1 : wty 27 1 = (2, 0, 0, 29) := rfl
theorem ty_27_2 : wty 27 2 = (2, 0, 0, 30) := rfl
theorem ty_27_3 : wty 27 3 = (2, 0, 0, 31) := rfl
theorem ty_27_4 : wty 27 4 = (2, 0, 0, 32) := rfl
theorem ty_27_5 : wty 27 5 = (2, 0, 0, 33) := rfl
theorem ty_27_6 : wty 27 6 = (2, 0, 0, 34) := rfl
theorem ty_27_7 : wty 27 7 = (0, 0, 24, 0) := rfl
theorem ty_27_8 : wty 27 8 = (0, -2147483648, 2147483647, 0) := rfl
theorem ty_27_9 : wty 27 9 = (0, -2147483648, 2147483647, 0) := rfl
theorem ty_27_10 : wty 27 10 = (0, 0, 6, 0) := rfl
theorem ty_27_11 : wty 27 11 = (0, -2147483648, 2147483647, 0) := rfl
theorem ty_27_12 : wty 27 12 = (0, 0, 3, 0) := rfl
theorem ty_27_13 : wty 27 13 = (0, 0, 4, 0) := rfl
theorem ty_27_14 : wty 27 14 = (0, 0, 6, 0) := rfl
theorem ty_27_15 : wty 27 15 = (0, -2147483648, 2147483647, 0) := rfl
theorem ty_27_16 : wty 27 16 = (0, 0, 24, 0) := rfl
theorem ty_27_17 : wty 27 17 = (0, 0, 2147483647, 0) := rfl
theorem ty_27_18 : wty 27 18 = (0, -9223372036854775808, 9223372036854775807, 0) := rfl
theorem sh_28 : wsh 28 = (4, 6) := rfl
theorem ty_28 (j : Nat) : wty 28 j = (2, 0, 0, 35) := rfl
theorem sh_29 : wsh 29 = (0, 24) := rfl
theorem ty_29 (j : Nat) : wty 29 j = (0, -2147483648, 2147483647, 0) := rfl
theorem sh_30 : wsh 30 = (0, 24) := rfl
theorem ty_30 (j : Nat) : wty 30 j = (0, 0, 23, 0) := rfl
theorem sh_31 : wsh 31 = (0, 3) := rfl
theorem ty_31 (j : Nat) : wty 31 j = (0, -2147483648, 2147483647, 0) := rfl
theorem sh_32 : wsh 32 = (0, 4) := rfl
theorem ty_32 (j : Nat) : wty 32 j = (0, 0, 5, 0) := rfl
theorem sh_33 : wsh 33 = (0, 4) := rfl
theorem ty_33 (j : Nat) : wty 33 j = (0, -2147483648, 2147483647, 0) := rfl
theorem sh_34 : wsh 34 = (0, 6) := rfl
theorem ty_34 (j : Nat) : wty 34 j = (0, -2147483648, 2147483647, 0) := rfl
theorem sh_35 : wsh 35 = (100 + 8, 18) := rfl
theorem ty_35_0 : wty 35 0 = (2, 0, 0, 36) := rfl
theorem ty_35_1 : wty 35 1 = (2, 0, 0, 37) := rfl
theorem ty_35_2 : wty 35 2 = (2, 0, 0, 38) := rfl
theorem ty_35_3 : wty 35 3 = (2, 0, 0, 39) := rfl
theorem ty_35_4 : wty 35 4 = (2, 0, 0, 40) := rfl
theorem ty_35_5 : wty 35 5 = (2, 0, 0, 41) := rfl
theorem ty_35_6 : wty 35 6 = (0, -9223372036854775808, 9223372036854775807, 0) := rfl
theorem ty_35_7 : wty 35 7 = (0, -1, 24, 0) := rfl
theorem ty_35_8 : wty 35 8 = (0, -1, 24, 0) := rfl
theorem ty_35_9 : wty 35 9 = (0, -1, 24, 0) := rfl
theorem ty_35_10 : wty 35 10 = (0, -1, 24, 0) := rfl
theorem ty_35_11 : wty 35 11 = (0, -1, 23, 0) := rfl
theorem ty_35_12 : wty 35 12 = (0, -2147483648, 2147483647, 0) := rfl
theorem ty_35_13 : wty 35 13 = (0, 0, 1, 0) := rfl
theorem ty_35_14 : wty 35 14 = (0, -2147483648, 2147483647, 0) := rfl
theorem ty_35_15 : wty 35 15 = (0, 0, 40, 0) := rfl
theorem ty_35_16 : wty 35 16 = (0, 0, 39, 0) := rfl
theorem ty_35_17 : wty 35 17 = (0, -2147483648, 2147483647, 0) := rfl
theorem sh_36 : wsh 36 = (0, 40) := rfl
theorem ty_36 (j : Nat) : wty 36 j = (0, -1, 24, 0) := rfl
theorem sh_37 : wsh 37 = (0, 40) := rfl
theorem ty_37 (j : Nat) : wty 37 j = (0, -1, 24, 0) := rfl
theorem sh_38 : wsh 38 = (0, 40) := rfl
theorem ty_38 (j : Nat) : wty 38 j = (0, -2147483648, 2147483647, 0) := rfl
theorem sh_39 : wsh 39 = (0, 40) := rfl
theorem ty_39 (j : Nat) : wty 39 j = (0, -2147483648, 2147483647, 0) := rfl
theorem sh_40 : wsh 40 = (1, 40) := rfl
theorem ty_40 (j : Nat) : wty 40 j = (0, -9223372036854775808, 9223372036854775807, 0) := rfl
theorem sh_41 : wsh 41 = (1, 40) := rfl
theorem ty_41 (j : Nat) : wty 41 j = (0, -9223372036854775808, 9223372036854775807, 0) := rfl
theorem sh_42 : wsh 42 = (100 + 9, 33) := rfl
theorem ty_42_0 : wty 42 0 = (0, -2147483648, 2147483647, 0) := rfl
theorem ty_42_1 : wty 42 1 = (0, -2147483648, 2147483647, 0) := rfl
theorem ty_42_2 : wty 42 2 = (0, -2147483648, 2147483647, 0) := rfl
theorem ty_42_3 : wty 42 3 = (3, 0, 0, 54) := rfl
theorem ty_42_4 : wty 42 4 = (3, 0, 0, 54) := rfl
theorem ty_42_6 : wty 42 6 = (0, 0, 900, 0) := rfl
theorem ty_42_7 : wty 42 7 = (0, 0, 900, 0) := rfl
theorem ty_42_8 : wty 42 8 = (0, 0, 900, 0) := rfl
theorem ty_42_9 : wty 42 9 = (0, 0, 5, 0) := rfl
theorem ty_42_10 : wty 42 10 = (0, -2147483648, 2147483647, 0) := rfl
theorem ty_42_11 : wty 42 11 = (0, -2147483648, 2147483647, 0) := rfl
theorem ty_42_12 : wty 42 12 = (0, -2147483648, 2147483647, 0) := rfl
theorem ty_42_13 : wty 42 13 = (0, -2147483648, 2147483647, 0) := rfl
theorem ty_42_14 : wty 42 14 = (0, -2147483648, 2147483647, 0) := rfl
theorem ty_42_15 : wty 42 15 = (0, -9223372036854775808, 9223372036854775807, 0) := rfl
theorem ty_42_16 : wty 42 16 = (0, 0, 24, 0) := rfl
theorem ty_42_17 : wty 42 17 = (0, -2147483648, 2147483647, 0) := rfl
theorem ty_42_18 : wty 42 18 = (0, -2147483648, 2147483647, 0) := rfl
theorem ty_42_19 : wty 42 19 = (0, -2147483648, 2147483647, 0) := rfl
theorem ty_42_20 : wty 42 20 = (2, 0, 0, 44) := rfl
theorem ty_42_21 : wty 42 21 = (2, 0, 0, 45) := rfl
theorem ty_42_22 : wty 42 22 = (2, 0, 0, 46) := rfl
theorem ty_42_23 : wty 42 23 = (2, 0, 0, 47) := rfl
theorem ty_42_24 : wty 42 24 = (2, 0, 0, 48) := rfl
theorem ty_42_25 : wty 42 25 = (2, 0, 0, 49) := rfl
theorem ty_42_26 : wty 42 26 = (2, 0, 0, 50) := rfl
theorem ty_42_27 : wty 42 27 = (2, 0, 0, 51) := rfl
theorem ty_42_28 : wty 42 28 = (0, 0, 1, 0) := rfl
theorem ty_42_29 : wty 42 29 = (0, 0, 20000, 0) := rfl
theorem ty_42_30 : wty 42 30 = (2, 0, 0, 52) := rfl
theorem ty_42_31 : wty 42 31 = (2, 0, 0, 53) := rfl
theorem ty_42_32 : wty 42 32 = (0, 0, 2147483647, 0) := rfl
theorem sh_43 : wsh 43 = (2, 900) := rfl
theorem ty_43 (j : Nat) : wty 43 j = (0, -128, 127, 0) := rfl
theorem sh_44 : wsh 44 = (0, 24) := rfl
theorem ty_44 (j : Nat) : wty 44 j = (0, -2147483648, 2147483647, 0) := rfl
theorem sh_45 : wsh 45 = (0, 6) := rfl
theorem ty_45 (j : Nat) : wty 45 j = (0, 0, 40, 0) := rfl
theorem sh_46 : wsh 46 = (0, 240) := rfl
theorem ty_46 (j : Nat) : wty 46 j = (0, 0, 30, 0) := rfl
theorem sh_47 : wsh 47 = (0, 240) := rfl
theorem ty_47 (j : Nat) : wty 47 j = (0, 0, 16, 0) := rfl
theorem sh_48 : wsh 48 = (0, 240) := rfl
theorem ty_48 (j : Nat) : wty 48 j = (0, -2147483648, 2147483647, 0) := rfl
theorem sh_49 : wsh 49 = (0, 240) := rfl
theorem ty_49 (j : Nat) : wty 49 j = (0, -2147483648, 2147483647, 0) := rfl
theorem sh_50 : wsh 50 = (0, 6) := rfl
theorem ty_50 (j : Nat) : wty 50 j = (0, 0, 39, 0) := rfl
theorem sh_51 : wsh 51 = (0, 6) := rfl
theorem ty_51 (j : Nat) : wty 51 j = (0, 0, 39, 0) := rfl
theorem sh_52 : wsh 52 = (0, 20000) := rfl
theorem ty_52 (j : Nat) : wty 52 j = (0, 0, 19999, 0) := rfl
theorem sh_53 : wsh 53 = (0, 6) := rfl
theorem ty_53 (j : Nat) : wty 53 j = (0, 0, 39, 0) := rfl
theorem sh_54 : wsh 54 = (100 + 10, 27) := rfl
theorem ty_54_0 : wty 54 0 = (0, 0, 24, 0) := rfl
theorem ty_54_1 : wty 54 1 = (0, -2147483648, 2147483647, 0) := rfl
theorem ty_54_2 : wty 54 2 = (0, -2147483648, 2147483647, 0) := rfl
theorem ty_54_3 : wty 54 3 = (0, 0, 6, 0) := rfl
theorem ty_54_4 : wty 54 4 = (0, 0, 3, 0) := rfl
theorem ty_54_5 : wty 54 5 = (0, 0, 3, 0) := rfl
theorem ty_54_6 : wty 54 6 = (0, 0, 4, 0) := rfl
theorem ty_54_7 : wty 54 7 = (0, 0, 6, 0) := rfl
theorem ty_54_8 : wty 54 8 = (0, -2147483648, 2147483647, 0) := rfl
theorem ty_54_9 : wty 54 9 = (2, 0, 0, 55) := rfl
theorem ty_54_10 : wty 54 10 = (2, 0, 0, 56) := rfl
theorem ty_54_11 : wty 54 11 = (2, 0, 0, 57) := rfl
theorem ty_54_12 : wty 54 12 = (2, 0, 0, 58) := rfl
theorem ty_54_13 : wty 54 13 = (2, 0, 0, 59) := rfl
theorem ty_54_14 : wty 54 14 = (2, 0, 0, 60) := rfl
theorem ty_54_15 : wty 54 15 = (2, 0, 0, 61) := rfl
theorem ty_54_16 : wty 54 16 = (2, 0, 0, 62) := rfl
theorem ty_54_17 : wty 54 17 = (2, 0, 0, 63) := rfl
theorem ty_54_18 : wty 54 18 = (2, 0, 0, 64) := rfl
theorem ty_54_19 : wty 54 19 = (2, 0, 0, 65) := rfl
theorem ty_54_20 : wty 54 20 = (2, 0, 0, 66) := rfl
theorem ty_54_21 : wty 54 21 = (2, 0, 0, 67) := rfl
theorem ty_54_22 : wty 54 22 = (2, 0, 0, 68) := rfl
theorem ty_54_23 : wty 54 23 = (2, 0, 0, 69) := rfl
theorem ty_54_24 : wty 54 24 = (2, 0, 0, 70) := rfl
theorem ty_54_25 : wty 54 25 = (2, 0, 0, 71) := rfl
theorem ty_54_26 : wty 54 26 = (2, 0, 0, 72) := rfl
theorem sh_55 : wsh 55 = (1, 6) := rfl
theorem ty_55 (j : Nat) : wty 55 j = (0, -9223372036854775808, 9223372036854775807, 0) := rfl
theorem sh_56 : wsh 56 = (0, 6) := rfl
theorem ty_56 (j : Nat) : wty 56 j = (0, 0, 23, 0) := rfl
theorem sh_57 : wsh 57 = (0, 6) := rfl
theorem ty_57 (j : Nat) : wty 57 j = (0, 0, 30, 0) := rfl
theorem sh_58 : wsh 58 = (0, 6) := rfl
theorem ty_58 (j : Nat) : wty 58 j = (0, 0, 12, 0) := rfl
theorem sh_59 : wsh 59 = (0, 6) := rfl
theorem ty_59 (j : Nat) : wty 59 j = (0, 0, 16, 0) := rfl
theorem sh_60 : wsh 60 = (0, 6) := rfl
theorem ty_60 (j : Nat) : wty 60 j = (0, -1, 23, 0) := rfl
theorem sh_61 : wsh 61 = (0, 6) := rfl
theorem ty_61 (j : Nat) : wty 61 j = (0, -2147483648, 2147483647, 0) := rfl
theorem sh_62 : wsh 62 = (0, 6) := rfl
theorem ty_62 (j : Nat) : wty 62 j = (0, -2147483648, 2147483647, 0) := rfl
theorem sh_63 : wsh 63 = (3, 6) := rfl
theorem ty_63 (j : Nat) : wty 63 j = (0, 0, 1, 0) := rfl
theorem sh_64 : wsh 64 = (0, 3) := rfl
theorem ty_64 (j : Nat) : wty 64 j = (0, 0, 5, 0) := rfl
theorem sh_65 : wsh 65 = (0, 3) := rfl
theorem ty_65 (j : Nat) : wty 65 j = (0, 0, 5, 0) := rfl
theorem sh_66 : wsh 66 = (0, 3) := rfl
theorem ty_66 (j : Nat) : wty 66 j = (0, -2147483648, 2147483647, 0) := rfl
theorem sh_67 : wsh 67 = (0, 24) := rfl
theorem ty_67 (j : Nat) : wty 67 j = (0, -2147483648, 2147483647, 0) := rfl
theorem sh_68 : wsh 68 = (0, 4) := rfl
theorem ty_68 (j : Nat) : wty 68 j = (0, 0, 5, 0) := rfl
theorem sh_69 : wsh 69 = (0, 4) := rfl
theorem ty_69 (j : Nat) : wty 69 j = (0, -2147483648, 2147483647, 0) := rfl
theorem sh_70 : wsh 70 = (0, 4) := rfl
theorem ty_70 (j : Nat) : wty 70 j = (0, -2147483648, 2147483647, 0) := rfl
theorem sh_71 : wsh 71 = (0, 6) := rfl
theorem ty_71 (j : Nat) : wty 71 j = (0, 0, 5, 0) := rfl
theorem sh_72 : wsh 72 = (0, 6) := rfl
theorem ty_72 (j : Nat) : wty 72 j = (0, -2147483648, 2147483647, 0) := rfl
end
section
/-! the reference's products and bounds (own work) -/
/-- a product of the first n -/
def wpr (f : Nat → Int) : Nat → Int
  | 0 => 1
  | n + 1 => wpr f n * f n
theorem wpr_b {f : Nat → Int} (h : ∀ j, j < 6 → 0 ≤ f j ∧ f j ≤ 40) : ∀ n, n ≤ 6 → 0 ≤ wpr f n ∧ wpr f n ≤ 40 ^ n
  | 0, _ => ⟨by show (0 : Int) ≤ 1; omega, by show (1 : Int) ≤ 40 ^ 0; decide⟩
  | n + 1, hn => by
    obtain ⟨h1, h2⟩ := wpr_b h n (by omega)
    obtain ⟨h3, h4⟩ := h n (by omega)
    refine ⟨Int.mul_nonneg h1 h3, ?_⟩
    have h5 : wpr f n * f n ≤ 40 ^ n * 40 := Int.mul_le_mul h2 h4 h3 (by exact Int.le_trans h1 h2)
    rw [Int.pow_succ]
    exact h5
theorem wpr_pos {f : Nat → Int} (h : ∀ j, j < 6 → 0 ≤ f j ∧ f j ≤ 40) : ∀ n, n ≤ 6 → 0 < wpr f n → ∀ j, j < n → 0 < f j
  | 0, _, _, _, hj => absurd hj (Nat.not_lt_zero _)
  | n + 1, hn, hp, j, hj => by
    obtain ⟨h1, h2⟩ := wpr_b h n (by omega)
    obtain ⟨h3, h4⟩ := h n (by omega)
    have hp : 0 < wpr f n * f n := hp
    have hfn : 0 < f n := by
      rcases Int.lt_or_eq_of_le h3 with h5 | h5
      · exact h5
      · rw [← h5, Int.mul_zero] at hp
        omega
    have hwn : 0 < wpr f n := by
      rcases Int.lt_or_eq_of_le h1 with h5 | h5
      · exact h5
      · rw [← h5, Int.zero_mul] at hp
        omega
    by_cases hjn : j = n
    · subst hjn
      exact hfn
    · exact wpr_pos h n (by omega) hwn j (by omega)
theorem w40 {n : Nat} (h : n ≤ 6) : (40 : Int) ^ n ≤ 4096000000 := by
  match n, h with
  | 0, _ => decide
  | 1, _ => decide
  | 2, _ => decide
  | 3, _ => decide
  | 4, _ => decide
  | 5, _ => decide
  | 6, _ => decide
  | n + 7, h => omega
/-- how many LOTS: of the PARISH that the reference's object m has; 0 without one -/
def wLM (H : wq_H) (m : Nat) : Int := if H m 3 = -1 then 0 else wpr (H (H m 21).toNat) (H (H m 3).toNat 3).toNat
def wLMx (l : List (Nat × Nat)) : Bool := l.all (fun q => !(q.1 == 42 && (q.2 == 3 || q.2 == 21 || q.2 == 999)) && !(q.1 == 45) && !(q.1 == 54 && (q.2 == 3 || q.2 == 999)))
theorem wmem_no {l : List (Nat × Nat)} {t j : Nat} (h : ∀ q ∈ l, ¬ (q.1 = t ∧ (q.2 = 999 ∨ q.2 = j))) : wmem l t j = false := by
  by_cases h1 : wmem l t j = true
  · unfold wmem at h1
    obtain ⟨q, hq, h2⟩ := List.any_eq_true.mp h1
    simp only [Bool.and_eq_true, Bool.or_eq_true, beq_iff_eq] at h2
    exact absurd h2 (h q hq)
  · simpa using h1
section WMD

variable {T : wq_T} {H H' : wq_H} {m R : Nat} {l : List (Nat × Nat)}
theorem wfr.fn {a t : Nat} (f : wfr l T H H') (g : T.2.2.2 a = some t) (h : l.all (fun q => !(q.1 == t)) = true) : H' a = H a := by
  funext j
  refine f a j t g (wmem_no (fun q hq hh => ?_))
  have h1 := List.all_eq_true.mp h q hq
  simp [hh.1] at h1
theorem wLM_fr (hW : WT T H) (g : T.2.2.2 m = some 42) (f : wfr l T H H') (h : wLMx l = true) : wLM H' m = wLM H m := by
  have hl : ∀ q ∈ l, ¬ (q.1 = 42 ∧ (q.2 = 3 ∨ q.2 = 21 ∨ q.2 = 999)) ∧ ¬ q.1 = 45 ∧ ¬ (q.1 = 54 ∧ (q.2 = 3 ∨ q.2 = 999)) := by
    intro q hq
    have h1 := List.all_eq_true.mp h q hq
    simp only [Bool.and_eq_true, Bool.not_eq_true', Bool.and_eq_false_iff, Bool.or_eq_false_iff, beq_eq_false_iff_ne] at h1
    refine ⟨?_, ?_, ?_⟩
    · rintro ⟨h2, h3⟩
      rcases h1.1.1 with h4 | h4
      · exact h4 h2
      · rcases h3 with h3 | h3 | h3
        · exact h4.1.1 h3
        · exact h4.1.2 h3
        · exact h4.2 h3
    · exact h1.1.2
    · rintro ⟨h2, h3⟩
      rcases h1.2 with h4 | h4
      · exact h4 h2
      · rcases h3 with h3 | h3
        · exact h4.1 h3
        · exact h4.2 h3
  have e3 : H' m 3 = H m 3 := f m 3 42 g (wmem_no (fun q hq hh => (hl q hq).1 ⟨hh.1, by rcases hh.2 with h5 | h5 <;> omega⟩))
  have e21 : H' m 21 = H m 21 := f m 21 42 g (wmem_no (fun q hq hh => (hl q hq).1 ⟨hh.1, by rcases hh.2 with h5 | h5 <;> omega⟩))
  unfold wLM
  rw [e3, e21]
  split
  · rfl
  · next hn =>
    obtain ⟨sp, hs1, hs2⟩ := hW.ref g (t' := 45) (n := 33) (j := 21) (p := 0) (q := 0) rfl (by decide) rfl
    have e4 : H' sp = H sp := f.fn hs2 (List.all_eq_true.mpr (fun q hq => by
      have := (hl q hq).2.1
      simpa using this))
    rcases hW.opt g (t' := 54) (n := 33) (j := 3) (p := 0) (q := 0) rfl (by decide) rfl with h5 | ⟨pp, h5, h6⟩
    · exact absurd h5 hn
    · rw [hs1, h5, Int.toNat_natCast, Int.toNat_natCast, e4]
      rw [f pp 3 54 h6 (wmem_no (fun q hq hh => (hl q hq).2.2 ⟨hh.1, by rcases hh.2 with h7 | h7 <;> omega⟩))]
theorem wLM_eq {pp sp : Nat} (h1 : H m 3 = (pp : Int)) (h2 : H m 21 = (sp : Int)) : wLM H m = wpr (H sp) (H pp 3).toNat := by
  unfold wLM
  rw [if_neg (by omega), h1, h2, Int.toNat_natCast, Int.toNat_natCast]
/-- the spans of a PARISH with LOTS -/
theorem wLM_sp (hW : WT T H) {pp sp : Nat} (g1 : T.2.2.2 pp = some 54) (g2 : T.2.2.2 sp = some 45) (h1 : H m 3 = (pp : Int)) (h2 : H m 21 = (sp : Int)) (hp : 0 < wLM H m) {j : Nat} (hj : (j : Int) < H pp 3) : 0 < H sp j := by
  rw [wLM_eq h1 h2] at hp
  have hb : 0 ≤ H pp 3 ∧ H pp 3 ≤ 6 := hW.box g1 (n := 27) rfl (by decide) rfl
  exact wpr_pos (fun j hj => hW.box g2 (n := 6) rfl hj rfl) _ (by omega) hp j (by omega)
/-- beds and sleeps of the people are told between bounds that fit -/
def wPIp (f1 f2 f3 f4 : Nat → Int) : Prop := ∀ k, k < 6 → f2 k ≤ f1 k + 7 ∧ f4 k ≤ f3 k + 4
def wPIq (H : wq_H) (R : Nat) : Prop := wPIp (H (H R 10).toNat) (H (H R 11).toNat) (H (H R 12).toNat) (H (H R 13).toNat)
noncomputable def wPI (H : wq_H) (R : Nat) : Int := @ite Int (wPIq H R) (Classical.propDecidable _) 1 0
theorem wPI_1 : wPI H R = 1 ↔ ∀ k, k < 6 → H (H R 11).toNat k ≤ H (H R 10).toNat k + 7 ∧ H (H R 13).toNat k ≤ H (H R 12).toNat k + 4 := by
  by_cases h : wPIq H R
  · have e : wPI H R = 1 := by
      show @ite Int (wPIq H R) (Classical.propDecidable _) 1 0 = 1
      exact if_pos h
    exact ⟨fun _ => h, fun _ => e⟩
  · have e : wPI H R = 0 := by
      show @ite Int (wPIq H R) (Classical.propDecidable _) 1 0 = 0
      exact if_neg h
    exact ⟨fun q => by rw [e] at q; exact absurd q (by decide), fun q => absurd q h⟩
theorem wPI_of {b1 b2 b3 b4 : Nat} (h1 : H R 10 = (b1 : Int)) (h2 : H R 11 = (b2 : Int)) (h3 : H R 12 = (b3 : Int)) (h4 : H R 13 = (b4 : Int)) (h : ∀ k, k < 6 → H b2 k ≤ H b1 k + 7 ∧ H b4 k ≤ H b3 k + 4) : wPI H R = 1 := by
  refine wPI_1.mpr (fun k hk => ?_)
  rw [h1, h2, h3, h4, Int.toNat_natCast, Int.toNat_natCast, Int.toNat_natCast, Int.toNat_natCast]
  exact h k hk
end WMD
/-- powers of ten -/
def w10 : Nat → Int
  | 0 => 1
  | n + 1 => w10 n * 10
theorem w10_b {n : Nat} (h : n ≤ 6) : 1 ≤ w10 n ∧ w10 n ≤ 1000000 := by
  match n, h with
  | 0, _ => decide
  | 1, _ => decide
  | 2, _ => decide
  | 3, _ => decide
  | 4, _ => decide
  | 5, _ => decide
  | 6, _ => decide
  | n + 7, h => omega
theorem w10_s {x y z : Int} {n m : Nat} (h : 1 ≤ x ∧ x ≤ w10 n) (hy : 1 ≤ y ∧ y ≤ 10) (hz : z = x * y) (hm : m = n + 1) : 1 ≤ z ∧ z ≤ w10 m := by
  subst hm
  subst hz
  refine ⟨?_, ?_⟩
  · have := Int.mul_le_mul h.1 hy.1 (by decide) (by omega)
    omega
  · exact Int.mul_le_mul h.2 hy.2 (by omega) (by omega)
theorem wl_mul_b {x y a b : Int} (hx : 0 ≤ x ∧ x ≤ a) (hy : 0 ≤ y ∧ y ≤ b) : 0 ≤ x * y ∧ x * y ≤ a * b := ⟨Int.mul_nonneg hx.1 hy.1, Int.mul_le_mul hx.2 hy.2 hy.1 (by omega)⟩
/-- bits below 2 ^ n -/
theorem wq_or_b {x y : Int} (n : Nat) (hn : n ≤ 31) (hx : 0 ≤ x ∧ x < 2 ^ n) (hy : 0 ≤ y ∧ y < 2 ^ n) : 0 ≤ wq_or x y ∧ wq_or x y < 2 ^ n := by
  have h31 : (2 : Int) ^ n ≤ 2147483648 := by
    have h1 : (2 : Nat) ^ n ≤ 2 ^ 31 := Nat.pow_le_pow_right (by decide) hn
    have h2 : ((2 ^ n : Nat) : Int) ≤ ((2 ^ 31 : Nat) : Int) := by exact_mod_cast h1
    have h3 : ((2 ^ n : Nat) : Int) = (2 : Int) ^ n := by simp
    rw [h3] at h2
    have h4 : ((2 ^ 31 : Nat) : Int) = 2147483648 := by decide
    omega
  have e : wq_or x y = ((Int32.ofInt x).toBitVec ||| (Int32.ofInt y).toBitVec).toInt := rfl
  have h1 := wI_toNat hx.1 (by omega : x ≤ 2147483647)
  have h2 := wI_toNat hy.1 (by omega : y ≤ 2147483647)
  have e3 : ((2 ^ n : Nat) : Int) = (2 : Int) ^ n := by simp
  have hn2 : ((Int32.ofInt x).toBitVec ||| (Int32.ofInt y).toBitVec).toNat < 2 ^ n := by
    rw [BitVec.toNat_or, h1, h2]
    exact Nat.or_lt_two_pow (by omega) (by omega)
  have h5 := BitVec.toInt_eq_toNat_cond ((Int32.ofInt x).toBitVec ||| (Int32.ofInt y).toBitVec)
  rw [e, h5]
  split <;> omega
theorem wq_shl1_b {y : Int} (hy : 0 ≤ y ∧ y ≤ 23) : 0 ≤ wq_shl 1 y ∧ wq_shl 1 y < 16777216 := by
  have h : y = 0 ∨ y = 1 ∨ y = 2 ∨ y = 3 ∨ y = 4 ∨ y = 5 ∨ y = 6 ∨ y = 7 ∨ y = 8 ∨ y = 9 ∨ y = 10 ∨ y = 11 ∨ y = 12 ∨ y = 13 ∨ y = 14 ∨ y = 15 ∨ y = 16 ∨ y = 17 ∨ y = 18 ∨ y = 19 ∨ y = 20 ∨ y = 21 ∨ y = 22 ∨ y = 23 := by omega
  rcases h with h | h | h | h | h | h | h | h | h | h | h | h | h | h | h | h | h | h | h | h | h | h | h | h <;> subst h <;> decide +kernel
theorem wq_shl1_6 {y : Int} (hy : 0 ≤ y ∧ y ≤ 6) : 1 ≤ wq_shl 1 y ∧ wq_shl 1 y ≤ 64 := by
  have h : y = 0 ∨ y = 1 ∨ y = 2 ∨ y = 3 ∨ y = 4 ∨ y = 5 ∨ y = 6 := by omega
  rcases h with h | h | h | h | h | h | h <;> subst h <;> decide +kernel
/-- WORLDS that are known stand on LOTS -/
def wKI (H : wq_H) (m : Nat) : Int := if H m 28 = 0 ∨ H m 29 = 0 ∨ 0 < wLM H m then 1 else 0
section WME

variable {T : wq_T} {H H' : wq_H} {m : Nat} {l : List (Nat × Nat)}
theorem wKI_1 : wKI H m = 1 ↔ (H m 28 = 0 ∨ H m 29 = 0 ∨ 0 < wLM H m) := by
  unfold wKI
  split
  · next h => exact ⟨fun _ => h, fun _ => rfl⟩
  · next h => exact ⟨fun q => absurd q (by decide), fun q => absurd q h⟩
theorem wKI_fr (hW : WT T H) (g : T.2.2.2 m = some 42) (f : wfr l T H H') (h : (wLMx l && !wmem l 42 28 && !wmem l 42 29) = true) : wKI H' m = wKI H m := by
  simp only [Bool.and_eq_true, Bool.not_eq_true'] at h
  unfold wKI
  rw [f m 28 42 g h.1.2, f m 29 42 g h.2, wLM_fr hW g f h.1.1]
theorem wq_u_a {a j b : Nat} {z : Int} (e : H' = wq_u H a j z) (h : b ≠ a) (i : Nat) : H' b i = H b i := by
  rw [e]
  exact wq_u_na h i
theorem wpr_s {f : Nat → Int} {x z : Int} {n k : Nat} (h : x = wpr f n) (hz : z = x * f n) (hk : k = n + 1) : z = wpr f k := by
  subst hk
  rw [hz, h]
  rfl
theorem wq_or_24 {x y : Int} (hx : 0 ≤ x ∧ x ≤ 16777215) (hy : 0 ≤ y ∧ y ≤ 16777215) : 0 ≤ wq_or x y ∧ wq_or x y ≤ 16777215 := by
  have e : (2 : Int) ^ 24 = 16777216 := by decide
  have h := wq_or_b (x := x) (y := y) 24 (by decide) (by rw [e]; omega) (by rw [e]; omega)
  rw [e] at h
  omega
theorem wq_shl1_24 {y : Int} (hy : 0 ≤ y ∧ y ≤ 23) : 1 ≤ wq_shl 1 y ∧ wq_shl 1 y ≤ 8388608 := by
  have h : y = 0 ∨ y = 1 ∨ y = 2 ∨ y = 3 ∨ y = 4 ∨ y = 5 ∨ y = 6 ∨ y = 7 ∨ y = 8 ∨ y = 9 ∨ y = 10 ∨ y = 11 ∨ y = 12 ∨ y = 13 ∨ y = 14 ∨ y = 15 ∨ y = 16 ∨ y = 17 ∨ y = 18 ∨ y = 19 ∨ y = 20 ∨ y = 21 ∨ y = 22 ∨ y = 23 := by omega
  rcases h with h | h | h | h | h | h | h | h | h | h | h | h | h | h | h | h | h | h | h | h | h | h | h | h <;> subst h <;> decide +kernel
end WME
end
section
/-! methods (own work, written by wip/gen2/sx.py) -/
/-! StrikeAwake.putOnTape(I)V -/
theorem e10 : wq_en 10 = some (0, 3, false, none) := rfl
theorem cg10_0 : mc_cd 10 0 = some (.bipush 24, 2) ∧ mc_cd 10 2 = some (.istore_n 2, 1) ∧ mc_cd 10 3 = some (.iload_n 2, 1) ∧ mc_cd 10 4 = some (.ifCond .lt 42, 3) ∧ mc_cd 10 7 = some (.aload_n 0, 1) ∧ mc_cd 10 8 = some (.getfield 62, 3) ∧ mc_cd 10 11 = some (.sipush 900, 3) ∧ mc_cd 10 14 = some (.if_icmp .ge 32, 3) := by decide +kernel
theorem c10_0 : mc_cd 10 0 = some (.bipush 24, 2) := cg10_0.1
theorem c10_2 : mc_cd 10 2 = some (.istore_n 2, 1) := cg10_0.2.1
theorem c10_3 : mc_cd 10 3 = some (.iload_n 2, 1) := cg10_0.2.2.1
theorem c10_4 : mc_cd 10 4 = some (.ifCond .lt 42, 3) := cg10_0.2.2.2.1
theorem c10_7 : mc_cd 10 7 = some (.aload_n 0, 1) := cg10_0.2.2.2.2.1
theorem c10_8 : mc_cd 10 8 = some (.getfield 62, 3) := cg10_0.2.2.2.2.2.1
theorem c10_11 : mc_cd 10 11 = some (.sipush 900, 3) := cg10_0.2.2.2.2.2.2.1
theorem c10_14 : mc_cd 10 14 = some (.if_icmp .ge 32, 3) := cg10_0.2.2.2.2.2.2.2
theorem cg10_17 : mc_cd 10 17 = some (.aload_n 0, 1) ∧ mc_cd 10 18 = some (.getfield 9, 3) ∧ mc_cd 10 21 = some (.aload_n 0, 1) ∧ mc_cd 10 22 = some (.getfield 62, 3) ∧ mc_cd 10 25 = some (.iload_n 1, 1) ∧ mc_cd 10 26 = some (.iload_n 2, 1) ∧ mc_cd 10 27 = some (.ishr, 1) ∧ mc_cd 10 28 = some (.i2b, 1) := by decide +kernel
theorem c10_17 : mc_cd 10 17 = some (.aload_n 0, 1) := cg10_17.1
theorem c10_18 : mc_cd 10 18 = some (.getfield 9, 3) := cg10_17.2.1
theorem c10_21 : mc_cd 10 21 = some (.aload_n 0, 1) := cg10_17.2.2.1
theorem c10_22 : mc_cd 10 22 = some (.getfield 62, 3) := cg10_17.2.2.2.1
theorem c10_25 : mc_cd 10 25 = some (.iload_n 1, 1) := cg10_17.2.2.2.2.1
theorem c10_26 : mc_cd 10 26 = some (.iload_n 2, 1) := cg10_17.2.2.2.2.2.1
theorem c10_27 : mc_cd 10 27 = some (.ishr, 1) := cg10_17.2.2.2.2.2.2.1
theorem c10_28 : mc_cd 10 28 = some (.i2b, 1) := cg10_17.2.2.2.2.2.2.2
theorem cg10_29 : mc_cd 10 29 = some (.bastore, 1) ∧ mc_cd 10 30 = some (.aload_n 0, 1) ∧ mc_cd 10 31 = some (.dup, 1) ∧ mc_cd 10 32 = some (.getfield 62, 3) ∧ mc_cd 10 35 = some (.iconst 1, 1) ∧ mc_cd 10 36 = some (.iadd, 1) ∧ mc_cd 10 37 = some (.putfield 62, 3) ∧ mc_cd 10 40 = some (.iinc 2 (-8), 3) := by decide +kernel
theorem c10_29 : mc_cd 10 29 = some (.bastore, 1) := cg10_29.1
theorem c10_30 : mc_cd 10 30 = some (.aload_n 0, 1) := cg10_29.2.1
theorem c10_31 : mc_cd 10 31 = some (.dup, 1) := cg10_29.2.2.1
theorem c10_32 : mc_cd 10 32 = some (.getfield 62, 3) := cg10_29.2.2.2.1
theorem c10_35 : mc_cd 10 35 = some (.iconst 1, 1) := cg10_29.2.2.2.2.1
theorem c10_36 : mc_cd 10 36 = some (.iadd, 1) := cg10_29.2.2.2.2.2.1
theorem c10_37 : mc_cd 10 37 = some (.putfield 62, 3) := cg10_29.2.2.2.2.2.2.1
theorem c10_40 : mc_cd 10 40 = some (.iinc 2 (-8), 3) := cg10_29.2.2.2.2.2.2.2
theorem cg10_43 : mc_cd 10 43 = some (.goto (-40), 3) ∧ mc_cd 10 46 = some (.return_, 1) := by decide +kernel
theorem c10_43 : mc_cd 10 43 = some (.goto (-40), 3) := cg10_43.1
theorem c10_46 : mc_cd 10 46 = some (.return_, 1) := cg10_43.2
/-! StrikeAwake.feed(IIIII)I -/
theorem e9 : wq_en 9 = some (0, 6, false, some FieldType.int) := rfl
theorem cg9_0 : mc_cd 9 0 = some (.aload_n 0, 1) ∧ mc_cd 9 1 = some (.getfield 62, 3) ∧ mc_cd 9 4 = some (.sipush 880, 3) ∧ mc_cd 9 7 = some (.if_icmp .le 5, 3) ∧ mc_cd 9 10 = some (.iconst (-1), 1) ∧ mc_cd 9 11 = some (.ireturn, 1) ∧ mc_cd 9 12 = some (.aload_n 0, 1) ∧ mc_cd 9 13 = some (.iload_n 1, 1) := by decide +kernel
theorem c9_0 : mc_cd 9 0 = some (.aload_n 0, 1) := cg9_0.1
theorem c9_1 : mc_cd 9 1 = some (.getfield 62, 3) := cg9_0.2.1
theorem c9_4 : mc_cd 9 4 = some (.sipush 880, 3) := cg9_0.2.2.1
theorem c9_7 : mc_cd 9 7 = some (.if_icmp .le 5, 3) := cg9_0.2.2.2.1
theorem c9_10 : mc_cd 9 10 = some (.iconst (-1), 1) := cg9_0.2.2.2.2.1
theorem c9_11 : mc_cd 9 11 = some (.ireturn, 1) := cg9_0.2.2.2.2.2.1
theorem c9_12 : mc_cd 9 12 = some (.aload_n 0, 1) := cg9_0.2.2.2.2.2.2.1
theorem c9_13 : mc_cd 9 13 = some (.iload_n 1, 1) := cg9_0.2.2.2.2.2.2.2
theorem cg9_14 : mc_cd 9 14 = some (.invokevirtual 66, 3) ∧ mc_cd 9 17 = some (.aload_n 0, 1) ∧ mc_cd 9 18 = some (.iload_n 2, 1) ∧ mc_cd 9 19 = some (.invokevirtual 66, 3) ∧ mc_cd 9 22 = some (.aload_n 0, 1) ∧ mc_cd 9 23 = some (.iload_n 3, 1) ∧ mc_cd 9 24 = some (.invokevirtual 66, 3) ∧ mc_cd 9 27 = some (.aload_n 0, 1) := by decide +kernel
theorem c9_14 : mc_cd 9 14 = some (.invokevirtual 66, 3) := cg9_14.1
theorem c9_17 : mc_cd 9 17 = some (.aload_n 0, 1) := cg9_14.2.1
theorem c9_18 : mc_cd 9 18 = some (.iload_n 2, 1) := cg9_14.2.2.1
theorem c9_19 : mc_cd 9 19 = some (.invokevirtual 66, 3) := cg9_14.2.2.2.1
theorem c9_22 : mc_cd 9 22 = some (.aload_n 0, 1) := cg9_14.2.2.2.2.1
theorem c9_23 : mc_cd 9 23 = some (.iload_n 3, 1) := cg9_14.2.2.2.2.2.1
theorem c9_24 : mc_cd 9 24 = some (.invokevirtual 66, 3) := cg9_14.2.2.2.2.2.2.1
theorem c9_27 : mc_cd 9 27 = some (.aload_n 0, 1) := cg9_14.2.2.2.2.2.2.2
theorem cg9_28 : mc_cd 9 28 = some (.iload 4, 2) ∧ mc_cd 9 30 = some (.invokevirtual 66, 3) ∧ mc_cd 9 33 = some (.aload_n 0, 1) ∧ mc_cd 9 34 = some (.iload 5, 2) ∧ mc_cd 9 36 = some (.invokevirtual 66, 3) ∧ mc_cd 9 39 = some (.aload_n 0, 1) ∧ mc_cd 9 40 = some (.getfield 62, 3) ∧ mc_cd 9 43 = some (.ireturn, 1) := by decide +kernel
theorem c9_28 : mc_cd 9 28 = some (.iload 4, 2) := cg9_28.1
theorem c9_30 : mc_cd 9 30 = some (.invokevirtual 66, 3) := cg9_28.2.1
theorem c9_33 : mc_cd 9 33 = some (.aload_n 0, 1) := cg9_28.2.2.1
theorem c9_34 : mc_cd 9 34 = some (.iload 5, 2) := cg9_28.2.2.2.1
theorem c9_36 : mc_cd 9 36 = some (.invokevirtual 66, 3) := cg9_28.2.2.2.2.1
theorem c9_39 : mc_cd 9 39 = some (.aload_n 0, 1) := cg9_28.2.2.2.2.2.1
theorem c9_40 : mc_cd 9 40 = some (.getfield 62, 3) := cg9_28.2.2.2.2.2.2.1
theorem c9_43 : mc_cd 9 43 = some (.ireturn, 1) := cg9_28.2.2.2.2.2.2.2
/-! StrikeAwake.refuse(I)I -/
theorem e12 : wq_en 12 = some (0, 2, false, some FieldType.int) := rfl
theorem cg12_0 : mc_cd 12 0 = some (.aload_n 0, 1) ∧ mc_cd 12 1 = some (.iload_n 1, 1) ∧ mc_cd 12 2 = some (.putfield 102, 3) ∧ mc_cd 12 5 = some (.iconst (-1), 1) ∧ mc_cd 12 6 = some (.ireturn, 1) := by decide +kernel
theorem c12_0 : mc_cd 12 0 = some (.aload_n 0, 1) := cg12_0.1
theorem c12_1 : mc_cd 12 1 = some (.iload_n 1, 1) := cg12_0.2.1
theorem c12_2 : mc_cd 12 2 = some (.putfield 102, 3) := cg12_0.2.2.1
theorem c12_5 : mc_cd 12 5 = some (.iconst (-1), 1) := cg12_0.2.2.2.1
theorem c12_6 : mc_cd 12 6 = some (.ireturn, 1) := cg12_0.2.2.2.2
abbrev q_12 (r0 : Nat) (a1 : Int) (T : wq_T) (H : wq_H) : Option Value → wq_T → wq_H → Prop := fun r T' H' => T = T' ∧ WT T H' ∧ wfr [(1, 10)] T H H' ∧ ∃ z : Int, some (vI z) = r ∧ ((-2147483648) ≤ z ∧ z ≤ 2147483647)
set_option maxHeartbeats 4000000 in
theorem s_12 {kt : Nat → Option mc_E} {T : wq_T} {H : wq_H} {r0 : Nat} {a1 : Int} (hW : WT T H) (g0 : T.2.2.2 r0 = some 1) (i1 : (-2147483648) ≤ a1 ∧ a1 ≤ 2147483647) : wpc kt 1 12 [.ref r0, vI a1] T H (q_12 r0 a1 T H) := by
  refine wp_enter e12 (Nat.le_of_ble_eq_true rfl) rfl ?_
  have f0 : wfr [(1, 10)] T H H := wfr.rf
  show wp _ _ 12 0 [(0, .ref r0), (1, vI a1)] [] _ H _
  refine wp_of e12 c12_0 (rw_aload_n (pc' := 1) (v := .ref r0) rfl rfl rfl ?_)
  refine wp_of e12 c12_1 (rw_iload_n (pc' := 2) (z := a1) rfl rfl ?_)
  refine wp_of e12 c12_2 (xp_I (pc' := 5) lf_0_102 hW g0 sh_1 (by decide) (by decide) ty_1_10 rfl rfl (by omega) (by omega) ⟨by omega, by omega⟩ rfl (fun H437 e438 w439 => ?_))
  have f440 := f0.put' e438 g0 rfl
  have k441 : H437 r0 10 = a1 := wq_u_s e438
  refine wp_of e12 c12_5 (rw_iconst (pc' := 6) rfl ?_)
  exact wp_ireturn e12 c12_6 rfl ⟨rfl, w439, f440, -1, rfl, ⟨by omega, by omega⟩⟩
/-! StrikeAwake$Parish.clear()V -/
theorem e14 : wq_en 14 = some (7, 2, false, none) := rfl
theorem cg14_0 : mc_cd 14 0 = some (.aload_n 0, 1) ∧ mc_cd 14 1 = some (.iconst 0, 1) ∧ mc_cd 14 2 = some (.putfield 41, 3) ∧ mc_cd 14 5 = some (.aload_n 0, 1) ∧ mc_cd 14 6 = some (.iconst 0, 1) ∧ mc_cd 14 7 = some (.putfield 44, 3) ∧ mc_cd 14 10 = some (.aload_n 0, 1) ∧ mc_cd 14 11 = some (.iconst 0, 1) := by decide +kernel
theorem c14_0 : mc_cd 14 0 = some (.aload_n 0, 1) := cg14_0.1
theorem c14_1 : mc_cd 14 1 = some (.iconst 0, 1) := cg14_0.2.1
theorem c14_2 : mc_cd 14 2 = some (.putfield 41, 3) := cg14_0.2.2.1
theorem c14_5 : mc_cd 14 5 = some (.aload_n 0, 1) := cg14_0.2.2.2.1
theorem c14_6 : mc_cd 14 6 = some (.iconst 0, 1) := cg14_0.2.2.2.2.1
theorem c14_7 : mc_cd 14 7 = some (.putfield 44, 3) := cg14_0.2.2.2.2.2.1
theorem c14_10 : mc_cd 14 10 = some (.aload_n 0, 1) := cg14_0.2.2.2.2.2.2.1
theorem c14_11 : mc_cd 14 11 = some (.iconst 0, 1) := cg14_0.2.2.2.2.2.2.2
theorem cg14_12 : mc_cd 14 12 = some (.putfield 47, 3) ∧ mc_cd 14 15 = some (.aload_n 0, 1) ∧ mc_cd 14 16 = some (.iconst 0, 1) ∧ mc_cd 14 17 = some (.putfield 50, 3) ∧ mc_cd 14 20 = some (.aload_n 0, 1) ∧ mc_cd 14 21 = some (.iconst 0, 1) ∧ mc_cd 14 22 = some (.putfield 53, 3) ∧ mc_cd 14 25 = some (.aload_n 0, 1) := by decide +kernel
theorem c14_12 : mc_cd 14 12 = some (.putfield 47, 3) := cg14_12.1
theorem c14_15 : mc_cd 14 15 = some (.aload_n 0, 1) := cg14_12.2.1
theorem c14_16 : mc_cd 14 16 = some (.iconst 0, 1) := cg14_12.2.2.1
theorem c14_17 : mc_cd 14 17 = some (.putfield 50, 3) := cg14_12.2.2.2.1
theorem c14_20 : mc_cd 14 20 = some (.aload_n 0, 1) := cg14_12.2.2.2.2.1
theorem c14_21 : mc_cd 14 21 = some (.iconst 0, 1) := cg14_12.2.2.2.2.2.1
theorem c14_22 : mc_cd 14 22 = some (.putfield 53, 3) := cg14_12.2.2.2.2.2.2.1
theorem c14_25 : mc_cd 14 25 = some (.aload_n 0, 1) := cg14_12.2.2.2.2.2.2.2
theorem cg14_26 : mc_cd 14 26 = some (.iconst 0, 1) ∧ mc_cd 14 27 = some (.putfield 56, 3) ∧ mc_cd 14 30 = some (.aload_n 0, 1) ∧ mc_cd 14 31 = some (.iconst 0, 1) ∧ mc_cd 14 32 = some (.putfield 59, 3) ∧ mc_cd 14 35 = some (.aload_n 0, 1) ∧ mc_cd 14 36 = some (.iconst 0, 1) ∧ mc_cd 14 37 = some (.putfield 62, 3) := by decide +kernel
theorem c14_26 : mc_cd 14 26 = some (.iconst 0, 1) := cg14_26.1
theorem c14_27 : mc_cd 14 27 = some (.putfield 56, 3) := cg14_26.2.1
theorem c14_30 : mc_cd 14 30 = some (.aload_n 0, 1) := cg14_26.2.2.1
theorem c14_31 : mc_cd 14 31 = some (.iconst 0, 1) := cg14_26.2.2.2.1
theorem c14_32 : mc_cd 14 32 = some (.putfield 59, 3) := cg14_26.2.2.2.2.1
theorem c14_35 : mc_cd 14 35 = some (.aload_n 0, 1) := cg14_26.2.2.2.2.2.1
theorem c14_36 : mc_cd 14 36 = some (.iconst 0, 1) := cg14_26.2.2.2.2.2.2.1
theorem c14_37 : mc_cd 14 37 = some (.putfield 62, 3) := cg14_26.2.2.2.2.2.2.2
theorem cg14_40 : mc_cd 14 40 = some (.aload_n 0, 1) ∧ mc_cd 14 41 = some (.bipush (-2), 2) ∧ mc_cd 14 43 = some (.putfield 37, 3) ∧ mc_cd 14 46 = some (.aload_n 0, 1) ∧ mc_cd 14 47 = some (.iconst 0, 1) ∧ mc_cd 14 48 = some (.putfield 65, 3) ∧ mc_cd 14 51 = some (.aload_n 0, 1) ∧ mc_cd 14 52 = some (.iconst 0, 1) := by decide +kernel
theorem c14_40 : mc_cd 14 40 = some (.aload_n 0, 1) := cg14_40.1
theorem c14_41 : mc_cd 14 41 = some (.bipush (-2), 2) := cg14_40.2.1
theorem c14_43 : mc_cd 14 43 = some (.putfield 37, 3) := cg14_40.2.2.1
theorem c14_46 : mc_cd 14 46 = some (.aload_n 0, 1) := cg14_40.2.2.2.1
theorem c14_47 : mc_cd 14 47 = some (.iconst 0, 1) := cg14_40.2.2.2.2.1
theorem c14_48 : mc_cd 14 48 = some (.putfield 65, 3) := cg14_40.2.2.2.2.2.1
theorem c14_51 : mc_cd 14 51 = some (.aload_n 0, 1) := cg14_40.2.2.2.2.2.2.1
theorem c14_52 : mc_cd 14 52 = some (.iconst 0, 1) := cg14_40.2.2.2.2.2.2.2
theorem cg14_53 : mc_cd 14 53 = some (.putfield 68, 3) ∧ mc_cd 14 56 = some (.aload_n 0, 1) ∧ mc_cd 14 57 = some (.lconst 0, 1) ∧ mc_cd 14 58 = some (.putfield 71, 3) ∧ mc_cd 14 61 = some (.iconst 0, 1) ∧ mc_cd 14 62 = some (.istore_n 1, 1) ∧ mc_cd 14 63 = some (.iload_n 1, 1) ∧ mc_cd 14 64 = some (.bipush 24, 2) := by decide +kernel
theorem c14_53 : mc_cd 14 53 = some (.putfield 68, 3) := cg14_53.1
theorem c14_56 : mc_cd 14 56 = some (.aload_n 0, 1) := cg14_53.2.1
theorem c14_57 : mc_cd 14 57 = some (.lconst 0, 1) := cg14_53.2.2.1
theorem c14_58 : mc_cd 14 58 = some (.putfield 71, 3) := cg14_53.2.2.2.1
theorem c14_61 : mc_cd 14 61 = some (.iconst 0, 1) := cg14_53.2.2.2.2.1
theorem c14_62 : mc_cd 14 62 = some (.istore_n 1, 1) := cg14_53.2.2.2.2.2.1
theorem c14_63 : mc_cd 14 63 = some (.iload_n 1, 1) := cg14_53.2.2.2.2.2.2.1
theorem c14_64 : mc_cd 14 64 = some (.bipush 24, 2) := cg14_53.2.2.2.2.2.2.2
theorem cg14_66 : mc_cd 14 66 = some (.if_icmp .ge 17, 3) ∧ mc_cd 14 69 = some (.aload_n 0, 1) ∧ mc_cd 14 70 = some (.getfield 17, 3) ∧ mc_cd 14 73 = some (.iload_n 1, 1) ∧ mc_cd 14 74 = some (.bipush (-2), 2) ∧ mc_cd 14 76 = some (.iastore, 1) ∧ mc_cd 14 77 = some (.iinc 1 1, 3) ∧ mc_cd 14 80 = some (.goto (-17), 3) := by decide +kernel
theorem c14_66 : mc_cd 14 66 = some (.if_icmp .ge 17, 3) := cg14_66.1
theorem c14_69 : mc_cd 14 69 = some (.aload_n 0, 1) := cg14_66.2.1
theorem c14_70 : mc_cd 14 70 = some (.getfield 17, 3) := cg14_66.2.2.1
theorem c14_73 : mc_cd 14 73 = some (.iload_n 1, 1) := cg14_66.2.2.2.1
theorem c14_74 : mc_cd 14 74 = some (.bipush (-2), 2) := cg14_66.2.2.2.2.1
theorem c14_76 : mc_cd 14 76 = some (.iastore, 1) := cg14_66.2.2.2.2.2.1
theorem c14_77 : mc_cd 14 77 = some (.iinc 1 1, 3) := cg14_66.2.2.2.2.2.2.1
theorem c14_80 : mc_cd 14 80 = some (.goto (-17), 3) := cg14_66.2.2.2.2.2.2.2
theorem c14_83 : mc_cd 14 83 = some (.return_, 1) := by decide +kernel
/-! StrikeAwake$Tokens.advance()V -/
theorem e16 : wq_en 16 = some (2, 4, false, none) := rfl
theorem cg16_0 : mc_cd 16 0 = some (.aload_n 0, 1) ∧ mc_cd 16 1 = some (.getfield 23, 3) ∧ mc_cd 16 4 = some (.istore_n 1, 1) ∧ mc_cd 16 5 = some (.iload_n 1, 1) ∧ mc_cd 16 6 = some (.aload_n 0, 1) ∧ mc_cd 16 7 = some (.getfield 19, 3) ∧ mc_cd 16 10 = some (.if_icmp .ge 20, 3) ∧ mc_cd 16 13 = some (.aload_n 0, 1) := by decide +kernel
theorem c16_0 : mc_cd 16 0 = some (.aload_n 0, 1) := cg16_0.1
theorem c16_1 : mc_cd 16 1 = some (.getfield 23, 3) := cg16_0.2.1
theorem c16_4 : mc_cd 16 4 = some (.istore_n 1, 1) := cg16_0.2.2.1
theorem c16_5 : mc_cd 16 5 = some (.iload_n 1, 1) := cg16_0.2.2.2.1
theorem c16_6 : mc_cd 16 6 = some (.aload_n 0, 1) := cg16_0.2.2.2.2.1
theorem c16_7 : mc_cd 16 7 = some (.getfield 19, 3) := cg16_0.2.2.2.2.2.1
theorem c16_10 : mc_cd 16 10 = some (.if_icmp .ge 20, 3) := cg16_0.2.2.2.2.2.2.1
theorem c16_13 : mc_cd 16 13 = some (.aload_n 0, 1) := cg16_0.2.2.2.2.2.2.2
theorem cg16_14 : mc_cd 16 14 = some (.getfield 7, 3) ∧ mc_cd 16 17 = some (.iload_n 1, 1) ∧ mc_cd 16 18 = some (.baload, 1) ∧ mc_cd 16 19 = some (.bipush 32, 2) ∧ mc_cd 16 21 = some (.if_icmp .ne 9, 3) ∧ mc_cd 16 24 = some (.iinc 1 1, 3) ∧ mc_cd 16 27 = some (.goto (-22), 3) ∧ mc_cd 16 30 = some (.aload_n 0, 1) := by decide +kernel
theorem c16_14 : mc_cd 16 14 = some (.getfield 7, 3) := cg16_14.1
theorem c16_17 : mc_cd 16 17 = some (.iload_n 1, 1) := cg16_14.2.1
theorem c16_18 : mc_cd 16 18 = some (.baload, 1) := cg16_14.2.2.1
theorem c16_19 : mc_cd 16 19 = some (.bipush 32, 2) := cg16_14.2.2.2.1
theorem c16_21 : mc_cd 16 21 = some (.if_icmp .ne 9, 3) := cg16_14.2.2.2.2.1
theorem c16_24 : mc_cd 16 24 = some (.iinc 1 1, 3) := cg16_14.2.2.2.2.2.1
theorem c16_27 : mc_cd 16 27 = some (.goto (-22), 3) := cg16_14.2.2.2.2.2.2.1
theorem c16_30 : mc_cd 16 30 = some (.aload_n 0, 1) := cg16_14.2.2.2.2.2.2.2
theorem cg16_31 : mc_cd 16 31 = some (.iload_n 1, 1) ∧ mc_cd 16 32 = some (.putfield 29, 3) ∧ mc_cd 16 35 = some (.aload_n 0, 1) ∧ mc_cd 16 36 = some (.lconst 0, 1) ∧ mc_cd 16 37 = some (.putfield 32, 3) ∧ mc_cd 16 40 = some (.iload_n 1, 1) ∧ mc_cd 16 41 = some (.aload_n 0, 1) ∧ mc_cd 16 42 = some (.getfield 19, 3) := by decide +kernel
theorem c16_31 : mc_cd 16 31 = some (.iload_n 1, 1) := cg16_31.1
theorem c16_32 : mc_cd 16 32 = some (.putfield 29, 3) := cg16_31.2.1
theorem c16_35 : mc_cd 16 35 = some (.aload_n 0, 1) := cg16_31.2.2.1
theorem c16_36 : mc_cd 16 36 = some (.lconst 0, 1) := cg16_31.2.2.2.1
theorem c16_37 : mc_cd 16 37 = some (.putfield 32, 3) := cg16_31.2.2.2.2.1
theorem c16_40 : mc_cd 16 40 = some (.iload_n 1, 1) := cg16_31.2.2.2.2.2.1
theorem c16_41 : mc_cd 16 41 = some (.aload_n 0, 1) := cg16_31.2.2.2.2.2.2.1
theorem c16_42 : mc_cd 16 42 = some (.getfield 19, 3) := cg16_31.2.2.2.2.2.2.2
theorem cg16_45 : mc_cd 16 45 = some (.if_icmp .ge 56, 3) ∧ mc_cd 16 48 = some (.aload_n 0, 1) ∧ mc_cd 16 49 = some (.getfield 7, 3) ∧ mc_cd 16 52 = some (.iload_n 1, 1) ∧ mc_cd 16 53 = some (.baload, 1) ∧ mc_cd 16 54 = some (.bipush 97, 2) ∧ mc_cd 16 56 = some (.if_icmp .lt 45, 3) ∧ mc_cd 16 59 = some (.aload_n 0, 1) := by decide +kernel
theorem c16_45 : mc_cd 16 45 = some (.if_icmp .ge 56, 3) := cg16_45.1
theorem c16_48 : mc_cd 16 48 = some (.aload_n 0, 1) := cg16_45.2.1
theorem c16_49 : mc_cd 16 49 = some (.getfield 7, 3) := cg16_45.2.2.1
theorem c16_52 : mc_cd 16 52 = some (.iload_n 1, 1) := cg16_45.2.2.2.1
theorem c16_53 : mc_cd 16 53 = some (.baload, 1) := cg16_45.2.2.2.2.1
theorem c16_54 : mc_cd 16 54 = some (.bipush 97, 2) := cg16_45.2.2.2.2.2.1
theorem c16_56 : mc_cd 16 56 = some (.if_icmp .lt 45, 3) := cg16_45.2.2.2.2.2.2.1
theorem c16_59 : mc_cd 16 59 = some (.aload_n 0, 1) := cg16_45.2.2.2.2.2.2.2
theorem cg16_60 : mc_cd 16 60 = some (.getfield 7, 3) ∧ mc_cd 16 63 = some (.iload_n 1, 1) ∧ mc_cd 16 64 = some (.baload, 1) ∧ mc_cd 16 65 = some (.bipush 122, 2) ∧ mc_cd 16 67 = some (.if_icmp .gt 34, 3) ∧ mc_cd 16 70 = some (.aload_n 0, 1) ∧ mc_cd 16 71 = some (.aload_n 0, 1) ∧ mc_cd 16 72 = some (.getfield 32, 3) := by decide +kernel
theorem c16_60 : mc_cd 16 60 = some (.getfield 7, 3) := cg16_60.1
theorem c16_63 : mc_cd 16 63 = some (.iload_n 1, 1) := cg16_60.2.1
theorem c16_64 : mc_cd 16 64 = some (.baload, 1) := cg16_60.2.2.1
theorem c16_65 : mc_cd 16 65 = some (.bipush 122, 2) := cg16_60.2.2.2.1
theorem c16_67 : mc_cd 16 67 = some (.if_icmp .gt 34, 3) := cg16_60.2.2.2.2.1
theorem c16_70 : mc_cd 16 70 = some (.aload_n 0, 1) := cg16_60.2.2.2.2.2.1
theorem c16_71 : mc_cd 16 71 = some (.aload_n 0, 1) := cg16_60.2.2.2.2.2.2.1
theorem c16_72 : mc_cd 16 72 = some (.getfield 32, 3) := cg16_60.2.2.2.2.2.2.2
theorem cg16_75 : mc_cd 16 75 = some (.ldc2_w 36, 3) ∧ mc_cd 16 78 = some (.lmul, 1) ∧ mc_cd 16 79 = some (.aload_n 0, 1) ∧ mc_cd 16 80 = some (.getfield 7, 3) ∧ mc_cd 16 83 = some (.iload_n 1, 1) ∧ mc_cd 16 84 = some (.baload, 1) ∧ mc_cd 16 85 = some (.bipush 97, 2) ∧ mc_cd 16 87 = some (.isub, 1) := by decide +kernel
theorem c16_75 : mc_cd 16 75 = some (.ldc2_w 36, 3) := cg16_75.1
theorem c16_78 : mc_cd 16 78 = some (.lmul, 1) := cg16_75.2.1
theorem c16_79 : mc_cd 16 79 = some (.aload_n 0, 1) := cg16_75.2.2.1
theorem c16_80 : mc_cd 16 80 = some (.getfield 7, 3) := cg16_75.2.2.2.1
theorem c16_83 : mc_cd 16 83 = some (.iload_n 1, 1) := cg16_75.2.2.2.2.1
theorem c16_84 : mc_cd 16 84 = some (.baload, 1) := cg16_75.2.2.2.2.2.1
theorem c16_85 : mc_cd 16 85 = some (.bipush 97, 2) := cg16_75.2.2.2.2.2.2.1
theorem c16_87 : mc_cd 16 87 = some (.isub, 1) := cg16_75.2.2.2.2.2.2.2
theorem cg16_88 : mc_cd 16 88 = some (.iconst 1, 1) ∧ mc_cd 16 89 = some (.iadd, 1) ∧ mc_cd 16 90 = some (.i2l, 1) ∧ mc_cd 16 91 = some (.ladd, 1) ∧ mc_cd 16 92 = some (.putfield 32, 3) ∧ mc_cd 16 95 = some (.iinc 1 1, 3) ∧ mc_cd 16 98 = some (.goto (-58), 3) ∧ mc_cd 16 101 = some (.iload_n 1, 1) := by decide +kernel
theorem c16_88 : mc_cd 16 88 = some (.iconst 1, 1) := cg16_88.1
theorem c16_89 : mc_cd 16 89 = some (.iadd, 1) := cg16_88.2.1
theorem c16_90 : mc_cd 16 90 = some (.i2l, 1) := cg16_88.2.2.1
theorem c16_91 : mc_cd 16 91 = some (.ladd, 1) := cg16_88.2.2.2.1
theorem c16_92 : mc_cd 16 92 = some (.putfield 32, 3) := cg16_88.2.2.2.2.1
theorem c16_95 : mc_cd 16 95 = some (.iinc 1 1, 3) := cg16_88.2.2.2.2.2.1
theorem c16_98 : mc_cd 16 98 = some (.goto (-58), 3) := cg16_88.2.2.2.2.2.2.1
theorem c16_101 : mc_cd 16 101 = some (.iload_n 1, 1) := cg16_88.2.2.2.2.2.2.2
theorem cg16_102 : mc_cd 16 102 = some (.aload_n 0, 1) ∧ mc_cd 16 103 = some (.getfield 29, 3) ∧ mc_cd 16 106 = some (.isub, 1) ∧ mc_cd 16 107 = some (.istore_n 2, 1) ∧ mc_cd 16 108 = some (.aload_n 0, 1) ∧ mc_cd 16 109 = some (.iconst 0, 1) ∧ mc_cd 16 110 = some (.putfield 38, 3) ∧ mc_cd 16 113 = some (.iload_n 1, 1) := by decide +kernel
theorem c16_102 : mc_cd 16 102 = some (.aload_n 0, 1) := cg16_102.1
theorem c16_103 : mc_cd 16 103 = some (.getfield 29, 3) := cg16_102.2.1
theorem c16_106 : mc_cd 16 106 = some (.isub, 1) := cg16_102.2.2.1
theorem c16_107 : mc_cd 16 107 = some (.istore_n 2, 1) := cg16_102.2.2.2.1
theorem c16_108 : mc_cd 16 108 = some (.aload_n 0, 1) := cg16_102.2.2.2.2.1
theorem c16_109 : mc_cd 16 109 = some (.iconst 0, 1) := cg16_102.2.2.2.2.2.1
theorem c16_110 : mc_cd 16 110 = some (.putfield 38, 3) := cg16_102.2.2.2.2.2.2.1
theorem c16_113 : mc_cd 16 113 = some (.iload_n 1, 1) := cg16_102.2.2.2.2.2.2.2
theorem cg16_114 : mc_cd 16 114 = some (.aload_n 0, 1) ∧ mc_cd 16 115 = some (.getfield 19, 3) ∧ mc_cd 16 118 = some (.if_icmp .ge 56, 3) ∧ mc_cd 16 121 = some (.iload_n 2, 1) ∧ mc_cd 16 122 = some (.ifCond .ne 52, 3) ∧ mc_cd 16 125 = some (.aload_n 0, 1) ∧ mc_cd 16 126 = some (.getfield 7, 3) ∧ mc_cd 16 129 = some (.iload_n 1, 1) := by decide +kernel
theorem c16_114 : mc_cd 16 114 = some (.aload_n 0, 1) := cg16_114.1
theorem c16_115 : mc_cd 16 115 = some (.getfield 19, 3) := cg16_114.2.1
theorem c16_118 : mc_cd 16 118 = some (.if_icmp .ge 56, 3) := cg16_114.2.2.1
theorem c16_121 : mc_cd 16 121 = some (.iload_n 2, 1) := cg16_114.2.2.2.1
theorem c16_122 : mc_cd 16 122 = some (.ifCond .ne 52, 3) := cg16_114.2.2.2.2.1
theorem c16_125 : mc_cd 16 125 = some (.aload_n 0, 1) := cg16_114.2.2.2.2.2.1
theorem c16_126 : mc_cd 16 126 = some (.getfield 7, 3) := cg16_114.2.2.2.2.2.2.1
theorem c16_129 : mc_cd 16 129 = some (.iload_n 1, 1) := cg16_114.2.2.2.2.2.2.2
theorem cg16_130 : mc_cd 16 130 = some (.baload, 1) ∧ mc_cd 16 131 = some (.bipush 48, 2) ∧ mc_cd 16 133 = some (.if_icmp .lt 41, 3) ∧ mc_cd 16 136 = some (.aload_n 0, 1) ∧ mc_cd 16 137 = some (.getfield 7, 3) ∧ mc_cd 16 140 = some (.iload_n 1, 1) ∧ mc_cd 16 141 = some (.baload, 1) ∧ mc_cd 16 142 = some (.bipush 57, 2) := by decide +kernel
theorem c16_130 : mc_cd 16 130 = some (.baload, 1) := cg16_130.1
theorem c16_131 : mc_cd 16 131 = some (.bipush 48, 2) := cg16_130.2.1
theorem c16_133 : mc_cd 16 133 = some (.if_icmp .lt 41, 3) := cg16_130.2.2.1
theorem c16_136 : mc_cd 16 136 = some (.aload_n 0, 1) := cg16_130.2.2.2.1
theorem c16_137 : mc_cd 16 137 = some (.getfield 7, 3) := cg16_130.2.2.2.2.1
theorem c16_140 : mc_cd 16 140 = some (.iload_n 1, 1) := cg16_130.2.2.2.2.2.1
theorem c16_141 : mc_cd 16 141 = some (.baload, 1) := cg16_130.2.2.2.2.2.2.1
theorem c16_142 : mc_cd 16 142 = some (.bipush 57, 2) := cg16_130.2.2.2.2.2.2.2
theorem cg16_144 : mc_cd 16 144 = some (.if_icmp .gt 30, 3) ∧ mc_cd 16 147 = some (.aload_n 0, 1) ∧ mc_cd 16 148 = some (.aload_n 0, 1) ∧ mc_cd 16 149 = some (.getfield 38, 3) ∧ mc_cd 16 152 = some (.bipush 10, 2) ∧ mc_cd 16 154 = some (.imul, 1) ∧ mc_cd 16 155 = some (.aload_n 0, 1) ∧ mc_cd 16 156 = some (.getfield 7, 3) := by decide +kernel
theorem c16_144 : mc_cd 16 144 = some (.if_icmp .gt 30, 3) := cg16_144.1
theorem c16_147 : mc_cd 16 147 = some (.aload_n 0, 1) := cg16_144.2.1
theorem c16_148 : mc_cd 16 148 = some (.aload_n 0, 1) := cg16_144.2.2.1
theorem c16_149 : mc_cd 16 149 = some (.getfield 38, 3) := cg16_144.2.2.2.1
theorem c16_152 : mc_cd 16 152 = some (.bipush 10, 2) := cg16_144.2.2.2.2.1
theorem c16_154 : mc_cd 16 154 = some (.imul, 1) := cg16_144.2.2.2.2.2.1
theorem c16_155 : mc_cd 16 155 = some (.aload_n 0, 1) := cg16_144.2.2.2.2.2.2.1
theorem c16_156 : mc_cd 16 156 = some (.getfield 7, 3) := cg16_144.2.2.2.2.2.2.2
theorem cg16_159 : mc_cd 16 159 = some (.iload_n 1, 1) ∧ mc_cd 16 160 = some (.baload, 1) ∧ mc_cd 16 161 = some (.bipush 48, 2) ∧ mc_cd 16 163 = some (.isub, 1) ∧ mc_cd 16 164 = some (.iadd, 1) ∧ mc_cd 16 165 = some (.putfield 38, 3) ∧ mc_cd 16 168 = some (.iinc 1 1, 3) ∧ mc_cd 16 171 = some (.goto (-58), 3) := by decide +kernel
theorem c16_159 : mc_cd 16 159 = some (.iload_n 1, 1) := cg16_159.1
theorem c16_160 : mc_cd 16 160 = some (.baload, 1) := cg16_159.2.1
theorem c16_161 : mc_cd 16 161 = some (.bipush 48, 2) := cg16_159.2.2.1
theorem c16_163 : mc_cd 16 163 = some (.isub, 1) := cg16_159.2.2.2.1
theorem c16_164 : mc_cd 16 164 = some (.iadd, 1) := cg16_159.2.2.2.2.1
theorem c16_165 : mc_cd 16 165 = some (.putfield 38, 3) := cg16_159.2.2.2.2.2.1
theorem c16_168 : mc_cd 16 168 = some (.iinc 1 1, 3) := cg16_159.2.2.2.2.2.2.1
theorem c16_171 : mc_cd 16 171 = some (.goto (-58), 3) := cg16_159.2.2.2.2.2.2.2
theorem cg16_174 : mc_cd 16 174 = some (.iload_n 1, 1) ∧ mc_cd 16 175 = some (.aload_n 0, 1) ∧ mc_cd 16 176 = some (.getfield 29, 3) ∧ mc_cd 16 179 = some (.isub, 1) ∧ mc_cd 16 180 = some (.iload_n 2, 1) ∧ mc_cd 16 181 = some (.isub, 1) ∧ mc_cd 16 182 = some (.istore_n 3, 1) ∧ mc_cd 16 183 = some (.iload_n 2, 1) := by decide +kernel
theorem c16_174 : mc_cd 16 174 = some (.iload_n 1, 1) := cg16_174.1
theorem c16_175 : mc_cd 16 175 = some (.aload_n 0, 1) := cg16_174.2.1
theorem c16_176 : mc_cd 16 176 = some (.getfield 29, 3) := cg16_174.2.2.1
theorem c16_179 : mc_cd 16 179 = some (.isub, 1) := cg16_174.2.2.2.1
theorem c16_180 : mc_cd 16 180 = some (.iload_n 2, 1) := cg16_174.2.2.2.2.1
theorem c16_181 : mc_cd 16 181 = some (.isub, 1) := cg16_174.2.2.2.2.2.1
theorem c16_182 : mc_cd 16 182 = some (.istore_n 3, 1) := cg16_174.2.2.2.2.2.2.1
theorem c16_183 : mc_cd 16 183 = some (.iload_n 2, 1) := cg16_174.2.2.2.2.2.2.2
theorem cg16_184 : mc_cd 16 184 = some (.ifCond .le 21, 3) ∧ mc_cd 16 187 = some (.aload_n 0, 1) ∧ mc_cd 16 188 = some (.iload_n 2, 1) ∧ mc_cd 16 189 = some (.bipush 8, 2) ∧ mc_cd 16 191 = some (.if_icmp .gt 7, 3) ∧ mc_cd 16 194 = some (.iconst 1, 1) ∧ mc_cd 16 195 = some (.goto 4, 3) ∧ mc_cd 16 198 = some (.iconst 5, 1) := by decide +kernel
theorem c16_184 : mc_cd 16 184 = some (.ifCond .le 21, 3) := cg16_184.1
theorem c16_187 : mc_cd 16 187 = some (.aload_n 0, 1) := cg16_184.2.1
theorem c16_188 : mc_cd 16 188 = some (.iload_n 2, 1) := cg16_184.2.2.1
theorem c16_189 : mc_cd 16 189 = some (.bipush 8, 2) := cg16_184.2.2.2.1
theorem c16_191 : mc_cd 16 191 = some (.if_icmp .gt 7, 3) := cg16_184.2.2.2.2.1
theorem c16_194 : mc_cd 16 194 = some (.iconst 1, 1) := cg16_184.2.2.2.2.2.1
theorem c16_195 : mc_cd 16 195 = some (.goto 4, 3) := cg16_184.2.2.2.2.2.2.1
theorem c16_198 : mc_cd 16 198 = some (.iconst 5, 1) := cg16_184.2.2.2.2.2.2.2
theorem cg16_199 : mc_cd 16 199 = some (.putfield 41, 3) ∧ mc_cd 16 202 = some (.goto 78, 3) ∧ mc_cd 16 205 = some (.iload_n 3, 1) ∧ mc_cd 16 206 = some (.ifCond .le 20, 3) ∧ mc_cd 16 209 = some (.aload_n 0, 1) ∧ mc_cd 16 210 = some (.iload_n 3, 1) ∧ mc_cd 16 211 = some (.iconst 3, 1) ∧ mc_cd 16 212 = some (.if_icmp .gt 7, 3) := by decide +kernel
theorem c16_199 : mc_cd 16 199 = some (.putfield 41, 3) := cg16_199.1
theorem c16_202 : mc_cd 16 202 = some (.goto 78, 3) := cg16_199.2.1
theorem c16_205 : mc_cd 16 205 = some (.iload_n 3, 1) := cg16_199.2.2.1
theorem c16_206 : mc_cd 16 206 = some (.ifCond .le 20, 3) := cg16_199.2.2.2.1
theorem c16_209 : mc_cd 16 209 = some (.aload_n 0, 1) := cg16_199.2.2.2.2.1
theorem c16_210 : mc_cd 16 210 = some (.iload_n 3, 1) := cg16_199.2.2.2.2.2.1
theorem c16_211 : mc_cd 16 211 = some (.iconst 3, 1) := cg16_199.2.2.2.2.2.2.1
theorem c16_212 : mc_cd 16 212 = some (.if_icmp .gt 7, 3) := cg16_199.2.2.2.2.2.2.2
theorem cg16_215 : mc_cd 16 215 = some (.iconst 2, 1) ∧ mc_cd 16 216 = some (.goto 4, 3) ∧ mc_cd 16 219 = some (.iconst 5, 1) ∧ mc_cd 16 220 = some (.putfield 41, 3) ∧ mc_cd 16 223 = some (.goto 57, 3) ∧ mc_cd 16 226 = some (.iload_n 1, 1) ∧ mc_cd 16 227 = some (.aload_n 0, 1) ∧ mc_cd 16 228 = some (.getfield 19, 3) := by decide +kernel
theorem c16_215 : mc_cd 16 215 = some (.iconst 2, 1) := cg16_215.1
theorem c16_216 : mc_cd 16 216 = some (.goto 4, 3) := cg16_215.2.1
theorem c16_219 : mc_cd 16 219 = some (.iconst 5, 1) := cg16_215.2.2.1
theorem c16_220 : mc_cd 16 220 = some (.putfield 41, 3) := cg16_215.2.2.2.1
theorem c16_223 : mc_cd 16 223 = some (.goto 57, 3) := cg16_215.2.2.2.2.1
theorem c16_226 : mc_cd 16 226 = some (.iload_n 1, 1) := cg16_215.2.2.2.2.2.1
theorem c16_227 : mc_cd 16 227 = some (.aload_n 0, 1) := cg16_215.2.2.2.2.2.2.1
theorem c16_228 : mc_cd 16 228 = some (.getfield 19, 3) := cg16_215.2.2.2.2.2.2.2
theorem cg16_231 : mc_cd 16 231 = some (.if_icmp .ge 44, 3) ∧ mc_cd 16 234 = some (.aload_n 0, 1) ∧ mc_cd 16 235 = some (.aload_n 0, 1) ∧ mc_cd 16 236 = some (.getfield 7, 3) ∧ mc_cd 16 239 = some (.iload_n 1, 1) ∧ mc_cd 16 240 = some (.baload, 1) ∧ mc_cd 16 241 = some (.bipush 59, 2) ∧ mc_cd 16 243 = some (.if_icmp .ne 7, 3) := by decide +kernel
theorem c16_231 : mc_cd 16 231 = some (.if_icmp .ge 44, 3) := cg16_231.1
theorem c16_234 : mc_cd 16 234 = some (.aload_n 0, 1) := cg16_231.2.1
theorem c16_235 : mc_cd 16 235 = some (.aload_n 0, 1) := cg16_231.2.2.1
theorem c16_236 : mc_cd 16 236 = some (.getfield 7, 3) := cg16_231.2.2.2.1
theorem c16_239 : mc_cd 16 239 = some (.iload_n 1, 1) := cg16_231.2.2.2.2.1
theorem c16_240 : mc_cd 16 240 = some (.baload, 1) := cg16_231.2.2.2.2.2.1
theorem c16_241 : mc_cd 16 241 = some (.bipush 59, 2) := cg16_231.2.2.2.2.2.2.1
theorem c16_243 : mc_cd 16 243 = some (.if_icmp .ne 7, 3) := cg16_231.2.2.2.2.2.2.2
theorem cg16_246 : mc_cd 16 246 = some (.iconst 3, 1) ∧ mc_cd 16 247 = some (.goto 19, 3) ∧ mc_cd 16 250 = some (.aload_n 0, 1) ∧ mc_cd 16 251 = some (.getfield 7, 3) ∧ mc_cd 16 254 = some (.iload_n 1, 1) ∧ mc_cd 16 255 = some (.baload, 1) ∧ mc_cd 16 256 = some (.bipush 44, 2) ∧ mc_cd 16 258 = some (.if_icmp .ne 7, 3) := by decide +kernel
theorem c16_246 : mc_cd 16 246 = some (.iconst 3, 1) := cg16_246.1
theorem c16_247 : mc_cd 16 247 = some (.goto 19, 3) := cg16_246.2.1
theorem c16_250 : mc_cd 16 250 = some (.aload_n 0, 1) := cg16_246.2.2.1
theorem c16_251 : mc_cd 16 251 = some (.getfield 7, 3) := cg16_246.2.2.2.1
theorem c16_254 : mc_cd 16 254 = some (.iload_n 1, 1) := cg16_246.2.2.2.2.1
theorem c16_255 : mc_cd 16 255 = some (.baload, 1) := cg16_246.2.2.2.2.2.1
theorem c16_256 : mc_cd 16 256 = some (.bipush 44, 2) := cg16_246.2.2.2.2.2.2.1
theorem c16_258 : mc_cd 16 258 = some (.if_icmp .ne 7, 3) := cg16_246.2.2.2.2.2.2.2
theorem cg16_261 : mc_cd 16 261 = some (.iconst 4, 1) ∧ mc_cd 16 262 = some (.goto 4, 3) ∧ mc_cd 16 265 = some (.iconst 5, 1) ∧ mc_cd 16 266 = some (.putfield 41, 3) ∧ mc_cd 16 269 = some (.iinc 1 1, 3) ∧ mc_cd 16 272 = some (.goto 8, 3) ∧ mc_cd 16 275 = some (.aload_n 0, 1) ∧ mc_cd 16 276 = some (.iconst 0, 1) := by decide +kernel
theorem c16_261 : mc_cd 16 261 = some (.iconst 4, 1) := cg16_261.1
theorem c16_262 : mc_cd 16 262 = some (.goto 4, 3) := cg16_261.2.1
theorem c16_265 : mc_cd 16 265 = some (.iconst 5, 1) := cg16_261.2.2.1
theorem c16_266 : mc_cd 16 266 = some (.putfield 41, 3) := cg16_261.2.2.2.1
theorem c16_269 : mc_cd 16 269 = some (.iinc 1 1, 3) := cg16_261.2.2.2.2.1
theorem c16_272 : mc_cd 16 272 = some (.goto 8, 3) := cg16_261.2.2.2.2.2.1
theorem c16_275 : mc_cd 16 275 = some (.aload_n 0, 1) := cg16_261.2.2.2.2.2.2.1
theorem c16_276 : mc_cd 16 276 = some (.iconst 0, 1) := cg16_261.2.2.2.2.2.2.2
theorem cg16_277 : mc_cd 16 277 = some (.putfield 41, 3) ∧ mc_cd 16 280 = some (.aload_n 0, 1) ∧ mc_cd 16 281 = some (.iload_n 1, 1) ∧ mc_cd 16 282 = some (.putfield 23, 3) ∧ mc_cd 16 285 = some (.return_, 1) := by decide +kernel
theorem c16_277 : mc_cd 16 277 = some (.putfield 41, 3) := cg16_277.1
theorem c16_280 : mc_cd 16 280 = some (.aload_n 0, 1) := cg16_277.2.1
theorem c16_281 : mc_cd 16 281 = some (.iload_n 1, 1) := cg16_277.2.2.1
theorem c16_282 : mc_cd 16 282 = some (.putfield 23, 3) := cg16_277.2.2.2.1
theorem c16_285 : mc_cd 16 285 = some (.return_, 1) := cg16_277.2.2.2.2
end
