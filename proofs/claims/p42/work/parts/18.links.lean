/-! what each pool entry names (own work, wip/gen2/links.py) -/
abbrev wlf (own idx c j : Nat) (b : Bool) : Prop := ∃ e, mc_find (mc_fl.getD own []) idx = some e ∧ (e.1 = c ∧ e.2.1 = j) ∧ e.2.2.1 = b
section XR

variable {kt : Nat → Option mc_E} {d : Nat} {E : wq_E} {pc pc' : Nat} {L L' : List (Nat × Value)} {st : List Value} {T : wq_T} {H H0 : wq_H} {K : Nat → List (Nat × Value) → List Value → wq_T → wq_H → Prop}

variable {idx c j n t t' a : Nat} {b : Bool} {lo hi p q z : Int}
theorem xg_I (hl : wlf E.1 idx c j b) (hW : WT T H) (g : T.2.2.2 a = some t) (hsh : wsh t = (100 + c, n)) (hc : (!decide (20 ≤ c) && decide (j < mc_N.getD c 0) && decide (j < n)) = true) (h8 : t < 80) (hty : wty t j = (0, lo, hi, 0)) (hk : wq_v (wq_fk c j) (H a j) = vI (H a j)) (hp : pc + 3 = pc') (h : lo ≤ H a j → H a j ≤ hi → K pc' L (vI (H a j) :: st) T H) : wq_s kt d E (.getfield idx) 3 pc L (.ref a :: st) T H K := by
  obtain ⟨e, he, hj, -⟩ := hl
  have hcc := wq_hc (hW.hi g h8) hc
  have hb := hW.box g (n := n) (by rw [hsh]) hcc.2.2 hty
  exact rw_getI he hj (hW.sh g hsh) hcc hk hp (h hb.1 hb.2)
theorem xg_L (hl : wlf E.1 idx c j b) (hW : WT T H) (g : T.2.2.2 a = some t) (hsh : wsh t = (100 + c, n)) (hc : (!decide (20 ≤ c) && decide (j < mc_N.getD c 0) && decide (j < n)) = true) (h8 : t < 80) (hty : wty t j = (0, lo, hi, 0)) (hk : wq_v (wq_fk c j) (H a j) = vL (H a j)) (hp : pc + 3 = pc') (h : lo ≤ H a j → H a j ≤ hi → K pc' L (vL (H a j) :: st) T H) : wq_s kt d E (.getfield idx) 3 pc L (.ref a :: st) T H K := by
  obtain ⟨e, he, hj, -⟩ := hl
  have hcc := wq_hc (hW.hi g h8) hc
  have hb := hW.box g (n := n) (by rw [hsh]) hcc.2.2 hty
  exact rw_getL he hj (hW.sh g hsh) hcc hk hp (h hb.1 hb.2)
theorem xg_R (hl : wlf E.1 idx c j b) (hW : WT T H) (g : T.2.2.2 a = some t) (hsh : wsh t = (100 + c, n)) (hc : (!decide (20 ≤ c) && decide (j < mc_N.getD c 0) && decide (j < n)) = true) (h8 : t < 80) (hty : wty t j = (2, p, q, t')) (hk : wq_v (wq_fk c j) (H a j) = vR (H a j)) (hp : pc + 3 = pc') (h : ∀ r : Nat, H a j = (r : Int) → T.2.2.2 r = some t' → K pc' L (.ref r :: st) T H) : wq_s kt d E (.getfield idx) 3 pc L (.ref a :: st) T H K := by
  obtain ⟨e, he, hj, -⟩ := hl
  have hcc := wq_hc (hW.hi g h8) hc
  obtain ⟨r, h1, h2⟩ := hW.ref g (n := n) (by rw [hsh]) hcc.2.2 hty
  exact rw_getR he hj (hW.sh g hsh) hcc hk h1 hp (h r h1 h2)
theorem xg_O (hl : wlf E.1 idx c j b) (hW : WT T H) (g : T.2.2.2 a = some t) (hsh : wsh t = (100 + c, n)) (hc : (!decide (20 ≤ c) && decide (j < mc_N.getD c 0) && decide (j < n)) = true) (h8 : t < 80) (hty : wty t j = (3, p, q, t')) (hk : wq_v (wq_fk c j) (H a j) = vR (H a j)) (hp : pc + 3 = pc') (h0 : H a j = -1 → K pc' L (.null :: st) T H) (h : ∀ r : Nat, H a j = (r : Int) → T.2.2.2 r = some t' → K pc' L (.ref r :: st) T H) : wq_s kt d E (.getfield idx) 3 pc L (.ref a :: st) T H K := by
  obtain ⟨e, he, hj, -⟩ := hl
  have hcc := wq_hc (hW.hi g h8) hc
  rcases hW.opt g (n := n) (by rw [hsh]) hcc.2.2 hty with h1 | ⟨r, h1, h2⟩
  · exact rw_getN he hj (hW.sh g hsh) hcc hk h1 hp (h0 h1)
  · exact rw_getR he hj (hW.sh g hsh) hcc hk h1 hp (h r h1 h2)
/-- a reference that is known -/
theorem xg_K {r : Nat} (hl : wlf E.1 idx c j b) (hW : WT T H) (g : T.2.2.2 a = some t) (hsh : wsh t = (100 + c, n)) (hc : (!decide (20 ≤ c) && decide (j < mc_N.getD c 0) && decide (j < n)) = true) (h8 : t < 80) (hk : wq_v (wq_fk c j) (H a j) = vR (H a j)) (hr : H a j = (r : Int)) (hp : pc + 3 = pc') (h : K pc' L (.ref r :: st) T H) : wq_s kt d E (.getfield idx) 3 pc L (.ref a :: st) T H K := by
  obtain ⟨e, he, hj, -⟩ := hl
  exact rw_getR he hj (hW.sh g hsh) (wq_hc (hW.hi g h8) hc) hk hr hp h
theorem xp_V {v : Value} (hl : wlf E.1 idx c j b) (hW : WT T H) (g : T.2.2.2 a = some t) (hsh : wsh t = (100 + c, n)) (hc : (decide (c < 11) && decide (j < mc_N.getD c 0) && decide (j < n) && (!(mc_T c j).2.2.2 || (E.2.2.1 && E.1 == c && !b))) = true) (h8 : t < 80) (hf : mc_fit (mc_t c j) v = true) (hv : wq_v (wq_fk c j) z = v) (hz : wq_in (wq_fk c j) z) (hk : wok T (wty t j) z) (hp : pc + 3 = pc') (h : ∀ H', H' = wq_u H a j z → WT T H' → K pc' L st T H') : wq_s kt d E (.putfield idx) 3 pc L (v :: .ref a :: st) T H K := by
  obtain ⟨e, he, hj, hb⟩ := hl
  subst hb
  simp only [Bool.and_eq_true, decide_eq_true_eq] at hc
  obtain ⟨⟨⟨h1, h2⟩, h3⟩, h4⟩ := hc
  exact rw_putf he hj (hW.sh g hsh) (hW.hi g h8) ⟨decide_eq_true h1, decide_eq_true h2, h3, h4⟩ hf hv hz hp (h _ rfl (hW.put g hk))
theorem xp_I (hl : wlf E.1 idx c j b) (hW : WT T H) (g : T.2.2.2 a = some t) (hsh : wsh t = (100 + c, n)) (hc : (decide (c < 11) && decide (j < mc_N.getD c 0) && decide (j < n) && (!(mc_T c j).2.2.2 || (E.2.2.1 && E.1 == c && !b))) = true) (h8 : t < 80) (hty : wty t j = (0, lo, hi, 0)) (hft : mc_t c j = .int) (hfk : wq_fk c j = 0) (h1 : lo ≤ z) (h2 : z ≤ hi) (h3 : wI z) (hp : pc + 3 = pc') (h : ∀ H', H' = wq_u H a j z → WT T H' → K pc' L st T H') : wq_s kt d E (.putfield idx) 3 pc L (vI z :: .ref a :: st) T H K :=
  xp_V hl hW g hsh hc h8 (by rw [hft]; rfl) (by rw [hfk]; rfl) (by rw [hfk]; exact h3) (by rw [hty]; exact ⟨h1, h2⟩) hp h
theorem xp_Z (hl : wlf E.1 idx c j b) (hW : WT T H) (g : T.2.2.2 a = some t) (hsh : wsh t = (100 + c, n)) (hc : (decide (c < 11) && decide (j < mc_N.getD c 0) && decide (j < n) && (!(mc_T c j).2.2.2 || (E.2.2.1 && E.1 == c && !b))) = true) (h8 : t < 80) (hty : wty t j = (0, 0, 1, 0)) (hft : mc_t c j = .boolean) (hfk : wq_fk c j = 4) (h1 : 0 ≤ z) (h2 : z ≤ 1) (hp : pc + 3 = pc') (h : ∀ H', H' = wq_u H a j z → WT T H' → K pc' L st T H') : wq_s kt d E (.putfield idx) 3 pc L (vI z :: .ref a :: st) T H K :=
  xp_V hl hW g hsh hc h8 (by rw [hft]; exact wq_fitZ h1 h2) (by rw [hfk]; rfl) (by rw [hfk]; exact ⟨h1, h2⟩) (by rw [hty]; exact ⟨h1, h2⟩) hp h
theorem xp_L (hl : wlf E.1 idx c j b) (hW : WT T H) (g : T.2.2.2 a = some t) (hsh : wsh t = (100 + c, n)) (hc : (decide (c < 11) && decide (j < mc_N.getD c 0) && decide (j < n) && (!(mc_T c j).2.2.2 || (E.2.2.1 && E.1 == c && !b))) = true) (h8 : t < 80) (hty : wty t j = (0, lo, hi, 0)) (hft : mc_t c j = .long) (hfk : wq_fk c j = 1) (h1 : lo ≤ z) (h2 : z ≤ hi) (h3 : wL z) (hp : pc + 3 = pc') (h : ∀ H', H' = wq_u H a j z → WT T H' → K pc' L st T H') : wq_s kt d E (.putfield idx) 3 pc L (vL z :: .ref a :: st) T H K :=
  xp_V hl hW g hsh hc h8 (by rw [hft]; rfl) (by rw [hfk]; rfl) (by rw [hfk]; exact h3) (by rw [hty]; exact ⟨h1, h2⟩) hp h
/-- an object, an array in a field -/
theorem xp_R {r : Nat} (hl : wlf E.1 idx c j b) (hW : WT T H) (g : T.2.2.2 a = some t) (hsh : wsh t = (100 + c, n)) (hc : (decide (c < 11) && decide (j < mc_N.getD c 0) && decide (j < n) && (!(mc_T c j).2.2.2 || (E.2.2.1 && E.1 == c && !b))) = true) (h8 : t < 80) (hf : mc_fit (mc_t c j) (.ref r) = true) (hfk : wq_fk c j = 2) (hk : wok T (wty t j) (r : Int)) (hp : pc + 3 = pc') (h : ∀ H', H' = wq_u H a j (r : Int) → WT T H' → K pc' L st T H') : wq_s kt d E (.putfield idx) 3 pc L (.ref r :: .ref a :: st) T H K :=
  xp_V hl hW g hsh hc h8 hf (by rw [hfk]; exact vR_of r) (by rw [hfk]; trivial) hk hp h
theorem wok_2 {r : Nat} (hty : wty t j = (2, p, q, t')) (g : T.2.2.2 r = some t') : wok T (wty t j) (r : Int) := by rw [hty]; exact ⟨by omega, by simpa using g⟩
theorem wok_3 {r : Nat} (hty : wty t j = (3, p, q, t')) (g : T.2.2.2 r = some t') : wok T (wty t j) (r : Int) := by rw [hty]; exact Or.inr ⟨by omega, by simpa using g⟩
theorem wok_4 {r : Nat} (hty : wty t j = (4, p, q, t')) (g : T.2.2.2 r = some t') : wok T (wty t j) (r : Int) := by rw [hty]; exact ⟨by omega, Or.inl (by simpa using g)⟩
theorem xa_I {so : Nat} (hW : WT T H) (g : T.2.2.2 a = some t) (hsh : wsh t = (0, n)) (hn : n ≤ 2147483648) (hty : wty t z.toNat = (0, lo, hi, 0)) (h0 : 0 ≤ z) (h1 : z < n) (hp : pc + 1 = pc') (h : lo ≤ H a z.toNat → H a z.toNat ≤ hi → K pc' L (vI (H a z.toNat) :: st) T H) : wq_s kt d E .iaload 1 pc L (vI z :: .ref a :: st) T H K := by
  have hb := hW.box g (n := n) (by rw [hsh]) (by omega) hty
  exact rw_iaload (hW.sh g hsh) ⟨by decide, rfl, Bool.or_true _, hn⟩ h0 h1 rfl hp (h hb.1 hb.2)
theorem xa_L (hW : WT T H) (g : T.2.2.2 a = some t) (hsh : wsh t = (1, n)) (hn : n ≤ 2147483648) (hty : wty t z.toNat = (0, lo, hi, 0)) (h0 : 0 ≤ z) (h1 : z < n) (hp : pc + 1 = pc') (h : lo ≤ H a z.toNat → H a z.toNat ≤ hi → K pc' L (vL (H a z.toNat) :: st) T H) : wq_s kt d E .laload 1 pc L (vI z :: .ref a :: st) T H K := by
  have hb := hW.box g (n := n) (by rw [hsh]) (by omega) hty
  exact rw_laload (hW.sh g hsh) ⟨by decide, rfl, Bool.or_true _, hn⟩ h0 h1 rfl hp (h hb.1 hb.2)
theorem xa_B {so : Nat} (hso : so = 2 ∨ so = 3) (hW : WT T H) (g : T.2.2.2 a = some t) (hsh : wsh t = (so, n)) (hn : n ≤ 2147483648) (hty : wty t z.toNat = (0, lo, hi, 0)) (h0 : 0 ≤ z) (h1 : z < n) (hp : pc + 1 = pc') (h : lo ≤ H a z.toNat → H a z.toNat ≤ hi → K pc' L (vI (H a z.toNat) :: st) T H) : wq_s kt d E .baload 1 pc L (vI z :: .ref a :: st) T H K := by
  have hb := hW.box g (n := n) (by rw [hsh]) (by omega) hty
  rcases hso with rfl | rfl
  · exact rw_baload (hW.sh g hsh) ⟨by decide, rfl, Bool.or_true _, hn⟩ h0 h1 rfl hp (h hb.1 hb.2)
  · exact rw_baload (hW.sh g hsh) ⟨by decide, rfl, Bool.or_true _, hn⟩ h0 h1 rfl hp (h hb.1 hb.2)
theorem xa_R {so : Nat} (hso : so = 4 ∨ so = 5 ∨ so = 6) (hW : WT T H) (g : T.2.2.2 a = some t) (hsh : wsh t = (so, n)) (hn : n ≤ 2147483648) (hty : wty t z.toNat = (2, p, q, t')) (h0 : 0 ≤ z) (h1 : z < n) (hp : pc + 1 = pc') (h : ∀ r : Nat, H a z.toNat = (r : Int) → T.2.2.2 r = some t' → K pc' L (.ref r :: st) T H) : wq_s kt d E .aaload 1 pc L (vI z :: .ref a :: st) T H K := by
  obtain ⟨r, h2, h3⟩ := hW.ref g (n := n) (by rw [hsh]) (by omega) hty
  rcases hso with rfl | rfl | rfl
  · exact rw_aaload (hW.sh g hsh) ⟨by decide, rfl, Bool.or_true _, hn⟩ h0 h1 rfl h2 hp (h r h2 h3)
  · exact rw_aaload (hW.sh g hsh) ⟨by decide, rfl, Bool.or_true _, hn⟩ h0 h1 rfl h2 hp (h r h2 h3)
  · exact rw_aaload (hW.sh g hsh) ⟨by decide, rfl, Bool.or_true _, hn⟩ h0 h1 rfl h2 hp (h r h2 h3)
theorem xa_K {so r : Nat} (hso : so = 4 ∨ so = 5 ∨ so = 6) (hW : WT T H) (g : T.2.2.2 a = some t) (hsh : wsh t = (so, n)) (hn : n ≤ 2147483648) (h0 : 0 ≤ z) (h1 : z < n) (h2 : H a z.toNat = (r : Int)) (hp : pc + 1 = pc') (h : K pc' L (.ref r :: st) T H) : wq_s kt d E .aaload 1 pc L (vI z :: .ref a :: st) T H K := by
  rcases hso with rfl | rfl | rfl
  · exact rw_aaload (hW.sh g hsh) ⟨by decide, rfl, Bool.or_true _, hn⟩ h0 h1 rfl h2 hp h
  · exact rw_aaload (hW.sh g hsh) ⟨by decide, rfl, Bool.or_true _, hn⟩ h0 h1 rfl h2 hp h
  · exact rw_aaload (hW.sh g hsh) ⟨by decide, rfl, Bool.or_true _, hn⟩ h0 h1 rfl h2 hp h
theorem xs_I {y : Int} (hW : WT T H) (g : T.2.2.2 a = some t) (h8 : t < 80) (hsh : wsh t = (0, n)) (hn : n ≤ 2147483648) (hty : wty t z.toNat = (0, lo, hi, 0)) (h2 : lo ≤ y) (h3 : y ≤ hi) (h4 : wI y) (h0 : 0 ≤ z) (h1 : z < n) (hp : pc + 1 = pc') (h : ∀ H', H' = wq_u H a z.toNat y → WT T H' → K pc' L st T H') : wq_s kt d E .iastore 1 pc L (vI y :: vI z :: .ref a :: st) T H K :=
  rw_iastore (hW.sh g hsh) (hW.hi g h8) hn h4 h0 h1 hp (h _ rfl (hW.putB g hty h2 h3))
theorem xs_L {y : Int} (hW : WT T H) (g : T.2.2.2 a = some t) (h8 : t < 80) (hsh : wsh t = (1, n)) (hn : n ≤ 2147483648) (hty : wty t z.toNat = (0, lo, hi, 0)) (h2 : lo ≤ y) (h3 : y ≤ hi) (h4 : wL y) (h0 : 0 ≤ z) (h1 : z < n) (hp : pc + 1 = pc') (h : ∀ H', H' = wq_u H a z.toNat y → WT T H' → K pc' L st T H') : wq_s kt d E .lastore 1 pc L (vL y :: vI z :: .ref a :: st) T H K :=
  rw_lastore (hW.sh g hsh) (hW.hi g h8) hn h4 h0 h1 hp (h _ rfl (hW.putB g hty h2 h3))
theorem xs_B {y : Int} (hW : WT T H) (g : T.2.2.2 a = some t) (h8 : t < 80) (hsh : wsh t = (2, n)) (hn : n ≤ 2147483648) (hty : wty t z.toNat = (0, lo, hi, 0)) (h2 : lo ≤ y) (h3 : y ≤ hi) (h4 : -128 ≤ y ∧ y ≤ 127) (h0 : 0 ≤ z) (h1 : z < n) (hp : pc + 1 = pc') (h : ∀ H', H' = wq_u H a z.toNat y → WT T H' → K pc' L st T H') : wq_s kt d E .bastore 1 pc L (vI y :: vI z :: .ref a :: st) T H K :=
  rw_bastore (hW.sh g hsh) (hW.hi g h8) hn h4 h0 h1 hp (h _ rfl (hW.putB g hty h2 h3))
theorem xs_Z {y : Int} (hW : WT T H) (g : T.2.2.2 a = some t) (h8 : t < 80) (hsh : wsh t = (3, n)) (hn : n ≤ 2147483648) (hty : wty t z.toNat = (0, lo, hi, 0)) (h2 : lo ≤ y) (h3 : y ≤ hi) (h4 : 0 ≤ y ∧ y ≤ 1) (h0 : 0 ≤ z) (h1 : z < n) (hp : pc + 1 = pc') (h : ∀ H', H' = wq_u H a z.toNat y → WT T H' → K pc' L st T H') : wq_s kt d E .bastore 1 pc L (vI y :: vI z :: .ref a :: st) T H K :=
  rw_zastore (hW.sh g hsh) (hW.hi g h8) hn h4 h0 h1 hp (h _ rfl (hW.putB g hty h2 h3))
theorem xa_N {so : Nat} (hW : WT T H) (g : T.2.2.2 a = some t) (hsh : wsh t = (so, n)) (hs : so < 7) (hp : pc + 1 = pc') (h : K pc' L (vI n :: st) T H) : wq_s kt d E .arraylength 1 pc L (.ref a :: st) T H K :=
  rw_alen (hW.sh g hsh) ⟨by omega, by simp [hs]⟩ hp h
theorem xc_V {k2 np r D : Nat} {as : List Value} {st0 : List Value} {Q' : Option Value → wq_T → wq_H → Prop} (hm : wq_ml E.1 idx = some (k2, np, 1, c)) (hst : st0 = as.reverse ++ .ref r :: st) (hal : as.length = np) (hcat : ((st.map Value.category).sum ≤ 8)) (hW : WT T H) (g : T.2.2.2 r = some t) (hsh : wsh t = (100 + c, n)) (h8 : t < 80) (hp : pc + 3 = pc') (hD : D ≤ d) (hs : wpc kt D k2 (.ref r :: as) T H Q') (h : ∀ r T' H', Q' r T' H' → K pc' L (mc_rs r ++ st) T' H') : wq_s kt d E (.invokevirtual idx) 3 pc L st0 T H K :=
  rw_calV hm hst hal hcat (hW.hi g h8) (hW.sh g hsh) hp ((hs.imp h).deep hD)
theorem xc_S {k2 np D : Nat} {as : List Value} {st0 : List Value} {Q' : Option Value → wq_T → wq_H → Prop} (hm : wq_ml E.1 idx = some (k2, np, 0, c)) (hst : st0 = as.reverse ++ st) (hal : as.length = np) (hcat : ((st.map Value.category).sum ≤ 8)) (hp : pc + 3 = pc') (hD : D ≤ d) (hs : wpc kt D k2 as T H Q') (h : ∀ r T' H', Q' r T' H' → K pc' L (mc_rs r ++ st) T' H') : wq_s kt d E (.invokestatic idx) 3 pc L st0 T H K :=
  rw_calS hm hst hal hcat hp ((hs.imp h).deep hD)
theorem wfr.put' {l : List (Nat × Nat)} {H2 : wq_H} (h : wfr l T H0 H) (e : H2 = wq_u H a j z) (ht : T.2.2.2 a = some t) (hm : wmem l t j = true) : wfr l T H0 H2 := by rw [e]; exact h.put ht hm
theorem wq_u_s {H2 : wq_H} (e : H2 = wq_u H a j z) : H2 a j = z := by rw [e]; exact wq_u_eq
theorem wq_u_j {H2 : wq_H} {a' j' : Nat} (e : H2 = wq_u H a j z) (h : (j' == j) = false) : H2 a' j' = H a' j' := by
  rw [e]
  refine wq_u_ne (fun q => ?_)
  rw [q.2] at h
  simp at h
theorem wq_u_t {H2 : wq_H} {a' s : Nat} (e : H2 = wq_u H a j z) (g : T.2.2.2 a = some t) (g' : T.2.2.2 a' = some s) (h : (s == t) = false) (j' : Nat) : H2 a' j' = H a' j' := by
  rw [e]
  exact wq_u_na (wtag_ne g' g h) j'
end XR
theorem lf_0_78 : wlf 0 78 1 3 false := ⟨_, rfl, ⟨rfl, rfl⟩, rfl⟩
theorem lf_0_84 : wlf 0 84 1 4 false := ⟨_, rfl, ⟨rfl, rfl⟩, rfl⟩
theorem lf_0_190 : wlf 0 190 4 1 false := ⟨_, rfl, ⟨rfl, rfl⟩, rfl⟩
theorem lf_0_265 : wlf 0 265 4 3 false := ⟨_, rfl, ⟨rfl, rfl⟩, rfl⟩
theorem lf_0_268 : wlf 0 268 4 4 false := ⟨_, rfl, ⟨rfl, rfl⟩, rfl⟩
theorem lf_0_177 : wlf 0 177 4 5 false := ⟨_, rfl, ⟨rfl, rfl⟩, rfl⟩
theorem lf_0_187 : wlf 0 187 4 6 false := ⟨_, rfl, ⟨rfl, rfl⟩, rfl⟩
theorem lf_0_207 : wlf 0 207 4 7 false := ⟨_, rfl, ⟨rfl, rfl⟩, rfl⟩
theorem lf_0_210 : wlf 0 210 4 8 false := ⟨_, rfl, ⟨rfl, rfl⟩, rfl⟩
theorem lf_0_125 : wlf 0 125 8 0 false := ⟨_, rfl, ⟨rfl, rfl⟩, rfl⟩
theorem lf_0_129 : wlf 0 129 8 1 false := ⟨_, rfl, ⟨rfl, rfl⟩, rfl⟩
theorem lf_0_135 : wlf 0 135 8 3 false := ⟨_, rfl, ⟨rfl, rfl⟩, rfl⟩
theorem lf_0_317 : wlf 0 317 8 13 false := ⟨_, rfl, ⟨rfl, rfl⟩, rfl⟩
theorem lf_0_113 : wlf 0 113 8 15 false := ⟨_, rfl, ⟨rfl, rfl⟩, rfl⟩
theorem lf_0_148 : wlf 0 148 8 16 false := ⟨_, rfl, ⟨rfl, rfl⟩, rfl⟩
theorem lf_0_109 : wlf 0 109 7 0 false := ⟨_, rfl, ⟨rfl, rfl⟩, rfl⟩
theorem lf_0_262 : wlf 0 262 7 1 false := ⟨_, rfl, ⟨rfl, rfl⟩, rfl⟩
theorem lf_0_339 : wlf 0 339 7 7 false := ⟨_, rfl, ⟨rfl, rfl⟩, rfl⟩
theorem lf_0_96 : wlf 0 96 7 10 false := ⟨_, rfl, ⟨rfl, rfl⟩, rfl⟩
theorem lf_0_327 : wlf 0 327 7 11 false := ⟨_, rfl, ⟨rfl, rfl⟩, rfl⟩
theorem lf_0_330 : wlf 0 330 7 12 false := ⟨_, rfl, ⟨rfl, rfl⟩, rfl⟩
theorem lf_0_333 : wlf 0 333 7 13 false := ⟨_, rfl, ⟨rfl, rfl⟩, rfl⟩
theorem lf_0_336 : wlf 0 336 7 14 false := ⟨_, rfl, ⟨rfl, rfl⟩, rfl⟩
theorem lf_0_342 : wlf 0 342 7 15 false := ⟨_, rfl, ⟨rfl, rfl⟩, rfl⟩
theorem lf_0_295 : wlf 0 295 7 16 false := ⟨_, rfl, ⟨rfl, rfl⟩, rfl⟩
theorem lf_0_298 : wlf 0 298 7 17 false := ⟨_, rfl, ⟨rfl, rfl⟩, rfl⟩
theorem lf_0_141 : wlf 0 141 7 18 false := ⟨_, rfl, ⟨rfl, rfl⟩, rfl⟩
theorem lf_0_9 : wlf 0 9 0 0 false := ⟨_, rfl, ⟨rfl, rfl⟩, rfl⟩
theorem lf_0_16 : wlf 0 16 0 1 false := ⟨_, rfl, ⟨rfl, rfl⟩, rfl⟩
theorem lf_0_23 : wlf 0 23 0 2 false := ⟨_, rfl, ⟨rfl, rfl⟩, rfl⟩
theorem lf_0_30 : wlf 0 30 0 3 false := ⟨_, rfl, ⟨rfl, rfl⟩, rfl⟩
theorem lf_0_37 : wlf 0 37 0 4 false := ⟨_, rfl, ⟨rfl, rfl⟩, rfl⟩
theorem lf_0_44 : wlf 0 44 0 5 false := ⟨_, rfl, ⟨rfl, rfl⟩, rfl⟩
theorem lf_0_51 : wlf 0 51 0 6 false := ⟨_, rfl, ⟨rfl, rfl⟩, rfl⟩
theorem lf_0_55 : wlf 0 55 0 7 false := ⟨_, rfl, ⟨rfl, rfl⟩, rfl⟩
theorem lf_0_58 : wlf 0 58 0 8 false := ⟨_, rfl, ⟨rfl, rfl⟩, rfl⟩
theorem lf_0_62 : wlf 0 62 0 9 false := ⟨_, rfl, ⟨rfl, rfl⟩, rfl⟩
theorem lf_0_102 : wlf 0 102 0 10 false := ⟨_, rfl, ⟨rfl, rfl⟩, rfl⟩
theorem lf_0_81 : wlf 0 81 0 11 false := ⟨_, rfl, ⟨rfl, rfl⟩, rfl⟩
theorem lf_0_87 : wlf 0 87 0 12 false := ⟨_, rfl, ⟨rfl, rfl⟩, rfl⟩
theorem lf_1_38 : wlf 1 38 2 3 false := ⟨_, rfl, ⟨rfl, rfl⟩, rfl⟩
theorem lf_1_257 : wlf 1 257 2 4 false := ⟨_, rfl, ⟨rfl, rfl⟩, rfl⟩
theorem lf_1_230 : wlf 1 230 2 5 false := ⟨_, rfl, ⟨rfl, rfl⟩, rfl⟩
theorem lf_1_135 : wlf 1 135 2 6 false := ⟨_, rfl, ⟨rfl, rfl⟩, rfl⟩
theorem lf_1_12 : wlf 1 12 1 0 false := ⟨_, rfl, ⟨rfl, rfl⟩, rfl⟩
theorem lf_1_158 : wlf 1 158 1 1 false := ⟨_, rfl, ⟨rfl, rfl⟩, rfl⟩
theorem lf_1_164 : wlf 1 164 1 2 false := ⟨_, rfl, ⟨rfl, rfl⟩, rfl⟩
theorem lf_1_18 : wlf 1 18 1 3 false := ⟨_, rfl, ⟨rfl, rfl⟩, rfl⟩
theorem lf_1_22 : wlf 1 22 1 4 false := ⟨_, rfl, ⟨rfl, rfl⟩, rfl⟩
theorem lf_1_161 : wlf 1 161 8 7 false := ⟨_, rfl, ⟨rfl, rfl⟩, rfl⟩
theorem lf_1_167 : wlf 1 167 8 8 false := ⟨_, rfl, ⟨rfl, rfl⟩, rfl⟩
theorem lf_1_172 : wlf 1 172 8 9 false := ⟨_, rfl, ⟨rfl, rfl⟩, rfl⟩
theorem lf_1_175 : wlf 1 175 8 10 false := ⟨_, rfl, ⟨rfl, rfl⟩, rfl⟩
theorem lf_1_188 : wlf 1 188 8 11 false := ⟨_, rfl, ⟨rfl, rfl⟩, rfl⟩
theorem lf_1_197 : wlf 1 197 8 12 false := ⟨_, rfl, ⟨rfl, rfl⟩, rfl⟩
theorem lf_1_203 : wlf 1 203 8 13 false := ⟨_, rfl, ⟨rfl, rfl⟩, rfl⟩
theorem lf_1_214 : wlf 1 214 8 14 false := ⟨_, rfl, ⟨rfl, rfl⟩, rfl⟩
theorem lf_1_143 : wlf 1 143 7 0 false := ⟨_, rfl, ⟨rfl, rfl⟩, rfl⟩
theorem lf_1_224 : wlf 1 224 7 3 false := ⟨_, rfl, ⟨rfl, rfl⟩, rfl⟩
theorem lf_1_242 : wlf 1 242 7 4 false := ⟨_, rfl, ⟨rfl, rfl⟩, rfl⟩
theorem lf_1_248 : wlf 1 248 7 5 false := ⟨_, rfl, ⟨rfl, rfl⟩, rfl⟩
theorem lf_1_251 : wlf 1 251 7 6 false := ⟨_, rfl, ⟨rfl, rfl⟩, rfl⟩
theorem lf_1_41 : wlf 1 41 7 7 false := ⟨_, rfl, ⟨rfl, rfl⟩, rfl⟩
theorem lf_1_127 : wlf 1 127 7 8 false := ⟨_, rfl, ⟨rfl, rfl⟩, rfl⟩
theorem lf_1_129 : wlf 1 129 7 9 false := ⟨_, rfl, ⟨rfl, rfl⟩, rfl⟩
theorem lf_1_44 : wlf 1 44 7 10 false := ⟨_, rfl, ⟨rfl, rfl⟩, rfl⟩
theorem lf_1_221 : wlf 1 221 7 11 false := ⟨_, rfl, ⟨rfl, rfl⟩, rfl⟩
theorem lf_1_227 : wlf 1 227 7 12 false := ⟨_, rfl, ⟨rfl, rfl⟩, rfl⟩
theorem lf_1_245 : wlf 1 245 7 13 false := ⟨_, rfl, ⟨rfl, rfl⟩, rfl⟩
theorem lf_1_254 : wlf 1 254 7 14 false := ⟨_, rfl, ⟨rfl, rfl⟩, rfl⟩
theorem lf_1_211 : wlf 1 211 7 15 false := ⟨_, rfl, ⟨rfl, rfl⟩, rfl⟩
theorem lf_1_181 : wlf 1 181 20 0 false := ⟨_, rfl, ⟨rfl, rfl⟩, rfl⟩
theorem lf_1_58 : wlf 1 58 20 1 false := ⟨_, rfl, ⟨rfl, rfl⟩, rfl⟩
theorem lf_2_7 : wlf 2 7 2 0 false := ⟨_, rfl, ⟨rfl, rfl⟩, rfl⟩
theorem lf_2_19 : wlf 2 19 2 1 false := ⟨_, rfl, ⟨rfl, rfl⟩, rfl⟩
theorem lf_2_23 : wlf 2 23 2 2 false := ⟨_, rfl, ⟨rfl, rfl⟩, rfl⟩
theorem lf_2_41 : wlf 2 41 2 3 false := ⟨_, rfl, ⟨rfl, rfl⟩, rfl⟩
theorem lf_2_29 : wlf 2 29 2 4 false := ⟨_, rfl, ⟨rfl, rfl⟩, rfl⟩
theorem lf_2_38 : wlf 2 38 2 5 false := ⟨_, rfl, ⟨rfl, rfl⟩, rfl⟩
theorem lf_2_32 : wlf 2 32 2 6 false := ⟨_, rfl, ⟨rfl, rfl⟩, rfl⟩
theorem lf_3_9 : wlf 3 9 3 0 false := ⟨_, rfl, ⟨rfl, rfl⟩, rfl⟩
theorem lf_3_15 : wlf 3 15 3 1 false := ⟨_, rfl, ⟨rfl, rfl⟩, rfl⟩
theorem lf_3_19 : wlf 3 19 3 2 false := ⟨_, rfl, ⟨rfl, rfl⟩, rfl⟩
theorem lf_3_22 : wlf 3 22 3 3 false := ⟨_, rfl, ⟨rfl, rfl⟩, rfl⟩
theorem lf_3_25 : wlf 3 25 3 4 false := ⟨_, rfl, ⟨rfl, rfl⟩, rfl⟩
theorem lf_3_51 : wlf 3 51 3 5 false := ⟨_, rfl, ⟨rfl, rfl⟩, rfl⟩
theorem lf_3_85 : wlf 3 85 8 2 false := ⟨_, rfl, ⟨rfl, rfl⟩, rfl⟩
theorem lf_3_75 : wlf 3 75 8 3 false := ⟨_, rfl, ⟨rfl, rfl⟩, rfl⟩
theorem lf_3_69 : wlf 3 69 8 4 false := ⟨_, rfl, ⟨rfl, rfl⟩, rfl⟩
theorem lf_3_72 : wlf 3 72 8 5 false := ⟨_, rfl, ⟨rfl, rfl⟩, rfl⟩
theorem lf_3_82 : wlf 3 82 8 14 false := ⟨_, rfl, ⟨rfl, rfl⟩, rfl⟩
theorem lf_3_52 : wlf 3 52 8 15 false := ⟨_, rfl, ⟨rfl, rfl⟩, rfl⟩
theorem lf_3_46 : wlf 3 46 8 16 false := ⟨_, rfl, ⟨rfl, rfl⟩, rfl⟩
theorem lf_3_42 : wlf 3 42 7 0 false := ⟨_, rfl, ⟨rfl, rfl⟩, rfl⟩
theorem lf_3_112 : wlf 3 112 7 2 false := ⟨_, rfl, ⟨rfl, rfl⟩, rfl⟩
theorem lf_3_58 : wlf 3 58 7 3 false := ⟨_, rfl, ⟨rfl, rfl⟩, rfl⟩
theorem lf_3_103 : wlf 3 103 7 7 false := ⟨_, rfl, ⟨rfl, rfl⟩, rfl⟩
theorem lf_3_115 : wlf 3 115 7 9 false := ⟨_, rfl, ⟨rfl, rfl⟩, rfl⟩
theorem lf_3_36 : wlf 3 36 7 10 false := ⟨_, rfl, ⟨rfl, rfl⟩, rfl⟩
theorem lf_3_55 : wlf 3 55 7 12 false := ⟨_, rfl, ⟨rfl, rfl⟩, rfl⟩
theorem lf_3_109 : wlf 3 109 7 16 false := ⟨_, rfl, ⟨rfl, rfl⟩, rfl⟩
theorem lf_4_11 : wlf 4 11 4 0 false := ⟨_, rfl, ⟨rfl, rfl⟩, rfl⟩
theorem lf_4_17 : wlf 4 17 4 1 false := ⟨_, rfl, ⟨rfl, rfl⟩, rfl⟩
theorem lf_4_22 : wlf 4 22 4 2 false := ⟨_, rfl, ⟨rfl, rfl⟩, rfl⟩
theorem lf_4_25 : wlf 4 25 4 3 false := ⟨_, rfl, ⟨rfl, rfl⟩, rfl⟩
theorem lf_4_29 : wlf 4 29 4 4 false := ⟨_, rfl, ⟨rfl, rfl⟩, rfl⟩
theorem lf_4_62 : wlf 4 62 4 5 false := ⟨_, rfl, ⟨rfl, rfl⟩, rfl⟩
theorem lf_4_66 : wlf 4 66 4 6 false := ⟨_, rfl, ⟨rfl, rfl⟩, rfl⟩
theorem lf_4_69 : wlf 4 69 4 7 false := ⟨_, rfl, ⟨rfl, rfl⟩, rfl⟩
theorem lf_4_72 : wlf 4 72 4 8 false := ⟨_, rfl, ⟨rfl, rfl⟩, rfl⟩
theorem lf_4_32 : wlf 4 32 4 9 false := ⟨_, rfl, ⟨rfl, rfl⟩, rfl⟩
theorem lf_4_138 : wlf 4 138 8 2 false := ⟨_, rfl, ⟨rfl, rfl⟩, rfl⟩
theorem lf_4_119 : wlf 4 119 8 3 false := ⟨_, rfl, ⟨rfl, rfl⟩, rfl⟩
theorem lf_4_116 : wlf 4 116 8 15 false := ⟨_, rfl, ⟨rfl, rfl⟩, rfl⟩
theorem lf_4_78 : wlf 4 78 7 0 false := ⟨_, rfl, ⟨rfl, rfl⟩, rfl⟩
theorem lf_4_94 : wlf 4 94 7 2 false := ⟨_, rfl, ⟨rfl, rfl⟩, rfl⟩
theorem lf_4_144 : wlf 4 144 7 4 false := ⟨_, rfl, ⟨rfl, rfl⟩, rfl⟩
theorem lf_4_147 : wlf 4 147 7 5 false := ⟨_, rfl, ⟨rfl, rfl⟩, rfl⟩
theorem lf_4_75 : wlf 4 75 7 10 false := ⟨_, rfl, ⟨rfl, rfl⟩, rfl⟩
theorem lf_4_91 : wlf 4 91 7 16 false := ⟨_, rfl, ⟨rfl, rfl⟩, rfl⟩
theorem lf_4_45 : wlf 4 45 7 18 false := ⟨_, rfl, ⟨rfl, rfl⟩, rfl⟩
theorem lf_5_9 : wlf 5 9 5 0 false := ⟨_, rfl, ⟨rfl, rfl⟩, rfl⟩
theorem lf_5_15 : wlf 5 15 5 1 false := ⟨_, rfl, ⟨rfl, rfl⟩, rfl⟩
theorem lf_5_18 : wlf 5 18 5 2 false := ⟨_, rfl, ⟨rfl, rfl⟩, rfl⟩
theorem lf_5_21 : wlf 5 21 5 3 false := ⟨_, rfl, ⟨rfl, rfl⟩, rfl⟩
theorem lf_5_28 : wlf 5 28 5 4 false := ⟨_, rfl, ⟨rfl, rfl⟩, rfl⟩
theorem lf_5_79 : wlf 5 79 8 17 false := ⟨_, rfl, ⟨rfl, rfl⟩, rfl⟩
theorem lf_5_75 : wlf 5 75 7 0 false := ⟨_, rfl, ⟨rfl, rfl⟩, rfl⟩
theorem lf_5_46 : wlf 5 46 7 10 false := ⟨_, rfl, ⟨rfl, rfl⟩, rfl⟩
theorem lf_6_9 : wlf 6 9 6 0 false := ⟨_, rfl, ⟨rfl, rfl⟩, rfl⟩
theorem lf_6_68 : wlf 6 68 6 1 false := ⟨_, rfl, ⟨rfl, rfl⟩, rfl⟩
theorem lf_6_81 : wlf 6 81 6 2 false := ⟨_, rfl, ⟨rfl, rfl⟩, rfl⟩
theorem lf_6_38 : wlf 6 38 8 2 false := ⟨_, rfl, ⟨rfl, rfl⟩, rfl⟩
theorem lf_6_15 : wlf 6 15 7 0 false := ⟨_, rfl, ⟨rfl, rfl⟩, rfl⟩
theorem lf_6_91 : wlf 6 91 7 2 false := ⟨_, rfl, ⟨rfl, rfl⟩, rfl⟩
theorem lf_6_21 : wlf 6 21 7 4 false := ⟨_, rfl, ⟨rfl, rfl⟩, rfl⟩
theorem lf_6_25 : wlf 6 25 7 5 false := ⟨_, rfl, ⟨rfl, rfl⟩, rfl⟩
theorem lf_6_113 : wlf 6 113 7 9 false := ⟨_, rfl, ⟨rfl, rfl⟩, rfl⟩
theorem lf_6_88 : wlf 6 88 7 16 false := ⟨_, rfl, ⟨rfl, rfl⟩, rfl⟩
theorem lf_6_34 : wlf 6 34 7 18 false := ⟨_, rfl, ⟨rfl, rfl⟩, rfl⟩
theorem lf_7_86 : wlf 7 86 8 6 false := ⟨_, rfl, ⟨rfl, rfl⟩, rfl⟩
theorem lf_7_110 : wlf 7 110 8 15 false := ⟨_, rfl, ⟨rfl, rfl⟩, rfl⟩
theorem lf_7_127 : wlf 7 127 8 16 false := ⟨_, rfl, ⟨rfl, rfl⟩, rfl⟩
theorem lf_7_107 : wlf 7 107 8 17 false := ⟨_, rfl, ⟨rfl, rfl⟩, rfl⟩
theorem lf_7_11 : wlf 7 11 7 0 false := ⟨_, rfl, ⟨rfl, rfl⟩, rfl⟩
theorem lf_7_17 : wlf 7 17 7 1 false := ⟨_, rfl, ⟨rfl, rfl⟩, rfl⟩
theorem lf_7_21 : wlf 7 21 7 2 false := ⟨_, rfl, ⟨rfl, rfl⟩, rfl⟩
theorem lf_7_30 : wlf 7 30 7 5 false := ⟨_, rfl, ⟨rfl, rfl⟩, rfl⟩
theorem lf_7_33 : wlf 7 33 7 6 false := ⟨_, rfl, ⟨rfl, rfl⟩, rfl⟩
theorem lf_7_41 : wlf 7 41 7 7 false := ⟨_, rfl, ⟨rfl, rfl⟩, rfl⟩
theorem lf_7_44 : wlf 7 44 7 8 false := ⟨_, rfl, ⟨rfl, rfl⟩, rfl⟩
theorem lf_7_47 : wlf 7 47 7 9 false := ⟨_, rfl, ⟨rfl, rfl⟩, rfl⟩
theorem lf_7_50 : wlf 7 50 7 10 false := ⟨_, rfl, ⟨rfl, rfl⟩, rfl⟩
theorem lf_7_53 : wlf 7 53 7 11 false := ⟨_, rfl, ⟨rfl, rfl⟩, rfl⟩
theorem lf_7_56 : wlf 7 56 7 12 false := ⟨_, rfl, ⟨rfl, rfl⟩, rfl⟩
theorem lf_7_59 : wlf 7 59 7 13 false := ⟨_, rfl, ⟨rfl, rfl⟩, rfl⟩
theorem lf_7_62 : wlf 7 62 7 14 false := ⟨_, rfl, ⟨rfl, rfl⟩, rfl⟩
theorem lf_7_37 : wlf 7 37 7 15 false := ⟨_, rfl, ⟨rfl, rfl⟩, rfl⟩
theorem lf_7_65 : wlf 7 65 7 16 false := ⟨_, rfl, ⟨rfl, rfl⟩, rfl⟩
theorem lf_7_68 : wlf 7 68 7 17 false := ⟨_, rfl, ⟨rfl, rfl⟩, rfl⟩
theorem lf_7_71 : wlf 7 71 7 18 false := ⟨_, rfl, ⟨rfl, rfl⟩, rfl⟩
theorem lf_8_9 : wlf 8 9 8 0 false := ⟨_, rfl, ⟨rfl, rfl⟩, rfl⟩
theorem lf_8_15 : wlf 8 15 8 1 false := ⟨_, rfl, ⟨rfl, rfl⟩, rfl⟩
theorem lf_8_18 : wlf 8 18 8 2 false := ⟨_, rfl, ⟨rfl, rfl⟩, rfl⟩
theorem lf_8_21 : wlf 8 21 8 3 false := ⟨_, rfl, ⟨rfl, rfl⟩, rfl⟩
theorem lf_8_24 : wlf 8 24 8 4 false := ⟨_, rfl, ⟨rfl, rfl⟩, rfl⟩
theorem lf_8_28 : wlf 8 28 8 5 false := ⟨_, rfl, ⟨rfl, rfl⟩, rfl⟩
theorem lf_8_31 : wlf 8 31 8 6 false := ⟨_, rfl, ⟨rfl, rfl⟩, rfl⟩
theorem lf_8_62 : wlf 8 62 8 7 false := ⟨_, rfl, ⟨rfl, rfl⟩, rfl⟩
theorem lf_8_65 : wlf 8 65 8 8 false := ⟨_, rfl, ⟨rfl, rfl⟩, rfl⟩
theorem lf_8_68 : wlf 8 68 8 9 false := ⟨_, rfl, ⟨rfl, rfl⟩, rfl⟩
theorem lf_8_71 : wlf 8 71 8 10 false := ⟨_, rfl, ⟨rfl, rfl⟩, rfl⟩
theorem lf_8_35 : wlf 8 35 8 11 false := ⟨_, rfl, ⟨rfl, rfl⟩, rfl⟩
theorem lf_8_39 : wlf 8 39 8 12 false := ⟨_, rfl, ⟨rfl, rfl⟩, rfl⟩
theorem lf_8_42 : wlf 8 42 8 13 false := ⟨_, rfl, ⟨rfl, rfl⟩, rfl⟩
theorem lf_8_46 : wlf 8 46 8 14 false := ⟨_, rfl, ⟨rfl, rfl⟩, rfl⟩
theorem lf_8_49 : wlf 8 49 8 15 false := ⟨_, rfl, ⟨rfl, rfl⟩, rfl⟩
theorem lf_8_52 : wlf 8 52 8 16 false := ⟨_, rfl, ⟨rfl, rfl⟩, rfl⟩
theorem lf_8_55 : wlf 8 55 8 17 false := ⟨_, rfl, ⟨rfl, rfl⟩, rfl⟩
theorem lf_9_48 : wlf 9 48 9 0 false := ⟨_, rfl, ⟨rfl, rfl⟩, rfl⟩
theorem lf_9_51 : wlf 9 51 9 1 false := ⟨_, rfl, ⟨rfl, rfl⟩, rfl⟩
theorem lf_9_9 : wlf 9 9 9 2 false := ⟨_, rfl, ⟨rfl, rfl⟩, rfl⟩
theorem lf_9_337 : wlf 9 337 9 3 false := ⟨_, rfl, ⟨rfl, rfl⟩, rfl⟩
theorem lf_9_166 : wlf 9 166 9 4 false := ⟨_, rfl, ⟨rfl, rfl⟩, rfl⟩
theorem lf_9_13 : wlf 9 13 9 5 false := ⟨_, rfl, ⟨rfl, rfl⟩, rfl⟩
theorem lf_9_330 : wlf 9 330 9 6 false := ⟨_, rfl, ⟨rfl, rfl⟩, rfl⟩
theorem lf_9_61 : wlf 9 61 9 7 false := ⟨_, rfl, ⟨rfl, rfl⟩, rfl⟩
theorem lf_9_78 : wlf 9 78 9 8 false := ⟨_, rfl, ⟨rfl, rfl⟩, rfl⟩
theorem lf_9_75 : wlf 9 75 9 9 false := ⟨_, rfl, ⟨rfl, rfl⟩, rfl⟩
theorem lf_9_84 : wlf 9 84 9 10 false := ⟨_, rfl, ⟨rfl, rfl⟩, rfl⟩
theorem lf_9_87 : wlf 9 87 9 11 false := ⟨_, rfl, ⟨rfl, rfl⟩, rfl⟩
theorem lf_9_101 : wlf 9 101 9 12 false := ⟨_, rfl, ⟨rfl, rfl⟩, rfl⟩
theorem lf_9_104 : wlf 9 104 9 13 false := ⟨_, rfl, ⟨rfl, rfl⟩, rfl⟩
theorem lf_9_107 : wlf 9 107 9 14 false := ⟨_, rfl, ⟨rfl, rfl⟩, rfl⟩
theorem lf_9_94 : wlf 9 94 9 15 false := ⟨_, rfl, ⟨rfl, rfl⟩, rfl⟩
theorem lf_9_293 : wlf 9 293 9 16 false := ⟨_, rfl, ⟨rfl, rfl⟩, rfl⟩
theorem lf_9_300 : wlf 9 300 9 17 false := ⟨_, rfl, ⟨rfl, rfl⟩, rfl⟩
theorem lf_9_303 : wlf 9 303 9 18 false := ⟨_, rfl, ⟨rfl, rfl⟩, rfl⟩
theorem lf_9_343 : wlf 9 343 9 19 false := ⟨_, rfl, ⟨rfl, rfl⟩, rfl⟩
theorem lf_9_17 : wlf 9 17 9 20 false := ⟨_, rfl, ⟨rfl, rfl⟩, rfl⟩
theorem lf_9_21 : wlf 9 21 9 21 false := ⟨_, rfl, ⟨rfl, rfl⟩, rfl⟩
theorem lf_9_24 : wlf 9 24 9 22 false := ⟨_, rfl, ⟨rfl, rfl⟩, rfl⟩
theorem lf_9_27 : wlf 9 27 9 23 false := ⟨_, rfl, ⟨rfl, rfl⟩, rfl⟩
theorem lf_9_30 : wlf 9 30 9 24 false := ⟨_, rfl, ⟨rfl, rfl⟩, rfl⟩
theorem lf_9_33 : wlf 9 33 9 25 false := ⟨_, rfl, ⟨rfl, rfl⟩, rfl⟩
theorem lf_9_36 : wlf 9 36 9 26 false := ⟨_, rfl, ⟨rfl, rfl⟩, rfl⟩
theorem lf_9_39 : wlf 9 39 9 27 false := ⟨_, rfl, ⟨rfl, rfl⟩, rfl⟩
theorem lf_9_353 : wlf 9 353 9 28 false := ⟨_, rfl, ⟨rfl, rfl⟩, rfl⟩
theorem lf_9_422 : wlf 9 422 9 29 false := ⟨_, rfl, ⟨rfl, rfl⟩, rfl⟩
theorem lf_9_42 : wlf 9 42 9 30 false := ⟨_, rfl, ⟨rfl, rfl⟩, rfl⟩
theorem lf_9_45 : wlf 9 45 9 31 false := ⟨_, rfl, ⟨rfl, rfl⟩, rfl⟩
theorem lf_9_340 : wlf 9 340 9 32 false := ⟨_, rfl, ⟨rfl, rfl⟩, rfl⟩
theorem lf_9_185 : wlf 9 185 10 0 true := ⟨_, rfl, ⟨rfl, rfl⟩, rfl⟩
theorem lf_9_222 : wlf 9 222 10 1 true := ⟨_, rfl, ⟨rfl, rfl⟩, rfl⟩
theorem lf_9_226 : wlf 9 226 10 2 true := ⟨_, rfl, ⟨rfl, rfl⟩, rfl⟩
theorem lf_9_188 : wlf 9 188 10 3 true := ⟨_, rfl, ⟨rfl, rfl⟩, rfl⟩
theorem lf_9_276 : wlf 9 276 10 4 true := ⟨_, rfl, ⟨rfl, rfl⟩, rfl⟩
theorem lf_9_288 : wlf 9 288 10 5 true := ⟨_, rfl, ⟨rfl, rfl⟩, rfl⟩
theorem lf_9_306 : wlf 9 306 10 6 true := ⟨_, rfl, ⟨rfl, rfl⟩, rfl⟩
theorem lf_9_321 : wlf 9 321 10 7 true := ⟨_, rfl, ⟨rfl, rfl⟩, rfl⟩
theorem lf_9_271 : wlf 9 271 10 8 true := ⟨_, rfl, ⟨rfl, rfl⟩, rfl⟩
theorem lf_9_243 : wlf 9 243 10 9 true := ⟨_, rfl, ⟨rfl, rfl⟩, rfl⟩
theorem lf_9_247 : wlf 9 247 10 10 true := ⟨_, rfl, ⟨rfl, rfl⟩, rfl⟩
theorem lf_9_250 : wlf 9 250 10 11 true := ⟨_, rfl, ⟨rfl, rfl⟩, rfl⟩
theorem lf_9_253 : wlf 9 253 10 12 true := ⟨_, rfl, ⟨rfl, rfl⟩, rfl⟩
theorem lf_9_256 : wlf 9 256 10 13 true := ⟨_, rfl, ⟨rfl, rfl⟩, rfl⟩
theorem lf_9_259 : wlf 9 259 10 14 true := ⟨_, rfl, ⟨rfl, rfl⟩, rfl⟩
theorem lf_9_261 : wlf 9 261 10 15 true := ⟨_, rfl, ⟨rfl, rfl⟩, rfl⟩
theorem lf_9_264 : wlf 9 264 10 16 true := ⟨_, rfl, ⟨rfl, rfl⟩, rfl⟩
theorem lf_9_267 : wlf 9 267 10 17 true := ⟨_, rfl, ⟨rfl, rfl⟩, rfl⟩
theorem lf_9_282 : wlf 9 282 10 18 true := ⟨_, rfl, ⟨rfl, rfl⟩, rfl⟩
theorem lf_9_285 : wlf 9 285 10 19 true := ⟨_, rfl, ⟨rfl, rfl⟩, rfl⟩
theorem lf_9_291 : wlf 9 291 10 20 true := ⟨_, rfl, ⟨rfl, rfl⟩, rfl⟩
theorem lf_9_296 : wlf 9 296 10 21 true := ⟨_, rfl, ⟨rfl, rfl⟩, rfl⟩
theorem lf_9_312 : wlf 9 312 10 22 true := ⟨_, rfl, ⟨rfl, rfl⟩, rfl⟩
theorem lf_9_315 : wlf 9 315 10 23 true := ⟨_, rfl, ⟨rfl, rfl⟩, rfl⟩
theorem lf_9_324 : wlf 9 324 10 25 true := ⟨_, rfl, ⟨rfl, rfl⟩, rfl⟩
theorem lf_9_327 : wlf 9 327 10 26 true := ⟨_, rfl, ⟨rfl, rfl⟩, rfl⟩
theorem lf_10_72 : wlf 10 72 10 3 false := ⟨_, rfl, ⟨rfl, rfl⟩, rfl⟩
theorem lf_10_9 : wlf 10 9 10 8 false := ⟨_, rfl, ⟨rfl, rfl⟩, rfl⟩
theorem lf_10_15 : wlf 10 15 10 9 false := ⟨_, rfl, ⟨rfl, rfl⟩, rfl⟩
theorem lf_10_19 : wlf 10 19 10 10 false := ⟨_, rfl, ⟨rfl, rfl⟩, rfl⟩
theorem lf_10_23 : wlf 10 23 10 11 false := ⟨_, rfl, ⟨rfl, rfl⟩, rfl⟩
theorem lf_10_26 : wlf 10 26 10 12 false := ⟨_, rfl, ⟨rfl, rfl⟩, rfl⟩
theorem lf_10_29 : wlf 10 29 10 13 false := ⟨_, rfl, ⟨rfl, rfl⟩, rfl⟩
theorem lf_10_32 : wlf 10 32 10 14 false := ⟨_, rfl, ⟨rfl, rfl⟩, rfl⟩
theorem lf_10_35 : wlf 10 35 10 15 false := ⟨_, rfl, ⟨rfl, rfl⟩, rfl⟩
theorem lf_10_38 : wlf 10 38 10 16 false := ⟨_, rfl, ⟨rfl, rfl⟩, rfl⟩
theorem lf_10_41 : wlf 10 41 10 17 false := ⟨_, rfl, ⟨rfl, rfl⟩, rfl⟩
theorem lf_10_45 : wlf 10 45 10 18 false := ⟨_, rfl, ⟨rfl, rfl⟩, rfl⟩
theorem lf_10_48 : wlf 10 48 10 19 false := ⟨_, rfl, ⟨rfl, rfl⟩, rfl⟩
theorem lf_10_51 : wlf 10 51 10 20 false := ⟨_, rfl, ⟨rfl, rfl⟩, rfl⟩
theorem lf_10_54 : wlf 10 54 10 21 false := ⟨_, rfl, ⟨rfl, rfl⟩, rfl⟩
theorem lf_10_57 : wlf 10 57 10 22 false := ⟨_, rfl, ⟨rfl, rfl⟩, rfl⟩
theorem lf_10_60 : wlf 10 60 10 23 false := ⟨_, rfl, ⟨rfl, rfl⟩, rfl⟩
theorem lf_10_63 : wlf 10 63 10 24 false := ⟨_, rfl, ⟨rfl, rfl⟩, rfl⟩
theorem lf_10_66 : wlf 10 66 10 25 false := ⟨_, rfl, ⟨rfl, rfl⟩, rfl⟩
theorem lf_10_69 : wlf 10 69 10 26 false := ⟨_, rfl, ⟨rfl, rfl⟩, rfl⟩
theorem lm_0_66 : wq_ml 0 66 = some (10, 1, 1, 0) := by decide +kernel
theorem lm_0_70 : wq_ml 0 70 = some (12, 1, 1, 0) := by decide +kernel
theorem lm_0_74 : wq_ml 0 74 = some (13, 3, 1, 1) := by decide +kernel
theorem lm_0_90 : wq_ml 0 90 = some (44, 0, 1, 7) := by decide +kernel
theorem lm_0_93 : wq_ml 0 93 = some (50, 0, 1, 4) := by decide +kernel
theorem lm_0_99 : wq_ml 0 99 = some (51, 1, 1, 0) := by decide +kernel
theorem lm_0_105 : wq_ml 0 105 = some (55, 1, 1, 0) := by decide +kernel
theorem lm_0_118 : wq_ml 0 118 = some (57, 2, 1, 0) := by decide +kernel
theorem lm_0_122 : wq_ml 0 122 = some (58, 1, 1, 8) := by decide +kernel
theorem lm_0_132 : wq_ml 0 132 = some (60, 1, 1, 0) := by decide +kernel
theorem lm_0_138 : wq_ml 0 138 = some (36, 2, 0, 0) := by decide +kernel
theorem lm_0_145 : wq_ml 0 145 = some (63, 1, 1, 0) := by decide +kernel
theorem lm_0_151 : wq_ml 0 151 = some (64, 0, 1, 0) := by decide +kernel
theorem lm_0_155 : wq_ml 0 155 = some (67, 1, 1, 0) := by decide +kernel
theorem lm_0_345 : wq_ml 0 345 = some (68, 1, 1, 3) := by decide +kernel
theorem lm_0_159 : wq_ml 0 159 = some (72, 1, 1, 3) := by decide +kernel
theorem lm_0_162 : wq_ml 0 162 = some (74, 1, 1, 3) := by decide +kernel
theorem lm_0_166 : wq_ml 0 166 = some (75, 2, 1, 3) := by decide +kernel
theorem lm_0_170 : wq_ml 0 170 = some (79, 1, 1, 3) := by decide +kernel
theorem lm_0_174 : wq_ml 0 174 = some (83, 1, 1, 0) := by decide +kernel
theorem lm_0_245 : wq_ml 0 245 = some (84, 1, 1, 0) := by decide +kernel
theorem lm_0_254 : wq_ml 0 254 = some (85, 2, 1, 4) := by decide +kernel
theorem lm_0_180 : wq_ml 0 180 = some (94, 1, 1, 4) := by decide +kernel
theorem lm_0_183 : wq_ml 0 183 = some (96, 2, 1, 7) := by decide +kernel
theorem lm_0_194 : wq_ml 0 194 = some (100, 3, 1, 4) := by decide +kernel
theorem lm_0_198 : wq_ml 0 198 = some (102, 1, 1, 0) := by decide +kernel
theorem lm_0_201 : wq_ml 0 201 = some (103, 3, 1, 4) := by decide +kernel
theorem lm_0_204 : wq_ml 0 204 = some (106, 3, 1, 4) := by decide +kernel
theorem lm_0_213 : wq_ml 0 213 = some (110, 3, 1, 4) := by decide +kernel
theorem lm_0_216 : wq_ml 0 216 = some (113, 2, 1, 4) := by decide +kernel
theorem lm_0_220 : wq_ml 0 220 = some (115, 3, 1, 4) := by decide +kernel
theorem lm_0_223 : wq_ml 0 223 = some (118, 3, 1, 4) := by decide +kernel
theorem lm_0_227 : wq_ml 0 227 = some (121, 1, 1, 0) := by decide +kernel
theorem lm_0_230 : wq_ml 0 230 = some (122, 2, 1, 5) := by decide +kernel
theorem lm_0_234 : wq_ml 0 234 = some (131, 3, 1, 5) := by decide +kernel
theorem lm_0_238 : wq_ml 0 238 = some (133, 1, 1, 0) := by decide +kernel
theorem lm_0_241 : wq_ml 0 241 = some (134, 2, 1, 4) := by decide +kernel
theorem lm_0_248 : wq_ml 0 248 = some (136, 3, 1, 6) := by decide +kernel
theorem lm_0_258 : wq_ml 0 258 = some (138, 2, 1, 6) := by decide +kernel
theorem lm_0_271 : wq_ml 0 271 = some (87, 1, 1, 3) := by decide +kernel
theorem lm_0_275 : wq_ml 0 275 = some (80, 0, 1, 3) := by decide +kernel
theorem lm_0_278 : wq_ml 0 278 = some (148, 1, 1, 3) := by decide +kernel
theorem lm_0_281 : wq_ml 0 281 = some (91, 1, 1, 3) := by decide +kernel
theorem lm_0_284 : wq_ml 0 284 = some (150, 0, 1, 7) := by decide +kernel
theorem lm_0_288 : wq_ml 0 288 = some (46, 1, 1, 7) := by decide +kernel
theorem lm_0_291 : wq_ml 0 291 = some (40, 2, 1, 7) := by decide +kernel
theorem lm_0_301 : wq_ml 0 301 = some (124, 2, 1, 4) := by decide +kernel
theorem lm_0_305 : wq_ml 0 305 = some (160, 0, 1, 7) := by decide +kernel
theorem lm_0_309 : wq_ml 0 309 = some (162, 1, 1, 7) := by decide +kernel
theorem lm_0_313 : wq_ml 0 313 = some (163, 1, 1, 7) := by decide +kernel
theorem lm_1_25 : wq_ml 1 25 = some (14, 0, 1, 7) := by decide +kernel
theorem lm_1_30 : wq_ml 1 30 = some (15, 2, 1, 2) := by decide +kernel
theorem lm_1_34 : wq_ml 1 34 = some (17, 1, 1, 1) := by decide +kernel
theorem lm_1_54 : wq_ml 1 54 = some (18, 0, 1, 1) := by decide +kernel
theorem lm_1_185 : wq_ml 1 185 = some (19, 1, 1, 2) := by decide +kernel
theorem lm_1_47 : wq_ml 1 47 = some (20, 1, 1, 1) := by decide +kernel
theorem lm_1_63 : wq_ml 1 63 = some (21, 1, 1, 7) := by decide +kernel
theorem lm_1_74 : wq_ml 1 74 = some (16, 0, 1, 2) := by decide +kernel
theorem lm_1_87 : wq_ml 1 87 = some (22, 1, 1, 1) := by decide +kernel
theorem lm_1_115 : wq_ml 1 115 = some (23, 1, 1, 1) := by decide +kernel
theorem lm_1_119 : wq_ml 1 119 = some (24, 2, 1, 1) := by decide +kernel
theorem lm_1_90 : wq_ml 1 90 = some (25, 1, 1, 1) := by decide +kernel
theorem lm_1_131 : wq_ml 1 131 = some (26, 0, 1, 1) := by decide +kernel
theorem lm_1_139 : wq_ml 1 139 = some (27, 1, 1, 7) := by decide +kernel
theorem lm_1_147 : wq_ml 1 147 = some (28, 1, 1, 8) := by decide +kernel
theorem lm_1_154 : wq_ml 1 154 = some (29, 4, 1, 1) := by decide +kernel
theorem lm_1_93 : wq_ml 1 93 = some (30, 1, 1, 1) := by decide +kernel
theorem lm_1_194 : wq_ml 1 194 = some (31, 2, 0, 0) := by decide +kernel
theorem lm_1_96 : wq_ml 1 96 = some (32, 1, 1, 1) := by decide +kernel
theorem lm_1_207 : wq_ml 1 207 = some (33, 1, 1, 1) := by decide +kernel
theorem lm_1_99 : wq_ml 1 99 = some (34, 1, 1, 1) := by decide +kernel
theorem lm_1_51 : wq_ml 1 51 = some (35, 1, 1, 1) := by decide +kernel
theorem lm_1_217 : wq_ml 1 217 = some (36, 2, 0, 0) := by decide +kernel
theorem lm_1_102 : wq_ml 1 102 = some (37, 1, 1, 1) := by decide +kernel
theorem lm_1_105 : wq_ml 1 105 = some (38, 1, 1, 1) := by decide +kernel
theorem lm_1_233 : wq_ml 1 233 = some (39, 1, 1, 7) := by decide +kernel
theorem lm_1_238 : wq_ml 1 238 = some (40, 2, 1, 7) := by decide +kernel
theorem lm_1_108 : wq_ml 1 108 = some (42, 1, 1, 1) := by decide +kernel
theorem lm_1_111 : wq_ml 1 111 = some (43, 1, 1, 1) := by decide +kernel
theorem lm_2_26 : wq_ml 2 26 = some (16, 0, 1, 2) := by decide +kernel
theorem lm_3_28 : wq_ml 3 28 = some (69, 1, 1, 3) := by decide +kernel
theorem lm_3_61 : wq_ml 3 61 = some (31, 2, 0, 0) := by decide +kernel
theorem lm_3_65 : wq_ml 3 65 = some (49, 1, 0, 3) := by decide +kernel
theorem lm_3_32 : wq_ml 3 32 = some (70, 2, 1, 3) := by decide +kernel
theorem lm_3_78 : wq_ml 3 78 = some (71, 2, 1, 3) := by decide +kernel
theorem lm_3_106 : wq_ml 3 106 = some (75, 2, 1, 3) := by decide +kernel
theorem lm_3_92 : wq_ml 3 92 = some (72, 1, 1, 3) := by decide +kernel
theorem lm_3_96 : wq_ml 3 96 = some (76, 2, 1, 7) := by decide +kernel
theorem lm_3_99 : wq_ml 3 99 = some (36, 2, 0, 0) := by decide +kernel
theorem lm_3_118 : wq_ml 3 118 = some (80, 0, 1, 3) := by decide +kernel
theorem lm_3_122 : wq_ml 3 122 = some (81, 1, 1, 3) := by decide +kernel
theorem lm_3_88 : wq_ml 3 88 = some (45, 0, 1, 7) := by decide +kernel
theorem lm_4_36 : wq_ml 4 36 = some (86, 0, 1, 4) := by decide +kernel
theorem lm_4_39 : wq_ml 4 39 = some (87, 1, 1, 3) := by decide +kernel
theorem lm_4_51 : wq_ml 4 51 = some (79, 1, 1, 3) := by decide +kernel
theorem lm_4_55 : wq_ml 4 55 = some (88, 3, 1, 4) := by decide +kernel
theorem lm_4_82 : wq_ml 4 82 = some (89, 1, 1, 3) := by decide +kernel
theorem lm_4_86 : wq_ml 4 86 = some (58, 1, 1, 8) := by decide +kernel
theorem lm_4_97 : wq_ml 4 97 = some (72, 1, 1, 3) := by decide +kernel
theorem lm_4_100 : wq_ml 4 100 = some (90, 2, 1, 4) := by decide +kernel
theorem lm_4_59 : wq_ml 4 59 = some (91, 1, 1, 3) := by decide +kernel
theorem lm_4_113 : wq_ml 4 113 = some (95, 1, 1, 4) := by decide +kernel
theorem lm_4_122 : wq_ml 4 122 = some (36, 2, 0, 0) := by decide +kernel
theorem lm_4_126 : wq_ml 4 126 = some (100, 3, 1, 4) := by decide +kernel
theorem lm_4_132 : wq_ml 4 132 = some (111, 3, 0, 4) := by decide +kernel
theorem lm_4_135 : wq_ml 4 135 = some (96, 2, 1, 7) := by decide +kernel
theorem lm_4_141 : wq_ml 4 141 = some (116, 3, 0, 4) := by decide +kernel
theorem lm_5_24 : wq_ml 5 24 = some (123, 2, 1, 5) := by decide +kernel
theorem lm_5_42 : wq_ml 5 42 = some (124, 2, 1, 4) := by decide +kernel
theorem lm_5_32 : wq_ml 5 32 = some (125, 1, 1, 5) := by decide +kernel
theorem lm_5_51 : wq_ml 5 51 = some (126, 1, 0, 15) := by decide +kernel
theorem lm_5_57 : wq_ml 5 57 = some (127, 2, 1, 5) := by decide +kernel
theorem lm_5_61 : wq_ml 5 61 = some (128, 3, 0, 5) := by decide +kernel
theorem lm_5_67 : wq_ml 5 67 = some (36, 2, 0, 0) := by decide +kernel
theorem lm_5_71 : wq_ml 5 71 = some (96, 2, 1, 7) := by decide +kernel
theorem lm_5_64 : wq_ml 5 64 = some (129, 1, 1, 5) := by decide +kernel
theorem lm_5_36 : wq_ml 5 36 = some (116, 3, 0, 4) := by decide +kernel
theorem lm_6_28 : wq_ml 6 28 = some (87, 1, 1, 3) := by decide +kernel
theorem lm_6_43 : wq_ml 6 43 = some (89, 1, 1, 3) := by decide +kernel
theorem lm_6_47 : wq_ml 6 47 = some (80, 0, 1, 3) := by decide +kernel
theorem lm_6_51 : wq_ml 6 51 = some (81, 1, 1, 3) := by decide +kernel
theorem lm_6_61 : wq_ml 6 61 = some (91, 1, 1, 3) := by decide +kernel
theorem lm_6_64 : wq_ml 6 64 = some (139, 2, 1, 6) := by decide +kernel
theorem lm_6_84 : wq_ml 6 84 = some (140, 2, 0, 6) := by decide +kernel
theorem lm_6_94 : wq_ml 6 94 = some (72, 1, 1, 3) := by decide +kernel
theorem lm_6_97 : wq_ml 6 97 = some (76, 2, 1, 7) := by decide +kernel
theorem lm_6_72 : wq_ml 6 72 = some (141, 1, 1, 6) := by decide +kernel
theorem lm_6_100 : wq_ml 6 100 = some (142, 2, 1, 6) := by decide +kernel
theorem lm_6_104 : wq_ml 6 104 = some (143, 3, 0, 6) := by decide +kernel
theorem lm_6_108 : wq_ml 6 108 = some (126, 1, 0, 15) := by decide +kernel
theorem lm_6_75 : wq_ml 6 75 = some (144, 1, 1, 6) := by decide +kernel
theorem lm_6_78 : wq_ml 6 78 = some (145, 1, 1, 6) := by decide +kernel
theorem lm_7_89 : wq_ml 7 89 = some (41, 0, 1, 7) := by decide +kernel
theorem lm_7_96 : wq_ml 7 96 = some (45, 0, 1, 7) := by decide +kernel
theorem lm_7_92 : wq_ml 7 92 = some (31, 2, 0, 0) := by decide +kernel
theorem lm_7_99 : wq_ml 7 99 = some (46, 1, 1, 7) := by decide +kernel
theorem lm_7_103 : wq_ml 7 103 = some (47, 2, 1, 8) := by decide +kernel
theorem lm_7_113 : wq_ml 7 113 = some (126, 1, 0, 15) := by decide +kernel
theorem lm_7_118 : wq_ml 7 118 = some (151, 1, 1, 7) := by decide +kernel
theorem lm_7_121 : wq_ml 7 121 = some (36, 2, 0, 0) := by decide +kernel
theorem lm_8_58 : wq_ml 8 58 = some (48, 4, 1, 8) := by decide +kernel
theorem lm_8_78 : wq_ml 8 78 = some (49, 1, 0, 3) := by decide +kernel
theorem lm_8_74 : wq_ml 8 74 = some (31, 2, 0, 0) := by decide +kernel
theorem lm_9_54 : wq_ml 9 54 = some (170, 1, 1, 9) := by decide +kernel
theorem lm_9_333 : wq_ml 9 333 = some (171, 0, 2, 10) := by decide +kernel
theorem lm_9_118 : wq_ml 9 118 = some (172, 0, 1, 9) := by decide +kernel
theorem lm_9_81 : wq_ml 9 81 = some (173, 1, 1, 9) := by decide +kernel
theorem lm_9_90 : wq_ml 9 90 = some (174, 1, 0, 9) := by decide +kernel
theorem lm_9_98 : wq_ml 9 98 = some (175, 1, 0, 9) := by decide +kernel
theorem lm_9_334 : wq_ml 9 334 = some (176, 0, 1, 9) := by decide +kernel
theorem lm_9_179 : wq_ml 9 179 = some (177, 0, 1, 9) := by decide +kernel
theorem lm_9_114 : wq_ml 9 114 = some (178, 1, 1, 9) := by decide +kernel
theorem lm_9_110 : wq_ml 9 110 = some (179, 1, 0, 9) := by decide +kernel
theorem lm_9_191 : wq_ml 9 191 = some (180, 0, 1, 9) := by decide +kernel
theorem lm_9_121 : wq_ml 9 121 = some (181, 1, 1, 9) := by decide +kernel
theorem lm_9_216 : wq_ml 9 216 = some (182, 3, 1, 9) := by decide +kernel
theorem lm_9_133 : wq_ml 9 133 = some (183, 1, 1, 9) := by decide +kernel
theorem lm_9_137 : wq_ml 9 137 = some (184, 2, 1, 9) := by decide +kernel
theorem lm_9_129 : wq_ml 9 129 = some (185, 2, 1, 9) := by decide +kernel
theorem lm_9_125 : wq_ml 9 125 = some (186, 3, 0, 9) := by decide +kernel
theorem lm_9_194 : wq_ml 9 194 = some (187, 0, 1, 9) := by decide +kernel
theorem lm_9_228 : wq_ml 9 228 = some (188, 2, 1, 9) := by decide +kernel
theorem lm_9_162 : wq_ml 9 162 = some (189, 0, 1, 9) := by decide +kernel
theorem lm_9_170 : wq_ml 9 170 = some (190, 1, 1, 10) := by decide +kernel
theorem lm_9_235 : wq_ml 9 235 = some (191, 2, 0, 9) := by decide +kernel
theorem lm_9_240 : wq_ml 9 240 = some (192, 1, 1, 9) := by decide +kernel
theorem lm_9_197 : wq_ml 9 197 = some (193, 0, 1, 9) := by decide +kernel
theorem lm_9_273 : wq_ml 9 273 = some (194, 0, 1, 9) := by decide +kernel
theorem lm_9_176 : wq_ml 9 176 = some (195, 0, 1, 9) := by decide +kernel
theorem lm_9_200 : wq_ml 9 200 = some (196, 0, 1, 9) := by decide +kernel
theorem lm_9_279 : wq_ml 9 279 = some (197, 1, 1, 9) := by decide +kernel
theorem lm_9_203 : wq_ml 9 203 = some (198, 0, 1, 9) := by decide +kernel
theorem lm_9_206 : wq_ml 9 206 = some (199, 0, 1, 9) := by decide +kernel
theorem lm_9_209 : wq_ml 9 209 = some (200, 0, 1, 9) := by decide +kernel
theorem lm_9_309 : wq_ml 9 309 = some (201, 0, 1, 9) := by decide +kernel
theorem lm_9_318 : wq_ml 9 318 = some (202, 2, 0, 9) := by decide +kernel
theorem lm_9_212 : wq_ml 9 212 = some (203, 0, 1, 9) := by decide +kernel
theorem lm_9_182 : wq_ml 9 182 = some (204, 1, 1, 9) := by decide +kernel
theorem lm_9_346 : wq_ml 9 346 = some (205, 2, 0, 9) := by decide +kernel
theorem lm_9_350 : wq_ml 9 350 = some (206, 0, 1, 9) := by decide +kernel
theorem lm_9_357 : wq_ml 9 357 = some (207, 0, 1, 9) := by decide +kernel
theorem lm_9_360 : wq_ml 9 360 = some (208, 5, 1, 9) := by decide +kernel
theorem lm_9_58 : wq_ml 9 58 = some (209, 1, 1, 9) := by decide +kernel
theorem lm_9_364 : wq_ml 9 364 = some (213, 1, 1, 9) := by decide +kernel
theorem lm_9_367 : wq_ml 9 367 = some (215, 2, 1, 9) := by decide +kernel
theorem lm_9_370 : wq_ml 9 370 = some (216, 2, 1, 9) := by decide +kernel
theorem lm_9_373 : wq_ml 9 373 = some (218, 1, 1, 9) := by decide +kernel
theorem lm_9_376 : wq_ml 9 376 = some (220, 0, 1, 9) := by decide +kernel
theorem lm_9_380 : wq_ml 9 380 = some (221, 1, 1, 9) := by decide +kernel
theorem lm_9_400 : wq_ml 9 400 = some (223, 1, 1, 9) := by decide +kernel
theorem lm_9_403 : wq_ml 9 403 = some (224, 0, 1, 9) := by decide +kernel
theorem lm_9_406 : wq_ml 9 406 = some (227, 0, 1, 9) := by decide +kernel
theorem lm_9_386 : wq_ml 9 386 = some (228, 2, 1, 9) := by decide +kernel
theorem lm_9_384 : wq_ml 9 384 = some (229, 1, 1, 9) := by decide +kernel
theorem lm_9_412 : wq_ml 9 412 = some (231, 0, 1, 9) := by decide +kernel
theorem lm_9_415 : wq_ml 9 415 = some (232, 0, 1, 9) := by decide +kernel
theorem lm_9_409 : wq_ml 9 409 = some (233, 1, 1, 9) := by decide +kernel
theorem lm_9_390 : wq_ml 9 390 = some (234, 2, 1, 9) := by decide +kernel
theorem lm_9_393 : wq_ml 9 393 = some (235, 1, 1, 9) := by decide +kernel
theorem lm_9_418 : wq_ml 9 418 = some (238, 1, 1, 9) := by decide +kernel
theorem lm_9_397 : wq_ml 9 397 = some (239, 2, 1, 9) := by decide +kernel
theorem lm_9_433 : wq_ml 9 433 = some (241, 1, 1, 9) := by decide +kernel
theorem lm_9_430 : wq_ml 9 430 = some (242, 0, 1, 9) := by decide +kernel
theorem lm_9_425 : wq_ml 9 425 = some (243, 1, 1, 9) := by decide +kernel
theorem lm_9_440 : wq_ml 9 440 = some (247, 2, 1, 9) := by decide +kernel
theorem lm_9_437 : wq_ml 9 437 = some (248, 0, 1, 9) := by decide +kernel
theorem lm_9_444 : wq_ml 9 444 = some (251, 2, 1, 9) := by decide +kernel
theorem lm_9_447 : wq_ml 9 447 = some (253, 1, 1, 9) := by decide +kernel
theorem lm_9_452 : wq_ml 9 452 = some (257, 0, 1, 9) := by decide +kernel
theorem lm_9_455 : wq_ml 9 455 = some (262, 2, 1, 9) := by decide +kernel
theorem lm_9_458 : wq_ml 9 458 = some (264, 3, 1, 9) := by decide +kernel
theorem lm_9_467 : wq_ml 9 467 = some (267, 1, 1, 9) := by decide +kernel
theorem lm_9_470 : wq_ml 9 470 = some (268, 1, 1, 9) := by decide +kernel
theorem lm_9_462 : wq_ml 9 462 = some (269, 1, 0, 9) := by decide +kernel
theorem lm_9_465 : wq_ml 9 465 = some (270, 2, 1, 9) := by decide +kernel
theorem lm_9_473 : wq_ml 9 473 = some (273, 1, 1, 9) := by decide +kernel
theorem lm_9_476 : wq_ml 9 476 = some (274, 1, 1, 9) := by decide +kernel
theorem lm_9_481 : wq_ml 9 481 = some (277, 2, 1, 9) := by decide +kernel
theorem lm_9_484 : wq_ml 9 484 = some (278, 1, 1, 9) := by decide +kernel
theorem lm_9_487 : wq_ml 9 487 = some (280, 1, 1, 9) := by decide +kernel
theorem lm_9_490 : wq_ml 9 490 = some (281, 1, 1, 9) := by decide +kernel
theorem lm_11_19 : wq_ml 11 19 = some (9, 5, 1, 0) := by decide +kernel
theorem lm_11_24 : wq_ml 11 24 = some (11, 1, 1, 0) := by decide +kernel
theorem lm_11_28 : wq_ml 11 28 = some (52, 0, 1, 0) := by decide +kernel
theorem lm_11_33 : wq_ml 11 33 = some (53, 0, 1, 0) := by decide +kernel
theorem lm_11_37 : wq_ml 11 37 = some (54, 1, 1, 0) := by decide +kernel
theorem lm_11_41 : wq_ml 11 41 = some (56, 3, 1, 0) := by decide +kernel
theorem lm_11_46 : wq_ml 11 46 = some (59, 3, 1, 0) := by decide +kernel
theorem lm_11_50 : wq_ml 11 50 = some (61, 0, 1, 0) := by decide +kernel
theorem lm_11_55 : wq_ml 11 55 = some (62, 2, 1, 0) := by decide +kernel
theorem lm_11_60 : wq_ml 11 60 = some (65, 1, 1, 0) := by decide +kernel
theorem lm_11_64 : wq_ml 11 64 = some (66, 1, 1, 0) := by decide +kernel
theorem lm_11_68 : wq_ml 11 68 = some (73, 0, 1, 0) := by decide +kernel
theorem lm_11_72 : wq_ml 11 72 = some (77, 0, 1, 0) := by decide +kernel
theorem lm_11_76 : wq_ml 11 76 = some (78, 0, 1, 0) := by decide +kernel
theorem lm_11_80 : wq_ml 11 80 = some (82, 0, 1, 0) := by decide +kernel
theorem lm_11_84 : wq_ml 11 84 = some (92, 0, 1, 0) := by decide +kernel
theorem lm_11_88 : wq_ml 11 88 = some (93, 2, 1, 0) := by decide +kernel
theorem lm_11_93 : wq_ml 11 93 = some (97, 0, 1, 0) := by decide +kernel
theorem lm_11_97 : wq_ml 11 97 = some (98, 2, 1, 0) := by decide +kernel
theorem lm_11_101 : wq_ml 11 101 = some (99, 2, 1, 0) := by decide +kernel
theorem lm_11_105 : wq_ml 11 105 = some (101, 2, 1, 0) := by decide +kernel
theorem lm_11_109 : wq_ml 11 109 = some (104, 2, 1, 0) := by decide +kernel
theorem lm_11_114 : wq_ml 11 114 = some (105, 2, 1, 0) := by decide +kernel
theorem lm_11_118 : wq_ml 11 118 = some (107, 1, 1, 0) := by decide +kernel
theorem lm_11_122 : wq_ml 11 122 = some (108, 0, 1, 0) := by decide +kernel
theorem lm_11_126 : wq_ml 11 126 = some (109, 2, 1, 0) := by decide +kernel
theorem lm_11_130 : wq_ml 11 130 = some (112, 1, 1, 0) := by decide +kernel
theorem lm_11_135 : wq_ml 11 135 = some (114, 2, 1, 0) := by decide +kernel
theorem lm_11_139 : wq_ml 11 139 = some (117, 2, 1, 0) := by decide +kernel
theorem lm_11_143 : wq_ml 11 143 = some (119, 2, 1, 0) := by decide +kernel
theorem lm_11_147 : wq_ml 11 147 = some (120, 0, 1, 0) := by decide +kernel
theorem lm_11_151 : wq_ml 11 151 = some (130, 1, 1, 0) := by decide +kernel
theorem lm_11_155 : wq_ml 11 155 = some (132, 1, 1, 0) := by decide +kernel
theorem lm_11_159 : wq_ml 11 159 = some (135, 1, 1, 0) := by decide +kernel
theorem lm_11_163 : wq_ml 11 163 = some (137, 0, 1, 0) := by decide +kernel
theorem lm_11_167 : wq_ml 11 167 = some (146, 2, 1, 0) := by decide +kernel
theorem lm_11_171 : wq_ml 11 171 = some (147, 0, 1, 0) := by decide +kernel
theorem lm_11_175 : wq_ml 11 175 = some (149, 0, 1, 0) := by decide +kernel
theorem lm_11_179 : wq_ml 11 179 = some (152, 1, 1, 0) := by decide +kernel
theorem lm_11_183 : wq_ml 11 183 = some (153, 2, 1, 0) := by decide +kernel
theorem lm_11_187 : wq_ml 11 187 = some (154, 1, 1, 0) := by decide +kernel
theorem lm_11_192 : wq_ml 11 192 = some (155, 1, 1, 0) := by decide +kernel
theorem lm_11_196 : wq_ml 11 196 = some (156, 0, 1, 0) := by decide +kernel
theorem lm_11_200 : wq_ml 11 200 = some (157, 2, 1, 0) := by decide +kernel
theorem lm_11_204 : wq_ml 11 204 = some (158, 0, 1, 0) := by decide +kernel
theorem lm_11_209 : wq_ml 11 209 = some (159, 0, 1, 0) := by decide +kernel
theorem lm_11_215 : wq_ml 11 215 = some (161, 1, 1, 0) := by decide +kernel
theorem lm_11_226 : wq_ml 11 226 = some (164, 1, 1, 0) := by decide +kernel
theorem lm_11_230 : wq_ml 11 230 = some (165, 0, 1, 0) := by decide +kernel
theorem lm_11_7 : wq_ml 11 7 = some (166, 1, 1, 0) := by decide +kernel
theorem lm_11_23 : wq_ml 11 23 = some (168, 5, 1, 9) := by decide +kernel
theorem lm_11_27 : wq_ml 11 27 = some (169, 1, 1, 9) := by decide +kernel
theorem lm_11_32 : wq_ml 11 32 = some (210, 0, 1, 9) := by decide +kernel
theorem lm_11_36 : wq_ml 11 36 = some (211, 0, 1, 9) := by decide +kernel
theorem lm_11_40 : wq_ml 11 40 = some (212, 1, 1, 9) := by decide +kernel
theorem lm_11_45 : wq_ml 11 45 = some (214, 3, 1, 9) := by decide +kernel
theorem lm_11_49 : wq_ml 11 49 = some (217, 3, 1, 9) := by decide +kernel
theorem lm_11_54 : wq_ml 11 54 = some (219, 0, 1, 9) := by decide +kernel
theorem lm_11_59 : wq_ml 11 59 = some (222, 2, 1, 9) := by decide +kernel
theorem lm_11_63 : wq_ml 11 63 = some (225, 1, 1, 9) := by decide +kernel
theorem lm_11_67 : wq_ml 11 67 = some (226, 1, 1, 9) := by decide +kernel
theorem lm_11_71 : wq_ml 11 71 = some (230, 0, 1, 9) := by decide +kernel
theorem lm_11_75 : wq_ml 11 75 = some (236, 0, 1, 9) := by decide +kernel
theorem lm_11_79 : wq_ml 11 79 = some (237, 0, 1, 9) := by decide +kernel
theorem lm_11_83 : wq_ml 11 83 = some (240, 0, 1, 9) := by decide +kernel
theorem lm_11_87 : wq_ml 11 87 = some (244, 0, 1, 9) := by decide +kernel
theorem lm_11_92 : wq_ml 11 92 = some (245, 2, 1, 9) := by decide +kernel
theorem lm_11_96 : wq_ml 11 96 = some (246, 0, 1, 9) := by decide +kernel
theorem lm_11_100 : wq_ml 11 100 = some (249, 2, 1, 9) := by decide +kernel
theorem lm_11_104 : wq_ml 11 104 = some (250, 2, 1, 9) := by decide +kernel
theorem lm_11_108 : wq_ml 11 108 = some (252, 2, 1, 9) := by decide +kernel
theorem lm_11_113 : wq_ml 11 113 = some (254, 2, 1, 9) := by decide +kernel
theorem lm_11_117 : wq_ml 11 117 = some (255, 2, 1, 9) := by decide +kernel
theorem lm_11_121 : wq_ml 11 121 = some (256, 1, 1, 9) := by decide +kernel
theorem lm_11_125 : wq_ml 11 125 = some (258, 0, 1, 9) := by decide +kernel
theorem lm_11_129 : wq_ml 11 129 = some (259, 2, 1, 9) := by decide +kernel
theorem lm_11_134 : wq_ml 11 134 = some (260, 1, 1, 9) := by decide +kernel
theorem lm_11_138 : wq_ml 11 138 = some (261, 2, 1, 9) := by decide +kernel
theorem lm_11_142 : wq_ml 11 142 = some (263, 2, 1, 9) := by decide +kernel
theorem lm_11_146 : wq_ml 11 146 = some (265, 2, 1, 9) := by decide +kernel
theorem lm_11_150 : wq_ml 11 150 = some (266, 0, 1, 9) := by decide +kernel
theorem lm_11_154 : wq_ml 11 154 = some (271, 1, 1, 9) := by decide +kernel
theorem lm_11_158 : wq_ml 11 158 = some (272, 1, 1, 9) := by decide +kernel
theorem lm_11_162 : wq_ml 11 162 = some (275, 1, 1, 9) := by decide +kernel
theorem lm_11_166 : wq_ml 11 166 = some (276, 0, 1, 9) := by decide +kernel
theorem lm_11_170 : wq_ml 11 170 = some (279, 2, 1, 9) := by decide +kernel
theorem lm_11_174 : wq_ml 11 174 = some (282, 0, 1, 9) := by decide +kernel
theorem lm_11_178 : wq_ml 11 178 = some (283, 0, 1, 9) := by decide +kernel
theorem lm_11_182 : wq_ml 11 182 = some (284, 1, 1, 9) := by decide +kernel
theorem lm_11_186 : wq_ml 11 186 = some (285, 2, 1, 9) := by decide +kernel
theorem lm_11_191 : wq_ml 11 191 = some (286, 1, 1, 9) := by decide +kernel
theorem lm_11_195 : wq_ml 11 195 = some (287, 1, 1, 9) := by decide +kernel
theorem lm_11_199 : wq_ml 11 199 = some (288, 0, 1, 9) := by decide +kernel
theorem lm_11_203 : wq_ml 11 203 = some (289, 2, 1, 9) := by decide +kernel
theorem lm_11_208 : wq_ml 11 208 = some (290, 0, 1, 9) := by decide +kernel
theorem lm_11_212 : wq_ml 11 212 = some (291, 0, 1, 9) := by decide +kernel
theorem lm_11_219 : wq_ml 11 219 = some (292, 1, 1, 9) := by decide +kernel
theorem lm_11_225 : wq_ml 11 225 = some (293, 1, 1, 9) := by decide +kernel
theorem lm_11_229 : wq_ml 11 229 = some (294, 1, 1, 9) := by decide +kernel
theorem lm_11_233 : wq_ml 11 233 = some (295, 0, 1, 9) := by decide +kernel
theorem sh_1 : wsh 1 = (100 + 0, 13) := rfl
theorem ty_1_2 : wty 1 2 = (2, 0, 0, 6) := rfl
theorem ty_1_3 : wty 1 3 = (2, 0, 0, 12) := rfl
theorem ty_1_4 : wty 1 4 = (2, 0, 0, 20) := rfl
theorem ty_1_5 : wty 1 5 = (2, 0, 0, 25) := rfl
theorem ty_1_6 : wty 1 6 = (2, 0, 0, 27) := rfl
theorem ty_1_7 : wty 1 7 = (2, 0, 0, 27) := rfl
theorem ty_1_8 : wty 1 8 = (0, 0, 1, 0) := rfl
theorem ty_1_9 : wty 1 9 = (0, 0, 900, 0) := rfl
theorem ty_1_10 : wty 1 10 = (0, -2147483648, 2147483647, 0) := rfl
theorem ty_1_11 : wty 1 11 = (0, -2147483648, 2147483647, 0) := rfl
theorem ty_1_12 : wty 1 12 = (0, -2147483648, 2147483647, 0) := rfl
theorem sh_2 : wsh 2 = (2, 900) := rfl
theorem ty_2 (j : Nat) : wty 2 j = (0, -128, 127, 0) := rfl
theorem sh_3 : wsh 3 = (100 + 1, 5) := rfl
theorem ty_3_1 : wty 3 1 = (0, -1, 24, 0) := rfl
theorem ty_3_2 : wty 3 2 = (0, -1, 24, 0) := rfl
theorem ty_3_3 : wty 3 3 = (0, -2147483648, 2147483647, 0) := rfl
theorem ty_3_4 : wty 3 4 = (0, -2147483648, 2147483647, 0) := rfl
theorem sh_4 : wsh 4 = (100 + 2, 7) := rfl
theorem ty_4_0 : wty 4 0 = (4, 5, 0, 2) := rfl
theorem ty_4_1 : wty 4 1 = (0, 0, 900, 0) := rfl
theorem ty_4_2 : wty 4 2 = (0, 0, 900, 0) := rfl
theorem ty_4_3 : wty 4 3 = (0, 0, 5, 0) := rfl
theorem ty_4_4 : wty 4 4 = (0, 0, 900, 0) := rfl
theorem ty_4_5 : wty 4 5 = (0, -2147483648, 2147483647, 0) := rfl
theorem ty_4_6 : wty 4 6 = (0, -9223372036854775808, 9223372036854775807, 0) := rfl
theorem sh_6 : wsh 6 = (100 + 3, 6) := rfl
theorem ty_6_0 : wty 6 0 = (2, 0, 0, 7) := rfl
theorem ty_6_1 : wty 6 1 = (2, 0, 0, 8) := rfl
theorem ty_6_2 : wty 6 2 = (2, 0, 0, 9) := rfl
theorem ty_6_3 : wty 6 3 = (2, 0, 0, 10) := rfl
theorem ty_6_4 : wty 6 4 = (2, 0, 0, 11) := rfl
theorem ty_6_5 : wty 6 5 = (0, 0, 6, 0) := rfl
theorem sh_7 : wsh 7 = (0, 6) := rfl
theorem ty_7 (j : Nat) : wty 7 j = (0, 0, 39, 0) := rfl
theorem sh_8 : wsh 8 = (1, 7) := rfl
theorem ty_8 (j : Nat) : wty 8 j = (0, -9223372036854775808, 9223372036854775807, 0) := rfl
theorem sh_9 : wsh 9 = (1, 7) := rfl
theorem ty_9 (j : Nat) : wty 9 j = (0, -9223372036854775808, 9223372036854775807, 0) := rfl
theorem sh_10 : wsh 10 = (0, 7) := rfl
theorem ty_10 (j : Nat) : wty 10 j = (0, -2147483648, 2147483647, 0) := rfl
theorem sh_11 : wsh 11 = (0, 7) := rfl
theorem ty_11 (j : Nat) : wty 11 j = (0, -2147483648, 2147483647, 0) := rfl
theorem sh_12 : wsh 12 = (100 + 4, 10) := rfl
theorem ty_12_0 : wty 12 0 = (2, 0, 0, 13) := rfl
theorem ty_12_1 : wty 12 1 = (2, 0, 0, 14) := rfl
theorem ty_12_2 : wty 12 2 = (2, 0, 0, 16) := rfl
theorem ty_12_3 : wty 12 3 = (2, 0, 0, 18) := rfl
theorem ty_12_4 : wty 12 4 = (2, 0, 0, 19) := rfl
theorem ty_12_5 : wty 12 5 = (0, -2147483648, 2147483647, 0) := rfl
theorem ty_12_6 : wty 12 6 = (0, -9223372036854775808, 9223372036854775807, 0) := rfl
theorem ty_12_7 : wty 12 7 = (0, 0, 19999, 0) := rfl
theorem ty_12_8 : wty 12 8 = (0, -9223372036854775808, 9223372036854775807, 0) := rfl
theorem ty_12_9 : wty 12 9 = (0, 0, 1, 0) := rfl
theorem sh_13 : wsh 13 = (1, 313) := rfl
theorem ty_13 (j : Nat) : wty 13 j = (0, -9223372036854775808, 9223372036854775807, 0) := rfl
theorem sh_14 : wsh 14 = (5, 6) := rfl
theorem ty_14 (j : Nat) : wty 14 j = (2, 0, 0, 15) := rfl
theorem sh_15 : wsh 15 = (0, 40) := rfl
theorem ty_15 (j : Nat) : wty 15 j = (0, -2147483648, 2147483647, 0) := rfl
theorem sh_16 : wsh 16 = (6, 6) := rfl
theorem ty_16 (j : Nat) : wty 16 j = (2, 0, 0, 17) := rfl
theorem sh_17 : wsh 17 = (1, 40) := rfl
theorem ty_17 (j : Nat) : wty 17 j = (0, -9223372036854775808, 9223372036854775807, 0) := rfl
theorem sh_18 : wsh 18 = (0, 24) := rfl
theorem ty_18 (j : Nat) : wty 18 j = (0, -2147483648, 2147483647, 0) := rfl
theorem sh_19 : wsh 19 = (0, 24) := rfl
theorem ty_19 (j : Nat) : wty 19 j = (0, -2147483648, 2147483647, 0) := rfl
theorem sh_20 : wsh 20 = (100 + 5, 5) := rfl
theorem ty_20_0 : wty 20 0 = (2, 0, 0, 21) := rfl
theorem ty_20_1 : wty 20 1 = (2, 0, 0, 22) := rfl
theorem ty_20_2 : wty 20 2 = (2, 0, 0, 23) := rfl
theorem ty_20_3 : wty 20 3 = (2, 0, 0, 24) := rfl
theorem ty_20_4 : wty 20 4 = (0, 0, 400, 0) := rfl
theorem sh_21 : wsh 21 = (0, 400) := rfl
theorem ty_21 (j : Nat) : wty 21 j = (0, 0, 19999, 0) := rfl
theorem sh_22 : wsh 22 = (0, 400) := rfl
theorem ty_22 (j : Nat) : wty 22 j = (0, -2147483648, 2147483647, 0) := rfl
theorem sh_23 : wsh 23 = (0, 400) := rfl
theorem ty_23 (j : Nat) : wty 23 j = (0, -2147483648, 2147483647, 0) := rfl
theorem sh_24 : wsh 24 = (0, 1024) := rfl
theorem ty_24 (j : Nat) : wty 24 j = (0, -1, 399, 0) := rfl
theorem sh_25 : wsh 25 = (100 + 6, 3) := rfl
theorem ty_25_0 : wty 25 0 = (2, 0, 0, 26) := rfl
theorem ty_25_1 : wty 25 1 = (0, 0, 5000, 0) := rfl
theorem ty_25_2 : wty 25 2 = (0, 0, 4999, 0) := rfl
theorem sh_26 : wsh 26 = (1, 5000) := rfl
theorem ty_26 (j : Nat) : wty 26 j = (0, -9223372036854775808, 9223372036854775807, 0) := rfl
theorem sh_27 : wsh 27 = (100 + 7, 19) := rfl
theorem ty_27_0 : wty 27 0 = (2, 0, 0, 28) := rfl
theorem ty_27_1 : wty 27 1 = (2, 0, 0, 29) := rfl
theorem ty_27_2 : wty 27 2 = (2, 0, 0, 30) := rfl
theorem ty_27_3 : wty 27 3 = (2, 0, 0, 31) := rfl
theorem ty_27_4 : wty 27 4 = (2, 0, 0, 32) := rfl
theorem ty_27_5 : wty 27 5 = (2, 0, 0, 33) := rfl
theorem ty_27_6 : wty 27 6 = (2, 0, 0, 34) := rfl
theorem ty_27_7 : wty 27 7 = (0, 0, 24, 0) := rfl
theorem ty_27_8 : wty 27 8 = (0, -2147483648, 2147483647, 0) := rfl
theorem ty_27_9 : wty 27 9 = (0, -2147483648, 2147483647, 0) := rfl
theorem ty_27_10 : wty 27 10 = (0, 0, 6, 0) := rfl
theorem ty_27_11 : wty 27 11 = (0, -2147483648, 2147483647, 0) := rfl
theorem ty_27_12 : wty 27 12 = (0, 0, 3, 0) := rfl
theorem ty_27_13 : wty 27 13 = (0, 0, 4, 0) := rfl
theorem ty_27_14 : wty 27 14 = (0, 0, 6, 0) := rfl
theorem ty_27_15 : wty 27 15 = (0, -2147483648, 2147483647, 0) := rfl
theorem ty_27_16 : wty 27 16 = (0, 0, 24, 0) := rfl
theorem ty_27_17 : wty 27 17 = (0, 0, 2147483647, 0) := rfl
theorem ty_27_18 : wty 27 18 = (0, -9223372036854775808, 9223372036854775807, 0) := rfl
theorem sh_28 : wsh 28 = (4, 6) := rfl
theorem ty_28 (j : Nat) : wty 28 j = (2, 0, 0, 35) := rfl
theorem sh_29 : wsh 29 = (0, 24) := rfl
theorem ty_29 (j : Nat) : wty 29 j = (0, -2147483648, 2147483647, 0) := rfl
theorem sh_30 : wsh 30 = (0, 24) := rfl
theorem ty_30 (j : Nat) : wty 30 j = (0, 0, 23, 0) := rfl
theorem sh_31 : wsh 31 = (0, 3) := rfl
theorem ty_31 (j : Nat) : wty 31 j = (0, -2147483648, 2147483647, 0) := rfl
theorem sh_32 : wsh 32 = (0, 4) := rfl
theorem ty_32 (j : Nat) : wty 32 j = (0, 0, 5, 0) := rfl
theorem sh_33 : wsh 33 = (0, 4) := rfl
theorem ty_33 (j : Nat) : wty 33 j = (0, -2147483648, 2147483647, 0) := rfl
theorem sh_34 : wsh 34 = (0, 6) := rfl
theorem ty_34 (j : Nat) : wty 34 j = (0, -2147483648, 2147483647, 0) := rfl
theorem sh_35 : wsh 35 = (100 + 8, 18) := rfl
theorem ty_35_0 : wty 35 0 = (2, 0, 0, 36) := rfl
theorem ty_35_1 : wty 35 1 = (2, 0, 0, 37) := rfl
theorem ty_35_2 : wty 35 2 = (2, 0, 0, 38) := rfl
theorem ty_35_3 : wty 35 3 = (2, 0, 0, 39) := rfl
theorem ty_35_4 : wty 35 4 = (2, 0, 0, 40) := rfl
theorem ty_35_5 : wty 35 5 = (2, 0, 0, 41) := rfl
theorem ty_35_6 : wty 35 6 = (0, -9223372036854775808, 9223372036854775807, 0) := rfl
theorem ty_35_7 : wty 35 7 = (0, -1, 24, 0) := rfl
theorem ty_35_8 : wty 35 8 = (0, -1, 24, 0) := rfl
theorem ty_35_9 : wty 35 9 = (0, -1, 24, 0) := rfl
theorem ty_35_10 : wty 35 10 = (0, -1, 24, 0) := rfl
theorem ty_35_11 : wty 35 11 = (0, -1, 23, 0) := rfl
theorem ty_35_12 : wty 35 12 = (0, -2147483648, 2147483647, 0) := rfl
theorem ty_35_13 : wty 35 13 = (0, 0, 1, 0) := rfl
theorem ty_35_14 : wty 35 14 = (0, -2147483648, 2147483647, 0) := rfl
theorem ty_35_15 : wty 35 15 = (0, 0, 40, 0) := rfl
theorem ty_35_16 : wty 35 16 = (0, 0, 39, 0) := rfl
theorem ty_35_17 : wty 35 17 = (0, -2147483648, 2147483647, 0) := rfl
theorem sh_36 : wsh 36 = (0, 40) := rfl
theorem ty_36 (j : Nat) : wty 36 j = (0, -1, 24, 0) := rfl
theorem sh_37 : wsh 37 = (0, 40) := rfl
theorem ty_37 (j : Nat) : wty 37 j = (0, -1, 24, 0) := rfl
theorem sh_38 : wsh 38 = (0, 40) := rfl
theorem ty_38 (j : Nat) : wty 38 j = (0, -2147483648, 2147483647, 0) := rfl
theorem sh_39 : wsh 39 = (0, 40) := rfl
theorem ty_39 (j : Nat) : wty 39 j = (0, -2147483648, 2147483647, 0) := rfl
theorem sh_40 : wsh 40 = (1, 40) := rfl
theorem ty_40 (j : Nat) : wty 40 j = (0, -9223372036854775808, 9223372036854775807, 0) := rfl
theorem sh_41 : wsh 41 = (1, 40) := rfl
theorem ty_41 (j : Nat) : wty 41 j = (0, -9223372036854775808, 9223372036854775807, 0) := rfl
theorem sh_42 : wsh 42 = (100 + 9, 33) := rfl
theorem ty_42_0 : wty 42 0 = (0, -2147483648, 2147483647, 0) := rfl
theorem ty_42_1 : wty 42 1 = (0, -2147483648, 2147483647, 0) := rfl
theorem ty_42_2 : wty 42 2 = (0, -2147483648, 2147483647, 0) := rfl
theorem ty_42_3 : wty 42 3 = (3, 0, 0, 54) := rfl
theorem ty_42_4 : wty 42 4 = (3, 0, 0, 54) := rfl
theorem ty_42_6 : wty 42 6 = (0, 0, 900, 0) := rfl
theorem ty_42_7 : wty 42 7 = (0, 0, 900, 0) := rfl
theorem ty_42_8 : wty 42 8 = (0, 0, 900, 0) := rfl
theorem ty_42_9 : wty 42 9 = (0, 0, 5, 0) := rfl
theorem ty_42_10 : wty 42 10 = (0, -2147483648, 2147483647, 0) := rfl
theorem ty_42_11 : wty 42 11 = (0, -2147483648, 2147483647, 0) := rfl
theorem ty_42_12 : wty 42 12 = (0, -2147483648, 2147483647, 0) := rfl
theorem ty_42_13 : wty 42 13 = (0, -2147483648, 2147483647, 0) := rfl
theorem ty_42_14 : wty 42 14 = (0, -2147483648, 2147483647, 0) := rfl
theorem ty_42_15 : wty 42 15 = (0, -9223372036854775808, 9223372036854775807, 0) := rfl
theorem ty_42_16 : wty 42 16 = (0, 0, 24, 0) := rfl
theorem ty_42_17 : wty 42 17 = (0, -2147483648, 2147483647, 0) := rfl
theorem ty_42_18 : wty 42 18 = (0, -2147483648, 2147483647, 0) := rfl
theorem ty_42_19 : wty 42 19 = (0, -2147483648, 2147483647, 0) := rfl
theorem ty_42_20 : wty 42 20 = (2, 0, 0, 44) := rfl
theorem ty_42_21 : wty 42 21 = (2, 0, 0, 45) := rfl
theorem ty_42_22 : wty 42 22 = (2, 0, 0, 46) := rfl
theorem ty_42_23 : wty 42 23 = (2, 0, 0, 47) := rfl
theorem ty_42_24 : wty 42 24 = (2, 0, 0, 48) := rfl
theorem ty_42_25 : wty 42 25 = (2, 0, 0, 49) := rfl
theorem ty_42_26 : wty 42 26 = (2, 0, 0, 50) := rfl
theorem ty_42_27 : wty 42 27 = (2, 0, 0, 51) := rfl
theorem ty_42_28 : wty 42 28 = (0, 0, 1, 0) := rfl
theorem ty_42_29 : wty 42 29 = (0, 0, 20000, 0) := rfl
theorem ty_42_30 : wty 42 30 = (2, 0, 0, 52) := rfl
theorem ty_42_31 : wty 42 31 = (2, 0, 0, 53) := rfl
theorem ty_42_32 : wty 42 32 = (0, 0, 2147483647, 0) := rfl
theorem sh_43 : wsh 43 = (2, 900) := rfl
theorem ty_43 (j : Nat) : wty 43 j = (0, -128, 127, 0) := rfl
theorem sh_44 : wsh 44 = (0, 24) := rfl
theorem ty_44 (j : Nat) : wty 44 j = (0, -2147483648, 2147483647, 0) := rfl
theorem sh_45 : wsh 45 = (0, 6) := rfl
theorem ty_45 (j : Nat) : wty 45 j = (0, 0, 40, 0) := rfl
theorem sh_46 : wsh 46 = (0, 240) := rfl
theorem ty_46 (j : Nat) : wty 46 j = (0, 0, 30, 0) := rfl
theorem sh_47 : wsh 47 = (0, 240) := rfl
theorem ty_47 (j : Nat) : wty 47 j = (0, 0, 16, 0) := rfl
theorem sh_48 : wsh 48 = (0, 240) := rfl
theorem ty_48 (j : Nat) : wty 48 j = (0, -2147483648, 2147483647, 0) := rfl
theorem sh_49 : wsh 49 = (0, 240) := rfl
theorem ty_49 (j : Nat) : wty 49 j = (0, -2147483648, 2147483647, 0) := rfl
theorem sh_50 : wsh 50 = (0, 6) := rfl
theorem ty_50 (j : Nat) : wty 50 j = (0, 0, 39, 0) := rfl
theorem sh_51 : wsh 51 = (0, 6) := rfl
theorem ty_51 (j : Nat) : wty 51 j = (0, 0, 39, 0) := rfl
theorem sh_52 : wsh 52 = (0, 20000) := rfl
theorem ty_52 (j : Nat) : wty 52 j = (0, 0, 19999, 0) := rfl
theorem sh_53 : wsh 53 = (0, 6) := rfl
theorem ty_53 (j : Nat) : wty 53 j = (0, 0, 39, 0) := rfl
theorem sh_54 : wsh 54 = (100 + 10, 27) := rfl
theorem ty_54_0 : wty 54 0 = (0, 0, 24, 0) := rfl
theorem ty_54_1 : wty 54 1 = (0, -2147483648, 2147483647, 0) := rfl
theorem ty_54_2 : wty 54 2 = (0, -2147483648, 2147483647, 0) := rfl
theorem ty_54_3 : wty 54 3 = (0, 0, 6, 0) := rfl
theorem ty_54_4 : wty 54 4 = (0, 0, 3, 0) := rfl
theorem ty_54_5 : wty 54 5 = (0, 0, 3, 0) := rfl
theorem ty_54_6 : wty 54 6 = (0, 0, 4, 0) := rfl
theorem ty_54_7 : wty 54 7 = (0, 0, 6, 0) := rfl
theorem ty_54_8 : wty 54 8 = (0, -2147483648, 2147483647, 0) := rfl
theorem ty_54_9 : wty 54 9 = (2, 0, 0, 55) := rfl
theorem ty_54_10 : wty 54 10 = (2, 0, 0, 56) := rfl
theorem ty_54_11 : wty 54 11 = (2, 0, 0, 57) := rfl
theorem ty_54_12 : wty 54 12 = (2, 0, 0, 58) := rfl
theorem ty_54_13 : wty 54 13 = (2, 0, 0, 59) := rfl
theorem ty_54_14 : wty 54 14 = (2, 0, 0, 60) := rfl
theorem ty_54_15 : wty 54 15 = (2, 0, 0, 61) := rfl
theorem ty_54_16 : wty 54 16 = (2, 0, 0, 62) := rfl
theorem ty_54_17 : wty 54 17 = (2, 0, 0, 63) := rfl
theorem ty_54_18 : wty 54 18 = (2, 0, 0, 64) := rfl
theorem ty_54_19 : wty 54 19 = (2, 0, 0, 65) := rfl
theorem ty_54_20 : wty 54 20 = (2, 0, 0, 66) := rfl
theorem ty_54_21 : wty 54 21 = (2, 0, 0, 67) := rfl
theorem ty_54_22 : wty 54 22 = (2, 0, 0, 68) := rfl
theorem ty_54_23 : wty 54 23 = (2, 0, 0, 69) := rfl
theorem ty_54_24 : wty 54 24 = (2, 0, 0, 70) := rfl
theorem ty_54_25 : wty 54 25 = (2, 0, 0, 71) := rfl
theorem ty_54_26 : wty 54 26 = (2, 0, 0, 72) := rfl
theorem sh_55 : wsh 55 = (1, 6) := rfl
theorem ty_55 (j : Nat) : wty 55 j = (0, -9223372036854775808, 9223372036854775807, 0) := rfl
theorem sh_56 : wsh 56 = (0, 6) := rfl
theorem ty_56 (j : Nat) : wty 56 j = (0, 0, 23, 0) := rfl
theorem sh_57 : wsh 57 = (0, 6) := rfl
theorem ty_57 (j : Nat) : wty 57 j = (0, 0, 30, 0) := rfl
theorem sh_58 : wsh 58 = (0, 6) := rfl
theorem ty_58 (j : Nat) : wty 58 j = (0, 0, 12, 0) := rfl
theorem sh_59 : wsh 59 = (0, 6) := rfl
theorem ty_59 (j : Nat) : wty 59 j = (0, 0, 16, 0) := rfl
theorem sh_60 : wsh 60 = (0, 6) := rfl
theorem ty_60 (j : Nat) : wty 60 j = (0, -1, 23, 0) := rfl
theorem sh_61 : wsh 61 = (0, 6) := rfl
theorem ty_61 (j : Nat) : wty 61 j = (0, -2147483648, 2147483647, 0) := rfl
theorem sh_62 : wsh 62 = (0, 6) := rfl
theorem ty_62 (j : Nat) : wty 62 j = (0, -2147483648, 2147483647, 0) := rfl
theorem sh_63 : wsh 63 = (3, 6) := rfl
theorem ty_63 (j : Nat) : wty 63 j = (0, 0, 1, 0) := rfl
theorem sh_64 : wsh 64 = (0, 3) := rfl
theorem ty_64 (j : Nat) : wty 64 j = (0, 0, 5, 0) := rfl
theorem sh_65 : wsh 65 = (0, 3) := rfl
theorem ty_65 (j : Nat) : wty 65 j = (0, 0, 5, 0) := rfl
theorem sh_66 : wsh 66 = (0, 3) := rfl
theorem ty_66 (j : Nat) : wty 66 j = (0, -2147483648, 2147483647, 0) := rfl
theorem sh_67 : wsh 67 = (0, 24) := rfl
theorem ty_67 (j : Nat) : wty 67 j = (0, -2147483648, 2147483647, 0) := rfl
theorem sh_68 : wsh 68 = (0, 4) := rfl
theorem ty_68 (j : Nat) : wty 68 j = (0, 0, 5, 0) := rfl
theorem sh_69 : wsh 69 = (0, 4) := rfl
theorem ty_69 (j : Nat) : wty 69 j = (0, -2147483648, 2147483647, 0) := rfl
theorem sh_70 : wsh 70 = (0, 4) := rfl
theorem ty_70 (j : Nat) : wty 70 j = (0, -2147483648, 2147483647, 0) := rfl
theorem sh_71 : wsh 71 = (0, 6) := rfl
theorem ty_71 (j : Nat) : wty 71 j = (0, 0, 5, 0) := rfl
theorem sh_72 : wsh 72 = (0, 6) := rfl
theorem ty_72 (j : Nat) : wty 72 j = (0, -2147483648, 2147483647, 0) := rfl
