/-! the mini machine's parts with unknown numbers: cells, calls, ends (own work) -/
def mcA_anew (own idx pc : Nat) (L : List (Nat × mc_V)) (st : List mc_V) (M : mcA_M) : mcA_O := match st with
  | .inl (.int n) :: r => match mc_find (mc_kl.getD own []) idx with
    | some e => mcA_n (e.1 == 8 && decide (¬ n < 0) && decide (n.toNatClampNeg ≤ 100000)) (mcA_go (pc + 3) L (.inl (.ref (256 + M.length)) :: r) (M ++ [.inl (4, n.toNatClampNeg, fun _ => .inl .null)]))
    | none => none
  | _ => none
def mcA_mna (own idx pc : Nat) (L : List (Nat × mc_V)) (st : List mc_V) (M : mcA_M) : mcA_O := match st with
  | .inl (.int k) :: .inl (.int n) :: r => match mc_find (mc_gl.getD own []) idx with
    | some e => mcA_n (decide (e.1 < 2) && decide (¬ n < 0) && decide (¬ k < 0) && decide (n.toNatClampNeg ≤ 100000) && decide (k.toNatClampNeg ≤ 100000)) (mcA_go (pc + 4) L (.inl (.ref (256 + M.length)) :: r) ((M ++ [.inl (5 + e.1, n.toNatClampNeg, fun i => if i < n.toNatClampNeg then .inl (.ref (256 + M.length + 1 + i)) else .inl .null)]) ++ List.replicate n.toNatClampNeg (.inl (e.1, k.toNatClampNeg, fun _ => .inl (defaultValue (mc_ty e.1))))))
    | none => none
  | _ => none
def mcA_aast (pc : Nat) (L : List (Nat × mc_V)) (st : List mc_V) (M : mcA_M) : mcA_O := match st with
  | .inl (.ref b) :: .inl (.int i) :: .inl (.ref a) :: r => match M[a - 256]?, M[b - 256]? with
    | some (.inl q), some (.inr z) => mcA_n (decide (256 ≤ a) && q.1 == 4 && decide (256 ≤ b) && mc_in i q.2.1 && z.1 == 8) (mcA_go (pc + 1) L r (M.set (a - 256) (.inl (q.1, q.2.1, mcA_up q.2.2 i.toNatClampNeg (.inl (.ref b))))))
    | _, _ => none
  | _ => none
section AC
variable {pc : Nat} {LA : List (Nat × mc_V)} {sA : List mc_V} {MA : mcA_M} {L : List (Nat × Value)} {st : List Value} {M : mc_M} {r : mcA_S ⊕ mcA_R} {kt : Nat → Option mc_E} {kA : Nat → Option mcA_E} {own : Nat} {ini : Bool} {off : Int}
theorem mcA_ce_ok (hk : ∀ (a : Nat) (eA : mcA_E), kA a = some eA → ∃ e, kt a = some e ∧ mcA_gE eA e) (hM : mcA_R2 mcA_gE MA M) {a : Nat} {eA : mcA_E} (h : mcA_ce kA MA a = some eA) : ∃ e, mc_ce kt M a = some e ∧ mcA_gE eA e := by
  unfold mcA_ce at h
  unfold mc_ce
  split at h
  · next ha =>
    rw [if_pos ha]
    exact hk a eA h
  · next ha =>
    rw [if_neg ha]
    exact hM.at h
theorem mcA_k_getf (hk : ∀ (a : Nat) (eA : mcA_E), kA a = some eA → ∃ e, kt a = some e ∧ mcA_gE eA e) {idx : Nat} (hL : mcA_R2 mcA_gL LA L) (hs : mcA_R2 mc_g sA st) (hM : mcA_R2 mcA_gE MA M) (h : mcA_getf kA own idx pc LA sA MA = some r) : ∃ r', mc_getf kt own idx pc L st M = some r' ∧ mcA_gX r r' := by
  unfold mcA_getf at h
  split at h
  · next a rA =>
    split at h
    · next en he =>
      split at h
      · next q hq =>
        split at h
        · next v hv =>
          obtain ⟨hb, h⟩ := mcA_n_t h
          obtain ⟨x, s1, rfl, h1, t1⟩ := hs.cons
          cases (show x = .ref a from h1)
          obtain ⟨e', h2, h3⟩ := mcA_ce_ok hk hM hq
          match e', h2, h3 with
          | .inr z, h2, h3 =>
            obtain ⟨y, h4, h5⟩ := h3.2.at hv
            unfold mc_getf
            dsimp only
            rw [he]
            dsimp only
            rw [h2]
            dsimp only
            rw [h4]
            dsimp only
            rw [mc_n_i (by rw [← h3.1]; exact hb)]
            exact mcA_go_k hL (by exact ⟨h5, t1⟩) hM h
          | .inl z, h2, h3 => exact h3.elim
        · cases h
      · cases h
    · cases h
  · cases h
theorem mcA_fit_ok {ty : FieldType} {v : mc_V} {x : Value} (h : mc_g v x) (hf : mcA_fit ty v = true) : mc_fit ty x = true := by
  match v, h with
  | .inl y, h => cases (show x = y from h); exact hf
  | .inr none, ⟨z, hz⟩ =>
    subst hz
    have : ty = .long := of_decide_eq_true hf
    subst this
    rfl
  | .inr (some q), ⟨z, hz, _⟩ =>
    subst hz
    have : ty = .int := of_decide_eq_true hf
    subst this
    rfl
theorem mcA_k_putf {idx : Nat} (hL : mcA_R2 mcA_gL LA L) (hs : mcA_R2 mc_g sA st) (hM : mcA_R2 mcA_gE MA M) (h : mcA_putf own ini idx pc LA sA MA = some r) : ∃ r', mc_putf own ini idx pc L st M = some r' ∧ mcA_gX r r' := by
  unfold mcA_putf at h
  split at h
  · next v a rA =>
    split at h
    · next en he =>
      split at h
      · next q hq =>
        obtain ⟨hb, h⟩ := mcA_n_t h
        obtain ⟨x, s1, rfl, h1, t1⟩ := hs.cons
        obtain ⟨y, s2, rfl, h2, t2⟩ := t1.cons
        cases (show y = .ref a from h2)
        obtain ⟨z, h3, h4, h5⟩ := mcA_at hM hq
        simp only [Bool.and_eq_true] at hb
        obtain ⟨⟨⟨⟨⟨⟨e1, e2⟩, e3⟩, e4⟩, e5⟩, e6⟩, e7⟩ := hb
        unfold mc_putf
        dsimp only
        rw [he]
        dsimp only
        rw [h3]
        dsimp only
        rw [mc_n_i (by
          simp only [Bool.and_eq_true]
          exact ⟨⟨⟨⟨⟨⟨by rw [← h4]; exact e1, e2⟩, e3⟩, e4⟩, by rw [← h5.len]; exact e5⟩, mcA_fit_ok h1 e6⟩, e7⟩)]
        exact mcA_go_k hL t2 (by exact hM.set (show mcA_gE (.inr (q.1, q.2.set en.2.1 v)) (.inr (z.1, z.2.set en.2.1 x)) from ⟨h4, h5.set h1 _⟩) _) h
      · cases h
    · cases h
  · cases h
theorem mcA_k_ald (hk : ∀ (a : Nat) (eA : mcA_E), kA a = some eA → ∃ e, kt a = some e ∧ mcA_gE eA e) {ok : Nat → Bool} (hL : mcA_R2 mcA_gL LA L) (hs : mcA_R2 mc_g sA st) (hM : mcA_R2 mcA_gE MA M) (h : mcA_ald kA ok pc LA sA MA = some r) : ∃ r', mc_ald kt ok pc L st M = some r' ∧ mcA_gX r r' := by
  unfold mcA_ald at h
  split at h
  · next i a rA =>
    split at h
    · next q hq =>
      obtain ⟨hb, h⟩ := mcA_n_t h
      obtain ⟨x, s1, rfl, h1, t1⟩ := hs.cons
      obtain ⟨y, s2, rfl, h2, t2⟩ := t1.cons
      cases (show x = .int i from h1)
      cases (show y = .ref a from h2)
      obtain ⟨e', h3, h4⟩ := mcA_ce_ok hk hM hq
      match e', h3, h4 with
      | .inl z, h3, h4 =>
        unfold mc_ald
        dsimp only
        rw [h3]
        dsimp only
        rw [mc_n_i (by rw [← h4.1, ← h4.2.1]; exact hb)]
        exact mcA_go_k hL (by exact ⟨h4.2.2 _, t2⟩) hM h
      | .inr z, h3, h4 => exact h4.elim
    · cases h
  · cases h
theorem mcA_k_ast {okA : Nat → Bool} {oki : mc_V → Bool} {ok : Nat → Value → Bool} {w : Nat → Value → Value} {t : mc_V → mc_V} (hok : ∀ (k : Nat) (v : mc_V) (x : Value), mc_g v x → okA k = true → oki v = true → ok k x = true) (ht : ∀ (k : Nat) (v : mc_V) (x : Value), mc_g v x → okA k = true → oki v = true → mc_g (match v with
      | .inl x => .inl (w k x)
      | u => t u) (w k x)) (hL : mcA_R2 mcA_gL LA L) (hs : mcA_R2 mc_g sA st) (hM : mcA_R2 mcA_gE MA M) (h : mcA_ast okA oki w t pc LA sA MA = some r) : ∃ r', mc_ast kt ok w pc L st M = some r' ∧ mcA_gX r r' := by
  unfold mcA_ast at h
  split at h
  · next v i a rA =>
    split at h
    · next q hq =>
      obtain ⟨hb, h⟩ := mcA_n_t h
      simp only [Bool.and_eq_true] at hb
      obtain ⟨⟨⟨e1, e2⟩, e3⟩, e4⟩ := hb
      obtain ⟨x, s1, rfl, h1, t1⟩ := hs.cons
      obtain ⟨y, s2, rfl, h2, t2⟩ := t1.cons
      obtain ⟨y', s3, rfl, h3, t3⟩ := t2.cons
      cases (show y = .int i from h2)
      cases (show y' = .ref a from h3)
      obtain ⟨z, h4, h5, h6, h7⟩ := mcA_atA hM hq
      unfold mc_ast
      dsimp only
      rw [h4]
      dsimp only
      rw [mc_n_i (by
        simp only [Bool.and_eq_true]
        exact ⟨⟨e1, by rw [← h5]; exact hok _ _ _ h1 e2 e3⟩, by rw [← h6]; exact e4⟩)]
      refine mcA_go_k hL t3 (by
        refine hM.set ?_ _
        refine ⟨h5, h6, fun j => ?_⟩
        by_cases hj : j = i.toNatClampNeg
        · subst hj
          simp only [mcA_up, updV, if_true]
          rw [← h5]
          exact ht _ _ _ h1 e2 e3
        · simp only [mcA_up, updV, if_neg hj]
          exact h7 j) h
    · cases h
  · cases h
theorem mcA_k_len (hk : ∀ (a : Nat) (eA : mcA_E), kA a = some eA → ∃ e, kt a = some e ∧ mcA_gE eA e) (hL : mcA_R2 mcA_gL LA L) (hs : mcA_R2 mc_g sA st) (hM : mcA_R2 mcA_gE MA M) (h : mcA_len kA pc LA sA MA = some r) : ∃ r', mc_len kt pc L st M = some r' ∧ mcA_gX r r' := by
  unfold mcA_len at h
  split at h
  · next a rA =>
    split at h
    · next q hq =>
      obtain ⟨hb, h⟩ := mcA_n_t h
      obtain ⟨y, s2, rfl, h2, t2⟩ := hs.cons
      cases (show y = .ref a from h2)
      obtain ⟨e', h3, h4⟩ := mcA_ce_ok hk hM hq
      match e', h3, h4 with
      | .inl z, h3, h4 =>
        unfold mc_len
        dsimp only
        rw [h3]
        dsimp only
        rw [mc_n_i (by rw [← h4.1]; exact hb)]
        rw [← h4.2.1]
        exact mcA_go_k hL (by exact ⟨rfl, t2⟩) hM h
      | .inr z, h3, h4 => exact h4.elim
    · cases h
  · cases h
theorem mcA_k_newa {a : ArrayType} (hL : mcA_R2 mcA_gL LA L) (hs : mcA_R2 mc_g sA st) (hM : mcA_R2 mcA_gE MA M) (h : mcA_newa a pc LA sA MA = some r) : ∃ r', mc_newa a pc L st M = some r' ∧ mcA_gX r r' := by
  unfold mcA_newa at h
  split at h
  · next n rA =>
    split at h
    · next t ht =>
      obtain ⟨hb, h⟩ := mcA_n_t h
      obtain ⟨y, s2, rfl, h2, t2⟩ := hs.cons
      cases (show y = .int n from h2)
      unfold mc_newa
      dsimp only
      rw [ht]
      dsimp only
      rw [mc_n_i hb, ← hM.len]
      exact mcA_go_k hL (by exact ⟨rfl, t2⟩) (by exact hM.app ⟨⟨rfl, rfl, fun _ => rfl⟩, trivial⟩) h
    · cases h
  · cases h
theorem mcA_map_inl {α : Type} (f : α → Value) : ∀ l : List α, mcA_R2 mc_g (l.map (fun k => (.inl (f k) : mc_V))) (l.map f)
  | [] => trivial
  | _ :: l => ⟨rfl, mcA_map_inl f l⟩
theorem mcA_k_new {idx : Nat} (hL : mcA_R2 mcA_gL LA L) (hs : mcA_R2 mc_g sA st) (hM : mcA_R2 mcA_gE MA M) (h : mcA_new own idx pc LA sA MA = some r) : ∃ r', mc_new own idx pc L st M = some r' ∧ mcA_gX r r' := by
  unfold mcA_new at h
  split at h
  · next en he =>
    obtain ⟨hb, h⟩ := mcA_n_t h
    unfold mc_new
    rw [he]
    dsimp only
    rw [mc_n_i hb, ← hM.len]
    exact mcA_go_k hL (by exact ⟨rfl, hs⟩) (by exact hM.app ⟨⟨rfl, mcA_map_inl _ _⟩, trivial⟩) h
  · cases h
theorem mcA_k_gs {idx : Nat} (hL : mcA_R2 mcA_gL LA L) (hs : mcA_R2 mc_g sA st) (hM : mcA_R2 mcA_gE MA M) (h : mcA_gs own idx pc LA sA MA = some r) : ∃ r', mc_gs own idx pc L st M = some r' ∧ mcA_gX r r' := by
  unfold mcA_gs at h
  split at h
  · next en he =>
    split at h
    · next q hq =>
      unfold mc_gs
      rw [he]
      dsimp only
      rw [hq]
      exact mcA_go_k hL (by exact ⟨rfl, hs⟩) hM h
    · cases h
  · cases h
theorem mcA_k_ldc {idx d : Nat} (hL : mcA_R2 mcA_gL LA L) (hs : mcA_R2 mc_g sA st) (hM : mcA_R2 mcA_gE MA M) (h : mcA_ldc own idx d pc LA sA MA = some r) : ∃ r', mc_ldc own idx d pc L st M = some r' ∧ mcA_gX r r' := by
  unfold mcA_ldc at h
  unfold mc_ldc
  split at h
  · next en he =>
    obtain ⟨hb, h⟩ := mcA_n_t h
    rw [he]
    dsimp only
    rw [mc_n_i hb]
    exact mcA_go_k hL (by exact ⟨rfl, hs⟩) hM h
  · next he =>
    rw [he]
    dsimp only
    split at h
    · next q hq =>
      rw [hq]
      exact mcA_go_k hL (by exact ⟨rfl, hs⟩) hM h
    · cases h
theorem mcA_k_ldc2 {idx : Nat} (hL : mcA_R2 mcA_gL LA L) (hs : mcA_R2 mc_g sA st) (hM : mcA_R2 mcA_gE MA M) (h : mcA_ldc2 own idx pc LA sA MA = some r) : ∃ r', mc_ldc2 own idx pc L st M = some r' ∧ mcA_gX r r' := by
  unfold mcA_ldc2 at h
  unfold mc_ldc2
  split at h
  · next en he =>
    obtain ⟨hb, h⟩ := mcA_n_t h
    rw [he]
    dsimp only
    rw [mc_n_i hb]
    exact mcA_go_k hL (by exact ⟨rfl, hs⟩) hM h
  · cases h
theorem mcA_k_tsw {dflt lo hi : Int} {offs : Array Int} (hL : mcA_R2 mcA_gL LA L) (hs : mcA_R2 mc_g sA st) (hM : mcA_R2 mcA_gE MA M) (h : mcA_tsw dflt lo hi offs pc LA sA MA = some r) : ∃ r', mc_tsw dflt lo hi offs pc L st M = some r' ∧ mcA_gX r r' := by
  unfold mcA_tsw at h
  unfold mc_tsw
  split at h
  · next x rA =>
    obtain ⟨y, s2, rfl, h2, t2⟩ := hs.cons
    cases (show y = .int x from h2)
    dsimp only
    split at h
    · next ho =>
      rw [if_pos ho]
      exact mcA_k_jp hL t2 hM h
    · next ho =>
      rw [if_neg ho]
      split at h
      · next o9 ho9 =>
        rw [ho9]
        exact mcA_k_jp hL t2 hM h
      · cases h
  · next q rA =>
    obtain ⟨y, s2, rfl, h2, t2⟩ := hs.cons
    obtain ⟨z, rfl, h3, h4⟩ := h2
    dsimp only
    split at h
    · next ho =>
      rw [if_pos (by omega)]
      exact mcA_k_jp hL t2 hM h
    · cases h
  · cases h
theorem mcA_k_cal {callA : Nat → List mc_V → mcA_M → Option mcA_R} {call : Nat → List Value → mc_M → Option mc_R} (IH : ∀ (k : Nat) (vs : List mc_V) (xs : List Value) (MA : mcA_M) (M : mc_M) (w : mcA_R), mcA_R2 mc_g vs xs → mcA_R2 mcA_gE MA M → callA k vs MA = some w → ∃ w', call k xs M = some w' ∧ mcA_gR w w') {sort idx : Nat} (hL : mcA_R2 mcA_gL LA L) (hs : mcA_R2 mc_g sA st) (hM : mcA_R2 mcA_gE MA M) (h : mcA_cal callA own sort idx pc LA sA MA = some r) : ∃ r', mc_cal call own sort idx pc L st M = some r' ∧ mcA_gX r r' := by
  unfold mcA_cal at h
  unfold mc_cal
  split at h
  · next en he =>
    rw [he]
    dsimp only
    split at h
    · next q hq =>
      rw [hq]
      dsimp only
      split at h
      · next w hw =>
        obtain ⟨hb, h⟩ := mcA_n_t h
        obtain ⟨w', h1, h2⟩ := IH _ _ _ _ _ _ ((hs.take _).rev) hM hw
        rw [h1]
        dsimp only
        simp only [Bool.and_eq_true] at hb
        obtain ⟨⟨⟨e1, e2⟩, e3⟩, e4⟩ := hb
        rw [mc_n_i (by
          simp only [Bool.and_eq_true]
          refine ⟨⟨⟨e1, ?_⟩, by rw [← hs.len]; exact e3⟩, ?_⟩
          · rw [← (hs.drop _).same (fun a b hab => mcA_cat_ok hab)]
            exact e2
          · simp only [Bool.or_eq_true] at e4 ⊢
            rcases e4 with e4 | e4
            · exact Or.inl e4
            · refine Or.inr ?_
              split at e4
              · next b hb9 =>
                obtain ⟨y, h3, h4⟩ := hs.at hb9
                cases (show y = .ref b from h4)
                rw [h3]
                dsimp only
                simp only [Bool.and_eq_true] at e4 ⊢
                refine ⟨e4.1, ?_⟩
                have e5 := e4.2
                split at e5
                · next z hz =>
                  obtain ⟨z', h5, h6, h7⟩ := mcA_at hM hz
                  rw [h5]
                  dsimp only
                  rw [← h6]
                  exact e5
                · cases e5
              · cases e4)]
        refine mcA_go_k hL (by
          refine mcA_R2.app ?_ (hs.drop _)
          have h9 := h2.1
          cases hw1 : w.1 with
          | none =>
            cases hw2 : w'.1 with
            | none => exact trivial
            | some y => rw [hw1, hw2] at h9; exact h9.elim
          | some v =>
            cases hw2 : w'.1 with
            | none => rw [hw1, hw2] at h9; exact h9.elim
            | some y => rw [hw1, hw2] at h9; exact ⟨h9, trivial⟩) h2.2 h
      · cases h
    · cases h
  · cases h
theorem mcA_k_obj {idx : Nat} (hL : mcA_R2 mcA_gL LA L) (hs : mcA_R2 mc_g sA st) (hM : mcA_R2 mcA_gE MA M) (h : mcA_obj own idx pc LA sA MA = some r) : ∃ r', mc_obj own idx pc L st M = some r' ∧ mcA_gX r r' := by
  unfold mcA_obj at h
  unfold mc_obj
  split at h
  · next a rA =>
    split at h
    · next en he =>
      obtain ⟨hb, h⟩ := mcA_n_t h
      obtain ⟨y, s2, rfl, h2, t2⟩ := hs.cons
      cases (show y = .ref a from h2)
      dsimp only
      rw [he]
      dsimp only
      rw [mc_n_i (by rw [← t2.same (fun a b hab => mcA_cat_ok hab)]; exact hb)]
      exact mcA_go_k hL t2 hM h
    · cases h
  · cases h
theorem mcA_k_math {idx : Nat} (hL : mcA_R2 mcA_gL LA L) (hs : mcA_R2 mc_g sA st) (hM : mcA_R2 mcA_gE MA M) (h : mcA_math own idx pc LA sA MA = some r) : ∃ r', mc_math own idx pc L st M = some r' ∧ mcA_gX r r' := by
  unfold mcA_math at h
  unfold mc_math
  split at h
  · next en he =>
    rw [he]
    dsimp only
    split at h
    · next y x rA he0 =>
      obtain ⟨hb, h⟩ := mcA_n_t h
      obtain ⟨a, s1, rfl, h1, t1⟩ := hs.cons
      obtain ⟨b, s2, rfl, h2, t2⟩ := t1.cons
      cases (show a = .int y from h1)
      cases (show b = .int x from h2)
      rw [he0]
      show ∃ r', mc_n (decide ((s2.map Value.category).sum ≤ 8)) (mc_go (pc + 3) L (.int (if y < x then y else x) :: s2) M) = some r' ∧ mcA_gX r r'
      rw [mc_n_i (by rw [← t2.same (fun a b hab => mcA_cat_ok hab)]; exact hb)]
      exact mcA_go_k hL (by exact ⟨rfl, t2⟩) hM h
    · next y x rA he0 =>
      obtain ⟨hb, h⟩ := mcA_n_t h
      obtain ⟨a, s1, rfl, h1, t1⟩ := hs.cons
      obtain ⟨b, s2, rfl, h2, t2⟩ := t1.cons
      cases (show a = .int y from h1)
      cases (show b = .int x from h2)
      rw [he0]
      show ∃ r', mc_n (decide ((s2.map Value.category).sum ≤ 8)) (mc_go (pc + 3) L (.int (if x < y then y else x) :: s2) M) = some r' ∧ mcA_gX r r'
      rw [mc_n_i (by rw [← t2.same (fun a b hab => mcA_cat_ok hab)]; exact hb)]
      exact mcA_go_k hL (by exact ⟨rfl, t2⟩) hM h
    · cases h
  · cases h
theorem mcA_k_ret {ret : Option FieldType} (hs : mcA_R2 mc_g sA st) (hM : mcA_R2 mcA_gE MA M) : (mcA_ret ret sA MA = some r → ∃ r', mc_ret ret st M = some r' ∧ mcA_gX r r') ∧ (mcA_retL ret sA MA = some r → ∃ r', mc_retL ret st M = some r' ∧ mcA_gX r r') ∧ (mcA_retA ret sA MA = some r → ∃ r', mc_retA ret st M = some r' ∧ mcA_gX r r') ∧ (mcA_retV ret sA MA = some r → ∃ r', mc_retV ret st M = some r' ∧ mcA_gX r r') := by
  refine ⟨fun h => ?_, fun h => ?_, fun h => ?_, fun h => ?_⟩
  · unfold mcA_ret at h
    split at h
    · obtain ⟨hb, h⟩ := mcA_n_t h
      cases h
      obtain ⟨x, s1, rfl, h1, t1⟩ := hs.cons
      cases t1.nil
      obtain ⟨z, rfl⟩ := mcA_isI_val h1 hb
      exact ⟨_, rfl, h1, hM⟩
    · next v =>
      obtain ⟨hb, h⟩ := mcA_n_t h
      cases h
      obtain ⟨x, s1, rfl, h1, t1⟩ := hs.cons
      cases t1.nil
      cases (show x = .int v from h1)
      unfold mc_ret
      dsimp only
      rw [show mc_n (v == 0 || v == 1) (some (.inr (some (.int v), M))) = some (.inr (some (.int v), M)) from mc_n_i hb]
      exact ⟨_, rfl, rfl, hM⟩
    · cases h
  · unfold mcA_retL at h
    split at h
    · obtain ⟨hb, h⟩ := mcA_n_t h
      cases h
      obtain ⟨x, s1, rfl, h1, t1⟩ := hs.cons
      cases t1.nil
      obtain ⟨z, rfl⟩ := mcA_isL_val h1 hb
      exact ⟨_, rfl, h1, hM⟩
    · cases h
  · unfold mcA_retA at h
    split at h
    · obtain ⟨hb, h⟩ := mcA_n_t h
      cases h
      obtain ⟨x, s1, rfl, h1, t1⟩ := hs.cons
      cases t1.nil
      exact ⟨.inr (some x, M), mc_n_i (mcA_isA_ok h1 hb), h1, hM⟩
    · obtain ⟨hb, h⟩ := mcA_n_t h
      cases h
      obtain ⟨x, s1, rfl, h1, t1⟩ := hs.cons
      cases t1.nil
      exact ⟨.inr (some x, M), mc_n_i (mcA_isA_ok h1 hb), h1, hM⟩
    · cases h
  · unfold mcA_retV at h
    split at h
    · cases h
      cases hs.nil
      exact ⟨_, rfl, trivial, hM⟩
    · cases h
theorem mcA_k_anew {idx : Nat} (hL : mcA_R2 mcA_gL LA L) (hs : mcA_R2 mc_g sA st) (hM : mcA_R2 mcA_gE MA M) (h : mcA_anew own idx pc LA sA MA = some r) : ∃ r', mc_anew own idx pc L st M = some r' ∧ mcA_gX r r' := by
  unfold mcA_anew at h
  split at h
  · next n rA =>
    split at h
    · next en he =>
      obtain ⟨hb, h⟩ := mcA_n_t h
      obtain ⟨y, s2, rfl, h2, t2⟩ := hs.cons
      cases (show y = .int n from h2)
      unfold mc_anew
      dsimp only
      rw [he]
      dsimp only
      rw [mc_n_i hb, ← hM.len]
      exact mcA_go_k hL (by exact ⟨rfl, t2⟩) (by exact hM.app ⟨⟨rfl, rfl, fun _ => rfl⟩, trivial⟩) h
    · cases h
  · cases h
theorem mcA_rep {a : mcA_E} {b : mc_E} (h : mcA_gE a b) : ∀ n : Nat, mcA_R2 mcA_gE (List.replicate n a) (List.replicate n b)
  | 0 => trivial
  | n + 1 => ⟨h, mcA_rep h n⟩
theorem mcA_k_mna {idx : Nat} (hL : mcA_R2 mcA_gL LA L) (hs : mcA_R2 mc_g sA st) (hM : mcA_R2 mcA_gE MA M) (h : mcA_mna own idx pc LA sA MA = some r) : ∃ r', mc_mna own idx pc L st M = some r' ∧ mcA_gX r r' := by
  unfold mcA_mna at h
  split at h
  · next k n rA =>
    split at h
    · next en he =>
      obtain ⟨hb, h⟩ := mcA_n_t h
      obtain ⟨x, s1, rfl, h1, t1⟩ := hs.cons
      obtain ⟨y, s2, rfl, h2, t2⟩ := t1.cons
      cases (show x = .int k from h1)
      cases (show y = .int n from h2)
      unfold mc_mna
      dsimp only
      rw [he]
      dsimp only
      rw [mc_n_i hb, ← hM.len]
      refine mcA_go_k hL (by exact ⟨rfl, t2⟩) (by
        refine mcA_R2.app (hM.app ⟨⟨rfl, rfl, fun j => ?_⟩, trivial⟩) (by exact mcA_rep (by exact ⟨rfl, rfl, fun _ => rfl⟩) _)
        by_cases hj : j < n.toNatClampNeg
        · simp only [if_pos hj]
          exact rfl
        · simp only [if_neg hj]
          exact rfl) h
    · cases h
  · cases h
theorem mcA_k_aast (hL : mcA_R2 mcA_gL LA L) (hs : mcA_R2 mc_g sA st) (hM : mcA_R2 mcA_gE MA M) (h : mcA_aast pc LA sA MA = some r) : ∃ r', mc_ast kt (mc_isP M) (fun _ v => v) pc L st M = some r' ∧ mcA_gX r r' := by
  unfold mcA_aast at h
  split at h
  · next b i a rA =>
    split at h
    · next q z hq hz =>
      obtain ⟨hb, h⟩ := mcA_n_t h
      simp only [Bool.and_eq_true, beq_iff_eq] at hb
      obtain ⟨⟨⟨⟨e1, e2⟩, e3⟩, e4⟩, e5⟩ := hb
      obtain ⟨x, s1, rfl, h1, t1⟩ := hs.cons
      obtain ⟨y, s2, rfl, h2, t2⟩ := t1.cons
      obtain ⟨y', s3, rfl, h3, t3⟩ := t2.cons
      cases (show x = .ref b from h1)
      cases (show y = .int i from h2)
      cases (show y' = .ref a from h3)
      obtain ⟨q', h4, h5, h6, h7⟩ := mcA_atA hM hq
      obtain ⟨z', g4, g5, g6⟩ := mcA_at hM hz
      unfold mc_ast
      dsimp only
      rw [h4]
      dsimp only
      rw [mc_n_i (by
        simp only [Bool.and_eq_true]
        refine ⟨⟨e1, ?_⟩, by rw [← h6]; exact e4⟩
        unfold mc_isP
        simp only [Bool.and_eq_true, beq_iff_eq]
        refine ⟨by rw [← h5]; exact e2, e3, ?_⟩
        rw [g4]
        show (z'.1 == 8) = true
        rw [← g5, e5]
        rfl)]
      refine mcA_go_k hL t3 (by
        refine hM.set ?_ _
        refine ⟨h5, h6, fun j => ?_⟩
        by_cases hj : j = i.toNatClampNeg
        · subst hj
          simp only [mcA_up, updV, if_true]
          exact rfl
        · simp only [mcA_up, updV, if_neg hj]
          exact h7 j) h
    · cases h
  · cases h
end AC
