/-! THE MINI MACHINE'S RUNS ARE THE MACHINE'S (own work, wip/gen/loopok.py) -/
def mc_ok1 (M : mc_M) (r : mc_S ⊕ mc_R) : Prop := match r with
  | .inl S => mc_le M S.2.2.2
  | .inr w => w.2 = M
theorem mc_le_rf (M : mc_M) : mc_le M M := ⟨Nat.le_refl _, Nat.le_refl _⟩
theorem mc_le.tr {M N K : mc_M} (h : mc_le M N) (h2 : mc_le N K) : mc_le M K := ⟨Nat.le_trans h.1 h2.1, Nat.le_trans h.2 h2.2⟩
theorem mc_le_app (M N : mc_M) : mc_le M (M ++ N) := ⟨by rw [List.length_append]; omega, by rw [mc_sz_app]; omega⟩
theorem mc_le_set {M : mc_M} {k : Nat} {e0 e : mc_E} (hk : M[k]? = some e0) (he : mc_es e = mc_es e0) : mc_le M (M.set k e) := ⟨by rw [List.length_set]; exact Nat.le_refl _, by rw [mc_sz_set hk he]; exact Nat.le_refl _⟩
section MK

variable {pc : Nat} {L : List (Nat × Value)} {st : List Value} {M N : mc_M} {r : mc_S ⊕ mc_R} {kt : Nat → Option mc_E} {own : Nat} {ini : Bool} {off : Int}
theorem mc_go_k {pc : Nat} {L : List (Nat × Value)} {st : List Value} (h : mc_go pc L st N = some r) (hle : mc_le M N) : mc_ok1 M r := by
  unfold mc_go at h
  cases h
  exact hle
theorem mc_n_k {b : Bool} {o : mc_O} (h : mc_n b o = some r) : o = some r := by
  unfold mc_n at h
  split at h
  · exact h
  · cases h
theorem mc_k_jp (h : mc_jp pc off L st M = some r) : mc_ok1 M r := by
  unfold mc_jp at h
  split at h
  · exact mc_go_k h (mc_le_rf M)
  · cases h
theorem mc_k_br {b : Bool} (h : mc_br b pc off L st M = some r) : mc_ok1 M r := by
  unfold mc_br at h
  split at h
  · split at h
    · exact mc_go_k h (mc_le_rf M)
    · exact mc_go_k h (mc_le_rf M)
  · cases h
theorem mc_k_ld {ok : Value → Bool} {i d : Nat} (h : mc_ld ok i d pc L st M = some r) : mc_ok1 M r := by
  unfold mc_ld at h
  repeat' (split at h)
  all_goals first | (cases h; done) | exact mc_go_k h (mc_le_rf M) | exact mc_go_k (mc_n_k h) (mc_le_rf M) | exact mc_k_br h | exact mc_k_jp h | exact mc_go_k (mc_n_k h) (mc_le_app M _) | exact mc_go_k h (mc_le_app M _) | exact mc_go_k (mc_n_k h) ((mc_le_app M _).tr (mc_le_app _ _))
theorem mc_k_sv {ok : Value → Bool} {nL i d : Nat} (h : mc_sv ok nL i d pc L st M = some r) : mc_ok1 M r := by
  unfold mc_sv at h
  repeat' (split at h)
  all_goals first | (cases h; done) | exact mc_go_k h (mc_le_rf M) | exact mc_go_k (mc_n_k h) (mc_le_rf M) | exact mc_k_br h | exact mc_k_jp h | exact mc_go_k (mc_n_k h) (mc_le_app M _) | exact mc_go_k h (mc_le_app M _) | exact mc_go_k (mc_n_k h) ((mc_le_app M _).tr (mc_le_app _ _))
theorem mc_k_svL {nL i d : Nat} (h : mc_svL nL i d pc L st M = some r) : mc_ok1 M r := by
  unfold mc_svL at h
  repeat' (split at h)
  all_goals first | (cases h; done) | exact mc_go_k h (mc_le_rf M) | exact mc_go_k (mc_n_k h) (mc_le_rf M) | exact mc_k_br h | exact mc_k_jp h | exact mc_go_k (mc_n_k h) (mc_le_app M _) | exact mc_go_k h (mc_le_app M _) | exact mc_go_k (mc_n_k h) ((mc_le_app M _).tr (mc_le_app _ _))
theorem mc_k_inc {nL i : Nat} {k : Int} (h : mc_inc nL i k pc L st M = some r) : mc_ok1 M r := by
  unfold mc_inc at h
  repeat' (split at h)
  all_goals first | (cases h; done) | exact mc_go_k h (mc_le_rf M) | exact mc_go_k (mc_n_k h) (mc_le_rf M) | exact mc_k_br h | exact mc_k_jp h | exact mc_go_k (mc_n_k h) (mc_le_app M _) | exact mc_go_k h (mc_le_app M _) | exact mc_go_k (mc_n_k h) ((mc_le_app M _).tr (mc_le_app _ _))
theorem mc_k_ii2 {f : Int32 → Int32 → Option Int32} (h : mc_ii2 f pc L st M = some r) : mc_ok1 M r := by
  unfold mc_ii2 at h
  repeat' (split at h)
  all_goals first | (cases h; done) | exact mc_go_k h (mc_le_rf M) | exact mc_go_k (mc_n_k h) (mc_le_rf M) | exact mc_k_br h | exact mc_k_jp h | exact mc_go_k (mc_n_k h) (mc_le_app M _) | exact mc_go_k h (mc_le_app M _) | exact mc_go_k (mc_n_k h) ((mc_le_app M _).tr (mc_le_app _ _))
theorem mc_k_ll2 {f : Int64 → Int64 → Option Int64} (h : mc_ll2 f pc L st M = some r) : mc_ok1 M r := by
  unfold mc_ll2 at h
  repeat' (split at h)
  all_goals first | (cases h; done) | exact mc_go_k h (mc_le_rf M) | exact mc_go_k (mc_n_k h) (mc_le_rf M) | exact mc_k_br h | exact mc_k_jp h | exact mc_go_k (mc_n_k h) (mc_le_app M _) | exact mc_go_k h (mc_le_app M _) | exact mc_go_k (mc_n_k h) ((mc_le_app M _).tr (mc_le_app _ _))
theorem mc_k_li2 {f : Int64 → Int32 → Int64} (h : mc_li2 f pc L st M = some r) : mc_ok1 M r := by
  unfold mc_li2 at h
  repeat' (split at h)
  all_goals first | (cases h; done) | exact mc_go_k h (mc_le_rf M) | exact mc_go_k (mc_n_k h) (mc_le_rf M) | exact mc_k_br h | exact mc_k_jp h | exact mc_go_k (mc_n_k h) (mc_le_app M _) | exact mc_go_k h (mc_le_app M _) | exact mc_go_k (mc_n_k h) ((mc_le_app M _).tr (mc_le_app _ _))
theorem mc_k_cmp (h : mc_cmp pc L st M = some r) : mc_ok1 M r := by
  unfold mc_cmp at h
  repeat' (split at h)
  all_goals first | (cases h; done) | exact mc_go_k h (mc_le_rf M) | exact mc_go_k (mc_n_k h) (mc_le_rf M) | exact mc_k_br h | exact mc_k_jp h | exact mc_go_k (mc_n_k h) (mc_le_app M _) | exact mc_go_k h (mc_le_app M _) | exact mc_go_k (mc_n_k h) ((mc_le_app M _).tr (mc_le_app _ _))
theorem mc_k_i1 {f : Int32 → Value} (h : mc_i1 f pc L st M = some r) : mc_ok1 M r := by
  unfold mc_i1 at h
  repeat' (split at h)
  all_goals first | (cases h; done) | exact mc_go_k h (mc_le_rf M) | exact mc_go_k (mc_n_k h) (mc_le_rf M) | exact mc_k_br h | exact mc_k_jp h | exact mc_go_k (mc_n_k h) (mc_le_app M _) | exact mc_go_k h (mc_le_app M _) | exact mc_go_k (mc_n_k h) ((mc_le_app M _).tr (mc_le_app _ _))
theorem mc_k_l1 {f : Int64 → Value} (h : mc_l1 f pc L st M = some r) : mc_ok1 M r := by
  unfold mc_l1 at h
  repeat' (split at h)
  all_goals first | (cases h; done) | exact mc_go_k h (mc_le_rf M) | exact mc_go_k (mc_n_k h) (mc_le_rf M) | exact mc_k_br h | exact mc_k_jp h | exact mc_go_k (mc_n_k h) (mc_le_app M _) | exact mc_go_k h (mc_le_app M _) | exact mc_go_k (mc_n_k h) ((mc_le_app M _).tr (mc_le_app _ _))
theorem mc_k_ic2 {f : Int32 → Int32 → Bool} (h : mc_ic2 f pc off L st M = some r) : mc_ok1 M r := by
  unfold mc_ic2 at h
  repeat' (split at h)
  all_goals first | (cases h; done) | exact mc_go_k h (mc_le_rf M) | exact mc_go_k (mc_n_k h) (mc_le_rf M) | exact mc_k_br h | exact mc_k_jp h | exact mc_go_k (mc_n_k h) (mc_le_app M _) | exact mc_go_k h (mc_le_app M _) | exact mc_go_k (mc_n_k h) ((mc_le_app M _).tr (mc_le_app _ _))
theorem mc_k_ic1 {f : Int32 → Bool} (h : mc_ic1 f pc off L st M = some r) : mc_ok1 M r := by
  unfold mc_ic1 at h
  repeat' (split at h)
  all_goals first | (cases h; done) | exact mc_go_k h (mc_le_rf M) | exact mc_go_k (mc_n_k h) (mc_le_rf M) | exact mc_k_br h | exact mc_k_jp h | exact mc_go_k (mc_n_k h) (mc_le_app M _) | exact mc_go_k h (mc_le_app M _) | exact mc_go_k (mc_n_k h) ((mc_le_app M _).tr (mc_le_app _ _))
theorem mc_k_icn {f : Bool} (h : mc_icn f pc off L st M = some r) : mc_ok1 M r := by
  unfold mc_icn at h
  repeat' (split at h)
  all_goals first | (cases h; done) | exact mc_go_k h (mc_le_rf M) | exact mc_go_k (mc_n_k h) (mc_le_rf M) | exact mc_k_br h | exact mc_k_jp h | exact mc_go_k (mc_n_k h) (mc_le_app M _) | exact mc_go_k h (mc_le_app M _) | exact mc_go_k (mc_n_k h) ((mc_le_app M _).tr (mc_le_app _ _))
theorem mc_k_ica {f : Bool} (h : mc_ica f pc off L st M = some r) : mc_ok1 M r := by
  unfold mc_ica at h
  repeat' (split at h)
  all_goals first | (cases h; done) | exact mc_go_k h (mc_le_rf M) | exact mc_go_k (mc_n_k h) (mc_le_rf M) | exact mc_k_br h | exact mc_k_jp h | exact mc_go_k (mc_n_k h) (mc_le_app M _) | exact mc_go_k h (mc_le_app M _) | exact mc_go_k (mc_n_k h) ((mc_le_app M _).tr (mc_le_app _ _))
theorem mc_k_dup (h : mc_dup pc L st M = some r) : mc_ok1 M r := by
  unfold mc_dup at h
  repeat' (split at h)
  all_goals first | (cases h; done) | exact mc_go_k h (mc_le_rf M) | exact mc_go_k (mc_n_k h) (mc_le_rf M) | exact mc_k_br h | exact mc_k_jp h | exact mc_go_k (mc_n_k h) (mc_le_app M _) | exact mc_go_k h (mc_le_app M _) | exact mc_go_k (mc_n_k h) ((mc_le_app M _).tr (mc_le_app _ _))
theorem mc_k_pop (h : mc_pop pc L st M = some r) : mc_ok1 M r := by
  unfold mc_pop at h
  repeat' (split at h)
  all_goals first | (cases h; done) | exact mc_go_k h (mc_le_rf M) | exact mc_go_k (mc_n_k h) (mc_le_rf M) | exact mc_k_br h | exact mc_k_jp h | exact mc_go_k (mc_n_k h) (mc_le_app M _) | exact mc_go_k h (mc_le_app M _) | exact mc_go_k (mc_n_k h) ((mc_le_app M _).tr (mc_le_app _ _))
theorem mc_k_dup2 (h : mc_dup2 pc L st M = some r) : mc_ok1 M r := by
  unfold mc_dup2 at h
  repeat' (split at h)
  all_goals first | (cases h; done) | exact mc_go_k h (mc_le_rf M) | exact mc_go_k (mc_n_k h) (mc_le_rf M) | exact mc_k_br h | exact mc_k_jp h | exact mc_go_k (mc_n_k h) (mc_le_app M _) | exact mc_go_k h (mc_le_app M _) | exact mc_go_k (mc_n_k h) ((mc_le_app M _).tr (mc_le_app _ _))
theorem mc_k_pop2 (h : mc_pop2 pc L st M = some r) : mc_ok1 M r := by
  unfold mc_pop2 at h
  repeat' (split at h)
  all_goals first | (cases h; done) | exact mc_go_k h (mc_le_rf M) | exact mc_go_k (mc_n_k h) (mc_le_rf M) | exact mc_k_br h | exact mc_k_jp h | exact mc_go_k (mc_n_k h) (mc_le_app M _) | exact mc_go_k h (mc_le_app M _) | exact mc_go_k (mc_n_k h) ((mc_le_app M _).tr (mc_le_app _ _))
theorem mc_k_getf {idx : Nat} (h : mc_getf kt own idx pc L st M = some r) : mc_ok1 M r := by
  unfold mc_getf at h
  repeat' (split at h)
  all_goals first | (cases h; done) | exact mc_go_k h (mc_le_rf M) | exact mc_go_k (mc_n_k h) (mc_le_rf M) | exact mc_k_br h | exact mc_k_jp h | exact mc_go_k (mc_n_k h) (mc_le_app M _) | exact mc_go_k h (mc_le_app M _) | exact mc_go_k (mc_n_k h) ((mc_le_app M _).tr (mc_le_app _ _))
theorem mc_k_ald {ok : Nat → Bool} (h : mc_ald kt ok pc L st M = some r) : mc_ok1 M r := by
  unfold mc_ald at h
  repeat' (split at h)
  all_goals first | (cases h; done) | exact mc_go_k h (mc_le_rf M) | exact mc_go_k (mc_n_k h) (mc_le_rf M) | exact mc_k_br h | exact mc_k_jp h | exact mc_go_k (mc_n_k h) (mc_le_app M _) | exact mc_go_k h (mc_le_app M _) | exact mc_go_k (mc_n_k h) ((mc_le_app M _).tr (mc_le_app _ _))
theorem mc_k_len (h : mc_len kt pc L st M = some r) : mc_ok1 M r := by
  unfold mc_len at h
  repeat' (split at h)
  all_goals first | (cases h; done) | exact mc_go_k h (mc_le_rf M) | exact mc_go_k (mc_n_k h) (mc_le_rf M) | exact mc_k_br h | exact mc_k_jp h | exact mc_go_k (mc_n_k h) (mc_le_app M _) | exact mc_go_k h (mc_le_app M _) | exact mc_go_k (mc_n_k h) ((mc_le_app M _).tr (mc_le_app _ _))
theorem mc_k_newa {a : ArrayType} (h : mc_newa a pc L st M = some r) : mc_ok1 M r := by
  unfold mc_newa at h
  repeat' (split at h)
  all_goals first | (cases h; done) | exact mc_go_k h (mc_le_rf M) | exact mc_go_k (mc_n_k h) (mc_le_rf M) | exact mc_k_br h | exact mc_k_jp h | exact mc_go_k (mc_n_k h) (mc_le_app M _) | exact mc_go_k h (mc_le_app M _) | exact mc_go_k (mc_n_k h) ((mc_le_app M _).tr (mc_le_app _ _))
theorem mc_k_anew {idx : Nat} (h : mc_anew own idx pc L st M = some r) : mc_ok1 M r := by
  unfold mc_anew at h
  repeat' (split at h)
  all_goals first | (cases h; done) | exact mc_go_k h (mc_le_rf M) | exact mc_go_k (mc_n_k h) (mc_le_rf M) | exact mc_k_br h | exact mc_k_jp h | exact mc_go_k (mc_n_k h) (mc_le_app M _) | exact mc_go_k h (mc_le_app M _) | exact mc_go_k (mc_n_k h) ((mc_le_app M _).tr (mc_le_app _ _))
theorem mc_k_mna {idx : Nat} (h : mc_mna own idx pc L st M = some r) : mc_ok1 M r := by
  unfold mc_mna at h
  repeat' (split at h)
  all_goals first | (cases h; done) | exact mc_go_k h (mc_le_rf M) | exact mc_go_k (mc_n_k h) (mc_le_rf M) | exact mc_k_br h | exact mc_k_jp h | exact mc_go_k (mc_n_k h) (mc_le_app M _) | exact mc_go_k h (mc_le_app M _) | exact mc_go_k (mc_n_k h) ((mc_le_app M _).tr (mc_le_app _ _))
theorem mc_k_new {idx : Nat} (h : mc_new own idx pc L st M = some r) : mc_ok1 M r := by
  unfold mc_new at h
  repeat' (split at h)
  all_goals first | (cases h; done) | exact mc_go_k h (mc_le_rf M) | exact mc_go_k (mc_n_k h) (mc_le_rf M) | exact mc_k_br h | exact mc_k_jp h | exact mc_go_k (mc_n_k h) (mc_le_app M _) | exact mc_go_k h (mc_le_app M _) | exact mc_go_k (mc_n_k h) ((mc_le_app M _).tr (mc_le_app _ _))
theorem mc_k_gs {idx : Nat} (h : mc_gs own idx pc L st M = some r) : mc_ok1 M r := by
  unfold mc_gs at h
  repeat' (split at h)
  all_goals first | (cases h; done) | exact mc_go_k h (mc_le_rf M) | exact mc_go_k (mc_n_k h) (mc_le_rf M) | exact mc_k_br h | exact mc_k_jp h | exact mc_go_k (mc_n_k h) (mc_le_app M _) | exact mc_go_k h (mc_le_app M _) | exact mc_go_k (mc_n_k h) ((mc_le_app M _).tr (mc_le_app _ _))
theorem mc_k_ldc {idx d : Nat} (h : mc_ldc own idx d pc L st M = some r) : mc_ok1 M r := by
  unfold mc_ldc at h
  repeat' (split at h)
  all_goals first | (cases h; done) | exact mc_go_k h (mc_le_rf M) | exact mc_go_k (mc_n_k h) (mc_le_rf M) | exact mc_k_br h | exact mc_k_jp h | exact mc_go_k (mc_n_k h) (mc_le_app M _) | exact mc_go_k h (mc_le_app M _) | exact mc_go_k (mc_n_k h) ((mc_le_app M _).tr (mc_le_app _ _))
theorem mc_k_ldc2 {idx : Nat} (h : mc_ldc2 own idx pc L st M = some r) : mc_ok1 M r := by
  unfold mc_ldc2 at h
  repeat' (split at h)
  all_goals first | (cases h; done) | exact mc_go_k h (mc_le_rf M) | exact mc_go_k (mc_n_k h) (mc_le_rf M) | exact mc_k_br h | exact mc_k_jp h | exact mc_go_k (mc_n_k h) (mc_le_app M _) | exact mc_go_k h (mc_le_app M _) | exact mc_go_k (mc_n_k h) ((mc_le_app M _).tr (mc_le_app _ _))
theorem mc_k_tsw {dflt lo hi : Int} {offs : Array Int} (h : mc_tsw dflt lo hi offs pc L st M = some r) : mc_ok1 M r := by
  unfold mc_tsw at h
  repeat' (split at h)
  all_goals first | (cases h; done) | exact mc_go_k h (mc_le_rf M) | exact mc_go_k (mc_n_k h) (mc_le_rf M) | exact mc_k_br h | exact mc_k_jp h | exact mc_go_k (mc_n_k h) (mc_le_app M _) | exact mc_go_k h (mc_le_app M _) | exact mc_go_k (mc_n_k h) ((mc_le_app M _).tr (mc_le_app _ _))
theorem mc_k_obj {idx : Nat} (h : mc_obj own idx pc L st M = some r) : mc_ok1 M r := by
  unfold mc_obj at h
  repeat' (split at h)
  all_goals first | (cases h; done) | exact mc_go_k h (mc_le_rf M) | exact mc_go_k (mc_n_k h) (mc_le_rf M) | exact mc_k_br h | exact mc_k_jp h | exact mc_go_k (mc_n_k h) (mc_le_app M _) | exact mc_go_k h (mc_le_app M _) | exact mc_go_k (mc_n_k h) ((mc_le_app M _).tr (mc_le_app _ _))
theorem mc_k_math {idx : Nat} (h : mc_math own idx pc L st M = some r) : mc_ok1 M r := by
  unfold mc_math at h
  repeat' (split at h)
  all_goals first | (cases h; done) | exact mc_go_k h (mc_le_rf M) | exact mc_go_k (mc_n_k h) (mc_le_rf M) | exact mc_k_br h | exact mc_k_jp h | exact mc_go_k (mc_n_k h) (mc_le_app M _) | exact mc_go_k h (mc_le_app M _) | exact mc_go_k (mc_n_k h) ((mc_le_app M _).tr (mc_le_app _ _))
theorem mc_k_prim {idx : Nat} (h : mc_prim own idx pc L st M = some r) : mc_ok1 M r := by
  unfold mc_prim at h
  repeat' (split at h)
  all_goals first | (cases h; done) | exact mc_go_k h (mc_le_rf M) | exact mc_go_k (mc_n_k h) (mc_le_rf M) | exact mc_k_br h | exact mc_k_jp h | exact mc_go_k (mc_n_k h) (mc_le_app M _) | exact mc_go_k h (mc_le_app M _) | exact mc_go_k (mc_n_k h) ((mc_le_app M _).tr (mc_le_app _ _))
theorem mc_k_putf {idx : Nat} (h : mc_putf own ini idx pc L st M = some r) : mc_ok1 M r := by
  unfold mc_putf at h
  split at h
  · split at h
    · split at h
      · next q hq => exact mc_go_k (mc_n_k h) (mc_le_set hq (by simp [mc_es]))
      · cases h
    · cases h
  · cases h
theorem mc_k_ast {ok : Nat → Value → Bool} {w : Nat → Value → Value} (h : mc_ast kt ok w pc L st M = some r) : mc_ok1 M r := by
  unfold mc_ast at h
  split at h
  · split at h
    · next q hq => exact mc_go_k (mc_n_k h) (mc_le_set hq (by simp [mc_es]))
    · cases h
  · cases h
theorem mc_k_cal {call : Nat → List Value → mc_M → Option mc_R} (IHle : ∀ (k : Nat) (as : List Value) (M : mc_M) (w : mc_R), call k as M = some w → mc_le M w.2) {sort idx : Nat} (h : mc_cal call own sort idx pc L st M = some r) : mc_ok1 M r := by
  unfold mc_cal at h
  split at h
  · split at h
    · split at h
      · next w hw => exact mc_go_k (mc_n_k h) (IHle _ _ _ _ hw)
      · cases h
    · cases h
  · cases h
theorem mc_k_ret {ret : Option FieldType} : (mc_ret ret st M = some r → mc_ok1 M r) ∧ (mc_retL ret st M = some r → mc_ok1 M r) ∧ (mc_retA ret st M = some r → mc_ok1 M r) ∧ (mc_retV ret st M = some r → mc_ok1 M r) := by
  refine ⟨fun h => ?_, fun h => ?_, fun h => ?_, fun h => ?_⟩
  · unfold mc_ret at h
    split at h
    · cases h; rfl
    · cases mc_n_k h; rfl
    · cases h
  · unfold mc_retL at h
    split at h
    · cases h; rfl
    · cases h
  · unfold mc_retA at h
    split at h
    · cases mc_n_k h; rfl
    · cases mc_n_k h; rfl
    · cases h
  · unfold mc_retV at h
    split at h
    · cases h; rfl
    · cases h
end MK
set_option maxHeartbeats 4000000 in
theorem mc_step_k {kt : Nat → Option mc_E} {own nL : Nat} {ini : Bool} {ret : Option FieldType} {call : Nat → List Value → mc_M → Option mc_R} (IHle : ∀ (k : Nat) (as : List Value) (M : mc_M) (w : mc_R), call k as M = some w → mc_le M w.2) {x : Instr} {n : Nat} {S0 : mc_S} {r : mc_S ⊕ mc_R} (h : mc_step kt call own nL ini ret x n S0 = some r) : mc_ok1 S0.2.2.2 r := by
  obtain ⟨pc, L, st, M⟩ := S0
  cases x with
  | iconst i =>
    have h7 : mc_n (n == 1) (mc_go (pc + 1) L (.int (Int32.ofInt i) :: st) M) = some r := h
    have h8 := mc_n_k h7
    exact mc_go_k h8 (mc_le_rf M)
  | bipush i =>
    have h7 : mc_n (n == 2) (mc_go (pc + 2) L (.int (Int8.ofInt i).toInt32 :: st) M) = some r := h
    have h8 := mc_n_k h7
    exact mc_go_k h8 (mc_le_rf M)
  | sipush i =>
    have h7 : mc_n (n == 3) (mc_go (pc + 3) L (.int (Int16.ofInt i).toInt32 :: st) M) = some r := h
    have h8 := mc_n_k h7
    exact mc_go_k h8 (mc_le_rf M)
  | lconst i =>
    have h7 : mc_n (n == 1) (mc_go (pc + 1) L (.long (Int64.ofNat (i : Nat)) :: st) M) = some r := h
    have h8 := mc_n_k h7
    exact mc_go_k h8 (mc_le_rf M)
  | aconst_null  =>
    have h7 : mc_n (n == 1) (mc_go (pc + 1) L (.null :: st) M) = some r := h
    have h8 := mc_n_k h7
    exact mc_go_k h8 (mc_le_rf M)
  | iload_n i =>
    have h7 : mc_n (n == 1) (mc_ld mc_isI (i : Nat) 1 pc L st M) = some r := h
    have h8 := mc_n_k h7
    exact mc_k_ld h8
  | iload i =>
    have h7 : mc_n (n == 2) (mc_ld mc_isI i 2 pc L st M) = some r := h
    have h8 := mc_n_k h7
    exact mc_k_ld h8
  | lload_n i =>
    have h7 : mc_n (n == 1) (mc_ld mc_isL (i : Nat) 1 pc L st M) = some r := h
    have h8 := mc_n_k h7
    exact mc_k_ld h8
  | lload i =>
    have h7 : mc_n (n == 2) (mc_ld mc_isL i 2 pc L st M) = some r := h
    have h8 := mc_n_k h7
    exact mc_k_ld h8
  | aload_n i =>
    have h7 : mc_n (n == 1) (mc_ld mc_isA (i : Nat) 1 pc L st M) = some r := h
    have h8 := mc_n_k h7
    exact mc_k_ld h8
  | aload i =>
    have h7 : mc_n (n == 2) (mc_ld mc_isA i 2 pc L st M) = some r := h
    have h8 := mc_n_k h7
    exact mc_k_ld h8
  | istore_n i =>
    have h7 : mc_n (n == 1) (mc_sv mc_isI nL (i : Nat) 1 pc L st M) = some r := h
    have h8 := mc_n_k h7
    exact mc_k_sv h8
  | istore i =>
    have h7 : mc_n (n == 2) (mc_sv mc_isI nL i 2 pc L st M) = some r := h
    have h8 := mc_n_k h7
    exact mc_k_sv h8
  | astore_n i =>
    have h7 : mc_n (n == 1) (mc_sv mc_isA nL (i : Nat) 1 pc L st M) = some r := h
    have h8 := mc_n_k h7
    exact mc_k_sv h8
  | astore i =>
    have h7 : mc_n (n == 2) (mc_sv mc_isA nL i 2 pc L st M) = some r := h
    have h8 := mc_n_k h7
    exact mc_k_sv h8
  | lstore_n i =>
    have h7 : mc_n (n == 1) (mc_svL nL (i : Nat) 1 pc L st M) = some r := h
    have h8 := mc_n_k h7
    exact mc_k_svL h8
  | lstore i =>
    have h7 : mc_n (n == 2) (mc_svL nL i 2 pc L st M) = some r := h
    have h8 := mc_n_k h7
    exact mc_k_svL h8
  | iinc i k =>
    have h7 : mc_n (n == 3) (mc_inc nL i k pc L st M) = some r := h
    have h8 := mc_n_k h7
    exact mc_k_inc h8
  | iadd  =>
    have h7 : mc_n (n == 1) (mc_ii2 (fun x y => some (x + y)) pc L st M) = some r := h
    have h8 := mc_n_k h7
    exact mc_k_ii2 h8
  | isub  =>
    have h7 : mc_n (n == 1) (mc_ii2 (fun x y => some (x - y)) pc L st M) = some r := h
    have h8 := mc_n_k h7
    exact mc_k_ii2 h8
  | imul  =>
    have h7 : mc_n (n == 1) (mc_ii2 (fun x y => some (x * y)) pc L st M) = some r := h
    have h8 := mc_n_k h7
    exact mc_k_ii2 h8
  | iand  =>
    have h7 : mc_n (n == 1) (mc_ii2 (fun x y => some (x &&& y)) pc L st M) = some r := h
    have h8 := mc_n_k h7
    exact mc_k_ii2 h8
  | ior  =>
    have h7 : mc_n (n == 1) (mc_ii2 (fun x y => some (x ||| y)) pc L st M) = some r := h
    have h8 := mc_n_k h7
    exact mc_k_ii2 h8
  | ixor  =>
    have h7 : mc_n (n == 1) (mc_ii2 (fun x y => some (x ^^^ y)) pc L st M) = some r := h
    have h8 := mc_n_k h7
    exact mc_k_ii2 h8
  | ishl  =>
    have h7 : mc_n (n == 1) (mc_ii2 (fun x y => some (x <<< (y &&& 31))) pc L st M) = some r := h
    have h8 := mc_n_k h7
    exact mc_k_ii2 h8
  | ishr  =>
    have h7 : mc_n (n == 1) (mc_ii2 (fun x y => some (x >>> (y &&& 31))) pc L st M) = some r := h
    have h8 := mc_n_k h7
    exact mc_k_ii2 h8
  | iushr  =>
    have h7 : mc_n (n == 1) (mc_ii2 (fun x y => some (x.toUInt32 >>> (y.toUInt32 &&& Int32.toUInt32 31)).toInt32) pc L st M) = some r := h
    have h8 := mc_n_k h7
    exact mc_k_ii2 h8
  | idiv  =>
    have h7 : mc_n (n == 1) (mc_ii2 (fun x y => if y = 0 then none else some (x / y)) pc L st M) = some r := h
    have h8 := mc_n_k h7
    exact mc_k_ii2 h8
  | irem  =>
    have h7 : mc_n (n == 1) (mc_ii2 (fun x y => if y = 0 then none else some (x - x / y * y)) pc L st M) = some r := h
    have h8 := mc_n_k h7
    exact mc_k_ii2 h8
  | ladd  =>
    have h7 : mc_n (n == 1) (mc_ll2 (fun x y => some (x + y)) pc L st M) = some r := h
    have h8 := mc_n_k h7
    exact mc_k_ll2 h8
  | lsub  =>
    have h7 : mc_n (n == 1) (mc_ll2 (fun x y => some (x - y)) pc L st M) = some r := h
    have h8 := mc_n_k h7
    exact mc_k_ll2 h8
  | lmul  =>
    have h7 : mc_n (n == 1) (mc_ll2 (fun x y => some (x * y)) pc L st M) = some r := h
    have h8 := mc_n_k h7
    exact mc_k_ll2 h8
  | land  =>
    have h7 : mc_n (n == 1) (mc_ll2 (fun x y => some (x &&& y)) pc L st M) = some r := h
    have h8 := mc_n_k h7
    exact mc_k_ll2 h8
  | lor  =>
    have h7 : mc_n (n == 1) (mc_ll2 (fun x y => some (x ||| y)) pc L st M) = some r := h
    have h8 := mc_n_k h7
    exact mc_k_ll2 h8
  | ldiv  =>
    have h7 : mc_n (n == 1) (mc_ll2 (fun x y => if y = 0 then none else some (x / y)) pc L st M) = some r := h
    have h8 := mc_n_k h7
    exact mc_k_ll2 h8
  | lrem  =>
    have h7 : mc_n (n == 1) (mc_ll2 (fun x y => if y = 0 then none else some (x - x / y * y)) pc L st M) = some r := h
    have h8 := mc_n_k h7
    exact mc_k_ll2 h8
  | lshl  =>
    have h7 : mc_n (n == 1) (mc_li2 (fun x y => x <<< (y.toInt64 &&& 63)) pc L st M) = some r := h
    have h8 := mc_n_k h7
    exact mc_k_li2 h8
  | lshr  =>
    have h7 : mc_n (n == 1) (mc_li2 (fun x y => x >>> (y.toInt64 &&& 63)) pc L st M) = some r := h
    have h8 := mc_n_k h7
    exact mc_k_li2 h8
  | lcmp  =>
    have h7 : mc_n (n == 1) (mc_cmp pc L st M) = some r := h
    have h8 := mc_n_k h7
    exact mc_k_cmp h8
  | ineg  =>
    have h7 : mc_n (n == 1) (mc_i1 (fun x => .int (-x)) pc L st M) = some r := h
    have h8 := mc_n_k h7
    exact mc_k_i1 h8
  | i2l  =>
    have h7 : mc_n (n == 1) (mc_i1 (fun x => .long x.toInt64) pc L st M) = some r := h
    have h8 := mc_n_k h7
    exact mc_k_i1 h8
  | i2b  =>
    have h7 : mc_n (n == 1) (mc_i1 (fun x => .int x.toInt8.toInt32) pc L st M) = some r := h
    have h8 := mc_n_k h7
    exact mc_k_i1 h8
  | l2i  =>
    have h7 : mc_n (n == 1) (mc_l1 (fun x => .int x.toInt32) pc L st M) = some r := h
    have h8 := mc_n_k h7
    exact mc_k_l1 h8
  | if_icmp cond off =>
    cases cond with
    | eq =>
      have h7 : mc_n (n == 3) (mc_ic2 (fun x y => decide (x = y)) pc off L st M) = some r := h
      have h8 := mc_n_k h7
      exact mc_k_ic2 h8
    | ne =>
      have h7 : mc_n (n == 3) (mc_ic2 (fun x y => decide (¬ x = y)) pc off L st M) = some r := h
      have h8 := mc_n_k h7
      exact mc_k_ic2 h8
    | lt =>
      have h7 : mc_n (n == 3) (mc_ic2 (fun x y => decide (x < y)) pc off L st M) = some r := h
      have h8 := mc_n_k h7
      exact mc_k_ic2 h8
    | ge =>
      have h7 : mc_n (n == 3) (mc_ic2 (fun x y => decide (y ≤ x)) pc off L st M) = some r := h
      have h8 := mc_n_k h7
      exact mc_k_ic2 h8
    | gt =>
      have h7 : mc_n (n == 3) (mc_ic2 (fun x y => decide (y < x)) pc off L st M) = some r := h
      have h8 := mc_n_k h7
      exact mc_k_ic2 h8
    | le =>
      have h7 : mc_n (n == 3) (mc_ic2 (fun x y => decide (x ≤ y)) pc off L st M) = some r := h
      have h8 := mc_n_k h7
      exact mc_k_ic2 h8
  | ifCond cond off =>
    cases cond with
    | eq =>
      have h7 : mc_n (n == 3) (mc_ic1 (fun x => decide (x = 0)) pc off L st M) = some r := h
      have h8 := mc_n_k h7
      exact mc_k_ic1 h8
    | ne =>
      have h7 : mc_n (n == 3) (mc_ic1 (fun x => decide (¬ x = 0)) pc off L st M) = some r := h
      have h8 := mc_n_k h7
      exact mc_k_ic1 h8
    | lt =>
      have h7 : mc_n (n == 3) (mc_ic1 (fun x => decide (x < 0)) pc off L st M) = some r := h
      have h8 := mc_n_k h7
      exact mc_k_ic1 h8
    | ge =>
      have h7 : mc_n (n == 3) (mc_ic1 (fun x => decide (0 ≤ x)) pc off L st M) = some r := h
      have h8 := mc_n_k h7
      exact mc_k_ic1 h8
    | gt =>
      have h7 : mc_n (n == 3) (mc_ic1 (fun x => decide (0 < x)) pc off L st M) = some r := h
      have h8 := mc_n_k h7
      exact mc_k_ic1 h8
    | le =>
      have h7 : mc_n (n == 3) (mc_ic1 (fun x => decide (x ≤ 0)) pc off L st M) = some r := h
      have h8 := mc_n_k h7
      exact mc_k_ic1 h8
  | ifnull off =>
    have h7 : mc_n (n == 3) (mc_icn true pc off L st M) = some r := h
    have h8 := mc_n_k h7
    exact mc_k_icn h8
  | ifnonnull off =>
    have h7 : mc_n (n == 3) (mc_icn false pc off L st M) = some r := h
    have h8 := mc_n_k h7
    exact mc_k_icn h8
  | if_acmp cond off =>
    cases cond with
    | eq =>
      have h7 : mc_n (n == 3) (mc_ica true pc off L st M) = some r := h
      have h8 := mc_n_k h7
      exact mc_k_ica h8
    | ne =>
      have h7 : mc_n (n == 3) (mc_ica false pc off L st M) = some r := h
      have h8 := mc_n_k h7
      exact mc_k_ica h8
  | goto off =>
    have h7 : mc_n (n == 3) (mc_jp pc off L st M) = some r := h
    have h8 := mc_n_k h7
    exact mc_k_jp h8
  | dup  =>
    have h7 : mc_n (n == 1) (mc_dup pc L st M) = some r := h
    have h8 := mc_n_k h7
    exact mc_k_dup h8
  | pop  =>
    have h7 : mc_n (n == 1) (mc_pop pc L st M) = some r := h
    have h8 := mc_n_k h7
    exact mc_k_pop h8
  | dup2  =>
    have h7 : mc_n (n == 1) (mc_dup2 pc L st M) = some r := h
    have h8 := mc_n_k h7
    exact mc_k_dup2 h8
  | pop2  =>
    have h7 : mc_n (n == 1) (mc_pop2 pc L st M) = some r := h
    have h8 := mc_n_k h7
    exact mc_k_pop2 h8
  | getfield i =>
    have h7 : mc_n (n == 3) (mc_getf kt own i pc L st M) = some r := h
    have h8 := mc_n_k h7
    exact mc_k_getf h8
  | putfield i =>
    have h7 : mc_n (n == 3) (mc_putf own ini i pc L st M) = some r := h
    have h8 := mc_n_k h7
    exact mc_k_putf h8
  | iaload  =>
    have h7 : mc_n (n == 1) (mc_ald kt (fun t => t == 0) pc L st M) = some r := h
    have h8 := mc_n_k h7
    exact mc_k_ald h8
  | laload  =>
    have h7 : mc_n (n == 1) (mc_ald kt (fun t => t == 1) pc L st M) = some r := h
    have h8 := mc_n_k h7
    exact mc_k_ald h8
  | baload  =>
    have h7 : mc_n (n == 1) (mc_ald kt (fun t => t == 2 || t == 3) pc L st M) = some r := h
    have h8 := mc_n_k h7
    exact mc_k_ald h8
  | aaload  =>
    have h7 : mc_n (n == 1) (mc_ald kt (fun t => decide (4 ≤ t)) pc L st M) = some r := h
    have h8 := mc_n_k h7
    exact mc_k_ald h8
  | iastore  =>
    have h7 : mc_n (n == 1) (mc_ast kt (fun t v => t == 0 && mc_isI v) (fun _ v => v) pc L st M) = some r := h
    have h8 := mc_n_k h7
    exact mc_k_ast h8
  | lastore  =>
    have h7 : mc_n (n == 1) (mc_ast kt (fun t v => t == 1 && mc_isL v) (fun _ v => v) pc L st M) = some r := h
    have h8 := mc_n_k h7
    exact mc_k_ast h8
  | bastore  =>
    have h7 : mc_n (n == 1) (mc_ast kt (fun t v => (t == 2 || t == 3) && mc_isI v) (fun t v => narrow (mc_ty t) v) pc L st M) = some r := h
    have h8 := mc_n_k h7
    exact mc_k_ast h8
  | aastore  =>
    have h7 : mc_n (n == 1) (mc_ast kt (mc_isP M) (fun _ v => v) pc L st M) = some r := h
    have h8 := mc_n_k h7
    exact mc_k_ast h8
  | arraylength  =>
    have h7 : mc_n (n == 1) (mc_len kt pc L st M) = some r := h
    have h8 := mc_n_k h7
    exact mc_k_len h8
  | newarray a =>
    have h7 : mc_n (n == 2) (mc_newa a pc L st M) = some r := h
    have h8 := mc_n_k h7
    exact mc_k_newa h8
  | anewarray i =>
    have h7 : mc_n (n == 3) (mc_anew own i pc L st M) = some r := h
    have h8 := mc_n_k h7
    exact mc_k_anew h8
  | multianewarray i j =>
    match j, h with
    | 2, h =>
      have h7 : mc_n (n == 4) (mc_mna own i pc L st M) = some r := h
      have h8 := mc_n_k h7
      exact mc_k_mna h8
    | 0, h => cases h
    | 1, h => cases h
    | j + 3, h => cases h
  | new i =>
    have h7 : mc_n (n == 3) (mc_new own i pc L st M) = some r := h
    have h8 := mc_n_k h7
    exact mc_k_new h8
  | getstatic i =>
    have h7 : mc_n (n == 3) (mc_gs own i pc L st M) = some r := h
    have h8 := mc_n_k h7
    exact mc_k_gs h8
  | ldc i =>
    have h7 : mc_n (n == 2) (mc_ldc own i 2 pc L st M) = some r := h
    have h8 := mc_n_k h7
    exact mc_k_ldc h8
  | ldc_w i =>
    have h7 : mc_n (n == 3) (mc_ldc own i 3 pc L st M) = some r := h
    have h8 := mc_n_k h7
    exact mc_k_ldc h8
  | ldc2_w i =>
    have h7 : mc_n (n == 3) (mc_ldc2 own i pc L st M) = some r := h
    have h8 := mc_n_k h7
    exact mc_k_ldc2 h8
  | tableswitch d lo hi offs =>
    have h8 : mc_tsw d lo hi offs pc L st M = some r := h
    exact mc_k_tsw h8
  | invokevirtual i =>
    have h7 : mc_n (n == 3) (mc_or (mc_cal call own 1 i pc L st M) (mc_prim own i pc L st M)) = some r := h
    have h8 := mc_n_k h7
    exact (mc_or_t h8).elim (fun h => mc_k_cal IHle h) (fun h => mc_k_prim h)
  | invokestatic i =>
    have h7 : mc_n (n == 3) (mc_or (mc_cal call own 0 i pc L st M) (mc_math own i pc L st M)) = some r := h
    have h8 := mc_n_k h7
    exact (mc_or_t h8).elim (fun h => mc_k_cal IHle h) (fun h => mc_k_math h)
  | invokespecial i =>
    have h7 : mc_n (n == 3) (mc_or (mc_cal call own 2 i pc L st M) (mc_obj own i pc L st M)) = some r := h
    have h8 := mc_n_k h7
    exact (mc_or_t h8).elim (fun h => mc_k_cal IHle h) (fun h => mc_k_obj h)
  | ireturn  =>
    have h7 : mc_n (n == 1) (mc_ret ret st M) = some r := h
    have h8 := mc_n_k h7
    exact mc_k_ret.1 h8
  | lreturn  =>
    have h7 : mc_n (n == 1) (mc_retL ret st M) = some r := h
    have h8 := mc_n_k h7
    exact mc_k_ret.2.1 h8
  | areturn  =>
    have h7 : mc_n (n == 1) (mc_retA ret st M) = some r := h
    have h8 := mc_n_k h7
    exact mc_k_ret.2.2.1 h8
  | return_  =>
    have h7 : mc_n (n == 1) (mc_retV ret st M) = some r := h
    have h8 := mc_n_k h7
    exact mc_k_ret.2.2.2 h8
  | _ => cases h
theorem mc_loop_le {kt : Nat → Option mc_E} {own nL : Nat} {ini : Bool} {ret : Option FieldType} {cc : ByteArray} {call : Nat → List Value → mc_M → Option mc_R} (IHle : ∀ (k : Nat) (as : List Value) (M : mc_M) (w : mc_R), call k as M = some w → mc_le M w.2) : ∀ (n : Nat) (S : mc_S) (w : mc_R), mc_loop kt call own nL ini ret cc n S = some w → mc_le S.2.2.2 w.2
  | 0, _, _, h => by cases h
  | n + 1, S, w, h => by
    unfold mc_loop at h
    split at h
    · next x k hd =>
      split at h
      · next S1 hs => exact mc_le.tr (mc_step_k IHle hs) (mc_loop_le IHle n S1 w h)
      · next w' hs =>
        cases h
        have h1 : w.2 = S.2.2.2 := mc_step_k IHle hs
        rw [h1]
        exact mc_le_rf _
      · cases h
    · cases h
theorem mc_call_le {kt : Nat → Option mc_E} {F : Nat} : ∀ (d k : Nat) (as : List Value) (M : mc_M) (w : mc_R), mc_call kt F d k as M = some w → mc_le M w.2
  | 0, _, _, _, _, h => by cases h
  | d + 1, k, as, M, w, h => by
    unfold mc_call at h
    split at h
    · split at h
      · exact mc_loop_le (mc_call_le d) F _ w h
      · cases h
    · cases h
theorem mc_notr {M : mc_M} {r : mc_S ⊕ mc_R} {w : mc_R} {pc : Nat} {L : List (Nat × Value)} {st : List Value} : mc_go pc L st M = some (.inr w) → False := fun h => by
  unfold mc_go at h
  cases h
theorem mc_z_jp {pc : Nat} {L : List (Nat × Value)} {st : List Value} {M : mc_M} {w : mc_R} {off : Int} (h : mc_jp pc off L st M = some (.inr w)) : False := by
  unfold mc_jp at h
  repeat' (split at h)
  all_goals first | (cases h; done) | (unfold mc_go at h; cases h; done) | (have h9 := mc_n_k h; unfold mc_go at h9; cases h9; done) | exact mc_z_br h | exact mc_z_jp h
theorem mc_z_br {pc : Nat} {L : List (Nat × Value)} {st : List Value} {M : mc_M} {w : mc_R} {off : Int} {b : Bool} (h : mc_br b pc off L st M = some (.inr w)) : False := by
  unfold mc_br at h
  repeat' (split at h)
  all_goals first | (cases h; done) | (unfold mc_go at h; cases h; done) | (have h9 := mc_n_k h; unfold mc_go at h9; cases h9; done) | exact mc_z_br h | exact mc_z_jp h
theorem mc_z_ld {pc : Nat} {L : List (Nat × Value)} {st : List Value} {M : mc_M} {w : mc_R} {ok : Value → Bool} {i d : Nat} (h : mc_ld ok i d pc L st M = some (.inr w)) : False := by
  unfold mc_ld at h
  repeat' (split at h)
  all_goals first | (cases h; done) | (unfold mc_go at h; cases h; done) | (have h9 := mc_n_k h; unfold mc_go at h9; cases h9; done) | exact mc_z_br h | exact mc_z_jp h
theorem mc_z_sv {pc : Nat} {L : List (Nat × Value)} {st : List Value} {M : mc_M} {w : mc_R} {ok : Value → Bool} {nL i d : Nat} (h : mc_sv ok nL i d pc L st M = some (.inr w)) : False := by
  unfold mc_sv at h
  repeat' (split at h)
  all_goals first | (cases h; done) | (unfold mc_go at h; cases h; done) | (have h9 := mc_n_k h; unfold mc_go at h9; cases h9; done) | exact mc_z_br h | exact mc_z_jp h
theorem mc_z_svL {pc : Nat} {L : List (Nat × Value)} {st : List Value} {M : mc_M} {w : mc_R} {nL i d : Nat} (h : mc_svL nL i d pc L st M = some (.inr w)) : False := by
  unfold mc_svL at h
  repeat' (split at h)
  all_goals first | (cases h; done) | (unfold mc_go at h; cases h; done) | (have h9 := mc_n_k h; unfold mc_go at h9; cases h9; done) | exact mc_z_br h | exact mc_z_jp h
theorem mc_z_inc {pc : Nat} {L : List (Nat × Value)} {st : List Value} {M : mc_M} {w : mc_R} {nL i : Nat} {k : Int} (h : mc_inc nL i k pc L st M = some (.inr w)) : False := by
  unfold mc_inc at h
  repeat' (split at h)
  all_goals first | (cases h; done) | (unfold mc_go at h; cases h; done) | (have h9 := mc_n_k h; unfold mc_go at h9; cases h9; done) | exact mc_z_br h | exact mc_z_jp h
theorem mc_z_ii2 {pc : Nat} {L : List (Nat × Value)} {st : List Value} {M : mc_M} {w : mc_R} {f : Int32 → Int32 → Option Int32} (h : mc_ii2 f pc L st M = some (.inr w)) : False := by
  unfold mc_ii2 at h
  repeat' (split at h)
  all_goals first | (cases h; done) | (unfold mc_go at h; cases h; done) | (have h9 := mc_n_k h; unfold mc_go at h9; cases h9; done) | exact mc_z_br h | exact mc_z_jp h
theorem mc_z_ll2 {pc : Nat} {L : List (Nat × Value)} {st : List Value} {M : mc_M} {w : mc_R} {f : Int64 → Int64 → Option Int64} (h : mc_ll2 f pc L st M = some (.inr w)) : False := by
  unfold mc_ll2 at h
  repeat' (split at h)
  all_goals first | (cases h; done) | (unfold mc_go at h; cases h; done) | (have h9 := mc_n_k h; unfold mc_go at h9; cases h9; done) | exact mc_z_br h | exact mc_z_jp h
theorem mc_z_li2 {pc : Nat} {L : List (Nat × Value)} {st : List Value} {M : mc_M} {w : mc_R} {f : Int64 → Int32 → Int64} (h : mc_li2 f pc L st M = some (.inr w)) : False := by
  unfold mc_li2 at h
  repeat' (split at h)
  all_goals first | (cases h; done) | (unfold mc_go at h; cases h; done) | (have h9 := mc_n_k h; unfold mc_go at h9; cases h9; done) | exact mc_z_br h | exact mc_z_jp h
theorem mc_z_cmp {pc : Nat} {L : List (Nat × Value)} {st : List Value} {M : mc_M} {w : mc_R} (h : mc_cmp pc L st M = some (.inr w)) : False := by
  unfold mc_cmp at h
  repeat' (split at h)
  all_goals first | (cases h; done) | (unfold mc_go at h; cases h; done) | (have h9 := mc_n_k h; unfold mc_go at h9; cases h9; done) | exact mc_z_br h | exact mc_z_jp h
theorem mc_z_i1 {pc : Nat} {L : List (Nat × Value)} {st : List Value} {M : mc_M} {w : mc_R} {f : Int32 → Value} (h : mc_i1 f pc L st M = some (.inr w)) : False := by
  unfold mc_i1 at h
  repeat' (split at h)
  all_goals first | (cases h; done) | (unfold mc_go at h; cases h; done) | (have h9 := mc_n_k h; unfold mc_go at h9; cases h9; done) | exact mc_z_br h | exact mc_z_jp h
theorem mc_z_l1 {pc : Nat} {L : List (Nat × Value)} {st : List Value} {M : mc_M} {w : mc_R} {f : Int64 → Value} (h : mc_l1 f pc L st M = some (.inr w)) : False := by
  unfold mc_l1 at h
  repeat' (split at h)
  all_goals first | (cases h; done) | (unfold mc_go at h; cases h; done) | (have h9 := mc_n_k h; unfold mc_go at h9; cases h9; done) | exact mc_z_br h | exact mc_z_jp h
theorem mc_z_ic2 {pc : Nat} {L : List (Nat × Value)} {st : List Value} {M : mc_M} {w : mc_R} {off : Int} {f : Int32 → Int32 → Bool} (h : mc_ic2 f pc off L st M = some (.inr w)) : False := by
  unfold mc_ic2 at h
  repeat' (split at h)
  all_goals first | (cases h; done) | (unfold mc_go at h; cases h; done) | (have h9 := mc_n_k h; unfold mc_go at h9; cases h9; done) | exact mc_z_br h | exact mc_z_jp h
theorem mc_z_ic1 {pc : Nat} {L : List (Nat × Value)} {st : List Value} {M : mc_M} {w : mc_R} {off : Int} {f : Int32 → Bool} (h : mc_ic1 f pc off L st M = some (.inr w)) : False := by
  unfold mc_ic1 at h
  repeat' (split at h)
  all_goals first | (cases h; done) | (unfold mc_go at h; cases h; done) | (have h9 := mc_n_k h; unfold mc_go at h9; cases h9; done) | exact mc_z_br h | exact mc_z_jp h
theorem mc_z_icn {pc : Nat} {L : List (Nat × Value)} {st : List Value} {M : mc_M} {w : mc_R} {off : Int} {f : Bool} (h : mc_icn f pc off L st M = some (.inr w)) : False := by
  unfold mc_icn at h
  repeat' (split at h)
  all_goals first | (cases h; done) | (unfold mc_go at h; cases h; done) | (have h9 := mc_n_k h; unfold mc_go at h9; cases h9; done) | exact mc_z_br h | exact mc_z_jp h
theorem mc_z_ica {pc : Nat} {L : List (Nat × Value)} {st : List Value} {M : mc_M} {w : mc_R} {off : Int} {f : Bool} (h : mc_ica f pc off L st M = some (.inr w)) : False := by
  unfold mc_ica at h
  repeat' (split at h)
  all_goals first | (cases h; done) | (unfold mc_go at h; cases h; done) | (have h9 := mc_n_k h; unfold mc_go at h9; cases h9; done) | exact mc_z_br h | exact mc_z_jp h
theorem mc_z_dup {pc : Nat} {L : List (Nat × Value)} {st : List Value} {M : mc_M} {w : mc_R} (h : mc_dup pc L st M = some (.inr w)) : False := by
  unfold mc_dup at h
  repeat' (split at h)
  all_goals first | (cases h; done) | (unfold mc_go at h; cases h; done) | (have h9 := mc_n_k h; unfold mc_go at h9; cases h9; done) | exact mc_z_br h | exact mc_z_jp h
theorem mc_z_pop {pc : Nat} {L : List (Nat × Value)} {st : List Value} {M : mc_M} {w : mc_R} (h : mc_pop pc L st M = some (.inr w)) : False := by
  unfold mc_pop at h
  repeat' (split at h)
  all_goals first | (cases h; done) | (unfold mc_go at h; cases h; done) | (have h9 := mc_n_k h; unfold mc_go at h9; cases h9; done) | exact mc_z_br h | exact mc_z_jp h
theorem mc_z_dup2 {pc : Nat} {L : List (Nat × Value)} {st : List Value} {M : mc_M} {w : mc_R} (h : mc_dup2 pc L st M = some (.inr w)) : False := by
  unfold mc_dup2 at h
  repeat' (split at h)
  all_goals first | (cases h; done) | (unfold mc_go at h; cases h; done) | (have h9 := mc_n_k h; unfold mc_go at h9; cases h9; done) | exact mc_z_br h | exact mc_z_jp h
theorem mc_z_pop2 {pc : Nat} {L : List (Nat × Value)} {st : List Value} {M : mc_M} {w : mc_R} (h : mc_pop2 pc L st M = some (.inr w)) : False := by
  unfold mc_pop2 at h
  repeat' (split at h)
  all_goals first | (cases h; done) | (unfold mc_go at h; cases h; done) | (have h9 := mc_n_k h; unfold mc_go at h9; cases h9; done) | exact mc_z_br h | exact mc_z_jp h
theorem mc_z_getf {pc : Nat} {L : List (Nat × Value)} {st : List Value} {M : mc_M} {w : mc_R} {kt : Nat → Option mc_E} {own : Nat} {idx : Nat} (h : mc_getf kt own idx pc L st M = some (.inr w)) : False := by
  unfold mc_getf at h
  repeat' (split at h)
  all_goals first | (cases h; done) | (unfold mc_go at h; cases h; done) | (have h9 := mc_n_k h; unfold mc_go at h9; cases h9; done) | exact mc_z_br h | exact mc_z_jp h
theorem mc_z_putf {pc : Nat} {L : List (Nat × Value)} {st : List Value} {M : mc_M} {w : mc_R} {own : Nat} {ini : Bool} {idx : Nat} (h : mc_putf own ini idx pc L st M = some (.inr w)) : False := by
  unfold mc_putf at h
  repeat' (split at h)
  all_goals first | (cases h; done) | (unfold mc_go at h; cases h; done) | (have h9 := mc_n_k h; unfold mc_go at h9; cases h9; done) | exact mc_z_br h | exact mc_z_jp h
theorem mc_z_ald {pc : Nat} {L : List (Nat × Value)} {st : List Value} {M : mc_M} {w : mc_R} {kt : Nat → Option mc_E} {ok : Nat → Bool} (h : mc_ald kt ok pc L st M = some (.inr w)) : False := by
  unfold mc_ald at h
  repeat' (split at h)
  all_goals first | (cases h; done) | (unfold mc_go at h; cases h; done) | (have h9 := mc_n_k h; unfold mc_go at h9; cases h9; done) | exact mc_z_br h | exact mc_z_jp h
theorem mc_z_ast {pc : Nat} {L : List (Nat × Value)} {st : List Value} {M : mc_M} {w : mc_R} {kt : Nat → Option mc_E} {ok : Nat → Value → Bool} {w9 : Nat → Value → Value} (h : mc_ast kt ok w9 pc L st M = some (.inr w)) : False := by
  unfold mc_ast at h
  repeat' (split at h)
  all_goals first | (cases h; done) | (unfold mc_go at h; cases h; done) | (have h9 := mc_n_k h; unfold mc_go at h9; cases h9; done) | exact mc_z_br h | exact mc_z_jp h
theorem mc_z_len {pc : Nat} {L : List (Nat × Value)} {st : List Value} {M : mc_M} {w : mc_R} {kt : Nat → Option mc_E} (h : mc_len kt pc L st M = some (.inr w)) : False := by
  unfold mc_len at h
  repeat' (split at h)
  all_goals first | (cases h; done) | (unfold mc_go at h; cases h; done) | (have h9 := mc_n_k h; unfold mc_go at h9; cases h9; done) | exact mc_z_br h | exact mc_z_jp h
theorem mc_z_newa {pc : Nat} {L : List (Nat × Value)} {st : List Value} {M : mc_M} {w : mc_R} {a : ArrayType} (h : mc_newa a pc L st M = some (.inr w)) : False := by
  unfold mc_newa at h
  repeat' (split at h)
  all_goals first | (cases h; done) | (unfold mc_go at h; cases h; done) | (have h9 := mc_n_k h; unfold mc_go at h9; cases h9; done) | exact mc_z_br h | exact mc_z_jp h
theorem mc_z_anew {pc : Nat} {L : List (Nat × Value)} {st : List Value} {M : mc_M} {w : mc_R} {own : Nat} {idx : Nat} (h : mc_anew own idx pc L st M = some (.inr w)) : False := by
  unfold mc_anew at h
  repeat' (split at h)
  all_goals first | (cases h; done) | (unfold mc_go at h; cases h; done) | (have h9 := mc_n_k h; unfold mc_go at h9; cases h9; done) | exact mc_z_br h | exact mc_z_jp h
theorem mc_z_mna {pc : Nat} {L : List (Nat × Value)} {st : List Value} {M : mc_M} {w : mc_R} {own : Nat} {idx : Nat} (h : mc_mna own idx pc L st M = some (.inr w)) : False := by
  unfold mc_mna at h
  repeat' (split at h)
  all_goals first | (cases h; done) | (unfold mc_go at h; cases h; done) | (have h9 := mc_n_k h; unfold mc_go at h9; cases h9; done) | exact mc_z_br h | exact mc_z_jp h
theorem mc_z_new {pc : Nat} {L : List (Nat × Value)} {st : List Value} {M : mc_M} {w : mc_R} {own : Nat} {idx : Nat} (h : mc_new own idx pc L st M = some (.inr w)) : False := by
  unfold mc_new at h
  repeat' (split at h)
  all_goals first | (cases h; done) | (unfold mc_go at h; cases h; done) | (have h9 := mc_n_k h; unfold mc_go at h9; cases h9; done) | exact mc_z_br h | exact mc_z_jp h
theorem mc_z_gs {pc : Nat} {L : List (Nat × Value)} {st : List Value} {M : mc_M} {w : mc_R} {own : Nat} {idx : Nat} (h : mc_gs own idx pc L st M = some (.inr w)) : False := by
  unfold mc_gs at h
  repeat' (split at h)
  all_goals first | (cases h; done) | (unfold mc_go at h; cases h; done) | (have h9 := mc_n_k h; unfold mc_go at h9; cases h9; done) | exact mc_z_br h | exact mc_z_jp h
theorem mc_z_ldc {pc : Nat} {L : List (Nat × Value)} {st : List Value} {M : mc_M} {w : mc_R} {own : Nat} {idx d : Nat} (h : mc_ldc own idx d pc L st M = some (.inr w)) : False := by
  unfold mc_ldc at h
  repeat' (split at h)
  all_goals first | (cases h; done) | (unfold mc_go at h; cases h; done) | (have h9 := mc_n_k h; unfold mc_go at h9; cases h9; done) | exact mc_z_br h | exact mc_z_jp h
theorem mc_z_ldc2 {pc : Nat} {L : List (Nat × Value)} {st : List Value} {M : mc_M} {w : mc_R} {own : Nat} {idx : Nat} (h : mc_ldc2 own idx pc L st M = some (.inr w)) : False := by
  unfold mc_ldc2 at h
  repeat' (split at h)
  all_goals first | (cases h; done) | (unfold mc_go at h; cases h; done) | (have h9 := mc_n_k h; unfold mc_go at h9; cases h9; done) | exact mc_z_br h | exact mc_z_jp h
theorem mc_z_tsw {pc : Nat} {L : List (Nat × Value)} {st : List Value} {M : mc_M} {w : mc_R} {dflt lo hi : Int} {offs : Array Int} (h : mc_tsw dflt lo hi offs pc L st M = some (.inr w)) : False := by
  unfold mc_tsw at h
  repeat' (split at h)
  all_goals first | (cases h; done) | (unfold mc_go at h; cases h; done) | (have h9 := mc_n_k h; unfold mc_go at h9; cases h9; done) | exact mc_z_br h | exact mc_z_jp h
theorem mc_z_obj {pc : Nat} {L : List (Nat × Value)} {st : List Value} {M : mc_M} {w : mc_R} {own : Nat} {idx : Nat} (h : mc_obj own idx pc L st M = some (.inr w)) : False := by
  unfold mc_obj at h
  repeat' (split at h)
  all_goals first | (cases h; done) | (unfold mc_go at h; cases h; done) | (have h9 := mc_n_k h; unfold mc_go at h9; cases h9; done) | exact mc_z_br h | exact mc_z_jp h
theorem mc_z_math {pc : Nat} {L : List (Nat × Value)} {st : List Value} {M : mc_M} {w : mc_R} {own : Nat} {idx : Nat} (h : mc_math own idx pc L st M = some (.inr w)) : False := by
  unfold mc_math at h
  repeat' (split at h)
  all_goals first | (cases h; done) | (unfold mc_go at h; cases h; done) | (have h9 := mc_n_k h; unfold mc_go at h9; cases h9; done) | exact mc_z_br h | exact mc_z_jp h
theorem mc_z_prim {pc : Nat} {L : List (Nat × Value)} {st : List Value} {M : mc_M} {w : mc_R} {own : Nat} {idx : Nat} (h : mc_prim own idx pc L st M = some (.inr w)) : False := by
  unfold mc_prim at h
  repeat' (split at h)
  all_goals first | (cases h; done) | (unfold mc_go at h; cases h; done) | (have h9 := mc_n_k h; unfold mc_go at h9; cases h9; done) | exact mc_z_br h | exact mc_z_jp h
theorem mc_z_cal {pc : Nat} {L : List (Nat × Value)} {st : List Value} {M : mc_M} {w : mc_R} {own : Nat} {call : Nat → List Value → mc_M → Option mc_R} {sort idx : Nat} (h : mc_cal call own sort idx pc L st M = some (.inr w)) : False := by
  unfold mc_cal at h
  repeat' (split at h)
  all_goals first | (cases h; done) | (unfold mc_go at h; cases h; done) | (have h9 := mc_n_k h; unfold mc_go at h9; cases h9; done) | exact mc_z_br h | exact mc_z_jp h
set_option maxHeartbeats 4000000 in
theorem mc_end_of {kt : Nat → Option mc_E} {own nL : Nat} {ini : Bool} {ret : Option FieldType} {call : Nat → List Value → mc_M → Option mc_R} {x : Instr} {n : Nat} {S0 : mc_S} {w : mc_R} (h : mc_step kt call own nL ini ret x n S0 = some (.inr w)) : (x = .ireturn ∧ n = 1 ∧ mc_ret ret S0.2.2.1 S0.2.2.2 = some (.inr w)) ∨ (x = .lreturn ∧ n = 1 ∧ mc_retL ret S0.2.2.1 S0.2.2.2 = some (.inr w)) ∨ (x = .areturn ∧ n = 1 ∧ mc_retA ret S0.2.2.1 S0.2.2.2 = some (.inr w)) ∨ (x = .return_ ∧ n = 1 ∧ mc_retV ret S0.2.2.1 S0.2.2.2 = some (.inr w)) := by
  obtain ⟨pc, L, st, M⟩ := S0
  cases x with
  | iconst i =>
    have h7 : mc_n (n == 1) (mc_go (pc + 1) L (.int (Int32.ofInt i) :: st) M) = some (.inr w) := h
    have h8 := mc_n_k h7
    exact absurd h8 (mc_notr (r := .inr w))
  | bipush i =>
    have h7 : mc_n (n == 2) (mc_go (pc + 2) L (.int (Int8.ofInt i).toInt32 :: st) M) = some (.inr w) := h
    have h8 := mc_n_k h7
    exact absurd h8 (mc_notr (r := .inr w))
  | sipush i =>
    have h7 : mc_n (n == 3) (mc_go (pc + 3) L (.int (Int16.ofInt i).toInt32 :: st) M) = some (.inr w) := h
    have h8 := mc_n_k h7
    exact absurd h8 (mc_notr (r := .inr w))
  | lconst i =>
    have h7 : mc_n (n == 1) (mc_go (pc + 1) L (.long (Int64.ofNat (i : Nat)) :: st) M) = some (.inr w) := h
    have h8 := mc_n_k h7
    exact absurd h8 (mc_notr (r := .inr w))
  | aconst_null  =>
    have h7 : mc_n (n == 1) (mc_go (pc + 1) L (.null :: st) M) = some (.inr w) := h
    have h8 := mc_n_k h7
    exact absurd h8 (mc_notr (r := .inr w))
  | iload_n i =>
    have h7 : mc_n (n == 1) (mc_ld mc_isI (i : Nat) 1 pc L st M) = some (.inr w) := h
    have h8 := mc_n_k h7
    exact (mc_z_ld h8).elim
  | iload i =>
    have h7 : mc_n (n == 2) (mc_ld mc_isI i 2 pc L st M) = some (.inr w) := h
    have h8 := mc_n_k h7
    exact (mc_z_ld h8).elim
  | lload_n i =>
    have h7 : mc_n (n == 1) (mc_ld mc_isL (i : Nat) 1 pc L st M) = some (.inr w) := h
    have h8 := mc_n_k h7
    exact (mc_z_ld h8).elim
  | lload i =>
    have h7 : mc_n (n == 2) (mc_ld mc_isL i 2 pc L st M) = some (.inr w) := h
    have h8 := mc_n_k h7
    exact (mc_z_ld h8).elim
  | aload_n i =>
    have h7 : mc_n (n == 1) (mc_ld mc_isA (i : Nat) 1 pc L st M) = some (.inr w) := h
    have h8 := mc_n_k h7
    exact (mc_z_ld h8).elim
  | aload i =>
    have h7 : mc_n (n == 2) (mc_ld mc_isA i 2 pc L st M) = some (.inr w) := h
    have h8 := mc_n_k h7
    exact (mc_z_ld h8).elim
  | istore_n i =>
    have h7 : mc_n (n == 1) (mc_sv mc_isI nL (i : Nat) 1 pc L st M) = some (.inr w) := h
    have h8 := mc_n_k h7
    exact (mc_z_sv h8).elim
  | istore i =>
    have h7 : mc_n (n == 2) (mc_sv mc_isI nL i 2 pc L st M) = some (.inr w) := h
    have h8 := mc_n_k h7
    exact (mc_z_sv h8).elim
  | astore_n i =>
    have h7 : mc_n (n == 1) (mc_sv mc_isA nL (i : Nat) 1 pc L st M) = some (.inr w) := h
    have h8 := mc_n_k h7
    exact (mc_z_sv h8).elim
  | astore i =>
    have h7 : mc_n (n == 2) (mc_sv mc_isA nL i 2 pc L st M) = some (.inr w) := h
    have h8 := mc_n_k h7
    exact (mc_z_sv h8).elim
  | lstore_n i =>
    have h7 : mc_n (n == 1) (mc_svL nL (i : Nat) 1 pc L st M) = some (.inr w) := h
    have h8 := mc_n_k h7
    exact (mc_z_svL h8).elim
  | lstore i =>
    have h7 : mc_n (n == 2) (mc_svL nL i 2 pc L st M) = some (.inr w) := h
    have h8 := mc_n_k h7
    exact (mc_z_svL h8).elim
  | iinc i k =>
    have h7 : mc_n (n == 3) (mc_inc nL i k pc L st M) = some (.inr w) := h
    have h8 := mc_n_k h7
    exact (mc_z_inc h8).elim
  | iadd  =>
    have h7 : mc_n (n == 1) (mc_ii2 (fun x y => some (x + y)) pc L st M) = some (.inr w) := h
    have h8 := mc_n_k h7
    exact (mc_z_ii2 h8).elim
  | isub  =>
    have h7 : mc_n (n == 1) (mc_ii2 (fun x y => some (x - y)) pc L st M) = some (.inr w) := h
    have h8 := mc_n_k h7
    exact (mc_z_ii2 h8).elim
  | imul  =>
    have h7 : mc_n (n == 1) (mc_ii2 (fun x y => some (x * y)) pc L st M) = some (.inr w) := h
    have h8 := mc_n_k h7
    exact (mc_z_ii2 h8).elim
  | iand  =>
    have h7 : mc_n (n == 1) (mc_ii2 (fun x y => some (x &&& y)) pc L st M) = some (.inr w) := h
    have h8 := mc_n_k h7
    exact (mc_z_ii2 h8).elim
  | ior  =>
    have h7 : mc_n (n == 1) (mc_ii2 (fun x y => some (x ||| y)) pc L st M) = some (.inr w) := h
    have h8 := mc_n_k h7
    exact (mc_z_ii2 h8).elim
  | ixor  =>
    have h7 : mc_n (n == 1) (mc_ii2 (fun x y => some (x ^^^ y)) pc L st M) = some (.inr w) := h
    have h8 := mc_n_k h7
    exact (mc_z_ii2 h8).elim
  | ishl  =>
    have h7 : mc_n (n == 1) (mc_ii2 (fun x y => some (x <<< (y &&& 31))) pc L st M) = some (.inr w) := h
    have h8 := mc_n_k h7
    exact (mc_z_ii2 h8).elim
  | ishr  =>
    have h7 : mc_n (n == 1) (mc_ii2 (fun x y => some (x >>> (y &&& 31))) pc L st M) = some (.inr w) := h
    have h8 := mc_n_k h7
    exact (mc_z_ii2 h8).elim
  | iushr  =>
    have h7 : mc_n (n == 1) (mc_ii2 (fun x y => some (x.toUInt32 >>> (y.toUInt32 &&& Int32.toUInt32 31)).toInt32) pc L st M) = some (.inr w) := h
    have h8 := mc_n_k h7
    exact (mc_z_ii2 h8).elim
  | idiv  =>
    have h7 : mc_n (n == 1) (mc_ii2 (fun x y => if y = 0 then none else some (x / y)) pc L st M) = some (.inr w) := h
    have h8 := mc_n_k h7
    exact (mc_z_ii2 h8).elim
  | irem  =>
    have h7 : mc_n (n == 1) (mc_ii2 (fun x y => if y = 0 then none else some (x - x / y * y)) pc L st M) = some (.inr w) := h
    have h8 := mc_n_k h7
    exact (mc_z_ii2 h8).elim
  | ladd  =>
    have h7 : mc_n (n == 1) (mc_ll2 (fun x y => some (x + y)) pc L st M) = some (.inr w) := h
    have h8 := mc_n_k h7
    exact (mc_z_ll2 h8).elim
  | lsub  =>
    have h7 : mc_n (n == 1) (mc_ll2 (fun x y => some (x - y)) pc L st M) = some (.inr w) := h
    have h8 := mc_n_k h7
    exact (mc_z_ll2 h8).elim
  | lmul  =>
    have h7 : mc_n (n == 1) (mc_ll2 (fun x y => some (x * y)) pc L st M) = some (.inr w) := h
    have h8 := mc_n_k h7
    exact (mc_z_ll2 h8).elim
  | land  =>
    have h7 : mc_n (n == 1) (mc_ll2 (fun x y => some (x &&& y)) pc L st M) = some (.inr w) := h
    have h8 := mc_n_k h7
    exact (mc_z_ll2 h8).elim
  | lor  =>
    have h7 : mc_n (n == 1) (mc_ll2 (fun x y => some (x ||| y)) pc L st M) = some (.inr w) := h
    have h8 := mc_n_k h7
    exact (mc_z_ll2 h8).elim
  | ldiv  =>
    have h7 : mc_n (n == 1) (mc_ll2 (fun x y => if y = 0 then none else some (x / y)) pc L st M) = some (.inr w) := h
    have h8 := mc_n_k h7
    exact (mc_z_ll2 h8).elim
  | lrem  =>
    have h7 : mc_n (n == 1) (mc_ll2 (fun x y => if y = 0 then none else some (x - x / y * y)) pc L st M) = some (.inr w) := h
    have h8 := mc_n_k h7
    exact (mc_z_ll2 h8).elim
  | lshl  =>
    have h7 : mc_n (n == 1) (mc_li2 (fun x y => x <<< (y.toInt64 &&& 63)) pc L st M) = some (.inr w) := h
    have h8 := mc_n_k h7
    exact (mc_z_li2 h8).elim
  | lshr  =>
    have h7 : mc_n (n == 1) (mc_li2 (fun x y => x >>> (y.toInt64 &&& 63)) pc L st M) = some (.inr w) := h
    have h8 := mc_n_k h7
    exact (mc_z_li2 h8).elim
  | lcmp  =>
    have h7 : mc_n (n == 1) (mc_cmp pc L st M) = some (.inr w) := h
    have h8 := mc_n_k h7
    exact (mc_z_cmp h8).elim
  | ineg  =>
    have h7 : mc_n (n == 1) (mc_i1 (fun x => .int (-x)) pc L st M) = some (.inr w) := h
    have h8 := mc_n_k h7
    exact (mc_z_i1 h8).elim
  | i2l  =>
    have h7 : mc_n (n == 1) (mc_i1 (fun x => .long x.toInt64) pc L st M) = some (.inr w) := h
    have h8 := mc_n_k h7
    exact (mc_z_i1 h8).elim
  | i2b  =>
    have h7 : mc_n (n == 1) (mc_i1 (fun x => .int x.toInt8.toInt32) pc L st M) = some (.inr w) := h
    have h8 := mc_n_k h7
    exact (mc_z_i1 h8).elim
  | l2i  =>
    have h7 : mc_n (n == 1) (mc_l1 (fun x => .int x.toInt32) pc L st M) = some (.inr w) := h
    have h8 := mc_n_k h7
    exact (mc_z_l1 h8).elim
  | if_icmp cond off =>
    cases cond with
    | eq =>
      have h7 : mc_n (n == 3) (mc_ic2 (fun x y => decide (x = y)) pc off L st M) = some (.inr w) := h
      have h8 := mc_n_k h7
      exact (mc_z_ic2 h8).elim
    | ne =>
      have h7 : mc_n (n == 3) (mc_ic2 (fun x y => decide (¬ x = y)) pc off L st M) = some (.inr w) := h
      have h8 := mc_n_k h7
      exact (mc_z_ic2 h8).elim
    | lt =>
      have h7 : mc_n (n == 3) (mc_ic2 (fun x y => decide (x < y)) pc off L st M) = some (.inr w) := h
      have h8 := mc_n_k h7
      exact (mc_z_ic2 h8).elim
    | ge =>
      have h7 : mc_n (n == 3) (mc_ic2 (fun x y => decide (y ≤ x)) pc off L st M) = some (.inr w) := h
      have h8 := mc_n_k h7
      exact (mc_z_ic2 h8).elim
    | gt =>
      have h7 : mc_n (n == 3) (mc_ic2 (fun x y => decide (y < x)) pc off L st M) = some (.inr w) := h
      have h8 := mc_n_k h7
      exact (mc_z_ic2 h8).elim
    | le =>
      have h7 : mc_n (n == 3) (mc_ic2 (fun x y => decide (x ≤ y)) pc off L st M) = some (.inr w) := h
      have h8 := mc_n_k h7
      exact (mc_z_ic2 h8).elim
  | ifCond cond off =>
    cases cond with
    | eq =>
      have h7 : mc_n (n == 3) (mc_ic1 (fun x => decide (x = 0)) pc off L st M) = some (.inr w) := h
      have h8 := mc_n_k h7
      exact (mc_z_ic1 h8).elim
    | ne =>
      have h7 : mc_n (n == 3) (mc_ic1 (fun x => decide (¬ x = 0)) pc off L st M) = some (.inr w) := h
      have h8 := mc_n_k h7
      exact (mc_z_ic1 h8).elim
    | lt =>
      have h7 : mc_n (n == 3) (mc_ic1 (fun x => decide (x < 0)) pc off L st M) = some (.inr w) := h
      have h8 := mc_n_k h7
      exact (mc_z_ic1 h8).elim
    | ge =>
      have h7 : mc_n (n == 3) (mc_ic1 (fun x => decide (0 ≤ x)) pc off L st M) = some (.inr w) := h
      have h8 := mc_n_k h7
      exact (mc_z_ic1 h8).elim
    | gt =>
      have h7 : mc_n (n == 3) (mc_ic1 (fun x => decide (0 < x)) pc off L st M) = some (.inr w) := h
      have h8 := mc_n_k h7
      exact (mc_z_ic1 h8).elim
    | le =>
      have h7 : mc_n (n == 3) (mc_ic1 (fun x => decide (x ≤ 0)) pc off L st M) = some (.inr w) := h
      have h8 := mc_n_k h7
      exact (mc_z_ic1 h8).elim
  | ifnull off =>
    have h7 : mc_n (n == 3) (mc_icn true pc off L st M) = some (.inr w) := h
    have h8 := mc_n_k h7
    exact (mc_z_icn h8).elim
  | ifnonnull off =>
    have h7 : mc_n (n == 3) (mc_icn false pc off L st M) = some (.inr w) := h
    have h8 := mc_n_k h7
    exact (mc_z_icn h8).elim
  | if_acmp cond off =>
    cases cond with
    | eq =>
      have h7 : mc_n (n == 3) (mc_ica true pc off L st M) = some (.inr w) := h
      have h8 := mc_n_k h7
      exact (mc_z_ica h8).elim
    | ne =>
      have h7 : mc_n (n == 3) (mc_ica false pc off L st M) = some (.inr w) := h
      have h8 := mc_n_k h7
      exact (mc_z_ica h8).elim
  | goto off =>
    have h7 : mc_n (n == 3) (mc_jp pc off L st M) = some (.inr w) := h
    have h8 := mc_n_k h7
    exact (mc_z_jp h8).elim
  | dup  =>
    have h7 : mc_n (n == 1) (mc_dup pc L st M) = some (.inr w) := h
    have h8 := mc_n_k h7
    exact (mc_z_dup h8).elim
  | pop  =>
    have h7 : mc_n (n == 1) (mc_pop pc L st M) = some (.inr w) := h
    have h8 := mc_n_k h7
    exact (mc_z_pop h8).elim
  | dup2  =>
    have h7 : mc_n (n == 1) (mc_dup2 pc L st M) = some (.inr w) := h
    have h8 := mc_n_k h7
    exact (mc_z_dup2 h8).elim
  | pop2  =>
    have h7 : mc_n (n == 1) (mc_pop2 pc L st M) = some (.inr w) := h
    have h8 := mc_n_k h7
    exact (mc_z_pop2 h8).elim
  | getfield i =>
    have h7 : mc_n (n == 3) (mc_getf kt own i pc L st M) = some (.inr w) := h
    have h8 := mc_n_k h7
    exact (mc_z_getf h8).elim
  | putfield i =>
    have h7 : mc_n (n == 3) (mc_putf own ini i pc L st M) = some (.inr w) := h
    have h8 := mc_n_k h7
    exact (mc_z_putf h8).elim
  | iaload  =>
    have h7 : mc_n (n == 1) (mc_ald kt (fun t => t == 0) pc L st M) = some (.inr w) := h
    have h8 := mc_n_k h7
    exact (mc_z_ald h8).elim
  | laload  =>
    have h7 : mc_n (n == 1) (mc_ald kt (fun t => t == 1) pc L st M) = some (.inr w) := h
    have h8 := mc_n_k h7
    exact (mc_z_ald h8).elim
  | baload  =>
    have h7 : mc_n (n == 1) (mc_ald kt (fun t => t == 2 || t == 3) pc L st M) = some (.inr w) := h
    have h8 := mc_n_k h7
    exact (mc_z_ald h8).elim
  | aaload  =>
    have h7 : mc_n (n == 1) (mc_ald kt (fun t => decide (4 ≤ t)) pc L st M) = some (.inr w) := h
    have h8 := mc_n_k h7
    exact (mc_z_ald h8).elim
  | iastore  =>
    have h7 : mc_n (n == 1) (mc_ast kt (fun t v => t == 0 && mc_isI v) (fun _ v => v) pc L st M) = some (.inr w) := h
    have h8 := mc_n_k h7
    exact (mc_z_ast h8).elim
  | lastore  =>
    have h7 : mc_n (n == 1) (mc_ast kt (fun t v => t == 1 && mc_isL v) (fun _ v => v) pc L st M) = some (.inr w) := h
    have h8 := mc_n_k h7
    exact (mc_z_ast h8).elim
  | bastore  =>
    have h7 : mc_n (n == 1) (mc_ast kt (fun t v => (t == 2 || t == 3) && mc_isI v) (fun t v => narrow (mc_ty t) v) pc L st M) = some (.inr w) := h
    have h8 := mc_n_k h7
    exact (mc_z_ast h8).elim
  | aastore  =>
    have h7 : mc_n (n == 1) (mc_ast kt (mc_isP M) (fun _ v => v) pc L st M) = some (.inr w) := h
    have h8 := mc_n_k h7
    exact (mc_z_ast h8).elim
  | arraylength  =>
    have h7 : mc_n (n == 1) (mc_len kt pc L st M) = some (.inr w) := h
    have h8 := mc_n_k h7
    exact (mc_z_len h8).elim
  | newarray a =>
    have h7 : mc_n (n == 2) (mc_newa a pc L st M) = some (.inr w) := h
    have h8 := mc_n_k h7
    exact (mc_z_newa h8).elim
  | anewarray i =>
    have h7 : mc_n (n == 3) (mc_anew own i pc L st M) = some (.inr w) := h
    have h8 := mc_n_k h7
    exact (mc_z_anew h8).elim
  | multianewarray i j =>
    match j, h with
    | 2, h =>
      have h7 : mc_n (n == 4) (mc_mna own i pc L st M) = some (.inr w) := h
      have h8 := mc_n_k h7
      exact (mc_z_mna h8).elim
    | 0, h => cases h
    | 1, h => cases h
    | j + 3, h => cases h
  | new i =>
    have h7 : mc_n (n == 3) (mc_new own i pc L st M) = some (.inr w) := h
    have h8 := mc_n_k h7
    exact (mc_z_new h8).elim
  | getstatic i =>
    have h7 : mc_n (n == 3) (mc_gs own i pc L st M) = some (.inr w) := h
    have h8 := mc_n_k h7
    exact (mc_z_gs h8).elim
  | ldc i =>
    have h7 : mc_n (n == 2) (mc_ldc own i 2 pc L st M) = some (.inr w) := h
    have h8 := mc_n_k h7
    exact (mc_z_ldc h8).elim
  | ldc_w i =>
    have h7 : mc_n (n == 3) (mc_ldc own i 3 pc L st M) = some (.inr w) := h
    have h8 := mc_n_k h7
    exact (mc_z_ldc h8).elim
  | ldc2_w i =>
    have h7 : mc_n (n == 3) (mc_ldc2 own i pc L st M) = some (.inr w) := h
    have h8 := mc_n_k h7
    exact (mc_z_ldc2 h8).elim
  | tableswitch d lo hi offs =>
    have h8 : mc_tsw d lo hi offs pc L st M = some (.inr w) := h
    exact (mc_z_tsw h8).elim
  | invokevirtual i =>
    have h7 : mc_n (n == 3) (mc_or (mc_cal call own 1 i pc L st M) (mc_prim own i pc L st M)) = some (.inr w) := h
    have h8 := mc_n_k h7
    exact ((mc_or_t h8).elim (fun h => mc_z_cal h) (fun h => mc_z_prim h)).elim
  | invokestatic i =>
    have h7 : mc_n (n == 3) (mc_or (mc_cal call own 0 i pc L st M) (mc_math own i pc L st M)) = some (.inr w) := h
    have h8 := mc_n_k h7
    exact ((mc_or_t h8).elim (fun h => mc_z_cal h) (fun h => mc_z_math h)).elim
  | invokespecial i =>
    have h7 : mc_n (n == 3) (mc_or (mc_cal call own 2 i pc L st M) (mc_obj own i pc L st M)) = some (.inr w) := h
    have h8 := mc_n_k h7
    exact ((mc_or_t h8).elim (fun h => mc_z_cal h) (fun h => mc_z_obj h)).elim
  | ireturn  =>
    have h7 : mc_n (n == 1) (mc_ret ret st M) = some (.inr w) := h
    obtain ⟨hn, h8⟩ := mc_n_t h7
    have hn : n = 1 := by simpa using hn
    exact Or.inl ⟨rfl, hn, h8⟩
  | lreturn  =>
    have h7 : mc_n (n == 1) (mc_retL ret st M) = some (.inr w) := h
    obtain ⟨hn, h8⟩ := mc_n_t h7
    have hn : n = 1 := by simpa using hn
    exact Or.inr (Or.inl ⟨rfl, hn, h8⟩)
  | areturn  =>
    have h7 : mc_n (n == 1) (mc_retA ret st M) = some (.inr w) := h
    obtain ⟨hn, h8⟩ := mc_n_t h7
    have hn : n = 1 := by simpa using hn
    exact Or.inr (Or.inr (Or.inl ⟨rfl, hn, h8⟩))
  | return_  =>
    have h7 : mc_n (n == 1) (mc_retV ret st M) = some (.inr w) := h
    obtain ⟨hn, h8⟩ := mc_n_t h7
    have hn : n = 1 := by simpa using hn
    exact Or.inr (Or.inr (Or.inr (⟨rfl, hn, h8⟩)))
  | _ => cases h
section MC8

variable {kt : Nat → Option mc_E} {own : Nat} {ini : Bool} {ret : Option FieldType} {cc : ByteArray}

variable {G : mc_G} {p : Program} {l : Launch} {e : Env} {R : Room} {s : State} {m : MethodId} {args : Array Value} {below : List Frame} {meth : Method} {c : Code} {Q : State → Prop} {nL l0 z0 : Nat}
/-- a row of instructions to the method's end: what is wanted there is what holds of the end -/
theorem mc_loop_ok (C : mc_X kt G own nL ini ret cc p s m args meth c) {call : Nat → List Value → mc_M → Option mc_R} {d : Nat} (IH : ∀ (k : Nat) (q : Nat × MethodName × ByteArray × Nat × Option FieldType × Nat × Nat) (as : List Value) (M : mc_M) (w : mc_R), mc_mt k = some q → call k as M = some w → mc_Met l kt G d q as M w ∧ mc_le M w.2) (IHle : ∀ (k : Nat) (as : List Value) (M : mc_M) (w : mc_R), call k as M = some w → mc_le M w.2) (hF : d + 6 ≤ R.frames ∧ 36 * (d + 6) ≤ R.locals) {w : mc_R} (hR : w.2.length ≤ R.cells + l0 ∧ mc_sz w.2 ≤ R.slots + z0)
    (fin : ∀ (S : mc_S) (x : Instr) (n : Nat), decode cc S.1 = .ok (x, n) → mc_step kt call own nL ini ret x n S = some (.inr w) → mc_W G p l e R s m args below meth c Q nL l0 z0 S) : ∀ (n : Nat) (S : mc_S), mc_loop kt call own nL ini ret cc n S = some w → mc_W G p l e R s m args below meth c Q nL l0 z0 S
  | 0, _, h => by cases h
  | n + 1, S, h => by
    unfold mc_loop at h
    split at h
    · next x k hd =>
      split at h
      · next S1 hs =>
        have hle := mc_loop_le IHle n S1 w h
        exact mc_step_ok C IH hF hd hs ⟨Nat.le_trans hle.1 hR.1, Nat.le_trans hle.2 hR.2⟩ (mc_loop_ok C IH IHle hF hR fin n S1 h)
      · next w' hs =>
        cases h
        exact fin S x k hd hs
      · cases h
    · cases h
theorem mc_isA_v {v : Value} (h : mc_isA v = true) : mc_v G v = .null ∨ ∃ a, mc_v G v = .ref a := by
  cases v with
  | ref a => exact Or.inr ⟨_, rfl⟩
  | null => exact Or.inl rfl
  | _ => cases h
/-- a method's end -/
theorem mc_fin (C : mc_X kt G own nL ini ret cc p s m args meth c) {call : Nat → List Value → mc_M → Option mc_R} {w : mc_R} (hQ : Q = MQ below (mc_Qc G w) args s (w.2.length - l0) (mc_sz w.2 - z0) (mc_A G)) {S : mc_S} {x : Instr} {n : Nat} (hd : decode cc S.1 = .ok (x, n)) (h : mc_step kt call own nL ini ret x n S = some (.inr w)) : mc_W G p l e R s m args below meth c Q nL l0 z0 S := by
  obtain ⟨pc, L, st, M⟩ := S
  obtain ⟨hx, hb, hown, hts, hml, hB, hba, hini, hlk, hret⟩ := C
  have key : ∀ (H : Heap) (locs : List Loc) (t : State), w.2 = M → mc_H G M H → va_S (mc_A G) s.heap H locs → t.heap = H → mc_Qc G w args s (.returned (w.1.map (mc_v G))) t := fun H locs t hw hH hS ht => ⟨rfl, by rw [hw, ht]; exact hH, hS.F ht⟩
  have done : (∃ (rt : Option FieldType), (x = .ireturn ∧ n = 1 ∧ mc_ret ret st M = some (.inr w)) ∨ (x = .lreturn ∧ n = 1 ∧ mc_retL ret st M = some (.inr w)) ∨ (x = .areturn ∧ n = 1 ∧ mc_retA ret st M = some (.inr w)) ∨ (x = .return_ ∧ n = 1 ∧ mc_retV ret st M = some (.inr w))) := by
    refine ⟨none, mc_end_of h⟩
  obtain ⟨-, hdone⟩ := done
  rcases hdone with ⟨rfl, rfl, h8⟩ | ⟨rfl, rfl, h8⟩ | ⟨rfl, rfl, h8⟩ | ⟨rfl, rfl, h8⟩
  · unfold mc_ret at h8
    split at h8
    · cases h8
      intro H locs ls cells slots hH hS hl hc hz
      have hc : cells + l0 = M.length := hc
      have hz : slots + z0 = mc_sz M := hz
      obtain rfl : cells = M.length - l0 := by omega
      obtain rfl : slots = mc_sz M - z0 := by omega
      rw [hQ]
      exact W.zret hx hb hret rfl (fun t ht hW => key H locs t rfl hH hS ht) hS.2.2 hd hlk
    · obtain ⟨hv, h8⟩ := mc_n_t h8
      cases h8
      intro H locs ls cells slots hH hS hl hc hz
      have hc : cells + l0 = M.length := hc
      have hz : slots + z0 = mc_sz M := hz
      obtain rfl : cells = M.length - l0 := by omega
      obtain rfl : slots = mc_sz M - z0 := by omega
      rw [hQ]
      refine W.zret hx hb hret ?_ (fun t ht hW => key H locs t rfl hH hS ht) hS.2.2 hd hlk
      simp only [Bool.or_eq_true, beq_iff_eq] at hv
      rcases hv with rfl | rfl <;> rfl
    · cases h8
  · unfold mc_retL at h8
    split at h8
    · cases h8
      intro H locs ls cells slots hH hS hl hc hz
      have hc : cells + l0 = M.length := hc
      have hz : slots + z0 = mc_sz M := hz
      obtain rfl : cells = M.length - l0 := by omega
      obtain rfl : slots = mc_sz M - z0 := by omega
      rw [hQ]
      exact W.lret hx hb hret (fun t ht hW => key H locs t rfl hH hS ht) hS.2.2 hd hlk
    · cases h8
  · unfold mc_retA at h8
    split at h8
    · obtain ⟨hv, h8⟩ := mc_n_t h8
      cases h8
      intro H locs ls cells slots hH hS hl hc hz
      have hc : cells + l0 = M.length := hc
      have hz : slots + z0 = mc_sz M := hz
      obtain rfl : cells = M.length - l0 := by omega
      obtain rfl : slots = mc_sz M - z0 := by omega
      rw [hQ]
      exact W.aret hx hb hret (Or.inl ⟨_, rfl⟩) (mc_isA_v hv) (fun t ht hW => key H locs t rfl hH hS ht) hS.2.2 hd hlk
    · obtain ⟨hv, h8⟩ := mc_n_t h8
      cases h8
      intro H locs ls cells slots hH hS hl hc hz
      have hc : cells + l0 = M.length := hc
      have hz : slots + z0 = mc_sz M := hz
      obtain rfl : cells = M.length - l0 := by omega
      obtain rfl : slots = mc_sz M - z0 := by omega
      rw [hQ]
      exact W.aret hx hb hret (Or.inr ⟨_, rfl⟩) (mc_isA_v hv) (fun t ht hW => key H locs t rfl hH hS ht) hS.2.2 hd hlk
    · cases h8
  · unfold mc_retV at h8
    split at h8
    · cases h8
      intro H locs ls cells slots hH hS hl hc hz
      have hc : cells + l0 = M.length := hc
      have hz : slots + z0 = mc_sz M := hz
      obtain rfl : cells = M.length - l0 := by omega
      obtain rfl : slots = mc_sz M - z0 := by omega
      rw [hQ]
      exact W.vret hx hb hret (fun t ht hW => key H locs t rfl hH hS ht) hS.2.2 hd hlk
    · cases h8
end MC8
/-- METHOD k: a run of the mini machine is a run of the machine -/
theorem mc_call_ok (l : Launch) {kt : Nat → Option mc_E} {G : mc_G} {F : Nat} : ∀ (d k : Nat) (q : Nat × MethodName × ByteArray × Nat × Option FieldType × Nat × Nat) (as : List Value) (M : mc_M) (w : mc_R), mc_mt k = some q → mc_call kt F d k as M = some w → mc_Met l kt G d q as M w ∧ mc_le M w.2
  | 0, _, _, _, _, _, _, h => by cases h
  | d + 1, k, q, as, M, w, hq, h => by
    have hle := mc_call_le (d + 1) k as M w h
    refine ⟨?_, hle⟩
    unfold mc_call at h
    rw [hq] at h
    dsimp only at h
    split at h
    · next hlen =>
      have hlen : (lg_sl as).length ≤ q.2.2.2.1 := of_decide_eq_true hlen
      obtain ⟨f1, f2, f3, f4, f5, f6, f7, f8, f9, f10, f11⟩ := mc_mfacts hq
      unfold mc_Met
      refine Met.ofW (cc := q.2.2.1) (maxL := q.2.2.2.1) (ret := q.2.2.2.2.1) f8 rfl ?_
      intro p e s m args below meth c s₁ B hml hv
      obtain ⟨rfl, hH, hB⟩ := hv
      have hts : ∀ w ∈ mc_ws, w.before (as.map (mc_v G)).toArray s = true := fun w hw => atoms_spec (ws := Cond.code q.2.1 q.2.2.1 q.2.2.2.1 q.2.2.2.2.1 :: mc_ws) B.pre w (List.mem_cons_of_mem _ hw)
      have hown : s.vm.findClass (mc_cn q.1) = some m.cls := f6 ▸ findClass_of_methodNamed B.named
      have C : mc_X kt G q.1 q.2.2.2.1 (q.2.2.2.2.2.2 == 2) q.2.2.2.2.1 q.2.2.1 p s m (as.map (mc_v G)).toArray meth c := ⟨B.exec, B.bytes, hown, hts, hml, hB, by rw [hH.1]; exact Nat.le_add_right _ _, fun hi => by rw [(name_of_methodNamed B.named B.method).1]; exact f7 (by simpa using hi), B.notSynchronized, B.returns⟩
      have hl := lv_entry (as.map (mc_v G)) (n := q.2.2.2.1) (by rw [mc_sl_len]; exact hlen)
      rw [lg_entry_eq]
      generalize (lg_sl (as.map (mc_v G)) ++ List.replicate (q.2.2.2.1 - (lg_sl (as.map (mc_v G))).length) Slot.unset).toArray = ls at hl ⊢
      rw [← mc_L_args] at hl
      have hw := mc_loop_ok (R := (headSpec (Cond.code q.2.1 q.2.2.1 q.2.2.2.1 q.2.2.2.2.1 :: mc_ws) (mc_rm (d + 1) M w.2)).room) (Q := MQ below (mc_Qc G w) (as.map (mc_v G)).toArray s (w.2.length - M.length) (mc_sz w.2 - mc_sz M) (mc_A G)) (l0 := M.length) (z0 := mc_sz M) (e := e) (l := l) (below := below) C (mc_call_ok l d) (mc_call_le d) ⟨Nat.le_refl _, Nat.le_refl _⟩ (w := w)
        ⟨by show w.2.length ≤ (w.2.length - M.length) + M.length; have := hle.1; omega, by show mc_sz w.2 ≤ (mc_sz w.2 - mc_sz M) + mc_sz M; have := hle.2; omega⟩
        (fun S x n hd hs => mc_fin C rfl hd hs) F _ h
      exact hw s.heap [] ls 0 0 hH va_S.rf hl (Nat.zero_add _) (Nat.zero_add _)
    · cases h
