/-! the mini machine's parts with unknown numbers (own work) -/
def mcA_go (pc : Nat) (L : List (Nat × mc_V)) (st : List mc_V) (M : mcA_M) : mcA_O := some (.inl (pc, L, st, M))
def mcA_n (b : Bool) (o : mcA_O) : mcA_O := match b with
  | true => o
  | false => none
theorem mcA_n_t {b : Bool} {o : mcA_O} {x : mcA_S ⊕ mcA_R} (h : mcA_n b o = some x) : b = true ∧ o = some x := by
  unfold mcA_n at h
  split at h
  · exact ⟨rfl, h⟩
  · cases h
def mcA_jp (pc : Nat) (off : Int) (L : List (Nat × mc_V)) (st : List mc_V) (M : mcA_M) : mcA_O := if 0 ≤ (pc : Int) + off then mcA_go ((pc : Int) + off).toNat L st M else none
def mcA_br (b : Bool) (pc : Nat) (off : Int) (L : List (Nat × mc_V)) (st : List mc_V) (M : mcA_M) : mcA_O := if 0 ≤ (pc : Int) + off then (match b with
  | true => mcA_go ((pc : Int) + off).toNat L st M
  | false => mcA_go (pc + 3) L st M) else none
def mcA_ce (kA : Nat → Option mcA_E) (M : mcA_M) (a : Nat) : Option mcA_E := if a < 256 then kA a else M[a - 256]?
def mcA_ld (ok : mc_V → Bool) (i d pc : Nat) (L : List (Nat × mc_V)) (st : List mc_V) (M : mcA_M) : mcA_O := match mc_find L i with
  | some v => mcA_n (ok v) (mcA_go (pc + d) L (v :: st) M)
  | none => none
def mcA_sv (ok : mc_V → Bool) (nL i d pc : Nat) (L : List (Nat × mc_V)) (st : List mc_V) (M : mcA_M) : mcA_O := match st with
  | v :: r => mcA_n (ok v && decide (i < nL)) (mcA_go (pc + d) (mcA_s1 L i v) r M)
  | [] => none
def mcA_svL (nL i d pc : Nat) (L : List (Nat × mc_V)) (st : List mc_V) (M : mcA_M) : mcA_O := match st with
  | v :: r => mcA_n (mcA_isL v && decide (i + 1 < nL)) (mcA_go (pc + d) (mcA_s2 L i v) r M)
  | [] => none
def mcA_inc (nL i : Nat) (k : Int) (pc : Nat) (L : List (Nat × mc_V)) (st : List mc_V) (M : mcA_M) : mcA_O := match mc_find L i with
  | some (.inl (.int x)) => mcA_n (decide (i < nL)) (mcA_go (pc + 3) (mcA_s1 L i (.inl (.int (x + Int32.ofInt k)))) st M)
  | _ => none
/-- a total operation on two ints -/
def mcA_ii2 (f : Int32 → Int32 → Int32) (pc : Nat) (L : List (Nat × mc_V)) (st : List mc_V) (M : mcA_M) : mcA_O := match st with
  | .inl (.int y) :: .inl (.int x) :: r => mcA_go (pc + 1) L (.inl (.int (f x y)) :: r) M
  | v :: w :: r => mcA_n (mcA_isI v && mcA_isI w) (mcA_go (pc + 1) L (mcA_top :: r) M)
  | _ => none
def mcA_ie2 (f : Int32 → Int32 → Option Int32) (pc : Nat) (L : List (Nat × mc_V)) (st : List mc_V) (M : mcA_M) : mcA_O := match st with
  | .inl (.int y) :: .inl (.int x) :: r => match f x y with
    | some z => mcA_go (pc + 1) L (.inl (.int z) :: r) M
    | none => none
  | _ => none
def mcA_ll2 (f : Int64 → Int64 → Int64) (pc : Nat) (L : List (Nat × mc_V)) (st : List mc_V) (M : mcA_M) : mcA_O := match st with
  | .inl (.long y) :: .inl (.long x) :: r => mcA_go (pc + 1) L (.inl (.long (f x y)) :: r) M
  | v :: w :: r => mcA_n (mcA_isL v && mcA_isL w) (mcA_go (pc + 1) L (.inr none :: r) M)
  | _ => none
def mcA_li2 (f : Int64 → Int32 → Int64) (pc : Nat) (L : List (Nat × mc_V)) (st : List mc_V) (M : mcA_M) : mcA_O := match st with
  | .inl (.int y) :: .inl (.long x) :: r => mcA_go (pc + 1) L (.inl (.long (f x y)) :: r) M
  | v :: w :: r => mcA_n (mcA_isI v && mcA_isL w) (mcA_go (pc + 1) L (.inr none :: r) M)
  | _ => none
def mcA_cmp (pc : Nat) (L : List (Nat × mc_V)) (st : List mc_V) (M : mcA_M) : mcA_O := match st with
  | .inl (.long y) :: .inl (.long x) :: r => mcA_go (pc + 1) L (.inl (.int (lg_cmp x y)) :: r) M
  | _ => none
def mcA_i1 (f : Int32 → Value) (t : mc_V) (pc : Nat) (L : List (Nat × mc_V)) (st : List mc_V) (M : mcA_M) : mcA_O := match st with
  | .inl (.int x) :: r => mcA_go (pc + 1) L (.inl (f x) :: r) M
  | v :: r => mcA_n (mcA_isI v) (mcA_go (pc + 1) L (t :: r) M)
  | _ => none
def mcA_l1 (f : Int64 → Value) (t : mc_V) (pc : Nat) (L : List (Nat × mc_V)) (st : List mc_V) (M : mcA_M) : mcA_O := match st with
  | .inl (.long x) :: r => mcA_go (pc + 1) L (.inl (f x) :: r) M
  | v :: r => mcA_n (mcA_isL v) (mcA_go (pc + 1) L (t :: r) M)
  | _ => none
def mcA_ic2 (cd : ClassFile.Cond) (pc : Nat) (off : Int) (L : List (Nat × mc_V)) (st : List mc_V) (M : mcA_M) : mcA_O := match st with
  | v :: w :: r => match mcA_rng w, mcA_rng v with
    | some x, some y => match mcA_c2 cd x y with
      | some b => mcA_br b pc off L r M
      | none => none
    | _, _ => none
  | _ => none
def mcA_ic1 (cd : ClassFile.Cond) (pc : Nat) (off : Int) (L : List (Nat × mc_V)) (st : List mc_V) (M : mcA_M) : mcA_O := match st with
  | w :: r => match mcA_rng w with
    | some x => match mcA_c2 cd x (0, 0) with
      | some b => mcA_br b pc off L r M
      | none => none
    | none => none
  | _ => none
def mcA_icn (f : Bool) (pc : Nat) (off : Int) (L : List (Nat × mc_V)) (st : List mc_V) (M : mcA_M) : mcA_O := match st with
  | .inl (.ref _) :: r => mcA_br (!f) pc off L r M
  | .inl .null :: r => mcA_br f pc off L r M
  | _ => none
def mcA_dup (pc : Nat) (L : List (Nat × mc_V)) (st : List mc_V) (M : mcA_M) : mcA_O := match st with
  | v :: r => mcA_n (mcA_cat v == 1) (mcA_go (pc + 1) L (v :: v :: r) M)
  | _ => none
def mcA_pop (pc : Nat) (L : List (Nat × mc_V)) (st : List mc_V) (M : mcA_M) : mcA_O := match st with
  | v :: r => mcA_n (mcA_cat v == 1) (mcA_go (pc + 1) L r M)
  | _ => none
def mcA_pop2 (pc : Nat) (L : List (Nat × mc_V)) (st : List mc_V) (M : mcA_M) : mcA_O := match st with
  | v :: r => mcA_n (mcA_cat v == 2) (mcA_go (pc + 1) L r M)
  | _ => none
def mcA_dup2 (pc : Nat) (L : List (Nat × mc_V)) (st : List mc_V) (M : mcA_M) : mcA_O := match st with
  | v :: w :: r => mcA_n (mcA_cat v == 1 && mcA_cat w == 1) (mcA_go (pc + 1) L (v :: w :: v :: w :: r) M)
  | _ => none
def mcA_getf (kA : Nat → Option mcA_E) (own idx pc : Nat) (L : List (Nat × mc_V)) (st : List mc_V) (M : mcA_M) : mcA_O := match st with
  | .inl (.ref a) :: r => match mc_find (mc_fl.getD own []) idx with
    | some e => match mcA_ce kA M a with
      | some (.inr q) => match q.2[e.2.1]? with
        | some v => mcA_n (q.1 == e.1 && (decide (a < 256) == decide (20 ≤ e.1)) && (decide (a < 256) || decide (e.2.1 < mc_N.getD e.1 0))) (mcA_go (pc + 3) L (v :: r) M)
        | none => none
      | _ => none
    | none => none
  | _ => none
def mcA_fit (ty : FieldType) (v : mc_V) : Bool := match v with
  | .inl x => mc_fit ty x
  | .inr none => decide (ty = .long)
  | .inr (some _) => decide (ty = .int)
def mcA_putf (own : Nat) (ini : Bool) (idx pc : Nat) (L : List (Nat × mc_V)) (st : List mc_V) (M : mcA_M) : mcA_O := match st with
  | v :: .inl (.ref a) :: r => match mc_find (mc_fl.getD own []) idx with
    | some e => match M[a - 256]? with
      | some (.inr q) => mcA_n (q.1 == e.1 && decide (256 ≤ a) && decide (e.1 < 11) && decide (e.2.1 < mc_N.getD e.1 0) && decide (e.2.1 < q.2.length) && mcA_fit (mc_t e.1 e.2.1) v && (!(mc_T e.1 e.2.1).2.2.2 || (ini && own == e.1 && !e.2.2.1))) (mcA_go (pc + 3) L r (M.set (a - 256) (.inr (q.1, q.2.set e.2.1 v))))
      | _ => none
    | none => none
  | _ => none
def mcA_ald (kA : Nat → Option mcA_E) (ok : Nat → Bool) (pc : Nat) (L : List (Nat × mc_V)) (st : List mc_V) (M : mcA_M) : mcA_O := match st with
  | .inl (.int i) :: .inl (.ref a) :: r => match mcA_ce kA M a with
    | some (.inl q) => mcA_n (ok q.1 && mc_in i q.2.1 && (decide (a < 256) || decide (q.1 < 7))) (mcA_go (pc + 1) L (q.2.2 i.toNatClampNeg :: r) M)
    | _ => none
  | _ => none
def mcA_up (f : Nat → mc_V) (k : Nat) (x : mc_V) : Nat → mc_V := fun j => if j = k then x else f j
/-- 'w': what is laid down of an unknown value -/
def mcA_ast (ok : Nat → Bool) (oki : mc_V → Bool) (w : Nat → Value → Value) (t : mc_V → mc_V) (pc : Nat) (L : List (Nat × mc_V)) (st : List mc_V) (M : mcA_M) : mcA_O := match st with
  | v :: .inl (.int i) :: .inl (.ref a) :: r => match M[a - 256]? with
    | some (.inl q) => mcA_n (decide (256 ≤ a) && ok q.1 && oki v && mc_in i q.2.1) (mcA_go (pc + 1) L r (M.set (a - 256) (.inl (q.1, q.2.1, mcA_up q.2.2 i.toNatClampNeg (match v with
      | .inl x => .inl (w q.1 x)
      | u => t u)))))
    | _ => none
  | _ => none
def mcA_len (kA : Nat → Option mcA_E) (pc : Nat) (L : List (Nat × mc_V)) (st : List mc_V) (M : mcA_M) : mcA_O := match st with
  | .inl (.ref a) :: r => match mcA_ce kA M a with
    | some (.inl q) => mcA_n (decide (a < 256) || decide (q.1 < 7)) (mcA_go (pc + 1) L (.inl (.int (Int32.ofNat q.2.1)) :: r) M)
    | _ => none
  | _ => none
def mcA_newa (a : ArrayType) (pc : Nat) (L : List (Nat × mc_V)) (st : List mc_V) (M : mcA_M) : mcA_O := match st with
  | .inl (.int n) :: r => match mc_tag a with
    | some t => mcA_n (decide (¬ n < 0) && decide (n.toNatClampNeg ≤ 100000)) (mcA_go (pc + 2) L (.inl (.ref (256 + M.length)) :: r) (M ++ [.inl (t, n.toNatClampNeg, fun _ => .inl (defaultValue (mc_ty t)))]))
    | none => none
  | _ => none
def mcA_new (own idx pc : Nat) (L : List (Nat × mc_V)) (st : List mc_V) (M : mcA_M) : mcA_O := match mc_find (mc_kl.getD own []) idx with
  | some e => mcA_n (decide (e.1 < 11)) (mcA_go (pc + 3) L (.inl (.ref (256 + M.length)) :: st) (M ++ [.inr (e.1, (List.range (mc_N.getD e.1 0)).map (fun k => .inl (defaultValue (mc_t e.1 k))))]))
  | none => none
def mcA_gs (own idx pc : Nat) (L : List (Nat × mc_V)) (st : List mc_V) (M : mcA_M) : mcA_O := match mc_find (mc_sl.getD own []) idx with
  | some e => match mc_st[e.1]? with
    | some q => mcA_go (pc + 3) L (.inl (.ref q.2.2.2) :: st) M
    | none => none
  | none => none
def mcA_ldc (own idx d pc : Nat) (L : List (Nat × mc_V)) (st : List mc_V) (M : mcA_M) : mcA_O := match mc_find (mc_cs.getD own []) idx with
  | some e => mcA_n (mc_isI e.1) (mcA_go (pc + d) L (.inl e.1 :: st) M)
  | none => match mc_sr.find? (fun q => q.1 == own && q.2.1 == idx) with
    | some q => mcA_go (pc + d) L (.inl (.ref q.2.2.2.1) :: st) M
    | none => none
def mcA_ldc2 (own idx pc : Nat) (L : List (Nat × mc_V)) (st : List mc_V) (M : mcA_M) : mcA_O := match mc_find (mc_cs.getD own []) idx with
  | some e => mcA_n (mc_isL e.1) (mcA_go (pc + 3) L (.inl e.1 :: st) M)
  | none => none
/-- a switch: a known number, or one above or below all -/
def mcA_tsw (dflt lo hi : Int) (offs : Array Int) (pc : Nat) (L : List (Nat × mc_V)) (st : List mc_V) (M : mcA_M) : mcA_O := match st with
  | .inl (.int x) :: r => if x.toInt < lo ∨ hi < x.toInt then mcA_jp pc dflt L r M else match offs[(x.toInt - lo).toNat]? with
    | some off => mcA_jp pc off L r M
    | none => none
  | .inr (some q) :: r => if q.2 < lo ∨ hi < q.1 then mcA_jp pc dflt L r M else none
  | _ => none
def mcA_rs (v : Option mc_V) : List mc_V := match v with
  | some x => [x]
  | none => []
def mcA_cal (call : Nat → List mc_V → mcA_M → Option mcA_R) (own sort idx pc : Nat) (L : List (Nat × mc_V)) (st : List mc_V) (M : mcA_M) : mcA_O := match mc_find (mc_ml.getD own []) idx with
  | some e => match mc_mt e.1 with
    | some q => match call e.1 ((st.take (if sort = 0 then q.2.2.2.2.2.1 else q.2.2.2.2.2.1 + 1)).reverse) M with
      | some w => mcA_n (q.2.2.2.2.2.2 == sort && decide (((st.drop (if sort = 0 then q.2.2.2.2.2.1 else q.2.2.2.2.2.1 + 1)).map mcA_cat).sum ≤ 8) && decide ((if sort = 0 then q.2.2.2.2.2.1 else q.2.2.2.2.2.1 + 1) ≤ st.length)
          && (sort == 0 || match st[q.2.2.2.2.2.1]? with
            | some (.inl (.ref b)) => decide (256 ≤ b) && match M[b - 256]? with
              | some (.inr z) => z.1 == q.1
              | _ => false
            | _ => false)) (mcA_go (pc + 3) L (mcA_rs w.1 ++ st.drop (if sort = 0 then q.2.2.2.2.2.1 else q.2.2.2.2.2.1 + 1)) w.2)
      | none => none
    | none => none
  | none => none
def mcA_obj (own idx pc : Nat) (L : List (Nat × mc_V)) (st : List mc_V) (M : mcA_M) : mcA_O := match st with
  | .inl (.ref _) :: r => match mc_find (mc_ol.getD own []) idx with
    | some _ => mcA_n (decide ((r.map mcA_cat).sum ≤ 8)) (mcA_go (pc + 3) L r M)
    | none => none
  | _ => none
def mcA_math (own idx pc : Nat) (L : List (Nat × mc_V)) (st : List mc_V) (M : mcA_M) : mcA_O := match mc_find (mc_jl.getD own []) idx with
  | some e => match e.1, st with
    | 0, .inl (.int y) :: .inl (.int x) :: r => mcA_n (decide ((r.map mcA_cat).sum ≤ 8)) (mcA_go (pc + 3) L (.inl (.int (if y < x then y else x)) :: r) M)
    | 1, .inl (.int y) :: .inl (.int x) :: r => mcA_n (decide ((r.map mcA_cat).sum ≤ 8)) (mcA_go (pc + 3) L (.inl (.int (if x < y then y else x)) :: r) M)
    | _, _ => none
  | none => none
def mcA_ret (ret : Option FieldType) (st : List mc_V) (M : mcA_M) : mcA_O := match ret, st with
  | some .int, [v] => mcA_n (mcA_isI v) (some (.inr (some v, M)))
  | some .boolean, [.inl (.int v)] => mcA_n (v == 0 || v == 1) (some (.inr (some (.inl (.int v)), M)))
  | _, _ => none
def mcA_retL (ret : Option FieldType) (st : List mc_V) (M : mcA_M) : mcA_O := match ret, st with
  | some .long, [v] => mcA_n (mcA_isL v) (some (.inr (some v, M)))
  | _, _ => none
def mcA_retA (ret : Option FieldType) (st : List mc_V) (M : mcA_M) : mcA_O := match ret, st with
  | some (.object _), [v] => mcA_n (mcA_isA v) (some (.inr (some v, M)))
  | some (.array _), [v] => mcA_n (mcA_isA v) (some (.inr (some v, M)))
  | _, _ => none
def mcA_retV (ret : Option FieldType) (st : List mc_V) (M : mcA_M) : mcA_O := match ret, st with
  | none, [] => some (.inr (none, M))
  | _, _ => none
section AK
variable {pc : Nat} {LA : List (Nat × mc_V)} {sA : List mc_V} {MA : mcA_M} {L : List (Nat × Value)} {st : List Value} {M : mc_M} {r : mcA_S ⊕ mcA_R} {kt : Nat → Option mc_E} {kA : Nat → Option mcA_E} {own : Nat} {off : Int}
theorem mcA_go_k {pc : Nat} {LA : List (Nat × mc_V)} {sA : List mc_V} {MA : mcA_M} {L : List (Nat × Value)} {st : List Value} {M : mc_M} (hL : mcA_R2 mcA_gL LA L) (hs : mcA_R2 mc_g sA st) (hM : mcA_R2 mcA_gE MA M) (h : mcA_go pc LA sA MA = some r) : ∃ r', mc_go pc L st M = some r' ∧ mcA_gX r r' := by
  unfold mcA_go at h
  cases h
  exact ⟨.inl (pc, L, st, M), rfl, rfl, hL, hs, hM⟩
theorem mc_n_i {b : Bool} {o : mc_O} (hb : b = true) : mc_n b o = o := by rw [hb]; rfl
theorem mcA_k_jp (hL : mcA_R2 mcA_gL LA L) (hs : mcA_R2 mc_g sA st) (hM : mcA_R2 mcA_gE MA M) (h : mcA_jp pc off LA sA MA = some r) : ∃ r', mc_jp pc off L st M = some r' ∧ mcA_gX r r' := by
  unfold mcA_jp at h
  unfold mc_jp
  split at h
  · next h0 => rw [if_pos h0]; exact mcA_go_k hL hs hM h
  · cases h
theorem mcA_k_br {b : Bool} (hL : mcA_R2 mcA_gL LA L) (hs : mcA_R2 mc_g sA st) (hM : mcA_R2 mcA_gE MA M) (h : mcA_br b pc off LA sA MA = some r) : ∃ r', mc_br b pc off L st M = some r' ∧ mcA_gX r r' := by
  unfold mcA_br at h
  unfold mc_br
  split at h
  · next h0 =>
    rw [if_pos h0]
    cases b
    · exact mcA_go_k hL hs hM h
    · exact mcA_go_k hL hs hM h
  · cases h
theorem mcA_k_ld {okA : mc_V → Bool} {ok : Value → Bool} (hok : ∀ v x, mc_g v x → okA v = true → ok x = true) {i d : Nat} (hL : mcA_R2 mcA_gL LA L) (hs : mcA_R2 mc_g sA st) (hM : mcA_R2 mcA_gE MA M) (h : mcA_ld okA i d pc LA sA MA = some r) : ∃ r', mc_ld ok i d pc L st M = some r' ∧ mcA_gX r r' := by
  unfold mcA_ld at h
  unfold mc_ld
  split at h
  · next v hv =>
    obtain ⟨hb, h⟩ := mcA_n_t h
    obtain ⟨x, h1, h2⟩ := mcA_find hL hv
    rw [h1]
    dsimp only
    rw [mc_n_i (hok v x h2 hb)]
    exact mcA_go_k hL (by exact ⟨h2, hs⟩) hM h
  · cases h
theorem mcA_k_sv {okA : mc_V → Bool} {ok : Value → Bool} (hok : ∀ v x, mc_g v x → okA v = true → ok x = true) {nL i d : Nat} (hL : mcA_R2 mcA_gL LA L) (hs : mcA_R2 mc_g sA st) (hM : mcA_R2 mcA_gE MA M) (h : mcA_sv okA nL i d pc LA sA MA = some r) : ∃ r', mc_sv ok nL i d pc L st M = some r' ∧ mcA_gX r r' := by
  unfold mcA_sv at h
  unfold mc_sv
  split at h
  · obtain ⟨hb, h⟩ := mcA_n_t h
    simp only [Bool.and_eq_true] at hb
    obtain ⟨x, st', rfl, h1, h2⟩ := hs.cons
    dsimp only
    rw [mc_n_i (by simp only [Bool.and_eq_true]; exact ⟨hok _ x h1 hb.1, hb.2⟩)]
    exact mcA_go_k (mcA_s1_ok hL i h1) h2 hM h
  · cases h
theorem mcA_k_svL {nL i d : Nat} (hL : mcA_R2 mcA_gL LA L) (hs : mcA_R2 mc_g sA st) (hM : mcA_R2 mcA_gE MA M) (h : mcA_svL nL i d pc LA sA MA = some r) : ∃ r', mc_svL nL i d pc L st M = some r' ∧ mcA_gX r r' := by
  unfold mcA_svL at h
  unfold mc_svL
  split at h
  · obtain ⟨hb, h⟩ := mcA_n_t h
    simp only [Bool.and_eq_true] at hb
    obtain ⟨x, st', rfl, h1, h2⟩ := hs.cons
    dsimp only
    rw [mc_n_i (by simp only [Bool.and_eq_true]; exact ⟨mcA_isL_ok h1 hb.1, hb.2⟩)]
    exact mcA_go_k (mcA_s2_ok hL i h1) h2 hM h
  · cases h
theorem mcA_k_inc {nL i : Nat} {k : Int} (hL : mcA_R2 mcA_gL LA L) (hs : mcA_R2 mc_g sA st) (hM : mcA_R2 mcA_gE MA M) (h : mcA_inc nL i k pc LA sA MA = some r) : ∃ r', mc_inc nL i k pc L st M = some r' ∧ mcA_gX r r' := by
  unfold mcA_inc at h
  unfold mc_inc
  split at h
  · next x hv =>
    obtain ⟨hb, h⟩ := mcA_n_t h
    obtain ⟨y, h1, h2⟩ := mcA_find hL hv
    cases (show y = .int x from h2)
    rw [h1]
    dsimp only
    rw [mc_n_i hb]
    exact mcA_go_k (by exact mcA_s1_ok hL i (x := .int (x + Int32.ofInt k)) (by exact rfl)) hs hM h
  · cases h
theorem mcA_isI_val {v : mc_V} {x : Value} (h : mc_g v x) (hv : mcA_isI v = true) : ∃ z : Int32, x = .int z := by
  have := mcA_isI_ok h hv
  cases x with
  | int z => exact ⟨z, rfl⟩
  | _ => cases this
theorem mcA_isL_val {v : mc_V} {x : Value} (h : mc_g v x) (hv : mcA_isL v = true) : ∃ z : Int64, x = .long z := by
  have := mcA_isL_ok h hv
  cases x with
  | long z => exact ⟨z, rfl⟩
  | _ => cases this
theorem mcA_k_ii2 {f : Int32 → Int32 → Int32} (hL : mcA_R2 mcA_gL LA L) (hs : mcA_R2 mc_g sA st) (hM : mcA_R2 mcA_gE MA M) (h : mcA_ii2 f pc LA sA MA = some r) : ∃ r', mc_ii2 (fun x y => some (f x y)) pc L st M = some r' ∧ mcA_gX r r' := by
  unfold mcA_ii2 at h
  split at h
  · next y x rA =>
    obtain ⟨a, s1, rfl, h1, tl1⟩ := hs.cons
    obtain ⟨b, s2, rfl, h2, tl2⟩ := tl1.cons
    cases (show a = .int y from h1)
    cases (show b = .int x from h2)
    exact mcA_go_k hL (by exact ⟨rfl, tl2⟩) hM h
  · obtain ⟨hb, h⟩ := mcA_n_t h
    simp only [Bool.and_eq_true] at hb
    obtain ⟨a, s1, rfl, h1, tl3⟩ := hs.cons
    obtain ⟨b, s2, rfl, h2, tl4⟩ := tl3.cons
    obtain ⟨y, rfl⟩ := mcA_isI_val h1 hb.1
    obtain ⟨x, rfl⟩ := mcA_isI_val h2 hb.2
    exact mcA_go_k hL (by exact ⟨mcA_top_ok (f x y), tl4⟩) hM h
  · cases h
theorem mcA_k_ie2 {f : Int32 → Int32 → Option Int32} (hL : mcA_R2 mcA_gL LA L) (hs : mcA_R2 mc_g sA st) (hM : mcA_R2 mcA_gE MA M) (h : mcA_ie2 f pc LA sA MA = some r) : ∃ r', mc_ii2 f pc L st M = some r' ∧ mcA_gX r r' := by
  unfold mcA_ie2 at h
  split at h
  · next y x rA =>
    split at h
    · next z hz =>
      obtain ⟨a, s1, rfl, h1, tl1⟩ := hs.cons
      obtain ⟨b, s2, rfl, h2, tl2⟩ := tl1.cons
      cases (show a = .int y from h1)
      cases (show b = .int x from h2)
      unfold mc_ii2
      dsimp only
      rw [hz]
      exact mcA_go_k hL (by exact ⟨rfl, tl2⟩) hM h
    · cases h
  · cases h
theorem mcA_k_ll2 {f : Int64 → Int64 → Int64} (hL : mcA_R2 mcA_gL LA L) (hs : mcA_R2 mc_g sA st) (hM : mcA_R2 mcA_gE MA M) (h : mcA_ll2 f pc LA sA MA = some r) : ∃ r', mc_ll2 (fun x y => some (f x y)) pc L st M = some r' ∧ mcA_gX r r' := by
  unfold mcA_ll2 at h
  split at h
  · next y x rA =>
    obtain ⟨a, s1, rfl, h1, tl1⟩ := hs.cons
    obtain ⟨b, s2, rfl, h2, tl2⟩ := tl1.cons
    cases (show a = .long y from h1)
    cases (show b = .long x from h2)
    exact mcA_go_k hL (by exact ⟨rfl, tl2⟩) hM h
  · obtain ⟨hb, h⟩ := mcA_n_t h
    simp only [Bool.and_eq_true] at hb
    obtain ⟨a, s1, rfl, h1, tl3⟩ := hs.cons
    obtain ⟨b, s2, rfl, h2, tl4⟩ := tl3.cons
    obtain ⟨y, rfl⟩ := mcA_isL_val h1 hb.1
    obtain ⟨x, rfl⟩ := mcA_isL_val h2 hb.2
    exact mcA_go_k hL (by exact ⟨⟨f x y, rfl⟩, tl4⟩) hM h
  · cases h
theorem mcA_k_li2 {f : Int64 → Int32 → Int64} (hL : mcA_R2 mcA_gL LA L) (hs : mcA_R2 mc_g sA st) (hM : mcA_R2 mcA_gE MA M) (h : mcA_li2 f pc LA sA MA = some r) : ∃ r', mc_li2 f pc L st M = some r' ∧ mcA_gX r r' := by
  unfold mcA_li2 at h
  split at h
  · next y x rA =>
    obtain ⟨a, s1, rfl, h1, tl1⟩ := hs.cons
    obtain ⟨b, s2, rfl, h2, tl2⟩ := tl1.cons
    cases (show a = .int y from h1)
    cases (show b = .long x from h2)
    exact mcA_go_k hL (by exact ⟨rfl, tl2⟩) hM h
  · obtain ⟨hb, h⟩ := mcA_n_t h
    simp only [Bool.and_eq_true] at hb
    obtain ⟨a, s1, rfl, h1, tl3⟩ := hs.cons
    obtain ⟨b, s2, rfl, h2, tl4⟩ := tl3.cons
    obtain ⟨y, rfl⟩ := mcA_isI_val h1 hb.1
    obtain ⟨x, rfl⟩ := mcA_isL_val h2 hb.2
    exact mcA_go_k hL (by exact ⟨⟨f x y, rfl⟩, tl4⟩) hM h
  · cases h
theorem mcA_k_cmp (hL : mcA_R2 mcA_gL LA L) (hs : mcA_R2 mc_g sA st) (hM : mcA_R2 mcA_gE MA M) (h : mcA_cmp pc LA sA MA = some r) : ∃ r', mc_cmp pc L st M = some r' ∧ mcA_gX r r' := by
  unfold mcA_cmp at h
  split at h
  · next y x rA =>
    obtain ⟨a, s1, rfl, h1, tl1⟩ := hs.cons
    obtain ⟨b, s2, rfl, h2, tl2⟩ := tl1.cons
    cases (show a = .long y from h1)
    cases (show b = .long x from h2)
    exact mcA_go_k hL (by exact ⟨rfl, tl2⟩) hM h
  · cases h
theorem mcA_k_i1 {f : Int32 → Value} {t : mc_V} (ht : ∀ x, mc_g t (f x)) (hL : mcA_R2 mcA_gL LA L) (hs : mcA_R2 mc_g sA st) (hM : mcA_R2 mcA_gE MA M) (h : mcA_i1 f t pc LA sA MA = some r) : ∃ r', mc_i1 f pc L st M = some r' ∧ mcA_gX r r' := by
  unfold mcA_i1 at h
  split at h
  · next x rA =>
    obtain ⟨a, s1, rfl, h1, tl1⟩ := hs.cons
    cases (show a = .int x from h1)
    exact mcA_go_k hL (by exact ⟨rfl, tl1⟩) hM h
  · obtain ⟨hb, h⟩ := mcA_n_t h
    obtain ⟨a, s1, rfl, h1, tl2⟩ := hs.cons
    obtain ⟨x, rfl⟩ := mcA_isI_val h1 hb
    exact mcA_go_k hL (by exact ⟨ht x, tl2⟩) hM h
  · cases h
theorem mcA_k_l1 {f : Int64 → Value} {t : mc_V} (ht : ∀ x, mc_g t (f x)) (hL : mcA_R2 mcA_gL LA L) (hs : mcA_R2 mc_g sA st) (hM : mcA_R2 mcA_gE MA M) (h : mcA_l1 f t pc LA sA MA = some r) : ∃ r', mc_l1 f pc L st M = some r' ∧ mcA_gX r r' := by
  unfold mcA_l1 at h
  split at h
  · next x rA =>
    obtain ⟨a, s1, rfl, h1, tl1⟩ := hs.cons
    cases (show a = .long x from h1)
    exact mcA_go_k hL (by exact ⟨rfl, tl1⟩) hM h
  · obtain ⟨hb, h⟩ := mcA_n_t h
    obtain ⟨a, s1, rfl, h1, tl2⟩ := hs.cons
    obtain ⟨x, rfl⟩ := mcA_isL_val h1 hb
    exact mcA_go_k hL (by exact ⟨ht x, tl2⟩) hM h
  · cases h
theorem mcA_k_ic2 {cd : ClassFile.Cond} {f : Int32 → Int32 → Bool} (hf : ∀ x y, f x y = mc_f2 cd x y) (hL : mcA_R2 mcA_gL LA L) (hs : mcA_R2 mc_g sA st) (hM : mcA_R2 mcA_gE MA M) (h : mcA_ic2 cd pc off LA sA MA = some r) : ∃ r', mc_ic2 f pc off L st M = some r' ∧ mcA_gX r r' := by
  unfold mcA_ic2 at h
  split at h
  · split at h
    · next x y hx hy =>
      split at h
      · next b hb =>
        obtain ⟨p, s1, rfl, h1, tl1⟩ := hs.cons
        obtain ⟨q, s2, rfl, h2, tl2⟩ := tl1.cons
        obtain ⟨zy, rfl, by1⟩ := mcA_rng_ok h1 hy
        obtain ⟨zx, rfl, bx1⟩ := mcA_rng_ok h2 hx
        have hc := mcA_c2_ok bx1 by1 hb
        show ∃ r', mc_br (f zx zy) pc off L s2 M = some r' ∧ _
        rw [hf, hc]
        exact mcA_k_br hL tl2 hM h
      · cases h
    · cases h
  · cases h
theorem mcA_k_ic1 {cd : ClassFile.Cond} {f : Int32 → Bool} (hf : ∀ x, f x = mc_f2 cd x 0) (hL : mcA_R2 mcA_gL LA L) (hs : mcA_R2 mc_g sA st) (hM : mcA_R2 mcA_gE MA M) (h : mcA_ic1 cd pc off LA sA MA = some r) : ∃ r', mc_ic1 f pc off L st M = some r' ∧ mcA_gX r r' := by
  unfold mcA_ic1 at h
  split at h
  · split at h
    · next x hx =>
      split at h
      · next b hb =>
        obtain ⟨q, s2, rfl, h2, tl1⟩ := hs.cons
        obtain ⟨zx, rfl, bx1⟩ := mcA_rng_ok h2 hx
        have hc := mcA_c2_ok (b := 0) bx1 (by rw [Int32.toInt_zero]; exact ⟨Int.le_refl _, Int.le_refl _⟩) hb
        show ∃ r', mc_br (f zx) pc off L s2 M = some r' ∧ _
        rw [hf, hc]
        exact mcA_k_br hL tl1 hM h
      · cases h
    · cases h
  · cases h
theorem mcA_k_icn {f : Bool} (hL : mcA_R2 mcA_gL LA L) (hs : mcA_R2 mc_g sA st) (hM : mcA_R2 mcA_gE MA M) (h : mcA_icn f pc off LA sA MA = some r) : ∃ r', mc_icn f pc off L st M = some r' ∧ mcA_gX r r' := by
  unfold mcA_icn at h
  split at h
  · next b rA =>
    obtain ⟨a, s1, rfl, h1, tl1⟩ := hs.cons
    cases (show a = .ref b from h1)
    exact mcA_k_br hL tl1 hM h
  · obtain ⟨a, s1, rfl, h1, tl2⟩ := hs.cons
    cases (show a = .null from h1)
    exact mcA_k_br hL tl2 hM h
  · cases h
theorem mcA_k_dup (hL : mcA_R2 mcA_gL LA L) (hs : mcA_R2 mc_g sA st) (hM : mcA_R2 mcA_gE MA M) (h : mcA_dup pc LA sA MA = some r) : ∃ r', mc_dup pc L st M = some r' ∧ mcA_gX r r' := by
  unfold mcA_dup at h
  split at h
  · obtain ⟨hb, h⟩ := mcA_n_t h
    obtain ⟨a, s1, rfl, h1, tl1⟩ := hs.cons
    unfold mc_dup
    dsimp only
    rw [mc_n_i (by rw [← mcA_cat_ok h1]; exact hb)]
    exact mcA_go_k hL (by exact ⟨h1, h1, tl1⟩) hM h
  · cases h
theorem mcA_k_pop (hL : mcA_R2 mcA_gL LA L) (hs : mcA_R2 mc_g sA st) (hM : mcA_R2 mcA_gE MA M) (h : mcA_pop pc LA sA MA = some r) : ∃ r', mc_pop pc L st M = some r' ∧ mcA_gX r r' := by
  unfold mcA_pop at h
  split at h
  · obtain ⟨hb, h⟩ := mcA_n_t h
    obtain ⟨a, s1, rfl, h1, tl1⟩ := hs.cons
    unfold mc_pop
    dsimp only
    rw [mc_n_i (by rw [← mcA_cat_ok h1]; exact hb)]
    exact mcA_go_k hL tl1 hM h
  · cases h
theorem mcA_k_pop2 (hL : mcA_R2 mcA_gL LA L) (hs : mcA_R2 mc_g sA st) (hM : mcA_R2 mcA_gE MA M) (h : mcA_pop2 pc LA sA MA = some r) : ∃ r', mc_pop2 pc L st M = some r' ∧ mcA_gX r r' := by
  unfold mcA_pop2 at h
  split at h
  · obtain ⟨hb, h⟩ := mcA_n_t h
    obtain ⟨a, s1, rfl, h1, tl1⟩ := hs.cons
    unfold mc_pop2
    dsimp only
    rw [mc_n_i (by rw [← mcA_cat_ok h1]; exact hb)]
    exact mcA_go_k hL tl1 hM h
  · cases h
theorem mcA_k_dup2 (hL : mcA_R2 mcA_gL LA L) (hs : mcA_R2 mc_g sA st) (hM : mcA_R2 mcA_gE MA M) (h : mcA_dup2 pc LA sA MA = some r) : ∃ r', mc_dup2 pc L st M = some r' ∧ mcA_gX r r' := by
  unfold mcA_dup2 at h
  split at h
  · obtain ⟨hb, h⟩ := mcA_n_t h
    simp only [Bool.and_eq_true, beq_iff_eq] at hb
    obtain ⟨a, s1, rfl, h1, tl1⟩ := hs.cons
    obtain ⟨b, s2, rfl, h2, tl2⟩ := tl1.cons
    rw [mcA_cat_ok h1, mcA_cat_ok h2] at hb
    unfold mc_dup2
    have e1 : (a.category == 2) = false := by rw [hb.1]; rfl
    dsimp only
    rw [e1]
    dsimp only
    rw [mc_n_i (by rw [hb.1, hb.2]; rfl)]
    exact mcA_go_k hL (by exact ⟨h1, h2, h1, h2, tl2⟩) hM h
  · cases h
end AK
