/-! THE MINI MACHINE (own work, wip/gen/mini.py): it runs the bytecode as 'decode' reads it, over a list of cells; a reference k below 256 is a constant (an object from before), k from 256 on is the list's cell k - 256.
A cell: an array (sort, length, elements) or an object (class by its place in mc_cl, fields). A state: place, locals, stack, cells. -/
abbrev mc_E : Type := (Nat × Nat × (Nat → Value)) ⊕ (Nat × List Value)
abbrev mc_M : Type := List mc_E
abbrev mc_S : Type := Nat × List (Nat × Value) × List Value × mc_M
abbrev mc_R : Type := Option Value × mc_M
abbrev mc_O : Type := Option (mc_S ⊕ mc_R)
/-- what an array's sort holds -/
def mc_ty (t : Nat) : FieldType := match t with
  | 0 => .int
  | 1 => .long
  | 2 => .byte
  | 3 => .boolean
  | 4 => .object "StrikeAwake$Person"
  | 5 => .array .int
  | 6 => .array .long
  | _ => .object "StrikeAwake$Reserved"
def mc_find {α : Type} : List (Nat × α) → Nat → Option α
  | [], _ => none
  | q :: r, i => if q.1 = i then some q.2 else mc_find r i
theorem mc_find_mem {α : Type} : ∀ {l : List (Nat × α)} {i : Nat} {a : α}, mc_find l i = some a → (i, a) ∈ l
  | [], _, _, h => by cases h
  | q :: r, i, a, h => by
    unfold mc_find at h
    split at h
    · next e =>
      cases h
      subst e
      exact List.mem_cons_self
    · exact List.mem_cons_of_mem _ (mc_find_mem h)
def mc_s1 (L : List (Nat × Value)) (i : Nat) (v : Value) : List (Nat × Value) := (i, v) :: L.filter (fun q => !(q.1 == i) && !(q.1 + 1 == i && q.2.category == 2))
def mc_s2 (L : List (Nat × Value)) (i : Nat) (v : Value) : List (Nat × Value) := (i, v) :: L.filter (fun q => !(q.1 == i) && (!(q.1 == i + 1) && !(q.1 + 1 == i && q.2.category == 2)))
def mc_in (i : Int32) (n : Nat) : Bool := decide (¬ (i < 0 ∨ n ≤ i.toNatClampNeg))
def mc_isI (v : Value) : Bool := match v with
  | .int _ => true
  | _ => false
def mc_isL (v : Value) : Bool := match v with
  | .long _ => true
  | _ => false
def mc_isA (v : Value) : Bool := match v with
  | .ref _ => true
  | .null => true
  | _ => false
/-- may it stand in a field of this type -/
def mc_fit (ty : FieldType) (v : Value) : Bool := match ty, v with
  | .int, .int _ => true
  | .long, .long _ => true
  | .boolean, .int x => x == 0 || x == 1
  | .object _, .ref _ => true
  | .object _, .null => true
  | .array _, .ref _ => true
  | .array _, .null => true
  | _, _ => false
def mc_go (pc : Nat) (L : List (Nat × Value)) (st : List Value) (M : mc_M) : mc_O := some (.inl (pc, L, st, M))
def mc_jp (pc : Nat) (off : Int) (L : List (Nat × Value)) (st : List Value) (M : mc_M) : mc_O := if 0 ≤ (pc : Int) + off then mc_go ((pc : Int) + off).toNat L st M else none
def mc_br (b : Bool) (pc : Nat) (off : Int) (L : List (Nat × Value)) (st : List Value) (M : mc_M) : mc_O := if 0 ≤ (pc : Int) + off then (match b with
  | true => mc_go ((pc : Int) + off).toNat L st M
  | false => mc_go (pc + 3) L st M) else none
def mc_ce (kt : Nat → Option mc_E) (M : mc_M) (a : Nat) : Option mc_E := if a < 256 then kt a else M[a - 256]?
def mc_n (b : Bool) (o : mc_O) : mc_O := match b with
  | true => o
  | false => none
def mc_ld (ok : Value → Bool) (i d pc : Nat) (L : List (Nat × Value)) (st : List Value) (M : mc_M) : mc_O := match mc_find L i with
  | some v => mc_n (ok v) (mc_go (pc + d) L (v :: st) M)
  | none => none
def mc_sv (ok : Value → Bool) (nL i d pc : Nat) (L : List (Nat × Value)) (st : List Value) (M : mc_M) : mc_O := match st with
  | v :: r => mc_n (ok v && decide (i < nL)) (mc_go (pc + d) (mc_s1 L i v) r M)
  | [] => none
def mc_svL (nL i d pc : Nat) (L : List (Nat × Value)) (st : List Value) (M : mc_M) : mc_O := match st with
  | v :: r => mc_n (mc_isL v && decide (i + 1 < nL)) (mc_go (pc + d) (mc_s2 L i v) r M)
  | [] => none
def mc_inc (nL i : Nat) (k : Int) (pc : Nat) (L : List (Nat × Value)) (st : List Value) (M : mc_M) : mc_O := match mc_find L i with
  | some (.int x) => mc_n (decide (i < nL)) (mc_go (pc + 3) (mc_s1 L i (.int (x + Int32.ofInt k))) st M)
  | _ => none
def mc_ii2 (f : Int32 → Int32 → Option Int32) (pc : Nat) (L : List (Nat × Value)) (st : List Value) (M : mc_M) : mc_O := match st with
  | .int y :: .int x :: r => match f x y with
    | some z => mc_go (pc + 1) L (.int z :: r) M
    | none => none
  | _ => none
def mc_ll2 (f : Int64 → Int64 → Option Int64) (pc : Nat) (L : List (Nat × Value)) (st : List Value) (M : mc_M) : mc_O := match st with
  | .long y :: .long x :: r => match f x y with
    | some z => mc_go (pc + 1) L (.long z :: r) M
    | none => none
  | _ => none
def mc_li2 (f : Int64 → Int32 → Int64) (pc : Nat) (L : List (Nat × Value)) (st : List Value) (M : mc_M) : mc_O := match st with
  | .int y :: .long x :: r => mc_go (pc + 1) L (.long (f x y) :: r) M
  | _ => none
def mc_cmp (pc : Nat) (L : List (Nat × Value)) (st : List Value) (M : mc_M) : mc_O := match st with
  | .long y :: .long x :: r => mc_go (pc + 1) L (.int (lg_cmp x y) :: r) M
  | _ => none
def mc_i1 (f : Int32 → Value) (pc : Nat) (L : List (Nat × Value)) (st : List Value) (M : mc_M) : mc_O := match st with
  | .int x :: r => mc_go (pc + 1) L (f x :: r) M
  | _ => none
def mc_l1 (f : Int64 → Value) (pc : Nat) (L : List (Nat × Value)) (st : List Value) (M : mc_M) : mc_O := match st with
  | .long x :: r => mc_go (pc + 1) L (f x :: r) M
  | _ => none
def mc_ic2 (f : Int32 → Int32 → Bool) (pc : Nat) (off : Int) (L : List (Nat × Value)) (st : List Value) (M : mc_M) : mc_O := match st with
  | .int y :: .int x :: r => mc_br (f x y) pc off L r M
  | _ => none
def mc_ic1 (f : Int32 → Bool) (pc : Nat) (off : Int) (L : List (Nat × Value)) (st : List Value) (M : mc_M) : mc_O := match st with
  | .int x :: r => mc_br (f x) pc off L r M
  | _ => none
def mc_icn (f : Bool) (pc : Nat) (off : Int) (L : List (Nat × Value)) (st : List Value) (M : mc_M) : mc_O := match st with
  | .ref _ :: r => mc_br (!f) pc off L r M
  | .null :: r => mc_br f pc off L r M
  | _ => none
/-- constants of one enum, or null: those alone are compared -/
def mc_en (v : Value) : Option (Option Nat) := match v with
  | .ref a => if 16 ≤ a ∧ a < 27 then some (some a) else none
  | .null => some none
  | _ => none
def mc_ica (f : Bool) (pc : Nat) (off : Int) (L : List (Nat × Value)) (st : List Value) (M : mc_M) : mc_O := match st with
  | y :: x :: r => match mc_en x, mc_en y with
    | some a, some b => mc_br (decide (a = b) == f) pc off L r M
    | _, _ => none
  | _ => none
def mc_dup (pc : Nat) (L : List (Nat × Value)) (st : List Value) (M : mc_M) : mc_O := match st with
  | v :: r => mc_n (v.category == 1) (mc_go (pc + 1) L (v :: v :: r) M)
  | _ => none
def mc_pop (pc : Nat) (L : List (Nat × Value)) (st : List Value) (M : mc_M) : mc_O := match st with
  | v :: r => mc_n (v.category == 1) (mc_go (pc + 1) L r M)
  | _ => none
def mc_dup2 (pc : Nat) (L : List (Nat × Value)) (st : List Value) (M : mc_M) : mc_O := match st with
  | v :: r => match v.category == 2 with
    | true => mc_go (pc + 1) L (v :: v :: r) M
    | false => match r with
      | w :: r2 => mc_n (v.category == 1 && w.category == 1) (mc_go (pc + 1) L (v :: w :: v :: w :: r2) M)
      | _ => none
  | _ => none
def mc_pop2 (pc : Nat) (L : List (Nat × Value)) (st : List Value) (M : mc_M) : mc_O := match st with
  | v :: r => mc_n (v.category == 2) (mc_go (pc + 1) L r M)
  | _ => none
def mc_getf (kt : Nat → Option mc_E) (own idx pc : Nat) (L : List (Nat × Value)) (st : List Value) (M : mc_M) : mc_O := match st with
  | .ref a :: r => match mc_find (mc_fl.getD own []) idx with
    | some e => match mc_ce kt M a with
      | some (.inr q) => match q.2[e.2.1]? with
        | some v => mc_n (q.1 == e.1 && (decide (a < 256) == decide (20 ≤ e.1)) && (decide (a < 256) || decide (e.2.1 < mc_N.getD e.1 0))) (mc_go (pc + 3) L (v :: r) M)
        | none => none
      | _ => none
    | none => none
  | _ => none
def mc_putf (own : Nat) (ini : Bool) (idx pc : Nat) (L : List (Nat × Value)) (st : List Value) (M : mc_M) : mc_O := match st with
  | v :: .ref a :: r => match mc_find (mc_fl.getD own []) idx with
    | some e => match M[a - 256]? with
      | some (.inr q) => mc_n (q.1 == e.1 && decide (256 ≤ a) && decide (e.1 < 11) && decide (e.2.1 < mc_N.getD e.1 0) && decide (e.2.1 < q.2.length) && mc_fit (mc_t e.1 e.2.1) v && (!(mc_T e.1 e.2.1).2.2.2 || (ini && own == e.1 && !e.2.2.1))) (mc_go (pc + 3) L r (M.set (a - 256) (.inr (q.1, q.2.set e.2.1 v))))
      | _ => none
    | none => none
  | _ => none
def mc_ald (kt : Nat → Option mc_E) (ok : Nat → Bool) (pc : Nat) (L : List (Nat × Value)) (st : List Value) (M : mc_M) : mc_O := match st with
  | .int i :: .ref a :: r => match mc_ce kt M a with
    | some (.inl q) => mc_n (ok q.1 && mc_in i q.2.1 && (decide (a < 256) || decide (q.1 < 7))) (mc_go (pc + 1) L (q.2.2 i.toNatClampNeg :: r) M)
    | _ => none
  | _ => none
def mc_ast (kt : Nat → Option mc_E) (ok : Nat → Value → Bool) (w : Nat → Value → Value) (pc : Nat) (L : List (Nat × Value)) (st : List Value) (M : mc_M) : mc_O := match st with
  | v :: .int i :: .ref a :: r => match M[a - 256]? with
    | some (.inl q) => mc_n (decide (256 ≤ a) && ok q.1 v && mc_in i q.2.1) (mc_go (pc + 1) L r (M.set (a - 256) (.inl (q.1, q.2.1, updV q.2.2 i.toNatClampNeg (w q.1 v)))))
    | _ => none
  | _ => none
/-- is it an object of class 8 (Person), or null -/
def mc_isP (M : mc_M) (t : Nat) (v : Value) : Bool := t == 4 && match v with
  | .ref b => decide (256 ≤ b) && match M[b - 256]? with
    | some (.inr q) => q.1 == 8
    | _ => false
  | _ => false
def mc_len (kt : Nat → Option mc_E) (pc : Nat) (L : List (Nat × Value)) (st : List Value) (M : mc_M) : mc_O := match st with
  | .ref a :: r => match mc_ce kt M a with
    | some (.inl q) => mc_n (decide (a < 256) || decide (q.1 < 7)) (mc_go (pc + 1) L (.int (Int32.ofNat q.2.1) :: r) M)
    | _ => none
  | _ => none
def mc_tag (a : ArrayType) : Option Nat := match a with
  | .int => some 0
  | .long => some 1
  | .byte => some 2
  | .boolean => some 3
  | _ => none
def mc_newa (a : ArrayType) (pc : Nat) (L : List (Nat × Value)) (st : List Value) (M : mc_M) : mc_O := match st with
  | .int n :: r => match mc_tag a with
    | some t => mc_n (decide (¬ n < 0) && decide (n.toNatClampNeg ≤ 100000)) (mc_go (pc + 2) L (.ref (256 + M.length) :: r) (M ++ [.inl (t, n.toNatClampNeg, fun _ => defaultValue (mc_ty t))]))
    | none => none
  | _ => none
def mc_anew (own idx pc : Nat) (L : List (Nat × Value)) (st : List Value) (M : mc_M) : mc_O := match st with
  | .int n :: r => match mc_find (mc_kl.getD own []) idx with
    | some e => mc_n (e.1 == 8 && decide (¬ n < 0) && decide (n.toNatClampNeg ≤ 100000)) (mc_go (pc + 3) L (.ref (256 + M.length) :: r) (M ++ [.inl (4, n.toNatClampNeg, fun _ => .null)]))
    | none => none
  | _ => none
def mc_mna (own idx pc : Nat) (L : List (Nat × Value)) (st : List Value) (M : mc_M) : mc_O := match st with
  | .int k :: .int n :: r => match mc_find (mc_gl.getD own []) idx with
    | some e => mc_n (decide (e.1 < 2) && decide (¬ n < 0) && decide (¬ k < 0) && decide (n.toNatClampNeg ≤ 100000) && decide (k.toNatClampNeg ≤ 100000)) (mc_go (pc + 4) L (.ref (256 + M.length) :: r) ((M ++ [.inl (5 + e.1, n.toNatClampNeg, fun i => if i < n.toNatClampNeg then .ref (256 + M.length + 1 + i) else .null)]) ++ List.replicate n.toNatClampNeg (.inl (e.1, k.toNatClampNeg, fun _ => defaultValue (mc_ty e.1)))))
    | none => none
  | _ => none
def mc_new (own idx pc : Nat) (L : List (Nat × Value)) (st : List Value) (M : mc_M) : mc_O := match mc_find (mc_kl.getD own []) idx with
  | some e => mc_n (decide (e.1 < 11)) (mc_go (pc + 3) L (.ref (256 + M.length) :: st) (M ++ [.inr (e.1, (List.range (mc_N.getD e.1 0)).map (fun k => defaultValue (mc_t e.1 k)))]))
  | none => none
def mc_gs (own idx pc : Nat) (L : List (Nat × Value)) (st : List Value) (M : mc_M) : mc_O := match mc_find (mc_sl.getD own []) idx with
  | some e => match mc_st[e.1]? with
    | some q => mc_go (pc + 3) L (.ref q.2.2.2 :: st) M
    | none => none
  | none => none
def mc_ldc (own idx d pc : Nat) (L : List (Nat × Value)) (st : List Value) (M : mc_M) : mc_O := match mc_find (mc_cs.getD own []) idx with
  | some e => mc_n (mc_isI e.1) (mc_go (pc + d) L (e.1 :: st) M)
  | none => match mc_sr.find? (fun q => q.1 == own && q.2.1 == idx) with
    | some q => mc_go (pc + d) L (.ref q.2.2.2.1 :: st) M
    | none => none
def mc_ldc2 (own idx pc : Nat) (L : List (Nat × Value)) (st : List Value) (M : mc_M) : mc_O := match mc_find (mc_cs.getD own []) idx with
  | some e => mc_n (mc_isL e.1) (mc_go (pc + 3) L (e.1 :: st) M)
  | none => none
def mc_tsw (dflt lo hi : Int) (offs : Array Int) (pc : Nat) (L : List (Nat × Value)) (st : List Value) (M : mc_M) : mc_O := match st with
  | .int x :: r => if x.toInt < lo ∨ hi < x.toInt then mc_jp pc dflt L r M else match offs[(x.toInt - lo).toNat]? with
    | some off => mc_jp pc off L r M
    | none => none
  | _ => none
def mc_rs (v : Option Value) : List Value := match v with
  | some x => [x]
  | none => []
/-- a call: 'sort' as the instruction has it (0 static, 1 by receiver, 2 constructor) -/
def mc_cal (call : Nat → List Value → mc_M → Option mc_R) (own sort idx pc : Nat) (L : List (Nat × Value)) (st : List Value) (M : mc_M) : mc_O := match mc_find (mc_ml.getD own []) idx with
  | some e => match mc_mt e.1 with
    | some q => match call e.1 ((st.take (if sort = 0 then q.2.2.2.2.2.1 else q.2.2.2.2.2.1 + 1)).reverse) M with
      | some w => mc_n (q.2.2.2.2.2.2 == sort && decide (((st.drop (if sort = 0 then q.2.2.2.2.2.1 else q.2.2.2.2.2.1 + 1)).map Value.category).sum ≤ 8) && decide ((if sort = 0 then q.2.2.2.2.2.1 else q.2.2.2.2.2.1 + 1) ≤ st.length)
          && (sort == 0 || match st[q.2.2.2.2.2.1]? with
            | some (.ref b) => decide (256 ≤ b) && match M[b - 256]? with
              | some (.inr z) => z.1 == q.1
              | _ => false
            | _ => false)) (mc_go (pc + 3) L (mc_rs w.1 ++ st.drop (if sort = 0 then q.2.2.2.2.2.1 else q.2.2.2.2.2.1 + 1)) w.2)
      | none => none
    | none => none
  | none => none
def mc_obj (own idx pc : Nat) (L : List (Nat × Value)) (st : List Value) (M : mc_M) : mc_O := match st with
  | .ref _ :: r => match mc_find (mc_ol.getD own []) idx with
    | some _ => mc_n (decide ((r.map Value.category).sum ≤ 8)) (mc_go (pc + 3) L r M)
    | none => none
  | _ => none
def mc_math (own idx pc : Nat) (L : List (Nat × Value)) (st : List Value) (M : mc_M) : mc_O := match mc_find (mc_jl.getD own []) idx with
  | some e => match e.1, st with
    | 0, .int y :: .int x :: r => mc_n (decide ((r.map Value.category).sum ≤ 8)) (mc_go (pc + 3) L (.int (if y < x then y else x) :: r) M)
    | 1, .int y :: .int x :: r => mc_n (decide ((r.map Value.category).sum ≤ 8)) (mc_go (pc + 3) L (.int (if x < y then y else x) :: r) M)
    | 2, .int x :: r => mc_n (decide ((r.map Value.category).sum ≤ 8)) (mc_go (pc + 3) L (.int (if 0 ≤ x then x else 0 - x) :: r) M)
    | _, _ => none
  | none => none
/-- methods of the JDK's on constants: a text's length and letters, an enum constant's place -/
def mc_prim (own idx pc : Nat) (L : List (Nat × Value)) (st : List Value) (M : mc_M) : mc_O := match mc_find (mc_pl.getD own []) idx with
  | some e => match e.1, st with
    | 0, .ref k :: r => match mc_find mc_sb k with
      | some b => mc_n (decide ((r.map Value.category).sum ≤ 8)) (mc_go (pc + 3) L (.int (Int32.ofNat b.length) :: r) M)
      | none => none
    | 1, .int i :: .ref k :: r => match mc_find mc_sb k with
      | some b => mc_n (mc_in i b.length && decide ((r.map Value.category).sum ≤ 8)) (mc_go (pc + 3) L (.int (b.getD i.toNatClampNeg 0) :: r) M)
      | none => none
    | 2, .ref k :: r => mc_n (decide (16 ≤ k) && decide (k < 27) && decide ((r.map Value.category).sum ≤ 8)) (mc_go (pc + 3) L (.int (Int32.ofNat (k - 16)) :: r) M)
    | _, _ => none
  | none => none
def mc_or (a b : mc_O) : mc_O := match a with
  | some x => some x
  | none => b
def mc_ret (ret : Option FieldType) (st : List Value) (M : mc_M) : mc_O := match ret, st with
  | some .int, [.int v] => some (.inr (some (.int v), M))
  | some .boolean, [.int v] => mc_n (v == 0 || v == 1) (some (.inr (some (.int v), M)))
  | _, _ => none
def mc_retL (ret : Option FieldType) (st : List Value) (M : mc_M) : mc_O := match ret, st with
  | some .long, [.long v] => some (.inr (some (.long v), M))
  | _, _ => none
def mc_retA (ret : Option FieldType) (st : List Value) (M : mc_M) : mc_O := match ret, st with
  | some (.object _), [v] => mc_n (mc_isA v) (some (.inr (some v, M)))
  | some (.array _), [v] => mc_n (mc_isA v) (some (.inr (some v, M)))
  | _, _ => none
def mc_retV (ret : Option FieldType) (st : List Value) (M : mc_M) : mc_O := match ret, st with
  | none, [] => some (.inr (none, M))
  | _, _ => none
/-- one instruction -/
def mc_step (kt : Nat → Option mc_E) (call : Nat → List Value → mc_M → Option mc_R) (own nL : Nat) (ini : Bool) (ret : Option FieldType) (x : Instr) (n : Nat) (S : mc_S) : mc_O := match x with
  | .iconst i => mc_n (n == 1) (mc_go (S.1 + 1) S.2.1 (.int (Int32.ofInt i) :: S.2.2.1) S.2.2.2)
  | .bipush i => mc_n (n == 2) (mc_go (S.1 + 2) S.2.1 (.int (Int8.ofInt i).toInt32 :: S.2.2.1) S.2.2.2)
  | .sipush i => mc_n (n == 3) (mc_go (S.1 + 3) S.2.1 (.int (Int16.ofInt i).toInt32 :: S.2.2.1) S.2.2.2)
  | .lconst i => mc_n (n == 1) (mc_go (S.1 + 1) S.2.1 (.long (Int64.ofNat (i : Nat)) :: S.2.2.1) S.2.2.2)
  | .aconst_null => mc_n (n == 1) (mc_go (S.1 + 1) S.2.1 (.null :: S.2.2.1) S.2.2.2)
  | .iload_n i => mc_n (n == 1) (mc_ld mc_isI (i : Nat) 1 S.1 S.2.1 S.2.2.1 S.2.2.2)
  | .iload i => mc_n (n == 2) (mc_ld mc_isI i 2 S.1 S.2.1 S.2.2.1 S.2.2.2)
  | .lload_n i => mc_n (n == 1) (mc_ld mc_isL (i : Nat) 1 S.1 S.2.1 S.2.2.1 S.2.2.2)
  | .lload i => mc_n (n == 2) (mc_ld mc_isL i 2 S.1 S.2.1 S.2.2.1 S.2.2.2)
  | .aload_n i => mc_n (n == 1) (mc_ld mc_isA (i : Nat) 1 S.1 S.2.1 S.2.2.1 S.2.2.2)
  | .aload i => mc_n (n == 2) (mc_ld mc_isA i 2 S.1 S.2.1 S.2.2.1 S.2.2.2)
  | .istore_n i => mc_n (n == 1) (mc_sv mc_isI nL (i : Nat) 1 S.1 S.2.1 S.2.2.1 S.2.2.2)
  | .istore i => mc_n (n == 2) (mc_sv mc_isI nL i 2 S.1 S.2.1 S.2.2.1 S.2.2.2)
  | .astore_n i => mc_n (n == 1) (mc_sv mc_isA nL (i : Nat) 1 S.1 S.2.1 S.2.2.1 S.2.2.2)
  | .astore i => mc_n (n == 2) (mc_sv mc_isA nL i 2 S.1 S.2.1 S.2.2.1 S.2.2.2)
  | .lstore_n i => mc_n (n == 1) (mc_svL nL (i : Nat) 1 S.1 S.2.1 S.2.2.1 S.2.2.2)
  | .lstore i => mc_n (n == 2) (mc_svL nL i 2 S.1 S.2.1 S.2.2.1 S.2.2.2)
  | .iinc i k => mc_n (n == 3) (mc_inc nL i k S.1 S.2.1 S.2.2.1 S.2.2.2)
  | .iadd => mc_n (n == 1) (mc_ii2 (fun x y => some (x + y)) S.1 S.2.1 S.2.2.1 S.2.2.2)
  | .isub => mc_n (n == 1) (mc_ii2 (fun x y => some (x - y)) S.1 S.2.1 S.2.2.1 S.2.2.2)
  | .imul => mc_n (n == 1) (mc_ii2 (fun x y => some (x * y)) S.1 S.2.1 S.2.2.1 S.2.2.2)
  | .iand => mc_n (n == 1) (mc_ii2 (fun x y => some (x &&& y)) S.1 S.2.1 S.2.2.1 S.2.2.2)
  | .ior => mc_n (n == 1) (mc_ii2 (fun x y => some (x ||| y)) S.1 S.2.1 S.2.2.1 S.2.2.2)
  | .ixor => mc_n (n == 1) (mc_ii2 (fun x y => some (x ^^^ y)) S.1 S.2.1 S.2.2.1 S.2.2.2)
  | .ishl => mc_n (n == 1) (mc_ii2 (fun x y => some (x <<< (y &&& 31))) S.1 S.2.1 S.2.2.1 S.2.2.2)
  | .ishr => mc_n (n == 1) (mc_ii2 (fun x y => some (x >>> (y &&& 31))) S.1 S.2.1 S.2.2.1 S.2.2.2)
  | .iushr => mc_n (n == 1) (mc_ii2 (fun x y => some (x.toUInt32 >>> (y.toUInt32 &&& Int32.toUInt32 31)).toInt32) S.1 S.2.1 S.2.2.1 S.2.2.2)
  | .idiv => mc_n (n == 1) (mc_ii2 (fun x y => if y = 0 then none else some (x / y)) S.1 S.2.1 S.2.2.1 S.2.2.2)
  | .irem => mc_n (n == 1) (mc_ii2 (fun x y => if y = 0 then none else some (x - x / y * y)) S.1 S.2.1 S.2.2.1 S.2.2.2)
  | .ladd => mc_n (n == 1) (mc_ll2 (fun x y => some (x + y)) S.1 S.2.1 S.2.2.1 S.2.2.2)
  | .lsub => mc_n (n == 1) (mc_ll2 (fun x y => some (x - y)) S.1 S.2.1 S.2.2.1 S.2.2.2)
  | .lmul => mc_n (n == 1) (mc_ll2 (fun x y => some (x * y)) S.1 S.2.1 S.2.2.1 S.2.2.2)
  | .land => mc_n (n == 1) (mc_ll2 (fun x y => some (x &&& y)) S.1 S.2.1 S.2.2.1 S.2.2.2)
  | .lor => mc_n (n == 1) (mc_ll2 (fun x y => some (x ||| y)) S.1 S.2.1 S.2.2.1 S.2.2.2)
  | .ldiv => mc_n (n == 1) (mc_ll2 (fun x y => if y = 0 then none else some (x / y)) S.1 S.2.1 S.2.2.1 S.2.2.2)
  | .lrem => mc_n (n == 1) (mc_ll2 (fun x y => if y = 0 then none else some (x - x / y * y)) S.1 S.2.1 S.2.2.1 S.2.2.2)
  | .lshl => mc_n (n == 1) (mc_li2 (fun x y => x <<< (y.toInt64 &&& 63)) S.1 S.2.1 S.2.2.1 S.2.2.2)
  | .lshr => mc_n (n == 1) (mc_li2 (fun x y => x >>> (y.toInt64 &&& 63)) S.1 S.2.1 S.2.2.1 S.2.2.2)
  | .lcmp => mc_n (n == 1) (mc_cmp S.1 S.2.1 S.2.2.1 S.2.2.2)
  | .ineg => mc_n (n == 1) (mc_i1 (fun x => .int (-x)) S.1 S.2.1 S.2.2.1 S.2.2.2)
  | .i2l => mc_n (n == 1) (mc_i1 (fun x => .long x.toInt64) S.1 S.2.1 S.2.2.1 S.2.2.2)
  | .i2b => mc_n (n == 1) (mc_i1 (fun x => .int x.toInt8.toInt32) S.1 S.2.1 S.2.2.1 S.2.2.2)
  | .l2i => mc_n (n == 1) (mc_l1 (fun x => .int x.toInt32) S.1 S.2.1 S.2.2.1 S.2.2.2)
  | .if_icmp .eq off => mc_n (n == 3) (mc_ic2 (fun x y => decide (x = y)) S.1 off S.2.1 S.2.2.1 S.2.2.2)
  | .if_icmp .ne off => mc_n (n == 3) (mc_ic2 (fun x y => decide (¬ x = y)) S.1 off S.2.1 S.2.2.1 S.2.2.2)
  | .if_icmp .lt off => mc_n (n == 3) (mc_ic2 (fun x y => decide (x < y)) S.1 off S.2.1 S.2.2.1 S.2.2.2)
  | .if_icmp .ge off => mc_n (n == 3) (mc_ic2 (fun x y => decide (y ≤ x)) S.1 off S.2.1 S.2.2.1 S.2.2.2)
  | .if_icmp .gt off => mc_n (n == 3) (mc_ic2 (fun x y => decide (y < x)) S.1 off S.2.1 S.2.2.1 S.2.2.2)
  | .if_icmp .le off => mc_n (n == 3) (mc_ic2 (fun x y => decide (x ≤ y)) S.1 off S.2.1 S.2.2.1 S.2.2.2)
  | .ifCond .eq off => mc_n (n == 3) (mc_ic1 (fun x => decide (x = 0)) S.1 off S.2.1 S.2.2.1 S.2.2.2)
  | .ifCond .ne off => mc_n (n == 3) (mc_ic1 (fun x => decide (¬ x = 0)) S.1 off S.2.1 S.2.2.1 S.2.2.2)
  | .ifCond .lt off => mc_n (n == 3) (mc_ic1 (fun x => decide (x < 0)) S.1 off S.2.1 S.2.2.1 S.2.2.2)
  | .ifCond .ge off => mc_n (n == 3) (mc_ic1 (fun x => decide (0 ≤ x)) S.1 off S.2.1 S.2.2.1 S.2.2.2)
  | .ifCond .gt off => mc_n (n == 3) (mc_ic1 (fun x => decide (0 < x)) S.1 off S.2.1 S.2.2.1 S.2.2.2)
  | .ifCond .le off => mc_n (n == 3) (mc_ic1 (fun x => decide (x ≤ 0)) S.1 off S.2.1 S.2.2.1 S.2.2.2)
  | .ifnull off => mc_n (n == 3) (mc_icn true S.1 off S.2.1 S.2.2.1 S.2.2.2)
  | .ifnonnull off => mc_n (n == 3) (mc_icn false S.1 off S.2.1 S.2.2.1 S.2.2.2)
  | .if_acmp .eq off => mc_n (n == 3) (mc_ica true S.1 off S.2.1 S.2.2.1 S.2.2.2)
  | .if_acmp .ne off => mc_n (n == 3) (mc_ica false S.1 off S.2.1 S.2.2.1 S.2.2.2)
  | .goto off => mc_n (n == 3) (mc_jp S.1 off S.2.1 S.2.2.1 S.2.2.2)
  | .dup => mc_n (n == 1) (mc_dup S.1 S.2.1 S.2.2.1 S.2.2.2)
  | .pop => mc_n (n == 1) (mc_pop S.1 S.2.1 S.2.2.1 S.2.2.2)
  | .dup2 => mc_n (n == 1) (mc_dup2 S.1 S.2.1 S.2.2.1 S.2.2.2)
  | .pop2 => mc_n (n == 1) (mc_pop2 S.1 S.2.1 S.2.2.1 S.2.2.2)
  | .getfield i => mc_n (n == 3) (mc_getf kt own i S.1 S.2.1 S.2.2.1 S.2.2.2)
  | .putfield i => mc_n (n == 3) (mc_putf own ini i S.1 S.2.1 S.2.2.1 S.2.2.2)
  | .iaload => mc_n (n == 1) (mc_ald kt (fun t => t == 0) S.1 S.2.1 S.2.2.1 S.2.2.2)
  | .laload => mc_n (n == 1) (mc_ald kt (fun t => t == 1) S.1 S.2.1 S.2.2.1 S.2.2.2)
  | .baload => mc_n (n == 1) (mc_ald kt (fun t => t == 2 || t == 3) S.1 S.2.1 S.2.2.1 S.2.2.2)
  | .aaload => mc_n (n == 1) (mc_ald kt (fun t => decide (4 ≤ t)) S.1 S.2.1 S.2.2.1 S.2.2.2)
  | .iastore => mc_n (n == 1) (mc_ast kt (fun t v => t == 0 && mc_isI v) (fun _ v => v) S.1 S.2.1 S.2.2.1 S.2.2.2)
  | .lastore => mc_n (n == 1) (mc_ast kt (fun t v => t == 1 && mc_isL v) (fun _ v => v) S.1 S.2.1 S.2.2.1 S.2.2.2)
  | .bastore => mc_n (n == 1) (mc_ast kt (fun t v => (t == 2 || t == 3) && mc_isI v) (fun t v => narrow (mc_ty t) v) S.1 S.2.1 S.2.2.1 S.2.2.2)
  | .aastore => mc_n (n == 1) (mc_ast kt (mc_isP S.2.2.2) (fun _ v => v) S.1 S.2.1 S.2.2.1 S.2.2.2)
  | .arraylength => mc_n (n == 1) (mc_len kt S.1 S.2.1 S.2.2.1 S.2.2.2)
  | .newarray a => mc_n (n == 2) (mc_newa a S.1 S.2.1 S.2.2.1 S.2.2.2)
  | .anewarray i => mc_n (n == 3) (mc_anew own i S.1 S.2.1 S.2.2.1 S.2.2.2)
  | .multianewarray i 2 => mc_n (n == 4) (mc_mna own i S.1 S.2.1 S.2.2.1 S.2.2.2)
  | .new i => mc_n (n == 3) (mc_new own i S.1 S.2.1 S.2.2.1 S.2.2.2)
  | .getstatic i => mc_n (n == 3) (mc_gs own i S.1 S.2.1 S.2.2.1 S.2.2.2)
  | .ldc i => mc_n (n == 2) (mc_ldc own i 2 S.1 S.2.1 S.2.2.1 S.2.2.2)
  | .ldc_w i => mc_n (n == 3) (mc_ldc own i 3 S.1 S.2.1 S.2.2.1 S.2.2.2)
  | .ldc2_w i => mc_n (n == 3) (mc_ldc2 own i S.1 S.2.1 S.2.2.1 S.2.2.2)
  | .tableswitch d lo hi offs => mc_tsw d lo hi offs S.1 S.2.1 S.2.2.1 S.2.2.2
  | .invokevirtual i => mc_n (n == 3) (mc_or (mc_cal call own 1 i S.1 S.2.1 S.2.2.1 S.2.2.2) (mc_prim own i S.1 S.2.1 S.2.2.1 S.2.2.2))
  | .invokestatic i => mc_n (n == 3) (mc_or (mc_cal call own 0 i S.1 S.2.1 S.2.2.1 S.2.2.2) (mc_math own i S.1 S.2.1 S.2.2.1 S.2.2.2))
  | .invokespecial i => mc_n (n == 3) (mc_or (mc_cal call own 2 i S.1 S.2.1 S.2.2.1 S.2.2.2) (mc_obj own i S.1 S.2.1 S.2.2.1 S.2.2.2))
  | .ireturn => mc_n (n == 1) (mc_ret ret S.2.2.1 S.2.2.2)
  | .lreturn => mc_n (n == 1) (mc_retL ret S.2.2.1 S.2.2.2)
  | .areturn => mc_n (n == 1) (mc_retA ret S.2.2.1 S.2.2.2)
  | .return_ => mc_n (n == 1) (mc_retV ret S.2.2.1 S.2.2.2)
  | _ => none
/-- instructions, one behind another, at most so many -/
def mc_loop (kt : Nat → Option mc_E) (call : Nat → List Value → mc_M → Option mc_R) (own nL : Nat) (ini : Bool) (ret : Option FieldType) (cc : ByteArray) : Nat → mc_S → Option mc_R
  | 0, _ => none
  | n + 1, S => match decode cc S.1 with
    | .ok (x, k) => match mc_step kt call own nL ini ret x k S with
      | some (.inl S1) => mc_loop kt call own nL ini ret cc n S1
      | some (.inr w) => some w
      | none => none
    | .error _ => none
/-- method k, called with these values; d: how deep calls may go -/
def mc_call (kt : Nat → Option mc_E) (F : Nat) : Nat → Nat → List Value → mc_M → Option mc_R
  | 0, _, _, _ => none
  | d + 1, k, as, M => match mc_mt k with
    | some q => match decide ((lg_sl as).length ≤ q.2.2.2.1) with
      | true => mc_loop kt (mc_call kt F d) q.1 q.2.2.2.1 (q.2.2.2.2.2.2 == 2) q.2.2.2.2.1 q.2.2.1 F (0, lv_args 0 as, [], M)
      | false => none
    | none => none
