section
/-! THE MINI MACHINE (own work, wip/gen/mini.py): it runs the bytecode as 'decode' reads it, over a list of cells; a reference k below 256 is a constant (an object from before), k from 256 on is the list's cell k - 256.
A cell: an array (sort, length, elements) or an object (class by its place in mc_cl, fields). A state: place, locals, stack, cells. -/
abbrev mc_E : Type := (Nat × Nat × (Nat → Value)) ⊕ (Nat × List Value)
abbrev mc_M : Type := List mc_E
abbrev mc_S : Type := Nat × List (Nat × Value) × List Value × mc_M
abbrev mc_R : Type := Option Value × mc_M
abbrev mc_O : Type := Option (mc_S ⊕ mc_R)
/-- what an array's sort holds -/
def mc_ty (t : Nat) : FieldType := match t with
  | 0 => .int
  | 1 => .long
  | 2 => .byte
  | 3 => .boolean
  | 4 => .object "StrikeAwake$Person"
  | 5 => .array .int
  | 6 => .array .long
  | _ => .object "StrikeAwake$Reserved"
def mc_find {α : Type} : List (Nat × α) → Nat → Option α
  | [], _ => none
  | q :: r, i => if q.1 = i then some q.2 else mc_find r i
theorem mc_find_mem {α : Type} : ∀ {l : List (Nat × α)} {i : Nat} {a : α}, mc_find l i = some a → (i, a) ∈ l
  | [], _, _, h => by cases h
  | q :: r, i, a, h => by
    unfold mc_find at h
    split at h
    · next e =>
      cases h
      subst e
      exact List.mem_cons_self
    · exact List.mem_cons_of_mem _ (mc_find_mem h)
def mc_s1 (L : List (Nat × Value)) (i : Nat) (v : Value) : List (Nat × Value) := (i, v) :: L.filter (fun q => !(q.1 == i) && !(q.1 + 1 == i && q.2.category == 2))
def mc_s2 (L : List (Nat × Value)) (i : Nat) (v : Value) : List (Nat × Value) := (i, v) :: L.filter (fun q => !(q.1 == i) && (!(q.1 == i + 1) && !(q.1 + 1 == i && q.2.category == 2)))
def mc_in (i : Int32) (n : Nat) : Bool := decide (¬ (i < 0 ∨ n ≤ i.toNatClampNeg))
def mc_isI (v : Value) : Bool := match v with
  | .int _ => true
  | _ => false
def mc_isL (v : Value) : Bool := match v with
  | .long _ => true
  | _ => false
def mc_isA (v : Value) : Bool := match v with
  | .ref _ => true
  | .null => true
  | _ => false
/-- may it stand in a field of this type -/
def mc_fit (ty : FieldType) (v : Value) : Bool := match ty, v with
  | .int, .int _ => true
  | .long, .long _ => true
  | .boolean, .int x => x == 0 || x == 1
  | .object _, .ref _ => true
  | .object _, .null => true
  | .array _, .ref _ => true
  | .array _, .null => true
  | _, _ => false
def mc_go (pc : Nat) (L : List (Nat × Value)) (st : List Value) (M : mc_M) : mc_O := some (.inl (pc, L, st, M))
def mc_jp (pc : Nat) (off : Int) (L : List (Nat × Value)) (st : List Value) (M : mc_M) : mc_O := if 0 ≤ (pc : Int) + off then mc_go ((pc : Int) + off).toNat L st M else none
def mc_br (b : Bool) (pc : Nat) (off : Int) (L : List (Nat × Value)) (st : List Value) (M : mc_M) : mc_O := if 0 ≤ (pc : Int) + off then (match b with
  | true => mc_go ((pc : Int) + off).toNat L st M
  | false => mc_go (pc + 3) L st M) else none
def mc_ce (kt : Nat → Option mc_E) (M : mc_M) (a : Nat) : Option mc_E := if a < 256 then kt a else M[a - 256]?
def mc_n (b : Bool) (o : mc_O) : mc_O := match b with
  | true => o
  | false => none
def mc_ld (ok : Value → Bool) (i d pc : Nat) (L : List (Nat × Value)) (st : List Value) (M : mc_M) : mc_O := match mc_find L i with
  | some v => mc_n (ok v) (mc_go (pc + d) L (v :: st) M)
  | none => none
def mc_sv (ok : Value → Bool) (nL i d pc : Nat) (L : List (Nat × Value)) (st : List Value) (M : mc_M) : mc_O := match st with
  | v :: r => mc_n (ok v && decide (i < nL)) (mc_go (pc + d) (mc_s1 L i v) r M)
  | [] => none
def mc_svL (nL i d pc : Nat) (L : List (Nat × Value)) (st : List Value) (M : mc_M) : mc_O := match st with
  | v :: r => mc_n (mc_isL v && decide (i + 1 < nL)) (mc_go (pc + d) (mc_s2 L i v) r M)
  | [] => none
def mc_inc (nL i : Nat) (k : Int) (pc : Nat) (L : List (Nat × Value)) (st : List Value) (M : mc_M) : mc_O := match mc_find L i with
  | some (.int x) => mc_n (decide (i < nL)) (mc_go (pc + 3) (mc_s1 L i (.int (x + Int32.ofInt k))) st M)
  | _ => none
def mc_ii2 (f : Int32 → Int32 → Option Int32) (pc : Nat) (L : List (Nat × Value)) (st : List Value) (M : mc_M) : mc_O := match st with
  | .int y :: .int x :: r => match f x y with
    | some z => mc_go (pc + 1) L (.int z :: r) M
    | none => none
  | _ => none
def mc_ll2 (f : Int64 → Int64 → Option Int64) (pc : Nat) (L : List (Nat × Value)) (st : List Value) (M : mc_M) : mc_O := match st with
  | .long y :: .long x :: r => match f x y with
    | some z => mc_go (pc + 1) L (.long z :: r) M
    | none => none
  | _ => none
def mc_li2 (f : Int64 → Int32 → Int64) (pc : Nat) (L : List (Nat × Value)) (st : List Value) (M : mc_M) : mc_O := match st with
  | .int y :: .long x :: r => mc_go (pc + 1) L (.long (f x y) :: r) M
  | _ => none
def mc_cmp (pc : Nat) (L : List (Nat × Value)) (st : List Value) (M : mc_M) : mc_O := match st with
  | .long y :: .long x :: r => mc_go (pc + 1) L (.int (lg_cmp x y) :: r) M
  | _ => none
def mc_i1 (f : Int32 → Value) (pc : Nat) (L : List (Nat × Value)) (st : List Value) (M : mc_M) : mc_O := match st with
  | .int x :: r => mc_go (pc + 1) L (f x :: r) M
  | _ => none
def mc_l1 (f : Int64 → Value) (pc : Nat) (L : List (Nat × Value)) (st : List Value) (M : mc_M) : mc_O := match st with
  | .long x :: r => mc_go (pc + 1) L (f x :: r) M
  | _ => none
def mc_ic2 (f : Int32 → Int32 → Bool) (pc : Nat) (off : Int) (L : List (Nat × Value)) (st : List Value) (M : mc_M) : mc_O := match st with
  | .int y :: .int x :: r => mc_br (f x y) pc off L r M
  | _ => none
def mc_ic1 (f : Int32 → Bool) (pc : Nat) (off : Int) (L : List (Nat × Value)) (st : List Value) (M : mc_M) : mc_O := match st with
  | .int x :: r => mc_br (f x) pc off L r M
  | _ => none
def mc_icn (f : Bool) (pc : Nat) (off : Int) (L : List (Nat × Value)) (st : List Value) (M : mc_M) : mc_O := match st with
  | .ref _ :: r => mc_br (!f) pc off L r M
  | .null :: r => mc_br f pc off L r M
  | _ => none
/-- constants of one enum, or null: those alone are compared -/
def mc_en (v : Value) : Option (Option Nat) := match v with
  | .ref a => if 16 ≤ a ∧ a < 27 then some (some a) else none
  | .null => some none
  | _ => none
def mc_ica (f : Bool) (pc : Nat) (off : Int) (L : List (Nat × Value)) (st : List Value) (M : mc_M) : mc_O := match st with
  | y :: x :: r => match mc_en x, mc_en y with
    | some a, some b => mc_br (decide (a = b) == f) pc off L r M
    | _, _ => none
  | _ => none
def mc_dup (pc : Nat) (L : List (Nat × Value)) (st : List Value) (M : mc_M) : mc_O := match st with
  | v :: r => mc_n (v.category == 1) (mc_go (pc + 1) L (v :: v :: r) M)
  | _ => none
def mc_pop (pc : Nat) (L : List (Nat × Value)) (st : List Value) (M : mc_M) : mc_O := match st with
  | v :: r => mc_n (v.category == 1) (mc_go (pc + 1) L r M)
  | _ => none
def mc_dup2 (pc : Nat) (L : List (Nat × Value)) (st : List Value) (M : mc_M) : mc_O := match st with
  | v :: r => match v.category == 2 with
    | true => mc_go (pc + 1) L (v :: v :: r) M
    | false => match r with
      | w :: r2 => mc_n (v.category == 1 && w.category == 1) (mc_go (pc + 1) L (v :: w :: v :: w :: r2) M)
      | _ => none
  | _ => none
def mc_pop2 (pc : Nat) (L : List (Nat × Value)) (st : List Value) (M : mc_M) : mc_O := match st with
  | v :: r => mc_n (v.category == 2) (mc_go (pc + 1) L r M)
  | _ => none
def mc_getf (kt : Nat → Option mc_E) (own idx pc : Nat) (L : List (Nat × Value)) (st : List Value) (M : mc_M) : mc_O := match st with
  | .ref a :: r => match mc_find (mc_fl.getD own []) idx with
    | some e => match mc_ce kt M a with
      | some (.inr q) => match q.2[e.2.1]? with
        | some v => mc_n (q.1 == e.1 && (decide (a < 256) == decide (20 ≤ e.1)) && (decide (a < 256) || decide (e.2.1 < mc_N.getD e.1 0))) (mc_go (pc + 3) L (v :: r) M)
        | none => none
      | _ => none
    | none => none
  | _ => none
def mc_putf (own : Nat) (ini : Bool) (idx pc : Nat) (L : List (Nat × Value)) (st : List Value) (M : mc_M) : mc_O := match st with
  | v :: .ref a :: r => match mc_find (mc_fl.getD own []) idx with
    | some e => match M[a - 256]? with
      | some (.inr q) => mc_n (q.1 == e.1 && decide (256 ≤ a) && decide (e.1 < 11) && decide (e.2.1 < mc_N.getD e.1 0) && decide (e.2.1 < q.2.length) && mc_fit (mc_t e.1 e.2.1) v && (!(mc_T e.1 e.2.1).2.2.2 || (ini && own == e.1 && !e.2.2.1))) (mc_go (pc + 3) L r (M.set (a - 256) (.inr (q.1, q.2.set e.2.1 v))))
      | _ => none
    | none => none
  | _ => none
def mc_ald (kt : Nat → Option mc_E) (ok : Nat → Bool) (pc : Nat) (L : List (Nat × Value)) (st : List Value) (M : mc_M) : mc_O := match st with
  | .int i :: .ref a :: r => match mc_ce kt M a with
    | some (.inl q) => mc_n (ok q.1 && mc_in i q.2.1 && (decide (a < 256) || decide (q.1 < 7))) (mc_go (pc + 1) L (q.2.2 i.toNatClampNeg :: r) M)
    | _ => none
  | _ => none
def mc_ast (kt : Nat → Option mc_E) (ok : Nat → Value → Bool) (w : Nat → Value → Value) (pc : Nat) (L : List (Nat × Value)) (st : List Value) (M : mc_M) : mc_O := match st with
  | v :: .int i :: .ref a :: r => match M[a - 256]? with
    | some (.inl q) => mc_n (decide (256 ≤ a) && ok q.1 v && mc_in i q.2.1) (mc_go (pc + 1) L r (M.set (a - 256) (.inl (q.1, q.2.1, updV q.2.2 i.toNatClampNeg (w q.1 v)))))
    | _ => none
  | _ => none
/-- is it an object of class 8 (Person), or null -/
def mc_isP (M : mc_M) (t : Nat) (v : Value) : Bool := t == 4 && match v with
  | .ref b => decide (256 ≤ b) && match M[b - 256]? with
    | some (.inr q) => q.1 == 8
    | _ => false
  | _ => false
def mc_len (kt : Nat → Option mc_E) (pc : Nat) (L : List (Nat × Value)) (st : List Value) (M : mc_M) : mc_O := match st with
  | .ref a :: r => match mc_ce kt M a with
    | some (.inl q) => mc_n (decide (a < 256) || decide (q.1 < 7)) (mc_go (pc + 1) L (.int (Int32.ofNat q.2.1) :: r) M)
    | _ => none
  | _ => none
def mc_tag (a : ArrayType) : Option Nat := match a with
  | .int => some 0
  | .long => some 1
  | .byte => some 2
  | .boolean => some 3
  | _ => none
def mc_newa (a : ArrayType) (pc : Nat) (L : List (Nat × Value)) (st : List Value) (M : mc_M) : mc_O := match st with
  | .int n :: r => match mc_tag a with
    | some t => mc_n (decide (¬ n < 0) && decide (n.toNatClampNeg ≤ 100000)) (mc_go (pc + 2) L (.ref (256 + M.length) :: r) (M ++ [.inl (t, n.toNatClampNeg, fun _ => defaultValue (mc_ty t))]))
    | none => none
  | _ => none
def mc_anew (own idx pc : Nat) (L : List (Nat × Value)) (st : List Value) (M : mc_M) : mc_O := match st with
  | .int n :: r => match mc_find (mc_kl.getD own []) idx with
    | some e => mc_n (e.1 == 8 && decide (¬ n < 0) && decide (n.toNatClampNeg ≤ 100000)) (mc_go (pc + 3) L (.ref (256 + M.length) :: r) (M ++ [.inl (4, n.toNatClampNeg, fun _ => .null)]))
    | none => none
  | _ => none
def mc_mna (own idx pc : Nat) (L : List (Nat × Value)) (st : List Value) (M : mc_M) : mc_O := match st with
  | .int k :: .int n :: r => match mc_find (mc_gl.getD own []) idx with
    | some e => mc_n (decide (e.1 < 2) && decide (¬ n < 0) && decide (¬ k < 0) && decide (n.toNatClampNeg ≤ 100000) && decide (k.toNatClampNeg ≤ 100000)) (mc_go (pc + 4) L (.ref (256 + M.length) :: r) ((M ++ [.inl (5 + e.1, n.toNatClampNeg, fun i => if i < n.toNatClampNeg then .ref (256 + M.length + 1 + i) else .null)]) ++ List.replicate n.toNatClampNeg (.inl (e.1, k.toNatClampNeg, fun _ => defaultValue (mc_ty e.1)))))
    | none => none
  | _ => none
def mc_new (own idx pc : Nat) (L : List (Nat × Value)) (st : List Value) (M : mc_M) : mc_O := match mc_find (mc_kl.getD own []) idx with
  | some e => mc_n (decide (e.1 < 11)) (mc_go (pc + 3) L (.ref (256 + M.length) :: st) (M ++ [.inr (e.1, (List.range (mc_N.getD e.1 0)).map (fun k => defaultValue (mc_t e.1 k)))]))
  | none => none
def mc_gs (own idx pc : Nat) (L : List (Nat × Value)) (st : List Value) (M : mc_M) : mc_O := match mc_find (mc_sl.getD own []) idx with
  | some e => match mc_st[e.1]? with
    | some q => mc_go (pc + 3) L (.ref q.2.2.2 :: st) M
    | none => none
  | none => none
def mc_ldc (own idx d pc : Nat) (L : List (Nat × Value)) (st : List Value) (M : mc_M) : mc_O := match mc_find (mc_cs.getD own []) idx with
  | some e => mc_n (mc_isI e.1) (mc_go (pc + d) L (e.1 :: st) M)
  | none => match mc_sr.find? (fun q => q.1 == own && q.2.1 == idx) with
    | some q => mc_go (pc + d) L (.ref q.2.2.2.1 :: st) M
    | none => none
def mc_ldc2 (own idx pc : Nat) (L : List (Nat × Value)) (st : List Value) (M : mc_M) : mc_O := match mc_find (mc_cs.getD own []) idx with
  | some e => mc_n (mc_isL e.1) (mc_go (pc + 3) L (e.1 :: st) M)
  | none => none
def mc_tsw (dflt lo hi : Int) (offs : Array Int) (pc : Nat) (L : List (Nat × Value)) (st : List Value) (M : mc_M) : mc_O := match st with
  | .int x :: r => if x.toInt < lo ∨ hi < x.toInt then mc_jp pc dflt L r M else match offs[(x.toInt - lo).toNat]? with
    | some off => mc_jp pc off L r M
    | none => none
  | _ => none
def mc_rs (v : Option Value) : List Value := match v with
  | some x => [x]
  | none => []
/-- a call: 'sort' as the instruction has it (0 static, 1 by receiver, 2 constructor) -/
def mc_cal (call : Nat → List Value → mc_M → Option mc_R) (own sort idx pc : Nat) (L : List (Nat × Value)) (st : List Value) (M : mc_M) : mc_O := match mc_find (mc_ml.getD own []) idx with
  | some e => match mc_mt e.1 with
    | some q => match call e.1 ((st.take (if sort = 0 then q.2.2.2.2.2.1 else q.2.2.2.2.2.1 + 1)).reverse) M with
      | some w => mc_n (q.2.2.2.2.2.2 == sort && decide (((st.drop (if sort = 0 then q.2.2.2.2.2.1 else q.2.2.2.2.2.1 + 1)).map Value.category).sum ≤ 8) && decide ((if sort = 0 then q.2.2.2.2.2.1 else q.2.2.2.2.2.1 + 1) ≤ st.length)
          && (sort == 0 || match st[q.2.2.2.2.2.1]? with
            | some (.ref b) => decide (256 ≤ b) && match M[b - 256]? with
              | some (.inr z) => z.1 == q.1
              | _ => false
            | _ => false)) (mc_go (pc + 3) L (mc_rs w.1 ++ st.drop (if sort = 0 then q.2.2.2.2.2.1 else q.2.2.2.2.2.1 + 1)) w.2)
      | none => none
    | none => none
  | none => none
def mc_obj (own idx pc : Nat) (L : List (Nat × Value)) (st : List Value) (M : mc_M) : mc_O := match st with
  | .ref _ :: r => match mc_find (mc_ol.getD own []) idx with
    | some _ => mc_n (decide ((r.map Value.category).sum ≤ 8)) (mc_go (pc + 3) L r M)
    | none => none
  | _ => none
def mc_math (own idx pc : Nat) (L : List (Nat × Value)) (st : List Value) (M : mc_M) : mc_O := match mc_find (mc_jl.getD own []) idx with
  | some e => match e.1, st with
    | 0, .int y :: .int x :: r => mc_n (decide ((r.map Value.category).sum ≤ 8)) (mc_go (pc + 3) L (.int (if y < x then y else x) :: r) M)
    | 1, .int y :: .int x :: r => mc_n (decide ((r.map Value.category).sum ≤ 8)) (mc_go (pc + 3) L (.int (if x < y then y else x) :: r) M)
    | 2, .int x :: r => mc_n (decide ((r.map Value.category).sum ≤ 8)) (mc_go (pc + 3) L (.int (if 0 ≤ x then x else 0 - x) :: r) M)
    | _, _ => none
  | none => none
/-- methods of the JDK's on constants: a text's length and letters, an enum constant's place -/
def mc_prim (own idx pc : Nat) (L : List (Nat × Value)) (st : List Value) (M : mc_M) : mc_O := match mc_find (mc_pl.getD own []) idx with
  | some e => match e.1, st with
    | 0, .ref k :: r => match mc_find mc_sb k with
      | some b => mc_n (decide ((r.map Value.category).sum ≤ 8)) (mc_go (pc + 3) L (.int (Int32.ofNat b.length) :: r) M)
      | none => none
    | 1, .int i :: .ref k :: r => match mc_find mc_sb k with
      | some b => mc_n (mc_in i b.length && decide ((r.map Value.category).sum ≤ 8)) (mc_go (pc + 3) L (.int (b.getD i.toNatClampNeg 0) :: r) M)
      | none => none
    | 2, .ref k :: r => mc_n (decide (16 ≤ k) && decide (k < 27) && decide ((r.map Value.category).sum ≤ 8)) (mc_go (pc + 3) L (.int (Int32.ofNat (k - 16)) :: r) M)
    | _, _ => none
  | none => none
def mc_or (a b : mc_O) : mc_O := match a with
  | some x => some x
  | none => b
def mc_ret (ret : Option FieldType) (st : List Value) (M : mc_M) : mc_O := match ret, st with
  | some .int, [.int v] => some (.inr (some (.int v), M))
  | some .boolean, [.int v] => mc_n (v == 0 || v == 1) (some (.inr (some (.int v), M)))
  | _, _ => none
def mc_retL (ret : Option FieldType) (st : List Value) (M : mc_M) : mc_O := match ret, st with
  | some .long, [.long v] => some (.inr (some (.long v), M))
  | _, _ => none
def mc_retA (ret : Option FieldType) (st : List Value) (M : mc_M) : mc_O := match ret, st with
  | some (.object _), [v] => mc_n (mc_isA v) (some (.inr (some v, M)))
  | some (.array _), [v] => mc_n (mc_isA v) (some (.inr (some v, M)))
  | _, _ => none
def mc_retV (ret : Option FieldType) (st : List Value) (M : mc_M) : mc_O := match ret, st with
  | none, [] => some (.inr (none, M))
  | _, _ => none
/-- one instruction -/
def mc_step (kt : Nat → Option mc_E) (call : Nat → List Value → mc_M → Option mc_R) (own nL : Nat) (ini : Bool) (ret : Option FieldType) (x : Instr) (n : Nat) (S : mc_S) : mc_O := match x with
  | .iconst i => mc_n (n == 1) (mc_go (S.1 + 1) S.2.1 (.int (Int32.ofInt i) :: S.2.2.1) S.2.2.2)
  | .bipush i => mc_n (n == 2) (mc_go (S.1 + 2) S.2.1 (.int (Int8.ofInt i).toInt32 :: S.2.2.1) S.2.2.2)
  | .sipush i => mc_n (n == 3) (mc_go (S.1 + 3) S.2.1 (.int (Int16.ofInt i).toInt32 :: S.2.2.1) S.2.2.2)
  | .lconst i => mc_n (n == 1) (mc_go (S.1 + 1) S.2.1 (.long (Int64.ofNat (i : Nat)) :: S.2.2.1) S.2.2.2)
  | .aconst_null => mc_n (n == 1) (mc_go (S.1 + 1) S.2.1 (.null :: S.2.2.1) S.2.2.2)
  | .iload_n i => mc_n (n == 1) (mc_ld mc_isI (i : Nat) 1 S.1 S.2.1 S.2.2.1 S.2.2.2)
  | .iload i => mc_n (n == 2) (mc_ld mc_isI i 2 S.1 S.2.1 S.2.2.1 S.2.2.2)
  | .lload_n i => mc_n (n == 1) (mc_ld mc_isL (i : Nat) 1 S.1 S.2.1 S.2.2.1 S.2.2.2)
  | .lload i => mc_n (n == 2) (mc_ld mc_isL i 2 S.1 S.2.1 S.2.2.1 S.2.2.2)
  | .aload_n i => mc_n (n == 1) (mc_ld mc_isA (i : Nat) 1 S.1 S.2.1 S.2.2.1 S.2.2.2)
  | .aload i => mc_n (n == 2) (mc_ld mc_isA i 2 S.1 S.2.1 S.2.2.1 S.2.2.2)
  | .istore_n i => mc_n (n == 1) (mc_sv mc_isI nL (i : Nat) 1 S.1 S.2.1 S.2.2.1 S.2.2.2)
  | .istore i => mc_n (n == 2) (mc_sv mc_isI nL i 2 S.1 S.2.1 S.2.2.1 S.2.2.2)
  | .astore_n i => mc_n (n == 1) (mc_sv mc_isA nL (i : Nat) 1 S.1 S.2.1 S.2.2.1 S.2.2.2)
  | .astore i => mc_n (n == 2) (mc_sv mc_isA nL i 2 S.1 S.2.1 S.2.2.1 S.2.2.2)
  | .lstore_n i => mc_n (n == 1) (mc_svL nL (i : Nat) 1 S.1 S.2.1 S.2.2.1 S.2.2.2)
  | .lstore i => mc_n (n == 2) (mc_svL nL i 2 S.1 S.2.1 S.2.2.1 S.2.2.2)
  | .iinc i k => mc_n (n == 3) (mc_inc nL i k S.1 S.2.1 S.2.2.1 S.2.2.2)
  | .iadd => mc_n (n == 1) (mc_ii2 (fun x y => some (x + y)) S.1 S.2.1 S.2.2.1 S.2.2.2)
  | .isub => mc_n (n == 1) (mc_ii2 (fun x y => some (x - y)) S.1 S.2.1 S.2.2.1 S.2.2.2)
  | .imul => mc_n (n == 1) (mc_ii2 (fun x y => some (x * y)) S.1 S.2.1 S.2.2.1 S.2.2.2)
  | .iand => mc_n (n == 1) (mc_ii2 (fun x y => some (x &&& y)) S.1 S.2.1 S.2.2.1 S.2.2.2)
  | .ior => mc_n (n == 1) (mc_ii2 (fun x y => some (x ||| y)) S.1 S.2.1 S.2.2.1 S.2.2.2)
  | .ixor => mc_n (n == 1) (mc_ii2 (fun x y => some (x ^^^ y)) S.1 S.2.1 S.2.2.1 S.2.2.2)
  | .ishl => mc_n (n == 1) (mc_ii2 (fun x y => some (x <<< (y &&& 31))) S.1 S.2.1 S.2.2.1 S.2.2.2)
  | .ishr => mc_n (n == 1) (mc_ii2 (fun x y => some (x >>> (y &&& 31))) S.1 S.2.1 S.2.2.1 S.2.2.2)
  | .iushr => mc_n (n == 1) (mc_ii2 (fun x y => some (x.toUInt32 >>> (y.toUInt32 &&& Int32.toUInt32 31)).toInt32) S.1 S.2.1 S.2.2.1 S.2.2.2)
  | .idiv => mc_n (n == 1) (mc_ii2 (fun x y => if y = 0 then none else some (x / y)) S.1 S.2.1 S.2.2.1 S.2.2.2)
  | .irem => mc_n (n == 1) (mc_ii2 (fun x y => if y = 0 then none else some (x - x / y * y)) S.1 S.2.1 S.2.2.1 S.2.2.2)
  | .ladd => mc_n (n == 1) (mc_ll2 (fun x y => some (x + y)) S.1 S.2.1 S.2.2.1 S.2.2.2)
  | .lsub => mc_n (n == 1) (mc_ll2 (fun x y => some (x - y)) S.1 S.2.1 S.2.2.1 S.2.2.2)
  | .lmul => mc_n (n == 1) (mc_ll2 (fun x y => some (x * y)) S.1 S.2.1 S.2.2.1 S.2.2.2)
  | .land => mc_n (n == 1) (mc_ll2 (fun x y => some (x &&& y)) S.1 S.2.1 S.2.2.1 S.2.2.2)
  | .lor => mc_n (n == 1) (mc_ll2 (fun x y => some (x ||| y)) S.1 S.2.1 S.2.2.1 S.2.2.2)
  | .ldiv => mc_n (n == 1) (mc_ll2 (fun x y => if y = 0 then none else some (x / y)) S.1 S.2.1 S.2.2.1 S.2.2.2)
  | .lrem => mc_n (n == 1) (mc_ll2 (fun x y => if y = 0 then none else some (x - x / y * y)) S.1 S.2.1 S.2.2.1 S.2.2.2)
  | .lshl => mc_n (n == 1) (mc_li2 (fun x y => x <<< (y.toInt64 &&& 63)) S.1 S.2.1 S.2.2.1 S.2.2.2)
  | .lshr => mc_n (n == 1) (mc_li2 (fun x y => x >>> (y.toInt64 &&& 63)) S.1 S.2.1 S.2.2.1 S.2.2.2)
  | .lcmp => mc_n (n == 1) (mc_cmp S.1 S.2.1 S.2.2.1 S.2.2.2)
  | .ineg => mc_n (n == 1) (mc_i1 (fun x => .int (-x)) S.1 S.2.1 S.2.2.1 S.2.2.2)
  | .i2l => mc_n (n == 1) (mc_i1 (fun x => .long x.toInt64) S.1 S.2.1 S.2.2.1 S.2.2.2)
  | .i2b => mc_n (n == 1) (mc_i1 (fun x => .int x.toInt8.toInt32) S.1 S.2.1 S.2.2.1 S.2.2.2)
  | .l2i => mc_n (n == 1) (mc_l1 (fun x => .int x.toInt32) S.1 S.2.1 S.2.2.1 S.2.2.2)
  | .if_icmp .eq off => mc_n (n == 3) (mc_ic2 (fun x y => decide (x = y)) S.1 off S.2.1 S.2.2.1 S.2.2.2)
  | .if_icmp .ne off => mc_n (n == 3) (mc_ic2 (fun x y => decide (¬ x = y)) S.1 off S.2.1 S.2.2.1 S.2.2.2)
  | .if_icmp .lt off => mc_n (n == 3) (mc_ic2 (fun x y => decide (x < y)) S.1 off S.2.1 S.2.2.1 S.2.2.2)
  | .if_icmp .ge off => mc_n (n == 3) (mc_ic2 (fun x y => decide (y ≤ x)) S.1 off S.2.1 S.2.2.1 S.2.2.2)
  | .if_icmp .gt off => mc_n (n == 3) (mc_ic2 (fun x y => decide (y < x)) S.1 off S.2.1 S.2.2.1 S.2.2.2)
  | .if_icmp .le off => mc_n (n == 3) (mc_ic2 (fun x y => decide (x ≤ y)) S.1 off S.2.1 S.2.2.1 S.2.2.2)
  | .ifCond .eq off => mc_n (n == 3) (mc_ic1 (fun x => decide (x = 0)) S.1 off S.2.1 S.2.2.1 S.2.2.2)
  | .ifCond .ne off => mc_n (n == 3) (mc_ic1 (fun x => decide (¬ x = 0)) S.1 off S.2.1 S.2.2.1 S.2.2.2)
  | .ifCond .lt off => mc_n (n == 3) (mc_ic1 (fun x => decide (x < 0)) S.1 off S.2.1 S.2.2.1 S.2.2.2)
  | .ifCond .ge off => mc_n (n == 3) (mc_ic1 (fun x => decide (0 ≤ x)) S.1 off S.2.1 S.2.2.1 S.2.2.2)
  | .ifCond .gt off => mc_n (n == 3) (mc_ic1 (fun x => decide (0 < x)) S.1 off S.2.1 S.2.2.1 S.2.2.2)
  | .ifCond .le off => mc_n (n == 3) (mc_ic1 (fun x => decide (x ≤ 0)) S.1 off S.2.1 S.2.2.1 S.2.2.2)
  | .ifnull off => mc_n (n == 3) (mc_icn true S.1 off S.2.1 S.2.2.1 S.2.2.2)
  | .ifnonnull off => mc_n (n == 3) (mc_icn false S.1 off S.2.1 S.2.2.1 S.2.2.2)
  | .if_acmp .eq off => mc_n (n == 3) (mc_ica true S.1 off S.2.1 S.2.2.1 S.2.2.2)
  | .if_acmp .ne off => mc_n (n == 3) (mc_ica false S.1 off S.2.1 S.2.2.1 S.2.2.2)
  | .goto off => mc_n (n == 3) (mc_jp S.1 off S.2.1 S.2.2.1 S.2.2.2)
  | .dup => mc_n (n == 1) (mc_dup S.1 S.2.1 S.2.2.1 S.2.2.2)
  | .pop => mc_n (n == 1) (mc_pop S.1 S.2.1 S.2.2.1 S.2.2.2)
  | .dup2 => mc_n (n == 1) (mc_dup2 S.1 S.2.1 S.2.2.1 S.2.2.2)
  | .pop2 => mc_n (n == 1) (mc_pop2 S.1 S.2.1 S.2.2.1 S.2.2.2)
  | .getfield i => mc_n (n == 3) (mc_getf kt own i S.1 S.2.1 S.2.2.1 S.2.2.2)
  | .putfield i => mc_n (n == 3) (mc_putf own ini i S.1 S.2.1 S.2.2.1 S.2.2.2)
  | .iaload => mc_n (n == 1) (mc_ald kt (fun t => t == 0) S.1 S.2.1 S.2.2.1 S.2.2.2)
  | .laload => mc_n (n == 1) (mc_ald kt (fun t => t == 1) S.1 S.2.1 S.2.2.1 S.2.2.2)
  | .baload => mc_n (n == 1) (mc_ald kt (fun t => t == 2 || t == 3) S.1 S.2.1 S.2.2.1 S.2.2.2)
  | .aaload => mc_n (n == 1) (mc_ald kt (fun t => decide (4 ≤ t)) S.1 S.2.1 S.2.2.1 S.2.2.2)
  | .iastore => mc_n (n == 1) (mc_ast kt (fun t v => t == 0 && mc_isI v) (fun _ v => v) S.1 S.2.1 S.2.2.1 S.2.2.2)
  | .lastore => mc_n (n == 1) (mc_ast kt (fun t v => t == 1 && mc_isL v) (fun _ v => v) S.1 S.2.1 S.2.2.1 S.2.2.2)
  | .bastore => mc_n (n == 1) (mc_ast kt (fun t v => (t == 2 || t == 3) && mc_isI v) (fun t v => narrow (mc_ty t) v) S.1 S.2.1 S.2.2.1 S.2.2.2)
  | .aastore => mc_n (n == 1) (mc_ast kt (mc_isP S.2.2.2) (fun _ v => v) S.1 S.2.1 S.2.2.1 S.2.2.2)
  | .arraylength => mc_n (n == 1) (mc_len kt S.1 S.2.1 S.2.2.1 S.2.2.2)
  | .newarray a => mc_n (n == 2) (mc_newa a S.1 S.2.1 S.2.2.1 S.2.2.2)
  | .anewarray i => mc_n (n == 3) (mc_anew own i S.1 S.2.1 S.2.2.1 S.2.2.2)
  | .multianewarray i 2 => mc_n (n == 4) (mc_mna own i S.1 S.2.1 S.2.2.1 S.2.2.2)
  | .new i => mc_n (n == 3) (mc_new own i S.1 S.2.1 S.2.2.1 S.2.2.2)
  | .getstatic i => mc_n (n == 3) (mc_gs own i S.1 S.2.1 S.2.2.1 S.2.2.2)
  | .ldc i => mc_n (n == 2) (mc_ldc own i 2 S.1 S.2.1 S.2.2.1 S.2.2.2)
  | .ldc_w i => mc_n (n == 3) (mc_ldc own i 3 S.1 S.2.1 S.2.2.1 S.2.2.2)
  | .ldc2_w i => mc_n (n == 3) (mc_ldc2 own i S.1 S.2.1 S.2.2.1 S.2.2.2)
  | .tableswitch d lo hi offs => mc_tsw d lo hi offs S.1 S.2.1 S.2.2.1 S.2.2.2
  | .invokevirtual i => mc_n (n == 3) (mc_or (mc_cal call own 1 i S.1 S.2.1 S.2.2.1 S.2.2.2) (mc_prim own i S.1 S.2.1 S.2.2.1 S.2.2.2))
  | .invokestatic i => mc_n (n == 3) (mc_or (mc_cal call own 0 i S.1 S.2.1 S.2.2.1 S.2.2.2) (mc_math own i S.1 S.2.1 S.2.2.1 S.2.2.2))
  | .invokespecial i => mc_n (n == 3) (mc_or (mc_cal call own 2 i S.1 S.2.1 S.2.2.1 S.2.2.2) (mc_obj own i S.1 S.2.1 S.2.2.1 S.2.2.2))
  | .ireturn => mc_n (n == 1) (mc_ret ret S.2.2.1 S.2.2.2)
  | .lreturn => mc_n (n == 1) (mc_retL ret S.2.2.1 S.2.2.2)
  | .areturn => mc_n (n == 1) (mc_retA ret S.2.2.1 S.2.2.2)
  | .return_ => mc_n (n == 1) (mc_retV ret S.2.2.1 S.2.2.2)
  | _ => none
/-- instructions, one behind another, at most so many -/
def mc_loop (kt : Nat → Option mc_E) (call : Nat → List Value → mc_M → Option mc_R) (own nL : Nat) (ini : Bool) (ret : Option FieldType) (cc : ByteArray) : Nat → mc_S → Option mc_R
  | 0, _ => none
  | n + 1, S => match decode cc S.1 with
    | .ok (x, k) => match mc_step kt call own nL ini ret x k S with
      | some (.inl S1) => mc_loop kt call own nL ini ret cc n S1
      | some (.inr w) => some w
      | none => none
    | .error _ => none
/-- method k, called with these values; d: how deep calls may go -/
def mc_call (kt : Nat → Option mc_E) (F : Nat) : Nat → Nat → List Value → mc_M → Option mc_R
  | 0, _, _, _ => none
  | d + 1, k, as, M => match mc_mt k with
    | some q => match decide ((lg_sl as).length ≤ q.2.2.2.1) with
      | true => mc_loop kt (mc_call kt F d) q.1 q.2.2.2.1 (q.2.2.2.2.2.2 == 2) q.2.2.2.2.1 q.2.2.1 F (0, lv_args 0 as, [], M)
      | false => none
    | none => none
end
section
/-! THE MINI MACHINE'S CELLS IN THE HEAP (own work). G: where the constants are, where the list of cells begins, the array classes, the classes and their slots. -/
abbrev mc_G : Type := (Nat → Nat) × Nat × (Nat → ClassId) × va_G
def mc_a (G : mc_G) (k : Nat) : Nat := if k < 256 then G.1 k else G.2.1 + (k - 256)
def mc_v (G : mc_G) (v : Value) : Value := match v with
  | .ref k => .ref (mc_a G k)
  | .int x => .int x
  | .long x => .long x
  | .float x => .float x
  | .double x => .double x
  | .null => .null
  | .retAddr x => .retAddr x
def mc_L (G : mc_G) (L : List (Nat × Value)) : List (Nat × Value) := L.map (fun q => (q.1, mc_v G q.2))
def mc_cell (G : mc_G) (a : Nat) (e : mc_E) (H : Heap) : Prop := match e with
  | .inl x => x.1 < 7 → H[a]? = some (arrV (G.2.2.1 x.1) x.2.1 (fun j => mc_v G (x.2.2 j)))
  | .inr o => ∃ r : vw_C, mc_cl[o.1]? = some r ∧ t_OB a (G.2.2.2.1 o.1) r.2.2 (G.2.2.2.2 o.1) H (vp_V (o.2.map (mc_v G)))
def mc_H (G : mc_G) (M : mc_M) (H : Heap) : Prop := H.size = G.2.1 + M.length ∧ ∀ (k : Nat) (e : mc_E), M[k]? = some e → mc_cell G (G.2.1 + k) e H
def mc_es (e : mc_E) : Nat := match e with
  | .inl x => x.2.1
  | .inr o => o.2.length
def mc_sz (M : mc_M) : Nat := (M.map mc_es).sum
def mc_A (G : mc_G) : Nat → Prop := fun q => G.2.1 ≤ q
def mc_tys (G : mc_G) : List (ClassId × FieldType) := (List.range 7).map (fun t => (G.2.2.1 t, mc_ty t))
theorem mc_v_cat (G : mc_G) (v : Value) : (mc_v G v).category = v.category := by cases v <;> rfl
theorem mc_find_L {G : mc_G} {L : List (Nat × Value)} {i : Nat} {v : Value} (h : mc_find L i = some v) : (i, mc_v G v) ∈ mc_L G L := List.mem_map.mpr ⟨(i, v), mc_find_mem h, rfl⟩
theorem mc_L_s1 (G : mc_G) (L : List (Nat × Value)) (i : Nat) (v : Value) : mc_L G (mc_s1 L i v) = mc_s1 (mc_L G L) i (mc_v G v) := by
  unfold mc_s1 mc_L
  rw [List.map_cons, List.filter_map]
  congr 2
  apply List.filter_congr
  intro q _
  simp [mc_v_cat]
theorem mc_L_s2 (G : mc_G) (L : List (Nat × Value)) (i : Nat) (v : Value) : mc_L G (mc_s2 L i v) = mc_s2 (mc_L G L) i (mc_v G v) := by
  unfold mc_s2 mc_L
  rw [List.map_cons, List.filter_map]
  congr 2
  apply List.filter_congr
  intro q _
  simp [mc_v_cat]
theorem mc_L_args (G : mc_G) : ∀ (vs : List Value) (i : Nat), mc_L G (lv_args i vs) = lv_args i (vs.map (mc_v G))
  | [], _ => rfl
  | v :: vs, i => by
    unfold lv_args
    rw [List.map_cons]
    show _ = (i, mc_v G v) :: lv_args (if (mc_v G v).category = 2 then i + 2 else i + 1) (vs.map (mc_v G))
    rw [mc_v_cat, ← mc_L_args G vs]
    rfl
theorem mc_sl_len (G : mc_G) : ∀ vs : List Value, (lg_sl (vs.map (mc_v G))).length = (lg_sl vs).length
  | [] => rfl
  | v :: vs => by
    have h := mc_sl_len G vs
    simp only [lg_sl, List.map_cons, List.flatMap_cons, List.length_append, mc_v_cat] at h ⊢
    rw [h]
    split <;> rfl
theorem mc_a_hi {G : mc_G} {a : Nat} (h : 256 ≤ a) : mc_a G a = G.2.1 + (a - 256) := if_neg (by omega)
theorem mc_a_lo {G : mc_G} {a : Nat} (h : a < 256) : mc_a G a = G.1 a := if_pos h
theorem mc_a_new (G : mc_G) (n : Nat) : mc_a G (256 + n) = G.2.1 + n := by
  rw [mc_a_hi (Nat.le_add_right 256 n), Nat.add_sub_cancel_left]
theorem mc_cell.kept {G : mc_G} {a : Nat} {e : mc_E} {H H1 : Heap} (h : mc_cell G a e H) (hq : H1[a]? = H[a]?) : mc_cell G a e H1 := by
  cases e with
  | inl x => exact fun h7 => hq.trans (h h7)
  | inr o =>
    obtain ⟨r, h1, h2⟩ := h
    exact ⟨r, h1, h2.kept hq⟩
theorem mc_H.at {G : mc_G} {M : mc_M} {H : Heap} (h : mc_H G M H) {a : Nat} (ha : 256 ≤ a) {e : mc_E} (he : M[a - 256]? = some e) : mc_cell G (mc_a G a) e H := by
  rw [mc_a_hi ha]
  exact h.2 _ e he
theorem mc_H.set {G : mc_G} {M : mc_M} {H H1 : Heap} (h : mc_H G M H) {k : Nat} {e0 e : mc_E} (hk : M[k]? = some e0) (he : mc_cell G (G.2.1 + k) e H1) (z : H1.size = H.size) (oq : ∀ q : Nat, q ≠ G.2.1 + k → H1[q]? = H[q]?) : mc_H G (M.set k e) H1 := by
  have hl := (List.getElem?_eq_some_iff.mp hk).1
  refine ⟨by rw [z, h.1, List.length_set], fun j e' hj => ?_⟩
  by_cases hjk : j = k
  · subst hjk
    rw [List.getElem?_set_self hl] at hj
    cases hj
    exact he
  · rw [List.getElem?_set_ne (Ne.symm hjk)] at hj
    exact (h.2 j e' hj).kept (oq _ (by omega))
theorem mc_H.push {G : mc_G} {M : mc_M} {H H1 : Heap} (h : mc_H G M H) {e : mc_E} (he : mc_cell G H.size e H1) (z : H1.size = H.size + 1) (oq : ∀ q : Nat, q < H.size → H1[q]? = H[q]?) : mc_H G (M ++ [e]) H1 := by
  refine ⟨by rw [z, h.1, List.length_append]; rfl, fun j e' hj => ?_⟩
  by_cases hl : j < M.length
  · rw [List.getElem?_append_left hl] at hj
    exact (h.2 j e' hj).kept (oq _ (by rw [h.1]; omega))
  · rw [List.getElem?_append_right (by omega)] at hj
    have hz : j - M.length < 1 := (List.getElem?_eq_some_iff.mp hj).1
    have hj0 : j = M.length := by omega
    subst hj0
    rw [Nat.sub_self] at hj
    cases hj
    rw [← h.1]
    exact he
theorem mc_sz_set {M : mc_M} {k : Nat} {e0 e : mc_E} (hk : M[k]? = some e0) (he : mc_es e = mc_es e0) : mc_sz (M.set k e) = mc_sz M := by
  induction M generalizing k with
  | nil => simp at hk
  | cons x M ih =>
    cases k with
    | zero =>
      simp at hk
      subst hk
      simp [mc_sz, he]
    | succ k =>
      simp at hk
      have := ih hk
      simp only [mc_sz, List.set_cons_succ, List.map_cons, List.sum_cons] at this ⊢
      rw [this]
theorem mc_sz_app (M N : mc_M) : mc_sz (M ++ N) = mc_sz M + mc_sz N := by simp [mc_sz]
theorem mc_sz_one (e : mc_E) : mc_sz [e] = mc_es e := by simp [mc_sz]
/-- a text of the JDK's: its class, its coder, its bytes -/
def mc_tx (G : mc_G) (k : Nat) (b : List Int32) (U : State) (H : Heap) : Prop := va_O "java/lang/String" (G.1 k) (mc_A G) U H ∧ va_OF "java/lang/String" "coder" "B" (.int 0) (G.1 k) (mc_A G) U H ∧ ∃ v, va_OF "java/lang/String" "value" "[B" (.ref v) (G.1 k) (mc_A G) U H ∧ va_T .byte v b.length (fun j => .int (b.getD j 0)) (mc_A G) U H
/-- an enum's constant: its class, its place -/
def mc_eo (G : mc_G) (i : Nat) (U : State) (H : Heap) : Prop := va_O "StrikeAwake$Reserved" (G.1 (16 + i)) (mc_A G) U H ∧ va_OF "java/lang/Enum" "ordinal" "I" (.int (Int32.ofNat i)) (G.1 (16 + i)) (mc_A G) U H
/-- what the JDK's methods on constants read -/
def mc_K (G : mc_G) (U : State) (H : Heap) : Prop := (∀ k b, mc_find mc_sb k = some b → mc_tx G k b U H) ∧ (∀ i, i < 11 → mc_eo G i U H) ∧ va_Z "java/lang/String" "COMPACT_STRINGS" "Z" (.int 1) (mc_A G) U H ∧ va_Zq "jdk/internal/util/Preconditions" "SIOOBE_FORMATTER" "Ljava/util/function/BiFunction;" (mc_A G) U H
theorem mc_tx.moved {G : mc_G} {k : Nat} {b : List Int32} {s U : State} {H : Heap} (hvm : s.vm.Alike U.vm) (h : mc_tx G k b s H) : mc_tx G k b U H := ⟨h.1.moved hvm, h.2.1.moved hvm, h.2.2.imp fun v hv => ⟨hv.1.moved hvm, hv.2.moved hvm⟩⟩
theorem mc_tx.kept {G : mc_G} {k : Nat} {b : List Int32} {U : State} {H H1 : Heap} (h : mc_tx G k b U H) (hq : ∀ a : Nat, a < H.size → ¬ mc_A G a → H1[a]? = H[a]?) : mc_tx G k b U H1 := ⟨h.1.kept hq, h.2.1.kept hq, h.2.2.imp fun v hv => ⟨hv.1.kept hq, hv.2.kept hq⟩⟩
theorem mc_K.moved {G : mc_G} {s U : State} {H : Heap} (hvm : s.vm.Alike U.vm) (h : mc_K G s H) : mc_K G U H := ⟨fun k b hk => (h.1 k b hk).moved hvm, fun i hi => ⟨(h.2.1 i hi).1.moved hvm, (h.2.1 i hi).2.moved hvm⟩, h.2.2.1.moved hvm, h.2.2.2.moved hvm⟩
theorem mc_K.kept {G : mc_G} {U : State} {H H1 : Heap} (h : mc_K G U H) (hq : ∀ a : Nat, a < H.size → ¬ mc_A G a → H1[a]? = H[a]?) : mc_K G U H1 := ⟨fun k b hk => (h.1 k b hk).kept hq, fun i hi => ⟨(h.2.1 i hi).1.kept hq, (h.2.1 i hi).2.kept hq⟩, h.2.2.1.kept hq, h.2.2.2.kept hq⟩
/-- the constants' contents, where they are; the statics and strings -/
def mc_C (kt : Nat → Option mc_E) (G : mc_G) (U : State) (H : Heap) : Prop :=
  (∀ (j t n : Nat) (f : Nat → Value), kt j = some (.inl (t, n, f)) → va_T (mc_ty t) (G.1 j) n (fun i => mc_v G (f i)) (mc_A G) U H) ∧
  (∀ (j ci : Nat) (fs : List Value), kt j = some (.inr (ci, fs)) → ∀ (k : Nat) (v : Value), fs[k]? = some v → va_OF (mc_fr ci k).1 (mc_fr ci k).2.1 (mc_fr ci k).2.2 (mc_v G v) (G.1 j) (mc_A G) U H) ∧
  (∀ e ∈ mc_st, va_Z e.1 e.2.1 e.2.2.1 (mc_v G (.ref e.2.2.2)) (mc_A G) U H) ∧
  (∀ e ∈ mc_sr, vk_R (mc_cn e.1) e.2.1 e.2.2.1 (mc_a G e.2.2.2.1) U) ∧
  (∀ i j : Nat, 16 ≤ i → i < 27 → 16 ≤ j → j < 27 → G.1 i = G.1 j → i = j)
/-- the words of nest mates -/
def mc_NW (U : State) : Prop :=
  (∀ (own : Nat) (r : List (Nat × Nat × Nat × Bool × String × Nat × Nat)), mc_fl[own]? = some r → ∀ e ∈ r, e.2.2.2.1 = true → va_Nw (mc_fw own e) U) ∧
  (∀ (own : Nat) (r : List (Nat × Nat × Bool × String × Nat × Nat)), mc_ml[own]? = some r → ∀ e ∈ r, e.2.2.1 = true → va_Nw (mc_mw own e) U) ∧
  (∀ (own : Nat) (r : List (Nat × Nat × Bool × String × Nat × Nat)), mc_sl[own]? = some r → ∀ e ∈ r, e.2.2.1 = true → va_Nw (mc_sw own e) U)
/-- a class of arrays of this type was made -/
def mc_AO (t : FieldType) (U : State) : Prop := (Cond.arrayOver t).before #[] U = true
def mc_B (kt : Nat → Option mc_E) (G : mc_G) (U : State) (H : Heap) : Prop := va_K G.2.2.2 mc_cl (mc_tys G) U ∧ (mc_AO (.object "StrikeAwake$Person") U ∧ mc_AO (.array .int) U ∧ mc_AO (.array .long) U) ∧ mc_NW U ∧ mc_C kt G U H ∧ mc_K G U H
theorem mc_AO.moved {t : FieldType} {u U : State} (hvm : u.vm.Alike U.vm) (h : mc_AO t u) : mc_AO t U := by
  have h1 : (Cond.arrayOver t).before #[] (u.setVm U.vm) = true := by rw [Cond.arrayOver_setVmC hvm]; exact h
  exact h1
theorem mc_C.moved {kt : Nat → Option mc_E} {G : mc_G} {s U : State} {H : Heap} (hW : s.WarmedH U.vm) (h : mc_C kt G s H) : mc_C kt G U H :=
  ⟨fun j t n f hj => (h.1 j t n f hj).moved hW.alike, fun j ci fs hj k v hk => (h.2.1 j ci fs hj k v hk).moved hW.alike, fun e he => (h.2.2.1 e he).moved hW.alike, fun e he => (h.2.2.2.1 e he).warm hW, h.2.2.2.2⟩
theorem mc_C.kept {kt : Nat → Option mc_E} {G : mc_G} {U : State} {H H1 : Heap} (h : mc_C kt G U H) (hq : ∀ a : Nat, a < H.size → ¬ mc_A G a → H1[a]? = H[a]?) : mc_C kt G U H1 :=
  ⟨fun j t n f hj => (h.1 j t n f hj).kept hq, fun j ci fs hj k v hk => (h.2.1 j ci fs hj k v hk).kept hq, fun e he => (h.2.2.1 e he).kept hq, h.2.2.2.1, h.2.2.2.2⟩
theorem mc_C.same {kt : Nat → Option mc_E} {G : mc_G} {s U : State} {H : Heap} (hv : U.vm = s.vm) (h : mc_C kt G s H) : mc_C kt G U H :=
  have ha : s.vm.Alike U.vm := by rw [hv]; exact Vm.Alike.refl _
  ⟨fun j t n f hj => (h.1 j t n f hj).moved ha, fun j ci fs hj k v hk => (h.2.1 j ci fs hj k v hk).moved ha, fun e he => (h.2.2.1 e he).moved ha, fun e he => (h.2.2.2.1 e he).same hv, h.2.2.2.2⟩
theorem mc_fw_nest {own : Nat} {e : Nat × Nat × Nat × Bool × String × Nat × Nat} (h : e.2.2.2.1 = true) : ∃ a i b n d x, mc_fw own e = .fieldLinkNest a i b n d x := ⟨_, _, _, _, _, _, if_pos h⟩
theorem mc_mw_nest {own : Nat} {e : Nat × Nat × Bool × String × Nat × Nat} (h : e.2.2.1 = true) : ∃ a i y x, mc_mw own e = .methodLinkNest a i y x := ⟨_, _, _, _, if_pos h⟩
theorem mc_sw_nest {own : Nat} {e : Nat × Nat × Bool × String × Nat × Nat} (h : e.2.2.1 = true) : (∃ a i b n d x, mc_sw own e = .fieldLinkNest a i b n d x) ∨ mc_sw own e = .tt := by
  unfold mc_sw
  split
  · exact Or.inl ⟨_, _, _, _, _, _, if_pos h⟩
  · exact Or.inr rfl
theorem mc_NW.moved {s U : State} (hW : s.WarmedH U.vm) (h : mc_NW s) : mc_NW U := by
  refine ⟨fun own r hr e he hn => ?_, fun own r hr e he hn => ?_, fun own r hr e he hn => ?_⟩
  · obtain ⟨a, i, b, n, d, x, hw⟩ := mc_fw_nest (own := own) hn
    have := h.1 own r hr e he hn
    rw [hw] at this ⊢
    exact va_Nw.warmF hW this
  · obtain ⟨a, i, y, x, hw⟩ := mc_mw_nest (own := own) hn
    have := h.2.1 own r hr e he hn
    rw [hw] at this ⊢
    exact va_Nw.warmM hW this
  · have := h.2.2 own r hr e he hn
    rcases mc_sw_nest (own := own) hn with ⟨a, i, b, n, d, x, hw⟩ | hw
    · rw [hw] at this ⊢
      exact va_Nw.warmF hW this
    · rw [hw]
      rfl
theorem mc_NW.same {s U : State} (hv : s.vm = U.vm) (h : mc_NW s) : mc_NW U := by
  refine ⟨fun own r hr e he hn => ?_, fun own r hr e he hn => ?_, fun own r hr e he hn => ?_⟩
  · obtain ⟨a, i, b, n, d, x, hw⟩ := mc_fw_nest (own := own) hn
    have := h.1 own r hr e he hn
    rw [hw] at this ⊢
    exact va_Nw.same rfl hv this
  · obtain ⟨a, i, y, x, hw⟩ := mc_mw_nest (own := own) hn
    have := h.2.1 own r hr e he hn
    rw [hw] at this ⊢
    exact va_Nw.same rfl hv this
  · have := h.2.2 own r hr e he hn
    rcases mc_sw_nest (own := own) hn with ⟨a, i, b, n, d, x, hw⟩ | hw
    · rw [hw] at this ⊢
      exact va_Nw.same rfl hv this
    · rw [hw]
      rfl
theorem mc_B.moved {kt : Nat → Option mc_E} {G : mc_G} {s U : State} {H : Heap} (hW : s.WarmedH U.vm) (h : mc_B kt G s H) : mc_B kt G U H :=
  ⟨va_K.moved hW.alike h.1, ⟨h.2.1.1.moved hW.alike, h.2.1.2.1.moved hW.alike, h.2.1.2.2.moved hW.alike⟩, h.2.2.1.moved hW, h.2.2.2.1.moved hW, h.2.2.2.2.moved hW.alike⟩
theorem mc_B.kept {kt : Nat → Option mc_E} {G : mc_G} {U : State} {H H1 : Heap} (h : mc_B kt G U H) (hq : ∀ a : Nat, a < H.size → ¬ mc_A G a → H1[a]? = H[a]?) : mc_B kt G U H1 := ⟨h.1, h.2.1, h.2.2.1, h.2.2.2.1.kept hq, h.2.2.2.2.kept hq⟩
theorem mc_B.same {kt : Nat → Option mc_E} {G : mc_G} {s U : State} {H : Heap} (hv : U.vm = s.vm) (h : mc_B kt G s H) : mc_B kt G U H :=
  have ha : s.vm.Alike U.vm := by rw [hv]; exact Vm.Alike.refl _
  ⟨va_K.moved ha h.1, ⟨h.2.1.1.moved ha, h.2.1.2.1.moved ha, h.2.1.2.2.moved ha⟩, h.2.2.1.same hv.symm, h.2.2.2.1.same hv, h.2.2.2.2.moved ha⟩
end
section
/-! THE MINI MACHINE'S STEPS ARE THE MACHINE'S (own work, over the kit's rows) -/
/-- from every heap that holds these cells the machine comes to Q -/
def mc_W (G : mc_G) (p : Program) (l : Launch) (e : Env) (R : Room) (s : State) (m : MethodId) (args : Array Value) (below : List Frame) (meth : Method) (c : Code) (Q : State → Prop) (nL l0 z0 : Nat) (S : mc_S) : Prop :=
  ∀ (H : Heap) (locs : List Loc) (ls : Array Slot) (cells slots : Nat), mc_H G S.2.2.2 H → va_S (mc_A G) s.heap H locs → lv_has ls nL (mc_L G S.2.1) → cells + l0 = S.2.2.2.length → slots + z0 = mc_sz S.2.2.2 →
    W p l e R s m args below meth c H locs cells slots Q (F0 m S.1 ls (S.2.2.1.map (mc_v G)))
section MC1

variable {G : mc_G} {p : Program} {l : Launch} {e : Env} {R : Room} {s : State} {m : MethodId} {args : Array Value} {below : List Frame} {meth : Method} {c : Code} {Q : State → Prop} {nL l0 z0 : Nat}

variable {pc : Nat} {L : List (Nat × Value)} {st : List Value} {M : mc_M} {S : mc_S}
theorem mc_n_t {b : Bool} {o : mc_O} {x : mc_S ⊕ mc_R} (h : mc_n b o = some x) : b = true ∧ o = some x := by
  unfold mc_n at h
  split at h
  · exact ⟨rfl, h⟩
  · cases h
theorem mc_go_S {pc : Nat} {L : List (Nat × Value)} {st : List Value} {M : mc_M} {S : mc_S} (h : mc_go pc L st M = some (.inl S)) : S = (pc, L, st, M) := by
  unfold mc_go at h
  exact (Sum.inl.inj (Option.some.inj h)).symm
theorem mc_r_go {pc' : Nat} {st' : List Value} (row : ∀ (H : Heap) (locs : List Loc) (cells slots : Nat) (ls : Array Slot), W p l e R s m args below meth c H locs cells slots Q (F0 m pc' ls (st'.map (mc_v G))) → W p l e R s m args below meth c H locs cells slots Q (F0 m pc ls (st.map (mc_v G))))
    (h : mc_go pc' L st' M = some (.inl S)) (k : mc_W G p l e R s m args below meth c Q nL l0 z0 S) : mc_W G p l e R s m args below meth c Q nL l0 z0 (pc, L, st, M) := by
  rw [mc_go_S h] at k
  exact fun H locs ls cells slots hH hS hl hc hz => row H locs cells slots ls (k H locs ls cells slots hH hS hl hc hz)
theorem mc_r_ld {ok : Value → Bool} {i d : Nat} (row : ∀ (H : Heap) (locs : List Loc) (cells slots : Nat) (ls : Array Slot) (rest : List Value) (v : Value), ok v = true → ls[i]? = some (.val (mc_v G v)) → W p l e R s m args below meth c H locs cells slots Q (F0 m (pc + d) ls (mc_v G v :: rest)) → W p l e R s m args below meth c H locs cells slots Q (F0 m pc ls rest))
    (h : mc_ld ok i d pc L st M = some (.inl S)) (k : mc_W G p l e R s m args below meth c Q nL l0 z0 S) : mc_W G p l e R s m args below meth c Q nL l0 z0 (pc, L, st, M) := by
  unfold mc_ld at h
  split at h
  · next v hv =>
    obtain ⟨hok, h⟩ := mc_n_t h
    rw [mc_go_S h] at k
    exact fun H locs ls cells slots hH hS hl hc hz => row H locs cells slots ls _ v hok (hl.2.2 _ (mc_find_L hv)) (k H locs ls cells slots hH hS hl hc hz)
  · cases h
theorem mc_r_sv {ok : Value → Bool} {i d : Nat} (row : ∀ (H : Heap) (locs : List Loc) (cells slots : Nat) (ls : Array Slot) (rest : List Value) (v : Value) (lv : List (Nat × Value)), ok v = true → lv_has ls nL lv → i < nL → (∀ ls' : Array Slot, lv_has ls' nL (mc_s1 lv i (mc_v G v)) → W p l e R s m args below meth c H locs cells slots Q (F0 m (pc + d) ls' rest)) → W p l e R s m args below meth c H locs cells slots Q (F0 m pc ls (mc_v G v :: rest)))
    (h : mc_sv ok nL i d pc L st M = some (.inl S)) (k : mc_W G p l e R s m args below meth c Q nL l0 z0 S) : mc_W G p l e R s m args below meth c Q nL l0 z0 (pc, L, st, M) := by
  unfold mc_sv at h
  split at h
  · next v r =>
    obtain ⟨hok, h⟩ := mc_n_t h
    simp only [Bool.and_eq_true, decide_eq_true_eq] at hok
    rw [mc_go_S h] at k
    exact fun H locs ls cells slots hH hS hl hc hz => row H locs cells slots ls _ v _ hok.1 hl hok.2 (fun ls' hl' => k H locs ls' cells slots hH hS (by show lv_has ls' nL (mc_L G (mc_s1 L i v)); rw [mc_L_s1]; exact hl') hc hz)
  · cases h
theorem mc_r_svL {i d : Nat} (row : ∀ (H : Heap) (locs : List Loc) (cells slots : Nat) (ls : Array Slot) (rest : List Value) (x : Int64) (lv : List (Nat × Value)), lv_has ls nL lv → i + 1 < nL → (∀ ls' : Array Slot, lv_has ls' nL (mc_s2 lv i (.long x)) → W p l e R s m args below meth c H locs cells slots Q (F0 m (pc + d) ls' rest)) → W p l e R s m args below meth c H locs cells slots Q (F0 m pc ls (.long x :: rest)))
    (h : mc_svL nL i d pc L st M = some (.inl S)) (k : mc_W G p l e R s m args below meth c Q nL l0 z0 S) : mc_W G p l e R s m args below meth c Q nL l0 z0 (pc, L, st, M) := by
  unfold mc_svL at h
  split at h
  · next v r =>
    obtain ⟨hok, h⟩ := mc_n_t h
    simp only [Bool.and_eq_true, decide_eq_true_eq] at hok
    rw [mc_go_S h] at k
    obtain ⟨hv, hi⟩ := hok
    cases v with
    | long x => exact fun H locs ls cells slots hH hS hl hc hz => row H locs cells slots ls _ x _ hl hi (fun ls' hl' => k H locs ls' cells slots hH hS (by show lv_has ls' nL (mc_L G (mc_s2 L i (.long x))); rw [mc_L_s2]; exact hl') hc hz)
    | _ => cases hv
  · cases h
theorem mc_r_inc {i : Nat} {kk : Int} (row : ∀ (H : Heap) (locs : List Loc) (cells slots : Nat) (ls : Array Slot) (rest : List Value) (x : Int32) (lv : List (Nat × Value)) (j : Nat), lv_has ls nL lv → lv[j]? = some (i, .int x) → i < nL → (∀ ls' : Array Slot, lv_has ls' nL (mc_s1 lv i (.int (x + Int32.ofInt kk))) → W p l e R s m args below meth c H locs cells slots Q (F0 m (pc + 3) ls' rest)) → W p l e R s m args below meth c H locs cells slots Q (F0 m pc ls rest))
    (h : mc_inc nL i kk pc L st M = some (.inl S)) (k : mc_W G p l e R s m args below meth c Q nL l0 z0 S) : mc_W G p l e R s m args below meth c Q nL l0 z0 (pc, L, st, M) := by
  unfold mc_inc at h
  split at h
  · next x hv =>
    obtain ⟨hok, h⟩ := mc_n_t h
    simp only [decide_eq_true_eq] at hok
    rw [mc_go_S h] at k
    obtain ⟨j, hj⟩ := List.getElem?_of_mem (mc_find_L (G := G) hv)
    exact fun H locs ls cells slots hH hS hl hc hz => row H locs cells slots ls _ x _ j hl hj hok (fun ls' hl' => k H locs ls' cells slots hH hS (by show lv_has ls' nL (mc_L G (mc_s1 L i (.int _))); rw [mc_L_s1]; exact hl') hc hz)
  · cases h
theorem mc_r_ii2 {f : Int32 → Int32 → Option Int32} (row : ∀ (H : Heap) (locs : List Loc) (cells slots : Nat) (ls : Array Slot) (rest : List Value) (x y z : Int32), f x y = some z → W p l e R s m args below meth c H locs cells slots Q (F0 m (pc + 1) ls (.int z :: rest)) → W p l e R s m args below meth c H locs cells slots Q (F0 m pc ls (.int y :: .int x :: rest)))
    (h : mc_ii2 f pc L st M = some (.inl S)) (k : mc_W G p l e R s m args below meth c Q nL l0 z0 S) : mc_W G p l e R s m args below meth c Q nL l0 z0 (pc, L, st, M) := by
  unfold mc_ii2 at h
  split at h
  · split at h
    · next hz0 =>
      rw [mc_go_S h] at k
      exact fun H locs ls cells slots hH hS hl hc hz => row H locs cells slots ls _ _ _ _ hz0 (k H locs ls cells slots hH hS hl hc hz)
    · cases h
  · cases h
theorem mc_r_ll2 {f : Int64 → Int64 → Option Int64} (row : ∀ (H : Heap) (locs : List Loc) (cells slots : Nat) (ls : Array Slot) (rest : List Value) (x y z : Int64), f x y = some z → W p l e R s m args below meth c H locs cells slots Q (F0 m (pc + 1) ls (.long z :: rest)) → W p l e R s m args below meth c H locs cells slots Q (F0 m pc ls (.long y :: .long x :: rest)))
    (h : mc_ll2 f pc L st M = some (.inl S)) (k : mc_W G p l e R s m args below meth c Q nL l0 z0 S) : mc_W G p l e R s m args below meth c Q nL l0 z0 (pc, L, st, M) := by
  unfold mc_ll2 at h
  split at h
  · split at h
    · next hz0 =>
      rw [mc_go_S h] at k
      exact fun H locs ls cells slots hH hS hl hc hz => row H locs cells slots ls _ _ _ _ hz0 (k H locs ls cells slots hH hS hl hc hz)
    · cases h
  · cases h
theorem mc_r_li2 {f : Int64 → Int32 → Int64} (row : ∀ (H : Heap) (locs : List Loc) (cells slots : Nat) (ls : Array Slot) (rest : List Value) (x : Int64) (y : Int32), W p l e R s m args below meth c H locs cells slots Q (F0 m (pc + 1) ls (.long (f x y) :: rest)) → W p l e R s m args below meth c H locs cells slots Q (F0 m pc ls (.int y :: .long x :: rest)))
    (h : mc_li2 f pc L st M = some (.inl S)) (k : mc_W G p l e R s m args below meth c Q nL l0 z0 S) : mc_W G p l e R s m args below meth c Q nL l0 z0 (pc, L, st, M) := by
  unfold mc_li2 at h
  split at h
  · rw [mc_go_S h] at k
    exact fun H locs ls cells slots hH hS hl hc hz => row H locs cells slots ls _ _ _ (k H locs ls cells slots hH hS hl hc hz)
  · cases h
theorem mc_r_cmp (row : ∀ (H : Heap) (locs : List Loc) (cells slots : Nat) (ls : Array Slot) (rest : List Value) (x y : Int64), W p l e R s m args below meth c H locs cells slots Q (F0 m (pc + 1) ls (.int (lg_cmp x y) :: rest)) → W p l e R s m args below meth c H locs cells slots Q (F0 m pc ls (.long y :: .long x :: rest)))
    (h : mc_cmp pc L st M = some (.inl S)) (k : mc_W G p l e R s m args below meth c Q nL l0 z0 S) : mc_W G p l e R s m args below meth c Q nL l0 z0 (pc, L, st, M) := by
  unfold mc_cmp at h
  split at h
  · rw [mc_go_S h] at k
    exact fun H locs ls cells slots hH hS hl hc hz => row H locs cells slots ls _ _ _ (k H locs ls cells slots hH hS hl hc hz)
  · cases h
theorem mc_r_i1 {f : Int32 → Value} (row : ∀ (H : Heap) (locs : List Loc) (cells slots : Nat) (ls : Array Slot) (rest : List Value) (x : Int32), W p l e R s m args below meth c H locs cells slots Q (F0 m (pc + 1) ls (mc_v G (f x) :: rest)) → W p l e R s m args below meth c H locs cells slots Q (F0 m pc ls (.int x :: rest)))
    (h : mc_i1 f pc L st M = some (.inl S)) (k : mc_W G p l e R s m args below meth c Q nL l0 z0 S) : mc_W G p l e R s m args below meth c Q nL l0 z0 (pc, L, st, M) := by
  unfold mc_i1 at h
  split at h
  · rw [mc_go_S h] at k
    exact fun H locs ls cells slots hH hS hl hc hz => row H locs cells slots ls _ _ (k H locs ls cells slots hH hS hl hc hz)
  · cases h
theorem mc_r_l1 {f : Int64 → Value} (row : ∀ (H : Heap) (locs : List Loc) (cells slots : Nat) (ls : Array Slot) (rest : List Value) (x : Int64), W p l e R s m args below meth c H locs cells slots Q (F0 m (pc + 1) ls (mc_v G (f x) :: rest)) → W p l e R s m args below meth c H locs cells slots Q (F0 m pc ls (.long x :: rest)))
    (h : mc_l1 f pc L st M = some (.inl S)) (k : mc_W G p l e R s m args below meth c Q nL l0 z0 S) : mc_W G p l e R s m args below meth c Q nL l0 z0 (pc, L, st, M) := by
  unfold mc_l1 at h
  split at h
  · rw [mc_go_S h] at k
    exact fun H locs ls cells slots hH hS hl hc hz => row H locs cells slots ls _ _ (k H locs ls cells slots hH hS hl hc hz)
  · cases h
theorem mc_br_S {b : Bool} {off : Int} {r : List Value} (h : mc_br b pc off L r M = some (.inl S)) : ∃ tgt : Nat, (pc : Int) + off = (tgt : Int) ∧ (b = true → S = (tgt, L, r, M)) ∧ (b = false → S = (pc + 3, L, r, M)) := by
  unfold mc_br at h
  split at h
  · next h0 =>
    refine ⟨((pc : Int) + off).toNat, (Int.toNat_of_nonneg h0).symm, fun hb => ?_, fun hb => ?_⟩
    · subst hb
      exact mc_go_S h
    · subst hb
      exact mc_go_S h
  · cases h
theorem mc_r_ic2 {f : Int32 → Int32 → Bool} {off : Int} (row : ∀ (H : Heap) (locs : List Loc) (cells slots : Nat) (ls : Array Slot) (rest : List Value) (x y : Int32) (tgt : Nat), (pc : Int) + off = (tgt : Int) → (f x y = true → W p l e R s m args below meth c H locs cells slots Q (F0 m tgt ls rest)) → (f x y = false → W p l e R s m args below meth c H locs cells slots Q (F0 m (pc + 3) ls rest)) → W p l e R s m args below meth c H locs cells slots Q (F0 m pc ls (.int y :: .int x :: rest)))
    (h : mc_ic2 f pc off L st M = some (.inl S)) (k : mc_W G p l e R s m args below meth c Q nL l0 z0 S) : mc_W G p l e R s m args below meth c Q nL l0 z0 (pc, L, st, M) := by
  unfold mc_ic2 at h
  split at h
  · obtain ⟨tgt, ht, h1, h2⟩ := mc_br_S h
    exact fun H locs ls cells slots hH hS hl hc hz => row H locs cells slots ls _ _ _ tgt ht (fun hb => by rw [h1 hb] at k; exact k H locs ls cells slots hH hS hl hc hz) (fun hb => by rw [h2 hb] at k; exact k H locs ls cells slots hH hS hl hc hz)
  · cases h
theorem mc_r_ic1 {f : Int32 → Bool} {off : Int} (row : ∀ (H : Heap) (locs : List Loc) (cells slots : Nat) (ls : Array Slot) (rest : List Value) (x : Int32) (tgt : Nat), (pc : Int) + off = (tgt : Int) → (f x = true → W p l e R s m args below meth c H locs cells slots Q (F0 m tgt ls rest)) → (f x = false → W p l e R s m args below meth c H locs cells slots Q (F0 m (pc + 3) ls rest)) → W p l e R s m args below meth c H locs cells slots Q (F0 m pc ls (.int x :: rest)))
    (h : mc_ic1 f pc off L st M = some (.inl S)) (k : mc_W G p l e R s m args below meth c Q nL l0 z0 S) : mc_W G p l e R s m args below meth c Q nL l0 z0 (pc, L, st, M) := by
  unfold mc_ic1 at h
  split at h
  · obtain ⟨tgt, ht, h1, h2⟩ := mc_br_S h
    exact fun H locs ls cells slots hH hS hl hc hz => row H locs cells slots ls _ _ tgt ht (fun hb => by rw [h1 hb] at k; exact k H locs ls cells slots hH hS hl hc hz) (fun hb => by rw [h2 hb] at k; exact k H locs ls cells slots hH hS hl hc hz)
  · cases h
theorem mc_r_icn {f : Bool} {off : Int} (rowR : ∀ (H : Heap) (locs : List Loc) (cells slots : Nat) (ls : Array Slot) (rest : List Value) (x tgt : Nat), (pc : Int) + off = (tgt : Int) → W p l e R s m args below meth c H locs cells slots Q (F0 m (if f then pc + 3 else tgt) ls rest) → W p l e R s m args below meth c H locs cells slots Q (F0 m pc ls (.ref x :: rest)))
    (rowN : ∀ (H : Heap) (locs : List Loc) (cells slots : Nat) (ls : Array Slot) (rest : List Value) (tgt : Nat), (pc : Int) + off = (tgt : Int) → W p l e R s m args below meth c H locs cells slots Q (F0 m (if f then tgt else pc + 3) ls rest) → W p l e R s m args below meth c H locs cells slots Q (F0 m pc ls (.null :: rest)))
    (h : mc_icn f pc off L st M = some (.inl S)) (k : mc_W G p l e R s m args below meth c Q nL l0 z0 S) : mc_W G p l e R s m args below meth c Q nL l0 z0 (pc, L, st, M) := by
  unfold mc_icn at h
  split at h
  · obtain ⟨tgt, ht, h1, h2⟩ := mc_br_S h
    refine fun H locs ls cells slots hH hS hl hc hz => rowR H locs cells slots ls _ _ tgt ht ?_
    cases f
    · rw [h1 rfl] at k; exact k H locs ls cells slots hH hS hl hc hz
    · rw [h2 rfl] at k; exact k H locs ls cells slots hH hS hl hc hz
  · obtain ⟨tgt, ht, h1, h2⟩ := mc_br_S h
    refine fun H locs ls cells slots hH hS hl hc hz => rowN H locs cells slots ls _ tgt ht ?_
    cases f
    · rw [h2 rfl] at k; exact k H locs ls cells slots hH hS hl hc hz
    · rw [h1 rfl] at k; exact k H locs ls cells slots hH hS hl hc hz
  · cases h
theorem mc_r_jp {off : Int} (row : ∀ (H : Heap) (locs : List Loc) (cells slots : Nat) (ls : Array Slot) (rest : List Value) (tgt : Nat), (pc : Int) + off = (tgt : Int) → W p l e R s m args below meth c H locs cells slots Q (F0 m tgt ls rest) → W p l e R s m args below meth c H locs cells slots Q (F0 m pc ls rest))
    (h : mc_jp pc off L st M = some (.inl S)) (k : mc_W G p l e R s m args below meth c Q nL l0 z0 S) : mc_W G p l e R s m args below meth c Q nL l0 z0 (pc, L, st, M) := by
  unfold mc_jp at h
  split at h
  · next h0 =>
    rw [mc_go_S h] at k
    exact fun H locs ls cells slots hH hS hl hc hz => row H locs cells slots ls _ _ (Int.toNat_of_nonneg h0).symm (k H locs ls cells slots hH hS hl hc hz)
  · cases h
theorem mc_en_rf {v : Value} {a : Option Nat} (h : mc_en v = some a) : mc_v G v = va_rf (a.map (mc_a G)) ∧ ∀ k, a = some k → 16 ≤ k ∧ k < 27 := by
  unfold mc_en at h
  split at h
  · split at h
    · next h2 =>
      cases h
      exact ⟨rfl, fun k hk => by cases hk; exact h2⟩
    · cases h
  · cases h
    exact ⟨rfl, fun k hk => by cases hk⟩
  · cases h
theorem mc_en_inj (hinj : ∀ i j : Nat, 16 ≤ i → i < 27 → 16 ≤ j → j < 27 → G.1 i = G.1 j → i = j) {a b : Option Nat} (ha : ∀ k, a = some k → 16 ≤ k ∧ k < 27) (hb : ∀ k, b = some k → 16 ≤ k ∧ k < 27) : a.map (mc_a G) = b.map (mc_a G) ↔ a = b := by
  refine ⟨fun h => ?_, fun h => by rw [h]⟩
  cases a with
  | none => cases b with
    | none => rfl
    | some y => cases h
  | some x => cases b with
    | none => cases h
    | some y =>
      obtain ⟨a1, a2⟩ := ha x rfl
      obtain ⟨b1, b2⟩ := hb y rfl
      have h1 : mc_a G x = mc_a G y := Option.some.inj h
      rw [mc_a_lo (by omega), mc_a_lo (by omega)] at h1
      rw [hinj x y a1 a2 b1 b2 h1]
theorem mc_r_ica {f : Bool} {off : Int} (hinj : ∀ i j : Nat, 16 ≤ i → i < 27 → 16 ≤ j → j < 27 → G.1 i = G.1 j → i = j)
    (row : ∀ (H : Heap) (locs : List Loc) (cells slots : Nat) (ls : Array Slot) (rest : List Value) (rx ry : Option Nat) (tgt : Nat), (pc : Int) + off = (tgt : Int) → ((decide (rx = ry) == f) = true → W p l e R s m args below meth c H locs cells slots Q (F0 m tgt ls rest)) → ((decide (rx = ry) == f) = false → W p l e R s m args below meth c H locs cells slots Q (F0 m (pc + 3) ls rest)) → W p l e R s m args below meth c H locs cells slots Q (F0 m pc ls (va_rf ry :: va_rf rx :: rest)))
    (h : mc_ica f pc off L st M = some (.inl S)) (k : mc_W G p l e R s m args below meth c Q nL l0 z0 S) : mc_W G p l e R s m args below meth c Q nL l0 z0 (pc, L, st, M) := by
  unfold mc_ica at h
  split at h
  · next y x r =>
    split at h
    · next a b hx hy =>
      obtain ⟨tgt, ht, h1, h2⟩ := mc_br_S h
      obtain ⟨ex, bx⟩ := mc_en_rf (G := G) hx
      obtain ⟨ey, by'⟩ := mc_en_rf (G := G) hy
      have hi := mc_en_inj hinj bx by'
      intro H locs ls cells slots hH hS hl hc hz
      show W p l e R s m args below meth c H locs cells slots Q (F0 m pc ls (mc_v G y :: mc_v G x :: r.map (mc_v G)))
      rw [ex, ey]
      refine row H locs cells slots ls _ _ _ tgt ht (fun hb => ?_) (fun hb => ?_)
      · rw [decide_eq_decide.mpr hi] at hb
        rw [h1 hb] at k; exact k H locs ls cells slots hH hS hl hc hz
      · rw [decide_eq_decide.mpr hi] at hb
        rw [h2 hb] at k; exact k H locs ls cells slots hH hS hl hc hz
    · cases h
  · cases h
theorem mc_r_dup (row : ∀ (H : Heap) (locs : List Loc) (cells slots : Nat) (ls : Array Slot) (rest : List Value) (v : Value), v.category = 1 → W p l e R s m args below meth c H locs cells slots Q (F0 m (pc + 1) ls (v :: v :: rest)) → W p l e R s m args below meth c H locs cells slots Q (F0 m pc ls (v :: rest)))
    (h : mc_dup pc L st M = some (.inl S)) (k : mc_W G p l e R s m args below meth c Q nL l0 z0 S) : mc_W G p l e R s m args below meth c Q nL l0 z0 (pc, L, st, M) := by
  unfold mc_dup at h
  split at h
  · obtain ⟨hok, h⟩ := mc_n_t h
    rw [mc_go_S h] at k
    exact fun H locs ls cells slots hH hS hl hc hz => row H locs cells slots ls _ _ (by rw [mc_v_cat]; simpa using hok) (k H locs ls cells slots hH hS hl hc hz)
  · cases h
theorem mc_r_pop (row : ∀ (H : Heap) (locs : List Loc) (cells slots : Nat) (ls : Array Slot) (rest : List Value) (v : Value), v.category = 1 → W p l e R s m args below meth c H locs cells slots Q (F0 m (pc + 1) ls rest) → W p l e R s m args below meth c H locs cells slots Q (F0 m pc ls (v :: rest)))
    (h : mc_pop pc L st M = some (.inl S)) (k : mc_W G p l e R s m args below meth c Q nL l0 z0 S) : mc_W G p l e R s m args below meth c Q nL l0 z0 (pc, L, st, M) := by
  unfold mc_pop at h
  split at h
  · obtain ⟨hok, h⟩ := mc_n_t h
    rw [mc_go_S h] at k
    exact fun H locs ls cells slots hH hS hl hc hz => row H locs cells slots ls _ _ (by rw [mc_v_cat]; simpa using hok) (k H locs ls cells slots hH hS hl hc hz)
  · cases h
theorem mc_r_pop2 (row : ∀ (H : Heap) (locs : List Loc) (cells slots : Nat) (ls : Array Slot) (rest : List Value) (v : Value), v.category = 2 → W p l e R s m args below meth c H locs cells slots Q (F0 m (pc + 1) ls rest) → W p l e R s m args below meth c H locs cells slots Q (F0 m pc ls (v :: rest)))
    (h : mc_pop2 pc L st M = some (.inl S)) (k : mc_W G p l e R s m args below meth c Q nL l0 z0 S) : mc_W G p l e R s m args below meth c Q nL l0 z0 (pc, L, st, M) := by
  unfold mc_pop2 at h
  split at h
  · obtain ⟨hok, h⟩ := mc_n_t h
    rw [mc_go_S h] at k
    exact fun H locs ls cells slots hH hS hl hc hz => row H locs cells slots ls _ _ (by rw [mc_v_cat]; simpa using hok) (k H locs ls cells slots hH hS hl hc hz)
  · cases h
theorem mc_r_dup2 (row2 : ∀ (H : Heap) (locs : List Loc) (cells slots : Nat) (ls : Array Slot) (rest : List Value) (v : Value), v.category = 2 → W p l e R s m args below meth c H locs cells slots Q (F0 m (pc + 1) ls (v :: v :: rest)) → W p l e R s m args below meth c H locs cells slots Q (F0 m pc ls (v :: rest)))
    (row1 : ∀ (H : Heap) (locs : List Loc) (cells slots : Nat) (ls : Array Slot) (rest : List Value) (v w : Value), v.category = 1 → w.category = 1 → W p l e R s m args below meth c H locs cells slots Q (F0 m (pc + 1) ls (v :: w :: v :: w :: rest)) → W p l e R s m args below meth c H locs cells slots Q (F0 m pc ls (v :: w :: rest)))
    (h : mc_dup2 pc L st M = some (.inl S)) (k : mc_W G p l e R s m args below meth c Q nL l0 z0 S) : mc_W G p l e R s m args below meth c Q nL l0 z0 (pc, L, st, M) := by
  unfold mc_dup2 at h
  split at h
  · split at h
    · next hok =>
      rw [mc_go_S h] at k
      exact fun H locs ls cells slots hH hS hl hc hz => row2 H locs cells slots ls _ _ (by rw [mc_v_cat]; simpa using hok) (k H locs ls cells slots hH hS hl hc hz)
    · split at h
      · obtain ⟨hok, h⟩ := mc_n_t h
        simp only [Bool.and_eq_true, beq_iff_eq] at hok
        rw [mc_go_S h] at k
        exact fun H locs ls cells slots hH hS hl hc hz => row1 H locs cells slots ls _ _ _ (by rw [mc_v_cat]; exact hok.1) (by rw [mc_v_cat]; exact hok.2) (k H locs ls cells slots hH hS hl hc hz)
      · cases h
  · cases h
end MC1
end
section
/-! THE MINI MACHINE'S STEPS ON CELLS ARE THE MACHINE'S (own work, over the kit's rows) -/
theorem mc_getD_mem {α : Type} {l : List (List α)} {own : Nat} {x : α} (h : x ∈ l.getD own []) : ∃ r, l[own]? = some r ∧ x ∈ r := by
  rw [List.getD_eq_getElem?_getD] at h
  cases hr : l[own]? with
  | none => rw [hr] at h; cases h
  | some r => rw [hr] at h; exact ⟨r, rfl, h⟩
theorem mc_tb_ws {i : Nat × Nat} {w : Cond} (h : mc_tb i w false = true) : w ∈ mc_ws := by
  simp only [mc_tb, Bool.and_eq_true, decide_eq_true_eq, Bool.false_or] at h
  exact List.mem_filter.mpr ⟨mc_ch_sub _ _ (List.mem_of_getElem? h.1), h.2⟩
theorem mc_cl_at : ∀ ci : Nat, ci < 11 → mc_cl[ci]? = some (mc_cn ci, mc_T ci, mc_N.getD ci 0)
  | 0, _ => rfl
  | 1, _ => rfl
  | 2, _ => rfl
  | 3, _ => rfl
  | 4, _ => rfl
  | 5, _ => rfl
  | 6, _ => rfl
  | 7, _ => rfl
  | 8, _ => rfl
  | 9, _ => rfl
  | 10, _ => rfl
theorem mc_cl_lt {ci : Nat} {r : vw_C} (h : mc_cl[ci]? = some r) : ci < 11 := (List.getElem?_eq_some_iff.mp h).1
theorem mc_cl_eq {ci : Nat} {r : vw_C} (h : mc_cl[ci]? = some r) : r = (mc_cn ci, mc_T ci, mc_N.getD ci 0) := Option.some.inj (h.symm.trans (mc_cl_at ci (mc_cl_lt h)))
theorem mc_ck_at {ci : Nat} (h : ci < 11) : mc_ck ci = true := List.all_eq_true.mp mc_ck_ok ci (List.mem_range.mpr h)
theorem mc_ck_k {ci k : Nat} (h : ci < 11) (hk : k < mc_N.getD ci 0) : u_lay (mc_cn ci) (mc_T ci) k ∈ mc_ws ∧ parseFieldDescriptor (mc_T ci k).2.2.1 = some (mc_t ci k) ∧ ∀ j, j < mc_N.getD ci 0 → k ≠ j → (mc_T ci k).2.1 ≠ (mc_T ci j).2.1 := by
  have h1 := mc_ck_at h
  simp only [mc_ck, Bool.and_eq_true] at h1
  have h2 := List.all_eq_true.mp h1.1.1 k (List.mem_range.mpr hk)
  simp only [Bool.and_eq_true, decide_eq_true_eq] at h2
  refine ⟨mc_at_mem h2.1.1, h2.1.2, fun j hj hne => ?_⟩
  have h3 := List.all_eq_true.mp h2.2 j (List.mem_range.mpr hj)
  simp only [Bool.or_eq_true, decide_eq_true_eq] at h3
  exact h3.resolve_left hne
theorem mc_in_ws {ci : Nat} (h : ci < 11) : ∀ w ∈ u_ws (mc_cn ci) (mc_T ci) (mc_N.getD ci 0), w ∈ mc_ws := fun w hw => by
  obtain ⟨k, hk, rfl⟩ := List.mem_map.mp hw
  exact (mc_ck_k h (List.mem_range.mp hk)).1
theorem mc_inst {ci : Nat} (h : ci < 11) : (Cond.instantiable (mc_cn ci) (mc_N.getD ci 0)) ∈ mc_ws ∧ (Cond.initialized (mc_cn ci)) ∈ mc_ws := by
  have h1 := mc_ck_at h
  simp only [mc_ck, Bool.and_eq_true] at h1
  exact ⟨mc_at_mem h1.1.2, mc_at_mem h1.2⟩
theorem mc_fr_lo {ci k : Nat} (h : ci < 11) : mc_fr ci k = ((mc_T ci k).1, (mc_T ci k).2.1, (mc_T ci k).2.2.1) := if_pos h
theorem mc_decl_ok : (List.range 11).all (fun ci => (List.range (mc_N.getD ci 0)).all (fun k => decide ((mc_T ci k).1 = mc_cn ci))) = true := by decide +kernel
theorem mc_decl {ci k : Nat} (h : ci < 11) (hk : k < mc_N.getD ci 0) : (mc_T ci k).1 = mc_cn ci := by
  have h1 := List.all_eq_true.mp (List.all_eq_true.mp mc_decl_ok ci (List.mem_range.mpr h)) k (List.mem_range.mpr hk)
  simpa using h1
/-- what holds within a method -/
def mc_X (kt : Nat → Option mc_E) (G : mc_G) (own nL : Nat) (ini : Bool) (ret : Option FieldType) (cc : ByteArray) (p : Program) (s : State) (m : MethodId) (args : Array Value) (meth : Method) (c : Code) : Prop :=
  p.tables.exec = Jvm.exec ∧ c.code = cc ∧ s.vm.findClass (mc_cn own) = some m.cls ∧ (∀ w ∈ mc_ws, w.before args s = true) ∧ c.maxLocals = nL ∧ mc_B kt G s s.heap ∧ G.2.1 ≤ s.heap.size ∧ (ini = true → meth.name = "<init>") ∧ meth.locks = false ∧ meth.sig.returnType = ret
theorem mc_fword {s : State} {args : Array Value} {own idx : Nat} {en : Nat × Nat × Bool × String × Nat × Nat} (hts : ∀ w ∈ mc_ws, w.before args s = true) (hN : mc_NW s) (h : mc_find (mc_fl.getD own []) idx = some en) :
    (en.2.2.1 = false ∧ (Cond.fieldLink (mc_cn own) idx (mc_fr en.1 en.2.1).1 (mc_fr en.1 en.2.1).2.1 (mc_fr en.1 en.2.1).2.2).before args s = true) ∨ (en.2.2.1 = true ∧ ∃ host, (Cond.fieldLinkNest (mc_cn own) idx (mc_fr en.1 en.2.1).1 (mc_fr en.1 en.2.1).2.1 (mc_fr en.1 en.2.1).2.2 host).before args s = true) := by
  obtain ⟨r, hr, hm⟩ := mc_getD_mem (mc_find_mem h)
  have h1 := mc_each_at mc_fl_ok hr hm
  obtain ⟨ci, k, nest, host, pl⟩ := en
  cases nest with
  | false => exact Or.inl ⟨rfl, hts _ (mc_tb_ws (w := mc_fw own (idx, ci, k, false, host, pl)) h1)⟩
  | true => exact Or.inr ⟨rfl, host, va_Nw.use (w := .fieldLinkNest (mc_cn own) idx (mc_fr ci k).1 (mc_fr ci k).2.1 (mc_fr ci k).2.2 host) rfl (hN.1 own r hr _ hm rfl)⟩
section MC2

variable {kt : Nat → Option mc_E} {own : Nat} {ini : Bool} {ret : Option FieldType} {cc : ByteArray}

variable {G : mc_G} {p : Program} {l : Launch} {e : Env} {R : Room} {s : State} {m : MethodId} {args : Array Value} {below : List Frame} {meth : Method} {c : Code} {Q : State → Prop} {nL l0 z0 : Nat}

variable {pc : Nat} {L : List (Nat × Value)} {st : List Value} {M : mc_M} {S : mc_S}
theorem mc_gf {H : Heap} {locs : List Loc} {cells slots : Nat} {ls : Array Slot} {rest : List Value} {o ref n d : String} {index : Nat} (hx : p.tables.exec = Jvm.exec) (hb : c.code = cc) (hown : s.vm.findClass o = some m.cls) (hw : (Cond.fieldLink o index ref n d).before args s = true ∨ ∃ host, (Cond.fieldLinkNest o index ref n d host).before args s = true)
    {cf i : Nat} {k : Class} {f : Field} (hi : s.fieldFound? ref n d = some (cf, k, i, f)) (hst : f.isStatic = false) {a : Addr} {cell : Cell} {v : Value} (hcell : H[a]? = some cell) (hknown : cell.vm ≠ .unknown) (hslot : cell.slots[f.slot]? = some v) (hdg : decode cc pc = .ok (.getfield index, 3))
    (kk : W p l e R s m args below meth c H locs cells slots Q (F0 m (pc + 3) ls (v :: rest))) : W p l e R s m args below meth c H locs cells slots Q (F0 m pc ls (.ref a :: rest)) := by
  rcases hw with h | ⟨host, h⟩
  · exact W.getf hx hb hown h hi hst hcell hknown hslot rfl rfl hdg kk
  · exact va_Wgetf hx hb hown h hi hst hcell hknown hslot rfl rfl hdg kk
theorem mc_pf {H : Heap} {locs : List Loc} {cells slots : Nat} {ls : Array Slot} {rest : List Value} {o ref n d : String} {index : Nat} (hx : p.tables.exec = Jvm.exec) (hb : c.code = cc) (hown : s.vm.findClass o = some m.cls) (hw : (Cond.fieldLink o index ref n d).before args s = true ∨ ∃ host, (Cond.fieldLinkNest o index ref n d host).before args s = true)
    {cf i : Nat} {k : Class} {f : Field} (hi : s.fieldFound? ref n d = some (cf, k, i, f)) (hst : f.isStatic = false) {a : Addr} {cell : Cell} {v : Value} (hSd : k2_Sd s f cell.cls v) (hcell : H[a]? = some cell) (hvm : cell.vm = .none) (hlt : f.slot < cell.slots.size) (hdg : decode cc pc = .ok (.putfield index, 3))
    (kk : ∀ H' : Heap, H'[a]? = some (cell.setSlot f.slot v) → H'.size = H.size → (∀ q, q ≠ a → H'[q]? = H[q]?) → W p l e R s m args below meth c H' (locs ++ [⟨a, f.slot⟩]) cells slots Q (F0 m (pc + 3) ls rest)) : W p l e R s m args below meth c H locs cells slots Q (F0 m pc ls (v :: .ref a :: rest)) := by
  rcases hw with h | ⟨host, h⟩
  · exact W.putK hx hb (f := f) ⟨hown, h, ⟨_, _, _, hi⟩, hst⟩ hSd hcell hvm hlt rfl rfl hdg kk
  · exact va_WputK hx hb (f := f) hown h hi hst hSd hcell hvm hlt rfl rfl hdg kk
theorem mc_r_getf (C : mc_X kt G own nL ini ret cc p s m args meth c) {idx : Nat} (hd : decode cc pc = .ok (.getfield idx, 3)) (h : mc_getf kt own idx pc L st M = some (.inl S)) (k : mc_W G p l e R s m args below meth c Q nL l0 z0 S) : mc_W G p l e R s m args below meth c Q nL l0 z0 (pc, L, st, M) := by
  obtain ⟨hx, hb, hown, hts, hml, hB, hba, hini, hlk, hret⟩ := C
  unfold mc_getf at h
  split at h
  · next a r =>
    split at h
    · next en he =>
      split at h
      · next q hq =>
        split at h
        · next v hv =>
          obtain ⟨hok, h⟩ := mc_n_t h
          simp only [Bool.and_eq_true, Bool.or_eq_true, beq_iff_eq, decide_eq_true_eq] at hok
          rw [mc_go_S h] at k
          have hw := mc_fword (en := en) hts hB.2.2.1 he
          have hw' := hw.imp (fun h => h.2) (fun h => h.2)
          intro H locs ls cells slots hH hS hl hc hz
          by_cases ha : a < 256
          · have hq' : kt a = some (.inr q) := by
              have := hq
              unfold mc_ce at this
              rwa [if_pos ha] at this
            have hOF := (hB.2.2.2.1.2.1 a q.1 q.2 hq' en.2.1 v hv).kept hS.2.1
            rw [hok.1.1] at hOF
            obtain ⟨cf, k9, fi, f, cell, h1, h2, h3, h4, h5, h6⟩ := hOF
            show W p l e R s m args below meth c H locs cells slots Q (F0 m pc ls (.ref (mc_a G a) :: r.map (mc_v G)))
            rw [mc_a_lo ha]
            exact mc_gf hx hb hown hw' h1 h2 h3 h4 h5 hd (k H locs ls cells slots hH hS hl hc hz)
          · have hq' : M[a - 256]? = some (.inr q) := by
              have := hq
              unfold mc_ce at this
              rwa [if_neg ha] at this
            obtain ⟨r9, g1, cell, q1, q2, q3, q4⟩ := hH.at (Nat.not_lt.mp ha) hq'
            have hci := mc_cl_lt g1
            have hr9 := mc_cl_eq g1
            subst hr9
            have hk := hok.2.resolve_left ha
            rw [← hok.1.1] at hw' hk
            rw [mc_fr_lo hci] at hw'
            obtain ⟨hSl, hfc, kC, hkC, hkind⟩ := hB.1.1 q.1 _ g1
            obtain ⟨cf, kf, fi, f, hi, hsl⟩ := hSl en.2.1 hk
            show W p l e R s m args below meth c H locs cells slots Q (F0 m pc ls (.ref (mc_a G a) :: r.map (mc_v G)))
            refine mc_gf hx hb hown hw' hi (u_facts hfc hkC (u_lays hts (mc_in_ws hci) hk) hi).1 q1 (by rw [q3]; exact fun h => by cases h) (v := mc_v G v) ?_ hd (k H locs ls cells slots hH hS hl hc hz)
            rw [hsl, q4 en.2.1 hk]
            simp [vp_V, hv]
        · cases h
      · cases h
    · cases h
  · cases h
theorem mc_fit_ok {ty : FieldType} {v : Value} (h : mc_fit ty v = true) : narrow ty (mc_v G v) = mc_v G v ∧ fits ty (mc_v G v) = true := by
  unfold mc_fit at h
  split at h
  · exact ⟨rfl, rfl⟩
  · exact ⟨rfl, rfl⟩
  · next x =>
    simp only [Bool.or_eq_true, beq_iff_eq] at h
    rcases h with rfl | rfl
    · exact ⟨rfl, rfl⟩
    · exact ⟨rfl, rfl⟩
  · exact ⟨rfl, rfl⟩
  · exact ⟨rfl, rfl⟩
  · exact ⟨rfl, rfl⟩
  · exact ⟨rfl, rfl⟩
  · cases h
theorem mc_r_putf (C : mc_X kt G own nL ini ret cc p s m args meth c) {idx : Nat} (hd : decode cc pc = .ok (.putfield idx, 3)) (h : mc_putf own ini idx pc L st M = some (.inl S)) (k : mc_W G p l e R s m args below meth c Q nL l0 z0 S) : mc_W G p l e R s m args below meth c Q nL l0 z0 (pc, L, st, M) := by
  obtain ⟨hx, hb, hown, hts, hml, hB, hba, hini, hlk, hret⟩ := C
  unfold mc_putf at h
  split at h
  · next v a r =>
    split at h
    · next en he =>
      split at h
      · next q hq =>
        obtain ⟨hok, h⟩ := mc_n_t h
        simp only [Bool.and_eq_true, Bool.or_eq_true, beq_iff_eq, decide_eq_true_eq, Bool.not_eq_true'] at hok
        obtain ⟨⟨⟨⟨⟨⟨e1, e2⟩, e3⟩, e4⟩, e5⟩, e6⟩, e7⟩ := hok
        rw [mc_go_S h] at k
        have hw := mc_fword (en := en) hts hB.2.2.1 he
        rw [mc_fr_lo e3] at hw
        obtain ⟨hn, hf⟩ := mc_fit_ok (G := G) e6
        obtain ⟨hlay, hty, hnm⟩ := mc_ck_k e3 e4
        intro H locs ls cells slots hH hS hl hc hz
        obtain ⟨r9, g1, cell, q1, q2, q3, q4⟩ := hH.at e2 hq
        have hr9 := mc_cl_eq g1
        subst hr9
        rw [e1] at g1 q2 q4
        have hap := va_apart (own := "") hts (mc_in_ws e3) (mc_t en.1) (fun j hj => (mc_ck_k e3 hj).2.1) (fun x hx y hy hne => (mc_ck_k e3 hx).2.2 y hy hne) hB.1 g1
        obtain ⟨hSl, hfc, kC, hkC, hkind⟩ := hB.1.1 en.1 _ g1
        obtain ⟨cf, kf, fi, f, hi, hsl⟩ := hSl en.2.1 e4
        have hst := (u_facts hfc hkC (u_lays hts (mc_in_ws e3) e4) hi).1
        have hk0 : G.2.1 + (a - 256) = mc_a G a := (mc_a_hi e2).symm
        have key : ∀ H' : Heap, H'[mc_a G a]? = some (cell.setSlot f.slot (mc_v G v)) → H'.size = H.size → (∀ q : Nat, q ≠ mc_a G a → H'[q]? = H[q]?) → W p l e R s m args below meth c H' (locs ++ [⟨mc_a G a, f.slot⟩]) cells slots Q (F0 m (pc + 3) ls (r.map (mc_v G))) := by
          intro H' f1 f2 f3
          rw [hsl] at f1 ⊢
          refine k H' _ ls cells slots (hH.set hq ?_ f2 (fun x hx => f3 x (by rw [← hk0]; exact hx))) (hS.put f2 f3 (by rw [← hk0]; exact Nat.le_add_right _ _)) hl (by rw [List.length_set]; exact hc) (by rw [mc_sz_set hq (by simp [mc_es])]; exact hz)
          refine ⟨(mc_cn en.1, mc_T en.1, mc_N.getD en.1 0), by rw [e1]; exact g1, ?_⟩
          rw [hk0, e1]
          refine t_OB.to (V := updV (vp_V (q.2.map (mc_v G))) en.2.1 (mc_v G v)) ⟨_, f1, q2, q3, t_set q4 hap e4 (mc_v G v)⟩ (fun j _ => ?_)
          rw [vp_updV_set (by rw [List.length_map]; exact e5), List.map_set]
        show W p l e R s m args below meth c H locs cells slots Q (F0 m pc ls (mc_v G v :: .ref (mc_a G a) :: r.map (mc_v G)))
        unfold u_lay at hlay
        rcases e7 with hfin | ⟨⟨i1, i2⟩, i3⟩
        · rw [if_neg (by rw [hfin]; decide)] at hlay
          exact mc_pf hx hb hown (hw.imp (fun h => h.2) (fun h => h.2)) hi hst (by rw [q2]; exact u_store hfc hkC hkind (hts _ hlay) hi hty hn hf) q1 q3 (by rw [hsl]; exact k2_hasslot (q4 en.2.1 e4)) hd key
        · by_cases hfin : (mc_T en.1 en.2.1).2.2.2 = true
          · rw [if_pos hfin] at hlay
            rcases hw with ⟨-, hw⟩ | ⟨hne, host, hw⟩
            · have hcf : m.cls = cf := by
                obtain ⟨_, _, c', _, _, _, -, -, hf', -, -, -, hown2, -⟩ := Cond.laysFinal_spec (hts _ hlay)
                have z1 : c' = cf := by have := hi.symm.trans hf'; simp at this; exact this.1.symm
                have z2 : (mc_T en.1 en.2.1).1 = mc_cn own := by
                  rw [i2]
                  exact mc_decl e3 e4
                rw [z2] at hown2
                rw [← z1]; exact Option.some.inj (hown.symm.trans hown2)
              exact W.putFinK hx hb hown hw hi hst hcf (hini i1) (by rw [q2]; exact u_fits hfc hkC hkind (Or.inr (hts _ hlay)) hi hty hn hf) q1 q3 (by rw [hsl]; exact k2_hasslot (q4 en.2.1 e4)) rfl rfl hd key
            · exact absurd i3 (by rw [hne]; decide)
          · rw [if_neg hfin] at hlay
            exact mc_pf hx hb hown (hw.imp (fun h => h.2) (fun h => h.2)) hi hst (by rw [q2]; exact u_store hfc hkC hkind (hts _ hlay) hi hty hn hf) q1 q3 (by rw [hsl]; exact k2_hasslot (q4 en.2.1 e4)) hd key
      · cases h
    · cases h
  · cases h
end MC2
end
section
/-! THE MINI MACHINE'S STEPS ON ARRAYS, NEW CELLS, STATICS AND CONSTANTS ARE THE MACHINE'S (own work, over the kit's rows) -/
theorem mc_tys_at {G : mc_G} {t : Nat} (h : t < 7) : (mc_tys G)[t]? = some (G.2.2.1 t, mc_ty t) := by
  simp [mc_tys, h]
theorem mc_in_iff {i : Int32} {n : Nat} (h : mc_in i n = true) : ¬ (i < 0 ∨ n ≤ i.toNatClampNeg) := of_decide_eq_true h
theorem mc_AO_args {C : String} {s : State} (h : mc_AO (.object C) s) : va_AO C s := h
section MC3

variable {kt : Nat → Option mc_E} {own : Nat} {ini : Bool} {ret : Option FieldType} {cc : ByteArray}

variable {G : mc_G} {p : Program} {l : Launch} {e : Env} {R : Room} {s : State} {m : MethodId} {args : Array Value} {below : List Frame} {meth : Method} {c : Code} {Q : State → Prop} {nL l0 z0 : Nat}

variable {pc : Nat} {L : List (Nat × Value)} {st : List Value} {M : mc_M} {S : mc_S}
theorem mc_r_ald (C : mc_X kt G own nL ini ret cc p s m args meth c) {ok : Nat → Bool} (row : ∀ (H : Heap) (locs : List Loc) (cells slots : Nat) (ls : Array Slot) (rest : List Value) (t : Nat) (a : Addr) (cell : Cell) (i : Int32) (v : Value), ok t = true → H[a]? = some cell → s.isArrayOf cell (mc_ty t) → cell.vm ≠ .unknown → ¬ (i < 0 ∨ cell.slots.size ≤ i.toNatClampNeg) → cell.slots[i.toNatClampNeg]? = some v → W p l e R s m args below meth c H locs cells slots Q (F0 m (pc + 1) ls (v :: rest)) → W p l e R s m args below meth c H locs cells slots Q (F0 m pc ls (.int i :: .ref a :: rest)))
    (h : mc_ald kt ok pc L st M = some (.inl S)) (k : mc_W G p l e R s m args below meth c Q nL l0 z0 S) : mc_W G p l e R s m args below meth c Q nL l0 z0 (pc, L, st, M) := by
  obtain ⟨hx, hb, hown, hts, hml, hB, hba, hini, hlk, hret⟩ := C
  unfold mc_ald at h
  split at h
  · next i a r =>
    split at h
    · next q hq =>
      obtain ⟨hok, h⟩ := mc_n_t h
      simp only [Bool.and_eq_true, Bool.or_eq_true, decide_eq_true_eq] at hok
      obtain ⟨⟨hok, hin0⟩, hok7⟩ := hok
      have hin := mc_in_iff hin0
      have hlt : i.toNatClampNeg < q.2.1 := Nat.not_le.mp fun z => hin (Or.inr z)
      rw [mc_go_S h] at k
      intro H locs ls cells slots hH hS hl hc hz
      show W p l e R s m args below meth c H locs cells slots Q (F0 m pc ls (.int i :: .ref (mc_a G a) :: r.map (mc_v G)))
      by_cases ha : a < 256
      · have hq' : kt a = some (.inl (q.1, q.2.1, q.2.2)) := by
          have := hq
          unfold mc_ce at this
          rwa [if_pos ha] at this
        obtain ⟨cell, h1, h2, h3, h4, h5, h6, h7⟩ := (hB.2.2.2.1.1 a q.1 q.2.1 q.2.2 hq').kept hS.2.1
        rw [mc_a_lo ha]
        refine row H locs cells slots ls _ q.1 _ cell i (mc_v G (q.2.2 i.toNatClampNeg)) hok h1 h2 h3 (fun z => ?_) (h6 _ hlt) (k H locs ls cells slots hH hS hl hc hz)
        rcases z with z | z
        · exact hin (Or.inl z)
        · omega
      · have hq' : M[a - 256]? = some (.inl q) := by
          have := hq
          unfold mc_ce at this
          rwa [if_neg ha] at this
        have h7 := hok7.resolve_left ha
        have hcell : H[mc_a G a]? = some (arrV (G.2.2.1 q.1) q.2.1 (fun j => mc_v G (q.2.2 j))) := hH.at (Nat.not_lt.mp ha) hq' h7
        · refine row H locs cells slots ls _ q.1 _ _ i (mc_v G (q.2.2 i.toNatClampNeg)) hok hcell ((hB.1.2 q.1 _ (mc_tys_at h7)).1 _ _) (fun z => by cases z) ?_ (arrV_read _ _ hlt) (k H locs ls cells slots hH hS hl hc hz)
          rw [arrV_size]
          exact hin
    · cases h
  · cases h
theorem mc_r_ast (C : mc_X kt G own nL ini ret cc p s m args meth c) {ok : Nat → Value → Bool} {w : Nat → Value → Value} (row : ∀ (H : Heap) (locs : List Loc) (cells slots : Nat) (ls : Array Slot) (rest : List Value) (t : Nat) (v : Value) (a : Addr) (cell : Cell) (i : Int32), ok t v = true → H[a]? = some cell → s.isArrayOf cell (mc_ty t) → cell.vm ≠ .unknown → ¬ (i < 0 ∨ cell.slots.size ≤ i.toNatClampNeg) → (∀ H' : Heap, H'[a]? = some (cell.setSlot i.toNatClampNeg (mc_v G (w t v))) → H'.size = H.size → (∀ q : Nat, q ≠ a → H'[q]? = H[q]?) → W p l e R s m args below meth c H' (locs ++ [⟨a, i.toNatClampNeg⟩]) cells slots Q (F0 m (pc + 1) ls rest)) → W p l e R s m args below meth c H locs cells slots Q (F0 m pc ls (mc_v G v :: .int i :: .ref a :: rest)))
    (h7 : ∀ t v, ok t v = true → t < 7) (h : mc_ast kt ok w pc L st M = some (.inl S)) (k : mc_W G p l e R s m args below meth c Q nL l0 z0 S) : mc_W G p l e R s m args below meth c Q nL l0 z0 (pc, L, st, M) := by
  obtain ⟨hx, hb, hown, hts, hml, hB, hba, hini, hlk, hret⟩ := C
  unfold mc_ast at h
  split at h
  · next v i a r =>
    split at h
    · next q hq =>
      obtain ⟨hok, h⟩ := mc_n_t h
      simp only [Bool.and_eq_true, decide_eq_true_eq] at hok
      obtain ⟨⟨ha, hok⟩, hin0⟩ := hok
      have hin := mc_in_iff hin0
      rw [mc_go_S h] at k
      intro H locs ls cells slots hH hS hl hc hz
      have hcell : H[mc_a G a]? = some (arrV (G.2.2.1 q.1) q.2.1 (fun j => mc_v G (q.2.2 j))) := hH.at ha hq (h7 _ _ hok)
      have hk0 : G.2.1 + (a - 256) = mc_a G a := (mc_a_hi ha).symm
      show W p l e R s m args below meth c H locs cells slots Q (F0 m pc ls (mc_v G v :: .int i :: .ref (mc_a G a) :: r.map (mc_v G)))
      refine row H locs cells slots ls _ q.1 v _ _ i hok hcell ((hB.1.2 q.1 _ (mc_tys_at (h7 _ _ hok))).1 _ _) (fun z => by cases z) (by rw [arrV_size]; exact hin) (fun H' f1 f2 f3 => ?_)
      refine k H' _ ls cells slots (hH.set hq ?_ f2 (fun x hx => f3 x (by rw [← hk0]; exact hx))) (hS.put f2 f3 (by rw [← hk0]; exact Nat.le_add_right _ _)) hl (by rw [List.length_set]; exact hc) (by rw [mc_sz_set hq (by simp [mc_es])]; exact hz)
      intro _
      show H'[G.2.1 + (a - 256)]? = some (arrV _ _ _)
      rw [hk0, f1, arrV_store]
      refine congrArg some (congrArg (arrV (G.2.2.1 q.1) q.2.1) (funext fun j => ?_))
      by_cases hj : j = i.toNatClampNeg
      · subst hj
        simp [updV]
      · simp [updV, hj]
    · cases h
  · cases h
theorem mc_r_aast (C : mc_X kt G own nL ini ret cc p s m args meth c) (hd : decode cc pc = .ok (.aastore, 1)) (h : mc_ast kt (mc_isP M) (fun _ v => v) pc L st M = some (.inl S)) (k : mc_W G p l e R s m args below meth c Q nL l0 z0 S) : mc_W G p l e R s m args below meth c Q nL l0 z0 (pc, L, st, M) := by
  obtain ⟨hx, hb, hown, hts, hml, hB, hba, hini, hlk, hret⟩ := C
  unfold mc_ast at h
  split at h
  · next v i a r =>
    split at h
    · next q hq =>
      obtain ⟨hok, h⟩ := mc_n_t h
      simp only [Bool.and_eq_true, decide_eq_true_eq] at hok
      obtain ⟨⟨ha, hok⟩, hin0⟩ := hok
      have hin := mc_in_iff hin0
      rw [mc_go_S h] at k
      unfold mc_isP at hok
      simp only [Bool.and_eq_true, beq_iff_eq] at hok
      obtain ⟨ht, hok⟩ := hok
      split at hok
      · next b h9 =>
        simp only [Bool.and_eq_true, decide_eq_true_eq] at hok
        obtain ⟨hb0, hok⟩ := hok
        split at hok
        · next z hz9 =>
          have hz8 : z.1 = 8 := by simpa using hok
          intro H locs ls cells slots hH hS hl hc hz
          have hcell : H[mc_a G a]? = some (arrV (G.2.2.1 q.1) q.2.1 (fun j => mc_v G (q.2.2 j))) := hH.at ha hq (by rw [ht]; decide)
          have hk0 : G.2.1 + (a - 256) = mc_a G a := (mc_a_hi ha).symm
          obtain ⟨r9, g1, cell, q1, q2, q3, q4⟩ := hH.at hb0 hz9
          rw [hz8] at g1 q2
          have hcls := (hB.1.1 8 _ g1).2
          have hr9 := mc_cl_eq g1
          subst hr9
          obtain ⟨kA, comp, k1, k2, k3, -⟩ := (hB.1.2 4 _ (mc_tys_at (by decide))).2
          have hcomp : comp = G.2.2.2.1 8 := Option.some.inj (k3.symm.trans hcls.1)
          subst hcomp
          obtain ⟨kC, hkC, -⟩ := id hcls.2
          rw [ht] at hcell
          show W p l e R s m args below meth c H locs cells slots Q (F0 m pc ls (.ref (mc_a G b) :: .int i :: .ref (mc_a G a) :: r.map (mc_v G)))
          refine W.aast hx hb hcell (fun q h => by cases h) (fun h => by cases h) k1 k2 rfl hkC ⟨fun h => hin (Or.inl h), by rw [arrV_size]; exact Nat.not_le.mp fun h => hin (Or.inr h)⟩ q1 (fun q h => by rw [q3] at h; cases h) (by rw [q2]; exact hkC) (by rw [q2]; exact va_assign hcls) rfl rfl hd fun H' f1 f2 f3 => ?_
          refine k H' _ ls cells slots (hH.set hq ?_ f2 (fun x hx => f3 x (by rw [← hk0]; exact hx))) (hS.put f2 f3 (by rw [← hk0]; exact Nat.le_add_right _ _)) hl (by rw [List.length_set]; exact hc) (by rw [mc_sz_set hq (by simp [mc_es])]; exact hz)
          intro _
          show H'[G.2.1 + (a - 256)]? = some (arrV _ _ _)
          rw [hk0, f1, arrV_store, ht]
          refine congrArg some (congrArg (arrV (G.2.2.1 4) q.2.1) (funext fun j => ?_))
          by_cases hj : j = i.toNatClampNeg
          · subst hj
            simp [updV, mc_v]
          · simp [updV, hj]
        · cases hok
      · cases hok
    · cases h
  · cases h
theorem mc_r_len (C : mc_X kt G own nL ini ret cc p s m args meth c) (hd : decode cc pc = .ok (.arraylength, 1)) (h : mc_len kt pc L st M = some (.inl S)) (k : mc_W G p l e R s m args below meth c Q nL l0 z0 S) : mc_W G p l e R s m args below meth c Q nL l0 z0 (pc, L, st, M) := by
  obtain ⟨hx, hb, hown, hts, hml, hB, hba, hini, hlk, hret⟩ := C
  unfold mc_len at h
  split at h
  · next a r =>
    split at h
    · next q hq =>
      obtain ⟨hok, h⟩ := mc_n_t h
      simp only [Bool.or_eq_true, decide_eq_true_eq] at hok
      rw [mc_go_S h] at k
      intro H locs ls cells slots hH hS hl hc hz
      show W p l e R s m args below meth c H locs cells slots Q (F0 m pc ls (.ref (mc_a G a) :: r.map (mc_v G)))
      by_cases ha : a < 256
      · have hq' : kt a = some (.inl (q.1, q.2.1, q.2.2)) := by
          have := hq
          unfold mc_ce at this
          rwa [if_pos ha] at this
        obtain ⟨cell, h1, h2, h3, h4, h5, h6, h7⟩ := (hB.2.2.2.1.1 a q.1 q.2.1 q.2.2 hq').kept hS.2.1
        rw [mc_a_lo ha]
        exact W.alen (n := Int32.ofNat q.2.1) hx hb h1 h2 h5 rfl rfl hd (k H locs ls cells slots hH hS hl hc hz)
      · have hq' : M[a - 256]? = some (.inl q) := by
          have := hq
          unfold mc_ce at this
          rwa [if_neg ha] at this
        have hcell : H[mc_a G a]? = some (arrV (G.2.2.1 q.1) q.2.1 (fun j => mc_v G (q.2.2 j))) := hH.at (Nat.not_lt.mp ha) hq' (hok.resolve_left ha)
        exact W.alen (n := Int32.ofNat q.2.1) hx hb hcell ((hB.1.2 q.1 _ (mc_tys_at (hok.resolve_left ha))).1 _ _) (by rw [arrV_size]) rfl rfl hd (k H locs ls cells slots hH hS hl hc hz)
    · cases h
  · cases h
theorem mc_new1 {H H1 : Heap} {locs : List Loc} {x : mc_E} (hba : G.2.1 ≤ s.heap.size) (hS : va_S (mc_A G) s.heap H locs) (z : H1.size = H.size + 1) (oq : ∀ q : Nat, q < H.size → H1[q]? = H[q]?) : va_S (mc_A G) s.heap H1 locs :=
  ⟨Nat.le_trans hS.1 (by omega), fun q h1 h2 => (oq q (Nat.lt_of_lt_of_le h1 hS.1)).trans (hS.2.1 q h1 h2), hS.2.2⟩
theorem mc_r_newa (C : mc_X kt G own nL ini ret cc p s m args meth c) {a : ArrayType} (hd : decode cc pc = .ok (.newarray a, 2)) (h : mc_newa a pc L st M = some (.inl S)) (hR : S.2.2.2.length ≤ R.cells + l0 ∧ mc_sz S.2.2.2 ≤ R.slots + z0) (k : mc_W G p l e R s m args below meth c Q nL l0 z0 S) : mc_W G p l e R s m args below meth c Q nL l0 z0 (pc, L, st, M) := by
  obtain ⟨hx, hb, hown, hts, hml, hB, hba, hini, hlk, hret⟩ := C
  unfold mc_newa at h
  split at h
  · next n r =>
    split at h
    · next t ht =>
      obtain ⟨hok, h⟩ := mc_n_t h
      simp only [Bool.and_eq_true, decide_eq_true_eq] at hok
      obtain ⟨hn, hN⟩ := hok
      rw [mc_go_S h] at k hR
      have hty : newarray.typeOf a = mc_ty t ∧ t < 4 ∧ componentBytes (mc_ty t) ≤ 8 ∧ Cond.arrayClass (newarray.typeOf a) ∈ mc_ws := by
        cases a <;> simp only [mc_tag, Option.some.injEq, reduceCtorEq] at ht <;> subst ht
        · exact ⟨rfl, by decide, by decide, mc_at_mem mc_ac_boolean⟩
        · exact ⟨rfl, by decide, by decide, mc_at_mem mc_ac_byte⟩
        · exact ⟨rfl, by decide, by decide, mc_at_mem mc_ac_int⟩
        · exact ⟨rfl, by decide, by decide, mc_at_mem mc_ac_long⟩
      obtain ⟨e1, e2, e3, e4⟩ := hty
      intro H locs ls cells slots hH hS hl hc hz
      have hc : cells + l0 = M.length := hc
      have hz : slots + z0 = mc_sz M := hz
      have hlen : (M ++ [(Sum.inl (t, n.toNatClampNeg, fun _ => defaultValue (mc_ty t)) : mc_E)]).length = M.length + 1 := by rw [List.length_append]; rfl
      have hsz : mc_sz (M ++ [(Sum.inl (t, n.toNatClampNeg, fun _ => defaultValue (mc_ty t)) : mc_E)]) = mc_sz M + n.toNatClampNeg := by rw [mc_sz_app, mc_sz_one]; rfl
      have hR1 : M.length + 1 ≤ R.cells + l0 := by have := hR.1; rw [← hlen]; exact this
      have hR2 : mc_sz M + n.toNatClampNeg ≤ R.slots + z0 := by have := hR.2; rw [← hsz]; exact this
      refine va_newaK hx hb (hts _ e4) rfl hd rfl hn rfl (Nat.le_trans (Nat.mul_le_mul hN (by rw [e1]; exact e3)) (Nat.le_of_ble_eq_true rfl)) (by omega) (by omega) rfl fun H1 cA f1 f2 f3 hAr hNm => ?_
      have hcA : cA = G.2.2.1 t := by
        have h9 := (hB.1.2 t _ (mc_tys_at (by omega))).2
        rw [e1] at hNm
        have h10 : s.vm.findClass ("[" ++ (mc_ty t).toString) = some (G.2.2.1 t) := by
          match t, e2, h9 with
          | 0, _, h9 => exact h9
          | 1, _, h9 => exact h9
          | 2, _, h9 => exact h9
          | 3, _, h9 => exact h9
        exact Option.some.inj (hNm.symm.trans h10)
      have k := k H1 locs ls (cells + 1) (slots + n.toNatClampNeg) (hH.push (by
        intro _
        show H1[H.size]? = some (arrV _ _ _)
        rw [f1, hcA, e1]
        congr 2
        funext j
        match t, e2 with
        | 0, _ => rfl
        | 1, _ => rfl
        | 2, _ => rfl
        | 3, _ => rfl) f2 f3) (mc_new1 (x := Sum.inl (0, 0, fun _ => .null)) hba hS f2 f3) hl (by rw [hlen]; omega) (by rw [hsz]; omega)
      have hv : mc_v G (.ref (256 + M.length)) = .ref H.size := by
        show Value.ref _ = _
        rw [mc_a_new, hH.1]
      have k' : W p l e R s m args below meth c H1 locs (cells + 1) (slots + n.toNatClampNeg) Q (F0 m (pc + 2) ls (mc_v G (.ref (256 + M.length)) :: r.map (mc_v G))) := k
      rw [hv] at k'
      exact k'
    · cases h
  · cases h
theorem mc_r_anew (C : mc_X kt G own nL ini ret cc p s m args meth c) {idx : Nat} (hd : decode cc pc = .ok (.anewarray idx, 3)) (h : mc_anew own idx pc L st M = some (.inl S)) (hR : S.2.2.2.length ≤ R.cells + l0 ∧ mc_sz S.2.2.2 ≤ R.slots + z0) (k : mc_W G p l e R s m args below meth c Q nL l0 z0 S) : mc_W G p l e R s m args below meth c Q nL l0 z0 (pc, L, st, M) := by
  obtain ⟨hx, hb, hown, hts, hml, hB, hba, hini, hlk, hret⟩ := C
  unfold mc_anew at h
  split at h
  · next n r =>
    split at h
    · next en he =>
      obtain ⟨hok, h⟩ := mc_n_t h
      simp only [Bool.and_eq_true, decide_eq_true_eq, beq_iff_eq] at hok
      obtain ⟨⟨h8, hn⟩, hN⟩ := hok
      rw [mc_go_S h] at k hR
      obtain ⟨r9, hr9, hm⟩ := mc_getD_mem (mc_find_mem he)
      have hw : Cond.classLink (mc_cn own) idx (mc_cn 8) ∈ mc_ws := by
        have h9 := mc_at_mem (mc_each_at mc_kl_ok hr9 hm)
        rw [← h8]
        exact h9
      intro H locs ls cells slots hH hS hl hc hz
      have hc : cells + l0 = M.length := hc
      have hz : slots + z0 = mc_sz M := hz
      have hlen : (M ++ [(Sum.inl (4, n.toNatClampNeg, fun _ => .null) : mc_E)]).length = M.length + 1 := by rw [List.length_append]; rfl
      have hsz : mc_sz (M ++ [(Sum.inl (4, n.toNatClampNeg, fun _ => .null) : mc_E)]) = mc_sz M + n.toNatClampNeg := by rw [mc_sz_app, mc_sz_one]; rfl
      have hR1 : M.length + 1 ≤ R.cells + l0 := by have := hR.1; rw [← hlen]; exact this
      have hR2 : mc_sz M + n.toNatClampNeg ≤ R.slots + z0 := by have := hR.2; rw [← hsz]; exact this
      refine W.anew hx hb hown (hts _ hw) (va_AO.use (C := "StrikeAwake$Person") (A := args) (mc_AO_args hB.2.1.1)) rfl hd rfl hn (Nat.le_trans (Nat.mul_le_mul hN (Nat.le_refl 4)) (Nat.le_of_ble_eq_true rfl)) (by omega) (by omega) fun cA kA comp f1 f2 f3 f4 => ?_
      generalize hH1 : H.push ({ cls := cA, slots := Array.replicate n.toNatClampNeg .null, vm := .none } : Cell) = H1
      have y1 : H1.size = H.size + 1 := by rw [← hH1, Array.size_push]
      have y2 : H1[H.size]? = some (arrV cA n.toNatClampNeg (fun _ => .null)) := by rw [← hH1, Array.getElem?_push_size, ← arrV_new]
      have y3 : ∀ q : Nat, q < H.size → H1[q]? = H[q]? := fun q hq => by rw [← hH1, Array.getElem?_push, if_neg (Nat.ne_of_lt hq)]
      have hcA : cA = G.2.2.1 4 := by
        obtain ⟨kA', comp', -, -, -, h10⟩ := (hB.1.2 4 _ (mc_tys_at (by decide))).2
        exact Option.some.inj (f1.symm.trans h10)
      have k' : W p l e R s m args below meth c H1 locs (cells + 1) (slots + n.toNatClampNeg) Q (F0 m (pc + 3) ls (mc_v G (.ref (256 + M.length)) :: r.map (mc_v G))) := k H1 locs ls (cells + 1) (slots + n.toNatClampNeg) (hH.push (by
        intro _
        show H1[H.size]? = some (arrV _ _ _)
        rw [y2, hcA]
        rfl) y1 y3) (mc_new1 (x := Sum.inl (0, 0, fun _ => .null)) hba hS y1 y3) hl (by rw [hlen]; omega) (by rw [hsz]; omega)
      have hv : mc_v G (.ref (256 + M.length)) = .ref H.size := by
        show Value.ref _ = _
        rw [mc_a_new, hH.1]
      rw [hv] at k'
      exact k'
    · cases h
  · cases h
theorem mc_def_v {ty : FieldType} : mc_v G (defaultValue ty) = defaultValue ty := by cases ty <;> rfl
theorem mc_r_new (C : mc_X kt G own nL ini ret cc p s m args meth c) {idx : Nat} (hd : decode cc pc = .ok (.new idx, 3)) (h : mc_new own idx pc L st M = some (.inl S)) (hR : S.2.2.2.length ≤ R.cells + l0 ∧ mc_sz S.2.2.2 ≤ R.slots + z0) (k : mc_W G p l e R s m args below meth c Q nL l0 z0 S) : mc_W G p l e R s m args below meth c Q nL l0 z0 (pc, L, st, M) := by
  obtain ⟨hx, hb, hown, hts, hml, hB, hba, hini, hlk, hret⟩ := C
  unfold mc_new at h
  split at h
  · next en he =>
    obtain ⟨hok, h⟩ := mc_n_t h
    simp only [decide_eq_true_eq] at hok
    rw [mc_go_S h] at k hR
    obtain ⟨r9, hr9, hm⟩ := mc_getD_mem (mc_find_mem he)
    have hw : Cond.classLink (mc_cn own) idx (mc_cn en.1) ∈ mc_ws := mc_at_mem (mc_each_at mc_kl_ok hr9 hm)
    intro H locs ls cells slots hH hS hl hc hz
    have hc : cells + l0 = M.length := hc
    have hz : slots + z0 = mc_sz M := hz
    generalize hfs : (List.range (mc_N.getD en.1 0)).map (fun k => defaultValue (mc_t en.1 k)) = fs at k hR
    have hfl : fs.length = mc_N.getD en.1 0 := by rw [← hfs, List.length_map, List.length_range]
    have hlen : (M ++ [(Sum.inr (en.1, fs) : mc_E)]).length = M.length + 1 := by rw [List.length_append]; rfl
    have hsz : mc_sz (M ++ [(Sum.inr (en.1, fs) : mc_E)]) = mc_sz M + mc_N.getD en.1 0 := by rw [mc_sz_app, mc_sz_one, ← hfl]; rfl
    have hR1 : M.length + 1 ≤ R.cells + l0 := by have := hR.1; rw [← hlen]; exact this
    have hR2 : mc_sz M + mc_N.getD en.1 0 ≤ R.slots + z0 := by have := hR.2; rw [← hsz]; exact this
    have hKn := hB.1.1 en.1 _ (mc_cl_at en.1 hok)
    refine W.newcK hx hb hown (hts _ hw) (hts _ (mc_inst hok).1) (hts _ (mc_inst hok).2) rfl hd (by omega) (by omega) hKn.2.1 rfl fun H1 kC hkC f1 f2 f3 => ?_
    have k' : W p l e R s m args below meth c H1 locs (cells + 1) (slots + mc_N.getD en.1 0) Q (F0 m (pc + 3) ls (mc_v G (.ref (256 + M.length)) :: st.map (mc_v G))) := k H1 locs ls (cells + 1) (slots + mc_N.getD en.1 0) (hH.push (by
      refine ⟨_, mc_cl_at en.1 hok, (u_born (mc_t en.1) hts (mc_in_ws hok) hKn hkC f1 (fun j hj => (mc_ck_k hok hj).2.1)).to fun j hj => ?_⟩
      rw [← hfs]
      have hj' : j < mc_N.getD en.1 0 := hj
      simp only [vp_V, List.map_map, List.getD_eq_getElem?_getD, List.getElem?_map]
      rw [List.getElem?_range (by rw [← List.getD_eq_getElem?_getD]; exact hj')]
      exact mc_def_v.symm) f2 f3) (mc_new1 (x := Sum.inl (0, 0, fun _ => .null)) hba hS f2 f3) hl (by rw [hlen]; omega) (by rw [hsz]; omega)
    have hv : mc_v G (.ref (256 + M.length)) = .ref H.size := by
      show Value.ref _ = _
      rw [mc_a_new, hH.1]
    rw [hv] at k'
    exact k'
  · cases h
theorem mc_r_gs (C : mc_X kt G own nL ini ret cc p s m args meth c) {idx : Nat} (hd : decode cc pc = .ok (.getstatic idx, 3)) (h : mc_gs own idx pc L st M = some (.inl S)) (k : mc_W G p l e R s m args below meth c Q nL l0 z0 S) : mc_W G p l e R s m args below meth c Q nL l0 z0 (pc, L, st, M) := by
  obtain ⟨hx, hb, hown, hts, hml, hB, hba, hini, hlk, hret⟩ := C
  unfold mc_gs at h
  split at h
  · next en he =>
    split at h
    · next q hq =>
      rw [mc_go_S h] at k
      obtain ⟨r9, hr9, hm⟩ := mc_getD_mem (mc_find_mem he)
      have h1 := mc_each_at mc_sl_ok hr9 hm
      have hZ := hB.2.2.2.1.2.2.1 q (List.mem_of_getElem? hq)
      obtain ⟨j, nest, host, pl⟩ := en
      intro H locs ls cells slots hH hS hl hc hz
      have k' := k H locs ls cells slots hH hS hl hc hz
      cases nest with
      | false =>
        have hw := hts _ (mc_tb_ws (w := mc_sw own (idx, j, false, host, pl)) h1)
        unfold mc_sw at hw
        dsimp only at hq hw
        rw [hq] at hw
        exact va_gets hx hb hZ hS hown hw (fun _ h => h) hd k'
      | true =>
        have hw := hB.2.2.1.2.2 own r9 hr9 _ hm rfl
        unfold mc_sw at hw
        dsimp only at hq hw
        rw [hq] at hw
        exact va_getsN hx hb hZ hS hown (va_Nw.use rfl hw) (fun _ h => h) hd k'
    · cases h
  · cases h
theorem mc_r_ldc (C : mc_X kt G own nL ini ret cc p s m args meth c) {idx : Nat} (hd : decode cc pc = .ok (.ldc idx, 2)) (h : mc_ldc own idx 2 pc L st M = some (.inl S)) (k : mc_W G p l e R s m args below meth c Q nL l0 z0 S) : mc_W G p l e R s m args below meth c Q nL l0 z0 (pc, L, st, M) := by
  obtain ⟨hx, hb, hown, hts, hml, hB, hba, hini, hlk, hret⟩ := C
  unfold mc_ldc at h
  split at h
  · next en he =>
    obtain ⟨hok, h⟩ := mc_n_t h
    rw [mc_go_S h] at k
    obtain ⟨r9, hr9, hm⟩ := mc_getD_mem (mc_find_mem he)
    have h1 := mc_at_mem (mc_each_at mc_cs_ok hr9 hm)
    obtain ⟨v, pl⟩ := en
    intro H locs ls cells slots hH hS hl hc hz
    have k' := k H locs ls cells slots hH hS hl hc hz
    cases v with
    | int x => exact lv_ldc hx hb hown (hts _ h1) hd k'
    | _ => cases hok
  · split at h
    · next q hq =>
      rw [mc_go_S h] at k
      have hmem := List.mem_of_find?_eq_some hq
      have hp := List.find?_some hq
      simp only [Bool.and_eq_true, beq_iff_eq] at hp
      have hR := hB.2.2.2.1.2.2.2.1 q hmem
      rw [hp.1, hp.2] at hR
      intro H locs ls cells slots hH hS hl hc hz
      exact va_ldcS hx hb hown hR hd (k H locs ls cells slots hH hS hl hc hz)
    · cases h
theorem mc_ldcSW (hexec : p.tables.exec = Jvm.exec) (hb : c.code = cc) {own tx : String} {index q : Nat} {H : Heap} {locs : List Loc} {cells slots : Nat} {ls : Array Slot} {rest : List Value} (hown : s.vm.findClass own = some m.cls) (hZ : vk_R own index tx q s) (hdg : decode cc pc = .ok (.ldc_w index, 3))
    (k : W p l e R s m args below meth c H locs cells slots Q (F0 m (pc + 3) ls (.ref q :: rest))) : W p l e R s m args below meth c H locs cells slots Q (F0 m pc ls rest) := by
  intro T hT X
  obtain ⟨t, a1, b1⟩ := k T hT X
  exact ⟨t, X.ldcStringW hexec hown (text := tx) (a := q) hZ.1 hZ.2 (g := F0 m pc ls rest) rfl (by rw [hb]; exact hdg) t a1, b1⟩
theorem mc_r_ldcw (C : mc_X kt G own nL ini ret cc p s m args meth c) {idx : Nat} (hd : decode cc pc = .ok (.ldc_w idx, 3)) (h : mc_ldc own idx 3 pc L st M = some (.inl S)) (k : mc_W G p l e R s m args below meth c Q nL l0 z0 S) : mc_W G p l e R s m args below meth c Q nL l0 z0 (pc, L, st, M) := by
  obtain ⟨hx, hb, hown, hts, hml, hB, hba, hini, hlk, hret⟩ := C
  unfold mc_ldc at h
  split at h
  · next en he =>
    obtain ⟨hok, h⟩ := mc_n_t h
    rw [mc_go_S h] at k
    obtain ⟨r9, hr9, hm⟩ := mc_getD_mem (mc_find_mem he)
    have h1 := mc_at_mem (mc_each_at mc_cs_ok hr9 hm)
    obtain ⟨v, pl⟩ := en
    intro H locs ls cells slots hH hS hl hc hz
    have k' := k H locs ls cells slots hH hS hl hc hz
    cases v with
    | int x => exact lv_ldcw hx hb hown (hts _ h1) hd k'
    | _ => cases hok
  · split at h
    · next q hq =>
      rw [mc_go_S h] at k
      have hmem := List.mem_of_find?_eq_some hq
      have hp := List.find?_some hq
      simp only [Bool.and_eq_true, beq_iff_eq] at hp
      have hR := hB.2.2.2.1.2.2.2.1 q hmem
      rw [hp.1, hp.2] at hR
      intro H locs ls cells slots hH hS hl hc hz
      exact mc_ldcSW hx hb hown hR hd (k H locs ls cells slots hH hS hl hc hz)
    · cases h
theorem mc_r_ldc2 (C : mc_X kt G own nL ini ret cc p s m args meth c) {idx : Nat} (hd : decode cc pc = .ok (.ldc2_w idx, 3)) (h : mc_ldc2 own idx pc L st M = some (.inl S)) (k : mc_W G p l e R s m args below meth c Q nL l0 z0 S) : mc_W G p l e R s m args below meth c Q nL l0 z0 (pc, L, st, M) := by
  obtain ⟨hx, hb, hown, hts, hml, hB, hba, hini, hlk, hret⟩ := C
  unfold mc_ldc2 at h
  split at h
  · next en he =>
    obtain ⟨hok, h⟩ := mc_n_t h
    rw [mc_go_S h] at k
    obtain ⟨r9, hr9, hm⟩ := mc_getD_mem (mc_find_mem he)
    have h1 := mc_at_mem (mc_each_at mc_cs_ok hr9 hm)
    obtain ⟨v, pl⟩ := en
    intro H locs ls cells slots hH hS hl hc hz
    have k' := k H locs ls cells slots hH hS hl hc hz
    cases v with
    | long x => exact lv_ldc2 hx hb hown (hts _ h1) hd k'
    | _ => cases hok
  · cases h
theorem mc_r_tsw (C : mc_X kt G own nL ini ret cc p s m args meth c) {dflt lo hi : Int} {offs : Array Int} {len : Nat} (hd : decode cc pc = .ok (.tableswitch dflt lo hi offs, len)) (h : mc_tsw dflt lo hi offs pc L st M = some (.inl S)) (k : mc_W G p l e R s m args below meth c Q nL l0 z0 S) : mc_W G p l e R s m args below meth c Q nL l0 z0 (pc, L, st, M) := by
  obtain ⟨hx, hb, hown, hts, hml, hB, hba, hini, hlk, hret⟩ := C
  unfold mc_tsw at h
  split at h
  · next x r =>
    split at h
    · next ho =>
      unfold mc_jp at h
      split at h
      · next h0 =>
        rw [mc_go_S h] at k
        exact fun H locs ls cells slots hH hS hl hc hz => lv_tableOut hx hb hd ho (Int.toNat_of_nonneg h0).symm (k H locs ls cells slots hH hS hl hc hz)
      · cases h
    · next ho =>
      split at h
      · next off hoff =>
        unfold mc_jp at h
        split at h
        · next h0 =>
          rw [mc_go_S h] at k
          exact fun H locs ls cells slots hH hS hl hc hz => lv_tableIn hx hb hd (fun z => ho (Or.inl z)) (fun z => ho (Or.inr z)) hoff (Int.toNat_of_nonneg h0).symm (k H locs ls cells slots hH hS hl hc hz)
        · cases h
      · cases h
  · cases h
end MC3
end
section
/-! THE MINI MACHINE'S CALLS ARE THE MACHINE'S (own work, over the kit's rows) -/
theorem mc_mk_all {k : Nat} {q : Nat × MethodName × ByteArray × Nat × Option FieldType × Nat × Nat} (h : mc_mt k = some q) : mc_mk k = true := by
  have h0 := h
  unfold mc_mt at h
  split at h
  · next hb =>
    have hlt : k % 32 < 32 := (List.getElem?_eq_some_iff.mp h).1
    have h1 := List.all_eq_true.mp mc_mk_0 (k % 32) (List.mem_range.mpr hlt)
    have e1 : 0 + k % 32 = k := by omega
    rw [e1] at h1
    exact h1
  · next hb =>
    have hlt : k % 32 < 32 := (List.getElem?_eq_some_iff.mp h).1
    have h1 := List.all_eq_true.mp mc_mk_1 (k % 32) (List.mem_range.mpr hlt)
    have e1 : 32 + k % 32 = k := by omega
    rw [e1] at h1
    exact h1
  · next hb =>
    have hlt : k % 32 < 32 := (List.getElem?_eq_some_iff.mp h).1
    have h1 := List.all_eq_true.mp mc_mk_2 (k % 32) (List.mem_range.mpr hlt)
    have e1 : 64 + k % 32 = k := by omega
    rw [e1] at h1
    exact h1
  · next hb =>
    have hlt : k % 32 < 32 := (List.getElem?_eq_some_iff.mp h).1
    have h1 := List.all_eq_true.mp mc_mk_3 (k % 32) (List.mem_range.mpr hlt)
    have e1 : 96 + k % 32 = k := by omega
    rw [e1] at h1
    exact h1
  · next hb =>
    have hlt : k % 32 < 32 := (List.getElem?_eq_some_iff.mp h).1
    have h1 := List.all_eq_true.mp mc_mk_4 (k % 32) (List.mem_range.mpr hlt)
    have e1 : 128 + k % 32 = k := by omega
    rw [e1] at h1
    exact h1
  · next hb =>
    have hlt : k % 32 < 32 := (List.getElem?_eq_some_iff.mp h).1
    have h1 := List.all_eq_true.mp mc_mk_5 (k % 32) (List.mem_range.mpr hlt)
    have e1 : 160 + k % 32 = k := by omega
    rw [e1] at h1
    exact h1
  · next hb =>
    have hlt : k % 32 < 32 := (List.getElem?_eq_some_iff.mp h).1
    have h1 := List.all_eq_true.mp mc_mk_6 (k % 32) (List.mem_range.mpr hlt)
    have e1 : 192 + k % 32 = k := by omega
    rw [e1] at h1
    exact h1
  · next hb =>
    have hlt : k % 32 < 32 := (List.getElem?_eq_some_iff.mp h).1
    have h1 := List.all_eq_true.mp mc_mk_7 (k % 32) (List.mem_range.mpr hlt)
    have e1 : 224 + k % 32 = k := by omega
    rw [e1] at h1
    exact h1
  · next hb =>
    have hlt : k % 32 < 32 := (List.getElem?_eq_some_iff.mp h).1
    have h1 := List.all_eq_true.mp mc_mk_8 (k % 32) (List.mem_range.mpr hlt)
    have e1 : 256 + k % 32 = k := by omega
    rw [e1] at h1
    exact h1
  · next hb =>
    have hlt : k % 32 < 8 := (List.getElem?_eq_some_iff.mp h).1
    have h1 := List.all_eq_true.mp mc_mk_9 (k % 32) (List.mem_range.mpr hlt)
    have e1 : 288 + k % 32 = k := by omega
    rw [e1] at h1
    exact h1
  · cases h
theorem mc_code_of {mi : List ((Nat × Nat) × (Nat × Nat) × (Nat × Nat) × (Nat × Nat))} {mt : List (Nat × MethodName × ByteArray × Nat × Option FieldType × Nat × Nat)} (h : mi.map (fun i => (mc_ch i.1.1)[i.1.2]?) = mt.map (fun q => some (Cond.code q.2.1 q.2.2.1 q.2.2.2.1 q.2.2.2.2.1))) {j : Nat} {q : Nat × MethodName × ByteArray × Nat × Option FieldType × Nat × Nat} (hq : mt[j]? = some q) : Cond.code q.2.1 q.2.2.1 q.2.2.2.1 q.2.2.2.2.1 ∈ mc_ws := by
  have h1 : (mi.map (fun i => (mc_ch i.1.1)[i.1.2]?))[j]? = some (some (Cond.code q.2.1 q.2.2.1 q.2.2.2.1 q.2.2.2.2.1)) := by rw [h, List.getElem?_map, hq]; rfl
  rw [List.getElem?_map] at h1
  cases hi : mi[j]? with
  | none => rw [hi] at h1; cases h1
  | some i =>
    rw [hi] at h1
    exact List.mem_filter.mpr ⟨mc_ch_sub _ _ (List.mem_of_getElem? (Option.some.inj h1)), rfl⟩
theorem mc_code_mem {k : Nat} {q : Nat × MethodName × ByteArray × Nat × Option FieldType × Nat × Nat} (h : mc_mt k = some q) : Cond.code q.2.1 q.2.2.1 q.2.2.2.1 q.2.2.2.2.1 ∈ mc_ws := by
  unfold mc_mt at h
  split at h
  · exact mc_code_of mc_cw_0 h
  · exact mc_code_of mc_cw_1 h
  · exact mc_code_of mc_cw_2 h
  · exact mc_code_of mc_cw_3 h
  · exact mc_code_of mc_cw_4 h
  · exact mc_code_of mc_cw_5 h
  · exact mc_code_of mc_cw_6 h
  · exact mc_code_of mc_cw_7 h
  · exact mc_code_of mc_cw_8 h
  · exact mc_code_of mc_cw_9 h
  · cases h
/-- what the tables say of method k -/
theorem mc_mfacts {k : Nat} {q : Nat × MethodName × ByteArray × Nat × Option FieldType × Nat × Nat} (h : mc_mt k = some q) :
    Cond.code q.2.1 q.2.2.1 q.2.2.2.1 q.2.2.2.2.1 ∈ mc_ws ∧ (q.2.2.2.2.2.2 = 0 → Cond.static q.2.1 ∈ mc_ws) ∧ (q.2.2.2.2.2.2 ≠ 0 → Cond.instanceMethod q.2.1 ∈ mc_ws) ∧ (q.2.2.2.2.2.2 = 1 → Cond.selects (mc_cn q.1) q.2.1 q.2.1 ∈ mc_ws) ∧ Cond.initialized (mc_cn q.1) ∈ mc_ws ∧ q.2.1.cls = mc_cn q.1 ∧ (q.2.2.2.2.2.2 = 2 → q.2.1.name = "<init>") ∧ plainName q.2.1.cls = true ∧ (q.2.1.cls ≠ "java/lang/invoke/MethodHandle" ∧ q.2.1.cls ≠ "java/lang/invoke/VarHandle") ∧ (parseMethodDescriptor q.2.1.desc).map (fun d => d.parameters.length) = some q.2.2.2.2.2.1 ∧ q.2.2.2.1 ≤ 13 := by
  have h1 := mc_mk_all h
  unfold mc_mk at h1
  rw [h] at h1
  obtain ⟨own, y, b, n, r, np, sort⟩ := q
  cases hi : mc_mi k with
  | none => rw [hi] at h1; cases h1
  | some z =>
    obtain ⟨i1, i2, i3, i4⟩ := z
    rw [hi] at h1
    simp only [Bool.and_eq_true, Bool.or_eq_true, decide_eq_true_eq] at h1
    obtain ⟨⟨⟨⟨⟨⟨⟨⟨⟨a2, a3⟩, a4⟩, a5⟩, a6⟩, a7⟩, a8⟩, a9⟩, a10⟩, a11⟩ := h1
    refine ⟨mc_code_mem h, fun hs => ?_, fun hs => ?_, fun hs => mc_at_mem (a3.resolve_left (fun z => z hs)), mc_at_mem a4, a5, fun hs => a6.resolve_left (fun z => z hs), by show plainName y.cls = true; rw [a5]; exact a7, ⟨by show y.cls ≠ _; rw [a5]; exact a8, by show y.cls ≠ _; rw [a5]; exact a9⟩, a10, a11⟩
    · have hs' : sort = 0 := hs
      rw [if_pos hs'] at a2
      exact mc_at_mem a2
    · have hs' : ¬ sort = 0 := hs
      rw [if_neg hs'] at a2
      exact mc_at_mem a2
def mc_le (M N : mc_M) : Prop := M.length ≤ N.length ∧ mc_sz M ≤ mc_sz N
def mc_Pc (kt : Nat → Option mc_E) (G : mc_G) (M : mc_M) (as : List Value) : Array Value → State → Prop := va_Pc (as.map (mc_v G)) (fun U => mc_H G M U.heap ∧ mc_B kt G U U.heap)
def mc_Qc (G : mc_G) (w : mc_R) : Array Value → State → Outcome → State → Prop := fun _ st o t => o = .returned (w.1.map (mc_v G)) ∧ mc_H G w.2 t.heap ∧ va_F (mc_A G) st t
def mc_rm (d : Nat) (M N : mc_M) : Room := { frames := d + 5, cells := N.length - M.length, slots := mc_sz N - mc_sz M, locals := 36 * (d + 5) }
/-- method q's contract at one run of the mini machine -/
def mc_Met (l : Launch) (kt : Nat → Option mc_E) (G : mc_G) (d : Nat) (q : Nat × MethodName × ByteArray × Nat × Option FieldType × Nat × Nat) (as : List Value) (M : mc_M) (w : mc_R) : Prop :=
  Met l q.2.1 (Cond.code q.2.1 q.2.2.1 q.2.2.2.1 q.2.2.2.2.1 :: mc_ws) (mc_rm d M w.2) (mc_Pc kt G M as) (mc_Qc G w) (w.2.length - M.length) (mc_sz w.2 - mc_sz M) (mc_A G)
theorem mc_pay {s : State} {args : Array Value} {x : Cond} (hts : ∀ w ∈ mc_ws, w.before args s = true) (hx : x ∈ mc_ws) : ∀ w ∈ x :: mc_ws, ∀ (a' : Array Value) (U : State), s.WarmedH U.vm → w.before a' U = true := by
  refine pay_in hts fun w hw => ?_
  rcases List.mem_cons.mp hw with rfl | hw
  · exact ⟨hx, good_of_word (mc_ws_good _ hx)⟩
  · exact ⟨hw, good_of_word (mc_ws_good _ hw)⟩
theorem mc_blind {kt : Nat → Option mc_E} {G : mc_G} {M : mc_M} {as : List Value} : FrameBlind (mc_Pc kt G M as) := by
  intro a U g mk ⟨h1, h2, h3⟩
  exact ⟨h1, h2, mc_B.same (s := U) (U := U.calling g mk a) rfl h3⟩
theorem mc_npar {y : MethodName} {n : Nat} (h : (parseMethodDescriptor y.desc).map (fun d => d.parameters.length) = some n) : ∀ sig, parseMethodDescriptor y.desc = some sig → n = sig.parameters.length := fun sig hs => by
  rw [hs] at h
  exact (Option.some.inj h).symm
section MC4

variable {kt : Nat → Option mc_E} {own : Nat} {ini : Bool} {ret : Option FieldType} {cc : ByteArray}

variable {G : mc_G} {p : Program} {l : Launch} {e : Env} {R : Room} {s : State} {m : MethodId} {args : Array Value} {below : List Frame} {meth : Method} {c : Code} {Q : State → Prop} {nL l0 z0 : Nat}

variable {pc : Nat} {L : List (Nat × Value)} {st : List Value} {M : mc_M} {S : mc_S}
theorem mc_mword (hts : ∀ w ∈ mc_ws, w.before args s = true) (hN : mc_NW s) {idx : Nat} {en : Nat × Bool × String × Nat × Nat} {q : Nat × MethodName × ByteArray × Nat × Option FieldType × Nat × Nat} (h : mc_find (mc_ml.getD own []) idx = some en) (hq : mc_mt en.1 = some q) :
    (Cond.methodLink (mc_cn own) idx q.2.1).before args s = true ∨ ∃ host, (Cond.methodLinkNest (mc_cn own) idx q.2.1 host).before args s = true := by
  obtain ⟨r, hr, hm⟩ := mc_getD_mem (mc_find_mem h)
  have h1 := mc_each_at mc_ml_ok hr hm
  obtain ⟨k, nest, host, pl⟩ := en
  have hy : mc_yn k = q.2.1 := by
    unfold mc_yn
    rw [show mc_mt k = some q from hq]
  cases nest with
  | false =>
    have h2 := hts _ (mc_tb_ws (w := mc_mw own (idx, k, false, host, pl)) h1)
    have h3 : (Cond.methodLink (mc_cn own) idx (mc_yn k)).before args s = true := h2
    rw [hy] at h3
    exact Or.inl h3
  | true =>
    have h2 := hN.2.1 own r hr _ hm rfl
    have h3 : va_Nw (Cond.methodLinkNest (mc_cn own) idx (mc_yn k) host) s := h2
    rw [hy] at h3
    exact Or.inr ⟨host, va_Nw.use rfl h3⟩
theorem mc_pre (C : mc_X kt G own nL ini ret cc p s m args meth c) {H : Heap} {locs : List Loc} (hH : mc_H G M H) (hS : va_S (mc_A G) s.heap H locs) {as : List Value} {U : State} (hU : U.heap = H) (hW : s.WarmedH U.vm) : mc_Pc kt G M as (as.map (mc_v G)).toArray U := by
  refine ⟨rfl, by rw [hU]; exact hH, ?_⟩
  refine mc_B.moved hW ?_
  rw [hU]
  exact C.2.2.2.2.2.1.kept hS.2.1
theorem mc_after {H : Heap} {locs : List Loc} {cells slots : Nat} {ls : Array Slot} {st0 rest : List Value} {a : Array Value} {w : mc_R} (hS : va_S (mc_A G) s.heap H locs)
    (hr : va_Run p l e R s m args below meth c H locs cells slots (w.2.length - M.length) (mc_sz w.2 - mc_sz M) (F0 m pc ls st0) (rest.map (mc_v G)) (mc_Qc G w a) (mc_A G)) (hle : mc_le M w.2) (hl : lv_has ls nL (mc_L G L)) (hc : cells + l0 = M.length) (hz : slots + z0 = mc_sz M)
    (k : mc_W G p l e R s m args below meth c Q nL l0 z0 (pc + 3, L, mc_rs w.1 ++ rest, w.2)) : W p l e R s m args below meth c H locs cells slots Q (F0 m pc ls st0) := by
  intro T hT X
  obtain ⟨v, st₀, t, T', Lx, h0, X', hL, e1, e2, ⟨hv, hH1, hz1, hk1⟩, stp⟩ := hr T hT X
  cases Outcome.returned.inj hv
  rw [h0] at hz1 hk1
  obtain ⟨t2, a1, b1⟩ := k T'.heap (locs ++ Lx) ls (cells + (w.2.length - M.length)) (slots + (mc_sz w.2 - mc_sz M)) (by rw [e1]; exact hH1)
    ⟨Nat.le_trans hS.1 (by rw [e1]; exact hz1), fun q h1 h2 => by rw [e1, hk1 q (Nat.lt_of_lt_of_le h1 hS.1) h2]; exact hS.2.1 q h1 h2, fun q hq => by
      rcases List.mem_append.mp hq with h | h
      · exact hS.2.2 q h
      · exact hL q h⟩ hl (by have := hle.1; show _ = w.2.length; omega) (by have := hle.2; show _ = mc_sz w.2; omega) T' rfl X'
  refine ⟨t2, stp t2 ?_, b1⟩
  have ee : (w.1.map (mc_v G)).toList ++ rest.map (mc_v G) = (mc_rs w.1 ++ rest).map (mc_v G) := by
    cases w.1 <;> simp [mc_rs]
  rw [ee]
  exact a1
end MC4
end
section

section MC5

variable {kt : Nat → Option mc_E} {own : Nat} {ini : Bool} {ret : Option FieldType} {cc : ByteArray}

variable {G : mc_G} {p : Program} {l : Launch} {e : Env} {R : Room} {s : State} {m : MethodId} {args : Array Value} {below : List Frame} {meth : Method} {c : Code} {Q : State → Prop} {nL l0 z0 : Nat}

variable {pc : Nat} {L : List (Nat × Value)} {st : List Value} {M : mc_M} {S : mc_S}
theorem mc_sumcat (G : mc_G) (st : List Value) : ((st.map (mc_v G)).map fun v => v.category).sum = (st.map Value.category).sum := by
  rw [List.map_map]
  congr 1
  apply List.map_congr_left
  intro v _
  exact mc_v_cat G v
/-- what a call's own test says -/
theorem mc_cal_inv {call : Nat → List Value → mc_M → Option mc_R} {sort idx : Nat} (h : mc_cal call own sort idx pc L st M = some (.inl S)) :
    ∃ (en : Nat × Bool × String × Nat × Nat) (q : Nat × MethodName × ByteArray × Nat × Option FieldType × Nat × Nat) (w : mc_R) (n : Nat), mc_find (mc_ml.getD own []) idx = some en ∧ mc_mt en.1 = some q ∧ n = (if sort = 0 then q.2.2.2.2.2.1 else q.2.2.2.2.2.1 + 1) ∧ call en.1 ((st.take n).reverse) M = some w ∧ q.2.2.2.2.2.2 = sort ∧ ((st.drop n).map Value.category).sum ≤ 8 ∧ n ≤ st.length ∧
      (sort ≠ 0 → ∃ (b : Nat) (z : Nat × List Value), st[q.2.2.2.2.2.1]? = some (.ref b) ∧ 256 ≤ b ∧ M[b - 256]? = some (.inr z) ∧ z.1 = q.1) ∧ S = (pc + 3, L, mc_rs w.1 ++ st.drop n, w.2) := by
  unfold mc_cal at h
  split at h
  · next en he =>
    split at h
    · next q hq =>
      split at h
      · next w hw =>
        obtain ⟨hok, h⟩ := mc_n_t h
        simp only [Bool.and_eq_true, beq_iff_eq, decide_eq_true_eq] at hok
        obtain ⟨⟨⟨e1, e2⟩, e3⟩, e4⟩ := hok
        refine ⟨en, q, w, _, he, hq, rfl, hw, e1, e2, e3, fun hs => ?_, mc_go_S h⟩
        have hs' : (sort == 0) = false := by simpa using hs
        rw [hs', Bool.false_or] at e4
        split at e4
        · next b hb =>
          simp only [Bool.and_eq_true, decide_eq_true_eq] at e4
          obtain ⟨e5, e6⟩ := e4
          split at e6
          · next z hz => exact ⟨b, z, hb, e5, hz, by simpa using e6⟩
          · cases e6
        · cases e4
      · cases h
    · cases h
  · cases h
theorem mc_split {n : Nat} {b : Nat} (hb : st[n]? = some (.ref b)) (hn : n + 1 ≤ st.length) : st.map (mc_v G) = ((st.take n).map (mc_v G)) ++ .ref (mc_a G b) :: (st.drop (n + 1)).map (mc_v G) ∧ ((st.take (n + 1)).reverse).map (mc_v G) = .ref (mc_a G b) :: ((st.take n).reverse).map (mc_v G) ∧ ((st.take n).reverse.map (mc_v G)).length = n := by
  have hl : n < st.length := hn
  have hg : st[n] = .ref b := Option.some.inj ((List.getElem?_eq_getElem hl).symm.trans hb)
  refine ⟨?_, ?_, ?_⟩
  · conv => lhs; rw [← List.take_append_drop n st, List.drop_eq_getElem_cons hl, hg]
    rw [List.map_append, List.map_cons]
    rfl
  · rw [List.take_succ_eq_append_getElem hl, hg, List.reverse_append]
    rfl
  · rw [List.length_map, List.length_reverse, List.length_take]
    omega
theorem mc_r_calV (C : mc_X kt G own nL ini ret cc p s m args meth c) {call : Nat → List Value → mc_M → Option mc_R} {d idx : Nat} (IH : ∀ (k : Nat) (q : Nat × MethodName × ByteArray × Nat × Option FieldType × Nat × Nat) (as : List Value) (M : mc_M) (w : mc_R), mc_mt k = some q → call k as M = some w → mc_Met l kt G d q as M w ∧ mc_le M w.2) (hF : d + 6 ≤ R.frames ∧ 36 * (d + 6) ≤ R.locals)
    (hd : decode cc pc = .ok (.invokevirtual idx, 3)) (h : mc_cal call own 1 idx pc L st M = some (.inl S)) (hR : S.2.2.2.length ≤ R.cells + l0 ∧ mc_sz S.2.2.2 ≤ R.slots + z0) (k : mc_W G p l e R s m args below meth c Q nL l0 z0 S) : mc_W G p l e R s m args below meth c Q nL l0 z0 (pc, L, st, M) := by
  obtain ⟨en, q, w, n, he, hq, hn, hw, hso, hsum, hnl, hrc, hS9⟩ := mc_cal_inv h
  rw [hS9] at k hR
  obtain ⟨b, z, hb, hb0, hz9, hzc⟩ := hrc (by decide)
  obtain ⟨hM, hle⟩ := IH en.1 q _ M w hq hw
  obtain ⟨f1, f2, f3, f4, f5, f6, f7, f8, f9, f10, f11⟩ := mc_mfacts hq
  have C0 := C
  obtain ⟨hx, hb9, hown, hts, hml, hB, hba, hini, hlk, hret⟩ := C
  have hn' : n = q.2.2.2.2.2.1 + 1 := hn
  subst hn'
  obtain ⟨g1, g2, g3⟩ := mc_split (G := G) hb hnl
  intro H locs ls cells slots hH hS hl hc hz
  have hc : cells + l0 = M.length := hc
  have hz : slots + z0 = mc_sz M := hz
  have hf : cells + (w.2.length - M.length) ≤ R.cells ∧ slots + (mc_sz w.2 - mc_sz M) ≤ R.slots := by
    have h1 : w.2.length ≤ R.cells + l0 := hR.1
    have h2 : mc_sz w.2 ≤ R.slots + z0 := hR.2
    have := hle.1
    have := hle.2
    exact ⟨by omega, by omega⟩
  have hsz := hl.1
  have hW : 2 * (F0 m pc ls (st.map (mc_v G))).monitorRoom + (((st.drop (q.2.2.2.2.2.1 + 1)).map (mc_v G)).map fun v => v.category).sum ≤ 8 := lv_room (by rw [mc_sumcat]; exact hsum)
  have hrcv : ∃ cellB : Cell, H[mc_a G b]? = some cellB ∧ cellB.vm.isStatics = false ∧ s.vm.findClass (mc_cn q.1) = some cellB.cls := by
    obtain ⟨r9, y1, cell, y2, y3, y4, -⟩ := hH.at hb0 hz9
    have hr9 := mc_cl_eq y1
    subst hr9
    refine ⟨cell, y2, by rw [y4]; rfl, ?_⟩
    rw [y3, ← hzc]
    exact (hB.1.1 z.1 _ y1).2.1
  refine mc_after (w := w) (M := M) (L := L) (nL := nL) (l0 := l0) (z0 := z0) (rest := st.drop (q.2.2.2.2.2.1 + 1)) (a := (Value.ref (mc_a G b) :: ((st.take q.2.2.2.2.2.1).reverse).map (mc_v G)).toArray) hS ?_ hle hl hc hz k
  have hPV : PreV s H (mc_cn q.1) (mc_a G b) (mc_Pc kt G M ((st.take (q.2.2.2.2.2.1 + 1)).reverse)) (((st.take q.2.2.2.2.2.1).reverse).map (mc_v G)) := ⟨mc_blind, hrcv, fun U hU hW => by rw [← g2]; exact mc_pre C0 hH hS hU hW⟩
  have hstk : (F0 m pc ls (st.map (mc_v G))).stack = (((st.take q.2.2.2.2.2.1).reverse).map (mc_v G)).reverse ++ .ref (mc_a G b) :: (st.drop (q.2.2.2.2.2.1 + 1)).map (mc_v G) := by
    show st.map (mc_v G) = _
    rw [g1, ← List.map_reverse, List.reverse_reverse]
  rcases mc_mword hts hB.2.2.1 he hq with hlk9 | ⟨host, hlk9⟩
  · exact va_runV (Ts := mc_ws) ⟨hx, hb9, hml, hown, hts⟩ hM ⟨⟨rfl, rfl, hF.1, by show 8 + (q.2.2.2.1 + 11) + 36 * (d + 5) ≤ R.locals; have := hF.2; omega, mc_pay hts f1, List.mem_cons_self, hts _ f1, by rw [f6]; exact hts _ f5, f9, mc_npar f10, hlk9⟩, hts _ (f3 (by rw [hso]; decide)), hts _ (f4 hso)⟩ hPV rfl g3 hsz hstk hW hd hf
  · exact va_runVN (Ts := mc_ws) ⟨hx, hb9, hml, hown, hts⟩ hM ⟨⟨⟨rfl, rfl, hF.1, by show 8 + (q.2.2.2.1 + 11) + 36 * (d + 5) ≤ R.locals; have := hF.2; omega, mc_pay hts f1, List.mem_cons_self⟩, hts _ f1, by rw [f6]; exact hts _ f5, f9, mc_npar f10, hlk9⟩, hts _ (f3 (by rw [hso]; decide)), hts _ (f4 hso)⟩ hPV rfl g3 hsz hstk hW hd hf
theorem mc_r_calI (C : mc_X kt G own nL ini ret cc p s m args meth c) {call : Nat → List Value → mc_M → Option mc_R} {d idx : Nat} (IH : ∀ (k : Nat) (q : Nat × MethodName × ByteArray × Nat × Option FieldType × Nat × Nat) (as : List Value) (M : mc_M) (w : mc_R), mc_mt k = some q → call k as M = some w → mc_Met l kt G d q as M w ∧ mc_le M w.2) (hvoid : ∀ (k : Nat) (q : Nat × MethodName × ByteArray × Nat × Option FieldType × Nat × Nat), mc_mt k = some q → q.2.2.2.2.2.2 = 2 → q.2.2.2.2.1 = none) (hF : d + 6 ≤ R.frames ∧ 36 * (d + 6) ≤ R.locals)
    (hd : decode cc pc = .ok (.invokespecial idx, 3)) (h : mc_cal call own 2 idx pc L st M = some (.inl S)) (hR : S.2.2.2.length ≤ R.cells + l0 ∧ mc_sz S.2.2.2 ≤ R.slots + z0) (k : mc_W G p l e R s m args below meth c Q nL l0 z0 S) : mc_W G p l e R s m args below meth c Q nL l0 z0 (pc, L, st, M) := by
  obtain ⟨en, q, w, n, he, hq, hn, hw, hso, hsum, hnl, hrc, hS9⟩ := mc_cal_inv h
  rw [hS9] at k hR
  obtain ⟨b, z, hb, hb0, hz9, hzc⟩ := hrc (by decide)
  obtain ⟨hM, hle⟩ := IH en.1 q _ M w hq hw
  obtain ⟨f1, f2, f3, f4, f5, f6, f7, f8, f9, f10, f11⟩ := mc_mfacts hq
  have hno := hvoid en.1 q hq hso
  have C0 := C
  obtain ⟨hx, hb9, hown, hts, hml, hB, hba, hini, hlk, hret⟩ := C
  have hn' : n = q.2.2.2.2.2.1 + 1 := hn
  subst hn'
  obtain ⟨g1, g2, g3⟩ := mc_split (G := G) hb hnl
  intro H locs ls cells slots hH hS hl hc hz
  have hc : cells + l0 = M.length := hc
  have hz : slots + z0 = mc_sz M := hz
  have hf : cells + (w.2.length - M.length) ≤ R.cells ∧ slots + (mc_sz w.2 - mc_sz M) ≤ R.slots := by
    have h1 : w.2.length ≤ R.cells + l0 := hR.1
    have h2 : mc_sz w.2 ≤ R.slots + z0 := hR.2
    have := hle.1
    have := hle.2
    exact ⟨by omega, by omega⟩
  have hsz := hl.1
  have hW : 2 * (F0 m pc ls (st.map (mc_v G))).monitorRoom + (((st.drop (q.2.2.2.2.2.1 + 1)).map (mc_v G)).map fun v => v.category).sum ≤ 8 := lv_room (by rw [mc_sumcat]; exact hsum)
  refine mc_after (w := w) (M := M) (L := L) (nL := nL) (l0 := l0) (z0 := z0) (rest := st.drop (q.2.2.2.2.2.1 + 1)) (a := (Value.ref (mc_a G b) :: ((st.take q.2.2.2.2.2.1).reverse).map (mc_v G)).toArray) hS ?_ hle hl hc hz k
  have hPS : PreS s H (mc_Pc kt G M ((st.take (q.2.2.2.2.2.1 + 1)).reverse)) (.ref (mc_a G b) :: ((st.take q.2.2.2.2.2.1).reverse).map (mc_v G)) := ⟨mc_blind, fun U hU hW => by rw [← g2]; exact mc_pre C0 hH hS hU hW⟩
  have hstk : (F0 m pc ls (st.map (mc_v G))).stack = (((st.take q.2.2.2.2.2.1).reverse).map (mc_v G)).reverse ++ .ref (mc_a G b) :: (st.drop (q.2.2.2.2.2.1 + 1)).map (mc_v G) := by
    show st.map (mc_v G) = _
    rw [g1, ← List.map_reverse, List.reverse_reverse]
  unfold mc_Met at hM
  rw [hno] at f1 hM
  rcases mc_mword hts hB.2.2.1 he hq with hlk9 | ⟨host, hlk9⟩
  · exact va_runI (Ts := mc_ws) ⟨hx, hb9, hml, hown, hts⟩ hM ⟨⟨rfl, rfl, hF.1, by show 8 + (q.2.2.2.1 + 11) + 36 * (d + 5) ≤ R.locals; have := hF.2; omega, mc_pay hts f1, List.mem_cons_self, hts _ f1, by rw [f6]; exact hts _ f5, f9, mc_npar f10, hlk9⟩, f7 hso, hts _ (f3 (by rw [hso]; decide))⟩ hPS rfl g3 hsz hstk hW hd hf
  · exact va_runIN (Ts := mc_ws) ⟨hx, hb9, hml, hown, hts⟩ hM ⟨⟨⟨rfl, rfl, hF.1, by show 8 + (q.2.2.2.1 + 11) + 36 * (d + 5) ≤ R.locals; have := hF.2; omega, mc_pay hts f1, List.mem_cons_self⟩, hts _ f1, by rw [f6]; exact hts _ f5, f9, mc_npar f10, hlk9⟩, f7 hso, hts _ (f3 (by rw [hso]; decide))⟩ hPS rfl g3 hsz hstk hW hd hf
theorem mc_r_calS (C : mc_X kt G own nL ini ret cc p s m args meth c) {call : Nat → List Value → mc_M → Option mc_R} {d idx : Nat} (IH : ∀ (k : Nat) (q : Nat × MethodName × ByteArray × Nat × Option FieldType × Nat × Nat) (as : List Value) (M : mc_M) (w : mc_R), mc_mt k = some q → call k as M = some w → mc_Met l kt G d q as M w ∧ mc_le M w.2) (hF : d + 6 ≤ R.frames ∧ 36 * (d + 6) ≤ R.locals)
    (hd : decode cc pc = .ok (.invokestatic idx, 3)) (h : mc_cal call own 0 idx pc L st M = some (.inl S)) (hR : S.2.2.2.length ≤ R.cells + l0 ∧ mc_sz S.2.2.2 ≤ R.slots + z0) (k : mc_W G p l e R s m args below meth c Q nL l0 z0 S) : mc_W G p l e R s m args below meth c Q nL l0 z0 (pc, L, st, M) := by
  obtain ⟨en, q, w, n, he, hq, hn, hw, hso, hsum, hnl, hrc, hS9⟩ := mc_cal_inv h
  rw [hS9] at k hR
  obtain ⟨hM, hle⟩ := IH en.1 q _ M w hq hw
  obtain ⟨f1, f2, f3, f4, f5, f6, f7, f8, f9, f10, f11⟩ := mc_mfacts hq
  have C0 := C
  obtain ⟨hx, hb9, hown, hts, hml, hB, hba, hini, hlk, hret⟩ := C
  have hn' : n = q.2.2.2.2.2.1 := hn
  subst hn'
  intro H locs ls cells slots hH hS hl hc hz
  have hc : cells + l0 = M.length := hc
  have hz : slots + z0 = mc_sz M := hz
  have hf : cells + (w.2.length - M.length) ≤ R.cells ∧ slots + (mc_sz w.2 - mc_sz M) ≤ R.slots := by
    have h1 : w.2.length ≤ R.cells + l0 := hR.1
    have h2 : mc_sz w.2 ≤ R.slots + z0 := hR.2
    have := hle.1
    have := hle.2
    exact ⟨by omega, by omega⟩
  have hsz := hl.1
  have hW : 2 * (F0 m pc ls (st.map (mc_v G))).monitorRoom + (((st.drop q.2.2.2.2.2.1).map (mc_v G)).map fun v => v.category).sum ≤ 8 := lv_room (by rw [mc_sumcat]; exact hsum)
  refine mc_after (w := w) (M := M) (L := L) (nL := nL) (l0 := l0) (z0 := z0) (rest := st.drop q.2.2.2.2.2.1) (a := (((st.take q.2.2.2.2.2.1).reverse).map (mc_v G)).toArray) hS ?_ hle hl hc hz k
  have hPS : PreS s H (mc_Pc kt G M ((st.take q.2.2.2.2.2.1).reverse)) (((st.take q.2.2.2.2.2.1).reverse).map (mc_v G)) := ⟨mc_blind, fun U hU hW => mc_pre C0 hH hS hU hW⟩
  have hstk : (F0 m pc ls (st.map (mc_v G))).stack = (((st.take q.2.2.2.2.2.1).reverse).map (mc_v G)).reverse ++ (st.drop q.2.2.2.2.2.1).map (mc_v G) := by
    show st.map (mc_v G) = _
    rw [← List.map_reverse, List.reverse_reverse, ← List.map_append, List.take_append_drop]
  have g3 : ((st.take q.2.2.2.2.2.1).reverse.map (mc_v G)).length = q.2.2.2.2.2.1 := by
    rw [List.length_map, List.length_reverse, List.length_take]
    omega
  rcases mc_mword hts hB.2.2.1 he hq with hlk9 | ⟨host, hlk9⟩
  · exact va_runS (Ts := mc_ws) ⟨hx, hb9, hml, hown, hts⟩ hM ⟨⟨rfl, rfl, hF.1, by show 8 + (q.2.2.2.1 + 11) + 36 * (d + 5) ≤ R.locals; have := hF.2; omega, mc_pay hts f1, List.mem_cons_self, hts _ f1, by rw [f6]; exact hts _ f5, f9, mc_npar f10, hlk9⟩, hts _ (f2 hso)⟩ hPS rfl g3 hsz hstk hW hd hf
  · exact va_runSN (Ts := mc_ws) ⟨hx, hb9, hml, hown, hts⟩ hM ⟨⟨⟨rfl, rfl, hF.1, by show 8 + (q.2.2.2.1 + 11) + 36 * (d + 5) ≤ R.locals; have := hF.2; omega, mc_pay hts f1, List.mem_cons_self⟩, hts _ f1, by rw [f6]; exact hts _ f5, f9, mc_npar f10, hlk9⟩, hts _ (f2 hso), trivial⟩ hPS rfl g3 hsz hstk hW hd hf
theorem mc_r_obj (C : mc_X kt G own nL ini ret cc p s m args meth c) {idx d : Nat} (hF : d + 6 ≤ R.frames ∧ 36 * (d + 6) ≤ R.locals) (hd : decode cc pc = .ok (.invokespecial idx, 3)) (h : mc_obj own idx pc L st M = some (.inl S)) (k : mc_W G p l e R s m args below meth c Q nL l0 z0 S) : mc_W G p l e R s m args below meth c Q nL l0 z0 (pc, L, st, M) := by
  obtain ⟨hx, hb, hown, hts, hml, hB, hba, hini, hlk, hret⟩ := C
  unfold mc_obj at h
  split at h
  · next a r =>
    split at h
    · next en he =>
      obtain ⟨hok, h⟩ := mc_n_t h
      simp only [decide_eq_true_eq] at hok
      rw [mc_go_S h] at k
      obtain ⟨r9, hr9, hm⟩ := mc_getD_mem (mc_find_mem he)
      have h1 := mc_at_mem (mc_each_at mc_ol_ok hr9 hm)
      intro H locs ls cells slots hH hS hl hc hz
      refine W.objInit hx hb hown (hts _ h1) (hts _ (mc_at_mem mc_oi)) (hts _ (mc_at_mem mc_oc)) rfl (by rw [hml]; exact hl.1) rfl hd (by have := hF.1; omega) ?_ (k H locs ls cells slots hH hS hl hc hz)
      have h2 := lv_room (m := m) (pc := pc) (ls := ls) (rest := ((Value.ref a :: r).map (mc_v G))) (st := r.map (mc_v G)) (by rw [mc_sumcat]; exact hok)
      have h3 := hF.2
      exact Nat.le_trans (Nat.add_le_add_right h2 12) (by omega)
    · cases h
  · cases h
theorem mc_r_math (C : mc_X kt G own nL ini ret cc p s m args meth c) {idx d : Nat} (hF : d + 6 ≤ R.frames ∧ 36 * (d + 6) ≤ R.locals) (hd : decode cc pc = .ok (.invokestatic idx, 3)) (h : mc_math own idx pc L st M = some (.inl S)) (hR : S.2.2.2.length ≤ R.cells + l0 ∧ mc_sz S.2.2.2 ≤ R.slots + z0) (k : mc_W G p l e R s m args below meth c Q nL l0 z0 S) : mc_W G p l e R s m args below meth c Q nL l0 z0 (pc, L, st, M) := by
  obtain ⟨hx, hb, hown, hts, hml, hB, hba, hini, hlk, hret⟩ := C
  unfold mc_math at h
  split at h
  · next en he =>
    obtain ⟨r9, hr9, hm⟩ := mc_getD_mem (mc_find_mem he)
    have h1 := mc_at_mem (mc_each_at mc_jl_ok hr9 hm)
    obtain ⟨j, pl⟩ := en
    dsimp only at h
    split at h
    · obtain ⟨hok, h⟩ := mc_n_t h
      simp only [decide_eq_true_eq] at hok
      rw [mc_go_S h] at k hR
      intro H locs ls cells slots hH hS hl hc hz
      have hc' : cells + l0 = M.length := hc
      have hz' : slots + z0 = mc_sz M := hz
      have hR1 : M.length ≤ R.cells + l0 := hR.1
      have hR2 : mc_sz M ≤ R.slots + z0 := hR.2
      have h1' : Cond.methodLink (mc_cn own) idx Lib.Math.min.name ∈ mc_ws := h1
      refine va_mmin hx hb (by rw [hml]; exact hl.1.symm) hown (hts _ h1') (hts _ (mc_at_mem mc_j_min.1)) (hts _ (mc_at_mem mc_j_min.2.2)) (hts _ (mc_at_mem mc_j_min.2.1)) (by have := hF.1; omega) ?_ (by omega) (by omega) hd (k H locs ls cells slots hH hS hl hc hz)
      rw [mc_sumcat]
      have := hF.2
      omega
    · obtain ⟨hok, h⟩ := mc_n_t h
      simp only [decide_eq_true_eq] at hok
      rw [mc_go_S h] at k hR
      intro H locs ls cells slots hH hS hl hc hz
      have hc' : cells + l0 = M.length := hc
      have hz' : slots + z0 = mc_sz M := hz
      have hR1 : M.length ≤ R.cells + l0 := hR.1
      have hR2 : mc_sz M ≤ R.slots + z0 := hR.2
      have h1' : Cond.methodLink (mc_cn own) idx Lib.Math.max.name ∈ mc_ws := h1
      refine va_mmax hx hb (by rw [hml]; exact hl.1.symm) hown (hts _ h1') (hts _ (mc_at_mem mc_j_max.1)) (hts _ (mc_at_mem mc_j_max.2.2)) (hts _ (mc_at_mem mc_j_max.2.1)) (by have := hF.1; omega) ?_ (by omega) (by omega) hd (k H locs ls cells slots hH hS hl hc hz)
      rw [mc_sumcat]
      have := hF.2
      omega
    · obtain ⟨hok, h⟩ := mc_n_t h
      simp only [decide_eq_true_eq] at hok
      rw [mc_go_S h] at k hR
      intro H locs ls cells slots hH hS hl hc hz
      have hc' : cells + l0 = M.length := hc
      have hz' : slots + z0 = mc_sz M := hz
      have hR1 : M.length ≤ R.cells + l0 := hR.1
      have hR2 : mc_sz M ≤ R.slots + z0 := hR.2
      have h1' : Cond.methodLink (mc_cn own) idx Lib.Math.abs.name ∈ mc_ws := h1
      refine va_mabs hx hb (by rw [hml]; exact hl.1.symm) hown (hts _ h1') (hts _ (mc_at_mem mc_j_abs.1)) (hts _ (mc_at_mem mc_j_abs.2.2)) (hts _ (mc_at_mem mc_j_abs.2.1)) (by have := hF.1; omega) ?_ (by omega) (by omega) hd (k H locs ls cells slots hH hS hl hc hz)
      rw [mc_sumcat]
      have := hF.2
      omega
    · cases h
  · cases h
end MC5
end
