/-! ROWS: an instruction over pure memory (own work, wip/gen2/rows.py) -/
theorem lg_cmp_of {x y : Int} (hx : wL x) (hy : wL y) : lg_cmp (Int64.ofInt x) (Int64.ofInt y) = Int32.ofInt (if x < y then -1 else if x = y then 0 else 1) := by
  have e1 : (Int64.ofInt x < Int64.ofInt y) ↔ x < y := by rw [Int64.lt_iff_toInt_lt, wL_t hx, wL_t hy]
  have e2 : (Int64.ofInt x = Int64.ofInt y) ↔ x = y := by rw [← Int64.toInt_inj, wL_t hx, wL_t hy]
  have e3 : (Int64.ofInt y < Int64.ofInt x) ↔ y < x := by rw [Int64.lt_iff_toInt_lt, wL_t hx, wL_t hy]
  unfold lg_cmp
  simp only [e1, e2, e3]
  by_cases h1 : x < y
  · have h2 : x ≠ y := by omega
    have h3 : ¬ y < x := by omega
    simp [h1, h2, h3]
  · by_cases h2 : x = y
    · subst h2
      simp
    · have h3 : y < x := by omega
      simp [h1, h2, h3]
theorem wq_lt {x y : Int} (hx : wI x) (hy : wI y) : (Int32.ofInt x < Int32.ofInt y) ↔ x < y := by rw [Int32.lt_iff_toInt_lt, wI_t hx, wI_t hy]
theorem wq_le {x y : Int} (hx : wI x) (hy : wI y) : (Int32.ofInt x ≤ Int32.ofInt y) ↔ x ≤ y := by rw [Int32.le_iff_toInt_le, wI_t hx, wI_t hy]
theorem wq_eq {x y : Int} (hx : wI x) (hy : wI y) : (Int32.ofInt x = Int32.ofInt y) ↔ x = y := by rw [← Int32.toInt_inj, wI_t hx, wI_t hy]
theorem wq_ix {z : Int} {n : Nat} (h0 : 0 ≤ z) (h1 : z < n) (hn : n ≤ 2147483648) : mc_in (Int32.ofInt z) n = true ∧ (Int32.ofInt z).toNatClampNeg = z.toNat := by
  have hw : wI z := ⟨by omega, by omega⟩
  have e : (Int32.ofInt z).toNatClampNeg = z.toNat := by
    show (Int32.ofInt z).toInt.toNat = z.toNat
    rw [wI_t hw]
  refine ⟨?_, e⟩
  unfold mc_in
  rw [decide_eq_true_eq, e]
  intro h
  rcases h with h | h
  · have := (wq_lt hw (y := 0) ⟨by omega, by omega⟩).mp h
    omega
  · omega
/-- ints that aren't computed as whole numbers -/
def wq_w (x : Int) : Int := (Int32.ofInt x).toInt
def wq_and (x y : Int) : Int := (Int32.ofInt x &&& Int32.ofInt y).toInt
def wq_or (x y : Int) : Int := (Int32.ofInt x ||| Int32.ofInt y).toInt
def wq_xor (x y : Int) : Int := (Int32.ofInt x ^^^ Int32.ofInt y).toInt
def wq_shl (x y : Int) : Int := (Int32.ofInt x <<< (Int32.ofInt y &&& 31)).toInt
def wq_shr (x y : Int) : Int := (Int32.ofInt x >>> (Int32.ofInt y &&& 31)).toInt
def wq_ushr (x y : Int) : Int := ((Int32.ofInt x).toUInt32 >>> ((Int32.ofInt y).toUInt32 &&& Int32.toUInt32 31)).toInt32.toInt
def wq_div (x y : Int) : Int := (Int32.ofInt x / Int32.ofInt y).toInt
def wq_rem (x y : Int) : Int := (Int32.ofInt x - Int32.ofInt x / Int32.ofInt y * Int32.ofInt y).toInt
def wl_w (x : Int) : Int := (Int64.ofInt x).toInt
def wl_and (x y : Int) : Int := (Int64.ofInt x &&& Int64.ofInt y).toInt
def wl_or (x y : Int) : Int := (Int64.ofInt x ||| Int64.ofInt y).toInt
def wl_shl (x y : Int) : Int := (Int64.ofInt x <<< ((Int32.ofInt y).toInt64 &&& 63)).toInt
def wl_shr (x y : Int) : Int := (Int64.ofInt x >>> ((Int32.ofInt y).toInt64 &&& 63)).toInt
def wl_div (x y : Int) : Int := (Int64.ofInt x / Int64.ofInt y).toInt
def wl_rem (x y : Int) : Int := (Int64.ofInt x - Int64.ofInt x / Int64.ofInt y * Int64.ofInt y).toInt
def wq_i2b (x : Int) : Int := (Int32.ofInt x).toInt8.toInt32.toInt
def wq_cmp (x y : Int) : Int := if x < y then -1 else if x = y then 0 else 1
section WQR

variable {kt : Nat → Option mc_E} {d : Nat} {E : wq_E} {pc pc' : Nat} {L L' : List (Nat × Value)} {st : List Value} {T : wq_T} {H : wq_H} {K : Nat → List (Nat × Value) → List Value → wq_T → wq_H → Prop}
theorem wq_go {x : Instr} {n : Nat} {st' : List Value} (hs : ∀ M : mc_M, mc_step kt (mc_call kt 0 d) E.1 E.2.1 E.2.2.1 E.2.2.2 x n (pc, L, st, M) = some (.inl (pc', L', st', M))) (h : K pc' L' st' T H) : wq_s kt d E x n pc L st T H K := fun M hM => ⟨0, pc', L', st', M, T, H, hs M, hM, h⟩
theorem rw_iconst {i : Int} (hp : pc + 1 = pc') (h : K pc' L (vI i :: st) T H) : wq_s kt d E (.iconst i) 1 pc L (st) T H K := by
  subst hp
  refine wq_go (fun M => ?_) h
  rfl
theorem rw_bipush {i z : Int} (hp : pc + 2 = pc') (hz : (Int8.ofInt i).toInt32 = Int32.ofInt z) (h : K pc' L (vI z :: st) T H) : wq_s kt d E (.bipush i) 2 pc L (st) T H K := by
  subst hp
  refine wq_go (fun M => ?_) h
  show (some (Sum.inl (pc + 2, L, .int (Int8.ofInt i).toInt32 :: st, M)) : mc_O) = _
  rw [hz]
  rfl
theorem rw_sipush {i z : Int} (hp : pc + 3 = pc') (hz : (Int16.ofInt i).toInt32 = Int32.ofInt z) (h : K pc' L (vI z :: st) T H) : wq_s kt d E (.sipush i) 3 pc L (st) T H K := by
  subst hp
  refine wq_go (fun M => ?_) h
  show (some (Sum.inl (pc + 3, L, .int (Int16.ofInt i).toInt32 :: st, M)) : mc_O) = _
  rw [hz]
  rfl
theorem rw_lconst {i : Fin 2} {z : Int} (hp : pc + 1 = pc') (hz : Int64.ofNat (i : Nat) = Int64.ofInt z) (h : K pc' L (vL z :: st) T H) : wq_s kt d E (.lconst i) 1 pc L (st) T H K := by
  subst hp
  refine wq_go (fun M => ?_) h
  show (some (Sum.inl (pc + 1, L, .long (Int64.ofNat (i : Nat)) :: st, M)) : mc_O) = _
  rw [hz]
  rfl
theorem rw_null (hp : pc + 1 = pc') (h : K pc' L (.null :: st) T H) : wq_s kt d E (.aconst_null) 1 pc L (st) T H K := by
  subst hp
  refine wq_go (fun M => ?_) h
  rfl
theorem rw_iload_n {i : Fin 4} {z : Int} (hp : pc + 1 = pc') (hv : mc_find L (i : Nat) = some (vI z)) (h : K pc' L (vI z :: st) T H) : wq_s kt d E (.iload_n i) 1 pc L (st) T H K := by
  subst hp
  refine wq_go (fun M => ?_) h
  show mc_n (1 == 1) (mc_ld mc_isI (i : Nat) 1 pc L st M) = _
  unfold mc_ld
  rw [hv]
  rfl
theorem rw_iload {i : Nat} {z : Int} (hp : pc + 2 = pc') (hv : mc_find L i = some (vI z)) (h : K pc' L (vI z :: st) T H) : wq_s kt d E (.iload i) 2 pc L (st) T H K := by
  subst hp
  refine wq_go (fun M => ?_) h
  show mc_n (2 == 2) (mc_ld mc_isI i 2 pc L st M) = _
  unfold mc_ld
  rw [hv]
  rfl
theorem rw_lload_n {i : Fin 4} {z : Int} (hp : pc + 1 = pc') (hv : mc_find L (i : Nat) = some (vL z)) (h : K pc' L (vL z :: st) T H) : wq_s kt d E (.lload_n i) 1 pc L (st) T H K := by
  subst hp
  refine wq_go (fun M => ?_) h
  show mc_n (1 == 1) (mc_ld mc_isL (i : Nat) 1 pc L st M) = _
  unfold mc_ld
  rw [hv]
  rfl
theorem rw_lload {i : Nat} {z : Int} (hp : pc + 2 = pc') (hv : mc_find L i = some (vL z)) (h : K pc' L (vL z :: st) T H) : wq_s kt d E (.lload i) 2 pc L (st) T H K := by
  subst hp
  refine wq_go (fun M => ?_) h
  show mc_n (2 == 2) (mc_ld mc_isL i 2 pc L st M) = _
  unfold mc_ld
  rw [hv]
  rfl
theorem rw_aload_n {i : Fin 4} {v : Value} (hp : pc + 1 = pc') (hv : mc_find L (i : Nat) = some v) (ha : mc_isA v = true) (h : K pc' L (v :: st) T H) : wq_s kt d E (.aload_n i) 1 pc L (st) T H K := by
  subst hp
  refine wq_go (fun M => ?_) h
  show mc_n (1 == 1) (mc_ld mc_isA (i : Nat) 1 pc L st M) = _
  unfold mc_ld
  rw [hv]
  dsimp only
  rw [ha]
  rfl
theorem rw_aload {i : Nat} {v : Value} (hp : pc + 2 = pc') (hv : mc_find L i = some v) (ha : mc_isA v = true) (h : K pc' L (v :: st) T H) : wq_s kt d E (.aload i) 2 pc L (st) T H K := by
  subst hp
  refine wq_go (fun M => ?_) h
  show mc_n (2 == 2) (mc_ld mc_isA i 2 pc L st M) = _
  unfold mc_ld
  rw [hv]
  dsimp only
  rw [ha]
  rfl
theorem rw_istore_n {i : Fin 4} {z : Int} (hp : pc + 1 = pc') (hi : decide ((i : Nat) < E.2.1) = true) (hL : mc_s1 L (i : Nat) (vI z) = L') (h : K pc' L' (st) T H) : wq_s kt d E (.istore_n i) 1 pc L (vI z :: st) T H K := by
  subst hp
  refine wq_go (fun M => ?_) h
  subst hL
  show mc_n (1 == 1) (mc_n (mc_isI (vI z) && decide ((i : Nat) < E.2.1)) (mc_go (pc + 1) (mc_s1 L (i : Nat) (vI z)) st M)) = _
  rw [hi]
  rfl
theorem rw_istore {i : Nat} {z : Int} (hp : pc + 2 = pc') (hi : decide (i < E.2.1) = true) (hL : mc_s1 L i (vI z) = L') (h : K pc' L' (st) T H) : wq_s kt d E (.istore i) 2 pc L (vI z :: st) T H K := by
  subst hp
  refine wq_go (fun M => ?_) h
  subst hL
  show mc_n (2 == 2) (mc_n (mc_isI (vI z) && decide (i < E.2.1)) (mc_go (pc + 2) (mc_s1 L i (vI z)) st M)) = _
  rw [hi]
  rfl
theorem rw_astore_n {i : Fin 4} {v : Value} (hp : pc + 1 = pc') (hi : decide ((i : Nat) < E.2.1) = true) (ha : mc_isA v = true) (hL : mc_s1 L (i : Nat) (v) = L') (h : K pc' L' (st) T H) : wq_s kt d E (.astore_n i) 1 pc L (v :: st) T H K := by
  subst hp
  refine wq_go (fun M => ?_) h
  subst hL
  show mc_n (1 == 1) (mc_n (mc_isA (v) && decide ((i : Nat) < E.2.1)) (mc_go (pc + 1) (mc_s1 L (i : Nat) (v)) st M)) = _
  rw [hi]
  rw [ha]
  rfl
theorem rw_astore {i : Nat} {v : Value} (hp : pc + 2 = pc') (hi : decide (i < E.2.1) = true) (ha : mc_isA v = true) (hL : mc_s1 L i (v) = L') (h : K pc' L' (st) T H) : wq_s kt d E (.astore i) 2 pc L (v :: st) T H K := by
  subst hp
  refine wq_go (fun M => ?_) h
  subst hL
  show mc_n (2 == 2) (mc_n (mc_isA (v) && decide (i < E.2.1)) (mc_go (pc + 2) (mc_s1 L i (v)) st M)) = _
  rw [hi]
  rw [ha]
  rfl
theorem rw_lstore_n {i : Fin 4} {z : Int} (hp : pc + 1 = pc') (hi : decide ((i : Nat) + 1 < E.2.1) = true) (hL : mc_s2 L (i : Nat) (vL z) = L') (h : K pc' L' (st) T H) : wq_s kt d E (.lstore_n i) 1 pc L (vL z :: st) T H K := by
  subst hp
  refine wq_go (fun M => ?_) h
  subst hL
  show mc_n (1 == 1) (mc_n (mc_isL (vL z) && decide ((i : Nat) + 1 < E.2.1)) (mc_go (pc + 1) (mc_s2 L (i : Nat) (vL z)) st M)) = _
  rw [hi]
  rfl
theorem rw_lstore {i : Nat} {z : Int} (hp : pc + 2 = pc') (hi : decide (i + 1 < E.2.1) = true) (hL : mc_s2 L i (vL z) = L') (h : K pc' L' (st) T H) : wq_s kt d E (.lstore i) 2 pc L (vL z :: st) T H K := by
  subst hp
  refine wq_go (fun M => ?_) h
  subst hL
  show mc_n (2 == 2) (mc_n (mc_isL (vL z) && decide (i + 1 < E.2.1)) (mc_go (pc + 2) (mc_s2 L i (vL z)) st M)) = _
  rw [hi]
  rfl
theorem rw_iinc {i : Nat} {k z : Int} (hp : pc + 3 = pc') (hv : mc_find L i = some (vI z)) (hi : decide (i < E.2.1) = true) (hL : mc_s1 L i (vI (z + k)) = L') (h : K pc' L' (st) T H) : wq_s kt d E (.iinc i k) 3 pc L (st) T H K := by
  subst hp
  refine wq_go (fun M => ?_) h
  subst hL
  show mc_n (3 == 3) (mc_inc E.2.1 i k pc L st M) = _
  unfold mc_inc
  rw [hv]
  show mc_n (3 == 3) (mc_n (decide (i < E.2.1)) (mc_go (pc + 3) (mc_s1 L i (.int (Int32.ofInt z + Int32.ofInt k))) st M)) = _
  rw [hi, ← Int32.ofInt_add]
  rfl
theorem rw_iadd {x y : Int} (hp : pc + 1 = pc') (h : K pc' L (vI (x + y) :: st) T H) : wq_s kt d E (.iadd) 1 pc L (vI y :: vI x :: st) T H K := by
  subst hp
  refine wq_go (fun M => ?_) h
  show (some (Sum.inl (pc + 1, L, .int (Int32.ofInt x + Int32.ofInt y) :: st, M)) : mc_O) = _
  rw [← Int32.ofInt_add]
  rfl
theorem rw_iaddw {x y : Int} (hp : pc + 1 = pc') (h : K pc' L (vI (wq_w (x + y)) :: st) T H) : wq_s kt d E (.iadd) 1 pc L (vI y :: vI x :: st) T H K := by
  subst hp
  refine wq_go (fun M => ?_) h
  show (some (Sum.inl (pc + 1, L, .int (Int32.ofInt x + Int32.ofInt y) :: st, M)) : mc_O) = _
  rw [← Int32.ofInt_add]
  unfold vI wq_w
  rw [Int32.ofInt_toInt]
theorem rw_isub {x y : Int} (hp : pc + 1 = pc') (h : K pc' L (vI (x - y) :: st) T H) : wq_s kt d E (.isub) 1 pc L (vI y :: vI x :: st) T H K := by
  subst hp
  refine wq_go (fun M => ?_) h
  show (some (Sum.inl (pc + 1, L, .int (Int32.ofInt x - Int32.ofInt y) :: st, M)) : mc_O) = _
  rw [← Int32.ofInt_sub]
  rfl
theorem rw_isubw {x y : Int} (hp : pc + 1 = pc') (h : K pc' L (vI (wq_w (x - y)) :: st) T H) : wq_s kt d E (.isub) 1 pc L (vI y :: vI x :: st) T H K := by
  subst hp
  refine wq_go (fun M => ?_) h
  show (some (Sum.inl (pc + 1, L, .int (Int32.ofInt x - Int32.ofInt y) :: st, M)) : mc_O) = _
  rw [← Int32.ofInt_sub]
  unfold vI wq_w
  rw [Int32.ofInt_toInt]
theorem rw_imul {x y : Int} (hp : pc + 1 = pc') (h : K pc' L (vI (x * y) :: st) T H) : wq_s kt d E (.imul) 1 pc L (vI y :: vI x :: st) T H K := by
  subst hp
  refine wq_go (fun M => ?_) h
  show (some (Sum.inl (pc + 1, L, .int (Int32.ofInt x * Int32.ofInt y) :: st, M)) : mc_O) = _
  rw [← Int32.ofInt_mul]
  rfl
theorem rw_imulw {x y : Int} (hp : pc + 1 = pc') (h : K pc' L (vI (wq_w (x * y)) :: st) T H) : wq_s kt d E (.imul) 1 pc L (vI y :: vI x :: st) T H K := by
  subst hp
  refine wq_go (fun M => ?_) h
  show (some (Sum.inl (pc + 1, L, .int (Int32.ofInt x * Int32.ofInt y) :: st, M)) : mc_O) = _
  rw [← Int32.ofInt_mul]
  unfold vI wq_w
  rw [Int32.ofInt_toInt]
theorem rw_iand {x y : Int} (hp : pc + 1 = pc') (h : K pc' L (vI (wq_and x y) :: st) T H) : wq_s kt d E (.iand) 1 pc L (vI y :: vI x :: st) T H K := by
  subst hp
  refine wq_go (fun M => ?_) h
  unfold vI wq_and
  rw [Int32.ofInt_toInt]
  rfl
theorem rw_ior {x y : Int} (hp : pc + 1 = pc') (h : K pc' L (vI (wq_or x y) :: st) T H) : wq_s kt d E (.ior) 1 pc L (vI y :: vI x :: st) T H K := by
  subst hp
  refine wq_go (fun M => ?_) h
  unfold vI wq_or
  rw [Int32.ofInt_toInt]
  rfl
theorem rw_ixor {x y : Int} (hp : pc + 1 = pc') (h : K pc' L (vI (wq_xor x y) :: st) T H) : wq_s kt d E (.ixor) 1 pc L (vI y :: vI x :: st) T H K := by
  subst hp
  refine wq_go (fun M => ?_) h
  unfold vI wq_xor
  rw [Int32.ofInt_toInt]
  rfl
theorem rw_ishl {x y : Int} (hp : pc + 1 = pc') (h : K pc' L (vI (wq_shl x y) :: st) T H) : wq_s kt d E (.ishl) 1 pc L (vI y :: vI x :: st) T H K := by
  subst hp
  refine wq_go (fun M => ?_) h
  unfold vI wq_shl
  rw [Int32.ofInt_toInt]
  rfl
theorem rw_ishr {x y : Int} (hp : pc + 1 = pc') (h : K pc' L (vI (wq_shr x y) :: st) T H) : wq_s kt d E (.ishr) 1 pc L (vI y :: vI x :: st) T H K := by
  subst hp
  refine wq_go (fun M => ?_) h
  unfold vI wq_shr
  rw [Int32.ofInt_toInt]
  rfl
theorem rw_iushr {x y : Int} (hp : pc + 1 = pc') (h : K pc' L (vI (wq_ushr x y) :: st) T H) : wq_s kt d E (.iushr) 1 pc L (vI y :: vI x :: st) T H K := by
  subst hp
  refine wq_go (fun M => ?_) h
  unfold vI wq_ushr
  rw [Int32.ofInt_toInt]
  rfl
theorem rw_idiv {x y : Int} (hp : pc + 1 = pc') (h1 : wI y) (h0 : y ≠ 0) (h : K pc' L (vI (wq_div x y) :: st) T H) : wq_s kt d E (.idiv) 1 pc L (vI y :: vI x :: st) T H K := by
  subst hp
  refine wq_go (fun M => ?_) h
  have hy : ¬ Int32.ofInt y = 0 := fun q => h0 ((wq_eq h1 (y := 0) ⟨by omega, by omega⟩).mp q)
  unfold vI wq_div
  rw [Int32.ofInt_toInt]
  show mc_n (1 == 1) (mc_ii2 (fun x y => if y = 0 then none else some (x / y)) pc L (.int (Int32.ofInt y) :: .int (Int32.ofInt x) :: st) M) = _
  unfold mc_ii2
  dsimp only
  rw [if_neg hy]
  rfl
theorem rw_irem {x y : Int} (hp : pc + 1 = pc') (h1 : wI y) (h0 : y ≠ 0) (h : K pc' L (vI (wq_rem x y) :: st) T H) : wq_s kt d E (.irem) 1 pc L (vI y :: vI x :: st) T H K := by
  subst hp
  refine wq_go (fun M => ?_) h
  have hy : ¬ Int32.ofInt y = 0 := fun q => h0 ((wq_eq h1 (y := 0) ⟨by omega, by omega⟩).mp q)
  unfold vI wq_rem
  rw [Int32.ofInt_toInt]
  show mc_n (1 == 1) (mc_ii2 (fun x y => if y = 0 then none else some (x - x / y * y)) pc L (.int (Int32.ofInt y) :: .int (Int32.ofInt x) :: st) M) = _
  unfold mc_ii2
  dsimp only
  rw [if_neg hy]
  rfl
theorem rw_ineg {x : Int} (hp : pc + 1 = pc') (h : K pc' L (vI (-x) :: st) T H) : wq_s kt d E (.ineg) 1 pc L (vI x :: st) T H K := by
  subst hp
  refine wq_go (fun M => ?_) h
  show (some (Sum.inl (pc + 1, L, .int (-Int32.ofInt x) :: st, M)) : mc_O) = _
  rw [← Int32.ofInt_neg]
  rfl
theorem rw_i2l {x : Int} (hp : pc + 1 = pc') (hx : wI x) (h : K pc' L (vL x :: st) T H) : wq_s kt d E (.i2l) 1 pc L (vI x :: st) T H K := by
  subst hp
  refine wq_go (fun M => ?_) h
  show (some (Sum.inl (pc + 1, L, .long (Int32.ofInt x).toInt64 :: st, M)) : mc_O) = _
  have e : (Int32.ofInt x).toInt64 = Int64.ofInt x := by
    rw [← Int64.toInt_inj, Int32.toInt_toInt64, wI_t hx, wL_t ⟨by have := hx.1; omega, by have := hx.2; omega⟩]
  rw [e]
  rfl
theorem rw_i2b {x : Int} (hp : pc + 1 = pc') (h : K pc' L (vI (wq_i2b x) :: st) T H) : wq_s kt d E (.i2b) 1 pc L (vI x :: st) T H K := by
  subst hp
  refine wq_go (fun M => ?_) h
  unfold vI wq_i2b
  rw [Int32.ofInt_toInt]
  rfl
theorem rw_l2i {x : Int} (hp : pc + 1 = pc') (h : K pc' L (vI (wq_w x) :: st) T H) : wq_s kt d E (.l2i) 1 pc L (vL x :: st) T H K := by
  subst hp
  refine wq_go (fun M => ?_) h
  show (some (Sum.inl (pc + 1, L, .int (Int64.ofInt x).toInt32 :: st, M)) : mc_O) = _
  have e : (Int64.ofInt x).toInt32 = Int32.ofInt x := Int64.toInt32_ofInt
  unfold vI wq_w
  rw [e, Int32.ofInt_toInt]
theorem rw_ladd {x y : Int} (hp : pc + 1 = pc') (h : K pc' L (vL (x + y) :: st) T H) : wq_s kt d E (.ladd) 1 pc L (vL y :: vL x :: st) T H K := by
  subst hp
  refine wq_go (fun M => ?_) h
  show (some (Sum.inl (pc + 1, L, .long (Int64.ofInt x + Int64.ofInt y) :: st, M)) : mc_O) = _
  rw [← Int64.ofInt_add]
  rfl
theorem rw_laddw {x y : Int} (hp : pc + 1 = pc') (h : K pc' L (vL (wl_w (x + y)) :: st) T H) : wq_s kt d E (.ladd) 1 pc L (vL y :: vL x :: st) T H K := by
  subst hp
  refine wq_go (fun M => ?_) h
  show (some (Sum.inl (pc + 1, L, .long (Int64.ofInt x + Int64.ofInt y) :: st, M)) : mc_O) = _
  rw [← Int64.ofInt_add]
  unfold vL wl_w
  rw [Int64.ofInt_toInt]
theorem rw_lsubw {x y : Int} (hp : pc + 1 = pc') (h : K pc' L (vL (wl_w (x - y)) :: st) T H) : wq_s kt d E (.lsub) 1 pc L (vL y :: vL x :: st) T H K := by
  subst hp
  refine wq_go (fun M => ?_) h
  show (some (Sum.inl (pc + 1, L, .long (Int64.ofInt x - Int64.ofInt y) :: st, M)) : mc_O) = _
  rw [← Int64.ofInt_sub]
  unfold vL wl_w
  rw [Int64.ofInt_toInt]
theorem rw_lmul {x y : Int} (hp : pc + 1 = pc') (h : K pc' L (vL (x * y) :: st) T H) : wq_s kt d E (.lmul) 1 pc L (vL y :: vL x :: st) T H K := by
  subst hp
  refine wq_go (fun M => ?_) h
  show (some (Sum.inl (pc + 1, L, .long (Int64.ofInt x * Int64.ofInt y) :: st, M)) : mc_O) = _
  rw [← Int64.ofInt_mul]
  rfl
theorem rw_lmulw {x y : Int} (hp : pc + 1 = pc') (h : K pc' L (vL (wl_w (x * y)) :: st) T H) : wq_s kt d E (.lmul) 1 pc L (vL y :: vL x :: st) T H K := by
  subst hp
  refine wq_go (fun M => ?_) h
  show (some (Sum.inl (pc + 1, L, .long (Int64.ofInt x * Int64.ofInt y) :: st, M)) : mc_O) = _
  rw [← Int64.ofInt_mul]
  unfold vL wl_w
  rw [Int64.ofInt_toInt]
theorem rw_land {x y : Int} (hp : pc + 1 = pc') (h : K pc' L (vL (wl_and x y) :: st) T H) : wq_s kt d E (.land) 1 pc L (vL y :: vL x :: st) T H K := by
  subst hp
  refine wq_go (fun M => ?_) h
  unfold vL wl_and
  rw [Int64.ofInt_toInt]
  rfl
theorem rw_lor {x y : Int} (hp : pc + 1 = pc') (h : K pc' L (vL (wl_or x y) :: st) T H) : wq_s kt d E (.lor) 1 pc L (vL y :: vL x :: st) T H K := by
  subst hp
  refine wq_go (fun M => ?_) h
  unfold vL wl_or
  rw [Int64.ofInt_toInt]
  rfl
theorem rw_lshl {x y : Int} (hp : pc + 1 = pc') (h : K pc' L (vL (wl_shl x y) :: st) T H) : wq_s kt d E (.lshl) 1 pc L (vI y :: vL x :: st) T H K := by
  subst hp
  refine wq_go (fun M => ?_) h
  unfold vL wl_shl
  rw [Int64.ofInt_toInt]
  rfl
theorem rw_lshr {x y : Int} (hp : pc + 1 = pc') (h : K pc' L (vL (wl_shr x y) :: st) T H) : wq_s kt d E (.lshr) 1 pc L (vI y :: vL x :: st) T H K := by
  subst hp
  refine wq_go (fun M => ?_) h
  unfold vL wl_shr
  rw [Int64.ofInt_toInt]
  rfl
theorem rw_ldiv {x y : Int} (hp : pc + 1 = pc') (h1 : wL y) (h0 : y ≠ 0) (h : K pc' L (vL (wl_div x y) :: st) T H) : wq_s kt d E (.ldiv) 1 pc L (vL y :: vL x :: st) T H K := by
  subst hp
  refine wq_go (fun M => ?_) h
  have hy : ¬ Int64.ofInt y = 0 := fun q => h0 (by
    have q1 := congrArg Int64.toInt q
    rw [wL_t h1] at q1
    exact q1)
  unfold vL wl_div
  rw [Int64.ofInt_toInt]
  show mc_n (1 == 1) (mc_ll2 (fun x y => if y = 0 then none else some (x / y)) pc L (.long (Int64.ofInt y) :: .long (Int64.ofInt x) :: st) M) = _
  unfold mc_ll2
  dsimp only
  rw [if_neg hy]
  rfl
theorem rw_lrem {x y : Int} (hp : pc + 1 = pc') (h1 : wL y) (h0 : y ≠ 0) (h : K pc' L (vL (wl_rem x y) :: st) T H) : wq_s kt d E (.lrem) 1 pc L (vL y :: vL x :: st) T H K := by
  subst hp
  refine wq_go (fun M => ?_) h
  have hy : ¬ Int64.ofInt y = 0 := fun q => h0 (by
    have q1 := congrArg Int64.toInt q
    rw [wL_t h1] at q1
    exact q1)
  unfold vL wl_rem
  rw [Int64.ofInt_toInt]
  show mc_n (1 == 1) (mc_ll2 (fun x y => if y = 0 then none else some (x - x / y * y)) pc L (.long (Int64.ofInt y) :: .long (Int64.ofInt x) :: st) M) = _
  unfold mc_ll2
  dsimp only
  rw [if_neg hy]
  rfl
theorem rw_lcmp {x y : Int} (hp : pc + 1 = pc') (hx : wL x) (hy : wL y) (h : K pc' L (vI (wq_cmp x y) :: st) T H) : wq_s kt d E (.lcmp) 1 pc L (vL y :: vL x :: st) T H K := by
  subst hp
  refine wq_go (fun M => ?_) h
  show (some (Sum.inl (pc + 1, L, .int (lg_cmp (Int64.ofInt x) (Int64.ofInt y)) :: st, M)) : mc_O) = _
  rw [lg_cmp_of hx hy]
  rfl
theorem rw_dup {v : Value} (hp : pc + 1 = pc') (hc : (v.category == 1) = true) (h : K pc' L (v :: v :: st) T H) : wq_s kt d E (.dup) 1 pc L (v :: st) T H K := by
  subst hp
  refine wq_go (fun M => ?_) h
  show mc_n (1 == 1) (mc_n (v.category == 1) _) = _
  rw [hc]
  rfl
theorem rw_pop {v : Value} (hp : pc + 1 = pc') (hc : (v.category == 1) = true) (h : K pc' L (st) T H) : wq_s kt d E (.pop) 1 pc L (v :: st) T H K := by
  subst hp
  refine wq_go (fun M => ?_) h
  show mc_n (1 == 1) (mc_n (v.category == 1) _) = _
  rw [hc]
  rfl
theorem rw_pop2 {v : Value} (hp : pc + 1 = pc') (hc : (v.category == 2) = true) (h : K pc' L (st) T H) : wq_s kt d E (.pop2) 1 pc L (v :: st) T H K := by
  subst hp
  refine wq_go (fun M => ?_) h
  show mc_n (1 == 1) (mc_n (v.category == 2) _) = _
  rw [hc]
  rfl
theorem rw_dup2 {v w : Value} (hp : pc + 1 = pc') (hc : (v.category == 2) = false) (hw : (v.category == 1 && w.category == 1) = true) (h : K pc' L (v :: w :: v :: w :: st) T H) : wq_s kt d E (.dup2) 1 pc L (v :: w :: st) T H K := by
  subst hp
  refine wq_go (fun M => ?_) h
  show mc_n (1 == 1) (mc_dup2 pc L (v :: w :: st) M) = _
  unfold mc_dup2
  dsimp only
  rw [hc]
  dsimp only
  rw [hw]
  rfl
theorem wq_br {x : Instr} {n : Nat} {st' : List Value} {b : Bool} {off : Int} {p1 p2 : Nat} (h1 : (pc : Int) + off = (p1 : Int)) (h2 : pc + 3 = p2) (hs : ∀ M : mc_M, mc_step kt (mc_call kt 0 d) E.1 E.2.1 E.2.2.1 E.2.2.2 x n (pc, L, st, M) = mc_br b pc off L st' M) (ht : b = true → K p1 L st' T H) (hf : b = false → K p2 L st' T H) : wq_s kt d E x n pc L st T H K := by
  subst h2
  cases b with
  | true =>
    refine wq_go (fun M => ?_) (ht rfl)
    rw [hs]
    unfold mc_br
    rw [if_pos (by omega), h1]
    rfl
  | false =>
    refine wq_go (fun M => ?_) (hf rfl)
    rw [hs]
    unfold mc_br
    rw [if_pos (by omega)]
    rfl
theorem rw_icmp_eq {x y off : Int} {p1 p2 : Nat} (h1 : (pc : Int) + off = (p1 : Int)) (h2 : pc + 3 = p2) (hx : wI x) (hy : wI y) (ht : x = y → K p1 L st T H) (hf : x ≠ y → K p2 L st T H) : wq_s kt d E (.if_icmp .eq off) 3 pc L (vI y :: vI x :: st) T H K := by
  have e := wq_eq hx hy
  refine wq_br (b := decide (Int32.ofInt x = Int32.ofInt y)) h1 h2 (fun M => rfl) (fun q => ht (e.mp (of_decide_eq_true q))) (fun q => hf ?_)
  have q1 : ¬ (x = y) := fun z => of_decide_eq_false q (e.mpr z)
  omega
theorem rw_if_eq {x off : Int} {p1 p2 : Nat} (h1 : (pc : Int) + off = (p1 : Int)) (h2 : pc + 3 = p2) (hx : wI x) (ht : x = 0 → K p1 L st T H) (hf : x ≠ 0 → K p2 L st T H) : wq_s kt d E (.ifCond .eq off) 3 pc L (vI x :: st) T H K := by
  have hy : wI 0 := ⟨by omega, by omega⟩
  have e := wq_eq (y := 0) hx hy
  refine wq_br (b := decide (Int32.ofInt x = (0 : Int32))) h1 h2 (fun M => rfl) (fun q => ht (e.mp (of_decide_eq_true q))) (fun q => hf ?_)
  have q1 : ¬ (x = 0) := fun z => of_decide_eq_false q (e.mpr z)
  omega
theorem rw_icmp_ne {x y off : Int} {p1 p2 : Nat} (h1 : (pc : Int) + off = (p1 : Int)) (h2 : pc + 3 = p2) (hx : wI x) (hy : wI y) (ht : x ≠ y → K p1 L st T H) (hf : x = y → K p2 L st T H) : wq_s kt d E (.if_icmp .ne off) 3 pc L (vI y :: vI x :: st) T H K := by
  have e := not_congr (wq_eq hx hy)
  refine wq_br (b := decide (¬ Int32.ofInt x = Int32.ofInt y)) h1 h2 (fun M => rfl) (fun q => ht (e.mp (of_decide_eq_true q))) (fun q => hf ?_)
  have q1 : ¬ (x ≠ y) := fun z => of_decide_eq_false q (e.mpr z)
  omega
theorem rw_if_ne {x off : Int} {p1 p2 : Nat} (h1 : (pc : Int) + off = (p1 : Int)) (h2 : pc + 3 = p2) (hx : wI x) (ht : x ≠ 0 → K p1 L st T H) (hf : x = 0 → K p2 L st T H) : wq_s kt d E (.ifCond .ne off) 3 pc L (vI x :: st) T H K := by
  have hy : wI 0 := ⟨by omega, by omega⟩
  have e := not_congr (wq_eq (y := 0) hx hy)
  refine wq_br (b := decide (¬ Int32.ofInt x = (0 : Int32))) h1 h2 (fun M => rfl) (fun q => ht (e.mp (of_decide_eq_true q))) (fun q => hf ?_)
  have q1 : ¬ (x ≠ 0) := fun z => of_decide_eq_false q (e.mpr z)
  omega
theorem rw_icmp_lt {x y off : Int} {p1 p2 : Nat} (h1 : (pc : Int) + off = (p1 : Int)) (h2 : pc + 3 = p2) (hx : wI x) (hy : wI y) (ht : x < y → K p1 L st T H) (hf : y ≤ x → K p2 L st T H) : wq_s kt d E (.if_icmp .lt off) 3 pc L (vI y :: vI x :: st) T H K := by
  have e := wq_lt hx hy
  refine wq_br (b := decide (Int32.ofInt x < Int32.ofInt y)) h1 h2 (fun M => rfl) (fun q => ht (e.mp (of_decide_eq_true q))) (fun q => hf ?_)
  have q1 : ¬ (x < y) := fun z => of_decide_eq_false q (e.mpr z)
  omega
theorem rw_if_lt {x off : Int} {p1 p2 : Nat} (h1 : (pc : Int) + off = (p1 : Int)) (h2 : pc + 3 = p2) (hx : wI x) (ht : x < 0 → K p1 L st T H) (hf : 0 ≤ x → K p2 L st T H) : wq_s kt d E (.ifCond .lt off) 3 pc L (vI x :: st) T H K := by
  have hy : wI 0 := ⟨by omega, by omega⟩
  have e := wq_lt (y := 0) hx hy
  refine wq_br (b := decide (Int32.ofInt x < (0 : Int32))) h1 h2 (fun M => rfl) (fun q => ht (e.mp (of_decide_eq_true q))) (fun q => hf ?_)
  have q1 : ¬ (x < 0) := fun z => of_decide_eq_false q (e.mpr z)
  omega
theorem rw_icmp_ge {x y off : Int} {p1 p2 : Nat} (h1 : (pc : Int) + off = (p1 : Int)) (h2 : pc + 3 = p2) (hx : wI x) (hy : wI y) (ht : y ≤ x → K p1 L st T H) (hf : x < y → K p2 L st T H) : wq_s kt d E (.if_icmp .ge off) 3 pc L (vI y :: vI x :: st) T H K := by
  have e := wq_le hy hx
  refine wq_br (b := decide (Int32.ofInt y ≤ Int32.ofInt x)) h1 h2 (fun M => rfl) (fun q => ht (e.mp (of_decide_eq_true q))) (fun q => hf ?_)
  have q1 : ¬ (y ≤ x) := fun z => of_decide_eq_false q (e.mpr z)
  omega
theorem rw_if_ge {x off : Int} {p1 p2 : Nat} (h1 : (pc : Int) + off = (p1 : Int)) (h2 : pc + 3 = p2) (hx : wI x) (ht : 0 ≤ x → K p1 L st T H) (hf : x < 0 → K p2 L st T H) : wq_s kt d E (.ifCond .ge off) 3 pc L (vI x :: st) T H K := by
  have hy : wI 0 := ⟨by omega, by omega⟩
  have e := wq_le (x := 0) hy hx
  refine wq_br (b := decide ((0 : Int32) ≤ Int32.ofInt x)) h1 h2 (fun M => rfl) (fun q => ht (e.mp (of_decide_eq_true q))) (fun q => hf ?_)
  have q1 : ¬ (0 ≤ x) := fun z => of_decide_eq_false q (e.mpr z)
  omega
theorem rw_icmp_gt {x y off : Int} {p1 p2 : Nat} (h1 : (pc : Int) + off = (p1 : Int)) (h2 : pc + 3 = p2) (hx : wI x) (hy : wI y) (ht : y < x → K p1 L st T H) (hf : x ≤ y → K p2 L st T H) : wq_s kt d E (.if_icmp .gt off) 3 pc L (vI y :: vI x :: st) T H K := by
  have e := wq_lt hy hx
  refine wq_br (b := decide (Int32.ofInt y < Int32.ofInt x)) h1 h2 (fun M => rfl) (fun q => ht (e.mp (of_decide_eq_true q))) (fun q => hf ?_)
  have q1 : ¬ (y < x) := fun z => of_decide_eq_false q (e.mpr z)
  omega
theorem rw_if_gt {x off : Int} {p1 p2 : Nat} (h1 : (pc : Int) + off = (p1 : Int)) (h2 : pc + 3 = p2) (hx : wI x) (ht : 0 < x → K p1 L st T H) (hf : x ≤ 0 → K p2 L st T H) : wq_s kt d E (.ifCond .gt off) 3 pc L (vI x :: st) T H K := by
  have hy : wI 0 := ⟨by omega, by omega⟩
  have e := wq_lt (x := 0) hy hx
  refine wq_br (b := decide ((0 : Int32) < Int32.ofInt x)) h1 h2 (fun M => rfl) (fun q => ht (e.mp (of_decide_eq_true q))) (fun q => hf ?_)
  have q1 : ¬ (0 < x) := fun z => of_decide_eq_false q (e.mpr z)
  omega
theorem rw_icmp_le {x y off : Int} {p1 p2 : Nat} (h1 : (pc : Int) + off = (p1 : Int)) (h2 : pc + 3 = p2) (hx : wI x) (hy : wI y) (ht : x ≤ y → K p1 L st T H) (hf : y < x → K p2 L st T H) : wq_s kt d E (.if_icmp .le off) 3 pc L (vI y :: vI x :: st) T H K := by
  have e := wq_le hx hy
  refine wq_br (b := decide (Int32.ofInt x ≤ Int32.ofInt y)) h1 h2 (fun M => rfl) (fun q => ht (e.mp (of_decide_eq_true q))) (fun q => hf ?_)
  have q1 : ¬ (x ≤ y) := fun z => of_decide_eq_false q (e.mpr z)
  omega
theorem rw_if_le {x off : Int} {p1 p2 : Nat} (h1 : (pc : Int) + off = (p1 : Int)) (h2 : pc + 3 = p2) (hx : wI x) (ht : x ≤ 0 → K p1 L st T H) (hf : 0 < x → K p2 L st T H) : wq_s kt d E (.ifCond .le off) 3 pc L (vI x :: st) T H K := by
  have hy : wI 0 := ⟨by omega, by omega⟩
  have e := wq_le (y := 0) hx hy
  refine wq_br (b := decide (Int32.ofInt x ≤ (0 : Int32))) h1 h2 (fun M => rfl) (fun q => ht (e.mp (of_decide_eq_true q))) (fun q => hf ?_)
  have q1 : ¬ (x ≤ 0) := fun z => of_decide_eq_false q (e.mpr z)
  omega
theorem rw_ifnull_r {off : Int} {a p1 p2 : Nat} (h1 : (pc : Int) + off = (p1 : Int)) (h2 : pc + 3 = p2) (h : K p2 L st T H) : wq_s kt d E (.ifnull off) 3 pc L (.ref a :: st) T H K :=
  wq_br (b := !true) h1 h2 (fun M => rfl) (fun q => by cases q) (fun q => h)
theorem rw_ifnull_n {off : Int} {p1 p2 : Nat} (h1 : (pc : Int) + off = (p1 : Int)) (h2 : pc + 3 = p2) (h : K p1 L st T H) : wq_s kt d E (.ifnull off) 3 pc L (.null :: st) T H K :=
  wq_br (b := true) h1 h2 (fun M => rfl) (fun q => h) (fun q => by cases q)
theorem rw_ifnonnull_r {off : Int} {a p1 p2 : Nat} (h1 : (pc : Int) + off = (p1 : Int)) (h2 : pc + 3 = p2) (h : K p1 L st T H) : wq_s kt d E (.ifnonnull off) 3 pc L (.ref a :: st) T H K :=
  wq_br (b := !false) h1 h2 (fun M => rfl) (fun q => h) (fun q => by cases q)
theorem rw_ifnonnull_n {off : Int} {p1 p2 : Nat} (h1 : (pc : Int) + off = (p1 : Int)) (h2 : pc + 3 = p2) (h : K p2 L st T H) : wq_s kt d E (.ifnonnull off) 3 pc L (.null :: st) T H K :=
  wq_br (b := false) h1 h2 (fun M => rfl) (fun q => by cases q) (fun q => h)
theorem rw_goto {off : Int} {p1 : Nat} (h1 : (pc : Int) + off = (p1 : Int)) (h : K p1 L st T H) : wq_s kt d E (.goto off) 3 pc L st T H K := by
  refine wq_go (fun M => ?_) h
  show mc_n (3 == 3) (mc_jp pc off L st M) = _
  unfold mc_jp
  rw [if_pos (by omega), h1]
  rfl
theorem rw_acmp_eq {off : Int} {x y : Value} {a b : Option Nat} {p1 p2 : Nat} (hx : mc_en x = some a) (hy : mc_en y = some b) (h1 : (pc : Int) + off = (p1 : Int)) (h2 : pc + 3 = p2) (ht : a = b → K p1 L st T H) (hf : a ≠ b → K p2 L st T H) : wq_s kt d E (.if_acmp .eq off) 3 pc L (y :: x :: st) T H K := by
  refine wq_br (b := decide (a = b) == true) h1 h2 (fun M => ?_) (fun q => ht (by simpa using q)) (fun q => hf (by simpa using q))
  show mc_n (3 == 3) (mc_ica true pc off L (y :: x :: st) M) = _
  unfold mc_ica
  dsimp only
  rw [hx, hy]
  rfl
theorem rw_acmp_ne {off : Int} {x y : Value} {a b : Option Nat} {p1 p2 : Nat} (hx : mc_en x = some a) (hy : mc_en y = some b) (h1 : (pc : Int) + off = (p1 : Int)) (h2 : pc + 3 = p2) (ht : a ≠ b → K p1 L st T H) (hf : a = b → K p2 L st T H) : wq_s kt d E (.if_acmp .ne off) 3 pc L (y :: x :: st) T H K := by
  refine wq_br (b := decide (a = b) == false) h1 h2 (fun M => ?_) (fun q => ht (by simpa using q)) (fun q => hf (by simpa using q))
  show mc_n (3 == 3) (mc_ica false pc off L (y :: x :: st) M) = _
  unfold mc_ica
  dsimp only
  rw [hx, hy]
  rfl
theorem rw_tsw {dflt lo hi : Int} {offs : Array Int} {n : Nat} {x : Int} {p1 : Nat} (hx : wI x) (h1 : (if x < lo ∨ hi < x then some dflt else offs[(x - lo).toNat]?) = some ((p1 : Int) - pc)) (h : K p1 L st T H) : wq_s kt d E (.tableswitch dflt lo hi offs) n pc L (vI x :: st) T H K := by
  refine wq_go (fun M => ?_) h
  show mc_tsw dflt lo hi offs pc L (.int (Int32.ofInt x) :: st) M = _
  unfold mc_tsw
  dsimp only
  rw [wI_t hx]
  have hj : mc_jp pc ((p1 : Int) - pc) L st M = some (.inl (p1, L, st, M)) := by
    unfold mc_jp
    rw [if_pos (by omega)]
    have e : ((pc : Int) + ((p1 : Int) - pc)).toNat = p1 := by omega
    rw [e]
    rfl
  split
  · next hc =>
    rw [if_pos hc] at h1
    cases h1
    exact hj
  · next hc =>
    rw [if_neg hc] at h1
    rw [h1]
    exact hj
theorem wq_getf {idx c j n : Nat} {e : Nat × Nat × Bool × String × Nat × Nat} {a : Nat} {v : Value} (he : mc_find (mc_fl.getD E.1 []) idx = some e) (hj : e.1 = c ∧ e.2.1 = j) (hs : T.1 a = some (100 + c, n)) (hc : (decide (a < 256) == decide (20 ≤ c)) = true ∧ (decide (a < 256) || decide (j < mc_N.getD c 0)) = true ∧ j < n) (hv : wq_v (wq_fk c j) (H a j) = v) (hp : pc + 3 = pc') (h : wq_in (wq_fk c j) (H a j) → K pc' L (v :: st) T H) : wq_s kt d E (.getfield idx) 3 pc L (.ref a :: st) T H K := fun M hM => by
  obtain ⟨rfl, rfl⟩ := hj
  obtain ⟨fs, h1, h2, h3⟩ := hM.obj hs
  have hlt : e.2.1 < fs.length := by rw [h2]; exact hc.2.2
  obtain ⟨h4, h5⟩ := h3 e.2.1 _ (List.getElem?_eq_getElem hlt)
  subst hp
  refine ⟨0, pc + 3, L, v :: st, M, T, H, ?_, hM, h h5⟩
  show mc_n (3 == 3) (mc_getf kt E.1 idx pc L (.ref a :: st) M) = _
  unfold mc_getf
  dsimp only
  rw [he]
  dsimp only
  rw [h1]
  dsimp only
  rw [List.getElem?_eq_getElem hlt]
  dsimp only
  rw [hc.1, hc.2.1, h4, hv]
  simp [mc_n, mc_go]
theorem rw_getI {idx c j n : Nat} {e : Nat × Nat × Bool × String × Nat × Nat} {a : Nat} (he : mc_find (mc_fl.getD E.1 []) idx = some e) (hj : e.1 = c ∧ e.2.1 = j) (hs : T.1 a = some (100 + c, n)) (hc : (decide (a < 256) == decide (20 ≤ c)) = true ∧ (decide (a < 256) || decide (j < mc_N.getD c 0)) = true ∧ j < n) (hk : wq_v (wq_fk c j) (H a j) = vI (H a j)) (hp : pc + 3 = pc') (h : K pc' L (vI (H a j) :: st) T H) : wq_s kt d E (.getfield idx) 3 pc L (.ref a :: st) T H K := wq_getf he hj hs hc hk hp (fun _ => h)
theorem rw_getL {idx c j n : Nat} {e : Nat × Nat × Bool × String × Nat × Nat} {a : Nat} (he : mc_find (mc_fl.getD E.1 []) idx = some e) (hj : e.1 = c ∧ e.2.1 = j) (hs : T.1 a = some (100 + c, n)) (hc : (decide (a < 256) == decide (20 ≤ c)) = true ∧ (decide (a < 256) || decide (j < mc_N.getD c 0)) = true ∧ j < n) (hk : wq_v (wq_fk c j) (H a j) = vL (H a j)) (hp : pc + 3 = pc') (h : K pc' L (vL (H a j) :: st) T H) : wq_s kt d E (.getfield idx) 3 pc L (.ref a :: st) T H K := wq_getf he hj hs hc hk hp (fun _ => h)
theorem rw_getR {idx c j n : Nat} {e : Nat × Nat × Bool × String × Nat × Nat} {a b : Nat} (he : mc_find (mc_fl.getD E.1 []) idx = some e) (hj : e.1 = c ∧ e.2.1 = j) (hs : T.1 a = some (100 + c, n)) (hc : (decide (a < 256) == decide (20 ≤ c)) = true ∧ (decide (a < 256) || decide (j < mc_N.getD c 0)) = true ∧ j < n) (hk : wq_v (wq_fk c j) (H a j) = vR (H a j)) (hb : H a j = (b : Int)) (hp : pc + 3 = pc') (h : K pc' L (.ref b :: st) T H) : wq_s kt d E (.getfield idx) 3 pc L (.ref a :: st) T H K := wq_getf he hj hs hc (by rw [hk, hb, vR_of]) hp (fun _ => h)
theorem rw_getN {idx c j n : Nat} {e : Nat × Nat × Bool × String × Nat × Nat} {a : Nat} (he : mc_find (mc_fl.getD E.1 []) idx = some e) (hj : e.1 = c ∧ e.2.1 = j) (hs : T.1 a = some (100 + c, n)) (hc : (decide (a < 256) == decide (20 ≤ c)) = true ∧ (decide (a < 256) || decide (j < mc_N.getD c 0)) = true ∧ j < n) (hk : wq_v (wq_fk c j) (H a j) = vR (H a j)) (hb : H a j = -1) (hp : pc + 3 = pc') (h : K pc' L (.null :: st) T H) : wq_s kt d E (.getfield idx) 3 pc L (.ref a :: st) T H K := wq_getf he hj hs hc (by rw [hk, hb, vR_null]) hp (fun _ => h)
theorem rw_putf {idx c j n : Nat} {e : Nat × Nat × Bool × String × Nat × Nat} {a : Nat} {v : Value} {z : Int} (he : mc_find (mc_fl.getD E.1 []) idx = some e) (hj : e.1 = c ∧ e.2.1 = j) (hs : T.1 a = some (100 + c, n)) (ha : 256 ≤ a) (hc : decide (c < 11) = true ∧ decide (j < mc_N.getD c 0) = true ∧ j < n ∧ (!(mc_T c j).2.2.2 || (E.2.2.1 && E.1 == c && !e.2.2.1)) = true) (hf : mc_fit (mc_t c j) v = true) (hv : wq_v (wq_fk c j) z = v) (hz : wq_in (wq_fk c j) z) (hp : pc + 3 = pc') (h : K pc' L st T (wq_u H a j z)) : wq_s kt d E (.putfield idx) 3 pc L (v :: .ref a :: st) T H K := fun M hM => by
  obtain ⟨rfl, rfl⟩ := hj
  obtain ⟨fs, h1, h2, h3⟩ := hM.obj hs
  rw [mc_ce_hi ha] at h1
  have hlt : e.2.1 < fs.length := by rw [h2]; exact hc.2.2.1
  subst hp
  subst hv
  refine ⟨0, pc + 3, L, st, _, T, wq_u H a e.2.1 z, ?_, hM.putf ha h1 hz, h⟩
  show mc_n (3 == 3) (mc_putf E.1 E.2.2.1 idx pc L (_ :: .ref a :: st) M) = _
  unfold mc_putf
  dsimp only
  rw [he]
  dsimp only
  rw [h1]
  dsimp only
  rw [hc.1, hc.2.1, hc.2.2.2, hf, decide_eq_true ha, decide_eq_true hlt]
  simp [mc_n, mc_go]
theorem wq_ald {a : Nat} {z : Int} {x : Instr} {ok : Nat → Bool} (hx : ∀ M : mc_M, mc_step kt (mc_call kt 0 d) E.1 E.2.1 E.2.2.1 E.2.2.2 x 1 (pc, L, vI z :: .ref a :: st, M) = mc_ald kt ok pc L (vI z :: .ref a :: st) M) {t n : Nat} {v : Value} (hs : T.1 a = some (t, n)) (ht : t < 100 ∧ ok t = true ∧ (decide (a < 256) || decide (t < 7)) = true ∧ n ≤ 2147483648) (h0 : 0 ≤ z) (h1 : z < n) (hv : wq_v (wq_ak t) (H a z.toNat) = v) (hp : pc + 1 = pc') (h : wq_in (wq_ak t) (H a z.toNat) → K pc' L (v :: st) T H) : wq_s kt d E x 1 pc L (vI z :: .ref a :: st) T H K := fun M hM => by
  obtain ⟨f, h2, h3⟩ := hM.arr ht.1 hs
  obtain ⟨h4, h5⟩ := wq_ix h0 h1 ht.2.2.2
  obtain ⟨h6, h7⟩ := h3 z.toNat (by omega)
  subst hp
  refine ⟨0, pc + 1, L, v :: st, M, T, H, ?_, hM, h h7⟩
  rw [hx]
  unfold mc_ald vI
  dsimp only
  rw [h2]
  dsimp only
  rw [h4, ht.2.1, ht.2.2.1, h5, h6, hv]
  rfl
theorem rw_iaload {a t n : Nat} {z : Int} (hs : T.1 a = some (t, n)) (ht : t < 100 ∧ (t == 0) = true ∧ (decide (a < 256) || decide (t < 7)) = true ∧ n ≤ 2147483648) (h0 : 0 ≤ z) (h1 : z < n) (hk : wq_v (wq_ak t) (H a z.toNat) = vI (H a z.toNat)) (hp : pc + 1 = pc') (h : K pc' L (vI (H a z.toNat) :: st) T H) : wq_s kt d E .iaload 1 pc L (vI z :: .ref a :: st) T H K := wq_ald (ok := fun t => t == 0) (fun M => rfl) hs ht h0 h1 hk hp (fun _ => h)
theorem rw_laload {a t n : Nat} {z : Int} (hs : T.1 a = some (t, n)) (ht : t < 100 ∧ (t == 1) = true ∧ (decide (a < 256) || decide (t < 7)) = true ∧ n ≤ 2147483648) (h0 : 0 ≤ z) (h1 : z < n) (hk : wq_v (wq_ak t) (H a z.toNat) = vL (H a z.toNat)) (hp : pc + 1 = pc') (h : K pc' L (vL (H a z.toNat) :: st) T H) : wq_s kt d E .laload 1 pc L (vI z :: .ref a :: st) T H K := wq_ald (ok := fun t => t == 1) (fun M => rfl) hs ht h0 h1 hk hp (fun _ => h)
theorem rw_baload {a t n : Nat} {z : Int} (hs : T.1 a = some (t, n)) (ht : t < 100 ∧ (t == 2 || t == 3) = true ∧ (decide (a < 256) || decide (t < 7)) = true ∧ n ≤ 2147483648) (h0 : 0 ≤ z) (h1 : z < n) (hk : wq_v (wq_ak t) (H a z.toNat) = vI (H a z.toNat)) (hp : pc + 1 = pc') (h : K pc' L (vI (H a z.toNat) :: st) T H) : wq_s kt d E .baload 1 pc L (vI z :: .ref a :: st) T H K := wq_ald (ok := fun t => t == 2 || t == 3) (fun M => rfl) hs ht h0 h1 hk hp (fun _ => h)
theorem rw_aaload {a t n b : Nat} {z : Int} (hs : T.1 a = some (t, n)) (ht : t < 100 ∧ decide (4 ≤ t) = true ∧ (decide (a < 256) || decide (t < 7)) = true ∧ n ≤ 2147483648) (h0 : 0 ≤ z) (h1 : z < n) (hk : wq_v (wq_ak t) (H a z.toNat) = vR (H a z.toNat)) (hb : H a z.toNat = (b : Int)) (hp : pc + 1 = pc') (h : K pc' L (.ref b :: st) T H) : wq_s kt d E .aaload 1 pc L (vI z :: .ref a :: st) T H K := wq_ald (ok := fun t => decide (4 ≤ t)) (fun M => rfl) hs ht h0 h1 (by rw [hk, hb, vR_of]) hp (fun _ => h)
theorem wq_ast {x : Instr} {a t n : Nat} {z y : Int} {v : Value} {ok : Nat → Value → Bool} {w : Nat → Value → Value} (hx : ∀ M : mc_M, mc_step kt (mc_call kt 0 d) E.1 E.2.1 E.2.2.1 E.2.2.2 x 1 (pc, L, v :: vI z :: .ref a :: st, M) = mc_ast kt ok w pc L (v :: vI z :: .ref a :: st) M) (hs : T.1 a = some (t, n)) (ha : 256 ≤ a) (ht : t < 100 ∧ n ≤ 2147483648) (hok : ok t v = true) (hw : w t v = wq_v (wq_ak t) y) (hy : wq_in (wq_ak t) y) (h0 : 0 ≤ z) (h1 : z < n) (hp : pc + 1 = pc') (h : K pc' L st T (wq_u H a z.toNat y)) : wq_s kt d E x 1 pc L (v :: vI z :: .ref a :: st) T H K := fun M hM => by
  obtain ⟨f, h2, h3⟩ := hM.arr ht.1 hs
  rw [mc_ce_hi ha] at h2
  obtain ⟨h4, h5⟩ := wq_ix h0 h1 ht.2
  subst hp
  refine ⟨0, pc + 1, L, st, _, T, wq_u H a z.toNat y, ?_, hM.puta ha h2 hy, h⟩
  rw [hx]
  unfold mc_ast vI
  dsimp only
  rw [h2]
  dsimp only
  rw [h4, hok, decide_eq_true ha, h5, hw]
  rfl
theorem rw_iastore {a n : Nat} {z y : Int} (hs : T.1 a = some (0, n)) (ha : 256 ≤ a) (hn : n ≤ 2147483648) (hy : wI y) (h0 : 0 ≤ z) (h1 : z < n) (hp : pc + 1 = pc') (h : K pc' L st T (wq_u H a z.toNat y)) : wq_s kt d E .iastore 1 pc L (vI y :: vI z :: .ref a :: st) T H K := wq_ast (ok := fun t v => t == 0 && mc_isI v) (w := fun _ v => v) (fun M => rfl) hs ha ⟨by decide, hn⟩ rfl rfl hy h0 h1 hp h
theorem rw_lastore {a n : Nat} {z y : Int} (hs : T.1 a = some (1, n)) (ha : 256 ≤ a) (hn : n ≤ 2147483648) (hy : wL y) (h0 : 0 ≤ z) (h1 : z < n) (hp : pc + 1 = pc') (h : K pc' L st T (wq_u H a z.toNat y)) : wq_s kt d E .lastore 1 pc L (vL y :: vI z :: .ref a :: st) T H K := wq_ast (ok := fun t v => t == 1 && mc_isL v) (w := fun _ v => v) (fun M => rfl) hs ha ⟨by decide, hn⟩ rfl rfl hy h0 h1 hp h
theorem rw_bastore {a n : Nat} {z y : Int} (hs : T.1 a = some (2, n)) (ha : 256 ≤ a) (hn : n ≤ 2147483648) (hy : -128 ≤ y ∧ y ≤ 127) (h0 : 0 ≤ z) (h1 : z < n) (hp : pc + 1 = pc') (h : K pc' L st T (wq_u H a z.toNat y)) : wq_s kt d E .bastore 1 pc L (vI y :: vI z :: .ref a :: st) T H K := by
  refine wq_ast (ok := fun t v => (t == 2 || t == 3) && mc_isI v) (w := fun t v => narrow (mc_ty t) v) (fun M => rfl) hs ha ⟨by decide, hn⟩ rfl ?_ hy h0 h1 hp h
  show Value.int ((Int32.ofInt y).toInt8.toInt32) = vI y
  have e : (Int32.ofInt y).toInt8.toInt32 = Int32.ofInt y := by
    rw [← Int32.toInt_inj, Int8.toInt_toInt32, Int32.toInt_toInt8, wI_t ⟨by omega, by omega⟩]
    rw [Int.bmod_def]
    omega
  rw [e]
  rfl
theorem rw_zastore {a n : Nat} {z y : Int} (hs : T.1 a = some (3, n)) (ha : 256 ≤ a) (hn : n ≤ 2147483648) (hy : 0 ≤ y ∧ y ≤ 1) (h0 : 0 ≤ z) (h1 : z < n) (hp : pc + 1 = pc') (h : K pc' L st T (wq_u H a z.toNat y)) : wq_s kt d E .bastore 1 pc L (vI y :: vI z :: .ref a :: st) T H K := by
  refine wq_ast (ok := fun t v => (t == 2 || t == 3) && mc_isI v) (w := fun t v => narrow (mc_ty t) v) (fun M => rfl) hs ha ⟨by decide, hn⟩ rfl ?_ hy h0 h1 hp h
  have h2 : y = 0 ∨ y = 1 := by omega
  rcases h2 with rfl | rfl
  · show narrow .boolean (.int (Int32.ofInt 0)) = .int (Int32.ofInt 0)
    decide +kernel
  · show narrow .boolean (.int (Int32.ofInt 1)) = .int (Int32.ofInt 1)
    decide +kernel
theorem rw_alen {a t n : Nat} (hs : T.1 a = some (t, n)) (ht : t < 100 ∧ (decide (a < 256) || decide (t < 7)) = true) (hp : pc + 1 = pc') (h : K pc' L (vI n :: st) T H) : wq_s kt d E .arraylength 1 pc L (.ref a :: st) T H K := fun M hM => by
  obtain ⟨f, h2, h3⟩ := hM.arr ht.1 hs
  subst hp
  refine ⟨0, pc + 1, L, vI n :: st, M, T, H, ?_, hM, h⟩
  show mc_n (1 == 1) (mc_len kt pc L (.ref a :: st) M) = _
  unfold mc_len
  dsimp only
  rw [h2]
  dsimp only
  rw [ht.2]
  rfl
theorem rw_gs {idx k : Nat} {e : Nat × Bool × String × Nat × Nat} {q : String × String × String × Nat} (he : mc_find (mc_sl.getD E.1 []) idx = some e) (hq : mc_st[e.1]? = some q) (hk : q.2.2.2 = k) (hp : pc + 3 = pc') (h : K pc' L (.ref k :: st) T H) : wq_s kt d E (.getstatic idx) 3 pc L st T H K := by
  subst hp
  subst hk
  refine wq_go (fun M => ?_) h
  show mc_n (3 == 3) (mc_gs E.1 idx pc L st M) = _
  unfold mc_gs
  rw [he]
  dsimp only
  rw [hq]
  rfl
theorem rw_ldcS {idx k : Nat} {q : Nat × Nat × String × Nat × Nat × Nat} (he : mc_find (mc_cs.getD E.1 []) idx = none) (hq : mc_sr.find? (fun q => q.1 == E.1 && q.2.1 == idx) = some q) (hk : q.2.2.2.1 = k) (hp : pc + 2 = pc') (h : K pc' L (.ref k :: st) T H) : wq_s kt d E (.ldc idx) 2 pc L st T H K := by
  subst hp
  subst hk
  refine wq_go (fun M => ?_) h
  show mc_n (2 == 2) (mc_ldc E.1 idx 2 pc L st M) = _
  unfold mc_ldc
  rw [he]
  dsimp only
  rw [hq]
  rfl
theorem rw_ldc_wI {idx : Nat} {z : Int} {e : Value × Nat × Nat} (he : mc_find (mc_cs.getD E.1 []) idx = some e) (hz : e.1 = vI z) (hp : pc + 3 = pc') (h : K pc' L (vI z :: st) T H) : wq_s kt d E (.ldc_w idx) 3 pc L st T H K := by
  subst hp
  refine wq_go (fun M => ?_) h
  show mc_n (3 == 3) (mc_ldc E.1 idx 3 pc L st M) = _
  unfold mc_ldc
  rw [he]
  dsimp only
  rw [hz]
  rfl
theorem rw_ldc_wS {idx k : Nat} {q : Nat × Nat × String × Nat × Nat × Nat} (he : mc_find (mc_cs.getD E.1 []) idx = none) (hq : mc_sr.find? (fun q => q.1 == E.1 && q.2.1 == idx) = some q) (hk : q.2.2.2.1 = k) (hp : pc + 3 = pc') (h : K pc' L (.ref k :: st) T H) : wq_s kt d E (.ldc_w idx) 3 pc L st T H K := by
  subst hp
  subst hk
  refine wq_go (fun M => ?_) h
  show mc_n (3 == 3) (mc_ldc E.1 idx 3 pc L st M) = _
  unfold mc_ldc
  rw [he]
  dsimp only
  rw [hq]
  rfl
theorem rw_ldc2 {idx : Nat} {z : Int} {e : Value × Nat × Nat} (he : mc_find (mc_cs.getD E.1 []) idx = some e) (hz : e.1 = vL z) (hp : pc + 3 = pc') (h : K pc' L (vL z :: st) T H) : wq_s kt d E (.ldc2_w idx) 3 pc L st T H K := by
  subst hp
  refine wq_go (fun M => ?_) h
  show mc_n (3 == 3) (mc_ldc2 E.1 idx pc L st M) = _
  unfold mc_ldc2
  rw [he]
  dsimp only
  rw [hz]
  rfl
/-- a call's link: the method, its parameters, its sort -/
def wq_ml (own idx : Nat) : Option (Nat × Nat × Nat × Nat) := match mc_find (mc_ml.getD own []) idx with
  | some e => match mc_mt e.1 with
    | some q => some (e.1, q.2.2.2.2.2.1, q.2.2.2.2.2.2, q.1)
    | none => none
  | none => none
theorem wq_ml_of {own idx k2 np sort c : Nat} (h : wq_ml own idx = some (k2, np, sort, c)) : ∃ e q, mc_find (mc_ml.getD own []) idx = some e ∧ mc_mt e.1 = some q ∧ e.1 = k2 ∧ q.2.2.2.2.2.1 = np ∧ q.2.2.2.2.2.2 = sort ∧ q.1 = c := by
  unfold wq_ml at h
  split at h
  · next e he =>
    split at h
    · next q hq =>
      cases h
      exact ⟨e, q, he, hq, rfl, rfl, rfl, rfl⟩
    · cases h
  · cases h
theorem wq_cal {x : Instr} {sort : Nat} {idx k2 np c n : Nat} {as : List Value} {st0 : List Value} {b : mc_M → mc_O} (hx : ∀ (F : Nat) (M : mc_M), mc_step kt (mc_call kt F d) E.1 E.2.1 E.2.2.1 E.2.2.2 x 3 (pc, L, st0, M) = mc_or (mc_cal (mc_call kt F d) E.1 sort idx pc L st0 M) (b M)) (hm : wq_ml E.1 idx = some (k2, np, sort, c)) (hn : n = if sort = 0 then np else np + 1) (hst : st0 = as.reverse ++ st) (hal : as.length = n) (hcat : ((st.map Value.category).sum ≤ 8)) (hr : sort = 0 ∨ ∃ (r nn : Nat) (as' : List Value), as = .ref r :: as' ∧ 256 ≤ r ∧ T.1 r = some (100 + c, nn)) (hp : pc + 3 = pc') (hcall : wpc kt d k2 as T H (fun r T' H' => K pc' L (mc_rs r ++ st) T' H')) : wq_s kt d E x 3 pc L st0 T H K := fun M hM => by
  obtain ⟨e, q, h1, h2, h3, h4, h5, h6⟩ := wq_ml_of hm
  obtain ⟨F, w, T', H', h7, h8, h9⟩ := hcall M hM
  subst hp
  refine ⟨F, pc + 3, L, mc_rs w.1 ++ st, w.2, T', H', ?_, h8, h9⟩
  rw [hx]
  have htake : (st0.take n).reverse = as := by
    rw [hst, List.take_left' (by rw [List.length_reverse]; exact hal), List.reverse_reverse]
  have hdrop : st0.drop n = st := by
    rw [hst]
    exact List.drop_left' (by rw [List.length_reverse]; exact hal)
  have hlen : n ≤ st0.length := by
    rw [hst, List.length_append, List.length_reverse, hal]
    omega
  have hcal : mc_cal (mc_call kt F d) E.1 sort idx pc L st0 M = some (.inl (pc + 3, L, mc_rs w.1 ++ st, w.2)) := by
    unfold mc_cal
    rw [h1]
    dsimp only
    rw [h2]
    dsimp only
    rw [h4, ← hn, htake, h3, h7]
    dsimp only
    rw [h5, hdrop, decide_eq_true hcat, decide_eq_true hlen]
    have hrc : (sort == 0 || match st0[np]? with
        | some (.ref b) => decide (256 ≤ b) && match M[b - 256]? with
          | some (.inr z) => z.1 == q.1
          | _ => false
        | _ => false) = true := by
      rcases hr with hr | ⟨r, nn, as', e1, e2, e3⟩
      · rw [hr]
        rfl
      · by_cases hs0 : sort = 0
        · rw [hs0]
          rfl
        · rw [if_neg hs0] at hn
          have e4 : st0[np]? = some (.ref r) := by
            rw [hst, e1, List.reverse_cons, List.append_assoc]
            have e5 : as'.reverse.length = np := by
              rw [e1, List.length_cons] at hal
              rw [List.length_reverse]
              omega
            rw [List.getElem?_append_right (by omega), e5, Nat.sub_self]
            rfl
          obtain ⟨fs, e6, -, -⟩ := hM.obj e3
          rw [mc_ce_hi e2] at e6
          rw [e4]
          dsimp only
          rw [e6]
          dsimp only
          rw [h6, decide_eq_true e2]
          simp
    have key : ∀ b : Bool, b = true → mc_n (sort == sort && true && true && b) (mc_go (pc + 3) L (mc_rs w.1 ++ st) w.2) = some (.inl (pc + 3, L, mc_rs w.1 ++ st, w.2)) := fun b hb => by
      rw [hb]
      simp [mc_n, mc_go]
    exact key _ hrc
  rw [hcal]
  rfl
theorem rw_calV {idx k2 np c r nn : Nat} {as : List Value} {st0 : List Value} (hm : wq_ml E.1 idx = some (k2, np, 1, c)) (hst : st0 = as.reverse ++ .ref r :: st) (hal : as.length = np) (hcat : ((st.map Value.category).sum ≤ 8)) (hr : 256 ≤ r) (hs : T.1 r = some (100 + c, nn)) (hp : pc + 3 = pc') (hcall : wpc kt d k2 (.ref r :: as) T H (fun r T' H' => K pc' L (mc_rs r ++ st) T' H')) : wq_s kt d E (.invokevirtual idx) 3 pc L st0 T H K :=
  wq_cal (as := .ref r :: as) (sort := 1) (b := fun M => mc_prim E.1 idx pc L st0 M) (fun F M => rfl) hm rfl (by rw [hst, List.reverse_cons, List.append_assoc]; rfl) (by rw [List.length_cons, hal]; rfl) hcat (Or.inr ⟨r, nn, as, rfl, hr, hs⟩) hp hcall
theorem rw_calI {idx k2 np c r nn : Nat} {as : List Value} {st0 : List Value} (hm : wq_ml E.1 idx = some (k2, np, 2, c)) (hst : st0 = as.reverse ++ .ref r :: st) (hal : as.length = np) (hcat : ((st.map Value.category).sum ≤ 8)) (hr : 256 ≤ r) (hs : T.1 r = some (100 + c, nn)) (hp : pc + 3 = pc') (hcall : wpc kt d k2 (.ref r :: as) T H (fun r T' H' => K pc' L (mc_rs r ++ st) T' H')) : wq_s kt d E (.invokespecial idx) 3 pc L st0 T H K :=
  wq_cal (as := .ref r :: as) (sort := 2) (b := fun M => mc_obj E.1 idx pc L st0 M) (fun F M => rfl) hm rfl (by rw [hst, List.reverse_cons, List.append_assoc]; rfl) (by rw [List.length_cons, hal]; rfl) hcat (Or.inr ⟨r, nn, as, rfl, hr, hs⟩) hp hcall
theorem rw_calS {idx k2 np c : Nat} {as : List Value} {st0 : List Value} (hm : wq_ml E.1 idx = some (k2, np, 0, c)) (hst : st0 = as.reverse ++ st) (hal : as.length = np) (hcat : ((st.map Value.category).sum ≤ 8)) (hp : pc + 3 = pc') (hcall : wpc kt d k2 as T H (fun r T' H' => K pc' L (mc_rs r ++ st) T' H')) : wq_s kt d E (.invokestatic idx) 3 pc L st0 T H K :=
  wq_cal (as := as) (sort := 0) (b := fun M => mc_math E.1 idx pc L st0 M) (fun F M => rfl) hm rfl hst hal hcat (Or.inl rfl) hp hcall
theorem wq_or2 {own sort idx : Nat} {call : Nat → List Value → mc_M → Option mc_R} {M : mc_M} {b r : mc_O} (h : mc_find (mc_ml.getD own []) idx = none) (hb : b = r) : mc_or (mc_cal call own sort idx pc L st M) b = r := by
  have h3 : mc_cal call own sort idx pc L st M = none := by
    unfold mc_cal
    rw [h]
  rw [h3, hb]
  rfl
theorem rw_math2 {idx : Nat} {e : Nat × Nat × Nat} {x y z : Int} (he : mc_find (mc_jl.getD E.1 []) idx = some e) (hn : mc_find (mc_ml.getD E.1 []) idx = none) (hx : wI x) (hy : wI y) (hz : (e.1 = 0 ∧ z = min x y) ∨ (e.1 = 1 ∧ z = max x y)) (hcat : ((st.map Value.category).sum ≤ 8)) (hp : pc + 3 = pc') (h : K pc' L (vI z :: st) T H) : wq_s kt d E (.invokestatic idx) 3 pc L (vI y :: vI x :: st) T H K := by
  subst hp
  refine wq_go (fun M => ?_) h
  refine wq_or2 hn ?_
  unfold mc_math
  rw [he]
  dsimp only
  rcases hz with ⟨h0, rfl⟩ | ⟨h0, rfl⟩
  · rw [h0]
    show mc_n (decide ((st.map Value.category).sum ≤ 8)) (mc_go (pc + 3) L (.int (if Int32.ofInt y < Int32.ofInt x then Int32.ofInt y else Int32.ofInt x) :: st) M) = _
    rw [decide_eq_true hcat]
    by_cases hc : y < x
    · rw [if_pos ((wq_lt hy hx).mpr hc), Int.min_eq_right (by omega)]
      rfl
    · rw [if_neg (fun q => hc ((wq_lt hy hx).mp q)), Int.min_eq_left (by omega)]
      rfl
  · rw [h0]
    show mc_n (decide ((st.map Value.category).sum ≤ 8)) (mc_go (pc + 3) L (.int (if Int32.ofInt x < Int32.ofInt y then Int32.ofInt y else Int32.ofInt x) :: st) M) = _
    rw [decide_eq_true hcat]
    by_cases hc : x < y
    · rw [if_pos ((wq_lt hx hy).mpr hc), Int.max_eq_right (by omega)]
      rfl
    · rw [if_neg (fun q => hc ((wq_lt hx hy).mp q)), Int.max_eq_left (by omega)]
      rfl
theorem rw_abs {idx : Nat} {e : Nat × Nat × Nat} {x : Int} (he : mc_find (mc_jl.getD E.1 []) idx = some e) (hn : mc_find (mc_ml.getD E.1 []) idx = none) (hx : wI x) (h2 : e.1 = 2) (hcat : ((st.map Value.category).sum ≤ 8)) (hp : pc + 3 = pc') (h : K pc' L (vI (if 0 ≤ x then x else 0 - x) :: st) T H) : wq_s kt d E (.invokestatic idx) 3 pc L (vI x :: st) T H K := by
  subst hp
  refine wq_go (fun M => ?_) h
  refine wq_or2 hn ?_
  unfold mc_math
  rw [he]
  dsimp only
  rw [h2]
  show mc_n (decide ((st.map Value.category).sum ≤ 8)) (mc_go (pc + 3) L (.int (if 0 ≤ Int32.ofInt x then Int32.ofInt x else 0 - Int32.ofInt x) :: st) M) = _
  rw [decide_eq_true hcat]
  have e0 : (0 ≤ Int32.ofInt x) ↔ 0 ≤ x := wq_le (x := 0) ⟨by omega, by omega⟩ hx
  by_cases hc : 0 ≤ x
  · rw [if_pos (e0.mpr hc), if_pos hc]
    rfl
  · rw [if_neg (fun q => hc (e0.mp q)), if_neg hc]
    show (some (Sum.inl (pc + 3, L, Value.int (Int32.ofInt 0 - Int32.ofInt x) :: st, M)) : mc_O) = _
    rw [← Int32.ofInt_sub]
    rfl
theorem rw_slen {idx k : Nat} {e : Nat × Nat × Nat} {b : List Int32} (he : mc_find (mc_pl.getD E.1 []) idx = some e) (hn : mc_find (mc_ml.getD E.1 []) idx = none) (h0 : e.1 = 0) (hb : mc_find mc_sb k = some b) (hcat : ((st.map Value.category).sum ≤ 8)) (hp : pc + 3 = pc') (h : K pc' L (vI b.length :: st) T H) : wq_s kt d E (.invokevirtual idx) 3 pc L (.ref k :: st) T H K := by
  subst hp
  refine wq_go (fun M => ?_) h
  refine wq_or2 hn ?_
  unfold mc_prim
  rw [he]
  dsimp only
  rw [h0]
  show (match mc_find mc_sb k with
    | some b => mc_n (decide ((st.map Value.category).sum ≤ 8)) (mc_go (pc + 3) L (.int (Int32.ofNat b.length) :: st) M)
    | none => none) = _
  rw [hb]
  dsimp only
  rw [decide_eq_true hcat]
  rfl
theorem rw_schr {idx k : Nat} {e : Nat × Nat × Nat} {b : List Int32} {z : Int} (he : mc_find (mc_pl.getD E.1 []) idx = some e) (hn : mc_find (mc_ml.getD E.1 []) idx = none) (h0 : e.1 = 1) (hb : mc_find mc_sb k = some b) (hz : 0 ≤ z) (hl : z < b.length) (hcat : ((st.map Value.category).sum ≤ 8)) (hp : pc + 3 = pc') (h : K pc' L (vI (b.getD z.toNat 0).toInt :: st) T H) : wq_s kt d E (.invokevirtual idx) 3 pc L (vI z :: .ref k :: st) T H K := by
  subst hp
  refine wq_go (fun M => ?_) h
  refine wq_or2 hn ?_
  unfold mc_prim
  rw [he]
  dsimp only
  rw [h0]
  unfold vI
  show (match mc_find mc_sb k with
    | some b => mc_n (mc_in (Int32.ofInt z) b.length && decide ((st.map Value.category).sum ≤ 8)) (mc_go (pc + 3) L (.int (b.getD (Int32.ofInt z).toNatClampNeg 0) :: st) M)
    | none => none) = _
  rw [hb]
  dsimp only
  have hlen := (mc_sb_k hb).2.1
  obtain ⟨h4, h5⟩ := wq_ix hz hl (by omega)
  rw [h4, decide_eq_true hcat, h5, Int32.ofInt_toInt]
  rfl
theorem rw_ord {idx k : Nat} {e : Nat × Nat × Nat} (he : mc_find (mc_pl.getD E.1 []) idx = some e) (hn : mc_find (mc_ml.getD E.1 []) idx = none) (h0 : e.1 = 2) (hk : 16 ≤ k ∧ k < 27) (hcat : ((st.map Value.category).sum ≤ 8)) (hp : pc + 3 = pc') (h : K pc' L (vI ((k - 16 : Nat) : Int) :: st) T H) : wq_s kt d E (.invokevirtual idx) 3 pc L (.ref k :: st) T H K := by
  subst hp
  refine wq_go (fun M => ?_) h
  refine wq_or2 hn ?_
  unfold mc_prim
  rw [he]
  dsimp only
  rw [h0]
  show mc_n (decide (16 ≤ k) && decide (k < 27) && decide ((st.map Value.category).sum ≤ 8)) (mc_go (pc + 3) L (.int (Int32.ofNat (k - 16)) :: st) M) = _
  rw [decide_eq_true hcat, decide_eq_true hk.1, decide_eq_true hk.2]
  rfl
end WQR

section WQE

variable {kt : Nat → Option mc_E} {d k pc : Nat} {L : List (Nat × Value)} {T : wq_T} {H : wq_H} {Q : Option Value → wq_T → wq_H → Prop} {E : wq_E}
theorem wp_ireturn {z : Int} (he : wq_en k = some E) (hd : mc_cd k pc = some (.ireturn, 1)) (hr : E.2.2.2 = some .int) (hQ : Q (some (vI z)) T H) : wp kt d k pc L [vI z] T H Q := wp_end he hd (fun M => by rw [hr]; rfl) hQ
theorem wp_zreturn {z : Int} (he : wq_en k = some E) (hd : mc_cd k pc = some (.ireturn, 1)) (hr : E.2.2.2 = some .boolean) (hz : z = 0 ∨ z = 1) (hQ : Q (some (vI z)) T H) : wp kt d k pc L [vI z] T H Q := wp_end he hd (fun M => by rw [hr]; rcases hz with rfl | rfl <;> rfl) hQ
theorem wp_lreturn {z : Int} (he : wq_en k = some E) (hd : mc_cd k pc = some (.lreturn, 1)) (hr : E.2.2.2 = some .long) (hQ : Q (some (vL z)) T H) : wp kt d k pc L [vL z] T H Q := wp_end he hd (fun M => by rw [hr]; rfl) hQ
theorem wp_areturn {v : Value} {c : String} (he : wq_en k = some E) (hd : mc_cd k pc = some (.areturn, 1)) (hr : E.2.2.2 = some (.object c)) (hv : mc_isA v = true) (hQ : Q (some v) T H) : wp kt d k pc L [v] T H Q := wp_end he hd (fun M => by
  rw [hr]
  show mc_n (1 == 1) (mc_n (mc_isA v) (some (.inr (some v, M)))) = _
  rw [hv]
  rfl) hQ
theorem wp_return (he : wq_en k = some E) (hd : mc_cd k pc = some (.return_, 1)) (hr : E.2.2.2 = none) (hQ : Q none T H) : wp kt d k pc L [] T H Q := wp_end he hd (fun M => by rw [hr]; rfl) hQ
end WQE
