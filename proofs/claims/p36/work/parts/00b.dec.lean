/-! INSTRUCTIONS BY THEIR BYTES (own work): what an instruction's bytes are; where they stand, decode reads it -/
section DEC

variable {c : ByteArray} {p q k a b : Nat} {I : Instr}
/-- from a place on these bytes stand -/
def dAT (c : ByteArray) (p : Nat) (ks : List Nat) : Prop := ∀ j k : Nat, ks[j]? = some k → ∃ h : p + j < c.size, c[p + j].toNat = k
def dkM : List UInt8 → List Nat → Bool
  | _, [] => true
  | b :: l, k :: r => Nat.beq b.toNat k && dkM l r
  | [], _ :: _ => false
theorem dkM_get : ∀ (l : List UInt8) (ks : List Nat) (j k : Nat), dkM l ks = true → ks[j]? = some k → ∃ b, l[j]? = some b ∧ b.toNat = k
  | _, [], j, k, _, h => by simp at h
  | [], _ :: _, j, k, h, _ => by cases h
  | b :: l, x :: r, 0, k, h, e => by
    simp only [dkM, Bool.and_eq_true] at h
    simp only [List.getElem?_cons_zero, Option.some.injEq] at e
    exact ⟨b, rfl, (Nat.eq_of_beq_eq_true h.1).trans e⟩
  | b :: l, x :: r, j + 1, k, h, e => by
    simp only [dkM, Bool.and_eq_true] at h
    rw [List.getElem?_cons_succ] at e
    obtain ⟨b', h1, h2⟩ := dkM_get l r j k h.2 e
    exact ⟨b', by rw [List.getElem?_cons_succ]; exact h1, h2⟩
theorem dAT_of {l : List UInt8} {ks : List Nat} (hl : c.data.toList.drop p = l) (h : dkM l ks = true) : dAT c p ks := fun j k e => by
  obtain ⟨b, h1, h2⟩ := dkM_get l ks j k h e
  rw [← hl, List.getElem?_drop] at h1
  obtain ⟨h3, h4⟩ := List.getElem?_eq_some_iff.mp h1
  obtain ⟨⟨L⟩⟩ := c
  exact ⟨h3, by rw [← h2, ← h4]; rfl⟩
theorem d_at0 {ks : List Nat} (a : dAT c p (k :: ks)) : ∃ h : p < c.size, c[p].toNat = k := a 0 k rfl
theorem d_bind {α β : Type} {x : Decoder α} {f : α → Decoder β} {a : α} (h : x c p = .ok (a, q)) : (x >>= f) c p = f a c q := by
  show Except.bind (x c p) _ = _
  rw [h]
  rfl
theorem d_u1 (h : ∃ h : p < c.size, c[p].toNat = k) : (Reader.u1 : Decoder Nat) c p = .ok (k, p + 1) := by
  obtain ⟨h1, rfl⟩ := h
  unfold Reader.u1
  show (if h : p < c.size then _ else _ : Decoder Nat) c p = _
  rw [dif_pos h1]
  rfl
theorem d_u2 (h0 : ∃ h : p < c.size, c[p].toNat = a) (h1 : ∃ h : p + 1 < c.size, c[p + 1].toNat = b) : (Reader.u2 : Decoder Nat) c p = .ok (a * 256 + b, p + 2) := by
  unfold Reader.u2
  rw [d_bind (d_u1 h0), d_bind (d_u1 h1)]
  rfl
theorem d_map {α β : Type} {x : Decoder α} {f : α → β} {a : α} (h : x c p = .ok (a, q)) : (f <$> x) c p = .ok (f a, q) := by
  show Except.bind (x c p) _ = _
  rw [h]
  rfl
theorem d_dec (h : Decoder.instr p c p = .ok (I, q)) : decode c p = .ok (I, q - p) := by
  have e : (Decoder.instr p).runAt c p = .ok (I, q) := h
  unfold decode
  rw [e]
  rfl
theorem d_sg8 {v : Int} (h : -128 ≤ v ∧ v ≤ 127) : Reader.signed 8 (v % 256).toNat = v := by
  unfold Reader.signed
  rw [show (2 : Nat) ^ (8 - 1) = 128 from rfl, show ((2 ^ 8 : Nat) : Int) = 256 from rfl]
  split <;> omega
theorem d_sg16 {v : Int} (h : -32768 ≤ v ∧ v ≤ 32767) : Reader.signed 16 ((v % 65536).toNat / 256 * 256 + (v % 65536).toNat % 256) = v := by
  rw [show (v % 65536).toNat / 256 * 256 + (v % 65536).toNat % 256 = (v % 65536).toNat by omega]
  unfold Reader.signed
  rw [show (2 : Nat) ^ (16 - 1) = 32768 from rfl, show ((2 ^ 16 : Nat) : Int) = 65536 from rfl]
  split <;> omega
theorem d_u16 {i : Nat} : i / 256 * 256 + i % 256 = i := by omega
set_option maxRecDepth 10000 in
theorem dd_50 (a : dAT c p [50]) : decode c p = .ok (.aaload, 1) := by
  refine (d_dec (q := p + 1) ?_).trans (by rw [Nat.add_sub_cancel_left])
  unfold Decoder.instr
  refine (d_bind (d_u1 (d_at0 a))).trans ?_
  rfl
set_option maxRecDepth 10000 in
theorem dd_83 (a : dAT c p [83]) : decode c p = .ok (.aastore, 1) := by
  refine (d_dec (q := p + 1) ?_).trans (by rw [Nat.add_sub_cancel_left])
  unfold Decoder.instr
  refine (d_bind (d_u1 (d_at0 a))).trans ?_
  rfl
set_option maxRecDepth 10000 in
theorem dd_1 (a : dAT c p [1]) : decode c p = .ok (.aconst_null, 1) := by
  refine (d_dec (q := p + 1) ?_).trans (by rw [Nat.add_sub_cancel_left])
  unfold Decoder.instr
  refine (d_bind (d_u1 (d_at0 a))).trans ?_
  rfl
set_option maxRecDepth 10000 in
theorem dd_176 (a : dAT c p [176]) : decode c p = .ok (.areturn, 1) := by
  refine (d_dec (q := p + 1) ?_).trans (by rw [Nat.add_sub_cancel_left])
  unfold Decoder.instr
  refine (d_bind (d_u1 (d_at0 a))).trans ?_
  rfl
set_option maxRecDepth 10000 in
theorem dd_190 (a : dAT c p [190]) : decode c p = .ok (.arraylength, 1) := by
  refine (d_dec (q := p + 1) ?_).trans (by rw [Nat.add_sub_cancel_left])
  unfold Decoder.instr
  refine (d_bind (d_u1 (d_at0 a))).trans ?_
  rfl
set_option maxRecDepth 10000 in
theorem dd_191 (a : dAT c p [191]) : decode c p = .ok (.athrow, 1) := by
  refine (d_dec (q := p + 1) ?_).trans (by rw [Nat.add_sub_cancel_left])
  unfold Decoder.instr
  refine (d_bind (d_u1 (d_at0 a))).trans ?_
  rfl
set_option maxRecDepth 10000 in
theorem dd_51 (a : dAT c p [51]) : decode c p = .ok (.baload, 1) := by
  refine (d_dec (q := p + 1) ?_).trans (by rw [Nat.add_sub_cancel_left])
  unfold Decoder.instr
  refine (d_bind (d_u1 (d_at0 a))).trans ?_
  rfl
set_option maxRecDepth 10000 in
theorem dd_84 (a : dAT c p [84]) : decode c p = .ok (.bastore, 1) := by
  refine (d_dec (q := p + 1) ?_).trans (by rw [Nat.add_sub_cancel_left])
  unfold Decoder.instr
  refine (d_bind (d_u1 (d_at0 a))).trans ?_
  rfl
set_option maxRecDepth 10000 in
theorem dd_89 (a : dAT c p [89]) : decode c p = .ok (.dup, 1) := by
  refine (d_dec (q := p + 1) ?_).trans (by rw [Nat.add_sub_cancel_left])
  unfold Decoder.instr
  refine (d_bind (d_u1 (d_at0 a))).trans ?_
  rfl
set_option maxRecDepth 10000 in
theorem dd_92 (a : dAT c p [92]) : decode c p = .ok (.dup2, 1) := by
  refine (d_dec (q := p + 1) ?_).trans (by rw [Nat.add_sub_cancel_left])
  unfold Decoder.instr
  refine (d_bind (d_u1 (d_at0 a))).trans ?_
  rfl
set_option maxRecDepth 10000 in
theorem dd_145 (a : dAT c p [145]) : decode c p = .ok (.i2b, 1) := by
  refine (d_dec (q := p + 1) ?_).trans (by rw [Nat.add_sub_cancel_left])
  unfold Decoder.instr
  refine (d_bind (d_u1 (d_at0 a))).trans ?_
  rfl
set_option maxRecDepth 10000 in
theorem dd_133 (a : dAT c p [133]) : decode c p = .ok (.i2l, 1) := by
  refine (d_dec (q := p + 1) ?_).trans (by rw [Nat.add_sub_cancel_left])
  unfold Decoder.instr
  refine (d_bind (d_u1 (d_at0 a))).trans ?_
  rfl
set_option maxRecDepth 10000 in
theorem dd_96 (a : dAT c p [96]) : decode c p = .ok (.iadd, 1) := by
  refine (d_dec (q := p + 1) ?_).trans (by rw [Nat.add_sub_cancel_left])
  unfold Decoder.instr
  refine (d_bind (d_u1 (d_at0 a))).trans ?_
  rfl
set_option maxRecDepth 10000 in
theorem dd_46 (a : dAT c p [46]) : decode c p = .ok (.iaload, 1) := by
  refine (d_dec (q := p + 1) ?_).trans (by rw [Nat.add_sub_cancel_left])
  unfold Decoder.instr
  refine (d_bind (d_u1 (d_at0 a))).trans ?_
  rfl
set_option maxRecDepth 10000 in
theorem dd_126 (a : dAT c p [126]) : decode c p = .ok (.iand, 1) := by
  refine (d_dec (q := p + 1) ?_).trans (by rw [Nat.add_sub_cancel_left])
  unfold Decoder.instr
  refine (d_bind (d_u1 (d_at0 a))).trans ?_
  rfl
set_option maxRecDepth 10000 in
theorem dd_79 (a : dAT c p [79]) : decode c p = .ok (.iastore, 1) := by
  refine (d_dec (q := p + 1) ?_).trans (by rw [Nat.add_sub_cancel_left])
  unfold Decoder.instr
  refine (d_bind (d_u1 (d_at0 a))).trans ?_
  rfl
set_option maxRecDepth 10000 in
theorem dd_108 (a : dAT c p [108]) : decode c p = .ok (.idiv, 1) := by
  refine (d_dec (q := p + 1) ?_).trans (by rw [Nat.add_sub_cancel_left])
  unfold Decoder.instr
  refine (d_bind (d_u1 (d_at0 a))).trans ?_
  rfl
set_option maxRecDepth 10000 in
theorem dd_104 (a : dAT c p [104]) : decode c p = .ok (.imul, 1) := by
  refine (d_dec (q := p + 1) ?_).trans (by rw [Nat.add_sub_cancel_left])
  unfold Decoder.instr
  refine (d_bind (d_u1 (d_at0 a))).trans ?_
  rfl
set_option maxRecDepth 10000 in
theorem dd_116 (a : dAT c p [116]) : decode c p = .ok (.ineg, 1) := by
  refine (d_dec (q := p + 1) ?_).trans (by rw [Nat.add_sub_cancel_left])
  unfold Decoder.instr
  refine (d_bind (d_u1 (d_at0 a))).trans ?_
  rfl
set_option maxRecDepth 10000 in
theorem dd_128 (a : dAT c p [128]) : decode c p = .ok (.ior, 1) := by
  refine (d_dec (q := p + 1) ?_).trans (by rw [Nat.add_sub_cancel_left])
  unfold Decoder.instr
  refine (d_bind (d_u1 (d_at0 a))).trans ?_
  rfl
set_option maxRecDepth 10000 in
theorem dd_112 (a : dAT c p [112]) : decode c p = .ok (.irem, 1) := by
  refine (d_dec (q := p + 1) ?_).trans (by rw [Nat.add_sub_cancel_left])
  unfold Decoder.instr
  refine (d_bind (d_u1 (d_at0 a))).trans ?_
  rfl
set_option maxRecDepth 10000 in
theorem dd_172 (a : dAT c p [172]) : decode c p = .ok (.ireturn, 1) := by
  refine (d_dec (q := p + 1) ?_).trans (by rw [Nat.add_sub_cancel_left])
  unfold Decoder.instr
  refine (d_bind (d_u1 (d_at0 a))).trans ?_
  rfl
set_option maxRecDepth 10000 in
theorem dd_120 (a : dAT c p [120]) : decode c p = .ok (.ishl, 1) := by
  refine (d_dec (q := p + 1) ?_).trans (by rw [Nat.add_sub_cancel_left])
  unfold Decoder.instr
  refine (d_bind (d_u1 (d_at0 a))).trans ?_
  rfl
set_option maxRecDepth 10000 in
theorem dd_122 (a : dAT c p [122]) : decode c p = .ok (.ishr, 1) := by
  refine (d_dec (q := p + 1) ?_).trans (by rw [Nat.add_sub_cancel_left])
  unfold Decoder.instr
  refine (d_bind (d_u1 (d_at0 a))).trans ?_
  rfl
set_option maxRecDepth 10000 in
theorem dd_100 (a : dAT c p [100]) : decode c p = .ok (.isub, 1) := by
  refine (d_dec (q := p + 1) ?_).trans (by rw [Nat.add_sub_cancel_left])
  unfold Decoder.instr
  refine (d_bind (d_u1 (d_at0 a))).trans ?_
  rfl
set_option maxRecDepth 10000 in
theorem dd_124 (a : dAT c p [124]) : decode c p = .ok (.iushr, 1) := by
  refine (d_dec (q := p + 1) ?_).trans (by rw [Nat.add_sub_cancel_left])
  unfold Decoder.instr
  refine (d_bind (d_u1 (d_at0 a))).trans ?_
  rfl
set_option maxRecDepth 10000 in
theorem dd_130 (a : dAT c p [130]) : decode c p = .ok (.ixor, 1) := by
  refine (d_dec (q := p + 1) ?_).trans (by rw [Nat.add_sub_cancel_left])
  unfold Decoder.instr
  refine (d_bind (d_u1 (d_at0 a))).trans ?_
  rfl
set_option maxRecDepth 10000 in
theorem dd_136 (a : dAT c p [136]) : decode c p = .ok (.l2i, 1) := by
  refine (d_dec (q := p + 1) ?_).trans (by rw [Nat.add_sub_cancel_left])
  unfold Decoder.instr
  refine (d_bind (d_u1 (d_at0 a))).trans ?_
  rfl
set_option maxRecDepth 10000 in
theorem dd_97 (a : dAT c p [97]) : decode c p = .ok (.ladd, 1) := by
  refine (d_dec (q := p + 1) ?_).trans (by rw [Nat.add_sub_cancel_left])
  unfold Decoder.instr
  refine (d_bind (d_u1 (d_at0 a))).trans ?_
  rfl
set_option maxRecDepth 10000 in
theorem dd_47 (a : dAT c p [47]) : decode c p = .ok (.laload, 1) := by
  refine (d_dec (q := p + 1) ?_).trans (by rw [Nat.add_sub_cancel_left])
  unfold Decoder.instr
  refine (d_bind (d_u1 (d_at0 a))).trans ?_
  rfl
set_option maxRecDepth 10000 in
theorem dd_127 (a : dAT c p [127]) : decode c p = .ok (.land, 1) := by
  refine (d_dec (q := p + 1) ?_).trans (by rw [Nat.add_sub_cancel_left])
  unfold Decoder.instr
  refine (d_bind (d_u1 (d_at0 a))).trans ?_
  rfl
set_option maxRecDepth 10000 in
theorem dd_80 (a : dAT c p [80]) : decode c p = .ok (.lastore, 1) := by
  refine (d_dec (q := p + 1) ?_).trans (by rw [Nat.add_sub_cancel_left])
  unfold Decoder.instr
  refine (d_bind (d_u1 (d_at0 a))).trans ?_
  rfl
set_option maxRecDepth 10000 in
theorem dd_148 (a : dAT c p [148]) : decode c p = .ok (.lcmp, 1) := by
  refine (d_dec (q := p + 1) ?_).trans (by rw [Nat.add_sub_cancel_left])
  unfold Decoder.instr
  refine (d_bind (d_u1 (d_at0 a))).trans ?_
  rfl
set_option maxRecDepth 10000 in
theorem dd_109 (a : dAT c p [109]) : decode c p = .ok (.ldiv, 1) := by
  refine (d_dec (q := p + 1) ?_).trans (by rw [Nat.add_sub_cancel_left])
  unfold Decoder.instr
  refine (d_bind (d_u1 (d_at0 a))).trans ?_
  rfl
set_option maxRecDepth 10000 in
theorem dd_105 (a : dAT c p [105]) : decode c p = .ok (.lmul, 1) := by
  refine (d_dec (q := p + 1) ?_).trans (by rw [Nat.add_sub_cancel_left])
  unfold Decoder.instr
  refine (d_bind (d_u1 (d_at0 a))).trans ?_
  rfl
set_option maxRecDepth 10000 in
theorem dd_129 (a : dAT c p [129]) : decode c p = .ok (.lor, 1) := by
  refine (d_dec (q := p + 1) ?_).trans (by rw [Nat.add_sub_cancel_left])
  unfold Decoder.instr
  refine (d_bind (d_u1 (d_at0 a))).trans ?_
  rfl
set_option maxRecDepth 10000 in
theorem dd_113 (a : dAT c p [113]) : decode c p = .ok (.lrem, 1) := by
  refine (d_dec (q := p + 1) ?_).trans (by rw [Nat.add_sub_cancel_left])
  unfold Decoder.instr
  refine (d_bind (d_u1 (d_at0 a))).trans ?_
  rfl
set_option maxRecDepth 10000 in
theorem dd_173 (a : dAT c p [173]) : decode c p = .ok (.lreturn, 1) := by
  refine (d_dec (q := p + 1) ?_).trans (by rw [Nat.add_sub_cancel_left])
  unfold Decoder.instr
  refine (d_bind (d_u1 (d_at0 a))).trans ?_
  rfl
set_option maxRecDepth 10000 in
theorem dd_121 (a : dAT c p [121]) : decode c p = .ok (.lshl, 1) := by
  refine (d_dec (q := p + 1) ?_).trans (by rw [Nat.add_sub_cancel_left])
  unfold Decoder.instr
  refine (d_bind (d_u1 (d_at0 a))).trans ?_
  rfl
set_option maxRecDepth 10000 in
theorem dd_123 (a : dAT c p [123]) : decode c p = .ok (.lshr, 1) := by
  refine (d_dec (q := p + 1) ?_).trans (by rw [Nat.add_sub_cancel_left])
  unfold Decoder.instr
  refine (d_bind (d_u1 (d_at0 a))).trans ?_
  rfl
set_option maxRecDepth 10000 in
theorem dd_101 (a : dAT c p [101]) : decode c p = .ok (.lsub, 1) := by
  refine (d_dec (q := p + 1) ?_).trans (by rw [Nat.add_sub_cancel_left])
  unfold Decoder.instr
  refine (d_bind (d_u1 (d_at0 a))).trans ?_
  rfl
set_option maxRecDepth 10000 in
theorem dd_87 (a : dAT c p [87]) : decode c p = .ok (.pop, 1) := by
  refine (d_dec (q := p + 1) ?_).trans (by rw [Nat.add_sub_cancel_left])
  unfold Decoder.instr
  refine (d_bind (d_u1 (d_at0 a))).trans ?_
  rfl
set_option maxRecDepth 10000 in
theorem dd_88 (a : dAT c p [88]) : decode c p = .ok (.pop2, 1) := by
  refine (d_dec (q := p + 1) ?_).trans (by rw [Nat.add_sub_cancel_left])
  unfold Decoder.instr
  refine (d_bind (d_u1 (d_at0 a))).trans ?_
  rfl
set_option maxRecDepth 10000 in
theorem dd_177 (a : dAT c p [177]) : decode c p = .ok (.return_, 1) := by
  refine (d_dec (q := p + 1) ?_).trans (by rw [Nat.add_sub_cancel_left])
  unfold Decoder.instr
  refine (d_bind (d_u1 (d_at0 a))).trans ?_
  rfl
set_option maxRecDepth 10000 in
theorem dd_25 {i : Nat} (a : dAT c p [25, i]) : decode c p = .ok (.aload i, 2) := by
  refine (d_dec (q := p + 2) ?_).trans (by rw [Nat.add_sub_cancel_left])
  unfold Decoder.instr
  refine (d_bind (d_u1 (d_at0 a))).trans ?_
  show (Reader.u1 >>= fun i => pure (Instr.aload i) : Decoder Instr) c (p + 1) = _
  rw [d_bind (d_u1 (a 1 _ rfl))]
  rfl
set_option maxRecDepth 10000 in
theorem dd_58 {i : Nat} (a : dAT c p [58, i]) : decode c p = .ok (.astore i, 2) := by
  refine (d_dec (q := p + 2) ?_).trans (by rw [Nat.add_sub_cancel_left])
  unfold Decoder.instr
  refine (d_bind (d_u1 (d_at0 a))).trans ?_
  show (Reader.u1 >>= fun i => pure (Instr.astore i) : Decoder Instr) c (p + 1) = _
  rw [d_bind (d_u1 (a 1 _ rfl))]
  rfl
set_option maxRecDepth 10000 in
theorem dd_21 {i : Nat} (a : dAT c p [21, i]) : decode c p = .ok (.iload i, 2) := by
  refine (d_dec (q := p + 2) ?_).trans (by rw [Nat.add_sub_cancel_left])
  unfold Decoder.instr
  refine (d_bind (d_u1 (d_at0 a))).trans ?_
  show (Reader.u1 >>= fun i => pure (Instr.iload i) : Decoder Instr) c (p + 1) = _
  rw [d_bind (d_u1 (a 1 _ rfl))]
  rfl
set_option maxRecDepth 10000 in
theorem dd_54 {i : Nat} (a : dAT c p [54, i]) : decode c p = .ok (.istore i, 2) := by
  refine (d_dec (q := p + 2) ?_).trans (by rw [Nat.add_sub_cancel_left])
  unfold Decoder.instr
  refine (d_bind (d_u1 (d_at0 a))).trans ?_
  show (Reader.u1 >>= fun i => pure (Instr.istore i) : Decoder Instr) c (p + 1) = _
  rw [d_bind (d_u1 (a 1 _ rfl))]
  rfl
set_option maxRecDepth 10000 in
theorem dd_18 {i : Nat} (a : dAT c p [18, i]) : decode c p = .ok (.ldc i, 2) := by
  refine (d_dec (q := p + 2) ?_).trans (by rw [Nat.add_sub_cancel_left])
  unfold Decoder.instr
  refine (d_bind (d_u1 (d_at0 a))).trans ?_
  show (Reader.u1 >>= fun i => pure (Instr.ldc i) : Decoder Instr) c (p + 1) = _
  rw [d_bind (d_u1 (a 1 _ rfl))]
  rfl
set_option maxRecDepth 10000 in
theorem dd_22 {i : Nat} (a : dAT c p [22, i]) : decode c p = .ok (.lload i, 2) := by
  refine (d_dec (q := p + 2) ?_).trans (by rw [Nat.add_sub_cancel_left])
  unfold Decoder.instr
  refine (d_bind (d_u1 (d_at0 a))).trans ?_
  show (Reader.u1 >>= fun i => pure (Instr.lload i) : Decoder Instr) c (p + 1) = _
  rw [d_bind (d_u1 (a 1 _ rfl))]
  rfl
set_option maxRecDepth 10000 in
theorem dd_55 {i : Nat} (a : dAT c p [55, i]) : decode c p = .ok (.lstore i, 2) := by
  refine (d_dec (q := p + 2) ?_).trans (by rw [Nat.add_sub_cancel_left])
  unfold Decoder.instr
  refine (d_bind (d_u1 (d_at0 a))).trans ?_
  show (Reader.u1 >>= fun i => pure (Instr.lstore i) : Decoder Instr) c (p + 1) = _
  rw [d_bind (d_u1 (a 1 _ rfl))]
  rfl
set_option maxRecDepth 10000 in
theorem dd_189 {i : Nat} (a : dAT c p [189, i / 256, i % 256]) : decode c p = .ok (.anewarray i, 3) := by
  refine (d_dec (q := p + 3) ?_).trans (by rw [Nat.add_sub_cancel_left])
  unfold Decoder.instr
  refine (d_bind (d_u1 (d_at0 a))).trans ?_
  show (Reader.u2 >>= fun i => pure (Instr.anewarray i) : Decoder Instr) c (p + 1) = _
  rw [d_bind (d_u2 (a 1 _ rfl) (a 2 _ rfl)), d_u16]
  rfl
set_option maxRecDepth 10000 in
theorem dd_180 {i : Nat} (a : dAT c p [180, i / 256, i % 256]) : decode c p = .ok (.getfield i, 3) := by
  refine (d_dec (q := p + 3) ?_).trans (by rw [Nat.add_sub_cancel_left])
  unfold Decoder.instr
  refine (d_bind (d_u1 (d_at0 a))).trans ?_
  show (Reader.u2 >>= fun i => pure (Instr.getfield i) : Decoder Instr) c (p + 1) = _
  rw [d_bind (d_u2 (a 1 _ rfl) (a 2 _ rfl)), d_u16]
  rfl
set_option maxRecDepth 10000 in
theorem dd_178 {i : Nat} (a : dAT c p [178, i / 256, i % 256]) : decode c p = .ok (.getstatic i, 3) := by
  refine (d_dec (q := p + 3) ?_).trans (by rw [Nat.add_sub_cancel_left])
  unfold Decoder.instr
  refine (d_bind (d_u1 (d_at0 a))).trans ?_
  show (Reader.u2 >>= fun i => pure (Instr.getstatic i) : Decoder Instr) c (p + 1) = _
  rw [d_bind (d_u2 (a 1 _ rfl) (a 2 _ rfl)), d_u16]
  rfl
set_option maxRecDepth 10000 in
theorem dd_183 {i : Nat} (a : dAT c p [183, i / 256, i % 256]) : decode c p = .ok (.invokespecial i, 3) := by
  refine (d_dec (q := p + 3) ?_).trans (by rw [Nat.add_sub_cancel_left])
  unfold Decoder.instr
  refine (d_bind (d_u1 (d_at0 a))).trans ?_
  show (Reader.u2 >>= fun i => pure (Instr.invokespecial i) : Decoder Instr) c (p + 1) = _
  rw [d_bind (d_u2 (a 1 _ rfl) (a 2 _ rfl)), d_u16]
  rfl
set_option maxRecDepth 10000 in
theorem dd_184 {i : Nat} (a : dAT c p [184, i / 256, i % 256]) : decode c p = .ok (.invokestatic i, 3) := by
  refine (d_dec (q := p + 3) ?_).trans (by rw [Nat.add_sub_cancel_left])
  unfold Decoder.instr
  refine (d_bind (d_u1 (d_at0 a))).trans ?_
  show (Reader.u2 >>= fun i => pure (Instr.invokestatic i) : Decoder Instr) c (p + 1) = _
  rw [d_bind (d_u2 (a 1 _ rfl) (a 2 _ rfl)), d_u16]
  rfl
set_option maxRecDepth 10000 in
theorem dd_182 {i : Nat} (a : dAT c p [182, i / 256, i % 256]) : decode c p = .ok (.invokevirtual i, 3) := by
  refine (d_dec (q := p + 3) ?_).trans (by rw [Nat.add_sub_cancel_left])
  unfold Decoder.instr
  refine (d_bind (d_u1 (d_at0 a))).trans ?_
  show (Reader.u2 >>= fun i => pure (Instr.invokevirtual i) : Decoder Instr) c (p + 1) = _
  rw [d_bind (d_u2 (a 1 _ rfl) (a 2 _ rfl)), d_u16]
  rfl
set_option maxRecDepth 10000 in
theorem dd_20 {i : Nat} (a : dAT c p [20, i / 256, i % 256]) : decode c p = .ok (.ldc2_w i, 3) := by
  refine (d_dec (q := p + 3) ?_).trans (by rw [Nat.add_sub_cancel_left])
  unfold Decoder.instr
  refine (d_bind (d_u1 (d_at0 a))).trans ?_
  show (Reader.u2 >>= fun i => pure (Instr.ldc2_w i) : Decoder Instr) c (p + 1) = _
  rw [d_bind (d_u2 (a 1 _ rfl) (a 2 _ rfl)), d_u16]
  rfl
set_option maxRecDepth 10000 in
theorem dd_19 {i : Nat} (a : dAT c p [19, i / 256, i % 256]) : decode c p = .ok (.ldc_w i, 3) := by
  refine (d_dec (q := p + 3) ?_).trans (by rw [Nat.add_sub_cancel_left])
  unfold Decoder.instr
  refine (d_bind (d_u1 (d_at0 a))).trans ?_
  show (Reader.u2 >>= fun i => pure (Instr.ldc_w i) : Decoder Instr) c (p + 1) = _
  rw [d_bind (d_u2 (a 1 _ rfl) (a 2 _ rfl)), d_u16]
  rfl
set_option maxRecDepth 10000 in
theorem dd_187 {i : Nat} (a : dAT c p [187, i / 256, i % 256]) : decode c p = .ok (.new i, 3) := by
  refine (d_dec (q := p + 3) ?_).trans (by rw [Nat.add_sub_cancel_left])
  unfold Decoder.instr
  refine (d_bind (d_u1 (d_at0 a))).trans ?_
  show (Reader.u2 >>= fun i => pure (Instr.new i) : Decoder Instr) c (p + 1) = _
  rw [d_bind (d_u2 (a 1 _ rfl) (a 2 _ rfl)), d_u16]
  rfl
set_option maxRecDepth 10000 in
theorem dd_181 {i : Nat} (a : dAT c p [181, i / 256, i % 256]) : decode c p = .ok (.putfield i, 3) := by
  refine (d_dec (q := p + 3) ?_).trans (by rw [Nat.add_sub_cancel_left])
  unfold Decoder.instr
  refine (d_bind (d_u1 (d_at0 a))).trans ?_
  show (Reader.u2 >>= fun i => pure (Instr.putfield i) : Decoder Instr) c (p + 1) = _
  rw [d_bind (d_u2 (a 1 _ rfl) (a 2 _ rfl)), d_u16]
  rfl
set_option maxRecDepth 10000 in
theorem dd_167 {v : Int} (h : -32768 ≤ v ∧ v ≤ 32767) (a : dAT c p [167, (v % 65536).toNat / 256, (v % 65536).toNat % 256]) : decode c p = .ok (.goto v, 3) := by
  refine (d_dec (q := p + 3) ?_).trans (by rw [Nat.add_sub_cancel_left])
  unfold Decoder.instr
  refine (d_bind (d_u1 (d_at0 a))).trans ?_
  show (Reader.s2 >>= fun v => pure (Instr.goto v) : Decoder Instr) c (p + 1) = _
  unfold Reader.s2
  rw [d_bind (d_map (d_u2 (a 1 _ rfl) (a 2 _ rfl))), d_sg16 h]
  rfl
set_option maxRecDepth 10000 in
theorem dd_199 {v : Int} (h : -32768 ≤ v ∧ v ≤ 32767) (a : dAT c p [199, (v % 65536).toNat / 256, (v % 65536).toNat % 256]) : decode c p = .ok (.ifnonnull v, 3) := by
  refine (d_dec (q := p + 3) ?_).trans (by rw [Nat.add_sub_cancel_left])
  unfold Decoder.instr
  refine (d_bind (d_u1 (d_at0 a))).trans ?_
  show (Reader.s2 >>= fun v => pure (Instr.ifnonnull v) : Decoder Instr) c (p + 1) = _
  unfold Reader.s2
  rw [d_bind (d_map (d_u2 (a 1 _ rfl) (a 2 _ rfl))), d_sg16 h]
  rfl
set_option maxRecDepth 10000 in
theorem dd_198 {v : Int} (h : -32768 ≤ v ∧ v ≤ 32767) (a : dAT c p [198, (v % 65536).toNat / 256, (v % 65536).toNat % 256]) : decode c p = .ok (.ifnull v, 3) := by
  refine (d_dec (q := p + 3) ?_).trans (by rw [Nat.add_sub_cancel_left])
  unfold Decoder.instr
  refine (d_bind (d_u1 (d_at0 a))).trans ?_
  show (Reader.s2 >>= fun v => pure (Instr.ifnull v) : Decoder Instr) c (p + 1) = _
  unfold Reader.s2
  rw [d_bind (d_map (d_u2 (a 1 _ rfl) (a 2 _ rfl))), d_sg16 h]
  rfl
set_option maxRecDepth 10000 in
theorem dd_153 {v : Int} (h : -32768 ≤ v ∧ v ≤ 32767) (a : dAT c p [153, (v % 65536).toNat / 256, (v % 65536).toNat % 256]) : decode c p = .ok (.ifCond .eq v, 3) := by
  refine (d_dec (q := p + 3) ?_).trans (by rw [Nat.add_sub_cancel_left])
  unfold Decoder.instr
  refine (d_bind (d_u1 (d_at0 a))).trans ?_
  show (Reader.s2 >>= fun v => pure (Instr.ifCond .eq v) : Decoder Instr) c (p + 1) = _
  unfold Reader.s2
  rw [d_bind (d_map (d_u2 (a 1 _ rfl) (a 2 _ rfl))), d_sg16 h]
  rfl
set_option maxRecDepth 10000 in
theorem dd_154 {v : Int} (h : -32768 ≤ v ∧ v ≤ 32767) (a : dAT c p [154, (v % 65536).toNat / 256, (v % 65536).toNat % 256]) : decode c p = .ok (.ifCond .ne v, 3) := by
  refine (d_dec (q := p + 3) ?_).trans (by rw [Nat.add_sub_cancel_left])
  unfold Decoder.instr
  refine (d_bind (d_u1 (d_at0 a))).trans ?_
  show (Reader.s2 >>= fun v => pure (Instr.ifCond .ne v) : Decoder Instr) c (p + 1) = _
  unfold Reader.s2
  rw [d_bind (d_map (d_u2 (a 1 _ rfl) (a 2 _ rfl))), d_sg16 h]
  rfl
set_option maxRecDepth 10000 in
theorem dd_155 {v : Int} (h : -32768 ≤ v ∧ v ≤ 32767) (a : dAT c p [155, (v % 65536).toNat / 256, (v % 65536).toNat % 256]) : decode c p = .ok (.ifCond .lt v, 3) := by
  refine (d_dec (q := p + 3) ?_).trans (by rw [Nat.add_sub_cancel_left])
  unfold Decoder.instr
  refine (d_bind (d_u1 (d_at0 a))).trans ?_
  show (Reader.s2 >>= fun v => pure (Instr.ifCond .lt v) : Decoder Instr) c (p + 1) = _
  unfold Reader.s2
  rw [d_bind (d_map (d_u2 (a 1 _ rfl) (a 2 _ rfl))), d_sg16 h]
  rfl
set_option maxRecDepth 10000 in
theorem dd_156 {v : Int} (h : -32768 ≤ v ∧ v ≤ 32767) (a : dAT c p [156, (v % 65536).toNat / 256, (v % 65536).toNat % 256]) : decode c p = .ok (.ifCond .ge v, 3) := by
  refine (d_dec (q := p + 3) ?_).trans (by rw [Nat.add_sub_cancel_left])
  unfold Decoder.instr
  refine (d_bind (d_u1 (d_at0 a))).trans ?_
  show (Reader.s2 >>= fun v => pure (Instr.ifCond .ge v) : Decoder Instr) c (p + 1) = _
  unfold Reader.s2
  rw [d_bind (d_map (d_u2 (a 1 _ rfl) (a 2 _ rfl))), d_sg16 h]
  rfl
set_option maxRecDepth 10000 in
theorem dd_157 {v : Int} (h : -32768 ≤ v ∧ v ≤ 32767) (a : dAT c p [157, (v % 65536).toNat / 256, (v % 65536).toNat % 256]) : decode c p = .ok (.ifCond .gt v, 3) := by
  refine (d_dec (q := p + 3) ?_).trans (by rw [Nat.add_sub_cancel_left])
  unfold Decoder.instr
  refine (d_bind (d_u1 (d_at0 a))).trans ?_
  show (Reader.s2 >>= fun v => pure (Instr.ifCond .gt v) : Decoder Instr) c (p + 1) = _
  unfold Reader.s2
  rw [d_bind (d_map (d_u2 (a 1 _ rfl) (a 2 _ rfl))), d_sg16 h]
  rfl
set_option maxRecDepth 10000 in
theorem dd_158 {v : Int} (h : -32768 ≤ v ∧ v ≤ 32767) (a : dAT c p [158, (v % 65536).toNat / 256, (v % 65536).toNat % 256]) : decode c p = .ok (.ifCond .le v, 3) := by
  refine (d_dec (q := p + 3) ?_).trans (by rw [Nat.add_sub_cancel_left])
  unfold Decoder.instr
  refine (d_bind (d_u1 (d_at0 a))).trans ?_
  show (Reader.s2 >>= fun v => pure (Instr.ifCond .le v) : Decoder Instr) c (p + 1) = _
  unfold Reader.s2
  rw [d_bind (d_map (d_u2 (a 1 _ rfl) (a 2 _ rfl))), d_sg16 h]
  rfl
set_option maxRecDepth 10000 in
theorem dd_159 {v : Int} (h : -32768 ≤ v ∧ v ≤ 32767) (a : dAT c p [159, (v % 65536).toNat / 256, (v % 65536).toNat % 256]) : decode c p = .ok (.if_icmp .eq v, 3) := by
  refine (d_dec (q := p + 3) ?_).trans (by rw [Nat.add_sub_cancel_left])
  unfold Decoder.instr
  refine (d_bind (d_u1 (d_at0 a))).trans ?_
  show (Reader.s2 >>= fun v => pure (Instr.if_icmp .eq v) : Decoder Instr) c (p + 1) = _
  unfold Reader.s2
  rw [d_bind (d_map (d_u2 (a 1 _ rfl) (a 2 _ rfl))), d_sg16 h]
  rfl
set_option maxRecDepth 10000 in
theorem dd_160 {v : Int} (h : -32768 ≤ v ∧ v ≤ 32767) (a : dAT c p [160, (v % 65536).toNat / 256, (v % 65536).toNat % 256]) : decode c p = .ok (.if_icmp .ne v, 3) := by
  refine (d_dec (q := p + 3) ?_).trans (by rw [Nat.add_sub_cancel_left])
  unfold Decoder.instr
  refine (d_bind (d_u1 (d_at0 a))).trans ?_
  show (Reader.s2 >>= fun v => pure (Instr.if_icmp .ne v) : Decoder Instr) c (p + 1) = _
  unfold Reader.s2
  rw [d_bind (d_map (d_u2 (a 1 _ rfl) (a 2 _ rfl))), d_sg16 h]
  rfl
set_option maxRecDepth 10000 in
theorem dd_161 {v : Int} (h : -32768 ≤ v ∧ v ≤ 32767) (a : dAT c p [161, (v % 65536).toNat / 256, (v % 65536).toNat % 256]) : decode c p = .ok (.if_icmp .lt v, 3) := by
  refine (d_dec (q := p + 3) ?_).trans (by rw [Nat.add_sub_cancel_left])
  unfold Decoder.instr
  refine (d_bind (d_u1 (d_at0 a))).trans ?_
  show (Reader.s2 >>= fun v => pure (Instr.if_icmp .lt v) : Decoder Instr) c (p + 1) = _
  unfold Reader.s2
  rw [d_bind (d_map (d_u2 (a 1 _ rfl) (a 2 _ rfl))), d_sg16 h]
  rfl
set_option maxRecDepth 10000 in
theorem dd_162 {v : Int} (h : -32768 ≤ v ∧ v ≤ 32767) (a : dAT c p [162, (v % 65536).toNat / 256, (v % 65536).toNat % 256]) : decode c p = .ok (.if_icmp .ge v, 3) := by
  refine (d_dec (q := p + 3) ?_).trans (by rw [Nat.add_sub_cancel_left])
  unfold Decoder.instr
  refine (d_bind (d_u1 (d_at0 a))).trans ?_
  show (Reader.s2 >>= fun v => pure (Instr.if_icmp .ge v) : Decoder Instr) c (p + 1) = _
  unfold Reader.s2
  rw [d_bind (d_map (d_u2 (a 1 _ rfl) (a 2 _ rfl))), d_sg16 h]
  rfl
set_option maxRecDepth 10000 in
theorem dd_163 {v : Int} (h : -32768 ≤ v ∧ v ≤ 32767) (a : dAT c p [163, (v % 65536).toNat / 256, (v % 65536).toNat % 256]) : decode c p = .ok (.if_icmp .gt v, 3) := by
  refine (d_dec (q := p + 3) ?_).trans (by rw [Nat.add_sub_cancel_left])
  unfold Decoder.instr
  refine (d_bind (d_u1 (d_at0 a))).trans ?_
  show (Reader.s2 >>= fun v => pure (Instr.if_icmp .gt v) : Decoder Instr) c (p + 1) = _
  unfold Reader.s2
  rw [d_bind (d_map (d_u2 (a 1 _ rfl) (a 2 _ rfl))), d_sg16 h]
  rfl
set_option maxRecDepth 10000 in
theorem dd_164 {v : Int} (h : -32768 ≤ v ∧ v ≤ 32767) (a : dAT c p [164, (v % 65536).toNat / 256, (v % 65536).toNat % 256]) : decode c p = .ok (.if_icmp .le v, 3) := by
  refine (d_dec (q := p + 3) ?_).trans (by rw [Nat.add_sub_cancel_left])
  unfold Decoder.instr
  refine (d_bind (d_u1 (d_at0 a))).trans ?_
  show (Reader.s2 >>= fun v => pure (Instr.if_icmp .le v) : Decoder Instr) c (p + 1) = _
  unfold Reader.s2
  rw [d_bind (d_map (d_u2 (a 1 _ rfl) (a 2 _ rfl))), d_sg16 h]
  rfl
set_option maxRecDepth 10000 in
theorem dd_165 {v : Int} (h : -32768 ≤ v ∧ v ≤ 32767) (a : dAT c p [165, (v % 65536).toNat / 256, (v % 65536).toNat % 256]) : decode c p = .ok (.if_acmp .eq v, 3) := by
  refine (d_dec (q := p + 3) ?_).trans (by rw [Nat.add_sub_cancel_left])
  unfold Decoder.instr
  refine (d_bind (d_u1 (d_at0 a))).trans ?_
  show (Reader.s2 >>= fun v => pure (Instr.if_acmp .eq v) : Decoder Instr) c (p + 1) = _
  unfold Reader.s2
  rw [d_bind (d_map (d_u2 (a 1 _ rfl) (a 2 _ rfl))), d_sg16 h]
  rfl
set_option maxRecDepth 10000 in
theorem dd_166 {v : Int} (h : -32768 ≤ v ∧ v ≤ 32767) (a : dAT c p [166, (v % 65536).toNat / 256, (v % 65536).toNat % 256]) : decode c p = .ok (.if_acmp .ne v, 3) := by
  refine (d_dec (q := p + 3) ?_).trans (by rw [Nat.add_sub_cancel_left])
  unfold Decoder.instr
  refine (d_bind (d_u1 (d_at0 a))).trans ?_
  show (Reader.s2 >>= fun v => pure (Instr.if_acmp .ne v) : Decoder Instr) c (p + 1) = _
  unfold Reader.s2
  rw [d_bind (d_map (d_u2 (a 1 _ rfl) (a 2 _ rfl))), d_sg16 h]
  rfl
set_option maxRecDepth 10000 in
theorem dd_42 (a : dAT c p [42]) : decode c p = .ok (.aload_n 0, 1) := by
  refine (d_dec (q := p + 1) ?_).trans (by rw [Nat.add_sub_cancel_left])
  unfold Decoder.instr
  refine (d_bind (d_u1 (d_at0 a))).trans ?_
  rfl
set_option maxRecDepth 10000 in
theorem dd_43 (a : dAT c p [43]) : decode c p = .ok (.aload_n 1, 1) := by
  refine (d_dec (q := p + 1) ?_).trans (by rw [Nat.add_sub_cancel_left])
  unfold Decoder.instr
  refine (d_bind (d_u1 (d_at0 a))).trans ?_
  rfl
set_option maxRecDepth 10000 in
theorem dd_44 (a : dAT c p [44]) : decode c p = .ok (.aload_n 2, 1) := by
  refine (d_dec (q := p + 1) ?_).trans (by rw [Nat.add_sub_cancel_left])
  unfold Decoder.instr
  refine (d_bind (d_u1 (d_at0 a))).trans ?_
  rfl
set_option maxRecDepth 10000 in
theorem dd_45 (a : dAT c p [45]) : decode c p = .ok (.aload_n 3, 1) := by
  refine (d_dec (q := p + 1) ?_).trans (by rw [Nat.add_sub_cancel_left])
  unfold Decoder.instr
  refine (d_bind (d_u1 (d_at0 a))).trans ?_
  rfl
theorem dn_42 {n : Fin 4} (a : dAT c p [42 + n.val]) : decode c p = .ok (.aload_n n, 1) := by
  obtain ⟨n, hn⟩ := n
  have e : n = 0 ∨ n = 1 ∨ n = 2 ∨ n = 3 := by omega
  rcases e with rfl | rfl | rfl | rfl
  · exact dd_42 a
  · exact dd_43 a
  · exact dd_44 a
  · exact dd_45 a
set_option maxRecDepth 10000 in
theorem dd_75 (a : dAT c p [75]) : decode c p = .ok (.astore_n 0, 1) := by
  refine (d_dec (q := p + 1) ?_).trans (by rw [Nat.add_sub_cancel_left])
  unfold Decoder.instr
  refine (d_bind (d_u1 (d_at0 a))).trans ?_
  rfl
set_option maxRecDepth 10000 in
theorem dd_76 (a : dAT c p [76]) : decode c p = .ok (.astore_n 1, 1) := by
  refine (d_dec (q := p + 1) ?_).trans (by rw [Nat.add_sub_cancel_left])
  unfold Decoder.instr
  refine (d_bind (d_u1 (d_at0 a))).trans ?_
  rfl
set_option maxRecDepth 10000 in
theorem dd_77 (a : dAT c p [77]) : decode c p = .ok (.astore_n 2, 1) := by
  refine (d_dec (q := p + 1) ?_).trans (by rw [Nat.add_sub_cancel_left])
  unfold Decoder.instr
  refine (d_bind (d_u1 (d_at0 a))).trans ?_
  rfl
set_option maxRecDepth 10000 in
theorem dd_78 (a : dAT c p [78]) : decode c p = .ok (.astore_n 3, 1) := by
  refine (d_dec (q := p + 1) ?_).trans (by rw [Nat.add_sub_cancel_left])
  unfold Decoder.instr
  refine (d_bind (d_u1 (d_at0 a))).trans ?_
  rfl
theorem dn_75 {n : Fin 4} (a : dAT c p [75 + n.val]) : decode c p = .ok (.astore_n n, 1) := by
  obtain ⟨n, hn⟩ := n
  have e : n = 0 ∨ n = 1 ∨ n = 2 ∨ n = 3 := by omega
  rcases e with rfl | rfl | rfl | rfl
  · exact dd_75 a
  · exact dd_76 a
  · exact dd_77 a
  · exact dd_78 a
set_option maxRecDepth 10000 in
theorem dd_26 (a : dAT c p [26]) : decode c p = .ok (.iload_n 0, 1) := by
  refine (d_dec (q := p + 1) ?_).trans (by rw [Nat.add_sub_cancel_left])
  unfold Decoder.instr
  refine (d_bind (d_u1 (d_at0 a))).trans ?_
  rfl
set_option maxRecDepth 10000 in
theorem dd_27 (a : dAT c p [27]) : decode c p = .ok (.iload_n 1, 1) := by
  refine (d_dec (q := p + 1) ?_).trans (by rw [Nat.add_sub_cancel_left])
  unfold Decoder.instr
  refine (d_bind (d_u1 (d_at0 a))).trans ?_
  rfl
set_option maxRecDepth 10000 in
theorem dd_28 (a : dAT c p [28]) : decode c p = .ok (.iload_n 2, 1) := by
  refine (d_dec (q := p + 1) ?_).trans (by rw [Nat.add_sub_cancel_left])
  unfold Decoder.instr
  refine (d_bind (d_u1 (d_at0 a))).trans ?_
  rfl
set_option maxRecDepth 10000 in
theorem dd_29 (a : dAT c p [29]) : decode c p = .ok (.iload_n 3, 1) := by
  refine (d_dec (q := p + 1) ?_).trans (by rw [Nat.add_sub_cancel_left])
  unfold Decoder.instr
  refine (d_bind (d_u1 (d_at0 a))).trans ?_
  rfl
theorem dn_26 {n : Fin 4} (a : dAT c p [26 + n.val]) : decode c p = .ok (.iload_n n, 1) := by
  obtain ⟨n, hn⟩ := n
  have e : n = 0 ∨ n = 1 ∨ n = 2 ∨ n = 3 := by omega
  rcases e with rfl | rfl | rfl | rfl
  · exact dd_26 a
  · exact dd_27 a
  · exact dd_28 a
  · exact dd_29 a
set_option maxRecDepth 10000 in
theorem dd_59 (a : dAT c p [59]) : decode c p = .ok (.istore_n 0, 1) := by
  refine (d_dec (q := p + 1) ?_).trans (by rw [Nat.add_sub_cancel_left])
  unfold Decoder.instr
  refine (d_bind (d_u1 (d_at0 a))).trans ?_
  rfl
set_option maxRecDepth 10000 in
theorem dd_60 (a : dAT c p [60]) : decode c p = .ok (.istore_n 1, 1) := by
  refine (d_dec (q := p + 1) ?_).trans (by rw [Nat.add_sub_cancel_left])
  unfold Decoder.instr
  refine (d_bind (d_u1 (d_at0 a))).trans ?_
  rfl
set_option maxRecDepth 10000 in
theorem dd_61 (a : dAT c p [61]) : decode c p = .ok (.istore_n 2, 1) := by
  refine (d_dec (q := p + 1) ?_).trans (by rw [Nat.add_sub_cancel_left])
  unfold Decoder.instr
  refine (d_bind (d_u1 (d_at0 a))).trans ?_
  rfl
set_option maxRecDepth 10000 in
theorem dd_62 (a : dAT c p [62]) : decode c p = .ok (.istore_n 3, 1) := by
  refine (d_dec (q := p + 1) ?_).trans (by rw [Nat.add_sub_cancel_left])
  unfold Decoder.instr
  refine (d_bind (d_u1 (d_at0 a))).trans ?_
  rfl
theorem dn_59 {n : Fin 4} (a : dAT c p [59 + n.val]) : decode c p = .ok (.istore_n n, 1) := by
  obtain ⟨n, hn⟩ := n
  have e : n = 0 ∨ n = 1 ∨ n = 2 ∨ n = 3 := by omega
  rcases e with rfl | rfl | rfl | rfl
  · exact dd_59 a
  · exact dd_60 a
  · exact dd_61 a
  · exact dd_62 a
set_option maxRecDepth 10000 in
theorem dd_30 (a : dAT c p [30]) : decode c p = .ok (.lload_n 0, 1) := by
  refine (d_dec (q := p + 1) ?_).trans (by rw [Nat.add_sub_cancel_left])
  unfold Decoder.instr
  refine (d_bind (d_u1 (d_at0 a))).trans ?_
  rfl
set_option maxRecDepth 10000 in
theorem dd_31 (a : dAT c p [31]) : decode c p = .ok (.lload_n 1, 1) := by
  refine (d_dec (q := p + 1) ?_).trans (by rw [Nat.add_sub_cancel_left])
  unfold Decoder.instr
  refine (d_bind (d_u1 (d_at0 a))).trans ?_
  rfl
set_option maxRecDepth 10000 in
theorem dd_32 (a : dAT c p [32]) : decode c p = .ok (.lload_n 2, 1) := by
  refine (d_dec (q := p + 1) ?_).trans (by rw [Nat.add_sub_cancel_left])
  unfold Decoder.instr
  refine (d_bind (d_u1 (d_at0 a))).trans ?_
  rfl
set_option maxRecDepth 10000 in
theorem dd_33 (a : dAT c p [33]) : decode c p = .ok (.lload_n 3, 1) := by
  refine (d_dec (q := p + 1) ?_).trans (by rw [Nat.add_sub_cancel_left])
  unfold Decoder.instr
  refine (d_bind (d_u1 (d_at0 a))).trans ?_
  rfl
theorem dn_30 {n : Fin 4} (a : dAT c p [30 + n.val]) : decode c p = .ok (.lload_n n, 1) := by
  obtain ⟨n, hn⟩ := n
  have e : n = 0 ∨ n = 1 ∨ n = 2 ∨ n = 3 := by omega
  rcases e with rfl | rfl | rfl | rfl
  · exact dd_30 a
  · exact dd_31 a
  · exact dd_32 a
  · exact dd_33 a
set_option maxRecDepth 10000 in
theorem dd_63 (a : dAT c p [63]) : decode c p = .ok (.lstore_n 0, 1) := by
  refine (d_dec (q := p + 1) ?_).trans (by rw [Nat.add_sub_cancel_left])
  unfold Decoder.instr
  refine (d_bind (d_u1 (d_at0 a))).trans ?_
  rfl
set_option maxRecDepth 10000 in
theorem dd_64 (a : dAT c p [64]) : decode c p = .ok (.lstore_n 1, 1) := by
  refine (d_dec (q := p + 1) ?_).trans (by rw [Nat.add_sub_cancel_left])
  unfold Decoder.instr
  refine (d_bind (d_u1 (d_at0 a))).trans ?_
  rfl
set_option maxRecDepth 10000 in
theorem dd_65 (a : dAT c p [65]) : decode c p = .ok (.lstore_n 2, 1) := by
  refine (d_dec (q := p + 1) ?_).trans (by rw [Nat.add_sub_cancel_left])
  unfold Decoder.instr
  refine (d_bind (d_u1 (d_at0 a))).trans ?_
  rfl
set_option maxRecDepth 10000 in
theorem dd_66 (a : dAT c p [66]) : decode c p = .ok (.lstore_n 3, 1) := by
  refine (d_dec (q := p + 1) ?_).trans (by rw [Nat.add_sub_cancel_left])
  unfold Decoder.instr
  refine (d_bind (d_u1 (d_at0 a))).trans ?_
  rfl
theorem dn_63 {n : Fin 4} (a : dAT c p [63 + n.val]) : decode c p = .ok (.lstore_n n, 1) := by
  obtain ⟨n, hn⟩ := n
  have e : n = 0 ∨ n = 1 ∨ n = 2 ∨ n = 3 := by omega
  rcases e with rfl | rfl | rfl | rfl
  · exact dd_63 a
  · exact dd_64 a
  · exact dd_65 a
  · exact dd_66 a
set_option maxRecDepth 10000 in
theorem dd_9 (a : dAT c p [9]) : decode c p = .ok (.lconst 0, 1) := by
  refine (d_dec (q := p + 1) ?_).trans (by rw [Nat.add_sub_cancel_left])
  unfold Decoder.instr
  refine (d_bind (d_u1 (d_at0 a))).trans ?_
  rfl
set_option maxRecDepth 10000 in
theorem dd_10 (a : dAT c p [10]) : decode c p = .ok (.lconst 1, 1) := by
  refine (d_dec (q := p + 1) ?_).trans (by rw [Nat.add_sub_cancel_left])
  unfold Decoder.instr
  refine (d_bind (d_u1 (d_at0 a))).trans ?_
  rfl
theorem dn_9 {n : Fin 2} (a : dAT c p [9 + n.val]) : decode c p = .ok (.lconst n, 1) := by
  obtain ⟨n, hn⟩ := n
  have e : n = 0 ∨ n = 1 := by omega
  rcases e with rfl | rfl
  · exact dd_9 a
  · exact dd_10 a
set_option maxRecDepth 10000 in
theorem dd_2 (a : dAT c p [2]) : decode c p = .ok (.iconst (-1), 1) := by
  refine (d_dec (q := p + 1) ?_).trans (by rw [Nat.add_sub_cancel_left])
  unfold Decoder.instr
  refine (d_bind (d_u1 (d_at0 a))).trans ?_
  rfl
set_option maxRecDepth 10000 in
theorem dd_3 (a : dAT c p [3]) : decode c p = .ok (.iconst (0), 1) := by
  refine (d_dec (q := p + 1) ?_).trans (by rw [Nat.add_sub_cancel_left])
  unfold Decoder.instr
  refine (d_bind (d_u1 (d_at0 a))).trans ?_
  rfl
set_option maxRecDepth 10000 in
theorem dd_4 (a : dAT c p [4]) : decode c p = .ok (.iconst (1), 1) := by
  refine (d_dec (q := p + 1) ?_).trans (by rw [Nat.add_sub_cancel_left])
  unfold Decoder.instr
  refine (d_bind (d_u1 (d_at0 a))).trans ?_
  rfl
set_option maxRecDepth 10000 in
theorem dd_5 (a : dAT c p [5]) : decode c p = .ok (.iconst (2), 1) := by
  refine (d_dec (q := p + 1) ?_).trans (by rw [Nat.add_sub_cancel_left])
  unfold Decoder.instr
  refine (d_bind (d_u1 (d_at0 a))).trans ?_
  rfl
set_option maxRecDepth 10000 in
theorem dd_6 (a : dAT c p [6]) : decode c p = .ok (.iconst (3), 1) := by
  refine (d_dec (q := p + 1) ?_).trans (by rw [Nat.add_sub_cancel_left])
  unfold Decoder.instr
  refine (d_bind (d_u1 (d_at0 a))).trans ?_
  rfl
set_option maxRecDepth 10000 in
theorem dd_7 (a : dAT c p [7]) : decode c p = .ok (.iconst (4), 1) := by
  refine (d_dec (q := p + 1) ?_).trans (by rw [Nat.add_sub_cancel_left])
  unfold Decoder.instr
  refine (d_bind (d_u1 (d_at0 a))).trans ?_
  rfl
set_option maxRecDepth 10000 in
theorem dd_8 (a : dAT c p [8]) : decode c p = .ok (.iconst (5), 1) := by
  refine (d_dec (q := p + 1) ?_).trans (by rw [Nat.add_sub_cancel_left])
  unfold Decoder.instr
  refine (d_bind (d_u1 (d_at0 a))).trans ?_
  rfl
set_option maxRecDepth 10000 in
theorem dd_16 {v : Int} (h : -128 ≤ v ∧ v ≤ 127) (a : dAT c p [16, (v % 256).toNat]) : decode c p = .ok (.bipush v, 2) := by
  refine (d_dec (q := p + 2) ?_).trans (by rw [Nat.add_sub_cancel_left])
  unfold Decoder.instr
  refine (d_bind (d_u1 (d_at0 a))).trans ?_
  show (Reader.s1 >>= fun v => pure (Instr.bipush v) : Decoder Instr) c (p + 1) = _
  unfold Reader.s1
  rw [d_bind (d_map (d_u1 (a 1 _ rfl))), d_sg8 h]
  rfl
set_option maxRecDepth 10000 in
theorem dd_17 {v : Int} (h : -32768 ≤ v ∧ v ≤ 32767) (a : dAT c p [17, (v % 65536).toNat / 256, (v % 65536).toNat % 256]) : decode c p = .ok (.sipush v, 3) := by
  refine (d_dec (q := p + 3) ?_).trans (by rw [Nat.add_sub_cancel_left])
  unfold Decoder.instr
  refine (d_bind (d_u1 (d_at0 a))).trans ?_
  show (Reader.s2 >>= fun v => pure (Instr.sipush v) : Decoder Instr) c (p + 1) = _
  unfold Reader.s2
  rw [d_bind (d_map (d_u2 (a 1 _ rfl) (a 2 _ rfl))), d_sg16 h]
  rfl
set_option maxRecDepth 10000 in
theorem dd_132 {i : Nat} {v : Int} (h : -128 ≤ v ∧ v ≤ 127) (a : dAT c p [132, i, (v % 256).toNat]) : decode c p = .ok (.iinc i v, 3) := by
  refine (d_dec (q := p + 3) ?_).trans (by rw [Nat.add_sub_cancel_left])
  unfold Decoder.instr
  refine (d_bind (d_u1 (d_at0 a))).trans ?_
  show (Reader.u1 >>= fun i => Reader.s1 >>= fun v => pure (Instr.iinc i v) : Decoder Instr) c (p + 1) = _
  rw [d_bind (d_u1 (a 1 _ rfl))]
  unfold Reader.s1
  rw [d_bind (d_map (d_u1 (a 2 _ rfl))), d_sg8 h]
  rfl
set_option maxRecDepth 10000 in
theorem dd_188_4 (a : dAT c p [188, 4]) : decode c p = .ok (.newarray .boolean, 2) := by
  refine (d_dec (q := p + 2) ?_).trans (by rw [Nat.add_sub_cancel_left])
  unfold Decoder.instr
  refine (d_bind (d_u1 (d_at0 a))).trans ?_
  show (Decoder.newarray p) c (p + 1) = _
  unfold Decoder.newarray
  rw [d_bind (d_u1 (a 1 _ rfl))]
  rfl
set_option maxRecDepth 10000 in
theorem dd_188_8 (a : dAT c p [188, 8]) : decode c p = .ok (.newarray .byte, 2) := by
  refine (d_dec (q := p + 2) ?_).trans (by rw [Nat.add_sub_cancel_left])
  unfold Decoder.instr
  refine (d_bind (d_u1 (d_at0 a))).trans ?_
  show (Decoder.newarray p) c (p + 1) = _
  unfold Decoder.newarray
  rw [d_bind (d_u1 (a 1 _ rfl))]
  rfl
set_option maxRecDepth 10000 in
theorem dd_188_10 (a : dAT c p [188, 10]) : decode c p = .ok (.newarray .int, 2) := by
  refine (d_dec (q := p + 2) ?_).trans (by rw [Nat.add_sub_cancel_left])
  unfold Decoder.instr
  refine (d_bind (d_u1 (d_at0 a))).trans ?_
  show (Decoder.newarray p) c (p + 1) = _
  unfold Decoder.newarray
  rw [d_bind (d_u1 (a 1 _ rfl))]
  rfl
set_option maxRecDepth 10000 in
theorem dd_188_11 (a : dAT c p [188, 11]) : decode c p = .ok (.newarray .long, 2) := by
  refine (d_dec (q := p + 2) ?_).trans (by rw [Nat.add_sub_cancel_left])
  unfold Decoder.instr
  refine (d_bind (d_u1 (d_at0 a))).trans ?_
  show (Decoder.newarray p) c (p + 1) = _
  unfold Decoder.newarray
  rw [d_bind (d_u1 (a 1 _ rfl))]
  rfl
set_option maxRecDepth 10000 in
theorem dd_197 {i : Nat} (a : dAT c p [197, i / 256, i % 256, 2]) : decode c p = .ok (.multianewarray i 2, 4) := by
  refine (d_dec (q := p + 4) ?_).trans (by rw [Nat.add_sub_cancel_left])
  unfold Decoder.instr
  refine (d_bind (d_u1 (d_at0 a))).trans ?_
  show (Decoder.multianewarray p) c (p + 1) = _
  unfold Decoder.multianewarray
  rw [d_bind (d_u2 (a 1 _ rfl) (a 2 _ rfl)), d_bind (d_u1 (a 3 _ rfl)), d_u16]
  rfl
end DEC
/-- an instruction's bytes -/
def denc : Instr → Option (List Nat)
  | .aaload => some [50]
  | .aastore => some [83]
  | .aconst_null => some [1]
  | .areturn => some [176]
  | .arraylength => some [190]
  | .athrow => some [191]
  | .baload => some [51]
  | .bastore => some [84]
  | .dup => some [89]
  | .dup2 => some [92]
  | .i2b => some [145]
  | .i2l => some [133]
  | .iadd => some [96]
  | .iaload => some [46]
  | .iand => some [126]
  | .iastore => some [79]
  | .idiv => some [108]
  | .imul => some [104]
  | .ineg => some [116]
  | .ior => some [128]
  | .irem => some [112]
  | .ireturn => some [172]
  | .ishl => some [120]
  | .ishr => some [122]
  | .isub => some [100]
  | .iushr => some [124]
  | .ixor => some [130]
  | .l2i => some [136]
  | .ladd => some [97]
  | .laload => some [47]
  | .land => some [127]
  | .lastore => some [80]
  | .lcmp => some [148]
  | .ldiv => some [109]
  | .lmul => some [105]
  | .lor => some [129]
  | .lrem => some [113]
  | .lreturn => some [173]
  | .lshl => some [121]
  | .lshr => some [123]
  | .lsub => some [101]
  | .pop => some [87]
  | .pop2 => some [88]
  | .return_ => some [177]
  | .aload i => some [25, i]
  | .astore i => some [58, i]
  | .iload i => some [21, i]
  | .istore i => some [54, i]
  | .ldc i => some [18, i]
  | .lload i => some [22, i]
  | .lstore i => some [55, i]
  | .anewarray i => some [189, i / 256, i % 256]
  | .getfield i => some [180, i / 256, i % 256]
  | .getstatic i => some [178, i / 256, i % 256]
  | .invokespecial i => some [183, i / 256, i % 256]
  | .invokestatic i => some [184, i / 256, i % 256]
  | .invokevirtual i => some [182, i / 256, i % 256]
  | .ldc2_w i => some [20, i / 256, i % 256]
  | .ldc_w i => some [19, i / 256, i % 256]
  | .new i => some [187, i / 256, i % 256]
  | .putfield i => some [181, i / 256, i % 256]
  | .goto v => if -32768 ≤ v ∧ v ≤ 32767 then some [167, (v % 65536).toNat / 256, (v % 65536).toNat % 256] else none
  | .ifnonnull v => if -32768 ≤ v ∧ v ≤ 32767 then some [199, (v % 65536).toNat / 256, (v % 65536).toNat % 256] else none
  | .ifnull v => if -32768 ≤ v ∧ v ≤ 32767 then some [198, (v % 65536).toNat / 256, (v % 65536).toNat % 256] else none
  | .ifCond .eq v => if -32768 ≤ v ∧ v ≤ 32767 then some [153, (v % 65536).toNat / 256, (v % 65536).toNat % 256] else none
  | .ifCond .ne v => if -32768 ≤ v ∧ v ≤ 32767 then some [154, (v % 65536).toNat / 256, (v % 65536).toNat % 256] else none
  | .ifCond .lt v => if -32768 ≤ v ∧ v ≤ 32767 then some [155, (v % 65536).toNat / 256, (v % 65536).toNat % 256] else none
  | .ifCond .ge v => if -32768 ≤ v ∧ v ≤ 32767 then some [156, (v % 65536).toNat / 256, (v % 65536).toNat % 256] else none
  | .ifCond .gt v => if -32768 ≤ v ∧ v ≤ 32767 then some [157, (v % 65536).toNat / 256, (v % 65536).toNat % 256] else none
  | .ifCond .le v => if -32768 ≤ v ∧ v ≤ 32767 then some [158, (v % 65536).toNat / 256, (v % 65536).toNat % 256] else none
  | .if_icmp .eq v => if -32768 ≤ v ∧ v ≤ 32767 then some [159, (v % 65536).toNat / 256, (v % 65536).toNat % 256] else none
  | .if_icmp .ne v => if -32768 ≤ v ∧ v ≤ 32767 then some [160, (v % 65536).toNat / 256, (v % 65536).toNat % 256] else none
  | .if_icmp .lt v => if -32768 ≤ v ∧ v ≤ 32767 then some [161, (v % 65536).toNat / 256, (v % 65536).toNat % 256] else none
  | .if_icmp .ge v => if -32768 ≤ v ∧ v ≤ 32767 then some [162, (v % 65536).toNat / 256, (v % 65536).toNat % 256] else none
  | .if_icmp .gt v => if -32768 ≤ v ∧ v ≤ 32767 then some [163, (v % 65536).toNat / 256, (v % 65536).toNat % 256] else none
  | .if_icmp .le v => if -32768 ≤ v ∧ v ≤ 32767 then some [164, (v % 65536).toNat / 256, (v % 65536).toNat % 256] else none
  | .if_acmp .eq v => if -32768 ≤ v ∧ v ≤ 32767 then some [165, (v % 65536).toNat / 256, (v % 65536).toNat % 256] else none
  | .if_acmp .ne v => if -32768 ≤ v ∧ v ≤ 32767 then some [166, (v % 65536).toNat / 256, (v % 65536).toNat % 256] else none
  | .aload_n n => some [42 + n.val]
  | .astore_n n => some [75 + n.val]
  | .iload_n n => some [26 + n.val]
  | .istore_n n => some [59 + n.val]
  | .lload_n n => some [30 + n.val]
  | .lstore_n n => some [63 + n.val]
  | .lconst n => some [9 + n.val]
  | .iconst v => if v = -1 then some [2] else if v = 0 then some [3] else if v = 1 then some [4] else if v = 2 then some [5] else if v = 3 then some [6] else if v = 4 then some [7] else if v = 5 then some [8] else none
  | .bipush v => if -128 ≤ v ∧ v ≤ 127 then some [16, (v % 256).toNat] else none
  | .sipush v => if -32768 ≤ v ∧ v ≤ 32767 then some [17, (v % 65536).toNat / 256, (v % 65536).toNat % 256] else none
  | .iinc i v => if -128 ≤ v ∧ v ≤ 127 then some [132, i, (v % 256).toNat] else none
  | .newarray .boolean => some [188, 4]
  | .newarray .byte => some [188, 8]
  | .newarray .int => some [188, 10]
  | .newarray .long => some [188, 11]
  | .multianewarray i n => if n = 2 then some [197, i / 256, i % 256, 2] else none
  | _ => none
theorem denc_ok {c : ByteArray} {p : Nat} (x : Instr) (ks : List Nat) (h : denc x = some ks) (a : dAT c p ks) : decode c p = .ok (x, ks.length) := by
  unfold denc at h
  split at h
  · cases h
    exact dd_50 a
  · cases h
    exact dd_83 a
  · cases h
    exact dd_1 a
  · cases h
    exact dd_176 a
  · cases h
    exact dd_190 a
  · cases h
    exact dd_191 a
  · cases h
    exact dd_51 a
  · cases h
    exact dd_84 a
  · cases h
    exact dd_89 a
  · cases h
    exact dd_92 a
  · cases h
    exact dd_145 a
  · cases h
    exact dd_133 a
  · cases h
    exact dd_96 a
  · cases h
    exact dd_46 a
  · cases h
    exact dd_126 a
  · cases h
    exact dd_79 a
  · cases h
    exact dd_108 a
  · cases h
    exact dd_104 a
  · cases h
    exact dd_116 a
  · cases h
    exact dd_128 a
  · cases h
    exact dd_112 a
  · cases h
    exact dd_172 a
  · cases h
    exact dd_120 a
  · cases h
    exact dd_122 a
  · cases h
    exact dd_100 a
  · cases h
    exact dd_124 a
  · cases h
    exact dd_130 a
  · cases h
    exact dd_136 a
  · cases h
    exact dd_97 a
  · cases h
    exact dd_47 a
  · cases h
    exact dd_127 a
  · cases h
    exact dd_80 a
  · cases h
    exact dd_148 a
  · cases h
    exact dd_109 a
  · cases h
    exact dd_105 a
  · cases h
    exact dd_129 a
  · cases h
    exact dd_113 a
  · cases h
    exact dd_173 a
  · cases h
    exact dd_121 a
  · cases h
    exact dd_123 a
  · cases h
    exact dd_101 a
  · cases h
    exact dd_87 a
  · cases h
    exact dd_88 a
  · cases h
    exact dd_177 a
  · cases h
    exact dd_25 a
  · cases h
    exact dd_58 a
  · cases h
    exact dd_21 a
  · cases h
    exact dd_54 a
  · cases h
    exact dd_18 a
  · cases h
    exact dd_22 a
  · cases h
    exact dd_55 a
  · cases h
    exact dd_189 a
  · cases h
    exact dd_180 a
  · cases h
    exact dd_178 a
  · cases h
    exact dd_183 a
  · cases h
    exact dd_184 a
  · cases h
    exact dd_182 a
  · cases h
    exact dd_20 a
  · cases h
    exact dd_19 a
  · cases h
    exact dd_187 a
  · cases h
    exact dd_181 a
  · split at h
    · next g =>
      cases h
      exact dd_167 g a
    · cases h
  · split at h
    · next g =>
      cases h
      exact dd_199 g a
    · cases h
  · split at h
    · next g =>
      cases h
      exact dd_198 g a
    · cases h
  · split at h
    · next g =>
      cases h
      exact dd_153 g a
    · cases h
  · split at h
    · next g =>
      cases h
      exact dd_154 g a
    · cases h
  · split at h
    · next g =>
      cases h
      exact dd_155 g a
    · cases h
  · split at h
    · next g =>
      cases h
      exact dd_156 g a
    · cases h
  · split at h
    · next g =>
      cases h
      exact dd_157 g a
    · cases h
  · split at h
    · next g =>
      cases h
      exact dd_158 g a
    · cases h
  · split at h
    · next g =>
      cases h
      exact dd_159 g a
    · cases h
  · split at h
    · next g =>
      cases h
      exact dd_160 g a
    · cases h
  · split at h
    · next g =>
      cases h
      exact dd_161 g a
    · cases h
  · split at h
    · next g =>
      cases h
      exact dd_162 g a
    · cases h
  · split at h
    · next g =>
      cases h
      exact dd_163 g a
    · cases h
  · split at h
    · next g =>
      cases h
      exact dd_164 g a
    · cases h
  · split at h
    · next g =>
      cases h
      exact dd_165 g a
    · cases h
  · split at h
    · next g =>
      cases h
      exact dd_166 g a
    · cases h
  · cases h
    exact dn_42 a
  · cases h
    exact dn_75 a
  · cases h
    exact dn_26 a
  · cases h
    exact dn_59 a
  · cases h
    exact dn_30 a
  · cases h
    exact dn_63 a
  · cases h
    exact dn_9 a
  · skip
    split at h
    · next g =>
      cases h
      rw [g]
      exact dd_2 a
    · skip
      split at h
      · next g =>
        cases h
        rw [g]
        exact dd_3 a
      · skip
        split at h
        · next g =>
          cases h
          rw [g]
          exact dd_4 a
        · skip
          split at h
          · next g =>
            cases h
            rw [g]
            exact dd_5 a
          · skip
            split at h
            · next g =>
              cases h
              rw [g]
              exact dd_6 a
            · skip
              split at h
              · next g =>
                cases h
                rw [g]
                exact dd_7 a
              · skip
                split at h
                · next g =>
                  cases h
                  rw [g]
                  exact dd_8 a
                · skip
                  cases h
  · split at h
    · next g =>
      cases h
      exact dd_16 g a
    · cases h
  · split at h
    · next g =>
      cases h
      exact dd_17 g a
    · cases h
  · split at h
    · next g =>
      cases h
      exact dd_132 g a
    · cases h
  · cases h
    exact dd_188_4 a
  · cases h
    exact dd_188_8 a
  · cases h
    exact dd_188_10 a
  · cases h
    exact dd_188_11 a
  · split at h
    · next g =>
      cases h
      subst g
      exact dd_197 a
    · cases h
  · cases h
/-- a method's instructions, one behind the other -/
def dchk : List UInt8 → Nat → List (Nat × Instr × Nat) → Bool
  | _, _, [] => true
  | l, p, (q, x, n) :: r => Nat.beq p q && (match denc x with
    | some ks => dkM l ks && Nat.beq n ks.length
    | none => false) && dchk (l.drop n) (p + n) r
theorem dchk_ok {c : ByteArray} : ∀ (m : List (Nat × Instr × Nat)) (p : Nat) (l : List UInt8), c.data.toList.drop p = l → dchk l p m = true → m.all (fun q => decide (decode c q.1 = .ok q.2)) = true
  | [], _, _, _, _ => rfl
  | (q, x, n) :: r, p, l, hl, h => by
    simp only [dchk, Bool.and_eq_true] at h
    obtain ⟨⟨h1, h2⟩, h3⟩ := h
    have e1 := Nat.eq_of_beq_eq_true h1
    subst e1
    split at h2
    · next ks hk =>
      simp only [Bool.and_eq_true] at h2
      have e2 := Nat.eq_of_beq_eq_true h2.2
      have h4 := denc_ok x ks hk (dAT_of hl h2.1)
      have h5 := dchk_ok r (p + n) (l.drop n) (by rw [← hl, List.drop_drop]) h3
      rw [List.all_cons, Bool.and_eq_true]
      refine ⟨decide_eq_true ?_, h5⟩
      rw [e2]
      exact h4
    · cases h2
