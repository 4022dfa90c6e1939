/-! WHAT STANDS AT THE LAW'S ENTRY (own work, over the kit's rows; after p1) -/
def mc_room (i : Nat) : Int32 := [1, 6, 1, 3, 3, 24, 4, 6, 0, 0, 0].getD i 0
def mc_swm (i : Nat) : Int32 := [1, 2, 3, 4, 5, 6, 7, 8, 0, 0, 0].getD i 0
/-- the constants: the script, RESERVED, the switch's map, the enum's constants -/
def mc_kt (L : Nat) (xs : Nat → Int32) (a : Nat) : Option mc_E :=
  if a = 0 then some (.inl (0, L, fun j => .int (xs j)))
  else if a = 1 then some (.inl (7, 11, fun j => .ref (16 + j)))
  else if a = 2 then some (.inl (0, 11, fun j => .int (mc_swm j)))
  else if 16 ≤ a ∧ a < 27 then some (.inr (20, [.ref (16 + a), .int (mc_room (a - 16))]))
  else none
/-! WHAT STANDS AT THE LAW'S ENTRY: the constants, the classes, the words (own work, over the kit's rows) -/
def mc_fl0 : List Cond := flatC (Jvm.Cond.and given_1 narrow_1)
def mc_RE : String := "StrikeAwake$Reserved"
def mc_RD : String := "LStrikeAwake$Reserved;"
def mc_enm : List String := ["LAW", "PERSON", "SEXTON", "APART", "BORN", "STRUCK", "TOLD", "OFFER", "HABIT", "NAP", "AWAY"]
def mc_si (i : Nat) : Nat := [67, 73, 76, 79, 82, 85, 88, 91, 94, 97, 100].getD i 0
theorem mc_at0 {n : Nat} {l : List Cond} {p : Nat → Nat} {w : Nat → Cond} (h : (List.range n).map (fun i => l[p i]?) = (List.range n).map (fun i => some (w i))) (i : Nat) (hi : i < n) : w i ∈ l := List.mem_of_getElem? (List.map_inj_left.mp h i (List.mem_range.mpr hi))
theorem mc_m1_p : (List.range 11).map (fun i => mc_fl0[([39, 71, 43, 80, 90, 101, 113, 126, 48, 54, 61] : List Nat).getD i 0]?) = (List.range 11).map (fun i => some (Cond.exactly (.static mc_RE (mc_enm.getD i "") mc_RD) mc_RE)) := by decide +kernel
theorem mc_m1 : ∀ i, i < 11 → Cond.exactly (.static mc_RE (mc_enm.getD i "") mc_RD) mc_RE ∈ mc_fl0 := fun i h => mc_at0 (p := fun i => ([39, 71, 43, 80, 90, 101, 113, 126, 48, 54, 61] : List Nat).getD i 0) (w := fun i => Cond.exactly (.static mc_RE (mc_enm.getD i "") mc_RD) mc_RE) mc_m1_p i h
theorem mc_m2_p : (List.range 11).map (fun i => mc_fl0[([42, 74, 46, 83, 93, 104, 116, 129, 51, 57, 64] : List Nat).getD i 0]?) = (List.range 11).map (fun i => some (Cond.eq (.field (.static mc_RE (mc_enm.getD i "") mc_RD) mc_RE "room" "I") (.int (mc_room i)))) := by decide +kernel
theorem mc_m2 : ∀ i, i < 11 → Cond.eq (.field (.static mc_RE (mc_enm.getD i "") mc_RD) mc_RE "room" "I") (.int (mc_room i)) ∈ mc_fl0 := fun i h => mc_at0 (p := fun i => ([42, 74, 46, 83, 93, 104, 116, 129, 51, 57, 64] : List Nat).getD i 0) (w := fun i => Cond.eq (.field (.static mc_RE (mc_enm.getD i "") mc_RD) mc_RE "room" "I") (.int (mc_room i))) mc_m2_p i h
theorem mc_m3_p : (List.range 11).map (fun i => mc_fl0[([41, 73, 45, 82, 92, 103, 115, 128, 50, 56, 63] : List Nat).getD i 0]?) = (List.range 11).map (fun i => some (Cond.eq (.field (.static mc_RE (mc_enm.getD i "") mc_RD) mc_RE "word" "Ljava/lang/String;") (.string mc_RE (mc_si i)))) := by decide +kernel
theorem mc_m3 : ∀ i, i < 11 → Cond.eq (.field (.static mc_RE (mc_enm.getD i "") mc_RD) mc_RE "word" "Ljava/lang/String;") (.string mc_RE (mc_si i)) ∈ mc_fl0 := fun i h => mc_at0 (p := fun i => ([41, 73, 45, 82, 92, 103, 115, 128, 50, 56, 63] : List Nat).getD i 0) (w := fun i => Cond.eq (.field (.static mc_RE (mc_enm.getD i "") mc_RD) mc_RE "word" "Ljava/lang/String;") (.string mc_RE (mc_si i))) mc_m3_p i h
def mc_prs : List (Nat × Nat × Nat) := [(0, 1, 75), (0, 2, 47), (0, 3, 84), (0, 4, 94), (0, 5, 105), (0, 6, 117), (0, 7, 130), (0, 8, 52), (0, 9, 58), (0, 10, 65), (1, 3, 89), (1, 4, 99), (1, 5, 110), (1, 6, 122), (1, 7, 135), (2, 1, 76), (2, 3, 85), (2, 4, 95), (2, 5, 106), (2, 6, 118), (2, 7, 131), (2, 8, 53), (2, 9, 59), (2, 10, 66), (3, 4, 100), (3, 5, 111), (3, 6, 123), (3, 7, 136), (4, 5, 112), (4, 6, 124), (4, 7, 137), (5, 6, 125), (5, 7, 138), (6, 7, 139), (8, 1, 77), (8, 3, 86), (8, 4, 96), (8, 5, 107), (8, 6, 119), (8, 7, 132), (8, 9, 60), (8, 10, 67), (9, 1, 78), (9, 3, 87), (9, 4, 97), (9, 5, 108), (9, 6, 120), (9, 7, 133), (9, 10, 68), (10, 1, 79), (10, 3, 88), (10, 4, 98), (10, 5, 109), (10, 6, 121), (10, 7, 134)]
def mc_pw (i j : Nat) : Cond := .not (.eq (.static mc_RE (mc_enm.getD i "") mc_RD) (.static mc_RE (mc_enm.getD j "") mc_RD))
theorem mc_m4_p : mc_prs.map (fun q => mc_fl0[q.2.2]?) = mc_prs.map (fun q => some (mc_pw q.1 q.2.1)) := by decide +kernel
theorem mc_m4_q : (List.range 11).all (fun i => (List.range 11).all (fun j => i == j || mc_prs.any (fun q => (q.1 == i && q.2.1 == j) || (q.1 == j && q.2.1 == i)))) = true := by decide +kernel
theorem mc_m4 : ∀ i, i < 11 → ∀ j, j < 11 → i ≠ j → (Cond.not (.eq (.static mc_RE (mc_enm.getD i "") mc_RD) (.static mc_RE (mc_enm.getD j "") mc_RD)) ∈ mc_fl0 ∨ Cond.not (.eq (.static mc_RE (mc_enm.getD j "") mc_RD) (.static mc_RE (mc_enm.getD i "") mc_RD)) ∈ mc_fl0) := fun i hi j hj hne => by
  have h := List.all_eq_true.mp (List.all_eq_true.mp mc_m4_q i (List.mem_range.mpr hi)) j (List.mem_range.mpr hj)
  rw [Bool.or_eq_true] at h
  rcases h with h | h
  · exact absurd (eq_of_beq h) hne
  · obtain ⟨q, hq, h⟩ := List.any_eq_true.mp h
    have g : mc_pw q.1 q.2.1 ∈ mc_fl0 := List.mem_of_getElem? (List.map_inj_left.mp mc_m4_p q hq)
    simp only [Bool.or_eq_true, Bool.and_eq_true, beq_iff_eq] at h
    rcases h with ⟨e1, e2⟩ | ⟨e1, e2⟩
    · rw [e1, e2] at g
      exact Or.inl g
    · rw [e1, e2] at g
      exact Or.inr g
def mc_tR : Term := .static "StrikeAwake" "RESERVED" "[LStrikeAwake$Reserved;"
def mc_tS : Term := .static "StrikeAwake$1" "$SwitchMap$StrikeAwake$Reserved" "[I"
theorem mc_m5 : Cond.arrayOf mc_tR (.object mc_RE) ∈ mc_fl0 ∧ Cond.eq (.length mc_tR) (.int 11) ∈ mc_fl0 ∧ Cond.arrayOf mc_tS .int ∈ mc_fl0 ∧ Cond.eq (.length mc_tS) (.int 11) ∈ mc_fl0 := by decide +kernel
theorem mc_m6_p : (List.range 11).map (fun i => mc_fl0[([9, 10, 11, 12, 13, 14, 15, 16, 17, 18, 19] : List Nat).getD i 0]?) = (List.range 11).map (fun i => some (Cond.eq (.elem mc_tR (.int (Int32.ofNat i))) (.static mc_RE (mc_enm.getD i "") mc_RD))) := by decide +kernel
theorem mc_m6 : ∀ i, i < 11 → Cond.eq (.elem mc_tR (.int (Int32.ofNat i))) (.static mc_RE (mc_enm.getD i "") mc_RD) ∈ mc_fl0 := fun i h => mc_at0 (p := fun i => ([9, 10, 11, 12, 13, 14, 15, 16, 17, 18, 19] : List Nat).getD i 0) (w := fun i => Cond.eq (.elem mc_tR (.int (Int32.ofNat i))) (.static mc_RE (mc_enm.getD i "") mc_RD)) mc_m6_p i h
theorem mc_m7_p : (List.range 11).map (fun i => mc_fl0[([28, 29, 30, 31, 32, 33, 34, 35, 36, 37, 38] : List Nat).getD i 0]?) = (List.range 11).map (fun i => some (Cond.eq (.elem mc_tS (.int (Int32.ofNat i))) (.int (mc_swm i)))) := by decide +kernel
theorem mc_m7 : ∀ i, i < 11 → Cond.eq (.elem mc_tS (.int (Int32.ofNat i))) (.int (mc_swm i)) ∈ mc_fl0 := fun i h => mc_at0 (p := fun i => ([28, 29, 30, 31, 32, 33, 34, 35, 36, 37, 38] : List Nat).getD i 0) (w := fun i => Cond.eq (.elem mc_tS (.int (Int32.ofNat i))) (.int (mc_swm i))) mc_m7_p i h
def mc_p8 : List (Nat × Nat) := [(64, 152), (65, 161), (66, 171), (67, 178), (68, 185), (69, 191), (70, 199), (71, 205), (72, 237), (73, 244), (74, 254), (75, 265), (76, 273), (77, 283), (78, 293), (79, 302), (80, 310), (81, 320), (82, 328), (83, 337), (84, 346), (85, 353), (86, 361), (87, 369), (88, 376), (89, 385), (32, 392), (34, 400), (40, 411), (41, 421), (42, 429), (33, 438), (35, 449), (36, 459), (37, 468), (38, 479), (39, 488)]
theorem mc_m8_p : mc_sr.map (fun e => mc_fl0[(mc_find mc_p8 e.2.2.2.1).getD 0]?) = mc_sr.map (fun e => some (Cond.exactly (.string (mc_cn e.1) e.2.1) "java/lang/String")) := by decide +kernel
theorem mc_m8 : ∀ e ∈ mc_sr, Cond.exactly (.string (mc_cn e.1) e.2.1) "java/lang/String" ∈ mc_fl0 := fun e he => List.mem_of_getElem? (List.map_inj_left.mp mc_m8_p e he)
theorem mc_m9 : ∀ e ∈ mc_sr, ∀ e' ∈ mc_sr, e.2.2.2.1 = e'.2.2.2.1 → e = e' := by decide +kernel
theorem mc_m10 : ∀ e ∈ mc_sr, 27 ≤ e.2.2.2.1 ∧ e.2.2.2.1 < 256 := by decide +kernel
theorem mc_m11 : ∀ i, i < 11 → ∃ e ∈ mc_sr, e.2.2.2.1 = 32 + i ∧ mc_cn e.1 = mc_RE ∧ e.2.1 = mc_si i := by decide +kernel
/-- what two words that are the same have in common, without a string -/
def mc_tg (w : Cond) : Nat := match w with
  | .classLink _ i _ => 10000 + i
  | .methodLink _ i _ => 20000 + i
  | .fieldLink _ i _ _ _ => 30000 + i
  | .instanceMethod _ => 2
  | .lays _ _ _ _ => 3
  | .selects _ _ _ => 4
  | .static _ => 5
  | .initialized _ => 6
  | .laysStatic _ _ _ => 7
  | _ => 0
def mc_ls (w : Cond) (l : List Cond) : Bool := l.any (fun x => (mc_tg x == mc_tg w) && decide (x = w))
theorem mc_ls_in {w : Cond} {l : List Cond} (h : mc_ls w l = true) : w ∈ l := by
  obtain ⟨x, h1, h2⟩ := List.any_eq_true.mp h
  rw [Bool.and_eq_true] at h2
  rw [← of_decide_eq_true h2.2]
  exact h1
def mc_pa : List (Nat × Nat × Nat) := [(1, 3, 14), (2, 3, 76), (16, 3, 84), (17, 9, 117), (18, 3, 86), (19, 9, 118), (20, 9, 119), (21, 9, 120), (22, 9, 121), (23, 9, 122), (24, 3, 134), (25, 3, 136), (26, 3, 142)]
def mc_pb : List (Nat × Nat × Nat) := [(1, 1, 1), (2, 1, 16), (16, 1, 18), (17, 1, 18), (18, 1, 18), (19, 1, 18), (20, 1, 18), (21, 1, 18), (22, 1, 18), (23, 1, 18), (24, 1, 18), (25, 1, 18), (26, 1, 18)]
theorem mc_m12a : mc_st.map (fun e => (mc_ch ((mc_find mc_pa e.2.2.2).getD (0, 0)).1)[((mc_find mc_pa e.2.2.2).getD (0, 0)).2]?) = mc_st.map (fun e => some (Cond.laysStatic e.1 e.2.1 e.2.2.1)) := by decide +kernel
theorem mc_m12b : mc_st.map (fun e => (mc_ch ((mc_find mc_pb e.2.2.2).getD (0, 0)).1)[((mc_find mc_pb e.2.2.2).getD (0, 0)).2]?) = mc_st.map (fun e => some (Cond.initialized e.1)) := by decide +kernel
theorem mc_tb_mem {i : Nat × Nat} {w : Cond} {n : Bool} (h : mc_tb i w n = true) : w ∈ lw_tbl := by
  simp only [mc_tb, Bool.and_eq_true, decide_eq_true_eq] at h
  exact mc_ch_sub _ _ (List.mem_of_getElem? h.1)
theorem mc_k1 {args : Array Value} {s : State} {ty : FieldType} (hp : ∀ C, ty ≠ .object C) (h : (Cond.arrayClass ty).before args s = true) : ∃ cA : ClassId, ArrOfT s cA ty ∧ va_RA s cA ty := by
  obtain ⟨c, kA, comp, h1, h2, h3⟩ := Cond.arrayClass_spec h
  refine ⟨c, fun N z => ⟨(fun k h => by cases h), kA, h2, comp, h3⟩, ?_⟩
  cases ty with
  | object C => exact absurd rfl (hp C)
  | _ => exact h1
theorem mc_k2 {args : Array Value} {s : State} {C : String} (h : (Cond.arrayOver (.object C)).before args s = true) : ∃ cA : ClassId, ArrOfT s cA (.object C) ∧ va_RA s cA (.object C) := by
  obtain ⟨comp, c, kA, h1, h2, h3, h4, h5⟩ := Cond.arrayOver_spec h
  exact ⟨c, fun N z => ⟨(fun k h => by cases h), kA, h3, comp, h4⟩, kA, comp, h3, h4, h1, h5⟩
theorem mc_k3 {args : Array Value} {s : State} {t : FieldType} (h : (Cond.arrayOver (.array t)).before args s = true) : ∃ cA : ClassId, ArrOfT s cA (.array t) ∧ va_RA s cA (.array t) := by
  obtain ⟨comp, c, kA, h1, h2, h3, h4⟩ := Cond.arrayOver_specA h
  exact ⟨c, fun N z => ⟨(fun k h => by cases h), kA, h2, comp, h3⟩, h4⟩
theorem mc_m14 : mc_st = ("StrikeAwake", "RESERVED", "[LStrikeAwake$Reserved;", 1) :: ("StrikeAwake$1", "$SwitchMap$StrikeAwake$Reserved", "[I", 2) :: (List.range 11).map (fun i => (mc_RE, mc_enm.getD i "", mc_RD, 16 + i)) := by decide +kernel
theorem mc_m15 {e : String × String × String × Nat} (h : e ∈ mc_st) : Cond.laysStatic e.1 e.2.1 e.2.2.1 ∈ lw_tbl ∧ Cond.initialized e.1 ∈ lw_tbl := by
  exact ⟨mc_ch_sub _ _ (List.mem_of_getElem? (List.map_inj_left.mp mc_m12a e h)), mc_ch_sub _ _ (List.mem_of_getElem? (List.map_inj_left.mp mc_m12b e h))⟩
theorem mc_m16 {i : Nat} (h : i < 11) : (mc_RE, mc_enm.getD i "", mc_RD, 16 + i) ∈ mc_st := by
  rw [mc_m14]
  exact List.mem_cons_of_mem _ (List.mem_cons_of_mem _ (List.mem_map.mpr ⟨i, List.mem_range.mpr h, rfl⟩))
theorem mc_m17 : mc_fr 20 0 = (mc_RE, "word", "Ljava/lang/String;") ∧ mc_fr 20 1 = (mc_RE, "room", "I") := by decide +kernel
def mc_ad (b tR tS : Nat) (ad0 aS : Nat → Nat) (k : Nat) : Nat := if k = 0 then b else if k = 1 then tR else if k = 2 then tS else if 16 ≤ k ∧ k < 27 then ad0 (k - 16) else aS k
theorem mc_ad_en {b tR tS : Nat} {ad0 aS : Nat → Nat} {i : Nat} (h : i < 11) : mc_ad b tR tS ad0 aS (16 + i) = ad0 i := by
  unfold mc_ad
  rw [if_neg (by omega), if_neg (by omega), if_neg (by omega), if_pos (by omega), Nat.add_sub_cancel_left]
theorem mc_ad_st {b tR tS : Nat} {ad0 aS : Nat → Nat} {k : Nat} (h : 27 ≤ k) : mc_ad b tR tS ad0 aS k = aS k := by
  unfold mc_ad
  rw [if_neg (by omega), if_neg (by omega), if_neg (by omega), if_neg (by omega)]
theorem va_T.re {ty : FieldType} {t N : Nat} {f g : Nat → Value} {A : Nat → Prop} {U : State} {H : Heap} (h : va_T ty t N f A U H) (e : ∀ j, j < N → f j = g j) : va_T ty t N g A U H := by
  obtain ⟨cell, h1, h2, h3, h4, h5, h6, h7⟩ := h
  exact ⟨cell, h1, h2, h3, h4, h5, fun j hj => by rw [← e j hj]; exact h6 j hj, h7⟩
def mc_vT (e : Nat × Nat) : Term := .string (mc_cn e.1) e.2
def mc_vF (t : Term) : Term := .field t "java/lang/String" "value" "[B"
def mc_sp : List (Nat × Nat × Nat × Nat) := [(32, 12, 67, 392), (33, 12, 73, 438), (34, 12, 76, 400), (35, 12, 79, 449), (36, 12, 82, 459), (37, 12, 85, 468), (38, 12, 88, 479), (39, 12, 91, 488), (40, 12, 94, 411), (41, 12, 97, 421), (42, 12, 100, 429), (64, 1, 114, 152), (65, 1, 123, 161), (66, 1, 125, 171), (67, 1, 152, 178), (68, 1, 262, 185), (69, 1, 170, 191), (70, 1, 236, 199), (71, 0, 322, 205), (72, 9, 140, 237), (73, 9, 215, 244), (74, 9, 220, 254), (75, 9, 224, 265), (76, 9, 142, 273), (77, 9, 144, 283), (78, 9, 146, 293), (79, 9, 148, 302), (80, 9, 150, 310), (81, 9, 152, 320), (82, 9, 154, 328), (83, 9, 156, 337), (84, 9, 158, 346), (85, 9, 160, 353), (86, 9, 232, 361), (87, 9, 233, 369), (88, 9, 238, 376), (89, 9, 298, 385)]
def mc_ex (e : Nat × Nat) (b : List Int32) : List Cond := [.exactly (mc_vT e) "java/lang/String", .eq (.field (mc_vT e) "java/lang/String" "coder" "B") (.int 0), .arrayOf (mc_vF (mc_vT e)) .byte, .eq (.length (mc_vF (mc_vT e))) (.int (Int32.ofNat b.length))] ++ (List.range b.length).map (fun j => .eq (.elem (mc_vF (mc_vT e)) (.int (Int32.ofNat j))) (.int (b.getD j 0)))
def mc_tk (q : Nat × List Int32) : Bool := match mc_find mc_sp q.1 with
  | some e => decide ((mc_fl0.drop e.2.2).take (4 + q.2.length) = mc_ex (e.1, e.2.1) q.2) && decide (27 ≤ q.1) && mc_sr.any (fun x => x.1 == e.1 && x.2.1 == e.2.1 && x.2.2.2.1 == q.1)
  | none => false
theorem mc_m18_0 : ((mc_sb.drop 0).take 8).all mc_tk = true := by decide +kernel
theorem mc_m18_8 : ((mc_sb.drop 8).take 8).all mc_tk = true := by decide +kernel
theorem mc_m18_16 : ((mc_sb.drop 16).take 8).all mc_tk = true := by decide +kernel
theorem mc_m18_24 : ((mc_sb.drop 24).take 8).all mc_tk = true := by decide +kernel
theorem mc_m18_32 : ((mc_sb.drop 32).take 8).all mc_tk = true := by decide +kernel
theorem mc_m18 : ∀ q ∈ mc_sb, mc_tk q = true := by
  have h : mc_sb = (mc_sb.drop 0).take 8 ++ ((mc_sb.drop 8).take 8 ++ ((mc_sb.drop 16).take 8 ++ ((mc_sb.drop 24).take 8 ++ (mc_sb.drop 32).take 8))) := by decide +kernel
  intro q hq
  rw [h] at hq
  simp only [List.mem_append] at hq
  rcases hq with hq | hq | hq | hq | hq
  · exact List.all_eq_true.mp mc_m18_0 q hq
  · exact List.all_eq_true.mp mc_m18_8 q hq
  · exact List.all_eq_true.mp mc_m18_16 q hq
  · exact List.all_eq_true.mp mc_m18_24 q hq
  · exact List.all_eq_true.mp mc_m18_32 q hq
theorem mc_ex_in {q : Nat × List Int32} {e : Nat × Nat × Nat} (h : (mc_fl0.drop e.2.2).take (4 + q.2.length) = mc_ex (e.1, e.2.1) q.2) {w : Cond} (hw : w ∈ mc_ex (e.1, e.2.1) q.2) : w ∈ mc_fl0 := by
  rw [← h] at hw
  exact List.mem_of_mem_drop (List.mem_of_mem_take hw)
theorem mc_m19_p : (List.range 11).map (fun i => mc_fl0[([40, 72, 44, 81, 91, 102, 114, 127, 49, 55, 62] : List Nat).getD i 0]?) = (List.range 11).map (fun i => some (Cond.eq (.field (.static mc_RE (mc_enm.getD i "") mc_RD) "java/lang/Enum" "ordinal" "I") (.int (Int32.ofNat i)))) := by decide +kernel
theorem mc_m19 : ∀ i, i < 11 → Cond.eq (.field (.static mc_RE (mc_enm.getD i "") mc_RD) "java/lang/Enum" "ordinal" "I") (.int (Int32.ofNat i)) ∈ mc_fl0 := fun i h => mc_at0 (p := fun i => ([40, 72, 44, 81, 91, 102, 114, 127, 49, 55, 62] : List Nat).getD i 0) (w := fun i => Cond.eq (.field (.static mc_RE (mc_enm.getD i "") mc_RD) "java/lang/Enum" "ordinal" "I") (.int (Int32.ofNat i))) mc_m19_p i h
def mc_tC : Term := .static "java/lang/String" "COMPACT_STRINGS" "Z"
theorem mc_m20 : Cond.eq mc_tC (.int 1) ∈ mc_fl0 := by decide +kernel
def mc_tQ : Term := .static "jdk/internal/util/Preconditions" "SIOOBE_FORMATTER" "Ljava/util/function/BiFunction;"
theorem mc_m21 : Cond.isRef mc_tQ ∈ mc_fl0 := by decide +kernel
theorem mc_m22 : [Cond.laysStatic "java/lang/String" "COMPACT_STRINGS" "Z", .initialized "java/lang/String", .laysStatic "jdk/internal/util/Preconditions" "SIOOBE_FORMATTER" "Ljava/util/function/BiFunction;", .initialized "jdk/internal/util/Preconditions"].all (fun w => mc_ls w lw_tbl) = true := by decide +kernel
theorem mc_oof {args : Array Value} {s : State} {t : Term} {a : Nat} {C : String} {A : Nat → Prop} (h : (Cond.exactly t C).before args s = true) (ht : t.eval args s none [] s = some (.ref a)) (hA : ∀ a : Nat, a < s.heap.size → ¬ A a) : va_O C a A s s.heap := by
  obtain ⟨a', c, cA, kA, q1, q2, q3, q4, q5, q6, -⟩ := Cond.exactly_spec (args := args) (first := s) (o := none) (s := s) (idx := []) (t := t) (cls := C) h
  rw [ht] at q1
  cases q1
  exact ⟨cA, q3, q5, by rw [q6]; exact q2, hA a (Array.getElem?_eq_some_iff.mp q3).1⟩
theorem mc_start {s : State} {b L : Nat} {xs : Nat → Int32} (hL : L ≤ 3072) (hts : ∀ w ∈ lw_tbl, w.before #[Value.ref b] s = true) (hX : va_X b L xs s s.heap) (hbl : b < s.heap.size) (hgv : (Jvm.Cond.and given_1 narrow_1).before #[Value.ref b] s = true) : ∃ G : mc_G, G.2.1 = s.heap.size ∧ G.1 0 = b ∧ mc_B (mc_kt L xs) G s s.heap := by
  have hfl : ∀ w ∈ mc_fl0, w.before #[Value.ref b] s = true := flat_of_before _ hgv
  have hcls : ∀ ci : Nat, ∃ q : ClassId × (Nat → Nat), ci < 11 → u_Kn s (mc_cn ci) (mc_T ci) (mc_N.getD ci 0) q.1 q.2 := by
    intro ci
    by_cases h : ci < 11
    · obtain ⟨cC, iS, h1⟩ := u_known (ws := mc_ws) (fun w hw => hts w (mc_ws_sub w hw)) (mc_in_ws h) (hts _ (mc_ws_sub _ (mc_inst h).1))
      exact ⟨(cC, iS), fun _ => h1⟩
    · exact ⟨(0, fun _ => 0), fun h' => absurd h' h⟩
  obtain ⟨dC, hdC⟩ := Classical.axiomOfChoice hcls
  have hty : ∀ t : Nat, ∃ cA : ClassId, t < 7 → ArrOfT s cA (mc_ty t) ∧ va_RA s cA (mc_ty t) := by
    intro t
    have q0 := mc_k1 (fun C h => by cases h) (hts _ (mc_ws_sub _ (mc_at_mem mc_ac_int)))
    have q1 := mc_k1 (fun C h => by cases h) (hts _ (mc_ws_sub _ (mc_at_mem mc_ac_long)))
    have q2 := mc_k1 (fun C h => by cases h) (hts _ (mc_ws_sub _ (mc_at_mem mc_ac_byte)))
    have q3 := mc_k1 (fun C h => by cases h) (hts _ (mc_ws_sub _ (mc_at_mem mc_ac_boolean)))
    have q4 := mc_k2 (hts _ (mc_tb_mem mc_ao_P))
    have q5 := mc_k3 (hts _ (mc_tb_mem mc_ao_I))
    have q6 := mc_k3 (hts _ (mc_tb_mem mc_ao_J))
    match t with
    | 0 => exact q0.imp fun cA h _ => h
    | 1 => exact q1.imp fun cA h _ => h
    | 2 => exact q2.imp fun cA h _ => h
    | 3 => exact q3.imp fun cA h _ => h
    | 4 => exact q4.imp fun cA h _ => h
    | 5 => exact q5.imp fun cA h _ => h
    | 6 => exact q6.imp fun cA h _ => h
    | t + 7 => exact ⟨0, fun h => absurd h (by omega)⟩
  obtain ⟨dA, hdA⟩ := Classical.axiomOfChoice hty
  have hA : ∀ a : Nat, a < s.heap.size → ¬ (fun q : Nat => s.heap.size ≤ q) a := fun a h h' => absurd h (Nat.not_lt.mpr h')
  obtain ⟨ad0, hE, hev⟩ := va_Enof2 (args := #[Value.ref b]) (s := s) (E := mc_RE) (d := mc_RD) (nm := mc_enm) (F := [(mc_RE, "room", "I", (List.range 11).map mc_room)]) (A := fun q : Nat => s.heap.size ≤ q)
    (fun i hi => hts _ (mc_m15 (mc_m16 hi)).1) (hts _ (mc_m15 (mc_m16 (i := 0) (by omega))).2) (fun i hi => hfl _ (mc_m1 i hi))
    (fun q hq i hi => by
      obtain rfl := List.mem_singleton.mp hq
      have h1 := hfl _ (mc_m2 i hi)
      have h2 : ((List.range 11).map mc_room).getD i 0 = mc_room i := by
        have hi' : i < 11 := hi
        rw [List.getD_eq_getElem?_getD, List.getElem?_map, List.getElem?_range hi']
        rfl
      show (Cond.eq (.field (.static mc_RE (mc_enm.getD i "") mc_RD) mc_RE "room" "I") (.int (((List.range 11).map mc_room).getD i 0))).before _ s = true
      rw [h2]
      exact h1)
    (fun i j hi hj hne => (mc_m4 i hi j hj hne).imp (hfl _) (hfl _)) hA
  have hstr : ∀ k : Nat, ∃ a : Nat, ∀ e ∈ mc_sr, e.2.2.2.1 = k → (Term.string (mc_cn e.1) e.2.1).eval #[Value.ref b] s none [] s = some (.ref a) := by
    intro k
    by_cases h : ∃ e ∈ mc_sr, e.2.2.2.1 = k
    · obtain ⟨e, he, hk⟩ := h
      obtain ⟨a, c9, cell, k9, h1, -⟩ := Cond.exactly_spec (hfl _ (mc_m8 e he))
      refine ⟨a, fun e' he' hk' => ?_⟩
      have := mc_m9 e' he' e he (hk'.trans hk.symm)
      rw [this]
      exact h1
    · exact ⟨0, fun e he hk => absurd ⟨e, he, hk⟩ h⟩
  obtain ⟨aS, haS⟩ := Classical.axiomOfChoice hstr
  obtain ⟨hr1, hr2, hs1, hs2⟩ := mc_m5
  obtain ⟨tR, htR, hTR⟩ := va_Tof (f := fun j => .ref (ad0 j)) (N := 11) (by decide) (hfl _ hr1) (va_eqt (hfl _ hr2)) (fun j hj => va_eqv (hfl _ (mc_m6 j hj)) (hev j hj)) hA
  obtain ⟨tS, htS, hTS⟩ := va_Tof (f := fun j => .int (mc_swm j)) (N := 11) (by decide) (hfl _ hs1) (va_eqt (hfl _ hs2)) (fun j hj => va_eqt (hfl _ (mc_m7 j hj))) hA
  refine ⟨(mc_ad b tR tS ad0 aS, s.heap.size, dA, (fun c => (dC c).1, fun c => (dC c).2)), rfl, rfl, ⟨?_, ?_⟩, ⟨?_, ?_, ?_⟩, ⟨?_, ?_, ?_⟩, ⟨?_, ?_, ?_, ?_, ?_⟩, ⟨?_, ?_, ?_, ?_⟩⟩
  · intro c q hq
    rw [mc_cl_eq hq]
    exact hdC c (mc_cl_lt hq)
  · intro k q hq
    obtain ⟨hk, he⟩ := List.getElem?_eq_some_iff.mp hq
    have hk7 : k < 7 := by simpa [mc_tys] using hk
    have he' : (dA k, mc_ty k) = q := by
      rw [← he]
      simp [mc_tys]
    rw [← he']
    exact hdA k hk7
  · exact hts _ (mc_tb_mem mc_ao_P)
  · exact hts _ (mc_tb_mem mc_ao_I)
  · exact hts _ (mc_tb_mem mc_ao_J)
  · intro own r hr e he hn
    obtain ⟨a, i, b9, n, d, x, hw⟩ := mc_fw_nest (own := own) hn
    have h1 := hts _ (mc_tb_mem (mc_each_at mc_fl_ok hr he))
    rw [hw] at h1 ⊢
    exact va_Nw.of rfl h1
  · intro own r hr e he hn
    obtain ⟨a, i, y, x, hw⟩ := mc_mw_nest (own := own) hn
    have h1 := hts _ (mc_tb_mem (mc_each_at mc_ml_ok hr he))
    rw [hw] at h1 ⊢
    exact va_Nw.of rfl h1
  · intro own r hr e he hn
    have h1 := hts _ (mc_tb_mem (mc_each_at mc_sl_ok hr he))
    rcases mc_sw_nest (own := own) hn with ⟨a, i, b9, n, d, x, hw⟩ | hw
    · rw [hw] at h1 ⊢
      exact va_Nw.of rfl h1
    · rw [hw]
      rfl
  · intro j t n f hj
    unfold mc_kt at hj
    split at hj
    · next h0 =>
      cases hj
      subst h0
      obtain ⟨scr, h1, h2, h3, h4, h5⟩ := hX
      exact ⟨scr, h1, h2, h3, Nat.le_of_eq h4.symm, by rw [h4], h5, hA b hbl⟩
    · split at hj
      · next h0 h1 =>
        cases hj
        subst h1
        refine va_T.re hTR fun j hj => ?_
        show Value.ref (ad0 j) = Value.ref (mc_a _ (16 + j))
        rw [mc_a_lo (by omega)]
        show _ = Value.ref (mc_ad b tR tS ad0 aS (16 + j))
        rw [mc_ad_en hj]
      · split at hj
        · next h0 h1 h2 =>
          cases hj
          subst h2
          exact hTS
        · split at hj <;> cases hj
  · intro j ci fs hj
    unfold mc_kt at hj
    split at hj
    · cases hj
    · split at hj
      · cases hj
      · split at hj
        · cases hj
        · split at hj
          · next h3 =>
            cases hj
            obtain ⟨i, rfl⟩ : ∃ i, j = 16 + i := ⟨j - 16, by omega⟩
            have hi : i < 11 := by omega
            intro k v hk
            show va_OF _ _ _ _ (mc_ad b tR tS ad0 aS (16 + i)) _ _ _
            rw [mc_ad_en hi]
            match k, hk with
            | 0, hk =>
              cases hk
              rw [mc_m17.1]
              obtain ⟨e, he, g1, g2, g3⟩ := mc_m11 i hi
              have hst := haS (32 + i) e he g1
              rw [g2, g3] at hst
              show va_OF _ _ _ (Value.ref (mc_a _ (16 + (16 + i)))) _ _ _ _
              rw [mc_a_lo (by omega)]
              show va_OF _ _ _ (Value.ref (mc_ad b tR tS ad0 aS (16 + (16 + i)))) _ _ _ _
              rw [mc_ad_st (by omega), show 16 + (16 + i) = 32 + i by omega]
              exact vk_OFof (hev i hi) (va_eqv (hfl _ (mc_m3 i hi)) hst) hA
            | 1, hk =>
              cases hk
              rw [mc_m17.2, Nat.add_sub_cancel_left]
              exact vk_OFof (hev i hi) (va_eqt (hfl _ (mc_m2 i hi))) hA
            | k + 2, hk => cases hk
          · cases hj
  · intro e he
    have hw := mc_m15 he
    have hk : e.2.2.2 < 256 ∧ (Term.static e.1 e.2.1 e.2.2.1).eval #[Value.ref b] s none [] s = some (.ref (mc_ad b tR tS ad0 aS e.2.2.2)) := by
      rw [mc_m14] at he
      rcases List.mem_cons.mp he with rfl | he
      · exact ⟨by decide, htR⟩
      · rcases List.mem_cons.mp he with rfl | he
        · exact ⟨by decide, htS⟩
        · obtain ⟨i, hi, rfl⟩ := List.mem_map.mp he
          have hi' := List.mem_range.mp hi
          refine ⟨by show 16 + i < 256; omega, ?_⟩
          show _ = some (Value.ref (mc_ad b tR tS ad0 aS (16 + i)))
          rw [mc_ad_en hi']
          exact hev i hi'
    show va_Z e.1 e.2.1 e.2.2.1 (.ref (mc_a _ e.2.2.2)) _ _ _
    rw [mc_a_lo hk.1]
    exact va_Zref (hts _ hw.1) (hts _ hw.2) hk.2 hA
  · intro e he
    have h1 := List.all_eq_true.mp mc_sr_ok e he
    simp only [Bool.and_eq_true, decide_eq_true_eq] at h1
    have h2 := hts _ (mc_ch_sub _ _ (List.mem_of_getElem? h1.1))
    rw [mc_a_lo h1.2]
    show vk_R _ _ _ (mc_ad b tR tS ad0 aS e.2.2.2.1) _
    rw [mc_ad_st (mc_m10 e he).1]
    exact vk_R.of h2 (haS _ e he rfl)
  · intro i j h1 h2 h3 h4 h5
    obtain ⟨i', rfl⟩ : ∃ i', i = 16 + i' := ⟨i - 16, by omega⟩
    obtain ⟨j', rfl⟩ : ∃ j', j = 16 + j' := ⟨j - 16, by omega⟩
    have h6 : mc_ad b tR tS ad0 aS (16 + i') = mc_ad b tR tS ad0 aS (16 + j') := h5
    rw [mc_ad_en (by omega), mc_ad_en (by omega)] at h6
    have := hE.2 i' j' (by show i' < 11; omega) (by show j' < 11; omega) h6
    omega
  · intro k bs hk
    have h1 := mc_m18 _ (mc_find_mem hk)
    unfold mc_tk at h1
    split at h1
    · next e he =>
      simp only [Bool.and_eq_true, decide_eq_true_eq] at h1
      obtain ⟨⟨c1, c6⟩, c7⟩ := h1
      obtain ⟨x, hx1, hx2⟩ := List.any_eq_true.mp c7
      simp only [Bool.and_eq_true, beq_iff_eq] at hx2
      obtain ⟨⟨hx3, hx4⟩, hx5⟩ := hx2
      have hin : ∀ w ∈ mc_ex (e.1, e.2.1) bs, w ∈ mc_fl0 := fun w hw => mc_ex_in (q := (k, bs)) c1 hw
      have hev9 : (mc_vT (e.1, e.2.1)).eval #[Value.ref b] s none [] s = some (.ref (aS k)) := by
        have h2 := haS k x hx1 hx5
        rw [hx3, hx4] at h2
        exact h2
      have hlt : bs.length < 2 ^ 31 := by
        have := (mc_sb_k hk).2.1
        omega
      obtain ⟨v, hv, hT9⟩ := va_Tof (tm := mc_vF (mc_vT (e.1, e.2.1))) (ty := .byte) (f := fun j => .int (bs.getD j 0)) (A := fun q : Nat => s.heap.size ≤ q) hlt (hfl _ (hin _ (by simp [mc_ex]))) (va_eqt (hfl _ (hin _ (by simp [mc_ex])))) (fun j hj => va_eqt (hfl _ (hin _ (List.mem_append_right _ (List.mem_map.mpr ⟨j, List.mem_range.mpr hj, rfl⟩))))) hA
      have hG : (mc_ad b tR tS ad0 aS, s.heap.size, dA, ((fun c => (dC c).1, fun c => (dC c).2) : (Nat → ClassId) × (Nat → Nat → Nat))).1 k = aS k := mc_ad_st c6
      refine ⟨?_, ?_, v, ?_, hT9⟩
      · rw [hG]
        exact mc_oof (hfl _ (hin _ (by simp [mc_ex]))) hev9 hA
      · rw [hG]
        exact vk_OFof hev9 (va_eqt (hfl _ (hin _ (by simp [mc_ex])))) hA
      · rw [hG]
        exact vk_OFof hev9 hv hA
    · cases h1
  · intro i hi
    have hG : (mc_ad b tR tS ad0 aS, s.heap.size, dA, ((fun c => (dC c).1, fun c => (dC c).2) : (Nat → ClassId) × (Nat → Nat → Nat))).1 (16 + i) = ad0 i := mc_ad_en hi
    refine ⟨?_, ?_⟩
    · rw [hG]
      exact mc_oof (hfl _ (mc_m1 i hi)) (hev i hi) hA
    · rw [hG]
      exact vk_OFof (hev i hi) (va_eqt (hfl _ (mc_m19 i hi))) hA
  · have w := fun w hw => hts w (mc_ls_in (List.all_eq_true.mp mc_m22 w hw))
    exact va_Zof (w _ (by simp)) (w _ (by simp)) (va_eqt (hfl _ mc_m20)) hA
  · have w := fun w hw => hts w (mc_ls_in (List.all_eq_true.mp mc_m22 w hw))
    exact va_Zqof (w _ (by simp)) (w _ (by simp)) (hfl _ mc_m21) hA
