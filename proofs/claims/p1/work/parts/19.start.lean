/-! WHAT STANDS AT THE LAW'S ENTRY: the constants, the classes, the words (own work, over the kit's rows) -/
def mc_fl0 : List Cond := flatC (Jvm.Cond.and given_1 narrow_1)
def mc_RE : String := "StrikeAwake$Reserved"
def mc_RD : String := "LStrikeAwake$Reserved;"
def mc_enm : List String := ["LAW", "PERSON", "SEXTON", "APART", "BORN", "STRUCK", "TOLD", "OFFER", "HABIT", "NAP", "AWAY"]
def mc_si (i : Nat) : Nat := [67, 73, 76, 79, 82, 85, 88, 91, 94, 97, 100].getD i 0
theorem mc_m1 : ∀ i, i < 11 → Cond.exactly (.static mc_RE (mc_enm.getD i "") mc_RD) mc_RE ∈ mc_fl0 := by decide +kernel
theorem mc_m2 : ∀ i, i < 11 → Cond.eq (.field (.static mc_RE (mc_enm.getD i "") mc_RD) mc_RE "room" "I") (.int (mc_room i)) ∈ mc_fl0 := by decide +kernel
theorem mc_m3 : ∀ i, i < 11 → Cond.eq (.field (.static mc_RE (mc_enm.getD i "") mc_RD) mc_RE "word" "Ljava/lang/String;") (.string mc_RE (mc_si i)) ∈ mc_fl0 := by decide +kernel
theorem mc_m4 : ∀ i, i < 11 → ∀ j, j < 11 → i ≠ j → (Cond.not (.eq (.static mc_RE (mc_enm.getD i "") mc_RD) (.static mc_RE (mc_enm.getD j "") mc_RD)) ∈ mc_fl0 ∨ Cond.not (.eq (.static mc_RE (mc_enm.getD j "") mc_RD) (.static mc_RE (mc_enm.getD i "") mc_RD)) ∈ mc_fl0) := by decide +kernel
def mc_tR : Term := .static "StrikeAwake" "RESERVED" "[LStrikeAwake$Reserved;"
def mc_tS : Term := .static "StrikeAwake$1" "$SwitchMap$StrikeAwake$Reserved" "[I"
theorem mc_m5 : Cond.arrayOf mc_tR (.object mc_RE) ∈ mc_fl0 ∧ Cond.eq (.length mc_tR) (.int 11) ∈ mc_fl0 ∧ Cond.arrayOf mc_tS .int ∈ mc_fl0 ∧ Cond.eq (.length mc_tS) (.int 11) ∈ mc_fl0 := by decide +kernel
theorem mc_m6 : ∀ i, i < 11 → Cond.eq (.elem mc_tR (.int (Int32.ofNat i))) (.static mc_RE (mc_enm.getD i "") mc_RD) ∈ mc_fl0 := by decide +kernel
theorem mc_m7 : ∀ i, i < 11 → Cond.eq (.elem mc_tS (.int (Int32.ofNat i))) (.int (mc_swm i)) ∈ mc_fl0 := by decide +kernel
theorem mc_m8 : ∀ e ∈ mc_sr, Cond.exactly (.string (mc_cn e.1) e.2.1) "java/lang/String" ∈ mc_fl0 := by decide +kernel
theorem mc_m9 : ∀ e ∈ mc_sr, ∀ e' ∈ mc_sr, e.2.2.2.1 = e'.2.2.2.1 → e = e' := by decide +kernel
theorem mc_m10 : ∀ e ∈ mc_sr, 27 ≤ e.2.2.2.1 ∧ e.2.2.2.1 < 256 := by decide +kernel
theorem mc_m11 : ∀ i, i < 11 → ∃ e ∈ mc_sr, e.2.2.2.1 = 32 + i ∧ mc_cn e.1 = mc_RE ∧ e.2.1 = mc_si i := by decide +kernel
def mc_ls (w : Cond) (l : List Cond) : Bool := l.any (fun x => decide (x = w))
theorem mc_ls_in {w : Cond} {l : List Cond} (h : mc_ls w l = true) : w ∈ l := by
  obtain ⟨x, h1, h2⟩ := List.any_eq_true.mp h
  rw [← of_decide_eq_true h2]
  exact h1
theorem mc_m12 : mc_st.all (fun e => (mc_ls (.laysStatic e.1 e.2.1 e.2.2.1) lw_tbl) && (mc_ls (.initialized e.1) lw_tbl)) = true := by decide +kernel
theorem mc_m13 : mc_st.map (fun e => e.2.2.2) = [1, 2, 16, 17, 18, 19, 20, 21, 22, 23, 24, 25, 26] := by decide +kernel
