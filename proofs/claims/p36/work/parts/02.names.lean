/-! names: own work, written by wip/gen/names.py out of the words of the claim's tables -/
def mc_ws : List Cond := lw_tbl.filter goodWord
def mc_ch (j : Nat) : List Cond := match j with
  | 0 => k2_sels lw_privs
  | 1 => tables_1_1
  | 2 => tables_1_2
  | 3 => tables_1_3
  | 4 => tables_1_4
  | 5 => tables_1_5
  | 6 => tables_1_6
  | 7 => tables_1_7
  | 8 => tables_1_8
  | 9 => tables_1_9
  | _ => []
theorem mc_ch_sub (j : Nat) : ∀ w ∈ mc_ch j, w ∈ lw_tbl := by
  intro w h
  unfold mc_ch at h
  unfold lw_tbl tables_1
  simp only [List.mem_append]
  split at h <;> simp_all
def mc_at (i : Nat × Nat) (w : Cond) : Bool := decide ((mc_ch i.1)[i.2]? = some w) && goodWord w
theorem mc_at_mem {i : Nat × Nat} {w : Cond} (h : mc_at i w = true) : w ∈ mc_ws := by
  simp only [mc_at, Bool.and_eq_true, decide_eq_true_eq] at h
  exact List.mem_filter.mpr ⟨mc_ch_sub _ _ (List.mem_of_getElem? h.1), h.2⟩
theorem mc_ws_good : ∀ w ∈ mc_ws, goodWord w = true := fun w h => (List.mem_filter.mp h).2
theorem mc_ws_sub : ∀ w ∈ mc_ws, w ∈ lw_tbl := fun w h => (List.mem_filter.mp h).1
def mc_each {α : Type} (l : List (List α)) (f : Nat → α → Bool) : Bool := (l.zipIdx).all (fun r => r.1.all (fun e => f r.2 e))
theorem mc_each_at {α : Type} {l : List (List α)} {f : Nat → α → Bool} (h : mc_each l f = true) {own : Nat} {r : List α} (hr : l[own]? = some r) {e : α} (he : e ∈ r) : f own e = true := by
  have h1 := List.all_eq_true.mp h (r, own) (by
    rw [List.mem_iff_getElem?]
    exact ⟨own, by rw [List.getElem?_zipIdx, hr]; simp⟩)
  exact List.all_eq_true.mp h1 e he

def mc_cn (k : Nat) : String := match k with
  | 0 => "StrikeAwake"
  | 1 => "StrikeAwake$Reader"
  | 2 => "StrikeAwake$Tokens"
  | 3 => "StrikeAwake$Walk"
  | 4 => "StrikeAwake$Census"
  | 5 => "StrikeAwake$Asking"
  | 6 => "StrikeAwake$Grounds"
  | 7 => "StrikeAwake$Parish"
  | 8 => "StrikeAwake$Person"
  | 9 => "StrikeAwakeModel"
  | 10 => "StrikeAwakeModel$Parish"
  | 11 => "StrikeAwakeLaw"
  | 12 => "StrikeAwake$Reserved"
  | 13 => "java/lang/Object"
  | 14 => "java/lang/Math"
  | 15 => "java/lang/Integer"
  | 16 => "java/lang/String"
  | 17 => "java/lang/StringLatin1"
  | 18 => "jdk/internal/util/Preconditions"
  | _ => "java/lang/Enum"
def mc_T0 : u_T := fun k => match k with
  | 0 => ("StrikeAwake", "tape", "[B", true)
  | 1 => ("StrikeAwake", "reader", "LStrikeAwake$Reader;", true)
  | 2 => ("StrikeAwake", "walk", "LStrikeAwake$Walk;", true)
  | 3 => ("StrikeAwake", "census", "LStrikeAwake$Census;", true)
  | 4 => ("StrikeAwake", "asking", "LStrikeAwake$Asking;", true)
  | 5 => ("StrikeAwake", "grounds", "LStrikeAwake$Grounds;", true)
  | 6 => ("StrikeAwake", "current", "LStrikeAwake$Parish;", false)
  | 7 => ("StrikeAwake", "draft", "LStrikeAwake$Parish;", false)
  | 8 => ("StrikeAwake", "hasParish", "Z", false)
  | 9 => ("StrikeAwake", "taped", "I", false)
  | 10 => ("StrikeAwake", "refusal", "I", false)
  | 11 => ("StrikeAwake", "faultNumber", "I", false)
  | _ => ("StrikeAwake", "faultPlace", "I", false)
def mc_t0 : Nat → FieldType := fun k => match k with
  | 0 => .array .byte
  | 1 => .object "StrikeAwake$Reader"
  | 2 => .object "StrikeAwake$Walk"
  | 3 => .object "StrikeAwake$Census"
  | 4 => .object "StrikeAwake$Asking"
  | 5 => .object "StrikeAwake$Grounds"
  | 6 => .object "StrikeAwake$Parish"
  | 7 => .object "StrikeAwake$Parish"
  | 8 => .boolean
  | 9 => .int
  | 10 => .int
  | 11 => .int
  | _ => .int
def mc_T1 : u_T := fun k => match k with
  | 0 => ("StrikeAwake$Reader", "tokens", "LStrikeAwake$Tokens;", true)
  | 1 => ("StrikeAwake$Reader", "from", "I", false)
  | 2 => ("StrikeAwake$Reader", "to", "I", false)
  | 3 => ("StrikeAwake$Reader", "fault", "I", false)
  | _ => ("StrikeAwake$Reader", "place", "I", false)
def mc_t1 : Nat → FieldType := fun k => match k with
  | 0 => .object "StrikeAwake$Tokens"
  | 1 => .int
  | 2 => .int
  | 3 => .int
  | _ => .int
def mc_T2 : u_T := fun k => match k with
  | 0 => ("StrikeAwake$Tokens", "bytes", "[B", false)
  | 1 => ("StrikeAwake$Tokens", "length", "I", false)
  | 2 => ("StrikeAwake$Tokens", "ahead", "I", false)
  | 3 => ("StrikeAwake$Tokens", "kind", "I", false)
  | 4 => ("StrikeAwake$Tokens", "place", "I", false)
  | 5 => ("StrikeAwake$Tokens", "value", "I", false)
  | _ => ("StrikeAwake$Tokens", "key", "J", false)
def mc_t2 : Nat → FieldType := fun k => match k with
  | 0 => .array .byte
  | 1 => .int
  | 2 => .int
  | 3 => .int
  | 4 => .int
  | 5 => .int
  | _ => .long
def mc_T3 : u_T := fun k => match k with
  | 0 => ("StrikeAwake$Walk", "picks", "[I", true)
  | 1 => ("StrikeAwake$Walk", "early", "[J", true)
  | 2 => ("StrikeAwake$Walk", "late", "[J", true)
  | 3 => ("StrikeAwake$Walk", "filledHours", "[I", true)
  | 4 => ("StrikeAwake$Walk", "quarrelHours", "[I", true)
  | _ => ("StrikeAwake$Walk", "people", "I", false)
def mc_t3 : Nat → FieldType := fun k => match k with
  | 0 => .array .int
  | 1 => .array .long
  | 2 => .array .long
  | 3 => .array .int
  | 4 => .array .int
  | _ => .int
def mc_T4 : u_T := fun k => match k with
  | 0 => ("StrikeAwake$Census", "worldMarks", "[J", true)
  | 1 => ("StrikeAwake$Census", "holding", "[[I", true)
  | 2 => ("StrikeAwake$Census", "weighing", "[[J", true)
  | 3 => ("StrikeAwake$Census", "leastDue", "[I", true)
  | 4 => ("StrikeAwake$Census", "mostDue", "[I", true)
  | 5 => ("StrikeAwake$Census", "count", "I", false)
  | 6 => ("StrikeAwake$Census", "weight", "J", false)
  | 7 => ("StrikeAwake$Census", "bestNumber", "I", false)
  | 8 => ("StrikeAwake$Census", "bestWeight", "J", false)
  | _ => ("StrikeAwake$Census", "isFresh", "Z", false)
def mc_t4 : Nat → FieldType := fun k => match k with
  | 0 => .array .long
  | 1 => .array (.array .int)
  | 2 => .array (.array .long)
  | 3 => .array .int
  | 4 => .array .int
  | 5 => .int
  | 6 => .long
  | 7 => .int
  | 8 => .long
  | _ => .boolean
def mc_T5 : u_T := fun k => match k with
  | 0 => ("StrikeAwake$Asking", "numbers", "[I", true)
  | 1 => ("StrikeAwake$Asking", "labels", "[I", true)
  | 2 => ("StrikeAwake$Asking", "looks", "[I", true)
  | 3 => ("StrikeAwake$Asking", "slots", "[I", true)
  | _ => ("StrikeAwake$Asking", "count", "I", false)
def mc_t5 : Nat → FieldType := fun k => match k with
  | 0 => .array .int
  | 1 => .array .int
  | 2 => .array .int
  | 3 => .array .int
  | _ => .int
def mc_T6 : u_T := fun k => match k with
  | 0 => ("StrikeAwake$Grounds", "flaws", "[J", true)
  | 1 => ("StrikeAwake$Grounds", "count", "I", false)
  | _ => ("StrikeAwake$Grounds", "latestLeft", "I", false)
def mc_t6 : Nat → FieldType := fun k => match k with
  | 0 => .array .long
  | 1 => .int
  | _ => .int
def mc_T7 : u_T := fun k => match k with
  | 0 => ("StrikeAwake$Parish", "persons", "[LStrikeAwake$Person;", true)
  | 1 => ("StrikeAwake$Parish", "strokes", "[I", true)
  | 2 => ("StrikeAwake$Parish", "struckHours", "[I", true)
  | 3 => ("StrikeAwake$Parish", "bornIn", "[I", true)
  | 4 => ("StrikeAwake$Parish", "toldOf", "[I", true)
  | 5 => ("StrikeAwake$Parish", "toldHours", "[I", true)
  | 6 => ("StrikeAwake$Parish", "offeredHours", "[I", true)
  | 7 => ("StrikeAwake$Parish", "hours", "I", false)
  | 8 => ("StrikeAwake$Parish", "beside", "I", false)
  | 9 => ("StrikeAwake$Parish", "off", "I", false)
  | 10 => ("StrikeAwake$Parish", "people", "I", false)
  | 11 => ("StrikeAwake$Parish", "pairs", "I", false)
  | 12 => ("StrikeAwake$Parish", "born", "I", false)
  | 13 => ("StrikeAwake$Parish", "told", "I", false)
  | 14 => ("StrikeAwake$Parish", "offers", "I", false)
  | 15 => ("StrikeAwake$Parish", "sexton", "I", false)
  | 16 => ("StrikeAwake$Parish", "struckCount", "I", false)
  | 17 => ("StrikeAwake$Parish", "cursor", "I", false)
  | _ => ("StrikeAwake$Parish", "lotCount", "J", false)
def mc_t7 : Nat → FieldType := fun k => match k with
  | 0 => .array (.object "StrikeAwake$Person")
  | 1 => .array .int
  | 2 => .array .int
  | 3 => .array .int
  | 4 => .array .int
  | 5 => .array .int
  | 6 => .array .int
  | 7 => .int
  | 8 => .int
  | 9 => .int
  | 10 => .int
  | 11 => .int
  | 12 => .int
  | 13 => .int
  | 14 => .int
  | 15 => .int
  | 16 => .int
  | 17 => .int
  | _ => .long
def mc_T8 : u_T := fun k => match k with
  | 0 => ("StrikeAwake$Person", "bedAt", "[I", true)
  | 1 => ("StrikeAwake$Person", "sleepsFor", "[I", true)
  | 2 => ("StrikeAwake$Person", "asleepIn", "[I", true)
  | 3 => ("StrikeAwake$Person", "awakeIn", "[I", true)
  | 4 => ("StrikeAwake$Person", "earlyTally", "[J", true)
  | 5 => ("StrikeAwake$Person", "lateTally", "[J", true)
  | 6 => ("StrikeAwake$Person", "name", "J", false)
  | 7 => ("StrikeAwake$Person", "bedFrom", "I", false)
  | 8 => ("StrikeAwake$Person", "bedTo", "I", false)
  | 9 => ("StrikeAwake$Person", "longFrom", "I", false)
  | 10 => ("StrikeAwake$Person", "longTo", "I", false)
  | 11 => ("StrikeAwake$Person", "habit", "I", false)
  | 12 => ("StrikeAwake$Person", "napHours", "I", false)
  | 13 => ("StrikeAwake$Person", "isAway", "Z", false)
  | 14 => ("StrikeAwake$Person", "apartFrom", "I", false)
  | 15 => ("StrikeAwake$Person", "spanCount", "I", false)
  | 16 => ("StrikeAwake$Person", "saidSpan", "I", false)
  | _ => ("StrikeAwake$Person", "stride", "I", false)
def mc_t8 : Nat → FieldType := fun k => match k with
  | 0 => .array .int
  | 1 => .array .int
  | 2 => .array .int
  | 3 => .array .int
  | 4 => .array .long
  | 5 => .array .long
  | 6 => .long
  | 7 => .int
  | 8 => .int
  | 9 => .int
  | 10 => .int
  | 11 => .int
  | 12 => .int
  | 13 => .boolean
  | 14 => .int
  | 15 => .int
  | 16 => .int
  | _ => .int
def mc_T9 : u_T := fun k => match k with
  | 0 => ("StrikeAwakeModel", "thrown", "I", false)
  | 1 => ("StrikeAwakeModel", "trouble", "I", false)
  | 2 => ("StrikeAwakeModel", "where", "I", false)
  | 3 => ("StrikeAwakeModel", "parish", "LStrikeAwakeModel$Parish;", false)
  | 4 => ("StrikeAwakeModel", "read", "LStrikeAwakeModel$Parish;", false)
  | 5 => ("StrikeAwakeModel", "tape", "[B", true)
  | 6 => ("StrikeAwakeModel", "taped", "I", false)
  | 7 => ("StrikeAwakeModel", "size", "I", false)
  | 8 => ("StrikeAwakeModel", "at", "I", false)
  | 9 => ("StrikeAwakeModel", "sort", "I", false)
  | 10 => ("StrikeAwakeModel", "place", "I", false)
  | 11 => ("StrikeAwakeModel", "sign", "I", false)
  | 12 => ("StrikeAwakeModel", "number", "I", false)
  | 13 => ("StrikeAwakeModel", "fault", "I", false)
  | 14 => ("StrikeAwakeModel", "wrongAt", "I", false)
  | 15 => ("StrikeAwakeModel", "word", "J", false)
  | 16 => ("StrikeAwakeModel", "strokes", "I", false)
  | 17 => ("StrikeAwakeModel", "readFrom", "I", false)
  | 18 => ("StrikeAwakeModel", "readTo", "I", false)
  | 19 => ("StrikeAwakeModel", "all", "I", false)
  | 20 => ("StrikeAwakeModel", "struckNow", "[I", true)
  | 21 => ("StrikeAwakeModel", "spans", "[I", true)
  | 22 => ("StrikeAwakeModel", "bed", "[I", true)
  | 23 => ("StrikeAwakeModel", "length", "[I", true)
  | 24 => ("StrikeAwakeModel", "asleep", "[I", true)
  | 25 => ("StrikeAwakeModel", "awake", "[I", true)
  | 26 => ("StrikeAwakeModel", "said", "[I", true)
  | 27 => ("StrikeAwakeModel", "lot", "[I", true)
  | 28 => ("StrikeAwakeModel", "isKnown", "Z", false)
  | 29 => ("StrikeAwakeModel", "worlds", "I", false)
  | 30 => ("StrikeAwakeModel", "world", "[I", true)
  | 31 => ("StrikeAwakeModel", "one", "[I", true)
  | _ => ("StrikeAwakeModel", "cursor", "I", false)
def mc_t9 : Nat → FieldType := fun k => match k with
  | 0 => .int
  | 1 => .int
  | 2 => .int
  | 3 => .object "StrikeAwakeModel$Parish"
  | 4 => .object "StrikeAwakeModel$Parish"
  | 5 => .array .byte
  | 6 => .int
  | 7 => .int
  | 8 => .int
  | 9 => .int
  | 10 => .int
  | 11 => .int
  | 12 => .int
  | 13 => .int
  | 14 => .int
  | 15 => .long
  | 16 => .int
  | 17 => .int
  | 18 => .int
  | 19 => .int
  | 20 => .array .int
  | 21 => .array .int
  | 22 => .array .int
  | 23 => .array .int
  | 24 => .array .int
  | 25 => .array .int
  | 26 => .array .int
  | 27 => .array .int
  | 28 => .boolean
  | 29 => .int
  | 30 => .array .int
  | 31 => .array .int
  | _ => .int
def mc_T10 : u_T := fun k => match k with
  | 0 => ("StrikeAwakeModel$Parish", "hours", "I", false)
  | 1 => ("StrikeAwakeModel$Parish", "beside", "I", false)
  | 2 => ("StrikeAwakeModel$Parish", "off", "I", false)
  | 3 => ("StrikeAwakeModel$Parish", "people", "I", false)
  | 4 => ("StrikeAwakeModel$Parish", "aparts", "I", false)
  | 5 => ("StrikeAwakeModel$Parish", "births", "I", false)
  | 6 => ("StrikeAwakeModel$Parish", "tolds", "I", false)
  | 7 => ("StrikeAwakeModel$Parish", "offers", "I", false)
  | 8 => ("StrikeAwakeModel$Parish", "sexton", "I", false)
  | 9 => ("StrikeAwakeModel$Parish", "name", "[J", true)
  | 10 => ("StrikeAwakeModel$Parish", "bedFrom", "[I", true)
  | 11 => ("StrikeAwakeModel$Parish", "bedTo", "[I", true)
  | 12 => ("StrikeAwakeModel$Parish", "longFrom", "[I", true)
  | 13 => ("StrikeAwakeModel$Parish", "longTo", "[I", true)
  | 14 => ("StrikeAwakeModel$Parish", "habit", "[I", true)
  | 15 => ("StrikeAwakeModel$Parish", "napFrom", "[I", true)
  | 16 => ("StrikeAwakeModel$Parish", "napTo", "[I", true)
  | 17 => ("StrikeAwakeModel$Parish", "isAway", "[Z", true)
  | 18 => ("StrikeAwakeModel$Parish", "apartA", "[I", true)
  | 19 => ("StrikeAwakeModel$Parish", "apartB", "[I", true)
  | 20 => ("StrikeAwakeModel$Parish", "born", "[I", true)
  | 21 => ("StrikeAwakeModel$Parish", "struck", "[I", true)
  | 22 => ("StrikeAwakeModel$Parish", "teller", "[I", true)
  | 23 => ("StrikeAwakeModel$Parish", "tells", "[I", true)
  | 24 => ("StrikeAwakeModel$Parish", "tellsTo", "[I", true)
  | 25 => ("StrikeAwakeModel$Parish", "offering", "[I", true)
  | _ => ("StrikeAwakeModel$Parish", "offered", "[I", true)
def mc_t10 : Nat → FieldType := fun k => match k with
  | 0 => .int
  | 1 => .int
  | 2 => .int
  | 3 => .int
  | 4 => .int
  | 5 => .int
  | 6 => .int
  | 7 => .int
  | 8 => .int
  | 9 => .array .long
  | 10 => .array .int
  | 11 => .array .int
  | 12 => .array .int
  | 13 => .array .int
  | 14 => .array .int
  | 15 => .array .int
  | 16 => .array .int
  | 17 => .array .boolean
  | 18 => .array .int
  | 19 => .array .int
  | 20 => .array .int
  | 21 => .array .int
  | 22 => .array .int
  | 23 => .array .int
  | 24 => .array .int
  | 25 => .array .int
  | _ => .array .int
def mc_T (ci : Nat) : u_T := match ci with
  | 0 => mc_T0
  | 1 => mc_T1
  | 2 => mc_T2
  | 3 => mc_T3
  | 4 => mc_T4
  | 5 => mc_T5
  | 6 => mc_T6
  | 7 => mc_T7
  | 8 => mc_T8
  | 9 => mc_T9
  | _ => mc_T10
def mc_t (ci : Nat) : Nat → FieldType := match ci with
  | 0 => mc_t0
  | 1 => mc_t1
  | 2 => mc_t2
  | 3 => mc_t3
  | 4 => mc_t4
  | 5 => mc_t5
  | 6 => mc_t6
  | 7 => mc_t7
  | 8 => mc_t8
  | 9 => mc_t9
  | _ => mc_t10
def mc_N : List Nat := [13, 5, 7, 6, 10, 5, 3, 19, 18, 33, 27]
def mc_cl : List vw_C := [(mc_cn 0, mc_T0, 13), (mc_cn 1, mc_T1, 5), (mc_cn 2, mc_T2, 7), (mc_cn 3, mc_T3, 6), (mc_cn 4, mc_T4, 10), (mc_cn 5, mc_T5, 5), (mc_cn 6, mc_T6, 3), (mc_cn 7, mc_T7, 19), (mc_cn 8, mc_T8, 18), (mc_cn 9, mc_T9, 33), (mc_cn 10, mc_T10, 27)]
def mc_li : List (List (Nat × Nat)) := [[(2, 182), (2, 184), (2, 186), (2, 188), (2, 190), (2, 192), (2, 194), (2, 196), (2, 198), (2, 200), (2, 202), (2, 204), (2, 206)], [(1, 79), (1, 81), (1, 83), (1, 85), (1, 87)], [(1, 56), (1, 58), (1, 60), (1, 62), (1, 64), (1, 66), (1, 68)], [(1, 102), (1, 104), (1, 106), (1, 108), (1, 110), (1, 112)], [(1, 144), (1, 146), (1, 148), (1, 150), (1, 152), (1, 154), (1, 156), (1, 158), (1, 160), (1, 162)], [(1, 176), (1, 178), (1, 180), (1, 182), (1, 184)], [(1, 196), (1, 198), (1, 200)], [(2, 130), (2, 132), (2, 134), (2, 136), (2, 138), (2, 140), (2, 142), (2, 144), (2, 146), (2, 148), (2, 150), (2, 152), (2, 154), (2, 156), (2, 158), (2, 160), (2, 162), (2, 164), (2, 166)], [(2, 24), (2, 26), (2, 28), (2, 30), (2, 32), (2, 34), (2, 36), (2, 38), (2, 40), (2, 42), (2, 44), (2, 46), (2, 48), (2, 50), (2, 52), (2, 54), (2, 56), (2, 58)], [(6, 115), (6, 117), (6, 119), (6, 121), (6, 123), (6, 125), (6, 127), (6, 129), (6, 131), (6, 133), (6, 135), (6, 137), (6, 139), (6, 141), (6, 143), (6, 145), (6, 147), (6, 149), (6, 151), (6, 153), (6, 155), (6, 157), (6, 159), (6, 161), (6, 163), (6, 165), (6, 167), (6, 169), (6, 171), (6, 173), (6, 175), (6, 177), (6, 179)], [(7, 6), (7, 8), (7, 10), (7, 12), (7, 14), (7, 16), (7, 18), (7, 20), (7, 22), (7, 24), (7, 26), (7, 28), (7, 30), (7, 32), (7, 34), (7, 36), (7, 38), (7, 40), (7, 42), (7, 44), (7, 46), (7, 48), (7, 50), (7, 52), (7, 54), (7, 56), (7, 58)]]
/-- by class: the place of instantiable, of initialized -/
def mc_ii : List ((Nat × Nat) × (Nat × Nat)) := [((1, 26), (1, 1)), ((1, 34), (1, 2)), ((1, 40), (1, 3)), ((1, 91), (1, 4)), ((1, 118), (1, 5)), ((1, 166), (1, 6)), ((1, 188), (1, 7)), ((1, 204), (1, 8)), ((1, 211), (1, 9)), ((6, 77), (1, 10)), ((6, 195), (1, 19))]
/-- fields by class and pool entry: entry, class, place, nest, host, word -/
def mc_fl : List (List (Nat × Nat × Nat × Bool × String × Nat × Nat)) := [
  [(78, 1, 3, false, "", 1, 76), (84, 1, 4, false, "", 1, 78), (190, 4, 1, false, "", 1, 129), (265, 4, 3, false, "", 1, 132), (268, 4, 4, false, "", 1, 134), (177, 4, 5, false, "", 1, 136), (187, 4, 6, false, "", 1, 138), (207, 4, 7, false, "", 1, 140), (210, 4, 8, false, "", 1, 142), (125, 8, 0, false, "", 1, 217), (129, 8, 1, false, "", 1, 219), (135, 8, 3, false, "", 1, 226), (317, 8, 13, false, "", 2, 8), (113, 8, 15, false, "", 2, 14), (148, 8, 16, false, "", 2, 19), (109, 7, 0, false, "", 2, 66), (262, 7, 1, false, "", 2, 69), (339, 7, 7, false, "", 2, 90), (96, 7, 10, false, "", 2, 99), (327, 7, 11, false, "", 2, 105), (330, 7, 12, false, "", 2, 109), (333, 7, 13, false, "", 2, 112), (336, 7, 14, false, "", 2, 115), (342, 7, 15, false, "", 2, 118), (295, 7, 16, false, "", 2, 123), (298, 7, 17, false, "", 2, 125), (141, 7, 18, false, "", 2, 129), (9, 0, 0, false, "", 2, 169), (16, 0, 1, false, "", 2, 170), (23, 0, 2, false, "", 2, 171), (30, 0, 3, false, "", 2, 172), (37, 0, 4, false, "", 2, 173), (44, 0, 5, false, "", 2, 174), (51, 0, 6, false, "", 2, 175), (55, 0, 7, false, "", 2, 176), (58, 0, 8, false, "", 2, 177), (62, 0, 9, false, "", 2, 178), (102, 0, 10, false, "", 2, 179), (81, 0, 11, false, "", 2, 180), (87, 0, 12, false, "", 2, 181)],
  [(38, 2, 3, false, "", 1, 48), (257, 2, 4, false, "", 1, 51), (230, 2, 5, false, "", 1, 53), (135, 2, 6, false, "", 1, 55), (12, 1, 0, false, "", 1, 72), (158, 1, 1, false, "", 1, 73), (164, 1, 2, false, "", 1, 74), (18, 1, 3, false, "", 1, 75), (22, 1, 4, false, "", 1, 77), (161, 8, 7, false, "", 1, 235), (167, 8, 8, false, "", 1, 237), (172, 8, 9, false, "", 1, 239), (175, 8, 10, false, "", 2, 1), (188, 8, 11, false, "", 2, 3), (197, 8, 12, false, "", 2, 5), (203, 8, 13, false, "", 2, 7), (214, 8, 14, false, "", 2, 11), (143, 7, 0, false, "", 2, 65), (224, 7, 3, false, "", 2, 76), (242, 7, 4, false, "", 2, 79), (248, 7, 5, false, "", 2, 83), (251, 7, 6, false, "", 2, 86), (41, 7, 7, false, "", 2, 88), (127, 7, 8, false, "", 2, 92), (129, 7, 9, false, "", 2, 94), (44, 7, 10, false, "", 2, 98), (221, 7, 11, false, "", 2, 104), (227, 7, 12, false, "", 2, 108), (245, 7, 13, false, "", 2, 111), (254, 7, 14, false, "", 2, 114), (211, 7, 15, false, "", 2, 117), (181, 20, 0, false, "", 9, 112), (58, 20, 1, false, "", 9, 115)],
  [(7, 2, 0, false, "", 1, 45), (19, 2, 1, false, "", 1, 46), (23, 2, 2, false, "", 1, 47), (41, 2, 3, false, "", 1, 49), (29, 2, 4, false, "", 1, 50), (38, 2, 5, false, "", 1, 52), (32, 2, 6, false, "", 1, 54)],
  [(9, 3, 0, false, "", 1, 96), (15, 3, 1, false, "", 1, 97), (19, 3, 2, false, "", 1, 98), (22, 3, 3, false, "", 1, 99), (25, 3, 4, false, "", 1, 100), (51, 3, 5, false, "", 1, 101), (85, 8, 2, false, "", 1, 222), (75, 8, 3, false, "", 1, 225), (69, 8, 4, false, "", 1, 229), (72, 8, 5, false, "", 1, 231), (82, 8, 14, false, "", 2, 10), (52, 8, 15, false, "", 2, 13), (46, 8, 16, false, "", 2, 18), (42, 7, 0, false, "", 2, 63), (112, 7, 2, false, "", 2, 73), (58, 7, 3, false, "", 2, 75), (103, 7, 7, false, "", 2, 89), (115, 7, 9, false, "", 2, 96), (36, 7, 10, false, "", 2, 100), (55, 7, 12, false, "", 2, 107), (109, 7, 16, false, "", 2, 122)],
  [(11, 4, 0, false, "", 1, 127), (17, 4, 1, false, "", 1, 128), (22, 4, 2, false, "", 1, 130), (25, 4, 3, false, "", 1, 131), (29, 4, 4, false, "", 1, 133), (62, 4, 5, false, "", 1, 135), (66, 4, 6, false, "", 1, 137), (69, 4, 7, false, "", 1, 139), (72, 4, 8, false, "", 1, 141), (32, 4, 9, false, "", 1, 143), (138, 8, 2, false, "", 1, 223), (119, 8, 3, false, "", 1, 227), (116, 8, 15, false, "", 2, 16), (78, 7, 0, false, "", 2, 64), (94, 7, 2, false, "", 2, 72), (144, 7, 4, false, "", 2, 80), (147, 7, 5, false, "", 2, 84), (75, 7, 10, false, "", 2, 102), (91, 7, 16, false, "", 2, 121), (45, 7, 18, false, "", 2, 128)],
  [(9, 5, 0, false, "", 1, 171), (15, 5, 1, false, "", 1, 172), (18, 5, 2, false, "", 1, 173), (21, 5, 3, false, "", 1, 174), (28, 5, 4, false, "", 1, 175), (79, 8, 17, false, "", 2, 22), (75, 7, 0, false, "", 2, 67), (46, 7, 10, false, "", 2, 101)],
  [(9, 6, 0, false, "", 1, 193), (68, 6, 1, false, "", 1, 194), (81, 6, 2, false, "", 1, 195), (38, 8, 2, false, "", 1, 221), (15, 7, 0, false, "", 2, 62), (91, 7, 2, false, "", 2, 71), (21, 7, 4, false, "", 2, 78), (25, 7, 5, false, "", 2, 82), (113, 7, 9, false, "", 2, 95), (88, 7, 16, false, "", 2, 120), (34, 7, 18, false, "", 2, 126)],
  [(86, 8, 6, false, "", 1, 233), (110, 8, 15, false, "", 2, 15), (127, 8, 16, false, "", 2, 20), (107, 8, 17, false, "", 2, 23), (11, 7, 0, false, "", 2, 61), (17, 7, 1, false, "", 2, 68), (21, 7, 2, false, "", 2, 70), (24, 7, 3, false, "", 2, 74), (27, 7, 4, false, "", 2, 77), (30, 7, 5, false, "", 2, 81), (33, 7, 6, false, "", 2, 85), (41, 7, 7, false, "", 2, 87), (44, 7, 8, false, "", 2, 91), (47, 7, 9, false, "", 2, 93), (50, 7, 10, false, "", 2, 97), (53, 7, 11, false, "", 2, 103), (56, 7, 12, false, "", 2, 106), (59, 7, 13, false, "", 2, 110), (62, 7, 14, false, "", 2, 113), (37, 7, 15, false, "", 2, 116), (65, 7, 16, false, "", 2, 119), (68, 7, 17, false, "", 2, 124), (71, 7, 18, false, "", 2, 127)],
  [(9, 8, 0, false, "", 1, 216), (15, 8, 1, false, "", 1, 218), (18, 8, 2, false, "", 1, 220), (21, 8, 3, false, "", 1, 224), (24, 8, 4, false, "", 1, 228), (28, 8, 5, false, "", 1, 230), (31, 8, 6, false, "", 1, 232), (62, 8, 7, false, "", 1, 234), (65, 8, 8, false, "", 1, 236), (68, 8, 9, false, "", 1, 238), (71, 8, 10, false, "", 2, 0), (35, 8, 11, false, "", 2, 2), (39, 8, 12, false, "", 2, 4), (42, 8, 13, false, "", 2, 6), (46, 8, 14, false, "", 2, 9), (49, 8, 15, false, "", 2, 12), (52, 8, 16, false, "", 2, 17), (55, 8, 17, false, "", 2, 21)],
  [(48, 9, 0, false, "", 6, 82), (51, 9, 1, false, "", 6, 83), (9, 9, 2, false, "", 6, 84), (337, 9, 3, false, "", 6, 85), (166, 9, 4, false, "", 6, 86), (13, 9, 5, false, "", 6, 87), (330, 9, 6, false, "", 6, 88), (61, 9, 7, false, "", 6, 89), (78, 9, 8, false, "", 6, 90), (75, 9, 9, false, "", 6, 91), (84, 9, 10, false, "", 6, 92), (87, 9, 11, false, "", 6, 93), (101, 9, 12, false, "", 6, 94), (104, 9, 13, false, "", 6, 95), (107, 9, 14, false, "", 6, 96), (94, 9, 15, false, "", 6, 97), (293, 9, 16, false, "", 6, 98), (300, 9, 17, false, "", 6, 99), (303, 9, 18, false, "", 6, 100), (343, 9, 19, false, "", 6, 101), (17, 9, 20, false, "", 6, 102), (21, 9, 21, false, "", 6, 103), (24, 9, 22, false, "", 6, 104), (27, 9, 23, false, "", 6, 105), (30, 9, 24, false, "", 6, 106), (33, 9, 25, false, "", 6, 107), (36, 9, 26, false, "", 6, 108), (39, 9, 27, false, "", 6, 109), (353, 9, 28, false, "", 6, 110), (422, 9, 29, false, "", 6, 111), (42, 9, 30, false, "", 6, 112), (45, 9, 31, false, "", 6, 113), (340, 9, 32, false, "", 6, 114), (185, 10, 0, true, "StrikeAwakeModel", 6, 200), (222, 10, 1, true, "StrikeAwakeModel", 6, 201), (226, 10, 2, true, "StrikeAwakeModel", 6, 202), (188, 10, 3, true, "StrikeAwakeModel", 6, 204), (276, 10, 4, true, "StrikeAwakeModel", 6, 205), (288, 10, 5, true, "StrikeAwakeModel", 6, 206), (306, 10, 6, true, "StrikeAwakeModel", 6, 207), (321, 10, 7, true, "StrikeAwakeModel", 6, 208), (271, 10, 8, true, "StrikeAwakeModel", 6, 210), (243, 10, 9, true, "StrikeAwakeModel", 6, 212), (247, 10, 10, true, "StrikeAwakeModel", 6, 214), (250, 10, 11, true, "StrikeAwakeModel", 6, 216), (253, 10, 12, true, "StrikeAwakeModel", 6, 218), (256, 10, 13, true, "StrikeAwakeModel", 6, 220), (259, 10, 14, true, "StrikeAwakeModel", 6, 222), (261, 10, 15, true, "StrikeAwakeModel", 6, 224), (264, 10, 16, true, "StrikeAwakeModel", 6, 226), (267, 10, 17, true, "StrikeAwakeModel", 6, 228), (282, 10, 18, true, "StrikeAwakeModel", 6, 230), (285, 10, 19, true, "StrikeAwakeModel", 6, 232), (291, 10, 20, true, "StrikeAwakeModel", 6, 234), (296, 10, 21, true, "StrikeAwakeModel", 6, 236), (312, 10, 22, true, "StrikeAwakeModel", 6, 238), (315, 10, 23, true, "StrikeAwakeModel", 7, 0), (324, 10, 25, true, "StrikeAwakeModel", 7, 3), (327, 10, 26, true, "StrikeAwakeModel", 7, 5)],
  [(72, 10, 3, false, "", 6, 203), (9, 10, 8, false, "", 6, 209), (15, 10, 9, false, "", 6, 211), (19, 10, 10, false, "", 6, 213), (23, 10, 11, false, "", 6, 215), (26, 10, 12, false, "", 6, 217), (29, 10, 13, false, "", 6, 219), (32, 10, 14, false, "", 6, 221), (35, 10, 15, false, "", 6, 223), (38, 10, 16, false, "", 6, 225), (41, 10, 17, false, "", 6, 227), (45, 10, 18, false, "", 6, 229), (48, 10, 19, false, "", 6, 231), (51, 10, 20, false, "", 6, 233), (54, 10, 21, false, "", 6, 235), (57, 10, 22, false, "", 6, 237), (60, 10, 23, false, "", 6, 239), (63, 10, 24, false, "", 7, 1), (66, 10, 25, false, "", 7, 2), (69, 10, 26, false, "", 7, 4)],
  [],
  [],
  [],
  [],
  [],
  [],
  [],
  [],
  []]
/-- methods by class and pool entry: entry, method, nest, host, word -/
def mc_ml : List (List (Nat × Nat × Bool × String × Nat × Nat)) := [
  [(15, 1, true, "StrikeAwake", 1, 35), (22, 3, true, "StrikeAwake", 1, 92), (29, 4, true, "StrikeAwake", 1, 119), (36, 5, true, "StrikeAwake", 1, 167), (43, 6, true, "StrikeAwake", 1, 189), (50, 7, false, "", 1, 205), (66, 10, false, "", 2, 213), (70, 12, false, "", 2, 221), (74, 13, false, "", 2, 225), (90, 44, false, "", 3, 191), (93, 50, false, "", 3, 216), (99, 51, false, "", 3, 220), (105, 55, false, "", 3, 236), (118, 57, false, "", 4, 4), (122, 58, false, "", 4, 8), (132, 60, false, "", 4, 22), (138, 36, false, "", 4, 26), (145, 63, false, "", 4, 35), (151, 64, false, "", 4, 39), (155, 67, false, "", 4, 51), (345, 68, false, "", 4, 55), (159, 72, false, "", 4, 73), (162, 74, false, "", 4, 81), (166, 75, false, "", 4, 99), (170, 79, false, "", 4, 104), (174, 83, false, "", 4, 120), (245, 84, false, "", 4, 124), (254, 85, false, "", 4, 129), (180, 94, false, "", 4, 170), (183, 96, false, "", 4, 178), (194, 100, false, "", 4, 194), (198, 102, false, "", 4, 203), (201, 103, false, "", 4, 207), (204, 106, false, "", 4, 220), (213, 110, false, "", 4, 237), (216, 113, false, "", 5, 9), (220, 115, false, "", 5, 17), (223, 118, false, "", 5, 28), (227, 121, false, "", 5, 40), (230, 122, false, "", 5, 44), (234, 131, false, "", 5, 83), (238, 133, false, "", 5, 92), (241, 134, false, "", 5, 96), (248, 136, false, "", 5, 104), (258, 138, false, "", 5, 119), (271, 87, false, "", 5, 160), (275, 80, false, "", 5, 161), (278, 148, false, "", 5, 162), (281, 91, false, "", 5, 167), (284, 150, false, "", 5, 172), (288, 46, false, "", 5, 186), (291, 40, false, "", 5, 191), (301, 124, false, "", 5, 204), (305, 160, false, "", 5, 217), (309, 162, false, "", 5, 226), (313, 163, false, "", 5, 231)],
  [(11, 2, true, "StrikeAwake", 1, 41), (25, 14, false, "", 2, 229), (30, 15, false, "", 2, 233), (34, 17, false, "", 3, 5), (54, 18, false, "", 3, 9), (185, 19, false, "", 3, 15), (47, 20, false, "", 3, 67), (63, 21, false, "", 3, 71), (74, 16, false, "", 3, 87), (87, 22, false, "", 3, 90), (115, 23, false, "", 3, 95), (119, 24, false, "", 3, 99), (90, 25, false, "", 3, 105), (131, 26, false, "", 3, 109), (139, 27, false, "", 3, 113), (147, 28, false, "", 3, 117), (154, 29, false, "", 3, 122), (93, 30, false, "", 3, 129), (194, 31, true, "StrikeAwake", 3, 137), (96, 32, false, "", 3, 143), (207, 33, false, "", 3, 147), (99, 34, false, "", 3, 151), (51, 35, false, "", 3, 155), (217, 36, true, "StrikeAwake", 3, 159), (102, 37, false, "", 3, 162), (105, 38, false, "", 3, 166), (233, 39, false, "", 3, 170), (238, 40, false, "", 3, 175), (108, 42, false, "", 3, 183), (111, 43, false, "", 3, 187)],
  [(26, 16, false, "", 3, 0)],
  [(28, 69, false, "", 4, 59), (61, 31, true, "StrikeAwake", 4, 63), (65, 49, false, "", 4, 64), (32, 70, false, "", 4, 65), (78, 71, false, "", 4, 69), (106, 75, false, "", 4, 85), (92, 72, false, "", 4, 89), (96, 76, false, "", 4, 90), (99, 36, true, "StrikeAwake", 4, 94), (118, 80, false, "", 4, 108), (122, 81, false, "", 4, 112), (88, 45, false, "", 5, 166)],
  [(36, 86, false, "", 4, 133), (39, 87, false, "", 4, 137), (51, 79, false, "", 4, 141), (55, 88, false, "", 4, 142), (82, 89, false, "", 4, 146), (86, 58, false, "", 4, 150), (97, 72, false, "", 4, 151), (100, 90, false, "", 4, 152), (59, 91, false, "", 4, 158), (113, 95, false, "", 4, 174), (122, 36, true, "StrikeAwake", 4, 198), (126, 100, false, "", 4, 211), (132, 111, false, "", 5, 1), (135, 96, false, "", 5, 4), (141, 116, false, "", 5, 21)],
  [(24, 123, false, "", 5, 48), (42, 124, false, "", 5, 52), (32, 125, false, "", 5, 56), (51, 126, false, "", 5, 60), (57, 127, false, "", 5, 66), (61, 128, false, "", 5, 70), (67, 36, true, "StrikeAwake", 5, 73), (71, 96, false, "", 5, 74), (64, 129, false, "", 5, 75), (36, 116, false, "", 5, 87)],
  [(28, 87, false, "", 5, 108), (43, 89, false, "", 5, 109), (47, 80, false, "", 5, 110), (51, 81, false, "", 5, 111), (61, 91, false, "", 5, 113), (64, 139, false, "", 5, 123), (84, 140, false, "", 5, 127), (94, 72, false, "", 5, 130), (97, 76, false, "", 5, 131), (72, 141, false, "", 5, 132), (100, 142, false, "", 5, 136), (104, 143, false, "", 5, 140), (108, 126, false, "", 5, 143), (75, 144, false, "", 5, 144), (78, 145, false, "", 5, 148)],
  [(36, 8, true, "StrikeAwake", 1, 212), (89, 41, false, "", 3, 179), (96, 45, false, "", 3, 195), (92, 31, true, "StrikeAwake", 3, 199), (99, 46, false, "", 3, 200), (103, 47, false, "", 3, 204), (113, 126, false, "", 5, 176), (118, 151, false, "", 5, 177), (121, 36, true, "StrikeAwake", 5, 181)],
  [(58, 48, false, "", 3, 208), (78, 49, false, "", 3, 212), (74, 31, true, "StrikeAwake", 3, 215)],
  [(54, 170, false, "", 6, 190), (333, 171, true, "StrikeAwakeModel", 6, 196), (118, 172, false, "", 7, 62), (81, 173, false, "", 7, 66), (90, 174, false, "", 7, 70), (98, 175, false, "", 7, 74), (334, 176, false, "", 7, 77), (179, 177, false, "", 7, 81), (114, 178, false, "", 7, 86), (110, 179, false, "", 7, 90), (191, 180, false, "", 7, 95), (121, 181, false, "", 7, 99), (216, 182, false, "", 7, 104), (133, 183, false, "", 7, 108), (137, 184, false, "", 7, 112), (129, 185, false, "", 7, 116), (125, 186, false, "", 7, 120), (194, 187, false, "", 7, 126), (228, 188, false, "", 7, 130), (162, 189, false, "", 7, 134), (170, 190, false, "", 7, 147), (235, 191, false, "", 7, 153), (240, 192, false, "", 7, 157), (197, 193, false, "", 7, 161), (273, 194, false, "", 7, 165), (176, 195, false, "", 7, 169), (200, 196, false, "", 7, 173), (279, 197, false, "", 7, 177), (203, 198, false, "", 7, 181), (206, 199, false, "", 7, 185), (209, 200, false, "", 7, 190), (309, 201, false, "", 7, 194), (318, 202, false, "", 7, 198), (212, 203, false, "", 7, 201), (182, 204, false, "", 7, 205), (346, 205, false, "", 7, 209), (350, 206, false, "", 7, 212), (357, 207, false, "", 7, 216), (360, 208, false, "", 7, 220), (58, 209, false, "", 7, 224), (364, 213, false, "", 8, 0), (367, 215, false, "", 8, 8), (370, 216, false, "", 8, 12), (373, 218, false, "", 8, 20), (376, 220, false, "", 8, 28), (380, 221, false, "", 8, 32), (400, 223, false, "", 8, 40), (403, 224, false, "", 8, 44), (406, 227, false, "", 8, 56), (386, 228, false, "", 8, 60), (384, 229, false, "", 8, 64), (412, 231, false, "", 8, 72), (415, 232, false, "", 8, 76), (409, 233, false, "", 8, 80), (390, 234, false, "", 8, 84), (393, 235, false, "", 8, 88), (418, 238, false, "", 8, 100), (397, 239, false, "", 8, 104), (433, 241, false, "", 8, 112), (430, 242, false, "", 8, 117), (425, 243, false, "", 8, 121), (440, 247, false, "", 8, 137), (437, 248, false, "", 8, 141), (444, 251, false, "", 8, 153), (447, 253, false, "", 8, 161), (452, 257, false, "", 8, 178), (455, 262, false, "", 8, 198), (458, 264, false, "", 8, 206), (467, 267, false, "", 8, 218), (470, 268, false, "", 8, 222), (462, 269, false, "", 8, 226), (465, 270, false, "", 8, 229), (473, 273, false, "", 9, 1), (476, 274, false, "", 9, 5), (481, 277, false, "", 9, 18), (484, 278, false, "", 9, 22), (487, 280, false, "", 9, 30), (490, 281, false, "", 9, 34)],
  [],
  [(15, 0, false, "", 1, 27), (19, 9, false, "", 2, 209), (24, 11, false, "", 2, 217), (28, 52, false, "", 3, 224), (33, 53, false, "", 3, 228), (37, 54, false, "", 3, 232), (41, 56, false, "", 4, 0), (46, 59, false, "", 4, 18), (50, 61, false, "", 4, 27), (55, 62, false, "", 4, 31), (60, 65, false, "", 4, 43), (64, 66, false, "", 4, 47), (68, 73, false, "", 4, 77), (72, 77, false, "", 4, 95), (76, 78, false, "", 4, 100), (80, 82, false, "", 4, 116), (84, 92, false, "", 4, 162), (88, 93, false, "", 4, 166), (93, 97, false, "", 4, 182), (97, 98, false, "", 4, 186), (101, 99, false, "", 4, 190), (105, 101, false, "", 4, 199), (109, 104, false, "", 4, 212), (114, 105, false, "", 4, 216), (118, 107, false, "", 4, 225), (122, 108, false, "", 4, 229), (126, 109, false, "", 4, 233), (130, 112, false, "", 5, 5), (135, 114, false, "", 5, 13), (139, 117, false, "", 5, 24), (143, 119, false, "", 5, 32), (147, 120, false, "", 5, 36), (151, 130, false, "", 5, 79), (155, 132, false, "", 5, 88), (159, 135, false, "", 5, 100), (163, 137, false, "", 5, 114), (167, 146, false, "", 5, 152), (171, 147, false, "", 5, 156), (175, 149, false, "", 5, 168), (179, 152, false, "", 5, 182), (183, 153, false, "", 5, 187), (187, 154, false, "", 5, 192), (192, 155, false, "", 5, 196), (196, 156, false, "", 5, 200), (200, 157, false, "", 5, 205), (204, 158, false, "", 5, 209), (209, 159, false, "", 5, 213), (215, 161, false, "", 5, 222), (226, 164, false, "", 5, 235), (230, 165, false, "", 5, 239), (7, 166, false, "", 6, 7), (18, 167, false, "", 6, 78), (23, 168, false, "", 6, 182), (27, 169, false, "", 6, 186), (32, 210, false, "", 7, 228), (36, 211, false, "", 7, 232), (40, 212, false, "", 7, 236), (45, 214, false, "", 8, 4), (49, 217, false, "", 8, 16), (54, 219, false, "", 8, 24), (59, 222, false, "", 8, 36), (63, 225, false, "", 8, 48), (67, 226, false, "", 8, 52), (71, 230, false, "", 8, 68), (75, 236, false, "", 8, 92), (79, 237, false, "", 8, 96), (83, 240, false, "", 8, 108), (87, 244, false, "", 8, 125), (92, 245, false, "", 8, 129), (96, 246, false, "", 8, 133), (100, 249, false, "", 8, 145), (104, 250, false, "", 8, 149), (108, 252, false, "", 8, 157), (113, 254, false, "", 8, 165), (117, 255, false, "", 8, 169), (121, 256, false, "", 8, 174), (125, 258, false, "", 8, 182), (129, 259, false, "", 8, 186), (134, 260, false, "", 8, 190), (138, 261, false, "", 8, 194), (142, 263, false, "", 8, 202), (146, 265, false, "", 8, 210), (150, 266, false, "", 8, 214), (154, 271, false, "", 8, 233), (158, 272, false, "", 8, 237), (162, 275, false, "", 9, 9), (166, 276, false, "", 9, 13), (170, 279, false, "", 9, 26), (174, 282, false, "", 9, 38), (178, 283, false, "", 9, 42), (182, 284, false, "", 9, 46), (186, 285, false, "", 9, 50), (191, 286, false, "", 9, 54), (195, 287, false, "", 9, 58), (199, 288, false, "", 9, 62), (203, 289, false, "", 9, 66), (208, 290, false, "", 9, 70), (212, 291, false, "", 9, 74), (219, 292, false, "", 9, 79), (225, 293, false, "", 9, 83), (229, 294, false, "", 9, 87), (233, 295, false, "", 9, 91)],
  [],
  [],
  [],
  [],
  [],
  [],
  [],
  []]
/-- Object.<init> by class and pool entry: entry, word -/
def mc_ol : List (List (Nat × Nat × Nat)) := [
  [(1, 1, 30)],
  [(3, 1, 38)],
  [(1, 1, 44)],
  [(3, 1, 95)],
  [(3, 1, 122)],
  [(3, 1, 170)],
  [(3, 1, 192)],
  [(3, 1, 208)],
  [(3, 1, 215)],
  [(1, 6, 81)],
  [(3, 6, 199)],
  [],
  [],
  [],
  [],
  [],
  [],
  [],
  [],
  []]
theorem mc_oi : mc_at (1, 31) (.instanceMethod Lib.objectInit) = true := by decide +kernel
theorem mc_oc : mc_at (1, 32) (.code Lib.objectInit ⟨#[0xb1]⟩ 1 none) = true := by decide +kernel
/-- arrays of arrays by class and pool entry: entry, which (int, long), word -/
def mc_gl : List (List (Nat × Nat × Nat × Nat)) := [
  [],
  [],
  [],
  [],
  [(15, 0, 1, 123), (20, 1, 1, 125)],
  [],
  [],
  [],
  [],
  [],
  [],
  [],
  [],
  [],
  [],
  [],
  [],
  [],
  [],
  []]
def mc_gn (k : Nat) : String := if k = 0 then "[[I" else "[[J"
theorem mc_gl_ok : mc_each mc_gl (fun own e => mc_at e.2.2 (.classLink (mc_cn own) e.1 (mc_gn e.2.1))) = true := by decide +kernel
/-- the JDK's methods of constants by class and pool entry: entry, which (String.length, String.charAt, Enum.ordinal), word -/
def mc_pl : List (List (Nat × Nat × Nat × Nat)) := [
  [],
  [(83, 2, 3, 89)],
  [(44, 0, 3, 19), (49, 1, 3, 29)],
  [],
  [],
  [],
  [],
  [(80, 2, 3, 77)],
  [],
  [(64, 0, 7, 93), (71, 1, 7, 94)],
  [],
  [],
  [],
  [],
  [],
  [],
  [],
  [],
  [],
  []]
def mc_pn (k : Nat) : MethodName := if k = 0 then ⟨"java/lang/String", "length", "()I"⟩ else if k = 1 then ⟨"java/lang/String", "charAt", "(I)C"⟩ else ⟨"StrikeAwake$Reserved", "ordinal", "()I"⟩
theorem mc_pl_ok : mc_each mc_pl (fun own e => mc_at e.2.2 (.methodLink (mc_cn own) e.1 (mc_pn e.2.1))) = true := by decide +kernel
/-- the texts of string constants, as bytes -/
def mc_sb : List (Nat × List Int32) := [(32, [108, 97, 119]), (33, [112, 101, 114, 115, 111, 110]), (34, [115, 101, 120, 116, 111, 110]), (35, [97, 112, 97, 114, 116]), (36, [98, 111, 114, 110]), (37, [115, 116, 114, 117, 99, 107]), (38, [116, 111, 108, 100]), (39, [111, 102, 102, 101, 114]), (40, [104, 97, 98, 105, 116]), (41, [110, 97, 112]), (42, [97, 119, 97, 121]), (64, [104, 111, 117, 114, 115]), (65, [98, 101, 115, 105, 100, 101]), (66, [111, 102, 102]), (67, [98, 101, 100]), (68, [116, 111]), (69, [108, 111, 110, 103]), (70, [105, 115]), (71, [116, 104, 101, 114, 101, 32, 105, 115, 32, 110, 111, 32, 115, 117, 99, 104, 32, 112, 101, 114, 115, 111, 110, 32, 97, 119, 97, 121]), (72, [108, 97, 119]), (73, [104, 111, 117, 114, 115]), (74, [98, 101, 115, 105, 100, 101]), (75, [111, 102, 102]), (76, [112, 101, 114, 115, 111, 110]), (77, [115, 101, 120, 116, 111, 110]), (78, [97, 112, 97, 114, 116]), (79, [98, 111, 114, 110]), (80, [115, 116, 114, 117, 99, 107]), (81, [116, 111, 108, 100]), (82, [111, 102, 102, 101, 114]), (83, [104, 97, 98, 105, 116]), (84, [110, 97, 112]), (85, [97, 119, 97, 121]), (86, [98, 101, 100]), (87, [116, 111]), (88, [108, 111, 110, 103]), (89, [105, 115])]
/-- Math by class and pool entry: entry, which (min, max, abs), word -/
def mc_jl : List (List (Nat × Nat × Nat × Nat)) := [
  [],
  [(263, 0, 3, 127)],
  [(13, 0, 2, 237)],
  [],
  [(104, 0, 4, 156), (110, 1, 4, 157)],
  [],
  [(55, 1, 5, 112)],
  [],
  [(84, 2, 4, 12), (90, 1, 4, 15)],
  [],
  [],
  [],
  [],
  [],
  [],
  [],
  [],
  [],
  [],
  []]
theorem mc_j_min : mc_at (2, 238) (.static Lib.Math.min.name) = true ∧ mc_at (2, 239) (.code Lib.Math.min.name Lib.Math.min.code 2 (some .int)) = true ∧ mc_at (1, 11) (.initialized "java/lang/Math") = true := by decide +kernel
theorem mc_j_max : mc_at (4, 16) (.static Lib.Math.max.name) = true ∧ mc_at (4, 17) (.code Lib.Math.max.name Lib.Math.max.code 2 (some .int)) = true ∧ mc_at (1, 11) (.initialized "java/lang/Math") = true := by decide +kernel
theorem mc_j_abs : mc_at (4, 13) (.static Lib.Math.abs.name) = true ∧ mc_at (4, 14) (.code Lib.Math.abs.name Lib.Math.abs.code 1 (some .int)) = true ∧ mc_at (1, 11) (.initialized "java/lang/Math") = true := by decide +kernel
/-- classes by class and pool entry: entry, class, word -/
def mc_kl : List (List (Nat × Nat × Nat × Nat)) := [
  [(13, 1, 1, 33), (20, 3, 1, 90), (27, 4, 1, 117), (34, 5, 1, 165), (41, 6, 1, 187), (48, 7, 1, 203)],
  [(9, 2, 1, 39)],
  [],
  [],
  [],
  [],
  [],
  [(9, 8, 1, 209)],
  [],
  [(171, 10, 6, 194)],
  [],
  [(8, 0, 1, 25), (16, 9, 6, 76)],
  [],
  [],
  [],
  [],
  [],
  [],
  [],
  []]
/-- statics by class and pool entry: entry, static, nest, host, word -/
def mc_sl : List (List (Nat × Nat × Bool × String × Nat × Nat)) := [
  [],
  [(258, 0, true, "StrikeAwake", 3, 13), (67, 2, false, "", 3, 83), (71, 4, false, "", 3, 85), (77, 1, false, "", 3, 88), (178, 10, false, "", 3, 133), (191, 11, false, "", 3, 135), (200, 12, false, "", 3, 141)],
  [],
  [],
  [],
  [],
  [],
  [(75, 1, false, "", 3, 75)],
  [],
  [],
  [],
  [],
  [],
  [],
  [],
  [],
  [],
  [],
  [],
  []]
/-- constants by class and pool entry: entry, value, word -/
def mc_cs : List (List (Nat × Value × Nat × Nat)) := [
  [(350, .int 16777215, 3, 140), (348, .long 20000, 4, 128), (252, .long 5000, 5, 118)],
  [],
  [(36, .long 32, 3, 4)],
  [],
  [(130, .long 100, 4, 224)],
  [],
  [],
  [(125, .long 40, 5, 221), (130, .long 20000, 5, 230)],
  [],
  [(69, .long 32, 7, 73), (428, .long 20000, 8, 116), (450, .long 100, 8, 173), (479, .long 5000, 9, 17), (493, .long 40, 9, 78)],
  [],
  [(213, .long 4294967295, 9, 95)],
  [],
  [],
  [],
  [(265, .int 1431655765, 5, 63), (266, .int 858993459, 5, 64), (267, .int 252645135, 5, 65)],
  [],
  [],
  [],
  []]
/-- statics: class, name, descriptor, the constant that it holds -/
def mc_st : List (String × String × String × Nat) := [("StrikeAwake", "RESERVED", "[LStrikeAwake$Reserved;", 1), ("StrikeAwake$1", "$SwitchMap$StrikeAwake$Reserved", "[I", 2), ("StrikeAwake$Reserved", "LAW", "LStrikeAwake$Reserved;", 16), ("StrikeAwake$Reserved", "PERSON", "LStrikeAwake$Reserved;", 17), ("StrikeAwake$Reserved", "SEXTON", "LStrikeAwake$Reserved;", 18), ("StrikeAwake$Reserved", "APART", "LStrikeAwake$Reserved;", 19), ("StrikeAwake$Reserved", "BORN", "LStrikeAwake$Reserved;", 20), ("StrikeAwake$Reserved", "STRUCK", "LStrikeAwake$Reserved;", 21), ("StrikeAwake$Reserved", "TOLD", "LStrikeAwake$Reserved;", 22), ("StrikeAwake$Reserved", "OFFER", "LStrikeAwake$Reserved;", 23), ("StrikeAwake$Reserved", "HABIT", "LStrikeAwake$Reserved;", 24), ("StrikeAwake$Reserved", "NAP", "LStrikeAwake$Reserved;", 25), ("StrikeAwake$Reserved", "AWAY", "LStrikeAwake$Reserved;", 26)]
/-- strings: class, entry, text, constant, word -/
def mc_sr : List (Nat × Nat × String × Nat × Nat × Nat) := [(1, 114, "hours", 64, 3, 94), (1, 123, "beside", 65, 3, 103), (1, 125, "off", 66, 3, 104), (1, 152, "bed", 67, 3, 121), (1, 262, "to", 68, 3, 126), (1, 170, "long", 69, 3, 128), (1, 236, "is", 70, 3, 174), (0, 322, "there is no such person away", 71, 6, 50), (9, 140, "law", 72, 7, 85), (9, 215, "hours", 73, 7, 103), (9, 220, "beside", 74, 7, 123), (9, 224, "off", 75, 7, 124), (9, 142, "person", 76, 7, 125), (9, 144, "sexton", 77, 7, 138), (9, 146, "apart", 78, 7, 139), (9, 148, "born", 79, 7, 140), (9, 150, "struck", 80, 7, 141), (9, 152, "told", 81, 7, 142), (9, 154, "offer", 82, 7, 143), (9, 156, "habit", 83, 7, 144), (9, 158, "nap", 84, 7, 145), (9, 160, "away", 85, 7, 146), (9, 232, "bed", 86, 7, 151), (9, 233, "to", 87, 7, 152), (9, 238, "long", 88, 7, 156), (9, 298, "is", 89, 7, 189), (12, 67, "law", 32, 9, 123), (12, 76, "sexton", 34, 9, 124), (12, 94, "habit", 40, 9, 125), (12, 97, "nap", 41, 9, 126), (12, 100, "away", 42, 9, 127), (12, 73, "person", 33, 9, 128), (12, 79, "apart", 35, 9, 129), (12, 82, "born", 36, 9, 130), (12, 85, "struck", 37, 9, 131), (12, 88, "told", 38, 9, 132), (12, 91, "offer", 39, 9, 133)]
def mc_kf (ci : Nat) : List (String × String × String) := if ci = 20 then [("StrikeAwake$Reserved", "word", "Ljava/lang/String;"), ("StrikeAwake$Reserved", "room", "I")] else []
/-- methods: class, name, bytes, locals, answer, parameters, sort (0 static, 1 by receiver, 2 constructor) -/
def mc_mt_0 : List (Nat × MethodName × ByteArray × Nat × Option FieldType × Nat × Nat) := [
  (0, ⟨"StrikeAwake", "<init>", "()V"⟩, prog_1_method_1_code, 1, none, 0, 2),
  (1, ⟨"StrikeAwake$Reader", "<init>", "()V"⟩, prog_8_method_1_code, 1, none, 0, 2),
  (2, ⟨"StrikeAwake$Tokens", "<init>", "()V"⟩, prog_10_method_1_code, 1, none, 0, 2),
  (3, ⟨"StrikeAwake$Walk", "<init>", "()V"⟩, prog_11_method_1_code, 1, none, 0, 2),
  (4, ⟨"StrikeAwake$Census", "<init>", "()V"⟩, prog_4_method_1_code, 1, none, 0, 2),
  (5, ⟨"StrikeAwake$Asking", "<init>", "()V"⟩, prog_3_method_1_code, 1, none, 0, 2),
  (6, ⟨"StrikeAwake$Grounds", "<init>", "()V"⟩, prog_5_method_1_code, 1, none, 0, 2),
  (7, ⟨"StrikeAwake$Parish", "<init>", "()V"⟩, prog_6_method_1_code, 2, none, 0, 2),
  (8, ⟨"StrikeAwake$Person", "<init>", "()V"⟩, prog_7_method_1_code, 1, none, 0, 2),
  (0, ⟨"StrikeAwake", "feed", "(IIIII)I"⟩, prog_1_method_2_code, 6, some FieldType.int, 5, 1),
  (0, ⟨"StrikeAwake", "putOnTape", "(I)V"⟩, prog_1_method_52_code, 3, none, 1, 1),
  (0, ⟨"StrikeAwake", "parish", "(I)I"⟩, prog_1_method_3_code, 4, some FieldType.int, 1, 1),
  (0, ⟨"StrikeAwake", "refuse", "(I)I"⟩, prog_1_method_54_code, 2, some FieldType.int, 1, 1),
  (1, ⟨"StrikeAwake$Reader", "reads", "([BILStrikeAwake$Parish;)Z"⟩, prog_8_method_2_code, 5, some FieldType.boolean, 3, 1),
  (7, ⟨"StrikeAwake$Parish", "clear", "()V"⟩, prog_6_method_2_code, 2, none, 0, 1),
  (2, ⟨"StrikeAwake$Tokens", "begin", "([BI)V"⟩, prog_10_method_2_code, 3, none, 2, 1),
  (2, ⟨"StrikeAwake$Tokens", "advance", "()V"⟩, prog_10_method_3_code, 4, none, 0, 1),
  (1, ⟨"StrikeAwake$Reader", "readsLine", "(LStrikeAwake$Parish;)Z"⟩, prog_8_method_3_code, 4, some FieldType.boolean, 1, 1),
  (1, ⟨"StrikeAwake$Reader", "reserved", "()LStrikeAwake$Reserved;"⟩, prog_8_method_14_code, 2, some (FieldType.object "StrikeAwake$Reserved"), 0, 1),
  (2, ⟨"StrikeAwake$Tokens", "isWord", "(Ljava/lang/String;)Z"⟩, prog_10_method_4_code, 5, some FieldType.boolean, 1, 1),
  (1, ⟨"StrikeAwake$Reader", "fail", "(I)Z"⟩, prog_8_method_13_code, 2, some FieldType.boolean, 1, 1),
  (7, ⟨"StrikeAwake$Parish", "linesOf", "(LStrikeAwake$Reserved;)I"⟩, prog_6_method_3_code, 2, some FieldType.int, 1, 1),
  (1, ⟨"StrikeAwake$Reader", "readsLaw", "(LStrikeAwake$Parish;)Z"⟩, prog_8_method_4_code, 5, some FieldType.boolean, 1, 1),
  (1, ⟨"StrikeAwake$Reader", "takesWord", "(Ljava/lang/String;)Z"⟩, prog_8_method_18_code, 2, some FieldType.boolean, 1, 1),
  (1, ⟨"StrikeAwake$Reader", "whole", "(II)I"⟩, prog_8_method_19_code, 4, some FieldType.int, 2, 1),
  (1, ⟨"StrikeAwake$Reader", "readsPerson", "(LStrikeAwake$Parish;)Z"⟩, prog_8_method_5_code, 3, some FieldType.boolean, 1, 1),
  (1, ⟨"StrikeAwake$Reader", "isName", "()Z"⟩, prog_8_method_15_code, 1, some FieldType.boolean, 0, 1),
  (7, ⟨"StrikeAwake$Parish", "personNamed", "(J)I"⟩, prog_6_method_4_code, 4, some FieldType.int, 1, 1),
  (8, ⟨"StrikeAwake$Person", "clear", "(J)V"⟩, prog_7_method_2_code, 3, none, 1, 1),
  (1, ⟨"StrikeAwake$Reader", "takesRange", "(IIII)Z"⟩, prog_8_method_20_code, 5, some FieldType.boolean, 4, 1),
  (1, ⟨"StrikeAwake$Reader", "readsCustoms", "(LStrikeAwake$Parish;)Z"⟩, prog_8_method_6_code, 3, some FieldType.boolean, 1, 1),
  (0, ⟨"StrikeAwake", "hourBits", "(II)I"⟩, prog_1_method_67_code, 2, some FieldType.int, 2, 0)]
def mc_mi_0 : List ((Nat × Nat) × (Nat × Nat) × (Nat × Nat) × (Nat × Nat)) := [((1, 29), (1, 28), (0, 0), (1, 1)), ((1, 37), (1, 36), (0, 0), (1, 2)), ((1, 43), (1, 42), (0, 0), (1, 3)), ((1, 94), (1, 93), (0, 0), (1, 4)), ((1, 121), (1, 120), (0, 0), (1, 5)), ((1, 169), (1, 168), (0, 0), (1, 6)), ((1, 191), (1, 190), (0, 0), (1, 7)), ((1, 207), (1, 206), (0, 0), (1, 8)), ((1, 214), (1, 213), (0, 0), (1, 9)), ((2, 212), (2, 210), (2, 211), (1, 1)), ((2, 216), (2, 215), (0, 0), (1, 1)), ((2, 220), (2, 218), (2, 219), (1, 1)), ((2, 224), (2, 223), (0, 1), (1, 1)), ((2, 228), (2, 226), (2, 227), (1, 2)), ((2, 232), (2, 230), (2, 231), (1, 8)), ((2, 236), (2, 234), (2, 235), (1, 3)), ((3, 3), (3, 1), (3, 2), (1, 3)), ((3, 8), (3, 7), (0, 2), (1, 2)), ((3, 12), (3, 11), (0, 3), (1, 2)), ((3, 18), (3, 16), (3, 17), (1, 3)), ((3, 70), (3, 69), (0, 4), (1, 2)), ((3, 74), (3, 72), (3, 73), (1, 8)), ((3, 93), (3, 92), (0, 5), (1, 2)), ((3, 98), (3, 97), (0, 6), (1, 2)), ((3, 102), (3, 101), (0, 7), (1, 2)), ((3, 108), (3, 107), (0, 8), (1, 2)), ((3, 112), (3, 111), (0, 9), (1, 2)), ((3, 116), (3, 114), (3, 115), (1, 8)), ((3, 120), (3, 118), (3, 119), (1, 9)), ((3, 125), (3, 124), (0, 10), (1, 2)), ((3, 132), (3, 131), (0, 11), (1, 2)), ((3, 139), (3, 138), (0, 0), (1, 1))]
def mc_mt_1 : List (Nat × MethodName × ByteArray × Nat × Option FieldType × Nat × Nat) := [
  (1, ⟨"StrikeAwake$Reader", "readsSexton", "(LStrikeAwake$Parish;)Z"⟩, prog_8_method_7_code, 3, some FieldType.boolean, 1, 1),
  (1, ⟨"StrikeAwake$Reader", "knownPerson", "(LStrikeAwake$Parish;)I"⟩, prog_8_method_16_code, 3, some FieldType.int, 1, 1),
  (1, ⟨"StrikeAwake$Reader", "readsApart", "(LStrikeAwake$Parish;)Z"⟩, prog_8_method_8_code, 4, some FieldType.boolean, 1, 1),
  (1, ⟨"StrikeAwake$Reader", "takes", "(I)Z"⟩, prog_8_method_17_code, 2, some FieldType.boolean, 1, 1),
  (0, ⟨"StrikeAwake", "hasBit", "(II)Z"⟩, prog_1_method_66_code, 2, some FieldType.boolean, 2, 0),
  (1, ⟨"StrikeAwake$Reader", "readsBorn", "(LStrikeAwake$Parish;)Z"⟩, prog_8_method_9_code, 3, some FieldType.boolean, 1, 1),
  (1, ⟨"StrikeAwake$Reader", "readsStruck", "(LStrikeAwake$Parish;)Z"⟩, prog_8_method_10_code, 4, some FieldType.boolean, 1, 1),
  (7, ⟨"StrikeAwake$Parish", "isStruck", "(I)Z"⟩, prog_6_method_5_code, 2, some FieldType.boolean, 1, 1),
  (7, ⟨"StrikeAwake$Parish", "setStroke", "(II)V"⟩, prog_6_method_6_code, 3, none, 2, 1),
  (7, ⟨"StrikeAwake$Parish", "listStruck", "()V"⟩, prog_6_method_7_code, 2, none, 0, 1),
  (1, ⟨"StrikeAwake$Reader", "readsTold", "(LStrikeAwake$Parish;)Z"⟩, prog_8_method_11_code, 3, some FieldType.boolean, 1, 1),
  (1, ⟨"StrikeAwake$Reader", "readsOffer", "(LStrikeAwake$Parish;)Z"⟩, prog_8_method_12_code, 2, some FieldType.boolean, 1, 1),
  (7, ⟨"StrikeAwake$Parish", "settle", "()V"⟩, prog_6_method_9_code, 3, none, 0, 1),
  (7, ⟨"StrikeAwake$Parish", "allHours", "()I"⟩, prog_6_method_8_code, 1, some FieldType.int, 0, 1),
  (7, ⟨"StrikeAwake$Parish", "hoursStruckUpTo", "(I)I"⟩, prog_6_method_10_code, 4, some FieldType.int, 1, 1),
  (8, ⟨"StrikeAwake$Person", "makeSpans", "(II)V"⟩, prog_7_method_3_code, 6, none, 2, 1),
  (8, ⟨"StrikeAwake$Person", "addSpan", "(IIII)V"⟩, prog_7_method_4_code, 5, none, 4, 1),
  (3, ⟨"StrikeAwake$Walk", "tallyOf", "(I)J"⟩, prog_11_method_2_code, 4, some FieldType.long, 1, 0),
  (4, ⟨"StrikeAwake$Census", "forget", "()V"⟩, prog_4_method_2_code, 1, none, 0, 1),
  (0, ⟨"StrikeAwake", "answer", "(I)I"⟩, prog_1_method_53_code, 2, some FieldType.int, 1, 1),
  (0, ⟨"StrikeAwake", "fault", "()I"⟩, prog_1_method_4_code, 1, some FieldType.int, 0, 1),
  (0, ⟨"StrikeAwake", "where", "()I"⟩, prog_1_method_5_code, 1, some FieldType.int, 0, 1),
  (0, ⟨"StrikeAwake", "spans", "(I)I"⟩, prog_1_method_6_code, 2, some FieldType.int, 1, 1),
  (0, ⟨"StrikeAwake", "isPerson", "(I)Z"⟩, prog_1_method_57_code, 2, some FieldType.boolean, 1, 1),
  (0, ⟨"StrikeAwake", "span", "(III)I"⟩, prog_1_method_7_code, 5, some FieldType.int, 3, 1),
  (0, ⟨"StrikeAwake", "isSpan", "(II)Z"⟩, prog_1_method_58_code, 3, some FieldType.boolean, 2, 1),
  (8, ⟨"StrikeAwake$Person", "weightOf", "(I)I"⟩, prog_7_method_5_code, 2, some FieldType.int, 1, 1),
  (0, ⟨"StrikeAwake", "awake", "(III)I"⟩, prog_1_method_8_code, 4, some FieldType.int, 3, 1),
  (0, ⟨"StrikeAwake", "isHour", "(I)Z"⟩, prog_1_method_59_code, 2, some FieldType.boolean, 1, 1),
  (0, ⟨"StrikeAwake", "lots", "()J"⟩, prog_1_method_9_code, 1, some FieldType.long, 0, 1),
  (0, ⟨"StrikeAwake", "say", "(II)Z"⟩, prog_1_method_10_code, 3, some FieldType.boolean, 2, 1),
  (0, ⟨"StrikeAwake", "deny", "(I)Z"⟩, prog_1_method_56_code, 2, some FieldType.boolean, 1, 1)]
def mc_mi_1 : List ((Nat × Nat) × (Nat × Nat) × (Nat × Nat) × (Nat × Nat)) := [((3, 146), (3, 145), (0, 12), (1, 2)), ((3, 150), (3, 149), (0, 13), (1, 2)), ((3, 154), (3, 153), (0, 14), (1, 2)), ((3, 158), (3, 157), (0, 15), (1, 2)), ((3, 161), (3, 160), (0, 0), (1, 1)), ((3, 165), (3, 164), (0, 16), (1, 2)), ((3, 169), (3, 168), (0, 17), (1, 2)), ((3, 173), (3, 171), (3, 172), (1, 8)), ((3, 178), (3, 176), (3, 177), (1, 8)), ((3, 182), (3, 181), (0, 18), (1, 8)), ((3, 186), (3, 185), (0, 19), (1, 2)), ((3, 190), (3, 189), (0, 20), (1, 2)), ((3, 194), (3, 192), (3, 193), (1, 8)), ((3, 198), (3, 196), (3, 197), (1, 8)), ((3, 203), (3, 201), (3, 202), (1, 8)), ((3, 207), (3, 205), (3, 206), (1, 9)), ((3, 211), (3, 210), (0, 21), (1, 9)), ((3, 214), (3, 213), (0, 0), (1, 4)), ((3, 219), (3, 217), (3, 218), (1, 5)), ((3, 223), (3, 222), (0, 22), (1, 1)), ((3, 227), (3, 225), (3, 226), (1, 1)), ((3, 231), (3, 229), (3, 230), (1, 1)), ((3, 235), (3, 233), (3, 234), (1, 1)), ((3, 239), (3, 238), (0, 23), (1, 1)), ((4, 3), (4, 1), (4, 2), (1, 1)), ((4, 7), (4, 6), (0, 24), (1, 1)), ((4, 11), (4, 9), (4, 10), (1, 9)), ((4, 21), (4, 19), (4, 20), (1, 1)), ((4, 25), (4, 24), (0, 25), (1, 1)), ((4, 30), (4, 28), (4, 29), (1, 1)), ((4, 34), (4, 32), (4, 33), (1, 1)), ((4, 38), (4, 37), (0, 26), (1, 1))]
def mc_mt_2 : List (Nat × MethodName × ByteArray × Nat × Option FieldType × Nat × Nat) := [
  (0, ⟨"StrikeAwake", "grant", "()Z"⟩, prog_1_method_55_code, 1, some FieldType.boolean, 0, 1),
  (0, ⟨"StrikeAwake", "said", "(I)I"⟩, prog_1_method_11_code, 2, some FieldType.int, 1, 1),
  (0, ⟨"StrikeAwake", "strikes", "(I)I"⟩, prog_1_method_12_code, 3, some FieldType.int, 1, 1),
  (0, ⟨"StrikeAwake", "barOfSaid", "(Z)I"⟩, prog_1_method_61_code, 2, some FieldType.int, 1, 1),
  (3, ⟨"StrikeAwake$Walk", "toSaid", "(LStrikeAwake$Parish;)V"⟩, prog_11_method_4_code, 3, none, 1, 1),
  (3, ⟨"StrikeAwake$Walk", "countBirths", "(LStrikeAwake$Parish;)V"⟩, prog_11_method_6_code, 4, none, 1, 1),
  (3, ⟨"StrikeAwake$Walk", "countFrom", "(LStrikeAwake$Parish;I)V"⟩, prog_11_method_7_code, 6, none, 2, 1),
  (3, ⟨"StrikeAwake$Walk", "quarrelsOf", "(LStrikeAwake$Parish;I)I"⟩, prog_11_method_8_code, 7, some FieldType.int, 2, 1),
  (3, ⟨"StrikeAwake$Walk", "strokesDue", "(I)I"⟩, prog_11_method_12_code, 6, some FieldType.int, 1, 1),
  (0, ⟨"StrikeAwake", "judge", "()I"⟩, prog_1_method_13_code, 2, some FieldType.int, 0, 1),
  (3, ⟨"StrikeAwake$Walk", "firstWrong", "(LStrikeAwake$Parish;)I"⟩, prog_11_method_14_code, 3, some FieldType.int, 1, 1),
  (3, ⟨"StrikeAwake$Walk", "wrongIn", "(LStrikeAwake$Parish;I)I"⟩, prog_11_method_13_code, 3, some FieldType.int, 2, 1),
  (7, ⟨"StrikeAwake$Parish", "verdict", "(II)I"⟩, prog_6_method_11_code, 4, some FieldType.int, 2, 1),
  (0, ⟨"StrikeAwake", "why", "()I"⟩, prog_1_method_14_code, 3, some FieldType.int, 0, 1),
  (0, ⟨"StrikeAwake", "agrees", "()I"⟩, prog_1_method_15_code, 2, some FieldType.int, 0, 1),
  (3, ⟨"StrikeAwake$Walk", "isWorld", "(LStrikeAwake$Parish;)Z"⟩, prog_11_method_16_code, 2, some FieldType.boolean, 1, 1),
  (3, ⟨"StrikeAwake$Walk", "isQuarrel", "()Z"⟩, prog_11_method_10_code, 1, some FieldType.boolean, 0, 1),
  (3, ⟨"StrikeAwake$Walk", "failsIn", "(LStrikeAwake$Parish;)I"⟩, prog_11_method_15_code, 6, some FieldType.int, 1, 1),
  (0, ⟨"StrikeAwake", "worlds", "()I"⟩, prog_1_method_16_code, 2, some FieldType.int, 0, 1),
  (0, ⟨"StrikeAwake", "barOfWorlds", "(Z)I"⟩, prog_1_method_63_code, 3, some FieldType.int, 1, 1),
  (0, ⟨"StrikeAwake", "barOfLots", "(Z)I"⟩, prog_1_method_62_code, 2, some FieldType.int, 1, 1),
  (4, ⟨"StrikeAwake$Census", "renew", "(LStrikeAwake$Parish;LStrikeAwake$Walk;)V"⟩, prog_4_method_3_code, 4, none, 2, 1),
  (4, ⟨"StrikeAwake$Census", "clear", "()V"⟩, prog_4_method_4_code, 3, none, 0, 1),
  (3, ⟨"StrikeAwake$Walk", "toFirst", "(LStrikeAwake$Parish;)V"⟩, prog_11_method_3_code, 3, none, 1, 1),
  (4, ⟨"StrikeAwake$Census", "enter", "(LStrikeAwake$Parish;LStrikeAwake$Walk;I)V"⟩, prog_4_method_5_code, 7, none, 3, 1),
  (3, ⟨"StrikeAwake$Walk", "pickOf", "(I)I"⟩, prog_11_method_9_code, 2, some FieldType.int, 1, 1),
  (4, ⟨"StrikeAwake$Census", "enterDue", "(II)V"⟩, prog_4_method_6_code, 3, none, 2, 1),
  (3, ⟨"StrikeAwake$Walk", "step", "(LStrikeAwake$Parish;)V"⟩, prog_11_method_5_code, 4, none, 1, 1),
  (0, ⟨"StrikeAwake", "can", "()I"⟩, prog_1_method_17_code, 2, some FieldType.int, 0, 1),
  (0, ⟨"StrikeAwake", "world", "(II)I"⟩, prog_1_method_18_code, 4, some FieldType.int, 2, 1),
  (4, ⟨"StrikeAwake$Census", "numberOf", "(I)I"⟩, prog_4_method_9_code, 4, some FieldType.int, 1, 1),
  (4, ⟨"StrikeAwake$Census", "isWorld", "(I)Z"⟩, prog_4_method_7_code, 2, some FieldType.boolean, 1, 1)]
def mc_mi_2 : List ((Nat × Nat) × (Nat × Nat) × (Nat × Nat) × (Nat × Nat)) := [((4, 42), (4, 41), (0, 27), (1, 1)), ((4, 46), (4, 44), (4, 45), (1, 1)), ((4, 50), (4, 48), (4, 49), (1, 1)), ((4, 54), (4, 53), (0, 28), (1, 1)), ((4, 58), (4, 56), (4, 57), (1, 4)), ((4, 62), (4, 61), (0, 29), (1, 4)), ((4, 68), (4, 67), (0, 30), (1, 4)), ((4, 72), (4, 71), (0, 31), (1, 4)), ((4, 76), (4, 74), (4, 75), (1, 4)), ((4, 80), (4, 78), (4, 79), (1, 1)), ((4, 84), (4, 82), (4, 83), (1, 4)), ((4, 88), (4, 86), (4, 87), (1, 4)), ((4, 93), (4, 91), (4, 92), (1, 8)), ((4, 98), (4, 96), (4, 97), (1, 1)), ((4, 103), (4, 101), (4, 102), (1, 1)), ((4, 107), (4, 105), (4, 106), (1, 4)), ((4, 111), (4, 109), (4, 110), (1, 4)), ((4, 115), (4, 113), (4, 114), (1, 4)), ((4, 119), (4, 117), (4, 118), (1, 1)), ((4, 123), (4, 122), (0, 32), (1, 1)), ((4, 127), (4, 126), (0, 33), (1, 1)), ((4, 132), (4, 130), (4, 131), (1, 5)), ((4, 136), (4, 135), (0, 34), (1, 5)), ((4, 140), (4, 138), (4, 139), (1, 4)), ((4, 145), (4, 144), (0, 35), (1, 5)), ((4, 149), (4, 147), (4, 148), (1, 4)), ((4, 155), (4, 154), (0, 36), (1, 5)), ((4, 161), (4, 159), (4, 160), (1, 4)), ((4, 165), (4, 163), (4, 164), (1, 1)), ((4, 169), (4, 167), (4, 168), (1, 1)), ((4, 173), (4, 171), (4, 172), (1, 5)), ((4, 177), (4, 176), (0, 37), (1, 5))]
def mc_mt_3 : List (Nat × MethodName × ByteArray × Nat × Option FieldType × Nat × Nat) := [
  (7, ⟨"StrikeAwake$Parish", "spanIn", "(II)I"⟩, prog_6_method_12_code, 5, some FieldType.int, 2, 1),
  (0, ⟨"StrikeAwake", "weights", "()J"⟩, prog_1_method_19_code, 2, some FieldType.long, 0, 1),
  (0, ⟨"StrikeAwake", "having", "(II)I"⟩, prog_1_method_20_code, 4, some FieldType.int, 2, 1),
  (0, ⟨"StrikeAwake", "times", "(II)I"⟩, prog_1_method_21_code, 4, some FieldType.int, 2, 1),
  (4, ⟨"StrikeAwake$Census", "countAwake", "(LStrikeAwake$Parish;II)I"⟩, prog_4_method_10_code, 7, some FieldType.int, 3, 1),
  (0, ⟨"StrikeAwake", "sure", "(II)I"⟩, prog_1_method_22_code, 4, some FieldType.int, 2, 1),
  (0, ⟨"StrikeAwake", "barOfSome", "(Z)I"⟩, prog_1_method_64_code, 3, some FieldType.int, 1, 1),
  (4, ⟨"StrikeAwake$Census", "sureness", "(LStrikeAwake$Parish;II)I"⟩, prog_4_method_11_code, 5, some FieldType.int, 3, 1),
  (0, ⟨"StrikeAwake", "surely", "(IZ)I"⟩, prog_1_method_23_code, 7, some FieldType.int, 2, 1),
  (0, ⟨"StrikeAwake", "chance", "(II)I"⟩, prog_1_method_24_code, 4, some FieldType.int, 2, 1),
  (4, ⟨"StrikeAwake$Census", "hundredthsAwake", "(LStrikeAwake$Parish;II)I"⟩, prog_4_method_12_code, 8, some FieldType.int, 3, 1),
  (0, ⟨"StrikeAwake", "likeliest", "(I)I"⟩, prog_1_method_25_code, 3, some FieldType.int, 1, 1),
  (0, ⟨"StrikeAwake", "greatest", "()J"⟩, prog_1_method_26_code, 2, some FieldType.long, 0, 1),
  (0, ⟨"StrikeAwake", "together", "(II)I"⟩, prog_1_method_27_code, 4, some FieldType.int, 2, 1),
  (4, ⟨"StrikeAwake$Census", "bothAwake", "(LStrikeAwake$Parish;II)I"⟩, prog_4_method_13_code, 6, some FieldType.int, 3, 1),
  (4, ⟨"StrikeAwake$Census", "awakeHours", "(LStrikeAwake$Parish;II)I"⟩, prog_4_method_14_code, 4, some FieldType.int, 3, 0),
  (0, ⟨"StrikeAwake", "possible", "(I)J"⟩, prog_1_method_28_code, 3, some FieldType.long, 1, 1),
  (4, ⟨"StrikeAwake$Census", "spansHeld", "(LStrikeAwake$Parish;I)J"⟩, prog_4_method_17_code, 6, some FieldType.long, 2, 1),
  (0, ⟨"StrikeAwake", "hiding", "(II)I"⟩, prog_1_method_29_code, 4, some FieldType.int, 2, 1),
  (4, ⟨"StrikeAwake$Census", "awakeBeside", "(LStrikeAwake$Parish;II)I"⟩, prog_4_method_15_code, 7, some FieldType.int, 3, 1),
  (4, ⟨"StrikeAwake$Census", "peopleAwake", "(LStrikeAwake$Parish;II)I"⟩, prog_4_method_16_code, 5, some FieldType.int, 3, 0),
  (0, ⟨"StrikeAwake", "bed", "(IZ)I"⟩, prog_1_method_30_code, 4, some FieldType.int, 2, 1),
  (4, ⟨"StrikeAwake$Census", "outermost", "([IIZ)I"⟩, prog_4_method_18_code, 6, some FieldType.int, 3, 1),
  (0, ⟨"StrikeAwake", "sleeps", "(IZ)I"⟩, prog_1_method_31_code, 4, some FieldType.int, 2, 1),
  (0, ⟨"StrikeAwake", "ask", "()I"⟩, prog_1_method_32_code, 2, some FieldType.int, 0, 1),
  (0, ⟨"StrikeAwake", "barOfAsking", "(Z)I"⟩, prog_1_method_65_code, 3, some FieldType.int, 1, 1),
  (5, ⟨"StrikeAwake$Asking", "fewestForAll", "(LStrikeAwake$Parish;LStrikeAwake$Census;)I"⟩, prog_3_method_2_code, 4, some FieldType.int, 2, 1),
  (5, ⟨"StrikeAwake$Asking", "gather", "(LStrikeAwake$Parish;LStrikeAwake$Census;)V"⟩, prog_3_method_4_code, 5, none, 2, 1),
  (4, ⟨"StrikeAwake$Census", "nextFrom", "(ILStrikeAwake$Parish;)I"⟩, prog_4_method_8_code, 4, some FieldType.int, 2, 1),
  (5, ⟨"StrikeAwake$Asking", "fewest", "(LStrikeAwake$Parish;)I"⟩, prog_3_method_5_code, 5, some FieldType.int, 1, 1),
  (15, ⟨"java/lang/Integer", "bitCount", "(I)I"⟩, prog_20_method_49_code, 1, some FieldType.int, 1, 0),
  (5, ⟨"StrikeAwake$Asking", "tells", "(LStrikeAwake$Parish;I)Z"⟩, prog_3_method_6_code, 5, some FieldType.boolean, 2, 1)]
def mc_mi_3 : List ((Nat × Nat) × (Nat × Nat) × (Nat × Nat) × (Nat × Nat)) := [((4, 181), (4, 179), (4, 180), (1, 8)), ((4, 185), (4, 183), (4, 184), (1, 1)), ((4, 189), (4, 187), (4, 188), (1, 1)), ((4, 193), (4, 191), (4, 192), (1, 1)), ((4, 197), (4, 195), (4, 196), (1, 5)), ((4, 202), (4, 200), (4, 201), (1, 1)), ((4, 206), (4, 205), (0, 38), (1, 1)), ((4, 210), (4, 208), (4, 209), (1, 5)), ((4, 215), (4, 213), (4, 214), (1, 1)), ((4, 219), (4, 217), (4, 218), (1, 1)), ((4, 223), (4, 221), (4, 222), (1, 5)), ((4, 228), (4, 226), (4, 227), (1, 1)), ((4, 232), (4, 230), (4, 231), (1, 1)), ((4, 236), (4, 234), (4, 235), (1, 1)), ((5, 0), (4, 238), (4, 239), (1, 5)), ((5, 3), (5, 2), (0, 0), (1, 5)), ((5, 8), (5, 6), (5, 7), (1, 1)), ((5, 12), (5, 10), (5, 11), (1, 5)), ((5, 16), (5, 14), (5, 15), (1, 1)), ((5, 20), (5, 18), (5, 19), (1, 5)), ((5, 23), (5, 22), (0, 0), (1, 5)), ((5, 27), (5, 25), (5, 26), (1, 1)), ((5, 31), (5, 29), (5, 30), (1, 5)), ((5, 35), (5, 33), (5, 34), (1, 1)), ((5, 39), (5, 37), (5, 38), (1, 1)), ((5, 43), (5, 42), (0, 39), (1, 1)), ((5, 47), (5, 45), (5, 46), (1, 6)), ((5, 51), (5, 50), (0, 40), (1, 6)), ((5, 55), (5, 53), (5, 54), (1, 5)), ((5, 59), (5, 58), (0, 41), (1, 6)), ((5, 62), (5, 61), (0, 0), (1, 20)), ((5, 69), (5, 68), (0, 42), (1, 6))]
def mc_mt_4 : List (Nat × MethodName × ByteArray × Nat × Option FieldType × Nat × Nat) := [
  (5, ⟨"StrikeAwake$Asking", "lookOf", "(LStrikeAwake$Parish;II)I"⟩, prog_3_method_7_code, 5, some FieldType.int, 3, 0),
  (5, ⟨"StrikeAwake$Asking", "slotOf", "(I)I"⟩, prog_3_method_8_code, 4, some FieldType.int, 1, 1),
  (0, ⟨"StrikeAwake", "askFor", "(I)I"⟩, prog_1_method_33_code, 3, some FieldType.int, 1, 1),
  (5, ⟨"StrikeAwake$Asking", "fewestForHour", "(LStrikeAwake$Parish;LStrikeAwake$Census;I)I"⟩, prog_3_method_3_code, 5, some FieldType.int, 3, 1),
  (0, ⟨"StrikeAwake", "lie", "(I)I"⟩, prog_1_method_34_code, 3, some FieldType.int, 1, 1),
  (0, ⟨"StrikeAwake", "isTold", "(I)Z"⟩, prog_1_method_60_code, 2, some FieldType.boolean, 1, 1),
  (4, ⟨"StrikeAwake$Census", "hasTold", "(LStrikeAwake$Parish;I)Z"⟩, prog_4_method_19_code, 7, some FieldType.boolean, 2, 1),
  (0, ⟨"StrikeAwake", "bars", "(I)I"⟩, prog_1_method_35_code, 3, some FieldType.int, 1, 1),
  (6, ⟨"StrikeAwake$Grounds", "barringHour", "(LStrikeAwake$Parish;LStrikeAwake$Walk;I)I"⟩, prog_5_method_2_code, 10, some FieldType.int, 3, 1),
  (0, ⟨"StrikeAwake", "proof", "()I"⟩, prog_1_method_36_code, 1, some FieldType.int, 0, 1),
  (6, ⟨"StrikeAwake$Grounds", "fewestHours", "(LStrikeAwake$Parish;LStrikeAwake$Walk;)I"⟩, prog_5_method_3_code, 4, some FieldType.int, 2, 1),
  (6, ⟨"StrikeAwake$Grounds", "gather", "(LStrikeAwake$Parish;LStrikeAwake$Walk;)V"⟩, prog_5_method_4_code, 4, none, 2, 1),
  (6, ⟨"StrikeAwake$Grounds", "flawsOf", "(LStrikeAwake$Parish;LStrikeAwake$Walk;)J"⟩, prog_5_method_5_code, 7, some FieldType.long, 2, 0),
  (6, ⟨"StrikeAwake$Grounds", "oneHour", "(LStrikeAwake$Parish;)I"⟩, prog_5_method_6_code, 4, some FieldType.int, 1, 1),
  (6, ⟨"StrikeAwake$Grounds", "leavesNone", "(LStrikeAwake$Parish;I)Z"⟩, prog_5_method_9_code, 4, some FieldType.boolean, 2, 1),
  (6, ⟨"StrikeAwake$Grounds", "isLeft", "(LStrikeAwake$Parish;JI)Z"⟩, prog_5_method_10_code, 6, some FieldType.boolean, 3, 0),
  (6, ⟨"StrikeAwake$Grounds", "twoHours", "(LStrikeAwake$Parish;)I"⟩, prog_5_method_7_code, 5, some FieldType.int, 1, 1),
  (6, ⟨"StrikeAwake$Grounds", "threeHours", "(LStrikeAwake$Parish;)I"⟩, prog_5_method_8_code, 7, some FieldType.int, 1, 1),
  (0, ⟨"StrikeAwake", "part", "(IZ)I"⟩, prog_1_method_37_code, 5, some FieldType.int, 2, 1),
  (0, ⟨"StrikeAwake", "nothing", "()I"⟩, prog_1_method_38_code, 4, some FieldType.int, 0, 1),
  (3, ⟨"StrikeAwake$Walk", "silentHours", "(LStrikeAwake$Parish;)I"⟩, prog_11_method_11_code, 2, some FieldType.int, 1, 1),
  (0, ⟨"StrikeAwake", "keep", "()I"⟩, prog_1_method_39_code, 1, some FieldType.int, 0, 1),
  (7, ⟨"StrikeAwake$Parish", "fewestOffers", "()I"⟩, prog_6_method_13_code, 4, some FieldType.int, 0, 1),
  (7, ⟨"StrikeAwake$Parish", "hoursOffered", "(I)I"⟩, prog_6_method_14_code, 4, some FieldType.int, 1, 1),
  (0, ⟨"StrikeAwake", "quiet", "(I)I"⟩, prog_1_method_40_code, 2, some FieldType.int, 1, 1),
  (0, ⟨"StrikeAwake", "strike", "(II)I"⟩, prog_1_method_41_code, 3, some FieldType.int, 2, 1),
  (0, ⟨"StrikeAwake", "still", "(I)Z"⟩, prog_1_method_42_code, 2, some FieldType.boolean, 1, 1),
  (0, ⟨"StrikeAwake", "struck", "(I)I"⟩, prog_1_method_43_code, 2, some FieldType.int, 1, 1),
  (0, ⟨"StrikeAwake", "seek", "()I"⟩, prog_1_method_44_code, 3, some FieldType.int, 0, 1),
  (0, ⟨"StrikeAwake", "lot", "(II)I"⟩, prog_1_method_45_code, 4, some FieldType.int, 2, 1),
  (0, ⟨"StrikeAwake", "again", "()Z"⟩, prog_1_method_46_code, 1, some FieldType.boolean, 0, 1),
  (0, ⟨"StrikeAwake", "image", "()J"⟩, prog_1_method_47_code, 1, some FieldType.long, 0, 1)]
def mc_mi_4 : List ((Nat × Nat) × (Nat × Nat) × (Nat × Nat) × (Nat × Nat)) := [((5, 72), (5, 71), (0, 0), (1, 6)), ((5, 78), (5, 77), (0, 43), (1, 6)), ((5, 82), (5, 80), (5, 81), (1, 1)), ((5, 86), (5, 84), (5, 85), (1, 6)), ((5, 91), (5, 89), (5, 90), (1, 1)), ((5, 95), (5, 94), (0, 44), (1, 1)), ((5, 99), (5, 97), (5, 98), (1, 5)), ((5, 103), (5, 101), (5, 102), (1, 1)), ((5, 107), (5, 105), (5, 106), (1, 7)), ((5, 117), (5, 115), (5, 116), (1, 1)), ((5, 122), (5, 120), (5, 121), (1, 7)), ((5, 126), (5, 125), (0, 45), (1, 7)), ((5, 129), (5, 128), (0, 0), (1, 7)), ((5, 135), (5, 134), (0, 46), (1, 7)), ((5, 139), (5, 138), (0, 47), (1, 7)), ((5, 142), (5, 141), (0, 0), (1, 7)), ((5, 147), (5, 146), (0, 48), (1, 7)), ((5, 151), (5, 150), (0, 49), (1, 7)), ((5, 155), (5, 153), (5, 154), (1, 1)), ((5, 159), (5, 157), (5, 158), (1, 1)), ((5, 165), (5, 163), (5, 164), (1, 4)), ((5, 171), (5, 169), (5, 170), (1, 1)), ((5, 175), (5, 173), (5, 174), (1, 8)), ((5, 180), (5, 179), (0, 50), (1, 8)), ((5, 185), (5, 183), (5, 184), (1, 1)), ((5, 190), (5, 188), (5, 189), (1, 1)), ((5, 195), (5, 193), (5, 194), (1, 1)), ((5, 199), (5, 197), (5, 198), (1, 1)), ((5, 203), (5, 201), (5, 202), (1, 1)), ((5, 208), (5, 206), (5, 207), (1, 1)), ((5, 212), (5, 210), (5, 211), (1, 1)), ((5, 216), (5, 214), (5, 215), (1, 1))]
def mc_mt_5 : List (Nat × MethodName × ByteArray × Nat × Option FieldType × Nat × Nat) := [
  (7, ⟨"StrikeAwake$Parish", "picture", "()J"⟩, prog_6_method_15_code, 4, some FieldType.long, 0, 1),
  (0, ⟨"StrikeAwake", "restore", "(J)Z"⟩, prog_1_method_48_code, 3, some FieldType.boolean, 1, 1),
  (7, ⟨"StrikeAwake$Parish", "isPicture", "(J)Z"⟩, prog_6_method_16_code, 8, some FieldType.boolean, 1, 1),
  (7, ⟨"StrikeAwake$Parish", "takePicture", "(J)V"⟩, prog_6_method_17_code, 6, none, 1, 1),
  (0, ⟨"StrikeAwake", "size", "(I)I"⟩, prog_1_method_50_code, 2, some FieldType.int, 1, 1),
  (0, ⟨"StrikeAwake", "trouble", "()I"⟩, prog_1_method_51_code, 1, some FieldType.int, 0, 1),
  (0, ⟨"StrikeAwake", "led", "(I)I"⟩, prog_1_method_49_code, 4, some FieldType.int, 1, 1),
  (9, ⟨"StrikeAwakeModel", "<init>", "()V"⟩, prog_13_method_1_code, 1, none, 0, 2),
  (9, ⟨"StrikeAwakeModel", "feed", "(IIIII)I"⟩, prog_13_method_43_code, 8, some FieldType.int, 5, 1),
  (9, ⟨"StrikeAwakeModel", "parish", "(I)I"⟩, prog_13_method_44_code, 3, some FieldType.int, 1, 1),
  (9, ⟨"StrikeAwakeModel", "refused", "(I)I"⟩, prog_13_method_3_code, 2, some FieldType.int, 1, 1),
  (10, ⟨"StrikeAwakeModel$Parish", "<init>", "()V"⟩, prog_14_method_1_code, 1, none, 0, 2),
  (9, ⟨"StrikeAwakeModel", "goesOn", "()V"⟩, prog_13_method_17_code, 3, none, 0, 1),
  (9, ⟨"StrikeAwakeModel", "byteAt", "(I)I"⟩, prog_13_method_13_code, 2, some FieldType.int, 1, 1),
  (9, ⟨"StrikeAwakeModel", "isLetter", "(I)Z"⟩, prog_13_method_14_code, 1, some FieldType.boolean, 1, 0),
  (9, ⟨"StrikeAwakeModel", "isDigit", "(I)Z"⟩, prog_13_method_15_code, 1, some FieldType.boolean, 1, 0),
  (9, ⟨"StrikeAwakeModel", "readParish", "()V"⟩, prog_13_method_31_code, 2, none, 0, 1),
  (9, ⟨"StrikeAwakeModel", "readLine", "()V"⟩, prog_13_method_32_code, 1, none, 0, 1),
  (9, ⟨"StrikeAwakeModel", "isWord", "(Ljava/lang/String;)Z"⟩, prog_13_method_19_code, 2, some FieldType.boolean, 1, 1),
  (9, ⟨"StrikeAwakeModel", "wordOf", "(Ljava/lang/String;)J"⟩, prog_13_method_16_code, 4, some FieldType.long, 1, 0),
  (9, ⟨"StrikeAwakeModel", "readLaw", "()V"⟩, prog_13_method_33_code, 2, none, 0, 1),
  (9, ⟨"StrikeAwakeModel", "wrong", "(I)V"⟩, prog_13_method_18_code, 2, none, 1, 1),
  (9, ⟨"StrikeAwakeModel", "readPart", "(Ljava/lang/String;II)I"⟩, prog_13_method_26_code, 4, some FieldType.int, 3, 1),
  (9, ⟨"StrikeAwakeModel", "needs", "(Ljava/lang/String;)V"⟩, prog_13_method_22_code, 2, none, 1, 1),
  (9, ⟨"StrikeAwakeModel", "readWhole", "(II)I"⟩, prog_13_method_25_code, 4, some FieldType.int, 2, 1),
  (9, ⟨"StrikeAwakeModel", "whole", "(II)I"⟩, prog_13_method_24_code, 3, some FieldType.int, 2, 1),
  (9, ⟨"StrikeAwakeModel", "in", "(III)Z"⟩, prog_13_method_9_code, 3, some FieldType.boolean, 3, 0),
  (9, ⟨"StrikeAwakeModel", "readPerson", "()V"⟩, prog_13_method_35_code, 13, none, 0, 1),
  (9, ⟨"StrikeAwakeModel", "begins", "(II)V"⟩, prog_13_method_28_code, 3, none, 2, 1),
  (9, ⟨"StrikeAwakeModel", "isName", "()Z"⟩, prog_13_method_27_code, 1, some FieldType.boolean, 0, 1),
  (10, ⟨"StrikeAwakeModel$Parish", "find", "(J)I"⟩, prog_14_method_2_code, 4, some FieldType.int, 1, 1),
  (9, ⟨"StrikeAwakeModel", "least", "(II)I"⟩, prog_13_method_34_code, 2, some FieldType.int, 2, 0)]
def mc_mi_5 : List ((Nat × Nat) × (Nat × Nat) × (Nat × Nat) × (Nat × Nat)) := [((5, 220), (5, 218), (5, 219), (1, 8)), ((5, 225), (5, 223), (5, 224), (1, 1)), ((5, 229), (5, 227), (5, 228), (1, 8)), ((5, 234), (5, 232), (5, 233), (1, 8)), ((5, 238), (5, 236), (5, 237), (1, 1)), ((6, 2), (6, 0), (6, 1), (1, 1)), ((6, 10), (6, 8), (6, 9), (1, 1)), ((6, 80), (6, 79), (0, 0), (1, 10)), ((6, 185), (6, 183), (6, 184), (1, 10)), ((6, 189), (6, 187), (6, 188), (1, 10)), ((6, 193), (6, 192), (0, 52), (1, 10)), ((6, 198), (6, 197), (0, 0), (1, 19)), ((7, 65), (7, 64), (0, 53), (1, 10)), ((7, 69), (7, 68), (0, 54), (1, 10)), ((7, 72), (7, 71), (0, 0), (1, 10)), ((7, 76), (7, 75), (0, 0), (1, 10)), ((7, 80), (7, 79), (0, 55), (1, 10)), ((7, 84), (7, 83), (0, 56), (1, 10)), ((7, 89), (7, 88), (0, 57), (1, 10)), ((7, 92), (7, 91), (0, 0), (1, 10)), ((7, 98), (7, 97), (0, 58), (1, 10)), ((7, 102), (7, 101), (0, 59), (1, 10)), ((7, 107), (7, 106), (0, 60), (1, 10)), ((7, 111), (7, 110), (0, 61), (1, 10)), ((7, 115), (7, 114), (0, 62), (1, 10)), ((7, 119), (7, 118), (0, 63), (1, 10)), ((7, 122), (7, 121), (0, 0), (1, 10)), ((7, 129), (7, 128), (0, 64), (1, 10)), ((7, 133), (7, 132), (0, 65), (1, 10)), ((7, 137), (7, 136), (0, 66), (1, 10)), ((7, 150), (7, 148), (7, 149), (1, 19)), ((7, 155), (7, 154), (0, 0), (1, 10))]
def mc_mt_6 : List (Nat × MethodName × ByteArray × Nat × Option FieldType × Nat × Nat) := [
  (9, ⟨"StrikeAwakeModel", "eatsWord", "(Ljava/lang/String;)Z"⟩, prog_13_method_20_code, 3, some FieldType.boolean, 1, 1),
  (9, ⟨"StrikeAwakeModel", "readSexton", "()V"⟩, prog_13_method_36_code, 2, none, 0, 1),
  (9, ⟨"StrikeAwakeModel", "readKnown", "()I"⟩, prog_13_method_30_code, 2, some FieldType.int, 0, 1),
  (9, ⟨"StrikeAwakeModel", "known", "()I"⟩, prog_13_method_29_code, 2, some FieldType.int, 0, 1),
  (9, ⟨"StrikeAwakeModel", "readApart", "()V"⟩, prog_13_method_37_code, 5, none, 0, 1),
  (9, ⟨"StrikeAwakeModel", "needsSign", "(I)V"⟩, prog_13_method_23_code, 2, none, 1, 1),
  (9, ⟨"StrikeAwakeModel", "readBorn", "()V"⟩, prog_13_method_38_code, 2, none, 0, 1),
  (9, ⟨"StrikeAwakeModel", "readStruck", "()V"⟩, prog_13_method_39_code, 3, none, 0, 1),
  (9, ⟨"StrikeAwakeModel", "readTold", "()V"⟩, prog_13_method_41_code, 2, none, 0, 1),
  (9, ⟨"StrikeAwakeModel", "readHours", "()I"⟩, prog_13_method_40_code, 2, some FieldType.int, 0, 1),
  (9, ⟨"StrikeAwakeModel", "hoursFrom", "(II)I"⟩, prog_13_method_12_code, 4, some FieldType.int, 2, 0),
  (9, ⟨"StrikeAwakeModel", "readOffer", "()V"⟩, prog_13_method_42_code, 2, none, 0, 1),
  (9, ⟨"StrikeAwakeModel", "eatsSign", "(I)Z"⟩, prog_13_method_21_code, 3, some FieldType.boolean, 1, 1),
  (9, ⟨"StrikeAwakeModel", "has", "(II)Z"⟩, prog_13_method_10_code, 2, some FieldType.boolean, 2, 0),
  (9, ⟨"StrikeAwakeModel", "lays", "()V"⟩, prog_13_method_48_code, 7, none, 0, 1),
  (9, ⟨"StrikeAwakeModel", "struckHours", "()I"⟩, prog_13_method_47_code, 3, some FieldType.int, 0, 1),
  (9, ⟨"StrikeAwakeModel", "lay", "(IIIII)V"⟩, prog_13_method_49_code, 7, none, 5, 1),
  (9, ⟨"StrikeAwakeModel", "done", "(I)I"⟩, prog_13_method_6_code, 2, some FieldType.int, 1, 1),
  (9, ⟨"StrikeAwakeModel", "fault", "()I"⟩, prog_13_method_45_code, 1, some FieldType.int, 0, 1),
  (9, ⟨"StrikeAwakeModel", "where", "()I"⟩, prog_13_method_46_code, 1, some FieldType.int, 0, 1),
  (9, ⟨"StrikeAwakeModel", "spans", "(I)I"⟩, prog_13_method_54_code, 2, some FieldType.int, 1, 1),
  (9, ⟨"StrikeAwakeModel", "isPerson", "(I)Z"⟩, prog_13_method_50_code, 2, some FieldType.boolean, 1, 1),
  (9, ⟨"StrikeAwakeModel", "span", "(III)I"⟩, prog_13_method_55_code, 4, some FieldType.int, 3, 1),
  (9, ⟨"StrikeAwakeModel", "isSpan", "(II)Z"⟩, prog_13_method_51_code, 3, some FieldType.boolean, 2, 1),
  (9, ⟨"StrikeAwakeModel", "weightOf", "(II)I"⟩, prog_13_method_53_code, 5, some FieldType.int, 2, 1),
  (9, ⟨"StrikeAwakeModel", "awake", "(III)I"⟩, prog_13_method_56_code, 4, some FieldType.int, 3, 1),
  (9, ⟨"StrikeAwakeModel", "isHour", "(I)Z"⟩, prog_13_method_52_code, 2, some FieldType.boolean, 1, 1),
  (9, ⟨"StrikeAwakeModel", "lots", "()J"⟩, prog_13_method_58_code, 1, some FieldType.long, 0, 1),
  (9, ⟨"StrikeAwakeModel", "lotsMany", "()J"⟩, prog_13_method_57_code, 4, some FieldType.long, 0, 1),
  (9, ⟨"StrikeAwakeModel", "doneLong", "(J)J"⟩, prog_13_method_7_code, 3, some FieldType.long, 1, 1),
  (9, ⟨"StrikeAwakeModel", "say", "(II)Z"⟩, prog_13_method_66_code, 3, some FieldType.boolean, 2, 1),
  (9, ⟨"StrikeAwakeModel", "denied", "(I)Z"⟩, prog_13_method_5_code, 2, some FieldType.boolean, 1, 1)]
def mc_mi_6 : List ((Nat × Nat) × (Nat × Nat) × (Nat × Nat) × (Nat × Nat)) := [((7, 160), (7, 159), (0, 67), (1, 10)), ((7, 164), (7, 163), (0, 68), (1, 10)), ((7, 168), (7, 167), (0, 69), (1, 10)), ((7, 172), (7, 171), (0, 70), (1, 10)), ((7, 176), (7, 175), (0, 71), (1, 10)), ((7, 180), (7, 179), (0, 72), (1, 10)), ((7, 184), (7, 183), (0, 73), (1, 10)), ((7, 188), (7, 187), (0, 74), (1, 10)), ((7, 193), (7, 192), (0, 75), (1, 10)), ((7, 197), (7, 196), (0, 76), (1, 10)), ((7, 200), (7, 199), (0, 0), (1, 10)), ((7, 204), (7, 203), (0, 77), (1, 10)), ((7, 208), (7, 207), (0, 78), (1, 10)), ((7, 211), (7, 210), (0, 0), (1, 10)), ((7, 215), (7, 214), (0, 79), (1, 10)), ((7, 219), (7, 218), (0, 80), (1, 10)), ((7, 223), (7, 222), (0, 81), (1, 10)), ((7, 227), (7, 226), (0, 82), (1, 10)), ((7, 231), (7, 229), (7, 230), (1, 10)), ((7, 235), (7, 233), (7, 234), (1, 10)), ((7, 239), (7, 237), (7, 238), (1, 10)), ((8, 3), (8, 2), (0, 83), (1, 10)), ((8, 7), (8, 5), (8, 6), (1, 10)), ((8, 11), (8, 10), (0, 84), (1, 10)), ((8, 15), (8, 14), (0, 85), (1, 10)), ((8, 19), (8, 17), (8, 18), (1, 10)), ((8, 23), (8, 22), (0, 86), (1, 10)), ((8, 27), (8, 25), (8, 26), (1, 10)), ((8, 31), (8, 30), (0, 87), (1, 10)), ((8, 35), (8, 34), (0, 88), (1, 10)), ((8, 39), (8, 37), (8, 38), (1, 10)), ((8, 43), (8, 42), (0, 89), (1, 10))]
def mc_mt_7 : List (Nat × MethodName × ByteArray × Nat × Option FieldType × Nat × Nat) := [
  (9, ⟨"StrikeAwakeModel", "granted", "()Z"⟩, prog_13_method_8_code, 1, some FieldType.boolean, 0, 1),
  (9, ⟨"StrikeAwakeModel", "said", "(I)I"⟩, prog_13_method_67_code, 2, some FieldType.int, 1, 1),
  (9, ⟨"StrikeAwakeModel", "strikes", "(I)I"⟩, prog_13_method_68_code, 2, some FieldType.int, 1, 1),
  (9, ⟨"StrikeAwakeModel", "isEmpty", "()Z"⟩, prog_13_method_65_code, 1, some FieldType.boolean, 0, 1),
  (9, ⟨"StrikeAwakeModel", "strikesIn", "([II)I"⟩, prog_13_method_60_code, 5, some FieldType.int, 2, 1),
  (9, ⟨"StrikeAwakeModel", "born", "(I)I"⟩, prog_13_method_59_code, 4, some FieldType.int, 1, 1),
  (9, ⟨"StrikeAwakeModel", "judge", "()I"⟩, prog_13_method_72_code, 2, some FieldType.int, 0, 1),
  (9, ⟨"StrikeAwakeModel", "refusesSaid", "()I"⟩, prog_13_method_71_code, 1, some FieldType.int, 0, 1),
  (9, ⟨"StrikeAwakeModel", "firstWrong", "()I"⟩, prog_13_method_70_code, 2, some FieldType.int, 0, 1),
  (9, ⟨"StrikeAwakeModel", "wrongIn", "(I)I"⟩, prog_13_method_69_code, 2, some FieldType.int, 1, 1),
  (9, ⟨"StrikeAwakeModel", "offIn", "([II)I"⟩, prog_13_method_61_code, 4, some FieldType.int, 2, 1),
  (9, ⟨"StrikeAwakeModel", "bothAsleep", "([I)I"⟩, prog_13_method_62_code, 4, some FieldType.int, 1, 1),
  (9, ⟨"StrikeAwakeModel", "why", "()I"⟩, prog_13_method_73_code, 3, some FieldType.int, 0, 1),
  (9, ⟨"StrikeAwakeModel", "agrees", "()I"⟩, prog_13_method_74_code, 2, some FieldType.int, 0, 1),
  (9, ⟨"StrikeAwakeModel", "isWorld", "([I)Z"⟩, prog_13_method_64_code, 2, some FieldType.boolean, 1, 1),
  (9, ⟨"StrikeAwakeModel", "barredAt", "([II)I"⟩, prog_13_method_63_code, 6, some FieldType.int, 2, 1),
  (9, ⟨"StrikeAwakeModel", "worlds", "()I"⟩, prog_13_method_80_code, 2, some FieldType.int, 0, 1),
  (9, ⟨"StrikeAwakeModel", "refusesWorlds", "(Z)I"⟩, prog_13_method_77_code, 2, some FieldType.int, 1, 1),
  (9, ⟨"StrikeAwakeModel", "knows", "()V"⟩, prog_13_method_76_code, 2, none, 0, 1),
  (9, ⟨"StrikeAwakeModel", "takes", "(I)V"⟩, prog_13_method_75_code, 4, none, 1, 1),
  (9, ⟨"StrikeAwakeModel", "can", "()I"⟩, prog_13_method_81_code, 2, some FieldType.int, 0, 1),
  (9, ⟨"StrikeAwakeModel", "world", "(II)I"⟩, prog_13_method_82_code, 4, some FieldType.int, 2, 1),
  (9, ⟨"StrikeAwakeModel", "weights", "()J"⟩, prog_13_method_84_code, 2, some FieldType.long, 0, 1),
  (9, ⟨"StrikeAwakeModel", "weighs", "(II)J"⟩, prog_13_method_83_code, 6, some FieldType.long, 2, 1),
  (9, ⟨"StrikeAwakeModel", "lotWeight", "()J"⟩, prog_13_method_79_code, 4, some FieldType.long, 0, 1),
  (9, ⟨"StrikeAwakeModel", "having", "(II)I"⟩, prog_13_method_85_code, 6, some FieldType.int, 2, 1),
  (9, ⟨"StrikeAwakeModel", "times", "(II)I"⟩, prog_13_method_87_code, 4, some FieldType.int, 2, 1),
  (9, ⟨"StrikeAwakeModel", "awakeIn", "(II)I"⟩, prog_13_method_86_code, 5, some FieldType.int, 2, 1),
  (9, ⟨"StrikeAwakeModel", "sure", "(II)I"⟩, prog_13_method_88_code, 5, some FieldType.int, 2, 1),
  (9, ⟨"StrikeAwakeModel", "refusesSome", "(Z)I"⟩, prog_13_method_78_code, 3, some FieldType.int, 1, 1),
  (9, ⟨"StrikeAwakeModel", "surely", "(IZ)I"⟩, prog_13_method_89_code, 6, some FieldType.int, 2, 1),
  (9, ⟨"StrikeAwakeModel", "chance", "(II)I"⟩, prog_13_method_90_code, 4, some FieldType.int, 2, 1)]
def mc_mi_7 : List ((Nat × Nat) × (Nat × Nat) × (Nat × Nat) × (Nat × Nat)) := [((8, 47), (8, 46), (0, 90), (1, 10)), ((8, 51), (8, 49), (8, 50), (1, 10)), ((8, 55), (8, 53), (8, 54), (1, 10)), ((8, 59), (8, 58), (0, 91), (1, 10)), ((8, 63), (8, 62), (0, 92), (1, 10)), ((8, 67), (8, 66), (0, 93), (1, 10)), ((8, 71), (8, 69), (8, 70), (1, 10)), ((8, 75), (8, 74), (0, 94), (1, 10)), ((8, 79), (8, 78), (0, 95), (1, 10)), ((8, 83), (8, 82), (0, 96), (1, 10)), ((8, 87), (8, 86), (0, 97), (1, 10)), ((8, 91), (8, 90), (0, 98), (1, 10)), ((8, 95), (8, 93), (8, 94), (1, 10)), ((8, 99), (8, 97), (8, 98), (1, 10)), ((8, 103), (8, 102), (0, 99), (1, 10)), ((8, 107), (8, 106), (0, 100), (1, 10)), ((8, 111), (8, 109), (8, 110), (1, 10)), ((8, 115), (8, 114), (0, 101), (1, 10)), ((8, 120), (8, 119), (0, 102), (1, 10)), ((8, 124), (8, 123), (0, 103), (1, 10)), ((8, 128), (8, 126), (8, 127), (1, 10)), ((8, 132), (8, 130), (8, 131), (1, 10)), ((8, 136), (8, 134), (8, 135), (1, 10)), ((8, 140), (8, 139), (0, 104), (1, 10)), ((8, 144), (8, 143), (0, 105), (1, 10)), ((8, 148), (8, 146), (8, 147), (1, 10)), ((8, 152), (8, 150), (8, 151), (1, 10)), ((8, 156), (8, 155), (0, 106), (1, 10)), ((8, 160), (8, 158), (8, 159), (1, 10)), ((8, 164), (8, 163), (0, 107), (1, 10)), ((8, 168), (8, 166), (8, 167), (1, 10)), ((8, 172), (8, 170), (8, 171), (1, 10))]
def mc_mt_8 : List (Nat × MethodName × ByteArray × Nat × Option FieldType × Nat × Nat) := [
  (9, ⟨"StrikeAwakeModel", "likeliest", "(I)I"⟩, prog_13_method_92_code, 3, some FieldType.int, 1, 1),
  (9, ⟨"StrikeAwakeModel", "findLikeliest", "()J"⟩, prog_13_method_91_code, 5, some FieldType.long, 0, 1),
  (9, ⟨"StrikeAwakeModel", "greatest", "()J"⟩, prog_13_method_93_code, 2, some FieldType.long, 0, 1),
  (9, ⟨"StrikeAwakeModel", "together", "(II)I"⟩, prog_13_method_94_code, 6, some FieldType.int, 2, 1),
  (9, ⟨"StrikeAwakeModel", "possible", "(I)J"⟩, prog_13_method_95_code, 6, some FieldType.long, 1, 1),
  (9, ⟨"StrikeAwakeModel", "hiding", "(II)I"⟩, prog_13_method_96_code, 6, some FieldType.int, 2, 1),
  (9, ⟨"StrikeAwakeModel", "awakeSet", "([II)I"⟩, prog_13_method_100_code, 5, some FieldType.int, 2, 1),
  (9, ⟨"StrikeAwakeModel", "bed", "(IZ)I"⟩, prog_13_method_98_code, 4, some FieldType.int, 2, 1),
  (9, ⟨"StrikeAwakeModel", "extreme", "(I[IZ)I"⟩, prog_13_method_97_code, 7, some FieldType.int, 3, 1),
  (9, ⟨"StrikeAwakeModel", "sleeps", "(IZ)I"⟩, prog_13_method_99_code, 4, some FieldType.int, 2, 1),
  (9, ⟨"StrikeAwakeModel", "ask", "()I"⟩, prog_13_method_104_code, 2, some FieldType.int, 0, 1),
  (9, ⟨"StrikeAwakeModel", "refusesAsking", "(Z)I"⟩, prog_13_method_103_code, 3, some FieldType.int, 1, 1),
  (9, ⟨"StrikeAwakeModel", "asked", "(I)I"⟩, prog_13_method_102_code, 4, some FieldType.int, 1, 1),
  (9, ⟨"StrikeAwakeModel", "bits", "(I)I"⟩, prog_13_method_11_code, 3, some FieldType.int, 1, 0),
  (9, ⟨"StrikeAwakeModel", "tells", "(II)Z"⟩, prog_13_method_101_code, 7, some FieldType.boolean, 2, 1),
  (9, ⟨"StrikeAwakeModel", "askFor", "(I)I"⟩, prog_13_method_105_code, 3, some FieldType.int, 1, 1),
  (9, ⟨"StrikeAwakeModel", "lie", "(I)I"⟩, prog_13_method_108_code, 3, some FieldType.int, 1, 1),
  (9, ⟨"StrikeAwakeModel", "isTold", "(I)Z"⟩, prog_13_method_106_code, 2, some FieldType.boolean, 1, 1),
  (9, ⟨"StrikeAwakeModel", "barsOf", "(I)I"⟩, prog_13_method_107_code, 7, some FieldType.int, 1, 1),
  (9, ⟨"StrikeAwakeModel", "bars", "(I)I"⟩, prog_13_method_109_code, 4, some FieldType.int, 1, 1),
  (9, ⟨"StrikeAwakeModel", "proof", "()I"⟩, prog_13_method_111_code, 5, some FieldType.int, 0, 1),
  (9, ⟨"StrikeAwakeModel", "leastProof", "(II)I"⟩, prog_13_method_112_code, 6, some FieldType.int, 2, 1),
  (9, ⟨"StrikeAwakeModel", "proves", "(I)Z"⟩, prog_13_method_110_code, 3, some FieldType.boolean, 1, 1),
  (9, ⟨"StrikeAwakeModel", "part", "(IZ)I"⟩, prog_13_method_114_code, 7, some FieldType.int, 2, 1),
  (9, ⟨"StrikeAwakeModel", "isStruck", "(I)Z"⟩, prog_13_method_113_code, 2, some FieldType.boolean, 1, 1),
  (9, ⟨"StrikeAwakeModel", "lost", "(I)I"⟩, prog_13_method_4_code, 2, some FieldType.int, 1, 1),
  (9, ⟨"StrikeAwakeModel", "nothing", "()I"⟩, prog_13_method_115_code, 5, some FieldType.int, 0, 1),
  (9, ⟨"StrikeAwakeModel", "keep", "()I"⟩, prog_13_method_116_code, 5, some FieldType.int, 0, 1),
  (9, ⟨"StrikeAwakeModel", "quiet", "(I)I"⟩, prog_13_method_117_code, 4, some FieldType.int, 1, 1),
  (9, ⟨"StrikeAwakeModel", "strike", "(II)I"⟩, prog_13_method_118_code, 3, some FieldType.int, 2, 1),
  (9, ⟨"StrikeAwakeModel", "still", "(I)Z"⟩, prog_13_method_119_code, 2, some FieldType.boolean, 1, 1),
  (9, ⟨"StrikeAwakeModel", "struck", "(I)I"⟩, prog_13_method_120_code, 2, some FieldType.int, 1, 1)]
def mc_mi_8 : List ((Nat × Nat) × (Nat × Nat) × (Nat × Nat) × (Nat × Nat)) := [((8, 177), (8, 175), (8, 176), (1, 10)), ((8, 181), (8, 180), (0, 108), (1, 10)), ((8, 185), (8, 183), (8, 184), (1, 10)), ((8, 189), (8, 187), (8, 188), (1, 10)), ((8, 193), (8, 191), (8, 192), (1, 10)), ((8, 197), (8, 195), (8, 196), (1, 10)), ((8, 201), (8, 200), (0, 109), (1, 10)), ((8, 205), (8, 203), (8, 204), (1, 10)), ((8, 209), (8, 208), (0, 110), (1, 10)), ((8, 213), (8, 211), (8, 212), (1, 10)), ((8, 217), (8, 215), (8, 216), (1, 10)), ((8, 221), (8, 220), (0, 111), (1, 10)), ((8, 225), (8, 224), (0, 112), (1, 10)), ((8, 228), (8, 227), (0, 0), (1, 10)), ((8, 232), (8, 231), (0, 113), (1, 10)), ((8, 236), (8, 234), (8, 235), (1, 10)), ((9, 0), (8, 238), (8, 239), (1, 10)), ((9, 4), (9, 3), (0, 114), (1, 10)), ((9, 8), (9, 7), (0, 115), (1, 10)), ((9, 12), (9, 10), (9, 11), (1, 10)), ((9, 16), (9, 14), (9, 15), (1, 10)), ((9, 21), (9, 20), (0, 116), (1, 10)), ((9, 25), (9, 24), (0, 117), (1, 10)), ((9, 29), (9, 27), (9, 28), (1, 10)), ((9, 33), (9, 32), (0, 118), (1, 10)), ((9, 37), (9, 36), (0, 119), (1, 10)), ((9, 41), (9, 39), (9, 40), (1, 10)), ((9, 45), (9, 43), (9, 44), (1, 10)), ((9, 49), (9, 47), (9, 48), (1, 10)), ((9, 53), (9, 51), (9, 52), (1, 10)), ((9, 57), (9, 55), (9, 56), (1, 10)), ((9, 61), (9, 59), (9, 60), (1, 10))]
def mc_mt_9 : List (Nat × MethodName × ByteArray × Nat × Option FieldType × Nat × Nat) := [
  (9, ⟨"StrikeAwakeModel", "seek", "()I"⟩, prog_13_method_121_code, 3, some FieldType.int, 0, 1),
  (9, ⟨"StrikeAwakeModel", "lot", "(II)I"⟩, prog_13_method_122_code, 3, some FieldType.int, 2, 1),
  (9, ⟨"StrikeAwakeModel", "again", "()Z"⟩, prog_13_method_123_code, 1, some FieldType.boolean, 0, 1),
  (9, ⟨"StrikeAwakeModel", "image", "()J"⟩, prog_13_method_124_code, 4, some FieldType.long, 0, 1),
  (9, ⟨"StrikeAwakeModel", "restore", "(J)Z"⟩, prog_13_method_125_code, 7, some FieldType.boolean, 1, 1),
  (9, ⟨"StrikeAwakeModel", "led", "(I)I"⟩, prog_13_method_126_code, 4, some FieldType.int, 1, 1),
  (9, ⟨"StrikeAwakeModel", "size", "(I)I"⟩, prog_13_method_127_code, 2, some FieldType.int, 1, 1),
  (9, ⟨"StrikeAwakeModel", "trouble", "()I"⟩, prog_13_method_128_code, 1, some FieldType.int, 0, 1)]
def mc_mi_9 : List ((Nat × Nat) × (Nat × Nat) × (Nat × Nat) × (Nat × Nat)) := [((9, 65), (9, 63), (9, 64), (1, 10)), ((9, 69), (9, 67), (9, 68), (1, 10)), ((9, 73), (9, 71), (9, 72), (1, 10)), ((9, 77), (9, 75), (9, 76), (1, 10)), ((9, 82), (9, 80), (9, 81), (1, 10)), ((9, 86), (9, 84), (9, 85), (1, 10)), ((9, 90), (9, 88), (9, 89), (1, 10)), ((9, 94), (9, 92), (9, 93), (1, 10))]
def mc_mt (k : Nat) : Option (Nat × MethodName × ByteArray × Nat × Option FieldType × Nat × Nat) := match k / 32 with
  | 0 => mc_mt_0[k % 32]?
  | 1 => mc_mt_1[k % 32]?
  | 2 => mc_mt_2[k % 32]?
  | 3 => mc_mt_3[k % 32]?
  | 4 => mc_mt_4[k % 32]?
  | 5 => mc_mt_5[k % 32]?
  | 6 => mc_mt_6[k % 32]?
  | 7 => mc_mt_7[k % 32]?
  | 8 => mc_mt_8[k % 32]?
  | 9 => mc_mt_9[k % 32]?
  | _ => none
def mc_mi (k : Nat) : Option ((Nat × Nat) × (Nat × Nat) × (Nat × Nat) × (Nat × Nat)) := match k / 32 with
  | 0 => mc_mi_0[k % 32]?
  | 1 => mc_mi_1[k % 32]?
  | 2 => mc_mi_2[k % 32]?
  | 3 => mc_mi_3[k % 32]?
  | 4 => mc_mi_4[k % 32]?
  | 5 => mc_mi_5[k % 32]?
  | 6 => mc_mi_6[k % 32]?
  | 7 => mc_mi_7[k % 32]?
  | 8 => mc_mi_8[k % 32]?
  | 9 => mc_mi_9[k % 32]?
  | _ => none
/-- what a field's word names: class, name, descriptor -/
def mc_fr (ci k : Nat) : String × String × String := if ci < 11 then ((mc_T ci k).1, (mc_T ci k).2.1, (mc_T ci k).2.2.1) else (mc_kf ci).getD k ("", "", "")
def mc_fw (own : Nat) (e : Nat × Nat × Nat × Bool × String × Nat × Nat) : Cond := if e.2.2.2.1 then .fieldLinkNest (mc_cn own) e.1 (mc_fr e.2.1 e.2.2.1).1 (mc_fr e.2.1 e.2.2.1).2.1 (mc_fr e.2.1 e.2.2.1).2.2 e.2.2.2.2.1 else .fieldLink (mc_cn own) e.1 (mc_fr e.2.1 e.2.2.1).1 (mc_fr e.2.1 e.2.2.1).2.1 (mc_fr e.2.1 e.2.2.1).2.2
def mc_yn (k : Nat) : MethodName := match mc_mt k with
  | some x => x.2.1
  | none => ⟨"", "", ""⟩
def mc_mw (own : Nat) (e : Nat × Nat × Bool × String × Nat × Nat) : Cond := if e.2.2.1 then .methodLinkNest (mc_cn own) e.1 (mc_yn e.2.1) e.2.2.2.1 else .methodLink (mc_cn own) e.1 (mc_yn e.2.1)
def mc_sw (own : Nat) (e : Nat × Nat × Bool × String × Nat × Nat) : Cond := match mc_st[e.2.1]? with
  | some q => if e.2.2.1 then .fieldLinkNest (mc_cn own) e.1 q.1 q.2.1 q.2.2.1 e.2.2.2.1 else .fieldLink (mc_cn own) e.1 q.1 q.2.1 q.2.2.1
  | none => .tt
def mc_tb (i : Nat × Nat) (w : Cond) (nest : Bool) : Bool := decide ((mc_ch i.1)[i.2]? = some w) && (nest || goodWord w)
theorem mc_fl_ok : mc_each mc_fl (fun own e => mc_tb e.2.2.2.2.2 (mc_fw own e) e.2.2.2.1) = true := by decide +kernel
theorem mc_ml_ok : mc_each mc_ml (fun own e => mc_tb e.2.2.2.2 (mc_mw own e) e.2.2.1) = true := by decide +kernel
theorem mc_sl_ok : mc_each mc_sl (fun own e => mc_tb e.2.2.2.2 (mc_sw own e) e.2.2.1) = true := by decide +kernel
theorem mc_ol_ok : mc_each mc_ol (fun own e => mc_at e.2 (.methodLink (mc_cn own) e.1 Lib.objectInit)) = true := by decide +kernel
def mc_jn (k : Nat) : MethodName := if k = 0 then Lib.Math.min.name else if k = 1 then Lib.Math.max.name else Lib.Math.abs.name
theorem mc_jl_ok : mc_each mc_jl (fun own e => mc_at e.2.2 (.methodLink (mc_cn own) e.1 (mc_jn e.2.1))) = true := by decide +kernel
theorem mc_kl_ok : mc_each mc_kl (fun own e => mc_at e.2.2 (.classLink (mc_cn own) e.1 (mc_cn e.2.1))) = true := by decide +kernel
def mc_cw (own : Nat) (e : Nat × Value × Nat × Nat) : Cond := match e.2.1 with
  | .int v => .constant (mc_cn own) e.1 v
  | .long v => .constantLong (mc_cn own) e.1 v
  | _ => .tt
theorem mc_cs_ok : mc_each mc_cs (fun own e => mc_at e.2.2 (mc_cw own e)) = true := by decide +kernel
theorem mc_sr_ok : mc_sr.all (fun e => decide ((mc_ch e.2.2.2.2.1)[e.2.2.2.2.2]? = some (.stringRef (mc_cn e.1) e.2.1 e.2.2.1)) && decide (e.2.2.2.1 < 256)) = true := by decide +kernel
/-- a class's fields: their words, their names apart, their types -/
def mc_ck (ci : Nat) : Bool := (List.range (mc_N.getD ci 0)).all (fun k => mc_at ((mc_li.getD ci []).getD k (0, 0)) (u_lay (mc_cn ci) (mc_T ci) k) && decide (parseFieldDescriptor (mc_T ci k).2.2.1 = some (mc_t ci k)) && (List.range (mc_N.getD ci 0)).all (fun j => decide (k = j) || decide ((mc_T ci k).2.1 ≠ (mc_T ci j).2.1)))
  && mc_at (mc_ii.getD ci ((0, 0), (0, 0))).1 (.instantiable (mc_cn ci) (mc_N.getD ci 0)) && mc_at (mc_ii.getD ci ((0, 0), (0, 0))).2 (.initialized (mc_cn ci))
theorem mc_ck_ok : (List.range 11).all mc_ck = true := by decide +kernel
/-- a method's words -/
def mc_mk (k : Nat) : Bool := match mc_mt k, mc_mi k with
  | some (own, y, b, n, r, np, sort), some (i1, i2, i3, i4) => mc_at i2 (if sort = 0 then .static y else .instanceMethod y) && (decide (sort ≠ 1) || mc_at i3 (.selects (mc_cn own) y y)) && mc_at i4 (.initialized (mc_cn own)) && decide (y.cls = mc_cn own) && decide (sort ≠ 2 ∨ y.name = "<init>") && plainName (mc_cn own) && decide (mc_cn own ≠ "java/lang/invoke/MethodHandle") && decide (mc_cn own ≠ "java/lang/invoke/VarHandle") && decide ((parseMethodDescriptor y.desc).map (fun d => d.parameters.length) = some np) && decide (n ≤ 13)
  | _, _ => false
theorem mc_ac_int : mc_at (1, 115) (.arrayClass .int) = true := by decide +kernel
theorem mc_ac_long : mc_at (1, 116) (.arrayClass .long) = true := by decide +kernel
theorem mc_ac_byte : mc_at (1, 71) (.arrayClass .byte) = true := by decide +kernel
theorem mc_ac_boolean : mc_at (7, 61) (.arrayClass .boolean) = true := by decide +kernel
theorem mc_ao_P : mc_tb (1, 210) (.arrayOver (.object "StrikeAwake$Person")) true = true := by decide +kernel
theorem mc_ao_I : mc_tb (1, 124) (.arrayOver (.array .int)) true = true := by decide +kernel
theorem mc_ao_J : mc_tb (1, 126) (.arrayOver (.array .long)) true = true := by decide +kernel
set_option maxRecDepth 20000 in
theorem mc_cw_0 : mc_mi_0.map (fun i => (mc_ch i.1.1)[i.1.2]?) = mc_mt_0.map (fun q => some (Cond.code q.2.1 q.2.2.1 q.2.2.2.1 q.2.2.2.2.1)) := rfl
set_option maxRecDepth 20000 in
theorem mc_cw_1 : mc_mi_1.map (fun i => (mc_ch i.1.1)[i.1.2]?) = mc_mt_1.map (fun q => some (Cond.code q.2.1 q.2.2.1 q.2.2.2.1 q.2.2.2.2.1)) := rfl
set_option maxRecDepth 20000 in
theorem mc_cw_2 : mc_mi_2.map (fun i => (mc_ch i.1.1)[i.1.2]?) = mc_mt_2.map (fun q => some (Cond.code q.2.1 q.2.2.1 q.2.2.2.1 q.2.2.2.2.1)) := rfl
set_option maxRecDepth 20000 in
theorem mc_cw_3 : mc_mi_3.map (fun i => (mc_ch i.1.1)[i.1.2]?) = mc_mt_3.map (fun q => some (Cond.code q.2.1 q.2.2.1 q.2.2.2.1 q.2.2.2.2.1)) := rfl
set_option maxRecDepth 20000 in
theorem mc_cw_4 : mc_mi_4.map (fun i => (mc_ch i.1.1)[i.1.2]?) = mc_mt_4.map (fun q => some (Cond.code q.2.1 q.2.2.1 q.2.2.2.1 q.2.2.2.2.1)) := rfl
set_option maxRecDepth 20000 in
theorem mc_cw_5 : mc_mi_5.map (fun i => (mc_ch i.1.1)[i.1.2]?) = mc_mt_5.map (fun q => some (Cond.code q.2.1 q.2.2.1 q.2.2.2.1 q.2.2.2.2.1)) := rfl
set_option maxRecDepth 20000 in
theorem mc_cw_6 : mc_mi_6.map (fun i => (mc_ch i.1.1)[i.1.2]?) = mc_mt_6.map (fun q => some (Cond.code q.2.1 q.2.2.1 q.2.2.2.1 q.2.2.2.2.1)) := rfl
set_option maxRecDepth 20000 in
theorem mc_cw_7 : mc_mi_7.map (fun i => (mc_ch i.1.1)[i.1.2]?) = mc_mt_7.map (fun q => some (Cond.code q.2.1 q.2.2.1 q.2.2.2.1 q.2.2.2.2.1)) := rfl
set_option maxRecDepth 20000 in
theorem mc_cw_8 : mc_mi_8.map (fun i => (mc_ch i.1.1)[i.1.2]?) = mc_mt_8.map (fun q => some (Cond.code q.2.1 q.2.2.1 q.2.2.2.1 q.2.2.2.2.1)) := rfl
set_option maxRecDepth 20000 in
theorem mc_cw_9 : mc_mi_9.map (fun i => (mc_ch i.1.1)[i.1.2]?) = mc_mt_9.map (fun q => some (Cond.code q.2.1 q.2.2.1 q.2.2.2.1 q.2.2.2.2.1)) := rfl
theorem mc_mk_0 : (List.range 32).all (fun j => mc_mk (0 + j)) = true := by decide +kernel
theorem mc_mk_1 : (List.range 32).all (fun j => mc_mk (32 + j)) = true := by decide +kernel
theorem mc_mk_2 : (List.range 32).all (fun j => mc_mk (64 + j)) = true := by decide +kernel
theorem mc_mk_3 : (List.range 32).all (fun j => mc_mk (96 + j)) = true := by decide +kernel
theorem mc_mk_4 : (List.range 32).all (fun j => mc_mk (128 + j)) = true := by decide +kernel
theorem mc_mk_5 : (List.range 32).all (fun j => mc_mk (160 + j)) = true := by decide +kernel
theorem mc_mk_6 : (List.range 32).all (fun j => mc_mk (192 + j)) = true := by decide +kernel
theorem mc_mk_7 : (List.range 32).all (fun j => mc_mk (224 + j)) = true := by decide +kernel
theorem mc_mk_8 : (List.range 32).all (fun j => mc_mk (256 + j)) = true := by decide +kernel
theorem mc_mk_9 : (List.range 8).all (fun j => mc_mk (288 + j)) = true := by decide +kernel
