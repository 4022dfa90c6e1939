def mc_cn (k : Nat) : String := match k with
  | 0 => "StrikeAwake"
  | 1 => "StrikeAwake$Reader"
  | 2 => "StrikeAwake$Tokens"
  | 3 => "StrikeAwake$Walk"
  | 4 => "StrikeAwake$Census"
  | 5 => "StrikeAwake$Asking"
  | 6 => "StrikeAwake$Grounds"
  | 7 => "StrikeAwake$Parish"
  | 8 => "StrikeAwake$Person"
  | 9 => "StrikeAwakeModel"
  | 10 => "StrikeAwakeModel$Parish"
  | 11 => "StrikeAwakeLaw"
  | 12 => "StrikeAwake$Reserved"
  | 13 => "java/lang/Object"
  | 14 => "java/lang/Math"
  | 15 => "java/lang/Integer"
  | 16 => "java/lang/String"
  | 17 => "java/lang/StringLatin1"
  | 18 => "jdk/internal/util/Preconditions"
  | _ => "java/lang/Enum"
def mc_T0 : u_T := fun k => match k with
  | 0 => ("StrikeAwake", "tape", "[B", true)
  | 1 => ("StrikeAwake", "reader", "LStrikeAwake$Reader;", true)
  | 2 => ("StrikeAwake", "walk", "LStrikeAwake$Walk;", true)
  | 3 => ("StrikeAwake", "census", "LStrikeAwake$Census;", true)
  | 4 => ("StrikeAwake", "asking", "LStrikeAwake$Asking;", true)
  | 5 => ("StrikeAwake", "grounds", "LStrikeAwake$Grounds;", true)
  | 6 => ("StrikeAwake", "current", "LStrikeAwake$Parish;", false)
  | 7 => ("StrikeAwake", "draft", "LStrikeAwake$Parish;", false)
  | 8 => ("StrikeAwake", "hasParish", "Z", false)
  | 9 => ("StrikeAwake", "taped", "I", false)
  | 10 => ("StrikeAwake", "refusal", "I", false)
  | 11 => ("StrikeAwake", "faultNumber", "I", false)
  | _ => ("StrikeAwake", "faultPlace", "I", false)
def mc_t0 : Nat → FieldType := fun k => match k with
  | 0 => .array .byte
  | 1 => .object "StrikeAwake$Reader"
  | 2 => .object "StrikeAwake$Walk"
  | 3 => .object "StrikeAwake$Census"
  | 4 => .object "StrikeAwake$Asking"
  | 5 => .object "StrikeAwake$Grounds"
  | 6 => .object "StrikeAwake$Parish"
  | 7 => .object "StrikeAwake$Parish"
  | 8 => .boolean
  | 9 => .int
  | 10 => .int
  | 11 => .int
  | _ => .int
def mc_T1 : u_T := fun k => match k with
  | 0 => ("StrikeAwake$Reader", "tokens", "LStrikeAwake$Tokens;", true)
  | 1 => ("StrikeAwake$Reader", "from", "I", false)
  | 2 => ("StrikeAwake$Reader", "to", "I", false)
  | 3 => ("StrikeAwake$Reader", "fault", "I", false)
  | _ => ("StrikeAwake$Reader", "place", "I", false)
def mc_t1 : Nat → FieldType := fun k => match k with
  | 0 => .object "StrikeAwake$Tokens"
  | 1 => .int
  | 2 => .int
  | 3 => .int
  | _ => .int
def mc_T2 : u_T := fun k => match k with
  | 0 => ("StrikeAwake$Tokens", "bytes", "[B", false)
  | 1 => ("StrikeAwake$Tokens", "length", "I", false)
  | 2 => ("StrikeAwake$Tokens", "ahead", "I", false)
  | 3 => ("StrikeAwake$Tokens", "kind", "I", false)
  | 4 => ("StrikeAwake$Tokens", "place", "I", false)
  | 5 => ("StrikeAwake$Tokens", "value", "I", false)
  | _ => ("StrikeAwake$Tokens", "key", "J", false)
def mc_t2 : Nat → FieldType := fun k => match k with
  | 0 => .array .byte
  | 1 => .int
  | 2 => .int
  | 3 => .int
  | 4 => .int
  | 5 => .int
  | _ => .long
def mc_T3 : u_T := fun k => match k with
  | 0 => ("StrikeAwake$Walk", "picks", "[I", true)
  | 1 => ("StrikeAwake$Walk", "early", "[J", true)
  | 2 => ("StrikeAwake$Walk", "late", "[J", true)
  | 3 => ("StrikeAwake$Walk", "filledHours", "[I", true)
  | 4 => ("StrikeAwake$Walk", "quarrelHours", "[I", true)
  | _ => ("StrikeAwake$Walk", "people", "I", false)
def mc_t3 : Nat → FieldType := fun k => match k with
  | 0 => .array .int
  | 1 => .array .long
  | 2 => .array .long
  | 3 => .array .int
  | 4 => .array .int
  | _ => .int
def mc_T4 : u_T := fun k => match k with
  | 0 => ("StrikeAwake$Census", "worldMarks", "[J", true)
  | 1 => ("StrikeAwake$Census", "holding", "[[I", true)
  | 2 => ("StrikeAwake$Census", "weighing", "[[J", true)
  | 3 => ("StrikeAwake$Census", "leastDue", "[I", true)
  | 4 => ("StrikeAwake$Census", "mostDue", "[I", true)
  | 5 => ("StrikeAwake$Census", "count", "I", false)
  | 6 => ("StrikeAwake$Census", "weight", "J", false)
  | 7 => ("StrikeAwake$Census", "bestNumber", "I", false)
  | 8 => ("StrikeAwake$Census", "bestWeight", "J", false)
  | _ => ("StrikeAwake$Census", "isFresh", "Z", false)
def mc_t4 : Nat → FieldType := fun k => match k with
  | 0 => .array .long
  | 1 => .array (.array .int)
  | 2 => .array (.array .long)
  | 3 => .array .int
  | 4 => .array .int
  | 5 => .int
  | 6 => .long
  | 7 => .int
  | 8 => .long
  | _ => .boolean
def mc_T5 : u_T := fun k => match k with
  | 0 => ("StrikeAwake$Asking", "numbers", "[I", true)
  | 1 => ("StrikeAwake$Asking", "labels", "[I", true)
  | 2 => ("StrikeAwake$Asking", "looks", "[I", true)
  | 3 => ("StrikeAwake$Asking", "slots", "[I", true)
  | _ => ("StrikeAwake$Asking", "count", "I", false)
def mc_t5 : Nat → FieldType := fun k => match k with
  | 0 => .array .int
  | 1 => .array .int
  | 2 => .array .int
  | 3 => .array .int
  | _ => .int
def mc_T6 : u_T := fun k => match k with
  | 0 => ("StrikeAwake$Grounds", "flaws", "[J", true)
  | 1 => ("StrikeAwake$Grounds", "count", "I", false)
  | _ => ("StrikeAwake$Grounds", "latestLeft", "I", false)
def mc_t6 : Nat → FieldType := fun k => match k with
  | 0 => .array .long
  | 1 => .int
  | _ => .int
def mc_T7 : u_T := fun k => match k with
  | 0 => ("StrikeAwake$Parish", "persons", "[LStrikeAwake$Person;", true)
  | 1 => ("StrikeAwake$Parish", "strokes", "[I", true)
  | 2 => ("StrikeAwake$Parish", "struckHours", "[I", true)
  | 3 => ("StrikeAwake$Parish", "bornIn", "[I", true)
  | 4 => ("StrikeAwake$Parish", "toldOf", "[I", true)
  | 5 => ("StrikeAwake$Parish", "toldHours", "[I", true)
  | 6 => ("StrikeAwake$Parish", "offeredHours", "[I", true)
  | 7 => ("StrikeAwake$Parish", "hours", "I", false)
  | 8 => ("StrikeAwake$Parish", "beside", "I", false)
  | 9 => ("StrikeAwake$Parish", "off", "I", false)
  | 10 => ("StrikeAwake$Parish", "people", "I", false)
  | 11 => ("StrikeAwake$Parish", "pairs", "I", false)
  | 12 => ("StrikeAwake$Parish", "born", "I", false)
  | 13 => ("StrikeAwake$Parish", "told", "I", false)
  | 14 => ("StrikeAwake$Parish", "offers", "I", false)
  | 15 => ("StrikeAwake$Parish", "sexton", "I", false)
  | 16 => ("StrikeAwake$Parish", "struckCount", "I", false)
  | 17 => ("StrikeAwake$Parish", "cursor", "I", false)
  | _ => ("StrikeAwake$Parish", "lotCount", "J", false)
def mc_t7 : Nat → FieldType := fun k => match k with
  | 0 => .array (.object "StrikeAwake$Person")
  | 1 => .array .int
  | 2 => .array .int
  | 3 => .array .int
  | 4 => .array .int
  | 5 => .array .int
  | 6 => .array .int
  | 7 => .int
  | 8 => .int
  | 9 => .int
  | 10 => .int
  | 11 => .int
  | 12 => .int
  | 13 => .int
  | 14 => .int
  | 15 => .int
  | 16 => .int
  | 17 => .int
  | _ => .long
def mc_T8 : u_T := fun k => match k with
  | 0 => ("StrikeAwake$Person", "bedAt", "[I", true)
  | 1 => ("StrikeAwake$Person", "sleepsFor", "[I", true)
  | 2 => ("StrikeAwake$Person", "asleepIn", "[I", true)
  | 3 => ("StrikeAwake$Person", "awakeIn", "[I", true)
  | 4 => ("StrikeAwake$Person", "earlyTally", "[J", true)
  | 5 => ("StrikeAwake$Person", "lateTally", "[J", true)
  | 6 => ("StrikeAwake$Person", "name", "J", false)
  | 7 => ("StrikeAwake$Person", "bedFrom", "I", false)
  | 8 => ("StrikeAwake$Person", "bedTo", "I", false)
  | 9 => ("StrikeAwake$Person", "longFrom", "I", false)
  | 10 => ("StrikeAwake$Person", "longTo", "I", false)
  | 11 => ("StrikeAwake$Person", "habit", "I", false)
  | 12 => ("StrikeAwake$Person", "napHours", "I", false)
  | 13 => ("StrikeAwake$Person", "isAway", "Z", false)
  | 14 => ("StrikeAwake$Person", "apartFrom", "I", false)
  | 15 => ("StrikeAwake$Person", "spanCount", "I", false)
  | 16 => ("StrikeAwake$Person", "saidSpan", "I", false)
  | _ => ("StrikeAwake$Person", "stride", "I", false)
def mc_t8 : Nat → FieldType := fun k => match k with
  | 0 => .array .int
  | 1 => .array .int
  | 2 => .array .int
  | 3 => .array .int
  | 4 => .array .long
  | 5 => .array .long
  | 6 => .long
  | 7 => .int
  | 8 => .int
  | 9 => .int
  | 10 => .int
  | 11 => .int
  | 12 => .int
  | 13 => .boolean
  | 14 => .int
  | 15 => .int
  | 16 => .int
  | _ => .int
def mc_T9 : u_T := fun k => match k with
  | 0 => ("StrikeAwakeModel", "thrown", "I", false)
  | 1 => ("StrikeAwakeModel", "trouble", "I", false)
  | 2 => ("StrikeAwakeModel", "where", "I", false)
  | 3 => ("StrikeAwakeModel", "parish", "LStrikeAwakeModel$Parish;", false)
  | 4 => ("StrikeAwakeModel", "read", "LStrikeAwakeModel$Parish;", false)
  | 5 => ("StrikeAwakeModel", "tape", "[B", true)
  | 6 => ("StrikeAwakeModel", "taped", "I", false)
  | 7 => ("StrikeAwakeModel", "size", "I", false)
  | 8 => ("StrikeAwakeModel", "at", "I", false)
  | 9 => ("StrikeAwakeModel", "sort", "I", false)
  | 10 => ("StrikeAwakeModel", "place", "I", false)
  | 11 => ("StrikeAwakeModel", "sign", "I", false)
  | 12 => ("StrikeAwakeModel", "number", "I", false)
  | 13 => ("StrikeAwakeModel", "fault", "I", false)
  | 14 => ("StrikeAwakeModel", "wrongAt", "I", false)
  | 15 => ("StrikeAwakeModel", "word", "J", false)
  | 16 => ("StrikeAwakeModel", "strokes", "I", false)
  | 17 => ("StrikeAwakeModel", "readFrom", "I", false)
  | 18 => ("StrikeAwakeModel", "readTo", "I", false)
  | 19 => ("StrikeAwakeModel", "all", "I", false)
  | 20 => ("StrikeAwakeModel", "struckNow", "[I", true)
  | 21 => ("StrikeAwakeModel", "spans", "[I", true)
  | 22 => ("StrikeAwakeModel", "bed", "[I", true)
  | 23 => ("StrikeAwakeModel", "length", "[I", true)
  | 24 => ("StrikeAwakeModel", "asleep", "[I", true)
  | 25 => ("StrikeAwakeModel", "awake", "[I", true)
  | 26 => ("StrikeAwakeModel", "said", "[I", true)
  | 27 => ("StrikeAwakeModel", "lot", "[I", true)
  | 28 => ("StrikeAwakeModel", "isKnown", "Z", false)
  | 29 => ("StrikeAwakeModel", "worlds", "I", false)
  | 30 => ("StrikeAwakeModel", "world", "[I", true)
  | 31 => ("StrikeAwakeModel", "one", "[I", true)
  | _ => ("StrikeAwakeModel", "cursor", "I", false)
def mc_t9 : Nat → FieldType := fun k => match k with
  | 0 => .int
  | 1 => .int
  | 2 => .int
  | 3 => .object "StrikeAwakeModel$Parish"
  | 4 => .object "StrikeAwakeModel$Parish"
  | 5 => .array .byte
  | 6 => .int
  | 7 => .int
  | 8 => .int
  | 9 => .int
  | 10 => .int
  | 11 => .int
  | 12 => .int
  | 13 => .int
  | 14 => .int
  | 15 => .long
  | 16 => .int
  | 17 => .int
  | 18 => .int
  | 19 => .int
  | 20 => .array .int
  | 21 => .array .int
  | 22 => .array .int
  | 23 => .array .int
  | 24 => .array .int
  | 25 => .array .int
  | 26 => .array .int
  | 27 => .array .int
  | 28 => .boolean
  | 29 => .int
  | 30 => .array .int
  | 31 => .array .int
  | _ => .int
def mc_T10 : u_T := fun k => match k with
  | 0 => ("StrikeAwakeModel$Parish", "hours", "I", false)
  | 1 => ("StrikeAwakeModel$Parish", "beside", "I", false)
  | 2 => ("StrikeAwakeModel$Parish", "off", "I", false)
  | 3 => ("StrikeAwakeModel$Parish", "people", "I", false)
  | 4 => ("StrikeAwakeModel$Parish", "aparts", "I", false)
  | 5 => ("StrikeAwakeModel$Parish", "births", "I", false)
  | 6 => ("StrikeAwakeModel$Parish", "tolds", "I", false)
  | 7 => ("StrikeAwakeModel$Parish", "offers", "I", false)
  | 8 => ("StrikeAwakeModel$Parish", "sexton", "I", false)
  | 9 => ("StrikeAwakeModel$Parish", "name", "[J", true)
  | 10 => ("StrikeAwakeModel$Parish", "bedFrom", "[I", true)
  | 11 => ("StrikeAwakeModel$Parish", "bedTo", "[I", true)
  | 12 => ("StrikeAwakeModel$Parish", "longFrom", "[I", true)
  | 13 => ("StrikeAwakeModel$Parish", "longTo", "[I", true)
  | 14 => ("StrikeAwakeModel$Parish", "habit", "[I", true)
  | 15 => ("StrikeAwakeModel$Parish", "napFrom", "[I", true)
  | 16 => ("StrikeAwakeModel$Parish", "napTo", "[I", true)
  | 17 => ("StrikeAwakeModel$Parish", "isAway", "[Z", true)
  | 18 => ("StrikeAwakeModel$Parish", "apartA", "[I", true)
  | 19 => ("StrikeAwakeModel$Parish", "apartB", "[I", true)
  | 20 => ("StrikeAwakeModel$Parish", "born", "[I", true)
  | 21 => ("StrikeAwakeModel$Parish", "struck", "[I", true)
  | 22 => ("StrikeAwakeModel$Parish", "teller", "[I", true)
  | 23 => ("StrikeAwakeModel$Parish", "tells", "[I", true)
  | 24 => ("StrikeAwakeModel$Parish", "tellsTo", "[I", true)
  | 25 => ("StrikeAwakeModel$Parish", "offering", "[I", true)
  | _ => ("StrikeAwakeModel$Parish", "offered", "[I", true)
def mc_t10 : Nat → FieldType := fun k => match k with
  | 0 => .int
  | 1 => .int
  | 2 => .int
  | 3 => .int
  | 4 => .int
  | 5 => .int
  | 6 => .int
  | 7 => .int
  | 8 => .int
  | 9 => .array .long
  | 10 => .array .int
  | 11 => .array .int
  | 12 => .array .int
  | 13 => .array .int
  | 14 => .array .int
  | 15 => .array .int
  | 16 => .array .int
  | 17 => .array .boolean
  | 18 => .array .int
  | 19 => .array .int
  | 20 => .array .int
  | 21 => .array .int
  | 22 => .array .int
  | 23 => .array .int
  | 24 => .array .int
  | 25 => .array .int
  | _ => .array .int
def mc_T (ci : Nat) : u_T := match ci with
  | 0 => mc_T0
  | 1 => mc_T1
  | 2 => mc_T2
  | 3 => mc_T3
  | 4 => mc_T4
  | 5 => mc_T5
  | 6 => mc_T6
  | 7 => mc_T7
  | 8 => mc_T8
  | 9 => mc_T9
  | _ => mc_T10
def mc_t (ci : Nat) : Nat → FieldType := match ci with
  | 0 => mc_t0
  | 1 => mc_t1
  | 2 => mc_t2
  | 3 => mc_t3
  | 4 => mc_t4
  | 5 => mc_t5
  | 6 => mc_t6
  | 7 => mc_t7
  | 8 => mc_t8
  | 9 => mc_t9
  | _ => mc_t10
def mc_N : List Nat := [13, 5, 7, 6, 10, 5, 3, 19, 18, 33, 27]
def mc_cl : List vw_C := [(mc_cn 0, mc_T0, 13), (mc_cn 1, mc_T1, 5), (mc_cn 2, mc_T2, 7), (mc_cn 3, mc_T3, 6), (mc_cn 4, mc_T4, 10), (mc_cn 5, mc_T5, 5), (mc_cn 6, mc_T6, 3), (mc_cn 7, mc_T7, 19), (mc_cn 8, mc_T8, 18), (mc_cn 9, mc_T9, 33), (mc_cn 10, mc_T10, 27)]
/-- fields by class and pool entry: entry, class, place, nest, host, word -/
def mc_fl : List (List (Nat × Nat × Nat × Bool × String × Nat × Nat)) := [
  [(78, 1, 3, false, "", 1, 76), (84, 1, 4, false, "", 1, 78), (190, 4, 1, false, "", 1, 129), (265, 4, 3, false, "", 1, 132), (268, 4, 4, false, "", 1, 134), (177, 4, 5, false, "", 1, 136), (187, 4, 6, false, "", 1, 138), (207, 4, 7, false, "", 1, 140), (210, 4, 8, false, "", 1, 142), (125, 8, 0, false, "", 1, 217), (129, 8, 1, false, "", 1, 219), (135, 8, 3, false, "", 1, 226), (317, 8, 13, false, "", 2, 8), (113, 8, 15, false, "", 2, 14), (148, 8, 16, false, "", 2, 19), (109, 7, 0, false, "", 2, 66), (262, 7, 1, false, "", 2, 69), (339, 7, 7, false, "", 2, 90), (96, 7, 10, false, "", 2, 99), (327, 7, 11, false, "", 2, 105), (330, 7, 12, false, "", 2, 109), (333, 7, 13, false, "", 2, 112), (336, 7, 14, false, "", 2, 115), (342, 7, 15, false, "", 2, 118), (295, 7, 16, false, "", 2, 123), (298, 7, 17, false, "", 2, 125), (141, 7, 18, false, "", 2, 129), (9, 0, 0, false, "", 2, 169), (16, 0, 1, false, "", 2, 170), (23, 0, 2, false, "", 2, 171), (30, 0, 3, false, "", 2, 172), (37, 0, 4, false, "", 2, 173), (44, 0, 5, false, "", 2, 174), (51, 0, 6, false, "", 2, 175), (55, 0, 7, false, "", 2, 176), (58, 0, 8, false, "", 2, 177), (62, 0, 9, false, "", 2, 178), (102, 0, 10, false, "", 2, 179), (81, 0, 11, false, "", 2, 180), (87, 0, 12, false, "", 2, 181)],
  [(38, 2, 3, false, "", 1, 48), (257, 2, 4, false, "", 1, 51), (230, 2, 5, false, "", 1, 53), (135, 2, 6, false, "", 1, 55), (12, 1, 0, false, "", 1, 72), (158, 1, 1, false, "", 1, 73), (164, 1, 2, false, "", 1, 74), (18, 1, 3, false, "", 1, 75), (22, 1, 4, false, "", 1, 77), (161, 8, 7, false, "", 1, 235), (167, 8, 8, false, "", 1, 237), (172, 8, 9, false, "", 1, 239), (175, 8, 10, false, "", 2, 1), (188, 8, 11, false, "", 2, 3), (197, 8, 12, false, "", 2, 5), (203, 8, 13, false, "", 2, 7), (214, 8, 14, false, "", 2, 11), (143, 7, 0, false, "", 2, 65), (224, 7, 3, false, "", 2, 76), (242, 7, 4, false, "", 2, 79), (248, 7, 5, false, "", 2, 83), (251, 7, 6, false, "", 2, 86), (41, 7, 7, false, "", 2, 88), (127, 7, 8, false, "", 2, 92), (129, 7, 9, false, "", 2, 94), (44, 7, 10, false, "", 2, 98), (221, 7, 11, false, "", 2, 104), (227, 7, 12, false, "", 2, 108), (245, 7, 13, false, "", 2, 111), (254, 7, 14, false, "", 2, 114), (211, 7, 15, false, "", 2, 117), (181, 20, 0, false, "", 9, 112), (58, 20, 1, false, "", 9, 115)],
  [(7, 2, 0, false, "", 1, 45), (19, 2, 1, false, "", 1, 46), (23, 2, 2, false, "", 1, 47), (41, 2, 3, false, "", 1, 49), (29, 2, 4, false, "", 1, 50), (38, 2, 5, false, "", 1, 52), (32, 2, 6, false, "", 1, 54)],
  [(9, 3, 0, false, "", 1, 96), (15, 3, 1, false, "", 1, 97), (19, 3, 2, false, "", 1, 98), (22, 3, 3, false, "", 1, 99), (25, 3, 4, false, "", 1, 100), (51, 3, 5, false, "", 1, 101), (85, 8, 2, false, "", 1, 222), (75, 8, 3, false, "", 1, 225), (69, 8, 4, false, "", 1, 229), (72, 8, 5, false, "", 1, 231), (82, 8, 14, false, "", 2, 10), (52, 8, 15, false, "", 2, 13), (46, 8, 16, false, "", 2, 18), (42, 7, 0, false, "", 2, 63), (112, 7, 2, false, "", 2, 73), (58, 7, 3, false, "", 2, 75), (103, 7, 7, false, "", 2, 89), (115, 7, 9, false, "", 2, 96), (36, 7, 10, false, "", 2, 100), (55, 7, 12, false, "", 2, 107), (109, 7, 16, false, "", 2, 122)],
  [(11, 4, 0, false, "", 1, 127), (17, 4, 1, false, "", 1, 128), (22, 4, 2, false, "", 1, 130), (25, 4, 3, false, "", 1, 131), (29, 4, 4, false, "", 1, 133), (62, 4, 5, false, "", 1, 135), (66, 4, 6, false, "", 1, 137), (69, 4, 7, false, "", 1, 139), (72, 4, 8, false, "", 1, 141), (32, 4, 9, false, "", 1, 143), (138, 8, 2, false, "", 1, 223), (119, 8, 3, false, "", 1, 227), (116, 8, 15, false, "", 2, 16), (78, 7, 0, false, "", 2, 64), (94, 7, 2, false, "", 2, 72), (144, 7, 4, false, "", 2, 80), (147, 7, 5, false, "", 2, 84), (75, 7, 10, false, "", 2, 102), (91, 7, 16, false, "", 2, 121), (45, 7, 18, false, "", 2, 128)],
  [(9, 5, 0, false, "", 1, 171), (15, 5, 1, false, "", 1, 172), (18, 5, 2, false, "", 1, 173), (21, 5, 3, false, "", 1, 174), (28, 5, 4, false, "", 1, 175), (79, 8, 17, false, "", 2, 22), (75, 7, 0, false, "", 2, 67), (46, 7, 10, false, "", 2, 101)],
  [(9, 6, 0, false, "", 1, 193), (68, 6, 1, false, "", 1, 194), (81, 6, 2, false, "", 1, 195), (38, 8, 2, false, "", 1, 221), (15, 7, 0, false, "", 2, 62), (91, 7, 2, false, "", 2, 71), (21, 7, 4, false, "", 2, 78), (25, 7, 5, false, "", 2, 82), (113, 7, 9, false, "", 2, 95), (88, 7, 16, false, "", 2, 120), (34, 7, 18, false, "", 2, 126)],
  [(86, 8, 6, false, "", 1, 233), (110, 8, 15, false, "", 2, 15), (127, 8, 16, false, "", 2, 20), (107, 8, 17, false, "", 2, 23), (11, 7, 0, false, "", 2, 61), (17, 7, 1, false, "", 2, 68), (21, 7, 2, false, "", 2, 70), (24, 7, 3, false, "", 2, 74), (27, 7, 4, false, "", 2, 77), (30, 7, 5, false, "", 2, 81), (33, 7, 6, false, "", 2, 85), (41, 7, 7, false, "", 2, 87), (44, 7, 8, false, "", 2, 91), (47, 7, 9, false, "", 2, 93), (50, 7, 10, false, "", 2, 97), (53, 7, 11, false, "", 2, 103), (56, 7, 12, false, "", 2, 106), (59, 7, 13, false, "", 2, 110), (62, 7, 14, false, "", 2, 113), (37, 7, 15, false, "", 2, 116), (65, 7, 16, false, "", 2, 119), (68, 7, 17, false, "", 2, 124), (71, 7, 18, false, "", 2, 127)],
  [(9, 8, 0, false, "", 1, 216), (15, 8, 1, false, "", 1, 218), (18, 8, 2, false, "", 1, 220), (21, 8, 3, false, "", 1, 224), (24, 8, 4, false, "", 1, 228), (28, 8, 5, false, "", 1, 230), (31, 8, 6, false, "", 1, 232), (62, 8, 7, false, "", 1, 234), (65, 8, 8, false, "", 1, 236), (68, 8, 9, false, "", 1, 238), (71, 8, 10, false, "", 2, 0), (35, 8, 11, false, "", 2, 2), (39, 8, 12, false, "", 2, 4), (42, 8, 13, false, "", 2, 6), (46, 8, 14, false, "", 2, 9), (49, 8, 15, false, "", 2, 12), (52, 8, 16, false, "", 2, 17), (55, 8, 17, false, "", 2, 21)],
  [(48, 9, 0, false, "", 6, 82), (51, 9, 1, false, "", 6, 83), (9, 9, 2, false, "", 6, 84), (337, 9, 3, false, "", 6, 85), (166, 9, 4, false, "", 6, 86), (13, 9, 5, false, "", 6, 87), (330, 9, 6, false, "", 6, 88), (61, 9, 7, false, "", 6, 89), (78, 9, 8, false, "", 6, 90), (75, 9, 9, false, "", 6, 91), (84, 9, 10, false, "", 6, 92), (87, 9, 11, false, "", 6, 93), (101, 9, 12, false, "", 6, 94), (104, 9, 13, false, "", 6, 95), (107, 9, 14, false, "", 6, 96), (94, 9, 15, false, "", 6, 97), (293, 9, 16, false, "", 6, 98), (300, 9, 17, false, "", 6, 99), (303, 9, 18, false, "", 6, 100), (343, 9, 19, false, "", 6, 101), (17, 9, 20, false, "", 6, 102), (21, 9, 21, false, "", 6, 103), (24, 9, 22, false, "", 6, 104), (27, 9, 23, false, "", 6, 105), (30, 9, 24, false, "", 6, 106), (33, 9, 25, false, "", 6, 107), (36, 9, 26, false, "", 6, 108), (39, 9, 27, false, "", 6, 109), (353, 9, 28, false, "", 6, 110), (422, 9, 29, false, "", 6, 111), (42, 9, 30, false, "", 6, 112), (45, 9, 31, false, "", 6, 113), (340, 9, 32, false, "", 6, 114), (185, 10, 0, true, "StrikeAwakeModel", 6, 200), (222, 10, 1, true, "StrikeAwakeModel", 6, 201), (226, 10, 2, true, "StrikeAwakeModel", 6, 202), (188, 10, 3, true, "StrikeAwakeModel", 6, 204), (276, 10, 4, true, "StrikeAwakeModel", 6, 205), (288, 10, 5, true, "StrikeAwakeModel", 6, 206), (306, 10, 6, true, "StrikeAwakeModel", 6, 207), (321, 10, 7, true, "StrikeAwakeModel", 6, 208), (271, 10, 8, true, "StrikeAwakeModel", 6, 210), (243, 10, 9, true, "StrikeAwakeModel", 6, 212), (247, 10, 10, true, "StrikeAwakeModel", 6, 214), (250, 10, 11, true, "StrikeAwakeModel", 6, 216), (253, 10, 12, true, "StrikeAwakeModel", 6, 218), (256, 10, 13, true, "StrikeAwakeModel", 6, 220), (259, 10, 14, true, "StrikeAwakeModel", 6, 222), (261, 10, 15, true, "StrikeAwakeModel", 6, 224), (264, 10, 16, true, "StrikeAwakeModel", 6, 226), (267, 10, 17, true, "StrikeAwakeModel", 6, 228), (282, 10, 18, true, "StrikeAwakeModel", 6, 230), (285, 10, 19, true, "StrikeAwakeModel", 6, 232), (291, 10, 20, true, "StrikeAwakeModel", 6, 234), (296, 10, 21, true, "StrikeAwakeModel", 6, 236), (312, 10, 22, true, "StrikeAwakeModel", 6, 238), (315, 10, 23, true, "StrikeAwakeModel", 7, 0), (324, 10, 25, true, "StrikeAwakeModel", 7, 3), (327, 10, 26, true, "StrikeAwakeModel", 7, 5)],
  [(72, 10, 3, false, "", 6, 203), (9, 10, 8, false, "", 6, 209), (15, 10, 9, false, "", 6, 211), (19, 10, 10, false, "", 6, 213), (23, 10, 11, false, "", 6, 215), (26, 10, 12, false, "", 6, 217), (29, 10, 13, false, "", 6, 219), (32, 10, 14, false, "", 6, 221), (35, 10, 15, false, "", 6, 223), (38, 10, 16, false, "", 6, 225), (41, 10, 17, false, "", 6, 227), (45, 10, 18, false, "", 6, 229), (48, 10, 19, false, "", 6, 231), (51, 10, 20, false, "", 6, 233), (54, 10, 21, false, "", 6, 235), (57, 10, 22, false, "", 6, 237), (60, 10, 23, false, "", 6, 239), (63, 10, 24, false, "", 7, 1), (66, 10, 25, false, "", 7, 2), (69, 10, 26, false, "", 7, 4)],
  [],
  [],
  [],
  [],
  [],
  [],
  [],
  [],
  []]
/-- methods by class and pool entry: entry, method, nest, host, word -/
def mc_ml : List (List (Nat × Nat × Bool × String × Nat × Nat)) := [
  [(15, 1, true, "StrikeAwake", 1, 35), (22, 3, true, "StrikeAwake", 1, 92), (29, 4, true, "StrikeAwake", 1, 119), (36, 5, true, "StrikeAwake", 1, 167), (43, 6, true, "StrikeAwake", 1, 189), (50, 7, false, "", 1, 205), (66, 10, false, "", 2, 213), (70, 12, false, "", 2, 221), (74, 13, false, "", 2, 225), (90, 44, false, "", 3, 191), (93, 50, false, "", 3, 216), (99, 51, false, "", 3, 220), (105, 55, false, "", 3, 236), (118, 57, false, "", 4, 4), (122, 58, false, "", 4, 8), (132, 60, false, "", 4, 22), (138, 36, false, "", 4, 26), (145, 63, false, "", 4, 35), (151, 64, false, "", 4, 39), (155, 67, false, "", 4, 51), (345, 68, false, "", 4, 55), (159, 72, false, "", 4, 73), (162, 74, false, "", 4, 81), (166, 75, false, "", 4, 99), (170, 79, false, "", 4, 104), (174, 83, false, "", 4, 120), (245, 84, false, "", 4, 124), (254, 85, false, "", 4, 129), (180, 94, false, "", 4, 170), (183, 96, false, "", 4, 178), (194, 100, false, "", 4, 194), (198, 102, false, "", 4, 203), (201, 103, false, "", 4, 207), (204, 106, false, "", 4, 220), (213, 110, false, "", 4, 237), (216, 113, false, "", 5, 9), (220, 115, false, "", 5, 17), (223, 118, false, "", 5, 28), (227, 121, false, "", 5, 40), (230, 122, false, "", 5, 44), (234, 131, false, "", 5, 83), (238, 133, false, "", 5, 92), (241, 134, false, "", 5, 96), (248, 136, false, "", 5, 104), (258, 138, false, "", 5, 119), (271, 87, false, "", 5, 160), (275, 80, false, "", 5, 161), (278, 148, false, "", 5, 162), (281, 91, false, "", 5, 167), (284, 150, false, "", 5, 172), (288, 46, false, "", 5, 186), (291, 40, false, "", 5, 191), (301, 124, false, "", 5, 204), (305, 160, false, "", 5, 217), (309, 162, false, "", 5, 226), (313, 163, false, "", 5, 231)],
  [(11, 2, true, "StrikeAwake", 1, 41), (25, 14, false, "", 2, 229), (30, 15, false, "", 2, 233), (34, 17, false, "", 3, 5), (54, 18, false, "", 3, 9), (185, 19, false, "", 3, 15), (47, 20, false, "", 3, 67), (63, 21, false, "", 3, 71), (74, 16, false, "", 3, 87), (87, 22, false, "", 3, 90), (115, 23, false, "", 3, 95), (119, 24, false, "", 3, 99), (90, 25, false, "", 3, 105), (131, 26, false, "", 3, 109), (139, 27, false, "", 3, 113), (147, 28, false, "", 3, 117), (154, 29, false, "", 3, 122), (93, 30, false, "", 3, 129), (194, 31, true, "StrikeAwake", 3, 137), (96, 32, false, "", 3, 143), (207, 33, false, "", 3, 147), (99, 34, false, "", 3, 151), (51, 35, false, "", 3, 155), (217, 36, true, "StrikeAwake", 3, 159), (102, 37, false, "", 3, 162), (105, 38, false, "", 3, 166), (233, 39, false, "", 3, 170), (238, 40, false, "", 3, 175), (108, 42, false, "", 3, 183), (111, 43, false, "", 3, 187)],
  [(26, 16, false, "", 3, 0)],
  [(28, 69, false, "", 4, 59), (61, 31, true, "StrikeAwake", 4, 63), (65, 49, false, "", 4, 64), (32, 70, false, "", 4, 65), (78, 71, false, "", 4, 69), (106, 75, false, "", 4, 85), (92, 72, false, "", 4, 89), (96, 76, false, "", 4, 90), (99, 36, true, "StrikeAwake", 4, 94), (118, 80, false, "", 4, 108), (122, 81, false, "", 4, 112), (88, 45, false, "", 5, 166)],
  [(36, 86, false, "", 4, 133), (39, 87, false, "", 4, 137), (51, 79, false, "", 4, 141), (55, 88, false, "", 4, 142), (82, 89, false, "", 4, 146), (86, 58, false, "", 4, 150), (97, 72, false, "", 4, 151), (100, 90, false, "", 4, 152), (59, 91, false, "", 4, 158), (113, 95, false, "", 4, 174), (122, 36, true, "StrikeAwake", 4, 198), (126, 100, false, "", 4, 211), (132, 111, false, "", 5, 1), (135, 96, false, "", 5, 4), (141, 116, false, "", 5, 21)],
  [(24, 123, false, "", 5, 48), (42, 124, false, "", 5, 52), (32, 125, false, "", 5, 56), (51, 126, false, "", 5, 60), (57, 127, false, "", 5, 66), (61, 128, false, "", 5, 70), (67, 36, true, "StrikeAwake", 5, 73), (71, 96, false, "", 5, 74), (64, 129, false, "", 5, 75), (36, 116, false, "", 5, 87)],
  [(28, 87, false, "", 5, 108), (43, 89, false, "", 5, 109), (47, 80, false, "", 5, 110), (51, 81, false, "", 5, 111), (61, 91, false, "", 5, 113), (64, 139, false, "", 5, 123), (84, 140, false, "", 5, 127), (94, 72, false, "", 5, 130), (97, 76, false, "", 5, 131), (72, 141, false, "", 5, 132), (100, 142, false, "", 5, 136), (104, 143, false, "", 5, 140), (108, 126, false, "", 5, 143), (75, 144, false, "", 5, 144), (78, 145, false, "", 5, 148)],
  [(36, 8, true, "StrikeAwake", 1, 212), (89, 41, false, "", 3, 179), (96, 45, false, "", 3, 195), (92, 31, true, "StrikeAwake", 3, 199), (99, 46, false, "", 3, 200), (103, 47, false, "", 3, 204), (113, 126, false, "", 5, 176), (118, 151, false, "", 5, 177), (121, 36, true, "StrikeAwake", 5, 181)],
  [(58, 48, false, "", 3, 208), (78, 49, false, "", 3, 212), (74, 31, true, "StrikeAwake", 3, 215)],
  [(54, 170, false, "", 6, 190), (333, 171, true, "StrikeAwakeModel", 6, 196), (118, 172, false, "", 7, 62), (81, 173, false, "", 7, 66), (90, 174, false, "", 7, 70), (98, 175, false, "", 7, 74), (334, 176, false, "", 7, 77), (179, 177, false, "", 7, 81), (114, 178, false, "", 7, 86), (110, 179, false, "", 7, 90), (191, 180, false, "", 7, 95), (121, 181, false, "", 7, 99), (216, 182, false, "", 7, 104), (133, 183, false, "", 7, 108), (137, 184, false, "", 7, 112), (129, 185, false, "", 7, 116), (125, 186, false, "", 7, 120), (194, 187, false, "", 7, 126), (228, 188, false, "", 7, 130), (162, 189, false, "", 7, 134), (170, 190, false, "", 7, 147), (235, 191, false, "", 7, 153), (240, 192, false, "", 7, 157), (197, 193, false, "", 7, 161), (273, 194, false, "", 7, 165), (176, 195, false, "", 7, 169), (200, 196, false, "", 7, 173), (279, 197, false, "", 7, 177), (203, 198, false, "", 7, 181), (206, 199, false, "", 7, 185), (209, 200, false, "", 7, 190), (309, 201, false, "", 7, 194), (318, 202, false, "", 7, 198), (212, 203, false, "", 7, 201), (182, 204, false, "", 7, 205), (346, 205, false, "", 7, 209), (350, 206, false, "", 7, 212), (357, 207, false, "", 7, 216), (360, 208, false, "", 7, 220), (58, 209, false, "", 7, 224), (364, 213, false, "", 8, 0), (367, 215, false, "", 8, 8), (370, 216, false, "", 8, 12), (373, 218, false, "", 8, 20), (376, 220, false, "", 8, 28), (380, 221, false, "", 8, 32), (400, 223, false, "", 8, 40), (403, 224, false, "", 8, 44), (406, 227, false, "", 8, 56), (386, 228, false, "", 8, 60), (384, 229, false, "", 8, 64), (412, 231, false, "", 8, 72), (415, 232, false, "", 8, 76), (409, 233, false, "", 8, 80), (390, 234, false, "", 8, 84), (393, 235, false, "", 8, 88), (418, 238, false, "", 8, 100), (397, 239, false, "", 8, 104), (433, 241, false, "", 8, 112), (430, 242, false, "", 8, 117), (425, 243, false, "", 8, 121), (440, 247, false, "", 8, 137), (437, 248, false, "", 8, 141), (444, 251, false, "", 8, 153), (447, 253, false, "", 8, 161), (452, 257, false, "", 8, 178), (455, 262, false, "", 8, 198), (458, 264, false, "", 8, 206), (467, 267, false, "", 8, 218), (470, 268, false, "", 8, 222), (462, 269, false, "", 8, 226), (465, 270, false, "", 8, 229), (473, 273, false, "", 9, 1), (476, 274, false, "", 9, 5), (481, 277, false, "", 9, 18), (484, 278, false, "", 9, 22), (487, 280, false, "", 9, 30), (490, 281, false, "", 9, 34)],
  [],
  [(15, 0, false, "", 1, 27), (19, 9, false, "", 2, 209), (24, 11, false, "", 2, 217), (28, 52, false, "", 3, 224), (33, 53, false, "", 3, 228), (37, 54, false, "", 3, 232), (41, 56, false, "", 4, 0), (46, 59, false, "", 4, 18), (50, 61, false, "", 4, 27), (55, 62, false, "", 4, 31), (60, 65, false, "", 4, 43), (64, 66, false, "", 4, 47), (68, 73, false, "", 4, 77), (72, 77, false, "", 4, 95), (76, 78, false, "", 4, 100), (80, 82, false, "", 4, 116), (84, 92, false, "", 4, 162), (88, 93, false, "", 4, 166), (93, 97, false, "", 4, 182), (97, 98, false, "", 4, 186), (101, 99, false, "", 4, 190), (105, 101, false, "", 4, 199), (109, 104, false, "", 4, 212), (114, 105, false, "", 4, 216), (118, 107, false, "", 4, 225), (122, 108, false, "", 4, 229), (126, 109, false, "", 4, 233), (130, 112, false, "", 5, 5), (135, 114, false, "", 5, 13), (139, 117, false, "", 5, 24), (143, 119, false, "", 5, 32), (147, 120, false, "", 5, 36), (151, 130, false, "", 5, 79), (155, 132, false, "", 5, 88), (159, 135, false, "", 5, 100), (163, 137, false, "", 5, 114), (167, 146, false, "", 5, 152), (171, 147, false, "", 5, 156), (175, 149, false, "", 5, 168), (179, 152, false, "", 5, 182), (183, 153, false, "", 5, 187), (187, 154, false, "", 5, 192), (192, 155, false, "", 5, 196), (196, 156, false, "", 5, 200), (200, 157, false, "", 5, 205), (204, 158, false, "", 5, 209), (209, 159, false, "", 5, 213), (215, 161, false, "", 5, 222), (226, 164, false, "", 5, 235), (230, 165, false, "", 5, 239), (7, 166, false, "", 6, 7), (18, 167, false, "", 6, 78), (23, 168, false, "", 6, 182), (27, 169, false, "", 6, 186), (32, 210, false, "", 7, 228), (36, 211, false, "", 7, 232), (40, 212, false, "", 7, 236), (45, 214, false, "", 8, 4), (49, 217, false, "", 8, 16), (54, 219, false, "", 8, 24), (59, 222, false, "", 8, 36), (63, 225, false, "", 8, 48), (67, 226, false, "", 8, 52), (71, 230, false, "", 8, 68), (75, 236, false, "", 8, 92), (79, 237, false, "", 8, 96), (83, 240, false, "", 8, 108), (87, 244, false, "", 8, 125), (92, 245, false, "", 8, 129), (96, 246, false, "", 8, 133), (100, 249, false, "", 8, 145), (104, 250, false, "", 8, 149), (108, 252, false, "", 8, 157), (113, 254, false, "", 8, 165), (117, 255, false, "", 8, 169), (121, 256, false, "", 8, 174), (125, 258, false, "", 8, 182), (129, 259, false, "", 8, 186), (134, 260, false, "", 8, 190), (138, 261, false, "", 8, 194), (142, 263, false, "", 8, 202), (146, 265, false, "", 8, 210), (150, 266, false, "", 8, 214), (154, 271, false, "", 8, 233), (158, 272, false, "", 8, 237), (162, 275, false, "", 9, 9), (166, 276, false, "", 9, 13), (170, 279, false, "", 9, 26), (174, 282, false, "", 9, 38), (178, 283, false, "", 9, 42), (182, 284, false, "", 9, 46), (186, 285, false, "", 9, 50), (191, 286, false, "", 9, 54), (195, 287, false, "", 9, 58), (199, 288, false, "", 9, 62), (203, 289, false, "", 9, 66), (208, 290, false, "", 9, 70), (212, 291, false, "", 9, 74), (219, 292, false, "", 9, 79), (225, 293, false, "", 9, 83), (229, 294, false, "", 9, 87), (233, 295, false, "", 9, 91)],
  [],
  [],
  [],
  [],
  [],
  [],
  [],
  []]
/-- Object.<init> by class and pool entry: entry, word -/
def mc_ol : List (List (Nat × Nat × Nat)) := [
  [(1, 1, 30)],
  [(3, 1, 38)],
  [(1, 1, 44)],
  [(3, 1, 95)],
  [(3, 1, 122)],
  [(3, 1, 170)],
  [(3, 1, 192)],
  [(3, 1, 208)],
  [(3, 1, 215)],
  [(1, 6, 81)],
  [(3, 6, 199)],
  [],
  [],
  [],
  [],
  [],
  [],
  [],
  [],
  []]
/-- arrays of arrays by class and pool entry: entry, which (int, long), word -/
def mc_gl : List (List (Nat × Nat × Nat × Nat)) := [
  [],
  [],
  [],
  [],
  [(15, 0, 1, 123), (20, 1, 1, 125)],
  [],
  [],
  [],
  [],
  [],
  [],
  [],
  [],
  [],
  [],
  [],
  [],
  [],
  [],
  []]
/-- the JDK's methods of constants by class and pool entry: entry, which (String.length, String.charAt, Enum.ordinal), word -/
def mc_pl : List (List (Nat × Nat × Nat × Nat)) := [
  [],
  [(83, 2, 3, 89)],
  [(44, 0, 3, 19), (49, 1, 3, 29)],
  [],
  [],
  [],
  [],
  [(80, 2, 3, 77)],
  [],
  [(64, 0, 7, 93), (71, 1, 7, 94)],
  [],
  [],
  [],
  [],
  [],
  [],
  [],
  [],
  [],
  []]
/-- the texts of string constants, as bytes -/
def mc_sb : List (Nat × List Int32) := [(32, [108, 97, 119]), (33, [112, 101, 114, 115, 111, 110]), (34, [115, 101, 120, 116, 111, 110]), (35, [97, 112, 97, 114, 116]), (36, [98, 111, 114, 110]), (37, [115, 116, 114, 117, 99, 107]), (38, [116, 111, 108, 100]), (39, [111, 102, 102, 101, 114]), (40, [104, 97, 98, 105, 116]), (41, [110, 97, 112]), (42, [97, 119, 97, 121]), (64, [104, 111, 117, 114, 115]), (65, [98, 101, 115, 105, 100, 101]), (66, [111, 102, 102]), (67, [98, 101, 100]), (68, [116, 111]), (69, [108, 111, 110, 103]), (70, [105, 115]), (71, [116, 104, 101, 114, 101, 32, 105, 115, 32, 110, 111, 32, 115, 117, 99, 104, 32, 112, 101, 114, 115, 111, 110, 32, 97, 119, 97, 121]), (72, [108, 97, 119]), (73, [104, 111, 117, 114, 115]), (74, [98, 101, 115, 105, 100, 101]), (75, [111, 102, 102]), (76, [112, 101, 114, 115, 111, 110]), (77, [115, 101, 120, 116, 111, 110]), (78, [97, 112, 97, 114, 116]), (79, [98, 111, 114, 110]), (80, [115, 116, 114, 117, 99, 107]), (81, [116, 111, 108, 100]), (82, [111, 102, 102, 101, 114]), (83, [104, 97, 98, 105, 116]), (84, [110, 97, 112]), (85, [97, 119, 97, 121]), (86, [98, 101, 100]), (87, [116, 111]), (88, [108, 111, 110, 103]), (89, [105, 115])]
/-- Math by class and pool entry: entry, which (min, max, abs), word -/
def mc_jl : List (List (Nat × Nat × Nat × Nat)) := [
  [],
  [(263, 0, 3, 127)],
  [(13, 0, 2, 237)],
  [],
  [(104, 0, 4, 156), (110, 1, 4, 157)],
  [],
  [(55, 1, 5, 112)],
  [],
  [(84, 2, 4, 12), (90, 1, 4, 15)],
  [],
  [],
  [],
  [],
  [],
  [],
  [],
  [],
  [],
  [],
  []]
/-- classes by class and pool entry: entry, class, word -/
def mc_kl : List (List (Nat × Nat × Nat × Nat)) := [
  [(13, 1, 1, 33), (20, 3, 1, 90), (27, 4, 1, 117), (34, 5, 1, 165), (41, 6, 1, 187), (48, 7, 1, 203)],
  [(9, 2, 1, 39)],
  [],
  [],
  [],
  [],
  [],
  [(9, 8, 1, 209)],
  [],
  [(171, 10, 6, 194)],
  [],
  [(8, 0, 1, 25), (16, 9, 6, 76)],
  [],
  [],
  [],
  [],
  [],
  [],
  [],
  []]
/-- statics by class and pool entry: entry, static, nest, host, word -/
def mc_sl : List (List (Nat × Nat × Bool × String × Nat × Nat)) := [
  [],
  [(258, 0, true, "StrikeAwake", 3, 13), (67, 2, false, "", 3, 83), (71, 4, false, "", 3, 85), (77, 1, false, "", 3, 88), (178, 10, false, "", 3, 133), (191, 11, false, "", 3, 135), (200, 12, false, "", 3, 141)],
  [],
  [],
  [],
  [],
  [],
  [(75, 1, false, "", 3, 75)],
  [],
  [],
  [],
  [],
  [],
  [],
  [],
  [],
  [],
  [],
  [],
  []]
/-- constants by class and pool entry: entry, value, word -/
def mc_cs : List (List (Nat × Value × Nat × Nat)) := [
  [(350, .int 16777215, 3, 140), (348, .long 20000, 4, 128), (252, .long 5000, 5, 118)],
  [],
  [(36, .long 32, 3, 4)],
  [],
  [(130, .long 100, 4, 224)],
  [],
  [],
  [(125, .long 40, 5, 221), (130, .long 20000, 5, 230)],
  [],
  [(69, .long 32, 7, 73), (428, .long 20000, 8, 116), (450, .long 100, 8, 173), (479, .long 5000, 9, 17), (493, .long 40, 9, 78)],
  [],
  [(213, .long 4294967295, 9, 95)],
  [],
  [],
  [],
  [(265, .int 1431655765, 5, 63), (266, .int 858993459, 5, 64), (267, .int 252645135, 5, 65)],
  [],
  [],
  [],
  []]
/-- statics: class, name, descriptor, the constant that it holds -/
def mc_st : List (String × String × String × Nat) := [("StrikeAwake", "RESERVED", "[LStrikeAwake$Reserved;", 1), ("StrikeAwake$1", "$SwitchMap$StrikeAwake$Reserved", "[I", 2), ("StrikeAwake$Reserved", "LAW", "LStrikeAwake$Reserved;", 16), ("StrikeAwake$Reserved", "PERSON", "LStrikeAwake$Reserved;", 17), ("StrikeAwake$Reserved", "SEXTON", "LStrikeAwake$Reserved;", 18), ("StrikeAwake$Reserved", "APART", "LStrikeAwake$Reserved;", 19), ("StrikeAwake$Reserved", "BORN", "LStrikeAwake$Reserved;", 20), ("StrikeAwake$Reserved", "STRUCK", "LStrikeAwake$Reserved;", 21), ("StrikeAwake$Reserved", "TOLD", "LStrikeAwake$Reserved;", 22), ("StrikeAwake$Reserved", "OFFER", "LStrikeAwake$Reserved;", 23), ("StrikeAwake$Reserved", "HABIT", "LStrikeAwake$Reserved;", 24), ("StrikeAwake$Reserved", "NAP", "LStrikeAwake$Reserved;", 25), ("StrikeAwake$Reserved", "AWAY", "LStrikeAwake$Reserved;", 26)]
/-- strings: class, entry, text, constant, word -/
def mc_sr : List (Nat × Nat × String × Nat × Nat × Nat) := [(1, 114, "hours", 64, 3, 94), (1, 123, "beside", 65, 3, 103), (1, 125, "off", 66, 3, 104), (1, 152, "bed", 67, 3, 121), (1, 262, "to", 68, 3, 126), (1, 170, "long", 69, 3, 128), (1, 236, "is", 70, 3, 174), (0, 322, "there is no such person away", 71, 6, 50), (9, 140, "law", 72, 7, 85), (9, 215, "hours", 73, 7, 103), (9, 220, "beside", 74, 7, 123), (9, 224, "off", 75, 7, 124), (9, 142, "person", 76, 7, 125), (9, 144, "sexton", 77, 7, 138), (9, 146, "apart", 78, 7, 139), (9, 148, "born", 79, 7, 140), (9, 150, "struck", 80, 7, 141), (9, 152, "told", 81, 7, 142), (9, 154, "offer", 82, 7, 143), (9, 156, "habit", 83, 7, 144), (9, 158, "nap", 84, 7, 145), (9, 160, "away", 85, 7, 146), (9, 232, "bed", 86, 7, 151), (9, 233, "to", 87, 7, 152), (9, 238, "long", 88, 7, 156), (9, 298, "is", 89, 7, 189), (12, 67, "law", 32, 9, 123), (12, 76, "sexton", 34, 9, 124), (12, 94, "habit", 40, 9, 125), (12, 97, "nap", 41, 9, 126), (12, 100, "away", 42, 9, 127), (12, 73, "person", 33, 9, 128), (12, 79, "apart", 35, 9, 129), (12, 82, "born", 36, 9, 130), (12, 85, "struck", 37, 9, 131), (12, 88, "told", 38, 9, 132), (12, 91, "offer", 39, 9, 133)]
def mc_kf (ci : Nat) : List (String × String × String) := if ci = 20 then [("StrikeAwake$Reserved", "word", "Ljava/lang/String;"), ("StrikeAwake$Reserved", "room", "I")] else []
/-- methods: class, name, bytes, locals, answer, parameters, sort (0 static, 1 by receiver, 2 constructor) -/
def mc_mt_0 : List (Nat × MethodName × ByteArray × Nat × Option FieldType × Nat × Nat) := [
  (0, ⟨"StrikeAwake", "<init>", "()V"⟩, prog_1_method_1_code, 1, none, 0, 2),
  (1, ⟨"StrikeAwake$Reader", "<init>", "()V"⟩, prog_8_method_1_code, 1, none, 0, 2),
  (2, ⟨"StrikeAwake$Tokens", "<init>", "()V"⟩, prog_10_method_1_code, 1, none, 0, 2),
  (3, ⟨"StrikeAwake$Walk", "<init>", "()V"⟩, prog_11_method_1_code, 1, none, 0, 2),
  (4, ⟨"StrikeAwake$Census", "<init>", "()V"⟩, prog_4_method_1_code, 1, none, 0, 2),
  (5, ⟨"StrikeAwake$Asking", "<init>", "()V"⟩, prog_3_method_1_code, 1, none, 0, 2),
  (6, ⟨"StrikeAwake$Grounds", "<init>", "()V"⟩, prog_5_method_1_code, 1, none, 0, 2),
  (7, ⟨"StrikeAwake$Parish", "<init>", "()V"⟩, prog_6_method_1_code, 2, none, 0, 2),
  (8, ⟨"StrikeAwake$Person", "<init>", "()V"⟩, prog_7_method_1_code, 1, none, 0, 2),
  (0, ⟨"StrikeAwake", "feed", "(IIIII)I"⟩, prog_1_method_2_code, 6, some FieldType.int, 5, 1),
  (0, ⟨"StrikeAwake", "putOnTape", "(I)V"⟩, prog_1_method_52_code, 3, none, 1, 1),
  (0, ⟨"StrikeAwake", "parish", "(I)I"⟩, prog_1_method_3_code, 4, some FieldType.int, 1, 1),
  (0, ⟨"StrikeAwake", "refuse", "(I)I"⟩, prog_1_method_54_code, 2, some FieldType.int, 1, 1),
  (1, ⟨"StrikeAwake$Reader", "reads", "([BILStrikeAwake$Parish;)Z"⟩, prog_8_method_2_code, 5, some FieldType.boolean, 3, 1),
  (7, ⟨"StrikeAwake$Parish", "clear", "()V"⟩, prog_6_method_2_code, 2, none, 0, 1),
  (2, ⟨"StrikeAwake$Tokens", "begin", "([BI)V"⟩, prog_10_method_2_code, 3, none, 2, 1),
  (2, ⟨"StrikeAwake$Tokens", "advance", "()V"⟩, prog_10_method_3_code, 4, none, 0, 1),
  (1, ⟨"StrikeAwake$Reader", "readsLine", "(LStrikeAwake$Parish;)Z"⟩, prog_8_method_3_code, 4, some FieldType.boolean, 1, 1),
  (1, ⟨"StrikeAwake$Reader", "reserved", "()LStrikeAwake$Reserved;"⟩, prog_8_method_14_code, 2, some (FieldType.object "StrikeAwake$Reserved"), 0, 1),
  (2, ⟨"StrikeAwake$Tokens", "isWord", "(Ljava/lang/String;)Z"⟩, prog_10_method_4_code, 5, some FieldType.boolean, 1, 1),
  (1, ⟨"StrikeAwake$Reader", "fail", "(I)Z"⟩, prog_8_method_13_code, 2, some FieldType.boolean, 1, 1),
  (7, ⟨"StrikeAwake$Parish", "linesOf", "(LStrikeAwake$Reserved;)I"⟩, prog_6_method_3_code, 2, some FieldType.int, 1, 1),
  (1, ⟨"StrikeAwake$Reader", "readsLaw", "(LStrikeAwake$Parish;)Z"⟩, prog_8_method_4_code, 5, some FieldType.boolean, 1, 1),
  (1, ⟨"StrikeAwake$Reader", "takesWord", "(Ljava/lang/String;)Z"⟩, prog_8_method_18_code, 2, some FieldType.boolean, 1, 1),
  (1, ⟨"StrikeAwake$Reader", "whole", "(II)I"⟩, prog_8_method_19_code, 4, some FieldType.int, 2, 1),
  (1, ⟨"StrikeAwake$Reader", "readsPerson", "(LStrikeAwake$Parish;)Z"⟩, prog_8_method_5_code, 3, some FieldType.boolean, 1, 1),
  (1, ⟨"StrikeAwake$Reader", "isName", "()Z"⟩, prog_8_method_15_code, 1, some FieldType.boolean, 0, 1),
  (7, ⟨"StrikeAwake$Parish", "personNamed", "(J)I"⟩, prog_6_method_4_code, 4, some FieldType.int, 1, 1),
  (8, ⟨"StrikeAwake$Person", "clear", "(J)V"⟩, prog_7_method_2_code, 3, none, 1, 1),
  (1, ⟨"StrikeAwake$Reader", "takesRange", "(IIII)Z"⟩, prog_8_method_20_code, 5, some FieldType.boolean, 4, 1),
  (1, ⟨"StrikeAwake$Reader", "readsCustoms", "(LStrikeAwake$Parish;)Z"⟩, prog_8_method_6_code, 3, some FieldType.boolean, 1, 1),
  (0, ⟨"StrikeAwake", "hourBits", "(II)I"⟩, prog_1_method_67_code, 2, some FieldType.int, 2, 0)]
def mc_mt_1 : List (Nat × MethodName × ByteArray × Nat × Option FieldType × Nat × Nat) := [
  (1, ⟨"StrikeAwake$Reader", "readsSexton", "(LStrikeAwake$Parish;)Z"⟩, prog_8_method_7_code, 3, some FieldType.boolean, 1, 1),
  (1, ⟨"StrikeAwake$Reader", "knownPerson", "(LStrikeAwake$Parish;)I"⟩, prog_8_method_16_code, 3, some FieldType.int, 1, 1),
  (1, ⟨"StrikeAwake$Reader", "readsApart", "(LStrikeAwake$Parish;)Z"⟩, prog_8_method_8_code, 4, some FieldType.boolean, 1, 1),
  (1, ⟨"StrikeAwake$Reader", "takes", "(I)Z"⟩, prog_8_method_17_code, 2, some FieldType.boolean, 1, 1),
  (0, ⟨"StrikeAwake", "hasBit", "(II)Z"⟩, prog_1_method_66_code, 2, some FieldType.boolean, 2, 0),
  (1, ⟨"StrikeAwake$Reader", "readsBorn", "(LStrikeAwake$Parish;)Z"⟩, prog_8_method_9_code, 3, some FieldType.boolean, 1, 1),
  (1, ⟨"StrikeAwake$Reader", "readsStruck", "(LStrikeAwake$Parish;)Z"⟩, prog_8_method_10_code, 4, some FieldType.boolean, 1, 1),
  (7, ⟨"StrikeAwake$Parish", "isStruck", "(I)Z"⟩, prog_6_method_5_code, 2, some FieldType.boolean, 1, 1),
  (7, ⟨"StrikeAwake$Parish", "setStroke", "(II)V"⟩, prog_6_method_6_code, 3, none, 2, 1),
  (7, ⟨"StrikeAwake$Parish", "listStruck", "()V"⟩, prog_6_method_7_code, 2, none, 0, 1),
  (1, ⟨"StrikeAwake$Reader", "readsTold", "(LStrikeAwake$Parish;)Z"⟩, prog_8_method_11_code, 3, some FieldType.boolean, 1, 1),
  (1, ⟨"StrikeAwake$Reader", "readsOffer", "(LStrikeAwake$Parish;)Z"⟩, prog_8_method_12_code, 2, some FieldType.boolean, 1, 1),
  (7, ⟨"StrikeAwake$Parish", "settle", "()V"⟩, prog_6_method_9_code, 3, none, 0, 1),
  (7, ⟨"StrikeAwake$Parish", "allHours", "()I"⟩, prog_6_method_8_code, 1, some FieldType.int, 0, 1),
  (7, ⟨"StrikeAwake$Parish", "hoursStruckUpTo", "(I)I"⟩, prog_6_method_10_code, 4, some FieldType.int, 1, 1),
  (8, ⟨"StrikeAwake$Person", "makeSpans", "(II)V"⟩, prog_7_method_3_code, 6, none, 2, 1),
  (8, ⟨"StrikeAwake$Person", "addSpan", "(IIII)V"⟩, prog_7_method_4_code, 5, none, 4, 1),
  (3, ⟨"StrikeAwake$Walk", "tallyOf", "(I)J"⟩, prog_11_method_2_code, 4, some FieldType.long, 1, 0),
  (4, ⟨"StrikeAwake$Census", "forget", "()V"⟩, prog_4_method_2_code, 1, none, 0, 1),
  (0, ⟨"StrikeAwake", "answer", "(I)I"⟩, prog_1_method_53_code, 2, some FieldType.int, 1, 1),
  (0, ⟨"StrikeAwake", "fault", "()I"⟩, prog_1_method_4_code, 1, some FieldType.int, 0, 1),
  (0, ⟨"StrikeAwake", "where", "()I"⟩, prog_1_method_5_code, 1, some FieldType.int, 0, 1),
  (0, ⟨"StrikeAwake", "spans", "(I)I"⟩, prog_1_method_6_code, 2, some FieldType.int, 1, 1),
  (0, ⟨"StrikeAwake", "isPerson", "(I)Z"⟩, prog_1_method_57_code, 2, some FieldType.boolean, 1, 1),
  (0, ⟨"StrikeAwake", "span", "(III)I"⟩, prog_1_method_7_code, 5, some FieldType.int, 3, 1),
  (0, ⟨"StrikeAwake", "isSpan", "(II)Z"⟩, prog_1_method_58_code, 3, some FieldType.boolean, 2, 1),
  (8, ⟨"StrikeAwake$Person", "weightOf", "(I)I"⟩, prog_7_method_5_code, 2, some FieldType.int, 1, 1),
  (0, ⟨"StrikeAwake", "awake", "(III)I"⟩, prog_1_method_8_code, 4, some FieldType.int, 3, 1),
  (0, ⟨"StrikeAwake", "isHour", "(I)Z"⟩, prog_1_method_59_code, 2, some FieldType.boolean, 1, 1),
  (0, ⟨"StrikeAwake", "lots", "()J"⟩, prog_1_method_9_code, 1, some FieldType.long, 0, 1),
  (0, ⟨"StrikeAwake", "say", "(II)Z"⟩, prog_1_method_10_code, 3, some FieldType.boolean, 2, 1),
  (0, ⟨"StrikeAwake", "deny", "(I)Z"⟩, prog_1_method_56_code, 2, some FieldType.boolean, 1, 1)]
def mc_mt_2 : List (Nat × MethodName × ByteArray × Nat × Option FieldType × Nat × Nat) := [
  (0, ⟨"StrikeAwake", "grant", "()Z"⟩, prog_1_method_55_code, 1, some FieldType.boolean, 0, 1),
  (0, ⟨"StrikeAwake", "said", "(I)I"⟩, prog_1_method_11_code, 2, some FieldType.int, 1, 1),
  (0, ⟨"StrikeAwake", "strikes", "(I)I"⟩, prog_1_method_12_code, 3, some FieldType.int, 1, 1),
  (0, ⟨"StrikeAwake", "barOfSaid", "(Z)I"⟩, prog_1_method_61_code, 2, some FieldType.int, 1, 1),
  (3, ⟨"StrikeAwake$Walk", "toSaid", "(LStrikeAwake$Parish;)V"⟩, prog_11_method_4_code, 3, none, 1, 1),
  (3, ⟨"StrikeAwake$Walk", "countBirths", "(LStrikeAwake$Parish;)V"⟩, prog_11_method_6_code, 4, none, 1, 1),
  (3, ⟨"StrikeAwake$Walk", "countFrom", "(LStrikeAwake$Parish;I)V"⟩, prog_11_method_7_code, 6, none, 2, 1),
  (3, ⟨"StrikeAwake$Walk", "quarrelsOf", "(LStrikeAwake$Parish;I)I"⟩, prog_11_method_8_code, 7, some FieldType.int, 2, 1),
  (3, ⟨"StrikeAwake$Walk", "strokesDue", "(I)I"⟩, prog_11_method_12_code, 6, some FieldType.int, 1, 1),
  (0, ⟨"StrikeAwake", "judge", "()I"⟩, prog_1_method_13_code, 2, some FieldType.int, 0, 1),
  (3, ⟨"StrikeAwake$Walk", "firstWrong", "(LStrikeAwake$Parish;)I"⟩, prog_11_method_14_code, 3, some FieldType.int, 1, 1),
  (3, ⟨"StrikeAwake$Walk", "wrongIn", "(LStrikeAwake$Parish;I)I"⟩, prog_11_method_13_code, 3, some FieldType.int, 2, 1),
  (7, ⟨"StrikeAwake$Parish", "verdict", "(II)I"⟩, prog_6_method_11_code, 4, some FieldType.int, 2, 1),
  (0, ⟨"StrikeAwake", "why", "()I"⟩, prog_1_method_14_code, 3, some FieldType.int, 0, 1),
  (0, ⟨"StrikeAwake", "agrees", "()I"⟩, prog_1_method_15_code, 2, some FieldType.int, 0, 1),
  (3, ⟨"StrikeAwake$Walk", "isWorld", "(LStrikeAwake$Parish;)Z"⟩, prog_11_method_16_code, 2, some FieldType.boolean, 1, 1),
  (3, ⟨"StrikeAwake$Walk", "isQuarrel", "()Z"⟩, prog_11_method_10_code, 1, some FieldType.boolean, 0, 1),
  (3, ⟨"StrikeAwake$Walk", "failsIn", "(LStrikeAwake$Parish;)I"⟩, prog_11_method_15_code, 6, some FieldType.int, 1, 1),
  (0, ⟨"StrikeAwake", "worlds", "()I"⟩, prog_1_method_16_code, 2, some FieldType.int, 0, 1),
  (0, ⟨"StrikeAwake", "barOfWorlds", "(Z)I"⟩, prog_1_method_63_code, 3, some FieldType.int, 1, 1),
  (0, ⟨"StrikeAwake", "barOfLots", "(Z)I"⟩, prog_1_method_62_code, 2, some FieldType.int, 1, 1),
  (4, ⟨"StrikeAwake$Census", "renew", "(LStrikeAwake$Parish;LStrikeAwake$Walk;)V"⟩, prog_4_method_3_code, 4, none, 2, 1),
  (4, ⟨"StrikeAwake$Census", "clear", "()V"⟩, prog_4_method_4_code, 3, none, 0, 1),
  (3, ⟨"StrikeAwake$Walk", "toFirst", "(LStrikeAwake$Parish;)V"⟩, prog_11_method_3_code, 3, none, 1, 1),
  (4, ⟨"StrikeAwake$Census", "enter", "(LStrikeAwake$Parish;LStrikeAwake$Walk;I)V"⟩, prog_4_method_5_code, 7, none, 3, 1),
  (3, ⟨"StrikeAwake$Walk", "pickOf", "(I)I"⟩, prog_11_method_9_code, 2, some FieldType.int, 1, 1),
  (4, ⟨"StrikeAwake$Census", "enterDue", "(II)V"⟩, prog_4_method_6_code, 3, none, 2, 1),
  (3, ⟨"StrikeAwake$Walk", "step", "(LStrikeAwake$Parish;)V"⟩, prog_11_method_5_code, 4, none, 1, 1),
  (0, ⟨"StrikeAwake", "can", "()I"⟩, prog_1_method_17_code, 2, some FieldType.int, 0, 1),
  (0, ⟨"StrikeAwake", "world", "(II)I"⟩, prog_1_method_18_code, 4, some FieldType.int, 2, 1),
  (4, ⟨"StrikeAwake$Census", "numberOf", "(I)I"⟩, prog_4_method_9_code, 4, some FieldType.int, 1, 1),
  (4, ⟨"StrikeAwake$Census", "isWorld", "(I)Z"⟩, prog_4_method_7_code, 2, some FieldType.boolean, 1, 1)]
def mc_mt_3 : List (Nat × MethodName × ByteArray × Nat × Option FieldType × Nat × Nat) := [
  (7, ⟨"StrikeAwake$Parish", "spanIn", "(II)I"⟩, prog_6_method_12_code, 5, some FieldType.int, 2, 1),
  (0, ⟨"StrikeAwake", "weights", "()J"⟩, prog_1_method_19_code, 2, some FieldType.long, 0, 1),
  (0, ⟨"StrikeAwake", "having", "(II)I"⟩, prog_1_method_20_code, 4, some FieldType.int, 2, 1),
  (0, ⟨"StrikeAwake", "times", "(II)I"⟩, prog_1_method_21_code, 4, some FieldType.int, 2, 1),
  (4, ⟨"StrikeAwake$Census", "countAwake", "(LStrikeAwake$Parish;II)I"⟩, prog_4_method_10_code, 7, some FieldType.int, 3, 1),
  (0, ⟨"StrikeAwake", "sure", "(II)I"⟩, prog_1_method_22_code, 4, some FieldType.int, 2, 1),
  (0, ⟨"StrikeAwake", "barOfSome", "(Z)I"⟩, prog_1_method_64_code, 3, some FieldType.int, 1, 1),
  (4, ⟨"StrikeAwake$Census", "sureness", "(LStrikeAwake$Parish;II)I"⟩, prog_4_method_11_code, 5, some FieldType.int, 3, 1),
  (0, ⟨"StrikeAwake", "surely", "(IZ)I"⟩, prog_1_method_23_code, 7, some FieldType.int, 2, 1),
  (0, ⟨"StrikeAwake", "chance", "(II)I"⟩, prog_1_method_24_code, 4, some FieldType.int, 2, 1),
  (4, ⟨"StrikeAwake$Census", "hundredthsAwake", "(LStrikeAwake$Parish;II)I"⟩, prog_4_method_12_code, 8, some FieldType.int, 3, 1),
  (0, ⟨"StrikeAwake", "likeliest", "(I)I"⟩, prog_1_method_25_code, 3, some FieldType.int, 1, 1),
  (0, ⟨"StrikeAwake", "greatest", "()J"⟩, prog_1_method_26_code, 2, some FieldType.long, 0, 1),
  (0, ⟨"StrikeAwake", "together", "(II)I"⟩, prog_1_method_27_code, 4, some FieldType.int, 2, 1),
  (4, ⟨"StrikeAwake$Census", "bothAwake", "(LStrikeAwake$Parish;II)I"⟩, prog_4_method_13_code, 6, some FieldType.int, 3, 1),
  (4, ⟨"StrikeAwake$Census", "awakeHours", "(LStrikeAwake$Parish;II)I"⟩, prog_4_method_14_code, 4, some FieldType.int, 3, 0),
  (0, ⟨"StrikeAwake", "possible", "(I)J"⟩, prog_1_method_28_code, 3, some FieldType.long, 1, 1),
  (4, ⟨"StrikeAwake$Census", "spansHeld", "(LStrikeAwake$Parish;I)J"⟩, prog_4_method_17_code, 6, some FieldType.long, 2, 1),
  (0, ⟨"StrikeAwake", "hiding", "(II)I"⟩, prog_1_method_29_code, 4, some FieldType.int, 2, 1),
  (4, ⟨"StrikeAwake$Census", "awakeBeside", "(LStrikeAwake$Parish;II)I"⟩, prog_4_method_15_code, 7, some FieldType.int, 3, 1),
  (4, ⟨"StrikeAwake$Census", "peopleAwake", "(LStrikeAwake$Parish;II)I"⟩, prog_4_method_16_code, 5, some FieldType.int, 3, 0),
  (0, ⟨"StrikeAwake", "bed", "(IZ)I"⟩, prog_1_method_30_code, 4, some FieldType.int, 2, 1),
  (4, ⟨"StrikeAwake$Census", "outermost", "([IIZ)I"⟩, prog_4_method_18_code, 6, some FieldType.int, 3, 1),
  (0, ⟨"StrikeAwake", "sleeps", "(IZ)I"⟩, prog_1_method_31_code, 4, some FieldType.int, 2, 1),
  (0, ⟨"StrikeAwake", "ask", "()I"⟩, prog_1_method_32_code, 2, some FieldType.int, 0, 1),
  (0, ⟨"StrikeAwake", "barOfAsking", "(Z)I"⟩, prog_1_method_65_code, 3, some FieldType.int, 1, 1),
  (5, ⟨"StrikeAwake$Asking", "fewestForAll", "(LStrikeAwake$Parish;LStrikeAwake$Census;)I"⟩, prog_3_method_2_code, 4, some FieldType.int, 2, 1),
  (5, ⟨"StrikeAwake$Asking", "gather", "(LStrikeAwake$Parish;LStrikeAwake$Census;)V"⟩, prog_3_method_4_code, 5, none, 2, 1),
  (4, ⟨"StrikeAwake$Census", "nextFrom", "(ILStrikeAwake$Parish;)I"⟩, prog_4_method_8_code, 4, some FieldType.int, 2, 1),
  (5, ⟨"StrikeAwake$Asking", "fewest", "(LStrikeAwake$Parish;)I"⟩, prog_3_method_5_code, 5, some FieldType.int, 1, 1),
  (15, ⟨"java/lang/Integer", "bitCount", "(I)I"⟩, prog_20_method_49_code, 1, some FieldType.int, 1, 0),
  (5, ⟨"StrikeAwake$Asking", "tells", "(LStrikeAwake$Parish;I)Z"⟩, prog_3_method_6_code, 5, some FieldType.boolean, 2, 1)]
def mc_mt_4 : List (Nat × MethodName × ByteArray × Nat × Option FieldType × Nat × Nat) := [
  (5, ⟨"StrikeAwake$Asking", "lookOf", "(LStrikeAwake$Parish;II)I"⟩, prog_3_method_7_code, 5, some FieldType.int, 3, 0),
  (5, ⟨"StrikeAwake$Asking", "slotOf", "(I)I"⟩, prog_3_method_8_code, 4, some FieldType.int, 1, 1),
  (0, ⟨"StrikeAwake", "askFor", "(I)I"⟩, prog_1_method_33_code, 3, some FieldType.int, 1, 1),
  (5, ⟨"StrikeAwake$Asking", "fewestForHour", "(LStrikeAwake$Parish;LStrikeAwake$Census;I)I"⟩, prog_3_method_3_code, 5, some FieldType.int, 3, 1),
  (0, ⟨"StrikeAwake", "lie", "(I)I"⟩, prog_1_method_34_code, 3, some FieldType.int, 1, 1),
  (0, ⟨"StrikeAwake", "isTold", "(I)Z"⟩, prog_1_method_60_code, 2, some FieldType.boolean, 1, 1),
  (4, ⟨"StrikeAwake$Census", "hasTold", "(LStrikeAwake$Parish;I)Z"⟩, prog_4_method_19_code, 7, some FieldType.boolean, 2, 1),
  (0, ⟨"StrikeAwake", "bars", "(I)I"⟩, prog_1_method_35_code, 3, some FieldType.int, 1, 1),
  (6, ⟨"StrikeAwake$Grounds", "barringHour", "(LStrikeAwake$Parish;LStrikeAwake$Walk;I)I"⟩, prog_5_method_2_code, 10, some FieldType.int, 3, 1),
  (0, ⟨"StrikeAwake", "proof", "()I"⟩, prog_1_method_36_code, 1, some FieldType.int, 0, 1),
  (6, ⟨"StrikeAwake$Grounds", "fewestHours", "(LStrikeAwake$Parish;LStrikeAwake$Walk;)I"⟩, prog_5_method_3_code, 4, some FieldType.int, 2, 1),
  (6, ⟨"StrikeAwake$Grounds", "gather", "(LStrikeAwake$Parish;LStrikeAwake$Walk;)V"⟩, prog_5_method_4_code, 4, none, 2, 1),
  (6, ⟨"StrikeAwake$Grounds", "flawsOf", "(LStrikeAwake$Parish;LStrikeAwake$Walk;)J"⟩, prog_5_method_5_code, 7, some FieldType.long, 2, 0),
  (6, ⟨"StrikeAwake$Grounds", "oneHour", "(LStrikeAwake$Parish;)I"⟩, prog_5_method_6_code, 4, some FieldType.int, 1, 1),
  (6, ⟨"StrikeAwake$Grounds", "leavesNone", "(LStrikeAwake$Parish;I)Z"⟩, prog_5_method_9_code, 4, some FieldType.boolean, 2, 1),
  (6, ⟨"StrikeAwake$Grounds", "isLeft", "(LStrikeAwake$Parish;JI)Z"⟩, prog_5_method_10_code, 6, some FieldType.boolean, 3, 0),
  (6, ⟨"StrikeAwake$Grounds", "twoHours", "(LStrikeAwake$Parish;)I"⟩, prog_5_method_7_code, 5, some FieldType.int, 1, 1),
  (6, ⟨"StrikeAwake$Grounds", "threeHours", "(LStrikeAwake$Parish;)I"⟩, prog_5_method_8_code, 7, some FieldType.int, 1, 1),
  (0, ⟨"StrikeAwake", "part", "(IZ)I"⟩, prog_1_method_37_code, 5, some FieldType.int, 2, 1),
  (0, ⟨"StrikeAwake", "nothing", "()I"⟩, prog_1_method_38_code, 4, some FieldType.int, 0, 1),
  (3, ⟨"StrikeAwake$Walk", "silentHours", "(LStrikeAwake$Parish;)I"⟩, prog_11_method_11_code, 2, some FieldType.int, 1, 1),
  (0, ⟨"StrikeAwake", "keep", "()I"⟩, prog_1_method_39_code, 1, some FieldType.int, 0, 1),
  (7, ⟨"StrikeAwake$Parish", "fewestOffers", "()I"⟩, prog_6_method_13_code, 4, some FieldType.int, 0, 1),
  (7, ⟨"StrikeAwake$Parish", "hoursOffered", "(I)I"⟩, prog_6_method_14_code, 4, some FieldType.int, 1, 1),
  (0, ⟨"StrikeAwake", "quiet", "(I)I"⟩, prog_1_method_40_code, 2, some FieldType.int, 1, 1),
  (0, ⟨"StrikeAwake", "strike", "(II)I"⟩, prog_1_method_41_code, 3, some FieldType.int, 2, 1),
  (0, ⟨"StrikeAwake", "still", "(I)Z"⟩, prog_1_method_42_code, 2, some FieldType.boolean, 1, 1),
  (0, ⟨"StrikeAwake", "struck", "(I)I"⟩, prog_1_method_43_code, 2, some FieldType.int, 1, 1),
  (0, ⟨"StrikeAwake", "seek", "()I"⟩, prog_1_method_44_code, 3, some FieldType.int, 0, 1),
  (0, ⟨"StrikeAwake", "lot", "(II)I"⟩, prog_1_method_45_code, 4, some FieldType.int, 2, 1),
  (0, ⟨"StrikeAwake", "again", "()Z"⟩, prog_1_method_46_code, 1, some FieldType.boolean, 0, 1),
  (0, ⟨"StrikeAwake", "image", "()J"⟩, prog_1_method_47_code, 1, some FieldType.long, 0, 1)]
def mc_mt_5 : List (Nat × MethodName × ByteArray × Nat × Option FieldType × Nat × Nat) := [
  (7, ⟨"StrikeAwake$Parish", "picture", "()J"⟩, prog_6_method_15_code, 4, some FieldType.long, 0, 1),
  (0, ⟨"StrikeAwake", "restore", "(J)Z"⟩, prog_1_method_48_code, 3, some FieldType.boolean, 1, 1),
  (7, ⟨"StrikeAwake$Parish", "isPicture", "(J)Z"⟩, prog_6_method_16_code, 8, some FieldType.boolean, 1, 1),
  (7, ⟨"StrikeAwake$Parish", "takePicture", "(J)V"⟩, prog_6_method_17_code, 6, none, 1, 1),
  (0, ⟨"StrikeAwake", "size", "(I)I"⟩, prog_1_method_50_code, 2, some FieldType.int, 1, 1),
  (0, ⟨"StrikeAwake", "trouble", "()I"⟩, prog_1_method_51_code, 1, some FieldType.int, 0, 1),
  (0, ⟨"StrikeAwake", "led", "(I)I"⟩, prog_1_method_49_code, 4, some FieldType.int, 1, 1),
  (9, ⟨"StrikeAwakeModel", "<init>", "()V"⟩, prog_13_method_1_code, 1, none, 0, 2),
  (9, ⟨"StrikeAwakeModel", "feed", "(IIIII)I"⟩, prog_13_method_43_code, 8, some FieldType.int, 5, 1),
  (9, ⟨"StrikeAwakeModel", "parish", "(I)I"⟩, prog_13_method_44_code, 3, some FieldType.int, 1, 1),
  (9, ⟨"StrikeAwakeModel", "refused", "(I)I"⟩, prog_13_method_3_code, 2, some FieldType.int, 1, 1),
  (10, ⟨"StrikeAwakeModel$Parish", "<init>", "()V"⟩, prog_14_method_1_code, 1, none, 0, 2),
  (9, ⟨"StrikeAwakeModel", "goesOn", "()V"⟩, prog_13_method_17_code, 3, none, 0, 1),
  (9, ⟨"StrikeAwakeModel", "byteAt", "(I)I"⟩, prog_13_method_13_code, 2, some FieldType.int, 1, 1),
  (9, ⟨"StrikeAwakeModel", "isLetter", "(I)Z"⟩, prog_13_method_14_code, 1, some FieldType.boolean, 1, 0),
  (9, ⟨"StrikeAwakeModel", "isDigit", "(I)Z"⟩, prog_13_method_15_code, 1, some FieldType.boolean, 1, 0),
  (9, ⟨"StrikeAwakeModel", "readParish", "()V"⟩, prog_13_method_31_code, 2, none, 0, 1),
  (9, ⟨"StrikeAwakeModel", "readLine", "()V"⟩, prog_13_method_32_code, 1, none, 0, 1),
  (9, ⟨"StrikeAwakeModel", "isWord", "(Ljava/lang/String;)Z"⟩, prog_13_method_19_code, 2, some FieldType.boolean, 1, 1),
  (9, ⟨"StrikeAwakeModel", "wordOf", "(Ljava/lang/String;)J"⟩, prog_13_method_16_code, 4, some FieldType.long, 1, 0),
  (9, ⟨"StrikeAwakeModel", "readLaw", "()V"⟩, prog_13_method_33_code, 2, none, 0, 1),
  (9, ⟨"StrikeAwakeModel", "wrong", "(I)V"⟩, prog_13_method_18_code, 2, none, 1, 1),
  (9, ⟨"StrikeAwakeModel", "readPart", "(Ljava/lang/String;II)I"⟩, prog_13_method_26_code, 4, some FieldType.int, 3, 1),
  (9, ⟨"StrikeAwakeModel", "needs", "(Ljava/lang/String;)V"⟩, prog_13_method_22_code, 2, none, 1, 1),
  (9, ⟨"StrikeAwakeModel", "readWhole", "(II)I"⟩, prog_13_method_25_code, 4, some FieldType.int, 2, 1),
  (9, ⟨"StrikeAwakeModel", "whole", "(II)I"⟩, prog_13_method_24_code, 3, some FieldType.int, 2, 1),
  (9, ⟨"StrikeAwakeModel", "in", "(III)Z"⟩, prog_13_method_9_code, 3, some FieldType.boolean, 3, 0),
  (9, ⟨"StrikeAwakeModel", "readPerson", "()V"⟩, prog_13_method_35_code, 13, none, 0, 1),
  (9, ⟨"StrikeAwakeModel", "begins", "(II)V"⟩, prog_13_method_28_code, 3, none, 2, 1),
  (9, ⟨"StrikeAwakeModel", "isName", "()Z"⟩, prog_13_method_27_code, 1, some FieldType.boolean, 0, 1),
  (10, ⟨"StrikeAwakeModel$Parish", "find", "(J)I"⟩, prog_14_method_2_code, 4, some FieldType.int, 1, 1),
  (9, ⟨"StrikeAwakeModel", "least", "(II)I"⟩, prog_13_method_34_code, 2, some FieldType.int, 2, 0)]
def mc_mt_6 : List (Nat × MethodName × ByteArray × Nat × Option FieldType × Nat × Nat) := [
  (9, ⟨"StrikeAwakeModel", "eatsWord", "(Ljava/lang/String;)Z"⟩, prog_13_method_20_code, 3, some FieldType.boolean, 1, 1),
  (9, ⟨"StrikeAwakeModel", "readSexton", "()V"⟩, prog_13_method_36_code, 2, none, 0, 1),
  (9, ⟨"StrikeAwakeModel", "readKnown", "()I"⟩, prog_13_method_30_code, 2, some FieldType.int, 0, 1),
  (9, ⟨"StrikeAwakeModel", "known", "()I"⟩, prog_13_method_29_code, 2, some FieldType.int, 0, 1),
  (9, ⟨"StrikeAwakeModel", "readApart", "()V"⟩, prog_13_method_37_code, 5, none, 0, 1),
  (9, ⟨"StrikeAwakeModel", "needsSign", "(I)V"⟩, prog_13_method_23_code, 2, none, 1, 1),
  (9, ⟨"StrikeAwakeModel", "readBorn", "()V"⟩, prog_13_method_38_code, 2, none, 0, 1),
  (9, ⟨"StrikeAwakeModel", "readStruck", "()V"⟩, prog_13_method_39_code, 3, none, 0, 1),
  (9, ⟨"StrikeAwakeModel", "readTold", "()V"⟩, prog_13_method_41_code, 2, none, 0, 1),
  (9, ⟨"StrikeAwakeModel", "readHours", "()I"⟩, prog_13_method_40_code, 2, some FieldType.int, 0, 1),
  (9, ⟨"StrikeAwakeModel", "hoursFrom", "(II)I"⟩, prog_13_method_12_code, 4, some FieldType.int, 2, 0),
  (9, ⟨"StrikeAwakeModel", "readOffer", "()V"⟩, prog_13_method_42_code, 2, none, 0, 1),
  (9, ⟨"StrikeAwakeModel", "eatsSign", "(I)Z"⟩, prog_13_method_21_code, 3, some FieldType.boolean, 1, 1),
  (9, ⟨"StrikeAwakeModel", "has", "(II)Z"⟩, prog_13_method_10_code, 2, some FieldType.boolean, 2, 0),
  (9, ⟨"StrikeAwakeModel", "lays", "()V"⟩, prog_13_method_48_code, 7, none, 0, 1),
  (9, ⟨"StrikeAwakeModel", "struckHours", "()I"⟩, prog_13_method_47_code, 3, some FieldType.int, 0, 1),
  (9, ⟨"StrikeAwakeModel", "lay", "(IIIII)V"⟩, prog_13_method_49_code, 7, none, 5, 1),
  (9, ⟨"StrikeAwakeModel", "done", "(I)I"⟩, prog_13_method_6_code, 2, some FieldType.int, 1, 1),
  (9, ⟨"StrikeAwakeModel", "fault", "()I"⟩, prog_13_method_45_code, 1, some FieldType.int, 0, 1),
  (9, ⟨"StrikeAwakeModel", "where", "()I"⟩, prog_13_method_46_code, 1, some FieldType.int, 0, 1),
  (9, ⟨"StrikeAwakeModel", "spans", "(I)I"⟩, prog_13_method_54_code, 2, some FieldType.int, 1, 1),
  (9, ⟨"StrikeAwakeModel", "isPerson", "(I)Z"⟩, prog_13_method_50_code, 2, some FieldType.boolean, 1, 1),
  (9, ⟨"StrikeAwakeModel", "span", "(III)I"⟩, prog_13_method_55_code, 4, some FieldType.int, 3, 1),
  (9, ⟨"StrikeAwakeModel", "isSpan", "(II)Z"⟩, prog_13_method_51_code, 3, some FieldType.boolean, 2, 1),
  (9, ⟨"StrikeAwakeModel", "weightOf", "(II)I"⟩, prog_13_method_53_code, 5, some FieldType.int, 2, 1),
  (9, ⟨"StrikeAwakeModel", "awake", "(III)I"⟩, prog_13_method_56_code, 4, some FieldType.int, 3, 1),
  (9, ⟨"StrikeAwakeModel", "isHour", "(I)Z"⟩, prog_13_method_52_code, 2, some FieldType.boolean, 1, 1),
  (9, ⟨"StrikeAwakeModel", "lots", "()J"⟩, prog_13_method_58_code, 1, some FieldType.long, 0, 1),
  (9, ⟨"StrikeAwakeModel", "lotsMany", "()J"⟩, prog_13_method_57_code, 4, some FieldType.long, 0, 1),
  (9, ⟨"StrikeAwakeModel", "doneLong", "(J)J"⟩, prog_13_method_7_code, 3, some FieldType.long, 1, 1),
  (9, ⟨"StrikeAwakeModel", "say", "(II)Z"⟩, prog_13_method_66_code, 3, some FieldType.boolean, 2, 1),
  (9, ⟨"StrikeAwakeModel", "denied", "(I)Z"⟩, prog_13_method_5_code, 2, some FieldType.boolean, 1, 1)]
def mc_mt_7 : List (Nat × MethodName × ByteArray × Nat × Option FieldType × Nat × Nat) := [
  (9, ⟨"StrikeAwakeModel", "granted", "()Z"⟩, prog_13_method_8_code, 1, some FieldType.boolean, 0, 1),
  (9, ⟨"StrikeAwakeModel", "said", "(I)I"⟩, prog_13_method_67_code, 2, some FieldType.int, 1, 1),
  (9, ⟨"StrikeAwakeModel", "strikes", "(I)I"⟩, prog_13_method_68_code, 2, some FieldType.int, 1, 1),
  (9, ⟨"StrikeAwakeModel", "isEmpty", "()Z"⟩, prog_13_method_65_code, 1, some FieldType.boolean, 0, 1),
  (9, ⟨"StrikeAwakeModel", "strikesIn", "([II)I"⟩, prog_13_method_60_code, 5, some FieldType.int, 2, 1),
  (9, ⟨"StrikeAwakeModel", "born", "(I)I"⟩, prog_13_method_59_code, 4, some FieldType.int, 1, 1),
  (9, ⟨"StrikeAwakeModel", "judge", "()I"⟩, prog_13_method_72_code, 2, some FieldType.int, 0, 1),
  (9, ⟨"StrikeAwakeModel", "refusesSaid", "()I"⟩, prog_13_method_71_code, 1, some FieldType.int, 0, 1),
  (9, ⟨"StrikeAwakeModel", "firstWrong", "()I"⟩, prog_13_method_70_code, 2, some FieldType.int, 0, 1),
  (9, ⟨"StrikeAwakeModel", "wrongIn", "(I)I"⟩, prog_13_method_69_code, 2, some FieldType.int, 1, 1),
  (9, ⟨"StrikeAwakeModel", "offIn", "([II)I"⟩, prog_13_method_61_code, 4, some FieldType.int, 2, 1),
  (9, ⟨"StrikeAwakeModel", "bothAsleep", "([I)I"⟩, prog_13_method_62_code, 4, some FieldType.int, 1, 1),
  (9, ⟨"StrikeAwakeModel", "why", "()I"⟩, prog_13_method_73_code, 3, some FieldType.int, 0, 1),
  (9, ⟨"StrikeAwakeModel", "agrees", "()I"⟩, prog_13_method_74_code, 2, some FieldType.int, 0, 1),
  (9, ⟨"StrikeAwakeModel", "isWorld", "([I)Z"⟩, prog_13_method_64_code, 2, some FieldType.boolean, 1, 1),
  (9, ⟨"StrikeAwakeModel", "barredAt", "([II)I"⟩, prog_13_method_63_code, 6, some FieldType.int, 2, 1),
  (9, ⟨"StrikeAwakeModel", "worlds", "()I"⟩, prog_13_method_80_code, 2, some FieldType.int, 0, 1),
  (9, ⟨"StrikeAwakeModel", "refusesWorlds", "(Z)I"⟩, prog_13_method_77_code, 2, some FieldType.int, 1, 1),
  (9, ⟨"StrikeAwakeModel", "knows", "()V"⟩, prog_13_method_76_code, 2, none, 0, 1),
  (9, ⟨"StrikeAwakeModel", "takes", "(I)V"⟩, prog_13_method_75_code, 4, none, 1, 1),
  (9, ⟨"StrikeAwakeModel", "can", "()I"⟩, prog_13_method_81_code, 2, some FieldType.int, 0, 1),
  (9, ⟨"StrikeAwakeModel", "world", "(II)I"⟩, prog_13_method_82_code, 4, some FieldType.int, 2, 1),
  (9, ⟨"StrikeAwakeModel", "weights", "()J"⟩, prog_13_method_84_code, 2, some FieldType.long, 0, 1),
  (9, ⟨"StrikeAwakeModel", "weighs", "(II)J"⟩, prog_13_method_83_code, 6, some FieldType.long, 2, 1),
  (9, ⟨"StrikeAwakeModel", "lotWeight", "()J"⟩, prog_13_method_79_code, 4, some FieldType.long, 0, 1),
  (9, ⟨"StrikeAwakeModel", "having", "(II)I"⟩, prog_13_method_85_code, 6, some FieldType.int, 2, 1),
  (9, ⟨"StrikeAwakeModel", "times", "(II)I"⟩, prog_13_method_87_code, 4, some FieldType.int, 2, 1),
  (9, ⟨"StrikeAwakeModel", "awakeIn", "(II)I"⟩, prog_13_method_86_code, 5, some FieldType.int, 2, 1),
  (9, ⟨"StrikeAwakeModel", "sure", "(II)I"⟩, prog_13_method_88_code, 5, some FieldType.int, 2, 1),
  (9, ⟨"StrikeAwakeModel", "refusesSome", "(Z)I"⟩, prog_13_method_78_code, 3, some FieldType.int, 1, 1),
  (9, ⟨"StrikeAwakeModel", "surely", "(IZ)I"⟩, prog_13_method_89_code, 6, some FieldType.int, 2, 1),
  (9, ⟨"StrikeAwakeModel", "chance", "(II)I"⟩, prog_13_method_90_code, 4, some FieldType.int, 2, 1)]
def mc_mt_8 : List (Nat × MethodName × ByteArray × Nat × Option FieldType × Nat × Nat) := [
  (9, ⟨"StrikeAwakeModel", "likeliest", "(I)I"⟩, prog_13_method_92_code, 3, some FieldType.int, 1, 1),
  (9, ⟨"StrikeAwakeModel", "findLikeliest", "()J"⟩, prog_13_method_91_code, 5, some FieldType.long, 0, 1),
  (9, ⟨"StrikeAwakeModel", "greatest", "()J"⟩, prog_13_method_93_code, 2, some FieldType.long, 0, 1),
  (9, ⟨"StrikeAwakeModel", "together", "(II)I"⟩, prog_13_method_94_code, 6, some FieldType.int, 2, 1),
  (9, ⟨"StrikeAwakeModel", "possible", "(I)J"⟩, prog_13_method_95_code, 6, some FieldType.long, 1, 1),
  (9, ⟨"StrikeAwakeModel", "hiding", "(II)I"⟩, prog_13_method_96_code, 6, some FieldType.int, 2, 1),
  (9, ⟨"StrikeAwakeModel", "awakeSet", "([II)I"⟩, prog_13_method_100_code, 5, some FieldType.int, 2, 1),
  (9, ⟨"StrikeAwakeModel", "bed", "(IZ)I"⟩, prog_13_method_98_code, 4, some FieldType.int, 2, 1),
  (9, ⟨"StrikeAwakeModel", "extreme", "(I[IZ)I"⟩, prog_13_method_97_code, 7, some FieldType.int, 3, 1),
  (9, ⟨"StrikeAwakeModel", "sleeps", "(IZ)I"⟩, prog_13_method_99_code, 4, some FieldType.int, 2, 1),
  (9, ⟨"StrikeAwakeModel", "ask", "()I"⟩, prog_13_method_104_code, 2, some FieldType.int, 0, 1),
  (9, ⟨"StrikeAwakeModel", "refusesAsking", "(Z)I"⟩, prog_13_method_103_code, 3, some FieldType.int, 1, 1),
  (9, ⟨"StrikeAwakeModel", "asked", "(I)I"⟩, prog_13_method_102_code, 4, some FieldType.int, 1, 1),
  (9, ⟨"StrikeAwakeModel", "bits", "(I)I"⟩, prog_13_method_11_code, 3, some FieldType.int, 1, 0),
  (9, ⟨"StrikeAwakeModel", "tells", "(II)Z"⟩, prog_13_method_101_code, 7, some FieldType.boolean, 2, 1),
  (9, ⟨"StrikeAwakeModel", "askFor", "(I)I"⟩, prog_13_method_105_code, 3, some FieldType.int, 1, 1),
  (9, ⟨"StrikeAwakeModel", "lie", "(I)I"⟩, prog_13_method_108_code, 3, some FieldType.int, 1, 1),
  (9, ⟨"StrikeAwakeModel", "isTold", "(I)Z"⟩, prog_13_method_106_code, 2, some FieldType.boolean, 1, 1),
  (9, ⟨"StrikeAwakeModel", "barsOf", "(I)I"⟩, prog_13_method_107_code, 7, some FieldType.int, 1, 1),
  (9, ⟨"StrikeAwakeModel", "bars", "(I)I"⟩, prog_13_method_109_code, 4, some FieldType.int, 1, 1),
  (9, ⟨"StrikeAwakeModel", "proof", "()I"⟩, prog_13_method_111_code, 5, some FieldType.int, 0, 1),
  (9, ⟨"StrikeAwakeModel", "leastProof", "(II)I"⟩, prog_13_method_112_code, 6, some FieldType.int, 2, 1),
  (9, ⟨"StrikeAwakeModel", "proves", "(I)Z"⟩, prog_13_method_110_code, 3, some FieldType.boolean, 1, 1),
  (9, ⟨"StrikeAwakeModel", "part", "(IZ)I"⟩, prog_13_method_114_code, 7, some FieldType.int, 2, 1),
  (9, ⟨"StrikeAwakeModel", "isStruck", "(I)Z"⟩, prog_13_method_113_code, 2, some FieldType.boolean, 1, 1),
  (9, ⟨"StrikeAwakeModel", "lost", "(I)I"⟩, prog_13_method_4_code, 2, some FieldType.int, 1, 1),
  (9, ⟨"StrikeAwakeModel", "nothing", "()I"⟩, prog_13_method_115_code, 5, some FieldType.int, 0, 1),
  (9, ⟨"StrikeAwakeModel", "keep", "()I"⟩, prog_13_method_116_code, 5, some FieldType.int, 0, 1),
  (9, ⟨"StrikeAwakeModel", "quiet", "(I)I"⟩, prog_13_method_117_code, 4, some FieldType.int, 1, 1),
  (9, ⟨"StrikeAwakeModel", "strike", "(II)I"⟩, prog_13_method_118_code, 3, some FieldType.int, 2, 1),
  (9, ⟨"StrikeAwakeModel", "still", "(I)Z"⟩, prog_13_method_119_code, 2, some FieldType.boolean, 1, 1),
  (9, ⟨"StrikeAwakeModel", "struck", "(I)I"⟩, prog_13_method_120_code, 2, some FieldType.int, 1, 1)]
def mc_mt_9 : List (Nat × MethodName × ByteArray × Nat × Option FieldType × Nat × Nat) := [
  (9, ⟨"StrikeAwakeModel", "seek", "()I"⟩, prog_13_method_121_code, 3, some FieldType.int, 0, 1),
  (9, ⟨"StrikeAwakeModel", "lot", "(II)I"⟩, prog_13_method_122_code, 3, some FieldType.int, 2, 1),
  (9, ⟨"StrikeAwakeModel", "again", "()Z"⟩, prog_13_method_123_code, 1, some FieldType.boolean, 0, 1),
  (9, ⟨"StrikeAwakeModel", "image", "()J"⟩, prog_13_method_124_code, 4, some FieldType.long, 0, 1),
  (9, ⟨"StrikeAwakeModel", "restore", "(J)Z"⟩, prog_13_method_125_code, 7, some FieldType.boolean, 1, 1),
  (9, ⟨"StrikeAwakeModel", "led", "(I)I"⟩, prog_13_method_126_code, 4, some FieldType.int, 1, 1),
  (9, ⟨"StrikeAwakeModel", "size", "(I)I"⟩, prog_13_method_127_code, 2, some FieldType.int, 1, 1),
  (9, ⟨"StrikeAwakeModel", "trouble", "()I"⟩, prog_13_method_128_code, 1, some FieldType.int, 0, 1)]
def mc_mt (k : Nat) : Option (Nat × MethodName × ByteArray × Nat × Option FieldType × Nat × Nat) := match k / 32 with
  | 0 => mc_mt_0[k % 32]?
  | 1 => mc_mt_1[k % 32]?
  | 2 => mc_mt_2[k % 32]?
  | 3 => mc_mt_3[k % 32]?
  | 4 => mc_mt_4[k % 32]?
  | 5 => mc_mt_5[k % 32]?
  | 6 => mc_mt_6[k % 32]?
  | 7 => mc_mt_7[k % 32]?
  | 8 => mc_mt_8[k % 32]?
  | 9 => mc_mt_9[k % 32]?
  | _ => none
/-- what a field's word names: class, name, descriptor -/
def mc_fr (ci k : Nat) : String × String × String := if ci < 11 then ((mc_T ci k).1, (mc_T ci k).2.1, (mc_T ci k).2.2.1) else (mc_kf ci).getD k ("", "", "")
def mc_fw (own : Nat) (e : Nat × Nat × Nat × Bool × String × Nat × Nat) : Cond := if e.2.2.2.1 then .fieldLinkNest (mc_cn own) e.1 (mc_fr e.2.1 e.2.2.1).1 (mc_fr e.2.1 e.2.2.1).2.1 (mc_fr e.2.1 e.2.2.1).2.2 e.2.2.2.2.1 else .fieldLink (mc_cn own) e.1 (mc_fr e.2.1 e.2.2.1).1 (mc_fr e.2.1 e.2.2.1).2.1 (mc_fr e.2.1 e.2.2.1).2.2
def mc_yn (k : Nat) : MethodName := match mc_mt k with
  | some x => x.2.1
  | none => ⟨"", "", ""⟩
def mc_mw (own : Nat) (e : Nat × Nat × Bool × String × Nat × Nat) : Cond := if e.2.2.1 then .methodLinkNest (mc_cn own) e.1 (mc_yn e.2.1) e.2.2.2.1 else .methodLink (mc_cn own) e.1 (mc_yn e.2.1)
def mc_sw (own : Nat) (e : Nat × Nat × Bool × String × Nat × Nat) : Cond := match mc_st[e.2.1]? with
  | some q => if e.2.2.1 then .fieldLinkNest (mc_cn own) e.1 q.1 q.2.1 q.2.2.1 e.2.2.2.1 else .fieldLink (mc_cn own) e.1 q.1 q.2.1 q.2.2.1
  | none => .tt
