/-! StrikeAwake$Parish.linesOf(LStrikeAwake$Reserved;)I -/
theorem e21 : wq_en 21 = some (7, 2, false, some FieldType.int) := rfl
