/-! a name that stands in the rest of the library, so that a round reads the whole of it from the first part on (own work) -/
theorem w00_wide : True := by
  have _h := @Jvm.Free.Multi.fill_facts
  trivial
