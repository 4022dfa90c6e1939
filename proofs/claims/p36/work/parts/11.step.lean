theorem mc_or_t {a b : mc_O} {x : mc_S ⊕ mc_R} (h : mc_or a b = some x) : a = some x ∨ b = some x := by
  unfold mc_or at h
  split at h
  · exact Or.inl h
  · exact Or.inr h
theorem mc_retX {ret : Option FieldType} {st : List Value} {M : mc_M} {S : mc_S} : (mc_ret ret st M = some (.inl S) → False) ∧ (mc_retL ret st M = some (.inl S) → False) ∧ (mc_retA ret st M = some (.inl S) → False) ∧ (mc_retV ret st M = some (.inl S) → False) := by
  refine ⟨fun h => ?_, fun h => ?_, fun h => ?_, fun h => ?_⟩
  · unfold mc_ret at h
    split at h
    · cases h
    · cases (mc_n_t h).2
    · cases h
  · unfold mc_retL at h
    split at h <;> cases h
  · unfold mc_retA at h
    split at h
    · cases (mc_n_t h).2
    · cases (mc_n_t h).2
    · cases h
  · unfold mc_retV at h
    split at h <;> cases h
section MC7

variable {kt : Nat → Option mc_E} {own : Nat} {ini : Bool} {ret : Option FieldType} {cc : ByteArray}

variable {G : mc_G} {p : Program} {l : Launch} {e : Env} {R : Room} {s : State} {m : MethodId} {args : Array Value} {below : List Frame} {meth : Method} {c : Code} {Q : State → Prop} {nL l0 z0 : Nat}

variable {S : mc_S}
end MC7
