section MC1

variable {G : mc_G} {p : Program} {l : Launch} {e : Env} {R : Room} {s : State} {m : MethodId} {args : Array Value} {below : List Frame} {meth : Method} {c : Code} {Q : State → Prop} {nL l0 z0 : Nat}

variable {pc : Nat} {L : List (Nat × Value)} {st : List Value} {M : mc_M} {S : mc_S}
theorem mc_n_t {b : Bool} {o : mc_O} {x : mc_S ⊕ mc_R} (h : mc_n b o = some x) : b = true ∧ o = some x := by
  unfold mc_n at h
  split at h
  · exact ⟨rfl, h⟩
  · cases h
end MC1
