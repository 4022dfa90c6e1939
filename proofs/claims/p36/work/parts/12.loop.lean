theorem mc_le.tr {M N K : mc_M} (h : mc_le M N) (h2 : mc_le N K) : mc_le M K := ⟨Nat.le_trans h.1 h2.1, Nat.le_trans h.2 h2.2⟩
section MK

variable {pc : Nat} {L : List (Nat × Value)} {st : List Value} {M N : mc_M} {r : mc_S ⊕ mc_R} {kt : Nat → Option mc_E} {own : Nat} {ini : Bool} {off : Int}
end MK
section MC8

variable {kt : Nat → Option mc_E} {own : Nat} {ini : Bool} {ret : Option FieldType} {cc : ByteArray}

variable {G : mc_G} {p : Program} {l : Launch} {e : Env} {R : Room} {s : State} {m : MethodId} {args : Array Value} {below : List Frame} {meth : Method} {c : Code} {Q : State → Prop} {nL l0 z0 : Nat}
end MC8
