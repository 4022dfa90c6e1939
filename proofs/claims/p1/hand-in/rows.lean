section
-- ===== PART A: goes FIRST, ahead of the names: the tables' words, and 'selects' of the private methods out of them =====
/-- a private method of a class that the tables say can be made, by its rows of tables_1 -/
def lw_okq (q : MethodName × Nat) : Prop := (q.1.cls ≠ "java/lang/invoke/MethodHandle" ∧ q.1.cls ≠ "java/lang/invoke/VarHandle") ∧ Cond.instantiable q.1.cls q.2 ∈ tables_1 ∧ Cond.privateMethod q.1 ∈ tables_1 ∧ Cond.instanceMethod q.1 ∈ tables_1
theorem lw_p0 : lw_okq (⟨"StrikeAwake", "putOnTape", "(I)V"⟩, 13) := ⟨⟨by decide +kernel, by decide +kernel⟩, List.mem_of_getElem? (i := 26) (by decide +kernel), List.mem_of_getElem? (i := 454) (by decide +kernel), List.mem_of_getElem? (i := 455) (by decide +kernel)⟩
theorem lw_p1 : lw_okq (⟨"StrikeAwake", "refuse", "(I)I"⟩, 13) := ⟨⟨by decide +kernel, by decide +kernel⟩, List.mem_of_getElem? (i := 26) (by decide +kernel), List.mem_of_getElem? (i := 462) (by decide +kernel), List.mem_of_getElem? (i := 463) (by decide +kernel)⟩
theorem lw_p2 : lw_okq (⟨"StrikeAwake$Reader", "readsLine", "(LStrikeAwake$Parish;)Z"⟩, 5) := ⟨⟨by decide +kernel, by decide +kernel⟩, List.mem_of_getElem? (i := 34) (by decide +kernel), List.mem_of_getElem? (i := 486) (by decide +kernel), List.mem_of_getElem? (i := 487) (by decide +kernel)⟩
theorem lw_p3 : lw_okq (⟨"StrikeAwake$Reader", "reserved", "()LStrikeAwake$Reserved;"⟩, 5) := ⟨⟨by decide +kernel, by decide +kernel⟩, List.mem_of_getElem? (i := 34) (by decide +kernel), List.mem_of_getElem? (i := 490) (by decide +kernel), List.mem_of_getElem? (i := 491) (by decide +kernel)⟩
theorem lw_p4 : lw_okq (⟨"StrikeAwake$Reader", "fail", "(I)Z"⟩, 5) := ⟨⟨by decide +kernel, by decide +kernel⟩, List.mem_of_getElem? (i := 34) (by decide +kernel), List.mem_of_getElem? (i := 548) (by decide +kernel), List.mem_of_getElem? (i := 549) (by decide +kernel)⟩
theorem lw_p5 : lw_okq (⟨"StrikeAwake$Reader", "readsLaw", "(LStrikeAwake$Parish;)Z"⟩, 5) := ⟨⟨by decide +kernel, by decide +kernel⟩, List.mem_of_getElem? (i := 34) (by decide +kernel), List.mem_of_getElem? (i := 571) (by decide +kernel), List.mem_of_getElem? (i := 572) (by decide +kernel)⟩
theorem lw_p6 : lw_okq (⟨"StrikeAwake$Reader", "takesWord", "(Ljava/lang/String;)Z"⟩, 5) := ⟨⟨by decide +kernel, by decide +kernel⟩, List.mem_of_getElem? (i := 34) (by decide +kernel), List.mem_of_getElem? (i := 576) (by decide +kernel), List.mem_of_getElem? (i := 577) (by decide +kernel)⟩
theorem lw_p7 : lw_okq (⟨"StrikeAwake$Reader", "whole", "(II)I"⟩, 5) := ⟨⟨by decide +kernel, by decide +kernel⟩, List.mem_of_getElem? (i := 34) (by decide +kernel), List.mem_of_getElem? (i := 580) (by decide +kernel), List.mem_of_getElem? (i := 581) (by decide +kernel)⟩
theorem lw_p8 : lw_okq (⟨"StrikeAwake$Reader", "readsPerson", "(LStrikeAwake$Parish;)Z"⟩, 5) := ⟨⟨by decide +kernel, by decide +kernel⟩, List.mem_of_getElem? (i := 34) (by decide +kernel), List.mem_of_getElem? (i := 586) (by decide +kernel), List.mem_of_getElem? (i := 587) (by decide +kernel)⟩
theorem lw_p9 : lw_okq (⟨"StrikeAwake$Reader", "isName", "()Z"⟩, 5) := ⟨⟨by decide +kernel, by decide +kernel⟩, List.mem_of_getElem? (i := 34) (by decide +kernel), List.mem_of_getElem? (i := 590) (by decide +kernel), List.mem_of_getElem? (i := 591) (by decide +kernel)⟩
theorem lw_p10 : lw_okq (⟨"StrikeAwake$Reader", "takesRange", "(IIII)Z"⟩, 5) := ⟨⟨by decide +kernel, by decide +kernel⟩, List.mem_of_getElem? (i := 34) (by decide +kernel), List.mem_of_getElem? (i := 603) (by decide +kernel), List.mem_of_getElem? (i := 604) (by decide +kernel)⟩
theorem lw_p11 : lw_okq (⟨"StrikeAwake$Reader", "readsCustoms", "(LStrikeAwake$Parish;)Z"⟩, 5) := ⟨⟨by decide +kernel, by decide +kernel⟩, List.mem_of_getElem? (i := 34) (by decide +kernel), List.mem_of_getElem? (i := 610) (by decide +kernel), List.mem_of_getElem? (i := 611) (by decide +kernel)⟩
theorem lw_p12 : lw_okq (⟨"StrikeAwake$Reader", "readsSexton", "(LStrikeAwake$Parish;)Z"⟩, 5) := ⟨⟨by decide +kernel, by decide +kernel⟩, List.mem_of_getElem? (i := 34) (by decide +kernel), List.mem_of_getElem? (i := 624) (by decide +kernel), List.mem_of_getElem? (i := 625) (by decide +kernel)⟩
theorem lw_p13 : lw_okq (⟨"StrikeAwake$Reader", "knownPerson", "(LStrikeAwake$Parish;)I"⟩, 5) := ⟨⟨by decide +kernel, by decide +kernel⟩, List.mem_of_getElem? (i := 34) (by decide +kernel), List.mem_of_getElem? (i := 628) (by decide +kernel), List.mem_of_getElem? (i := 629) (by decide +kernel)⟩
theorem lw_p14 : lw_okq (⟨"StrikeAwake$Reader", "readsApart", "(LStrikeAwake$Parish;)Z"⟩, 5) := ⟨⟨by decide +kernel, by decide +kernel⟩, List.mem_of_getElem? (i := 34) (by decide +kernel), List.mem_of_getElem? (i := 632) (by decide +kernel), List.mem_of_getElem? (i := 633) (by decide +kernel)⟩
theorem lw_p15 : lw_okq (⟨"StrikeAwake$Reader", "takes", "(I)Z"⟩, 5) := ⟨⟨by decide +kernel, by decide +kernel⟩, List.mem_of_getElem? (i := 34) (by decide +kernel), List.mem_of_getElem? (i := 636) (by decide +kernel), List.mem_of_getElem? (i := 637) (by decide +kernel)⟩
def lw_privs_1 : List (MethodName × Nat) := [(⟨"StrikeAwake", "putOnTape", "(I)V"⟩, 13), (⟨"StrikeAwake", "refuse", "(I)I"⟩, 13), (⟨"StrikeAwake$Reader", "readsLine", "(LStrikeAwake$Parish;)Z"⟩, 5), (⟨"StrikeAwake$Reader", "reserved", "()LStrikeAwake$Reserved;"⟩, 5), (⟨"StrikeAwake$Reader", "fail", "(I)Z"⟩, 5), (⟨"StrikeAwake$Reader", "readsLaw", "(LStrikeAwake$Parish;)Z"⟩, 5), (⟨"StrikeAwake$Reader", "takesWord", "(Ljava/lang/String;)Z"⟩, 5), (⟨"StrikeAwake$Reader", "whole", "(II)I"⟩, 5), (⟨"StrikeAwake$Reader", "readsPerson", "(LStrikeAwake$Parish;)Z"⟩, 5), (⟨"StrikeAwake$Reader", "isName", "()Z"⟩, 5), (⟨"StrikeAwake$Reader", "takesRange", "(IIII)Z"⟩, 5), (⟨"StrikeAwake$Reader", "readsCustoms", "(LStrikeAwake$Parish;)Z"⟩, 5), (⟨"StrikeAwake$Reader", "readsSexton", "(LStrikeAwake$Parish;)Z"⟩, 5), (⟨"StrikeAwake$Reader", "knownPerson", "(LStrikeAwake$Parish;)I"⟩, 5), (⟨"StrikeAwake$Reader", "readsApart", "(LStrikeAwake$Parish;)Z"⟩, 5), (⟨"StrikeAwake$Reader", "takes", "(I)Z"⟩, 5)]
theorem lw_r1 : ∀ q ∈ lw_privs_1, lw_okq q := List.forall_mem_cons.mpr ⟨lw_p0, List.forall_mem_cons.mpr ⟨lw_p1, List.forall_mem_cons.mpr ⟨lw_p2, List.forall_mem_cons.mpr ⟨lw_p3, List.forall_mem_cons.mpr ⟨lw_p4, List.forall_mem_cons.mpr ⟨lw_p5, List.forall_mem_cons.mpr ⟨lw_p6, List.forall_mem_cons.mpr ⟨lw_p7, List.forall_mem_cons.mpr ⟨lw_p8, List.forall_mem_cons.mpr ⟨lw_p9, List.forall_mem_cons.mpr ⟨lw_p10, List.forall_mem_cons.mpr ⟨lw_p11, List.forall_mem_cons.mpr ⟨lw_p12, List.forall_mem_cons.mpr ⟨lw_p13, List.forall_mem_cons.mpr ⟨lw_p14, List.forall_mem_cons.mpr ⟨lw_p15, fun _ h => absurd h List.not_mem_nil⟩⟩⟩⟩⟩⟩⟩⟩⟩⟩⟩⟩⟩⟩⟩⟩
theorem lw_p16 : lw_okq (⟨"StrikeAwake$Reader", "readsBorn", "(LStrikeAwake$Parish;)Z"⟩, 5) := ⟨⟨by decide +kernel, by decide +kernel⟩, List.mem_of_getElem? (i := 34) (by decide +kernel), List.mem_of_getElem? (i := 643) (by decide +kernel), List.mem_of_getElem? (i := 644) (by decide +kernel)⟩
theorem lw_p17 : lw_okq (⟨"StrikeAwake$Reader", "readsStruck", "(LStrikeAwake$Parish;)Z"⟩, 5) := ⟨⟨by decide +kernel, by decide +kernel⟩, List.mem_of_getElem? (i := 34) (by decide +kernel), List.mem_of_getElem? (i := 647) (by decide +kernel), List.mem_of_getElem? (i := 648) (by decide +kernel)⟩
theorem lw_p18 : lw_okq (⟨"StrikeAwake$Parish", "listStruck", "()V"⟩, 19) := ⟨⟨by decide +kernel, by decide +kernel⟩, List.mem_of_getElem? (i := 204) (by decide +kernel), List.mem_of_getElem? (i := 660) (by decide +kernel), List.mem_of_getElem? (i := 661) (by decide +kernel)⟩
theorem lw_p19 : lw_okq (⟨"StrikeAwake$Reader", "readsTold", "(LStrikeAwake$Parish;)Z"⟩, 5) := ⟨⟨by decide +kernel, by decide +kernel⟩, List.mem_of_getElem? (i := 34) (by decide +kernel), List.mem_of_getElem? (i := 664) (by decide +kernel), List.mem_of_getElem? (i := 665) (by decide +kernel)⟩
theorem lw_p20 : lw_okq (⟨"StrikeAwake$Reader", "readsOffer", "(LStrikeAwake$Parish;)Z"⟩, 5) := ⟨⟨by decide +kernel, by decide +kernel⟩, List.mem_of_getElem? (i := 34) (by decide +kernel), List.mem_of_getElem? (i := 668) (by decide +kernel), List.mem_of_getElem? (i := 669) (by decide +kernel)⟩
theorem lw_p21 : lw_okq (⟨"StrikeAwake$Person", "addSpan", "(IIII)V"⟩, 18) := ⟨⟨by decide +kernel, by decide +kernel⟩, List.mem_of_getElem? (i := 211) (by decide +kernel), List.mem_of_getElem? (i := 689) (by decide +kernel), List.mem_of_getElem? (i := 690) (by decide +kernel)⟩
theorem lw_p22 : lw_okq (⟨"StrikeAwake", "answer", "(I)I"⟩, 13) := ⟨⟨by decide +kernel, by decide +kernel⟩, List.mem_of_getElem? (i := 26) (by decide +kernel), List.mem_of_getElem? (i := 701) (by decide +kernel), List.mem_of_getElem? (i := 702) (by decide +kernel)⟩
theorem lw_p23 : lw_okq (⟨"StrikeAwake", "isPerson", "(I)Z"⟩, 13) := ⟨⟨by decide +kernel, by decide +kernel⟩, List.mem_of_getElem? (i := 26) (by decide +kernel), List.mem_of_getElem? (i := 717) (by decide +kernel), List.mem_of_getElem? (i := 718) (by decide +kernel)⟩
theorem lw_p24 : lw_okq (⟨"StrikeAwake", "isSpan", "(II)Z"⟩, 13) := ⟨⟨by decide +kernel, by decide +kernel⟩, List.mem_of_getElem? (i := 26) (by decide +kernel), List.mem_of_getElem? (i := 725) (by decide +kernel), List.mem_of_getElem? (i := 726) (by decide +kernel)⟩
theorem lw_p25 : lw_okq (⟨"StrikeAwake", "isHour", "(I)Z"⟩, 13) := ⟨⟨by decide +kernel, by decide +kernel⟩, List.mem_of_getElem? (i := 26) (by decide +kernel), List.mem_of_getElem? (i := 743) (by decide +kernel), List.mem_of_getElem? (i := 744) (by decide +kernel)⟩
theorem lw_p26 : lw_okq (⟨"StrikeAwake", "deny", "(I)Z"⟩, 13) := ⟨⟨by decide +kernel, by decide +kernel⟩, List.mem_of_getElem? (i := 26) (by decide +kernel), List.mem_of_getElem? (i := 756) (by decide +kernel), List.mem_of_getElem? (i := 757) (by decide +kernel)⟩
theorem lw_p27 : lw_okq (⟨"StrikeAwake", "grant", "()Z"⟩, 13) := ⟨⟨by decide +kernel, by decide +kernel⟩, List.mem_of_getElem? (i := 26) (by decide +kernel), List.mem_of_getElem? (i := 760) (by decide +kernel), List.mem_of_getElem? (i := 761) (by decide +kernel)⟩
theorem lw_p28 : lw_okq (⟨"StrikeAwake", "barOfSaid", "(Z)I"⟩, 13) := ⟨⟨by decide +kernel, by decide +kernel⟩, List.mem_of_getElem? (i := 26) (by decide +kernel), List.mem_of_getElem? (i := 772) (by decide +kernel), List.mem_of_getElem? (i := 773) (by decide +kernel)⟩
theorem lw_p29 : lw_okq (⟨"StrikeAwake$Walk", "countBirths", "(LStrikeAwake$Parish;)V"⟩, 6) := ⟨⟨by decide +kernel, by decide +kernel⟩, List.mem_of_getElem? (i := 91) (by decide +kernel), List.mem_of_getElem? (i := 780) (by decide +kernel), List.mem_of_getElem? (i := 781) (by decide +kernel)⟩
theorem lw_p30 : lw_okq (⟨"StrikeAwake$Walk", "countFrom", "(LStrikeAwake$Parish;I)V"⟩, 6) := ⟨⟨by decide +kernel, by decide +kernel⟩, List.mem_of_getElem? (i := 91) (by decide +kernel), List.mem_of_getElem? (i := 786) (by decide +kernel), List.mem_of_getElem? (i := 787) (by decide +kernel)⟩
theorem lw_p31 : lw_okq (⟨"StrikeAwake$Walk", "quarrelsOf", "(LStrikeAwake$Parish;I)I"⟩, 6) := ⟨⟨by decide +kernel, by decide +kernel⟩, List.mem_of_getElem? (i := 91) (by decide +kernel), List.mem_of_getElem? (i := 790) (by decide +kernel), List.mem_of_getElem? (i := 791) (by decide +kernel)⟩
def lw_privs_2 : List (MethodName × Nat) := [(⟨"StrikeAwake$Reader", "readsBorn", "(LStrikeAwake$Parish;)Z"⟩, 5), (⟨"StrikeAwake$Reader", "readsStruck", "(LStrikeAwake$Parish;)Z"⟩, 5), (⟨"StrikeAwake$Parish", "listStruck", "()V"⟩, 19), (⟨"StrikeAwake$Reader", "readsTold", "(LStrikeAwake$Parish;)Z"⟩, 5), (⟨"StrikeAwake$Reader", "readsOffer", "(LStrikeAwake$Parish;)Z"⟩, 5), (⟨"StrikeAwake$Person", "addSpan", "(IIII)V"⟩, 18), (⟨"StrikeAwake", "answer", "(I)I"⟩, 13), (⟨"StrikeAwake", "isPerson", "(I)Z"⟩, 13), (⟨"StrikeAwake", "isSpan", "(II)Z"⟩, 13), (⟨"StrikeAwake", "isHour", "(I)Z"⟩, 13), (⟨"StrikeAwake", "deny", "(I)Z"⟩, 13), (⟨"StrikeAwake", "grant", "()Z"⟩, 13), (⟨"StrikeAwake", "barOfSaid", "(Z)I"⟩, 13), (⟨"StrikeAwake$Walk", "countBirths", "(LStrikeAwake$Parish;)V"⟩, 6), (⟨"StrikeAwake$Walk", "countFrom", "(LStrikeAwake$Parish;I)V"⟩, 6), (⟨"StrikeAwake$Walk", "quarrelsOf", "(LStrikeAwake$Parish;I)I"⟩, 6)]
theorem lw_r2 : ∀ q ∈ lw_privs_2, lw_okq q := List.forall_mem_cons.mpr ⟨lw_p16, List.forall_mem_cons.mpr ⟨lw_p17, List.forall_mem_cons.mpr ⟨lw_p18, List.forall_mem_cons.mpr ⟨lw_p19, List.forall_mem_cons.mpr ⟨lw_p20, List.forall_mem_cons.mpr ⟨lw_p21, List.forall_mem_cons.mpr ⟨lw_p22, List.forall_mem_cons.mpr ⟨lw_p23, List.forall_mem_cons.mpr ⟨lw_p24, List.forall_mem_cons.mpr ⟨lw_p25, List.forall_mem_cons.mpr ⟨lw_p26, List.forall_mem_cons.mpr ⟨lw_p27, List.forall_mem_cons.mpr ⟨lw_p28, List.forall_mem_cons.mpr ⟨lw_p29, List.forall_mem_cons.mpr ⟨lw_p30, List.forall_mem_cons.mpr ⟨lw_p31, fun _ h => absurd h List.not_mem_nil⟩⟩⟩⟩⟩⟩⟩⟩⟩⟩⟩⟩⟩⟩⟩⟩
theorem lw_p32 : lw_okq (⟨"StrikeAwake", "barOfWorlds", "(Z)I"⟩, 13) := ⟨⟨by decide +kernel, by decide +kernel⟩, List.mem_of_getElem? (i := 26) (by decide +kernel), List.mem_of_getElem? (i := 841) (by decide +kernel), List.mem_of_getElem? (i := 842) (by decide +kernel)⟩
theorem lw_p33 : lw_okq (⟨"StrikeAwake", "barOfLots", "(Z)I"⟩, 13) := ⟨⟨by decide +kernel, by decide +kernel⟩, List.mem_of_getElem? (i := 26) (by decide +kernel), List.mem_of_getElem? (i := 845) (by decide +kernel), List.mem_of_getElem? (i := 846) (by decide +kernel)⟩
theorem lw_p34 : lw_okq (⟨"StrikeAwake$Census", "clear", "()V"⟩, 10) := ⟨⟨by decide +kernel, by decide +kernel⟩, List.mem_of_getElem? (i := 118) (by decide +kernel), List.mem_of_getElem? (i := 854) (by decide +kernel), List.mem_of_getElem? (i := 855) (by decide +kernel)⟩
theorem lw_p35 : lw_okq (⟨"StrikeAwake$Census", "enter", "(LStrikeAwake$Parish;LStrikeAwake$Walk;I)V"⟩, 10) := ⟨⟨by decide +kernel, by decide +kernel⟩, List.mem_of_getElem? (i := 118) (by decide +kernel), List.mem_of_getElem? (i := 863) (by decide +kernel), List.mem_of_getElem? (i := 864) (by decide +kernel)⟩
theorem lw_p36 : lw_okq (⟨"StrikeAwake$Census", "enterDue", "(II)V"⟩, 10) := ⟨⟨by decide +kernel, by decide +kernel⟩, List.mem_of_getElem? (i := 118) (by decide +kernel), List.mem_of_getElem? (i := 873) (by decide +kernel), List.mem_of_getElem? (i := 874) (by decide +kernel)⟩
theorem lw_p37 : lw_okq (⟨"StrikeAwake$Census", "isWorld", "(I)Z"⟩, 10) := ⟨⟨by decide +kernel, by decide +kernel⟩, List.mem_of_getElem? (i := 118) (by decide +kernel), List.mem_of_getElem? (i := 895) (by decide +kernel), List.mem_of_getElem? (i := 896) (by decide +kernel)⟩
theorem lw_p38 : lw_okq (⟨"StrikeAwake", "barOfSome", "(Z)I"⟩, 13) := ⟨⟨by decide +kernel, by decide +kernel⟩, List.mem_of_getElem? (i := 26) (by decide +kernel), List.mem_of_getElem? (i := 924) (by decide +kernel), List.mem_of_getElem? (i := 925) (by decide +kernel)⟩
theorem lw_p39 : lw_okq (⟨"StrikeAwake", "barOfAsking", "(Z)I"⟩, 13) := ⟨⟨by decide +kernel, by decide +kernel⟩, List.mem_of_getElem? (i := 26) (by decide +kernel), List.mem_of_getElem? (i := 1001) (by decide +kernel), List.mem_of_getElem? (i := 1002) (by decide +kernel)⟩
theorem lw_p40 : lw_okq (⟨"StrikeAwake$Asking", "gather", "(LStrikeAwake$Parish;LStrikeAwake$Census;)V"⟩, 5) := ⟨⟨by decide +kernel, by decide +kernel⟩, List.mem_of_getElem? (i := 166) (by decide +kernel), List.mem_of_getElem? (i := 1009) (by decide +kernel), List.mem_of_getElem? (i := 1010) (by decide +kernel)⟩
theorem lw_p41 : lw_okq (⟨"StrikeAwake$Asking", "fewest", "(LStrikeAwake$Parish;)I"⟩, 5) := ⟨⟨by decide +kernel, by decide +kernel⟩, List.mem_of_getElem? (i := 166) (by decide +kernel), List.mem_of_getElem? (i := 1017) (by decide +kernel), List.mem_of_getElem? (i := 1018) (by decide +kernel)⟩
theorem lw_p42 : lw_okq (⟨"StrikeAwake$Asking", "tells", "(LStrikeAwake$Parish;I)Z"⟩, 5) := ⟨⟨by decide +kernel, by decide +kernel⟩, List.mem_of_getElem? (i := 166) (by decide +kernel), List.mem_of_getElem? (i := 1027) (by decide +kernel), List.mem_of_getElem? (i := 1028) (by decide +kernel)⟩
theorem lw_p43 : lw_okq (⟨"StrikeAwake$Asking", "slotOf", "(I)I"⟩, 5) := ⟨⟨by decide +kernel, by decide +kernel⟩, List.mem_of_getElem? (i := 166) (by decide +kernel), List.mem_of_getElem? (i := 1036) (by decide +kernel), List.mem_of_getElem? (i := 1037) (by decide +kernel)⟩
theorem lw_p44 : lw_okq (⟨"StrikeAwake", "isTold", "(I)Z"⟩, 13) := ⟨⟨by decide +kernel, by decide +kernel⟩, List.mem_of_getElem? (i := 26) (by decide +kernel), List.mem_of_getElem? (i := 1053) (by decide +kernel), List.mem_of_getElem? (i := 1054) (by decide +kernel)⟩
theorem lw_p45 : lw_okq (⟨"StrikeAwake$Grounds", "gather", "(LStrikeAwake$Parish;LStrikeAwake$Walk;)V"⟩, 3) := ⟨⟨by decide +kernel, by decide +kernel⟩, List.mem_of_getElem? (i := 188) (by decide +kernel), List.mem_of_getElem? (i := 1084) (by decide +kernel), List.mem_of_getElem? (i := 1085) (by decide +kernel)⟩
theorem lw_p46 : lw_okq (⟨"StrikeAwake$Grounds", "oneHour", "(LStrikeAwake$Parish;)I"⟩, 3) := ⟨⟨by decide +kernel, by decide +kernel⟩, List.mem_of_getElem? (i := 188) (by decide +kernel), List.mem_of_getElem? (i := 1093) (by decide +kernel), List.mem_of_getElem? (i := 1094) (by decide +kernel)⟩
theorem lw_p47 : lw_okq (⟨"StrikeAwake$Grounds", "leavesNone", "(LStrikeAwake$Parish;I)Z"⟩, 3) := ⟨⟨by decide +kernel, by decide +kernel⟩, List.mem_of_getElem? (i := 188) (by decide +kernel), List.mem_of_getElem? (i := 1097) (by decide +kernel), List.mem_of_getElem? (i := 1098) (by decide +kernel)⟩
def lw_privs_3 : List (MethodName × Nat) := [(⟨"StrikeAwake", "barOfWorlds", "(Z)I"⟩, 13), (⟨"StrikeAwake", "barOfLots", "(Z)I"⟩, 13), (⟨"StrikeAwake$Census", "clear", "()V"⟩, 10), (⟨"StrikeAwake$Census", "enter", "(LStrikeAwake$Parish;LStrikeAwake$Walk;I)V"⟩, 10), (⟨"StrikeAwake$Census", "enterDue", "(II)V"⟩, 10), (⟨"StrikeAwake$Census", "isWorld", "(I)Z"⟩, 10), (⟨"StrikeAwake", "barOfSome", "(Z)I"⟩, 13), (⟨"StrikeAwake", "barOfAsking", "(Z)I"⟩, 13), (⟨"StrikeAwake$Asking", "gather", "(LStrikeAwake$Parish;LStrikeAwake$Census;)V"⟩, 5), (⟨"StrikeAwake$Asking", "fewest", "(LStrikeAwake$Parish;)I"⟩, 5), (⟨"StrikeAwake$Asking", "tells", "(LStrikeAwake$Parish;I)Z"⟩, 5), (⟨"StrikeAwake$Asking", "slotOf", "(I)I"⟩, 5), (⟨"StrikeAwake", "isTold", "(I)Z"⟩, 13), (⟨"StrikeAwake$Grounds", "gather", "(LStrikeAwake$Parish;LStrikeAwake$Walk;)V"⟩, 3), (⟨"StrikeAwake$Grounds", "oneHour", "(LStrikeAwake$Parish;)I"⟩, 3), (⟨"StrikeAwake$Grounds", "leavesNone", "(LStrikeAwake$Parish;I)Z"⟩, 3)]
theorem lw_r3 : ∀ q ∈ lw_privs_3, lw_okq q := List.forall_mem_cons.mpr ⟨lw_p32, List.forall_mem_cons.mpr ⟨lw_p33, List.forall_mem_cons.mpr ⟨lw_p34, List.forall_mem_cons.mpr ⟨lw_p35, List.forall_mem_cons.mpr ⟨lw_p36, List.forall_mem_cons.mpr ⟨lw_p37, List.forall_mem_cons.mpr ⟨lw_p38, List.forall_mem_cons.mpr ⟨lw_p39, List.forall_mem_cons.mpr ⟨lw_p40, List.forall_mem_cons.mpr ⟨lw_p41, List.forall_mem_cons.mpr ⟨lw_p42, List.forall_mem_cons.mpr ⟨lw_p43, List.forall_mem_cons.mpr ⟨lw_p44, List.forall_mem_cons.mpr ⟨lw_p45, List.forall_mem_cons.mpr ⟨lw_p46, List.forall_mem_cons.mpr ⟨lw_p47, fun _ h => absurd h List.not_mem_nil⟩⟩⟩⟩⟩⟩⟩⟩⟩⟩⟩⟩⟩⟩⟩⟩
theorem lw_p48 : lw_okq (⟨"StrikeAwake$Grounds", "twoHours", "(LStrikeAwake$Parish;)I"⟩, 3) := ⟨⟨by decide +kernel, by decide +kernel⟩, List.mem_of_getElem? (i := 188) (by decide +kernel), List.mem_of_getElem? (i := 1105) (by decide +kernel), List.mem_of_getElem? (i := 1106) (by decide +kernel)⟩
theorem lw_p49 : lw_okq (⟨"StrikeAwake$Grounds", "threeHours", "(LStrikeAwake$Parish;)I"⟩, 3) := ⟨⟨by decide +kernel, by decide +kernel⟩, List.mem_of_getElem? (i := 188) (by decide +kernel), List.mem_of_getElem? (i := 1109) (by decide +kernel), List.mem_of_getElem? (i := 1110) (by decide +kernel)⟩
theorem lw_p50 : lw_okq (⟨"StrikeAwake$Parish", "hoursOffered", "(I)I"⟩, 19) := ⟨⟨by decide +kernel, by decide +kernel⟩, List.mem_of_getElem? (i := 204) (by decide +kernel), List.mem_of_getElem? (i := 1138) (by decide +kernel), List.mem_of_getElem? (i := 1139) (by decide +kernel)⟩
theorem lw_p51 : lw_okq (⟨"java/lang/Throwable", "fillInStackTrace", "(I)Ljava/lang/Throwable;"⟩, 6) := ⟨⟨by decide +kernel, by decide +kernel⟩, List.mem_of_getElem? (i := 1248) (by decide +kernel), List.mem_of_getElem? (i := 1246) (by decide +kernel), List.mem_of_getElem? (i := 1247) (by decide +kernel)⟩
theorem lw_p52 : lw_okq (⟨"StrikeAwakeModel", "refused", "(I)I"⟩, 33) := ⟨⟨by decide +kernel, by decide +kernel⟩, List.mem_of_getElem? (i := 1277) (by decide +kernel), List.mem_of_getElem? (i := 1395) (by decide +kernel), List.mem_of_getElem? (i := 1396) (by decide +kernel)⟩
theorem lw_p53 : lw_okq (⟨"StrikeAwakeModel", "goesOn", "()V"⟩, 33) := ⟨⟨by decide +kernel, by decide +kernel⟩, List.mem_of_getElem? (i := 1277) (by decide +kernel), List.mem_of_getElem? (i := 1507) (by decide +kernel), List.mem_of_getElem? (i := 1508) (by decide +kernel)⟩
theorem lw_p54 : lw_okq (⟨"StrikeAwakeModel", "byteAt", "(I)I"⟩, 33) := ⟨⟨by decide +kernel, by decide +kernel⟩, List.mem_of_getElem? (i := 1277) (by decide +kernel), List.mem_of_getElem? (i := 1511) (by decide +kernel), List.mem_of_getElem? (i := 1512) (by decide +kernel)⟩
theorem lw_p55 : lw_okq (⟨"StrikeAwakeModel", "readParish", "()V"⟩, 33) := ⟨⟨by decide +kernel, by decide +kernel⟩, List.mem_of_getElem? (i := 1277) (by decide +kernel), List.mem_of_getElem? (i := 1522) (by decide +kernel), List.mem_of_getElem? (i := 1523) (by decide +kernel)⟩
theorem lw_p56 : lw_okq (⟨"StrikeAwakeModel", "readLine", "()V"⟩, 33) := ⟨⟨by decide +kernel, by decide +kernel⟩, List.mem_of_getElem? (i := 1277) (by decide +kernel), List.mem_of_getElem? (i := 1526) (by decide +kernel), List.mem_of_getElem? (i := 1527) (by decide +kernel)⟩
theorem lw_p57 : lw_okq (⟨"StrikeAwakeModel", "isWord", "(Ljava/lang/String;)Z"⟩, 33) := ⟨⟨by decide +kernel, by decide +kernel⟩, List.mem_of_getElem? (i := 1277) (by decide +kernel), List.mem_of_getElem? (i := 1531) (by decide +kernel), List.mem_of_getElem? (i := 1532) (by decide +kernel)⟩
theorem lw_p58 : lw_okq (⟨"StrikeAwakeModel", "readLaw", "()V"⟩, 33) := ⟨⟨by decide +kernel, by decide +kernel⟩, List.mem_of_getElem? (i := 1277) (by decide +kernel), List.mem_of_getElem? (i := 1540) (by decide +kernel), List.mem_of_getElem? (i := 1541) (by decide +kernel)⟩
theorem lw_p59 : lw_okq (⟨"StrikeAwakeModel", "wrong", "(I)V"⟩, 33) := ⟨⟨by decide +kernel, by decide +kernel⟩, List.mem_of_getElem? (i := 1277) (by decide +kernel), List.mem_of_getElem? (i := 1544) (by decide +kernel), List.mem_of_getElem? (i := 1545) (by decide +kernel)⟩
theorem lw_p60 : lw_okq (⟨"StrikeAwakeModel", "readPart", "(Ljava/lang/String;II)I"⟩, 33) := ⟨⟨by decide +kernel, by decide +kernel⟩, List.mem_of_getElem? (i := 1277) (by decide +kernel), List.mem_of_getElem? (i := 1549) (by decide +kernel), List.mem_of_getElem? (i := 1550) (by decide +kernel)⟩
theorem lw_p61 : lw_okq (⟨"StrikeAwakeModel", "needs", "(Ljava/lang/String;)V"⟩, 33) := ⟨⟨by decide +kernel, by decide +kernel⟩, List.mem_of_getElem? (i := 1277) (by decide +kernel), List.mem_of_getElem? (i := 1553) (by decide +kernel), List.mem_of_getElem? (i := 1554) (by decide +kernel)⟩
theorem lw_p62 : lw_okq (⟨"StrikeAwakeModel", "readWhole", "(II)I"⟩, 33) := ⟨⟨by decide +kernel, by decide +kernel⟩, List.mem_of_getElem? (i := 1277) (by decide +kernel), List.mem_of_getElem? (i := 1557) (by decide +kernel), List.mem_of_getElem? (i := 1558) (by decide +kernel)⟩
theorem lw_p63 : lw_okq (⟨"StrikeAwakeModel", "whole", "(II)I"⟩, 33) := ⟨⟨by decide +kernel, by decide +kernel⟩, List.mem_of_getElem? (i := 1277) (by decide +kernel), List.mem_of_getElem? (i := 1561) (by decide +kernel), List.mem_of_getElem? (i := 1562) (by decide +kernel)⟩
def lw_privs_4 : List (MethodName × Nat) := [(⟨"StrikeAwake$Grounds", "twoHours", "(LStrikeAwake$Parish;)I"⟩, 3), (⟨"StrikeAwake$Grounds", "threeHours", "(LStrikeAwake$Parish;)I"⟩, 3), (⟨"StrikeAwake$Parish", "hoursOffered", "(I)I"⟩, 19), (⟨"java/lang/Throwable", "fillInStackTrace", "(I)Ljava/lang/Throwable;"⟩, 6), (⟨"StrikeAwakeModel", "refused", "(I)I"⟩, 33), (⟨"StrikeAwakeModel", "goesOn", "()V"⟩, 33), (⟨"StrikeAwakeModel", "byteAt", "(I)I"⟩, 33), (⟨"StrikeAwakeModel", "readParish", "()V"⟩, 33), (⟨"StrikeAwakeModel", "readLine", "()V"⟩, 33), (⟨"StrikeAwakeModel", "isWord", "(Ljava/lang/String;)Z"⟩, 33), (⟨"StrikeAwakeModel", "readLaw", "()V"⟩, 33), (⟨"StrikeAwakeModel", "wrong", "(I)V"⟩, 33), (⟨"StrikeAwakeModel", "readPart", "(Ljava/lang/String;II)I"⟩, 33), (⟨"StrikeAwakeModel", "needs", "(Ljava/lang/String;)V"⟩, 33), (⟨"StrikeAwakeModel", "readWhole", "(II)I"⟩, 33), (⟨"StrikeAwakeModel", "whole", "(II)I"⟩, 33)]
theorem lw_r4 : ∀ q ∈ lw_privs_4, lw_okq q := List.forall_mem_cons.mpr ⟨lw_p48, List.forall_mem_cons.mpr ⟨lw_p49, List.forall_mem_cons.mpr ⟨lw_p50, List.forall_mem_cons.mpr ⟨lw_p51, List.forall_mem_cons.mpr ⟨lw_p52, List.forall_mem_cons.mpr ⟨lw_p53, List.forall_mem_cons.mpr ⟨lw_p54, List.forall_mem_cons.mpr ⟨lw_p55, List.forall_mem_cons.mpr ⟨lw_p56, List.forall_mem_cons.mpr ⟨lw_p57, List.forall_mem_cons.mpr ⟨lw_p58, List.forall_mem_cons.mpr ⟨lw_p59, List.forall_mem_cons.mpr ⟨lw_p60, List.forall_mem_cons.mpr ⟨lw_p61, List.forall_mem_cons.mpr ⟨lw_p62, List.forall_mem_cons.mpr ⟨lw_p63, fun _ h => absurd h List.not_mem_nil⟩⟩⟩⟩⟩⟩⟩⟩⟩⟩⟩⟩⟩⟩⟩⟩
theorem lw_p64 : lw_okq (⟨"StrikeAwakeModel", "readPerson", "()V"⟩, 33) := ⟨⟨by decide +kernel, by decide +kernel⟩, List.mem_of_getElem? (i := 1277) (by decide +kernel), List.mem_of_getElem? (i := 1571) (by decide +kernel), List.mem_of_getElem? (i := 1572) (by decide +kernel)⟩
theorem lw_p65 : lw_okq (⟨"StrikeAwakeModel", "begins", "(II)V"⟩, 33) := ⟨⟨by decide +kernel, by decide +kernel⟩, List.mem_of_getElem? (i := 1277) (by decide +kernel), List.mem_of_getElem? (i := 1575) (by decide +kernel), List.mem_of_getElem? (i := 1576) (by decide +kernel)⟩
theorem lw_p66 : lw_okq (⟨"StrikeAwakeModel", "isName", "()Z"⟩, 33) := ⟨⟨by decide +kernel, by decide +kernel⟩, List.mem_of_getElem? (i := 1277) (by decide +kernel), List.mem_of_getElem? (i := 1579) (by decide +kernel), List.mem_of_getElem? (i := 1580) (by decide +kernel)⟩
theorem lw_p67 : lw_okq (⟨"StrikeAwakeModel", "eatsWord", "(Ljava/lang/String;)Z"⟩, 33) := ⟨⟨by decide +kernel, by decide +kernel⟩, List.mem_of_getElem? (i := 1277) (by decide +kernel), List.mem_of_getElem? (i := 1602) (by decide +kernel), List.mem_of_getElem? (i := 1603) (by decide +kernel)⟩
theorem lw_p68 : lw_okq (⟨"StrikeAwakeModel", "readSexton", "()V"⟩, 33) := ⟨⟨by decide +kernel, by decide +kernel⟩, List.mem_of_getElem? (i := 1277) (by decide +kernel), List.mem_of_getElem? (i := 1606) (by decide +kernel), List.mem_of_getElem? (i := 1607) (by decide +kernel)⟩
theorem lw_p69 : lw_okq (⟨"StrikeAwakeModel", "readKnown", "()I"⟩, 33) := ⟨⟨by decide +kernel, by decide +kernel⟩, List.mem_of_getElem? (i := 1277) (by decide +kernel), List.mem_of_getElem? (i := 1610) (by decide +kernel), List.mem_of_getElem? (i := 1611) (by decide +kernel)⟩
theorem lw_p70 : lw_okq (⟨"StrikeAwakeModel", "known", "()I"⟩, 33) := ⟨⟨by decide +kernel, by decide +kernel⟩, List.mem_of_getElem? (i := 1277) (by decide +kernel), List.mem_of_getElem? (i := 1614) (by decide +kernel), List.mem_of_getElem? (i := 1615) (by decide +kernel)⟩
theorem lw_p71 : lw_okq (⟨"StrikeAwakeModel", "readApart", "()V"⟩, 33) := ⟨⟨by decide +kernel, by decide +kernel⟩, List.mem_of_getElem? (i := 1277) (by decide +kernel), List.mem_of_getElem? (i := 1618) (by decide +kernel), List.mem_of_getElem? (i := 1619) (by decide +kernel)⟩
theorem lw_p72 : lw_okq (⟨"StrikeAwakeModel", "needsSign", "(I)V"⟩, 33) := ⟨⟨by decide +kernel, by decide +kernel⟩, List.mem_of_getElem? (i := 1277) (by decide +kernel), List.mem_of_getElem? (i := 1622) (by decide +kernel), List.mem_of_getElem? (i := 1623) (by decide +kernel)⟩
theorem lw_p73 : lw_okq (⟨"StrikeAwakeModel", "readBorn", "()V"⟩, 33) := ⟨⟨by decide +kernel, by decide +kernel⟩, List.mem_of_getElem? (i := 1277) (by decide +kernel), List.mem_of_getElem? (i := 1626) (by decide +kernel), List.mem_of_getElem? (i := 1627) (by decide +kernel)⟩
theorem lw_p74 : lw_okq (⟨"StrikeAwakeModel", "readStruck", "()V"⟩, 33) := ⟨⟨by decide +kernel, by decide +kernel⟩, List.mem_of_getElem? (i := 1277) (by decide +kernel), List.mem_of_getElem? (i := 1630) (by decide +kernel), List.mem_of_getElem? (i := 1631) (by decide +kernel)⟩
theorem lw_p75 : lw_okq (⟨"StrikeAwakeModel", "readTold", "()V"⟩, 33) := ⟨⟨by decide +kernel, by decide +kernel⟩, List.mem_of_getElem? (i := 1277) (by decide +kernel), List.mem_of_getElem? (i := 1635) (by decide +kernel), List.mem_of_getElem? (i := 1636) (by decide +kernel)⟩
theorem lw_p76 : lw_okq (⟨"StrikeAwakeModel", "readHours", "()I"⟩, 33) := ⟨⟨by decide +kernel, by decide +kernel⟩, List.mem_of_getElem? (i := 1277) (by decide +kernel), List.mem_of_getElem? (i := 1639) (by decide +kernel), List.mem_of_getElem? (i := 1640) (by decide +kernel)⟩
theorem lw_p77 : lw_okq (⟨"StrikeAwakeModel", "readOffer", "()V"⟩, 33) := ⟨⟨by decide +kernel, by decide +kernel⟩, List.mem_of_getElem? (i := 1277) (by decide +kernel), List.mem_of_getElem? (i := 1646) (by decide +kernel), List.mem_of_getElem? (i := 1647) (by decide +kernel)⟩
theorem lw_p78 : lw_okq (⟨"StrikeAwakeModel", "eatsSign", "(I)Z"⟩, 33) := ⟨⟨by decide +kernel, by decide +kernel⟩, List.mem_of_getElem? (i := 1277) (by decide +kernel), List.mem_of_getElem? (i := 1650) (by decide +kernel), List.mem_of_getElem? (i := 1651) (by decide +kernel)⟩
theorem lw_p79 : lw_okq (⟨"StrikeAwakeModel", "lays", "()V"⟩, 33) := ⟨⟨by decide +kernel, by decide +kernel⟩, List.mem_of_getElem? (i := 1277) (by decide +kernel), List.mem_of_getElem? (i := 1657) (by decide +kernel), List.mem_of_getElem? (i := 1658) (by decide +kernel)⟩
def lw_privs_5 : List (MethodName × Nat) := [(⟨"StrikeAwakeModel", "readPerson", "()V"⟩, 33), (⟨"StrikeAwakeModel", "begins", "(II)V"⟩, 33), (⟨"StrikeAwakeModel", "isName", "()Z"⟩, 33), (⟨"StrikeAwakeModel", "eatsWord", "(Ljava/lang/String;)Z"⟩, 33), (⟨"StrikeAwakeModel", "readSexton", "()V"⟩, 33), (⟨"StrikeAwakeModel", "readKnown", "()I"⟩, 33), (⟨"StrikeAwakeModel", "known", "()I"⟩, 33), (⟨"StrikeAwakeModel", "readApart", "()V"⟩, 33), (⟨"StrikeAwakeModel", "needsSign", "(I)V"⟩, 33), (⟨"StrikeAwakeModel", "readBorn", "()V"⟩, 33), (⟨"StrikeAwakeModel", "readStruck", "()V"⟩, 33), (⟨"StrikeAwakeModel", "readTold", "()V"⟩, 33), (⟨"StrikeAwakeModel", "readHours", "()I"⟩, 33), (⟨"StrikeAwakeModel", "readOffer", "()V"⟩, 33), (⟨"StrikeAwakeModel", "eatsSign", "(I)Z"⟩, 33), (⟨"StrikeAwakeModel", "lays", "()V"⟩, 33)]
theorem lw_r5 : ∀ q ∈ lw_privs_5, lw_okq q := List.forall_mem_cons.mpr ⟨lw_p64, List.forall_mem_cons.mpr ⟨lw_p65, List.forall_mem_cons.mpr ⟨lw_p66, List.forall_mem_cons.mpr ⟨lw_p67, List.forall_mem_cons.mpr ⟨lw_p68, List.forall_mem_cons.mpr ⟨lw_p69, List.forall_mem_cons.mpr ⟨lw_p70, List.forall_mem_cons.mpr ⟨lw_p71, List.forall_mem_cons.mpr ⟨lw_p72, List.forall_mem_cons.mpr ⟨lw_p73, List.forall_mem_cons.mpr ⟨lw_p74, List.forall_mem_cons.mpr ⟨lw_p75, List.forall_mem_cons.mpr ⟨lw_p76, List.forall_mem_cons.mpr ⟨lw_p77, List.forall_mem_cons.mpr ⟨lw_p78, List.forall_mem_cons.mpr ⟨lw_p79, fun _ h => absurd h List.not_mem_nil⟩⟩⟩⟩⟩⟩⟩⟩⟩⟩⟩⟩⟩⟩⟩⟩
theorem lw_p80 : lw_okq (⟨"StrikeAwakeModel", "struckHours", "()I"⟩, 33) := ⟨⟨by decide +kernel, by decide +kernel⟩, List.mem_of_getElem? (i := 1277) (by decide +kernel), List.mem_of_getElem? (i := 1661) (by decide +kernel), List.mem_of_getElem? (i := 1662) (by decide +kernel)⟩
theorem lw_p81 : lw_okq (⟨"StrikeAwakeModel", "lay", "(IIIII)V"⟩, 33) := ⟨⟨by decide +kernel, by decide +kernel⟩, List.mem_of_getElem? (i := 1277) (by decide +kernel), List.mem_of_getElem? (i := 1665) (by decide +kernel), List.mem_of_getElem? (i := 1666) (by decide +kernel)⟩
theorem lw_p82 : lw_okq (⟨"StrikeAwakeModel", "done", "(I)I"⟩, 33) := ⟨⟨by decide +kernel, by decide +kernel⟩, List.mem_of_getElem? (i := 1277) (by decide +kernel), List.mem_of_getElem? (i := 1669) (by decide +kernel), List.mem_of_getElem? (i := 1670) (by decide +kernel)⟩
theorem lw_p83 : lw_okq (⟨"StrikeAwakeModel", "isPerson", "(I)Z"⟩, 33) := ⟨⟨by decide +kernel, by decide +kernel⟩, List.mem_of_getElem? (i := 1277) (by decide +kernel), List.mem_of_getElem? (i := 1685) (by decide +kernel), List.mem_of_getElem? (i := 1686) (by decide +kernel)⟩
theorem lw_p84 : lw_okq (⟨"StrikeAwakeModel", "isSpan", "(II)Z"⟩, 33) := ⟨⟨by decide +kernel, by decide +kernel⟩, List.mem_of_getElem? (i := 1277) (by decide +kernel), List.mem_of_getElem? (i := 1693) (by decide +kernel), List.mem_of_getElem? (i := 1694) (by decide +kernel)⟩
theorem lw_p85 : lw_okq (⟨"StrikeAwakeModel", "weightOf", "(II)I"⟩, 33) := ⟨⟨by decide +kernel, by decide +kernel⟩, List.mem_of_getElem? (i := 1277) (by decide +kernel), List.mem_of_getElem? (i := 1697) (by decide +kernel), List.mem_of_getElem? (i := 1698) (by decide +kernel)⟩
theorem lw_p86 : lw_okq (⟨"StrikeAwakeModel", "isHour", "(I)Z"⟩, 33) := ⟨⟨by decide +kernel, by decide +kernel⟩, List.mem_of_getElem? (i := 1277) (by decide +kernel), List.mem_of_getElem? (i := 1705) (by decide +kernel), List.mem_of_getElem? (i := 1706) (by decide +kernel)⟩
theorem lw_p87 : lw_okq (⟨"StrikeAwakeModel", "lotsMany", "()J"⟩, 33) := ⟨⟨by decide +kernel, by decide +kernel⟩, List.mem_of_getElem? (i := 1277) (by decide +kernel), List.mem_of_getElem? (i := 1713) (by decide +kernel), List.mem_of_getElem? (i := 1714) (by decide +kernel)⟩
theorem lw_p88 : lw_okq (⟨"StrikeAwakeModel", "doneLong", "(J)J"⟩, 33) := ⟨⟨by decide +kernel, by decide +kernel⟩, List.mem_of_getElem? (i := 1277) (by decide +kernel), List.mem_of_getElem? (i := 1717) (by decide +kernel), List.mem_of_getElem? (i := 1718) (by decide +kernel)⟩
theorem lw_p89 : lw_okq (⟨"StrikeAwakeModel", "denied", "(I)Z"⟩, 33) := ⟨⟨by decide +kernel, by decide +kernel⟩, List.mem_of_getElem? (i := 1277) (by decide +kernel), List.mem_of_getElem? (i := 1725) (by decide +kernel), List.mem_of_getElem? (i := 1726) (by decide +kernel)⟩
theorem lw_p90 : lw_okq (⟨"StrikeAwakeModel", "granted", "()Z"⟩, 33) := ⟨⟨by decide +kernel, by decide +kernel⟩, List.mem_of_getElem? (i := 1277) (by decide +kernel), List.mem_of_getElem? (i := 1729) (by decide +kernel), List.mem_of_getElem? (i := 1730) (by decide +kernel)⟩
theorem lw_p91 : lw_okq (⟨"StrikeAwakeModel", "isEmpty", "()Z"⟩, 33) := ⟨⟨by decide +kernel, by decide +kernel⟩, List.mem_of_getElem? (i := 1277) (by decide +kernel), List.mem_of_getElem? (i := 1741) (by decide +kernel), List.mem_of_getElem? (i := 1742) (by decide +kernel)⟩
theorem lw_p92 : lw_okq (⟨"StrikeAwakeModel", "strikesIn", "([II)I"⟩, 33) := ⟨⟨by decide +kernel, by decide +kernel⟩, List.mem_of_getElem? (i := 1277) (by decide +kernel), List.mem_of_getElem? (i := 1745) (by decide +kernel), List.mem_of_getElem? (i := 1746) (by decide +kernel)⟩
theorem lw_p93 : lw_okq (⟨"StrikeAwakeModel", "born", "(I)I"⟩, 33) := ⟨⟨by decide +kernel, by decide +kernel⟩, List.mem_of_getElem? (i := 1277) (by decide +kernel), List.mem_of_getElem? (i := 1749) (by decide +kernel), List.mem_of_getElem? (i := 1750) (by decide +kernel)⟩
theorem lw_p94 : lw_okq (⟨"StrikeAwakeModel", "refusesSaid", "()I"⟩, 33) := ⟨⟨by decide +kernel, by decide +kernel⟩, List.mem_of_getElem? (i := 1277) (by decide +kernel), List.mem_of_getElem? (i := 1757) (by decide +kernel), List.mem_of_getElem? (i := 1758) (by decide +kernel)⟩
theorem lw_p95 : lw_okq (⟨"StrikeAwakeModel", "firstWrong", "()I"⟩, 33) := ⟨⟨by decide +kernel, by decide +kernel⟩, List.mem_of_getElem? (i := 1277) (by decide +kernel), List.mem_of_getElem? (i := 1761) (by decide +kernel), List.mem_of_getElem? (i := 1762) (by decide +kernel)⟩
def lw_privs_6 : List (MethodName × Nat) := [(⟨"StrikeAwakeModel", "struckHours", "()I"⟩, 33), (⟨"StrikeAwakeModel", "lay", "(IIIII)V"⟩, 33), (⟨"StrikeAwakeModel", "done", "(I)I"⟩, 33), (⟨"StrikeAwakeModel", "isPerson", "(I)Z"⟩, 33), (⟨"StrikeAwakeModel", "isSpan", "(II)Z"⟩, 33), (⟨"StrikeAwakeModel", "weightOf", "(II)I"⟩, 33), (⟨"StrikeAwakeModel", "isHour", "(I)Z"⟩, 33), (⟨"StrikeAwakeModel", "lotsMany", "()J"⟩, 33), (⟨"StrikeAwakeModel", "doneLong", "(J)J"⟩, 33), (⟨"StrikeAwakeModel", "denied", "(I)Z"⟩, 33), (⟨"StrikeAwakeModel", "granted", "()Z"⟩, 33), (⟨"StrikeAwakeModel", "isEmpty", "()Z"⟩, 33), (⟨"StrikeAwakeModel", "strikesIn", "([II)I"⟩, 33), (⟨"StrikeAwakeModel", "born", "(I)I"⟩, 33), (⟨"StrikeAwakeModel", "refusesSaid", "()I"⟩, 33), (⟨"StrikeAwakeModel", "firstWrong", "()I"⟩, 33)]
theorem lw_r6 : ∀ q ∈ lw_privs_6, lw_okq q := List.forall_mem_cons.mpr ⟨lw_p80, List.forall_mem_cons.mpr ⟨lw_p81, List.forall_mem_cons.mpr ⟨lw_p82, List.forall_mem_cons.mpr ⟨lw_p83, List.forall_mem_cons.mpr ⟨lw_p84, List.forall_mem_cons.mpr ⟨lw_p85, List.forall_mem_cons.mpr ⟨lw_p86, List.forall_mem_cons.mpr ⟨lw_p87, List.forall_mem_cons.mpr ⟨lw_p88, List.forall_mem_cons.mpr ⟨lw_p89, List.forall_mem_cons.mpr ⟨lw_p90, List.forall_mem_cons.mpr ⟨lw_p91, List.forall_mem_cons.mpr ⟨lw_p92, List.forall_mem_cons.mpr ⟨lw_p93, List.forall_mem_cons.mpr ⟨lw_p94, List.forall_mem_cons.mpr ⟨lw_p95, fun _ h => absurd h List.not_mem_nil⟩⟩⟩⟩⟩⟩⟩⟩⟩⟩⟩⟩⟩⟩⟩⟩
theorem lw_p96 : lw_okq (⟨"StrikeAwakeModel", "wrongIn", "(I)I"⟩, 33) := ⟨⟨by decide +kernel, by decide +kernel⟩, List.mem_of_getElem? (i := 1277) (by decide +kernel), List.mem_of_getElem? (i := 1765) (by decide +kernel), List.mem_of_getElem? (i := 1766) (by decide +kernel)⟩
theorem lw_p97 : lw_okq (⟨"StrikeAwakeModel", "offIn", "([II)I"⟩, 33) := ⟨⟨by decide +kernel, by decide +kernel⟩, List.mem_of_getElem? (i := 1277) (by decide +kernel), List.mem_of_getElem? (i := 1769) (by decide +kernel), List.mem_of_getElem? (i := 1770) (by decide +kernel)⟩
theorem lw_p98 : lw_okq (⟨"StrikeAwakeModel", "bothAsleep", "([I)I"⟩, 33) := ⟨⟨by decide +kernel, by decide +kernel⟩, List.mem_of_getElem? (i := 1277) (by decide +kernel), List.mem_of_getElem? (i := 1773) (by decide +kernel), List.mem_of_getElem? (i := 1774) (by decide +kernel)⟩
theorem lw_p99 : lw_okq (⟨"StrikeAwakeModel", "isWorld", "([I)Z"⟩, 33) := ⟨⟨by decide +kernel, by decide +kernel⟩, List.mem_of_getElem? (i := 1277) (by decide +kernel), List.mem_of_getElem? (i := 1785) (by decide +kernel), List.mem_of_getElem? (i := 1786) (by decide +kernel)⟩
theorem lw_p100 : lw_okq (⟨"StrikeAwakeModel", "barredAt", "([II)I"⟩, 33) := ⟨⟨by decide +kernel, by decide +kernel⟩, List.mem_of_getElem? (i := 1277) (by decide +kernel), List.mem_of_getElem? (i := 1789) (by decide +kernel), List.mem_of_getElem? (i := 1790) (by decide +kernel)⟩
theorem lw_p101 : lw_okq (⟨"StrikeAwakeModel", "refusesWorlds", "(Z)I"⟩, 33) := ⟨⟨by decide +kernel, by decide +kernel⟩, List.mem_of_getElem? (i := 1277) (by decide +kernel), List.mem_of_getElem? (i := 1797) (by decide +kernel), List.mem_of_getElem? (i := 1798) (by decide +kernel)⟩
theorem lw_p102 : lw_okq (⟨"StrikeAwakeModel", "knows", "()V"⟩, 33) := ⟨⟨by decide +kernel, by decide +kernel⟩, List.mem_of_getElem? (i := 1277) (by decide +kernel), List.mem_of_getElem? (i := 1802) (by decide +kernel), List.mem_of_getElem? (i := 1803) (by decide +kernel)⟩
theorem lw_p103 : lw_okq (⟨"StrikeAwakeModel", "takes", "(I)V"⟩, 33) := ⟨⟨by decide +kernel, by decide +kernel⟩, List.mem_of_getElem? (i := 1277) (by decide +kernel), List.mem_of_getElem? (i := 1806) (by decide +kernel), List.mem_of_getElem? (i := 1807) (by decide +kernel)⟩
theorem lw_p104 : lw_okq (⟨"StrikeAwakeModel", "weighs", "(II)J"⟩, 33) := ⟨⟨by decide +kernel, by decide +kernel⟩, List.mem_of_getElem? (i := 1277) (by decide +kernel), List.mem_of_getElem? (i := 1822) (by decide +kernel), List.mem_of_getElem? (i := 1823) (by decide +kernel)⟩
theorem lw_p105 : lw_okq (⟨"StrikeAwakeModel", "lotWeight", "()J"⟩, 33) := ⟨⟨by decide +kernel, by decide +kernel⟩, List.mem_of_getElem? (i := 1277) (by decide +kernel), List.mem_of_getElem? (i := 1826) (by decide +kernel), List.mem_of_getElem? (i := 1827) (by decide +kernel)⟩
theorem lw_p106 : lw_okq (⟨"StrikeAwakeModel", "awakeIn", "(II)I"⟩, 33) := ⟨⟨by decide +kernel, by decide +kernel⟩, List.mem_of_getElem? (i := 1277) (by decide +kernel), List.mem_of_getElem? (i := 1838) (by decide +kernel), List.mem_of_getElem? (i := 1839) (by decide +kernel)⟩
theorem lw_p107 : lw_okq (⟨"StrikeAwakeModel", "refusesSome", "(Z)I"⟩, 33) := ⟨⟨by decide +kernel, by decide +kernel⟩, List.mem_of_getElem? (i := 1277) (by decide +kernel), List.mem_of_getElem? (i := 1846) (by decide +kernel), List.mem_of_getElem? (i := 1847) (by decide +kernel)⟩
theorem lw_p108 : lw_okq (⟨"StrikeAwakeModel", "findLikeliest", "()J"⟩, 33) := ⟨⟨by decide +kernel, by decide +kernel⟩, List.mem_of_getElem? (i := 1277) (by decide +kernel), List.mem_of_getElem? (i := 1863) (by decide +kernel), List.mem_of_getElem? (i := 1864) (by decide +kernel)⟩
theorem lw_p109 : lw_okq (⟨"StrikeAwakeModel", "awakeSet", "([II)I"⟩, 33) := ⟨⟨by decide +kernel, by decide +kernel⟩, List.mem_of_getElem? (i := 1277) (by decide +kernel), List.mem_of_getElem? (i := 1883) (by decide +kernel), List.mem_of_getElem? (i := 1884) (by decide +kernel)⟩
theorem lw_p110 : lw_okq (⟨"StrikeAwakeModel", "extreme", "(I[IZ)I"⟩, 33) := ⟨⟨by decide +kernel, by decide +kernel⟩, List.mem_of_getElem? (i := 1277) (by decide +kernel), List.mem_of_getElem? (i := 1891) (by decide +kernel), List.mem_of_getElem? (i := 1892) (by decide +kernel)⟩
theorem lw_p111 : lw_okq (⟨"StrikeAwakeModel", "refusesAsking", "(Z)I"⟩, 33) := ⟨⟨by decide +kernel, by decide +kernel⟩, List.mem_of_getElem? (i := 1277) (by decide +kernel), List.mem_of_getElem? (i := 1903) (by decide +kernel), List.mem_of_getElem? (i := 1904) (by decide +kernel)⟩
def lw_privs_7 : List (MethodName × Nat) := [(⟨"StrikeAwakeModel", "wrongIn", "(I)I"⟩, 33), (⟨"StrikeAwakeModel", "offIn", "([II)I"⟩, 33), (⟨"StrikeAwakeModel", "bothAsleep", "([I)I"⟩, 33), (⟨"StrikeAwakeModel", "isWorld", "([I)Z"⟩, 33), (⟨"StrikeAwakeModel", "barredAt", "([II)I"⟩, 33), (⟨"StrikeAwakeModel", "refusesWorlds", "(Z)I"⟩, 33), (⟨"StrikeAwakeModel", "knows", "()V"⟩, 33), (⟨"StrikeAwakeModel", "takes", "(I)V"⟩, 33), (⟨"StrikeAwakeModel", "weighs", "(II)J"⟩, 33), (⟨"StrikeAwakeModel", "lotWeight", "()J"⟩, 33), (⟨"StrikeAwakeModel", "awakeIn", "(II)I"⟩, 33), (⟨"StrikeAwakeModel", "refusesSome", "(Z)I"⟩, 33), (⟨"StrikeAwakeModel", "findLikeliest", "()J"⟩, 33), (⟨"StrikeAwakeModel", "awakeSet", "([II)I"⟩, 33), (⟨"StrikeAwakeModel", "extreme", "(I[IZ)I"⟩, 33), (⟨"StrikeAwakeModel", "refusesAsking", "(Z)I"⟩, 33)]
theorem lw_r7 : ∀ q ∈ lw_privs_7, lw_okq q := List.forall_mem_cons.mpr ⟨lw_p96, List.forall_mem_cons.mpr ⟨lw_p97, List.forall_mem_cons.mpr ⟨lw_p98, List.forall_mem_cons.mpr ⟨lw_p99, List.forall_mem_cons.mpr ⟨lw_p100, List.forall_mem_cons.mpr ⟨lw_p101, List.forall_mem_cons.mpr ⟨lw_p102, List.forall_mem_cons.mpr ⟨lw_p103, List.forall_mem_cons.mpr ⟨lw_p104, List.forall_mem_cons.mpr ⟨lw_p105, List.forall_mem_cons.mpr ⟨lw_p106, List.forall_mem_cons.mpr ⟨lw_p107, List.forall_mem_cons.mpr ⟨lw_p108, List.forall_mem_cons.mpr ⟨lw_p109, List.forall_mem_cons.mpr ⟨lw_p110, List.forall_mem_cons.mpr ⟨lw_p111, fun _ h => absurd h List.not_mem_nil⟩⟩⟩⟩⟩⟩⟩⟩⟩⟩⟩⟩⟩⟩⟩⟩
theorem lw_p112 : lw_okq (⟨"StrikeAwakeModel", "asked", "(I)I"⟩, 33) := ⟨⟨by decide +kernel, by decide +kernel⟩, List.mem_of_getElem? (i := 1277) (by decide +kernel), List.mem_of_getElem? (i := 1907) (by decide +kernel), List.mem_of_getElem? (i := 1908) (by decide +kernel)⟩
theorem lw_p113 : lw_okq (⟨"StrikeAwakeModel", "tells", "(II)Z"⟩, 33) := ⟨⟨by decide +kernel, by decide +kernel⟩, List.mem_of_getElem? (i := 1277) (by decide +kernel), List.mem_of_getElem? (i := 1914) (by decide +kernel), List.mem_of_getElem? (i := 1915) (by decide +kernel)⟩
theorem lw_p114 : lw_okq (⟨"StrikeAwakeModel", "isTold", "(I)Z"⟩, 33) := ⟨⟨by decide +kernel, by decide +kernel⟩, List.mem_of_getElem? (i := 1277) (by decide +kernel), List.mem_of_getElem? (i := 1926) (by decide +kernel), List.mem_of_getElem? (i := 1927) (by decide +kernel)⟩
theorem lw_p115 : lw_okq (⟨"StrikeAwakeModel", "barsOf", "(I)I"⟩, 33) := ⟨⟨by decide +kernel, by decide +kernel⟩, List.mem_of_getElem? (i := 1277) (by decide +kernel), List.mem_of_getElem? (i := 1930) (by decide +kernel), List.mem_of_getElem? (i := 1931) (by decide +kernel)⟩
theorem lw_p116 : lw_okq (⟨"StrikeAwakeModel", "leastProof", "(II)I"⟩, 33) := ⟨⟨by decide +kernel, by decide +kernel⟩, List.mem_of_getElem? (i := 1277) (by decide +kernel), List.mem_of_getElem? (i := 1943) (by decide +kernel), List.mem_of_getElem? (i := 1944) (by decide +kernel)⟩
theorem lw_p117 : lw_okq (⟨"StrikeAwakeModel", "proves", "(I)Z"⟩, 33) := ⟨⟨by decide +kernel, by decide +kernel⟩, List.mem_of_getElem? (i := 1277) (by decide +kernel), List.mem_of_getElem? (i := 1947) (by decide +kernel), List.mem_of_getElem? (i := 1948) (by decide +kernel)⟩
theorem lw_p118 : lw_okq (⟨"StrikeAwakeModel", "isStruck", "(I)Z"⟩, 33) := ⟨⟨by decide +kernel, by decide +kernel⟩, List.mem_of_getElem? (i := 1277) (by decide +kernel), List.mem_of_getElem? (i := 1955) (by decide +kernel), List.mem_of_getElem? (i := 1956) (by decide +kernel)⟩
theorem lw_p119 : lw_okq (⟨"StrikeAwakeModel", "lost", "(I)I"⟩, 33) := ⟨⟨by decide +kernel, by decide +kernel⟩, List.mem_of_getElem? (i := 1277) (by decide +kernel), List.mem_of_getElem? (i := 1959) (by decide +kernel), List.mem_of_getElem? (i := 1960) (by decide +kernel)⟩
def lw_privs_8 : List (MethodName × Nat) := [(⟨"StrikeAwakeModel", "asked", "(I)I"⟩, 33), (⟨"StrikeAwakeModel", "tells", "(II)Z"⟩, 33), (⟨"StrikeAwakeModel", "isTold", "(I)Z"⟩, 33), (⟨"StrikeAwakeModel", "barsOf", "(I)I"⟩, 33), (⟨"StrikeAwakeModel", "leastProof", "(II)I"⟩, 33), (⟨"StrikeAwakeModel", "proves", "(I)Z"⟩, 33), (⟨"StrikeAwakeModel", "isStruck", "(I)Z"⟩, 33), (⟨"StrikeAwakeModel", "lost", "(I)I"⟩, 33)]
theorem lw_r8 : ∀ q ∈ lw_privs_8, lw_okq q := List.forall_mem_cons.mpr ⟨lw_p112, List.forall_mem_cons.mpr ⟨lw_p113, List.forall_mem_cons.mpr ⟨lw_p114, List.forall_mem_cons.mpr ⟨lw_p115, List.forall_mem_cons.mpr ⟨lw_p116, List.forall_mem_cons.mpr ⟨lw_p117, List.forall_mem_cons.mpr ⟨lw_p118, List.forall_mem_cons.mpr ⟨lw_p119, fun _ h => absurd h List.not_mem_nil⟩⟩⟩⟩⟩⟩⟩⟩
def lw_privs : List (MethodName × Nat) := lw_privs_1 ++ (lw_privs_2 ++ (lw_privs_3 ++ (lw_privs_4 ++ (lw_privs_5 ++ (lw_privs_6 ++ (lw_privs_7 ++ (lw_privs_8)))))))
def lw_tbl : List Cond := k2_sels lw_privs ++ tables_1
theorem lw_privs_ok : ∀ q ∈ lw_privs, lw_okq q := by
  show ∀ q ∈ lw_privs_1 ++ (lw_privs_2 ++ (lw_privs_3 ++ (lw_privs_4 ++ (lw_privs_5 ++ (lw_privs_6 ++ (lw_privs_7 ++ (lw_privs_8))))))), lw_okq q
  exact List.forall_mem_append.mpr ⟨lw_r1, List.forall_mem_append.mpr ⟨lw_r2, List.forall_mem_append.mpr ⟨lw_r3, List.forall_mem_append.mpr ⟨lw_r4, List.forall_mem_append.mpr ⟨lw_r5, List.forall_mem_append.mpr ⟨lw_r6, List.forall_mem_append.mpr ⟨lw_r7, lw_r8⟩⟩⟩⟩⟩⟩⟩
-- ===== end of PART A; then your names; then what follows =====
end
section
/-! names: own work, written by wip/gen/names.py out of the words of the claim's tables -/
def mc_ws : List Cond := lw_tbl.filter goodWord
def mc_ch (j : Nat) : List Cond := match j with
  | 0 => k2_sels lw_privs
  | 1 => tables_1_1
  | 2 => tables_1_2
  | 3 => tables_1_3
  | 4 => tables_1_4
  | 5 => tables_1_5
  | 6 => tables_1_6
  | 7 => tables_1_7
  | 8 => tables_1_8
  | 9 => tables_1_9
  | _ => []
theorem mc_ch_sub (j : Nat) : ∀ w ∈ mc_ch j, w ∈ lw_tbl := by
  intro w h
  unfold mc_ch at h
  unfold lw_tbl tables_1
  simp only [List.mem_append]
  split at h <;> simp_all
def mc_at (i : Nat × Nat) (w : Cond) : Bool := decide ((mc_ch i.1)[i.2]? = some w) && goodWord w
theorem mc_at_mem {i : Nat × Nat} {w : Cond} (h : mc_at i w = true) : w ∈ mc_ws := by
  simp only [mc_at, Bool.and_eq_true, decide_eq_true_eq] at h
  exact List.mem_filter.mpr ⟨mc_ch_sub _ _ (List.mem_of_getElem? h.1), h.2⟩
theorem mc_ws_good : ∀ w ∈ mc_ws, goodWord w = true := fun w h => (List.mem_filter.mp h).2
theorem mc_ws_sub : ∀ w ∈ mc_ws, w ∈ lw_tbl := fun w h => (List.mem_filter.mp h).1
def mc_each {α : Type} (l : List (List α)) (f : Nat → α → Bool) : Bool := (l.zipIdx).all (fun r => r.1.all (fun e => f r.2 e))
theorem mc_each_at {α : Type} {l : List (List α)} {f : Nat → α → Bool} (h : mc_each l f = true) {own : Nat} {r : List α} (hr : l[own]? = some r) {e : α} (he : e ∈ r) : f own e = true := by
  have h1 := List.all_eq_true.mp h (r, own) (by
    rw [List.mem_iff_getElem?]
    exact ⟨own, by rw [List.getElem?_zipIdx, hr]; simp⟩)
  exact List.all_eq_true.mp h1 e he

def mc_cn (k : Nat) : String := match k with
  | 0 => "StrikeAwake"
  | 1 => "StrikeAwake$Reader"
  | 2 => "StrikeAwake$Tokens"
  | 3 => "StrikeAwake$Walk"
  | 4 => "StrikeAwake$Census"
  | 5 => "StrikeAwake$Asking"
  | 6 => "StrikeAwake$Grounds"
  | 7 => "StrikeAwake$Parish"
  | 8 => "StrikeAwake$Person"
  | 9 => "StrikeAwakeModel"
  | 10 => "StrikeAwakeModel$Parish"
  | 11 => "StrikeAwakeLaw"
  | 12 => "StrikeAwake$Reserved"
  | 13 => "java/lang/Object"
  | 14 => "java/lang/Math"
  | _ => "java/lang/Integer"
def mc_T0 : u_T := fun k => match k with
  | 0 => ("StrikeAwake", "tape", "[B", true)
  | 1 => ("StrikeAwake", "reader", "LStrikeAwake$Reader;", true)
  | 2 => ("StrikeAwake", "walk", "LStrikeAwake$Walk;", true)
  | 3 => ("StrikeAwake", "census", "LStrikeAwake$Census;", true)
  | 4 => ("StrikeAwake", "asking", "LStrikeAwake$Asking;", true)
  | 5 => ("StrikeAwake", "grounds", "LStrikeAwake$Grounds;", true)
  | 6 => ("StrikeAwake", "current", "LStrikeAwake$Parish;", false)
  | 7 => ("StrikeAwake", "draft", "LStrikeAwake$Parish;", false)
  | 8 => ("StrikeAwake", "hasParish", "Z", false)
  | 9 => ("StrikeAwake", "taped", "I", false)
  | 10 => ("StrikeAwake", "refusal", "I", false)
  | 11 => ("StrikeAwake", "faultNumber", "I", false)
  | _ => ("StrikeAwake", "faultPlace", "I", false)
def mc_t0 : Nat → FieldType := fun k => match k with
  | 0 => .array .byte
  | 1 => .object "StrikeAwake$Reader"
  | 2 => .object "StrikeAwake$Walk"
  | 3 => .object "StrikeAwake$Census"
  | 4 => .object "StrikeAwake$Asking"
  | 5 => .object "StrikeAwake$Grounds"
  | 6 => .object "StrikeAwake$Parish"
  | 7 => .object "StrikeAwake$Parish"
  | 8 => .boolean
  | 9 => .int
  | 10 => .int
  | 11 => .int
  | _ => .int
def mc_T1 : u_T := fun k => match k with
  | 0 => ("StrikeAwake$Reader", "tokens", "LStrikeAwake$Tokens;", true)
  | 1 => ("StrikeAwake$Reader", "from", "I", false)
  | 2 => ("StrikeAwake$Reader", "to", "I", false)
  | 3 => ("StrikeAwake$Reader", "fault", "I", false)
  | _ => ("StrikeAwake$Reader", "place", "I", false)
def mc_t1 : Nat → FieldType := fun k => match k with
  | 0 => .object "StrikeAwake$Tokens"
  | 1 => .int
  | 2 => .int
  | 3 => .int
  | _ => .int
def mc_T2 : u_T := fun k => match k with
  | 0 => ("StrikeAwake$Tokens", "bytes", "[B", false)
  | 1 => ("StrikeAwake$Tokens", "length", "I", false)
  | 2 => ("StrikeAwake$Tokens", "ahead", "I", false)
  | 3 => ("StrikeAwake$Tokens", "kind", "I", false)
  | 4 => ("StrikeAwake$Tokens", "place", "I", false)
  | 5 => ("StrikeAwake$Tokens", "value", "I", false)
  | _ => ("StrikeAwake$Tokens", "key", "J", false)
def mc_t2 : Nat → FieldType := fun k => match k with
  | 0 => .array .byte
  | 1 => .int
  | 2 => .int
  | 3 => .int
  | 4 => .int
  | 5 => .int
  | _ => .long
def mc_T3 : u_T := fun k => match k with
  | 0 => ("StrikeAwake$Walk", "picks", "[I", true)
  | 1 => ("StrikeAwake$Walk", "early", "[J", true)
  | 2 => ("StrikeAwake$Walk", "late", "[J", true)
  | 3 => ("StrikeAwake$Walk", "filledHours", "[I", true)
  | 4 => ("StrikeAwake$Walk", "quarrelHours", "[I", true)
  | _ => ("StrikeAwake$Walk", "people", "I", false)
def mc_t3 : Nat → FieldType := fun k => match k with
  | 0 => .array .int
  | 1 => .array .long
  | 2 => .array .long
  | 3 => .array .int
  | 4 => .array .int
  | _ => .int
def mc_T4 : u_T := fun k => match k with
  | 0 => ("StrikeAwake$Census", "worldMarks", "[J", true)
  | 1 => ("StrikeAwake$Census", "holding", "[[I", true)
  | 2 => ("StrikeAwake$Census", "weighing", "[[J", true)
  | 3 => ("StrikeAwake$Census", "leastDue", "[I", true)
  | 4 => ("StrikeAwake$Census", "mostDue", "[I", true)
  | 5 => ("StrikeAwake$Census", "count", "I", false)
  | 6 => ("StrikeAwake$Census", "weight", "J", false)
  | 7 => ("StrikeAwake$Census", "bestNumber", "I", false)
  | 8 => ("StrikeAwake$Census", "bestWeight", "J", false)
  | _ => ("StrikeAwake$Census", "isFresh", "Z", false)
def mc_t4 : Nat → FieldType := fun k => match k with
  | 0 => .array .long
  | 1 => .array (.array .int)
  | 2 => .array (.array .long)
  | 3 => .array .int
  | 4 => .array .int
  | 5 => .int
  | 6 => .long
  | 7 => .int
  | 8 => .long
  | _ => .boolean
def mc_T5 : u_T := fun k => match k with
  | 0 => ("StrikeAwake$Asking", "numbers", "[I", true)
  | 1 => ("StrikeAwake$Asking", "labels", "[I", true)
  | 2 => ("StrikeAwake$Asking", "looks", "[I", true)
  | 3 => ("StrikeAwake$Asking", "slots", "[I", true)
  | _ => ("StrikeAwake$Asking", "count", "I", false)
def mc_t5 : Nat → FieldType := fun k => match k with
  | 0 => .array .int
  | 1 => .array .int
  | 2 => .array .int
  | 3 => .array .int
  | _ => .int
def mc_T6 : u_T := fun k => match k with
  | 0 => ("StrikeAwake$Grounds", "flaws", "[J", true)
  | 1 => ("StrikeAwake$Grounds", "count", "I", false)
  | _ => ("StrikeAwake$Grounds", "latestLeft", "I", false)
def mc_t6 : Nat → FieldType := fun k => match k with
  | 0 => .array .long
  | 1 => .int
  | _ => .int
def mc_T7 : u_T := fun k => match k with
  | 0 => ("StrikeAwake$Parish", "persons", "[LStrikeAwake$Person;", true)
  | 1 => ("StrikeAwake$Parish", "strokes", "[I", true)
  | 2 => ("StrikeAwake$Parish", "struckHours", "[I", true)
  | 3 => ("StrikeAwake$Parish", "bornIn", "[I", true)
  | 4 => ("StrikeAwake$Parish", "toldOf", "[I", true)
  | 5 => ("StrikeAwake$Parish", "toldHours", "[I", true)
  | 6 => ("StrikeAwake$Parish", "offeredHours", "[I", true)
  | 7 => ("StrikeAwake$Parish", "hours", "I", false)
  | 8 => ("StrikeAwake$Parish", "beside", "I", false)
  | 9 => ("StrikeAwake$Parish", "off", "I", false)
  | 10 => ("StrikeAwake$Parish", "people", "I", false)
  | 11 => ("StrikeAwake$Parish", "pairs", "I", false)
  | 12 => ("StrikeAwake$Parish", "born", "I", false)
  | 13 => ("StrikeAwake$Parish", "told", "I", false)
  | 14 => ("StrikeAwake$Parish", "offers", "I", false)
  | 15 => ("StrikeAwake$Parish", "sexton", "I", false)
  | 16 => ("StrikeAwake$Parish", "struckCount", "I", false)
  | 17 => ("StrikeAwake$Parish", "cursor", "I", false)
  | _ => ("StrikeAwake$Parish", "lotCount", "J", false)
def mc_t7 : Nat → FieldType := fun k => match k with
  | 0 => .array (.object "StrikeAwake$Person")
  | 1 => .array .int
  | 2 => .array .int
  | 3 => .array .int
  | 4 => .array .int
  | 5 => .array .int
  | 6 => .array .int
  | 7 => .int
  | 8 => .int
  | 9 => .int
  | 10 => .int
  | 11 => .int
  | 12 => .int
  | 13 => .int
  | 14 => .int
  | 15 => .int
  | 16 => .int
  | 17 => .int
  | _ => .long
def mc_T8 : u_T := fun k => match k with
  | 0 => ("StrikeAwake$Person", "bedAt", "[I", true)
  | 1 => ("StrikeAwake$Person", "sleepsFor", "[I", true)
  | 2 => ("StrikeAwake$Person", "asleepIn", "[I", true)
  | 3 => ("StrikeAwake$Person", "awakeIn", "[I", true)
  | 4 => ("StrikeAwake$Person", "earlyTally", "[J", true)
  | 5 => ("StrikeAwake$Person", "lateTally", "[J", true)
  | 6 => ("StrikeAwake$Person", "name", "J", false)
  | 7 => ("StrikeAwake$Person", "bedFrom", "I", false)
  | 8 => ("StrikeAwake$Person", "bedTo", "I", false)
  | 9 => ("StrikeAwake$Person", "longFrom", "I", false)
  | 10 => ("StrikeAwake$Person", "longTo", "I", false)
  | 11 => ("StrikeAwake$Person", "habit", "I", false)
  | 12 => ("StrikeAwake$Person", "napHours", "I", false)
  | 13 => ("StrikeAwake$Person", "isAway", "Z", false)
  | 14 => ("StrikeAwake$Person", "apartFrom", "I", false)
  | 15 => ("StrikeAwake$Person", "spanCount", "I", false)
  | 16 => ("StrikeAwake$Person", "saidSpan", "I", false)
  | _ => ("StrikeAwake$Person", "stride", "I", false)
def mc_t8 : Nat → FieldType := fun k => match k with
  | 0 => .array .int
  | 1 => .array .int
  | 2 => .array .int
  | 3 => .array .int
  | 4 => .array .long
  | 5 => .array .long
  | 6 => .long
  | 7 => .int
  | 8 => .int
  | 9 => .int
  | 10 => .int
  | 11 => .int
  | 12 => .int
  | 13 => .boolean
  | 14 => .int
  | 15 => .int
  | 16 => .int
  | _ => .int
def mc_T9 : u_T := fun k => match k with
  | 0 => ("StrikeAwakeModel", "thrown", "I", false)
  | 1 => ("StrikeAwakeModel", "trouble", "I", false)
  | 2 => ("StrikeAwakeModel", "where", "I", false)
  | 3 => ("StrikeAwakeModel", "parish", "LStrikeAwakeModel$Parish;", false)
  | 4 => ("StrikeAwakeModel", "read", "LStrikeAwakeModel$Parish;", false)
  | 5 => ("StrikeAwakeModel", "tape", "[B", true)
  | 6 => ("StrikeAwakeModel", "taped", "I", false)
  | 7 => ("StrikeAwakeModel", "size", "I", false)
  | 8 => ("StrikeAwakeModel", "at", "I", false)
  | 9 => ("StrikeAwakeModel", "sort", "I", false)
  | 10 => ("StrikeAwakeModel", "place", "I", false)
  | 11 => ("StrikeAwakeModel", "sign", "I", false)
  | 12 => ("StrikeAwakeModel", "number", "I", false)
  | 13 => ("StrikeAwakeModel", "fault", "I", false)
  | 14 => ("StrikeAwakeModel", "wrongAt", "I", false)
  | 15 => ("StrikeAwakeModel", "word", "J", false)
  | 16 => ("StrikeAwakeModel", "strokes", "I", false)
  | 17 => ("StrikeAwakeModel", "readFrom", "I", false)
  | 18 => ("StrikeAwakeModel", "readTo", "I", false)
  | 19 => ("StrikeAwakeModel", "all", "I", false)
  | 20 => ("StrikeAwakeModel", "struckNow", "[I", true)
  | 21 => ("StrikeAwakeModel", "spans", "[I", true)
  | 22 => ("StrikeAwakeModel", "bed", "[I", true)
  | 23 => ("StrikeAwakeModel", "length", "[I", true)
  | 24 => ("StrikeAwakeModel", "asleep", "[I", true)
  | 25 => ("StrikeAwakeModel", "awake", "[I", true)
  | 26 => ("StrikeAwakeModel", "said", "[I", true)
  | 27 => ("StrikeAwakeModel", "lot", "[I", true)
  | 28 => ("StrikeAwakeModel", "isKnown", "Z", false)
  | 29 => ("StrikeAwakeModel", "worlds", "I", false)
  | 30 => ("StrikeAwakeModel", "world", "[I", true)
  | 31 => ("StrikeAwakeModel", "one", "[I", true)
  | _ => ("StrikeAwakeModel", "cursor", "I", false)
def mc_t9 : Nat → FieldType := fun k => match k with
  | 0 => .int
  | 1 => .int
  | 2 => .int
  | 3 => .object "StrikeAwakeModel$Parish"
  | 4 => .object "StrikeAwakeModel$Parish"
  | 5 => .array .byte
  | 6 => .int
  | 7 => .int
  | 8 => .int
  | 9 => .int
  | 10 => .int
  | 11 => .int
  | 12 => .int
  | 13 => .int
  | 14 => .int
  | 15 => .long
  | 16 => .int
  | 17 => .int
  | 18 => .int
  | 19 => .int
  | 20 => .array .int
  | 21 => .array .int
  | 22 => .array .int
  | 23 => .array .int
  | 24 => .array .int
  | 25 => .array .int
  | 26 => .array .int
  | 27 => .array .int
  | 28 => .boolean
  | 29 => .int
  | 30 => .array .int
  | 31 => .array .int
  | _ => .int
def mc_T10 : u_T := fun k => match k with
  | 0 => ("StrikeAwakeModel$Parish", "hours", "I", false)
  | 1 => ("StrikeAwakeModel$Parish", "beside", "I", false)
  | 2 => ("StrikeAwakeModel$Parish", "off", "I", false)
  | 3 => ("StrikeAwakeModel$Parish", "people", "I", false)
  | 4 => ("StrikeAwakeModel$Parish", "aparts", "I", false)
  | 5 => ("StrikeAwakeModel$Parish", "births", "I", false)
  | 6 => ("StrikeAwakeModel$Parish", "tolds", "I", false)
  | 7 => ("StrikeAwakeModel$Parish", "offers", "I", false)
  | 8 => ("StrikeAwakeModel$Parish", "sexton", "I", false)
  | 9 => ("StrikeAwakeModel$Parish", "name", "[J", true)
  | 10 => ("StrikeAwakeModel$Parish", "bedFrom", "[I", true)
  | 11 => ("StrikeAwakeModel$Parish", "bedTo", "[I", true)
  | 12 => ("StrikeAwakeModel$Parish", "longFrom", "[I", true)
  | 13 => ("StrikeAwakeModel$Parish", "longTo", "[I", true)
  | 14 => ("StrikeAwakeModel$Parish", "habit", "[I", true)
  | 15 => ("StrikeAwakeModel$Parish", "napFrom", "[I", true)
  | 16 => ("StrikeAwakeModel$Parish", "napTo", "[I", true)
  | 17 => ("StrikeAwakeModel$Parish", "isAway", "[Z", true)
  | 18 => ("StrikeAwakeModel$Parish", "apartA", "[I", true)
  | 19 => ("StrikeAwakeModel$Parish", "apartB", "[I", true)
  | 20 => ("StrikeAwakeModel$Parish", "born", "[I", true)
  | 21 => ("StrikeAwakeModel$Parish", "struck", "[I", true)
  | 22 => ("StrikeAwakeModel$Parish", "teller", "[I", true)
  | 23 => ("StrikeAwakeModel$Parish", "tells", "[I", true)
  | 24 => ("StrikeAwakeModel$Parish", "tellsTo", "[I", true)
  | 25 => ("StrikeAwakeModel$Parish", "offering", "[I", true)
  | _ => ("StrikeAwakeModel$Parish", "offered", "[I", true)
def mc_t10 : Nat → FieldType := fun k => match k with
  | 0 => .int
  | 1 => .int
  | 2 => .int
  | 3 => .int
  | 4 => .int
  | 5 => .int
  | 6 => .int
  | 7 => .int
  | 8 => .int
  | 9 => .array .long
  | 10 => .array .int
  | 11 => .array .int
  | 12 => .array .int
  | 13 => .array .int
  | 14 => .array .int
  | 15 => .array .int
  | 16 => .array .int
  | 17 => .array .boolean
  | 18 => .array .int
  | 19 => .array .int
  | 20 => .array .int
  | 21 => .array .int
  | 22 => .array .int
  | 23 => .array .int
  | 24 => .array .int
  | 25 => .array .int
  | _ => .array .int
def mc_T (ci : Nat) : u_T := match ci with
  | 0 => mc_T0
  | 1 => mc_T1
  | 2 => mc_T2
  | 3 => mc_T3
  | 4 => mc_T4
  | 5 => mc_T5
  | 6 => mc_T6
  | 7 => mc_T7
  | 8 => mc_T8
  | 9 => mc_T9
  | _ => mc_T10
def mc_t (ci : Nat) : Nat → FieldType := match ci with
  | 0 => mc_t0
  | 1 => mc_t1
  | 2 => mc_t2
  | 3 => mc_t3
  | 4 => mc_t4
  | 5 => mc_t5
  | 6 => mc_t6
  | 7 => mc_t7
  | 8 => mc_t8
  | 9 => mc_t9
  | _ => mc_t10
def mc_N : List Nat := [13, 5, 7, 6, 10, 5, 3, 19, 18, 33, 27]
def mc_cl : List vw_C := [(mc_cn 0, mc_T0, 13), (mc_cn 1, mc_T1, 5), (mc_cn 2, mc_T2, 7), (mc_cn 3, mc_T3, 6), (mc_cn 4, mc_T4, 10), (mc_cn 5, mc_T5, 5), (mc_cn 6, mc_T6, 3), (mc_cn 7, mc_T7, 19), (mc_cn 8, mc_T8, 18), (mc_cn 9, mc_T9, 33), (mc_cn 10, mc_T10, 27)]
def mc_li : List (List (Nat × Nat)) := [[(2, 182), (2, 184), (2, 186), (2, 188), (2, 190), (2, 192), (2, 194), (2, 196), (2, 198), (2, 200), (2, 202), (2, 204), (2, 206)], [(1, 79), (1, 81), (1, 83), (1, 85), (1, 87)], [(1, 56), (1, 58), (1, 60), (1, 62), (1, 64), (1, 66), (1, 68)], [(1, 102), (1, 104), (1, 106), (1, 108), (1, 110), (1, 112)], [(1, 144), (1, 146), (1, 148), (1, 150), (1, 152), (1, 154), (1, 156), (1, 158), (1, 160), (1, 162)], [(1, 176), (1, 178), (1, 180), (1, 182), (1, 184)], [(1, 196), (1, 198), (1, 200)], [(2, 130), (2, 132), (2, 134), (2, 136), (2, 138), (2, 140), (2, 142), (2, 144), (2, 146), (2, 148), (2, 150), (2, 152), (2, 154), (2, 156), (2, 158), (2, 160), (2, 162), (2, 164), (2, 166)], [(2, 24), (2, 26), (2, 28), (2, 30), (2, 32), (2, 34), (2, 36), (2, 38), (2, 40), (2, 42), (2, 44), (2, 46), (2, 48), (2, 50), (2, 52), (2, 54), (2, 56), (2, 58)], [(6, 115), (6, 117), (6, 119), (6, 121), (6, 123), (6, 125), (6, 127), (6, 129), (6, 131), (6, 133), (6, 135), (6, 137), (6, 139), (6, 141), (6, 143), (6, 145), (6, 147), (6, 149), (6, 151), (6, 153), (6, 155), (6, 157), (6, 159), (6, 161), (6, 163), (6, 165), (6, 167), (6, 169), (6, 171), (6, 173), (6, 175), (6, 177), (6, 179)], [(7, 10), (7, 12), (7, 14), (7, 16), (7, 18), (7, 20), (7, 22), (7, 24), (7, 26), (7, 28), (7, 30), (7, 32), (7, 34), (7, 36), (7, 38), (7, 40), (7, 42), (7, 44), (7, 46), (7, 48), (7, 50), (7, 52), (7, 54), (7, 56), (7, 58), (7, 60), (7, 62)]]
/-- by class: the place of instantiable, of initialized -/
def mc_ii : List ((Nat × Nat) × (Nat × Nat)) := [((1, 26), (1, 1)), ((1, 34), (1, 2)), ((1, 40), (1, 3)), ((1, 91), (1, 4)), ((1, 118), (1, 5)), ((1, 166), (1, 6)), ((1, 188), (1, 7)), ((1, 204), (1, 8)), ((1, 211), (1, 9)), ((6, 77), (1, 10)), ((6, 199), (1, 19))]
/-- fields by class and pool entry: entry, class, place, nest, host, word -/
def mc_fl : List (List (Nat × Nat × Nat × Bool × String × Nat × Nat)) := [
  [(78, 1, 3, false, "", 1, 76), (84, 1, 4, false, "", 1, 78), (190, 4, 1, false, "", 1, 129), (265, 4, 3, false, "", 1, 132), (268, 4, 4, false, "", 1, 134), (177, 4, 5, false, "", 1, 136), (187, 4, 6, false, "", 1, 138), (207, 4, 7, false, "", 1, 140), (210, 4, 8, false, "", 1, 142), (125, 8, 0, false, "", 1, 217), (129, 8, 1, false, "", 1, 219), (135, 8, 3, false, "", 1, 226), (317, 8, 13, false, "", 2, 8), (113, 8, 15, false, "", 2, 14), (148, 8, 16, false, "", 2, 19), (109, 7, 0, false, "", 2, 66), (262, 7, 1, false, "", 2, 69), (339, 7, 7, false, "", 2, 90), (96, 7, 10, false, "", 2, 99), (327, 7, 11, false, "", 2, 105), (330, 7, 12, false, "", 2, 109), (333, 7, 13, false, "", 2, 112), (336, 7, 14, false, "", 2, 115), (342, 7, 15, false, "", 2, 118), (295, 7, 16, false, "", 2, 123), (298, 7, 17, false, "", 2, 125), (141, 7, 18, false, "", 2, 129), (9, 0, 0, false, "", 2, 169), (16, 0, 1, false, "", 2, 170), (23, 0, 2, false, "", 2, 171), (30, 0, 3, false, "", 2, 172), (37, 0, 4, false, "", 2, 173), (44, 0, 5, false, "", 2, 174), (51, 0, 6, false, "", 2, 175), (55, 0, 7, false, "", 2, 176), (58, 0, 8, false, "", 2, 177), (62, 0, 9, false, "", 2, 178), (102, 0, 10, false, "", 2, 179), (81, 0, 11, false, "", 2, 180), (87, 0, 12, false, "", 2, 181)],
  [(38, 2, 3, false, "", 1, 48), (257, 2, 4, false, "", 1, 51), (230, 2, 5, false, "", 1, 53), (135, 2, 6, false, "", 1, 55), (12, 1, 0, false, "", 1, 72), (158, 1, 1, false, "", 1, 73), (164, 1, 2, false, "", 1, 74), (18, 1, 3, false, "", 1, 75), (22, 1, 4, false, "", 1, 77), (161, 8, 7, false, "", 1, 235), (167, 8, 8, false, "", 1, 237), (172, 8, 9, false, "", 1, 239), (175, 8, 10, false, "", 2, 1), (188, 8, 11, false, "", 2, 3), (197, 8, 12, false, "", 2, 5), (203, 8, 13, false, "", 2, 7), (214, 8, 14, false, "", 2, 11), (143, 7, 0, false, "", 2, 65), (224, 7, 3, false, "", 2, 76), (242, 7, 4, false, "", 2, 79), (248, 7, 5, false, "", 2, 83), (251, 7, 6, false, "", 2, 86), (41, 7, 7, false, "", 2, 88), (127, 7, 8, false, "", 2, 92), (129, 7, 9, false, "", 2, 94), (44, 7, 10, false, "", 2, 98), (221, 7, 11, false, "", 2, 104), (227, 7, 12, false, "", 2, 108), (245, 7, 13, false, "", 2, 111), (254, 7, 14, false, "", 2, 114), (211, 7, 15, false, "", 2, 117), (181, 20, 0, false, "", 9, 116), (58, 20, 1, false, "", 9, 119)],
  [(7, 2, 0, false, "", 1, 45), (19, 2, 1, false, "", 1, 46), (23, 2, 2, false, "", 1, 47), (41, 2, 3, false, "", 1, 49), (29, 2, 4, false, "", 1, 50), (38, 2, 5, false, "", 1, 52), (32, 2, 6, false, "", 1, 54)],
  [(9, 3, 0, false, "", 1, 96), (15, 3, 1, false, "", 1, 97), (19, 3, 2, false, "", 1, 98), (22, 3, 3, false, "", 1, 99), (25, 3, 4, false, "", 1, 100), (51, 3, 5, false, "", 1, 101), (85, 8, 2, false, "", 1, 222), (75, 8, 3, false, "", 1, 225), (69, 8, 4, false, "", 1, 229), (72, 8, 5, false, "", 1, 231), (82, 8, 14, false, "", 2, 10), (52, 8, 15, false, "", 2, 13), (46, 8, 16, false, "", 2, 18), (42, 7, 0, false, "", 2, 63), (112, 7, 2, false, "", 2, 73), (58, 7, 3, false, "", 2, 75), (103, 7, 7, false, "", 2, 89), (115, 7, 9, false, "", 2, 96), (36, 7, 10, false, "", 2, 100), (55, 7, 12, false, "", 2, 107), (109, 7, 16, false, "", 2, 122)],
  [(11, 4, 0, false, "", 1, 127), (17, 4, 1, false, "", 1, 128), (22, 4, 2, false, "", 1, 130), (25, 4, 3, false, "", 1, 131), (29, 4, 4, false, "", 1, 133), (62, 4, 5, false, "", 1, 135), (66, 4, 6, false, "", 1, 137), (69, 4, 7, false, "", 1, 139), (72, 4, 8, false, "", 1, 141), (32, 4, 9, false, "", 1, 143), (138, 8, 2, false, "", 1, 223), (119, 8, 3, false, "", 1, 227), (116, 8, 15, false, "", 2, 16), (78, 7, 0, false, "", 2, 64), (94, 7, 2, false, "", 2, 72), (144, 7, 4, false, "", 2, 80), (147, 7, 5, false, "", 2, 84), (75, 7, 10, false, "", 2, 102), (91, 7, 16, false, "", 2, 121), (45, 7, 18, false, "", 2, 128)],
  [(9, 5, 0, false, "", 1, 171), (15, 5, 1, false, "", 1, 172), (18, 5, 2, false, "", 1, 173), (21, 5, 3, false, "", 1, 174), (28, 5, 4, false, "", 1, 175), (79, 8, 17, false, "", 2, 22), (75, 7, 0, false, "", 2, 67), (46, 7, 10, false, "", 2, 101)],
  [(9, 6, 0, false, "", 1, 193), (68, 6, 1, false, "", 1, 194), (81, 6, 2, false, "", 1, 195), (38, 8, 2, false, "", 1, 221), (15, 7, 0, false, "", 2, 62), (91, 7, 2, false, "", 2, 71), (21, 7, 4, false, "", 2, 78), (25, 7, 5, false, "", 2, 82), (113, 7, 9, false, "", 2, 95), (88, 7, 16, false, "", 2, 120), (34, 7, 18, false, "", 2, 126)],
  [(86, 8, 6, false, "", 1, 233), (110, 8, 15, false, "", 2, 15), (127, 8, 16, false, "", 2, 20), (107, 8, 17, false, "", 2, 23), (11, 7, 0, false, "", 2, 61), (17, 7, 1, false, "", 2, 68), (21, 7, 2, false, "", 2, 70), (24, 7, 3, false, "", 2, 74), (27, 7, 4, false, "", 2, 77), (30, 7, 5, false, "", 2, 81), (33, 7, 6, false, "", 2, 85), (41, 7, 7, false, "", 2, 87), (44, 7, 8, false, "", 2, 91), (47, 7, 9, false, "", 2, 93), (50, 7, 10, false, "", 2, 97), (53, 7, 11, false, "", 2, 103), (56, 7, 12, false, "", 2, 106), (59, 7, 13, false, "", 2, 110), (62, 7, 14, false, "", 2, 113), (37, 7, 15, false, "", 2, 116), (65, 7, 16, false, "", 2, 119), (68, 7, 17, false, "", 2, 124), (71, 7, 18, false, "", 2, 127)],
  [(9, 8, 0, false, "", 1, 216), (15, 8, 1, false, "", 1, 218), (18, 8, 2, false, "", 1, 220), (21, 8, 3, false, "", 1, 224), (24, 8, 4, false, "", 1, 228), (28, 8, 5, false, "", 1, 230), (31, 8, 6, false, "", 1, 232), (62, 8, 7, false, "", 1, 234), (65, 8, 8, false, "", 1, 236), (68, 8, 9, false, "", 1, 238), (71, 8, 10, false, "", 2, 0), (35, 8, 11, false, "", 2, 2), (39, 8, 12, false, "", 2, 4), (42, 8, 13, false, "", 2, 6), (46, 8, 14, false, "", 2, 9), (49, 8, 15, false, "", 2, 12), (52, 8, 16, false, "", 2, 17), (55, 8, 17, false, "", 2, 21)],
  [(48, 9, 0, false, "", 6, 82), (51, 9, 1, false, "", 6, 83), (9, 9, 2, false, "", 6, 84), (337, 9, 3, false, "", 6, 85), (166, 9, 4, false, "", 6, 86), (13, 9, 5, false, "", 6, 87), (330, 9, 6, false, "", 6, 88), (61, 9, 7, false, "", 6, 89), (78, 9, 8, false, "", 6, 90), (75, 9, 9, false, "", 6, 91), (84, 9, 10, false, "", 6, 92), (87, 9, 11, false, "", 6, 93), (101, 9, 12, false, "", 6, 94), (104, 9, 13, false, "", 6, 95), (107, 9, 14, false, "", 6, 96), (94, 9, 15, false, "", 6, 97), (293, 9, 16, false, "", 6, 98), (300, 9, 17, false, "", 6, 99), (303, 9, 18, false, "", 6, 100), (343, 9, 19, false, "", 6, 101), (17, 9, 20, false, "", 6, 102), (21, 9, 21, false, "", 6, 103), (24, 9, 22, false, "", 6, 104), (27, 9, 23, false, "", 6, 105), (30, 9, 24, false, "", 6, 106), (33, 9, 25, false, "", 6, 107), (36, 9, 26, false, "", 6, 108), (39, 9, 27, false, "", 6, 109), (353, 9, 28, false, "", 6, 110), (422, 9, 29, false, "", 6, 111), (42, 9, 30, false, "", 6, 112), (45, 9, 31, false, "", 6, 113), (340, 9, 32, false, "", 6, 114), (185, 10, 0, true, "StrikeAwakeModel", 6, 204), (222, 10, 1, true, "StrikeAwakeModel", 6, 205), (226, 10, 2, true, "StrikeAwakeModel", 6, 206), (188, 10, 3, true, "StrikeAwakeModel", 6, 208), (276, 10, 4, true, "StrikeAwakeModel", 6, 209), (288, 10, 5, true, "StrikeAwakeModel", 6, 210), (306, 10, 6, true, "StrikeAwakeModel", 6, 211), (321, 10, 7, true, "StrikeAwakeModel", 6, 212), (271, 10, 8, true, "StrikeAwakeModel", 6, 214), (243, 10, 9, true, "StrikeAwakeModel", 6, 216), (247, 10, 10, true, "StrikeAwakeModel", 6, 218), (250, 10, 11, true, "StrikeAwakeModel", 6, 220), (253, 10, 12, true, "StrikeAwakeModel", 6, 222), (256, 10, 13, true, "StrikeAwakeModel", 6, 224), (259, 10, 14, true, "StrikeAwakeModel", 6, 226), (261, 10, 15, true, "StrikeAwakeModel", 6, 228), (264, 10, 16, true, "StrikeAwakeModel", 6, 230), (267, 10, 17, true, "StrikeAwakeModel", 6, 232), (282, 10, 18, true, "StrikeAwakeModel", 6, 234), (285, 10, 19, true, "StrikeAwakeModel", 6, 236), (291, 10, 20, true, "StrikeAwakeModel", 6, 238), (296, 10, 21, true, "StrikeAwakeModel", 7, 0), (312, 10, 22, true, "StrikeAwakeModel", 7, 2), (315, 10, 23, true, "StrikeAwakeModel", 7, 4), (324, 10, 25, true, "StrikeAwakeModel", 7, 7), (327, 10, 26, true, "StrikeAwakeModel", 7, 9)],
  [(72, 10, 3, false, "", 6, 207), (9, 10, 8, false, "", 6, 213), (15, 10, 9, false, "", 6, 215), (19, 10, 10, false, "", 6, 217), (23, 10, 11, false, "", 6, 219), (26, 10, 12, false, "", 6, 221), (29, 10, 13, false, "", 6, 223), (32, 10, 14, false, "", 6, 225), (35, 10, 15, false, "", 6, 227), (38, 10, 16, false, "", 6, 229), (41, 10, 17, false, "", 6, 231), (45, 10, 18, false, "", 6, 233), (48, 10, 19, false, "", 6, 235), (51, 10, 20, false, "", 6, 237), (54, 10, 21, false, "", 6, 239), (57, 10, 22, false, "", 7, 1), (60, 10, 23, false, "", 7, 3), (63, 10, 24, false, "", 7, 5), (66, 10, 25, false, "", 7, 6), (69, 10, 26, false, "", 7, 8)],
  [],
  [],
  [],
  [],
  []]
/-- methods by class and pool entry: entry, method, nest, host, word -/
def mc_ml : List (List (Nat × Nat × Bool × String × Nat × Nat)) := [
  [(15, 1, true, "StrikeAwake", 1, 35), (22, 3, true, "StrikeAwake", 1, 92), (29, 4, true, "StrikeAwake", 1, 119), (36, 5, true, "StrikeAwake", 1, 167), (43, 6, true, "StrikeAwake", 1, 189), (50, 7, false, "", 1, 205), (66, 10, false, "", 2, 213), (70, 12, false, "", 2, 221), (74, 13, false, "", 2, 225), (90, 44, false, "", 3, 191), (93, 50, false, "", 3, 216), (99, 51, false, "", 3, 220), (105, 55, false, "", 3, 236), (118, 57, false, "", 4, 4), (122, 58, false, "", 4, 8), (132, 60, false, "", 4, 22), (138, 36, false, "", 4, 26), (145, 63, false, "", 4, 35), (151, 64, false, "", 4, 39), (155, 67, false, "", 4, 51), (345, 68, false, "", 4, 55), (159, 72, false, "", 4, 73), (162, 74, false, "", 4, 81), (166, 75, false, "", 4, 99), (170, 79, false, "", 4, 104), (174, 83, false, "", 4, 120), (245, 84, false, "", 4, 124), (254, 85, false, "", 4, 129), (180, 94, false, "", 4, 170), (183, 96, false, "", 4, 178), (194, 100, false, "", 4, 194), (198, 102, false, "", 4, 203), (201, 103, false, "", 4, 207), (204, 106, false, "", 4, 220), (213, 110, false, "", 4, 237), (216, 113, false, "", 5, 9), (220, 115, false, "", 5, 17), (223, 118, false, "", 5, 28), (227, 121, false, "", 5, 40), (230, 122, false, "", 5, 44), (234, 130, false, "", 5, 83), (238, 132, false, "", 5, 92), (241, 133, false, "", 5, 96), (248, 135, false, "", 5, 104), (258, 137, false, "", 5, 119), (271, 87, false, "", 5, 160), (275, 80, false, "", 5, 161), (278, 147, false, "", 5, 162), (281, 91, false, "", 5, 167), (284, 149, false, "", 5, 172), (288, 46, false, "", 5, 186), (291, 40, false, "", 5, 191), (301, 124, false, "", 5, 204), (305, 159, false, "", 5, 217), (309, 161, false, "", 5, 226), (313, 162, false, "", 5, 231)],
  [(11, 2, true, "StrikeAwake", 1, 41), (25, 14, false, "", 2, 229), (30, 15, false, "", 2, 233), (34, 17, false, "", 3, 5), (54, 18, false, "", 3, 9), (185, 19, false, "", 3, 15), (47, 20, false, "", 3, 67), (63, 21, false, "", 3, 71), (74, 16, false, "", 3, 87), (87, 22, false, "", 3, 90), (115, 23, false, "", 3, 95), (119, 24, false, "", 3, 99), (90, 25, false, "", 3, 105), (131, 26, false, "", 3, 109), (139, 27, false, "", 3, 113), (147, 28, false, "", 3, 117), (154, 29, false, "", 3, 122), (93, 30, false, "", 3, 129), (194, 31, true, "StrikeAwake", 3, 137), (96, 32, false, "", 3, 143), (207, 33, false, "", 3, 147), (99, 34, false, "", 3, 151), (51, 35, false, "", 3, 155), (217, 36, true, "StrikeAwake", 3, 159), (102, 37, false, "", 3, 162), (105, 38, false, "", 3, 166), (233, 39, false, "", 3, 170), (238, 40, false, "", 3, 175), (108, 42, false, "", 3, 183), (111, 43, false, "", 3, 187)],
  [(26, 16, false, "", 3, 0)],
  [(28, 69, false, "", 4, 59), (61, 31, true, "StrikeAwake", 4, 63), (65, 49, false, "", 4, 64), (32, 70, false, "", 4, 65), (78, 71, false, "", 4, 69), (106, 75, false, "", 4, 85), (92, 72, false, "", 4, 89), (96, 76, false, "", 4, 90), (99, 36, true, "StrikeAwake", 4, 94), (118, 80, false, "", 4, 108), (122, 81, false, "", 4, 112), (88, 45, false, "", 5, 166)],
  [(36, 86, false, "", 4, 133), (39, 87, false, "", 4, 137), (51, 79, false, "", 4, 141), (55, 88, false, "", 4, 142), (82, 89, false, "", 4, 146), (86, 58, false, "", 4, 150), (97, 72, false, "", 4, 151), (100, 90, false, "", 4, 152), (59, 91, false, "", 4, 158), (113, 95, false, "", 4, 174), (122, 36, true, "StrikeAwake", 4, 198), (126, 100, false, "", 4, 211), (132, 111, false, "", 5, 1), (135, 96, false, "", 5, 4), (141, 116, false, "", 5, 21)],
  [(24, 123, false, "", 5, 48), (42, 124, false, "", 5, 52), (32, 125, false, "", 5, 56), (57, 126, false, "", 5, 66), (61, 127, false, "", 5, 70), (67, 36, true, "StrikeAwake", 5, 73), (71, 96, false, "", 5, 74), (64, 128, false, "", 5, 75), (36, 116, false, "", 5, 87)],
  [(28, 87, false, "", 5, 108), (43, 89, false, "", 5, 109), (47, 80, false, "", 5, 110), (51, 81, false, "", 5, 111), (61, 91, false, "", 5, 113), (64, 138, false, "", 5, 123), (84, 139, false, "", 5, 127), (94, 72, false, "", 5, 130), (97, 76, false, "", 5, 131), (72, 140, false, "", 5, 132), (100, 141, false, "", 5, 136), (104, 142, false, "", 5, 140), (75, 143, false, "", 5, 144), (78, 144, false, "", 5, 148)],
  [(36, 8, true, "StrikeAwake", 1, 212), (89, 41, false, "", 3, 179), (96, 45, false, "", 3, 195), (92, 31, true, "StrikeAwake", 3, 199), (99, 46, false, "", 3, 200), (103, 47, false, "", 3, 204), (118, 150, false, "", 5, 177), (121, 36, true, "StrikeAwake", 5, 181)],
  [(58, 48, false, "", 3, 208), (78, 49, false, "", 3, 212), (74, 31, true, "StrikeAwake", 3, 215)],
  [(54, 170, false, "", 6, 194), (333, 171, true, "StrikeAwakeModel", 6, 200), (118, 172, false, "", 7, 66), (81, 173, false, "", 7, 70), (90, 174, false, "", 7, 74), (98, 175, false, "", 7, 78), (334, 176, false, "", 7, 81), (179, 177, false, "", 7, 85), (114, 178, false, "", 7, 90), (110, 179, false, "", 7, 94), (191, 180, false, "", 7, 99), (121, 181, false, "", 7, 103), (216, 182, false, "", 7, 108), (133, 183, false, "", 7, 112), (137, 184, false, "", 7, 116), (129, 185, false, "", 7, 120), (125, 186, false, "", 7, 124), (194, 187, false, "", 7, 130), (228, 188, false, "", 7, 134), (162, 189, false, "", 7, 138), (170, 190, false, "", 7, 151), (235, 191, false, "", 7, 157), (240, 192, false, "", 7, 161), (197, 193, false, "", 7, 165), (273, 194, false, "", 7, 169), (176, 195, false, "", 7, 173), (200, 196, false, "", 7, 177), (279, 197, false, "", 7, 181), (203, 198, false, "", 7, 185), (206, 199, false, "", 7, 189), (209, 200, false, "", 7, 194), (309, 201, false, "", 7, 198), (318, 202, false, "", 7, 202), (212, 203, false, "", 7, 205), (182, 204, false, "", 7, 209), (346, 205, false, "", 7, 213), (350, 206, false, "", 7, 216), (357, 207, false, "", 7, 220), (360, 208, false, "", 7, 224), (58, 209, false, "", 7, 228), (364, 213, false, "", 8, 4), (367, 215, false, "", 8, 12), (370, 216, false, "", 8, 16), (373, 218, false, "", 8, 24), (376, 220, false, "", 8, 32), (380, 221, false, "", 8, 36), (400, 223, false, "", 8, 44), (403, 224, false, "", 8, 48), (406, 227, false, "", 8, 60), (386, 228, false, "", 8, 64), (384, 229, false, "", 8, 68), (412, 231, false, "", 8, 76), (415, 232, false, "", 8, 80), (409, 233, false, "", 8, 84), (390, 234, false, "", 8, 88), (393, 235, false, "", 8, 92), (418, 238, false, "", 8, 104), (397, 239, false, "", 8, 108), (433, 241, false, "", 8, 116), (430, 242, false, "", 8, 121), (425, 243, false, "", 8, 125), (440, 247, false, "", 8, 141), (437, 248, false, "", 8, 145), (444, 251, false, "", 8, 157), (447, 253, false, "", 8, 165), (452, 257, false, "", 8, 182), (455, 262, false, "", 8, 202), (458, 264, false, "", 8, 210), (467, 267, false, "", 8, 222), (470, 268, false, "", 8, 226), (462, 269, false, "", 8, 230), (465, 270, false, "", 8, 233), (473, 273, false, "", 9, 5), (476, 274, false, "", 9, 9), (481, 277, false, "", 9, 22), (484, 278, false, "", 9, 26), (487, 280, false, "", 9, 34), (490, 281, false, "", 9, 38)],
  [],
  [(15, 0, false, "", 1, 27), (19, 9, false, "", 2, 209), (24, 11, false, "", 2, 217), (28, 52, false, "", 3, 224), (33, 53, false, "", 3, 228), (37, 54, false, "", 3, 232), (41, 56, false, "", 4, 0), (46, 59, false, "", 4, 18), (50, 61, false, "", 4, 27), (55, 62, false, "", 4, 31), (60, 65, false, "", 4, 43), (64, 66, false, "", 4, 47), (68, 73, false, "", 4, 77), (72, 77, false, "", 4, 95), (76, 78, false, "", 4, 100), (80, 82, false, "", 4, 116), (84, 92, false, "", 4, 162), (88, 93, false, "", 4, 166), (93, 97, false, "", 4, 182), (97, 98, false, "", 4, 186), (101, 99, false, "", 4, 190), (105, 101, false, "", 4, 199), (109, 104, false, "", 4, 212), (114, 105, false, "", 4, 216), (118, 107, false, "", 4, 225), (122, 108, false, "", 4, 229), (126, 109, false, "", 4, 233), (130, 112, false, "", 5, 5), (135, 114, false, "", 5, 13), (139, 117, false, "", 5, 24), (143, 119, false, "", 5, 32), (147, 120, false, "", 5, 36), (151, 129, false, "", 5, 79), (155, 131, false, "", 5, 88), (159, 134, false, "", 5, 100), (163, 136, false, "", 5, 114), (167, 145, false, "", 5, 152), (171, 146, false, "", 5, 156), (175, 148, false, "", 5, 168), (179, 151, false, "", 5, 182), (183, 152, false, "", 5, 187), (187, 153, false, "", 5, 192), (192, 154, false, "", 5, 196), (196, 155, false, "", 5, 200), (200, 156, false, "", 5, 205), (204, 157, false, "", 5, 209), (209, 158, false, "", 5, 213), (215, 160, false, "", 5, 222), (229, 163, false, "", 5, 235), (233, 164, false, "", 5, 239), (7, 165, false, "", 6, 7), (18, 166, false, "", 6, 78), (226, 167, false, "", 6, 182), (23, 168, false, "", 6, 186), (27, 169, false, "", 6, 190), (32, 210, false, "", 7, 232), (36, 211, false, "", 7, 236), (40, 212, false, "", 8, 0), (45, 214, false, "", 8, 8), (49, 217, false, "", 8, 20), (54, 219, false, "", 8, 28), (59, 222, false, "", 8, 40), (63, 225, false, "", 8, 52), (67, 226, false, "", 8, 56), (71, 230, false, "", 8, 72), (75, 236, false, "", 8, 96), (79, 237, false, "", 8, 100), (83, 240, false, "", 8, 112), (87, 244, false, "", 8, 129), (92, 245, false, "", 8, 133), (96, 246, false, "", 8, 137), (100, 249, false, "", 8, 149), (104, 250, false, "", 8, 153), (108, 252, false, "", 8, 161), (113, 254, false, "", 8, 169), (117, 255, false, "", 8, 173), (121, 256, false, "", 8, 178), (125, 258, false, "", 8, 186), (129, 259, false, "", 8, 190), (134, 260, false, "", 8, 194), (138, 261, false, "", 8, 198), (142, 263, false, "", 8, 206), (146, 265, false, "", 8, 214), (150, 266, false, "", 8, 218), (154, 271, false, "", 8, 237), (158, 272, false, "", 9, 1), (162, 275, false, "", 9, 13), (166, 276, false, "", 9, 17), (170, 279, false, "", 9, 30), (174, 282, false, "", 9, 42), (178, 283, false, "", 9, 46), (182, 284, false, "", 9, 50), (186, 285, false, "", 9, 54), (191, 286, false, "", 9, 58), (195, 287, false, "", 9, 62), (199, 288, false, "", 9, 66), (203, 289, false, "", 9, 70), (208, 290, false, "", 9, 74), (212, 291, false, "", 9, 78), (219, 292, false, "", 9, 83), (225, 293, false, "", 9, 87), (232, 294, false, "", 9, 91), (236, 295, false, "", 9, 95)],
  [],
  [],
  [],
  []]
/-- Object.<init> by class and pool entry: entry, word -/
def mc_ol : List (List (Nat × Nat × Nat)) := [
  [(1, 1, 30)],
  [(3, 1, 38)],
  [(1, 1, 44)],
  [(3, 1, 95)],
  [(3, 1, 122)],
  [(3, 1, 170)],
  [(3, 1, 192)],
  [(3, 1, 208)],
  [(3, 1, 215)],
  [(1, 6, 81)],
  [(3, 6, 203)],
  [],
  [],
  [],
  [],
  []]
theorem mc_oi : mc_at (1, 31) (.instanceMethod Lib.objectInit) = true := by decide +kernel
theorem mc_oc : mc_at (1, 32) (.code Lib.objectInit ⟨#[0xb1]⟩ 1 none) = true := by decide +kernel
/-- arrays of arrays by class and pool entry: entry, which (int, long), word -/
def mc_gl : List (List (Nat × Nat × Nat × Nat)) := [
  [],
  [],
  [],
  [],
  [(15, 0, 1, 123), (20, 1, 1, 125)],
  [],
  [],
  [],
  [],
  [],
  [],
  [],
  [],
  [],
  [],
  []]
def mc_gn (k : Nat) : String := if k = 0 then "[[I" else "[[J"
theorem mc_gl_ok : mc_each mc_gl (fun own e => mc_at e.2.2 (.classLink (mc_cn own) e.1 (mc_gn e.2.1))) = true := by decide +kernel
/-- Math by class and pool entry: entry, which (min, max, abs), word -/
def mc_jl : List (List (Nat × Nat × Nat × Nat)) := [
  [],
  [(263, 0, 3, 127)],
  [(13, 0, 2, 237)],
  [],
  [(104, 0, 4, 156), (110, 1, 4, 157)],
  [],
  [(55, 1, 5, 112)],
  [],
  [(84, 2, 4, 12), (90, 1, 4, 15)],
  [],
  [],
  [],
  [],
  [],
  [],
  []]
theorem mc_j_min : mc_at (2, 238) (.static Lib.Math.min.name) = true ∧ mc_at (2, 239) (.code Lib.Math.min.name Lib.Math.min.code 2 (some .int)) = true ∧ mc_at (1, 11) (.initialized "java/lang/Math") = true := by decide +kernel
theorem mc_j_max : mc_at (4, 16) (.static Lib.Math.max.name) = true ∧ mc_at (4, 17) (.code Lib.Math.max.name Lib.Math.max.code 2 (some .int)) = true ∧ mc_at (1, 11) (.initialized "java/lang/Math") = true := by decide +kernel
theorem mc_j_abs : mc_at (4, 13) (.static Lib.Math.abs.name) = true ∧ mc_at (4, 14) (.code Lib.Math.abs.name Lib.Math.abs.code 1 (some .int)) = true ∧ mc_at (1, 11) (.initialized "java/lang/Math") = true := by decide +kernel
/-- classes by class and pool entry: entry, class, word -/
def mc_kl : List (List (Nat × Nat × Nat × Nat)) := [
  [(13, 1, 1, 33), (20, 3, 1, 90), (27, 4, 1, 117), (34, 5, 1, 165), (41, 6, 1, 187), (48, 7, 1, 203)],
  [(9, 2, 1, 39)],
  [],
  [],
  [],
  [],
  [],
  [(9, 8, 1, 209)],
  [],
  [(171, 10, 6, 198)],
  [],
  [(8, 0, 1, 25), (16, 9, 6, 76)],
  [],
  [],
  [],
  []]
/-- statics by class and pool entry: entry, static, nest, host, word -/
def mc_sl : List (List (Nat × Nat × Bool × String × Nat × Nat)) := [
  [],
  [(258, 0, true, "StrikeAwake", 3, 13), (67, 2, false, "", 3, 83), (71, 4, false, "", 3, 85), (77, 1, false, "", 3, 88), (178, 10, false, "", 3, 133), (191, 11, false, "", 3, 135), (200, 12, false, "", 3, 141)],
  [],
  [],
  [],
  [],
  [],
  [(75, 1, false, "", 3, 75)],
  [],
  [],
  [],
  [],
  [],
  [],
  [],
  []]
/-- constants by class and pool entry: entry, value, word -/
def mc_cs : List (List (Nat × Value × Nat × Nat)) := [
  [(350, .int 16777215, 3, 140), (348, .long 20000, 4, 128), (252, .long 5000, 5, 118)],
  [],
  [(36, .long 32, 3, 4)],
  [],
  [(130, .long 100, 4, 224)],
  [],
  [],
  [(125, .long 40, 5, 221), (130, .long 20000, 5, 230)],
  [],
  [(69, .long 32, 7, 77), (428, .long 20000, 8, 120), (450, .long 100, 8, 177), (479, .long 5000, 9, 21), (493, .long 40, 9, 82)],
  [],
  [(213, .long 4294967295, 9, 99)],
  [],
  [],
  [],
  [(265, .int 1431655765, 5, 63), (266, .int 858993459, 5, 64), (267, .int 252645135, 5, 65)]]
/-- statics: class, name, descriptor, the constant that it holds -/
def mc_st : List (String × String × String × Nat) := [("StrikeAwake", "RESERVED", "[LStrikeAwake$Reserved;", 1), ("StrikeAwake$1", "$SwitchMap$StrikeAwake$Reserved", "[I", 2), ("StrikeAwake$Reserved", "LAW", "LStrikeAwake$Reserved;", 16), ("StrikeAwake$Reserved", "PERSON", "LStrikeAwake$Reserved;", 17), ("StrikeAwake$Reserved", "SEXTON", "LStrikeAwake$Reserved;", 18), ("StrikeAwake$Reserved", "APART", "LStrikeAwake$Reserved;", 19), ("StrikeAwake$Reserved", "BORN", "LStrikeAwake$Reserved;", 20), ("StrikeAwake$Reserved", "STRUCK", "LStrikeAwake$Reserved;", 21), ("StrikeAwake$Reserved", "TOLD", "LStrikeAwake$Reserved;", 22), ("StrikeAwake$Reserved", "OFFER", "LStrikeAwake$Reserved;", 23), ("StrikeAwake$Reserved", "HABIT", "LStrikeAwake$Reserved;", 24), ("StrikeAwake$Reserved", "NAP", "LStrikeAwake$Reserved;", 25), ("StrikeAwake$Reserved", "AWAY", "LStrikeAwake$Reserved;", 26)]
/-- strings: class, entry, text, constant, word -/
def mc_sr : List (Nat × Nat × String × Nat × Nat × Nat) := [(1, 114, "hours", 64, 3, 94), (1, 123, "beside", 65, 3, 103), (1, 125, "off", 66, 3, 104), (1, 152, "bed", 67, 3, 121), (1, 262, "to", 68, 3, 126), (1, 170, "long", 69, 3, 128), (1, 236, "is", 70, 3, 174), (0, 322, "there is no such person away", 71, 6, 50), (9, 140, "law", 72, 7, 89), (9, 215, "hours", 73, 7, 107), (9, 220, "beside", 74, 7, 127), (9, 224, "off", 75, 7, 128), (9, 142, "person", 76, 7, 129), (9, 144, "sexton", 77, 7, 142), (9, 146, "apart", 78, 7, 143), (9, 148, "born", 79, 7, 144), (9, 150, "struck", 80, 7, 145), (9, 152, "told", 81, 7, 146), (9, 154, "offer", 82, 7, 147), (9, 156, "habit", 83, 7, 148), (9, 158, "nap", 84, 7, 149), (9, 160, "away", 85, 7, 150), (9, 232, "bed", 86, 7, 155), (9, 233, "to", 87, 7, 156), (9, 238, "long", 88, 7, 160), (9, 298, "is", 89, 7, 193), (12, 67, "law", 32, 9, 127), (12, 76, "sexton", 34, 9, 128), (12, 94, "habit", 40, 9, 129), (12, 97, "nap", 41, 9, 130), (12, 100, "away", 42, 9, 131), (12, 73, "person", 33, 9, 132), (12, 79, "apart", 35, 9, 133), (12, 82, "born", 36, 9, 134), (12, 85, "struck", 37, 9, 135), (12, 88, "told", 38, 9, 136), (12, 91, "offer", 39, 9, 137)]
def mc_kf (ci : Nat) : List (String × String × String) := if ci = 20 then [("StrikeAwake$Reserved", "word", "Ljava/lang/String;"), ("StrikeAwake$Reserved", "room", "I")] else []
/-- methods: class, name, bytes, locals, answer, parameters, sort (0 static, 1 by receiver, 2 constructor) -/
def mc_mt_0 : List (Nat × MethodName × ByteArray × Nat × Option FieldType × Nat × Nat) := [
  (0, ⟨"StrikeAwake", "<init>", "()V"⟩, prog_1_method_1_code, 1, none, 0, 2),
  (1, ⟨"StrikeAwake$Reader", "<init>", "()V"⟩, prog_8_method_1_code, 1, none, 0, 2),
  (2, ⟨"StrikeAwake$Tokens", "<init>", "()V"⟩, prog_10_method_1_code, 1, none, 0, 2),
  (3, ⟨"StrikeAwake$Walk", "<init>", "()V"⟩, prog_11_method_1_code, 1, none, 0, 2),
  (4, ⟨"StrikeAwake$Census", "<init>", "()V"⟩, prog_4_method_1_code, 1, none, 0, 2),
  (5, ⟨"StrikeAwake$Asking", "<init>", "()V"⟩, prog_3_method_1_code, 1, none, 0, 2),
  (6, ⟨"StrikeAwake$Grounds", "<init>", "()V"⟩, prog_5_method_1_code, 1, none, 0, 2),
  (7, ⟨"StrikeAwake$Parish", "<init>", "()V"⟩, prog_6_method_1_code, 2, none, 0, 2),
  (8, ⟨"StrikeAwake$Person", "<init>", "()V"⟩, prog_7_method_1_code, 1, none, 0, 2),
  (0, ⟨"StrikeAwake", "feed", "(IIIII)I"⟩, prog_1_method_2_code, 6, some FieldType.int, 5, 1),
  (0, ⟨"StrikeAwake", "putOnTape", "(I)V"⟩, prog_1_method_52_code, 3, none, 1, 1),
  (0, ⟨"StrikeAwake", "parish", "(I)I"⟩, prog_1_method_3_code, 4, some FieldType.int, 1, 1),
  (0, ⟨"StrikeAwake", "refuse", "(I)I"⟩, prog_1_method_54_code, 2, some FieldType.int, 1, 1),
  (1, ⟨"StrikeAwake$Reader", "reads", "([BILStrikeAwake$Parish;)Z"⟩, prog_8_method_2_code, 5, some FieldType.boolean, 3, 1),
  (7, ⟨"StrikeAwake$Parish", "clear", "()V"⟩, prog_6_method_2_code, 2, none, 0, 1),
  (2, ⟨"StrikeAwake$Tokens", "begin", "([BI)V"⟩, prog_10_method_2_code, 3, none, 2, 1),
  (2, ⟨"StrikeAwake$Tokens", "advance", "()V"⟩, prog_10_method_3_code, 4, none, 0, 1),
  (1, ⟨"StrikeAwake$Reader", "readsLine", "(LStrikeAwake$Parish;)Z"⟩, prog_8_method_3_code, 4, some FieldType.boolean, 1, 1),
  (1, ⟨"StrikeAwake$Reader", "reserved", "()LStrikeAwake$Reserved;"⟩, prog_8_method_14_code, 2, some (FieldType.object "StrikeAwake$Reserved"), 0, 1),
  (2, ⟨"StrikeAwake$Tokens", "isWord", "(Ljava/lang/String;)Z"⟩, prog_10_method_4_code, 5, some FieldType.boolean, 1, 1),
  (1, ⟨"StrikeAwake$Reader", "fail", "(I)Z"⟩, prog_8_method_13_code, 2, some FieldType.boolean, 1, 1),
  (7, ⟨"StrikeAwake$Parish", "linesOf", "(LStrikeAwake$Reserved;)I"⟩, prog_6_method_3_code, 2, some FieldType.int, 1, 1),
  (1, ⟨"StrikeAwake$Reader", "readsLaw", "(LStrikeAwake$Parish;)Z"⟩, prog_8_method_4_code, 5, some FieldType.boolean, 1, 1),
  (1, ⟨"StrikeAwake$Reader", "takesWord", "(Ljava/lang/String;)Z"⟩, prog_8_method_18_code, 2, some FieldType.boolean, 1, 1),
  (1, ⟨"StrikeAwake$Reader", "whole", "(II)I"⟩, prog_8_method_19_code, 4, some FieldType.int, 2, 1),
  (1, ⟨"StrikeAwake$Reader", "readsPerson", "(LStrikeAwake$Parish;)Z"⟩, prog_8_method_5_code, 3, some FieldType.boolean, 1, 1),
  (1, ⟨"StrikeAwake$Reader", "isName", "()Z"⟩, prog_8_method_15_code, 1, some FieldType.boolean, 0, 1),
  (7, ⟨"StrikeAwake$Parish", "personNamed", "(J)I"⟩, prog_6_method_4_code, 4, some FieldType.int, 1, 1),
  (8, ⟨"StrikeAwake$Person", "clear", "(J)V"⟩, prog_7_method_2_code, 3, none, 1, 1),
  (1, ⟨"StrikeAwake$Reader", "takesRange", "(IIII)Z"⟩, prog_8_method_20_code, 5, some FieldType.boolean, 4, 1),
  (1, ⟨"StrikeAwake$Reader", "readsCustoms", "(LStrikeAwake$Parish;)Z"⟩, prog_8_method_6_code, 3, some FieldType.boolean, 1, 1),
  (0, ⟨"StrikeAwake", "hourBits", "(II)I"⟩, prog_1_method_67_code, 2, some FieldType.int, 2, 0)]
def mc_mi_0 : List ((Nat × Nat) × (Nat × Nat) × (Nat × Nat) × (Nat × Nat)) := [((1, 29), (1, 28), (0, 0), (1, 1)), ((1, 37), (1, 36), (0, 0), (1, 2)), ((1, 43), (1, 42), (0, 0), (1, 3)), ((1, 94), (1, 93), (0, 0), (1, 4)), ((1, 121), (1, 120), (0, 0), (1, 5)), ((1, 169), (1, 168), (0, 0), (1, 6)), ((1, 191), (1, 190), (0, 0), (1, 7)), ((1, 207), (1, 206), (0, 0), (1, 8)), ((1, 214), (1, 213), (0, 0), (1, 9)), ((2, 212), (2, 210), (2, 211), (1, 1)), ((2, 216), (2, 215), (0, 0), (1, 1)), ((2, 220), (2, 218), (2, 219), (1, 1)), ((2, 224), (2, 223), (0, 1), (1, 1)), ((2, 228), (2, 226), (2, 227), (1, 2)), ((2, 232), (2, 230), (2, 231), (1, 8)), ((2, 236), (2, 234), (2, 235), (1, 3)), ((3, 3), (3, 1), (3, 2), (1, 3)), ((3, 8), (3, 7), (0, 2), (1, 2)), ((3, 12), (3, 11), (0, 3), (1, 2)), ((3, 18), (3, 16), (3, 17), (1, 3)), ((3, 70), (3, 69), (0, 4), (1, 2)), ((3, 74), (3, 72), (3, 73), (1, 8)), ((3, 93), (3, 92), (0, 5), (1, 2)), ((3, 98), (3, 97), (0, 6), (1, 2)), ((3, 102), (3, 101), (0, 7), (1, 2)), ((3, 108), (3, 107), (0, 8), (1, 2)), ((3, 112), (3, 111), (0, 9), (1, 2)), ((3, 116), (3, 114), (3, 115), (1, 8)), ((3, 120), (3, 118), (3, 119), (1, 9)), ((3, 125), (3, 124), (0, 10), (1, 2)), ((3, 132), (3, 131), (0, 11), (1, 2)), ((3, 139), (3, 138), (0, 0), (1, 1))]
def mc_mt_1 : List (Nat × MethodName × ByteArray × Nat × Option FieldType × Nat × Nat) := [
  (1, ⟨"StrikeAwake$Reader", "readsSexton", "(LStrikeAwake$Parish;)Z"⟩, prog_8_method_7_code, 3, some FieldType.boolean, 1, 1),
  (1, ⟨"StrikeAwake$Reader", "knownPerson", "(LStrikeAwake$Parish;)I"⟩, prog_8_method_16_code, 3, some FieldType.int, 1, 1),
  (1, ⟨"StrikeAwake$Reader", "readsApart", "(LStrikeAwake$Parish;)Z"⟩, prog_8_method_8_code, 4, some FieldType.boolean, 1, 1),
  (1, ⟨"StrikeAwake$Reader", "takes", "(I)Z"⟩, prog_8_method_17_code, 2, some FieldType.boolean, 1, 1),
  (0, ⟨"StrikeAwake", "hasBit", "(II)Z"⟩, prog_1_method_66_code, 2, some FieldType.boolean, 2, 0),
  (1, ⟨"StrikeAwake$Reader", "readsBorn", "(LStrikeAwake$Parish;)Z"⟩, prog_8_method_9_code, 3, some FieldType.boolean, 1, 1),
  (1, ⟨"StrikeAwake$Reader", "readsStruck", "(LStrikeAwake$Parish;)Z"⟩, prog_8_method_10_code, 4, some FieldType.boolean, 1, 1),
  (7, ⟨"StrikeAwake$Parish", "isStruck", "(I)Z"⟩, prog_6_method_5_code, 2, some FieldType.boolean, 1, 1),
  (7, ⟨"StrikeAwake$Parish", "setStroke", "(II)V"⟩, prog_6_method_6_code, 3, none, 2, 1),
  (7, ⟨"StrikeAwake$Parish", "listStruck", "()V"⟩, prog_6_method_7_code, 2, none, 0, 1),
  (1, ⟨"StrikeAwake$Reader", "readsTold", "(LStrikeAwake$Parish;)Z"⟩, prog_8_method_11_code, 3, some FieldType.boolean, 1, 1),
  (1, ⟨"StrikeAwake$Reader", "readsOffer", "(LStrikeAwake$Parish;)Z"⟩, prog_8_method_12_code, 2, some FieldType.boolean, 1, 1),
  (7, ⟨"StrikeAwake$Parish", "settle", "()V"⟩, prog_6_method_9_code, 3, none, 0, 1),
  (7, ⟨"StrikeAwake$Parish", "allHours", "()I"⟩, prog_6_method_8_code, 1, some FieldType.int, 0, 1),
  (7, ⟨"StrikeAwake$Parish", "hoursStruckUpTo", "(I)I"⟩, prog_6_method_10_code, 4, some FieldType.int, 1, 1),
  (8, ⟨"StrikeAwake$Person", "makeSpans", "(II)V"⟩, prog_7_method_3_code, 6, none, 2, 1),
  (8, ⟨"StrikeAwake$Person", "addSpan", "(IIII)V"⟩, prog_7_method_4_code, 5, none, 4, 1),
  (3, ⟨"StrikeAwake$Walk", "tallyOf", "(I)J"⟩, prog_11_method_2_code, 4, some FieldType.long, 1, 0),
  (4, ⟨"StrikeAwake$Census", "forget", "()V"⟩, prog_4_method_2_code, 1, none, 0, 1),
  (0, ⟨"StrikeAwake", "answer", "(I)I"⟩, prog_1_method_53_code, 2, some FieldType.int, 1, 1),
  (0, ⟨"StrikeAwake", "fault", "()I"⟩, prog_1_method_4_code, 1, some FieldType.int, 0, 1),
  (0, ⟨"StrikeAwake", "where", "()I"⟩, prog_1_method_5_code, 1, some FieldType.int, 0, 1),
  (0, ⟨"StrikeAwake", "spans", "(I)I"⟩, prog_1_method_6_code, 2, some FieldType.int, 1, 1),
  (0, ⟨"StrikeAwake", "isPerson", "(I)Z"⟩, prog_1_method_57_code, 2, some FieldType.boolean, 1, 1),
  (0, ⟨"StrikeAwake", "span", "(III)I"⟩, prog_1_method_7_code, 5, some FieldType.int, 3, 1),
  (0, ⟨"StrikeAwake", "isSpan", "(II)Z"⟩, prog_1_method_58_code, 3, some FieldType.boolean, 2, 1),
  (8, ⟨"StrikeAwake$Person", "weightOf", "(I)I"⟩, prog_7_method_5_code, 2, some FieldType.int, 1, 1),
  (0, ⟨"StrikeAwake", "awake", "(III)I"⟩, prog_1_method_8_code, 4, some FieldType.int, 3, 1),
  (0, ⟨"StrikeAwake", "isHour", "(I)Z"⟩, prog_1_method_59_code, 2, some FieldType.boolean, 1, 1),
  (0, ⟨"StrikeAwake", "lots", "()J"⟩, prog_1_method_9_code, 1, some FieldType.long, 0, 1),
  (0, ⟨"StrikeAwake", "say", "(II)Z"⟩, prog_1_method_10_code, 3, some FieldType.boolean, 2, 1),
  (0, ⟨"StrikeAwake", "deny", "(I)Z"⟩, prog_1_method_56_code, 2, some FieldType.boolean, 1, 1)]
def mc_mi_1 : List ((Nat × Nat) × (Nat × Nat) × (Nat × Nat) × (Nat × Nat)) := [((3, 146), (3, 145), (0, 12), (1, 2)), ((3, 150), (3, 149), (0, 13), (1, 2)), ((3, 154), (3, 153), (0, 14), (1, 2)), ((3, 158), (3, 157), (0, 15), (1, 2)), ((3, 161), (3, 160), (0, 0), (1, 1)), ((3, 165), (3, 164), (0, 16), (1, 2)), ((3, 169), (3, 168), (0, 17), (1, 2)), ((3, 173), (3, 171), (3, 172), (1, 8)), ((3, 178), (3, 176), (3, 177), (1, 8)), ((3, 182), (3, 181), (0, 18), (1, 8)), ((3, 186), (3, 185), (0, 19), (1, 2)), ((3, 190), (3, 189), (0, 20), (1, 2)), ((3, 194), (3, 192), (3, 193), (1, 8)), ((3, 198), (3, 196), (3, 197), (1, 8)), ((3, 203), (3, 201), (3, 202), (1, 8)), ((3, 207), (3, 205), (3, 206), (1, 9)), ((3, 211), (3, 210), (0, 21), (1, 9)), ((3, 214), (3, 213), (0, 0), (1, 4)), ((3, 219), (3, 217), (3, 218), (1, 5)), ((3, 223), (3, 222), (0, 22), (1, 1)), ((3, 227), (3, 225), (3, 226), (1, 1)), ((3, 231), (3, 229), (3, 230), (1, 1)), ((3, 235), (3, 233), (3, 234), (1, 1)), ((3, 239), (3, 238), (0, 23), (1, 1)), ((4, 3), (4, 1), (4, 2), (1, 1)), ((4, 7), (4, 6), (0, 24), (1, 1)), ((4, 11), (4, 9), (4, 10), (1, 9)), ((4, 21), (4, 19), (4, 20), (1, 1)), ((4, 25), (4, 24), (0, 25), (1, 1)), ((4, 30), (4, 28), (4, 29), (1, 1)), ((4, 34), (4, 32), (4, 33), (1, 1)), ((4, 38), (4, 37), (0, 26), (1, 1))]
def mc_mt_2 : List (Nat × MethodName × ByteArray × Nat × Option FieldType × Nat × Nat) := [
  (0, ⟨"StrikeAwake", "grant", "()Z"⟩, prog_1_method_55_code, 1, some FieldType.boolean, 0, 1),
  (0, ⟨"StrikeAwake", "said", "(I)I"⟩, prog_1_method_11_code, 2, some FieldType.int, 1, 1),
  (0, ⟨"StrikeAwake", "strikes", "(I)I"⟩, prog_1_method_12_code, 3, some FieldType.int, 1, 1),
  (0, ⟨"StrikeAwake", "barOfSaid", "(Z)I"⟩, prog_1_method_61_code, 2, some FieldType.int, 1, 1),
  (3, ⟨"StrikeAwake$Walk", "toSaid", "(LStrikeAwake$Parish;)V"⟩, prog_11_method_4_code, 3, none, 1, 1),
  (3, ⟨"StrikeAwake$Walk", "countBirths", "(LStrikeAwake$Parish;)V"⟩, prog_11_method_6_code, 4, none, 1, 1),
  (3, ⟨"StrikeAwake$Walk", "countFrom", "(LStrikeAwake$Parish;I)V"⟩, prog_11_method_7_code, 6, none, 2, 1),
  (3, ⟨"StrikeAwake$Walk", "quarrelsOf", "(LStrikeAwake$Parish;I)I"⟩, prog_11_method_8_code, 7, some FieldType.int, 2, 1),
  (3, ⟨"StrikeAwake$Walk", "strokesDue", "(I)I"⟩, prog_11_method_12_code, 6, some FieldType.int, 1, 1),
  (0, ⟨"StrikeAwake", "judge", "()I"⟩, prog_1_method_13_code, 2, some FieldType.int, 0, 1),
  (3, ⟨"StrikeAwake$Walk", "firstWrong", "(LStrikeAwake$Parish;)I"⟩, prog_11_method_14_code, 3, some FieldType.int, 1, 1),
  (3, ⟨"StrikeAwake$Walk", "wrongIn", "(LStrikeAwake$Parish;I)I"⟩, prog_11_method_13_code, 3, some FieldType.int, 2, 1),
  (7, ⟨"StrikeAwake$Parish", "verdict", "(II)I"⟩, prog_6_method_11_code, 4, some FieldType.int, 2, 1),
  (0, ⟨"StrikeAwake", "why", "()I"⟩, prog_1_method_14_code, 3, some FieldType.int, 0, 1),
  (0, ⟨"StrikeAwake", "agrees", "()I"⟩, prog_1_method_15_code, 2, some FieldType.int, 0, 1),
  (3, ⟨"StrikeAwake$Walk", "isWorld", "(LStrikeAwake$Parish;)Z"⟩, prog_11_method_16_code, 2, some FieldType.boolean, 1, 1),
  (3, ⟨"StrikeAwake$Walk", "isQuarrel", "()Z"⟩, prog_11_method_10_code, 1, some FieldType.boolean, 0, 1),
  (3, ⟨"StrikeAwake$Walk", "failsIn", "(LStrikeAwake$Parish;)I"⟩, prog_11_method_15_code, 6, some FieldType.int, 1, 1),
  (0, ⟨"StrikeAwake", "worlds", "()I"⟩, prog_1_method_16_code, 2, some FieldType.int, 0, 1),
  (0, ⟨"StrikeAwake", "barOfWorlds", "(Z)I"⟩, prog_1_method_63_code, 3, some FieldType.int, 1, 1),
  (0, ⟨"StrikeAwake", "barOfLots", "(Z)I"⟩, prog_1_method_62_code, 2, some FieldType.int, 1, 1),
  (4, ⟨"StrikeAwake$Census", "renew", "(LStrikeAwake$Parish;LStrikeAwake$Walk;)V"⟩, prog_4_method_3_code, 4, none, 2, 1),
  (4, ⟨"StrikeAwake$Census", "clear", "()V"⟩, prog_4_method_4_code, 3, none, 0, 1),
  (3, ⟨"StrikeAwake$Walk", "toFirst", "(LStrikeAwake$Parish;)V"⟩, prog_11_method_3_code, 3, none, 1, 1),
  (4, ⟨"StrikeAwake$Census", "enter", "(LStrikeAwake$Parish;LStrikeAwake$Walk;I)V"⟩, prog_4_method_5_code, 7, none, 3, 1),
  (3, ⟨"StrikeAwake$Walk", "pickOf", "(I)I"⟩, prog_11_method_9_code, 2, some FieldType.int, 1, 1),
  (4, ⟨"StrikeAwake$Census", "enterDue", "(II)V"⟩, prog_4_method_6_code, 3, none, 2, 1),
  (3, ⟨"StrikeAwake$Walk", "step", "(LStrikeAwake$Parish;)V"⟩, prog_11_method_5_code, 4, none, 1, 1),
  (0, ⟨"StrikeAwake", "can", "()I"⟩, prog_1_method_17_code, 2, some FieldType.int, 0, 1),
  (0, ⟨"StrikeAwake", "world", "(II)I"⟩, prog_1_method_18_code, 4, some FieldType.int, 2, 1),
  (4, ⟨"StrikeAwake$Census", "numberOf", "(I)I"⟩, prog_4_method_9_code, 4, some FieldType.int, 1, 1),
  (4, ⟨"StrikeAwake$Census", "isWorld", "(I)Z"⟩, prog_4_method_7_code, 2, some FieldType.boolean, 1, 1)]
def mc_mi_2 : List ((Nat × Nat) × (Nat × Nat) × (Nat × Nat) × (Nat × Nat)) := [((4, 42), (4, 41), (0, 27), (1, 1)), ((4, 46), (4, 44), (4, 45), (1, 1)), ((4, 50), (4, 48), (4, 49), (1, 1)), ((4, 54), (4, 53), (0, 28), (1, 1)), ((4, 58), (4, 56), (4, 57), (1, 4)), ((4, 62), (4, 61), (0, 29), (1, 4)), ((4, 68), (4, 67), (0, 30), (1, 4)), ((4, 72), (4, 71), (0, 31), (1, 4)), ((4, 76), (4, 74), (4, 75), (1, 4)), ((4, 80), (4, 78), (4, 79), (1, 1)), ((4, 84), (4, 82), (4, 83), (1, 4)), ((4, 88), (4, 86), (4, 87), (1, 4)), ((4, 93), (4, 91), (4, 92), (1, 8)), ((4, 98), (4, 96), (4, 97), (1, 1)), ((4, 103), (4, 101), (4, 102), (1, 1)), ((4, 107), (4, 105), (4, 106), (1, 4)), ((4, 111), (4, 109), (4, 110), (1, 4)), ((4, 115), (4, 113), (4, 114), (1, 4)), ((4, 119), (4, 117), (4, 118), (1, 1)), ((4, 123), (4, 122), (0, 32), (1, 1)), ((4, 127), (4, 126), (0, 33), (1, 1)), ((4, 132), (4, 130), (4, 131), (1, 5)), ((4, 136), (4, 135), (0, 34), (1, 5)), ((4, 140), (4, 138), (4, 139), (1, 4)), ((4, 145), (4, 144), (0, 35), (1, 5)), ((4, 149), (4, 147), (4, 148), (1, 4)), ((4, 155), (4, 154), (0, 36), (1, 5)), ((4, 161), (4, 159), (4, 160), (1, 4)), ((4, 165), (4, 163), (4, 164), (1, 1)), ((4, 169), (4, 167), (4, 168), (1, 1)), ((4, 173), (4, 171), (4, 172), (1, 5)), ((4, 177), (4, 176), (0, 37), (1, 5))]
def mc_mt_3 : List (Nat × MethodName × ByteArray × Nat × Option FieldType × Nat × Nat) := [
  (7, ⟨"StrikeAwake$Parish", "spanIn", "(II)I"⟩, prog_6_method_12_code, 5, some FieldType.int, 2, 1),
  (0, ⟨"StrikeAwake", "weights", "()J"⟩, prog_1_method_19_code, 2, some FieldType.long, 0, 1),
  (0, ⟨"StrikeAwake", "having", "(II)I"⟩, prog_1_method_20_code, 4, some FieldType.int, 2, 1),
  (0, ⟨"StrikeAwake", "times", "(II)I"⟩, prog_1_method_21_code, 4, some FieldType.int, 2, 1),
  (4, ⟨"StrikeAwake$Census", "countAwake", "(LStrikeAwake$Parish;II)I"⟩, prog_4_method_10_code, 7, some FieldType.int, 3, 1),
  (0, ⟨"StrikeAwake", "sure", "(II)I"⟩, prog_1_method_22_code, 4, some FieldType.int, 2, 1),
  (0, ⟨"StrikeAwake", "barOfSome", "(Z)I"⟩, prog_1_method_64_code, 3, some FieldType.int, 1, 1),
  (4, ⟨"StrikeAwake$Census", "sureness", "(LStrikeAwake$Parish;II)I"⟩, prog_4_method_11_code, 5, some FieldType.int, 3, 1),
  (0, ⟨"StrikeAwake", "surely", "(IZ)I"⟩, prog_1_method_23_code, 7, some FieldType.int, 2, 1),
  (0, ⟨"StrikeAwake", "chance", "(II)I"⟩, prog_1_method_24_code, 4, some FieldType.int, 2, 1),
  (4, ⟨"StrikeAwake$Census", "hundredthsAwake", "(LStrikeAwake$Parish;II)I"⟩, prog_4_method_12_code, 8, some FieldType.int, 3, 1),
  (0, ⟨"StrikeAwake", "likeliest", "(I)I"⟩, prog_1_method_25_code, 3, some FieldType.int, 1, 1),
  (0, ⟨"StrikeAwake", "greatest", "()J"⟩, prog_1_method_26_code, 2, some FieldType.long, 0, 1),
  (0, ⟨"StrikeAwake", "together", "(II)I"⟩, prog_1_method_27_code, 4, some FieldType.int, 2, 1),
  (4, ⟨"StrikeAwake$Census", "bothAwake", "(LStrikeAwake$Parish;II)I"⟩, prog_4_method_13_code, 6, some FieldType.int, 3, 1),
  (4, ⟨"StrikeAwake$Census", "awakeHours", "(LStrikeAwake$Parish;II)I"⟩, prog_4_method_14_code, 4, some FieldType.int, 3, 0),
  (0, ⟨"StrikeAwake", "possible", "(I)J"⟩, prog_1_method_28_code, 3, some FieldType.long, 1, 1),
  (4, ⟨"StrikeAwake$Census", "spansHeld", "(LStrikeAwake$Parish;I)J"⟩, prog_4_method_17_code, 6, some FieldType.long, 2, 1),
  (0, ⟨"StrikeAwake", "hiding", "(II)I"⟩, prog_1_method_29_code, 4, some FieldType.int, 2, 1),
  (4, ⟨"StrikeAwake$Census", "awakeBeside", "(LStrikeAwake$Parish;II)I"⟩, prog_4_method_15_code, 7, some FieldType.int, 3, 1),
  (4, ⟨"StrikeAwake$Census", "peopleAwake", "(LStrikeAwake$Parish;II)I"⟩, prog_4_method_16_code, 5, some FieldType.int, 3, 0),
  (0, ⟨"StrikeAwake", "bed", "(IZ)I"⟩, prog_1_method_30_code, 4, some FieldType.int, 2, 1),
  (4, ⟨"StrikeAwake$Census", "outermost", "([IIZ)I"⟩, prog_4_method_18_code, 6, some FieldType.int, 3, 1),
  (0, ⟨"StrikeAwake", "sleeps", "(IZ)I"⟩, prog_1_method_31_code, 4, some FieldType.int, 2, 1),
  (0, ⟨"StrikeAwake", "ask", "()I"⟩, prog_1_method_32_code, 2, some FieldType.int, 0, 1),
  (0, ⟨"StrikeAwake", "barOfAsking", "(Z)I"⟩, prog_1_method_65_code, 3, some FieldType.int, 1, 1),
  (5, ⟨"StrikeAwake$Asking", "fewestForAll", "(LStrikeAwake$Parish;LStrikeAwake$Census;)I"⟩, prog_3_method_2_code, 4, some FieldType.int, 2, 1),
  (5, ⟨"StrikeAwake$Asking", "gather", "(LStrikeAwake$Parish;LStrikeAwake$Census;)V"⟩, prog_3_method_4_code, 5, none, 2, 1),
  (4, ⟨"StrikeAwake$Census", "nextFrom", "(ILStrikeAwake$Parish;)I"⟩, prog_4_method_8_code, 4, some FieldType.int, 2, 1),
  (5, ⟨"StrikeAwake$Asking", "fewest", "(LStrikeAwake$Parish;)I"⟩, prog_3_method_5_code, 5, some FieldType.int, 1, 1),
  (5, ⟨"StrikeAwake$Asking", "tells", "(LStrikeAwake$Parish;I)Z"⟩, prog_3_method_6_code, 5, some FieldType.boolean, 2, 1),
  (5, ⟨"StrikeAwake$Asking", "lookOf", "(LStrikeAwake$Parish;II)I"⟩, prog_3_method_7_code, 5, some FieldType.int, 3, 0)]
def mc_mi_3 : List ((Nat × Nat) × (Nat × Nat) × (Nat × Nat) × (Nat × Nat)) := [((4, 181), (4, 179), (4, 180), (1, 8)), ((4, 185), (4, 183), (4, 184), (1, 1)), ((4, 189), (4, 187), (4, 188), (1, 1)), ((4, 193), (4, 191), (4, 192), (1, 1)), ((4, 197), (4, 195), (4, 196), (1, 5)), ((4, 202), (4, 200), (4, 201), (1, 1)), ((4, 206), (4, 205), (0, 38), (1, 1)), ((4, 210), (4, 208), (4, 209), (1, 5)), ((4, 215), (4, 213), (4, 214), (1, 1)), ((4, 219), (4, 217), (4, 218), (1, 1)), ((4, 223), (4, 221), (4, 222), (1, 5)), ((4, 228), (4, 226), (4, 227), (1, 1)), ((4, 232), (4, 230), (4, 231), (1, 1)), ((4, 236), (4, 234), (4, 235), (1, 1)), ((5, 0), (4, 238), (4, 239), (1, 5)), ((5, 3), (5, 2), (0, 0), (1, 5)), ((5, 8), (5, 6), (5, 7), (1, 1)), ((5, 12), (5, 10), (5, 11), (1, 5)), ((5, 16), (5, 14), (5, 15), (1, 1)), ((5, 20), (5, 18), (5, 19), (1, 5)), ((5, 23), (5, 22), (0, 0), (1, 5)), ((5, 27), (5, 25), (5, 26), (1, 1)), ((5, 31), (5, 29), (5, 30), (1, 5)), ((5, 35), (5, 33), (5, 34), (1, 1)), ((5, 39), (5, 37), (5, 38), (1, 1)), ((5, 43), (5, 42), (0, 39), (1, 1)), ((5, 47), (5, 45), (5, 46), (1, 6)), ((5, 51), (5, 50), (0, 40), (1, 6)), ((5, 55), (5, 53), (5, 54), (1, 5)), ((5, 59), (5, 58), (0, 41), (1, 6)), ((5, 69), (5, 68), (0, 42), (1, 6)), ((5, 72), (5, 71), (0, 0), (1, 6))]
def mc_mt_4 : List (Nat × MethodName × ByteArray × Nat × Option FieldType × Nat × Nat) := [
  (5, ⟨"StrikeAwake$Asking", "slotOf", "(I)I"⟩, prog_3_method_8_code, 4, some FieldType.int, 1, 1),
  (0, ⟨"StrikeAwake", "askFor", "(I)I"⟩, prog_1_method_33_code, 3, some FieldType.int, 1, 1),
  (5, ⟨"StrikeAwake$Asking", "fewestForHour", "(LStrikeAwake$Parish;LStrikeAwake$Census;I)I"⟩, prog_3_method_3_code, 5, some FieldType.int, 3, 1),
  (0, ⟨"StrikeAwake", "lie", "(I)I"⟩, prog_1_method_34_code, 3, some FieldType.int, 1, 1),
  (0, ⟨"StrikeAwake", "isTold", "(I)Z"⟩, prog_1_method_60_code, 2, some FieldType.boolean, 1, 1),
  (4, ⟨"StrikeAwake$Census", "hasTold", "(LStrikeAwake$Parish;I)Z"⟩, prog_4_method_19_code, 7, some FieldType.boolean, 2, 1),
  (0, ⟨"StrikeAwake", "bars", "(I)I"⟩, prog_1_method_35_code, 3, some FieldType.int, 1, 1),
  (6, ⟨"StrikeAwake$Grounds", "barringHour", "(LStrikeAwake$Parish;LStrikeAwake$Walk;I)I"⟩, prog_5_method_2_code, 10, some FieldType.int, 3, 1),
  (0, ⟨"StrikeAwake", "proof", "()I"⟩, prog_1_method_36_code, 1, some FieldType.int, 0, 1),
  (6, ⟨"StrikeAwake$Grounds", "fewestHours", "(LStrikeAwake$Parish;LStrikeAwake$Walk;)I"⟩, prog_5_method_3_code, 4, some FieldType.int, 2, 1),
  (6, ⟨"StrikeAwake$Grounds", "gather", "(LStrikeAwake$Parish;LStrikeAwake$Walk;)V"⟩, prog_5_method_4_code, 4, none, 2, 1),
  (6, ⟨"StrikeAwake$Grounds", "flawsOf", "(LStrikeAwake$Parish;LStrikeAwake$Walk;)J"⟩, prog_5_method_5_code, 7, some FieldType.long, 2, 0),
  (6, ⟨"StrikeAwake$Grounds", "oneHour", "(LStrikeAwake$Parish;)I"⟩, prog_5_method_6_code, 4, some FieldType.int, 1, 1),
  (6, ⟨"StrikeAwake$Grounds", "leavesNone", "(LStrikeAwake$Parish;I)Z"⟩, prog_5_method_9_code, 4, some FieldType.boolean, 2, 1),
  (6, ⟨"StrikeAwake$Grounds", "isLeft", "(LStrikeAwake$Parish;JI)Z"⟩, prog_5_method_10_code, 6, some FieldType.boolean, 3, 0),
  (6, ⟨"StrikeAwake$Grounds", "twoHours", "(LStrikeAwake$Parish;)I"⟩, prog_5_method_7_code, 5, some FieldType.int, 1, 1),
  (6, ⟨"StrikeAwake$Grounds", "threeHours", "(LStrikeAwake$Parish;)I"⟩, prog_5_method_8_code, 7, some FieldType.int, 1, 1),
  (0, ⟨"StrikeAwake", "part", "(IZ)I"⟩, prog_1_method_37_code, 5, some FieldType.int, 2, 1),
  (0, ⟨"StrikeAwake", "nothing", "()I"⟩, prog_1_method_38_code, 4, some FieldType.int, 0, 1),
  (3, ⟨"StrikeAwake$Walk", "silentHours", "(LStrikeAwake$Parish;)I"⟩, prog_11_method_11_code, 2, some FieldType.int, 1, 1),
  (0, ⟨"StrikeAwake", "keep", "()I"⟩, prog_1_method_39_code, 1, some FieldType.int, 0, 1),
  (7, ⟨"StrikeAwake$Parish", "fewestOffers", "()I"⟩, prog_6_method_13_code, 4, some FieldType.int, 0, 1),
  (7, ⟨"StrikeAwake$Parish", "hoursOffered", "(I)I"⟩, prog_6_method_14_code, 4, some FieldType.int, 1, 1),
  (0, ⟨"StrikeAwake", "quiet", "(I)I"⟩, prog_1_method_40_code, 2, some FieldType.int, 1, 1),
  (0, ⟨"StrikeAwake", "strike", "(II)I"⟩, prog_1_method_41_code, 3, some FieldType.int, 2, 1),
  (0, ⟨"StrikeAwake", "still", "(I)Z"⟩, prog_1_method_42_code, 2, some FieldType.boolean, 1, 1),
  (0, ⟨"StrikeAwake", "struck", "(I)I"⟩, prog_1_method_43_code, 2, some FieldType.int, 1, 1),
  (0, ⟨"StrikeAwake", "seek", "()I"⟩, prog_1_method_44_code, 3, some FieldType.int, 0, 1),
  (0, ⟨"StrikeAwake", "lot", "(II)I"⟩, prog_1_method_45_code, 4, some FieldType.int, 2, 1),
  (0, ⟨"StrikeAwake", "again", "()Z"⟩, prog_1_method_46_code, 1, some FieldType.boolean, 0, 1),
  (0, ⟨"StrikeAwake", "image", "()J"⟩, prog_1_method_47_code, 1, some FieldType.long, 0, 1),
  (7, ⟨"StrikeAwake$Parish", "picture", "()J"⟩, prog_6_method_15_code, 4, some FieldType.long, 0, 1)]
def mc_mi_4 : List ((Nat × Nat) × (Nat × Nat) × (Nat × Nat) × (Nat × Nat)) := [((5, 78), (5, 77), (0, 43), (1, 6)), ((5, 82), (5, 80), (5, 81), (1, 1)), ((5, 86), (5, 84), (5, 85), (1, 6)), ((5, 91), (5, 89), (5, 90), (1, 1)), ((5, 95), (5, 94), (0, 44), (1, 1)), ((5, 99), (5, 97), (5, 98), (1, 5)), ((5, 103), (5, 101), (5, 102), (1, 1)), ((5, 107), (5, 105), (5, 106), (1, 7)), ((5, 117), (5, 115), (5, 116), (1, 1)), ((5, 122), (5, 120), (5, 121), (1, 7)), ((5, 126), (5, 125), (0, 45), (1, 7)), ((5, 129), (5, 128), (0, 0), (1, 7)), ((5, 135), (5, 134), (0, 46), (1, 7)), ((5, 139), (5, 138), (0, 47), (1, 7)), ((5, 142), (5, 141), (0, 0), (1, 7)), ((5, 147), (5, 146), (0, 48), (1, 7)), ((5, 151), (5, 150), (0, 49), (1, 7)), ((5, 155), (5, 153), (5, 154), (1, 1)), ((5, 159), (5, 157), (5, 158), (1, 1)), ((5, 165), (5, 163), (5, 164), (1, 4)), ((5, 171), (5, 169), (5, 170), (1, 1)), ((5, 175), (5, 173), (5, 174), (1, 8)), ((5, 180), (5, 179), (0, 50), (1, 8)), ((5, 185), (5, 183), (5, 184), (1, 1)), ((5, 190), (5, 188), (5, 189), (1, 1)), ((5, 195), (5, 193), (5, 194), (1, 1)), ((5, 199), (5, 197), (5, 198), (1, 1)), ((5, 203), (5, 201), (5, 202), (1, 1)), ((5, 208), (5, 206), (5, 207), (1, 1)), ((5, 212), (5, 210), (5, 211), (1, 1)), ((5, 216), (5, 214), (5, 215), (1, 1)), ((5, 220), (5, 218), (5, 219), (1, 8))]
def mc_mt_5 : List (Nat × MethodName × ByteArray × Nat × Option FieldType × Nat × Nat) := [
  (0, ⟨"StrikeAwake", "restore", "(J)Z"⟩, prog_1_method_48_code, 3, some FieldType.boolean, 1, 1),
  (7, ⟨"StrikeAwake$Parish", "isPicture", "(J)Z"⟩, prog_6_method_16_code, 8, some FieldType.boolean, 1, 1),
  (7, ⟨"StrikeAwake$Parish", "takePicture", "(J)V"⟩, prog_6_method_17_code, 6, none, 1, 1),
  (0, ⟨"StrikeAwake", "size", "(I)I"⟩, prog_1_method_50_code, 2, some FieldType.int, 1, 1),
  (0, ⟨"StrikeAwake", "trouble", "()I"⟩, prog_1_method_51_code, 1, some FieldType.int, 0, 1),
  (0, ⟨"StrikeAwake", "led", "(I)I"⟩, prog_1_method_49_code, 4, some FieldType.int, 1, 1),
  (9, ⟨"StrikeAwakeModel", "<init>", "()V"⟩, prog_13_method_1_code, 1, none, 0, 2),
  (9, ⟨"StrikeAwakeModel", "thrown", "()I"⟩, prog_13_method_2_code, 1, some FieldType.int, 0, 1),
  (9, ⟨"StrikeAwakeModel", "feed", "(IIIII)I"⟩, prog_13_method_43_code, 8, some FieldType.int, 5, 1),
  (9, ⟨"StrikeAwakeModel", "parish", "(I)I"⟩, prog_13_method_44_code, 3, some FieldType.int, 1, 1),
  (9, ⟨"StrikeAwakeModel", "refused", "(I)I"⟩, prog_13_method_3_code, 2, some FieldType.int, 1, 1),
  (10, ⟨"StrikeAwakeModel$Parish", "<init>", "()V"⟩, prog_14_method_1_code, 1, none, 0, 2),
  (9, ⟨"StrikeAwakeModel", "goesOn", "()V"⟩, prog_13_method_17_code, 3, none, 0, 1),
  (9, ⟨"StrikeAwakeModel", "byteAt", "(I)I"⟩, prog_13_method_13_code, 2, some FieldType.int, 1, 1),
  (9, ⟨"StrikeAwakeModel", "isLetter", "(I)Z"⟩, prog_13_method_14_code, 1, some FieldType.boolean, 1, 0),
  (9, ⟨"StrikeAwakeModel", "isDigit", "(I)Z"⟩, prog_13_method_15_code, 1, some FieldType.boolean, 1, 0),
  (9, ⟨"StrikeAwakeModel", "readParish", "()V"⟩, prog_13_method_31_code, 2, none, 0, 1),
  (9, ⟨"StrikeAwakeModel", "readLine", "()V"⟩, prog_13_method_32_code, 1, none, 0, 1),
  (9, ⟨"StrikeAwakeModel", "isWord", "(Ljava/lang/String;)Z"⟩, prog_13_method_19_code, 2, some FieldType.boolean, 1, 1),
  (9, ⟨"StrikeAwakeModel", "wordOf", "(Ljava/lang/String;)J"⟩, prog_13_method_16_code, 4, some FieldType.long, 1, 0),
  (9, ⟨"StrikeAwakeModel", "readLaw", "()V"⟩, prog_13_method_33_code, 2, none, 0, 1),
  (9, ⟨"StrikeAwakeModel", "wrong", "(I)V"⟩, prog_13_method_18_code, 2, none, 1, 1),
  (9, ⟨"StrikeAwakeModel", "readPart", "(Ljava/lang/String;II)I"⟩, prog_13_method_26_code, 4, some FieldType.int, 3, 1),
  (9, ⟨"StrikeAwakeModel", "needs", "(Ljava/lang/String;)V"⟩, prog_13_method_22_code, 2, none, 1, 1),
  (9, ⟨"StrikeAwakeModel", "readWhole", "(II)I"⟩, prog_13_method_25_code, 4, some FieldType.int, 2, 1),
  (9, ⟨"StrikeAwakeModel", "whole", "(II)I"⟩, prog_13_method_24_code, 3, some FieldType.int, 2, 1),
  (9, ⟨"StrikeAwakeModel", "in", "(III)Z"⟩, prog_13_method_9_code, 3, some FieldType.boolean, 3, 0),
  (9, ⟨"StrikeAwakeModel", "readPerson", "()V"⟩, prog_13_method_35_code, 13, none, 0, 1),
  (9, ⟨"StrikeAwakeModel", "begins", "(II)V"⟩, prog_13_method_28_code, 3, none, 2, 1),
  (9, ⟨"StrikeAwakeModel", "isName", "()Z"⟩, prog_13_method_27_code, 1, some FieldType.boolean, 0, 1),
  (10, ⟨"StrikeAwakeModel$Parish", "find", "(J)I"⟩, prog_14_method_2_code, 4, some FieldType.int, 1, 1),
  (9, ⟨"StrikeAwakeModel", "least", "(II)I"⟩, prog_13_method_34_code, 2, some FieldType.int, 2, 0)]
def mc_mi_5 : List ((Nat × Nat) × (Nat × Nat) × (Nat × Nat) × (Nat × Nat)) := [((5, 225), (5, 223), (5, 224), (1, 1)), ((5, 229), (5, 227), (5, 228), (1, 8)), ((5, 234), (5, 232), (5, 233), (1, 8)), ((5, 238), (5, 236), (5, 237), (1, 1)), ((6, 2), (6, 0), (6, 1), (1, 1)), ((6, 10), (6, 8), (6, 9), (1, 1)), ((6, 80), (6, 79), (0, 0), (1, 10)), ((6, 185), (6, 183), (6, 184), (1, 10)), ((6, 189), (6, 187), (6, 188), (1, 10)), ((6, 193), (6, 191), (6, 192), (1, 10)), ((6, 197), (6, 196), (0, 52), (1, 10)), ((6, 202), (6, 201), (0, 0), (1, 19)), ((7, 69), (7, 68), (0, 53), (1, 10)), ((7, 73), (7, 72), (0, 54), (1, 10)), ((7, 76), (7, 75), (0, 0), (1, 10)), ((7, 80), (7, 79), (0, 0), (1, 10)), ((7, 84), (7, 83), (0, 55), (1, 10)), ((7, 88), (7, 87), (0, 56), (1, 10)), ((7, 93), (7, 92), (0, 57), (1, 10)), ((7, 96), (7, 95), (0, 0), (1, 10)), ((7, 102), (7, 101), (0, 58), (1, 10)), ((7, 106), (7, 105), (0, 59), (1, 10)), ((7, 111), (7, 110), (0, 60), (1, 10)), ((7, 115), (7, 114), (0, 61), (1, 10)), ((7, 119), (7, 118), (0, 62), (1, 10)), ((7, 123), (7, 122), (0, 63), (1, 10)), ((7, 126), (7, 125), (0, 0), (1, 10)), ((7, 133), (7, 132), (0, 64), (1, 10)), ((7, 137), (7, 136), (0, 65), (1, 10)), ((7, 141), (7, 140), (0, 66), (1, 10)), ((7, 154), (7, 152), (7, 153), (1, 19)), ((7, 159), (7, 158), (0, 0), (1, 10))]
def mc_mt_6 : List (Nat × MethodName × ByteArray × Nat × Option FieldType × Nat × Nat) := [
  (9, ⟨"StrikeAwakeModel", "eatsWord", "(Ljava/lang/String;)Z"⟩, prog_13_method_20_code, 3, some FieldType.boolean, 1, 1),
  (9, ⟨"StrikeAwakeModel", "readSexton", "()V"⟩, prog_13_method_36_code, 2, none, 0, 1),
  (9, ⟨"StrikeAwakeModel", "readKnown", "()I"⟩, prog_13_method_30_code, 2, some FieldType.int, 0, 1),
  (9, ⟨"StrikeAwakeModel", "known", "()I"⟩, prog_13_method_29_code, 2, some FieldType.int, 0, 1),
  (9, ⟨"StrikeAwakeModel", "readApart", "()V"⟩, prog_13_method_37_code, 5, none, 0, 1),
  (9, ⟨"StrikeAwakeModel", "needsSign", "(I)V"⟩, prog_13_method_23_code, 2, none, 1, 1),
  (9, ⟨"StrikeAwakeModel", "readBorn", "()V"⟩, prog_13_method_38_code, 2, none, 0, 1),
  (9, ⟨"StrikeAwakeModel", "readStruck", "()V"⟩, prog_13_method_39_code, 3, none, 0, 1),
  (9, ⟨"StrikeAwakeModel", "readTold", "()V"⟩, prog_13_method_41_code, 2, none, 0, 1),
  (9, ⟨"StrikeAwakeModel", "readHours", "()I"⟩, prog_13_method_40_code, 2, some FieldType.int, 0, 1),
  (9, ⟨"StrikeAwakeModel", "hoursFrom", "(II)I"⟩, prog_13_method_12_code, 4, some FieldType.int, 2, 0),
  (9, ⟨"StrikeAwakeModel", "readOffer", "()V"⟩, prog_13_method_42_code, 2, none, 0, 1),
  (9, ⟨"StrikeAwakeModel", "eatsSign", "(I)Z"⟩, prog_13_method_21_code, 3, some FieldType.boolean, 1, 1),
  (9, ⟨"StrikeAwakeModel", "has", "(II)Z"⟩, prog_13_method_10_code, 2, some FieldType.boolean, 2, 0),
  (9, ⟨"StrikeAwakeModel", "lays", "()V"⟩, prog_13_method_48_code, 7, none, 0, 1),
  (9, ⟨"StrikeAwakeModel", "struckHours", "()I"⟩, prog_13_method_47_code, 3, some FieldType.int, 0, 1),
  (9, ⟨"StrikeAwakeModel", "lay", "(IIIII)V"⟩, prog_13_method_49_code, 7, none, 5, 1),
  (9, ⟨"StrikeAwakeModel", "done", "(I)I"⟩, prog_13_method_6_code, 2, some FieldType.int, 1, 1),
  (9, ⟨"StrikeAwakeModel", "fault", "()I"⟩, prog_13_method_45_code, 1, some FieldType.int, 0, 1),
  (9, ⟨"StrikeAwakeModel", "where", "()I"⟩, prog_13_method_46_code, 1, some FieldType.int, 0, 1),
  (9, ⟨"StrikeAwakeModel", "spans", "(I)I"⟩, prog_13_method_54_code, 2, some FieldType.int, 1, 1),
  (9, ⟨"StrikeAwakeModel", "isPerson", "(I)Z"⟩, prog_13_method_50_code, 2, some FieldType.boolean, 1, 1),
  (9, ⟨"StrikeAwakeModel", "span", "(III)I"⟩, prog_13_method_55_code, 4, some FieldType.int, 3, 1),
  (9, ⟨"StrikeAwakeModel", "isSpan", "(II)Z"⟩, prog_13_method_51_code, 3, some FieldType.boolean, 2, 1),
  (9, ⟨"StrikeAwakeModel", "weightOf", "(II)I"⟩, prog_13_method_53_code, 5, some FieldType.int, 2, 1),
  (9, ⟨"StrikeAwakeModel", "awake", "(III)I"⟩, prog_13_method_56_code, 4, some FieldType.int, 3, 1),
  (9, ⟨"StrikeAwakeModel", "isHour", "(I)Z"⟩, prog_13_method_52_code, 2, some FieldType.boolean, 1, 1),
  (9, ⟨"StrikeAwakeModel", "lots", "()J"⟩, prog_13_method_58_code, 1, some FieldType.long, 0, 1),
  (9, ⟨"StrikeAwakeModel", "lotsMany", "()J"⟩, prog_13_method_57_code, 4, some FieldType.long, 0, 1),
  (9, ⟨"StrikeAwakeModel", "doneLong", "(J)J"⟩, prog_13_method_7_code, 3, some FieldType.long, 1, 1),
  (9, ⟨"StrikeAwakeModel", "say", "(II)Z"⟩, prog_13_method_66_code, 3, some FieldType.boolean, 2, 1),
  (9, ⟨"StrikeAwakeModel", "denied", "(I)Z"⟩, prog_13_method_5_code, 2, some FieldType.boolean, 1, 1)]
def mc_mi_6 : List ((Nat × Nat) × (Nat × Nat) × (Nat × Nat) × (Nat × Nat)) := [((7, 164), (7, 163), (0, 67), (1, 10)), ((7, 168), (7, 167), (0, 68), (1, 10)), ((7, 172), (7, 171), (0, 69), (1, 10)), ((7, 176), (7, 175), (0, 70), (1, 10)), ((7, 180), (7, 179), (0, 71), (1, 10)), ((7, 184), (7, 183), (0, 72), (1, 10)), ((7, 188), (7, 187), (0, 73), (1, 10)), ((7, 192), (7, 191), (0, 74), (1, 10)), ((7, 197), (7, 196), (0, 75), (1, 10)), ((7, 201), (7, 200), (0, 76), (1, 10)), ((7, 204), (7, 203), (0, 0), (1, 10)), ((7, 208), (7, 207), (0, 77), (1, 10)), ((7, 212), (7, 211), (0, 78), (1, 10)), ((7, 215), (7, 214), (0, 0), (1, 10)), ((7, 219), (7, 218), (0, 79), (1, 10)), ((7, 223), (7, 222), (0, 80), (1, 10)), ((7, 227), (7, 226), (0, 81), (1, 10)), ((7, 231), (7, 230), (0, 82), (1, 10)), ((7, 235), (7, 233), (7, 234), (1, 10)), ((7, 239), (7, 237), (7, 238), (1, 10)), ((8, 3), (8, 1), (8, 2), (1, 10)), ((8, 7), (8, 6), (0, 83), (1, 10)), ((8, 11), (8, 9), (8, 10), (1, 10)), ((8, 15), (8, 14), (0, 84), (1, 10)), ((8, 19), (8, 18), (0, 85), (1, 10)), ((8, 23), (8, 21), (8, 22), (1, 10)), ((8, 27), (8, 26), (0, 86), (1, 10)), ((8, 31), (8, 29), (8, 30), (1, 10)), ((8, 35), (8, 34), (0, 87), (1, 10)), ((8, 39), (8, 38), (0, 88), (1, 10)), ((8, 43), (8, 41), (8, 42), (1, 10)), ((8, 47), (8, 46), (0, 89), (1, 10))]
def mc_mt_7 : List (Nat × MethodName × ByteArray × Nat × Option FieldType × Nat × Nat) := [
  (9, ⟨"StrikeAwakeModel", "granted", "()Z"⟩, prog_13_method_8_code, 1, some FieldType.boolean, 0, 1),
  (9, ⟨"StrikeAwakeModel", "said", "(I)I"⟩, prog_13_method_67_code, 2, some FieldType.int, 1, 1),
  (9, ⟨"StrikeAwakeModel", "strikes", "(I)I"⟩, prog_13_method_68_code, 2, some FieldType.int, 1, 1),
  (9, ⟨"StrikeAwakeModel", "isEmpty", "()Z"⟩, prog_13_method_65_code, 1, some FieldType.boolean, 0, 1),
  (9, ⟨"StrikeAwakeModel", "strikesIn", "([II)I"⟩, prog_13_method_60_code, 5, some FieldType.int, 2, 1),
  (9, ⟨"StrikeAwakeModel", "born", "(I)I"⟩, prog_13_method_59_code, 4, some FieldType.int, 1, 1),
  (9, ⟨"StrikeAwakeModel", "judge", "()I"⟩, prog_13_method_72_code, 2, some FieldType.int, 0, 1),
  (9, ⟨"StrikeAwakeModel", "refusesSaid", "()I"⟩, prog_13_method_71_code, 1, some FieldType.int, 0, 1),
  (9, ⟨"StrikeAwakeModel", "firstWrong", "()I"⟩, prog_13_method_70_code, 2, some FieldType.int, 0, 1),
  (9, ⟨"StrikeAwakeModel", "wrongIn", "(I)I"⟩, prog_13_method_69_code, 2, some FieldType.int, 1, 1),
  (9, ⟨"StrikeAwakeModel", "offIn", "([II)I"⟩, prog_13_method_61_code, 4, some FieldType.int, 2, 1),
  (9, ⟨"StrikeAwakeModel", "bothAsleep", "([I)I"⟩, prog_13_method_62_code, 4, some FieldType.int, 1, 1),
  (9, ⟨"StrikeAwakeModel", "why", "()I"⟩, prog_13_method_73_code, 3, some FieldType.int, 0, 1),
  (9, ⟨"StrikeAwakeModel", "agrees", "()I"⟩, prog_13_method_74_code, 2, some FieldType.int, 0, 1),
  (9, ⟨"StrikeAwakeModel", "isWorld", "([I)Z"⟩, prog_13_method_64_code, 2, some FieldType.boolean, 1, 1),
  (9, ⟨"StrikeAwakeModel", "barredAt", "([II)I"⟩, prog_13_method_63_code, 6, some FieldType.int, 2, 1),
  (9, ⟨"StrikeAwakeModel", "worlds", "()I"⟩, prog_13_method_80_code, 2, some FieldType.int, 0, 1),
  (9, ⟨"StrikeAwakeModel", "refusesWorlds", "(Z)I"⟩, prog_13_method_77_code, 2, some FieldType.int, 1, 1),
  (9, ⟨"StrikeAwakeModel", "knows", "()V"⟩, prog_13_method_76_code, 2, none, 0, 1),
  (9, ⟨"StrikeAwakeModel", "takes", "(I)V"⟩, prog_13_method_75_code, 4, none, 1, 1),
  (9, ⟨"StrikeAwakeModel", "can", "()I"⟩, prog_13_method_81_code, 2, some FieldType.int, 0, 1),
  (9, ⟨"StrikeAwakeModel", "world", "(II)I"⟩, prog_13_method_82_code, 4, some FieldType.int, 2, 1),
  (9, ⟨"StrikeAwakeModel", "weights", "()J"⟩, prog_13_method_84_code, 2, some FieldType.long, 0, 1),
  (9, ⟨"StrikeAwakeModel", "weighs", "(II)J"⟩, prog_13_method_83_code, 6, some FieldType.long, 2, 1),
  (9, ⟨"StrikeAwakeModel", "lotWeight", "()J"⟩, prog_13_method_79_code, 4, some FieldType.long, 0, 1),
  (9, ⟨"StrikeAwakeModel", "having", "(II)I"⟩, prog_13_method_85_code, 6, some FieldType.int, 2, 1),
  (9, ⟨"StrikeAwakeModel", "times", "(II)I"⟩, prog_13_method_87_code, 4, some FieldType.int, 2, 1),
  (9, ⟨"StrikeAwakeModel", "awakeIn", "(II)I"⟩, prog_13_method_86_code, 5, some FieldType.int, 2, 1),
  (9, ⟨"StrikeAwakeModel", "sure", "(II)I"⟩, prog_13_method_88_code, 5, some FieldType.int, 2, 1),
  (9, ⟨"StrikeAwakeModel", "refusesSome", "(Z)I"⟩, prog_13_method_78_code, 3, some FieldType.int, 1, 1),
  (9, ⟨"StrikeAwakeModel", "surely", "(IZ)I"⟩, prog_13_method_89_code, 6, some FieldType.int, 2, 1),
  (9, ⟨"StrikeAwakeModel", "chance", "(II)I"⟩, prog_13_method_90_code, 4, some FieldType.int, 2, 1)]
def mc_mi_7 : List ((Nat × Nat) × (Nat × Nat) × (Nat × Nat) × (Nat × Nat)) := [((8, 51), (8, 50), (0, 90), (1, 10)), ((8, 55), (8, 53), (8, 54), (1, 10)), ((8, 59), (8, 57), (8, 58), (1, 10)), ((8, 63), (8, 62), (0, 91), (1, 10)), ((8, 67), (8, 66), (0, 92), (1, 10)), ((8, 71), (8, 70), (0, 93), (1, 10)), ((8, 75), (8, 73), (8, 74), (1, 10)), ((8, 79), (8, 78), (0, 94), (1, 10)), ((8, 83), (8, 82), (0, 95), (1, 10)), ((8, 87), (8, 86), (0, 96), (1, 10)), ((8, 91), (8, 90), (0, 97), (1, 10)), ((8, 95), (8, 94), (0, 98), (1, 10)), ((8, 99), (8, 97), (8, 98), (1, 10)), ((8, 103), (8, 101), (8, 102), (1, 10)), ((8, 107), (8, 106), (0, 99), (1, 10)), ((8, 111), (8, 110), (0, 100), (1, 10)), ((8, 115), (8, 113), (8, 114), (1, 10)), ((8, 119), (8, 118), (0, 101), (1, 10)), ((8, 124), (8, 123), (0, 102), (1, 10)), ((8, 128), (8, 127), (0, 103), (1, 10)), ((8, 132), (8, 130), (8, 131), (1, 10)), ((8, 136), (8, 134), (8, 135), (1, 10)), ((8, 140), (8, 138), (8, 139), (1, 10)), ((8, 144), (8, 143), (0, 104), (1, 10)), ((8, 148), (8, 147), (0, 105), (1, 10)), ((8, 152), (8, 150), (8, 151), (1, 10)), ((8, 156), (8, 154), (8, 155), (1, 10)), ((8, 160), (8, 159), (0, 106), (1, 10)), ((8, 164), (8, 162), (8, 163), (1, 10)), ((8, 168), (8, 167), (0, 107), (1, 10)), ((8, 172), (8, 170), (8, 171), (1, 10)), ((8, 176), (8, 174), (8, 175), (1, 10))]
def mc_mt_8 : List (Nat × MethodName × ByteArray × Nat × Option FieldType × Nat × Nat) := [
  (9, ⟨"StrikeAwakeModel", "likeliest", "(I)I"⟩, prog_13_method_92_code, 3, some FieldType.int, 1, 1),
  (9, ⟨"StrikeAwakeModel", "findLikeliest", "()J"⟩, prog_13_method_91_code, 5, some FieldType.long, 0, 1),
  (9, ⟨"StrikeAwakeModel", "greatest", "()J"⟩, prog_13_method_93_code, 2, some FieldType.long, 0, 1),
  (9, ⟨"StrikeAwakeModel", "together", "(II)I"⟩, prog_13_method_94_code, 6, some FieldType.int, 2, 1),
  (9, ⟨"StrikeAwakeModel", "possible", "(I)J"⟩, prog_13_method_95_code, 6, some FieldType.long, 1, 1),
  (9, ⟨"StrikeAwakeModel", "hiding", "(II)I"⟩, prog_13_method_96_code, 6, some FieldType.int, 2, 1),
  (9, ⟨"StrikeAwakeModel", "awakeSet", "([II)I"⟩, prog_13_method_100_code, 5, some FieldType.int, 2, 1),
  (9, ⟨"StrikeAwakeModel", "bed", "(IZ)I"⟩, prog_13_method_98_code, 4, some FieldType.int, 2, 1),
  (9, ⟨"StrikeAwakeModel", "extreme", "(I[IZ)I"⟩, prog_13_method_97_code, 7, some FieldType.int, 3, 1),
  (9, ⟨"StrikeAwakeModel", "sleeps", "(IZ)I"⟩, prog_13_method_99_code, 4, some FieldType.int, 2, 1),
  (9, ⟨"StrikeAwakeModel", "ask", "()I"⟩, prog_13_method_104_code, 2, some FieldType.int, 0, 1),
  (9, ⟨"StrikeAwakeModel", "refusesAsking", "(Z)I"⟩, prog_13_method_103_code, 3, some FieldType.int, 1, 1),
  (9, ⟨"StrikeAwakeModel", "asked", "(I)I"⟩, prog_13_method_102_code, 4, some FieldType.int, 1, 1),
  (9, ⟨"StrikeAwakeModel", "bits", "(I)I"⟩, prog_13_method_11_code, 3, some FieldType.int, 1, 0),
  (9, ⟨"StrikeAwakeModel", "tells", "(II)Z"⟩, prog_13_method_101_code, 7, some FieldType.boolean, 2, 1),
  (9, ⟨"StrikeAwakeModel", "askFor", "(I)I"⟩, prog_13_method_105_code, 3, some FieldType.int, 1, 1),
  (9, ⟨"StrikeAwakeModel", "lie", "(I)I"⟩, prog_13_method_108_code, 3, some FieldType.int, 1, 1),
  (9, ⟨"StrikeAwakeModel", "isTold", "(I)Z"⟩, prog_13_method_106_code, 2, some FieldType.boolean, 1, 1),
  (9, ⟨"StrikeAwakeModel", "barsOf", "(I)I"⟩, prog_13_method_107_code, 7, some FieldType.int, 1, 1),
  (9, ⟨"StrikeAwakeModel", "bars", "(I)I"⟩, prog_13_method_109_code, 4, some FieldType.int, 1, 1),
  (9, ⟨"StrikeAwakeModel", "proof", "()I"⟩, prog_13_method_111_code, 5, some FieldType.int, 0, 1),
  (9, ⟨"StrikeAwakeModel", "leastProof", "(II)I"⟩, prog_13_method_112_code, 6, some FieldType.int, 2, 1),
  (9, ⟨"StrikeAwakeModel", "proves", "(I)Z"⟩, prog_13_method_110_code, 3, some FieldType.boolean, 1, 1),
  (9, ⟨"StrikeAwakeModel", "part", "(IZ)I"⟩, prog_13_method_114_code, 7, some FieldType.int, 2, 1),
  (9, ⟨"StrikeAwakeModel", "isStruck", "(I)Z"⟩, prog_13_method_113_code, 2, some FieldType.boolean, 1, 1),
  (9, ⟨"StrikeAwakeModel", "lost", "(I)I"⟩, prog_13_method_4_code, 2, some FieldType.int, 1, 1),
  (9, ⟨"StrikeAwakeModel", "nothing", "()I"⟩, prog_13_method_115_code, 5, some FieldType.int, 0, 1),
  (9, ⟨"StrikeAwakeModel", "keep", "()I"⟩, prog_13_method_116_code, 5, some FieldType.int, 0, 1),
  (9, ⟨"StrikeAwakeModel", "quiet", "(I)I"⟩, prog_13_method_117_code, 4, some FieldType.int, 1, 1),
  (9, ⟨"StrikeAwakeModel", "strike", "(II)I"⟩, prog_13_method_118_code, 3, some FieldType.int, 2, 1),
  (9, ⟨"StrikeAwakeModel", "still", "(I)Z"⟩, prog_13_method_119_code, 2, some FieldType.boolean, 1, 1),
  (9, ⟨"StrikeAwakeModel", "struck", "(I)I"⟩, prog_13_method_120_code, 2, some FieldType.int, 1, 1)]
def mc_mi_8 : List ((Nat × Nat) × (Nat × Nat) × (Nat × Nat) × (Nat × Nat)) := [((8, 181), (8, 179), (8, 180), (1, 10)), ((8, 185), (8, 184), (0, 108), (1, 10)), ((8, 189), (8, 187), (8, 188), (1, 10)), ((8, 193), (8, 191), (8, 192), (1, 10)), ((8, 197), (8, 195), (8, 196), (1, 10)), ((8, 201), (8, 199), (8, 200), (1, 10)), ((8, 205), (8, 204), (0, 109), (1, 10)), ((8, 209), (8, 207), (8, 208), (1, 10)), ((8, 213), (8, 212), (0, 110), (1, 10)), ((8, 217), (8, 215), (8, 216), (1, 10)), ((8, 221), (8, 219), (8, 220), (1, 10)), ((8, 225), (8, 224), (0, 111), (1, 10)), ((8, 229), (8, 228), (0, 112), (1, 10)), ((8, 232), (8, 231), (0, 0), (1, 10)), ((8, 236), (8, 235), (0, 113), (1, 10)), ((9, 0), (8, 238), (8, 239), (1, 10)), ((9, 4), (9, 2), (9, 3), (1, 10)), ((9, 8), (9, 7), (0, 114), (1, 10)), ((9, 12), (9, 11), (0, 115), (1, 10)), ((9, 16), (9, 14), (9, 15), (1, 10)), ((9, 20), (9, 18), (9, 19), (1, 10)), ((9, 25), (9, 24), (0, 116), (1, 10)), ((9, 29), (9, 28), (0, 117), (1, 10)), ((9, 33), (9, 31), (9, 32), (1, 10)), ((9, 37), (9, 36), (0, 118), (1, 10)), ((9, 41), (9, 40), (0, 119), (1, 10)), ((9, 45), (9, 43), (9, 44), (1, 10)), ((9, 49), (9, 47), (9, 48), (1, 10)), ((9, 53), (9, 51), (9, 52), (1, 10)), ((9, 57), (9, 55), (9, 56), (1, 10)), ((9, 61), (9, 59), (9, 60), (1, 10)), ((9, 65), (9, 63), (9, 64), (1, 10))]
def mc_mt_9 : List (Nat × MethodName × ByteArray × Nat × Option FieldType × Nat × Nat) := [
  (9, ⟨"StrikeAwakeModel", "seek", "()I"⟩, prog_13_method_121_code, 3, some FieldType.int, 0, 1),
  (9, ⟨"StrikeAwakeModel", "lot", "(II)I"⟩, prog_13_method_122_code, 3, some FieldType.int, 2, 1),
  (9, ⟨"StrikeAwakeModel", "again", "()Z"⟩, prog_13_method_123_code, 1, some FieldType.boolean, 0, 1),
  (9, ⟨"StrikeAwakeModel", "image", "()J"⟩, prog_13_method_124_code, 4, some FieldType.long, 0, 1),
  (9, ⟨"StrikeAwakeModel", "restore", "(J)Z"⟩, prog_13_method_125_code, 7, some FieldType.boolean, 1, 1),
  (9, ⟨"StrikeAwakeModel", "led", "(I)I"⟩, prog_13_method_126_code, 4, some FieldType.int, 1, 1),
  (9, ⟨"StrikeAwakeModel", "size", "(I)I"⟩, prog_13_method_127_code, 2, some FieldType.int, 1, 1),
  (9, ⟨"StrikeAwakeModel", "trouble", "()I"⟩, prog_13_method_128_code, 1, some FieldType.int, 0, 1)]
def mc_mi_9 : List ((Nat × Nat) × (Nat × Nat) × (Nat × Nat) × (Nat × Nat)) := [((9, 69), (9, 67), (9, 68), (1, 10)), ((9, 73), (9, 71), (9, 72), (1, 10)), ((9, 77), (9, 75), (9, 76), (1, 10)), ((9, 81), (9, 79), (9, 80), (1, 10)), ((9, 86), (9, 84), (9, 85), (1, 10)), ((9, 90), (9, 88), (9, 89), (1, 10)), ((9, 94), (9, 92), (9, 93), (1, 10)), ((9, 98), (9, 96), (9, 97), (1, 10))]
def mc_mt (k : Nat) : Option (Nat × MethodName × ByteArray × Nat × Option FieldType × Nat × Nat) := match k / 32 with
  | 0 => mc_mt_0[k % 32]?
  | 1 => mc_mt_1[k % 32]?
  | 2 => mc_mt_2[k % 32]?
  | 3 => mc_mt_3[k % 32]?
  | 4 => mc_mt_4[k % 32]?
  | 5 => mc_mt_5[k % 32]?
  | 6 => mc_mt_6[k % 32]?
  | 7 => mc_mt_7[k % 32]?
  | 8 => mc_mt_8[k % 32]?
  | 9 => mc_mt_9[k % 32]?
  | _ => none
def mc_mi (k : Nat) : Option ((Nat × Nat) × (Nat × Nat) × (Nat × Nat) × (Nat × Nat)) := match k / 32 with
  | 0 => mc_mi_0[k % 32]?
  | 1 => mc_mi_1[k % 32]?
  | 2 => mc_mi_2[k % 32]?
  | 3 => mc_mi_3[k % 32]?
  | 4 => mc_mi_4[k % 32]?
  | 5 => mc_mi_5[k % 32]?
  | 6 => mc_mi_6[k % 32]?
  | 7 => mc_mi_7[k % 32]?
  | 8 => mc_mi_8[k % 32]?
  | 9 => mc_mi_9[k % 32]?
  | _ => none
def mc_nm : Nat := 296
/-- what a field's word names: class, name, descriptor -/
def mc_fr (ci k : Nat) : String × String × String := if ci < 11 then ((mc_T ci k).1, (mc_T ci k).2.1, (mc_T ci k).2.2.1) else (mc_kf ci).getD k ("", "", "")
def mc_fw (own : Nat) (e : Nat × Nat × Nat × Bool × String × Nat × Nat) : Cond := if e.2.2.2.1 then .fieldLinkNest (mc_cn own) e.1 (mc_fr e.2.1 e.2.2.1).1 (mc_fr e.2.1 e.2.2.1).2.1 (mc_fr e.2.1 e.2.2.1).2.2 e.2.2.2.2.1 else .fieldLink (mc_cn own) e.1 (mc_fr e.2.1 e.2.2.1).1 (mc_fr e.2.1 e.2.2.1).2.1 (mc_fr e.2.1 e.2.2.1).2.2
def mc_yn (k : Nat) : MethodName := match mc_mt k with
  | some x => x.2.1
  | none => ⟨"", "", ""⟩
def mc_mw (own : Nat) (e : Nat × Nat × Bool × String × Nat × Nat) : Cond := if e.2.2.1 then .methodLinkNest (mc_cn own) e.1 (mc_yn e.2.1) e.2.2.2.1 else .methodLink (mc_cn own) e.1 (mc_yn e.2.1)
def mc_sw (own : Nat) (e : Nat × Nat × Bool × String × Nat × Nat) : Cond := match mc_st[e.2.1]? with
  | some q => if e.2.2.1 then .fieldLinkNest (mc_cn own) e.1 q.1 q.2.1 q.2.2.1 e.2.2.2.1 else .fieldLink (mc_cn own) e.1 q.1 q.2.1 q.2.2.1
  | none => .tt
def mc_tb (i : Nat × Nat) (w : Cond) (nest : Bool) : Bool := decide ((mc_ch i.1)[i.2]? = some w) && (nest || goodWord w)
theorem mc_fl_ok : mc_each mc_fl (fun own e => mc_tb e.2.2.2.2.2 (mc_fw own e) e.2.2.2.1) = true := by decide +kernel
theorem mc_ml_ok : mc_each mc_ml (fun own e => mc_tb e.2.2.2.2 (mc_mw own e) e.2.2.1) = true := by decide +kernel
theorem mc_sl_ok : mc_each mc_sl (fun own e => mc_tb e.2.2.2.2 (mc_sw own e) e.2.2.1) = true := by decide +kernel
theorem mc_ol_ok : mc_each mc_ol (fun own e => mc_at e.2 (.methodLink (mc_cn own) e.1 Lib.objectInit)) = true := by decide +kernel
def mc_jn (k : Nat) : MethodName := if k = 0 then Lib.Math.min.name else if k = 1 then Lib.Math.max.name else Lib.Math.abs.name
theorem mc_jl_ok : mc_each mc_jl (fun own e => mc_at e.2.2 (.methodLink (mc_cn own) e.1 (mc_jn e.2.1))) = true := by decide +kernel
theorem mc_kl_ok : mc_each mc_kl (fun own e => mc_at e.2.2 (.classLink (mc_cn own) e.1 (mc_cn e.2.1))) = true := by decide +kernel
def mc_cw (own : Nat) (e : Nat × Value × Nat × Nat) : Cond := match e.2.1 with
  | .int v => .constant (mc_cn own) e.1 v
  | .long v => .constantLong (mc_cn own) e.1 v
  | _ => .tt
theorem mc_cs_ok : mc_each mc_cs (fun own e => mc_at e.2.2 (mc_cw own e)) = true := by decide +kernel
theorem mc_sr_ok : mc_sr.all (fun e => decide ((mc_ch e.2.2.2.2.1)[e.2.2.2.2.2]? = some (.stringRef (mc_cn e.1) e.2.1 e.2.2.1)) && decide (e.2.2.2.1 < 256)) = true := by decide +kernel
/-- a class's fields: their words, their names apart, their types -/
def mc_ck (ci : Nat) : Bool := (List.range (mc_N.getD ci 0)).all (fun k => mc_at ((mc_li.getD ci []).getD k (0, 0)) (u_lay (mc_cn ci) (mc_T ci) k) && decide (parseFieldDescriptor (mc_T ci k).2.2.1 = some (mc_t ci k)) && (List.range (mc_N.getD ci 0)).all (fun j => decide (k = j) || decide ((mc_T ci k).2.1 ≠ (mc_T ci j).2.1)))
  && mc_at (mc_ii.getD ci ((0, 0), (0, 0))).1 (.instantiable (mc_cn ci) (mc_N.getD ci 0)) && mc_at (mc_ii.getD ci ((0, 0), (0, 0))).2 (.initialized (mc_cn ci))
theorem mc_ck_ok : (List.range 11).all mc_ck = true := by decide +kernel
/-- a method's words -/
def mc_mk (k : Nat) : Bool := match mc_mt k, mc_mi k with
  | some (own, y, b, n, r, np, sort), some (i1, i2, i3, i4) => mc_at i2 (if sort = 0 then .static y else .instanceMethod y) && (decide (sort ≠ 1) || mc_at i3 (.selects (mc_cn own) y y)) && mc_at i4 (.initialized (mc_cn own)) && decide (y.cls = mc_cn own) && decide (sort ≠ 2 ∨ y.name = "<init>") && plainName y.cls && decide (y.cls ≠ "java/lang/invoke/MethodHandle") && decide (y.cls ≠ "java/lang/invoke/VarHandle") && decide ((parseMethodDescriptor y.desc).map (fun d => d.parameters.length) = some np) && decide (n ≤ 13)
  | _, _ => false
theorem mc_ac_int : mc_at (1, 115) (.arrayClass .int) = true := by decide +kernel
theorem mc_ac_long : mc_at (1, 116) (.arrayClass .long) = true := by decide +kernel
theorem mc_ac_byte : mc_at (1, 71) (.arrayClass .byte) = true := by decide +kernel
theorem mc_ac_boolean : mc_at (7, 65) (.arrayClass .boolean) = true := by decide +kernel
theorem mc_ao_P : mc_tb (1, 210) (.arrayOver (.object "StrikeAwake$Person")) true = true := by decide +kernel
theorem mc_ao_I : mc_tb (1, 124) (.arrayOver (.array .int)) true = true := by decide +kernel
theorem mc_ao_J : mc_tb (1, 126) (.arrayOver (.array .long)) true = true := by decide +kernel
set_option maxRecDepth 20000 in
theorem mc_cw_0 : mc_mi_0.map (fun i => (mc_ch i.1.1)[i.1.2]?) = mc_mt_0.map (fun q => some (Cond.code q.2.1 q.2.2.1 q.2.2.2.1 q.2.2.2.2.1)) := rfl
set_option maxRecDepth 20000 in
theorem mc_cw_1 : mc_mi_1.map (fun i => (mc_ch i.1.1)[i.1.2]?) = mc_mt_1.map (fun q => some (Cond.code q.2.1 q.2.2.1 q.2.2.2.1 q.2.2.2.2.1)) := rfl
set_option maxRecDepth 20000 in
theorem mc_cw_2 : mc_mi_2.map (fun i => (mc_ch i.1.1)[i.1.2]?) = mc_mt_2.map (fun q => some (Cond.code q.2.1 q.2.2.1 q.2.2.2.1 q.2.2.2.2.1)) := rfl
set_option maxRecDepth 20000 in
theorem mc_cw_3 : mc_mi_3.map (fun i => (mc_ch i.1.1)[i.1.2]?) = mc_mt_3.map (fun q => some (Cond.code q.2.1 q.2.2.1 q.2.2.2.1 q.2.2.2.2.1)) := rfl
set_option maxRecDepth 20000 in
theorem mc_cw_4 : mc_mi_4.map (fun i => (mc_ch i.1.1)[i.1.2]?) = mc_mt_4.map (fun q => some (Cond.code q.2.1 q.2.2.1 q.2.2.2.1 q.2.2.2.2.1)) := rfl
set_option maxRecDepth 20000 in
theorem mc_cw_5 : mc_mi_5.map (fun i => (mc_ch i.1.1)[i.1.2]?) = mc_mt_5.map (fun q => some (Cond.code q.2.1 q.2.2.1 q.2.2.2.1 q.2.2.2.2.1)) := rfl
set_option maxRecDepth 20000 in
theorem mc_cw_6 : mc_mi_6.map (fun i => (mc_ch i.1.1)[i.1.2]?) = mc_mt_6.map (fun q => some (Cond.code q.2.1 q.2.2.1 q.2.2.2.1 q.2.2.2.2.1)) := rfl
set_option maxRecDepth 20000 in
theorem mc_cw_7 : mc_mi_7.map (fun i => (mc_ch i.1.1)[i.1.2]?) = mc_mt_7.map (fun q => some (Cond.code q.2.1 q.2.2.1 q.2.2.2.1 q.2.2.2.2.1)) := rfl
set_option maxRecDepth 20000 in
theorem mc_cw_8 : mc_mi_8.map (fun i => (mc_ch i.1.1)[i.1.2]?) = mc_mt_8.map (fun q => some (Cond.code q.2.1 q.2.2.1 q.2.2.2.1 q.2.2.2.2.1)) := rfl
set_option maxRecDepth 20000 in
theorem mc_cw_9 : mc_mi_9.map (fun i => (mc_ch i.1.1)[i.1.2]?) = mc_mt_9.map (fun q => some (Cond.code q.2.1 q.2.2.1 q.2.2.2.1 q.2.2.2.2.1)) := rfl
theorem mc_mk_0 : (List.range 32).all (fun j => mc_mk (0 + j)) = true := by decide +kernel
theorem mc_mk_1 : (List.range 32).all (fun j => mc_mk (32 + j)) = true := by decide +kernel
theorem mc_mk_2 : (List.range 32).all (fun j => mc_mk (64 + j)) = true := by decide +kernel
theorem mc_mk_3 : (List.range 32).all (fun j => mc_mk (96 + j)) = true := by decide +kernel
theorem mc_mk_4 : (List.range 32).all (fun j => mc_mk (128 + j)) = true := by decide +kernel
theorem mc_mk_5 : (List.range 32).all (fun j => mc_mk (160 + j)) = true := by decide +kernel
theorem mc_mk_6 : (List.range 32).all (fun j => mc_mk (192 + j)) = true := by decide +kernel
theorem mc_mk_7 : (List.range 32).all (fun j => mc_mk (224 + j)) = true := by decide +kernel
theorem mc_mk_8 : (List.range 32).all (fun j => mc_mk (256 + j)) = true := by decide +kernel
theorem mc_mk_9 : (List.range 8).all (fun j => mc_mk (288 + j)) = true := by decide +kernel
end
section
/-! THE MINI MACHINE (own work, wip/gen/mini.py): it runs the bytecode as 'decode' reads it, over a list of cells; a reference k below 256 is a constant (an object from before), k from 256 on is the list's cell k - 256.
A cell: an array (sort, length, elements) or an object (class by its place in mc_cl, fields). A state: place, locals, stack, cells. -/
abbrev mc_E : Type := (Nat × Nat × (Nat → Value)) ⊕ (Nat × List Value)
abbrev mc_M : Type := List mc_E
abbrev mc_S : Type := Nat × List (Nat × Value) × List Value × mc_M
abbrev mc_R : Type := Option Value × mc_M
abbrev mc_O : Type := Option (mc_S ⊕ mc_R)
/-- what an array's sort holds -/
def mc_ty (t : Nat) : FieldType := match t with
  | 0 => .int
  | 1 => .long
  | 2 => .byte
  | 3 => .boolean
  | 4 => .object "StrikeAwake$Person"
  | 5 => .array .int
  | 6 => .array .long
  | _ => .object "StrikeAwake$Reserved"
def mc_find {α : Type} : List (Nat × α) → Nat → Option α
  | [], _ => none
  | q :: r, i => if q.1 = i then some q.2 else mc_find r i
theorem mc_find_mem {α : Type} : ∀ {l : List (Nat × α)} {i : Nat} {a : α}, mc_find l i = some a → (i, a) ∈ l
  | [], _, _, h => by cases h
  | q :: r, i, a, h => by
    unfold mc_find at h
    split at h
    · next e =>
      cases h
      subst e
      exact List.mem_cons_self
    · exact List.mem_cons_of_mem _ (mc_find_mem h)
def mc_s1 (L : List (Nat × Value)) (i : Nat) (v : Value) : List (Nat × Value) := (i, v) :: L.filter (fun q => !(q.1 == i) && !(q.1 + 1 == i && q.2.category == 2))
def mc_s2 (L : List (Nat × Value)) (i : Nat) (v : Value) : List (Nat × Value) := (i, v) :: L.filter (fun q => !(q.1 == i) && (!(q.1 == i + 1) && !(q.1 + 1 == i && q.2.category == 2)))
def mc_in (i : Int32) (n : Nat) : Bool := decide (¬ (i < 0 ∨ n ≤ i.toNatClampNeg))
def mc_isI (v : Value) : Bool := match v with
  | .int _ => true
  | _ => false
def mc_isL (v : Value) : Bool := match v with
  | .long _ => true
  | _ => false
def mc_isA (v : Value) : Bool := match v with
  | .ref _ => true
  | .null => true
  | _ => false
/-- may it stand in a field of this type -/
def mc_fit (ty : FieldType) (v : Value) : Bool := match ty, v with
  | .int, .int _ => true
  | .long, .long _ => true
  | .boolean, .int x => x == 0 || x == 1
  | .object _, .ref _ => true
  | .object _, .null => true
  | .array _, .ref _ => true
  | .array _, .null => true
  | _, _ => false
def mc_go (pc : Nat) (L : List (Nat × Value)) (st : List Value) (M : mc_M) : mc_O := some (.inl (pc, L, st, M))
def mc_jp (pc : Nat) (off : Int) (L : List (Nat × Value)) (st : List Value) (M : mc_M) : mc_O := if 0 ≤ (pc : Int) + off then mc_go ((pc : Int) + off).toNat L st M else none
def mc_br (b : Bool) (pc : Nat) (off : Int) (L : List (Nat × Value)) (st : List Value) (M : mc_M) : mc_O := if 0 ≤ (pc : Int) + off then (match b with
  | true => mc_go ((pc : Int) + off).toNat L st M
  | false => mc_go (pc + 3) L st M) else none
def mc_ce (kt : Nat → Option mc_E) (M : mc_M) (a : Nat) : Option mc_E := if a < 256 then kt a else M[a - 256]?
def mc_n (b : Bool) (o : mc_O) : mc_O := match b with
  | true => o
  | false => none
def mc_ld (ok : Value → Bool) (i d pc : Nat) (L : List (Nat × Value)) (st : List Value) (M : mc_M) : mc_O := match mc_find L i with
  | some v => mc_n (ok v) (mc_go (pc + d) L (v :: st) M)
  | none => none
def mc_sv (ok : Value → Bool) (nL i d pc : Nat) (L : List (Nat × Value)) (st : List Value) (M : mc_M) : mc_O := match st with
  | v :: r => mc_n (ok v && decide (i < nL)) (mc_go (pc + d) (mc_s1 L i v) r M)
  | [] => none
def mc_svL (nL i d pc : Nat) (L : List (Nat × Value)) (st : List Value) (M : mc_M) : mc_O := match st with
  | v :: r => mc_n (mc_isL v && decide (i + 1 < nL)) (mc_go (pc + d) (mc_s2 L i v) r M)
  | [] => none
def mc_inc (nL i : Nat) (k : Int) (pc : Nat) (L : List (Nat × Value)) (st : List Value) (M : mc_M) : mc_O := match mc_find L i with
  | some (.int x) => mc_n (decide (i < nL)) (mc_go (pc + 3) (mc_s1 L i (.int (x + Int32.ofInt k))) st M)
  | _ => none
def mc_ii2 (f : Int32 → Int32 → Option Int32) (pc : Nat) (L : List (Nat × Value)) (st : List Value) (M : mc_M) : mc_O := match st with
  | .int y :: .int x :: r => match f x y with
    | some z => mc_go (pc + 1) L (.int z :: r) M
    | none => none
  | _ => none
def mc_ll2 (f : Int64 → Int64 → Option Int64) (pc : Nat) (L : List (Nat × Value)) (st : List Value) (M : mc_M) : mc_O := match st with
  | .long y :: .long x :: r => match f x y with
    | some z => mc_go (pc + 1) L (.long z :: r) M
    | none => none
  | _ => none
def mc_li2 (f : Int64 → Int32 → Int64) (pc : Nat) (L : List (Nat × Value)) (st : List Value) (M : mc_M) : mc_O := match st with
  | .int y :: .long x :: r => mc_go (pc + 1) L (.long (f x y) :: r) M
  | _ => none
def mc_cmp (pc : Nat) (L : List (Nat × Value)) (st : List Value) (M : mc_M) : mc_O := match st with
  | .long y :: .long x :: r => mc_go (pc + 1) L (.int (lg_cmp x y) :: r) M
  | _ => none
def mc_i1 (f : Int32 → Value) (pc : Nat) (L : List (Nat × Value)) (st : List Value) (M : mc_M) : mc_O := match st with
  | .int x :: r => mc_go (pc + 1) L (f x :: r) M
  | _ => none
def mc_l1 (f : Int64 → Value) (pc : Nat) (L : List (Nat × Value)) (st : List Value) (M : mc_M) : mc_O := match st with
  | .long x :: r => mc_go (pc + 1) L (f x :: r) M
  | _ => none
def mc_ic2 (f : Int32 → Int32 → Bool) (pc : Nat) (off : Int) (L : List (Nat × Value)) (st : List Value) (M : mc_M) : mc_O := match st with
  | .int y :: .int x :: r => mc_br (f x y) pc off L r M
  | _ => none
def mc_ic1 (f : Int32 → Bool) (pc : Nat) (off : Int) (L : List (Nat × Value)) (st : List Value) (M : mc_M) : mc_O := match st with
  | .int x :: r => mc_br (f x) pc off L r M
  | _ => none
def mc_icn (f : Bool) (pc : Nat) (off : Int) (L : List (Nat × Value)) (st : List Value) (M : mc_M) : mc_O := match st with
  | .ref _ :: r => mc_br (!f) pc off L r M
  | .null :: r => mc_br f pc off L r M
  | _ => none
/-- constants of one enum, or null: those alone are compared -/
def mc_en (v : Value) : Option (Option Nat) := match v with
  | .ref a => if 16 ≤ a ∧ a < 27 then some (some a) else none
  | .null => some none
  | _ => none
def mc_ica (f : Bool) (pc : Nat) (off : Int) (L : List (Nat × Value)) (st : List Value) (M : mc_M) : mc_O := match st with
  | y :: x :: r => match mc_en x, mc_en y with
    | some a, some b => mc_br (decide (a = b) == f) pc off L r M
    | _, _ => none
  | _ => none
def mc_dup (pc : Nat) (L : List (Nat × Value)) (st : List Value) (M : mc_M) : mc_O := match st with
  | v :: r => mc_n (v.category == 1) (mc_go (pc + 1) L (v :: v :: r) M)
  | _ => none
def mc_pop (pc : Nat) (L : List (Nat × Value)) (st : List Value) (M : mc_M) : mc_O := match st with
  | v :: r => mc_n (v.category == 1) (mc_go (pc + 1) L r M)
  | _ => none
def mc_dup2 (pc : Nat) (L : List (Nat × Value)) (st : List Value) (M : mc_M) : mc_O := match st with
  | v :: r => match v.category == 2 with
    | true => mc_go (pc + 1) L (v :: v :: r) M
    | false => match r with
      | w :: r2 => mc_n (v.category == 1 && w.category == 1) (mc_go (pc + 1) L (v :: w :: v :: w :: r2) M)
      | _ => none
  | _ => none
def mc_pop2 (pc : Nat) (L : List (Nat × Value)) (st : List Value) (M : mc_M) : mc_O := match st with
  | v :: r => mc_n (v.category == 2) (mc_go (pc + 1) L r M)
  | _ => none
def mc_getf (kt : Nat → Option mc_E) (own idx pc : Nat) (L : List (Nat × Value)) (st : List Value) (M : mc_M) : mc_O := match st with
  | .ref a :: r => match mc_find (mc_fl.getD own []) idx with
    | some e => match mc_ce kt M a with
      | some (.inr q) => match q.2[e.2.1]? with
        | some v => mc_n (q.1 == e.1 && (decide (a < 256) == decide (20 ≤ e.1)) && (decide (a < 256) || decide (e.2.1 < mc_N.getD e.1 0))) (mc_go (pc + 3) L (v :: r) M)
        | none => none
      | _ => none
    | none => none
  | _ => none
def mc_putf (own : Nat) (ini : Bool) (idx pc : Nat) (L : List (Nat × Value)) (st : List Value) (M : mc_M) : mc_O := match st with
  | v :: .ref a :: r => match mc_find (mc_fl.getD own []) idx with
    | some e => match M[a - 256]? with
      | some (.inr q) => mc_n (q.1 == e.1 && decide (256 ≤ a) && decide (e.1 < 11) && decide (e.2.1 < mc_N.getD e.1 0) && decide (e.2.1 < q.2.length) && mc_fit (mc_t e.1 e.2.1) v && (!(mc_T e.1 e.2.1).2.2.2 || (ini && own == e.1 && !e.2.2.1))) (mc_go (pc + 3) L r (M.set (a - 256) (.inr (q.1, q.2.set e.2.1 v))))
      | _ => none
    | none => none
  | _ => none
def mc_ald (kt : Nat → Option mc_E) (ok : Nat → Bool) (pc : Nat) (L : List (Nat × Value)) (st : List Value) (M : mc_M) : mc_O := match st with
  | .int i :: .ref a :: r => match mc_ce kt M a with
    | some (.inl q) => mc_n (ok q.1 && mc_in i q.2.1 && (decide (a < 256) || decide (q.1 < 7))) (mc_go (pc + 1) L (q.2.2 i.toNatClampNeg :: r) M)
    | _ => none
  | _ => none
def mc_ast (kt : Nat → Option mc_E) (ok : Nat → Value → Bool) (w : Nat → Value → Value) (pc : Nat) (L : List (Nat × Value)) (st : List Value) (M : mc_M) : mc_O := match st with
  | v :: .int i :: .ref a :: r => match M[a - 256]? with
    | some (.inl q) => mc_n (decide (256 ≤ a) && ok q.1 v && mc_in i q.2.1) (mc_go (pc + 1) L r (M.set (a - 256) (.inl (q.1, q.2.1, updV q.2.2 i.toNatClampNeg (w q.1 v)))))
    | _ => none
  | _ => none
/-- is it an object of class 8 (Person), or null -/
def mc_isP (M : mc_M) (t : Nat) (v : Value) : Bool := t == 4 && match v with
  | .ref b => decide (256 ≤ b) && match M[b - 256]? with
    | some (.inr q) => q.1 == 8
    | _ => false
  | _ => false
def mc_len (kt : Nat → Option mc_E) (pc : Nat) (L : List (Nat × Value)) (st : List Value) (M : mc_M) : mc_O := match st with
  | .ref a :: r => match mc_ce kt M a with
    | some (.inl q) => mc_n (decide (a < 256) || decide (q.1 < 7)) (mc_go (pc + 1) L (.int (Int32.ofNat q.2.1) :: r) M)
    | _ => none
  | _ => none
def mc_tag (a : ArrayType) : Option Nat := match a with
  | .int => some 0
  | .long => some 1
  | .byte => some 2
  | .boolean => some 3
  | _ => none
def mc_newa (a : ArrayType) (pc : Nat) (L : List (Nat × Value)) (st : List Value) (M : mc_M) : mc_O := match st with
  | .int n :: r => match mc_tag a with
    | some t => mc_n (decide (¬ n < 0) && decide (n.toNatClampNeg ≤ 100000)) (mc_go (pc + 2) L (.ref (256 + M.length) :: r) (M ++ [.inl (t, n.toNatClampNeg, fun _ => defaultValue (mc_ty t))]))
    | none => none
  | _ => none
def mc_anew (own idx pc : Nat) (L : List (Nat × Value)) (st : List Value) (M : mc_M) : mc_O := match st with
  | .int n :: r => match mc_find (mc_kl.getD own []) idx with
    | some e => mc_n (e.1 == 8 && decide (¬ n < 0) && decide (n.toNatClampNeg ≤ 100000)) (mc_go (pc + 3) L (.ref (256 + M.length) :: r) (M ++ [.inl (4, n.toNatClampNeg, fun _ => .null)]))
    | none => none
  | _ => none
def mc_mna (own idx pc : Nat) (L : List (Nat × Value)) (st : List Value) (M : mc_M) : mc_O := match st with
  | .int k :: .int n :: r => match mc_find (mc_gl.getD own []) idx with
    | some e => mc_n (decide (e.1 < 2) && decide (¬ n < 0) && decide (¬ k < 0) && decide (n.toNatClampNeg ≤ 100000) && decide (k.toNatClampNeg ≤ 100000)) (mc_go (pc + 4) L (.ref (256 + M.length) :: r) ((M ++ [.inl (5 + e.1, n.toNatClampNeg, fun i => if i < n.toNatClampNeg then .ref (256 + M.length + 1 + i) else .null)]) ++ List.replicate n.toNatClampNeg (.inl (e.1, k.toNatClampNeg, fun _ => defaultValue (mc_ty e.1)))))
    | none => none
  | _ => none
def mc_new (own idx pc : Nat) (L : List (Nat × Value)) (st : List Value) (M : mc_M) : mc_O := match mc_find (mc_kl.getD own []) idx with
  | some e => mc_n (decide (e.1 < 11)) (mc_go (pc + 3) L (.ref (256 + M.length) :: st) (M ++ [.inr (e.1, (List.range (mc_N.getD e.1 0)).map (fun k => defaultValue (mc_t e.1 k)))]))
  | none => none
def mc_gs (own idx pc : Nat) (L : List (Nat × Value)) (st : List Value) (M : mc_M) : mc_O := match mc_find (mc_sl.getD own []) idx with
  | some e => match mc_st[e.1]? with
    | some q => mc_go (pc + 3) L (.ref q.2.2.2 :: st) M
    | none => none
  | none => none
def mc_ldc (own idx d pc : Nat) (L : List (Nat × Value)) (st : List Value) (M : mc_M) : mc_O := match mc_find (mc_cs.getD own []) idx with
  | some e => mc_n (mc_isI e.1) (mc_go (pc + d) L (e.1 :: st) M)
  | none => match mc_sr.find? (fun q => q.1 == own && q.2.1 == idx) with
    | some q => mc_go (pc + d) L (.ref q.2.2.2.1 :: st) M
    | none => none
def mc_ldc2 (own idx pc : Nat) (L : List (Nat × Value)) (st : List Value) (M : mc_M) : mc_O := match mc_find (mc_cs.getD own []) idx with
  | some e => mc_n (mc_isL e.1) (mc_go (pc + 3) L (e.1 :: st) M)
  | none => none
def mc_tsw (dflt lo hi : Int) (offs : Array Int) (pc : Nat) (L : List (Nat × Value)) (st : List Value) (M : mc_M) : mc_O := match st with
  | .int x :: r => if x.toInt < lo ∨ hi < x.toInt then mc_jp pc dflt L r M else match offs[(x.toInt - lo).toNat]? with
    | some off => mc_jp pc off L r M
    | none => none
  | _ => none
def mc_rs (v : Option Value) : List Value := match v with
  | some x => [x]
  | none => []
/-- a call: 'sort' as the instruction has it (0 static, 1 by receiver, 2 constructor) -/
def mc_cal (call : Nat → List Value → mc_M → Option mc_R) (own sort idx pc : Nat) (L : List (Nat × Value)) (st : List Value) (M : mc_M) : mc_O := match mc_find (mc_ml.getD own []) idx with
  | some e => match mc_mt e.1 with
    | some q => match call e.1 ((st.take (if sort = 0 then q.2.2.2.2.2.1 else q.2.2.2.2.2.1 + 1)).reverse) M with
      | some w => mc_n (q.2.2.2.2.2.2 == sort && decide (((st.drop (if sort = 0 then q.2.2.2.2.2.1 else q.2.2.2.2.2.1 + 1)).map Value.category).sum ≤ 8) && decide ((if sort = 0 then q.2.2.2.2.2.1 else q.2.2.2.2.2.1 + 1) ≤ st.length)
          && (sort == 0 || match st[q.2.2.2.2.2.1]? with
            | some (.ref b) => decide (256 ≤ b) && match M[b - 256]? with
              | some (.inr z) => z.1 == q.1
              | _ => false
            | _ => false)) (mc_go (pc + 3) L (mc_rs w.1 ++ st.drop (if sort = 0 then q.2.2.2.2.2.1 else q.2.2.2.2.2.1 + 1)) w.2)
      | none => none
    | none => none
  | none => none
def mc_obj (own idx pc : Nat) (L : List (Nat × Value)) (st : List Value) (M : mc_M) : mc_O := match st with
  | .ref _ :: r => match mc_find (mc_ol.getD own []) idx with
    | some _ => mc_n (decide ((r.map Value.category).sum ≤ 8)) (mc_go (pc + 3) L r M)
    | none => none
  | _ => none
def mc_math (own idx pc : Nat) (L : List (Nat × Value)) (st : List Value) (M : mc_M) : mc_O := match mc_find (mc_jl.getD own []) idx with
  | some e => match e.1, st with
    | 0, .int y :: .int x :: r => mc_n (decide ((r.map Value.category).sum ≤ 8)) (mc_go (pc + 3) L (.int (if y < x then y else x) :: r) M)
    | 1, .int y :: .int x :: r => mc_n (decide ((r.map Value.category).sum ≤ 8)) (mc_go (pc + 3) L (.int (if x < y then y else x) :: r) M)
    | _, _ => none
  | none => none
def mc_or (a b : mc_O) : mc_O := match a with
  | some x => some x
  | none => b
def mc_ret (ret : Option FieldType) (st : List Value) (M : mc_M) : mc_O := match ret, st with
  | some .int, [.int v] => some (.inr (some (.int v), M))
  | some .boolean, [.int v] => mc_n (v == 0 || v == 1) (some (.inr (some (.int v), M)))
  | _, _ => none
def mc_retL (ret : Option FieldType) (st : List Value) (M : mc_M) : mc_O := match ret, st with
  | some .long, [.long v] => some (.inr (some (.long v), M))
  | _, _ => none
def mc_retA (ret : Option FieldType) (st : List Value) (M : mc_M) : mc_O := match ret, st with
  | some (.object _), [v] => mc_n (mc_isA v) (some (.inr (some v, M)))
  | some (.array _), [v] => mc_n (mc_isA v) (some (.inr (some v, M)))
  | _, _ => none
def mc_retV (ret : Option FieldType) (st : List Value) (M : mc_M) : mc_O := match ret, st with
  | none, [] => some (.inr (none, M))
  | _, _ => none
/-- one instruction -/
def mc_step (kt : Nat → Option mc_E) (call : Nat → List Value → mc_M → Option mc_R) (own nL : Nat) (ini : Bool) (ret : Option FieldType) (x : Instr) (n : Nat) (S : mc_S) : mc_O := match x with
  | .iconst i => mc_n (n == 1) (mc_go (S.1 + 1) S.2.1 (.int (Int32.ofInt i) :: S.2.2.1) S.2.2.2)
  | .bipush i => mc_n (n == 2) (mc_go (S.1 + 2) S.2.1 (.int (Int8.ofInt i).toInt32 :: S.2.2.1) S.2.2.2)
  | .sipush i => mc_n (n == 3) (mc_go (S.1 + 3) S.2.1 (.int (Int16.ofInt i).toInt32 :: S.2.2.1) S.2.2.2)
  | .lconst i => mc_n (n == 1) (mc_go (S.1 + 1) S.2.1 (.long (Int64.ofNat (i : Nat)) :: S.2.2.1) S.2.2.2)
  | .aconst_null => mc_n (n == 1) (mc_go (S.1 + 1) S.2.1 (.null :: S.2.2.1) S.2.2.2)
  | .iload_n i => mc_n (n == 1) (mc_ld mc_isI (i : Nat) 1 S.1 S.2.1 S.2.2.1 S.2.2.2)
  | .iload i => mc_n (n == 2) (mc_ld mc_isI i 2 S.1 S.2.1 S.2.2.1 S.2.2.2)
  | .lload_n i => mc_n (n == 1) (mc_ld mc_isL (i : Nat) 1 S.1 S.2.1 S.2.2.1 S.2.2.2)
  | .lload i => mc_n (n == 2) (mc_ld mc_isL i 2 S.1 S.2.1 S.2.2.1 S.2.2.2)
  | .aload_n i => mc_n (n == 1) (mc_ld mc_isA (i : Nat) 1 S.1 S.2.1 S.2.2.1 S.2.2.2)
  | .aload i => mc_n (n == 2) (mc_ld mc_isA i 2 S.1 S.2.1 S.2.2.1 S.2.2.2)
  | .istore_n i => mc_n (n == 1) (mc_sv mc_isI nL (i : Nat) 1 S.1 S.2.1 S.2.2.1 S.2.2.2)
  | .istore i => mc_n (n == 2) (mc_sv mc_isI nL i 2 S.1 S.2.1 S.2.2.1 S.2.2.2)
  | .astore_n i => mc_n (n == 1) (mc_sv mc_isA nL (i : Nat) 1 S.1 S.2.1 S.2.2.1 S.2.2.2)
  | .astore i => mc_n (n == 2) (mc_sv mc_isA nL i 2 S.1 S.2.1 S.2.2.1 S.2.2.2)
  | .lstore_n i => mc_n (n == 1) (mc_svL nL (i : Nat) 1 S.1 S.2.1 S.2.2.1 S.2.2.2)
  | .lstore i => mc_n (n == 2) (mc_svL nL i 2 S.1 S.2.1 S.2.2.1 S.2.2.2)
  | .iinc i k => mc_n (n == 3) (mc_inc nL i k S.1 S.2.1 S.2.2.1 S.2.2.2)
  | .iadd => mc_n (n == 1) (mc_ii2 (fun x y => some (x + y)) S.1 S.2.1 S.2.2.1 S.2.2.2)
  | .isub => mc_n (n == 1) (mc_ii2 (fun x y => some (x - y)) S.1 S.2.1 S.2.2.1 S.2.2.2)
  | .imul => mc_n (n == 1) (mc_ii2 (fun x y => some (x * y)) S.1 S.2.1 S.2.2.1 S.2.2.2)
  | .iand => mc_n (n == 1) (mc_ii2 (fun x y => some (x &&& y)) S.1 S.2.1 S.2.2.1 S.2.2.2)
  | .ior => mc_n (n == 1) (mc_ii2 (fun x y => some (x ||| y)) S.1 S.2.1 S.2.2.1 S.2.2.2)
  | .ixor => mc_n (n == 1) (mc_ii2 (fun x y => some (x ^^^ y)) S.1 S.2.1 S.2.2.1 S.2.2.2)
  | .ishl => mc_n (n == 1) (mc_ii2 (fun x y => some (x <<< (y &&& 31))) S.1 S.2.1 S.2.2.1 S.2.2.2)
  | .ishr => mc_n (n == 1) (mc_ii2 (fun x y => some (x >>> (y &&& 31))) S.1 S.2.1 S.2.2.1 S.2.2.2)
  | .idiv => mc_n (n == 1) (mc_ii2 (fun x y => if y = 0 then none else some (x / y)) S.1 S.2.1 S.2.2.1 S.2.2.2)
  | .irem => mc_n (n == 1) (mc_ii2 (fun x y => if y = 0 then none else some (x - x / y * y)) S.1 S.2.1 S.2.2.1 S.2.2.2)
  | .ladd => mc_n (n == 1) (mc_ll2 (fun x y => some (x + y)) S.1 S.2.1 S.2.2.1 S.2.2.2)
  | .lsub => mc_n (n == 1) (mc_ll2 (fun x y => some (x - y)) S.1 S.2.1 S.2.2.1 S.2.2.2)
  | .lmul => mc_n (n == 1) (mc_ll2 (fun x y => some (x * y)) S.1 S.2.1 S.2.2.1 S.2.2.2)
  | .land => mc_n (n == 1) (mc_ll2 (fun x y => some (x &&& y)) S.1 S.2.1 S.2.2.1 S.2.2.2)
  | .lor => mc_n (n == 1) (mc_ll2 (fun x y => some (x ||| y)) S.1 S.2.1 S.2.2.1 S.2.2.2)
  | .ldiv => mc_n (n == 1) (mc_ll2 (fun x y => if y = 0 then none else some (x / y)) S.1 S.2.1 S.2.2.1 S.2.2.2)
  | .lrem => mc_n (n == 1) (mc_ll2 (fun x y => if y = 0 then none else some (x - x / y * y)) S.1 S.2.1 S.2.2.1 S.2.2.2)
  | .lshl => mc_n (n == 1) (mc_li2 (fun x y => x <<< (y.toInt64 &&& 63)) S.1 S.2.1 S.2.2.1 S.2.2.2)
  | .lshr => mc_n (n == 1) (mc_li2 (fun x y => x >>> (y.toInt64 &&& 63)) S.1 S.2.1 S.2.2.1 S.2.2.2)
  | .lcmp => mc_n (n == 1) (mc_cmp S.1 S.2.1 S.2.2.1 S.2.2.2)
  | .ineg => mc_n (n == 1) (mc_i1 (fun x => .int (-x)) S.1 S.2.1 S.2.2.1 S.2.2.2)
  | .i2l => mc_n (n == 1) (mc_i1 (fun x => .long x.toInt64) S.1 S.2.1 S.2.2.1 S.2.2.2)
  | .i2b => mc_n (n == 1) (mc_i1 (fun x => .int x.toInt8.toInt32) S.1 S.2.1 S.2.2.1 S.2.2.2)
  | .l2i => mc_n (n == 1) (mc_l1 (fun x => .int x.toInt32) S.1 S.2.1 S.2.2.1 S.2.2.2)
  | .if_icmp .eq off => mc_n (n == 3) (mc_ic2 (fun x y => decide (x = y)) S.1 off S.2.1 S.2.2.1 S.2.2.2)
  | .if_icmp .ne off => mc_n (n == 3) (mc_ic2 (fun x y => decide (¬ x = y)) S.1 off S.2.1 S.2.2.1 S.2.2.2)
  | .if_icmp .lt off => mc_n (n == 3) (mc_ic2 (fun x y => decide (x < y)) S.1 off S.2.1 S.2.2.1 S.2.2.2)
  | .if_icmp .ge off => mc_n (n == 3) (mc_ic2 (fun x y => decide (y ≤ x)) S.1 off S.2.1 S.2.2.1 S.2.2.2)
  | .if_icmp .gt off => mc_n (n == 3) (mc_ic2 (fun x y => decide (y < x)) S.1 off S.2.1 S.2.2.1 S.2.2.2)
  | .if_icmp .le off => mc_n (n == 3) (mc_ic2 (fun x y => decide (x ≤ y)) S.1 off S.2.1 S.2.2.1 S.2.2.2)
  | .ifCond .eq off => mc_n (n == 3) (mc_ic1 (fun x => decide (x = 0)) S.1 off S.2.1 S.2.2.1 S.2.2.2)
  | .ifCond .ne off => mc_n (n == 3) (mc_ic1 (fun x => decide (¬ x = 0)) S.1 off S.2.1 S.2.2.1 S.2.2.2)
  | .ifCond .lt off => mc_n (n == 3) (mc_ic1 (fun x => decide (x < 0)) S.1 off S.2.1 S.2.2.1 S.2.2.2)
  | .ifCond .ge off => mc_n (n == 3) (mc_ic1 (fun x => decide (0 ≤ x)) S.1 off S.2.1 S.2.2.1 S.2.2.2)
  | .ifCond .gt off => mc_n (n == 3) (mc_ic1 (fun x => decide (0 < x)) S.1 off S.2.1 S.2.2.1 S.2.2.2)
  | .ifCond .le off => mc_n (n == 3) (mc_ic1 (fun x => decide (x ≤ 0)) S.1 off S.2.1 S.2.2.1 S.2.2.2)
  | .ifnull off => mc_n (n == 3) (mc_icn true S.1 off S.2.1 S.2.2.1 S.2.2.2)
  | .ifnonnull off => mc_n (n == 3) (mc_icn false S.1 off S.2.1 S.2.2.1 S.2.2.2)
  | .if_acmp .eq off => mc_n (n == 3) (mc_ica true S.1 off S.2.1 S.2.2.1 S.2.2.2)
  | .if_acmp .ne off => mc_n (n == 3) (mc_ica false S.1 off S.2.1 S.2.2.1 S.2.2.2)
  | .goto off => mc_n (n == 3) (mc_jp S.1 off S.2.1 S.2.2.1 S.2.2.2)
  | .dup => mc_n (n == 1) (mc_dup S.1 S.2.1 S.2.2.1 S.2.2.2)
  | .pop => mc_n (n == 1) (mc_pop S.1 S.2.1 S.2.2.1 S.2.2.2)
  | .dup2 => mc_n (n == 1) (mc_dup2 S.1 S.2.1 S.2.2.1 S.2.2.2)
  | .pop2 => mc_n (n == 1) (mc_pop2 S.1 S.2.1 S.2.2.1 S.2.2.2)
  | .getfield i => mc_n (n == 3) (mc_getf kt own i S.1 S.2.1 S.2.2.1 S.2.2.2)
  | .putfield i => mc_n (n == 3) (mc_putf own ini i S.1 S.2.1 S.2.2.1 S.2.2.2)
  | .iaload => mc_n (n == 1) (mc_ald kt (fun t => t == 0) S.1 S.2.1 S.2.2.1 S.2.2.2)
  | .laload => mc_n (n == 1) (mc_ald kt (fun t => t == 1) S.1 S.2.1 S.2.2.1 S.2.2.2)
  | .baload => mc_n (n == 1) (mc_ald kt (fun t => t == 2 || t == 3) S.1 S.2.1 S.2.2.1 S.2.2.2)
  | .aaload => mc_n (n == 1) (mc_ald kt (fun t => decide (4 ≤ t)) S.1 S.2.1 S.2.2.1 S.2.2.2)
  | .iastore => mc_n (n == 1) (mc_ast kt (fun t v => t == 0 && mc_isI v) (fun _ v => v) S.1 S.2.1 S.2.2.1 S.2.2.2)
  | .lastore => mc_n (n == 1) (mc_ast kt (fun t v => t == 1 && mc_isL v) (fun _ v => v) S.1 S.2.1 S.2.2.1 S.2.2.2)
  | .bastore => mc_n (n == 1) (mc_ast kt (fun t v => (t == 2 || t == 3) && mc_isI v) (fun t v => narrow (mc_ty t) v) S.1 S.2.1 S.2.2.1 S.2.2.2)
  | .aastore => mc_n (n == 1) (mc_ast kt (mc_isP S.2.2.2) (fun _ v => v) S.1 S.2.1 S.2.2.1 S.2.2.2)
  | .arraylength => mc_n (n == 1) (mc_len kt S.1 S.2.1 S.2.2.1 S.2.2.2)
  | .newarray a => mc_n (n == 2) (mc_newa a S.1 S.2.1 S.2.2.1 S.2.2.2)
  | .anewarray i => mc_n (n == 3) (mc_anew own i S.1 S.2.1 S.2.2.1 S.2.2.2)
  | .multianewarray i 2 => mc_n (n == 4) (mc_mna own i S.1 S.2.1 S.2.2.1 S.2.2.2)
  | .new i => mc_n (n == 3) (mc_new own i S.1 S.2.1 S.2.2.1 S.2.2.2)
  | .getstatic i => mc_n (n == 3) (mc_gs own i S.1 S.2.1 S.2.2.1 S.2.2.2)
  | .ldc i => mc_n (n == 2) (mc_ldc own i 2 S.1 S.2.1 S.2.2.1 S.2.2.2)
  | .ldc2_w i => mc_n (n == 3) (mc_ldc2 own i S.1 S.2.1 S.2.2.1 S.2.2.2)
  | .tableswitch d lo hi offs => mc_tsw d lo hi offs S.1 S.2.1 S.2.2.1 S.2.2.2
  | .invokevirtual i => mc_n (n == 3) (mc_cal call own 1 i S.1 S.2.1 S.2.2.1 S.2.2.2)
  | .invokestatic i => mc_n (n == 3) (mc_or (mc_cal call own 0 i S.1 S.2.1 S.2.2.1 S.2.2.2) (mc_math own i S.1 S.2.1 S.2.2.1 S.2.2.2))
  | .invokespecial i => mc_n (n == 3) (mc_or (mc_cal call own 2 i S.1 S.2.1 S.2.2.1 S.2.2.2) (mc_obj own i S.1 S.2.1 S.2.2.1 S.2.2.2))
  | .ireturn => mc_n (n == 1) (mc_ret ret S.2.2.1 S.2.2.2)
  | .lreturn => mc_n (n == 1) (mc_retL ret S.2.2.1 S.2.2.2)
  | .areturn => mc_n (n == 1) (mc_retA ret S.2.2.1 S.2.2.2)
  | .return_ => mc_n (n == 1) (mc_retV ret S.2.2.1 S.2.2.2)
  | _ => none
/-- instructions, one behind another, at most so many -/
def mc_loop (kt : Nat → Option mc_E) (call : Nat → List Value → mc_M → Option mc_R) (own nL : Nat) (ini : Bool) (ret : Option FieldType) (cc : ByteArray) : Nat → mc_S → Option mc_R
  | 0, _ => none
  | n + 1, S => match decode cc S.1 with
    | .ok (x, k) => match mc_step kt call own nL ini ret x k S with
      | some (.inl S1) => mc_loop kt call own nL ini ret cc n S1
      | some (.inr w) => some w
      | none => none
    | .error _ => none
/-- method k, called with these values; d: how deep calls may go -/
def mc_call (kt : Nat → Option mc_E) (F : Nat) : Nat → Nat → List Value → mc_M → Option mc_R
  | 0, _, _, _ => none
  | d + 1, k, as, M => match mc_mt k with
    | some q => match decide ((lg_sl as).length ≤ q.2.2.2.1) with
      | true => mc_loop kt (mc_call kt F d) q.1 q.2.2.2.1 (q.2.2.2.2.2.2 == 2) q.2.2.2.2.1 q.2.2.1 F (0, lv_args 0 as, [], M)
      | false => none
    | none => none
end
section
/-! THE MINI MACHINE'S CELLS IN THE HEAP (own work). G: where the constants are, where the list of cells begins, the array classes, the classes and their slots. -/
abbrev mc_G : Type := (Nat → Nat) × Nat × (Nat → ClassId) × va_G
def mc_a (G : mc_G) (k : Nat) : Nat := if k < 256 then G.1 k else G.2.1 + (k - 256)
def mc_v (G : mc_G) (v : Value) : Value := match v with
  | .ref k => .ref (mc_a G k)
  | .int x => .int x
  | .long x => .long x
  | .float x => .float x
  | .double x => .double x
  | .null => .null
  | .retAddr x => .retAddr x
def mc_L (G : mc_G) (L : List (Nat × Value)) : List (Nat × Value) := L.map (fun q => (q.1, mc_v G q.2))
def mc_cell (G : mc_G) (a : Nat) (e : mc_E) (H : Heap) : Prop := match e with
  | .inl x => x.1 < 7 → H[a]? = some (arrV (G.2.2.1 x.1) x.2.1 (fun j => mc_v G (x.2.2 j)))
  | .inr o => ∃ r : vw_C, mc_cl[o.1]? = some r ∧ t_OB a (G.2.2.2.1 o.1) r.2.2 (G.2.2.2.2 o.1) H (vp_V (o.2.map (mc_v G)))
def mc_H (G : mc_G) (M : mc_M) (H : Heap) : Prop := H.size = G.2.1 + M.length ∧ ∀ (k : Nat) (e : mc_E), M[k]? = some e → mc_cell G (G.2.1 + k) e H
def mc_es (e : mc_E) : Nat := match e with
  | .inl x => x.2.1
  | .inr o => o.2.length
def mc_sz (M : mc_M) : Nat := (M.map mc_es).sum
def mc_A (G : mc_G) : Nat → Prop := fun q => G.2.1 ≤ q
def mc_tys (G : mc_G) : List (ClassId × FieldType) := (List.range 7).map (fun t => (G.2.2.1 t, mc_ty t))
theorem mc_v_cat (G : mc_G) (v : Value) : (mc_v G v).category = v.category := by cases v <;> rfl
theorem mc_find_L {G : mc_G} {L : List (Nat × Value)} {i : Nat} {v : Value} (h : mc_find L i = some v) : (i, mc_v G v) ∈ mc_L G L := List.mem_map.mpr ⟨(i, v), mc_find_mem h, rfl⟩
theorem mc_L_s1 (G : mc_G) (L : List (Nat × Value)) (i : Nat) (v : Value) : mc_L G (mc_s1 L i v) = mc_s1 (mc_L G L) i (mc_v G v) := by
  unfold mc_s1 mc_L
  rw [List.map_cons, List.filter_map]
  congr 2
  apply List.filter_congr
  intro q _
  simp [mc_v_cat]
theorem mc_L_s2 (G : mc_G) (L : List (Nat × Value)) (i : Nat) (v : Value) : mc_L G (mc_s2 L i v) = mc_s2 (mc_L G L) i (mc_v G v) := by
  unfold mc_s2 mc_L
  rw [List.map_cons, List.filter_map]
  congr 2
  apply List.filter_congr
  intro q _
  simp [mc_v_cat]
theorem mc_L_args (G : mc_G) : ∀ (vs : List Value) (i : Nat), mc_L G (lv_args i vs) = lv_args i (vs.map (mc_v G))
  | [], _ => rfl
  | v :: vs, i => by
    unfold lv_args
    rw [List.map_cons]
    show _ = (i, mc_v G v) :: lv_args (if (mc_v G v).category = 2 then i + 2 else i + 1) (vs.map (mc_v G))
    rw [mc_v_cat, ← mc_L_args G vs]
    rfl
theorem mc_sl_len (G : mc_G) : ∀ vs : List Value, (lg_sl (vs.map (mc_v G))).length = (lg_sl vs).length
  | [] => rfl
  | v :: vs => by
    have h := mc_sl_len G vs
    simp only [lg_sl, List.map_cons, List.flatMap_cons, List.length_append, mc_v_cat] at h ⊢
    rw [h]
    split <;> rfl
theorem mc_a_hi {G : mc_G} {a : Nat} (h : 256 ≤ a) : mc_a G a = G.2.1 + (a - 256) := if_neg (by omega)
theorem mc_a_lo {G : mc_G} {a : Nat} (h : a < 256) : mc_a G a = G.1 a := if_pos h
theorem mc_a_new (G : mc_G) (n : Nat) : mc_a G (256 + n) = G.2.1 + n := by
  rw [mc_a_hi (Nat.le_add_right 256 n), Nat.add_sub_cancel_left]
theorem mc_cell.kept {G : mc_G} {a : Nat} {e : mc_E} {H H1 : Heap} (h : mc_cell G a e H) (hq : H1[a]? = H[a]?) : mc_cell G a e H1 := by
  cases e with
  | inl x => exact fun h7 => hq.trans (h h7)
  | inr o =>
    obtain ⟨r, h1, h2⟩ := h
    exact ⟨r, h1, h2.kept hq⟩
theorem mc_H.at {G : mc_G} {M : mc_M} {H : Heap} (h : mc_H G M H) {a : Nat} (ha : 256 ≤ a) {e : mc_E} (he : M[a - 256]? = some e) : mc_cell G (mc_a G a) e H := by
  rw [mc_a_hi ha]
  exact h.2 _ e he
theorem mc_H.set {G : mc_G} {M : mc_M} {H H1 : Heap} (h : mc_H G M H) {k : Nat} {e0 e : mc_E} (hk : M[k]? = some e0) (he : mc_cell G (G.2.1 + k) e H1) (z : H1.size = H.size) (oq : ∀ q : Nat, q ≠ G.2.1 + k → H1[q]? = H[q]?) : mc_H G (M.set k e) H1 := by
  have hl := (List.getElem?_eq_some_iff.mp hk).1
  refine ⟨by rw [z, h.1, List.length_set], fun j e' hj => ?_⟩
  by_cases hjk : j = k
  · subst hjk
    rw [List.getElem?_set_self hl] at hj
    cases hj
    exact he
  · rw [List.getElem?_set_ne (Ne.symm hjk)] at hj
    exact (h.2 j e' hj).kept (oq _ (by omega))
theorem mc_H.push {G : mc_G} {M : mc_M} {H H1 : Heap} (h : mc_H G M H) {e : mc_E} (he : mc_cell G H.size e H1) (z : H1.size = H.size + 1) (oq : ∀ q : Nat, q < H.size → H1[q]? = H[q]?) : mc_H G (M ++ [e]) H1 := by
  refine ⟨by rw [z, h.1, List.length_append]; rfl, fun j e' hj => ?_⟩
  by_cases hl : j < M.length
  · rw [List.getElem?_append_left hl] at hj
    exact (h.2 j e' hj).kept (oq _ (by rw [h.1]; omega))
  · rw [List.getElem?_append_right (by omega)] at hj
    have hz : j - M.length < 1 := (List.getElem?_eq_some_iff.mp hj).1
    have hj0 : j = M.length := by omega
    subst hj0
    rw [Nat.sub_self] at hj
    cases hj
    rw [← h.1]
    exact he
theorem mc_sz_set {M : mc_M} {k : Nat} {e0 e : mc_E} (hk : M[k]? = some e0) (he : mc_es e = mc_es e0) : mc_sz (M.set k e) = mc_sz M := by
  induction M generalizing k with
  | nil => simp at hk
  | cons x M ih =>
    cases k with
    | zero =>
      simp at hk
      subst hk
      simp [mc_sz, he]
    | succ k =>
      simp at hk
      have := ih hk
      simp only [mc_sz, List.set_cons_succ, List.map_cons, List.sum_cons] at this ⊢
      rw [this]
theorem mc_sz_app (M N : mc_M) : mc_sz (M ++ N) = mc_sz M + mc_sz N := by simp [mc_sz]
theorem mc_sz_one (e : mc_E) : mc_sz [e] = mc_es e := by simp [mc_sz]
/-- the constants' contents, where they are; the statics and strings -/
def mc_C (kt : Nat → Option mc_E) (G : mc_G) (U : State) (H : Heap) : Prop :=
  (∀ (j t n : Nat) (f : Nat → Value), kt j = some (.inl (t, n, f)) → va_T (mc_ty t) (G.1 j) n (fun i => mc_v G (f i)) (mc_A G) U H) ∧
  (∀ (j ci : Nat) (fs : List Value), kt j = some (.inr (ci, fs)) → ∀ (k : Nat) (v : Value), fs[k]? = some v → va_OF (mc_fr ci k).1 (mc_fr ci k).2.1 (mc_fr ci k).2.2 (mc_v G v) (G.1 j) (mc_A G) U H) ∧
  (∀ e ∈ mc_st, va_Z e.1 e.2.1 e.2.2.1 (mc_v G (.ref e.2.2.2)) (mc_A G) U H) ∧
  (∀ e ∈ mc_sr, vk_R (mc_cn e.1) e.2.1 e.2.2.1 (mc_a G e.2.2.2.1) U) ∧
  (∀ i j : Nat, 16 ≤ i → i < 27 → 16 ≤ j → j < 27 → G.1 i = G.1 j → i = j)
/-- the words of nest mates -/
def mc_NW (U : State) : Prop :=
  (∀ (own : Nat) (r : List (Nat × Nat × Nat × Bool × String × Nat × Nat)), mc_fl[own]? = some r → ∀ e ∈ r, e.2.2.2.1 = true → va_Nw (mc_fw own e) U) ∧
  (∀ (own : Nat) (r : List (Nat × Nat × Bool × String × Nat × Nat)), mc_ml[own]? = some r → ∀ e ∈ r, e.2.2.1 = true → va_Nw (mc_mw own e) U) ∧
  (∀ (own : Nat) (r : List (Nat × Nat × Bool × String × Nat × Nat)), mc_sl[own]? = some r → ∀ e ∈ r, e.2.2.1 = true → va_Nw (mc_sw own e) U)
/-- a class of arrays of this type was made -/
def mc_AO (t : FieldType) (U : State) : Prop := (Cond.arrayOver t).before #[] U = true
def mc_B (kt : Nat → Option mc_E) (G : mc_G) (U : State) (H : Heap) : Prop := va_K G.2.2.2 mc_cl (mc_tys G) U ∧ (mc_AO (.object "StrikeAwake$Person") U ∧ mc_AO (.array .int) U ∧ mc_AO (.array .long) U) ∧ mc_NW U ∧ mc_C kt G U H
theorem mc_AO.moved {t : FieldType} {u U : State} (hvm : u.vm.Alike U.vm) (h : mc_AO t u) : mc_AO t U := by
  have h1 : (Cond.arrayOver t).before #[] (u.setVm U.vm) = true := by rw [Cond.arrayOver_setVmC hvm]; exact h
  exact h1
theorem mc_C.moved {kt : Nat → Option mc_E} {G : mc_G} {s U : State} {H : Heap} (hW : s.WarmedH U.vm) (h : mc_C kt G s H) : mc_C kt G U H :=
  ⟨fun j t n f hj => (h.1 j t n f hj).moved hW.alike, fun j ci fs hj k v hk => (h.2.1 j ci fs hj k v hk).moved hW.alike, fun e he => (h.2.2.1 e he).moved hW.alike, fun e he => (h.2.2.2.1 e he).warm hW, h.2.2.2.2⟩
theorem mc_C.kept {kt : Nat → Option mc_E} {G : mc_G} {U : State} {H H1 : Heap} (h : mc_C kt G U H) (hq : ∀ a : Nat, a < H.size → ¬ mc_A G a → H1[a]? = H[a]?) : mc_C kt G U H1 :=
  ⟨fun j t n f hj => (h.1 j t n f hj).kept hq, fun j ci fs hj k v hk => (h.2.1 j ci fs hj k v hk).kept hq, fun e he => (h.2.2.1 e he).kept hq, h.2.2.2.1, h.2.2.2.2⟩
theorem mc_C.same {kt : Nat → Option mc_E} {G : mc_G} {s U : State} {H : Heap} (hv : U.vm = s.vm) (h : mc_C kt G s H) : mc_C kt G U H :=
  have ha : s.vm.Alike U.vm := by rw [hv]; exact Vm.Alike.refl _
  ⟨fun j t n f hj => (h.1 j t n f hj).moved ha, fun j ci fs hj k v hk => (h.2.1 j ci fs hj k v hk).moved ha, fun e he => (h.2.2.1 e he).moved ha, fun e he => (h.2.2.2.1 e he).same hv, h.2.2.2.2⟩
theorem mc_fw_nest {own : Nat} {e : Nat × Nat × Nat × Bool × String × Nat × Nat} (h : e.2.2.2.1 = true) : ∃ a i b n d x, mc_fw own e = .fieldLinkNest a i b n d x := ⟨_, _, _, _, _, _, if_pos h⟩
theorem mc_mw_nest {own : Nat} {e : Nat × Nat × Bool × String × Nat × Nat} (h : e.2.2.1 = true) : ∃ a i y x, mc_mw own e = .methodLinkNest a i y x := ⟨_, _, _, _, if_pos h⟩
theorem mc_sw_nest {own : Nat} {e : Nat × Nat × Bool × String × Nat × Nat} (h : e.2.2.1 = true) : (∃ a i b n d x, mc_sw own e = .fieldLinkNest a i b n d x) ∨ mc_sw own e = .tt := by
  unfold mc_sw
  split
  · exact Or.inl ⟨_, _, _, _, _, _, if_pos h⟩
  · exact Or.inr rfl
theorem mc_NW.moved {s U : State} (hW : s.WarmedH U.vm) (h : mc_NW s) : mc_NW U := by
  refine ⟨fun own r hr e he hn => ?_, fun own r hr e he hn => ?_, fun own r hr e he hn => ?_⟩
  · obtain ⟨a, i, b, n, d, x, hw⟩ := mc_fw_nest (own := own) hn
    have := h.1 own r hr e he hn
    rw [hw] at this ⊢
    exact va_Nw.warmF hW this
  · obtain ⟨a, i, y, x, hw⟩ := mc_mw_nest (own := own) hn
    have := h.2.1 own r hr e he hn
    rw [hw] at this ⊢
    exact va_Nw.warmM hW this
  · have := h.2.2 own r hr e he hn
    rcases mc_sw_nest (own := own) hn with ⟨a, i, b, n, d, x, hw⟩ | hw
    · rw [hw] at this ⊢
      exact va_Nw.warmF hW this
    · rw [hw]
      rfl
theorem mc_NW.same {s U : State} (hv : s.vm = U.vm) (h : mc_NW s) : mc_NW U := by
  refine ⟨fun own r hr e he hn => ?_, fun own r hr e he hn => ?_, fun own r hr e he hn => ?_⟩
  · obtain ⟨a, i, b, n, d, x, hw⟩ := mc_fw_nest (own := own) hn
    have := h.1 own r hr e he hn
    rw [hw] at this ⊢
    exact va_Nw.same rfl hv this
  · obtain ⟨a, i, y, x, hw⟩ := mc_mw_nest (own := own) hn
    have := h.2.1 own r hr e he hn
    rw [hw] at this ⊢
    exact va_Nw.same rfl hv this
  · have := h.2.2 own r hr e he hn
    rcases mc_sw_nest (own := own) hn with ⟨a, i, b, n, d, x, hw⟩ | hw
    · rw [hw] at this ⊢
      exact va_Nw.same rfl hv this
    · rw [hw]
      rfl
theorem mc_B.moved {kt : Nat → Option mc_E} {G : mc_G} {s U : State} {H : Heap} (hW : s.WarmedH U.vm) (h : mc_B kt G s H) : mc_B kt G U H :=
  ⟨va_K.moved hW.alike h.1, ⟨h.2.1.1.moved hW.alike, h.2.1.2.1.moved hW.alike, h.2.1.2.2.moved hW.alike⟩, h.2.2.1.moved hW, h.2.2.2.moved hW⟩
theorem mc_B.kept {kt : Nat → Option mc_E} {G : mc_G} {U : State} {H H1 : Heap} (h : mc_B kt G U H) (hq : ∀ a : Nat, a < H.size → ¬ mc_A G a → H1[a]? = H[a]?) : mc_B kt G U H1 := ⟨h.1, h.2.1, h.2.2.1, h.2.2.2.kept hq⟩
theorem mc_B.same {kt : Nat → Option mc_E} {G : mc_G} {s U : State} {H : Heap} (hv : U.vm = s.vm) (h : mc_B kt G s H) : mc_B kt G U H :=
  have ha : s.vm.Alike U.vm := by rw [hv]; exact Vm.Alike.refl _
  ⟨va_K.moved ha h.1, ⟨h.2.1.1.moved ha, h.2.1.2.1.moved ha, h.2.1.2.2.moved ha⟩, h.2.2.1.same hv.symm, h.2.2.2.same hv⟩
end
section
/-! THE MINI MACHINE'S STEPS ARE THE MACHINE'S (own work, over the kit's rows) -/
/-- from every heap that holds these cells the machine comes to Q -/
def mc_W (G : mc_G) (p : Program) (l : Launch) (e : Env) (R : Room) (s : State) (m : MethodId) (args : Array Value) (below : List Frame) (meth : Method) (c : Code) (Q : State → Prop) (nL l0 z0 : Nat) (S : mc_S) : Prop :=
  ∀ (H : Heap) (locs : List Loc) (ls : Array Slot) (cells slots : Nat), mc_H G S.2.2.2 H → va_S (mc_A G) s.heap H locs → lv_has ls nL (mc_L G S.2.1) → cells + l0 = S.2.2.2.length → slots + z0 = mc_sz S.2.2.2 →
    W p l e R s m args below meth c H locs cells slots Q (F0 m S.1 ls (S.2.2.1.map (mc_v G)))
section MC1
variable {G : mc_G} {p : Program} {l : Launch} {e : Env} {R : Room} {s : State} {m : MethodId} {args : Array Value} {below : List Frame} {meth : Method} {c : Code} {Q : State → Prop} {nL l0 z0 : Nat}
variable {pc : Nat} {L : List (Nat × Value)} {st : List Value} {M : mc_M} {S : mc_S}
theorem mc_n_t {b : Bool} {o : mc_O} {x : mc_S ⊕ mc_R} (h : mc_n b o = some x) : b = true ∧ o = some x := by
  unfold mc_n at h
  split at h
  · exact ⟨rfl, h⟩
  · cases h
theorem mc_go_S {pc : Nat} {L : List (Nat × Value)} {st : List Value} {M : mc_M} {S : mc_S} (h : mc_go pc L st M = some (.inl S)) : S = (pc, L, st, M) := by
  unfold mc_go at h
  exact (Sum.inl.inj (Option.some.inj h)).symm
theorem mc_r_go {pc' : Nat} {st' : List Value} (row : ∀ (H : Heap) (locs : List Loc) (cells slots : Nat) (ls : Array Slot), W p l e R s m args below meth c H locs cells slots Q (F0 m pc' ls (st'.map (mc_v G))) → W p l e R s m args below meth c H locs cells slots Q (F0 m pc ls (st.map (mc_v G))))
    (h : mc_go pc' L st' M = some (.inl S)) (k : mc_W G p l e R s m args below meth c Q nL l0 z0 S) : mc_W G p l e R s m args below meth c Q nL l0 z0 (pc, L, st, M) := by
  rw [mc_go_S h] at k
  exact fun H locs ls cells slots hH hS hl hc hz => row H locs cells slots ls (k H locs ls cells slots hH hS hl hc hz)
theorem mc_r_ld {ok : Value → Bool} {i d : Nat} (row : ∀ (H : Heap) (locs : List Loc) (cells slots : Nat) (ls : Array Slot) (rest : List Value) (v : Value), ok v = true → ls[i]? = some (.val (mc_v G v)) → W p l e R s m args below meth c H locs cells slots Q (F0 m (pc + d) ls (mc_v G v :: rest)) → W p l e R s m args below meth c H locs cells slots Q (F0 m pc ls rest))
    (h : mc_ld ok i d pc L st M = some (.inl S)) (k : mc_W G p l e R s m args below meth c Q nL l0 z0 S) : mc_W G p l e R s m args below meth c Q nL l0 z0 (pc, L, st, M) := by
  unfold mc_ld at h
  split at h
  · next v hv =>
    obtain ⟨hok, h⟩ := mc_n_t h
    rw [mc_go_S h] at k
    exact fun H locs ls cells slots hH hS hl hc hz => row H locs cells slots ls _ v hok (hl.2.2 _ (mc_find_L hv)) (k H locs ls cells slots hH hS hl hc hz)
  · cases h
theorem mc_r_sv {ok : Value → Bool} {i d : Nat} (row : ∀ (H : Heap) (locs : List Loc) (cells slots : Nat) (ls : Array Slot) (rest : List Value) (v : Value) (lv : List (Nat × Value)), ok v = true → lv_has ls nL lv → i < nL → (∀ ls' : Array Slot, lv_has ls' nL (mc_s1 lv i (mc_v G v)) → W p l e R s m args below meth c H locs cells slots Q (F0 m (pc + d) ls' rest)) → W p l e R s m args below meth c H locs cells slots Q (F0 m pc ls (mc_v G v :: rest)))
    (h : mc_sv ok nL i d pc L st M = some (.inl S)) (k : mc_W G p l e R s m args below meth c Q nL l0 z0 S) : mc_W G p l e R s m args below meth c Q nL l0 z0 (pc, L, st, M) := by
  unfold mc_sv at h
  split at h
  · next v r =>
    obtain ⟨hok, h⟩ := mc_n_t h
    simp only [Bool.and_eq_true, decide_eq_true_eq] at hok
    rw [mc_go_S h] at k
    exact fun H locs ls cells slots hH hS hl hc hz => row H locs cells slots ls _ v _ hok.1 hl hok.2 (fun ls' hl' => k H locs ls' cells slots hH hS (by show lv_has ls' nL (mc_L G (mc_s1 L i v)); rw [mc_L_s1]; exact hl') hc hz)
  · cases h
theorem mc_r_svL {i d : Nat} (row : ∀ (H : Heap) (locs : List Loc) (cells slots : Nat) (ls : Array Slot) (rest : List Value) (x : Int64) (lv : List (Nat × Value)), lv_has ls nL lv → i + 1 < nL → (∀ ls' : Array Slot, lv_has ls' nL (mc_s2 lv i (.long x)) → W p l e R s m args below meth c H locs cells slots Q (F0 m (pc + d) ls' rest)) → W p l e R s m args below meth c H locs cells slots Q (F0 m pc ls (.long x :: rest)))
    (h : mc_svL nL i d pc L st M = some (.inl S)) (k : mc_W G p l e R s m args below meth c Q nL l0 z0 S) : mc_W G p l e R s m args below meth c Q nL l0 z0 (pc, L, st, M) := by
  unfold mc_svL at h
  split at h
  · next v r =>
    obtain ⟨hok, h⟩ := mc_n_t h
    simp only [Bool.and_eq_true, decide_eq_true_eq] at hok
    rw [mc_go_S h] at k
    obtain ⟨hv, hi⟩ := hok
    cases v with
    | long x => exact fun H locs ls cells slots hH hS hl hc hz => row H locs cells slots ls _ x _ hl hi (fun ls' hl' => k H locs ls' cells slots hH hS (by show lv_has ls' nL (mc_L G (mc_s2 L i (.long x))); rw [mc_L_s2]; exact hl') hc hz)
    | _ => cases hv
  · cases h
theorem mc_r_inc {i : Nat} {kk : Int} (row : ∀ (H : Heap) (locs : List Loc) (cells slots : Nat) (ls : Array Slot) (rest : List Value) (x : Int32) (lv : List (Nat × Value)) (j : Nat), lv_has ls nL lv → lv[j]? = some (i, .int x) → i < nL → (∀ ls' : Array Slot, lv_has ls' nL (mc_s1 lv i (.int (x + Int32.ofInt kk))) → W p l e R s m args below meth c H locs cells slots Q (F0 m (pc + 3) ls' rest)) → W p l e R s m args below meth c H locs cells slots Q (F0 m pc ls rest))
    (h : mc_inc nL i kk pc L st M = some (.inl S)) (k : mc_W G p l e R s m args below meth c Q nL l0 z0 S) : mc_W G p l e R s m args below meth c Q nL l0 z0 (pc, L, st, M) := by
  unfold mc_inc at h
  split at h
  · next x hv =>
    obtain ⟨hok, h⟩ := mc_n_t h
    simp only [decide_eq_true_eq] at hok
    rw [mc_go_S h] at k
    obtain ⟨j, hj⟩ := List.getElem?_of_mem (mc_find_L (G := G) hv)
    exact fun H locs ls cells slots hH hS hl hc hz => row H locs cells slots ls _ x _ j hl hj hok (fun ls' hl' => k H locs ls' cells slots hH hS (by show lv_has ls' nL (mc_L G (mc_s1 L i (.int _))); rw [mc_L_s1]; exact hl') hc hz)
  · cases h
theorem mc_r_ii2 {f : Int32 → Int32 → Option Int32} (row : ∀ (H : Heap) (locs : List Loc) (cells slots : Nat) (ls : Array Slot) (rest : List Value) (x y z : Int32), f x y = some z → W p l e R s m args below meth c H locs cells slots Q (F0 m (pc + 1) ls (.int z :: rest)) → W p l e R s m args below meth c H locs cells slots Q (F0 m pc ls (.int y :: .int x :: rest)))
    (h : mc_ii2 f pc L st M = some (.inl S)) (k : mc_W G p l e R s m args below meth c Q nL l0 z0 S) : mc_W G p l e R s m args below meth c Q nL l0 z0 (pc, L, st, M) := by
  unfold mc_ii2 at h
  split at h
  · split at h
    · next hz0 =>
      rw [mc_go_S h] at k
      exact fun H locs ls cells slots hH hS hl hc hz => row H locs cells slots ls _ _ _ _ hz0 (k H locs ls cells slots hH hS hl hc hz)
    · cases h
  · cases h
theorem mc_r_ll2 {f : Int64 → Int64 → Option Int64} (row : ∀ (H : Heap) (locs : List Loc) (cells slots : Nat) (ls : Array Slot) (rest : List Value) (x y z : Int64), f x y = some z → W p l e R s m args below meth c H locs cells slots Q (F0 m (pc + 1) ls (.long z :: rest)) → W p l e R s m args below meth c H locs cells slots Q (F0 m pc ls (.long y :: .long x :: rest)))
    (h : mc_ll2 f pc L st M = some (.inl S)) (k : mc_W G p l e R s m args below meth c Q nL l0 z0 S) : mc_W G p l e R s m args below meth c Q nL l0 z0 (pc, L, st, M) := by
  unfold mc_ll2 at h
  split at h
  · split at h
    · next hz0 =>
      rw [mc_go_S h] at k
      exact fun H locs ls cells slots hH hS hl hc hz => row H locs cells slots ls _ _ _ _ hz0 (k H locs ls cells slots hH hS hl hc hz)
    · cases h
  · cases h
theorem mc_r_li2 {f : Int64 → Int32 → Int64} (row : ∀ (H : Heap) (locs : List Loc) (cells slots : Nat) (ls : Array Slot) (rest : List Value) (x : Int64) (y : Int32), W p l e R s m args below meth c H locs cells slots Q (F0 m (pc + 1) ls (.long (f x y) :: rest)) → W p l e R s m args below meth c H locs cells slots Q (F0 m pc ls (.int y :: .long x :: rest)))
    (h : mc_li2 f pc L st M = some (.inl S)) (k : mc_W G p l e R s m args below meth c Q nL l0 z0 S) : mc_W G p l e R s m args below meth c Q nL l0 z0 (pc, L, st, M) := by
  unfold mc_li2 at h
  split at h
  · rw [mc_go_S h] at k
    exact fun H locs ls cells slots hH hS hl hc hz => row H locs cells slots ls _ _ _ (k H locs ls cells slots hH hS hl hc hz)
  · cases h
theorem mc_r_cmp (row : ∀ (H : Heap) (locs : List Loc) (cells slots : Nat) (ls : Array Slot) (rest : List Value) (x y : Int64), W p l e R s m args below meth c H locs cells slots Q (F0 m (pc + 1) ls (.int (lg_cmp x y) :: rest)) → W p l e R s m args below meth c H locs cells slots Q (F0 m pc ls (.long y :: .long x :: rest)))
    (h : mc_cmp pc L st M = some (.inl S)) (k : mc_W G p l e R s m args below meth c Q nL l0 z0 S) : mc_W G p l e R s m args below meth c Q nL l0 z0 (pc, L, st, M) := by
  unfold mc_cmp at h
  split at h
  · rw [mc_go_S h] at k
    exact fun H locs ls cells slots hH hS hl hc hz => row H locs cells slots ls _ _ _ (k H locs ls cells slots hH hS hl hc hz)
  · cases h
theorem mc_r_i1 {f : Int32 → Value} (row : ∀ (H : Heap) (locs : List Loc) (cells slots : Nat) (ls : Array Slot) (rest : List Value) (x : Int32), W p l e R s m args below meth c H locs cells slots Q (F0 m (pc + 1) ls (mc_v G (f x) :: rest)) → W p l e R s m args below meth c H locs cells slots Q (F0 m pc ls (.int x :: rest)))
    (h : mc_i1 f pc L st M = some (.inl S)) (k : mc_W G p l e R s m args below meth c Q nL l0 z0 S) : mc_W G p l e R s m args below meth c Q nL l0 z0 (pc, L, st, M) := by
  unfold mc_i1 at h
  split at h
  · rw [mc_go_S h] at k
    exact fun H locs ls cells slots hH hS hl hc hz => row H locs cells slots ls _ _ (k H locs ls cells slots hH hS hl hc hz)
  · cases h
theorem mc_r_l1 {f : Int64 → Value} (row : ∀ (H : Heap) (locs : List Loc) (cells slots : Nat) (ls : Array Slot) (rest : List Value) (x : Int64), W p l e R s m args below meth c H locs cells slots Q (F0 m (pc + 1) ls (mc_v G (f x) :: rest)) → W p l e R s m args below meth c H locs cells slots Q (F0 m pc ls (.long x :: rest)))
    (h : mc_l1 f pc L st M = some (.inl S)) (k : mc_W G p l e R s m args below meth c Q nL l0 z0 S) : mc_W G p l e R s m args below meth c Q nL l0 z0 (pc, L, st, M) := by
  unfold mc_l1 at h
  split at h
  · rw [mc_go_S h] at k
    exact fun H locs ls cells slots hH hS hl hc hz => row H locs cells slots ls _ _ (k H locs ls cells slots hH hS hl hc hz)
  · cases h
theorem mc_br_S {b : Bool} {off : Int} {r : List Value} (h : mc_br b pc off L r M = some (.inl S)) : ∃ tgt : Nat, (pc : Int) + off = (tgt : Int) ∧ (b = true → S = (tgt, L, r, M)) ∧ (b = false → S = (pc + 3, L, r, M)) := by
  unfold mc_br at h
  split at h
  · next h0 =>
    refine ⟨((pc : Int) + off).toNat, (Int.toNat_of_nonneg h0).symm, fun hb => ?_, fun hb => ?_⟩
    · subst hb
      exact mc_go_S h
    · subst hb
      exact mc_go_S h
  · cases h
theorem mc_r_ic2 {f : Int32 → Int32 → Bool} {off : Int} (row : ∀ (H : Heap) (locs : List Loc) (cells slots : Nat) (ls : Array Slot) (rest : List Value) (x y : Int32) (tgt : Nat), (pc : Int) + off = (tgt : Int) → (f x y = true → W p l e R s m args below meth c H locs cells slots Q (F0 m tgt ls rest)) → (f x y = false → W p l e R s m args below meth c H locs cells slots Q (F0 m (pc + 3) ls rest)) → W p l e R s m args below meth c H locs cells slots Q (F0 m pc ls (.int y :: .int x :: rest)))
    (h : mc_ic2 f pc off L st M = some (.inl S)) (k : mc_W G p l e R s m args below meth c Q nL l0 z0 S) : mc_W G p l e R s m args below meth c Q nL l0 z0 (pc, L, st, M) := by
  unfold mc_ic2 at h
  split at h
  · obtain ⟨tgt, ht, h1, h2⟩ := mc_br_S h
    exact fun H locs ls cells slots hH hS hl hc hz => row H locs cells slots ls _ _ _ tgt ht (fun hb => by rw [h1 hb] at k; exact k H locs ls cells slots hH hS hl hc hz) (fun hb => by rw [h2 hb] at k; exact k H locs ls cells slots hH hS hl hc hz)
  · cases h
theorem mc_r_ic1 {f : Int32 → Bool} {off : Int} (row : ∀ (H : Heap) (locs : List Loc) (cells slots : Nat) (ls : Array Slot) (rest : List Value) (x : Int32) (tgt : Nat), (pc : Int) + off = (tgt : Int) → (f x = true → W p l e R s m args below meth c H locs cells slots Q (F0 m tgt ls rest)) → (f x = false → W p l e R s m args below meth c H locs cells slots Q (F0 m (pc + 3) ls rest)) → W p l e R s m args below meth c H locs cells slots Q (F0 m pc ls (.int x :: rest)))
    (h : mc_ic1 f pc off L st M = some (.inl S)) (k : mc_W G p l e R s m args below meth c Q nL l0 z0 S) : mc_W G p l e R s m args below meth c Q nL l0 z0 (pc, L, st, M) := by
  unfold mc_ic1 at h
  split at h
  · obtain ⟨tgt, ht, h1, h2⟩ := mc_br_S h
    exact fun H locs ls cells slots hH hS hl hc hz => row H locs cells slots ls _ _ tgt ht (fun hb => by rw [h1 hb] at k; exact k H locs ls cells slots hH hS hl hc hz) (fun hb => by rw [h2 hb] at k; exact k H locs ls cells slots hH hS hl hc hz)
  · cases h
theorem mc_r_icn {f : Bool} {off : Int} (rowR : ∀ (H : Heap) (locs : List Loc) (cells slots : Nat) (ls : Array Slot) (rest : List Value) (x tgt : Nat), (pc : Int) + off = (tgt : Int) → W p l e R s m args below meth c H locs cells slots Q (F0 m (if f then pc + 3 else tgt) ls rest) → W p l e R s m args below meth c H locs cells slots Q (F0 m pc ls (.ref x :: rest)))
    (rowN : ∀ (H : Heap) (locs : List Loc) (cells slots : Nat) (ls : Array Slot) (rest : List Value) (tgt : Nat), (pc : Int) + off = (tgt : Int) → W p l e R s m args below meth c H locs cells slots Q (F0 m (if f then tgt else pc + 3) ls rest) → W p l e R s m args below meth c H locs cells slots Q (F0 m pc ls (.null :: rest)))
    (h : mc_icn f pc off L st M = some (.inl S)) (k : mc_W G p l e R s m args below meth c Q nL l0 z0 S) : mc_W G p l e R s m args below meth c Q nL l0 z0 (pc, L, st, M) := by
  unfold mc_icn at h
  split at h
  · obtain ⟨tgt, ht, h1, h2⟩ := mc_br_S h
    refine fun H locs ls cells slots hH hS hl hc hz => rowR H locs cells slots ls _ _ tgt ht ?_
    cases f
    · rw [h1 rfl] at k; exact k H locs ls cells slots hH hS hl hc hz
    · rw [h2 rfl] at k; exact k H locs ls cells slots hH hS hl hc hz
  · obtain ⟨tgt, ht, h1, h2⟩ := mc_br_S h
    refine fun H locs ls cells slots hH hS hl hc hz => rowN H locs cells slots ls _ tgt ht ?_
    cases f
    · rw [h2 rfl] at k; exact k H locs ls cells slots hH hS hl hc hz
    · rw [h1 rfl] at k; exact k H locs ls cells slots hH hS hl hc hz
  · cases h
theorem mc_r_jp {off : Int} (row : ∀ (H : Heap) (locs : List Loc) (cells slots : Nat) (ls : Array Slot) (rest : List Value) (tgt : Nat), (pc : Int) + off = (tgt : Int) → W p l e R s m args below meth c H locs cells slots Q (F0 m tgt ls rest) → W p l e R s m args below meth c H locs cells slots Q (F0 m pc ls rest))
    (h : mc_jp pc off L st M = some (.inl S)) (k : mc_W G p l e R s m args below meth c Q nL l0 z0 S) : mc_W G p l e R s m args below meth c Q nL l0 z0 (pc, L, st, M) := by
  unfold mc_jp at h
  split at h
  · next h0 =>
    rw [mc_go_S h] at k
    exact fun H locs ls cells slots hH hS hl hc hz => row H locs cells slots ls _ _ (Int.toNat_of_nonneg h0).symm (k H locs ls cells slots hH hS hl hc hz)
  · cases h
theorem mc_en_rf {v : Value} {a : Option Nat} (h : mc_en v = some a) : mc_v G v = va_rf (a.map (mc_a G)) ∧ ∀ k, a = some k → 16 ≤ k ∧ k < 27 := by
  unfold mc_en at h
  split at h
  · split at h
    · next h2 =>
      cases h
      exact ⟨rfl, fun k hk => by cases hk; exact h2⟩
    · cases h
  · cases h
    exact ⟨rfl, fun k hk => by cases hk⟩
  · cases h
theorem mc_en_inj (hinj : ∀ i j : Nat, 16 ≤ i → i < 27 → 16 ≤ j → j < 27 → G.1 i = G.1 j → i = j) {a b : Option Nat} (ha : ∀ k, a = some k → 16 ≤ k ∧ k < 27) (hb : ∀ k, b = some k → 16 ≤ k ∧ k < 27) : a.map (mc_a G) = b.map (mc_a G) ↔ a = b := by
  refine ⟨fun h => ?_, fun h => by rw [h]⟩
  cases a with
  | none => cases b with
    | none => rfl
    | some y => cases h
  | some x => cases b with
    | none => cases h
    | some y =>
      obtain ⟨a1, a2⟩ := ha x rfl
      obtain ⟨b1, b2⟩ := hb y rfl
      have h1 : mc_a G x = mc_a G y := Option.some.inj h
      rw [mc_a_lo (by omega), mc_a_lo (by omega)] at h1
      rw [hinj x y a1 a2 b1 b2 h1]
theorem mc_r_ica {f : Bool} {off : Int} (hinj : ∀ i j : Nat, 16 ≤ i → i < 27 → 16 ≤ j → j < 27 → G.1 i = G.1 j → i = j)
    (row : ∀ (H : Heap) (locs : List Loc) (cells slots : Nat) (ls : Array Slot) (rest : List Value) (rx ry : Option Nat) (tgt : Nat), (pc : Int) + off = (tgt : Int) → ((decide (rx = ry) == f) = true → W p l e R s m args below meth c H locs cells slots Q (F0 m tgt ls rest)) → ((decide (rx = ry) == f) = false → W p l e R s m args below meth c H locs cells slots Q (F0 m (pc + 3) ls rest)) → W p l e R s m args below meth c H locs cells slots Q (F0 m pc ls (va_rf ry :: va_rf rx :: rest)))
    (h : mc_ica f pc off L st M = some (.inl S)) (k : mc_W G p l e R s m args below meth c Q nL l0 z0 S) : mc_W G p l e R s m args below meth c Q nL l0 z0 (pc, L, st, M) := by
  unfold mc_ica at h
  split at h
  · next y x r =>
    split at h
    · next a b hx hy =>
      obtain ⟨tgt, ht, h1, h2⟩ := mc_br_S h
      obtain ⟨ex, bx⟩ := mc_en_rf (G := G) hx
      obtain ⟨ey, by'⟩ := mc_en_rf (G := G) hy
      have hi := mc_en_inj hinj bx by'
      intro H locs ls cells slots hH hS hl hc hz
      show W p l e R s m args below meth c H locs cells slots Q (F0 m pc ls (mc_v G y :: mc_v G x :: r.map (mc_v G)))
      rw [ex, ey]
      refine row H locs cells slots ls _ _ _ tgt ht (fun hb => ?_) (fun hb => ?_)
      · rw [decide_eq_decide.mpr hi] at hb
        rw [h1 hb] at k; exact k H locs ls cells slots hH hS hl hc hz
      · rw [decide_eq_decide.mpr hi] at hb
        rw [h2 hb] at k; exact k H locs ls cells slots hH hS hl hc hz
    · cases h
  · cases h
theorem mc_r_dup (row : ∀ (H : Heap) (locs : List Loc) (cells slots : Nat) (ls : Array Slot) (rest : List Value) (v : Value), v.category = 1 → W p l e R s m args below meth c H locs cells slots Q (F0 m (pc + 1) ls (v :: v :: rest)) → W p l e R s m args below meth c H locs cells slots Q (F0 m pc ls (v :: rest)))
    (h : mc_dup pc L st M = some (.inl S)) (k : mc_W G p l e R s m args below meth c Q nL l0 z0 S) : mc_W G p l e R s m args below meth c Q nL l0 z0 (pc, L, st, M) := by
  unfold mc_dup at h
  split at h
  · obtain ⟨hok, h⟩ := mc_n_t h
    rw [mc_go_S h] at k
    exact fun H locs ls cells slots hH hS hl hc hz => row H locs cells slots ls _ _ (by rw [mc_v_cat]; simpa using hok) (k H locs ls cells slots hH hS hl hc hz)
  · cases h
theorem mc_r_pop (row : ∀ (H : Heap) (locs : List Loc) (cells slots : Nat) (ls : Array Slot) (rest : List Value) (v : Value), v.category = 1 → W p l e R s m args below meth c H locs cells slots Q (F0 m (pc + 1) ls rest) → W p l e R s m args below meth c H locs cells slots Q (F0 m pc ls (v :: rest)))
    (h : mc_pop pc L st M = some (.inl S)) (k : mc_W G p l e R s m args below meth c Q nL l0 z0 S) : mc_W G p l e R s m args below meth c Q nL l0 z0 (pc, L, st, M) := by
  unfold mc_pop at h
  split at h
  · obtain ⟨hok, h⟩ := mc_n_t h
    rw [mc_go_S h] at k
    exact fun H locs ls cells slots hH hS hl hc hz => row H locs cells slots ls _ _ (by rw [mc_v_cat]; simpa using hok) (k H locs ls cells slots hH hS hl hc hz)
  · cases h
theorem mc_r_pop2 (row : ∀ (H : Heap) (locs : List Loc) (cells slots : Nat) (ls : Array Slot) (rest : List Value) (v : Value), v.category = 2 → W p l e R s m args below meth c H locs cells slots Q (F0 m (pc + 1) ls rest) → W p l e R s m args below meth c H locs cells slots Q (F0 m pc ls (v :: rest)))
    (h : mc_pop2 pc L st M = some (.inl S)) (k : mc_W G p l e R s m args below meth c Q nL l0 z0 S) : mc_W G p l e R s m args below meth c Q nL l0 z0 (pc, L, st, M) := by
  unfold mc_pop2 at h
  split at h
  · obtain ⟨hok, h⟩ := mc_n_t h
    rw [mc_go_S h] at k
    exact fun H locs ls cells slots hH hS hl hc hz => row H locs cells slots ls _ _ (by rw [mc_v_cat]; simpa using hok) (k H locs ls cells slots hH hS hl hc hz)
  · cases h
theorem mc_r_dup2 (row2 : ∀ (H : Heap) (locs : List Loc) (cells slots : Nat) (ls : Array Slot) (rest : List Value) (v : Value), v.category = 2 → W p l e R s m args below meth c H locs cells slots Q (F0 m (pc + 1) ls (v :: v :: rest)) → W p l e R s m args below meth c H locs cells slots Q (F0 m pc ls (v :: rest)))
    (row1 : ∀ (H : Heap) (locs : List Loc) (cells slots : Nat) (ls : Array Slot) (rest : List Value) (v w : Value), v.category = 1 → w.category = 1 → W p l e R s m args below meth c H locs cells slots Q (F0 m (pc + 1) ls (v :: w :: v :: w :: rest)) → W p l e R s m args below meth c H locs cells slots Q (F0 m pc ls (v :: w :: rest)))
    (h : mc_dup2 pc L st M = some (.inl S)) (k : mc_W G p l e R s m args below meth c Q nL l0 z0 S) : mc_W G p l e R s m args below meth c Q nL l0 z0 (pc, L, st, M) := by
  unfold mc_dup2 at h
  split at h
  · split at h
    · next hok =>
      rw [mc_go_S h] at k
      exact fun H locs ls cells slots hH hS hl hc hz => row2 H locs cells slots ls _ _ (by rw [mc_v_cat]; simpa using hok) (k H locs ls cells slots hH hS hl hc hz)
    · split at h
      · obtain ⟨hok, h⟩ := mc_n_t h
        simp only [Bool.and_eq_true, beq_iff_eq] at hok
        rw [mc_go_S h] at k
        exact fun H locs ls cells slots hH hS hl hc hz => row1 H locs cells slots ls _ _ _ (by rw [mc_v_cat]; exact hok.1) (by rw [mc_v_cat]; exact hok.2) (k H locs ls cells slots hH hS hl hc hz)
      · cases h
  · cases h
end MC1
end
section
/-! THE MINI MACHINE'S STEPS ON CELLS ARE THE MACHINE'S (own work, over the kit's rows) -/
theorem mc_getD_mem {α : Type} {l : List (List α)} {own : Nat} {x : α} (h : x ∈ l.getD own []) : ∃ r, l[own]? = some r ∧ x ∈ r := by
  rw [List.getD_eq_getElem?_getD] at h
  cases hr : l[own]? with
  | none => rw [hr] at h; cases h
  | some r => rw [hr] at h; exact ⟨r, rfl, h⟩
theorem mc_tb_ws {i : Nat × Nat} {w : Cond} (h : mc_tb i w false = true) : w ∈ mc_ws := by
  simp only [mc_tb, Bool.and_eq_true, decide_eq_true_eq, Bool.false_or] at h
  exact List.mem_filter.mpr ⟨mc_ch_sub _ _ (List.mem_of_getElem? h.1), h.2⟩
theorem mc_cl_at : ∀ ci : Nat, ci < 11 → mc_cl[ci]? = some (mc_cn ci, mc_T ci, mc_N.getD ci 0)
  | 0, _ => rfl
  | 1, _ => rfl
  | 2, _ => rfl
  | 3, _ => rfl
  | 4, _ => rfl
  | 5, _ => rfl
  | 6, _ => rfl
  | 7, _ => rfl
  | 8, _ => rfl
  | 9, _ => rfl
  | 10, _ => rfl
theorem mc_cl_lt {ci : Nat} {r : vw_C} (h : mc_cl[ci]? = some r) : ci < 11 := (List.getElem?_eq_some_iff.mp h).1
theorem mc_cl_eq {ci : Nat} {r : vw_C} (h : mc_cl[ci]? = some r) : r = (mc_cn ci, mc_T ci, mc_N.getD ci 0) := Option.some.inj (h.symm.trans (mc_cl_at ci (mc_cl_lt h)))
theorem mc_ck_at {ci : Nat} (h : ci < 11) : mc_ck ci = true := List.all_eq_true.mp mc_ck_ok ci (List.mem_range.mpr h)
theorem mc_ck_k {ci k : Nat} (h : ci < 11) (hk : k < mc_N.getD ci 0) : u_lay (mc_cn ci) (mc_T ci) k ∈ mc_ws ∧ parseFieldDescriptor (mc_T ci k).2.2.1 = some (mc_t ci k) ∧ ∀ j, j < mc_N.getD ci 0 → k ≠ j → (mc_T ci k).2.1 ≠ (mc_T ci j).2.1 := by
  have h1 := mc_ck_at h
  simp only [mc_ck, Bool.and_eq_true] at h1
  have h2 := List.all_eq_true.mp h1.1.1 k (List.mem_range.mpr hk)
  simp only [Bool.and_eq_true, decide_eq_true_eq] at h2
  refine ⟨mc_at_mem h2.1.1, h2.1.2, fun j hj hne => ?_⟩
  have h3 := List.all_eq_true.mp h2.2 j (List.mem_range.mpr hj)
  simp only [Bool.or_eq_true, decide_eq_true_eq] at h3
  exact h3.resolve_left hne
theorem mc_in_ws {ci : Nat} (h : ci < 11) : ∀ w ∈ u_ws (mc_cn ci) (mc_T ci) (mc_N.getD ci 0), w ∈ mc_ws := fun w hw => by
  obtain ⟨k, hk, rfl⟩ := List.mem_map.mp hw
  exact (mc_ck_k h (List.mem_range.mp hk)).1
theorem mc_inst {ci : Nat} (h : ci < 11) : (Cond.instantiable (mc_cn ci) (mc_N.getD ci 0)) ∈ mc_ws ∧ (Cond.initialized (mc_cn ci)) ∈ mc_ws := by
  have h1 := mc_ck_at h
  simp only [mc_ck, Bool.and_eq_true] at h1
  exact ⟨mc_at_mem h1.1.2, mc_at_mem h1.2⟩
theorem mc_fr_lo {ci k : Nat} (h : ci < 11) : mc_fr ci k = ((mc_T ci k).1, (mc_T ci k).2.1, (mc_T ci k).2.2.1) := if_pos h
theorem mc_decl_ok : (List.range 11).all (fun ci => (List.range (mc_N.getD ci 0)).all (fun k => decide ((mc_T ci k).1 = mc_cn ci))) = true := by decide +kernel
theorem mc_decl {ci k : Nat} (h : ci < 11) (hk : k < mc_N.getD ci 0) : (mc_T ci k).1 = mc_cn ci := by
  have h1 := List.all_eq_true.mp (List.all_eq_true.mp mc_decl_ok ci (List.mem_range.mpr h)) k (List.mem_range.mpr hk)
  simpa using h1
/-- what holds within a method -/
def mc_X (kt : Nat → Option mc_E) (G : mc_G) (own nL : Nat) (ini : Bool) (ret : Option FieldType) (cc : ByteArray) (p : Program) (s : State) (m : MethodId) (args : Array Value) (meth : Method) (c : Code) : Prop :=
  p.tables.exec = Jvm.exec ∧ c.code = cc ∧ s.vm.findClass (mc_cn own) = some m.cls ∧ (∀ w ∈ mc_ws, w.before args s = true) ∧ c.maxLocals = nL ∧ mc_B kt G s s.heap ∧ G.2.1 ≤ s.heap.size ∧ (ini = true → meth.name = "<init>") ∧ meth.locks = false ∧ meth.sig.returnType = ret
theorem mc_fword {s : State} {args : Array Value} {own idx : Nat} {en : Nat × Nat × Bool × String × Nat × Nat} (hts : ∀ w ∈ mc_ws, w.before args s = true) (hN : mc_NW s) (h : mc_find (mc_fl.getD own []) idx = some en) :
    (en.2.2.1 = false ∧ (Cond.fieldLink (mc_cn own) idx (mc_fr en.1 en.2.1).1 (mc_fr en.1 en.2.1).2.1 (mc_fr en.1 en.2.1).2.2).before args s = true) ∨ (en.2.2.1 = true ∧ ∃ host, (Cond.fieldLinkNest (mc_cn own) idx (mc_fr en.1 en.2.1).1 (mc_fr en.1 en.2.1).2.1 (mc_fr en.1 en.2.1).2.2 host).before args s = true) := by
  obtain ⟨r, hr, hm⟩ := mc_getD_mem (mc_find_mem h)
  have h1 := mc_each_at mc_fl_ok hr hm
  obtain ⟨ci, k, nest, host, pl⟩ := en
  cases nest with
  | false => exact Or.inl ⟨rfl, hts _ (mc_tb_ws (w := mc_fw own (idx, ci, k, false, host, pl)) h1)⟩
  | true => exact Or.inr ⟨rfl, host, va_Nw.use (w := .fieldLinkNest (mc_cn own) idx (mc_fr ci k).1 (mc_fr ci k).2.1 (mc_fr ci k).2.2 host) rfl (hN.1 own r hr _ hm rfl)⟩
section MC2
variable {kt : Nat → Option mc_E} {own : Nat} {ini : Bool} {ret : Option FieldType} {cc : ByteArray}
variable {G : mc_G} {p : Program} {l : Launch} {e : Env} {R : Room} {s : State} {m : MethodId} {args : Array Value} {below : List Frame} {meth : Method} {c : Code} {Q : State → Prop} {nL l0 z0 : Nat}
variable {pc : Nat} {L : List (Nat × Value)} {st : List Value} {M : mc_M} {S : mc_S}
theorem mc_gf {H : Heap} {locs : List Loc} {cells slots : Nat} {ls : Array Slot} {rest : List Value} {o ref n d : String} {index : Nat} (hx : p.tables.exec = Jvm.exec) (hb : c.code = cc) (hown : s.vm.findClass o = some m.cls) (hw : (Cond.fieldLink o index ref n d).before args s = true ∨ ∃ host, (Cond.fieldLinkNest o index ref n d host).before args s = true)
    {cf i : Nat} {k : Class} {f : Field} (hi : s.fieldFound? ref n d = some (cf, k, i, f)) (hst : f.isStatic = false) {a : Addr} {cell : Cell} {v : Value} (hcell : H[a]? = some cell) (hknown : cell.vm ≠ .unknown) (hslot : cell.slots[f.slot]? = some v) (hdg : decode cc pc = .ok (.getfield index, 3))
    (kk : W p l e R s m args below meth c H locs cells slots Q (F0 m (pc + 3) ls (v :: rest))) : W p l e R s m args below meth c H locs cells slots Q (F0 m pc ls (.ref a :: rest)) := by
  rcases hw with h | ⟨host, h⟩
  · exact W.getf hx hb hown h hi hst hcell hknown hslot rfl rfl hdg kk
  · exact va_Wgetf hx hb hown h hi hst hcell hknown hslot rfl rfl hdg kk
theorem mc_pf {H : Heap} {locs : List Loc} {cells slots : Nat} {ls : Array Slot} {rest : List Value} {o ref n d : String} {index : Nat} (hx : p.tables.exec = Jvm.exec) (hb : c.code = cc) (hown : s.vm.findClass o = some m.cls) (hw : (Cond.fieldLink o index ref n d).before args s = true ∨ ∃ host, (Cond.fieldLinkNest o index ref n d host).before args s = true)
    {cf i : Nat} {k : Class} {f : Field} (hi : s.fieldFound? ref n d = some (cf, k, i, f)) (hst : f.isStatic = false) {a : Addr} {cell : Cell} {v : Value} (hSd : k2_Sd s f cell.cls v) (hcell : H[a]? = some cell) (hvm : cell.vm = .none) (hlt : f.slot < cell.slots.size) (hdg : decode cc pc = .ok (.putfield index, 3))
    (kk : ∀ H' : Heap, H'[a]? = some (cell.setSlot f.slot v) → H'.size = H.size → (∀ q, q ≠ a → H'[q]? = H[q]?) → W p l e R s m args below meth c H' (locs ++ [⟨a, f.slot⟩]) cells slots Q (F0 m (pc + 3) ls rest)) : W p l e R s m args below meth c H locs cells slots Q (F0 m pc ls (v :: .ref a :: rest)) := by
  rcases hw with h | ⟨host, h⟩
  · exact W.putK hx hb (f := f) ⟨hown, h, ⟨_, _, _, hi⟩, hst⟩ hSd hcell hvm hlt rfl rfl hdg kk
  · exact va_WputK hx hb (f := f) hown h hi hst hSd hcell hvm hlt rfl rfl hdg kk
theorem mc_r_getf (C : mc_X kt G own nL ini ret cc p s m args meth c) {idx : Nat} (hd : decode cc pc = .ok (.getfield idx, 3)) (h : mc_getf kt own idx pc L st M = some (.inl S)) (k : mc_W G p l e R s m args below meth c Q nL l0 z0 S) : mc_W G p l e R s m args below meth c Q nL l0 z0 (pc, L, st, M) := by
  obtain ⟨hx, hb, hown, hts, hml, hB, hba, hini, hlk, hret⟩ := C
  unfold mc_getf at h
  split at h
  · next a r =>
    split at h
    · next en he =>
      split at h
      · next q hq =>
        split at h
        · next v hv =>
          obtain ⟨hok, h⟩ := mc_n_t h
          simp only [Bool.and_eq_true, Bool.or_eq_true, beq_iff_eq, decide_eq_true_eq] at hok
          rw [mc_go_S h] at k
          have hw := mc_fword (en := en) hts hB.2.2.1 he
          have hw' := hw.imp (fun h => h.2) (fun h => h.2)
          intro H locs ls cells slots hH hS hl hc hz
          by_cases ha : a < 256
          · have hq' : kt a = some (.inr q) := by
              have := hq
              unfold mc_ce at this
              rwa [if_pos ha] at this
            have hOF := (hB.2.2.2.2.1 a q.1 q.2 hq' en.2.1 v hv).kept hS.2.1
            rw [hok.1.1] at hOF
            obtain ⟨cf, k9, fi, f, cell, h1, h2, h3, h4, h5, h6⟩ := hOF
            show W p l e R s m args below meth c H locs cells slots Q (F0 m pc ls (.ref (mc_a G a) :: r.map (mc_v G)))
            rw [mc_a_lo ha]
            exact mc_gf hx hb hown hw' h1 h2 h3 h4 h5 hd (k H locs ls cells slots hH hS hl hc hz)
          · have hq' : M[a - 256]? = some (.inr q) := by
              have := hq
              unfold mc_ce at this
              rwa [if_neg ha] at this
            obtain ⟨r9, g1, cell, q1, q2, q3, q4⟩ := hH.at (Nat.not_lt.mp ha) hq'
            have hci := mc_cl_lt g1
            have hr9 := mc_cl_eq g1
            subst hr9
            have hk := hok.2.resolve_left ha
            rw [← hok.1.1] at hw' hk
            rw [mc_fr_lo hci] at hw'
            obtain ⟨hSl, hfc, kC, hkC, hkind⟩ := hB.1.1 q.1 _ g1
            obtain ⟨cf, kf, fi, f, hi, hsl⟩ := hSl en.2.1 hk
            show W p l e R s m args below meth c H locs cells slots Q (F0 m pc ls (.ref (mc_a G a) :: r.map (mc_v G)))
            refine mc_gf hx hb hown hw' hi (u_facts hfc hkC (u_lays hts (mc_in_ws hci) hk) hi).1 q1 (by rw [q3]; exact fun h => by cases h) (v := mc_v G v) ?_ hd (k H locs ls cells slots hH hS hl hc hz)
            rw [hsl, q4 en.2.1 hk]
            simp [vp_V, hv]
        · cases h
      · cases h
    · cases h
  · cases h
theorem mc_fit_ok {ty : FieldType} {v : Value} (h : mc_fit ty v = true) : narrow ty (mc_v G v) = mc_v G v ∧ fits ty (mc_v G v) = true := by
  unfold mc_fit at h
  split at h
  · exact ⟨rfl, rfl⟩
  · exact ⟨rfl, rfl⟩
  · next x =>
    simp only [Bool.or_eq_true, beq_iff_eq] at h
    rcases h with rfl | rfl
    · exact ⟨rfl, rfl⟩
    · exact ⟨rfl, rfl⟩
  · exact ⟨rfl, rfl⟩
  · exact ⟨rfl, rfl⟩
  · exact ⟨rfl, rfl⟩
  · exact ⟨rfl, rfl⟩
  · cases h
theorem mc_r_putf (C : mc_X kt G own nL ini ret cc p s m args meth c) {idx : Nat} (hd : decode cc pc = .ok (.putfield idx, 3)) (h : mc_putf own ini idx pc L st M = some (.inl S)) (k : mc_W G p l e R s m args below meth c Q nL l0 z0 S) : mc_W G p l e R s m args below meth c Q nL l0 z0 (pc, L, st, M) := by
  obtain ⟨hx, hb, hown, hts, hml, hB, hba, hini, hlk, hret⟩ := C
  unfold mc_putf at h
  split at h
  · next v a r =>
    split at h
    · next en he =>
      split at h
      · next q hq =>
        obtain ⟨hok, h⟩ := mc_n_t h
        simp only [Bool.and_eq_true, Bool.or_eq_true, beq_iff_eq, decide_eq_true_eq, Bool.not_eq_true'] at hok
        obtain ⟨⟨⟨⟨⟨⟨e1, e2⟩, e3⟩, e4⟩, e5⟩, e6⟩, e7⟩ := hok
        rw [mc_go_S h] at k
        have hw := mc_fword (en := en) hts hB.2.2.1 he
        rw [mc_fr_lo e3] at hw
        obtain ⟨hn, hf⟩ := mc_fit_ok (G := G) e6
        obtain ⟨hlay, hty, hnm⟩ := mc_ck_k e3 e4
        intro H locs ls cells slots hH hS hl hc hz
        obtain ⟨r9, g1, cell, q1, q2, q3, q4⟩ := hH.at e2 hq
        have hr9 := mc_cl_eq g1
        subst hr9
        rw [e1] at g1 q2 q4
        have hap := va_apart (own := "") hts (mc_in_ws e3) (mc_t en.1) (fun j hj => (mc_ck_k e3 hj).2.1) (fun x hx y hy hne => (mc_ck_k e3 hx).2.2 y hy hne) hB.1 g1
        obtain ⟨hSl, hfc, kC, hkC, hkind⟩ := hB.1.1 en.1 _ g1
        obtain ⟨cf, kf, fi, f, hi, hsl⟩ := hSl en.2.1 e4
        have hst := (u_facts hfc hkC (u_lays hts (mc_in_ws e3) e4) hi).1
        have hk0 : G.2.1 + (a - 256) = mc_a G a := (mc_a_hi e2).symm
        have key : ∀ H' : Heap, H'[mc_a G a]? = some (cell.setSlot f.slot (mc_v G v)) → H'.size = H.size → (∀ q : Nat, q ≠ mc_a G a → H'[q]? = H[q]?) → W p l e R s m args below meth c H' (locs ++ [⟨mc_a G a, f.slot⟩]) cells slots Q (F0 m (pc + 3) ls (r.map (mc_v G))) := by
          intro H' f1 f2 f3
          rw [hsl] at f1 ⊢
          refine k H' _ ls cells slots (hH.set hq ?_ f2 (fun x hx => f3 x (by rw [← hk0]; exact hx))) (hS.put f2 f3 (by rw [← hk0]; exact Nat.le_add_right _ _)) hl (by rw [List.length_set]; exact hc) (by rw [mc_sz_set hq (by simp [mc_es])]; exact hz)
          refine ⟨(mc_cn en.1, mc_T en.1, mc_N.getD en.1 0), by rw [e1]; exact g1, ?_⟩
          rw [hk0, e1]
          refine t_OB.to (V := updV (vp_V (q.2.map (mc_v G))) en.2.1 (mc_v G v)) ⟨_, f1, q2, q3, t_set q4 hap e4 (mc_v G v)⟩ (fun j _ => ?_)
          rw [vp_updV_set (by rw [List.length_map]; exact e5), List.map_set]
        show W p l e R s m args below meth c H locs cells slots Q (F0 m pc ls (mc_v G v :: .ref (mc_a G a) :: r.map (mc_v G)))
        unfold u_lay at hlay
        rcases e7 with hfin | ⟨⟨i1, i2⟩, i3⟩
        · rw [if_neg (by rw [hfin]; decide)] at hlay
          exact mc_pf hx hb hown (hw.imp (fun h => h.2) (fun h => h.2)) hi hst (by rw [q2]; exact u_store hfc hkC hkind (hts _ hlay) hi hty hn hf) q1 q3 (by rw [hsl]; exact k2_hasslot (q4 en.2.1 e4)) hd key
        · by_cases hfin : (mc_T en.1 en.2.1).2.2.2 = true
          · rw [if_pos hfin] at hlay
            rcases hw with ⟨-, hw⟩ | ⟨hne, host, hw⟩
            · have hcf : m.cls = cf := by
                obtain ⟨_, _, c', _, _, _, -, -, hf', -, -, -, hown2, -⟩ := Cond.laysFinal_spec (hts _ hlay)
                have z1 : c' = cf := by have := hi.symm.trans hf'; simp at this; exact this.1.symm
                have z2 : (mc_T en.1 en.2.1).1 = mc_cn own := by
                  rw [i2]
                  exact mc_decl e3 e4
                rw [z2] at hown2
                rw [← z1]; exact Option.some.inj (hown.symm.trans hown2)
              exact W.putFinK hx hb hown hw hi hst hcf (hini i1) (by rw [q2]; exact u_fits hfc hkC hkind (Or.inr (hts _ hlay)) hi hty hn hf) q1 q3 (by rw [hsl]; exact k2_hasslot (q4 en.2.1 e4)) rfl rfl hd key
            · exact absurd i3 (by rw [hne]; decide)
          · rw [if_neg hfin] at hlay
            exact mc_pf hx hb hown (hw.imp (fun h => h.2) (fun h => h.2)) hi hst (by rw [q2]; exact u_store hfc hkC hkind (hts _ hlay) hi hty hn hf) q1 q3 (by rw [hsl]; exact k2_hasslot (q4 en.2.1 e4)) hd key
      · cases h
    · cases h
  · cases h
end MC2
end
section
/-! THE MINI MACHINE'S STEPS ON ARRAYS, NEW CELLS, STATICS AND CONSTANTS ARE THE MACHINE'S (own work, over the kit's rows) -/
theorem mc_tys_at {G : mc_G} {t : Nat} (h : t < 7) : (mc_tys G)[t]? = some (G.2.2.1 t, mc_ty t) := by
  simp [mc_tys, h]
theorem mc_in_iff {i : Int32} {n : Nat} (h : mc_in i n = true) : ¬ (i < 0 ∨ n ≤ i.toNatClampNeg) := of_decide_eq_true h
theorem mc_AO_args {C : String} {s : State} (h : mc_AO (.object C) s) : va_AO C s := h
section MC3
variable {kt : Nat → Option mc_E} {own : Nat} {ini : Bool} {ret : Option FieldType} {cc : ByteArray}
variable {G : mc_G} {p : Program} {l : Launch} {e : Env} {R : Room} {s : State} {m : MethodId} {args : Array Value} {below : List Frame} {meth : Method} {c : Code} {Q : State → Prop} {nL l0 z0 : Nat}
variable {pc : Nat} {L : List (Nat × Value)} {st : List Value} {M : mc_M} {S : mc_S}
theorem mc_r_ald (C : mc_X kt G own nL ini ret cc p s m args meth c) {ok : Nat → Bool} (row : ∀ (H : Heap) (locs : List Loc) (cells slots : Nat) (ls : Array Slot) (rest : List Value) (t : Nat) (a : Addr) (cell : Cell) (i : Int32) (v : Value), ok t = true → H[a]? = some cell → s.isArrayOf cell (mc_ty t) → cell.vm ≠ .unknown → ¬ (i < 0 ∨ cell.slots.size ≤ i.toNatClampNeg) → cell.slots[i.toNatClampNeg]? = some v → W p l e R s m args below meth c H locs cells slots Q (F0 m (pc + 1) ls (v :: rest)) → W p l e R s m args below meth c H locs cells slots Q (F0 m pc ls (.int i :: .ref a :: rest)))
    (h : mc_ald kt ok pc L st M = some (.inl S)) (k : mc_W G p l e R s m args below meth c Q nL l0 z0 S) : mc_W G p l e R s m args below meth c Q nL l0 z0 (pc, L, st, M) := by
  obtain ⟨hx, hb, hown, hts, hml, hB, hba, hini, hlk, hret⟩ := C
  unfold mc_ald at h
  split at h
  · next i a r =>
    split at h
    · next q hq =>
      obtain ⟨hok, h⟩ := mc_n_t h
      simp only [Bool.and_eq_true, Bool.or_eq_true, decide_eq_true_eq] at hok
      obtain ⟨⟨hok, hin0⟩, hok7⟩ := hok
      have hin := mc_in_iff hin0
      have hlt : i.toNatClampNeg < q.2.1 := Nat.not_le.mp fun z => hin (Or.inr z)
      rw [mc_go_S h] at k
      intro H locs ls cells slots hH hS hl hc hz
      show W p l e R s m args below meth c H locs cells slots Q (F0 m pc ls (.int i :: .ref (mc_a G a) :: r.map (mc_v G)))
      by_cases ha : a < 256
      · have hq' : kt a = some (.inl (q.1, q.2.1, q.2.2)) := by
          have := hq
          unfold mc_ce at this
          rwa [if_pos ha] at this
        obtain ⟨cell, h1, h2, h3, h4, h5, h6, h7⟩ := (hB.2.2.2.1 a q.1 q.2.1 q.2.2 hq').kept hS.2.1
        rw [mc_a_lo ha]
        refine row H locs cells slots ls _ q.1 _ cell i (mc_v G (q.2.2 i.toNatClampNeg)) hok h1 h2 h3 (fun z => ?_) (h6 _ hlt) (k H locs ls cells slots hH hS hl hc hz)
        rcases z with z | z
        · exact hin (Or.inl z)
        · omega
      · have hq' : M[a - 256]? = some (.inl q) := by
          have := hq
          unfold mc_ce at this
          rwa [if_neg ha] at this
        have h7 := hok7.resolve_left ha
        have hcell : H[mc_a G a]? = some (arrV (G.2.2.1 q.1) q.2.1 (fun j => mc_v G (q.2.2 j))) := hH.at (Nat.not_lt.mp ha) hq' h7
        · refine row H locs cells slots ls _ q.1 _ _ i (mc_v G (q.2.2 i.toNatClampNeg)) hok hcell ((hB.1.2 q.1 _ (mc_tys_at h7)).1 _ _) (fun z => by cases z) ?_ (arrV_read _ _ hlt) (k H locs ls cells slots hH hS hl hc hz)
          rw [arrV_size]
          exact hin
    · cases h
  · cases h
theorem mc_r_ast (C : mc_X kt G own nL ini ret cc p s m args meth c) {ok : Nat → Value → Bool} {w : Nat → Value → Value} (row : ∀ (H : Heap) (locs : List Loc) (cells slots : Nat) (ls : Array Slot) (rest : List Value) (t : Nat) (v : Value) (a : Addr) (cell : Cell) (i : Int32), ok t v = true → H[a]? = some cell → s.isArrayOf cell (mc_ty t) → cell.vm ≠ .unknown → ¬ (i < 0 ∨ cell.slots.size ≤ i.toNatClampNeg) → (∀ H' : Heap, H'[a]? = some (cell.setSlot i.toNatClampNeg (mc_v G (w t v))) → H'.size = H.size → (∀ q : Nat, q ≠ a → H'[q]? = H[q]?) → W p l e R s m args below meth c H' (locs ++ [⟨a, i.toNatClampNeg⟩]) cells slots Q (F0 m (pc + 1) ls rest)) → W p l e R s m args below meth c H locs cells slots Q (F0 m pc ls (mc_v G v :: .int i :: .ref a :: rest)))
    (h7 : ∀ t v, ok t v = true → t < 7) (h : mc_ast kt ok w pc L st M = some (.inl S)) (k : mc_W G p l e R s m args below meth c Q nL l0 z0 S) : mc_W G p l e R s m args below meth c Q nL l0 z0 (pc, L, st, M) := by
  obtain ⟨hx, hb, hown, hts, hml, hB, hba, hini, hlk, hret⟩ := C
  unfold mc_ast at h
  split at h
  · next v i a r =>
    split at h
    · next q hq =>
      obtain ⟨hok, h⟩ := mc_n_t h
      simp only [Bool.and_eq_true, decide_eq_true_eq] at hok
      obtain ⟨⟨ha, hok⟩, hin0⟩ := hok
      have hin := mc_in_iff hin0
      rw [mc_go_S h] at k
      intro H locs ls cells slots hH hS hl hc hz
      have hcell : H[mc_a G a]? = some (arrV (G.2.2.1 q.1) q.2.1 (fun j => mc_v G (q.2.2 j))) := hH.at ha hq (h7 _ _ hok)
      have hk0 : G.2.1 + (a - 256) = mc_a G a := (mc_a_hi ha).symm
      show W p l e R s m args below meth c H locs cells slots Q (F0 m pc ls (mc_v G v :: .int i :: .ref (mc_a G a) :: r.map (mc_v G)))
      refine row H locs cells slots ls _ q.1 v _ _ i hok hcell ((hB.1.2 q.1 _ (mc_tys_at (h7 _ _ hok))).1 _ _) (fun z => by cases z) (by rw [arrV_size]; exact hin) (fun H' f1 f2 f3 => ?_)
      refine k H' _ ls cells slots (hH.set hq ?_ f2 (fun x hx => f3 x (by rw [← hk0]; exact hx))) (hS.put f2 f3 (by rw [← hk0]; exact Nat.le_add_right _ _)) hl (by rw [List.length_set]; exact hc) (by rw [mc_sz_set hq (by simp [mc_es])]; exact hz)
      intro _
      show H'[G.2.1 + (a - 256)]? = some (arrV _ _ _)
      rw [hk0, f1, arrV_store]
      refine congrArg some (congrArg (arrV (G.2.2.1 q.1) q.2.1) (funext fun j => ?_))
      by_cases hj : j = i.toNatClampNeg
      · subst hj
        simp [updV]
      · simp [updV, hj]
    · cases h
  · cases h
theorem mc_r_aast (C : mc_X kt G own nL ini ret cc p s m args meth c) (hd : decode cc pc = .ok (.aastore, 1)) (h : mc_ast kt (mc_isP M) (fun _ v => v) pc L st M = some (.inl S)) (k : mc_W G p l e R s m args below meth c Q nL l0 z0 S) : mc_W G p l e R s m args below meth c Q nL l0 z0 (pc, L, st, M) := by
  obtain ⟨hx, hb, hown, hts, hml, hB, hba, hini, hlk, hret⟩ := C
  unfold mc_ast at h
  split at h
  · next v i a r =>
    split at h
    · next q hq =>
      obtain ⟨hok, h⟩ := mc_n_t h
      simp only [Bool.and_eq_true, decide_eq_true_eq] at hok
      obtain ⟨⟨ha, hok⟩, hin0⟩ := hok
      have hin := mc_in_iff hin0
      rw [mc_go_S h] at k
      unfold mc_isP at hok
      simp only [Bool.and_eq_true, beq_iff_eq] at hok
      obtain ⟨ht, hok⟩ := hok
      split at hok
      · next b h9 =>
        simp only [Bool.and_eq_true, decide_eq_true_eq] at hok
        obtain ⟨hb0, hok⟩ := hok
        split at hok
        · next z hz9 =>
          have hz8 : z.1 = 8 := by simpa using hok
          intro H locs ls cells slots hH hS hl hc hz
          have hcell : H[mc_a G a]? = some (arrV (G.2.2.1 q.1) q.2.1 (fun j => mc_v G (q.2.2 j))) := hH.at ha hq (by rw [ht]; decide)
          have hk0 : G.2.1 + (a - 256) = mc_a G a := (mc_a_hi ha).symm
          obtain ⟨r9, g1, cell, q1, q2, q3, q4⟩ := hH.at hb0 hz9
          rw [hz8] at g1 q2
          have hcls := (hB.1.1 8 _ g1).2
          have hr9 := mc_cl_eq g1
          subst hr9
          obtain ⟨kA, comp, k1, k2, k3, -⟩ := (hB.1.2 4 _ (mc_tys_at (by decide))).2
          have hcomp : comp = G.2.2.2.1 8 := Option.some.inj (k3.symm.trans hcls.1)
          subst hcomp
          obtain ⟨kC, hkC, -⟩ := id hcls.2
          rw [ht] at hcell
          show W p l e R s m args below meth c H locs cells slots Q (F0 m pc ls (.ref (mc_a G b) :: .int i :: .ref (mc_a G a) :: r.map (mc_v G)))
          refine W.aast hx hb hcell (fun q h => by cases h) (fun h => by cases h) k1 k2 rfl hkC ⟨fun h => hin (Or.inl h), by rw [arrV_size]; exact Nat.not_le.mp fun h => hin (Or.inr h)⟩ q1 (fun q h => by rw [q3] at h; cases h) (by rw [q2]; exact hkC) (by rw [q2]; exact va_assign hcls) rfl rfl hd fun H' f1 f2 f3 => ?_
          refine k H' _ ls cells slots (hH.set hq ?_ f2 (fun x hx => f3 x (by rw [← hk0]; exact hx))) (hS.put f2 f3 (by rw [← hk0]; exact Nat.le_add_right _ _)) hl (by rw [List.length_set]; exact hc) (by rw [mc_sz_set hq (by simp [mc_es])]; exact hz)
          intro _
          show H'[G.2.1 + (a - 256)]? = some (arrV _ _ _)
          rw [hk0, f1, arrV_store, ht]
          refine congrArg some (congrArg (arrV (G.2.2.1 4) q.2.1) (funext fun j => ?_))
          by_cases hj : j = i.toNatClampNeg
          · subst hj
            simp [updV, mc_v]
          · simp [updV, hj]
        · cases hok
      · cases hok
    · cases h
  · cases h
theorem mc_r_len (C : mc_X kt G own nL ini ret cc p s m args meth c) (hd : decode cc pc = .ok (.arraylength, 1)) (h : mc_len kt pc L st M = some (.inl S)) (k : mc_W G p l e R s m args below meth c Q nL l0 z0 S) : mc_W G p l e R s m args below meth c Q nL l0 z0 (pc, L, st, M) := by
  obtain ⟨hx, hb, hown, hts, hml, hB, hba, hini, hlk, hret⟩ := C
  unfold mc_len at h
  split at h
  · next a r =>
    split at h
    · next q hq =>
      obtain ⟨hok, h⟩ := mc_n_t h
      simp only [Bool.or_eq_true, decide_eq_true_eq] at hok
      rw [mc_go_S h] at k
      intro H locs ls cells slots hH hS hl hc hz
      show W p l e R s m args below meth c H locs cells slots Q (F0 m pc ls (.ref (mc_a G a) :: r.map (mc_v G)))
      by_cases ha : a < 256
      · have hq' : kt a = some (.inl (q.1, q.2.1, q.2.2)) := by
          have := hq
          unfold mc_ce at this
          rwa [if_pos ha] at this
        obtain ⟨cell, h1, h2, h3, h4, h5, h6, h7⟩ := (hB.2.2.2.1 a q.1 q.2.1 q.2.2 hq').kept hS.2.1
        rw [mc_a_lo ha]
        exact W.alen (n := Int32.ofNat q.2.1) hx hb h1 h2 h5 rfl rfl hd (k H locs ls cells slots hH hS hl hc hz)
      · have hq' : M[a - 256]? = some (.inl q) := by
          have := hq
          unfold mc_ce at this
          rwa [if_neg ha] at this
        have hcell : H[mc_a G a]? = some (arrV (G.2.2.1 q.1) q.2.1 (fun j => mc_v G (q.2.2 j))) := hH.at (Nat.not_lt.mp ha) hq' (hok.resolve_left ha)
        exact W.alen (n := Int32.ofNat q.2.1) hx hb hcell ((hB.1.2 q.1 _ (mc_tys_at (hok.resolve_left ha))).1 _ _) (by rw [arrV_size]) rfl rfl hd (k H locs ls cells slots hH hS hl hc hz)
    · cases h
  · cases h
theorem mc_new1 {H H1 : Heap} {locs : List Loc} {x : mc_E} (hba : G.2.1 ≤ s.heap.size) (hS : va_S (mc_A G) s.heap H locs) (z : H1.size = H.size + 1) (oq : ∀ q : Nat, q < H.size → H1[q]? = H[q]?) : va_S (mc_A G) s.heap H1 locs :=
  ⟨Nat.le_trans hS.1 (by omega), fun q h1 h2 => (oq q (Nat.lt_of_lt_of_le h1 hS.1)).trans (hS.2.1 q h1 h2), hS.2.2⟩
theorem mc_r_newa (C : mc_X kt G own nL ini ret cc p s m args meth c) {a : ArrayType} (hd : decode cc pc = .ok (.newarray a, 2)) (h : mc_newa a pc L st M = some (.inl S)) (hR : S.2.2.2.length ≤ R.cells + l0 ∧ mc_sz S.2.2.2 ≤ R.slots + z0) (k : mc_W G p l e R s m args below meth c Q nL l0 z0 S) : mc_W G p l e R s m args below meth c Q nL l0 z0 (pc, L, st, M) := by
  obtain ⟨hx, hb, hown, hts, hml, hB, hba, hini, hlk, hret⟩ := C
  unfold mc_newa at h
  split at h
  · next n r =>
    split at h
    · next t ht =>
      obtain ⟨hok, h⟩ := mc_n_t h
      simp only [Bool.and_eq_true, decide_eq_true_eq] at hok
      obtain ⟨hn, hN⟩ := hok
      rw [mc_go_S h] at k hR
      have hty : newarray.typeOf a = mc_ty t ∧ t < 4 ∧ componentBytes (mc_ty t) ≤ 8 ∧ Cond.arrayClass (newarray.typeOf a) ∈ mc_ws := by
        cases a <;> simp only [mc_tag, Option.some.injEq, reduceCtorEq] at ht <;> subst ht
        · exact ⟨rfl, by decide, by decide, mc_at_mem mc_ac_boolean⟩
        · exact ⟨rfl, by decide, by decide, mc_at_mem mc_ac_byte⟩
        · exact ⟨rfl, by decide, by decide, mc_at_mem mc_ac_int⟩
        · exact ⟨rfl, by decide, by decide, mc_at_mem mc_ac_long⟩
      obtain ⟨e1, e2, e3, e4⟩ := hty
      intro H locs ls cells slots hH hS hl hc hz
      have hc : cells + l0 = M.length := hc
      have hz : slots + z0 = mc_sz M := hz
      have hlen : (M ++ [(Sum.inl (t, n.toNatClampNeg, fun _ => defaultValue (mc_ty t)) : mc_E)]).length = M.length + 1 := by rw [List.length_append]; rfl
      have hsz : mc_sz (M ++ [(Sum.inl (t, n.toNatClampNeg, fun _ => defaultValue (mc_ty t)) : mc_E)]) = mc_sz M + n.toNatClampNeg := by rw [mc_sz_app, mc_sz_one]; rfl
      have hR1 : M.length + 1 ≤ R.cells + l0 := by have := hR.1; rw [← hlen]; exact this
      have hR2 : mc_sz M + n.toNatClampNeg ≤ R.slots + z0 := by have := hR.2; rw [← hsz]; exact this
      refine va_newaK hx hb (hts _ e4) rfl hd rfl hn rfl (Nat.le_trans (Nat.mul_le_mul hN (by rw [e1]; exact e3)) (Nat.le_of_ble_eq_true rfl)) (by omega) (by omega) rfl fun H1 cA f1 f2 f3 hAr hNm => ?_
      have hcA : cA = G.2.2.1 t := by
        have h9 := (hB.1.2 t _ (mc_tys_at (by omega))).2
        rw [e1] at hNm
        have h10 : s.vm.findClass ("[" ++ (mc_ty t).toString) = some (G.2.2.1 t) := by
          match t, e2, h9 with
          | 0, _, h9 => exact h9
          | 1, _, h9 => exact h9
          | 2, _, h9 => exact h9
          | 3, _, h9 => exact h9
        exact Option.some.inj (hNm.symm.trans h10)
      have k := k H1 locs ls (cells + 1) (slots + n.toNatClampNeg) (hH.push (by
        intro _
        show H1[H.size]? = some (arrV _ _ _)
        rw [f1, hcA, e1]
        congr 2
        funext j
        match t, e2 with
        | 0, _ => rfl
        | 1, _ => rfl
        | 2, _ => rfl
        | 3, _ => rfl) f2 f3) (mc_new1 (x := Sum.inl (0, 0, fun _ => .null)) hba hS f2 f3) hl (by rw [hlen]; omega) (by rw [hsz]; omega)
      have hv : mc_v G (.ref (256 + M.length)) = .ref H.size := by
        show Value.ref _ = _
        rw [mc_a_new, hH.1]
      have k' : W p l e R s m args below meth c H1 locs (cells + 1) (slots + n.toNatClampNeg) Q (F0 m (pc + 2) ls (mc_v G (.ref (256 + M.length)) :: r.map (mc_v G))) := k
      rw [hv] at k'
      exact k'
    · cases h
  · cases h
theorem mc_r_anew (C : mc_X kt G own nL ini ret cc p s m args meth c) {idx : Nat} (hd : decode cc pc = .ok (.anewarray idx, 3)) (h : mc_anew own idx pc L st M = some (.inl S)) (hR : S.2.2.2.length ≤ R.cells + l0 ∧ mc_sz S.2.2.2 ≤ R.slots + z0) (k : mc_W G p l e R s m args below meth c Q nL l0 z0 S) : mc_W G p l e R s m args below meth c Q nL l0 z0 (pc, L, st, M) := by
  obtain ⟨hx, hb, hown, hts, hml, hB, hba, hini, hlk, hret⟩ := C
  unfold mc_anew at h
  split at h
  · next n r =>
    split at h
    · next en he =>
      obtain ⟨hok, h⟩ := mc_n_t h
      simp only [Bool.and_eq_true, decide_eq_true_eq, beq_iff_eq] at hok
      obtain ⟨⟨h8, hn⟩, hN⟩ := hok
      rw [mc_go_S h] at k hR
      obtain ⟨r9, hr9, hm⟩ := mc_getD_mem (mc_find_mem he)
      have hw : Cond.classLink (mc_cn own) idx (mc_cn 8) ∈ mc_ws := by
        have h9 := mc_at_mem (mc_each_at mc_kl_ok hr9 hm)
        rw [← h8]
        exact h9
      intro H locs ls cells slots hH hS hl hc hz
      have hc : cells + l0 = M.length := hc
      have hz : slots + z0 = mc_sz M := hz
      have hlen : (M ++ [(Sum.inl (4, n.toNatClampNeg, fun _ => .null) : mc_E)]).length = M.length + 1 := by rw [List.length_append]; rfl
      have hsz : mc_sz (M ++ [(Sum.inl (4, n.toNatClampNeg, fun _ => .null) : mc_E)]) = mc_sz M + n.toNatClampNeg := by rw [mc_sz_app, mc_sz_one]; rfl
      have hR1 : M.length + 1 ≤ R.cells + l0 := by have := hR.1; rw [← hlen]; exact this
      have hR2 : mc_sz M + n.toNatClampNeg ≤ R.slots + z0 := by have := hR.2; rw [← hsz]; exact this
      refine W.anew hx hb hown (hts _ hw) (va_AO.use (C := "StrikeAwake$Person") (A := args) (mc_AO_args hB.2.1.1)) rfl hd rfl hn (Nat.le_trans (Nat.mul_le_mul hN (Nat.le_refl 4)) (Nat.le_of_ble_eq_true rfl)) (by omega) (by omega) fun cA kA comp f1 f2 f3 f4 => ?_
      generalize hH1 : H.push ({ cls := cA, slots := Array.replicate n.toNatClampNeg .null, vm := .none } : Cell) = H1
      have y1 : H1.size = H.size + 1 := by rw [← hH1, Array.size_push]
      have y2 : H1[H.size]? = some (arrV cA n.toNatClampNeg (fun _ => .null)) := by rw [← hH1, Array.getElem?_push_size, ← arrV_new]
      have y3 : ∀ q : Nat, q < H.size → H1[q]? = H[q]? := fun q hq => by rw [← hH1, Array.getElem?_push, if_neg (Nat.ne_of_lt hq)]
      have hcA : cA = G.2.2.1 4 := by
        obtain ⟨kA', comp', -, -, -, h10⟩ := (hB.1.2 4 _ (mc_tys_at (by decide))).2
        exact Option.some.inj (f1.symm.trans h10)
      have k' : W p l e R s m args below meth c H1 locs (cells + 1) (slots + n.toNatClampNeg) Q (F0 m (pc + 3) ls (mc_v G (.ref (256 + M.length)) :: r.map (mc_v G))) := k H1 locs ls (cells + 1) (slots + n.toNatClampNeg) (hH.push (by
        intro _
        show H1[H.size]? = some (arrV _ _ _)
        rw [y2, hcA]
        rfl) y1 y3) (mc_new1 (x := Sum.inl (0, 0, fun _ => .null)) hba hS y1 y3) hl (by rw [hlen]; omega) (by rw [hsz]; omega)
      have hv : mc_v G (.ref (256 + M.length)) = .ref H.size := by
        show Value.ref _ = _
        rw [mc_a_new, hH.1]
      rw [hv] at k'
      exact k'
    · cases h
  · cases h
theorem mc_def_v {ty : FieldType} : mc_v G (defaultValue ty) = defaultValue ty := by cases ty <;> rfl
theorem mc_r_new (C : mc_X kt G own nL ini ret cc p s m args meth c) {idx : Nat} (hd : decode cc pc = .ok (.new idx, 3)) (h : mc_new own idx pc L st M = some (.inl S)) (hR : S.2.2.2.length ≤ R.cells + l0 ∧ mc_sz S.2.2.2 ≤ R.slots + z0) (k : mc_W G p l e R s m args below meth c Q nL l0 z0 S) : mc_W G p l e R s m args below meth c Q nL l0 z0 (pc, L, st, M) := by
  obtain ⟨hx, hb, hown, hts, hml, hB, hba, hini, hlk, hret⟩ := C
  unfold mc_new at h
  split at h
  · next en he =>
    obtain ⟨hok, h⟩ := mc_n_t h
    simp only [decide_eq_true_eq] at hok
    rw [mc_go_S h] at k hR
    obtain ⟨r9, hr9, hm⟩ := mc_getD_mem (mc_find_mem he)
    have hw : Cond.classLink (mc_cn own) idx (mc_cn en.1) ∈ mc_ws := mc_at_mem (mc_each_at mc_kl_ok hr9 hm)
    intro H locs ls cells slots hH hS hl hc hz
    have hc : cells + l0 = M.length := hc
    have hz : slots + z0 = mc_sz M := hz
    generalize hfs : (List.range (mc_N.getD en.1 0)).map (fun k => defaultValue (mc_t en.1 k)) = fs at k hR
    have hfl : fs.length = mc_N.getD en.1 0 := by rw [← hfs, List.length_map, List.length_range]
    have hlen : (M ++ [(Sum.inr (en.1, fs) : mc_E)]).length = M.length + 1 := by rw [List.length_append]; rfl
    have hsz : mc_sz (M ++ [(Sum.inr (en.1, fs) : mc_E)]) = mc_sz M + mc_N.getD en.1 0 := by rw [mc_sz_app, mc_sz_one, ← hfl]; rfl
    have hR1 : M.length + 1 ≤ R.cells + l0 := by have := hR.1; rw [← hlen]; exact this
    have hR2 : mc_sz M + mc_N.getD en.1 0 ≤ R.slots + z0 := by have := hR.2; rw [← hsz]; exact this
    have hKn := hB.1.1 en.1 _ (mc_cl_at en.1 hok)
    refine W.newcK hx hb hown (hts _ hw) (hts _ (mc_inst hok).1) (hts _ (mc_inst hok).2) rfl hd (by omega) (by omega) hKn.2.1 rfl fun H1 kC hkC f1 f2 f3 => ?_
    have k' : W p l e R s m args below meth c H1 locs (cells + 1) (slots + mc_N.getD en.1 0) Q (F0 m (pc + 3) ls (mc_v G (.ref (256 + M.length)) :: st.map (mc_v G))) := k H1 locs ls (cells + 1) (slots + mc_N.getD en.1 0) (hH.push (by
      refine ⟨_, mc_cl_at en.1 hok, (u_born (mc_t en.1) hts (mc_in_ws hok) hKn hkC f1 (fun j hj => (mc_ck_k hok hj).2.1)).to fun j hj => ?_⟩
      rw [← hfs]
      have hj' : j < mc_N.getD en.1 0 := hj
      simp only [vp_V, List.map_map, List.getD_eq_getElem?_getD, List.getElem?_map]
      rw [List.getElem?_range (by rw [← List.getD_eq_getElem?_getD]; exact hj')]
      exact mc_def_v.symm) f2 f3) (mc_new1 (x := Sum.inl (0, 0, fun _ => .null)) hba hS f2 f3) hl (by rw [hlen]; omega) (by rw [hsz]; omega)
    have hv : mc_v G (.ref (256 + M.length)) = .ref H.size := by
      show Value.ref _ = _
      rw [mc_a_new, hH.1]
    rw [hv] at k'
    exact k'
  · cases h
theorem mc_r_gs (C : mc_X kt G own nL ini ret cc p s m args meth c) {idx : Nat} (hd : decode cc pc = .ok (.getstatic idx, 3)) (h : mc_gs own idx pc L st M = some (.inl S)) (k : mc_W G p l e R s m args below meth c Q nL l0 z0 S) : mc_W G p l e R s m args below meth c Q nL l0 z0 (pc, L, st, M) := by
  obtain ⟨hx, hb, hown, hts, hml, hB, hba, hini, hlk, hret⟩ := C
  unfold mc_gs at h
  split at h
  · next en he =>
    split at h
    · next q hq =>
      rw [mc_go_S h] at k
      obtain ⟨r9, hr9, hm⟩ := mc_getD_mem (mc_find_mem he)
      have h1 := mc_each_at mc_sl_ok hr9 hm
      have hZ := hB.2.2.2.2.2.1 q (List.mem_of_getElem? hq)
      obtain ⟨j, nest, host, pl⟩ := en
      intro H locs ls cells slots hH hS hl hc hz
      have k' := k H locs ls cells slots hH hS hl hc hz
      cases nest with
      | false =>
        have hw := hts _ (mc_tb_ws (w := mc_sw own (idx, j, false, host, pl)) h1)
        unfold mc_sw at hw
        dsimp only at hq hw
        rw [hq] at hw
        exact va_gets hx hb hZ hS hown hw (fun _ h => h) hd k'
      | true =>
        have hw := hB.2.2.1.2.2 own r9 hr9 _ hm rfl
        unfold mc_sw at hw
        dsimp only at hq hw
        rw [hq] at hw
        exact va_getsN hx hb hZ hS hown (va_Nw.use rfl hw) (fun _ h => h) hd k'
    · cases h
  · cases h
theorem mc_r_ldc (C : mc_X kt G own nL ini ret cc p s m args meth c) {idx : Nat} (hd : decode cc pc = .ok (.ldc idx, 2)) (h : mc_ldc own idx 2 pc L st M = some (.inl S)) (k : mc_W G p l e R s m args below meth c Q nL l0 z0 S) : mc_W G p l e R s m args below meth c Q nL l0 z0 (pc, L, st, M) := by
  obtain ⟨hx, hb, hown, hts, hml, hB, hba, hini, hlk, hret⟩ := C
  unfold mc_ldc at h
  split at h
  · next en he =>
    obtain ⟨hok, h⟩ := mc_n_t h
    rw [mc_go_S h] at k
    obtain ⟨r9, hr9, hm⟩ := mc_getD_mem (mc_find_mem he)
    have h1 := mc_at_mem (mc_each_at mc_cs_ok hr9 hm)
    obtain ⟨v, pl⟩ := en
    intro H locs ls cells slots hH hS hl hc hz
    have k' := k H locs ls cells slots hH hS hl hc hz
    cases v with
    | int x => exact lv_ldc hx hb hown (hts _ h1) hd k'
    | _ => cases hok
  · split at h
    · next q hq =>
      rw [mc_go_S h] at k
      have hmem := List.mem_of_find?_eq_some hq
      have hp := List.find?_some hq
      simp only [Bool.and_eq_true, beq_iff_eq] at hp
      have hR := hB.2.2.2.2.2.2.1 q hmem
      rw [hp.1, hp.2] at hR
      intro H locs ls cells slots hH hS hl hc hz
      exact va_ldcS hx hb hown hR hd (k H locs ls cells slots hH hS hl hc hz)
    · cases h
theorem mc_r_ldc2 (C : mc_X kt G own nL ini ret cc p s m args meth c) {idx : Nat} (hd : decode cc pc = .ok (.ldc2_w idx, 3)) (h : mc_ldc2 own idx pc L st M = some (.inl S)) (k : mc_W G p l e R s m args below meth c Q nL l0 z0 S) : mc_W G p l e R s m args below meth c Q nL l0 z0 (pc, L, st, M) := by
  obtain ⟨hx, hb, hown, hts, hml, hB, hba, hini, hlk, hret⟩ := C
  unfold mc_ldc2 at h
  split at h
  · next en he =>
    obtain ⟨hok, h⟩ := mc_n_t h
    rw [mc_go_S h] at k
    obtain ⟨r9, hr9, hm⟩ := mc_getD_mem (mc_find_mem he)
    have h1 := mc_at_mem (mc_each_at mc_cs_ok hr9 hm)
    obtain ⟨v, pl⟩ := en
    intro H locs ls cells slots hH hS hl hc hz
    have k' := k H locs ls cells slots hH hS hl hc hz
    cases v with
    | long x => exact lv_ldc2 hx hb hown (hts _ h1) hd k'
    | _ => cases hok
  · cases h
theorem mc_r_tsw (C : mc_X kt G own nL ini ret cc p s m args meth c) {dflt lo hi : Int} {offs : Array Int} {len : Nat} (hd : decode cc pc = .ok (.tableswitch dflt lo hi offs, len)) (h : mc_tsw dflt lo hi offs pc L st M = some (.inl S)) (k : mc_W G p l e R s m args below meth c Q nL l0 z0 S) : mc_W G p l e R s m args below meth c Q nL l0 z0 (pc, L, st, M) := by
  obtain ⟨hx, hb, hown, hts, hml, hB, hba, hini, hlk, hret⟩ := C
  unfold mc_tsw at h
  split at h
  · next x r =>
    split at h
    · next ho =>
      unfold mc_jp at h
      split at h
      · next h0 =>
        rw [mc_go_S h] at k
        exact fun H locs ls cells slots hH hS hl hc hz => lv_tableOut hx hb hd ho (Int.toNat_of_nonneg h0).symm (k H locs ls cells slots hH hS hl hc hz)
      · cases h
    · next ho =>
      split at h
      · next off hoff =>
        unfold mc_jp at h
        split at h
        · next h0 =>
          rw [mc_go_S h] at k
          exact fun H locs ls cells slots hH hS hl hc hz => lv_tableIn hx hb hd (fun z => ho (Or.inl z)) (fun z => ho (Or.inr z)) hoff (Int.toNat_of_nonneg h0).symm (k H locs ls cells slots hH hS hl hc hz)
        · cases h
      · cases h
  · cases h
end MC3
end
section
/-! THE MINI MACHINE'S CALLS ARE THE MACHINE'S (own work, over the kit's rows) -/
theorem mc_mk_all {k : Nat} {q : Nat × MethodName × ByteArray × Nat × Option FieldType × Nat × Nat} (h : mc_mt k = some q) : mc_mk k = true := by
  have h0 := h
  unfold mc_mt at h
  split at h
  · next hb =>
    have hlt : k % 32 < 32 := (List.getElem?_eq_some_iff.mp h).1
    have h1 := List.all_eq_true.mp mc_mk_0 (k % 32) (List.mem_range.mpr hlt)
    have e1 : 0 + k % 32 = k := by omega
    rw [e1] at h1
    exact h1
  · next hb =>
    have hlt : k % 32 < 32 := (List.getElem?_eq_some_iff.mp h).1
    have h1 := List.all_eq_true.mp mc_mk_1 (k % 32) (List.mem_range.mpr hlt)
    have e1 : 32 + k % 32 = k := by omega
    rw [e1] at h1
    exact h1
  · next hb =>
    have hlt : k % 32 < 32 := (List.getElem?_eq_some_iff.mp h).1
    have h1 := List.all_eq_true.mp mc_mk_2 (k % 32) (List.mem_range.mpr hlt)
    have e1 : 64 + k % 32 = k := by omega
    rw [e1] at h1
    exact h1
  · next hb =>
    have hlt : k % 32 < 32 := (List.getElem?_eq_some_iff.mp h).1
    have h1 := List.all_eq_true.mp mc_mk_3 (k % 32) (List.mem_range.mpr hlt)
    have e1 : 96 + k % 32 = k := by omega
    rw [e1] at h1
    exact h1
  · next hb =>
    have hlt : k % 32 < 32 := (List.getElem?_eq_some_iff.mp h).1
    have h1 := List.all_eq_true.mp mc_mk_4 (k % 32) (List.mem_range.mpr hlt)
    have e1 : 128 + k % 32 = k := by omega
    rw [e1] at h1
    exact h1
  · next hb =>
    have hlt : k % 32 < 32 := (List.getElem?_eq_some_iff.mp h).1
    have h1 := List.all_eq_true.mp mc_mk_5 (k % 32) (List.mem_range.mpr hlt)
    have e1 : 160 + k % 32 = k := by omega
    rw [e1] at h1
    exact h1
  · next hb =>
    have hlt : k % 32 < 32 := (List.getElem?_eq_some_iff.mp h).1
    have h1 := List.all_eq_true.mp mc_mk_6 (k % 32) (List.mem_range.mpr hlt)
    have e1 : 192 + k % 32 = k := by omega
    rw [e1] at h1
    exact h1
  · next hb =>
    have hlt : k % 32 < 32 := (List.getElem?_eq_some_iff.mp h).1
    have h1 := List.all_eq_true.mp mc_mk_7 (k % 32) (List.mem_range.mpr hlt)
    have e1 : 224 + k % 32 = k := by omega
    rw [e1] at h1
    exact h1
  · next hb =>
    have hlt : k % 32 < 32 := (List.getElem?_eq_some_iff.mp h).1
    have h1 := List.all_eq_true.mp mc_mk_8 (k % 32) (List.mem_range.mpr hlt)
    have e1 : 256 + k % 32 = k := by omega
    rw [e1] at h1
    exact h1
  · next hb =>
    have hlt : k % 32 < 8 := (List.getElem?_eq_some_iff.mp h).1
    have h1 := List.all_eq_true.mp mc_mk_9 (k % 32) (List.mem_range.mpr hlt)
    have e1 : 288 + k % 32 = k := by omega
    rw [e1] at h1
    exact h1
  · cases h
theorem mc_code_of {mi : List ((Nat × Nat) × (Nat × Nat) × (Nat × Nat) × (Nat × Nat))} {mt : List (Nat × MethodName × ByteArray × Nat × Option FieldType × Nat × Nat)} (h : mi.map (fun i => (mc_ch i.1.1)[i.1.2]?) = mt.map (fun q => some (Cond.code q.2.1 q.2.2.1 q.2.2.2.1 q.2.2.2.2.1))) {j : Nat} {q : Nat × MethodName × ByteArray × Nat × Option FieldType × Nat × Nat} (hq : mt[j]? = some q) : Cond.code q.2.1 q.2.2.1 q.2.2.2.1 q.2.2.2.2.1 ∈ mc_ws := by
  have h1 : (mi.map (fun i => (mc_ch i.1.1)[i.1.2]?))[j]? = some (some (Cond.code q.2.1 q.2.2.1 q.2.2.2.1 q.2.2.2.2.1)) := by rw [h, List.getElem?_map, hq]; rfl
  rw [List.getElem?_map] at h1
  cases hi : mi[j]? with
  | none => rw [hi] at h1; cases h1
  | some i =>
    rw [hi] at h1
    exact List.mem_filter.mpr ⟨mc_ch_sub _ _ (List.mem_of_getElem? (Option.some.inj h1)), rfl⟩
theorem mc_code_mem {k : Nat} {q : Nat × MethodName × ByteArray × Nat × Option FieldType × Nat × Nat} (h : mc_mt k = some q) : Cond.code q.2.1 q.2.2.1 q.2.2.2.1 q.2.2.2.2.1 ∈ mc_ws := by
  unfold mc_mt at h
  split at h
  · exact mc_code_of mc_cw_0 h
  · exact mc_code_of mc_cw_1 h
  · exact mc_code_of mc_cw_2 h
  · exact mc_code_of mc_cw_3 h
  · exact mc_code_of mc_cw_4 h
  · exact mc_code_of mc_cw_5 h
  · exact mc_code_of mc_cw_6 h
  · exact mc_code_of mc_cw_7 h
  · exact mc_code_of mc_cw_8 h
  · exact mc_code_of mc_cw_9 h
  · cases h
/-- what the tables say of method k -/
theorem mc_mfacts {k : Nat} {q : Nat × MethodName × ByteArray × Nat × Option FieldType × Nat × Nat} (h : mc_mt k = some q) :
    Cond.code q.2.1 q.2.2.1 q.2.2.2.1 q.2.2.2.2.1 ∈ mc_ws ∧ (q.2.2.2.2.2.2 = 0 → Cond.static q.2.1 ∈ mc_ws) ∧ (q.2.2.2.2.2.2 ≠ 0 → Cond.instanceMethod q.2.1 ∈ mc_ws) ∧ (q.2.2.2.2.2.2 = 1 → Cond.selects (mc_cn q.1) q.2.1 q.2.1 ∈ mc_ws) ∧ Cond.initialized (mc_cn q.1) ∈ mc_ws ∧ q.2.1.cls = mc_cn q.1 ∧ (q.2.2.2.2.2.2 = 2 → q.2.1.name = "<init>") ∧ plainName q.2.1.cls = true ∧ (q.2.1.cls ≠ "java/lang/invoke/MethodHandle" ∧ q.2.1.cls ≠ "java/lang/invoke/VarHandle") ∧ (parseMethodDescriptor q.2.1.desc).map (fun d => d.parameters.length) = some q.2.2.2.2.2.1 ∧ q.2.2.2.1 ≤ 13 := by
  have h1 := mc_mk_all h
  unfold mc_mk at h1
  rw [h] at h1
  obtain ⟨own, y, b, n, r, np, sort⟩ := q
  cases hi : mc_mi k with
  | none => rw [hi] at h1; cases h1
  | some z =>
    obtain ⟨i1, i2, i3, i4⟩ := z
    rw [hi] at h1
    simp only [Bool.and_eq_true, Bool.or_eq_true, decide_eq_true_eq] at h1
    obtain ⟨⟨⟨⟨⟨⟨⟨⟨⟨a2, a3⟩, a4⟩, a5⟩, a6⟩, a7⟩, a8⟩, a9⟩, a10⟩, a11⟩ := h1
    refine ⟨mc_code_mem h, fun hs => ?_, fun hs => ?_, fun hs => mc_at_mem (a3.resolve_left (fun z => z hs)), mc_at_mem a4, a5, fun hs => a6.resolve_left (fun z => z hs), a7, ⟨a8, a9⟩, a10, a11⟩
    · have hs' : sort = 0 := hs
      rw [if_pos hs'] at a2
      exact mc_at_mem a2
    · have hs' : ¬ sort = 0 := hs
      rw [if_neg hs'] at a2
      exact mc_at_mem a2
def mc_le (M N : mc_M) : Prop := M.length ≤ N.length ∧ mc_sz M ≤ mc_sz N
def mc_Pc (kt : Nat → Option mc_E) (G : mc_G) (M : mc_M) (as : List Value) : Array Value → State → Prop := va_Pc (as.map (mc_v G)) (fun U => mc_H G M U.heap ∧ mc_B kt G U U.heap)
def mc_Qc (G : mc_G) (w : mc_R) : Array Value → State → Outcome → State → Prop := fun _ st o t => o = .returned (w.1.map (mc_v G)) ∧ mc_H G w.2 t.heap ∧ va_F (mc_A G) st t
def mc_rm (d : Nat) (M N : mc_M) : Room := { frames := d, cells := N.length - M.length, slots := mc_sz N - mc_sz M, locals := 36 * d }
/-- method q's contract at one run of the mini machine -/
def mc_Met (l : Launch) (kt : Nat → Option mc_E) (G : mc_G) (d : Nat) (q : Nat × MethodName × ByteArray × Nat × Option FieldType × Nat × Nat) (as : List Value) (M : mc_M) (w : mc_R) : Prop :=
  Met l q.2.1 (Cond.code q.2.1 q.2.2.1 q.2.2.2.1 q.2.2.2.2.1 :: mc_ws) (mc_rm d M w.2) (mc_Pc kt G M as) (mc_Qc G w) (w.2.length - M.length) (mc_sz w.2 - mc_sz M) (mc_A G)
theorem mc_pay {s : State} {args : Array Value} {x : Cond} (hts : ∀ w ∈ mc_ws, w.before args s = true) (hx : x ∈ mc_ws) : ∀ w ∈ x :: mc_ws, ∀ (a' : Array Value) (U : State), s.WarmedH U.vm → w.before a' U = true := by
  refine pay_in hts fun w hw => ?_
  rcases List.mem_cons.mp hw with rfl | hw
  · exact ⟨hx, good_of_word (mc_ws_good _ hx)⟩
  · exact ⟨hw, good_of_word (mc_ws_good _ hw)⟩
theorem mc_blind {kt : Nat → Option mc_E} {G : mc_G} {M : mc_M} {as : List Value} : FrameBlind (mc_Pc kt G M as) := by
  intro a U g mk ⟨h1, h2, h3⟩
  exact ⟨h1, h2, mc_B.same (s := U) (U := U.calling g mk a) rfl h3⟩
theorem mc_npar {y : MethodName} {n : Nat} (h : (parseMethodDescriptor y.desc).map (fun d => d.parameters.length) = some n) : ∀ sig, parseMethodDescriptor y.desc = some sig → n = sig.parameters.length := fun sig hs => by
  rw [hs] at h
  exact (Option.some.inj h).symm
section MC4
variable {kt : Nat → Option mc_E} {own : Nat} {ini : Bool} {ret : Option FieldType} {cc : ByteArray}
variable {G : mc_G} {p : Program} {l : Launch} {e : Env} {R : Room} {s : State} {m : MethodId} {args : Array Value} {below : List Frame} {meth : Method} {c : Code} {Q : State → Prop} {nL l0 z0 : Nat}
variable {pc : Nat} {L : List (Nat × Value)} {st : List Value} {M : mc_M} {S : mc_S}
theorem mc_mword (hts : ∀ w ∈ mc_ws, w.before args s = true) (hN : mc_NW s) {idx : Nat} {en : Nat × Bool × String × Nat × Nat} {q : Nat × MethodName × ByteArray × Nat × Option FieldType × Nat × Nat} (h : mc_find (mc_ml.getD own []) idx = some en) (hq : mc_mt en.1 = some q) :
    (Cond.methodLink (mc_cn own) idx q.2.1).before args s = true ∨ ∃ host, (Cond.methodLinkNest (mc_cn own) idx q.2.1 host).before args s = true := by
  obtain ⟨r, hr, hm⟩ := mc_getD_mem (mc_find_mem h)
  have h1 := mc_each_at mc_ml_ok hr hm
  obtain ⟨k, nest, host, pl⟩ := en
  have hy : mc_yn k = q.2.1 := by
    unfold mc_yn
    rw [show mc_mt k = some q from hq]
  cases nest with
  | false =>
    have h2 := hts _ (mc_tb_ws (w := mc_mw own (idx, k, false, host, pl)) h1)
    have h3 : (Cond.methodLink (mc_cn own) idx (mc_yn k)).before args s = true := h2
    rw [hy] at h3
    exact Or.inl h3
  | true =>
    have h2 := hN.2.1 own r hr _ hm rfl
    have h3 : va_Nw (Cond.methodLinkNest (mc_cn own) idx (mc_yn k) host) s := h2
    rw [hy] at h3
    exact Or.inr ⟨host, va_Nw.use rfl h3⟩
theorem mc_pre (C : mc_X kt G own nL ini ret cc p s m args meth c) {H : Heap} {locs : List Loc} (hH : mc_H G M H) (hS : va_S (mc_A G) s.heap H locs) {as : List Value} {U : State} (hU : U.heap = H) (hW : s.WarmedH U.vm) : mc_Pc kt G M as (as.map (mc_v G)).toArray U := by
  refine ⟨rfl, by rw [hU]; exact hH, ?_⟩
  refine mc_B.moved hW ?_
  rw [hU]
  exact C.2.2.2.2.2.1.kept hS.2.1
theorem mc_after {H : Heap} {locs : List Loc} {cells slots : Nat} {ls : Array Slot} {st0 rest : List Value} {a : Array Value} {w : mc_R} (hS : va_S (mc_A G) s.heap H locs)
    (hr : va_Run p l e R s m args below meth c H locs cells slots (w.2.length - M.length) (mc_sz w.2 - mc_sz M) (F0 m pc ls st0) (rest.map (mc_v G)) (mc_Qc G w a) (mc_A G)) (hle : mc_le M w.2) (hl : lv_has ls nL (mc_L G L)) (hc : cells + l0 = M.length) (hz : slots + z0 = mc_sz M)
    (k : mc_W G p l e R s m args below meth c Q nL l0 z0 (pc + 3, L, mc_rs w.1 ++ rest, w.2)) : W p l e R s m args below meth c H locs cells slots Q (F0 m pc ls st0) := by
  intro T hT X
  obtain ⟨v, st₀, t, T', Lx, h0, X', hL, e1, e2, ⟨hv, hH1, hz1, hk1⟩, stp⟩ := hr T hT X
  cases Outcome.returned.inj hv
  rw [h0] at hz1 hk1
  obtain ⟨t2, a1, b1⟩ := k T'.heap (locs ++ Lx) ls (cells + (w.2.length - M.length)) (slots + (mc_sz w.2 - mc_sz M)) (by rw [e1]; exact hH1)
    ⟨Nat.le_trans hS.1 (by rw [e1]; exact hz1), fun q h1 h2 => by rw [e1, hk1 q (Nat.lt_of_lt_of_le h1 hS.1) h2]; exact hS.2.1 q h1 h2, fun q hq => by
      rcases List.mem_append.mp hq with h | h
      · exact hS.2.2 q h
      · exact hL q h⟩ hl (by have := hle.1; show _ = w.2.length; omega) (by have := hle.2; show _ = mc_sz w.2; omega) T' rfl X'
  refine ⟨t2, stp t2 ?_, b1⟩
  have ee : (w.1.map (mc_v G)).toList ++ rest.map (mc_v G) = (mc_rs w.1 ++ rest).map (mc_v G) := by
    cases w.1 <;> simp [mc_rs]
  rw [ee]
  exact a1
end MC4
end
section
section MC5
variable {kt : Nat → Option mc_E} {own : Nat} {ini : Bool} {ret : Option FieldType} {cc : ByteArray}
variable {G : mc_G} {p : Program} {l : Launch} {e : Env} {R : Room} {s : State} {m : MethodId} {args : Array Value} {below : List Frame} {meth : Method} {c : Code} {Q : State → Prop} {nL l0 z0 : Nat}
variable {pc : Nat} {L : List (Nat × Value)} {st : List Value} {M : mc_M} {S : mc_S}
theorem mc_sumcat (G : mc_G) (st : List Value) : ((st.map (mc_v G)).map fun v => v.category).sum = (st.map Value.category).sum := by
  rw [List.map_map]
  congr 1
  apply List.map_congr_left
  intro v _
  exact mc_v_cat G v
/-- what a call's own test says -/
theorem mc_cal_inv {call : Nat → List Value → mc_M → Option mc_R} {sort idx : Nat} (h : mc_cal call own sort idx pc L st M = some (.inl S)) :
    ∃ (en : Nat × Bool × String × Nat × Nat) (q : Nat × MethodName × ByteArray × Nat × Option FieldType × Nat × Nat) (w : mc_R) (n : Nat), mc_find (mc_ml.getD own []) idx = some en ∧ mc_mt en.1 = some q ∧ n = (if sort = 0 then q.2.2.2.2.2.1 else q.2.2.2.2.2.1 + 1) ∧ call en.1 ((st.take n).reverse) M = some w ∧ q.2.2.2.2.2.2 = sort ∧ ((st.drop n).map Value.category).sum ≤ 8 ∧ n ≤ st.length ∧
      (sort ≠ 0 → ∃ (b : Nat) (z : Nat × List Value), st[q.2.2.2.2.2.1]? = some (.ref b) ∧ 256 ≤ b ∧ M[b - 256]? = some (.inr z) ∧ z.1 = q.1) ∧ S = (pc + 3, L, mc_rs w.1 ++ st.drop n, w.2) := by
  unfold mc_cal at h
  split at h
  · next en he =>
    split at h
    · next q hq =>
      split at h
      · next w hw =>
        obtain ⟨hok, h⟩ := mc_n_t h
        simp only [Bool.and_eq_true, beq_iff_eq, decide_eq_true_eq] at hok
        obtain ⟨⟨⟨e1, e2⟩, e3⟩, e4⟩ := hok
        refine ⟨en, q, w, _, he, hq, rfl, hw, e1, e2, e3, fun hs => ?_, mc_go_S h⟩
        have hs' : (sort == 0) = false := by simpa using hs
        rw [hs', Bool.false_or] at e4
        split at e4
        · next b hb =>
          simp only [Bool.and_eq_true, decide_eq_true_eq] at e4
          obtain ⟨e5, e6⟩ := e4
          split at e6
          · next z hz => exact ⟨b, z, hb, e5, hz, by simpa using e6⟩
          · cases e6
        · cases e4
      · cases h
    · cases h
  · cases h
theorem mc_split {n : Nat} {b : Nat} (hb : st[n]? = some (.ref b)) (hn : n + 1 ≤ st.length) : st.map (mc_v G) = ((st.take n).map (mc_v G)) ++ .ref (mc_a G b) :: (st.drop (n + 1)).map (mc_v G) ∧ ((st.take (n + 1)).reverse).map (mc_v G) = .ref (mc_a G b) :: ((st.take n).reverse).map (mc_v G) ∧ ((st.take n).reverse.map (mc_v G)).length = n := by
  have hl : n < st.length := hn
  have hg : st[n] = .ref b := Option.some.inj ((List.getElem?_eq_getElem hl).symm.trans hb)
  refine ⟨?_, ?_, ?_⟩
  · conv => lhs; rw [← List.take_append_drop n st, List.drop_eq_getElem_cons hl, hg]
    rw [List.map_append, List.map_cons]
    rfl
  · rw [List.take_succ_eq_append_getElem hl, hg, List.reverse_append]
    rfl
  · rw [List.length_map, List.length_reverse, List.length_take]
    omega
theorem mc_r_calV (C : mc_X kt G own nL ini ret cc p s m args meth c) {call : Nat → List Value → mc_M → Option mc_R} {d idx : Nat} (IH : ∀ (k : Nat) (q : Nat × MethodName × ByteArray × Nat × Option FieldType × Nat × Nat) (as : List Value) (M : mc_M) (w : mc_R), mc_mt k = some q → call k as M = some w → mc_Met l kt G d q as M w ∧ mc_le M w.2) (hF : d + 1 ≤ R.frames ∧ 36 * (d + 1) ≤ R.locals)
    (hd : decode cc pc = .ok (.invokevirtual idx, 3)) (h : mc_cal call own 1 idx pc L st M = some (.inl S)) (hR : S.2.2.2.length ≤ R.cells + l0 ∧ mc_sz S.2.2.2 ≤ R.slots + z0) (k : mc_W G p l e R s m args below meth c Q nL l0 z0 S) : mc_W G p l e R s m args below meth c Q nL l0 z0 (pc, L, st, M) := by
  obtain ⟨en, q, w, n, he, hq, hn, hw, hso, hsum, hnl, hrc, hS9⟩ := mc_cal_inv h
  rw [hS9] at k hR
  obtain ⟨b, z, hb, hb0, hz9, hzc⟩ := hrc (by decide)
  obtain ⟨hM, hle⟩ := IH en.1 q _ M w hq hw
  obtain ⟨f1, f2, f3, f4, f5, f6, f7, f8, f9, f10, f11⟩ := mc_mfacts hq
  have C0 := C
  obtain ⟨hx, hb9, hown, hts, hml, hB, hba, hini, hlk, hret⟩ := C
  have hn' : n = q.2.2.2.2.2.1 + 1 := hn
  subst hn'
  obtain ⟨g1, g2, g3⟩ := mc_split (G := G) hb hnl
  intro H locs ls cells slots hH hS hl hc hz
  have hc : cells + l0 = M.length := hc
  have hz : slots + z0 = mc_sz M := hz
  have hf : cells + (w.2.length - M.length) ≤ R.cells ∧ slots + (mc_sz w.2 - mc_sz M) ≤ R.slots := by
    have h1 : w.2.length ≤ R.cells + l0 := hR.1
    have h2 : mc_sz w.2 ≤ R.slots + z0 := hR.2
    have := hle.1
    have := hle.2
    exact ⟨by omega, by omega⟩
  have hsz := hl.1
  have hW : 2 * (F0 m pc ls (st.map (mc_v G))).monitorRoom + (((st.drop (q.2.2.2.2.2.1 + 1)).map (mc_v G)).map fun v => v.category).sum ≤ 8 := lv_room (by rw [mc_sumcat]; exact hsum)
  have hrcv : ∃ cellB : Cell, H[mc_a G b]? = some cellB ∧ cellB.vm.isStatics = false ∧ s.vm.findClass (mc_cn q.1) = some cellB.cls := by
    obtain ⟨r9, y1, cell, y2, y3, y4, -⟩ := hH.at hb0 hz9
    have hr9 := mc_cl_eq y1
    subst hr9
    refine ⟨cell, y2, by rw [y4]; rfl, ?_⟩
    rw [y3, ← hzc]
    exact (hB.1.1 z.1 _ y1).2.1
  refine mc_after (w := w) (M := M) (L := L) (nL := nL) (l0 := l0) (z0 := z0) (rest := st.drop (q.2.2.2.2.2.1 + 1)) (a := (Value.ref (mc_a G b) :: ((st.take q.2.2.2.2.2.1).reverse).map (mc_v G)).toArray) hS ?_ hle hl hc hz k
  have hPV : PreV s H (mc_cn q.1) (mc_a G b) (mc_Pc kt G M ((st.take (q.2.2.2.2.2.1 + 1)).reverse)) (((st.take q.2.2.2.2.2.1).reverse).map (mc_v G)) := ⟨mc_blind, hrcv, fun U hU hW => by rw [← g2]; exact mc_pre C0 hH hS hU hW⟩
  have hstk : (F0 m pc ls (st.map (mc_v G))).stack = (((st.take q.2.2.2.2.2.1).reverse).map (mc_v G)).reverse ++ .ref (mc_a G b) :: (st.drop (q.2.2.2.2.2.1 + 1)).map (mc_v G) := by
    show st.map (mc_v G) = _
    rw [g1, ← List.map_reverse, List.reverse_reverse]
  rcases mc_mword hts hB.2.2.1 he hq with hlk9 | ⟨host, hlk9⟩
  · exact va_runV (Ts := mc_ws) ⟨hx, hb9, hml, hown, hts⟩ hM ⟨⟨rfl, rfl, hF.1, by show 8 + (q.2.2.2.1 + 11) + 36 * d ≤ R.locals; have := hF.2; omega, mc_pay hts f1, List.mem_cons_self, hts _ f1, by rw [f6]; exact hts _ f5, f9, mc_npar f10, hlk9⟩, hts _ (f3 (by rw [hso]; decide)), hts _ (f4 hso)⟩ hPV rfl g3 hsz hstk hW hd hf
  · exact va_runVN (Ts := mc_ws) ⟨hx, hb9, hml, hown, hts⟩ hM ⟨⟨⟨rfl, rfl, hF.1, by show 8 + (q.2.2.2.1 + 11) + 36 * d ≤ R.locals; have := hF.2; omega, mc_pay hts f1, List.mem_cons_self⟩, hts _ f1, by rw [f6]; exact hts _ f5, f9, mc_npar f10, hlk9⟩, hts _ (f3 (by rw [hso]; decide)), hts _ (f4 hso)⟩ hPV rfl g3 hsz hstk hW hd hf
theorem mc_r_calI (C : mc_X kt G own nL ini ret cc p s m args meth c) {call : Nat → List Value → mc_M → Option mc_R} {d idx : Nat} (IH : ∀ (k : Nat) (q : Nat × MethodName × ByteArray × Nat × Option FieldType × Nat × Nat) (as : List Value) (M : mc_M) (w : mc_R), mc_mt k = some q → call k as M = some w → mc_Met l kt G d q as M w ∧ mc_le M w.2) (hvoid : ∀ (k : Nat) (q : Nat × MethodName × ByteArray × Nat × Option FieldType × Nat × Nat), mc_mt k = some q → q.2.2.2.2.2.2 = 2 → q.2.2.2.2.1 = none) (hF : d + 1 ≤ R.frames ∧ 36 * (d + 1) ≤ R.locals)
    (hd : decode cc pc = .ok (.invokespecial idx, 3)) (h : mc_cal call own 2 idx pc L st M = some (.inl S)) (hR : S.2.2.2.length ≤ R.cells + l0 ∧ mc_sz S.2.2.2 ≤ R.slots + z0) (k : mc_W G p l e R s m args below meth c Q nL l0 z0 S) : mc_W G p l e R s m args below meth c Q nL l0 z0 (pc, L, st, M) := by
  obtain ⟨en, q, w, n, he, hq, hn, hw, hso, hsum, hnl, hrc, hS9⟩ := mc_cal_inv h
  rw [hS9] at k hR
  obtain ⟨b, z, hb, hb0, hz9, hzc⟩ := hrc (by decide)
  obtain ⟨hM, hle⟩ := IH en.1 q _ M w hq hw
  obtain ⟨f1, f2, f3, f4, f5, f6, f7, f8, f9, f10, f11⟩ := mc_mfacts hq
  have hno := hvoid en.1 q hq hso
  have C0 := C
  obtain ⟨hx, hb9, hown, hts, hml, hB, hba, hini, hlk, hret⟩ := C
  have hn' : n = q.2.2.2.2.2.1 + 1 := hn
  subst hn'
  obtain ⟨g1, g2, g3⟩ := mc_split (G := G) hb hnl
  intro H locs ls cells slots hH hS hl hc hz
  have hc : cells + l0 = M.length := hc
  have hz : slots + z0 = mc_sz M := hz
  have hf : cells + (w.2.length - M.length) ≤ R.cells ∧ slots + (mc_sz w.2 - mc_sz M) ≤ R.slots := by
    have h1 : w.2.length ≤ R.cells + l0 := hR.1
    have h2 : mc_sz w.2 ≤ R.slots + z0 := hR.2
    have := hle.1
    have := hle.2
    exact ⟨by omega, by omega⟩
  have hsz := hl.1
  have hW : 2 * (F0 m pc ls (st.map (mc_v G))).monitorRoom + (((st.drop (q.2.2.2.2.2.1 + 1)).map (mc_v G)).map fun v => v.category).sum ≤ 8 := lv_room (by rw [mc_sumcat]; exact hsum)
  refine mc_after (w := w) (M := M) (L := L) (nL := nL) (l0 := l0) (z0 := z0) (rest := st.drop (q.2.2.2.2.2.1 + 1)) (a := (Value.ref (mc_a G b) :: ((st.take q.2.2.2.2.2.1).reverse).map (mc_v G)).toArray) hS ?_ hle hl hc hz k
  have hPS : PreS s H (mc_Pc kt G M ((st.take (q.2.2.2.2.2.1 + 1)).reverse)) (.ref (mc_a G b) :: ((st.take q.2.2.2.2.2.1).reverse).map (mc_v G)) := ⟨mc_blind, fun U hU hW => by rw [← g2]; exact mc_pre C0 hH hS hU hW⟩
  have hstk : (F0 m pc ls (st.map (mc_v G))).stack = (((st.take q.2.2.2.2.2.1).reverse).map (mc_v G)).reverse ++ .ref (mc_a G b) :: (st.drop (q.2.2.2.2.2.1 + 1)).map (mc_v G) := by
    show st.map (mc_v G) = _
    rw [g1, ← List.map_reverse, List.reverse_reverse]
  unfold mc_Met at hM
  rw [hno] at f1 hM
  rcases mc_mword hts hB.2.2.1 he hq with hlk9 | ⟨host, hlk9⟩
  · exact va_runI (Ts := mc_ws) ⟨hx, hb9, hml, hown, hts⟩ hM ⟨⟨rfl, rfl, hF.1, by show 8 + (q.2.2.2.1 + 11) + 36 * d ≤ R.locals; have := hF.2; omega, mc_pay hts f1, List.mem_cons_self, hts _ f1, by rw [f6]; exact hts _ f5, f9, mc_npar f10, hlk9⟩, f7 hso, hts _ (f3 (by rw [hso]; decide))⟩ hPS rfl g3 hsz hstk hW hd hf
  · exact va_runIN (Ts := mc_ws) ⟨hx, hb9, hml, hown, hts⟩ hM ⟨⟨⟨rfl, rfl, hF.1, by show 8 + (q.2.2.2.1 + 11) + 36 * d ≤ R.locals; have := hF.2; omega, mc_pay hts f1, List.mem_cons_self⟩, hts _ f1, by rw [f6]; exact hts _ f5, f9, mc_npar f10, hlk9⟩, f7 hso, hts _ (f3 (by rw [hso]; decide))⟩ hPS rfl g3 hsz hstk hW hd hf
theorem mc_r_calS (C : mc_X kt G own nL ini ret cc p s m args meth c) {call : Nat → List Value → mc_M → Option mc_R} {d idx : Nat} (IH : ∀ (k : Nat) (q : Nat × MethodName × ByteArray × Nat × Option FieldType × Nat × Nat) (as : List Value) (M : mc_M) (w : mc_R), mc_mt k = some q → call k as M = some w → mc_Met l kt G d q as M w ∧ mc_le M w.2) (hF : d + 1 ≤ R.frames ∧ 36 * (d + 1) ≤ R.locals)
    (hd : decode cc pc = .ok (.invokestatic idx, 3)) (h : mc_cal call own 0 idx pc L st M = some (.inl S)) (hR : S.2.2.2.length ≤ R.cells + l0 ∧ mc_sz S.2.2.2 ≤ R.slots + z0) (k : mc_W G p l e R s m args below meth c Q nL l0 z0 S) : mc_W G p l e R s m args below meth c Q nL l0 z0 (pc, L, st, M) := by
  obtain ⟨en, q, w, n, he, hq, hn, hw, hso, hsum, hnl, hrc, hS9⟩ := mc_cal_inv h
  rw [hS9] at k hR
  obtain ⟨hM, hle⟩ := IH en.1 q _ M w hq hw
  obtain ⟨f1, f2, f3, f4, f5, f6, f7, f8, f9, f10, f11⟩ := mc_mfacts hq
  have C0 := C
  obtain ⟨hx, hb9, hown, hts, hml, hB, hba, hini, hlk, hret⟩ := C
  have hn' : n = q.2.2.2.2.2.1 := hn
  subst hn'
  intro H locs ls cells slots hH hS hl hc hz
  have hc : cells + l0 = M.length := hc
  have hz : slots + z0 = mc_sz M := hz
  have hf : cells + (w.2.length - M.length) ≤ R.cells ∧ slots + (mc_sz w.2 - mc_sz M) ≤ R.slots := by
    have h1 : w.2.length ≤ R.cells + l0 := hR.1
    have h2 : mc_sz w.2 ≤ R.slots + z0 := hR.2
    have := hle.1
    have := hle.2
    exact ⟨by omega, by omega⟩
  have hsz := hl.1
  have hW : 2 * (F0 m pc ls (st.map (mc_v G))).monitorRoom + (((st.drop q.2.2.2.2.2.1).map (mc_v G)).map fun v => v.category).sum ≤ 8 := lv_room (by rw [mc_sumcat]; exact hsum)
  refine mc_after (w := w) (M := M) (L := L) (nL := nL) (l0 := l0) (z0 := z0) (rest := st.drop q.2.2.2.2.2.1) (a := (((st.take q.2.2.2.2.2.1).reverse).map (mc_v G)).toArray) hS ?_ hle hl hc hz k
  have hPS : PreS s H (mc_Pc kt G M ((st.take q.2.2.2.2.2.1).reverse)) (((st.take q.2.2.2.2.2.1).reverse).map (mc_v G)) := ⟨mc_blind, fun U hU hW => mc_pre C0 hH hS hU hW⟩
  have hstk : (F0 m pc ls (st.map (mc_v G))).stack = (((st.take q.2.2.2.2.2.1).reverse).map (mc_v G)).reverse ++ (st.drop q.2.2.2.2.2.1).map (mc_v G) := by
    show st.map (mc_v G) = _
    rw [← List.map_reverse, List.reverse_reverse, ← List.map_append, List.take_append_drop]
  have g3 : ((st.take q.2.2.2.2.2.1).reverse.map (mc_v G)).length = q.2.2.2.2.2.1 := by
    rw [List.length_map, List.length_reverse, List.length_take]
    omega
  rcases mc_mword hts hB.2.2.1 he hq with hlk9 | ⟨host, hlk9⟩
  · exact va_runS (Ts := mc_ws) ⟨hx, hb9, hml, hown, hts⟩ hM ⟨⟨rfl, rfl, hF.1, by show 8 + (q.2.2.2.1 + 11) + 36 * d ≤ R.locals; have := hF.2; omega, mc_pay hts f1, List.mem_cons_self, hts _ f1, by rw [f6]; exact hts _ f5, f9, mc_npar f10, hlk9⟩, hts _ (f2 hso)⟩ hPS rfl g3 hsz hstk hW hd hf
  · exact va_runSN (Ts := mc_ws) ⟨hx, hb9, hml, hown, hts⟩ hM ⟨⟨⟨rfl, rfl, hF.1, by show 8 + (q.2.2.2.1 + 11) + 36 * d ≤ R.locals; have := hF.2; omega, mc_pay hts f1, List.mem_cons_self⟩, hts _ f1, by rw [f6]; exact hts _ f5, f9, mc_npar f10, hlk9⟩, hts _ (f2 hso), trivial⟩ hPS rfl g3 hsz hstk hW hd hf
theorem mc_r_obj (C : mc_X kt G own nL ini ret cc p s m args meth c) {idx d : Nat} (hF : d + 1 ≤ R.frames ∧ 36 * (d + 1) ≤ R.locals) (hd : decode cc pc = .ok (.invokespecial idx, 3)) (h : mc_obj own idx pc L st M = some (.inl S)) (k : mc_W G p l e R s m args below meth c Q nL l0 z0 S) : mc_W G p l e R s m args below meth c Q nL l0 z0 (pc, L, st, M) := by
  obtain ⟨hx, hb, hown, hts, hml, hB, hba, hini, hlk, hret⟩ := C
  unfold mc_obj at h
  split at h
  · next a r =>
    split at h
    · next en he =>
      obtain ⟨hok, h⟩ := mc_n_t h
      simp only [decide_eq_true_eq] at hok
      rw [mc_go_S h] at k
      obtain ⟨r9, hr9, hm⟩ := mc_getD_mem (mc_find_mem he)
      have h1 := mc_at_mem (mc_each_at mc_ol_ok hr9 hm)
      intro H locs ls cells slots hH hS hl hc hz
      refine W.objInit hx hb hown (hts _ h1) (hts _ (mc_at_mem mc_oi)) (hts _ (mc_at_mem mc_oc)) rfl (by rw [hml]; exact hl.1) rfl hd (by have := hF.1; omega) ?_ (k H locs ls cells slots hH hS hl hc hz)
      have h2 := lv_room (m := m) (pc := pc) (ls := ls) (rest := ((Value.ref a :: r).map (mc_v G))) (st := r.map (mc_v G)) (by rw [mc_sumcat]; exact hok)
      have h3 := hF.2
      exact Nat.le_trans (Nat.add_le_add_right h2 12) (by omega)
    · cases h
  · cases h
theorem mc_r_math (C : mc_X kt G own nL ini ret cc p s m args meth c) {idx d : Nat} (hF : d + 1 ≤ R.frames ∧ 36 * (d + 1) ≤ R.locals) (hd : decode cc pc = .ok (.invokestatic idx, 3)) (h : mc_math own idx pc L st M = some (.inl S)) (hR : S.2.2.2.length ≤ R.cells + l0 ∧ mc_sz S.2.2.2 ≤ R.slots + z0) (k : mc_W G p l e R s m args below meth c Q nL l0 z0 S) : mc_W G p l e R s m args below meth c Q nL l0 z0 (pc, L, st, M) := by
  obtain ⟨hx, hb, hown, hts, hml, hB, hba, hini, hlk, hret⟩ := C
  unfold mc_math at h
  split at h
  · next en he =>
    obtain ⟨r9, hr9, hm⟩ := mc_getD_mem (mc_find_mem he)
    have h1 := mc_at_mem (mc_each_at mc_jl_ok hr9 hm)
    obtain ⟨j, pl⟩ := en
    dsimp only at h
    split at h
    · obtain ⟨hok, h⟩ := mc_n_t h
      simp only [decide_eq_true_eq] at hok
      rw [mc_go_S h] at k hR
      intro H locs ls cells slots hH hS hl hc hz
      have hc' : cells + l0 = M.length := hc
      have hz' : slots + z0 = mc_sz M := hz
      have hR1 : M.length ≤ R.cells + l0 := hR.1
      have hR2 : mc_sz M ≤ R.slots + z0 := hR.2
      have h1' : Cond.methodLink (mc_cn own) idx Lib.Math.min.name ∈ mc_ws := h1
      refine va_mmin hx hb (by rw [hml]; exact hl.1.symm) hown (hts _ h1') (hts _ (mc_at_mem mc_j_min.1)) (hts _ (mc_at_mem mc_j_min.2.2)) (hts _ (mc_at_mem mc_j_min.2.1)) (by have := hF.1; omega) ?_ (by omega) (by omega) hd (k H locs ls cells slots hH hS hl hc hz)
      rw [mc_sumcat]
      have := hF.2
      omega
    · obtain ⟨hok, h⟩ := mc_n_t h
      simp only [decide_eq_true_eq] at hok
      rw [mc_go_S h] at k hR
      intro H locs ls cells slots hH hS hl hc hz
      have hc' : cells + l0 = M.length := hc
      have hz' : slots + z0 = mc_sz M := hz
      have hR1 : M.length ≤ R.cells + l0 := hR.1
      have hR2 : mc_sz M ≤ R.slots + z0 := hR.2
      have h1' : Cond.methodLink (mc_cn own) idx Lib.Math.max.name ∈ mc_ws := h1
      refine va_mmax hx hb (by rw [hml]; exact hl.1.symm) hown (hts _ h1') (hts _ (mc_at_mem mc_j_max.1)) (hts _ (mc_at_mem mc_j_max.2.2)) (hts _ (mc_at_mem mc_j_max.2.1)) (by have := hF.1; omega) ?_ (by omega) (by omega) hd (k H locs ls cells slots hH hS hl hc hz)
      rw [mc_sumcat]
      have := hF.2
      omega
    · cases h
  · cases h
end MC5
end
section
/-! new T[n][m] (own work; by the library's law of it) -/
theorem mc_default_v {G : mc_G} {ty : FieldType} : mc_v G (defaultValue ty) = defaultValue ty := by cases ty <;> rfl
theorem mc_outer (c : ClassId) (N h0 : Nat) : ∀ i : Nat, Jvm.Free.Multi.outerC c N h0 i = arrV c N (fun j => if j < i then .ref (h0 + 1 + j) else .null)
  | 0 => by
    show ({ cls := c, slots := Array.replicate N .null, vm := .none } : Cell) = _
    rw [arrV_new]
    refine congrArg (arrV c N) (funext fun j => ?_)
    simp
  | i + 1 => by
    show (Jvm.Free.Multi.outerC c N h0 i).setSlot i (.ref (h0 + 1 + i)) = _
    rw [mc_outer c N h0 i, arrV_store]
    refine congrArg (arrV c N) (funext fun j => ?_)
    by_cases e : j = i
    · subst e
      simp [updV]
    · by_cases h : j < i
      · simp [updV, e, h, Nat.lt_succ_of_lt h]
      · simp [updV, e, h, show ¬ j < i + 1 by omega]
theorem mc_H_rows {G : mc_G} {M : mc_M} {H H1 : Heap} {x : mc_E} (h : mc_H G M H) (hx : mc_cell G H.size x H1) : ∀ (n : Nat) (y : mc_E), H1.size = H.size + 1 + n → (∀ q : Nat, q < H.size → H1[q]? = H[q]?) → (∀ j : Nat, j < n → mc_cell G (H.size + 1 + j) y H1) → mc_H G ((M ++ [x]) ++ List.replicate n y) H1 := by
  intro n y z oq hy
  refine ⟨by rw [z, h.1, List.length_append, List.length_append, List.length_replicate]; show _ = _ + (_ + 1 + _); omega, fun k e' hk => ?_⟩
  by_cases h1 : k < M.length
  · rw [List.getElem?_append_left (by rw [List.length_append]; omega), List.getElem?_append_left h1] at hk
    exact (h.2 k e' hk).kept (oq _ (by rw [h.1]; omega))
  · by_cases h2 : k = M.length
    · subst h2
      rw [List.getElem?_append_left (by rw [List.length_append]; exact Nat.lt_succ_self _), List.getElem?_append_right (Nat.le_refl _), Nat.sub_self] at hk
      cases hk
      rw [← h.1]
      exact hx
    · have hl : (M ++ [x]).length = M.length + 1 := by rw [List.length_append]; rfl
      rw [List.getElem?_append_right (by rw [hl]; omega), hl, List.getElem?_replicate] at hk
      split at hk
      · next hlt =>
        cases hk
        have e9 : G.2.1 + k = H.size + 1 + (k - (M.length + 1)) := by rw [h.1]; omega
        rw [e9]
        exact hy _ hlt
      · cases hk
theorem mc_sz_rep (n : Nat) (y : mc_E) : mc_sz (List.replicate n y) = n * mc_es y := by
  simp [mc_sz, List.map_replicate, List.sum_replicate_nat]
section MC6
variable {kt : Nat → Option mc_E} {own : Nat} {ini : Bool} {ret : Option FieldType} {cc : ByteArray}
variable {G : mc_G} {p : Program} {l : Launch} {e : Env} {R : Room} {s : State} {m : MethodId} {args : Array Value} {below : List Frame} {meth : Method} {c : Code} {Q : State → Prop} {nL l0 z0 : Nat}
variable {pc : Nat} {L : List (Nat × Value)} {st : List Value} {M : mc_M} {S : mc_S}
theorem mc_r_mna (C : mc_X kt G own nL ini ret cc p s m args meth c) {idx : Nat} (hd : decode cc pc = .ok (.multianewarray idx 2, 4)) (h : mc_mna own idx pc L st M = some (.inl S)) (hR : S.2.2.2.length ≤ R.cells + l0 ∧ mc_sz S.2.2.2 ≤ R.slots + z0) (k : mc_W G p l e R s m args below meth c Q nL l0 z0 S) : mc_W G p l e R s m args below meth c Q nL l0 z0 (pc, L, st, M) := by
  obtain ⟨hx, hb, hown, hts, hml, hB, hba, hini, hlk, hret⟩ := C
  unfold mc_mna at h
  split at h
  · next kk n r =>
    split at h
    · next en he =>
      obtain ⟨hok, h⟩ := mc_n_t h
      simp only [Bool.and_eq_true, decide_eq_true_eq] at hok
      obtain ⟨⟨⟨⟨h2, hn⟩, hk⟩, hN⟩, hK⟩ := hok
      rw [mc_go_S h] at k hR
      obtain ⟨r9, hr9, hm⟩ := mc_getD_mem (mc_find_mem he)
      have hw := mc_at_mem (mc_each_at mc_gl_ok hr9 hm)
      have hty : ∃ ty : FieldType, mc_ty en.1 = ty ∧ mc_ty (5 + en.1) = .array ty ∧ mc_gn en.1 = "[" ++ (FieldType.array ty).toString ∧ mc_AO (.array ty) s ∧ Cond.arrayClass ty ∈ mc_ws ∧ componentBytes ty ≤ 8 ∧ fits ty (defaultValue ty) = true ∧ (defaultValue ty).isDefault = true := by
        obtain ⟨j, pl⟩ := en
        have h2' : j < 2 := h2
        match j, h2' with
        | 0, _ => exact ⟨.int, rfl, rfl, (by decide : mc_gn 0 = "[" ++ (FieldType.array .int).toString), hB.2.1.2.1, mc_at_mem mc_ac_int, by decide, rfl, rfl⟩
        | 1, _ => exact ⟨.long, rfl, rfl, (by decide : mc_gn 1 = "[" ++ (FieldType.array .long).toString), hB.2.1.2.2, mc_at_mem mc_ac_long, by decide, rfl, rfl⟩
      obtain ⟨ty, e1, e2, e3, e4, e5, e6, e7, e8⟩ := hty
      have hw' : Cond.classLink (mc_cn own) idx ("[" ++ (FieldType.array ty).toString) ∈ mc_ws := by rw [← e3]; exact hw
      intro H locs ls cells slots hH hS hl hc hz
      have hc : cells + l0 = M.length := hc
      have hz : slots + z0 = mc_sz M := hz
      generalize hx0 : (Sum.inl (5 + en.1, n.toNatClampNeg, fun i => if i < n.toNatClampNeg then .ref (256 + M.length + 1 + i) else .null) : mc_E) = x at k hR
      generalize hy0 : (Sum.inl (en.1, kk.toNatClampNeg, fun _ => defaultValue (mc_ty en.1)) : mc_E) = y at k hR
      have ex : mc_es x = n.toNatClampNeg := by rw [← hx0]; rfl
      have ey : mc_es y = kk.toNatClampNeg := by rw [← hy0]; rfl
      have hlen : ((M ++ [x]) ++ List.replicate n.toNatClampNeg y).length = M.length + 1 + n.toNatClampNeg := by rw [List.length_append, List.length_append, List.length_replicate]; rfl
      have hsz : mc_sz ((M ++ [x]) ++ List.replicate n.toNatClampNeg y) = mc_sz M + n.toNatClampNeg + n.toNatClampNeg * kk.toNatClampNeg := by rw [mc_sz_app, mc_sz_app, mc_sz_one, mc_sz_rep, ex, ey]
      have hR1 : M.length + 1 + n.toNatClampNeg ≤ R.cells + l0 := by have := hR.1; rw [← hlen]; exact this
      have hR2 : mc_sz M + n.toNatClampNeg + n.toNatClampNeg * kk.toNatClampNeg ≤ R.slots + z0 := by have := hR.2; rw [← hsz]; exact this
      intro T hT Xs
      obtain ⟨vm₁, cA, comp, -, fA, fC, hO, -, X', step⟩ := Xs.multianewarray2F hx hown (hts _ hw') (by exact e4) (hts _ e5) (g := F0 m pc ls (.int kk :: .int n :: r.map (mc_v G))) rfl (by rw [hb]; exact hd) rfl hn hk (Nat.le_trans (Nat.mul_le_mul hN (Nat.le_refl 4)) (Nat.le_of_ble_eq_true rfl)) (Nat.le_trans (Nat.mul_le_mul hK e6) (Nat.le_of_ble_eq_true rfl)) (Nat.le_trans hK (Nat.le_of_ble_eq_true rfl)) e7 e8 (by omega) (by omega)
      have hTh : (T.setVm vm₁).heap = H := hT
      generalize hF : Jvm.Free.Multi.fill (T.setVm vm₁) cA comp n.toNatClampNeg kk.toNatClampNeg (defaultValue ty) n.toNatClampNeg = F at X' step
      obtain ⟨f1, f2, -, -⟩ := Jvm.Free.Multi.fill_facts (T.setVm vm₁) cA comp n.toNatClampNeg kk.toNatClampNeg (defaultValue ty) n.toNatClampNeg
      rw [hF, hTh] at f1 f2
      have hold : ∀ x : Nat, x < H.size → F.heap[x]? = H[x]? := fun x hx => by
        have := Jvm.Free.Multi.fill_old (T.setVm vm₁) cA comp n.toNatClampNeg kk.toNatClampNeg (defaultValue ty) (a := x) (by rw [hTh]; exact hx) n.toNatClampNeg
        rw [hF, hTh] at this
        exact this
      have hrow : ∀ j : Nat, j < n.toNatClampNeg → F.heap[H.size + 1 + j]? = some (arrV comp kk.toNatClampNeg (fun _ => defaultValue ty)) := fun j hj => by
        have := Jvm.Free.Multi.fill_inner (T.setVm vm₁) cA comp n.toNatClampNeg kk.toNatClampNeg (defaultValue ty) n.toNatClampNeg j hj
        rw [hF, hTh] at this
        rw [this, ← arrV_new]
        rfl
      rw [mc_outer] at f2
      have hcA : cA = G.2.2.1 (5 + en.1) := by
        have h10 := (hB.1.2 (5 + en.1) _ (mc_tys_at (by omega))).2
        rw [e2] at h10
        exact Option.some.inj (fA.symm.trans h10)
      have hcm : comp = G.2.2.1 en.1 := by
        have h10 := (hB.1.2 en.1 _ (mc_tys_at (by omega))).2
        have h11 : s.vm.findClass ("[" ++ (mc_ty en.1).toString) = some (G.2.2.1 en.1) := by
          obtain ⟨j, pl⟩ := en
          have h2' : j < 2 := h2
          match j, h2', h10 with
          | 0, _, h10 => exact h10
          | 1, _, h10 => exact h10
        rw [e1] at h11
        exact Option.some.inj (fC.symm.trans h11)
      have hv : mc_v G (.ref (256 + M.length)) = .ref H.size := by
        show Value.ref _ = _
        rw [mc_a_new, hH.1]
      have hH2 : mc_H G ((M ++ [x]) ++ List.replicate n.toNatClampNeg y) F.heap := by
        refine mc_H_rows hH ?_ _ y f1 hold (fun j hj => ?_)
        · rw [← hx0]
          intro _
          rw [f2, hcA]
          refine congrArg some (congrArg (arrV (G.2.2.1 (5 + en.1)) n.toNatClampNeg) (funext fun j => ?_))
          by_cases hj : j < n.toNatClampNeg
          · simp only [if_pos hj]
            show _ = Value.ref (mc_a G (256 + M.length + 1 + j))
            have e8 : H.size + 1 + j = G.2.1 + (M.length + 1 + j) := by
              have h9 : H.size = G.2.1 + M.length := hH.1
              omega
            have e7 : 256 + M.length + 1 + j = 256 + (M.length + 1 + j) := by omega
            rw [e7, mc_a_new, ← e8]
          · simp only [if_neg hj]
            rfl
        · rw [← hy0]
          intro _
          rw [hrow j hj, hcm]
          refine congrArg some (congrArg (arrV (G.2.2.1 en.1) kk.toNatClampNeg) (funext fun j => ?_))
          rw [mc_default_v, e1]
      have hS2 : va_S (mc_A G) s.heap F.heap locs := ⟨Nat.le_trans hS.1 (by omega), fun q h1 h2 => (hold q (Nat.lt_of_lt_of_le h1 hS.1)).trans (hS.2.1 q h1 h2), hS.2.2⟩
      obtain ⟨t, a1, b1⟩ := k F.heap locs ls (cells + 1 + n.toNatClampNeg) (slots + n.toNatClampNeg + n.toNatClampNeg * kk.toNatClampNeg) hH2 hS2 hl (by rw [hlen]; omega) (by rw [hsz]; omega) F rfl X'
      refine ⟨t, step t ?_, b1⟩
      have e9 : T.heap.size = H.size := by rw [hT]
      rw [e9, ← hv]
      exact a1
    · cases h
  · cases h
end MC6
end
section
theorem mc_or_t {a b : mc_O} {x : mc_S ⊕ mc_R} (h : mc_or a b = some x) : a = some x ∨ b = some x := by
  unfold mc_or at h
  split at h
  · exact Or.inl h
  · exact Or.inr h
theorem mc_void_ok : (List.range 296).all (fun k => match mc_mt k with
  | some q => decide (q.2.2.2.2.2.2 = 2) == false || decide (q.2.2.2.2.1 = none)
  | none => true) = true := by decide +kernel
theorem mc_mt_lt {k : Nat} {q : Nat × MethodName × ByteArray × Nat × Option FieldType × Nat × Nat} (h : mc_mt k = some q) : k < 296 := by
  unfold mc_mt at h
  split at h
  · next hb =>
    have hlt : k % 32 < 32 := (List.getElem?_eq_some_iff.mp h).1
    omega
  · next hb =>
    have hlt : k % 32 < 32 := (List.getElem?_eq_some_iff.mp h).1
    omega
  · next hb =>
    have hlt : k % 32 < 32 := (List.getElem?_eq_some_iff.mp h).1
    omega
  · next hb =>
    have hlt : k % 32 < 32 := (List.getElem?_eq_some_iff.mp h).1
    omega
  · next hb =>
    have hlt : k % 32 < 32 := (List.getElem?_eq_some_iff.mp h).1
    omega
  · next hb =>
    have hlt : k % 32 < 32 := (List.getElem?_eq_some_iff.mp h).1
    omega
  · next hb =>
    have hlt : k % 32 < 32 := (List.getElem?_eq_some_iff.mp h).1
    omega
  · next hb =>
    have hlt : k % 32 < 32 := (List.getElem?_eq_some_iff.mp h).1
    omega
  · next hb =>
    have hlt : k % 32 < 32 := (List.getElem?_eq_some_iff.mp h).1
    omega
  · next hb =>
    have hlt : k % 32 < 8 := (List.getElem?_eq_some_iff.mp h).1
    omega
  · cases h
theorem mc_void {k : Nat} {q : Nat × MethodName × ByteArray × Nat × Option FieldType × Nat × Nat} (h : mc_mt k = some q) (hs : q.2.2.2.2.2.2 = 2) : q.2.2.2.2.1 = none := by
  have h1 := List.all_eq_true.mp mc_void_ok k (List.mem_range.mpr (mc_mt_lt h))
  rw [h] at h1
  simpa [hs] using h1
theorem mc_retX {ret : Option FieldType} {st : List Value} {M : mc_M} {S : mc_S} : (mc_ret ret st M = some (.inl S) → False) ∧ (mc_retL ret st M = some (.inl S) → False) ∧ (mc_retA ret st M = some (.inl S) → False) ∧ (mc_retV ret st M = some (.inl S) → False) := by
  refine ⟨fun h => ?_, fun h => ?_, fun h => ?_, fun h => ?_⟩
  · unfold mc_ret at h
    split at h
    · cases h
    · cases (mc_n_t h).2
    · cases h
  · unfold mc_retL at h
    split at h <;> cases h
  · unfold mc_retA at h
    split at h
    · cases (mc_n_t h).2
    · cases (mc_n_t h).2
    · cases h
  · unfold mc_retV at h
    split at h <;> cases h
theorem mc_ref4 {t : Nat} (h : 4 ≤ t) : (mc_ty t).isReference = true := by
  match t, h with
  | 4, _ => rfl
  | 5, _ => rfl
  | 6, _ => rfl
  | n + 7, _ => rfl
section MC7
variable {kt : Nat → Option mc_E} {own : Nat} {ini : Bool} {ret : Option FieldType} {cc : ByteArray}
variable {G : mc_G} {p : Program} {l : Launch} {e : Env} {R : Room} {s : State} {m : MethodId} {args : Array Value} {below : List Frame} {meth : Method} {c : Code} {Q : State → Prop} {nL l0 z0 : Nat}
variable {S : mc_S}
set_option maxHeartbeats 4000000 in
/-- one instruction -/
theorem mc_step_ok (C : mc_X kt G own nL ini ret cc p s m args meth c) {call : Nat → List Value → mc_M → Option mc_R} {d : Nat} (IH : ∀ (k : Nat) (q : Nat × MethodName × ByteArray × Nat × Option FieldType × Nat × Nat) (as : List Value) (M : mc_M) (w : mc_R), mc_mt k = some q → call k as M = some w → mc_Met l kt G d q as M w ∧ mc_le M w.2) (hF : d + 1 ≤ R.frames ∧ 36 * (d + 1) ≤ R.locals) {x : Instr} {n : Nat} {S0 : mc_S} (hd : decode cc S0.1 = .ok (x, n)) (h : mc_step kt call own nL ini ret x n S0 = some (.inl S)) (hR : S.2.2.2.length ≤ R.cells + l0 ∧ mc_sz S.2.2.2 ≤ R.slots + z0) (kS : mc_W G p l e R s m args below meth c Q nL l0 z0 S) : mc_W G p l e R s m args below meth c Q nL l0 z0 S0 := by
  obtain ⟨pc, L, st, M⟩ := S0
  have hx := C.1
  have hb := C.2.1
  have hinj := C.2.2.2.2.2.1.2.2.2.2.2.2.2
  cases x with
  | iconst i =>
    have h : mc_n (n == 1) (mc_go (pc + 1) L (.int (Int32.ofInt i) :: st) M) = some (.inl S) := h
    obtain ⟨hn, h8⟩ := mc_n_t h
    have hn : n = 1 := by simpa using hn
    subst hn
    exact mc_r_go (fun H locs cells slots ls kk => lv_iconst hx hb hd rfl kk) h8 kS
  | bipush i =>
    have h : mc_n (n == 2) (mc_go (pc + 2) L (.int (Int8.ofInt i).toInt32 :: st) M) = some (.inl S) := h
    obtain ⟨hn, h8⟩ := mc_n_t h
    have hn : n = 2 := by simpa using hn
    subst hn
    exact mc_r_go (fun H locs cells slots ls kk => lv_bipush hx hb hd rfl kk) h8 kS
  | sipush i =>
    have h : mc_n (n == 3) (mc_go (pc + 3) L (.int (Int16.ofInt i).toInt32 :: st) M) = some (.inl S) := h
    obtain ⟨hn, h8⟩ := mc_n_t h
    have hn : n = 3 := by simpa using hn
    subst hn
    exact mc_r_go (fun H locs cells slots ls kk => lv_sipush hx hb hd rfl kk) h8 kS
  | lconst i =>
    have h : mc_n (n == 1) (mc_go (pc + 1) L (.long (Int64.ofNat (i : Nat)) :: st) M) = some (.inl S) := h
    obtain ⟨hn, h8⟩ := mc_n_t h
    have hn : n = 1 := by simpa using hn
    subst hn
    exact mc_r_go (fun H locs cells slots ls kk => lv_lconst hx hb hd rfl kk) h8 kS
  | aconst_null  =>
    have h : mc_n (n == 1) (mc_go (pc + 1) L (.null :: st) M) = some (.inl S) := h
    obtain ⟨hn, h8⟩ := mc_n_t h
    have hn : n = 1 := by simpa using hn
    subst hn
    exact mc_r_go (fun H locs cells slots ls kk => lv_null hx hb hd kk) h8 kS
  | iload_n i =>
    have h : mc_n (n == 1) (mc_ld mc_isI (i : Nat) 1 pc L st M) = some (.inl S) := h
    obtain ⟨hn, h8⟩ := mc_n_t h
    have hn : n = 1 := by simpa using hn
    subst hn
    exact mc_r_ld (fun H locs cells slots ls rest v hv hl kk => by
      cases v with
      | int x => exact lv_iload_n hx hb hd rfl hl kk
      | _ => cases hv) h8 kS
  | iload i =>
    have h : mc_n (n == 2) (mc_ld mc_isI i 2 pc L st M) = some (.inl S) := h
    obtain ⟨hn, h8⟩ := mc_n_t h
    have hn : n = 2 := by simpa using hn
    subst hn
    exact mc_r_ld (fun H locs cells slots ls rest v hv hl kk => by
      cases v with
      | int x => exact lv_iload hx hb hd hl kk
      | _ => cases hv) h8 kS
  | lload_n i =>
    have h : mc_n (n == 1) (mc_ld mc_isL (i : Nat) 1 pc L st M) = some (.inl S) := h
    obtain ⟨hn, h8⟩ := mc_n_t h
    have hn : n = 1 := by simpa using hn
    subst hn
    exact mc_r_ld (fun H locs cells slots ls rest v hv hl kk => by
      cases v with
      | long x => exact lv_lload_n hx hb hd rfl hl kk
      | _ => cases hv) h8 kS
  | lload i =>
    have h : mc_n (n == 2) (mc_ld mc_isL i 2 pc L st M) = some (.inl S) := h
    obtain ⟨hn, h8⟩ := mc_n_t h
    have hn : n = 2 := by simpa using hn
    subst hn
    exact mc_r_ld (fun H locs cells slots ls rest v hv hl kk => by
      cases v with
      | long x => exact lv_lload hx hb hd hl kk
      | _ => cases hv) h8 kS
  | aload_n i =>
    have h : mc_n (n == 1) (mc_ld mc_isA (i : Nat) 1 pc L st M) = some (.inl S) := h
    obtain ⟨hn, h8⟩ := mc_n_t h
    have hn : n = 1 := by simpa using hn
    subst hn
    exact mc_r_ld (fun H locs cells slots ls rest v hv hl kk => by
      cases v with
      | ref x => exact lv_aload_n hx hb hd rfl hl kk
      | null => exact lv_aload_nN hx hb hd rfl hl kk
      | _ => cases hv) h8 kS
  | aload i =>
    have h : mc_n (n == 2) (mc_ld mc_isA i 2 pc L st M) = some (.inl S) := h
    obtain ⟨hn, h8⟩ := mc_n_t h
    have hn : n = 2 := by simpa using hn
    subst hn
    exact mc_r_ld (fun H locs cells slots ls rest v hv hl kk => by
      cases v with
      | ref x => exact lv_aload hx hb hd hl kk
      | null => exact lv_aloadN hx hb hd hl kk
      | _ => cases hv) h8 kS
  | istore_n i =>
    have h : mc_n (n == 1) (mc_sv mc_isI nL (i : Nat) 1 pc L st M) = some (.inl S) := h
    obtain ⟨hn, h8⟩ := mc_n_t h
    have hn : n = 1 := by simpa using hn
    subst hn
    exact mc_r_sv (fun H locs cells slots ls rest v lv hv h9 hi kk => by
      cases v with
      | int x => exact lv_istore_n hx hb hd rfl h9 hi rfl kk
      | _ => cases hv) h8 kS
  | istore i =>
    have h : mc_n (n == 2) (mc_sv mc_isI nL i 2 pc L st M) = some (.inl S) := h
    obtain ⟨hn, h8⟩ := mc_n_t h
    have hn : n = 2 := by simpa using hn
    subst hn
    exact mc_r_sv (fun H locs cells slots ls rest v lv hv h9 hi kk => by
      cases v with
      | int x => exact lv_istore hx hb hd h9 hi rfl kk
      | _ => cases hv) h8 kS
  | astore_n i =>
    have h : mc_n (n == 1) (mc_sv mc_isA nL (i : Nat) 1 pc L st M) = some (.inl S) := h
    obtain ⟨hn, h8⟩ := mc_n_t h
    have hn : n = 1 := by simpa using hn
    subst hn
    exact mc_r_sv (fun H locs cells slots ls rest v lv hv h9 hi kk => by
      cases v with
      | ref x => exact lv_astore_n hx hb hd rfl h9 hi rfl kk
      | null => exact lv_astore_nN hx hb hd rfl h9 hi rfl kk
      | _ => cases hv) h8 kS
  | astore i =>
    have h : mc_n (n == 2) (mc_sv mc_isA nL i 2 pc L st M) = some (.inl S) := h
    obtain ⟨hn, h8⟩ := mc_n_t h
    have hn : n = 2 := by simpa using hn
    subst hn
    exact mc_r_sv (fun H locs cells slots ls rest v lv hv h9 hi kk => by
      cases v with
      | ref x => exact lv_astore hx hb hd h9 hi rfl kk
      | null => exact lv_astoreN hx hb hd h9 hi rfl kk
      | _ => cases hv) h8 kS
  | lstore_n i =>
    have h : mc_n (n == 1) (mc_svL nL (i : Nat) 1 pc L st M) = some (.inl S) := h
    obtain ⟨hn, h8⟩ := mc_n_t h
    have hn : n = 1 := by simpa using hn
    subst hn
    exact mc_r_svL (fun H locs cells slots ls rest x lv h9 hi kk => lv_lstore_n hx hb hd rfl h9 hi rfl kk) h8 kS
  | lstore i =>
    have h : mc_n (n == 2) (mc_svL nL i 2 pc L st M) = some (.inl S) := h
    obtain ⟨hn, h8⟩ := mc_n_t h
    have hn : n = 2 := by simpa using hn
    subst hn
    exact mc_r_svL (fun H locs cells slots ls rest x lv h9 hi kk => lv_lstore hx hb hd h9 hi rfl kk) h8 kS
  | iinc i k =>
    have h : mc_n (n == 3) (mc_inc nL i k pc L st M) = some (.inl S) := h
    obtain ⟨hn, h8⟩ := mc_n_t h
    have hn : n = 3 := by simpa using hn
    subst hn
    exact mc_r_inc (fun H locs cells slots ls rest x lv j h9 hj hi kk => lv_iinc hx hb hd h9 hj rfl hi rfl kk) h8 kS
  | iadd  =>
    have h : mc_n (n == 1) (mc_ii2 (fun x y => some (x + y)) pc L st M) = some (.inl S) := h
    obtain ⟨hn, h8⟩ := mc_n_t h
    have hn : n = 1 := by simpa using hn
    subst hn
    exact mc_r_ii2 (fun H locs cells slots ls rest x y z hz kk => by
      cases hz
      exact lv_iadd hx hb hd kk) h8 kS
  | isub  =>
    have h : mc_n (n == 1) (mc_ii2 (fun x y => some (x - y)) pc L st M) = some (.inl S) := h
    obtain ⟨hn, h8⟩ := mc_n_t h
    have hn : n = 1 := by simpa using hn
    subst hn
    exact mc_r_ii2 (fun H locs cells slots ls rest x y z hz kk => by
      cases hz
      exact lv_isub hx hb hd kk) h8 kS
  | imul  =>
    have h : mc_n (n == 1) (mc_ii2 (fun x y => some (x * y)) pc L st M) = some (.inl S) := h
    obtain ⟨hn, h8⟩ := mc_n_t h
    have hn : n = 1 := by simpa using hn
    subst hn
    exact mc_r_ii2 (fun H locs cells slots ls rest x y z hz kk => by
      cases hz
      exact lv_imul hx hb hd kk) h8 kS
  | iand  =>
    have h : mc_n (n == 1) (mc_ii2 (fun x y => some (x &&& y)) pc L st M) = some (.inl S) := h
    obtain ⟨hn, h8⟩ := mc_n_t h
    have hn : n = 1 := by simpa using hn
    subst hn
    exact mc_r_ii2 (fun H locs cells slots ls rest x y z hz kk => by
      cases hz
      exact lv_iand hx hb hd kk) h8 kS
  | ior  =>
    have h : mc_n (n == 1) (mc_ii2 (fun x y => some (x ||| y)) pc L st M) = some (.inl S) := h
    obtain ⟨hn, h8⟩ := mc_n_t h
    have hn : n = 1 := by simpa using hn
    subst hn
    exact mc_r_ii2 (fun H locs cells slots ls rest x y z hz kk => by
      cases hz
      exact lv_ior hx hb hd kk) h8 kS
  | ixor  =>
    have h : mc_n (n == 1) (mc_ii2 (fun x y => some (x ^^^ y)) pc L st M) = some (.inl S) := h
    obtain ⟨hn, h8⟩ := mc_n_t h
    have hn : n = 1 := by simpa using hn
    subst hn
    exact mc_r_ii2 (fun H locs cells slots ls rest x y z hz kk => by
      cases hz
      exact lv_ixor hx hb hd kk) h8 kS
  | ishl  =>
    have h : mc_n (n == 1) (mc_ii2 (fun x y => some (x <<< (y &&& 31))) pc L st M) = some (.inl S) := h
    obtain ⟨hn, h8⟩ := mc_n_t h
    have hn : n = 1 := by simpa using hn
    subst hn
    exact mc_r_ii2 (fun H locs cells slots ls rest x y z hz kk => by
      cases hz
      exact lv_ishl hx hb hd kk) h8 kS
  | ishr  =>
    have h : mc_n (n == 1) (mc_ii2 (fun x y => some (x >>> (y &&& 31))) pc L st M) = some (.inl S) := h
    obtain ⟨hn, h8⟩ := mc_n_t h
    have hn : n = 1 := by simpa using hn
    subst hn
    exact mc_r_ii2 (fun H locs cells slots ls rest x y z hz kk => by
      cases hz
      exact lv_ishr hx hb hd kk) h8 kS
  | idiv  =>
    have h : mc_n (n == 1) (mc_ii2 (fun x y => if y = 0 then none else some (x / y)) pc L st M) = some (.inl S) := h
    obtain ⟨hn, h8⟩ := mc_n_t h
    have hn : n = 1 := by simpa using hn
    subst hn
    exact mc_r_ii2 (fun H locs cells slots ls rest x y z hz kk => by
      split at hz
      · cases hz
      · next hne =>
        cases hz
        exact lv_idiv hx hb hd hne kk) h8 kS
  | irem  =>
    have h : mc_n (n == 1) (mc_ii2 (fun x y => if y = 0 then none else some (x - x / y * y)) pc L st M) = some (.inl S) := h
    obtain ⟨hn, h8⟩ := mc_n_t h
    have hn : n = 1 := by simpa using hn
    subst hn
    exact mc_r_ii2 (fun H locs cells slots ls rest x y z hz kk => by
      split at hz
      · cases hz
      · next hne =>
        cases hz
        exact lv_irem hx hb hd hne kk) h8 kS
  | ladd  =>
    have h : mc_n (n == 1) (mc_ll2 (fun x y => some (x + y)) pc L st M) = some (.inl S) := h
    obtain ⟨hn, h8⟩ := mc_n_t h
    have hn : n = 1 := by simpa using hn
    subst hn
    exact mc_r_ll2 (fun H locs cells slots ls rest x y z hz kk => by
      cases hz
      exact lv_ladd hx hb hd kk) h8 kS
  | lsub  =>
    have h : mc_n (n == 1) (mc_ll2 (fun x y => some (x - y)) pc L st M) = some (.inl S) := h
    obtain ⟨hn, h8⟩ := mc_n_t h
    have hn : n = 1 := by simpa using hn
    subst hn
    exact mc_r_ll2 (fun H locs cells slots ls rest x y z hz kk => by
      cases hz
      exact lv_lsub hx hb hd kk) h8 kS
  | lmul  =>
    have h : mc_n (n == 1) (mc_ll2 (fun x y => some (x * y)) pc L st M) = some (.inl S) := h
    obtain ⟨hn, h8⟩ := mc_n_t h
    have hn : n = 1 := by simpa using hn
    subst hn
    exact mc_r_ll2 (fun H locs cells slots ls rest x y z hz kk => by
      cases hz
      exact lv_lmul hx hb hd kk) h8 kS
  | land  =>
    have h : mc_n (n == 1) (mc_ll2 (fun x y => some (x &&& y)) pc L st M) = some (.inl S) := h
    obtain ⟨hn, h8⟩ := mc_n_t h
    have hn : n = 1 := by simpa using hn
    subst hn
    exact mc_r_ll2 (fun H locs cells slots ls rest x y z hz kk => by
      cases hz
      exact lv_land hx hb hd kk) h8 kS
  | lor  =>
    have h : mc_n (n == 1) (mc_ll2 (fun x y => some (x ||| y)) pc L st M) = some (.inl S) := h
    obtain ⟨hn, h8⟩ := mc_n_t h
    have hn : n = 1 := by simpa using hn
    subst hn
    exact mc_r_ll2 (fun H locs cells slots ls rest x y z hz kk => by
      cases hz
      exact lv_lor hx hb hd kk) h8 kS
  | ldiv  =>
    have h : mc_n (n == 1) (mc_ll2 (fun x y => if y = 0 then none else some (x / y)) pc L st M) = some (.inl S) := h
    obtain ⟨hn, h8⟩ := mc_n_t h
    have hn : n = 1 := by simpa using hn
    subst hn
    exact mc_r_ll2 (fun H locs cells slots ls rest x y z hz kk => by
      split at hz
      · cases hz
      · next hne =>
        cases hz
        exact lv_ldiv hx hb hd hne kk) h8 kS
  | lrem  =>
    have h : mc_n (n == 1) (mc_ll2 (fun x y => if y = 0 then none else some (x - x / y * y)) pc L st M) = some (.inl S) := h
    obtain ⟨hn, h8⟩ := mc_n_t h
    have hn : n = 1 := by simpa using hn
    subst hn
    exact mc_r_ll2 (fun H locs cells slots ls rest x y z hz kk => by
      split at hz
      · cases hz
      · next hne =>
        cases hz
        exact lv_lrem hx hb hd hne kk) h8 kS
  | lshl  =>
    have h : mc_n (n == 1) (mc_li2 (fun x y => x <<< (y.toInt64 &&& 63)) pc L st M) = some (.inl S) := h
    obtain ⟨hn, h8⟩ := mc_n_t h
    have hn : n = 1 := by simpa using hn
    subst hn
    exact mc_r_li2 (fun H locs cells slots ls rest x y kk => lv_lshl hx hb hd rfl kk) h8 kS
  | lshr  =>
    have h : mc_n (n == 1) (mc_li2 (fun x y => x >>> (y.toInt64 &&& 63)) pc L st M) = some (.inl S) := h
    obtain ⟨hn, h8⟩ := mc_n_t h
    have hn : n = 1 := by simpa using hn
    subst hn
    exact mc_r_li2 (fun H locs cells slots ls rest x y kk => lv_lshr hx hb hd rfl kk) h8 kS
  | lcmp  =>
    have h : mc_n (n == 1) (mc_cmp pc L st M) = some (.inl S) := h
    obtain ⟨hn, h8⟩ := mc_n_t h
    have hn : n = 1 := by simpa using hn
    subst hn
    exact mc_r_cmp (fun H locs cells slots ls rest x y kk => W.lcmp hx hb hd kk) h8 kS
  | ineg  =>
    have h : mc_n (n == 1) (mc_i1 (fun x => .int (-x)) pc L st M) = some (.inl S) := h
    obtain ⟨hn, h8⟩ := mc_n_t h
    have hn : n = 1 := by simpa using hn
    subst hn
    exact mc_r_i1 (f := fun x => .int (-x)) (fun H locs cells slots ls rest x kk => lv_ineg hx hb hd kk) h8 kS
  | i2l  =>
    have h : mc_n (n == 1) (mc_i1 (fun x => .long x.toInt64) pc L st M) = some (.inl S) := h
    obtain ⟨hn, h8⟩ := mc_n_t h
    have hn : n = 1 := by simpa using hn
    subst hn
    exact mc_r_i1 (f := fun x => .long x.toInt64) (fun H locs cells slots ls rest x kk => lv_i2l hx hb hd rfl kk) h8 kS
  | i2b  =>
    have h : mc_n (n == 1) (mc_i1 (fun x => .int x.toInt8.toInt32) pc L st M) = some (.inl S) := h
    obtain ⟨hn, h8⟩ := mc_n_t h
    have hn : n = 1 := by simpa using hn
    subst hn
    exact mc_r_i1 (f := fun x => .int x.toInt8.toInt32) (fun H locs cells slots ls rest x kk => lv_i2b hx hb hd rfl kk) h8 kS
  | l2i  =>
    have h : mc_n (n == 1) (mc_l1 (fun x => .int x.toInt32) pc L st M) = some (.inl S) := h
    obtain ⟨hn, h8⟩ := mc_n_t h
    have hn : n = 1 := by simpa using hn
    subst hn
    exact mc_r_l1 (f := fun x => .int x.toInt32) (fun H locs cells slots ls rest x kk => lv_l2i hx hb hd rfl kk) h8 kS
  | if_icmp cond off =>
    cases cond with
    | eq =>
      have h : mc_n (n == 3) (mc_ic2 (fun x y => decide (x = y)) pc off L st M) = some (.inl S) := h
      obtain ⟨hn, h8⟩ := mc_n_t h
      have hn : n = 3 := by simpa using hn
      subst hn
      exact mc_r_ic2 (fun H locs cells slots ls rest x y tgt ht kt kf => lv_icmp_eq hx hb hd ht (fun q => kt (decide_eq_true q)) (fun q => kf (decide_eq_false q))) h8 kS
    | ne =>
      have h : mc_n (n == 3) (mc_ic2 (fun x y => decide (¬ x = y)) pc off L st M) = some (.inl S) := h
      obtain ⟨hn, h8⟩ := mc_n_t h
      have hn : n = 3 := by simpa using hn
      subst hn
      exact mc_r_ic2 (fun H locs cells slots ls rest x y tgt ht kt kf => lv_icmp_ne hx hb hd ht (fun q => kt (decide_eq_true q)) (fun q => kf (decide_eq_false (fun z => z q)))) h8 kS
    | lt =>
      have h : mc_n (n == 3) (mc_ic2 (fun x y => decide (x < y)) pc off L st M) = some (.inl S) := h
      obtain ⟨hn, h8⟩ := mc_n_t h
      have hn : n = 3 := by simpa using hn
      subst hn
      exact mc_r_ic2 (fun H locs cells slots ls rest x y tgt ht kt kf => lv_icmp_lt hx hb hd ht (fun q => kt (decide_eq_true q)) (fun q => kf (decide_eq_false q))) h8 kS
    | ge =>
      have h : mc_n (n == 3) (mc_ic2 (fun x y => decide (y ≤ x)) pc off L st M) = some (.inl S) := h
      obtain ⟨hn, h8⟩ := mc_n_t h
      have hn : n = 3 := by simpa using hn
      subst hn
      exact mc_r_ic2 (fun H locs cells slots ls rest x y tgt ht kt kf => lv_icmp_ge hx hb hd ht (fun q => kt (decide_eq_true q)) (fun q => kf (decide_eq_false q))) h8 kS
    | gt =>
      have h : mc_n (n == 3) (mc_ic2 (fun x y => decide (y < x)) pc off L st M) = some (.inl S) := h
      obtain ⟨hn, h8⟩ := mc_n_t h
      have hn : n = 3 := by simpa using hn
      subst hn
      exact mc_r_ic2 (fun H locs cells slots ls rest x y tgt ht kt kf => lv_icmp_gt hx hb hd ht (fun q => kt (decide_eq_true q)) (fun q => kf (decide_eq_false q))) h8 kS
    | le =>
      have h : mc_n (n == 3) (mc_ic2 (fun x y => decide (x ≤ y)) pc off L st M) = some (.inl S) := h
      obtain ⟨hn, h8⟩ := mc_n_t h
      have hn : n = 3 := by simpa using hn
      subst hn
      exact mc_r_ic2 (fun H locs cells slots ls rest x y tgt ht kt kf => lv_icmp_le hx hb hd ht (fun q => kt (decide_eq_true q)) (fun q => kf (decide_eq_false q))) h8 kS
  | ifCond cond off =>
    cases cond with
    | eq =>
      have h : mc_n (n == 3) (mc_ic1 (fun x => decide (x = 0)) pc off L st M) = some (.inl S) := h
      obtain ⟨hn, h8⟩ := mc_n_t h
      have hn : n = 3 := by simpa using hn
      subst hn
      exact mc_r_ic1 (fun H locs cells slots ls rest x tgt ht kt kf => lv_if_eq hx hb hd ht (fun q => kt (decide_eq_true q)) (fun q => kf (decide_eq_false q))) h8 kS
    | ne =>
      have h : mc_n (n == 3) (mc_ic1 (fun x => decide (¬ x = 0)) pc off L st M) = some (.inl S) := h
      obtain ⟨hn, h8⟩ := mc_n_t h
      have hn : n = 3 := by simpa using hn
      subst hn
      exact mc_r_ic1 (fun H locs cells slots ls rest x tgt ht kt kf => lv_if_ne hx hb hd ht (fun q => kt (decide_eq_true q)) (fun q => kf (decide_eq_false (fun z => z q)))) h8 kS
    | lt =>
      have h : mc_n (n == 3) (mc_ic1 (fun x => decide (x < 0)) pc off L st M) = some (.inl S) := h
      obtain ⟨hn, h8⟩ := mc_n_t h
      have hn : n = 3 := by simpa using hn
      subst hn
      exact mc_r_ic1 (fun H locs cells slots ls rest x tgt ht kt kf => lv_if_lt hx hb hd ht (fun q => kt (decide_eq_true q)) (fun q => kf (decide_eq_false q))) h8 kS
    | ge =>
      have h : mc_n (n == 3) (mc_ic1 (fun x => decide (0 ≤ x)) pc off L st M) = some (.inl S) := h
      obtain ⟨hn, h8⟩ := mc_n_t h
      have hn : n = 3 := by simpa using hn
      subst hn
      exact mc_r_ic1 (fun H locs cells slots ls rest x tgt ht kt kf => lv_if_ge hx hb hd ht (fun q => kt (decide_eq_true q)) (fun q => kf (decide_eq_false q))) h8 kS
    | gt =>
      have h : mc_n (n == 3) (mc_ic1 (fun x => decide (0 < x)) pc off L st M) = some (.inl S) := h
      obtain ⟨hn, h8⟩ := mc_n_t h
      have hn : n = 3 := by simpa using hn
      subst hn
      exact mc_r_ic1 (fun H locs cells slots ls rest x tgt ht kt kf => lv_if_gt hx hb hd ht (fun q => kt (decide_eq_true q)) (fun q => kf (decide_eq_false q))) h8 kS
    | le =>
      have h : mc_n (n == 3) (mc_ic1 (fun x => decide (x ≤ 0)) pc off L st M) = some (.inl S) := h
      obtain ⟨hn, h8⟩ := mc_n_t h
      have hn : n = 3 := by simpa using hn
      subst hn
      exact mc_r_ic1 (fun H locs cells slots ls rest x tgt ht kt kf => lv_if_le hx hb hd ht (fun q => kt (decide_eq_true q)) (fun q => kf (decide_eq_false q))) h8 kS
  | ifnull off =>
    have h : mc_n (n == 3) (mc_icn true pc off L st M) = some (.inl S) := h
    obtain ⟨hn, h8⟩ := mc_n_t h
    have hn : n = 3 := by simpa using hn
    subst hn
    exact mc_r_icn (f := true) (fun H locs cells slots ls rest x tgt ht kk => lv_ifnull hx hb hd kk) (fun H locs cells slots ls rest tgt ht kk => lv_ifnullN hx hb hd ht kk) h8 kS
  | ifnonnull off =>
    have h : mc_n (n == 3) (mc_icn false pc off L st M) = some (.inl S) := h
    obtain ⟨hn, h8⟩ := mc_n_t h
    have hn : n = 3 := by simpa using hn
    subst hn
    exact mc_r_icn (f := false) (fun H locs cells slots ls rest x tgt ht kk => lv_ifnonnull hx hb hd ht kk) (fun H locs cells slots ls rest tgt ht kk => lv_ifnonnullN hx hb hd kk) h8 kS
  | if_acmp cond off =>
    cases cond with
    | eq =>
      have h : mc_n (n == 3) (mc_ica true pc off L st M) = some (.inl S) := h
      obtain ⟨hn, h8⟩ := mc_n_t h
      have hn : n = 3 := by simpa using hn
      subst hn
      exact mc_r_ica hinj (fun H locs cells slots ls rest rx ry tgt ht kt kf => lv_acmp_eq hx hb hd ht (fun q => kt (by simp [q])) (fun q => kf (by simp [q]))) h8 kS
    | ne =>
      have h : mc_n (n == 3) (mc_ica false pc off L st M) = some (.inl S) := h
      obtain ⟨hn, h8⟩ := mc_n_t h
      have hn : n = 3 := by simpa using hn
      subst hn
      exact mc_r_ica hinj (fun H locs cells slots ls rest rx ry tgt ht kt kf => lv_acmp_ne hx hb hd ht (fun q => kt (by simp [q])) (fun q => kf (by simp [q]))) h8 kS
  | goto off =>
    have h : mc_n (n == 3) (mc_jp pc off L st M) = some (.inl S) := h
    obtain ⟨hn, h8⟩ := mc_n_t h
    have hn : n = 3 := by simpa using hn
    subst hn
    exact mc_r_jp (fun H locs cells slots ls rest tgt ht kk => lv_goto hx hb hd ht kk) h8 kS
  | dup  =>
    have h : mc_n (n == 1) (mc_dup pc L st M) = some (.inl S) := h
    obtain ⟨hn, h8⟩ := mc_n_t h
    have hn : n = 1 := by simpa using hn
    subst hn
    exact mc_r_dup (fun H locs cells slots ls rest v hv kk => lv_dup hx hb hd hv kk) h8 kS
  | pop  =>
    have h : mc_n (n == 1) (mc_pop pc L st M) = some (.inl S) := h
    obtain ⟨hn, h8⟩ := mc_n_t h
    have hn : n = 1 := by simpa using hn
    subst hn
    exact mc_r_pop (fun H locs cells slots ls rest v hv kk => lv_pop hx hb hd hv kk) h8 kS
  | dup2  =>
    have h : mc_n (n == 1) (mc_dup2 pc L st M) = some (.inl S) := h
    obtain ⟨hn, h8⟩ := mc_n_t h
    have hn : n = 1 := by simpa using hn
    subst hn
    exact mc_r_dup2 (fun H locs cells slots ls rest v hv kk => lv_dup2_2 hx hb hd hv kk) (fun H locs cells slots ls rest v w hv hw kk => lv_dup2_11 hx hb hd hv hw kk) h8 kS
  | pop2  =>
    have h : mc_n (n == 1) (mc_pop2 pc L st M) = some (.inl S) := h
    obtain ⟨hn, h8⟩ := mc_n_t h
    have hn : n = 1 := by simpa using hn
    subst hn
    exact mc_r_pop2 (fun H locs cells slots ls rest v hv kk => lv_pop2_2 hx hb hd hv kk) h8 kS
  | getfield i =>
    have h : mc_n (n == 3) (mc_getf kt own i pc L st M) = some (.inl S) := h
    obtain ⟨hn, h8⟩ := mc_n_t h
    have hn : n = 3 := by simpa using hn
    subst hn
    exact mc_r_getf C hd h8 kS
  | putfield i =>
    have h : mc_n (n == 3) (mc_putf own ini i pc L st M) = some (.inl S) := h
    obtain ⟨hn, h8⟩ := mc_n_t h
    have hn : n = 3 := by simpa using hn
    subst hn
    exact mc_r_putf C hd h8 kS
  | iaload  =>
    have h : mc_n (n == 1) (mc_ald kt (fun t => t == 0) pc L st M) = some (.inl S) := h
    obtain ⟨hn, h8⟩ := mc_n_t h
    have hn : n = 1 := by simpa using hn
    subst hn
    exact mc_r_ald C (fun H locs cells slots ls rest t a cell i v ht hcell harr hvm hin hv kk => by
      have ht : t = 0 := by simpa using ht
      subst ht
      exact W.iald hx hb hcell harr hvm hin hv rfl rfl hd kk) h8 kS
  | laload  =>
    have h : mc_n (n == 1) (mc_ald kt (fun t => t == 1) pc L st M) = some (.inl S) := h
    obtain ⟨hn, h8⟩ := mc_n_t h
    have hn : n = 1 := by simpa using hn
    subst hn
    exact mc_r_ald C (fun H locs cells slots ls rest t a cell i v ht hcell harr hvm hin hv kk => by
      have ht : t = 1 := by simpa using ht
      subst ht
      exact W.lald hx hb hcell harr hvm hin hv rfl rfl hd kk) h8 kS
  | baload  =>
    have h : mc_n (n == 1) (mc_ald kt (fun t => t == 2 || t == 3) pc L st M) = some (.inl S) := h
    obtain ⟨hn, h8⟩ := mc_n_t h
    have hn : n = 1 := by simpa using hn
    subst hn
    exact mc_r_ald C (fun H locs cells slots ls rest t a cell i v ht hcell harr hvm hin hv kk => by
      have ht : t = 2 ∨ t = 3 := by simpa using ht
      rcases ht with ht | ht <;> subst ht
      · exact W.bald hx hb hcell harr hvm hin hv rfl rfl hd kk
      · exact W.zald hx hb hcell harr hvm hin hv rfl rfl hd kk) h8 kS
  | aaload  =>
    have h : mc_n (n == 1) (mc_ald kt (fun t => decide (4 ≤ t)) pc L st M) = some (.inl S) := h
    obtain ⟨hn, h8⟩ := mc_n_t h
    have hn : n = 1 := by simpa using hn
    subst hn
    exact mc_r_ald C (fun H locs cells slots ls rest t a cell i v ht hcell harr hvm hin hv kk => by
      have ht : 4 ≤ t := by simpa using ht
      exact W.aald hx hb hcell harr (mc_ref4 ht) hvm hin hv rfl rfl hd kk) h8 kS
  | iastore  =>
    have h : mc_n (n == 1) (mc_ast kt (fun t v => t == 0 && mc_isI v) (fun _ v => v) pc L st M) = some (.inl S) := h
    obtain ⟨hn, h8⟩ := mc_n_t h
    have hn : n = 1 := by simpa using hn
    subst hn
    exact mc_r_ast C (fun H locs cells slots ls rest t v a cell i hok hcell harr hvm hin kk => by
      simp only [Bool.and_eq_true, beq_iff_eq] at hok
      obtain ⟨ht, hv⟩ := hok
      subst ht
      cases v with
      | int x => exact W.iast hx hb hcell harr hvm hin rfl rfl hd kk
      | _ => cases hv) (fun t v hok => by
      simp only [Bool.and_eq_true, beq_iff_eq] at hok
      omega) h8 kS
  | lastore  =>
    have h : mc_n (n == 1) (mc_ast kt (fun t v => t == 1 && mc_isL v) (fun _ v => v) pc L st M) = some (.inl S) := h
    obtain ⟨hn, h8⟩ := mc_n_t h
    have hn : n = 1 := by simpa using hn
    subst hn
    exact mc_r_ast C (fun H locs cells slots ls rest t v a cell i hok hcell harr hvm hin kk => by
      simp only [Bool.and_eq_true, beq_iff_eq] at hok
      obtain ⟨ht, hv⟩ := hok
      subst ht
      cases v with
      | long x => exact W.last hx hb hcell harr hvm hin rfl rfl hd kk
      | _ => cases hv) (fun t v hok => by
      simp only [Bool.and_eq_true, beq_iff_eq] at hok
      omega) h8 kS
  | bastore  =>
    have h : mc_n (n == 1) (mc_ast kt (fun t v => (t == 2 || t == 3) && mc_isI v) (fun t v => narrow (mc_ty t) v) pc L st M) = some (.inl S) := h
    obtain ⟨hn, h8⟩ := mc_n_t h
    have hn : n = 1 := by simpa using hn
    subst hn
    exact mc_r_ast C (fun H locs cells slots ls rest t v a cell i hok hcell harr hvm hin kk => by
      simp only [Bool.and_eq_true, Bool.or_eq_true, beq_iff_eq] at hok
      obtain ⟨ht, hv⟩ := hok
      cases v with
      | int x =>
        rcases ht with ht | ht <;> subst ht
        · exact W.bast hx hb hcell harr hvm hin rfl rfl hd kk
        · exact W.zast hx hb hcell harr hvm hin rfl rfl hd kk
      | _ => cases hv) (fun t v hok => by
      simp only [Bool.and_eq_true, Bool.or_eq_true, beq_iff_eq] at hok
      omega) h8 kS
  | aastore  =>
    have h : mc_n (n == 1) (mc_ast kt (mc_isP M) (fun _ v => v) pc L st M) = some (.inl S) := h
    obtain ⟨hn, h8⟩ := mc_n_t h
    have hn : n = 1 := by simpa using hn
    subst hn
    exact mc_r_aast C hd h8 kS
  | arraylength  =>
    have h : mc_n (n == 1) (mc_len kt pc L st M) = some (.inl S) := h
    obtain ⟨hn, h8⟩ := mc_n_t h
    have hn : n = 1 := by simpa using hn
    subst hn
    exact mc_r_len C hd h8 kS
  | newarray a =>
    have h : mc_n (n == 2) (mc_newa a pc L st M) = some (.inl S) := h
    obtain ⟨hn, h8⟩ := mc_n_t h
    have hn : n = 2 := by simpa using hn
    subst hn
    exact mc_r_newa C hd h8 hR kS
  | anewarray i =>
    have h : mc_n (n == 3) (mc_anew own i pc L st M) = some (.inl S) := h
    obtain ⟨hn, h8⟩ := mc_n_t h
    have hn : n = 3 := by simpa using hn
    subst hn
    exact mc_r_anew C hd h8 hR kS
  | multianewarray i j =>
    match j, hd, h with
    | 2, hd, h =>
      have h : mc_n (n == 4) (mc_mna own i pc L st M) = some (.inl S) := h
      obtain ⟨hn, h8⟩ := mc_n_t h
      have hn : n = 4 := by simpa using hn
      subst hn
      exact mc_r_mna C hd h8 hR kS
    | 0, hd, h => cases h
    | 1, hd, h => cases h
    | j + 3, hd, h => cases h
  | new i =>
    have h : mc_n (n == 3) (mc_new own i pc L st M) = some (.inl S) := h
    obtain ⟨hn, h8⟩ := mc_n_t h
    have hn : n = 3 := by simpa using hn
    subst hn
    exact mc_r_new C hd h8 hR kS
  | getstatic i =>
    have h : mc_n (n == 3) (mc_gs own i pc L st M) = some (.inl S) := h
    obtain ⟨hn, h8⟩ := mc_n_t h
    have hn : n = 3 := by simpa using hn
    subst hn
    exact mc_r_gs C hd h8 kS
  | ldc i =>
    have h : mc_n (n == 2) (mc_ldc own i 2 pc L st M) = some (.inl S) := h
    obtain ⟨hn, h8⟩ := mc_n_t h
    have hn : n = 2 := by simpa using hn
    subst hn
    exact mc_r_ldc C hd h8 kS
  | ldc2_w i =>
    have h : mc_n (n == 3) (mc_ldc2 own i pc L st M) = some (.inl S) := h
    obtain ⟨hn, h8⟩ := mc_n_t h
    have hn : n = 3 := by simpa using hn
    subst hn
    exact mc_r_ldc2 C hd h8 kS
  | tableswitch d lo hi offs =>
    have h8 : mc_tsw d lo hi offs pc L st M = some (.inl S) := h
    exact mc_r_tsw C hd h8 kS
  | invokevirtual i =>
    have h : mc_n (n == 3) (mc_cal call own 1 i pc L st M) = some (.inl S) := h
    obtain ⟨hn, h8⟩ := mc_n_t h
    have hn : n = 3 := by simpa using hn
    subst hn
    exact mc_r_calV C IH hF hd h8 hR kS
  | invokestatic i =>
    have h : mc_n (n == 3) (mc_or (mc_cal call own 0 i pc L st M) (mc_math own i pc L st M)) = some (.inl S) := h
    obtain ⟨hn, h8⟩ := mc_n_t h
    have hn : n = 3 := by simpa using hn
    subst hn
    exact (mc_or_t h8).elim (fun h => mc_r_calS C IH hF hd h hR kS) (fun h => mc_r_math C hF hd h hR kS)
  | invokespecial i =>
    have h : mc_n (n == 3) (mc_or (mc_cal call own 2 i pc L st M) (mc_obj own i pc L st M)) = some (.inl S) := h
    obtain ⟨hn, h8⟩ := mc_n_t h
    have hn : n = 3 := by simpa using hn
    subst hn
    exact (mc_or_t h8).elim (fun h => mc_r_calI C IH (fun k q => mc_void) hF hd h hR kS) (fun h => mc_r_obj C hF hd h kS)
  | ireturn  =>
    have h : mc_n (n == 1) (mc_ret ret st M) = some (.inl S) := h
    obtain ⟨hn, h8⟩ := mc_n_t h
    have hn : n = 1 := by simpa using hn
    subst hn
    exact absurd h8 mc_retX.1
  | lreturn  =>
    have h : mc_n (n == 1) (mc_retL ret st M) = some (.inl S) := h
    obtain ⟨hn, h8⟩ := mc_n_t h
    have hn : n = 1 := by simpa using hn
    subst hn
    exact absurd h8 mc_retX.2.1
  | areturn  =>
    have h : mc_n (n == 1) (mc_retA ret st M) = some (.inl S) := h
    obtain ⟨hn, h8⟩ := mc_n_t h
    have hn : n = 1 := by simpa using hn
    subst hn
    exact absurd h8 mc_retX.2.2.1
  | return_  =>
    have h : mc_n (n == 1) (mc_retV ret st M) = some (.inl S) := h
    obtain ⟨hn, h8⟩ := mc_n_t h
    have hn : n = 1 := by simpa using hn
    subst hn
    exact absurd h8 mc_retX.2.2.2
  | _ => cases h
end MC7
end
section
/-! THE MINI MACHINE'S RUNS ARE THE MACHINE'S (own work, wip/gen/loopok.py) -/
def mc_ok1 (M : mc_M) (r : mc_S ⊕ mc_R) : Prop := match r with
  | .inl S => mc_le M S.2.2.2
  | .inr w => w.2 = M
theorem mc_le_rf (M : mc_M) : mc_le M M := ⟨Nat.le_refl _, Nat.le_refl _⟩
theorem mc_le.tr {M N K : mc_M} (h : mc_le M N) (h2 : mc_le N K) : mc_le M K := ⟨Nat.le_trans h.1 h2.1, Nat.le_trans h.2 h2.2⟩
theorem mc_le_app (M N : mc_M) : mc_le M (M ++ N) := ⟨by rw [List.length_append]; omega, by rw [mc_sz_app]; omega⟩
theorem mc_le_set {M : mc_M} {k : Nat} {e0 e : mc_E} (hk : M[k]? = some e0) (he : mc_es e = mc_es e0) : mc_le M (M.set k e) := ⟨by rw [List.length_set]; exact Nat.le_refl _, by rw [mc_sz_set hk he]; exact Nat.le_refl _⟩
section MK
variable {pc : Nat} {L : List (Nat × Value)} {st : List Value} {M N : mc_M} {r : mc_S ⊕ mc_R} {kt : Nat → Option mc_E} {own : Nat} {ini : Bool} {off : Int}
theorem mc_go_k {pc : Nat} {L : List (Nat × Value)} {st : List Value} (h : mc_go pc L st N = some r) (hle : mc_le M N) : mc_ok1 M r := by
  unfold mc_go at h
  cases h
  exact hle
theorem mc_n_k {b : Bool} {o : mc_O} (h : mc_n b o = some r) : o = some r := by
  unfold mc_n at h
  split at h
  · exact h
  · cases h
theorem mc_k_jp (h : mc_jp pc off L st M = some r) : mc_ok1 M r := by
  unfold mc_jp at h
  split at h
  · exact mc_go_k h (mc_le_rf M)
  · cases h
theorem mc_k_br {b : Bool} (h : mc_br b pc off L st M = some r) : mc_ok1 M r := by
  unfold mc_br at h
  split at h
  · split at h
    · exact mc_go_k h (mc_le_rf M)
    · exact mc_go_k h (mc_le_rf M)
  · cases h
theorem mc_k_ld {ok : Value → Bool} {i d : Nat} (h : mc_ld ok i d pc L st M = some r) : mc_ok1 M r := by
  unfold mc_ld at h
  repeat' (split at h)
  all_goals first | (cases h; done) | exact mc_go_k h (mc_le_rf M) | exact mc_go_k (mc_n_k h) (mc_le_rf M) | exact mc_k_br h | exact mc_k_jp h | exact mc_go_k (mc_n_k h) (mc_le_app M _) | exact mc_go_k h (mc_le_app M _) | exact mc_go_k (mc_n_k h) ((mc_le_app M _).tr (mc_le_app _ _))
theorem mc_k_sv {ok : Value → Bool} {nL i d : Nat} (h : mc_sv ok nL i d pc L st M = some r) : mc_ok1 M r := by
  unfold mc_sv at h
  repeat' (split at h)
  all_goals first | (cases h; done) | exact mc_go_k h (mc_le_rf M) | exact mc_go_k (mc_n_k h) (mc_le_rf M) | exact mc_k_br h | exact mc_k_jp h | exact mc_go_k (mc_n_k h) (mc_le_app M _) | exact mc_go_k h (mc_le_app M _) | exact mc_go_k (mc_n_k h) ((mc_le_app M _).tr (mc_le_app _ _))
theorem mc_k_svL {nL i d : Nat} (h : mc_svL nL i d pc L st M = some r) : mc_ok1 M r := by
  unfold mc_svL at h
  repeat' (split at h)
  all_goals first | (cases h; done) | exact mc_go_k h (mc_le_rf M) | exact mc_go_k (mc_n_k h) (mc_le_rf M) | exact mc_k_br h | exact mc_k_jp h | exact mc_go_k (mc_n_k h) (mc_le_app M _) | exact mc_go_k h (mc_le_app M _) | exact mc_go_k (mc_n_k h) ((mc_le_app M _).tr (mc_le_app _ _))
theorem mc_k_inc {nL i : Nat} {k : Int} (h : mc_inc nL i k pc L st M = some r) : mc_ok1 M r := by
  unfold mc_inc at h
  repeat' (split at h)
  all_goals first | (cases h; done) | exact mc_go_k h (mc_le_rf M) | exact mc_go_k (mc_n_k h) (mc_le_rf M) | exact mc_k_br h | exact mc_k_jp h | exact mc_go_k (mc_n_k h) (mc_le_app M _) | exact mc_go_k h (mc_le_app M _) | exact mc_go_k (mc_n_k h) ((mc_le_app M _).tr (mc_le_app _ _))
theorem mc_k_ii2 {f : Int32 → Int32 → Option Int32} (h : mc_ii2 f pc L st M = some r) : mc_ok1 M r := by
  unfold mc_ii2 at h
  repeat' (split at h)
  all_goals first | (cases h; done) | exact mc_go_k h (mc_le_rf M) | exact mc_go_k (mc_n_k h) (mc_le_rf M) | exact mc_k_br h | exact mc_k_jp h | exact mc_go_k (mc_n_k h) (mc_le_app M _) | exact mc_go_k h (mc_le_app M _) | exact mc_go_k (mc_n_k h) ((mc_le_app M _).tr (mc_le_app _ _))
theorem mc_k_ll2 {f : Int64 → Int64 → Option Int64} (h : mc_ll2 f pc L st M = some r) : mc_ok1 M r := by
  unfold mc_ll2 at h
  repeat' (split at h)
  all_goals first | (cases h; done) | exact mc_go_k h (mc_le_rf M) | exact mc_go_k (mc_n_k h) (mc_le_rf M) | exact mc_k_br h | exact mc_k_jp h | exact mc_go_k (mc_n_k h) (mc_le_app M _) | exact mc_go_k h (mc_le_app M _) | exact mc_go_k (mc_n_k h) ((mc_le_app M _).tr (mc_le_app _ _))
theorem mc_k_li2 {f : Int64 → Int32 → Int64} (h : mc_li2 f pc L st M = some r) : mc_ok1 M r := by
  unfold mc_li2 at h
  repeat' (split at h)
  all_goals first | (cases h; done) | exact mc_go_k h (mc_le_rf M) | exact mc_go_k (mc_n_k h) (mc_le_rf M) | exact mc_k_br h | exact mc_k_jp h | exact mc_go_k (mc_n_k h) (mc_le_app M _) | exact mc_go_k h (mc_le_app M _) | exact mc_go_k (mc_n_k h) ((mc_le_app M _).tr (mc_le_app _ _))
theorem mc_k_cmp (h : mc_cmp pc L st M = some r) : mc_ok1 M r := by
  unfold mc_cmp at h
  repeat' (split at h)
  all_goals first | (cases h; done) | exact mc_go_k h (mc_le_rf M) | exact mc_go_k (mc_n_k h) (mc_le_rf M) | exact mc_k_br h | exact mc_k_jp h | exact mc_go_k (mc_n_k h) (mc_le_app M _) | exact mc_go_k h (mc_le_app M _) | exact mc_go_k (mc_n_k h) ((mc_le_app M _).tr (mc_le_app _ _))
theorem mc_k_i1 {f : Int32 → Value} (h : mc_i1 f pc L st M = some r) : mc_ok1 M r := by
  unfold mc_i1 at h
  repeat' (split at h)
  all_goals first | (cases h; done) | exact mc_go_k h (mc_le_rf M) | exact mc_go_k (mc_n_k h) (mc_le_rf M) | exact mc_k_br h | exact mc_k_jp h | exact mc_go_k (mc_n_k h) (mc_le_app M _) | exact mc_go_k h (mc_le_app M _) | exact mc_go_k (mc_n_k h) ((mc_le_app M _).tr (mc_le_app _ _))
theorem mc_k_l1 {f : Int64 → Value} (h : mc_l1 f pc L st M = some r) : mc_ok1 M r := by
  unfold mc_l1 at h
  repeat' (split at h)
  all_goals first | (cases h; done) | exact mc_go_k h (mc_le_rf M) | exact mc_go_k (mc_n_k h) (mc_le_rf M) | exact mc_k_br h | exact mc_k_jp h | exact mc_go_k (mc_n_k h) (mc_le_app M _) | exact mc_go_k h (mc_le_app M _) | exact mc_go_k (mc_n_k h) ((mc_le_app M _).tr (mc_le_app _ _))
theorem mc_k_ic2 {f : Int32 → Int32 → Bool} (h : mc_ic2 f pc off L st M = some r) : mc_ok1 M r := by
  unfold mc_ic2 at h
  repeat' (split at h)
  all_goals first | (cases h; done) | exact mc_go_k h (mc_le_rf M) | exact mc_go_k (mc_n_k h) (mc_le_rf M) | exact mc_k_br h | exact mc_k_jp h | exact mc_go_k (mc_n_k h) (mc_le_app M _) | exact mc_go_k h (mc_le_app M _) | exact mc_go_k (mc_n_k h) ((mc_le_app M _).tr (mc_le_app _ _))
theorem mc_k_ic1 {f : Int32 → Bool} (h : mc_ic1 f pc off L st M = some r) : mc_ok1 M r := by
  unfold mc_ic1 at h
  repeat' (split at h)
  all_goals first | (cases h; done) | exact mc_go_k h (mc_le_rf M) | exact mc_go_k (mc_n_k h) (mc_le_rf M) | exact mc_k_br h | exact mc_k_jp h | exact mc_go_k (mc_n_k h) (mc_le_app M _) | exact mc_go_k h (mc_le_app M _) | exact mc_go_k (mc_n_k h) ((mc_le_app M _).tr (mc_le_app _ _))
theorem mc_k_icn {f : Bool} (h : mc_icn f pc off L st M = some r) : mc_ok1 M r := by
  unfold mc_icn at h
  repeat' (split at h)
  all_goals first | (cases h; done) | exact mc_go_k h (mc_le_rf M) | exact mc_go_k (mc_n_k h) (mc_le_rf M) | exact mc_k_br h | exact mc_k_jp h | exact mc_go_k (mc_n_k h) (mc_le_app M _) | exact mc_go_k h (mc_le_app M _) | exact mc_go_k (mc_n_k h) ((mc_le_app M _).tr (mc_le_app _ _))
theorem mc_k_ica {f : Bool} (h : mc_ica f pc off L st M = some r) : mc_ok1 M r := by
  unfold mc_ica at h
  repeat' (split at h)
  all_goals first | (cases h; done) | exact mc_go_k h (mc_le_rf M) | exact mc_go_k (mc_n_k h) (mc_le_rf M) | exact mc_k_br h | exact mc_k_jp h | exact mc_go_k (mc_n_k h) (mc_le_app M _) | exact mc_go_k h (mc_le_app M _) | exact mc_go_k (mc_n_k h) ((mc_le_app M _).tr (mc_le_app _ _))
theorem mc_k_dup (h : mc_dup pc L st M = some r) : mc_ok1 M r := by
  unfold mc_dup at h
  repeat' (split at h)
  all_goals first | (cases h; done) | exact mc_go_k h (mc_le_rf M) | exact mc_go_k (mc_n_k h) (mc_le_rf M) | exact mc_k_br h | exact mc_k_jp h | exact mc_go_k (mc_n_k h) (mc_le_app M _) | exact mc_go_k h (mc_le_app M _) | exact mc_go_k (mc_n_k h) ((mc_le_app M _).tr (mc_le_app _ _))
theorem mc_k_pop (h : mc_pop pc L st M = some r) : mc_ok1 M r := by
  unfold mc_pop at h
  repeat' (split at h)
  all_goals first | (cases h; done) | exact mc_go_k h (mc_le_rf M) | exact mc_go_k (mc_n_k h) (mc_le_rf M) | exact mc_k_br h | exact mc_k_jp h | exact mc_go_k (mc_n_k h) (mc_le_app M _) | exact mc_go_k h (mc_le_app M _) | exact mc_go_k (mc_n_k h) ((mc_le_app M _).tr (mc_le_app _ _))
theorem mc_k_dup2 (h : mc_dup2 pc L st M = some r) : mc_ok1 M r := by
  unfold mc_dup2 at h
  repeat' (split at h)
  all_goals first | (cases h; done) | exact mc_go_k h (mc_le_rf M) | exact mc_go_k (mc_n_k h) (mc_le_rf M) | exact mc_k_br h | exact mc_k_jp h | exact mc_go_k (mc_n_k h) (mc_le_app M _) | exact mc_go_k h (mc_le_app M _) | exact mc_go_k (mc_n_k h) ((mc_le_app M _).tr (mc_le_app _ _))
theorem mc_k_pop2 (h : mc_pop2 pc L st M = some r) : mc_ok1 M r := by
  unfold mc_pop2 at h
  repeat' (split at h)
  all_goals first | (cases h; done) | exact mc_go_k h (mc_le_rf M) | exact mc_go_k (mc_n_k h) (mc_le_rf M) | exact mc_k_br h | exact mc_k_jp h | exact mc_go_k (mc_n_k h) (mc_le_app M _) | exact mc_go_k h (mc_le_app M _) | exact mc_go_k (mc_n_k h) ((mc_le_app M _).tr (mc_le_app _ _))
theorem mc_k_getf {idx : Nat} (h : mc_getf kt own idx pc L st M = some r) : mc_ok1 M r := by
  unfold mc_getf at h
  repeat' (split at h)
  all_goals first | (cases h; done) | exact mc_go_k h (mc_le_rf M) | exact mc_go_k (mc_n_k h) (mc_le_rf M) | exact mc_k_br h | exact mc_k_jp h | exact mc_go_k (mc_n_k h) (mc_le_app M _) | exact mc_go_k h (mc_le_app M _) | exact mc_go_k (mc_n_k h) ((mc_le_app M _).tr (mc_le_app _ _))
theorem mc_k_ald {ok : Nat → Bool} (h : mc_ald kt ok pc L st M = some r) : mc_ok1 M r := by
  unfold mc_ald at h
  repeat' (split at h)
  all_goals first | (cases h; done) | exact mc_go_k h (mc_le_rf M) | exact mc_go_k (mc_n_k h) (mc_le_rf M) | exact mc_k_br h | exact mc_k_jp h | exact mc_go_k (mc_n_k h) (mc_le_app M _) | exact mc_go_k h (mc_le_app M _) | exact mc_go_k (mc_n_k h) ((mc_le_app M _).tr (mc_le_app _ _))
theorem mc_k_len (h : mc_len kt pc L st M = some r) : mc_ok1 M r := by
  unfold mc_len at h
  repeat' (split at h)
  all_goals first | (cases h; done) | exact mc_go_k h (mc_le_rf M) | exact mc_go_k (mc_n_k h) (mc_le_rf M) | exact mc_k_br h | exact mc_k_jp h | exact mc_go_k (mc_n_k h) (mc_le_app M _) | exact mc_go_k h (mc_le_app M _) | exact mc_go_k (mc_n_k h) ((mc_le_app M _).tr (mc_le_app _ _))
theorem mc_k_newa {a : ArrayType} (h : mc_newa a pc L st M = some r) : mc_ok1 M r := by
  unfold mc_newa at h
  repeat' (split at h)
  all_goals first | (cases h; done) | exact mc_go_k h (mc_le_rf M) | exact mc_go_k (mc_n_k h) (mc_le_rf M) | exact mc_k_br h | exact mc_k_jp h | exact mc_go_k (mc_n_k h) (mc_le_app M _) | exact mc_go_k h (mc_le_app M _) | exact mc_go_k (mc_n_k h) ((mc_le_app M _).tr (mc_le_app _ _))
theorem mc_k_anew {idx : Nat} (h : mc_anew own idx pc L st M = some r) : mc_ok1 M r := by
  unfold mc_anew at h
  repeat' (split at h)
  all_goals first | (cases h; done) | exact mc_go_k h (mc_le_rf M) | exact mc_go_k (mc_n_k h) (mc_le_rf M) | exact mc_k_br h | exact mc_k_jp h | exact mc_go_k (mc_n_k h) (mc_le_app M _) | exact mc_go_k h (mc_le_app M _) | exact mc_go_k (mc_n_k h) ((mc_le_app M _).tr (mc_le_app _ _))
theorem mc_k_mna {idx : Nat} (h : mc_mna own idx pc L st M = some r) : mc_ok1 M r := by
  unfold mc_mna at h
  repeat' (split at h)
  all_goals first | (cases h; done) | exact mc_go_k h (mc_le_rf M) | exact mc_go_k (mc_n_k h) (mc_le_rf M) | exact mc_k_br h | exact mc_k_jp h | exact mc_go_k (mc_n_k h) (mc_le_app M _) | exact mc_go_k h (mc_le_app M _) | exact mc_go_k (mc_n_k h) ((mc_le_app M _).tr (mc_le_app _ _))
theorem mc_k_new {idx : Nat} (h : mc_new own idx pc L st M = some r) : mc_ok1 M r := by
  unfold mc_new at h
  repeat' (split at h)
  all_goals first | (cases h; done) | exact mc_go_k h (mc_le_rf M) | exact mc_go_k (mc_n_k h) (mc_le_rf M) | exact mc_k_br h | exact mc_k_jp h | exact mc_go_k (mc_n_k h) (mc_le_app M _) | exact mc_go_k h (mc_le_app M _) | exact mc_go_k (mc_n_k h) ((mc_le_app M _).tr (mc_le_app _ _))
theorem mc_k_gs {idx : Nat} (h : mc_gs own idx pc L st M = some r) : mc_ok1 M r := by
  unfold mc_gs at h
  repeat' (split at h)
  all_goals first | (cases h; done) | exact mc_go_k h (mc_le_rf M) | exact mc_go_k (mc_n_k h) (mc_le_rf M) | exact mc_k_br h | exact mc_k_jp h | exact mc_go_k (mc_n_k h) (mc_le_app M _) | exact mc_go_k h (mc_le_app M _) | exact mc_go_k (mc_n_k h) ((mc_le_app M _).tr (mc_le_app _ _))
theorem mc_k_ldc {idx d : Nat} (h : mc_ldc own idx d pc L st M = some r) : mc_ok1 M r := by
  unfold mc_ldc at h
  repeat' (split at h)
  all_goals first | (cases h; done) | exact mc_go_k h (mc_le_rf M) | exact mc_go_k (mc_n_k h) (mc_le_rf M) | exact mc_k_br h | exact mc_k_jp h | exact mc_go_k (mc_n_k h) (mc_le_app M _) | exact mc_go_k h (mc_le_app M _) | exact mc_go_k (mc_n_k h) ((mc_le_app M _).tr (mc_le_app _ _))
theorem mc_k_ldc2 {idx : Nat} (h : mc_ldc2 own idx pc L st M = some r) : mc_ok1 M r := by
  unfold mc_ldc2 at h
  repeat' (split at h)
  all_goals first | (cases h; done) | exact mc_go_k h (mc_le_rf M) | exact mc_go_k (mc_n_k h) (mc_le_rf M) | exact mc_k_br h | exact mc_k_jp h | exact mc_go_k (mc_n_k h) (mc_le_app M _) | exact mc_go_k h (mc_le_app M _) | exact mc_go_k (mc_n_k h) ((mc_le_app M _).tr (mc_le_app _ _))
theorem mc_k_tsw {dflt lo hi : Int} {offs : Array Int} (h : mc_tsw dflt lo hi offs pc L st M = some r) : mc_ok1 M r := by
  unfold mc_tsw at h
  repeat' (split at h)
  all_goals first | (cases h; done) | exact mc_go_k h (mc_le_rf M) | exact mc_go_k (mc_n_k h) (mc_le_rf M) | exact mc_k_br h | exact mc_k_jp h | exact mc_go_k (mc_n_k h) (mc_le_app M _) | exact mc_go_k h (mc_le_app M _) | exact mc_go_k (mc_n_k h) ((mc_le_app M _).tr (mc_le_app _ _))
theorem mc_k_obj {idx : Nat} (h : mc_obj own idx pc L st M = some r) : mc_ok1 M r := by
  unfold mc_obj at h
  repeat' (split at h)
  all_goals first | (cases h; done) | exact mc_go_k h (mc_le_rf M) | exact mc_go_k (mc_n_k h) (mc_le_rf M) | exact mc_k_br h | exact mc_k_jp h | exact mc_go_k (mc_n_k h) (mc_le_app M _) | exact mc_go_k h (mc_le_app M _) | exact mc_go_k (mc_n_k h) ((mc_le_app M _).tr (mc_le_app _ _))
theorem mc_k_math {idx : Nat} (h : mc_math own idx pc L st M = some r) : mc_ok1 M r := by
  unfold mc_math at h
  repeat' (split at h)
  all_goals first | (cases h; done) | exact mc_go_k h (mc_le_rf M) | exact mc_go_k (mc_n_k h) (mc_le_rf M) | exact mc_k_br h | exact mc_k_jp h | exact mc_go_k (mc_n_k h) (mc_le_app M _) | exact mc_go_k h (mc_le_app M _) | exact mc_go_k (mc_n_k h) ((mc_le_app M _).tr (mc_le_app _ _))
theorem mc_k_putf {idx : Nat} (h : mc_putf own ini idx pc L st M = some r) : mc_ok1 M r := by
  unfold mc_putf at h
  split at h
  · split at h
    · split at h
      · next q hq => exact mc_go_k (mc_n_k h) (mc_le_set hq (by simp [mc_es]))
      · cases h
    · cases h
  · cases h
theorem mc_k_ast {ok : Nat → Value → Bool} {w : Nat → Value → Value} (h : mc_ast kt ok w pc L st M = some r) : mc_ok1 M r := by
  unfold mc_ast at h
  split at h
  · split at h
    · next q hq => exact mc_go_k (mc_n_k h) (mc_le_set hq (by simp [mc_es]))
    · cases h
  · cases h
theorem mc_k_cal {call : Nat → List Value → mc_M → Option mc_R} (IHle : ∀ (k : Nat) (as : List Value) (M : mc_M) (w : mc_R), call k as M = some w → mc_le M w.2) {sort idx : Nat} (h : mc_cal call own sort idx pc L st M = some r) : mc_ok1 M r := by
  unfold mc_cal at h
  split at h
  · split at h
    · split at h
      · next w hw => exact mc_go_k (mc_n_k h) (IHle _ _ _ _ hw)
      · cases h
    · cases h
  · cases h
theorem mc_k_ret {ret : Option FieldType} : (mc_ret ret st M = some r → mc_ok1 M r) ∧ (mc_retL ret st M = some r → mc_ok1 M r) ∧ (mc_retA ret st M = some r → mc_ok1 M r) ∧ (mc_retV ret st M = some r → mc_ok1 M r) := by
  refine ⟨fun h => ?_, fun h => ?_, fun h => ?_, fun h => ?_⟩
  · unfold mc_ret at h
    split at h
    · cases h; rfl
    · cases mc_n_k h; rfl
    · cases h
  · unfold mc_retL at h
    split at h
    · cases h; rfl
    · cases h
  · unfold mc_retA at h
    split at h
    · cases mc_n_k h; rfl
    · cases mc_n_k h; rfl
    · cases h
  · unfold mc_retV at h
    split at h
    · cases h; rfl
    · cases h
end MK
set_option maxHeartbeats 4000000 in
theorem mc_step_k {kt : Nat → Option mc_E} {own nL : Nat} {ini : Bool} {ret : Option FieldType} {call : Nat → List Value → mc_M → Option mc_R} (IHle : ∀ (k : Nat) (as : List Value) (M : mc_M) (w : mc_R), call k as M = some w → mc_le M w.2) {x : Instr} {n : Nat} {S0 : mc_S} {r : mc_S ⊕ mc_R} (h : mc_step kt call own nL ini ret x n S0 = some r) : mc_ok1 S0.2.2.2 r := by
  obtain ⟨pc, L, st, M⟩ := S0
  cases x with
  | iconst i =>
    have h7 : mc_n (n == 1) (mc_go (pc + 1) L (.int (Int32.ofInt i) :: st) M) = some r := h
    have h8 := mc_n_k h7
    exact mc_go_k h8 (mc_le_rf M)
  | bipush i =>
    have h7 : mc_n (n == 2) (mc_go (pc + 2) L (.int (Int8.ofInt i).toInt32 :: st) M) = some r := h
    have h8 := mc_n_k h7
    exact mc_go_k h8 (mc_le_rf M)
  | sipush i =>
    have h7 : mc_n (n == 3) (mc_go (pc + 3) L (.int (Int16.ofInt i).toInt32 :: st) M) = some r := h
    have h8 := mc_n_k h7
    exact mc_go_k h8 (mc_le_rf M)
  | lconst i =>
    have h7 : mc_n (n == 1) (mc_go (pc + 1) L (.long (Int64.ofNat (i : Nat)) :: st) M) = some r := h
    have h8 := mc_n_k h7
    exact mc_go_k h8 (mc_le_rf M)
  | aconst_null  =>
    have h7 : mc_n (n == 1) (mc_go (pc + 1) L (.null :: st) M) = some r := h
    have h8 := mc_n_k h7
    exact mc_go_k h8 (mc_le_rf M)
  | iload_n i =>
    have h7 : mc_n (n == 1) (mc_ld mc_isI (i : Nat) 1 pc L st M) = some r := h
    have h8 := mc_n_k h7
    exact mc_k_ld h8
  | iload i =>
    have h7 : mc_n (n == 2) (mc_ld mc_isI i 2 pc L st M) = some r := h
    have h8 := mc_n_k h7
    exact mc_k_ld h8
  | lload_n i =>
    have h7 : mc_n (n == 1) (mc_ld mc_isL (i : Nat) 1 pc L st M) = some r := h
    have h8 := mc_n_k h7
    exact mc_k_ld h8
  | lload i =>
    have h7 : mc_n (n == 2) (mc_ld mc_isL i 2 pc L st M) = some r := h
    have h8 := mc_n_k h7
    exact mc_k_ld h8
  | aload_n i =>
    have h7 : mc_n (n == 1) (mc_ld mc_isA (i : Nat) 1 pc L st M) = some r := h
    have h8 := mc_n_k h7
    exact mc_k_ld h8
  | aload i =>
    have h7 : mc_n (n == 2) (mc_ld mc_isA i 2 pc L st M) = some r := h
    have h8 := mc_n_k h7
    exact mc_k_ld h8
  | istore_n i =>
    have h7 : mc_n (n == 1) (mc_sv mc_isI nL (i : Nat) 1 pc L st M) = some r := h
    have h8 := mc_n_k h7
    exact mc_k_sv h8
  | istore i =>
    have h7 : mc_n (n == 2) (mc_sv mc_isI nL i 2 pc L st M) = some r := h
    have h8 := mc_n_k h7
    exact mc_k_sv h8
  | astore_n i =>
    have h7 : mc_n (n == 1) (mc_sv mc_isA nL (i : Nat) 1 pc L st M) = some r := h
    have h8 := mc_n_k h7
    exact mc_k_sv h8
  | astore i =>
    have h7 : mc_n (n == 2) (mc_sv mc_isA nL i 2 pc L st M) = some r := h
    have h8 := mc_n_k h7
    exact mc_k_sv h8
  | lstore_n i =>
    have h7 : mc_n (n == 1) (mc_svL nL (i : Nat) 1 pc L st M) = some r := h
    have h8 := mc_n_k h7
    exact mc_k_svL h8
  | lstore i =>
    have h7 : mc_n (n == 2) (mc_svL nL i 2 pc L st M) = some r := h
    have h8 := mc_n_k h7
    exact mc_k_svL h8
  | iinc i k =>
    have h7 : mc_n (n == 3) (mc_inc nL i k pc L st M) = some r := h
    have h8 := mc_n_k h7
    exact mc_k_inc h8
  | iadd  =>
    have h7 : mc_n (n == 1) (mc_ii2 (fun x y => some (x + y)) pc L st M) = some r := h
    have h8 := mc_n_k h7
    exact mc_k_ii2 h8
  | isub  =>
    have h7 : mc_n (n == 1) (mc_ii2 (fun x y => some (x - y)) pc L st M) = some r := h
    have h8 := mc_n_k h7
    exact mc_k_ii2 h8
  | imul  =>
    have h7 : mc_n (n == 1) (mc_ii2 (fun x y => some (x * y)) pc L st M) = some r := h
    have h8 := mc_n_k h7
    exact mc_k_ii2 h8
  | iand  =>
    have h7 : mc_n (n == 1) (mc_ii2 (fun x y => some (x &&& y)) pc L st M) = some r := h
    have h8 := mc_n_k h7
    exact mc_k_ii2 h8
  | ior  =>
    have h7 : mc_n (n == 1) (mc_ii2 (fun x y => some (x ||| y)) pc L st M) = some r := h
    have h8 := mc_n_k h7
    exact mc_k_ii2 h8
  | ixor  =>
    have h7 : mc_n (n == 1) (mc_ii2 (fun x y => some (x ^^^ y)) pc L st M) = some r := h
    have h8 := mc_n_k h7
    exact mc_k_ii2 h8
  | ishl  =>
    have h7 : mc_n (n == 1) (mc_ii2 (fun x y => some (x <<< (y &&& 31))) pc L st M) = some r := h
    have h8 := mc_n_k h7
    exact mc_k_ii2 h8
  | ishr  =>
    have h7 : mc_n (n == 1) (mc_ii2 (fun x y => some (x >>> (y &&& 31))) pc L st M) = some r := h
    have h8 := mc_n_k h7
    exact mc_k_ii2 h8
  | idiv  =>
    have h7 : mc_n (n == 1) (mc_ii2 (fun x y => if y = 0 then none else some (x / y)) pc L st M) = some r := h
    have h8 := mc_n_k h7
    exact mc_k_ii2 h8
  | irem  =>
    have h7 : mc_n (n == 1) (mc_ii2 (fun x y => if y = 0 then none else some (x - x / y * y)) pc L st M) = some r := h
    have h8 := mc_n_k h7
    exact mc_k_ii2 h8
  | ladd  =>
    have h7 : mc_n (n == 1) (mc_ll2 (fun x y => some (x + y)) pc L st M) = some r := h
    have h8 := mc_n_k h7
    exact mc_k_ll2 h8
  | lsub  =>
    have h7 : mc_n (n == 1) (mc_ll2 (fun x y => some (x - y)) pc L st M) = some r := h
    have h8 := mc_n_k h7
    exact mc_k_ll2 h8
  | lmul  =>
    have h7 : mc_n (n == 1) (mc_ll2 (fun x y => some (x * y)) pc L st M) = some r := h
    have h8 := mc_n_k h7
    exact mc_k_ll2 h8
  | land  =>
    have h7 : mc_n (n == 1) (mc_ll2 (fun x y => some (x &&& y)) pc L st M) = some r := h
    have h8 := mc_n_k h7
    exact mc_k_ll2 h8
  | lor  =>
    have h7 : mc_n (n == 1) (mc_ll2 (fun x y => some (x ||| y)) pc L st M) = some r := h
    have h8 := mc_n_k h7
    exact mc_k_ll2 h8
  | ldiv  =>
    have h7 : mc_n (n == 1) (mc_ll2 (fun x y => if y = 0 then none else some (x / y)) pc L st M) = some r := h
    have h8 := mc_n_k h7
    exact mc_k_ll2 h8
  | lrem  =>
    have h7 : mc_n (n == 1) (mc_ll2 (fun x y => if y = 0 then none else some (x - x / y * y)) pc L st M) = some r := h
    have h8 := mc_n_k h7
    exact mc_k_ll2 h8
  | lshl  =>
    have h7 : mc_n (n == 1) (mc_li2 (fun x y => x <<< (y.toInt64 &&& 63)) pc L st M) = some r := h
    have h8 := mc_n_k h7
    exact mc_k_li2 h8
  | lshr  =>
    have h7 : mc_n (n == 1) (mc_li2 (fun x y => x >>> (y.toInt64 &&& 63)) pc L st M) = some r := h
    have h8 := mc_n_k h7
    exact mc_k_li2 h8
  | lcmp  =>
    have h7 : mc_n (n == 1) (mc_cmp pc L st M) = some r := h
    have h8 := mc_n_k h7
    exact mc_k_cmp h8
  | ineg  =>
    have h7 : mc_n (n == 1) (mc_i1 (fun x => .int (-x)) pc L st M) = some r := h
    have h8 := mc_n_k h7
    exact mc_k_i1 h8
  | i2l  =>
    have h7 : mc_n (n == 1) (mc_i1 (fun x => .long x.toInt64) pc L st M) = some r := h
    have h8 := mc_n_k h7
    exact mc_k_i1 h8
  | i2b  =>
    have h7 : mc_n (n == 1) (mc_i1 (fun x => .int x.toInt8.toInt32) pc L st M) = some r := h
    have h8 := mc_n_k h7
    exact mc_k_i1 h8
  | l2i  =>
    have h7 : mc_n (n == 1) (mc_l1 (fun x => .int x.toInt32) pc L st M) = some r := h
    have h8 := mc_n_k h7
    exact mc_k_l1 h8
  | if_icmp cond off =>
    cases cond with
    | eq =>
      have h7 : mc_n (n == 3) (mc_ic2 (fun x y => decide (x = y)) pc off L st M) = some r := h
      have h8 := mc_n_k h7
      exact mc_k_ic2 h8
    | ne =>
      have h7 : mc_n (n == 3) (mc_ic2 (fun x y => decide (¬ x = y)) pc off L st M) = some r := h
      have h8 := mc_n_k h7
      exact mc_k_ic2 h8
    | lt =>
      have h7 : mc_n (n == 3) (mc_ic2 (fun x y => decide (x < y)) pc off L st M) = some r := h
      have h8 := mc_n_k h7
      exact mc_k_ic2 h8
    | ge =>
      have h7 : mc_n (n == 3) (mc_ic2 (fun x y => decide (y ≤ x)) pc off L st M) = some r := h
      have h8 := mc_n_k h7
      exact mc_k_ic2 h8
    | gt =>
      have h7 : mc_n (n == 3) (mc_ic2 (fun x y => decide (y < x)) pc off L st M) = some r := h
      have h8 := mc_n_k h7
      exact mc_k_ic2 h8
    | le =>
      have h7 : mc_n (n == 3) (mc_ic2 (fun x y => decide (x ≤ y)) pc off L st M) = some r := h
      have h8 := mc_n_k h7
      exact mc_k_ic2 h8
  | ifCond cond off =>
    cases cond with
    | eq =>
      have h7 : mc_n (n == 3) (mc_ic1 (fun x => decide (x = 0)) pc off L st M) = some r := h
      have h8 := mc_n_k h7
      exact mc_k_ic1 h8
    | ne =>
      have h7 : mc_n (n == 3) (mc_ic1 (fun x => decide (¬ x = 0)) pc off L st M) = some r := h
      have h8 := mc_n_k h7
      exact mc_k_ic1 h8
    | lt =>
      have h7 : mc_n (n == 3) (mc_ic1 (fun x => decide (x < 0)) pc off L st M) = some r := h
      have h8 := mc_n_k h7
      exact mc_k_ic1 h8
    | ge =>
      have h7 : mc_n (n == 3) (mc_ic1 (fun x => decide (0 ≤ x)) pc off L st M) = some r := h
      have h8 := mc_n_k h7
      exact mc_k_ic1 h8
    | gt =>
      have h7 : mc_n (n == 3) (mc_ic1 (fun x => decide (0 < x)) pc off L st M) = some r := h
      have h8 := mc_n_k h7
      exact mc_k_ic1 h8
    | le =>
      have h7 : mc_n (n == 3) (mc_ic1 (fun x => decide (x ≤ 0)) pc off L st M) = some r := h
      have h8 := mc_n_k h7
      exact mc_k_ic1 h8
  | ifnull off =>
    have h7 : mc_n (n == 3) (mc_icn true pc off L st M) = some r := h
    have h8 := mc_n_k h7
    exact mc_k_icn h8
  | ifnonnull off =>
    have h7 : mc_n (n == 3) (mc_icn false pc off L st M) = some r := h
    have h8 := mc_n_k h7
    exact mc_k_icn h8
  | if_acmp cond off =>
    cases cond with
    | eq =>
      have h7 : mc_n (n == 3) (mc_ica true pc off L st M) = some r := h
      have h8 := mc_n_k h7
      exact mc_k_ica h8
    | ne =>
      have h7 : mc_n (n == 3) (mc_ica false pc off L st M) = some r := h
      have h8 := mc_n_k h7
      exact mc_k_ica h8
  | goto off =>
    have h7 : mc_n (n == 3) (mc_jp pc off L st M) = some r := h
    have h8 := mc_n_k h7
    exact mc_k_jp h8
  | dup  =>
    have h7 : mc_n (n == 1) (mc_dup pc L st M) = some r := h
    have h8 := mc_n_k h7
    exact mc_k_dup h8
  | pop  =>
    have h7 : mc_n (n == 1) (mc_pop pc L st M) = some r := h
    have h8 := mc_n_k h7
    exact mc_k_pop h8
  | dup2  =>
    have h7 : mc_n (n == 1) (mc_dup2 pc L st M) = some r := h
    have h8 := mc_n_k h7
    exact mc_k_dup2 h8
  | pop2  =>
    have h7 : mc_n (n == 1) (mc_pop2 pc L st M) = some r := h
    have h8 := mc_n_k h7
    exact mc_k_pop2 h8
  | getfield i =>
    have h7 : mc_n (n == 3) (mc_getf kt own i pc L st M) = some r := h
    have h8 := mc_n_k h7
    exact mc_k_getf h8
  | putfield i =>
    have h7 : mc_n (n == 3) (mc_putf own ini i pc L st M) = some r := h
    have h8 := mc_n_k h7
    exact mc_k_putf h8
  | iaload  =>
    have h7 : mc_n (n == 1) (mc_ald kt (fun t => t == 0) pc L st M) = some r := h
    have h8 := mc_n_k h7
    exact mc_k_ald h8
  | laload  =>
    have h7 : mc_n (n == 1) (mc_ald kt (fun t => t == 1) pc L st M) = some r := h
    have h8 := mc_n_k h7
    exact mc_k_ald h8
  | baload  =>
    have h7 : mc_n (n == 1) (mc_ald kt (fun t => t == 2 || t == 3) pc L st M) = some r := h
    have h8 := mc_n_k h7
    exact mc_k_ald h8
  | aaload  =>
    have h7 : mc_n (n == 1) (mc_ald kt (fun t => decide (4 ≤ t)) pc L st M) = some r := h
    have h8 := mc_n_k h7
    exact mc_k_ald h8
  | iastore  =>
    have h7 : mc_n (n == 1) (mc_ast kt (fun t v => t == 0 && mc_isI v) (fun _ v => v) pc L st M) = some r := h
    have h8 := mc_n_k h7
    exact mc_k_ast h8
  | lastore  =>
    have h7 : mc_n (n == 1) (mc_ast kt (fun t v => t == 1 && mc_isL v) (fun _ v => v) pc L st M) = some r := h
    have h8 := mc_n_k h7
    exact mc_k_ast h8
  | bastore  =>
    have h7 : mc_n (n == 1) (mc_ast kt (fun t v => (t == 2 || t == 3) && mc_isI v) (fun t v => narrow (mc_ty t) v) pc L st M) = some r := h
    have h8 := mc_n_k h7
    exact mc_k_ast h8
  | aastore  =>
    have h7 : mc_n (n == 1) (mc_ast kt (mc_isP M) (fun _ v => v) pc L st M) = some r := h
    have h8 := mc_n_k h7
    exact mc_k_ast h8
  | arraylength  =>
    have h7 : mc_n (n == 1) (mc_len kt pc L st M) = some r := h
    have h8 := mc_n_k h7
    exact mc_k_len h8
  | newarray a =>
    have h7 : mc_n (n == 2) (mc_newa a pc L st M) = some r := h
    have h8 := mc_n_k h7
    exact mc_k_newa h8
  | anewarray i =>
    have h7 : mc_n (n == 3) (mc_anew own i pc L st M) = some r := h
    have h8 := mc_n_k h7
    exact mc_k_anew h8
  | multianewarray i j =>
    match j, h with
    | 2, h =>
      have h7 : mc_n (n == 4) (mc_mna own i pc L st M) = some r := h
      have h8 := mc_n_k h7
      exact mc_k_mna h8
    | 0, h => cases h
    | 1, h => cases h
    | j + 3, h => cases h
  | new i =>
    have h7 : mc_n (n == 3) (mc_new own i pc L st M) = some r := h
    have h8 := mc_n_k h7
    exact mc_k_new h8
  | getstatic i =>
    have h7 : mc_n (n == 3) (mc_gs own i pc L st M) = some r := h
    have h8 := mc_n_k h7
    exact mc_k_gs h8
  | ldc i =>
    have h7 : mc_n (n == 2) (mc_ldc own i 2 pc L st M) = some r := h
    have h8 := mc_n_k h7
    exact mc_k_ldc h8
  | ldc2_w i =>
    have h7 : mc_n (n == 3) (mc_ldc2 own i pc L st M) = some r := h
    have h8 := mc_n_k h7
    exact mc_k_ldc2 h8
  | tableswitch d lo hi offs =>
    have h8 : mc_tsw d lo hi offs pc L st M = some r := h
    exact mc_k_tsw h8
  | invokevirtual i =>
    have h7 : mc_n (n == 3) (mc_cal call own 1 i pc L st M) = some r := h
    have h8 := mc_n_k h7
    exact mc_k_cal IHle h8
  | invokestatic i =>
    have h7 : mc_n (n == 3) (mc_or (mc_cal call own 0 i pc L st M) (mc_math own i pc L st M)) = some r := h
    have h8 := mc_n_k h7
    exact (mc_or_t h8).elim (fun h => mc_k_cal IHle h) (fun h => mc_k_math h)
  | invokespecial i =>
    have h7 : mc_n (n == 3) (mc_or (mc_cal call own 2 i pc L st M) (mc_obj own i pc L st M)) = some r := h
    have h8 := mc_n_k h7
    exact (mc_or_t h8).elim (fun h => mc_k_cal IHle h) (fun h => mc_k_obj h)
  | ireturn  =>
    have h7 : mc_n (n == 1) (mc_ret ret st M) = some r := h
    have h8 := mc_n_k h7
    exact mc_k_ret.1 h8
  | lreturn  =>
    have h7 : mc_n (n == 1) (mc_retL ret st M) = some r := h
    have h8 := mc_n_k h7
    exact mc_k_ret.2.1 h8
  | areturn  =>
    have h7 : mc_n (n == 1) (mc_retA ret st M) = some r := h
    have h8 := mc_n_k h7
    exact mc_k_ret.2.2.1 h8
  | return_  =>
    have h7 : mc_n (n == 1) (mc_retV ret st M) = some r := h
    have h8 := mc_n_k h7
    exact mc_k_ret.2.2.2 h8
  | _ => cases h
theorem mc_loop_le {kt : Nat → Option mc_E} {own nL : Nat} {ini : Bool} {ret : Option FieldType} {cc : ByteArray} {call : Nat → List Value → mc_M → Option mc_R} (IHle : ∀ (k : Nat) (as : List Value) (M : mc_M) (w : mc_R), call k as M = some w → mc_le M w.2) : ∀ (n : Nat) (S : mc_S) (w : mc_R), mc_loop kt call own nL ini ret cc n S = some w → mc_le S.2.2.2 w.2
  | 0, _, _, h => by cases h
  | n + 1, S, w, h => by
    unfold mc_loop at h
    split at h
    · next x k hd =>
      split at h
      · next S1 hs => exact mc_le.tr (mc_step_k IHle hs) (mc_loop_le IHle n S1 w h)
      · next w' hs =>
        cases h
        have h1 : w.2 = S.2.2.2 := mc_step_k IHle hs
        rw [h1]
        exact mc_le_rf _
      · cases h
    · cases h
theorem mc_call_le {kt : Nat → Option mc_E} {F : Nat} : ∀ (d k : Nat) (as : List Value) (M : mc_M) (w : mc_R), mc_call kt F d k as M = some w → mc_le M w.2
  | 0, _, _, _, _, h => by cases h
  | d + 1, k, as, M, w, h => by
    unfold mc_call at h
    split at h
    · split at h
      · exact mc_loop_le (mc_call_le d) F _ w h
      · cases h
    · cases h
theorem mc_notr {M : mc_M} {r : mc_S ⊕ mc_R} {w : mc_R} {pc : Nat} {L : List (Nat × Value)} {st : List Value} : mc_go pc L st M = some (.inr w) → False := fun h => by
  unfold mc_go at h
  cases h
theorem mc_z_jp {pc : Nat} {L : List (Nat × Value)} {st : List Value} {M : mc_M} {w : mc_R} {off : Int} (h : mc_jp pc off L st M = some (.inr w)) : False := by
  unfold mc_jp at h
  repeat' (split at h)
  all_goals first | (cases h; done) | (unfold mc_go at h; cases h; done) | (have h9 := mc_n_k h; unfold mc_go at h9; cases h9; done) | exact mc_z_br h | exact mc_z_jp h
theorem mc_z_br {pc : Nat} {L : List (Nat × Value)} {st : List Value} {M : mc_M} {w : mc_R} {off : Int} {b : Bool} (h : mc_br b pc off L st M = some (.inr w)) : False := by
  unfold mc_br at h
  repeat' (split at h)
  all_goals first | (cases h; done) | (unfold mc_go at h; cases h; done) | (have h9 := mc_n_k h; unfold mc_go at h9; cases h9; done) | exact mc_z_br h | exact mc_z_jp h
theorem mc_z_ld {pc : Nat} {L : List (Nat × Value)} {st : List Value} {M : mc_M} {w : mc_R} {ok : Value → Bool} {i d : Nat} (h : mc_ld ok i d pc L st M = some (.inr w)) : False := by
  unfold mc_ld at h
  repeat' (split at h)
  all_goals first | (cases h; done) | (unfold mc_go at h; cases h; done) | (have h9 := mc_n_k h; unfold mc_go at h9; cases h9; done) | exact mc_z_br h | exact mc_z_jp h
theorem mc_z_sv {pc : Nat} {L : List (Nat × Value)} {st : List Value} {M : mc_M} {w : mc_R} {ok : Value → Bool} {nL i d : Nat} (h : mc_sv ok nL i d pc L st M = some (.inr w)) : False := by
  unfold mc_sv at h
  repeat' (split at h)
  all_goals first | (cases h; done) | (unfold mc_go at h; cases h; done) | (have h9 := mc_n_k h; unfold mc_go at h9; cases h9; done) | exact mc_z_br h | exact mc_z_jp h
theorem mc_z_svL {pc : Nat} {L : List (Nat × Value)} {st : List Value} {M : mc_M} {w : mc_R} {nL i d : Nat} (h : mc_svL nL i d pc L st M = some (.inr w)) : False := by
  unfold mc_svL at h
  repeat' (split at h)
  all_goals first | (cases h; done) | (unfold mc_go at h; cases h; done) | (have h9 := mc_n_k h; unfold mc_go at h9; cases h9; done) | exact mc_z_br h | exact mc_z_jp h
theorem mc_z_inc {pc : Nat} {L : List (Nat × Value)} {st : List Value} {M : mc_M} {w : mc_R} {nL i : Nat} {k : Int} (h : mc_inc nL i k pc L st M = some (.inr w)) : False := by
  unfold mc_inc at h
  repeat' (split at h)
  all_goals first | (cases h; done) | (unfold mc_go at h; cases h; done) | (have h9 := mc_n_k h; unfold mc_go at h9; cases h9; done) | exact mc_z_br h | exact mc_z_jp h
theorem mc_z_ii2 {pc : Nat} {L : List (Nat × Value)} {st : List Value} {M : mc_M} {w : mc_R} {f : Int32 → Int32 → Option Int32} (h : mc_ii2 f pc L st M = some (.inr w)) : False := by
  unfold mc_ii2 at h
  repeat' (split at h)
  all_goals first | (cases h; done) | (unfold mc_go at h; cases h; done) | (have h9 := mc_n_k h; unfold mc_go at h9; cases h9; done) | exact mc_z_br h | exact mc_z_jp h
theorem mc_z_ll2 {pc : Nat} {L : List (Nat × Value)} {st : List Value} {M : mc_M} {w : mc_R} {f : Int64 → Int64 → Option Int64} (h : mc_ll2 f pc L st M = some (.inr w)) : False := by
  unfold mc_ll2 at h
  repeat' (split at h)
  all_goals first | (cases h; done) | (unfold mc_go at h; cases h; done) | (have h9 := mc_n_k h; unfold mc_go at h9; cases h9; done) | exact mc_z_br h | exact mc_z_jp h
theorem mc_z_li2 {pc : Nat} {L : List (Nat × Value)} {st : List Value} {M : mc_M} {w : mc_R} {f : Int64 → Int32 → Int64} (h : mc_li2 f pc L st M = some (.inr w)) : False := by
  unfold mc_li2 at h
  repeat' (split at h)
  all_goals first | (cases h; done) | (unfold mc_go at h; cases h; done) | (have h9 := mc_n_k h; unfold mc_go at h9; cases h9; done) | exact mc_z_br h | exact mc_z_jp h
theorem mc_z_cmp {pc : Nat} {L : List (Nat × Value)} {st : List Value} {M : mc_M} {w : mc_R} (h : mc_cmp pc L st M = some (.inr w)) : False := by
  unfold mc_cmp at h
  repeat' (split at h)
  all_goals first | (cases h; done) | (unfold mc_go at h; cases h; done) | (have h9 := mc_n_k h; unfold mc_go at h9; cases h9; done) | exact mc_z_br h | exact mc_z_jp h
theorem mc_z_i1 {pc : Nat} {L : List (Nat × Value)} {st : List Value} {M : mc_M} {w : mc_R} {f : Int32 → Value} (h : mc_i1 f pc L st M = some (.inr w)) : False := by
  unfold mc_i1 at h
  repeat' (split at h)
  all_goals first | (cases h; done) | (unfold mc_go at h; cases h; done) | (have h9 := mc_n_k h; unfold mc_go at h9; cases h9; done) | exact mc_z_br h | exact mc_z_jp h
theorem mc_z_l1 {pc : Nat} {L : List (Nat × Value)} {st : List Value} {M : mc_M} {w : mc_R} {f : Int64 → Value} (h : mc_l1 f pc L st M = some (.inr w)) : False := by
  unfold mc_l1 at h
  repeat' (split at h)
  all_goals first | (cases h; done) | (unfold mc_go at h; cases h; done) | (have h9 := mc_n_k h; unfold mc_go at h9; cases h9; done) | exact mc_z_br h | exact mc_z_jp h
theorem mc_z_ic2 {pc : Nat} {L : List (Nat × Value)} {st : List Value} {M : mc_M} {w : mc_R} {off : Int} {f : Int32 → Int32 → Bool} (h : mc_ic2 f pc off L st M = some (.inr w)) : False := by
  unfold mc_ic2 at h
  repeat' (split at h)
  all_goals first | (cases h; done) | (unfold mc_go at h; cases h; done) | (have h9 := mc_n_k h; unfold mc_go at h9; cases h9; done) | exact mc_z_br h | exact mc_z_jp h
theorem mc_z_ic1 {pc : Nat} {L : List (Nat × Value)} {st : List Value} {M : mc_M} {w : mc_R} {off : Int} {f : Int32 → Bool} (h : mc_ic1 f pc off L st M = some (.inr w)) : False := by
  unfold mc_ic1 at h
  repeat' (split at h)
  all_goals first | (cases h; done) | (unfold mc_go at h; cases h; done) | (have h9 := mc_n_k h; unfold mc_go at h9; cases h9; done) | exact mc_z_br h | exact mc_z_jp h
theorem mc_z_icn {pc : Nat} {L : List (Nat × Value)} {st : List Value} {M : mc_M} {w : mc_R} {off : Int} {f : Bool} (h : mc_icn f pc off L st M = some (.inr w)) : False := by
  unfold mc_icn at h
  repeat' (split at h)
  all_goals first | (cases h; done) | (unfold mc_go at h; cases h; done) | (have h9 := mc_n_k h; unfold mc_go at h9; cases h9; done) | exact mc_z_br h | exact mc_z_jp h
theorem mc_z_ica {pc : Nat} {L : List (Nat × Value)} {st : List Value} {M : mc_M} {w : mc_R} {off : Int} {f : Bool} (h : mc_ica f pc off L st M = some (.inr w)) : False := by
  unfold mc_ica at h
  repeat' (split at h)
  all_goals first | (cases h; done) | (unfold mc_go at h; cases h; done) | (have h9 := mc_n_k h; unfold mc_go at h9; cases h9; done) | exact mc_z_br h | exact mc_z_jp h
theorem mc_z_dup {pc : Nat} {L : List (Nat × Value)} {st : List Value} {M : mc_M} {w : mc_R} (h : mc_dup pc L st M = some (.inr w)) : False := by
  unfold mc_dup at h
  repeat' (split at h)
  all_goals first | (cases h; done) | (unfold mc_go at h; cases h; done) | (have h9 := mc_n_k h; unfold mc_go at h9; cases h9; done) | exact mc_z_br h | exact mc_z_jp h
theorem mc_z_pop {pc : Nat} {L : List (Nat × Value)} {st : List Value} {M : mc_M} {w : mc_R} (h : mc_pop pc L st M = some (.inr w)) : False := by
  unfold mc_pop at h
  repeat' (split at h)
  all_goals first | (cases h; done) | (unfold mc_go at h; cases h; done) | (have h9 := mc_n_k h; unfold mc_go at h9; cases h9; done) | exact mc_z_br h | exact mc_z_jp h
theorem mc_z_dup2 {pc : Nat} {L : List (Nat × Value)} {st : List Value} {M : mc_M} {w : mc_R} (h : mc_dup2 pc L st M = some (.inr w)) : False := by
  unfold mc_dup2 at h
  repeat' (split at h)
  all_goals first | (cases h; done) | (unfold mc_go at h; cases h; done) | (have h9 := mc_n_k h; unfold mc_go at h9; cases h9; done) | exact mc_z_br h | exact mc_z_jp h
theorem mc_z_pop2 {pc : Nat} {L : List (Nat × Value)} {st : List Value} {M : mc_M} {w : mc_R} (h : mc_pop2 pc L st M = some (.inr w)) : False := by
  unfold mc_pop2 at h
  repeat' (split at h)
  all_goals first | (cases h; done) | (unfold mc_go at h; cases h; done) | (have h9 := mc_n_k h; unfold mc_go at h9; cases h9; done) | exact mc_z_br h | exact mc_z_jp h
theorem mc_z_getf {pc : Nat} {L : List (Nat × Value)} {st : List Value} {M : mc_M} {w : mc_R} {kt : Nat → Option mc_E} {own : Nat} {idx : Nat} (h : mc_getf kt own idx pc L st M = some (.inr w)) : False := by
  unfold mc_getf at h
  repeat' (split at h)
  all_goals first | (cases h; done) | (unfold mc_go at h; cases h; done) | (have h9 := mc_n_k h; unfold mc_go at h9; cases h9; done) | exact mc_z_br h | exact mc_z_jp h
theorem mc_z_putf {pc : Nat} {L : List (Nat × Value)} {st : List Value} {M : mc_M} {w : mc_R} {own : Nat} {ini : Bool} {idx : Nat} (h : mc_putf own ini idx pc L st M = some (.inr w)) : False := by
  unfold mc_putf at h
  repeat' (split at h)
  all_goals first | (cases h; done) | (unfold mc_go at h; cases h; done) | (have h9 := mc_n_k h; unfold mc_go at h9; cases h9; done) | exact mc_z_br h | exact mc_z_jp h
theorem mc_z_ald {pc : Nat} {L : List (Nat × Value)} {st : List Value} {M : mc_M} {w : mc_R} {kt : Nat → Option mc_E} {ok : Nat → Bool} (h : mc_ald kt ok pc L st M = some (.inr w)) : False := by
  unfold mc_ald at h
  repeat' (split at h)
  all_goals first | (cases h; done) | (unfold mc_go at h; cases h; done) | (have h9 := mc_n_k h; unfold mc_go at h9; cases h9; done) | exact mc_z_br h | exact mc_z_jp h
theorem mc_z_ast {pc : Nat} {L : List (Nat × Value)} {st : List Value} {M : mc_M} {w : mc_R} {kt : Nat → Option mc_E} {ok : Nat → Value → Bool} {w9 : Nat → Value → Value} (h : mc_ast kt ok w9 pc L st M = some (.inr w)) : False := by
  unfold mc_ast at h
  repeat' (split at h)
  all_goals first | (cases h; done) | (unfold mc_go at h; cases h; done) | (have h9 := mc_n_k h; unfold mc_go at h9; cases h9; done) | exact mc_z_br h | exact mc_z_jp h
theorem mc_z_len {pc : Nat} {L : List (Nat × Value)} {st : List Value} {M : mc_M} {w : mc_R} {kt : Nat → Option mc_E} (h : mc_len kt pc L st M = some (.inr w)) : False := by
  unfold mc_len at h
  repeat' (split at h)
  all_goals first | (cases h; done) | (unfold mc_go at h; cases h; done) | (have h9 := mc_n_k h; unfold mc_go at h9; cases h9; done) | exact mc_z_br h | exact mc_z_jp h
theorem mc_z_newa {pc : Nat} {L : List (Nat × Value)} {st : List Value} {M : mc_M} {w : mc_R} {a : ArrayType} (h : mc_newa a pc L st M = some (.inr w)) : False := by
  unfold mc_newa at h
  repeat' (split at h)
  all_goals first | (cases h; done) | (unfold mc_go at h; cases h; done) | (have h9 := mc_n_k h; unfold mc_go at h9; cases h9; done) | exact mc_z_br h | exact mc_z_jp h
theorem mc_z_anew {pc : Nat} {L : List (Nat × Value)} {st : List Value} {M : mc_M} {w : mc_R} {own : Nat} {idx : Nat} (h : mc_anew own idx pc L st M = some (.inr w)) : False := by
  unfold mc_anew at h
  repeat' (split at h)
  all_goals first | (cases h; done) | (unfold mc_go at h; cases h; done) | (have h9 := mc_n_k h; unfold mc_go at h9; cases h9; done) | exact mc_z_br h | exact mc_z_jp h
theorem mc_z_mna {pc : Nat} {L : List (Nat × Value)} {st : List Value} {M : mc_M} {w : mc_R} {own : Nat} {idx : Nat} (h : mc_mna own idx pc L st M = some (.inr w)) : False := by
  unfold mc_mna at h
  repeat' (split at h)
  all_goals first | (cases h; done) | (unfold mc_go at h; cases h; done) | (have h9 := mc_n_k h; unfold mc_go at h9; cases h9; done) | exact mc_z_br h | exact mc_z_jp h
theorem mc_z_new {pc : Nat} {L : List (Nat × Value)} {st : List Value} {M : mc_M} {w : mc_R} {own : Nat} {idx : Nat} (h : mc_new own idx pc L st M = some (.inr w)) : False := by
  unfold mc_new at h
  repeat' (split at h)
  all_goals first | (cases h; done) | (unfold mc_go at h; cases h; done) | (have h9 := mc_n_k h; unfold mc_go at h9; cases h9; done) | exact mc_z_br h | exact mc_z_jp h
theorem mc_z_gs {pc : Nat} {L : List (Nat × Value)} {st : List Value} {M : mc_M} {w : mc_R} {own : Nat} {idx : Nat} (h : mc_gs own idx pc L st M = some (.inr w)) : False := by
  unfold mc_gs at h
  repeat' (split at h)
  all_goals first | (cases h; done) | (unfold mc_go at h; cases h; done) | (have h9 := mc_n_k h; unfold mc_go at h9; cases h9; done) | exact mc_z_br h | exact mc_z_jp h
theorem mc_z_ldc {pc : Nat} {L : List (Nat × Value)} {st : List Value} {M : mc_M} {w : mc_R} {own : Nat} {idx d : Nat} (h : mc_ldc own idx d pc L st M = some (.inr w)) : False := by
  unfold mc_ldc at h
  repeat' (split at h)
  all_goals first | (cases h; done) | (unfold mc_go at h; cases h; done) | (have h9 := mc_n_k h; unfold mc_go at h9; cases h9; done) | exact mc_z_br h | exact mc_z_jp h
theorem mc_z_ldc2 {pc : Nat} {L : List (Nat × Value)} {st : List Value} {M : mc_M} {w : mc_R} {own : Nat} {idx : Nat} (h : mc_ldc2 own idx pc L st M = some (.inr w)) : False := by
  unfold mc_ldc2 at h
  repeat' (split at h)
  all_goals first | (cases h; done) | (unfold mc_go at h; cases h; done) | (have h9 := mc_n_k h; unfold mc_go at h9; cases h9; done) | exact mc_z_br h | exact mc_z_jp h
theorem mc_z_tsw {pc : Nat} {L : List (Nat × Value)} {st : List Value} {M : mc_M} {w : mc_R} {dflt lo hi : Int} {offs : Array Int} (h : mc_tsw dflt lo hi offs pc L st M = some (.inr w)) : False := by
  unfold mc_tsw at h
  repeat' (split at h)
  all_goals first | (cases h; done) | (unfold mc_go at h; cases h; done) | (have h9 := mc_n_k h; unfold mc_go at h9; cases h9; done) | exact mc_z_br h | exact mc_z_jp h
theorem mc_z_obj {pc : Nat} {L : List (Nat × Value)} {st : List Value} {M : mc_M} {w : mc_R} {own : Nat} {idx : Nat} (h : mc_obj own idx pc L st M = some (.inr w)) : False := by
  unfold mc_obj at h
  repeat' (split at h)
  all_goals first | (cases h; done) | (unfold mc_go at h; cases h; done) | (have h9 := mc_n_k h; unfold mc_go at h9; cases h9; done) | exact mc_z_br h | exact mc_z_jp h
theorem mc_z_math {pc : Nat} {L : List (Nat × Value)} {st : List Value} {M : mc_M} {w : mc_R} {own : Nat} {idx : Nat} (h : mc_math own idx pc L st M = some (.inr w)) : False := by
  unfold mc_math at h
  repeat' (split at h)
  all_goals first | (cases h; done) | (unfold mc_go at h; cases h; done) | (have h9 := mc_n_k h; unfold mc_go at h9; cases h9; done) | exact mc_z_br h | exact mc_z_jp h
theorem mc_z_cal {pc : Nat} {L : List (Nat × Value)} {st : List Value} {M : mc_M} {w : mc_R} {own : Nat} {call : Nat → List Value → mc_M → Option mc_R} {sort idx : Nat} (h : mc_cal call own sort idx pc L st M = some (.inr w)) : False := by
  unfold mc_cal at h
  repeat' (split at h)
  all_goals first | (cases h; done) | (unfold mc_go at h; cases h; done) | (have h9 := mc_n_k h; unfold mc_go at h9; cases h9; done) | exact mc_z_br h | exact mc_z_jp h
set_option maxHeartbeats 4000000 in
theorem mc_end_of {kt : Nat → Option mc_E} {own nL : Nat} {ini : Bool} {ret : Option FieldType} {call : Nat → List Value → mc_M → Option mc_R} {x : Instr} {n : Nat} {S0 : mc_S} {w : mc_R} (h : mc_step kt call own nL ini ret x n S0 = some (.inr w)) : (x = .ireturn ∧ n = 1 ∧ mc_ret ret S0.2.2.1 S0.2.2.2 = some (.inr w)) ∨ (x = .lreturn ∧ n = 1 ∧ mc_retL ret S0.2.2.1 S0.2.2.2 = some (.inr w)) ∨ (x = .areturn ∧ n = 1 ∧ mc_retA ret S0.2.2.1 S0.2.2.2 = some (.inr w)) ∨ (x = .return_ ∧ n = 1 ∧ mc_retV ret S0.2.2.1 S0.2.2.2 = some (.inr w)) := by
  obtain ⟨pc, L, st, M⟩ := S0
  cases x with
  | iconst i =>
    have h7 : mc_n (n == 1) (mc_go (pc + 1) L (.int (Int32.ofInt i) :: st) M) = some (.inr w) := h
    have h8 := mc_n_k h7
    exact absurd h8 (mc_notr (r := .inr w))
  | bipush i =>
    have h7 : mc_n (n == 2) (mc_go (pc + 2) L (.int (Int8.ofInt i).toInt32 :: st) M) = some (.inr w) := h
    have h8 := mc_n_k h7
    exact absurd h8 (mc_notr (r := .inr w))
  | sipush i =>
    have h7 : mc_n (n == 3) (mc_go (pc + 3) L (.int (Int16.ofInt i).toInt32 :: st) M) = some (.inr w) := h
    have h8 := mc_n_k h7
    exact absurd h8 (mc_notr (r := .inr w))
  | lconst i =>
    have h7 : mc_n (n == 1) (mc_go (pc + 1) L (.long (Int64.ofNat (i : Nat)) :: st) M) = some (.inr w) := h
    have h8 := mc_n_k h7
    exact absurd h8 (mc_notr (r := .inr w))
  | aconst_null  =>
    have h7 : mc_n (n == 1) (mc_go (pc + 1) L (.null :: st) M) = some (.inr w) := h
    have h8 := mc_n_k h7
    exact absurd h8 (mc_notr (r := .inr w))
  | iload_n i =>
    have h7 : mc_n (n == 1) (mc_ld mc_isI (i : Nat) 1 pc L st M) = some (.inr w) := h
    have h8 := mc_n_k h7
    exact (mc_z_ld h8).elim
  | iload i =>
    have h7 : mc_n (n == 2) (mc_ld mc_isI i 2 pc L st M) = some (.inr w) := h
    have h8 := mc_n_k h7
    exact (mc_z_ld h8).elim
  | lload_n i =>
    have h7 : mc_n (n == 1) (mc_ld mc_isL (i : Nat) 1 pc L st M) = some (.inr w) := h
    have h8 := mc_n_k h7
    exact (mc_z_ld h8).elim
  | lload i =>
    have h7 : mc_n (n == 2) (mc_ld mc_isL i 2 pc L st M) = some (.inr w) := h
    have h8 := mc_n_k h7
    exact (mc_z_ld h8).elim
  | aload_n i =>
    have h7 : mc_n (n == 1) (mc_ld mc_isA (i : Nat) 1 pc L st M) = some (.inr w) := h
    have h8 := mc_n_k h7
    exact (mc_z_ld h8).elim
  | aload i =>
    have h7 : mc_n (n == 2) (mc_ld mc_isA i 2 pc L st M) = some (.inr w) := h
    have h8 := mc_n_k h7
    exact (mc_z_ld h8).elim
  | istore_n i =>
    have h7 : mc_n (n == 1) (mc_sv mc_isI nL (i : Nat) 1 pc L st M) = some (.inr w) := h
    have h8 := mc_n_k h7
    exact (mc_z_sv h8).elim
  | istore i =>
    have h7 : mc_n (n == 2) (mc_sv mc_isI nL i 2 pc L st M) = some (.inr w) := h
    have h8 := mc_n_k h7
    exact (mc_z_sv h8).elim
  | astore_n i =>
    have h7 : mc_n (n == 1) (mc_sv mc_isA nL (i : Nat) 1 pc L st M) = some (.inr w) := h
    have h8 := mc_n_k h7
    exact (mc_z_sv h8).elim
  | astore i =>
    have h7 : mc_n (n == 2) (mc_sv mc_isA nL i 2 pc L st M) = some (.inr w) := h
    have h8 := mc_n_k h7
    exact (mc_z_sv h8).elim
  | lstore_n i =>
    have h7 : mc_n (n == 1) (mc_svL nL (i : Nat) 1 pc L st M) = some (.inr w) := h
    have h8 := mc_n_k h7
    exact (mc_z_svL h8).elim
  | lstore i =>
    have h7 : mc_n (n == 2) (mc_svL nL i 2 pc L st M) = some (.inr w) := h
    have h8 := mc_n_k h7
    exact (mc_z_svL h8).elim
  | iinc i k =>
    have h7 : mc_n (n == 3) (mc_inc nL i k pc L st M) = some (.inr w) := h
    have h8 := mc_n_k h7
    exact (mc_z_inc h8).elim
  | iadd  =>
    have h7 : mc_n (n == 1) (mc_ii2 (fun x y => some (x + y)) pc L st M) = some (.inr w) := h
    have h8 := mc_n_k h7
    exact (mc_z_ii2 h8).elim
  | isub  =>
    have h7 : mc_n (n == 1) (mc_ii2 (fun x y => some (x - y)) pc L st M) = some (.inr w) := h
    have h8 := mc_n_k h7
    exact (mc_z_ii2 h8).elim
  | imul  =>
    have h7 : mc_n (n == 1) (mc_ii2 (fun x y => some (x * y)) pc L st M) = some (.inr w) := h
    have h8 := mc_n_k h7
    exact (mc_z_ii2 h8).elim
  | iand  =>
    have h7 : mc_n (n == 1) (mc_ii2 (fun x y => some (x &&& y)) pc L st M) = some (.inr w) := h
    have h8 := mc_n_k h7
    exact (mc_z_ii2 h8).elim
  | ior  =>
    have h7 : mc_n (n == 1) (mc_ii2 (fun x y => some (x ||| y)) pc L st M) = some (.inr w) := h
    have h8 := mc_n_k h7
    exact (mc_z_ii2 h8).elim
  | ixor  =>
    have h7 : mc_n (n == 1) (mc_ii2 (fun x y => some (x ^^^ y)) pc L st M) = some (.inr w) := h
    have h8 := mc_n_k h7
    exact (mc_z_ii2 h8).elim
  | ishl  =>
    have h7 : mc_n (n == 1) (mc_ii2 (fun x y => some (x <<< (y &&& 31))) pc L st M) = some (.inr w) := h
    have h8 := mc_n_k h7
    exact (mc_z_ii2 h8).elim
  | ishr  =>
    have h7 : mc_n (n == 1) (mc_ii2 (fun x y => some (x >>> (y &&& 31))) pc L st M) = some (.inr w) := h
    have h8 := mc_n_k h7
    exact (mc_z_ii2 h8).elim
  | idiv  =>
    have h7 : mc_n (n == 1) (mc_ii2 (fun x y => if y = 0 then none else some (x / y)) pc L st M) = some (.inr w) := h
    have h8 := mc_n_k h7
    exact (mc_z_ii2 h8).elim
  | irem  =>
    have h7 : mc_n (n == 1) (mc_ii2 (fun x y => if y = 0 then none else some (x - x / y * y)) pc L st M) = some (.inr w) := h
    have h8 := mc_n_k h7
    exact (mc_z_ii2 h8).elim
  | ladd  =>
    have h7 : mc_n (n == 1) (mc_ll2 (fun x y => some (x + y)) pc L st M) = some (.inr w) := h
    have h8 := mc_n_k h7
    exact (mc_z_ll2 h8).elim
  | lsub  =>
    have h7 : mc_n (n == 1) (mc_ll2 (fun x y => some (x - y)) pc L st M) = some (.inr w) := h
    have h8 := mc_n_k h7
    exact (mc_z_ll2 h8).elim
  | lmul  =>
    have h7 : mc_n (n == 1) (mc_ll2 (fun x y => some (x * y)) pc L st M) = some (.inr w) := h
    have h8 := mc_n_k h7
    exact (mc_z_ll2 h8).elim
  | land  =>
    have h7 : mc_n (n == 1) (mc_ll2 (fun x y => some (x &&& y)) pc L st M) = some (.inr w) := h
    have h8 := mc_n_k h7
    exact (mc_z_ll2 h8).elim
  | lor  =>
    have h7 : mc_n (n == 1) (mc_ll2 (fun x y => some (x ||| y)) pc L st M) = some (.inr w) := h
    have h8 := mc_n_k h7
    exact (mc_z_ll2 h8).elim
  | ldiv  =>
    have h7 : mc_n (n == 1) (mc_ll2 (fun x y => if y = 0 then none else some (x / y)) pc L st M) = some (.inr w) := h
    have h8 := mc_n_k h7
    exact (mc_z_ll2 h8).elim
  | lrem  =>
    have h7 : mc_n (n == 1) (mc_ll2 (fun x y => if y = 0 then none else some (x - x / y * y)) pc L st M) = some (.inr w) := h
    have h8 := mc_n_k h7
    exact (mc_z_ll2 h8).elim
  | lshl  =>
    have h7 : mc_n (n == 1) (mc_li2 (fun x y => x <<< (y.toInt64 &&& 63)) pc L st M) = some (.inr w) := h
    have h8 := mc_n_k h7
    exact (mc_z_li2 h8).elim
  | lshr  =>
    have h7 : mc_n (n == 1) (mc_li2 (fun x y => x >>> (y.toInt64 &&& 63)) pc L st M) = some (.inr w) := h
    have h8 := mc_n_k h7
    exact (mc_z_li2 h8).elim
  | lcmp  =>
    have h7 : mc_n (n == 1) (mc_cmp pc L st M) = some (.inr w) := h
    have h8 := mc_n_k h7
    exact (mc_z_cmp h8).elim
  | ineg  =>
    have h7 : mc_n (n == 1) (mc_i1 (fun x => .int (-x)) pc L st M) = some (.inr w) := h
    have h8 := mc_n_k h7
    exact (mc_z_i1 h8).elim
  | i2l  =>
    have h7 : mc_n (n == 1) (mc_i1 (fun x => .long x.toInt64) pc L st M) = some (.inr w) := h
    have h8 := mc_n_k h7
    exact (mc_z_i1 h8).elim
  | i2b  =>
    have h7 : mc_n (n == 1) (mc_i1 (fun x => .int x.toInt8.toInt32) pc L st M) = some (.inr w) := h
    have h8 := mc_n_k h7
    exact (mc_z_i1 h8).elim
  | l2i  =>
    have h7 : mc_n (n == 1) (mc_l1 (fun x => .int x.toInt32) pc L st M) = some (.inr w) := h
    have h8 := mc_n_k h7
    exact (mc_z_l1 h8).elim
  | if_icmp cond off =>
    cases cond with
    | eq =>
      have h7 : mc_n (n == 3) (mc_ic2 (fun x y => decide (x = y)) pc off L st M) = some (.inr w) := h
      have h8 := mc_n_k h7
      exact (mc_z_ic2 h8).elim
    | ne =>
      have h7 : mc_n (n == 3) (mc_ic2 (fun x y => decide (¬ x = y)) pc off L st M) = some (.inr w) := h
      have h8 := mc_n_k h7
      exact (mc_z_ic2 h8).elim
    | lt =>
      have h7 : mc_n (n == 3) (mc_ic2 (fun x y => decide (x < y)) pc off L st M) = some (.inr w) := h
      have h8 := mc_n_k h7
      exact (mc_z_ic2 h8).elim
    | ge =>
      have h7 : mc_n (n == 3) (mc_ic2 (fun x y => decide (y ≤ x)) pc off L st M) = some (.inr w) := h
      have h8 := mc_n_k h7
      exact (mc_z_ic2 h8).elim
    | gt =>
      have h7 : mc_n (n == 3) (mc_ic2 (fun x y => decide (y < x)) pc off L st M) = some (.inr w) := h
      have h8 := mc_n_k h7
      exact (mc_z_ic2 h8).elim
    | le =>
      have h7 : mc_n (n == 3) (mc_ic2 (fun x y => decide (x ≤ y)) pc off L st M) = some (.inr w) := h
      have h8 := mc_n_k h7
      exact (mc_z_ic2 h8).elim
  | ifCond cond off =>
    cases cond with
    | eq =>
      have h7 : mc_n (n == 3) (mc_ic1 (fun x => decide (x = 0)) pc off L st M) = some (.inr w) := h
      have h8 := mc_n_k h7
      exact (mc_z_ic1 h8).elim
    | ne =>
      have h7 : mc_n (n == 3) (mc_ic1 (fun x => decide (¬ x = 0)) pc off L st M) = some (.inr w) := h
      have h8 := mc_n_k h7
      exact (mc_z_ic1 h8).elim
    | lt =>
      have h7 : mc_n (n == 3) (mc_ic1 (fun x => decide (x < 0)) pc off L st M) = some (.inr w) := h
      have h8 := mc_n_k h7
      exact (mc_z_ic1 h8).elim
    | ge =>
      have h7 : mc_n (n == 3) (mc_ic1 (fun x => decide (0 ≤ x)) pc off L st M) = some (.inr w) := h
      have h8 := mc_n_k h7
      exact (mc_z_ic1 h8).elim
    | gt =>
      have h7 : mc_n (n == 3) (mc_ic1 (fun x => decide (0 < x)) pc off L st M) = some (.inr w) := h
      have h8 := mc_n_k h7
      exact (mc_z_ic1 h8).elim
    | le =>
      have h7 : mc_n (n == 3) (mc_ic1 (fun x => decide (x ≤ 0)) pc off L st M) = some (.inr w) := h
      have h8 := mc_n_k h7
      exact (mc_z_ic1 h8).elim
  | ifnull off =>
    have h7 : mc_n (n == 3) (mc_icn true pc off L st M) = some (.inr w) := h
    have h8 := mc_n_k h7
    exact (mc_z_icn h8).elim
  | ifnonnull off =>
    have h7 : mc_n (n == 3) (mc_icn false pc off L st M) = some (.inr w) := h
    have h8 := mc_n_k h7
    exact (mc_z_icn h8).elim
  | if_acmp cond off =>
    cases cond with
    | eq =>
      have h7 : mc_n (n == 3) (mc_ica true pc off L st M) = some (.inr w) := h
      have h8 := mc_n_k h7
      exact (mc_z_ica h8).elim
    | ne =>
      have h7 : mc_n (n == 3) (mc_ica false pc off L st M) = some (.inr w) := h
      have h8 := mc_n_k h7
      exact (mc_z_ica h8).elim
  | goto off =>
    have h7 : mc_n (n == 3) (mc_jp pc off L st M) = some (.inr w) := h
    have h8 := mc_n_k h7
    exact (mc_z_jp h8).elim
  | dup  =>
    have h7 : mc_n (n == 1) (mc_dup pc L st M) = some (.inr w) := h
    have h8 := mc_n_k h7
    exact (mc_z_dup h8).elim
  | pop  =>
    have h7 : mc_n (n == 1) (mc_pop pc L st M) = some (.inr w) := h
    have h8 := mc_n_k h7
    exact (mc_z_pop h8).elim
  | dup2  =>
    have h7 : mc_n (n == 1) (mc_dup2 pc L st M) = some (.inr w) := h
    have h8 := mc_n_k h7
    exact (mc_z_dup2 h8).elim
  | pop2  =>
    have h7 : mc_n (n == 1) (mc_pop2 pc L st M) = some (.inr w) := h
    have h8 := mc_n_k h7
    exact (mc_z_pop2 h8).elim
  | getfield i =>
    have h7 : mc_n (n == 3) (mc_getf kt own i pc L st M) = some (.inr w) := h
    have h8 := mc_n_k h7
    exact (mc_z_getf h8).elim
  | putfield i =>
    have h7 : mc_n (n == 3) (mc_putf own ini i pc L st M) = some (.inr w) := h
    have h8 := mc_n_k h7
    exact (mc_z_putf h8).elim
  | iaload  =>
    have h7 : mc_n (n == 1) (mc_ald kt (fun t => t == 0) pc L st M) = some (.inr w) := h
    have h8 := mc_n_k h7
    exact (mc_z_ald h8).elim
  | laload  =>
    have h7 : mc_n (n == 1) (mc_ald kt (fun t => t == 1) pc L st M) = some (.inr w) := h
    have h8 := mc_n_k h7
    exact (mc_z_ald h8).elim
  | baload  =>
    have h7 : mc_n (n == 1) (mc_ald kt (fun t => t == 2 || t == 3) pc L st M) = some (.inr w) := h
    have h8 := mc_n_k h7
    exact (mc_z_ald h8).elim
  | aaload  =>
    have h7 : mc_n (n == 1) (mc_ald kt (fun t => decide (4 ≤ t)) pc L st M) = some (.inr w) := h
    have h8 := mc_n_k h7
    exact (mc_z_ald h8).elim
  | iastore  =>
    have h7 : mc_n (n == 1) (mc_ast kt (fun t v => t == 0 && mc_isI v) (fun _ v => v) pc L st M) = some (.inr w) := h
    have h8 := mc_n_k h7
    exact (mc_z_ast h8).elim
  | lastore  =>
    have h7 : mc_n (n == 1) (mc_ast kt (fun t v => t == 1 && mc_isL v) (fun _ v => v) pc L st M) = some (.inr w) := h
    have h8 := mc_n_k h7
    exact (mc_z_ast h8).elim
  | bastore  =>
    have h7 : mc_n (n == 1) (mc_ast kt (fun t v => (t == 2 || t == 3) && mc_isI v) (fun t v => narrow (mc_ty t) v) pc L st M) = some (.inr w) := h
    have h8 := mc_n_k h7
    exact (mc_z_ast h8).elim
  | aastore  =>
    have h7 : mc_n (n == 1) (mc_ast kt (mc_isP M) (fun _ v => v) pc L st M) = some (.inr w) := h
    have h8 := mc_n_k h7
    exact (mc_z_ast h8).elim
  | arraylength  =>
    have h7 : mc_n (n == 1) (mc_len kt pc L st M) = some (.inr w) := h
    have h8 := mc_n_k h7
    exact (mc_z_len h8).elim
  | newarray a =>
    have h7 : mc_n (n == 2) (mc_newa a pc L st M) = some (.inr w) := h
    have h8 := mc_n_k h7
    exact (mc_z_newa h8).elim
  | anewarray i =>
    have h7 : mc_n (n == 3) (mc_anew own i pc L st M) = some (.inr w) := h
    have h8 := mc_n_k h7
    exact (mc_z_anew h8).elim
  | multianewarray i j =>
    match j, h with
    | 2, h =>
      have h7 : mc_n (n == 4) (mc_mna own i pc L st M) = some (.inr w) := h
      have h8 := mc_n_k h7
      exact (mc_z_mna h8).elim
    | 0, h => cases h
    | 1, h => cases h
    | j + 3, h => cases h
  | new i =>
    have h7 : mc_n (n == 3) (mc_new own i pc L st M) = some (.inr w) := h
    have h8 := mc_n_k h7
    exact (mc_z_new h8).elim
  | getstatic i =>
    have h7 : mc_n (n == 3) (mc_gs own i pc L st M) = some (.inr w) := h
    have h8 := mc_n_k h7
    exact (mc_z_gs h8).elim
  | ldc i =>
    have h7 : mc_n (n == 2) (mc_ldc own i 2 pc L st M) = some (.inr w) := h
    have h8 := mc_n_k h7
    exact (mc_z_ldc h8).elim
  | ldc2_w i =>
    have h7 : mc_n (n == 3) (mc_ldc2 own i pc L st M) = some (.inr w) := h
    have h8 := mc_n_k h7
    exact (mc_z_ldc2 h8).elim
  | tableswitch d lo hi offs =>
    have h8 : mc_tsw d lo hi offs pc L st M = some (.inr w) := h
    exact (mc_z_tsw h8).elim
  | invokevirtual i =>
    have h7 : mc_n (n == 3) (mc_cal call own 1 i pc L st M) = some (.inr w) := h
    have h8 := mc_n_k h7
    exact (mc_z_cal h8).elim
  | invokestatic i =>
    have h7 : mc_n (n == 3) (mc_or (mc_cal call own 0 i pc L st M) (mc_math own i pc L st M)) = some (.inr w) := h
    have h8 := mc_n_k h7
    exact ((mc_or_t h8).elim (fun h => mc_z_cal h) (fun h => mc_z_math h)).elim
  | invokespecial i =>
    have h7 : mc_n (n == 3) (mc_or (mc_cal call own 2 i pc L st M) (mc_obj own i pc L st M)) = some (.inr w) := h
    have h8 := mc_n_k h7
    exact ((mc_or_t h8).elim (fun h => mc_z_cal h) (fun h => mc_z_obj h)).elim
  | ireturn  =>
    have h7 : mc_n (n == 1) (mc_ret ret st M) = some (.inr w) := h
    obtain ⟨hn, h8⟩ := mc_n_t h7
    have hn : n = 1 := by simpa using hn
    exact Or.inl ⟨rfl, hn, h8⟩
  | lreturn  =>
    have h7 : mc_n (n == 1) (mc_retL ret st M) = some (.inr w) := h
    obtain ⟨hn, h8⟩ := mc_n_t h7
    have hn : n = 1 := by simpa using hn
    exact Or.inr (Or.inl ⟨rfl, hn, h8⟩)
  | areturn  =>
    have h7 : mc_n (n == 1) (mc_retA ret st M) = some (.inr w) := h
    obtain ⟨hn, h8⟩ := mc_n_t h7
    have hn : n = 1 := by simpa using hn
    exact Or.inr (Or.inr (Or.inl ⟨rfl, hn, h8⟩))
  | return_  =>
    have h7 : mc_n (n == 1) (mc_retV ret st M) = some (.inr w) := h
    obtain ⟨hn, h8⟩ := mc_n_t h7
    have hn : n = 1 := by simpa using hn
    exact Or.inr (Or.inr (Or.inr (⟨rfl, hn, h8⟩)))
  | _ => cases h
section MC8
variable {kt : Nat → Option mc_E} {own : Nat} {ini : Bool} {ret : Option FieldType} {cc : ByteArray}
variable {G : mc_G} {p : Program} {l : Launch} {e : Env} {R : Room} {s : State} {m : MethodId} {args : Array Value} {below : List Frame} {meth : Method} {c : Code} {Q : State → Prop} {nL l0 z0 : Nat}
/-- a row of instructions to the method's end: what is wanted there is what holds of the end -/
theorem mc_loop_ok (C : mc_X kt G own nL ini ret cc p s m args meth c) {call : Nat → List Value → mc_M → Option mc_R} {d : Nat} (IH : ∀ (k : Nat) (q : Nat × MethodName × ByteArray × Nat × Option FieldType × Nat × Nat) (as : List Value) (M : mc_M) (w : mc_R), mc_mt k = some q → call k as M = some w → mc_Met l kt G d q as M w ∧ mc_le M w.2) (IHle : ∀ (k : Nat) (as : List Value) (M : mc_M) (w : mc_R), call k as M = some w → mc_le M w.2) (hF : d + 1 ≤ R.frames ∧ 36 * (d + 1) ≤ R.locals) {w : mc_R} (hR : w.2.length ≤ R.cells + l0 ∧ mc_sz w.2 ≤ R.slots + z0)
    (fin : ∀ (S : mc_S) (x : Instr) (n : Nat), decode cc S.1 = .ok (x, n) → mc_step kt call own nL ini ret x n S = some (.inr w) → mc_W G p l e R s m args below meth c Q nL l0 z0 S) : ∀ (n : Nat) (S : mc_S), mc_loop kt call own nL ini ret cc n S = some w → mc_W G p l e R s m args below meth c Q nL l0 z0 S
  | 0, _, h => by cases h
  | n + 1, S, h => by
    unfold mc_loop at h
    split at h
    · next x k hd =>
      split at h
      · next S1 hs =>
        have hle := mc_loop_le IHle n S1 w h
        exact mc_step_ok C IH hF hd hs ⟨Nat.le_trans hle.1 hR.1, Nat.le_trans hle.2 hR.2⟩ (mc_loop_ok C IH IHle hF hR fin n S1 h)
      · next w' hs =>
        cases h
        exact fin S x k hd hs
      · cases h
    · cases h
theorem mc_isA_v {v : Value} (h : mc_isA v = true) : mc_v G v = .null ∨ ∃ a, mc_v G v = .ref a := by
  cases v with
  | ref a => exact Or.inr ⟨_, rfl⟩
  | null => exact Or.inl rfl
  | _ => cases h
/-- a method's end -/
theorem mc_fin (C : mc_X kt G own nL ini ret cc p s m args meth c) {call : Nat → List Value → mc_M → Option mc_R} {w : mc_R} (hQ : Q = MQ below (mc_Qc G w) args s (w.2.length - l0) (mc_sz w.2 - z0) (mc_A G)) {S : mc_S} {x : Instr} {n : Nat} (hd : decode cc S.1 = .ok (x, n)) (h : mc_step kt call own nL ini ret x n S = some (.inr w)) : mc_W G p l e R s m args below meth c Q nL l0 z0 S := by
  obtain ⟨pc, L, st, M⟩ := S
  obtain ⟨hx, hb, hown, hts, hml, hB, hba, hini, hlk, hret⟩ := C
  have key : ∀ (H : Heap) (locs : List Loc) (t : State), w.2 = M → mc_H G M H → va_S (mc_A G) s.heap H locs → t.heap = H → mc_Qc G w args s (.returned (w.1.map (mc_v G))) t := fun H locs t hw hH hS ht => ⟨rfl, by rw [hw, ht]; exact hH, hS.F ht⟩
  have done : (∃ (rt : Option FieldType), (x = .ireturn ∧ n = 1 ∧ mc_ret ret st M = some (.inr w)) ∨ (x = .lreturn ∧ n = 1 ∧ mc_retL ret st M = some (.inr w)) ∨ (x = .areturn ∧ n = 1 ∧ mc_retA ret st M = some (.inr w)) ∨ (x = .return_ ∧ n = 1 ∧ mc_retV ret st M = some (.inr w))) := by
    refine ⟨none, mc_end_of h⟩
  obtain ⟨-, hdone⟩ := done
  rcases hdone with ⟨rfl, rfl, h8⟩ | ⟨rfl, rfl, h8⟩ | ⟨rfl, rfl, h8⟩ | ⟨rfl, rfl, h8⟩
  · unfold mc_ret at h8
    split at h8
    · cases h8
      intro H locs ls cells slots hH hS hl hc hz
      have hc : cells + l0 = M.length := hc
      have hz : slots + z0 = mc_sz M := hz
      obtain rfl : cells = M.length - l0 := by omega
      obtain rfl : slots = mc_sz M - z0 := by omega
      rw [hQ]
      exact W.zret hx hb hret rfl (fun t ht hW => key H locs t rfl hH hS ht) hS.2.2 hd hlk
    · obtain ⟨hv, h8⟩ := mc_n_t h8
      cases h8
      intro H locs ls cells slots hH hS hl hc hz
      have hc : cells + l0 = M.length := hc
      have hz : slots + z0 = mc_sz M := hz
      obtain rfl : cells = M.length - l0 := by omega
      obtain rfl : slots = mc_sz M - z0 := by omega
      rw [hQ]
      refine W.zret hx hb hret ?_ (fun t ht hW => key H locs t rfl hH hS ht) hS.2.2 hd hlk
      simp only [Bool.or_eq_true, beq_iff_eq] at hv
      rcases hv with rfl | rfl <;> rfl
    · cases h8
  · unfold mc_retL at h8
    split at h8
    · cases h8
      intro H locs ls cells slots hH hS hl hc hz
      have hc : cells + l0 = M.length := hc
      have hz : slots + z0 = mc_sz M := hz
      obtain rfl : cells = M.length - l0 := by omega
      obtain rfl : slots = mc_sz M - z0 := by omega
      rw [hQ]
      exact W.lret hx hb hret (fun t ht hW => key H locs t rfl hH hS ht) hS.2.2 hd hlk
    · cases h8
  · unfold mc_retA at h8
    split at h8
    · obtain ⟨hv, h8⟩ := mc_n_t h8
      cases h8
      intro H locs ls cells slots hH hS hl hc hz
      have hc : cells + l0 = M.length := hc
      have hz : slots + z0 = mc_sz M := hz
      obtain rfl : cells = M.length - l0 := by omega
      obtain rfl : slots = mc_sz M - z0 := by omega
      rw [hQ]
      exact W.aret hx hb hret (Or.inl ⟨_, rfl⟩) (mc_isA_v hv) (fun t ht hW => key H locs t rfl hH hS ht) hS.2.2 hd hlk
    · obtain ⟨hv, h8⟩ := mc_n_t h8
      cases h8
      intro H locs ls cells slots hH hS hl hc hz
      have hc : cells + l0 = M.length := hc
      have hz : slots + z0 = mc_sz M := hz
      obtain rfl : cells = M.length - l0 := by omega
      obtain rfl : slots = mc_sz M - z0 := by omega
      rw [hQ]
      exact W.aret hx hb hret (Or.inr ⟨_, rfl⟩) (mc_isA_v hv) (fun t ht hW => key H locs t rfl hH hS ht) hS.2.2 hd hlk
    · cases h8
  · unfold mc_retV at h8
    split at h8
    · cases h8
      intro H locs ls cells slots hH hS hl hc hz
      have hc : cells + l0 = M.length := hc
      have hz : slots + z0 = mc_sz M := hz
      obtain rfl : cells = M.length - l0 := by omega
      obtain rfl : slots = mc_sz M - z0 := by omega
      rw [hQ]
      exact W.vret hx hb hret (fun t ht hW => key H locs t rfl hH hS ht) hS.2.2 hd hlk
    · cases h8
end MC8
/-- METHOD k: a run of the mini machine is a run of the machine -/
theorem mc_call_ok (l : Launch) {kt : Nat → Option mc_E} {G : mc_G} {F : Nat} : ∀ (d k : Nat) (q : Nat × MethodName × ByteArray × Nat × Option FieldType × Nat × Nat) (as : List Value) (M : mc_M) (w : mc_R), mc_mt k = some q → mc_call kt F d k as M = some w → mc_Met l kt G d q as M w ∧ mc_le M w.2
  | 0, _, _, _, _, _, _, h => by cases h
  | d + 1, k, q, as, M, w, hq, h => by
    have hle := mc_call_le (d + 1) k as M w h
    refine ⟨?_, hle⟩
    unfold mc_call at h
    rw [hq] at h
    dsimp only at h
    split at h
    · next hlen =>
      have hlen : (lg_sl as).length ≤ q.2.2.2.1 := of_decide_eq_true hlen
      obtain ⟨f1, f2, f3, f4, f5, f6, f7, f8, f9, f10, f11⟩ := mc_mfacts hq
      unfold mc_Met
      refine Met.ofW (cc := q.2.2.1) (maxL := q.2.2.2.1) (ret := q.2.2.2.2.1) f8 rfl ?_
      intro p e s m args below meth c s₁ B hml hv
      obtain ⟨rfl, hH, hB⟩ := hv
      have hts : ∀ w ∈ mc_ws, w.before (as.map (mc_v G)).toArray s = true := fun w hw => atoms_spec (ws := Cond.code q.2.1 q.2.2.1 q.2.2.2.1 q.2.2.2.2.1 :: mc_ws) B.pre w (List.mem_cons_of_mem _ hw)
      have hown : s.vm.findClass (mc_cn q.1) = some m.cls := f6 ▸ findClass_of_methodNamed B.named
      have C : mc_X kt G q.1 q.2.2.2.1 (q.2.2.2.2.2.2 == 2) q.2.2.2.2.1 q.2.2.1 p s m (as.map (mc_v G)).toArray meth c := ⟨B.exec, B.bytes, hown, hts, hml, hB, by rw [hH.1]; exact Nat.le_add_right _ _, fun hi => by rw [(name_of_methodNamed B.named B.method).1]; exact f7 (by simpa using hi), B.notSynchronized, B.returns⟩
      have hl := lv_entry (as.map (mc_v G)) (n := q.2.2.2.1) (by rw [mc_sl_len]; exact hlen)
      rw [lg_entry_eq]
      generalize (lg_sl (as.map (mc_v G)) ++ List.replicate (q.2.2.2.1 - (lg_sl (as.map (mc_v G))).length) Slot.unset).toArray = ls at hl ⊢
      rw [← mc_L_args] at hl
      have hw := mc_loop_ok (R := (headSpec (Cond.code q.2.1 q.2.2.1 q.2.2.2.1 q.2.2.2.2.1 :: mc_ws) (mc_rm (d + 1) M w.2)).room) (Q := MQ below (mc_Qc G w) (as.map (mc_v G)).toArray s (w.2.length - M.length) (mc_sz w.2 - mc_sz M) (mc_A G)) (l0 := M.length) (z0 := mc_sz M) (e := e) (l := l) (below := below) C (mc_call_ok l d) (mc_call_le d) ⟨Nat.le_refl _, Nat.le_refl _⟩ (w := w)
        ⟨by show w.2.length ≤ (w.2.length - M.length) + M.length; have := hle.1; omega, by show mc_sz w.2 ≤ (mc_sz w.2 - mc_sz M) + mc_sz M; have := hle.2; omega⟩
        (fun S x n hd hs => mc_fin C rfl hd hs) F _ h
      exact hw s.heap [] ls 0 0 hH va_S.rf hl (Nat.zero_add _) (Nat.zero_add _)
    · cases h
end
section
/-! the methods' instructions, each as decode reads it (own work, wip/gen/codes.py) -/
def mc_cdl_0 : List (Nat × Instr × Nat) := [(0, .aload_n 0, 1), (1, .invokespecial 1, 3), (4, .aload_n 0, 1), (5, .sipush 900, 3), (8, .newarray .byte, 2), (10, .putfield 9, 3), (13, .aload_n 0, 1), (14, .new 13, 3), (17, .dup, 1), (18, .invokespecial 15, 3), (21, .putfield 16, 3), (24, .aload_n 0, 1), (25, .new 20, 3), (28, .dup, 1), (29, .invokespecial 22, 3), (32, .putfield 23, 3), (35, .aload_n 0, 1), (36, .new 27, 3), (39, .dup, 1), (40, .invokespecial 29, 3), (43, .putfield 30, 3), (46, .aload_n 0, 1), (47, .new 34, 3), (50, .dup, 1), (51, .invokespecial 36, 3), (54, .putfield 37, 3), (57, .aload_n 0, 1), (58, .new 41, 3), (61, .dup, 1), (62, .invokespecial 43, 3), (65, .putfield 44, 3), (68, .aload_n 0, 1), (69, .new 48, 3), (72, .dup, 1), (73, .invokespecial 50, 3), (76, .putfield 51, 3), (79, .aload_n 0, 1), (80, .new 48, 3), (83, .dup, 1), (84, .invokespecial 50, 3), (87, .putfield 55, 3), (90, .aload_n 0, 1), (91, .iconst 0, 1), (92, .putfield 58, 3), (95, .return_, 1)]
theorem mc_cdk_0 : mc_cdl_0.all (fun q => decide (decode prog_1_method_1_code q.1 = .ok q.2)) = true := by decide +kernel
def mc_cdl_1 : List (Nat × Instr × Nat) := [(0, .aload_n 0, 1), (1, .invokespecial 3, 3), (4, .aload_n 0, 1), (5, .new 9, 3), (8, .dup, 1), (9, .invokespecial 11, 3), (12, .putfield 12, 3), (15, .return_, 1)]
theorem mc_cdk_1 : mc_cdl_1.all (fun q => decide (decode prog_8_method_1_code q.1 = .ok q.2)) = true := by decide +kernel
def mc_cdl_2 : List (Nat × Instr × Nat) := [(0, .aload_n 0, 1), (1, .invokespecial 1, 3), (4, .aload_n 0, 1), (5, .iconst 0, 1), (6, .newarray .byte, 2), (8, .putfield 7, 3), (11, .return_, 1)]
theorem mc_cdk_2 : mc_cdl_2.all (fun q => decide (decode prog_10_method_1_code q.1 = .ok q.2)) = true := by decide +kernel
def mc_cdl_3 : List (Nat × Instr × Nat) := [(0, .aload_n 0, 1), (1, .invokespecial 3, 3), (4, .aload_n 0, 1), (5, .bipush 6, 2), (7, .newarray .int, 2), (9, .putfield 9, 3), (12, .aload_n 0, 1), (13, .bipush 7, 2), (15, .newarray .long, 2), (17, .putfield 15, 3), (20, .aload_n 0, 1), (21, .bipush 7, 2), (23, .newarray .long, 2), (25, .putfield 19, 3), (28, .aload_n 0, 1), (29, .bipush 7, 2), (31, .newarray .int, 2), (33, .putfield 22, 3), (36, .aload_n 0, 1), (37, .bipush 7, 2), (39, .newarray .int, 2), (41, .putfield 25, 3), (44, .return_, 1)]
theorem mc_cdk_3 : mc_cdl_3.all (fun q => decide (decode prog_11_method_1_code q.1 = .ok q.2)) = true := by decide +kernel
def mc_cdl_4 : List (Nat × Instr × Nat) := [(0, .aload_n 0, 1), (1, .invokespecial 3, 3), (4, .aload_n 0, 1), (5, .sipush 313, 3), (8, .newarray .long, 2), (10, .putfield 11, 3), (13, .aload_n 0, 1), (14, .bipush 6, 2), (16, .bipush 40, 2), (18, .multianewarray 15 2, 4), (22, .putfield 17, 3), (25, .aload_n 0, 1), (26, .bipush 6, 2), (28, .bipush 40, 2), (30, .multianewarray 20 2, 4), (34, .putfield 22, 3), (37, .aload_n 0, 1), (38, .bipush 24, 2), (40, .newarray .int, 2), (42, .putfield 25, 3), (45, .aload_n 0, 1), (46, .bipush 24, 2), (48, .newarray .int, 2), (50, .putfield 29, 3), (53, .return_, 1)]
theorem mc_cdk_4 : mc_cdl_4.all (fun q => decide (decode prog_4_method_1_code q.1 = .ok q.2)) = true := by decide +kernel
def mc_cdl_5 : List (Nat × Instr × Nat) := [(0, .aload_n 0, 1), (1, .invokespecial 3, 3), (4, .aload_n 0, 1), (5, .sipush 400, 3), (8, .newarray .int, 2), (10, .putfield 9, 3), (13, .aload_n 0, 1), (14, .sipush 400, 3), (17, .newarray .int, 2), (19, .putfield 15, 3), (22, .aload_n 0, 1), (23, .sipush 400, 3), (26, .newarray .int, 2), (28, .putfield 18, 3), (31, .aload_n 0, 1), (32, .sipush 1024, 3), (35, .newarray .int, 2), (37, .putfield 21, 3), (40, .return_, 1)]
theorem mc_cdk_5 : mc_cdl_5.all (fun q => decide (decode prog_3_method_1_code q.1 = .ok q.2)) = true := by decide +kernel
def mc_cdl_6 : List (Nat × Instr × Nat) := [(0, .aload_n 0, 1), (1, .invokespecial 3, 3), (4, .aload_n 0, 1), (5, .sipush 5000, 3), (8, .newarray .long, 2), (10, .putfield 9, 3), (13, .return_, 1)]
theorem mc_cdk_6 : mc_cdl_6.all (fun q => decide (decode prog_5_method_1_code q.1 = .ok q.2)) = true := by decide +kernel
def mc_cdl_7 : List (Nat × Instr × Nat) := [(0, .aload_n 0, 1), (1, .invokespecial 3, 3), (4, .aload_n 0, 1), (5, .bipush 6, 2), (7, .anewarray 9, 3), (10, .putfield 11, 3), (13, .aload_n 0, 1), (14, .bipush 24, 2), (16, .newarray .int, 2), (18, .putfield 17, 3), (21, .aload_n 0, 1), (22, .bipush 24, 2), (24, .newarray .int, 2), (26, .putfield 21, 3), (29, .aload_n 0, 1), (30, .iconst 3, 1), (31, .newarray .int, 2), (33, .putfield 24, 3), (36, .aload_n 0, 1), (37, .iconst 4, 1), (38, .newarray .int, 2), (40, .putfield 27, 3), (43, .aload_n 0, 1), (44, .iconst 4, 1), (45, .newarray .int, 2), (47, .putfield 30, 3), (50, .aload_n 0, 1), (51, .bipush 6, 2), (53, .newarray .int, 2), (55, .putfield 33, 3), (58, .iconst 0, 1), (59, .istore_n 1, 1), (60, .iload_n 1, 1), (61, .bipush 6, 2), (63, .if_icmp .ge 22, 3), (66, .aload_n 0, 1), (67, .getfield 11, 3), (70, .iload_n 1, 1), (71, .new 9, 3), (74, .dup, 1), (75, .invokespecial 36, 3), (78, .aastore, 1), (79, .iinc 1 1, 3), (82, .goto (-22), 3), (85, .iconst 0, 1), (86, .istore_n 1, 1), (87, .iload_n 1, 1), (88, .bipush 24, 2), (90, .if_icmp .ge 17, 3), (93, .aload_n 0, 1), (94, .getfield 17, 3), (97, .iload_n 1, 1), (98, .bipush (-2), 2), (100, .iastore, 1), (101, .iinc 1 1, 3), (104, .goto (-17), 3), (107, .aload_n 0, 1), (108, .bipush (-2), 2), (110, .putfield 37, 3), (113, .return_, 1)]
theorem mc_cdk_7 : mc_cdl_7.all (fun q => decide (decode prog_6_method_1_code q.1 = .ok q.2)) = true := by decide +kernel
def mc_cdl_8 : List (Nat × Instr × Nat) := [(0, .aload_n 0, 1), (1, .invokespecial 3, 3), (4, .aload_n 0, 1), (5, .bipush 40, 2), (7, .newarray .int, 2), (9, .putfield 9, 3), (12, .aload_n 0, 1), (13, .bipush 40, 2), (15, .newarray .int, 2), (17, .putfield 15, 3), (20, .aload_n 0, 1), (21, .bipush 40, 2), (23, .newarray .int, 2), (25, .putfield 18, 3), (28, .aload_n 0, 1), (29, .bipush 40, 2), (31, .newarray .int, 2), (33, .putfield 21, 3), (36, .aload_n 0, 1), (37, .bipush 40, 2), (39, .newarray .long, 2), (41, .putfield 24, 3), (44, .aload_n 0, 1), (45, .bipush 40, 2), (47, .newarray .long, 2), (49, .putfield 28, 3), (52, .return_, 1)]
theorem mc_cdk_8 : mc_cdl_8.all (fun q => decide (decode prog_7_method_1_code q.1 = .ok q.2)) = true := by decide +kernel
def mc_cdl_9 : List (Nat × Instr × Nat) := [(0, .aload_n 0, 1), (1, .getfield 62, 3), (4, .sipush 880, 3), (7, .if_icmp .le 5, 3), (10, .iconst (-1), 1), (11, .ireturn, 1), (12, .aload_n 0, 1), (13, .iload_n 1, 1), (14, .invokevirtual 66, 3), (17, .aload_n 0, 1), (18, .iload_n 2, 1), (19, .invokevirtual 66, 3), (22, .aload_n 0, 1), (23, .iload_n 3, 1), (24, .invokevirtual 66, 3), (27, .aload_n 0, 1), (28, .iload 4, 2), (30, .invokevirtual 66, 3), (33, .aload_n 0, 1), (34, .iload 5, 2), (36, .invokevirtual 66, 3), (39, .aload_n 0, 1), (40, .getfield 62, 3), (43, .ireturn, 1)]
theorem mc_cdk_9 : mc_cdl_9.all (fun q => decide (decode prog_1_method_2_code q.1 = .ok q.2)) = true := by decide +kernel
def mc_cdl_10 : List (Nat × Instr × Nat) := [(0, .bipush 24, 2), (2, .istore_n 2, 1), (3, .iload_n 2, 1), (4, .ifCond .lt 42, 3), (7, .aload_n 0, 1), (8, .getfield 62, 3), (11, .sipush 900, 3), (14, .if_icmp .ge 32, 3), (17, .aload_n 0, 1), (18, .getfield 9, 3), (21, .aload_n 0, 1), (22, .getfield 62, 3), (25, .iload_n 1, 1), (26, .iload_n 2, 1), (27, .ishr, 1), (28, .i2b, 1), (29, .bastore, 1), (30, .aload_n 0, 1), (31, .dup, 1), (32, .getfield 62, 3), (35, .iconst 1, 1), (36, .iadd, 1), (37, .putfield 62, 3), (40, .iinc 2 (-8), 3), (43, .goto (-40), 3), (46, .return_, 1)]
theorem mc_cdk_10 : mc_cdl_10.all (fun q => decide (decode prog_1_method_52_code q.1 = .ok q.2)) = true := by decide +kernel
def mc_cdl_11 : List (Nat × Instr × Nat) := [(0, .iload_n 1, 1), (1, .ifCond .lt 11, 3), (4, .iload_n 1, 1), (5, .aload_n 0, 1), (6, .getfield 62, 3), (9, .if_icmp .le 9, 3), (12, .aload_n 0, 1), (13, .iconst 2, 1), (14, .invokevirtual 70, 3), (17, .ireturn, 1), (18, .aload_n 0, 1), (19, .iconst 0, 1), (20, .putfield 62, 3), (23, .aload_n 0, 1), (24, .getfield 16, 3), (27, .aload_n 0, 1), (28, .getfield 9, 3), (31, .iload_n 1, 1), (32, .aload_n 0, 1), (33, .getfield 55, 3), (36, .invokevirtual 74, 3), (39, .istore_n 2, 1), (40, .aload_n 0, 1), (41, .aload_n 0, 1), (42, .getfield 16, 3), (45, .getfield 78, 3), (48, .putfield 81, 3), (51, .aload_n 0, 1), (52, .aload_n 0, 1), (53, .getfield 16, 3), (56, .getfield 84, 3), (59, .putfield 87, 3), (62, .iload_n 2, 1), (63, .ifCond .ne 9, 3), (66, .aload_n 0, 1), (67, .iconst 4, 1), (68, .invokevirtual 70, 3), (71, .ireturn, 1), (72, .aload_n 0, 1), (73, .getfield 55, 3), (76, .invokevirtual 90, 3), (79, .aload_n 0, 1), (80, .getfield 51, 3), (83, .astore_n 3, 1), (84, .aload_n 0, 1), (85, .aload_n 0, 1), (86, .getfield 55, 3), (89, .putfield 51, 3), (92, .aload_n 0, 1), (93, .aload_n 3, 1), (94, .putfield 55, 3), (97, .aload_n 0, 1), (98, .iconst 1, 1), (99, .putfield 58, 3), (102, .aload_n 0, 1), (103, .getfield 30, 3), (106, .invokevirtual 93, 3), (109, .aload_n 0, 1), (110, .aload_n 0, 1), (111, .getfield 51, 3), (114, .getfield 96, 3), (117, .invokevirtual 99, 3), (120, .ireturn, 1)]
theorem mc_cdk_11 : mc_cdl_11.all (fun q => decide (decode prog_1_method_3_code q.1 = .ok q.2)) = true := by decide +kernel
def mc_cdl_12 : List (Nat × Instr × Nat) := [(0, .aload_n 0, 1), (1, .iload_n 1, 1), (2, .putfield 102, 3), (5, .iconst (-1), 1), (6, .ireturn, 1)]
theorem mc_cdk_12 : mc_cdl_12.all (fun q => decide (decode prog_1_method_54_code q.1 = .ok q.2)) = true := by decide +kernel
def mc_cdl_13 : List (Nat × Instr × Nat) := [(0, .aload_n 0, 1), (1, .iconst 0, 1), (2, .putfield 18, 3), (5, .aload_n 0, 1), (6, .iconst (-1), 1), (7, .putfield 22, 3), (10, .aload_n 3, 1), (11, .invokevirtual 25, 3), (14, .aload_n 0, 1), (15, .getfield 12, 3), (18, .aload_n 1, 1), (19, .iload_n 2, 1), (20, .invokevirtual 30, 3), (23, .iconst 0, 1), (24, .istore 4, 2), (26, .iload 4, 2), (28, .sipush 900, 3), (31, .if_icmp .gt 68, 3), (34, .aload_n 0, 1), (35, .aload_n 3, 1), (36, .invokevirtual 34, 3), (39, .ifCond .ne 5, 3), (42, .iconst 0, 1), (43, .ireturn, 1), (44, .aload_n 0, 1), (45, .getfield 12, 3), (48, .getfield 38, 3), (51, .ifCond .ne 32, 3), (54, .aload_n 3, 1), (55, .getfield 41, 3), (58, .ifCond .le 10, 3), (61, .aload_n 3, 1), (62, .getfield 44, 3), (65, .ifCond .gt 12, 3), (68, .aload_n 0, 1), (69, .bipush 6, 2), (71, .invokevirtual 47, 3), (74, .ifCond .eq 7, 3), (77, .iconst 1, 1), (78, .goto 4, 3), (81, .iconst 0, 1), (82, .ireturn, 1), (83, .aload_n 0, 1), (84, .iconst 3, 1), (85, .invokevirtual 51, 3), (88, .ifCond .ne 5, 3), (91, .iconst 0, 1), (92, .ireturn, 1), (93, .iinc 4 1, 3), (96, .goto (-70), 3), (99, .aload_n 0, 1), (100, .iconst 1, 1), (101, .invokevirtual 47, 3), (104, .ireturn, 1)]
theorem mc_cdk_13 : mc_cdl_13.all (fun q => decide (decode prog_8_method_2_code q.1 = .ok q.2)) = true := by decide +kernel
def mc_cdl_14 : List (Nat × Instr × Nat) := [(0, .aload_n 0, 1), (1, .iconst 0, 1), (2, .putfield 41, 3), (5, .aload_n 0, 1), (6, .iconst 0, 1), (7, .putfield 44, 3), (10, .aload_n 0, 1), (11, .iconst 0, 1), (12, .putfield 47, 3), (15, .aload_n 0, 1), (16, .iconst 0, 1), (17, .putfield 50, 3), (20, .aload_n 0, 1), (21, .iconst 0, 1), (22, .putfield 53, 3), (25, .aload_n 0, 1), (26, .iconst 0, 1), (27, .putfield 56, 3), (30, .aload_n 0, 1), (31, .iconst 0, 1), (32, .putfield 59, 3), (35, .aload_n 0, 1), (36, .iconst 0, 1), (37, .putfield 62, 3), (40, .aload_n 0, 1), (41, .bipush (-2), 2), (43, .putfield 37, 3), (46, .aload_n 0, 1), (47, .iconst 0, 1), (48, .putfield 65, 3), (51, .aload_n 0, 1), (52, .iconst 0, 1), (53, .putfield 68, 3), (56, .aload_n 0, 1), (57, .lconst 0, 1), (58, .putfield 71, 3), (61, .iconst 0, 1), (62, .istore_n 1, 1), (63, .iload_n 1, 1), (64, .bipush 24, 2), (66, .if_icmp .ge 17, 3), (69, .aload_n 0, 1), (70, .getfield 17, 3), (73, .iload_n 1, 1), (74, .bipush (-2), 2), (76, .iastore, 1), (77, .iinc 1 1, 3), (80, .goto (-17), 3), (83, .return_, 1)]
theorem mc_cdk_14 : mc_cdl_14.all (fun q => decide (decode prog_6_method_2_code q.1 = .ok q.2)) = true := by decide +kernel
def mc_cdl_15 : List (Nat × Instr × Nat) := [(0, .aload_n 0, 1), (1, .aload_n 1, 1), (2, .putfield 7, 3), (5, .aload_n 0, 1), (6, .iload_n 2, 1), (7, .aload_n 1, 1), (8, .arraylength, 1), (9, .invokestatic 13, 3), (12, .putfield 19, 3), (15, .aload_n 0, 1), (16, .iconst 0, 1), (17, .putfield 23, 3), (20, .aload_n 0, 1), (21, .invokevirtual 26, 3), (24, .return_, 1)]
theorem mc_cdk_15 : mc_cdl_15.all (fun q => decide (decode prog_10_method_2_code q.1 = .ok q.2)) = true := by decide +kernel
def mc_cdl_16 : List (Nat × Instr × Nat) := [(0, .aload_n 0, 1), (1, .getfield 23, 3), (4, .istore_n 1, 1), (5, .iload_n 1, 1), (6, .aload_n 0, 1), (7, .getfield 19, 3), (10, .if_icmp .ge 20, 3), (13, .aload_n 0, 1), (14, .getfield 7, 3), (17, .iload_n 1, 1), (18, .baload, 1), (19, .bipush 32, 2), (21, .if_icmp .ne 9, 3), (24, .iinc 1 1, 3), (27, .goto (-22), 3), (30, .aload_n 0, 1), (31, .iload_n 1, 1), (32, .putfield 29, 3), (35, .aload_n 0, 1), (36, .lconst 0, 1), (37, .putfield 32, 3), (40, .iload_n 1, 1), (41, .aload_n 0, 1), (42, .getfield 19, 3), (45, .if_icmp .ge 56, 3), (48, .aload_n 0, 1), (49, .getfield 7, 3), (52, .iload_n 1, 1), (53, .baload, 1), (54, .bipush 97, 2), (56, .if_icmp .lt 45, 3), (59, .aload_n 0, 1), (60, .getfield 7, 3), (63, .iload_n 1, 1), (64, .baload, 1), (65, .bipush 122, 2), (67, .if_icmp .gt 34, 3), (70, .aload_n 0, 1), (71, .aload_n 0, 1), (72, .getfield 32, 3), (75, .ldc2_w 36, 3), (78, .lmul, 1), (79, .aload_n 0, 1), (80, .getfield 7, 3), (83, .iload_n 1, 1), (84, .baload, 1), (85, .bipush 97, 2), (87, .isub, 1), (88, .iconst 1, 1), (89, .iadd, 1), (90, .i2l, 1), (91, .ladd, 1), (92, .putfield 32, 3), (95, .iinc 1 1, 3), (98, .goto (-58), 3), (101, .iload_n 1, 1), (102, .aload_n 0, 1), (103, .getfield 29, 3), (106, .isub, 1), (107, .istore_n 2, 1), (108, .aload_n 0, 1), (109, .iconst 0, 1), (110, .putfield 38, 3), (113, .iload_n 1, 1), (114, .aload_n 0, 1), (115, .getfield 19, 3), (118, .if_icmp .ge 56, 3), (121, .iload_n 2, 1), (122, .ifCond .ne 52, 3), (125, .aload_n 0, 1), (126, .getfield 7, 3), (129, .iload_n 1, 1), (130, .baload, 1), (131, .bipush 48, 2), (133, .if_icmp .lt 41, 3), (136, .aload_n 0, 1), (137, .getfield 7, 3), (140, .iload_n 1, 1), (141, .baload, 1), (142, .bipush 57, 2), (144, .if_icmp .gt 30, 3), (147, .aload_n 0, 1), (148, .aload_n 0, 1), (149, .getfield 38, 3), (152, .bipush 10, 2), (154, .imul, 1), (155, .aload_n 0, 1), (156, .getfield 7, 3), (159, .iload_n 1, 1), (160, .baload, 1), (161, .bipush 48, 2), (163, .isub, 1), (164, .iadd, 1), (165, .putfield 38, 3), (168, .iinc 1 1, 3), (171, .goto (-58), 3), (174, .iload_n 1, 1), (175, .aload_n 0, 1), (176, .getfield 29, 3), (179, .isub, 1), (180, .iload_n 2, 1), (181, .isub, 1), (182, .istore_n 3, 1), (183, .iload_n 2, 1), (184, .ifCond .le 21, 3), (187, .aload_n 0, 1), (188, .iload_n 2, 1), (189, .bipush 8, 2), (191, .if_icmp .gt 7, 3), (194, .iconst 1, 1), (195, .goto 4, 3), (198, .iconst 5, 1), (199, .putfield 41, 3), (202, .goto 78, 3), (205, .iload_n 3, 1), (206, .ifCond .le 20, 3), (209, .aload_n 0, 1), (210, .iload_n 3, 1), (211, .iconst 3, 1), (212, .if_icmp .gt 7, 3), (215, .iconst 2, 1), (216, .goto 4, 3), (219, .iconst 5, 1), (220, .putfield 41, 3), (223, .goto 57, 3), (226, .iload_n 1, 1), (227, .aload_n 0, 1), (228, .getfield 19, 3), (231, .if_icmp .ge 44, 3), (234, .aload_n 0, 1), (235, .aload_n 0, 1), (236, .getfield 7, 3), (239, .iload_n 1, 1), (240, .baload, 1), (241, .bipush 59, 2), (243, .if_icmp .ne 7, 3), (246, .iconst 3, 1), (247, .goto 19, 3), (250, .aload_n 0, 1), (251, .getfield 7, 3), (254, .iload_n 1, 1), (255, .baload, 1), (256, .bipush 44, 2), (258, .if_icmp .ne 7, 3), (261, .iconst 4, 1), (262, .goto 4, 3), (265, .iconst 5, 1), (266, .putfield 41, 3), (269, .iinc 1 1, 3), (272, .goto 8, 3), (275, .aload_n 0, 1), (276, .iconst 0, 1), (277, .putfield 41, 3), (280, .aload_n 0, 1), (281, .iload_n 1, 1), (282, .putfield 23, 3), (285, .return_, 1)]
theorem mc_cdk_16 : mc_cdl_16.all (fun q => decide (decode prog_10_method_3_code q.1 = .ok q.2)) = true := by decide +kernel
def mc_cdl_17 : List (Nat × Instr × Nat) := [(0, .aload_n 0, 1), (1, .invokevirtual 54, 3), (4, .astore_n 2, 1), (5, .aload_n 2, 1), (6, .ifnull 10, 3), (9, .aload_n 2, 1), (10, .getfield 58, 3), (13, .ifCond .ne 9, 3), (16, .aload_n 0, 1), (17, .iconst 1, 1), (18, .invokevirtual 47, 3), (21, .ireturn, 1), (22, .aload_n 1, 1), (23, .aload_n 2, 1), (24, .invokevirtual 63, 3), (27, .aload_n 2, 1), (28, .getfield 58, 3), (31, .if_icmp .lt 37, 3), (34, .aload_n 2, 1), (35, .getstatic 67, 3), (38, .if_acmp .eq 10, 3), (41, .aload_n 2, 1), (42, .getstatic 71, 3), (45, .if_acmp .ne 7, 3), (48, .iconst 1, 1), (49, .goto 4, 3), (52, .iconst 0, 1), (53, .istore_n 3, 1), (54, .aload_n 0, 1), (55, .iload_n 3, 1), (56, .ifCond .eq 7, 3), (59, .iconst 3, 1), (60, .goto 4, 3), (63, .iconst 5, 1), (64, .invokevirtual 47, 3), (67, .ireturn, 1), (68, .aload_n 0, 1), (69, .getfield 12, 3), (72, .invokevirtual 74, 3), (75, .getstatic 77, 3), (78, .aload_n 2, 1), (79, .invokevirtual 83, 3), (82, .iaload, 1), (83, .tableswitch 109 1 8 #[45, 51, 73, 79, 85, 91, 97, 103], 45), (128, .aload_n 0, 1), (129, .aload_n 1, 1), (130, .invokevirtual 87, 3), (133, .ireturn, 1), (134, .aload_n 0, 1), (135, .aload_n 1, 1), (136, .invokevirtual 90, 3), (139, .ifCond .eq 15, 3), (142, .aload_n 0, 1), (143, .aload_n 1, 1), (144, .invokevirtual 93, 3), (147, .ifCond .eq 7, 3), (150, .iconst 1, 1), (151, .goto 4, 3), (154, .iconst 0, 1), (155, .ireturn, 1), (156, .aload_n 0, 1), (157, .aload_n 1, 1), (158, .invokevirtual 96, 3), (161, .ireturn, 1), (162, .aload_n 0, 1), (163, .aload_n 1, 1), (164, .invokevirtual 99, 3), (167, .ireturn, 1), (168, .aload_n 0, 1), (169, .aload_n 1, 1), (170, .invokevirtual 102, 3), (173, .ireturn, 1), (174, .aload_n 0, 1), (175, .aload_n 1, 1), (176, .invokevirtual 105, 3), (179, .ireturn, 1), (180, .aload_n 0, 1), (181, .aload_n 1, 1), (182, .invokevirtual 108, 3), (185, .ireturn, 1), (186, .aload_n 0, 1), (187, .aload_n 1, 1), (188, .invokevirtual 111, 3), (191, .ireturn, 1), (192, .aload_n 0, 1), (193, .iconst 1, 1), (194, .invokevirtual 47, 3), (197, .ireturn, 1)]
theorem mc_cdk_17 : mc_cdl_17.all (fun q => decide (decode prog_8_method_3_code q.1 = .ok q.2)) = true := by decide +kernel
def mc_cdl_18 : List (Nat × Instr × Nat) := [(0, .iconst 0, 1), (1, .istore_n 1, 1), (2, .iload_n 1, 1), (3, .getstatic 258, 3), (6, .arraylength, 1), (7, .if_icmp .ge 33, 3), (10, .aload_n 0, 1), (11, .getfield 12, 3), (14, .getstatic 258, 3), (17, .iload_n 1, 1), (18, .aaload, 1), (19, .getfield 181, 3), (22, .invokevirtual 185, 3), (25, .ifCond .eq 9, 3), (28, .getstatic 258, 3), (31, .iload_n 1, 1), (32, .aaload, 1), (33, .areturn, 1), (34, .iinc 1 1, 3), (37, .goto (-35), 3), (40, .aconst_null, 1), (41, .areturn, 1)]
theorem mc_cdk_18 : mc_cdl_18.all (fun q => decide (decode prog_8_method_14_code q.1 = .ok q.2)) = true := by decide +kernel
def mc_cdl_19 : List (Nat × Instr × Nat) := [(0, .aload_n 0, 1), (1, .getfield 41, 3), (4, .iconst 1, 1), (5, .if_icmp .eq 5, 3), (8, .iconst 0, 1), (9, .ireturn, 1), (10, .lconst 0, 1), (11, .lstore_n 2, 1), (12, .iconst 0, 1), (13, .istore 4, 2), (15, .iload 4, 2), (17, .aload_n 1, 1), (18, .invokevirtual 44, 3), (21, .if_icmp .ge 28, 3), (24, .lload_n 2, 1), (25, .ldc2_w 36, 3), (28, .lmul, 1), (29, .aload_n 1, 1), (30, .iload 4, 2), (32, .invokevirtual 49, 3), (35, .bipush 97, 2), (37, .isub, 1), (38, .iconst 1, 1), (39, .iadd, 1), (40, .i2l, 1), (41, .ladd, 1), (42, .lstore_n 2, 1), (43, .iinc 4 1, 3), (46, .goto (-31), 3), (49, .lload_n 2, 1), (50, .aload_n 0, 1), (51, .getfield 32, 3), (54, .lcmp, 1), (55, .ifCond .ne 7, 3), (58, .iconst 1, 1), (59, .goto 4, 3), (62, .iconst 0, 1), (63, .ireturn, 1)]
theorem mc_cdk_19 : mc_cdl_19.all (fun q => decide (decode prog_10_method_4_code q.1 = .ok q.2)) = true := by decide +kernel
def mc_cdl_20 : List (Nat × Instr × Nat) := [(0, .aload_n 0, 1), (1, .iload_n 1, 1), (2, .putfield 18, 3), (5, .aload_n 0, 1), (6, .aload_n 0, 1), (7, .getfield 12, 3), (10, .getfield 257, 3), (13, .putfield 22, 3), (16, .iconst 0, 1), (17, .ireturn, 1)]
theorem mc_cdk_20 : mc_cdl_20.all (fun q => decide (decode prog_8_method_13_code q.1 = .ok q.2)) = true := by decide +kernel
def mc_cdl_21 : List (Nat × Instr × Nat) := [(0, .getstatic 75, 3), (3, .aload_n 1, 1), (4, .invokevirtual 80, 3), (7, .iaload, 1), (8, .tableswitch 104 1 8 #[48, 61, 66, 79, 84, 89, 94, 99], 48), (56, .aload_n 0, 1), (57, .getfield 41, 3), (60, .ifCond .le 7, 3), (63, .iconst 1, 1), (64, .goto 4, 3), (67, .iconst 0, 1), (68, .ireturn, 1), (69, .aload_n 0, 1), (70, .getfield 50, 3), (73, .ireturn, 1), (74, .aload_n 0, 1), (75, .getfield 37, 3), (78, .ifCond .lt 7, 3), (81, .iconst 1, 1), (82, .goto 4, 3), (85, .iconst 0, 1), (86, .ireturn, 1), (87, .aload_n 0, 1), (88, .getfield 53, 3), (91, .ireturn, 1), (92, .aload_n 0, 1), (93, .getfield 56, 3), (96, .ireturn, 1), (97, .aload_n 0, 1), (98, .getfield 65, 3), (101, .ireturn, 1), (102, .aload_n 0, 1), (103, .getfield 59, 3), (106, .ireturn, 1), (107, .aload_n 0, 1), (108, .getfield 62, 3), (111, .ireturn, 1), (112, .iconst 0, 1), (113, .ireturn, 1)]
theorem mc_cdk_21 : mc_cdl_21.all (fun q => decide (decode prog_6_method_3_code q.1 = .ok q.2)) = true := by decide +kernel
def mc_cdl_22 : List (Nat × Instr × Nat) := [(0, .aload_n 0, 1), (1, .ldc 114, 2), (3, .invokevirtual 115, 3), (6, .ifCond .eq 13, 3), (9, .aload_n 0, 1), (10, .iconst 1, 1), (11, .bipush 24, 2), (13, .invokevirtual 119, 3), (16, .goto 4, 3), (19, .iconst (-1), 1), (20, .istore_n 2, 1), (21, .iload_n 2, 1), (22, .ifCond .lt 22, 3), (25, .aload_n 0, 1), (26, .ldc 123, 2), (28, .invokevirtual 115, 3), (31, .ifCond .eq 13, 3), (34, .aload_n 0, 1), (35, .iconst 0, 1), (36, .bipush 9, 2), (38, .invokevirtual 119, 3), (41, .goto 4, 3), (44, .iconst (-1), 1), (45, .istore_n 3, 1), (46, .iload_n 3, 1), (47, .ifCond .lt 21, 3), (50, .aload_n 0, 1), (51, .ldc 125, 2), (53, .invokevirtual 115, 3), (56, .ifCond .eq 12, 3), (59, .aload_n 0, 1), (60, .iconst 0, 1), (61, .iconst 3, 1), (62, .invokevirtual 119, 3), (65, .goto 4, 3), (68, .iconst (-1), 1), (69, .istore 4, 2), (71, .iload 4, 2), (73, .ifCond .ge 5, 3), (76, .iconst 0, 1), (77, .ireturn, 1), (78, .aload_n 1, 1), (79, .iload_n 2, 1), (80, .putfield 41, 3), (83, .aload_n 1, 1), (84, .iload_n 3, 1), (85, .putfield 127, 3), (88, .aload_n 1, 1), (89, .iload 4, 2), (91, .putfield 129, 3), (94, .iconst 1, 1), (95, .ireturn, 1)]
theorem mc_cdk_22 : mc_cdl_22.all (fun q => decide (decode prog_8_method_4_code q.1 = .ok q.2)) = true := by decide +kernel
def mc_cdl_23 : List (Nat × Instr × Nat) := [(0, .aload_n 0, 1), (1, .getfield 12, 3), (4, .aload_n 1, 1), (5, .invokevirtual 185, 3), (8, .ifCond .ne 9, 3), (11, .aload_n 0, 1), (12, .iconst 1, 1), (13, .invokevirtual 47, 3), (16, .ireturn, 1), (17, .aload_n 0, 1), (18, .getfield 12, 3), (21, .invokevirtual 74, 3), (24, .iconst 1, 1), (25, .ireturn, 1)]
theorem mc_cdk_23 : mc_cdl_23.all (fun q => decide (decode prog_8_method_18_code q.1 = .ok q.2)) = true := by decide +kernel
def mc_cdl_24 : List (Nat × Instr × Nat) := [(0, .aload_n 0, 1), (1, .getfield 12, 3), (4, .getfield 38, 3), (7, .iconst 2, 1), (8, .if_icmp .eq 11, 3), (11, .aload_n 0, 1), (12, .iconst 1, 1), (13, .invokevirtual 47, 3), (16, .pop, 1), (17, .iconst (-1), 1), (18, .ireturn, 1), (19, .aload_n 0, 1), (20, .getfield 12, 3), (23, .getfield 230, 3), (26, .istore_n 3, 1), (27, .iload_n 3, 1), (28, .iload_n 1, 1), (29, .if_icmp .lt 8, 3), (32, .iload_n 3, 1), (33, .iload_n 2, 1), (34, .if_icmp .le 11, 3), (37, .aload_n 0, 1), (38, .iconst 4, 1), (39, .invokevirtual 47, 3), (42, .pop, 1), (43, .iconst (-1), 1), (44, .ireturn, 1), (45, .aload_n 0, 1), (46, .getfield 12, 3), (49, .invokevirtual 74, 3), (52, .iload_n 3, 1), (53, .ireturn, 1)]
theorem mc_cdk_24 : mc_cdl_24.all (fun q => decide (decode prog_8_method_19_code q.1 = .ok q.2)) = true := by decide +kernel
def mc_cdl_25 : List (Nat × Instr × Nat) := [(0, .aload_n 0, 1), (1, .invokevirtual 131, 3), (4, .ifCond .ne 9, 3), (7, .aload_n 0, 1), (8, .iconst 1, 1), (9, .invokevirtual 47, 3), (12, .ireturn, 1), (13, .aload_n 1, 1), (14, .aload_n 0, 1), (15, .getfield 12, 3), (18, .getfield 135, 3), (21, .invokevirtual 139, 3), (24, .ifCond .lt 9, 3), (27, .aload_n 0, 1), (28, .iconst 3, 1), (29, .invokevirtual 47, 3), (32, .ireturn, 1), (33, .aload_n 1, 1), (34, .getfield 143, 3), (37, .aload_n 1, 1), (38, .getfield 44, 3), (41, .aaload, 1), (42, .astore_n 2, 1), (43, .aload_n 2, 1), (44, .aload_n 0, 1), (45, .getfield 12, 3), (48, .getfield 135, 3), (51, .invokevirtual 147, 3), (54, .aload_n 0, 1), (55, .getfield 12, 3), (58, .invokevirtual 74, 3), (61, .aload_n 0, 1), (62, .ldc 152, 2), (64, .invokevirtual 115, 3), (67, .ifCond .eq 17, 3), (70, .aload_n 0, 1), (71, .bipush 23, 2), (73, .iconst 0, 1), (74, .bipush 7, 2), (76, .bipush 23, 2), (78, .invokevirtual 154, 3), (81, .ifCond .ne 5, 3), (84, .iconst 0, 1), (85, .ireturn, 1), (86, .aload_n 2, 1), (87, .aload_n 0, 1), (88, .getfield 158, 3), (91, .putfield 161, 3), (94, .aload_n 2, 1), (95, .aload_n 0, 1), (96, .getfield 164, 3), (99, .putfield 167, 3), (102, .aload_n 0, 1), (103, .ldc 170, 2), (105, .invokevirtual 115, 3), (108, .ifCond .eq 16, 3), (111, .aload_n 0, 1), (112, .bipush 12, 2), (114, .iconst 0, 1), (115, .iconst 4, 1), (116, .bipush 12, 2), (118, .invokevirtual 154, 3), (121, .ifCond .ne 5, 3), (124, .iconst 0, 1), (125, .ireturn, 1), (126, .aload_n 2, 1), (127, .aload_n 0, 1), (128, .getfield 158, 3), (131, .putfield 172, 3), (134, .aload_n 2, 1), (135, .aload_n 0, 1), (136, .getfield 164, 3), (139, .putfield 175, 3), (142, .iconst 1, 1), (143, .ireturn, 1)]
theorem mc_cdk_25 : mc_cdl_25.all (fun q => decide (decode prog_8_method_5_code q.1 = .ok q.2)) = true := by decide +kernel
def mc_cdl_26 : List (Nat × Instr × Nat) := [(0, .aload_n 0, 1), (1, .getfield 12, 3), (4, .getfield 38, 3), (7, .iconst 1, 1), (8, .if_icmp .ne 14, 3), (11, .aload_n 0, 1), (12, .invokevirtual 54, 3), (15, .ifnonnull 7, 3), (18, .iconst 1, 1), (19, .goto 4, 3), (22, .iconst 0, 1), (23, .ireturn, 1)]
theorem mc_cdk_26 : mc_cdl_26.all (fun q => decide (decode prog_8_method_15_code q.1 = .ok q.2)) = true := by decide +kernel
def mc_cdl_27 : List (Nat × Instr × Nat) := [(0, .iconst 0, 1), (1, .istore_n 3, 1), (2, .iload_n 3, 1), (3, .aload_n 0, 1), (4, .getfield 50, 3), (7, .if_icmp .ge 25, 3), (10, .aload_n 0, 1), (11, .getfield 11, 3), (14, .iload_n 3, 1), (15, .aaload, 1), (16, .getfield 86, 3), (19, .lload_n 1, 1), (20, .lcmp, 1), (21, .ifCond .ne 5, 3), (24, .iload_n 3, 1), (25, .ireturn, 1), (26, .iinc 3 1, 3), (29, .goto (-27), 3), (32, .iconst (-1), 1), (33, .ireturn, 1)]
theorem mc_cdk_27 : mc_cdl_27.all (fun q => decide (decode prog_6_method_4_code q.1 = .ok q.2)) = true := by decide +kernel
def mc_cdl_28 : List (Nat × Instr × Nat) := [(0, .aload_n 0, 1), (1, .lload_n 1, 1), (2, .putfield 31, 3), (5, .aload_n 0, 1), (6, .iconst (-1), 1), (7, .putfield 35, 3), (10, .aload_n 0, 1), (11, .iconst 0, 1), (12, .putfield 39, 3), (15, .aload_n 0, 1), (16, .iconst 0, 1), (17, .putfield 42, 3), (20, .aload_n 0, 1), (21, .iconst 0, 1), (22, .putfield 46, 3), (25, .aload_n 0, 1), (26, .iconst 0, 1), (27, .putfield 49, 3), (30, .aload_n 0, 1), (31, .iconst 0, 1), (32, .putfield 52, 3), (35, .aload_n 0, 1), (36, .iconst 0, 1), (37, .putfield 55, 3), (40, .return_, 1)]
theorem mc_cdk_28 : mc_cdl_28.all (fun q => decide (decode prog_7_method_2_code q.1 = .ok q.2)) = true := by decide +kernel
def mc_cdl_29 : List (Nat × Instr × Nat) := [(0, .aload_n 0, 1), (1, .aload_n 0, 1), (2, .iconst 0, 1), (3, .iload_n 1, 1), (4, .invokevirtual 119, 3), (7, .putfield 158, 3), (10, .aload_n 0, 1), (11, .getfield 158, 3), (14, .ifCond .lt 13, 3), (17, .aload_n 0, 1), (18, .ldc_w 262, 3), (21, .invokevirtual 115, 3), (24, .ifCond .ne 5, 3), (27, .iconst 0, 1), (28, .ireturn, 1), (29, .aload_n 0, 1), (30, .aload_n 0, 1), (31, .aload_n 0, 1), (32, .getfield 158, 3), (35, .iload_n 2, 1), (36, .iadd, 1), (37, .aload_n 0, 1), (38, .getfield 158, 3), (41, .iload_n 3, 1), (42, .iadd, 1), (43, .iload 4, 2), (45, .invokestatic 263, 3), (48, .invokevirtual 119, 3), (51, .putfield 164, 3), (54, .aload_n 0, 1), (55, .getfield 164, 3), (58, .ifCond .lt 7, 3), (61, .iconst 1, 1), (62, .goto 4, 3), (65, .iconst 0, 1), (66, .ireturn, 1)]
theorem mc_cdk_29 : mc_cdl_29.all (fun q => decide (decode prog_8_method_20_code q.1 = .ok q.2)) = true := by decide +kernel
def mc_cdl_30 : List (Nat × Instr × Nat) := [(0, .aload_n 1, 1), (1, .getfield 143, 3), (4, .aload_n 1, 1), (5, .getfield 44, 3), (8, .aaload, 1), (9, .astore_n 2, 1), (10, .aload_n 0, 1), (11, .getfield 12, 3), (14, .getstatic 178, 3), (17, .getfield 181, 3), (20, .invokevirtual 185, 3), (23, .ifCond .eq 30, 3), (26, .aload_n 0, 1), (27, .getfield 12, 3), (30, .invokevirtual 74, 3), (33, .aload_n 2, 1), (34, .aload_n 0, 1), (35, .iconst 0, 1), (36, .bipush 23, 2), (38, .invokevirtual 119, 3), (41, .putfield 188, 3), (44, .aload_n 2, 1), (45, .getfield 188, 3), (48, .ifCond .ge 5, 3), (51, .iconst 0, 1), (52, .ireturn, 1), (53, .aload_n 0, 1), (54, .getfield 12, 3), (57, .getstatic 191, 3), (60, .getfield 181, 3), (63, .invokevirtual 185, 3), (66, .ifCond .eq 41, 3), (69, .aload_n 0, 1), (70, .getfield 12, 3), (73, .invokevirtual 74, 3), (76, .aload_n 0, 1), (77, .bipush 23, 2), (79, .iconst 1, 1), (80, .bipush 24, 2), (82, .bipush 24, 2), (84, .invokevirtual 154, 3), (87, .ifCond .ne 5, 3), (90, .iconst 0, 1), (91, .ireturn, 1), (92, .aload_n 2, 1), (93, .aload_n 0, 1), (94, .getfield 158, 3), (97, .aload_n 0, 1), (98, .getfield 164, 3), (101, .invokestatic 194, 3), (104, .putfield 197, 3), (107, .aload_n 0, 1), (108, .getfield 12, 3), (111, .getstatic 200, 3), (114, .getfield 181, 3), (117, .invokevirtual 185, 3), (120, .ifCond .eq 15, 3), (123, .aload_n 0, 1), (124, .getfield 12, 3), (127, .invokevirtual 74, 3), (130, .aload_n 2, 1), (131, .iconst 1, 1), (132, .putfield 203, 3), (135, .aload_n 1, 1), (136, .dup, 1), (137, .getfield 44, 3), (140, .iconst 1, 1), (141, .iadd, 1), (142, .putfield 44, 3), (145, .iconst 1, 1), (146, .ireturn, 1)]
theorem mc_cdk_30 : mc_cdl_30.all (fun q => decide (decode prog_8_method_6_code q.1 = .ok q.2)) = true := by decide +kernel
def mc_cdl_31 : List (Nat × Instr × Nat) := [(0, .lconst 1, 1), (1, .iload_n 1, 1), (2, .lshl, 1), (3, .lconst 1, 1), (4, .iload_n 0, 1), (5, .lshl, 1), (6, .lsub, 1), (7, .l2i, 1), (8, .ldc_w 350, 3), (11, .iand, 1), (12, .ireturn, 1)]
theorem mc_cdk_31 : mc_cdl_31.all (fun q => decide (decode prog_1_method_67_code q.1 = .ok q.2)) = true := by decide +kernel
def mc_cdl_32 : List (Nat × Instr × Nat) := [(0, .aload_n 0, 1), (1, .aload_n 1, 1), (2, .invokevirtual 207, 3), (5, .istore_n 2, 1), (6, .iload_n 2, 1), (7, .ifCond .ge 5, 3), (10, .iconst 0, 1), (11, .ireturn, 1), (12, .aload_n 0, 1), (13, .getfield 12, 3), (16, .invokevirtual 74, 3), (19, .aload_n 1, 1), (20, .iload_n 2, 1), (21, .putfield 211, 3), (24, .iconst 1, 1), (25, .ireturn, 1)]
theorem mc_cdk_32 : mc_cdl_32.all (fun q => decide (decode prog_8_method_7_code q.1 = .ok q.2)) = true := by decide +kernel
def mc_cdl_33 : List (Nat × Instr × Nat) := [(0, .aload_n 0, 1), (1, .invokevirtual 131, 3), (4, .ifCond .ne 11, 3), (7, .aload_n 0, 1), (8, .iconst 1, 1), (9, .invokevirtual 47, 3), (12, .pop, 1), (13, .iconst (-1), 1), (14, .ireturn, 1), (15, .aload_n 1, 1), (16, .aload_n 0, 1), (17, .getfield 12, 3), (20, .getfield 135, 3), (23, .invokevirtual 139, 3), (26, .istore_n 2, 1), (27, .iload_n 2, 1), (28, .ifCond .ge 9, 3), (31, .aload_n 0, 1), (32, .iconst 2, 1), (33, .invokevirtual 47, 3), (36, .pop, 1), (37, .iload_n 2, 1), (38, .ireturn, 1)]
theorem mc_cdk_33 : mc_cdl_33.all (fun q => decide (decode prog_8_method_16_code q.1 = .ok q.2)) = true := by decide +kernel
def mc_cdl_34 : List (Nat × Instr × Nat) := [(0, .aload_n 0, 1), (1, .aload_n 1, 1), (2, .invokevirtual 207, 3), (5, .istore_n 2, 1), (6, .iload_n 2, 1), (7, .ifCond .ge 5, 3), (10, .iconst 0, 1), (11, .ireturn, 1), (12, .aload_n 0, 1), (13, .getfield 12, 3), (16, .invokevirtual 74, 3), (19, .aload_n 0, 1), (20, .iconst 4, 1), (21, .invokevirtual 51, 3), (24, .ifCond .ne 5, 3), (27, .iconst 0, 1), (28, .ireturn, 1), (29, .aload_n 0, 1), (30, .aload_n 1, 1), (31, .invokevirtual 207, 3), (34, .istore_n 3, 1), (35, .iload_n 3, 1), (36, .ifCond .ge 5, 3), (39, .iconst 0, 1), (40, .ireturn, 1), (41, .iload_n 3, 1), (42, .iload_n 2, 1), (43, .if_icmp .eq 19, 3), (46, .aload_n 1, 1), (47, .getfield 143, 3), (50, .iload_n 2, 1), (51, .aaload, 1), (52, .getfield 214, 3), (55, .iload_n 3, 1), (56, .invokestatic 217, 3), (59, .ifCond .eq 9, 3), (62, .aload_n 0, 1), (63, .iconst 3, 1), (64, .invokevirtual 47, 3), (67, .ireturn, 1), (68, .aload_n 0, 1), (69, .getfield 12, 3), (72, .invokevirtual 74, 3), (75, .aload_n 1, 1), (76, .getfield 143, 3), (79, .iload_n 2, 1), (80, .aaload, 1), (81, .dup, 1), (82, .getfield 214, 3), (85, .iconst 1, 1), (86, .iload_n 3, 1), (87, .ishl, 1), (88, .ior, 1), (89, .putfield 214, 3), (92, .aload_n 1, 1), (93, .getfield 143, 3), (96, .iload_n 3, 1), (97, .aaload, 1), (98, .dup, 1), (99, .getfield 214, 3), (102, .iconst 1, 1), (103, .iload_n 2, 1), (104, .ishl, 1), (105, .ior, 1), (106, .putfield 214, 3), (109, .aload_n 1, 1), (110, .dup, 1), (111, .getfield 221, 3), (114, .iconst 1, 1), (115, .iadd, 1), (116, .putfield 221, 3), (119, .iconst 1, 1), (120, .ireturn, 1)]
theorem mc_cdk_34 : mc_cdl_34.all (fun q => decide (decode prog_8_method_8_code q.1 = .ok q.2)) = true := by decide +kernel
def mc_cdl_35 : List (Nat × Instr × Nat) := [(0, .aload_n 0, 1), (1, .getfield 12, 3), (4, .getfield 38, 3), (7, .iload_n 1, 1), (8, .if_icmp .eq 9, 3), (11, .aload_n 0, 1), (12, .iconst 1, 1), (13, .invokevirtual 47, 3), (16, .ireturn, 1), (17, .aload_n 0, 1), (18, .getfield 12, 3), (21, .invokevirtual 74, 3), (24, .iconst 1, 1), (25, .ireturn, 1)]
theorem mc_cdk_35 : mc_cdl_35.all (fun q => decide (decode prog_8_method_17_code q.1 = .ok q.2)) = true := by decide +kernel
def mc_cdl_36 : List (Nat × Instr × Nat) := [(0, .iload_n 0, 1), (1, .iload_n 1, 1), (2, .ishr, 1), (3, .iconst 1, 1), (4, .iand, 1), (5, .ifCond .eq 7, 3), (8, .iconst 1, 1), (9, .goto 4, 3), (12, .iconst 0, 1), (13, .ireturn, 1)]
theorem mc_cdk_36 : mc_cdl_36.all (fun q => decide (decode prog_1_method_66_code q.1 = .ok q.2)) = true := by decide +kernel
def mc_cdl_37 : List (Nat × Instr × Nat) := [(0, .aload_n 0, 1), (1, .iconst 0, 1), (2, .bipush 23, 2), (4, .invokevirtual 119, 3), (7, .istore_n 2, 1), (8, .iload_n 2, 1), (9, .ifCond .ge 5, 3), (12, .iconst 0, 1), (13, .ireturn, 1), (14, .aload_n 1, 1), (15, .getfield 224, 3), (18, .aload_n 1, 1), (19, .getfield 227, 3), (22, .iload_n 2, 1), (23, .iastore, 1), (24, .aload_n 1, 1), (25, .dup, 1), (26, .getfield 227, 3), (29, .iconst 1, 1), (30, .iadd, 1), (31, .putfield 227, 3), (34, .iconst 1, 1), (35, .ireturn, 1)]
theorem mc_cdk_37 : mc_cdl_37.all (fun q => decide (decode prog_8_method_9_code q.1 = .ok q.2)) = true := by decide +kernel
def mc_cdl_38 : List (Nat × Instr × Nat) := [(0, .aload_n 0, 1), (1, .getfield 12, 3), (4, .getfield 38, 3), (7, .iconst 2, 1), (8, .if_icmp .ne 23, 3), (11, .aload_n 1, 1), (12, .aload_n 0, 1), (13, .getfield 12, 3), (16, .getfield 230, 3), (19, .invokevirtual 233, 3), (22, .ifCond .eq 9, 3), (25, .aload_n 0, 1), (26, .iconst 3, 1), (27, .invokevirtual 47, 3), (30, .ireturn, 1), (31, .aload_n 0, 1), (32, .iconst 0, 1), (33, .bipush 23, 2), (35, .invokevirtual 119, 3), (38, .istore_n 2, 1), (39, .iload_n 2, 1), (40, .ifCond .lt 22, 3), (43, .aload_n 0, 1), (44, .ldc 236, 2), (46, .invokevirtual 115, 3), (49, .ifCond .eq 13, 3), (52, .aload_n 0, 1), (53, .iconst 0, 1), (54, .bipush 99, 2), (56, .invokevirtual 119, 3), (59, .goto 4, 3), (62, .iconst (-1), 1), (63, .istore_n 3, 1), (64, .iload_n 3, 1), (65, .ifCond .ge 5, 3), (68, .iconst 0, 1), (69, .ireturn, 1), (70, .aload_n 1, 1), (71, .iload_n 2, 1), (72, .iload_n 3, 1), (73, .invokevirtual 238, 3), (76, .iconst 1, 1), (77, .ireturn, 1)]
theorem mc_cdk_38 : mc_cdl_38.all (fun q => decide (decode prog_8_method_10_code q.1 = .ok q.2)) = true := by decide +kernel
def mc_cdl_39 : List (Nat × Instr × Nat) := [(0, .iload_n 1, 1), (1, .ifCond .lt 22, 3), (4, .iload_n 1, 1), (5, .bipush 24, 2), (7, .if_icmp .ge 16, 3), (10, .aload_n 0, 1), (11, .getfield 17, 3), (14, .iload_n 1, 1), (15, .iaload, 1), (16, .ifCond .lt 7, 3), (19, .iconst 1, 1), (20, .goto 4, 3), (23, .iconst 0, 1), (24, .ireturn, 1)]
theorem mc_cdk_39 : mc_cdl_39.all (fun q => decide (decode prog_6_method_5_code q.1 = .ok q.2)) = true := by decide +kernel
def mc_cdl_40 : List (Nat × Instr × Nat) := [(0, .aload_n 0, 1), (1, .getfield 17, 3), (4, .iload_n 1, 1), (5, .iload_n 2, 1), (6, .iastore, 1), (7, .aload_n 0, 1), (8, .invokevirtual 89, 3), (11, .return_, 1)]
theorem mc_cdk_40 : mc_cdl_40.all (fun q => decide (decode prog_6_method_6_code q.1 = .ok q.2)) = true := by decide +kernel
def mc_cdl_41 : List (Nat × Instr × Nat) := [(0, .aload_n 0, 1), (1, .iconst 0, 1), (2, .putfield 65, 3), (5, .iconst 0, 1), (6, .istore_n 1, 1), (7, .iload_n 1, 1), (8, .bipush 24, 2), (10, .if_icmp .ge 38, 3), (13, .aload_n 0, 1), (14, .getfield 17, 3), (17, .iload_n 1, 1), (18, .iaload, 1), (19, .ifCond .lt 23, 3), (22, .aload_n 0, 1), (23, .getfield 21, 3), (26, .aload_n 0, 1), (27, .getfield 65, 3), (30, .iload_n 1, 1), (31, .iastore, 1), (32, .aload_n 0, 1), (33, .dup, 1), (34, .getfield 65, 3), (37, .iconst 1, 1), (38, .iadd, 1), (39, .putfield 65, 3), (42, .iinc 1 1, 3), (45, .goto (-38), 3), (48, .return_, 1)]
theorem mc_cdk_41 : mc_cdl_41.all (fun q => decide (decode prog_6_method_7_code q.1 = .ok q.2)) = true := by decide +kernel
def mc_cdl_42 : List (Nat × Instr × Nat) := [(0, .aload_n 0, 1), (1, .aload_n 1, 1), (2, .invokevirtual 207, 3), (5, .istore_n 2, 1), (6, .iload_n 2, 1), (7, .ifCond .ge 5, 3), (10, .iconst 0, 1), (11, .ireturn, 1), (12, .aload_n 0, 1), (13, .getfield 12, 3), (16, .invokevirtual 74, 3), (19, .aload_n 0, 1), (20, .bipush 23, 2), (22, .iconst 1, 1), (23, .bipush 24, 2), (25, .bipush 24, 2), (27, .invokevirtual 154, 3), (30, .ifCond .ne 5, 3), (33, .iconst 0, 1), (34, .ireturn, 1), (35, .aload_n 1, 1), (36, .getfield 242, 3), (39, .aload_n 1, 1), (40, .getfield 245, 3), (43, .iload_n 2, 1), (44, .iastore, 1), (45, .aload_n 1, 1), (46, .getfield 248, 3), (49, .aload_n 1, 1), (50, .getfield 245, 3), (53, .aload_n 0, 1), (54, .getfield 158, 3), (57, .aload_n 0, 1), (58, .getfield 164, 3), (61, .invokestatic 194, 3), (64, .iastore, 1), (65, .aload_n 1, 1), (66, .dup, 1), (67, .getfield 245, 3), (70, .iconst 1, 1), (71, .iadd, 1), (72, .putfield 245, 3), (75, .iconst 1, 1), (76, .ireturn, 1)]
theorem mc_cdk_42 : mc_cdl_42.all (fun q => decide (decode prog_8_method_11_code q.1 = .ok q.2)) = true := by decide +kernel
def mc_cdl_43 : List (Nat × Instr × Nat) := [(0, .aload_n 0, 1), (1, .aload_n 1, 1), (2, .invokevirtual 207, 3), (5, .ifCond .ge 5, 3), (8, .iconst 0, 1), (9, .ireturn, 1), (10, .aload_n 0, 1), (11, .getfield 12, 3), (14, .invokevirtual 74, 3), (17, .aload_n 0, 1), (18, .bipush 23, 2), (20, .iconst 1, 1), (21, .bipush 24, 2), (23, .bipush 24, 2), (25, .invokevirtual 154, 3), (28, .ifCond .ne 5, 3), (31, .iconst 0, 1), (32, .ireturn, 1), (33, .aload_n 1, 1), (34, .getfield 251, 3), (37, .aload_n 1, 1), (38, .getfield 254, 3), (41, .aload_n 0, 1), (42, .getfield 158, 3), (45, .aload_n 0, 1), (46, .getfield 164, 3), (49, .invokestatic 194, 3), (52, .iastore, 1), (53, .aload_n 1, 1), (54, .dup, 1), (55, .getfield 254, 3), (58, .iconst 1, 1), (59, .iadd, 1), (60, .putfield 254, 3), (63, .iconst 1, 1), (64, .ireturn, 1)]
theorem mc_cdk_43 : mc_cdl_43.all (fun q => decide (decode prog_8_method_12_code q.1 = .ok q.2)) = true := by decide +kernel
def mc_cdl_44 : List (Nat × Instr × Nat) := [(0, .aload_n 0, 1), (1, .invokevirtual 96, 3), (4, .istore_n 1, 1), (5, .aload_n 0, 1), (6, .getfield 41, 3), (9, .istore_n 2, 1), (10, .iload_n 2, 1), (11, .bipush 24, 2), (13, .if_icmp .ge 17, 3), (16, .aload_n 0, 1), (17, .getfield 17, 3), (20, .iload_n 2, 1), (21, .bipush (-2), 2), (23, .iastore, 1), (24, .iinc 2 1, 3), (27, .goto (-17), 3), (30, .aload_n 0, 1), (31, .invokevirtual 89, 3), (34, .iconst 0, 1), (35, .istore_n 2, 1), (36, .iload_n 2, 1), (37, .aload_n 0, 1), (38, .getfield 59, 3), (41, .if_icmp .ge 19, 3), (44, .aload_n 0, 1), (45, .getfield 30, 3), (48, .iload_n 2, 1), (49, .dup2, 1), (50, .iaload, 1), (51, .iload_n 1, 1), (52, .iand, 1), (53, .iastore, 1), (54, .iinc 2 1, 3), (57, .goto (-21), 3), (60, .iconst 0, 1), (61, .istore_n 2, 1), (62, .iload_n 2, 1), (63, .aload_n 0, 1), (64, .getfield 62, 3), (67, .if_icmp .ge 19, 3), (70, .aload_n 0, 1), (71, .getfield 33, 3), (74, .iload_n 2, 1), (75, .dup2, 1), (76, .iaload, 1), (77, .iload_n 1, 1), (78, .iand, 1), (79, .iastore, 1), (80, .iinc 2 1, 3), (83, .goto (-21), 3), (86, .aload_n 0, 1), (87, .lconst 1, 1), (88, .putfield 71, 3), (91, .aload_n 0, 1), (92, .getfield 50, 3), (95, .iconst 1, 1), (96, .isub, 1), (97, .istore_n 2, 1), (98, .iload_n 2, 1), (99, .ifCond .lt 70, 3), (102, .aload_n 0, 1), (103, .getfield 11, 3), (106, .iload_n 2, 1), (107, .aaload, 1), (108, .iload_n 1, 1), (109, .iload_n 2, 1), (110, .aload_n 0, 1), (111, .getfield 37, 3), (114, .if_icmp .ne 12, 3), (117, .aload_n 0, 1), (118, .bipush 99, 2), (120, .invokevirtual 99, 3), (123, .goto 4, 3), (126, .iconst 0, 1), (127, .invokevirtual 103, 3), (130, .aload_n 0, 1), (131, .getfield 11, 3), (134, .iload_n 2, 1), (135, .aaload, 1), (136, .aload_n 0, 1), (137, .getfield 71, 3), (140, .l2i, 1), (141, .putfield 107, 3), (144, .aload_n 0, 1), (145, .dup, 1), (146, .getfield 71, 3), (149, .aload_n 0, 1), (150, .getfield 11, 3), (153, .iload_n 2, 1), (154, .aaload, 1), (155, .getfield 110, 3), (158, .i2l, 1), (159, .lmul, 1), (160, .putfield 71, 3), (163, .iinc 2 (-1), 3), (166, .goto (-68), 3), (169, .return_, 1)]
theorem mc_cdk_44 : mc_cdl_44.all (fun q => decide (decode prog_6_method_9_code q.1 = .ok q.2)) = true := by decide +kernel
def mc_cdl_45 : List (Nat × Instr × Nat) := [(0, .iconst 0, 1), (1, .aload_n 0, 1), (2, .getfield 41, 3), (5, .invokestatic 92, 3), (8, .ireturn, 1)]
theorem mc_cdk_45 : mc_cdl_45.all (fun q => decide (decode prog_6_method_8_code q.1 = .ok q.2)) = true := by decide +kernel
def mc_cdl_46 : List (Nat × Instr × Nat) := [(0, .iconst 0, 1), (1, .istore_n 2, 1), (2, .iconst 0, 1), (3, .istore_n 3, 1), (4, .iload_n 3, 1), (5, .aload_n 0, 1), (6, .getfield 65, 3), (9, .if_icmp .ge 35, 3), (12, .aload_n 0, 1), (13, .getfield 17, 3), (16, .aload_n 0, 1), (17, .getfield 21, 3), (20, .iload_n 3, 1), (21, .iaload, 1), (22, .iaload, 1), (23, .iload_n 1, 1), (24, .if_icmp .gt 14, 3), (27, .iload_n 2, 1), (28, .iconst 1, 1), (29, .aload_n 0, 1), (30, .getfield 21, 3), (33, .iload_n 3, 1), (34, .iaload, 1), (35, .ishl, 1), (36, .ior, 1), (37, .istore_n 2, 1), (38, .iinc 3 1, 3), (41, .goto (-37), 3), (44, .iload_n 2, 1), (45, .ireturn, 1)]
theorem mc_cdk_46 : mc_cdl_46.all (fun q => decide (decode prog_6_method_10_code q.1 = .ok q.2)) = true := by decide +kernel
def mc_cdl_47 : List (Nat × Instr × Nat) := [(0, .aload_n 0, 1), (1, .getfield 42, 3), (4, .ifCond .eq 12, 3), (7, .aload_n 0, 1), (8, .iconst 0, 1), (9, .iconst 0, 1), (10, .iconst 0, 1), (11, .iconst 0, 1), (12, .invokevirtual 58, 3), (15, .return_, 1), (16, .aload_n 0, 1), (17, .getfield 62, 3), (20, .istore_n 3, 1), (21, .iload_n 3, 1), (22, .aload_n 0, 1), (23, .getfield 65, 3), (26, .if_icmp .gt 69, 3), (29, .aload_n 0, 1), (30, .getfield 68, 3), (33, .istore 4, 2), (35, .iload 4, 2), (37, .aload_n 0, 1), (38, .getfield 71, 3), (41, .if_icmp .gt 48, 3), (44, .iload_n 3, 1), (45, .iload_n 3, 1), (46, .iload 4, 2), (48, .iadd, 1), (49, .invokestatic 74, 3), (52, .aload_n 0, 1), (53, .getfield 39, 3), (56, .ior, 1), (57, .iload_n 1, 1), (58, .iand, 1), (59, .istore 5, 2), (61, .iload 5, 2), (63, .iload_n 2, 1), (64, .iand, 1), (65, .ifCond .ne 18, 3), (68, .aload_n 0, 1), (69, .iload_n 3, 1), (70, .iload 4, 2), (72, .iload 5, 2), (74, .iload_n 1, 1), (75, .iload 5, 2), (77, .iconst (-1), 1), (78, .ixor, 1), (79, .iand, 1), (80, .invokevirtual 58, 3), (83, .iinc 4 1, 3), (86, .goto (-51), 3), (89, .iinc 3 1, 3), (92, .goto (-71), 3), (95, .return_, 1)]
theorem mc_cdk_47 : mc_cdl_47.all (fun q => decide (decode prog_7_method_3_code q.1 = .ok q.2)) = true := by decide +kernel
def mc_cdl_48 : List (Nat × Instr × Nat) := [(0, .aload_n 0, 1), (1, .getfield 49, 3), (4, .bipush 40, 2), (6, .if_icmp .lt 4, 3), (9, .return_, 1), (10, .aload_n 0, 1), (11, .getfield 9, 3), (14, .aload_n 0, 1), (15, .getfield 49, 3), (18, .iload_n 1, 1), (19, .iastore, 1), (20, .aload_n 0, 1), (21, .getfield 15, 3), (24, .aload_n 0, 1), (25, .getfield 49, 3), (28, .iload_n 2, 1), (29, .iastore, 1), (30, .aload_n 0, 1), (31, .getfield 18, 3), (34, .aload_n 0, 1), (35, .getfield 49, 3), (38, .iload_n 3, 1), (39, .iastore, 1), (40, .aload_n 0, 1), (41, .getfield 21, 3), (44, .aload_n 0, 1), (45, .getfield 49, 3), (48, .iload 4, 2), (50, .iastore, 1), (51, .aload_n 0, 1), (52, .getfield 24, 3), (55, .aload_n 0, 1), (56, .getfield 49, 3), (59, .iload 4, 2), (61, .invokestatic 78, 3), (64, .lastore, 1), (65, .aload_n 0, 1), (66, .getfield 28, 3), (69, .aload_n 0, 1), (70, .getfield 49, 3), (73, .iload 4, 2), (75, .bipush 12, 2), (77, .ishr, 1), (78, .invokestatic 78, 3), (81, .lastore, 1), (82, .aload_n 0, 1), (83, .dup, 1), (84, .getfield 49, 3), (87, .iconst 1, 1), (88, .iadd, 1), (89, .putfield 49, 3), (92, .return_, 1)]
theorem mc_cdk_48 : mc_cdl_48.all (fun q => decide (decode prog_7_method_4_code q.1 = .ok q.2)) = true := by decide +kernel
def mc_cdl_49 : List (Nat × Instr × Nat) := [(0, .lconst 0, 1), (1, .lstore_n 1, 1), (2, .iconst 0, 1), (3, .istore_n 3, 1), (4, .iload_n 3, 1), (5, .bipush 12, 2), (7, .if_icmp .ge 22, 3), (10, .lload_n 1, 1), (11, .iload_n 0, 1), (12, .iload_n 3, 1), (13, .ishr, 1), (14, .i2l, 1), (15, .lconst 1, 1), (16, .land, 1), (17, .iload_n 3, 1), (18, .iconst 4, 1), (19, .imul, 1), (20, .lshl, 1), (21, .lor, 1), (22, .lstore_n 1, 1), (23, .iinc 3 1, 3), (26, .goto (-22), 3), (29, .lload_n 1, 1), (30, .lreturn, 1)]
theorem mc_cdk_49 : mc_cdl_49.all (fun q => decide (decode prog_11_method_2_code q.1 = .ok q.2)) = true := by decide +kernel
def mc_cdl_50 : List (Nat × Instr × Nat) := [(0, .aload_n 0, 1), (1, .iconst 0, 1), (2, .putfield 32, 3), (5, .return_, 1)]
theorem mc_cdk_50 : mc_cdl_50.all (fun q => decide (decode prog_4_method_2_code q.1 = .ok q.2)) = true := by decide +kernel
def mc_cdl_51 : List (Nat × Instr × Nat) := [(0, .aload_n 0, 1), (1, .iconst 0, 1), (2, .putfield 102, 3), (5, .iload_n 1, 1), (6, .ireturn, 1)]
theorem mc_cdk_51 : mc_cdl_51.all (fun q => decide (decode prog_1_method_53_code q.1 = .ok q.2)) = true := by decide +kernel
def mc_cdl_52 : List (Nat × Instr × Nat) := [(0, .aload_n 0, 1), (1, .getfield 81, 3), (4, .ireturn, 1)]
theorem mc_cdk_52 : mc_cdl_52.all (fun q => decide (decode prog_1_method_4_code q.1 = .ok q.2)) = true := by decide +kernel
def mc_cdl_53 : List (Nat × Instr × Nat) := [(0, .aload_n 0, 1), (1, .getfield 102, 3), (4, .iconst 4, 1), (5, .if_icmp .ne 10, 3), (8, .aload_n 0, 1), (9, .getfield 87, 3), (12, .goto 4, 3), (15, .iconst (-1), 1), (16, .ireturn, 1)]
theorem mc_cdk_53 : mc_cdl_53.all (fun q => decide (decode prog_1_method_5_code q.1 = .ok q.2)) = true := by decide +kernel
def mc_cdl_54 : List (Nat × Instr × Nat) := [(0, .aload_n 0, 1), (1, .iload_n 1, 1), (2, .invokevirtual 105, 3), (5, .ifCond .ne 9, 3), (8, .aload_n 0, 1), (9, .iconst 1, 1), (10, .invokevirtual 70, 3), (13, .ireturn, 1), (14, .aload_n 0, 1), (15, .aload_n 0, 1), (16, .getfield 51, 3), (19, .getfield 109, 3), (22, .iload_n 1, 1), (23, .aaload, 1), (24, .getfield 113, 3), (27, .invokevirtual 99, 3), (30, .ireturn, 1)]
theorem mc_cdk_54 : mc_cdl_54.all (fun q => decide (decode prog_1_method_6_code q.1 = .ok q.2)) = true := by decide +kernel
def mc_cdl_55 : List (Nat × Instr × Nat) := [(0, .iload_n 1, 1), (1, .ifCond .lt 18, 3), (4, .iload_n 1, 1), (5, .aload_n 0, 1), (6, .getfield 51, 3), (9, .getfield 96, 3), (12, .if_icmp .ge 7, 3), (15, .iconst 1, 1), (16, .goto 4, 3), (19, .iconst 0, 1), (20, .ireturn, 1)]
theorem mc_cdk_55 : mc_cdl_55.all (fun q => decide (decode prog_1_method_57_code q.1 = .ok q.2)) = true := by decide +kernel
def mc_cdl_56 : List (Nat × Instr × Nat) := [(0, .aload_n 0, 1), (1, .iload_n 1, 1), (2, .iload_n 2, 1), (3, .invokevirtual 118, 3), (6, .ifCond .eq 12, 3), (9, .iload_n 3, 1), (10, .ifCond .lt 8, 3), (13, .iload_n 3, 1), (14, .iconst 2, 1), (15, .if_icmp .le 9, 3), (18, .aload_n 0, 1), (19, .iconst 1, 1), (20, .invokevirtual 70, 3), (23, .ireturn, 1), (24, .aload_n 0, 1), (25, .getfield 51, 3), (28, .getfield 109, 3), (31, .iload_n 1, 1), (32, .aaload, 1), (33, .astore 4, 2), (35, .iload_n 3, 1), (36, .iconst 2, 1), (37, .if_icmp .ne 14, 3), (40, .aload_n 0, 1), (41, .aload 4, 2), (43, .iload_n 2, 1), (44, .invokevirtual 122, 3), (47, .invokevirtual 99, 3), (50, .ireturn, 1), (51, .aload_n 0, 1), (52, .iload_n 3, 1), (53, .ifCond .ne 13, 3), (56, .aload 4, 2), (58, .getfield 125, 3), (61, .iload_n 2, 1), (62, .iaload, 1), (63, .goto 10, 3), (66, .aload 4, 2), (68, .getfield 129, 3), (71, .iload_n 2, 1), (72, .iaload, 1), (73, .invokevirtual 99, 3), (76, .ireturn, 1)]
theorem mc_cdk_56 : mc_cdl_56.all (fun q => decide (decode prog_1_method_7_code q.1 = .ok q.2)) = true := by decide +kernel
def mc_cdl_57 : List (Nat × Instr × Nat) := [(0, .aload_n 0, 1), (1, .iload_n 1, 1), (2, .invokevirtual 105, 3), (5, .ifCond .eq 27, 3), (8, .iload_n 2, 1), (9, .ifCond .lt 23, 3), (12, .iload_n 2, 1), (13, .aload_n 0, 1), (14, .getfield 51, 3), (17, .getfield 109, 3), (20, .iload_n 1, 1), (21, .aaload, 1), (22, .getfield 113, 3), (25, .if_icmp .ge 7, 3), (28, .iconst 1, 1), (29, .goto 4, 3), (32, .iconst 0, 1), (33, .ireturn, 1)]
theorem mc_cdk_57 : mc_cdl_57.all (fun q => decide (decode prog_1_method_58_code q.1 = .ok q.2)) = true := by decide +kernel
def mc_cdl_58 : List (Nat × Instr × Nat) := [(0, .aload_n 0, 1), (1, .getfield 35, 3), (4, .iconst (-1), 1), (5, .if_icmp .ne 5, 3), (8, .iconst 1, 1), (9, .ireturn, 1), (10, .iconst 1, 1), (11, .bipush 10, 2), (13, .aload_n 0, 1), (14, .getfield 9, 3), (17, .iload_n 1, 1), (18, .iaload, 1), (19, .aload_n 0, 1), (20, .getfield 35, 3), (23, .isub, 1), (24, .invokestatic 84, 3), (27, .isub, 1), (28, .invokestatic 90, 3), (31, .ireturn, 1)]
theorem mc_cdk_58 : mc_cdl_58.all (fun q => decide (decode prog_7_method_5_code q.1 = .ok q.2)) = true := by decide +kernel
def mc_cdl_59 : List (Nat × Instr × Nat) := [(0, .aload_n 0, 1), (1, .iload_n 1, 1), (2, .iload_n 2, 1), (3, .invokevirtual 118, 3), (6, .ifCond .eq 11, 3), (9, .aload_n 0, 1), (10, .iload_n 3, 1), (11, .invokevirtual 132, 3), (14, .ifCond .ne 9, 3), (17, .aload_n 0, 1), (18, .iconst 1, 1), (19, .invokevirtual 70, 3), (22, .ireturn, 1), (23, .aload_n 0, 1), (24, .aload_n 0, 1), (25, .getfield 51, 3), (28, .getfield 109, 3), (31, .iload_n 1, 1), (32, .aaload, 1), (33, .getfield 135, 3), (36, .iload_n 2, 1), (37, .iaload, 1), (38, .iload_n 3, 1), (39, .invokestatic 138, 3), (42, .ifCond .eq 7, 3), (45, .iconst 1, 1), (46, .goto 4, 3), (49, .iconst 0, 1), (50, .invokevirtual 99, 3), (53, .ireturn, 1)]
theorem mc_cdk_59 : mc_cdl_59.all (fun q => decide (decode prog_1_method_8_code q.1 = .ok q.2)) = true := by decide +kernel
def mc_cdl_60 : List (Nat × Instr × Nat) := [(0, .iload_n 1, 1), (1, .ifCond .lt 18, 3), (4, .iload_n 1, 1), (5, .aload_n 0, 1), (6, .getfield 51, 3), (9, .getfield 339, 3), (12, .if_icmp .ge 7, 3), (15, .iconst 1, 1), (16, .goto 4, 3), (19, .iconst 0, 1), (20, .ireturn, 1)]
theorem mc_cdk_60 : mc_cdl_60.all (fun q => decide (decode prog_1_method_59_code q.1 = .ok q.2)) = true := by decide +kernel
def mc_cdl_61 : List (Nat × Instr × Nat) := [(0, .aload_n 0, 1), (1, .getfield 58, 3), (4, .ifCond .ne 10, 3), (7, .aload_n 0, 1), (8, .iconst 1, 1), (9, .invokevirtual 70, 3), (12, .i2l, 1), (13, .lreturn, 1), (14, .aload_n 0, 1), (15, .iconst 0, 1), (16, .putfield 102, 3), (19, .aload_n 0, 1), (20, .getfield 51, 3), (23, .getfield 141, 3), (26, .lreturn, 1)]
theorem mc_cdk_61 : mc_cdl_61.all (fun q => decide (decode prog_1_method_9_code q.1 = .ok q.2)) = true := by decide +kernel
def mc_cdl_62 : List (Nat × Instr × Nat) := [(0, .aload_n 0, 1), (1, .iload_n 1, 1), (2, .iload_n 2, 1), (3, .invokevirtual 118, 3), (6, .ifCond .ne 9, 3), (9, .aload_n 0, 1), (10, .iconst 1, 1), (11, .invokevirtual 145, 3), (14, .ireturn, 1), (15, .aload_n 0, 1), (16, .getfield 51, 3), (19, .getfield 109, 3), (22, .iload_n 1, 1), (23, .aaload, 1), (24, .iload_n 2, 1), (25, .putfield 148, 3), (28, .aload_n 0, 1), (29, .invokevirtual 151, 3), (32, .ireturn, 1)]
theorem mc_cdk_62 : mc_cdl_62.all (fun q => decide (decode prog_1_method_10_code q.1 = .ok q.2)) = true := by decide +kernel
def mc_cdl_63 : List (Nat × Instr × Nat) := [(0, .aload_n 0, 1), (1, .iload_n 1, 1), (2, .putfield 102, 3), (5, .iconst 0, 1), (6, .ireturn, 1)]
theorem mc_cdk_63 : mc_cdl_63.all (fun q => decide (decode prog_1_method_56_code q.1 = .ok q.2)) = true := by decide +kernel
def mc_cdl_64 : List (Nat × Instr × Nat) := [(0, .aload_n 0, 1), (1, .iconst 0, 1), (2, .putfield 102, 3), (5, .iconst 1, 1), (6, .ireturn, 1)]
theorem mc_cdk_64 : mc_cdl_64.all (fun q => decide (decode prog_1_method_55_code q.1 = .ok q.2)) = true := by decide +kernel
def mc_cdl_65 : List (Nat × Instr × Nat) := [(0, .aload_n 0, 1), (1, .iload_n 1, 1), (2, .invokevirtual 105, 3), (5, .ifCond .eq 18, 3), (8, .aload_n 0, 1), (9, .getfield 51, 3), (12, .getfield 109, 3), (15, .iload_n 1, 1), (16, .aaload, 1), (17, .getfield 113, 3), (20, .ifCond .ne 9, 3), (23, .aload_n 0, 1), (24, .iconst 1, 1), (25, .invokevirtual 70, 3), (28, .ireturn, 1), (29, .aload_n 0, 1), (30, .aload_n 0, 1), (31, .getfield 51, 3), (34, .getfield 109, 3), (37, .iload_n 1, 1), (38, .aaload, 1), (39, .getfield 148, 3), (42, .invokevirtual 99, 3), (45, .ireturn, 1)]
theorem mc_cdk_65 : mc_cdl_65.all (fun q => decide (decode prog_1_method_11_code q.1 = .ok q.2)) = true := by decide +kernel
def mc_cdl_66 : List (Nat × Instr × Nat) := [(0, .aload_n 0, 1), (1, .aload_n 0, 1), (2, .iload_n 1, 1), (3, .invokevirtual 132, 3), (6, .invokevirtual 155, 3), (9, .istore_n 2, 1), (10, .iload_n 2, 1), (11, .ifCond .eq 9, 3), (14, .aload_n 0, 1), (15, .iload_n 2, 1), (16, .invokevirtual 70, 3), (19, .ireturn, 1), (20, .aload_n 0, 1), (21, .aload_n 0, 1), (22, .getfield 23, 3), (25, .iload_n 1, 1), (26, .invokevirtual 159, 3), (29, .invokevirtual 99, 3), (32, .ireturn, 1)]
theorem mc_cdk_66 : mc_cdl_66.all (fun q => decide (decode prog_1_method_12_code q.1 = .ok q.2)) = true := by decide +kernel
def mc_cdl_67 : List (Nat × Instr × Nat) := [(0, .iload_n 1, 1), (1, .ifCond .ne 5, 3), (4, .iconst 1, 1), (5, .ireturn, 1), (6, .aload_n 0, 1), (7, .getfield 51, 3), (10, .getfield 141, 3), (13, .lconst 0, 1), (14, .lcmp, 1), (15, .ifCond .ne 5, 3), (18, .iconst 5, 1), (19, .ireturn, 1), (20, .aload_n 0, 1), (21, .getfield 23, 3), (24, .aload_n 0, 1), (25, .getfield 51, 3), (28, .invokevirtual 345, 3), (31, .iconst 0, 1), (32, .ireturn, 1)]
theorem mc_cdk_67 : mc_cdl_67.all (fun q => decide (decode prog_1_method_61_code q.1 = .ok q.2)) = true := by decide +kernel
def mc_cdl_68 : List (Nat × Instr × Nat) := [(0, .iconst 0, 1), (1, .istore_n 2, 1), (2, .iload_n 2, 1), (3, .aload_n 1, 1), (4, .getfield 36, 3), (7, .if_icmp .ge 24, 3), (10, .aload_n 0, 1), (11, .getfield 9, 3), (14, .iload_n 2, 1), (15, .aload_n 1, 1), (16, .getfield 42, 3), (19, .iload_n 2, 1), (20, .aaload, 1), (21, .getfield 46, 3), (24, .iastore, 1), (25, .iinc 2 1, 3), (28, .goto (-26), 3), (31, .aload_n 0, 1), (32, .aload_n 1, 1), (33, .invokevirtual 28, 3), (36, .aload_n 0, 1), (37, .aload_n 1, 1), (38, .iconst 0, 1), (39, .invokevirtual 32, 3), (42, .return_, 1)]
theorem mc_cdk_68 : mc_cdl_68.all (fun q => decide (decode prog_11_method_4_code q.1 = .ok q.2)) = true := by decide +kernel
def mc_cdl_69 : List (Nat × Instr × Nat) := [(0, .aload_n 0, 1), (1, .aload_n 1, 1), (2, .getfield 36, 3), (5, .putfield 51, 3), (8, .aload_n 0, 1), (9, .getfield 15, 3), (12, .iconst 0, 1), (13, .lconst 0, 1), (14, .lastore, 1), (15, .aload_n 0, 1), (16, .getfield 19, 3), (19, .iconst 0, 1), (20, .lconst 0, 1), (21, .lastore, 1), (22, .aload_n 0, 1), (23, .getfield 22, 3), (26, .iconst 0, 1), (27, .iconst 0, 1), (28, .iastore, 1), (29, .iconst 0, 1), (30, .istore_n 2, 1), (31, .iload_n 2, 1), (32, .aload_n 1, 1), (33, .getfield 55, 3), (36, .if_icmp .ge 60, 3), (39, .aload_n 1, 1), (40, .getfield 58, 3), (43, .iload_n 2, 1), (44, .iaload, 1), (45, .bipush 24, 2), (47, .invokestatic 61, 3), (50, .istore_n 3, 1), (51, .aload_n 0, 1), (52, .getfield 15, 3), (55, .iconst 0, 1), (56, .dup2, 1), (57, .laload, 1), (58, .iload_n 3, 1), (59, .invokestatic 65, 3), (62, .ladd, 1), (63, .lastore, 1), (64, .aload_n 0, 1), (65, .getfield 19, 3), (68, .iconst 0, 1), (69, .dup2, 1), (70, .laload, 1), (71, .iload_n 3, 1), (72, .bipush 12, 2), (74, .ishr, 1), (75, .invokestatic 65, 3), (78, .ladd, 1), (79, .lastore, 1), (80, .aload_n 0, 1), (81, .getfield 22, 3), (84, .iconst 0, 1), (85, .dup2, 1), (86, .iaload, 1), (87, .iload_n 3, 1), (88, .ior, 1), (89, .iastore, 1), (90, .iinc 2 1, 3), (93, .goto (-62), 3), (96, .return_, 1)]
theorem mc_cdk_69 : mc_cdl_69.all (fun q => decide (decode prog_11_method_6_code q.1 = .ok q.2)) = true := by decide +kernel
def mc_cdl_70 : List (Nat × Instr × Nat) := [(0, .iload_n 2, 1), (1, .istore_n 3, 1), (2, .iload_n 3, 1), (3, .aload_n 0, 1), (4, .getfield 51, 3), (7, .if_icmp .ge 115, 3), (10, .aload_n 1, 1), (11, .getfield 42, 3), (14, .iload_n 3, 1), (15, .aaload, 1), (16, .astore 4, 2), (18, .aload_n 0, 1), (19, .getfield 9, 3), (22, .iload_n 3, 1), (23, .iaload, 1), (24, .istore 5, 2), (26, .aload_n 0, 1), (27, .getfield 15, 3), (30, .iload_n 3, 1), (31, .iconst 1, 1), (32, .iadd, 1), (33, .aload_n 0, 1), (34, .getfield 15, 3), (37, .iload_n 3, 1), (38, .laload, 1), (39, .aload 4, 2), (41, .getfield 69, 3), (44, .iload 5, 2), (46, .laload, 1), (47, .ladd, 1), (48, .lastore, 1), (49, .aload_n 0, 1), (50, .getfield 19, 3), (53, .iload_n 3, 1), (54, .iconst 1, 1), (55, .iadd, 1), (56, .aload_n 0, 1), (57, .getfield 19, 3), (60, .iload_n 3, 1), (61, .laload, 1), (62, .aload 4, 2), (64, .getfield 72, 3), (67, .iload 5, 2), (69, .laload, 1), (70, .ladd, 1), (71, .lastore, 1), (72, .aload_n 0, 1), (73, .getfield 22, 3), (76, .iload_n 3, 1), (77, .iconst 1, 1), (78, .iadd, 1), (79, .aload_n 0, 1), (80, .getfield 22, 3), (83, .iload_n 3, 1), (84, .iaload, 1), (85, .aload 4, 2), (87, .getfield 75, 3), (90, .iload 5, 2), (92, .iaload, 1), (93, .ior, 1), (94, .iastore, 1), (95, .aload_n 0, 1), (96, .getfield 25, 3), (99, .iload_n 3, 1), (100, .iconst 1, 1), (101, .iadd, 1), (102, .aload_n 0, 1), (103, .getfield 25, 3), (106, .iload_n 3, 1), (107, .iaload, 1), (108, .aload_n 0, 1), (109, .aload_n 1, 1), (110, .iload_n 3, 1), (111, .invokevirtual 78, 3), (114, .ior, 1), (115, .iastore, 1), (116, .iinc 3 1, 3), (119, .goto (-117), 3), (122, .return_, 1)]
theorem mc_cdk_70 : mc_cdl_70.all (fun q => decide (decode prog_11_method_7_code q.1 = .ok q.2)) = true := by decide +kernel
def mc_cdl_71 : List (Nat × Instr × Nat) := [(0, .aload_n 1, 1), (1, .getfield 42, 3), (4, .iload_n 2, 1), (5, .aaload, 1), (6, .getfield 82, 3), (9, .istore_n 3, 1), (10, .aload_n 1, 1), (11, .getfield 42, 3), (14, .iload_n 2, 1), (15, .aaload, 1), (16, .getfield 85, 3), (19, .aload_n 0, 1), (20, .getfield 9, 3), (23, .iload_n 2, 1), (24, .iaload, 1), (25, .iaload, 1), (26, .istore 4, 2), (28, .iconst 0, 1), (29, .istore 5, 2), (31, .iconst 0, 1), (32, .istore 6, 2), (34, .iload 6, 2), (36, .iload_n 2, 1), (37, .if_icmp .ge 48, 3), (40, .iload_n 3, 1), (41, .ifCond .eq 44, 3), (44, .iload_n 3, 1), (45, .iload 6, 2), (47, .ishr, 1), (48, .iconst 1, 1), (49, .iand, 1), (50, .ifCond .eq 29, 3), (53, .iload 5, 2), (55, .iload 4, 2), (57, .aload_n 1, 1), (58, .getfield 42, 3), (61, .iload 6, 2), (63, .aaload, 1), (64, .getfield 85, 3), (67, .aload_n 0, 1), (68, .getfield 9, 3), (71, .iload 6, 2), (73, .iaload, 1), (74, .iaload, 1), (75, .iand, 1), (76, .ior, 1), (77, .istore 5, 2), (79, .iinc 6 1, 3), (82, .goto (-48), 3), (85, .iload 5, 2), (87, .ireturn, 1)]
theorem mc_cdk_71 : mc_cdl_71.all (fun q => decide (decode prog_11_method_8_code q.1 = .ok q.2)) = true := by decide +kernel
def mc_cdl_72 : List (Nat × Instr × Nat) := [(0, .iload_n 1, 1), (1, .bipush 12, 2), (3, .if_icmp .ge 7, 3), (6, .iconst 1, 1), (7, .goto 4, 3), (10, .iconst 0, 1), (11, .istore_n 2, 1), (12, .iload_n 2, 1), (13, .ifCond .eq 15, 3), (16, .aload_n 0, 1), (17, .getfield 15, 3), (20, .aload_n 0, 1), (21, .getfield 51, 3), (24, .laload, 1), (25, .goto 12, 3), (28, .aload_n 0, 1), (29, .getfield 19, 3), (32, .aload_n 0, 1), (33, .getfield 51, 3), (36, .laload, 1), (37, .lstore_n 3, 1), (38, .iload_n 2, 1), (39, .ifCond .eq 7, 3), (42, .iload_n 1, 1), (43, .goto 7, 3), (46, .iload_n 1, 1), (47, .bipush 12, 2), (49, .isub, 1), (50, .istore 5, 2), (52, .lload_n 3, 1), (53, .iload 5, 2), (55, .iconst 4, 1), (56, .imul, 1), (57, .lshr, 1), (58, .l2i, 1), (59, .bipush 15, 2), (61, .iand, 1), (62, .ireturn, 1)]
theorem mc_cdk_72 : mc_cdl_72.all (fun q => decide (decode prog_11_method_12_code q.1 = .ok q.2)) = true := by decide +kernel
def mc_cdl_73 : List (Nat × Instr × Nat) := [(0, .aload_n 0, 1), (1, .aload_n 0, 1), (2, .getfield 58, 3), (5, .invokevirtual 155, 3), (8, .istore_n 1, 1), (9, .iload_n 1, 1), (10, .ifCond .eq 9, 3), (13, .aload_n 0, 1), (14, .iload_n 1, 1), (15, .invokevirtual 70, 3), (18, .ireturn, 1), (19, .aload_n 0, 1), (20, .aload_n 0, 1), (21, .getfield 23, 3), (24, .aload_n 0, 1), (25, .getfield 51, 3), (28, .invokevirtual 162, 3), (31, .invokevirtual 99, 3), (34, .ireturn, 1)]
theorem mc_cdk_73 : mc_cdl_73.all (fun q => decide (decode prog_1_method_13_code q.1 = .ok q.2)) = true := by decide +kernel
end
section
/-! the methods' instructions, each as decode reads it (own work, wip/gen/codes.py) -/
def mc_cdl_74 : List (Nat × Instr × Nat) := [(0, .iconst 0, 1), (1, .istore_n 2, 1), (2, .iload_n 2, 1), (3, .aload_n 1, 1), (4, .getfield 103, 3), (7, .if_icmp .ge 20, 3), (10, .aload_n 0, 1), (11, .aload_n 1, 1), (12, .iload_n 2, 1), (13, .invokevirtual 106, 3), (16, .ifCond .eq 5, 3), (19, .iload_n 2, 1), (20, .ireturn, 1), (21, .iinc 2 1, 3), (24, .goto (-22), 3), (27, .bipush (-2), 2), (29, .ireturn, 1)]
theorem mc_cdk_74 : mc_cdl_74.all (fun q => decide (decode prog_11_method_14_code q.1 = .ok q.2)) = true := by decide +kernel
def mc_cdl_75 : List (Nat × Instr × Nat) := [(0, .aload_n 1, 1), (1, .iload_n 2, 1), (2, .aload_n 0, 1), (3, .iload_n 2, 1), (4, .invokevirtual 92, 3), (7, .invokevirtual 96, 3), (10, .ifCond .eq 5, 3), (13, .iconst 1, 1), (14, .ireturn, 1), (15, .aload_n 0, 1), (16, .getfield 25, 3), (19, .aload_n 0, 1), (20, .getfield 51, 3), (23, .iaload, 1), (24, .iload_n 2, 1), (25, .invokestatic 99, 3), (28, .ifCond .eq 7, 3), (31, .iconst 2, 1), (32, .goto 4, 3), (35, .iconst 0, 1), (36, .ireturn, 1)]
theorem mc_cdk_75 : mc_cdl_75.all (fun q => decide (decode prog_11_method_13_code q.1 = .ok q.2)) = true := by decide +kernel
def mc_cdl_76 : List (Nat × Instr × Nat) := [(0, .aload_n 0, 1), (1, .getfield 17, 3), (4, .iload_n 1, 1), (5, .iaload, 1), (6, .istore_n 3, 1), (7, .iload_n 3, 1), (8, .ifCond .lt 18, 3), (11, .iload_n 3, 1), (12, .iload_n 2, 1), (13, .if_icmp .lt 15, 3), (16, .iload_n 3, 1), (17, .iload_n 2, 1), (18, .aload_n 0, 1), (19, .getfield 44, 3), (22, .iadd, 1), (23, .if_icmp .gt 5, 3), (26, .iconst 0, 1), (27, .ireturn, 1), (28, .iload_n 3, 1), (29, .iload_n 2, 1), (30, .iconst 1, 1), (31, .isub, 1), (32, .if_icmp .eq 15, 3), (35, .iload_n 3, 1), (36, .iload_n 2, 1), (37, .aload_n 0, 1), (38, .getfield 44, 3), (41, .iadd, 1), (42, .iconst 1, 1), (43, .iadd, 1), (44, .if_icmp .ne 7, 3), (47, .iconst 1, 1), (48, .goto 4, 3), (51, .iconst 2, 1), (52, .ireturn, 1)]
theorem mc_cdk_76 : mc_cdl_76.all (fun q => decide (decode prog_6_method_11_code q.1 = .ok q.2)) = true := by decide +kernel
def mc_cdl_77 : List (Nat × Instr × Nat) := [(0, .aload_n 0, 1), (1, .aload_n 0, 1), (2, .getfield 58, 3), (5, .invokevirtual 155, 3), (8, .istore_n 1, 1), (9, .iload_n 1, 1), (10, .ifCond .eq 9, 3), (13, .aload_n 0, 1), (14, .iload_n 1, 1), (15, .invokevirtual 70, 3), (18, .ireturn, 1), (19, .aload_n 0, 1), (20, .getfield 23, 3), (23, .aload_n 0, 1), (24, .getfield 51, 3), (27, .invokevirtual 162, 3), (30, .istore_n 2, 1), (31, .aload_n 0, 1), (32, .iload_n 2, 1), (33, .ifCond .ge 7, 3), (36, .iconst 0, 1), (37, .goto 15, 3), (40, .aload_n 0, 1), (41, .getfield 23, 3), (44, .aload_n 0, 1), (45, .getfield 51, 3), (48, .iload_n 2, 1), (49, .invokevirtual 166, 3), (52, .invokevirtual 99, 3), (55, .ireturn, 1)]
theorem mc_cdk_77 : mc_cdl_77.all (fun q => decide (decode prog_1_method_14_code q.1 = .ok q.2)) = true := by decide +kernel
def mc_cdl_78 : List (Nat × Instr × Nat) := [(0, .aload_n 0, 1), (1, .aload_n 0, 1), (2, .getfield 58, 3), (5, .invokevirtual 155, 3), (8, .istore_n 1, 1), (9, .iload_n 1, 1), (10, .ifCond .eq 9, 3), (13, .aload_n 0, 1), (14, .iload_n 1, 1), (15, .invokevirtual 70, 3), (18, .ireturn, 1), (19, .aload_n 0, 1), (20, .aload_n 0, 1), (21, .getfield 23, 3), (24, .aload_n 0, 1), (25, .getfield 51, 3), (28, .invokevirtual 170, 3), (31, .ifCond .eq 7, 3), (34, .iconst 1, 1), (35, .goto 4, 3), (38, .iconst 0, 1), (39, .invokevirtual 99, 3), (42, .ireturn, 1)]
theorem mc_cdk_78 : mc_cdl_78.all (fun q => decide (decode prog_1_method_15_code q.1 = .ok q.2)) = true := by decide +kernel
def mc_cdl_79 : List (Nat × Instr × Nat) := [(0, .aload_n 0, 1), (1, .invokevirtual 118, 3), (4, .ifCond .ne 17, 3), (7, .aload_n 0, 1), (8, .aload_n 1, 1), (9, .invokevirtual 122, 3), (12, .bipush 24, 2), (14, .if_icmp .ne 7, 3), (17, .iconst 1, 1), (18, .goto 4, 3), (21, .iconst 0, 1), (22, .ireturn, 1)]
theorem mc_cdk_79 : mc_cdl_79.all (fun q => decide (decode prog_11_method_16_code q.1 = .ok q.2)) = true := by decide +kernel
def mc_cdl_80 : List (Nat × Instr × Nat) := [(0, .aload_n 0, 1), (1, .getfield 25, 3), (4, .aload_n 0, 1), (5, .getfield 51, 3), (8, .iaload, 1), (9, .ifCond .eq 7, 3), (12, .iconst 1, 1), (13, .goto 4, 3), (16, .iconst 0, 1), (17, .ireturn, 1)]
theorem mc_cdk_80 : mc_cdl_80.all (fun q => decide (decode prog_11_method_10_code q.1 = .ok q.2)) = true := by decide +kernel
def mc_cdl_81 : List (Nat × Instr × Nat) := [(0, .iconst 0, 1), (1, .istore_n 2, 1), (2, .iconst 0, 1), (3, .istore_n 3, 1), (4, .iload_n 3, 1), (5, .aload_n 1, 1), (6, .getfield 109, 3), (9, .if_icmp .ge 57, 3), (12, .aload_n 1, 1), (13, .getfield 112, 3), (16, .iload_n 3, 1), (17, .iaload, 1), (18, .istore 4, 2), (20, .aload_n 1, 1), (21, .iload 4, 2), (23, .aload_n 0, 1), (24, .iload 4, 2), (26, .invokevirtual 92, 3), (29, .invokevirtual 96, 3), (32, .istore 5, 2), (34, .iload 5, 2), (36, .iconst 1, 1), (37, .if_icmp .ne 6, 3), (40, .iinc 2 1, 3), (43, .iload 5, 2), (45, .iconst 2, 1), (46, .if_icmp .eq 11, 3), (49, .iload_n 2, 1), (50, .aload_n 1, 1), (51, .getfield 115, 3), (54, .if_icmp .le 6, 3), (57, .iload 4, 2), (59, .ireturn, 1), (60, .iinc 3 1, 3), (63, .goto (-59), 3), (66, .bipush 24, 2), (68, .ireturn, 1)]
theorem mc_cdk_81 : mc_cdl_81.all (fun q => decide (decode prog_11_method_15_code q.1 = .ok q.2)) = true := by decide +kernel
def mc_cdl_82 : List (Nat × Instr × Nat) := [(0, .aload_n 0, 1), (1, .aload_n 0, 1), (2, .getfield 58, 3), (5, .invokevirtual 174, 3), (8, .istore_n 1, 1), (9, .iload_n 1, 1), (10, .ifCond .eq 9, 3), (13, .aload_n 0, 1), (14, .iload_n 1, 1), (15, .invokevirtual 70, 3), (18, .ireturn, 1), (19, .aload_n 0, 1), (20, .aload_n 0, 1), (21, .getfield 30, 3), (24, .getfield 177, 3), (27, .invokevirtual 99, 3), (30, .ireturn, 1)]
theorem mc_cdk_82 : mc_cdl_82.all (fun q => decide (decode prog_1_method_16_code q.1 = .ok q.2)) = true := by decide +kernel
def mc_cdl_83 : List (Nat × Instr × Nat) := [(0, .aload_n 0, 1), (1, .iload_n 1, 1), (2, .invokevirtual 245, 3), (5, .istore_n 2, 1), (6, .iload_n 2, 1), (7, .ifCond .ne 18, 3), (10, .aload_n 0, 1), (11, .getfield 30, 3), (14, .aload_n 0, 1), (15, .getfield 51, 3), (18, .aload_n 0, 1), (19, .getfield 23, 3), (22, .invokevirtual 254, 3), (25, .iload_n 2, 1), (26, .ireturn, 1)]
theorem mc_cdk_83 : mc_cdl_83.all (fun q => decide (decode prog_1_method_63_code q.1 = .ok q.2)) = true := by decide +kernel
def mc_cdl_84 : List (Nat × Instr × Nat) := [(0, .iload_n 1, 1), (1, .ifCond .ne 5, 3), (4, .iconst 1, 1), (5, .ireturn, 1), (6, .aload_n 0, 1), (7, .getfield 51, 3), (10, .getfield 141, 3), (13, .ldc2_w 348, 3), (16, .lcmp, 1), (17, .ifCond .le 7, 3), (20, .iconst 3, 1), (21, .goto 4, 3), (24, .iconst 0, 1), (25, .ireturn, 1)]
theorem mc_cdk_84 : mc_cdl_84.all (fun q => decide (decode prog_1_method_62_code q.1 = .ok q.2)) = true := by decide +kernel
def mc_cdl_85 : List (Nat × Instr × Nat) := [(0, .aload_n 0, 1), (1, .getfield 32, 3), (4, .ifCond .eq 4, 3), (7, .return_, 1), (8, .aload_n 0, 1), (9, .invokevirtual 36, 3), (12, .aload_n 2, 1), (13, .aload_n 1, 1), (14, .invokevirtual 39, 3), (17, .iconst 0, 1), (18, .istore_n 3, 1), (19, .iload_n 3, 1), (20, .i2l, 1), (21, .aload_n 1, 1), (22, .getfield 45, 3), (25, .lcmp, 1), (26, .ifCond .ge 36, 3), (29, .iload_n 3, 1), (30, .sipush 20000, 3), (33, .if_icmp .ge 29, 3), (36, .aload_n 2, 1), (37, .aload_n 1, 1), (38, .invokevirtual 51, 3), (41, .ifCond .eq 10, 3), (44, .aload_n 0, 1), (45, .aload_n 1, 1), (46, .aload_n 2, 1), (47, .iload_n 3, 1), (48, .invokevirtual 55, 3), (51, .aload_n 2, 1), (52, .aload_n 1, 1), (53, .invokevirtual 59, 3), (56, .iinc 3 1, 3), (59, .goto (-40), 3), (62, .aload_n 0, 1), (63, .iconst 1, 1), (64, .putfield 32, 3), (67, .return_, 1)]
theorem mc_cdk_85 : mc_cdl_85.all (fun q => decide (decode prog_4_method_3_code q.1 = .ok q.2)) = true := by decide +kernel
def mc_cdl_86 : List (Nat × Instr × Nat) := [(0, .iconst 0, 1), (1, .istore_n 1, 1), (2, .iload_n 1, 1), (3, .aload_n 0, 1), (4, .getfield 11, 3), (7, .arraylength, 1), (8, .if_icmp .ge 16, 3), (11, .aload_n 0, 1), (12, .getfield 11, 3), (15, .iload_n 1, 1), (16, .lconst 0, 1), (17, .lastore, 1), (18, .iinc 1 1, 3), (21, .goto (-19), 3), (24, .iconst 0, 1), (25, .istore_n 1, 1), (26, .iload_n 1, 1), (27, .bipush 6, 2), (29, .if_icmp .ge 41, 3), (32, .iconst 0, 1), (33, .istore_n 2, 1), (34, .iload_n 2, 1), (35, .bipush 40, 2), (37, .if_icmp .ge 27, 3), (40, .aload_n 0, 1), (41, .getfield 17, 3), (44, .iload_n 1, 1), (45, .aaload, 1), (46, .iload_n 2, 1), (47, .iconst 0, 1), (48, .iastore, 1), (49, .aload_n 0, 1), (50, .getfield 22, 3), (53, .iload_n 1, 1), (54, .aaload, 1), (55, .iload_n 2, 1), (56, .lconst 0, 1), (57, .lastore, 1), (58, .iinc 2 1, 3), (61, .goto (-27), 3), (64, .iinc 1 1, 3), (67, .goto (-41), 3), (70, .aload_n 0, 1), (71, .iconst 0, 1), (72, .putfield 62, 3), (75, .aload_n 0, 1), (76, .lconst 0, 1), (77, .putfield 66, 3), (80, .aload_n 0, 1), (81, .iconst 0, 1), (82, .putfield 69, 3), (85, .aload_n 0, 1), (86, .lconst 0, 1), (87, .putfield 72, 3), (90, .return_, 1)]
theorem mc_cdk_86 : mc_cdl_86.all (fun q => decide (decode prog_4_method_4_code q.1 = .ok q.2)) = true := by decide +kernel
def mc_cdl_87 : List (Nat × Instr × Nat) := [(0, .iconst 0, 1), (1, .istore_n 2, 1), (2, .iload_n 2, 1), (3, .bipush 6, 2), (5, .if_icmp .ge 16, 3), (8, .aload_n 0, 1), (9, .getfield 9, 3), (12, .iload_n 2, 1), (13, .iconst 0, 1), (14, .iastore, 1), (15, .iinc 2 1, 3), (18, .goto (-16), 3), (21, .aload_n 0, 1), (22, .aload_n 1, 1), (23, .invokevirtual 28, 3), (26, .aload_n 0, 1), (27, .aload_n 1, 1), (28, .iconst 0, 1), (29, .invokevirtual 32, 3), (32, .return_, 1)]
theorem mc_cdk_87 : mc_cdl_87.all (fun q => decide (decode prog_11_method_3_code q.1 = .ok q.2)) = true := by decide +kernel
def mc_cdl_88 : List (Nat × Instr × Nat) := [(0, .lconst 1, 1), (1, .lstore 4, 2), (3, .iconst 0, 1), (4, .istore 6, 2), (6, .iload 6, 2), (8, .aload_n 1, 1), (9, .getfield 75, 3), (12, .if_icmp .ge 31, 3), (15, .lload 4, 2), (17, .aload_n 1, 1), (18, .getfield 78, 3), (21, .iload 6, 2), (23, .aaload, 1), (24, .aload_n 2, 1), (25, .iload 6, 2), (27, .invokevirtual 82, 3), (30, .invokevirtual 86, 3), (33, .i2l, 1), (34, .lmul, 1), (35, .lstore 4, 2), (37, .iinc 6 1, 3), (40, .goto (-34), 3), (43, .iconst 0, 1), (44, .istore 6, 2), (46, .iload 6, 2), (48, .aload_n 1, 1), (49, .getfield 75, 3), (52, .if_icmp .ge 46, 3), (55, .aload_n 0, 1), (56, .getfield 17, 3), (59, .iload 6, 2), (61, .aaload, 1), (62, .aload_n 2, 1), (63, .iload 6, 2), (65, .invokevirtual 82, 3), (68, .dup2, 1), (69, .iaload, 1), (70, .iconst 1, 1), (71, .iadd, 1), (72, .iastore, 1), (73, .aload_n 0, 1), (74, .getfield 22, 3), (77, .iload 6, 2), (79, .aaload, 1), (80, .aload_n 2, 1), (81, .iload 6, 2), (83, .invokevirtual 82, 3), (86, .dup2, 1), (87, .laload, 1), (88, .lload 4, 2), (90, .ladd, 1), (91, .lastore, 1), (92, .iinc 6 1, 3), (95, .goto (-49), 3), (98, .iconst 0, 1), (99, .istore 6, 2), (101, .iload 6, 2), (103, .aload_n 1, 1), (104, .getfield 91, 3), (107, .if_icmp .ge 31, 3), (110, .aload_n 0, 1), (111, .aload_n 1, 1), (112, .getfield 94, 3), (115, .iload 6, 2), (117, .iaload, 1), (118, .aload_n 2, 1), (119, .aload_n 1, 1), (120, .getfield 94, 3), (123, .iload 6, 2), (125, .iaload, 1), (126, .invokevirtual 97, 3), (129, .invokevirtual 100, 3), (132, .iinc 6 1, 3), (135, .goto (-34), 3), (138, .aload_n 0, 1), (139, .getfield 11, 3), (142, .iload_n 3, 1), (143, .bipush 64, 2), (145, .idiv, 1), (146, .dup2, 1), (147, .laload, 1), (148, .lconst 1, 1), (149, .iload_n 3, 1), (150, .bipush 64, 2), (152, .irem, 1), (153, .lshl, 1), (154, .lor, 1), (155, .lastore, 1), (156, .aload_n 0, 1), (157, .dup, 1), (158, .getfield 62, 3), (161, .iconst 1, 1), (162, .iadd, 1), (163, .putfield 62, 3), (166, .aload_n 0, 1), (167, .dup, 1), (168, .getfield 66, 3), (171, .lload 4, 2), (173, .ladd, 1), (174, .putfield 66, 3), (177, .lload 4, 2), (179, .aload_n 0, 1), (180, .getfield 72, 3), (183, .lcmp, 1), (184, .ifCond .le 14, 3), (187, .aload_n 0, 1), (188, .lload 4, 2), (190, .putfield 72, 3), (193, .aload_n 0, 1), (194, .iload_n 3, 1), (195, .putfield 69, 3), (198, .return_, 1)]
theorem mc_cdk_88 : mc_cdl_88.all (fun q => decide (decode prog_4_method_5_code q.1 = .ok q.2)) = true := by decide +kernel
def mc_cdl_89 : List (Nat × Instr × Nat) := [(0, .aload_n 0, 1), (1, .getfield 9, 3), (4, .iload_n 1, 1), (5, .iaload, 1), (6, .ireturn, 1)]
theorem mc_cdk_89 : mc_cdl_89.all (fun q => decide (decode prog_11_method_9_code q.1 = .ok q.2)) = true := by decide +kernel
def mc_cdl_90 : List (Nat × Instr × Nat) := [(0, .aload_n 0, 1), (1, .getfield 25, 3), (4, .iload_n 1, 1), (5, .aload_n 0, 1), (6, .getfield 62, 3), (9, .ifCond .ne 7, 3), (12, .iload_n 2, 1), (13, .goto 13, 3), (16, .aload_n 0, 1), (17, .getfield 25, 3), (20, .iload_n 1, 1), (21, .iaload, 1), (22, .iload_n 2, 1), (23, .invokestatic 104, 3), (26, .iastore, 1), (27, .aload_n 0, 1), (28, .getfield 29, 3), (31, .iload_n 1, 1), (32, .aload_n 0, 1), (33, .getfield 62, 3), (36, .ifCond .ne 7, 3), (39, .iload_n 2, 1), (40, .goto 13, 3), (43, .aload_n 0, 1), (44, .getfield 29, 3), (47, .iload_n 1, 1), (48, .iaload, 1), (49, .iload_n 2, 1), (50, .invokestatic 110, 3), (53, .iastore, 1), (54, .return_, 1)]
theorem mc_cdk_90 : mc_cdl_90.all (fun q => decide (decode prog_4_method_6_code q.1 = .ok q.2)) = true := by decide +kernel
def mc_cdl_91 : List (Nat × Instr × Nat) := [(0, .iconst 0, 1), (1, .istore_n 2, 1), (2, .aload_n 0, 1), (3, .getfield 51, 3), (6, .iconst 1, 1), (7, .isub, 1), (8, .istore_n 3, 1), (9, .iload_n 3, 1), (10, .ifCond .lt 49, 3), (13, .aload_n 0, 1), (14, .getfield 9, 3), (17, .iload_n 3, 1), (18, .dup2, 1), (19, .iaload, 1), (20, .iconst 1, 1), (21, .iadd, 1), (22, .iastore, 1), (23, .aload_n 0, 1), (24, .getfield 9, 3), (27, .iload_n 3, 1), (28, .iaload, 1), (29, .aload_n 1, 1), (30, .getfield 42, 3), (33, .iload_n 3, 1), (34, .aaload, 1), (35, .getfield 52, 3), (38, .if_icmp .ge 8, 3), (41, .iload_n 3, 1), (42, .istore_n 2, 1), (43, .goto 16, 3), (46, .aload_n 0, 1), (47, .getfield 9, 3), (50, .iload_n 3, 1), (51, .iconst 0, 1), (52, .iastore, 1), (53, .iinc 3 (-1), 3), (56, .goto (-47), 3), (59, .aload_n 0, 1), (60, .aload_n 1, 1), (61, .iload_n 2, 1), (62, .invokevirtual 32, 3), (65, .return_, 1)]
theorem mc_cdk_91 : mc_cdl_91.all (fun q => decide (decode prog_11_method_5_code q.1 = .ok q.2)) = true := by decide +kernel
def mc_cdl_92 : List (Nat × Instr × Nat) := [(0, .aload_n 0, 1), (1, .aload_n 0, 1), (2, .getfield 58, 3), (5, .invokevirtual 174, 3), (8, .istore_n 1, 1), (9, .iload_n 1, 1), (10, .ifCond .eq 9, 3), (13, .aload_n 0, 1), (14, .iload_n 1, 1), (15, .invokevirtual 70, 3), (18, .ireturn, 1), (19, .aload_n 0, 1), (20, .aload_n 0, 1), (21, .getfield 30, 3), (24, .getfield 177, 3), (27, .ifCond .le 7, 3), (30, .iconst 1, 1), (31, .goto 4, 3), (34, .iconst 0, 1), (35, .invokevirtual 99, 3), (38, .ireturn, 1)]
theorem mc_cdk_92 : mc_cdl_92.all (fun q => decide (decode prog_1_method_17_code q.1 = .ok q.2)) = true := by decide +kernel
def mc_cdl_93 : List (Nat × Instr × Nat) := [(0, .aload_n 0, 1), (1, .aload_n 0, 1), (2, .iload_n 2, 1), (3, .invokevirtual 105, 3), (6, .ifCond .eq 11, 3), (9, .iload_n 1, 1), (10, .ifCond .lt 7, 3), (13, .iconst 1, 1), (14, .goto 4, 3), (17, .iconst 0, 1), (18, .invokevirtual 174, 3), (21, .istore_n 3, 1), (22, .iload_n 3, 1), (23, .ifCond .eq 9, 3), (26, .aload_n 0, 1), (27, .iload_n 3, 1), (28, .invokevirtual 70, 3), (31, .ireturn, 1), (32, .iload_n 1, 1), (33, .aload_n 0, 1), (34, .getfield 30, 3), (37, .getfield 177, 3), (40, .if_icmp .lt 9, 3), (43, .aload_n 0, 1), (44, .iconst 1, 1), (45, .invokevirtual 70, 3), (48, .ireturn, 1), (49, .aload_n 0, 1), (50, .aload_n 0, 1), (51, .getfield 51, 3), (54, .aload_n 0, 1), (55, .getfield 30, 3), (58, .iload_n 1, 1), (59, .invokevirtual 180, 3), (62, .iload_n 2, 1), (63, .invokevirtual 183, 3), (66, .invokevirtual 99, 3), (69, .ireturn, 1)]
theorem mc_cdk_93 : mc_cdl_93.all (fun q => decide (decode prog_1_method_18_code q.1 = .ok q.2)) = true := by decide +kernel
def mc_cdl_94 : List (Nat × Instr × Nat) := [(0, .iconst 0, 1), (1, .istore_n 2, 1), (2, .iconst 0, 1), (3, .istore_n 3, 1), (4, .iload_n 3, 1), (5, .sipush 20000, 3), (8, .if_icmp .ge 27, 3), (11, .aload_n 0, 1), (12, .iload_n 3, 1), (13, .invokevirtual 113, 3), (16, .ifCond .eq 13, 3), (19, .iload_n 2, 1), (20, .iload_n 1, 1), (21, .if_icmp .ne 5, 3), (24, .iload_n 3, 1), (25, .ireturn, 1), (26, .iinc 2 1, 3), (29, .iinc 3 1, 3), (32, .goto (-28), 3), (35, .iconst 0, 1), (36, .ireturn, 1)]
theorem mc_cdk_94 : mc_cdl_94.all (fun q => decide (decode prog_4_method_9_code q.1 = .ok q.2)) = true := by decide +kernel
def mc_cdl_95 : List (Nat × Instr × Nat) := [(0, .aload_n 0, 1), (1, .getfield 11, 3), (4, .iload_n 1, 1), (5, .bipush 64, 2), (7, .idiv, 1), (8, .laload, 1), (9, .iload_n 1, 1), (10, .bipush 64, 2), (12, .irem, 1), (13, .lshr, 1), (14, .lconst 1, 1), (15, .land, 1), (16, .lconst 0, 1), (17, .lcmp, 1), (18, .ifCond .eq 7, 3), (21, .iconst 1, 1), (22, .goto 4, 3), (25, .iconst 0, 1), (26, .ireturn, 1)]
theorem mc_cdk_95 : mc_cdl_95.all (fun q => decide (decode prog_4_method_7_code q.1 = .ok q.2)) = true := by decide +kernel
def mc_cdl_96 : List (Nat × Instr × Nat) := [(0, .aload_n 0, 1), (1, .getfield 11, 3), (4, .iload_n 2, 1), (5, .aaload, 1), (6, .getfield 107, 3), (9, .istore_n 3, 1), (10, .aload_n 0, 1), (11, .getfield 11, 3), (14, .iload_n 2, 1), (15, .aaload, 1), (16, .getfield 110, 3), (19, .istore 4, 2), (21, .iload_n 3, 1), (22, .ifCond .le 8, 3), (25, .iload 4, 2), (27, .ifCond .gt 5, 3), (30, .iconst (-1), 1), (31, .ireturn, 1), (32, .iload_n 1, 1), (33, .iload_n 3, 1), (34, .idiv, 1), (35, .iload 4, 2), (37, .irem, 1), (38, .ireturn, 1)]
theorem mc_cdk_96 : mc_cdl_96.all (fun q => decide (decode prog_6_method_12_code q.1 = .ok q.2)) = true := by decide +kernel
def mc_cdl_97 : List (Nat × Instr × Nat) := [(0, .aload_n 0, 1), (1, .aload_n 0, 1), (2, .getfield 58, 3), (5, .invokevirtual 174, 3), (8, .istore_n 1, 1), (9, .iload_n 1, 1), (10, .ifCond .eq 10, 3), (13, .aload_n 0, 1), (14, .iload_n 1, 1), (15, .invokevirtual 70, 3), (18, .i2l, 1), (19, .lreturn, 1), (20, .aload_n 0, 1), (21, .iconst 0, 1), (22, .putfield 102, 3), (25, .aload_n 0, 1), (26, .getfield 30, 3), (29, .getfield 187, 3), (32, .lreturn, 1)]
theorem mc_cdk_97 : mc_cdl_97.all (fun q => decide (decode prog_1_method_19_code q.1 = .ok q.2)) = true := by decide +kernel
def mc_cdl_98 : List (Nat × Instr × Nat) := [(0, .aload_n 0, 1), (1, .aload_n 0, 1), (2, .iload_n 1, 1), (3, .iload_n 2, 1), (4, .invokevirtual 118, 3), (7, .invokevirtual 174, 3), (10, .istore_n 3, 1), (11, .iload_n 3, 1), (12, .ifCond .eq 9, 3), (15, .aload_n 0, 1), (16, .iload_n 3, 1), (17, .invokevirtual 70, 3), (20, .ireturn, 1), (21, .aload_n 0, 1), (22, .aload_n 0, 1), (23, .getfield 30, 3), (26, .getfield 190, 3), (29, .iload_n 1, 1), (30, .aaload, 1), (31, .iload_n 2, 1), (32, .iaload, 1), (33, .invokevirtual 99, 3), (36, .ireturn, 1)]
theorem mc_cdk_98 : mc_cdl_98.all (fun q => decide (decode prog_1_method_20_code q.1 = .ok q.2)) = true := by decide +kernel
def mc_cdl_99 : List (Nat × Instr × Nat) := [(0, .aload_n 0, 1), (1, .aload_n 0, 1), (2, .iload_n 1, 1), (3, .invokevirtual 105, 3), (6, .ifCond .eq 15, 3), (9, .aload_n 0, 1), (10, .iload_n 2, 1), (11, .invokevirtual 132, 3), (14, .ifCond .eq 7, 3), (17, .iconst 1, 1), (18, .goto 4, 3), (21, .iconst 0, 1), (22, .invokevirtual 174, 3), (25, .istore_n 3, 1), (26, .iload_n 3, 1), (27, .ifCond .eq 9, 3), (30, .aload_n 0, 1), (31, .iload_n 3, 1), (32, .invokevirtual 70, 3), (35, .ireturn, 1), (36, .aload_n 0, 1), (37, .aload_n 0, 1), (38, .getfield 30, 3), (41, .aload_n 0, 1), (42, .getfield 51, 3), (45, .iload_n 1, 1), (46, .iload_n 2, 1), (47, .invokevirtual 194, 3), (50, .invokevirtual 99, 3), (53, .ireturn, 1)]
theorem mc_cdk_99 : mc_cdl_99.all (fun q => decide (decode prog_1_method_21_code q.1 = .ok q.2)) = true := by decide +kernel
def mc_cdl_100 : List (Nat × Instr × Nat) := [(0, .aload_n 1, 1), (1, .getfield 78, 3), (4, .iload_n 2, 1), (5, .aaload, 1), (6, .astore 4, 2), (8, .iconst 0, 1), (9, .istore 5, 2), (11, .iconst 0, 1), (12, .istore 6, 2), (14, .iload 6, 2), (16, .aload 4, 2), (18, .getfield 116, 3), (21, .if_icmp .ge 38, 3), (24, .aload 4, 2), (26, .getfield 119, 3), (29, .iload 6, 2), (31, .iaload, 1), (32, .iload_n 3, 1), (33, .invokestatic 122, 3), (36, .ifCond .eq 17, 3), (39, .iload 5, 2), (41, .aload_n 0, 1), (42, .getfield 17, 3), (45, .iload_n 2, 1), (46, .aaload, 1), (47, .iload 6, 2), (49, .iaload, 1), (50, .iadd, 1), (51, .istore 5, 2), (53, .iinc 6 1, 3), (56, .goto (-42), 3), (59, .iload 5, 2), (61, .ireturn, 1)]
theorem mc_cdk_100 : mc_cdl_100.all (fun q => decide (decode prog_4_method_10_code q.1 = .ok q.2)) = true := by decide +kernel
def mc_cdl_101 : List (Nat × Instr × Nat) := [(0, .aload_n 0, 1), (1, .aload_n 0, 1), (2, .iload_n 1, 1), (3, .invokevirtual 105, 3), (6, .ifCond .eq 15, 3), (9, .aload_n 0, 1), (10, .iload_n 2, 1), (11, .invokevirtual 132, 3), (14, .ifCond .eq 7, 3), (17, .iconst 1, 1), (18, .goto 4, 3), (21, .iconst 0, 1), (22, .invokevirtual 198, 3), (25, .istore_n 3, 1), (26, .iload_n 3, 1), (27, .ifCond .eq 9, 3), (30, .aload_n 0, 1), (31, .iload_n 3, 1), (32, .invokevirtual 70, 3), (35, .ireturn, 1), (36, .aload_n 0, 1), (37, .aload_n 0, 1), (38, .getfield 30, 3), (41, .aload_n 0, 1), (42, .getfield 51, 3), (45, .iload_n 1, 1), (46, .iload_n 2, 1), (47, .invokevirtual 201, 3), (50, .invokevirtual 99, 3), (53, .ireturn, 1)]
theorem mc_cdk_101 : mc_cdl_101.all (fun q => decide (decode prog_1_method_22_code q.1 = .ok q.2)) = true := by decide +kernel
def mc_cdl_102 : List (Nat × Instr × Nat) := [(0, .aload_n 0, 1), (1, .iload_n 1, 1), (2, .invokevirtual 174, 3), (5, .istore_n 2, 1), (6, .iload_n 2, 1), (7, .ifCond .ne 18, 3), (10, .aload_n 0, 1), (11, .getfield 30, 3), (14, .getfield 177, 3), (17, .ifCond .ne 8, 3), (20, .bipush 6, 2), (22, .goto 4, 3), (25, .iload_n 2, 1), (26, .ireturn, 1)]
theorem mc_cdk_102 : mc_cdl_102.all (fun q => decide (decode prog_1_method_64_code q.1 = .ok q.2)) = true := by decide +kernel
def mc_cdl_103 : List (Nat × Instr × Nat) := [(0, .aload_n 0, 1), (1, .aload_n 1, 1), (2, .iload_n 2, 1), (3, .iload_n 3, 1), (4, .invokevirtual 126, 3), (7, .istore 4, 2), (9, .iload 4, 2), (11, .ifCond .ne 5, 3), (14, .iconst 0, 1), (15, .ireturn, 1), (16, .iload 4, 2), (18, .aload_n 0, 1), (19, .getfield 62, 3), (22, .if_icmp .ne 7, 3), (25, .iconst 2, 1), (26, .goto 4, 3), (29, .iconst 1, 1), (30, .ireturn, 1)]
theorem mc_cdk_103 : mc_cdl_103.all (fun q => decide (decode prog_4_method_11_code q.1 = .ok q.2)) = true := by decide +kernel
def mc_cdl_104 : List (Nat × Instr × Nat) := [(0, .aload_n 0, 1), (1, .aload_n 0, 1), (2, .iload_n 1, 1), (3, .invokevirtual 132, 3), (6, .invokevirtual 198, 3), (9, .istore_n 3, 1), (10, .iload_n 3, 1), (11, .ifCond .eq 9, 3), (14, .aload_n 0, 1), (15, .iload_n 3, 1), (16, .invokevirtual 70, 3), (19, .ireturn, 1), (20, .iload_n 2, 1), (21, .ifCond .eq 7, 3), (24, .iconst 2, 1), (25, .goto 4, 3), (28, .iconst 0, 1), (29, .istore 4, 2), (31, .iconst 0, 1), (32, .istore 5, 2), (34, .iconst 0, 1), (35, .istore 6, 2), (37, .iload 6, 2), (39, .aload_n 0, 1), (40, .getfield 51, 3), (43, .getfield 96, 3), (46, .if_icmp .ge 37, 3), (49, .aload_n 0, 1), (50, .getfield 30, 3), (53, .aload_n 0, 1), (54, .getfield 51, 3), (57, .iload 6, 2), (59, .iload_n 1, 1), (60, .invokevirtual 201, 3), (63, .iload 4, 2), (65, .if_icmp .ne 12, 3), (68, .iload 5, 2), (70, .iconst 1, 1), (71, .iload 6, 2), (73, .ishl, 1), (74, .ior, 1), (75, .istore 5, 2), (77, .iinc 6 1, 3), (80, .goto (-43), 3), (83, .aload_n 0, 1), (84, .iload 5, 2), (86, .invokevirtual 99, 3), (89, .ireturn, 1)]
theorem mc_cdk_104 : mc_cdl_104.all (fun q => decide (decode prog_1_method_23_code q.1 = .ok q.2)) = true := by decide +kernel
def mc_cdl_105 : List (Nat × Instr × Nat) := [(0, .aload_n 0, 1), (1, .aload_n 0, 1), (2, .iload_n 1, 1), (3, .invokevirtual 105, 3), (6, .ifCond .eq 15, 3), (9, .aload_n 0, 1), (10, .iload_n 2, 1), (11, .invokevirtual 132, 3), (14, .ifCond .eq 7, 3), (17, .iconst 1, 1), (18, .goto 4, 3), (21, .iconst 0, 1), (22, .invokevirtual 198, 3), (25, .istore_n 3, 1), (26, .iload_n 3, 1), (27, .ifCond .eq 9, 3), (30, .aload_n 0, 1), (31, .iload_n 3, 1), (32, .invokevirtual 70, 3), (35, .ireturn, 1), (36, .aload_n 0, 1), (37, .aload_n 0, 1), (38, .getfield 30, 3), (41, .aload_n 0, 1), (42, .getfield 51, 3), (45, .iload_n 1, 1), (46, .iload_n 2, 1), (47, .invokevirtual 204, 3), (50, .invokevirtual 99, 3), (53, .ireturn, 1)]
theorem mc_cdk_105 : mc_cdl_105.all (fun q => decide (decode prog_1_method_24_code q.1 = .ok q.2)) = true := by decide +kernel
def mc_cdl_106 : List (Nat × Instr × Nat) := [(0, .aload_n 1, 1), (1, .getfield 78, 3), (4, .iload_n 2, 1), (5, .aaload, 1), (6, .astore 4, 2), (8, .lconst 0, 1), (9, .lstore 5, 2), (11, .iconst 0, 1), (12, .istore 7, 2), (14, .iload 7, 2), (16, .aload 4, 2), (18, .getfield 116, 3), (21, .if_icmp .ge 38, 3), (24, .aload 4, 2), (26, .getfield 119, 3), (29, .iload 7, 2), (31, .iaload, 1), (32, .iload_n 3, 1), (33, .invokestatic 122, 3), (36, .ifCond .eq 17, 3), (39, .lload 5, 2), (41, .aload_n 0, 1), (42, .getfield 22, 3), (45, .iload_n 2, 1), (46, .aaload, 1), (47, .iload 7, 2), (49, .laload, 1), (50, .ladd, 1), (51, .lstore 5, 2), (53, .iinc 7 1, 3), (56, .goto (-42), 3), (59, .aload_n 0, 1), (60, .getfield 66, 3), (63, .lconst 0, 1), (64, .lcmp, 1), (65, .ifCond .le 18, 3), (68, .lload 5, 2), (70, .ldc2_w 130, 3), (73, .lmul, 1), (74, .aload_n 0, 1), (75, .getfield 66, 3), (78, .ldiv, 1), (79, .l2i, 1), (80, .goto 4, 3), (83, .iconst 0, 1), (84, .ireturn, 1)]
theorem mc_cdk_106 : mc_cdl_106.all (fun q => decide (decode prog_4_method_12_code q.1 = .ok q.2)) = true := by decide +kernel
def mc_cdl_107 : List (Nat × Instr × Nat) := [(0, .aload_n 0, 1), (1, .aload_n 0, 1), (2, .iload_n 1, 1), (3, .invokevirtual 105, 3), (6, .invokevirtual 198, 3), (9, .istore_n 2, 1), (10, .iload_n 2, 1), (11, .ifCond .eq 9, 3), (14, .aload_n 0, 1), (15, .iload_n 2, 1), (16, .invokevirtual 70, 3), (19, .ireturn, 1), (20, .aload_n 0, 1), (21, .aload_n 0, 1), (22, .getfield 51, 3), (25, .aload_n 0, 1), (26, .getfield 30, 3), (29, .getfield 207, 3), (32, .iload_n 1, 1), (33, .invokevirtual 183, 3), (36, .invokevirtual 99, 3), (39, .ireturn, 1)]
theorem mc_cdk_107 : mc_cdl_107.all (fun q => decide (decode prog_1_method_25_code q.1 = .ok q.2)) = true := by decide +kernel
def mc_cdl_108 : List (Nat × Instr × Nat) := [(0, .aload_n 0, 1), (1, .aload_n 0, 1), (2, .getfield 58, 3), (5, .invokevirtual 198, 3), (8, .istore_n 1, 1), (9, .iload_n 1, 1), (10, .ifCond .eq 10, 3), (13, .aload_n 0, 1), (14, .iload_n 1, 1), (15, .invokevirtual 70, 3), (18, .i2l, 1), (19, .lreturn, 1), (20, .aload_n 0, 1), (21, .iconst 0, 1), (22, .putfield 102, 3), (25, .aload_n 0, 1), (26, .getfield 30, 3), (29, .getfield 210, 3), (32, .lreturn, 1)]
theorem mc_cdk_108 : mc_cdl_108.all (fun q => decide (decode prog_1_method_26_code q.1 = .ok q.2)) = true := by decide +kernel
def mc_cdl_109 : List (Nat × Instr × Nat) := [(0, .aload_n 0, 1), (1, .aload_n 0, 1), (2, .iload_n 1, 1), (3, .invokevirtual 105, 3), (6, .ifCond .eq 20, 3), (9, .aload_n 0, 1), (10, .iload_n 2, 1), (11, .invokevirtual 105, 3), (14, .ifCond .eq 12, 3), (17, .iload_n 1, 1), (18, .iload_n 2, 1), (19, .if_icmp .eq 7, 3), (22, .iconst 1, 1), (23, .goto 4, 3), (26, .iconst 0, 1), (27, .invokevirtual 174, 3), (30, .istore_n 3, 1), (31, .iload_n 3, 1), (32, .ifCond .eq 9, 3), (35, .aload_n 0, 1), (36, .iload_n 3, 1), (37, .invokevirtual 70, 3), (40, .ireturn, 1), (41, .aload_n 0, 1), (42, .aload_n 0, 1), (43, .getfield 30, 3), (46, .aload_n 0, 1), (47, .getfield 51, 3), (50, .iload_n 1, 1), (51, .iload_n 2, 1), (52, .invokevirtual 213, 3), (55, .invokevirtual 99, 3), (58, .ireturn, 1)]
theorem mc_cdk_109 : mc_cdl_109.all (fun q => decide (decode prog_1_method_27_code q.1 = .ok q.2)) = true := by decide +kernel
def mc_cdl_110 : List (Nat × Instr × Nat) := [(0, .iconst 0, 1), (1, .istore 4, 2), (3, .iconst 0, 1), (4, .istore 5, 2), (6, .iload 5, 2), (8, .i2l, 1), (9, .aload_n 1, 1), (10, .getfield 45, 3), (13, .lcmp, 1), (14, .ifCond .ge 46, 3), (17, .iload 5, 2), (19, .sipush 20000, 3), (22, .if_icmp .ge 38, 3), (25, .aload_n 0, 1), (26, .iload 5, 2), (28, .invokevirtual 113, 3), (31, .ifCond .eq 23, 3), (34, .iload 4, 2), (36, .aload_n 1, 1), (37, .iload 5, 2), (39, .iload_n 2, 1), (40, .invokestatic 132, 3), (43, .aload_n 1, 1), (44, .iload 5, 2), (46, .iload_n 3, 1), (47, .invokestatic 132, 3), (50, .iand, 1), (51, .ior, 1), (52, .istore 4, 2), (54, .iinc 5 1, 3), (57, .goto (-51), 3), (60, .iload 4, 2), (62, .ireturn, 1)]
theorem mc_cdk_110 : mc_cdl_110.all (fun q => decide (decode prog_4_method_13_code q.1 = .ok q.2)) = true := by decide +kernel
def mc_cdl_111 : List (Nat × Instr × Nat) := [(0, .aload_n 0, 1), (1, .iload_n 1, 1), (2, .iload_n 2, 1), (3, .invokevirtual 135, 3), (6, .istore_n 3, 1), (7, .iload_n 3, 1), (8, .ifCond .ge 7, 3), (11, .iconst 0, 1), (12, .goto 14, 3), (15, .aload_n 0, 1), (16, .getfield 78, 3), (19, .iload_n 2, 1), (20, .aaload, 1), (21, .getfield 119, 3), (24, .iload_n 3, 1), (25, .iaload, 1), (26, .ireturn, 1)]
theorem mc_cdk_111 : mc_cdl_111.all (fun q => decide (decode prog_4_method_14_code q.1 = .ok q.2)) = true := by decide +kernel
def mc_cdl_112 : List (Nat × Instr × Nat) := [(0, .aload_n 0, 1), (1, .aload_n 0, 1), (2, .iload_n 1, 1), (3, .invokevirtual 105, 3), (6, .invokevirtual 174, 3), (9, .istore_n 2, 1), (10, .iload_n 2, 1), (11, .ifCond .eq 10, 3), (14, .aload_n 0, 1), (15, .iload_n 2, 1), (16, .invokevirtual 70, 3), (19, .i2l, 1), (20, .lreturn, 1), (21, .aload_n 0, 1), (22, .iconst 0, 1), (23, .putfield 102, 3), (26, .aload_n 0, 1), (27, .getfield 30, 3), (30, .aload_n 0, 1), (31, .getfield 51, 3), (34, .iload_n 1, 1), (35, .invokevirtual 216, 3), (38, .lreturn, 1)]
theorem mc_cdk_112 : mc_cdl_112.all (fun q => decide (decode prog_1_method_28_code q.1 = .ok q.2)) = true := by decide +kernel
def mc_cdl_113 : List (Nat × Instr × Nat) := [(0, .lconst 0, 1), (1, .lstore_n 3, 1), (2, .iconst 0, 1), (3, .istore 5, 2), (5, .iload 5, 2), (7, .aload_n 1, 1), (8, .getfield 78, 3), (11, .iload_n 2, 1), (12, .aaload, 1), (13, .getfield 116, 3), (16, .if_icmp .ge 28, 3), (19, .aload_n 0, 1), (20, .getfield 17, 3), (23, .iload_n 2, 1), (24, .aaload, 1), (25, .iload 5, 2), (27, .iaload, 1), (28, .ifCond .le 10, 3), (31, .lload_n 3, 1), (32, .lconst 1, 1), (33, .iload 5, 2), (35, .lshl, 1), (36, .lor, 1), (37, .lstore_n 3, 1), (38, .iinc 5 1, 3), (41, .goto (-36), 3), (44, .lload_n 3, 1), (45, .lreturn, 1)]
theorem mc_cdk_113 : mc_cdl_113.all (fun q => decide (decode prog_4_method_17_code q.1 = .ok q.2)) = true := by decide +kernel
def mc_cdl_114 : List (Nat × Instr × Nat) := [(0, .aload_n 0, 1), (1, .aload_n 0, 1), (2, .iload_n 1, 1), (3, .invokevirtual 105, 3), (6, .ifCond .eq 15, 3), (9, .aload_n 0, 1), (10, .iload_n 2, 1), (11, .invokevirtual 132, 3), (14, .ifCond .eq 7, 3), (17, .iconst 1, 1), (18, .goto 4, 3), (21, .iconst 0, 1), (22, .invokevirtual 174, 3), (25, .istore_n 3, 1), (26, .iload_n 3, 1), (27, .ifCond .eq 9, 3), (30, .aload_n 0, 1), (31, .iload_n 3, 1), (32, .invokevirtual 70, 3), (35, .ireturn, 1), (36, .aload_n 0, 1), (37, .aload_n 0, 1), (38, .getfield 30, 3), (41, .aload_n 0, 1), (42, .getfield 51, 3), (45, .iload_n 1, 1), (46, .iload_n 2, 1), (47, .invokevirtual 220, 3), (50, .invokevirtual 99, 3), (53, .ireturn, 1)]
theorem mc_cdk_114 : mc_cdl_114.all (fun q => decide (decode prog_1_method_29_code q.1 = .ok q.2)) = true := by decide +kernel
def mc_cdl_115 : List (Nat × Instr × Nat) := [(0, .iconst 0, 1), (1, .istore 4, 2), (3, .iconst 0, 1), (4, .istore 5, 2), (6, .iload 5, 2), (8, .i2l, 1), (9, .aload_n 1, 1), (10, .getfield 45, 3), (13, .lcmp, 1), (14, .ifCond .ge 75, 3), (17, .iload 5, 2), (19, .sipush 20000, 3), (22, .if_icmp .ge 67, 3), (25, .aload_n 0, 1), (26, .iload 5, 2), (28, .invokevirtual 113, 3), (31, .ifCond .eq 13, 3), (34, .aload_n 1, 1), (35, .iload 5, 2), (37, .iload_n 2, 1), (38, .invokevirtual 135, 3), (41, .goto 4, 3), (44, .iconst (-1), 1), (45, .istore 6, 2), (47, .iload 6, 2), (49, .ifCond .lt 34, 3), (52, .aload_n 1, 1), (53, .getfield 78, 3), (56, .iload_n 2, 1), (57, .aaload, 1), (58, .getfield 138, 3), (61, .iload 6, 2), (63, .iaload, 1), (64, .iload_n 3, 1), (65, .invokestatic 122, 3), (68, .ifCond .eq 15, 3), (71, .iload 4, 2), (73, .aload_n 1, 1), (74, .iload 5, 2), (76, .iload_n 3, 1), (77, .invokestatic 141, 3), (80, .ior, 1), (81, .istore 4, 2), (83, .iinc 5 1, 3), (86, .goto (-80), 3), (89, .iload 4, 2), (91, .ireturn, 1)]
theorem mc_cdk_115 : mc_cdl_115.all (fun q => decide (decode prog_4_method_15_code q.1 = .ok q.2)) = true := by decide +kernel
def mc_cdl_116 : List (Nat × Instr × Nat) := [(0, .iconst 0, 1), (1, .istore_n 3, 1), (2, .iconst 0, 1), (3, .istore 4, 2), (5, .iload 4, 2), (7, .aload_n 0, 1), (8, .getfield 75, 3), (11, .if_icmp .ge 30, 3), (14, .aload_n 0, 1), (15, .iload_n 1, 1), (16, .iload 4, 2), (18, .invokestatic 132, 3), (21, .iload_n 2, 1), (22, .invokestatic 122, 3), (25, .ifCond .eq 10, 3), (28, .iload_n 3, 1), (29, .iconst 1, 1), (30, .iload 4, 2), (32, .ishl, 1), (33, .ior, 1), (34, .istore_n 3, 1), (35, .iinc 4 1, 3), (38, .goto (-33), 3), (41, .iload_n 3, 1), (42, .ireturn, 1)]
theorem mc_cdk_116 : mc_cdl_116.all (fun q => decide (decode prog_4_method_16_code q.1 = .ok q.2)) = true := by decide +kernel
def mc_cdl_117 : List (Nat × Instr × Nat) := [(0, .aload_n 0, 1), (1, .aload_n 0, 1), (2, .iload_n 1, 1), (3, .invokevirtual 105, 3), (6, .invokevirtual 198, 3), (9, .istore_n 3, 1), (10, .iload_n 3, 1), (11, .ifCond .eq 9, 3), (14, .aload_n 0, 1), (15, .iload_n 3, 1), (16, .invokevirtual 70, 3), (19, .ireturn, 1), (20, .aload_n 0, 1), (21, .aload_n 0, 1), (22, .getfield 30, 3), (25, .aload_n 0, 1), (26, .getfield 51, 3), (29, .getfield 109, 3), (32, .iload_n 1, 1), (33, .aaload, 1), (34, .getfield 125, 3), (37, .iload_n 1, 1), (38, .iload_n 2, 1), (39, .invokevirtual 223, 3), (42, .invokevirtual 99, 3), (45, .ireturn, 1)]
theorem mc_cdk_117 : mc_cdl_117.all (fun q => decide (decode prog_1_method_30_code q.1 = .ok q.2)) = true := by decide +kernel
def mc_cdl_118 : List (Nat × Instr × Nat) := [(0, .iconst (-1), 1), (1, .istore 4, 2), (3, .iconst 0, 1), (4, .istore 5, 2), (6, .iload 5, 2), (8, .bipush 40, 2), (10, .if_icmp .ge 64, 3), (13, .iload 5, 2), (15, .aload_n 1, 1), (16, .arraylength, 1), (17, .if_icmp .ge 57, 3), (20, .aload_n 0, 1), (21, .getfield 17, 3), (24, .iload_n 2, 1), (25, .aaload, 1), (26, .iload 5, 2), (28, .iaload, 1), (29, .ifCond .le 39, 3), (32, .iload 4, 2), (34, .ifCond .lt 28, 3), (37, .iload_n 3, 1), (38, .ifCond .eq 15, 3), (41, .aload_n 1, 1), (42, .iload 5, 2), (44, .iaload, 1), (45, .iload 4, 2), (47, .if_icmp .le 21, 3), (50, .goto 12, 3), (53, .aload_n 1, 1), (54, .iload 5, 2), (56, .iaload, 1), (57, .iload 4, 2), (59, .if_icmp .ge 9, 3), (62, .aload_n 1, 1), (63, .iload 5, 2), (65, .iaload, 1), (66, .istore 4, 2), (68, .iinc 5 1, 3), (71, .goto (-65), 3), (74, .iload 4, 2), (76, .ireturn, 1)]
theorem mc_cdk_118 : mc_cdl_118.all (fun q => decide (decode prog_4_method_18_code q.1 = .ok q.2)) = true := by decide +kernel
def mc_cdl_119 : List (Nat × Instr × Nat) := [(0, .aload_n 0, 1), (1, .aload_n 0, 1), (2, .iload_n 1, 1), (3, .invokevirtual 105, 3), (6, .invokevirtual 198, 3), (9, .istore_n 3, 1), (10, .iload_n 3, 1), (11, .ifCond .eq 9, 3), (14, .aload_n 0, 1), (15, .iload_n 3, 1), (16, .invokevirtual 70, 3), (19, .ireturn, 1), (20, .aload_n 0, 1), (21, .aload_n 0, 1), (22, .getfield 30, 3), (25, .aload_n 0, 1), (26, .getfield 51, 3), (29, .getfield 109, 3), (32, .iload_n 1, 1), (33, .aaload, 1), (34, .getfield 129, 3), (37, .iload_n 1, 1), (38, .iload_n 2, 1), (39, .invokevirtual 223, 3), (42, .invokevirtual 99, 3), (45, .ireturn, 1)]
theorem mc_cdk_119 : mc_cdl_119.all (fun q => decide (decode prog_1_method_31_code q.1 = .ok q.2)) = true := by decide +kernel
def mc_cdl_120 : List (Nat × Instr × Nat) := [(0, .aload_n 0, 1), (1, .aload_n 0, 1), (2, .getfield 58, 3), (5, .invokevirtual 227, 3), (8, .istore_n 1, 1), (9, .iload_n 1, 1), (10, .ifCond .eq 9, 3), (13, .aload_n 0, 1), (14, .iload_n 1, 1), (15, .invokevirtual 70, 3), (18, .ireturn, 1), (19, .aload_n 0, 1), (20, .aload_n 0, 1), (21, .getfield 37, 3), (24, .aload_n 0, 1), (25, .getfield 51, 3), (28, .aload_n 0, 1), (29, .getfield 30, 3), (32, .invokevirtual 230, 3), (35, .invokevirtual 99, 3), (38, .ireturn, 1)]
theorem mc_cdk_120 : mc_cdl_120.all (fun q => decide (decode prog_1_method_32_code q.1 = .ok q.2)) = true := by decide +kernel
def mc_cdl_121 : List (Nat × Instr × Nat) := [(0, .aload_n 0, 1), (1, .iload_n 1, 1), (2, .invokevirtual 174, 3), (5, .istore_n 2, 1), (6, .iload_n 2, 1), (7, .ifCond .eq 5, 3), (10, .iload_n 2, 1), (11, .ireturn, 1), (12, .aload_n 0, 1), (13, .getfield 30, 3), (16, .getfield 177, 3), (19, .sipush 400, 3), (22, .if_icmp .le 5, 3), (25, .iconst 3, 1), (26, .ireturn, 1), (27, .aload_n 0, 1), (28, .getfield 30, 3), (31, .getfield 177, 3), (34, .ifCond .ne 8, 3), (37, .bipush 6, 2), (39, .goto 4, 3), (42, .iconst 0, 1), (43, .ireturn, 1)]
theorem mc_cdk_121 : mc_cdl_121.all (fun q => decide (decode prog_1_method_65_code q.1 = .ok q.2)) = true := by decide +kernel
def mc_cdl_122 : List (Nat × Instr × Nat) := [(0, .aload_n 0, 1), (1, .aload_n 1, 1), (2, .aload_n 2, 1), (3, .invokevirtual 24, 3), (6, .iconst 0, 1), (7, .istore_n 3, 1), (8, .iload_n 3, 1), (9, .aload_n 0, 1), (10, .getfield 28, 3), (13, .if_icmp .ge 21, 3), (16, .aload_n 0, 1), (17, .getfield 15, 3), (20, .iload_n 3, 1), (21, .aload_n 0, 1), (22, .getfield 9, 3), (25, .iload_n 3, 1), (26, .iaload, 1), (27, .iastore, 1), (28, .iinc 3 1, 3), (31, .goto (-23), 3), (34, .aload_n 0, 1), (35, .aload_n 1, 1), (36, .invokevirtual 32, 3), (39, .ireturn, 1)]
theorem mc_cdk_122 : mc_cdl_122.all (fun q => decide (decode prog_3_method_2_code q.1 = .ok q.2)) = true := by decide +kernel
def mc_cdl_123 : List (Nat × Instr × Nat) := [(0, .aload_n 0, 1), (1, .iconst 0, 1), (2, .putfield 28, 3), (5, .aload_n 2, 1), (6, .iconst 0, 1), (7, .aload_n 1, 1), (8, .invokevirtual 42, 3), (11, .istore_n 3, 1), (12, .iconst 0, 1), (13, .istore 4, 2), (15, .iload 4, 2), (17, .sipush 400, 3), (20, .if_icmp .ge 40, 3), (23, .iload_n 3, 1), (24, .ifCond .lt 36, 3), (27, .aload_n 0, 1), (28, .getfield 9, 3), (31, .iload 4, 2), (33, .iload_n 3, 1), (34, .iastore, 1), (35, .aload_n 0, 1), (36, .dup, 1), (37, .getfield 28, 3), (40, .iconst 1, 1), (41, .iadd, 1), (42, .putfield 28, 3), (45, .aload_n 2, 1), (46, .iload_n 3, 1), (47, .iconst 1, 1), (48, .iadd, 1), (49, .aload_n 1, 1), (50, .invokevirtual 42, 3), (53, .istore_n 3, 1), (54, .iinc 4 1, 3), (57, .goto (-42), 3), (60, .return_, 1)]
theorem mc_cdk_123 : mc_cdl_123.all (fun q => decide (decode prog_3_method_4_code q.1 = .ok q.2)) = true := by decide +kernel
def mc_cdl_124 : List (Nat × Instr × Nat) := [(0, .iload_n 1, 1), (1, .istore_n 3, 1), (2, .iload_n 3, 1), (3, .i2l, 1), (4, .aload_n 2, 1), (5, .getfield 45, 3), (8, .lcmp, 1), (9, .ifCond .ge 26, 3), (12, .iload_n 3, 1), (13, .sipush 20000, 3), (16, .if_icmp .ge 19, 3), (19, .aload_n 0, 1), (20, .iload_n 3, 1), (21, .invokevirtual 113, 3), (24, .ifCond .eq 5, 3), (27, .iload_n 3, 1), (28, .ireturn, 1), (29, .iinc 3 1, 3), (32, .goto (-30), 3), (35, .iconst (-1), 1), (36, .ireturn, 1)]
theorem mc_cdk_124 : mc_cdl_124.all (fun q => decide (decode prog_4_method_8_code q.1 = .ok q.2)) = true := by decide +kernel
def mc_cdl_125 : List (Nat × Instr × Nat) := [(0, .iconst 1, 1), (1, .aload_n 1, 1), (2, .getfield 46, 3), (5, .ishl, 1), (6, .iconst 1, 1), (7, .isub, 1), (8, .istore_n 2, 1), (9, .iconst 0, 1), (10, .istore_n 3, 1), (11, .iload_n 3, 1), (12, .aload_n 1, 1), (13, .getfield 46, 3), (16, .if_icmp .ge 46, 3), (19, .iconst 0, 1), (20, .istore 4, 2), (22, .iload 4, 2), (24, .iload_n 2, 1), (25, .if_icmp .ge 31, 3), (28, .iload 4, 2), (30, .invokestatic 51, 3), (33, .iload_n 3, 1), (34, .if_icmp .ne 16, 3), (37, .aload_n 0, 1), (38, .aload_n 1, 1), (39, .iload 4, 2), (41, .invokevirtual 57, 3), (44, .ifCond .eq 6, 3), (47, .iload 4, 2), (49, .ireturn, 1), (50, .iinc 4 1, 3), (53, .goto (-31), 3), (56, .iinc 3 1, 3), (59, .goto (-48), 3), (62, .iload_n 2, 1), (63, .ireturn, 1)]
theorem mc_cdk_125 : mc_cdl_125.all (fun q => decide (decode prog_3_method_5_code q.1 = .ok q.2)) = true := by decide +kernel
def mc_cdl_126 : List (Nat × Instr × Nat) := [(0, .iconst 0, 1), (1, .istore_n 3, 1), (2, .iload_n 3, 1), (3, .sipush 1024, 3), (6, .if_icmp .ge 16, 3), (9, .aload_n 0, 1), (10, .getfield 21, 3), (13, .iload_n 3, 1), (14, .iconst (-1), 1), (15, .iastore, 1), (16, .iinc 3 1, 3), (19, .goto (-17), 3), (22, .iconst 0, 1), (23, .istore_n 3, 1), (24, .iload_n 3, 1), (25, .aload_n 0, 1), (26, .getfield 28, 3), (29, .if_icmp .ge 82, 3), (32, .aload_n 0, 1), (33, .getfield 18, 3), (36, .iload_n 3, 1), (37, .aload_n 1, 1), (38, .aload_n 0, 1), (39, .getfield 9, 3), (42, .iload_n 3, 1), (43, .iaload, 1), (44, .iload_n 2, 1), (45, .invokestatic 61, 3), (48, .iastore, 1), (49, .aload_n 0, 1), (50, .aload_n 0, 1), (51, .getfield 18, 3), (54, .iload_n 3, 1), (55, .iaload, 1), (56, .invokevirtual 64, 3), (59, .istore 4, 2), (61, .aload_n 0, 1), (62, .getfield 21, 3), (65, .iload 4, 2), (67, .iaload, 1), (68, .ifCond .ge 14, 3), (71, .aload_n 0, 1), (72, .getfield 21, 3), (75, .iload 4, 2), (77, .iload_n 3, 1), (78, .iastore, 1), (79, .goto 26, 3), (82, .aload_n 0, 1), (83, .getfield 15, 3), (86, .aload_n 0, 1), (87, .getfield 21, 3), (90, .iload 4, 2), (92, .iaload, 1), (93, .iaload, 1), (94, .aload_n 0, 1), (95, .getfield 15, 3), (98, .iload_n 3, 1), (99, .iaload, 1), (100, .if_icmp .eq 5, 3), (103, .iconst 0, 1), (104, .ireturn, 1), (105, .iinc 3 1, 3), (108, .goto (-84), 3), (111, .iconst 1, 1), (112, .ireturn, 1)]
theorem mc_cdk_126 : mc_cdl_126.all (fun q => decide (decode prog_3_method_6_code q.1 = .ok q.2)) = true := by decide +kernel
def mc_cdl_127 : List (Nat × Instr × Nat) := [(0, .iconst 0, 1), (1, .istore_n 3, 1), (2, .iconst 0, 1), (3, .istore 4, 2), (5, .iload 4, 2), (7, .aload_n 0, 1), (8, .getfield 46, 3), (11, .if_icmp .ge 39, 3), (14, .iload_n 2, 1), (15, .iload 4, 2), (17, .invokestatic 67, 3), (20, .ifCond .eq 24, 3), (23, .iload_n 3, 1), (24, .aload_n 0, 1), (25, .iload_n 1, 1), (26, .iload 4, 2), (28, .invokevirtual 71, 3), (31, .aload_n 0, 1), (32, .getfield 75, 3), (35, .iload 4, 2), (37, .aaload, 1), (38, .getfield 79, 3), (41, .imul, 1), (42, .iadd, 1), (43, .istore_n 3, 1), (44, .iinc 4 1, 3), (47, .goto (-42), 3), (50, .iload_n 3, 1), (51, .ireturn, 1)]
theorem mc_cdk_127 : mc_cdl_127.all (fun q => decide (decode prog_3_method_7_code q.1 = .ok q.2)) = true := by decide +kernel
def mc_cdl_128 : List (Nat × Instr × Nat) := [(0, .iload_n 1, 1), (1, .sipush 1023, 3), (4, .iand, 1), (5, .istore_n 2, 1), (6, .iconst 0, 1), (7, .istore_n 3, 1), (8, .iload_n 3, 1), (9, .sipush 1024, 3), (12, .if_icmp .ge 43, 3), (15, .aload_n 0, 1), (16, .getfield 21, 3), (19, .iload_n 2, 1), (20, .iaload, 1), (21, .ifCond .lt 18, 3), (24, .aload_n 0, 1), (25, .getfield 18, 3), (28, .aload_n 0, 1), (29, .getfield 21, 3), (32, .iload_n 2, 1), (33, .iaload, 1), (34, .iaload, 1), (35, .iload_n 1, 1), (36, .if_icmp .ne 5, 3), (39, .iload_n 2, 1), (40, .ireturn, 1), (41, .iload_n 2, 1), (42, .iconst 1, 1), (43, .iadd, 1), (44, .sipush 1023, 3), (47, .iand, 1), (48, .istore_n 2, 1), (49, .iinc 3 1, 3), (52, .goto (-44), 3), (55, .iload_n 2, 1), (56, .ireturn, 1)]
theorem mc_cdk_128 : mc_cdl_128.all (fun q => decide (decode prog_3_method_8_code q.1 = .ok q.2)) = true := by decide +kernel
def mc_cdl_129 : List (Nat × Instr × Nat) := [(0, .aload_n 0, 1), (1, .aload_n 0, 1), (2, .iload_n 1, 1), (3, .invokevirtual 132, 3), (6, .invokevirtual 227, 3), (9, .istore_n 2, 1), (10, .iload_n 2, 1), (11, .ifCond .eq 9, 3), (14, .aload_n 0, 1), (15, .iload_n 2, 1), (16, .invokevirtual 70, 3), (19, .ireturn, 1), (20, .aload_n 0, 1), (21, .aload_n 0, 1), (22, .getfield 37, 3), (25, .aload_n 0, 1), (26, .getfield 51, 3), (29, .aload_n 0, 1), (30, .getfield 30, 3), (33, .iload_n 1, 1), (34, .invokevirtual 234, 3), (37, .invokevirtual 99, 3), (40, .ireturn, 1)]
theorem mc_cdk_129 : mc_cdl_129.all (fun q => decide (decode prog_1_method_33_code q.1 = .ok q.2)) = true := by decide +kernel
def mc_cdl_130 : List (Nat × Instr × Nat) := [(0, .aload_n 0, 1), (1, .aload_n 1, 1), (2, .aload_n 2, 1), (3, .invokevirtual 24, 3), (6, .iconst 0, 1), (7, .istore 4, 2), (9, .iload 4, 2), (11, .aload_n 0, 1), (12, .getfield 28, 3), (15, .if_icmp .ge 28, 3), (18, .aload_n 0, 1), (19, .getfield 15, 3), (22, .iload 4, 2), (24, .aload_n 1, 1), (25, .aload_n 0, 1), (26, .getfield 9, 3), (29, .iload 4, 2), (31, .iaload, 1), (32, .iload_n 3, 1), (33, .invokestatic 36, 3), (36, .iastore, 1), (37, .iinc 4 1, 3), (40, .goto (-31), 3), (43, .aload_n 0, 1), (44, .aload_n 1, 1), (45, .invokevirtual 32, 3), (48, .ireturn, 1)]
theorem mc_cdk_130 : mc_cdl_130.all (fun q => decide (decode prog_3_method_3_code q.1 = .ok q.2)) = true := by decide +kernel
def mc_cdl_131 : List (Nat × Instr × Nat) := [(0, .aload_n 0, 1), (1, .aload_n 0, 1), (2, .iload_n 1, 1), (3, .invokevirtual 238, 3), (6, .invokevirtual 174, 3), (9, .istore_n 2, 1), (10, .iload_n 2, 1), (11, .ifCond .eq 9, 3), (14, .aload_n 0, 1), (15, .iload_n 2, 1), (16, .invokevirtual 70, 3), (19, .ireturn, 1), (20, .aload_n 0, 1), (21, .aload_n 0, 1), (22, .getfield 30, 3), (25, .aload_n 0, 1), (26, .getfield 51, 3), (29, .iload_n 1, 1), (30, .invokevirtual 241, 3), (33, .ifCond .eq 7, 3), (36, .iconst 0, 1), (37, .goto 4, 3), (40, .iconst 1, 1), (41, .invokevirtual 99, 3), (44, .ireturn, 1)]
theorem mc_cdk_131 : mc_cdl_131.all (fun q => decide (decode prog_1_method_34_code q.1 = .ok q.2)) = true := by decide +kernel
def mc_cdl_132 : List (Nat × Instr × Nat) := [(0, .iload_n 1, 1), (1, .ifCond .lt 18, 3), (4, .iload_n 1, 1), (5, .aload_n 0, 1), (6, .getfield 51, 3), (9, .getfield 333, 3), (12, .if_icmp .ge 7, 3), (15, .iconst 1, 1), (16, .goto 4, 3), (19, .iconst 0, 1), (20, .ireturn, 1)]
theorem mc_cdk_132 : mc_cdl_132.all (fun q => decide (decode prog_1_method_60_code q.1 = .ok q.2)) = true := by decide +kernel
def mc_cdl_133 : List (Nat × Instr × Nat) := [(0, .aload_n 1, 1), (1, .getfield 144, 3), (4, .iload_n 2, 1), (5, .iaload, 1), (6, .istore_n 3, 1), (7, .aload_n 1, 1), (8, .getfield 147, 3), (11, .iload_n 2, 1), (12, .iaload, 1), (13, .istore 4, 2), (15, .aload_n 1, 1), (16, .getfield 78, 3), (19, .iload_n 3, 1), (20, .aaload, 1), (21, .astore 5, 2), (23, .iconst 0, 1), (24, .istore 6, 2), (26, .iload 6, 2), (28, .aload 5, 2), (30, .getfield 116, 3), (33, .if_icmp .ge 39, 3), (36, .aload_n 0, 1), (37, .getfield 17, 3), (40, .iload_n 3, 1), (41, .aaload, 1), (42, .iload 6, 2), (44, .iaload, 1), (45, .ifCond .le 21, 3), (48, .aload 5, 2), (50, .getfield 138, 3), (53, .iload 6, 2), (55, .iaload, 1), (56, .iload 4, 2), (58, .iand, 1), (59, .iload 4, 2), (61, .if_icmp .ne 5, 3), (64, .iconst 1, 1), (65, .ireturn, 1), (66, .iinc 6 1, 3), (69, .goto (-43), 3), (72, .iconst 0, 1), (73, .ireturn, 1)]
theorem mc_cdk_133 : mc_cdl_133.all (fun q => decide (decode prog_4_method_19_code q.1 = .ok q.2)) = true := by decide +kernel
def mc_cdl_134 : List (Nat × Instr × Nat) := [(0, .aload_n 0, 1), (1, .aload_n 0, 1), (2, .iload_n 1, 1), (3, .invokevirtual 238, 3), (6, .invokevirtual 245, 3), (9, .istore_n 2, 1), (10, .iload_n 2, 1), (11, .ifCond .eq 9, 3), (14, .aload_n 0, 1), (15, .iload_n 2, 1), (16, .invokevirtual 70, 3), (19, .ireturn, 1), (20, .aload_n 0, 1), (21, .aload_n 0, 1), (22, .getfield 44, 3), (25, .aload_n 0, 1), (26, .getfield 51, 3), (29, .aload_n 0, 1), (30, .getfield 23, 3), (33, .iload_n 1, 1), (34, .invokevirtual 248, 3), (37, .invokevirtual 99, 3), (40, .ireturn, 1)]
theorem mc_cdk_134 : mc_cdl_134.all (fun q => decide (decode prog_1_method_35_code q.1 = .ok q.2)) = true := by decide +kernel
def mc_cdl_135 : List (Nat × Instr × Nat) := [(0, .aload_n 1, 1), (1, .getfield 15, 3), (4, .aload_n 1, 1), (5, .getfield 21, 3), (8, .iload_n 3, 1), (9, .iaload, 1), (10, .aaload, 1), (11, .astore 4, 2), (13, .aload_n 1, 1), (14, .getfield 25, 3), (17, .iload_n 3, 1), (18, .iaload, 1), (19, .istore 5, 2), (21, .sipush (-1000), 3), (24, .istore 6, 2), (26, .aload_n 2, 1), (27, .aload_n 1, 1), (28, .invokevirtual 28, 3), (31, .iconst 0, 1), (32, .istore 7, 2), (34, .iload 7, 2), (36, .i2l, 1), (37, .aload_n 1, 1), (38, .getfield 34, 3), (41, .lcmp, 1), (42, .ifCond .ge 83, 3), (45, .iload 7, 2), (47, .sipush 20000, 3), (50, .if_icmp .ge 75, 3), (53, .aload 4, 2), (55, .getfield 38, 3), (58, .aload_n 2, 1), (59, .aload_n 1, 1), (60, .getfield 21, 3), (63, .iload_n 3, 1), (64, .iaload, 1), (65, .invokevirtual 43, 3), (68, .iaload, 1), (69, .istore 8, 2), (71, .aload_n 2, 1), (72, .invokevirtual 47, 3), (75, .ifCond .ne 39, 3), (78, .iload 8, 2), (80, .iload 5, 2), (82, .iand, 1), (83, .iload 5, 2), (85, .if_icmp .ne 29, 3), (88, .aload_n 2, 1), (89, .aload_n 1, 1), (90, .invokevirtual 51, 3), (93, .istore 9, 2), (95, .iload 9, 2), (97, .bipush 24, 2), (99, .if_icmp .ne 6, 3), (102, .bipush (-2), 2), (104, .ireturn, 1), (105, .iload 6, 2), (107, .iload 9, 2), (109, .invokestatic 55, 3), (112, .istore 6, 2), (114, .aload_n 2, 1), (115, .aload_n 1, 1), (116, .invokevirtual 61, 3), (119, .iinc 7 1, 3), (122, .goto (-88), 3), (125, .iload 6, 2), (127, .ireturn, 1)]
theorem mc_cdk_135 : mc_cdl_135.all (fun q => decide (decode prog_5_method_2_code q.1 = .ok q.2)) = true := by decide +kernel
def mc_cdl_136 : List (Nat × Instr × Nat) := [(0, .aload_n 0, 1), (1, .getfield 58, 3), (4, .ifCond .ne 9, 3), (7, .aload_n 0, 1), (8, .iconst 1, 1), (9, .invokevirtual 70, 3), (12, .ireturn, 1), (13, .aload_n 0, 1), (14, .getfield 51, 3), (17, .getfield 141, 3), (20, .ldc2_w 252, 3), (23, .lcmp, 1), (24, .ifCond .le 9, 3), (27, .aload_n 0, 1), (28, .iconst 3, 1), (29, .invokevirtual 70, 3), (32, .ireturn, 1), (33, .aload_n 0, 1), (34, .getfield 30, 3), (37, .aload_n 0, 1), (38, .getfield 51, 3), (41, .aload_n 0, 1), (42, .getfield 23, 3), (45, .invokevirtual 254, 3), (48, .aload_n 0, 1), (49, .getfield 30, 3), (52, .getfield 177, 3), (55, .ifCond .le 9, 3), (58, .aload_n 0, 1), (59, .iconst 5, 1), (60, .invokevirtual 70, 3), (63, .ireturn, 1), (64, .aload_n 0, 1), (65, .aload_n 0, 1), (66, .getfield 44, 3), (69, .aload_n 0, 1), (70, .getfield 51, 3), (73, .aload_n 0, 1), (74, .getfield 23, 3), (77, .invokevirtual 258, 3), (80, .invokevirtual 99, 3), (83, .ireturn, 1)]
theorem mc_cdk_136 : mc_cdl_136.all (fun q => decide (decode prog_1_method_36_code q.1 = .ok q.2)) = true := by decide +kernel
def mc_cdl_137 : List (Nat × Instr × Nat) := [(0, .aload_n 0, 1), (1, .aload_n 1, 1), (2, .aload_n 2, 1), (3, .invokevirtual 64, 3), (6, .aload_n 0, 1), (7, .getfield 68, 3), (10, .ifCond .ne 5, 3), (13, .iconst 0, 1), (14, .ireturn, 1), (15, .aload_n 0, 1), (16, .aload_n 1, 1), (17, .invokevirtual 72, 3), (20, .istore_n 3, 1), (21, .iload_n 3, 1), (22, .bipush (-2), 2), (24, .if_icmp .ne 9, 3), (27, .aload_n 0, 1), (28, .aload_n 1, 1), (29, .invokevirtual 75, 3), (32, .istore_n 3, 1), (33, .iload_n 3, 1), (34, .bipush (-2), 2), (36, .if_icmp .ne 11, 3), (39, .aload_n 0, 1), (40, .aload_n 1, 1), (41, .invokevirtual 78, 3), (44, .goto 4, 3), (47, .iload_n 3, 1), (48, .ireturn, 1)]
theorem mc_cdk_137 : mc_cdl_137.all (fun q => decide (decode prog_5_method_3_code q.1 = .ok q.2)) = true := by decide +kernel
def mc_cdl_138 : List (Nat × Instr × Nat) := [(0, .aload_n 0, 1), (1, .iconst 0, 1), (2, .putfield 68, 3), (5, .aload_n 0, 1), (6, .iconst 0, 1), (7, .putfield 81, 3), (10, .aload_n 2, 1), (11, .aload_n 1, 1), (12, .invokevirtual 28, 3), (15, .iconst 0, 1), (16, .istore_n 3, 1), (17, .iload_n 3, 1), (18, .i2l, 1), (19, .aload_n 1, 1), (20, .getfield 34, 3), (23, .lcmp, 1), (24, .ifCond .ge 52, 3), (27, .iload_n 3, 1), (28, .sipush 5000, 3), (31, .if_icmp .ge 45, 3), (34, .aload_n 2, 1), (35, .invokevirtual 47, 3), (38, .ifCond .ne 27, 3), (41, .aload_n 0, 1), (42, .getfield 9, 3), (45, .aload_n 0, 1), (46, .getfield 68, 3), (49, .aload_n 1, 1), (50, .aload_n 2, 1), (51, .invokestatic 84, 3), (54, .lastore, 1), (55, .aload_n 0, 1), (56, .dup, 1), (57, .getfield 68, 3), (60, .iconst 1, 1), (61, .iadd, 1), (62, .putfield 68, 3), (65, .aload_n 2, 1), (66, .aload_n 1, 1), (67, .invokevirtual 61, 3), (70, .iinc 3 1, 3), (73, .goto (-56), 3), (76, .return_, 1)]
theorem mc_cdk_138 : mc_cdl_138.all (fun q => decide (decode prog_5_method_4_code q.1 = .ok q.2)) = true := by decide +kernel
def mc_cdl_139 : List (Nat × Instr × Nat) := [(0, .lconst 0, 1), (1, .lstore_n 2, 1), (2, .iconst 0, 1), (3, .istore 4, 2), (5, .iload 4, 2), (7, .aload_n 0, 1), (8, .getfield 88, 3), (11, .if_icmp .ge 64, 3), (14, .aload_n 0, 1), (15, .getfield 91, 3), (18, .iload 4, 2), (20, .iaload, 1), (21, .istore 5, 2), (23, .aload_n 0, 1), (24, .iload 5, 2), (26, .aload_n 1, 1), (27, .iload 5, 2), (29, .invokevirtual 94, 3), (32, .invokevirtual 97, 3), (35, .istore 6, 2), (37, .iload 6, 2), (39, .iconst 2, 1), (40, .if_icmp .ne 13, 3), (43, .lload_n 2, 1), (44, .lconst 1, 1), (45, .iload 5, 2), (47, .lshl, 1), (48, .lor, 1), (49, .lstore_n 2, 1), (50, .goto 19, 3), (53, .iload 6, 2), (55, .iconst 1, 1), (56, .if_icmp .ne 13, 3), (59, .lload_n 2, 1), (60, .lconst 1, 1), (61, .iload 5, 2), (63, .bipush 32, 2), (65, .iadd, 1), (66, .lshl, 1), (67, .lor, 1), (68, .lstore_n 2, 1), (69, .iinc 4 1, 3), (72, .goto (-67), 3), (75, .lload_n 2, 1), (76, .lreturn, 1)]
theorem mc_cdk_139 : mc_cdl_139.all (fun q => decide (decode prog_5_method_5_code q.1 = .ok q.2)) = true := by decide +kernel
def mc_cdl_140 : List (Nat × Instr × Nat) := [(0, .iconst 0, 1), (1, .istore_n 2, 1), (2, .iload_n 2, 1), (3, .aload_n 1, 1), (4, .getfield 88, 3), (7, .if_icmp .ge 29, 3), (10, .iconst 1, 1), (11, .aload_n 1, 1), (12, .getfield 91, 3), (15, .iload_n 2, 1), (16, .iaload, 1), (17, .ishl, 1), (18, .istore_n 3, 1), (19, .aload_n 0, 1), (20, .aload_n 1, 1), (21, .iload_n 3, 1), (22, .invokevirtual 100, 3), (25, .ifCond .eq 5, 3), (28, .iload_n 3, 1), (29, .ireturn, 1), (30, .iinc 2 1, 3), (33, .goto (-31), 3), (36, .bipush (-2), 2), (38, .ireturn, 1)]
theorem mc_cdk_140 : mc_cdl_140.all (fun q => decide (decode prog_5_method_6_code q.1 = .ok q.2)) = true := by decide +kernel
def mc_cdl_141 : List (Nat × Instr × Nat) := [(0, .aload_n 0, 1), (1, .getfield 81, 3), (4, .aload_n 0, 1), (5, .getfield 68, 3), (8, .if_icmp .ge 22, 3), (11, .aload_n 1, 1), (12, .aload_n 0, 1), (13, .getfield 9, 3), (16, .aload_n 0, 1), (17, .getfield 81, 3), (20, .laload, 1), (21, .iload_n 2, 1), (22, .invokestatic 104, 3), (25, .ifCond .eq 5, 3), (28, .iconst 0, 1), (29, .ireturn, 1), (30, .iconst 0, 1), (31, .istore_n 3, 1), (32, .iload_n 3, 1), (33, .aload_n 0, 1), (34, .getfield 68, 3), (37, .if_icmp .ge 30, 3), (40, .aload_n 1, 1), (41, .aload_n 0, 1), (42, .getfield 9, 3), (45, .iload_n 3, 1), (46, .laload, 1), (47, .iload_n 2, 1), (48, .invokestatic 104, 3), (51, .ifCond .eq 10, 3), (54, .aload_n 0, 1), (55, .iload_n 3, 1), (56, .putfield 81, 3), (59, .iconst 0, 1), (60, .ireturn, 1), (61, .iinc 3 1, 3), (64, .goto (-32), 3), (67, .iconst 1, 1), (68, .ireturn, 1)]
theorem mc_cdk_141 : mc_cdl_141.all (fun q => decide (decode prog_5_method_9_code q.1 = .ok q.2)) = true := by decide +kernel
def mc_cdl_142 : List (Nat × Instr × Nat) := [(0, .lload_n 1, 1), (1, .l2i, 1), (2, .iload_n 3, 1), (3, .iand, 1), (4, .istore 4, 2), (6, .lload_n 1, 1), (7, .bipush 32, 2), (9, .lshr, 1), (10, .l2i, 1), (11, .iload_n 3, 1), (12, .iand, 1), (13, .istore 5, 2), (15, .iload 4, 2), (17, .ifCond .ne 19, 3), (20, .iload 5, 2), (22, .invokestatic 108, 3), (25, .aload_n 0, 1), (26, .getfield 113, 3), (29, .if_icmp .gt 7, 3), (32, .iconst 1, 1), (33, .goto 4, 3), (36, .iconst 0, 1), (37, .ireturn, 1)]
theorem mc_cdk_142 : mc_cdl_142.all (fun q => decide (decode prog_5_method_10_code q.1 = .ok q.2)) = true := by decide +kernel
def mc_cdl_143 : List (Nat × Instr × Nat) := [(0, .iconst 1, 1), (1, .istore_n 2, 1), (2, .iload_n 2, 1), (3, .aload_n 1, 1), (4, .getfield 88, 3), (7, .if_icmp .ge 54, 3), (10, .iconst 0, 1), (11, .istore_n 3, 1), (12, .iload_n 3, 1), (13, .iload_n 2, 1), (14, .if_icmp .ge 41, 3), (17, .iconst 1, 1), (18, .aload_n 1, 1), (19, .getfield 91, 3), (22, .iload_n 2, 1), (23, .iaload, 1), (24, .ishl, 1), (25, .iconst 1, 1), (26, .aload_n 1, 1), (27, .getfield 91, 3), (30, .iload_n 3, 1), (31, .iaload, 1), (32, .ishl, 1), (33, .ior, 1), (34, .istore 4, 2), (36, .aload_n 0, 1), (37, .aload_n 1, 1), (38, .iload 4, 2), (40, .invokevirtual 100, 3), (43, .ifCond .eq 6, 3), (46, .iload 4, 2), (48, .ireturn, 1), (49, .iinc 3 1, 3), (52, .goto (-40), 3), (55, .iinc 2 1, 3), (58, .goto (-56), 3), (61, .bipush (-2), 2), (63, .ireturn, 1)]
theorem mc_cdk_143 : mc_cdl_143.all (fun q => decide (decode prog_5_method_7_code q.1 = .ok q.2)) = true := by decide +kernel
def mc_cdl_144 : List (Nat × Instr × Nat) := [(0, .iconst 2, 1), (1, .istore_n 2, 1), (2, .iload_n 2, 1), (3, .aload_n 1, 1), (4, .getfield 88, 3), (7, .if_icmp .ge 83, 3), (10, .iconst 1, 1), (11, .istore_n 3, 1), (12, .iload_n 3, 1), (13, .iload_n 2, 1), (14, .if_icmp .ge 70, 3), (17, .iconst 0, 1), (18, .istore 4, 2), (20, .iload 4, 2), (22, .iload_n 3, 1), (23, .if_icmp .ge 55, 3), (26, .iconst 1, 1), (27, .aload_n 1, 1), (28, .getfield 91, 3), (31, .iload_n 2, 1), (32, .iaload, 1), (33, .ishl, 1), (34, .iconst 1, 1), (35, .aload_n 1, 1), (36, .getfield 91, 3), (39, .iload_n 3, 1), (40, .iaload, 1), (41, .ishl, 1), (42, .ior, 1), (43, .istore 5, 2), (45, .iload 5, 2), (47, .iconst 1, 1), (48, .aload_n 1, 1), (49, .getfield 91, 3), (52, .iload 4, 2), (54, .iaload, 1), (55, .ishl, 1), (56, .ior, 1), (57, .istore 6, 2), (59, .aload_n 0, 1), (60, .aload_n 1, 1), (61, .iload 6, 2), (63, .invokevirtual 100, 3), (66, .ifCond .eq 6, 3), (69, .iload 6, 2), (71, .ireturn, 1), (72, .iinc 4 1, 3), (75, .goto (-55), 3), (78, .iinc 3 1, 3), (81, .goto (-69), 3), (84, .iinc 2 1, 3), (87, .goto (-85), 3), (90, .bipush (-2), 2), (92, .ireturn, 1)]
theorem mc_cdk_144 : mc_cdl_144.all (fun q => decide (decode prog_5_method_8_code q.1 = .ok q.2)) = true := by decide +kernel
def mc_cdl_145 : List (Nat × Instr × Nat) := [(0, .aload_n 0, 1), (1, .aload_n 0, 1), (2, .iload_n 1, 1), (3, .invokevirtual 132, 3), (6, .ifCond .eq 19, 3), (9, .aload_n 0, 1), (10, .getfield 51, 3), (13, .getfield 262, 3), (16, .iload_n 1, 1), (17, .iaload, 1), (18, .ifCond .lt 7, 3), (21, .iconst 1, 1), (22, .goto 4, 3), (25, .iconst 0, 1), (26, .invokevirtual 198, 3), (29, .istore_n 3, 1), (30, .iload_n 3, 1), (31, .ifCond .eq 12, 3), (34, .aload_n 0, 1), (35, .iload_n 3, 1), (36, .putfield 102, 3), (39, .sipush (-1000), 3), (42, .ireturn, 1), (43, .iload_n 2, 1), (44, .ifCond .eq 15, 3), (47, .aload_n 0, 1), (48, .getfield 30, 3), (51, .getfield 265, 3), (54, .iload_n 1, 1), (55, .iaload, 1), (56, .goto 12, 3), (59, .aload_n 0, 1), (60, .getfield 30, 3), (63, .getfield 268, 3), (66, .iload_n 1, 1), (67, .iaload, 1), (68, .istore 4, 2), (70, .aload_n 0, 1), (71, .aload_n 0, 1), (72, .getfield 51, 3), (75, .getfield 262, 3), (78, .iload_n 1, 1), (79, .iaload, 1), (80, .iload 4, 2), (82, .isub, 1), (83, .invokevirtual 99, 3), (86, .ireturn, 1)]
theorem mc_cdk_145 : mc_cdl_145.all (fun q => decide (decode prog_1_method_37_code q.1 = .ok q.2)) = true := by decide +kernel
def mc_cdl_146 : List (Nat × Instr × Nat) := [(0, .aload_n 0, 1), (1, .aload_n 0, 1), (2, .getfield 58, 3), (5, .invokevirtual 245, 3), (8, .istore_n 1, 1), (9, .iload_n 1, 1), (10, .ifCond .eq 9, 3), (13, .aload_n 0, 1), (14, .iload_n 1, 1), (15, .invokevirtual 70, 3), (18, .ireturn, 1), (19, .iconst 0, 1), (20, .istore_n 2, 1), (21, .aload_n 0, 1), (22, .getfield 23, 3), (25, .aload_n 0, 1), (26, .getfield 51, 3), (29, .invokevirtual 271, 3), (32, .iconst 0, 1), (33, .istore_n 3, 1), (34, .iload_n 3, 1), (35, .i2l, 1), (36, .aload_n 0, 1), (37, .getfield 51, 3), (40, .getfield 141, 3), (43, .lcmp, 1), (44, .ifCond .ge 51, 3), (47, .iload_n 3, 1), (48, .sipush 20000, 3), (51, .if_icmp .ge 44, 3), (54, .aload_n 0, 1), (55, .getfield 23, 3), (58, .invokevirtual 275, 3), (61, .ifCond .ne 17, 3), (64, .iload_n 2, 1), (65, .aload_n 0, 1), (66, .getfield 23, 3), (69, .aload_n 0, 1), (70, .getfield 51, 3), (73, .invokevirtual 278, 3), (76, .ior, 1), (77, .istore_n 2, 1), (78, .aload_n 0, 1), (79, .getfield 23, 3), (82, .aload_n 0, 1), (83, .getfield 51, 3), (86, .invokevirtual 281, 3), (89, .iinc 3 1, 3), (92, .goto (-58), 3), (95, .aload_n 0, 1), (96, .iload_n 2, 1), (97, .invokevirtual 99, 3), (100, .ireturn, 1)]
theorem mc_cdk_146 : mc_cdl_146.all (fun q => decide (decode prog_1_method_38_code q.1 = .ok q.2)) = true := by decide +kernel
def mc_cdl_147 : List (Nat × Instr × Nat) := [(0, .aload_n 1, 1), (1, .invokevirtual 88, 3), (4, .aload_n 0, 1), (5, .getfield 22, 3), (8, .aload_n 0, 1), (9, .getfield 51, 3), (12, .iaload, 1), (13, .iconst (-1), 1), (14, .ixor, 1), (15, .iand, 1), (16, .ireturn, 1)]
theorem mc_cdk_147 : mc_cdl_147.all (fun q => decide (decode prog_11_method_11_code q.1 = .ok q.2)) = true := by decide +kernel
end
section
/-! the methods' instructions, each as decode reads it (own work, wip/gen/codes.py) -/
def mc_cdl_148 : List (Nat × Instr × Nat) := [(0, .aload_n 0, 1), (1, .getfield 58, 3), (4, .ifCond .ne 9, 3), (7, .aload_n 0, 1), (8, .iconst 1, 1), (9, .invokevirtual 70, 3), (12, .ireturn, 1), (13, .aload_n 0, 1), (14, .aload_n 0, 1), (15, .getfield 51, 3), (18, .invokevirtual 284, 3), (21, .invokevirtual 99, 3), (24, .ireturn, 1)]
theorem mc_cdk_148 : mc_cdl_148.all (fun q => decide (decode prog_1_method_39_code q.1 = .ok q.2)) = true := by decide +kernel
def mc_cdl_149 : List (Nat × Instr × Nat) := [(0, .aload_n 0, 1), (1, .invokevirtual 96, 3), (4, .istore_n 1, 1), (5, .iconst 1, 1), (6, .istore_n 2, 1), (7, .iload_n 2, 1), (8, .aload_n 0, 1), (9, .getfield 62, 3), (12, .if_icmp .gt 46, 3), (15, .iconst 1, 1), (16, .istore_n 3, 1), (17, .iload_n 3, 1), (18, .iconst 1, 1), (19, .aload_n 0, 1), (20, .getfield 62, 3), (23, .ishl, 1), (24, .if_icmp .ge 28, 3), (27, .iload_n 3, 1), (28, .invokestatic 113, 3), (31, .iload_n 2, 1), (32, .if_icmp .ne 14, 3), (35, .aload_n 0, 1), (36, .iload_n 3, 1), (37, .invokevirtual 118, 3), (40, .iload_n 1, 1), (41, .if_icmp .ne 5, 3), (44, .iload_n 3, 1), (45, .ireturn, 1), (46, .iinc 3 1, 3), (49, .goto (-32), 3), (52, .iinc 2 1, 3), (55, .goto (-48), 3), (58, .bipush (-2), 2), (60, .ireturn, 1)]
theorem mc_cdk_149 : mc_cdl_149.all (fun q => decide (decode prog_6_method_13_code q.1 = .ok q.2)) = true := by decide +kernel
def mc_cdl_150 : List (Nat × Instr × Nat) := [(0, .iconst 0, 1), (1, .istore_n 2, 1), (2, .iconst 0, 1), (3, .istore_n 3, 1), (4, .iload_n 3, 1), (5, .aload_n 0, 1), (6, .getfield 62, 3), (9, .if_icmp .ge 26, 3), (12, .iload_n 1, 1), (13, .iload_n 3, 1), (14, .invokestatic 121, 3), (17, .ifCond .eq 12, 3), (20, .iload_n 2, 1), (21, .aload_n 0, 1), (22, .getfield 33, 3), (25, .iload_n 3, 1), (26, .iaload, 1), (27, .ior, 1), (28, .istore_n 2, 1), (29, .iinc 3 1, 3), (32, .goto (-28), 3), (35, .iload_n 2, 1), (36, .ireturn, 1)]
theorem mc_cdk_150 : mc_cdl_150.all (fun q => decide (decode prog_6_method_14_code q.1 = .ok q.2)) = true := by decide +kernel
def mc_cdl_151 : List (Nat × Instr × Nat) := [(0, .aload_n 0, 1), (1, .getfield 58, 3), (4, .ifCond .ne 9, 3), (7, .aload_n 0, 1), (8, .iconst 1, 1), (9, .invokevirtual 70, 3), (12, .ireturn, 1), (13, .iload_n 1, 1), (14, .ifCond .lt 9, 3), (17, .iload_n 1, 1), (18, .bipush 99, 2), (20, .if_icmp .le 9, 3), (23, .aload_n 0, 1), (24, .iconst 2, 1), (25, .invokevirtual 70, 3), (28, .ireturn, 1), (29, .aload_n 0, 1), (30, .aload_n 0, 1), (31, .getfield 51, 3), (34, .iload_n 1, 1), (35, .invokevirtual 288, 3), (38, .invokevirtual 99, 3), (41, .ireturn, 1)]
theorem mc_cdk_151 : mc_cdl_151.all (fun q => decide (decode prog_1_method_40_code q.1 = .ok q.2)) = true := by decide +kernel
def mc_cdl_152 : List (Nat × Instr × Nat) := [(0, .aload_n 0, 1), (1, .iload_n 1, 1), (2, .invokevirtual 132, 3), (5, .ifCond .ne 9, 3), (8, .aload_n 0, 1), (9, .iconst 1, 1), (10, .invokevirtual 70, 3), (13, .ireturn, 1), (14, .iload_n 2, 1), (15, .ifCond .lt 9, 3), (18, .iload_n 2, 1), (19, .bipush 99, 2), (21, .if_icmp .le 9, 3), (24, .aload_n 0, 1), (25, .iconst 2, 1), (26, .invokevirtual 70, 3), (29, .ireturn, 1), (30, .aload_n 0, 1), (31, .getfield 51, 3), (34, .iload_n 1, 1), (35, .iload_n 2, 1), (36, .invokevirtual 291, 3), (39, .aload_n 0, 1), (40, .getfield 30, 3), (43, .invokevirtual 93, 3), (46, .aload_n 0, 1), (47, .aload_n 0, 1), (48, .getfield 51, 3), (51, .getfield 295, 3), (54, .invokevirtual 99, 3), (57, .ireturn, 1)]
theorem mc_cdk_152 : mc_cdl_152.all (fun q => decide (decode prog_1_method_41_code q.1 = .ok q.2)) = true := by decide +kernel
def mc_cdl_153 : List (Nat × Instr × Nat) := [(0, .aload_n 0, 1), (1, .iload_n 1, 1), (2, .invokevirtual 132, 3), (5, .ifCond .eq 15, 3), (8, .aload_n 0, 1), (9, .getfield 51, 3), (12, .getfield 262, 3), (15, .iload_n 1, 1), (16, .iaload, 1), (17, .ifCond .ge 9, 3), (20, .aload_n 0, 1), (21, .iconst 1, 1), (22, .invokevirtual 145, 3), (25, .ireturn, 1), (26, .aload_n 0, 1), (27, .getfield 51, 3), (30, .iload_n 1, 1), (31, .bipush (-2), 2), (33, .invokevirtual 291, 3), (36, .aload_n 0, 1), (37, .getfield 30, 3), (40, .invokevirtual 93, 3), (43, .aload_n 0, 1), (44, .invokevirtual 151, 3), (47, .ireturn, 1)]
theorem mc_cdk_153 : mc_cdl_153.all (fun q => decide (decode prog_1_method_42_code q.1 = .ok q.2)) = true := by decide +kernel
def mc_cdl_154 : List (Nat × Instr × Nat) := [(0, .aload_n 0, 1), (1, .iload_n 1, 1), (2, .invokevirtual 132, 3), (5, .ifCond .ne 9, 3), (8, .aload_n 0, 1), (9, .iconst 1, 1), (10, .invokevirtual 70, 3), (13, .ireturn, 1), (14, .aload_n 0, 1), (15, .aload_n 0, 1), (16, .getfield 51, 3), (19, .getfield 262, 3), (22, .iload_n 1, 1), (23, .iaload, 1), (24, .invokevirtual 99, 3), (27, .ireturn, 1)]
theorem mc_cdk_154 : mc_cdl_154.all (fun q => decide (decode prog_1_method_43_code q.1 = .ok q.2)) = true := by decide +kernel
def mc_cdl_155 : List (Nat × Instr × Nat) := [(0, .aload_n 0, 1), (1, .aload_n 0, 1), (2, .getfield 58, 3), (5, .invokevirtual 174, 3), (8, .istore_n 1, 1), (9, .iload_n 1, 1), (10, .ifCond .eq 9, 3), (13, .aload_n 0, 1), (14, .iload_n 1, 1), (15, .invokevirtual 70, 3), (18, .ireturn, 1), (19, .aload_n 0, 1), (20, .getfield 30, 3), (23, .aload_n 0, 1), (24, .getfield 51, 3), (27, .getfield 298, 3), (30, .aload_n 0, 1), (31, .getfield 51, 3), (34, .invokevirtual 301, 3), (37, .istore_n 2, 1), (38, .iload_n 2, 1), (39, .ifCond .ge 10, 3), (42, .aload_n 0, 1), (43, .bipush 6, 2), (45, .invokevirtual 70, 3), (48, .ireturn, 1), (49, .aload_n 0, 1), (50, .getfield 51, 3), (53, .iload_n 2, 1), (54, .iconst 1, 1), (55, .iadd, 1), (56, .putfield 298, 3), (59, .aload_n 0, 1), (60, .iload_n 2, 1), (61, .invokevirtual 99, 3), (64, .ireturn, 1)]
theorem mc_cdk_155 : mc_cdl_155.all (fun q => decide (decode prog_1_method_44_code q.1 = .ok q.2)) = true := by decide +kernel
def mc_cdl_156 : List (Nat × Instr × Nat) := [(0, .aload_n 0, 1), (1, .aload_n 0, 1), (2, .iload_n 2, 1), (3, .invokevirtual 105, 3), (6, .ifCond .eq 24, 3), (9, .iload_n 1, 1), (10, .ifCond .lt 20, 3), (13, .iload_n 1, 1), (14, .i2l, 1), (15, .aload_n 0, 1), (16, .getfield 51, 3), (19, .getfield 141, 3), (22, .lcmp, 1), (23, .ifCond .ge 7, 3), (26, .iconst 1, 1), (27, .goto 4, 3), (30, .iconst 0, 1), (31, .invokevirtual 245, 3), (34, .istore_n 3, 1), (35, .iload_n 3, 1), (36, .ifCond .eq 9, 3), (39, .aload_n 0, 1), (40, .iload_n 3, 1), (41, .invokevirtual 70, 3), (44, .ireturn, 1), (45, .aload_n 0, 1), (46, .aload_n 0, 1), (47, .getfield 51, 3), (50, .iload_n 1, 1), (51, .iload_n 2, 1), (52, .invokevirtual 183, 3), (55, .invokevirtual 99, 3), (58, .ireturn, 1)]
theorem mc_cdk_156 : mc_cdl_156.all (fun q => decide (decode prog_1_method_45_code q.1 = .ok q.2)) = true := by decide +kernel
def mc_cdl_157 : List (Nat × Instr × Nat) := [(0, .aload_n 0, 1), (1, .getfield 58, 3), (4, .ifCond .ne 9, 3), (7, .aload_n 0, 1), (8, .iconst 1, 1), (9, .invokevirtual 145, 3), (12, .ireturn, 1), (13, .aload_n 0, 1), (14, .getfield 51, 3), (17, .iconst 0, 1), (18, .putfield 298, 3), (21, .aload_n 0, 1), (22, .invokevirtual 151, 3), (25, .ireturn, 1)]
theorem mc_cdk_157 : mc_cdl_157.all (fun q => decide (decode prog_1_method_46_code q.1 = .ok q.2)) = true := by decide +kernel
def mc_cdl_158 : List (Nat × Instr × Nat) := [(0, .aload_n 0, 1), (1, .getfield 58, 3), (4, .ifCond .ne 10, 3), (7, .aload_n 0, 1), (8, .iconst 1, 1), (9, .invokevirtual 70, 3), (12, .i2l, 1), (13, .lreturn, 1), (14, .aload_n 0, 1), (15, .iconst 0, 1), (16, .putfield 102, 3), (19, .aload_n 0, 1), (20, .getfield 51, 3), (23, .invokevirtual 305, 3), (26, .lreturn, 1)]
theorem mc_cdk_158 : mc_cdl_158.all (fun q => decide (decode prog_1_method_47_code q.1 = .ok q.2)) = true := by decide +kernel
def mc_cdl_159 : List (Nat × Instr × Nat) := [(0, .aload_n 0, 1), (1, .getfield 68, 3), (4, .i2l, 1), (5, .lstore_n 1, 1), (6, .iconst 0, 1), (7, .istore_n 3, 1), (8, .iload_n 3, 1), (9, .aload_n 0, 1), (10, .getfield 50, 3), (13, .if_icmp .ge 26, 3), (16, .lload_n 1, 1), (17, .ldc2_w 125, 3), (20, .lmul, 1), (21, .aload_n 0, 1), (22, .getfield 11, 3), (25, .iload_n 3, 1), (26, .aaload, 1), (27, .getfield 127, 3), (30, .i2l, 1), (31, .ladd, 1), (32, .lstore_n 1, 1), (33, .iinc 3 1, 3), (36, .goto (-28), 3), (39, .lload_n 1, 1), (40, .lreturn, 1)]
theorem mc_cdk_159 : mc_cdl_159.all (fun q => decide (decode prog_6_method_15_code q.1 = .ok q.2)) = true := by decide +kernel
def mc_cdl_160 : List (Nat × Instr × Nat) := [(0, .aload_n 0, 1), (1, .getfield 58, 3), (4, .ifCond .ne 9, 3), (7, .aload_n 0, 1), (8, .iconst 1, 1), (9, .invokevirtual 145, 3), (12, .ireturn, 1), (13, .aload_n 0, 1), (14, .getfield 51, 3), (17, .lload_n 1, 1), (18, .invokevirtual 309, 3), (21, .ifCond .ne 9, 3), (24, .aload_n 0, 1), (25, .iconst 2, 1), (26, .invokevirtual 145, 3), (29, .ireturn, 1), (30, .aload_n 0, 1), (31, .getfield 51, 3), (34, .lload_n 1, 1), (35, .invokevirtual 313, 3), (38, .aload_n 0, 1), (39, .invokevirtual 151, 3), (42, .ireturn, 1)]
theorem mc_cdk_160 : mc_cdl_160.all (fun q => decide (decode prog_1_method_48_code q.1 = .ok q.2)) = true := by decide +kernel
def mc_cdl_161 : List (Nat × Instr × Nat) := [(0, .lload_n 1, 1), (1, .lstore_n 3, 1), (2, .aload_n 0, 1), (3, .getfield 50, 3), (6, .iconst 1, 1), (7, .isub, 1), (8, .istore 5, 2), (10, .iload 5, 2), (12, .ifCond .lt 48, 3), (15, .lload_n 3, 1), (16, .ldc2_w 125, 3), (19, .lrem, 1), (20, .lstore 6, 2), (22, .lload 6, 2), (24, .lconst 0, 1), (25, .lcmp, 1), (26, .ifCond .eq 22, 3), (29, .lload 6, 2), (31, .aload_n 0, 1), (32, .getfield 11, 3), (35, .iload 5, 2), (37, .aaload, 1), (38, .getfield 110, 3), (41, .i2l, 1), (42, .lcmp, 1), (43, .ifCond .lt 5, 3), (46, .iconst 0, 1), (47, .ireturn, 1), (48, .lload_n 3, 1), (49, .ldc2_w 125, 3), (52, .ldiv, 1), (53, .lstore_n 3, 1), (54, .iinc 5 (-1), 3), (57, .goto (-47), 3), (60, .lload_n 1, 1), (61, .lconst 0, 1), (62, .lcmp, 1), (63, .ifCond .lt 15, 3), (66, .lload_n 3, 1), (67, .ldc2_w 130, 3), (70, .lcmp, 1), (71, .ifCond .gt 7, 3), (74, .iconst 1, 1), (75, .goto 4, 3), (78, .iconst 0, 1), (79, .ireturn, 1)]
theorem mc_cdk_161 : mc_cdl_161.all (fun q => decide (decode prog_6_method_16_code q.1 = .ok q.2)) = true := by decide +kernel
def mc_cdl_162 : List (Nat × Instr × Nat) := [(0, .lload_n 1, 1), (1, .lstore_n 3, 1), (2, .aload_n 0, 1), (3, .getfield 50, 3), (6, .iconst 1, 1), (7, .isub, 1), (8, .istore 5, 2), (10, .iload 5, 2), (12, .ifCond .lt 31, 3), (15, .aload_n 0, 1), (16, .getfield 11, 3), (19, .iload 5, 2), (21, .aaload, 1), (22, .lload_n 3, 1), (23, .ldc2_w 125, 3), (26, .lrem, 1), (27, .l2i, 1), (28, .putfield 127, 3), (31, .lload_n 3, 1), (32, .ldc2_w 125, 3), (35, .ldiv, 1), (36, .lstore_n 3, 1), (37, .iinc 5 (-1), 3), (40, .goto (-30), 3), (43, .aload_n 0, 1), (44, .lload_n 3, 1), (45, .l2i, 1), (46, .putfield 68, 3), (49, .return_, 1)]
theorem mc_cdk_162 : mc_cdl_162.all (fun q => decide (decode prog_6_method_17_code q.1 = .ok q.2)) = true := by decide +kernel
def mc_cdl_163 : List (Nat × Instr × Nat) := [(0, .iload_n 1, 1), (1, .tableswitch 143 0 9 #[55, 63, 71, 79, 87, 95, 103, 111, 130, 138], 55), (56, .aload_n 0, 1), (57, .getfield 51, 3), (60, .getfield 96, 3), (63, .ireturn, 1), (64, .aload_n 0, 1), (65, .getfield 51, 3), (68, .getfield 327, 3), (71, .ireturn, 1), (72, .aload_n 0, 1), (73, .getfield 51, 3), (76, .getfield 330, 3), (79, .ireturn, 1), (80, .aload_n 0, 1), (81, .getfield 51, 3), (84, .getfield 295, 3), (87, .ireturn, 1), (88, .aload_n 0, 1), (89, .getfield 51, 3), (92, .getfield 333, 3), (95, .ireturn, 1), (96, .aload_n 0, 1), (97, .getfield 51, 3), (100, .getfield 336, 3), (103, .ireturn, 1), (104, .aload_n 0, 1), (105, .getfield 51, 3), (108, .getfield 339, 3), (111, .ireturn, 1), (112, .aload_n 0, 1), (113, .getfield 58, 3), (116, .ifCond .eq 13, 3), (119, .aload_n 0, 1), (120, .getfield 51, 3), (123, .getfield 342, 3), (126, .goto 4, 3), (129, .iconst 0, 1), (130, .ireturn, 1), (131, .aload_n 0, 1), (132, .getfield 51, 3), (135, .getfield 298, 3), (138, .ireturn, 1), (139, .aload_n 0, 1), (140, .getfield 62, 3), (143, .ireturn, 1), (144, .iconst (-1), 1), (145, .ireturn, 1)]
theorem mc_cdk_163 : mc_cdl_163.all (fun q => decide (decode prog_1_method_50_code q.1 = .ok q.2)) = true := by decide +kernel
def mc_cdl_164 : List (Nat × Instr × Nat) := [(0, .aload_n 0, 1), (1, .getfield 102, 3), (4, .ireturn, 1)]
theorem mc_cdk_164 : mc_cdl_164.all (fun q => decide (decode prog_1_method_51_code q.1 = .ok q.2)) = true := by decide +kernel
def mc_cdl_165 : List (Nat × Instr × Nat) := [(0, .iconst 0, 1), (1, .istore_n 2, 1), (2, .iconst 0, 1), (3, .istore_n 3, 1), (4, .iload_n 3, 1), (5, .aload_n 0, 1), (6, .getfield 51, 3), (9, .getfield 96, 3), (12, .if_icmp .ge 34, 3), (15, .aload_n 0, 1), (16, .getfield 51, 3), (19, .getfield 109, 3), (22, .iload_n 3, 1), (23, .aaload, 1), (24, .getfield 317, 3), (27, .ifCond .eq 13, 3), (30, .iload_n 2, 1), (31, .iload_n 1, 1), (32, .if_icmp .ne 5, 3), (35, .iload_n 3, 1), (36, .ireturn, 1), (37, .iinc 2 1, 3), (40, .iinc 3 1, 3), (43, .goto (-39), 3), (46, .new 320, 3), (49, .dup, 1), (50, .ldc_w 322, 3), (53, .invokespecial 324, 3), (56, .athrow, 1)]
theorem mc_cdk_165 : mc_cdl_165.all (fun q => decide (decode prog_1_method_49_code q.1 = .ok q.2)) = true := by decide +kernel
def mc_cdl_166 : List (Nat × Instr × Nat) := [(0, .aload_n 0, 1), (1, .invokespecial 1, 3), (4, .aload_n 0, 1), (5, .iconst (-1), 1), (6, .putfield 9, 3), (9, .aload_n 0, 1), (10, .sipush 900, 3), (13, .newarray .byte, 2), (15, .putfield 13, 3), (18, .aload_n 0, 1), (19, .bipush 24, 2), (21, .newarray .int, 2), (23, .putfield 17, 3), (26, .aload_n 0, 1), (27, .bipush 6, 2), (29, .newarray .int, 2), (31, .putfield 21, 3), (34, .aload_n 0, 1), (35, .sipush 240, 3), (38, .newarray .int, 2), (40, .putfield 24, 3), (43, .aload_n 0, 1), (44, .sipush 240, 3), (47, .newarray .int, 2), (49, .putfield 27, 3), (52, .aload_n 0, 1), (53, .sipush 240, 3), (56, .newarray .int, 2), (58, .putfield 30, 3), (61, .aload_n 0, 1), (62, .sipush 240, 3), (65, .newarray .int, 2), (67, .putfield 33, 3), (70, .aload_n 0, 1), (71, .bipush 6, 2), (73, .newarray .int, 2), (75, .putfield 36, 3), (78, .aload_n 0, 1), (79, .bipush 6, 2), (81, .newarray .int, 2), (83, .putfield 39, 3), (86, .aload_n 0, 1), (87, .sipush 20000, 3), (90, .newarray .int, 2), (92, .putfield 42, 3), (95, .aload_n 0, 1), (96, .bipush 6, 2), (98, .newarray .int, 2), (100, .putfield 45, 3), (103, .return_, 1)]
theorem mc_cdk_166 : mc_cdl_166.all (fun q => decide (decode prog_13_method_1_code q.1 = .ok q.2)) = true := by decide +kernel
def mc_cdl_167 : List (Nat × Instr × Nat) := [(0, .aload_n 0, 1), (1, .getfield 48, 3), (4, .ireturn, 1)]
theorem mc_cdk_167 : mc_cdl_167.all (fun q => decide (decode prog_13_method_2_code q.1 = .ok q.2)) = true := by decide +kernel
def mc_cdl_168 : List (Nat × Instr × Nat) := [(0, .aload_n 0, 1), (1, .iconst 0, 1), (2, .putfield 48, 3), (5, .aload_n 0, 1), (6, .getfield 330, 3), (9, .bipush 20, 2), (11, .iadd, 1), (12, .sipush 900, 3), (15, .if_icmp .le 5, 3), (18, .iconst (-1), 1), (19, .ireturn, 1), (20, .iconst 0, 1), (21, .istore 6, 2), (23, .iload 6, 2), (25, .bipush 20, 2), (27, .if_icmp .ge 90, 3), (30, .iload 6, 2), (32, .iconst 4, 1), (33, .if_icmp .ge 7, 3), (36, .iload_n 1, 1), (37, .goto 39, 3), (40, .iload 6, 2), (42, .bipush 8, 2), (44, .if_icmp .ge 7, 3), (47, .iload_n 2, 1), (48, .goto 28, 3), (51, .iload 6, 2), (53, .bipush 12, 2), (55, .if_icmp .ge 7, 3), (58, .iload_n 3, 1), (59, .goto 17, 3), (62, .iload 6, 2), (64, .bipush 16, 2), (66, .if_icmp .ge 8, 3), (69, .iload 4, 2), (71, .goto 5, 3), (74, .iload 5, 2), (76, .istore 7, 2), (78, .aload_n 0, 1), (79, .getfield 13, 3), (82, .aload_n 0, 1), (83, .getfield 330, 3), (86, .iload 7, 2), (88, .bipush 24, 2), (90, .bipush 8, 2), (92, .iload 6, 2), (94, .iconst 4, 1), (95, .irem, 1), (96, .imul, 1), (97, .isub, 1), (98, .ishr, 1), (99, .i2b, 1), (100, .bastore, 1), (101, .aload_n 0, 1), (102, .dup, 1), (103, .getfield 330, 3), (106, .iconst 1, 1), (107, .iadd, 1), (108, .putfield 330, 3), (111, .iinc 6 1, 3), (114, .goto (-91), 3), (117, .aload_n 0, 1), (118, .getfield 330, 3), (121, .ireturn, 1)]
theorem mc_cdk_168 : mc_cdl_168.all (fun q => decide (decode prog_13_method_43_code q.1 = .ok q.2)) = true := by decide +kernel
def mc_cdl_169 : List (Nat × Instr × Nat) := [(0, .aload_n 0, 1), (1, .iconst 0, 1), (2, .putfield 48, 3), (5, .iload_n 1, 1), (6, .ifCond .lt 11, 3), (9, .iload_n 1, 1), (10, .aload_n 0, 1), (11, .getfield 330, 3), (14, .if_icmp .le 9, 3), (17, .aload_n 0, 1), (18, .iconst 2, 1), (19, .invokevirtual 54, 3), (22, .ireturn, 1), (23, .aload_n 0, 1), (24, .iload_n 1, 1), (25, .putfield 61, 3), (28, .aload_n 0, 1), (29, .iconst 0, 1), (30, .putfield 330, 3), (33, .aload_n 0, 1), (34, .iconst 0, 1), (35, .putfield 78, 3), (38, .aload_n 0, 1), (39, .iconst 0, 1), (40, .putfield 104, 3), (43, .aload_n 0, 1), (44, .iconst 0, 1), (45, .putfield 293, 3), (48, .aload_n 0, 1), (49, .new 171, 3), (52, .dup, 1), (53, .invokespecial 333, 3), (56, .putfield 166, 3), (59, .aload_n 0, 1), (60, .iconst 0, 1), (61, .putfield 75, 3), (64, .aload_n 0, 1), (65, .invokevirtual 118, 3), (68, .aload_n 0, 1), (69, .invokevirtual 334, 3), (72, .aload_n 0, 1), (73, .getfield 104, 3), (76, .ifCond .le 18, 3), (79, .aload_n 0, 1), (80, .iconst 4, 1), (81, .putfield 51, 3), (84, .aload_n 0, 1), (85, .aload_n 0, 1), (86, .getfield 107, 3), (89, .putfield 9, 3), (92, .iconst (-1), 1), (93, .ireturn, 1), (94, .aload_n 0, 1), (95, .aload_n 0, 1), (96, .getfield 166, 3), (99, .putfield 337, 3), (102, .aload_n 0, 1), (103, .iconst 0, 1), (104, .putfield 340, 3), (107, .aload_n 0, 1), (108, .iconst 1, 1), (109, .aload_n 0, 1), (110, .getfield 337, 3), (113, .getfield 185, 3), (116, .ishl, 1), (117, .iconst 1, 1), (118, .isub, 1), (119, .putfield 343, 3), (122, .iconst 0, 1), (123, .istore_n 2, 1), (124, .iload_n 2, 1), (125, .bipush 24, 2), (127, .if_icmp .ge 39, 3), (130, .aload_n 0, 1), (131, .getfield 17, 3), (134, .iload_n 2, 1), (135, .aload_n 0, 1), (136, .getfield 343, 3), (139, .iload_n 2, 1), (140, .invokestatic 346, 3), (143, .ifCond .eq 15, 3), (146, .aload_n 0, 1), (147, .getfield 337, 3), (150, .getfield 296, 3), (153, .iload_n 2, 1), (154, .iaload, 1), (155, .goto 4, 3), (158, .iconst 0, 1), (159, .iastore, 1), (160, .iinc 2 1, 3), (163, .goto (-39), 3), (166, .iconst 0, 1), (167, .istore_n 2, 1), (168, .iload_n 2, 1), (169, .bipush 6, 2), (171, .if_icmp .ge 16, 3), (174, .aload_n 0, 1), (175, .getfield 36, 3), (178, .iload_n 2, 1), (179, .iconst 0, 1), (180, .iastore, 1), (181, .iinc 2 1, 3), (184, .goto (-16), 3), (187, .aload_n 0, 1), (188, .invokevirtual 350, 3), (191, .aload_n 0, 1), (192, .iconst 0, 1), (193, .putfield 353, 3), (196, .aload_n 0, 1), (197, .aload_n 0, 1), (198, .getfield 337, 3), (201, .getfield 188, 3), (204, .invokevirtual 58, 3), (207, .ireturn, 1)]
theorem mc_cdk_169 : mc_cdl_169.all (fun q => decide (decode prog_13_method_44_code q.1 = .ok q.2)) = true := by decide +kernel
def mc_cdl_170 : List (Nat × Instr × Nat) := [(0, .aload_n 0, 1), (1, .iload_n 1, 1), (2, .putfield 51, 3), (5, .aload_n 0, 1), (6, .iconst (-1), 1), (7, .putfield 9, 3), (10, .iconst (-1), 1), (11, .ireturn, 1)]
theorem mc_cdk_170 : mc_cdl_170.all (fun q => decide (decode prog_13_method_3_code q.1 = .ok q.2)) = true := by decide +kernel
def mc_cdl_171 : List (Nat × Instr × Nat) := [(0, .aload_n 0, 1), (1, .invokespecial 3, 3), (4, .aload_n 0, 1), (5, .iconst (-1), 1), (6, .putfield 9, 3), (9, .aload_n 0, 1), (10, .bipush 6, 2), (12, .newarray .long, 2), (14, .putfield 15, 3), (17, .aload_n 0, 1), (18, .bipush 6, 2), (20, .newarray .int, 2), (22, .putfield 19, 3), (25, .aload_n 0, 1), (26, .bipush 6, 2), (28, .newarray .int, 2), (30, .putfield 23, 3), (33, .aload_n 0, 1), (34, .bipush 6, 2), (36, .newarray .int, 2), (38, .putfield 26, 3), (41, .aload_n 0, 1), (42, .bipush 6, 2), (44, .newarray .int, 2), (46, .putfield 29, 3), (49, .aload_n 0, 1), (50, .bipush 6, 2), (52, .newarray .int, 2), (54, .putfield 32, 3), (57, .aload_n 0, 1), (58, .bipush 6, 2), (60, .newarray .int, 2), (62, .putfield 35, 3), (65, .aload_n 0, 1), (66, .bipush 6, 2), (68, .newarray .int, 2), (70, .putfield 38, 3), (73, .aload_n 0, 1), (74, .bipush 6, 2), (76, .newarray .boolean, 2), (78, .putfield 41, 3), (81, .aload_n 0, 1), (82, .iconst 3, 1), (83, .newarray .int, 2), (85, .putfield 45, 3), (88, .aload_n 0, 1), (89, .iconst 3, 1), (90, .newarray .int, 2), (92, .putfield 48, 3), (95, .aload_n 0, 1), (96, .iconst 3, 1), (97, .newarray .int, 2), (99, .putfield 51, 3), (102, .aload_n 0, 1), (103, .bipush 24, 2), (105, .newarray .int, 2), (107, .putfield 54, 3), (110, .aload_n 0, 1), (111, .iconst 4, 1), (112, .newarray .int, 2), (114, .putfield 57, 3), (117, .aload_n 0, 1), (118, .iconst 4, 1), (119, .newarray .int, 2), (121, .putfield 60, 3), (124, .aload_n 0, 1), (125, .iconst 4, 1), (126, .newarray .int, 2), (128, .putfield 63, 3), (131, .aload_n 0, 1), (132, .bipush 6, 2), (134, .newarray .int, 2), (136, .putfield 66, 3), (139, .aload_n 0, 1), (140, .bipush 6, 2), (142, .newarray .int, 2), (144, .putfield 69, 3), (147, .return_, 1)]
theorem mc_cdk_171 : mc_cdl_171.all (fun q => decide (decode prog_14_method_1_code q.1 = .ok q.2)) = true := by decide +kernel
def mc_cdl_172 : List (Nat × Instr × Nat) := [(0, .aload_n 0, 1), (1, .getfield 75, 3), (4, .iconst 5, 1), (5, .if_icmp .ne 4, 3), (8, .return_, 1), (9, .aload_n 0, 1), (10, .aload_n 0, 1), (11, .getfield 78, 3), (14, .invokevirtual 81, 3), (17, .bipush 32, 2), (19, .if_icmp .ne 16, 3), (22, .aload_n 0, 1), (23, .dup, 1), (24, .getfield 78, 3), (27, .iconst 1, 1), (28, .iadd, 1), (29, .putfield 78, 3), (32, .goto (-23), 3), (35, .aload_n 0, 1), (36, .aload_n 0, 1), (37, .getfield 78, 3), (40, .putfield 84, 3), (43, .aload_n 0, 1), (44, .iconst 0, 1), (45, .putfield 75, 3), (48, .aload_n 0, 1), (49, .iconst 0, 1), (50, .putfield 87, 3), (53, .aload_n 0, 1), (54, .aload_n 0, 1), (55, .getfield 78, 3), (58, .invokevirtual 81, 3), (61, .istore_n 1, 1), (62, .iconst 0, 1), (63, .istore_n 2, 1), (64, .iload_n 1, 1), (65, .iconst (-1), 1), (66, .if_icmp .ne 11, 3), (69, .aload_n 0, 1), (70, .iconst 1, 1), (71, .putfield 75, 3), (74, .goto 207, 3), (77, .iload_n 1, 1), (78, .invokestatic 90, 3), (81, .ifCond .eq 85, 3), (84, .aload_n 0, 1), (85, .lconst 0, 1), (86, .putfield 94, 3), (89, .aload_n 0, 1), (90, .aload_n 0, 1), (91, .getfield 78, 3), (94, .invokevirtual 81, 3), (97, .invokestatic 90, 3), (100, .ifCond .eq 52, 3), (103, .iload_n 2, 1), (104, .bipush 8, 2), (106, .if_icmp .ge 30, 3), (109, .aload_n 0, 1), (110, .ldc2_w 69, 3), (113, .aload_n 0, 1), (114, .getfield 94, 3), (117, .lmul, 1), (118, .aload_n 0, 1), (119, .aload_n 0, 1), (120, .getfield 78, 3), (123, .invokevirtual 81, 3), (126, .bipush 97, 2), (128, .isub, 1), (129, .iconst 1, 1), (130, .iadd, 1), (131, .i2l, 1), (132, .ladd, 1), (133, .putfield 94, 3), (136, .iinc 2 1, 3), (139, .aload_n 0, 1), (140, .dup, 1), (141, .getfield 78, 3), (144, .iconst 1, 1), (145, .iadd, 1), (146, .putfield 78, 3), (149, .goto (-60), 3), (152, .iload_n 2, 1), (153, .bipush 8, 2), (155, .if_icmp .gt 126, 3), (158, .aload_n 0, 1), (159, .iconst 2, 1), (160, .putfield 75, 3), (163, .goto 118, 3), (166, .iload_n 1, 1), (167, .invokestatic 98, 3), (170, .ifCond .eq 79, 3), (173, .aload_n 0, 1), (174, .iconst 0, 1), (175, .putfield 101, 3), (178, .aload_n 0, 1), (179, .aload_n 0, 1), (180, .getfield 78, 3), (183, .invokevirtual 81, 3), (186, .invokestatic 98, 3), (189, .ifCond .eq 47, 3), (192, .iload_n 2, 1), (193, .iconst 3, 1), (194, .if_icmp .ge 26, 3), (197, .aload_n 0, 1), (198, .bipush 10, 2), (200, .aload_n 0, 1), (201, .getfield 101, 3), (204, .imul, 1), (205, .aload_n 0, 1), (206, .aload_n 0, 1), (207, .getfield 78, 3), (210, .invokevirtual 81, 3), (213, .iadd, 1), (214, .bipush 48, 2), (216, .isub, 1), (217, .putfield 101, 3), (220, .iinc 2 1, 3), (223, .aload_n 0, 1), (224, .dup, 1), (225, .getfield 78, 3), (228, .iconst 1, 1), (229, .iadd, 1), (230, .putfield 78, 3), (233, .goto (-55), 3), (236, .iload_n 2, 1), (237, .iconst 3, 1), (238, .if_icmp .gt 43, 3), (241, .aload_n 0, 1), (242, .iconst 3, 1), (243, .putfield 75, 3), (246, .goto 35, 3), (249, .iload_n 1, 1), (250, .bipush 59, 2), (252, .if_icmp .eq 9, 3), (255, .iload_n 1, 1), (256, .bipush 44, 2), (258, .if_icmp .ne 23, 3), (261, .aload_n 0, 1), (262, .iconst 4, 1), (263, .putfield 75, 3), (266, .aload_n 0, 1), (267, .iload_n 1, 1), (268, .putfield 87, 3), (271, .aload_n 0, 1), (272, .dup, 1), (273, .getfield 78, 3), (276, .iconst 1, 1), (277, .iadd, 1), (278, .putfield 78, 3), (281, .return_, 1)]
theorem mc_cdk_172 : mc_cdl_172.all (fun q => decide (decode prog_13_method_17_code q.1 = .ok q.2)) = true := by decide +kernel
def mc_cdl_173 : List (Nat × Instr × Nat) := [(0, .iload_n 1, 1), (1, .aload_n 0, 1), (2, .getfield 61, 3), (5, .if_icmp .ge 16, 3), (8, .aload_n 0, 1), (9, .getfield 13, 3), (12, .iload_n 1, 1), (13, .baload, 1), (14, .sipush 255, 3), (17, .iand, 1), (18, .goto 4, 3), (21, .iconst (-1), 1), (22, .ireturn, 1)]
theorem mc_cdk_173 : mc_cdl_173.all (fun q => decide (decode prog_13_method_13_code q.1 = .ok q.2)) = true := by decide +kernel
def mc_cdl_174 : List (Nat × Instr × Nat) := [(0, .iload_n 0, 1), (1, .bipush 97, 2), (3, .if_icmp .lt 13, 3), (6, .iload_n 0, 1), (7, .bipush 122, 2), (9, .if_icmp .gt 7, 3), (12, .iconst 1, 1), (13, .goto 4, 3), (16, .iconst 0, 1), (17, .ireturn, 1)]
theorem mc_cdk_174 : mc_cdl_174.all (fun q => decide (decode prog_13_method_14_code q.1 = .ok q.2)) = true := by decide +kernel
def mc_cdl_175 : List (Nat × Instr × Nat) := [(0, .iload_n 0, 1), (1, .bipush 48, 2), (3, .if_icmp .lt 13, 3), (6, .iload_n 0, 1), (7, .bipush 57, 2), (9, .if_icmp .gt 7, 3), (12, .iconst 1, 1), (13, .goto 4, 3), (16, .iconst 0, 1), (17, .ireturn, 1)]
theorem mc_cdk_175 : mc_cdl_175.all (fun q => decide (decode prog_13_method_15_code q.1 = .ok q.2)) = true := by decide +kernel
def mc_cdl_176 : List (Nat × Instr × Nat) := [(0, .iconst 1, 1), (1, .istore_n 1, 1), (2, .iload_n 1, 1), (3, .ifCond .eq 17, 3), (6, .aload_n 0, 1), (7, .invokevirtual 179, 3), (10, .aload_n 0, 1), (11, .bipush 59, 2), (13, .invokevirtual 182, 3), (16, .istore_n 1, 1), (17, .goto (-15), 3), (20, .aload_n 0, 1), (21, .getfield 75, 3), (24, .iconst 1, 1), (25, .if_icmp .eq 8, 3), (28, .aload_n 0, 1), (29, .iconst 1, 1), (30, .invokevirtual 121, 3), (33, .aload_n 0, 1), (34, .getfield 166, 3), (37, .getfield 185, 3), (40, .ifCond .eq 13, 3), (43, .aload_n 0, 1), (44, .getfield 166, 3), (47, .getfield 188, 3), (50, .ifCond .ne 9, 3), (53, .aload_n 0, 1), (54, .bipush 6, 2), (56, .invokevirtual 121, 3), (59, .return_, 1)]
theorem mc_cdk_176 : mc_cdl_176.all (fun q => decide (decode prog_13_method_31_code q.1 = .ok q.2)) = true := by decide +kernel
def mc_cdl_177 : List (Nat × Instr × Nat) := [(0, .aload_n 0, 1), (1, .ldc 140, 2), (3, .invokevirtual 114, 3), (6, .ifCond .eq 10, 3), (9, .aload_n 0, 1), (10, .invokevirtual 191, 3), (13, .goto 120, 3), (16, .aload_n 0, 1), (17, .ldc 142, 2), (19, .invokevirtual 114, 3), (22, .ifCond .eq 10, 3), (25, .aload_n 0, 1), (26, .invokevirtual 194, 3), (29, .goto 104, 3), (32, .aload_n 0, 1), (33, .ldc 144, 2), (35, .invokevirtual 114, 3), (38, .ifCond .eq 10, 3), (41, .aload_n 0, 1), (42, .invokevirtual 197, 3), (45, .goto 88, 3), (48, .aload_n 0, 1), (49, .ldc 146, 2), (51, .invokevirtual 114, 3), (54, .ifCond .eq 10, 3), (57, .aload_n 0, 1), (58, .invokevirtual 200, 3), (61, .goto 72, 3), (64, .aload_n 0, 1), (65, .ldc 148, 2), (67, .invokevirtual 114, 3), (70, .ifCond .eq 10, 3), (73, .aload_n 0, 1), (74, .invokevirtual 203, 3), (77, .goto 56, 3), (80, .aload_n 0, 1), (81, .ldc 150, 2), (83, .invokevirtual 114, 3), (86, .ifCond .eq 10, 3), (89, .aload_n 0, 1), (90, .invokevirtual 206, 3), (93, .goto 40, 3), (96, .aload_n 0, 1), (97, .ldc 152, 2), (99, .invokevirtual 114, 3), (102, .ifCond .eq 10, 3), (105, .aload_n 0, 1), (106, .invokevirtual 209, 3), (109, .goto 24, 3), (112, .aload_n 0, 1), (113, .ldc 154, 2), (115, .invokevirtual 114, 3), (118, .ifCond .eq 10, 3), (121, .aload_n 0, 1), (122, .invokevirtual 212, 3), (125, .goto 8, 3), (128, .aload_n 0, 1), (129, .iconst 1, 1), (130, .invokevirtual 121, 3), (133, .return_, 1)]
theorem mc_cdk_177 : mc_cdl_177.all (fun q => decide (decode prog_13_method_32_code q.1 = .ok q.2)) = true := by decide +kernel
def mc_cdl_178 : List (Nat × Instr × Nat) := [(0, .aload_n 0, 1), (1, .getfield 75, 3), (4, .iconst 2, 1), (5, .if_icmp .ne 19, 3), (8, .aload_n 0, 1), (9, .getfield 94, 3), (12, .aload_n 1, 1), (13, .invokestatic 110, 3), (16, .lcmp, 1), (17, .ifCond .ne 7, 3), (20, .iconst 1, 1), (21, .goto 4, 3), (24, .iconst 0, 1), (25, .ireturn, 1)]
theorem mc_cdk_178 : mc_cdl_178.all (fun q => decide (decode prog_13_method_19_code q.1 = .ok q.2)) = true := by decide +kernel
def mc_cdl_179 : List (Nat × Instr × Nat) := [(0, .lconst 0, 1), (1, .lstore_n 1, 1), (2, .iconst 0, 1), (3, .istore_n 3, 1), (4, .iload_n 3, 1), (5, .aload_n 0, 1), (6, .invokevirtual 64, 3), (9, .if_icmp .ge 27, 3), (12, .ldc2_w 69, 3), (15, .lload_n 1, 1), (16, .lmul, 1), (17, .aload_n 0, 1), (18, .iload_n 3, 1), (19, .invokevirtual 71, 3), (22, .bipush 97, 2), (24, .isub, 1), (25, .iconst 1, 1), (26, .iadd, 1), (27, .i2l, 1), (28, .ladd, 1), (29, .lstore_n 1, 1), (30, .iinc 3 1, 3), (33, .goto (-29), 3), (36, .lload_n 1, 1), (37, .lreturn, 1)]
theorem mc_cdk_179 : mc_cdl_179.all (fun q => decide (decode prog_13_method_16_code q.1 = .ok q.2)) = true := by decide +kernel
def mc_cdl_180 : List (Nat × Instr × Nat) := [(0, .aload_n 0, 1), (1, .getfield 166, 3), (4, .getfield 185, 3), (7, .ifCond .le 8, 3), (10, .aload_n 0, 1), (11, .iconst 3, 1), (12, .invokevirtual 121, 3), (15, .aload_n 0, 1), (16, .invokevirtual 118, 3), (19, .aload_n 0, 1), (20, .ldc 215, 2), (22, .iconst 1, 1), (23, .bipush 24, 2), (25, .invokevirtual 216, 3), (28, .istore_n 1, 1), (29, .aload_n 0, 1), (30, .getfield 166, 3), (33, .aload_n 0, 1), (34, .ldc 220, 2), (36, .iconst 0, 1), (37, .bipush 9, 2), (39, .invokevirtual 216, 3), (42, .putfield 222, 3), (45, .aload_n 0, 1), (46, .getfield 166, 3), (49, .aload_n 0, 1), (50, .ldc 224, 2), (52, .iconst 0, 1), (53, .iconst 3, 1), (54, .invokevirtual 216, 3), (57, .putfield 226, 3), (60, .aload_n 0, 1), (61, .getfield 75, 3), (64, .iconst 5, 1), (65, .if_icmp .eq 11, 3), (68, .aload_n 0, 1), (69, .getfield 166, 3), (72, .iload_n 1, 1), (73, .putfield 185, 3), (76, .return_, 1)]
theorem mc_cdk_180 : mc_cdl_180.all (fun q => decide (decode prog_13_method_33_code q.1 = .ok q.2)) = true := by decide +kernel
def mc_cdl_181 : List (Nat × Instr × Nat) := [(0, .aload_n 0, 1), (1, .getfield 75, 3), (4, .iconst 5, 1), (5, .if_icmp .ne 4, 3), (8, .return_, 1), (9, .aload_n 0, 1), (10, .iload_n 1, 1), (11, .putfield 104, 3), (14, .aload_n 0, 1), (15, .aload_n 0, 1), (16, .getfield 84, 3), (19, .putfield 107, 3), (22, .aload_n 0, 1), (23, .iconst 5, 1), (24, .putfield 75, 3), (27, .return_, 1)]
theorem mc_cdk_181 : mc_cdl_181.all (fun q => decide (decode prog_13_method_18_code q.1 = .ok q.2)) = true := by decide +kernel
def mc_cdl_182 : List (Nat × Instr × Nat) := [(0, .aload_n 0, 1), (1, .aload_n 1, 1), (2, .invokevirtual 133, 3), (5, .aload_n 0, 1), (6, .iload_n 2, 1), (7, .iload_n 3, 1), (8, .invokevirtual 137, 3), (11, .ireturn, 1)]
theorem mc_cdk_182 : mc_cdl_182.all (fun q => decide (decode prog_13_method_26_code q.1 = .ok q.2)) = true := by decide +kernel
def mc_cdl_183 : List (Nat × Instr × Nat) := [(0, .aload_n 0, 1), (1, .aload_n 1, 1), (2, .invokevirtual 114, 3), (5, .ifCond .ne 8, 3), (8, .aload_n 0, 1), (9, .iconst 1, 1), (10, .invokevirtual 121, 3), (13, .aload_n 0, 1), (14, .invokevirtual 118, 3), (17, .return_, 1)]
theorem mc_cdk_183 : mc_cdl_183.all (fun q => decide (decode prog_13_method_22_code q.1 = .ok q.2)) = true := by decide +kernel
def mc_cdl_184 : List (Nat × Instr × Nat) := [(0, .aload_n 0, 1), (1, .iload_n 1, 1), (2, .iload_n 2, 1), (3, .invokevirtual 129, 3), (6, .istore_n 3, 1), (7, .aload_n 0, 1), (8, .invokevirtual 118, 3), (11, .iload_n 3, 1), (12, .ireturn, 1)]
theorem mc_cdk_184 : mc_cdl_184.all (fun q => decide (decode prog_13_method_25_code q.1 = .ok q.2)) = true := by decide +kernel
def mc_cdl_185 : List (Nat × Instr × Nat) := [(0, .aload_n 0, 1), (1, .getfield 75, 3), (4, .iconst 3, 1), (5, .if_icmp .eq 11, 3), (8, .aload_n 0, 1), (9, .iconst 1, 1), (10, .invokevirtual 121, 3), (13, .goto 20, 3), (16, .aload_n 0, 1), (17, .getfield 101, 3), (20, .iload_n 1, 1), (21, .iload_n 2, 1), (22, .invokestatic 125, 3), (25, .ifCond .ne 8, 3), (28, .aload_n 0, 1), (29, .iconst 4, 1), (30, .invokevirtual 121, 3), (33, .aload_n 0, 1), (34, .getfield 75, 3), (37, .iconst 5, 1), (38, .if_icmp .ne 7, 3), (41, .iconst 0, 1), (42, .goto 7, 3), (45, .aload_n 0, 1), (46, .getfield 101, 3), (49, .ireturn, 1)]
theorem mc_cdk_185 : mc_cdl_185.all (fun q => decide (decode prog_13_method_24_code q.1 = .ok q.2)) = true := by decide +kernel
def mc_cdl_186 : List (Nat × Instr × Nat) := [(0, .iload_n 0, 1), (1, .iload_n 1, 1), (2, .if_icmp .lt 12, 3), (5, .iload_n 0, 1), (6, .iload_n 2, 1), (7, .if_icmp .gt 7, 3), (10, .iconst 1, 1), (11, .goto 4, 3), (14, .iconst 0, 1), (15, .ireturn, 1)]
theorem mc_cdk_186 : mc_cdl_186.all (fun q => decide (decode prog_13_method_9_code q.1 = .ok q.2)) = true := by decide +kernel
def mc_cdl_187 : List (Nat × Instr × Nat) := [(0, .aload_n 0, 1), (1, .aload_n 0, 1), (2, .getfield 166, 3), (5, .getfield 188, 3), (8, .bipush 6, 2), (10, .invokevirtual 228, 3), (13, .aload_n 0, 1), (14, .invokevirtual 162, 3), (17, .ifCond .ne 8, 3), (20, .aload_n 0, 1), (21, .iconst 1, 1), (22, .invokevirtual 121, 3), (25, .aload_n 0, 1), (26, .getfield 166, 3), (29, .aload_n 0, 1), (30, .getfield 94, 3), (33, .invokevirtual 170, 3), (36, .iconst (-1), 1), (37, .if_icmp .eq 8, 3), (40, .aload_n 0, 1), (41, .iconst 3, 1), (42, .invokevirtual 121, 3), (45, .aload_n 0, 1), (46, .getfield 94, 3), (49, .lstore_n 1, 1), (50, .aload_n 0, 1), (51, .invokevirtual 118, 3), (54, .aload_n 0, 1), (55, .ldc 232, 2), (57, .iconst 0, 1), (58, .bipush 23, 2), (60, .invokevirtual 216, 3), (63, .istore_n 3, 1), (64, .aload_n 0, 1), (65, .ldc 233, 2), (67, .iload_n 3, 1), (68, .bipush 23, 2), (70, .iload_n 3, 1), (71, .bipush 7, 2), (73, .iadd, 1), (74, .invokestatic 235, 3), (77, .invokevirtual 216, 3), (80, .istore 4, 2), (82, .aload_n 0, 1), (83, .ldc 238, 2), (85, .iconst 0, 1), (86, .bipush 12, 2), (88, .invokevirtual 216, 3), (91, .istore 5, 2), (93, .aload_n 0, 1), (94, .ldc 233, 2), (96, .iload 5, 2), (98, .bipush 12, 2), (100, .iload 5, 2), (102, .iconst 4, 1), (103, .iadd, 1), (104, .invokestatic 235, 3), (107, .invokevirtual 216, 3), (110, .istore 6, 2), (112, .aload_n 0, 1), (113, .ldc 156, 2), (115, .invokevirtual 240, 3), (118, .ifCond .eq 13, 3), (121, .aload_n 0, 1), (122, .iconst 0, 1), (123, .bipush 23, 2), (125, .invokevirtual 137, 3), (128, .goto 4, 3), (131, .iconst (-1), 1), (132, .istore 7, 2), (134, .aload_n 0, 1), (135, .ldc 158, 2), (137, .invokevirtual 240, 3), (140, .istore 8, 2), (142, .iload 8, 2), (144, .ifCond .eq 13, 3), (147, .aload_n 0, 1), (148, .iconst 0, 1), (149, .bipush 23, 2), (151, .invokevirtual 137, 3), (154, .goto 4, 3), (157, .iconst 0, 1), (158, .istore 9, 2), (160, .iload 8, 2), (162, .ifCond .eq 18, 3), (165, .aload_n 0, 1), (166, .ldc 233, 2), (168, .iload 9, 2), (170, .iconst 1, 1), (171, .iadd, 1), (172, .bipush 24, 2), (174, .invokevirtual 216, 3), (177, .goto 4, 3), (180, .iconst 0, 1), (181, .istore 10, 2), (183, .aload_n 0, 1), (184, .ldc 160, 2), (186, .invokevirtual 240, 3), (189, .istore 11, 2), (191, .aload_n 0, 1), (192, .getfield 75, 3), (195, .iconst 5, 1), (196, .if_icmp .ne 4, 3), (199, .return_, 1), (200, .aload_n 0, 1), (201, .getfield 166, 3), (204, .getfield 188, 3), (207, .istore 12, 2), (209, .aload_n 0, 1), (210, .getfield 166, 3), (213, .getfield 243, 3), (216, .iload 12, 2), (218, .lload_n 1, 1), (219, .lastore, 1), (220, .aload_n 0, 1), (221, .getfield 166, 3), (224, .getfield 247, 3), (227, .iload 12, 2), (229, .iload_n 3, 1), (230, .iastore, 1), (231, .aload_n 0, 1), (232, .getfield 166, 3), (235, .getfield 250, 3), (238, .iload 12, 2), (240, .iload 4, 2), (242, .iastore, 1), (243, .aload_n 0, 1), (244, .getfield 166, 3), (247, .getfield 253, 3), (250, .iload 12, 2), (252, .iload 5, 2), (254, .iastore, 1), (255, .aload_n 0, 1), (256, .getfield 166, 3), (259, .getfield 256, 3), (262, .iload 12, 2), (264, .iload 6, 2), (266, .iastore, 1), (267, .aload_n 0, 1), (268, .getfield 166, 3), (271, .getfield 259, 3), (274, .iload 12, 2), (276, .iload 7, 2), (278, .iastore, 1), (279, .aload_n 0, 1), (280, .getfield 166, 3), (283, .getfield 261, 3), (286, .iload 12, 2), (288, .iload 9, 2), (290, .iastore, 1), (291, .aload_n 0, 1), (292, .getfield 166, 3), (295, .getfield 264, 3), (298, .iload 12, 2), (300, .iload 10, 2), (302, .iastore, 1), (303, .aload_n 0, 1), (304, .getfield 166, 3), (307, .getfield 267, 3), (310, .iload 12, 2), (312, .iload 11, 2), (314, .bastore, 1), (315, .aload_n 0, 1), (316, .getfield 166, 3), (319, .dup, 1), (320, .getfield 188, 3), (323, .iconst 1, 1), (324, .iadd, 1), (325, .putfield 188, 3), (328, .return_, 1)]
theorem mc_cdk_187 : mc_cdl_187.all (fun q => decide (decode prog_13_method_35_code q.1 = .ok q.2)) = true := by decide +kernel
def mc_cdl_188 : List (Nat × Instr × Nat) := [(0, .iload_n 1, 1), (1, .iload_n 2, 1), (2, .if_icmp .ne 8, 3), (5, .aload_n 0, 1), (6, .iconst 5, 1), (7, .invokevirtual 121, 3), (10, .aload_n 0, 1), (11, .invokevirtual 118, 3), (14, .return_, 1)]
theorem mc_cdk_188 : mc_cdl_188.all (fun q => decide (decode prog_13_method_28_code q.1 = .ok q.2)) = true := by decide +kernel
def mc_cdl_189 : List (Nat × Instr × Nat) := [(0, .aload_n 0, 1), (1, .getfield 75, 3), (4, .iconst 2, 1), (5, .if_icmp .ne 57, 3), (8, .aload_n 0, 1), (9, .ldc 140, 2), (11, .invokevirtual 114, 3), (14, .ifCond .ne 48, 3), (17, .aload_n 0, 1), (18, .ldc 142, 2), (20, .invokevirtual 114, 3), (23, .ifCond .ne 39, 3), (26, .aload_n 0, 1), (27, .ldc 144, 2), (29, .invokevirtual 114, 3), (32, .ifCond .ne 30, 3), (35, .aload_n 0, 1), (36, .ldc 146, 2), (38, .invokevirtual 114, 3), (41, .ifCond .ne 21, 3), (44, .aload_n 0, 1), (45, .ldc 148, 2), (47, .invokevirtual 114, 3), (50, .ifCond .ne 12, 3), (53, .aload_n 0, 1), (54, .ldc 150, 2), (56, .invokevirtual 114, 3), (59, .ifCond .eq 5, 3), (62, .iconst 0, 1), (63, .ireturn, 1), (64, .aload_n 0, 1), (65, .ldc 152, 2), (67, .invokevirtual 114, 3), (70, .ifCond .ne 43, 3), (73, .aload_n 0, 1), (74, .ldc 154, 2), (76, .invokevirtual 114, 3), (79, .ifCond .ne 34, 3), (82, .aload_n 0, 1), (83, .ldc 156, 2), (85, .invokevirtual 114, 3), (88, .ifCond .ne 25, 3), (91, .aload_n 0, 1), (92, .ldc 158, 2), (94, .invokevirtual 114, 3), (97, .ifCond .ne 16, 3), (100, .aload_n 0, 1), (101, .ldc 160, 2), (103, .invokevirtual 114, 3), (106, .ifCond .ne 7, 3), (109, .iconst 1, 1), (110, .goto 4, 3), (113, .iconst 0, 1), (114, .ireturn, 1)]
theorem mc_cdk_189 : mc_cdl_189.all (fun q => decide (decode prog_13_method_27_code q.1 = .ok q.2)) = true := by decide +kernel
def mc_cdl_190 : List (Nat × Instr × Nat) := [(0, .iconst 0, 1), (1, .istore_n 3, 1), (2, .iload_n 3, 1), (3, .aload_n 0, 1), (4, .getfield 72, 3), (7, .if_icmp .ge 22, 3), (10, .aload_n 0, 1), (11, .getfield 15, 3), (14, .iload_n 3, 1), (15, .laload, 1), (16, .lload_n 1, 1), (17, .lcmp, 1), (18, .ifCond .ne 5, 3), (21, .iload_n 3, 1), (22, .ireturn, 1), (23, .iinc 3 1, 3), (26, .goto (-24), 3), (29, .iconst (-1), 1), (30, .ireturn, 1)]
theorem mc_cdk_190 : mc_cdl_190.all (fun q => decide (decode prog_14_method_2_code q.1 = .ok q.2)) = true := by decide +kernel
def mc_cdl_191 : List (Nat × Instr × Nat) := [(0, .iload_n 0, 1), (1, .iload_n 1, 1), (2, .if_icmp .ge 7, 3), (5, .iload_n 0, 1), (6, .goto 4, 3), (9, .iload_n 1, 1), (10, .ireturn, 1)]
theorem mc_cdk_191 : mc_cdl_191.all (fun q => decide (decode prog_13_method_34_code q.1 = .ok q.2)) = true := by decide +kernel
def mc_cdl_192 : List (Nat × Instr × Nat) := [(0, .aload_n 0, 1), (1, .aload_n 1, 1), (2, .invokevirtual 114, 3), (5, .istore_n 2, 1), (6, .iload_n 2, 1), (7, .ifCond .eq 7, 3), (10, .aload_n 0, 1), (11, .invokevirtual 118, 3), (14, .iload_n 2, 1), (15, .ireturn, 1)]
theorem mc_cdk_192 : mc_cdl_192.all (fun q => decide (decode prog_13_method_20_code q.1 = .ok q.2)) = true := by decide +kernel
def mc_cdl_193 : List (Nat × Instr × Nat) := [(0, .aload_n 0, 1), (1, .getfield 166, 3), (4, .getfield 271, 3), (7, .iconst (-1), 1), (8, .if_icmp .eq 8, 3), (11, .aload_n 0, 1), (12, .iconst 3, 1), (13, .invokevirtual 121, 3), (16, .aload_n 0, 1), (17, .invokevirtual 118, 3), (20, .aload_n 0, 1), (21, .invokevirtual 273, 3), (24, .istore_n 1, 1), (25, .aload_n 0, 1), (26, .getfield 75, 3), (29, .iconst 5, 1), (30, .if_icmp .eq 11, 3), (33, .aload_n 0, 1), (34, .getfield 166, 3), (37, .iload_n 1, 1), (38, .putfield 271, 3), (41, .return_, 1)]
theorem mc_cdk_193 : mc_cdl_193.all (fun q => decide (decode prog_13_method_36_code q.1 = .ok q.2)) = true := by decide +kernel
def mc_cdl_194 : List (Nat × Instr × Nat) := [(0, .aload_n 0, 1), (1, .invokevirtual 176, 3), (4, .istore_n 1, 1), (5, .aload_n 0, 1), (6, .invokevirtual 118, 3), (9, .iload_n 1, 1), (10, .ireturn, 1)]
theorem mc_cdk_194 : mc_cdl_194.all (fun q => decide (decode prog_13_method_30_code q.1 = .ok q.2)) = true := by decide +kernel
def mc_cdl_195 : List (Nat × Instr × Nat) := [(0, .aload_n 0, 1), (1, .invokevirtual 162, 3), (4, .ifCond .ne 8, 3), (7, .aload_n 0, 1), (8, .iconst 1, 1), (9, .invokevirtual 121, 3), (12, .aload_n 0, 1), (13, .getfield 166, 3), (16, .aload_n 0, 1), (17, .getfield 94, 3), (20, .invokevirtual 170, 3), (23, .istore_n 1, 1), (24, .iload_n 1, 1), (25, .iconst (-1), 1), (26, .if_icmp .ne 8, 3), (29, .aload_n 0, 1), (30, .iconst 2, 1), (31, .invokevirtual 121, 3), (34, .aload_n 0, 1), (35, .getfield 75, 3), (38, .iconst 5, 1), (39, .if_icmp .ne 7, 3), (42, .iconst 0, 1), (43, .goto 4, 3), (46, .iload_n 1, 1), (47, .ireturn, 1)]
theorem mc_cdk_195 : mc_cdl_195.all (fun q => decide (decode prog_13_method_29_code q.1 = .ok q.2)) = true := by decide +kernel
def mc_cdl_196 : List (Nat × Instr × Nat) := [(0, .aload_n 0, 1), (1, .aload_n 0, 1), (2, .getfield 166, 3), (5, .getfield 276, 3), (8, .iconst 3, 1), (9, .invokevirtual 228, 3), (12, .aload_n 0, 1), (13, .invokevirtual 273, 3), (16, .istore_n 1, 1), (17, .aload_n 0, 1), (18, .bipush 44, 2), (20, .invokevirtual 279, 3), (23, .aload_n 0, 1), (24, .invokevirtual 176, 3), (27, .istore_n 2, 1), (28, .iload_n 1, 1), (29, .iload_n 2, 1), (30, .if_icmp .ne 7, 3), (33, .iconst 1, 1), (34, .goto 4, 3), (37, .iconst 0, 1), (38, .istore_n 3, 1), (39, .iconst 0, 1), (40, .istore 4, 2), (42, .iload 4, 2), (44, .aload_n 0, 1), (45, .getfield 166, 3), (48, .getfield 276, 3), (51, .if_icmp .ge 75, 3), (54, .iload_n 3, 1), (55, .ifCond .ne 59, 3), (58, .aload_n 0, 1), (59, .getfield 166, 3), (62, .getfield 282, 3), (65, .iload 4, 2), (67, .iaload, 1), (68, .iload_n 1, 1), (69, .if_icmp .ne 17, 3), (72, .aload_n 0, 1), (73, .getfield 166, 3), (76, .getfield 285, 3), (79, .iload 4, 2), (81, .iaload, 1), (82, .iload_n 2, 1), (83, .if_icmp .eq 31, 3), (86, .aload_n 0, 1), (87, .getfield 166, 3), (90, .getfield 282, 3), (93, .iload 4, 2), (95, .iaload, 1), (96, .iload_n 2, 1), (97, .if_icmp .ne 21, 3), (100, .aload_n 0, 1), (101, .getfield 166, 3), (104, .getfield 285, 3), (107, .iload 4, 2), (109, .iaload, 1), (110, .iload_n 1, 1), (111, .if_icmp .ne 7, 3), (114, .iconst 1, 1), (115, .goto 4, 3), (118, .iconst 0, 1), (119, .istore_n 3, 1), (120, .iinc 4 1, 3), (123, .goto (-81), 3), (126, .iload_n 3, 1), (127, .ifCond .eq 8, 3), (130, .aload_n 0, 1), (131, .iconst 3, 1), (132, .invokevirtual 121, 3), (135, .aload_n 0, 1), (136, .invokevirtual 118, 3), (139, .aload_n 0, 1), (140, .getfield 75, 3), (143, .iconst 5, 1), (144, .if_icmp .ne 4, 3), (147, .return_, 1), (148, .aload_n 0, 1), (149, .getfield 166, 3), (152, .getfield 282, 3), (155, .aload_n 0, 1), (156, .getfield 166, 3), (159, .getfield 276, 3), (162, .iload_n 1, 1), (163, .iastore, 1), (164, .aload_n 0, 1), (165, .getfield 166, 3), (168, .getfield 285, 3), (171, .aload_n 0, 1), (172, .getfield 166, 3), (175, .getfield 276, 3), (178, .iload_n 2, 1), (179, .iastore, 1), (180, .aload_n 0, 1), (181, .getfield 166, 3), (184, .dup, 1), (185, .getfield 276, 3), (188, .iconst 1, 1), (189, .iadd, 1), (190, .putfield 276, 3), (193, .return_, 1)]
theorem mc_cdk_196 : mc_cdl_196.all (fun q => decide (decode prog_13_method_37_code q.1 = .ok q.2)) = true := by decide +kernel
def mc_cdl_197 : List (Nat × Instr × Nat) := [(0, .aload_n 0, 1), (1, .getfield 75, 3), (4, .iconst 4, 1), (5, .if_icmp .ne 11, 3), (8, .aload_n 0, 1), (9, .getfield 87, 3), (12, .iload_n 1, 1), (13, .if_icmp .eq 8, 3), (16, .aload_n 0, 1), (17, .iconst 1, 1), (18, .invokevirtual 121, 3), (21, .aload_n 0, 1), (22, .invokevirtual 118, 3), (25, .return_, 1)]
theorem mc_cdk_197 : mc_cdl_197.all (fun q => decide (decode prog_13_method_23_code q.1 = .ok q.2)) = true := by decide +kernel
def mc_cdl_198 : List (Nat × Instr × Nat) := [(0, .aload_n 0, 1), (1, .aload_n 0, 1), (2, .getfield 166, 3), (5, .getfield 288, 3), (8, .iconst 3, 1), (9, .invokevirtual 228, 3), (12, .aload_n 0, 1), (13, .iconst 0, 1), (14, .bipush 23, 2), (16, .invokevirtual 137, 3), (19, .istore_n 1, 1), (20, .aload_n 0, 1), (21, .getfield 75, 3), (24, .iconst 5, 1), (25, .if_icmp .ne 4, 3), (28, .return_, 1), (29, .aload_n 0, 1), (30, .getfield 166, 3), (33, .getfield 291, 3), (36, .aload_n 0, 1), (37, .getfield 166, 3), (40, .getfield 288, 3), (43, .iload_n 1, 1), (44, .iastore, 1), (45, .aload_n 0, 1), (46, .getfield 166, 3), (49, .dup, 1), (50, .getfield 288, 3), (53, .iconst 1, 1), (54, .iadd, 1), (55, .putfield 288, 3), (58, .return_, 1)]
theorem mc_cdk_198 : mc_cdl_198.all (fun q => decide (decode prog_13_method_38_code q.1 = .ok q.2)) = true := by decide +kernel
def mc_cdl_199 : List (Nat × Instr × Nat) := [(0, .aload_n 0, 1), (1, .aload_n 0, 1), (2, .getfield 293, 3), (5, .bipush 24, 2), (7, .invokevirtual 228, 3), (10, .aload_n 0, 1), (11, .iconst 0, 1), (12, .bipush 23, 2), (14, .invokevirtual 129, 3), (17, .istore_n 1, 1), (18, .aload_n 0, 1), (19, .getfield 75, 3), (22, .iconst 5, 1), (23, .if_icmp .eq 20, 3), (26, .aload_n 0, 1), (27, .getfield 166, 3), (30, .getfield 296, 3), (33, .iload_n 1, 1), (34, .iaload, 1), (35, .ifCond .le 8, 3), (38, .aload_n 0, 1), (39, .iconst 3, 1), (40, .invokevirtual 121, 3), (43, .aload_n 0, 1), (44, .invokevirtual 118, 3), (47, .aload_n 0, 1), (48, .ldc_w 298, 3), (51, .iconst 0, 1), (52, .bipush 99, 2), (54, .invokevirtual 216, 3), (57, .istore_n 2, 1), (58, .aload_n 0, 1), (59, .getfield 75, 3), (62, .iconst 5, 1), (63, .if_icmp .ne 4, 3), (66, .return_, 1), (67, .aload_n 0, 1), (68, .getfield 166, 3), (71, .getfield 296, 3), (74, .iload_n 1, 1), (75, .iload_n 2, 1), (76, .iconst 1, 1), (77, .iadd, 1), (78, .iastore, 1), (79, .aload_n 0, 1), (80, .dup, 1), (81, .getfield 293, 3), (84, .iconst 1, 1), (85, .iadd, 1), (86, .putfield 293, 3), (89, .return_, 1)]
theorem mc_cdk_199 : mc_cdl_199.all (fun q => decide (decode prog_13_method_39_code q.1 = .ok q.2)) = true := by decide +kernel
def mc_cdl_200 : List (Nat × Instr × Nat) := [(0, .aload_n 0, 1), (1, .aload_n 0, 1), (2, .getfield 166, 3), (5, .getfield 306, 3), (8, .iconst 4, 1), (9, .invokevirtual 228, 3), (12, .aload_n 0, 1), (13, .invokevirtual 309, 3), (16, .istore_n 1, 1), (17, .aload_n 0, 1), (18, .getfield 75, 3), (21, .iconst 5, 1), (22, .if_icmp .ne 4, 3), (25, .return_, 1), (26, .aload_n 0, 1), (27, .getfield 166, 3), (30, .getfield 312, 3), (33, .aload_n 0, 1), (34, .getfield 166, 3), (37, .getfield 306, 3), (40, .iload_n 1, 1), (41, .iastore, 1), (42, .aload_n 0, 1), (43, .getfield 166, 3), (46, .getfield 315, 3), (49, .aload_n 0, 1), (50, .getfield 166, 3), (53, .getfield 306, 3), (56, .aload_n 0, 1), (57, .getfield 300, 3), (60, .aload_n 0, 1), (61, .getfield 303, 3), (64, .invokestatic 318, 3), (67, .iastore, 1), (68, .aload_n 0, 1), (69, .getfield 166, 3), (72, .dup, 1), (73, .getfield 306, 3), (76, .iconst 1, 1), (77, .iadd, 1), (78, .putfield 306, 3), (81, .return_, 1)]
theorem mc_cdk_200 : mc_cdl_200.all (fun q => decide (decode prog_13_method_41_code q.1 = .ok q.2)) = true := by decide +kernel
def mc_cdl_201 : List (Nat × Instr × Nat) := [(0, .aload_n 0, 1), (1, .invokevirtual 273, 3), (4, .istore_n 1, 1), (5, .aload_n 0, 1), (6, .aload_n 0, 1), (7, .iconst 0, 1), (8, .bipush 23, 2), (10, .invokevirtual 137, 3), (13, .putfield 300, 3), (16, .aload_n 0, 1), (17, .aload_n 0, 1), (18, .ldc 233, 2), (20, .aload_n 0, 1), (21, .getfield 300, 3), (24, .iconst 1, 1), (25, .iadd, 1), (26, .bipush 24, 2), (28, .invokevirtual 216, 3), (31, .putfield 303, 3), (34, .iload_n 1, 1), (35, .ireturn, 1)]
theorem mc_cdk_201 : mc_cdl_201.all (fun q => decide (decode prog_13_method_40_code q.1 = .ok q.2)) = true := by decide +kernel
def mc_cdl_202 : List (Nat × Instr × Nat) := [(0, .iconst 0, 1), (1, .istore_n 2, 1), (2, .iload_n 0, 1), (3, .istore_n 3, 1), (4, .iload_n 3, 1), (5, .iload_n 1, 1), (6, .if_icmp .ge 21, 3), (9, .iload_n 3, 1), (10, .bipush 24, 2), (12, .if_icmp .ge 15, 3), (15, .iload_n 2, 1), (16, .iconst 1, 1), (17, .iload_n 3, 1), (18, .ishl, 1), (19, .ior, 1), (20, .istore_n 2, 1), (21, .iinc 3 1, 3), (24, .goto (-20), 3), (27, .iload_n 2, 1), (28, .ireturn, 1)]
theorem mc_cdk_202 : mc_cdl_202.all (fun q => decide (decode prog_13_method_12_code q.1 = .ok q.2)) = true := by decide +kernel
def mc_cdl_203 : List (Nat × Instr × Nat) := [(0, .aload_n 0, 1), (1, .aload_n 0, 1), (2, .getfield 166, 3), (5, .getfield 321, 3), (8, .bipush 6, 2), (10, .invokevirtual 228, 3), (13, .aload_n 0, 1), (14, .invokevirtual 309, 3), (17, .istore_n 1, 1), (18, .aload_n 0, 1), (19, .getfield 75, 3), (22, .iconst 5, 1), (23, .if_icmp .ne 4, 3), (26, .return_, 1), (27, .aload_n 0, 1), (28, .getfield 166, 3), (31, .getfield 324, 3), (34, .aload_n 0, 1), (35, .getfield 166, 3), (38, .getfield 321, 3), (41, .iload_n 1, 1), (42, .iastore, 1), (43, .aload_n 0, 1), (44, .getfield 166, 3), (47, .getfield 327, 3), (50, .aload_n 0, 1), (51, .getfield 166, 3), (54, .getfield 321, 3), (57, .aload_n 0, 1), (58, .getfield 300, 3), (61, .aload_n 0, 1), (62, .getfield 303, 3), (65, .invokestatic 318, 3), (68, .iastore, 1), (69, .aload_n 0, 1), (70, .getfield 166, 3), (73, .dup, 1), (74, .getfield 321, 3), (77, .iconst 1, 1), (78, .iadd, 1), (79, .putfield 321, 3), (82, .return_, 1)]
theorem mc_cdk_203 : mc_cdl_203.all (fun q => decide (decode prog_13_method_42_code q.1 = .ok q.2)) = true := by decide +kernel
def mc_cdl_204 : List (Nat × Instr × Nat) := [(0, .aload_n 0, 1), (1, .getfield 75, 3), (4, .iconst 4, 1), (5, .if_icmp .ne 15, 3), (8, .aload_n 0, 1), (9, .getfield 87, 3), (12, .iload_n 1, 1), (13, .if_icmp .ne 7, 3), (16, .iconst 1, 1), (17, .goto 4, 3), (20, .iconst 0, 1), (21, .istore_n 2, 1), (22, .iload_n 2, 1), (23, .ifCond .eq 7, 3), (26, .aload_n 0, 1), (27, .invokevirtual 118, 3), (30, .iload_n 2, 1), (31, .ireturn, 1)]
theorem mc_cdk_204 : mc_cdl_204.all (fun q => decide (decode prog_13_method_21_code q.1 = .ok q.2)) = true := by decide +kernel
def mc_cdl_205 : List (Nat × Instr × Nat) := [(0, .iload_n 0, 1), (1, .iload_n 1, 1), (2, .ishr, 1), (3, .iconst 1, 1), (4, .iand, 1), (5, .iconst 1, 1), (6, .if_icmp .ne 7, 3), (9, .iconst 1, 1), (10, .goto 4, 3), (13, .iconst 0, 1), (14, .ireturn, 1)]
theorem mc_cdk_205 : mc_cdl_205.all (fun q => decide (decode prog_13_method_10_code q.1 = .ok q.2)) = true := by decide +kernel
def mc_cdl_206 : List (Nat × Instr × Nat) := [(0, .aload_n 0, 1), (1, .invokevirtual 357, 3), (4, .istore_n 1, 1), (5, .iconst 0, 1), (6, .istore_n 2, 1), (7, .iload_n 2, 1), (8, .aload_n 0, 1), (9, .getfield 337, 3), (12, .getfield 188, 3), (15, .if_icmp .ge 181, 3), (18, .aload_n 0, 1), (19, .getfield 21, 3), (22, .iload_n 2, 1), (23, .iconst 0, 1), (24, .iastore, 1), (25, .aload_n 0, 1), (26, .getfield 337, 3), (29, .getfield 267, 3), (32, .iload_n 2, 1), (33, .baload, 1), (34, .ifCond .eq 15, 3), (37, .aload_n 0, 1), (38, .iload_n 2, 1), (39, .iconst 0, 1), (40, .iconst 0, 1), (41, .iconst 0, 1), (42, .iconst 0, 1), (43, .invokevirtual 360, 3), (46, .goto 144, 3), (49, .aload_n 0, 1), (50, .getfield 337, 3), (53, .getfield 261, 3), (56, .iload_n 2, 1), (57, .iaload, 1), (58, .aload_n 0, 1), (59, .getfield 337, 3), (62, .getfield 264, 3), (65, .iload_n 2, 1), (66, .iaload, 1), (67, .invokestatic 318, 3), (70, .istore_n 3, 1), (71, .aload_n 0, 1), (72, .getfield 337, 3), (75, .getfield 247, 3), (78, .iload_n 2, 1), (79, .iaload, 1), (80, .istore 4, 2), (82, .iload 4, 2), (84, .aload_n 0, 1), (85, .getfield 337, 3), (88, .getfield 250, 3), (91, .iload_n 2, 1), (92, .iaload, 1), (93, .if_icmp .gt 97, 3), (96, .aload_n 0, 1), (97, .getfield 337, 3), (100, .getfield 253, 3), (103, .iload_n 2, 1), (104, .iaload, 1), (105, .istore 5, 2), (107, .iload 5, 2), (109, .aload_n 0, 1), (110, .getfield 337, 3), (113, .getfield 256, 3), (116, .iload_n 2, 1), (117, .iaload, 1), (118, .if_icmp .gt 66, 3), (121, .iload 4, 2), (123, .iload 4, 2), (125, .iload 5, 2), (127, .iadd, 1), (128, .invokestatic 318, 3), (131, .iload_n 3, 1), (132, .ior, 1), (133, .aload_n 0, 1), (134, .getfield 343, 3), (137, .iand, 1), (138, .istore 6, 2), (140, .iload_n 2, 1), (141, .aload_n 0, 1), (142, .getfield 337, 3), (145, .getfield 271, 3), (148, .if_icmp .ne 10, 3), (151, .iload 6, 2), (153, .iload_n 1, 1), (154, .iand, 1), (155, .ifCond .ne 23, 3), (158, .aload_n 0, 1), (159, .iload_n 2, 1), (160, .iload 4, 2), (162, .iload 5, 2), (164, .iload 6, 2), (166, .aload_n 0, 1), (167, .getfield 343, 3), (170, .iload 6, 2), (172, .iconst (-1), 1), (173, .ixor, 1), (174, .iand, 1), (175, .invokevirtual 360, 3), (178, .iinc 5 1, 3), (181, .goto (-74), 3), (184, .iinc 4 1, 3), (187, .goto (-105), 3), (190, .iinc 2 1, 3), (193, .goto (-186), 3), (196, .return_, 1)]
theorem mc_cdk_206 : mc_cdl_206.all (fun q => decide (decode prog_13_method_48_code q.1 = .ok q.2)) = true := by decide +kernel
def mc_cdl_207 : List (Nat × Instr × Nat) := [(0, .iconst 0, 1), (1, .istore_n 1, 1), (2, .iconst 0, 1), (3, .istore_n 2, 1), (4, .iload_n 2, 1), (5, .bipush 24, 2), (7, .if_icmp .ge 28, 3), (10, .iload_n 1, 1), (11, .aload_n 0, 1), (12, .getfield 17, 3), (15, .iload_n 2, 1), (16, .iaload, 1), (17, .ifCond .le 9, 3), (20, .iconst 1, 1), (21, .iload_n 2, 1), (22, .ishl, 1), (23, .goto 4, 3), (26, .iconst 0, 1), (27, .ior, 1), (28, .istore_n 1, 1), (29, .iinc 2 1, 3), (32, .goto (-28), 3), (35, .iload_n 1, 1), (36, .ireturn, 1)]
theorem mc_cdk_207 : mc_cdl_207.all (fun q => decide (decode prog_13_method_47_code q.1 = .ok q.2)) = true := by decide +kernel
def mc_cdl_208 : List (Nat × Instr × Nat) := [(0, .bipush 40, 2), (2, .iload_n 1, 1), (3, .imul, 1), (4, .aload_n 0, 1), (5, .getfield 21, 3), (8, .iload_n 1, 1), (9, .iaload, 1), (10, .iadd, 1), (11, .istore 6, 2), (13, .aload_n 0, 1), (14, .getfield 24, 3), (17, .iload 6, 2), (19, .iload_n 2, 1), (20, .iastore, 1), (21, .aload_n 0, 1), (22, .getfield 27, 3), (25, .iload 6, 2), (27, .iload_n 3, 1), (28, .iastore, 1), (29, .aload_n 0, 1), (30, .getfield 30, 3), (33, .iload 6, 2), (35, .iload 4, 2), (37, .iastore, 1), (38, .aload_n 0, 1), (39, .getfield 33, 3), (42, .iload 6, 2), (44, .iload 5, 2), (46, .iastore, 1), (47, .aload_n 0, 1), (48, .getfield 21, 3), (51, .iload_n 1, 1), (52, .dup2, 1), (53, .iaload, 1), (54, .iconst 1, 1), (55, .iadd, 1), (56, .iastore, 1), (57, .return_, 1)]
theorem mc_cdk_208 : mc_cdl_208.all (fun q => decide (decode prog_13_method_49_code q.1 = .ok q.2)) = true := by decide +kernel
def mc_cdl_209 : List (Nat × Instr × Nat) := [(0, .aload_n 0, 1), (1, .iconst 0, 1), (2, .putfield 51, 3), (5, .aload_n 0, 1), (6, .iconst (-1), 1), (7, .putfield 9, 3), (10, .iload_n 1, 1), (11, .ireturn, 1)]
theorem mc_cdk_209 : mc_cdl_209.all (fun q => decide (decode prog_13_method_6_code q.1 = .ok q.2)) = true := by decide +kernel
def mc_cdl_210 : List (Nat × Instr × Nat) := [(0, .aload_n 0, 1), (1, .iconst 0, 1), (2, .putfield 48, 3), (5, .aload_n 0, 1), (6, .getfield 104, 3), (9, .ireturn, 1)]
theorem mc_cdk_210 : mc_cdl_210.all (fun q => decide (decode prog_13_method_45_code q.1 = .ok q.2)) = true := by decide +kernel
def mc_cdl_211 : List (Nat × Instr × Nat) := [(0, .aload_n 0, 1), (1, .iconst 0, 1), (2, .putfield 48, 3), (5, .aload_n 0, 1), (6, .getfield 9, 3), (9, .ireturn, 1)]
theorem mc_cdk_211 : mc_cdl_211.all (fun q => decide (decode prog_13_method_46_code q.1 = .ok q.2)) = true := by decide +kernel
def mc_cdl_212 : List (Nat × Instr × Nat) := [(0, .aload_n 0, 1), (1, .iconst 0, 1), (2, .putfield 48, 3), (5, .aload_n 0, 1), (6, .iload_n 1, 1), (7, .invokevirtual 364, 3), (10, .ifCond .eq 16, 3), (13, .aload_n 0, 1), (14, .aload_n 0, 1), (15, .getfield 21, 3), (18, .iload_n 1, 1), (19, .iaload, 1), (20, .invokevirtual 58, 3), (23, .goto 8, 3), (26, .aload_n 0, 1), (27, .iconst 1, 1), (28, .invokevirtual 54, 3), (31, .ireturn, 1)]
theorem mc_cdk_212 : mc_cdl_212.all (fun q => decide (decode prog_13_method_54_code q.1 = .ok q.2)) = true := by decide +kernel
def mc_cdl_213 : List (Nat × Instr × Nat) := [(0, .aload_n 0, 1), (1, .getfield 337, 3), (4, .ifnull 22, 3), (7, .iload_n 1, 1), (8, .ifCond .lt 18, 3), (11, .iload_n 1, 1), (12, .aload_n 0, 1), (13, .getfield 337, 3), (16, .getfield 188, 3), (19, .if_icmp .ge 7, 3), (22, .iconst 1, 1), (23, .goto 4, 3), (26, .iconst 0, 1), (27, .ireturn, 1)]
theorem mc_cdk_213 : mc_cdl_213.all (fun q => decide (decode prog_13_method_50_code q.1 = .ok q.2)) = true := by decide +kernel
def mc_cdl_214 : List (Nat × Instr × Nat) := [(0, .aload_n 0, 1), (1, .iconst 0, 1), (2, .putfield 48, 3), (5, .aload_n 0, 1), (6, .iload_n 1, 1), (7, .iload_n 2, 1), (8, .invokevirtual 367, 3), (11, .ifCond .eq 12, 3), (14, .iload_n 3, 1), (15, .iconst 0, 1), (16, .iconst 2, 1), (17, .invokestatic 125, 3), (20, .ifCond .ne 9, 3), (23, .aload_n 0, 1), (24, .iconst 1, 1), (25, .invokevirtual 54, 3), (28, .ireturn, 1), (29, .aload_n 0, 1), (30, .iload_n 3, 1), (31, .ifCond .ne 17, 3), (34, .aload_n 0, 1), (35, .getfield 24, 3), (38, .bipush 40, 2), (40, .iload_n 1, 1), (41, .imul, 1), (42, .iload_n 2, 1), (43, .iadd, 1), (44, .iaload, 1), (45, .goto 28, 3), (48, .iload_n 3, 1), (49, .iconst 1, 1), (50, .if_icmp .ne 17, 3), (53, .aload_n 0, 1), (54, .getfield 27, 3), (57, .bipush 40, 2), (59, .iload_n 1, 1), (60, .imul, 1), (61, .iload_n 2, 1), (62, .iadd, 1), (63, .iaload, 1), (64, .goto 9, 3), (67, .aload_n 0, 1), (68, .iload_n 1, 1), (69, .iload_n 2, 1), (70, .invokevirtual 370, 3), (73, .invokevirtual 58, 3), (76, .ireturn, 1)]
theorem mc_cdk_214 : mc_cdl_214.all (fun q => decide (decode prog_13_method_55_code q.1 = .ok q.2)) = true := by decide +kernel
def mc_cdl_215 : List (Nat × Instr × Nat) := [(0, .aload_n 0, 1), (1, .iload_n 1, 1), (2, .invokevirtual 364, 3), (5, .ifCond .eq 21, 3), (8, .iload_n 2, 1), (9, .ifCond .lt 17, 3), (12, .iload_n 2, 1), (13, .aload_n 0, 1), (14, .getfield 21, 3), (17, .iload_n 1, 1), (18, .iaload, 1), (19, .if_icmp .ge 7, 3), (22, .iconst 1, 1), (23, .goto 4, 3), (26, .iconst 0, 1), (27, .ireturn, 1)]
theorem mc_cdk_215 : mc_cdl_215.all (fun q => decide (decode prog_13_method_51_code q.1 = .ok q.2)) = true := by decide +kernel
def mc_cdl_216 : List (Nat × Instr × Nat) := [(0, .aload_n 0, 1), (1, .getfield 337, 3), (4, .getfield 259, 3), (7, .iload_n 1, 1), (8, .iaload, 1), (9, .iconst (-1), 1), (10, .if_icmp .ne 5, 3), (13, .iconst 1, 1), (14, .ireturn, 1), (15, .aload_n 0, 1), (16, .getfield 24, 3), (19, .bipush 40, 2), (21, .iload_n 1, 1), (22, .imul, 1), (23, .iload_n 2, 1), (24, .iadd, 1), (25, .iaload, 1), (26, .aload_n 0, 1), (27, .getfield 337, 3), (30, .getfield 259, 3), (33, .iload_n 1, 1), (34, .iaload, 1), (35, .isub, 1), (36, .istore_n 3, 1), (37, .bipush 10, 2), (39, .iload_n 3, 1), (40, .ifCond .ge 8, 3), (43, .iload_n 3, 1), (44, .ineg, 1), (45, .goto 4, 3), (48, .iload_n 3, 1), (49, .isub, 1), (50, .istore 4, 2), (52, .iload 4, 2), (54, .iconst 1, 1), (55, .if_icmp .ge 7, 3), (58, .iconst 1, 1), (59, .goto 5, 3), (62, .iload 4, 2), (64, .ireturn, 1)]
theorem mc_cdk_216 : mc_cdl_216.all (fun q => decide (decode prog_13_method_53_code q.1 = .ok q.2)) = true := by decide +kernel
def mc_cdl_217 : List (Nat × Instr × Nat) := [(0, .aload_n 0, 1), (1, .iconst 0, 1), (2, .putfield 48, 3), (5, .aload_n 0, 1), (6, .iload_n 1, 1), (7, .iload_n 2, 1), (8, .invokevirtual 367, 3), (11, .ifCond .eq 41, 3), (14, .aload_n 0, 1), (15, .iload_n 3, 1), (16, .invokevirtual 373, 3), (19, .ifCond .eq 33, 3), (22, .aload_n 0, 1), (23, .aload_n 0, 1), (24, .getfield 33, 3), (27, .bipush 40, 2), (29, .iload_n 1, 1), (30, .imul, 1), (31, .iload_n 2, 1), (32, .iadd, 1), (33, .iaload, 1), (34, .iload_n 3, 1), (35, .invokestatic 346, 3), (38, .ifCond .eq 7, 3), (41, .iconst 1, 1), (42, .goto 4, 3), (45, .iconst 0, 1), (46, .invokevirtual 58, 3), (49, .goto 8, 3), (52, .aload_n 0, 1), (53, .iconst 1, 1), (54, .invokevirtual 54, 3), (57, .ireturn, 1)]
theorem mc_cdk_217 : mc_cdl_217.all (fun q => decide (decode prog_13_method_56_code q.1 = .ok q.2)) = true := by decide +kernel
def mc_cdl_218 : List (Nat × Instr × Nat) := [(0, .aload_n 0, 1), (1, .getfield 337, 3), (4, .ifnull 22, 3), (7, .iload_n 1, 1), (8, .ifCond .lt 18, 3), (11, .iload_n 1, 1), (12, .aload_n 0, 1), (13, .getfield 337, 3), (16, .getfield 185, 3), (19, .if_icmp .ge 7, 3), (22, .iconst 1, 1), (23, .goto 4, 3), (26, .iconst 0, 1), (27, .ireturn, 1)]
theorem mc_cdk_218 : mc_cdl_218.all (fun q => decide (decode prog_13_method_52_code q.1 = .ok q.2)) = true := by decide +kernel
def mc_cdl_219 : List (Nat × Instr × Nat) := [(0, .aload_n 0, 1), (1, .iconst 0, 1), (2, .putfield 48, 3), (5, .aload_n 0, 1), (6, .getfield 337, 3), (9, .ifnonnull 12, 3), (12, .aload_n 0, 1), (13, .iconst 1, 1), (14, .invokevirtual 54, 3), (17, .i2l, 1), (18, .goto 11, 3), (21, .aload_n 0, 1), (22, .aload_n 0, 1), (23, .invokevirtual 376, 3), (26, .invokevirtual 380, 3), (29, .lreturn, 1)]
theorem mc_cdk_219 : mc_cdl_219.all (fun q => decide (decode prog_13_method_58_code q.1 = .ok q.2)) = true := by decide +kernel
def mc_cdl_220 : List (Nat × Instr × Nat) := [(0, .lconst 1, 1), (1, .lstore_n 1, 1), (2, .iconst 0, 1), (3, .istore_n 3, 1), (4, .iload_n 3, 1), (5, .aload_n 0, 1), (6, .getfield 337, 3), (9, .getfield 188, 3), (12, .if_icmp .ge 19, 3), (15, .lload_n 1, 1), (16, .aload_n 0, 1), (17, .getfield 21, 3), (20, .iload_n 3, 1), (21, .iaload, 1), (22, .i2l, 1), (23, .lmul, 1), (24, .lstore_n 1, 1), (25, .iinc 3 1, 3), (28, .goto (-24), 3), (31, .lload_n 1, 1), (32, .lreturn, 1)]
theorem mc_cdk_220 : mc_cdl_220.all (fun q => decide (decode prog_13_method_57_code q.1 = .ok q.2)) = true := by decide +kernel
def mc_cdl_221 : List (Nat × Instr × Nat) := [(0, .aload_n 0, 1), (1, .iconst 0, 1), (2, .invokevirtual 58, 3), (5, .pop, 1), (6, .lload_n 1, 1), (7, .lreturn, 1)]
theorem mc_cdk_221 : mc_cdl_221.all (fun q => decide (decode prog_13_method_7_code q.1 = .ok q.2)) = true := by decide +kernel
end
section
/-! the methods' instructions, each as decode reads it (own work, wip/gen/codes.py) -/
def mc_cdl_222 : List (Nat × Instr × Nat) := [(0, .aload_n 0, 1), (1, .iconst 0, 1), (2, .putfield 48, 3), (5, .aload_n 0, 1), (6, .iload_n 1, 1), (7, .iload_n 2, 1), (8, .invokevirtual 367, 3), (11, .ifCond .ne 9, 3), (14, .aload_n 0, 1), (15, .iconst 1, 1), (16, .invokevirtual 400, 3), (19, .ireturn, 1), (20, .aload_n 0, 1), (21, .getfield 36, 3), (24, .iload_n 1, 1), (25, .iload_n 2, 1), (26, .iastore, 1), (27, .aload_n 0, 1), (28, .invokevirtual 403, 3), (31, .ireturn, 1)]
theorem mc_cdk_222 : mc_cdl_222.all (fun q => decide (decode prog_13_method_66_code q.1 = .ok q.2)) = true := by decide +kernel
def mc_cdl_223 : List (Nat × Instr × Nat) := [(0, .aload_n 0, 1), (1, .iload_n 1, 1), (2, .invokevirtual 54, 3), (5, .pop, 1), (6, .iconst 0, 1), (7, .ireturn, 1)]
theorem mc_cdk_223 : mc_cdl_223.all (fun q => decide (decode prog_13_method_5_code q.1 = .ok q.2)) = true := by decide +kernel
def mc_cdl_224 : List (Nat × Instr × Nat) := [(0, .aload_n 0, 1), (1, .iconst 0, 1), (2, .invokevirtual 58, 3), (5, .pop, 1), (6, .iconst 1, 1), (7, .ireturn, 1)]
theorem mc_cdk_224 : mc_cdl_224.all (fun q => decide (decode prog_13_method_8_code q.1 = .ok q.2)) = true := by decide +kernel
def mc_cdl_225 : List (Nat × Instr × Nat) := [(0, .aload_n 0, 1), (1, .iconst 0, 1), (2, .putfield 48, 3), (5, .aload_n 0, 1), (6, .iload_n 1, 1), (7, .invokevirtual 364, 3), (10, .ifCond .eq 25, 3), (13, .aload_n 0, 1), (14, .getfield 21, 3), (17, .iload_n 1, 1), (18, .iaload, 1), (19, .ifCond .le 16, 3), (22, .aload_n 0, 1), (23, .aload_n 0, 1), (24, .getfield 36, 3), (27, .iload_n 1, 1), (28, .iaload, 1), (29, .invokevirtual 58, 3), (32, .goto 8, 3), (35, .aload_n 0, 1), (36, .iconst 1, 1), (37, .invokevirtual 54, 3), (40, .ireturn, 1)]
theorem mc_cdk_225 : mc_cdl_225.all (fun q => decide (decode prog_13_method_67_code q.1 = .ok q.2)) = true := by decide +kernel
def mc_cdl_226 : List (Nat × Instr × Nat) := [(0, .aload_n 0, 1), (1, .iconst 0, 1), (2, .putfield 48, 3), (5, .aload_n 0, 1), (6, .iload_n 1, 1), (7, .invokevirtual 373, 3), (10, .ifCond .ne 9, 3), (13, .aload_n 0, 1), (14, .iconst 1, 1), (15, .invokevirtual 54, 3), (18, .ireturn, 1), (19, .aload_n 0, 1), (20, .invokevirtual 406, 3), (23, .ifCond .eq 11, 3), (26, .aload_n 0, 1), (27, .iconst 5, 1), (28, .invokevirtual 54, 3), (31, .goto 16, 3), (34, .aload_n 0, 1), (35, .aload_n 0, 1), (36, .aload_n 0, 1), (37, .getfield 36, 3), (40, .iload_n 1, 1), (41, .invokevirtual 386, 3), (44, .invokevirtual 58, 3), (47, .ireturn, 1)]
theorem mc_cdk_226 : mc_cdl_226.all (fun q => decide (decode prog_13_method_68_code q.1 = .ok q.2)) = true := by decide +kernel
def mc_cdl_227 : List (Nat × Instr × Nat) := [(0, .aload_n 0, 1), (1, .invokevirtual 376, 3), (4, .lconst 0, 1), (5, .lcmp, 1), (6, .ifCond .ne 7, 3), (9, .iconst 1, 1), (10, .goto 4, 3), (13, .iconst 0, 1), (14, .ireturn, 1)]
theorem mc_cdk_227 : mc_cdl_227.all (fun q => decide (decode prog_13_method_65_code q.1 = .ok q.2)) = true := by decide +kernel
def mc_cdl_228 : List (Nat × Instr × Nat) := [(0, .aload_n 0, 1), (1, .iload_n 2, 1), (2, .invokevirtual 384, 3), (5, .istore_n 3, 1), (6, .iconst 0, 1), (7, .istore 4, 2), (9, .iload 4, 2), (11, .aload_n 0, 1), (12, .getfield 337, 3), (15, .getfield 188, 3), (18, .if_icmp .ge 39, 3), (21, .iload_n 3, 1), (22, .aload_n 0, 1), (23, .getfield 33, 3), (26, .bipush 40, 2), (28, .iload 4, 2), (30, .imul, 1), (31, .aload_n 1, 1), (32, .iload 4, 2), (34, .iaload, 1), (35, .iadd, 1), (36, .iaload, 1), (37, .iload_n 2, 1), (38, .invokestatic 346, 3), (41, .ifCond .eq 7, 3), (44, .iconst 1, 1), (45, .goto 4, 3), (48, .iconst 0, 1), (49, .iadd, 1), (50, .istore_n 3, 1), (51, .iinc 4 1, 3), (54, .goto (-45), 3), (57, .iload_n 3, 1), (58, .ireturn, 1)]
theorem mc_cdk_228 : mc_cdl_228.all (fun q => decide (decode prog_13_method_60_code q.1 = .ok q.2)) = true := by decide +kernel
def mc_cdl_229 : List (Nat × Instr × Nat) := [(0, .iconst 0, 1), (1, .istore_n 2, 1), (2, .iconst 0, 1), (3, .istore_n 3, 1), (4, .iload_n 3, 1), (5, .aload_n 0, 1), (6, .getfield 337, 3), (9, .getfield 288, 3), (12, .if_icmp .ge 30, 3), (15, .iload_n 2, 1), (16, .aload_n 0, 1), (17, .getfield 337, 3), (20, .getfield 291, 3), (23, .iload_n 3, 1), (24, .iaload, 1), (25, .iload_n 1, 1), (26, .if_icmp .gt 7, 3), (29, .iconst 1, 1), (30, .goto 4, 3), (33, .iconst 0, 1), (34, .iadd, 1), (35, .istore_n 2, 1), (36, .iinc 3 1, 3), (39, .goto (-35), 3), (42, .iload_n 2, 1), (43, .ireturn, 1)]
theorem mc_cdk_229 : mc_cdl_229.all (fun q => decide (decode prog_13_method_59_code q.1 = .ok q.2)) = true := by decide +kernel
def mc_cdl_230 : List (Nat × Instr × Nat) := [(0, .aload_n 0, 1), (1, .iconst 0, 1), (2, .putfield 48, 3), (5, .aload_n 0, 1), (6, .invokevirtual 412, 3), (9, .istore_n 1, 1), (10, .iload_n 1, 1), (11, .ifCond .le 11, 3), (14, .aload_n 0, 1), (15, .iload_n 1, 1), (16, .invokevirtual 54, 3), (19, .goto 11, 3), (22, .aload_n 0, 1), (23, .aload_n 0, 1), (24, .invokevirtual 415, 3), (27, .invokevirtual 58, 3), (30, .ireturn, 1)]
theorem mc_cdk_230 : mc_cdl_230.all (fun q => decide (decode prog_13_method_72_code q.1 = .ok q.2)) = true := by decide +kernel
def mc_cdl_231 : List (Nat × Instr × Nat) := [(0, .aload_n 0, 1), (1, .getfield 337, 3), (4, .ifnonnull 7, 3), (7, .iconst 1, 1), (8, .goto 15, 3), (11, .aload_n 0, 1), (12, .invokevirtual 406, 3), (15, .ifCond .eq 7, 3), (18, .iconst 5, 1), (19, .goto 4, 3), (22, .iconst 0, 1), (23, .ireturn, 1)]
theorem mc_cdk_231 : mc_cdl_231.all (fun q => decide (decode prog_13_method_71_code q.1 = .ok q.2)) = true := by decide +kernel
def mc_cdl_232 : List (Nat × Instr × Nat) := [(0, .iconst 0, 1), (1, .istore_n 1, 1), (2, .iload_n 1, 1), (3, .aload_n 0, 1), (4, .getfield 337, 3), (7, .getfield 185, 3), (10, .if_icmp .ge 19, 3), (13, .aload_n 0, 1), (14, .iload_n 1, 1), (15, .invokevirtual 409, 3), (18, .ifCond .le 5, 3), (21, .iload_n 1, 1), (22, .ireturn, 1), (23, .iinc 1 1, 3), (26, .goto (-24), 3), (29, .bipush (-2), 2), (31, .ireturn, 1)]
theorem mc_cdk_232 : mc_cdl_232.all (fun q => decide (decode prog_13_method_70_code q.1 = .ok q.2)) = true := by decide +kernel
def mc_cdl_233 : List (Nat × Instr × Nat) := [(0, .aload_n 0, 1), (1, .getfield 17, 3), (4, .iload_n 1, 1), (5, .iaload, 1), (6, .ifCond .le 19, 3), (9, .aload_n 0, 1), (10, .aload_n 0, 1), (11, .getfield 36, 3), (14, .iload_n 1, 1), (15, .invokevirtual 390, 3), (18, .ifCond .le 7, 3), (21, .iconst 1, 1), (22, .goto 23, 3), (25, .aload_n 0, 1), (26, .aload_n 0, 1), (27, .getfield 36, 3), (30, .invokevirtual 393, 3), (33, .iload_n 1, 1), (34, .invokestatic 346, 3), (37, .ifCond .eq 7, 3), (40, .iconst 2, 1), (41, .goto 4, 3), (44, .iconst 0, 1), (45, .ireturn, 1)]
theorem mc_cdk_233 : mc_cdl_233.all (fun q => decide (decode prog_13_method_69_code q.1 = .ok q.2)) = true := by decide +kernel
def mc_cdl_234 : List (Nat × Instr × Nat) := [(0, .aload_n 0, 1), (1, .getfield 17, 3), (4, .iload_n 2, 1), (5, .iaload, 1), (6, .iconst 1, 1), (7, .isub, 1), (8, .aload_n 0, 1), (9, .aload_n 1, 1), (10, .iload_n 2, 1), (11, .invokevirtual 386, 3), (14, .isub, 1), (15, .istore_n 3, 1), (16, .iload_n 3, 1), (17, .iconst 0, 1), (18, .aload_n 0, 1), (19, .getfield 337, 3), (22, .getfield 222, 3), (25, .invokestatic 125, 3), (28, .ifCond .eq 5, 3), (31, .iconst 0, 1), (32, .ireturn, 1), (33, .iload_n 3, 1), (34, .iconst (-1), 1), (35, .if_icmp .eq 16, 3), (38, .iload_n 3, 1), (39, .aload_n 0, 1), (40, .getfield 337, 3), (43, .getfield 222, 3), (46, .iconst 1, 1), (47, .iadd, 1), (48, .if_icmp .ne 7, 3), (51, .iconst 1, 1), (52, .goto 4, 3), (55, .iconst 2, 1), (56, .ireturn, 1)]
theorem mc_cdk_234 : mc_cdl_234.all (fun q => decide (decode prog_13_method_61_code q.1 = .ok q.2)) = true := by decide +kernel
def mc_cdl_235 : List (Nat × Instr × Nat) := [(0, .iconst 0, 1), (1, .istore_n 2, 1), (2, .iconst 0, 1), (3, .istore_n 3, 1), (4, .iload_n 3, 1), (5, .aload_n 0, 1), (6, .getfield 337, 3), (9, .getfield 276, 3), (12, .if_icmp .ge 71, 3), (15, .iload_n 2, 1), (16, .aload_n 0, 1), (17, .getfield 30, 3), (20, .bipush 40, 2), (22, .aload_n 0, 1), (23, .getfield 337, 3), (26, .getfield 282, 3), (29, .iload_n 3, 1), (30, .iaload, 1), (31, .imul, 1), (32, .aload_n 1, 1), (33, .aload_n 0, 1), (34, .getfield 337, 3), (37, .getfield 282, 3), (40, .iload_n 3, 1), (41, .iaload, 1), (42, .iaload, 1), (43, .iadd, 1), (44, .iaload, 1), (45, .aload_n 0, 1), (46, .getfield 30, 3), (49, .bipush 40, 2), (51, .aload_n 0, 1), (52, .getfield 337, 3), (55, .getfield 285, 3), (58, .iload_n 3, 1), (59, .iaload, 1), (60, .imul, 1), (61, .aload_n 1, 1), (62, .aload_n 0, 1), (63, .getfield 337, 3), (66, .getfield 285, 3), (69, .iload_n 3, 1), (70, .iaload, 1), (71, .iaload, 1), (72, .iadd, 1), (73, .iaload, 1), (74, .iand, 1), (75, .ior, 1), (76, .istore_n 2, 1), (77, .iinc 3 1, 3), (80, .goto (-76), 3), (83, .iload_n 2, 1), (84, .ireturn, 1)]
theorem mc_cdk_235 : mc_cdl_235.all (fun q => decide (decode prog_13_method_62_code q.1 = .ok q.2)) = true := by decide +kernel
def mc_cdl_236 : List (Nat × Instr × Nat) := [(0, .aload_n 0, 1), (1, .iconst 0, 1), (2, .putfield 48, 3), (5, .aload_n 0, 1), (6, .invokevirtual 412, 3), (9, .istore_n 1, 1), (10, .iload_n 1, 1), (11, .ifCond .le 9, 3), (14, .aload_n 0, 1), (15, .iload_n 1, 1), (16, .invokevirtual 54, 3), (19, .ireturn, 1), (20, .aload_n 0, 1), (21, .invokevirtual 415, 3), (24, .istore_n 2, 1), (25, .aload_n 0, 1), (26, .iload_n 2, 1), (27, .bipush (-2), 2), (29, .if_icmp .ne 7, 3), (32, .iconst 0, 1), (33, .goto 8, 3), (36, .aload_n 0, 1), (37, .iload_n 2, 1), (38, .invokevirtual 409, 3), (41, .invokevirtual 58, 3), (44, .ireturn, 1)]
theorem mc_cdk_236 : mc_cdl_236.all (fun q => decide (decode prog_13_method_73_code q.1 = .ok q.2)) = true := by decide +kernel
def mc_cdl_237 : List (Nat × Instr × Nat) := [(0, .aload_n 0, 1), (1, .iconst 0, 1), (2, .putfield 48, 3), (5, .aload_n 0, 1), (6, .invokevirtual 412, 3), (9, .istore_n 1, 1), (10, .iload_n 1, 1), (11, .ifCond .le 11, 3), (14, .aload_n 0, 1), (15, .iload_n 1, 1), (16, .invokevirtual 54, 3), (19, .goto 23, 3), (22, .aload_n 0, 1), (23, .aload_n 0, 1), (24, .aload_n 0, 1), (25, .getfield 36, 3), (28, .invokevirtual 418, 3), (31, .ifCond .eq 7, 3), (34, .iconst 1, 1), (35, .goto 4, 3), (38, .iconst 0, 1), (39, .invokevirtual 58, 3), (42, .ireturn, 1)]
theorem mc_cdk_237 : mc_cdl_237.all (fun q => decide (decode prog_13_method_74_code q.1 = .ok q.2)) = true := by decide +kernel
def mc_cdl_238 : List (Nat × Instr × Nat) := [(0, .aload_n 0, 1), (1, .aload_n 1, 1), (2, .invokevirtual 393, 3), (5, .ifCond .ne 21, 3), (8, .aload_n 0, 1), (9, .aload_n 1, 1), (10, .aload_n 0, 1), (11, .getfield 343, 3), (14, .invokevirtual 397, 3), (17, .bipush 24, 2), (19, .if_icmp .ne 7, 3), (22, .iconst 1, 1), (23, .goto 4, 3), (26, .iconst 0, 1), (27, .ireturn, 1)]
theorem mc_cdk_238 : mc_cdl_238.all (fun q => decide (decode prog_13_method_64_code q.1 = .ok q.2)) = true := by decide +kernel
def mc_cdl_239 : List (Nat × Instr × Nat) := [(0, .iconst 0, 1), (1, .istore_n 3, 1), (2, .iconst 0, 1), (3, .istore 4, 2), (5, .iload 4, 2), (7, .aload_n 0, 1), (8, .getfield 337, 3), (11, .getfield 185, 3), (14, .if_icmp .ge 65, 3), (17, .iload_n 2, 1), (18, .iload 4, 2), (20, .invokestatic 346, 3), (23, .ifCond .eq 50, 3), (26, .aload_n 0, 1), (27, .getfield 17, 3), (30, .iload 4, 2), (32, .iaload, 1), (33, .ifCond .ne 6, 3), (36, .goto 37, 3), (39, .aload_n 0, 1), (40, .aload_n 1, 1), (41, .iload 4, 2), (43, .invokevirtual 390, 3), (46, .istore 5, 2), (48, .iload_n 3, 1), (49, .iload 5, 2), (51, .iadd, 1), (52, .istore_n 3, 1), (53, .iload 5, 2), (55, .iconst 2, 1), (56, .if_icmp .eq 14, 3), (59, .iload_n 3, 1), (60, .aload_n 0, 1), (61, .getfield 337, 3), (64, .getfield 226, 3), (67, .if_icmp .le 6, 3), (70, .iload 4, 2), (72, .ireturn, 1), (73, .iinc 4 1, 3), (76, .goto (-71), 3), (79, .bipush 24, 2), (81, .ireturn, 1)]
theorem mc_cdk_239 : mc_cdl_239.all (fun q => decide (decode prog_13_method_63_code q.1 = .ok q.2)) = true := by decide +kernel
def mc_cdl_240 : List (Nat × Instr × Nat) := [(0, .aload_n 0, 1), (1, .iconst 0, 1), (2, .putfield 48, 3), (5, .aload_n 0, 1), (6, .aload_n 0, 1), (7, .getfield 337, 3), (10, .ifnull 7, 3), (13, .iconst 1, 1), (14, .goto 4, 3), (17, .iconst 0, 1), (18, .invokevirtual 433, 3), (21, .istore_n 1, 1), (22, .iload_n 1, 1), (23, .ifCond .le 11, 3), (26, .aload_n 0, 1), (27, .iload_n 1, 1), (28, .invokevirtual 54, 3), (31, .goto 11, 3), (34, .aload_n 0, 1), (35, .aload_n 0, 1), (36, .getfield 422, 3), (39, .invokevirtual 58, 3), (42, .ireturn, 1)]
theorem mc_cdk_240 : mc_cdl_240.all (fun q => decide (decode prog_13_method_80_code q.1 = .ok q.2)) = true := by decide +kernel
def mc_cdl_241 : List (Nat × Instr × Nat) := [(0, .iload_n 1, 1), (1, .ifCond .ne 5, 3), (4, .iconst 1, 1), (5, .ireturn, 1), (6, .aload_n 0, 1), (7, .invokevirtual 376, 3), (10, .ldc2_w 428, 3), (13, .lcmp, 1), (14, .ifCond .le 5, 3), (17, .iconst 3, 1), (18, .ireturn, 1), (19, .aload_n 0, 1), (20, .invokevirtual 430, 3), (23, .iconst 0, 1), (24, .ireturn, 1)]
theorem mc_cdk_241 : mc_cdl_241.all (fun q => decide (decode prog_13_method_77_code q.1 = .ok q.2)) = true := by decide +kernel
def mc_cdl_242 : List (Nat × Instr × Nat) := [(0, .aload_n 0, 1), (1, .getfield 353, 3), (4, .ifCond .eq 4, 3), (7, .return_, 1), (8, .aload_n 0, 1), (9, .iconst 0, 1), (10, .putfield 422, 3), (13, .iconst 0, 1), (14, .istore_n 1, 1), (15, .iload_n 1, 1), (16, .i2l, 1), (17, .aload_n 0, 1), (18, .invokevirtual 376, 3), (21, .lcmp, 1), (22, .ifCond .ge 48, 3), (25, .aload_n 0, 1), (26, .iload_n 1, 1), (27, .invokevirtual 425, 3), (30, .aload_n 0, 1), (31, .aload_n 0, 1), (32, .getfield 39, 3), (35, .invokevirtual 418, 3), (38, .ifCond .ne 6, 3), (41, .goto 23, 3), (44, .aload_n 0, 1), (45, .getfield 42, 3), (48, .aload_n 0, 1), (49, .getfield 422, 3), (52, .iload_n 1, 1), (53, .iastore, 1), (54, .aload_n 0, 1), (55, .dup, 1), (56, .getfield 422, 3), (59, .iconst 1, 1), (60, .iadd, 1), (61, .putfield 422, 3), (64, .iinc 1 1, 3), (67, .goto (-52), 3), (70, .aload_n 0, 1), (71, .iconst 1, 1), (72, .putfield 353, 3), (75, .return_, 1)]
theorem mc_cdk_242 : mc_cdl_242.all (fun q => decide (decode prog_13_method_76_code q.1 = .ok q.2)) = true := by decide +kernel
def mc_cdl_243 : List (Nat × Instr × Nat) := [(0, .iload_n 1, 1), (1, .istore_n 2, 1), (2, .aload_n 0, 1), (3, .getfield 337, 3), (6, .getfield 188, 3), (9, .iconst 1, 1), (10, .isub, 1), (11, .istore_n 3, 1), (12, .iload_n 3, 1), (13, .ifCond .lt 32, 3), (16, .aload_n 0, 1), (17, .getfield 39, 3), (20, .iload_n 3, 1), (21, .iload_n 2, 1), (22, .aload_n 0, 1), (23, .getfield 21, 3), (26, .iload_n 3, 1), (27, .iaload, 1), (28, .irem, 1), (29, .iastore, 1), (30, .iload_n 2, 1), (31, .aload_n 0, 1), (32, .getfield 21, 3), (35, .iload_n 3, 1), (36, .iaload, 1), (37, .idiv, 1), (38, .istore_n 2, 1), (39, .iinc 3 (-1), 3), (42, .goto (-30), 3), (45, .return_, 1)]
theorem mc_cdk_243 : mc_cdl_243.all (fun q => decide (decode prog_13_method_75_code q.1 = .ok q.2)) = true := by decide +kernel
def mc_cdl_244 : List (Nat × Instr × Nat) := [(0, .aload_n 0, 1), (1, .iconst 0, 1), (2, .putfield 48, 3), (5, .aload_n 0, 1), (6, .aload_n 0, 1), (7, .getfield 337, 3), (10, .ifnull 7, 3), (13, .iconst 1, 1), (14, .goto 4, 3), (17, .iconst 0, 1), (18, .invokevirtual 433, 3), (21, .istore_n 1, 1), (22, .iload_n 1, 1), (23, .ifCond .le 11, 3), (26, .aload_n 0, 1), (27, .iload_n 1, 1), (28, .invokevirtual 54, 3), (31, .goto 19, 3), (34, .aload_n 0, 1), (35, .aload_n 0, 1), (36, .getfield 422, 3), (39, .ifCond .le 7, 3), (42, .iconst 1, 1), (43, .goto 4, 3), (46, .iconst 0, 1), (47, .invokevirtual 58, 3), (50, .ireturn, 1)]
theorem mc_cdk_244 : mc_cdl_244.all (fun q => decide (decode prog_13_method_81_code q.1 = .ok q.2)) = true := by decide +kernel
def mc_cdl_245 : List (Nat × Instr × Nat) := [(0, .aload_n 0, 1), (1, .iconst 0, 1), (2, .putfield 48, 3), (5, .aload_n 0, 1), (6, .aload_n 0, 1), (7, .iload_n 2, 1), (8, .invokevirtual 364, 3), (11, .ifCond .eq 11, 3), (14, .iload_n 1, 1), (15, .ifCond .lt 7, 3), (18, .iconst 1, 1), (19, .goto 4, 3), (22, .iconst 0, 1), (23, .invokevirtual 433, 3), (26, .istore_n 3, 1), (27, .iload_n 3, 1), (28, .ifCond .ne 13, 3), (31, .iload_n 1, 1), (32, .aload_n 0, 1), (33, .getfield 422, 3), (36, .if_icmp .lt 5, 3), (39, .iconst 1, 1), (40, .istore_n 3, 1), (41, .iload_n 3, 1), (42, .ifCond .le 9, 3), (45, .aload_n 0, 1), (46, .iload_n 3, 1), (47, .invokevirtual 54, 3), (50, .ireturn, 1), (51, .aload_n 0, 1), (52, .aload_n 0, 1), (53, .getfield 42, 3), (56, .iload_n 1, 1), (57, .iaload, 1), (58, .invokevirtual 425, 3), (61, .aload_n 0, 1), (62, .aload_n 0, 1), (63, .getfield 39, 3), (66, .iload_n 2, 1), (67, .iaload, 1), (68, .invokevirtual 58, 3), (71, .ireturn, 1)]
theorem mc_cdk_245 : mc_cdl_245.all (fun q => decide (decode prog_13_method_82_code q.1 = .ok q.2)) = true := by decide +kernel
def mc_cdl_246 : List (Nat × Instr × Nat) := [(0, .aload_n 0, 1), (1, .iconst 0, 1), (2, .putfield 48, 3), (5, .aload_n 0, 1), (6, .aload_n 0, 1), (7, .getfield 337, 3), (10, .ifnull 7, 3), (13, .iconst 1, 1), (14, .goto 4, 3), (17, .iconst 0, 1), (18, .invokevirtual 433, 3), (21, .istore_n 1, 1), (22, .iload_n 1, 1), (23, .ifCond .le 12, 3), (26, .aload_n 0, 1), (27, .iload_n 1, 1), (28, .invokevirtual 54, 3), (31, .i2l, 1), (32, .goto 13, 3), (35, .aload_n 0, 1), (36, .aload_n 0, 1), (37, .iconst (-1), 1), (38, .iconst 0, 1), (39, .invokevirtual 440, 3), (42, .invokevirtual 380, 3), (45, .lreturn, 1)]
theorem mc_cdk_246 : mc_cdl_246.all (fun q => decide (decode prog_13_method_84_code q.1 = .ok q.2)) = true := by decide +kernel
def mc_cdl_247 : List (Nat × Instr × Nat) := [(0, .lconst 0, 1), (1, .lstore_n 3, 1), (2, .iconst 0, 1), (3, .istore 5, 2), (5, .iload 5, 2), (7, .aload_n 0, 1), (8, .getfield 422, 3), (11, .if_icmp .ge 55, 3), (14, .aload_n 0, 1), (15, .aload_n 0, 1), (16, .getfield 42, 3), (19, .iload 5, 2), (21, .iaload, 1), (22, .invokevirtual 425, 3), (25, .iload_n 1, 1), (26, .iconst (-1), 1), (27, .if_icmp .eq 26, 3), (30, .aload_n 0, 1), (31, .getfield 33, 3), (34, .bipush 40, 2), (36, .iload_n 1, 1), (37, .imul, 1), (38, .aload_n 0, 1), (39, .getfield 39, 3), (42, .iload_n 1, 1), (43, .iaload, 1), (44, .iadd, 1), (45, .iaload, 1), (46, .iload_n 2, 1), (47, .invokestatic 346, 3), (50, .ifCond .eq 10, 3), (53, .lload_n 3, 1), (54, .aload_n 0, 1), (55, .invokevirtual 437, 3), (58, .ladd, 1), (59, .lstore_n 3, 1), (60, .iinc 5 1, 3), (63, .goto (-58), 3), (66, .lload_n 3, 1), (67, .lreturn, 1)]
theorem mc_cdk_247 : mc_cdl_247.all (fun q => decide (decode prog_13_method_83_code q.1 = .ok q.2)) = true := by decide +kernel
def mc_cdl_248 : List (Nat × Instr × Nat) := [(0, .lconst 1, 1), (1, .lstore_n 1, 1), (2, .iconst 0, 1), (3, .istore_n 3, 1), (4, .iload_n 3, 1), (5, .aload_n 0, 1), (6, .getfield 337, 3), (9, .getfield 188, 3), (12, .if_icmp .ge 24, 3), (15, .lload_n 1, 1), (16, .aload_n 0, 1), (17, .iload_n 3, 1), (18, .aload_n 0, 1), (19, .getfield 39, 3), (22, .iload_n 3, 1), (23, .iaload, 1), (24, .invokevirtual 370, 3), (27, .i2l, 1), (28, .lmul, 1), (29, .lstore_n 1, 1), (30, .iinc 3 1, 3), (33, .goto (-29), 3), (36, .lload_n 1, 1), (37, .lreturn, 1)]
theorem mc_cdk_248 : mc_cdl_248.all (fun q => decide (decode prog_13_method_79_code q.1 = .ok q.2)) = true := by decide +kernel
def mc_cdl_249 : List (Nat × Instr × Nat) := [(0, .aload_n 0, 1), (1, .iconst 0, 1), (2, .putfield 48, 3), (5, .aload_n 0, 1), (6, .aload_n 0, 1), (7, .iload_n 1, 1), (8, .iload_n 2, 1), (9, .invokevirtual 367, 3), (12, .invokevirtual 433, 3), (15, .istore_n 3, 1), (16, .iload_n 3, 1), (17, .ifCond .le 9, 3), (20, .aload_n 0, 1), (21, .iload_n 3, 1), (22, .invokevirtual 54, 3), (25, .ireturn, 1), (26, .iconst 0, 1), (27, .istore 4, 2), (29, .iconst 0, 1), (30, .istore 5, 2), (32, .iload 5, 2), (34, .aload_n 0, 1), (35, .getfield 422, 3), (38, .if_icmp .ge 40, 3), (41, .aload_n 0, 1), (42, .aload_n 0, 1), (43, .getfield 42, 3), (46, .iload 5, 2), (48, .iaload, 1), (49, .invokevirtual 425, 3), (52, .iload 4, 2), (54, .aload_n 0, 1), (55, .getfield 39, 3), (58, .iload_n 1, 1), (59, .iaload, 1), (60, .iload_n 2, 1), (61, .if_icmp .ne 7, 3), (64, .iconst 1, 1), (65, .goto 4, 3), (68, .iconst 0, 1), (69, .iadd, 1), (70, .istore 4, 2), (72, .iinc 5 1, 3), (75, .goto (-43), 3), (78, .aload_n 0, 1), (79, .iload 4, 2), (81, .invokevirtual 58, 3), (84, .ireturn, 1)]
theorem mc_cdk_249 : mc_cdl_249.all (fun q => decide (decode prog_13_method_85_code q.1 = .ok q.2)) = true := by decide +kernel
def mc_cdl_250 : List (Nat × Instr × Nat) := [(0, .aload_n 0, 1), (1, .iconst 0, 1), (2, .putfield 48, 3), (5, .aload_n 0, 1), (6, .aload_n 0, 1), (7, .iload_n 1, 1), (8, .invokevirtual 364, 3), (11, .ifCond .eq 15, 3), (14, .aload_n 0, 1), (15, .iload_n 2, 1), (16, .invokevirtual 373, 3), (19, .ifCond .eq 7, 3), (22, .iconst 1, 1), (23, .goto 4, 3), (26, .iconst 0, 1), (27, .invokevirtual 433, 3), (30, .istore_n 3, 1), (31, .iload_n 3, 1), (32, .ifCond .le 11, 3), (35, .aload_n 0, 1), (36, .iload_n 3, 1), (37, .invokevirtual 54, 3), (40, .goto 13, 3), (43, .aload_n 0, 1), (44, .aload_n 0, 1), (45, .iload_n 1, 1), (46, .iload_n 2, 1), (47, .invokevirtual 444, 3), (50, .invokevirtual 58, 3), (53, .ireturn, 1)]
theorem mc_cdk_250 : mc_cdl_250.all (fun q => decide (decode prog_13_method_87_code q.1 = .ok q.2)) = true := by decide +kernel
def mc_cdl_251 : List (Nat × Instr × Nat) := [(0, .iconst 0, 1), (1, .istore_n 3, 1), (2, .iconst 0, 1), (3, .istore 4, 2), (5, .iload 4, 2), (7, .aload_n 0, 1), (8, .getfield 422, 3), (11, .if_icmp .ge 51, 3), (14, .aload_n 0, 1), (15, .aload_n 0, 1), (16, .getfield 42, 3), (19, .iload 4, 2), (21, .iaload, 1), (22, .invokevirtual 425, 3), (25, .iload_n 3, 1), (26, .aload_n 0, 1), (27, .getfield 33, 3), (30, .bipush 40, 2), (32, .iload_n 1, 1), (33, .imul, 1), (34, .aload_n 0, 1), (35, .getfield 39, 3), (38, .iload_n 1, 1), (39, .iaload, 1), (40, .iadd, 1), (41, .iaload, 1), (42, .iload_n 2, 1), (43, .invokestatic 346, 3), (46, .ifCond .eq 7, 3), (49, .iconst 1, 1), (50, .goto 4, 3), (53, .iconst 0, 1), (54, .iadd, 1), (55, .istore_n 3, 1), (56, .iinc 4 1, 3), (59, .goto (-54), 3), (62, .iload_n 3, 1), (63, .ireturn, 1)]
theorem mc_cdk_251 : mc_cdl_251.all (fun q => decide (decode prog_13_method_86_code q.1 = .ok q.2)) = true := by decide +kernel
def mc_cdl_252 : List (Nat × Instr × Nat) := [(0, .aload_n 0, 1), (1, .iconst 0, 1), (2, .putfield 48, 3), (5, .aload_n 0, 1), (6, .aload_n 0, 1), (7, .iload_n 1, 1), (8, .invokevirtual 364, 3), (11, .ifCond .eq 15, 3), (14, .aload_n 0, 1), (15, .iload_n 2, 1), (16, .invokevirtual 373, 3), (19, .ifCond .eq 7, 3), (22, .iconst 1, 1), (23, .goto 4, 3), (26, .iconst 0, 1), (27, .invokevirtual 447, 3), (30, .istore_n 3, 1), (31, .iload_n 3, 1), (32, .ifCond .le 9, 3), (35, .aload_n 0, 1), (36, .iload_n 3, 1), (37, .invokevirtual 54, 3), (40, .ireturn, 1), (41, .aload_n 0, 1), (42, .iload_n 1, 1), (43, .iload_n 2, 1), (44, .invokevirtual 444, 3), (47, .istore 4, 2), (49, .aload_n 0, 1), (50, .iload 4, 2), (52, .aload_n 0, 1), (53, .getfield 422, 3), (56, .if_icmp .ne 7, 3), (59, .iconst 2, 1), (60, .goto 13, 3), (63, .iload 4, 2), (65, .ifCond .ne 7, 3), (68, .iconst 0, 1), (69, .goto 4, 3), (72, .iconst 1, 1), (73, .invokevirtual 58, 3), (76, .ireturn, 1)]
theorem mc_cdk_252 : mc_cdl_252.all (fun q => decide (decode prog_13_method_88_code q.1 = .ok q.2)) = true := by decide +kernel
def mc_cdl_253 : List (Nat × Instr × Nat) := [(0, .aload_n 0, 1), (1, .iload_n 1, 1), (2, .invokevirtual 433, 3), (5, .istore_n 2, 1), (6, .iload_n 2, 1), (7, .ifCond .ne 15, 3), (10, .aload_n 0, 1), (11, .getfield 422, 3), (14, .ifCond .ne 8, 3), (17, .bipush 6, 2), (19, .goto 4, 3), (22, .iload_n 2, 1), (23, .ireturn, 1)]
theorem mc_cdk_253 : mc_cdl_253.all (fun q => decide (decode prog_13_method_78_code q.1 = .ok q.2)) = true := by decide +kernel
def mc_cdl_254 : List (Nat × Instr × Nat) := [(0, .aload_n 0, 1), (1, .iconst 0, 1), (2, .putfield 48, 3), (5, .aload_n 0, 1), (6, .aload_n 0, 1), (7, .iload_n 1, 1), (8, .invokevirtual 373, 3), (11, .invokevirtual 447, 3), (14, .istore_n 3, 1), (15, .iload_n 3, 1), (16, .ifCond .le 9, 3), (19, .aload_n 0, 1), (20, .iload_n 3, 1), (21, .invokevirtual 54, 3), (24, .ireturn, 1), (25, .iconst 0, 1), (26, .istore 4, 2), (28, .iconst 0, 1), (29, .istore 5, 2), (31, .iload 5, 2), (33, .aload_n 0, 1), (34, .getfield 337, 3), (37, .getfield 188, 3), (40, .if_icmp .ge 44, 3), (43, .iload 4, 2), (45, .aload_n 0, 1), (46, .iload 5, 2), (48, .iload_n 1, 1), (49, .invokevirtual 444, 3), (52, .iload_n 2, 1), (53, .ifCond .eq 10, 3), (56, .aload_n 0, 1), (57, .getfield 422, 3), (60, .goto 4, 3), (63, .iconst 0, 1), (64, .if_icmp .ne 10, 3), (67, .iconst 1, 1), (68, .iload 5, 2), (70, .ishl, 1), (71, .goto 4, 3), (74, .iconst 0, 1), (75, .ior, 1), (76, .istore 4, 2), (78, .iinc 5 1, 3), (81, .goto (-50), 3), (84, .aload_n 0, 1), (85, .iload 4, 2), (87, .invokevirtual 58, 3), (90, .ireturn, 1)]
theorem mc_cdk_254 : mc_cdl_254.all (fun q => decide (decode prog_13_method_89_code q.1 = .ok q.2)) = true := by decide +kernel
def mc_cdl_255 : List (Nat × Instr × Nat) := [(0, .aload_n 0, 1), (1, .iconst 0, 1), (2, .putfield 48, 3), (5, .aload_n 0, 1), (6, .aload_n 0, 1), (7, .iload_n 1, 1), (8, .invokevirtual 364, 3), (11, .ifCond .eq 15, 3), (14, .aload_n 0, 1), (15, .iload_n 2, 1), (16, .invokevirtual 373, 3), (19, .ifCond .eq 7, 3), (22, .iconst 1, 1), (23, .goto 4, 3), (26, .iconst 0, 1), (27, .invokevirtual 447, 3), (30, .istore_n 3, 1), (31, .iload_n 3, 1), (32, .ifCond .le 11, 3), (35, .aload_n 0, 1), (36, .iload_n 3, 1), (37, .invokevirtual 54, 3), (40, .goto 25, 3), (43, .aload_n 0, 1), (44, .ldc2_w 450, 3), (47, .aload_n 0, 1), (48, .iload_n 1, 1), (49, .iload_n 2, 1), (50, .invokevirtual 440, 3), (53, .lmul, 1), (54, .aload_n 0, 1), (55, .iconst (-1), 1), (56, .iconst 0, 1), (57, .invokevirtual 440, 3), (60, .ldiv, 1), (61, .l2i, 1), (62, .invokevirtual 58, 3), (65, .ireturn, 1)]
theorem mc_cdk_255 : mc_cdl_255.all (fun q => decide (decode prog_13_method_90_code q.1 = .ok q.2)) = true := by decide +kernel
def mc_cdl_256 : List (Nat × Instr × Nat) := [(0, .aload_n 0, 1), (1, .iconst 0, 1), (2, .putfield 48, 3), (5, .aload_n 0, 1), (6, .aload_n 0, 1), (7, .iload_n 1, 1), (8, .invokevirtual 364, 3), (11, .invokevirtual 447, 3), (14, .istore_n 2, 1), (15, .iload_n 2, 1), (16, .ifCond .le 9, 3), (19, .aload_n 0, 1), (20, .iload_n 2, 1), (21, .invokevirtual 54, 3), (24, .ireturn, 1), (25, .aload_n 0, 1), (26, .invokevirtual 452, 3), (29, .pop2, 1), (30, .aload_n 0, 1), (31, .aload_n 0, 1), (32, .getfield 39, 3), (35, .iload_n 1, 1), (36, .iaload, 1), (37, .invokevirtual 58, 3), (40, .ireturn, 1)]
theorem mc_cdk_256 : mc_cdl_256.all (fun q => decide (decode prog_13_method_92_code q.1 = .ok q.2)) = true := by decide +kernel
def mc_cdl_257 : List (Nat × Instr × Nat) := [(0, .iconst (-1), 1), (1, .istore_n 1, 1), (2, .lconst 0, 1), (3, .lstore_n 2, 1), (4, .iconst 0, 1), (5, .istore 4, 2), (7, .iload 4, 2), (9, .aload_n 0, 1), (10, .getfield 422, 3), (13, .if_icmp .ge 40, 3), (16, .aload_n 0, 1), (17, .aload_n 0, 1), (18, .getfield 42, 3), (21, .iload 4, 2), (23, .iaload, 1), (24, .invokevirtual 425, 3), (27, .aload_n 0, 1), (28, .invokevirtual 437, 3), (31, .lload_n 2, 1), (32, .lcmp, 1), (33, .ifCond .gt 6, 3), (36, .goto 11, 3), (39, .aload_n 0, 1), (40, .invokevirtual 437, 3), (43, .lstore_n 2, 1), (44, .iload 4, 2), (46, .istore_n 1, 1), (47, .iinc 4 1, 3), (50, .goto (-43), 3), (53, .aload_n 0, 1), (54, .aload_n 0, 1), (55, .getfield 42, 3), (58, .iload_n 1, 1), (59, .iaload, 1), (60, .invokevirtual 425, 3), (63, .lload_n 2, 1), (64, .lreturn, 1)]
theorem mc_cdk_257 : mc_cdl_257.all (fun q => decide (decode prog_13_method_91_code q.1 = .ok q.2)) = true := by decide +kernel
def mc_cdl_258 : List (Nat × Instr × Nat) := [(0, .aload_n 0, 1), (1, .iconst 0, 1), (2, .putfield 48, 3), (5, .aload_n 0, 1), (6, .aload_n 0, 1), (7, .getfield 337, 3), (10, .ifnull 7, 3), (13, .iconst 1, 1), (14, .goto 4, 3), (17, .iconst 0, 1), (18, .invokevirtual 447, 3), (21, .istore_n 1, 1), (22, .iload_n 1, 1), (23, .ifCond .le 12, 3), (26, .aload_n 0, 1), (27, .iload_n 1, 1), (28, .invokevirtual 54, 3), (31, .i2l, 1), (32, .goto 11, 3), (35, .aload_n 0, 1), (36, .aload_n 0, 1), (37, .invokevirtual 452, 3), (40, .invokevirtual 380, 3), (43, .lreturn, 1)]
theorem mc_cdk_258 : mc_cdl_258.all (fun q => decide (decode prog_13_method_93_code q.1 = .ok q.2)) = true := by decide +kernel
def mc_cdl_259 : List (Nat × Instr × Nat) := [(0, .aload_n 0, 1), (1, .iconst 0, 1), (2, .putfield 48, 3), (5, .aload_n 0, 1), (6, .aload_n 0, 1), (7, .iload_n 1, 1), (8, .invokevirtual 364, 3), (11, .ifCond .eq 20, 3), (14, .aload_n 0, 1), (15, .iload_n 2, 1), (16, .invokevirtual 364, 3), (19, .ifCond .eq 12, 3), (22, .iload_n 1, 1), (23, .iload_n 2, 1), (24, .if_icmp .eq 7, 3), (27, .iconst 1, 1), (28, .goto 4, 3), (31, .iconst 0, 1), (32, .invokevirtual 433, 3), (35, .istore_n 3, 1), (36, .iload_n 3, 1), (37, .ifCond .le 9, 3), (40, .aload_n 0, 1), (41, .iload_n 3, 1), (42, .invokevirtual 54, 3), (45, .ireturn, 1), (46, .iconst 0, 1), (47, .istore 4, 2), (49, .iconst 0, 1), (50, .istore 5, 2), (52, .iload 5, 2), (54, .aload_n 0, 1), (55, .getfield 422, 3), (58, .if_icmp .ge 58, 3), (61, .aload_n 0, 1), (62, .aload_n 0, 1), (63, .getfield 42, 3), (66, .iload 5, 2), (68, .iaload, 1), (69, .invokevirtual 425, 3), (72, .iload 4, 2), (74, .aload_n 0, 1), (75, .getfield 33, 3), (78, .bipush 40, 2), (80, .iload_n 1, 1), (81, .imul, 1), (82, .aload_n 0, 1), (83, .getfield 39, 3), (86, .iload_n 1, 1), (87, .iaload, 1), (88, .iadd, 1), (89, .iaload, 1), (90, .aload_n 0, 1), (91, .getfield 33, 3), (94, .bipush 40, 2), (96, .iload_n 2, 1), (97, .imul, 1), (98, .aload_n 0, 1), (99, .getfield 39, 3), (102, .iload_n 2, 1), (103, .iaload, 1), (104, .iadd, 1), (105, .iaload, 1), (106, .iand, 1), (107, .ior, 1), (108, .istore 4, 2), (110, .iinc 5 1, 3), (113, .goto (-61), 3), (116, .aload_n 0, 1), (117, .iload 4, 2), (119, .invokevirtual 58, 3), (122, .ireturn, 1)]
theorem mc_cdk_259 : mc_cdl_259.all (fun q => decide (decode prog_13_method_94_code q.1 = .ok q.2)) = true := by decide +kernel
def mc_cdl_260 : List (Nat × Instr × Nat) := [(0, .aload_n 0, 1), (1, .iconst 0, 1), (2, .putfield 48, 3), (5, .aload_n 0, 1), (6, .aload_n 0, 1), (7, .iload_n 1, 1), (8, .invokevirtual 364, 3), (11, .invokevirtual 433, 3), (14, .istore_n 2, 1), (15, .iload_n 2, 1), (16, .ifCond .le 10, 3), (19, .aload_n 0, 1), (20, .iload_n 2, 1), (21, .invokevirtual 54, 3), (24, .i2l, 1), (25, .lreturn, 1), (26, .lconst 0, 1), (27, .lstore_n 3, 1), (28, .iconst 0, 1), (29, .istore 5, 2), (31, .iload 5, 2), (33, .aload_n 0, 1), (34, .getfield 422, 3), (37, .if_icmp .ge 31, 3), (40, .aload_n 0, 1), (41, .aload_n 0, 1), (42, .getfield 42, 3), (45, .iload 5, 2), (47, .iaload, 1), (48, .invokevirtual 425, 3), (51, .lload_n 3, 1), (52, .lconst 1, 1), (53, .aload_n 0, 1), (54, .getfield 39, 3), (57, .iload_n 1, 1), (58, .iaload, 1), (59, .lshl, 1), (60, .lor, 1), (61, .lstore_n 3, 1), (62, .iinc 5 1, 3), (65, .goto (-34), 3), (68, .aload_n 0, 1), (69, .lload_n 3, 1), (70, .invokevirtual 380, 3), (73, .lreturn, 1)]
theorem mc_cdk_260 : mc_cdl_260.all (fun q => decide (decode prog_13_method_95_code q.1 = .ok q.2)) = true := by decide +kernel
def mc_cdl_261 : List (Nat × Instr × Nat) := [(0, .aload_n 0, 1), (1, .iconst 0, 1), (2, .putfield 48, 3), (5, .aload_n 0, 1), (6, .aload_n 0, 1), (7, .iload_n 1, 1), (8, .invokevirtual 364, 3), (11, .ifCond .eq 15, 3), (14, .aload_n 0, 1), (15, .iload_n 2, 1), (16, .invokevirtual 373, 3), (19, .ifCond .eq 7, 3), (22, .iconst 1, 1), (23, .goto 4, 3), (26, .iconst 0, 1), (27, .invokevirtual 433, 3), (30, .istore_n 3, 1), (31, .iload_n 3, 1), (32, .ifCond .le 9, 3), (35, .aload_n 0, 1), (36, .iload_n 3, 1), (37, .invokevirtual 54, 3), (40, .ireturn, 1), (41, .iconst 0, 1), (42, .istore 4, 2), (44, .iconst 0, 1), (45, .istore 5, 2), (47, .iload 5, 2), (49, .aload_n 0, 1), (50, .getfield 422, 3), (53, .if_icmp .ge 57, 3), (56, .aload_n 0, 1), (57, .aload_n 0, 1), (58, .getfield 42, 3), (61, .iload 5, 2), (63, .iaload, 1), (64, .invokevirtual 425, 3), (67, .aload_n 0, 1), (68, .getfield 30, 3), (71, .bipush 40, 2), (73, .iload_n 1, 1), (74, .imul, 1), (75, .aload_n 0, 1), (76, .getfield 39, 3), (79, .iload_n 1, 1), (80, .iaload, 1), (81, .iadd, 1), (82, .iaload, 1), (83, .iload_n 2, 1), (84, .invokestatic 346, 3), (87, .ifCond .eq 17, 3), (90, .iload 4, 2), (92, .aload_n 0, 1), (93, .aload_n 0, 1), (94, .getfield 39, 3), (97, .iload_n 2, 1), (98, .invokevirtual 455, 3), (101, .ior, 1), (102, .istore 4, 2), (104, .iinc 5 1, 3), (107, .goto (-60), 3), (110, .aload_n 0, 1), (111, .iload 4, 2), (113, .invokevirtual 58, 3), (116, .ireturn, 1)]
theorem mc_cdk_261 : mc_cdl_261.all (fun q => decide (decode prog_13_method_96_code q.1 = .ok q.2)) = true := by decide +kernel
def mc_cdl_262 : List (Nat × Instr × Nat) := [(0, .iconst 0, 1), (1, .istore_n 3, 1), (2, .iconst 0, 1), (3, .istore 4, 2), (5, .iload 4, 2), (7, .aload_n 0, 1), (8, .getfield 337, 3), (11, .getfield 188, 3), (14, .if_icmp .ge 42, 3), (17, .iload_n 3, 1), (18, .aload_n 0, 1), (19, .getfield 33, 3), (22, .bipush 40, 2), (24, .iload 4, 2), (26, .imul, 1), (27, .aload_n 1, 1), (28, .iload 4, 2), (30, .iaload, 1), (31, .iadd, 1), (32, .iaload, 1), (33, .iload_n 2, 1), (34, .invokestatic 346, 3), (37, .ifCond .eq 10, 3), (40, .iconst 1, 1), (41, .iload 4, 2), (43, .ishl, 1), (44, .goto 4, 3), (47, .iconst 0, 1), (48, .ior, 1), (49, .istore_n 3, 1), (50, .iinc 4 1, 3), (53, .goto (-48), 3), (56, .iload_n 3, 1), (57, .ireturn, 1)]
theorem mc_cdk_262 : mc_cdl_262.all (fun q => decide (decode prog_13_method_100_code q.1 = .ok q.2)) = true := by decide +kernel
def mc_cdl_263 : List (Nat × Instr × Nat) := [(0, .aload_n 0, 1), (1, .iconst 0, 1), (2, .putfield 48, 3), (5, .aload_n 0, 1), (6, .aload_n 0, 1), (7, .iload_n 1, 1), (8, .invokevirtual 364, 3), (11, .invokevirtual 447, 3), (14, .istore_n 3, 1), (15, .iload_n 3, 1), (16, .ifCond .le 11, 3), (19, .aload_n 0, 1), (20, .iload_n 3, 1), (21, .invokevirtual 54, 3), (24, .goto 17, 3), (27, .aload_n 0, 1), (28, .aload_n 0, 1), (29, .iload_n 1, 1), (30, .aload_n 0, 1), (31, .getfield 24, 3), (34, .iload_n 2, 1), (35, .invokevirtual 458, 3), (38, .invokevirtual 58, 3), (41, .ireturn, 1)]
theorem mc_cdk_263 : mc_cdl_263.all (fun q => decide (decode prog_13_method_98_code q.1 = .ok q.2)) = true := by decide +kernel
def mc_cdl_264 : List (Nat × Instr × Nat) := [(0, .iconst 0, 1), (1, .istore 4, 2), (3, .iconst 0, 1), (4, .istore 5, 2), (6, .iload 5, 2), (8, .aload_n 0, 1), (9, .getfield 422, 3), (12, .if_icmp .ge 70, 3), (15, .aload_n 0, 1), (16, .aload_n 0, 1), (17, .getfield 42, 3), (20, .iload 5, 2), (22, .iaload, 1), (23, .invokevirtual 425, 3), (26, .aload_n 2, 1), (27, .bipush 40, 2), (29, .iload_n 1, 1), (30, .imul, 1), (31, .aload_n 0, 1), (32, .getfield 39, 3), (35, .iload_n 1, 1), (36, .iaload, 1), (37, .iadd, 1), (38, .iaload, 1), (39, .istore 6, 2), (41, .iload 5, 2), (43, .ifCond .eq 24, 3), (46, .iload_n 3, 1), (47, .ifCond .eq 13, 3), (50, .iload 6, 2), (52, .iload 4, 2), (54, .if_icmp .le 18, 3), (57, .goto 10, 3), (60, .iload 6, 2), (62, .iload 4, 2), (64, .if_icmp .ge 8, 3), (67, .iload 6, 2), (69, .goto 5, 3), (72, .iload 4, 2), (74, .istore 4, 2), (76, .iinc 5 1, 3), (79, .goto (-73), 3), (82, .iload 4, 2), (84, .ireturn, 1)]
theorem mc_cdk_264 : mc_cdl_264.all (fun q => decide (decode prog_13_method_97_code q.1 = .ok q.2)) = true := by decide +kernel
def mc_cdl_265 : List (Nat × Instr × Nat) := [(0, .aload_n 0, 1), (1, .iconst 0, 1), (2, .putfield 48, 3), (5, .aload_n 0, 1), (6, .aload_n 0, 1), (7, .iload_n 1, 1), (8, .invokevirtual 364, 3), (11, .invokevirtual 447, 3), (14, .istore_n 3, 1), (15, .iload_n 3, 1), (16, .ifCond .le 11, 3), (19, .aload_n 0, 1), (20, .iload_n 3, 1), (21, .invokevirtual 54, 3), (24, .goto 17, 3), (27, .aload_n 0, 1), (28, .aload_n 0, 1), (29, .iload_n 1, 1), (30, .aload_n 0, 1), (31, .getfield 27, 3), (34, .iload_n 2, 1), (35, .invokevirtual 458, 3), (38, .invokevirtual 58, 3), (41, .ireturn, 1)]
theorem mc_cdk_265 : mc_cdl_265.all (fun q => decide (decode prog_13_method_99_code q.1 = .ok q.2)) = true := by decide +kernel
def mc_cdl_266 : List (Nat × Instr × Nat) := [(0, .aload_n 0, 1), (1, .iconst 0, 1), (2, .putfield 48, 3), (5, .aload_n 0, 1), (6, .aload_n 0, 1), (7, .getfield 337, 3), (10, .ifnull 7, 3), (13, .iconst 1, 1), (14, .goto 4, 3), (17, .iconst 0, 1), (18, .invokevirtual 467, 3), (21, .istore_n 1, 1), (22, .iload_n 1, 1), (23, .ifCond .le 11, 3), (26, .aload_n 0, 1), (27, .iload_n 1, 1), (28, .invokevirtual 54, 3), (31, .goto 12, 3), (34, .aload_n 0, 1), (35, .aload_n 0, 1), (36, .iconst (-1), 1), (37, .invokevirtual 470, 3), (40, .invokevirtual 58, 3), (43, .ireturn, 1)]
theorem mc_cdk_266 : mc_cdl_266.all (fun q => decide (decode prog_13_method_104_code q.1 = .ok q.2)) = true := by decide +kernel
def mc_cdl_267 : List (Nat × Instr × Nat) := [(0, .aload_n 0, 1), (1, .iload_n 1, 1), (2, .invokevirtual 447, 3), (5, .istore_n 2, 1), (6, .iload_n 2, 1), (7, .ifCond .ne 17, 3), (10, .aload_n 0, 1), (11, .getfield 422, 3), (14, .sipush 400, 3), (17, .if_icmp .le 7, 3), (20, .iconst 3, 1), (21, .goto 4, 3), (24, .iload_n 2, 1), (25, .ireturn, 1)]
theorem mc_cdk_267 : mc_cdl_267.all (fun q => decide (decode prog_13_method_103_code q.1 = .ok q.2)) = true := by decide +kernel
def mc_cdl_268 : List (Nat × Instr × Nat) := [(0, .iconst (-1), 1), (1, .istore_n 2, 1), (2, .iconst 0, 1), (3, .istore_n 3, 1), (4, .iload_n 3, 1), (5, .iconst 1, 1), (6, .aload_n 0, 1), (7, .getfield 337, 3), (10, .getfield 188, 3), (13, .ishl, 1), (14, .if_icmp .ge 39, 3), (17, .iload_n 2, 1), (18, .iconst (-1), 1), (19, .if_icmp .eq 17, 3), (22, .iload_n 3, 1), (23, .invokestatic 462, 3), (26, .iload_n 2, 1), (27, .invokestatic 462, 3), (30, .if_icmp .lt 6, 3), (33, .goto 14, 3), (36, .aload_n 0, 1), (37, .iload_n 3, 1), (38, .iload_n 1, 1), (39, .invokevirtual 465, 3), (42, .ifCond .eq 5, 3), (45, .iload_n 3, 1), (46, .istore_n 2, 1), (47, .iinc 3 1, 3), (50, .goto (-46), 3), (53, .iload_n 2, 1), (54, .ireturn, 1)]
theorem mc_cdk_268 : mc_cdl_268.all (fun q => decide (decode prog_13_method_102_code q.1 = .ok q.2)) = true := by decide +kernel
def mc_cdl_269 : List (Nat × Instr × Nat) := [(0, .iconst 0, 1), (1, .istore_n 1, 1), (2, .iload_n 0, 1), (3, .istore_n 2, 1), (4, .iload_n 2, 1), (5, .ifCond .eq 15, 3), (8, .iinc 1 1, 3), (11, .iload_n 2, 1), (12, .iload_n 2, 1), (13, .iconst 1, 1), (14, .isub, 1), (15, .iand, 1), (16, .istore_n 2, 1), (17, .goto (-13), 3), (20, .iload_n 1, 1), (21, .ireturn, 1)]
theorem mc_cdk_269 : mc_cdl_269.all (fun q => decide (decode prog_13_method_11_code q.1 = .ok q.2)) = true := by decide +kernel
def mc_cdl_270 : List (Nat × Instr × Nat) := [(0, .iconst 0, 1), (1, .istore_n 3, 1), (2, .iload_n 3, 1), (3, .aload_n 0, 1), (4, .getfield 422, 3), (7, .if_icmp .ge 175, 3), (10, .aload_n 0, 1), (11, .aload_n 0, 1), (12, .getfield 42, 3), (15, .iload_n 3, 1), (16, .iaload, 1), (17, .invokevirtual 425, 3), (20, .iconst 0, 1), (21, .istore 4, 2), (23, .iload 4, 2), (25, .aload_n 0, 1), (26, .getfield 337, 3), (29, .getfield 188, 3), (32, .if_icmp .ge 23, 3), (35, .aload_n 0, 1), (36, .getfield 45, 3), (39, .iload 4, 2), (41, .aload_n 0, 1), (42, .getfield 39, 3), (45, .iload 4, 2), (47, .iaload, 1), (48, .iastore, 1), (49, .iinc 4 1, 3), (52, .goto (-29), 3), (55, .iconst 0, 1), (56, .istore 4, 2), (58, .iload 4, 2), (60, .iload_n 3, 1), (61, .if_icmp .ge 115, 3), (64, .aload_n 0, 1), (65, .aload_n 0, 1), (66, .getfield 42, 3), (69, .iload 4, 2), (71, .iaload, 1), (72, .invokevirtual 425, 3), (75, .iconst 1, 1), (76, .istore 5, 2), (78, .iconst 0, 1), (79, .istore 6, 2), (81, .iload 6, 2), (83, .aload_n 0, 1), (84, .getfield 337, 3), (87, .getfield 188, 3), (90, .if_icmp .ge 47, 3), (93, .iload 5, 2), (95, .ifCond .eq 33, 3), (98, .iload_n 1, 1), (99, .iload 6, 2), (101, .invokestatic 346, 3), (104, .ifCond .eq 20, 3), (107, .aload_n 0, 1), (108, .getfield 39, 3), (111, .iload 6, 2), (113, .iaload, 1), (114, .aload_n 0, 1), (115, .getfield 45, 3), (118, .iload 6, 2), (120, .iaload, 1), (121, .if_icmp .ne 7, 3), (124, .iconst 1, 1), (125, .goto 4, 3), (128, .iconst 0, 1), (129, .istore 5, 2), (131, .iinc 6 1, 3), (134, .goto (-53), 3), (137, .iload 5, 2), (139, .ifCond .eq 31, 3), (142, .iload_n 2, 1), (143, .iconst (-1), 1), (144, .if_icmp .eq 24, 3), (147, .aload_n 0, 1), (148, .aload_n 0, 1), (149, .getfield 39, 3), (152, .iload_n 2, 1), (153, .invokevirtual 455, 3), (156, .aload_n 0, 1), (157, .aload_n 0, 1), (158, .getfield 45, 3), (161, .iload_n 2, 1), (162, .invokevirtual 455, 3), (165, .if_icmp .eq 5, 3), (168, .iconst 0, 1), (169, .ireturn, 1), (170, .iinc 4 1, 3), (173, .goto (-115), 3), (176, .iinc 3 1, 3), (179, .goto (-177), 3), (182, .iconst 1, 1), (183, .ireturn, 1)]
theorem mc_cdk_270 : mc_cdl_270.all (fun q => decide (decode prog_13_method_101_code q.1 = .ok q.2)) = true := by decide +kernel
def mc_cdl_271 : List (Nat × Instr × Nat) := [(0, .aload_n 0, 1), (1, .iconst 0, 1), (2, .putfield 48, 3), (5, .aload_n 0, 1), (6, .aload_n 0, 1), (7, .iload_n 1, 1), (8, .invokevirtual 373, 3), (11, .invokevirtual 467, 3), (14, .istore_n 2, 1), (15, .iload_n 2, 1), (16, .ifCond .le 11, 3), (19, .aload_n 0, 1), (20, .iload_n 2, 1), (21, .invokevirtual 54, 3), (24, .goto 12, 3), (27, .aload_n 0, 1), (28, .aload_n 0, 1), (29, .iload_n 1, 1), (30, .invokevirtual 470, 3), (33, .invokevirtual 58, 3), (36, .ireturn, 1)]
theorem mc_cdk_271 : mc_cdl_271.all (fun q => decide (decode prog_13_method_105_code q.1 = .ok q.2)) = true := by decide +kernel
def mc_cdl_272 : List (Nat × Instr × Nat) := [(0, .aload_n 0, 1), (1, .iconst 0, 1), (2, .putfield 48, 3), (5, .aload_n 0, 1), (6, .aload_n 0, 1), (7, .iload_n 1, 1), (8, .invokevirtual 473, 3), (11, .invokevirtual 433, 3), (14, .istore_n 2, 1), (15, .iload_n 2, 1), (16, .ifCond .le 11, 3), (19, .aload_n 0, 1), (20, .iload_n 2, 1), (21, .invokevirtual 54, 3), (24, .goto 22, 3), (27, .aload_n 0, 1), (28, .aload_n 0, 1), (29, .iload_n 1, 1), (30, .invokevirtual 476, 3), (33, .bipush 24, 2), (35, .if_icmp .ne 7, 3), (38, .iconst 0, 1), (39, .goto 4, 3), (42, .iconst 1, 1), (43, .invokevirtual 58, 3), (46, .ireturn, 1)]
theorem mc_cdk_272 : mc_cdl_272.all (fun q => decide (decode prog_13_method_108_code q.1 = .ok q.2)) = true := by decide +kernel
def mc_cdl_273 : List (Nat × Instr × Nat) := [(0, .aload_n 0, 1), (1, .getfield 337, 3), (4, .ifnull 22, 3), (7, .iload_n 1, 1), (8, .ifCond .lt 18, 3), (11, .iload_n 1, 1), (12, .aload_n 0, 1), (13, .getfield 337, 3), (16, .getfield 306, 3), (19, .if_icmp .ge 7, 3), (22, .iconst 1, 1), (23, .goto 4, 3), (26, .iconst 0, 1), (27, .ireturn, 1)]
theorem mc_cdk_273 : mc_cdl_273.all (fun q => decide (decode prog_13_method_106_code q.1 = .ok q.2)) = true := by decide +kernel
def mc_cdl_274 : List (Nat × Instr × Nat) := [(0, .aload_n 0, 1), (1, .getfield 337, 3), (4, .getfield 312, 3), (7, .iload_n 1, 1), (8, .iaload, 1), (9, .istore_n 2, 1), (10, .aload_n 0, 1), (11, .getfield 337, 3), (14, .getfield 315, 3), (17, .iload_n 1, 1), (18, .iaload, 1), (19, .aload_n 0, 1), (20, .getfield 343, 3), (23, .iand, 1), (24, .istore_n 3, 1), (25, .sipush (-1000), 3), (28, .istore 4, 2), (30, .iconst 0, 1), (31, .istore 5, 2), (33, .iload 5, 2), (35, .i2l, 1), (36, .aload_n 0, 1), (37, .invokevirtual 376, 3), (40, .lcmp, 1), (41, .ifCond .ge 82, 3), (44, .aload_n 0, 1), (45, .iload 5, 2), (47, .invokevirtual 425, 3), (50, .iload_n 3, 1), (51, .aload_n 0, 1), (52, .getfield 30, 3), (55, .bipush 40, 2), (57, .iload_n 2, 1), (58, .imul, 1), (59, .aload_n 0, 1), (60, .getfield 39, 3), (63, .iload_n 2, 1), (64, .iaload, 1), (65, .iadd, 1), (66, .iaload, 1), (67, .iconst (-1), 1), (68, .ixor, 1), (69, .iand, 1), (70, .ifCond .ne 47, 3), (73, .aload_n 0, 1), (74, .aload_n 0, 1), (75, .getfield 39, 3), (78, .invokevirtual 393, 3), (81, .ifCond .eq 6, 3), (84, .goto 33, 3), (87, .aload_n 0, 1), (88, .aload_n 0, 1), (89, .getfield 39, 3), (92, .aload_n 0, 1), (93, .getfield 343, 3), (96, .invokevirtual 397, 3), (99, .istore 6, 2), (101, .iload 6, 2), (103, .iload 4, 2), (105, .if_icmp .le 8, 3), (108, .iload 6, 2), (110, .goto 5, 3), (113, .iload 4, 2), (115, .istore 4, 2), (117, .iinc 5 1, 3), (120, .goto (-87), 3), (123, .iload 4, 2), (125, .ireturn, 1)]
theorem mc_cdk_274 : mc_cdl_274.all (fun q => decide (decode prog_13_method_107_code q.1 = .ok q.2)) = true := by decide +kernel
def mc_cdl_275 : List (Nat × Instr × Nat) := [(0, .aload_n 0, 1), (1, .iconst 0, 1), (2, .putfield 48, 3), (5, .aload_n 0, 1), (6, .aload_n 0, 1), (7, .iload_n 1, 1), (8, .invokevirtual 473, 3), (11, .invokevirtual 433, 3), (14, .istore_n 2, 1), (15, .iload_n 2, 1), (16, .ifCond .le 9, 3), (19, .aload_n 0, 1), (20, .iload_n 2, 1), (21, .invokevirtual 54, 3), (24, .ireturn, 1), (25, .aload_n 0, 1), (26, .iload_n 1, 1), (27, .invokevirtual 476, 3), (30, .istore_n 3, 1), (31, .aload_n 0, 1), (32, .iload_n 3, 1), (33, .bipush 24, 2), (35, .if_icmp .ne 8, 3), (38, .bipush (-2), 2), (40, .goto 4, 3), (43, .iload_n 3, 1), (44, .invokevirtual 58, 3), (47, .ireturn, 1)]
theorem mc_cdk_275 : mc_cdl_275.all (fun q => decide (decode prog_13_method_109_code q.1 = .ok q.2)) = true := by decide +kernel
def mc_cdl_276 : List (Nat × Instr × Nat) := [(0, .aload_n 0, 1), (1, .iconst 0, 1), (2, .putfield 48, 3), (5, .aload_n 0, 1), (6, .aload_n 0, 1), (7, .getfield 337, 3), (10, .ifnull 7, 3), (13, .iconst 1, 1), (14, .goto 4, 3), (17, .iconst 0, 1), (18, .invokevirtual 433, 3), (21, .istore_n 1, 1), (22, .iload_n 1, 1), (23, .ifCond .ne 16, 3), (26, .aload_n 0, 1), (27, .invokevirtual 376, 3), (30, .ldc2_w 479, 3), (33, .lcmp, 1), (34, .ifCond .le 5, 3), (37, .iconst 3, 1), (38, .istore_n 1, 1), (39, .iload_n 1, 1), (40, .ifCond .ne 12, 3), (43, .aload_n 0, 1), (44, .getfield 422, 3), (47, .ifCond .le 5, 3), (50, .iconst 5, 1), (51, .istore_n 1, 1), (52, .iload_n 1, 1), (53, .ifCond .le 9, 3), (56, .aload_n 0, 1), (57, .iload_n 1, 1), (58, .invokevirtual 54, 3), (61, .ireturn, 1), (62, .aload_n 0, 1), (63, .invokevirtual 357, 3), (66, .istore_n 2, 1), (67, .iconst 0, 1), (68, .istore_n 3, 1), (69, .iload_n 3, 1), (70, .iconst 4, 1), (71, .if_icmp .ge 30, 3), (74, .aload_n 0, 1), (75, .iload_n 2, 1), (76, .iload_n 3, 1), (77, .invokevirtual 481, 3), (80, .istore 4, 2), (82, .iload 4, 2), (84, .iconst (-1), 1), (85, .if_icmp .eq 10, 3), (88, .aload_n 0, 1), (89, .iload 4, 2), (91, .invokevirtual 58, 3), (94, .ireturn, 1), (95, .iinc 3 1, 3), (98, .goto (-29), 3), (101, .aload_n 0, 1), (102, .bipush (-2), 2), (104, .invokevirtual 58, 3), (107, .ireturn, 1)]
theorem mc_cdk_276 : mc_cdl_276.all (fun q => decide (decode prog_13_method_111_code q.1 = .ok q.2)) = true := by decide +kernel
def mc_cdl_277 : List (Nat × Instr × Nat) := [(0, .iload_n 2, 1), (1, .ifCond .ne 17, 3), (4, .aload_n 0, 1), (5, .iconst 0, 1), (6, .invokevirtual 484, 3), (9, .ifCond .eq 7, 3), (12, .iconst 0, 1), (13, .goto 4, 3), (16, .iconst (-1), 1), (17, .ireturn, 1), (18, .iload_n 2, 1), (19, .iconst 1, 1), (20, .isub, 1), (21, .istore_n 3, 1), (22, .iload_n 3, 1), (23, .bipush 24, 2), (25, .if_icmp .ge 166, 3), (28, .iload_n 1, 1), (29, .iload_n 3, 1), (30, .invokestatic 346, 3), (33, .ifCond .ne 6, 3), (36, .goto 149, 3), (39, .iload_n 2, 1), (40, .iconst 1, 1), (41, .if_icmp .ne 17, 3), (44, .aload_n 0, 1), (45, .iconst 1, 1), (46, .iload_n 3, 1), (47, .ishl, 1), (48, .invokevirtual 484, 3), (51, .ifCond .eq 7, 3), (54, .iconst 1, 1), (55, .iload_n 3, 1), (56, .ishl, 1), (57, .ireturn, 1), (58, .iload_n 2, 1), (59, .iconst 2, 1), (60, .isub, 1), (61, .istore 4, 2), (63, .iload 4, 2), (65, .iload_n 3, 1), (66, .if_icmp .ge 119, 3), (69, .iload_n 2, 1), (70, .iconst 1, 1), (71, .if_icmp .le 114, 3), (74, .iload_n 1, 1), (75, .iload 4, 2), (77, .invokestatic 346, 3), (80, .ifCond .ne 6, 3), (83, .goto 96, 3), (86, .iload_n 2, 1), (87, .iconst 2, 1), (88, .if_icmp .ne 27, 3), (91, .aload_n 0, 1), (92, .iconst 1, 1), (93, .iload_n 3, 1), (94, .ishl, 1), (95, .iconst 1, 1), (96, .iload 4, 2), (98, .ishl, 1), (99, .ior, 1), (100, .invokevirtual 484, 3), (103, .ifCond .eq 12, 3), (106, .iconst 1, 1), (107, .iload_n 3, 1), (108, .ishl, 1), (109, .iconst 1, 1), (110, .iload 4, 2), (112, .ishl, 1), (113, .ior, 1), (114, .ireturn, 1), (115, .iconst 0, 1), (116, .istore 5, 2), (118, .iload 5, 2), (120, .iload 4, 2), (122, .if_icmp .ge 57, 3), (125, .iload_n 2, 1), (126, .iconst 2, 1), (127, .if_icmp .le 52, 3), (130, .iload_n 1, 1), (131, .iload 5, 2), (133, .invokestatic 346, 3), (136, .ifCond .eq 37, 3), (139, .aload_n 0, 1), (140, .iconst 1, 1), (141, .iload_n 3, 1), (142, .ishl, 1), (143, .iconst 1, 1), (144, .iload 4, 2), (146, .ishl, 1), (147, .ior, 1), (148, .iconst 1, 1), (149, .iload 5, 2), (151, .ishl, 1), (152, .ior, 1), (153, .invokevirtual 484, 3), (156, .ifCond .eq 17, 3), (159, .iconst 1, 1), (160, .iload_n 3, 1), (161, .ishl, 1), (162, .iconst 1, 1), (163, .iload 4, 2), (165, .ishl, 1), (166, .ior, 1), (167, .iconst 1, 1), (168, .iload 5, 2), (170, .ishl, 1), (171, .ior, 1), (172, .ireturn, 1), (173, .iinc 5 1, 3), (176, .goto (-58), 3), (179, .iinc 4 1, 3), (182, .goto (-119), 3), (185, .iinc 3 1, 3), (188, .goto (-166), 3), (191, .iconst (-1), 1), (192, .ireturn, 1)]
theorem mc_cdk_277 : mc_cdl_277.all (fun q => decide (decode prog_13_method_112_code q.1 = .ok q.2)) = true := by decide +kernel
def mc_cdl_278 : List (Nat × Instr × Nat) := [(0, .iconst 0, 1), (1, .istore_n 2, 1), (2, .iload_n 2, 1), (3, .i2l, 1), (4, .aload_n 0, 1), (5, .invokevirtual 376, 3), (8, .lcmp, 1), (9, .ifCond .ge 41, 3), (12, .aload_n 0, 1), (13, .iload_n 2, 1), (14, .invokevirtual 425, 3), (17, .aload_n 0, 1), (18, .aload_n 0, 1), (19, .getfield 39, 3), (22, .invokevirtual 393, 3), (25, .ifCond .ne 19, 3), (28, .aload_n 0, 1), (29, .aload_n 0, 1), (30, .getfield 39, 3), (33, .iload_n 1, 1), (34, .invokevirtual 397, 3), (37, .bipush 24, 2), (39, .if_icmp .ne 5, 3), (42, .iconst 0, 1), (43, .ireturn, 1), (44, .iinc 2 1, 3), (47, .goto (-45), 3), (50, .iconst 1, 1), (51, .ireturn, 1)]
theorem mc_cdk_278 : mc_cdl_278.all (fun q => decide (decode prog_13_method_110_code q.1 = .ok q.2)) = true := by decide +kernel
def mc_cdl_279 : List (Nat × Instr × Nat) := [(0, .aload_n 0, 1), (1, .iconst 0, 1), (2, .putfield 48, 3), (5, .aload_n 0, 1), (6, .aload_n 0, 1), (7, .iload_n 1, 1), (8, .invokevirtual 487, 3), (11, .invokevirtual 447, 3), (14, .istore_n 3, 1), (15, .iload_n 3, 1), (16, .ifCond .le 9, 3), (19, .aload_n 0, 1), (20, .iload_n 3, 1), (21, .invokevirtual 490, 3), (24, .ireturn, 1), (25, .iconst 0, 1), (26, .istore 4, 2), (28, .iconst 0, 1), (29, .istore 5, 2), (31, .iload 5, 2), (33, .aload_n 0, 1), (34, .getfield 422, 3), (37, .if_icmp .ge 75, 3), (40, .aload_n 0, 1), (41, .aload_n 0, 1), (42, .getfield 42, 3), (45, .iload 5, 2), (47, .iaload, 1), (48, .invokevirtual 425, 3), (51, .aload_n 0, 1), (52, .getfield 17, 3), (55, .iload_n 1, 1), (56, .iaload, 1), (57, .iconst 1, 1), (58, .isub, 1), (59, .aload_n 0, 1), (60, .aload_n 0, 1), (61, .getfield 39, 3), (64, .iload_n 1, 1), (65, .invokevirtual 386, 3), (68, .isub, 1), (69, .istore 6, 2), (71, .iload 5, 2), (73, .ifCond .eq 24, 3), (76, .iload_n 2, 1), (77, .ifCond .eq 13, 3), (80, .iload 6, 2), (82, .iload 4, 2), (84, .if_icmp .le 18, 3), (87, .goto 10, 3), (90, .iload 6, 2), (92, .iload 4, 2), (94, .if_icmp .ge 8, 3), (97, .iload 6, 2), (99, .goto 5, 3), (102, .iload 4, 2), (104, .istore 4, 2), (106, .iinc 5 1, 3), (109, .goto (-78), 3), (112, .aload_n 0, 1), (113, .iload 4, 2), (115, .invokevirtual 58, 3), (118, .ireturn, 1)]
theorem mc_cdk_279 : mc_cdl_279.all (fun q => decide (decode prog_13_method_114_code q.1 = .ok q.2)) = true := by decide +kernel
def mc_cdl_280 : List (Nat × Instr × Nat) := [(0, .aload_n 0, 1), (1, .iload_n 1, 1), (2, .invokevirtual 373, 3), (5, .ifCond .eq 16, 3), (8, .aload_n 0, 1), (9, .getfield 17, 3), (12, .iload_n 1, 1), (13, .iaload, 1), (14, .ifCond .le 7, 3), (17, .iconst 1, 1), (18, .goto 4, 3), (21, .iconst 0, 1), (22, .ireturn, 1)]
theorem mc_cdk_280 : mc_cdl_280.all (fun q => decide (decode prog_13_method_113_code q.1 = .ok q.2)) = true := by decide +kernel
def mc_cdl_281 : List (Nat × Instr × Nat) := [(0, .aload_n 0, 1), (1, .iload_n 1, 1), (2, .invokevirtual 54, 3), (5, .pop, 1), (6, .sipush (-1000), 3), (9, .ireturn, 1)]
theorem mc_cdk_281 : mc_cdl_281.all (fun q => decide (decode prog_13_method_4_code q.1 = .ok q.2)) = true := by decide +kernel
def mc_cdl_282 : List (Nat × Instr × Nat) := [(0, .aload_n 0, 1), (1, .iconst 0, 1), (2, .putfield 48, 3), (5, .aload_n 0, 1), (6, .aload_n 0, 1), (7, .getfield 337, 3), (10, .ifnull 7, 3), (13, .iconst 1, 1), (14, .goto 4, 3), (17, .iconst 0, 1), (18, .invokevirtual 433, 3), (21, .istore_n 1, 1), (22, .iload_n 1, 1), (23, .ifCond .le 9, 3), (26, .aload_n 0, 1), (27, .iload_n 1, 1), (28, .invokevirtual 54, 3), (31, .ireturn, 1), (32, .iconst 0, 1), (33, .istore_n 2, 1), (34, .iconst 0, 1), (35, .istore_n 3, 1), (36, .iload_n 3, 1), (37, .i2l, 1), (38, .aload_n 0, 1), (39, .invokevirtual 376, 3), (42, .lcmp, 1), (43, .ifCond .ge 73, 3), (46, .aload_n 0, 1), (47, .iload_n 3, 1), (48, .invokevirtual 425, 3), (51, .aload_n 0, 1), (52, .aload_n 0, 1), (53, .getfield 39, 3), (56, .invokevirtual 393, 3), (59, .ifCond .eq 6, 3), (62, .goto 48, 3), (65, .iconst 0, 1), (66, .istore 4, 2), (68, .iload 4, 2), (70, .aload_n 0, 1), (71, .getfield 337, 3), (74, .getfield 185, 3), (77, .if_icmp .ge 33, 3), (80, .iload_n 2, 1), (81, .aload_n 0, 1), (82, .aload_n 0, 1), (83, .getfield 39, 3), (86, .iload 4, 2), (88, .invokevirtual 386, 3), (91, .ifCond .ne 10, 3), (94, .iconst 1, 1), (95, .iload 4, 2), (97, .ishl, 1), (98, .goto 4, 3), (101, .iconst 0, 1), (102, .ior, 1), (103, .istore_n 2, 1), (104, .iinc 4 1, 3), (107, .goto (-39), 3), (110, .iinc 3 1, 3), (113, .goto (-77), 3), (116, .aload_n 0, 1), (117, .iload_n 2, 1), (118, .invokevirtual 58, 3), (121, .ireturn, 1)]
theorem mc_cdk_282 : mc_cdl_282.all (fun q => decide (decode prog_13_method_115_code q.1 = .ok q.2)) = true := by decide +kernel
def mc_cdl_283 : List (Nat × Instr × Nat) := [(0, .aload_n 0, 1), (1, .iconst 0, 1), (2, .putfield 48, 3), (5, .aload_n 0, 1), (6, .getfield 337, 3), (9, .ifnonnull 9, 3), (12, .aload_n 0, 1), (13, .iconst 1, 1), (14, .invokevirtual 54, 3), (17, .ireturn, 1), (18, .bipush (-2), 2), (20, .istore_n 1, 1), (21, .iconst 0, 1), (22, .istore_n 2, 1), (23, .iload_n 2, 1), (24, .iconst 1, 1), (25, .aload_n 0, 1), (26, .getfield 337, 3), (29, .getfield 321, 3), (32, .ishl, 1), (33, .if_icmp .ge 88, 3), (36, .iconst 0, 1), (37, .istore_n 3, 1), (38, .iconst 0, 1), (39, .istore 4, 2), (41, .iload 4, 2), (43, .aload_n 0, 1), (44, .getfield 337, 3), (47, .getfield 321, 3), (50, .if_icmp .ge 35, 3), (53, .iload_n 3, 1), (54, .iload_n 2, 1), (55, .iload 4, 2), (57, .invokestatic 346, 3), (60, .ifCond .eq 16, 3), (63, .aload_n 0, 1), (64, .getfield 337, 3), (67, .getfield 327, 3), (70, .iload 4, 2), (72, .iaload, 1), (73, .goto 4, 3), (76, .iconst 0, 1), (77, .ior, 1), (78, .istore_n 3, 1), (79, .iinc 4 1, 3), (82, .goto (-41), 3), (85, .aload_n 0, 1), (86, .getfield 343, 3), (89, .iload_n 3, 1), (90, .iconst (-1), 1), (91, .ixor, 1), (92, .iand, 1), (93, .ifCond .ne 22, 3), (96, .iload_n 1, 1), (97, .bipush (-2), 2), (99, .if_icmp .eq 14, 3), (102, .iload_n 2, 1), (103, .invokestatic 462, 3), (106, .iload_n 1, 1), (107, .invokestatic 462, 3), (110, .if_icmp .ge 5, 3), (113, .iload_n 2, 1), (114, .istore_n 1, 1), (115, .iinc 2 1, 3), (118, .goto (-95), 3), (121, .aload_n 0, 1), (122, .iload_n 1, 1), (123, .invokevirtual 58, 3), (126, .ireturn, 1)]
theorem mc_cdk_283 : mc_cdl_283.all (fun q => decide (decode prog_13_method_116_code q.1 = .ok q.2)) = true := by decide +kernel
def mc_cdl_284 : List (Nat × Instr × Nat) := [(0, .aload_n 0, 1), (1, .iconst 0, 1), (2, .putfield 48, 3), (5, .aload_n 0, 1), (6, .getfield 337, 3), (9, .ifnonnull 9, 3), (12, .aload_n 0, 1), (13, .iconst 1, 1), (14, .invokevirtual 54, 3), (17, .ireturn, 1), (18, .iload_n 1, 1), (19, .iconst 0, 1), (20, .bipush 99, 2), (22, .invokestatic 125, 3), (25, .ifCond .ne 9, 3), (28, .aload_n 0, 1), (29, .iconst 2, 1), (30, .invokevirtual 54, 3), (33, .ireturn, 1), (34, .iconst 0, 1), (35, .istore_n 2, 1), (36, .iconst 0, 1), (37, .istore_n 3, 1), (38, .iload_n 3, 1), (39, .aload_n 0, 1), (40, .getfield 337, 3), (43, .getfield 185, 3), (46, .if_icmp .ge 40, 3), (49, .iload_n 2, 1), (50, .aload_n 0, 1), (51, .getfield 17, 3), (54, .iload_n 3, 1), (55, .iaload, 1), (56, .ifCond .le 21, 3), (59, .aload_n 0, 1), (60, .getfield 17, 3), (63, .iload_n 3, 1), (64, .iaload, 1), (65, .iconst 1, 1), (66, .isub, 1), (67, .iload_n 1, 1), (68, .if_icmp .gt 9, 3), (71, .iconst 1, 1), (72, .iload_n 3, 1), (73, .ishl, 1), (74, .goto 4, 3), (77, .iconst 0, 1), (78, .ior, 1), (79, .istore_n 2, 1), (80, .iinc 3 1, 3), (83, .goto (-45), 3), (86, .aload_n 0, 1), (87, .iload_n 2, 1), (88, .invokevirtual 58, 3), (91, .ireturn, 1)]
theorem mc_cdk_284 : mc_cdl_284.all (fun q => decide (decode prog_13_method_117_code q.1 = .ok q.2)) = true := by decide +kernel
def mc_cdl_285 : List (Nat × Instr × Nat) := [(0, .aload_n 0, 1), (1, .iconst 0, 1), (2, .putfield 48, 3), (5, .aload_n 0, 1), (6, .iload_n 1, 1), (7, .invokevirtual 373, 3), (10, .ifCond .ne 9, 3), (13, .aload_n 0, 1), (14, .iconst 1, 1), (15, .invokevirtual 54, 3), (18, .ireturn, 1), (19, .iload_n 2, 1), (20, .iconst 0, 1), (21, .bipush 99, 2), (23, .invokestatic 125, 3), (26, .ifCond .ne 9, 3), (29, .aload_n 0, 1), (30, .iconst 2, 1), (31, .invokevirtual 54, 3), (34, .ireturn, 1), (35, .aload_n 0, 1), (36, .getfield 17, 3), (39, .iload_n 1, 1), (40, .iload_n 2, 1), (41, .iconst 1, 1), (42, .iadd, 1), (43, .iastore, 1), (44, .aload_n 0, 1), (45, .iconst 0, 1), (46, .putfield 353, 3), (49, .aload_n 0, 1), (50, .aload_n 0, 1), (51, .invokevirtual 357, 3), (54, .invokestatic 462, 3), (57, .invokevirtual 58, 3), (60, .ireturn, 1)]
theorem mc_cdk_285 : mc_cdl_285.all (fun q => decide (decode prog_13_method_118_code q.1 = .ok q.2)) = true := by decide +kernel
def mc_cdl_286 : List (Nat × Instr × Nat) := [(0, .aload_n 0, 1), (1, .iconst 0, 1), (2, .putfield 48, 3), (5, .aload_n 0, 1), (6, .iload_n 1, 1), (7, .invokevirtual 487, 3), (10, .ifCond .ne 9, 3), (13, .aload_n 0, 1), (14, .iconst 1, 1), (15, .invokevirtual 400, 3), (18, .ireturn, 1), (19, .aload_n 0, 1), (20, .getfield 17, 3), (23, .iload_n 1, 1), (24, .iconst 0, 1), (25, .iastore, 1), (26, .aload_n 0, 1), (27, .iconst 0, 1), (28, .putfield 353, 3), (31, .aload_n 0, 1), (32, .invokevirtual 403, 3), (35, .ireturn, 1)]
theorem mc_cdk_286 : mc_cdl_286.all (fun q => decide (decode prog_13_method_119_code q.1 = .ok q.2)) = true := by decide +kernel
def mc_cdl_287 : List (Nat × Instr × Nat) := [(0, .aload_n 0, 1), (1, .iconst 0, 1), (2, .putfield 48, 3), (5, .aload_n 0, 1), (6, .iload_n 1, 1), (7, .invokevirtual 373, 3), (10, .ifCond .ne 9, 3), (13, .aload_n 0, 1), (14, .iconst 1, 1), (15, .invokevirtual 54, 3), (18, .ireturn, 1), (19, .aload_n 0, 1), (20, .aload_n 0, 1), (21, .getfield 17, 3), (24, .iload_n 1, 1), (25, .iaload, 1), (26, .ifCond .ne 8, 3), (29, .bipush (-2), 2), (31, .goto 11, 3), (34, .aload_n 0, 1), (35, .getfield 17, 3), (38, .iload_n 1, 1), (39, .iaload, 1), (40, .iconst 1, 1), (41, .isub, 1), (42, .invokevirtual 58, 3), (45, .ireturn, 1)]
theorem mc_cdk_287 : mc_cdl_287.all (fun q => decide (decode prog_13_method_120_code q.1 = .ok q.2)) = true := by decide +kernel
def mc_cdl_288 : List (Nat × Instr × Nat) := [(0, .aload_n 0, 1), (1, .iconst 0, 1), (2, .putfield 48, 3), (5, .aload_n 0, 1), (6, .aload_n 0, 1), (7, .getfield 337, 3), (10, .ifnull 7, 3), (13, .iconst 1, 1), (14, .goto 4, 3), (17, .iconst 0, 1), (18, .invokevirtual 433, 3), (21, .istore_n 1, 1), (22, .iload_n 1, 1), (23, .ifCond .le 9, 3), (26, .aload_n 0, 1), (27, .iload_n 1, 1), (28, .invokevirtual 54, 3), (31, .ireturn, 1), (32, .iconst 0, 1), (33, .istore_n 2, 1), (34, .iload_n 2, 1), (35, .aload_n 0, 1), (36, .getfield 422, 3), (39, .if_icmp .ge 48, 3), (42, .aload_n 0, 1), (43, .getfield 42, 3), (46, .iload_n 2, 1), (47, .iaload, 1), (48, .aload_n 0, 1), (49, .getfield 340, 3), (52, .if_icmp .ge 6, 3), (55, .goto 26, 3), (58, .aload_n 0, 1), (59, .aload_n 0, 1), (60, .getfield 42, 3), (63, .iload_n 2, 1), (64, .iaload, 1), (65, .iconst 1, 1), (66, .iadd, 1), (67, .putfield 340, 3), (70, .aload_n 0, 1), (71, .aload_n 0, 1), (72, .getfield 42, 3), (75, .iload_n 2, 1), (76, .iaload, 1), (77, .invokevirtual 58, 3), (80, .ireturn, 1), (81, .iinc 2 1, 3), (84, .goto (-50), 3), (87, .aload_n 0, 1), (88, .bipush 6, 2), (90, .invokevirtual 54, 3), (93, .ireturn, 1)]
theorem mc_cdk_288 : mc_cdl_288.all (fun q => decide (decode prog_13_method_121_code q.1 = .ok q.2)) = true := by decide +kernel
def mc_cdl_289 : List (Nat × Instr × Nat) := [(0, .aload_n 0, 1), (1, .iconst 0, 1), (2, .putfield 48, 3), (5, .aload_n 0, 1), (6, .iload_n 2, 1), (7, .invokevirtual 364, 3), (10, .ifCond .eq 7, 3), (13, .iload_n 1, 1), (14, .ifCond .ge 9, 3), (17, .aload_n 0, 1), (18, .iconst 1, 1), (19, .invokevirtual 54, 3), (22, .ireturn, 1), (23, .aload_n 0, 1), (24, .invokevirtual 376, 3), (27, .ldc2_w 428, 3), (30, .lcmp, 1), (31, .ifCond .le 9, 3), (34, .aload_n 0, 1), (35, .iconst 3, 1), (36, .invokevirtual 54, 3), (39, .ireturn, 1), (40, .iload_n 1, 1), (41, .i2l, 1), (42, .aload_n 0, 1), (43, .invokevirtual 376, 3), (46, .lcmp, 1), (47, .ifCond .lt 9, 3), (50, .aload_n 0, 1), (51, .iconst 1, 1), (52, .invokevirtual 54, 3), (55, .ireturn, 1), (56, .aload_n 0, 1), (57, .iload_n 1, 1), (58, .invokevirtual 425, 3), (61, .aload_n 0, 1), (62, .aload_n 0, 1), (63, .getfield 39, 3), (66, .iload_n 2, 1), (67, .iaload, 1), (68, .invokevirtual 58, 3), (71, .ireturn, 1)]
theorem mc_cdk_289 : mc_cdl_289.all (fun q => decide (decode prog_13_method_122_code q.1 = .ok q.2)) = true := by decide +kernel
def mc_cdl_290 : List (Nat × Instr × Nat) := [(0, .aload_n 0, 1), (1, .iconst 0, 1), (2, .putfield 48, 3), (5, .aload_n 0, 1), (6, .getfield 337, 3), (9, .ifnonnull 9, 3), (12, .aload_n 0, 1), (13, .iconst 1, 1), (14, .invokevirtual 400, 3), (17, .ireturn, 1), (18, .aload_n 0, 1), (19, .iconst 0, 1), (20, .putfield 340, 3), (23, .aload_n 0, 1), (24, .invokevirtual 403, 3), (27, .ireturn, 1)]
theorem mc_cdk_290 : mc_cdl_290.all (fun q => decide (decode prog_13_method_123_code q.1 = .ok q.2)) = true := by decide +kernel
def mc_cdl_291 : List (Nat × Instr × Nat) := [(0, .aload_n 0, 1), (1, .iconst 0, 1), (2, .putfield 48, 3), (5, .aload_n 0, 1), (6, .getfield 337, 3), (9, .ifnonnull 10, 3), (12, .aload_n 0, 1), (13, .iconst 1, 1), (14, .invokevirtual 54, 3), (17, .i2l, 1), (18, .lreturn, 1), (19, .aload_n 0, 1), (20, .getfield 340, 3), (23, .i2l, 1), (24, .lstore_n 1, 1), (25, .iconst 0, 1), (26, .istore_n 3, 1), (27, .iload_n 3, 1), (28, .aload_n 0, 1), (29, .getfield 337, 3), (32, .getfield 188, 3), (35, .if_icmp .ge 23, 3), (38, .ldc2_w 493, 3), (41, .lload_n 1, 1), (42, .lmul, 1), (43, .aload_n 0, 1), (44, .getfield 36, 3), (47, .iload_n 3, 1), (48, .iaload, 1), (49, .i2l, 1), (50, .ladd, 1), (51, .lstore_n 1, 1), (52, .iinc 3 1, 3), (55, .goto (-28), 3), (58, .aload_n 0, 1), (59, .lload_n 1, 1), (60, .invokevirtual 380, 3), (63, .lreturn, 1)]
theorem mc_cdk_291 : mc_cdl_291.all (fun q => decide (decode prog_13_method_124_code q.1 = .ok q.2)) = true := by decide +kernel
def mc_cdl_292 : List (Nat × Instr × Nat) := [(0, .aload_n 0, 1), (1, .iconst 0, 1), (2, .putfield 48, 3), (5, .aload_n 0, 1), (6, .getfield 337, 3), (9, .ifnonnull 9, 3), (12, .aload_n 0, 1), (13, .iconst 1, 1), (14, .invokevirtual 400, 3), (17, .ireturn, 1), (18, .lload_n 1, 1), (19, .lstore_n 3, 1), (20, .lload_n 1, 1), (21, .lconst 0, 1), (22, .lcmp, 1), (23, .ifCond .lt 7, 3), (26, .iconst 1, 1), (27, .goto 4, 3), (30, .iconst 0, 1), (31, .istore 5, 2), (33, .aload_n 0, 1), (34, .getfield 337, 3), (37, .getfield 188, 3), (40, .iconst 1, 1), (41, .isub, 1), (42, .istore 6, 2), (44, .iload 6, 2), (46, .ifCond .lt 67, 3), (49, .iload 5, 2), (51, .ifCond .eq 62, 3), (54, .aload_n 0, 1), (55, .getfield 45, 3), (58, .iload 6, 2), (60, .lload_n 3, 1), (61, .ldc2_w 493, 3), (64, .lrem, 1), (65, .l2i, 1), (66, .iastore, 1), (67, .aload_n 0, 1), (68, .getfield 45, 3), (71, .iload 6, 2), (73, .iaload, 1), (74, .ifCond .eq 20, 3), (77, .aload_n 0, 1), (78, .getfield 45, 3), (81, .iload 6, 2), (83, .iaload, 1), (84, .aload_n 0, 1), (85, .getfield 21, 3), (88, .iload 6, 2), (90, .iaload, 1), (91, .if_icmp .ge 7, 3), (94, .iconst 1, 1), (95, .goto 4, 3), (98, .iconst 0, 1), (99, .istore 5, 2), (101, .lload_n 3, 1), (102, .ldc2_w 493, 3), (105, .ldiv, 1), (106, .lstore_n 3, 1), (107, .iinc 6 (-1), 3), (110, .goto (-66), 3), (113, .iload 5, 2), (115, .ifCond .eq 11, 3), (118, .lload_n 3, 1), (119, .ldc2_w 428, 3), (122, .lcmp, 1), (123, .ifCond .le 9, 3), (126, .aload_n 0, 1), (127, .iconst 2, 1), (128, .invokevirtual 400, 3), (131, .ireturn, 1), (132, .iconst 0, 1), (133, .istore 6, 2), (135, .iload 6, 2), (137, .aload_n 0, 1), (138, .getfield 337, 3), (141, .getfield 188, 3), (144, .if_icmp .ge 23, 3), (147, .aload_n 0, 1), (148, .getfield 36, 3), (151, .iload 6, 2), (153, .aload_n 0, 1), (154, .getfield 45, 3), (157, .iload 6, 2), (159, .iaload, 1), (160, .iastore, 1), (161, .iinc 6 1, 3), (164, .goto (-29), 3), (167, .aload_n 0, 1), (168, .lload_n 3, 1), (169, .l2i, 1), (170, .putfield 340, 3), (173, .aload_n 0, 1), (174, .invokevirtual 403, 3), (177, .ireturn, 1)]
theorem mc_cdk_292 : mc_cdl_292.all (fun q => decide (decode prog_13_method_125_code q.1 = .ok q.2)) = true := by decide +kernel
def mc_cdl_293 : List (Nat × Instr × Nat) := [(0, .aload_n 0, 1), (1, .iconst 0, 1), (2, .putfield 48, 3), (5, .iconst 0, 1), (6, .istore_n 2, 1), (7, .iconst 0, 1), (8, .istore_n 3, 1), (9, .aload_n 0, 1), (10, .getfield 337, 3), (13, .ifnull 45, 3), (16, .iload_n 3, 1), (17, .aload_n 0, 1), (18, .getfield 337, 3), (21, .getfield 188, 3), (24, .if_icmp .ge 34, 3), (27, .aload_n 0, 1), (28, .getfield 337, 3), (31, .getfield 267, 3), (34, .iload_n 3, 1), (35, .baload, 1), (36, .ifCond .ne 6, 3), (39, .goto 13, 3), (42, .iload_n 2, 1), (43, .iload_n 1, 1), (44, .if_icmp .ne 5, 3), (47, .iload_n 3, 1), (48, .ireturn, 1), (49, .iinc 2 1, 3), (52, .iinc 3 1, 3), (55, .goto (-46), 3), (58, .aload_n 0, 1), (59, .iconst 1, 1), (60, .putfield 48, 3), (63, .iconst 0, 1), (64, .ireturn, 1)]
theorem mc_cdk_293 : mc_cdl_293.all (fun q => decide (decode prog_13_method_126_code q.1 = .ok q.2)) = true := by decide +kernel
def mc_cdl_294 : List (Nat × Instr × Nat) := [(0, .aload_n 0, 1), (1, .iconst 0, 1), (2, .putfield 48, 3), (5, .iload_n 1, 1), (6, .bipush 9, 2), (8, .if_icmp .ne 8, 3), (11, .aload_n 0, 1), (12, .getfield 330, 3), (15, .ireturn, 1), (16, .iload_n 1, 1), (17, .iconst 0, 1), (18, .bipush 8, 2), (20, .invokestatic 125, 3), (23, .ifCond .ne 5, 3), (26, .iconst (-1), 1), (27, .ireturn, 1), (28, .aload_n 0, 1), (29, .getfield 337, 3), (32, .ifnonnull 5, 3), (35, .iconst 0, 1), (36, .ireturn, 1), (37, .iload_n 1, 1), (38, .tableswitch 126 0 7 #[46, 54, 62, 70, 78, 86, 94, 102], 46), (84, .aload_n 0, 1), (85, .getfield 337, 3), (88, .getfield 188, 3), (91, .ireturn, 1), (92, .aload_n 0, 1), (93, .getfield 337, 3), (96, .getfield 276, 3), (99, .ireturn, 1), (100, .aload_n 0, 1), (101, .getfield 337, 3), (104, .getfield 288, 3), (107, .ireturn, 1), (108, .aload_n 0, 1), (109, .invokevirtual 357, 3), (112, .invokestatic 462, 3), (115, .ireturn, 1), (116, .aload_n 0, 1), (117, .getfield 337, 3), (120, .getfield 306, 3), (123, .ireturn, 1), (124, .aload_n 0, 1), (125, .getfield 337, 3), (128, .getfield 321, 3), (131, .ireturn, 1), (132, .aload_n 0, 1), (133, .getfield 337, 3), (136, .getfield 185, 3), (139, .ireturn, 1), (140, .aload_n 0, 1), (141, .getfield 337, 3), (144, .getfield 271, 3), (147, .iconst (-1), 1), (148, .if_icmp .ne 8, 3), (151, .bipush (-2), 2), (153, .goto 10, 3), (156, .aload_n 0, 1), (157, .getfield 337, 3), (160, .getfield 271, 3), (163, .ireturn, 1), (164, .aload_n 0, 1), (165, .getfield 340, 3), (168, .ireturn, 1)]
theorem mc_cdk_294 : mc_cdl_294.all (fun q => decide (decode prog_13_method_127_code q.1 = .ok q.2)) = true := by decide +kernel
def mc_cdl_295 : List (Nat × Instr × Nat) := [(0, .aload_n 0, 1), (1, .iconst 0, 1), (2, .putfield 48, 3), (5, .aload_n 0, 1), (6, .getfield 51, 3), (9, .ireturn, 1)]
theorem mc_cdk_295 : mc_cdl_295.all (fun q => decide (decode prog_13_method_128_code q.1 = .ok q.2)) = true := by decide +kernel
end
section
/-! the methods' instructions, each as decode reads it (own work, wip/gen/codes.py) -/
def mc_cdw_0 : List (Nat × Instr × Nat) := [(0, .new 8, 3), (3, .dup, 1), (4, .invokespecial 15, 3), (7, .astore_n 1, 1), (8, .new 16, 3), (11, .dup, 1), (12, .invokespecial 18, 3), (15, .astore_n 2, 1), (16, .iconst 1, 1), (17, .newarray .long, 2), (19, .astore_n 3, 1), (20, .iconst 0, 1), (21, .istore 4, 2), (23, .iload 4, 2), (25, .aload_n 0, 1), (26, .arraylength, 1), (27, .bipush 6, 2), (29, .isub, 1), (30, .if_icmp .gt 1662, 3), (33, .aload_n 0, 1), (34, .iload 4, 2), (36, .iaload, 1), (37, .bipush 63, 2), (39, .iand, 1), (40, .tableswitch 1646 0 49 #[216, 289, 314, 327, 340, 365, 414, 463, 477, 514, 539, 564, 577, 590, 603, 616, 629, 666, 680, 717, 754, 791, 844, 881, 906, 920, 957, 983, 1020, 1073, 1126, 1139, 1164, 1189, 1214, 1227, 1280, 1293, 1306, 1331, 1368, 1393, 1418, 1431, 1468, 1481, 1495, 1552, 1608, 1633], 216)]
theorem mc_cdx_0 : mc_cdw_0.all (fun q => decide (decode code q.1 = .ok q.2)) = true := by decide +kernel
def mc_cdw_1 : List (Nat × Instr × Nat) := []
theorem mc_cdx_1 : mc_cdw_1.all (fun q => decide (decode code q.1 = .ok q.2)) = true := by decide +kernel
def mc_cdw_2 : List (Nat × Instr × Nat) := []
theorem mc_cdx_2 : mc_cdw_2.all (fun q => decide (decode code q.1 = .ok q.2)) = true := by decide +kernel
def mc_cdw_3 : List (Nat × Instr × Nat) := []
theorem mc_cdx_3 : mc_cdw_3.all (fun q => decide (decode code q.1 = .ok q.2)) = true := by decide +kernel
def mc_cdw_4 : List (Nat × Instr × Nat) := [(256, .aload_n 1, 1), (257, .aload_n 0, 1), (258, .iload 4, 2), (260, .iconst 1, 1), (261, .iadd, 1), (262, .iaload, 1), (263, .aload_n 0, 1), (264, .iload 4, 2), (266, .iconst 2, 1), (267, .iadd, 1), (268, .iaload, 1), (269, .aload_n 0, 1), (270, .iload 4, 2), (272, .iconst 3, 1), (273, .iadd, 1), (274, .iaload, 1), (275, .aload_n 0, 1), (276, .iload 4, 2), (278, .iconst 4, 1), (279, .iadd, 1), (280, .iaload, 1), (281, .aload_n 0, 1), (282, .iload 4, 2), (284, .iconst 5, 1), (285, .iadd, 1), (286, .iaload, 1), (287, .invokevirtual 19, 3), (290, .aload_n 2, 1), (291, .aload_n 0, 1), (292, .iload 4, 2), (294, .iconst 1, 1), (295, .iadd, 1), (296, .iaload, 1), (297, .aload_n 0, 1), (298, .iload 4, 2), (300, .iconst 2, 1), (301, .iadd, 1), (302, .iaload, 1), (303, .aload_n 0, 1), (304, .iload 4, 2), (306, .iconst 3, 1), (307, .iadd, 1), (308, .iaload, 1), (309, .aload_n 0, 1), (310, .iload 4, 2), (312, .iconst 4, 1), (313, .iadd, 1), (314, .iaload, 1), (315, .aload_n 0, 1), (316, .iload 4, 2), (318, .iconst 5, 1), (319, .iadd, 1)]
theorem mc_cdx_4 : mc_cdw_4.all (fun q => decide (decode code q.1 = .ok q.2)) = true := by decide +kernel
def mc_cdw_5 : List (Nat × Instr × Nat) := [(320, .iaload, 1), (321, .invokevirtual 23, 3), (324, .if_icmp .eq 1362, 3), (327, .iconst 0, 1), (328, .ireturn, 1), (329, .aload_n 1, 1), (330, .aload_n 0, 1), (331, .iload 4, 2), (333, .iconst 1, 1), (334, .iadd, 1), (335, .iaload, 1), (336, .invokevirtual 24, 3), (339, .aload_n 2, 1), (340, .aload_n 0, 1), (341, .iload 4, 2), (343, .iconst 1, 1), (344, .iadd, 1), (345, .iaload, 1), (346, .invokevirtual 27, 3), (349, .if_icmp .eq 1337, 3), (352, .iconst 0, 1), (353, .ireturn, 1), (354, .aload_n 1, 1), (355, .invokevirtual 28, 3), (358, .aload_n 2, 1), (359, .invokevirtual 32, 3), (362, .if_icmp .eq 1324, 3), (365, .iconst 0, 1), (366, .ireturn, 1), (367, .aload_n 1, 1), (368, .invokevirtual 33, 3), (371, .aload_n 2, 1), (372, .invokevirtual 36, 3), (375, .if_icmp .eq 1311, 3), (378, .iconst 0, 1), (379, .ireturn, 1), (380, .aload_n 1, 1), (381, .aload_n 0, 1), (382, .iload 4, 2)]
theorem mc_cdx_5 : mc_cdw_5.all (fun q => decide (decode code q.1 = .ok q.2)) = true := by decide +kernel
def mc_cdw_6 : List (Nat × Instr × Nat) := [(384, .iconst 1, 1), (385, .iadd, 1), (386, .iaload, 1), (387, .invokevirtual 37, 3), (390, .aload_n 2, 1), (391, .aload_n 0, 1), (392, .iload 4, 2), (394, .iconst 1, 1), (395, .iadd, 1), (396, .iaload, 1), (397, .invokevirtual 40, 3), (400, .if_icmp .eq 1286, 3), (403, .iconst 0, 1), (404, .ireturn, 1), (405, .aload_n 1, 1), (406, .aload_n 0, 1), (407, .iload 4, 2), (409, .iconst 1, 1), (410, .iadd, 1), (411, .iaload, 1), (412, .aload_n 0, 1), (413, .iload 4, 2), (415, .iconst 2, 1), (416, .iadd, 1), (417, .iaload, 1), (418, .aload_n 0, 1), (419, .iload 4, 2), (421, .iconst 3, 1), (422, .iadd, 1), (423, .iaload, 1), (424, .invokevirtual 41, 3), (427, .aload_n 2, 1), (428, .aload_n 0, 1), (429, .iload 4, 2), (431, .iconst 1, 1), (432, .iadd, 1), (433, .iaload, 1), (434, .aload_n 0, 1), (435, .iload 4, 2), (437, .iconst 2, 1), (438, .iadd, 1), (439, .iaload, 1), (440, .aload_n 0, 1), (441, .iload 4, 2), (443, .iconst 3, 1), (444, .iadd, 1), (445, .iaload, 1), (446, .invokevirtual 45, 3)]
theorem mc_cdx_6 : mc_cdw_6.all (fun q => decide (decode code q.1 = .ok q.2)) = true := by decide +kernel
def mc_cdw_7 : List (Nat × Instr × Nat) := [(449, .if_icmp .eq 1237, 3), (452, .iconst 0, 1), (453, .ireturn, 1), (454, .aload_n 1, 1), (455, .aload_n 0, 1), (456, .iload 4, 2), (458, .iconst 1, 1), (459, .iadd, 1), (460, .iaload, 1), (461, .aload_n 0, 1), (462, .iload 4, 2), (464, .iconst 2, 1), (465, .iadd, 1), (466, .iaload, 1), (467, .aload_n 0, 1), (468, .iload 4, 2), (470, .iconst 3, 1), (471, .iadd, 1), (472, .iaload, 1), (473, .invokevirtual 46, 3), (476, .aload_n 2, 1), (477, .aload_n 0, 1), (478, .iload 4, 2), (480, .iconst 1, 1), (481, .iadd, 1), (482, .iaload, 1), (483, .aload_n 0, 1), (484, .iload 4, 2), (486, .iconst 2, 1), (487, .iadd, 1), (488, .iaload, 1), (489, .aload_n 0, 1), (490, .iload 4, 2), (492, .iconst 3, 1), (493, .iadd, 1), (494, .iaload, 1), (495, .invokevirtual 49, 3), (498, .if_icmp .eq 1188, 3), (501, .iconst 0, 1), (502, .ireturn, 1), (503, .aload_n 1, 1), (504, .invokevirtual 50, 3), (507, .aload_n 2, 1), (508, .invokevirtual 54, 3), (511, .lcmp, 1)]
theorem mc_cdx_7 : mc_cdw_7.all (fun q => decide (decode code q.1 = .ok q.2)) = true := by decide +kernel
def mc_cdw_8 : List (Nat × Instr × Nat) := [(512, .ifCond .eq 1174, 3), (515, .iconst 0, 1), (516, .ireturn, 1), (517, .aload_n 1, 1), (518, .aload_n 0, 1), (519, .iload 4, 2), (521, .iconst 1, 1), (522, .iadd, 1), (523, .iaload, 1), (524, .aload_n 0, 1), (525, .iload 4, 2), (527, .iconst 2, 1), (528, .iadd, 1), (529, .iaload, 1), (530, .invokevirtual 55, 3), (533, .aload_n 2, 1), (534, .aload_n 0, 1), (535, .iload 4, 2), (537, .iconst 1, 1), (538, .iadd, 1), (539, .iaload, 1), (540, .aload_n 0, 1), (541, .iload 4, 2), (543, .iconst 2, 1), (544, .iadd, 1), (545, .iaload, 1), (546, .invokevirtual 59, 3), (549, .if_icmp .eq 1137, 3), (552, .iconst 0, 1), (553, .ireturn, 1), (554, .aload_n 1, 1), (555, .aload_n 0, 1), (556, .iload 4, 2), (558, .iconst 1, 1), (559, .iadd, 1), (560, .iaload, 1), (561, .invokevirtual 60, 3), (564, .aload_n 2, 1), (565, .aload_n 0, 1), (566, .iload 4, 2), (568, .iconst 1, 1), (569, .iadd, 1), (570, .iaload, 1), (571, .invokevirtual 63, 3), (574, .if_icmp .eq 1112, 3)]
theorem mc_cdx_8 : mc_cdw_8.all (fun q => decide (decode code q.1 = .ok q.2)) = true := by decide +kernel
def mc_cdw_9 : List (Nat × Instr × Nat) := [(577, .iconst 0, 1), (578, .ireturn, 1), (579, .aload_n 1, 1), (580, .aload_n 0, 1), (581, .iload 4, 2), (583, .iconst 1, 1), (584, .iadd, 1), (585, .iaload, 1), (586, .invokevirtual 64, 3), (589, .aload_n 2, 1), (590, .aload_n 0, 1), (591, .iload 4, 2), (593, .iconst 1, 1), (594, .iadd, 1), (595, .iaload, 1), (596, .invokevirtual 67, 3), (599, .if_icmp .eq 1087, 3), (602, .iconst 0, 1), (603, .ireturn, 1), (604, .aload_n 1, 1), (605, .invokevirtual 68, 3), (608, .aload_n 2, 1), (609, .invokevirtual 71, 3), (612, .if_icmp .eq 1074, 3), (615, .iconst 0, 1), (616, .ireturn, 1), (617, .aload_n 1, 1), (618, .invokevirtual 72, 3), (621, .aload_n 2, 1), (622, .invokevirtual 75, 3), (625, .if_icmp .eq 1061, 3), (628, .iconst 0, 1), (629, .ireturn, 1), (630, .aload_n 1, 1), (631, .invokevirtual 76, 3), (634, .aload_n 2, 1), (635, .invokevirtual 79, 3), (638, .if_icmp .eq 1048, 3)]
theorem mc_cdx_9 : mc_cdw_9.all (fun q => decide (decode code q.1 = .ok q.2)) = true := by decide +kernel
def mc_cdw_10 : List (Nat × Instr × Nat) := [(641, .iconst 0, 1), (642, .ireturn, 1), (643, .aload_n 1, 1), (644, .invokevirtual 80, 3), (647, .aload_n 2, 1), (648, .invokevirtual 83, 3), (651, .if_icmp .eq 1035, 3), (654, .iconst 0, 1), (655, .ireturn, 1), (656, .aload_n 1, 1), (657, .invokevirtual 84, 3), (660, .aload_n 2, 1), (661, .invokevirtual 87, 3), (664, .if_icmp .eq 1022, 3), (667, .iconst 0, 1), (668, .ireturn, 1), (669, .aload_n 1, 1), (670, .aload_n 0, 1), (671, .iload 4, 2), (673, .iconst 1, 1), (674, .iadd, 1), (675, .iaload, 1), (676, .aload_n 0, 1), (677, .iload 4, 2), (679, .iconst 2, 1), (680, .iadd, 1), (681, .iaload, 1), (682, .invokevirtual 88, 3), (685, .aload_n 2, 1), (686, .aload_n 0, 1), (687, .iload 4, 2), (689, .iconst 1, 1), (690, .iadd, 1), (691, .iaload, 1), (692, .aload_n 0, 1), (693, .iload 4, 2), (695, .iconst 2, 1), (696, .iadd, 1), (697, .iaload, 1), (698, .invokevirtual 92, 3), (701, .if_icmp .eq 985, 3)]
theorem mc_cdx_10 : mc_cdw_10.all (fun q => decide (decode code q.1 = .ok q.2)) = true := by decide +kernel
def mc_cdw_11 : List (Nat × Instr × Nat) := [(704, .iconst 0, 1), (705, .ireturn, 1), (706, .aload_n 1, 1), (707, .invokevirtual 93, 3), (710, .aload_n 2, 1), (711, .invokevirtual 96, 3), (714, .lcmp, 1), (715, .ifCond .eq 971, 3), (718, .iconst 0, 1), (719, .ireturn, 1), (720, .aload_n 1, 1), (721, .aload_n 0, 1), (722, .iload 4, 2), (724, .iconst 1, 1), (725, .iadd, 1), (726, .iaload, 1), (727, .aload_n 0, 1), (728, .iload 4, 2), (730, .iconst 2, 1), (731, .iadd, 1), (732, .iaload, 1), (733, .invokevirtual 97, 3), (736, .aload_n 2, 1), (737, .aload_n 0, 1), (738, .iload 4, 2), (740, .iconst 1, 1), (741, .iadd, 1), (742, .iaload, 1), (743, .aload_n 0, 1), (744, .iload 4, 2), (746, .iconst 2, 1), (747, .iadd, 1), (748, .iaload, 1), (749, .invokevirtual 100, 3), (752, .if_icmp .eq 934, 3), (755, .iconst 0, 1), (756, .ireturn, 1), (757, .aload_n 1, 1), (758, .aload_n 0, 1), (759, .iload 4, 2), (761, .iconst 1, 1), (762, .iadd, 1), (763, .iaload, 1), (764, .aload_n 0, 1), (765, .iload 4, 2), (767, .iconst 2, 1)]
theorem mc_cdx_11 : mc_cdw_11.all (fun q => decide (decode code q.1 = .ok q.2)) = true := by decide +kernel
def mc_cdw_12 : List (Nat × Instr × Nat) := [(768, .iadd, 1), (769, .iaload, 1), (770, .invokevirtual 101, 3), (773, .aload_n 2, 1), (774, .aload_n 0, 1), (775, .iload 4, 2), (777, .iconst 1, 1), (778, .iadd, 1), (779, .iaload, 1), (780, .aload_n 0, 1), (781, .iload 4, 2), (783, .iconst 2, 1), (784, .iadd, 1), (785, .iaload, 1), (786, .invokevirtual 104, 3), (789, .if_icmp .eq 897, 3), (792, .iconst 0, 1), (793, .ireturn, 1), (794, .aload_n 1, 1), (795, .aload_n 0, 1), (796, .iload 4, 2), (798, .iconst 1, 1), (799, .iadd, 1), (800, .iaload, 1), (801, .aload_n 0, 1), (802, .iload 4, 2), (804, .iconst 2, 1), (805, .iadd, 1), (806, .iaload, 1), (807, .invokevirtual 105, 3), (810, .aload_n 2, 1), (811, .aload_n 0, 1), (812, .iload 4, 2), (814, .iconst 1, 1), (815, .iadd, 1), (816, .iaload, 1), (817, .aload_n 0, 1), (818, .iload 4, 2), (820, .iconst 2, 1), (821, .iadd, 1), (822, .iaload, 1), (823, .invokevirtual 108, 3), (826, .if_icmp .eq 860, 3), (829, .iconst 0, 1), (830, .ireturn, 1), (831, .aload_n 1, 1)]
theorem mc_cdx_12 : mc_cdw_12.all (fun q => decide (decode code q.1 = .ok q.2)) = true := by decide +kernel
def mc_cdw_13 : List (Nat × Instr × Nat) := [(832, .aload_n 0, 1), (833, .iload 4, 2), (835, .iconst 1, 1), (836, .iadd, 1), (837, .iaload, 1), (838, .aload_n 0, 1), (839, .iload 4, 2), (841, .iconst 2, 1), (842, .iadd, 1), (843, .iaload, 1), (844, .ifCond .eq 7, 3), (847, .iconst 1, 1), (848, .goto 4, 3), (851, .iconst 0, 1), (852, .invokevirtual 109, 3), (855, .aload_n 2, 1), (856, .aload_n 0, 1), (857, .iload 4, 2), (859, .iconst 1, 1), (860, .iadd, 1), (861, .iaload, 1), (862, .aload_n 0, 1), (863, .iload 4, 2), (865, .iconst 2, 1), (866, .iadd, 1), (867, .iaload, 1), (868, .ifCond .eq 7, 3), (871, .iconst 1, 1), (872, .goto 4, 3), (875, .iconst 0, 1), (876, .invokevirtual 113, 3), (879, .if_icmp .eq 807, 3), (882, .iconst 0, 1), (883, .ireturn, 1), (884, .aload_n 1, 1), (885, .aload_n 0, 1), (886, .iload 4, 2), (888, .iconst 1, 1), (889, .iadd, 1), (890, .iaload, 1), (891, .aload_n 0, 1), (892, .iload 4, 2), (894, .iconst 2, 1), (895, .iadd, 1)]
theorem mc_cdx_13 : mc_cdw_13.all (fun q => decide (decode code q.1 = .ok q.2)) = true := by decide +kernel
def mc_cdw_14 : List (Nat × Instr × Nat) := [(896, .iaload, 1), (897, .invokevirtual 114, 3), (900, .aload_n 2, 1), (901, .aload_n 0, 1), (902, .iload 4, 2), (904, .iconst 1, 1), (905, .iadd, 1), (906, .iaload, 1), (907, .aload_n 0, 1), (908, .iload 4, 2), (910, .iconst 2, 1), (911, .iadd, 1), (912, .iaload, 1), (913, .invokevirtual 117, 3), (916, .if_icmp .eq 770, 3), (919, .iconst 0, 1), (920, .ireturn, 1), (921, .aload_n 1, 1), (922, .aload_n 0, 1), (923, .iload 4, 2), (925, .iconst 1, 1), (926, .iadd, 1), (927, .iaload, 1), (928, .invokevirtual 118, 3), (931, .aload_n 2, 1), (932, .aload_n 0, 1), (933, .iload 4, 2), (935, .iconst 1, 1), (936, .iadd, 1), (937, .iaload, 1), (938, .invokevirtual 121, 3), (941, .if_icmp .eq 745, 3), (944, .iconst 0, 1), (945, .ireturn, 1), (946, .aload_n 1, 1), (947, .invokevirtual 122, 3), (950, .aload_n 2, 1), (951, .invokevirtual 125, 3), (954, .lcmp, 1), (955, .ifCond .eq 731, 3), (958, .iconst 0, 1), (959, .ireturn, 1)]
theorem mc_cdx_14 : mc_cdw_14.all (fun q => decide (decode code q.1 = .ok q.2)) = true := by decide +kernel
def mc_cdw_15 : List (Nat × Instr × Nat) := [(960, .aload_n 1, 1), (961, .aload_n 0, 1), (962, .iload 4, 2), (964, .iconst 1, 1), (965, .iadd, 1), (966, .iaload, 1), (967, .aload_n 0, 1), (968, .iload 4, 2), (970, .iconst 2, 1), (971, .iadd, 1), (972, .iaload, 1), (973, .invokevirtual 126, 3), (976, .aload_n 2, 1), (977, .aload_n 0, 1), (978, .iload 4, 2), (980, .iconst 1, 1), (981, .iadd, 1), (982, .iaload, 1), (983, .aload_n 0, 1), (984, .iload 4, 2), (986, .iconst 2, 1), (987, .iadd, 1), (988, .iaload, 1), (989, .invokevirtual 129, 3), (992, .if_icmp .eq 694, 3), (995, .iconst 0, 1), (996, .ireturn, 1), (997, .aload_n 1, 1), (998, .aload_n 0, 1), (999, .iload 4, 2), (1001, .iconst 1, 1), (1002, .iadd, 1), (1003, .iaload, 1), (1004, .invokevirtual 130, 3), (1007, .aload_n 2, 1), (1008, .aload_n 0, 1), (1009, .iload 4, 2), (1011, .iconst 1, 1), (1012, .iadd, 1), (1013, .iaload, 1), (1014, .invokevirtual 134, 3), (1017, .lcmp, 1), (1018, .ifCond .eq 668, 3), (1021, .iconst 0, 1), (1022, .ireturn, 1), (1023, .aload_n 1, 1)]
theorem mc_cdx_15 : mc_cdw_15.all (fun q => decide (decode code q.1 = .ok q.2)) = true := by decide +kernel
def mc_cdw_16 : List (Nat × Instr × Nat) := [(1024, .aload_n 0, 1), (1025, .iload 4, 2), (1027, .iconst 1, 1), (1028, .iadd, 1), (1029, .iaload, 1), (1030, .aload_n 0, 1), (1031, .iload 4, 2), (1033, .iconst 2, 1), (1034, .iadd, 1), (1035, .iaload, 1), (1036, .invokevirtual 135, 3), (1039, .aload_n 2, 1), (1040, .aload_n 0, 1), (1041, .iload 4, 2), (1043, .iconst 1, 1), (1044, .iadd, 1), (1045, .iaload, 1), (1046, .aload_n 0, 1), (1047, .iload 4, 2), (1049, .iconst 2, 1), (1050, .iadd, 1), (1051, .iaload, 1), (1052, .invokevirtual 138, 3), (1055, .if_icmp .eq 631, 3), (1058, .iconst 0, 1), (1059, .ireturn, 1), (1060, .aload_n 1, 1), (1061, .aload_n 0, 1), (1062, .iload 4, 2), (1064, .iconst 1, 1), (1065, .iadd, 1), (1066, .iaload, 1), (1067, .aload_n 0, 1), (1068, .iload 4, 2), (1070, .iconst 2, 1), (1071, .iadd, 1), (1072, .iaload, 1), (1073, .ifCond .eq 7, 3), (1076, .iconst 1, 1), (1077, .goto 4, 3), (1080, .iconst 0, 1), (1081, .invokevirtual 139, 3), (1084, .aload_n 2, 1), (1085, .aload_n 0, 1), (1086, .iload 4, 2)]
theorem mc_cdx_16 : mc_cdw_16.all (fun q => decide (decode code q.1 = .ok q.2)) = true := by decide +kernel
def mc_cdw_17 : List (Nat × Instr × Nat) := [(1088, .iconst 1, 1), (1089, .iadd, 1), (1090, .iaload, 1), (1091, .aload_n 0, 1), (1092, .iload 4, 2), (1094, .iconst 2, 1), (1095, .iadd, 1), (1096, .iaload, 1), (1097, .ifCond .eq 7, 3), (1100, .iconst 1, 1), (1101, .goto 4, 3), (1104, .iconst 0, 1), (1105, .invokevirtual 142, 3), (1108, .if_icmp .eq 578, 3), (1111, .iconst 0, 1), (1112, .ireturn, 1), (1113, .aload_n 1, 1), (1114, .aload_n 0, 1), (1115, .iload 4, 2), (1117, .iconst 1, 1), (1118, .iadd, 1), (1119, .iaload, 1), (1120, .aload_n 0, 1), (1121, .iload 4, 2), (1123, .iconst 2, 1), (1124, .iadd, 1), (1125, .iaload, 1), (1126, .ifCond .eq 7, 3), (1129, .iconst 1, 1), (1130, .goto 4, 3), (1133, .iconst 0, 1), (1134, .invokevirtual 143, 3), (1137, .aload_n 2, 1), (1138, .aload_n 0, 1), (1139, .iload 4, 2), (1141, .iconst 1, 1), (1142, .iadd, 1), (1143, .iaload, 1), (1144, .aload_n 0, 1), (1145, .iload 4, 2), (1147, .iconst 2, 1), (1148, .iadd, 1), (1149, .iaload, 1), (1150, .ifCond .eq 7, 3)]
theorem mc_cdx_17 : mc_cdw_17.all (fun q => decide (decode code q.1 = .ok q.2)) = true := by decide +kernel
def mc_cdw_18 : List (Nat × Instr × Nat) := [(1153, .iconst 1, 1), (1154, .goto 4, 3), (1157, .iconst 0, 1), (1158, .invokevirtual 146, 3), (1161, .if_icmp .eq 525, 3), (1164, .iconst 0, 1), (1165, .ireturn, 1), (1166, .aload_n 1, 1), (1167, .invokevirtual 147, 3), (1170, .aload_n 2, 1), (1171, .invokevirtual 150, 3), (1174, .if_icmp .eq 512, 3), (1177, .iconst 0, 1), (1178, .ireturn, 1), (1179, .aload_n 1, 1), (1180, .aload_n 0, 1), (1181, .iload 4, 2), (1183, .iconst 1, 1), (1184, .iadd, 1), (1185, .iaload, 1), (1186, .invokevirtual 151, 3), (1189, .aload_n 2, 1), (1190, .aload_n 0, 1), (1191, .iload 4, 2), (1193, .iconst 1, 1), (1194, .iadd, 1), (1195, .iaload, 1), (1196, .invokevirtual 154, 3), (1199, .if_icmp .eq 487, 3), (1202, .iconst 0, 1), (1203, .ireturn, 1), (1204, .aload_n 1, 1), (1205, .aload_n 0, 1), (1206, .iload 4, 2), (1208, .iconst 1, 1), (1209, .iadd, 1), (1210, .iaload, 1), (1211, .invokevirtual 155, 3), (1214, .aload_n 2, 1), (1215, .aload_n 0, 1)]
theorem mc_cdx_18 : mc_cdw_18.all (fun q => decide (decode code q.1 = .ok q.2)) = true := by decide +kernel
def mc_cdw_19 : List (Nat × Instr × Nat) := [(1216, .iload 4, 2), (1218, .iconst 1, 1), (1219, .iadd, 1), (1220, .iaload, 1), (1221, .invokevirtual 158, 3), (1224, .if_icmp .eq 462, 3), (1227, .iconst 0, 1), (1228, .ireturn, 1), (1229, .aload_n 1, 1), (1230, .aload_n 0, 1), (1231, .iload 4, 2), (1233, .iconst 1, 1), (1234, .iadd, 1), (1235, .iaload, 1), (1236, .invokevirtual 159, 3), (1239, .aload_n 2, 1), (1240, .aload_n 0, 1), (1241, .iload 4, 2), (1243, .iconst 1, 1), (1244, .iadd, 1), (1245, .iaload, 1), (1246, .invokevirtual 162, 3), (1249, .if_icmp .eq 437, 3), (1252, .iconst 0, 1), (1253, .ireturn, 1), (1254, .aload_n 1, 1), (1255, .invokevirtual 163, 3), (1258, .aload_n 2, 1), (1259, .invokevirtual 166, 3), (1262, .if_icmp .eq 424, 3), (1265, .iconst 0, 1), (1266, .ireturn, 1), (1267, .aload_n 1, 1), (1268, .aload_n 0, 1), (1269, .iload 4, 2), (1271, .iconst 1, 1), (1272, .iadd, 1), (1273, .iaload, 1), (1274, .aload_n 0, 1), (1275, .iload 4, 2), (1277, .iconst 2, 1), (1278, .iadd, 1), (1279, .iaload, 1)]
theorem mc_cdx_19 : mc_cdw_19.all (fun q => decide (decode code q.1 = .ok q.2)) = true := by decide +kernel
def mc_cdw_20 : List (Nat × Instr × Nat) := [(1280, .ifCond .eq 7, 3), (1283, .iconst 1, 1), (1284, .goto 4, 3), (1287, .iconst 0, 1), (1288, .invokevirtual 167, 3), (1291, .aload_n 2, 1), (1292, .aload_n 0, 1), (1293, .iload 4, 2), (1295, .iconst 1, 1), (1296, .iadd, 1), (1297, .iaload, 1), (1298, .aload_n 0, 1), (1299, .iload 4, 2), (1301, .iconst 2, 1), (1302, .iadd, 1), (1303, .iaload, 1), (1304, .ifCond .eq 7, 3), (1307, .iconst 1, 1), (1308, .goto 4, 3), (1311, .iconst 0, 1), (1312, .invokevirtual 170, 3), (1315, .if_icmp .eq 371, 3), (1318, .iconst 0, 1), (1319, .ireturn, 1), (1320, .aload_n 1, 1), (1321, .invokevirtual 171, 3), (1324, .aload_n 2, 1), (1325, .invokevirtual 174, 3), (1328, .if_icmp .eq 358, 3), (1331, .iconst 0, 1), (1332, .ireturn, 1), (1333, .aload_n 1, 1), (1334, .invokevirtual 175, 3), (1337, .aload_n 2, 1), (1338, .invokevirtual 178, 3), (1341, .if_icmp .eq 345, 3)]
theorem mc_cdx_20 : mc_cdw_20.all (fun q => decide (decode code q.1 = .ok q.2)) = true := by decide +kernel
def mc_cdw_21 : List (Nat × Instr × Nat) := [(1344, .iconst 0, 1), (1345, .ireturn, 1), (1346, .aload_n 1, 1), (1347, .aload_n 0, 1), (1348, .iload 4, 2), (1350, .iconst 1, 1), (1351, .iadd, 1), (1352, .iaload, 1), (1353, .invokevirtual 179, 3), (1356, .aload_n 2, 1), (1357, .aload_n 0, 1), (1358, .iload 4, 2), (1360, .iconst 1, 1), (1361, .iadd, 1), (1362, .iaload, 1), (1363, .invokevirtual 182, 3), (1366, .if_icmp .eq 320, 3), (1369, .iconst 0, 1), (1370, .ireturn, 1), (1371, .aload_n 1, 1), (1372, .aload_n 0, 1), (1373, .iload 4, 2), (1375, .iconst 1, 1), (1376, .iadd, 1), (1377, .iaload, 1), (1378, .aload_n 0, 1), (1379, .iload 4, 2), (1381, .iconst 2, 1), (1382, .iadd, 1), (1383, .iaload, 1), (1384, .invokevirtual 183, 3), (1387, .aload_n 2, 1), (1388, .aload_n 0, 1), (1389, .iload 4, 2), (1391, .iconst 1, 1), (1392, .iadd, 1), (1393, .iaload, 1), (1394, .aload_n 0, 1), (1395, .iload 4, 2), (1397, .iconst 2, 1), (1398, .iadd, 1), (1399, .iaload, 1), (1400, .invokevirtual 186, 3), (1403, .if_icmp .eq 283, 3), (1406, .iconst 0, 1), (1407, .ireturn, 1)]
theorem mc_cdx_21 : mc_cdw_21.all (fun q => decide (decode code q.1 = .ok q.2)) = true := by decide +kernel
def mc_cdw_22 : List (Nat × Instr × Nat) := [(1408, .aload_n 1, 1), (1409, .aload_n 0, 1), (1410, .iload 4, 2), (1412, .iconst 1, 1), (1413, .iadd, 1), (1414, .iaload, 1), (1415, .invokevirtual 187, 3), (1418, .aload_n 2, 1), (1419, .aload_n 0, 1), (1420, .iload 4, 2), (1422, .iconst 1, 1), (1423, .iadd, 1), (1424, .iaload, 1), (1425, .invokevirtual 191, 3), (1428, .if_icmp .eq 258, 3), (1431, .iconst 0, 1), (1432, .ireturn, 1), (1433, .aload_n 1, 1), (1434, .aload_n 0, 1), (1435, .iload 4, 2), (1437, .iconst 1, 1), (1438, .iadd, 1), (1439, .iaload, 1), (1440, .invokevirtual 192, 3), (1443, .aload_n 2, 1), (1444, .aload_n 0, 1), (1445, .iload 4, 2), (1447, .iconst 1, 1), (1448, .iadd, 1), (1449, .iaload, 1), (1450, .invokevirtual 195, 3), (1453, .if_icmp .eq 233, 3), (1456, .iconst 0, 1), (1457, .ireturn, 1), (1458, .aload_n 1, 1), (1459, .invokevirtual 196, 3), (1462, .aload_n 2, 1), (1463, .invokevirtual 199, 3), (1466, .if_icmp .eq 220, 3), (1469, .iconst 0, 1), (1470, .ireturn, 1), (1471, .aload_n 1, 1)]
theorem mc_cdx_22 : mc_cdw_22.all (fun q => decide (decode code q.1 = .ok q.2)) = true := by decide +kernel
def mc_cdw_23 : List (Nat × Instr × Nat) := [(1472, .aload_n 0, 1), (1473, .iload 4, 2), (1475, .iconst 1, 1), (1476, .iadd, 1), (1477, .iaload, 1), (1478, .aload_n 0, 1), (1479, .iload 4, 2), (1481, .iconst 2, 1), (1482, .iadd, 1), (1483, .iaload, 1), (1484, .invokevirtual 200, 3), (1487, .aload_n 2, 1), (1488, .aload_n 0, 1), (1489, .iload 4, 2), (1491, .iconst 1, 1), (1492, .iadd, 1), (1493, .iaload, 1), (1494, .aload_n 0, 1), (1495, .iload 4, 2), (1497, .iconst 2, 1), (1498, .iadd, 1), (1499, .iaload, 1), (1500, .invokevirtual 203, 3), (1503, .if_icmp .eq 183, 3), (1506, .iconst 0, 1), (1507, .ireturn, 1), (1508, .aload_n 1, 1), (1509, .invokevirtual 204, 3), (1512, .aload_n 2, 1), (1513, .invokevirtual 208, 3), (1516, .if_icmp .eq 170, 3), (1519, .iconst 0, 1), (1520, .ireturn, 1), (1521, .aload_n 1, 1), (1522, .invokevirtual 209, 3), (1525, .aload_n 2, 1), (1526, .invokevirtual 212, 3), (1529, .lcmp, 1), (1530, .ifCond .eq 156, 3), (1533, .iconst 0, 1), (1534, .ireturn, 1), (1535, .aload_n 1, 1)]
theorem mc_cdx_23 : mc_cdw_23.all (fun q => decide (decode code q.1 = .ok q.2)) = true := by decide +kernel
def mc_cdw_24 : List (Nat × Instr × Nat) := [(1536, .aload_n 0, 1), (1537, .iload 4, 2), (1539, .iconst 1, 1), (1540, .iadd, 1), (1541, .iaload, 1), (1542, .i2l, 1), (1543, .bipush 32, 2), (1545, .lshl, 1), (1546, .aload_n 0, 1), (1547, .iload 4, 2), (1549, .iconst 2, 1), (1550, .iadd, 1), (1551, .iaload, 1), (1552, .i2l, 1), (1553, .ldc2_w 213, 3), (1556, .land, 1), (1557, .lor, 1), (1558, .invokevirtual 215, 3), (1561, .aload_n 2, 1), (1562, .aload_n 0, 1), (1563, .iload 4, 2), (1565, .iconst 1, 1), (1566, .iadd, 1), (1567, .iaload, 1), (1568, .i2l, 1), (1569, .bipush 32, 2), (1571, .lshl, 1), (1572, .aload_n 0, 1), (1573, .iload 4, 2), (1575, .iconst 2, 1), (1576, .iadd, 1), (1577, .iaload, 1), (1578, .i2l, 1), (1579, .ldc2_w 213, 3), (1582, .land, 1), (1583, .lor, 1), (1584, .invokevirtual 219, 3), (1587, .if_icmp .eq 99, 3), (1590, .iconst 0, 1), (1591, .ireturn, 1), (1592, .aload_n 1, 1), (1593, .aload_n 0, 1), (1594, .iload 4, 2), (1596, .iconst 1, 1), (1597, .iadd, 1), (1598, .iaload, 1), (1599, .aload_n 3, 1)]
theorem mc_cdx_24 : mc_cdw_24.all (fun q => decide (decode code q.1 = .ok q.2)) = true := by decide +kernel
def mc_cdw_25 : List (Nat × Instr × Nat) := [(1600, .invokestatic 220, 3), (1603, .istore 5, 2), (1605, .aload_n 2, 1), (1606, .aload_n 0, 1), (1607, .iload 4, 2), (1609, .iconst 1, 1), (1610, .iadd, 1), (1611, .iaload, 1), (1612, .invokevirtual 225, 3), (1615, .istore 6, 2), (1617, .aload_n 2, 1), (1618, .invokevirtual 226, 3), (1621, .iload 5, 2), (1623, .if_icmp .eq 5, 3), (1626, .iconst 0, 1), (1627, .ireturn, 1), (1628, .iload 5, 2), (1630, .ifCond .ne 15, 3), (1633, .aload_n 3, 1), (1634, .iconst 0, 1), (1635, .laload, 1), (1636, .iload 6, 2), (1638, .i2l, 1), (1639, .lcmp, 1), (1640, .ifCond .eq 5, 3), (1643, .iconst 0, 1), (1644, .ireturn, 1), (1645, .goto 41, 3), (1648, .aload_n 1, 1), (1649, .aload_n 0, 1), (1650, .iload 4, 2), (1652, .iconst 1, 1), (1653, .iadd, 1), (1654, .iaload, 1), (1655, .invokevirtual 229, 3), (1658, .aload_n 2, 1), (1659, .aload_n 0, 1), (1660, .iload 4, 2), (1662, .iconst 1, 1), (1663, .iadd, 1)]
theorem mc_cdx_25 : mc_cdw_25.all (fun q => decide (decode code q.1 = .ok q.2)) = true := by decide +kernel
def mc_cdw_26 : List (Nat × Instr × Nat) := [(1664, .iaload, 1), (1665, .invokevirtual 232, 3), (1668, .if_icmp .eq 18, 3), (1671, .iconst 0, 1), (1672, .ireturn, 1), (1673, .aload_n 1, 1), (1674, .invokevirtual 233, 3), (1677, .aload_n 2, 1), (1678, .invokevirtual 236, 3), (1681, .if_icmp .eq 5, 3), (1684, .iconst 0, 1), (1685, .ireturn, 1), (1686, .iinc 4 6, 3), (1689, .goto (-1666), 3), (1692, .iconst 1, 1), (1693, .ireturn, 1)]
theorem mc_cdx_26 : mc_cdw_26.all (fun q => decide (decode code q.1 = .ok q.2)) = true := by decide +kernel
def mc_cdw : List (List (Nat × Instr × Nat)) := [mc_cdw_0, mc_cdw_1, mc_cdw_2, mc_cdw_3, mc_cdw_4, mc_cdw_5, mc_cdw_6, mc_cdw_7, mc_cdw_8, mc_cdw_9, mc_cdw_10, mc_cdw_11, mc_cdw_12, mc_cdw_13, mc_cdw_14, mc_cdw_15, mc_cdw_16, mc_cdw_17, mc_cdw_18, mc_cdw_19, mc_cdw_20, mc_cdw_21, mc_cdw_22, mc_cdw_23, mc_cdw_24, mc_cdw_25, mc_cdw_26]
theorem mc_cdx : ∀ l ∈ mc_cdw, l.all (fun q => decide (decode code q.1 = .ok q.2)) = true := List.forall_mem_cons.mpr ⟨mc_cdx_0, List.forall_mem_cons.mpr ⟨mc_cdx_1, List.forall_mem_cons.mpr ⟨mc_cdx_2, List.forall_mem_cons.mpr ⟨mc_cdx_3, List.forall_mem_cons.mpr ⟨mc_cdx_4, List.forall_mem_cons.mpr ⟨mc_cdx_5, List.forall_mem_cons.mpr ⟨mc_cdx_6, List.forall_mem_cons.mpr ⟨mc_cdx_7, List.forall_mem_cons.mpr ⟨mc_cdx_8, List.forall_mem_cons.mpr ⟨mc_cdx_9, List.forall_mem_cons.mpr ⟨mc_cdx_10, List.forall_mem_cons.mpr ⟨mc_cdx_11, List.forall_mem_cons.mpr ⟨mc_cdx_12, List.forall_mem_cons.mpr ⟨mc_cdx_13, List.forall_mem_cons.mpr ⟨mc_cdx_14, List.forall_mem_cons.mpr ⟨mc_cdx_15, List.forall_mem_cons.mpr ⟨mc_cdx_16, List.forall_mem_cons.mpr ⟨mc_cdx_17, List.forall_mem_cons.mpr ⟨mc_cdx_18, List.forall_mem_cons.mpr ⟨mc_cdx_19, List.forall_mem_cons.mpr ⟨mc_cdx_20, List.forall_mem_cons.mpr ⟨mc_cdx_21, List.forall_mem_cons.mpr ⟨mc_cdx_22, List.forall_mem_cons.mpr ⟨mc_cdx_23, List.forall_mem_cons.mpr ⟨mc_cdx_24, List.forall_mem_cons.mpr ⟨mc_cdx_25, List.forall_mem_cons.mpr ⟨mc_cdx_26, fun _ h => absurd h List.not_mem_nil⟩⟩⟩⟩⟩⟩⟩⟩⟩⟩⟩⟩⟩⟩⟩⟩⟩⟩⟩⟩⟩⟩⟩⟩⟩⟩⟩
def mc_lawcd (pc : Nat) : Option (Instr × Nat) := match mc_cdw[pc / 64]? with
  | some l => mc_find l pc
  | none => none
theorem mc_lawcd_ok {pc : Nat} {x : Instr × Nat} (h : mc_lawcd pc = some x) : decode code pc = .ok x := by
  unfold mc_lawcd at h
  split at h
  · next l hl =>
    have h1 := List.all_eq_true.mp (mc_cdx l (List.mem_of_getElem? hl)) _ (mc_find_mem h)
    exact of_decide_eq_true h1
  · cases h
end
section
/-! the methods' instructions, each as decode reads it (own work, wip/gen/codes.py) -/
def mc_cdb_0 : List (List (Nat × Instr × Nat)) := [mc_cdl_0, mc_cdl_1, mc_cdl_2, mc_cdl_3, mc_cdl_4, mc_cdl_5, mc_cdl_6, mc_cdl_7, mc_cdl_8, mc_cdl_9, mc_cdl_10, mc_cdl_11, mc_cdl_12, mc_cdl_13, mc_cdl_14, mc_cdl_15, mc_cdl_16, mc_cdl_17, mc_cdl_18, mc_cdl_19, mc_cdl_20, mc_cdl_21, mc_cdl_22, mc_cdl_23, mc_cdl_24, mc_cdl_25, mc_cdl_26, mc_cdl_27, mc_cdl_28, mc_cdl_29, mc_cdl_30, mc_cdl_31]
theorem mc_cdz_0 : ∀ z ∈ mc_mt_0.zip mc_cdb_0, z.2.all (fun q => decide (decode z.1.2.2.1 q.1 = .ok q.2)) = true := List.forall_mem_cons.mpr ⟨mc_cdk_0, List.forall_mem_cons.mpr ⟨mc_cdk_1, List.forall_mem_cons.mpr ⟨mc_cdk_2, List.forall_mem_cons.mpr ⟨mc_cdk_3, List.forall_mem_cons.mpr ⟨mc_cdk_4, List.forall_mem_cons.mpr ⟨mc_cdk_5, List.forall_mem_cons.mpr ⟨mc_cdk_6, List.forall_mem_cons.mpr ⟨mc_cdk_7, List.forall_mem_cons.mpr ⟨mc_cdk_8, List.forall_mem_cons.mpr ⟨mc_cdk_9, List.forall_mem_cons.mpr ⟨mc_cdk_10, List.forall_mem_cons.mpr ⟨mc_cdk_11, List.forall_mem_cons.mpr ⟨mc_cdk_12, List.forall_mem_cons.mpr ⟨mc_cdk_13, List.forall_mem_cons.mpr ⟨mc_cdk_14, List.forall_mem_cons.mpr ⟨mc_cdk_15, List.forall_mem_cons.mpr ⟨mc_cdk_16, List.forall_mem_cons.mpr ⟨mc_cdk_17, List.forall_mem_cons.mpr ⟨mc_cdk_18, List.forall_mem_cons.mpr ⟨mc_cdk_19, List.forall_mem_cons.mpr ⟨mc_cdk_20, List.forall_mem_cons.mpr ⟨mc_cdk_21, List.forall_mem_cons.mpr ⟨mc_cdk_22, List.forall_mem_cons.mpr ⟨mc_cdk_23, List.forall_mem_cons.mpr ⟨mc_cdk_24, List.forall_mem_cons.mpr ⟨mc_cdk_25, List.forall_mem_cons.mpr ⟨mc_cdk_26, List.forall_mem_cons.mpr ⟨mc_cdk_27, List.forall_mem_cons.mpr ⟨mc_cdk_28, List.forall_mem_cons.mpr ⟨mc_cdk_29, List.forall_mem_cons.mpr ⟨mc_cdk_30, List.forall_mem_cons.mpr ⟨mc_cdk_31, fun _ h => absurd h List.not_mem_nil⟩⟩⟩⟩⟩⟩⟩⟩⟩⟩⟩⟩⟩⟩⟩⟩⟩⟩⟩⟩⟩⟩⟩⟩⟩⟩⟩⟩⟩⟩⟩⟩
def mc_cdb_1 : List (List (Nat × Instr × Nat)) := [mc_cdl_32, mc_cdl_33, mc_cdl_34, mc_cdl_35, mc_cdl_36, mc_cdl_37, mc_cdl_38, mc_cdl_39, mc_cdl_40, mc_cdl_41, mc_cdl_42, mc_cdl_43, mc_cdl_44, mc_cdl_45, mc_cdl_46, mc_cdl_47, mc_cdl_48, mc_cdl_49, mc_cdl_50, mc_cdl_51, mc_cdl_52, mc_cdl_53, mc_cdl_54, mc_cdl_55, mc_cdl_56, mc_cdl_57, mc_cdl_58, mc_cdl_59, mc_cdl_60, mc_cdl_61, mc_cdl_62, mc_cdl_63]
theorem mc_cdz_1 : ∀ z ∈ mc_mt_1.zip mc_cdb_1, z.2.all (fun q => decide (decode z.1.2.2.1 q.1 = .ok q.2)) = true := List.forall_mem_cons.mpr ⟨mc_cdk_32, List.forall_mem_cons.mpr ⟨mc_cdk_33, List.forall_mem_cons.mpr ⟨mc_cdk_34, List.forall_mem_cons.mpr ⟨mc_cdk_35, List.forall_mem_cons.mpr ⟨mc_cdk_36, List.forall_mem_cons.mpr ⟨mc_cdk_37, List.forall_mem_cons.mpr ⟨mc_cdk_38, List.forall_mem_cons.mpr ⟨mc_cdk_39, List.forall_mem_cons.mpr ⟨mc_cdk_40, List.forall_mem_cons.mpr ⟨mc_cdk_41, List.forall_mem_cons.mpr ⟨mc_cdk_42, List.forall_mem_cons.mpr ⟨mc_cdk_43, List.forall_mem_cons.mpr ⟨mc_cdk_44, List.forall_mem_cons.mpr ⟨mc_cdk_45, List.forall_mem_cons.mpr ⟨mc_cdk_46, List.forall_mem_cons.mpr ⟨mc_cdk_47, List.forall_mem_cons.mpr ⟨mc_cdk_48, List.forall_mem_cons.mpr ⟨mc_cdk_49, List.forall_mem_cons.mpr ⟨mc_cdk_50, List.forall_mem_cons.mpr ⟨mc_cdk_51, List.forall_mem_cons.mpr ⟨mc_cdk_52, List.forall_mem_cons.mpr ⟨mc_cdk_53, List.forall_mem_cons.mpr ⟨mc_cdk_54, List.forall_mem_cons.mpr ⟨mc_cdk_55, List.forall_mem_cons.mpr ⟨mc_cdk_56, List.forall_mem_cons.mpr ⟨mc_cdk_57, List.forall_mem_cons.mpr ⟨mc_cdk_58, List.forall_mem_cons.mpr ⟨mc_cdk_59, List.forall_mem_cons.mpr ⟨mc_cdk_60, List.forall_mem_cons.mpr ⟨mc_cdk_61, List.forall_mem_cons.mpr ⟨mc_cdk_62, List.forall_mem_cons.mpr ⟨mc_cdk_63, fun _ h => absurd h List.not_mem_nil⟩⟩⟩⟩⟩⟩⟩⟩⟩⟩⟩⟩⟩⟩⟩⟩⟩⟩⟩⟩⟩⟩⟩⟩⟩⟩⟩⟩⟩⟩⟩⟩
def mc_cdb_2 : List (List (Nat × Instr × Nat)) := [mc_cdl_64, mc_cdl_65, mc_cdl_66, mc_cdl_67, mc_cdl_68, mc_cdl_69, mc_cdl_70, mc_cdl_71, mc_cdl_72, mc_cdl_73, mc_cdl_74, mc_cdl_75, mc_cdl_76, mc_cdl_77, mc_cdl_78, mc_cdl_79, mc_cdl_80, mc_cdl_81, mc_cdl_82, mc_cdl_83, mc_cdl_84, mc_cdl_85, mc_cdl_86, mc_cdl_87, mc_cdl_88, mc_cdl_89, mc_cdl_90, mc_cdl_91, mc_cdl_92, mc_cdl_93, mc_cdl_94, mc_cdl_95]
theorem mc_cdz_2 : ∀ z ∈ mc_mt_2.zip mc_cdb_2, z.2.all (fun q => decide (decode z.1.2.2.1 q.1 = .ok q.2)) = true := List.forall_mem_cons.mpr ⟨mc_cdk_64, List.forall_mem_cons.mpr ⟨mc_cdk_65, List.forall_mem_cons.mpr ⟨mc_cdk_66, List.forall_mem_cons.mpr ⟨mc_cdk_67, List.forall_mem_cons.mpr ⟨mc_cdk_68, List.forall_mem_cons.mpr ⟨mc_cdk_69, List.forall_mem_cons.mpr ⟨mc_cdk_70, List.forall_mem_cons.mpr ⟨mc_cdk_71, List.forall_mem_cons.mpr ⟨mc_cdk_72, List.forall_mem_cons.mpr ⟨mc_cdk_73, List.forall_mem_cons.mpr ⟨mc_cdk_74, List.forall_mem_cons.mpr ⟨mc_cdk_75, List.forall_mem_cons.mpr ⟨mc_cdk_76, List.forall_mem_cons.mpr ⟨mc_cdk_77, List.forall_mem_cons.mpr ⟨mc_cdk_78, List.forall_mem_cons.mpr ⟨mc_cdk_79, List.forall_mem_cons.mpr ⟨mc_cdk_80, List.forall_mem_cons.mpr ⟨mc_cdk_81, List.forall_mem_cons.mpr ⟨mc_cdk_82, List.forall_mem_cons.mpr ⟨mc_cdk_83, List.forall_mem_cons.mpr ⟨mc_cdk_84, List.forall_mem_cons.mpr ⟨mc_cdk_85, List.forall_mem_cons.mpr ⟨mc_cdk_86, List.forall_mem_cons.mpr ⟨mc_cdk_87, List.forall_mem_cons.mpr ⟨mc_cdk_88, List.forall_mem_cons.mpr ⟨mc_cdk_89, List.forall_mem_cons.mpr ⟨mc_cdk_90, List.forall_mem_cons.mpr ⟨mc_cdk_91, List.forall_mem_cons.mpr ⟨mc_cdk_92, List.forall_mem_cons.mpr ⟨mc_cdk_93, List.forall_mem_cons.mpr ⟨mc_cdk_94, List.forall_mem_cons.mpr ⟨mc_cdk_95, fun _ h => absurd h List.not_mem_nil⟩⟩⟩⟩⟩⟩⟩⟩⟩⟩⟩⟩⟩⟩⟩⟩⟩⟩⟩⟩⟩⟩⟩⟩⟩⟩⟩⟩⟩⟩⟩⟩
def mc_cdb_3 : List (List (Nat × Instr × Nat)) := [mc_cdl_96, mc_cdl_97, mc_cdl_98, mc_cdl_99, mc_cdl_100, mc_cdl_101, mc_cdl_102, mc_cdl_103, mc_cdl_104, mc_cdl_105, mc_cdl_106, mc_cdl_107, mc_cdl_108, mc_cdl_109, mc_cdl_110, mc_cdl_111, mc_cdl_112, mc_cdl_113, mc_cdl_114, mc_cdl_115, mc_cdl_116, mc_cdl_117, mc_cdl_118, mc_cdl_119, mc_cdl_120, mc_cdl_121, mc_cdl_122, mc_cdl_123, mc_cdl_124, mc_cdl_125, mc_cdl_126, mc_cdl_127]
theorem mc_cdz_3 : ∀ z ∈ mc_mt_3.zip mc_cdb_3, z.2.all (fun q => decide (decode z.1.2.2.1 q.1 = .ok q.2)) = true := List.forall_mem_cons.mpr ⟨mc_cdk_96, List.forall_mem_cons.mpr ⟨mc_cdk_97, List.forall_mem_cons.mpr ⟨mc_cdk_98, List.forall_mem_cons.mpr ⟨mc_cdk_99, List.forall_mem_cons.mpr ⟨mc_cdk_100, List.forall_mem_cons.mpr ⟨mc_cdk_101, List.forall_mem_cons.mpr ⟨mc_cdk_102, List.forall_mem_cons.mpr ⟨mc_cdk_103, List.forall_mem_cons.mpr ⟨mc_cdk_104, List.forall_mem_cons.mpr ⟨mc_cdk_105, List.forall_mem_cons.mpr ⟨mc_cdk_106, List.forall_mem_cons.mpr ⟨mc_cdk_107, List.forall_mem_cons.mpr ⟨mc_cdk_108, List.forall_mem_cons.mpr ⟨mc_cdk_109, List.forall_mem_cons.mpr ⟨mc_cdk_110, List.forall_mem_cons.mpr ⟨mc_cdk_111, List.forall_mem_cons.mpr ⟨mc_cdk_112, List.forall_mem_cons.mpr ⟨mc_cdk_113, List.forall_mem_cons.mpr ⟨mc_cdk_114, List.forall_mem_cons.mpr ⟨mc_cdk_115, List.forall_mem_cons.mpr ⟨mc_cdk_116, List.forall_mem_cons.mpr ⟨mc_cdk_117, List.forall_mem_cons.mpr ⟨mc_cdk_118, List.forall_mem_cons.mpr ⟨mc_cdk_119, List.forall_mem_cons.mpr ⟨mc_cdk_120, List.forall_mem_cons.mpr ⟨mc_cdk_121, List.forall_mem_cons.mpr ⟨mc_cdk_122, List.forall_mem_cons.mpr ⟨mc_cdk_123, List.forall_mem_cons.mpr ⟨mc_cdk_124, List.forall_mem_cons.mpr ⟨mc_cdk_125, List.forall_mem_cons.mpr ⟨mc_cdk_126, List.forall_mem_cons.mpr ⟨mc_cdk_127, fun _ h => absurd h List.not_mem_nil⟩⟩⟩⟩⟩⟩⟩⟩⟩⟩⟩⟩⟩⟩⟩⟩⟩⟩⟩⟩⟩⟩⟩⟩⟩⟩⟩⟩⟩⟩⟩⟩
def mc_cdb_4 : List (List (Nat × Instr × Nat)) := [mc_cdl_128, mc_cdl_129, mc_cdl_130, mc_cdl_131, mc_cdl_132, mc_cdl_133, mc_cdl_134, mc_cdl_135, mc_cdl_136, mc_cdl_137, mc_cdl_138, mc_cdl_139, mc_cdl_140, mc_cdl_141, mc_cdl_142, mc_cdl_143, mc_cdl_144, mc_cdl_145, mc_cdl_146, mc_cdl_147, mc_cdl_148, mc_cdl_149, mc_cdl_150, mc_cdl_151, mc_cdl_152, mc_cdl_153, mc_cdl_154, mc_cdl_155, mc_cdl_156, mc_cdl_157, mc_cdl_158, mc_cdl_159]
theorem mc_cdz_4 : ∀ z ∈ mc_mt_4.zip mc_cdb_4, z.2.all (fun q => decide (decode z.1.2.2.1 q.1 = .ok q.2)) = true := List.forall_mem_cons.mpr ⟨mc_cdk_128, List.forall_mem_cons.mpr ⟨mc_cdk_129, List.forall_mem_cons.mpr ⟨mc_cdk_130, List.forall_mem_cons.mpr ⟨mc_cdk_131, List.forall_mem_cons.mpr ⟨mc_cdk_132, List.forall_mem_cons.mpr ⟨mc_cdk_133, List.forall_mem_cons.mpr ⟨mc_cdk_134, List.forall_mem_cons.mpr ⟨mc_cdk_135, List.forall_mem_cons.mpr ⟨mc_cdk_136, List.forall_mem_cons.mpr ⟨mc_cdk_137, List.forall_mem_cons.mpr ⟨mc_cdk_138, List.forall_mem_cons.mpr ⟨mc_cdk_139, List.forall_mem_cons.mpr ⟨mc_cdk_140, List.forall_mem_cons.mpr ⟨mc_cdk_141, List.forall_mem_cons.mpr ⟨mc_cdk_142, List.forall_mem_cons.mpr ⟨mc_cdk_143, List.forall_mem_cons.mpr ⟨mc_cdk_144, List.forall_mem_cons.mpr ⟨mc_cdk_145, List.forall_mem_cons.mpr ⟨mc_cdk_146, List.forall_mem_cons.mpr ⟨mc_cdk_147, List.forall_mem_cons.mpr ⟨mc_cdk_148, List.forall_mem_cons.mpr ⟨mc_cdk_149, List.forall_mem_cons.mpr ⟨mc_cdk_150, List.forall_mem_cons.mpr ⟨mc_cdk_151, List.forall_mem_cons.mpr ⟨mc_cdk_152, List.forall_mem_cons.mpr ⟨mc_cdk_153, List.forall_mem_cons.mpr ⟨mc_cdk_154, List.forall_mem_cons.mpr ⟨mc_cdk_155, List.forall_mem_cons.mpr ⟨mc_cdk_156, List.forall_mem_cons.mpr ⟨mc_cdk_157, List.forall_mem_cons.mpr ⟨mc_cdk_158, List.forall_mem_cons.mpr ⟨mc_cdk_159, fun _ h => absurd h List.not_mem_nil⟩⟩⟩⟩⟩⟩⟩⟩⟩⟩⟩⟩⟩⟩⟩⟩⟩⟩⟩⟩⟩⟩⟩⟩⟩⟩⟩⟩⟩⟩⟩⟩
def mc_cdb_5 : List (List (Nat × Instr × Nat)) := [mc_cdl_160, mc_cdl_161, mc_cdl_162, mc_cdl_163, mc_cdl_164, mc_cdl_165, mc_cdl_166, mc_cdl_167, mc_cdl_168, mc_cdl_169, mc_cdl_170, mc_cdl_171, mc_cdl_172, mc_cdl_173, mc_cdl_174, mc_cdl_175, mc_cdl_176, mc_cdl_177, mc_cdl_178, mc_cdl_179, mc_cdl_180, mc_cdl_181, mc_cdl_182, mc_cdl_183, mc_cdl_184, mc_cdl_185, mc_cdl_186, mc_cdl_187, mc_cdl_188, mc_cdl_189, mc_cdl_190, mc_cdl_191]
theorem mc_cdz_5 : ∀ z ∈ mc_mt_5.zip mc_cdb_5, z.2.all (fun q => decide (decode z.1.2.2.1 q.1 = .ok q.2)) = true := List.forall_mem_cons.mpr ⟨mc_cdk_160, List.forall_mem_cons.mpr ⟨mc_cdk_161, List.forall_mem_cons.mpr ⟨mc_cdk_162, List.forall_mem_cons.mpr ⟨mc_cdk_163, List.forall_mem_cons.mpr ⟨mc_cdk_164, List.forall_mem_cons.mpr ⟨mc_cdk_165, List.forall_mem_cons.mpr ⟨mc_cdk_166, List.forall_mem_cons.mpr ⟨mc_cdk_167, List.forall_mem_cons.mpr ⟨mc_cdk_168, List.forall_mem_cons.mpr ⟨mc_cdk_169, List.forall_mem_cons.mpr ⟨mc_cdk_170, List.forall_mem_cons.mpr ⟨mc_cdk_171, List.forall_mem_cons.mpr ⟨mc_cdk_172, List.forall_mem_cons.mpr ⟨mc_cdk_173, List.forall_mem_cons.mpr ⟨mc_cdk_174, List.forall_mem_cons.mpr ⟨mc_cdk_175, List.forall_mem_cons.mpr ⟨mc_cdk_176, List.forall_mem_cons.mpr ⟨mc_cdk_177, List.forall_mem_cons.mpr ⟨mc_cdk_178, List.forall_mem_cons.mpr ⟨mc_cdk_179, List.forall_mem_cons.mpr ⟨mc_cdk_180, List.forall_mem_cons.mpr ⟨mc_cdk_181, List.forall_mem_cons.mpr ⟨mc_cdk_182, List.forall_mem_cons.mpr ⟨mc_cdk_183, List.forall_mem_cons.mpr ⟨mc_cdk_184, List.forall_mem_cons.mpr ⟨mc_cdk_185, List.forall_mem_cons.mpr ⟨mc_cdk_186, List.forall_mem_cons.mpr ⟨mc_cdk_187, List.forall_mem_cons.mpr ⟨mc_cdk_188, List.forall_mem_cons.mpr ⟨mc_cdk_189, List.forall_mem_cons.mpr ⟨mc_cdk_190, List.forall_mem_cons.mpr ⟨mc_cdk_191, fun _ h => absurd h List.not_mem_nil⟩⟩⟩⟩⟩⟩⟩⟩⟩⟩⟩⟩⟩⟩⟩⟩⟩⟩⟩⟩⟩⟩⟩⟩⟩⟩⟩⟩⟩⟩⟩⟩
def mc_cdb_6 : List (List (Nat × Instr × Nat)) := [mc_cdl_192, mc_cdl_193, mc_cdl_194, mc_cdl_195, mc_cdl_196, mc_cdl_197, mc_cdl_198, mc_cdl_199, mc_cdl_200, mc_cdl_201, mc_cdl_202, mc_cdl_203, mc_cdl_204, mc_cdl_205, mc_cdl_206, mc_cdl_207, mc_cdl_208, mc_cdl_209, mc_cdl_210, mc_cdl_211, mc_cdl_212, mc_cdl_213, mc_cdl_214, mc_cdl_215, mc_cdl_216, mc_cdl_217, mc_cdl_218, mc_cdl_219, mc_cdl_220, mc_cdl_221, mc_cdl_222, mc_cdl_223]
theorem mc_cdz_6 : ∀ z ∈ mc_mt_6.zip mc_cdb_6, z.2.all (fun q => decide (decode z.1.2.2.1 q.1 = .ok q.2)) = true := List.forall_mem_cons.mpr ⟨mc_cdk_192, List.forall_mem_cons.mpr ⟨mc_cdk_193, List.forall_mem_cons.mpr ⟨mc_cdk_194, List.forall_mem_cons.mpr ⟨mc_cdk_195, List.forall_mem_cons.mpr ⟨mc_cdk_196, List.forall_mem_cons.mpr ⟨mc_cdk_197, List.forall_mem_cons.mpr ⟨mc_cdk_198, List.forall_mem_cons.mpr ⟨mc_cdk_199, List.forall_mem_cons.mpr ⟨mc_cdk_200, List.forall_mem_cons.mpr ⟨mc_cdk_201, List.forall_mem_cons.mpr ⟨mc_cdk_202, List.forall_mem_cons.mpr ⟨mc_cdk_203, List.forall_mem_cons.mpr ⟨mc_cdk_204, List.forall_mem_cons.mpr ⟨mc_cdk_205, List.forall_mem_cons.mpr ⟨mc_cdk_206, List.forall_mem_cons.mpr ⟨mc_cdk_207, List.forall_mem_cons.mpr ⟨mc_cdk_208, List.forall_mem_cons.mpr ⟨mc_cdk_209, List.forall_mem_cons.mpr ⟨mc_cdk_210, List.forall_mem_cons.mpr ⟨mc_cdk_211, List.forall_mem_cons.mpr ⟨mc_cdk_212, List.forall_mem_cons.mpr ⟨mc_cdk_213, List.forall_mem_cons.mpr ⟨mc_cdk_214, List.forall_mem_cons.mpr ⟨mc_cdk_215, List.forall_mem_cons.mpr ⟨mc_cdk_216, List.forall_mem_cons.mpr ⟨mc_cdk_217, List.forall_mem_cons.mpr ⟨mc_cdk_218, List.forall_mem_cons.mpr ⟨mc_cdk_219, List.forall_mem_cons.mpr ⟨mc_cdk_220, List.forall_mem_cons.mpr ⟨mc_cdk_221, List.forall_mem_cons.mpr ⟨mc_cdk_222, List.forall_mem_cons.mpr ⟨mc_cdk_223, fun _ h => absurd h List.not_mem_nil⟩⟩⟩⟩⟩⟩⟩⟩⟩⟩⟩⟩⟩⟩⟩⟩⟩⟩⟩⟩⟩⟩⟩⟩⟩⟩⟩⟩⟩⟩⟩⟩
def mc_cdb_7 : List (List (Nat × Instr × Nat)) := [mc_cdl_224, mc_cdl_225, mc_cdl_226, mc_cdl_227, mc_cdl_228, mc_cdl_229, mc_cdl_230, mc_cdl_231, mc_cdl_232, mc_cdl_233, mc_cdl_234, mc_cdl_235, mc_cdl_236, mc_cdl_237, mc_cdl_238, mc_cdl_239, mc_cdl_240, mc_cdl_241, mc_cdl_242, mc_cdl_243, mc_cdl_244, mc_cdl_245, mc_cdl_246, mc_cdl_247, mc_cdl_248, mc_cdl_249, mc_cdl_250, mc_cdl_251, mc_cdl_252, mc_cdl_253, mc_cdl_254, mc_cdl_255]
theorem mc_cdz_7 : ∀ z ∈ mc_mt_7.zip mc_cdb_7, z.2.all (fun q => decide (decode z.1.2.2.1 q.1 = .ok q.2)) = true := List.forall_mem_cons.mpr ⟨mc_cdk_224, List.forall_mem_cons.mpr ⟨mc_cdk_225, List.forall_mem_cons.mpr ⟨mc_cdk_226, List.forall_mem_cons.mpr ⟨mc_cdk_227, List.forall_mem_cons.mpr ⟨mc_cdk_228, List.forall_mem_cons.mpr ⟨mc_cdk_229, List.forall_mem_cons.mpr ⟨mc_cdk_230, List.forall_mem_cons.mpr ⟨mc_cdk_231, List.forall_mem_cons.mpr ⟨mc_cdk_232, List.forall_mem_cons.mpr ⟨mc_cdk_233, List.forall_mem_cons.mpr ⟨mc_cdk_234, List.forall_mem_cons.mpr ⟨mc_cdk_235, List.forall_mem_cons.mpr ⟨mc_cdk_236, List.forall_mem_cons.mpr ⟨mc_cdk_237, List.forall_mem_cons.mpr ⟨mc_cdk_238, List.forall_mem_cons.mpr ⟨mc_cdk_239, List.forall_mem_cons.mpr ⟨mc_cdk_240, List.forall_mem_cons.mpr ⟨mc_cdk_241, List.forall_mem_cons.mpr ⟨mc_cdk_242, List.forall_mem_cons.mpr ⟨mc_cdk_243, List.forall_mem_cons.mpr ⟨mc_cdk_244, List.forall_mem_cons.mpr ⟨mc_cdk_245, List.forall_mem_cons.mpr ⟨mc_cdk_246, List.forall_mem_cons.mpr ⟨mc_cdk_247, List.forall_mem_cons.mpr ⟨mc_cdk_248, List.forall_mem_cons.mpr ⟨mc_cdk_249, List.forall_mem_cons.mpr ⟨mc_cdk_250, List.forall_mem_cons.mpr ⟨mc_cdk_251, List.forall_mem_cons.mpr ⟨mc_cdk_252, List.forall_mem_cons.mpr ⟨mc_cdk_253, List.forall_mem_cons.mpr ⟨mc_cdk_254, List.forall_mem_cons.mpr ⟨mc_cdk_255, fun _ h => absurd h List.not_mem_nil⟩⟩⟩⟩⟩⟩⟩⟩⟩⟩⟩⟩⟩⟩⟩⟩⟩⟩⟩⟩⟩⟩⟩⟩⟩⟩⟩⟩⟩⟩⟩⟩
def mc_cdb_8 : List (List (Nat × Instr × Nat)) := [mc_cdl_256, mc_cdl_257, mc_cdl_258, mc_cdl_259, mc_cdl_260, mc_cdl_261, mc_cdl_262, mc_cdl_263, mc_cdl_264, mc_cdl_265, mc_cdl_266, mc_cdl_267, mc_cdl_268, mc_cdl_269, mc_cdl_270, mc_cdl_271, mc_cdl_272, mc_cdl_273, mc_cdl_274, mc_cdl_275, mc_cdl_276, mc_cdl_277, mc_cdl_278, mc_cdl_279, mc_cdl_280, mc_cdl_281, mc_cdl_282, mc_cdl_283, mc_cdl_284, mc_cdl_285, mc_cdl_286, mc_cdl_287]
theorem mc_cdz_8 : ∀ z ∈ mc_mt_8.zip mc_cdb_8, z.2.all (fun q => decide (decode z.1.2.2.1 q.1 = .ok q.2)) = true := List.forall_mem_cons.mpr ⟨mc_cdk_256, List.forall_mem_cons.mpr ⟨mc_cdk_257, List.forall_mem_cons.mpr ⟨mc_cdk_258, List.forall_mem_cons.mpr ⟨mc_cdk_259, List.forall_mem_cons.mpr ⟨mc_cdk_260, List.forall_mem_cons.mpr ⟨mc_cdk_261, List.forall_mem_cons.mpr ⟨mc_cdk_262, List.forall_mem_cons.mpr ⟨mc_cdk_263, List.forall_mem_cons.mpr ⟨mc_cdk_264, List.forall_mem_cons.mpr ⟨mc_cdk_265, List.forall_mem_cons.mpr ⟨mc_cdk_266, List.forall_mem_cons.mpr ⟨mc_cdk_267, List.forall_mem_cons.mpr ⟨mc_cdk_268, List.forall_mem_cons.mpr ⟨mc_cdk_269, List.forall_mem_cons.mpr ⟨mc_cdk_270, List.forall_mem_cons.mpr ⟨mc_cdk_271, List.forall_mem_cons.mpr ⟨mc_cdk_272, List.forall_mem_cons.mpr ⟨mc_cdk_273, List.forall_mem_cons.mpr ⟨mc_cdk_274, List.forall_mem_cons.mpr ⟨mc_cdk_275, List.forall_mem_cons.mpr ⟨mc_cdk_276, List.forall_mem_cons.mpr ⟨mc_cdk_277, List.forall_mem_cons.mpr ⟨mc_cdk_278, List.forall_mem_cons.mpr ⟨mc_cdk_279, List.forall_mem_cons.mpr ⟨mc_cdk_280, List.forall_mem_cons.mpr ⟨mc_cdk_281, List.forall_mem_cons.mpr ⟨mc_cdk_282, List.forall_mem_cons.mpr ⟨mc_cdk_283, List.forall_mem_cons.mpr ⟨mc_cdk_284, List.forall_mem_cons.mpr ⟨mc_cdk_285, List.forall_mem_cons.mpr ⟨mc_cdk_286, List.forall_mem_cons.mpr ⟨mc_cdk_287, fun _ h => absurd h List.not_mem_nil⟩⟩⟩⟩⟩⟩⟩⟩⟩⟩⟩⟩⟩⟩⟩⟩⟩⟩⟩⟩⟩⟩⟩⟩⟩⟩⟩⟩⟩⟩⟩⟩
def mc_cdb_9 : List (List (Nat × Instr × Nat)) := [mc_cdl_288, mc_cdl_289, mc_cdl_290, mc_cdl_291, mc_cdl_292, mc_cdl_293, mc_cdl_294, mc_cdl_295]
theorem mc_cdz_9 : ∀ z ∈ mc_mt_9.zip mc_cdb_9, z.2.all (fun q => decide (decode z.1.2.2.1 q.1 = .ok q.2)) = true := List.forall_mem_cons.mpr ⟨mc_cdk_288, List.forall_mem_cons.mpr ⟨mc_cdk_289, List.forall_mem_cons.mpr ⟨mc_cdk_290, List.forall_mem_cons.mpr ⟨mc_cdk_291, List.forall_mem_cons.mpr ⟨mc_cdk_292, List.forall_mem_cons.mpr ⟨mc_cdk_293, List.forall_mem_cons.mpr ⟨mc_cdk_294, List.forall_mem_cons.mpr ⟨mc_cdk_295, fun _ h => absurd h List.not_mem_nil⟩⟩⟩⟩⟩⟩⟩⟩
def mc_cdt (k : Nat) : Option (List (Nat × Instr × Nat)) := match k / 32 with
  | 0 => mc_cdb_0[k % 32]?
  | 1 => mc_cdb_1[k % 32]?
  | 2 => mc_cdb_2[k % 32]?
  | 3 => mc_cdb_3[k % 32]?
  | 4 => mc_cdb_4[k % 32]?
  | 5 => mc_cdb_5[k % 32]?
  | 6 => mc_cdb_6[k % 32]?
  | 7 => mc_cdb_7[k % 32]?
  | 8 => mc_cdb_8[k % 32]?
  | 9 => mc_cdb_9[k % 32]?
  | _ => none
def mc_cd (k pc : Nat) : Option (Instr × Nat) := match mc_cdt k with
  | some l => mc_find l pc
  | none => none
theorem mc_cd_of {mt : List (Nat × MethodName × ByteArray × Nat × Option FieldType × Nat × Nat)} {cb : List (List (Nat × Instr × Nat))} (h : ∀ z ∈ mt.zip cb, z.2.all (fun q => decide (decode z.1.2.2.1 q.1 = .ok q.2)) = true) {j pc : Nat} {q : Nat × MethodName × ByteArray × Nat × Option FieldType × Nat × Nat} {l : List (Nat × Instr × Nat)} {x : Instr × Nat} (hq : mt[j]? = some q) (hl : cb[j]? = some l) (hx : mc_find l pc = some x) : decode q.2.2.1 pc = .ok x := by
  have hz : (mt.zip cb)[j]? = some (q, l) := by rw [List.getElem?_zip_eq_some]; exact ⟨hq, hl⟩
  have h2 : (fun r : Nat × Instr × Nat => decide (decode q.2.2.1 r.1 = .ok r.2)) (pc, x) = true := List.all_eq_true.mp (h (q, l) (List.mem_of_getElem? hz)) (pc, x) (mc_find_mem hx)
  exact of_decide_eq_true h2
theorem mc_cd_ok {k pc : Nat} {q : Nat × MethodName × ByteArray × Nat × Option FieldType × Nat × Nat} {x : Instr × Nat} (hq : mc_mt k = some q) (h : mc_cd k pc = some x) : decode q.2.2.1 pc = .ok x := by
  unfold mc_cd at h
  split at h
  · next l hl =>
    unfold mc_mt at hq
    unfold mc_cdt at hl
    split at hq
    · next hb =>
      rw [hb] at hl
      exact mc_cd_of mc_cdz_0 hq hl h
    · next hb =>
      rw [hb] at hl
      exact mc_cd_of mc_cdz_1 hq hl h
    · next hb =>
      rw [hb] at hl
      exact mc_cd_of mc_cdz_2 hq hl h
    · next hb =>
      rw [hb] at hl
      exact mc_cd_of mc_cdz_3 hq hl h
    · next hb =>
      rw [hb] at hl
      exact mc_cd_of mc_cdz_4 hq hl h
    · next hb =>
      rw [hb] at hl
      exact mc_cd_of mc_cdz_5 hq hl h
    · next hb =>
      rw [hb] at hl
      exact mc_cd_of mc_cdz_6 hq hl h
    · next hb =>
      rw [hb] at hl
      exact mc_cd_of mc_cdz_7 hq hl h
    · next hb =>
      rw [hb] at hl
      exact mc_cd_of mc_cdz_8 hq hl h
    · next hb =>
      rw [hb] at hl
      exact mc_cd_of mc_cdz_9 hq hl h
    · cases hq
  · cases h
end
section
/-! THE MINI MACHINE WITH UNKNOWN NUMBERS (own work): a value is known, or an int between two bounds, or some long; every branch must be decided by the bounds -/
abbrev mc_V : Type := Value ⊕ Option (Int × Int)
def mc_g (v : mc_V) (x : Value) : Prop := match v with
  | .inl y => x = y
  | .inr none => ∃ z : Int64, x = .long z
  | .inr (some r) => ∃ z : Int32, x = .int z ∧ r.1 ≤ z.toInt ∧ z.toInt ≤ r.2
def mcA_R2 {α β : Type} (R : α → β → Prop) : List α → List β → Prop
  | [], [] => True
  | a :: as, b :: bs => R a b ∧ mcA_R2 R as bs
  | _, _ => False
section R2
variable {α β : Type} {R : α → β → Prop}
theorem mcA_R2.len : ∀ {as : List α} {bs : List β}, mcA_R2 R as bs → as.length = bs.length
  | [], [], _ => rfl
  | _ :: _, _ :: _, h => congrArg (· + 1) (mcA_R2.len h.2)
  | [], _ :: _, h => h.elim
  | _ :: _, [], h => h.elim
theorem mcA_R2.at : ∀ {as : List α} {bs : List β}, mcA_R2 R as bs → ∀ {k : Nat} {a : α}, as[k]? = some a → ∃ b, bs[k]? = some b ∧ R a b
  | [], _, _, k, a, h => by simp at h
  | x :: as, y :: bs, h, 0, a, hk => by
    simp at hk
    subst hk
    exact ⟨y, rfl, h.1⟩
  | x :: as, y :: bs, h, k + 1, a, hk => by
    simp at hk
    obtain ⟨b, h1, h2⟩ := mcA_R2.at h.2 hk
    exact ⟨b, by simpa using h1, h2⟩
  | _ :: _, [], h, _, _, _ => h.elim
theorem mcA_R2.take : ∀ {as : List α} {bs : List β} (n : Nat), mcA_R2 R as bs → mcA_R2 R (as.take n) (bs.take n)
  | [], [], n, _ => by simp [mcA_R2]
  | x :: as, y :: bs, 0, _ => trivial
  | x :: as, y :: bs, n + 1, h => ⟨h.1, mcA_R2.take n h.2⟩
  | [], _ :: _, _, h => h.elim
  | _ :: _, [], _, h => h.elim
theorem mcA_R2.drop : ∀ {as : List α} {bs : List β} (n : Nat), mcA_R2 R as bs → mcA_R2 R (as.drop n) (bs.drop n)
  | [], [], n, _ => by simp [mcA_R2]
  | x :: as, y :: bs, 0, h => h
  | x :: as, y :: bs, n + 1, h => mcA_R2.drop n h.2
  | [], _ :: _, _, h => h.elim
  | _ :: _, [], _, h => h.elim
theorem mcA_R2.app : ∀ {as : List α} {bs : List β} {as' : List α} {bs' : List β}, mcA_R2 R as bs → mcA_R2 R as' bs' → mcA_R2 R (as ++ as') (bs ++ bs')
  | [], [], _, _, _, h => h
  | x :: as, y :: bs, _, _, h, h' => ⟨h.1, mcA_R2.app h.2 h'⟩
  | [], _ :: _, _, _, h, _ => h.elim
  | _ :: _, [], _, _, h, _ => h.elim
theorem mcA_R2.rev : ∀ {as : List α} {bs : List β}, mcA_R2 R as bs → mcA_R2 R as.reverse bs.reverse
  | [], [], _ => trivial
  | x :: as, y :: bs, h => by
    rw [List.reverse_cons, List.reverse_cons]
    exact mcA_R2.app (mcA_R2.rev h.2) ⟨h.1, trivial⟩
  | [], _ :: _, h => h.elim
  | _ :: _, [], h => h.elim
theorem mcA_R2.set : ∀ {as : List α} {bs : List β}, mcA_R2 R as bs → ∀ {a : α} {b : β}, R a b → ∀ k : Nat, mcA_R2 R (as.set k a) (bs.set k b)
  | [], [], _, _, _, _, k => by simp [mcA_R2]
  | x :: as, y :: bs, h, a, b, hab, 0 => ⟨hab, h.2⟩
  | x :: as, y :: bs, h, a, b, hab, k + 1 => ⟨h.1, mcA_R2.set h.2 hab k⟩
  | [], _ :: _, h, _, _, _, _ => h.elim
  | _ :: _, [], h, _, _, _, _ => h.elim
theorem mcA_R2.filt {p : α → Bool} {q : β → Bool} (hpq : ∀ a b, R a b → p a = q b) : ∀ {as : List α} {bs : List β}, mcA_R2 R as bs → mcA_R2 R (as.filter p) (bs.filter q)
  | [], [], _ => trivial
  | x :: as, y :: bs, h => by
    rw [List.filter_cons, List.filter_cons, hpq x y h.1]
    split
    · exact ⟨h.1, mcA_R2.filt hpq h.2⟩
    · exact mcA_R2.filt hpq h.2
  | [], _ :: _, h => h.elim
  | _ :: _, [], h => h.elim
theorem mcA_R2.same {f : α → Nat} {g : β → Nat} (hfg : ∀ a b, R a b → f a = g b) : ∀ {as : List α} {bs : List β}, mcA_R2 R as bs → (as.map f).sum = (bs.map g).sum
  | [], [], _ => rfl
  | x :: as, y :: bs, h => by
    rw [List.map_cons, List.map_cons, List.sum_cons, List.sum_cons, hfg x y h.1, mcA_R2.same hfg h.2]
  | [], _ :: _, h => h.elim
  | _ :: _, [], h => h.elim
theorem mcA_R2.nil {bs : List β} (h : mcA_R2 R [] bs) : bs = [] := by
  cases bs with
  | nil => rfl
  | cons => exact h.elim
theorem mcA_R2.cons {a : α} {as : List α} {bs : List β} (h : mcA_R2 R (a :: as) bs) : ∃ b bs', bs = b :: bs' ∧ R a b ∧ mcA_R2 R as bs' := by
  cases bs with
  | nil => exact h.elim
  | cons b bs => exact ⟨b, bs, rfl, h.1, h.2⟩
end R2
abbrev mcA_E : Type := (Nat × Nat × (Nat → mc_V)) ⊕ (Nat × List mc_V)
abbrev mcA_M : Type := List mcA_E
abbrev mcA_S : Type := Nat × List (Nat × mc_V) × List mc_V × mcA_M
abbrev mcA_R : Type := Option mc_V × mcA_M
abbrev mcA_O : Type := Option (mcA_S ⊕ mcA_R)
def mcA_gE (a : mcA_E) (b : mc_E) : Prop := match a, b with
  | .inl x, .inl y => x.1 = y.1 ∧ x.2.1 = y.2.1 ∧ ∀ j, mc_g (x.2.2 j) (y.2.2 j)
  | .inr x, .inr y => x.1 = y.1 ∧ mcA_R2 mc_g x.2 y.2
  | _, _ => False
def mcA_gL (a : Nat × mc_V) (b : Nat × Value) : Prop := a.1 = b.1 ∧ mc_g a.2 b.2
def mcA_gS (a : mcA_S) (b : mc_S) : Prop := a.1 = b.1 ∧ mcA_R2 mcA_gL a.2.1 b.2.1 ∧ mcA_R2 mc_g a.2.2.1 b.2.2.1 ∧ mcA_R2 mcA_gE a.2.2.2 b.2.2.2
def mcA_gO (a : Option mc_V) (b : Option Value) : Prop := match a, b with
  | none, none => True
  | some x, some y => mc_g x y
  | _, _ => False
def mcA_gR (a : mcA_R) (b : mc_R) : Prop := mcA_gO a.1 b.1 ∧ mcA_R2 mcA_gE a.2 b.2
def mcA_gX (a : mcA_S ⊕ mcA_R) (b : mc_S ⊕ mc_R) : Prop := match a, b with
  | .inl x, .inl y => mcA_gS x y
  | .inr x, .inr y => mcA_gR x y
  | _, _ => False
def mcA_cat (v : mc_V) : Nat := match v with
  | .inl x => x.category
  | .inr none => 2
  | .inr (some _) => 1
theorem mcA_cat_ok {v : mc_V} {x : Value} (h : mc_g v x) : mcA_cat v = x.category := by
  match v, h with
  | .inl y, h => cases (show x = y from h); rfl
  | .inr none, ⟨z, hz⟩ => subst hz; rfl
  | .inr (some r), ⟨z, hz, _⟩ => subst hz; rfl
def mcA_isI (v : mc_V) : Bool := match v with
  | .inl x => mc_isI x
  | .inr none => false
  | .inr (some _) => true
def mcA_isL (v : mc_V) : Bool := match v with
  | .inl x => mc_isL x
  | .inr none => true
  | .inr (some _) => false
def mcA_isA (v : mc_V) : Bool := match v with
  | .inl x => mc_isA x
  | _ => false
theorem mcA_isI_ok {v : mc_V} {x : Value} (h : mc_g v x) (hv : mcA_isI v = true) : mc_isI x = true := by
  match v, h with
  | .inl y, h => cases (show x = y from h); exact hv
  | .inr none, _ => cases hv
  | .inr (some r), ⟨z, hz, _⟩ => subst hz; rfl
theorem mcA_isL_ok {v : mc_V} {x : Value} (h : mc_g v x) (hv : mcA_isL v = true) : mc_isL x = true := by
  match v, h with
  | .inl y, h => cases (show x = y from h); exact hv
  | .inr none, ⟨z, hz⟩ => subst hz; rfl
  | .inr (some r), _ => cases hv
theorem mcA_isA_ok {v : mc_V} {x : Value} (h : mc_g v x) (hv : mcA_isA v = true) : mc_isA x = true := by
  match v, h with
  | .inl y, h => cases (show x = y from h); exact hv
  | .inr none, _ => cases hv
  | .inr (some r), _ => cases hv
/-- the bounds of an int -/
def mcA_rng (v : mc_V) : Option (Int × Int) := match v with
  | .inl (.int z) => some (z.toInt, z.toInt)
  | .inr (some r) => some r
  | _ => none
theorem mcA_rng_ok {v : mc_V} {x : Value} (h : mc_g v x) {r : Int × Int} (hr : mcA_rng v = some r) : ∃ z : Int32, x = .int z ∧ r.1 ≤ z.toInt ∧ z.toInt ≤ r.2 := by
  match v, h with
  | .inl (.int z), h =>
    cases (show x = .int z from h)
    cases hr
    exact ⟨z, rfl, Int.le_refl _, Int.le_refl _⟩
  | .inl (.long z), _ => cases hr
  | .inl (.float z), _ => cases hr
  | .inl (.double z), _ => cases hr
  | .inl .null, _ => cases hr
  | .inl (.ref z), _ => cases hr
  | .inl (.retAddr z), _ => cases hr
  | .inr none, _ => cases hr
  | .inr (some r'), h =>
    cases hr
    exact h
def mcA_top : mc_V := .inr (some (-2147483648, 2147483647))
theorem mcA_top_ok (z : Int32) : mc_g mcA_top (.int z) := ⟨z, rfl, Int32.le_toInt z, Int32.toInt_le z⟩
/-- a comparison that the bounds decide -/
def mcA_lt (x y : Int × Int) : Option Bool := if x.2 < y.1 then some true else if y.2 ≤ x.1 then some false else none
def mcA_eq (x y : Int × Int) : Option Bool := if x.1 = x.2 ∧ y.1 = y.2 ∧ x.1 = y.1 then some true else if x.2 < y.1 ∨ y.2 < x.1 then some false else none
theorem mcA_lt_ok {x y : Int × Int} {a b : Int32} {c : Bool} (ha : x.1 ≤ a.toInt ∧ a.toInt ≤ x.2) (hb : y.1 ≤ b.toInt ∧ b.toInt ≤ y.2) (h : mcA_lt x y = some c) : decide (a < b) = c := by
  unfold mcA_lt at h
  split at h
  · cases h
    exact decide_eq_true (Int32.lt_iff_toInt_lt.mpr (by omega))
  · split at h
    · cases h
      exact decide_eq_false (fun z => by have := Int32.lt_iff_toInt_lt.mp z; omega)
    · cases h
theorem mcA_eq_ok {x y : Int × Int} {a b : Int32} {c : Bool} (ha : x.1 ≤ a.toInt ∧ a.toInt ≤ x.2) (hb : y.1 ≤ b.toInt ∧ b.toInt ≤ y.2) (h : mcA_eq x y = some c) : decide (a = b) = c := by
  unfold mcA_eq at h
  split at h
  · cases h
    exact decide_eq_true (Int32.toInt_inj.mp (by omega))
  · split at h
    · cases h
      exact decide_eq_false (fun z => by subst z; omega)
    · cases h
def mcA_not (c : Option Bool) : Option Bool := c.map (fun b => !b)
def mcA_c2 (cd : ClassFile.Cond) (x y : Int × Int) : Option Bool := match cd with
  | .eq => mcA_eq x y
  | .ne => mcA_not (mcA_eq x y)
  | .lt => mcA_lt x y
  | .ge => mcA_not (mcA_lt x y)
  | .gt => mcA_lt y x
  | .le => mcA_not (mcA_lt y x)
def mc_f2 (cd : ClassFile.Cond) (x y : Int32) : Bool := match cd with
  | .eq => decide (x = y)
  | .ne => decide (¬ x = y)
  | .lt => decide (x < y)
  | .ge => decide (y ≤ x)
  | .gt => decide (y < x)
  | .le => decide (x ≤ y)
theorem mcA_c2_ok {cd : ClassFile.Cond} {x y : Int × Int} {a b : Int32} {c : Bool} (ha : x.1 ≤ a.toInt ∧ a.toInt ≤ x.2) (hb : y.1 ≤ b.toInt ∧ b.toInt ≤ y.2) (h : mcA_c2 cd x y = some c) : mc_f2 cd a b = c := by
  have hle : ∀ p q : Int32, decide (p ≤ q) = !decide (q < p) := fun p q => by
    by_cases hq : q < p
    · rw [decide_eq_true hq, decide_eq_false (fun z => by have h1 := Int32.lt_iff_toInt_lt.mp hq; have h2 := Int32.le_iff_toInt_le.mp z; omega)]
      rfl
    · rw [decide_eq_false hq, decide_eq_true (Int32.le_iff_toInt_le.mpr (by have h1 : ¬ q.toInt < p.toInt := fun z => hq (Int32.lt_iff_toInt_lt.mpr z); omega))]
      rfl
  cases cd with
  | eq => exact mcA_eq_ok ha hb h
  | ne =>
    simp only [mcA_c2, mcA_not, Option.map_eq_some_iff] at h
    obtain ⟨c', h1, rfl⟩ := h
    have := mcA_eq_ok ha hb h1
    rw [← this]
    show decide (¬ a = b) = !decide (a = b)
    rw [decide_not]
  | lt => exact mcA_lt_ok ha hb h
  | ge =>
    simp only [mcA_c2, mcA_not, Option.map_eq_some_iff] at h
    obtain ⟨c', h1, rfl⟩ := h
    have := mcA_lt_ok ha hb h1
    rw [← this]
    exact hle b a
  | gt => exact mcA_lt_ok hb ha h
  | le =>
    simp only [mcA_c2, mcA_not, Option.map_eq_some_iff] at h
    obtain ⟨c', h1, rfl⟩ := h
    have := mcA_lt_ok hb ha h1
    rw [← this]
    exact hle a b
theorem mcA_find : ∀ {LA : List (Nat × mc_V)} {L : List (Nat × Value)}, mcA_R2 mcA_gL LA L → ∀ {i : Nat} {v : mc_V}, mc_find LA i = some v → ∃ x, mc_find L i = some x ∧ mc_g v x
  | [], _, _, _, _, h => by cases h
  | a :: LA, b :: L, hR, i, v, h => by
    unfold mc_find at h ⊢
    rw [← hR.1.1]
    split at h
    · next e =>
      cases h
      rw [if_pos e]
      exact ⟨_, rfl, hR.1.2⟩
    · next e =>
      rw [if_neg e]
      exact mcA_find hR.2 h
  | _ :: _, [], hR, _, _, _ => hR.elim
def mcA_s1 (L : List (Nat × mc_V)) (i : Nat) (v : mc_V) : List (Nat × mc_V) := (i, v) :: L.filter (fun q => !(q.1 == i) && !(q.1 + 1 == i && mcA_cat q.2 == 2))
def mcA_s2 (L : List (Nat × mc_V)) (i : Nat) (v : mc_V) : List (Nat × mc_V) := (i, v) :: L.filter (fun q => !(q.1 == i) && (!(q.1 == i + 1) && !(q.1 + 1 == i && mcA_cat q.2 == 2)))
theorem mcA_s1_ok {LA : List (Nat × mc_V)} {L : List (Nat × Value)} (h : mcA_R2 mcA_gL LA L) (i : Nat) {v : mc_V} {x : Value} (hv : mc_g v x) : mcA_R2 mcA_gL (mcA_s1 LA i v) (mc_s1 L i x) :=
  ⟨⟨rfl, hv⟩, h.filt (fun a b hab => by rw [hab.1, mcA_cat_ok hab.2])⟩
theorem mcA_s2_ok {LA : List (Nat × mc_V)} {L : List (Nat × Value)} (h : mcA_R2 mcA_gL LA L) (i : Nat) {v : mc_V} {x : Value} (hv : mc_g v x) : mcA_R2 mcA_gL (mcA_s2 LA i v) (mc_s2 L i x) :=
  ⟨⟨rfl, hv⟩, h.filt (fun a b hab => by rw [hab.1, mcA_cat_ok hab.2])⟩
def mcA_args : Nat → List mc_V → List (Nat × mc_V)
  | _, [] => []
  | i, v :: vs => (i, v) :: mcA_args (if mcA_cat v = 2 then i + 2 else i + 1) vs
theorem mcA_args_ok : ∀ {vs : List mc_V} {xs : List Value}, mcA_R2 mc_g vs xs → ∀ i : Nat, mcA_R2 mcA_gL (mcA_args i vs) (lv_args i xs)
  | [], [], _, _ => trivial
  | v :: vs, x :: xs, h, i => by
    unfold mcA_args lv_args
    rw [mcA_cat_ok h.1]
    exact ⟨⟨rfl, h.1⟩, mcA_args_ok h.2 _⟩
  | [], _ :: _, h, _ => h.elim
  | _ :: _, [], h, _ => h.elim
theorem mc_sl_sum : ∀ xs : List Value, (lg_sl xs).length = (xs.map Value.category).sum
  | [] => rfl
  | x :: xs => by
    have h := mc_sl_sum xs
    simp only [lg_sl, List.flatMap_cons, List.length_append, List.map_cons, List.sum_cons] at h ⊢
    rw [h]
    congr 1
    rcases lv_cat x with hx | hx <;> rw [hx] <;> simp
theorem mcA_at {MA : mcA_M} {M : mc_M} (h : mcA_R2 mcA_gE MA M) {k : Nat} {q : Nat × List mc_V} (hk : MA[k]? = some (.inr q)) : ∃ z : Nat × List Value, M[k]? = some (.inr z) ∧ q.1 = z.1 ∧ mcA_R2 mc_g q.2 z.2 := by
  obtain ⟨b, h1, h2⟩ := h.at hk
  match b, h2 with
  | .inr z, h2 => exact ⟨z, h1, h2⟩
  | .inl z, h2 => exact h2.elim
theorem mcA_atA {MA : mcA_M} {M : mc_M} (h : mcA_R2 mcA_gE MA M) {k : Nat} {q : Nat × Nat × (Nat → mc_V)} (hk : MA[k]? = some (.inl q)) : ∃ z : Nat × Nat × (Nat → Value), M[k]? = some (.inl z) ∧ q.1 = z.1 ∧ q.2.1 = z.2.1 ∧ ∀ j, mc_g (q.2.2 j) (z.2.2 j) := by
  obtain ⟨b, h1, h2⟩ := h.at hk
  match b, h2 with
  | .inl z, h2 => exact ⟨z, h1, h2⟩
  | .inr z, h2 => exact h2.elim
end
section
/-! the mini machine's parts with unknown numbers (own work) -/
def mcA_go (pc : Nat) (L : List (Nat × mc_V)) (st : List mc_V) (M : mcA_M) : mcA_O := some (.inl (pc, L, st, M))
def mcA_n (b : Bool) (o : mcA_O) : mcA_O := match b with
  | true => o
  | false => none
theorem mcA_n_t {b : Bool} {o : mcA_O} {x : mcA_S ⊕ mcA_R} (h : mcA_n b o = some x) : b = true ∧ o = some x := by
  unfold mcA_n at h
  split at h
  · exact ⟨rfl, h⟩
  · cases h
def mcA_jp (pc : Nat) (off : Int) (L : List (Nat × mc_V)) (st : List mc_V) (M : mcA_M) : mcA_O := if 0 ≤ (pc : Int) + off then mcA_go ((pc : Int) + off).toNat L st M else none
def mcA_br (b : Bool) (pc : Nat) (off : Int) (L : List (Nat × mc_V)) (st : List mc_V) (M : mcA_M) : mcA_O := if 0 ≤ (pc : Int) + off then (match b with
  | true => mcA_go ((pc : Int) + off).toNat L st M
  | false => mcA_go (pc + 3) L st M) else none
def mcA_ce (kA : Nat → Option mcA_E) (M : mcA_M) (a : Nat) : Option mcA_E := if a < 256 then kA a else M[a - 256]?
def mcA_ld (ok : mc_V → Bool) (i d pc : Nat) (L : List (Nat × mc_V)) (st : List mc_V) (M : mcA_M) : mcA_O := match mc_find L i with
  | some v => mcA_n (ok v) (mcA_go (pc + d) L (v :: st) M)
  | none => none
def mcA_sv (ok : mc_V → Bool) (nL i d pc : Nat) (L : List (Nat × mc_V)) (st : List mc_V) (M : mcA_M) : mcA_O := match st with
  | v :: r => mcA_n (ok v && decide (i < nL)) (mcA_go (pc + d) (mcA_s1 L i v) r M)
  | [] => none
def mcA_svL (nL i d pc : Nat) (L : List (Nat × mc_V)) (st : List mc_V) (M : mcA_M) : mcA_O := match st with
  | v :: r => mcA_n (mcA_isL v && decide (i + 1 < nL)) (mcA_go (pc + d) (mcA_s2 L i v) r M)
  | [] => none
def mcA_inc (nL i : Nat) (k : Int) (pc : Nat) (L : List (Nat × mc_V)) (st : List mc_V) (M : mcA_M) : mcA_O := match mc_find L i with
  | some (.inl (.int x)) => mcA_n (decide (i < nL)) (mcA_go (pc + 3) (mcA_s1 L i (.inl (.int (x + Int32.ofInt k)))) st M)
  | _ => none
/-- a total operation on two ints -/
def mcA_ii2 (f : Int32 → Int32 → Int32) (pc : Nat) (L : List (Nat × mc_V)) (st : List mc_V) (M : mcA_M) : mcA_O := match st with
  | .inl (.int y) :: .inl (.int x) :: r => mcA_go (pc + 1) L (.inl (.int (f x y)) :: r) M
  | v :: w :: r => mcA_n (mcA_isI v && mcA_isI w) (mcA_go (pc + 1) L (mcA_top :: r) M)
  | _ => none
def mcA_ie2 (f : Int32 → Int32 → Option Int32) (pc : Nat) (L : List (Nat × mc_V)) (st : List mc_V) (M : mcA_M) : mcA_O := match st with
  | .inl (.int y) :: .inl (.int x) :: r => match f x y with
    | some z => mcA_go (pc + 1) L (.inl (.int z) :: r) M
    | none => none
  | _ => none
def mcA_ll2 (f : Int64 → Int64 → Int64) (pc : Nat) (L : List (Nat × mc_V)) (st : List mc_V) (M : mcA_M) : mcA_O := match st with
  | .inl (.long y) :: .inl (.long x) :: r => mcA_go (pc + 1) L (.inl (.long (f x y)) :: r) M
  | v :: w :: r => mcA_n (mcA_isL v && mcA_isL w) (mcA_go (pc + 1) L (.inr none :: r) M)
  | _ => none
def mcA_li2 (f : Int64 → Int32 → Int64) (pc : Nat) (L : List (Nat × mc_V)) (st : List mc_V) (M : mcA_M) : mcA_O := match st with
  | .inl (.int y) :: .inl (.long x) :: r => mcA_go (pc + 1) L (.inl (.long (f x y)) :: r) M
  | v :: w :: r => mcA_n (mcA_isI v && mcA_isL w) (mcA_go (pc + 1) L (.inr none :: r) M)
  | _ => none
def mcA_cmp (pc : Nat) (L : List (Nat × mc_V)) (st : List mc_V) (M : mcA_M) : mcA_O := match st with
  | .inl (.long y) :: .inl (.long x) :: r => mcA_go (pc + 1) L (.inl (.int (lg_cmp x y)) :: r) M
  | _ => none
def mcA_i1 (f : Int32 → Value) (t : mc_V) (pc : Nat) (L : List (Nat × mc_V)) (st : List mc_V) (M : mcA_M) : mcA_O := match st with
  | .inl (.int x) :: r => mcA_go (pc + 1) L (.inl (f x) :: r) M
  | v :: r => mcA_n (mcA_isI v) (mcA_go (pc + 1) L (t :: r) M)
  | _ => none
def mcA_l1 (f : Int64 → Value) (t : mc_V) (pc : Nat) (L : List (Nat × mc_V)) (st : List mc_V) (M : mcA_M) : mcA_O := match st with
  | .inl (.long x) :: r => mcA_go (pc + 1) L (.inl (f x) :: r) M
  | v :: r => mcA_n (mcA_isL v) (mcA_go (pc + 1) L (t :: r) M)
  | _ => none
def mcA_ic2 (cd : ClassFile.Cond) (pc : Nat) (off : Int) (L : List (Nat × mc_V)) (st : List mc_V) (M : mcA_M) : mcA_O := match st with
  | v :: w :: r => match mcA_rng w, mcA_rng v with
    | some x, some y => match mcA_c2 cd x y with
      | some b => mcA_br b pc off L r M
      | none => none
    | _, _ => none
  | _ => none
def mcA_ic1 (cd : ClassFile.Cond) (pc : Nat) (off : Int) (L : List (Nat × mc_V)) (st : List mc_V) (M : mcA_M) : mcA_O := match st with
  | w :: r => match mcA_rng w with
    | some x => match mcA_c2 cd x (0, 0) with
      | some b => mcA_br b pc off L r M
      | none => none
    | none => none
  | _ => none
def mcA_icn (f : Bool) (pc : Nat) (off : Int) (L : List (Nat × mc_V)) (st : List mc_V) (M : mcA_M) : mcA_O := match st with
  | .inl (.ref _) :: r => mcA_br (!f) pc off L r M
  | .inl .null :: r => mcA_br f pc off L r M
  | _ => none
def mcA_dup (pc : Nat) (L : List (Nat × mc_V)) (st : List mc_V) (M : mcA_M) : mcA_O := match st with
  | v :: r => mcA_n (mcA_cat v == 1) (mcA_go (pc + 1) L (v :: v :: r) M)
  | _ => none
def mcA_pop (pc : Nat) (L : List (Nat × mc_V)) (st : List mc_V) (M : mcA_M) : mcA_O := match st with
  | v :: r => mcA_n (mcA_cat v == 1) (mcA_go (pc + 1) L r M)
  | _ => none
def mcA_pop2 (pc : Nat) (L : List (Nat × mc_V)) (st : List mc_V) (M : mcA_M) : mcA_O := match st with
  | v :: r => mcA_n (mcA_cat v == 2) (mcA_go (pc + 1) L r M)
  | _ => none
def mcA_dup2 (pc : Nat) (L : List (Nat × mc_V)) (st : List mc_V) (M : mcA_M) : mcA_O := match st with
  | v :: w :: r => mcA_n (mcA_cat v == 1 && mcA_cat w == 1) (mcA_go (pc + 1) L (v :: w :: v :: w :: r) M)
  | _ => none
def mcA_getf (kA : Nat → Option mcA_E) (own idx pc : Nat) (L : List (Nat × mc_V)) (st : List mc_V) (M : mcA_M) : mcA_O := match st with
  | .inl (.ref a) :: r => match mc_find (mc_fl.getD own []) idx with
    | some e => match mcA_ce kA M a with
      | some (.inr q) => match q.2[e.2.1]? with
        | some v => mcA_n (q.1 == e.1 && (decide (a < 256) == decide (20 ≤ e.1)) && (decide (a < 256) || decide (e.2.1 < mc_N.getD e.1 0))) (mcA_go (pc + 3) L (v :: r) M)
        | none => none
      | _ => none
    | none => none
  | _ => none
def mcA_fit (ty : FieldType) (v : mc_V) : Bool := match v with
  | .inl x => mc_fit ty x
  | .inr none => decide (ty = .long)
  | .inr (some _) => decide (ty = .int)
def mcA_putf (own : Nat) (ini : Bool) (idx pc : Nat) (L : List (Nat × mc_V)) (st : List mc_V) (M : mcA_M) : mcA_O := match st with
  | v :: .inl (.ref a) :: r => match mc_find (mc_fl.getD own []) idx with
    | some e => match M[a - 256]? with
      | some (.inr q) => mcA_n (q.1 == e.1 && decide (256 ≤ a) && decide (e.1 < 11) && decide (e.2.1 < mc_N.getD e.1 0) && decide (e.2.1 < q.2.length) && mcA_fit (mc_t e.1 e.2.1) v && (!(mc_T e.1 e.2.1).2.2.2 || (ini && own == e.1 && !e.2.2.1))) (mcA_go (pc + 3) L r (M.set (a - 256) (.inr (q.1, q.2.set e.2.1 v))))
      | _ => none
    | none => none
  | _ => none
def mcA_ald (kA : Nat → Option mcA_E) (ok : Nat → Bool) (pc : Nat) (L : List (Nat × mc_V)) (st : List mc_V) (M : mcA_M) : mcA_O := match st with
  | .inl (.int i) :: .inl (.ref a) :: r => match mcA_ce kA M a with
    | some (.inl q) => mcA_n (ok q.1 && mc_in i q.2.1 && (decide (a < 256) || decide (q.1 < 7))) (mcA_go (pc + 1) L (q.2.2 i.toNatClampNeg :: r) M)
    | _ => none
  | _ => none
def mcA_up (f : Nat → mc_V) (k : Nat) (x : mc_V) : Nat → mc_V := fun j => if j = k then x else f j
/-- 'w': what is laid down of an unknown value -/
def mcA_ast (ok : Nat → Bool) (oki : mc_V → Bool) (w : Nat → Value → Value) (t : mc_V → mc_V) (pc : Nat) (L : List (Nat × mc_V)) (st : List mc_V) (M : mcA_M) : mcA_O := match st with
  | v :: .inl (.int i) :: .inl (.ref a) :: r => match M[a - 256]? with
    | some (.inl q) => mcA_n (decide (256 ≤ a) && ok q.1 && oki v && mc_in i q.2.1) (mcA_go (pc + 1) L r (M.set (a - 256) (.inl (q.1, q.2.1, mcA_up q.2.2 i.toNatClampNeg (match v with
      | .inl x => .inl (w q.1 x)
      | u => t u)))))
    | _ => none
  | _ => none
def mcA_len (kA : Nat → Option mcA_E) (pc : Nat) (L : List (Nat × mc_V)) (st : List mc_V) (M : mcA_M) : mcA_O := match st with
  | .inl (.ref a) :: r => match mcA_ce kA M a with
    | some (.inl q) => mcA_n (decide (a < 256) || decide (q.1 < 7)) (mcA_go (pc + 1) L (.inl (.int (Int32.ofNat q.2.1)) :: r) M)
    | _ => none
  | _ => none
def mcA_newa (a : ArrayType) (pc : Nat) (L : List (Nat × mc_V)) (st : List mc_V) (M : mcA_M) : mcA_O := match st with
  | .inl (.int n) :: r => match mc_tag a with
    | some t => mcA_n (decide (¬ n < 0) && decide (n.toNatClampNeg ≤ 100000)) (mcA_go (pc + 2) L (.inl (.ref (256 + M.length)) :: r) (M ++ [.inl (t, n.toNatClampNeg, fun _ => .inl (defaultValue (mc_ty t)))]))
    | none => none
  | _ => none
def mcA_new (own idx pc : Nat) (L : List (Nat × mc_V)) (st : List mc_V) (M : mcA_M) : mcA_O := match mc_find (mc_kl.getD own []) idx with
  | some e => mcA_n (decide (e.1 < 11)) (mcA_go (pc + 3) L (.inl (.ref (256 + M.length)) :: st) (M ++ [.inr (e.1, (List.range (mc_N.getD e.1 0)).map (fun k => .inl (defaultValue (mc_t e.1 k))))]))
  | none => none
def mcA_gs (own idx pc : Nat) (L : List (Nat × mc_V)) (st : List mc_V) (M : mcA_M) : mcA_O := match mc_find (mc_sl.getD own []) idx with
  | some e => match mc_st[e.1]? with
    | some q => mcA_go (pc + 3) L (.inl (.ref q.2.2.2) :: st) M
    | none => none
  | none => none
def mcA_ldc (own idx d pc : Nat) (L : List (Nat × mc_V)) (st : List mc_V) (M : mcA_M) : mcA_O := match mc_find (mc_cs.getD own []) idx with
  | some e => mcA_n (mc_isI e.1) (mcA_go (pc + d) L (.inl e.1 :: st) M)
  | none => match mc_sr.find? (fun q => q.1 == own && q.2.1 == idx) with
    | some q => mcA_go (pc + d) L (.inl (.ref q.2.2.2.1) :: st) M
    | none => none
def mcA_ldc2 (own idx pc : Nat) (L : List (Nat × mc_V)) (st : List mc_V) (M : mcA_M) : mcA_O := match mc_find (mc_cs.getD own []) idx with
  | some e => mcA_n (mc_isL e.1) (mcA_go (pc + 3) L (.inl e.1 :: st) M)
  | none => none
/-- a switch: a known number, or one above or below all -/
def mcA_tsw (dflt lo hi : Int) (offs : Array Int) (pc : Nat) (L : List (Nat × mc_V)) (st : List mc_V) (M : mcA_M) : mcA_O := match st with
  | .inl (.int x) :: r => if x.toInt < lo ∨ hi < x.toInt then mcA_jp pc dflt L r M else match offs[(x.toInt - lo).toNat]? with
    | some off => mcA_jp pc off L r M
    | none => none
  | .inr (some q) :: r => if q.2 < lo ∨ hi < q.1 then mcA_jp pc dflt L r M else none
  | _ => none
def mcA_rs (v : Option mc_V) : List mc_V := match v with
  | some x => [x]
  | none => []
def mcA_cal (call : Nat → List mc_V → mcA_M → Option mcA_R) (own sort idx pc : Nat) (L : List (Nat × mc_V)) (st : List mc_V) (M : mcA_M) : mcA_O := match mc_find (mc_ml.getD own []) idx with
  | some e => match mc_mt e.1 with
    | some q => match call e.1 ((st.take (if sort = 0 then q.2.2.2.2.2.1 else q.2.2.2.2.2.1 + 1)).reverse) M with
      | some w => mcA_n (q.2.2.2.2.2.2 == sort && decide (((st.drop (if sort = 0 then q.2.2.2.2.2.1 else q.2.2.2.2.2.1 + 1)).map mcA_cat).sum ≤ 8) && decide ((if sort = 0 then q.2.2.2.2.2.1 else q.2.2.2.2.2.1 + 1) ≤ st.length)
          && (sort == 0 || match st[q.2.2.2.2.2.1]? with
            | some (.inl (.ref b)) => decide (256 ≤ b) && match M[b - 256]? with
              | some (.inr z) => z.1 == q.1
              | _ => false
            | _ => false)) (mcA_go (pc + 3) L (mcA_rs w.1 ++ st.drop (if sort = 0 then q.2.2.2.2.2.1 else q.2.2.2.2.2.1 + 1)) w.2)
      | none => none
    | none => none
  | none => none
def mcA_obj (own idx pc : Nat) (L : List (Nat × mc_V)) (st : List mc_V) (M : mcA_M) : mcA_O := match st with
  | .inl (.ref _) :: r => match mc_find (mc_ol.getD own []) idx with
    | some _ => mcA_n (decide ((r.map mcA_cat).sum ≤ 8)) (mcA_go (pc + 3) L r M)
    | none => none
  | _ => none
def mcA_math (own idx pc : Nat) (L : List (Nat × mc_V)) (st : List mc_V) (M : mcA_M) : mcA_O := match mc_find (mc_jl.getD own []) idx with
  | some e => match e.1, st with
    | 0, .inl (.int y) :: .inl (.int x) :: r => mcA_n (decide ((r.map mcA_cat).sum ≤ 8)) (mcA_go (pc + 3) L (.inl (.int (if y < x then y else x)) :: r) M)
    | 1, .inl (.int y) :: .inl (.int x) :: r => mcA_n (decide ((r.map mcA_cat).sum ≤ 8)) (mcA_go (pc + 3) L (.inl (.int (if x < y then y else x)) :: r) M)
    | _, _ => none
  | none => none
def mcA_ret (ret : Option FieldType) (st : List mc_V) (M : mcA_M) : mcA_O := match ret, st with
  | some .int, [v] => mcA_n (mcA_isI v) (some (.inr (some v, M)))
  | some .boolean, [.inl (.int v)] => mcA_n (v == 0 || v == 1) (some (.inr (some (.inl (.int v)), M)))
  | _, _ => none
def mcA_retL (ret : Option FieldType) (st : List mc_V) (M : mcA_M) : mcA_O := match ret, st with
  | some .long, [v] => mcA_n (mcA_isL v) (some (.inr (some v, M)))
  | _, _ => none
def mcA_retA (ret : Option FieldType) (st : List mc_V) (M : mcA_M) : mcA_O := match ret, st with
  | some (.object _), [v] => mcA_n (mcA_isA v) (some (.inr (some v, M)))
  | some (.array _), [v] => mcA_n (mcA_isA v) (some (.inr (some v, M)))
  | _, _ => none
def mcA_retV (ret : Option FieldType) (st : List mc_V) (M : mcA_M) : mcA_O := match ret, st with
  | none, [] => some (.inr (none, M))
  | _, _ => none
section AK
variable {pc : Nat} {LA : List (Nat × mc_V)} {sA : List mc_V} {MA : mcA_M} {L : List (Nat × Value)} {st : List Value} {M : mc_M} {r : mcA_S ⊕ mcA_R} {kt : Nat → Option mc_E} {kA : Nat → Option mcA_E} {own : Nat} {off : Int}
theorem mcA_go_k {pc : Nat} {LA : List (Nat × mc_V)} {sA : List mc_V} {MA : mcA_M} {L : List (Nat × Value)} {st : List Value} {M : mc_M} (hL : mcA_R2 mcA_gL LA L) (hs : mcA_R2 mc_g sA st) (hM : mcA_R2 mcA_gE MA M) (h : mcA_go pc LA sA MA = some r) : ∃ r', mc_go pc L st M = some r' ∧ mcA_gX r r' := by
  unfold mcA_go at h
  cases h
  exact ⟨.inl (pc, L, st, M), rfl, rfl, hL, hs, hM⟩
theorem mc_n_i {b : Bool} {o : mc_O} (hb : b = true) : mc_n b o = o := by rw [hb]; rfl
theorem mcA_k_jp (hL : mcA_R2 mcA_gL LA L) (hs : mcA_R2 mc_g sA st) (hM : mcA_R2 mcA_gE MA M) (h : mcA_jp pc off LA sA MA = some r) : ∃ r', mc_jp pc off L st M = some r' ∧ mcA_gX r r' := by
  unfold mcA_jp at h
  unfold mc_jp
  split at h
  · next h0 => rw [if_pos h0]; exact mcA_go_k hL hs hM h
  · cases h
theorem mcA_k_br {b : Bool} (hL : mcA_R2 mcA_gL LA L) (hs : mcA_R2 mc_g sA st) (hM : mcA_R2 mcA_gE MA M) (h : mcA_br b pc off LA sA MA = some r) : ∃ r', mc_br b pc off L st M = some r' ∧ mcA_gX r r' := by
  unfold mcA_br at h
  unfold mc_br
  split at h
  · next h0 =>
    rw [if_pos h0]
    cases b
    · exact mcA_go_k hL hs hM h
    · exact mcA_go_k hL hs hM h
  · cases h
theorem mcA_k_ld {okA : mc_V → Bool} {ok : Value → Bool} (hok : ∀ v x, mc_g v x → okA v = true → ok x = true) {i d : Nat} (hL : mcA_R2 mcA_gL LA L) (hs : mcA_R2 mc_g sA st) (hM : mcA_R2 mcA_gE MA M) (h : mcA_ld okA i d pc LA sA MA = some r) : ∃ r', mc_ld ok i d pc L st M = some r' ∧ mcA_gX r r' := by
  unfold mcA_ld at h
  unfold mc_ld
  split at h
  · next v hv =>
    obtain ⟨hb, h⟩ := mcA_n_t h
    obtain ⟨x, h1, h2⟩ := mcA_find hL hv
    rw [h1]
    dsimp only
    rw [mc_n_i (hok v x h2 hb)]
    exact mcA_go_k hL (by exact ⟨h2, hs⟩) hM h
  · cases h
theorem mcA_k_sv {okA : mc_V → Bool} {ok : Value → Bool} (hok : ∀ v x, mc_g v x → okA v = true → ok x = true) {nL i d : Nat} (hL : mcA_R2 mcA_gL LA L) (hs : mcA_R2 mc_g sA st) (hM : mcA_R2 mcA_gE MA M) (h : mcA_sv okA nL i d pc LA sA MA = some r) : ∃ r', mc_sv ok nL i d pc L st M = some r' ∧ mcA_gX r r' := by
  unfold mcA_sv at h
  unfold mc_sv
  split at h
  · obtain ⟨hb, h⟩ := mcA_n_t h
    simp only [Bool.and_eq_true] at hb
    obtain ⟨x, st', rfl, h1, h2⟩ := hs.cons
    dsimp only
    rw [mc_n_i (by simp only [Bool.and_eq_true]; exact ⟨hok _ x h1 hb.1, hb.2⟩)]
    exact mcA_go_k (mcA_s1_ok hL i h1) h2 hM h
  · cases h
theorem mcA_k_svL {nL i d : Nat} (hL : mcA_R2 mcA_gL LA L) (hs : mcA_R2 mc_g sA st) (hM : mcA_R2 mcA_gE MA M) (h : mcA_svL nL i d pc LA sA MA = some r) : ∃ r', mc_svL nL i d pc L st M = some r' ∧ mcA_gX r r' := by
  unfold mcA_svL at h
  unfold mc_svL
  split at h
  · obtain ⟨hb, h⟩ := mcA_n_t h
    simp only [Bool.and_eq_true] at hb
    obtain ⟨x, st', rfl, h1, h2⟩ := hs.cons
    dsimp only
    rw [mc_n_i (by simp only [Bool.and_eq_true]; exact ⟨mcA_isL_ok h1 hb.1, hb.2⟩)]
    exact mcA_go_k (mcA_s2_ok hL i h1) h2 hM h
  · cases h
theorem mcA_k_inc {nL i : Nat} {k : Int} (hL : mcA_R2 mcA_gL LA L) (hs : mcA_R2 mc_g sA st) (hM : mcA_R2 mcA_gE MA M) (h : mcA_inc nL i k pc LA sA MA = some r) : ∃ r', mc_inc nL i k pc L st M = some r' ∧ mcA_gX r r' := by
  unfold mcA_inc at h
  unfold mc_inc
  split at h
  · next x hv =>
    obtain ⟨hb, h⟩ := mcA_n_t h
    obtain ⟨y, h1, h2⟩ := mcA_find hL hv
    cases (show y = .int x from h2)
    rw [h1]
    dsimp only
    rw [mc_n_i hb]
    exact mcA_go_k (by exact mcA_s1_ok hL i (x := .int (x + Int32.ofInt k)) (by exact rfl)) hs hM h
  · cases h
theorem mcA_isI_val {v : mc_V} {x : Value} (h : mc_g v x) (hv : mcA_isI v = true) : ∃ z : Int32, x = .int z := by
  have := mcA_isI_ok h hv
  cases x with
  | int z => exact ⟨z, rfl⟩
  | _ => cases this
theorem mcA_isL_val {v : mc_V} {x : Value} (h : mc_g v x) (hv : mcA_isL v = true) : ∃ z : Int64, x = .long z := by
  have := mcA_isL_ok h hv
  cases x with
  | long z => exact ⟨z, rfl⟩
  | _ => cases this
theorem mcA_k_ii2 {f : Int32 → Int32 → Int32} (hL : mcA_R2 mcA_gL LA L) (hs : mcA_R2 mc_g sA st) (hM : mcA_R2 mcA_gE MA M) (h : mcA_ii2 f pc LA sA MA = some r) : ∃ r', mc_ii2 (fun x y => some (f x y)) pc L st M = some r' ∧ mcA_gX r r' := by
  unfold mcA_ii2 at h
  split at h
  · next y x rA =>
    obtain ⟨a, s1, rfl, h1, tl1⟩ := hs.cons
    obtain ⟨b, s2, rfl, h2, tl2⟩ := tl1.cons
    cases (show a = .int y from h1)
    cases (show b = .int x from h2)
    exact mcA_go_k hL (by exact ⟨rfl, tl2⟩) hM h
  · obtain ⟨hb, h⟩ := mcA_n_t h
    simp only [Bool.and_eq_true] at hb
    obtain ⟨a, s1, rfl, h1, tl3⟩ := hs.cons
    obtain ⟨b, s2, rfl, h2, tl4⟩ := tl3.cons
    obtain ⟨y, rfl⟩ := mcA_isI_val h1 hb.1
    obtain ⟨x, rfl⟩ := mcA_isI_val h2 hb.2
    exact mcA_go_k hL (by exact ⟨mcA_top_ok (f x y), tl4⟩) hM h
  · cases h
theorem mcA_k_ie2 {f : Int32 → Int32 → Option Int32} (hL : mcA_R2 mcA_gL LA L) (hs : mcA_R2 mc_g sA st) (hM : mcA_R2 mcA_gE MA M) (h : mcA_ie2 f pc LA sA MA = some r) : ∃ r', mc_ii2 f pc L st M = some r' ∧ mcA_gX r r' := by
  unfold mcA_ie2 at h
  split at h
  · next y x rA =>
    split at h
    · next z hz =>
      obtain ⟨a, s1, rfl, h1, tl1⟩ := hs.cons
      obtain ⟨b, s2, rfl, h2, tl2⟩ := tl1.cons
      cases (show a = .int y from h1)
      cases (show b = .int x from h2)
      unfold mc_ii2
      dsimp only
      rw [hz]
      exact mcA_go_k hL (by exact ⟨rfl, tl2⟩) hM h
    · cases h
  · cases h
theorem mcA_k_ll2 {f : Int64 → Int64 → Int64} (hL : mcA_R2 mcA_gL LA L) (hs : mcA_R2 mc_g sA st) (hM : mcA_R2 mcA_gE MA M) (h : mcA_ll2 f pc LA sA MA = some r) : ∃ r', mc_ll2 (fun x y => some (f x y)) pc L st M = some r' ∧ mcA_gX r r' := by
  unfold mcA_ll2 at h
  split at h
  · next y x rA =>
    obtain ⟨a, s1, rfl, h1, tl1⟩ := hs.cons
    obtain ⟨b, s2, rfl, h2, tl2⟩ := tl1.cons
    cases (show a = .long y from h1)
    cases (show b = .long x from h2)
    exact mcA_go_k hL (by exact ⟨rfl, tl2⟩) hM h
  · obtain ⟨hb, h⟩ := mcA_n_t h
    simp only [Bool.and_eq_true] at hb
    obtain ⟨a, s1, rfl, h1, tl3⟩ := hs.cons
    obtain ⟨b, s2, rfl, h2, tl4⟩ := tl3.cons
    obtain ⟨y, rfl⟩ := mcA_isL_val h1 hb.1
    obtain ⟨x, rfl⟩ := mcA_isL_val h2 hb.2
    exact mcA_go_k hL (by exact ⟨⟨f x y, rfl⟩, tl4⟩) hM h
  · cases h
theorem mcA_k_li2 {f : Int64 → Int32 → Int64} (hL : mcA_R2 mcA_gL LA L) (hs : mcA_R2 mc_g sA st) (hM : mcA_R2 mcA_gE MA M) (h : mcA_li2 f pc LA sA MA = some r) : ∃ r', mc_li2 f pc L st M = some r' ∧ mcA_gX r r' := by
  unfold mcA_li2 at h
  split at h
  · next y x rA =>
    obtain ⟨a, s1, rfl, h1, tl1⟩ := hs.cons
    obtain ⟨b, s2, rfl, h2, tl2⟩ := tl1.cons
    cases (show a = .int y from h1)
    cases (show b = .long x from h2)
    exact mcA_go_k hL (by exact ⟨rfl, tl2⟩) hM h
  · obtain ⟨hb, h⟩ := mcA_n_t h
    simp only [Bool.and_eq_true] at hb
    obtain ⟨a, s1, rfl, h1, tl3⟩ := hs.cons
    obtain ⟨b, s2, rfl, h2, tl4⟩ := tl3.cons
    obtain ⟨y, rfl⟩ := mcA_isI_val h1 hb.1
    obtain ⟨x, rfl⟩ := mcA_isL_val h2 hb.2
    exact mcA_go_k hL (by exact ⟨⟨f x y, rfl⟩, tl4⟩) hM h
  · cases h
theorem mcA_k_cmp (hL : mcA_R2 mcA_gL LA L) (hs : mcA_R2 mc_g sA st) (hM : mcA_R2 mcA_gE MA M) (h : mcA_cmp pc LA sA MA = some r) : ∃ r', mc_cmp pc L st M = some r' ∧ mcA_gX r r' := by
  unfold mcA_cmp at h
  split at h
  · next y x rA =>
    obtain ⟨a, s1, rfl, h1, tl1⟩ := hs.cons
    obtain ⟨b, s2, rfl, h2, tl2⟩ := tl1.cons
    cases (show a = .long y from h1)
    cases (show b = .long x from h2)
    exact mcA_go_k hL (by exact ⟨rfl, tl2⟩) hM h
  · cases h
theorem mcA_k_i1 {f : Int32 → Value} {t : mc_V} (ht : ∀ x, mc_g t (f x)) (hL : mcA_R2 mcA_gL LA L) (hs : mcA_R2 mc_g sA st) (hM : mcA_R2 mcA_gE MA M) (h : mcA_i1 f t pc LA sA MA = some r) : ∃ r', mc_i1 f pc L st M = some r' ∧ mcA_gX r r' := by
  unfold mcA_i1 at h
  split at h
  · next x rA =>
    obtain ⟨a, s1, rfl, h1, tl1⟩ := hs.cons
    cases (show a = .int x from h1)
    exact mcA_go_k hL (by exact ⟨rfl, tl1⟩) hM h
  · obtain ⟨hb, h⟩ := mcA_n_t h
    obtain ⟨a, s1, rfl, h1, tl2⟩ := hs.cons
    obtain ⟨x, rfl⟩ := mcA_isI_val h1 hb
    exact mcA_go_k hL (by exact ⟨ht x, tl2⟩) hM h
  · cases h
theorem mcA_k_l1 {f : Int64 → Value} {t : mc_V} (ht : ∀ x, mc_g t (f x)) (hL : mcA_R2 mcA_gL LA L) (hs : mcA_R2 mc_g sA st) (hM : mcA_R2 mcA_gE MA M) (h : mcA_l1 f t pc LA sA MA = some r) : ∃ r', mc_l1 f pc L st M = some r' ∧ mcA_gX r r' := by
  unfold mcA_l1 at h
  split at h
  · next x rA =>
    obtain ⟨a, s1, rfl, h1, tl1⟩ := hs.cons
    cases (show a = .long x from h1)
    exact mcA_go_k hL (by exact ⟨rfl, tl1⟩) hM h
  · obtain ⟨hb, h⟩ := mcA_n_t h
    obtain ⟨a, s1, rfl, h1, tl2⟩ := hs.cons
    obtain ⟨x, rfl⟩ := mcA_isL_val h1 hb
    exact mcA_go_k hL (by exact ⟨ht x, tl2⟩) hM h
  · cases h
theorem mcA_k_ic2 {cd : ClassFile.Cond} {f : Int32 → Int32 → Bool} (hf : ∀ x y, f x y = mc_f2 cd x y) (hL : mcA_R2 mcA_gL LA L) (hs : mcA_R2 mc_g sA st) (hM : mcA_R2 mcA_gE MA M) (h : mcA_ic2 cd pc off LA sA MA = some r) : ∃ r', mc_ic2 f pc off L st M = some r' ∧ mcA_gX r r' := by
  unfold mcA_ic2 at h
  split at h
  · split at h
    · next x y hx hy =>
      split at h
      · next b hb =>
        obtain ⟨p, s1, rfl, h1, tl1⟩ := hs.cons
        obtain ⟨q, s2, rfl, h2, tl2⟩ := tl1.cons
        obtain ⟨zy, rfl, by1⟩ := mcA_rng_ok h1 hy
        obtain ⟨zx, rfl, bx1⟩ := mcA_rng_ok h2 hx
        have hc := mcA_c2_ok bx1 by1 hb
        show ∃ r', mc_br (f zx zy) pc off L s2 M = some r' ∧ _
        rw [hf, hc]
        exact mcA_k_br hL tl2 hM h
      · cases h
    · cases h
  · cases h
theorem mcA_k_ic1 {cd : ClassFile.Cond} {f : Int32 → Bool} (hf : ∀ x, f x = mc_f2 cd x 0) (hL : mcA_R2 mcA_gL LA L) (hs : mcA_R2 mc_g sA st) (hM : mcA_R2 mcA_gE MA M) (h : mcA_ic1 cd pc off LA sA MA = some r) : ∃ r', mc_ic1 f pc off L st M = some r' ∧ mcA_gX r r' := by
  unfold mcA_ic1 at h
  split at h
  · split at h
    · next x hx =>
      split at h
      · next b hb =>
        obtain ⟨q, s2, rfl, h2, tl1⟩ := hs.cons
        obtain ⟨zx, rfl, bx1⟩ := mcA_rng_ok h2 hx
        have hc := mcA_c2_ok (b := 0) bx1 (by rw [Int32.toInt_zero]; exact ⟨Int.le_refl _, Int.le_refl _⟩) hb
        show ∃ r', mc_br (f zx) pc off L s2 M = some r' ∧ _
        rw [hf, hc]
        exact mcA_k_br hL tl1 hM h
      · cases h
    · cases h
  · cases h
theorem mcA_k_icn {f : Bool} (hL : mcA_R2 mcA_gL LA L) (hs : mcA_R2 mc_g sA st) (hM : mcA_R2 mcA_gE MA M) (h : mcA_icn f pc off LA sA MA = some r) : ∃ r', mc_icn f pc off L st M = some r' ∧ mcA_gX r r' := by
  unfold mcA_icn at h
  split at h
  · next b rA =>
    obtain ⟨a, s1, rfl, h1, tl1⟩ := hs.cons
    cases (show a = .ref b from h1)
    exact mcA_k_br hL tl1 hM h
  · obtain ⟨a, s1, rfl, h1, tl2⟩ := hs.cons
    cases (show a = .null from h1)
    exact mcA_k_br hL tl2 hM h
  · cases h
theorem mcA_k_dup (hL : mcA_R2 mcA_gL LA L) (hs : mcA_R2 mc_g sA st) (hM : mcA_R2 mcA_gE MA M) (h : mcA_dup pc LA sA MA = some r) : ∃ r', mc_dup pc L st M = some r' ∧ mcA_gX r r' := by
  unfold mcA_dup at h
  split at h
  · obtain ⟨hb, h⟩ := mcA_n_t h
    obtain ⟨a, s1, rfl, h1, tl1⟩ := hs.cons
    unfold mc_dup
    dsimp only
    rw [mc_n_i (by rw [← mcA_cat_ok h1]; exact hb)]
    exact mcA_go_k hL (by exact ⟨h1, h1, tl1⟩) hM h
  · cases h
theorem mcA_k_pop (hL : mcA_R2 mcA_gL LA L) (hs : mcA_R2 mc_g sA st) (hM : mcA_R2 mcA_gE MA M) (h : mcA_pop pc LA sA MA = some r) : ∃ r', mc_pop pc L st M = some r' ∧ mcA_gX r r' := by
  unfold mcA_pop at h
  split at h
  · obtain ⟨hb, h⟩ := mcA_n_t h
    obtain ⟨a, s1, rfl, h1, tl1⟩ := hs.cons
    unfold mc_pop
    dsimp only
    rw [mc_n_i (by rw [← mcA_cat_ok h1]; exact hb)]
    exact mcA_go_k hL tl1 hM h
  · cases h
theorem mcA_k_pop2 (hL : mcA_R2 mcA_gL LA L) (hs : mcA_R2 mc_g sA st) (hM : mcA_R2 mcA_gE MA M) (h : mcA_pop2 pc LA sA MA = some r) : ∃ r', mc_pop2 pc L st M = some r' ∧ mcA_gX r r' := by
  unfold mcA_pop2 at h
  split at h
  · obtain ⟨hb, h⟩ := mcA_n_t h
    obtain ⟨a, s1, rfl, h1, tl1⟩ := hs.cons
    unfold mc_pop2
    dsimp only
    rw [mc_n_i (by rw [← mcA_cat_ok h1]; exact hb)]
    exact mcA_go_k hL tl1 hM h
  · cases h
theorem mcA_k_dup2 (hL : mcA_R2 mcA_gL LA L) (hs : mcA_R2 mc_g sA st) (hM : mcA_R2 mcA_gE MA M) (h : mcA_dup2 pc LA sA MA = some r) : ∃ r', mc_dup2 pc L st M = some r' ∧ mcA_gX r r' := by
  unfold mcA_dup2 at h
  split at h
  · obtain ⟨hb, h⟩ := mcA_n_t h
    simp only [Bool.and_eq_true, beq_iff_eq] at hb
    obtain ⟨a, s1, rfl, h1, tl1⟩ := hs.cons
    obtain ⟨b, s2, rfl, h2, tl2⟩ := tl1.cons
    rw [mcA_cat_ok h1, mcA_cat_ok h2] at hb
    unfold mc_dup2
    have e1 : (a.category == 2) = false := by rw [hb.1]; rfl
    dsimp only
    rw [e1]
    dsimp only
    rw [mc_n_i (by rw [hb.1, hb.2]; rfl)]
    exact mcA_go_k hL (by exact ⟨h1, h2, h1, h2, tl2⟩) hM h
  · cases h
end AK
end
section
/-! the mini machine's parts with unknown numbers: cells, calls, ends (own work) -/
def mcA_anew (own idx pc : Nat) (L : List (Nat × mc_V)) (st : List mc_V) (M : mcA_M) : mcA_O := match st with
  | .inl (.int n) :: r => match mc_find (mc_kl.getD own []) idx with
    | some e => mcA_n (e.1 == 8 && decide (¬ n < 0) && decide (n.toNatClampNeg ≤ 100000)) (mcA_go (pc + 3) L (.inl (.ref (256 + M.length)) :: r) (M ++ [.inl (4, n.toNatClampNeg, fun _ => .inl .null)]))
    | none => none
  | _ => none
def mcA_mna (own idx pc : Nat) (L : List (Nat × mc_V)) (st : List mc_V) (M : mcA_M) : mcA_O := match st with
  | .inl (.int k) :: .inl (.int n) :: r => match mc_find (mc_gl.getD own []) idx with
    | some e => mcA_n (decide (e.1 < 2) && decide (¬ n < 0) && decide (¬ k < 0) && decide (n.toNatClampNeg ≤ 100000) && decide (k.toNatClampNeg ≤ 100000)) (mcA_go (pc + 4) L (.inl (.ref (256 + M.length)) :: r) ((M ++ [.inl (5 + e.1, n.toNatClampNeg, fun i => if i < n.toNatClampNeg then .inl (.ref (256 + M.length + 1 + i)) else .inl .null)]) ++ List.replicate n.toNatClampNeg (.inl (e.1, k.toNatClampNeg, fun _ => .inl (defaultValue (mc_ty e.1))))))
    | none => none
  | _ => none
def mcA_aast (pc : Nat) (L : List (Nat × mc_V)) (st : List mc_V) (M : mcA_M) : mcA_O := match st with
  | .inl (.ref b) :: .inl (.int i) :: .inl (.ref a) :: r => match M[a - 256]?, M[b - 256]? with
    | some (.inl q), some (.inr z) => mcA_n (decide (256 ≤ a) && q.1 == 4 && decide (256 ≤ b) && mc_in i q.2.1 && z.1 == 8) (mcA_go (pc + 1) L r (M.set (a - 256) (.inl (q.1, q.2.1, mcA_up q.2.2 i.toNatClampNeg (.inl (.ref b))))))
    | _, _ => none
  | _ => none
section AC
variable {pc : Nat} {LA : List (Nat × mc_V)} {sA : List mc_V} {MA : mcA_M} {L : List (Nat × Value)} {st : List Value} {M : mc_M} {r : mcA_S ⊕ mcA_R} {kt : Nat → Option mc_E} {kA : Nat → Option mcA_E} {own : Nat} {ini : Bool} {off : Int}
theorem mcA_ce_ok (hk : ∀ (a : Nat) (eA : mcA_E), kA a = some eA → ∃ e, kt a = some e ∧ mcA_gE eA e) (hM : mcA_R2 mcA_gE MA M) {a : Nat} {eA : mcA_E} (h : mcA_ce kA MA a = some eA) : ∃ e, mc_ce kt M a = some e ∧ mcA_gE eA e := by
  unfold mcA_ce at h
  unfold mc_ce
  split at h
  · next ha =>
    rw [if_pos ha]
    exact hk a eA h
  · next ha =>
    rw [if_neg ha]
    exact hM.at h
theorem mcA_k_getf (hk : ∀ (a : Nat) (eA : mcA_E), kA a = some eA → ∃ e, kt a = some e ∧ mcA_gE eA e) {idx : Nat} (hL : mcA_R2 mcA_gL LA L) (hs : mcA_R2 mc_g sA st) (hM : mcA_R2 mcA_gE MA M) (h : mcA_getf kA own idx pc LA sA MA = some r) : ∃ r', mc_getf kt own idx pc L st M = some r' ∧ mcA_gX r r' := by
  unfold mcA_getf at h
  split at h
  · next a rA =>
    split at h
    · next en he =>
      split at h
      · next q hq =>
        split at h
        · next v hv =>
          obtain ⟨hb, h⟩ := mcA_n_t h
          obtain ⟨x, s1, rfl, h1, t1⟩ := hs.cons
          cases (show x = .ref a from h1)
          obtain ⟨e', h2, h3⟩ := mcA_ce_ok hk hM hq
          match e', h2, h3 with
          | .inr z, h2, h3 =>
            obtain ⟨y, h4, h5⟩ := h3.2.at hv
            unfold mc_getf
            dsimp only
            rw [he]
            dsimp only
            rw [h2]
            dsimp only
            rw [h4]
            dsimp only
            rw [mc_n_i (by rw [← h3.1]; exact hb)]
            exact mcA_go_k hL (by exact ⟨h5, t1⟩) hM h
          | .inl z, h2, h3 => exact h3.elim
        · cases h
      · cases h
    · cases h
  · cases h
theorem mcA_fit_ok {ty : FieldType} {v : mc_V} {x : Value} (h : mc_g v x) (hf : mcA_fit ty v = true) : mc_fit ty x = true := by
  match v, h with
  | .inl y, h => cases (show x = y from h); exact hf
  | .inr none, ⟨z, hz⟩ =>
    subst hz
    have : ty = .long := of_decide_eq_true hf
    subst this
    rfl
  | .inr (some q), ⟨z, hz, _⟩ =>
    subst hz
    have : ty = .int := of_decide_eq_true hf
    subst this
    rfl
theorem mcA_k_putf {idx : Nat} (hL : mcA_R2 mcA_gL LA L) (hs : mcA_R2 mc_g sA st) (hM : mcA_R2 mcA_gE MA M) (h : mcA_putf own ini idx pc LA sA MA = some r) : ∃ r', mc_putf own ini idx pc L st M = some r' ∧ mcA_gX r r' := by
  unfold mcA_putf at h
  split at h
  · next v a rA =>
    split at h
    · next en he =>
      split at h
      · next q hq =>
        obtain ⟨hb, h⟩ := mcA_n_t h
        obtain ⟨x, s1, rfl, h1, t1⟩ := hs.cons
        obtain ⟨y, s2, rfl, h2, t2⟩ := t1.cons
        cases (show y = .ref a from h2)
        obtain ⟨z, h3, h4, h5⟩ := mcA_at hM hq
        simp only [Bool.and_eq_true] at hb
        obtain ⟨⟨⟨⟨⟨⟨e1, e2⟩, e3⟩, e4⟩, e5⟩, e6⟩, e7⟩ := hb
        unfold mc_putf
        dsimp only
        rw [he]
        dsimp only
        rw [h3]
        dsimp only
        rw [mc_n_i (by
          simp only [Bool.and_eq_true]
          exact ⟨⟨⟨⟨⟨⟨by rw [← h4]; exact e1, e2⟩, e3⟩, e4⟩, by rw [← h5.len]; exact e5⟩, mcA_fit_ok h1 e6⟩, e7⟩)]
        exact mcA_go_k hL t2 (by exact hM.set (show mcA_gE (.inr (q.1, q.2.set en.2.1 v)) (.inr (z.1, z.2.set en.2.1 x)) from ⟨h4, h5.set h1 _⟩) _) h
      · cases h
    · cases h
  · cases h
theorem mcA_k_ald (hk : ∀ (a : Nat) (eA : mcA_E), kA a = some eA → ∃ e, kt a = some e ∧ mcA_gE eA e) {ok : Nat → Bool} (hL : mcA_R2 mcA_gL LA L) (hs : mcA_R2 mc_g sA st) (hM : mcA_R2 mcA_gE MA M) (h : mcA_ald kA ok pc LA sA MA = some r) : ∃ r', mc_ald kt ok pc L st M = some r' ∧ mcA_gX r r' := by
  unfold mcA_ald at h
  split at h
  · next i a rA =>
    split at h
    · next q hq =>
      obtain ⟨hb, h⟩ := mcA_n_t h
      obtain ⟨x, s1, rfl, h1, t1⟩ := hs.cons
      obtain ⟨y, s2, rfl, h2, t2⟩ := t1.cons
      cases (show x = .int i from h1)
      cases (show y = .ref a from h2)
      obtain ⟨e', h3, h4⟩ := mcA_ce_ok hk hM hq
      match e', h3, h4 with
      | .inl z, h3, h4 =>
        unfold mc_ald
        dsimp only
        rw [h3]
        dsimp only
        rw [mc_n_i (by rw [← h4.1, ← h4.2.1]; exact hb)]
        exact mcA_go_k hL (by exact ⟨h4.2.2 _, t2⟩) hM h
      | .inr z, h3, h4 => exact h4.elim
    · cases h
  · cases h
theorem mcA_k_ast {okA : Nat → Bool} {oki : mc_V → Bool} {ok : Nat → Value → Bool} {w : Nat → Value → Value} {t : mc_V → mc_V} (hok : ∀ (k : Nat) (v : mc_V) (x : Value), mc_g v x → okA k = true → oki v = true → ok k x = true) (ht : ∀ (k : Nat) (v : mc_V) (x : Value), mc_g v x → okA k = true → oki v = true → mc_g (match v with
      | .inl x => .inl (w k x)
      | u => t u) (w k x)) (hL : mcA_R2 mcA_gL LA L) (hs : mcA_R2 mc_g sA st) (hM : mcA_R2 mcA_gE MA M) (h : mcA_ast okA oki w t pc LA sA MA = some r) : ∃ r', mc_ast kt ok w pc L st M = some r' ∧ mcA_gX r r' := by
  unfold mcA_ast at h
  split at h
  · next v i a rA =>
    split at h
    · next q hq =>
      obtain ⟨hb, h⟩ := mcA_n_t h
      simp only [Bool.and_eq_true] at hb
      obtain ⟨⟨⟨e1, e2⟩, e3⟩, e4⟩ := hb
      obtain ⟨x, s1, rfl, h1, t1⟩ := hs.cons
      obtain ⟨y, s2, rfl, h2, t2⟩ := t1.cons
      obtain ⟨y', s3, rfl, h3, t3⟩ := t2.cons
      cases (show y = .int i from h2)
      cases (show y' = .ref a from h3)
      obtain ⟨z, h4, h5, h6, h7⟩ := mcA_atA hM hq
      unfold mc_ast
      dsimp only
      rw [h4]
      dsimp only
      rw [mc_n_i (by
        simp only [Bool.and_eq_true]
        exact ⟨⟨e1, by rw [← h5]; exact hok _ _ _ h1 e2 e3⟩, by rw [← h6]; exact e4⟩)]
      refine mcA_go_k hL t3 (by
        refine hM.set ?_ _
        refine ⟨h5, h6, fun j => ?_⟩
        by_cases hj : j = i.toNatClampNeg
        · subst hj
          simp only [mcA_up, updV, if_true]
          rw [← h5]
          exact ht _ _ _ h1 e2 e3
        · simp only [mcA_up, updV, if_neg hj]
          exact h7 j) h
    · cases h
  · cases h
theorem mcA_k_len (hk : ∀ (a : Nat) (eA : mcA_E), kA a = some eA → ∃ e, kt a = some e ∧ mcA_gE eA e) (hL : mcA_R2 mcA_gL LA L) (hs : mcA_R2 mc_g sA st) (hM : mcA_R2 mcA_gE MA M) (h : mcA_len kA pc LA sA MA = some r) : ∃ r', mc_len kt pc L st M = some r' ∧ mcA_gX r r' := by
  unfold mcA_len at h
  split at h
  · next a rA =>
    split at h
    · next q hq =>
      obtain ⟨hb, h⟩ := mcA_n_t h
      obtain ⟨y, s2, rfl, h2, t2⟩ := hs.cons
      cases (show y = .ref a from h2)
      obtain ⟨e', h3, h4⟩ := mcA_ce_ok hk hM hq
      match e', h3, h4 with
      | .inl z, h3, h4 =>
        unfold mc_len
        dsimp only
        rw [h3]
        dsimp only
        rw [mc_n_i (by rw [← h4.1]; exact hb)]
        rw [← h4.2.1]
        exact mcA_go_k hL (by exact ⟨rfl, t2⟩) hM h
      | .inr z, h3, h4 => exact h4.elim
    · cases h
  · cases h
theorem mcA_k_newa {a : ArrayType} (hL : mcA_R2 mcA_gL LA L) (hs : mcA_R2 mc_g sA st) (hM : mcA_R2 mcA_gE MA M) (h : mcA_newa a pc LA sA MA = some r) : ∃ r', mc_newa a pc L st M = some r' ∧ mcA_gX r r' := by
  unfold mcA_newa at h
  split at h
  · next n rA =>
    split at h
    · next t ht =>
      obtain ⟨hb, h⟩ := mcA_n_t h
      obtain ⟨y, s2, rfl, h2, t2⟩ := hs.cons
      cases (show y = .int n from h2)
      unfold mc_newa
      dsimp only
      rw [ht]
      dsimp only
      rw [mc_n_i hb, ← hM.len]
      exact mcA_go_k hL (by exact ⟨rfl, t2⟩) (by exact hM.app ⟨⟨rfl, rfl, fun _ => rfl⟩, trivial⟩) h
    · cases h
  · cases h
theorem mcA_map_inl {α : Type} (f : α → Value) : ∀ l : List α, mcA_R2 mc_g (l.map (fun k => (.inl (f k) : mc_V))) (l.map f)
  | [] => trivial
  | _ :: l => ⟨rfl, mcA_map_inl f l⟩
theorem mcA_k_new {idx : Nat} (hL : mcA_R2 mcA_gL LA L) (hs : mcA_R2 mc_g sA st) (hM : mcA_R2 mcA_gE MA M) (h : mcA_new own idx pc LA sA MA = some r) : ∃ r', mc_new own idx pc L st M = some r' ∧ mcA_gX r r' := by
  unfold mcA_new at h
  split at h
  · next en he =>
    obtain ⟨hb, h⟩ := mcA_n_t h
    unfold mc_new
    rw [he]
    dsimp only
    rw [mc_n_i hb, ← hM.len]
    exact mcA_go_k hL (by exact ⟨rfl, hs⟩) (by exact hM.app ⟨⟨rfl, mcA_map_inl _ _⟩, trivial⟩) h
  · cases h
theorem mcA_k_gs {idx : Nat} (hL : mcA_R2 mcA_gL LA L) (hs : mcA_R2 mc_g sA st) (hM : mcA_R2 mcA_gE MA M) (h : mcA_gs own idx pc LA sA MA = some r) : ∃ r', mc_gs own idx pc L st M = some r' ∧ mcA_gX r r' := by
  unfold mcA_gs at h
  split at h
  · next en he =>
    split at h
    · next q hq =>
      unfold mc_gs
      rw [he]
      dsimp only
      rw [hq]
      exact mcA_go_k hL (by exact ⟨rfl, hs⟩) hM h
    · cases h
  · cases h
theorem mcA_k_ldc {idx d : Nat} (hL : mcA_R2 mcA_gL LA L) (hs : mcA_R2 mc_g sA st) (hM : mcA_R2 mcA_gE MA M) (h : mcA_ldc own idx d pc LA sA MA = some r) : ∃ r', mc_ldc own idx d pc L st M = some r' ∧ mcA_gX r r' := by
  unfold mcA_ldc at h
  unfold mc_ldc
  split at h
  · next en he =>
    obtain ⟨hb, h⟩ := mcA_n_t h
    rw [he]
    dsimp only
    rw [mc_n_i hb]
    exact mcA_go_k hL (by exact ⟨rfl, hs⟩) hM h
  · next he =>
    rw [he]
    dsimp only
    split at h
    · next q hq =>
      rw [hq]
      exact mcA_go_k hL (by exact ⟨rfl, hs⟩) hM h
    · cases h
theorem mcA_k_ldc2 {idx : Nat} (hL : mcA_R2 mcA_gL LA L) (hs : mcA_R2 mc_g sA st) (hM : mcA_R2 mcA_gE MA M) (h : mcA_ldc2 own idx pc LA sA MA = some r) : ∃ r', mc_ldc2 own idx pc L st M = some r' ∧ mcA_gX r r' := by
  unfold mcA_ldc2 at h
  unfold mc_ldc2
  split at h
  · next en he =>
    obtain ⟨hb, h⟩ := mcA_n_t h
    rw [he]
    dsimp only
    rw [mc_n_i hb]
    exact mcA_go_k hL (by exact ⟨rfl, hs⟩) hM h
  · cases h
theorem mcA_k_tsw {dflt lo hi : Int} {offs : Array Int} (hL : mcA_R2 mcA_gL LA L) (hs : mcA_R2 mc_g sA st) (hM : mcA_R2 mcA_gE MA M) (h : mcA_tsw dflt lo hi offs pc LA sA MA = some r) : ∃ r', mc_tsw dflt lo hi offs pc L st M = some r' ∧ mcA_gX r r' := by
  unfold mcA_tsw at h
  unfold mc_tsw
  split at h
  · next x rA =>
    obtain ⟨y, s2, rfl, h2, t2⟩ := hs.cons
    cases (show y = .int x from h2)
    dsimp only
    split at h
    · next ho =>
      rw [if_pos ho]
      exact mcA_k_jp hL t2 hM h
    · next ho =>
      rw [if_neg ho]
      split at h
      · next o9 ho9 =>
        rw [ho9]
        exact mcA_k_jp hL t2 hM h
      · cases h
  · next q rA =>
    obtain ⟨y, s2, rfl, h2, t2⟩ := hs.cons
    obtain ⟨z, rfl, h3, h4⟩ := h2
    dsimp only
    split at h
    · next ho =>
      rw [if_pos (by omega)]
      exact mcA_k_jp hL t2 hM h
    · cases h
  · cases h
theorem mcA_k_cal {callA : Nat → List mc_V → mcA_M → Option mcA_R} {call : Nat → List Value → mc_M → Option mc_R} (IH : ∀ (k : Nat) (vs : List mc_V) (xs : List Value) (MA : mcA_M) (M : mc_M) (w : mcA_R), mcA_R2 mc_g vs xs → mcA_R2 mcA_gE MA M → callA k vs MA = some w → ∃ w', call k xs M = some w' ∧ mcA_gR w w') {sort idx : Nat} (hL : mcA_R2 mcA_gL LA L) (hs : mcA_R2 mc_g sA st) (hM : mcA_R2 mcA_gE MA M) (h : mcA_cal callA own sort idx pc LA sA MA = some r) : ∃ r', mc_cal call own sort idx pc L st M = some r' ∧ mcA_gX r r' := by
  unfold mcA_cal at h
  unfold mc_cal
  split at h
  · next en he =>
    rw [he]
    dsimp only
    split at h
    · next q hq =>
      rw [hq]
      dsimp only
      split at h
      · next w hw =>
        obtain ⟨hb, h⟩ := mcA_n_t h
        obtain ⟨w', h1, h2⟩ := IH _ _ _ _ _ _ ((hs.take _).rev) hM hw
        rw [h1]
        dsimp only
        simp only [Bool.and_eq_true] at hb
        obtain ⟨⟨⟨e1, e2⟩, e3⟩, e4⟩ := hb
        rw [mc_n_i (by
          simp only [Bool.and_eq_true]
          refine ⟨⟨⟨e1, ?_⟩, by rw [← hs.len]; exact e3⟩, ?_⟩
          · rw [← (hs.drop _).same (fun a b hab => mcA_cat_ok hab)]
            exact e2
          · simp only [Bool.or_eq_true] at e4 ⊢
            rcases e4 with e4 | e4
            · exact Or.inl e4
            · refine Or.inr ?_
              split at e4
              · next b hb9 =>
                obtain ⟨y, h3, h4⟩ := hs.at hb9
                cases (show y = .ref b from h4)
                rw [h3]
                dsimp only
                simp only [Bool.and_eq_true] at e4 ⊢
                refine ⟨e4.1, ?_⟩
                have e5 := e4.2
                split at e5
                · next z hz =>
                  obtain ⟨z', h5, h6, h7⟩ := mcA_at hM hz
                  rw [h5]
                  dsimp only
                  rw [← h6]
                  exact e5
                · cases e5
              · cases e4)]
        refine mcA_go_k hL (by
          refine mcA_R2.app ?_ (hs.drop _)
          have h9 := h2.1
          cases hw1 : w.1 with
          | none =>
            cases hw2 : w'.1 with
            | none => exact trivial
            | some y => rw [hw1, hw2] at h9; exact h9.elim
          | some v =>
            cases hw2 : w'.1 with
            | none => rw [hw1, hw2] at h9; exact h9.elim
            | some y => rw [hw1, hw2] at h9; exact ⟨h9, trivial⟩) h2.2 h
      · cases h
    · cases h
  · cases h
theorem mcA_k_obj {idx : Nat} (hL : mcA_R2 mcA_gL LA L) (hs : mcA_R2 mc_g sA st) (hM : mcA_R2 mcA_gE MA M) (h : mcA_obj own idx pc LA sA MA = some r) : ∃ r', mc_obj own idx pc L st M = some r' ∧ mcA_gX r r' := by
  unfold mcA_obj at h
  unfold mc_obj
  split at h
  · next a rA =>
    split at h
    · next en he =>
      obtain ⟨hb, h⟩ := mcA_n_t h
      obtain ⟨y, s2, rfl, h2, t2⟩ := hs.cons
      cases (show y = .ref a from h2)
      dsimp only
      rw [he]
      dsimp only
      rw [mc_n_i (by rw [← t2.same (fun a b hab => mcA_cat_ok hab)]; exact hb)]
      exact mcA_go_k hL t2 hM h
    · cases h
  · cases h
theorem mcA_k_math {idx : Nat} (hL : mcA_R2 mcA_gL LA L) (hs : mcA_R2 mc_g sA st) (hM : mcA_R2 mcA_gE MA M) (h : mcA_math own idx pc LA sA MA = some r) : ∃ r', mc_math own idx pc L st M = some r' ∧ mcA_gX r r' := by
  unfold mcA_math at h
  unfold mc_math
  split at h
  · next en he =>
    rw [he]
    dsimp only
    split at h
    · next y x rA he0 =>
      obtain ⟨hb, h⟩ := mcA_n_t h
      obtain ⟨a, s1, rfl, h1, t1⟩ := hs.cons
      obtain ⟨b, s2, rfl, h2, t2⟩ := t1.cons
      cases (show a = .int y from h1)
      cases (show b = .int x from h2)
      rw [he0]
      show ∃ r', mc_n (decide ((s2.map Value.category).sum ≤ 8)) (mc_go (pc + 3) L (.int (if y < x then y else x) :: s2) M) = some r' ∧ mcA_gX r r'
      rw [mc_n_i (by rw [← t2.same (fun a b hab => mcA_cat_ok hab)]; exact hb)]
      exact mcA_go_k hL (by exact ⟨rfl, t2⟩) hM h
    · next y x rA he0 =>
      obtain ⟨hb, h⟩ := mcA_n_t h
      obtain ⟨a, s1, rfl, h1, t1⟩ := hs.cons
      obtain ⟨b, s2, rfl, h2, t2⟩ := t1.cons
      cases (show a = .int y from h1)
      cases (show b = .int x from h2)
      rw [he0]
      show ∃ r', mc_n (decide ((s2.map Value.category).sum ≤ 8)) (mc_go (pc + 3) L (.int (if x < y then y else x) :: s2) M) = some r' ∧ mcA_gX r r'
      rw [mc_n_i (by rw [← t2.same (fun a b hab => mcA_cat_ok hab)]; exact hb)]
      exact mcA_go_k hL (by exact ⟨rfl, t2⟩) hM h
    · cases h
  · cases h
theorem mcA_k_ret {ret : Option FieldType} (hs : mcA_R2 mc_g sA st) (hM : mcA_R2 mcA_gE MA M) : (mcA_ret ret sA MA = some r → ∃ r', mc_ret ret st M = some r' ∧ mcA_gX r r') ∧ (mcA_retL ret sA MA = some r → ∃ r', mc_retL ret st M = some r' ∧ mcA_gX r r') ∧ (mcA_retA ret sA MA = some r → ∃ r', mc_retA ret st M = some r' ∧ mcA_gX r r') ∧ (mcA_retV ret sA MA = some r → ∃ r', mc_retV ret st M = some r' ∧ mcA_gX r r') := by
  refine ⟨fun h => ?_, fun h => ?_, fun h => ?_, fun h => ?_⟩
  · unfold mcA_ret at h
    split at h
    · obtain ⟨hb, h⟩ := mcA_n_t h
      cases h
      obtain ⟨x, s1, rfl, h1, t1⟩ := hs.cons
      cases t1.nil
      obtain ⟨z, rfl⟩ := mcA_isI_val h1 hb
      exact ⟨_, rfl, h1, hM⟩
    · next v =>
      obtain ⟨hb, h⟩ := mcA_n_t h
      cases h
      obtain ⟨x, s1, rfl, h1, t1⟩ := hs.cons
      cases t1.nil
      cases (show x = .int v from h1)
      unfold mc_ret
      dsimp only
      rw [show mc_n (v == 0 || v == 1) (some (.inr (some (.int v), M))) = some (.inr (some (.int v), M)) from mc_n_i hb]
      exact ⟨_, rfl, rfl, hM⟩
    · cases h
  · unfold mcA_retL at h
    split at h
    · obtain ⟨hb, h⟩ := mcA_n_t h
      cases h
      obtain ⟨x, s1, rfl, h1, t1⟩ := hs.cons
      cases t1.nil
      obtain ⟨z, rfl⟩ := mcA_isL_val h1 hb
      exact ⟨_, rfl, h1, hM⟩
    · cases h
  · unfold mcA_retA at h
    split at h
    · obtain ⟨hb, h⟩ := mcA_n_t h
      cases h
      obtain ⟨x, s1, rfl, h1, t1⟩ := hs.cons
      cases t1.nil
      exact ⟨.inr (some x, M), mc_n_i (mcA_isA_ok h1 hb), h1, hM⟩
    · obtain ⟨hb, h⟩ := mcA_n_t h
      cases h
      obtain ⟨x, s1, rfl, h1, t1⟩ := hs.cons
      cases t1.nil
      exact ⟨.inr (some x, M), mc_n_i (mcA_isA_ok h1 hb), h1, hM⟩
    · cases h
  · unfold mcA_retV at h
    split at h
    · cases h
      cases hs.nil
      exact ⟨_, rfl, trivial, hM⟩
    · cases h
theorem mcA_k_anew {idx : Nat} (hL : mcA_R2 mcA_gL LA L) (hs : mcA_R2 mc_g sA st) (hM : mcA_R2 mcA_gE MA M) (h : mcA_anew own idx pc LA sA MA = some r) : ∃ r', mc_anew own idx pc L st M = some r' ∧ mcA_gX r r' := by
  unfold mcA_anew at h
  split at h
  · next n rA =>
    split at h
    · next en he =>
      obtain ⟨hb, h⟩ := mcA_n_t h
      obtain ⟨y, s2, rfl, h2, t2⟩ := hs.cons
      cases (show y = .int n from h2)
      unfold mc_anew
      dsimp only
      rw [he]
      dsimp only
      rw [mc_n_i hb, ← hM.len]
      exact mcA_go_k hL (by exact ⟨rfl, t2⟩) (by exact hM.app ⟨⟨rfl, rfl, fun _ => rfl⟩, trivial⟩) h
    · cases h
  · cases h
theorem mcA_rep {a : mcA_E} {b : mc_E} (h : mcA_gE a b) : ∀ n : Nat, mcA_R2 mcA_gE (List.replicate n a) (List.replicate n b)
  | 0 => trivial
  | n + 1 => ⟨h, mcA_rep h n⟩
theorem mcA_k_mna {idx : Nat} (hL : mcA_R2 mcA_gL LA L) (hs : mcA_R2 mc_g sA st) (hM : mcA_R2 mcA_gE MA M) (h : mcA_mna own idx pc LA sA MA = some r) : ∃ r', mc_mna own idx pc L st M = some r' ∧ mcA_gX r r' := by
  unfold mcA_mna at h
  split at h
  · next k n rA =>
    split at h
    · next en he =>
      obtain ⟨hb, h⟩ := mcA_n_t h
      obtain ⟨x, s1, rfl, h1, t1⟩ := hs.cons
      obtain ⟨y, s2, rfl, h2, t2⟩ := t1.cons
      cases (show x = .int k from h1)
      cases (show y = .int n from h2)
      unfold mc_mna
      dsimp only
      rw [he]
      dsimp only
      rw [mc_n_i hb, ← hM.len]
      refine mcA_go_k hL (by exact ⟨rfl, t2⟩) (by
        refine mcA_R2.app (hM.app ⟨⟨rfl, rfl, fun j => ?_⟩, trivial⟩) (by exact mcA_rep (by exact ⟨rfl, rfl, fun _ => rfl⟩) _)
        by_cases hj : j < n.toNatClampNeg
        · simp only [if_pos hj]
          exact rfl
        · simp only [if_neg hj]
          exact rfl) h
    · cases h
  · cases h
theorem mcA_k_aast (hL : mcA_R2 mcA_gL LA L) (hs : mcA_R2 mc_g sA st) (hM : mcA_R2 mcA_gE MA M) (h : mcA_aast pc LA sA MA = some r) : ∃ r', mc_ast kt (mc_isP M) (fun _ v => v) pc L st M = some r' ∧ mcA_gX r r' := by
  unfold mcA_aast at h
  split at h
  · next b i a rA =>
    split at h
    · next q z hq hz =>
      obtain ⟨hb, h⟩ := mcA_n_t h
      simp only [Bool.and_eq_true, beq_iff_eq] at hb
      obtain ⟨⟨⟨⟨e1, e2⟩, e3⟩, e4⟩, e5⟩ := hb
      obtain ⟨x, s1, rfl, h1, t1⟩ := hs.cons
      obtain ⟨y, s2, rfl, h2, t2⟩ := t1.cons
      obtain ⟨y', s3, rfl, h3, t3⟩ := t2.cons
      cases (show x = .ref b from h1)
      cases (show y = .int i from h2)
      cases (show y' = .ref a from h3)
      obtain ⟨q', h4, h5, h6, h7⟩ := mcA_atA hM hq
      obtain ⟨z', g4, g5, g6⟩ := mcA_at hM hz
      unfold mc_ast
      dsimp only
      rw [h4]
      dsimp only
      rw [mc_n_i (by
        simp only [Bool.and_eq_true]
        refine ⟨⟨e1, ?_⟩, by rw [← h6]; exact e4⟩
        unfold mc_isP
        simp only [Bool.and_eq_true, beq_iff_eq]
        refine ⟨by rw [← h5]; exact e2, e3, ?_⟩
        rw [g4]
        show (z'.1 == 8) = true
        rw [← g5, e5]
        rfl)]
      refine mcA_go_k hL t3 (by
        refine hM.set ?_ _
        refine ⟨h5, h6, fun j => ?_⟩
        by_cases hj : j = i.toNatClampNeg
        · subst hj
          simp only [mcA_up, updV, if_true]
          exact rfl
        · simp only [mcA_up, updV, if_neg hj]
          exact h7 j) h
    · cases h
  · cases h
end AC
end
section
/-! one instruction, a row of them, a method, with unknown numbers (own work, wip/gen/absstep.py) -/
/-- is the pool entry one of the class's own methods -/
def mcA_own (own idx : Nat) : Bool := (mc_find (mc_ml.getD own []) idx).isSome
def mcA_step (kA : Nat → Option mcA_E) (call : Nat → List mc_V → mcA_M → Option mcA_R) (own nL : Nat) (ini : Bool) (ret : Option FieldType) (x : Instr) (n : Nat) (S : mcA_S) : mcA_O := match x with
  | .iconst i => mcA_n (n == 1) (mcA_go (S.1 + 1) S.2.1 (.inl (.int (Int32.ofInt i)) :: S.2.2.1) S.2.2.2)
  | .bipush i => mcA_n (n == 2) (mcA_go (S.1 + 2) S.2.1 (.inl (.int (Int8.ofInt i).toInt32) :: S.2.2.1) S.2.2.2)
  | .sipush i => mcA_n (n == 3) (mcA_go (S.1 + 3) S.2.1 (.inl (.int (Int16.ofInt i).toInt32) :: S.2.2.1) S.2.2.2)
  | .lconst i => mcA_n (n == 1) (mcA_go (S.1 + 1) S.2.1 (.inl (.long (Int64.ofNat (i : Nat))) :: S.2.2.1) S.2.2.2)
  | .aconst_null => mcA_n (n == 1) (mcA_go (S.1 + 1) S.2.1 (.inl (.null) :: S.2.2.1) S.2.2.2)
  | .iload_n i => mcA_n (n == 1) (mcA_ld mcA_isI (i : Nat) 1 S.1 S.2.1 S.2.2.1 S.2.2.2)
  | .iload i => mcA_n (n == 2) (mcA_ld mcA_isI i 2 S.1 S.2.1 S.2.2.1 S.2.2.2)
  | .lload_n i => mcA_n (n == 1) (mcA_ld mcA_isL (i : Nat) 1 S.1 S.2.1 S.2.2.1 S.2.2.2)
  | .lload i => mcA_n (n == 2) (mcA_ld mcA_isL i 2 S.1 S.2.1 S.2.2.1 S.2.2.2)
  | .aload_n i => mcA_n (n == 1) (mcA_ld mcA_isA (i : Nat) 1 S.1 S.2.1 S.2.2.1 S.2.2.2)
  | .aload i => mcA_n (n == 2) (mcA_ld mcA_isA i 2 S.1 S.2.1 S.2.2.1 S.2.2.2)
  | .istore_n i => mcA_n (n == 1) (mcA_sv mcA_isI nL (i : Nat) 1 S.1 S.2.1 S.2.2.1 S.2.2.2)
  | .istore i => mcA_n (n == 2) (mcA_sv mcA_isI nL i 2 S.1 S.2.1 S.2.2.1 S.2.2.2)
  | .astore_n i => mcA_n (n == 1) (mcA_sv mcA_isA nL (i : Nat) 1 S.1 S.2.1 S.2.2.1 S.2.2.2)
  | .astore i => mcA_n (n == 2) (mcA_sv mcA_isA nL i 2 S.1 S.2.1 S.2.2.1 S.2.2.2)
  | .lstore_n i => mcA_n (n == 1) (mcA_svL nL (i : Nat) 1 S.1 S.2.1 S.2.2.1 S.2.2.2)
  | .lstore i => mcA_n (n == 2) (mcA_svL nL i 2 S.1 S.2.1 S.2.2.1 S.2.2.2)
  | .iinc i k => mcA_n (n == 3) (mcA_inc nL i k S.1 S.2.1 S.2.2.1 S.2.2.2)
  | .iadd => mcA_n (n == 1) (mcA_ii2 (fun x y => x + y) S.1 S.2.1 S.2.2.1 S.2.2.2)
  | .isub => mcA_n (n == 1) (mcA_ii2 (fun x y => x - y) S.1 S.2.1 S.2.2.1 S.2.2.2)
  | .imul => mcA_n (n == 1) (mcA_ii2 (fun x y => x * y) S.1 S.2.1 S.2.2.1 S.2.2.2)
  | .iand => mcA_n (n == 1) (mcA_ii2 (fun x y => x &&& y) S.1 S.2.1 S.2.2.1 S.2.2.2)
  | .ior => mcA_n (n == 1) (mcA_ii2 (fun x y => x ||| y) S.1 S.2.1 S.2.2.1 S.2.2.2)
  | .ixor => mcA_n (n == 1) (mcA_ii2 (fun x y => x ^^^ y) S.1 S.2.1 S.2.2.1 S.2.2.2)
  | .ishl => mcA_n (n == 1) (mcA_ii2 (fun x y => x <<< (y &&& 31)) S.1 S.2.1 S.2.2.1 S.2.2.2)
  | .ishr => mcA_n (n == 1) (mcA_ii2 (fun x y => x >>> (y &&& 31)) S.1 S.2.1 S.2.2.1 S.2.2.2)
  | .idiv => mcA_n (n == 1) (mcA_ie2 (fun x y => if y = 0 then none else some (x / y)) S.1 S.2.1 S.2.2.1 S.2.2.2)
  | .irem => mcA_n (n == 1) (mcA_ie2 (fun x y => if y = 0 then none else some (x - x / y * y)) S.1 S.2.1 S.2.2.1 S.2.2.2)
  | .ladd => mcA_n (n == 1) (mcA_ll2 (fun x y => x + y) S.1 S.2.1 S.2.2.1 S.2.2.2)
  | .lsub => mcA_n (n == 1) (mcA_ll2 (fun x y => x - y) S.1 S.2.1 S.2.2.1 S.2.2.2)
  | .lmul => mcA_n (n == 1) (mcA_ll2 (fun x y => x * y) S.1 S.2.1 S.2.2.1 S.2.2.2)
  | .land => mcA_n (n == 1) (mcA_ll2 (fun x y => x &&& y) S.1 S.2.1 S.2.2.1 S.2.2.2)
  | .lor => mcA_n (n == 1) (mcA_ll2 (fun x y => x ||| y) S.1 S.2.1 S.2.2.1 S.2.2.2)
  | .lshl => mcA_n (n == 1) (mcA_li2 (fun x y => x <<< (y.toInt64 &&& 63)) S.1 S.2.1 S.2.2.1 S.2.2.2)
  | .lshr => mcA_n (n == 1) (mcA_li2 (fun x y => x >>> (y.toInt64 &&& 63)) S.1 S.2.1 S.2.2.1 S.2.2.2)
  | .lcmp => mcA_n (n == 1) (mcA_cmp S.1 S.2.1 S.2.2.1 S.2.2.2)
  | .ineg => mcA_n (n == 1) (mcA_i1 (fun x => .int (-x)) mcA_top S.1 S.2.1 S.2.2.1 S.2.2.2)
  | .i2l => mcA_n (n == 1) (mcA_i1 (fun x => .long x.toInt64) (.inr none) S.1 S.2.1 S.2.2.1 S.2.2.2)
  | .i2b => mcA_n (n == 1) (mcA_i1 (fun x => .int x.toInt8.toInt32) mcA_top S.1 S.2.1 S.2.2.1 S.2.2.2)
  | .l2i => mcA_n (n == 1) (mcA_l1 (fun x => .int x.toInt32) mcA_top S.1 S.2.1 S.2.2.1 S.2.2.2)
  | .if_icmp cd off => mcA_n (n == 3) (mcA_ic2 cd S.1 off S.2.1 S.2.2.1 S.2.2.2)
  | .ifCond cd off => mcA_n (n == 3) (mcA_ic1 cd S.1 off S.2.1 S.2.2.1 S.2.2.2)
  | .ifnull off => mcA_n (n == 3) (mcA_icn true S.1 off S.2.1 S.2.2.1 S.2.2.2)
  | .ifnonnull off => mcA_n (n == 3) (mcA_icn false S.1 off S.2.1 S.2.2.1 S.2.2.2)
  | .goto off => mcA_n (n == 3) (mcA_jp S.1 off S.2.1 S.2.2.1 S.2.2.2)
  | .dup => mcA_n (n == 1) (mcA_dup S.1 S.2.1 S.2.2.1 S.2.2.2)
  | .pop => mcA_n (n == 1) (mcA_pop S.1 S.2.1 S.2.2.1 S.2.2.2)
  | .dup2 => mcA_n (n == 1) (mcA_dup2 S.1 S.2.1 S.2.2.1 S.2.2.2)
  | .pop2 => mcA_n (n == 1) (mcA_pop2 S.1 S.2.1 S.2.2.1 S.2.2.2)
  | .getfield i => mcA_n (n == 3) (mcA_getf kA own i S.1 S.2.1 S.2.2.1 S.2.2.2)
  | .putfield i => mcA_n (n == 3) (mcA_putf own ini i S.1 S.2.1 S.2.2.1 S.2.2.2)
  | .iaload => mcA_n (n == 1) (mcA_ald kA (fun t => t == 0) S.1 S.2.1 S.2.2.1 S.2.2.2)
  | .laload => mcA_n (n == 1) (mcA_ald kA (fun t => t == 1) S.1 S.2.1 S.2.2.1 S.2.2.2)
  | .baload => mcA_n (n == 1) (mcA_ald kA (fun t => t == 2 || t == 3) S.1 S.2.1 S.2.2.1 S.2.2.2)
  | .aaload => mcA_n (n == 1) (mcA_ald kA (fun t => decide (4 ≤ t)) S.1 S.2.1 S.2.2.1 S.2.2.2)
  | .iastore => mcA_n (n == 1) (mcA_ast (fun t => t == 0) mcA_isI (fun _ v => v) (fun v => v) S.1 S.2.1 S.2.2.1 S.2.2.2)
  | .lastore => mcA_n (n == 1) (mcA_ast (fun t => t == 1) mcA_isL (fun _ v => v) (fun v => v) S.1 S.2.1 S.2.2.1 S.2.2.2)
  | .bastore => mcA_n (n == 1) (mcA_ast (fun t => t == 2) mcA_isI (fun t v => narrow (mc_ty t) v) (fun _ => mcA_top) S.1 S.2.1 S.2.2.1 S.2.2.2)
  | .aastore => mcA_n (n == 1) (mcA_aast S.1 S.2.1 S.2.2.1 S.2.2.2)
  | .anewarray i => mcA_n (n == 3) (mcA_anew own i S.1 S.2.1 S.2.2.1 S.2.2.2)
  | .multianewarray i 2 => mcA_n (n == 4) (mcA_mna own i S.1 S.2.1 S.2.2.1 S.2.2.2)
  | .arraylength => mcA_n (n == 1) (mcA_len kA S.1 S.2.1 S.2.2.1 S.2.2.2)
  | .newarray a => mcA_n (n == 2) (mcA_newa a S.1 S.2.1 S.2.2.1 S.2.2.2)
  | .new i => mcA_n (n == 3) (mcA_new own i S.1 S.2.1 S.2.2.1 S.2.2.2)
  | .getstatic i => mcA_n (n == 3) (mcA_gs own i S.1 S.2.1 S.2.2.1 S.2.2.2)
  | .ldc i => mcA_n (n == 2) (mcA_ldc own i 2 S.1 S.2.1 S.2.2.1 S.2.2.2)
  | .ldc2_w i => mcA_n (n == 3) (mcA_ldc2 own i S.1 S.2.1 S.2.2.1 S.2.2.2)
  | .tableswitch d lo hi offs => mcA_tsw d lo hi offs S.1 S.2.1 S.2.2.1 S.2.2.2
  | .invokevirtual i => mcA_n (n == 3) (mcA_cal call own 1 i S.1 S.2.1 S.2.2.1 S.2.2.2)
  | .invokestatic i => mcA_n (n == 3) (match mcA_own own i with
    | true => mcA_cal call own 0 i S.1 S.2.1 S.2.2.1 S.2.2.2
    | false => mcA_math own i S.1 S.2.1 S.2.2.1 S.2.2.2)
  | .invokespecial i => mcA_n (n == 3) (match mcA_own own i with
    | true => mcA_cal call own 2 i S.1 S.2.1 S.2.2.1 S.2.2.2
    | false => mcA_obj own i S.1 S.2.1 S.2.2.1 S.2.2.2)
  | .ireturn => mcA_n (n == 1) (mcA_ret ret S.2.2.1 S.2.2.2)
  | .lreturn => mcA_n (n == 1) (mcA_retL ret S.2.2.1 S.2.2.2)
  | .areturn => mcA_n (n == 1) (mcA_retA ret S.2.2.1 S.2.2.2)
  | .return_ => mcA_n (n == 1) (mcA_retV ret S.2.2.1 S.2.2.2)
  | _ => none
theorem mcA_or {a b : mc_O} {r : mcA_S ⊕ mcA_R} (h : ∃ r', a = some r' ∧ mcA_gX r r') : ∃ r', mc_or a b = some r' ∧ mcA_gX r r' := by
  obtain ⟨r', h1, h2⟩ := h
  exact ⟨r', by rw [h1]; rfl, h2⟩
theorem mcA_or2 {a b : mc_O} {r : mcA_S ⊕ mcA_R} (ha : a = none) (h : ∃ r', b = some r' ∧ mcA_gX r r') : ∃ r', mc_or a b = some r' ∧ mcA_gX r r' := by
  obtain ⟨r', h1, h2⟩ := h
  exact ⟨r', by rw [ha, h1]; rfl, h2⟩
theorem mcA_nocal {call : Nat → List Value → mc_M → Option mc_R} {own sort idx pc : Nat} {L : List (Nat × Value)} {st : List Value} {M : mc_M} (h : mcA_own own idx = false) : mc_cal call own sort idx pc L st M = none := by
  unfold mcA_own at h
  unfold mc_cal
  cases hf : mc_find (mc_ml.getD own []) idx with
  | none => rfl
  | some e => rw [hf] at h; cases h
set_option maxHeartbeats 4000000 in
theorem mcA_step_ok {kt : Nat → Option mc_E} {kA : Nat → Option mcA_E} (hk : ∀ (a : Nat) (eA : mcA_E), kA a = some eA → ∃ e, kt a = some e ∧ mcA_gE eA e) {callA : Nat → List mc_V → mcA_M → Option mcA_R} {call : Nat → List Value → mc_M → Option mc_R} (IH : ∀ (k : Nat) (vs : List mc_V) (xs : List Value) (MA : mcA_M) (M : mc_M) (w : mcA_R), mcA_R2 mc_g vs xs → mcA_R2 mcA_gE MA M → callA k vs MA = some w → ∃ w', call k xs M = some w' ∧ mcA_gR w w') {own nL : Nat} {ini : Bool} {ret : Option FieldType} {x : Instr} {n : Nat} {SA : mcA_S} {S : mc_S} (hS : mcA_gS SA S) {r : mcA_S ⊕ mcA_R} (h : mcA_step kA callA own nL ini ret x n SA = some r) : ∃ r', mc_step kt call own nL ini ret x n S = some r' ∧ mcA_gX r r' := by
  obtain ⟨pc0, LA, sA, MA⟩ := SA
  obtain ⟨pc, L, st, M⟩ := S
  obtain ⟨hpc, hL, hs, hM⟩ := hS
  dsimp only at hpc hL hs hM
  subst hpc
  cases x with
  | iconst i =>
    have h7 : mcA_n (n == 1) (mcA_go (pc0 + 1) LA (.inl (.int (Int32.ofInt i)) :: sA) MA) = some r := h
    obtain ⟨hn, h8⟩ := mcA_n_t h7
    show ∃ r', mc_n (n == 1) (mc_go (pc0 + 1) L (.int (Int32.ofInt i) :: st) M) = some r' ∧ mcA_gX r r'
    rw [mc_n_i hn]
    exact mcA_go_k hL (by exact ⟨rfl, hs⟩) hM h8
  | bipush i =>
    have h7 : mcA_n (n == 2) (mcA_go (pc0 + 2) LA (.inl (.int (Int8.ofInt i).toInt32) :: sA) MA) = some r := h
    obtain ⟨hn, h8⟩ := mcA_n_t h7
    show ∃ r', mc_n (n == 2) (mc_go (pc0 + 2) L (.int (Int8.ofInt i).toInt32 :: st) M) = some r' ∧ mcA_gX r r'
    rw [mc_n_i hn]
    exact mcA_go_k hL (by exact ⟨rfl, hs⟩) hM h8
  | sipush i =>
    have h7 : mcA_n (n == 3) (mcA_go (pc0 + 3) LA (.inl (.int (Int16.ofInt i).toInt32) :: sA) MA) = some r := h
    obtain ⟨hn, h8⟩ := mcA_n_t h7
    show ∃ r', mc_n (n == 3) (mc_go (pc0 + 3) L (.int (Int16.ofInt i).toInt32 :: st) M) = some r' ∧ mcA_gX r r'
    rw [mc_n_i hn]
    exact mcA_go_k hL (by exact ⟨rfl, hs⟩) hM h8
  | lconst i =>
    have h7 : mcA_n (n == 1) (mcA_go (pc0 + 1) LA (.inl (.long (Int64.ofNat (i : Nat))) :: sA) MA) = some r := h
    obtain ⟨hn, h8⟩ := mcA_n_t h7
    show ∃ r', mc_n (n == 1) (mc_go (pc0 + 1) L (.long (Int64.ofNat (i : Nat)) :: st) M) = some r' ∧ mcA_gX r r'
    rw [mc_n_i hn]
    exact mcA_go_k hL (by exact ⟨rfl, hs⟩) hM h8
  | aconst_null  =>
    have h7 : mcA_n (n == 1) (mcA_go (pc0 + 1) LA (.inl (.null) :: sA) MA) = some r := h
    obtain ⟨hn, h8⟩ := mcA_n_t h7
    show ∃ r', mc_n (n == 1) (mc_go (pc0 + 1) L (.null :: st) M) = some r' ∧ mcA_gX r r'
    rw [mc_n_i hn]
    exact mcA_go_k hL (by exact ⟨rfl, hs⟩) hM h8
  | iload_n i =>
    have h7 : mcA_n (n == 1) (mcA_ld mcA_isI (i : Nat) 1 pc0 LA sA MA) = some r := h
    obtain ⟨hn, h8⟩ := mcA_n_t h7
    show ∃ r', mc_n (n == 1) (mc_ld mc_isI (i : Nat) 1 pc0 L st M) = some r' ∧ mcA_gX r r'
    rw [mc_n_i hn]
    exact mcA_k_ld (fun v x => mcA_isI_ok) hL hs hM h8
  | iload i =>
    have h7 : mcA_n (n == 2) (mcA_ld mcA_isI i 2 pc0 LA sA MA) = some r := h
    obtain ⟨hn, h8⟩ := mcA_n_t h7
    show ∃ r', mc_n (n == 2) (mc_ld mc_isI i 2 pc0 L st M) = some r' ∧ mcA_gX r r'
    rw [mc_n_i hn]
    exact mcA_k_ld (fun v x => mcA_isI_ok) hL hs hM h8
  | lload_n i =>
    have h7 : mcA_n (n == 1) (mcA_ld mcA_isL (i : Nat) 1 pc0 LA sA MA) = some r := h
    obtain ⟨hn, h8⟩ := mcA_n_t h7
    show ∃ r', mc_n (n == 1) (mc_ld mc_isL (i : Nat) 1 pc0 L st M) = some r' ∧ mcA_gX r r'
    rw [mc_n_i hn]
    exact mcA_k_ld (fun v x => mcA_isL_ok) hL hs hM h8
  | lload i =>
    have h7 : mcA_n (n == 2) (mcA_ld mcA_isL i 2 pc0 LA sA MA) = some r := h
    obtain ⟨hn, h8⟩ := mcA_n_t h7
    show ∃ r', mc_n (n == 2) (mc_ld mc_isL i 2 pc0 L st M) = some r' ∧ mcA_gX r r'
    rw [mc_n_i hn]
    exact mcA_k_ld (fun v x => mcA_isL_ok) hL hs hM h8
  | aload_n i =>
    have h7 : mcA_n (n == 1) (mcA_ld mcA_isA (i : Nat) 1 pc0 LA sA MA) = some r := h
    obtain ⟨hn, h8⟩ := mcA_n_t h7
    show ∃ r', mc_n (n == 1) (mc_ld mc_isA (i : Nat) 1 pc0 L st M) = some r' ∧ mcA_gX r r'
    rw [mc_n_i hn]
    exact mcA_k_ld (fun v x => mcA_isA_ok) hL hs hM h8
  | aload i =>
    have h7 : mcA_n (n == 2) (mcA_ld mcA_isA i 2 pc0 LA sA MA) = some r := h
    obtain ⟨hn, h8⟩ := mcA_n_t h7
    show ∃ r', mc_n (n == 2) (mc_ld mc_isA i 2 pc0 L st M) = some r' ∧ mcA_gX r r'
    rw [mc_n_i hn]
    exact mcA_k_ld (fun v x => mcA_isA_ok) hL hs hM h8
  | istore_n i =>
    have h7 : mcA_n (n == 1) (mcA_sv mcA_isI nL (i : Nat) 1 pc0 LA sA MA) = some r := h
    obtain ⟨hn, h8⟩ := mcA_n_t h7
    show ∃ r', mc_n (n == 1) (mc_sv mc_isI nL (i : Nat) 1 pc0 L st M) = some r' ∧ mcA_gX r r'
    rw [mc_n_i hn]
    exact mcA_k_sv (fun v x => mcA_isI_ok) hL hs hM h8
  | istore i =>
    have h7 : mcA_n (n == 2) (mcA_sv mcA_isI nL i 2 pc0 LA sA MA) = some r := h
    obtain ⟨hn, h8⟩ := mcA_n_t h7
    show ∃ r', mc_n (n == 2) (mc_sv mc_isI nL i 2 pc0 L st M) = some r' ∧ mcA_gX r r'
    rw [mc_n_i hn]
    exact mcA_k_sv (fun v x => mcA_isI_ok) hL hs hM h8
  | astore_n i =>
    have h7 : mcA_n (n == 1) (mcA_sv mcA_isA nL (i : Nat) 1 pc0 LA sA MA) = some r := h
    obtain ⟨hn, h8⟩ := mcA_n_t h7
    show ∃ r', mc_n (n == 1) (mc_sv mc_isA nL (i : Nat) 1 pc0 L st M) = some r' ∧ mcA_gX r r'
    rw [mc_n_i hn]
    exact mcA_k_sv (fun v x => mcA_isA_ok) hL hs hM h8
  | astore i =>
    have h7 : mcA_n (n == 2) (mcA_sv mcA_isA nL i 2 pc0 LA sA MA) = some r := h
    obtain ⟨hn, h8⟩ := mcA_n_t h7
    show ∃ r', mc_n (n == 2) (mc_sv mc_isA nL i 2 pc0 L st M) = some r' ∧ mcA_gX r r'
    rw [mc_n_i hn]
    exact mcA_k_sv (fun v x => mcA_isA_ok) hL hs hM h8
  | lstore_n i =>
    have h7 : mcA_n (n == 1) (mcA_svL nL (i : Nat) 1 pc0 LA sA MA) = some r := h
    obtain ⟨hn, h8⟩ := mcA_n_t h7
    show ∃ r', mc_n (n == 1) (mc_svL nL (i : Nat) 1 pc0 L st M) = some r' ∧ mcA_gX r r'
    rw [mc_n_i hn]
    exact mcA_k_svL hL hs hM h8
  | lstore i =>
    have h7 : mcA_n (n == 2) (mcA_svL nL i 2 pc0 LA sA MA) = some r := h
    obtain ⟨hn, h8⟩ := mcA_n_t h7
    show ∃ r', mc_n (n == 2) (mc_svL nL i 2 pc0 L st M) = some r' ∧ mcA_gX r r'
    rw [mc_n_i hn]
    exact mcA_k_svL hL hs hM h8
  | iinc i k =>
    have h7 : mcA_n (n == 3) (mcA_inc nL i k pc0 LA sA MA) = some r := h
    obtain ⟨hn, h8⟩ := mcA_n_t h7
    show ∃ r', mc_n (n == 3) (mc_inc nL i k pc0 L st M) = some r' ∧ mcA_gX r r'
    rw [mc_n_i hn]
    exact mcA_k_inc hL hs hM h8
  | iadd  =>
    have h7 : mcA_n (n == 1) (mcA_ii2 (fun x y => x + y) pc0 LA sA MA) = some r := h
    obtain ⟨hn, h8⟩ := mcA_n_t h7
    show ∃ r', mc_n (n == 1) (mc_ii2 (fun x y => some (x + y)) pc0 L st M) = some r' ∧ mcA_gX r r'
    rw [mc_n_i hn]
    exact mcA_k_ii2 hL hs hM h8
  | isub  =>
    have h7 : mcA_n (n == 1) (mcA_ii2 (fun x y => x - y) pc0 LA sA MA) = some r := h
    obtain ⟨hn, h8⟩ := mcA_n_t h7
    show ∃ r', mc_n (n == 1) (mc_ii2 (fun x y => some (x - y)) pc0 L st M) = some r' ∧ mcA_gX r r'
    rw [mc_n_i hn]
    exact mcA_k_ii2 hL hs hM h8
  | imul  =>
    have h7 : mcA_n (n == 1) (mcA_ii2 (fun x y => x * y) pc0 LA sA MA) = some r := h
    obtain ⟨hn, h8⟩ := mcA_n_t h7
    show ∃ r', mc_n (n == 1) (mc_ii2 (fun x y => some (x * y)) pc0 L st M) = some r' ∧ mcA_gX r r'
    rw [mc_n_i hn]
    exact mcA_k_ii2 hL hs hM h8
  | iand  =>
    have h7 : mcA_n (n == 1) (mcA_ii2 (fun x y => x &&& y) pc0 LA sA MA) = some r := h
    obtain ⟨hn, h8⟩ := mcA_n_t h7
    show ∃ r', mc_n (n == 1) (mc_ii2 (fun x y => some (x &&& y)) pc0 L st M) = some r' ∧ mcA_gX r r'
    rw [mc_n_i hn]
    exact mcA_k_ii2 hL hs hM h8
  | ior  =>
    have h7 : mcA_n (n == 1) (mcA_ii2 (fun x y => x ||| y) pc0 LA sA MA) = some r := h
    obtain ⟨hn, h8⟩ := mcA_n_t h7
    show ∃ r', mc_n (n == 1) (mc_ii2 (fun x y => some (x ||| y)) pc0 L st M) = some r' ∧ mcA_gX r r'
    rw [mc_n_i hn]
    exact mcA_k_ii2 hL hs hM h8
  | ixor  =>
    have h7 : mcA_n (n == 1) (mcA_ii2 (fun x y => x ^^^ y) pc0 LA sA MA) = some r := h
    obtain ⟨hn, h8⟩ := mcA_n_t h7
    show ∃ r', mc_n (n == 1) (mc_ii2 (fun x y => some (x ^^^ y)) pc0 L st M) = some r' ∧ mcA_gX r r'
    rw [mc_n_i hn]
    exact mcA_k_ii2 hL hs hM h8
  | ishl  =>
    have h7 : mcA_n (n == 1) (mcA_ii2 (fun x y => x <<< (y &&& 31)) pc0 LA sA MA) = some r := h
    obtain ⟨hn, h8⟩ := mcA_n_t h7
    show ∃ r', mc_n (n == 1) (mc_ii2 (fun x y => some (x <<< (y &&& 31))) pc0 L st M) = some r' ∧ mcA_gX r r'
    rw [mc_n_i hn]
    exact mcA_k_ii2 hL hs hM h8
  | ishr  =>
    have h7 : mcA_n (n == 1) (mcA_ii2 (fun x y => x >>> (y &&& 31)) pc0 LA sA MA) = some r := h
    obtain ⟨hn, h8⟩ := mcA_n_t h7
    show ∃ r', mc_n (n == 1) (mc_ii2 (fun x y => some (x >>> (y &&& 31))) pc0 L st M) = some r' ∧ mcA_gX r r'
    rw [mc_n_i hn]
    exact mcA_k_ii2 hL hs hM h8
  | idiv  =>
    have h7 : mcA_n (n == 1) (mcA_ie2 (fun x y => if y = 0 then none else some (x / y)) pc0 LA sA MA) = some r := h
    obtain ⟨hn, h8⟩ := mcA_n_t h7
    show ∃ r', mc_n (n == 1) (mc_ii2 (fun x y => if y = 0 then none else some (x / y)) pc0 L st M) = some r' ∧ mcA_gX r r'
    rw [mc_n_i hn]
    exact mcA_k_ie2 hL hs hM h8
  | irem  =>
    have h7 : mcA_n (n == 1) (mcA_ie2 (fun x y => if y = 0 then none else some (x - x / y * y)) pc0 LA sA MA) = some r := h
    obtain ⟨hn, h8⟩ := mcA_n_t h7
    show ∃ r', mc_n (n == 1) (mc_ii2 (fun x y => if y = 0 then none else some (x - x / y * y)) pc0 L st M) = some r' ∧ mcA_gX r r'
    rw [mc_n_i hn]
    exact mcA_k_ie2 hL hs hM h8
  | ladd  =>
    have h7 : mcA_n (n == 1) (mcA_ll2 (fun x y => x + y) pc0 LA sA MA) = some r := h
    obtain ⟨hn, h8⟩ := mcA_n_t h7
    show ∃ r', mc_n (n == 1) (mc_ll2 (fun x y => some (x + y)) pc0 L st M) = some r' ∧ mcA_gX r r'
    rw [mc_n_i hn]
    exact mcA_k_ll2 hL hs hM h8
  | lsub  =>
    have h7 : mcA_n (n == 1) (mcA_ll2 (fun x y => x - y) pc0 LA sA MA) = some r := h
    obtain ⟨hn, h8⟩ := mcA_n_t h7
    show ∃ r', mc_n (n == 1) (mc_ll2 (fun x y => some (x - y)) pc0 L st M) = some r' ∧ mcA_gX r r'
    rw [mc_n_i hn]
    exact mcA_k_ll2 hL hs hM h8
  | lmul  =>
    have h7 : mcA_n (n == 1) (mcA_ll2 (fun x y => x * y) pc0 LA sA MA) = some r := h
    obtain ⟨hn, h8⟩ := mcA_n_t h7
    show ∃ r', mc_n (n == 1) (mc_ll2 (fun x y => some (x * y)) pc0 L st M) = some r' ∧ mcA_gX r r'
    rw [mc_n_i hn]
    exact mcA_k_ll2 hL hs hM h8
  | land  =>
    have h7 : mcA_n (n == 1) (mcA_ll2 (fun x y => x &&& y) pc0 LA sA MA) = some r := h
    obtain ⟨hn, h8⟩ := mcA_n_t h7
    show ∃ r', mc_n (n == 1) (mc_ll2 (fun x y => some (x &&& y)) pc0 L st M) = some r' ∧ mcA_gX r r'
    rw [mc_n_i hn]
    exact mcA_k_ll2 hL hs hM h8
  | lor  =>
    have h7 : mcA_n (n == 1) (mcA_ll2 (fun x y => x ||| y) pc0 LA sA MA) = some r := h
    obtain ⟨hn, h8⟩ := mcA_n_t h7
    show ∃ r', mc_n (n == 1) (mc_ll2 (fun x y => some (x ||| y)) pc0 L st M) = some r' ∧ mcA_gX r r'
    rw [mc_n_i hn]
    exact mcA_k_ll2 hL hs hM h8
  | lshl  =>
    have h7 : mcA_n (n == 1) (mcA_li2 (fun x y => x <<< (y.toInt64 &&& 63)) pc0 LA sA MA) = some r := h
    obtain ⟨hn, h8⟩ := mcA_n_t h7
    show ∃ r', mc_n (n == 1) (mc_li2 (fun x y => x <<< (y.toInt64 &&& 63)) pc0 L st M) = some r' ∧ mcA_gX r r'
    rw [mc_n_i hn]
    exact mcA_k_li2 hL hs hM h8
  | lshr  =>
    have h7 : mcA_n (n == 1) (mcA_li2 (fun x y => x >>> (y.toInt64 &&& 63)) pc0 LA sA MA) = some r := h
    obtain ⟨hn, h8⟩ := mcA_n_t h7
    show ∃ r', mc_n (n == 1) (mc_li2 (fun x y => x >>> (y.toInt64 &&& 63)) pc0 L st M) = some r' ∧ mcA_gX r r'
    rw [mc_n_i hn]
    exact mcA_k_li2 hL hs hM h8
  | lcmp  =>
    have h7 : mcA_n (n == 1) (mcA_cmp pc0 LA sA MA) = some r := h
    obtain ⟨hn, h8⟩ := mcA_n_t h7
    show ∃ r', mc_n (n == 1) (mc_cmp pc0 L st M) = some r' ∧ mcA_gX r r'
    rw [mc_n_i hn]
    exact mcA_k_cmp hL hs hM h8
  | ineg  =>
    have h7 : mcA_n (n == 1) (mcA_i1 (fun x => .int (-x)) mcA_top pc0 LA sA MA) = some r := h
    obtain ⟨hn, h8⟩ := mcA_n_t h7
    show ∃ r', mc_n (n == 1) (mc_i1 (fun x => .int (-x)) pc0 L st M) = some r' ∧ mcA_gX r r'
    rw [mc_n_i hn]
    exact mcA_k_i1 (fun x => mcA_top_ok _) hL hs hM h8
  | i2l  =>
    have h7 : mcA_n (n == 1) (mcA_i1 (fun x => .long x.toInt64) (.inr none) pc0 LA sA MA) = some r := h
    obtain ⟨hn, h8⟩ := mcA_n_t h7
    show ∃ r', mc_n (n == 1) (mc_i1 (fun x => .long x.toInt64) pc0 L st M) = some r' ∧ mcA_gX r r'
    rw [mc_n_i hn]
    exact mcA_k_i1 (t := .inr none) (fun x => ⟨x.toInt64, rfl⟩) hL hs hM h8
  | i2b  =>
    have h7 : mcA_n (n == 1) (mcA_i1 (fun x => .int x.toInt8.toInt32) mcA_top pc0 LA sA MA) = some r := h
    obtain ⟨hn, h8⟩ := mcA_n_t h7
    show ∃ r', mc_n (n == 1) (mc_i1 (fun x => .int x.toInt8.toInt32) pc0 L st M) = some r' ∧ mcA_gX r r'
    rw [mc_n_i hn]
    exact mcA_k_i1 (fun x => mcA_top_ok _) hL hs hM h8
  | l2i  =>
    have h7 : mcA_n (n == 1) (mcA_l1 (fun x => .int x.toInt32) mcA_top pc0 LA sA MA) = some r := h
    obtain ⟨hn, h8⟩ := mcA_n_t h7
    show ∃ r', mc_n (n == 1) (mc_l1 (fun x => .int x.toInt32) pc0 L st M) = some r' ∧ mcA_gX r r'
    rw [mc_n_i hn]
    exact mcA_k_l1 (fun x => mcA_top_ok _) hL hs hM h8
  | if_icmp cd off =>
    have h7 : mcA_n (n == 3) (mcA_ic2 cd pc0 off LA sA MA) = some r := h
    obtain ⟨hn, h8⟩ := mcA_n_t h7
    cases cd with
    | eq =>
      show ∃ r', mc_n (n == 3) (mc_ic2 (fun x y => decide (x = y)) pc0 off L st M) = some r' ∧ mcA_gX r r'
      rw [mc_n_i hn]
      exact mcA_k_ic2 (fun x y => rfl) hL hs hM h8
    | ne =>
      show ∃ r', mc_n (n == 3) (mc_ic2 (fun x y => decide (¬ x = y)) pc0 off L st M) = some r' ∧ mcA_gX r r'
      rw [mc_n_i hn]
      exact mcA_k_ic2 (fun x y => rfl) hL hs hM h8
    | lt =>
      show ∃ r', mc_n (n == 3) (mc_ic2 (fun x y => decide (x < y)) pc0 off L st M) = some r' ∧ mcA_gX r r'
      rw [mc_n_i hn]
      exact mcA_k_ic2 (fun x y => rfl) hL hs hM h8
    | ge =>
      show ∃ r', mc_n (n == 3) (mc_ic2 (fun x y => decide (y ≤ x)) pc0 off L st M) = some r' ∧ mcA_gX r r'
      rw [mc_n_i hn]
      exact mcA_k_ic2 (fun x y => rfl) hL hs hM h8
    | gt =>
      show ∃ r', mc_n (n == 3) (mc_ic2 (fun x y => decide (y < x)) pc0 off L st M) = some r' ∧ mcA_gX r r'
      rw [mc_n_i hn]
      exact mcA_k_ic2 (fun x y => rfl) hL hs hM h8
    | le =>
      show ∃ r', mc_n (n == 3) (mc_ic2 (fun x y => decide (x ≤ y)) pc0 off L st M) = some r' ∧ mcA_gX r r'
      rw [mc_n_i hn]
      exact mcA_k_ic2 (fun x y => rfl) hL hs hM h8
  | ifCond cd off =>
    have h7 : mcA_n (n == 3) (mcA_ic1 cd pc0 off LA sA MA) = some r := h
    obtain ⟨hn, h8⟩ := mcA_n_t h7
    cases cd with
    | eq =>
      show ∃ r', mc_n (n == 3) (mc_ic1 (fun x => decide (x = 0)) pc0 off L st M) = some r' ∧ mcA_gX r r'
      rw [mc_n_i hn]
      exact mcA_k_ic1 (fun x => rfl) hL hs hM h8
    | ne =>
      show ∃ r', mc_n (n == 3) (mc_ic1 (fun x => decide (¬ x = 0)) pc0 off L st M) = some r' ∧ mcA_gX r r'
      rw [mc_n_i hn]
      exact mcA_k_ic1 (fun x => rfl) hL hs hM h8
    | lt =>
      show ∃ r', mc_n (n == 3) (mc_ic1 (fun x => decide (x < 0)) pc0 off L st M) = some r' ∧ mcA_gX r r'
      rw [mc_n_i hn]
      exact mcA_k_ic1 (fun x => rfl) hL hs hM h8
    | ge =>
      show ∃ r', mc_n (n == 3) (mc_ic1 (fun x => decide (0 ≤ x)) pc0 off L st M) = some r' ∧ mcA_gX r r'
      rw [mc_n_i hn]
      exact mcA_k_ic1 (fun x => rfl) hL hs hM h8
    | gt =>
      show ∃ r', mc_n (n == 3) (mc_ic1 (fun x => decide (0 < x)) pc0 off L st M) = some r' ∧ mcA_gX r r'
      rw [mc_n_i hn]
      exact mcA_k_ic1 (fun x => rfl) hL hs hM h8
    | le =>
      show ∃ r', mc_n (n == 3) (mc_ic1 (fun x => decide (x ≤ 0)) pc0 off L st M) = some r' ∧ mcA_gX r r'
      rw [mc_n_i hn]
      exact mcA_k_ic1 (fun x => rfl) hL hs hM h8
  | ifnull off =>
    have h7 : mcA_n (n == 3) (mcA_icn true pc0 off LA sA MA) = some r := h
    obtain ⟨hn, h8⟩ := mcA_n_t h7
    show ∃ r', mc_n (n == 3) (mc_icn true pc0 off L st M) = some r' ∧ mcA_gX r r'
    rw [mc_n_i hn]
    exact mcA_k_icn hL hs hM h8
  | ifnonnull off =>
    have h7 : mcA_n (n == 3) (mcA_icn false pc0 off LA sA MA) = some r := h
    obtain ⟨hn, h8⟩ := mcA_n_t h7
    show ∃ r', mc_n (n == 3) (mc_icn false pc0 off L st M) = some r' ∧ mcA_gX r r'
    rw [mc_n_i hn]
    exact mcA_k_icn hL hs hM h8
  | goto off =>
    have h7 : mcA_n (n == 3) (mcA_jp pc0 off LA sA MA) = some r := h
    obtain ⟨hn, h8⟩ := mcA_n_t h7
    show ∃ r', mc_n (n == 3) (mc_jp pc0 off L st M) = some r' ∧ mcA_gX r r'
    rw [mc_n_i hn]
    exact mcA_k_jp hL hs hM h8
  | dup  =>
    have h7 : mcA_n (n == 1) (mcA_dup pc0 LA sA MA) = some r := h
    obtain ⟨hn, h8⟩ := mcA_n_t h7
    show ∃ r', mc_n (n == 1) (mc_dup pc0 L st M) = some r' ∧ mcA_gX r r'
    rw [mc_n_i hn]
    exact mcA_k_dup hL hs hM h8
  | pop  =>
    have h7 : mcA_n (n == 1) (mcA_pop pc0 LA sA MA) = some r := h
    obtain ⟨hn, h8⟩ := mcA_n_t h7
    show ∃ r', mc_n (n == 1) (mc_pop pc0 L st M) = some r' ∧ mcA_gX r r'
    rw [mc_n_i hn]
    exact mcA_k_pop hL hs hM h8
  | dup2  =>
    have h7 : mcA_n (n == 1) (mcA_dup2 pc0 LA sA MA) = some r := h
    obtain ⟨hn, h8⟩ := mcA_n_t h7
    show ∃ r', mc_n (n == 1) (mc_dup2 pc0 L st M) = some r' ∧ mcA_gX r r'
    rw [mc_n_i hn]
    exact mcA_k_dup2 hL hs hM h8
  | pop2  =>
    have h7 : mcA_n (n == 1) (mcA_pop2 pc0 LA sA MA) = some r := h
    obtain ⟨hn, h8⟩ := mcA_n_t h7
    show ∃ r', mc_n (n == 1) (mc_pop2 pc0 L st M) = some r' ∧ mcA_gX r r'
    rw [mc_n_i hn]
    exact mcA_k_pop2 hL hs hM h8
  | getfield i =>
    have h7 : mcA_n (n == 3) (mcA_getf kA own i pc0 LA sA MA) = some r := h
    obtain ⟨hn, h8⟩ := mcA_n_t h7
    show ∃ r', mc_n (n == 3) (mc_getf kt own i pc0 L st M) = some r' ∧ mcA_gX r r'
    rw [mc_n_i hn]
    exact mcA_k_getf hk hL hs hM h8
  | putfield i =>
    have h7 : mcA_n (n == 3) (mcA_putf own ini i pc0 LA sA MA) = some r := h
    obtain ⟨hn, h8⟩ := mcA_n_t h7
    show ∃ r', mc_n (n == 3) (mc_putf own ini i pc0 L st M) = some r' ∧ mcA_gX r r'
    rw [mc_n_i hn]
    exact mcA_k_putf hL hs hM h8
  | iaload  =>
    have h7 : mcA_n (n == 1) (mcA_ald kA (fun t => t == 0) pc0 LA sA MA) = some r := h
    obtain ⟨hn, h8⟩ := mcA_n_t h7
    show ∃ r', mc_n (n == 1) (mc_ald kt (fun t => t == 0) pc0 L st M) = some r' ∧ mcA_gX r r'
    rw [mc_n_i hn]
    exact mcA_k_ald hk hL hs hM h8
  | laload  =>
    have h7 : mcA_n (n == 1) (mcA_ald kA (fun t => t == 1) pc0 LA sA MA) = some r := h
    obtain ⟨hn, h8⟩ := mcA_n_t h7
    show ∃ r', mc_n (n == 1) (mc_ald kt (fun t => t == 1) pc0 L st M) = some r' ∧ mcA_gX r r'
    rw [mc_n_i hn]
    exact mcA_k_ald hk hL hs hM h8
  | baload  =>
    have h7 : mcA_n (n == 1) (mcA_ald kA (fun t => t == 2 || t == 3) pc0 LA sA MA) = some r := h
    obtain ⟨hn, h8⟩ := mcA_n_t h7
    show ∃ r', mc_n (n == 1) (mc_ald kt (fun t => t == 2 || t == 3) pc0 L st M) = some r' ∧ mcA_gX r r'
    rw [mc_n_i hn]
    exact mcA_k_ald hk hL hs hM h8
  | aaload  =>
    have h7 : mcA_n (n == 1) (mcA_ald kA (fun t => decide (4 ≤ t)) pc0 LA sA MA) = some r := h
    obtain ⟨hn, h8⟩ := mcA_n_t h7
    show ∃ r', mc_n (n == 1) (mc_ald kt (fun t => decide (4 ≤ t)) pc0 L st M) = some r' ∧ mcA_gX r r'
    rw [mc_n_i hn]
    exact mcA_k_ald hk hL hs hM h8
  | iastore  =>
    have h7 : mcA_n (n == 1) (mcA_ast (fun t => t == 0) mcA_isI (fun _ v => v) (fun v => v) pc0 LA sA MA) = some r := h
    obtain ⟨hn, h8⟩ := mcA_n_t h7
    show ∃ r', mc_n (n == 1) (mc_ast kt (fun t v => t == 0 && mc_isI v) (fun _ v => v) pc0 L st M) = some r' ∧ mcA_gX r r'
    rw [mc_n_i hn]
    exact mcA_k_ast (fun k v x hv h1 h2 => by simp only [Bool.and_eq_true]; exact ⟨h1, mcA_isI_ok hv h2⟩) (fun k v x hv h1 h2 => by
      match v, hv with
      | .inl y, hv => exact hv
      | .inr none, hv => exact hv
      | .inr (some q), hv => exact hv) hL hs hM h8
  | lastore  =>
    have h7 : mcA_n (n == 1) (mcA_ast (fun t => t == 1) mcA_isL (fun _ v => v) (fun v => v) pc0 LA sA MA) = some r := h
    obtain ⟨hn, h8⟩ := mcA_n_t h7
    show ∃ r', mc_n (n == 1) (mc_ast kt (fun t v => t == 1 && mc_isL v) (fun _ v => v) pc0 L st M) = some r' ∧ mcA_gX r r'
    rw [mc_n_i hn]
    exact mcA_k_ast (fun k v x hv h1 h2 => by simp only [Bool.and_eq_true]; exact ⟨h1, mcA_isL_ok hv h2⟩) (fun k v x hv h1 h2 => by
      match v, hv with
      | .inl y, hv => exact hv
      | .inr none, hv => exact hv
      | .inr (some q), hv => exact hv) hL hs hM h8
  | bastore  =>
    have h7 : mcA_n (n == 1) (mcA_ast (fun t => t == 2) mcA_isI (fun t v => narrow (mc_ty t) v) (fun _ => mcA_top) pc0 LA sA MA) = some r := h
    obtain ⟨hn, h8⟩ := mcA_n_t h7
    show ∃ r', mc_n (n == 1) (mc_ast kt (fun t v => (t == 2 || t == 3) && mc_isI v) (fun t v => narrow (mc_ty t) v) pc0 L st M) = some r' ∧ mcA_gX r r'
    rw [mc_n_i hn]
    exact mcA_k_ast (fun k v x hv h1 h2 => by
      have h1 : k = 2 := by simpa using h1
      subst h1
      simp only [Bool.and_eq_true]
      exact ⟨rfl, mcA_isI_ok hv h2⟩) (fun k v x hv h1 h2 => by
      have h1 : k = 2 := by simpa using h1
      subst h1
      obtain ⟨z, rfl⟩ := mcA_isI_val hv h2
      match v, hv with
      | .inl y, hv => cases (show Value.int z = y from hv); exact rfl
      | .inr none, hv => exact mcA_top_ok _
      | .inr (some q), hv => exact mcA_top_ok _) hL hs hM h8
  | aastore  =>
    have h7 : mcA_n (n == 1) (mcA_aast pc0 LA sA MA) = some r := h
    obtain ⟨hn, h8⟩ := mcA_n_t h7
    show ∃ r', mc_n (n == 1) (mc_ast kt (mc_isP M) (fun _ v => v) pc0 L st M) = some r' ∧ mcA_gX r r'
    rw [mc_n_i hn]
    exact mcA_k_aast hL hs hM h8
  | anewarray i =>
    have h7 : mcA_n (n == 3) (mcA_anew own i pc0 LA sA MA) = some r := h
    obtain ⟨hn, h8⟩ := mcA_n_t h7
    show ∃ r', mc_n (n == 3) (mc_anew own i pc0 L st M) = some r' ∧ mcA_gX r r'
    rw [mc_n_i hn]
    exact mcA_k_anew hL hs hM h8
  | multianewarray i j =>
    match j, h with
    | 2, h =>
      have h7 : mcA_n (n == 4) (mcA_mna own i pc0 LA sA MA) = some r := h
      obtain ⟨hn, h8⟩ := mcA_n_t h7
      show ∃ r', mc_n (n == 4) (mc_mna own i pc0 L st M) = some r' ∧ mcA_gX r r'
      rw [mc_n_i hn]
      exact mcA_k_mna hL hs hM h8
    | 0, h => cases h
    | 1, h => cases h
    | j + 3, h => cases h
  | arraylength  =>
    have h7 : mcA_n (n == 1) (mcA_len kA pc0 LA sA MA) = some r := h
    obtain ⟨hn, h8⟩ := mcA_n_t h7
    show ∃ r', mc_n (n == 1) (mc_len kt pc0 L st M) = some r' ∧ mcA_gX r r'
    rw [mc_n_i hn]
    exact mcA_k_len hk hL hs hM h8
  | newarray a =>
    have h7 : mcA_n (n == 2) (mcA_newa a pc0 LA sA MA) = some r := h
    obtain ⟨hn, h8⟩ := mcA_n_t h7
    show ∃ r', mc_n (n == 2) (mc_newa a pc0 L st M) = some r' ∧ mcA_gX r r'
    rw [mc_n_i hn]
    exact mcA_k_newa hL hs hM h8
  | new i =>
    have h7 : mcA_n (n == 3) (mcA_new own i pc0 LA sA MA) = some r := h
    obtain ⟨hn, h8⟩ := mcA_n_t h7
    show ∃ r', mc_n (n == 3) (mc_new own i pc0 L st M) = some r' ∧ mcA_gX r r'
    rw [mc_n_i hn]
    exact mcA_k_new hL hs hM h8
  | getstatic i =>
    have h7 : mcA_n (n == 3) (mcA_gs own i pc0 LA sA MA) = some r := h
    obtain ⟨hn, h8⟩ := mcA_n_t h7
    show ∃ r', mc_n (n == 3) (mc_gs own i pc0 L st M) = some r' ∧ mcA_gX r r'
    rw [mc_n_i hn]
    exact mcA_k_gs hL hs hM h8
  | ldc i =>
    have h7 : mcA_n (n == 2) (mcA_ldc own i 2 pc0 LA sA MA) = some r := h
    obtain ⟨hn, h8⟩ := mcA_n_t h7
    show ∃ r', mc_n (n == 2) (mc_ldc own i 2 pc0 L st M) = some r' ∧ mcA_gX r r'
    rw [mc_n_i hn]
    exact mcA_k_ldc hL hs hM h8
  | ldc2_w i =>
    have h7 : mcA_n (n == 3) (mcA_ldc2 own i pc0 LA sA MA) = some r := h
    obtain ⟨hn, h8⟩ := mcA_n_t h7
    show ∃ r', mc_n (n == 3) (mc_ldc2 own i pc0 L st M) = some r' ∧ mcA_gX r r'
    rw [mc_n_i hn]
    exact mcA_k_ldc2 hL hs hM h8
  | tableswitch d lo hi offs =>
    exact mcA_k_tsw hL hs hM h
  | invokevirtual i =>
    have h7 : mcA_n (n == 3) (mcA_cal callA own 1 i pc0 LA sA MA) = some r := h
    obtain ⟨hn, h8⟩ := mcA_n_t h7
    show ∃ r', mc_n (n == 3) (mc_cal call own 1 i pc0 L st M) = some r' ∧ mcA_gX r r'
    rw [mc_n_i hn]
    exact mcA_k_cal IH hL hs hM h8
  | invokestatic i =>
    have h7 : mcA_n (n == 3) (match mcA_own own i with
      | true => mcA_cal callA own 0 i pc0 LA sA MA
      | false => mcA_math own i pc0 LA sA MA) = some r := h
    obtain ⟨hn, h8⟩ := mcA_n_t h7
    show ∃ r', mc_n (n == 3) (mc_or (mc_cal call own 0 i pc0 L st M) (mc_math own i pc0 L st M)) = some r' ∧ mcA_gX r r'
    rw [mc_n_i hn]
    split at h8
    · exact mcA_or (mcA_k_cal IH hL hs hM h8)
    · next ho => exact mcA_or2 (mcA_nocal ho) (mcA_k_math hL hs hM h8)
  | invokespecial i =>
    have h7 : mcA_n (n == 3) (match mcA_own own i with
      | true => mcA_cal callA own 2 i pc0 LA sA MA
      | false => mcA_obj own i pc0 LA sA MA) = some r := h
    obtain ⟨hn, h8⟩ := mcA_n_t h7
    show ∃ r', mc_n (n == 3) (mc_or (mc_cal call own 2 i pc0 L st M) (mc_obj own i pc0 L st M)) = some r' ∧ mcA_gX r r'
    rw [mc_n_i hn]
    split at h8
    · exact mcA_or (mcA_k_cal IH hL hs hM h8)
    · next ho => exact mcA_or2 (mcA_nocal ho) (mcA_k_obj hL hs hM h8)
  | ireturn  =>
    have h7 : mcA_n (n == 1) (mcA_ret ret sA MA) = some r := h
    obtain ⟨hn, h8⟩ := mcA_n_t h7
    show ∃ r', mc_n (n == 1) (mc_ret ret st M) = some r' ∧ mcA_gX r r'
    rw [mc_n_i hn]
    exact (mcA_k_ret hs hM).1 h8
  | lreturn  =>
    have h7 : mcA_n (n == 1) (mcA_retL ret sA MA) = some r := h
    obtain ⟨hn, h8⟩ := mcA_n_t h7
    show ∃ r', mc_n (n == 1) (mc_retL ret st M) = some r' ∧ mcA_gX r r'
    rw [mc_n_i hn]
    exact (mcA_k_ret hs hM).2.1 h8
  | areturn  =>
    have h7 : mcA_n (n == 1) (mcA_retA ret sA MA) = some r := h
    obtain ⟨hn, h8⟩ := mcA_n_t h7
    show ∃ r', mc_n (n == 1) (mc_retA ret st M) = some r' ∧ mcA_gX r r'
    rw [mc_n_i hn]
    exact (mcA_k_ret hs hM).2.2.1 h8
  | return_  =>
    have h7 : mcA_n (n == 1) (mcA_retV ret sA MA) = some r := h
    obtain ⟨hn, h8⟩ := mcA_n_t h7
    show ∃ r', mc_n (n == 1) (mc_retV ret st M) = some r' ∧ mcA_gX r r'
    rw [mc_n_i hn]
    exact (mcA_k_ret hs hM).2.2.2 h8
  | _ => cases h
def mcA_loop (kA : Nat → Option mcA_E) (call : Nat → List mc_V → mcA_M → Option mcA_R) (own nL : Nat) (ini : Bool) (ret : Option FieldType) (cd : Nat → Option (Instr × Nat)) : Nat → mcA_S → Option mcA_R
  | 0, _ => none
  | n + 1, S => match cd S.1 with
    | some (x, k) => match mcA_step kA call own nL ini ret x k S with
      | some (.inl S1) => mcA_loop kA call own nL ini ret cd n S1
      | some (.inr w) => some w
      | none => none
    | none => none
def mcA_call (kA : Nat → Option mcA_E) (F : Nat) : Nat → Nat → List mc_V → mcA_M → Option mcA_R
  | 0, _, _, _ => none
  | d + 1, k, as, M => match mc_mt k with
    | some q => match decide ((as.map mcA_cat).sum ≤ q.2.2.2.1) with
      | true => mcA_loop kA (mcA_call kA F d) q.1 q.2.2.2.1 (q.2.2.2.2.2.2 == 2) q.2.2.2.2.1 (mc_cd k) F (0, mcA_args 0 as, [], M)
      | false => none
    | none => none
theorem mcA_loop_ok {kt : Nat → Option mc_E} {kA : Nat → Option mcA_E} (hk : ∀ (a : Nat) (eA : mcA_E), kA a = some eA → ∃ e, kt a = some e ∧ mcA_gE eA e) {callA : Nat → List mc_V → mcA_M → Option mcA_R} {call : Nat → List Value → mc_M → Option mc_R} (IH : ∀ (k : Nat) (vs : List mc_V) (xs : List Value) (MA : mcA_M) (M : mc_M) (w : mcA_R), mcA_R2 mc_g vs xs → mcA_R2 mcA_gE MA M → callA k vs MA = some w → ∃ w', call k xs M = some w' ∧ mcA_gR w w') {own nL : Nat} {ini : Bool} {ret : Option FieldType} {cc : ByteArray} {cd : Nat → Option (Instr × Nat)} (hcd : ∀ (pc : Nat) (x : Instr × Nat), cd pc = some x → decode cc pc = .ok x) : ∀ (n : Nat) (SA : mcA_S) (S : mc_S) (w : mcA_R), mcA_gS SA S → mcA_loop kA callA own nL ini ret cd n SA = some w → ∃ w', mc_loop kt call own nL ini ret cc n S = some w' ∧ mcA_gR w w'
  | 0, _, _, _, _, h => by cases h
  | n + 1, SA, S, w, hS, h => by
    unfold mcA_loop at h
    unfold mc_loop
    rw [← hS.1]
    split at h
    · next x k hd =>
      rw [hcd _ _ hd]
      dsimp only
      split at h
      · next S1 hs =>
        obtain ⟨r', h1, h2⟩ := mcA_step_ok hk IH hS hs
        match r', h1, h2 with
        | .inl S2, h1, h2 =>
          rw [h1]
          exact mcA_loop_ok hk IH hcd n S1 S2 w h2 h
        | .inr w2, h1, h2 => exact h2.elim
      · next w1 hs =>
        cases h
        obtain ⟨r', h1, h2⟩ := mcA_step_ok hk IH hS hs
        match r', h1, h2 with
        | .inl S2, h1, h2 => exact h2.elim
        | .inr w2, h1, h2 =>
          rw [h1]
          exact ⟨w2, rfl, h2⟩
      · cases h
    · cases h
theorem mcA_call_ok {kt : Nat → Option mc_E} {kA : Nat → Option mcA_E} (hk : ∀ (a : Nat) (eA : mcA_E), kA a = some eA → ∃ e, kt a = some e ∧ mcA_gE eA e) {F : Nat} : ∀ (d k : Nat) (vs : List mc_V) (xs : List Value) (MA : mcA_M) (M : mc_M) (w : mcA_R), mcA_R2 mc_g vs xs → mcA_R2 mcA_gE MA M → mcA_call kA F d k vs MA = some w → ∃ w', mc_call kt F d k xs M = some w' ∧ mcA_gR w w'
  | 0, _, _, _, _, _, _, _, _, h => by cases h
  | d + 1, k, vs, xs, MA, M, w, hv, hM, h => by
    unfold mcA_call at h
    unfold mc_call
    split at h
    · next q hq =>
      rw [hq]
      dsimp only
      split at h
      · next hl =>
        have hl2 : decide ((lg_sl xs).length ≤ q.2.2.2.1) = true := by
          rw [mc_sl_sum, ← hv.same (fun a b hab => mcA_cat_ok hab)]
          exact hl
        rw [hl2]
        exact mcA_loop_ok hk (mcA_call_ok hk d) (fun pc x hx => mc_cd_ok hq hx) F (0, mcA_args 0 vs, [], MA) (0, lv_args 0 xs, [], M) w ⟨rfl, mcA_args_ok hv 0, trivial, hM⟩ h
      · cases h
    · cases h
end
section
/-! THE LAW, run by the mini machine (own work) -/
def mc_room (i : Nat) : Int32 := [1, 6, 1, 3, 3, 24, 4, 6, 0, 0, 0].getD i 0
def mc_swm (i : Nat) : Int32 := [1, 2, 3, 4, 5, 6, 7, 8, 0, 0, 0].getD i 0
/-- the constants: the script, RESERVED, the switch's map, the enum's constants -/
def mc_kt (L : Nat) (xs : Nat → Int32) (a : Nat) : Option mc_E :=
  if a = 0 then some (.inl (0, L, fun j => .int (xs j)))
  else if a = 1 then some (.inl (7, 11, fun j => .ref (16 + j)))
  else if a = 2 then some (.inl (0, 11, fun j => .int (mc_swm j)))
  else if 16 ≤ a ∧ a < 27 then some (.inr (20, [.ref (16 + a), .int (mc_room (a - 16))]))
  else none
def mcA_kt (L : Nat) (bx : Nat → mc_V) (a : Nat) : Option mcA_E :=
  if a = 0 then some (.inl (0, L, bx))
  else if a = 1 then some (.inl (7, 11, fun j => .inl (.ref (16 + j))))
  else if a = 2 then some (.inl (0, 11, fun j => .inl (.int (mc_swm j))))
  else if 16 ≤ a ∧ a < 27 then some (.inr (20, [.inl (.ref (16 + a)), .inl (.int (mc_room (a - 16)))]))
  else none
theorem mcA_kt_ok {L : Nat} {xs : Nat → Int32} {bx : Nat → mc_V} (h : ∀ j, mc_g (bx j) (.int (xs j))) : ∀ (a : Nat) (eA : mcA_E), mcA_kt L bx a = some eA → ∃ e, mc_kt L xs a = some e ∧ mcA_gE eA e := by
  intro a eA ha
  unfold mcA_kt at ha
  unfold mc_kt
  split at ha
  · next h0 =>
    cases ha
    rw [if_pos h0]
    exact ⟨_, rfl, rfl, rfl, h⟩
  · next h0 =>
    rw [if_neg h0]
    split at ha
    · next h1 =>
      cases ha
      rw [if_pos h1]
      exact ⟨_, rfl, rfl, rfl, fun _ => rfl⟩
    · next h1 =>
      rw [if_neg h1]
      split at ha
      · next h2 =>
        cases ha
        rw [if_pos h2]
        exact ⟨_, rfl, rfl, rfl, fun _ => rfl⟩
      · next h2 =>
        rw [if_neg h2]
        split at ha
        · next h3 =>
          cases ha
          rw [if_pos h3]
          exact ⟨_, rfl, rfl, rfl, rfl, trivial⟩
        · cases ha
/-- so many instructions, none of them a return -/
def mc_seg (kt : Nat → Option mc_E) (call : Nat → List Value → mc_M → Option mc_R) (own nL : Nat) (ini : Bool) (ret : Option FieldType) (cc : ByteArray) : Nat → mc_S → Option mc_S
  | 0, S => some S
  | n + 1, S => match decode cc S.1 with
    | .ok (x, k) => match mc_step kt call own nL ini ret x k S with
      | some (.inl S1) => mc_seg kt call own nL ini ret cc n S1
      | _ => none
    | .error _ => none
def mcA_seg (kA : Nat → Option mcA_E) (call : Nat → List mc_V → mcA_M → Option mcA_R) (own nL : Nat) (ini : Bool) (ret : Option FieldType) (cd : Nat → Option (Instr × Nat)) : Nat → mcA_S → Option mcA_S
  | 0, S => some S
  | n + 1, S => match cd S.1 with
    | some (x, k) => match mcA_step kA call own nL ini ret x k S with
      | some (.inl S1) => mcA_seg kA call own nL ini ret cd n S1
      | _ => none
    | none => none
theorem mcA_seg_ok {kt : Nat → Option mc_E} {kA : Nat → Option mcA_E} (hk : ∀ (a : Nat) (eA : mcA_E), kA a = some eA → ∃ e, kt a = some e ∧ mcA_gE eA e) {callA : Nat → List mc_V → mcA_M → Option mcA_R} {call : Nat → List Value → mc_M → Option mc_R} (IH : ∀ (k : Nat) (vs : List mc_V) (xs : List Value) (MA : mcA_M) (M : mc_M) (w : mcA_R), mcA_R2 mc_g vs xs → mcA_R2 mcA_gE MA M → callA k vs MA = some w → ∃ w', call k xs M = some w' ∧ mcA_gR w w') {own nL : Nat} {ini : Bool} {ret : Option FieldType} {cc : ByteArray} {cd : Nat → Option (Instr × Nat)} (hcd : ∀ (pc : Nat) (x : Instr × Nat), cd pc = some x → decode cc pc = .ok x) : ∀ (n : Nat) (SA : mcA_S) (S : mc_S) (TA : mcA_S), mcA_gS SA S → mcA_seg kA callA own nL ini ret cd n SA = some TA → ∃ T, mc_seg kt call own nL ini ret cc n S = some T ∧ mcA_gS TA T
  | 0, SA, S, TA, hS, h => by
    unfold mcA_seg at h
    cases h
    exact ⟨S, rfl, hS⟩
  | n + 1, SA, S, w, hS, h => by
    unfold mcA_seg at h
    unfold mc_seg
    rw [← hS.1]
    split at h
    · next x k hd =>
      rw [hcd _ _ hd]
      dsimp only
      split at h
      · next S1 hs =>
        obtain ⟨r', h1, h2⟩ := mcA_step_ok hk IH hS hs
        match r', h1, h2 with
        | .inl S2, h1, h2 =>
          rw [h1]
          exact mcA_seg_ok hk IH hcd n S1 S2 w h2 h
        | .inr w2, h1, h2 => exact h2.elim
      · cases h
    · cases h
def mcA_S0 : mcA_S := (0, [(0, .inl (.ref 0))], [], [])
def mcA_F : Nat := 100000
def mcA_lseg (bx : Nat → mc_V) (n : Nat) : Option mcA_S := mcA_seg (mcA_kt 6 bx) (mcA_call (mcA_kt 6 bx) mcA_F 15) 11 7 false (some .boolean) mc_lawcd n mcA_S0
def mcA_es (e : mcA_E) : Nat := match e with
  | .inl x => x.2.1
  | .inr o => o.2.length
/-- the law ended with 1, within its room -/
def mcA_fin (w : Option mcA_R) : Bool := match w with
  | some (some (.inl (.int v)), M) => v == 1 && decide (M.length ≤ 5000) && decide ((M.map mcA_es).sum ≤ 1000000)
  | _ => false
def mcA_neg : mc_V := .inr (some (-2147483648, -1))
def mcA_nn : mc_V := .inr (some (0, 2147483647))
def mcA_pos : mc_V := .inr (some (1, 2147483647))
def mcA_ten : mc_V := .inr (some (10, 2147483647))
def mcA_zero : mc_V := .inl (.int 0)
def mcA_bA : List mc_V := [mcA_neg, mcA_nn]
def mcA_bB : List mc_V := [mcA_neg, .inl (.int 0), .inl (.int 1), .inl (.int 2), .inl (.int 3), .inl (.int 4), .inl (.int 5), .inl (.int 6), .inl (.int 7), .inl (.int 8), .inl (.int 9), mcA_ten]
def mcA_bC : List mc_V := [mcA_neg, mcA_zero, mcA_pos]
def mcA_box (b1 b2 : mc_V) (j : Nat) : mc_V := if j = 1 then b1 else if j = 2 then b2 else mcA_top
def mcA_b0 : Nat → mc_V := fun _ => mcA_top
/-- from place tgt to the end, whatever stands in the script within these bounds -/
def mcA_run (b1 b2 : mc_V) (tgt : Nat) (S : mcA_S) : Bool := mcA_fin (mcA_loop (mcA_kt 6 (mcA_box b1 b2)) (mcA_call (mcA_kt 6 (mcA_box b1 b2)) mcA_F 15) 11 7 false (some .boolean) mc_lawcd mcA_F (tgt, S.2.1, [], S.2.2.2))
def mcA_chk (l1 l2 : List mc_V) (tgts : List Nat) : Bool := match mcA_lseg mcA_b0 24 with
  | some S => decide (S.1 = 40) && decide (S.2.2.1.length = 1) && tgts.all (fun tgt => l1.all (fun b1 => l2.all (fun b2 => mcA_run b1 b2 tgt S)))
  | none => false
/-- a script that is too short -/
def mcA_chk0 (L : Nat) : Bool := mcA_fin (mcA_loop (mcA_kt L mcA_b0) (mcA_call (mcA_kt L mcA_b0) mcA_F 15) 11 7 false (some .boolean) mc_lawcd mcA_F mcA_S0)
end
section
/-! the law, from each of its cases to its end (own work): decided by the kernel -/
theorem mcA_ok_0 : mcA_chk mcA_bA mcA_bC [256, 354, 367, 380, 405, 454, 503, 517, 554, 579, 604, 617] = true := by decide +kernel
theorem mcA_ok_1 : mcA_chk mcA_bA mcA_bC [630, 643, 656, 669, 706, 720, 757, 794, 831, 884, 921, 946] = true := by decide +kernel
theorem mcA_ok_2 : mcA_chk mcA_bA mcA_bC [960, 997, 1023, 1060, 1113, 1166, 1179, 1204, 1229, 1254, 1267, 1320] = true := by decide +kernel
theorem mcA_ok_3 : mcA_chk mcA_bA mcA_bC [1333, 1346, 1371, 1408, 1433, 1458, 1471, 1508, 1521, 1535, 1673] = true := by decide +kernel
theorem mcA_ok_b : mcA_chk mcA_bB [mcA_top] [329, 1648, 1686] = true := by decide +kernel
theorem mcA_ok0_0 : mcA_chk0 0 = true := by decide +kernel
theorem mcA_ok0_1 : mcA_chk0 1 = true := by decide +kernel
theorem mcA_ok0_2 : mcA_chk0 2 = true := by decide +kernel
theorem mcA_ok0_3 : mcA_chk0 3 = true := by decide +kernel
theorem mcA_ok0_4 : mcA_chk0 4 = true := by decide +kernel
theorem mcA_ok0_5 : mcA_chk0 5 = true := by decide +kernel
end
section
/-! WHAT STANDS AT THE LAW'S ENTRY: the constants, the classes, the words (own work, over the kit's rows) -/
def mc_fl0 : List Cond := flatC (Jvm.Cond.and given_1 narrow_1)
def mc_RE : String := "StrikeAwake$Reserved"
def mc_RD : String := "LStrikeAwake$Reserved;"
def mc_enm : List String := ["LAW", "PERSON", "SEXTON", "APART", "BORN", "STRUCK", "TOLD", "OFFER", "HABIT", "NAP", "AWAY"]
def mc_si (i : Nat) : Nat := [67, 73, 76, 79, 82, 85, 88, 91, 94, 97, 100].getD i 0
theorem mc_m1 : ∀ i, i < 11 → Cond.exactly (.static mc_RE (mc_enm.getD i "") mc_RD) mc_RE ∈ mc_fl0 := by decide +kernel
theorem mc_m2 : ∀ i, i < 11 → Cond.eq (.field (.static mc_RE (mc_enm.getD i "") mc_RD) mc_RE "room" "I") (.int (mc_room i)) ∈ mc_fl0 := by decide +kernel
theorem mc_m3 : ∀ i, i < 11 → Cond.eq (.field (.static mc_RE (mc_enm.getD i "") mc_RD) mc_RE "word" "Ljava/lang/String;") (.string mc_RE (mc_si i)) ∈ mc_fl0 := by decide +kernel
theorem mc_m4 : ∀ i, i < 11 → ∀ j, j < 11 → i ≠ j → (Cond.not (.eq (.static mc_RE (mc_enm.getD i "") mc_RD) (.static mc_RE (mc_enm.getD j "") mc_RD)) ∈ mc_fl0 ∨ Cond.not (.eq (.static mc_RE (mc_enm.getD j "") mc_RD) (.static mc_RE (mc_enm.getD i "") mc_RD)) ∈ mc_fl0) := by decide +kernel
def mc_tR : Term := .static "StrikeAwake" "RESERVED" "[LStrikeAwake$Reserved;"
def mc_tS : Term := .static "StrikeAwake$1" "$SwitchMap$StrikeAwake$Reserved" "[I"
theorem mc_m5 : Cond.arrayOf mc_tR (.object mc_RE) ∈ mc_fl0 ∧ Cond.eq (.length mc_tR) (.int 11) ∈ mc_fl0 ∧ Cond.arrayOf mc_tS .int ∈ mc_fl0 ∧ Cond.eq (.length mc_tS) (.int 11) ∈ mc_fl0 := by decide +kernel
theorem mc_m6 : ∀ i, i < 11 → Cond.eq (.elem mc_tR (.int (Int32.ofNat i))) (.static mc_RE (mc_enm.getD i "") mc_RD) ∈ mc_fl0 := by decide +kernel
theorem mc_m7 : ∀ i, i < 11 → Cond.eq (.elem mc_tS (.int (Int32.ofNat i))) (.int (mc_swm i)) ∈ mc_fl0 := by decide +kernel
theorem mc_m8 : ∀ e ∈ mc_sr, Cond.exactly (.string (mc_cn e.1) e.2.1) "java/lang/String" ∈ mc_fl0 := by decide +kernel
theorem mc_m9 : ∀ e ∈ mc_sr, ∀ e' ∈ mc_sr, e.2.2.2.1 = e'.2.2.2.1 → e = e' := by decide +kernel
theorem mc_m10 : ∀ e ∈ mc_sr, 27 ≤ e.2.2.2.1 ∧ e.2.2.2.1 < 256 := by decide +kernel
theorem mc_m11 : ∀ i, i < 11 → ∃ e ∈ mc_sr, e.2.2.2.1 = 32 + i ∧ mc_cn e.1 = mc_RE ∧ e.2.1 = mc_si i := by decide +kernel
def mc_ls (w : Cond) (l : List Cond) : Bool := l.any (fun x => decide (x = w))
theorem mc_ls_in {w : Cond} {l : List Cond} (h : mc_ls w l = true) : w ∈ l := by
  obtain ⟨x, h1, h2⟩ := List.any_eq_true.mp h
  rw [← of_decide_eq_true h2]
  exact h1
theorem mc_m12 : mc_st.all (fun e => (mc_ls (.laysStatic e.1 e.2.1 e.2.2.1) lw_tbl) && (mc_ls (.initialized e.1) lw_tbl)) = true := by decide +kernel
theorem mc_m13 : mc_st.map (fun e => e.2.2.2) = [1, 2, 16, 17, 18, 19, 20, 21, 22, 23, 24, 25, 26] := by decide +kernel
theorem mc_tb_mem {i : Nat × Nat} {w : Cond} {n : Bool} (h : mc_tb i w n = true) : w ∈ lw_tbl := by
  simp only [mc_tb, Bool.and_eq_true, decide_eq_true_eq] at h
  exact mc_ch_sub _ _ (List.mem_of_getElem? h.1)
theorem mc_k1 {args : Array Value} {s : State} {ty : FieldType} (hp : ∀ C, ty ≠ .object C) (h : (Cond.arrayClass ty).before args s = true) : ∃ cA : ClassId, ArrOfT s cA ty ∧ va_RA s cA ty := by
  obtain ⟨c, kA, comp, h1, h2, h3⟩ := Cond.arrayClass_spec h
  refine ⟨c, fun N z => ⟨(fun k h => by cases h), kA, h2, comp, h3⟩, ?_⟩
  cases ty with
  | object C => exact absurd rfl (hp C)
  | _ => exact h1
theorem mc_k2 {args : Array Value} {s : State} {C : String} (h : (Cond.arrayOver (.object C)).before args s = true) : ∃ cA : ClassId, ArrOfT s cA (.object C) ∧ va_RA s cA (.object C) := by
  obtain ⟨comp, c, kA, h1, h2, h3, h4, h5⟩ := Cond.arrayOver_spec h
  exact ⟨c, fun N z => ⟨(fun k h => by cases h), kA, h3, comp, h4⟩, kA, comp, h3, h4, h1, h5⟩
theorem mc_k3 {args : Array Value} {s : State} {t : FieldType} (h : (Cond.arrayOver (.array t)).before args s = true) : ∃ cA : ClassId, ArrOfT s cA (.array t) ∧ va_RA s cA (.array t) := by
  obtain ⟨comp, c, kA, h1, h2, h3, h4⟩ := Cond.arrayOver_specA h
  exact ⟨c, fun N z => ⟨(fun k h => by cases h), kA, h2, comp, h3⟩, h4⟩
theorem mc_m14 : mc_st = ("StrikeAwake", "RESERVED", "[LStrikeAwake$Reserved;", 1) :: ("StrikeAwake$1", "$SwitchMap$StrikeAwake$Reserved", "[I", 2) :: (List.range 11).map (fun i => (mc_RE, mc_enm.getD i "", mc_RD, 16 + i)) := by decide +kernel
theorem mc_m15 {e : String × String × String × Nat} (h : e ∈ mc_st) : Cond.laysStatic e.1 e.2.1 e.2.2.1 ∈ lw_tbl ∧ Cond.initialized e.1 ∈ lw_tbl := by
  have h1 := List.all_eq_true.mp mc_m12 e h
  simp only [Bool.and_eq_true] at h1
  exact ⟨mc_ls_in h1.1, mc_ls_in h1.2⟩
theorem mc_m16 {i : Nat} (h : i < 11) : (mc_RE, mc_enm.getD i "", mc_RD, 16 + i) ∈ mc_st := by
  rw [mc_m14]
  exact List.mem_cons_of_mem _ (List.mem_cons_of_mem _ (List.mem_map.mpr ⟨i, List.mem_range.mpr h, rfl⟩))
theorem mc_m17 : mc_fr 20 0 = (mc_RE, "word", "Ljava/lang/String;") ∧ mc_fr 20 1 = (mc_RE, "room", "I") := by decide +kernel
def mc_ad (b tR tS : Nat) (ad0 aS : Nat → Nat) (k : Nat) : Nat := if k = 0 then b else if k = 1 then tR else if k = 2 then tS else if 16 ≤ k ∧ k < 27 then ad0 (k - 16) else aS k
theorem mc_ad_en {b tR tS : Nat} {ad0 aS : Nat → Nat} {i : Nat} (h : i < 11) : mc_ad b tR tS ad0 aS (16 + i) = ad0 i := by
  unfold mc_ad
  rw [if_neg (by omega), if_neg (by omega), if_neg (by omega), if_pos (by omega), Nat.add_sub_cancel_left]
theorem mc_ad_st {b tR tS : Nat} {ad0 aS : Nat → Nat} {k : Nat} (h : 27 ≤ k) : mc_ad b tR tS ad0 aS k = aS k := by
  unfold mc_ad
  rw [if_neg (by omega), if_neg (by omega), if_neg (by omega), if_neg (by omega)]
theorem va_T.re {ty : FieldType} {t N : Nat} {f g : Nat → Value} {A : Nat → Prop} {U : State} {H : Heap} (h : va_T ty t N f A U H) (e : ∀ j, j < N → f j = g j) : va_T ty t N g A U H := by
  obtain ⟨cell, h1, h2, h3, h4, h5, h6, h7⟩ := h
  exact ⟨cell, h1, h2, h3, h4, h5, fun j hj => by rw [← e j hj]; exact h6 j hj, h7⟩
theorem mc_start {s : State} {b L : Nat} {xs : Nat → Int32} (hL : L ≤ 6) (hts : ∀ w ∈ lw_tbl, w.before #[Value.ref b] s = true) (hX : va_X b L xs s s.heap) (hbl : b < s.heap.size) (hgv : (Jvm.Cond.and given_1 narrow_1).before #[Value.ref b] s = true) : ∃ G : mc_G, G.2.1 = s.heap.size ∧ G.1 0 = b ∧ mc_B (mc_kt L xs) G s s.heap := by
  have hfl : ∀ w ∈ mc_fl0, w.before #[Value.ref b] s = true := flat_of_before _ hgv
  have hcls : ∀ ci : Nat, ∃ q : ClassId × (Nat → Nat), ci < 11 → u_Kn s (mc_cn ci) (mc_T ci) (mc_N.getD ci 0) q.1 q.2 := by
    intro ci
    by_cases h : ci < 11
    · obtain ⟨cC, iS, h1⟩ := u_known (ws := mc_ws) (fun w hw => hts w (mc_ws_sub w hw)) (mc_in_ws h) (hts _ (mc_ws_sub _ (mc_inst h).1))
      exact ⟨(cC, iS), fun _ => h1⟩
    · exact ⟨(0, fun _ => 0), fun h' => absurd h' h⟩
  obtain ⟨dC, hdC⟩ := Classical.axiomOfChoice hcls
  have hty : ∀ t : Nat, ∃ cA : ClassId, t < 7 → ArrOfT s cA (mc_ty t) ∧ va_RA s cA (mc_ty t) := by
    intro t
    have q0 := mc_k1 (fun C h => by cases h) (hts _ (mc_ws_sub _ (mc_at_mem mc_ac_int)))
    have q1 := mc_k1 (fun C h => by cases h) (hts _ (mc_ws_sub _ (mc_at_mem mc_ac_long)))
    have q2 := mc_k1 (fun C h => by cases h) (hts _ (mc_ws_sub _ (mc_at_mem mc_ac_byte)))
    have q3 := mc_k1 (fun C h => by cases h) (hts _ (mc_ws_sub _ (mc_at_mem mc_ac_boolean)))
    have q4 := mc_k2 (hts _ (mc_tb_mem mc_ao_P))
    have q5 := mc_k3 (hts _ (mc_tb_mem mc_ao_I))
    have q6 := mc_k3 (hts _ (mc_tb_mem mc_ao_J))
    match t with
    | 0 => exact q0.imp fun cA h _ => h
    | 1 => exact q1.imp fun cA h _ => h
    | 2 => exact q2.imp fun cA h _ => h
    | 3 => exact q3.imp fun cA h _ => h
    | 4 => exact q4.imp fun cA h _ => h
    | 5 => exact q5.imp fun cA h _ => h
    | 6 => exact q6.imp fun cA h _ => h
    | t + 7 => exact ⟨0, fun h => absurd h (by omega)⟩
  obtain ⟨dA, hdA⟩ := Classical.axiomOfChoice hty
  have hA : ∀ a : Nat, a < s.heap.size → ¬ (fun q : Nat => s.heap.size ≤ q) a := fun a h h' => absurd h (Nat.not_lt.mpr h')
  obtain ⟨ad0, hE, hev⟩ := va_Enof2 (args := #[Value.ref b]) (s := s) (E := mc_RE) (d := mc_RD) (nm := mc_enm) (F := [(mc_RE, "room", "I", (List.range 11).map mc_room)]) (A := fun q : Nat => s.heap.size ≤ q)
    (fun i hi => hts _ (mc_m15 (mc_m16 hi)).1) (hts _ (mc_m15 (mc_m16 (i := 0) (by omega))).2) (fun i hi => hfl _ (mc_m1 i hi))
    (fun q hq i hi => by
      obtain rfl := List.mem_singleton.mp hq
      have h1 := hfl _ (mc_m2 i hi)
      have h2 : ((List.range 11).map mc_room).getD i 0 = mc_room i := by
        have hi' : i < 11 := hi
        rw [List.getD_eq_getElem?_getD, List.getElem?_map, List.getElem?_range hi']
        rfl
      show (Cond.eq (.field (.static mc_RE (mc_enm.getD i "") mc_RD) mc_RE "room" "I") (.int (((List.range 11).map mc_room).getD i 0))).before _ s = true
      rw [h2]
      exact h1)
    (fun i j hi hj hne => (mc_m4 i hi j hj hne).imp (hfl _) (hfl _)) hA
  have hstr : ∀ k : Nat, ∃ a : Nat, ∀ e ∈ mc_sr, e.2.2.2.1 = k → (Term.string (mc_cn e.1) e.2.1).eval #[Value.ref b] s none [] s = some (.ref a) := by
    intro k
    by_cases h : ∃ e ∈ mc_sr, e.2.2.2.1 = k
    · obtain ⟨e, he, hk⟩ := h
      obtain ⟨a, c9, cell, k9, h1, -⟩ := Cond.exactly_spec (hfl _ (mc_m8 e he))
      refine ⟨a, fun e' he' hk' => ?_⟩
      have := mc_m9 e' he' e he (hk'.trans hk.symm)
      rw [this]
      exact h1
    · exact ⟨0, fun e he hk => absurd ⟨e, he, hk⟩ h⟩
  obtain ⟨aS, haS⟩ := Classical.axiomOfChoice hstr
  obtain ⟨hr1, hr2, hs1, hs2⟩ := mc_m5
  obtain ⟨tR, htR, hTR⟩ := va_Tof (f := fun j => .ref (ad0 j)) (N := 11) (by decide) (hfl _ hr1) (va_eqt (hfl _ hr2)) (fun j hj => va_eqv (hfl _ (mc_m6 j hj)) (hev j hj)) hA
  obtain ⟨tS, htS, hTS⟩ := va_Tof (f := fun j => .int (mc_swm j)) (N := 11) (by decide) (hfl _ hs1) (va_eqt (hfl _ hs2)) (fun j hj => va_eqt (hfl _ (mc_m7 j hj))) hA
  refine ⟨(mc_ad b tR tS ad0 aS, s.heap.size, dA, (fun c => (dC c).1, fun c => (dC c).2)), rfl, rfl, ⟨?_, ?_⟩, ⟨?_, ?_, ?_⟩, ⟨?_, ?_, ?_⟩, ?_, ?_, ?_, ?_, ?_⟩
  · intro c q hq
    rw [mc_cl_eq hq]
    exact hdC c (mc_cl_lt hq)
  · intro k q hq
    obtain ⟨hk, he⟩ := List.getElem?_eq_some_iff.mp hq
    have hk7 : k < 7 := by simpa [mc_tys] using hk
    have he' : (dA k, mc_ty k) = q := by
      rw [← he]
      simp [mc_tys]
    rw [← he']
    exact hdA k hk7
  · exact hts _ (mc_tb_mem mc_ao_P)
  · exact hts _ (mc_tb_mem mc_ao_I)
  · exact hts _ (mc_tb_mem mc_ao_J)
  · intro own r hr e he hn
    obtain ⟨a, i, b9, n, d, x, hw⟩ := mc_fw_nest (own := own) hn
    have h1 := hts _ (mc_tb_mem (mc_each_at mc_fl_ok hr he))
    rw [hw] at h1 ⊢
    exact va_Nw.of rfl h1
  · intro own r hr e he hn
    obtain ⟨a, i, y, x, hw⟩ := mc_mw_nest (own := own) hn
    have h1 := hts _ (mc_tb_mem (mc_each_at mc_ml_ok hr he))
    rw [hw] at h1 ⊢
    exact va_Nw.of rfl h1
  · intro own r hr e he hn
    have h1 := hts _ (mc_tb_mem (mc_each_at mc_sl_ok hr he))
    rcases mc_sw_nest (own := own) hn with ⟨a, i, b9, n, d, x, hw⟩ | hw
    · rw [hw] at h1 ⊢
      exact va_Nw.of rfl h1
    · rw [hw]
      rfl
  · intro j t n f hj
    unfold mc_kt at hj
    split at hj
    · next h0 =>
      cases hj
      subst h0
      obtain ⟨scr, h1, h2, h3, h4, h5⟩ := hX
      exact ⟨scr, h1, h2, h3, Nat.le_of_eq h4.symm, by rw [h4], h5, hA b hbl⟩
    · split at hj
      · next h0 h1 =>
        cases hj
        subst h1
        refine va_T.re hTR fun j hj => ?_
        show Value.ref (ad0 j) = Value.ref (mc_a _ (16 + j))
        rw [mc_a_lo (by omega)]
        show _ = Value.ref (mc_ad b tR tS ad0 aS (16 + j))
        rw [mc_ad_en hj]
      · split at hj
        · next h0 h1 h2 =>
          cases hj
          subst h2
          exact hTS
        · split at hj <;> cases hj
  · intro j ci fs hj
    unfold mc_kt at hj
    split at hj
    · cases hj
    · split at hj
      · cases hj
      · split at hj
        · cases hj
        · split at hj
          · next h3 =>
            cases hj
            obtain ⟨i, rfl⟩ : ∃ i, j = 16 + i := ⟨j - 16, by omega⟩
            have hi : i < 11 := by omega
            intro k v hk
            show va_OF _ _ _ _ (mc_ad b tR tS ad0 aS (16 + i)) _ _ _
            rw [mc_ad_en hi]
            match k, hk with
            | 0, hk =>
              cases hk
              rw [mc_m17.1]
              obtain ⟨e, he, g1, g2, g3⟩ := mc_m11 i hi
              have hst := haS (32 + i) e he g1
              rw [g2, g3] at hst
              show va_OF _ _ _ (Value.ref (mc_a _ (16 + (16 + i)))) _ _ _ _
              rw [mc_a_lo (by omega)]
              show va_OF _ _ _ (Value.ref (mc_ad b tR tS ad0 aS (16 + (16 + i)))) _ _ _ _
              rw [mc_ad_st (by omega), show 16 + (16 + i) = 32 + i by omega]
              exact vk_OFof (hev i hi) (va_eqv (hfl _ (mc_m3 i hi)) hst) hA
            | 1, hk =>
              cases hk
              rw [mc_m17.2, Nat.add_sub_cancel_left]
              exact vk_OFof (hev i hi) (va_eqt (hfl _ (mc_m2 i hi))) hA
            | k + 2, hk => cases hk
          · cases hj
  · intro e he
    have hw := mc_m15 he
    have hk : e.2.2.2 < 256 ∧ (Term.static e.1 e.2.1 e.2.2.1).eval #[Value.ref b] s none [] s = some (.ref (mc_ad b tR tS ad0 aS e.2.2.2)) := by
      rw [mc_m14] at he
      rcases List.mem_cons.mp he with rfl | he
      · exact ⟨by decide, htR⟩
      · rcases List.mem_cons.mp he with rfl | he
        · exact ⟨by decide, htS⟩
        · obtain ⟨i, hi, rfl⟩ := List.mem_map.mp he
          have hi' := List.mem_range.mp hi
          refine ⟨by show 16 + i < 256; omega, ?_⟩
          show _ = some (Value.ref (mc_ad b tR tS ad0 aS (16 + i)))
          rw [mc_ad_en hi']
          exact hev i hi'
    show va_Z e.1 e.2.1 e.2.2.1 (.ref (mc_a _ e.2.2.2)) _ _ _
    rw [mc_a_lo hk.1]
    exact va_Zref (hts _ hw.1) (hts _ hw.2) hk.2 hA
  · intro e he
    have h1 := List.all_eq_true.mp mc_sr_ok e he
    simp only [Bool.and_eq_true, decide_eq_true_eq] at h1
    have h2 := hts _ (mc_ch_sub _ _ (List.mem_of_getElem? h1.1))
    rw [mc_a_lo h1.2]
    show vk_R _ _ _ (mc_ad b tR tS ad0 aS e.2.2.2.1) _
    rw [mc_ad_st (mc_m10 e he).1]
    exact vk_R.of h2 (haS _ e he rfl)
  · intro i j h1 h2 h3 h4 h5
    obtain ⟨i', rfl⟩ : ∃ i', i = 16 + i' := ⟨i - 16, by omega⟩
    obtain ⟨j', rfl⟩ : ∃ j', j = 16 + j' := ⟨j - 16, by omega⟩
    have h6 : mc_ad b tR tS ad0 aS (16 + i') = mc_ad b tR tS ad0 aS (16 + j') := h5
    rw [mc_ad_en (by omega), mc_ad_en (by omega)] at h6
    have := hE.2 i' j' (by show i' < 11; omega) (by show j' < 11; omega) h6
    omega
end
section
/-! THE CLAIM OUT OF ONE WALK OF THE LAW'S BODY. Your part is whole_start (and what it stands on); all else here is the same for every law, but numbers. -/
def R_law : String := "StrikeAwakeLaw"
def lw_P (b : Addr) (xs : List Int32) (args : Array Value) (s : State) : Prop := args = #[.ref b] ∧ s.IntsAt b xs ∧ xs.length ≤ 6 ∧ (Jvm.Cond.and given_1 narrow_1).before args s = true
def lw_Q (_ : Array Value) (s : State) (o : Outcome) (t : State) : Prop := o = .returned (some (.int 1)) ∧ Framed s o t [] 600002 7302232
def lw_Z (below : List Frame) (a : Array Value) (s : State) : State → Prop := fun t => ∃ o, t.status = .running ∧ Ended t below o ∧ lw_Q a s o t
/-- the law's own end, with 1 on the stack, nothing written that was there before, its room as the claim has it -/
theorem lw_ret {p : Program} {l : Launch} {e : Env} {s : State} {m : MethodId} {below : List Frame} {meth : Method} {c : Code} {b : Nat} (hx : p.tables.exec = Jvm.exec) (hb : c.code = code) (hr : meth.sig.returnType = ret) (hlocks : meth.locks = false) {pc : Nat} {H : Heap} {ls : Array Slot} (hdg : decode code pc = .ok (.ireturn, 1)) : W p l e room_1 s m #[Value.ref b] below meth c H [] 600002 7302232 (lw_Z below #[Value.ref b] s) (F0 m pc ls [.int 1]) := by
  intro T hT X
  obtain ⟨fs, hret, hrun, hended, hW, hframe⟩ := X.leave (v := some (.int 1)) (hlocks := hlocks) (fun h => by rw [hr] at h; cases h)
  have hmeth' : T.vm.method? m = some meth := X.method'
  refine ⟨T.setFrames fs, ?_, .returned (some (.int 1)), hrun, hended, rfl, ⟨_, rfl⟩, hW, hframe⟩
  jvm_step X.here [X.here.top, hx, hb, hdg, hmeth', hr, ret, narrow_b1]
  (try refine ⟨rfl, ?_⟩); (try refine ⟨rfl, ?_⟩)
  first | (intro acts; rw [hret _ acts rfl rfl rfl]) | rw [hret _ _ rfl rfl rfl]
  exact Steps.refl _
/-- what holds at the law's entry: the machine, the code, the tables' words (any of lw_tbl by 'hts w (by decide +kernel)'), the script of L ints xs at the cell b, what the Statement gives of the start (any of its parts by flat_of_before) -/
def lw_At (p : Program) (s : State) (m : MethodId) (meth : Method) (c : Code) (b L : Nat) (xs : Nat → Int32) : Prop :=
  p.tables.exec = Jvm.exec ∧ c.code = code ∧ meth.sig.returnType = ret ∧ c.maxLocals = 7 ∧ s.vm.findClass R_law = some m.cls ∧ (∀ w ∈ lw_tbl, w.before #[Value.ref b] s = true) ∧ va_X b L xs s s.heap ∧ b < s.heap.size ∧ meth.locks = false ∧ (Jvm.Cond.and given_1 narrow_1).before #[Value.ref b] s = true
end
section
/-! THE LAW'S WALK BY THE MINI MACHINE (own work) -/
theorem mc_ret_b {st : List Value} {M : mc_M} {w : mc_R} (h : mc_ret (some .boolean) st M = some (.inr w)) : ∃ v, st = [.int v] ∧ w = (some (.int v), M) := by
  unfold mc_ret at h
  split at h
  · cases h
    exact ⟨_, rfl, rfl⟩
  · obtain ⟨-, h⟩ := mc_n_t h
    cases h
    exact ⟨_, rfl, rfl⟩
  · cases h
section MC9
variable {kt : Nat → Option mc_E} {own : Nat} {ini : Bool} {ret9 : Option FieldType} {cc : ByteArray}
variable {G : mc_G} {p : Program} {l : Launch} {e : Env} {R : Room} {s : State} {m : MethodId} {args : Array Value} {below : List Frame} {meth : Method} {c : Code} {Q : State → Prop} {nL l0 z0 : Nat}
theorem mc_seg_le {call : Nat → List Value → mc_M → Option mc_R} (IHle : ∀ (k : Nat) (as : List Value) (M : mc_M) (w : mc_R), call k as M = some w → mc_le M w.2) : ∀ (n : Nat) (S T : mc_S), mc_seg kt call own nL ini ret9 cc n S = some T → mc_le S.2.2.2 T.2.2.2
  | 0, S, T, h => by
    unfold mc_seg at h
    cases h
    exact mc_le_rf _
  | n + 1, S, T, h => by
    unfold mc_seg at h
    split at h
    · next x k hd =>
      split at h
      · next S1 hs => exact mc_le.tr (mc_step_k IHle hs) (mc_seg_le IHle n S1 T h)
      · cases h
    · cases h
theorem mc_seg_ok (C : mc_X kt G own nL ini ret9 cc p s m args meth c) {call : Nat → List Value → mc_M → Option mc_R} {d : Nat} (IH : ∀ (k : Nat) (q : Nat × MethodName × ByteArray × Nat × Option FieldType × Nat × Nat) (as : List Value) (M : mc_M) (w : mc_R), mc_mt k = some q → call k as M = some w → mc_Met l kt G d q as M w ∧ mc_le M w.2) (IHle : ∀ (k : Nat) (as : List Value) (M : mc_M) (w : mc_R), call k as M = some w → mc_le M w.2) (hF : d + 1 ≤ R.frames ∧ 36 * (d + 1) ≤ R.locals) {T : mc_S} (hR : T.2.2.2.length ≤ R.cells + l0 ∧ mc_sz T.2.2.2 ≤ R.slots + z0)
    (kk : mc_W G p l e R s m args below meth c Q nL l0 z0 T) : ∀ (n : Nat) (S : mc_S), mc_seg kt call own nL ini ret9 cc n S = some T → mc_W G p l e R s m args below meth c Q nL l0 z0 S
  | 0, S, h => by
    unfold mc_seg at h
    cases h
    exact kk
  | n + 1, S, h => by
    unfold mc_seg at h
    split at h
    · next x k hd =>
      split at h
      · next S1 hs =>
        have hle := mc_seg_le IHle n S1 T h
        exact mc_step_ok C IH hF hd hs ⟨Nat.le_trans hle.1 hR.1, Nat.le_trans hle.2 hR.2⟩ (mc_seg_ok C IH IHle hF hR kk n S1 h)
      · cases h
    · cases h
/-- the law's own end -/
theorem mc_lfin {b : Nat} (C : mc_X kt G 11 7 false (some .boolean) code p s m #[Value.ref b] meth c) (hbase : G.2.1 = s.heap.size) {call : Nat → List Value → mc_M → Option mc_R} {w : mc_R} (hw : w.1 = some (.int 1)) (hsz : w.2.length ≤ 600002 ∧ mc_sz w.2 ≤ 7302232) (S : mc_S) (x : Instr) (n : Nat) (hd : decode code S.1 = .ok (x, n)) (h : mc_step kt call 11 7 false (some .boolean) x n S = some (.inr w)) : mc_W G p l e room_1 s m #[Value.ref b] below meth c (lw_Z below #[Value.ref b] s) 7 0 0 S := by
  obtain ⟨pc, L, st, M⟩ := S
  obtain ⟨hx, hb, hown, hts, hml, hB, hba, hini, hlk, hret⟩ := C
  rcases mc_end_of h with ⟨rfl, rfl, h8⟩ | ⟨rfl, rfl, h8⟩ | ⟨rfl, rfl, h8⟩ | ⟨rfl, rfl, h8⟩
  · have h8 : mc_ret (some .boolean) st M = some (.inr w) := h8
    obtain ⟨v, rfl, rfl⟩ := mc_ret_b h8
    cases hw
    intro H locs ls cells slots hH hS hl hc hz
    have hc : cells + 0 = M.length := hc
    have hz : slots + 0 = mc_sz M := hz
    have hsz1 : M.length ≤ 600002 := hsz.1
    have hsz2 : mc_sz M ≤ 7302232 := hsz.2
    refine va_forget (fun q hq => ?_) (W.widen (k := 600002) (n := 7302232) (by omega) (by omega) ?_)
    · have h1 : G.2.1 ≤ q.base := hS.2.2 q hq
      omega
    · exact lw_ret hx hb hret hlk hd
  · cases h8
  · cases h8
  · cases h8
end MC9
theorem mcA_sz_eq : ∀ {MA : mcA_M} {M : mc_M}, mcA_R2 mcA_gE MA M → mc_sz M = (MA.map mcA_es).sum
  | [], [], _ => rfl
  | a :: as, b :: bs, h => by
    have h1 := mcA_sz_eq h.2
    have h2 : mc_es b = mcA_es a := by
      match a, b, h.1 with
      | .inl x, .inl y, h0 => exact h0.2.1.symm
      | .inr x, .inr y, h0 => exact (mcA_R2.len h0.2).symm
    unfold mc_sz at h1 ⊢
    rw [List.map_cons, List.sum_cons, List.map_cons, List.sum_cons, h1, h2]
  | [], _ :: _, h => h.elim
  | _ :: _, [], h => h.elim
theorem mcA_fin_of {w : Option mcA_R} (h : mcA_fin w = true) : ∃ M : mcA_M, w = some (some (.inl (.int 1)), M) ∧ M.length ≤ 5000 ∧ (M.map mcA_es).sum ≤ 1000000 := by
  unfold mcA_fin at h
  split at h
  · next v M =>
    simp only [Bool.and_eq_true, beq_iff_eq, decide_eq_true_eq] at h
    obtain ⟨⟨rfl, h1⟩, h2⟩ := h
    exact ⟨M, rfl, h1, h2⟩
  · cases h
section MC10
variable {p : Program} {l : Launch} {e : Env} {s : State} {m : MethodId} {below : List Frame} {meth : Method} {c : Code} {b L : Nat} {xs : Nat → Int32} {G : mc_G}
/-- from a state that the mini machine with unknown numbers brings to the end -/
theorem mc_law_run (C : mc_X (mc_kt L xs) G 11 7 false (some .boolean) code p s m #[Value.ref b] meth c) (hbase : G.2.1 = s.heap.size) {bx : Nat → mc_V} (hg : ∀ j, mc_g (bx j) (.int (xs j))) {SA : mcA_S} {S : mc_S} (hS : mcA_gS SA S) {n : Nat} (h : mcA_fin (mcA_loop (mcA_kt L bx) (mcA_call (mcA_kt L bx) mcA_F 15) 11 7 false (some .boolean) mc_lawcd n SA) = true) : mc_W G p l e room_1 s m #[Value.ref b] below meth c (lw_Z below #[Value.ref b] s) 7 0 0 S := by
  obtain ⟨MA, h1, h2, h3⟩ := mcA_fin_of h
  have hk := mcA_kt_ok (L := L) (xs := xs) hg
  obtain ⟨w, h4, h5⟩ := mcA_loop_ok hk (mcA_call_ok hk 15) (cc := code) (fun pc x hd => mc_lawcd_ok hd) n SA S _ hS h1
  have h6 : w.1 = some (.int 1) := by
    obtain ⟨w1, w2⟩ := w
    match w1, h5.1 with
    | some v, h7 =>
      have h7 : v = .int 1 := h7
      rw [h7]
  have h7 : mcA_R2 mcA_gE MA w.2 := h5.2
  have h8 : w.2.length ≤ 600002 := by rw [← h7.len]; omega
  have h9 : mc_sz w.2 ≤ 7302232 := by rw [mcA_sz_eq h7]; omega
  exact mc_loop_ok (R := room_1) C (mc_call_ok l 15) (mc_call_le 15) ⟨by decide, by decide⟩ (w := w) ⟨h8, h9⟩ (mc_lfin C hbase h6 ⟨h8, h9⟩) n S h4
end MC10
theorem mcA_top_g (z : Int32) : mc_g mcA_top (.int z) := ⟨z, rfl, Int32.le_toInt z, by have := Int32.toInt_lt z; show z.toInt ≤ 2147483647; omega⟩
theorem mcA_bA_g (z : Int32) : ∃ v ∈ mcA_bA, mc_g v (.int z) := by
  by_cases h : z.toInt < 0
  · exact ⟨mcA_neg, List.mem_cons_self, z, rfl, Int32.le_toInt z, by show z.toInt ≤ -1; omega⟩
  · exact ⟨mcA_nn, List.mem_cons_of_mem _ List.mem_cons_self, z, rfl, by show 0 ≤ z.toInt; omega, by have := Int32.toInt_lt z; show z.toInt ≤ 2147483647; omega⟩
theorem mcA_bC_g (z : Int32) : ∃ v ∈ mcA_bC, mc_g v (.int z) := by
  by_cases h : z.toInt < 0
  · exact ⟨mcA_neg, List.mem_cons_self, z, rfl, Int32.le_toInt z, by show z.toInt ≤ -1; omega⟩
  · by_cases h0 : z.toInt = 0
    · have hz : z = 0 := Int32.toInt_inj.mp (by rw [h0]; rfl)
      subst hz
      exact ⟨mcA_zero, List.mem_cons_of_mem _ List.mem_cons_self, rfl⟩
    · exact ⟨mcA_pos, List.mem_cons_of_mem _ (List.mem_cons_of_mem _ List.mem_cons_self), z, rfl, by show 1 ≤ z.toInt; omega, by have := Int32.toInt_lt z; show z.toInt ≤ 2147483647; omega⟩
theorem mcA_bB_g (z : Int32) : ∃ v ∈ mcA_bB, mc_g v (.int z) := by
  by_cases h : z.toInt < 0
  · exact ⟨mcA_neg, List.mem_cons_self, z, rfl, Int32.le_toInt z, by show z.toInt ≤ -1; omega⟩
  · by_cases h0 : 10 ≤ z.toInt
    · exact ⟨mcA_ten, by unfold mcA_bB; simp, z, rfl, by show 10 ≤ z.toInt; omega, by have := Int32.toInt_lt z; show z.toInt ≤ 2147483647; omega⟩
    · have hz : ∀ k : Int32, z.toInt = k.toInt → z = k := fun k hk => Int32.toInt_inj.mp hk
      have h9 : z = 0 ∨ z = 1 ∨ z = 2 ∨ z = 3 ∨ z = 4 ∨ z = 5 ∨ z = 6 ∨ z = 7 ∨ z = 8 ∨ z = 9 := by
        have h10 : z.toInt = 0 ∨ z.toInt = 1 ∨ z.toInt = 2 ∨ z.toInt = 3 ∨ z.toInt = 4 ∨ z.toInt = 5 ∨ z.toInt = 6 ∨ z.toInt = 7 ∨ z.toInt = 8 ∨ z.toInt = 9 := by omega
        rcases h10 with h | h | h | h | h | h | h | h | h | h
        · exact Or.inl (hz 0 h)
        · exact Or.inr (Or.inl (hz 1 h))
        · exact Or.inr (Or.inr (Or.inl (hz 2 h)))
        · exact Or.inr (Or.inr (Or.inr (Or.inl (hz 3 h))))
        · exact Or.inr (Or.inr (Or.inr (Or.inr (Or.inl (hz 4 h)))))
        · exact Or.inr (Or.inr (Or.inr (Or.inr (Or.inr (Or.inl (hz 5 h))))))
        · exact Or.inr (Or.inr (Or.inr (Or.inr (Or.inr (Or.inr (Or.inl (hz 6 h)))))))
        · exact Or.inr (Or.inr (Or.inr (Or.inr (Or.inr (Or.inr (Or.inr (Or.inl (hz 7 h))))))))
        · exact Or.inr (Or.inr (Or.inr (Or.inr (Or.inr (Or.inr (Or.inr (Or.inr (Or.inl (hz 8 h)))))))))
        · exact Or.inr (Or.inr (Or.inr (Or.inr (Or.inr (Or.inr (Or.inr (Or.inr (Or.inr (hz 9 h)))))))))
      rcases h9 with rfl | rfl | rfl | rfl | rfl | rfl | rfl | rfl | rfl | rfl
      · exact ⟨.inl (.int 0), by unfold mcA_bB; simp, rfl⟩
      · exact ⟨.inl (.int 1), by unfold mcA_bB; simp, rfl⟩
      · exact ⟨.inl (.int 2), by unfold mcA_bB; simp, rfl⟩
      · exact ⟨.inl (.int 3), by unfold mcA_bB; simp, rfl⟩
      · exact ⟨.inl (.int 4), by unfold mcA_bB; simp, rfl⟩
      · exact ⟨.inl (.int 5), by unfold mcA_bB; simp, rfl⟩
      · exact ⟨.inl (.int 6), by unfold mcA_bB; simp, rfl⟩
      · exact ⟨.inl (.int 7), by unfold mcA_bB; simp, rfl⟩
      · exact ⟨.inl (.int 8), by unfold mcA_bB; simp, rfl⟩
      · exact ⟨.inl (.int 9), by unfold mcA_bB; simp, rfl⟩
theorem mcA_box_g {xs : Nat → Int32} {b1 b2 : mc_V} (h1 : mc_g b1 (.int (xs 1))) (h2 : mc_g b2 (.int (xs 2))) (j : Nat) : mc_g (mcA_box b1 b2 j) (.int (xs j)) := by
  unfold mcA_box
  split
  · next h => rw [h]; exact h1
  · split
    · next h => rw [h]; exact h2
    · exact mcA_top_g _
end
section
/-! A SCRIPT OF SIX, a short one (own work) -/
def mc_tg : List Nat := [256, 329, 354, 367, 380, 405, 454, 503, 517, 554, 579, 604, 617, 630, 643, 656, 669, 706, 720, 757, 794, 831, 884, 921, 946, 960, 997, 1023, 1060, 1113, 1166, 1179, 1204, 1229, 1254, 1267, 1320, 1333, 1346, 1371, 1408, 1433, 1458, 1471, 1508, 1521, 1535, 1592, 1648, 1673]
def mcA_hd : Bool := match mcA_lseg mcA_b0 24 with
  | some S => match S.2.2.1 with
    | [.inr (some _)] => decide (S.1 = 40) && decide (S.2.2.2.length ≤ 5000) && decide ((S.2.2.2.map mcA_es).sum ≤ 1000000)
    | _ => false
  | none => false
theorem mcA_hd_ok : mcA_hd = true := by decide +kernel
def mcA_sw : Bool := match mc_lawcd 40 with
  | some (.tableswitch d lo hi offs, _) => decide (d = 1646) && decide (lo = 0) && decide (hi = 49) && decide (offs.toList.map (fun o => (40 + o).toNat) = mc_tg) && offs.toList.all (fun o => decide (0 ≤ 40 + o))
  | _ => false
theorem mcA_sw_ok : mcA_sw = true := by decide +kernel
theorem mc_tg_in0 : (List.range 50).all (fun z => decide (z = 1) || decide (z = 47) || decide (z = 48) || [256, 354, 367, 380, 405, 454, 503, 517, 554, 579, 604, 617].contains (mc_tg.getD z 0) || [630, 643, 656, 669, 706, 720, 757, 794, 831, 884, 921, 946].contains (mc_tg.getD z 0) || [960, 997, 1023, 1060, 1113, 1166, 1179, 1204, 1229, 1254, 1267, 1320].contains (mc_tg.getD z 0) || [1333, 1346, 1371, 1408, 1433, 1458, 1471, 1508, 1521, 1535, 1673].contains (mc_tg.getD z 0)) = true := by decide +kernel
theorem mc_tg_in (z : Nat) (h : z < 50) (h1 : z ≠ 1) (h2 : z ≠ 47) (h3 : z ≠ 48) : mc_tg.getD z 0 ∈ [256, 354, 367, 380, 405, 454, 503, 517, 554, 579, 604, 617] ∨ mc_tg.getD z 0 ∈ [630, 643, 656, 669, 706, 720, 757, 794, 831, 884, 921, 946] ∨ mc_tg.getD z 0 ∈ [960, 997, 1023, 1060, 1113, 1166, 1179, 1204, 1229, 1254, 1267, 1320] ∨ mc_tg.getD z 0 ∈ [1333, 1346, 1371, 1408, 1433, 1458, 1471, 1508, 1521, 1535, 1673] := by
  have h0 := List.all_eq_true.mp mc_tg_in0 z (List.mem_range.mpr h)
  simp only [Bool.or_eq_true, decide_eq_true_eq, List.contains_iff_mem] at h0
  rcases h0 with (((((((h0 | h0) | h0) | h0) | h0) | h0) | h0))
  · exact absurd h0 h1
  · exact absurd h0 h2
  · exact absurd h0 h3
  · exact Or.inl h0
  · exact Or.inr (Or.inl h0)
  · exact Or.inr (Or.inr (Or.inl h0))
  · exact Or.inr (Or.inr (Or.inr h0))
theorem mcA_chk_of {l1 l2 : List mc_V} {tgts : List Nat} (h : mcA_chk l1 l2 tgts = true) {SA : mcA_S} (hs : mcA_lseg mcA_b0 24 = some SA) {t : Nat} (ht : t ∈ tgts) {b1 b2 : mc_V} (h1 : b1 ∈ l1) (h2 : b2 ∈ l2) : mcA_run b1 b2 t SA = true := by
  unfold mcA_chk at h
  rw [hs] at h
  simp only [Bool.and_eq_true] at h
  exact List.all_eq_true.mp (List.all_eq_true.mp (List.all_eq_true.mp h.2 t ht) b1 h1) b2 h2
section MC11
variable {p : Program} {l : Launch} {e : Env} {s : State} {m : MethodId} {below : List Frame} {meth : Method} {c : Code} {b : Nat} {xs : Nat → Int32} {G : mc_G}
/-- from a place of the switch with these bounds -/
theorem mc_six_at (C : mc_X (mc_kt 6 xs) G 11 7 false (some .boolean) code p s m #[Value.ref b] meth c) (hbase : G.2.1 = s.heap.size) {SA : mcA_S} {S : mc_S} (hS : mcA_gS SA S) {b1 b2 : mc_V} (h1 : mc_g b1 (.int (xs 1))) (h2 : mc_g b2 (.int (xs 2))) {t : Nat} (h : mcA_run b1 b2 t SA = true) : mc_W G p l e room_1 s m #[Value.ref b] below meth c (lw_Z below #[Value.ref b] s) 7 0 0 (t, S.2.1, [], S.2.2.2) :=
  mc_law_run C hbase (mcA_box_g h1 h2) (SA := (t, SA.2.1, [], SA.2.2.2)) ⟨rfl, hS.2.1, trivial, hS.2.2.2⟩ h
theorem mc_six (C : mc_X (mc_kt 6 xs) G 11 7 false (some .boolean) code p s m #[Value.ref b] meth c) (hbase : G.2.1 = s.heap.size)
    (hled : ∀ (SA : mcA_S) (S : mc_S), mcA_lseg mcA_b0 24 = some SA → mcA_gS SA S → mc_W G p l e room_1 s m #[Value.ref b] below meth c (lw_Z below #[Value.ref b] s) 7 0 0 (1592, S.2.1, [], S.2.2.2)) : mc_W G p l e room_1 s m #[Value.ref b] below meth c (lw_Z below #[Value.ref b] s) 7 0 0 (0, [(0, .ref 0)], [], []) := by
  have hk := mcA_kt_ok (L := 6) (xs := xs) (bx := mcA_b0) (fun j => mcA_top_g _)
  have h0 := mcA_hd_ok
  unfold mcA_hd at h0
  split at h0
  · next SA hSA =>
    split at h0
    · next z hz =>
      simp only [Bool.and_eq_true, decide_eq_true_eq] at h0
      obtain ⟨⟨h40, hf1⟩, hf2⟩ := h0
      obtain ⟨S, h1, hS⟩ := mcA_seg_ok hk (mcA_call_ok hk 15) (cc := code) (fun pc x hd => mc_lawcd_ok hd) 24 mcA_S0 (0, [(0, .ref 0)], [], []) SA ⟨rfl, ⟨⟨rfl, rfl⟩, trivial⟩, trivial, trivial⟩ hSA
      have hfit : S.2.2.2.length ≤ 600002 ∧ mc_sz S.2.2.2 ≤ 7302232 := by
        have h7 := hS.2.2.2
        rw [← h7.len, mcA_sz_eq h7]
        exact ⟨by omega, by omega⟩
      refine mc_seg_ok (R := room_1) C (mc_call_ok l 15) (mc_call_le 15) ⟨by decide, by decide⟩ hfit ?_ 24 _ h1
      obtain ⟨pc, Lc, st, M⟩ := S
      have hpc : pc = 40 := hS.1.symm.trans h40
      subst hpc
      have hst : mcA_R2 mc_g SA.2.2.1 st := hS.2.2.1
      rw [hz] at hst
      match st, hst with
      | [v], hst =>
        obtain ⟨x, hx, -, -⟩ := hst.1
        subst hx
        have hsw := mcA_sw_ok
        unfold mcA_sw at hsw
        split at hsw
        · next d lo hi offs n hd =>
          simp only [Bool.and_eq_true, decide_eq_true_eq] at hsw
          obtain ⟨⟨⟨⟨rfl, rfl⟩, rfl⟩, ho⟩, hp⟩ := hsw
          have hd' : decode code 40 = .ok (.tableswitch 1646 0 49 offs, n) := mc_lawcd_ok hd
          have go : ∀ t : Nat, mc_tsw 1646 0 49 offs 40 Lc [.int x] M = some (.inl (t, Lc, [], M)) → mc_W G p l e room_1 s m #[Value.ref b] below meth c (lw_Z below #[Value.ref b] s) 7 0 0 (t, Lc, [], M) → mc_W G p l e room_1 s m #[Value.ref b] below meth c (lw_Z below #[Value.ref b] s) 7 0 0 (40, Lc, [.int x], M) := fun t ht kk =>
            mc_step_ok (R := room_1) C (call := mc_call (mc_kt 6 xs) mcA_F 15) (mc_call_ok l 15) ⟨by decide, by decide⟩ hd' (S0 := (40, Lc, [.int x], M)) (S := (t, Lc, [], M)) ht hfit kk
          obtain ⟨b1, hb1, g1⟩ := mcA_bA_g (xs 1)
          obtain ⟨b2, hb2, g2⟩ := mcA_bC_g (xs 2)
          obtain ⟨b3, hb3, g3⟩ := mcA_bB_g (xs 1)
          by_cases hx : x.toInt < 0 ∨ 49 < x.toInt
          · refine go 1686 ?_ (mc_six_at (S := (40, Lc, [.int x], M)) C hbase hS g3 (mcA_top_g _) (mcA_chk_of mcA_ok_b hSA (by decide) hb3 List.mem_cons_self))
            show (if x.toInt < 0 ∨ 49 < x.toInt then mc_jp 40 1646 Lc [] M else match offs[(x.toInt - 0).toNat]? with | some off => mc_jp 40 off Lc [] M | none => none) = _
            rw [if_pos hx]
            rfl
          · obtain ⟨k, hk50⟩ : ∃ k : Nat, x.toInt = (k : Int) := ⟨x.toInt.toNat, by omega⟩
            have hk5 : k < 50 := by omega
            have hlo : offs.toList.length = 50 := by
              have := congrArg List.length ho
              rw [List.length_map] at this
              exact this
            have hto : ∃ off : Int, offs[k]? = some off ∧ 0 ≤ 40 + off ∧ (40 + off).toNat = mc_tg.getD k 0 := by
              have hk6 : k < offs.toList.length := by omega
              refine ⟨offs.toList[k], ?_, ?_, ?_⟩
              · rw [← Array.getElem?_toList]
                exact List.getElem?_eq_getElem hk6
              · exact of_decide_eq_true (List.all_eq_true.mp hp _ (List.getElem_mem hk6))
              · rw [← ho, List.getD_eq_getElem?_getD, List.getElem?_map, List.getElem?_eq_getElem hk6]
                rfl
            obtain ⟨off, ho1, ho2, ho3⟩ := hto
            have hjp : mc_tsw 1646 0 49 offs 40 Lc [.int x] M = some (.inl (mc_tg.getD k 0, Lc, [], M)) := by
              show (if x.toInt < 0 ∨ 49 < x.toInt then mc_jp 40 1646 Lc [] M else match offs[(x.toInt - 0).toNat]? with | some off => mc_jp 40 off Lc [] M | none => none) = _
              rw [if_neg hx, hk50, Int.sub_zero, Int.toNat_natCast, ho1]
              show mc_jp 40 off Lc [] M = _
              unfold mc_jp
              rw [if_pos (by exact ho2)]
              show mc_go (((40 : Nat) : Int) + off).toNat Lc [] M = _
              rw [show (((40 : Nat) : Int) + off).toNat = mc_tg.getD k 0 from ho3]
              rfl
            refine go _ hjp ?_
            by_cases k1 : k = 1
            · subst k1
              exact mc_six_at (S := (40, Lc, [.int x], M)) C hbase hS g3 (mcA_top_g _) (mcA_chk_of mcA_ok_b hSA (by decide) hb3 List.mem_cons_self)
            · by_cases k48 : k = 48
              · subst k48
                exact mc_six_at (S := (40, Lc, [.int x], M)) C hbase hS g3 (mcA_top_g _) (mcA_chk_of mcA_ok_b hSA (by decide) hb3 List.mem_cons_self)
              · by_cases k47 : k = 47
                · subst k47
                  exact hled SA (40, Lc, [.int x], M) hSA hS
                · rcases mc_tg_in k hk5 k1 k47 k48 with h | h | h | h
                  · exact mc_six_at (S := (40, Lc, [.int x], M)) C hbase hS g1 g2 (mcA_chk_of mcA_ok_0 hSA h hb1 hb2)
                  · exact mc_six_at (S := (40, Lc, [.int x], M)) C hbase hS g1 g2 (mcA_chk_of mcA_ok_1 hSA h hb1 hb2)
                  · exact mc_six_at (S := (40, Lc, [.int x], M)) C hbase hS g1 g2 (mcA_chk_of mcA_ok_2 hSA h hb1 hb2)
                  · exact mc_six_at (S := (40, Lc, [.int x], M)) C hbase hS g1 g2 (mcA_chk_of mcA_ok_3 hSA h hb1 hb2)
        · cases hsw
    · cases h0
  · cases h0
theorem mcA_short : ∀ L, L < 6 → mcA_chk0 L = true
  | 0, _ => mcA_ok0_0
  | 1, _ => mcA_ok0_1
  | 2, _ => mcA_ok0_2
  | 3, _ => mcA_ok0_3
  | 4, _ => mcA_ok0_4
  | 5, _ => mcA_ok0_5
  | L + 6, h => absurd h (by omega)
end MC11
/-- THE WALK, but for the one case with an exception -/
theorem mc_walk {p : Program} {e : Env} {s : State} {m : MethodId} {below : List Frame} {meth : Method} {c : Code} (l : Launch) {b L : Nat} {xs : Nat → Int32} (hL : L ≤ 6) (C0 : lw_At p s m meth c b L xs)
    (hled : ∀ (G : mc_G), G.2.1 = s.heap.size → mc_X (mc_kt 6 xs) G 11 7 false (some .boolean) code p s m #[Value.ref b] meth c → ∀ (SA : mcA_S) (S : mc_S), mcA_lseg mcA_b0 24 = some SA → mcA_gS SA S → mc_W G p l e room_1 s m #[Value.ref b] below meth c (lw_Z below #[Value.ref b] s) 7 0 0 (1592, S.2.1, [], S.2.2.2)) :
    W p l e room_1 s m #[Value.ref b] below meth c s.heap [] 0 0 (lw_Z below #[Value.ref b] s) (entryFrame m ([Value.ref b] : List Value).toArray 7) := by
  obtain ⟨hx, hb, hr, hml, hown, hts, hX, hbl, hlk, hgv⟩ := C0
  obtain ⟨G, hbase, hG0, hB⟩ := mc_start hL hts hX hbl hgv
  have C : mc_X (mc_kt L xs) G 11 7 false (some .boolean) code p s m #[Value.ref b] meth c := ⟨hx, hb, hown, fun w hw => hts w (mc_ws_sub w hw), hml, hB, Nat.le_of_eq hbase, (fun h => by cases h), hlk, hr⟩
  have key : mc_W G p l e room_1 s m #[Value.ref b] below meth c (lw_Z below #[Value.ref b] s) 7 0 0 (0, [(0, .ref 0)], [], []) := by
    by_cases h6 : L = 6
    · subst h6
      exact mc_six C hbase (hled G hbase C)
    · have h1 := mcA_short L (by omega)
      unfold mcA_chk0 at h1
      exact mc_law_run C hbase (fun j => mcA_top_g _) (SA := mcA_S0) (S := (0, [(0, .ref 0)], [], [])) ⟨rfl, ⟨⟨rfl, rfl⟩, trivial⟩, trivial, trivial⟩ h1
  have hl := lv_entry [Value.ref b] (n := 7) (by show 1 ≤ 7; omega)
  rw [lg_entry_eq]
  generalize (lg_sl [Value.ref b] ++ List.replicate (7 - (lg_sl [Value.ref b]).length) Slot.unset).toArray = ls at hl ⊢
  refine key s.heap [] ls 0 0 ⟨by rw [hbase]; rfl, fun k e h => by cases h⟩ va_S.rf ?_ rfl rfl
  have h2 : mc_L G [(0, Value.ref 0)] = lv_args 0 [Value.ref b] := by
    show [(0, Value.ref (mc_a G 0))] = [(0, Value.ref b)]
    rw [mc_a_lo (by decide), hG0]
  rw [h2]
  exact hl
end
section
/-! ===== BEGIN exceptions that leave a method, and their catching by the caller (launches without stack traces) ===== -/
section VXA
/-! The laws vx_back, vx_callV, vx_callS, vx_callSW, vx_throw0, vx_throwS follow proofs of the library, with one case more: JvmDerived/Free/Laws.lean (Back.of_free), Shelf42/LK1.lean (callV, callS), Shelf/KitTraced.lean (throwNew0V, throwNewS). -/
/-- where a method has thrown q: the class by its name, the cell, what was written, the world -/
def vx_T (XC : String → State → State → Prop) (st : State) (q : Addr) (t : State) (mc ms : Nat) (free : Addr → Prop) : Prop :=
  ∃ (E : String) (ce : Cell) (L : List Loc), XC E st t ∧ t.heap[q]? = some ce ∧ ce.vm = .none ∧ st.vm.findClass E = some ce.cls ∧ st.WarmedH t.vm ∧ st.sameButNew ({ t with vm := st.vm } : State) L mc ms ∧ ∀ z ∈ L, free z.base
def vx_Q (Qc : Array Value → State → Outcome → State → Prop) (XC : String → State → State → Prop) (mc ms : Nat) (free : Addr → Prop) : Array Value → State → Outcome → State → Prop := fun a st o t =>
  (Qc a st o t ∧ ∃ L, FrameEnd st o t L mc ms ∧ ∀ q ∈ L, free q.base) ∨ ∃ q, o = .threw q ∧ vx_T XC st q t mc ms free
/-- a callee that returns or throws -/
def vx_Met (l : Launch) (y : MethodName) (ws : List Cond) (rm : Room) (Pc : Array Value → State → Prop) (Qc : Array Value → State → Outcome → State → Prop) (XC : String → State → State → Prop) (mc ms : Nat) (free : Addr → Prop) : Prop :=
  MetFree l y (headSpec ws rm) Pc (fun _ _ _ _ _ => True) (vx_Q Qc XC mc ms free)
def vx_Post (XC : String → State → State → Prop) (mc ms : Nat) (free : Addr → Prop) : Pt → Array Value → Addr → Pt → Prop := fun A a q B =>
  ∃ (g : JFrame) (mk : MethodId) (t : State) (L : List Loc) (E : String) (ce : Cell), B.U.heap = t.heap ∧ B.U.vm = t.vm ∧ XC E (A.U.calling g mk a) t ∧ t.heap[q]? = some ce ∧ ce.vm = .none ∧ A.U.vm.findClass E = some ce.cls ∧ B.locs = A.locs ++ L ∧ (∀ z ∈ L, free z.base) ∧ B.cells = A.cells + mc ∧ B.slots = A.slots + ms
def vx_Back (l : Launch) (R : Room) (p : Program) (e : Env) (below : List Frame) (s : State) (sargs : Array Value) (y : MethodName) (len W9 : Nat)
    (Pre : Pt → Array Value → Prop) (Post : Pt → Array Value → Option Value → Pt → Prop) (PostX : Pt → Array Value → Addr → Pt → Prop) : Prop :=
  ∀ (m : MethodId) (meth : Method) (c : Code) (A : Pt) (g : JFrame) (ig : Instr) (mk : MethodId) (a : Array Value),
    Stand p l e R s m sargs below meth c A.U A.locs A.cells A.slots → g.method = m → g.locals.size = c.maxLocals → decode c.code g.pc = .ok (ig, len) →
    2 * g.monitorRoom + (g.stack.map fun v => v.category).sum ≤ W9 → A.U.methodNamed? y = some mk → Pre A a →
    (∃ (v : Option Value) (B : Pt), Stand p l e R s m sargs below meth c B.U B.locs B.cells B.slots ∧ Post A a v B ∧
      Steps p.tables e below (doInvoke e (A.U.setTop g) [] mk a).1 (B.U.setTop { g with pc := g.pc + len, stack := v.toList ++ g.stack })) ∨
    (∃ (q : Addr) (B : Pt), Stand p l e R s m sargs below meth c B.U B.locs B.cells B.slots ∧ PostX A a q B ∧
      Steps p.tables e below (doInvoke e (A.U.setTop g) [] mk a).1 ((B.U.setTop g).pushFrame (.throwing q)))
section Payer
variable {l : Launch} {R : Room} {p : Program} {e : Env} {below : List Frame} {s : State} {sargs : Array Value} {y : MethodName} {len W9 : Nat}
theorem vx_back {ws : List Cond} {rm : Room} {Pc : Array Value → State → Prop} {Qc : Array Value → State → Outcome → State → Prop} {XC : String → State → State → Prop} {mc ms : Nat} {free : Addr → Prop} {bytes : ByteArray} {maxL : Nat} {ret : Option FieldType}
    (hM : vx_Met l y ws rm Pc Qc XC mc ms free) (hblind : FrameBlind Pc) (hrc : rm.cells = mc) (hrs : rm.slots = ms)
    (hframes : rm.frames + 1 ≤ R.frames) (hlocals : W9 + (maxL + 11) + rm.locals ≤ R.locals)
    (hws : ∀ w ∈ ws, ∀ a' U, s.WarmedH U.vm → w.before a' U = true) (hcode : Cond.code y bytes maxL ret ∈ ws) (hinit : ∀ a' U, s.WarmedH U.vm → (Cond.initialized y.cls).before a' U = true) :
    vx_Back l R p e below s sargs y len W9 (PreOf R mc ms Pc) (PostOf Qc mc ms free) (vx_Post XC mc ms free) := by
  intro m meth c A g ig mk a X hg hsize hdg hW hn hp
  have h1 : (headSpec ws rm).pre.before a A.U = true := atoms_intro fun w hw => hws w hw _ _ X.warmed
  have h2 : (Cond.code y bytes maxL ret).before a A.U = true := hws _ hcode _ _ X.warmed
  have h3 : (Cond.initialized y.cls).before a A.U = true := hinit _ _ X.warmed
  have h4 : A.cells + (headSpec ws rm).room.cells ≤ R.cells := by rw [show (headSpec ws rm).room.cells = mc from hrc]; exact hp.1
  have h5 : A.slots + (headSpec ws rm).room.slots ≤ R.slots := by rw [show (headSpec ws rm).room.slots = ms from hrs]; exact hp.2.1
  have hPc : Pc a (A.U.calling g mk a) := hblind _ _ _ _ hp.2.2
  obtain ⟨U, Ls, c0, s0⟩ := A
  dsimp only [Pt.U, Pt.locs, Pt.cells, Pt.slots] at h1 h2 h3 h4 h5 X hn hPc ⊢
  obtain ⟨methY, cY, hmY, hcY, -, hlY, -, -, -, -⟩ := Cond.code_spec hn h2
  obtain ⟨kY, hkY, -⟩ := className_of_methodNamed hn
  have hinitY : kY.init = .initialized := Cond.initialized_spec (findClass_of_methodNamed hn) hkY h3
  have h : At U g.method c below := by rw [hg]; exact X.here
  have hlocals9 : W9 + (maxL + 11) + (headSpec ws rm).room.locals ≤ R.locals := hlocals
  have happ : (headSpec ws rm).appliesLoose y e.platform (U.calling g mk a) = true :=
    Spec.appliesLoose_calling (g := g) h hdg hn hkY hinitY
      (X.room_calling (g := g) (R' := (headSpec ws rm).room) hsize hmY hcY hframes (by rw [hlY]; omega) h4 h5) h1
  obtain ⟨mid, hmid⟩ := h.above
  have hfr : (U.setTop g).frames = (.java g :: mid) ++ below := by rw [State.frames_setTop' g h.top, hmid]; rfl
  obtain ⟨o, s₂, hsteps, -, hend, hq⟩ := Steps.callFree hM p X.admits X.cas X.clock (acts := []) hfr happ hPc trivial
  have hq' : vx_Q Qc XC mc ms free a (U.calling g mk a) o s₂ := hq
  rw [State.frames_setTop' g h.top] at hend
  obtain ⟨g₀, hg0⟩ := Option.isSome_iff_exists.mp h.top
  obtain ⟨r, hr⟩ := State.topJava?_eq_some.mp hg0
  have hr' : (({ U with heap := s₂.heap, slotsUsed := s₂.slotsUsed } : State).setVm s₂.vm).frames = .java g₀ :: r := hr
  rcases hq' with ⟨hqc, L, hfe, hL⟩ | ⟨q, rfl, E, ce, L, hx, hce, hcv, hcl, hW₂, hsm, hL⟩
  · obtain ⟨⟨v, rfl⟩, hW₂, e2, q2, q3, q4, q5, q6⟩ := id hfe
    have e3 : s₂ = ({ (U.calling g mk a).setFrames s₂.frames with heap := s₂.heap, slotsUsed := s₂.slotsUsed } : State).setVm s₂.vm := by
      have : s₂ = ({ s₂ with vm := (U.calling g mk a).vm } : State).setVm s₂.vm := rfl
      rw [e2] at this
      exact this
    obtain ⟨c₂, i₂, len₂, hc₂, hd₂, hf₂⟩ := hend
    have hW' : U.WarmedH s₂.vm := hW₂
    have hcc : c₂ = c := by
      have h1 : s₂.code? g.method = U.code? g.method := by
        rw [State.code?_eq, State.code?_eq, hW'.alike.method?]
      exact Option.some.inj (hc₂.symm.trans (h1.trans h.code))
    subst hcc
    have hlen : len₂ = len := by rw [hdg] at hd₂; cases hd₂; rfl
    subst hlen
    have hs₂ : s₂ = (({ U with heap := s₂.heap, slotsUsed := s₂.slotsUsed } : State).setVm s₂.vm).setTop { g with pc := g.pc + len₂, stack := v.toList ++ g.stack } := by
      refine e3.trans ?_
      rw [hf₂, State.calling_eq h.top, State.setFrames_setFrames, State.setTop_of_frames _ hr', hr]
      rfl
    have hsame : U.sameButNew ({ U with heap := s₂.heap, slotsUsed := s₂.slotsUsed } : State) L mc ms := by
      refine ⟨?_, q2, q3, q4, q5, q6⟩
      obtain ⟨t, ht, -⟩ := State.frames_cons hr
      show ({ U with heap := s₂.heap, slotsUsed := s₂.slotsUsed } : State) = { U.setFrames U.frames with heap := s₂.heap, slotsUsed := s₂.slotsUsed }
      rw [State.setFrames_self ht]
    subst hg
    refine Or.inl ⟨v, ⟨(({ U with heap := s₂.heap, slotsUsed := s₂.slotsUsed } : State).setVm s₂.vm), Ls ++ L, c0 + mc, s0 + ms⟩,
      ⟨X.admits, X.cas, X.clock, X.frames, X.room, X.hears, X.method, X.code, (X.here.setHeapUsed s₂.heap s₂.slotsUsed).setVm hW'.alike, X.tail, State.WarmedH.trans X.warmed hW', X.limits, X.bytes, X.same.trans (hsame.setVm s.vm)⟩,
      ⟨g, mk, s₂, L, rfl, rfl, hqc, rfl, hL, rfl, rfl⟩, ?_⟩
    show Steps p.tables e below _ ((({ U with heap := s₂.heap, slotsUsed := s₂.slotsUsed } : State).setVm s₂.vm).setTop { g with pc := g.pc + len₂, stack := v.toList ++ g.stack })
    rw [← hs₂]
    exact hsteps
  · obtain ⟨e2, q2, q3, q4, q5, q6⟩ := id hsm
    have e3 : s₂ = ({ (U.calling g mk a).setFrames s₂.frames with heap := s₂.heap, slotsUsed := s₂.slotsUsed } : State).setVm s₂.vm := by
      have : s₂ = ({ s₂ with vm := (U.calling g mk a).vm } : State).setVm s₂.vm := rfl
      rw [e2] at this
      exact this
    have hf₂ : s₂.frames = .throwing q :: .java g :: U.frames.tail := hend
    have hW' : U.WarmedH s₂.vm := hW₂
    have hs₂ : s₂ = ((({ U with heap := s₂.heap, slotsUsed := s₂.slotsUsed } : State).setVm s₂.vm).setTop g).pushFrame (.throwing q) := by
      refine e3.trans ?_
      rw [hf₂, State.calling_eq h.top, State.setFrames_setFrames, State.pushFrame, State.frames_setTop _ hr', State.setTop_of_frames _ hr', State.setFrames_setFrames, hr]
      rfl
    have hsame : U.sameButNew ({ U with heap := s₂.heap, slotsUsed := s₂.slotsUsed } : State) L mc ms := by
      refine ⟨?_, q2, q3, q4, q5, q6⟩
      obtain ⟨t, ht, -⟩ := State.frames_cons hr
      show ({ U with heap := s₂.heap, slotsUsed := s₂.slotsUsed } : State) = { U.setFrames U.frames with heap := s₂.heap, slotsUsed := s₂.slotsUsed }
      rw [State.setFrames_self ht]
    subst hg
    refine Or.inr ⟨q, ⟨(({ U with heap := s₂.heap, slotsUsed := s₂.slotsUsed } : State).setVm s₂.vm), Ls ++ L, c0 + mc, s0 + ms⟩,
      ⟨X.admits, X.cas, X.clock, X.frames, X.room, X.hears, X.method, X.code, (X.here.setHeapUsed s₂.heap s₂.slotsUsed).setVm hW'.alike, X.tail, State.WarmedH.trans X.warmed hW', X.limits, X.bytes, X.same.trans (hsame.setVm s.vm)⟩,
      ⟨g, mk, s₂, L, E, ce, rfl, rfl, hx, hce, hcv, hcl, rfl, hL, rfl, rfl⟩, ?_⟩
    show Steps p.tables e below _ (((({ U with heap := s₂.heap, slotsUsed := s₂.slotsUsed } : State).setVm s₂.vm).setTop g).pushFrame (.throwing q))
    rw [← hs₂]
    exact hsteps
end Payer
section Calls
variable {p : Program} {l : Launch} {e : Env} {R : Room} {s : State} {m : MethodId} {args : Array Value} {below : List Frame} {meth : Method} {c : Code} {T : State} {locs : List Loc} {cells slots : Nat}
theorem vx_callV (X : Stand p l e R s m args below meth c T locs cells slots) (hexec : p.tables.exec = Jvm.exec) {own C : String} {index : Nat} {y : MethodName} {bytes : ByteArray} {maxL : Nat} {ret : Option FieldType}
    (hown : s.vm.findClass own = some m.cls) (hlink : (Cond.methodLink own index y).before args s = true) (hinst : (Cond.instanceMethod y).before args s = true) (hsel : (Cond.selects C y y).before args s = true)
    (hcode : (Cond.code y bytes maxL ret).before args s = true) (hy : y.cls ≠ "java/lang/invoke/MethodHandle" ∧ y.cls ≠ "java/lang/invoke/VarHandle")
    {W9 : Nat} {Pre : Pt → Array Value → Prop} {Post : Pt → Array Value → Option Value → Pt → Prop} {PostX : Pt → Array Value → Addr → Pt → Prop} (hK : vx_Back l R p e below s args y 3 W9 Pre Post PostX)
    {b : Addr} {cellB : Cell} (hcell : T.heap[b]? = some cellB) (hobj : cellB.vm.isStatics = false) (hcls : s.vm.findClass C = some cellB.cls)
    {g : JFrame} (hg : g.method = m) (hsize : g.locals.size = c.maxLocals) {argsL rest : List Value} (hlen : ∀ sig, parseMethodDescriptor y.desc = some sig → argsL.length = sig.parameters.length)
    (hstack : g.stack = argsL.reverse ++ .ref b :: rest) (hW : 2 * g.monitorRoom + (rest.map fun v => v.category).sum ≤ W9) (hdg : decode c.code g.pc = .ok (.invokevirtual index, 3))
    (hpre : ∀ vm₁, s.WarmedH vm₁ → Pre ⟨T.setVm vm₁, locs, cells, slots⟩ (Value.ref b :: argsL).toArray) :
    (∃ (v : Option Value) (vm₁ : Vm) (B : Pt), s.WarmedH vm₁ ∧ Stand p l e R s m args below meth c B.U B.locs B.cells B.slots ∧ Post ⟨T.setVm vm₁, locs, cells, slots⟩ (Value.ref b :: argsL).toArray v B ∧
      ∀ target, Steps p.tables e below (B.U.setTop { g with pc := g.pc + 3, stack := v.toList ++ rest }) target → Steps p.tables e below (T.setTop g) target) ∨
    (∃ (q : Addr) (vm₁ : Vm) (B : Pt), s.WarmedH vm₁ ∧ Stand p l e R s m args below meth c B.U B.locs B.cells B.slots ∧ PostX ⟨T.setVm vm₁, locs, cells, slots⟩ (Value.ref b :: argsL).toArray q B ∧
      Steps p.tables e below (T.setTop g) ((B.U.setTop { g with stack := rest }).pushFrame (.throwing q))) := by
  obtain ⟨mk, methM, hnamed, hmethM, hstM, habM⟩ := Cond.instanceMethod_spec hinst
  obtain ⟨methM', cM, hmethM', -, -, -, -, -, -, hsigM⟩ := Cond.code_spec hnamed hcode
  cases hmethM.symm.trans hmethM'
  obtain ⟨c2, r2, m2, q1, q2, q3, q4, kP, hkP, hkPi⟩ := Cond.selects_spec hsel
  cases hcls.symm.trans q1
  cases (State.methodFound?_of_named hnamed hy).symm.trans q2
  cases hnamed.symm.trans q3
  have hselP : selectMethod e.platform s.vm cellB.cls mk = .method mk := by rw [Launch.admits_selectMethod X.admits]; exact q4
  obtain ⟨vm₁, X₁, hstep₁⟩ := X.invokevirtual hexec hown hlink hnamed hmethM hstM hkP hkPi hy (a := b) (cell := cellB) hcell
    (fun z h => by rw [h] at hobj; cases hobj) hselP hmethM habM hkP hkPi (g := g) hg (argsL := argsL) (rest := rest) (hlen _ hsigM) hstack hdg
  rcases hK m meth c ⟨T.setVm vm₁, locs, cells, slots⟩ { g with stack := rest } (.invokevirtual index) mk (Value.ref b :: argsL).toArray X₁ hg hsize hdg hW (X₁.named hnamed) (hpre vm₁ X₁.warmed) with ⟨v, B, X', hpost, hsteps⟩ | ⟨q, B, X', hpost, hsteps⟩
  · exact Or.inl ⟨v, vm₁, B, X₁.warmed, X', hpost, fun target h => hstep₁ _ fun acts => by rw [doInvoke_state]; exact hsteps.trans h⟩
  · exact Or.inr ⟨q, vm₁, B, X₁.warmed, X', hpost, hstep₁ _ fun acts => by rw [doInvoke_state]; exact hsteps⟩
theorem vx_callS (X : Stand p l e R s m args below meth c T locs cells slots) (hexec : p.tables.exec = Jvm.exec) {own : String} {index : Nat} {y : MethodName} {bytes : ByteArray} {maxL : Nat} {ret : Option FieldType}
    (hown : s.vm.findClass own = some m.cls) (hlink : (Cond.methodLink own index y).before args s = true) (hstat : (Cond.static y).before args s = true) (hinit : (Cond.initialized y.cls).before args s = true)
    (hcode : (Cond.code y bytes maxL ret).before args s = true) (hy : y.cls ≠ "java/lang/invoke/MethodHandle" ∧ y.cls ≠ "java/lang/invoke/VarHandle")
    {W9 : Nat} {Pre : Pt → Array Value → Prop} {Post : Pt → Array Value → Option Value → Pt → Prop} {PostX : Pt → Array Value → Addr → Pt → Prop} (hK : vx_Back l R p e below s args y 3 W9 Pre Post PostX)
    {g : JFrame} (hg : g.method = m) (hsize : g.locals.size = c.maxLocals) {argsL rest : List Value} (hlen : ∀ sig, parseMethodDescriptor y.desc = some sig → argsL.length = sig.parameters.length)
    (hstack : g.stack = argsL.reverse ++ rest) (hW : 2 * g.monitorRoom + (rest.map fun v => v.category).sum ≤ W9) (hdg : decode c.code g.pc = .ok (.invokestatic index, 3))
    (hpre : ∀ vm₁, s.WarmedH vm₁ → Pre ⟨T.setVm vm₁, locs, cells, slots⟩ argsL.toArray) :
    (∃ (v : Option Value) (vm₁ : Vm) (B : Pt), s.WarmedH vm₁ ∧ Stand p l e R s m args below meth c B.U B.locs B.cells B.slots ∧ Post ⟨T.setVm vm₁, locs, cells, slots⟩ argsL.toArray v B ∧
      ∀ target, Steps p.tables e below (B.U.setTop { g with pc := g.pc + 3, stack := v.toList ++ rest }) target → Steps p.tables e below (T.setTop g) target) ∨
    (∃ (q : Addr) (vm₁ : Vm) (B : Pt), s.WarmedH vm₁ ∧ Stand p l e R s m args below meth c B.U B.locs B.cells B.slots ∧ PostX ⟨T.setVm vm₁, locs, cells, slots⟩ argsL.toArray q B ∧
      Steps p.tables e below (T.setTop g) ((B.U.setTop { g with stack := rest }).pushFrame (.throwing q))) := by
  obtain ⟨mk, hnamed⟩ := Cond.code_named hcode
  obtain ⟨methM, cM, hmethM, -, -, -, -, -, -, hsigM⟩ := Cond.code_spec hnamed hcode
  have hstatic : methM.isStatic = true := Cond.static_spec hnamed hmethM hstat
  obtain ⟨kP, hkP, -⟩ := className_of_methodNamed hnamed
  have hinitP : kP.init = .initialized := Cond.initialized_spec (findClass_of_methodNamed hnamed) hkP hinit
  obtain ⟨vm₁, X₁, hstep₁⟩ := X.invokestatic hexec hown hlink hnamed hmethM hstatic hkP hinitP hy (g := g) hg (argsL := argsL) (rest := rest) (hlen _ hsigM) hstack hdg
  rcases hK m meth c ⟨T.setVm vm₁, locs, cells, slots⟩ { g with stack := rest } (.invokestatic index) mk argsL.toArray X₁ hg hsize hdg hW (X₁.named hnamed) (hpre vm₁ X₁.warmed) with ⟨v, B, X', hpost, hsteps⟩ | ⟨q, B, X', hpost, hsteps⟩
  · exact Or.inl ⟨v, vm₁, B, X₁.warmed, X', hpost, fun target h => hstep₁ _ fun acts => by rw [doInvoke_state]; exact hsteps.trans h⟩
  · exact Or.inr ⟨q, vm₁, B, X₁.warmed, X', hpost, hstep₁ _ fun acts => by rw [doInvoke_state]; exact hsteps⟩
end Calls
theorem vx_cls {s : State} {T : State} {vm₁ : Vm} {E : String} {k : ClassId} (hW : s.WarmedH vm₁) (h : (T.setVm vm₁).vm.findClass E = some k) : s.vm.findClass E = some k := by
  have h1 : vm₁.findClass E = some k := h
  rw [hW.alike.findClass] at h1
  exact h1
/-- the method's frame g, with q thrown over it -/
def vx_W (p : Program) (l : Launch) (e : Env) (R : Room) (s : State) (m : MethodId) (args : Array Value) (below : List Frame) (meth : Method) (c : Code) (H : Heap) (locs : List Loc) (cells slots : Nat) (Q : State → Prop) (g : JFrame) (q : Addr) : Prop :=
  ∀ T : State, T.heap = H → Stand p l e R s m args below meth c T locs cells slots → ∃ t, Steps p.tables e below ((T.setTop g).pushFrame (.throwing q)) t ∧ Q t
def vx_Run (p : Program) (l : Launch) (e : Env) (R : Room) (s : State) (m : MethodId) (args : Array Value) (below : List Frame) (meth : Method) (c : Code) (H : Heap) (locs : List Loc) (cells slots mc ms : Nat) (g : JFrame) (rest : List Value) (Qa : State → Outcome → State → Prop) (XC : String → State → State → Prop) (free : Addr → Prop) : Prop :=
  ∀ T : State, T.heap = H → Stand p l e R s m args below meth c T locs cells slots →
    (∃ (v : Option Value) (st₀ t T' : State) (L : List Loc), st₀.heap = H ∧ Stand p l e R s m args below meth c T' (locs ++ L) (cells + mc) (slots + ms) ∧ (∀ q ∈ L, free q.base) ∧ T'.heap = t.heap ∧ T'.vm = t.vm ∧ Qa st₀ (.returned v) t ∧
      Goes p e below T g T' { g with pc := g.pc + 3, stack := v.toList ++ rest }) ∨
    (∃ (q : Addr) (st₀ t T' : State) (L : List Loc) (E : String) (ce : Cell), st₀.heap = H ∧ Stand p l e R s m args below meth c T' (locs ++ L) (cells + mc) (slots + ms) ∧ (∀ z ∈ L, free z.base) ∧ T'.heap = t.heap ∧ T'.vm = t.vm ∧ XC E st₀ t ∧ t.heap[q]? = some ce ∧ ce.vm = .none ∧ s.vm.findClass E = some ce.cls ∧
      Steps p.tables e below (T.setTop g) ((T'.setTop { g with stack := rest }).pushFrame (.throwing q)))
def vx_X {S : Type} (px : S → Prop) (B : String → S → State → Prop) (A : Nat → Prop) : String → State → State → Prop := fun E st t => ∃ u : S, px u ∧ B E u t ∧ va_F A st t
section Runs
variable {p : Program} {l : Launch} {e : Env} {R : Room} {s : State} {m : MethodId} {args : Array Value} {below : List Frame} {meth : Method} {c : Code} {H : Heap} {locs : List Loc} {cells slots : Nat}
variable {y : MethodName} {bytes cc : ByteArray} {maxL nL mc ms n index : Nat} {ret : Option FieldType} {ws : List Cond} {rm : Room} {Pc : Array Value → State → Prop} {Qc : Array Value → State → Outcome → State → Prop} {XC : String → State → State → Prop} {free : Addr → Prop} {Ts : List Cond} {own C : String} {b : Addr} {As rest : List Value} {g : JFrame}
theorem vx_callBack (cb : CallB R s args own index y bytes maxL ret ws rm mc ms n) (hM : vx_Met l y ws rm Pc Qc XC mc ms free) (hbl : FrameBlind Pc) : vx_Back l R p e below s args y 3 8 (PreOf R mc ms Pc) (PostOf Qc mc ms free) (vx_Post XC mc ms free) := by
  obtain ⟨hrc, hrs, hfr, hlo, hws, hcw, -, hini, -⟩ := cb
  exact vx_back (bytes := bytes) (maxL := maxL) (ret := ret) hM hbl hrc hrs hfr hlo hws hcw (fun a' U hW => word_at hW (Or.inl (by first | rfl | simp [Cond.onTables, Cond.keeps, Cond.steady])) hini)
theorem vx_runV (S : CallFix p m c cc nL s args Ts own) (hM : vx_Met l y ws rm Pc Qc XC mc ms free) (cw : CallW R s args own C index y bytes maxL ret ws rm mc ms n) (hp : PreV s H C b Pc As)
    (hg : g.method = m) (hn : As.length = n) (hsize : g.locals.size = nL) (hstack : g.stack = As.reverse ++ .ref b :: rest) (hW : 2 * g.monitorRoom + (rest.map fun v => v.category).sum ≤ 8) (hdg : decode cc g.pc = .ok (.invokevirtual index, 3)) (hf : cells + mc ≤ R.cells ∧ slots + ms ≤ R.slots) :
    vx_Run p l e R s m args below meth c H locs cells slots mc ms g rest (Qc (Value.ref b :: As).toArray) XC free := by
  have hK : vx_Back l R p e below s args y 3 8 (PreOf R mc ms Pc) (PostOf Qc mc ms free) (vx_Post XC mc ms free) := vx_callBack cw.1 hM hp.1
  obtain ⟨⟨-, -, -, -, -, -, hcode, -, hy, hlen, hl⟩, hin, hse⟩ := cw
  obtain ⟨hx, hb, hml, ho, -⟩ := S
  obtain ⟨-, ⟨cellB, hcB, hoB, hclB⟩, hPc⟩ := hp
  intro T hT X
  rcases vx_callV X hx (C := C) (bytes := bytes) (maxL := maxL) (ret := ret) ho hl hin hse hcode hy hK (by rw [hT]; exact hcB) hoB hclB hg (hsize.trans hml.symm) (argsL := As) (rest := rest) (fun sig h => hn.trans (hlen sig h)) hstack hW (by rw [hb]; exact hdg)
    (fun vm₁ hW₁ => ⟨hf.1, hf.2, hPc (T.setVm vm₁) hT hW₁⟩) with ⟨v, vm₁, ⟨U', l2, c2, s2⟩, hW₁, X', ⟨g', mk, t, L, e1, e2, hq, h1, hL, h2, h3⟩, st⟩ | ⟨q, vm₁, ⟨U', l2, c2, s2⟩, hW₁, X', ⟨g', mk, t, L, E, ce, e1, e2, hq, hce, hcv, hcl, h1, hL, h2, h3⟩, st⟩
  · dsimp only [Pt.U, Pt.locs, Pt.cells, Pt.slots] at X' e1 e2 h1 h2 h3 st
    subst h1; subst h2; subst h3
    exact Or.inl ⟨v, (T.setVm vm₁).calling g' mk (Value.ref b :: As).toArray, t, U', L, hT, X', hL, e1, e2, hq, st⟩
  · dsimp only [Pt.U, Pt.locs, Pt.cells, Pt.slots] at X' e1 e2 h1 h2 h3 st hcl
    subst h1; subst h2; subst h3
    exact Or.inr ⟨q, (T.setVm vm₁).calling g' mk (Value.ref b :: As).toArray, t, U', L, E, ce, hT, X', hL, e1, e2, hq, hce, hcv, vx_cls hW₁ hcl, st⟩
theorem vx_runS (S : CallFix p m c cc nL s args Ts own) (hM : vx_Met l y ws rm Pc Qc XC mc ms free) (cw : CallB R s args own index y bytes maxL ret ws rm mc ms n ∧ (Cond.static y).before args s = true) (hp : PreS s H Pc As)
    (hg : g.method = m) (hn : As.length = n) (hsize : g.locals.size = nL) (hstack : g.stack = As.reverse ++ rest) (hW : 2 * g.monitorRoom + (rest.map fun v => v.category).sum ≤ 8) (hdg : decode cc g.pc = .ok (.invokestatic index, 3)) (hf : cells + mc ≤ R.cells ∧ slots + ms ≤ R.slots) :
    vx_Run p l e R s m args below meth c H locs cells slots mc ms g rest (Qc As.toArray) XC free := by
  have hK : vx_Back l R p e below s args y 3 8 (PreOf R mc ms Pc) (PostOf Qc mc ms free) (vx_Post XC mc ms free) := vx_callBack cw.1 hM hp.1
  obtain ⟨⟨-, -, -, -, -, -, hcode, hini, hy, hlen, hl⟩, hstt⟩ := cw
  obtain ⟨hx, hb, hml, ho, -⟩ := S
  intro T hT X
  rcases vx_callS X hx (bytes := bytes) (maxL := maxL) (ret := ret) ho hl hstt hini hcode hy hK hg (hsize.trans hml.symm) (argsL := As) (rest := rest) (fun sig h => hn.trans (hlen sig h)) hstack hW (by rw [hb]; exact hdg)
    (fun vm₁ hW₁ => ⟨hf.1, hf.2, hp.2 (T.setVm vm₁) hT hW₁⟩) with ⟨v, vm₁, ⟨U', l2, c2, s2⟩, hW₁, X', ⟨g', mk, t, L, e1, e2, hq, h1, hL, h2, h3⟩, st⟩ | ⟨q, vm₁, ⟨U', l2, c2, s2⟩, hW₁, X', ⟨g', mk, t, L, E, ce, e1, e2, hq, hce, hcv, hcl, h1, hL, h2, h3⟩, st⟩
  · dsimp only [Pt.U, Pt.locs, Pt.cells, Pt.slots] at X' e1 e2 h1 h2 h3 st
    subst h1; subst h2; subst h3
    exact Or.inl ⟨v, (T.setVm vm₁).calling g' mk As.toArray, t, U', L, hT, X', hL, e1, e2, hq, st⟩
  · dsimp only [Pt.U, Pt.locs, Pt.cells, Pt.slots] at X' e1 e2 h1 h2 h3 st hcl
    subst h1; subst h2; subst h3
    exact Or.inr ⟨q, (T.setVm vm₁).calling g' mk As.toArray, t, U', L, E, ce, hT, X', hL, e1, e2, hq, hce, hcv, vx_cls hW₁ hcl, st⟩
end Runs
section Rows
variable {p : Program} {l : Launch} {e : Env} {R : Room} {s : State} {m : MethodId} {args : Array Value} {below : List Frame} {meth : Method} {c : Code} {H : Heap} {locs : List Loc} {cells slots : Nat} {Q : State → Prop}
variable {mc ms : Nat} {free : Addr → Prop} {A0 A1 : Nat → Prop} {H0 : Heap} {a : Array Value} {pc : Nat} {ls : Array Slot} {st0 rest : List Value}
theorem vx_keep {st₀ t T' : State} {L : List Loc} (h0 : st₀.heap = H) (e1 : T'.heap = t.heap) (hS : va_S A0 H0 H locs) (hA : ∀ q, q < H.size → A1 q → A0 q) (hf : ∀ q, free q → A0 q) (hL : ∀ q ∈ L, free q.base) (hF : va_F A1 st₀ t) :
    H.size ≤ T'.heap.size ∧ (∀ q : Nat, q < H.size → ¬ A1 q → T'.heap[q]? = H[q]?) ∧ va_S A0 H0 T'.heap (locs ++ L) := by
  obtain ⟨hz, hk⟩ := hF
  rw [h0] at hz hk
  exact ⟨by rw [e1]; exact hz, fun q h1 h2 => by rw [e1]; exact hk q h1 h2,
    ⟨Nat.le_trans hS.1 (by rw [e1]; exact hz), fun q h1 h2 => by rw [e1, hk q (Nat.lt_of_lt_of_le h1 hS.1) (fun z => h2 (hA q (Nat.lt_of_lt_of_le h1 hS.1) z))]; exact hS.2.1 q h1 h2, fun q hq => by
      rcases List.mem_append.mp hq with h | h
      · exact hS.2.2 q h
      · exact hf _ (hL q h)⟩⟩
theorem vx_calli {S SX : Type} {post : Int32 → S → Prop} {px : SX → Prop} {B : S → State → Prop} {BX : String → SX → State → Prop} {AX : Nat → Prop} (hr : vx_Run p l e R s m args below meth c H locs cells slots mc ms (F0 m pc ls st0) rest (va_Qi post B A1 a) (vx_X px BX AX) free) (hS : va_S A0 H0 H locs) (hA : ∀ q, q < H.size → A1 q → A0 q) (hf : ∀ q, free q → A0 q) (hAX : ∀ q, q < H.size → AX q → A0 q)
    (kx : ∀ (E : String) (ce : Cell) (q9 : Addr) (u : SX) (t : State) (H1 : Heap) (locs1 : List Loc), t.heap = H1 → s.vm.Alike t.vm → px u → BX E u t → H.size ≤ H1.size → (∀ q : Nat, q < H.size → ¬ AX q → H1[q]? = H[q]?) → va_S A0 H0 H1 locs1 → H1[q9]? = some ce → ce.vm = .none → s.vm.findClass E = some ce.cls → vx_W p l e R s m args below meth c H1 locs1 (cells + mc) (slots + ms) Q (F0 m pc ls rest) q9)
    (kk : ∀ (r : Int32) (u : S) (t : State) (H1 : Heap) (locs1 : List Loc), t.heap = H1 → s.vm.Alike t.vm → post r u → B u t → H.size ≤ H1.size → (∀ q : Nat, q < H.size → ¬ A1 q → H1[q]? = H[q]?) → va_S A0 H0 H1 locs1 → W p l e R s m args below meth c H1 locs1 (cells + mc) (slots + ms) Q (F0 m (pc + 3) ls (.int r :: rest))) : W p l e R s m args below meth c H locs cells slots Q (F0 m pc ls st0) := by
  intro T hT X
  rcases hr T hT X with ⟨v, st₀, t, T', L, h0, X', hL, e1, e2, ⟨⟨r, u, hv, hp, hb⟩, hF⟩, st⟩ | ⟨q, st₀, t, T', L, E, ce, h0, X', hL, e1, e2, ⟨u, hp, hb, hF⟩, hce, hcv, hcl, st⟩
  · cases hv
    obtain ⟨k1, k2, k3⟩ := vx_keep h0 e1 hS hA hf hL hF
    obtain ⟨t2, a1, b1⟩ := kk r u t T'.heap (locs ++ L) e1.symm (by rw [← e2]; exact X'.warmed.alike) hp hb k1 k2 k3 T' rfl X'
    exact ⟨t2, st t2 a1, b1⟩
  · obtain ⟨k1, k2, k3⟩ := vx_keep h0 e1 hS hAX hf hL hF
    obtain ⟨t2, a1, b1⟩ := kx E ce q u t T'.heap (locs ++ L) e1.symm (by rw [← e2]; exact X'.warmed.alike) hp hb k1 k2 k3 (by rw [e1]; exact hce) hcv hcl T' rfl X'
    exact ⟨t2, st.trans a1, b1⟩
theorem vx_calll {S SX : Type} {post : Int64 → S → Prop} {px : SX → Prop} {B : S → State → Prop} {BX : String → SX → State → Prop} {AX : Nat → Prop} (hr : vx_Run p l e R s m args below meth c H locs cells slots mc ms (F0 m pc ls st0) rest (va_Ql post B A1 a) (vx_X px BX AX) free) (hS : va_S A0 H0 H locs) (hA : ∀ q, q < H.size → A1 q → A0 q) (hf : ∀ q, free q → A0 q) (hAX : ∀ q, q < H.size → AX q → A0 q)
    (kx : ∀ (E : String) (ce : Cell) (q9 : Addr) (u : SX) (t : State) (H1 : Heap) (locs1 : List Loc), t.heap = H1 → s.vm.Alike t.vm → px u → BX E u t → H.size ≤ H1.size → (∀ q : Nat, q < H.size → ¬ AX q → H1[q]? = H[q]?) → va_S A0 H0 H1 locs1 → H1[q9]? = some ce → ce.vm = .none → s.vm.findClass E = some ce.cls → vx_W p l e R s m args below meth c H1 locs1 (cells + mc) (slots + ms) Q (F0 m pc ls rest) q9)
    (kk : ∀ (r : Int64) (u : S) (t : State) (H1 : Heap) (locs1 : List Loc), t.heap = H1 → s.vm.Alike t.vm → post r u → B u t → H.size ≤ H1.size → (∀ q : Nat, q < H.size → ¬ A1 q → H1[q]? = H[q]?) → va_S A0 H0 H1 locs1 → W p l e R s m args below meth c H1 locs1 (cells + mc) (slots + ms) Q (F0 m (pc + 3) ls (.long r :: rest))) : W p l e R s m args below meth c H locs cells slots Q (F0 m pc ls st0) := by
  intro T hT X
  rcases hr T hT X with ⟨v, st₀, t, T', L, h0, X', hL, e1, e2, ⟨⟨r, u, hv, hp, hb⟩, hF⟩, st⟩ | ⟨q, st₀, t, T', L, E, ce, h0, X', hL, e1, e2, ⟨u, hp, hb, hF⟩, hce, hcv, hcl, st⟩
  · cases hv
    obtain ⟨k1, k2, k3⟩ := vx_keep h0 e1 hS hA hf hL hF
    obtain ⟨t2, a1, b1⟩ := kk r u t T'.heap (locs ++ L) e1.symm (by rw [← e2]; exact X'.warmed.alike) hp hb k1 k2 k3 T' rfl X'
    exact ⟨t2, st t2 a1, b1⟩
  · obtain ⟨k1, k2, k3⟩ := vx_keep h0 e1 hS hAX hf hL hF
    obtain ⟨t2, a1, b1⟩ := kx E ce q u t T'.heap (locs ++ L) e1.symm (by rw [← e2]; exact X'.warmed.alike) hp hb k1 k2 k3 (by rw [e1]; exact hce) hcv hcl T' rfl X'
    exact ⟨t2, st.trans a1, b1⟩
theorem vx_callf {S SX : Type} {post : UInt32 → S → Prop} {px : SX → Prop} {B : S → State → Prop} {BX : String → SX → State → Prop} {AX : Nat → Prop} (hr : vx_Run p l e R s m args below meth c H locs cells slots mc ms (F0 m pc ls st0) rest (va_Qf post B A1 a) (vx_X px BX AX) free) (hS : va_S A0 H0 H locs) (hA : ∀ q, q < H.size → A1 q → A0 q) (hf : ∀ q, free q → A0 q) (hAX : ∀ q, q < H.size → AX q → A0 q)
    (kx : ∀ (E : String) (ce : Cell) (q9 : Addr) (u : SX) (t : State) (H1 : Heap) (locs1 : List Loc), t.heap = H1 → s.vm.Alike t.vm → px u → BX E u t → H.size ≤ H1.size → (∀ q : Nat, q < H.size → ¬ AX q → H1[q]? = H[q]?) → va_S A0 H0 H1 locs1 → H1[q9]? = some ce → ce.vm = .none → s.vm.findClass E = some ce.cls → vx_W p l e R s m args below meth c H1 locs1 (cells + mc) (slots + ms) Q (F0 m pc ls rest) q9)
    (kk : ∀ (r : UInt32) (u : S) (t : State) (H1 : Heap) (locs1 : List Loc), t.heap = H1 → s.vm.Alike t.vm → post r u → B u t → H.size ≤ H1.size → (∀ q : Nat, q < H.size → ¬ A1 q → H1[q]? = H[q]?) → va_S A0 H0 H1 locs1 → W p l e R s m args below meth c H1 locs1 (cells + mc) (slots + ms) Q (F0 m (pc + 3) ls (.float r :: rest))) : W p l e R s m args below meth c H locs cells slots Q (F0 m pc ls st0) := by
  intro T hT X
  rcases hr T hT X with ⟨v, st₀, t, T', L, h0, X', hL, e1, e2, ⟨⟨r, u, hv, hp, hb⟩, hF⟩, st⟩ | ⟨q, st₀, t, T', L, E, ce, h0, X', hL, e1, e2, ⟨u, hp, hb, hF⟩, hce, hcv, hcl, st⟩
  · cases hv
    obtain ⟨k1, k2, k3⟩ := vx_keep h0 e1 hS hA hf hL hF
    obtain ⟨t2, a1, b1⟩ := kk r u t T'.heap (locs ++ L) e1.symm (by rw [← e2]; exact X'.warmed.alike) hp hb k1 k2 k3 T' rfl X'
    exact ⟨t2, st t2 a1, b1⟩
  · obtain ⟨k1, k2, k3⟩ := vx_keep h0 e1 hS hAX hf hL hF
    obtain ⟨t2, a1, b1⟩ := kx E ce q u t T'.heap (locs ++ L) e1.symm (by rw [← e2]; exact X'.warmed.alike) hp hb k1 k2 k3 (by rw [e1]; exact hce) hcv hcl T' rfl X'
    exact ⟨t2, st.trans a1, b1⟩
theorem vx_calld {S SX : Type} {post : UInt64 → S → Prop} {px : SX → Prop} {B : S → State → Prop} {BX : String → SX → State → Prop} {AX : Nat → Prop} (hr : vx_Run p l e R s m args below meth c H locs cells slots mc ms (F0 m pc ls st0) rest (va_Qd post B A1 a) (vx_X px BX AX) free) (hS : va_S A0 H0 H locs) (hA : ∀ q, q < H.size → A1 q → A0 q) (hf : ∀ q, free q → A0 q) (hAX : ∀ q, q < H.size → AX q → A0 q)
    (kx : ∀ (E : String) (ce : Cell) (q9 : Addr) (u : SX) (t : State) (H1 : Heap) (locs1 : List Loc), t.heap = H1 → s.vm.Alike t.vm → px u → BX E u t → H.size ≤ H1.size → (∀ q : Nat, q < H.size → ¬ AX q → H1[q]? = H[q]?) → va_S A0 H0 H1 locs1 → H1[q9]? = some ce → ce.vm = .none → s.vm.findClass E = some ce.cls → vx_W p l e R s m args below meth c H1 locs1 (cells + mc) (slots + ms) Q (F0 m pc ls rest) q9)
    (kk : ∀ (r : UInt64) (u : S) (t : State) (H1 : Heap) (locs1 : List Loc), t.heap = H1 → s.vm.Alike t.vm → post r u → B u t → H.size ≤ H1.size → (∀ q : Nat, q < H.size → ¬ A1 q → H1[q]? = H[q]?) → va_S A0 H0 H1 locs1 → W p l e R s m args below meth c H1 locs1 (cells + mc) (slots + ms) Q (F0 m (pc + 3) ls (.double r :: rest))) : W p l e R s m args below meth c H locs cells slots Q (F0 m pc ls st0) := by
  intro T hT X
  rcases hr T hT X with ⟨v, st₀, t, T', L, h0, X', hL, e1, e2, ⟨⟨r, u, hv, hp, hb⟩, hF⟩, st⟩ | ⟨q, st₀, t, T', L, E, ce, h0, X', hL, e1, e2, ⟨u, hp, hb, hF⟩, hce, hcv, hcl, st⟩
  · cases hv
    obtain ⟨k1, k2, k3⟩ := vx_keep h0 e1 hS hA hf hL hF
    obtain ⟨t2, a1, b1⟩ := kk r u t T'.heap (locs ++ L) e1.symm (by rw [← e2]; exact X'.warmed.alike) hp hb k1 k2 k3 T' rfl X'
    exact ⟨t2, st t2 a1, b1⟩
  · obtain ⟨k1, k2, k3⟩ := vx_keep h0 e1 hS hAX hf hL hF
    obtain ⟨t2, a1, b1⟩ := kx E ce q u t T'.heap (locs ++ L) e1.symm (by rw [← e2]; exact X'.warmed.alike) hp hb k1 k2 k3 (by rw [e1]; exact hce) hcv hcl T' rfl X'
    exact ⟨t2, st.trans a1, b1⟩
theorem vx_callv {S SX : Type} {post : S → Prop} {px : SX → Prop} {B : S → State → Prop} {BX : String → SX → State → Prop} {AX : Nat → Prop} (hr : vx_Run p l e R s m args below meth c H locs cells slots mc ms (F0 m pc ls st0) rest (va_Qv post B A1 a) (vx_X px BX AX) free) (hS : va_S A0 H0 H locs) (hA : ∀ q, q < H.size → A1 q → A0 q) (hf : ∀ q, free q → A0 q) (hAX : ∀ q, q < H.size → AX q → A0 q)
    (kx : ∀ (E : String) (ce : Cell) (q9 : Addr) (u : SX) (t : State) (H1 : Heap) (locs1 : List Loc), t.heap = H1 → s.vm.Alike t.vm → px u → BX E u t → H.size ≤ H1.size → (∀ q : Nat, q < H.size → ¬ AX q → H1[q]? = H[q]?) → va_S A0 H0 H1 locs1 → H1[q9]? = some ce → ce.vm = .none → s.vm.findClass E = some ce.cls → vx_W p l e R s m args below meth c H1 locs1 (cells + mc) (slots + ms) Q (F0 m pc ls rest) q9)
    (kk : ∀ (u : S) (t : State) (H1 : Heap) (locs1 : List Loc), t.heap = H1 → s.vm.Alike t.vm → post u → B u t → H.size ≤ H1.size → (∀ q : Nat, q < H.size → ¬ A1 q → H1[q]? = H[q]?) → va_S A0 H0 H1 locs1 → W p l e R s m args below meth c H1 locs1 (cells + mc) (slots + ms) Q (F0 m (pc + 3) ls (rest))) : W p l e R s m args below meth c H locs cells slots Q (F0 m pc ls st0) := by
  intro T hT X
  rcases hr T hT X with ⟨v, st₀, t, T', L, h0, X', hL, e1, e2, ⟨⟨u, hv, hp, hb⟩, hF⟩, st⟩ | ⟨q, st₀, t, T', L, E, ce, h0, X', hL, e1, e2, ⟨u, hp, hb, hF⟩, hce, hcv, hcl, st⟩
  · cases hv
    obtain ⟨k1, k2, k3⟩ := vx_keep h0 e1 hS hA hf hL hF
    obtain ⟨t2, a1, b1⟩ := kk u t T'.heap (locs ++ L) e1.symm (by rw [← e2]; exact X'.warmed.alike) hp hb k1 k2 k3 T' rfl X'
    exact ⟨t2, st t2 a1, b1⟩
  · obtain ⟨k1, k2, k3⟩ := vx_keep h0 e1 hS hAX hf hL hF
    obtain ⟨t2, a1, b1⟩ := kx E ce q u t T'.heap (locs ++ L) e1.symm (by rw [← e2]; exact X'.warmed.alike) hp hb k1 k2 k3 (by rw [e1]; exact hce) hcv hcl T' rfl X'
    exact ⟨t2, st.trans a1, b1⟩
/-- caught by the row x of this method's table; the rows ahead don't take it -/
theorem vx_catch {own name : String} {E : String} {ce : Cell} {q : Addr} (hown : s.vm.findClass own = some m.cls) (pre : List ExceptionTableEntry) (x : ExceptionTableEntry) (suf : List ExceptionTableEntry) (hsplit : c.exceptionTable.toList = pre ++ x :: suf)
    (hpass : ∀ z ∈ pre, covers z pc = false ∨ (z.catchType ≠ 0 ∧ ∃ nm : String, (Cond.classLink own z.catchType nm).before args s = true ∧ va_Nc E nm s)) (hx : covers x pc = true) (h0 : x.catchType ≠ 0)
    (hlink : (Cond.classLink own x.catchType name).before args s = true) (hcast : (Cond.castable E name).before args s = true) (hcell : H[q]? = some ce) (hv : ce.vm = .none) (hcl : s.vm.findClass E = some ce.cls)
    (kk : W p l e R s m args below meth c H locs cells slots Q (F0 m x.handlerPc ls [.ref q])) : vx_W p l e R s m args below meth c H locs cells slots Q (F0 m pc ls rest) q := by
  intro T hT X
  have hpl : e.platform.magicAccessors = ({} : Platform).magicAccessors := by rw [X.admits.platform]
  obtain ⟨c3, c4, hc3, hc4, hasg⟩ := Cond.castable_spec hcast
  cases Option.some.inj (hc3.symm.trans hcl)
  obtain ⟨c5, hc5, hcl5⟩ := Cond.classLink_spec hown hlink e.platform hpl
  cases Option.some.inj (hc4.symm.trans hc5)
  obtain ⟨vm', X', st⟩ := X.thenCaughtThrough q (g := F0 m pc ls rest) rfl (Steps.refl _) (by rw [hT]; exact hcell) (by rw [hv]; rfl) (by obtain ⟨k9, h9, -⟩ := Vm.findClass_spec hcl; exact ⟨k9, h9⟩) pre x suf hsplit
    (fun z hz => by
      rcases hpass z hz with h | ⟨hz0, nm, hl1, hn1⟩
      · exact Or.inl h
      · obtain ⟨c6, hc6, hcl6⟩ := Cond.classLink_spec hown hl1 e.platform hpl
        obtain ⟨a8, b8, h1, h2, h3⟩ := hn1
        cases Option.some.inj (h1.symm.trans hcl)
        cases Option.some.inj (h2.symm.trans hc6)
        exact Or.inr ⟨hz0, _, hcl6, h3⟩) hx (Or.inr ⟨h0, c4, hcl5, hasg⟩)
  obtain ⟨t, a1, b1⟩ := kk (T.setVm vm') hT X'
  exact ⟨t, st.trans a1, b1⟩
end Rows
section Ends
variable {p : Program} {l : Launch} {e : Env} {R : Room} {s : State} {m : MethodId} {args : Array Value} {below : List Frame} {meth : Method} {c : Code} {H : Heap} {locs : List Loc} {cells slots : Nat} {Q : State → Prop}
variable {mc ms : Nat} {free : Addr → Prop} {A0 A1 : Nat → Prop} {H0 : Heap} {a : Array Value} {ls : Array Slot} {st0 rest : List Value}
variable {Qc : Array Value → State → Outcome → State → Prop} {XC : String → State → State → Prop}
/-- what a body that may throw owes at its end -/
def vx_MQ (below : List Frame) (Qc : Array Value → State → Outcome → State → Prop) (XC : String → State → State → Prop) (a : Array Value) (s : State) (mc ms : Nat) (free : Addr → Prop) : State → Prop := fun t =>
  ∃ o, t.status = .running ∧ Ended t below o ∧ vx_Q Qc XC mc ms free a s o t
theorem vx_ret {g : JFrame} {mc ms : Nat} (k : W p l e R s m args below meth c H locs cells slots (MQ below Qc args s mc ms free) g) : W p l e R s m args below meth c H locs cells slots (vx_MQ below Qc XC args s mc ms free) g := by
  intro T hT X
  obtain ⟨t, a1, o, b1, b2, b3, b4⟩ := k T hT X
  exact ⟨t, a1, o, b1, b2, Or.inl ⟨b3, b4⟩⟩
/-- not caught here: it goes on to the caller -/
theorem vx_widen {g : JFrame} {q : Addr} {k n : Nat} (h1 : cells ≤ k) (h2 : slots ≤ n) (kk : vx_W p l e R s m args below meth c H locs k n Q g q) : vx_W p l e R s m args below meth c H locs cells slots Q g q := fun T hT X => kk T hT (stand_widen X h1 h2)
theorem vx_out {pc : Nat} {E : String} {ce : Cell} {q : Addr} {mc ms : Nat} (hout : ∀ x ∈ c.exceptionTable.toList, covers x pc = false) (hlocks : meth.locks = false) (hcell : H[q]? = some ce) (hv : ce.vm = .none) (hcl : s.vm.findClass E = some ce.cls)
    (hx : ∀ t : State, t.heap = H → s.vm.Alike t.vm → XC E s t) (hf : ∀ z ∈ locs, free z.base) (hc : cells ≤ mc) (hs : slots ≤ ms) :
    vx_W p l e R s m args below meth c H locs cells slots (vx_MQ below Qc XC args s mc ms free) (F0 m pc ls rest) q := by
  intro T hT X
  obtain ⟨st1, hrun, hend, hW, hsm⟩ := X.leaveThrown q (g := F0 m pc ls rest) rfl rfl rfl hout hlocks
  have hcell9 : (T.setFrames (.throwing q :: below)).heap[q]? = some ce := by
    show T.heap[q]? = some ce
    rw [hT]; exact hcell
  exact ⟨_, st1, .threw q, hrun, hend, Or.inr ⟨q, rfl, E, ce, locs, hx _ hT hW.alike, hcell9, hv, hcl, hW, hsm.mono hc hs, hf⟩⟩
theorem vx_frame {U : State} {k n : Nat} (h : s.sameButNew ({ U with vm := s.vm } : State) locs k n) : s.heap.size ≤ U.heap.size ∧ ∀ q : Nat, q < s.heap.size → (∀ z ∈ locs, z.base ≠ q) → U.heap[q]? = s.heap[q]? := by
  obtain ⟨-, h2, -, -, -, h6⟩ := h
  refine ⟨h2, fun q hq hz => ?_⟩
  obtain ⟨c9, e1, e2, e3, e4⟩ := h6 q _ (Array.getElem?_eq_getElem hq)
  have hs : c9.slots = (s.heap[q]).slots := Array.ext_getElem? fun i => e4 i fun hm => hz _ hm rfl
  have h9 : c9 = s.heap[q] := by
    rw [hs] at e2
    exact e2
  have e5 : U.heap[q]? = some c9 := e1
  rw [e5, h9, Array.getElem?_eq_getElem hq]
/-- the words of a throw but the four that speak of the heap -/
def vx_no (w : Cond) : Bool := decide (w ≠ .isRef (.static Bundle.tN "UNASSIGNED_STACK" Bundle.steD)) && decide (w ≠ .isRef (.static Bundle.tN "SUPPRESSED_SENTINEL" Bundle.listD)) && decide (w ≠ .laysStatic Bundle.tN "UNASSIGNED_STACK" Bundle.steD) && decide (w ≠ .laysStatic Bundle.tN "SUPPRESSED_SENTINEL" Bundle.listD)
def vx_at0 (own : String) (ic : Nat) (X : String) (names : List String) : List Cond := (Bundle.ownAtoms0 own ic X names).filter vx_no
def vx_atS (own : String) (ic : Nat) (X : String) (names : List String) : List Cond := (Bundle.ownAtoms own ic X names).filter vx_no
/-- a word that the tables alone decide, or a good one -/
def vx_ot (w : Cond) : Bool := w.onTables || goodWord w
theorem vx_ot_at {args a' : Array Value} {s U : State} {w : Cond} (hW : s.WarmedH U.vm) (hvm : s.vm = U.vm) (hg : vx_ot w = true) (h : w.before args s = true) : w.before a' U = true := by
  simp only [vx_ot, Bool.or_eq_true] at hg
  rcases hg with hg | hg
  · exact va_tabs hg hvm h
  · exact word_at hW (good_of_word hg) h
/-- a list's words: the good ones out of the method's own list, the others by premises of their own -/
theorem vx_hat {args : Array Value} {s : State} {L B : List Cond} (h1 : ∀ w ∈ L.filter goodWord, w.before args s = true) (h2 : ∀ w ∈ L.filter (fun w => !goodWord w), w ∈ B) (h3 : ∀ w ∈ B, w.before args s = true) : ∀ w ∈ L, w.before args s = true := by
  intro w hw
  by_cases g : goodWord w = true
  · exact h1 w (List.mem_filter.mpr ⟨hw, g⟩)
  · refine h3 w (h2 w (List.mem_filter.mpr ⟨hw, ?_⟩))
    show (!goodWord w) = true
    cases hgw : goodWord w
    · rfl
    · exact absurd hgw g
theorem vx_c {args : Array Value} {s : State} {w : Cond} {B : List Cond} (h : w.before args s = true) (t : ∀ w ∈ B, w.before args s = true) : ∀ w' ∈ w :: B, w'.before args s = true := fun w' h' => (List.mem_cons.mp h').elim (fun e => by rw [e]; exact h) (t w')
theorem vx_n {args : Array Value} {s : State} : ∀ w ∈ ([] : List Cond), w.before args s = true := fun _ h => nomatch h
theorem vx_own {args : Array Value} {s : State} {L : List Cond} (h1 : ∀ w ∈ L.filter vx_no, w.before args s = true)
    (hU : (Cond.isRef (.static Bundle.tN "UNASSIGNED_STACK" Bundle.steD)).before args s = true) (hN : (Cond.isRef (.static Bundle.tN "SUPPRESSED_SENTINEL" Bundle.listD)).before args s = true)
    (lU : (Cond.laysStatic Bundle.tN "UNASSIGNED_STACK" Bundle.steD).before args s = true) (lN : (Cond.laysStatic Bundle.tN "SUPPRESSED_SENTINEL" Bundle.listD).before args s = true) : ∀ w ∈ L, w.before args s = true := by
  intro w hw
  by_cases e1 : w = .isRef (.static Bundle.tN "UNASSIGNED_STACK" Bundle.steD)
  · rw [e1]; exact hU
  · by_cases e2 : w = .isRef (.static Bundle.tN "SUPPRESSED_SENTINEL" Bundle.listD)
    · rw [e2]; exact hN
    · by_cases e3 : w = .laysStatic Bundle.tN "UNASSIGNED_STACK" Bundle.steD
      · rw [e3]; exact lU
      · by_cases e4 : w = .laysStatic Bundle.tN "SUPPRESSED_SENTINEL" Bundle.listD
        · rw [e4]; exact lN
        · exact h1 w (List.mem_filter.mpr ⟨hw, by unfold vx_no; rw [decide_eq_true e1, decide_eq_true e2, decide_eq_true e3, decide_eq_true e4]; rfl⟩)
/-- where a static field lies, its class's statics cell in H -/
def vx_L (C n d : String) (A : Nat → Prop) (U : State) (H : Heap) : Prop := ∃ (c : ClassId) (k : Class) (i : Nat) (f : Field) (a : Nat) (cell : Cell), U.vm.findClass C = some c ∧ U.fieldFound? C n d = some (c, k, i, f) ∧ f.isStatic = true ∧ k.statics = some a ∧ H[a]? = some cell ∧ cell.vm.isStatics = true ∧ cell.cls = c ∧ f.slot < cell.slots.size ∧ k.staticTypes[f.slot]? = some f.type ∧ ¬ A a
theorem vx_L.moved {C n d : String} {A : Nat → Prop} {u U : State} {H : Heap} (hvm : u.vm.Alike U.vm) (h : vx_L C n d A u H) : vx_L C n d A U H := by
  obtain ⟨c, k, i, f, a, cell, h1, h2, h3, h4, h5, h6, h7, h8, h9, h10⟩ := h
  obtain ⟨k', hi', he⟩ := State.fieldFound?_setVm hvm h2
  exact ⟨c, k', i, f, a, cell, by rw [hvm.findClass]; exact h1, hi', h3, by rw [he]; exact h4, h5, h6, h7, h8, by rw [he]; exact h9, h10⟩
theorem vx_L.kept {C n d : String} {A : Nat → Prop} {U : State} {H H1 : Heap} (h : vx_L C n d A U H) (hq : ∀ a : Nat, a < H.size → ¬ A a → H1[a]? = H[a]?) : vx_L C n d A U H1 := by
  obtain ⟨c, k, i, f, a, cell, h1, h2, h3, h4, h5, h6, h7, h8, h9, h10⟩ := h
  exact ⟨c, k, i, f, a, cell, h1, h2, h3, h4, by rw [hq a (Array.getElem?_eq_some_iff.mp h5).1 h10]; exact h5, h6, h7, h8, h9, h10⟩
theorem vx_L.narrow {C n d : String} {A B : Nat → Prop} {U : State} {H : Heap} (h : vx_L C n d A U H) (hAB : ∀ q, B q → A q) : vx_L C n d B U H := by
  obtain ⟨c, k, i, f, a, cell, h1, h2, h3, h4, h5, h6, h7, h8, h9, h10⟩ := h
  exact ⟨c, k, i, f, a, cell, h1, h2, h3, h4, h5, h6, h7, h8, h9, fun z => h10 (hAB _ z)⟩
theorem vx_L.word {C n d : String} {A : Nat → Prop} {s : State} {args : Array Value} (h : vx_L C n d A s s.heap) : (Cond.laysStatic C n d).before args s = true := by
  obtain ⟨c, k, i, f, a, cell, h1, h2, h3, h4, h5, h6, h7, h8, h9, -⟩ := h
  show (Cond.laysStatic C n d).holds args s none s [] = true
  exact Cond.laysStatic_of h1 h2 h3 h4 h5 h6 h7 h8 h9
/-- .. and what it holds: null or some reference -/
def vx_Zq (C n d : String) (A : Nat → Prop) (U : State) (H : Heap) : Prop := va_Zq C n d A U H ∧ vx_L C n d A U H
theorem vx_Zq.moved {C n d : String} {A : Nat → Prop} {u U : State} {H : Heap} (hvm : u.vm.Alike U.vm) (h : vx_Zq C n d A u H) : vx_Zq C n d A U H := ⟨va_Zq.moved hvm h.1, vx_L.moved hvm h.2⟩
theorem vx_Zq.kept {C n d : String} {A : Nat → Prop} {U : State} {H H1 : Heap} (h : vx_Zq C n d A U H) (hq : ∀ a : Nat, a < H.size → ¬ A a → H1[a]? = H[a]?) : vx_Zq C n d A U H1 := ⟨va_Zq.kept h.1 hq, vx_L.kept h.2 hq⟩
theorem vx_Zq.narrow {C n d : String} {A B : Nat → Prop} {U : State} {H : Heap} (h : vx_Zq C n d A U H) (hAB : ∀ q, B q → A q) : vx_Zq C n d B U H := ⟨va_Zq.narrow h.1 hAB, vx_L.narrow h.2 hAB⟩
theorem vx_Zqof {args : Array Value} {s : State} {C n d : String} {A : Nat → Prop} (hl : (Cond.laysStatic C n d).before args s = true) (hini : (Cond.initialized C).before args s = true) (h : (Cond.isRef (.static C n d)).before args s = true) (hA : ∀ a : Nat, a < s.heap.size → ¬ A a) : vx_Zq C n d A s s.heap := by
  refine ⟨va_Zqof hl hini h hA, ?_⟩
  obtain ⟨c, k, i, f, a, cell, h1, h2, h3, h4, h5, h6, h7, h8, h9⟩ := Cond.laysStatic_spec hl
  exact ⟨c, k, i, f, a, cell, h1, h2, h3, h4, h5, h6, h7, h8, h9, hA a (Array.getElem?_eq_some_iff.mp h5).1⟩
theorem vx_isRef {C n d : String} {v : Value} {A : Nat → Prop} {s : State} {args : Array Value} (h : va_Z C n d v A s s.heap) (hv : v.isRef = true) : (Cond.isRef (.static C n d)).before args s = true := by
  obtain ⟨cf, kf, fi, f, a, cell, h1, h2, h3, h4, h5, h6, h7, -⟩ := h
  have he : (Term.static C n d).eval args s none [] s = some v := by
    simp [Term.eval, State.fieldNamed?, h1, h2, h4, h5, h6, h7]
  simp only [Cond.before, Cond.holds, Cond.value, he]
  cases v <;> simp_all [Value.isRef]
theorem vx_isRefq {C n d : String} {A : Nat → Prop} {s : State} {args : Array Value} (h : va_Zq C n d A s s.heap) : (Cond.isRef (.static C n d)).before args s = true := by
  rcases h with h | ⟨t, h⟩
  · exact vx_isRef h rfl
  · exact vx_isRef h rfl
/-- the same frame, seen from here: as if the method were called anew in this heap -/
theorem vx_rebase {T : State} (X : Stand p l e R s m args below meth c T locs cells slots) {R' : Room} (hf : R'.frames ≤ R.frames) (hl : R'.locals ≤ R.locals) (hc : cells + R'.cells ≤ R.cells) (hs : slots + R'.slots ≤ R.slots) :
    Stand p l e R' ((T.setVm s.vm).setFrames (.invoking m args :: below)) m args below meth c T [] 0 0 := by
  have htop : (T.setVm s.vm).topJava?.isSome := X.here.top
  have hF : ((T.setVm s.vm).setFrames (.invoking m args :: below)).frames = .invoking m args :: below := State.frames_setFrames _ (State.cur_lt_of_top htop)
  obtain ⟨g₀, hg0⟩ := Option.isSome_iff_exists.mp htop
  obtain ⟨r, hr⟩ := State.topJava?_eq_some.mp hg0
  have hl9 : e.platform.stackLimits (T.setVm s.vm).me = e.platform.stackLimits s.me := X.limits
  have hb9 : (T.setVm s.vm).me.stackBytes = s.me.stackBytes := X.bytes
  refine ⟨X.admits, X.cas, X.clock, hF, ?_, X.hears, X.method, X.code, X.here, X.tail, X.warmed, ?_, ?_, ?_⟩
  · have h := X.room
    have hU : ((T.setVm s.vm).setFrames (.invoking m args :: below)).localsInUse = s.localsInUse := by
      rw [State.localsInUse_invoking hF (meth := meth) (c := c) X.method X.code, State.localsInUse_invoking X.frames X.method X.code]
    simp only [State.hasRoom, Bool.and_eq_true, decide_eq_true_eq] at h ⊢
    obtain ⟨⟨⟨⟨h1, h2, h3, h4, h5, h6⟩, h7⟩, h8⟩, h9⟩ := h
    rw [X.frames, List.length_cons] at h2 h3
    have q1 := X.heapSize
    have q2 := X.used
    simp only [hF, hU, List.length_cons, State.stackLimits_setFrames, State.stackBytes_setFrames, hl9, hb9]
    refine ⟨⟨⟨⟨by omega, by omega, by omega, by omega, by omega, h6⟩, ?_⟩, ?_⟩, X.book⟩
    · show T.heap.size + R'.cells ≤ e.platform.maxCells
      omega
    · show T.slotsUsed + R'.slots ≤ e.platform.maxSlots
      omega
  · rw [State.stackLimits_setFrames]; rfl
  · rw [State.stackBytes_setFrames]; rfl
  · refine ⟨?_, Nat.le_refl _, Nat.le_refl _, ?_, ?_, fun a c9 h9 => ⟨c9, h9, rfl, rfl, fun _ _ => rfl⟩⟩
    · obtain ⟨t, ht, -⟩ := State.frames_cons hr
      show T.setVm s.vm = { ((T.setVm s.vm).setFrames (.invoking m args :: below)).setFrames (T.setVm s.vm).frames with heap := T.heap, slotsUsed := T.slotsUsed }
      rw [State.setFrames_setFrames, State.setFrames_self ht]
      rfl
    · show T.slotsUsed = T.slotsUsed + ((T.heap.toList.drop T.heap.size).map (·.slots.size)).sum
      rw [List.drop_eq_nil_of_le (Nat.le_of_eq Array.length_toList)]
      rfl
    · show ((T.heap.toList.drop T.heap.size).map (·.slots.size)).sum ≤ 0
      rw [List.drop_eq_nil_of_le (Nat.le_of_eq Array.length_toList)]
      exact Nat.le_refl _
/-- 'throw new E()': new; dup; invokespecial; athrow -/
theorem vx_throw0 {cc : ByteArray} {pc : Nat} (hexec : p.tables.exec = Jvm.exec) (hb : c.code = cc) (hl : l.stackTraces = false) {own cls : String} {names : List String} {ik ic mc ms : Nat} {A : Nat → Prop}
    (hown : s.vm.findClass own = some m.cls) (hcls : Bundle.fit cls = true) (hnames : ∀ n ∈ names, Bundle.fit n = true)
    (hk : (Cond.classLink own ik cls).before args s = true) (hini : (Cond.initialized cls).before args s = true) (hat : ∀ w ∈ vx_at0 own ic cls names, w.before args s = true)
    (hgood : ∀ w ∈ Cond.classLink own ik cls :: Cond.initialized cls :: vx_at0 own ic cls names, vx_ot w = true)
    (hU : vx_Zq Bundle.tN "UNASSIGNED_STACK" Bundle.steD A s s.heap) (hN : vx_Zq Bundle.tN "SUPPRESSED_SENTINEL" Bundle.listD A s s.heap) (hS : va_S A s.heap H locs) (hsize : ls.size = c.maxLocals)
    (d0 : decode cc pc = .ok (.new ik, 3)) (d3 : decode cc (pc + 3) = .ok (.dup, 1)) (d4 : decode cc (pc + 4) = .ok (.invokespecial ic, 3)) (d7 : decode cc (pc + 7) = .ok (.athrow, 1))
    (hout : ∀ x ∈ c.exceptionTable.toList, covers x (pc + 7) = false)
    (hRframes : names.length + 3 < R.frames) (hRlocals : (rest.map fun v => v.category).sum + (13 * (names.length + 1) + 42) ≤ R.locals) (hRcells : cells + 1 ≤ R.cells) (hRslots : slots + 6 ≤ R.slots) (hlocks : meth.locks = false)
    (hx : ∀ t : State, s.vm.Alike t.vm → H.size ≤ t.heap.size → (∀ q : Nat, q < H.size → t.heap[q]? = H[q]?) → XC cls s t)
    (hf : ∀ z ∈ locs, free z.base) (hc : cells + 1 ≤ mc) (hs : slots + 6 ≤ ms) :
    W p l e R s m args below meth c H locs cells slots (vx_MQ below Qc XC args s mc ms free) (F0 m pc ls rest) := by
  intro T hT X
  have htr : e.platform.stackTraces = false := (show e.platform.stackTraces = l.stackTraces by rw [X.admits.platform]).trans hl
  have Y := vx_rebase X (R' := { frames := R.frames, locals := R.locals, cells := 1, slots := 6 }) (Nat.le_refl _) (Nat.le_refl _) hRcells hRslots
  obtain ⟨s', hA⟩ : ∃ z, z = (T.setVm s.vm).setFrames (.invoking m args :: below) := ⟨_, rfl⟩
  rw [← hA] at Y
  have hvm : s'.vm = s.vm := by rw [hA]; rfl
  have hhp : s'.heap = H := by rw [hA]; exact hT
  have hW0 : s.WarmedH s'.vm := by rw [hvm]; exact State.WarmedH.refl s
  have hat' : ∀ w ∈ vx_at0 own ic cls names, w.before args s' = true := fun w hw => vx_ot_at hW0 hvm.symm (hgood w (List.mem_cons_of_mem _ (List.mem_cons_of_mem _ hw))) (hat w hw)
  have hk' : (Cond.classLink own ik cls).before args s' = true := vx_ot_at hW0 hvm.symm (hgood _ List.mem_cons_self) hk
  have hini' : (Cond.initialized cls).before args s' = true := vx_ot_at hW0 hvm.symm (hgood _ (List.mem_cons_of_mem _ List.mem_cons_self)) hini
  have hU' : vx_Zq Bundle.tN "UNASSIGNED_STACK" Bundle.steD A s' s'.heap := by rw [hhp]; exact vx_Zq.moved hW0.alike (hU.kept hS.2.1)
  have hN' : vx_Zq Bundle.tN "SUPPRESSED_SENTINEL" Bundle.listD A s' s'.heap := by rw [hhp]; exact vx_Zq.moved hW0.alike (hN.kept hS.2.1)
  have h : ∀ w ∈ Bundle.ownAtoms0 own ic cls names, w.before args s' = true := vx_own hat' (vx_isRefq hU'.1) (vx_isRefq hN'.1) hU'.2.word hN'.2.word
  have hown' : s'.vm.findClass own = some m.cls := by rw [hvm]; exact hown
  have hins : (Cond.instantiable cls 6).before args s' = true := h _ (by simp [Bundle.ownAtoms0])
  obtain ⟨vm₁, cX, kX, hfX, hkX, -, -, X₁, st1⟩ := Y.newCold hexec (own := own) (C := cls) (index := ik) (n := 6) hown' hk' hins hini'
    (g := F0 m pc ls rest) rfl (by rw [hb]; exact d0) (Nat.le_refl _) (Nat.le_refl _)
  generalize hT1 : (T.setVm vm₁).pushCell { cls := cX, slots := kX.instanceTypes.map defaultValue, vm := .none } = T1 at X₁ st1
  have hcat : (Value.ref T.heap.size).category = 1 := rfl
  have hcellA : T1.heap[T.heap.size]? = some (freshCell cX kX) := by rw [← hT1]; exact State.heap_pushCell_size _ _
  have d3' : decode c.code (pc + 3) = .ok (.dup, 1) := by rw [hb]; exact d3
  obtain ⟨U, hsteps, hrun, hend, hW, hsame, ce, hce, hO⟩ := X₁.ctorThrow0 hexec htr (own := own) (cls := cls) (names := names) (ic := ic) hown' hcls hnames h (fun x hx => nomatch hx) hfX hkX hcellA (by rw [hhp, hT]; exact Nat.le_refl _)
    (g := { method := m, pc := pc + 4, locals := ls, stack := .ref T.heap.size :: .ref T.heap.size :: rest, locked := none }) rfl hsize rfl rfl (rest := rest) rfl
    (by rw [hb]; exact d4) (by rw [hb]; exact d7) hout hRframes (by simp only [List.map_cons, List.sum_cons, hcat]; omega) hlocks
  obtain ⟨f1, f2⟩ := vx_frame hsame
  rw [hhp] at f1 f2
  have hWs : s.WarmedH U.vm := State.WarmedH.trans hW0 hW
  have hcl : s.vm.findClass cls = some ce.cls := by
    have h9 := hO.cls
    rw [hvm] at h9
    exact h9
  have hall : s.sameButNew ({ U with vm := s.vm } : State) locs mc ms := by
    subst hA
    obtain ⟨e1, e2⟩ := hsame
    rw [State.setFrames_setFrames] at e1
    have h2 : (T.setVm s.vm).sameButNew ({ U with vm := s.vm } : State) [] (0 + 1) (0 + 6) := ⟨e1, e2⟩
    have h3 := X.same.trans h2
    rw [List.append_nil] at h3
    exact h3.mono hc hs
  refine ⟨U, ?_, .threw T.heap.size, hrun, hend, Or.inr ⟨T.heap.size, rfl, cls, ce, locs, hx U hWs.alike f1 (fun q hq => f2 q hq (fun z hz => nomatch hz)), hce, hO.vm, hcl, hWs, hall, hf⟩⟩
  refine st1 _ ?_
  show Steps p.tables e below (T1.setTop { method := m, pc := pc + 3, locals := ls, stack := .ref T.heap.size :: rest, locked := none }) _
  jvm_step X₁.here [X₁.here.top, hexec, d3', Value.category]
  exact hsteps
/-- 'throw new E("text")': new; dup; ldc; invokespecial; athrow -/
theorem vx_throwS {cc : ByteArray} {pc : Nat} (hexec : p.tables.exec = Jvm.exec) (hb : c.code = cc) (hl : l.stackTraces = false) {own cls text : String} {names : List String} {ik is ic mc ms sa : Nat} {A : Nat → Prop}
    (hown : s.vm.findClass own = some m.cls) (hcls : Bundle.fit cls = true) (hnames : ∀ n ∈ names, Bundle.fit n = true)
    (hk : (Cond.classLink own ik cls).before args s = true) (hini : (Cond.initialized cls).before args s = true) (hstr : vk_R own is text sa s) (hat : ∀ w ∈ vx_atS own ic cls names, w.before args s = true)
    (hgood : ∀ w ∈ Cond.classLink own ik cls :: Cond.initialized cls :: vx_atS own ic cls names, vx_ot w = true)
    (hU : vx_Zq Bundle.tN "UNASSIGNED_STACK" Bundle.steD A s s.heap) (hN : vx_Zq Bundle.tN "SUPPRESSED_SENTINEL" Bundle.listD A s s.heap) (hS : va_S A s.heap H locs) (hsize : ls.size = c.maxLocals)
    (d0 : decode cc pc = .ok (.new ik, 3)) (d3 : decode cc (pc + 3) = .ok (.dup, 1)) (d4 : decode cc (pc + 4) = .ok (.ldc is, 2)) (d6 : decode cc (pc + 6) = .ok (.invokespecial ic, 3)) (d9 : decode cc (pc + 9) = .ok (.athrow, 1))
    (hout : ∀ x ∈ c.exceptionTable.toList, covers x (pc + 9) = false)
    (hRframes : names.length + 3 < R.frames) (hRlocals : (rest.map fun v => v.category).sum + (13 * (names.length + 1) + 43) ≤ R.locals) (hRcells : cells + 1 ≤ R.cells) (hRslots : slots + 6 ≤ R.slots) (hlocks : meth.locks = false)
    (hx : ∀ t : State, s.vm.Alike t.vm → H.size ≤ t.heap.size → (∀ q : Nat, q < H.size → t.heap[q]? = H[q]?) → XC cls s t)
    (hf : ∀ z ∈ locs, free z.base) (hc : cells + 1 ≤ mc) (hs : slots + 6 ≤ ms) :
    W p l e R s m args below meth c H locs cells slots (vx_MQ below Qc XC args s mc ms free) (F0 m pc ls rest) := by
  intro T hT X
  have htr : e.platform.stackTraces = false := (show e.platform.stackTraces = l.stackTraces by rw [X.admits.platform]).trans hl
  have Y := vx_rebase X (R' := { frames := R.frames, locals := R.locals, cells := 1, slots := 6 }) (Nat.le_refl _) (Nat.le_refl _) hRcells hRslots
  obtain ⟨s', hA⟩ : ∃ z, z = (T.setVm s.vm).setFrames (.invoking m args :: below) := ⟨_, rfl⟩
  rw [← hA] at Y
  have hvm : s'.vm = s.vm := by rw [hA]; rfl
  have hhp : s'.heap = H := by rw [hA]; exact hT
  have hW0 : s.WarmedH s'.vm := by rw [hvm]; exact State.WarmedH.refl s
  have hat' : ∀ w ∈ vx_atS own ic cls names, w.before args s' = true := fun w hw => vx_ot_at hW0 hvm.symm (hgood w (List.mem_cons_of_mem _ (List.mem_cons_of_mem _ hw))) (hat w hw)
  have hk' : (Cond.classLink own ik cls).before args s' = true := vx_ot_at hW0 hvm.symm (hgood _ List.mem_cons_self) hk
  have hini' : (Cond.initialized cls).before args s' = true := vx_ot_at hW0 hvm.symm (hgood _ (List.mem_cons_of_mem _ List.mem_cons_self)) hini
  have hU' : vx_Zq Bundle.tN "UNASSIGNED_STACK" Bundle.steD A s' s'.heap := by rw [hhp]; exact vx_Zq.moved hW0.alike (hU.kept hS.2.1)
  have hN' : vx_Zq Bundle.tN "SUPPRESSED_SENTINEL" Bundle.listD A s' s'.heap := by rw [hhp]; exact vx_Zq.moved hW0.alike (hN.kept hS.2.1)
  have h : ∀ w ∈ Bundle.ownAtoms own ic cls names, w.before args s' = true := vx_own hat' (vx_isRefq hU'.1) (vx_isRefq hN'.1) hU'.2.word hN'.2.word
  have hown' : s'.vm.findClass own = some m.cls := by rw [hvm]; exact hown
  have hins : (Cond.instantiable cls 6).before args s' = true := h _ (by simp [Bundle.ownAtoms])
  obtain ⟨vm₁, cX, kX, hfX, hkX, -, -, X₁, st1⟩ := Y.newCold hexec (own := own) (C := cls) (index := ik) (n := 6) hown' hk' hins hini'
    (g := F0 m pc ls rest) rfl (by rw [hb]; exact d0) (Nat.le_refl _) (Nat.le_refl _)
  generalize hT1 : (T.setVm vm₁).pushCell { cls := cX, slots := kX.instanceTypes.map defaultValue, vm := .none } = T1 at X₁ st1
  have hcat : (Value.ref T.heap.size).category = 1 := rfl
  have hcellA : T1.heap[T.heap.size]? = some (freshCell cX kX) := by rw [← hT1]; exact State.heap_pushCell_size _ _
  have d3' : decode c.code (pc + 3) = .ok (.dup, 1) := by rw [hb]; exact d3
  have d4' : decode c.code (pc + 4) = .ok (.ldc is, 2) := by rw [hb]; exact d4
  have hstr' : vk_R own is text sa s' := vk_R.warm hW0 hstr
  obtain ⟨U, hsteps, hrun, hend, hW, hsame, ce, hce, hO⟩ := X₁.ctorThrowS hexec htr (own := own) (cls := cls) (names := names) (ic := ic) hown' hcls hnames h (fun x hx => nomatch hx) hfX hkX hcellA (by rw [hhp, hT]; exact Nat.le_refl _) (msg := .ref sa) rfl
    (g := { method := m, pc := pc + 6, locals := ls, stack := .ref sa :: .ref T.heap.size :: .ref T.heap.size :: rest, locked := none }) rfl hsize rfl rfl (rest := rest) rfl
    (by rw [hb]; exact d6) (by rw [hb]; exact d9) hout hRframes (by simp only [List.map_cons, List.sum_cons, hcat]; omega) hlocks
  obtain ⟨f1, f2⟩ := vx_frame hsame
  rw [hhp] at f1 f2
  have hWs : s.WarmedH U.vm := State.WarmedH.trans hW0 hW
  have hcl : s.vm.findClass cls = some ce.cls := by
    have h9 := hO.cls
    rw [hvm] at h9
    exact h9
  have hall : s.sameButNew ({ U with vm := s.vm } : State) locs mc ms := by
    subst hA
    obtain ⟨e1, e2⟩ := hsame
    rw [State.setFrames_setFrames] at e1
    have h2 : (T.setVm s.vm).sameButNew ({ U with vm := s.vm } : State) [] (0 + 1) (0 + 6) := ⟨e1, e2⟩
    have h3 := X.same.trans h2
    rw [List.append_nil] at h3
    exact h3.mono hc hs
  refine ⟨U, ?_, .threw T.heap.size, hrun, hend, Or.inr ⟨T.heap.size, rfl, cls, ce, locs, hx U hWs.alike f1 (fun q hq => f2 q hq (fun z hz => nomatch hz)), hce, hO.vm, hcl, hWs, hall, hf⟩⟩
  refine st1 _ ?_
  show Steps p.tables e below (T1.setTop { method := m, pc := pc + 3, locals := ls, stack := .ref T.heap.size :: rest, locked := none }) _
  jvm_step X₁.here [X₁.here.top, hexec, d3', Value.category]
  exact X₁.ldcString hexec (own := own) (text := text) (index := is) (a := sa) hown' hstr'.1 hstr'.2
    (g := { method := m, pc := pc + 4, locals := ls, stack := .ref T.heap.size :: .ref T.heap.size :: rest, locked := none }) rfl d4' _ hsteps
/-- 'throw new E("text")', the text by a wide index -/
theorem vx_throwSW {cc : ByteArray} {pc : Nat} (hexec : p.tables.exec = Jvm.exec) (hb : c.code = cc) (hl : l.stackTraces = false) {own cls text : String} {names : List String} {ik is ic mc ms sa : Nat} {A : Nat → Prop}
    (hown : s.vm.findClass own = some m.cls) (hcls : Bundle.fit cls = true) (hnames : ∀ n ∈ names, Bundle.fit n = true)
    (hk : (Cond.classLink own ik cls).before args s = true) (hini : (Cond.initialized cls).before args s = true) (hstr : vk_R own is text sa s) (hat : ∀ w ∈ vx_atS own ic cls names, w.before args s = true)
    (hgood : ∀ w ∈ Cond.classLink own ik cls :: Cond.initialized cls :: vx_atS own ic cls names, vx_ot w = true)
    (hU : vx_Zq Bundle.tN "UNASSIGNED_STACK" Bundle.steD A s s.heap) (hN : vx_Zq Bundle.tN "SUPPRESSED_SENTINEL" Bundle.listD A s s.heap) (hS : va_S A s.heap H locs) (hsize : ls.size = c.maxLocals)
    (d0 : decode cc pc = .ok (.new ik, 3)) (d3 : decode cc (pc + 3) = .ok (.dup, 1)) (d4 : decode cc (pc + 4) = .ok (.ldc_w is, 3)) (d7 : decode cc (pc + 7) = .ok (.invokespecial ic, 3)) (d10 : decode cc (pc + 10) = .ok (.athrow, 1))
    (hout : ∀ x ∈ c.exceptionTable.toList, covers x (pc + 10) = false)
    (hRframes : names.length + 3 < R.frames) (hRlocals : (rest.map fun v => v.category).sum + (13 * (names.length + 1) + 43) ≤ R.locals) (hRcells : cells + 1 ≤ R.cells) (hRslots : slots + 6 ≤ R.slots) (hlocks : meth.locks = false)
    (hx : ∀ t : State, s.vm.Alike t.vm → H.size ≤ t.heap.size → (∀ q : Nat, q < H.size → t.heap[q]? = H[q]?) → XC cls s t)
    (hf : ∀ z ∈ locs, free z.base) (hc : cells + 1 ≤ mc) (hs : slots + 6 ≤ ms) :
    W p l e R s m args below meth c H locs cells slots (vx_MQ below Qc XC args s mc ms free) (F0 m pc ls rest) := by
  intro T hT X
  have htr : e.platform.stackTraces = false := (show e.platform.stackTraces = l.stackTraces by rw [X.admits.platform]).trans hl
  have Y := vx_rebase X (R' := { frames := R.frames, locals := R.locals, cells := 1, slots := 6 }) (Nat.le_refl _) (Nat.le_refl _) hRcells hRslots
  obtain ⟨s', hA⟩ : ∃ z, z = (T.setVm s.vm).setFrames (.invoking m args :: below) := ⟨_, rfl⟩
  rw [← hA] at Y
  have hvm : s'.vm = s.vm := by rw [hA]; rfl
  have hhp : s'.heap = H := by rw [hA]; exact hT
  have hW0 : s.WarmedH s'.vm := by rw [hvm]; exact State.WarmedH.refl s
  have hat' : ∀ w ∈ vx_atS own ic cls names, w.before args s' = true := fun w hw => vx_ot_at hW0 hvm.symm (hgood w (List.mem_cons_of_mem _ (List.mem_cons_of_mem _ hw))) (hat w hw)
  have hk' : (Cond.classLink own ik cls).before args s' = true := vx_ot_at hW0 hvm.symm (hgood _ List.mem_cons_self) hk
  have hini' : (Cond.initialized cls).before args s' = true := vx_ot_at hW0 hvm.symm (hgood _ (List.mem_cons_of_mem _ List.mem_cons_self)) hini
  have hU' : vx_Zq Bundle.tN "UNASSIGNED_STACK" Bundle.steD A s' s'.heap := by rw [hhp]; exact vx_Zq.moved hW0.alike (hU.kept hS.2.1)
  have hN' : vx_Zq Bundle.tN "SUPPRESSED_SENTINEL" Bundle.listD A s' s'.heap := by rw [hhp]; exact vx_Zq.moved hW0.alike (hN.kept hS.2.1)
  have h : ∀ w ∈ Bundle.ownAtoms own ic cls names, w.before args s' = true := vx_own hat' (vx_isRefq hU'.1) (vx_isRefq hN'.1) hU'.2.word hN'.2.word
  have hown' : s'.vm.findClass own = some m.cls := by rw [hvm]; exact hown
  have hins : (Cond.instantiable cls 6).before args s' = true := h _ (by simp [Bundle.ownAtoms])
  obtain ⟨vm₁, cX, kX, hfX, hkX, -, -, X₁, st1⟩ := Y.newCold hexec (own := own) (C := cls) (index := ik) (n := 6) hown' hk' hins hini'
    (g := F0 m pc ls rest) rfl (by rw [hb]; exact d0) (Nat.le_refl _) (Nat.le_refl _)
  generalize hT1 : (T.setVm vm₁).pushCell { cls := cX, slots := kX.instanceTypes.map defaultValue, vm := .none } = T1 at X₁ st1
  have hcat : (Value.ref T.heap.size).category = 1 := rfl
  have hcellA : T1.heap[T.heap.size]? = some (freshCell cX kX) := by rw [← hT1]; exact State.heap_pushCell_size _ _
  have d3' : decode c.code (pc + 3) = .ok (.dup, 1) := by rw [hb]; exact d3
  have d4' : decode c.code (pc + 4) = .ok (.ldc_w is, 3) := by rw [hb]; exact d4
  have hstr' : vk_R own is text sa s' := vk_R.warm hW0 hstr
  obtain ⟨U, hsteps, hrun, hend, hW, hsame, ce, hce, hO⟩ := X₁.ctorThrowS hexec htr (own := own) (cls := cls) (names := names) (ic := ic) hown' hcls hnames h (fun x hx => nomatch hx) hfX hkX hcellA (by rw [hhp, hT]; exact Nat.le_refl _) (msg := .ref sa) rfl
    (g := { method := m, pc := pc + 7, locals := ls, stack := .ref sa :: .ref T.heap.size :: .ref T.heap.size :: rest, locked := none }) rfl hsize rfl rfl (rest := rest) rfl
    (by rw [hb]; exact d7) (by rw [hb]; exact d10) hout hRframes (by simp only [List.map_cons, List.sum_cons, hcat]; omega) hlocks
  obtain ⟨f1, f2⟩ := vx_frame hsame
  rw [hhp] at f1 f2
  have hWs : s.WarmedH U.vm := State.WarmedH.trans hW0 hW
  have hcl : s.vm.findClass cls = some ce.cls := by
    have h9 := hO.cls
    rw [hvm] at h9
    exact h9
  have hall : s.sameButNew ({ U with vm := s.vm } : State) locs mc ms := by
    subst hA
    obtain ⟨e1, e2⟩ := hsame
    rw [State.setFrames_setFrames] at e1
    have h2 : (T.setVm s.vm).sameButNew ({ U with vm := s.vm } : State) [] (0 + 1) (0 + 6) := ⟨e1, e2⟩
    have h3 := X.same.trans h2
    rw [List.append_nil] at h3
    exact h3.mono hc hs
  refine ⟨U, ?_, .threw T.heap.size, hrun, hend, Or.inr ⟨T.heap.size, rfl, cls, ce, locs, hx U hWs.alike f1 (fun q hq => f2 q hq (fun z hz => nomatch hz)), hce, hO.vm, hcl, hWs, hall, hf⟩⟩
  refine st1 _ ?_
  show Steps p.tables e below (T1.setTop { method := m, pc := pc + 3, locals := ls, stack := .ref T.heap.size :: rest, locked := none }) _
  jvm_step X₁.here [X₁.here.top, hexec, d3', Value.category]
  exact X₁.ldcStringW hexec (own := own) (text := text) (index := is) (a := sa) hown' hstr'.1 hstr'.2
    (g := { method := m, pc := pc + 4, locals := ls, stack := .ref T.heap.size :: .ref T.heap.size :: rest, locked := none }) rfl d4' _ hsteps
end Ends
section Bodies
variable {l : Launch}
theorem vx_ofW {y : MethodName} {ws ws' : List Cond} {rm : Room} {Pc : Array Value → State → Prop} {Qc : Array Value → State → Outcome → State → Prop} {XC : String → State → State → Prop} {mc ms : Nat} {free : Addr → Prop} {cc : ByteArray} {maxL : Nat} {ret : Option FieldType}
    (hy : plainName y.cls = true) (hw : ws = Cond.code y cc maxL ret :: ws')
    (body : ∀ p e s m args below meth c s₁, BodyLoose p l y (headSpec ws rm) cc maxL ret e s m args below meth c s₁ → c.maxLocals = maxL → (∀ x ∈ c.exceptionTable.toList, False) → Pc args s →
      W p l e (headSpec ws rm).room s m args below meth c s.heap [] 0 0 (vx_MQ below Qc XC args s mc ms free) (entryFrame m args maxL)) : vx_Met l y ws rm Pc Qc XC mc ms free := by
  refine MetFree.of_bodyS (code := cc) (maxLocals := maxL) (ret := ret) hy ?_ ?_
  · intro args s m h hn
    obtain ⟨meth, c, h1, h2, h3, h4, h5, h6, -, -⟩ := Cond.code_spec hn (atoms_spec (ws := ws) h _ (by rw [hw]; exact List.mem_cons_self))
    exact ⟨meth, c, h1, h2, h3, h4, h5, h6⟩
  · intro p e s m args below meth c s₁ B hml hP _
    have hh0 : s₁.heap = s.heap := by rw [B.state]; rfl
    have ht : ∀ x ∈ c.exceptionTable.toList, False := by
      obtain ⟨meth9, c9, h1, h2, -, -, -, -, h7, -⟩ := Cond.code_spec B.named (atoms_spec (ws := ws) B.pre _ (by rw [hw]; exact List.mem_cons_self))
      cases Option.some.inj (h1.symm.trans B.method)
      cases Option.some.inj (h2.symm.trans (Stand.of_body B).code)
      intro x hx
      rw [Array.isEmpty_iff.mp h7] at hx
      cases hx
    obtain ⟨t, a1, o, b1, b2, b3⟩ := body p e s m args below meth c s₁ B hml ht hP s₁ hh0 (Stand.of_body B)
    exact ⟨t, o, a1, b1, b2, b3⟩
/-- the table of a body with handlers -/
theorem vx_table {p : Program} {x y : MethodName} {S : Spec} {cc bytes : ByteArray} {maxL maxL' : Nat} {ret ret' : Option FieldType} {e : Env} {s s₁ : State} {m : MethodId} {args : Array Value} {below : List Frame} {meth : Method} {c : Code} {hh : List (Nat × Nat × Nat × Nat)}
    (B : BodyLoose p l y S cc maxL ret e s m args below meth c s₁) (h : (Cond.codeWith y bytes maxL' ret' hh).before args s = true) : c.exceptionTable.toList = tableOf hh := by
  obtain ⟨m9, meth9, c9, hn9, h1, h2, -, -, h6, -⟩ := Cond.codeWith_spec h
  cases Option.some.inj (hn9.symm.trans B.named)
  cases Option.some.inj (h1.symm.trans B.method)
  cases Option.some.inj (h2.symm.trans (Stand.of_body B).code)
  rw [← h6, table_eq]
end Bodies
end VXA
/-! ===== END ===== -/
/-! ===== BEGIN a static call of a method with an exception table ===== -/
section VXS
variable {p : Program} {l : Launch} {e : Env} {R : Room} {s : State} {m : MethodId} {args : Array Value} {below : List Frame} {meth : Method} {c : Code} {T : State} {H : Heap} {locs : List Loc} {cells slots : Nat}
abbrev vx_CSW (R : Room) (s : State) (args : Array Value) (own : String) (index : Nat) (y : MethodName) (bytes : ByteArray) (maxL : Nat) (ret : Option FieldType) (hh : List (Nat × Nat × Nat × Nat)) (ws : List Cond) (rm : Room) (mc ms n : Nat) : Prop :=
  (rm.cells = mc ∧ rm.slots = ms ∧ rm.frames + 1 ≤ R.frames ∧ 8 + (maxL + 11) + rm.locals ≤ R.locals ∧ (∀ w ∈ ws, ∀ (a' : Array Value) (U : State), s.WarmedH U.vm → w.before a' U = true) ∧ Cond.codeWith y bytes maxL ret hh ∈ ws) ∧
  (Cond.codeWith y bytes maxL ret hh).before args s = true ∧ (Cond.initialized y.cls).before args s = true ∧ (y.cls ≠ "java/lang/invoke/MethodHandle" ∧ y.cls ≠ "java/lang/invoke/VarHandle") ∧
  (∀ sig, parseMethodDescriptor y.desc = some sig → n = sig.parameters.length) ∧ (Cond.methodLink own index y).before args s = true ∧ (Cond.static y).before args s = true
theorem vx_cwSW {own : String} {index maxL mc ms : Nat} {y : MethodName} {bytes : ByteArray} {ret : Option FieldType} {hh : List (Nat × Nat × Nat × Nat)} {Ts ws ws' : List Cond} {rm : Room} (n : Nat) (ht : ∀ w ∈ Ts, w.before args s = true) (hT : GoodIn Ts (va_wsS own index y ws)) (hw : ws = Cond.codeWith y bytes maxL ret hh :: ws') (hrc : rm.cells = mc) (hrs : rm.slots = ms)
    (hd : y.cls ≠ "java/lang/invoke/MethodHandle" ∧ y.cls ≠ "java/lang/invoke/VarHandle" ∧ (parseMethodDescriptor y.desc).map (fun d => d.parameters.length) = some n) (hR : rm.frames + 1 ≤ R.frames ∧ 8 + (maxL + 11) + rm.locals ≤ R.locals) :
    vx_CSW R s args own index y bytes maxL ret hh ws rm mc ms n := by
  have ok : ∀ w ∈ va_wsS own index y ws, w.before args s = true := fun w h => ht w (hT w h).1
  have hG : GoodIn Ts ws := fun w h => hT w (by unfold va_wsS; exact List.mem_append_right _ h)
  have hc : Cond.codeWith y bytes maxL ret hh ∈ ws := by rw [hw]; exact List.mem_cons_self
  refine ⟨⟨hrc, hrs, hR.1, hR.2, pay_in ht hG, hc⟩, ht _ (hG _ hc).1, ok _ (by simp [va_wsS]), ⟨hd.1, hd.2.1⟩, fun sig h => ?_, ok _ (by simp [va_wsS]), ok _ (by simp [va_wsS])⟩
  have h2 := hd.2.2
  rw [h] at h2
  exact (Option.some.inj h2).symm
theorem vx_callSW (X : Stand p l e R s m args below meth c T locs cells slots) (hexec : p.tables.exec = Jvm.exec) {own : String} {index : Nat} {y : MethodName} {bytes : ByteArray} {maxL : Nat} {ret : Option FieldType} {hh : List (Nat × Nat × Nat × Nat)}
    (hown : s.vm.findClass own = some m.cls) (hlink : (Cond.methodLink own index y).before args s = true) (hstat : (Cond.static y).before args s = true) (hinit : (Cond.initialized y.cls).before args s = true)
    (hcode : (Cond.codeWith y bytes maxL ret hh).before args s = true) (hy : y.cls ≠ "java/lang/invoke/MethodHandle" ∧ y.cls ≠ "java/lang/invoke/VarHandle")
    {W9 : Nat} {Pre : Pt → Array Value → Prop} {Post : Pt → Array Value → Option Value → Pt → Prop} (hK : Back l R p e below s args y 3 W9 Pre Post)
    {g : JFrame} (hg : g.method = m) (hsize : g.locals.size = c.maxLocals) {argsL rest : List Value} (hlen : ∀ sig, parseMethodDescriptor y.desc = some sig → argsL.length = sig.parameters.length)
    (hstack : g.stack = argsL.reverse ++ rest) (hW : 2 * g.monitorRoom + (rest.map fun v => v.category).sum ≤ W9) (hdg : decode c.code g.pc = .ok (.invokestatic index, 3))
    (hpre : ∀ vm₁, s.WarmedH vm₁ → Pre ⟨T.setVm vm₁, locs, cells, slots⟩ argsL.toArray) :
    ∃ (v : Option Value) (vm₁ : Vm) (B : Pt), s.WarmedH vm₁ ∧ Stand p l e R s m args below meth c B.U B.locs B.cells B.slots ∧ Post ⟨T.setVm vm₁, locs, cells, slots⟩ argsL.toArray v B ∧
      ∀ target, Steps p.tables e below (B.U.setTop { g with pc := g.pc + 3, stack := v.toList ++ rest }) target → Steps p.tables e below (T.setTop g) target := by
  obtain ⟨mk, methM, cM, hnamed, hmethM, -, -, -, -, -, -, hsigM⟩ := Cond.codeWith_spec hcode
  have hstatic : methM.isStatic = true := Cond.static_spec hnamed hmethM hstat
  obtain ⟨kP, hkP, -⟩ := className_of_methodNamed hnamed
  have hinitP : kP.init = .initialized := Cond.initialized_spec (findClass_of_methodNamed hnamed) hkP hinit
  obtain ⟨vm₁, X₁, hstep₁⟩ := X.invokestatic hexec hown hlink hnamed hmethM hstatic hkP hinitP hy (g := g) hg (argsL := argsL) (rest := rest) (hlen _ hsigM) hstack hdg
  obtain ⟨v, B, X', hpost, hsteps⟩ := hK m meth c ⟨T.setVm vm₁, locs, cells, slots⟩ { g with stack := rest } (.invokestatic index) mk argsL.toArray X₁ hg hsize hdg hW (X₁.named hnamed) (hpre vm₁ X₁.warmed)
  exact ⟨v, vm₁, B, X₁.warmed, X', hpost, fun target h => hstep₁ _ fun acts => by rw [doInvoke_state]; exact hsteps.trans h⟩
theorem vx_runSW {y : MethodName} {bytes cc : ByteArray} {maxL nL mc ms n index : Nat} {ret : Option FieldType} {hh : List (Nat × Nat × Nat × Nat)} {ws : List Cond} {rm : Room} {Pc : Array Value → State → Prop} {Qc : Array Value → State → Outcome → State → Prop} {free : Addr → Prop} {Ts : List Cond} {own : String} {As rest : List Value} {g : JFrame}
    (S : CallFix p m c cc nL s args Ts own) (hM : Met l y ws rm Pc Qc mc ms free) (cw : vx_CSW R s args own index y bytes maxL ret hh ws rm mc ms n) (hp : PreS s H Pc As)
    (hg : g.method = m) (hn : As.length = n) (hsize : g.locals.size = nL) (hstack : g.stack = As.reverse ++ rest) (hW : 2 * g.monitorRoom + (rest.map fun v => v.category).sum ≤ 8) (hdg : decode cc g.pc = .ok (.invokestatic index, 3)) (hf : cells + mc ≤ R.cells ∧ slots + ms ≤ R.slots) :
    va_Run p l e R s m args below meth c H locs cells slots mc ms g rest (Qc As.toArray) (free) := by
  obtain ⟨⟨hrc, hrs, hfr, hlo, hws, hcw⟩, hcode, hini, hy, hlen, hl, hstt⟩ := cw
  have hK : Back l R p e below s args y 3 8 (PreOf R mc ms Pc) (PostOf Qc mc ms free) := va_backW (hh := hh) (bytes := bytes) (maxL := maxL) (ret := ret) hM hp.1 hrc hrs hfr hlo hws hcw (fun a' U hW => word_at hW (Or.inl (by first | rfl | simp [Cond.onTables, Cond.keeps, Cond.steady])) hini)
  obtain ⟨hx, hb, hml, ho, -⟩ := S
  intro T hT X
  obtain ⟨v, vm₁, ⟨U', l2, c2, s2⟩, hW₁, X', ⟨g', mk, t, L, e1, e2, hq, h1, hL, h2, h3⟩, st⟩ := vx_callSW X hx (hh := hh) (bytes := bytes) (maxL := maxL) (ret := ret) ho hl hstt hini hcode hy hK hg (hsize.trans hml.symm) (argsL := As) (rest := rest) (fun sig h => hn.trans (hlen sig h)) hstack hW (by rw [hb]; exact hdg)
    (fun vm₁ hW₁ => ⟨hf.1, hf.2, hp.2 (T.setVm vm₁) hT hW₁⟩)
  dsimp only [Pt.U, Pt.locs, Pt.cells, Pt.slots] at X' e1 e2 h1 h2 h3 st
  subst h1; subst h2; subst h3
  exact ⟨v, (T.setVm vm₁).calling g' mk As.toArray, t, U', L, hT, X', hL, e1, e2, hq, st⟩
/-- not caught here, past rows that name other classes: it goes on to the caller -/
theorem vx_outP {p : Program} {l : Launch} {e : Env} {R : Room} {s : State} {m : MethodId} {args : Array Value} {below : List Frame} {meth : Method} {c : Code} {H : Heap} {locs : List Loc} {cells slots : Nat} {free : Addr → Prop} {ls : Array Slot} {rest : List Value} {Qc : Array Value → State → Outcome → State → Prop} {XC : String → State → State → Prop}
    {pc : Nat} {own E : String} {ce : Cell} {q : Addr} {mc ms : Nat} (hown : s.vm.findClass own = some m.cls) (hlocks : meth.locks = false)
    (hpass : ∀ z ∈ c.exceptionTable.toList, covers z pc = false ∨ (z.catchType ≠ 0 ∧ ∃ nm : String, (Cond.classLink own z.catchType nm).before args s = true ∧ va_Nc E nm s)) (hcell : H[q]? = some ce) (hv : ce.vm = .none) (hcl : s.vm.findClass E = some ce.cls)
    (hx : ∀ t : State, t.heap = H → s.vm.Alike t.vm → XC E s t) (hf : ∀ z ∈ locs, free z.base) (hc : cells ≤ mc) (hs : slots ≤ ms) :
    vx_W p l e R s m args below meth c H locs cells slots (vx_MQ below Qc XC args s mc ms free) (F0 m pc ls rest) q := by
  intro T hT X
  have hpl : e.platform.magicAccessors = ({} : Platform).magicAccessors := by rw [X.admits.platform]
  obtain ⟨vm', hW', X', st⟩ := X.outThrough hlocks q (g := F0 m pc ls rest) rfl rfl rfl (cell := ce) (by rw [hT]; exact hcell) (by rw [hv]; rfl)
    (by obtain ⟨k9, h9, -⟩ := Vm.findClass_spec hcl; exact ⟨k9, h9⟩) (fun z hz => by
      rcases hpass z hz with h | ⟨hz0, nm, hl1, hn1⟩
      · exact Or.inl h
      · obtain ⟨c6, hc6, hcl6⟩ := Cond.classLink_spec hown hl1 e.platform hpl
        obtain ⟨a8, b8, h1, h2, h3⟩ := hn1
        cases Option.some.inj (h1.symm.trans hcl)
        cases Option.some.inj (h2.symm.trans hc6)
        exact Or.inr ⟨hz0, _, hcl6, h3⟩)
  obtain ⟨g₀, hfr⟩ := X'.frames_eq
  have hcell9 : ((T.setVm vm').setFrames (.throwing q :: below)).heap[q]? = some ce := by
    show T.heap[q]? = some ce
    rw [hT]; exact hcell
  have hend : Ended ((T.setVm vm').setFrames (.throwing q :: below)) below (.threw q) := State.frames_setFrames _ (State.cur_lt_of_frames hfr)
  refine ⟨(T.setVm vm').setFrames (.throwing q :: below), ?_, .threw q, X'.here.running, hend, Or.inr ⟨q, rfl, E, ce, locs, hx _ hT (X'.ends _).1.alike, hcell9, hv, hcl, (X'.ends _).1, (X'.ends _).2.mono hc hs, hf⟩⟩
  rw [X.pushThrowing_eq]
  exact st
/-- a thing of a world lies in the heap -/
theorem vx_lt {D : va_G} {cl : List vw_C} {ws : va_W} {H1 : Heap} (h : va_P D cl ws H1) {k : Nat} {q : Nat × va_E} (hk : ws[k]? = some q) : q.1 < H1.size := (h k q hk).lt
end VXS
/-! ===== END ===== -/
/-! ===== BEGIN methods with a table of their own: called by a name, returning or throwing ===== -/
section VXH
/-! vx_backW, vx_callVX, vx_callSX, vx_callVW, vx_runVW, vx_runVX, vx_runSX, vx_ofWH follow the same proofs as their sisters above (Free/Laws.lean, Shelf42/LK1.lean); vx_outP calls Shelf42/NT130.lean (outThrough). -/
section
variable {l : Launch} {R : Room} {p : Program} {e : Env} {below : List Frame} {s : State} {sargs : Array Value} {y : MethodName} {len W9 : Nat}
theorem vx_backW {ws : List Cond} {rm : Room} {Pc : Array Value → State → Prop} {Qc : Array Value → State → Outcome → State → Prop} {XC : String → State → State → Prop} {mc ms : Nat} {free : Addr → Prop} {bytes : ByteArray} {maxL : Nat} {ret : Option FieldType} {hh : List (Nat × Nat × Nat × Nat)}
    (hM : vx_Met l y ws rm Pc Qc XC mc ms free) (hblind : FrameBlind Pc) (hrc : rm.cells = mc) (hrs : rm.slots = ms)
    (hframes : rm.frames + 1 ≤ R.frames) (hlocals : W9 + (maxL + 11) + rm.locals ≤ R.locals)
    (hws : ∀ w ∈ ws, ∀ a' U, s.WarmedH U.vm → w.before a' U = true) (hcode : Cond.codeWith y bytes maxL ret hh ∈ ws) (hinit : ∀ a' U, s.WarmedH U.vm → (Cond.initialized y.cls).before a' U = true) :
    vx_Back l R p e below s sargs y len W9 (PreOf R mc ms Pc) (PostOf Qc mc ms free) (vx_Post XC mc ms free) := by
  intro m meth c A g ig mk a X hg hsize hdg hW hn hp
  have h1 : (headSpec ws rm).pre.before a A.U = true := atoms_intro fun w hw => hws w hw _ _ X.warmed
  have h2 : (Cond.codeWith y bytes maxL ret hh).before a A.U = true := hws _ hcode _ _ X.warmed
  have h3 : (Cond.initialized y.cls).before a A.U = true := hinit _ _ X.warmed
  have h4 : A.cells + (headSpec ws rm).room.cells ≤ R.cells := by rw [show (headSpec ws rm).room.cells = mc from hrc]; exact hp.1
  have h5 : A.slots + (headSpec ws rm).room.slots ≤ R.slots := by rw [show (headSpec ws rm).room.slots = ms from hrs]; exact hp.2.1
  have hPc : Pc a (A.U.calling g mk a) := hblind _ _ _ _ hp.2.2
  obtain ⟨U, Ls, c0, s0⟩ := A
  dsimp only [Pt.U, Pt.locs, Pt.cells, Pt.slots] at h1 h2 h3 h4 h5 X hn hPc ⊢
  obtain ⟨m9, methY, cY, hn9, hmY, hcY, -, hlY, -⟩ := Cond.codeWith_spec h2
  cases Option.some.inj (hn9.symm.trans hn)
  obtain ⟨kY, hkY, -⟩ := className_of_methodNamed hn
  have hinitY : kY.init = .initialized := Cond.initialized_spec (findClass_of_methodNamed hn) hkY h3
  have h : At U g.method c below := by rw [hg]; exact X.here
  have hlocals9 : W9 + (maxL + 11) + (headSpec ws rm).room.locals ≤ R.locals := hlocals
  have happ : (headSpec ws rm).appliesLoose y e.platform (U.calling g mk a) = true :=
    Spec.appliesLoose_calling (g := g) h hdg hn hkY hinitY
      (X.room_calling (g := g) (R' := (headSpec ws rm).room) hsize hmY hcY hframes (by rw [hlY]; omega) h4 h5) h1
  obtain ⟨mid, hmid⟩ := h.above
  have hfr : (U.setTop g).frames = (.java g :: mid) ++ below := by rw [State.frames_setTop' g h.top, hmid]; rfl
  obtain ⟨o, s₂, hsteps, -, hend, hq⟩ := Steps.callFree hM p X.admits X.cas X.clock (acts := []) hfr happ hPc trivial
  have hq' : vx_Q Qc XC mc ms free a (U.calling g mk a) o s₂ := hq
  rw [State.frames_setTop' g h.top] at hend
  obtain ⟨g₀, hg0⟩ := Option.isSome_iff_exists.mp h.top
  obtain ⟨r, hr⟩ := State.topJava?_eq_some.mp hg0
  have hr' : (({ U with heap := s₂.heap, slotsUsed := s₂.slotsUsed } : State).setVm s₂.vm).frames = .java g₀ :: r := hr
  rcases hq' with ⟨hqc, L, hfe, hL⟩ | ⟨q, rfl, E, ce, L, hx, hce, hcv, hcl, hW₂, hsm, hL⟩
  · obtain ⟨⟨v, rfl⟩, hW₂, e2, q2, q3, q4, q5, q6⟩ := id hfe
    have e3 : s₂ = ({ (U.calling g mk a).setFrames s₂.frames with heap := s₂.heap, slotsUsed := s₂.slotsUsed } : State).setVm s₂.vm := by
      have : s₂ = ({ s₂ with vm := (U.calling g mk a).vm } : State).setVm s₂.vm := rfl
      rw [e2] at this
      exact this
    obtain ⟨c₂, i₂, len₂, hc₂, hd₂, hf₂⟩ := hend
    have hW' : U.WarmedH s₂.vm := hW₂
    have hcc : c₂ = c := by
      have h1 : s₂.code? g.method = U.code? g.method := by
        rw [State.code?_eq, State.code?_eq, hW'.alike.method?]
      exact Option.some.inj (hc₂.symm.trans (h1.trans h.code))
    subst hcc
    have hlen : len₂ = len := by rw [hdg] at hd₂; cases hd₂; rfl
    subst hlen
    have hs₂ : s₂ = (({ U with heap := s₂.heap, slotsUsed := s₂.slotsUsed } : State).setVm s₂.vm).setTop { g with pc := g.pc + len₂, stack := v.toList ++ g.stack } := by
      refine e3.trans ?_
      rw [hf₂, State.calling_eq h.top, State.setFrames_setFrames, State.setTop_of_frames _ hr', hr]
      rfl
    have hsame : U.sameButNew ({ U with heap := s₂.heap, slotsUsed := s₂.slotsUsed } : State) L mc ms := by
      refine ⟨?_, q2, q3, q4, q5, q6⟩
      obtain ⟨t, ht, -⟩ := State.frames_cons hr
      show ({ U with heap := s₂.heap, slotsUsed := s₂.slotsUsed } : State) = { U.setFrames U.frames with heap := s₂.heap, slotsUsed := s₂.slotsUsed }
      rw [State.setFrames_self ht]
    subst hg
    refine Or.inl ⟨v, ⟨(({ U with heap := s₂.heap, slotsUsed := s₂.slotsUsed } : State).setVm s₂.vm), Ls ++ L, c0 + mc, s0 + ms⟩,
      ⟨X.admits, X.cas, X.clock, X.frames, X.room, X.hears, X.method, X.code, (X.here.setHeapUsed s₂.heap s₂.slotsUsed).setVm hW'.alike, X.tail, State.WarmedH.trans X.warmed hW', X.limits, X.bytes, X.same.trans (hsame.setVm s.vm)⟩,
      ⟨g, mk, s₂, L, rfl, rfl, hqc, rfl, hL, rfl, rfl⟩, ?_⟩
    show Steps p.tables e below _ ((({ U with heap := s₂.heap, slotsUsed := s₂.slotsUsed } : State).setVm s₂.vm).setTop { g with pc := g.pc + len₂, stack := v.toList ++ g.stack })
    rw [← hs₂]
    exact hsteps
  · obtain ⟨e2, q2, q3, q4, q5, q6⟩ := id hsm
    have e3 : s₂ = ({ (U.calling g mk a).setFrames s₂.frames with heap := s₂.heap, slotsUsed := s₂.slotsUsed } : State).setVm s₂.vm := by
      have : s₂ = ({ s₂ with vm := (U.calling g mk a).vm } : State).setVm s₂.vm := rfl
      rw [e2] at this
      exact this
    have hf₂ : s₂.frames = .throwing q :: .java g :: U.frames.tail := hend
    have hW' : U.WarmedH s₂.vm := hW₂
    have hs₂ : s₂ = ((({ U with heap := s₂.heap, slotsUsed := s₂.slotsUsed } : State).setVm s₂.vm).setTop g).pushFrame (.throwing q) := by
      refine e3.trans ?_
      rw [hf₂, State.calling_eq h.top, State.setFrames_setFrames, State.pushFrame, State.frames_setTop _ hr', State.setTop_of_frames _ hr', State.setFrames_setFrames, hr]
      rfl
    have hsame : U.sameButNew ({ U with heap := s₂.heap, slotsUsed := s₂.slotsUsed } : State) L mc ms := by
      refine ⟨?_, q2, q3, q4, q5, q6⟩
      obtain ⟨t, ht, -⟩ := State.frames_cons hr
      show ({ U with heap := s₂.heap, slotsUsed := s₂.slotsUsed } : State) = { U.setFrames U.frames with heap := s₂.heap, slotsUsed := s₂.slotsUsed }
      rw [State.setFrames_self ht]
    subst hg
    refine Or.inr ⟨q, ⟨(({ U with heap := s₂.heap, slotsUsed := s₂.slotsUsed } : State).setVm s₂.vm), Ls ++ L, c0 + mc, s0 + ms⟩,
      ⟨X.admits, X.cas, X.clock, X.frames, X.room, X.hears, X.method, X.code, (X.here.setHeapUsed s₂.heap s₂.slotsUsed).setVm hW'.alike, X.tail, State.WarmedH.trans X.warmed hW', X.limits, X.bytes, X.same.trans (hsame.setVm s.vm)⟩,
      ⟨g, mk, s₂, L, E, ce, rfl, rfl, hx, hce, hcv, hcl, rfl, hL, rfl, rfl⟩, ?_⟩
    show Steps p.tables e below _ (((({ U with heap := s₂.heap, slotsUsed := s₂.slotsUsed } : State).setVm s₂.vm).setTop g).pushFrame (.throwing q))
    rw [← hs₂]
    exact hsteps
end
variable {p : Program} {l : Launch} {e : Env} {R : Room} {s : State} {m : MethodId} {args : Array Value} {below : List Frame} {meth : Method} {c : Code} {T : State} {H : Heap} {locs : List Loc} {cells slots : Nat}
theorem vx_callVX (X : Stand p l e R s m args below meth c T locs cells slots) (hexec : p.tables.exec = Jvm.exec) {own C : String} {index : Nat} {y : MethodName} {bytes : ByteArray} {maxL : Nat} {ret : Option FieldType} {hh : List (Nat × Nat × Nat × Nat)}
    (hown : s.vm.findClass own = some m.cls) (hlink : (Cond.methodLink own index y).before args s = true) (hinst : (Cond.instanceMethod y).before args s = true) (hsel : (Cond.selects C y y).before args s = true)
    (hcode : (Cond.codeWith y bytes maxL ret hh).before args s = true) (hy : y.cls ≠ "java/lang/invoke/MethodHandle" ∧ y.cls ≠ "java/lang/invoke/VarHandle")
    {W9 : Nat} {Pre : Pt → Array Value → Prop} {Post : Pt → Array Value → Option Value → Pt → Prop} {PostX : Pt → Array Value → Addr → Pt → Prop} (hK : vx_Back l R p e below s args y 3 W9 Pre Post PostX)
    {b : Addr} {cellB : Cell} (hcell : T.heap[b]? = some cellB) (hobj : cellB.vm.isStatics = false) (hcls : s.vm.findClass C = some cellB.cls)
    {g : JFrame} (hg : g.method = m) (hsize : g.locals.size = c.maxLocals) {argsL rest : List Value} (hlen : ∀ sig, parseMethodDescriptor y.desc = some sig → argsL.length = sig.parameters.length)
    (hstack : g.stack = argsL.reverse ++ .ref b :: rest) (hW : 2 * g.monitorRoom + (rest.map fun v => v.category).sum ≤ W9) (hdg : decode c.code g.pc = .ok (.invokevirtual index, 3))
    (hpre : ∀ vm₁, s.WarmedH vm₁ → Pre ⟨T.setVm vm₁, locs, cells, slots⟩ (Value.ref b :: argsL).toArray) :
    (∃ (v : Option Value) (vm₁ : Vm) (B : Pt), s.WarmedH vm₁ ∧ Stand p l e R s m args below meth c B.U B.locs B.cells B.slots ∧ Post ⟨T.setVm vm₁, locs, cells, slots⟩ (Value.ref b :: argsL).toArray v B ∧
      ∀ target, Steps p.tables e below (B.U.setTop { g with pc := g.pc + 3, stack := v.toList ++ rest }) target → Steps p.tables e below (T.setTop g) target) ∨
    (∃ (q : Addr) (vm₁ : Vm) (B : Pt), s.WarmedH vm₁ ∧ Stand p l e R s m args below meth c B.U B.locs B.cells B.slots ∧ PostX ⟨T.setVm vm₁, locs, cells, slots⟩ (Value.ref b :: argsL).toArray q B ∧
      Steps p.tables e below (T.setTop g) ((B.U.setTop { g with stack := rest }).pushFrame (.throwing q))) := by
  obtain ⟨mk, methM, hnamed, hmethM, hstM, habM⟩ := Cond.instanceMethod_spec hinst
  obtain ⟨m8, methM', cM, hn8, hmethM', -, -, -, -, -, -, hsigM⟩ := Cond.codeWith_spec hcode
  cases Option.some.inj (hn8.symm.trans hnamed)
  cases hmethM.symm.trans hmethM'
  obtain ⟨c2, r2, m2, q1, q2, q3, q4, kP, hkP, hkPi⟩ := Cond.selects_spec hsel
  cases hcls.symm.trans q1
  cases (State.methodFound?_of_named hnamed hy).symm.trans q2
  cases hnamed.symm.trans q3
  have hselP : selectMethod e.platform s.vm cellB.cls mk = .method mk := by rw [Launch.admits_selectMethod X.admits]; exact q4
  obtain ⟨vm₁, X₁, hstep₁⟩ := X.invokevirtual hexec hown hlink hnamed hmethM hstM hkP hkPi hy (a := b) (cell := cellB) hcell
    (fun z h => by rw [h] at hobj; cases hobj) hselP hmethM habM hkP hkPi (g := g) hg (argsL := argsL) (rest := rest) (hlen _ hsigM) hstack hdg
  rcases hK m meth c ⟨T.setVm vm₁, locs, cells, slots⟩ { g with stack := rest } (.invokevirtual index) mk (Value.ref b :: argsL).toArray X₁ hg hsize hdg hW (X₁.named hnamed) (hpre vm₁ X₁.warmed) with ⟨v, B, X', hpost, hsteps⟩ | ⟨q, B, X', hpost, hsteps⟩
  · exact Or.inl ⟨v, vm₁, B, X₁.warmed, X', hpost, fun target h => hstep₁ _ fun acts => by rw [doInvoke_state]; exact hsteps.trans h⟩
  · exact Or.inr ⟨q, vm₁, B, X₁.warmed, X', hpost, hstep₁ _ fun acts => by rw [doInvoke_state]; exact hsteps⟩
theorem vx_callSX (X : Stand p l e R s m args below meth c T locs cells slots) (hexec : p.tables.exec = Jvm.exec) {own : String} {index : Nat} {y : MethodName} {bytes : ByteArray} {maxL : Nat} {ret : Option FieldType} {hh : List (Nat × Nat × Nat × Nat)}
    (hown : s.vm.findClass own = some m.cls) (hlink : (Cond.methodLink own index y).before args s = true) (hstat : (Cond.static y).before args s = true) (hinit : (Cond.initialized y.cls).before args s = true)
    (hcode : (Cond.codeWith y bytes maxL ret hh).before args s = true) (hy : y.cls ≠ "java/lang/invoke/MethodHandle" ∧ y.cls ≠ "java/lang/invoke/VarHandle")
    {W9 : Nat} {Pre : Pt → Array Value → Prop} {Post : Pt → Array Value → Option Value → Pt → Prop} {PostX : Pt → Array Value → Addr → Pt → Prop} (hK : vx_Back l R p e below s args y 3 W9 Pre Post PostX)
    {g : JFrame} (hg : g.method = m) (hsize : g.locals.size = c.maxLocals) {argsL rest : List Value} (hlen : ∀ sig, parseMethodDescriptor y.desc = some sig → argsL.length = sig.parameters.length)
    (hstack : g.stack = argsL.reverse ++ rest) (hW : 2 * g.monitorRoom + (rest.map fun v => v.category).sum ≤ W9) (hdg : decode c.code g.pc = .ok (.invokestatic index, 3))
    (hpre : ∀ vm₁, s.WarmedH vm₁ → Pre ⟨T.setVm vm₁, locs, cells, slots⟩ argsL.toArray) :
    (∃ (v : Option Value) (vm₁ : Vm) (B : Pt), s.WarmedH vm₁ ∧ Stand p l e R s m args below meth c B.U B.locs B.cells B.slots ∧ Post ⟨T.setVm vm₁, locs, cells, slots⟩ argsL.toArray v B ∧
      ∀ target, Steps p.tables e below (B.U.setTop { g with pc := g.pc + 3, stack := v.toList ++ rest }) target → Steps p.tables e below (T.setTop g) target) ∨
    (∃ (q : Addr) (vm₁ : Vm) (B : Pt), s.WarmedH vm₁ ∧ Stand p l e R s m args below meth c B.U B.locs B.cells B.slots ∧ PostX ⟨T.setVm vm₁, locs, cells, slots⟩ argsL.toArray q B ∧
      Steps p.tables e below (T.setTop g) ((B.U.setTop { g with stack := rest }).pushFrame (.throwing q))) := by
  obtain ⟨mk, methM, cM, hnamed, hmethM, -, -, -, -, -, -, hsigM⟩ := Cond.codeWith_spec hcode
  have hstatic : methM.isStatic = true := Cond.static_spec hnamed hmethM hstat
  obtain ⟨kP, hkP, -⟩ := className_of_methodNamed hnamed
  have hinitP : kP.init = .initialized := Cond.initialized_spec (findClass_of_methodNamed hnamed) hkP hinit
  obtain ⟨vm₁, X₁, hstep₁⟩ := X.invokestatic hexec hown hlink hnamed hmethM hstatic hkP hinitP hy (g := g) hg (argsL := argsL) (rest := rest) (hlen _ hsigM) hstack hdg
  rcases hK m meth c ⟨T.setVm vm₁, locs, cells, slots⟩ { g with stack := rest } (.invokestatic index) mk argsL.toArray X₁ hg hsize hdg hW (X₁.named hnamed) (hpre vm₁ X₁.warmed) with ⟨v, B, X', hpost, hsteps⟩ | ⟨q, B, X', hpost, hsteps⟩
  · exact Or.inl ⟨v, vm₁, B, X₁.warmed, X', hpost, fun target h => hstep₁ _ fun acts => by rw [doInvoke_state]; exact hsteps.trans h⟩
  · exact Or.inr ⟨q, vm₁, B, X₁.warmed, X', hpost, hstep₁ _ fun acts => by rw [doInvoke_state]; exact hsteps⟩
theorem vx_callVW (X : Stand p l e R s m args below meth c T locs cells slots) (hexec : p.tables.exec = Jvm.exec) {own C : String} {index : Nat} {y : MethodName} {bytes : ByteArray} {maxL : Nat} {ret : Option FieldType} {hh : List (Nat × Nat × Nat × Nat)}
    (hown : s.vm.findClass own = some m.cls) (hlink : (Cond.methodLink own index y).before args s = true) (hinst : (Cond.instanceMethod y).before args s = true) (hsel : (Cond.selects C y y).before args s = true)
    (hcode : (Cond.codeWith y bytes maxL ret hh).before args s = true) (hy : y.cls ≠ "java/lang/invoke/MethodHandle" ∧ y.cls ≠ "java/lang/invoke/VarHandle")
    {W9 : Nat} {Pre : Pt → Array Value → Prop} {Post : Pt → Array Value → Option Value → Pt → Prop} (hK : Back l R p e below s args y 3 W9 Pre Post)
    {b : Addr} {cellB : Cell} (hcell : T.heap[b]? = some cellB) (hobj : cellB.vm.isStatics = false) (hcls : s.vm.findClass C = some cellB.cls)
    {g : JFrame} (hg : g.method = m) (hsize : g.locals.size = c.maxLocals) {argsL rest : List Value} (hlen : ∀ sig, parseMethodDescriptor y.desc = some sig → argsL.length = sig.parameters.length)
    (hstack : g.stack = argsL.reverse ++ .ref b :: rest) (hW : 2 * g.monitorRoom + (rest.map fun v => v.category).sum ≤ W9) (hdg : decode c.code g.pc = .ok (.invokevirtual index, 3))
    (hpre : ∀ vm₁, s.WarmedH vm₁ → Pre ⟨T.setVm vm₁, locs, cells, slots⟩ (Value.ref b :: argsL).toArray) :
    ∃ (v : Option Value) (vm₁ : Vm) (B : Pt), s.WarmedH vm₁ ∧ Stand p l e R s m args below meth c B.U B.locs B.cells B.slots ∧ Post ⟨T.setVm vm₁, locs, cells, slots⟩ (Value.ref b :: argsL).toArray v B ∧
      ∀ target, Steps p.tables e below (B.U.setTop { g with pc := g.pc + 3, stack := v.toList ++ rest }) target → Steps p.tables e below (T.setTop g) target := by
  obtain ⟨mk, methM, hnamed, hmethM, hstM, habM⟩ := Cond.instanceMethod_spec hinst
  obtain ⟨m8, methM', cM, hn8, hmethM', -, -, -, -, -, -, hsigM⟩ := Cond.codeWith_spec hcode
  cases Option.some.inj (hn8.symm.trans hnamed)
  cases hmethM.symm.trans hmethM'
  obtain ⟨c2, r2, m2, q1, q2, q3, q4, kP, hkP, hkPi⟩ := Cond.selects_spec hsel
  cases hcls.symm.trans q1
  cases (State.methodFound?_of_named hnamed hy).symm.trans q2
  cases hnamed.symm.trans q3
  have hselP : selectMethod e.platform s.vm cellB.cls mk = .method mk := by rw [Launch.admits_selectMethod X.admits]; exact q4
  obtain ⟨vm₁, X₁, hstep₁⟩ := X.invokevirtual hexec hown hlink hnamed hmethM hstM hkP hkPi hy (a := b) (cell := cellB) hcell
    (fun z h => by rw [h] at hobj; cases hobj) hselP hmethM habM hkP hkPi (g := g) hg (argsL := argsL) (rest := rest) (hlen _ hsigM) hstack hdg
  obtain ⟨v, B, X', hpost, hsteps⟩ := hK m meth c ⟨T.setVm vm₁, locs, cells, slots⟩ { g with stack := rest } (.invokevirtual index) mk (Value.ref b :: argsL).toArray X₁ hg hsize hdg hW (X₁.named hnamed) (hpre vm₁ X₁.warmed)
  exact ⟨v, vm₁, B, X₁.warmed, X', hpost, fun target h => hstep₁ _ fun acts => by rw [doInvoke_state]; exact hsteps.trans h⟩
abbrev vx_CVW (R : Room) (s : State) (args : Array Value) (own C : String) (index : Nat) (y : MethodName) (bytes : ByteArray) (maxL : Nat) (ret : Option FieldType) (hh : List (Nat × Nat × Nat × Nat)) (ws : List Cond) (rm : Room) (mc ms n : Nat) : Prop :=
  (rm.cells = mc ∧ rm.slots = ms ∧ rm.frames + 1 ≤ R.frames ∧ 8 + (maxL + 11) + rm.locals ≤ R.locals ∧ (∀ w ∈ ws, ∀ (a' : Array Value) (U : State), s.WarmedH U.vm → w.before a' U = true) ∧ Cond.codeWith y bytes maxL ret hh ∈ ws) ∧
  (Cond.codeWith y bytes maxL ret hh).before args s = true ∧ (Cond.initialized y.cls).before args s = true ∧ (y.cls ≠ "java/lang/invoke/MethodHandle" ∧ y.cls ≠ "java/lang/invoke/VarHandle") ∧
  (∀ sig, parseMethodDescriptor y.desc = some sig → n = sig.parameters.length) ∧ (Cond.methodLink own index y).before args s = true ∧ (Cond.instanceMethod y).before args s = true ∧ (Cond.selects C y y).before args s = true
theorem vx_cwVW {own C : String} {index maxL mc ms : Nat} {y : MethodName} {bytes : ByteArray} {ret : Option FieldType} {hh : List (Nat × Nat × Nat × Nat)} {Ts ws ws' : List Cond} {rm : Room} (n : Nat) (ht : ∀ w ∈ Ts, w.before args s = true) (hT : GoodIn Ts (wsV own index C y ws)) (hw : ws = Cond.codeWith y bytes maxL ret hh :: ws') (hrc : rm.cells = mc) (hrs : rm.slots = ms)
    (hd : y.cls = C ∧ y.cls ≠ "java/lang/invoke/MethodHandle" ∧ y.cls ≠ "java/lang/invoke/VarHandle" ∧ (parseMethodDescriptor y.desc).map (fun d => d.parameters.length) = some n) (hR : rm.frames + 1 ≤ R.frames ∧ 8 + (maxL + 11) + rm.locals ≤ R.locals) :
    vx_CVW R s args own C index y bytes maxL ret hh ws rm mc ms n := by
  obtain ⟨hC, hd⟩ := hd
  subst hC
  have ok : ∀ w ∈ wsV own index y.cls y ws, w.before args s = true := fun w h => ht w (hT w h).1
  have hG : GoodIn Ts ws := fun w h => hT w (by unfold wsV; exact List.mem_append_right _ h)
  have hc : Cond.codeWith y bytes maxL ret hh ∈ ws := by rw [hw]; exact List.mem_cons_self
  refine ⟨⟨hrc, hrs, hR.1, hR.2, pay_in ht hG, hc⟩, ht _ (hG _ hc).1, ok _ (by simp [wsV]), ⟨hd.1, hd.2.1⟩, fun sig h => ?_, ok _ (by simp [wsV]), ok _ (by simp [wsV]), ok _ (by simp [wsV])⟩
  have h2 := hd.2.2
  rw [h] at h2
  exact (Option.some.inj h2).symm
theorem vx_runVW {y : MethodName} {bytes cc : ByteArray} {maxL nL mc ms n index : Nat} {ret : Option FieldType} {hh : List (Nat × Nat × Nat × Nat)} {ws : List Cond} {rm : Room} {Pc : Array Value → State → Prop} {Qc : Array Value → State → Outcome → State → Prop} {free : Addr → Prop} {Ts : List Cond} {own C : String} {b : Addr} {As rest : List Value} {g : JFrame}
    (S : CallFix p m c cc nL s args Ts own) (hM : Met l y ws rm Pc Qc mc ms free) (cw : vx_CVW R s args own C index y bytes maxL ret hh ws rm mc ms n) (hp : PreV s H C b Pc As)
    (hg : g.method = m) (hn : As.length = n) (hsize : g.locals.size = nL) (hstack : g.stack = As.reverse ++ .ref b :: rest) (hW : 2 * g.monitorRoom + (rest.map fun v => v.category).sum ≤ 8) (hdg : decode cc g.pc = .ok (.invokevirtual index, 3)) (hf : cells + mc ≤ R.cells ∧ slots + ms ≤ R.slots) :
    va_Run p l e R s m args below meth c H locs cells slots mc ms g rest (Qc (Value.ref b :: As).toArray) free := by
  obtain ⟨⟨hrc, hrs, hfr, hlo, hws, hcw⟩, hcode, hini, hy, hlen, hl, hin, hse⟩ := cw
  have hK : Back l R p e below s args y 3 8 (PreOf R mc ms Pc) (PostOf Qc mc ms free) := va_backW (hh := hh) (bytes := bytes) (maxL := maxL) (ret := ret) hM hp.1 hrc hrs hfr hlo hws hcw (fun a' U hW => word_at hW (Or.inl (by first | rfl | simp [Cond.onTables, Cond.keeps, Cond.steady])) hini)
  obtain ⟨hx, hb, hml, ho, -⟩ := S
  obtain ⟨-, ⟨cellB, hcB, hoB, hclB⟩, hPc⟩ := hp
  intro T hT X
  obtain ⟨v, vm₁, ⟨U', l2, c2, s2⟩, hW₁, X', ⟨g', mk, t, L, e1, e2, hq, h1, hL, h2, h3⟩, st⟩ := vx_callVW X hx (C := C) (hh := hh) (bytes := bytes) (maxL := maxL) (ret := ret) ho hl hin hse hcode hy hK (by rw [hT]; exact hcB) hoB hclB hg (hsize.trans hml.symm) (argsL := As) (rest := rest) (fun sig h => hn.trans (hlen sig h)) hstack hW (by rw [hb]; exact hdg)
    (fun vm₁ hW₁ => ⟨hf.1, hf.2, hPc (T.setVm vm₁) hT hW₁⟩)
  dsimp only [Pt.U, Pt.locs, Pt.cells, Pt.slots] at X' e1 e2 h1 h2 h3 st
  subst h1; subst h2; subst h3
  exact ⟨v, (T.setVm vm₁).calling g' mk (Value.ref b :: As).toArray, t, U', L, hT, X', hL, e1, e2, hq, st⟩
section
variable {y : MethodName} {bytes cc : ByteArray} {maxL nL mc ms n index : Nat} {ret : Option FieldType} {ws : List Cond} {rm : Room} {Pc : Array Value → State → Prop} {Qc : Array Value → State → Outcome → State → Prop} {XC : String → State → State → Prop} {free : Addr → Prop} {Ts : List Cond} {own C : String} {b : Addr} {As rest : List Value} {g : JFrame}
theorem vx_runVX {hh : List (Nat × Nat × Nat × Nat)} (S : CallFix p m c cc nL s args Ts own) (hM : vx_Met l y ws rm Pc Qc XC mc ms free) (cw : vx_CVW R s args own C index y bytes maxL ret hh ws rm mc ms n) (hp : PreV s H C b Pc As)
    (hg : g.method = m) (hn : As.length = n) (hsize : g.locals.size = nL) (hstack : g.stack = As.reverse ++ .ref b :: rest) (hW : 2 * g.monitorRoom + (rest.map fun v => v.category).sum ≤ 8) (hdg : decode cc g.pc = .ok (.invokevirtual index, 3)) (hf : cells + mc ≤ R.cells ∧ slots + ms ≤ R.slots) :
    vx_Run p l e R s m args below meth c H locs cells slots mc ms g rest (Qc (Value.ref b :: As).toArray) XC free := by
  obtain ⟨⟨hrc, hrs, hfr, hlo, hws, hcw⟩, hcode, hini, hy, hlen, hl, hin, hse⟩ := cw
  have hK : vx_Back l R p e below s args y 3 8 (PreOf R mc ms Pc) (PostOf Qc mc ms free) (vx_Post XC mc ms free) := vx_backW (hh := hh) (bytes := bytes) (maxL := maxL) (ret := ret) hM hp.1 hrc hrs hfr hlo hws hcw (fun a' U hW => word_at hW (Or.inl (by first | rfl | simp [Cond.onTables, Cond.keeps, Cond.steady])) hini)
  obtain ⟨hx, hb, hml, ho, -⟩ := S
  obtain ⟨-, ⟨cellB, hcB, hoB, hclB⟩, hPc⟩ := hp
  intro T hT X
  rcases vx_callVX X hx (C := C) (hh := hh) (bytes := bytes) (maxL := maxL) (ret := ret) ho hl hin hse hcode hy hK (by rw [hT]; exact hcB) hoB hclB hg (hsize.trans hml.symm) (argsL := As) (rest := rest) (fun sig h => hn.trans (hlen sig h)) hstack hW (by rw [hb]; exact hdg)
    (fun vm₁ hW₁ => ⟨hf.1, hf.2, hPc (T.setVm vm₁) hT hW₁⟩) with ⟨v, vm₁, ⟨U', l2, c2, s2⟩, hW₁, X', ⟨g', mk, t, L, e1, e2, hq, h1, hL, h2, h3⟩, st⟩ | ⟨q, vm₁, ⟨U', l2, c2, s2⟩, hW₁, X', ⟨g', mk, t, L, E, ce, e1, e2, hq, hce, hcv, hcl, h1, hL, h2, h3⟩, st⟩
  · dsimp only [Pt.U, Pt.locs, Pt.cells, Pt.slots] at X' e1 e2 h1 h2 h3 st
    subst h1; subst h2; subst h3
    exact Or.inl ⟨v, (T.setVm vm₁).calling g' mk (Value.ref b :: As).toArray, t, U', L, hT, X', hL, e1, e2, hq, st⟩
  · dsimp only [Pt.U, Pt.locs, Pt.cells, Pt.slots] at X' e1 e2 h1 h2 h3 st hcl
    subst h1; subst h2; subst h3
    exact Or.inr ⟨q, (T.setVm vm₁).calling g' mk (Value.ref b :: As).toArray, t, U', L, E, ce, hT, X', hL, e1, e2, hq, hce, hcv, vx_cls hW₁ hcl, st⟩
theorem vx_runSX {hh : List (Nat × Nat × Nat × Nat)} (S : CallFix p m c cc nL s args Ts own) (hM : vx_Met l y ws rm Pc Qc XC mc ms free) (cw : vx_CSW R s args own index y bytes maxL ret hh ws rm mc ms n) (hp : PreS s H Pc As)
    (hg : g.method = m) (hn : As.length = n) (hsize : g.locals.size = nL) (hstack : g.stack = As.reverse ++ rest) (hW : 2 * g.monitorRoom + (rest.map fun v => v.category).sum ≤ 8) (hdg : decode cc g.pc = .ok (.invokestatic index, 3)) (hf : cells + mc ≤ R.cells ∧ slots + ms ≤ R.slots) :
    vx_Run p l e R s m args below meth c H locs cells slots mc ms g rest (Qc As.toArray) XC free := by
  obtain ⟨⟨hrc, hrs, hfr, hlo, hws, hcw⟩, hcode, hini, hy, hlen, hl, hstt⟩ := cw
  have hK : vx_Back l R p e below s args y 3 8 (PreOf R mc ms Pc) (PostOf Qc mc ms free) (vx_Post XC mc ms free) := vx_backW (hh := hh) (bytes := bytes) (maxL := maxL) (ret := ret) hM hp.1 hrc hrs hfr hlo hws hcw (fun a' U hW => word_at hW (Or.inl (by first | rfl | simp [Cond.onTables, Cond.keeps, Cond.steady])) hini)
  obtain ⟨hx, hb, hml, ho, -⟩ := S
  intro T hT X
  rcases vx_callSX X hx (hh := hh) (bytes := bytes) (maxL := maxL) (ret := ret) ho hl hstt hini hcode hy hK hg (hsize.trans hml.symm) (argsL := As) (rest := rest) (fun sig h => hn.trans (hlen sig h)) hstack hW (by rw [hb]; exact hdg)
    (fun vm₁ hW₁ => ⟨hf.1, hf.2, hp.2 (T.setVm vm₁) hT hW₁⟩) with ⟨v, vm₁, ⟨U', l2, c2, s2⟩, hW₁, X', ⟨g', mk, t, L, e1, e2, hq, h1, hL, h2, h3⟩, st⟩ | ⟨q, vm₁, ⟨U', l2, c2, s2⟩, hW₁, X', ⟨g', mk, t, L, E, ce, e1, e2, hq, hce, hcv, hcl, h1, hL, h2, h3⟩, st⟩
  · dsimp only [Pt.U, Pt.locs, Pt.cells, Pt.slots] at X' e1 e2 h1 h2 h3 st
    subst h1; subst h2; subst h3
    exact Or.inl ⟨v, (T.setVm vm₁).calling g' mk As.toArray, t, U', L, hT, X', hL, e1, e2, hq, st⟩
  · dsimp only [Pt.U, Pt.locs, Pt.cells, Pt.slots] at X' e1 e2 h1 h2 h3 st hcl
    subst h1; subst h2; subst h3
    exact Or.inr ⟨q, (T.setVm vm₁).calling g' mk As.toArray, t, U', L, E, ce, hT, X', hL, e1, e2, hq, hce, hcv, vx_cls hW₁ hcl, st⟩
end
end VXH
theorem vx_ofWH {l : Launch} {y : MethodName} {ws ws' : List Cond} {rm : Room} {Pc : Array Value → State → Prop} {Qc : Array Value → State → Outcome → State → Prop} {XC : String → State → State → Prop} {mc ms : Nat} {free : Addr → Prop} {cc : ByteArray} {maxL : Nat} {ret : Option FieldType} {hh : List (Nat × Nat × Nat × Nat)}
    (hy : plainName y.cls = true) (hw : ws = Cond.codeWith y cc maxL ret hh :: ws')
    (body : ∀ p e s m args below meth c s₁, BodyLoose p l y (headSpec ws rm) cc maxL ret e s m args below meth c s₁ → c.maxLocals = maxL → Pc args s →
      W p l e (headSpec ws rm).room s m args below meth c s.heap [] 0 0 (vx_MQ below Qc XC args s mc ms free) (entryFrame m args maxL)) : vx_Met l y ws rm Pc Qc XC mc ms free := by
  refine MetFree.of_bodyS (code := cc) (maxLocals := maxL) (ret := ret) hy ?_ ?_
  · intro args s m h hn
    obtain ⟨m9, meth, c, hn9, h1, h2, h3, h4, -, h5, h6, -⟩ := Cond.codeWith_spec (atoms_spec (ws := ws) h _ (by rw [hw]; exact List.mem_cons_self))
    cases hn.symm.trans hn9
    exact ⟨meth, c, h1, h2, h3, h4, h5, h6⟩
  · intro p e s m args below meth c s₁ B hml hP _
    have hh0 : s₁.heap = s.heap := by rw [B.state]; rfl
    obtain ⟨t, a1, o, b1, b2, b3⟩ := body p e s m args below meth c s₁ B hml hP s₁ hh0 (Stand.of_body B)
    exact ⟨t, o, a1, b1, b2, b3⟩
/-! ===== END ===== -/
end
section
/-! AN EXCEPTION'S CONSTRUCTOR (String) whose link to its super class's stands at any index (own work: follows the library's ctorThrowS, over its chainSX) -/
section MC12a
variable {p : Program} {l : Launch} {e : Env} {R : Room} {s : State} {m₀ : MethodId} {args : Array Value} {below : List Frame} {meth : Method} {c : Code} {W : State} {locs : List Loc} {cells slots : Nat}
set_option maxHeartbeats 1000000 in
theorem mc_ctorThrow (X : Stand p l e R s m₀ args below meth c W locs cells slots) (hexec : p.tables.exec = Jvm.exec) (htr : e.platform.stackTraces = false) {own cls : String} {names : List String} {ic ix : Nat} {rx : ByteArray} (x0 : decode rx 0 = .ok (.aload_n 0, 1)) (x1 : decode rx 1 = .ok (.aload_n 1, 1)) (x2 : decode rx 2 = .ok (.invokespecial ix, 3)) (x5 : decode rx 5 = .ok (.return_, 1))
    (hown : s.vm.findClass own = some m₀.cls) (hcls : Bundle.fit cls = true) (hnames : ∀ n ∈ names, Bundle.fit n = true)
    (h : ∀ a ∈ Bundle.ownAtomsX own ic cls ix rx names, a.before args s = true)
    (hlocs : ∀ x ∈ locs, ∀ cell, s.heap[x.base]? = some cell → cell.vm.isStatics = false)
    {a : Addr} {cX : ClassId} {kX : Class} (hfoundX : s.vm.findClass cls = some cX) (hkX : s.vm.classes[cX]? = some kX) (hcell : W.heap[a]? = some (freshCell cX kX)) (hnew : s.heap.size ≤ a)
    {msg : Value} (hmsg : msg.isRef = true)
    {g : JFrame} (hg : g.method = m₀) (hsize : g.locals.size = c.maxLocals) (hlocked : g.locked = none) (hentered : g.entered = []) {rest : List Value} (hstack : g.stack = msg :: .ref a :: .ref a :: rest)
    (hd6 : decode c.code g.pc = .ok (.invokespecial ic, 3)) (hd9 : decode c.code (g.pc + 3) = .ok (.athrow, 1)) (hout : ∀ x ∈ c.exceptionTable.toList, covers x (g.pc + 3) = false)
    (hRframes : names.length + 3 < R.frames) (hRlocals : 2 * g.monitorRoom + ((Value.ref a :: rest).map fun v => v.category).sum + (13 * (names.length + 1) + 42) ≤ R.locals) (hlocks : meth.locks = false) :
    ∃ U : State, Steps p.tables e below (W.setTop g) U ∧ U.status = .running ∧ Ended U below (.threw a) ∧ s.WarmedH U.vm ∧ s.sameButNew ({ U with vm := s.vm } : State) locs cells slots ∧
      ∃ ce, U.heap[a]? = some ce ∧ ce.vm = .none ∧ s.vm.findClass cls = some ce.cls := by
  have howns : e.platform.frameOwnsMonitors = true := by rw [X.admits.platform]
  have hfin : e.platform.finalization = false := by rw [X.admits.platform]
  have hpl : e.platform.magicAccessors = ({} : Platform).magicAccessors := by rw [X.admits.platform]
  have a' : ∀ x, x ∈ Bundle.ownAtomsX own ic cls ix rx names → x.holds args s none s [] = true := fun x hx => h x hx
  obtain ⟨T, Z0, L, -, Y⟩ := ThrowableC.of_atoms (args := args) howns hfin hpl (fun x hx => h x (by simp [Bundle.ownAtomsX, hx]))
  obtain ⟨Z, M, LZ, LM, hnZ⟩ := Init0T.ofS_atoms (args := args) hpl L Y (fun x hx => h x (by simp [Bundle.ownAtomsX, hx]))
  obtain ⟨P1, Ps, hlen, L1, hL, hP1m, hlink1, hlink⟩ := Bundle.chainSX (args := args) hpl hnZ x0 x1 x2 x5 names cls hcls hnames (fun x hx => h x (by simp [Bundle.ownAtomsX, hx]))
  have hfound : s.vm.findClass cls = some P1.m.cls := findClass_of_methodNamed hP1m
  cases Option.some.inj (hfoundX.symm.trans hfound)
  obtain ⟨c1, kX', hc1, hk, hord, -, -, hn6⟩ := Cond.instantiable_spec (a' (.instantiable cls 6) (by simp [Bundle.ownAtomsX]))
  cases Option.some.inj (hc1.symm.trans hfound)
  cases Option.some.inj (hkX.symm.trans hk)
  have hsel0 : selectMethod e.platform s.vm P1.m.cls T.fill0 = .method T.fill0 := by
    obtain ⟨c2, r2, m2, q1, q2, q3, q4, -⟩ := Cond.selects_spec (a' (.selects cls Bundle.tFill0 Bundle.tFill0) (by simp [Bundle.ownAtomsX]))
    cases Option.some.inj (q1.symm.trans hfound)
    cases Option.some.inj (q2.symm.trans (State.methodFound?_of_named Y.fill0 (by decide)))
    cases Option.some.inj (q3.symm.trans Y.fill0)
    rw [Launch.admits_selectMethod X.admits]; exact q4
  have hselF : selectMethod e.platform s.vm P1.m.cls T.fill = .method T.fill := by
    obtain ⟨c2, r2, m2, q1, q2, q3, q4, -⟩ := Cond.selects_spec (a' (.selects cls Bundle.tFill Bundle.tFill) (by simp [Bundle.ownAtomsX]))
    cases Option.some.inj (q1.symm.trans hfound)
    cases Option.some.inj (q2.symm.trans (State.methodFound?_of_named Y.fill (by decide)))
    cases Option.some.inj (q3.symm.trans Y.fill)
    rw [Launch.admits_selectMethod X.admits]; exact q4
  obtain ⟨cellS0, hcS0, hiss⟩ := Y.statics
  obtain ⟨u0, hu0⟩ := Cond.staticRefV Y.unassigned L.unassignedStatic L.statics hcS0 hiss (a' (.isRef (.static Bundle.tN "UNASSIGNED_STACK" Bundle.steD)) (by simp [Bundle.ownAtomsX]))
  obtain ⟨sen, hsen⟩ := Cond.staticRefV Y.sentinel L.sentinelStatic L.statics hcS0 hiss (a' (.isRef (.static Bundle.tN "SUPPRESSED_SENTINEL" Bundle.listD)) (by simp [Bundle.ownAtomsX]))
  obtain ⟨ci198, i198, fB, hk198, hg198, ha198, hsB, -, hnB, htB, hffB⟩ := Cond.ownField (t := .object "java/lang/Object") Y.found L.cls (by decide +kernel) (a' (.fieldLink Bundle.tN 198 Bundle.tN "backtrace" "Ljava/lang/Object;") (by simp [Bundle.ownAtomsX])) (a' (.lays Bundle.tN Bundle.tN "backtrace" "Ljava/lang/Object;") (by simp [Bundle.ownAtomsX])) e.platform hpl
  obtain ⟨cellS, hcS', heS, -, hkeep⟩ := X.same.2.2.2.2.2 T.aS cellS0 hcS0
  have hcellS : W.heap[T.aS]? = some cellS := hcS'
  have hout' : ∀ i, (⟨T.aS, i⟩ : Loc) ∉ locs := fun i hmem => by
    have := hlocs _ hmem cellS0 hcS0
    rw [hiss] at this; cases this
  have hknownS : cellS.vm ≠ .unknown := by
    rw [heS]; intro hu
    rw [show cellS0.vm = .unknown from hu] at hiss
    cases hiss
  have hneS : T.aS ≠ a := Nat.ne_of_lt (Nat.lt_of_lt_of_le (Array.getElem?_eq_some_iff.mp hcS0).1 hnew)
  obtain ⟨iM, hffM⟩ := Y.msg
  obtain ⟨tyC, dC, hdC, hdnC⟩ := Cond.laysAt hfound hk Y.cause (a' (.lays cls Bundle.tN "cause" "Ljava/lang/Throwable;") (by simp [Bundle.ownAtomsX]))
  obtain ⟨tyS, dS, hdS, hdnS⟩ := Cond.laysAt hfound hk Y.stack (a' (.lays cls Bundle.tN "stackTrace" Bundle.steD) (by simp [Bundle.ownAtomsX]))
  obtain ⟨tyP, dP, hdP, hdnP⟩ := Cond.laysAt hfound hk Y.supp (a' (.lays cls Bundle.tN "suppressedExceptions" Bundle.listD) (by simp [Bundle.ownAtomsX]))
  obtain ⟨tyM, dM, hdM, hdnM⟩ := Cond.laysAt hfound hk hffM (a' (.lays cls Bundle.tN "detailMessage" "Ljava/lang/String;") (by simp [Bundle.ownAtomsX]))
  obtain ⟨tyB, dB, hdB, hdnB⟩ := Cond.laysAt hfound hk hffB (a' (.lays cls Bundle.tN "backtrace" "Ljava/lang/Object;") (by simp [Bundle.ownAtomsX]))
  have bC := Cond.laysApart hdB hdC hdnB hdnC (by rw [hnB, Y.causeName]; decide)
  have bS := Cond.laysApart hdB hdS hdnB hdnS (by rw [hnB, Y.stackName]; decide)
  have bP := Cond.laysApart hdB hdP hdnB hdnP (by rw [hnB, Y.suppName]; decide)
  have hskip : SkipFacts T e.platform s (fun u => u) u0 ((preparedCellV T.toThrowableT (freshCell P1.m.cls kX) a u0 sen).withEntry W.cur) :=
    ⟨{ ci198 := ci198, i198 := i198, fBack := fB }, ⟨hk198, hg198, ha198, hsB⟩, by
      have := fresh_default (c := P1.m.cls) tyB
      rw [htB] at this
      simpa [preparedCellV, Cell.setSlot, Cell.withEntry, Array.getElem?_setIfInBounds, bC, bS, bP, bC.symm, bS.symm, bP.symm, defaultValue] using this, fun _ _ => rfl⟩
  obtain ⟨tm, methC, cdC, kC, vm₁, hnC, -, -, -, -, -, -, -, hW₁, st1⟩ := Steps.initColdS (tb := p.tables) (e := e) (below := below) (s := s) (U := W) X.here hexec X.warmed hpl hown (t := Bundle.initS cls) rfl rfl (Bundle.fit_spec hcls).2
    (a' (.methodLink own ic (Bundle.initS cls)) (by simp [Bundle.ownAtomsX])) (h (.instanceMethod (Bundle.initS cls)) (by cases names <;> simp [Bundle.ownAtomsX, Bundle.chainSAtomsX, Bundle.passSAtoms])) (bytes := rx) (maxL := 2) (h (.code (Bundle.initS cls) rx 2 none) (by cases names <;> simp [Bundle.ownAtomsX, Bundle.chainSAtomsX, Bundle.passSAtoms]))
    (f := g) hg (a := a) (msg := msg) (rest := .ref a :: rest) hstack hd6
  cases Option.some.inj (hnC.symm.trans hP1m)
  have X₁ := X.noted hW₁
  obtain ⟨vm₂, X₂, st2⟩ := X₁.ctorMessageOffV hexec (g := { g with stack := .ref a :: rest }) hg hsize T L Z LZ M LM (P1 :: Ps)
    (fun P hP => by rcases List.mem_cons.mp hP with rfl | hP; exact L1; exact hL P hP) ⟨hlink1, hlink⟩ (u0 := u0) (sen := sen) (self := a) hmsg (cell := freshCell P1.m.cls kX) (cellS := cellS)
    hcell (fun _ => by simp) (by simp) rfl rfl hsel0 hselF hcellS hneS hknownS (by rw [hkeep _ (hout' _)]; exact hu0) (by rw [hkeep _ (hout' _)]; exact hsen)
    (Takes.of_laid hk hord tyC (by rw [Y.causeType]; rfl)) (Takes.of_laid hk hord tyS (by rw [Y.stackType]; exact fits_refV_array _ u0)) (Takes.of_laid hk hord tyP (by rw [Y.suppType]; exact fits_refV_object _ sen))
    (Takes.of_laid hk hord tyM (by rw [Y.msgType]; exact fits_refV_object _ ⟨msg, hmsg⟩)) Y.objLocals hskip htr [] hd6
    (by simp only [List.length_cons, hlen]; omega) (by simp only [List.length_cons, hlen]; exact hRlocals)
  obtain ⟨hwalk, hrun, hended, hWU, hsame⟩ := X₂.athrowLeaves hexec (g := { g with stack := .ref a :: rest, pc := g.pc + 3 }) hg hlocked hentered hout (a := a) (rest := rest) rfl hd9
  have hlt : a < ((W.setVm vm₁).setVm vm₂).heap.size := (Array.getElem?_eq_some_iff.mp hcell).1
  have hU := heapAt_setCell_self (s := (W.setVm vm₁).setVm vm₂) (plainBareV T.toThrowableT (freshCell P1.m.cls kX) a u0 sen msg) hlt
  refine ⟨_, st1 _ (fun acts => ?_), hrun, hended, hWU, hsame.weaken (fun y hy hlt' => ?_) (Nat.le_refl _) (Nat.le_refl _), _, hU, rfl, hfound⟩
  · rw [doInvoke_state]
    exact st2 _ hwalk
  · rcases List.mem_append.mp hy with h1 | h1
    · exact h1
    · exfalso
      have hb : y.base = a := by
        simp only [List.mem_cons, List.not_mem_nil, or_false] at h1
        rcases h1 with rfl | rfl | rfl | rfl | rfl <;> rfl
      rw [hb] at hlt'
      exact Nat.not_lt.mpr hnew hlt'
end MC12a
end
section
/-! THROWING, with the heap's size told (own work, follows vx_throwSW of the rows pasted above) -/
section MC12
variable {p : Program} {l : Launch} {e : Env} {R : Room} {s : State} {m : MethodId} {args : Array Value} {below : List Frame} {meth : Method} {c : Code} {H : Heap} {locs : List Loc} {cells slots : Nat} {Q : State → Prop}
variable {mc ms : Nat} {free : Addr → Prop} {A0 A1 : Nat → Prop} {H0 : Heap} {a : Array Value} {ls : Array Slot} {st0 rest : List Value}
variable {Qc : Array Value → State → Outcome → State → Prop} {XC : String → State → State → Prop}
def mc_atX (own : String) (ic : Nat) (X : String) (ix : Nat) (rx : ByteArray) (names : List String) : List Cond := (Bundle.ownAtomsX own ic X ix rx names).filter vx_no
theorem mc_throwSW {cc : ByteArray} {pc : Nat} (hexec : p.tables.exec = Jvm.exec) (hb : c.code = cc) (hl : l.stackTraces = false) {own cls text : String} {names : List String} {ik is ic ix mc ms sa : Nat} {rx : ByteArray} {A : Nat → Prop}
    (hown : s.vm.findClass own = some m.cls) (hcls : Bundle.fit cls = true) (hnames : ∀ n ∈ names, Bundle.fit n = true)
    (hk : (Cond.classLink own ik cls).before args s = true) (hini : (Cond.initialized cls).before args s = true) (hstr : vk_R own is text sa s) (hat : ∀ w ∈ mc_atX own ic cls ix rx names, w.before args s = true)
    (hgood : ∀ w ∈ Cond.classLink own ik cls :: Cond.initialized cls :: mc_atX own ic cls ix rx names, vx_ot w = true)
    (hU : vx_Zq Bundle.tN "UNASSIGNED_STACK" Bundle.steD A s s.heap) (hN : vx_Zq Bundle.tN "SUPPRESSED_SENTINEL" Bundle.listD A s s.heap) (hS : va_S A s.heap H locs) (hsize : ls.size = c.maxLocals)
    (x0 : decode rx 0 = .ok (.aload_n 0, 1)) (x1 : decode rx 1 = .ok (.aload_n 1, 1)) (x2 : decode rx 2 = .ok (.invokespecial ix, 3)) (x5 : decode rx 5 = .ok (.return_, 1))
    (d0 : decode cc pc = .ok (.new ik, 3)) (d3 : decode cc (pc + 3) = .ok (.dup, 1)) (d4 : decode cc (pc + 4) = .ok (.ldc_w is, 3)) (d7 : decode cc (pc + 7) = .ok (.invokespecial ic, 3)) (d10 : decode cc (pc + 10) = .ok (.athrow, 1))
    (hout : ∀ x ∈ c.exceptionTable.toList, covers x (pc + 10) = false)
    (hRframes : names.length + 3 < R.frames) (hRlocals : (rest.map fun v => v.category).sum + (13 * (names.length + 1) + 43) ≤ R.locals) (hRcells : cells + 1 ≤ R.cells) (hRslots : slots + 6 ≤ R.slots) (hlocks : meth.locks = false)
    (hx : ∀ t : State, s.vm.Alike t.vm → t.heap.size = H.size + 1 → (∀ q : Nat, q < H.size → t.heap[q]? = H[q]?) → XC cls s t)
    (hf : ∀ z ∈ locs, free z.base) (hc : cells + 1 ≤ mc) (hs : slots + 6 ≤ ms) :
    W p l e R s m args below meth c H locs cells slots (vx_MQ below Qc XC args s mc ms free) (F0 m pc ls rest) := by
  intro T hT X
  have htr : e.platform.stackTraces = false := (show e.platform.stackTraces = l.stackTraces by rw [X.admits.platform]).trans hl
  have Y := vx_rebase X (R' := { frames := R.frames, locals := R.locals, cells := 1, slots := 6 }) (Nat.le_refl _) (Nat.le_refl _) hRcells hRslots
  obtain ⟨s', hA⟩ : ∃ z, z = (T.setVm s.vm).setFrames (.invoking m args :: below) := ⟨_, rfl⟩
  rw [← hA] at Y
  have hvm : s'.vm = s.vm := by rw [hA]; rfl
  have hhp : s'.heap = H := by rw [hA]; exact hT
  have hW0 : s.WarmedH s'.vm := by rw [hvm]; exact State.WarmedH.refl s
  have hat' : ∀ w ∈ mc_atX own ic cls ix rx names, w.before args s' = true := fun w hw => vx_ot_at hW0 hvm.symm (hgood w (List.mem_cons_of_mem _ (List.mem_cons_of_mem _ hw))) (hat w hw)
  have hk' : (Cond.classLink own ik cls).before args s' = true := vx_ot_at hW0 hvm.symm (hgood _ List.mem_cons_self) hk
  have hini' : (Cond.initialized cls).before args s' = true := vx_ot_at hW0 hvm.symm (hgood _ (List.mem_cons_of_mem _ List.mem_cons_self)) hini
  have hU' : vx_Zq Bundle.tN "UNASSIGNED_STACK" Bundle.steD A s' s'.heap := by rw [hhp]; exact vx_Zq.moved hW0.alike (hU.kept hS.2.1)
  have hN' : vx_Zq Bundle.tN "SUPPRESSED_SENTINEL" Bundle.listD A s' s'.heap := by rw [hhp]; exact vx_Zq.moved hW0.alike (hN.kept hS.2.1)
  have h : ∀ w ∈ Bundle.ownAtomsX own ic cls ix rx names, w.before args s' = true := vx_own hat' (vx_isRefq hU'.1) (vx_isRefq hN'.1) hU'.2.word hN'.2.word
  have hown' : s'.vm.findClass own = some m.cls := by rw [hvm]; exact hown
  have hins : (Cond.instantiable cls 6).before args s' = true := h _ (by simp [Bundle.ownAtomsX])
  obtain ⟨vm₁, cX, kX, hfX, hkX, -, -, X₁, st1⟩ := Y.newCold hexec (own := own) (C := cls) (index := ik) (n := 6) hown' hk' hins hini'
    (g := F0 m pc ls rest) rfl (by rw [hb]; exact d0) (Nat.le_refl _) (Nat.le_refl _)
  generalize hT1 : (T.setVm vm₁).pushCell { cls := cX, slots := kX.instanceTypes.map defaultValue, vm := .none } = T1 at X₁ st1
  have hcat : (Value.ref T.heap.size).category = 1 := rfl
  have hcellA : T1.heap[T.heap.size]? = some (freshCell cX kX) := by rw [← hT1]; exact State.heap_pushCell_size _ _
  have d3' : decode c.code (pc + 3) = .ok (.dup, 1) := by rw [hb]; exact d3
  have d4' : decode c.code (pc + 4) = .ok (.ldc_w is, 3) := by rw [hb]; exact d4
  have hstr' : vk_R own is text sa s' := vk_R.warm hW0 hstr
  obtain ⟨U, hsteps, hrun, hend, hW, hsame, ce, hce, hO1, hO2⟩ := mc_ctorThrow X₁ hexec htr (own := own) (cls := cls) (names := names) (ic := ic) x0 x1 x2 x5 hown' hcls hnames h (fun x hx => nomatch hx) hfX hkX hcellA (by rw [hhp, hT]; exact Nat.le_refl _) (msg := .ref sa) rfl
    (g := { method := m, pc := pc + 7, locals := ls, stack := .ref sa :: .ref T.heap.size :: .ref T.heap.size :: rest, locked := none }) rfl hsize rfl rfl (rest := rest) rfl
    (by rw [hb]; exact d7) (by rw [hb]; exact d10) hout hRframes (by simp only [List.map_cons, List.sum_cons, hcat]; omega) hlocks
  obtain ⟨f1, f2⟩ := vx_frame hsame
  rw [hhp] at f1 f2
  have fz : U.heap.size = H.size + 1 := by
    obtain ⟨-, -, z3, -⟩ := id hsame
    have z4 : U.heap.size ≤ s'.heap.size + (0 + 1) := z3
    have z5 : T.heap.size < U.heap.size := (Array.getElem?_eq_some_iff.mp hce).1
    rw [hhp] at z4
    rw [hT] at z5
    omega
  have hWs : s.WarmedH U.vm := State.WarmedH.trans hW0 hW
  have hcl : s.vm.findClass cls = some ce.cls := by
    have h9 := hO2
    rw [hvm] at h9
    exact h9
  have hall : s.sameButNew ({ U with vm := s.vm } : State) locs mc ms := by
    subst hA
    obtain ⟨e1, e2⟩ := hsame
    rw [State.setFrames_setFrames] at e1
    have h2 : (T.setVm s.vm).sameButNew ({ U with vm := s.vm } : State) [] (0 + 1) (0 + 6) := ⟨e1, e2⟩
    have h3 := X.same.trans h2
    rw [List.append_nil] at h3
    exact h3.mono hc hs
  refine ⟨U, ?_, .threw T.heap.size, hrun, hend, Or.inr ⟨T.heap.size, rfl, cls, ce, locs, hx U hWs.alike fz (fun q hq => f2 q hq (fun z hz => nomatch hz)), hce, hO1, hcl, hWs, hall, hf⟩⟩
  refine st1 _ ?_
  show Steps p.tables e below (T1.setTop { method := m, pc := pc + 3, locals := ls, stack := .ref T.heap.size :: rest, locked := none }) _
  jvm_step X₁.here [X₁.here.top, hexec, d3', Value.category]
  exact X₁.ldcStringW hexec (own := own) (text := text) (index := is) (a := sa) hown' hstr'.1 hstr'.2
    (g := { method := m, pc := pc + 4, locals := ls, stack := .ref T.heap.size :: .ref T.heap.size :: rest, locked := none }) rfl d4' _ hsteps
end MC12
/-! the words of that throw -/
def mc_NE : String := "java/util/NoSuchElementException"
def mc_nms : List String := ["java/lang/RuntimeException", "java/lang/Exception"]
def mc_TH : List Cond := Cond.classLink "StrikeAwake" 320 mc_NE :: Cond.initialized mc_NE :: mc_atX "StrikeAwake" 324 mc_NE 13 prog_29_method_4_code mc_nms
theorem mc_TH_ot : mc_TH.all vx_ot = true := by decide +kernel
theorem mc_TH_in : mc_TH.all (fun w => mc_ls w lw_tbl) = true := by decide +kernel
def mc_TB : List Cond := mc_TH.filter (fun w => !goodWord w)
def mc_dk (w : Cond) : Bool := match w with
  | .declares _ => true
  | .castable _ _ => true
  | _ => false
theorem mc_TB_dk : mc_TB.all mc_dk = true := by decide +kernel
theorem mc_TB_ca : mc_ls (.castable mc_NE mc_NE) mc_TB = true := by decide +kernel
theorem mc_wl : [Cond.classLink "StrikeAwakeLaw" 13 mc_NE, .methodLink "StrikeAwakeLaw" 220 ⟨"StrikeAwakeLaw", "led", "(LStrikeAwake;I[J)I"⟩, .static ⟨"StrikeAwakeLaw", "led", "(LStrikeAwake;I[J)I"⟩, .initialized "StrikeAwakeLaw", .codeWith ⟨"StrikeAwakeLaw", "led", "(LStrikeAwake;I[J)I"⟩ method_3_code 4 (some .int) [(0, 9, 12, 13)], .methodLink "StrikeAwakeLaw" 7 ⟨"StrikeAwake", "led", "(I)I"⟩].all (fun w => mc_ls w lw_tbl && goodWord w) = true := by decide +kernel
theorem mc_zl : [Cond.laysStatic Bundle.tN "UNASSIGNED_STACK" Bundle.steD, .laysStatic Bundle.tN "SUPPRESSED_SENTINEL" Bundle.listD, .initialized Bundle.tN].all (fun w => mc_ls w lw_tbl) = true := by decide +kernel
theorem mc_zr : [Cond.isRef (.static Bundle.tN "UNASSIGNED_STACK" Bundle.steD), .isRef (.static Bundle.tN "SUPPRESSED_SENTINEL" Bundle.listD)].all (fun w => mc_ls w mc_fl0) = true := by decide +kernel
theorem mc_l165 : mc_mt 165 = some (0, ⟨"StrikeAwake", "led", "(I)I"⟩, prog_1_method_49_code, 4, some .int, 1, 1) := rfl
theorem mc_s71 : ((0, 322, "there is no such person away", 71, 6, 50) : Nat × Nat × String × Nat × Nat × Nat) ∈ mc_sr := by decide +kernel
theorem mc_dec : decode prog_1_method_49_code 46 = .ok (.new 320, 3) ∧ decode prog_1_method_49_code (46 + 3) = .ok (.dup, 1) ∧ decode prog_1_method_49_code (46 + 4) = .ok (.ldc_w 322, 3) ∧ decode prog_1_method_49_code (46 + 7) = .ok (.invokespecial 324, 3) ∧ decode prog_1_method_49_code (46 + 10) = .ok (.athrow, 1) := ⟨by decide +kernel, by decide +kernel, by decide +kernel, by decide +kernel, by decide +kernel⟩
theorem mc_dec2 : decode method_3_code 4 = .ok (.invokevirtual 7, 3) ∧ decode method_3_code 12 = .ok (.astore_n 3, 1) ∧ decode method_3_code 13 = .ok (.iconst 1, 1) ∧ decode method_3_code 14 = .ok (.ireturn, 1) := ⟨by decide +kernel, by decide +kernel, by decide +kernel, by decide +kernel⟩
theorem mc_dec3 : decode code 1600 = .ok (.invokestatic 220, 3) := by decide +kernel
theorem mc_dec4 : decode prog_29_method_4_code 0 = .ok (.aload_n 0, 1) ∧ decode prog_29_method_4_code 1 = .ok (.aload_n 1, 1) ∧ decode prog_29_method_4_code 2 = .ok (.invokespecial 13, 3) ∧ decode prog_29_method_4_code 5 = .ok (.return_, 1) := ⟨by decide +kernel, by decide +kernel, by decide +kernel, by decide +kernel⟩
end
section
/-! THE ONE METHOD THAT THROWS, and the law's call that catches it (own work) -/
def mc_y1 : MethodName := ⟨"StrikeAwake", "led", "(I)I"⟩
def mc_y2 : MethodName := ⟨"StrikeAwakeLaw", "led", "(LStrikeAwake;I[J)I"⟩
def mc_op : mc_E := .inl (99, 6, fun _ => .null)
def mc_rm1 : Room := { frames := 6, cells := 1, slots := 6, locals := 90 }
def mc_rm2 : Room := { frames := 7, cells := 1, slots := 6, locals := 120 }
def mc_TW (U : State) : Prop := ∀ w ∈ mc_TB, va_Nw w U
theorem mc_TW.moved {s U : State} (hW : s.WarmedH U.vm) (h : mc_TW s) : mc_TW U := fun w hw => by
  have hk := List.all_eq_true.mp mc_TB_dk w hw
  have h1 := h w hw
  cases w with
  | declares x => exact va_Nw.warmD hW h1
  | castable C T => exact va_Nw.warmC hW h1
  | _ => cases hk
theorem mc_TW.same {s U : State} (hv : s.vm = U.vm) (h : mc_TW s) : mc_TW U := fun w hw => by
  have hk := List.all_eq_true.mp mc_TB_dk w hw
  have h1 := h w hw
  cases w with
  | declares x => exact va_Nw.same rfl hv h1
  | castable C T => exact va_Nw.same rfl hv h1
  | _ => cases hk
theorem mc_TW.use {s : State} {args : Array Value} (h : mc_TW s) {w : Cond} (hw : w ∈ mc_TB) : w.before args s = true := by
  have hk := List.all_eq_true.mp mc_TB_dk w hw
  have h1 := h w hw
  cases w with
  | declares x => exact va_Nw.use rfl h1
  | castable C T => exact va_Nw.use rfl h1
  | _ => cases hk
def mc_TZ (G : mc_G) (U : State) (H : Heap) : Prop := vx_Zq Bundle.tN "UNASSIGNED_STACK" Bundle.steD (mc_A G) U H ∧ vx_Zq Bundle.tN "SUPPRESSED_SENTINEL" Bundle.listD (mc_A G) U H
def mc_PT (kt : Nat → Option mc_E) (G : mc_G) (M : mc_M) (as : List Value) : Array Value → State → Prop := va_Pc (as.map (mc_v G)) (fun U => mc_H G M U.heap ∧ mc_B kt G U U.heap ∧ mc_TW U ∧ mc_TZ G U U.heap)
theorem mc_PT_blind {kt : Nat → Option mc_E} {G : mc_G} {M : mc_M} {as : List Value} : FrameBlind (mc_PT kt G M as) := by
  intro a U g mk ⟨h1, h2, h3, h4, h5, h6⟩
  exact ⟨h1, h2, mc_B.same (s := U) (U := U.calling g mk a) rfl h3, mc_TW.same (s := U) (U := U.calling g mk a) rfl h4, vx_Zq.moved (u := U) (U := U.calling g mk a) (Vm.Alike.refl _) h5, vx_Zq.moved (u := U) (U := U.calling g mk a) (Vm.Alike.refl _) h6⟩
def mc_XT (G : mc_G) (M : mc_M) : String → State → State → Prop := vx_X (S := Unit) (fun _ => True) (fun E _ t => E = mc_NE ∧ mc_H G (M ++ [mc_op]) t.heap) (mc_A G)
def mc_QF (G : mc_G) : Array Value → State → Outcome → State → Prop := va_Qi (S := Unit) (fun _ _ => False) (fun _ _ => True) (mc_A G)
theorem mc_wl_at {w : Cond} (h : w ∈ [Cond.classLink "StrikeAwakeLaw" 13 mc_NE, .methodLink "StrikeAwakeLaw" 220 ⟨"StrikeAwakeLaw", "led", "(LStrikeAwake;I[J)I"⟩, .static ⟨"StrikeAwakeLaw", "led", "(LStrikeAwake;I[J)I"⟩, .initialized "StrikeAwakeLaw", .codeWith ⟨"StrikeAwakeLaw", "led", "(LStrikeAwake;I[J)I"⟩ method_3_code 4 (some .int) [(0, 9, 12, 13)], .methodLink "StrikeAwakeLaw" 7 ⟨"StrikeAwake", "led", "(I)I"⟩]) : w ∈ mc_ws := by
  have h1 := List.all_eq_true.mp mc_wl w h
  simp only [Bool.and_eq_true] at h1
  exact List.mem_filter.mpr ⟨mc_ls_in h1.1, h1.2⟩
theorem mc_TH_at {s : State} {args : Array Value} (hts : ∀ w ∈ mc_ws, w.before args s = true) (hT : mc_TW s) : ∀ w ∈ mc_TH, w.before args s = true := fun w hw => by
  by_cases g : goodWord w = true
  · exact hts w (List.mem_filter.mpr ⟨mc_ls_in (List.all_eq_true.mp mc_TH_in w hw), g⟩)
  · exact hT.use (List.mem_filter.mpr ⟨hw, by
      cases hg : goodWord w
      · rfl
      · exact absurd hg g⟩)
theorem mc_TH_1 : Cond.classLink "StrikeAwake" 320 mc_NE ∈ mc_TH := List.mem_cons_self
theorem mc_TH_2 : Cond.initialized mc_NE ∈ mc_TH := List.mem_cons_of_mem _ List.mem_cons_self
theorem mc_TH_3 {w : Cond} (h : w ∈ mc_atX "StrikeAwake" 324 mc_NE 13 prog_29_method_4_code mc_nms) : w ∈ mc_TH := List.mem_cons_of_mem _ (List.mem_cons_of_mem _ h)
section MC13
variable {kt : Nat → Option mc_E} {own : Nat} {ini : Bool} {ret9 : Option FieldType} {cc : ByteArray}
variable {G : mc_G} {p : Program} {l : Launch} {e : Env} {R : Room} {s : State} {m : MethodId} {args : Array Value} {below : List Frame} {meth : Method} {c : Code} {Q : State → Prop} {nL l0 z0 : Nat}
theorem mc_preT (C : mc_X kt G own nL ini ret9 cc p s m args meth c) (hT : mc_TW s) (hZ : mc_TZ G s s.heap) {M : mc_M} {H : Heap} {locs : List Loc} (hH : mc_H G M H) (hS : va_S (mc_A G) s.heap H locs) {as : List Value} {U : State} (hU : U.heap = H) (hW : s.WarmedH U.vm) : mc_PT kt G M as (as.map (mc_v G)).toArray U := by
  obtain ⟨h1, h2, h3⟩ := mc_pre C hH hS (as := as) hU hW
  refine ⟨h1, h2, h3, hT.moved hW, ?_, ?_⟩
  · rw [hU]
    exact vx_Zq.moved hW.alike (hZ.1.kept hS.2.1)
  · rw [hU]
    exact vx_Zq.moved hW.alike (hZ.2.kept hS.2.1)
end MC13
set_option maxHeartbeats 200000 in
theorem mc_led1 (l : Launch) (hfl : l.stackTraces = false) {kt : Nat → Option mc_E} {G : mc_G} {as : List Value} {M M1 : mc_M} {L1 : List (Nat × Value)} (hlen : (lg_sl as).length ≤ 4) (hM : M1.length = M.length ∧ mc_sz M1 = mc_sz M) (hseg : mc_seg kt (fun _ _ _ => none) 0 4 false (some .int) prog_1_method_49_code 9 (0, lv_args 0 as, [], M) = some (46, L1, [], M1)) :
    vx_Met l mc_y1 (Cond.code mc_y1 prog_1_method_49_code 4 (some .int) :: mc_ws) mc_rm1 (mc_PT kt G M as) (mc_QF G) (mc_XT G M1) 1 6 (mc_A G) := by
  refine vx_ofW (cc := prog_1_method_49_code) (maxL := 4) (ret := some .int) (by decide +kernel) rfl ?_
  intro p e s m args below meth c s₁ B hml hnt hv
  obtain ⟨rfl, hH, hB, hTW, hTZ⟩ := hv
  have hts : ∀ w ∈ mc_ws, w.before (as.map (mc_v G)).toArray s = true := fun w hw => atoms_spec (ws := Cond.code mc_y1 prog_1_method_49_code 4 (some .int) :: mc_ws) B.pre w (List.mem_cons_of_mem _ hw)
  have hown : s.vm.findClass (mc_cn 0) = some m.cls := findClass_of_methodNamed B.named
  have C : mc_X kt G 0 4 false (some .int) prog_1_method_49_code p s m (as.map (mc_v G)).toArray meth c := ⟨B.exec, B.bytes, hown, hts, hml, hB, by rw [hH.1]; exact Nat.le_add_right _ _, (fun h => by cases h), B.notSynchronized, B.returns⟩
  have hTH := mc_TH_at hts hTW
  have hk1 : (Cond.classLink "StrikeAwake" 320 mc_NE).before (as.map (mc_v G)).toArray s = true := hTH _ mc_TH_1
  have hk2 : (Cond.initialized mc_NE).before (as.map (mc_v G)).toArray s = true := hTH _ mc_TH_2
  have hk3 : ∀ w ∈ mc_atX "StrikeAwake" 324 mc_NE 13 prog_29_method_4_code mc_nms, w.before (as.map (mc_v G)).toArray s = true := fun w hw => hTH w (mc_TH_3 hw)
  have hstr9 := hB.2.2.2.2.2.2.1
  have hstr0 := hstr9 _ mc_s71
  have hr1 : mc_nms.length + 3 < mc_rm1.frames := by decide +kernel
  have hr2 : (([] : List Value).map fun v => v.category).sum + (13 * (mc_nms.length + 1) + 43) ≤ mc_rm1.locals := by decide +kernel
  have hl9 := lv_entry (as.map (mc_v G)) (n := 4) (by rw [mc_sl_len]; exact hlen)
  rw [lg_entry_eq]
  generalize (lg_sl (as.map (mc_v G)) ++ List.replicate (4 - (lg_sl (as.map (mc_v G))).length) Slot.unset).toArray = ls0 at hl9 ⊢
  have hl10 : lv_has ls0 4 (mc_L G (lv_args 0 as)) := by
    rw [mc_L_args]
    exact hl9
  have kk : mc_W G p l e mc_rm1 s m (as.map (mc_v G)).toArray below meth c (vx_MQ below (mc_QF G) (mc_XT G M1) (as.map (mc_v G)).toArray s 1 6 (mc_A G)) 4 M.length (mc_sz M) (46, L1, [], M1) := by
    intro H locs ls cells slots hH9 hS hl1 hc hz
    have hH9 : mc_H G M1 H := hH9
    have hc : cells + M.length = M1.length := hc
    have hz : slots + mc_sz M = mc_sz M1 := hz
    obtain rfl : cells = 0 := by omega
    obtain rfl : slots = 0 := by omega
    obtain ⟨d0, d3, d4, d7, d10⟩ := mc_dec
    obtain ⟨x0, x1, x2, x5⟩ := mc_dec4
    have hstr : vk_R "StrikeAwake" 322 "there is no such person away" (mc_a G 71) s := hstr0
    have hgood : ∀ w ∈ Cond.classLink "StrikeAwake" 320 mc_NE :: Cond.initialized mc_NE :: mc_atX "StrikeAwake" 324 mc_NE 13 prog_29_method_4_code mc_nms, vx_ot w = true := List.all_eq_true.mp mc_TH_ot
    have hfit : ∀ n ∈ mc_nms, Bundle.fit n = true := by decide +kernel
    have hfit0 : Bundle.fit mc_NE = true := by decide +kernel
    have hsz : ls.size = c.maxLocals := by rw [hl1.1, hml]
    have hx9 : ∀ t : State, s.vm.Alike t.vm → t.heap.size = H.size + 1 → (∀ q : Nat, q < H.size → t.heap[q]? = H[q]?) → mc_XT G M1 mc_NE s t := fun t _ z hk => ⟨(), trivial, ⟨rfl, mc_H.push hH9 (fun h7 => absurd h7 (by decide)) z hk⟩, ⟨by rw [z]; have := hS.1; omega, fun q h1 h2 => by rw [hk q (Nat.lt_of_lt_of_le h1 hS.1)]; exact hS.2.1 q h1 h2⟩⟩
    exact mc_throwSW (mc := 1) (ms := 6) (A := mc_A G) (free := mc_A G) (Qc := mc_QF G) (XC := mc_XT G M1) (own := "StrikeAwake") (cls := mc_NE) (text := "there is no such person away") (names := mc_nms) (ik := 320) (is := 322) (ic := 324) (ix := 13) (rx := prog_29_method_4_code) (sa := mc_a G 71) (rest := []) (cc := prog_1_method_49_code) (pc := 46) C.1 C.2.1 hfl hown hfit0 hfit
      hk1 hk2 hstr hk3 hgood hTZ.1 hTZ.2 hS hsz x0 x1 x2 x5 d0 d3 d4 d7 d10 (fun x hx => (hnt x hx).elim) hr1 hr2 (Nat.le_refl _) (Nat.le_refl _) B.notSynchronized hx9 hS.2.2 (Nat.le_refl _) (Nat.le_refl _)
  exact mc_seg_ok (R := mc_rm1) (call := fun _ _ _ => none) (d := 0) C (fun k q as M w _ h => by cases h) (fun k as M w h => by cases h) ⟨by decide, by decide⟩ (T := (46, L1, [], M1)) ⟨by show M1.length ≤ 1 + M.length; omega, by show mc_sz M1 ≤ 6 + mc_sz M; omega⟩ kk 9 _ hseg s.heap [] ls0 0 0 hH va_S.rf hl10 (Nat.zero_add _) (Nat.zero_add _)
end
section
/-! THE CALL THAT CATCHES (own work) -/
set_option maxHeartbeats 300000 in
theorem mc_led2 (l : Launch) (hfl : l.stackTraces = false) {kt : Nat → Option mc_E} {G : mc_G} {x x2 : Int32} {a0 la : Nat} {fs : List Value} {M M2 M1 : mc_M} {L1 L2 : List (Nat × Value)} (ha0 : 256 ≤ a0) (hrc : M2[a0 - 256]? = some (.inr (0, fs)))
    (hM2 : M2.length = M.length ∧ mc_sz M2 = mc_sz M) (hM1 : M1.length = M2.length ∧ mc_sz M1 = mc_sz M2)
    (hseg2 : mc_seg kt (fun _ _ _ => none) 11 4 false (some .int) method_3_code 4 (0, lv_args 0 [.ref a0, .int x, .ref la], [], M) = some (4, L2, [.int x2, .ref a0, .int 0, .ref la], M2))
    (hseg1 : mc_seg kt (fun _ _ _ => none) 0 4 false (some .int) prog_1_method_49_code 9 (0, lv_args 0 [.ref a0, .int x2], [], M2) = some (46, L1, [], M1)) :
    Met l mc_y2 (Cond.codeWith mc_y2 method_3_code 4 (some .int) [(0, 9, 12, 13)] :: mc_ws) mc_rm2 (mc_PT kt G M [.ref a0, .int x, .ref la]) (mc_Qc G (some (.int 1), M1 ++ [mc_op])) 1 6 (mc_A G) := by
  refine va_MetW (cc := method_3_code) (maxL := 4) (ret := some .int) (hh := [(0, 9, 12, 13)]) (by decide +kernel) rfl ?_
  intro p e s m args below meth c s₁ B hml hv
  obtain ⟨rfl, hH, hB, hTW, hTZ⟩ := hv
  generalize hav : (([.ref a0, .int x, .ref la] : List Value).map (mc_v G)).toArray = args at B hTW hTZ ⊢
  have hts : ∀ w ∈ mc_ws, w.before args s = true := fun w hw => atoms_spec (ws := Cond.codeWith mc_y2 method_3_code 4 (some .int) [(0, 9, 12, 13)] :: mc_ws) B.pre w (List.mem_cons_of_mem _ hw)
  have htab := vx_table (x := mc_y2) B (atoms_spec (ws := Cond.codeWith mc_y2 method_3_code 4 (some .int) [(0, 9, 12, 13)] :: mc_ws) B.pre _ List.mem_cons_self)
  have hown : s.vm.findClass (mc_cn 11) = some m.cls := findClass_of_methodNamed B.named
  have C : mc_X kt G 11 4 false (some .int) method_3_code p s m args meth c := ⟨B.exec, B.bytes, hown, hts, hml, hB, by rw [hH.1]; exact Nat.le_add_right _ _, (fun h => by cases h), B.notSynchronized, B.returns⟩
  obtain ⟨f1, f2, f3, f4, f5, f6, f7, f8, f9, f10, f11⟩ := mc_mfacts mc_l165
  have hlk7 : (Cond.methodLink "StrikeAwakeLaw" 7 mc_y1).before args s = true := hts _ (mc_wl_at (by unfold mc_y1; simp))
  have hcl13 : (Cond.classLink "StrikeAwakeLaw" 13 mc_NE).before args s = true := hts _ (mc_wl_at List.mem_cons_self)
  have hcast : (Cond.castable mc_NE mc_NE).before args s = true := hTW.use (mc_ls_in mc_TB_ca)
  obtain ⟨e4, e12, e13, e14⟩ := mc_dec2
  have kk : mc_W G p l e mc_rm2 s m args below meth c (MQ below (mc_Qc G (some (.int 1), M1 ++ [mc_op])) args s 1 6 (mc_A G)) 4 M.length (mc_sz M) (4, L2, [.int x2, .ref a0, .int 0, .ref la], M2) := by
    intro H locs ls cells slots hH9 hS hl1 hc hz
    have hH9 : mc_H G M2 H := hH9
    have hl1 : lv_has ls 4 (mc_L G L2) := hl1
    have hc : cells + M.length = M2.length := hc
    have hz : slots + mc_sz M = mc_sz M2 := hz
    obtain rfl : cells = 0 := by omega
    obtain rfl : slots = 0 := by omega
    have hrcv : ∃ cellB : Cell, H[mc_a G a0]? = some cellB ∧ cellB.vm.isStatics = false ∧ s.vm.findClass (mc_cn 0) = some cellB.cls := by
      obtain ⟨r9, y1, cell, y2, y3, y4, -⟩ := hH9.at ha0 hrc
      have hr9 := mc_cl_eq y1
      subst hr9
      exact ⟨cell, y2, by rw [y4]; rfl, by rw [y3]; exact (hB.1.1 0 _ y1).2.1⟩
    have hPV : PreV s H (mc_cn 0) (mc_a G a0) (mc_PT kt G M2 [.ref a0, .int x2]) [.int x2] := ⟨mc_PT_blind, hrcv, fun U hU hW => mc_preT C hTW hTZ hH9 hS hU hW⟩
    have hM := mc_led1 l hfl (G := G) (kt := kt) (as := [.ref a0, .int x2]) (M := M2) (M1 := M1) (L1 := L1) (by show 2 ≤ 4; omega) hM1 hseg1
    have hr : vx_Run p l e mc_rm2 s m args below meth c H locs 0 0 1 6 (F0 m 4 ls [.int x2, .ref (mc_a G a0), .int 0, .ref (mc_a G la)]) [.int 0, .ref (mc_a G la)] (mc_QF G (Value.ref (mc_a G a0) :: [Value.int x2]).toArray) (mc_XT G M1) (mc_A G) :=
      vx_runV (Ts := mc_ws) (own := "StrikeAwakeLaw") (C := mc_cn 0) (index := 7) (bytes := prog_1_method_49_code) (maxL := 4) (ret := some .int) (n := 1) (cc := method_3_code) (nL := 4) ⟨C.1, C.2.1, hml, hown, hts⟩ hM
        ⟨⟨rfl, rfl, by decide, by decide, mc_pay hts f1, List.mem_cons_self, hts _ f1, hts _ f5, f9, mc_npar f10, hlk7⟩, hts _ (f3 (by decide)), hts _ (f4 rfl)⟩ hPV rfl rfl hl1.1 rfl (lv_room (by show 2 ≤ 8; omega)) e4 ⟨Nat.le_refl _, Nat.le_refl _⟩
    refine vx_calli (A0 := mc_A G) (A1 := mc_A G) (AX := mc_A G) hr hS (fun q _ h => h) (fun q h => h) (fun q _ h => h) ?_ (fun r u t H1 locs1 _ _ hp => hp.elim)
    intro E ce q9 u t H1 locs1 ht hal _ hE hz1 hk1 hS1 hce hcv hcl
    obtain ⟨rfl, hH1⟩ := hE
    refine vx_catch (own := "StrikeAwakeLaw") (name := mc_NE) (E := mc_NE) hown [] ⟨0, 9, 12, 13⟩ [] htab (fun z hz => nomatch hz) (show covers ⟨0, 9, 12, 13⟩ 4 = true by decide) (by decide) hcl13 hcast hce hcv hcl ?_
    refine lv_astore_n C.1 C.2.1 e12 rfl hl1 (by decide) rfl fun ls' hl' => lv_iconst C.1 C.2.1 e13 rfl ?_
    exact W.zret C.1 C.2.1 B.returns rfl (fun t' ht' hW' => ⟨rfl, by rw [ht', ← ht]; exact hH1, hS1.F ht'⟩) hS1.2.2 e14 B.notSynchronized
  have hl9 := lv_entry (([.ref a0, .int x, .ref la] : List Value).map (mc_v G)) (n := 4) (by show 3 ≤ 4; omega)
  rw [← hav, lg_entry_eq]
  rw [hav]
  generalize (lg_sl (([.ref a0, .int x, .ref la] : List Value).map (mc_v G)) ++ List.replicate (4 - (lg_sl (([.ref a0, .int x, .ref la] : List Value).map (mc_v G))).length) Slot.unset).toArray = ls0 at hl9 ⊢
  have hl10 : lv_has ls0 4 (mc_L G (lv_args 0 [.ref a0, .int x, .ref la])) := by
    rw [mc_L_args]
    exact hl9
  exact mc_seg_ok (R := mc_rm2) (call := fun _ _ _ => none) (d := 0) C (fun k q as M w _ h => by cases h) (fun k as M w h => by cases h) ⟨by decide, by decide⟩ (T := (4, L2, [.int x2, .ref a0, .int 0, .ref la], M2)) ⟨by show M2.length ≤ 1 + M.length; omega, by show mc_sz M2 ≤ 6 + mc_sz M; omega⟩ kk 4 _ hseg2 s.heap [] ls0 0 0 hH va_S.rf hl10 (Nat.zero_add _) (Nat.zero_add _)
end
section
/-! THE LAW'S CASE WITH THE EXCEPTION (own work) -/
def mcA_opA : mcA_E := .inl (99, 6, fun _ => .inl .null)
def mcA_noc : Nat → List mc_V → mcA_M → Option mcA_R := fun _ _ _ => none
def mcA_dc (cc : ByteArray) (pc : Nat) : Option (Instr × Nat) := match decode cc pc with
  | .ok x => some x
  | .error _ => none
theorem mcA_dc_ok {cc : ByteArray} {pc : Nat} {x : Instr × Nat} (h : mcA_dc cc pc = some x) : decode cc pc = .ok x := by
  unfold mcA_dc at h
  split at h
  · next y hy =>
    cases h
    exact hy
  · cases h
def mcA_lB (S : mcA_S) : Option mcA_S := mcA_seg (mcA_kt 6 mcA_b0) (mcA_call (mcA_kt 6 mcA_b0) mcA_F 15) 11 7 false (some .boolean) mc_lawcd 7 (1592, S.2.1, [], S.2.2.2)
def mcA_lC (SB : mcA_S) (a0 : Nat) (r : Int × Int) (la : Nat) : Option mcA_S := mcA_seg (mcA_kt 6 mcA_b0) mcA_noc 11 4 false (some .int) (mcA_dc method_3_code) 4 (0, mcA_args 0 [.inl (.ref a0), .inr (some r), .inl (.ref la)], [], SB.2.2.2)
def mcA_lD (SC : mcA_S) (a0 : Nat) (r : Int × Int) : Option mcA_S := mcA_seg (mcA_kt 6 mcA_b0) mcA_noc 0 4 false (some .int) (mcA_dc prog_1_method_49_code) 9 (0, mcA_args 0 [.inl (.ref a0), .inr (some r)], [], SC.2.2.2)
def mcA_sm (A B : mcA_M) : Bool := decide (A.length = B.length) && decide ((A.map mcA_es).sum = (B.map mcA_es).sum)
def mcA_lE (SB SD : mcA_S) : Bool := mcA_fin (mcA_loop (mcA_kt 6 mcA_b0) (mcA_call (mcA_kt 6 mcA_b0) mcA_F 15) 11 7 false (some .boolean) mc_lawcd mcA_F (1603, SB.2.1, [.inl (.int 1)], SD.2.2.2 ++ [mcA_opA]))
def mcA_is0 (e : Option mcA_E) : Bool := match e with
  | some (.inr z) => decide (z.1 = 0)
  | _ => false
def mcA_kq3 (SB SC : mcA_S) (a0 : Nat) (r : Int × Int) : Bool := match mcA_lD SC a0 r with
  | some SD => decide (SD.1 = 46) && decide (SD.2.2.1.length = 0) && mcA_sm SD.2.2.2 SC.2.2.2 && mcA_lE SB SD
  | none => false
def mcA_kq2 (SB : mcA_S) (a0 : Nat) (r : Int × Int) (la : Nat) : Bool := match mcA_lC SB a0 r la with
  | some SC => match SC.2.2.1 with
    | [.inr (some r2), .inl (.ref a2), .inl (.int z), .inl (.ref la2)] => decide (SC.1 = 4) && decide (a2 = a0) && decide (la2 = la) && decide (z = 0) && mcA_sm SC.2.2.2 SB.2.2.2 && mcA_is0 SC.2.2.2[a0 - 256]? && mcA_kq3 SB SC a0 r2
    | _ => false
  | none => false
def mcA_kq1 (SA : mcA_S) : Bool := match mcA_lB SA with
  | some SB => match SB.2.2.1 with
    | [.inl (.ref la), .inr (some r), .inl (.ref a0)] => decide (SB.1 = 1600) && decide (SB.2.2.2.length ≤ 5000) && decide ((SB.2.2.2.map mcA_es).sum ≤ 1000000) && decide (256 ≤ a0) && mcA_kq2 SB a0 r la
    | _ => false
  | none => false
def mcA_kq0 : Bool := match mcA_lseg mcA_b0 24 with
  | some SA => mcA_kq1 SA
  | none => false
theorem mcA_kq0_ok : mcA_kq0 = true := by decide +kernel
end
section
/-! THE LED CASE'S WALK, and the whole (own work) -/
theorem mcA_sm_ok {A B : mcA_M} {M N : mc_M} (h : mcA_sm A B = true) (hM : mcA_R2 mcA_gE A M) (hN : mcA_R2 mcA_gE B N) : M.length = N.length ∧ mc_sz M = mc_sz N := by
  unfold mcA_sm at h
  simp only [Bool.and_eq_true, decide_eq_true_eq] at h
  exact ⟨by rw [← hM.len, ← hN.len]; exact h.1, by rw [mcA_sz_eq hM, mcA_sz_eq hN]; exact h.2⟩
theorem mcA_is0_ok {A : mcA_M} {M : mc_M} {k : Nat} (h : mcA_is0 A[k]? = true) (hM : mcA_R2 mcA_gE A M) : ∃ fs, M[k]? = some (.inr (0, fs)) := by
  unfold mcA_is0 at h
  split at h
  · next z hz =>
    obtain ⟨b, h1, h2⟩ := hM.at hz
    match b, h2 with
    | .inr y, h2 =>
      obtain ⟨y1, y2⟩ := y
      have h3 : z.1 = y1 := h2.1
      have h4 : z.1 = 0 := of_decide_eq_true h
      rw [h4] at h3
      subst h3
      exact ⟨y2, h1⟩
  · cases h
section MC14
variable {p : Program} {l : Launch} {e : Env} {s : State} {m : MethodId} {below : List Frame} {meth : Method} {c : Code} {b : Nat} {xs : Nat → Int32} {G : mc_G}
/-- the law's call of led, at its place -/
theorem mc_ledcall (C : mc_X (mc_kt 6 xs) G 11 7 false (some .boolean) code p s m #[Value.ref b] meth c) (hfl : l.stackTraces = false) (hT : mc_TW s) (hZ : mc_TZ G s s.heap) {x x2 : Int32} {a0 la : Nat} {fs : List Value} {M M2 M1 : mc_M} {L Lx L2 : List (Nat × Value)} (ha0 : 256 ≤ a0) (hrc : M2[a0 - 256]? = some (.inr (0, fs)))
    (hM2 : M2.length = M.length ∧ mc_sz M2 = mc_sz M) (hM1 : M1.length = M2.length ∧ mc_sz M1 = mc_sz M2) (hfit : M.length ≤ 5000 ∧ mc_sz M ≤ 1000000)
    (hseg2 : mc_seg (mc_kt 6 xs) (fun _ _ _ => none) 11 4 false (some .int) method_3_code 4 (0, lv_args 0 [.ref a0, .int x, .ref la], [], M) = some (4, L2, [.int x2, .ref a0, .int 0, .ref la], M2))
    (hseg1 : mc_seg (mc_kt 6 xs) (fun _ _ _ => none) 0 4 false (some .int) prog_1_method_49_code 9 (0, lv_args 0 [.ref a0, .int x2], [], M2) = some (46, Lx, [], M1))
    (kk : mc_W G p l e room_1 s m #[Value.ref b] below meth c (lw_Z below #[Value.ref b] s) 7 0 0 (1603, L, [.int 1], M1 ++ [mc_op])) : mc_W G p l e room_1 s m #[Value.ref b] below meth c (lw_Z below #[Value.ref b] s) 7 0 0 (1600, L, [.ref la, .int x, .ref a0], M) := by
  have hM := mc_led2 l hfl (kt := mc_kt 6 xs) (G := G) (la := la) ha0 hrc hM2 hM1 hseg2 hseg1
  have C0 := C
  obtain ⟨hx, hb9, hown, hts, hml, hB, hba, hini, hlk, hret⟩ := C
  have e1 : (M1 ++ [mc_op]).length - M.length = 1 := by rw [List.length_append]; show M1.length + 1 - M.length = 1; omega
  have e2 : mc_sz (M1 ++ [mc_op]) - mc_sz M = 6 := by rw [mc_sz_app, mc_sz_one]; show mc_sz M1 + 6 - mc_sz M = 6; omega
  have hle : mc_le M (M1 ++ [mc_op]) := ⟨by rw [List.length_append]; show M.length ≤ M1.length + 1; omega, by rw [mc_sz_app]; omega⟩
  intro H locs ls cells slots hH hS hl hc hz
  have hH : mc_H G M H := hH
  have hl : lv_has ls 7 (mc_L G L) := hl
  have hc : cells + 0 = M.length := hc
  have hz : slots + 0 = mc_sz M := hz
  refine mc_after (w := (some (.int 1), M1 ++ [mc_op])) (M := M) (L := L) (nL := 7) (l0 := 0) (z0 := 0) (rest := []) (a := (([.ref a0, .int x, .ref la] : List Value).map (mc_v G)).toArray) hS ?_ hle hl hc hz kk
  show va_Run p l e room_1 s m #[Value.ref b] below meth c H locs cells slots ((M1 ++ [mc_op]).length - M.length) (mc_sz (M1 ++ [mc_op]) - mc_sz M) (F0 m 1600 ls (([.ref la, .int x, .ref a0] : List Value).map (mc_v G))) [] (mc_Qc G (some (.int 1), M1 ++ [mc_op]) (([.ref a0, .int x, .ref la] : List Value).map (mc_v G)).toArray) (mc_A G)
  rw [e1, e2]
  have hPS : PreS s H (mc_PT (mc_kt 6 xs) G M [.ref a0, .int x, .ref la]) (([.ref a0, .int x, .ref la] : List Value).map (mc_v G)) := ⟨mc_PT_blind, fun U hU hW => mc_preT C0 hT hZ hH hS hU hW⟩
  have w1 : (Cond.methodLink "StrikeAwakeLaw" 220 mc_y2).before #[Value.ref b] s = true := hts _ (mc_wl_at (by unfold mc_y2; simp))
  have w2 : (Cond.static mc_y2).before #[Value.ref b] s = true := hts _ (mc_wl_at (by unfold mc_y2; simp))
  have w3 : (Cond.initialized "StrikeAwakeLaw").before #[Value.ref b] s = true := hts _ (mc_wl_at (by simp))
  have w4 : Cond.codeWith mc_y2 method_3_code 4 (some .int) [(0, 9, 12, 13)] ∈ mc_ws := mc_wl_at (by unfold mc_y2; simp)
  have hnp : (parseMethodDescriptor mc_y2.desc).map (fun d => d.parameters.length) = some 3 := by decide +kernel
  have hhf : 7 + 1 ≤ room_1.frames := by decide
  have hhl : 8 + (4 + 11) + 120 ≤ room_1.locals := by decide
  have hhc : cells + 1 ≤ room_1.cells := by show cells + 1 ≤ 600002; omega
  have hhs : slots + 6 ≤ room_1.slots := by show slots + 6 ≤ 7302232; omega
  have hn1 : mc_y2.cls ≠ "java/lang/invoke/MethodHandle" := by decide +kernel
  have hn2 : mc_y2.cls ≠ "java/lang/invoke/VarHandle" := by decide +kernel
  exact vx_runSW (Ts := mc_ws) (own := "StrikeAwakeLaw") (index := 220) (bytes := method_3_code) (maxL := 4) (ret := some .int) (hh := [(0, 9, 12, 13)]) (n := 3) (cc := code) (nL := 7) ⟨hx, hb9, hml, hown, hts⟩ hM
    ⟨⟨rfl, rfl, hhf, hhl, mc_pay hts w4, List.mem_cons_self⟩, hts _ w4, w3, ⟨hn1, hn2⟩, mc_npar hnp, w1, w2⟩ hPS rfl rfl hl.1 rfl (lv_room (by show 0 ≤ 8; omega)) mc_dec3 ⟨hhc, hhs⟩
theorem mc_ledcase (C : mc_X (mc_kt 6 xs) G 11 7 false (some .boolean) code p s m #[Value.ref b] meth c) (hbase : G.2.1 = s.heap.size) (hfl : l.stackTraces = false) (hT : mc_TW s) (hZ : mc_TZ G s s.heap) (SA : mcA_S) (S : mc_S) (hSA : mcA_lseg mcA_b0 24 = some SA) (hS : mcA_gS SA S) : mc_W G p l e room_1 s m #[Value.ref b] below meth c (lw_Z below #[Value.ref b] s) 7 0 0 (1592, S.2.1, [], S.2.2.2) := by
  have hk := mcA_kt_ok (L := 6) (xs := xs) (bx := mcA_b0) (fun j => mcA_top_g _)
  have h0 := mcA_kq0_ok
  unfold mcA_kq0 at h0
  rw [hSA] at h0
  have h0 : mcA_kq1 SA = true := h0
  unfold mcA_kq1 at h0
  split at h0
  · next SB hB =>
    split at h0
    · next la r a0 hst =>
      simp only [Bool.and_eq_true, decide_eq_true_eq] at h0
      obtain ⟨⟨⟨⟨h1600, hf1⟩, hf2⟩, ha0⟩, h0⟩ := h0
      unfold mcA_kq2 at h0
      split at h0
      · next SC hC =>
        split at h0
        · next r2 a2 z la2 hst2 =>
          simp only [Bool.and_eq_true, decide_eq_true_eq] at h0
          obtain ⟨⟨⟨⟨⟨⟨h4, rfl⟩, rfl⟩, rfl⟩, hsm2⟩, his0⟩, h0⟩ := h0
          unfold mcA_kq3 at h0
          split at h0
          · next SD hD =>
            simp only [Bool.and_eq_true, decide_eq_true_eq] at h0
            obtain ⟨⟨⟨h46, hst3⟩, hsm1⟩, hE⟩ := h0
            obtain ⟨S1, s1, hS1⟩ := mcA_seg_ok hk (mcA_call_ok hk 15) (cc := code) (fun pc x hd => mc_lawcd_ok hd) 7 (1592, SA.2.1, [], SA.2.2.2) (1592, S.2.1, [], S.2.2.2) SB ⟨rfl, hS.2.1, trivial, hS.2.2.2⟩ hB
            have hfit5 : S1.2.2.2.length ≤ 5000 ∧ mc_sz S1.2.2.2 ≤ 1000000 := by
              have h7 := hS1.2.2.2
              rw [← h7.len, mcA_sz_eq h7]
              exact ⟨hf1, hf2⟩
            refine mc_seg_ok (R := room_1) C (mc_call_ok l 15) (mc_call_le 15) ⟨by decide, by decide⟩ (T := S1) ⟨by show S1.2.2.2.length ≤ 600002; omega, by show mc_sz S1.2.2.2 ≤ 7302232; omega⟩ ?_ 7 _ s1
            obtain ⟨pc, Lc, st, M⟩ := S1
            have hpc : pc = 1600 := hS1.1.symm.trans h1600
            subst hpc
            have hst' : mcA_R2 mc_g SB.2.2.1 st := hS1.2.2.1
            rw [hst] at hst'
            match st, hst' with
            | [v1, v2, v3], hst' =>
              obtain ⟨g1, g2, g3, -⟩ := hst'
              have g1 : v1 = .ref la2 := g1
              have g3 : v3 = .ref a2 := g3
              subst g1
              subst g3
              obtain ⟨x, rfl, gx1, gx2⟩ := g2
              obtain ⟨S2, s2, hS2⟩ := mcA_seg_ok hk (callA := mcA_noc) (call := fun _ _ _ => none) (fun k vs xs MA M w _ _ h => by cases h) (cc := method_3_code) (fun pc x hd => mcA_dc_ok hd) 4 (0, mcA_args 0 [.inl (.ref a2), .inr (some r), .inl (.ref la2)], [], SB.2.2.2) (0, lv_args 0 [.ref a2, .int x, .ref la2], [], M) SC ⟨rfl, mcA_args_ok (vs := [.inl (.ref a2), .inr (some r), .inl (.ref la2)]) (xs := [.ref a2, .int x, .ref la2]) ⟨rfl, ⟨x, rfl, gx1, gx2⟩, rfl, trivial⟩ 0, trivial, hS1.2.2.2⟩ hC
              obtain ⟨pc2, L2, st2, M2⟩ := S2
              have hpc2 : pc2 = 4 := hS2.1.symm.trans h4
              subst hpc2
              have hst2' : mcA_R2 mc_g SC.2.2.1 st2 := hS2.2.2.1
              rw [hst2] at hst2'
              match st2, hst2' with
              | [u1, u2, u3, u4], hst2' =>
                obtain ⟨k1, k2, k3, k4, -⟩ := hst2'
                have k2 : u2 = .ref a2 := k2
                have k3 : u3 = .int 0 := k3
                have k4 : u4 = .ref la2 := k4
                subst k2
                subst k3
                subst k4
                obtain ⟨x2, rfl, gy1, gy2⟩ := k1
                obtain ⟨S3, s3, hS3⟩ := mcA_seg_ok hk (callA := mcA_noc) (call := fun _ _ _ => none) (fun k vs xs MA M w _ _ h => by cases h) (cc := prog_1_method_49_code) (fun pc x hd => mcA_dc_ok hd) 9 (0, mcA_args 0 [.inl (.ref a2), .inr (some r2)], [], SC.2.2.2) (0, lv_args 0 [.ref a2, .int x2], [], M2) SD ⟨rfl, mcA_args_ok (vs := [.inl (.ref a2), .inr (some r2)]) (xs := [.ref a2, .int x2]) ⟨rfl, ⟨x2, rfl, gy1, gy2⟩, trivial⟩ 0, trivial, hS2.2.2.2⟩ hD
                obtain ⟨pc3, L3, st3, M3⟩ := S3
                have hpc3 : pc3 = 46 := hS3.1.symm.trans h46
                subst hpc3
                have hst3' : SD.2.2.1.length = st3.length := hS3.2.2.1.len
                have hst4 : st3 = [] := List.eq_nil_of_length_eq_zero (hst3'.symm.trans hst3)
                subst hst4
                obtain ⟨fs, hrc⟩ := mcA_is0_ok his0 (M := M2) hS2.2.2.2
                have hkk : mc_W G p l e room_1 s m #[Value.ref b] below meth c (lw_Z below #[Value.ref b] s) 7 0 0 (1603, Lc, [.int 1], M3 ++ [mc_op]) :=
                  mc_law_run C hbase (bx := mcA_b0) (fun j => mcA_top_g _) (SA := (1603, SB.2.1, [.inl (.int 1)], SD.2.2.2 ++ [mcA_opA])) (S := (1603, Lc, [.int 1], M3 ++ [mc_op])) ⟨rfl, hS1.2.1, ⟨rfl, trivial⟩, mcA_R2.app (as := SD.2.2.2) (bs := M3) (as' := [mcA_opA]) (bs' := [mc_op]) hS3.2.2.2 ⟨⟨rfl, rfl, fun _ => rfl⟩, trivial⟩⟩ hE
                exact mc_ledcall C hfl hT hZ ha0 hrc (mcA_sm_ok hsm2 hS2.2.2.2 hS1.2.2.2) (mcA_sm_ok hsm1 hS3.2.2.2 hS2.2.2.2) hfit5 s2 s3 hkk
          · cases h0
        · cases h0
      · cases h0
    · cases h0
  · cases h0
end MC14
theorem mc_TW_of {s : State} {args : Array Value} (hts : ∀ w ∈ lw_tbl, w.before args s = true) : mc_TW s := fun w hw => by
  have hk := List.all_eq_true.mp mc_TB_dk w hw
  have h1 := hts w (mc_ls_in (List.all_eq_true.mp mc_TH_in w (List.mem_filter.mp hw).1))
  cases w with
  | declares x => exact va_Nw.of rfl h1
  | castable C T => exact va_Nw.of rfl h1
  | _ => cases hk
theorem mc_TZ_of {s : State} {args : Array Value} {G : mc_G} (hbase : G.2.1 = s.heap.size) (hts : ∀ w ∈ lw_tbl, w.before args s = true) (hgv : (Jvm.Cond.and given_1 narrow_1).before args s = true) : mc_TZ G s s.heap := by
  have hfl : ∀ w ∈ mc_fl0, w.before args s = true := flat_of_before _ hgv
  have hA : ∀ a : Nat, a < s.heap.size → ¬ mc_A G a := fun a h h' => by
    have h' : G.2.1 ≤ a := h'
    omega
  have z1 := fun w hw => hts w (mc_ls_in (List.all_eq_true.mp mc_zl w hw))
  have z2 := fun w hw => hfl w (mc_ls_in (List.all_eq_true.mp mc_zr w hw))
  exact ⟨vx_Zqof (z1 _ (by simp)) (z1 _ (by simp)) (z2 _ (by simp)) hA, vx_Zqof (z1 _ (by simp)) (z1 _ (by simp)) (z2 _ (by simp)) hA⟩
theorem whole_start {p : Program} {e : Env} {s : State} {m : MethodId} {below : List Frame} {meth : Method} {c : Code} (l : Launch) (hflags : l.flags = flags0) {b L : Nat} {xs : Nat → Int32} (hL : L ≤ 6) (C0 : lw_At p s m meth c b L xs) : W p l e room_1 s m #[Value.ref b] below meth c s.heap [] 0 0 (lw_Z below #[Value.ref b] s) (entryFrame m ([Value.ref b] : List Value).toArray 7) := by
  have hfl : l.stackTraces = false := by
    unfold Launch.stackTraces
    rw [hflags]
    decide +kernel
  exact mc_walk l hL C0 fun G hbase C SA S hSA hS => mc_ledcase C hbase hfl (mc_TW_of C0.2.2.2.2.2.1) (mc_TZ_of hbase C0.2.2.2.2.2.1 C0.2.2.2.2.2.2.2.2.2) SA S hSA hS
end
section
set_option maxHeartbeats 4000000 in
theorem lw_walk (l : Launch) (hflags : l.flags = flags0) (b : Addr) (xs : List Int32) : MetFree l x (headSpec (Jvm.Cond.code x code maxLocals ret :: tables_1) room_1) (lw_P b xs) (fun _ _ _ _ _ => True) lw_Q := by
  refine MetFree.of_bodyS (code := code) (maxLocals := maxLocals) (ret := ret) (by decide) ?_ ?_
  · intro args s m h hn
    obtain ⟨meth, c, h1, h2, h3, h4, h5, h6, -, -⟩ := Cond.code_spec hn (atoms_spec (ws := Jvm.Cond.code x code maxLocals ret :: tables_1) h _ List.mem_cons_self)
    exact ⟨meth, c, h1, h2, h3, h4, h5, h6⟩
  · intro p e s m args below meth c s₁ B hml0 hP _
    obtain ⟨rfl, hx, hbd, hgv⟩ := hP
    obtain ⟨scr, harrAt, hlist, hof, hsmall⟩ := hx
    obtain ⟨hcb, hkn, -, -⟩ := State.arrayAt?_spec harrAt
    have hown : s.vm.findClass R_law = some m.cls := findClass_of_methodNamed B.named
    have hts0 : ∀ c ∈ (Jvm.Cond.code x code maxLocals ret :: tables_1), c.before #[Value.ref b] s = true := atoms_spec (ws := Jvm.Cond.code x code maxLocals ret :: tables_1) B.pre
    have hts : ∀ w ∈ lw_tbl, w.before #[Value.ref b] s = true := k2_hts_sels lw_privs (fun w hw => hts0 w (List.mem_cons_of_mem _ hw)) lw_privs_ok
    have hml : c.maxLocals = 7 := B.maxLocals_eq (hts0 _ List.mem_cons_self)
    have X₀ : Stand p l e room_1 s m #[Value.ref b] below meth c s₁ [] 0 0 := Stand.of_body B
    have hh0 : s₁.heap = s.heap := by rw [B.state]; rfl
    have hsz : scr.slots.size = xs.length := by rw [← Array.length_toList, hlist, List.length_map]
    have hval : ∀ j : Nat, j < xs.length → scr.slots[j]? = some (.int (xs.getD j 0)) := fun j hj => by
      rw [← Array.getElem?_toList, hlist]
      simp [hj]
    have hbl : b < s.heap.size := (Array.getElem?_eq_some_iff.mp hcb).1
    have hX : va_X b xs.length (fun j => xs.getD j 0) s s.heap := ⟨scr, hcb, hof, hkn, hsz, hval⟩
    have K : W p l e room_1 s m #[Value.ref b] below meth c s₁.heap [] 0 0 (lw_Z below #[Value.ref b] s) (entryFrame m ([Value.ref b] : List Value).toArray 7) := by
      rw [hh0]
      exact whole_start l hflags hbd ⟨B.exec, B.bytes, B.returns, hml, hown, hts, hX, hbl, B.notSynchronized, hgv⟩
    obtain ⟨t, a1, o, b1, b2, b3⟩ := K s₁ rfl X₀
    exact ⟨t, o, a1, b1, b2, b3⟩
theorem lw_pre_spec {args : Array Value} {s : State} (h : (Jvm.Cond.and given_1 narrow_1).before args s = true) (hr : rest_1_c.before args s = true) : ∃ (b : Addr) (xs : List Int32), lw_P b xs args s := by
  have hs := flat_of_before _ h
  have hq := flat_of_before _ hr
  have hc : (Cond.count 1).before args s = true := hs _ (by decide +kernel)
  have harr : (Cond.arrayOf (.arg 0) .int).before args s = true := hs _ (by decide +kernel)
  have hle : (Cond.le (.length (.arg 0)) (.int 6)).before args s = true := hs _ (by decide +kernel)
  have hlen : (Cond.isInt (.length (.arg 0))).before args s = true := hq _ (by decide +kernel)
  have hall : (Cond.all (.arg 0) (.isInt (.elem (.arg 0) (.index 0)))).before args s = true := hq _ (by decide +kernel)
  obtain ⟨b, xs, hb, hx⟩ := State.ints_of_pre rfl harr hlen hall
  have hsm : xs.length < 2 ^ 31 := hx.choose_spec.2.2.2
  have hev : (Term.length (.arg 0)).eval args s none [] s = some (.int xs.length.toInt32) := hx.length_eval hb
  have hv := Cond.le_ints hev (show (Term.int 6).eval args s none [] s = some (.int 6) from rfl)
  have hd : xs.length.toInt32 ≤ 6 := by
    simpa [Cond.before, Cond.holds, hv] using hle
  have hN : xs.length ≤ 6 := (Int32.ofNat_le_ofNat hsm (by decide)).mp (show Int32.ofNat xs.length ≤ Int32.ofNat 6 from hd)
  exact ⟨b, xs, Cond.one_arg hc (show args[0]? = some (.ref b) from hb), hx, hN, h⟩
theorem lw_comes (l : Launch) (hflags : l.flags = flags0) : Comes l x (Jvm.Cond.code x code maxLocals ret :: tables_1) room_1 (fun tb e args s => Calls_1 tb e args s ∧ rest_1 tb e args s ∧ Pre_1 tb e args s)
    (fun _ _ args s o t => lw_Q args s o t) := by
  intro p e ha hc hk s m args below hf hfit hheap happ hpre
  obtain ⟨b, xs, hP⟩ := lw_pre_spec hpre.2.2 hpre.2.1
  obtain ⟨k, o, h1, h2, h3, hQ⟩ := lw_walk l hflags b xs p e ha hc hk s m args below hf ((Spec.applies_iff_loose hf).mp happ).1 hP trivial
  exact ⟨k, o, h1, h2, h3, hQ⟩
theorem lw_frame {s t : State} {o : Outcome} {args : Array Value} (h : Framed s o t [] 600002 7302232) :
    Framed s o t (fieldLocs frame_1_writes args s ++ arrayLocs frame_1_arrays args s ++ staticLocs frame_1_statics s) 600002 7302232 := h
theorem lw_limb (L : Cond) (hL : ∀ (args : Array Value) (s t : State), L.after args s (.returned (some (.int 1))) t = true) :
    ArmFor flags0 classFile x code maxLocals ret World_1 tables_1 room_1 Calls_1 rest_1 Pre_1
      (fun tb e a s o t => postC L tb e a s o t ∧ Framed s o t (fieldLocs frame_1_writes a s ++ arrayLocs frame_1_arrays a s ++ staticLocs frame_1_statics s) 600002 7302232) := by
  intro l hflags _ _ p e ha hc hk s m args below hf hfit hheap happ hpre
  obtain ⟨k, o, h1, h2, h3, rfl, hF⟩ := lw_comes l hflags p e ha hc hk s m args below hf hfit hheap happ hpre
  exact ⟨k, _, h1, h2, h3, hL args s _, lw_frame hF⟩
end
section
theorem i_vc : Claimed_1_1 ∧ Claimed_1_2 := ⟨lw_limb limb_1_1 (fun args s t => by simp [limb_1_1, Cond.after, Cond.holds, Cond.value]), lw_limb limb_1_2 (fun args s t => Cond.after_iff.mpr (by
  first | (rw [show limb_1_2 = Cond.eq .result (.int 1) from rfl, Cond.eq_ints (x := 1) (y := 1) rfl rfl]; simp; done) | (simp [limb_1_2, Cond.value, Term.eval]; done)))⟩
end
