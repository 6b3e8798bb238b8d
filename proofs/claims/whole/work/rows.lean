section
-- ===== PART A: goes FIRST, ahead of the names: the tables' words, and 'selects' of the private methods out of them =====
/-- a private method of a class that the tables say can be made, by its rows of tables_1 -/
def lw_okq (q : MethodName × Nat) : Prop := (q.1.cls ≠ "java/lang/invoke/MethodHandle" ∧ q.1.cls ≠ "java/lang/invoke/VarHandle") ∧ Cond.instantiable q.1.cls q.2 ∈ tables_1 ∧ Cond.privateMethod q.1 ∈ tables_1 ∧ Cond.instanceMethod q.1 ∈ tables_1
theorem lw_p0 : lw_okq (⟨"RaceWatch$Kept", "forgetReads", "()V"⟩, 10) := ⟨⟨by decide +kernel, by decide +kernel⟩, List.mem_of_getElem? (i := 46) (by decide +kernel), List.mem_of_getElem? (i := 154) (by decide +kernel), List.mem_of_getElem? (i := 155) (by decide +kernel)⟩
theorem lw_p1 : lw_okq (⟨"RaceWatch$Telling", "faultOfFigure", "(I)I"⟩, 11) := ⟨⟨by decide +kernel, by decide +kernel⟩, List.mem_of_getElem? (i := 194) (by decide +kernel), List.mem_of_getElem? (i := 293) (by decide +kernel), List.mem_of_getElem? (i := 294) (by decide +kernel)⟩
theorem lw_p2 : lw_okq (⟨"RaceWatch$Telling", "tellThread", "(ILRaceWatch$World;)I"⟩, 11) := ⟨⟨by decide +kernel, by decide +kernel⟩, List.mem_of_getElem? (i := 194) (by decide +kernel), List.mem_of_getElem? (i := 300) (by decide +kernel), List.mem_of_getElem? (i := 301) (by decide +kernel)⟩
theorem lw_p3 : lw_okq (⟨"RaceWatch$Telling", "open", "(I)V"⟩, 11) := ⟨⟨by decide +kernel, by decide +kernel⟩, List.mem_of_getElem? (i := 194) (by decide +kernel), List.mem_of_getElem? (i := 308) (by decide +kernel), List.mem_of_getElem? (i := 309) (by decide +kernel)⟩
theorem lw_p4 : lw_okq (⟨"RaceWatch$Telling", "tellEvent", "(ILRaceWatch$World;)I"⟩, 11) := ⟨⟨by decide +kernel, by decide +kernel⟩, List.mem_of_getElem? (i := 194) (by decide +kernel), List.mem_of_getElem? (i := 312) (by decide +kernel), List.mem_of_getElem? (i := 313) (by decide +kernel)⟩
theorem lw_p5 : lw_okq (⟨"RaceWatch$World", "locksOf", "(I)I"⟩, 7) := ⟨⟨by decide +kernel, by decide +kernel⟩, List.mem_of_getElem? (i := 21) (by decide +kernel), List.mem_of_getElem? (i := 325) (by decide +kernel), List.mem_of_getElem? (i := 326) (by decide +kernel)⟩
theorem lw_p6 : lw_okq (⟨"RaceWatch$World", "takeIn", "(III)V"⟩, 7) := ⟨⟨by decide +kernel, by decide +kernel⟩, List.mem_of_getElem? (i := 21) (by decide +kernel), List.mem_of_getElem? (i := 344) (by decide +kernel), List.mem_of_getElem? (i := 345) (by decide +kernel)⟩
theorem lw_p7 : lw_okq (⟨"RaceWatch$Log", "kindOfPair", "(II)I"⟩, 8) := ⟨⟨by decide +kernel, by decide +kernel⟩, List.mem_of_getElem? (i := 94) (by decide +kernel), List.mem_of_getElem? (i := 369) (by decide +kernel), List.mem_of_getElem? (i := 370) (by decide +kernel)⟩
theorem lw_p8 : lw_okq (⟨"RaceWatch$Log", "isAccess", "(I)Z"⟩, 8) := ⟨⟨by decide +kernel, by decide +kernel⟩, List.mem_of_getElem? (i := 94) (by decide +kernel), List.mem_of_getElem? (i := 373) (by decide +kernel), List.mem_of_getElem? (i := 374) (by decide +kernel)⟩
theorem lw_p9 : lw_okq (⟨"RaceWatch$Kept", "readsAreAhead", "(LRaceWatch$Clocks;I)Z"⟩, 10) := ⟨⟨by decide +kernel, by decide +kernel⟩, List.mem_of_getElem? (i := 46) (by decide +kernel), List.mem_of_getElem? (i := 391) (by decide +kernel), List.mem_of_getElem? (i := 392) (by decide +kernel)⟩
theorem lw_p10 : lw_okq (⟨"RaceWatch$Kept", "keepRead", "(LRaceWatch$Clocks;I)V"⟩, 10) := ⟨⟨by decide +kernel, by decide +kernel⟩, List.mem_of_getElem? (i := 46) (by decide +kernel), List.mem_of_getElem? (i := 395) (by decide +kernel), List.mem_of_getElem? (i := 396) (by decide +kernel)⟩
theorem lw_p11 : lw_okq (⟨"RaceWatch$Kept", "share", "(II)V"⟩, 10) := ⟨⟨by decide +kernel, by decide +kernel⟩, List.mem_of_getElem? (i := 46) (by decide +kernel), List.mem_of_getElem? (i := 399) (by decide +kernel), List.mem_of_getElem? (i := 400) (by decide +kernel)⟩
theorem lw_p12 : lw_okq (⟨"RaceWatch$World", "handOn", "(III)V"⟩, 7) := ⟨⟨by decide +kernel, by decide +kernel⟩, List.mem_of_getElem? (i := 21) (by decide +kernel), List.mem_of_getElem? (i := 403) (by decide +kernel), List.mem_of_getElem? (i := 404) (by decide +kernel)⟩
theorem lw_p13 : lw_okq (⟨"RaceWatch$World", "makeStep", "(I)V"⟩, 7) := ⟨⟨by decide +kernel, by decide +kernel⟩, List.mem_of_getElem? (i := 21) (by decide +kernel), List.mem_of_getElem? (i := 408) (by decide +kernel), List.mem_of_getElem? (i := 409) (by decide +kernel)⟩
theorem lw_p14 : lw_okq (⟨"RaceWatch$Telling", "shutLast", "(LRaceWatch$World;)V"⟩, 11) := ⟨⟨by decide +kernel, by decide +kernel⟩, List.mem_of_getElem? (i := 194) (by decide +kernel), List.mem_of_getElem? (i := 420) (by decide +kernel), List.mem_of_getElem? (i := 421) (by decide +kernel)⟩
theorem lw_p15 : lw_okq (⟨"RaceWatch$Telling", "tellSign", "(I)I"⟩, 11) := ⟨⟨by decide +kernel, by decide +kernel⟩, List.mem_of_getElem? (i := 194) (by decide +kernel), List.mem_of_getElem? (i := 424) (by decide +kernel), List.mem_of_getElem? (i := 425) (by decide +kernel)⟩
def lw_privs_1 : List (MethodName × Nat) := [(⟨"RaceWatch$Kept", "forgetReads", "()V"⟩, 10), (⟨"RaceWatch$Telling", "faultOfFigure", "(I)I"⟩, 11), (⟨"RaceWatch$Telling", "tellThread", "(ILRaceWatch$World;)I"⟩, 11), (⟨"RaceWatch$Telling", "open", "(I)V"⟩, 11), (⟨"RaceWatch$Telling", "tellEvent", "(ILRaceWatch$World;)I"⟩, 11), (⟨"RaceWatch$World", "locksOf", "(I)I"⟩, 7), (⟨"RaceWatch$World", "takeIn", "(III)V"⟩, 7), (⟨"RaceWatch$Log", "kindOfPair", "(II)I"⟩, 8), (⟨"RaceWatch$Log", "isAccess", "(I)Z"⟩, 8), (⟨"RaceWatch$Kept", "readsAreAhead", "(LRaceWatch$Clocks;I)Z"⟩, 10), (⟨"RaceWatch$Kept", "keepRead", "(LRaceWatch$Clocks;I)V"⟩, 10), (⟨"RaceWatch$Kept", "share", "(II)V"⟩, 10), (⟨"RaceWatch$World", "handOn", "(III)V"⟩, 7), (⟨"RaceWatch$World", "makeStep", "(I)V"⟩, 7), (⟨"RaceWatch$Telling", "shutLast", "(LRaceWatch$World;)V"⟩, 11), (⟨"RaceWatch$Telling", "tellSign", "(I)I"⟩, 11)]
theorem lw_r1 : ∀ q ∈ lw_privs_1, lw_okq q := List.forall_mem_cons.mpr ⟨lw_p0, List.forall_mem_cons.mpr ⟨lw_p1, List.forall_mem_cons.mpr ⟨lw_p2, List.forall_mem_cons.mpr ⟨lw_p3, List.forall_mem_cons.mpr ⟨lw_p4, List.forall_mem_cons.mpr ⟨lw_p5, List.forall_mem_cons.mpr ⟨lw_p6, List.forall_mem_cons.mpr ⟨lw_p7, List.forall_mem_cons.mpr ⟨lw_p8, List.forall_mem_cons.mpr ⟨lw_p9, List.forall_mem_cons.mpr ⟨lw_p10, List.forall_mem_cons.mpr ⟨lw_p11, List.forall_mem_cons.mpr ⟨lw_p12, List.forall_mem_cons.mpr ⟨lw_p13, List.forall_mem_cons.mpr ⟨lw_p14, List.forall_mem_cons.mpr ⟨lw_p15, fun _ h => absurd h List.not_mem_nil⟩⟩⟩⟩⟩⟩⟩⟩⟩⟩⟩⟩⟩⟩⟩⟩
theorem lw_p16 : lw_okq (⟨"RaceWatch", "refusalOf", "(III)I"⟩, 4) := ⟨⟨by decide +kernel, by decide +kernel⟩, List.mem_of_getElem? (i := 13) (by decide +kernel), List.mem_of_getElem? (i := 439) (by decide +kernel), List.mem_of_getElem? (i := 440) (by decide +kernel)⟩
theorem lw_p17 : lw_okq (⟨"RaceWatch$Log", "earlierOf", "(II)I"⟩, 8) := ⟨⟨by decide +kernel, by decide +kernel⟩, List.mem_of_getElem? (i := 94) (by decide +kernel), List.mem_of_getElem? (i := 540) (by decide +kernel), List.mem_of_getElem? (i := 541) (by decide +kernel)⟩
theorem lw_p18 : lw_okq (⟨"RaceWatchModel", "clear", "()V"⟩, 14) := ⟨⟨by decide +kernel, by decide +kernel⟩, List.mem_of_getElem? (i := 589) (by decide +kernel), List.mem_of_getElem? (i := 595) (by decide +kernel), List.mem_of_getElem? (i := 596) (by decide +kernel)⟩
theorem lw_p19 : lw_okq (⟨"RaceWatchModel", "can", "(III)Z"⟩, 14) := ⟨⟨by decide +kernel, by decide +kernel⟩, List.mem_of_getElem? (i := 589) (by decide +kernel), List.mem_of_getElem? (i := 676) (by decide +kernel), List.mem_of_getElem? (i := 677) (by decide +kernel)⟩
theorem lw_p20 : lw_okq (⟨"RaceWatchModel", "held", "(I)I"⟩, 14) := ⟨⟨by decide +kernel, by decide +kernel⟩, List.mem_of_getElem? (i := 589) (by decide +kernel), List.mem_of_getElem? (i := 680) (by decide +kernel), List.mem_of_getElem? (i := 681) (by decide +kernel)⟩
theorem lw_p21 : lw_okq (⟨"RaceWatchModel", "isMuch", "(I)Z"⟩, 14) := ⟨⟨by decide +kernel, by decide +kernel⟩, List.mem_of_getElem? (i := 589) (by decide +kernel), List.mem_of_getElem? (i := 689) (by decide +kernel), List.mem_of_getElem? (i := 690) (by decide +kernel)⟩
theorem lw_p22 : lw_okq (⟨"RaceWatchModel", "number", "(II)I"⟩, 14) := ⟨⟨by decide +kernel, by decide +kernel⟩, List.mem_of_getElem? (i := 589) (by decide +kernel), List.mem_of_getElem? (i := 693) (by decide +kernel), List.mem_of_getElem? (i := 694) (by decide +kernel)⟩
theorem lw_p23 : lw_okq (⟨"RaceWatchModel", "comes", "(III)V"⟩, 14) := ⟨⟨by decide +kernel, by decide +kernel⟩, List.mem_of_getElem? (i := 589) (by decide +kernel), List.mem_of_getElem? (i := 699) (by decide +kernel), List.mem_of_getElem? (i := 700) (by decide +kernel)⟩
theorem lw_p24 : lw_okq (⟨"RaceWatchModel", "accesses", "(IIZ)V"⟩, 14) := ⟨⟨by decide +kernel, by decide +kernel⟩, List.mem_of_getElem? (i := 589) (by decide +kernel), List.mem_of_getElem? (i := 703) (by decide +kernel), List.mem_of_getElem? (i := 704) (by decide +kernel)⟩
theorem lw_p25 : lw_okq (⟨"RaceWatchModel", "kindOf", "(IIZ)I"⟩, 14) := ⟨⟨by decide +kernel, by decide +kernel⟩, List.mem_of_getElem? (i := 589) (by decide +kernel), List.mem_of_getElem? (i := 707) (by decide +kernel), List.mem_of_getElem? (i := 708) (by decide +kernel)⟩
theorem lw_p26 : lw_okq (⟨"RaceWatchModel", "reads", "(II)V"⟩, 14) := ⟨⟨by decide +kernel, by decide +kernel⟩, List.mem_of_getElem? (i := 589) (by decide +kernel), List.mem_of_getElem? (i := 711) (by decide +kernel), List.mem_of_getElem? (i := 712) (by decide +kernel)⟩
theorem lw_p27 : lw_okq (⟨"RaceWatchModel", "joins", "(II)V"⟩, 14) := ⟨⟨by decide +kernel, by decide +kernel⟩, List.mem_of_getElem? (i := 589) (by decide +kernel), List.mem_of_getElem? (i := 715) (by decide +kernel), List.mem_of_getElem? (i := 716) (by decide +kernel)⟩
theorem lw_p28 : lw_okq (⟨"RaceWatchModel", "writes", "(III)V"⟩, 14) := ⟨⟨by decide +kernel, by decide +kernel⟩, List.mem_of_getElem? (i := 589) (by decide +kernel), List.mem_of_getElem? (i := 719) (by decide +kernel), List.mem_of_getElem? (i := 720) (by decide +kernel)⟩
theorem lw_p29 : lw_okq (⟨"RaceWatchModel", "steps", "(I)V"⟩, 14) := ⟨⟨by decide +kernel, by decide +kernel⟩, List.mem_of_getElem? (i := 589) (by decide +kernel), List.mem_of_getElem? (i := 723) (by decide +kernel), List.mem_of_getElem? (i := 724) (by decide +kernel)⟩
theorem lw_p30 : lw_okq (⟨"RaceWatchModel", "draw", "(I)I"⟩, 14) := ⟨⟨by decide +kernel, by decide +kernel⟩, List.mem_of_getElem? (i := 589) (by decide +kernel), List.mem_of_getElem? (i := 738) (by decide +kernel), List.mem_of_getElem? (i := 739) (by decide +kernel)⟩
theorem lw_p31 : lw_okq (⟨"RaceWatchModel", "here", "()I"⟩, 14) := ⟨⟨by decide +kernel, by decide +kernel⟩, List.mem_of_getElem? (i := 589) (by decide +kernel), List.mem_of_getElem? (i := 753) (by decide +kernel), List.mem_of_getElem? (i := 754) (by decide +kernel)⟩
def lw_privs_2 : List (MethodName × Nat) := [(⟨"RaceWatch", "refusalOf", "(III)I"⟩, 4), (⟨"RaceWatch$Log", "earlierOf", "(II)I"⟩, 8), (⟨"RaceWatchModel", "clear", "()V"⟩, 14), (⟨"RaceWatchModel", "can", "(III)Z"⟩, 14), (⟨"RaceWatchModel", "held", "(I)I"⟩, 14), (⟨"RaceWatchModel", "isMuch", "(I)Z"⟩, 14), (⟨"RaceWatchModel", "number", "(II)I"⟩, 14), (⟨"RaceWatchModel", "comes", "(III)V"⟩, 14), (⟨"RaceWatchModel", "accesses", "(IIZ)V"⟩, 14), (⟨"RaceWatchModel", "kindOf", "(IIZ)I"⟩, 14), (⟨"RaceWatchModel", "reads", "(II)V"⟩, 14), (⟨"RaceWatchModel", "joins", "(II)V"⟩, 14), (⟨"RaceWatchModel", "writes", "(III)V"⟩, 14), (⟨"RaceWatchModel", "steps", "(I)V"⟩, 14), (⟨"RaceWatchModel", "draw", "(I)I"⟩, 14), (⟨"RaceWatchModel", "here", "()I"⟩, 14)]
theorem lw_r2 : ∀ q ∈ lw_privs_2, lw_okq q := List.forall_mem_cons.mpr ⟨lw_p16, List.forall_mem_cons.mpr ⟨lw_p17, List.forall_mem_cons.mpr ⟨lw_p18, List.forall_mem_cons.mpr ⟨lw_p19, List.forall_mem_cons.mpr ⟨lw_p20, List.forall_mem_cons.mpr ⟨lw_p21, List.forall_mem_cons.mpr ⟨lw_p22, List.forall_mem_cons.mpr ⟨lw_p23, List.forall_mem_cons.mpr ⟨lw_p24, List.forall_mem_cons.mpr ⟨lw_p25, List.forall_mem_cons.mpr ⟨lw_p26, List.forall_mem_cons.mpr ⟨lw_p27, List.forall_mem_cons.mpr ⟨lw_p28, List.forall_mem_cons.mpr ⟨lw_p29, List.forall_mem_cons.mpr ⟨lw_p30, List.forall_mem_cons.mpr ⟨lw_p31, fun _ h => absurd h List.not_mem_nil⟩⟩⟩⟩⟩⟩⟩⟩⟩⟩⟩⟩⟩⟩⟩⟩
theorem lw_p32 : lw_okq (⟨"RaceWatchModel", "takesItem", "(I)Z"⟩, 14) := ⟨⟨by decide +kernel, by decide +kernel⟩, List.mem_of_getElem? (i := 589) (by decide +kernel), List.mem_of_getElem? (i := 757) (by decide +kernel), List.mem_of_getElem? (i := 758) (by decide +kernel)⟩
theorem lw_p33 : lw_okq (⟨"RaceWatchModel", "takesEnd", "()Z"⟩, 14) := ⟨⟨by decide +kernel, by decide +kernel⟩, List.mem_of_getElem? (i := 589) (by decide +kernel), List.mem_of_getElem? (i := 761) (by decide +kernel), List.mem_of_getElem? (i := 762) (by decide +kernel)⟩
theorem lw_p34 : lw_okq (⟨"RaceWatchModel", "fails", "(I)Z"⟩, 14) := ⟨⟨by decide +kernel, by decide +kernel⟩, List.mem_of_getElem? (i := 589) (by decide +kernel), List.mem_of_getElem? (i := 765) (by decide +kernel), List.mem_of_getElem? (i := 766) (by decide +kernel)⟩
theorem lw_p35 : lw_okq (⟨"RaceWatchModel", "shuts", "()V"⟩, 14) := ⟨⟨by decide +kernel, by decide +kernel⟩, List.mem_of_getElem? (i := 589) (by decide +kernel), List.mem_of_getElem? (i := 769) (by decide +kernel), List.mem_of_getElem? (i := 770) (by decide +kernel)⟩
theorem lw_p36 : lw_okq (⟨"RaceWatchModel", "notes", "(II)V"⟩, 14) := ⟨⟨by decide +kernel, by decide +kernel⟩, List.mem_of_getElem? (i := 589) (by decide +kernel), List.mem_of_getElem? (i := 773) (by decide +kernel), List.mem_of_getElem? (i := 774) (by decide +kernel)⟩
theorem lw_p37 : lw_okq (⟨"RaceWatchModel", "takesRegion", "()Z"⟩, 14) := ⟨⟨by decide +kernel, by decide +kernel⟩, List.mem_of_getElem? (i := 589) (by decide +kernel), List.mem_of_getElem? (i := 780) (by decide +kernel), List.mem_of_getElem? (i := 781) (by decide +kernel)⟩
theorem lw_p38 : lw_okq (⟨"RaceWatchModel", "takesFigure", "(I)Z"⟩, 14) := ⟨⟨by decide +kernel, by decide +kernel⟩, List.mem_of_getElem? (i := 589) (by decide +kernel), List.mem_of_getElem? (i := 784) (by decide +kernel), List.mem_of_getElem? (i := 785) (by decide +kernel)⟩
theorem lw_p39 : lw_okq (⟨"RaceWatchModel", "did", "(I)Z"⟩, 14) := ⟨⟨by decide +kernel, by decide +kernel⟩, List.mem_of_getElem? (i := 589) (by decide +kernel), List.mem_of_getElem? (i := 790) (by decide +kernel), List.mem_of_getElem? (i := 791) (by decide +kernel)⟩
theorem lw_p40 : lw_okq (⟨"RaceWatchModel", "opens", "(II)V"⟩, 14) := ⟨⟨by decide +kernel, by decide +kernel⟩, List.mem_of_getElem? (i := 589) (by decide +kernel), List.mem_of_getElem? (i := 794) (by decide +kernel), List.mem_of_getElem? (i := 795) (by decide +kernel)⟩
theorem lw_p41 : lw_okq (⟨"RaceWatchModel", "takes", "(I)Z"⟩, 14) := ⟨⟨by decide +kernel, by decide +kernel⟩, List.mem_of_getElem? (i := 589) (by decide +kernel), List.mem_of_getElem? (i := 798) (by decide +kernel), List.mem_of_getElem? (i := 799) (by decide +kernel)⟩
theorem lw_p42 : lw_okq (⟨"RaceWatchModel", "takesTurn", "()Z"⟩, 14) := ⟨⟨by decide +kernel, by decide +kernel⟩, List.mem_of_getElem? (i := 589) (by decide +kernel), List.mem_of_getElem? (i := 802) (by decide +kernel), List.mem_of_getElem? (i := 803) (by decide +kernel)⟩
theorem lw_p43 : lw_okq (⟨"RaceWatchModel", "whoIs", "(I)I"⟩, 14) := ⟨⟨by decide +kernel, by decide +kernel⟩, List.mem_of_getElem? (i := 589) (by decide +kernel), List.mem_of_getElem? (i := 814) (by decide +kernel), List.mem_of_getElem? (i := 815) (by decide +kernel)⟩
theorem lw_p44 : lw_okq (⟨"RaceWatchModel", "locksHeld", "()I"⟩, 14) := ⟨⟨by decide +kernel, by decide +kernel⟩, List.mem_of_getElem? (i := 589) (by decide +kernel), List.mem_of_getElem? (i := 818) (by decide +kernel), List.mem_of_getElem? (i := 819) (by decide +kernel)⟩
theorem lw_p45 : lw_okq (⟨"RaceWatchModel", "cellsRaced", "()I"⟩, 14) := ⟨⟨by decide +kernel, by decide +kernel⟩, List.mem_of_getElem? (i := 589) (by decide +kernel), List.mem_of_getElem? (i := 822) (by decide +kernel), List.mem_of_getElem? (i := 823) (by decide +kernel)⟩
theorem lw_p46 : lw_okq (⟨"RaceWatchModel", "racesOf", "(II)I"⟩, 14) := ⟨⟨by decide +kernel, by decide +kernel⟩, List.mem_of_getElem? (i := 589) (by decide +kernel), List.mem_of_getElem? (i := 826) (by decide +kernel), List.mem_of_getElem? (i := 827) (by decide +kernel)⟩
theorem lw_p47 : lw_okq (⟨"RaceWatchModel", "isAccess", "(II)Z"⟩, 14) := ⟨⟨by decide +kernel, by decide +kernel⟩, List.mem_of_getElem? (i := 589) (by decide +kernel), List.mem_of_getElem? (i := 830) (by decide +kernel), List.mem_of_getElem? (i := 831) (by decide +kernel)⟩
def lw_privs_3 : List (MethodName × Nat) := [(⟨"RaceWatchModel", "takesItem", "(I)Z"⟩, 14), (⟨"RaceWatchModel", "takesEnd", "()Z"⟩, 14), (⟨"RaceWatchModel", "fails", "(I)Z"⟩, 14), (⟨"RaceWatchModel", "shuts", "()V"⟩, 14), (⟨"RaceWatchModel", "notes", "(II)V"⟩, 14), (⟨"RaceWatchModel", "takesRegion", "()Z"⟩, 14), (⟨"RaceWatchModel", "takesFigure", "(I)Z"⟩, 14), (⟨"RaceWatchModel", "did", "(I)Z"⟩, 14), (⟨"RaceWatchModel", "opens", "(II)V"⟩, 14), (⟨"RaceWatchModel", "takes", "(I)Z"⟩, 14), (⟨"RaceWatchModel", "takesTurn", "()Z"⟩, 14), (⟨"RaceWatchModel", "whoIs", "(I)I"⟩, 14), (⟨"RaceWatchModel", "locksHeld", "()I"⟩, 14), (⟨"RaceWatchModel", "cellsRaced", "()I"⟩, 14), (⟨"RaceWatchModel", "racesOf", "(II)I"⟩, 14), (⟨"RaceWatchModel", "isAccess", "(II)Z"⟩, 14)]
theorem lw_r3 : ∀ q ∈ lw_privs_3, lw_okq q := List.forall_mem_cons.mpr ⟨lw_p32, List.forall_mem_cons.mpr ⟨lw_p33, List.forall_mem_cons.mpr ⟨lw_p34, List.forall_mem_cons.mpr ⟨lw_p35, List.forall_mem_cons.mpr ⟨lw_p36, List.forall_mem_cons.mpr ⟨lw_p37, List.forall_mem_cons.mpr ⟨lw_p38, List.forall_mem_cons.mpr ⟨lw_p39, List.forall_mem_cons.mpr ⟨lw_p40, List.forall_mem_cons.mpr ⟨lw_p41, List.forall_mem_cons.mpr ⟨lw_p42, List.forall_mem_cons.mpr ⟨lw_p43, List.forall_mem_cons.mpr ⟨lw_p44, List.forall_mem_cons.mpr ⟨lw_p45, List.forall_mem_cons.mpr ⟨lw_p46, List.forall_mem_cons.mpr ⟨lw_p47, fun _ h => absurd h List.not_mem_nil⟩⟩⟩⟩⟩⟩⟩⟩⟩⟩⟩⟩⟩⟩⟩⟩
theorem lw_p48 : lw_okq (⟨"RaceWatchModel", "kindBy", "(III)I"⟩, 14) := ⟨⟨by decide +kernel, by decide +kernel⟩, List.mem_of_getElem? (i := 589) (by decide +kernel), List.mem_of_getElem? (i := 834) (by decide +kernel), List.mem_of_getElem? (i := 835) (by decide +kernel)⟩
theorem lw_p49 : lw_okq (⟨"RaceWatchModel", "isAhead", "(II)Z"⟩, 14) := ⟨⟨by decide +kernel, by decide +kernel⟩, List.mem_of_getElem? (i := 589) (by decide +kernel), List.mem_of_getElem? (i := 838) (by decide +kernel), List.mem_of_getElem? (i := 839) (by decide +kernel)⟩
theorem lw_p50 : lw_okq (⟨"RaceWatchModel", "overCells", "(Z)I"⟩, 14) := ⟨⟨by decide +kernel, by decide +kernel⟩, List.mem_of_getElem? (i := 589) (by decide +kernel), List.mem_of_getElem? (i := 842) (by decide +kernel), List.mem_of_getElem? (i := 843) (by decide +kernel)⟩
theorem lw_p51 : lw_okq (⟨"RaceWatchModel", "isEvent", "(I)Z"⟩, 14) := ⟨⟨by decide +kernel, by decide +kernel⟩, List.mem_of_getElem? (i := 589) (by decide +kernel), List.mem_of_getElem? (i := 854) (by decide +kernel), List.mem_of_getElem? (i := 855) (by decide +kernel)⟩
def lw_privs_4 : List (MethodName × Nat) := [(⟨"RaceWatchModel", "kindBy", "(III)I"⟩, 14), (⟨"RaceWatchModel", "isAhead", "(II)Z"⟩, 14), (⟨"RaceWatchModel", "overCells", "(Z)I"⟩, 14), (⟨"RaceWatchModel", "isEvent", "(I)Z"⟩, 14)]
theorem lw_r4 : ∀ q ∈ lw_privs_4, lw_okq q := List.forall_mem_cons.mpr ⟨lw_p48, List.forall_mem_cons.mpr ⟨lw_p49, List.forall_mem_cons.mpr ⟨lw_p50, List.forall_mem_cons.mpr ⟨lw_p51, fun _ h => absurd h List.not_mem_nil⟩⟩⟩⟩
def lw_privs : List (MethodName × Nat) := lw_privs_1 ++ (lw_privs_2 ++ (lw_privs_3 ++ (lw_privs_4)))
def lw_tbl : List Cond := k2_sels lw_privs ++ tables_1
theorem lw_privs_ok : ∀ q ∈ lw_privs, lw_okq q := by
  show ∀ q ∈ lw_privs_1 ++ (lw_privs_2 ++ (lw_privs_3 ++ (lw_privs_4))), lw_okq q
  exact List.forall_mem_append.mpr ⟨lw_r1, List.forall_mem_append.mpr ⟨lw_r2, List.forall_mem_append.mpr ⟨lw_r3, lw_r4⟩⟩⟩
end
section
/-! ===== BEGIN words of one list among another's, by their places ===== -/
theorem goodIn_r {big : List Cond} (ws : List Cond) (ps : List Nat) (hp : ws = ps.filterMap (fun i => big[i]?)) (h : ws.all goodWord = true) : GoodIn big ws := by
  intro w hw
  have h1 := List.all_eq_true.mp h w hw
  rw [hp] at hw
  obtain ⟨i, -, hi⟩ := List.mem_filterMap.mp hw
  have hm : w ∈ big := by first | exact List.mem_of_getElem? hi | exact List.getElem?_mem hi
  exact ⟨hm, good_of_word h1⟩
theorem goodIn_app {big a b : List Cond} (ha : GoodIn big a) (hb : GoodIn big b) : GoodIn big (a ++ b) := fun w h => (List.mem_append.mp h).elim (ha w) (hb w)
theorem goodIn_ca {big a b : List Cond} {c : Cond} (ha : GoodIn big (c :: a)) (hb : GoodIn big b) : GoodIn big (c :: (a ++ b)) := fun w h => (List.mem_cons.mp h).elim (fun e => ha w (List.mem_cons.mpr (Or.inl e))) (fun h => (List.mem_append.mp h).elim (fun h => ha w (List.mem_cons.mpr (Or.inr h))) (hb w))
theorem goodIn_sub {big ws : List Cond} (hm : ∀ w ∈ ws, w ∈ big) (h : ws.all goodWord = true) : GoodIn big ws := fun w hw => ⟨hm w hw, good_of_word (List.all_eq_true.mp h w hw)⟩
/-! ===== END ===== -/

/-! ===== BEGIN printed: names, fields, word lists, decode rows ===== -/
def RX0 : String := "RaceWatch$Book"
def TX0 : u_T := fun k => match k with
  | 0 => ("RaceWatch$Book", "count", "I", false)
  | 1 => ("RaceWatch$Book", "locks", "[I", true)
  | _ => ("RaceWatch$Book", "opened", "[I", true)
def tyX0 : Nat → FieldType := fun k => match k with
  | 0 => .int
  | 1 => .array .int
  | _ => .array .int
abbrev wsX00 : List Cond := u_ws RX0 TX0 3
theorem nmX0 : ∀ a, a < 3 → ∀ b, b < 3 → a ≠ b → (TX0 a).2.1 ≠ (TX0 b).2.1 := by decide +kernel
theorem tyX0_ok : ∀ k, k < 3 → parseFieldDescriptor (TX0 k).2.2.1 = some (tyX0 k) := by decide +kernel
abbrev cX0_init : ByteArray := prog_2_method_1_code
def yX0_init : MethodName := ⟨RX0, "<init>", "()V"⟩
abbrev cX0_enter : ByteArray := prog_2_method_2_code
def yX0_enter : MethodName := ⟨RX0, "enter", "(II)V"⟩
def RX1 : String := "RaceWatch$Clocks"
def TX1 : u_T := fun k => match k with
  | 0 => ("RaceWatch$Clocks", "rows", "I", true)
  | _ => ("RaceWatch$Clocks", "numbers", "[I", true)
def tyX1 : Nat → FieldType := fun k => match k with
  | 0 => .int
  | _ => .array .int
abbrev wsX10 : List Cond := u_ws RX1 TX1 2
theorem nmX1 : ∀ a, a < 2 → ∀ b, b < 2 → a ≠ b → (TX1 a).2.1 ≠ (TX1 b).2.1 := by decide +kernel
theorem tyX1_ok : ∀ k, k < 2 → parseFieldDescriptor (TX1 k).2.2.1 = some (tyX1 k) := by decide +kernel
abbrev cX1_init : ByteArray := prog_3_method_1_code
def yX1_init : MethodName := ⟨RX1, "<init>", "(I)V"⟩
abbrev cX1_number : ByteArray := prog_3_method_2_code
def yX1_number : MethodName := ⟨RX1, "number", "(II)I"⟩
abbrev cX1_set : ByteArray := prog_3_method_3_code
def yX1_set : MethodName := ⟨RX1, "set", "(III)V"⟩
abbrev cX1_join : ByteArray := prog_3_method_4_code
def yX1_join : MethodName := ⟨RX1, "join", "(ILRaceWatch$Clocks;I)V"⟩
abbrev cX1_copyRow : ByteArray := prog_3_method_5_code
def yX1_copyRow : MethodName := ⟨RX1, "copyRow", "(ILRaceWatch$Clocks;I)V"⟩
abbrev cX1_copyRows : ByteArray := prog_3_method_6_code
def yX1_copyRows : MethodName := ⟨RX1, "copyRows", "(LRaceWatch$Clocks;I)V"⟩
abbrev cX1_clear : ByteArray := prog_3_method_7_code
def yX1_clear : MethodName := ⟨RX1, "clear", "()V"⟩
def RX2 : String := "RaceWatch$Kept"
def TX2 : u_T := fun k => match k with
  | 0 => ("RaceWatch$Kept", "writer", "I", false)
  | 1 => ("RaceWatch$Kept", "writeNumber", "I", false)
  | 2 => ("RaceWatch$Kept", "reader", "I", false)
  | 3 => ("RaceWatch$Kept", "readNumber", "I", false)
  | 4 => ("RaceWatch$Kept", "isShared", "Z", false)
  | 5 => ("RaceWatch$Kept", "readNumbers", "[I", true)
  | 6 => ("RaceWatch$Kept", "promotions", "I", false)
  | 7 => ("RaceWatch$Kept", "firstEvent", "I", false)
  | 8 => ("RaceWatch$Kept", "firstKind", "I", false)
  | _ => ("RaceWatch$Kept", "guards", "I", false)
def tyX2 : Nat → FieldType := fun k => match k with
  | 0 => .int
  | 1 => .int
  | 2 => .int
  | 3 => .int
  | 4 => .boolean
  | 5 => .array .int
  | 6 => .int
  | 7 => .int
  | 8 => .int
  | _ => .int
abbrev wsX20 : List Cond := u_ws RX2 TX2 10
theorem nmX2 : ∀ a, a < 10 → ∀ b, b < 10 → a ≠ b → (TX2 a).2.1 ≠ (TX2 b).2.1 := by decide +kernel
theorem tyX2_ok : ∀ k, k < 10 → parseFieldDescriptor (TX2 k).2.2.1 = some (tyX2 k) := by decide +kernel
abbrev cX2_init : ByteArray := prog_4_method_1_code
def yX2_init : MethodName := ⟨RX2, "<init>", "()V"⟩
abbrev cX2_begin : ByteArray := prog_4_method_2_code
def yX2_begin : MethodName := ⟨RX2, "begin", "()V"⟩
abbrev cX2_copy : ByteArray := prog_4_method_3_code
def yX2_copy : MethodName := ⟨RX2, "copy", "(LRaceWatch$Kept;)V"⟩
abbrev cX2_kindOf : ByteArray := prog_4_method_4_code
def yX2_kindOf : MethodName := ⟨RX2, "kindOf", "(ZLRaceWatch$Clocks;I)I"⟩
abbrev cX2_access : ByteArray := prog_4_method_5_code
def yX2_access : MethodName := ⟨RX2, "access", "(ZLRaceWatch$Clocks;III)V"⟩
abbrev cX2_readsAreAhead : ByteArray := prog_4_method_6_code
def yX2_readsAreAhead : MethodName := ⟨RX2, "readsAreAhead", "(LRaceWatch$Clocks;I)Z"⟩
abbrev cX2_keepRead : ByteArray := prog_4_method_7_code
def yX2_keepRead : MethodName := ⟨RX2, "keepRead", "(LRaceWatch$Clocks;I)V"⟩
abbrev cX2_share : ByteArray := prog_4_method_8_code
def yX2_share : MethodName := ⟨RX2, "share", "(II)V"⟩
abbrev cX2_forgetReads : ByteArray := prog_4_method_9_code
def yX2_forgetReads : MethodName := ⟨RX2, "forgetReads", "()V"⟩
def RX3 : String := "RaceWatch$Log"
def TX3 : u_T := fun k => match k with
  | 0 => ("RaceWatch$Log", "count", "I", false)
  | 1 => ("RaceWatch$Log", "threads", "[I", true)
  | 2 => ("RaceWatch$Log", "sorts", "[I", true)
  | 3 => ("RaceWatch$Log", "withs", "[I", true)
  | 4 => ("RaceWatch$Log", "locks", "[I", true)
  | 5 => ("RaceWatch$Log", "clocks", "LRaceWatch$Clocks;", true)
  | 6 => ("RaceWatch$Log", "racesBehind", "[I", true)
  | _ => ("RaceWatch$Log", "raceCounts", "[I", true)
def tyX3 : Nat → FieldType := fun k => match k with
  | 0 => .int
  | 1 => .array .int
  | 2 => .array .int
  | 3 => .array .int
  | 4 => .array .int
  | 5 => .object "RaceWatch$Clocks"
  | 6 => .array .int
  | _ => .array .int
abbrev wsX30 : List Cond := u_ws RX3 TX3 8
theorem nmX3 : ∀ a, a < 8 → ∀ b, b < 8 → a ≠ b → (TX3 a).2.1 ≠ (TX3 b).2.1 := by decide +kernel
theorem tyX3_ok : ∀ k, k < 8 → parseFieldDescriptor (TX3 k).2.2.1 = some (tyX3 k) := by decide +kernel
abbrev cX3_init : ByteArray := prog_5_method_1_code
def yX3_init : MethodName := ⟨RX3, "<init>", "()V"⟩
abbrev cX3_begin : ByteArray := prog_5_method_2_code
def yX3_begin : MethodName := ⟨RX3, "begin", "()V"⟩
abbrev cX3_copy : ByteArray := prog_5_method_3_code
def yX3_copy : MethodName := ⟨RX3, "copy", "(LRaceWatch$Log;)V"⟩
abbrev cX3_hasRoom : ByteArray := prog_5_method_4_code
def yX3_hasRoom : MethodName := ⟨RX3, "hasRoom", "(I)Z"⟩
abbrev cX3_append : ByteArray := prog_5_method_5_code
def yX3_append : MethodName := ⟨RX3, "append", "(IIIILRaceWatch$Clocks;)I"⟩
abbrev cX3_isAhead : ByteArray := prog_5_method_6_code
def yX3_isAhead : MethodName := ⟨RX3, "isAhead", "(II)Z"⟩
abbrev cX3_racesOfCell : ByteArray := prog_5_method_7_code
def yX3_racesOfCell : MethodName := ⟨RX3, "racesOfCell", "(I)I"⟩
abbrev cX3_racesOfAll : ByteArray := prog_5_method_8_code
def yX3_racesOfAll : MethodName := ⟨RX3, "racesOfAll", "()I"⟩
abbrev cX3_cellsWithRace : ByteArray := prog_5_method_9_code
def yX3_cellsWithRace : MethodName := ⟨RX3, "cellsWithRace", "()I"⟩
abbrev cX3_partOfRace : ByteArray := prog_5_method_10_code
def yX3_partOfRace : MethodName := ⟨RX3, "partOfRace", "(III)I"⟩
abbrev cX3_earlierOf : ByteArray := prog_5_method_11_code
def yX3_earlierOf : MethodName := ⟨RX3, "earlierOf", "(II)I"⟩
abbrev cX3_countRaces : ByteArray := prog_5_method_12_code
def yX3_countRaces : MethodName := ⟨RX3, "countRaces", "(I)V"⟩
abbrev cX3_isAccess : ByteArray := prog_5_method_13_code
def yX3_isAccess : MethodName := ⟨RX3, "isAccess", "(I)Z"⟩
abbrev cX3_kindOfPair : ByteArray := prog_5_method_14_code
def yX3_kindOfPair : MethodName := ⟨RX3, "kindOfPair", "(II)I"⟩
def RX4 : String := "RaceWatch$Telling"
def TX4 : u_T := fun k => match k with
  | 0 => ("RaceWatch$Telling", "length", "I", false)
  | 1 => ("RaceWatch$Telling", "faultAt", "I", false)
  | 2 => ("RaceWatch$Telling", "book", "LRaceWatch$Book;", true)
  | 3 => ("RaceWatch$Telling", "letters", "[I", true)
  | 4 => ("RaceWatch$Telling", "due", "I", false)
  | 5 => ("RaceWatch$Telling", "item", "I", false)
  | 6 => ("RaceWatch$Telling", "threadAtIt", "I", false)
  | 7 => ("RaceWatch$Telling", "openRegions", "I", false)
  | 8 => ("RaceWatch$Telling", "depth", "I", false)
  | 9 => ("RaceWatch$Telling", "lockOf", "[I", true)
  | _ => ("RaceWatch$Telling", "threadBefore", "[I", true)
def tyX4 : Nat → FieldType := fun k => match k with
  | 0 => .int
  | 1 => .int
  | 2 => .object "RaceWatch$Book"
  | 3 => .array .int
  | 4 => .int
  | 5 => .int
  | 6 => .int
  | 7 => .int
  | 8 => .int
  | 9 => .array .int
  | _ => .array .int
abbrev wsX40 : List Cond := u_ws RX4 TX4 11
theorem nmX4 : ∀ a, a < 11 → ∀ b, b < 11 → a ≠ b → (TX4 a).2.1 ≠ (TX4 b).2.1 := by decide +kernel
theorem tyX4_ok : ∀ k, k < 11 → parseFieldDescriptor (TX4 k).2.2.1 = some (tyX4 k) := by decide +kernel
abbrev cX4_init : ByteArray := prog_6_method_1_code
def yX4_init : MethodName := ⟨RX4, "<init>", "()V"⟩
abbrev cX4_append : ByteArray := prog_6_method_2_code
def yX4_append : MethodName := ⟨RX4, "append", "(I)I"⟩
abbrev cX4_tell : ByteArray := prog_6_method_3_code
def yX4_tell : MethodName := ⟨RX4, "tell", "(LRaceWatch$World;)I"⟩
abbrev cX4_faultOfFigure : ByteArray := prog_6_method_4_code
def yX4_faultOfFigure : MethodName := ⟨RX4, "faultOfFigure", "(I)I"⟩
abbrev cX4_tellSign : ByteArray := prog_6_method_5_code
def yX4_tellSign : MethodName := ⟨RX4, "tellSign", "(I)I"⟩
abbrev cX4_tellThread : ByteArray := prog_6_method_6_code
def yX4_tellThread : MethodName := ⟨RX4, "tellThread", "(ILRaceWatch$World;)I"⟩
abbrev cX4_tellEvent : ByteArray := prog_6_method_7_code
def yX4_tellEvent : MethodName := ⟨RX4, "tellEvent", "(ILRaceWatch$World;)I"⟩
abbrev cX4_open : ByteArray := prog_6_method_8_code
def yX4_open : MethodName := ⟨RX4, "open", "(I)V"⟩
abbrev cX4_shutLast : ByteArray := prog_6_method_9_code
def yX4_shutLast : MethodName := ⟨RX4, "shutLast", "(LRaceWatch$World;)V"⟩
abbrev cX4_itemOf : ByteArray := prog_6_method_10_code
def yX4_itemOf : MethodName := ⟨RX4, "itemOf", "(I)I"⟩
def RX5 : String := "RaceWatch$World"
def TX5 : u_T := fun k => match k with
  | 0 => ("RaceWatch$World", "states", "[I", true)
  | 1 => ("RaceWatch$World", "holders", "[I", true)
  | 2 => ("RaceWatch$World", "ofThreads", "LRaceWatch$Clocks;", true)
  | 3 => ("RaceWatch$World", "ofLocks", "LRaceWatch$Clocks;", true)
  | 4 => ("RaceWatch$World", "ofSeenCells", "LRaceWatch$Clocks;", true)
  | 5 => ("RaceWatch$World", "cells", "[LRaceWatch$Kept;", true)
  | _ => ("RaceWatch$World", "log", "LRaceWatch$Log;", true)
def tyX5 : Nat → FieldType := fun k => match k with
  | 0 => .array .int
  | 1 => .array .int
  | 2 => .object "RaceWatch$Clocks"
  | 3 => .object "RaceWatch$Clocks"
  | 4 => .object "RaceWatch$Clocks"
  | 5 => .array (.object "RaceWatch$Kept")
  | _ => .object "RaceWatch$Log"
abbrev wsX50 : List Cond := u_ws RX5 TX5 7
theorem nmX5 : ∀ a, a < 7 → ∀ b, b < 7 → a ≠ b → (TX5 a).2.1 ≠ (TX5 b).2.1 := by decide +kernel
theorem tyX5_ok : ∀ k, k < 7 → parseFieldDescriptor (TX5 k).2.2.1 = some (tyX5 k) := by decide +kernel
abbrev cX5_init : ByteArray := prog_7_method_1_code
def yX5_init : MethodName := ⟨RX5, "<init>", "()V"⟩
abbrev cX5_begin : ByteArray := prog_7_method_2_code
def yX5_begin : MethodName := ⟨RX5, "begin", "()V"⟩
abbrev cX5_copy : ByteArray := prog_7_method_3_code
def yX5_copy : MethodName := ⟨RX5, "copy", "(LRaceWatch$World;)V"⟩
abbrev cX5_goes : ByteArray := prog_7_method_4_code
def yX5_goes : MethodName := ⟨RX5, "goes", "(I)Z"⟩
abbrev cX5_threadsThat : ByteArray := prog_7_method_5_code
def yX5_threadsThat : MethodName := ⟨RX5, "threadsThat", "(I)I"⟩
abbrev cX5_heldLocks : ByteArray := prog_7_method_6_code
def yX5_heldLocks : MethodName := ⟨RX5, "heldLocks", "()I"⟩
abbrev cX5_promotionsOfAll : ByteArray := prog_7_method_7_code
def yX5_promotionsOfAll : MethodName := ⟨RX5, "promotionsOfAll", "()I"⟩
abbrev cX5_canBe : ByteArray := prog_7_method_8_code
def yX5_canBe : MethodName := ⟨RX5, "canBe", "(III)Z"⟩
abbrev cX5_stepIsMuch : ByteArray := prog_7_method_9_code
def yX5_stepIsMuch : MethodName := ⟨RX5, "stepIsMuch", "(II)Z"⟩
abbrev cX5_come : ByteArray := prog_7_method_10_code
def yX5_come : MethodName := ⟨RX5, "come", "(III)I"⟩
abbrev cX5_takeIn : ByteArray := prog_7_method_11_code
def yX5_takeIn : MethodName := ⟨RX5, "takeIn", "(III)V"⟩
abbrev cX5_handOn : ByteArray := prog_7_method_12_code
def yX5_handOn : MethodName := ⟨RX5, "handOn", "(III)V"⟩
abbrev cX5_makeStep : ByteArray := prog_7_method_13_code
def yX5_makeStep : MethodName := ⟨RX5, "makeStep", "(I)V"⟩
abbrev cX5_locksOf : ByteArray := prog_7_method_14_code
def yX5_locksOf : MethodName := ⟨RX5, "locksOf", "(I)I"⟩
def RX6 : String := "RaceWatch"
def TX6 : u_T := fun k => match k with
  | 0 => ("RaceWatch", "world", "LRaceWatch$World;", true)
  | 1 => ("RaceWatch", "images", "[LRaceWatch$World;", true)
  | 2 => ("RaceWatch", "isKept", "[Z", true)
  | _ => ("RaceWatch", "telling", "LRaceWatch$Telling;", true)
def tyX6 : Nat → FieldType := fun k => match k with
  | 0 => .object "RaceWatch$World"
  | 1 => .array (.object "RaceWatch$World")
  | 2 => .array .boolean
  | _ => .object "RaceWatch$Telling"
abbrev wsX60 : List Cond := u_ws RX6 TX6 4
theorem nmX6 : ∀ a, a < 4 → ∀ b, b < 4 → a ≠ b → (TX6 a).2.1 ≠ (TX6 b).2.1 := by decide +kernel
theorem tyX6_ok : ∀ k, k < 4 → parseFieldDescriptor (TX6 k).2.2.1 = some (tyX6 k) := by decide +kernel
abbrev cX6_init : ByteArray := prog_1_method_1_code
def yX6_init : MethodName := ⟨RX6, "<init>", "()V"⟩
abbrev cX6_anew : ByteArray := prog_1_method_2_code
def yX6_anew : MethodName := ⟨RX6, "anew", "()I"⟩
abbrev cX6_feed : ByteArray := prog_1_method_3_code
def yX6_feed : MethodName := ⟨RX6, "feed", "(I)I"⟩
abbrev cX6_run : ByteArray := prog_1_method_4_code
def yX6_run : MethodName := ⟨RX6, "run", "()I"⟩
abbrev cX6_fault : ByteArray := prog_1_method_5_code
def yX6_fault : MethodName := ⟨RX6, "fault", "()I"⟩
abbrev cX6_event : ByteArray := prog_1_method_6_code
def yX6_event : MethodName := ⟨RX6, "event", "(III)I"⟩
abbrev cX6_jump : ByteArray := prog_1_method_7_code
def yX6_jump : MethodName := ⟨RX6, "jump", "(II)I"⟩
abbrev cX6_drift : ByteArray := prog_1_method_8_code
def yX6_drift : MethodName := ⟨RX6, "drift", "(II)I"⟩
abbrev cX6_told : ByteArray := prog_1_method_9_code
def yX6_told : MethodName := ⟨RX6, "told", "(I)I"⟩
abbrev cX6_clock : ByteArray := prog_1_method_10_code
def yX6_clock : MethodName := ⟨RX6, "clock", "(III)I"⟩
abbrev cX6_eventOf : ByteArray := prog_1_method_11_code
def yX6_eventOf : MethodName := ⟨RX6, "eventOf", "(II)I"⟩
abbrev cX6_holder : ByteArray := prog_1_method_12_code
def yX6_holder : MethodName := ⟨RX6, "holder", "(I)I"⟩
abbrev cX6_journal : ByteArray := prog_1_method_13_code
def yX6_journal : MethodName := ⟨RX6, "journal", "(II)I"⟩
abbrev cX6_ahead : ByteArray := prog_1_method_14_code
def yX6_ahead : MethodName := ⟨RX6, "ahead", "(II)I"⟩
abbrev cX6_races : ByteArray := prog_1_method_15_code
def yX6_races : MethodName := ⟨RX6, "races", "(II)I"⟩
abbrev cX6_race : ByteArray := prog_1_method_16_code
def yX6_race : MethodName := ⟨RX6, "race", "(III)I"⟩
abbrev cX6_cell : ByteArray := prog_1_method_17_code
def yX6_cell : MethodName := ⟨RX6, "cell", "(II)I"⟩
abbrev cX6_shared : ByteArray := prog_1_method_18_code
def yX6_shared : MethodName := ⟨RX6, "shared", "(II)I"⟩
abbrev cX6_would : ByteArray := prog_1_method_19_code
def yX6_would : MethodName := ⟨RX6, "would", "(IIZ)I"⟩
abbrev cX6_guard : ByteArray := prog_1_method_20_code
def yX6_guard : MethodName := ⟨RX6, "guard", "(I)I"⟩
abbrev cX6_keep : ByteArray := prog_1_method_21_code
def yX6_keep : MethodName := ⟨RX6, "keep", "(I)I"⟩
abbrev cX6_goBack : ByteArray := prog_1_method_22_code
def yX6_goBack : MethodName := ⟨RX6, "goBack", "(I)I"⟩
abbrev cX6_refusalOf : ByteArray := prog_1_method_23_code
def yX6_refusalOf : MethodName := ⟨RX6, "refusalOf", "(III)I"⟩
abbrev cX6_isIn : ByteArray := prog_1_method_24_code
def yX6_isIn : MethodName := ⟨RX6, "isIn", "(II)Z"⟩
abbrev cX6_isItself : ByteArray := prog_1_method_25_code
def yX6_isItself : MethodName := ⟨RX6, "isItself", "(III)Z"⟩
abbrev cX6_boundOf : ByteArray := prog_1_method_26_code
def yX6_boundOf : MethodName := ⟨RX6, "boundOf", "(I)I"⟩
abbrev cX6_lotBehind : ByteArray := prog_1_method_27_code
def yX6_lotBehind : MethodName := ⟨RX6, "lotBehind", "(J)J"⟩
def RX7 : String := "RaceWatchModel"
def TX7 : u_T := fun k => match k with
  | 0 => ("RaceWatchModel", "w", "[I", true)
  | 1 => ("RaceWatchModel", "isKept", "[Z", true)
  | 2 => ("RaceWatchModel", "entries", "I", false)
  | 3 => ("RaceWatchModel", "journals", "[I", true)
  | 4 => ("RaceWatchModel", "x", "J", false)
  | 5 => ("RaceWatchModel", "at", "I", false)
  | 6 => ("RaceWatchModel", "figure", "I", false)
  | 7 => ("RaceWatchModel", "fault", "I", false)
  | 8 => ("RaceWatchModel", "faultAt", "I", false)
  | 9 => ("RaceWatchModel", "who", "I", false)
  | 10 => ("RaceWatchModel", "open", "I", false)
  | 11 => ("RaceWatchModel", "regions", "I", false)
  | 12 => ("RaceWatchModel", "openLock", "[I", true)
  | _ => ("RaceWatchModel", "openThread", "[I", true)
def tyX7 : Nat → FieldType := fun k => match k with
  | 0 => .array .int
  | 1 => .array .boolean
  | 2 => .int
  | 3 => .array .int
  | 4 => .long
  | 5 => .int
  | 6 => .int
  | 7 => .int
  | 8 => .int
  | 9 => .int
  | 10 => .int
  | 11 => .int
  | 12 => .array .int
  | _ => .array .int
abbrev wsX70 : List Cond := u_ws RX7 TX7 14
theorem nmX7 : ∀ a, a < 14 → ∀ b, b < 14 → a ≠ b → (TX7 a).2.1 ≠ (TX7 b).2.1 := by decide +kernel
theorem tyX7_ok : ∀ k, k < 14 → parseFieldDescriptor (TX7 k).2.2.1 = some (tyX7 k) := by decide +kernel
abbrev cX7_init : ByteArray := prog_9_method_1_code
def yX7_init : MethodName := ⟨RX7, "<init>", "()V"⟩
abbrev cX7_in : ByteArray := prog_9_method_3_code
def yX7_in : MethodName := ⟨RX7, "in", "(JJJ)Z"⟩
abbrev cX7_isThread : ByteArray := prog_9_method_4_code
def yX7_isThread : MethodName := ⟨RX7, "isThread", "(I)Z"⟩
abbrev cX7_isLock : ByteArray := prog_9_method_5_code
def yX7_isLock : MethodName := ⟨RX7, "isLock", "(I)Z"⟩
abbrev cX7_isCell : ByteArray := prog_9_method_6_code
def yX7_isCell : MethodName := ⟨RX7, "isCell", "(I)Z"⟩
abbrev cX7_isSeen : ByteArray := prog_9_method_7_code
def yX7_isSeen : MethodName := ⟨RX7, "isSeen", "(I)Z"⟩
abbrev cX7_clear : ByteArray := prog_9_method_8_code
def yX7_clear : MethodName := ⟨RX7, "clear", "()V"⟩
abbrev cX7_of : ByteArray := prog_9_method_9_code
def yX7_of : MethodName := ⟨RX7, "of", "(I)I"⟩
abbrev cX7_anew : ByteArray := prog_9_method_10_code
def yX7_anew : MethodName := ⟨RX7, "anew", "()I"⟩
abbrev cX7_held : ByteArray := prog_9_method_11_code
def yX7_held : MethodName := ⟨RX7, "held", "(I)I"⟩
abbrev cX7_number : ByteArray := prog_9_method_12_code
def yX7_number : MethodName := ⟨RX7, "number", "(II)I"⟩
abbrev cX7_joins : ByteArray := prog_9_method_13_code
def yX7_joins : MethodName := ⟨RX7, "joins", "(II)V"⟩
abbrev cX7_isMuch : ByteArray := prog_9_method_14_code
def yX7_isMuch : MethodName := ⟨RX7, "isMuch", "(I)Z"⟩
abbrev cX7_steps : ByteArray := prog_9_method_15_code
def yX7_steps : MethodName := ⟨RX7, "steps", "(I)V"⟩
abbrev cX7_isWith : ByteArray := prog_9_method_16_code
def yX7_isWith : MethodName := ⟨RX7, "isWith", "(III)Z"⟩
abbrev cX7_can : ByteArray := prog_9_method_17_code
def yX7_can : MethodName := ⟨RX7, "can", "(III)Z"⟩
abbrev cX7_hasStep : ByteArray := prog_9_method_18_code
def yX7_hasStep : MethodName := ⟨RX7, "hasStep", "(I)Z"⟩
abbrev cX7_writes : ByteArray := prog_9_method_19_code
def yX7_writes : MethodName := ⟨RX7, "writes", "(III)V"⟩
abbrev cX7_kindOf : ByteArray := prog_9_method_20_code
def yX7_kindOf : MethodName := ⟨RX7, "kindOf", "(IIZ)I"⟩
abbrev cX7_accesses : ByteArray := prog_9_method_21_code
def yX7_accesses : MethodName := ⟨RX7, "accesses", "(IIZ)V"⟩
abbrev cX7_reads : ByteArray := prog_9_method_22_code
def yX7_reads : MethodName := ⟨RX7, "reads", "(II)V"⟩
abbrev cX7_comes : ByteArray := prog_9_method_23_code
def yX7_comes : MethodName := ⟨RX7, "comes", "(III)V"⟩
abbrev cX7_event : ByteArray := prog_9_method_24_code
def yX7_event : MethodName := ⟨RX7, "event", "(III)I"⟩
abbrev cX7_jump : ByteArray := prog_9_method_25_code
def yX7_jump : MethodName := ⟨RX7, "jump", "(II)I"⟩
abbrev cX7_draw : ByteArray := prog_9_method_26_code
def yX7_draw : MethodName := ⟨RX7, "draw", "(I)I"⟩
abbrev cX7_drift : ByteArray := prog_9_method_27_code
def yX7_drift : MethodName := ⟨RX7, "drift", "(II)I"⟩
abbrev cX7_feed : ByteArray := prog_9_method_28_code
def yX7_feed : MethodName := ⟨RX7, "feed", "(I)I"⟩
abbrev cX7_notes : ByteArray := prog_9_method_29_code
def yX7_notes : MethodName := ⟨RX7, "notes", "(II)V"⟩
abbrev cX7_here : ByteArray := prog_9_method_30_code
def yX7_here : MethodName := ⟨RX7, "here", "()I"⟩
abbrev cX7_fails : ByteArray := prog_9_method_31_code
def yX7_fails : MethodName := ⟨RX7, "fails", "(I)Z"⟩
abbrev cX7_takesFigure : ByteArray := prog_9_method_32_code
def yX7_takesFigure : MethodName := ⟨RX7, "takesFigure", "(I)Z"⟩
abbrev cX7_takes : ByteArray := prog_9_method_33_code
def yX7_takes : MethodName := ⟨RX7, "takes", "(I)Z"⟩
abbrev cX7_did : ByteArray := prog_9_method_34_code
def yX7_did : MethodName := ⟨RX7, "did", "(I)Z"⟩
abbrev cX7_opens : ByteArray := prog_9_method_35_code
def yX7_opens : MethodName := ⟨RX7, "opens", "(II)V"⟩
abbrev cX7_shuts : ByteArray := prog_9_method_36_code
def yX7_shuts : MethodName := ⟨RX7, "shuts", "()V"⟩
abbrev cX7_takesRegion : ByteArray := prog_9_method_37_code
def yX7_takesRegion : MethodName := ⟨RX7, "takesRegion", "()Z"⟩
abbrev cX7_takesTurn : ByteArray := prog_9_method_38_code
def yX7_takesTurn : MethodName := ⟨RX7, "takesTurn", "()Z"⟩
abbrev cX7_takesEnd : ByteArray := prog_9_method_39_code
def yX7_takesEnd : MethodName := ⟨RX7, "takesEnd", "()Z"⟩
abbrev cX7_sortOf : ByteArray := prog_9_method_40_code
def yX7_sortOf : MethodName := ⟨RX7, "sortOf", "(I)I"⟩
abbrev cX7_takesItem : ByteArray := prog_9_method_41_code
def yX7_takesItem : MethodName := ⟨RX7, "takesItem", "(I)Z"⟩
abbrev cX7_run : ByteArray := prog_9_method_42_code
def yX7_run : MethodName := ⟨RX7, "run", "()I"⟩
abbrev cX7_fault : ByteArray := prog_9_method_43_code
def yX7_fault : MethodName := ⟨RX7, "fault", "()I"⟩
abbrev cX7_whoIs : ByteArray := prog_9_method_44_code
def yX7_whoIs : MethodName := ⟨RX7, "whoIs", "(I)I"⟩
abbrev cX7_locksHeld : ByteArray := prog_9_method_45_code
def yX7_locksHeld : MethodName := ⟨RX7, "locksHeld", "()I"⟩
abbrev cX7_cellsRaced : ByteArray := prog_9_method_46_code
def yX7_cellsRaced : MethodName := ⟨RX7, "cellsRaced", "()I"⟩
abbrev cX7_overCells : ByteArray := prog_9_method_47_code
def yX7_overCells : MethodName := ⟨RX7, "overCells", "(Z)I"⟩
abbrev cX7_told : ByteArray := prog_9_method_48_code
def yX7_told : MethodName := ⟨RX7, "told", "(I)I"⟩
abbrev cX7_clock : ByteArray := prog_9_method_49_code
def yX7_clock : MethodName := ⟨RX7, "clock", "(III)I"⟩
abbrev cX7_isEvent : ByteArray := prog_9_method_50_code
def yX7_isEvent : MethodName := ⟨RX7, "isEvent", "(I)Z"⟩
abbrev cX7_eventOf : ByteArray := prog_9_method_51_code
def yX7_eventOf : MethodName := ⟨RX7, "eventOf", "(II)I"⟩
abbrev cX7_holder : ByteArray := prog_9_method_52_code
def yX7_holder : MethodName := ⟨RX7, "holder", "(I)I"⟩
abbrev cX7_journal : ByteArray := prog_9_method_53_code
def yX7_journal : MethodName := ⟨RX7, "journal", "(II)I"⟩
abbrev cX7_isAhead : ByteArray := prog_9_method_54_code
def yX7_isAhead : MethodName := ⟨RX7, "isAhead", "(II)Z"⟩
abbrev cX7_ahead : ByteArray := prog_9_method_55_code
def yX7_ahead : MethodName := ⟨RX7, "ahead", "(II)I"⟩
abbrev cX7_isAccess : ByteArray := prog_9_method_56_code
def yX7_isAccess : MethodName := ⟨RX7, "isAccess", "(II)Z"⟩
abbrev cX7_kindBy : ByteArray := prog_9_method_57_code
def yX7_kindBy : MethodName := ⟨RX7, "kindBy", "(III)I"⟩
abbrev cX7_racesOf : ByteArray := prog_9_method_58_code
def yX7_racesOf : MethodName := ⟨RX7, "racesOf", "(II)I"⟩
abbrev cX7_races : ByteArray := prog_9_method_59_code
def yX7_races : MethodName := ⟨RX7, "races", "(II)I"⟩
abbrev cX7_race : ByteArray := prog_9_method_60_code
def yX7_race : MethodName := ⟨RX7, "race", "(III)I"⟩
abbrev cX7_cell : ByteArray := prog_9_method_61_code
def yX7_cell : MethodName := ⟨RX7, "cell", "(II)I"⟩
abbrev cX7_shared : ByteArray := prog_9_method_62_code
def yX7_shared : MethodName := ⟨RX7, "shared", "(II)I"⟩
abbrev cX7_would : ByteArray := prog_9_method_63_code
def yX7_would : MethodName := ⟨RX7, "would", "(IIZ)I"⟩
abbrev cX7_guard : ByteArray := prog_9_method_64_code
def yX7_guard : MethodName := ⟨RX7, "guard", "(I)I"⟩
abbrev cX7_keep : ByteArray := prog_9_method_65_code
def yX7_keep : MethodName := ⟨RX7, "keep", "(I)I"⟩
abbrev cX7_goBack : ByteArray := prog_9_method_66_code
def yX7_goBack : MethodName := ⟨RX7, "goBack", "(I)I"⟩
def RJ9 : String := "java/lang/Math"
def TJ9 : u_T := fun k => match k with
  | _ => ("", "", "", false)
def tyJ9 : Nat → FieldType := fun k => match k with
  | _ => .int
abbrev wsJ90 : List Cond := u_ws RJ9 TJ9 0
theorem nmJ9 : ∀ a, a < 0 → ∀ b, b < 0 → a ≠ b → (TJ9 a).2.1 ≠ (TJ9 b).2.1 := by decide +kernel
theorem tyJ9_ok : ∀ k, k < 0 → parseFieldDescriptor (TJ9 k).2.2.1 = some (tyJ9 k) := by decide +kernel
abbrev cJ9_max_7cf53 : ByteArray := prog_10_method_65_code
def yJ9_max_7cf53 : MethodName := ⟨RJ9, "max", "(II)I"⟩
abbrev cJ9_min_7cf53 : ByteArray := prog_10_method_69_code
def yJ9_min_7cf53 : MethodName := ⟨RJ9, "min", "(II)I"⟩
def RJ10 : String := "java/lang/System"
def TJ10 : u_T := fun k => match k with
  | _ => ("", "", "", false)
def tyJ10 : Nat → FieldType := fun k => match k with
  | _ => .int
abbrev wsJ100 : List Cond := u_ws RJ10 TJ10 0
theorem nmJ10 : ∀ a, a < 0 → ∀ b, b < 0 → a ≠ b → (TJ10 a).2.1 ≠ (TJ10 b).2.1 := by decide +kernel
theorem tyJ10_ok : ∀ k, k < 0 → parseFieldDescriptor (TJ10 k).2.2.1 = some (tyJ10 k) := by decide +kernel
def RJ7 : String := "java/util/Arrays"
def TJ7 : u_T := fun k => match k with
  | _ => ("", "", "", false)
def tyJ7 : Nat → FieldType := fun k => match k with
  | _ => .int
abbrev wsJ70 : List Cond := u_ws RJ7 TJ7 0
theorem nmJ7 : ∀ a, a < 0 → ∀ b, b < 0 → a ≠ b → (TJ7 a).2.1 ≠ (TJ7 b).2.1 := by decide +kernel
theorem tyJ7_ok : ∀ k, k < 0 → parseFieldDescriptor (TJ7 k).2.2.1 = some (tyJ7 k) := by decide +kernel
abbrev cJ7_fill_53178 : ByteArray := prog_12_method_103_code
def yJ7_fill_53178 : MethodName := ⟨RJ7, "fill", "([II)V"⟩
def RL : String := "RaceWatchLaw"
abbrev cL_law : ByteArray := code
def yL_law : MethodName := ⟨RL, "law", "([I)Z"⟩
def wsX0_init : List Cond := .code yX0_init cX0_init 1 none :: ([.methodLink RX0 3 objectInit, .instanceMethod objectInit, .code objectInit ⟨#[0xb1]⟩ 1 none, .arrayClass .int, .fieldLink RX0 9 "RaceWatch$Book" "locks" "[I", .fieldLink RX0 15 "RaceWatch$Book" "opened" "[I"] ++ wsX00)
def wsX0_enter : List Cond := .code yX0_enter cX0_enter 3 none :: ([.fieldLink RX0 9 "RaceWatch$Book" "locks" "[I", .methodLink RX0 18 arraycopyName, .native arraycopyName, .static arraycopyName, .initialized "java/lang/System", .fieldLink RX0 15 "RaceWatch$Book" "opened" "[I", .fieldLink RX0 24 "RaceWatch$Book" "count" "I", .methodLink RX0 28 Lib.Math.min.name, .static Lib.Math.min.name, .initialized "java/lang/Math", .code Lib.Math.min.name Lib.Math.min.code 2 (some .int)] ++ wsX00)
def wsX1_init : List Cond := .code yX1_init cX1_init 2 none :: ([.methodLink RX1 3 objectInit, .instanceMethod objectInit, .code objectInit ⟨#[0xb1]⟩ 1 none, .methodLink RX1 9 Lib.Math.max.name, .static Lib.Math.max.name, .initialized "java/lang/Math", .code Lib.Math.max.name Lib.Math.max.code 2 (some .int), .fieldLink RX1 15 "RaceWatch$Clocks" "rows" "I", .arrayClass .int, .fieldLink RX1 21 "RaceWatch$Clocks" "numbers" "[I"] ++ wsX10)
def wsX1_number : List Cond := .code yX1_number cX1_number 3 (some .int) :: ([.fieldLink RX1 21 "RaceWatch$Clocks" "numbers" "[I"] ++ wsX10)
def wsX1_set : List Cond := .code yX1_set cX1_set 4 none :: ([.fieldLink RX1 21 "RaceWatch$Clocks" "numbers" "[I"] ++ wsX10)
def wsX1_join : List Cond := .code yX1_join cX1_join 5 none :: ([.methodLink RX1 9 Lib.Math.max.name, .static Lib.Math.max.name, .initialized "java/lang/Math", .code Lib.Math.max.name Lib.Math.max.code 2 (some .int), .methodLink RX1 25 yX1_number, .instanceMethod yX1_number, .selects RX1 yX1_number yX1_number, .initialized RX1, .code yX1_number cX1_number 3 (some .int), .fieldLink RX1 21 "RaceWatch$Clocks" "numbers" "[I", .methodLink RX1 28 yX1_set, .instanceMethod yX1_set, .selects RX1 yX1_set yX1_set, .code yX1_set cX1_set 4 none] ++ wsX10)
def wsX1_copyRow : List Cond := .code yX1_copyRow cX1_copyRow 4 none :: ([.fieldLink RX1 21 "RaceWatch$Clocks" "numbers" "[I", .methodLink RX1 32 arraycopyName, .native arraycopyName, .static arraycopyName, .initialized "java/lang/System"] ++ wsX10)
def wsX1_copyRows : List Cond := .code yX1_copyRows cX1_copyRows 3 none :: ([.fieldLink RX1 21 "RaceWatch$Clocks" "numbers" "[I", .methodLink RX1 32 arraycopyName, .native arraycopyName, .static arraycopyName, .initialized "java/lang/System"] ++ wsX10)
def wsJ7_fill_53178 : List Cond := .code yJ7_fill_53178 cJ7_fill_53178 4 none :: ([])
def wsX1_clear : List Cond := .code yX1_clear cX1_clear 1 none :: ([.fieldLink RX1 21 "RaceWatch$Clocks" "numbers" "[I", .methodLink RX1 38 yJ7_fill_53178, .static yJ7_fill_53178, .initialized RJ7, .code yJ7_fill_53178 cJ7_fill_53178 4 none] ++ wsX10)
def wsX2_init : List Cond := .code yX2_init cX2_init 1 none :: ([.methodLink RX2 3 objectInit, .instanceMethod objectInit, .code objectInit ⟨#[0xb1]⟩ 1 none, .arrayClass .int, .fieldLink RX2 9 "RaceWatch$Kept" "readNumbers" "[I"] ++ wsX20)
def wsX2_forgetReads : List Cond := .code yX2_forgetReads cX2_forgetReads 1 none :: ([.fieldLink RX2 37 "RaceWatch$Kept" "reader" "I", .fieldLink RX2 40 "RaceWatch$Kept" "readNumber" "I", .fieldLink RX2 43 "RaceWatch$Kept" "isShared" "Z", .fieldLink RX2 9 "RaceWatch$Kept" "readNumbers" "[I", .methodLink RX2 75 yJ7_fill_53178, .static yJ7_fill_53178, .initialized RJ7, .code yJ7_fill_53178 cJ7_fill_53178 4 none] ++ wsX20)
def wsX2_begin : List Cond := .code yX2_begin cX2_begin 1 none :: ([.fieldLink RX2 15 "RaceWatch$Kept" "writer" "I", .fieldLink RX2 19 "RaceWatch$Kept" "writeNumber" "I", .fieldLink RX2 25 "RaceWatch$Kept" "promotions" "I", .fieldLink RX2 28 "RaceWatch$Kept" "firstEvent" "I", .fieldLink RX2 31 "RaceWatch$Kept" "firstKind" "I", .fieldLink RX2 34 "RaceWatch$Kept" "guards" "I", .methodLink RX2 22 yX2_forgetReads, .instanceMethod yX2_forgetReads, .selects RX2 yX2_forgetReads yX2_forgetReads, .initialized RX2, .code yX2_forgetReads cX2_forgetReads 1 none, .fieldLink RX2 37 "RaceWatch$Kept" "reader" "I", .fieldLink RX2 40 "RaceWatch$Kept" "readNumber" "I", .fieldLink RX2 43 "RaceWatch$Kept" "isShared" "Z", .fieldLink RX2 9 "RaceWatch$Kept" "readNumbers" "[I", .methodLink RX2 75 yJ7_fill_53178, .static yJ7_fill_53178, .initialized RJ7, .code yJ7_fill_53178 cJ7_fill_53178 4 none] ++ wsX20)
def wsX2_copy : List Cond := .code yX2_copy cX2_copy 2 none :: ([.fieldLink RX2 15 "RaceWatch$Kept" "writer" "I", .fieldLink RX2 19 "RaceWatch$Kept" "writeNumber" "I", .fieldLink RX2 37 "RaceWatch$Kept" "reader" "I", .fieldLink RX2 40 "RaceWatch$Kept" "readNumber" "I", .fieldLink RX2 43 "RaceWatch$Kept" "isShared" "Z", .fieldLink RX2 9 "RaceWatch$Kept" "readNumbers" "[I", .methodLink RX2 47 arraycopyName, .native arraycopyName, .static arraycopyName, .initialized "java/lang/System", .fieldLink RX2 25 "RaceWatch$Kept" "promotions" "I", .fieldLink RX2 28 "RaceWatch$Kept" "firstEvent" "I", .fieldLink RX2 31 "RaceWatch$Kept" "firstKind" "I", .fieldLink RX2 34 "RaceWatch$Kept" "guards" "I"] ++ wsX20)
def wsX2_readsAreAhead : List Cond := .code yX2_readsAreAhead cX2_readsAreAhead 4 (some .boolean) :: ([.fieldLink RX2 43 "RaceWatch$Kept" "isShared" "Z", .fieldLink RX2 37 "RaceWatch$Kept" "reader" "I", .fieldLink RX2 40 "RaceWatch$Kept" "readNumber" "I", .fieldLink RX2 9 "RaceWatch$Kept" "readNumbers" "[I", .methodLink RX2 53 yX1_number, .instanceMethod yX1_number, .selects RX1 yX1_number yX1_number, .initialized RX1, .code yX1_number cX1_number 3 (some .int), .fieldLink RX1 21 "RaceWatch$Clocks" "numbers" "[I"] ++ wsX20 ++ wsX10)
def wsX2_kindOf : List Cond := .code yX2_kindOf cX2_kindOf 5 (some .int) :: ([.fieldLink RX2 15 "RaceWatch$Kept" "writer" "I", .fieldLink RX2 19 "RaceWatch$Kept" "writeNumber" "I", .methodLink RX2 53 yX1_number, .instanceMethod yX1_number, .selects RX1 yX1_number yX1_number, .initialized RX1, .code yX1_number cX1_number 3 (some .int), .fieldLink RX1 21 "RaceWatch$Clocks" "numbers" "[I", .methodLink RX2 59 yX2_readsAreAhead, .instanceMethod yX2_readsAreAhead, .selects RX2 yX2_readsAreAhead yX2_readsAreAhead, .initialized RX2, .code yX2_readsAreAhead cX2_readsAreAhead 4 (some .boolean), .fieldLink RX2 43 "RaceWatch$Kept" "isShared" "Z", .fieldLink RX2 37 "RaceWatch$Kept" "reader" "I", .fieldLink RX2 40 "RaceWatch$Kept" "readNumber" "I", .fieldLink RX2 9 "RaceWatch$Kept" "readNumbers" "[I"] ++ wsX20 ++ wsX10)
def wsX2_share : List Cond := .code yX2_share cX2_share 3 none :: ([.fieldLink RX2 9 "RaceWatch$Kept" "readNumbers" "[I", .fieldLink RX2 37 "RaceWatch$Kept" "reader" "I", .fieldLink RX2 40 "RaceWatch$Kept" "readNumber" "I", .fieldLink RX2 43 "RaceWatch$Kept" "isShared" "Z", .fieldLink RX2 25 "RaceWatch$Kept" "promotions" "I"] ++ wsX20)
def wsX2_keepRead : List Cond := .code yX2_keepRead cX2_keepRead 4 none :: ([.fieldLink RX2 43 "RaceWatch$Kept" "isShared" "Z", .fieldLink RX2 9 "RaceWatch$Kept" "readNumbers" "[I", .fieldLink RX2 37 "RaceWatch$Kept" "reader" "I", .fieldLink RX2 40 "RaceWatch$Kept" "readNumber" "I", .methodLink RX2 53 yX1_number, .instanceMethod yX1_number, .selects RX1 yX1_number yX1_number, .initialized RX1, .code yX1_number cX1_number 3 (some .int), .fieldLink RX1 21 "RaceWatch$Clocks" "numbers" "[I", .methodLink RX2 59 yX2_readsAreAhead, .instanceMethod yX2_readsAreAhead, .selects RX2 yX2_readsAreAhead yX2_readsAreAhead, .initialized RX2, .code yX2_readsAreAhead cX2_readsAreAhead 4 (some .boolean), .methodLink RX2 71 yX2_share, .instanceMethod yX2_share, .selects RX2 yX2_share yX2_share, .code yX2_share cX2_share 3 none, .fieldLink RX2 25 "RaceWatch$Kept" "promotions" "I"] ++ wsX20 ++ wsX10)
def wsX2_access_r1 : List Cond := [Cond.fieldLink RX2 28 "RaceWatch$Kept" "firstEvent" "I", Cond.fieldLink RX2 31 "RaceWatch$Kept" "firstKind" "I", Cond.fieldLink RX2 34 "RaceWatch$Kept" "guards" "I", Cond.fieldLink RX2 15 "RaceWatch$Kept" "writer" "I", Cond.fieldLink RX2 19 "RaceWatch$Kept" "writeNumber" "I", Cond.methodLink RX2 63 yX2_kindOf, Cond.instanceMethod yX2_kindOf, Cond.selects RX2 yX2_kindOf yX2_kindOf, Cond.initialized RX2, Cond.code yX2_kindOf cX2_kindOf 5 (some .int), Cond.methodLink RX2 53 yX1_number, Cond.instanceMethod yX1_number, Cond.selects RX1 yX1_number yX1_number, Cond.initialized RX1, Cond.code yX1_number cX1_number 3 (some .int), Cond.fieldLink RX1 21 "RaceWatch$Clocks" "numbers" "[I", Cond.methodLink RX2 59 yX2_readsAreAhead, Cond.instanceMethod yX2_readsAreAhead, Cond.selects RX2 yX2_readsAreAhead yX2_readsAreAhead, Cond.code yX2_readsAreAhead cX2_readsAreAhead 4 (some .boolean), Cond.fieldLink RX2 43 "RaceWatch$Kept" "isShared" "Z", Cond.fieldLink RX2 37 "RaceWatch$Kept" "reader" "I", Cond.fieldLink RX2 40 "RaceWatch$Kept" "readNumber" "I", Cond.fieldLink RX2 9 "RaceWatch$Kept" "readNumbers" "[I"]
def wsX2_access_r2 : List Cond := [Cond.methodLink RX2 22 yX2_forgetReads, Cond.instanceMethod yX2_forgetReads, Cond.selects RX2 yX2_forgetReads yX2_forgetReads, Cond.code yX2_forgetReads cX2_forgetReads 1 none, Cond.methodLink RX2 75 yJ7_fill_53178, Cond.static yJ7_fill_53178, Cond.initialized RJ7, Cond.code yJ7_fill_53178 cJ7_fill_53178 4 none, Cond.methodLink RX2 67 yX2_keepRead, Cond.instanceMethod yX2_keepRead, Cond.selects RX2 yX2_keepRead yX2_keepRead, Cond.code yX2_keepRead cX2_keepRead 4 none, Cond.methodLink RX2 71 yX2_share, Cond.instanceMethod yX2_share, Cond.selects RX2 yX2_share yX2_share, Cond.code yX2_share cX2_share 3 none, Cond.fieldLink RX2 25 "RaceWatch$Kept" "promotions" "I"]
def wsX2_access : List Cond := .code yX2_access cX2_access 7 none :: ((wsX2_access_r1 ++ wsX2_access_r2) ++ wsX20 ++ wsX10)
def wsX3_init : List Cond := .code yX3_init cX3_init 1 none :: ([.methodLink RX3 3 objectInit, .instanceMethod objectInit, .code objectInit ⟨#[0xb1]⟩ 1 none, .arrayClass .int, .fieldLink RX3 9 "RaceWatch$Log" "threads" "[I", .fieldLink RX3 15 "RaceWatch$Log" "sorts" "[I", .fieldLink RX3 18 "RaceWatch$Log" "withs" "[I", .fieldLink RX3 21 "RaceWatch$Log" "locks" "[I", .classLink RX3 24 RX1, .instantiable RX1 2, .initialized RX1, .fieldLink RX3 29 "RaceWatch$Log" "clocks" "LRaceWatch$Clocks;", .fieldLink RX3 33 "RaceWatch$Log" "racesBehind" "[I", .fieldLink RX3 36 "RaceWatch$Log" "raceCounts" "[I", .methodLink RX3 26 yX1_init, .instanceMethod yX1_init, .code yX1_init cX1_init 2 none, .methodLink RX1 3 objectInit, .methodLink RX1 9 Lib.Math.max.name, .static Lib.Math.max.name, .initialized "java/lang/Math", .code Lib.Math.max.name Lib.Math.max.code 2 (some .int), .fieldLink RX1 15 "RaceWatch$Clocks" "rows" "I", .fieldLink RX1 21 "RaceWatch$Clocks" "numbers" "[I"] ++ wsX30 ++ wsX10)
def wsX3_begin : List Cond := .code yX3_begin cX3_begin 1 none :: ([.fieldLink RX3 39 "RaceWatch$Log" "count" "I", .fieldLink RX3 36 "RaceWatch$Log" "raceCounts" "[I", .methodLink RX3 43 yJ7_fill_53178, .static yJ7_fill_53178, .initialized RJ7, .code yJ7_fill_53178 cJ7_fill_53178 4 none] ++ wsX30)
def wsX3_copy : List Cond := .code yX3_copy cX3_copy 2 none :: ([.fieldLink RX3 39 "RaceWatch$Log" "count" "I", .fieldLink RX3 9 "RaceWatch$Log" "threads" "[I", .methodLink RX3 49 arraycopyName, .native arraycopyName, .static arraycopyName, .initialized "java/lang/System", .fieldLink RX3 15 "RaceWatch$Log" "sorts" "[I", .fieldLink RX3 18 "RaceWatch$Log" "withs" "[I", .fieldLink RX3 21 "RaceWatch$Log" "locks" "[I", .fieldLink RX3 29 "RaceWatch$Log" "clocks" "LRaceWatch$Clocks;", .fieldLink RX3 33 "RaceWatch$Log" "racesBehind" "[I", .fieldLink RX3 36 "RaceWatch$Log" "raceCounts" "[I", .methodLink RX3 55 yX1_copyRows, .instanceMethod yX1_copyRows, .selects RX1 yX1_copyRows yX1_copyRows, .initialized RX1, .code yX1_copyRows cX1_copyRows 3 none, .fieldLink RX1 21 "RaceWatch$Clocks" "numbers" "[I", .methodLink RX1 32 arraycopyName] ++ wsX30 ++ wsX10)
def wsX3_hasRoom : List Cond := .code yX3_hasRoom cX3_hasRoom 2 (some .boolean) :: ([.fieldLink RX3 39 "RaceWatch$Log" "count" "I"] ++ wsX30)
def wsX3_append : List Cond := .code yX3_append cX3_append 7 (some .int) :: ([.fieldLink RX3 39 "RaceWatch$Log" "count" "I", .fieldLink RX3 9 "RaceWatch$Log" "threads" "[I", .fieldLink RX3 15 "RaceWatch$Log" "sorts" "[I", .fieldLink RX3 18 "RaceWatch$Log" "withs" "[I", .fieldLink RX3 21 "RaceWatch$Log" "locks" "[I", .fieldLink RX3 29 "RaceWatch$Log" "clocks" "LRaceWatch$Clocks;", .methodLink RX3 59 yX1_copyRow, .instanceMethod yX1_copyRow, .selects RX1 yX1_copyRow yX1_copyRow, .initialized RX1, .code yX1_copyRow cX1_copyRow 4 none, .fieldLink RX1 21 "RaceWatch$Clocks" "numbers" "[I", .methodLink RX1 32 arraycopyName, .native arraycopyName, .static arraycopyName, .initialized "java/lang/System"] ++ wsX30 ++ wsX10)
def wsX3_isAhead : List Cond := .code yX3_isAhead cX3_isAhead 4 (some .boolean) :: ([.fieldLink RX3 9 "RaceWatch$Log" "threads" "[I", .fieldLink RX3 29 "RaceWatch$Log" "clocks" "LRaceWatch$Clocks;", .methodLink RX3 63 yX1_number, .instanceMethod yX1_number, .selects RX1 yX1_number yX1_number, .initialized RX1, .code yX1_number cX1_number 3 (some .int), .fieldLink RX1 21 "RaceWatch$Clocks" "numbers" "[I"] ++ wsX30 ++ wsX10)
def wsX3_racesOfCell : List Cond := .code yX3_racesOfCell cX3_racesOfCell 4 (some .int) :: ([.fieldLink RX3 36 "RaceWatch$Log" "raceCounts" "[I"] ++ wsX30)
def wsX3_racesOfAll : List Cond := .code yX3_racesOfAll cX3_racesOfAll 3 (some .int) :: ([.methodLink RX3 67 yX3_racesOfCell, .instanceMethod yX3_racesOfCell, .selects RX3 yX3_racesOfCell yX3_racesOfCell, .initialized RX3, .code yX3_racesOfCell cX3_racesOfCell 4 (some .int), .fieldLink RX3 36 "RaceWatch$Log" "raceCounts" "[I"] ++ wsX30)
def wsX3_cellsWithRace : List Cond := .code yX3_cellsWithRace cX3_cellsWithRace 3 (some .int) :: ([.methodLink RX3 67 yX3_racesOfCell, .instanceMethod yX3_racesOfCell, .selects RX3 yX3_racesOfCell yX3_racesOfCell, .initialized RX3, .code yX3_racesOfCell cX3_racesOfCell 4 (some .int), .fieldLink RX3 36 "RaceWatch$Log" "raceCounts" "[I"] ++ wsX30)
def wsX3_isAccess : List Cond := .code yX3_isAccess cX3_isAccess 2 (some .boolean) :: ([.fieldLink RX3 15 "RaceWatch$Log" "sorts" "[I"] ++ wsX30)
def wsX3_kindOfPair : List Cond := .code yX3_kindOfPair cX3_kindOfPair 3 (some .int) :: ([.fieldLink RX3 18 "RaceWatch$Log" "withs" "[I", .fieldLink RX3 9 "RaceWatch$Log" "threads" "[I", .fieldLink RX3 15 "RaceWatch$Log" "sorts" "[I", .methodLink RX3 71 yX3_isAccess, .instanceMethod yX3_isAccess, .selects RX3 yX3_isAccess yX3_isAccess, .initialized RX3, .code yX3_isAccess cX3_isAccess 2 (some .boolean), .methodLink RX3 81 yX3_isAhead, .instanceMethod yX3_isAhead, .selects RX3 yX3_isAhead yX3_isAhead, .code yX3_isAhead cX3_isAhead 4 (some .boolean), .fieldLink RX3 29 "RaceWatch$Log" "clocks" "LRaceWatch$Clocks;", .methodLink RX3 63 yX1_number, .instanceMethod yX1_number, .selects RX1 yX1_number yX1_number, .initialized RX1, .code yX1_number cX1_number 3 (some .int), .fieldLink RX1 21 "RaceWatch$Clocks" "numbers" "[I"] ++ wsX30 ++ wsX10)
def wsX3_earlierOf : List Cond := .code yX3_earlierOf cX3_earlierOf 5 (some .int) :: ([.methodLink RX3 78 yX3_kindOfPair, .instanceMethod yX3_kindOfPair, .selects RX3 yX3_kindOfPair yX3_kindOfPair, .initialized RX3, .code yX3_kindOfPair cX3_kindOfPair 3 (some .int), .fieldLink RX3 18 "RaceWatch$Log" "withs" "[I", .fieldLink RX3 9 "RaceWatch$Log" "threads" "[I", .fieldLink RX3 15 "RaceWatch$Log" "sorts" "[I", .methodLink RX3 71 yX3_isAccess, .instanceMethod yX3_isAccess, .selects RX3 yX3_isAccess yX3_isAccess, .code yX3_isAccess cX3_isAccess 2 (some .boolean), .methodLink RX3 81 yX3_isAhead, .instanceMethod yX3_isAhead, .selects RX3 yX3_isAhead yX3_isAhead, .code yX3_isAhead cX3_isAhead 4 (some .boolean), .fieldLink RX3 29 "RaceWatch$Log" "clocks" "LRaceWatch$Clocks;", .methodLink RX3 63 yX1_number, .instanceMethod yX1_number, .selects RX1 yX1_number yX1_number, .initialized RX1, .code yX1_number cX1_number 3 (some .int), .fieldLink RX1 21 "RaceWatch$Clocks" "numbers" "[I"] ++ wsX30 ++ wsX10)
def wsX3_partOfRace_r1 : List Cond := [Cond.fieldLink RX3 39 "RaceWatch$Log" "count" "I", Cond.fieldLink RX3 18 "RaceWatch$Log" "withs" "[I", Cond.fieldLink RX3 33 "RaceWatch$Log" "racesBehind" "[I", Cond.methodLink RX3 71 yX3_isAccess, Cond.instanceMethod yX3_isAccess, Cond.selects RX3 yX3_isAccess yX3_isAccess, Cond.initialized RX3, Cond.code yX3_isAccess cX3_isAccess 2 (some .boolean), Cond.fieldLink RX3 15 "RaceWatch$Log" "sorts" "[I", Cond.methodLink RX3 75 yX3_earlierOf, Cond.instanceMethod yX3_earlierOf, Cond.selects RX3 yX3_earlierOf yX3_earlierOf, Cond.code yX3_earlierOf cX3_earlierOf 5 (some .int), Cond.methodLink RX3 78 yX3_kindOfPair, Cond.instanceMethod yX3_kindOfPair, Cond.selects RX3 yX3_kindOfPair yX3_kindOfPair, Cond.code yX3_kindOfPair cX3_kindOfPair 3 (some .int), Cond.fieldLink RX3 9 "RaceWatch$Log" "threads" "[I", Cond.methodLink RX3 81 yX3_isAhead, Cond.instanceMethod yX3_isAhead, Cond.selects RX3 yX3_isAhead yX3_isAhead, Cond.code yX3_isAhead cX3_isAhead 4 (some .boolean), Cond.fieldLink RX3 29 "RaceWatch$Log" "clocks" "LRaceWatch$Clocks;", Cond.methodLink RX3 63 yX1_number]
def wsX3_partOfRace_r2 : List Cond := [Cond.instanceMethod yX1_number, Cond.selects RX1 yX1_number yX1_number, Cond.initialized RX1, Cond.code yX1_number cX1_number 3 (some .int), Cond.fieldLink RX1 21 "RaceWatch$Clocks" "numbers" "[I"]
def wsX3_partOfRace : List Cond := .code yX3_partOfRace cX3_partOfRace 7 (some .int) :: ((wsX3_partOfRace_r1 ++ wsX3_partOfRace_r2) ++ wsX30 ++ wsX10)
def wsX3_countRaces_r1 : List Cond := [Cond.fieldLink RX3 36 "RaceWatch$Log" "raceCounts" "[I", Cond.fieldLink RX3 18 "RaceWatch$Log" "withs" "[I", Cond.fieldLink RX3 33 "RaceWatch$Log" "racesBehind" "[I", Cond.methodLink RX3 78 yX3_kindOfPair, Cond.instanceMethod yX3_kindOfPair, Cond.selects RX3 yX3_kindOfPair yX3_kindOfPair, Cond.initialized RX3, Cond.code yX3_kindOfPair cX3_kindOfPair 3 (some .int), Cond.fieldLink RX3 9 "RaceWatch$Log" "threads" "[I", Cond.fieldLink RX3 15 "RaceWatch$Log" "sorts" "[I", Cond.methodLink RX3 71 yX3_isAccess, Cond.instanceMethod yX3_isAccess, Cond.selects RX3 yX3_isAccess yX3_isAccess, Cond.code yX3_isAccess cX3_isAccess 2 (some .boolean), Cond.methodLink RX3 81 yX3_isAhead, Cond.instanceMethod yX3_isAhead, Cond.selects RX3 yX3_isAhead yX3_isAhead, Cond.code yX3_isAhead cX3_isAhead 4 (some .boolean), Cond.fieldLink RX3 29 "RaceWatch$Log" "clocks" "LRaceWatch$Clocks;", Cond.methodLink RX3 63 yX1_number, Cond.instanceMethod yX1_number, Cond.selects RX1 yX1_number yX1_number, Cond.initialized RX1, Cond.code yX1_number cX1_number 3 (some .int)]
def wsX3_countRaces_r2 : List Cond := [Cond.fieldLink RX1 21 "RaceWatch$Clocks" "numbers" "[I"]
def wsX3_countRaces : List Cond := .code yX3_countRaces cX3_countRaces 5 none :: ((wsX3_countRaces_r1 ++ wsX3_countRaces_r2) ++ wsX30 ++ wsX10)
def wsX4_init : List Cond := .code yX4_init cX4_init 1 none :: ([.methodLink RX4 3 objectInit, .instanceMethod objectInit, .code objectInit ⟨#[0xb1]⟩ 1 none, .fieldLink RX4 9 "RaceWatch$Telling" "faultAt" "I", .classLink RX4 15 RX0, .instantiable RX0 3, .initialized RX0, .fieldLink RX4 18 "RaceWatch$Telling" "book" "LRaceWatch$Book;", .arrayClass .int, .fieldLink RX4 22 "RaceWatch$Telling" "letters" "[I", .fieldLink RX4 26 "RaceWatch$Telling" "lockOf" "[I", .fieldLink RX4 29 "RaceWatch$Telling" "threadBefore" "[I", .instanceMethod yX0_init, .code yX0_init cX0_init 1 none, .methodLink RX0 3 objectInit, .fieldLink RX0 9 "RaceWatch$Book" "locks" "[I", .fieldLink RX0 15 "RaceWatch$Book" "opened" "[I"] ++ wsX40 ++ wsX00)
def wsX4_append : List Cond := .code yX4_append cX4_append 2 (some .int) :: ([.fieldLink RX4 32 "RaceWatch$Telling" "length" "I", .constant RX4 35 (-1000000004), .fieldLink RX4 22 "RaceWatch$Telling" "letters" "[I"] ++ wsX40)
def wsX6_boundOf : List Cond := .code yX6_boundOf cX6_boundOf 1 (some .int) :: ([])
def wsX4_faultOfFigure : List Cond := .code yX4_faultOfFigure cX4_faultOfFigure 2 (some .int) :: ([.fieldLink RX4 52 "RaceWatch$Telling" "item" "I", .static yX6_boundOf, .initialized RX6, .code yX6_boundOf cX6_boundOf 1 (some .int)] ++ wsX40)
def wsX5_goes : List Cond := .code yX5_goes cX5_goes 2 (some .boolean) :: ([.fieldLink RX5 9 "RaceWatch$World" "states" "[I"] ++ wsX50)
def wsX4_open : List Cond := .code yX4_open cX4_open 2 none :: ([.fieldLink RX4 45 "RaceWatch$Telling" "depth" "I", .fieldLink RX4 26 "RaceWatch$Telling" "lockOf" "[I", .fieldLink RX4 29 "RaceWatch$Telling" "threadBefore" "[I", .fieldLink RX4 39 "RaceWatch$Telling" "threadAtIt" "I"] ++ wsX40)
def wsX4_tellThread : List Cond := .code yX4_tellThread cX4_tellThread 3 (some .int) :: ([.fieldLink RX4 39 "RaceWatch$Telling" "threadAtIt" "I", .fieldLink RX4 36 "RaceWatch$Telling" "due" "I", .methodLink RX4 75 yX5_goes, .instanceMethod yX5_goes, .selects RX5 yX5_goes yX5_goes, .initialized RX5, .code yX5_goes cX5_goes 2 (some .boolean), .fieldLink RX5 9 "RaceWatch$World" "states" "[I", .methodLink RX4 81 yX4_open, .instanceMethod yX4_open, .selects RX4 yX4_open yX4_open, .initialized RX4, .code yX4_open cX4_open 2 none, .fieldLink RX4 45 "RaceWatch$Telling" "depth" "I", .fieldLink RX4 26 "RaceWatch$Telling" "lockOf" "[I", .fieldLink RX4 29 "RaceWatch$Telling" "threadBefore" "[I"] ++ wsX40 ++ wsX50)
def wsX5_locksOf : List Cond := .code yX5_locksOf cX5_locksOf 4 (some .int) :: ([.fieldLink RX5 15 "RaceWatch$World" "holders" "[I"] ++ wsX50)
def wsX5_canBe : List Cond := .code yX5_canBe cX5_canBe 4 (some .boolean) :: ([.fieldLink RX5 15 "RaceWatch$World" "holders" "[I", .fieldLink RX5 9 "RaceWatch$World" "states" "[I", .methodLink RX5 90 yX5_goes, .instanceMethod yX5_goes, .selects RX5 yX5_goes yX5_goes, .initialized RX5, .code yX5_goes cX5_goes 2 (some .boolean), .methodLink RX5 82 yX5_locksOf, .instanceMethod yX5_locksOf, .selects RX5 yX5_locksOf yX5_locksOf, .code yX5_locksOf cX5_locksOf 4 (some .int)] ++ wsX50)
def wsX5_stepIsMuch : List Cond := .code yX5_stepIsMuch cX5_stepIsMuch 4 (some .boolean) :: ([.fieldLink RX5 23 "RaceWatch$World" "ofThreads" "LRaceWatch$Clocks;", .constant RX5 98 (2147483647), .methodLink RX5 94 yX1_number, .instanceMethod yX1_number, .selects RX1 yX1_number yX1_number, .initialized RX1, .code yX1_number cX1_number 3 (some .int), .fieldLink RX1 21 "RaceWatch$Clocks" "numbers" "[I"] ++ wsX50 ++ wsX10)
def wsX5_takeIn : List Cond := .code yX5_takeIn cX5_takeIn 4 none :: ([.fieldLink RX5 23 "RaceWatch$World" "ofThreads" "LRaceWatch$Clocks;", .fieldLink RX5 27 "RaceWatch$World" "ofLocks" "LRaceWatch$Clocks;", .fieldLink RX5 15 "RaceWatch$World" "holders" "[I", .fieldLink RX5 30 "RaceWatch$World" "ofSeenCells" "LRaceWatch$Clocks;", .fieldLink RX5 9 "RaceWatch$World" "states" "[I", .methodLink RX5 120 yX1_join, .instanceMethod yX1_join, .selects RX1 yX1_join yX1_join, .initialized RX1, .code yX1_join cX1_join 5 none, .methodLink RX1 9 Lib.Math.max.name, .static Lib.Math.max.name, .initialized "java/lang/Math", .code Lib.Math.max.name Lib.Math.max.code 2 (some .int), .methodLink RX1 25 yX1_number, .instanceMethod yX1_number, .selects RX1 yX1_number yX1_number, .code yX1_number cX1_number 3 (some .int), .fieldLink RX1 21 "RaceWatch$Clocks" "numbers" "[I", .methodLink RX1 28 yX1_set, .instanceMethod yX1_set, .selects RX1 yX1_set yX1_set, .code yX1_set cX1_set 4 none] ++ wsX50 ++ wsX10)
def wsX5_makeStep : List Cond := .code yX5_makeStep cX5_makeStep 3 none :: ([.fieldLink RX5 23 "RaceWatch$World" "ofThreads" "LRaceWatch$Clocks;", .constant RX5 98 (2147483647), .methodLink RX5 94 yX1_number, .instanceMethod yX1_number, .selects RX1 yX1_number yX1_number, .initialized RX1, .code yX1_number cX1_number 3 (some .int), .fieldLink RX1 21 "RaceWatch$Clocks" "numbers" "[I", .methodLink RX5 59 yX1_set, .instanceMethod yX1_set, .selects RX1 yX1_set yX1_set, .code yX1_set cX1_set 4 none] ++ wsX50 ++ wsX10)
def wsX5_handOn_r1 : List Cond := [Cond.fieldLink RX5 27 "RaceWatch$World" "ofLocks" "LRaceWatch$Clocks;", Cond.fieldLink RX5 23 "RaceWatch$World" "ofThreads" "LRaceWatch$Clocks;", Cond.fieldLink RX5 30 "RaceWatch$World" "ofSeenCells" "LRaceWatch$Clocks;", Cond.fieldLink RX5 9 "RaceWatch$World" "states" "[I", Cond.methodLink RX5 124 yX1_copyRow, Cond.instanceMethod yX1_copyRow, Cond.selects RX1 yX1_copyRow yX1_copyRow, Cond.initialized RX1, Cond.code yX1_copyRow cX1_copyRow 4 none, Cond.fieldLink RX1 21 "RaceWatch$Clocks" "numbers" "[I", Cond.methodLink RX1 32 arraycopyName, Cond.native arraycopyName, Cond.static arraycopyName, Cond.initialized "java/lang/System", Cond.methodLink RX5 127 yX5_makeStep, Cond.instanceMethod yX5_makeStep, Cond.selects RX5 yX5_makeStep yX5_makeStep, Cond.initialized RX5, Cond.code yX5_makeStep cX5_makeStep 3 none, Cond.constant RX5 98 (2147483647), Cond.methodLink RX5 94 yX1_number, Cond.instanceMethod yX1_number, Cond.selects RX1 yX1_number yX1_number, Cond.code yX1_number cX1_number 3 (some .int)]
def wsX5_handOn_r2 : List Cond := [Cond.methodLink RX5 59 yX1_set, Cond.instanceMethod yX1_set, Cond.selects RX1 yX1_set yX1_set, Cond.code yX1_set cX1_set 4 none, Cond.methodLink RX5 120 yX1_join, Cond.instanceMethod yX1_join, Cond.selects RX1 yX1_join yX1_join, Cond.code yX1_join cX1_join 5 none, Cond.methodLink RX1 9 Lib.Math.max.name, Cond.static Lib.Math.max.name, Cond.initialized "java/lang/Math", Cond.code Lib.Math.max.name Lib.Math.max.code 2 (some .int), Cond.methodLink RX1 25 yX1_number, Cond.methodLink RX1 28 yX1_set]
def wsX5_handOn : List Cond := .code yX5_handOn cX5_handOn 4 none :: ((wsX5_handOn_r1 ++ wsX5_handOn_r2) ++ wsX50 ++ wsX10)
def wsX5_come_r1 : List Cond := [Cond.fieldLink RX5 43 "RaceWatch$World" "log" "LRaceWatch$Log;", Cond.constant RX5 102 (-1000000004), Cond.fieldLink RX5 23 "RaceWatch$World" "ofThreads" "LRaceWatch$Clocks;", Cond.fieldLink RX5 36 "RaceWatch$World" "cells" "[LRaceWatch$Kept;", Cond.methodLink RX5 99 yX3_hasRoom, Cond.instanceMethod yX3_hasRoom, Cond.selects RX3 yX3_hasRoom yX3_hasRoom, Cond.initialized RX3, Cond.code yX3_hasRoom cX3_hasRoom 2 (some .boolean), Cond.fieldLink RX3 39 "RaceWatch$Log" "count" "I", Cond.methodLink RX5 103 yX5_takeIn, Cond.instanceMethod yX5_takeIn, Cond.selects RX5 yX5_takeIn yX5_takeIn, Cond.initialized RX5, Cond.code yX5_takeIn cX5_takeIn 4 none, Cond.fieldLink RX5 27 "RaceWatch$World" "ofLocks" "LRaceWatch$Clocks;", Cond.fieldLink RX5 15 "RaceWatch$World" "holders" "[I", Cond.fieldLink RX5 30 "RaceWatch$World" "ofSeenCells" "LRaceWatch$Clocks;", Cond.fieldLink RX5 9 "RaceWatch$World" "states" "[I", Cond.methodLink RX5 120 yX1_join, Cond.instanceMethod yX1_join, Cond.selects RX1 yX1_join yX1_join, Cond.initialized RX1, Cond.code yX1_join cX1_join 5 none]
def wsX5_come_r2 : List Cond := [Cond.methodLink RX1 9 Lib.Math.max.name, Cond.static Lib.Math.max.name, Cond.initialized "java/lang/Math", Cond.code Lib.Math.max.name Lib.Math.max.code 2 (some .int), Cond.methodLink RX1 25 yX1_number, Cond.instanceMethod yX1_number, Cond.selects RX1 yX1_number yX1_number, Cond.code yX1_number cX1_number 3 (some .int), Cond.fieldLink RX1 21 "RaceWatch$Clocks" "numbers" "[I", Cond.methodLink RX1 28 yX1_set, Cond.instanceMethod yX1_set, Cond.selects RX1 yX1_set yX1_set, Cond.code yX1_set cX1_set 4 none, Cond.methodLink RX5 82 yX5_locksOf, Cond.instanceMethod yX5_locksOf, Cond.selects RX5 yX5_locksOf yX5_locksOf, Cond.code yX5_locksOf cX5_locksOf 4 (some .int), Cond.methodLink RX5 106 yX3_append, Cond.instanceMethod yX3_append, Cond.selects RX3 yX3_append yX3_append, Cond.code yX3_append cX3_append 7 (some .int), Cond.fieldLink RX3 9 "RaceWatch$Log" "threads" "[I", Cond.fieldLink RX3 15 "RaceWatch$Log" "sorts" "[I", Cond.fieldLink RX3 18 "RaceWatch$Log" "withs" "[I"]
def wsX5_come_r3 : List Cond := [Cond.fieldLink RX3 21 "RaceWatch$Log" "locks" "[I", Cond.fieldLink RX3 29 "RaceWatch$Log" "clocks" "LRaceWatch$Clocks;", Cond.methodLink RX3 59 yX1_copyRow, Cond.instanceMethod yX1_copyRow, Cond.selects RX1 yX1_copyRow yX1_copyRow, Cond.code yX1_copyRow cX1_copyRow 4 none, Cond.methodLink RX1 32 arraycopyName, Cond.native arraycopyName, Cond.static arraycopyName, Cond.initialized "java/lang/System", Cond.methodLink RX5 110 yX3_countRaces, Cond.instanceMethod yX3_countRaces, Cond.selects RX3 yX3_countRaces yX3_countRaces, Cond.code yX3_countRaces cX3_countRaces 5 none, Cond.fieldLink RX3 36 "RaceWatch$Log" "raceCounts" "[I", Cond.fieldLink RX3 33 "RaceWatch$Log" "racesBehind" "[I", Cond.methodLink RX3 78 yX3_kindOfPair, Cond.instanceMethod yX3_kindOfPair, Cond.selects RX3 yX3_kindOfPair yX3_kindOfPair, Cond.code yX3_kindOfPair cX3_kindOfPair 3 (some .int), Cond.methodLink RX3 71 yX3_isAccess, Cond.instanceMethod yX3_isAccess, Cond.selects RX3 yX3_isAccess yX3_isAccess, Cond.code yX3_isAccess cX3_isAccess 2 (some .boolean)]
def wsX5_come_r4 : List Cond := [Cond.methodLink RX3 81 yX3_isAhead, Cond.instanceMethod yX3_isAhead, Cond.selects RX3 yX3_isAhead yX3_isAhead, Cond.code yX3_isAhead cX3_isAhead 4 (some .boolean), Cond.methodLink RX3 63 yX1_number, Cond.methodLink RX5 113 yX2_access, Cond.instanceMethod yX2_access, Cond.selects RX2 yX2_access yX2_access, Cond.initialized RX2, Cond.code yX2_access cX2_access 7 none, Cond.fieldLink RX2 28 "RaceWatch$Kept" "firstEvent" "I", Cond.fieldLink RX2 31 "RaceWatch$Kept" "firstKind" "I", Cond.fieldLink RX2 34 "RaceWatch$Kept" "guards" "I", Cond.fieldLink RX2 15 "RaceWatch$Kept" "writer" "I", Cond.fieldLink RX2 19 "RaceWatch$Kept" "writeNumber" "I", Cond.methodLink RX2 63 yX2_kindOf, Cond.instanceMethod yX2_kindOf, Cond.selects RX2 yX2_kindOf yX2_kindOf, Cond.code yX2_kindOf cX2_kindOf 5 (some .int), Cond.methodLink RX2 53 yX1_number, Cond.methodLink RX2 59 yX2_readsAreAhead, Cond.instanceMethod yX2_readsAreAhead, Cond.selects RX2 yX2_readsAreAhead yX2_readsAreAhead, Cond.code yX2_readsAreAhead cX2_readsAreAhead 4 (some .boolean)]
def wsX5_come_r5 : List Cond := [Cond.fieldLink RX2 43 "RaceWatch$Kept" "isShared" "Z", Cond.fieldLink RX2 37 "RaceWatch$Kept" "reader" "I", Cond.fieldLink RX2 40 "RaceWatch$Kept" "readNumber" "I", Cond.fieldLink RX2 9 "RaceWatch$Kept" "readNumbers" "[I", Cond.methodLink RX2 22 yX2_forgetReads, Cond.instanceMethod yX2_forgetReads, Cond.selects RX2 yX2_forgetReads yX2_forgetReads, Cond.code yX2_forgetReads cX2_forgetReads 1 none, Cond.methodLink RX2 75 yJ7_fill_53178, Cond.static yJ7_fill_53178, Cond.initialized RJ7, Cond.code yJ7_fill_53178 cJ7_fill_53178 4 none, Cond.methodLink RX2 67 yX2_keepRead, Cond.instanceMethod yX2_keepRead, Cond.selects RX2 yX2_keepRead yX2_keepRead, Cond.code yX2_keepRead cX2_keepRead 4 none, Cond.methodLink RX2 71 yX2_share, Cond.instanceMethod yX2_share, Cond.selects RX2 yX2_share yX2_share, Cond.code yX2_share cX2_share 3 none, Cond.fieldLink RX2 25 "RaceWatch$Kept" "promotions" "I", Cond.methodLink RX5 117 yX5_handOn, Cond.instanceMethod yX5_handOn, Cond.selects RX5 yX5_handOn yX5_handOn]
def wsX5_come_r6 : List Cond := [Cond.code yX5_handOn cX5_handOn 4 none, Cond.methodLink RX5 124 yX1_copyRow, Cond.methodLink RX5 127 yX5_makeStep, Cond.instanceMethod yX5_makeStep, Cond.selects RX5 yX5_makeStep yX5_makeStep, Cond.code yX5_makeStep cX5_makeStep 3 none, Cond.constant RX5 98 (2147483647), Cond.methodLink RX5 94 yX1_number, Cond.methodLink RX5 59 yX1_set]
def wsX5_come : List Cond := .code yX5_come cX5_come 6 (some .int) :: ((wsX5_come_r1 ++ (wsX5_come_r2 ++ (wsX5_come_r3 ++ (wsX5_come_r4 ++ (wsX5_come_r5 ++ wsX5_come_r6))))) ++ wsX50 ++ wsX30 ++ wsX10 ++ wsX20)
def wsX4_tellEvent_r1 : List Cond := [Cond.fieldLink RX4 52 "RaceWatch$Telling" "item" "I", Cond.fieldLink RX4 85 "RaceWatch$World" "log" "LRaceWatch$Log;", Cond.fieldLink RX4 42 "RaceWatch$Telling" "openRegions" "I", Cond.fieldLink RX4 39 "RaceWatch$Telling" "threadAtIt" "I", Cond.fieldLink RX4 36 "RaceWatch$Telling" "due" "I", Cond.fieldLink RX4 18 "RaceWatch$Telling" "book" "LRaceWatch$Book;", Cond.methodLink RX4 89 yX3_hasRoom, Cond.instanceMethod yX3_hasRoom, Cond.selects RX3 yX3_hasRoom yX3_hasRoom, Cond.initialized RX3, Cond.code yX3_hasRoom cX3_hasRoom 2 (some .boolean), Cond.fieldLink RX3 39 "RaceWatch$Log" "count" "I", Cond.methodLink RX4 94 yX5_canBe, Cond.instanceMethod yX5_canBe, Cond.selects RX5 yX5_canBe yX5_canBe, Cond.initialized RX5, Cond.code yX5_canBe cX5_canBe 4 (some .boolean), Cond.fieldLink RX5 15 "RaceWatch$World" "holders" "[I", Cond.fieldLink RX5 9 "RaceWatch$World" "states" "[I", Cond.methodLink RX5 90 yX5_goes, Cond.instanceMethod yX5_goes, Cond.selects RX5 yX5_goes yX5_goes, Cond.code yX5_goes cX5_goes 2 (some .boolean), Cond.methodLink RX5 82 yX5_locksOf]
def wsX4_tellEvent_r2 : List Cond := [Cond.instanceMethod yX5_locksOf, Cond.selects RX5 yX5_locksOf yX5_locksOf, Cond.code yX5_locksOf cX5_locksOf 4 (some .int), Cond.methodLink RX4 98 yX5_stepIsMuch, Cond.instanceMethod yX5_stepIsMuch, Cond.selects RX5 yX5_stepIsMuch yX5_stepIsMuch, Cond.code yX5_stepIsMuch cX5_stepIsMuch 4 (some .boolean), Cond.fieldLink RX5 23 "RaceWatch$World" "ofThreads" "LRaceWatch$Clocks;", Cond.constant RX5 98 (2147483647), Cond.methodLink RX5 94 yX1_number, Cond.instanceMethod yX1_number, Cond.selects RX1 yX1_number yX1_number, Cond.initialized RX1, Cond.code yX1_number cX1_number 3 (some .int), Cond.fieldLink RX1 21 "RaceWatch$Clocks" "numbers" "[I", Cond.methodLink RX4 102 yX5_come, Cond.instanceMethod yX5_come, Cond.selects RX5 yX5_come yX5_come, Cond.code yX5_come cX5_come 6 (some .int), Cond.fieldLink RX5 43 "RaceWatch$World" "log" "LRaceWatch$Log;", Cond.constant RX5 102 (-1000000004), Cond.fieldLink RX5 36 "RaceWatch$World" "cells" "[LRaceWatch$Kept;", Cond.methodLink RX5 99 yX3_hasRoom, Cond.methodLink RX5 103 yX5_takeIn]
def wsX4_tellEvent_r3 : List Cond := [Cond.instanceMethod yX5_takeIn, Cond.selects RX5 yX5_takeIn yX5_takeIn, Cond.code yX5_takeIn cX5_takeIn 4 none, Cond.fieldLink RX5 27 "RaceWatch$World" "ofLocks" "LRaceWatch$Clocks;", Cond.fieldLink RX5 30 "RaceWatch$World" "ofSeenCells" "LRaceWatch$Clocks;", Cond.methodLink RX5 120 yX1_join, Cond.instanceMethod yX1_join, Cond.selects RX1 yX1_join yX1_join, Cond.code yX1_join cX1_join 5 none, Cond.methodLink RX1 9 Lib.Math.max.name, Cond.static Lib.Math.max.name, Cond.initialized "java/lang/Math", Cond.code Lib.Math.max.name Lib.Math.max.code 2 (some .int), Cond.methodLink RX1 25 yX1_number, Cond.methodLink RX1 28 yX1_set, Cond.instanceMethod yX1_set, Cond.selects RX1 yX1_set yX1_set, Cond.code yX1_set cX1_set 4 none, Cond.methodLink RX5 106 yX3_append, Cond.instanceMethod yX3_append, Cond.selects RX3 yX3_append yX3_append, Cond.code yX3_append cX3_append 7 (some .int), Cond.fieldLink RX3 9 "RaceWatch$Log" "threads" "[I", Cond.fieldLink RX3 15 "RaceWatch$Log" "sorts" "[I"]
def wsX4_tellEvent_r4 : List Cond := [Cond.fieldLink RX3 18 "RaceWatch$Log" "withs" "[I", Cond.fieldLink RX3 21 "RaceWatch$Log" "locks" "[I", Cond.fieldLink RX3 29 "RaceWatch$Log" "clocks" "LRaceWatch$Clocks;", Cond.methodLink RX3 59 yX1_copyRow, Cond.instanceMethod yX1_copyRow, Cond.selects RX1 yX1_copyRow yX1_copyRow, Cond.code yX1_copyRow cX1_copyRow 4 none, Cond.methodLink RX1 32 arraycopyName, Cond.native arraycopyName, Cond.static arraycopyName, Cond.initialized "java/lang/System", Cond.methodLink RX5 110 yX3_countRaces, Cond.instanceMethod yX3_countRaces, Cond.selects RX3 yX3_countRaces yX3_countRaces, Cond.code yX3_countRaces cX3_countRaces 5 none, Cond.fieldLink RX3 36 "RaceWatch$Log" "raceCounts" "[I", Cond.fieldLink RX3 33 "RaceWatch$Log" "racesBehind" "[I", Cond.methodLink RX3 78 yX3_kindOfPair, Cond.instanceMethod yX3_kindOfPair, Cond.selects RX3 yX3_kindOfPair yX3_kindOfPair, Cond.code yX3_kindOfPair cX3_kindOfPair 3 (some .int), Cond.methodLink RX3 71 yX3_isAccess, Cond.instanceMethod yX3_isAccess, Cond.selects RX3 yX3_isAccess yX3_isAccess]
def wsX4_tellEvent_r5 : List Cond := [Cond.code yX3_isAccess cX3_isAccess 2 (some .boolean), Cond.methodLink RX3 81 yX3_isAhead, Cond.instanceMethod yX3_isAhead, Cond.selects RX3 yX3_isAhead yX3_isAhead, Cond.code yX3_isAhead cX3_isAhead 4 (some .boolean), Cond.methodLink RX3 63 yX1_number, Cond.methodLink RX5 113 yX2_access, Cond.instanceMethod yX2_access, Cond.selects RX2 yX2_access yX2_access, Cond.initialized RX2, Cond.code yX2_access cX2_access 7 none, Cond.fieldLink RX2 28 "RaceWatch$Kept" "firstEvent" "I", Cond.fieldLink RX2 31 "RaceWatch$Kept" "firstKind" "I", Cond.fieldLink RX2 34 "RaceWatch$Kept" "guards" "I", Cond.fieldLink RX2 15 "RaceWatch$Kept" "writer" "I", Cond.fieldLink RX2 19 "RaceWatch$Kept" "writeNumber" "I", Cond.methodLink RX2 63 yX2_kindOf, Cond.instanceMethod yX2_kindOf, Cond.selects RX2 yX2_kindOf yX2_kindOf, Cond.code yX2_kindOf cX2_kindOf 5 (some .int), Cond.methodLink RX2 53 yX1_number, Cond.methodLink RX2 59 yX2_readsAreAhead, Cond.instanceMethod yX2_readsAreAhead, Cond.selects RX2 yX2_readsAreAhead yX2_readsAreAhead]
def wsX4_tellEvent_r6 : List Cond := [Cond.code yX2_readsAreAhead cX2_readsAreAhead 4 (some .boolean), Cond.fieldLink RX2 43 "RaceWatch$Kept" "isShared" "Z", Cond.fieldLink RX2 37 "RaceWatch$Kept" "reader" "I", Cond.fieldLink RX2 40 "RaceWatch$Kept" "readNumber" "I", Cond.fieldLink RX2 9 "RaceWatch$Kept" "readNumbers" "[I", Cond.methodLink RX2 22 yX2_forgetReads, Cond.instanceMethod yX2_forgetReads, Cond.selects RX2 yX2_forgetReads yX2_forgetReads, Cond.code yX2_forgetReads cX2_forgetReads 1 none, Cond.methodLink RX2 75 yJ7_fill_53178, Cond.static yJ7_fill_53178, Cond.initialized RJ7, Cond.code yJ7_fill_53178 cJ7_fill_53178 4 none, Cond.methodLink RX2 67 yX2_keepRead, Cond.instanceMethod yX2_keepRead, Cond.selects RX2 yX2_keepRead yX2_keepRead, Cond.code yX2_keepRead cX2_keepRead 4 none, Cond.methodLink RX2 71 yX2_share, Cond.instanceMethod yX2_share, Cond.selects RX2 yX2_share yX2_share, Cond.code yX2_share cX2_share 3 none, Cond.fieldLink RX2 25 "RaceWatch$Kept" "promotions" "I", Cond.methodLink RX5 117 yX5_handOn, Cond.instanceMethod yX5_handOn]
def wsX4_tellEvent_r7 : List Cond := [Cond.selects RX5 yX5_handOn yX5_handOn, Cond.code yX5_handOn cX5_handOn 4 none, Cond.methodLink RX5 124 yX1_copyRow, Cond.methodLink RX5 127 yX5_makeStep, Cond.instanceMethod yX5_makeStep, Cond.selects RX5 yX5_makeStep yX5_makeStep, Cond.code yX5_makeStep cX5_makeStep 3 none, Cond.methodLink RX5 59 yX1_set, Cond.methodLink RX4 81 yX4_open, Cond.instanceMethod yX4_open, Cond.selects RX4 yX4_open yX4_open, Cond.initialized RX4, Cond.code yX4_open cX4_open 2 none, Cond.fieldLink RX4 45 "RaceWatch$Telling" "depth" "I", Cond.fieldLink RX4 26 "RaceWatch$Telling" "lockOf" "[I", Cond.fieldLink RX4 29 "RaceWatch$Telling" "threadBefore" "[I", Cond.methodLink RX4 106 yX0_enter, Cond.instanceMethod yX0_enter, Cond.selects RX0 yX0_enter yX0_enter, Cond.initialized RX0, Cond.code yX0_enter cX0_enter 3 none, Cond.fieldLink RX0 9 "RaceWatch$Book" "locks" "[I", Cond.methodLink RX0 18 arraycopyName, Cond.fieldLink RX0 15 "RaceWatch$Book" "opened" "[I"]
def wsX4_tellEvent_r8 : List Cond := [Cond.fieldLink RX0 24 "RaceWatch$Book" "count" "I", Cond.methodLink RX0 28 Lib.Math.min.name, Cond.static Lib.Math.min.name, Cond.code Lib.Math.min.name Lib.Math.min.code 2 (some .int)]
def wsX4_tellEvent : List Cond := .code yX4_tellEvent cX4_tellEvent 4 (some .int) :: ((wsX4_tellEvent_r1 ++ (wsX4_tellEvent_r2 ++ (wsX4_tellEvent_r3 ++ (wsX4_tellEvent_r4 ++ (wsX4_tellEvent_r5 ++ (wsX4_tellEvent_r6 ++ (wsX4_tellEvent_r7 ++ wsX4_tellEvent_r8))))))) ++ wsX40 ++ wsX50 ++ wsX30 ++ wsX10 ++ wsX20 ++ wsX00)
def wsX4_shutLast_r1 : List Cond := [Cond.fieldLink RX4 45 "RaceWatch$Telling" "depth" "I", Cond.fieldLink RX4 29 "RaceWatch$Telling" "threadBefore" "[I", Cond.fieldLink RX4 39 "RaceWatch$Telling" "threadAtIt" "I", Cond.fieldLink RX4 26 "RaceWatch$Telling" "lockOf" "[I", Cond.fieldLink RX4 42 "RaceWatch$Telling" "openRegions" "I", Cond.fieldLink RX4 18 "RaceWatch$Telling" "book" "LRaceWatch$Book;", Cond.methodLink RX4 102 yX5_come, Cond.instanceMethod yX5_come, Cond.selects RX5 yX5_come yX5_come, Cond.initialized RX5, Cond.code yX5_come cX5_come 6 (some .int), Cond.fieldLink RX5 43 "RaceWatch$World" "log" "LRaceWatch$Log;", Cond.constant RX5 102 (-1000000004), Cond.fieldLink RX5 23 "RaceWatch$World" "ofThreads" "LRaceWatch$Clocks;", Cond.fieldLink RX5 36 "RaceWatch$World" "cells" "[LRaceWatch$Kept;", Cond.methodLink RX5 99 yX3_hasRoom, Cond.instanceMethod yX3_hasRoom, Cond.selects RX3 yX3_hasRoom yX3_hasRoom, Cond.initialized RX3, Cond.code yX3_hasRoom cX3_hasRoom 2 (some .boolean), Cond.fieldLink RX3 39 "RaceWatch$Log" "count" "I", Cond.methodLink RX5 103 yX5_takeIn, Cond.instanceMethod yX5_takeIn, Cond.selects RX5 yX5_takeIn yX5_takeIn]
def wsX4_shutLast_r2 : List Cond := [Cond.code yX5_takeIn cX5_takeIn 4 none, Cond.fieldLink RX5 27 "RaceWatch$World" "ofLocks" "LRaceWatch$Clocks;", Cond.fieldLink RX5 15 "RaceWatch$World" "holders" "[I", Cond.fieldLink RX5 30 "RaceWatch$World" "ofSeenCells" "LRaceWatch$Clocks;", Cond.fieldLink RX5 9 "RaceWatch$World" "states" "[I", Cond.methodLink RX5 120 yX1_join, Cond.instanceMethod yX1_join, Cond.selects RX1 yX1_join yX1_join, Cond.initialized RX1, Cond.code yX1_join cX1_join 5 none, Cond.methodLink RX1 9 Lib.Math.max.name, Cond.static Lib.Math.max.name, Cond.initialized "java/lang/Math", Cond.code Lib.Math.max.name Lib.Math.max.code 2 (some .int), Cond.methodLink RX1 25 yX1_number, Cond.instanceMethod yX1_number, Cond.selects RX1 yX1_number yX1_number, Cond.code yX1_number cX1_number 3 (some .int), Cond.fieldLink RX1 21 "RaceWatch$Clocks" "numbers" "[I", Cond.methodLink RX1 28 yX1_set, Cond.instanceMethod yX1_set, Cond.selects RX1 yX1_set yX1_set, Cond.code yX1_set cX1_set 4 none, Cond.methodLink RX5 82 yX5_locksOf]
def wsX4_shutLast_r3 : List Cond := [Cond.instanceMethod yX5_locksOf, Cond.selects RX5 yX5_locksOf yX5_locksOf, Cond.code yX5_locksOf cX5_locksOf 4 (some .int), Cond.methodLink RX5 106 yX3_append, Cond.instanceMethod yX3_append, Cond.selects RX3 yX3_append yX3_append, Cond.code yX3_append cX3_append 7 (some .int), Cond.fieldLink RX3 9 "RaceWatch$Log" "threads" "[I", Cond.fieldLink RX3 15 "RaceWatch$Log" "sorts" "[I", Cond.fieldLink RX3 18 "RaceWatch$Log" "withs" "[I", Cond.fieldLink RX3 21 "RaceWatch$Log" "locks" "[I", Cond.fieldLink RX3 29 "RaceWatch$Log" "clocks" "LRaceWatch$Clocks;", Cond.methodLink RX3 59 yX1_copyRow, Cond.instanceMethod yX1_copyRow, Cond.selects RX1 yX1_copyRow yX1_copyRow, Cond.code yX1_copyRow cX1_copyRow 4 none, Cond.methodLink RX1 32 arraycopyName, Cond.native arraycopyName, Cond.static arraycopyName, Cond.initialized "java/lang/System", Cond.methodLink RX5 110 yX3_countRaces, Cond.instanceMethod yX3_countRaces, Cond.selects RX3 yX3_countRaces yX3_countRaces, Cond.code yX3_countRaces cX3_countRaces 5 none]
def wsX4_shutLast_r4 : List Cond := [Cond.fieldLink RX3 36 "RaceWatch$Log" "raceCounts" "[I", Cond.fieldLink RX3 33 "RaceWatch$Log" "racesBehind" "[I", Cond.methodLink RX3 78 yX3_kindOfPair, Cond.instanceMethod yX3_kindOfPair, Cond.selects RX3 yX3_kindOfPair yX3_kindOfPair, Cond.code yX3_kindOfPair cX3_kindOfPair 3 (some .int), Cond.methodLink RX3 71 yX3_isAccess, Cond.instanceMethod yX3_isAccess, Cond.selects RX3 yX3_isAccess yX3_isAccess, Cond.code yX3_isAccess cX3_isAccess 2 (some .boolean), Cond.methodLink RX3 81 yX3_isAhead, Cond.instanceMethod yX3_isAhead, Cond.selects RX3 yX3_isAhead yX3_isAhead, Cond.code yX3_isAhead cX3_isAhead 4 (some .boolean), Cond.methodLink RX3 63 yX1_number, Cond.methodLink RX5 113 yX2_access, Cond.instanceMethod yX2_access, Cond.selects RX2 yX2_access yX2_access, Cond.initialized RX2, Cond.code yX2_access cX2_access 7 none, Cond.fieldLink RX2 28 "RaceWatch$Kept" "firstEvent" "I", Cond.fieldLink RX2 31 "RaceWatch$Kept" "firstKind" "I", Cond.fieldLink RX2 34 "RaceWatch$Kept" "guards" "I", Cond.fieldLink RX2 15 "RaceWatch$Kept" "writer" "I"]
def wsX4_shutLast_r5 : List Cond := [Cond.fieldLink RX2 19 "RaceWatch$Kept" "writeNumber" "I", Cond.methodLink RX2 63 yX2_kindOf, Cond.instanceMethod yX2_kindOf, Cond.selects RX2 yX2_kindOf yX2_kindOf, Cond.code yX2_kindOf cX2_kindOf 5 (some .int), Cond.methodLink RX2 53 yX1_number, Cond.methodLink RX2 59 yX2_readsAreAhead, Cond.instanceMethod yX2_readsAreAhead, Cond.selects RX2 yX2_readsAreAhead yX2_readsAreAhead, Cond.code yX2_readsAreAhead cX2_readsAreAhead 4 (some .boolean), Cond.fieldLink RX2 43 "RaceWatch$Kept" "isShared" "Z", Cond.fieldLink RX2 37 "RaceWatch$Kept" "reader" "I", Cond.fieldLink RX2 40 "RaceWatch$Kept" "readNumber" "I", Cond.fieldLink RX2 9 "RaceWatch$Kept" "readNumbers" "[I", Cond.methodLink RX2 22 yX2_forgetReads, Cond.instanceMethod yX2_forgetReads, Cond.selects RX2 yX2_forgetReads yX2_forgetReads, Cond.code yX2_forgetReads cX2_forgetReads 1 none, Cond.methodLink RX2 75 yJ7_fill_53178, Cond.static yJ7_fill_53178, Cond.initialized RJ7, Cond.code yJ7_fill_53178 cJ7_fill_53178 4 none, Cond.methodLink RX2 67 yX2_keepRead, Cond.instanceMethod yX2_keepRead]
def wsX4_shutLast_r6 : List Cond := [Cond.selects RX2 yX2_keepRead yX2_keepRead, Cond.code yX2_keepRead cX2_keepRead 4 none, Cond.methodLink RX2 71 yX2_share, Cond.instanceMethod yX2_share, Cond.selects RX2 yX2_share yX2_share, Cond.code yX2_share cX2_share 3 none, Cond.fieldLink RX2 25 "RaceWatch$Kept" "promotions" "I", Cond.methodLink RX5 117 yX5_handOn, Cond.instanceMethod yX5_handOn, Cond.selects RX5 yX5_handOn yX5_handOn, Cond.code yX5_handOn cX5_handOn 4 none, Cond.methodLink RX5 124 yX1_copyRow, Cond.methodLink RX5 127 yX5_makeStep, Cond.instanceMethod yX5_makeStep, Cond.selects RX5 yX5_makeStep yX5_makeStep, Cond.code yX5_makeStep cX5_makeStep 3 none, Cond.constant RX5 98 (2147483647), Cond.methodLink RX5 94 yX1_number, Cond.methodLink RX5 59 yX1_set, Cond.methodLink RX4 106 yX0_enter, Cond.instanceMethod yX0_enter, Cond.selects RX0 yX0_enter yX0_enter, Cond.initialized RX0, Cond.code yX0_enter cX0_enter 3 none]
def wsX4_shutLast_r7 : List Cond := [Cond.fieldLink RX0 9 "RaceWatch$Book" "locks" "[I", Cond.methodLink RX0 18 arraycopyName, Cond.fieldLink RX0 15 "RaceWatch$Book" "opened" "[I", Cond.fieldLink RX0 24 "RaceWatch$Book" "count" "I", Cond.methodLink RX0 28 Lib.Math.min.name, Cond.static Lib.Math.min.name, Cond.code Lib.Math.min.name Lib.Math.min.code 2 (some .int)]
def wsX4_shutLast : List Cond := .code yX4_shutLast cX4_shutLast 3 none :: ((wsX4_shutLast_r1 ++ (wsX4_shutLast_r2 ++ (wsX4_shutLast_r3 ++ (wsX4_shutLast_r4 ++ (wsX4_shutLast_r5 ++ (wsX4_shutLast_r6 ++ wsX4_shutLast_r7)))))) ++ wsX40 ++ wsX50 ++ wsX30 ++ wsX10 ++ wsX20 ++ wsX00)
def wsX4_itemOf : List Cond := .code yX4_itemOf cX4_itemOf 1 (some .int) :: ([])
def wsX4_tellSign : List Cond := .code yX4_tellSign cX4_tellSign 3 (some .int) :: ([.fieldLink RX4 36 "RaceWatch$Telling" "due" "I", .fieldLink RX4 52 "RaceWatch$Telling" "item" "I", .methodLink RX4 72 yX4_itemOf, .static yX4_itemOf, .initialized RX4, .code yX4_itemOf cX4_itemOf 1 (some .int)] ++ wsX40)
def wsX4_tell_r1 : List Cond := [Cond.fieldLink RX4 36 "RaceWatch$Telling" "due" "I", Cond.fieldLink RX4 39 "RaceWatch$Telling" "threadAtIt" "I", Cond.fieldLink RX4 42 "RaceWatch$Telling" "openRegions" "I", Cond.fieldLink RX4 45 "RaceWatch$Telling" "depth" "I", Cond.fieldLink RX4 32 "RaceWatch$Telling" "length" "I", Cond.fieldLink RX4 22 "RaceWatch$Telling" "letters" "[I", Cond.fieldLink RX4 52 "RaceWatch$Telling" "item" "I", Cond.fieldLink RX4 9 "RaceWatch$Telling" "faultAt" "I", Cond.methodLink RX4 48 yX4_faultOfFigure, Cond.instanceMethod yX4_faultOfFigure, Cond.selects RX4 yX4_faultOfFigure yX4_faultOfFigure, Cond.initialized RX4, Cond.code yX4_faultOfFigure cX4_faultOfFigure 2 (some .int), Cond.static yX6_boundOf, Cond.initialized RX6, Cond.code yX6_boundOf cX6_boundOf 1 (some .int), Cond.methodLink RX4 55 yX4_tellThread, Cond.instanceMethod yX4_tellThread, Cond.selects RX4 yX4_tellThread yX4_tellThread, Cond.code yX4_tellThread cX4_tellThread 3 (some .int), Cond.methodLink RX4 75 yX5_goes, Cond.instanceMethod yX5_goes, Cond.selects RX5 yX5_goes yX5_goes, Cond.initialized RX5]
def wsX4_tell_r2 : List Cond := [Cond.code yX5_goes cX5_goes 2 (some .boolean), Cond.fieldLink RX5 9 "RaceWatch$World" "states" "[I", Cond.methodLink RX4 81 yX4_open, Cond.instanceMethod yX4_open, Cond.selects RX4 yX4_open yX4_open, Cond.code yX4_open cX4_open 2 none, Cond.fieldLink RX4 26 "RaceWatch$Telling" "lockOf" "[I", Cond.fieldLink RX4 29 "RaceWatch$Telling" "threadBefore" "[I", Cond.methodLink RX4 59 yX4_tellEvent, Cond.instanceMethod yX4_tellEvent, Cond.selects RX4 yX4_tellEvent yX4_tellEvent, Cond.code yX4_tellEvent cX4_tellEvent 4 (some .int), Cond.fieldLink RX4 85 "RaceWatch$World" "log" "LRaceWatch$Log;", Cond.fieldLink RX4 18 "RaceWatch$Telling" "book" "LRaceWatch$Book;", Cond.methodLink RX4 89 yX3_hasRoom, Cond.instanceMethod yX3_hasRoom, Cond.selects RX3 yX3_hasRoom yX3_hasRoom, Cond.initialized RX3, Cond.code yX3_hasRoom cX3_hasRoom 2 (some .boolean), Cond.fieldLink RX3 39 "RaceWatch$Log" "count" "I", Cond.methodLink RX4 94 yX5_canBe, Cond.instanceMethod yX5_canBe, Cond.selects RX5 yX5_canBe yX5_canBe, Cond.code yX5_canBe cX5_canBe 4 (some .boolean)]
def wsX4_tell_r3 : List Cond := [Cond.fieldLink RX5 15 "RaceWatch$World" "holders" "[I", Cond.methodLink RX5 90 yX5_goes, Cond.methodLink RX5 82 yX5_locksOf, Cond.instanceMethod yX5_locksOf, Cond.selects RX5 yX5_locksOf yX5_locksOf, Cond.code yX5_locksOf cX5_locksOf 4 (some .int), Cond.methodLink RX4 98 yX5_stepIsMuch, Cond.instanceMethod yX5_stepIsMuch, Cond.selects RX5 yX5_stepIsMuch yX5_stepIsMuch, Cond.code yX5_stepIsMuch cX5_stepIsMuch 4 (some .boolean), Cond.fieldLink RX5 23 "RaceWatch$World" "ofThreads" "LRaceWatch$Clocks;", Cond.constant RX5 98 (2147483647), Cond.methodLink RX5 94 yX1_number, Cond.instanceMethod yX1_number, Cond.selects RX1 yX1_number yX1_number, Cond.initialized RX1, Cond.code yX1_number cX1_number 3 (some .int), Cond.fieldLink RX1 21 "RaceWatch$Clocks" "numbers" "[I", Cond.methodLink RX4 102 yX5_come, Cond.instanceMethod yX5_come, Cond.selects RX5 yX5_come yX5_come, Cond.code yX5_come cX5_come 6 (some .int), Cond.fieldLink RX5 43 "RaceWatch$World" "log" "LRaceWatch$Log;", Cond.constant RX5 102 (-1000000004)]
def wsX4_tell_r4 : List Cond := [Cond.fieldLink RX5 36 "RaceWatch$World" "cells" "[LRaceWatch$Kept;", Cond.methodLink RX5 99 yX3_hasRoom, Cond.methodLink RX5 103 yX5_takeIn, Cond.instanceMethod yX5_takeIn, Cond.selects RX5 yX5_takeIn yX5_takeIn, Cond.code yX5_takeIn cX5_takeIn 4 none, Cond.fieldLink RX5 27 "RaceWatch$World" "ofLocks" "LRaceWatch$Clocks;", Cond.fieldLink RX5 30 "RaceWatch$World" "ofSeenCells" "LRaceWatch$Clocks;", Cond.methodLink RX5 120 yX1_join, Cond.instanceMethod yX1_join, Cond.selects RX1 yX1_join yX1_join, Cond.code yX1_join cX1_join 5 none, Cond.methodLink RX1 9 Lib.Math.max.name, Cond.static Lib.Math.max.name, Cond.initialized "java/lang/Math", Cond.code Lib.Math.max.name Lib.Math.max.code 2 (some .int), Cond.methodLink RX1 25 yX1_number, Cond.methodLink RX1 28 yX1_set, Cond.instanceMethod yX1_set, Cond.selects RX1 yX1_set yX1_set, Cond.code yX1_set cX1_set 4 none, Cond.methodLink RX5 106 yX3_append, Cond.instanceMethod yX3_append, Cond.selects RX3 yX3_append yX3_append]
def wsX4_tell_r5 : List Cond := [Cond.code yX3_append cX3_append 7 (some .int), Cond.fieldLink RX3 9 "RaceWatch$Log" "threads" "[I", Cond.fieldLink RX3 15 "RaceWatch$Log" "sorts" "[I", Cond.fieldLink RX3 18 "RaceWatch$Log" "withs" "[I", Cond.fieldLink RX3 21 "RaceWatch$Log" "locks" "[I", Cond.fieldLink RX3 29 "RaceWatch$Log" "clocks" "LRaceWatch$Clocks;", Cond.methodLink RX3 59 yX1_copyRow, Cond.instanceMethod yX1_copyRow, Cond.selects RX1 yX1_copyRow yX1_copyRow, Cond.code yX1_copyRow cX1_copyRow 4 none, Cond.methodLink RX1 32 arraycopyName, Cond.native arraycopyName, Cond.static arraycopyName, Cond.initialized "java/lang/System", Cond.methodLink RX5 110 yX3_countRaces, Cond.instanceMethod yX3_countRaces, Cond.selects RX3 yX3_countRaces yX3_countRaces, Cond.code yX3_countRaces cX3_countRaces 5 none, Cond.fieldLink RX3 36 "RaceWatch$Log" "raceCounts" "[I", Cond.fieldLink RX3 33 "RaceWatch$Log" "racesBehind" "[I", Cond.methodLink RX3 78 yX3_kindOfPair, Cond.instanceMethod yX3_kindOfPair, Cond.selects RX3 yX3_kindOfPair yX3_kindOfPair, Cond.code yX3_kindOfPair cX3_kindOfPair 3 (some .int)]
def wsX4_tell_r6 : List Cond := [Cond.methodLink RX3 71 yX3_isAccess, Cond.instanceMethod yX3_isAccess, Cond.selects RX3 yX3_isAccess yX3_isAccess, Cond.code yX3_isAccess cX3_isAccess 2 (some .boolean), Cond.methodLink RX3 81 yX3_isAhead, Cond.instanceMethod yX3_isAhead, Cond.selects RX3 yX3_isAhead yX3_isAhead, Cond.code yX3_isAhead cX3_isAhead 4 (some .boolean), Cond.methodLink RX3 63 yX1_number, Cond.methodLink RX5 113 yX2_access, Cond.instanceMethod yX2_access, Cond.selects RX2 yX2_access yX2_access, Cond.initialized RX2, Cond.code yX2_access cX2_access 7 none, Cond.fieldLink RX2 28 "RaceWatch$Kept" "firstEvent" "I", Cond.fieldLink RX2 31 "RaceWatch$Kept" "firstKind" "I", Cond.fieldLink RX2 34 "RaceWatch$Kept" "guards" "I", Cond.fieldLink RX2 15 "RaceWatch$Kept" "writer" "I", Cond.fieldLink RX2 19 "RaceWatch$Kept" "writeNumber" "I", Cond.methodLink RX2 63 yX2_kindOf, Cond.instanceMethod yX2_kindOf, Cond.selects RX2 yX2_kindOf yX2_kindOf, Cond.code yX2_kindOf cX2_kindOf 5 (some .int), Cond.methodLink RX2 53 yX1_number]
def wsX4_tell_r7 : List Cond := [Cond.methodLink RX2 59 yX2_readsAreAhead, Cond.instanceMethod yX2_readsAreAhead, Cond.selects RX2 yX2_readsAreAhead yX2_readsAreAhead, Cond.code yX2_readsAreAhead cX2_readsAreAhead 4 (some .boolean), Cond.fieldLink RX2 43 "RaceWatch$Kept" "isShared" "Z", Cond.fieldLink RX2 37 "RaceWatch$Kept" "reader" "I", Cond.fieldLink RX2 40 "RaceWatch$Kept" "readNumber" "I", Cond.fieldLink RX2 9 "RaceWatch$Kept" "readNumbers" "[I", Cond.methodLink RX2 22 yX2_forgetReads, Cond.instanceMethod yX2_forgetReads, Cond.selects RX2 yX2_forgetReads yX2_forgetReads, Cond.code yX2_forgetReads cX2_forgetReads 1 none, Cond.methodLink RX2 75 yJ7_fill_53178, Cond.static yJ7_fill_53178, Cond.initialized RJ7, Cond.code yJ7_fill_53178 cJ7_fill_53178 4 none, Cond.methodLink RX2 67 yX2_keepRead, Cond.instanceMethod yX2_keepRead, Cond.selects RX2 yX2_keepRead yX2_keepRead, Cond.code yX2_keepRead cX2_keepRead 4 none, Cond.methodLink RX2 71 yX2_share, Cond.instanceMethod yX2_share, Cond.selects RX2 yX2_share yX2_share, Cond.code yX2_share cX2_share 3 none]
def wsX4_tell_r8 : List Cond := [Cond.fieldLink RX2 25 "RaceWatch$Kept" "promotions" "I", Cond.methodLink RX5 117 yX5_handOn, Cond.instanceMethod yX5_handOn, Cond.selects RX5 yX5_handOn yX5_handOn, Cond.code yX5_handOn cX5_handOn 4 none, Cond.methodLink RX5 124 yX1_copyRow, Cond.methodLink RX5 127 yX5_makeStep, Cond.instanceMethod yX5_makeStep, Cond.selects RX5 yX5_makeStep yX5_makeStep, Cond.code yX5_makeStep cX5_makeStep 3 none, Cond.methodLink RX5 59 yX1_set, Cond.methodLink RX4 106 yX0_enter, Cond.instanceMethod yX0_enter, Cond.selects RX0 yX0_enter yX0_enter, Cond.initialized RX0, Cond.code yX0_enter cX0_enter 3 none, Cond.fieldLink RX0 9 "RaceWatch$Book" "locks" "[I", Cond.methodLink RX0 18 arraycopyName, Cond.fieldLink RX0 15 "RaceWatch$Book" "opened" "[I", Cond.fieldLink RX0 24 "RaceWatch$Book" "count" "I", Cond.methodLink RX0 28 Lib.Math.min.name, Cond.static Lib.Math.min.name, Cond.code Lib.Math.min.name Lib.Math.min.code 2 (some .int), Cond.methodLink RX4 62 yX4_shutLast]
def wsX4_tell_r9 : List Cond := [Cond.instanceMethod yX4_shutLast, Cond.selects RX4 yX4_shutLast yX4_shutLast, Cond.code yX4_shutLast cX4_shutLast 3 none, Cond.methodLink RX4 66 yX4_tellSign, Cond.instanceMethod yX4_tellSign, Cond.selects RX4 yX4_tellSign yX4_tellSign, Cond.code yX4_tellSign cX4_tellSign 3 (some .int), Cond.methodLink RX4 72 yX4_itemOf, Cond.static yX4_itemOf, Cond.code yX4_itemOf cX4_itemOf 1 (some .int)]
def wsX4_tell : List Cond := .code yX4_tell cX4_tell 5 (some .int) :: ((wsX4_tell_r1 ++ (wsX4_tell_r2 ++ (wsX4_tell_r3 ++ (wsX4_tell_r4 ++ (wsX4_tell_r5 ++ (wsX4_tell_r6 ++ (wsX4_tell_r7 ++ (wsX4_tell_r8 ++ wsX4_tell_r9)))))))) ++ wsX40 ++ wsX50 ++ wsX30 ++ wsX10 ++ wsX20 ++ wsX00)
def wsX5_begin_r1 : List Cond := [Cond.fieldLink RX5 9 "RaceWatch$World" "states" "[I", Cond.fieldLink RX5 15 "RaceWatch$World" "holders" "[I", Cond.fieldLink RX5 23 "RaceWatch$World" "ofThreads" "LRaceWatch$Clocks;", Cond.fieldLink RX5 27 "RaceWatch$World" "ofLocks" "LRaceWatch$Clocks;", Cond.fieldLink RX5 30 "RaceWatch$World" "ofSeenCells" "LRaceWatch$Clocks;", Cond.fieldLink RX5 36 "RaceWatch$World" "cells" "[LRaceWatch$Kept;", Cond.fieldLink RX5 43 "RaceWatch$World" "log" "LRaceWatch$Log;", Cond.methodLink RX5 50 yJ7_fill_53178, Cond.static yJ7_fill_53178, Cond.initialized RJ7, Cond.code yJ7_fill_53178 cJ7_fill_53178 4 none, Cond.methodLink RX5 56 yX1_clear, Cond.instanceMethod yX1_clear, Cond.selects RX1 yX1_clear yX1_clear, Cond.initialized RX1, Cond.code yX1_clear cX1_clear 1 none, Cond.fieldLink RX1 21 "RaceWatch$Clocks" "numbers" "[I", Cond.methodLink RX1 38 yJ7_fill_53178, Cond.methodLink RX5 59 yX1_set, Cond.instanceMethod yX1_set, Cond.selects RX1 yX1_set yX1_set, Cond.code yX1_set cX1_set 4 none, Cond.methodLink RX5 63 yX2_begin, Cond.instanceMethod yX2_begin]
def wsX5_begin_r2 : List Cond := [Cond.selects RX2 yX2_begin yX2_begin, Cond.initialized RX2, Cond.code yX2_begin cX2_begin 1 none, Cond.fieldLink RX2 15 "RaceWatch$Kept" "writer" "I", Cond.fieldLink RX2 19 "RaceWatch$Kept" "writeNumber" "I", Cond.fieldLink RX2 25 "RaceWatch$Kept" "promotions" "I", Cond.fieldLink RX2 28 "RaceWatch$Kept" "firstEvent" "I", Cond.fieldLink RX2 31 "RaceWatch$Kept" "firstKind" "I", Cond.fieldLink RX2 34 "RaceWatch$Kept" "guards" "I", Cond.methodLink RX2 22 yX2_forgetReads, Cond.instanceMethod yX2_forgetReads, Cond.selects RX2 yX2_forgetReads yX2_forgetReads, Cond.code yX2_forgetReads cX2_forgetReads 1 none, Cond.fieldLink RX2 37 "RaceWatch$Kept" "reader" "I", Cond.fieldLink RX2 40 "RaceWatch$Kept" "readNumber" "I", Cond.fieldLink RX2 43 "RaceWatch$Kept" "isShared" "Z", Cond.fieldLink RX2 9 "RaceWatch$Kept" "readNumbers" "[I", Cond.methodLink RX2 75 yJ7_fill_53178, Cond.methodLink RX5 64 yX3_begin, Cond.instanceMethod yX3_begin, Cond.selects RX3 yX3_begin yX3_begin, Cond.initialized RX3, Cond.code yX3_begin cX3_begin 1 none, Cond.fieldLink RX3 39 "RaceWatch$Log" "count" "I"]
def wsX5_begin_r3 : List Cond := [Cond.fieldLink RX3 36 "RaceWatch$Log" "raceCounts" "[I", Cond.methodLink RX3 43 yJ7_fill_53178]
def wsX5_begin : List Cond := .code yX5_begin cX5_begin 2 none :: ((wsX5_begin_r1 ++ (wsX5_begin_r2 ++ wsX5_begin_r3)) ++ wsX50 ++ wsX10 ++ wsX20 ++ wsX30)
def wsX5_init_r1 : List Cond := [Cond.methodLink RX5 3 objectInit, Cond.instanceMethod objectInit, Cond.code objectInit ⟨#[0xb1]⟩ 1 none, Cond.arrayClass .int, Cond.fieldLink RX5 9 "RaceWatch$World" "states" "[I", Cond.fieldLink RX5 15 "RaceWatch$World" "holders" "[I", Cond.classLink RX5 18 RX1, Cond.instantiable RX1 2, Cond.initialized RX1, Cond.fieldLink RX5 23 "RaceWatch$World" "ofThreads" "LRaceWatch$Clocks;", Cond.fieldLink RX5 27 "RaceWatch$World" "ofLocks" "LRaceWatch$Clocks;", Cond.fieldLink RX5 30 "RaceWatch$World" "ofSeenCells" "LRaceWatch$Clocks;", Cond.classLink RX5 33 RX2, Cond.instantiable RX2 10, Cond.initialized RX2, Cond.fieldLink RX5 36 "RaceWatch$World" "cells" "[LRaceWatch$Kept;", Cond.classLink RX5 40 RX3, Cond.instantiable RX3 8, Cond.initialized RX3, Cond.fieldLink RX5 43 "RaceWatch$World" "log" "LRaceWatch$Log;", Cond.methodLink RX5 20 yX1_init, Cond.instanceMethod yX1_init, Cond.code yX1_init cX1_init 2 none, Cond.methodLink RX1 3 objectInit]
def wsX5_init_r2 : List Cond := [Cond.methodLink RX1 9 Lib.Math.max.name, Cond.static Lib.Math.max.name, Cond.initialized "java/lang/Math", Cond.code Lib.Math.max.name Lib.Math.max.code 2 (some .int), Cond.fieldLink RX1 15 "RaceWatch$Clocks" "rows" "I", Cond.fieldLink RX1 21 "RaceWatch$Clocks" "numbers" "[I", Cond.instanceMethod yX2_init, Cond.code yX2_init cX2_init 1 none, Cond.methodLink RX2 3 objectInit, Cond.fieldLink RX2 9 "RaceWatch$Kept" "readNumbers" "[I", Cond.instanceMethod yX3_init, Cond.code yX3_init cX3_init 1 none, Cond.methodLink RX3 3 objectInit, Cond.fieldLink RX3 9 "RaceWatch$Log" "threads" "[I", Cond.fieldLink RX3 15 "RaceWatch$Log" "sorts" "[I", Cond.fieldLink RX3 18 "RaceWatch$Log" "withs" "[I", Cond.fieldLink RX3 21 "RaceWatch$Log" "locks" "[I", Cond.classLink RX3 24 RX1, Cond.fieldLink RX3 29 "RaceWatch$Log" "clocks" "LRaceWatch$Clocks;", Cond.fieldLink RX3 33 "RaceWatch$Log" "racesBehind" "[I", Cond.fieldLink RX3 36 "RaceWatch$Log" "raceCounts" "[I", Cond.methodLink RX3 26 yX1_init, Cond.methodLink RX5 47 yX5_begin, Cond.instanceMethod yX5_begin]
def wsX5_init_r3 : List Cond := [Cond.selects RX5 yX5_begin yX5_begin, Cond.initialized RX5, Cond.code yX5_begin cX5_begin 2 none, Cond.methodLink RX5 50 yJ7_fill_53178, Cond.static yJ7_fill_53178, Cond.initialized RJ7, Cond.code yJ7_fill_53178 cJ7_fill_53178 4 none, Cond.methodLink RX5 56 yX1_clear, Cond.instanceMethod yX1_clear, Cond.selects RX1 yX1_clear yX1_clear, Cond.code yX1_clear cX1_clear 1 none, Cond.methodLink RX1 38 yJ7_fill_53178, Cond.methodLink RX5 59 yX1_set, Cond.instanceMethod yX1_set, Cond.selects RX1 yX1_set yX1_set, Cond.code yX1_set cX1_set 4 none, Cond.methodLink RX5 63 yX2_begin, Cond.instanceMethod yX2_begin, Cond.selects RX2 yX2_begin yX2_begin, Cond.code yX2_begin cX2_begin 1 none, Cond.fieldLink RX2 15 "RaceWatch$Kept" "writer" "I", Cond.fieldLink RX2 19 "RaceWatch$Kept" "writeNumber" "I", Cond.fieldLink RX2 25 "RaceWatch$Kept" "promotions" "I", Cond.fieldLink RX2 28 "RaceWatch$Kept" "firstEvent" "I"]
def wsX5_init_r4 : List Cond := [Cond.fieldLink RX2 31 "RaceWatch$Kept" "firstKind" "I", Cond.fieldLink RX2 34 "RaceWatch$Kept" "guards" "I", Cond.methodLink RX2 22 yX2_forgetReads, Cond.instanceMethod yX2_forgetReads, Cond.selects RX2 yX2_forgetReads yX2_forgetReads, Cond.code yX2_forgetReads cX2_forgetReads 1 none, Cond.fieldLink RX2 37 "RaceWatch$Kept" "reader" "I", Cond.fieldLink RX2 40 "RaceWatch$Kept" "readNumber" "I", Cond.fieldLink RX2 43 "RaceWatch$Kept" "isShared" "Z", Cond.methodLink RX2 75 yJ7_fill_53178, Cond.methodLink RX5 64 yX3_begin, Cond.instanceMethod yX3_begin, Cond.selects RX3 yX3_begin yX3_begin, Cond.code yX3_begin cX3_begin 1 none, Cond.fieldLink RX3 39 "RaceWatch$Log" "count" "I", Cond.methodLink RX3 43 yJ7_fill_53178]
def wsX5_init : List Cond := .code yX5_init cX5_init 1 none :: ((wsX5_init_r1 ++ (wsX5_init_r2 ++ (wsX5_init_r3 ++ wsX5_init_r4))) ++ wsX50 ++ wsX10 ++ wsX20 ++ wsX30)
def wsX5_copy_r1 : List Cond := [Cond.fieldLink RX5 9 "RaceWatch$World" "states" "[I", Cond.methodLink RX5 65 arraycopyName, Cond.native arraycopyName, Cond.static arraycopyName, Cond.initialized "java/lang/System", Cond.fieldLink RX5 15 "RaceWatch$World" "holders" "[I", Cond.fieldLink RX5 23 "RaceWatch$World" "ofThreads" "LRaceWatch$Clocks;", Cond.fieldLink RX5 27 "RaceWatch$World" "ofLocks" "LRaceWatch$Clocks;", Cond.fieldLink RX5 30 "RaceWatch$World" "ofSeenCells" "LRaceWatch$Clocks;", Cond.fieldLink RX5 36 "RaceWatch$World" "cells" "[LRaceWatch$Kept;", Cond.fieldLink RX5 43 "RaceWatch$World" "log" "LRaceWatch$Log;", Cond.methodLink RX5 71 yX1_copyRows, Cond.instanceMethod yX1_copyRows, Cond.selects RX1 yX1_copyRows yX1_copyRows, Cond.initialized RX1, Cond.code yX1_copyRows cX1_copyRows 3 none, Cond.fieldLink RX1 21 "RaceWatch$Clocks" "numbers" "[I", Cond.methodLink RX1 32 arraycopyName, Cond.methodLink RX5 75 yX2_copy, Cond.instanceMethod yX2_copy, Cond.selects RX2 yX2_copy yX2_copy, Cond.initialized RX2, Cond.code yX2_copy cX2_copy 2 none, Cond.fieldLink RX2 15 "RaceWatch$Kept" "writer" "I"]
def wsX5_copy_r2 : List Cond := [Cond.fieldLink RX2 19 "RaceWatch$Kept" "writeNumber" "I", Cond.fieldLink RX2 37 "RaceWatch$Kept" "reader" "I", Cond.fieldLink RX2 40 "RaceWatch$Kept" "readNumber" "I", Cond.fieldLink RX2 43 "RaceWatch$Kept" "isShared" "Z", Cond.fieldLink RX2 9 "RaceWatch$Kept" "readNumbers" "[I", Cond.methodLink RX2 47 arraycopyName, Cond.fieldLink RX2 25 "RaceWatch$Kept" "promotions" "I", Cond.fieldLink RX2 28 "RaceWatch$Kept" "firstEvent" "I", Cond.fieldLink RX2 31 "RaceWatch$Kept" "firstKind" "I", Cond.fieldLink RX2 34 "RaceWatch$Kept" "guards" "I", Cond.methodLink RX5 79 yX3_copy, Cond.instanceMethod yX3_copy, Cond.selects RX3 yX3_copy yX3_copy, Cond.initialized RX3, Cond.code yX3_copy cX3_copy 2 none, Cond.fieldLink RX3 39 "RaceWatch$Log" "count" "I", Cond.fieldLink RX3 9 "RaceWatch$Log" "threads" "[I", Cond.methodLink RX3 49 arraycopyName, Cond.fieldLink RX3 15 "RaceWatch$Log" "sorts" "[I", Cond.fieldLink RX3 18 "RaceWatch$Log" "withs" "[I", Cond.fieldLink RX3 21 "RaceWatch$Log" "locks" "[I", Cond.fieldLink RX3 29 "RaceWatch$Log" "clocks" "LRaceWatch$Clocks;", Cond.fieldLink RX3 33 "RaceWatch$Log" "racesBehind" "[I", Cond.fieldLink RX3 36 "RaceWatch$Log" "raceCounts" "[I"]
def wsX5_copy_r3 : List Cond := [Cond.methodLink RX3 55 yX1_copyRows]
def wsX5_copy : List Cond := .code yX5_copy cX5_copy 3 none :: ((wsX5_copy_r1 ++ (wsX5_copy_r2 ++ wsX5_copy_r3)) ++ wsX50 ++ wsX10 ++ wsX20 ++ wsX30)
def wsX5_threadsThat : List Cond := .code yX5_threadsThat cX5_threadsThat 4 (some .int) :: ([.fieldLink RX5 9 "RaceWatch$World" "states" "[I"] ++ wsX50)
def wsX5_heldLocks : List Cond := .code yX5_heldLocks cX5_heldLocks 3 (some .int) :: ([.methodLink RX5 82 yX5_locksOf, .instanceMethod yX5_locksOf, .selects RX5 yX5_locksOf yX5_locksOf, .initialized RX5, .code yX5_locksOf cX5_locksOf 4 (some .int), .fieldLink RX5 15 "RaceWatch$World" "holders" "[I"] ++ wsX50)
def wsX5_promotionsOfAll : List Cond := .code yX5_promotionsOfAll cX5_promotionsOfAll 3 (some .int) :: ([.fieldLink RX5 36 "RaceWatch$World" "cells" "[LRaceWatch$Kept;", .fieldLink RX5 86 "RaceWatch$Kept" "promotions" "I"] ++ wsX50 ++ wsX20)
def wsX6_init_r1 : List Cond := [Cond.methodLink RX6 1 objectInit, Cond.instanceMethod objectInit, Cond.code objectInit ⟨#[0xb1]⟩ 1 none, Cond.classLink RX6 7 RX5, Cond.instantiable RX5 7, Cond.initialized RX5, Cond.fieldLink RX6 10 "RaceWatch" "world" "LRaceWatch$World;", Cond.fieldLink RX6 16 "RaceWatch" "images" "[LRaceWatch$World;", Cond.arrayClass .boolean, Cond.fieldLink RX6 20 "RaceWatch" "isKept" "[Z", Cond.classLink RX6 24 RX4, Cond.instantiable RX4 11, Cond.initialized RX4, Cond.fieldLink RX6 27 "RaceWatch" "telling" "LRaceWatch$Telling;", Cond.methodLink RX6 9 yX5_init, Cond.instanceMethod yX5_init, Cond.code yX5_init cX5_init 1 none, Cond.methodLink RX5 3 objectInit, Cond.arrayClass .int, Cond.fieldLink RX5 9 "RaceWatch$World" "states" "[I", Cond.fieldLink RX5 15 "RaceWatch$World" "holders" "[I", Cond.classLink RX5 18 RX1, Cond.instantiable RX1 2, Cond.initialized RX1]
def wsX6_init_r2 : List Cond := [Cond.fieldLink RX5 23 "RaceWatch$World" "ofThreads" "LRaceWatch$Clocks;", Cond.fieldLink RX5 27 "RaceWatch$World" "ofLocks" "LRaceWatch$Clocks;", Cond.fieldLink RX5 30 "RaceWatch$World" "ofSeenCells" "LRaceWatch$Clocks;", Cond.classLink RX5 33 RX2, Cond.instantiable RX2 10, Cond.initialized RX2, Cond.fieldLink RX5 36 "RaceWatch$World" "cells" "[LRaceWatch$Kept;", Cond.classLink RX5 40 RX3, Cond.instantiable RX3 8, Cond.initialized RX3, Cond.fieldLink RX5 43 "RaceWatch$World" "log" "LRaceWatch$Log;", Cond.methodLink RX5 20 yX1_init, Cond.instanceMethod yX1_init, Cond.code yX1_init cX1_init 2 none, Cond.methodLink RX1 3 objectInit, Cond.methodLink RX1 9 Lib.Math.max.name, Cond.static Lib.Math.max.name, Cond.initialized "java/lang/Math", Cond.code Lib.Math.max.name Lib.Math.max.code 2 (some .int), Cond.fieldLink RX1 15 "RaceWatch$Clocks" "rows" "I", Cond.fieldLink RX1 21 "RaceWatch$Clocks" "numbers" "[I", Cond.instanceMethod yX2_init, Cond.code yX2_init cX2_init 1 none, Cond.methodLink RX2 3 objectInit]
def wsX6_init_r3 : List Cond := [Cond.fieldLink RX2 9 "RaceWatch$Kept" "readNumbers" "[I", Cond.instanceMethod yX3_init, Cond.code yX3_init cX3_init 1 none, Cond.methodLink RX3 3 objectInit, Cond.fieldLink RX3 9 "RaceWatch$Log" "threads" "[I", Cond.fieldLink RX3 15 "RaceWatch$Log" "sorts" "[I", Cond.fieldLink RX3 18 "RaceWatch$Log" "withs" "[I", Cond.fieldLink RX3 21 "RaceWatch$Log" "locks" "[I", Cond.classLink RX3 24 RX1, Cond.fieldLink RX3 29 "RaceWatch$Log" "clocks" "LRaceWatch$Clocks;", Cond.fieldLink RX3 33 "RaceWatch$Log" "racesBehind" "[I", Cond.fieldLink RX3 36 "RaceWatch$Log" "raceCounts" "[I", Cond.methodLink RX3 26 yX1_init, Cond.methodLink RX5 47 yX5_begin, Cond.instanceMethod yX5_begin, Cond.selects RX5 yX5_begin yX5_begin, Cond.code yX5_begin cX5_begin 2 none, Cond.methodLink RX5 50 yJ7_fill_53178, Cond.static yJ7_fill_53178, Cond.initialized RJ7, Cond.code yJ7_fill_53178 cJ7_fill_53178 4 none, Cond.methodLink RX5 56 yX1_clear, Cond.instanceMethod yX1_clear, Cond.selects RX1 yX1_clear yX1_clear]
def wsX6_init_r4 : List Cond := [Cond.code yX1_clear cX1_clear 1 none, Cond.methodLink RX1 38 yJ7_fill_53178, Cond.methodLink RX5 59 yX1_set, Cond.instanceMethod yX1_set, Cond.selects RX1 yX1_set yX1_set, Cond.code yX1_set cX1_set 4 none, Cond.methodLink RX5 63 yX2_begin, Cond.instanceMethod yX2_begin, Cond.selects RX2 yX2_begin yX2_begin, Cond.code yX2_begin cX2_begin 1 none, Cond.fieldLink RX2 15 "RaceWatch$Kept" "writer" "I", Cond.fieldLink RX2 19 "RaceWatch$Kept" "writeNumber" "I", Cond.fieldLink RX2 25 "RaceWatch$Kept" "promotions" "I", Cond.fieldLink RX2 28 "RaceWatch$Kept" "firstEvent" "I", Cond.fieldLink RX2 31 "RaceWatch$Kept" "firstKind" "I", Cond.fieldLink RX2 34 "RaceWatch$Kept" "guards" "I", Cond.methodLink RX2 22 yX2_forgetReads, Cond.instanceMethod yX2_forgetReads, Cond.selects RX2 yX2_forgetReads yX2_forgetReads, Cond.code yX2_forgetReads cX2_forgetReads 1 none, Cond.fieldLink RX2 37 "RaceWatch$Kept" "reader" "I", Cond.fieldLink RX2 40 "RaceWatch$Kept" "readNumber" "I", Cond.fieldLink RX2 43 "RaceWatch$Kept" "isShared" "Z", Cond.methodLink RX2 75 yJ7_fill_53178]
def wsX6_init_r5 : List Cond := [Cond.methodLink RX5 64 yX3_begin, Cond.instanceMethod yX3_begin, Cond.selects RX3 yX3_begin yX3_begin, Cond.code yX3_begin cX3_begin 1 none, Cond.fieldLink RX3 39 "RaceWatch$Log" "count" "I", Cond.methodLink RX3 43 yJ7_fill_53178, Cond.instanceMethod yX4_init, Cond.code yX4_init cX4_init 1 none, Cond.methodLink RX4 3 objectInit, Cond.fieldLink RX4 9 "RaceWatch$Telling" "faultAt" "I", Cond.classLink RX4 15 RX0, Cond.instantiable RX0 3, Cond.initialized RX0, Cond.fieldLink RX4 18 "RaceWatch$Telling" "book" "LRaceWatch$Book;", Cond.fieldLink RX4 22 "RaceWatch$Telling" "letters" "[I", Cond.fieldLink RX4 26 "RaceWatch$Telling" "lockOf" "[I", Cond.fieldLink RX4 29 "RaceWatch$Telling" "threadBefore" "[I", Cond.instanceMethod yX0_init, Cond.code yX0_init cX0_init 1 none, Cond.methodLink RX0 3 objectInit, Cond.fieldLink RX0 9 "RaceWatch$Book" "locks" "[I", Cond.fieldLink RX0 15 "RaceWatch$Book" "opened" "[I"]
def wsX6_init : List Cond := .code yX6_init cX6_init 1 none :: ((wsX6_init_r1 ++ (wsX6_init_r2 ++ (wsX6_init_r3 ++ (wsX6_init_r4 ++ wsX6_init_r5)))) ++ wsX50 ++ wsX60 ++ wsX40 ++ wsX10 ++ wsX20 ++ wsX30 ++ wsX00)
def wsX6_anew_r1 : List Cond := [Cond.fieldLink RX6 10 "RaceWatch" "world" "LRaceWatch$World;", Cond.fieldLink RX6 31 "RaceWatch$World" "log" "LRaceWatch$Log;", Cond.fieldLink RX6 35 "RaceWatch$Log" "count" "I", Cond.methodLink RX6 41 yX5_begin, Cond.instanceMethod yX5_begin, Cond.selects RX5 yX5_begin yX5_begin, Cond.initialized RX5, Cond.code yX5_begin cX5_begin 2 none, Cond.fieldLink RX5 9 "RaceWatch$World" "states" "[I", Cond.fieldLink RX5 15 "RaceWatch$World" "holders" "[I", Cond.fieldLink RX5 23 "RaceWatch$World" "ofThreads" "LRaceWatch$Clocks;", Cond.fieldLink RX5 27 "RaceWatch$World" "ofLocks" "LRaceWatch$Clocks;", Cond.fieldLink RX5 30 "RaceWatch$World" "ofSeenCells" "LRaceWatch$Clocks;", Cond.fieldLink RX5 36 "RaceWatch$World" "cells" "[LRaceWatch$Kept;", Cond.fieldLink RX5 43 "RaceWatch$World" "log" "LRaceWatch$Log;", Cond.methodLink RX5 50 yJ7_fill_53178, Cond.static yJ7_fill_53178, Cond.initialized RJ7, Cond.code yJ7_fill_53178 cJ7_fill_53178 4 none, Cond.methodLink RX5 56 yX1_clear, Cond.instanceMethod yX1_clear, Cond.selects RX1 yX1_clear yX1_clear, Cond.initialized RX1, Cond.code yX1_clear cX1_clear 1 none]
def wsX6_anew_r2 : List Cond := [Cond.fieldLink RX1 21 "RaceWatch$Clocks" "numbers" "[I", Cond.methodLink RX1 38 yJ7_fill_53178, Cond.methodLink RX5 59 yX1_set, Cond.instanceMethod yX1_set, Cond.selects RX1 yX1_set yX1_set, Cond.code yX1_set cX1_set 4 none, Cond.methodLink RX5 63 yX2_begin, Cond.instanceMethod yX2_begin, Cond.selects RX2 yX2_begin yX2_begin, Cond.initialized RX2, Cond.code yX2_begin cX2_begin 1 none, Cond.fieldLink RX2 15 "RaceWatch$Kept" "writer" "I", Cond.fieldLink RX2 19 "RaceWatch$Kept" "writeNumber" "I", Cond.fieldLink RX2 25 "RaceWatch$Kept" "promotions" "I", Cond.fieldLink RX2 28 "RaceWatch$Kept" "firstEvent" "I", Cond.fieldLink RX2 31 "RaceWatch$Kept" "firstKind" "I", Cond.fieldLink RX2 34 "RaceWatch$Kept" "guards" "I", Cond.methodLink RX2 22 yX2_forgetReads, Cond.instanceMethod yX2_forgetReads, Cond.selects RX2 yX2_forgetReads yX2_forgetReads, Cond.code yX2_forgetReads cX2_forgetReads 1 none, Cond.fieldLink RX2 37 "RaceWatch$Kept" "reader" "I", Cond.fieldLink RX2 40 "RaceWatch$Kept" "readNumber" "I", Cond.fieldLink RX2 43 "RaceWatch$Kept" "isShared" "Z"]
def wsX6_anew_r3 : List Cond := [Cond.fieldLink RX2 9 "RaceWatch$Kept" "readNumbers" "[I", Cond.methodLink RX2 75 yJ7_fill_53178, Cond.methodLink RX5 64 yX3_begin, Cond.instanceMethod yX3_begin, Cond.selects RX3 yX3_begin yX3_begin, Cond.initialized RX3, Cond.code yX3_begin cX3_begin 1 none, Cond.fieldLink RX3 39 "RaceWatch$Log" "count" "I", Cond.fieldLink RX3 36 "RaceWatch$Log" "raceCounts" "[I", Cond.methodLink RX3 43 yJ7_fill_53178]
def wsX6_anew : List Cond := .code yX6_anew cX6_anew 2 (some .int) :: ((wsX6_anew_r1 ++ (wsX6_anew_r2 ++ wsX6_anew_r3)) ++ wsX60 ++ wsX50 ++ wsX30 ++ wsX10 ++ wsX20)
def wsX6_feed : List Cond := .code yX6_feed cX6_feed 2 (some .int) :: ([.constant RX6 44 (-1000000002), .fieldLink RX6 27 "RaceWatch" "telling" "LRaceWatch$Telling;", .methodLink RX6 45 yX4_append, .instanceMethod yX4_append, .selects RX4 yX4_append yX4_append, .initialized RX4, .code yX4_append cX4_append 2 (some .int), .fieldLink RX4 32 "RaceWatch$Telling" "length" "I", .constant RX4 35 (-1000000004), .fieldLink RX4 22 "RaceWatch$Telling" "letters" "[I"] ++ wsX60 ++ wsX40)
def wsX6_run_r1 : List Cond := [Cond.fieldLink RX6 10 "RaceWatch" "world" "LRaceWatch$World;", Cond.fieldLink RX6 31 "RaceWatch$World" "log" "LRaceWatch$Log;", Cond.fieldLink RX6 35 "RaceWatch$Log" "count" "I", Cond.fieldLink RX6 27 "RaceWatch" "telling" "LRaceWatch$Telling;", Cond.methodLink RX6 49 yX4_tell, Cond.instanceMethod yX4_tell, Cond.selects RX4 yX4_tell yX4_tell, Cond.initialized RX4, Cond.code yX4_tell cX4_tell 5 (some .int), Cond.fieldLink RX4 36 "RaceWatch$Telling" "due" "I", Cond.fieldLink RX4 39 "RaceWatch$Telling" "threadAtIt" "I", Cond.fieldLink RX4 42 "RaceWatch$Telling" "openRegions" "I", Cond.fieldLink RX4 45 "RaceWatch$Telling" "depth" "I", Cond.fieldLink RX4 32 "RaceWatch$Telling" "length" "I", Cond.fieldLink RX4 22 "RaceWatch$Telling" "letters" "[I", Cond.fieldLink RX4 52 "RaceWatch$Telling" "item" "I", Cond.fieldLink RX4 9 "RaceWatch$Telling" "faultAt" "I", Cond.methodLink RX4 48 yX4_faultOfFigure, Cond.instanceMethod yX4_faultOfFigure, Cond.selects RX4 yX4_faultOfFigure yX4_faultOfFigure, Cond.code yX4_faultOfFigure cX4_faultOfFigure 2 (some .int), Cond.static yX6_boundOf, Cond.initialized RX6, Cond.code yX6_boundOf cX6_boundOf 1 (some .int)]
def wsX6_run_r2 : List Cond := [Cond.methodLink RX4 55 yX4_tellThread, Cond.instanceMethod yX4_tellThread, Cond.selects RX4 yX4_tellThread yX4_tellThread, Cond.code yX4_tellThread cX4_tellThread 3 (some .int), Cond.methodLink RX4 75 yX5_goes, Cond.instanceMethod yX5_goes, Cond.selects RX5 yX5_goes yX5_goes, Cond.initialized RX5, Cond.code yX5_goes cX5_goes 2 (some .boolean), Cond.fieldLink RX5 9 "RaceWatch$World" "states" "[I", Cond.methodLink RX4 81 yX4_open, Cond.instanceMethod yX4_open, Cond.selects RX4 yX4_open yX4_open, Cond.code yX4_open cX4_open 2 none, Cond.fieldLink RX4 26 "RaceWatch$Telling" "lockOf" "[I", Cond.fieldLink RX4 29 "RaceWatch$Telling" "threadBefore" "[I", Cond.methodLink RX4 59 yX4_tellEvent, Cond.instanceMethod yX4_tellEvent, Cond.selects RX4 yX4_tellEvent yX4_tellEvent, Cond.code yX4_tellEvent cX4_tellEvent 4 (some .int), Cond.fieldLink RX4 85 "RaceWatch$World" "log" "LRaceWatch$Log;", Cond.fieldLink RX4 18 "RaceWatch$Telling" "book" "LRaceWatch$Book;", Cond.methodLink RX4 89 yX3_hasRoom, Cond.instanceMethod yX3_hasRoom]
def wsX6_run_r3 : List Cond := [Cond.selects RX3 yX3_hasRoom yX3_hasRoom, Cond.initialized RX3, Cond.code yX3_hasRoom cX3_hasRoom 2 (some .boolean), Cond.fieldLink RX3 39 "RaceWatch$Log" "count" "I", Cond.methodLink RX4 94 yX5_canBe, Cond.instanceMethod yX5_canBe, Cond.selects RX5 yX5_canBe yX5_canBe, Cond.code yX5_canBe cX5_canBe 4 (some .boolean), Cond.fieldLink RX5 15 "RaceWatch$World" "holders" "[I", Cond.methodLink RX5 90 yX5_goes, Cond.methodLink RX5 82 yX5_locksOf, Cond.instanceMethod yX5_locksOf, Cond.selects RX5 yX5_locksOf yX5_locksOf, Cond.code yX5_locksOf cX5_locksOf 4 (some .int), Cond.methodLink RX4 98 yX5_stepIsMuch, Cond.instanceMethod yX5_stepIsMuch, Cond.selects RX5 yX5_stepIsMuch yX5_stepIsMuch, Cond.code yX5_stepIsMuch cX5_stepIsMuch 4 (some .boolean), Cond.fieldLink RX5 23 "RaceWatch$World" "ofThreads" "LRaceWatch$Clocks;", Cond.constant RX5 98 (2147483647), Cond.methodLink RX5 94 yX1_number, Cond.instanceMethod yX1_number, Cond.selects RX1 yX1_number yX1_number, Cond.initialized RX1]
def wsX6_run_r4 : List Cond := [Cond.code yX1_number cX1_number 3 (some .int), Cond.fieldLink RX1 21 "RaceWatch$Clocks" "numbers" "[I", Cond.methodLink RX4 102 yX5_come, Cond.instanceMethod yX5_come, Cond.selects RX5 yX5_come yX5_come, Cond.code yX5_come cX5_come 6 (some .int), Cond.fieldLink RX5 43 "RaceWatch$World" "log" "LRaceWatch$Log;", Cond.constant RX5 102 (-1000000004), Cond.fieldLink RX5 36 "RaceWatch$World" "cells" "[LRaceWatch$Kept;", Cond.methodLink RX5 99 yX3_hasRoom, Cond.methodLink RX5 103 yX5_takeIn, Cond.instanceMethod yX5_takeIn, Cond.selects RX5 yX5_takeIn yX5_takeIn, Cond.code yX5_takeIn cX5_takeIn 4 none, Cond.fieldLink RX5 27 "RaceWatch$World" "ofLocks" "LRaceWatch$Clocks;", Cond.fieldLink RX5 30 "RaceWatch$World" "ofSeenCells" "LRaceWatch$Clocks;", Cond.methodLink RX5 120 yX1_join, Cond.instanceMethod yX1_join, Cond.selects RX1 yX1_join yX1_join, Cond.code yX1_join cX1_join 5 none, Cond.methodLink RX1 9 Lib.Math.max.name, Cond.static Lib.Math.max.name, Cond.initialized "java/lang/Math", Cond.code Lib.Math.max.name Lib.Math.max.code 2 (some .int)]
def wsX6_run_r5 : List Cond := [Cond.methodLink RX1 25 yX1_number, Cond.methodLink RX1 28 yX1_set, Cond.instanceMethod yX1_set, Cond.selects RX1 yX1_set yX1_set, Cond.code yX1_set cX1_set 4 none, Cond.methodLink RX5 106 yX3_append, Cond.instanceMethod yX3_append, Cond.selects RX3 yX3_append yX3_append, Cond.code yX3_append cX3_append 7 (some .int), Cond.fieldLink RX3 9 "RaceWatch$Log" "threads" "[I", Cond.fieldLink RX3 15 "RaceWatch$Log" "sorts" "[I", Cond.fieldLink RX3 18 "RaceWatch$Log" "withs" "[I", Cond.fieldLink RX3 21 "RaceWatch$Log" "locks" "[I", Cond.fieldLink RX3 29 "RaceWatch$Log" "clocks" "LRaceWatch$Clocks;", Cond.methodLink RX3 59 yX1_copyRow, Cond.instanceMethod yX1_copyRow, Cond.selects RX1 yX1_copyRow yX1_copyRow, Cond.code yX1_copyRow cX1_copyRow 4 none, Cond.methodLink RX1 32 arraycopyName, Cond.native arraycopyName, Cond.static arraycopyName, Cond.initialized "java/lang/System", Cond.methodLink RX5 110 yX3_countRaces, Cond.instanceMethod yX3_countRaces]
def wsX6_run_r6 : List Cond := [Cond.selects RX3 yX3_countRaces yX3_countRaces, Cond.code yX3_countRaces cX3_countRaces 5 none, Cond.fieldLink RX3 36 "RaceWatch$Log" "raceCounts" "[I", Cond.fieldLink RX3 33 "RaceWatch$Log" "racesBehind" "[I", Cond.methodLink RX3 78 yX3_kindOfPair, Cond.instanceMethod yX3_kindOfPair, Cond.selects RX3 yX3_kindOfPair yX3_kindOfPair, Cond.code yX3_kindOfPair cX3_kindOfPair 3 (some .int), Cond.methodLink RX3 71 yX3_isAccess, Cond.instanceMethod yX3_isAccess, Cond.selects RX3 yX3_isAccess yX3_isAccess, Cond.code yX3_isAccess cX3_isAccess 2 (some .boolean), Cond.methodLink RX3 81 yX3_isAhead, Cond.instanceMethod yX3_isAhead, Cond.selects RX3 yX3_isAhead yX3_isAhead, Cond.code yX3_isAhead cX3_isAhead 4 (some .boolean), Cond.methodLink RX3 63 yX1_number, Cond.methodLink RX5 113 yX2_access, Cond.instanceMethod yX2_access, Cond.selects RX2 yX2_access yX2_access, Cond.initialized RX2, Cond.code yX2_access cX2_access 7 none, Cond.fieldLink RX2 28 "RaceWatch$Kept" "firstEvent" "I", Cond.fieldLink RX2 31 "RaceWatch$Kept" "firstKind" "I"]
def wsX6_run_r7 : List Cond := [Cond.fieldLink RX2 34 "RaceWatch$Kept" "guards" "I", Cond.fieldLink RX2 15 "RaceWatch$Kept" "writer" "I", Cond.fieldLink RX2 19 "RaceWatch$Kept" "writeNumber" "I", Cond.methodLink RX2 63 yX2_kindOf, Cond.instanceMethod yX2_kindOf, Cond.selects RX2 yX2_kindOf yX2_kindOf, Cond.code yX2_kindOf cX2_kindOf 5 (some .int), Cond.methodLink RX2 53 yX1_number, Cond.methodLink RX2 59 yX2_readsAreAhead, Cond.instanceMethod yX2_readsAreAhead, Cond.selects RX2 yX2_readsAreAhead yX2_readsAreAhead, Cond.code yX2_readsAreAhead cX2_readsAreAhead 4 (some .boolean), Cond.fieldLink RX2 43 "RaceWatch$Kept" "isShared" "Z", Cond.fieldLink RX2 37 "RaceWatch$Kept" "reader" "I", Cond.fieldLink RX2 40 "RaceWatch$Kept" "readNumber" "I", Cond.fieldLink RX2 9 "RaceWatch$Kept" "readNumbers" "[I", Cond.methodLink RX2 22 yX2_forgetReads, Cond.instanceMethod yX2_forgetReads, Cond.selects RX2 yX2_forgetReads yX2_forgetReads, Cond.code yX2_forgetReads cX2_forgetReads 1 none, Cond.methodLink RX2 75 yJ7_fill_53178, Cond.static yJ7_fill_53178, Cond.initialized RJ7, Cond.code yJ7_fill_53178 cJ7_fill_53178 4 none]
def wsX6_run_r8 : List Cond := [Cond.methodLink RX2 67 yX2_keepRead, Cond.instanceMethod yX2_keepRead, Cond.selects RX2 yX2_keepRead yX2_keepRead, Cond.code yX2_keepRead cX2_keepRead 4 none, Cond.methodLink RX2 71 yX2_share, Cond.instanceMethod yX2_share, Cond.selects RX2 yX2_share yX2_share, Cond.code yX2_share cX2_share 3 none, Cond.fieldLink RX2 25 "RaceWatch$Kept" "promotions" "I", Cond.methodLink RX5 117 yX5_handOn, Cond.instanceMethod yX5_handOn, Cond.selects RX5 yX5_handOn yX5_handOn, Cond.code yX5_handOn cX5_handOn 4 none, Cond.methodLink RX5 124 yX1_copyRow, Cond.methodLink RX5 127 yX5_makeStep, Cond.instanceMethod yX5_makeStep, Cond.selects RX5 yX5_makeStep yX5_makeStep, Cond.code yX5_makeStep cX5_makeStep 3 none, Cond.methodLink RX5 59 yX1_set, Cond.methodLink RX4 106 yX0_enter, Cond.instanceMethod yX0_enter, Cond.selects RX0 yX0_enter yX0_enter, Cond.initialized RX0, Cond.code yX0_enter cX0_enter 3 none]
def wsX6_run_r9 : List Cond := [Cond.fieldLink RX0 9 "RaceWatch$Book" "locks" "[I", Cond.methodLink RX0 18 arraycopyName, Cond.fieldLink RX0 15 "RaceWatch$Book" "opened" "[I", Cond.fieldLink RX0 24 "RaceWatch$Book" "count" "I", Cond.methodLink RX0 28 Lib.Math.min.name, Cond.static Lib.Math.min.name, Cond.code Lib.Math.min.name Lib.Math.min.code 2 (some .int), Cond.methodLink RX4 62 yX4_shutLast, Cond.instanceMethod yX4_shutLast, Cond.selects RX4 yX4_shutLast yX4_shutLast, Cond.code yX4_shutLast cX4_shutLast 3 none, Cond.methodLink RX4 66 yX4_tellSign, Cond.instanceMethod yX4_tellSign, Cond.selects RX4 yX4_tellSign yX4_tellSign, Cond.code yX4_tellSign cX4_tellSign 3 (some .int), Cond.methodLink RX4 72 yX4_itemOf, Cond.static yX4_itemOf, Cond.code yX4_itemOf cX4_itemOf 1 (some .int)]
def wsX6_run : List Cond := .code yX6_run cX6_run 3 (some .int) :: ((wsX6_run_r1 ++ (wsX6_run_r2 ++ (wsX6_run_r3 ++ (wsX6_run_r4 ++ (wsX6_run_r5 ++ (wsX6_run_r6 ++ (wsX6_run_r7 ++ (wsX6_run_r8 ++ wsX6_run_r9)))))))) ++ wsX60 ++ wsX50 ++ wsX30 ++ wsX40 ++ wsX10 ++ wsX20 ++ wsX00)
def wsX6_fault : List Cond := .code yX6_fault cX6_fault 1 (some .int) :: ([.fieldLink RX6 27 "RaceWatch" "telling" "LRaceWatch$Telling;", .fieldLink RX6 53 "RaceWatch$Telling" "faultAt" "I"] ++ wsX60 ++ wsX40)
def wsX6_isIn : List Cond := .code yX6_isIn cX6_isIn 2 (some .boolean) :: ([])
def wsX6_isItself : List Cond := .code yX6_isItself cX6_isItself 3 (some .boolean) :: ([])
def wsX6_refusalOf_r1 : List Cond := [Cond.constant RX6 67 (-1000000001), Cond.constant RX6 44 (-1000000002), Cond.fieldLink RX6 10 "RaceWatch" "world" "LRaceWatch$World;", Cond.constant RX6 72 (-1000000003), Cond.fieldLink RX6 31 "RaceWatch$World" "log" "LRaceWatch$Log;", Cond.constant RX6 226 (-1000000004), Cond.constant RX6 84 (-1000000005), Cond.methodLink RX6 63 yX6_isIn, Cond.static yX6_isIn, Cond.initialized RX6, Cond.code yX6_isIn cX6_isIn 2 (some .boolean), Cond.methodLink RX6 98 yX6_boundOf, Cond.static yX6_boundOf, Cond.code yX6_boundOf cX6_boundOf 1 (some .int), Cond.methodLink RX6 216 yX6_isItself, Cond.static yX6_isItself, Cond.code yX6_isItself cX6_isItself 3 (some .boolean), Cond.methodLink RX6 220 yX5_canBe, Cond.instanceMethod yX5_canBe, Cond.selects RX5 yX5_canBe yX5_canBe, Cond.initialized RX5, Cond.code yX5_canBe cX5_canBe 4 (some .boolean), Cond.fieldLink RX5 15 "RaceWatch$World" "holders" "[I", Cond.fieldLink RX5 9 "RaceWatch$World" "states" "[I"]
def wsX6_refusalOf_r2 : List Cond := [Cond.methodLink RX5 90 yX5_goes, Cond.instanceMethod yX5_goes, Cond.selects RX5 yX5_goes yX5_goes, Cond.code yX5_goes cX5_goes 2 (some .boolean), Cond.methodLink RX5 82 yX5_locksOf, Cond.instanceMethod yX5_locksOf, Cond.selects RX5 yX5_locksOf yX5_locksOf, Cond.code yX5_locksOf cX5_locksOf 4 (some .int), Cond.methodLink RX6 223 yX3_hasRoom, Cond.instanceMethod yX3_hasRoom, Cond.selects RX3 yX3_hasRoom yX3_hasRoom, Cond.initialized RX3, Cond.code yX3_hasRoom cX3_hasRoom 2 (some .boolean), Cond.fieldLink RX3 39 "RaceWatch$Log" "count" "I", Cond.methodLink RX6 227 yX5_stepIsMuch, Cond.instanceMethod yX5_stepIsMuch, Cond.selects RX5 yX5_stepIsMuch yX5_stepIsMuch, Cond.code yX5_stepIsMuch cX5_stepIsMuch 4 (some .boolean), Cond.fieldLink RX5 23 "RaceWatch$World" "ofThreads" "LRaceWatch$Clocks;", Cond.constant RX5 98 (2147483647), Cond.methodLink RX5 94 yX1_number, Cond.instanceMethod yX1_number, Cond.selects RX1 yX1_number yX1_number, Cond.initialized RX1]
def wsX6_refusalOf_r3 : List Cond := [Cond.code yX1_number cX1_number 3 (some .int), Cond.fieldLink RX1 21 "RaceWatch$Clocks" "numbers" "[I"]
def wsX6_refusalOf : List Cond := .code yX6_refusalOf cX6_refusalOf 4 (some .int) :: ((wsX6_refusalOf_r1 ++ (wsX6_refusalOf_r2 ++ wsX6_refusalOf_r3)) ++ wsX60 ++ wsX50 ++ wsX30 ++ wsX10)
def wsX6_event_r1 : List Cond := [Cond.fieldLink RX6 10 "RaceWatch" "world" "LRaceWatch$World;", Cond.methodLink RX6 56 yX6_refusalOf, Cond.instanceMethod yX6_refusalOf, Cond.selects RX6 yX6_refusalOf yX6_refusalOf, Cond.initialized RX6, Cond.code yX6_refusalOf cX6_refusalOf 4 (some .int), Cond.constant RX6 67 (-1000000001), Cond.constant RX6 44 (-1000000002), Cond.constant RX6 72 (-1000000003), Cond.fieldLink RX6 31 "RaceWatch$World" "log" "LRaceWatch$Log;", Cond.constant RX6 226 (-1000000004), Cond.constant RX6 84 (-1000000005), Cond.methodLink RX6 63 yX6_isIn, Cond.static yX6_isIn, Cond.code yX6_isIn cX6_isIn 2 (some .boolean), Cond.methodLink RX6 98 yX6_boundOf, Cond.static yX6_boundOf, Cond.code yX6_boundOf cX6_boundOf 1 (some .int), Cond.methodLink RX6 216 yX6_isItself, Cond.static yX6_isItself, Cond.code yX6_isItself cX6_isItself 3 (some .boolean), Cond.methodLink RX6 220 yX5_canBe, Cond.instanceMethod yX5_canBe, Cond.selects RX5 yX5_canBe yX5_canBe]
def wsX6_event_r2 : List Cond := [Cond.initialized RX5, Cond.code yX5_canBe cX5_canBe 4 (some .boolean), Cond.fieldLink RX5 15 "RaceWatch$World" "holders" "[I", Cond.fieldLink RX5 9 "RaceWatch$World" "states" "[I", Cond.methodLink RX5 90 yX5_goes, Cond.instanceMethod yX5_goes, Cond.selects RX5 yX5_goes yX5_goes, Cond.code yX5_goes cX5_goes 2 (some .boolean), Cond.methodLink RX5 82 yX5_locksOf, Cond.instanceMethod yX5_locksOf, Cond.selects RX5 yX5_locksOf yX5_locksOf, Cond.code yX5_locksOf cX5_locksOf 4 (some .int), Cond.methodLink RX6 223 yX3_hasRoom, Cond.instanceMethod yX3_hasRoom, Cond.selects RX3 yX3_hasRoom yX3_hasRoom, Cond.initialized RX3, Cond.code yX3_hasRoom cX3_hasRoom 2 (some .boolean), Cond.fieldLink RX3 39 "RaceWatch$Log" "count" "I", Cond.methodLink RX6 227 yX5_stepIsMuch, Cond.instanceMethod yX5_stepIsMuch, Cond.selects RX5 yX5_stepIsMuch yX5_stepIsMuch, Cond.code yX5_stepIsMuch cX5_stepIsMuch 4 (some .boolean), Cond.fieldLink RX5 23 "RaceWatch$World" "ofThreads" "LRaceWatch$Clocks;", Cond.constant RX5 98 (2147483647)]
def wsX6_event_r3 : List Cond := [Cond.methodLink RX5 94 yX1_number, Cond.instanceMethod yX1_number, Cond.selects RX1 yX1_number yX1_number, Cond.initialized RX1, Cond.code yX1_number cX1_number 3 (some .int), Cond.fieldLink RX1 21 "RaceWatch$Clocks" "numbers" "[I", Cond.methodLink RX6 60 yX5_come, Cond.instanceMethod yX5_come, Cond.selects RX5 yX5_come yX5_come, Cond.code yX5_come cX5_come 6 (some .int), Cond.fieldLink RX5 43 "RaceWatch$World" "log" "LRaceWatch$Log;", Cond.constant RX5 102 (-1000000004), Cond.fieldLink RX5 36 "RaceWatch$World" "cells" "[LRaceWatch$Kept;", Cond.methodLink RX5 99 yX3_hasRoom, Cond.methodLink RX5 103 yX5_takeIn, Cond.instanceMethod yX5_takeIn, Cond.selects RX5 yX5_takeIn yX5_takeIn, Cond.code yX5_takeIn cX5_takeIn 4 none, Cond.fieldLink RX5 27 "RaceWatch$World" "ofLocks" "LRaceWatch$Clocks;", Cond.fieldLink RX5 30 "RaceWatch$World" "ofSeenCells" "LRaceWatch$Clocks;", Cond.methodLink RX5 120 yX1_join, Cond.instanceMethod yX1_join, Cond.selects RX1 yX1_join yX1_join, Cond.code yX1_join cX1_join 5 none]
def wsX6_event_r4 : List Cond := [Cond.methodLink RX1 9 Lib.Math.max.name, Cond.static Lib.Math.max.name, Cond.initialized "java/lang/Math", Cond.code Lib.Math.max.name Lib.Math.max.code 2 (some .int), Cond.methodLink RX1 25 yX1_number, Cond.methodLink RX1 28 yX1_set, Cond.instanceMethod yX1_set, Cond.selects RX1 yX1_set yX1_set, Cond.code yX1_set cX1_set 4 none, Cond.methodLink RX5 106 yX3_append, Cond.instanceMethod yX3_append, Cond.selects RX3 yX3_append yX3_append, Cond.code yX3_append cX3_append 7 (some .int), Cond.fieldLink RX3 9 "RaceWatch$Log" "threads" "[I", Cond.fieldLink RX3 15 "RaceWatch$Log" "sorts" "[I", Cond.fieldLink RX3 18 "RaceWatch$Log" "withs" "[I", Cond.fieldLink RX3 21 "RaceWatch$Log" "locks" "[I", Cond.fieldLink RX3 29 "RaceWatch$Log" "clocks" "LRaceWatch$Clocks;", Cond.methodLink RX3 59 yX1_copyRow, Cond.instanceMethod yX1_copyRow, Cond.selects RX1 yX1_copyRow yX1_copyRow, Cond.code yX1_copyRow cX1_copyRow 4 none, Cond.methodLink RX1 32 arraycopyName, Cond.native arraycopyName]
def wsX6_event_r5 : List Cond := [Cond.static arraycopyName, Cond.initialized "java/lang/System", Cond.methodLink RX5 110 yX3_countRaces, Cond.instanceMethod yX3_countRaces, Cond.selects RX3 yX3_countRaces yX3_countRaces, Cond.code yX3_countRaces cX3_countRaces 5 none, Cond.fieldLink RX3 36 "RaceWatch$Log" "raceCounts" "[I", Cond.fieldLink RX3 33 "RaceWatch$Log" "racesBehind" "[I", Cond.methodLink RX3 78 yX3_kindOfPair, Cond.instanceMethod yX3_kindOfPair, Cond.selects RX3 yX3_kindOfPair yX3_kindOfPair, Cond.code yX3_kindOfPair cX3_kindOfPair 3 (some .int), Cond.methodLink RX3 71 yX3_isAccess, Cond.instanceMethod yX3_isAccess, Cond.selects RX3 yX3_isAccess yX3_isAccess, Cond.code yX3_isAccess cX3_isAccess 2 (some .boolean), Cond.methodLink RX3 81 yX3_isAhead, Cond.instanceMethod yX3_isAhead, Cond.selects RX3 yX3_isAhead yX3_isAhead, Cond.code yX3_isAhead cX3_isAhead 4 (some .boolean), Cond.methodLink RX3 63 yX1_number, Cond.methodLink RX5 113 yX2_access, Cond.instanceMethod yX2_access, Cond.selects RX2 yX2_access yX2_access]
def wsX6_event_r6 : List Cond := [Cond.initialized RX2, Cond.code yX2_access cX2_access 7 none, Cond.fieldLink RX2 28 "RaceWatch$Kept" "firstEvent" "I", Cond.fieldLink RX2 31 "RaceWatch$Kept" "firstKind" "I", Cond.fieldLink RX2 34 "RaceWatch$Kept" "guards" "I", Cond.fieldLink RX2 15 "RaceWatch$Kept" "writer" "I", Cond.fieldLink RX2 19 "RaceWatch$Kept" "writeNumber" "I", Cond.methodLink RX2 63 yX2_kindOf, Cond.instanceMethod yX2_kindOf, Cond.selects RX2 yX2_kindOf yX2_kindOf, Cond.code yX2_kindOf cX2_kindOf 5 (some .int), Cond.methodLink RX2 53 yX1_number, Cond.methodLink RX2 59 yX2_readsAreAhead, Cond.instanceMethod yX2_readsAreAhead, Cond.selects RX2 yX2_readsAreAhead yX2_readsAreAhead, Cond.code yX2_readsAreAhead cX2_readsAreAhead 4 (some .boolean), Cond.fieldLink RX2 43 "RaceWatch$Kept" "isShared" "Z", Cond.fieldLink RX2 37 "RaceWatch$Kept" "reader" "I", Cond.fieldLink RX2 40 "RaceWatch$Kept" "readNumber" "I", Cond.fieldLink RX2 9 "RaceWatch$Kept" "readNumbers" "[I", Cond.methodLink RX2 22 yX2_forgetReads, Cond.instanceMethod yX2_forgetReads, Cond.selects RX2 yX2_forgetReads yX2_forgetReads, Cond.code yX2_forgetReads cX2_forgetReads 1 none]
def wsX6_event_r7 : List Cond := [Cond.methodLink RX2 75 yJ7_fill_53178, Cond.static yJ7_fill_53178, Cond.initialized RJ7, Cond.code yJ7_fill_53178 cJ7_fill_53178 4 none, Cond.methodLink RX2 67 yX2_keepRead, Cond.instanceMethod yX2_keepRead, Cond.selects RX2 yX2_keepRead yX2_keepRead, Cond.code yX2_keepRead cX2_keepRead 4 none, Cond.methodLink RX2 71 yX2_share, Cond.instanceMethod yX2_share, Cond.selects RX2 yX2_share yX2_share, Cond.code yX2_share cX2_share 3 none, Cond.fieldLink RX2 25 "RaceWatch$Kept" "promotions" "I", Cond.methodLink RX5 117 yX5_handOn, Cond.instanceMethod yX5_handOn, Cond.selects RX5 yX5_handOn yX5_handOn, Cond.code yX5_handOn cX5_handOn 4 none, Cond.methodLink RX5 124 yX1_copyRow, Cond.methodLink RX5 127 yX5_makeStep, Cond.instanceMethod yX5_makeStep, Cond.selects RX5 yX5_makeStep yX5_makeStep, Cond.code yX5_makeStep cX5_makeStep 3 none, Cond.methodLink RX5 59 yX1_set]
def wsX6_event : List Cond := .code yX6_event cX6_event 5 (some .int) :: ((wsX6_event_r1 ++ (wsX6_event_r2 ++ (wsX6_event_r3 ++ (wsX6_event_r4 ++ (wsX6_event_r5 ++ (wsX6_event_r6 ++ wsX6_event_r7)))))) ++ wsX60 ++ wsX50 ++ wsX30 ++ wsX10 ++ wsX20)
def wsX6_jump_r1 : List Cond := [Cond.constant RX6 67 (-1000000001), Cond.constant RX6 44 (-1000000002), Cond.fieldLink RX6 10 "RaceWatch" "world" "LRaceWatch$World;", Cond.constant RX6 72 (-1000000003), Cond.fieldLink RX6 73 "RaceWatch$World" "ofThreads" "LRaceWatch$Clocks;", Cond.constant RX6 83 (2147483647), Cond.constant RX6 84 (-1000000005), Cond.methodLink RX6 63 yX6_isIn, Cond.static yX6_isIn, Cond.initialized RX6, Cond.code yX6_isIn cX6_isIn 2 (some .boolean), Cond.methodLink RX6 68 yX5_goes, Cond.instanceMethod yX5_goes, Cond.selects RX5 yX5_goes yX5_goes, Cond.initialized RX5, Cond.code yX5_goes cX5_goes 2 (some .boolean), Cond.fieldLink RX5 9 "RaceWatch$World" "states" "[I", Cond.methodLink RX6 77 yX1_number, Cond.instanceMethod yX1_number, Cond.selects RX1 yX1_number yX1_number, Cond.initialized RX1, Cond.code yX1_number cX1_number 3 (some .int), Cond.fieldLink RX1 21 "RaceWatch$Clocks" "numbers" "[I", Cond.methodLink RX6 85 yX1_set]
def wsX6_jump_r2 : List Cond := [Cond.instanceMethod yX1_set, Cond.selects RX1 yX1_set yX1_set, Cond.code yX1_set cX1_set 4 none]
def wsX6_jump : List Cond := .code yX6_jump cX6_jump 4 (some .int) :: ((wsX6_jump_r1 ++ wsX6_jump_r2) ++ wsX60 ++ wsX50 ++ wsX10)
def wsX6_lotBehind : List Cond := .code yX6_lotBehind cX6_lotBehind 2 (some .long) :: ([.constantLong RX6 230 (16807), .constantLong RX6 232 (2147483647)])
def wsX6_drift_r1 : List Cond := [Cond.constant RX6 89 (999999), Cond.constant RX6 44 (-1000000002), Cond.fieldLink RX6 10 "RaceWatch" "world" "LRaceWatch$World;", Cond.fieldLink RX6 31 "RaceWatch$World" "log" "LRaceWatch$Log;", Cond.fieldLink RX6 35 "RaceWatch$Log" "count" "I", Cond.constantLong RX6 94 (4), Cond.constantLong RX6 96 (8), Cond.methodLink RX6 90 yX6_lotBehind, Cond.static yX6_lotBehind, Cond.initialized RX6, Cond.code yX6_lotBehind cX6_lotBehind 2 (some .long), Cond.constantLong RX6 230 (16807), Cond.constantLong RX6 232 (2147483647), Cond.methodLink RX6 98 yX6_boundOf, Cond.static yX6_boundOf, Cond.code yX6_boundOf cX6_boundOf 1 (some .int), Cond.methodLink RX6 56 yX6_refusalOf, Cond.instanceMethod yX6_refusalOf, Cond.selects RX6 yX6_refusalOf yX6_refusalOf, Cond.code yX6_refusalOf cX6_refusalOf 4 (some .int), Cond.constant RX6 67 (-1000000001), Cond.constant RX6 72 (-1000000003), Cond.constant RX6 226 (-1000000004), Cond.constant RX6 84 (-1000000005)]
def wsX6_drift_r2 : List Cond := [Cond.methodLink RX6 63 yX6_isIn, Cond.static yX6_isIn, Cond.code yX6_isIn cX6_isIn 2 (some .boolean), Cond.methodLink RX6 216 yX6_isItself, Cond.static yX6_isItself, Cond.code yX6_isItself cX6_isItself 3 (some .boolean), Cond.methodLink RX6 220 yX5_canBe, Cond.instanceMethod yX5_canBe, Cond.selects RX5 yX5_canBe yX5_canBe, Cond.initialized RX5, Cond.code yX5_canBe cX5_canBe 4 (some .boolean), Cond.fieldLink RX5 15 "RaceWatch$World" "holders" "[I", Cond.fieldLink RX5 9 "RaceWatch$World" "states" "[I", Cond.methodLink RX5 90 yX5_goes, Cond.instanceMethod yX5_goes, Cond.selects RX5 yX5_goes yX5_goes, Cond.code yX5_goes cX5_goes 2 (some .boolean), Cond.methodLink RX5 82 yX5_locksOf, Cond.instanceMethod yX5_locksOf, Cond.selects RX5 yX5_locksOf yX5_locksOf, Cond.code yX5_locksOf cX5_locksOf 4 (some .int), Cond.methodLink RX6 223 yX3_hasRoom, Cond.instanceMethod yX3_hasRoom, Cond.selects RX3 yX3_hasRoom yX3_hasRoom]
def wsX6_drift_r3 : List Cond := [Cond.initialized RX3, Cond.code yX3_hasRoom cX3_hasRoom 2 (some .boolean), Cond.fieldLink RX3 39 "RaceWatch$Log" "count" "I", Cond.methodLink RX6 227 yX5_stepIsMuch, Cond.instanceMethod yX5_stepIsMuch, Cond.selects RX5 yX5_stepIsMuch yX5_stepIsMuch, Cond.code yX5_stepIsMuch cX5_stepIsMuch 4 (some .boolean), Cond.fieldLink RX5 23 "RaceWatch$World" "ofThreads" "LRaceWatch$Clocks;", Cond.constant RX5 98 (2147483647), Cond.methodLink RX5 94 yX1_number, Cond.instanceMethod yX1_number, Cond.selects RX1 yX1_number yX1_number, Cond.initialized RX1, Cond.code yX1_number cX1_number 3 (some .int), Cond.fieldLink RX1 21 "RaceWatch$Clocks" "numbers" "[I", Cond.methodLink RX6 60 yX5_come, Cond.instanceMethod yX5_come, Cond.selects RX5 yX5_come yX5_come, Cond.code yX5_come cX5_come 6 (some .int), Cond.fieldLink RX5 43 "RaceWatch$World" "log" "LRaceWatch$Log;", Cond.constant RX5 102 (-1000000004), Cond.fieldLink RX5 36 "RaceWatch$World" "cells" "[LRaceWatch$Kept;", Cond.methodLink RX5 99 yX3_hasRoom, Cond.methodLink RX5 103 yX5_takeIn]
def wsX6_drift_r4 : List Cond := [Cond.instanceMethod yX5_takeIn, Cond.selects RX5 yX5_takeIn yX5_takeIn, Cond.code yX5_takeIn cX5_takeIn 4 none, Cond.fieldLink RX5 27 "RaceWatch$World" "ofLocks" "LRaceWatch$Clocks;", Cond.fieldLink RX5 30 "RaceWatch$World" "ofSeenCells" "LRaceWatch$Clocks;", Cond.methodLink RX5 120 yX1_join, Cond.instanceMethod yX1_join, Cond.selects RX1 yX1_join yX1_join, Cond.code yX1_join cX1_join 5 none, Cond.methodLink RX1 9 Lib.Math.max.name, Cond.static Lib.Math.max.name, Cond.initialized "java/lang/Math", Cond.code Lib.Math.max.name Lib.Math.max.code 2 (some .int), Cond.methodLink RX1 25 yX1_number, Cond.methodLink RX1 28 yX1_set, Cond.instanceMethod yX1_set, Cond.selects RX1 yX1_set yX1_set, Cond.code yX1_set cX1_set 4 none, Cond.methodLink RX5 106 yX3_append, Cond.instanceMethod yX3_append, Cond.selects RX3 yX3_append yX3_append, Cond.code yX3_append cX3_append 7 (some .int), Cond.fieldLink RX3 9 "RaceWatch$Log" "threads" "[I", Cond.fieldLink RX3 15 "RaceWatch$Log" "sorts" "[I"]
def wsX6_drift_r5 : List Cond := [Cond.fieldLink RX3 18 "RaceWatch$Log" "withs" "[I", Cond.fieldLink RX3 21 "RaceWatch$Log" "locks" "[I", Cond.fieldLink RX3 29 "RaceWatch$Log" "clocks" "LRaceWatch$Clocks;", Cond.methodLink RX3 59 yX1_copyRow, Cond.instanceMethod yX1_copyRow, Cond.selects RX1 yX1_copyRow yX1_copyRow, Cond.code yX1_copyRow cX1_copyRow 4 none, Cond.methodLink RX1 32 arraycopyName, Cond.native arraycopyName, Cond.static arraycopyName, Cond.initialized "java/lang/System", Cond.methodLink RX5 110 yX3_countRaces, Cond.instanceMethod yX3_countRaces, Cond.selects RX3 yX3_countRaces yX3_countRaces, Cond.code yX3_countRaces cX3_countRaces 5 none, Cond.fieldLink RX3 36 "RaceWatch$Log" "raceCounts" "[I", Cond.fieldLink RX3 33 "RaceWatch$Log" "racesBehind" "[I", Cond.methodLink RX3 78 yX3_kindOfPair, Cond.instanceMethod yX3_kindOfPair, Cond.selects RX3 yX3_kindOfPair yX3_kindOfPair, Cond.code yX3_kindOfPair cX3_kindOfPair 3 (some .int), Cond.methodLink RX3 71 yX3_isAccess, Cond.instanceMethod yX3_isAccess, Cond.selects RX3 yX3_isAccess yX3_isAccess]
def wsX6_drift_r6 : List Cond := [Cond.code yX3_isAccess cX3_isAccess 2 (some .boolean), Cond.methodLink RX3 81 yX3_isAhead, Cond.instanceMethod yX3_isAhead, Cond.selects RX3 yX3_isAhead yX3_isAhead, Cond.code yX3_isAhead cX3_isAhead 4 (some .boolean), Cond.methodLink RX3 63 yX1_number, Cond.methodLink RX5 113 yX2_access, Cond.instanceMethod yX2_access, Cond.selects RX2 yX2_access yX2_access, Cond.initialized RX2, Cond.code yX2_access cX2_access 7 none, Cond.fieldLink RX2 28 "RaceWatch$Kept" "firstEvent" "I", Cond.fieldLink RX2 31 "RaceWatch$Kept" "firstKind" "I", Cond.fieldLink RX2 34 "RaceWatch$Kept" "guards" "I", Cond.fieldLink RX2 15 "RaceWatch$Kept" "writer" "I", Cond.fieldLink RX2 19 "RaceWatch$Kept" "writeNumber" "I", Cond.methodLink RX2 63 yX2_kindOf, Cond.instanceMethod yX2_kindOf, Cond.selects RX2 yX2_kindOf yX2_kindOf, Cond.code yX2_kindOf cX2_kindOf 5 (some .int), Cond.methodLink RX2 53 yX1_number, Cond.methodLink RX2 59 yX2_readsAreAhead, Cond.instanceMethod yX2_readsAreAhead, Cond.selects RX2 yX2_readsAreAhead yX2_readsAreAhead]
def wsX6_drift_r7 : List Cond := [Cond.code yX2_readsAreAhead cX2_readsAreAhead 4 (some .boolean), Cond.fieldLink RX2 43 "RaceWatch$Kept" "isShared" "Z", Cond.fieldLink RX2 37 "RaceWatch$Kept" "reader" "I", Cond.fieldLink RX2 40 "RaceWatch$Kept" "readNumber" "I", Cond.fieldLink RX2 9 "RaceWatch$Kept" "readNumbers" "[I", Cond.methodLink RX2 22 yX2_forgetReads, Cond.instanceMethod yX2_forgetReads, Cond.selects RX2 yX2_forgetReads yX2_forgetReads, Cond.code yX2_forgetReads cX2_forgetReads 1 none, Cond.methodLink RX2 75 yJ7_fill_53178, Cond.static yJ7_fill_53178, Cond.initialized RJ7, Cond.code yJ7_fill_53178 cJ7_fill_53178 4 none, Cond.methodLink RX2 67 yX2_keepRead, Cond.instanceMethod yX2_keepRead, Cond.selects RX2 yX2_keepRead yX2_keepRead, Cond.code yX2_keepRead cX2_keepRead 4 none, Cond.methodLink RX2 71 yX2_share, Cond.instanceMethod yX2_share, Cond.selects RX2 yX2_share yX2_share, Cond.code yX2_share cX2_share 3 none, Cond.fieldLink RX2 25 "RaceWatch$Kept" "promotions" "I", Cond.methodLink RX5 117 yX5_handOn, Cond.instanceMethod yX5_handOn]
def wsX6_drift_r8 : List Cond := [Cond.selects RX5 yX5_handOn yX5_handOn, Cond.code yX5_handOn cX5_handOn 4 none, Cond.methodLink RX5 124 yX1_copyRow, Cond.methodLink RX5 127 yX5_makeStep, Cond.instanceMethod yX5_makeStep, Cond.selects RX5 yX5_makeStep yX5_makeStep, Cond.code yX5_makeStep cX5_makeStep 3 none, Cond.methodLink RX5 59 yX1_set]
def wsX6_drift : List Cond := .code yX6_drift cX6_drift 10 (some .int) :: ((wsX6_drift_r1 ++ (wsX6_drift_r2 ++ (wsX6_drift_r3 ++ (wsX6_drift_r4 ++ (wsX6_drift_r5 ++ (wsX6_drift_r6 ++ (wsX6_drift_r7 ++ wsX6_drift_r8))))))) ++ wsX60 ++ wsX50 ++ wsX30 ++ wsX10 ++ wsX20)
def wsX6_told_r1 : List Cond := [Cond.fieldLink RX6 10 "RaceWatch" "world" "LRaceWatch$World;", Cond.fieldLink RX6 31 "RaceWatch$World" "log" "LRaceWatch$Log;", Cond.fieldLink RX6 35 "RaceWatch$Log" "count" "I", Cond.fieldLink RX6 27 "RaceWatch" "telling" "LRaceWatch$Telling;", Cond.fieldLink RX6 114 "RaceWatch$Telling" "length" "I", Cond.fieldLink RX6 117 "RaceWatch$Telling" "book" "LRaceWatch$Book;", Cond.fieldLink RX6 121 "RaceWatch$Book" "count" "I", Cond.constant RX6 44 (-1000000002), Cond.methodLink RX6 101 yX5_threadsThat, Cond.instanceMethod yX5_threadsThat, Cond.selects RX5 yX5_threadsThat yX5_threadsThat, Cond.initialized RX5, Cond.code yX5_threadsThat cX5_threadsThat 4 (some .int), Cond.fieldLink RX5 9 "RaceWatch$World" "states" "[I", Cond.methodLink RX6 104 yX5_heldLocks, Cond.instanceMethod yX5_heldLocks, Cond.selects RX5 yX5_heldLocks yX5_heldLocks, Cond.code yX5_heldLocks cX5_heldLocks 3 (some .int), Cond.methodLink RX5 82 yX5_locksOf, Cond.instanceMethod yX5_locksOf, Cond.selects RX5 yX5_locksOf yX5_locksOf, Cond.code yX5_locksOf cX5_locksOf 4 (some .int), Cond.fieldLink RX5 15 "RaceWatch$World" "holders" "[I", Cond.methodLink RX6 108 yX3_cellsWithRace]
def wsX6_told_r2 : List Cond := [Cond.instanceMethod yX3_cellsWithRace, Cond.selects RX3 yX3_cellsWithRace yX3_cellsWithRace, Cond.initialized RX3, Cond.code yX3_cellsWithRace cX3_cellsWithRace 3 (some .int), Cond.methodLink RX3 67 yX3_racesOfCell, Cond.instanceMethod yX3_racesOfCell, Cond.selects RX3 yX3_racesOfCell yX3_racesOfCell, Cond.code yX3_racesOfCell cX3_racesOfCell 4 (some .int), Cond.fieldLink RX3 36 "RaceWatch$Log" "raceCounts" "[I", Cond.methodLink RX6 111 yX3_racesOfAll, Cond.instanceMethod yX3_racesOfAll, Cond.selects RX3 yX3_racesOfAll yX3_racesOfAll, Cond.code yX3_racesOfAll cX3_racesOfAll 3 (some .int), Cond.methodLink RX6 124 yX5_promotionsOfAll, Cond.instanceMethod yX5_promotionsOfAll, Cond.selects RX5 yX5_promotionsOfAll yX5_promotionsOfAll, Cond.code yX5_promotionsOfAll cX5_promotionsOfAll 3 (some .int), Cond.fieldLink RX5 36 "RaceWatch$World" "cells" "[LRaceWatch$Kept;", Cond.fieldLink RX5 86 "RaceWatch$Kept" "promotions" "I"]
def wsX6_told : List Cond := .code yX6_told cX6_told 2 (some .int) :: ((wsX6_told_r1 ++ wsX6_told_r2) ++ wsX60 ++ wsX50 ++ wsX30 ++ wsX40 ++ wsX00 ++ wsX20)
def wsX6_clock : List Cond := .code yX6_clock cX6_clock 5 (some .int) :: ([.constant RX6 67 (-1000000001), .constant RX6 44 (-1000000002), .fieldLink RX6 10 "RaceWatch" "world" "LRaceWatch$World;", .fieldLink RX6 73 "RaceWatch$World" "ofThreads" "LRaceWatch$Clocks;", .fieldLink RX6 127 "RaceWatch$World" "ofLocks" "LRaceWatch$Clocks;", .fieldLink RX6 130 "RaceWatch$World" "ofSeenCells" "LRaceWatch$Clocks;", .fieldLink RX6 133 "RaceWatch$Clocks" "rows" "I", .methodLink RX6 63 yX6_isIn, .static yX6_isIn, .initialized RX6, .code yX6_isIn cX6_isIn 2 (some .boolean), .methodLink RX6 77 yX1_number, .instanceMethod yX1_number, .selects RX1 yX1_number yX1_number, .initialized RX1, .code yX1_number cX1_number 3 (some .int), .fieldLink RX1 21 "RaceWatch$Clocks" "numbers" "[I"] ++ wsX60 ++ wsX50 ++ wsX10)
def wsX6_eventOf : List Cond := .code yX6_eventOf cX6_eventOf 4 (some .int) :: ([.fieldLink RX6 10 "RaceWatch" "world" "LRaceWatch$World;", .fieldLink RX6 31 "RaceWatch$World" "log" "LRaceWatch$Log;", .fieldLink RX6 35 "RaceWatch$Log" "count" "I", .constant RX6 67 (-1000000001), .fieldLink RX6 136 "RaceWatch$Log" "threads" "[I", .fieldLink RX6 140 "RaceWatch$Log" "sorts" "[I", .fieldLink RX6 143 "RaceWatch$Log" "withs" "[I", .fieldLink RX6 146 "RaceWatch$Log" "clocks" "LRaceWatch$Clocks;", .fieldLink RX6 149 "RaceWatch$Log" "locks" "[I", .constant RX6 44 (-1000000002), .methodLink RX6 63 yX6_isIn, .static yX6_isIn, .initialized RX6, .code yX6_isIn cX6_isIn 2 (some .boolean), .methodLink RX6 77 yX1_number, .instanceMethod yX1_number, .selects RX1 yX1_number yX1_number, .initialized RX1, .code yX1_number cX1_number 3 (some .int), .fieldLink RX1 21 "RaceWatch$Clocks" "numbers" "[I"] ++ wsX60 ++ wsX50 ++ wsX30 ++ wsX10)
def wsX6_holder : List Cond := .code yX6_holder cX6_holder 2 (some .int) :: ([.fieldLink RX6 10 "RaceWatch" "world" "LRaceWatch$World;", .fieldLink RX6 152 "RaceWatch$World" "holders" "[I", .constant RX6 67 (-1000000001), .methodLink RX6 63 yX6_isIn, .static yX6_isIn, .initialized RX6, .code yX6_isIn cX6_isIn 2 (some .boolean)] ++ wsX60 ++ wsX50)
def wsX6_journal : List Cond := .code yX6_journal cX6_journal 4 (some .int) :: ([.constant RX6 44 (-1000000002), .fieldLink RX6 27 "RaceWatch" "telling" "LRaceWatch$Telling;", .fieldLink RX6 117 "RaceWatch$Telling" "book" "LRaceWatch$Book;", .fieldLink RX6 121 "RaceWatch$Book" "count" "I", .fieldLink RX6 155 "RaceWatch$Book" "locks" "[I", .fieldLink RX6 156 "RaceWatch$Book" "opened" "[I", .methodLink RX6 63 yX6_isIn, .static yX6_isIn, .initialized RX6, .code yX6_isIn cX6_isIn 2 (some .boolean)] ++ wsX60 ++ wsX40 ++ wsX00)
def wsX6_ahead : List Cond := .code yX6_ahead cX6_ahead 4 (some .int) :: ([.fieldLink RX6 10 "RaceWatch" "world" "LRaceWatch$World;", .fieldLink RX6 31 "RaceWatch$World" "log" "LRaceWatch$Log;", .fieldLink RX6 35 "RaceWatch$Log" "count" "I", .constant RX6 67 (-1000000001), .methodLink RX6 63 yX6_isIn, .static yX6_isIn, .initialized RX6, .code yX6_isIn cX6_isIn 2 (some .boolean), .methodLink RX6 159 yX3_isAhead, .instanceMethod yX3_isAhead, .selects RX3 yX3_isAhead yX3_isAhead, .initialized RX3, .code yX3_isAhead cX3_isAhead 4 (some .boolean), .fieldLink RX3 9 "RaceWatch$Log" "threads" "[I", .fieldLink RX3 29 "RaceWatch$Log" "clocks" "LRaceWatch$Clocks;", .methodLink RX3 63 yX1_number, .instanceMethod yX1_number, .selects RX1 yX1_number yX1_number, .initialized RX1, .code yX1_number cX1_number 3 (some .int), .fieldLink RX1 21 "RaceWatch$Clocks" "numbers" "[I"] ++ wsX60 ++ wsX50 ++ wsX30 ++ wsX10)
def wsX6_races : List Cond := .code yX6_races cX6_races 3 (some .int) :: ([.constant RX6 67 (-1000000001), .constant RX6 44 (-1000000002), .fieldLink RX6 10 "RaceWatch" "world" "LRaceWatch$World;", .fieldLink RX6 31 "RaceWatch$World" "log" "LRaceWatch$Log;", .fieldLink RX6 165 "RaceWatch$Log" "raceCounts" "[I", .methodLink RX6 63 yX6_isIn, .static yX6_isIn, .initialized RX6, .code yX6_isIn cX6_isIn 2 (some .boolean), .methodLink RX6 162 yX3_racesOfCell, .instanceMethod yX3_racesOfCell, .selects RX3 yX3_racesOfCell yX3_racesOfCell, .initialized RX3, .code yX3_racesOfCell cX3_racesOfCell 4 (some .int), .fieldLink RX3 36 "RaceWatch$Log" "raceCounts" "[I"] ++ wsX60 ++ wsX50 ++ wsX30)
def wsX6_race_r1 : List Cond := [Cond.constant RX6 67 (-1000000001), Cond.constant RX6 44 (-1000000002), Cond.fieldLink RX6 10 "RaceWatch" "world" "LRaceWatch$World;", Cond.fieldLink RX6 31 "RaceWatch$World" "log" "LRaceWatch$Log;", Cond.methodLink RX6 63 yX6_isIn, Cond.static yX6_isIn, Cond.initialized RX6, Cond.code yX6_isIn cX6_isIn 2 (some .boolean), Cond.methodLink RX6 168 yX3_partOfRace, Cond.instanceMethod yX3_partOfRace, Cond.selects RX3 yX3_partOfRace yX3_partOfRace, Cond.initialized RX3, Cond.code yX3_partOfRace cX3_partOfRace 7 (some .int), Cond.fieldLink RX3 39 "RaceWatch$Log" "count" "I", Cond.fieldLink RX3 18 "RaceWatch$Log" "withs" "[I", Cond.fieldLink RX3 33 "RaceWatch$Log" "racesBehind" "[I", Cond.methodLink RX3 71 yX3_isAccess, Cond.instanceMethod yX3_isAccess, Cond.selects RX3 yX3_isAccess yX3_isAccess, Cond.code yX3_isAccess cX3_isAccess 2 (some .boolean), Cond.fieldLink RX3 15 "RaceWatch$Log" "sorts" "[I", Cond.methodLink RX3 75 yX3_earlierOf, Cond.instanceMethod yX3_earlierOf, Cond.selects RX3 yX3_earlierOf yX3_earlierOf]
def wsX6_race_r2 : List Cond := [Cond.code yX3_earlierOf cX3_earlierOf 5 (some .int), Cond.methodLink RX3 78 yX3_kindOfPair, Cond.instanceMethod yX3_kindOfPair, Cond.selects RX3 yX3_kindOfPair yX3_kindOfPair, Cond.code yX3_kindOfPair cX3_kindOfPair 3 (some .int), Cond.fieldLink RX3 9 "RaceWatch$Log" "threads" "[I", Cond.methodLink RX3 81 yX3_isAhead, Cond.instanceMethod yX3_isAhead, Cond.selects RX3 yX3_isAhead yX3_isAhead, Cond.code yX3_isAhead cX3_isAhead 4 (some .boolean), Cond.fieldLink RX3 29 "RaceWatch$Log" "clocks" "LRaceWatch$Clocks;", Cond.methodLink RX3 63 yX1_number, Cond.instanceMethod yX1_number, Cond.selects RX1 yX1_number yX1_number, Cond.initialized RX1, Cond.code yX1_number cX1_number 3 (some .int), Cond.fieldLink RX1 21 "RaceWatch$Clocks" "numbers" "[I"]
def wsX6_race : List Cond := .code yX6_race cX6_race 4 (some .int) :: ((wsX6_race_r1 ++ wsX6_race_r2) ++ wsX60 ++ wsX50 ++ wsX30 ++ wsX10)
def wsX6_cell : List Cond := .code yX6_cell cX6_cell 4 (some .int) :: ([.constant RX6 67 (-1000000001), .fieldLink RX6 10 "RaceWatch" "world" "LRaceWatch$World;", .fieldLink RX6 171 "RaceWatch$World" "cells" "[LRaceWatch$Kept;", .fieldLink RX6 175 "RaceWatch$Kept" "writer" "I", .fieldLink RX6 180 "RaceWatch$Kept" "writeNumber" "I", .fieldLink RX6 183 "RaceWatch$Kept" "reader" "I", .fieldLink RX6 186 "RaceWatch$Kept" "readNumber" "I", .fieldLink RX6 189 "RaceWatch$Kept" "isShared" "Z", .fieldLink RX6 193 "RaceWatch$Kept" "promotions" "I", .fieldLink RX6 196 "RaceWatch$Kept" "firstEvent" "I", .fieldLink RX6 199 "RaceWatch$Kept" "firstKind" "I", .constant RX6 44 (-1000000002), .methodLink RX6 63 yX6_isIn, .static yX6_isIn, .initialized RX6, .code yX6_isIn cX6_isIn 2 (some .boolean)] ++ wsX60 ++ wsX50 ++ wsX20)
def wsX6_shared : List Cond := .code yX6_shared cX6_shared 3 (some .int) :: ([.constant RX6 67 (-1000000001), .fieldLink RX6 10 "RaceWatch" "world" "LRaceWatch$World;", .fieldLink RX6 171 "RaceWatch$World" "cells" "[LRaceWatch$Kept;", .fieldLink RX6 202 "RaceWatch$Kept" "readNumbers" "[I", .methodLink RX6 63 yX6_isIn, .static yX6_isIn, .initialized RX6, .code yX6_isIn cX6_isIn 2 (some .boolean)] ++ wsX60 ++ wsX50 ++ wsX20)
def wsX6_would_r1 : List Cond := [Cond.constant RX6 67 (-1000000001), Cond.fieldLink RX6 10 "RaceWatch" "world" "LRaceWatch$World;", Cond.constant RX6 72 (-1000000003), Cond.fieldLink RX6 171 "RaceWatch$World" "cells" "[LRaceWatch$Kept;", Cond.fieldLink RX6 73 "RaceWatch$World" "ofThreads" "LRaceWatch$Clocks;", Cond.methodLink RX6 63 yX6_isIn, Cond.static yX6_isIn, Cond.initialized RX6, Cond.code yX6_isIn cX6_isIn 2 (some .boolean), Cond.methodLink RX6 68 yX5_goes, Cond.instanceMethod yX5_goes, Cond.selects RX5 yX5_goes yX5_goes, Cond.initialized RX5, Cond.code yX5_goes cX5_goes 2 (some .boolean), Cond.fieldLink RX5 9 "RaceWatch$World" "states" "[I", Cond.methodLink RX6 205 yX2_kindOf, Cond.instanceMethod yX2_kindOf, Cond.selects RX2 yX2_kindOf yX2_kindOf, Cond.initialized RX2, Cond.code yX2_kindOf cX2_kindOf 5 (some .int), Cond.fieldLink RX2 15 "RaceWatch$Kept" "writer" "I", Cond.fieldLink RX2 19 "RaceWatch$Kept" "writeNumber" "I", Cond.methodLink RX2 53 yX1_number, Cond.instanceMethod yX1_number]
def wsX6_would_r2 : List Cond := [Cond.selects RX1 yX1_number yX1_number, Cond.initialized RX1, Cond.code yX1_number cX1_number 3 (some .int), Cond.fieldLink RX1 21 "RaceWatch$Clocks" "numbers" "[I", Cond.methodLink RX2 59 yX2_readsAreAhead, Cond.instanceMethod yX2_readsAreAhead, Cond.selects RX2 yX2_readsAreAhead yX2_readsAreAhead, Cond.code yX2_readsAreAhead cX2_readsAreAhead 4 (some .boolean), Cond.fieldLink RX2 43 "RaceWatch$Kept" "isShared" "Z", Cond.fieldLink RX2 37 "RaceWatch$Kept" "reader" "I", Cond.fieldLink RX2 40 "RaceWatch$Kept" "readNumber" "I", Cond.fieldLink RX2 9 "RaceWatch$Kept" "readNumbers" "[I"]
def wsX6_would : List Cond := .code yX6_would cX6_would 4 (some .int) :: ((wsX6_would_r1 ++ wsX6_would_r2) ++ wsX60 ++ wsX50 ++ wsX20 ++ wsX10)
def wsX6_guard : List Cond := .code yX6_guard cX6_guard 2 (some .int) :: ([.fieldLink RX6 10 "RaceWatch" "world" "LRaceWatch$World;", .fieldLink RX6 171 "RaceWatch$World" "cells" "[LRaceWatch$Kept;", .fieldLink RX6 209 "RaceWatch$Kept" "guards" "I", .constant RX6 67 (-1000000001), .methodLink RX6 63 yX6_isIn, .static yX6_isIn, .initialized RX6, .code yX6_isIn cX6_isIn 2 (some .boolean)] ++ wsX60 ++ wsX50 ++ wsX20)
def wsX6_keep_r1 : List Cond := [Cond.constant RX6 67 (-1000000001), Cond.fieldLink RX6 16 "RaceWatch" "images" "[LRaceWatch$World;", Cond.fieldLink RX6 10 "RaceWatch" "world" "LRaceWatch$World;", Cond.fieldLink RX6 20 "RaceWatch" "isKept" "[Z", Cond.fieldLink RX6 31 "RaceWatch$World" "log" "LRaceWatch$Log;", Cond.fieldLink RX6 35 "RaceWatch$Log" "count" "I", Cond.methodLink RX6 63 yX6_isIn, Cond.static yX6_isIn, Cond.initialized RX6, Cond.code yX6_isIn cX6_isIn 2 (some .boolean), Cond.methodLink RX6 212 yX5_copy, Cond.instanceMethod yX5_copy, Cond.selects RX5 yX5_copy yX5_copy, Cond.initialized RX5, Cond.code yX5_copy cX5_copy 3 none, Cond.fieldLink RX5 9 "RaceWatch$World" "states" "[I", Cond.methodLink RX5 65 arraycopyName, Cond.native arraycopyName, Cond.static arraycopyName, Cond.initialized "java/lang/System", Cond.fieldLink RX5 15 "RaceWatch$World" "holders" "[I", Cond.fieldLink RX5 23 "RaceWatch$World" "ofThreads" "LRaceWatch$Clocks;", Cond.fieldLink RX5 27 "RaceWatch$World" "ofLocks" "LRaceWatch$Clocks;", Cond.fieldLink RX5 30 "RaceWatch$World" "ofSeenCells" "LRaceWatch$Clocks;"]
def wsX6_keep_r2 : List Cond := [Cond.fieldLink RX5 36 "RaceWatch$World" "cells" "[LRaceWatch$Kept;", Cond.fieldLink RX5 43 "RaceWatch$World" "log" "LRaceWatch$Log;", Cond.methodLink RX5 71 yX1_copyRows, Cond.instanceMethod yX1_copyRows, Cond.selects RX1 yX1_copyRows yX1_copyRows, Cond.initialized RX1, Cond.code yX1_copyRows cX1_copyRows 3 none, Cond.fieldLink RX1 21 "RaceWatch$Clocks" "numbers" "[I", Cond.methodLink RX1 32 arraycopyName, Cond.methodLink RX5 75 yX2_copy, Cond.instanceMethod yX2_copy, Cond.selects RX2 yX2_copy yX2_copy, Cond.initialized RX2, Cond.code yX2_copy cX2_copy 2 none, Cond.fieldLink RX2 15 "RaceWatch$Kept" "writer" "I", Cond.fieldLink RX2 19 "RaceWatch$Kept" "writeNumber" "I", Cond.fieldLink RX2 37 "RaceWatch$Kept" "reader" "I", Cond.fieldLink RX2 40 "RaceWatch$Kept" "readNumber" "I", Cond.fieldLink RX2 43 "RaceWatch$Kept" "isShared" "Z", Cond.fieldLink RX2 9 "RaceWatch$Kept" "readNumbers" "[I", Cond.methodLink RX2 47 arraycopyName, Cond.fieldLink RX2 25 "RaceWatch$Kept" "promotions" "I", Cond.fieldLink RX2 28 "RaceWatch$Kept" "firstEvent" "I", Cond.fieldLink RX2 31 "RaceWatch$Kept" "firstKind" "I"]
def wsX6_keep_r3 : List Cond := [Cond.fieldLink RX2 34 "RaceWatch$Kept" "guards" "I", Cond.methodLink RX5 79 yX3_copy, Cond.instanceMethod yX3_copy, Cond.selects RX3 yX3_copy yX3_copy, Cond.initialized RX3, Cond.code yX3_copy cX3_copy 2 none, Cond.fieldLink RX3 39 "RaceWatch$Log" "count" "I", Cond.fieldLink RX3 9 "RaceWatch$Log" "threads" "[I", Cond.methodLink RX3 49 arraycopyName, Cond.fieldLink RX3 15 "RaceWatch$Log" "sorts" "[I", Cond.fieldLink RX3 18 "RaceWatch$Log" "withs" "[I", Cond.fieldLink RX3 21 "RaceWatch$Log" "locks" "[I", Cond.fieldLink RX3 29 "RaceWatch$Log" "clocks" "LRaceWatch$Clocks;", Cond.fieldLink RX3 33 "RaceWatch$Log" "racesBehind" "[I", Cond.fieldLink RX3 36 "RaceWatch$Log" "raceCounts" "[I", Cond.methodLink RX3 55 yX1_copyRows]
def wsX6_keep : List Cond := .code yX6_keep cX6_keep 2 (some .int) :: ((wsX6_keep_r1 ++ (wsX6_keep_r2 ++ wsX6_keep_r3)) ++ wsX60 ++ wsX50 ++ wsX30 ++ wsX10 ++ wsX20)
def wsX6_goBack_r1 : List Cond := [Cond.constant RX6 67 (-1000000001), Cond.fieldLink RX6 20 "RaceWatch" "isKept" "[Z", Cond.constant RX6 72 (-1000000003), Cond.fieldLink RX6 10 "RaceWatch" "world" "LRaceWatch$World;", Cond.fieldLink RX6 16 "RaceWatch" "images" "[LRaceWatch$World;", Cond.fieldLink RX6 31 "RaceWatch$World" "log" "LRaceWatch$Log;", Cond.fieldLink RX6 35 "RaceWatch$Log" "count" "I", Cond.methodLink RX6 63 yX6_isIn, Cond.static yX6_isIn, Cond.initialized RX6, Cond.code yX6_isIn cX6_isIn 2 (some .boolean), Cond.methodLink RX6 212 yX5_copy, Cond.instanceMethod yX5_copy, Cond.selects RX5 yX5_copy yX5_copy, Cond.initialized RX5, Cond.code yX5_copy cX5_copy 3 none, Cond.fieldLink RX5 9 "RaceWatch$World" "states" "[I", Cond.methodLink RX5 65 arraycopyName, Cond.native arraycopyName, Cond.static arraycopyName, Cond.initialized "java/lang/System", Cond.fieldLink RX5 15 "RaceWatch$World" "holders" "[I", Cond.fieldLink RX5 23 "RaceWatch$World" "ofThreads" "LRaceWatch$Clocks;", Cond.fieldLink RX5 27 "RaceWatch$World" "ofLocks" "LRaceWatch$Clocks;"]
def wsX6_goBack_r2 : List Cond := [Cond.fieldLink RX5 30 "RaceWatch$World" "ofSeenCells" "LRaceWatch$Clocks;", Cond.fieldLink RX5 36 "RaceWatch$World" "cells" "[LRaceWatch$Kept;", Cond.fieldLink RX5 43 "RaceWatch$World" "log" "LRaceWatch$Log;", Cond.methodLink RX5 71 yX1_copyRows, Cond.instanceMethod yX1_copyRows, Cond.selects RX1 yX1_copyRows yX1_copyRows, Cond.initialized RX1, Cond.code yX1_copyRows cX1_copyRows 3 none, Cond.fieldLink RX1 21 "RaceWatch$Clocks" "numbers" "[I", Cond.methodLink RX1 32 arraycopyName, Cond.methodLink RX5 75 yX2_copy, Cond.instanceMethod yX2_copy, Cond.selects RX2 yX2_copy yX2_copy, Cond.initialized RX2, Cond.code yX2_copy cX2_copy 2 none, Cond.fieldLink RX2 15 "RaceWatch$Kept" "writer" "I", Cond.fieldLink RX2 19 "RaceWatch$Kept" "writeNumber" "I", Cond.fieldLink RX2 37 "RaceWatch$Kept" "reader" "I", Cond.fieldLink RX2 40 "RaceWatch$Kept" "readNumber" "I", Cond.fieldLink RX2 43 "RaceWatch$Kept" "isShared" "Z", Cond.fieldLink RX2 9 "RaceWatch$Kept" "readNumbers" "[I", Cond.methodLink RX2 47 arraycopyName, Cond.fieldLink RX2 25 "RaceWatch$Kept" "promotions" "I", Cond.fieldLink RX2 28 "RaceWatch$Kept" "firstEvent" "I"]
def wsX6_goBack_r3 : List Cond := [Cond.fieldLink RX2 31 "RaceWatch$Kept" "firstKind" "I", Cond.fieldLink RX2 34 "RaceWatch$Kept" "guards" "I", Cond.methodLink RX5 79 yX3_copy, Cond.instanceMethod yX3_copy, Cond.selects RX3 yX3_copy yX3_copy, Cond.initialized RX3, Cond.code yX3_copy cX3_copy 2 none, Cond.fieldLink RX3 39 "RaceWatch$Log" "count" "I", Cond.fieldLink RX3 9 "RaceWatch$Log" "threads" "[I", Cond.methodLink RX3 49 arraycopyName, Cond.fieldLink RX3 15 "RaceWatch$Log" "sorts" "[I", Cond.fieldLink RX3 18 "RaceWatch$Log" "withs" "[I", Cond.fieldLink RX3 21 "RaceWatch$Log" "locks" "[I", Cond.fieldLink RX3 29 "RaceWatch$Log" "clocks" "LRaceWatch$Clocks;", Cond.fieldLink RX3 33 "RaceWatch$Log" "racesBehind" "[I", Cond.fieldLink RX3 36 "RaceWatch$Log" "raceCounts" "[I", Cond.methodLink RX3 55 yX1_copyRows]
def wsX6_goBack : List Cond := .code yX6_goBack cX6_goBack 2 (some .int) :: ((wsX6_goBack_r1 ++ (wsX6_goBack_r2 ++ wsX6_goBack_r3)) ++ wsX60 ++ wsX50 ++ wsX30 ++ wsX10 ++ wsX20)
def wsX7_of : List Cond := .code yX7_of cX7_of 1 (some .int) :: ([])
def wsX7_clear : List Cond := .code yX7_clear cX7_clear 2 none :: ([.fieldLink RX7 7 "RaceWatchModel" "w" "[I", .methodLink RX7 37 yX7_of, .static yX7_of, .initialized RX7, .code yX7_of cX7_of 1 (some .int)] ++ wsX70)
def wsX7_init : List Cond := .code yX7_init cX7_init 1 none :: ([.methodLink RX7 1 objectInit, .instanceMethod objectInit, .code objectInit ⟨#[0xb1]⟩ 1 none, .arrayClass .int, .fieldLink RX7 7 "RaceWatchModel" "w" "[I", .arrayClass .boolean, .fieldLink RX7 13 "RaceWatchModel" "isKept" "[Z", .fieldLink RX7 17 "RaceWatchModel" "journals" "[I", .fieldLink RX7 20 "RaceWatchModel" "openLock" "[I", .fieldLink RX7 23 "RaceWatchModel" "openThread" "[I", .methodLink RX7 26 yX7_clear, .instanceMethod yX7_clear, .selects RX7 yX7_clear yX7_clear, .initialized RX7, .code yX7_clear cX7_clear 2 none, .methodLink RX7 37 yX7_of, .static yX7_of, .code yX7_of cX7_of 1 (some .int)] ++ wsX70)
def wsX7_in : List Cond := .code yX7_in cX7_in 6 (some .boolean) :: ([])
def wsX7_isThread : List Cond := .code yX7_isThread cX7_isThread 1 (some .boolean) :: ([.constantLong RX7 29 (3), .methodLink RX7 31 yX7_in, .static yX7_in, .initialized RX7, .code yX7_in cX7_in 6 (some .boolean)])
def wsX7_isLock : List Cond := .code yX7_isLock cX7_isLock 1 (some .boolean) :: ([.constantLong RX7 35 (2), .methodLink RX7 31 yX7_in, .static yX7_in, .initialized RX7, .code yX7_in cX7_in 6 (some .boolean)])
def wsX7_isCell : List Cond := .code yX7_isCell cX7_isCell 1 (some .boolean) :: ([.constantLong RX7 29 (3), .methodLink RX7 31 yX7_in, .static yX7_in, .initialized RX7, .code yX7_in cX7_in 6 (some .boolean)])
def wsX7_isSeen : List Cond := .code yX7_isSeen cX7_isSeen 1 (some .boolean) :: ([.methodLink RX7 31 yX7_in, .static yX7_in, .initialized RX7, .code yX7_in cX7_in 6 (some .boolean)])
def wsX7_anew : List Cond := .code yX7_anew cX7_anew 2 (some .int) :: ([.fieldLink RX7 7 "RaceWatchModel" "w" "[I", .methodLink RX7 26 yX7_clear, .instanceMethod yX7_clear, .selects RX7 yX7_clear yX7_clear, .initialized RX7, .code yX7_clear cX7_clear 2 none, .methodLink RX7 37 yX7_of, .static yX7_of, .code yX7_of cX7_of 1 (some .int)] ++ wsX70)
def wsX7_held : List Cond := .code yX7_held cX7_held 4 (some .int) :: ([.fieldLink RX7 7 "RaceWatchModel" "w" "[I"] ++ wsX70)
def wsX7_number : List Cond := .code yX7_number cX7_number 3 (some .int) :: ([.fieldLink RX7 7 "RaceWatchModel" "w" "[I"] ++ wsX70)
def wsX7_joins : List Cond := .code yX7_joins cX7_joins 4 none :: ([.fieldLink RX7 7 "RaceWatchModel" "w" "[I"] ++ wsX70)
def wsX7_isMuch : List Cond := .code yX7_isMuch cX7_isMuch 2 (some .boolean) :: ([.constant RX7 45 (2147483647), .methodLink RX7 41 yX7_number, .instanceMethod yX7_number, .selects RX7 yX7_number yX7_number, .initialized RX7, .code yX7_number cX7_number 3 (some .int), .fieldLink RX7 7 "RaceWatchModel" "w" "[I"] ++ wsX70)
def wsX7_steps : List Cond := .code yX7_steps cX7_steps 2 none :: ([.fieldLink RX7 7 "RaceWatchModel" "w" "[I"] ++ wsX70)
def wsX7_isWith : List Cond := .code yX7_isWith cX7_isWith 3 (some .boolean) :: ([.methodLink RX7 46 yX7_isCell, .static yX7_isCell, .initialized RX7, .code yX7_isCell cX7_isCell 1 (some .boolean), .constantLong RX7 29 (3), .methodLink RX7 31 yX7_in, .static yX7_in, .code yX7_in cX7_in 6 (some .boolean), .methodLink RX7 50 yX7_isLock, .static yX7_isLock, .code yX7_isLock cX7_isLock 1 (some .boolean), .constantLong RX7 35 (2), .methodLink RX7 53 yX7_isSeen, .static yX7_isSeen, .code yX7_isSeen cX7_isSeen 1 (some .boolean), .methodLink RX7 56 yX7_isThread, .static yX7_isThread, .code yX7_isThread cX7_isThread 1 (some .boolean)])
def wsX7_can : List Cond := .code yX7_can cX7_can 4 (some .boolean) :: ([.fieldLink RX7 7 "RaceWatchModel" "w" "[I", .methodLink RX7 59 yX7_held, .instanceMethod yX7_held, .selects RX7 yX7_held yX7_held, .initialized RX7, .code yX7_held cX7_held 4 (some .int)] ++ wsX70)
def wsX7_hasStep : List Cond := .code yX7_hasStep cX7_hasStep 1 (some .boolean) :: ([])
def wsX7_writes : List Cond := .code yX7_writes cX7_writes 6 none :: ([.fieldLink RX7 7 "RaceWatchModel" "w" "[I", .methodLink RX7 41 yX7_number, .instanceMethod yX7_number, .selects RX7 yX7_number yX7_number, .initialized RX7, .code yX7_number cX7_number 3 (some .int), .methodLink RX7 59 yX7_held, .instanceMethod yX7_held, .selects RX7 yX7_held yX7_held, .code yX7_held cX7_held 4 (some .int)] ++ wsX70)
def wsX7_kindOf : List Cond := .code yX7_kindOf cX7_kindOf 9 (some .int) :: ([.fieldLink RX7 7 "RaceWatchModel" "w" "[I", .methodLink RX7 37 yX7_of, .static yX7_of, .initialized RX7, .code yX7_of cX7_of 1 (some .int), .methodLink RX7 41 yX7_number, .instanceMethod yX7_number, .selects RX7 yX7_number yX7_number, .code yX7_number cX7_number 3 (some .int)] ++ wsX70)
def wsX7_reads : List Cond := .code yX7_reads cX7_reads 4 none :: ([.fieldLink RX7 7 "RaceWatchModel" "w" "[I", .methodLink RX7 41 yX7_number, .instanceMethod yX7_number, .selects RX7 yX7_number yX7_number, .initialized RX7, .code yX7_number cX7_number 3 (some .int)] ++ wsX70)
def wsX7_accesses : List Cond := .code yX7_accesses cX7_accesses 7 none :: ([.fieldLink RX7 7 "RaceWatchModel" "w" "[I", .methodLink RX7 37 yX7_of, .static yX7_of, .initialized RX7, .code yX7_of cX7_of 1 (some .int), .methodLink RX7 62 yX7_kindOf, .instanceMethod yX7_kindOf, .selects RX7 yX7_kindOf yX7_kindOf, .code yX7_kindOf cX7_kindOf 9 (some .int), .methodLink RX7 41 yX7_number, .instanceMethod yX7_number, .selects RX7 yX7_number yX7_number, .code yX7_number cX7_number 3 (some .int), .methodLink RX7 66 yX7_reads, .instanceMethod yX7_reads, .selects RX7 yX7_reads yX7_reads, .code yX7_reads cX7_reads 4 none] ++ wsX70)
def wsX7_comes_r1 : List Cond := [Cond.fieldLink RX7 7 "RaceWatchModel" "w" "[I", Cond.methodLink RX7 70 yX7_accesses, Cond.instanceMethod yX7_accesses, Cond.selects RX7 yX7_accesses yX7_accesses, Cond.initialized RX7, Cond.code yX7_accesses cX7_accesses 7 none, Cond.methodLink RX7 37 yX7_of, Cond.static yX7_of, Cond.code yX7_of cX7_of 1 (some .int), Cond.methodLink RX7 62 yX7_kindOf, Cond.instanceMethod yX7_kindOf, Cond.selects RX7 yX7_kindOf yX7_kindOf, Cond.code yX7_kindOf cX7_kindOf 9 (some .int), Cond.methodLink RX7 41 yX7_number, Cond.instanceMethod yX7_number, Cond.selects RX7 yX7_number yX7_number, Cond.code yX7_number cX7_number 3 (some .int), Cond.methodLink RX7 66 yX7_reads, Cond.instanceMethod yX7_reads, Cond.selects RX7 yX7_reads yX7_reads, Cond.code yX7_reads cX7_reads 4 none, Cond.methodLink RX7 74 yX7_joins, Cond.instanceMethod yX7_joins, Cond.selects RX7 yX7_joins yX7_joins]
def wsX7_comes_r2 : List Cond := [Cond.code yX7_joins cX7_joins 4 none, Cond.methodLink RX7 77 yX7_writes, Cond.instanceMethod yX7_writes, Cond.selects RX7 yX7_writes yX7_writes, Cond.code yX7_writes cX7_writes 6 none, Cond.methodLink RX7 59 yX7_held, Cond.instanceMethod yX7_held, Cond.selects RX7 yX7_held yX7_held, Cond.code yX7_held cX7_held 4 (some .int), Cond.methodLink RX7 81 yX7_hasStep, Cond.static yX7_hasStep, Cond.code yX7_hasStep cX7_hasStep 1 (some .boolean), Cond.methodLink RX7 84 yX7_isMuch, Cond.instanceMethod yX7_isMuch, Cond.selects RX7 yX7_isMuch yX7_isMuch, Cond.code yX7_isMuch cX7_isMuch 2 (some .boolean), Cond.constant RX7 45 (2147483647), Cond.methodLink RX7 87 yX7_steps, Cond.instanceMethod yX7_steps, Cond.selects RX7 yX7_steps yX7_steps, Cond.code yX7_steps cX7_steps 2 none]
def wsX7_comes : List Cond := .code yX7_comes cX7_comes 6 none :: ((wsX7_comes_r1 ++ wsX7_comes_r2) ++ wsX70)
def wsX7_event_r1 : List Cond := [Cond.constantLong RX7 91 (7), Cond.constant RX7 97 (-1000000001), Cond.constant RX7 98 (-1000000002), Cond.constant RX7 102 (-1000000003), Cond.fieldLink RX7 7 "RaceWatchModel" "w" "[I", Cond.constant RX7 103 (-1000000004), Cond.constant RX7 104 (-1000000005), Cond.methodLink RX7 56 yX7_isThread, Cond.static yX7_isThread, Cond.initialized RX7, Cond.code yX7_isThread cX7_isThread 1 (some .boolean), Cond.constantLong RX7 29 (3), Cond.methodLink RX7 31 yX7_in, Cond.static yX7_in, Cond.code yX7_in cX7_in 6 (some .boolean), Cond.methodLink RX7 93 yX7_isWith, Cond.static yX7_isWith, Cond.code yX7_isWith cX7_isWith 3 (some .boolean), Cond.methodLink RX7 46 yX7_isCell, Cond.static yX7_isCell, Cond.code yX7_isCell cX7_isCell 1 (some .boolean), Cond.methodLink RX7 50 yX7_isLock, Cond.static yX7_isLock, Cond.code yX7_isLock cX7_isLock 1 (some .boolean)]
def wsX7_event_r2 : List Cond := [Cond.constantLong RX7 35 (2), Cond.methodLink RX7 53 yX7_isSeen, Cond.static yX7_isSeen, Cond.code yX7_isSeen cX7_isSeen 1 (some .boolean), Cond.methodLink RX7 99 yX7_can, Cond.instanceMethod yX7_can, Cond.selects RX7 yX7_can yX7_can, Cond.code yX7_can cX7_can 4 (some .boolean), Cond.methodLink RX7 59 yX7_held, Cond.instanceMethod yX7_held, Cond.selects RX7 yX7_held yX7_held, Cond.code yX7_held cX7_held 4 (some .int), Cond.methodLink RX7 81 yX7_hasStep, Cond.static yX7_hasStep, Cond.code yX7_hasStep cX7_hasStep 1 (some .boolean), Cond.methodLink RX7 84 yX7_isMuch, Cond.instanceMethod yX7_isMuch, Cond.selects RX7 yX7_isMuch yX7_isMuch, Cond.code yX7_isMuch cX7_isMuch 2 (some .boolean), Cond.constant RX7 45 (2147483647), Cond.methodLink RX7 41 yX7_number, Cond.instanceMethod yX7_number, Cond.selects RX7 yX7_number yX7_number, Cond.code yX7_number cX7_number 3 (some .int)]
def wsX7_event_r3 : List Cond := [Cond.methodLink RX7 105 yX7_comes, Cond.instanceMethod yX7_comes, Cond.selects RX7 yX7_comes yX7_comes, Cond.code yX7_comes cX7_comes 6 none, Cond.methodLink RX7 70 yX7_accesses, Cond.instanceMethod yX7_accesses, Cond.selects RX7 yX7_accesses yX7_accesses, Cond.code yX7_accesses cX7_accesses 7 none, Cond.methodLink RX7 37 yX7_of, Cond.static yX7_of, Cond.code yX7_of cX7_of 1 (some .int), Cond.methodLink RX7 62 yX7_kindOf, Cond.instanceMethod yX7_kindOf, Cond.selects RX7 yX7_kindOf yX7_kindOf, Cond.code yX7_kindOf cX7_kindOf 9 (some .int), Cond.methodLink RX7 66 yX7_reads, Cond.instanceMethod yX7_reads, Cond.selects RX7 yX7_reads yX7_reads, Cond.code yX7_reads cX7_reads 4 none, Cond.methodLink RX7 74 yX7_joins, Cond.instanceMethod yX7_joins, Cond.selects RX7 yX7_joins yX7_joins, Cond.code yX7_joins cX7_joins 4 none, Cond.methodLink RX7 77 yX7_writes]
def wsX7_event_r4 : List Cond := [Cond.instanceMethod yX7_writes, Cond.selects RX7 yX7_writes yX7_writes, Cond.code yX7_writes cX7_writes 6 none, Cond.methodLink RX7 87 yX7_steps, Cond.instanceMethod yX7_steps, Cond.selects RX7 yX7_steps yX7_steps, Cond.code yX7_steps cX7_steps 2 none]
def wsX7_event : List Cond := .code yX7_event cX7_event 4 (some .int) :: ((wsX7_event_r1 ++ (wsX7_event_r2 ++ (wsX7_event_r3 ++ wsX7_event_r4))) ++ wsX70)
def wsX7_jump : List Cond := .code yX7_jump cX7_jump 3 (some .int) :: ([.constant RX7 97 (-1000000001), .constant RX7 98 (-1000000002), .fieldLink RX7 7 "RaceWatchModel" "w" "[I", .constant RX7 102 (-1000000003), .constantLong RX7 108 (2147483647), .constant RX7 104 (-1000000005), .methodLink RX7 56 yX7_isThread, .static yX7_isThread, .initialized RX7, .code yX7_isThread cX7_isThread 1 (some .boolean), .constantLong RX7 29 (3), .methodLink RX7 31 yX7_in, .static yX7_in, .code yX7_in cX7_in 6 (some .boolean), .methodLink RX7 41 yX7_number, .instanceMethod yX7_number, .selects RX7 yX7_number yX7_number, .code yX7_number cX7_number 3 (some .int)] ++ wsX70)
def wsX7_draw : List Cond := .code yX7_draw cX7_draw 2 (some .int) :: ([.fieldLink RX7 110 "RaceWatchModel" "x" "J", .constantLong RX7 114 (16807), .constantLong RX7 108 (2147483647)] ++ wsX70)
def wsX7_drift_r1 : List Cond := [Cond.constantLong RX7 116 (40), Cond.constantLong RX7 118 (999999), Cond.constant RX7 98 (-1000000002), Cond.fieldLink RX7 110 "RaceWatchModel" "x" "J", Cond.methodLink RX7 31 yX7_in, Cond.static yX7_in, Cond.initialized RX7, Cond.code yX7_in cX7_in 6 (some .boolean), Cond.methodLink RX7 120 yX7_draw, Cond.instanceMethod yX7_draw, Cond.selects RX7 yX7_draw yX7_draw, Cond.code yX7_draw cX7_draw 2 (some .int), Cond.constantLong RX7 114 (16807), Cond.constantLong RX7 108 (2147483647), Cond.methodLink RX7 123 yX7_event, Cond.instanceMethod yX7_event, Cond.selects RX7 yX7_event yX7_event, Cond.code yX7_event cX7_event 4 (some .int), Cond.constantLong RX7 91 (7), Cond.constant RX7 97 (-1000000001), Cond.constant RX7 102 (-1000000003), Cond.fieldLink RX7 7 "RaceWatchModel" "w" "[I", Cond.constant RX7 103 (-1000000004), Cond.constant RX7 104 (-1000000005)]
def wsX7_drift_r2 : List Cond := [Cond.methodLink RX7 56 yX7_isThread, Cond.static yX7_isThread, Cond.code yX7_isThread cX7_isThread 1 (some .boolean), Cond.constantLong RX7 29 (3), Cond.methodLink RX7 93 yX7_isWith, Cond.static yX7_isWith, Cond.code yX7_isWith cX7_isWith 3 (some .boolean), Cond.methodLink RX7 46 yX7_isCell, Cond.static yX7_isCell, Cond.code yX7_isCell cX7_isCell 1 (some .boolean), Cond.methodLink RX7 50 yX7_isLock, Cond.static yX7_isLock, Cond.code yX7_isLock cX7_isLock 1 (some .boolean), Cond.constantLong RX7 35 (2), Cond.methodLink RX7 53 yX7_isSeen, Cond.static yX7_isSeen, Cond.code yX7_isSeen cX7_isSeen 1 (some .boolean), Cond.methodLink RX7 99 yX7_can, Cond.instanceMethod yX7_can, Cond.selects RX7 yX7_can yX7_can, Cond.code yX7_can cX7_can 4 (some .boolean), Cond.methodLink RX7 59 yX7_held, Cond.instanceMethod yX7_held, Cond.selects RX7 yX7_held yX7_held]
def wsX7_drift_r3 : List Cond := [Cond.code yX7_held cX7_held 4 (some .int), Cond.methodLink RX7 81 yX7_hasStep, Cond.static yX7_hasStep, Cond.code yX7_hasStep cX7_hasStep 1 (some .boolean), Cond.methodLink RX7 84 yX7_isMuch, Cond.instanceMethod yX7_isMuch, Cond.selects RX7 yX7_isMuch yX7_isMuch, Cond.code yX7_isMuch cX7_isMuch 2 (some .boolean), Cond.constant RX7 45 (2147483647), Cond.methodLink RX7 41 yX7_number, Cond.instanceMethod yX7_number, Cond.selects RX7 yX7_number yX7_number, Cond.code yX7_number cX7_number 3 (some .int), Cond.methodLink RX7 105 yX7_comes, Cond.instanceMethod yX7_comes, Cond.selects RX7 yX7_comes yX7_comes, Cond.code yX7_comes cX7_comes 6 none, Cond.methodLink RX7 70 yX7_accesses, Cond.instanceMethod yX7_accesses, Cond.selects RX7 yX7_accesses yX7_accesses, Cond.code yX7_accesses cX7_accesses 7 none, Cond.methodLink RX7 37 yX7_of, Cond.static yX7_of, Cond.code yX7_of cX7_of 1 (some .int)]
def wsX7_drift_r4 : List Cond := [Cond.methodLink RX7 62 yX7_kindOf, Cond.instanceMethod yX7_kindOf, Cond.selects RX7 yX7_kindOf yX7_kindOf, Cond.code yX7_kindOf cX7_kindOf 9 (some .int), Cond.methodLink RX7 66 yX7_reads, Cond.instanceMethod yX7_reads, Cond.selects RX7 yX7_reads yX7_reads, Cond.code yX7_reads cX7_reads 4 none, Cond.methodLink RX7 74 yX7_joins, Cond.instanceMethod yX7_joins, Cond.selects RX7 yX7_joins yX7_joins, Cond.code yX7_joins cX7_joins 4 none, Cond.methodLink RX7 77 yX7_writes, Cond.instanceMethod yX7_writes, Cond.selects RX7 yX7_writes yX7_writes, Cond.code yX7_writes cX7_writes 6 none, Cond.methodLink RX7 87 yX7_steps, Cond.instanceMethod yX7_steps, Cond.selects RX7 yX7_steps yX7_steps, Cond.code yX7_steps cX7_steps 2 none]
def wsX7_drift : List Cond := .code yX7_drift cX7_drift 8 (some .int) :: ((wsX7_drift_r1 ++ (wsX7_drift_r2 ++ (wsX7_drift_r3 ++ wsX7_drift_r4))) ++ wsX70)
def wsX7_feed : List Cond := .code yX7_feed cX7_feed 2 (some .int) :: ([.constantLong RX7 127 (255), .constant RX7 98 (-1000000002), .fieldLink RX7 7 "RaceWatchModel" "w" "[I", .constant RX7 103 (-1000000004), .methodLink RX7 31 yX7_in, .static yX7_in, .initialized RX7, .code yX7_in cX7_in 6 (some .boolean)] ++ wsX70)
def wsX7_notes : List Cond := .code yX7_notes cX7_notes 4 none :: ([.fieldLink RX7 129 "RaceWatchModel" "entries" "I", .fieldLink RX7 17 "RaceWatchModel" "journals" "[I"] ++ wsX70)
def wsX7_here : List Cond := .code yX7_here cX7_here 1 (some .int) :: ([.fieldLink RX7 133 "RaceWatchModel" "at" "I", .fieldLink RX7 7 "RaceWatchModel" "w" "[I"] ++ wsX70)
def wsX7_fails : List Cond := .code yX7_fails cX7_fails 2 (some .boolean) :: ([.fieldLink RX7 136 "RaceWatchModel" "fault" "I", .fieldLink RX7 133 "RaceWatchModel" "at" "I", .fieldLink RX7 139 "RaceWatchModel" "faultAt" "I"] ++ wsX70)
def wsX7_takesFigure : List Cond := .code yX7_takesFigure cX7_takesFigure 3 (some .boolean) :: ([.constantLong RX7 146 (48), .constantLong RX7 148 (57), .fieldLink RX7 153 "RaceWatchModel" "figure" "I", .methodLink RX7 142 yX7_here, .instanceMethod yX7_here, .selects RX7 yX7_here yX7_here, .initialized RX7, .code yX7_here cX7_here 1 (some .int), .fieldLink RX7 133 "RaceWatchModel" "at" "I", .fieldLink RX7 7 "RaceWatchModel" "w" "[I", .methodLink RX7 31 yX7_in, .static yX7_in, .code yX7_in cX7_in 6 (some .boolean), .methodLink RX7 150 yX7_fails, .instanceMethod yX7_fails, .selects RX7 yX7_fails yX7_fails, .code yX7_fails cX7_fails 2 (some .boolean), .fieldLink RX7 136 "RaceWatchModel" "fault" "I", .fieldLink RX7 139 "RaceWatchModel" "faultAt" "I"] ++ wsX70)
def wsX7_takes : List Cond := .code yX7_takes cX7_takes 2 (some .boolean) :: ([.fieldLink RX7 133 "RaceWatchModel" "at" "I", .methodLink RX7 142 yX7_here, .instanceMethod yX7_here, .selects RX7 yX7_here yX7_here, .initialized RX7, .code yX7_here cX7_here 1 (some .int), .fieldLink RX7 7 "RaceWatchModel" "w" "[I", .methodLink RX7 150 yX7_fails, .instanceMethod yX7_fails, .selects RX7 yX7_fails yX7_fails, .code yX7_fails cX7_fails 2 (some .boolean), .fieldLink RX7 136 "RaceWatchModel" "fault" "I", .fieldLink RX7 139 "RaceWatchModel" "faultAt" "I"] ++ wsX70)
def wsX7_did_r1 : List Cond := [Cond.fieldLink RX7 7 "RaceWatchModel" "w" "[I", Cond.fieldLink RX7 156 "RaceWatchModel" "regions" "I", Cond.fieldLink RX7 159 "RaceWatchModel" "who" "I", Cond.fieldLink RX7 153 "RaceWatchModel" "figure" "I", Cond.fieldLink RX7 133 "RaceWatchModel" "at" "I", Cond.methodLink RX7 150 yX7_fails, Cond.instanceMethod yX7_fails, Cond.selects RX7 yX7_fails yX7_fails, Cond.initialized RX7, Cond.code yX7_fails cX7_fails 2 (some .boolean), Cond.fieldLink RX7 136 "RaceWatchModel" "fault" "I", Cond.fieldLink RX7 139 "RaceWatchModel" "faultAt" "I", Cond.methodLink RX7 93 yX7_isWith, Cond.static yX7_isWith, Cond.code yX7_isWith cX7_isWith 3 (some .boolean), Cond.methodLink RX7 46 yX7_isCell, Cond.static yX7_isCell, Cond.code yX7_isCell cX7_isCell 1 (some .boolean), Cond.constantLong RX7 29 (3), Cond.methodLink RX7 31 yX7_in, Cond.static yX7_in, Cond.code yX7_in cX7_in 6 (some .boolean), Cond.methodLink RX7 50 yX7_isLock, Cond.static yX7_isLock]
def wsX7_did_r2 : List Cond := [Cond.code yX7_isLock cX7_isLock 1 (some .boolean), Cond.constantLong RX7 35 (2), Cond.methodLink RX7 53 yX7_isSeen, Cond.static yX7_isSeen, Cond.code yX7_isSeen cX7_isSeen 1 (some .boolean), Cond.methodLink RX7 56 yX7_isThread, Cond.static yX7_isThread, Cond.code yX7_isThread cX7_isThread 1 (some .boolean), Cond.methodLink RX7 99 yX7_can, Cond.instanceMethod yX7_can, Cond.selects RX7 yX7_can yX7_can, Cond.code yX7_can cX7_can 4 (some .boolean), Cond.methodLink RX7 59 yX7_held, Cond.instanceMethod yX7_held, Cond.selects RX7 yX7_held yX7_held, Cond.code yX7_held cX7_held 4 (some .int), Cond.methodLink RX7 81 yX7_hasStep, Cond.static yX7_hasStep, Cond.code yX7_hasStep cX7_hasStep 1 (some .boolean), Cond.methodLink RX7 84 yX7_isMuch, Cond.instanceMethod yX7_isMuch, Cond.selects RX7 yX7_isMuch yX7_isMuch, Cond.code yX7_isMuch cX7_isMuch 2 (some .boolean), Cond.constant RX7 45 (2147483647)]
def wsX7_did_r3 : List Cond := [Cond.methodLink RX7 41 yX7_number, Cond.instanceMethod yX7_number, Cond.selects RX7 yX7_number yX7_number, Cond.code yX7_number cX7_number 3 (some .int), Cond.methodLink RX7 105 yX7_comes, Cond.instanceMethod yX7_comes, Cond.selects RX7 yX7_comes yX7_comes, Cond.code yX7_comes cX7_comes 6 none, Cond.methodLink RX7 70 yX7_accesses, Cond.instanceMethod yX7_accesses, Cond.selects RX7 yX7_accesses yX7_accesses, Cond.code yX7_accesses cX7_accesses 7 none, Cond.methodLink RX7 37 yX7_of, Cond.static yX7_of, Cond.code yX7_of cX7_of 1 (some .int), Cond.methodLink RX7 62 yX7_kindOf, Cond.instanceMethod yX7_kindOf, Cond.selects RX7 yX7_kindOf yX7_kindOf, Cond.code yX7_kindOf cX7_kindOf 9 (some .int), Cond.methodLink RX7 66 yX7_reads, Cond.instanceMethod yX7_reads, Cond.selects RX7 yX7_reads yX7_reads, Cond.code yX7_reads cX7_reads 4 none, Cond.methodLink RX7 74 yX7_joins]
def wsX7_did_r4 : List Cond := [Cond.instanceMethod yX7_joins, Cond.selects RX7 yX7_joins yX7_joins, Cond.code yX7_joins cX7_joins 4 none, Cond.methodLink RX7 77 yX7_writes, Cond.instanceMethod yX7_writes, Cond.selects RX7 yX7_writes yX7_writes, Cond.code yX7_writes cX7_writes 6 none, Cond.methodLink RX7 87 yX7_steps, Cond.instanceMethod yX7_steps, Cond.selects RX7 yX7_steps yX7_steps, Cond.code yX7_steps cX7_steps 2 none]
def wsX7_did : List Cond := .code yX7_did cX7_did 3 (some .boolean) :: ((wsX7_did_r1 ++ (wsX7_did_r2 ++ (wsX7_did_r3 ++ wsX7_did_r4))) ++ wsX70)
def wsX7_opens : List Cond := .code yX7_opens cX7_opens 3 none :: ([.fieldLink RX7 20 "RaceWatchModel" "openLock" "[I", .fieldLink RX7 162 "RaceWatchModel" "open" "I", .fieldLink RX7 23 "RaceWatchModel" "openThread" "[I"] ++ wsX70)
def wsX7_shuts_r1 : List Cond := [Cond.fieldLink RX7 162 "RaceWatchModel" "open" "I", Cond.fieldLink RX7 20 "RaceWatchModel" "openLock" "[I", Cond.fieldLink RX7 23 "RaceWatchModel" "openThread" "[I", Cond.fieldLink RX7 159 "RaceWatchModel" "who" "I", Cond.fieldLink RX7 156 "RaceWatchModel" "regions" "I", Cond.methodLink RX7 105 yX7_comes, Cond.instanceMethod yX7_comes, Cond.selects RX7 yX7_comes yX7_comes, Cond.initialized RX7, Cond.code yX7_comes cX7_comes 6 none, Cond.fieldLink RX7 7 "RaceWatchModel" "w" "[I", Cond.methodLink RX7 70 yX7_accesses, Cond.instanceMethod yX7_accesses, Cond.selects RX7 yX7_accesses yX7_accesses, Cond.code yX7_accesses cX7_accesses 7 none, Cond.methodLink RX7 37 yX7_of, Cond.static yX7_of, Cond.code yX7_of cX7_of 1 (some .int), Cond.methodLink RX7 62 yX7_kindOf, Cond.instanceMethod yX7_kindOf, Cond.selects RX7 yX7_kindOf yX7_kindOf, Cond.code yX7_kindOf cX7_kindOf 9 (some .int), Cond.methodLink RX7 41 yX7_number, Cond.instanceMethod yX7_number]
def wsX7_shuts_r2 : List Cond := [Cond.selects RX7 yX7_number yX7_number, Cond.code yX7_number cX7_number 3 (some .int), Cond.methodLink RX7 66 yX7_reads, Cond.instanceMethod yX7_reads, Cond.selects RX7 yX7_reads yX7_reads, Cond.code yX7_reads cX7_reads 4 none, Cond.methodLink RX7 74 yX7_joins, Cond.instanceMethod yX7_joins, Cond.selects RX7 yX7_joins yX7_joins, Cond.code yX7_joins cX7_joins 4 none, Cond.methodLink RX7 77 yX7_writes, Cond.instanceMethod yX7_writes, Cond.selects RX7 yX7_writes yX7_writes, Cond.code yX7_writes cX7_writes 6 none, Cond.methodLink RX7 59 yX7_held, Cond.instanceMethod yX7_held, Cond.selects RX7 yX7_held yX7_held, Cond.code yX7_held cX7_held 4 (some .int), Cond.methodLink RX7 81 yX7_hasStep, Cond.static yX7_hasStep, Cond.code yX7_hasStep cX7_hasStep 1 (some .boolean), Cond.methodLink RX7 84 yX7_isMuch, Cond.instanceMethod yX7_isMuch, Cond.selects RX7 yX7_isMuch yX7_isMuch]
def wsX7_shuts_r3 : List Cond := [Cond.code yX7_isMuch cX7_isMuch 2 (some .boolean), Cond.constant RX7 45 (2147483647), Cond.methodLink RX7 87 yX7_steps, Cond.instanceMethod yX7_steps, Cond.selects RX7 yX7_steps yX7_steps, Cond.code yX7_steps cX7_steps 2 none, Cond.methodLink RX7 165 yX7_notes, Cond.instanceMethod yX7_notes, Cond.selects RX7 yX7_notes yX7_notes, Cond.code yX7_notes cX7_notes 4 none, Cond.fieldLink RX7 129 "RaceWatchModel" "entries" "I", Cond.fieldLink RX7 17 "RaceWatchModel" "journals" "[I"]
def wsX7_shuts : List Cond := .code yX7_shuts cX7_shuts 1 none :: ((wsX7_shuts_r1 ++ (wsX7_shuts_r2 ++ wsX7_shuts_r3)) ++ wsX70)
def wsX7_takesRegion_r1 : List Cond := [Cond.fieldLink RX7 153 "RaceWatchModel" "figure" "I", Cond.fieldLink RX7 156 "RaceWatchModel" "regions" "I", Cond.fieldLink RX7 159 "RaceWatchModel" "who" "I", Cond.methodLink RX7 168 yX7_takesFigure, Cond.instanceMethod yX7_takesFigure, Cond.selects RX7 yX7_takesFigure yX7_takesFigure, Cond.initialized RX7, Cond.code yX7_takesFigure cX7_takesFigure 3 (some .boolean), Cond.constantLong RX7 146 (48), Cond.constantLong RX7 148 (57), Cond.methodLink RX7 142 yX7_here, Cond.instanceMethod yX7_here, Cond.selects RX7 yX7_here yX7_here, Cond.code yX7_here cX7_here 1 (some .int), Cond.fieldLink RX7 133 "RaceWatchModel" "at" "I", Cond.fieldLink RX7 7 "RaceWatchModel" "w" "[I", Cond.methodLink RX7 31 yX7_in, Cond.static yX7_in, Cond.code yX7_in cX7_in 6 (some .boolean), Cond.methodLink RX7 150 yX7_fails, Cond.instanceMethod yX7_fails, Cond.selects RX7 yX7_fails yX7_fails, Cond.code yX7_fails cX7_fails 2 (some .boolean), Cond.fieldLink RX7 136 "RaceWatchModel" "fault" "I"]
def wsX7_takesRegion_r2 : List Cond := [Cond.fieldLink RX7 139 "RaceWatchModel" "faultAt" "I", Cond.methodLink RX7 171 yX7_did, Cond.instanceMethod yX7_did, Cond.selects RX7 yX7_did yX7_did, Cond.code yX7_did cX7_did 3 (some .boolean), Cond.methodLink RX7 93 yX7_isWith, Cond.static yX7_isWith, Cond.code yX7_isWith cX7_isWith 3 (some .boolean), Cond.methodLink RX7 46 yX7_isCell, Cond.static yX7_isCell, Cond.code yX7_isCell cX7_isCell 1 (some .boolean), Cond.constantLong RX7 29 (3), Cond.methodLink RX7 50 yX7_isLock, Cond.static yX7_isLock, Cond.code yX7_isLock cX7_isLock 1 (some .boolean), Cond.constantLong RX7 35 (2), Cond.methodLink RX7 53 yX7_isSeen, Cond.static yX7_isSeen, Cond.code yX7_isSeen cX7_isSeen 1 (some .boolean), Cond.methodLink RX7 56 yX7_isThread, Cond.static yX7_isThread, Cond.code yX7_isThread cX7_isThread 1 (some .boolean), Cond.methodLink RX7 99 yX7_can, Cond.instanceMethod yX7_can]
def wsX7_takesRegion_r3 : List Cond := [Cond.selects RX7 yX7_can yX7_can, Cond.code yX7_can cX7_can 4 (some .boolean), Cond.methodLink RX7 59 yX7_held, Cond.instanceMethod yX7_held, Cond.selects RX7 yX7_held yX7_held, Cond.code yX7_held cX7_held 4 (some .int), Cond.methodLink RX7 81 yX7_hasStep, Cond.static yX7_hasStep, Cond.code yX7_hasStep cX7_hasStep 1 (some .boolean), Cond.methodLink RX7 84 yX7_isMuch, Cond.instanceMethod yX7_isMuch, Cond.selects RX7 yX7_isMuch yX7_isMuch, Cond.code yX7_isMuch cX7_isMuch 2 (some .boolean), Cond.constant RX7 45 (2147483647), Cond.methodLink RX7 41 yX7_number, Cond.instanceMethod yX7_number, Cond.selects RX7 yX7_number yX7_number, Cond.code yX7_number cX7_number 3 (some .int), Cond.methodLink RX7 105 yX7_comes, Cond.instanceMethod yX7_comes, Cond.selects RX7 yX7_comes yX7_comes, Cond.code yX7_comes cX7_comes 6 none, Cond.methodLink RX7 70 yX7_accesses, Cond.instanceMethod yX7_accesses]
def wsX7_takesRegion_r4 : List Cond := [Cond.selects RX7 yX7_accesses yX7_accesses, Cond.code yX7_accesses cX7_accesses 7 none, Cond.methodLink RX7 37 yX7_of, Cond.static yX7_of, Cond.code yX7_of cX7_of 1 (some .int), Cond.methodLink RX7 62 yX7_kindOf, Cond.instanceMethod yX7_kindOf, Cond.selects RX7 yX7_kindOf yX7_kindOf, Cond.code yX7_kindOf cX7_kindOf 9 (some .int), Cond.methodLink RX7 66 yX7_reads, Cond.instanceMethod yX7_reads, Cond.selects RX7 yX7_reads yX7_reads, Cond.code yX7_reads cX7_reads 4 none, Cond.methodLink RX7 74 yX7_joins, Cond.instanceMethod yX7_joins, Cond.selects RX7 yX7_joins yX7_joins, Cond.code yX7_joins cX7_joins 4 none, Cond.methodLink RX7 77 yX7_writes, Cond.instanceMethod yX7_writes, Cond.selects RX7 yX7_writes yX7_writes, Cond.code yX7_writes cX7_writes 6 none, Cond.methodLink RX7 87 yX7_steps, Cond.instanceMethod yX7_steps, Cond.selects RX7 yX7_steps yX7_steps]
def wsX7_takesRegion_r5 : List Cond := [Cond.code yX7_steps cX7_steps 2 none, Cond.methodLink RX7 165 yX7_notes, Cond.instanceMethod yX7_notes, Cond.selects RX7 yX7_notes yX7_notes, Cond.code yX7_notes cX7_notes 4 none, Cond.fieldLink RX7 129 "RaceWatchModel" "entries" "I", Cond.fieldLink RX7 17 "RaceWatchModel" "journals" "[I", Cond.methodLink RX7 174 yX7_opens, Cond.instanceMethod yX7_opens, Cond.selects RX7 yX7_opens yX7_opens, Cond.code yX7_opens cX7_opens 3 none, Cond.fieldLink RX7 20 "RaceWatchModel" "openLock" "[I", Cond.fieldLink RX7 162 "RaceWatchModel" "open" "I", Cond.fieldLink RX7 23 "RaceWatchModel" "openThread" "[I", Cond.methodLink RX7 177 yX7_takes, Cond.instanceMethod yX7_takes, Cond.selects RX7 yX7_takes yX7_takes, Cond.code yX7_takes cX7_takes 2 (some .boolean)]
def wsX7_takesRegion : List Cond := .code yX7_takesRegion cX7_takesRegion 1 (some .boolean) :: ((wsX7_takesRegion_r1 ++ (wsX7_takesRegion_r2 ++ (wsX7_takesRegion_r3 ++ (wsX7_takesRegion_r4 ++ wsX7_takesRegion_r5)))) ++ wsX70)
def wsX7_takesTurn_r1 : List Cond := [Cond.fieldLink RX7 7 "RaceWatchModel" "w" "[I", Cond.fieldLink RX7 153 "RaceWatchModel" "figure" "I", Cond.fieldLink RX7 133 "RaceWatchModel" "at" "I", Cond.fieldLink RX7 159 "RaceWatchModel" "who" "I", Cond.methodLink RX7 168 yX7_takesFigure, Cond.instanceMethod yX7_takesFigure, Cond.selects RX7 yX7_takesFigure yX7_takesFigure, Cond.initialized RX7, Cond.code yX7_takesFigure cX7_takesFigure 3 (some .boolean), Cond.constantLong RX7 146 (48), Cond.constantLong RX7 148 (57), Cond.methodLink RX7 142 yX7_here, Cond.instanceMethod yX7_here, Cond.selects RX7 yX7_here yX7_here, Cond.code yX7_here cX7_here 1 (some .int), Cond.methodLink RX7 31 yX7_in, Cond.static yX7_in, Cond.code yX7_in cX7_in 6 (some .boolean), Cond.methodLink RX7 150 yX7_fails, Cond.instanceMethod yX7_fails, Cond.selects RX7 yX7_fails yX7_fails, Cond.code yX7_fails cX7_fails 2 (some .boolean), Cond.fieldLink RX7 136 "RaceWatchModel" "fault" "I", Cond.fieldLink RX7 139 "RaceWatchModel" "faultAt" "I"]
def wsX7_takesTurn_r2 : List Cond := [Cond.methodLink RX7 174 yX7_opens, Cond.instanceMethod yX7_opens, Cond.selects RX7 yX7_opens yX7_opens, Cond.code yX7_opens cX7_opens 3 none, Cond.fieldLink RX7 20 "RaceWatchModel" "openLock" "[I", Cond.fieldLink RX7 162 "RaceWatchModel" "open" "I", Cond.fieldLink RX7 23 "RaceWatchModel" "openThread" "[I", Cond.methodLink RX7 177 yX7_takes, Cond.instanceMethod yX7_takes, Cond.selects RX7 yX7_takes yX7_takes, Cond.code yX7_takes cX7_takes 2 (some .boolean)]
def wsX7_takesTurn : List Cond := .code yX7_takesTurn cX7_takesTurn 1 (some .boolean) :: ((wsX7_takesTurn_r1 ++ wsX7_takesTurn_r2) ++ wsX70)
def wsX7_takesEnd_r1 : List Cond := [Cond.fieldLink RX7 162 "RaceWatchModel" "open" "I", Cond.fieldLink RX7 133 "RaceWatchModel" "at" "I", Cond.methodLink RX7 150 yX7_fails, Cond.instanceMethod yX7_fails, Cond.selects RX7 yX7_fails yX7_fails, Cond.initialized RX7, Cond.code yX7_fails cX7_fails 2 (some .boolean), Cond.fieldLink RX7 136 "RaceWatchModel" "fault" "I", Cond.fieldLink RX7 139 "RaceWatchModel" "faultAt" "I", Cond.methodLink RX7 180 yX7_shuts, Cond.instanceMethod yX7_shuts, Cond.selects RX7 yX7_shuts yX7_shuts, Cond.code yX7_shuts cX7_shuts 1 none, Cond.fieldLink RX7 20 "RaceWatchModel" "openLock" "[I", Cond.fieldLink RX7 23 "RaceWatchModel" "openThread" "[I", Cond.fieldLink RX7 159 "RaceWatchModel" "who" "I", Cond.fieldLink RX7 156 "RaceWatchModel" "regions" "I", Cond.methodLink RX7 105 yX7_comes, Cond.instanceMethod yX7_comes, Cond.selects RX7 yX7_comes yX7_comes, Cond.code yX7_comes cX7_comes 6 none, Cond.fieldLink RX7 7 "RaceWatchModel" "w" "[I", Cond.methodLink RX7 70 yX7_accesses, Cond.instanceMethod yX7_accesses]
def wsX7_takesEnd_r2 : List Cond := [Cond.selects RX7 yX7_accesses yX7_accesses, Cond.code yX7_accesses cX7_accesses 7 none, Cond.methodLink RX7 37 yX7_of, Cond.static yX7_of, Cond.code yX7_of cX7_of 1 (some .int), Cond.methodLink RX7 62 yX7_kindOf, Cond.instanceMethod yX7_kindOf, Cond.selects RX7 yX7_kindOf yX7_kindOf, Cond.code yX7_kindOf cX7_kindOf 9 (some .int), Cond.methodLink RX7 41 yX7_number, Cond.instanceMethod yX7_number, Cond.selects RX7 yX7_number yX7_number, Cond.code yX7_number cX7_number 3 (some .int), Cond.methodLink RX7 66 yX7_reads, Cond.instanceMethod yX7_reads, Cond.selects RX7 yX7_reads yX7_reads, Cond.code yX7_reads cX7_reads 4 none, Cond.methodLink RX7 74 yX7_joins, Cond.instanceMethod yX7_joins, Cond.selects RX7 yX7_joins yX7_joins, Cond.code yX7_joins cX7_joins 4 none, Cond.methodLink RX7 77 yX7_writes, Cond.instanceMethod yX7_writes, Cond.selects RX7 yX7_writes yX7_writes]
def wsX7_takesEnd_r3 : List Cond := [Cond.code yX7_writes cX7_writes 6 none, Cond.methodLink RX7 59 yX7_held, Cond.instanceMethod yX7_held, Cond.selects RX7 yX7_held yX7_held, Cond.code yX7_held cX7_held 4 (some .int), Cond.methodLink RX7 81 yX7_hasStep, Cond.static yX7_hasStep, Cond.code yX7_hasStep cX7_hasStep 1 (some .boolean), Cond.methodLink RX7 84 yX7_isMuch, Cond.instanceMethod yX7_isMuch, Cond.selects RX7 yX7_isMuch yX7_isMuch, Cond.code yX7_isMuch cX7_isMuch 2 (some .boolean), Cond.constant RX7 45 (2147483647), Cond.methodLink RX7 87 yX7_steps, Cond.instanceMethod yX7_steps, Cond.selects RX7 yX7_steps yX7_steps, Cond.code yX7_steps cX7_steps 2 none, Cond.methodLink RX7 165 yX7_notes, Cond.instanceMethod yX7_notes, Cond.selects RX7 yX7_notes yX7_notes, Cond.code yX7_notes cX7_notes 4 none, Cond.fieldLink RX7 129 "RaceWatchModel" "entries" "I", Cond.fieldLink RX7 17 "RaceWatchModel" "journals" "[I"]
def wsX7_takesEnd : List Cond := .code yX7_takesEnd cX7_takesEnd 1 (some .boolean) :: ((wsX7_takesEnd_r1 ++ (wsX7_takesEnd_r2 ++ wsX7_takesEnd_r3)) ++ wsX70)
def wsX7_sortOf : List Cond := .code yX7_sortOf cX7_sortOf 1 (some .int) :: ([])
def wsX7_takesItem_r1 : List Cond := [Cond.fieldLink RX7 133 "RaceWatchModel" "at" "I", Cond.methodLink RX7 183 yX7_takesEnd, Cond.instanceMethod yX7_takesEnd, Cond.selects RX7 yX7_takesEnd yX7_takesEnd, Cond.initialized RX7, Cond.code yX7_takesEnd cX7_takesEnd 1 (some .boolean), Cond.fieldLink RX7 162 "RaceWatchModel" "open" "I", Cond.methodLink RX7 150 yX7_fails, Cond.instanceMethod yX7_fails, Cond.selects RX7 yX7_fails yX7_fails, Cond.code yX7_fails cX7_fails 2 (some .boolean), Cond.fieldLink RX7 136 "RaceWatchModel" "fault" "I", Cond.fieldLink RX7 139 "RaceWatchModel" "faultAt" "I", Cond.methodLink RX7 180 yX7_shuts, Cond.instanceMethod yX7_shuts, Cond.selects RX7 yX7_shuts yX7_shuts, Cond.code yX7_shuts cX7_shuts 1 none, Cond.fieldLink RX7 20 "RaceWatchModel" "openLock" "[I", Cond.fieldLink RX7 23 "RaceWatchModel" "openThread" "[I", Cond.fieldLink RX7 159 "RaceWatchModel" "who" "I", Cond.fieldLink RX7 156 "RaceWatchModel" "regions" "I", Cond.methodLink RX7 105 yX7_comes, Cond.instanceMethod yX7_comes, Cond.selects RX7 yX7_comes yX7_comes]
def wsX7_takesItem_r2 : List Cond := [Cond.code yX7_comes cX7_comes 6 none, Cond.fieldLink RX7 7 "RaceWatchModel" "w" "[I", Cond.methodLink RX7 70 yX7_accesses, Cond.instanceMethod yX7_accesses, Cond.selects RX7 yX7_accesses yX7_accesses, Cond.code yX7_accesses cX7_accesses 7 none, Cond.methodLink RX7 37 yX7_of, Cond.static yX7_of, Cond.code yX7_of cX7_of 1 (some .int), Cond.methodLink RX7 62 yX7_kindOf, Cond.instanceMethod yX7_kindOf, Cond.selects RX7 yX7_kindOf yX7_kindOf, Cond.code yX7_kindOf cX7_kindOf 9 (some .int), Cond.methodLink RX7 41 yX7_number, Cond.instanceMethod yX7_number, Cond.selects RX7 yX7_number yX7_number, Cond.code yX7_number cX7_number 3 (some .int), Cond.methodLink RX7 66 yX7_reads, Cond.instanceMethod yX7_reads, Cond.selects RX7 yX7_reads yX7_reads, Cond.code yX7_reads cX7_reads 4 none, Cond.methodLink RX7 74 yX7_joins, Cond.instanceMethod yX7_joins, Cond.selects RX7 yX7_joins yX7_joins]
def wsX7_takesItem_r3 : List Cond := [Cond.code yX7_joins cX7_joins 4 none, Cond.methodLink RX7 77 yX7_writes, Cond.instanceMethod yX7_writes, Cond.selects RX7 yX7_writes yX7_writes, Cond.code yX7_writes cX7_writes 6 none, Cond.methodLink RX7 59 yX7_held, Cond.instanceMethod yX7_held, Cond.selects RX7 yX7_held yX7_held, Cond.code yX7_held cX7_held 4 (some .int), Cond.methodLink RX7 81 yX7_hasStep, Cond.static yX7_hasStep, Cond.code yX7_hasStep cX7_hasStep 1 (some .boolean), Cond.methodLink RX7 84 yX7_isMuch, Cond.instanceMethod yX7_isMuch, Cond.selects RX7 yX7_isMuch yX7_isMuch, Cond.code yX7_isMuch cX7_isMuch 2 (some .boolean), Cond.constant RX7 45 (2147483647), Cond.methodLink RX7 87 yX7_steps, Cond.instanceMethod yX7_steps, Cond.selects RX7 yX7_steps yX7_steps, Cond.code yX7_steps cX7_steps 2 none, Cond.methodLink RX7 165 yX7_notes, Cond.instanceMethod yX7_notes, Cond.selects RX7 yX7_notes yX7_notes]
def wsX7_takesItem_r4 : List Cond := [Cond.code yX7_notes cX7_notes 4 none, Cond.fieldLink RX7 129 "RaceWatchModel" "entries" "I", Cond.fieldLink RX7 17 "RaceWatchModel" "journals" "[I", Cond.methodLink RX7 187 yX7_sortOf, Cond.static yX7_sortOf, Cond.code yX7_sortOf cX7_sortOf 1 (some .int), Cond.methodLink RX7 190 yX7_takesRegion, Cond.instanceMethod yX7_takesRegion, Cond.selects RX7 yX7_takesRegion yX7_takesRegion, Cond.code yX7_takesRegion cX7_takesRegion 1 (some .boolean), Cond.fieldLink RX7 153 "RaceWatchModel" "figure" "I", Cond.methodLink RX7 168 yX7_takesFigure, Cond.instanceMethod yX7_takesFigure, Cond.selects RX7 yX7_takesFigure yX7_takesFigure, Cond.code yX7_takesFigure cX7_takesFigure 3 (some .boolean), Cond.constantLong RX7 146 (48), Cond.constantLong RX7 148 (57), Cond.methodLink RX7 142 yX7_here, Cond.instanceMethod yX7_here, Cond.selects RX7 yX7_here yX7_here, Cond.code yX7_here cX7_here 1 (some .int), Cond.methodLink RX7 31 yX7_in, Cond.static yX7_in, Cond.code yX7_in cX7_in 6 (some .boolean)]
def wsX7_takesItem_r5 : List Cond := [Cond.methodLink RX7 171 yX7_did, Cond.instanceMethod yX7_did, Cond.selects RX7 yX7_did yX7_did, Cond.code yX7_did cX7_did 3 (some .boolean), Cond.methodLink RX7 93 yX7_isWith, Cond.static yX7_isWith, Cond.code yX7_isWith cX7_isWith 3 (some .boolean), Cond.methodLink RX7 46 yX7_isCell, Cond.static yX7_isCell, Cond.code yX7_isCell cX7_isCell 1 (some .boolean), Cond.constantLong RX7 29 (3), Cond.methodLink RX7 50 yX7_isLock, Cond.static yX7_isLock, Cond.code yX7_isLock cX7_isLock 1 (some .boolean), Cond.constantLong RX7 35 (2), Cond.methodLink RX7 53 yX7_isSeen, Cond.static yX7_isSeen, Cond.code yX7_isSeen cX7_isSeen 1 (some .boolean), Cond.methodLink RX7 56 yX7_isThread, Cond.static yX7_isThread, Cond.code yX7_isThread cX7_isThread 1 (some .boolean), Cond.methodLink RX7 99 yX7_can, Cond.instanceMethod yX7_can, Cond.selects RX7 yX7_can yX7_can]
def wsX7_takesItem_r6 : List Cond := [Cond.code yX7_can cX7_can 4 (some .boolean), Cond.methodLink RX7 174 yX7_opens, Cond.instanceMethod yX7_opens, Cond.selects RX7 yX7_opens yX7_opens, Cond.code yX7_opens cX7_opens 3 none, Cond.methodLink RX7 177 yX7_takes, Cond.instanceMethod yX7_takes, Cond.selects RX7 yX7_takes yX7_takes, Cond.code yX7_takes cX7_takes 2 (some .boolean), Cond.methodLink RX7 193 yX7_takesTurn, Cond.instanceMethod yX7_takesTurn, Cond.selects RX7 yX7_takesTurn yX7_takesTurn, Cond.code yX7_takesTurn cX7_takesTurn 1 (some .boolean)]
def wsX7_takesItem : List Cond := .code yX7_takesItem cX7_takesItem 3 (some .boolean) :: ((wsX7_takesItem_r1 ++ (wsX7_takesItem_r2 ++ (wsX7_takesItem_r3 ++ (wsX7_takesItem_r4 ++ (wsX7_takesItem_r5 ++ wsX7_takesItem_r6))))) ++ wsX70)
def wsX7_run_r1 : List Cond := [Cond.fieldLink RX7 7 "RaceWatchModel" "w" "[I", Cond.fieldLink RX7 133 "RaceWatchModel" "at" "I", Cond.fieldLink RX7 159 "RaceWatchModel" "who" "I", Cond.fieldLink RX7 162 "RaceWatchModel" "open" "I", Cond.fieldLink RX7 156 "RaceWatchModel" "regions" "I", Cond.fieldLink RX7 136 "RaceWatchModel" "fault" "I", Cond.fieldLink RX7 139 "RaceWatchModel" "faultAt" "I", Cond.methodLink RX7 142 yX7_here, Cond.instanceMethod yX7_here, Cond.selects RX7 yX7_here yX7_here, Cond.initialized RX7, Cond.code yX7_here cX7_here 1 (some .int), Cond.methodLink RX7 196 yX7_takesItem, Cond.instanceMethod yX7_takesItem, Cond.selects RX7 yX7_takesItem yX7_takesItem, Cond.code yX7_takesItem cX7_takesItem 3 (some .boolean), Cond.methodLink RX7 183 yX7_takesEnd, Cond.instanceMethod yX7_takesEnd, Cond.selects RX7 yX7_takesEnd yX7_takesEnd, Cond.code yX7_takesEnd cX7_takesEnd 1 (some .boolean), Cond.methodLink RX7 150 yX7_fails, Cond.instanceMethod yX7_fails, Cond.selects RX7 yX7_fails yX7_fails, Cond.code yX7_fails cX7_fails 2 (some .boolean)]
def wsX7_run_r2 : List Cond := [Cond.methodLink RX7 180 yX7_shuts, Cond.instanceMethod yX7_shuts, Cond.selects RX7 yX7_shuts yX7_shuts, Cond.code yX7_shuts cX7_shuts 1 none, Cond.fieldLink RX7 20 "RaceWatchModel" "openLock" "[I", Cond.fieldLink RX7 23 "RaceWatchModel" "openThread" "[I", Cond.methodLink RX7 105 yX7_comes, Cond.instanceMethod yX7_comes, Cond.selects RX7 yX7_comes yX7_comes, Cond.code yX7_comes cX7_comes 6 none, Cond.methodLink RX7 70 yX7_accesses, Cond.instanceMethod yX7_accesses, Cond.selects RX7 yX7_accesses yX7_accesses, Cond.code yX7_accesses cX7_accesses 7 none, Cond.methodLink RX7 37 yX7_of, Cond.static yX7_of, Cond.code yX7_of cX7_of 1 (some .int), Cond.methodLink RX7 62 yX7_kindOf, Cond.instanceMethod yX7_kindOf, Cond.selects RX7 yX7_kindOf yX7_kindOf, Cond.code yX7_kindOf cX7_kindOf 9 (some .int), Cond.methodLink RX7 41 yX7_number, Cond.instanceMethod yX7_number, Cond.selects RX7 yX7_number yX7_number]
def wsX7_run_r3 : List Cond := [Cond.code yX7_number cX7_number 3 (some .int), Cond.methodLink RX7 66 yX7_reads, Cond.instanceMethod yX7_reads, Cond.selects RX7 yX7_reads yX7_reads, Cond.code yX7_reads cX7_reads 4 none, Cond.methodLink RX7 74 yX7_joins, Cond.instanceMethod yX7_joins, Cond.selects RX7 yX7_joins yX7_joins, Cond.code yX7_joins cX7_joins 4 none, Cond.methodLink RX7 77 yX7_writes, Cond.instanceMethod yX7_writes, Cond.selects RX7 yX7_writes yX7_writes, Cond.code yX7_writes cX7_writes 6 none, Cond.methodLink RX7 59 yX7_held, Cond.instanceMethod yX7_held, Cond.selects RX7 yX7_held yX7_held, Cond.code yX7_held cX7_held 4 (some .int), Cond.methodLink RX7 81 yX7_hasStep, Cond.static yX7_hasStep, Cond.code yX7_hasStep cX7_hasStep 1 (some .boolean), Cond.methodLink RX7 84 yX7_isMuch, Cond.instanceMethod yX7_isMuch, Cond.selects RX7 yX7_isMuch yX7_isMuch, Cond.code yX7_isMuch cX7_isMuch 2 (some .boolean)]
def wsX7_run_r4 : List Cond := [Cond.constant RX7 45 (2147483647), Cond.methodLink RX7 87 yX7_steps, Cond.instanceMethod yX7_steps, Cond.selects RX7 yX7_steps yX7_steps, Cond.code yX7_steps cX7_steps 2 none, Cond.methodLink RX7 165 yX7_notes, Cond.instanceMethod yX7_notes, Cond.selects RX7 yX7_notes yX7_notes, Cond.code yX7_notes cX7_notes 4 none, Cond.fieldLink RX7 129 "RaceWatchModel" "entries" "I", Cond.fieldLink RX7 17 "RaceWatchModel" "journals" "[I", Cond.methodLink RX7 187 yX7_sortOf, Cond.static yX7_sortOf, Cond.code yX7_sortOf cX7_sortOf 1 (some .int), Cond.methodLink RX7 190 yX7_takesRegion, Cond.instanceMethod yX7_takesRegion, Cond.selects RX7 yX7_takesRegion yX7_takesRegion, Cond.code yX7_takesRegion cX7_takesRegion 1 (some .boolean), Cond.fieldLink RX7 153 "RaceWatchModel" "figure" "I", Cond.methodLink RX7 168 yX7_takesFigure, Cond.instanceMethod yX7_takesFigure, Cond.selects RX7 yX7_takesFigure yX7_takesFigure, Cond.code yX7_takesFigure cX7_takesFigure 3 (some .boolean), Cond.constantLong RX7 146 (48)]
def wsX7_run_r5 : List Cond := [Cond.constantLong RX7 148 (57), Cond.methodLink RX7 31 yX7_in, Cond.static yX7_in, Cond.code yX7_in cX7_in 6 (some .boolean), Cond.methodLink RX7 171 yX7_did, Cond.instanceMethod yX7_did, Cond.selects RX7 yX7_did yX7_did, Cond.code yX7_did cX7_did 3 (some .boolean), Cond.methodLink RX7 93 yX7_isWith, Cond.static yX7_isWith, Cond.code yX7_isWith cX7_isWith 3 (some .boolean), Cond.methodLink RX7 46 yX7_isCell, Cond.static yX7_isCell, Cond.code yX7_isCell cX7_isCell 1 (some .boolean), Cond.constantLong RX7 29 (3), Cond.methodLink RX7 50 yX7_isLock, Cond.static yX7_isLock, Cond.code yX7_isLock cX7_isLock 1 (some .boolean), Cond.constantLong RX7 35 (2), Cond.methodLink RX7 53 yX7_isSeen, Cond.static yX7_isSeen, Cond.code yX7_isSeen cX7_isSeen 1 (some .boolean), Cond.methodLink RX7 56 yX7_isThread, Cond.static yX7_isThread]
def wsX7_run_r6 : List Cond := [Cond.code yX7_isThread cX7_isThread 1 (some .boolean), Cond.methodLink RX7 99 yX7_can, Cond.instanceMethod yX7_can, Cond.selects RX7 yX7_can yX7_can, Cond.code yX7_can cX7_can 4 (some .boolean), Cond.methodLink RX7 174 yX7_opens, Cond.instanceMethod yX7_opens, Cond.selects RX7 yX7_opens yX7_opens, Cond.code yX7_opens cX7_opens 3 none, Cond.methodLink RX7 177 yX7_takes, Cond.instanceMethod yX7_takes, Cond.selects RX7 yX7_takes yX7_takes, Cond.code yX7_takes cX7_takes 2 (some .boolean), Cond.methodLink RX7 193 yX7_takesTurn, Cond.instanceMethod yX7_takesTurn, Cond.selects RX7 yX7_takesTurn yX7_takesTurn, Cond.code yX7_takesTurn cX7_takesTurn 1 (some .boolean)]
def wsX7_run : List Cond := .code yX7_run cX7_run 3 (some .int) :: ((wsX7_run_r1 ++ (wsX7_run_r2 ++ (wsX7_run_r3 ++ (wsX7_run_r4 ++ (wsX7_run_r5 ++ wsX7_run_r6))))) ++ wsX70)
def wsX7_fault : List Cond := .code yX7_fault cX7_fault 1 (some .int) :: ([.fieldLink RX7 7 "RaceWatchModel" "w" "[I"] ++ wsX70)
def wsX7_whoIs : List Cond := .code yX7_whoIs cX7_whoIs 4 (some .int) :: ([.fieldLink RX7 7 "RaceWatchModel" "w" "[I"] ++ wsX70)
def wsX7_locksHeld : List Cond := .code yX7_locksHeld cX7_locksHeld 3 (some .int) :: ([.fieldLink RX7 7 "RaceWatchModel" "w" "[I"] ++ wsX70)
def wsX7_isAccess : List Cond := .code yX7_isAccess cX7_isAccess 3 (some .boolean) :: ([.fieldLink RX7 7 "RaceWatchModel" "w" "[I"] ++ wsX70)
def wsX7_isAhead : List Cond := .code yX7_isAhead cX7_isAhead 4 (some .boolean) :: ([.fieldLink RX7 7 "RaceWatchModel" "w" "[I"] ++ wsX70)
def wsX7_kindBy : List Cond := .code yX7_kindBy cX7_kindBy 6 (some .int) :: ([.fieldLink RX7 7 "RaceWatchModel" "w" "[I", .methodLink RX7 222 yX7_isAccess, .instanceMethod yX7_isAccess, .selects RX7 yX7_isAccess yX7_isAccess, .initialized RX7, .code yX7_isAccess cX7_isAccess 3 (some .boolean), .methodLink RX7 218 yX7_isAhead, .instanceMethod yX7_isAhead, .selects RX7 yX7_isAhead yX7_isAhead, .code yX7_isAhead cX7_isAhead 4 (some .boolean)] ++ wsX70)
def wsX7_racesOf : List Cond := .code yX7_racesOf cX7_racesOf 7 (some .int) :: ([.fieldLink RX7 7 "RaceWatchModel" "w" "[I", .methodLink RX7 222 yX7_isAccess, .instanceMethod yX7_isAccess, .selects RX7 yX7_isAccess yX7_isAccess, .initialized RX7, .code yX7_isAccess cX7_isAccess 3 (some .boolean), .methodLink RX7 225 yX7_kindBy, .instanceMethod yX7_kindBy, .selects RX7 yX7_kindBy yX7_kindBy, .code yX7_kindBy cX7_kindBy 6 (some .int), .methodLink RX7 218 yX7_isAhead, .instanceMethod yX7_isAhead, .selects RX7 yX7_isAhead yX7_isAhead, .code yX7_isAhead cX7_isAhead 4 (some .boolean)] ++ wsX70)
def wsX7_cellsRaced : List Cond := .code yX7_cellsRaced cX7_cellsRaced 3 (some .int) :: ([.methodLink RX7 199 yX7_racesOf, .instanceMethod yX7_racesOf, .selects RX7 yX7_racesOf yX7_racesOf, .initialized RX7, .code yX7_racesOf cX7_racesOf 7 (some .int), .fieldLink RX7 7 "RaceWatchModel" "w" "[I", .methodLink RX7 222 yX7_isAccess, .instanceMethod yX7_isAccess, .selects RX7 yX7_isAccess yX7_isAccess, .code yX7_isAccess cX7_isAccess 3 (some .boolean), .methodLink RX7 225 yX7_kindBy, .instanceMethod yX7_kindBy, .selects RX7 yX7_kindBy yX7_kindBy, .code yX7_kindBy cX7_kindBy 6 (some .int), .methodLink RX7 218 yX7_isAhead, .instanceMethod yX7_isAhead, .selects RX7 yX7_isAhead yX7_isAhead, .code yX7_isAhead cX7_isAhead 4 (some .boolean)] ++ wsX70)
def wsX7_overCells : List Cond := .code yX7_overCells cX7_overCells 4 (some .int) :: ([.fieldLink RX7 7 "RaceWatchModel" "w" "[I", .methodLink RX7 199 yX7_racesOf, .instanceMethod yX7_racesOf, .selects RX7 yX7_racesOf yX7_racesOf, .initialized RX7, .code yX7_racesOf cX7_racesOf 7 (some .int), .methodLink RX7 222 yX7_isAccess, .instanceMethod yX7_isAccess, .selects RX7 yX7_isAccess yX7_isAccess, .code yX7_isAccess cX7_isAccess 3 (some .boolean), .methodLink RX7 225 yX7_kindBy, .instanceMethod yX7_kindBy, .selects RX7 yX7_kindBy yX7_kindBy, .code yX7_kindBy cX7_kindBy 6 (some .int), .methodLink RX7 218 yX7_isAhead, .instanceMethod yX7_isAhead, .selects RX7 yX7_isAhead yX7_isAhead, .code yX7_isAhead cX7_isAhead 4 (some .boolean), .methodLink RX7 37 yX7_of, .static yX7_of, .code yX7_of cX7_of 1 (some .int)] ++ wsX70)
def wsX7_told_r1 : List Cond := [Cond.fieldLink RX7 7 "RaceWatchModel" "w" "[I", Cond.fieldLink RX7 129 "RaceWatchModel" "entries" "I", Cond.constant RX7 98 (-1000000002), Cond.methodLink RX7 202 yX7_whoIs, Cond.instanceMethod yX7_whoIs, Cond.selects RX7 yX7_whoIs yX7_whoIs, Cond.initialized RX7, Cond.code yX7_whoIs cX7_whoIs 4 (some .int), Cond.methodLink RX7 205 yX7_locksHeld, Cond.instanceMethod yX7_locksHeld, Cond.selects RX7 yX7_locksHeld yX7_locksHeld, Cond.code yX7_locksHeld cX7_locksHeld 3 (some .int), Cond.methodLink RX7 208 yX7_cellsRaced, Cond.instanceMethod yX7_cellsRaced, Cond.selects RX7 yX7_cellsRaced yX7_cellsRaced, Cond.code yX7_cellsRaced cX7_cellsRaced 3 (some .int), Cond.methodLink RX7 199 yX7_racesOf, Cond.instanceMethod yX7_racesOf, Cond.selects RX7 yX7_racesOf yX7_racesOf, Cond.code yX7_racesOf cX7_racesOf 7 (some .int), Cond.methodLink RX7 222 yX7_isAccess, Cond.instanceMethod yX7_isAccess, Cond.selects RX7 yX7_isAccess yX7_isAccess, Cond.code yX7_isAccess cX7_isAccess 3 (some .boolean)]
def wsX7_told_r2 : List Cond := [Cond.methodLink RX7 225 yX7_kindBy, Cond.instanceMethod yX7_kindBy, Cond.selects RX7 yX7_kindBy yX7_kindBy, Cond.code yX7_kindBy cX7_kindBy 6 (some .int), Cond.methodLink RX7 218 yX7_isAhead, Cond.instanceMethod yX7_isAhead, Cond.selects RX7 yX7_isAhead yX7_isAhead, Cond.code yX7_isAhead cX7_isAhead 4 (some .boolean), Cond.methodLink RX7 211 yX7_overCells, Cond.instanceMethod yX7_overCells, Cond.selects RX7 yX7_overCells yX7_overCells, Cond.code yX7_overCells cX7_overCells 4 (some .int), Cond.methodLink RX7 37 yX7_of, Cond.static yX7_of, Cond.code yX7_of cX7_of 1 (some .int)]
def wsX7_told : List Cond := .code yX7_told cX7_told 2 (some .int) :: ((wsX7_told_r1 ++ wsX7_told_r2) ++ wsX70)
def wsX7_clock : List Cond := .code yX7_clock cX7_clock 4 (some .int) :: ([.constant RX7 97 (-1000000001), .fieldLink RX7 7 "RaceWatchModel" "w" "[I", .constant RX7 98 (-1000000002), .methodLink RX7 56 yX7_isThread, .static yX7_isThread, .initialized RX7, .code yX7_isThread cX7_isThread 1 (some .boolean), .constantLong RX7 29 (3), .methodLink RX7 31 yX7_in, .static yX7_in, .code yX7_in cX7_in 6 (some .boolean), .methodLink RX7 50 yX7_isLock, .static yX7_isLock, .code yX7_isLock cX7_isLock 1 (some .boolean), .constantLong RX7 35 (2), .methodLink RX7 53 yX7_isSeen, .static yX7_isSeen, .code yX7_isSeen cX7_isSeen 1 (some .boolean)] ++ wsX70)
def wsX7_isEvent : List Cond := .code yX7_isEvent cX7_isEvent 2 (some .boolean) :: ([.fieldLink RX7 7 "RaceWatchModel" "w" "[I", .methodLink RX7 31 yX7_in, .static yX7_in, .initialized RX7, .code yX7_in cX7_in 6 (some .boolean)] ++ wsX70)
def wsX7_eventOf : List Cond := .code yX7_eventOf cX7_eventOf 3 (some .int) :: ([.constant RX7 97 (-1000000001), .constantLong RX7 91 (7), .fieldLink RX7 7 "RaceWatchModel" "w" "[I", .constant RX7 98 (-1000000002), .methodLink RX7 215 yX7_isEvent, .instanceMethod yX7_isEvent, .selects RX7 yX7_isEvent yX7_isEvent, .initialized RX7, .code yX7_isEvent cX7_isEvent 2 (some .boolean), .methodLink RX7 31 yX7_in, .static yX7_in, .code yX7_in cX7_in 6 (some .boolean)] ++ wsX70)
def wsX7_holder : List Cond := .code yX7_holder cX7_holder 2 (some .int) :: ([.fieldLink RX7 7 "RaceWatchModel" "w" "[I", .constant RX7 97 (-1000000001), .methodLink RX7 50 yX7_isLock, .static yX7_isLock, .initialized RX7, .code yX7_isLock cX7_isLock 1 (some .boolean), .constantLong RX7 35 (2), .methodLink RX7 31 yX7_in, .static yX7_in, .code yX7_in cX7_in 6 (some .boolean)] ++ wsX70)
def wsX7_journal : List Cond := .code yX7_journal cX7_journal 4 (some .int) :: ([.constant RX7 98 (-1000000002), .fieldLink RX7 129 "RaceWatchModel" "entries" "I", .fieldLink RX7 17 "RaceWatchModel" "journals" "[I", .methodLink RX7 31 yX7_in, .static yX7_in, .initialized RX7, .code yX7_in cX7_in 6 (some .boolean)] ++ wsX70)
def wsX7_ahead : List Cond := .code yX7_ahead cX7_ahead 3 (some .int) :: ([.constant RX7 97 (-1000000001), .methodLink RX7 215 yX7_isEvent, .instanceMethod yX7_isEvent, .selects RX7 yX7_isEvent yX7_isEvent, .initialized RX7, .code yX7_isEvent cX7_isEvent 2 (some .boolean), .fieldLink RX7 7 "RaceWatchModel" "w" "[I", .methodLink RX7 31 yX7_in, .static yX7_in, .code yX7_in cX7_in 6 (some .boolean), .methodLink RX7 218 yX7_isAhead, .instanceMethod yX7_isAhead, .selects RX7 yX7_isAhead yX7_isAhead, .code yX7_isAhead cX7_isAhead 4 (some .boolean)] ++ wsX70)
def wsX7_races_r1 : List Cond := [Cond.constant RX7 97 (-1000000001), Cond.constantLong RX7 29 (3), Cond.constant RX7 98 (-1000000002), Cond.methodLink RX7 46 yX7_isCell, Cond.static yX7_isCell, Cond.initialized RX7, Cond.code yX7_isCell cX7_isCell 1 (some .boolean), Cond.methodLink RX7 31 yX7_in, Cond.static yX7_in, Cond.code yX7_in cX7_in 6 (some .boolean), Cond.methodLink RX7 199 yX7_racesOf, Cond.instanceMethod yX7_racesOf, Cond.selects RX7 yX7_racesOf yX7_racesOf, Cond.code yX7_racesOf cX7_racesOf 7 (some .int), Cond.fieldLink RX7 7 "RaceWatchModel" "w" "[I", Cond.methodLink RX7 222 yX7_isAccess, Cond.instanceMethod yX7_isAccess, Cond.selects RX7 yX7_isAccess yX7_isAccess, Cond.code yX7_isAccess cX7_isAccess 3 (some .boolean), Cond.methodLink RX7 225 yX7_kindBy, Cond.instanceMethod yX7_kindBy, Cond.selects RX7 yX7_kindBy yX7_kindBy, Cond.code yX7_kindBy cX7_kindBy 6 (some .int), Cond.methodLink RX7 218 yX7_isAhead]
def wsX7_races_r2 : List Cond := [Cond.instanceMethod yX7_isAhead, Cond.selects RX7 yX7_isAhead yX7_isAhead, Cond.code yX7_isAhead cX7_isAhead 4 (some .boolean)]
def wsX7_races : List Cond := .code yX7_races cX7_races 3 (some .int) :: ((wsX7_races_r1 ++ wsX7_races_r2) ++ wsX70)
def wsX7_race : List Cond := .code yX7_race cX7_race 8 (some .int) :: ([.constant RX7 97 (-1000000001), .constantLong RX7 35 (2), .constant RX7 98 (-1000000002), .fieldLink RX7 7 "RaceWatchModel" "w" "[I", .methodLink RX7 46 yX7_isCell, .static yX7_isCell, .initialized RX7, .code yX7_isCell cX7_isCell 1 (some .boolean), .constantLong RX7 29 (3), .methodLink RX7 31 yX7_in, .static yX7_in, .code yX7_in cX7_in 6 (some .boolean), .methodLink RX7 222 yX7_isAccess, .instanceMethod yX7_isAccess, .selects RX7 yX7_isAccess yX7_isAccess, .code yX7_isAccess cX7_isAccess 3 (some .boolean), .methodLink RX7 225 yX7_kindBy, .instanceMethod yX7_kindBy, .selects RX7 yX7_kindBy yX7_kindBy, .code yX7_kindBy cX7_kindBy 6 (some .int), .methodLink RX7 218 yX7_isAhead, .instanceMethod yX7_isAhead, .selects RX7 yX7_isAhead yX7_isAhead, .code yX7_isAhead cX7_isAhead 4 (some .boolean)] ++ wsX70)
def wsX7_cell : List Cond := .code yX7_cell cX7_cell 4 (some .int) :: ([.constant RX7 97 (-1000000001), .fieldLink RX7 7 "RaceWatchModel" "w" "[I", .constant RX7 98 (-1000000002), .methodLink RX7 46 yX7_isCell, .static yX7_isCell, .initialized RX7, .code yX7_isCell cX7_isCell 1 (some .boolean), .constantLong RX7 29 (3), .methodLink RX7 31 yX7_in, .static yX7_in, .code yX7_in cX7_in 6 (some .boolean), .methodLink RX7 37 yX7_of, .static yX7_of, .code yX7_of cX7_of 1 (some .int)] ++ wsX70)
def wsX7_shared : List Cond := .code yX7_shared cX7_shared 3 (some .int) :: ([.fieldLink RX7 7 "RaceWatchModel" "w" "[I", .constant RX7 97 (-1000000001), .methodLink RX7 46 yX7_isCell, .static yX7_isCell, .initialized RX7, .code yX7_isCell cX7_isCell 1 (some .boolean), .constantLong RX7 29 (3), .methodLink RX7 31 yX7_in, .static yX7_in, .code yX7_in cX7_in 6 (some .boolean), .methodLink RX7 56 yX7_isThread, .static yX7_isThread, .code yX7_isThread cX7_isThread 1 (some .boolean), .methodLink RX7 37 yX7_of, .static yX7_of, .code yX7_of cX7_of 1 (some .int)] ++ wsX70)
def wsX7_would_r1 : List Cond := [Cond.constant RX7 97 (-1000000001), Cond.fieldLink RX7 7 "RaceWatchModel" "w" "[I", Cond.constant RX7 102 (-1000000003), Cond.methodLink RX7 56 yX7_isThread, Cond.static yX7_isThread, Cond.initialized RX7, Cond.code yX7_isThread cX7_isThread 1 (some .boolean), Cond.constantLong RX7 29 (3), Cond.methodLink RX7 31 yX7_in, Cond.static yX7_in, Cond.code yX7_in cX7_in 6 (some .boolean), Cond.methodLink RX7 46 yX7_isCell, Cond.static yX7_isCell, Cond.code yX7_isCell cX7_isCell 1 (some .boolean), Cond.methodLink RX7 62 yX7_kindOf, Cond.instanceMethod yX7_kindOf, Cond.selects RX7 yX7_kindOf yX7_kindOf, Cond.code yX7_kindOf cX7_kindOf 9 (some .int), Cond.methodLink RX7 37 yX7_of, Cond.static yX7_of, Cond.code yX7_of cX7_of 1 (some .int), Cond.methodLink RX7 41 yX7_number, Cond.instanceMethod yX7_number, Cond.selects RX7 yX7_number yX7_number]
def wsX7_would_r2 : List Cond := [Cond.code yX7_number cX7_number 3 (some .int)]
def wsX7_would : List Cond := .code yX7_would cX7_would 4 (some .int) :: ((wsX7_would_r1 ++ wsX7_would_r2) ++ wsX70)
def wsX7_guard : List Cond := .code yX7_guard cX7_guard 4 (some .int) :: ([.constant RX7 97 (-1000000001), .fieldLink RX7 7 "RaceWatchModel" "w" "[I", .methodLink RX7 46 yX7_isCell, .static yX7_isCell, .initialized RX7, .code yX7_isCell cX7_isCell 1 (some .boolean), .constantLong RX7 29 (3), .methodLink RX7 31 yX7_in, .static yX7_in, .code yX7_in cX7_in 6 (some .boolean), .methodLink RX7 222 yX7_isAccess, .instanceMethod yX7_isAccess, .selects RX7 yX7_isAccess yX7_isAccess, .code yX7_isAccess cX7_isAccess 3 (some .boolean)] ++ wsX70)
def wsX7_keep : List Cond := .code yX7_keep cX7_keep 3 (some .int) :: ([.constant RX7 97 (-1000000001), .fieldLink RX7 7 "RaceWatchModel" "w" "[I", .fieldLink RX7 13 "RaceWatchModel" "isKept" "[Z", .methodLink RX7 31 yX7_in, .static yX7_in, .initialized RX7, .code yX7_in cX7_in 6 (some .boolean)] ++ wsX70)
def wsX7_goBack : List Cond := .code yX7_goBack cX7_goBack 3 (some .int) :: ([.constant RX7 97 (-1000000001), .fieldLink RX7 13 "RaceWatchModel" "isKept" "[Z", .constant RX7 102 (-1000000003), .fieldLink RX7 7 "RaceWatchModel" "w" "[I", .methodLink RX7 31 yX7_in, .static yX7_in, .initialized RX7, .code yX7_in cX7_in 6 (some .boolean)] ++ wsX70)
def wsJ9_max_7cf53 : List Cond := .code yJ9_max_7cf53 cJ9_max_7cf53 2 (some .int) :: ([])
def wsJ9_min_7cf53 : List Cond := .code yJ9_min_7cf53 cJ9_min_7cf53 2 (some .int) :: ([])
abbrev vwCl : List vw_C := [(RX0, TX0, 3), (RX1, TX1, 2), (RX2, TX2, 10), (RX3, TX3, 8), (RX4, TX4, 11), (RX5, TX5, 7), (RX6, TX6, 4), (RX7, TX7, 14)]
end
section
theorem dX0_init_0 : decode cX0_init 0 = .ok (.aload_n 0, 1) := by decide +kernel
theorem dX0_init_1 : decode cX0_init 1 = .ok (.invokespecial 3, 3) := by decide +kernel
theorem dX0_init_4 : decode cX0_init 4 = .ok (.aload_n 0, 1) := by decide +kernel
theorem dX0_init_5 : decode cX0_init 5 = .ok (.bipush 24, 2) := by decide +kernel
theorem dX0_init_7 : decode cX0_init 7 = .ok (.newarray .int, 2) := by decide +kernel
theorem dX0_init_9 : decode cX0_init 9 = .ok (.putfield 9, 3) := by decide +kernel
theorem dX0_init_12 : decode cX0_init 12 = .ok (.aload_n 0, 1) := by decide +kernel
theorem dX0_init_13 : decode cX0_init 13 = .ok (.bipush 24, 2) := by decide +kernel
theorem dX0_init_15 : decode cX0_init 15 = .ok (.newarray .int, 2) := by decide +kernel
theorem dX0_init_17 : decode cX0_init 17 = .ok (.putfield 15, 3) := by decide +kernel
theorem dX0_init_20 : decode cX0_init 20 = .ok (.return_, 1) := by decide +kernel
theorem dX0_enter_0 : decode cX0_enter 0 = .ok (.aload_n 0, 1) := by decide +kernel
theorem dX0_enter_1 : decode cX0_enter 1 = .ok (.getfield 9, 3) := by decide +kernel
theorem dX0_enter_4 : decode cX0_enter 4 = .ok (.iconst 0, 1) := by decide +kernel
theorem dX0_enter_5 : decode cX0_enter 5 = .ok (.aload_n 0, 1) := by decide +kernel
theorem dX0_enter_6 : decode cX0_enter 6 = .ok (.getfield 9, 3) := by decide +kernel
theorem dX0_enter_9 : decode cX0_enter 9 = .ok (.iconst 1, 1) := by decide +kernel
theorem dX0_enter_10 : decode cX0_enter 10 = .ok (.bipush 23, 2) := by decide +kernel
theorem dX0_enter_12 : decode cX0_enter 12 = .ok (.invokestatic 18, 3) := by decide +kernel
theorem dX0_enter_15 : decode cX0_enter 15 = .ok (.aload_n 0, 1) := by decide +kernel
theorem dX0_enter_16 : decode cX0_enter 16 = .ok (.getfield 15, 3) := by decide +kernel
theorem dX0_enter_19 : decode cX0_enter 19 = .ok (.iconst 0, 1) := by decide +kernel
theorem dX0_enter_20 : decode cX0_enter 20 = .ok (.aload_n 0, 1) := by decide +kernel
theorem dX0_enter_21 : decode cX0_enter 21 = .ok (.getfield 15, 3) := by decide +kernel
theorem dX0_enter_24 : decode cX0_enter 24 = .ok (.iconst 1, 1) := by decide +kernel
theorem dX0_enter_25 : decode cX0_enter 25 = .ok (.bipush 23, 2) := by decide +kernel
theorem dX0_enter_27 : decode cX0_enter 27 = .ok (.invokestatic 18, 3) := by decide +kernel
theorem dX0_enter_30 : decode cX0_enter 30 = .ok (.aload_n 0, 1) := by decide +kernel
theorem dX0_enter_31 : decode cX0_enter 31 = .ok (.getfield 9, 3) := by decide +kernel
theorem dX0_enter_34 : decode cX0_enter 34 = .ok (.iconst 0, 1) := by decide +kernel
theorem dX0_enter_35 : decode cX0_enter 35 = .ok (.iload_n 1, 1) := by decide +kernel
theorem dX0_enter_36 : decode cX0_enter 36 = .ok (.iastore, 1) := by decide +kernel
theorem dX0_enter_37 : decode cX0_enter 37 = .ok (.aload_n 0, 1) := by decide +kernel
theorem dX0_enter_38 : decode cX0_enter 38 = .ok (.getfield 15, 3) := by decide +kernel
theorem dX0_enter_41 : decode cX0_enter 41 = .ok (.iconst 0, 1) := by decide +kernel
theorem dX0_enter_42 : decode cX0_enter 42 = .ok (.iload_n 2, 1) := by decide +kernel
theorem dX0_enter_43 : decode cX0_enter 43 = .ok (.iastore, 1) := by decide +kernel
theorem dX0_enter_44 : decode cX0_enter 44 = .ok (.aload_n 0, 1) := by decide +kernel
theorem dX0_enter_45 : decode cX0_enter 45 = .ok (.aload_n 0, 1) := by decide +kernel
theorem dX0_enter_46 : decode cX0_enter 46 = .ok (.getfield 24, 3) := by decide +kernel
theorem dX0_enter_49 : decode cX0_enter 49 = .ok (.iconst 1, 1) := by decide +kernel
theorem dX0_enter_50 : decode cX0_enter 50 = .ok (.iadd, 1) := by decide +kernel
theorem dX0_enter_51 : decode cX0_enter 51 = .ok (.bipush 24, 2) := by decide +kernel
theorem dX0_enter_53 : decode cX0_enter 53 = .ok (.invokestatic 28, 3) := by decide +kernel
theorem dX0_enter_56 : decode cX0_enter 56 = .ok (.putfield 24, 3) := by decide +kernel
theorem dX0_enter_59 : decode cX0_enter 59 = .ok (.return_, 1) := by decide +kernel
theorem dX1_init_0 : decode cX1_init 0 = .ok (.aload_n 0, 1) := by decide +kernel
theorem dX1_init_1 : decode cX1_init 1 = .ok (.invokespecial 3, 3) := by decide +kernel
theorem dX1_init_4 : decode cX1_init 4 = .ok (.aload_n 0, 1) := by decide +kernel
theorem dX1_init_5 : decode cX1_init 5 = .ok (.iload_n 1, 1) := by decide +kernel
theorem dX1_init_6 : decode cX1_init 6 = .ok (.iconst 0, 1) := by decide +kernel
theorem dX1_init_7 : decode cX1_init 7 = .ok (.invokestatic 9, 3) := by decide +kernel
theorem dX1_init_10 : decode cX1_init 10 = .ok (.putfield 15, 3) := by decide +kernel
theorem dX1_init_13 : decode cX1_init 13 = .ok (.aload_n 0, 1) := by decide +kernel
theorem dX1_init_14 : decode cX1_init 14 = .ok (.aload_n 0, 1) := by decide +kernel
theorem dX1_init_15 : decode cX1_init 15 = .ok (.getfield 15, 3) := by decide +kernel
theorem dX1_init_18 : decode cX1_init 18 = .ok (.iconst 4, 1) := by decide +kernel
theorem dX1_init_19 : decode cX1_init 19 = .ok (.imul, 1) := by decide +kernel
theorem dX1_init_20 : decode cX1_init 20 = .ok (.newarray .int, 2) := by decide +kernel
theorem dX1_init_22 : decode cX1_init 22 = .ok (.putfield 21, 3) := by decide +kernel
theorem dX1_init_25 : decode cX1_init 25 = .ok (.return_, 1) := by decide +kernel
theorem dX1_number_0 : decode cX1_number 0 = .ok (.aload_n 0, 1) := by decide +kernel
theorem dX1_number_1 : decode cX1_number 1 = .ok (.getfield 21, 3) := by decide +kernel
theorem dX1_number_4 : decode cX1_number 4 = .ok (.iload_n 1, 1) := by decide +kernel
theorem dX1_number_5 : decode cX1_number 5 = .ok (.iconst 4, 1) := by decide +kernel
theorem dX1_number_6 : decode cX1_number 6 = .ok (.imul, 1) := by decide +kernel
theorem dX1_number_7 : decode cX1_number 7 = .ok (.iload_n 2, 1) := by decide +kernel
theorem dX1_number_8 : decode cX1_number 8 = .ok (.iadd, 1) := by decide +kernel
theorem dX1_number_9 : decode cX1_number 9 = .ok (.iaload, 1) := by decide +kernel
theorem dX1_number_10 : decode cX1_number 10 = .ok (.ireturn, 1) := by decide +kernel
theorem dX1_set_0 : decode cX1_set 0 = .ok (.aload_n 0, 1) := by decide +kernel
theorem dX1_set_1 : decode cX1_set 1 = .ok (.getfield 21, 3) := by decide +kernel
theorem dX1_set_4 : decode cX1_set 4 = .ok (.iload_n 1, 1) := by decide +kernel
theorem dX1_set_5 : decode cX1_set 5 = .ok (.iconst 4, 1) := by decide +kernel
theorem dX1_set_6 : decode cX1_set 6 = .ok (.imul, 1) := by decide +kernel
theorem dX1_set_7 : decode cX1_set 7 = .ok (.iload_n 2, 1) := by decide +kernel
theorem dX1_set_8 : decode cX1_set 8 = .ok (.iadd, 1) := by decide +kernel
theorem dX1_set_9 : decode cX1_set 9 = .ok (.iload_n 3, 1) := by decide +kernel
theorem dX1_set_10 : decode cX1_set 10 = .ok (.iastore, 1) := by decide +kernel
theorem dX1_set_11 : decode cX1_set 11 = .ok (.return_, 1) := by decide +kernel
set_option maxRecDepth 20000 in
theorem ggX1_join_X1_number : GoodIn wsX1_join wsX1_number := goodIn_r _ [9, 10, 15, 16] (by decide +kernel) (by decide +kernel)
set_option maxRecDepth 20000 in
theorem gX1_join_X1_number : GoodIn wsX1_join (wsV RX1 25 RX1 yX1_number wsX1_number) := goodIn_app (goodIn_of _ (by decide +kernel)) ggX1_join_X1_number
set_option maxRecDepth 20000 in
theorem ggX1_join_X1_set : GoodIn wsX1_join wsX1_set := goodIn_r _ [14, 10, 15, 16] (by decide +kernel) (by decide +kernel)
set_option maxRecDepth 20000 in
theorem gX1_join_X1_set : GoodIn wsX1_join (wsV RX1 28 RX1 yX1_set wsX1_set) := goodIn_app (goodIn_of _ (by decide +kernel)) ggX1_join_X1_set
theorem dX1_join_0 : decode cX1_join 0 = .ok (.iconst 0, 1) := by decide +kernel
theorem dX1_join_1 : decode cX1_join 1 = .ok (.istore 4, 2) := by decide +kernel
theorem dX1_join_3 : decode cX1_join 3 = .ok (.iload 4, 2) := by decide +kernel
theorem dX1_join_5 : decode cX1_join 5 = .ok (.iconst 4, 1) := by decide +kernel
theorem dX1_join_6 : decode cX1_join 6 = .ok (.if_icmp .ge 33, 3) := by decide +kernel
theorem dX1_join_9 : decode cX1_join 9 = .ok (.aload_n 0, 1) := by decide +kernel
theorem dX1_join_10 : decode cX1_join 10 = .ok (.iload_n 1, 1) := by decide +kernel
theorem dX1_join_11 : decode cX1_join 11 = .ok (.iload 4, 2) := by decide +kernel
theorem dX1_join_13 : decode cX1_join 13 = .ok (.aload_n 0, 1) := by decide +kernel
theorem dX1_join_14 : decode cX1_join 14 = .ok (.iload_n 1, 1) := by decide +kernel
theorem dX1_join_15 : decode cX1_join 15 = .ok (.iload 4, 2) := by decide +kernel
theorem dX1_join_17 : decode cX1_join 17 = .ok (.invokevirtual 25, 3) := by decide +kernel
theorem dX1_join_20 : decode cX1_join 20 = .ok (.aload_n 2, 1) := by decide +kernel
theorem dX1_join_21 : decode cX1_join 21 = .ok (.iload_n 3, 1) := by decide +kernel
theorem dX1_join_22 : decode cX1_join 22 = .ok (.iload 4, 2) := by decide +kernel
theorem dX1_join_24 : decode cX1_join 24 = .ok (.invokevirtual 25, 3) := by decide +kernel
theorem dX1_join_27 : decode cX1_join 27 = .ok (.invokestatic 9, 3) := by decide +kernel
theorem dX1_join_30 : decode cX1_join 30 = .ok (.invokevirtual 28, 3) := by decide +kernel
theorem dX1_join_33 : decode cX1_join 33 = .ok (.iinc 4 1, 3) := by decide +kernel
theorem dX1_join_36 : decode cX1_join 36 = .ok (.goto (-33), 3) := by decide +kernel
theorem dX1_join_39 : decode cX1_join 39 = .ok (.return_, 1) := by decide +kernel
theorem dX1_copyRow_0 : decode cX1_copyRow 0 = .ok (.aload_n 2, 1) := by decide +kernel
theorem dX1_copyRow_1 : decode cX1_copyRow 1 = .ok (.getfield 21, 3) := by decide +kernel
theorem dX1_copyRow_4 : decode cX1_copyRow 4 = .ok (.iload_n 3, 1) := by decide +kernel
theorem dX1_copyRow_5 : decode cX1_copyRow 5 = .ok (.iconst 4, 1) := by decide +kernel
theorem dX1_copyRow_6 : decode cX1_copyRow 6 = .ok (.imul, 1) := by decide +kernel
theorem dX1_copyRow_7 : decode cX1_copyRow 7 = .ok (.aload_n 0, 1) := by decide +kernel
theorem dX1_copyRow_8 : decode cX1_copyRow 8 = .ok (.getfield 21, 3) := by decide +kernel
theorem dX1_copyRow_11 : decode cX1_copyRow 11 = .ok (.iload_n 1, 1) := by decide +kernel
theorem dX1_copyRow_12 : decode cX1_copyRow 12 = .ok (.iconst 4, 1) := by decide +kernel
theorem dX1_copyRow_13 : decode cX1_copyRow 13 = .ok (.imul, 1) := by decide +kernel
theorem dX1_copyRow_14 : decode cX1_copyRow 14 = .ok (.iconst 4, 1) := by decide +kernel
theorem dX1_copyRow_15 : decode cX1_copyRow 15 = .ok (.invokestatic 32, 3) := by decide +kernel
theorem dX1_copyRow_18 : decode cX1_copyRow 18 = .ok (.return_, 1) := by decide +kernel
theorem dX1_copyRows_0 : decode cX1_copyRows 0 = .ok (.aload_n 1, 1) := by decide +kernel
theorem dX1_copyRows_1 : decode cX1_copyRows 1 = .ok (.getfield 21, 3) := by decide +kernel
theorem dX1_copyRows_4 : decode cX1_copyRows 4 = .ok (.iconst 0, 1) := by decide +kernel
theorem dX1_copyRows_5 : decode cX1_copyRows 5 = .ok (.aload_n 0, 1) := by decide +kernel
theorem dX1_copyRows_6 : decode cX1_copyRows 6 = .ok (.getfield 21, 3) := by decide +kernel
theorem dX1_copyRows_9 : decode cX1_copyRows 9 = .ok (.iconst 0, 1) := by decide +kernel
theorem dX1_copyRows_10 : decode cX1_copyRows 10 = .ok (.iload_n 2, 1) := by decide +kernel
theorem dX1_copyRows_11 : decode cX1_copyRows 11 = .ok (.iconst 4, 1) := by decide +kernel
theorem dX1_copyRows_12 : decode cX1_copyRows 12 = .ok (.imul, 1) := by decide +kernel
theorem dX1_copyRows_13 : decode cX1_copyRows 13 = .ok (.invokestatic 32, 3) := by decide +kernel
theorem dX1_copyRows_16 : decode cX1_copyRows 16 = .ok (.return_, 1) := by decide +kernel
set_option maxRecDepth 20000 in
theorem ggX1_clear_J7_fill_53178 : GoodIn wsX1_clear wsJ7_fill_53178 := goodIn_r _ [5] (by decide +kernel) (by decide +kernel)
set_option maxRecDepth 20000 in
theorem gX1_clear_J7_fill_53178 : GoodIn wsX1_clear (va_wsS RX1 38 yJ7_fill_53178 wsJ7_fill_53178) := goodIn_app (goodIn_of _ (by decide +kernel)) ggX1_clear_J7_fill_53178
theorem dX1_clear_0 : decode cX1_clear 0 = .ok (.aload_n 0, 1) := by decide +kernel
theorem dX1_clear_1 : decode cX1_clear 1 = .ok (.getfield 21, 3) := by decide +kernel
theorem dX1_clear_4 : decode cX1_clear 4 = .ok (.iconst 0, 1) := by decide +kernel
theorem dX1_clear_5 : decode cX1_clear 5 = .ok (.invokestatic 38, 3) := by decide +kernel
theorem dX1_clear_8 : decode cX1_clear 8 = .ok (.return_, 1) := by decide +kernel
theorem dX2_init_0 : decode cX2_init 0 = .ok (.aload_n 0, 1) := by decide +kernel
theorem dX2_init_1 : decode cX2_init 1 = .ok (.invokespecial 3, 3) := by decide +kernel
theorem dX2_init_4 : decode cX2_init 4 = .ok (.aload_n 0, 1) := by decide +kernel
theorem dX2_init_5 : decode cX2_init 5 = .ok (.iconst 4, 1) := by decide +kernel
theorem dX2_init_6 : decode cX2_init 6 = .ok (.newarray .int, 2) := by decide +kernel
theorem dX2_init_8 : decode cX2_init 8 = .ok (.putfield 9, 3) := by decide +kernel
theorem dX2_init_11 : decode cX2_init 11 = .ok (.return_, 1) := by decide +kernel
set_option maxRecDepth 20000 in
theorem ggX2_begin_X2_forgetReads : GoodIn wsX2_begin wsX2_forgetReads := goodIn_r _ [11, 12, 13, 14, 15, 16, 17, 18, 19, 20, 21, 22, 23, 24, 25, 26, 27, 28, 29] (by decide +kernel) (by decide +kernel)
set_option maxRecDepth 20000 in
theorem gX2_begin_X2_forgetReads : GoodIn wsX2_begin (wsV RX2 22 RX2 yX2_forgetReads wsX2_forgetReads) := goodIn_app (goodIn_of _ (by decide +kernel)) ggX2_begin_X2_forgetReads
theorem dX2_begin_0 : decode cX2_begin 0 = .ok (.aload_n 0, 1) := by decide +kernel
theorem dX2_begin_1 : decode cX2_begin 1 = .ok (.iconst (-1), 1) := by decide +kernel
theorem dX2_begin_2 : decode cX2_begin 2 = .ok (.putfield 15, 3) := by decide +kernel
theorem dX2_begin_5 : decode cX2_begin 5 = .ok (.aload_n 0, 1) := by decide +kernel
theorem dX2_begin_6 : decode cX2_begin 6 = .ok (.iconst 0, 1) := by decide +kernel
theorem dX2_begin_7 : decode cX2_begin 7 = .ok (.putfield 19, 3) := by decide +kernel
theorem dX2_begin_10 : decode cX2_begin 10 = .ok (.aload_n 0, 1) := by decide +kernel
theorem dX2_begin_11 : decode cX2_begin 11 = .ok (.invokevirtual 22, 3) := by decide +kernel
theorem dX2_begin_14 : decode cX2_begin 14 = .ok (.aload_n 0, 1) := by decide +kernel
theorem dX2_begin_15 : decode cX2_begin 15 = .ok (.iconst 0, 1) := by decide +kernel
theorem dX2_begin_16 : decode cX2_begin 16 = .ok (.putfield 25, 3) := by decide +kernel
theorem dX2_begin_19 : decode cX2_begin 19 = .ok (.aload_n 0, 1) := by decide +kernel
theorem dX2_begin_20 : decode cX2_begin 20 = .ok (.iconst (-1), 1) := by decide +kernel
theorem dX2_begin_21 : decode cX2_begin 21 = .ok (.putfield 28, 3) := by decide +kernel
theorem dX2_begin_24 : decode cX2_begin 24 = .ok (.aload_n 0, 1) := by decide +kernel
theorem dX2_begin_25 : decode cX2_begin 25 = .ok (.iconst (-1), 1) := by decide +kernel
theorem dX2_begin_26 : decode cX2_begin 26 = .ok (.putfield 31, 3) := by decide +kernel
theorem dX2_begin_29 : decode cX2_begin 29 = .ok (.aload_n 0, 1) := by decide +kernel
theorem dX2_begin_30 : decode cX2_begin 30 = .ok (.bipush 7, 2) := by decide +kernel
theorem dX2_begin_32 : decode cX2_begin 32 = .ok (.putfield 34, 3) := by decide +kernel
theorem dX2_begin_35 : decode cX2_begin 35 = .ok (.return_, 1) := by decide +kernel
theorem dX2_copy_0 : decode cX2_copy 0 = .ok (.aload_n 0, 1) := by decide +kernel
theorem dX2_copy_1 : decode cX2_copy 1 = .ok (.aload_n 1, 1) := by decide +kernel
theorem dX2_copy_2 : decode cX2_copy 2 = .ok (.getfield 15, 3) := by decide +kernel
theorem dX2_copy_5 : decode cX2_copy 5 = .ok (.putfield 15, 3) := by decide +kernel
theorem dX2_copy_8 : decode cX2_copy 8 = .ok (.aload_n 0, 1) := by decide +kernel
theorem dX2_copy_9 : decode cX2_copy 9 = .ok (.aload_n 1, 1) := by decide +kernel
theorem dX2_copy_10 : decode cX2_copy 10 = .ok (.getfield 19, 3) := by decide +kernel
theorem dX2_copy_13 : decode cX2_copy 13 = .ok (.putfield 19, 3) := by decide +kernel
theorem dX2_copy_16 : decode cX2_copy 16 = .ok (.aload_n 0, 1) := by decide +kernel
theorem dX2_copy_17 : decode cX2_copy 17 = .ok (.aload_n 1, 1) := by decide +kernel
theorem dX2_copy_18 : decode cX2_copy 18 = .ok (.getfield 37, 3) := by decide +kernel
theorem dX2_copy_21 : decode cX2_copy 21 = .ok (.putfield 37, 3) := by decide +kernel
theorem dX2_copy_24 : decode cX2_copy 24 = .ok (.aload_n 0, 1) := by decide +kernel
theorem dX2_copy_25 : decode cX2_copy 25 = .ok (.aload_n 1, 1) := by decide +kernel
theorem dX2_copy_26 : decode cX2_copy 26 = .ok (.getfield 40, 3) := by decide +kernel
theorem dX2_copy_29 : decode cX2_copy 29 = .ok (.putfield 40, 3) := by decide +kernel
theorem dX2_copy_32 : decode cX2_copy 32 = .ok (.aload_n 0, 1) := by decide +kernel
theorem dX2_copy_33 : decode cX2_copy 33 = .ok (.aload_n 1, 1) := by decide +kernel
theorem dX2_copy_34 : decode cX2_copy 34 = .ok (.getfield 43, 3) := by decide +kernel
theorem dX2_copy_37 : decode cX2_copy 37 = .ok (.putfield 43, 3) := by decide +kernel
theorem dX2_copy_40 : decode cX2_copy 40 = .ok (.aload_n 1, 1) := by decide +kernel
theorem dX2_copy_41 : decode cX2_copy 41 = .ok (.getfield 9, 3) := by decide +kernel
theorem dX2_copy_44 : decode cX2_copy 44 = .ok (.iconst 0, 1) := by decide +kernel
theorem dX2_copy_45 : decode cX2_copy 45 = .ok (.aload_n 0, 1) := by decide +kernel
theorem dX2_copy_46 : decode cX2_copy 46 = .ok (.getfield 9, 3) := by decide +kernel
theorem dX2_copy_49 : decode cX2_copy 49 = .ok (.iconst 0, 1) := by decide +kernel
theorem dX2_copy_50 : decode cX2_copy 50 = .ok (.iconst 4, 1) := by decide +kernel
theorem dX2_copy_51 : decode cX2_copy 51 = .ok (.invokestatic 47, 3) := by decide +kernel
theorem dX2_copy_54 : decode cX2_copy 54 = .ok (.aload_n 0, 1) := by decide +kernel
theorem dX2_copy_55 : decode cX2_copy 55 = .ok (.aload_n 1, 1) := by decide +kernel
theorem dX2_copy_56 : decode cX2_copy 56 = .ok (.getfield 25, 3) := by decide +kernel
theorem dX2_copy_59 : decode cX2_copy 59 = .ok (.putfield 25, 3) := by decide +kernel
theorem dX2_copy_62 : decode cX2_copy 62 = .ok (.aload_n 0, 1) := by decide +kernel
theorem dX2_copy_63 : decode cX2_copy 63 = .ok (.aload_n 1, 1) := by decide +kernel
theorem dX2_copy_64 : decode cX2_copy 64 = .ok (.getfield 28, 3) := by decide +kernel
theorem dX2_copy_67 : decode cX2_copy 67 = .ok (.putfield 28, 3) := by decide +kernel
theorem dX2_copy_70 : decode cX2_copy 70 = .ok (.aload_n 0, 1) := by decide +kernel
theorem dX2_copy_71 : decode cX2_copy 71 = .ok (.aload_n 1, 1) := by decide +kernel
theorem dX2_copy_72 : decode cX2_copy 72 = .ok (.getfield 31, 3) := by decide +kernel
theorem dX2_copy_75 : decode cX2_copy 75 = .ok (.putfield 31, 3) := by decide +kernel
theorem dX2_copy_78 : decode cX2_copy 78 = .ok (.aload_n 0, 1) := by decide +kernel
theorem dX2_copy_79 : decode cX2_copy 79 = .ok (.aload_n 1, 1) := by decide +kernel
theorem dX2_copy_80 : decode cX2_copy 80 = .ok (.getfield 34, 3) := by decide +kernel
theorem dX2_copy_83 : decode cX2_copy 83 = .ok (.putfield 34, 3) := by decide +kernel
theorem dX2_copy_86 : decode cX2_copy 86 = .ok (.return_, 1) := by decide +kernel
set_option maxRecDepth 20000 in
theorem ggX2_kindOf_X1_number : GoodIn wsX2_kindOf wsX1_number := goodIn_r _ [7, 8, 28, 29] (by decide +kernel) (by decide +kernel)
set_option maxRecDepth 20000 in
theorem gX2_kindOf_X1_number : GoodIn wsX2_kindOf (wsV RX2 53 RX1 yX1_number wsX1_number) := goodIn_app (goodIn_of _ (by decide +kernel)) ggX2_kindOf_X1_number
set_option maxRecDepth 20000 in
theorem ggX2_kindOf_X2_readsAreAhead : GoodIn wsX2_kindOf wsX2_readsAreAhead := goodIn_r _ [13, 14, 15, 16, 17, 3, 4, 5, 6, 7, 8, 18, 19, 20, 21, 22, 23, 24, 25, 26, 27, 28, 29] (by decide +kernel) (by decide +kernel)
set_option maxRecDepth 20000 in
theorem gX2_kindOf_X2_readsAreAhead : GoodIn wsX2_kindOf (wsV RX2 59 RX2 yX2_readsAreAhead wsX2_readsAreAhead) := goodIn_app (goodIn_of _ (by decide +kernel)) ggX2_kindOf_X2_readsAreAhead
theorem dX2_kindOf_0 : decode cX2_kindOf 0 = .ok (.aload_n 0, 1) := by decide +kernel
theorem dX2_kindOf_1 : decode cX2_kindOf 1 = .ok (.getfield 15, 3) := by decide +kernel
theorem dX2_kindOf_4 : decode cX2_kindOf 4 = .ok (.iconst (-1), 1) := by decide +kernel
theorem dX2_kindOf_5 : decode cX2_kindOf 5 = .ok (.if_icmp .eq 19, 3) := by decide +kernel
theorem dX2_kindOf_8 : decode cX2_kindOf 8 = .ok (.aload_n 2, 1) := by decide +kernel
theorem dX2_kindOf_9 : decode cX2_kindOf 9 = .ok (.iload_n 3, 1) := by decide +kernel
theorem dX2_kindOf_10 : decode cX2_kindOf 10 = .ok (.aload_n 0, 1) := by decide +kernel
theorem dX2_kindOf_11 : decode cX2_kindOf 11 = .ok (.getfield 15, 3) := by decide +kernel
theorem dX2_kindOf_14 : decode cX2_kindOf 14 = .ok (.invokevirtual 53, 3) := by decide +kernel
theorem dX2_kindOf_17 : decode cX2_kindOf 17 = .ok (.aload_n 0, 1) := by decide +kernel
theorem dX2_kindOf_18 : decode cX2_kindOf 18 = .ok (.getfield 19, 3) := by decide +kernel
theorem dX2_kindOf_21 : decode cX2_kindOf 21 = .ok (.if_icmp .lt 7, 3) := by decide +kernel
theorem dX2_kindOf_24 : decode cX2_kindOf 24 = .ok (.iconst 1, 1) := by decide +kernel
theorem dX2_kindOf_25 : decode cX2_kindOf 25 = .ok (.goto 4, 3) := by decide +kernel
theorem dX2_kindOf_28 : decode cX2_kindOf 28 = .ok (.iconst 0, 1) := by decide +kernel
theorem dX2_kindOf_29 : decode cX2_kindOf 29 = .ok (.istore 4, 2) := by decide +kernel
theorem dX2_kindOf_31 : decode cX2_kindOf 31 = .ok (.iload_n 1, 1) := by decide +kernel
theorem dX2_kindOf_32 : decode cX2_kindOf 32 = .ok (.ifCond .ne 14, 3) := by decide +kernel
theorem dX2_kindOf_35 : decode cX2_kindOf 35 = .ok (.iload 4, 2) := by decide +kernel
theorem dX2_kindOf_37 : decode cX2_kindOf 37 = .ok (.ifCond .eq 7, 3) := by decide +kernel
theorem dX2_kindOf_40 : decode cX2_kindOf 40 = .ok (.iconst (-1), 1) := by decide +kernel
theorem dX2_kindOf_41 : decode cX2_kindOf 41 = .ok (.goto 4, 3) := by decide +kernel
theorem dX2_kindOf_44 : decode cX2_kindOf 44 = .ok (.iconst 1, 1) := by decide +kernel
theorem dX2_kindOf_45 : decode cX2_kindOf 45 = .ok (.ireturn, 1) := by decide +kernel
theorem dX2_kindOf_46 : decode cX2_kindOf 46 = .ok (.iload 4, 2) := by decide +kernel
theorem dX2_kindOf_48 : decode cX2_kindOf 48 = .ok (.ifCond .ne 5, 3) := by decide +kernel
theorem dX2_kindOf_51 : decode cX2_kindOf 51 = .ok (.iconst 0, 1) := by decide +kernel
theorem dX2_kindOf_52 : decode cX2_kindOf 52 = .ok (.ireturn, 1) := by decide +kernel
theorem dX2_kindOf_53 : decode cX2_kindOf 53 = .ok (.aload_n 0, 1) := by decide +kernel
theorem dX2_kindOf_54 : decode cX2_kindOf 54 = .ok (.aload_n 2, 1) := by decide +kernel
theorem dX2_kindOf_55 : decode cX2_kindOf 55 = .ok (.iload_n 3, 1) := by decide +kernel
theorem dX2_kindOf_56 : decode cX2_kindOf 56 = .ok (.invokevirtual 59, 3) := by decide +kernel
theorem dX2_kindOf_59 : decode cX2_kindOf 59 = .ok (.ifCond .eq 7, 3) := by decide +kernel
theorem dX2_kindOf_62 : decode cX2_kindOf 62 = .ok (.iconst (-1), 1) := by decide +kernel
theorem dX2_kindOf_63 : decode cX2_kindOf 63 = .ok (.goto 4, 3) := by decide +kernel
theorem dX2_kindOf_66 : decode cX2_kindOf 66 = .ok (.iconst 2, 1) := by decide +kernel
theorem dX2_kindOf_67 : decode cX2_kindOf 67 = .ok (.ireturn, 1) := by decide +kernel
set_option maxRecDepth 20000 in
theorem ggX2_access_X2_kindOf : GoodIn wsX2_access wsX2_kindOf := goodIn_r _ [10, 4, 5, 11, 12, 13, 14, 15, 16, 17, 18, 19, 9, 20, 21, 22, 23, 24, 42, 43, 44, 45, 46, 47, 48, 49, 50, 51, 52, 53] (by decide +kernel) (by decide +kernel)
set_option maxRecDepth 20000 in
theorem gX2_access_X2_kindOf : GoodIn wsX2_access (wsV RX2 63 RX2 yX2_kindOf wsX2_kindOf) := goodIn_app (goodIn_of _ (by decide +kernel)) ggX2_access_X2_kindOf
set_option maxRecDepth 20000 in
theorem ggX2_access_X1_number : GoodIn wsX2_access wsX1_number := goodIn_r _ [15, 16, 52, 53] (by decide +kernel) (by decide +kernel)
set_option maxRecDepth 20000 in
theorem gX2_access_X1_number : GoodIn wsX2_access (wsV RX2 53 RX1 yX1_number wsX1_number) := goodIn_app (goodIn_of _ (by decide +kernel)) ggX2_access_X1_number
set_option maxRecDepth 20000 in
theorem ggX2_access_X2_forgetReads : GoodIn wsX2_access wsX2_forgetReads := goodIn_r _ [28, 22, 23, 21, 24, 29, 30, 31, 32, 42, 43, 44, 45, 46, 47, 48, 49, 50, 51] (by decide +kernel) (by decide +kernel)
set_option maxRecDepth 20000 in
theorem gX2_access_X2_forgetReads : GoodIn wsX2_access (wsV RX2 22 RX2 yX2_forgetReads wsX2_forgetReads) := goodIn_app (goodIn_of _ (by decide +kernel)) ggX2_access_X2_forgetReads
set_option maxRecDepth 20000 in
theorem ggX2_access_X2_keepRead : GoodIn wsX2_access wsX2_keepRead := goodIn_r _ [36, 21, 24, 22, 23, 11, 12, 13, 14, 15, 16, 17, 18, 19, 9, 20, 37, 38, 39, 40, 41, 42, 43, 44, 45, 46, 47, 48, 49, 50, 51, 52, 53] (by decide +kernel) (by decide +kernel)
set_option maxRecDepth 20000 in
theorem gX2_access_X2_keepRead : GoodIn wsX2_access (wsV RX2 67 RX2 yX2_keepRead wsX2_keepRead) := goodIn_app (goodIn_of _ (by decide +kernel)) ggX2_access_X2_keepRead
theorem dX2_access_0 : decode cX2_access 0 = .ok (.aload_n 0, 1) := by decide +kernel
theorem dX2_access_1 : decode cX2_access 1 = .ok (.iload_n 1, 1) := by decide +kernel
theorem dX2_access_2 : decode cX2_access 2 = .ok (.aload_n 2, 1) := by decide +kernel
theorem dX2_access_3 : decode cX2_access 3 = .ok (.iload_n 3, 1) := by decide +kernel
theorem dX2_access_4 : decode cX2_access 4 = .ok (.invokevirtual 63, 3) := by decide +kernel
theorem dX2_access_7 : decode cX2_access 7 = .ok (.istore 6, 2) := by decide +kernel
theorem dX2_access_9 : decode cX2_access 9 = .ok (.iload 6, 2) := by decide +kernel
theorem dX2_access_11 : decode cX2_access 11 = .ok (.iconst (-1), 1) := by decide +kernel
theorem dX2_access_12 : decode cX2_access 12 = .ok (.if_icmp .eq 23, 3) := by decide +kernel
theorem dX2_access_15 : decode cX2_access 15 = .ok (.aload_n 0, 1) := by decide +kernel
theorem dX2_access_16 : decode cX2_access 16 = .ok (.getfield 28, 3) := by decide +kernel
theorem dX2_access_19 : decode cX2_access 19 = .ok (.iconst (-1), 1) := by decide +kernel
theorem dX2_access_20 : decode cX2_access 20 = .ok (.if_icmp .ne 15, 3) := by decide +kernel
theorem dX2_access_23 : decode cX2_access 23 = .ok (.aload_n 0, 1) := by decide +kernel
theorem dX2_access_24 : decode cX2_access 24 = .ok (.iload 4, 2) := by decide +kernel
theorem dX2_access_26 : decode cX2_access 26 = .ok (.putfield 28, 3) := by decide +kernel
theorem dX2_access_29 : decode cX2_access 29 = .ok (.aload_n 0, 1) := by decide +kernel
theorem dX2_access_30 : decode cX2_access 30 = .ok (.iload 6, 2) := by decide +kernel
theorem dX2_access_32 : decode cX2_access 32 = .ok (.putfield 31, 3) := by decide +kernel
theorem dX2_access_35 : decode cX2_access 35 = .ok (.aload_n 0, 1) := by decide +kernel
theorem dX2_access_36 : decode cX2_access 36 = .ok (.dup, 1) := by decide +kernel
theorem dX2_access_37 : decode cX2_access 37 = .ok (.getfield 34, 3) := by decide +kernel
theorem dX2_access_40 : decode cX2_access 40 = .ok (.iload 5, 2) := by decide +kernel
theorem dX2_access_42 : decode cX2_access 42 = .ok (.iand, 1) := by decide +kernel
theorem dX2_access_43 : decode cX2_access 43 = .ok (.putfield 34, 3) := by decide +kernel
theorem dX2_access_46 : decode cX2_access 46 = .ok (.iload_n 1, 1) := by decide +kernel
theorem dX2_access_47 : decode cX2_access 47 = .ok (.ifCond .eq 25, 3) := by decide +kernel
theorem dX2_access_50 : decode cX2_access 50 = .ok (.aload_n 0, 1) := by decide +kernel
theorem dX2_access_51 : decode cX2_access 51 = .ok (.iload_n 3, 1) := by decide +kernel
theorem dX2_access_52 : decode cX2_access 52 = .ok (.putfield 15, 3) := by decide +kernel
theorem dX2_access_55 : decode cX2_access 55 = .ok (.aload_n 0, 1) := by decide +kernel
theorem dX2_access_56 : decode cX2_access 56 = .ok (.aload_n 2, 1) := by decide +kernel
theorem dX2_access_57 : decode cX2_access 57 = .ok (.iload_n 3, 1) := by decide +kernel
theorem dX2_access_58 : decode cX2_access 58 = .ok (.iload_n 3, 1) := by decide +kernel
theorem dX2_access_59 : decode cX2_access 59 = .ok (.invokevirtual 53, 3) := by decide +kernel
theorem dX2_access_62 : decode cX2_access 62 = .ok (.putfield 19, 3) := by decide +kernel
theorem dX2_access_65 : decode cX2_access 65 = .ok (.aload_n 0, 1) := by decide +kernel
theorem dX2_access_66 : decode cX2_access 66 = .ok (.invokevirtual 22, 3) := by decide +kernel
theorem dX2_access_69 : decode cX2_access 69 = .ok (.goto 9, 3) := by decide +kernel
theorem dX2_access_72 : decode cX2_access 72 = .ok (.aload_n 0, 1) := by decide +kernel
theorem dX2_access_73 : decode cX2_access 73 = .ok (.aload_n 2, 1) := by decide +kernel
theorem dX2_access_74 : decode cX2_access 74 = .ok (.iload_n 3, 1) := by decide +kernel
theorem dX2_access_75 : decode cX2_access 75 = .ok (.invokevirtual 67, 3) := by decide +kernel
theorem dX2_access_78 : decode cX2_access 78 = .ok (.return_, 1) := by decide +kernel
set_option maxRecDepth 20000 in
theorem ggX2_readsAreAhead_X1_number : GoodIn wsX2_readsAreAhead wsX1_number := goodIn_r _ [9, 10, 21, 22] (by decide +kernel) (by decide +kernel)
set_option maxRecDepth 20000 in
theorem gX2_readsAreAhead_X1_number : GoodIn wsX2_readsAreAhead (wsV RX2 53 RX1 yX1_number wsX1_number) := goodIn_app (goodIn_of _ (by decide +kernel)) ggX2_readsAreAhead_X1_number
theorem dX2_readsAreAhead_0 : decode cX2_readsAreAhead 0 = .ok (.aload_n 0, 1) := by decide +kernel
theorem dX2_readsAreAhead_1 : decode cX2_readsAreAhead 1 = .ok (.getfield 43, 3) := by decide +kernel
theorem dX2_readsAreAhead_4 : decode cX2_readsAreAhead 4 = .ok (.ifCond .ne 33, 3) := by decide +kernel
theorem dX2_readsAreAhead_7 : decode cX2_readsAreAhead 7 = .ok (.aload_n 0, 1) := by decide +kernel
theorem dX2_readsAreAhead_8 : decode cX2_readsAreAhead 8 = .ok (.getfield 37, 3) := by decide +kernel
theorem dX2_readsAreAhead_11 : decode cX2_readsAreAhead 11 = .ok (.iconst (-1), 1) := by decide +kernel
theorem dX2_readsAreAhead_12 : decode cX2_readsAreAhead 12 = .ok (.if_icmp .eq 19, 3) := by decide +kernel
theorem dX2_readsAreAhead_15 : decode cX2_readsAreAhead 15 = .ok (.aload_n 1, 1) := by decide +kernel
theorem dX2_readsAreAhead_16 : decode cX2_readsAreAhead 16 = .ok (.iload_n 2, 1) := by decide +kernel
theorem dX2_readsAreAhead_17 : decode cX2_readsAreAhead 17 = .ok (.aload_n 0, 1) := by decide +kernel
theorem dX2_readsAreAhead_18 : decode cX2_readsAreAhead 18 = .ok (.getfield 37, 3) := by decide +kernel
theorem dX2_readsAreAhead_21 : decode cX2_readsAreAhead 21 = .ok (.invokevirtual 53, 3) := by decide +kernel
theorem dX2_readsAreAhead_24 : decode cX2_readsAreAhead 24 = .ok (.aload_n 0, 1) := by decide +kernel
theorem dX2_readsAreAhead_25 : decode cX2_readsAreAhead 25 = .ok (.getfield 40, 3) := by decide +kernel
theorem dX2_readsAreAhead_28 : decode cX2_readsAreAhead 28 = .ok (.if_icmp .lt 7, 3) := by decide +kernel
theorem dX2_readsAreAhead_31 : decode cX2_readsAreAhead 31 = .ok (.iconst 1, 1) := by decide +kernel
theorem dX2_readsAreAhead_32 : decode cX2_readsAreAhead 32 = .ok (.goto 4, 3) := by decide +kernel
theorem dX2_readsAreAhead_35 : decode cX2_readsAreAhead 35 = .ok (.iconst 0, 1) := by decide +kernel
theorem dX2_readsAreAhead_36 : decode cX2_readsAreAhead 36 = .ok (.ireturn, 1) := by decide +kernel
theorem dX2_readsAreAhead_37 : decode cX2_readsAreAhead 37 = .ok (.iconst 0, 1) := by decide +kernel
theorem dX2_readsAreAhead_38 : decode cX2_readsAreAhead 38 = .ok (.istore_n 3, 1) := by decide +kernel
theorem dX2_readsAreAhead_39 : decode cX2_readsAreAhead 39 = .ok (.iload_n 3, 1) := by decide +kernel
theorem dX2_readsAreAhead_40 : decode cX2_readsAreAhead 40 = .ok (.iconst 4, 1) := by decide +kernel
theorem dX2_readsAreAhead_41 : decode cX2_readsAreAhead 41 = .ok (.if_icmp .ge 26, 3) := by decide +kernel
theorem dX2_readsAreAhead_44 : decode cX2_readsAreAhead 44 = .ok (.aload_n 1, 1) := by decide +kernel
theorem dX2_readsAreAhead_45 : decode cX2_readsAreAhead 45 = .ok (.iload_n 2, 1) := by decide +kernel
theorem dX2_readsAreAhead_46 : decode cX2_readsAreAhead 46 = .ok (.iload_n 3, 1) := by decide +kernel
theorem dX2_readsAreAhead_47 : decode cX2_readsAreAhead 47 = .ok (.invokevirtual 53, 3) := by decide +kernel
theorem dX2_readsAreAhead_50 : decode cX2_readsAreAhead 50 = .ok (.aload_n 0, 1) := by decide +kernel
theorem dX2_readsAreAhead_51 : decode cX2_readsAreAhead 51 = .ok (.getfield 9, 3) := by decide +kernel
theorem dX2_readsAreAhead_54 : decode cX2_readsAreAhead 54 = .ok (.iload_n 3, 1) := by decide +kernel
theorem dX2_readsAreAhead_55 : decode cX2_readsAreAhead 55 = .ok (.iaload, 1) := by decide +kernel
theorem dX2_readsAreAhead_56 : decode cX2_readsAreAhead 56 = .ok (.if_icmp .ge 5, 3) := by decide +kernel
theorem dX2_readsAreAhead_59 : decode cX2_readsAreAhead 59 = .ok (.iconst 0, 1) := by decide +kernel
theorem dX2_readsAreAhead_60 : decode cX2_readsAreAhead 60 = .ok (.ireturn, 1) := by decide +kernel
theorem dX2_readsAreAhead_61 : decode cX2_readsAreAhead 61 = .ok (.iinc 3 1, 3) := by decide +kernel
theorem dX2_readsAreAhead_64 : decode cX2_readsAreAhead 64 = .ok (.goto (-25), 3) := by decide +kernel
theorem dX2_readsAreAhead_67 : decode cX2_readsAreAhead 67 = .ok (.iconst 1, 1) := by decide +kernel
theorem dX2_readsAreAhead_68 : decode cX2_readsAreAhead 68 = .ok (.ireturn, 1) := by decide +kernel
set_option maxRecDepth 20000 in
theorem ggX2_keepRead_X1_number : GoodIn wsX2_keepRead wsX1_number := goodIn_r _ [9, 10, 31, 32] (by decide +kernel) (by decide +kernel)
set_option maxRecDepth 20000 in
theorem gX2_keepRead_X1_number : GoodIn wsX2_keepRead (wsV RX2 53 RX1 yX1_number wsX1_number) := goodIn_app (goodIn_of _ (by decide +kernel)) ggX2_keepRead_X1_number
set_option maxRecDepth 20000 in
theorem ggX2_keepRead_X2_readsAreAhead : GoodIn wsX2_keepRead wsX2_readsAreAhead := goodIn_r _ [15, 1, 3, 4, 2, 5, 6, 7, 8, 9, 10, 21, 22, 23, 24, 25, 26, 27, 28, 29, 30, 31, 32] (by decide +kernel) (by decide +kernel)
set_option maxRecDepth 20000 in
theorem gX2_keepRead_X2_readsAreAhead : GoodIn wsX2_keepRead (wsV RX2 59 RX2 yX2_readsAreAhead wsX2_readsAreAhead) := goodIn_app (goodIn_of _ (by decide +kernel)) ggX2_keepRead_X2_readsAreAhead
set_option maxRecDepth 20000 in
theorem ggX2_keepRead_X2_share : GoodIn wsX2_keepRead wsX2_share := goodIn_r _ [19, 2, 3, 4, 1, 20, 21, 22, 23, 24, 25, 26, 27, 28, 29, 30] (by decide +kernel) (by decide +kernel)
set_option maxRecDepth 20000 in
theorem gX2_keepRead_X2_share : GoodIn wsX2_keepRead (wsV RX2 71 RX2 yX2_share wsX2_share) := goodIn_app (goodIn_of _ (by decide +kernel)) ggX2_keepRead_X2_share
theorem dX2_keepRead_0 : decode cX2_keepRead 0 = .ok (.aload_n 1, 1) := by decide +kernel
theorem dX2_keepRead_1 : decode cX2_keepRead 1 = .ok (.iload_n 2, 1) := by decide +kernel
theorem dX2_keepRead_2 : decode cX2_keepRead 2 = .ok (.iload_n 2, 1) := by decide +kernel
theorem dX2_keepRead_3 : decode cX2_keepRead 3 = .ok (.invokevirtual 53, 3) := by decide +kernel
theorem dX2_keepRead_6 : decode cX2_keepRead 6 = .ok (.istore_n 3, 1) := by decide +kernel
theorem dX2_keepRead_7 : decode cX2_keepRead 7 = .ok (.aload_n 0, 1) := by decide +kernel
theorem dX2_keepRead_8 : decode cX2_keepRead 8 = .ok (.getfield 43, 3) := by decide +kernel
theorem dX2_keepRead_11 : decode cX2_keepRead 11 = .ok (.ifCond .eq 13, 3) := by decide +kernel
theorem dX2_keepRead_14 : decode cX2_keepRead 14 = .ok (.aload_n 0, 1) := by decide +kernel
theorem dX2_keepRead_15 : decode cX2_keepRead 15 = .ok (.getfield 9, 3) := by decide +kernel
theorem dX2_keepRead_18 : decode cX2_keepRead 18 = .ok (.iload_n 2, 1) := by decide +kernel
theorem dX2_keepRead_19 : decode cX2_keepRead 19 = .ok (.iload_n 3, 1) := by decide +kernel
theorem dX2_keepRead_20 : decode cX2_keepRead 20 = .ok (.iastore, 1) := by decide +kernel
theorem dX2_keepRead_21 : decode cX2_keepRead 21 = .ok (.goto 31, 3) := by decide +kernel
theorem dX2_keepRead_24 : decode cX2_keepRead 24 = .ok (.aload_n 0, 1) := by decide +kernel
theorem dX2_keepRead_25 : decode cX2_keepRead 25 = .ok (.aload_n 1, 1) := by decide +kernel
theorem dX2_keepRead_26 : decode cX2_keepRead 26 = .ok (.iload_n 2, 1) := by decide +kernel
theorem dX2_keepRead_27 : decode cX2_keepRead 27 = .ok (.invokevirtual 59, 3) := by decide +kernel
theorem dX2_keepRead_30 : decode cX2_keepRead 30 = .ok (.ifCond .eq 16, 3) := by decide +kernel
theorem dX2_keepRead_33 : decode cX2_keepRead 33 = .ok (.aload_n 0, 1) := by decide +kernel
theorem dX2_keepRead_34 : decode cX2_keepRead 34 = .ok (.iload_n 2, 1) := by decide +kernel
theorem dX2_keepRead_35 : decode cX2_keepRead 35 = .ok (.putfield 37, 3) := by decide +kernel
theorem dX2_keepRead_38 : decode cX2_keepRead 38 = .ok (.aload_n 0, 1) := by decide +kernel
theorem dX2_keepRead_39 : decode cX2_keepRead 39 = .ok (.iload_n 3, 1) := by decide +kernel
theorem dX2_keepRead_40 : decode cX2_keepRead 40 = .ok (.putfield 40, 3) := by decide +kernel
theorem dX2_keepRead_43 : decode cX2_keepRead 43 = .ok (.goto 9, 3) := by decide +kernel
theorem dX2_keepRead_46 : decode cX2_keepRead 46 = .ok (.aload_n 0, 1) := by decide +kernel
theorem dX2_keepRead_47 : decode cX2_keepRead 47 = .ok (.iload_n 2, 1) := by decide +kernel
theorem dX2_keepRead_48 : decode cX2_keepRead 48 = .ok (.iload_n 3, 1) := by decide +kernel
theorem dX2_keepRead_49 : decode cX2_keepRead 49 = .ok (.invokevirtual 71, 3) := by decide +kernel
theorem dX2_keepRead_52 : decode cX2_keepRead 52 = .ok (.return_, 1) := by decide +kernel
theorem dX2_share_0 : decode cX2_share 0 = .ok (.aload_n 0, 1) := by decide +kernel
theorem dX2_share_1 : decode cX2_share 1 = .ok (.getfield 9, 3) := by decide +kernel
theorem dX2_share_4 : decode cX2_share 4 = .ok (.aload_n 0, 1) := by decide +kernel
theorem dX2_share_5 : decode cX2_share 5 = .ok (.getfield 37, 3) := by decide +kernel
theorem dX2_share_8 : decode cX2_share 8 = .ok (.aload_n 0, 1) := by decide +kernel
theorem dX2_share_9 : decode cX2_share 9 = .ok (.getfield 40, 3) := by decide +kernel
theorem dX2_share_12 : decode cX2_share 12 = .ok (.iastore, 1) := by decide +kernel
theorem dX2_share_13 : decode cX2_share 13 = .ok (.aload_n 0, 1) := by decide +kernel
theorem dX2_share_14 : decode cX2_share 14 = .ok (.getfield 9, 3) := by decide +kernel
theorem dX2_share_17 : decode cX2_share 17 = .ok (.iload_n 1, 1) := by decide +kernel
theorem dX2_share_18 : decode cX2_share 18 = .ok (.iload_n 2, 1) := by decide +kernel
theorem dX2_share_19 : decode cX2_share 19 = .ok (.iastore, 1) := by decide +kernel
theorem dX2_share_20 : decode cX2_share 20 = .ok (.aload_n 0, 1) := by decide +kernel
theorem dX2_share_21 : decode cX2_share 21 = .ok (.iconst (-1), 1) := by decide +kernel
theorem dX2_share_22 : decode cX2_share 22 = .ok (.putfield 37, 3) := by decide +kernel
theorem dX2_share_25 : decode cX2_share 25 = .ok (.aload_n 0, 1) := by decide +kernel
theorem dX2_share_26 : decode cX2_share 26 = .ok (.iconst 0, 1) := by decide +kernel
theorem dX2_share_27 : decode cX2_share 27 = .ok (.putfield 40, 3) := by decide +kernel
theorem dX2_share_30 : decode cX2_share 30 = .ok (.aload_n 0, 1) := by decide +kernel
theorem dX2_share_31 : decode cX2_share 31 = .ok (.iconst 1, 1) := by decide +kernel
theorem dX2_share_32 : decode cX2_share 32 = .ok (.putfield 43, 3) := by decide +kernel
theorem dX2_share_35 : decode cX2_share 35 = .ok (.aload_n 0, 1) := by decide +kernel
theorem dX2_share_36 : decode cX2_share 36 = .ok (.dup, 1) := by decide +kernel
theorem dX2_share_37 : decode cX2_share 37 = .ok (.getfield 25, 3) := by decide +kernel
theorem dX2_share_40 : decode cX2_share 40 = .ok (.iconst 1, 1) := by decide +kernel
theorem dX2_share_41 : decode cX2_share 41 = .ok (.iadd, 1) := by decide +kernel
theorem dX2_share_42 : decode cX2_share 42 = .ok (.putfield 25, 3) := by decide +kernel
theorem dX2_share_45 : decode cX2_share 45 = .ok (.return_, 1) := by decide +kernel
set_option maxRecDepth 20000 in
theorem ggX2_forgetReads_J7_fill_53178 : GoodIn wsX2_forgetReads wsJ7_fill_53178 := goodIn_r _ [8] (by decide +kernel) (by decide +kernel)
set_option maxRecDepth 20000 in
theorem gX2_forgetReads_J7_fill_53178 : GoodIn wsX2_forgetReads (va_wsS RX2 75 yJ7_fill_53178 wsJ7_fill_53178) := goodIn_app (goodIn_of _ (by decide +kernel)) ggX2_forgetReads_J7_fill_53178
theorem dX2_forgetReads_0 : decode cX2_forgetReads 0 = .ok (.aload_n 0, 1) := by decide +kernel
theorem dX2_forgetReads_1 : decode cX2_forgetReads 1 = .ok (.iconst (-1), 1) := by decide +kernel
theorem dX2_forgetReads_2 : decode cX2_forgetReads 2 = .ok (.putfield 37, 3) := by decide +kernel
theorem dX2_forgetReads_5 : decode cX2_forgetReads 5 = .ok (.aload_n 0, 1) := by decide +kernel
theorem dX2_forgetReads_6 : decode cX2_forgetReads 6 = .ok (.iconst 0, 1) := by decide +kernel
theorem dX2_forgetReads_7 : decode cX2_forgetReads 7 = .ok (.putfield 40, 3) := by decide +kernel
theorem dX2_forgetReads_10 : decode cX2_forgetReads 10 = .ok (.aload_n 0, 1) := by decide +kernel
theorem dX2_forgetReads_11 : decode cX2_forgetReads 11 = .ok (.iconst 0, 1) := by decide +kernel
theorem dX2_forgetReads_12 : decode cX2_forgetReads 12 = .ok (.putfield 43, 3) := by decide +kernel
theorem dX2_forgetReads_15 : decode cX2_forgetReads 15 = .ok (.aload_n 0, 1) := by decide +kernel
theorem dX2_forgetReads_16 : decode cX2_forgetReads 16 = .ok (.getfield 9, 3) := by decide +kernel
theorem dX2_forgetReads_19 : decode cX2_forgetReads 19 = .ok (.iconst 0, 1) := by decide +kernel
theorem dX2_forgetReads_20 : decode cX2_forgetReads 20 = .ok (.invokestatic 75, 3) := by decide +kernel
theorem dX2_forgetReads_23 : decode cX2_forgetReads 23 = .ok (.return_, 1) := by decide +kernel
set_option maxRecDepth 20000 in
theorem ggX3_init_X1_init : GoodIn wsX3_init wsX1_init := goodIn_r _ [17, 18, 2, 3, 19, 20, 21, 22, 23, 4, 24, 33, 34] (by decide +kernel) (by decide +kernel)
set_option maxRecDepth 20000 in
theorem gX3_init_X1_init : GoodIn wsX3_init (wsX1_init) := ggX3_init_X1_init
theorem dX3_init_0 : decode cX3_init 0 = .ok (.aload_n 0, 1) := by decide +kernel
theorem dX3_init_1 : decode cX3_init 1 = .ok (.invokespecial 3, 3) := by decide +kernel
theorem dX3_init_4 : decode cX3_init 4 = .ok (.aload_n 0, 1) := by decide +kernel
theorem dX3_init_5 : decode cX3_init 5 = .ok (.sipush 160, 3) := by decide +kernel
theorem dX3_init_8 : decode cX3_init 8 = .ok (.newarray .int, 2) := by decide +kernel
theorem dX3_init_10 : decode cX3_init 10 = .ok (.putfield 9, 3) := by decide +kernel
theorem dX3_init_13 : decode cX3_init 13 = .ok (.aload_n 0, 1) := by decide +kernel
theorem dX3_init_14 : decode cX3_init 14 = .ok (.sipush 160, 3) := by decide +kernel
theorem dX3_init_17 : decode cX3_init 17 = .ok (.newarray .int, 2) := by decide +kernel
theorem dX3_init_19 : decode cX3_init 19 = .ok (.putfield 15, 3) := by decide +kernel
theorem dX3_init_22 : decode cX3_init 22 = .ok (.aload_n 0, 1) := by decide +kernel
theorem dX3_init_23 : decode cX3_init 23 = .ok (.sipush 160, 3) := by decide +kernel
theorem dX3_init_26 : decode cX3_init 26 = .ok (.newarray .int, 2) := by decide +kernel
theorem dX3_init_28 : decode cX3_init 28 = .ok (.putfield 18, 3) := by decide +kernel
theorem dX3_init_31 : decode cX3_init 31 = .ok (.aload_n 0, 1) := by decide +kernel
theorem dX3_init_32 : decode cX3_init 32 = .ok (.sipush 160, 3) := by decide +kernel
theorem dX3_init_35 : decode cX3_init 35 = .ok (.newarray .int, 2) := by decide +kernel
theorem dX3_init_37 : decode cX3_init 37 = .ok (.putfield 21, 3) := by decide +kernel
theorem dX3_init_40 : decode cX3_init 40 = .ok (.aload_n 0, 1) := by decide +kernel
theorem dX3_init_41 : decode cX3_init 41 = .ok (.new 24, 3) := by decide +kernel
theorem dX3_init_44 : decode cX3_init 44 = .ok (.dup, 1) := by decide +kernel
theorem dX3_init_45 : decode cX3_init 45 = .ok (.sipush 160, 3) := by decide +kernel
theorem dX3_init_48 : decode cX3_init 48 = .ok (.invokespecial 26, 3) := by decide +kernel
theorem dX3_init_51 : decode cX3_init 51 = .ok (.putfield 29, 3) := by decide +kernel
theorem dX3_init_54 : decode cX3_init 54 = .ok (.aload_n 0, 1) := by decide +kernel
theorem dX3_init_55 : decode cX3_init 55 = .ok (.sipush 160, 3) := by decide +kernel
theorem dX3_init_58 : decode cX3_init 58 = .ok (.newarray .int, 2) := by decide +kernel
theorem dX3_init_60 : decode cX3_init 60 = .ok (.putfield 33, 3) := by decide +kernel
theorem dX3_init_63 : decode cX3_init 63 = .ok (.aload_n 0, 1) := by decide +kernel
theorem dX3_init_64 : decode cX3_init 64 = .ok (.bipush 12, 2) := by decide +kernel
theorem dX3_init_66 : decode cX3_init 66 = .ok (.newarray .int, 2) := by decide +kernel
theorem dX3_init_68 : decode cX3_init 68 = .ok (.putfield 36, 3) := by decide +kernel
theorem dX3_init_71 : decode cX3_init 71 = .ok (.return_, 1) := by decide +kernel
set_option maxRecDepth 20000 in
theorem ggX3_begin_J7_fill_53178 : GoodIn wsX3_begin wsJ7_fill_53178 := goodIn_r _ [6] (by decide +kernel) (by decide +kernel)
set_option maxRecDepth 20000 in
theorem gX3_begin_J7_fill_53178 : GoodIn wsX3_begin (va_wsS RX3 43 yJ7_fill_53178 wsJ7_fill_53178) := goodIn_app (goodIn_of _ (by decide +kernel)) ggX3_begin_J7_fill_53178
theorem dX3_begin_0 : decode cX3_begin 0 = .ok (.aload_n 0, 1) := by decide +kernel
theorem dX3_begin_1 : decode cX3_begin 1 = .ok (.iconst 0, 1) := by decide +kernel
theorem dX3_begin_2 : decode cX3_begin 2 = .ok (.putfield 39, 3) := by decide +kernel
theorem dX3_begin_5 : decode cX3_begin 5 = .ok (.aload_n 0, 1) := by decide +kernel
theorem dX3_begin_6 : decode cX3_begin 6 = .ok (.getfield 36, 3) := by decide +kernel
theorem dX3_begin_9 : decode cX3_begin 9 = .ok (.iconst 0, 1) := by decide +kernel
theorem dX3_begin_10 : decode cX3_begin 10 = .ok (.invokestatic 43, 3) := by decide +kernel
theorem dX3_begin_13 : decode cX3_begin 13 = .ok (.return_, 1) := by decide +kernel
set_option maxRecDepth 20000 in
theorem ggX3_copy_X1_copyRows : GoodIn wsX3_copy wsX1_copyRows := goodIn_r _ [17, 18, 19, 4, 5, 6, 28, 29] (by decide +kernel) (by decide +kernel)
set_option maxRecDepth 20000 in
theorem gX3_copy_X1_copyRows : GoodIn wsX3_copy (wsV RX3 55 RX1 yX1_copyRows wsX1_copyRows) := goodIn_app (goodIn_of _ (by decide +kernel)) ggX3_copy_X1_copyRows
theorem dX3_copy_0 : decode cX3_copy 0 = .ok (.aload_n 0, 1) := by decide +kernel
theorem dX3_copy_1 : decode cX3_copy 1 = .ok (.aload_n 1, 1) := by decide +kernel
theorem dX3_copy_2 : decode cX3_copy 2 = .ok (.getfield 39, 3) := by decide +kernel
theorem dX3_copy_5 : decode cX3_copy 5 = .ok (.putfield 39, 3) := by decide +kernel
theorem dX3_copy_8 : decode cX3_copy 8 = .ok (.aload_n 1, 1) := by decide +kernel
theorem dX3_copy_9 : decode cX3_copy 9 = .ok (.getfield 9, 3) := by decide +kernel
theorem dX3_copy_12 : decode cX3_copy 12 = .ok (.iconst 0, 1) := by decide +kernel
theorem dX3_copy_13 : decode cX3_copy 13 = .ok (.aload_n 0, 1) := by decide +kernel
theorem dX3_copy_14 : decode cX3_copy 14 = .ok (.getfield 9, 3) := by decide +kernel
theorem dX3_copy_17 : decode cX3_copy 17 = .ok (.iconst 0, 1) := by decide +kernel
theorem dX3_copy_18 : decode cX3_copy 18 = .ok (.aload_n 0, 1) := by decide +kernel
theorem dX3_copy_19 : decode cX3_copy 19 = .ok (.getfield 39, 3) := by decide +kernel
theorem dX3_copy_22 : decode cX3_copy 22 = .ok (.invokestatic 49, 3) := by decide +kernel
theorem dX3_copy_25 : decode cX3_copy 25 = .ok (.aload_n 1, 1) := by decide +kernel
theorem dX3_copy_26 : decode cX3_copy 26 = .ok (.getfield 15, 3) := by decide +kernel
theorem dX3_copy_29 : decode cX3_copy 29 = .ok (.iconst 0, 1) := by decide +kernel
theorem dX3_copy_30 : decode cX3_copy 30 = .ok (.aload_n 0, 1) := by decide +kernel
theorem dX3_copy_31 : decode cX3_copy 31 = .ok (.getfield 15, 3) := by decide +kernel
theorem dX3_copy_34 : decode cX3_copy 34 = .ok (.iconst 0, 1) := by decide +kernel
theorem dX3_copy_35 : decode cX3_copy 35 = .ok (.aload_n 0, 1) := by decide +kernel
theorem dX3_copy_36 : decode cX3_copy 36 = .ok (.getfield 39, 3) := by decide +kernel
theorem dX3_copy_39 : decode cX3_copy 39 = .ok (.invokestatic 49, 3) := by decide +kernel
theorem dX3_copy_42 : decode cX3_copy 42 = .ok (.aload_n 1, 1) := by decide +kernel
theorem dX3_copy_43 : decode cX3_copy 43 = .ok (.getfield 18, 3) := by decide +kernel
theorem dX3_copy_46 : decode cX3_copy 46 = .ok (.iconst 0, 1) := by decide +kernel
theorem dX3_copy_47 : decode cX3_copy 47 = .ok (.aload_n 0, 1) := by decide +kernel
theorem dX3_copy_48 : decode cX3_copy 48 = .ok (.getfield 18, 3) := by decide +kernel
theorem dX3_copy_51 : decode cX3_copy 51 = .ok (.iconst 0, 1) := by decide +kernel
theorem dX3_copy_52 : decode cX3_copy 52 = .ok (.aload_n 0, 1) := by decide +kernel
theorem dX3_copy_53 : decode cX3_copy 53 = .ok (.getfield 39, 3) := by decide +kernel
theorem dX3_copy_56 : decode cX3_copy 56 = .ok (.invokestatic 49, 3) := by decide +kernel
theorem dX3_copy_59 : decode cX3_copy 59 = .ok (.aload_n 1, 1) := by decide +kernel
theorem dX3_copy_60 : decode cX3_copy 60 = .ok (.getfield 21, 3) := by decide +kernel
theorem dX3_copy_63 : decode cX3_copy 63 = .ok (.iconst 0, 1) := by decide +kernel
theorem dX3_copy_64 : decode cX3_copy 64 = .ok (.aload_n 0, 1) := by decide +kernel
theorem dX3_copy_65 : decode cX3_copy 65 = .ok (.getfield 21, 3) := by decide +kernel
theorem dX3_copy_68 : decode cX3_copy 68 = .ok (.iconst 0, 1) := by decide +kernel
theorem dX3_copy_69 : decode cX3_copy 69 = .ok (.aload_n 0, 1) := by decide +kernel
theorem dX3_copy_70 : decode cX3_copy 70 = .ok (.getfield 39, 3) := by decide +kernel
theorem dX3_copy_73 : decode cX3_copy 73 = .ok (.invokestatic 49, 3) := by decide +kernel
theorem dX3_copy_76 : decode cX3_copy 76 = .ok (.aload_n 0, 1) := by decide +kernel
theorem dX3_copy_77 : decode cX3_copy 77 = .ok (.getfield 29, 3) := by decide +kernel
theorem dX3_copy_80 : decode cX3_copy 80 = .ok (.aload_n 1, 1) := by decide +kernel
theorem dX3_copy_81 : decode cX3_copy 81 = .ok (.getfield 29, 3) := by decide +kernel
theorem dX3_copy_84 : decode cX3_copy 84 = .ok (.aload_n 0, 1) := by decide +kernel
theorem dX3_copy_85 : decode cX3_copy 85 = .ok (.getfield 39, 3) := by decide +kernel
theorem dX3_copy_88 : decode cX3_copy 88 = .ok (.invokevirtual 55, 3) := by decide +kernel
theorem dX3_copy_91 : decode cX3_copy 91 = .ok (.aload_n 1, 1) := by decide +kernel
theorem dX3_copy_92 : decode cX3_copy 92 = .ok (.getfield 33, 3) := by decide +kernel
theorem dX3_copy_95 : decode cX3_copy 95 = .ok (.iconst 0, 1) := by decide +kernel
theorem dX3_copy_96 : decode cX3_copy 96 = .ok (.aload_n 0, 1) := by decide +kernel
theorem dX3_copy_97 : decode cX3_copy 97 = .ok (.getfield 33, 3) := by decide +kernel
theorem dX3_copy_100 : decode cX3_copy 100 = .ok (.iconst 0, 1) := by decide +kernel
theorem dX3_copy_101 : decode cX3_copy 101 = .ok (.aload_n 0, 1) := by decide +kernel
theorem dX3_copy_102 : decode cX3_copy 102 = .ok (.getfield 39, 3) := by decide +kernel
theorem dX3_copy_105 : decode cX3_copy 105 = .ok (.invokestatic 49, 3) := by decide +kernel
theorem dX3_copy_108 : decode cX3_copy 108 = .ok (.aload_n 1, 1) := by decide +kernel
theorem dX3_copy_109 : decode cX3_copy 109 = .ok (.getfield 36, 3) := by decide +kernel
theorem dX3_copy_112 : decode cX3_copy 112 = .ok (.iconst 0, 1) := by decide +kernel
theorem dX3_copy_113 : decode cX3_copy 113 = .ok (.aload_n 0, 1) := by decide +kernel
theorem dX3_copy_114 : decode cX3_copy 114 = .ok (.getfield 36, 3) := by decide +kernel
theorem dX3_copy_117 : decode cX3_copy 117 = .ok (.iconst 0, 1) := by decide +kernel
theorem dX3_copy_118 : decode cX3_copy 118 = .ok (.bipush 12, 2) := by decide +kernel
theorem dX3_copy_120 : decode cX3_copy 120 = .ok (.invokestatic 49, 3) := by decide +kernel
theorem dX3_copy_123 : decode cX3_copy 123 = .ok (.return_, 1) := by decide +kernel
theorem dX3_hasRoom_0 : decode cX3_hasRoom 0 = .ok (.aload_n 0, 1) := by decide +kernel
theorem dX3_hasRoom_1 : decode cX3_hasRoom 1 = .ok (.getfield 39, 3) := by decide +kernel
theorem dX3_hasRoom_4 : decode cX3_hasRoom 4 = .ok (.iload_n 1, 1) := by decide +kernel
theorem dX3_hasRoom_5 : decode cX3_hasRoom 5 = .ok (.iadd, 1) := by decide +kernel
theorem dX3_hasRoom_6 : decode cX3_hasRoom 6 = .ok (.sipush 160, 3) := by decide +kernel
theorem dX3_hasRoom_9 : decode cX3_hasRoom 9 = .ok (.if_icmp .gt 7, 3) := by decide +kernel
theorem dX3_hasRoom_12 : decode cX3_hasRoom 12 = .ok (.iconst 1, 1) := by decide +kernel
theorem dX3_hasRoom_13 : decode cX3_hasRoom 13 = .ok (.goto 4, 3) := by decide +kernel
theorem dX3_hasRoom_16 : decode cX3_hasRoom 16 = .ok (.iconst 0, 1) := by decide +kernel
theorem dX3_hasRoom_17 : decode cX3_hasRoom 17 = .ok (.ireturn, 1) := by decide +kernel
set_option maxRecDepth 20000 in
theorem ggX3_append_X1_copyRow : GoodIn wsX3_append wsX1_copyRow := goodIn_r _ [11, 12, 13, 14, 15, 16, 25, 26] (by decide +kernel) (by decide +kernel)
set_option maxRecDepth 20000 in
theorem gX3_append_X1_copyRow : GoodIn wsX3_append (wsV RX3 59 RX1 yX1_copyRow wsX1_copyRow) := goodIn_app (goodIn_of _ (by decide +kernel)) ggX3_append_X1_copyRow
theorem dX3_append_0 : decode cX3_append 0 = .ok (.aload_n 0, 1) := by decide +kernel
theorem dX3_append_1 : decode cX3_append 1 = .ok (.getfield 39, 3) := by decide +kernel
theorem dX3_append_4 : decode cX3_append 4 = .ok (.istore 6, 2) := by decide +kernel
theorem dX3_append_6 : decode cX3_append 6 = .ok (.aload_n 0, 1) := by decide +kernel
theorem dX3_append_7 : decode cX3_append 7 = .ok (.getfield 9, 3) := by decide +kernel
theorem dX3_append_10 : decode cX3_append 10 = .ok (.iload 6, 2) := by decide +kernel
theorem dX3_append_12 : decode cX3_append 12 = .ok (.iload_n 1, 1) := by decide +kernel
theorem dX3_append_13 : decode cX3_append 13 = .ok (.iastore, 1) := by decide +kernel
theorem dX3_append_14 : decode cX3_append 14 = .ok (.aload_n 0, 1) := by decide +kernel
theorem dX3_append_15 : decode cX3_append 15 = .ok (.getfield 15, 3) := by decide +kernel
theorem dX3_append_18 : decode cX3_append 18 = .ok (.iload 6, 2) := by decide +kernel
theorem dX3_append_20 : decode cX3_append 20 = .ok (.iload_n 2, 1) := by decide +kernel
theorem dX3_append_21 : decode cX3_append 21 = .ok (.iastore, 1) := by decide +kernel
theorem dX3_append_22 : decode cX3_append 22 = .ok (.aload_n 0, 1) := by decide +kernel
theorem dX3_append_23 : decode cX3_append 23 = .ok (.getfield 18, 3) := by decide +kernel
theorem dX3_append_26 : decode cX3_append 26 = .ok (.iload 6, 2) := by decide +kernel
theorem dX3_append_28 : decode cX3_append 28 = .ok (.iload_n 3, 1) := by decide +kernel
theorem dX3_append_29 : decode cX3_append 29 = .ok (.iastore, 1) := by decide +kernel
theorem dX3_append_30 : decode cX3_append 30 = .ok (.aload_n 0, 1) := by decide +kernel
theorem dX3_append_31 : decode cX3_append 31 = .ok (.getfield 21, 3) := by decide +kernel
theorem dX3_append_34 : decode cX3_append 34 = .ok (.iload 6, 2) := by decide +kernel
theorem dX3_append_36 : decode cX3_append 36 = .ok (.iload 4, 2) := by decide +kernel
theorem dX3_append_38 : decode cX3_append 38 = .ok (.iastore, 1) := by decide +kernel
theorem dX3_append_39 : decode cX3_append 39 = .ok (.aload_n 0, 1) := by decide +kernel
theorem dX3_append_40 : decode cX3_append 40 = .ok (.getfield 29, 3) := by decide +kernel
theorem dX3_append_43 : decode cX3_append 43 = .ok (.iload 6, 2) := by decide +kernel
theorem dX3_append_45 : decode cX3_append 45 = .ok (.aload 5, 2) := by decide +kernel
theorem dX3_append_47 : decode cX3_append 47 = .ok (.iload_n 1, 1) := by decide +kernel
theorem dX3_append_48 : decode cX3_append 48 = .ok (.invokevirtual 59, 3) := by decide +kernel
theorem dX3_append_51 : decode cX3_append 51 = .ok (.aload_n 0, 1) := by decide +kernel
theorem dX3_append_52 : decode cX3_append 52 = .ok (.dup, 1) := by decide +kernel
theorem dX3_append_53 : decode cX3_append 53 = .ok (.getfield 39, 3) := by decide +kernel
theorem dX3_append_56 : decode cX3_append 56 = .ok (.iconst 1, 1) := by decide +kernel
theorem dX3_append_57 : decode cX3_append 57 = .ok (.iadd, 1) := by decide +kernel
theorem dX3_append_58 : decode cX3_append 58 = .ok (.putfield 39, 3) := by decide +kernel
theorem dX3_append_61 : decode cX3_append 61 = .ok (.iload 6, 2) := by decide +kernel
theorem dX3_append_63 : decode cX3_append 63 = .ok (.ireturn, 1) := by decide +kernel
set_option maxRecDepth 20000 in
theorem ggX3_isAhead_X1_number : GoodIn wsX3_isAhead wsX1_number := goodIn_r _ [7, 8, 17, 18] (by decide +kernel) (by decide +kernel)
set_option maxRecDepth 20000 in
theorem gX3_isAhead_X1_number : GoodIn wsX3_isAhead (wsV RX3 63 RX1 yX1_number wsX1_number) := goodIn_app (goodIn_of _ (by decide +kernel)) ggX3_isAhead_X1_number
theorem dX3_isAhead_0 : decode cX3_isAhead 0 = .ok (.aload_n 0, 1) := by decide +kernel
theorem dX3_isAhead_1 : decode cX3_isAhead 1 = .ok (.getfield 9, 3) := by decide +kernel
theorem dX3_isAhead_4 : decode cX3_isAhead 4 = .ok (.iload_n 1, 1) := by decide +kernel
theorem dX3_isAhead_5 : decode cX3_isAhead 5 = .ok (.iaload, 1) := by decide +kernel
theorem dX3_isAhead_6 : decode cX3_isAhead 6 = .ok (.istore_n 3, 1) := by decide +kernel
theorem dX3_isAhead_7 : decode cX3_isAhead 7 = .ok (.iload_n 1, 1) := by decide +kernel
theorem dX3_isAhead_8 : decode cX3_isAhead 8 = .ok (.iload_n 2, 1) := by decide +kernel
theorem dX3_isAhead_9 : decode cX3_isAhead 9 = .ok (.if_icmp .ge 28, 3) := by decide +kernel
theorem dX3_isAhead_12 : decode cX3_isAhead 12 = .ok (.aload_n 0, 1) := by decide +kernel
theorem dX3_isAhead_13 : decode cX3_isAhead 13 = .ok (.getfield 29, 3) := by decide +kernel
theorem dX3_isAhead_16 : decode cX3_isAhead 16 = .ok (.iload_n 2, 1) := by decide +kernel
theorem dX3_isAhead_17 : decode cX3_isAhead 17 = .ok (.iload_n 3, 1) := by decide +kernel
theorem dX3_isAhead_18 : decode cX3_isAhead 18 = .ok (.invokevirtual 63, 3) := by decide +kernel
theorem dX3_isAhead_21 : decode cX3_isAhead 21 = .ok (.aload_n 0, 1) := by decide +kernel
theorem dX3_isAhead_22 : decode cX3_isAhead 22 = .ok (.getfield 29, 3) := by decide +kernel
theorem dX3_isAhead_25 : decode cX3_isAhead 25 = .ok (.iload_n 1, 1) := by decide +kernel
theorem dX3_isAhead_26 : decode cX3_isAhead 26 = .ok (.iload_n 3, 1) := by decide +kernel
theorem dX3_isAhead_27 : decode cX3_isAhead 27 = .ok (.invokevirtual 63, 3) := by decide +kernel
theorem dX3_isAhead_30 : decode cX3_isAhead 30 = .ok (.if_icmp .lt 7, 3) := by decide +kernel
theorem dX3_isAhead_33 : decode cX3_isAhead 33 = .ok (.iconst 1, 1) := by decide +kernel
theorem dX3_isAhead_34 : decode cX3_isAhead 34 = .ok (.goto 4, 3) := by decide +kernel
theorem dX3_isAhead_37 : decode cX3_isAhead 37 = .ok (.iconst 0, 1) := by decide +kernel
theorem dX3_isAhead_38 : decode cX3_isAhead 38 = .ok (.ireturn, 1) := by decide +kernel
theorem dX3_racesOfCell_0 : decode cX3_racesOfCell 0 = .ok (.iconst 0, 1) := by decide +kernel
theorem dX3_racesOfCell_1 : decode cX3_racesOfCell 1 = .ok (.istore_n 2, 1) := by decide +kernel
theorem dX3_racesOfCell_2 : decode cX3_racesOfCell 2 = .ok (.iconst 0, 1) := by decide +kernel
theorem dX3_racesOfCell_3 : decode cX3_racesOfCell 3 = .ok (.istore_n 3, 1) := by decide +kernel
theorem dX3_racesOfCell_4 : decode cX3_racesOfCell 4 = .ok (.iload_n 3, 1) := by decide +kernel
theorem dX3_racesOfCell_5 : decode cX3_racesOfCell 5 = .ok (.iconst 3, 1) := by decide +kernel
theorem dX3_racesOfCell_6 : decode cX3_racesOfCell 6 = .ok (.if_icmp .ge 22, 3) := by decide +kernel
theorem dX3_racesOfCell_9 : decode cX3_racesOfCell 9 = .ok (.iload_n 2, 1) := by decide +kernel
theorem dX3_racesOfCell_10 : decode cX3_racesOfCell 10 = .ok (.aload_n 0, 1) := by decide +kernel
theorem dX3_racesOfCell_11 : decode cX3_racesOfCell 11 = .ok (.getfield 36, 3) := by decide +kernel
theorem dX3_racesOfCell_14 : decode cX3_racesOfCell 14 = .ok (.iload_n 1, 1) := by decide +kernel
theorem dX3_racesOfCell_15 : decode cX3_racesOfCell 15 = .ok (.iconst 3, 1) := by decide +kernel
theorem dX3_racesOfCell_16 : decode cX3_racesOfCell 16 = .ok (.imul, 1) := by decide +kernel
theorem dX3_racesOfCell_17 : decode cX3_racesOfCell 17 = .ok (.iload_n 3, 1) := by decide +kernel
theorem dX3_racesOfCell_18 : decode cX3_racesOfCell 18 = .ok (.iadd, 1) := by decide +kernel
theorem dX3_racesOfCell_19 : decode cX3_racesOfCell 19 = .ok (.iaload, 1) := by decide +kernel
theorem dX3_racesOfCell_20 : decode cX3_racesOfCell 20 = .ok (.iadd, 1) := by decide +kernel
theorem dX3_racesOfCell_21 : decode cX3_racesOfCell 21 = .ok (.istore_n 2, 1) := by decide +kernel
theorem dX3_racesOfCell_22 : decode cX3_racesOfCell 22 = .ok (.iinc 3 1, 3) := by decide +kernel
theorem dX3_racesOfCell_25 : decode cX3_racesOfCell 25 = .ok (.goto (-21), 3) := by decide +kernel
theorem dX3_racesOfCell_28 : decode cX3_racesOfCell 28 = .ok (.iload_n 2, 1) := by decide +kernel
theorem dX3_racesOfCell_29 : decode cX3_racesOfCell 29 = .ok (.ireturn, 1) := by decide +kernel
set_option maxRecDepth 20000 in
theorem ggX3_racesOfAll_X3_racesOfCell : GoodIn wsX3_racesOfAll wsX3_racesOfCell := goodIn_r _ [5, 6, 7, 8, 9, 10, 11, 12, 13, 14] (by decide +kernel) (by decide +kernel)
set_option maxRecDepth 20000 in
theorem gX3_racesOfAll_X3_racesOfCell : GoodIn wsX3_racesOfAll (wsV RX3 67 RX3 yX3_racesOfCell wsX3_racesOfCell) := goodIn_app (goodIn_of _ (by decide +kernel)) ggX3_racesOfAll_X3_racesOfCell
theorem dX3_racesOfAll_0 : decode cX3_racesOfAll 0 = .ok (.iconst 0, 1) := by decide +kernel
theorem dX3_racesOfAll_1 : decode cX3_racesOfAll 1 = .ok (.istore_n 1, 1) := by decide +kernel
theorem dX3_racesOfAll_2 : decode cX3_racesOfAll 2 = .ok (.iconst 0, 1) := by decide +kernel
theorem dX3_racesOfAll_3 : decode cX3_racesOfAll 3 = .ok (.istore_n 2, 1) := by decide +kernel
theorem dX3_racesOfAll_4 : decode cX3_racesOfAll 4 = .ok (.iload_n 2, 1) := by decide +kernel
theorem dX3_racesOfAll_5 : decode cX3_racesOfAll 5 = .ok (.iconst 4, 1) := by decide +kernel
theorem dX3_racesOfAll_6 : decode cX3_racesOfAll 6 = .ok (.if_icmp .ge 17, 3) := by decide +kernel
theorem dX3_racesOfAll_9 : decode cX3_racesOfAll 9 = .ok (.iload_n 1, 1) := by decide +kernel
theorem dX3_racesOfAll_10 : decode cX3_racesOfAll 10 = .ok (.aload_n 0, 1) := by decide +kernel
theorem dX3_racesOfAll_11 : decode cX3_racesOfAll 11 = .ok (.iload_n 2, 1) := by decide +kernel
theorem dX3_racesOfAll_12 : decode cX3_racesOfAll 12 = .ok (.invokevirtual 67, 3) := by decide +kernel
theorem dX3_racesOfAll_15 : decode cX3_racesOfAll 15 = .ok (.iadd, 1) := by decide +kernel
theorem dX3_racesOfAll_16 : decode cX3_racesOfAll 16 = .ok (.istore_n 1, 1) := by decide +kernel
theorem dX3_racesOfAll_17 : decode cX3_racesOfAll 17 = .ok (.iinc 2 1, 3) := by decide +kernel
theorem dX3_racesOfAll_20 : decode cX3_racesOfAll 20 = .ok (.goto (-16), 3) := by decide +kernel
theorem dX3_racesOfAll_23 : decode cX3_racesOfAll 23 = .ok (.iload_n 1, 1) := by decide +kernel
theorem dX3_racesOfAll_24 : decode cX3_racesOfAll 24 = .ok (.ireturn, 1) := by decide +kernel
set_option maxRecDepth 20000 in
theorem ggX3_cellsWithRace_X3_racesOfCell : GoodIn wsX3_cellsWithRace wsX3_racesOfCell := goodIn_r _ [5, 6, 7, 8, 9, 10, 11, 12, 13, 14] (by decide +kernel) (by decide +kernel)
set_option maxRecDepth 20000 in
theorem gX3_cellsWithRace_X3_racesOfCell : GoodIn wsX3_cellsWithRace (wsV RX3 67 RX3 yX3_racesOfCell wsX3_racesOfCell) := goodIn_app (goodIn_of _ (by decide +kernel)) ggX3_cellsWithRace_X3_racesOfCell
theorem dX3_cellsWithRace_0 : decode cX3_cellsWithRace 0 = .ok (.iconst 0, 1) := by decide +kernel
theorem dX3_cellsWithRace_1 : decode cX3_cellsWithRace 1 = .ok (.istore_n 1, 1) := by decide +kernel
theorem dX3_cellsWithRace_2 : decode cX3_cellsWithRace 2 = .ok (.iconst 0, 1) := by decide +kernel
theorem dX3_cellsWithRace_3 : decode cX3_cellsWithRace 3 = .ok (.istore_n 2, 1) := by decide +kernel
theorem dX3_cellsWithRace_4 : decode cX3_cellsWithRace 4 = .ok (.iload_n 2, 1) := by decide +kernel
theorem dX3_cellsWithRace_5 : decode cX3_cellsWithRace 5 = .ok (.iconst 4, 1) := by decide +kernel
theorem dX3_cellsWithRace_6 : decode cX3_cellsWithRace 6 = .ok (.if_icmp .ge 23, 3) := by decide +kernel
theorem dX3_cellsWithRace_9 : decode cX3_cellsWithRace 9 = .ok (.aload_n 0, 1) := by decide +kernel
theorem dX3_cellsWithRace_10 : decode cX3_cellsWithRace 10 = .ok (.iload_n 2, 1) := by decide +kernel
theorem dX3_cellsWithRace_11 : decode cX3_cellsWithRace 11 = .ok (.invokevirtual 67, 3) := by decide +kernel
theorem dX3_cellsWithRace_14 : decode cX3_cellsWithRace 14 = .ok (.ifCond .le 9, 3) := by decide +kernel
theorem dX3_cellsWithRace_17 : decode cX3_cellsWithRace 17 = .ok (.iload_n 1, 1) := by decide +kernel
theorem dX3_cellsWithRace_18 : decode cX3_cellsWithRace 18 = .ok (.iconst 1, 1) := by decide +kernel
theorem dX3_cellsWithRace_19 : decode cX3_cellsWithRace 19 = .ok (.iload_n 2, 1) := by decide +kernel
theorem dX3_cellsWithRace_20 : decode cX3_cellsWithRace 20 = .ok (.ishl, 1) := by decide +kernel
theorem dX3_cellsWithRace_21 : decode cX3_cellsWithRace 21 = .ok (.ior, 1) := by decide +kernel
theorem dX3_cellsWithRace_22 : decode cX3_cellsWithRace 22 = .ok (.istore_n 1, 1) := by decide +kernel
theorem dX3_cellsWithRace_23 : decode cX3_cellsWithRace 23 = .ok (.iinc 2 1, 3) := by decide +kernel
theorem dX3_cellsWithRace_26 : decode cX3_cellsWithRace 26 = .ok (.goto (-22), 3) := by decide +kernel
theorem dX3_cellsWithRace_29 : decode cX3_cellsWithRace 29 = .ok (.iload_n 1, 1) := by decide +kernel
theorem dX3_cellsWithRace_30 : decode cX3_cellsWithRace 30 = .ok (.ireturn, 1) := by decide +kernel
set_option maxRecDepth 20000 in
theorem ggX3_partOfRace_X3_isAccess : GoodIn wsX3_partOfRace wsX3_isAccess := goodIn_r _ [8, 9, 30, 31, 32, 33, 34, 35, 36, 37] (by decide +kernel) (by decide +kernel)
set_option maxRecDepth 20000 in
theorem gX3_partOfRace_X3_isAccess : GoodIn wsX3_partOfRace (wsV RX3 71 RX3 yX3_isAccess wsX3_isAccess) := goodIn_app (goodIn_of _ (by decide +kernel)) ggX3_partOfRace_X3_isAccess
set_option maxRecDepth 20000 in
theorem ggX3_partOfRace_X3_earlierOf : GoodIn wsX3_partOfRace wsX3_earlierOf := goodIn_r _ [13, 14, 15, 16, 7, 17, 2, 18, 9, 4, 5, 6, 8, 19, 20, 21, 22, 23, 24, 25, 26, 27, 28, 29, 30, 31, 32, 33, 34, 35, 36, 37, 38, 39] (by decide +kernel) (by decide +kernel)
set_option maxRecDepth 20000 in
theorem gX3_partOfRace_X3_earlierOf : GoodIn wsX3_partOfRace (wsV RX3 75 RX3 yX3_earlierOf wsX3_earlierOf) := goodIn_app (goodIn_of _ (by decide +kernel)) ggX3_partOfRace_X3_earlierOf
set_option maxRecDepth 20000 in
theorem ggX3_partOfRace_X3_kindOfPair : GoodIn wsX3_partOfRace wsX3_kindOfPair := goodIn_r _ [17, 2, 18, 9, 4, 5, 6, 7, 8, 19, 20, 21, 22, 23, 24, 25, 26, 27, 28, 29, 30, 31, 32, 33, 34, 35, 36, 37, 38, 39] (by decide +kernel) (by decide +kernel)
set_option maxRecDepth 20000 in
theorem gX3_partOfRace_X3_kindOfPair : GoodIn wsX3_partOfRace (wsV RX3 78 RX3 yX3_kindOfPair wsX3_kindOfPair) := goodIn_app (goodIn_of _ (by decide +kernel)) ggX3_partOfRace_X3_kindOfPair
theorem dX3_partOfRace_0 : decode cX3_partOfRace 0 = .ok (.iload_n 2, 1) := by decide +kernel
theorem dX3_partOfRace_1 : decode cX3_partOfRace 1 = .ok (.istore 4, 2) := by decide +kernel
theorem dX3_partOfRace_3 : decode cX3_partOfRace 3 = .ok (.iconst 0, 1) := by decide +kernel
theorem dX3_partOfRace_4 : decode cX3_partOfRace 4 = .ok (.istore 5, 2) := by decide +kernel
theorem dX3_partOfRace_6 : decode cX3_partOfRace 6 = .ok (.iload 5, 2) := by decide +kernel
theorem dX3_partOfRace_8 : decode cX3_partOfRace 8 = .ok (.aload_n 0, 1) := by decide +kernel
theorem dX3_partOfRace_9 : decode cX3_partOfRace 9 = .ok (.getfield 39, 3) := by decide +kernel
theorem dX3_partOfRace_12 : decode cX3_partOfRace 12 = .ok (.if_icmp .ge 91, 3) := by decide +kernel
theorem dX3_partOfRace_15 : decode cX3_partOfRace 15 = .ok (.aload_n 0, 1) := by decide +kernel
theorem dX3_partOfRace_16 : decode cX3_partOfRace 16 = .ok (.iload 5, 2) := by decide +kernel
theorem dX3_partOfRace_18 : decode cX3_partOfRace 18 = .ok (.invokevirtual 71, 3) := by decide +kernel
theorem dX3_partOfRace_21 : decode cX3_partOfRace 21 = .ok (.ifCond .eq 76, 3) := by decide +kernel
theorem dX3_partOfRace_24 : decode cX3_partOfRace 24 = .ok (.aload_n 0, 1) := by decide +kernel
theorem dX3_partOfRace_25 : decode cX3_partOfRace 25 = .ok (.getfield 18, 3) := by decide +kernel
theorem dX3_partOfRace_28 : decode cX3_partOfRace 28 = .ok (.iload 5, 2) := by decide +kernel
theorem dX3_partOfRace_30 : decode cX3_partOfRace 30 = .ok (.iaload, 1) := by decide +kernel
theorem dX3_partOfRace_31 : decode cX3_partOfRace 31 = .ok (.iload_n 1, 1) := by decide +kernel
theorem dX3_partOfRace_32 : decode cX3_partOfRace 32 = .ok (.if_icmp .ne 65, 3) := by decide +kernel
theorem dX3_partOfRace_35 : decode cX3_partOfRace 35 = .ok (.iload 4, 2) := by decide +kernel
theorem dX3_partOfRace_37 : decode cX3_partOfRace 37 = .ok (.aload_n 0, 1) := by decide +kernel
theorem dX3_partOfRace_38 : decode cX3_partOfRace 38 = .ok (.getfield 33, 3) := by decide +kernel
theorem dX3_partOfRace_41 : decode cX3_partOfRace 41 = .ok (.iload 5, 2) := by decide +kernel
theorem dX3_partOfRace_43 : decode cX3_partOfRace 43 = .ok (.iaload, 1) := by decide +kernel
theorem dX3_partOfRace_44 : decode cX3_partOfRace 44 = .ok (.if_icmp .ge 41, 3) := by decide +kernel
theorem dX3_partOfRace_47 : decode cX3_partOfRace 47 = .ok (.aload_n 0, 1) := by decide +kernel
theorem dX3_partOfRace_48 : decode cX3_partOfRace 48 = .ok (.iload 5, 2) := by decide +kernel
theorem dX3_partOfRace_50 : decode cX3_partOfRace 50 = .ok (.iload 4, 2) := by decide +kernel
theorem dX3_partOfRace_52 : decode cX3_partOfRace 52 = .ok (.invokevirtual 75, 3) := by decide +kernel
theorem dX3_partOfRace_55 : decode cX3_partOfRace 55 = .ok (.istore 6, 2) := by decide +kernel
theorem dX3_partOfRace_57 : decode cX3_partOfRace 57 = .ok (.iload_n 3, 1) := by decide +kernel
theorem dX3_partOfRace_58 : decode cX3_partOfRace 58 = .ok (.ifCond .ne 8, 3) := by decide +kernel
theorem dX3_partOfRace_61 : decode cX3_partOfRace 61 = .ok (.iload 6, 2) := by decide +kernel
theorem dX3_partOfRace_63 : decode cX3_partOfRace 63 = .ok (.goto 21, 3) := by decide +kernel
theorem dX3_partOfRace_66 : decode cX3_partOfRace 66 = .ok (.iload_n 3, 1) := by decide +kernel
theorem dX3_partOfRace_67 : decode cX3_partOfRace 67 = .ok (.iconst 1, 1) := by decide +kernel
theorem dX3_partOfRace_68 : decode cX3_partOfRace 68 = .ok (.if_icmp .ne 8, 3) := by decide +kernel
theorem dX3_partOfRace_71 : decode cX3_partOfRace 71 = .ok (.iload 5, 2) := by decide +kernel
theorem dX3_partOfRace_73 : decode cX3_partOfRace 73 = .ok (.goto 11, 3) := by decide +kernel
theorem dX3_partOfRace_76 : decode cX3_partOfRace 76 = .ok (.aload_n 0, 1) := by decide +kernel
theorem dX3_partOfRace_77 : decode cX3_partOfRace 77 = .ok (.iload 6, 2) := by decide +kernel
theorem dX3_partOfRace_79 : decode cX3_partOfRace 79 = .ok (.iload 5, 2) := by decide +kernel
theorem dX3_partOfRace_81 : decode cX3_partOfRace 81 = .ok (.invokevirtual 78, 3) := by decide +kernel
theorem dX3_partOfRace_84 : decode cX3_partOfRace 84 = .ok (.ireturn, 1) := by decide +kernel
theorem dX3_partOfRace_85 : decode cX3_partOfRace 85 = .ok (.iload 4, 2) := by decide +kernel
theorem dX3_partOfRace_87 : decode cX3_partOfRace 87 = .ok (.aload_n 0, 1) := by decide +kernel
theorem dX3_partOfRace_88 : decode cX3_partOfRace 88 = .ok (.getfield 33, 3) := by decide +kernel
theorem dX3_partOfRace_91 : decode cX3_partOfRace 91 = .ok (.iload 5, 2) := by decide +kernel
theorem dX3_partOfRace_93 : decode cX3_partOfRace 93 = .ok (.iaload, 1) := by decide +kernel
theorem dX3_partOfRace_94 : decode cX3_partOfRace 94 = .ok (.isub, 1) := by decide +kernel
theorem dX3_partOfRace_95 : decode cX3_partOfRace 95 = .ok (.istore 4, 2) := by decide +kernel
theorem dX3_partOfRace_97 : decode cX3_partOfRace 97 = .ok (.iinc 5 1, 3) := by decide +kernel
theorem dX3_partOfRace_100 : decode cX3_partOfRace 100 = .ok (.goto (-94), 3) := by decide +kernel
theorem dX3_partOfRace_103 : decode cX3_partOfRace 103 = .ok (.iconst (-1), 1) := by decide +kernel
theorem dX3_partOfRace_104 : decode cX3_partOfRace 104 = .ok (.ireturn, 1) := by decide +kernel
set_option maxRecDepth 20000 in
theorem ggX3_earlierOf_X3_kindOfPair : GoodIn wsX3_earlierOf wsX3_kindOfPair := goodIn_r _ [5, 6, 7, 8, 9, 10, 11, 4, 12, 13, 14, 15, 16, 17, 18, 19, 20, 21, 22, 23, 24, 25, 26, 27, 28, 29, 30, 31, 32, 33] (by decide +kernel) (by decide +kernel)
set_option maxRecDepth 20000 in
theorem gX3_earlierOf_X3_kindOfPair : GoodIn wsX3_earlierOf (wsV RX3 78 RX3 yX3_kindOfPair wsX3_kindOfPair) := goodIn_app (goodIn_of _ (by decide +kernel)) ggX3_earlierOf_X3_kindOfPair
theorem dX3_earlierOf_0 : decode cX3_earlierOf 0 = .ok (.iload_n 2, 1) := by decide +kernel
theorem dX3_earlierOf_1 : decode cX3_earlierOf 1 = .ok (.istore_n 3, 1) := by decide +kernel
theorem dX3_earlierOf_2 : decode cX3_earlierOf 2 = .ok (.iconst 0, 1) := by decide +kernel
theorem dX3_earlierOf_3 : decode cX3_earlierOf 3 = .ok (.istore 4, 2) := by decide +kernel
theorem dX3_earlierOf_5 : decode cX3_earlierOf 5 = .ok (.iload 4, 2) := by decide +kernel
theorem dX3_earlierOf_7 : decode cX3_earlierOf 7 = .ok (.iload_n 1, 1) := by decide +kernel
theorem dX3_earlierOf_8 : decode cX3_earlierOf 8 = .ok (.if_icmp .ge 30, 3) := by decide +kernel
theorem dX3_earlierOf_11 : decode cX3_earlierOf 11 = .ok (.aload_n 0, 1) := by decide +kernel
theorem dX3_earlierOf_12 : decode cX3_earlierOf 12 = .ok (.iload 4, 2) := by decide +kernel
theorem dX3_earlierOf_14 : decode cX3_earlierOf 14 = .ok (.iload_n 1, 1) := by decide +kernel
theorem dX3_earlierOf_15 : decode cX3_earlierOf 15 = .ok (.invokevirtual 78, 3) := by decide +kernel
theorem dX3_earlierOf_18 : decode cX3_earlierOf 18 = .ok (.iconst (-1), 1) := by decide +kernel
theorem dX3_earlierOf_19 : decode cX3_earlierOf 19 = .ok (.if_icmp .eq 13, 3) := by decide +kernel
theorem dX3_earlierOf_22 : decode cX3_earlierOf 22 = .ok (.iload_n 3, 1) := by decide +kernel
theorem dX3_earlierOf_23 : decode cX3_earlierOf 23 = .ok (.ifCond .ne 6, 3) := by decide +kernel
theorem dX3_earlierOf_26 : decode cX3_earlierOf 26 = .ok (.iload 4, 2) := by decide +kernel
theorem dX3_earlierOf_28 : decode cX3_earlierOf 28 = .ok (.ireturn, 1) := by decide +kernel
theorem dX3_earlierOf_29 : decode cX3_earlierOf 29 = .ok (.iinc 3 (-1), 3) := by decide +kernel
theorem dX3_earlierOf_32 : decode cX3_earlierOf 32 = .ok (.iinc 4 1, 3) := by decide +kernel
theorem dX3_earlierOf_35 : decode cX3_earlierOf 35 = .ok (.goto (-30), 3) := by decide +kernel
theorem dX3_earlierOf_38 : decode cX3_earlierOf 38 = .ok (.iconst (-1), 1) := by decide +kernel
theorem dX3_earlierOf_39 : decode cX3_earlierOf 39 = .ok (.ireturn, 1) := by decide +kernel
set_option maxRecDepth 20000 in
theorem ggX3_countRaces_X3_kindOfPair : GoodIn wsX3_countRaces wsX3_kindOfPair := goodIn_r _ [8, 2, 9, 10, 11, 12, 13, 7, 14, 15, 16, 17, 18, 19, 20, 21, 22, 23, 24, 25, 26, 27, 28, 29, 30, 31, 32, 33, 34, 35] (by decide +kernel) (by decide +kernel)
set_option maxRecDepth 20000 in
theorem gX3_countRaces_X3_kindOfPair : GoodIn wsX3_countRaces (wsV RX3 78 RX3 yX3_kindOfPair wsX3_kindOfPair) := goodIn_app (goodIn_of _ (by decide +kernel)) ggX3_countRaces_X3_kindOfPair
theorem dX3_countRaces_0 : decode cX3_countRaces 0 = .ok (.iconst 0, 1) := by decide +kernel
theorem dX3_countRaces_1 : decode cX3_countRaces 1 = .ok (.istore_n 2, 1) := by decide +kernel
theorem dX3_countRaces_2 : decode cX3_countRaces 2 = .ok (.iconst 0, 1) := by decide +kernel
theorem dX3_countRaces_3 : decode cX3_countRaces 3 = .ok (.istore_n 3, 1) := by decide +kernel
theorem dX3_countRaces_4 : decode cX3_countRaces 4 = .ok (.iload_n 3, 1) := by decide +kernel
theorem dX3_countRaces_5 : decode cX3_countRaces 5 = .ok (.iload_n 1, 1) := by decide +kernel
theorem dX3_countRaces_6 : decode cX3_countRaces 6 = .ok (.if_icmp .ge 46, 3) := by decide +kernel
theorem dX3_countRaces_9 : decode cX3_countRaces 9 = .ok (.aload_n 0, 1) := by decide +kernel
theorem dX3_countRaces_10 : decode cX3_countRaces 10 = .ok (.iload_n 3, 1) := by decide +kernel
theorem dX3_countRaces_11 : decode cX3_countRaces 11 = .ok (.iload_n 1, 1) := by decide +kernel
theorem dX3_countRaces_12 : decode cX3_countRaces 12 = .ok (.invokevirtual 78, 3) := by decide +kernel
theorem dX3_countRaces_15 : decode cX3_countRaces 15 = .ok (.istore 4, 2) := by decide +kernel
theorem dX3_countRaces_17 : decode cX3_countRaces 17 = .ok (.iload 4, 2) := by decide +kernel
theorem dX3_countRaces_19 : decode cX3_countRaces 19 = .ok (.iconst (-1), 1) := by decide +kernel
theorem dX3_countRaces_20 : decode cX3_countRaces 20 = .ok (.if_icmp .eq 26, 3) := by decide +kernel
theorem dX3_countRaces_23 : decode cX3_countRaces 23 = .ok (.aload_n 0, 1) := by decide +kernel
theorem dX3_countRaces_24 : decode cX3_countRaces 24 = .ok (.getfield 36, 3) := by decide +kernel
theorem dX3_countRaces_27 : decode cX3_countRaces 27 = .ok (.aload_n 0, 1) := by decide +kernel
theorem dX3_countRaces_28 : decode cX3_countRaces 28 = .ok (.getfield 18, 3) := by decide +kernel
theorem dX3_countRaces_31 : decode cX3_countRaces 31 = .ok (.iload_n 1, 1) := by decide +kernel
theorem dX3_countRaces_32 : decode cX3_countRaces 32 = .ok (.iaload, 1) := by decide +kernel
theorem dX3_countRaces_33 : decode cX3_countRaces 33 = .ok (.iconst 3, 1) := by decide +kernel
theorem dX3_countRaces_34 : decode cX3_countRaces 34 = .ok (.imul, 1) := by decide +kernel
theorem dX3_countRaces_35 : decode cX3_countRaces 35 = .ok (.iload 4, 2) := by decide +kernel
theorem dX3_countRaces_37 : decode cX3_countRaces 37 = .ok (.iadd, 1) := by decide +kernel
theorem dX3_countRaces_38 : decode cX3_countRaces 38 = .ok (.dup2, 1) := by decide +kernel
theorem dX3_countRaces_39 : decode cX3_countRaces 39 = .ok (.iaload, 1) := by decide +kernel
theorem dX3_countRaces_40 : decode cX3_countRaces 40 = .ok (.iconst 1, 1) := by decide +kernel
theorem dX3_countRaces_41 : decode cX3_countRaces 41 = .ok (.iadd, 1) := by decide +kernel
theorem dX3_countRaces_42 : decode cX3_countRaces 42 = .ok (.iastore, 1) := by decide +kernel
theorem dX3_countRaces_43 : decode cX3_countRaces 43 = .ok (.iinc 2 1, 3) := by decide +kernel
theorem dX3_countRaces_46 : decode cX3_countRaces 46 = .ok (.iinc 3 1, 3) := by decide +kernel
theorem dX3_countRaces_49 : decode cX3_countRaces 49 = .ok (.goto (-45), 3) := by decide +kernel
theorem dX3_countRaces_52 : decode cX3_countRaces 52 = .ok (.aload_n 0, 1) := by decide +kernel
theorem dX3_countRaces_53 : decode cX3_countRaces 53 = .ok (.getfield 33, 3) := by decide +kernel
theorem dX3_countRaces_56 : decode cX3_countRaces 56 = .ok (.iload_n 1, 1) := by decide +kernel
theorem dX3_countRaces_57 : decode cX3_countRaces 57 = .ok (.iload_n 2, 1) := by decide +kernel
theorem dX3_countRaces_58 : decode cX3_countRaces 58 = .ok (.iastore, 1) := by decide +kernel
theorem dX3_countRaces_59 : decode cX3_countRaces 59 = .ok (.return_, 1) := by decide +kernel
theorem dX3_isAccess_0 : decode cX3_isAccess 0 = .ok (.aload_n 0, 1) := by decide +kernel
theorem dX3_isAccess_1 : decode cX3_isAccess 1 = .ok (.getfield 15, 3) := by decide +kernel
theorem dX3_isAccess_4 : decode cX3_isAccess 4 = .ok (.iload_n 1, 1) := by decide +kernel
theorem dX3_isAccess_5 : decode cX3_isAccess 5 = .ok (.iaload, 1) := by decide +kernel
theorem dX3_isAccess_6 : decode cX3_isAccess 6 = .ok (.ifCond .eq 13, 3) := by decide +kernel
theorem dX3_isAccess_9 : decode cX3_isAccess 9 = .ok (.aload_n 0, 1) := by decide +kernel
theorem dX3_isAccess_10 : decode cX3_isAccess 10 = .ok (.getfield 15, 3) := by decide +kernel
theorem dX3_isAccess_13 : decode cX3_isAccess 13 = .ok (.iload_n 1, 1) := by decide +kernel
theorem dX3_isAccess_14 : decode cX3_isAccess 14 = .ok (.iaload, 1) := by decide +kernel
theorem dX3_isAccess_15 : decode cX3_isAccess 15 = .ok (.iconst 1, 1) := by decide +kernel
theorem dX3_isAccess_16 : decode cX3_isAccess 16 = .ok (.if_icmp .ne 7, 3) := by decide +kernel
theorem dX3_isAccess_19 : decode cX3_isAccess 19 = .ok (.iconst 1, 1) := by decide +kernel
theorem dX3_isAccess_20 : decode cX3_isAccess 20 = .ok (.goto 4, 3) := by decide +kernel
theorem dX3_isAccess_23 : decode cX3_isAccess 23 = .ok (.iconst 0, 1) := by decide +kernel
theorem dX3_isAccess_24 : decode cX3_isAccess 24 = .ok (.ireturn, 1) := by decide +kernel
set_option maxRecDepth 20000 in
theorem ggX3_kindOfPair_X3_isAccess : GoodIn wsX3_kindOfPair wsX3_isAccess := goodIn_r _ [8, 3, 20, 21, 22, 23, 24, 25, 26, 27] (by decide +kernel) (by decide +kernel)
set_option maxRecDepth 20000 in
theorem gX3_kindOfPair_X3_isAccess : GoodIn wsX3_kindOfPair (wsV RX3 71 RX3 yX3_isAccess wsX3_isAccess) := goodIn_app (goodIn_of _ (by decide +kernel)) ggX3_kindOfPair_X3_isAccess
set_option maxRecDepth 20000 in
theorem ggX3_kindOfPair_X3_isAhead : GoodIn wsX3_kindOfPair wsX3_isAhead := goodIn_r _ [12, 2, 13, 14, 15, 16, 17, 18, 19, 20, 21, 22, 23, 24, 25, 26, 27, 28, 29] (by decide +kernel) (by decide +kernel)
set_option maxRecDepth 20000 in
theorem gX3_kindOfPair_X3_isAhead : GoodIn wsX3_kindOfPair (wsV RX3 81 RX3 yX3_isAhead wsX3_isAhead) := goodIn_app (goodIn_of _ (by decide +kernel)) ggX3_kindOfPair_X3_isAhead
theorem dX3_kindOfPair_0 : decode cX3_kindOfPair 0 = .ok (.aload_n 0, 1) := by decide +kernel
theorem dX3_kindOfPair_1 : decode cX3_kindOfPair 1 = .ok (.iload_n 1, 1) := by decide +kernel
theorem dX3_kindOfPair_2 : decode cX3_kindOfPair 2 = .ok (.invokevirtual 71, 3) := by decide +kernel
theorem dX3_kindOfPair_5 : decode cX3_kindOfPair 5 = .ok (.ifCond .eq 26, 3) := by decide +kernel
theorem dX3_kindOfPair_8 : decode cX3_kindOfPair 8 = .ok (.aload_n 0, 1) := by decide +kernel
theorem dX3_kindOfPair_9 : decode cX3_kindOfPair 9 = .ok (.iload_n 2, 1) := by decide +kernel
theorem dX3_kindOfPair_10 : decode cX3_kindOfPair 10 = .ok (.invokevirtual 71, 3) := by decide +kernel
theorem dX3_kindOfPair_13 : decode cX3_kindOfPair 13 = .ok (.ifCond .eq 18, 3) := by decide +kernel
theorem dX3_kindOfPair_16 : decode cX3_kindOfPair 16 = .ok (.aload_n 0, 1) := by decide +kernel
theorem dX3_kindOfPair_17 : decode cX3_kindOfPair 17 = .ok (.getfield 18, 3) := by decide +kernel
theorem dX3_kindOfPair_20 : decode cX3_kindOfPair 20 = .ok (.iload_n 1, 1) := by decide +kernel
theorem dX3_kindOfPair_21 : decode cX3_kindOfPair 21 = .ok (.iaload, 1) := by decide +kernel
theorem dX3_kindOfPair_22 : decode cX3_kindOfPair 22 = .ok (.aload_n 0, 1) := by decide +kernel
theorem dX3_kindOfPair_23 : decode cX3_kindOfPair 23 = .ok (.getfield 18, 3) := by decide +kernel
theorem dX3_kindOfPair_26 : decode cX3_kindOfPair 26 = .ok (.iload_n 2, 1) := by decide +kernel
theorem dX3_kindOfPair_27 : decode cX3_kindOfPair 27 = .ok (.iaload, 1) := by decide +kernel
theorem dX3_kindOfPair_28 : decode cX3_kindOfPair 28 = .ok (.if_icmp .eq 5, 3) := by decide +kernel
theorem dX3_kindOfPair_31 : decode cX3_kindOfPair 31 = .ok (.iconst (-1), 1) := by decide +kernel
theorem dX3_kindOfPair_32 : decode cX3_kindOfPair 32 = .ok (.ireturn, 1) := by decide +kernel
theorem dX3_kindOfPair_33 : decode cX3_kindOfPair 33 = .ok (.aload_n 0, 1) := by decide +kernel
theorem dX3_kindOfPair_34 : decode cX3_kindOfPair 34 = .ok (.getfield 9, 3) := by decide +kernel
theorem dX3_kindOfPair_37 : decode cX3_kindOfPair 37 = .ok (.iload_n 1, 1) := by decide +kernel
theorem dX3_kindOfPair_38 : decode cX3_kindOfPair 38 = .ok (.iaload, 1) := by decide +kernel
theorem dX3_kindOfPair_39 : decode cX3_kindOfPair 39 = .ok (.aload_n 0, 1) := by decide +kernel
theorem dX3_kindOfPair_40 : decode cX3_kindOfPair 40 = .ok (.getfield 9, 3) := by decide +kernel
theorem dX3_kindOfPair_43 : decode cX3_kindOfPair 43 = .ok (.iload_n 2, 1) := by decide +kernel
theorem dX3_kindOfPair_44 : decode cX3_kindOfPair 44 = .ok (.iaload, 1) := by decide +kernel
theorem dX3_kindOfPair_45 : decode cX3_kindOfPair 45 = .ok (.if_icmp .eq 12, 3) := by decide +kernel
theorem dX3_kindOfPair_48 : decode cX3_kindOfPair 48 = .ok (.aload_n 0, 1) := by decide +kernel
theorem dX3_kindOfPair_49 : decode cX3_kindOfPair 49 = .ok (.iload_n 1, 1) := by decide +kernel
theorem dX3_kindOfPair_50 : decode cX3_kindOfPair 50 = .ok (.iload_n 2, 1) := by decide +kernel
theorem dX3_kindOfPair_51 : decode cX3_kindOfPair 51 = .ok (.invokevirtual 81, 3) := by decide +kernel
theorem dX3_kindOfPair_54 : decode cX3_kindOfPair 54 = .ok (.ifCond .eq 5, 3) := by decide +kernel
theorem dX3_kindOfPair_57 : decode cX3_kindOfPair 57 = .ok (.iconst (-1), 1) := by decide +kernel
theorem dX3_kindOfPair_58 : decode cX3_kindOfPair 58 = .ok (.ireturn, 1) := by decide +kernel
theorem dX3_kindOfPair_59 : decode cX3_kindOfPair 59 = .ok (.aload_n 0, 1) := by decide +kernel
theorem dX3_kindOfPair_60 : decode cX3_kindOfPair 60 = .ok (.getfield 15, 3) := by decide +kernel
theorem dX3_kindOfPair_63 : decode cX3_kindOfPair 63 = .ok (.iload_n 1, 1) := by decide +kernel
theorem dX3_kindOfPair_64 : decode cX3_kindOfPair 64 = .ok (.iaload, 1) := by decide +kernel
theorem dX3_kindOfPair_65 : decode cX3_kindOfPair 65 = .ok (.iconst 1, 1) := by decide +kernel
theorem dX3_kindOfPair_66 : decode cX3_kindOfPair 66 = .ok (.if_icmp .ne 19, 3) := by decide +kernel
theorem dX3_kindOfPair_69 : decode cX3_kindOfPair 69 = .ok (.aload_n 0, 1) := by decide +kernel
theorem dX3_kindOfPair_70 : decode cX3_kindOfPair 70 = .ok (.getfield 15, 3) := by decide +kernel
theorem dX3_kindOfPair_73 : decode cX3_kindOfPair 73 = .ok (.iload_n 2, 1) := by decide +kernel
theorem dX3_kindOfPair_74 : decode cX3_kindOfPair 74 = .ok (.iaload, 1) := by decide +kernel
theorem dX3_kindOfPair_75 : decode cX3_kindOfPair 75 = .ok (.iconst 1, 1) := by decide +kernel
theorem dX3_kindOfPair_76 : decode cX3_kindOfPair 76 = .ok (.if_icmp .ne 7, 3) := by decide +kernel
theorem dX3_kindOfPair_79 : decode cX3_kindOfPair 79 = .ok (.iconst 0, 1) := by decide +kernel
theorem dX3_kindOfPair_80 : decode cX3_kindOfPair 80 = .ok (.goto 4, 3) := by decide +kernel
theorem dX3_kindOfPair_83 : decode cX3_kindOfPair 83 = .ok (.iconst 1, 1) := by decide +kernel
theorem dX3_kindOfPair_84 : decode cX3_kindOfPair 84 = .ok (.ireturn, 1) := by decide +kernel
theorem dX3_kindOfPair_85 : decode cX3_kindOfPair 85 = .ok (.aload_n 0, 1) := by decide +kernel
theorem dX3_kindOfPair_86 : decode cX3_kindOfPair 86 = .ok (.getfield 15, 3) := by decide +kernel
theorem dX3_kindOfPair_89 : decode cX3_kindOfPair 89 = .ok (.iload_n 2, 1) := by decide +kernel
theorem dX3_kindOfPair_90 : decode cX3_kindOfPair 90 = .ok (.iaload, 1) := by decide +kernel
theorem dX3_kindOfPair_91 : decode cX3_kindOfPair 91 = .ok (.iconst 1, 1) := by decide +kernel
theorem dX3_kindOfPair_92 : decode cX3_kindOfPair 92 = .ok (.if_icmp .ne 7, 3) := by decide +kernel
theorem dX3_kindOfPair_95 : decode cX3_kindOfPair 95 = .ok (.iconst 2, 1) := by decide +kernel
theorem dX3_kindOfPair_96 : decode cX3_kindOfPair 96 = .ok (.goto 4, 3) := by decide +kernel
theorem dX3_kindOfPair_99 : decode cX3_kindOfPair 99 = .ok (.iconst (-1), 1) := by decide +kernel
theorem dX3_kindOfPair_100 : decode cX3_kindOfPair 100 = .ok (.ireturn, 1) := by decide +kernel
end
section
set_option maxRecDepth 20000 in
theorem ggX4_init_X0_init : GoodIn wsX4_init wsX0_init := goodIn_r _ [14, 15, 2, 3, 9, 16, 17, 29, 30, 31] (by decide +kernel) (by decide +kernel)
set_option maxRecDepth 20000 in
theorem gX4_init_X0_init_n17 : GoodIn wsX4_init (wsX0_init) := ggX4_init_X0_init
theorem dX4_init_0 : decode cX4_init 0 = .ok (.aload_n 0, 1) := by decide +kernel
theorem dX4_init_1 : decode cX4_init 1 = .ok (.invokespecial 3, 3) := by decide +kernel
theorem dX4_init_4 : decode cX4_init 4 = .ok (.aload_n 0, 1) := by decide +kernel
theorem dX4_init_5 : decode cX4_init 5 = .ok (.iconst (-1), 1) := by decide +kernel
theorem dX4_init_6 : decode cX4_init 6 = .ok (.putfield 9, 3) := by decide +kernel
theorem dX4_init_9 : decode cX4_init 9 = .ok (.aload_n 0, 1) := by decide +kernel
theorem dX4_init_10 : decode cX4_init 10 = .ok (.new 15, 3) := by decide +kernel
theorem dX4_init_13 : decode cX4_init 13 = .ok (.dup, 1) := by decide +kernel
theorem dX4_init_14 : decode cX4_init 14 = .ok (.invokespecial 17, 3) := by decide +kernel
theorem dX4_init_17 : decode cX4_init 17 = .ok (.putfield 18, 3) := by decide +kernel
theorem dX4_init_20 : decode cX4_init 20 = .ok (.aload_n 0, 1) := by decide +kernel
theorem dX4_init_21 : decode cX4_init 21 = .ok (.sipush 240, 3) := by decide +kernel
theorem dX4_init_24 : decode cX4_init 24 = .ok (.newarray .int, 2) := by decide +kernel
theorem dX4_init_26 : decode cX4_init 26 = .ok (.putfield 22, 3) := by decide +kernel
theorem dX4_init_29 : decode cX4_init 29 = .ok (.aload_n 0, 1) := by decide +kernel
theorem dX4_init_30 : decode cX4_init 30 = .ok (.sipush 240, 3) := by decide +kernel
theorem dX4_init_33 : decode cX4_init 33 = .ok (.newarray .int, 2) := by decide +kernel
theorem dX4_init_35 : decode cX4_init 35 = .ok (.putfield 26, 3) := by decide +kernel
theorem dX4_init_38 : decode cX4_init 38 = .ok (.aload_n 0, 1) := by decide +kernel
theorem dX4_init_39 : decode cX4_init 39 = .ok (.sipush 240, 3) := by decide +kernel
theorem dX4_init_42 : decode cX4_init 42 = .ok (.newarray .int, 2) := by decide +kernel
theorem dX4_init_44 : decode cX4_init 44 = .ok (.putfield 29, 3) := by decide +kernel
theorem dX4_init_47 : decode cX4_init 47 = .ok (.return_, 1) := by decide +kernel
theorem dX4_append_0 : decode cX4_append 0 = .ok (.aload_n 0, 1) := by decide +kernel
theorem dX4_append_1 : decode cX4_append 1 = .ok (.getfield 32, 3) := by decide +kernel
theorem dX4_append_4 : decode cX4_append 4 = .ok (.sipush 240, 3) := by decide +kernel
theorem dX4_append_7 : decode cX4_append 7 = .ok (.if_icmp .lt 6, 3) := by decide +kernel
theorem dX4_append_10 : decode cX4_append 10 = .ok (.ldc 35, 2) := by decide +kernel
theorem dX4_append_12 : decode cX4_append 12 = .ok (.ireturn, 1) := by decide +kernel
theorem dX4_append_13 : decode cX4_append 13 = .ok (.aload_n 0, 1) := by decide +kernel
theorem dX4_append_14 : decode cX4_append 14 = .ok (.getfield 22, 3) := by decide +kernel
theorem dX4_append_17 : decode cX4_append 17 = .ok (.aload_n 0, 1) := by decide +kernel
theorem dX4_append_18 : decode cX4_append 18 = .ok (.getfield 32, 3) := by decide +kernel
theorem dX4_append_21 : decode cX4_append 21 = .ok (.iload_n 1, 1) := by decide +kernel
theorem dX4_append_22 : decode cX4_append 22 = .ok (.iastore, 1) := by decide +kernel
theorem dX4_append_23 : decode cX4_append 23 = .ok (.aload_n 0, 1) := by decide +kernel
theorem dX4_append_24 : decode cX4_append 24 = .ok (.dup, 1) := by decide +kernel
theorem dX4_append_25 : decode cX4_append 25 = .ok (.getfield 32, 3) := by decide +kernel
theorem dX4_append_28 : decode cX4_append 28 = .ok (.iconst 1, 1) := by decide +kernel
theorem dX4_append_29 : decode cX4_append 29 = .ok (.iadd, 1) := by decide +kernel
theorem dX4_append_30 : decode cX4_append 30 = .ok (.putfield 32, 3) := by decide +kernel
theorem dX4_append_33 : decode cX4_append 33 = .ok (.aload_n 0, 1) := by decide +kernel
theorem dX4_append_34 : decode cX4_append 34 = .ok (.getfield 32, 3) := by decide +kernel
theorem dX4_append_37 : decode cX4_append 37 = .ok (.ireturn, 1) := by decide +kernel
set_option maxRecDepth 20000 in
theorem ggX4_tell_X4_faultOfFigure : GoodIn wsX4_tell wsX4_faultOfFigure := goodIn_r _ [13, 7, 14, 15, 16, 203, 204, 205, 206, 207, 208, 209, 210, 211, 212, 213] (by decide +kernel) (by decide +kernel)
set_option maxRecDepth 20000 in
theorem gX4_tell_X4_faultOfFigure : GoodIn wsX4_tell (wsV RX4 48 RX4 yX4_faultOfFigure wsX4_faultOfFigure) := goodIn_app (goodIn_of _ (by decide +kernel)) ggX4_tell_X4_faultOfFigure
set_option maxRecDepth 20000 in
theorem ggX4_tell_X4_tellThread : GoodIn wsX4_tell wsX4_tellThread := goodIn_r _ [20, 2, 1, 21, 22, 23, 24, 25, 26, 27, 28, 29, 12, 30, 4, 31, 32, 203, 204, 205, 206, 207, 208, 209, 210, 211, 212, 213, 214, 215, 216, 217, 218, 219, 220] (by decide +kernel) (by decide +kernel)
set_option maxRecDepth 20000 in
theorem gX4_tell_X4_tellThread : GoodIn wsX4_tell (wsV RX4 55 RX4 yX4_tellThread wsX4_tellThread) := goodIn_app (goodIn_of _ (by decide +kernel)) ggX4_tell_X4_tellThread
set_option maxRecDepth 20000 in
theorem ggX4_tell_X4_tellEvent : GoodIn wsX4_tell wsX4_tellEvent := goodIn_r _ [36, 7, 37, 3, 2, 1, 38, 39, 40, 41, 42, 43, 44, 45, 46, 47, 24, 48, 49, 26, 50, 22, 23, 25, 51, 52, 53, 54, 55, 56, 57, 58, 59, 60, 61, 62, 63, 64, 65, 66, 67, 68, 69, 70, 71, 72, 73, 74, 75, 76, 77, 78, 79, 80, 81, 82, 83, 84, 85, 86, 87, 88, 89, 90, 91, 92, 93, 94, 95, 96, 97, 98, 99, 100, 101, 102, 103, 104, 105, 106, 107, 108, 109, 110, 111, 112, 113, 114, 115, 116, 117, 118, 119, 120, 121, 122, 123, 124, 125, 126, 127, 128, 129, 130, 131, 132, 133, 134, 135, 136, 137, 138, 139, 140, 141, 142, 143, 144, 145, 146, 147, 148, 149, 150, 151, 152, 153, 154, 155, 156, 157, 158, 159, 160, 161, 162, 163, 164, 165, 166, 167, 168, 169, 170, 171, 172, 173, 174, 175, 176, 177, 178, 179, 27, 28, 29, 12, 30, 4, 31, 32, 180, 181, 182, 183, 184, 185, 186, 187, 188, 189, 190, 191, 203, 204, 205, 206, 207, 208, 209, 210, 211, 212, 213, 214, 215, 216, 217, 218, 219, 220, 221, 222, 223, 224, 225, 226, 227, 228, 229, 230, 231, 232, 233, 234, 235, 236, 237, 238, 239, 240, 241, 242, 243] (by decide +kernel) (by decide +kernel)
set_option maxRecDepth 20000 in
theorem gX4_tell_X4_tellEvent : GoodIn wsX4_tell (wsV RX4 59 RX4 yX4_tellEvent wsX4_tellEvent) := goodIn_app (goodIn_of _ (by decide +kernel)) ggX4_tell_X4_tellEvent
set_option maxRecDepth 20000 in
theorem ggX4_tell_X4_shutLast : GoodIn wsX4_tell wsX4_shutLast := goodIn_r _ [195, 4, 32, 2, 31, 3, 38, 67, 68, 69, 24, 70, 71, 72, 59, 73, 74, 40, 41, 42, 43, 44, 75, 76, 77, 78, 79, 49, 80, 26, 81, 82, 83, 64, 84, 85, 86, 87, 88, 89, 62, 63, 65, 66, 90, 91, 92, 93, 51, 52, 53, 54, 94, 95, 96, 97, 98, 99, 100, 101, 102, 103, 104, 105, 106, 107, 108, 109, 110, 111, 112, 113, 114, 115, 116, 117, 118, 119, 120, 121, 122, 123, 124, 125, 126, 127, 128, 129, 130, 131, 132, 133, 134, 135, 136, 137, 138, 139, 140, 141, 142, 143, 144, 145, 146, 147, 148, 149, 150, 151, 152, 153, 154, 155, 156, 157, 158, 159, 160, 161, 162, 163, 164, 165, 166, 167, 168, 169, 170, 171, 172, 173, 174, 175, 176, 177, 178, 60, 61, 179, 180, 181, 182, 183, 184, 185, 186, 187, 188, 189, 190, 191, 203, 204, 205, 206, 207, 208, 209, 210, 211, 212, 213, 214, 215, 216, 217, 218, 219, 220, 221, 222, 223, 224, 225, 226, 227, 228, 229, 230, 231, 232, 233, 234, 235, 236, 237, 238, 239, 240, 241, 242, 243] (by decide +kernel) (by decide +kernel)
set_option maxRecDepth 20000 in
theorem gX4_tell_X4_shutLast : GoodIn wsX4_tell (wsV RX4 62 RX4 yX4_shutLast wsX4_shutLast) := goodIn_app (goodIn_of _ (by decide +kernel)) ggX4_tell_X4_shutLast
set_option maxRecDepth 20000 in
theorem ggX4_tell_X4_tellSign : GoodIn wsX4_tell wsX4_tellSign := goodIn_r _ [199, 1, 7, 200, 201, 12, 202, 203, 204, 205, 206, 207, 208, 209, 210, 211, 212, 213] (by decide +kernel) (by decide +kernel)
set_option maxRecDepth 20000 in
theorem gX4_tell_X4_tellSign : GoodIn wsX4_tell (wsV RX4 66 RX4 yX4_tellSign wsX4_tellSign) := goodIn_app (goodIn_of _ (by decide +kernel)) ggX4_tell_X4_tellSign
theorem dX4_tell_0 : decode cX4_tell 0 = .ok (.aload_n 0, 1) := by decide +kernel
theorem dX4_tell_1 : decode cX4_tell 1 = .ok (.iconst 0, 1) := by decide +kernel
theorem dX4_tell_2 : decode cX4_tell 2 = .ok (.putfield 36, 3) := by decide +kernel
theorem dX4_tell_5 : decode cX4_tell 5 = .ok (.aload_n 0, 1) := by decide +kernel
theorem dX4_tell_6 : decode cX4_tell 6 = .ok (.iconst 0, 1) := by decide +kernel
theorem dX4_tell_7 : decode cX4_tell 7 = .ok (.putfield 39, 3) := by decide +kernel
theorem dX4_tell_10 : decode cX4_tell 10 = .ok (.aload_n 0, 1) := by decide +kernel
theorem dX4_tell_11 : decode cX4_tell 11 = .ok (.iconst 0, 1) := by decide +kernel
theorem dX4_tell_12 : decode cX4_tell 12 = .ok (.putfield 42, 3) := by decide +kernel
theorem dX4_tell_15 : decode cX4_tell 15 = .ok (.aload_n 0, 1) := by decide +kernel
theorem dX4_tell_16 : decode cX4_tell 16 = .ok (.iconst 0, 1) := by decide +kernel
theorem dX4_tell_17 : decode cX4_tell 17 = .ok (.putfield 45, 3) := by decide +kernel
theorem dX4_tell_20 : decode cX4_tell 20 = .ok (.iconst 0, 1) := by decide +kernel
theorem dX4_tell_21 : decode cX4_tell 21 = .ok (.istore_n 2, 1) := by decide +kernel
theorem dX4_tell_22 : decode cX4_tell 22 = .ok (.iconst 0, 1) := by decide +kernel
theorem dX4_tell_23 : decode cX4_tell 23 = .ok (.istore_n 3, 1) := by decide +kernel
theorem dX4_tell_24 : decode cX4_tell 24 = .ok (.iload_n 3, 1) := by decide +kernel
theorem dX4_tell_25 : decode cX4_tell 25 = .ok (.aload_n 0, 1) := by decide +kernel
theorem dX4_tell_26 : decode cX4_tell 26 = .ok (.getfield 32, 3) := by decide +kernel
theorem dX4_tell_29 : decode cX4_tell 29 = .ok (.if_icmp .ge 122, 3) := by decide +kernel
theorem dX4_tell_32 : decode cX4_tell 32 = .ok (.iload_n 2, 1) := by decide +kernel
theorem dX4_tell_33 : decode cX4_tell 33 = .ok (.ifCond .ne 118, 3) := by decide +kernel
theorem dX4_tell_36 : decode cX4_tell 36 = .ok (.aload_n 0, 1) := by decide +kernel
theorem dX4_tell_37 : decode cX4_tell 37 = .ok (.getfield 22, 3) := by decide +kernel
theorem dX4_tell_40 : decode cX4_tell 40 = .ok (.iload_n 3, 1) := by decide +kernel
theorem dX4_tell_41 : decode cX4_tell 41 = .ok (.iaload, 1) := by decide +kernel
theorem dX4_tell_42 : decode cX4_tell 42 = .ok (.istore 4, 2) := by decide +kernel
theorem dX4_tell_44 : decode cX4_tell 44 = .ok (.iinc 3 1, 3) := by decide +kernel
theorem dX4_tell_47 : decode cX4_tell 47 = .ok (.iload 4, 2) := by decide +kernel
theorem dX4_tell_49 : decode cX4_tell 49 = .ok (.bipush 32, 2) := by decide +kernel
theorem dX4_tell_51 : decode cX4_tell 51 = .ok (.if_icmp .ne 6, 3) := by decide +kernel
theorem dX4_tell_54 : decode cX4_tell 54 = .ok (.goto (-30), 3) := by decide +kernel
theorem dX4_tell_57 : decode cX4_tell 57 = .ok (.aload_n 0, 1) := by decide +kernel
theorem dX4_tell_58 : decode cX4_tell 58 = .ok (.getfield 36, 3) := by decide +kernel
theorem dX4_tell_61 : decode cX4_tell 61 = .ok (.iconst 1, 1) := by decide +kernel
theorem dX4_tell_62 : decode cX4_tell 62 = .ok (.if_icmp .ne 50, 3) := by decide +kernel
theorem dX4_tell_65 : decode cX4_tell 65 = .ok (.aload_n 0, 1) := by decide +kernel
theorem dX4_tell_66 : decode cX4_tell 66 = .ok (.iload 4, 2) := by decide +kernel
theorem dX4_tell_68 : decode cX4_tell 68 = .ok (.invokevirtual 48, 3) := by decide +kernel
theorem dX4_tell_71 : decode cX4_tell 71 = .ok (.istore_n 2, 1) := by decide +kernel
theorem dX4_tell_72 : decode cX4_tell 72 = .ok (.iload_n 2, 1) := by decide +kernel
theorem dX4_tell_73 : decode cX4_tell 73 = .ok (.ifCond .ne 75, 3) := by decide +kernel
theorem dX4_tell_76 : decode cX4_tell 76 = .ok (.aload_n 0, 1) := by decide +kernel
theorem dX4_tell_77 : decode cX4_tell 77 = .ok (.getfield 52, 3) := by decide +kernel
theorem dX4_tell_80 : decode cX4_tell 80 = .ok (.bipush 8, 2) := by decide +kernel
theorem dX4_tell_82 : decode cX4_tell 82 = .ok (.if_icmp .ne 16, 3) := by decide +kernel
theorem dX4_tell_85 : decode cX4_tell 85 = .ok (.aload_n 0, 1) := by decide +kernel
theorem dX4_tell_86 : decode cX4_tell 86 = .ok (.iload 4, 2) := by decide +kernel
theorem dX4_tell_88 : decode cX4_tell 88 = .ok (.bipush 48, 2) := by decide +kernel
theorem dX4_tell_90 : decode cX4_tell 90 = .ok (.isub, 1) := by decide +kernel
theorem dX4_tell_91 : decode cX4_tell 91 = .ok (.aload_n 1, 1) := by decide +kernel
theorem dX4_tell_92 : decode cX4_tell 92 = .ok (.invokevirtual 55, 3) := by decide +kernel
theorem dX4_tell_95 : decode cX4_tell 95 = .ok (.goto 13, 3) := by decide +kernel
theorem dX4_tell_98 : decode cX4_tell 98 = .ok (.aload_n 0, 1) := by decide +kernel
theorem dX4_tell_99 : decode cX4_tell 99 = .ok (.iload 4, 2) := by decide +kernel
theorem dX4_tell_101 : decode cX4_tell 101 = .ok (.bipush 48, 2) := by decide +kernel
theorem dX4_tell_103 : decode cX4_tell 103 = .ok (.isub, 1) := by decide +kernel
theorem dX4_tell_104 : decode cX4_tell 104 = .ok (.aload_n 1, 1) := by decide +kernel
theorem dX4_tell_105 : decode cX4_tell 105 = .ok (.invokevirtual 59, 3) := by decide +kernel
theorem dX4_tell_108 : decode cX4_tell 108 = .ok (.istore_n 2, 1) := by decide +kernel
theorem dX4_tell_109 : decode cX4_tell 109 = .ok (.goto 39, 3) := by decide +kernel
theorem dX4_tell_112 : decode cX4_tell 112 = .ok (.aload_n 0, 1) := by decide +kernel
theorem dX4_tell_113 : decode cX4_tell 113 = .ok (.getfield 36, 3) := by decide +kernel
theorem dX4_tell_116 : decode cX4_tell 116 = .ok (.ifCond .ne 25, 3) := by decide +kernel
theorem dX4_tell_119 : decode cX4_tell 119 = .ok (.iload 4, 2) := by decide +kernel
theorem dX4_tell_121 : decode cX4_tell 121 = .ok (.bipush 41, 2) := by decide +kernel
theorem dX4_tell_123 : decode cX4_tell 123 = .ok (.if_icmp .ne 18, 3) := by decide +kernel
theorem dX4_tell_126 : decode cX4_tell 126 = .ok (.aload_n 0, 1) := by decide +kernel
theorem dX4_tell_127 : decode cX4_tell 127 = .ok (.getfield 45, 3) := by decide +kernel
theorem dX4_tell_130 : decode cX4_tell 130 = .ok (.ifCond .le 11, 3) := by decide +kernel
theorem dX4_tell_133 : decode cX4_tell 133 = .ok (.aload_n 0, 1) := by decide +kernel
theorem dX4_tell_134 : decode cX4_tell 134 = .ok (.aload_n 1, 1) := by decide +kernel
theorem dX4_tell_135 : decode cX4_tell 135 = .ok (.invokevirtual 62, 3) := by decide +kernel
theorem dX4_tell_138 : decode cX4_tell 138 = .ok (.goto 10, 3) := by decide +kernel
theorem dX4_tell_141 : decode cX4_tell 141 = .ok (.aload_n 0, 1) := by decide +kernel
theorem dX4_tell_142 : decode cX4_tell 142 = .ok (.iload 4, 2) := by decide +kernel
theorem dX4_tell_144 : decode cX4_tell 144 = .ok (.invokevirtual 66, 3) := by decide +kernel
theorem dX4_tell_147 : decode cX4_tell 147 = .ok (.istore_n 2, 1) := by decide +kernel
theorem dX4_tell_148 : decode cX4_tell 148 = .ok (.goto (-124), 3) := by decide +kernel
theorem dX4_tell_151 : decode cX4_tell 151 = .ok (.aload_n 0, 1) := by decide +kernel
theorem dX4_tell_152 : decode cX4_tell 152 = .ok (.iload_n 2, 1) := by decide +kernel
theorem dX4_tell_153 : decode cX4_tell 153 = .ok (.ifCond .ne 7, 3) := by decide +kernel
theorem dX4_tell_156 : decode cX4_tell 156 = .ok (.iconst (-1), 1) := by decide +kernel
theorem dX4_tell_157 : decode cX4_tell 157 = .ok (.goto 6, 3) := by decide +kernel
theorem dX4_tell_160 : decode cX4_tell 160 = .ok (.iload_n 3, 1) := by decide +kernel
theorem dX4_tell_161 : decode cX4_tell 161 = .ok (.iconst 1, 1) := by decide +kernel
theorem dX4_tell_162 : decode cX4_tell 162 = .ok (.isub, 1) := by decide +kernel
theorem dX4_tell_163 : decode cX4_tell 163 = .ok (.putfield 9, 3) := by decide +kernel
theorem dX4_tell_166 : decode cX4_tell 166 = .ok (.iload_n 2, 1) := by decide +kernel
theorem dX4_tell_167 : decode cX4_tell 167 = .ok (.ifCond .ne 27, 3) := by decide +kernel
theorem dX4_tell_170 : decode cX4_tell 170 = .ok (.aload_n 0, 1) := by decide +kernel
theorem dX4_tell_171 : decode cX4_tell 171 = .ok (.getfield 36, 3) := by decide +kernel
theorem dX4_tell_174 : decode cX4_tell 174 = .ok (.ifCond .ne 10, 3) := by decide +kernel
theorem dX4_tell_177 : decode cX4_tell 177 = .ok (.aload_n 0, 1) := by decide +kernel
theorem dX4_tell_178 : decode cX4_tell 178 = .ok (.getfield 45, 3) := by decide +kernel
theorem dX4_tell_181 : decode cX4_tell 181 = .ok (.ifCond .le 13, 3) := by decide +kernel
theorem dX4_tell_184 : decode cX4_tell 184 = .ok (.iconst 1, 1) := by decide +kernel
theorem dX4_tell_185 : decode cX4_tell 185 = .ok (.istore_n 2, 1) := by decide +kernel
theorem dX4_tell_186 : decode cX4_tell 186 = .ok (.aload_n 0, 1) := by decide +kernel
theorem dX4_tell_187 : decode cX4_tell 187 = .ok (.aload_n 0, 1) := by decide +kernel
theorem dX4_tell_188 : decode cX4_tell 188 = .ok (.getfield 32, 3) := by decide +kernel
theorem dX4_tell_191 : decode cX4_tell 191 = .ok (.putfield 9, 3) := by decide +kernel
theorem dX4_tell_194 : decode cX4_tell 194 = .ok (.aload_n 0, 1) := by decide +kernel
theorem dX4_tell_195 : decode cX4_tell 195 = .ok (.getfield 45, 3) := by decide +kernel
theorem dX4_tell_198 : decode cX4_tell 198 = .ok (.istore 4, 2) := by decide +kernel
theorem dX4_tell_200 : decode cX4_tell 200 = .ok (.iload 4, 2) := by decide +kernel
theorem dX4_tell_202 : decode cX4_tell 202 = .ok (.ifCond .le 14, 3) := by decide +kernel
theorem dX4_tell_205 : decode cX4_tell 205 = .ok (.aload_n 0, 1) := by decide +kernel
theorem dX4_tell_206 : decode cX4_tell 206 = .ok (.aload_n 1, 1) := by decide +kernel
theorem dX4_tell_207 : decode cX4_tell 207 = .ok (.invokevirtual 62, 3) := by decide +kernel
theorem dX4_tell_210 : decode cX4_tell 210 = .ok (.iinc 4 (-1), 3) := by decide +kernel
theorem dX4_tell_213 : decode cX4_tell 213 = .ok (.goto (-13), 3) := by decide +kernel
theorem dX4_tell_216 : decode cX4_tell 216 = .ok (.aload_n 0, 1) := by decide +kernel
theorem dX4_tell_217 : decode cX4_tell 217 = .ok (.iconst 0, 1) := by decide +kernel
theorem dX4_tell_218 : decode cX4_tell 218 = .ok (.putfield 32, 3) := by decide +kernel
theorem dX4_tell_221 : decode cX4_tell 221 = .ok (.iload_n 2, 1) := by decide +kernel
theorem dX4_tell_222 : decode cX4_tell 222 = .ok (.ireturn, 1) := by decide +kernel
set_option maxRecDepth 20000 in
theorem ggX4_faultOfFigure_X6_boundOf : GoodIn wsX4_faultOfFigure wsX6_boundOf := goodIn_r _ [4] (by decide +kernel) (by decide +kernel)
set_option maxRecDepth 20000 in
theorem gX4_faultOfFigure_X6_boundOf_n69 : GoodIn wsX4_faultOfFigure (wsX6_boundOf) := ggX4_faultOfFigure_X6_boundOf
theorem dX4_faultOfFigure_0 : decode cX4_faultOfFigure 0 = .ok (.iload_n 1, 1) := by decide +kernel
theorem dX4_faultOfFigure_1 : decode cX4_faultOfFigure 1 = .ok (.bipush 48, 2) := by decide +kernel
theorem dX4_faultOfFigure_3 : decode cX4_faultOfFigure 3 = .ok (.if_icmp .lt 9, 3) := by decide +kernel
theorem dX4_faultOfFigure_6 : decode cX4_faultOfFigure 6 = .ok (.iload_n 1, 1) := by decide +kernel
theorem dX4_faultOfFigure_7 : decode cX4_faultOfFigure 7 = .ok (.bipush 57, 2) := by decide +kernel
theorem dX4_faultOfFigure_9 : decode cX4_faultOfFigure 9 = .ok (.if_icmp .le 5, 3) := by decide +kernel
theorem dX4_faultOfFigure_12 : decode cX4_faultOfFigure 12 = .ok (.iconst 1, 1) := by decide +kernel
theorem dX4_faultOfFigure_13 : decode cX4_faultOfFigure 13 = .ok (.ireturn, 1) := by decide +kernel
theorem dX4_faultOfFigure_14 : decode cX4_faultOfFigure 14 = .ok (.iload_n 1, 1) := by decide +kernel
theorem dX4_faultOfFigure_15 : decode cX4_faultOfFigure 15 = .ok (.bipush 48, 2) := by decide +kernel
theorem dX4_faultOfFigure_17 : decode cX4_faultOfFigure 17 = .ok (.isub, 1) := by decide +kernel
theorem dX4_faultOfFigure_18 : decode cX4_faultOfFigure 18 = .ok (.aload_n 0, 1) := by decide +kernel
theorem dX4_faultOfFigure_19 : decode cX4_faultOfFigure 19 = .ok (.getfield 52, 3) := by decide +kernel
theorem dX4_faultOfFigure_22 : decode cX4_faultOfFigure 22 = .ok (.invokestatic 69, 3) := by decide +kernel
theorem dX4_faultOfFigure_25 : decode cX4_faultOfFigure 25 = .ok (.if_icmp .ge 7, 3) := by decide +kernel
theorem dX4_faultOfFigure_28 : decode cX4_faultOfFigure 28 = .ok (.iconst 0, 1) := by decide +kernel
theorem dX4_faultOfFigure_29 : decode cX4_faultOfFigure 29 = .ok (.goto 4, 3) := by decide +kernel
theorem dX4_faultOfFigure_32 : decode cX4_faultOfFigure 32 = .ok (.iconst 2, 1) := by decide +kernel
theorem dX4_faultOfFigure_33 : decode cX4_faultOfFigure 33 = .ok (.ireturn, 1) := by decide +kernel
set_option maxRecDepth 20000 in
theorem ggX4_tellSign_X4_itemOf : GoodIn wsX4_tellSign wsX4_itemOf := goodIn_r _ [6] (by decide +kernel) (by decide +kernel)
set_option maxRecDepth 20000 in
theorem gX4_tellSign_X4_itemOf : GoodIn wsX4_tellSign (va_wsS RX4 72 yX4_itemOf wsX4_itemOf) := goodIn_app (goodIn_of _ (by decide +kernel)) ggX4_tellSign_X4_itemOf
theorem dX4_tellSign_0 : decode cX4_tellSign 0 = .ok (.aload_n 0, 1) := by decide +kernel
theorem dX4_tellSign_1 : decode cX4_tellSign 1 = .ok (.getfield 36, 3) := by decide +kernel
theorem dX4_tellSign_4 : decode cX4_tellSign 4 = .ok (.ifCond .ne 30, 3) := by decide +kernel
theorem dX4_tellSign_7 : decode cX4_tellSign 7 = .ok (.aload_n 0, 1) := by decide +kernel
theorem dX4_tellSign_8 : decode cX4_tellSign 8 = .ok (.iload_n 1, 1) := by decide +kernel
theorem dX4_tellSign_9 : decode cX4_tellSign 9 = .ok (.invokestatic 72, 3) := by decide +kernel
theorem dX4_tellSign_12 : decode cX4_tellSign 12 = .ok (.putfield 52, 3) := by decide +kernel
theorem dX4_tellSign_15 : decode cX4_tellSign 15 = .ok (.aload_n 0, 1) := by decide +kernel
theorem dX4_tellSign_16 : decode cX4_tellSign 16 = .ok (.iconst 1, 1) := by decide +kernel
theorem dX4_tellSign_17 : decode cX4_tellSign 17 = .ok (.putfield 36, 3) := by decide +kernel
theorem dX4_tellSign_20 : decode cX4_tellSign 20 = .ok (.aload_n 0, 1) := by decide +kernel
theorem dX4_tellSign_21 : decode cX4_tellSign 21 = .ok (.getfield 52, 3) := by decide +kernel
theorem dX4_tellSign_24 : decode cX4_tellSign 24 = .ok (.iconst (-1), 1) := by decide +kernel
theorem dX4_tellSign_25 : decode cX4_tellSign 25 = .ok (.if_icmp .ne 7, 3) := by decide +kernel
theorem dX4_tellSign_28 : decode cX4_tellSign 28 = .ok (.iconst 1, 1) := by decide +kernel
theorem dX4_tellSign_29 : decode cX4_tellSign 29 = .ok (.goto 4, 3) := by decide +kernel
theorem dX4_tellSign_32 : decode cX4_tellSign 32 = .ok (.iconst 0, 1) := by decide +kernel
theorem dX4_tellSign_33 : decode cX4_tellSign 33 = .ok (.ireturn, 1) := by decide +kernel
theorem dX4_tellSign_34 : decode cX4_tellSign 34 = .ok (.aload_n 0, 1) := by decide +kernel
theorem dX4_tellSign_35 : decode cX4_tellSign 35 = .ok (.getfield 36, 3) := by decide +kernel
theorem dX4_tellSign_38 : decode cX4_tellSign 38 = .ok (.iconst 2, 1) := by decide +kernel
theorem dX4_tellSign_39 : decode cX4_tellSign 39 = .ok (.if_icmp .ne 8, 3) := by decide +kernel
theorem dX4_tellSign_42 : decode cX4_tellSign 42 = .ok (.bipush 59, 2) := by decide +kernel
theorem dX4_tellSign_44 : decode cX4_tellSign 44 = .ok (.goto 5, 3) := by decide +kernel
theorem dX4_tellSign_47 : decode cX4_tellSign 47 = .ok (.bipush 40, 2) := by decide +kernel
theorem dX4_tellSign_49 : decode cX4_tellSign 49 = .ok (.istore_n 2, 1) := by decide +kernel
theorem dX4_tellSign_50 : decode cX4_tellSign 50 = .ok (.aload_n 0, 1) := by decide +kernel
theorem dX4_tellSign_51 : decode cX4_tellSign 51 = .ok (.iconst 0, 1) := by decide +kernel
theorem dX4_tellSign_52 : decode cX4_tellSign 52 = .ok (.putfield 36, 3) := by decide +kernel
theorem dX4_tellSign_55 : decode cX4_tellSign 55 = .ok (.iload_n 1, 1) := by decide +kernel
theorem dX4_tellSign_56 : decode cX4_tellSign 56 = .ok (.iload_n 2, 1) := by decide +kernel
theorem dX4_tellSign_57 : decode cX4_tellSign 57 = .ok (.if_icmp .ne 7, 3) := by decide +kernel
theorem dX4_tellSign_60 : decode cX4_tellSign 60 = .ok (.iconst 0, 1) := by decide +kernel
theorem dX4_tellSign_61 : decode cX4_tellSign 61 = .ok (.goto 4, 3) := by decide +kernel
theorem dX4_tellSign_64 : decode cX4_tellSign 64 = .ok (.iconst 1, 1) := by decide +kernel
theorem dX4_tellSign_65 : decode cX4_tellSign 65 = .ok (.ireturn, 1) := by decide +kernel
set_option maxRecDepth 20000 in
theorem ggX4_tellThread_X5_goes : GoodIn wsX4_tellThread wsX5_goes := goodIn_r _ [7, 8, 28, 29, 30, 31, 32, 33, 34] (by decide +kernel) (by decide +kernel)
set_option maxRecDepth 20000 in
theorem gX4_tellThread_X5_goes : GoodIn wsX4_tellThread (wsV RX4 75 RX5 yX5_goes wsX5_goes) := goodIn_app (goodIn_of _ (by decide +kernel)) ggX4_tellThread_X5_goes
set_option maxRecDepth 20000 in
theorem ggX4_tellThread_X4_open : GoodIn wsX4_tellThread wsX4_open := goodIn_r _ [13, 14, 15, 16, 1, 17, 18, 19, 20, 21, 22, 23, 24, 25, 26, 27] (by decide +kernel) (by decide +kernel)
set_option maxRecDepth 20000 in
theorem gX4_tellThread_X4_open : GoodIn wsX4_tellThread (wsV RX4 81 RX4 yX4_open wsX4_open) := goodIn_app (goodIn_of _ (by decide +kernel)) ggX4_tellThread_X4_open
theorem dX4_tellThread_0 : decode cX4_tellThread 0 = .ok (.aload_n 2, 1) := by decide +kernel
theorem dX4_tellThread_1 : decode cX4_tellThread 1 = .ok (.iload_n 1, 1) := by decide +kernel
theorem dX4_tellThread_2 : decode cX4_tellThread 2 = .ok (.invokevirtual 75, 3) := by decide +kernel
theorem dX4_tellThread_5 : decode cX4_tellThread 5 = .ok (.ifCond .ne 5, 3) := by decide +kernel
theorem dX4_tellThread_8 : decode cX4_tellThread 8 = .ok (.iconst 4, 1) := by decide +kernel
theorem dX4_tellThread_9 : decode cX4_tellThread 9 = .ok (.ireturn, 1) := by decide +kernel
theorem dX4_tellThread_10 : decode cX4_tellThread 10 = .ok (.aload_n 0, 1) := by decide +kernel
theorem dX4_tellThread_11 : decode cX4_tellThread 11 = .ok (.iconst (-1), 1) := by decide +kernel
theorem dX4_tellThread_12 : decode cX4_tellThread 12 = .ok (.invokevirtual 81, 3) := by decide +kernel
theorem dX4_tellThread_15 : decode cX4_tellThread 15 = .ok (.aload_n 0, 1) := by decide +kernel
theorem dX4_tellThread_16 : decode cX4_tellThread 16 = .ok (.iload_n 1, 1) := by decide +kernel
theorem dX4_tellThread_17 : decode cX4_tellThread 17 = .ok (.putfield 39, 3) := by decide +kernel
theorem dX4_tellThread_20 : decode cX4_tellThread 20 = .ok (.aload_n 0, 1) := by decide +kernel
theorem dX4_tellThread_21 : decode cX4_tellThread 21 = .ok (.iconst 3, 1) := by decide +kernel
theorem dX4_tellThread_22 : decode cX4_tellThread 22 = .ok (.putfield 36, 3) := by decide +kernel
theorem dX4_tellThread_25 : decode cX4_tellThread 25 = .ok (.iconst 0, 1) := by decide +kernel
theorem dX4_tellThread_26 : decode cX4_tellThread 26 = .ok (.ireturn, 1) := by decide +kernel
set_option maxRecDepth 20000 in
theorem ggX4_tellEvent_X3_hasRoom : GoodIn wsX4_tellEvent wsX3_hasRoom := goodIn_r _ [11, 12, 191, 192, 193, 194, 195, 196, 197, 198] (by decide +kernel) (by decide +kernel)
set_option maxRecDepth 20000 in
theorem gX4_tellEvent_X3_hasRoom : GoodIn wsX4_tellEvent (wsV RX4 89 RX3 yX3_hasRoom wsX3_hasRoom) := goodIn_app (goodIn_of _ (by decide +kernel)) ggX4_tellEvent_X3_hasRoom
set_option maxRecDepth 20000 in
theorem ggX4_tellEvent_X5_canBe : GoodIn wsX4_tellEvent wsX5_canBe := goodIn_r _ [17, 18, 19, 20, 21, 22, 16, 23, 24, 25, 26, 27, 184, 185, 186, 187, 188, 189, 190] (by decide +kernel) (by decide +kernel)
set_option maxRecDepth 20000 in
theorem gX4_tellEvent_X5_canBe : GoodIn wsX4_tellEvent (wsV RX4 94 RX5 yX5_canBe wsX5_canBe) := goodIn_app (goodIn_of _ (by decide +kernel)) ggX4_tellEvent_X5_canBe
set_option maxRecDepth 20000 in
theorem ggX4_tellEvent_X5_stepIsMuch : GoodIn wsX4_tellEvent wsX5_stepIsMuch := goodIn_r _ [31, 32, 33, 34, 35, 36, 37, 38, 39, 184, 185, 186, 187, 188, 189, 190, 199, 200] (by decide +kernel) (by decide +kernel)
set_option maxRecDepth 20000 in
theorem gX4_tellEvent_X5_stepIsMuch : GoodIn wsX4_tellEvent (wsV RX4 98 RX5 yX5_stepIsMuch wsX5_stepIsMuch) := goodIn_app (goodIn_of _ (by decide +kernel)) ggX4_tellEvent_X5_stepIsMuch
set_option maxRecDepth 20000 in
theorem ggX4_tellEvent_X5_come : GoodIn wsX4_tellEvent wsX5_come := goodIn_r _ [43, 44, 45, 32, 46, 47, 8, 9, 10, 11, 12, 48, 49, 50, 16, 51, 52, 18, 53, 19, 54, 55, 56, 37, 57, 58, 59, 60, 61, 62, 35, 36, 38, 39, 63, 64, 65, 66, 24, 25, 26, 27, 67, 68, 69, 70, 71, 72, 73, 74, 75, 76, 77, 78, 79, 80, 81, 82, 83, 84, 85, 86, 87, 88, 89, 90, 91, 92, 93, 94, 95, 96, 97, 98, 99, 100, 101, 102, 103, 104, 105, 106, 107, 108, 109, 110, 111, 112, 113, 114, 115, 116, 117, 118, 119, 120, 121, 122, 123, 124, 125, 126, 127, 128, 129, 130, 131, 132, 133, 134, 135, 136, 137, 138, 139, 140, 141, 142, 143, 144, 145, 146, 147, 148, 149, 150, 151, 33, 34, 152, 184, 185, 186, 187, 188, 189, 190, 191, 192, 193, 194, 195, 196, 197, 198, 199, 200, 201, 202, 203, 204, 205, 206, 207, 208, 209, 210] (by decide +kernel) (by decide +kernel)
set_option maxRecDepth 20000 in
theorem gX4_tellEvent_X5_come : GoodIn wsX4_tellEvent (wsV RX4 102 RX5 yX5_come wsX5_come) := goodIn_app (goodIn_of _ (by decide +kernel)) ggX4_tellEvent_X5_come
set_option maxRecDepth 20000 in
theorem ggX4_tellEvent_X4_open : GoodIn wsX4_tellEvent wsX4_open := goodIn_r _ [157, 158, 159, 160, 4, 173, 174, 175, 176, 177, 178, 179, 180, 181, 182, 183] (by decide +kernel) (by decide +kernel)
set_option maxRecDepth 20000 in
theorem gX4_tellEvent_X4_open : GoodIn wsX4_tellEvent (wsV RX4 81 RX4 yX4_open wsX4_open) := goodIn_app (goodIn_of _ (by decide +kernel)) ggX4_tellEvent_X4_open
set_option maxRecDepth 20000 in
theorem ggX4_tellEvent_X0_enter : GoodIn wsX4_tellEvent wsX0_enter := goodIn_r _ [165, 166, 167, 81, 82, 83, 168, 169, 170, 171, 60, 172, 211, 212, 213] (by decide +kernel) (by decide +kernel)
set_option maxRecDepth 20000 in
theorem gX4_tellEvent_X0_enter : GoodIn wsX4_tellEvent (wsV RX4 106 RX0 yX0_enter wsX0_enter) := goodIn_app (goodIn_of _ (by decide +kernel)) ggX4_tellEvent_X0_enter
theorem dX4_tellEvent_0 : decode cX4_tellEvent 0 = .ok (.aload_n 0, 1) := by decide +kernel
theorem dX4_tellEvent_1 : decode cX4_tellEvent 1 = .ok (.getfield 52, 3) := by decide +kernel
theorem dX4_tellEvent_4 : decode cX4_tellEvent 4 = .ok (.iconst 2, 1) := by decide +kernel
theorem dX4_tellEvent_5 : decode cX4_tellEvent 5 = .ok (.if_icmp .ne 7, 3) := by decide +kernel
theorem dX4_tellEvent_8 : decode cX4_tellEvent 8 = .ok (.iconst 2, 1) := by decide +kernel
theorem dX4_tellEvent_9 : decode cX4_tellEvent 9 = .ok (.goto 4, 3) := by decide +kernel
theorem dX4_tellEvent_12 : decode cX4_tellEvent 12 = .ok (.iconst 1, 1) := by decide +kernel
theorem dX4_tellEvent_13 : decode cX4_tellEvent 13 = .ok (.istore_n 3, 1) := by decide +kernel
theorem dX4_tellEvent_14 : decode cX4_tellEvent 14 = .ok (.aload_n 2, 1) := by decide +kernel
theorem dX4_tellEvent_15 : decode cX4_tellEvent 15 = .ok (.getfield 85, 3) := by decide +kernel
theorem dX4_tellEvent_18 : decode cX4_tellEvent 18 = .ok (.iload_n 3, 1) := by decide +kernel
theorem dX4_tellEvent_19 : decode cX4_tellEvent 19 = .ok (.aload_n 0, 1) := by decide +kernel
theorem dX4_tellEvent_20 : decode cX4_tellEvent 20 = .ok (.getfield 42, 3) := by decide +kernel
theorem dX4_tellEvent_23 : decode cX4_tellEvent 23 = .ok (.iadd, 1) := by decide +kernel
theorem dX4_tellEvent_24 : decode cX4_tellEvent 24 = .ok (.invokevirtual 89, 3) := by decide +kernel
theorem dX4_tellEvent_27 : decode cX4_tellEvent 27 = .ok (.ifCond .ne 5, 3) := by decide +kernel
theorem dX4_tellEvent_30 : decode cX4_tellEvent 30 = .ok (.iconst 3, 1) := by decide +kernel
theorem dX4_tellEvent_31 : decode cX4_tellEvent 31 = .ok (.ireturn, 1) := by decide +kernel
theorem dX4_tellEvent_32 : decode cX4_tellEvent 32 = .ok (.aload_n 2, 1) := by decide +kernel
theorem dX4_tellEvent_33 : decode cX4_tellEvent 33 = .ok (.aload_n 0, 1) := by decide +kernel
theorem dX4_tellEvent_34 : decode cX4_tellEvent 34 = .ok (.getfield 39, 3) := by decide +kernel
theorem dX4_tellEvent_37 : decode cX4_tellEvent 37 = .ok (.aload_n 0, 1) := by decide +kernel
theorem dX4_tellEvent_38 : decode cX4_tellEvent 38 = .ok (.getfield 52, 3) := by decide +kernel
theorem dX4_tellEvent_41 : decode cX4_tellEvent 41 = .ok (.iload_n 1, 1) := by decide +kernel
theorem dX4_tellEvent_42 : decode cX4_tellEvent 42 = .ok (.invokevirtual 94, 3) := by decide +kernel
theorem dX4_tellEvent_45 : decode cX4_tellEvent 45 = .ok (.ifCond .eq 18, 3) := by decide +kernel
theorem dX4_tellEvent_48 : decode cX4_tellEvent 48 = .ok (.aload_n 2, 1) := by decide +kernel
theorem dX4_tellEvent_49 : decode cX4_tellEvent 49 = .ok (.aload_n 0, 1) := by decide +kernel
theorem dX4_tellEvent_50 : decode cX4_tellEvent 50 = .ok (.getfield 39, 3) := by decide +kernel
theorem dX4_tellEvent_53 : decode cX4_tellEvent 53 = .ok (.aload_n 0, 1) := by decide +kernel
theorem dX4_tellEvent_54 : decode cX4_tellEvent 54 = .ok (.getfield 52, 3) := by decide +kernel
theorem dX4_tellEvent_57 : decode cX4_tellEvent 57 = .ok (.invokevirtual 98, 3) := by decide +kernel
theorem dX4_tellEvent_60 : decode cX4_tellEvent 60 = .ok (.ifCond .eq 5, 3) := by decide +kernel
theorem dX4_tellEvent_63 : decode cX4_tellEvent 63 = .ok (.iconst 4, 1) := by decide +kernel
theorem dX4_tellEvent_64 : decode cX4_tellEvent 64 = .ok (.ireturn, 1) := by decide +kernel
theorem dX4_tellEvent_65 : decode cX4_tellEvent 65 = .ok (.aload_n 2, 1) := by decide +kernel
theorem dX4_tellEvent_66 : decode cX4_tellEvent 66 = .ok (.aload_n 0, 1) := by decide +kernel
theorem dX4_tellEvent_67 : decode cX4_tellEvent 67 = .ok (.getfield 39, 3) := by decide +kernel
theorem dX4_tellEvent_70 : decode cX4_tellEvent 70 = .ok (.aload_n 0, 1) := by decide +kernel
theorem dX4_tellEvent_71 : decode cX4_tellEvent 71 = .ok (.getfield 52, 3) := by decide +kernel
theorem dX4_tellEvent_74 : decode cX4_tellEvent 74 = .ok (.iload_n 1, 1) := by decide +kernel
theorem dX4_tellEvent_75 : decode cX4_tellEvent 75 = .ok (.invokevirtual 102, 3) := by decide +kernel
theorem dX4_tellEvent_78 : decode cX4_tellEvent 78 = .ok (.pop, 1) := by decide +kernel
theorem dX4_tellEvent_79 : decode cX4_tellEvent 79 = .ok (.aload_n 0, 1) := by decide +kernel
theorem dX4_tellEvent_80 : decode cX4_tellEvent 80 = .ok (.getfield 52, 3) := by decide +kernel
theorem dX4_tellEvent_83 : decode cX4_tellEvent 83 = .ok (.iconst 2, 1) := by decide +kernel
theorem dX4_tellEvent_84 : decode cX4_tellEvent 84 = .ok (.if_icmp .eq 10, 3) := by decide +kernel
theorem dX4_tellEvent_87 : decode cX4_tellEvent 87 = .ok (.aload_n 0, 1) := by decide +kernel
theorem dX4_tellEvent_88 : decode cX4_tellEvent 88 = .ok (.iconst 2, 1) := by decide +kernel
theorem dX4_tellEvent_89 : decode cX4_tellEvent 89 = .ok (.putfield 36, 3) := by decide +kernel
theorem dX4_tellEvent_92 : decode cX4_tellEvent 92 = .ok (.iconst 0, 1) := by decide +kernel
theorem dX4_tellEvent_93 : decode cX4_tellEvent 93 = .ok (.ireturn, 1) := by decide +kernel
theorem dX4_tellEvent_94 : decode cX4_tellEvent 94 = .ok (.aload_n 0, 1) := by decide +kernel
theorem dX4_tellEvent_95 : decode cX4_tellEvent 95 = .ok (.iload_n 1, 1) := by decide +kernel
theorem dX4_tellEvent_96 : decode cX4_tellEvent 96 = .ok (.invokevirtual 81, 3) := by decide +kernel
theorem dX4_tellEvent_99 : decode cX4_tellEvent 99 = .ok (.aload_n 0, 1) := by decide +kernel
theorem dX4_tellEvent_100 : decode cX4_tellEvent 100 = .ok (.dup, 1) := by decide +kernel
theorem dX4_tellEvent_101 : decode cX4_tellEvent 101 = .ok (.getfield 42, 3) := by decide +kernel
theorem dX4_tellEvent_104 : decode cX4_tellEvent 104 = .ok (.iconst 1, 1) := by decide +kernel
theorem dX4_tellEvent_105 : decode cX4_tellEvent 105 = .ok (.iadd, 1) := by decide +kernel
theorem dX4_tellEvent_106 : decode cX4_tellEvent 106 = .ok (.putfield 42, 3) := by decide +kernel
theorem dX4_tellEvent_109 : decode cX4_tellEvent 109 = .ok (.aload_n 0, 1) := by decide +kernel
theorem dX4_tellEvent_110 : decode cX4_tellEvent 110 = .ok (.getfield 18, 3) := by decide +kernel
theorem dX4_tellEvent_113 : decode cX4_tellEvent 113 = .ok (.iload_n 1, 1) := by decide +kernel
theorem dX4_tellEvent_114 : decode cX4_tellEvent 114 = .ok (.iconst 1, 1) := by decide +kernel
theorem dX4_tellEvent_115 : decode cX4_tellEvent 115 = .ok (.invokevirtual 106, 3) := by decide +kernel
theorem dX4_tellEvent_118 : decode cX4_tellEvent 118 = .ok (.aload_n 0, 1) := by decide +kernel
theorem dX4_tellEvent_119 : decode cX4_tellEvent 119 = .ok (.iconst 3, 1) := by decide +kernel
theorem dX4_tellEvent_120 : decode cX4_tellEvent 120 = .ok (.putfield 36, 3) := by decide +kernel
theorem dX4_tellEvent_123 : decode cX4_tellEvent 123 = .ok (.iconst 0, 1) := by decide +kernel
theorem dX4_tellEvent_124 : decode cX4_tellEvent 124 = .ok (.ireturn, 1) := by decide +kernel
theorem dX4_open_0 : decode cX4_open 0 = .ok (.aload_n 0, 1) := by decide +kernel
theorem dX4_open_1 : decode cX4_open 1 = .ok (.getfield 45, 3) := by decide +kernel
theorem dX4_open_4 : decode cX4_open 4 = .ok (.sipush 240, 3) := by decide +kernel
theorem dX4_open_7 : decode cX4_open 7 = .ok (.if_icmp .ge 36, 3) := by decide +kernel
theorem dX4_open_10 : decode cX4_open 10 = .ok (.aload_n 0, 1) := by decide +kernel
theorem dX4_open_11 : decode cX4_open 11 = .ok (.getfield 26, 3) := by decide +kernel
theorem dX4_open_14 : decode cX4_open 14 = .ok (.aload_n 0, 1) := by decide +kernel
theorem dX4_open_15 : decode cX4_open 15 = .ok (.getfield 45, 3) := by decide +kernel
theorem dX4_open_18 : decode cX4_open 18 = .ok (.iload_n 1, 1) := by decide +kernel
theorem dX4_open_19 : decode cX4_open 19 = .ok (.iastore, 1) := by decide +kernel
theorem dX4_open_20 : decode cX4_open 20 = .ok (.aload_n 0, 1) := by decide +kernel
theorem dX4_open_21 : decode cX4_open 21 = .ok (.getfield 29, 3) := by decide +kernel
theorem dX4_open_24 : decode cX4_open 24 = .ok (.aload_n 0, 1) := by decide +kernel
theorem dX4_open_25 : decode cX4_open 25 = .ok (.getfield 45, 3) := by decide +kernel
theorem dX4_open_28 : decode cX4_open 28 = .ok (.aload_n 0, 1) := by decide +kernel
theorem dX4_open_29 : decode cX4_open 29 = .ok (.getfield 39, 3) := by decide +kernel
theorem dX4_open_32 : decode cX4_open 32 = .ok (.iastore, 1) := by decide +kernel
theorem dX4_open_33 : decode cX4_open 33 = .ok (.aload_n 0, 1) := by decide +kernel
theorem dX4_open_34 : decode cX4_open 34 = .ok (.dup, 1) := by decide +kernel
theorem dX4_open_35 : decode cX4_open 35 = .ok (.getfield 45, 3) := by decide +kernel
theorem dX4_open_38 : decode cX4_open 38 = .ok (.iconst 1, 1) := by decide +kernel
theorem dX4_open_39 : decode cX4_open 39 = .ok (.iadd, 1) := by decide +kernel
theorem dX4_open_40 : decode cX4_open 40 = .ok (.putfield 45, 3) := by decide +kernel
theorem dX4_open_43 : decode cX4_open 43 = .ok (.return_, 1) := by decide +kernel
set_option maxRecDepth 20000 in
theorem ggX4_shutLast_X5_come : GoodIn wsX4_shutLast wsX5_come := goodIn_r _ [11, 12, 13, 14, 15, 16, 17, 18, 19, 20, 21, 22, 23, 24, 10, 25, 26, 27, 28, 29, 30, 31, 32, 33, 34, 35, 36, 37, 38, 39, 40, 41, 42, 43, 44, 45, 46, 47, 48, 49, 50, 51, 52, 53, 54, 55, 56, 57, 58, 59, 60, 61, 62, 63, 64, 65, 66, 67, 68, 69, 70, 71, 72, 73, 74, 75, 76, 77, 78, 79, 80, 81, 82, 83, 84, 85, 86, 87, 88, 89, 90, 91, 92, 93, 94, 95, 96, 97, 98, 99, 100, 101, 102, 103, 104, 105, 106, 107, 108, 109, 110, 111, 112, 113, 114, 115, 116, 117, 118, 119, 120, 121, 122, 123, 124, 125, 126, 127, 128, 129, 130, 131, 132, 133, 134, 135, 136, 137, 138, 139, 163, 164, 165, 166, 167, 168, 169, 170, 171, 172, 173, 174, 175, 176, 177, 178, 179, 180, 181, 182, 183, 184, 185, 186, 187, 188, 189] (by decide +kernel) (by decide +kernel)
set_option maxRecDepth 20000 in
theorem gX4_shutLast_X5_come : GoodIn wsX4_shutLast (wsV RX4 102 RX5 yX5_come wsX5_come) := goodIn_app (goodIn_of _ (by decide +kernel)) ggX4_shutLast_X5_come
set_option maxRecDepth 20000 in
theorem ggX4_shutLast_X0_enter : GoodIn wsX4_shutLast wsX0_enter := goodIn_r _ [144, 145, 146, 66, 67, 68, 147, 148, 149, 150, 37, 151, 190, 191, 192] (by decide +kernel) (by decide +kernel)
set_option maxRecDepth 20000 in
theorem gX4_shutLast_X0_enter : GoodIn wsX4_shutLast (wsV RX4 106 RX0 yX0_enter wsX0_enter) := goodIn_app (goodIn_of _ (by decide +kernel)) ggX4_shutLast_X0_enter
theorem dX4_shutLast_0 : decode cX4_shutLast 0 = .ok (.aload_n 0, 1) := by decide +kernel
theorem dX4_shutLast_1 : decode cX4_shutLast 1 = .ok (.dup, 1) := by decide +kernel
theorem dX4_shutLast_2 : decode cX4_shutLast 2 = .ok (.getfield 45, 3) := by decide +kernel
theorem dX4_shutLast_5 : decode cX4_shutLast 5 = .ok (.iconst 1, 1) := by decide +kernel
theorem dX4_shutLast_6 : decode cX4_shutLast 6 = .ok (.isub, 1) := by decide +kernel
theorem dX4_shutLast_7 : decode cX4_shutLast 7 = .ok (.putfield 45, 3) := by decide +kernel
theorem dX4_shutLast_10 : decode cX4_shutLast 10 = .ok (.aload_n 0, 1) := by decide +kernel
theorem dX4_shutLast_11 : decode cX4_shutLast 11 = .ok (.aload_n 0, 1) := by decide +kernel
theorem dX4_shutLast_12 : decode cX4_shutLast 12 = .ok (.getfield 29, 3) := by decide +kernel
theorem dX4_shutLast_15 : decode cX4_shutLast 15 = .ok (.aload_n 0, 1) := by decide +kernel
theorem dX4_shutLast_16 : decode cX4_shutLast 16 = .ok (.getfield 45, 3) := by decide +kernel
theorem dX4_shutLast_19 : decode cX4_shutLast 19 = .ok (.iaload, 1) := by decide +kernel
theorem dX4_shutLast_20 : decode cX4_shutLast 20 = .ok (.putfield 39, 3) := by decide +kernel
theorem dX4_shutLast_23 : decode cX4_shutLast 23 = .ok (.aload_n 0, 1) := by decide +kernel
theorem dX4_shutLast_24 : decode cX4_shutLast 24 = .ok (.getfield 26, 3) := by decide +kernel
theorem dX4_shutLast_27 : decode cX4_shutLast 27 = .ok (.aload_n 0, 1) := by decide +kernel
theorem dX4_shutLast_28 : decode cX4_shutLast 28 = .ok (.getfield 45, 3) := by decide +kernel
theorem dX4_shutLast_31 : decode cX4_shutLast 31 = .ok (.iaload, 1) := by decide +kernel
theorem dX4_shutLast_32 : decode cX4_shutLast 32 = .ok (.istore_n 2, 1) := by decide +kernel
theorem dX4_shutLast_33 : decode cX4_shutLast 33 = .ok (.iload_n 2, 1) := by decide +kernel
theorem dX4_shutLast_34 : decode cX4_shutLast 34 = .ok (.iconst (-1), 1) := by decide +kernel
theorem dX4_shutLast_35 : decode cX4_shutLast 35 = .ok (.if_icmp .eq 33, 3) := by decide +kernel
theorem dX4_shutLast_38 : decode cX4_shutLast 38 = .ok (.aload_n 1, 1) := by decide +kernel
theorem dX4_shutLast_39 : decode cX4_shutLast 39 = .ok (.aload_n 0, 1) := by decide +kernel
theorem dX4_shutLast_40 : decode cX4_shutLast 40 = .ok (.getfield 39, 3) := by decide +kernel
theorem dX4_shutLast_43 : decode cX4_shutLast 43 = .ok (.iconst 3, 1) := by decide +kernel
theorem dX4_shutLast_44 : decode cX4_shutLast 44 = .ok (.iload_n 2, 1) := by decide +kernel
theorem dX4_shutLast_45 : decode cX4_shutLast 45 = .ok (.invokevirtual 102, 3) := by decide +kernel
theorem dX4_shutLast_48 : decode cX4_shutLast 48 = .ok (.pop, 1) := by decide +kernel
theorem dX4_shutLast_49 : decode cX4_shutLast 49 = .ok (.aload_n 0, 1) := by decide +kernel
theorem dX4_shutLast_50 : decode cX4_shutLast 50 = .ok (.dup, 1) := by decide +kernel
theorem dX4_shutLast_51 : decode cX4_shutLast 51 = .ok (.getfield 42, 3) := by decide +kernel
theorem dX4_shutLast_54 : decode cX4_shutLast 54 = .ok (.iconst 1, 1) := by decide +kernel
theorem dX4_shutLast_55 : decode cX4_shutLast 55 = .ok (.isub, 1) := by decide +kernel
theorem dX4_shutLast_56 : decode cX4_shutLast 56 = .ok (.putfield 42, 3) := by decide +kernel
theorem dX4_shutLast_59 : decode cX4_shutLast 59 = .ok (.aload_n 0, 1) := by decide +kernel
theorem dX4_shutLast_60 : decode cX4_shutLast 60 = .ok (.getfield 18, 3) := by decide +kernel
theorem dX4_shutLast_63 : decode cX4_shutLast 63 = .ok (.iload_n 2, 1) := by decide +kernel
theorem dX4_shutLast_64 : decode cX4_shutLast 64 = .ok (.iconst 0, 1) := by decide +kernel
theorem dX4_shutLast_65 : decode cX4_shutLast 65 = .ok (.invokevirtual 106, 3) := by decide +kernel
theorem dX4_shutLast_68 : decode cX4_shutLast 68 = .ok (.return_, 1) := by decide +kernel
theorem dX4_itemOf_0 : decode cX4_itemOf 0 = .ok (.iload_n 0, 1) := by decide +kernel
theorem dX4_itemOf_1 : decode cX4_itemOf 1 = .ok (.tableswitch 106 102 119 #[95, 93, 106, 106, 98, 106, 101, 106, 106, 106, 91, 106, 87, 106, 103, 106, 106, 89], 87) := by decide +kernel
theorem dX4_itemOf_88 : decode cX4_itemOf 88 = .ok (.iconst 0, 1) := by decide +kernel
theorem dX4_itemOf_89 : decode cX4_itemOf 89 = .ok (.ireturn, 1) := by decide +kernel
theorem dX4_itemOf_90 : decode cX4_itemOf 90 = .ok (.iconst 1, 1) := by decide +kernel
theorem dX4_itemOf_91 : decode cX4_itemOf 91 = .ok (.ireturn, 1) := by decide +kernel
theorem dX4_itemOf_92 : decode cX4_itemOf 92 = .ok (.iconst 4, 1) := by decide +kernel
theorem dX4_itemOf_93 : decode cX4_itemOf 93 = .ok (.ireturn, 1) := by decide +kernel
theorem dX4_itemOf_94 : decode cX4_itemOf 94 = .ok (.iconst 5, 1) := by decide +kernel
theorem dX4_itemOf_95 : decode cX4_itemOf 95 = .ok (.ireturn, 1) := by decide +kernel
theorem dX4_itemOf_96 : decode cX4_itemOf 96 = .ok (.bipush 6, 2) := by decide +kernel
theorem dX4_itemOf_98 : decode cX4_itemOf 98 = .ok (.ireturn, 1) := by decide +kernel
theorem dX4_itemOf_99 : decode cX4_itemOf 99 = .ok (.bipush 7, 2) := by decide +kernel
theorem dX4_itemOf_101 : decode cX4_itemOf 101 = .ok (.ireturn, 1) := by decide +kernel
theorem dX4_itemOf_102 : decode cX4_itemOf 102 = .ok (.iconst 2, 1) := by decide +kernel
theorem dX4_itemOf_103 : decode cX4_itemOf 103 = .ok (.ireturn, 1) := by decide +kernel
theorem dX4_itemOf_104 : decode cX4_itemOf 104 = .ok (.bipush 8, 2) := by decide +kernel
theorem dX4_itemOf_106 : decode cX4_itemOf 106 = .ok (.ireturn, 1) := by decide +kernel
theorem dX4_itemOf_107 : decode cX4_itemOf 107 = .ok (.iconst (-1), 1) := by decide +kernel
theorem dX4_itemOf_108 : decode cX4_itemOf 108 = .ok (.ireturn, 1) := by decide +kernel
set_option maxRecDepth 20000 in
theorem ggX5_init_X1_init : GoodIn wsX5_init wsX1_init := goodIn_r _ [23, 24, 2, 3, 25, 26, 27, 28, 29, 4, 30, 96, 97] (by decide +kernel) (by decide +kernel)
set_option maxRecDepth 20000 in
theorem gX5_init_X1_init : GoodIn wsX5_init (wsX1_init) := ggX5_init_X1_init
set_option maxRecDepth 20000 in
theorem ggX5_init_X2_init : GoodIn wsX5_init wsX2_init := goodIn_r _ [32, 33, 2, 3, 4, 34, 98, 99, 100, 101, 102, 103, 104, 105, 106, 107] (by decide +kernel) (by decide +kernel)
set_option maxRecDepth 20000 in
theorem gX5_init_X2_init_n35 : GoodIn wsX5_init (wsX2_init) := ggX5_init_X2_init
set_option maxRecDepth 20000 in
theorem ggX5_init_X3_init : GoodIn wsX5_init wsX3_init := goodIn_r _ [36, 37, 2, 3, 4, 38, 39, 40, 41, 42, 8, 9, 43, 44, 45, 46, 22, 23, 24, 25, 26, 27, 28, 29, 30, 108, 109, 110, 111, 112, 113, 114, 115, 96, 97] (by decide +kernel) (by decide +kernel)
set_option maxRecDepth 20000 in
theorem gX5_init_X3_init_n42 : GoodIn wsX5_init (wsX3_init) := ggX5_init_X3_init
set_option maxRecDepth 20000 in
theorem ggX5_init_X5_begin : GoodIn wsX5_init wsX5_begin := goodIn_r _ [51, 5, 6, 10, 11, 12, 16, 20, 52, 53, 54, 55, 56, 57, 58, 9, 59, 30, 60, 61, 62, 63, 64, 65, 66, 67, 15, 68, 69, 70, 71, 72, 73, 74, 75, 76, 77, 78, 79, 80, 81, 34, 82, 83, 84, 85, 19, 86, 87, 45, 88, 89, 90, 91, 92, 93, 94, 95, 96, 97, 98, 99, 100, 101, 102, 103, 104, 105, 106, 107, 108, 109, 110, 111, 112, 113, 114, 115] (by decide +kernel) (by decide +kernel)
set_option maxRecDepth 20000 in
theorem gX5_init_X5_begin : GoodIn wsX5_init (wsV RX5 47 RX5 yX5_begin wsX5_begin) := goodIn_app (goodIn_of _ (by decide +kernel)) ggX5_init_X5_begin
theorem dX5_init_0 : decode cX5_init 0 = .ok (.aload_n 0, 1) := by decide +kernel
theorem dX5_init_1 : decode cX5_init 1 = .ok (.invokespecial 3, 3) := by decide +kernel
theorem dX5_init_4 : decode cX5_init 4 = .ok (.aload_n 0, 1) := by decide +kernel
theorem dX5_init_5 : decode cX5_init 5 = .ok (.iconst 4, 1) := by decide +kernel
theorem dX5_init_6 : decode cX5_init 6 = .ok (.newarray .int, 2) := by decide +kernel
theorem dX5_init_8 : decode cX5_init 8 = .ok (.putfield 9, 3) := by decide +kernel
theorem dX5_init_11 : decode cX5_init 11 = .ok (.aload_n 0, 1) := by decide +kernel
theorem dX5_init_12 : decode cX5_init 12 = .ok (.iconst 3, 1) := by decide +kernel
theorem dX5_init_13 : decode cX5_init 13 = .ok (.newarray .int, 2) := by decide +kernel
theorem dX5_init_15 : decode cX5_init 15 = .ok (.putfield 15, 3) := by decide +kernel
theorem dX5_init_18 : decode cX5_init 18 = .ok (.aload_n 0, 1) := by decide +kernel
theorem dX5_init_19 : decode cX5_init 19 = .ok (.new 18, 3) := by decide +kernel
theorem dX5_init_22 : decode cX5_init 22 = .ok (.dup, 1) := by decide +kernel
theorem dX5_init_23 : decode cX5_init 23 = .ok (.iconst 4, 1) := by decide +kernel
theorem dX5_init_24 : decode cX5_init 24 = .ok (.invokespecial 20, 3) := by decide +kernel
theorem dX5_init_27 : decode cX5_init 27 = .ok (.putfield 23, 3) := by decide +kernel
theorem dX5_init_30 : decode cX5_init 30 = .ok (.aload_n 0, 1) := by decide +kernel
theorem dX5_init_31 : decode cX5_init 31 = .ok (.new 18, 3) := by decide +kernel
theorem dX5_init_34 : decode cX5_init 34 = .ok (.dup, 1) := by decide +kernel
theorem dX5_init_35 : decode cX5_init 35 = .ok (.iconst 3, 1) := by decide +kernel
theorem dX5_init_36 : decode cX5_init 36 = .ok (.invokespecial 20, 3) := by decide +kernel
theorem dX5_init_39 : decode cX5_init 39 = .ok (.putfield 27, 3) := by decide +kernel
theorem dX5_init_42 : decode cX5_init 42 = .ok (.aload_n 0, 1) := by decide +kernel
theorem dX5_init_43 : decode cX5_init 43 = .ok (.new 18, 3) := by decide +kernel
theorem dX5_init_46 : decode cX5_init 46 = .ok (.dup, 1) := by decide +kernel
theorem dX5_init_47 : decode cX5_init 47 = .ok (.iconst 2, 1) := by decide +kernel
theorem dX5_init_48 : decode cX5_init 48 = .ok (.invokespecial 20, 3) := by decide +kernel
theorem dX5_init_51 : decode cX5_init 51 = .ok (.putfield 30, 3) := by decide +kernel
theorem dX5_init_54 : decode cX5_init 54 = .ok (.aload_n 0, 1) := by decide +kernel
theorem dX5_init_55 : decode cX5_init 55 = .ok (.iconst 4, 1) := by decide +kernel
theorem dX5_init_56 : decode cX5_init 56 = .ok (.anewarray 33, 3) := by decide +kernel
theorem dX5_init_59 : decode cX5_init 59 = .ok (.dup, 1) := by decide +kernel
theorem dX5_init_60 : decode cX5_init 60 = .ok (.iconst 0, 1) := by decide +kernel
theorem dX5_init_61 : decode cX5_init 61 = .ok (.new 33, 3) := by decide +kernel
theorem dX5_init_64 : decode cX5_init 64 = .ok (.dup, 1) := by decide +kernel
theorem dX5_init_65 : decode cX5_init 65 = .ok (.invokespecial 35, 3) := by decide +kernel
theorem dX5_init_68 : decode cX5_init 68 = .ok (.aastore, 1) := by decide +kernel
theorem dX5_init_69 : decode cX5_init 69 = .ok (.dup, 1) := by decide +kernel
theorem dX5_init_70 : decode cX5_init 70 = .ok (.iconst 1, 1) := by decide +kernel
theorem dX5_init_71 : decode cX5_init 71 = .ok (.new 33, 3) := by decide +kernel
theorem dX5_init_74 : decode cX5_init 74 = .ok (.dup, 1) := by decide +kernel
theorem dX5_init_75 : decode cX5_init 75 = .ok (.invokespecial 35, 3) := by decide +kernel
theorem dX5_init_78 : decode cX5_init 78 = .ok (.aastore, 1) := by decide +kernel
theorem dX5_init_79 : decode cX5_init 79 = .ok (.dup, 1) := by decide +kernel
theorem dX5_init_80 : decode cX5_init 80 = .ok (.iconst 2, 1) := by decide +kernel
theorem dX5_init_81 : decode cX5_init 81 = .ok (.new 33, 3) := by decide +kernel
theorem dX5_init_84 : decode cX5_init 84 = .ok (.dup, 1) := by decide +kernel
theorem dX5_init_85 : decode cX5_init 85 = .ok (.invokespecial 35, 3) := by decide +kernel
theorem dX5_init_88 : decode cX5_init 88 = .ok (.aastore, 1) := by decide +kernel
theorem dX5_init_89 : decode cX5_init 89 = .ok (.dup, 1) := by decide +kernel
theorem dX5_init_90 : decode cX5_init 90 = .ok (.iconst 3, 1) := by decide +kernel
theorem dX5_init_91 : decode cX5_init 91 = .ok (.new 33, 3) := by decide +kernel
theorem dX5_init_94 : decode cX5_init 94 = .ok (.dup, 1) := by decide +kernel
theorem dX5_init_95 : decode cX5_init 95 = .ok (.invokespecial 35, 3) := by decide +kernel
theorem dX5_init_98 : decode cX5_init 98 = .ok (.aastore, 1) := by decide +kernel
theorem dX5_init_99 : decode cX5_init 99 = .ok (.putfield 36, 3) := by decide +kernel
theorem dX5_init_102 : decode cX5_init 102 = .ok (.aload_n 0, 1) := by decide +kernel
theorem dX5_init_103 : decode cX5_init 103 = .ok (.new 40, 3) := by decide +kernel
theorem dX5_init_106 : decode cX5_init 106 = .ok (.dup, 1) := by decide +kernel
theorem dX5_init_107 : decode cX5_init 107 = .ok (.invokespecial 42, 3) := by decide +kernel
theorem dX5_init_110 : decode cX5_init 110 = .ok (.putfield 43, 3) := by decide +kernel
theorem dX5_init_113 : decode cX5_init 113 = .ok (.aload_n 0, 1) := by decide +kernel
theorem dX5_init_114 : decode cX5_init 114 = .ok (.invokevirtual 47, 3) := by decide +kernel
theorem dX5_init_117 : decode cX5_init 117 = .ok (.return_, 1) := by decide +kernel
set_option maxRecDepth 20000 in
theorem ggX5_begin_J7_fill_53178 : GoodIn wsX5_begin wsJ7_fill_53178 := goodIn_r _ [11] (by decide +kernel) (by decide +kernel)
set_option maxRecDepth 20000 in
theorem gX5_begin_J7_fill_53178 : GoodIn wsX5_begin (va_wsS RX5 50 yJ7_fill_53178 wsJ7_fill_53178) := goodIn_app (goodIn_of _ (by decide +kernel)) ggX5_begin_J7_fill_53178
set_option maxRecDepth 20000 in
theorem ggX5_begin_X1_clear : GoodIn wsX5_begin wsX1_clear := goodIn_r _ [16, 17, 18, 9, 10, 11, 58, 59] (by decide +kernel) (by decide +kernel)
set_option maxRecDepth 20000 in
theorem gX5_begin_X1_clear : GoodIn wsX5_begin (wsV RX5 56 RX1 yX1_clear wsX1_clear) := goodIn_app (goodIn_of _ (by decide +kernel)) ggX5_begin_X1_clear
set_option maxRecDepth 20000 in
theorem ggX5_begin_X1_set : GoodIn wsX5_begin wsX1_set := goodIn_r _ [22, 17, 58, 59] (by decide +kernel) (by decide +kernel)
set_option maxRecDepth 20000 in
theorem gX5_begin_X1_set : GoodIn wsX5_begin (wsV RX5 59 RX1 yX1_set wsX1_set) := goodIn_app (goodIn_of _ (by decide +kernel)) ggX5_begin_X1_set
set_option maxRecDepth 20000 in
theorem ggX5_begin_X2_begin : GoodIn wsX5_begin wsX2_begin := goodIn_r _ [27, 28, 29, 30, 31, 32, 33, 34, 35, 36, 26, 37, 38, 39, 40, 41, 42, 9, 10, 11, 60, 61, 62, 63, 64, 65, 66, 67, 68, 69] (by decide +kernel) (by decide +kernel)
set_option maxRecDepth 20000 in
theorem gX5_begin_X2_begin : GoodIn wsX5_begin (wsV RX5 63 RX2 yX2_begin wsX2_begin) := goodIn_app (goodIn_of _ (by decide +kernel)) ggX5_begin_X2_begin
set_option maxRecDepth 20000 in
theorem ggX5_begin_X3_begin : GoodIn wsX5_begin wsX3_begin := goodIn_r _ [47, 48, 49, 50, 9, 10, 11, 70, 71, 72, 73, 74, 75, 76, 77] (by decide +kernel) (by decide +kernel)
set_option maxRecDepth 20000 in
theorem gX5_begin_X3_begin : GoodIn wsX5_begin (wsV RX5 64 RX3 yX3_begin wsX3_begin) := goodIn_app (goodIn_of _ (by decide +kernel)) ggX5_begin_X3_begin
theorem dX5_begin_0 : decode cX5_begin 0 = .ok (.aload_n 0, 1) := by decide +kernel
theorem dX5_begin_1 : decode cX5_begin 1 = .ok (.getfield 9, 3) := by decide +kernel
theorem dX5_begin_4 : decode cX5_begin 4 = .ok (.iconst 0, 1) := by decide +kernel
theorem dX5_begin_5 : decode cX5_begin 5 = .ok (.invokestatic 50, 3) := by decide +kernel
theorem dX5_begin_8 : decode cX5_begin 8 = .ok (.aload_n 0, 1) := by decide +kernel
theorem dX5_begin_9 : decode cX5_begin 9 = .ok (.getfield 9, 3) := by decide +kernel
theorem dX5_begin_12 : decode cX5_begin 12 = .ok (.iconst 0, 1) := by decide +kernel
theorem dX5_begin_13 : decode cX5_begin 13 = .ok (.iconst 1, 1) := by decide +kernel
theorem dX5_begin_14 : decode cX5_begin 14 = .ok (.iastore, 1) := by decide +kernel
theorem dX5_begin_15 : decode cX5_begin 15 = .ok (.aload_n 0, 1) := by decide +kernel
theorem dX5_begin_16 : decode cX5_begin 16 = .ok (.getfield 15, 3) := by decide +kernel
theorem dX5_begin_19 : decode cX5_begin 19 = .ok (.iconst (-1), 1) := by decide +kernel
theorem dX5_begin_20 : decode cX5_begin 20 = .ok (.invokestatic 50, 3) := by decide +kernel
theorem dX5_begin_23 : decode cX5_begin 23 = .ok (.aload_n 0, 1) := by decide +kernel
theorem dX5_begin_24 : decode cX5_begin 24 = .ok (.getfield 23, 3) := by decide +kernel
theorem dX5_begin_27 : decode cX5_begin 27 = .ok (.invokevirtual 56, 3) := by decide +kernel
theorem dX5_begin_30 : decode cX5_begin 30 = .ok (.iconst 0, 1) := by decide +kernel
theorem dX5_begin_31 : decode cX5_begin 31 = .ok (.istore_n 1, 1) := by decide +kernel
theorem dX5_begin_32 : decode cX5_begin 32 = .ok (.iload_n 1, 1) := by decide +kernel
theorem dX5_begin_33 : decode cX5_begin 33 = .ok (.iconst 4, 1) := by decide +kernel
theorem dX5_begin_34 : decode cX5_begin 34 = .ok (.if_icmp .ge 19, 3) := by decide +kernel
theorem dX5_begin_37 : decode cX5_begin 37 = .ok (.aload_n 0, 1) := by decide +kernel
theorem dX5_begin_38 : decode cX5_begin 38 = .ok (.getfield 23, 3) := by decide +kernel
theorem dX5_begin_41 : decode cX5_begin 41 = .ok (.iload_n 1, 1) := by decide +kernel
theorem dX5_begin_42 : decode cX5_begin 42 = .ok (.iload_n 1, 1) := by decide +kernel
theorem dX5_begin_43 : decode cX5_begin 43 = .ok (.iconst 1, 1) := by decide +kernel
theorem dX5_begin_44 : decode cX5_begin 44 = .ok (.invokevirtual 59, 3) := by decide +kernel
theorem dX5_begin_47 : decode cX5_begin 47 = .ok (.iinc 1 1, 3) := by decide +kernel
theorem dX5_begin_50 : decode cX5_begin 50 = .ok (.goto (-18), 3) := by decide +kernel
theorem dX5_begin_53 : decode cX5_begin 53 = .ok (.aload_n 0, 1) := by decide +kernel
theorem dX5_begin_54 : decode cX5_begin 54 = .ok (.getfield 27, 3) := by decide +kernel
theorem dX5_begin_57 : decode cX5_begin 57 = .ok (.invokevirtual 56, 3) := by decide +kernel
theorem dX5_begin_60 : decode cX5_begin 60 = .ok (.aload_n 0, 1) := by decide +kernel
theorem dX5_begin_61 : decode cX5_begin 61 = .ok (.getfield 30, 3) := by decide +kernel
theorem dX5_begin_64 : decode cX5_begin 64 = .ok (.invokevirtual 56, 3) := by decide +kernel
theorem dX5_begin_67 : decode cX5_begin 67 = .ok (.iconst 0, 1) := by decide +kernel
theorem dX5_begin_68 : decode cX5_begin 68 = .ok (.istore_n 1, 1) := by decide +kernel
theorem dX5_begin_69 : decode cX5_begin 69 = .ok (.iload_n 1, 1) := by decide +kernel
theorem dX5_begin_70 : decode cX5_begin 70 = .ok (.iconst 4, 1) := by decide +kernel
theorem dX5_begin_71 : decode cX5_begin 71 = .ok (.if_icmp .ge 18, 3) := by decide +kernel
theorem dX5_begin_74 : decode cX5_begin 74 = .ok (.aload_n 0, 1) := by decide +kernel
theorem dX5_begin_75 : decode cX5_begin 75 = .ok (.getfield 36, 3) := by decide +kernel
theorem dX5_begin_78 : decode cX5_begin 78 = .ok (.iload_n 1, 1) := by decide +kernel
theorem dX5_begin_79 : decode cX5_begin 79 = .ok (.aaload, 1) := by decide +kernel
theorem dX5_begin_80 : decode cX5_begin 80 = .ok (.invokevirtual 63, 3) := by decide +kernel
theorem dX5_begin_83 : decode cX5_begin 83 = .ok (.iinc 1 1, 3) := by decide +kernel
theorem dX5_begin_86 : decode cX5_begin 86 = .ok (.goto (-17), 3) := by decide +kernel
theorem dX5_begin_89 : decode cX5_begin 89 = .ok (.aload_n 0, 1) := by decide +kernel
theorem dX5_begin_90 : decode cX5_begin 90 = .ok (.getfield 43, 3) := by decide +kernel
theorem dX5_begin_93 : decode cX5_begin 93 = .ok (.invokevirtual 64, 3) := by decide +kernel
theorem dX5_begin_96 : decode cX5_begin 96 = .ok (.return_, 1) := by decide +kernel
set_option maxRecDepth 20000 in
theorem ggX5_copy_X1_copyRows : GoodIn wsX5_copy wsX1_copyRows := goodIn_r _ [16, 17, 18, 3, 4, 5, 57, 58] (by decide +kernel) (by decide +kernel)
set_option maxRecDepth 20000 in
theorem gX5_copy_X1_copyRows : GoodIn wsX5_copy (wsV RX5 71 RX1 yX1_copyRows wsX1_copyRows) := goodIn_app (goodIn_of _ (by decide +kernel)) ggX5_copy_X1_copyRows
set_option maxRecDepth 20000 in
theorem ggX5_copy_X2_copy : GoodIn wsX5_copy wsX2_copy := goodIn_r _ [23, 24, 25, 26, 27, 28, 29, 30, 3, 4, 5, 31, 32, 33, 34, 59, 60, 61, 62, 63, 64, 65, 66, 67, 68] (by decide +kernel) (by decide +kernel)
set_option maxRecDepth 20000 in
theorem gX5_copy_X2_copy : GoodIn wsX5_copy (wsV RX5 75 RX2 yX2_copy wsX2_copy) := goodIn_app (goodIn_of _ (by decide +kernel)) ggX5_copy_X2_copy
set_option maxRecDepth 20000 in
theorem ggX5_copy_X3_copy : GoodIn wsX5_copy wsX3_copy := goodIn_r _ [39, 40, 41, 42, 3, 4, 5, 43, 44, 45, 46, 47, 48, 49, 13, 14, 15, 16, 17, 18, 69, 70, 71, 72, 73, 74, 75, 76, 57, 58] (by decide +kernel) (by decide +kernel)
set_option maxRecDepth 20000 in
theorem gX5_copy_X3_copy : GoodIn wsX5_copy (wsV RX5 79 RX3 yX3_copy wsX3_copy) := goodIn_app (goodIn_of _ (by decide +kernel)) ggX5_copy_X3_copy
theorem dX5_copy_0 : decode cX5_copy 0 = .ok (.aload_n 1, 1) := by decide +kernel
theorem dX5_copy_1 : decode cX5_copy 1 = .ok (.getfield 9, 3) := by decide +kernel
theorem dX5_copy_4 : decode cX5_copy 4 = .ok (.iconst 0, 1) := by decide +kernel
theorem dX5_copy_5 : decode cX5_copy 5 = .ok (.aload_n 0, 1) := by decide +kernel
theorem dX5_copy_6 : decode cX5_copy 6 = .ok (.getfield 9, 3) := by decide +kernel
theorem dX5_copy_9 : decode cX5_copy 9 = .ok (.iconst 0, 1) := by decide +kernel
theorem dX5_copy_10 : decode cX5_copy 10 = .ok (.iconst 4, 1) := by decide +kernel
theorem dX5_copy_11 : decode cX5_copy 11 = .ok (.invokestatic 65, 3) := by decide +kernel
theorem dX5_copy_14 : decode cX5_copy 14 = .ok (.aload_n 1, 1) := by decide +kernel
theorem dX5_copy_15 : decode cX5_copy 15 = .ok (.getfield 15, 3) := by decide +kernel
theorem dX5_copy_18 : decode cX5_copy 18 = .ok (.iconst 0, 1) := by decide +kernel
theorem dX5_copy_19 : decode cX5_copy 19 = .ok (.aload_n 0, 1) := by decide +kernel
theorem dX5_copy_20 : decode cX5_copy 20 = .ok (.getfield 15, 3) := by decide +kernel
theorem dX5_copy_23 : decode cX5_copy 23 = .ok (.iconst 0, 1) := by decide +kernel
theorem dX5_copy_24 : decode cX5_copy 24 = .ok (.iconst 3, 1) := by decide +kernel
theorem dX5_copy_25 : decode cX5_copy 25 = .ok (.invokestatic 65, 3) := by decide +kernel
theorem dX5_copy_28 : decode cX5_copy 28 = .ok (.aload_n 0, 1) := by decide +kernel
theorem dX5_copy_29 : decode cX5_copy 29 = .ok (.getfield 23, 3) := by decide +kernel
theorem dX5_copy_32 : decode cX5_copy 32 = .ok (.aload_n 1, 1) := by decide +kernel
theorem dX5_copy_33 : decode cX5_copy 33 = .ok (.getfield 23, 3) := by decide +kernel
theorem dX5_copy_36 : decode cX5_copy 36 = .ok (.iconst 4, 1) := by decide +kernel
theorem dX5_copy_37 : decode cX5_copy 37 = .ok (.invokevirtual 71, 3) := by decide +kernel
theorem dX5_copy_40 : decode cX5_copy 40 = .ok (.aload_n 0, 1) := by decide +kernel
theorem dX5_copy_41 : decode cX5_copy 41 = .ok (.getfield 27, 3) := by decide +kernel
theorem dX5_copy_44 : decode cX5_copy 44 = .ok (.aload_n 1, 1) := by decide +kernel
theorem dX5_copy_45 : decode cX5_copy 45 = .ok (.getfield 27, 3) := by decide +kernel
theorem dX5_copy_48 : decode cX5_copy 48 = .ok (.iconst 3, 1) := by decide +kernel
theorem dX5_copy_49 : decode cX5_copy 49 = .ok (.invokevirtual 71, 3) := by decide +kernel
theorem dX5_copy_52 : decode cX5_copy 52 = .ok (.aload_n 0, 1) := by decide +kernel
theorem dX5_copy_53 : decode cX5_copy 53 = .ok (.getfield 30, 3) := by decide +kernel
theorem dX5_copy_56 : decode cX5_copy 56 = .ok (.aload_n 1, 1) := by decide +kernel
theorem dX5_copy_57 : decode cX5_copy 57 = .ok (.getfield 30, 3) := by decide +kernel
theorem dX5_copy_60 : decode cX5_copy 60 = .ok (.iconst 2, 1) := by decide +kernel
theorem dX5_copy_61 : decode cX5_copy 61 = .ok (.invokevirtual 71, 3) := by decide +kernel
theorem dX5_copy_64 : decode cX5_copy 64 = .ok (.iconst 0, 1) := by decide +kernel
theorem dX5_copy_65 : decode cX5_copy 65 = .ok (.istore_n 2, 1) := by decide +kernel
theorem dX5_copy_66 : decode cX5_copy 66 = .ok (.iload_n 2, 1) := by decide +kernel
theorem dX5_copy_67 : decode cX5_copy 67 = .ok (.iconst 4, 1) := by decide +kernel
theorem dX5_copy_68 : decode cX5_copy 68 = .ok (.if_icmp .ge 24, 3) := by decide +kernel
theorem dX5_copy_71 : decode cX5_copy 71 = .ok (.aload_n 0, 1) := by decide +kernel
theorem dX5_copy_72 : decode cX5_copy 72 = .ok (.getfield 36, 3) := by decide +kernel
theorem dX5_copy_75 : decode cX5_copy 75 = .ok (.iload_n 2, 1) := by decide +kernel
theorem dX5_copy_76 : decode cX5_copy 76 = .ok (.aaload, 1) := by decide +kernel
theorem dX5_copy_77 : decode cX5_copy 77 = .ok (.aload_n 1, 1) := by decide +kernel
theorem dX5_copy_78 : decode cX5_copy 78 = .ok (.getfield 36, 3) := by decide +kernel
theorem dX5_copy_81 : decode cX5_copy 81 = .ok (.iload_n 2, 1) := by decide +kernel
theorem dX5_copy_82 : decode cX5_copy 82 = .ok (.aaload, 1) := by decide +kernel
theorem dX5_copy_83 : decode cX5_copy 83 = .ok (.invokevirtual 75, 3) := by decide +kernel
theorem dX5_copy_86 : decode cX5_copy 86 = .ok (.iinc 2 1, 3) := by decide +kernel
theorem dX5_copy_89 : decode cX5_copy 89 = .ok (.goto (-23), 3) := by decide +kernel
theorem dX5_copy_92 : decode cX5_copy 92 = .ok (.aload_n 0, 1) := by decide +kernel
theorem dX5_copy_93 : decode cX5_copy 93 = .ok (.getfield 43, 3) := by decide +kernel
theorem dX5_copy_96 : decode cX5_copy 96 = .ok (.aload_n 1, 1) := by decide +kernel
theorem dX5_copy_97 : decode cX5_copy 97 = .ok (.getfield 43, 3) := by decide +kernel
theorem dX5_copy_100 : decode cX5_copy 100 = .ok (.invokevirtual 79, 3) := by decide +kernel
theorem dX5_copy_103 : decode cX5_copy 103 = .ok (.return_, 1) := by decide +kernel
theorem dX5_goes_0 : decode cX5_goes 0 = .ok (.aload_n 0, 1) := by decide +kernel
theorem dX5_goes_1 : decode cX5_goes 1 = .ok (.getfield 9, 3) := by decide +kernel
theorem dX5_goes_4 : decode cX5_goes 4 = .ok (.iload_n 1, 1) := by decide +kernel
theorem dX5_goes_5 : decode cX5_goes 5 = .ok (.iaload, 1) := by decide +kernel
theorem dX5_goes_6 : decode cX5_goes 6 = .ok (.iconst 1, 1) := by decide +kernel
theorem dX5_goes_7 : decode cX5_goes 7 = .ok (.if_icmp .ne 7, 3) := by decide +kernel
theorem dX5_goes_10 : decode cX5_goes 10 = .ok (.iconst 1, 1) := by decide +kernel
theorem dX5_goes_11 : decode cX5_goes 11 = .ok (.goto 4, 3) := by decide +kernel
theorem dX5_goes_14 : decode cX5_goes 14 = .ok (.iconst 0, 1) := by decide +kernel
theorem dX5_goes_15 : decode cX5_goes 15 = .ok (.ireturn, 1) := by decide +kernel
theorem dX5_threadsThat_0 : decode cX5_threadsThat 0 = .ok (.iconst 0, 1) := by decide +kernel
theorem dX5_threadsThat_1 : decode cX5_threadsThat 1 = .ok (.istore_n 2, 1) := by decide +kernel
theorem dX5_threadsThat_2 : decode cX5_threadsThat 2 = .ok (.iconst 0, 1) := by decide +kernel
theorem dX5_threadsThat_3 : decode cX5_threadsThat 3 = .ok (.istore_n 3, 1) := by decide +kernel
theorem dX5_threadsThat_4 : decode cX5_threadsThat 4 = .ok (.iload_n 3, 1) := by decide +kernel
theorem dX5_threadsThat_5 : decode cX5_threadsThat 5 = .ok (.iconst 4, 1) := by decide +kernel
theorem dX5_threadsThat_6 : decode cX5_threadsThat 6 = .ok (.if_icmp .ge 25, 3) := by decide +kernel
theorem dX5_threadsThat_9 : decode cX5_threadsThat 9 = .ok (.aload_n 0, 1) := by decide +kernel
theorem dX5_threadsThat_10 : decode cX5_threadsThat 10 = .ok (.getfield 9, 3) := by decide +kernel
theorem dX5_threadsThat_13 : decode cX5_threadsThat 13 = .ok (.iload_n 3, 1) := by decide +kernel
theorem dX5_threadsThat_14 : decode cX5_threadsThat 14 = .ok (.iaload, 1) := by decide +kernel
theorem dX5_threadsThat_15 : decode cX5_threadsThat 15 = .ok (.iload_n 1, 1) := by decide +kernel
theorem dX5_threadsThat_16 : decode cX5_threadsThat 16 = .ok (.if_icmp .ne 9, 3) := by decide +kernel
theorem dX5_threadsThat_19 : decode cX5_threadsThat 19 = .ok (.iload_n 2, 1) := by decide +kernel
theorem dX5_threadsThat_20 : decode cX5_threadsThat 20 = .ok (.iconst 1, 1) := by decide +kernel
theorem dX5_threadsThat_21 : decode cX5_threadsThat 21 = .ok (.iload_n 3, 1) := by decide +kernel
theorem dX5_threadsThat_22 : decode cX5_threadsThat 22 = .ok (.ishl, 1) := by decide +kernel
theorem dX5_threadsThat_23 : decode cX5_threadsThat 23 = .ok (.ior, 1) := by decide +kernel
theorem dX5_threadsThat_24 : decode cX5_threadsThat 24 = .ok (.istore_n 2, 1) := by decide +kernel
theorem dX5_threadsThat_25 : decode cX5_threadsThat 25 = .ok (.iinc 3 1, 3) := by decide +kernel
theorem dX5_threadsThat_28 : decode cX5_threadsThat 28 = .ok (.goto (-24), 3) := by decide +kernel
theorem dX5_threadsThat_31 : decode cX5_threadsThat 31 = .ok (.iload_n 2, 1) := by decide +kernel
theorem dX5_threadsThat_32 : decode cX5_threadsThat 32 = .ok (.ireturn, 1) := by decide +kernel
set_option maxRecDepth 20000 in
theorem ggX5_heldLocks_X5_locksOf : GoodIn wsX5_heldLocks wsX5_locksOf := goodIn_r _ [5, 6, 7, 8, 9, 10, 11, 12, 13] (by decide +kernel) (by decide +kernel)
set_option maxRecDepth 20000 in
theorem gX5_heldLocks_X5_locksOf : GoodIn wsX5_heldLocks (wsV RX5 82 RX5 yX5_locksOf wsX5_locksOf) := goodIn_app (goodIn_of _ (by decide +kernel)) ggX5_heldLocks_X5_locksOf
theorem dX5_heldLocks_0 : decode cX5_heldLocks 0 = .ok (.iconst 0, 1) := by decide +kernel
theorem dX5_heldLocks_1 : decode cX5_heldLocks 1 = .ok (.istore_n 1, 1) := by decide +kernel
theorem dX5_heldLocks_2 : decode cX5_heldLocks 2 = .ok (.iconst 0, 1) := by decide +kernel
theorem dX5_heldLocks_3 : decode cX5_heldLocks 3 = .ok (.istore_n 2, 1) := by decide +kernel
theorem dX5_heldLocks_4 : decode cX5_heldLocks 4 = .ok (.iload_n 2, 1) := by decide +kernel
theorem dX5_heldLocks_5 : decode cX5_heldLocks 5 = .ok (.iconst 4, 1) := by decide +kernel
theorem dX5_heldLocks_6 : decode cX5_heldLocks 6 = .ok (.if_icmp .ge 17, 3) := by decide +kernel
theorem dX5_heldLocks_9 : decode cX5_heldLocks 9 = .ok (.iload_n 1, 1) := by decide +kernel
theorem dX5_heldLocks_10 : decode cX5_heldLocks 10 = .ok (.aload_n 0, 1) := by decide +kernel
theorem dX5_heldLocks_11 : decode cX5_heldLocks 11 = .ok (.iload_n 2, 1) := by decide +kernel
theorem dX5_heldLocks_12 : decode cX5_heldLocks 12 = .ok (.invokevirtual 82, 3) := by decide +kernel
theorem dX5_heldLocks_15 : decode cX5_heldLocks 15 = .ok (.ior, 1) := by decide +kernel
theorem dX5_heldLocks_16 : decode cX5_heldLocks 16 = .ok (.istore_n 1, 1) := by decide +kernel
theorem dX5_heldLocks_17 : decode cX5_heldLocks 17 = .ok (.iinc 2 1, 3) := by decide +kernel
theorem dX5_heldLocks_20 : decode cX5_heldLocks 20 = .ok (.goto (-16), 3) := by decide +kernel
theorem dX5_heldLocks_23 : decode cX5_heldLocks 23 = .ok (.iload_n 1, 1) := by decide +kernel
theorem dX5_heldLocks_24 : decode cX5_heldLocks 24 = .ok (.ireturn, 1) := by decide +kernel
theorem dX5_promotionsOfAll_0 : decode cX5_promotionsOfAll 0 = .ok (.iconst 0, 1) := by decide +kernel
theorem dX5_promotionsOfAll_1 : decode cX5_promotionsOfAll 1 = .ok (.istore_n 1, 1) := by decide +kernel
theorem dX5_promotionsOfAll_2 : decode cX5_promotionsOfAll 2 = .ok (.iconst 0, 1) := by decide +kernel
theorem dX5_promotionsOfAll_3 : decode cX5_promotionsOfAll 3 = .ok (.istore_n 2, 1) := by decide +kernel
theorem dX5_promotionsOfAll_4 : decode cX5_promotionsOfAll 4 = .ok (.iload_n 2, 1) := by decide +kernel
theorem dX5_promotionsOfAll_5 : decode cX5_promotionsOfAll 5 = .ok (.iconst 4, 1) := by decide +kernel
theorem dX5_promotionsOfAll_6 : decode cX5_promotionsOfAll 6 = .ok (.if_icmp .ge 21, 3) := by decide +kernel
theorem dX5_promotionsOfAll_9 : decode cX5_promotionsOfAll 9 = .ok (.iload_n 1, 1) := by decide +kernel
theorem dX5_promotionsOfAll_10 : decode cX5_promotionsOfAll 10 = .ok (.aload_n 0, 1) := by decide +kernel
theorem dX5_promotionsOfAll_11 : decode cX5_promotionsOfAll 11 = .ok (.getfield 36, 3) := by decide +kernel
theorem dX5_promotionsOfAll_14 : decode cX5_promotionsOfAll 14 = .ok (.iload_n 2, 1) := by decide +kernel
theorem dX5_promotionsOfAll_15 : decode cX5_promotionsOfAll 15 = .ok (.aaload, 1) := by decide +kernel
theorem dX5_promotionsOfAll_16 : decode cX5_promotionsOfAll 16 = .ok (.getfield 86, 3) := by decide +kernel
theorem dX5_promotionsOfAll_19 : decode cX5_promotionsOfAll 19 = .ok (.iadd, 1) := by decide +kernel
theorem dX5_promotionsOfAll_20 : decode cX5_promotionsOfAll 20 = .ok (.istore_n 1, 1) := by decide +kernel
theorem dX5_promotionsOfAll_21 : decode cX5_promotionsOfAll 21 = .ok (.iinc 2 1, 3) := by decide +kernel
theorem dX5_promotionsOfAll_24 : decode cX5_promotionsOfAll 24 = .ok (.goto (-20), 3) := by decide +kernel
theorem dX5_promotionsOfAll_27 : decode cX5_promotionsOfAll 27 = .ok (.iload_n 1, 1) := by decide +kernel
theorem dX5_promotionsOfAll_28 : decode cX5_promotionsOfAll 28 = .ok (.ireturn, 1) := by decide +kernel
set_option maxRecDepth 20000 in
theorem ggX5_canBe_X5_goes : GoodIn wsX5_canBe wsX5_goes := goodIn_r _ [7, 2, 12, 13, 14, 15, 16, 17, 18] (by decide +kernel) (by decide +kernel)
set_option maxRecDepth 20000 in
theorem gX5_canBe_X5_goes : GoodIn wsX5_canBe (wsV RX5 90 RX5 yX5_goes wsX5_goes) := goodIn_app (goodIn_of _ (by decide +kernel)) ggX5_canBe_X5_goes
set_option maxRecDepth 20000 in
theorem ggX5_canBe_X5_locksOf : GoodIn wsX5_canBe wsX5_locksOf := goodIn_r _ [11, 1, 12, 13, 14, 15, 16, 17, 18] (by decide +kernel) (by decide +kernel)
set_option maxRecDepth 20000 in
theorem gX5_canBe_X5_locksOf : GoodIn wsX5_canBe (wsV RX5 82 RX5 yX5_locksOf wsX5_locksOf) := goodIn_app (goodIn_of _ (by decide +kernel)) ggX5_canBe_X5_locksOf
theorem dX5_canBe_0 : decode cX5_canBe 0 = .ok (.aload_n 0, 1) := by decide +kernel
theorem dX5_canBe_1 : decode cX5_canBe 1 = .ok (.iload_n 1, 1) := by decide +kernel
theorem dX5_canBe_2 : decode cX5_canBe 2 = .ok (.invokevirtual 90, 3) := by decide +kernel
theorem dX5_canBe_5 : decode cX5_canBe 5 = .ok (.ifCond .ne 5, 3) := by decide +kernel
theorem dX5_canBe_8 : decode cX5_canBe 8 = .ok (.iconst 0, 1) := by decide +kernel
theorem dX5_canBe_9 : decode cX5_canBe 9 = .ok (.ireturn, 1) := by decide +kernel
theorem dX5_canBe_10 : decode cX5_canBe 10 = .ok (.iload_n 2, 1) := by decide +kernel
theorem dX5_canBe_11 : decode cX5_canBe 11 = .ok (.tableswitch 111 2 7 #[37, 53, 111, 111, 69, 84], 37) := by decide +kernel
theorem dX5_canBe_48 : decode cX5_canBe 48 = .ok (.aload_n 0, 1) := by decide +kernel
theorem dX5_canBe_49 : decode cX5_canBe 49 = .ok (.getfield 15, 3) := by decide +kernel
theorem dX5_canBe_52 : decode cX5_canBe 52 = .ok (.iload_n 3, 1) := by decide +kernel
theorem dX5_canBe_53 : decode cX5_canBe 53 = .ok (.iaload, 1) := by decide +kernel
theorem dX5_canBe_54 : decode cX5_canBe 54 = .ok (.iconst (-1), 1) := by decide +kernel
theorem dX5_canBe_55 : decode cX5_canBe 55 = .ok (.if_icmp .ne 7, 3) := by decide +kernel
theorem dX5_canBe_58 : decode cX5_canBe 58 = .ok (.iconst 1, 1) := by decide +kernel
theorem dX5_canBe_59 : decode cX5_canBe 59 = .ok (.goto 4, 3) := by decide +kernel
theorem dX5_canBe_62 : decode cX5_canBe 62 = .ok (.iconst 0, 1) := by decide +kernel
theorem dX5_canBe_63 : decode cX5_canBe 63 = .ok (.ireturn, 1) := by decide +kernel
theorem dX5_canBe_64 : decode cX5_canBe 64 = .ok (.aload_n 0, 1) := by decide +kernel
theorem dX5_canBe_65 : decode cX5_canBe 65 = .ok (.getfield 15, 3) := by decide +kernel
theorem dX5_canBe_68 : decode cX5_canBe 68 = .ok (.iload_n 3, 1) := by decide +kernel
theorem dX5_canBe_69 : decode cX5_canBe 69 = .ok (.iaload, 1) := by decide +kernel
theorem dX5_canBe_70 : decode cX5_canBe 70 = .ok (.iload_n 1, 1) := by decide +kernel
theorem dX5_canBe_71 : decode cX5_canBe 71 = .ok (.if_icmp .ne 7, 3) := by decide +kernel
theorem dX5_canBe_74 : decode cX5_canBe 74 = .ok (.iconst 1, 1) := by decide +kernel
theorem dX5_canBe_75 : decode cX5_canBe 75 = .ok (.goto 4, 3) := by decide +kernel
theorem dX5_canBe_78 : decode cX5_canBe 78 = .ok (.iconst 0, 1) := by decide +kernel
theorem dX5_canBe_79 : decode cX5_canBe 79 = .ok (.ireturn, 1) := by decide +kernel
theorem dX5_canBe_80 : decode cX5_canBe 80 = .ok (.aload_n 0, 1) := by decide +kernel
theorem dX5_canBe_81 : decode cX5_canBe 81 = .ok (.getfield 9, 3) := by decide +kernel
theorem dX5_canBe_84 : decode cX5_canBe 84 = .ok (.iload_n 3, 1) := by decide +kernel
theorem dX5_canBe_85 : decode cX5_canBe 85 = .ok (.iaload, 1) := by decide +kernel
theorem dX5_canBe_86 : decode cX5_canBe 86 = .ok (.ifCond .ne 7, 3) := by decide +kernel
theorem dX5_canBe_89 : decode cX5_canBe 89 = .ok (.iconst 1, 1) := by decide +kernel
theorem dX5_canBe_90 : decode cX5_canBe 90 = .ok (.goto 4, 3) := by decide +kernel
theorem dX5_canBe_93 : decode cX5_canBe 93 = .ok (.iconst 0, 1) := by decide +kernel
theorem dX5_canBe_94 : decode cX5_canBe 94 = .ok (.ireturn, 1) := by decide +kernel
theorem dX5_canBe_95 : decode cX5_canBe 95 = .ok (.iload_n 3, 1) := by decide +kernel
theorem dX5_canBe_96 : decode cX5_canBe 96 = .ok (.iload_n 1, 1) := by decide +kernel
theorem dX5_canBe_97 : decode cX5_canBe 97 = .ok (.if_icmp .eq 23, 3) := by decide +kernel
theorem dX5_canBe_100 : decode cX5_canBe 100 = .ok (.aload_n 0, 1) := by decide +kernel
theorem dX5_canBe_101 : decode cX5_canBe 101 = .ok (.iload_n 3, 1) := by decide +kernel
theorem dX5_canBe_102 : decode cX5_canBe 102 = .ok (.invokevirtual 90, 3) := by decide +kernel
theorem dX5_canBe_105 : decode cX5_canBe 105 = .ok (.ifCond .eq 15, 3) := by decide +kernel
theorem dX5_canBe_108 : decode cX5_canBe 108 = .ok (.aload_n 0, 1) := by decide +kernel
theorem dX5_canBe_109 : decode cX5_canBe 109 = .ok (.iload_n 3, 1) := by decide +kernel
theorem dX5_canBe_110 : decode cX5_canBe 110 = .ok (.invokevirtual 82, 3) := by decide +kernel
theorem dX5_canBe_113 : decode cX5_canBe 113 = .ok (.ifCond .ne 7, 3) := by decide +kernel
theorem dX5_canBe_116 : decode cX5_canBe 116 = .ok (.iconst 1, 1) := by decide +kernel
theorem dX5_canBe_117 : decode cX5_canBe 117 = .ok (.goto 4, 3) := by decide +kernel
theorem dX5_canBe_120 : decode cX5_canBe 120 = .ok (.iconst 0, 1) := by decide +kernel
theorem dX5_canBe_121 : decode cX5_canBe 121 = .ok (.ireturn, 1) := by decide +kernel
theorem dX5_canBe_122 : decode cX5_canBe 122 = .ok (.iconst 1, 1) := by decide +kernel
theorem dX5_canBe_123 : decode cX5_canBe 123 = .ok (.ireturn, 1) := by decide +kernel
set_option maxRecDepth 20000 in
theorem ggX5_stepIsMuch_X1_number : GoodIn wsX5_stepIsMuch wsX1_number := goodIn_r _ [7, 8, 16, 17] (by decide +kernel) (by decide +kernel)
set_option maxRecDepth 20000 in
theorem gX5_stepIsMuch_X1_number : GoodIn wsX5_stepIsMuch (wsV RX5 94 RX1 yX1_number wsX1_number) := goodIn_app (goodIn_of _ (by decide +kernel)) ggX5_stepIsMuch_X1_number
theorem dX5_stepIsMuch_0 : decode cX5_stepIsMuch 0 = .ok (.iload_n 2, 1) := by decide +kernel
theorem dX5_stepIsMuch_1 : decode cX5_stepIsMuch 1 = .ok (.iconst 3, 1) := by decide +kernel
theorem dX5_stepIsMuch_2 : decode cX5_stepIsMuch 2 = .ok (.if_icmp .eq 14, 3) := by decide +kernel
theorem dX5_stepIsMuch_5 : decode cX5_stepIsMuch 5 = .ok (.iload_n 2, 1) := by decide +kernel
theorem dX5_stepIsMuch_6 : decode cX5_stepIsMuch 6 = .ok (.iconst 4, 1) := by decide +kernel
theorem dX5_stepIsMuch_7 : decode cX5_stepIsMuch 7 = .ok (.if_icmp .eq 9, 3) := by decide +kernel
theorem dX5_stepIsMuch_10 : decode cX5_stepIsMuch 10 = .ok (.iload_n 2, 1) := by decide +kernel
theorem dX5_stepIsMuch_11 : decode cX5_stepIsMuch 11 = .ok (.bipush 6, 2) := by decide +kernel
theorem dX5_stepIsMuch_13 : decode cX5_stepIsMuch 13 = .ok (.if_icmp .ne 7, 3) := by decide +kernel
theorem dX5_stepIsMuch_16 : decode cX5_stepIsMuch 16 = .ok (.iconst 1, 1) := by decide +kernel
theorem dX5_stepIsMuch_17 : decode cX5_stepIsMuch 17 = .ok (.goto 4, 3) := by decide +kernel
theorem dX5_stepIsMuch_20 : decode cX5_stepIsMuch 20 = .ok (.iconst 0, 1) := by decide +kernel
theorem dX5_stepIsMuch_21 : decode cX5_stepIsMuch 21 = .ok (.istore_n 3, 1) := by decide +kernel
theorem dX5_stepIsMuch_22 : decode cX5_stepIsMuch 22 = .ok (.iload_n 3, 1) := by decide +kernel
theorem dX5_stepIsMuch_23 : decode cX5_stepIsMuch 23 = .ok (.ifCond .eq 21, 3) := by decide +kernel
theorem dX5_stepIsMuch_26 : decode cX5_stepIsMuch 26 = .ok (.aload_n 0, 1) := by decide +kernel
theorem dX5_stepIsMuch_27 : decode cX5_stepIsMuch 27 = .ok (.getfield 23, 3) := by decide +kernel
theorem dX5_stepIsMuch_30 : decode cX5_stepIsMuch 30 = .ok (.iload_n 1, 1) := by decide +kernel
theorem dX5_stepIsMuch_31 : decode cX5_stepIsMuch 31 = .ok (.iload_n 1, 1) := by decide +kernel
theorem dX5_stepIsMuch_32 : decode cX5_stepIsMuch 32 = .ok (.invokevirtual 94, 3) := by decide +kernel
theorem dX5_stepIsMuch_35 : decode cX5_stepIsMuch 35 = .ok (.ldc 98, 2) := by decide +kernel
theorem dX5_stepIsMuch_37 : decode cX5_stepIsMuch 37 = .ok (.if_icmp .ne 7, 3) := by decide +kernel
theorem dX5_stepIsMuch_40 : decode cX5_stepIsMuch 40 = .ok (.iconst 1, 1) := by decide +kernel
theorem dX5_stepIsMuch_41 : decode cX5_stepIsMuch 41 = .ok (.goto 4, 3) := by decide +kernel
theorem dX5_stepIsMuch_44 : decode cX5_stepIsMuch 44 = .ok (.iconst 0, 1) := by decide +kernel
theorem dX5_stepIsMuch_45 : decode cX5_stepIsMuch 45 = .ok (.ireturn, 1) := by decide +kernel
set_option maxRecDepth 20000 in
theorem ggX5_come_X3_hasRoom : GoodIn wsX5_come wsX3_hasRoom := goodIn_r _ [9, 10, 137, 138, 139, 140, 141, 142, 143, 144] (by decide +kernel) (by decide +kernel)
set_option maxRecDepth 20000 in
theorem gX5_come_X3_hasRoom : GoodIn wsX5_come (wsV RX5 99 RX3 yX3_hasRoom wsX3_hasRoom) := goodIn_app (goodIn_of _ (by decide +kernel)) ggX5_come_X3_hasRoom
set_option maxRecDepth 20000 in
theorem ggX5_come_X5_takeIn : GoodIn wsX5_come wsX5_takeIn := goodIn_r _ [15, 3, 16, 17, 18, 19, 20, 21, 22, 23, 24, 25, 26, 27, 28, 29, 30, 31, 32, 33, 34, 35, 36, 37, 130, 131, 132, 133, 134, 135, 136, 145, 146] (by decide +kernel) (by decide +kernel)
set_option maxRecDepth 20000 in
theorem gX5_come_X5_takeIn : GoodIn wsX5_come (wsV RX5 103 RX5 yX5_takeIn wsX5_takeIn) := goodIn_app (goodIn_of _ (by decide +kernel)) ggX5_come_X5_takeIn
set_option maxRecDepth 20000 in
theorem ggX5_come_X5_locksOf : GoodIn wsX5_come wsX5_locksOf := goodIn_r _ [41, 17, 130, 131, 132, 133, 134, 135, 136] (by decide +kernel) (by decide +kernel)
set_option maxRecDepth 20000 in
theorem gX5_come_X5_locksOf : GoodIn wsX5_come (wsV RX5 82 RX5 yX5_locksOf wsX5_locksOf) := goodIn_app (goodIn_of _ (by decide +kernel)) ggX5_come_X5_locksOf
set_option maxRecDepth 20000 in
theorem ggX5_come_X3_append : GoodIn wsX5_come wsX3_append := goodIn_r _ [45, 10, 46, 47, 48, 49, 50, 51, 52, 53, 23, 54, 33, 55, 56, 57, 58, 137, 138, 139, 140, 141, 142, 143, 144, 145, 146] (by decide +kernel) (by decide +kernel)
set_option maxRecDepth 20000 in
theorem gX5_come_X3_append : GoodIn wsX5_come (wsV RX5 106 RX3 yX3_append wsX3_append) := goodIn_app (goodIn_of _ (by decide +kernel)) ggX5_come_X3_append
set_option maxRecDepth 20000 in
theorem ggX5_come_X3_countRaces : GoodIn wsX5_come wsX3_countRaces := goodIn_r _ [62, 63, 48, 64, 65, 66, 67, 8, 68, 46, 47, 69, 70, 71, 72, 73, 74, 75, 76, 50, 77, 30, 31, 23, 32, 33, 137, 138, 139, 140, 141, 142, 143, 144, 145, 146] (by decide +kernel) (by decide +kernel)
set_option maxRecDepth 20000 in
theorem gX5_come_X3_countRaces : GoodIn wsX5_come (wsV RX5 110 RX3 yX3_countRaces wsX3_countRaces) := goodIn_app (goodIn_of _ (by decide +kernel)) ggX5_come_X3_countRaces
set_option maxRecDepth 20000 in
theorem ggX5_come_X2_access : GoodIn wsX5_come wsX2_access := goodIn_r _ [82, 83, 84, 85, 86, 87, 88, 89, 90, 81, 91, 92, 30, 31, 23, 32, 33, 93, 94, 95, 96, 97, 98, 99, 100, 101, 102, 103, 104, 105, 106, 107, 108, 109, 110, 111, 112, 113, 114, 115, 116, 117, 147, 148, 149, 150, 151, 152, 153, 154, 155, 156, 145, 146] (by decide +kernel) (by decide +kernel)
set_option maxRecDepth 20000 in
theorem gX5_come_X2_access : GoodIn wsX5_come (wsV RX5 113 RX2 yX2_access wsX2_access) := goodIn_app (goodIn_of _ (by decide +kernel)) ggX5_come_X2_access
set_option maxRecDepth 20000 in
theorem ggX5_come_X5_handOn : GoodIn wsX5_come wsX5_handOn := goodIn_r _ [121, 16, 3, 18, 19, 122, 52, 53, 23, 54, 33, 55, 56, 57, 58, 123, 124, 125, 14, 126, 127, 128, 30, 31, 32, 129, 35, 36, 37, 20, 21, 22, 24, 25, 26, 27, 28, 29, 34, 130, 131, 132, 133, 134, 135, 136, 145, 146] (by decide +kernel) (by decide +kernel)
set_option maxRecDepth 20000 in
theorem gX5_come_X5_handOn : GoodIn wsX5_come (wsV RX5 117 RX5 yX5_handOn wsX5_handOn) := goodIn_app (goodIn_of _ (by decide +kernel)) ggX5_come_X5_handOn
theorem dX5_come_0 : decode cX5_come 0 = .ok (.aload_n 0, 1) := by decide +kernel
theorem dX5_come_1 : decode cX5_come 1 = .ok (.getfield 43, 3) := by decide +kernel
theorem dX5_come_4 : decode cX5_come 4 = .ok (.iconst 1, 1) := by decide +kernel
theorem dX5_come_5 : decode cX5_come 5 = .ok (.invokevirtual 99, 3) := by decide +kernel
theorem dX5_come_8 : decode cX5_come 8 = .ok (.ifCond .ne 6, 3) := by decide +kernel
theorem dX5_come_11 : decode cX5_come 11 = .ok (.ldc 102, 2) := by decide +kernel
theorem dX5_come_13 : decode cX5_come 13 = .ok (.ireturn, 1) := by decide +kernel
theorem dX5_come_14 : decode cX5_come 14 = .ok (.aload_n 0, 1) := by decide +kernel
theorem dX5_come_15 : decode cX5_come 15 = .ok (.iload_n 1, 1) := by decide +kernel
theorem dX5_come_16 : decode cX5_come 16 = .ok (.iload_n 2, 1) := by decide +kernel
theorem dX5_come_17 : decode cX5_come 17 = .ok (.iload_n 3, 1) := by decide +kernel
theorem dX5_come_18 : decode cX5_come 18 = .ok (.invokevirtual 103, 3) := by decide +kernel
theorem dX5_come_21 : decode cX5_come 21 = .ok (.aload_n 0, 1) := by decide +kernel
theorem dX5_come_22 : decode cX5_come 22 = .ok (.iload_n 1, 1) := by decide +kernel
theorem dX5_come_23 : decode cX5_come 23 = .ok (.invokevirtual 82, 3) := by decide +kernel
theorem dX5_come_26 : decode cX5_come 26 = .ok (.istore 4, 2) := by decide +kernel
theorem dX5_come_28 : decode cX5_come 28 = .ok (.aload_n 0, 1) := by decide +kernel
theorem dX5_come_29 : decode cX5_come 29 = .ok (.getfield 43, 3) := by decide +kernel
theorem dX5_come_32 : decode cX5_come 32 = .ok (.iload_n 1, 1) := by decide +kernel
theorem dX5_come_33 : decode cX5_come 33 = .ok (.iload_n 2, 1) := by decide +kernel
theorem dX5_come_34 : decode cX5_come 34 = .ok (.iload_n 3, 1) := by decide +kernel
theorem dX5_come_35 : decode cX5_come 35 = .ok (.iload 4, 2) := by decide +kernel
theorem dX5_come_37 : decode cX5_come 37 = .ok (.aload_n 0, 1) := by decide +kernel
theorem dX5_come_38 : decode cX5_come 38 = .ok (.getfield 23, 3) := by decide +kernel
theorem dX5_come_41 : decode cX5_come 41 = .ok (.invokevirtual 106, 3) := by decide +kernel
theorem dX5_come_44 : decode cX5_come 44 = .ok (.istore 5, 2) := by decide +kernel
theorem dX5_come_46 : decode cX5_come 46 = .ok (.iload_n 2, 1) := by decide +kernel
theorem dX5_come_47 : decode cX5_come 47 = .ok (.ifCond .eq 8, 3) := by decide +kernel
theorem dX5_come_50 : decode cX5_come 50 = .ok (.iload_n 2, 1) := by decide +kernel
theorem dX5_come_51 : decode cX5_come 51 = .ok (.iconst 1, 1) := by decide +kernel
theorem dX5_come_52 : decode cX5_come 52 = .ok (.if_icmp .ne 40, 3) := by decide +kernel
theorem dX5_come_55 : decode cX5_come 55 = .ok (.aload_n 0, 1) := by decide +kernel
theorem dX5_come_56 : decode cX5_come 56 = .ok (.getfield 43, 3) := by decide +kernel
theorem dX5_come_59 : decode cX5_come 59 = .ok (.iload 5, 2) := by decide +kernel
theorem dX5_come_61 : decode cX5_come 61 = .ok (.invokevirtual 110, 3) := by decide +kernel
theorem dX5_come_64 : decode cX5_come 64 = .ok (.aload_n 0, 1) := by decide +kernel
theorem dX5_come_65 : decode cX5_come 65 = .ok (.getfield 36, 3) := by decide +kernel
theorem dX5_come_68 : decode cX5_come 68 = .ok (.iload_n 3, 1) := by decide +kernel
theorem dX5_come_69 : decode cX5_come 69 = .ok (.aaload, 1) := by decide +kernel
theorem dX5_come_70 : decode cX5_come 70 = .ok (.iload_n 2, 1) := by decide +kernel
theorem dX5_come_71 : decode cX5_come 71 = .ok (.iconst 1, 1) := by decide +kernel
theorem dX5_come_72 : decode cX5_come 72 = .ok (.if_icmp .ne 7, 3) := by decide +kernel
theorem dX5_come_75 : decode cX5_come 75 = .ok (.iconst 1, 1) := by decide +kernel
theorem dX5_come_76 : decode cX5_come 76 = .ok (.goto 4, 3) := by decide +kernel
theorem dX5_come_79 : decode cX5_come 79 = .ok (.iconst 0, 1) := by decide +kernel
theorem dX5_come_80 : decode cX5_come 80 = .ok (.aload_n 0, 1) := by decide +kernel
theorem dX5_come_81 : decode cX5_come 81 = .ok (.getfield 23, 3) := by decide +kernel
theorem dX5_come_84 : decode cX5_come 84 = .ok (.iload_n 1, 1) := by decide +kernel
theorem dX5_come_85 : decode cX5_come 85 = .ok (.iload 5, 2) := by decide +kernel
theorem dX5_come_87 : decode cX5_come 87 = .ok (.iload 4, 2) := by decide +kernel
theorem dX5_come_89 : decode cX5_come 89 = .ok (.invokevirtual 113, 3) := by decide +kernel
theorem dX5_come_92 : decode cX5_come 92 = .ok (.aload_n 0, 1) := by decide +kernel
theorem dX5_come_93 : decode cX5_come 93 = .ok (.iload_n 1, 1) := by decide +kernel
theorem dX5_come_94 : decode cX5_come 94 = .ok (.iload_n 2, 1) := by decide +kernel
theorem dX5_come_95 : decode cX5_come 95 = .ok (.iload_n 3, 1) := by decide +kernel
theorem dX5_come_96 : decode cX5_come 96 = .ok (.invokevirtual 117, 3) := by decide +kernel
theorem dX5_come_99 : decode cX5_come 99 = .ok (.iload 5, 2) := by decide +kernel
theorem dX5_come_101 : decode cX5_come 101 = .ok (.ireturn, 1) := by decide +kernel
set_option maxRecDepth 20000 in
theorem ggX5_takeIn_X1_join : GoodIn wsX5_takeIn wsX1_join := goodIn_r _ [10, 11, 12, 13, 14, 15, 16, 17, 9, 18, 19, 20, 21, 22, 23, 31, 32] (by decide +kernel) (by decide +kernel)
set_option maxRecDepth 20000 in
theorem gX5_takeIn_X1_join : GoodIn wsX5_takeIn (wsV RX5 120 RX1 yX1_join wsX1_join) := goodIn_app (goodIn_of _ (by decide +kernel)) ggX5_takeIn_X1_join
theorem dX5_takeIn_0 : decode cX5_takeIn 0 = .ok (.iload_n 2, 1) := by decide +kernel
theorem dX5_takeIn_1 : decode cX5_takeIn 1 = .ok (.tableswitch 111 2 7 #[39, 62, 111, 72, 111, 88], 39) := by decide +kernel
theorem dX5_takeIn_40 : decode cX5_takeIn 40 = .ok (.aload_n 0, 1) := by decide +kernel
theorem dX5_takeIn_41 : decode cX5_takeIn 41 = .ok (.getfield 23, 3) := by decide +kernel
theorem dX5_takeIn_44 : decode cX5_takeIn 44 = .ok (.iload_n 1, 1) := by decide +kernel
theorem dX5_takeIn_45 : decode cX5_takeIn 45 = .ok (.aload_n 0, 1) := by decide +kernel
theorem dX5_takeIn_46 : decode cX5_takeIn 46 = .ok (.getfield 27, 3) := by decide +kernel
theorem dX5_takeIn_49 : decode cX5_takeIn 49 = .ok (.iload_n 3, 1) := by decide +kernel
theorem dX5_takeIn_50 : decode cX5_takeIn 50 = .ok (.invokevirtual 120, 3) := by decide +kernel
theorem dX5_takeIn_53 : decode cX5_takeIn 53 = .ok (.aload_n 0, 1) := by decide +kernel
theorem dX5_takeIn_54 : decode cX5_takeIn 54 = .ok (.getfield 15, 3) := by decide +kernel
theorem dX5_takeIn_57 : decode cX5_takeIn 57 = .ok (.iload_n 3, 1) := by decide +kernel
theorem dX5_takeIn_58 : decode cX5_takeIn 58 = .ok (.iload_n 1, 1) := by decide +kernel
theorem dX5_takeIn_59 : decode cX5_takeIn 59 = .ok (.iastore, 1) := by decide +kernel
theorem dX5_takeIn_60 : decode cX5_takeIn 60 = .ok (.goto 52, 3) := by decide +kernel
theorem dX5_takeIn_63 : decode cX5_takeIn 63 = .ok (.aload_n 0, 1) := by decide +kernel
theorem dX5_takeIn_64 : decode cX5_takeIn 64 = .ok (.getfield 15, 3) := by decide +kernel
theorem dX5_takeIn_67 : decode cX5_takeIn 67 = .ok (.iload_n 3, 1) := by decide +kernel
theorem dX5_takeIn_68 : decode cX5_takeIn 68 = .ok (.iconst (-1), 1) := by decide +kernel
theorem dX5_takeIn_69 : decode cX5_takeIn 69 = .ok (.iastore, 1) := by decide +kernel
theorem dX5_takeIn_70 : decode cX5_takeIn 70 = .ok (.goto 42, 3) := by decide +kernel
theorem dX5_takeIn_73 : decode cX5_takeIn 73 = .ok (.aload_n 0, 1) := by decide +kernel
theorem dX5_takeIn_74 : decode cX5_takeIn 74 = .ok (.getfield 23, 3) := by decide +kernel
theorem dX5_takeIn_77 : decode cX5_takeIn 77 = .ok (.iload_n 1, 1) := by decide +kernel
theorem dX5_takeIn_78 : decode cX5_takeIn 78 = .ok (.aload_n 0, 1) := by decide +kernel
theorem dX5_takeIn_79 : decode cX5_takeIn 79 = .ok (.getfield 30, 3) := by decide +kernel
theorem dX5_takeIn_82 : decode cX5_takeIn 82 = .ok (.iload_n 3, 1) := by decide +kernel
theorem dX5_takeIn_83 : decode cX5_takeIn 83 = .ok (.invokevirtual 120, 3) := by decide +kernel
theorem dX5_takeIn_86 : decode cX5_takeIn 86 = .ok (.goto 26, 3) := by decide +kernel
theorem dX5_takeIn_89 : decode cX5_takeIn 89 = .ok (.aload_n 0, 1) := by decide +kernel
theorem dX5_takeIn_90 : decode cX5_takeIn 90 = .ok (.getfield 23, 3) := by decide +kernel
theorem dX5_takeIn_93 : decode cX5_takeIn 93 = .ok (.iload_n 1, 1) := by decide +kernel
theorem dX5_takeIn_94 : decode cX5_takeIn 94 = .ok (.aload_n 0, 1) := by decide +kernel
theorem dX5_takeIn_95 : decode cX5_takeIn 95 = .ok (.getfield 23, 3) := by decide +kernel
theorem dX5_takeIn_98 : decode cX5_takeIn 98 = .ok (.iload_n 3, 1) := by decide +kernel
theorem dX5_takeIn_99 : decode cX5_takeIn 99 = .ok (.invokevirtual 120, 3) := by decide +kernel
theorem dX5_takeIn_102 : decode cX5_takeIn 102 = .ok (.aload_n 0, 1) := by decide +kernel
theorem dX5_takeIn_103 : decode cX5_takeIn 103 = .ok (.getfield 9, 3) := by decide +kernel
theorem dX5_takeIn_106 : decode cX5_takeIn 106 = .ok (.iload_n 3, 1) := by decide +kernel
theorem dX5_takeIn_107 : decode cX5_takeIn 107 = .ok (.iconst 2, 1) := by decide +kernel
theorem dX5_takeIn_108 : decode cX5_takeIn 108 = .ok (.iastore, 1) := by decide +kernel
theorem dX5_takeIn_109 : decode cX5_takeIn 109 = .ok (.goto 3, 3) := by decide +kernel
theorem dX5_takeIn_112 : decode cX5_takeIn 112 = .ok (.return_, 1) := by decide +kernel
set_option maxRecDepth 20000 in
theorem ggX5_handOn_X1_copyRow : GoodIn wsX5_handOn wsX1_copyRow := goodIn_r _ [9, 10, 11, 12, 13, 14, 46, 47] (by decide +kernel) (by decide +kernel)
set_option maxRecDepth 20000 in
theorem gX5_handOn_X1_copyRow : GoodIn wsX5_handOn (wsV RX5 124 RX1 yX1_copyRow wsX1_copyRow) := goodIn_app (goodIn_of _ (by decide +kernel)) ggX5_handOn_X1_copyRow
set_option maxRecDepth 20000 in
theorem ggX5_handOn_X5_makeStep : GoodIn wsX5_handOn wsX5_makeStep := goodIn_r _ [19, 2, 20, 21, 22, 23, 8, 24, 10, 25, 26, 27, 28, 39, 40, 41, 42, 43, 44, 45, 46, 47] (by decide +kernel) (by decide +kernel)
set_option maxRecDepth 20000 in
theorem gX5_handOn_X5_makeStep : GoodIn wsX5_handOn (wsV RX5 127 RX5 yX5_makeStep wsX5_makeStep) := goodIn_app (goodIn_of _ (by decide +kernel)) ggX5_handOn_X5_makeStep
set_option maxRecDepth 20000 in
theorem ggX5_handOn_X1_join : GoodIn wsX5_handOn wsX1_join := goodIn_r _ [32, 33, 34, 35, 36, 37, 22, 23, 8, 24, 10, 38, 26, 27, 28, 46, 47] (by decide +kernel) (by decide +kernel)
set_option maxRecDepth 20000 in
theorem gX5_handOn_X1_join : GoodIn wsX5_handOn (wsV RX5 120 RX1 yX1_join wsX1_join) := goodIn_app (goodIn_of _ (by decide +kernel)) ggX5_handOn_X1_join
theorem dX5_handOn_0 : decode cX5_handOn 0 = .ok (.iload_n 2, 1) := by decide +kernel
theorem dX5_handOn_1 : decode cX5_handOn 1 = .ok (.tableswitch 101 3 6 #[31, 52, 101, 73], 31) := by decide +kernel
theorem dX5_handOn_32 : decode cX5_handOn 32 = .ok (.aload_n 0, 1) := by decide +kernel
theorem dX5_handOn_33 : decode cX5_handOn 33 = .ok (.getfield 27, 3) := by decide +kernel
theorem dX5_handOn_36 : decode cX5_handOn 36 = .ok (.iload_n 3, 1) := by decide +kernel
theorem dX5_handOn_37 : decode cX5_handOn 37 = .ok (.aload_n 0, 1) := by decide +kernel
theorem dX5_handOn_38 : decode cX5_handOn 38 = .ok (.getfield 23, 3) := by decide +kernel
theorem dX5_handOn_41 : decode cX5_handOn 41 = .ok (.iload_n 1, 1) := by decide +kernel
theorem dX5_handOn_42 : decode cX5_handOn 42 = .ok (.invokevirtual 124, 3) := by decide +kernel
theorem dX5_handOn_45 : decode cX5_handOn 45 = .ok (.aload_n 0, 1) := by decide +kernel
theorem dX5_handOn_46 : decode cX5_handOn 46 = .ok (.iload_n 1, 1) := by decide +kernel
theorem dX5_handOn_47 : decode cX5_handOn 47 = .ok (.invokevirtual 127, 3) := by decide +kernel
theorem dX5_handOn_50 : decode cX5_handOn 50 = .ok (.goto 52, 3) := by decide +kernel
theorem dX5_handOn_53 : decode cX5_handOn 53 = .ok (.aload_n 0, 1) := by decide +kernel
theorem dX5_handOn_54 : decode cX5_handOn 54 = .ok (.getfield 30, 3) := by decide +kernel
theorem dX5_handOn_57 : decode cX5_handOn 57 = .ok (.iload_n 3, 1) := by decide +kernel
theorem dX5_handOn_58 : decode cX5_handOn 58 = .ok (.aload_n 0, 1) := by decide +kernel
theorem dX5_handOn_59 : decode cX5_handOn 59 = .ok (.getfield 23, 3) := by decide +kernel
theorem dX5_handOn_62 : decode cX5_handOn 62 = .ok (.iload_n 1, 1) := by decide +kernel
theorem dX5_handOn_63 : decode cX5_handOn 63 = .ok (.invokevirtual 120, 3) := by decide +kernel
theorem dX5_handOn_66 : decode cX5_handOn 66 = .ok (.aload_n 0, 1) := by decide +kernel
theorem dX5_handOn_67 : decode cX5_handOn 67 = .ok (.iload_n 1, 1) := by decide +kernel
theorem dX5_handOn_68 : decode cX5_handOn 68 = .ok (.invokevirtual 127, 3) := by decide +kernel
theorem dX5_handOn_71 : decode cX5_handOn 71 = .ok (.goto 31, 3) := by decide +kernel
theorem dX5_handOn_74 : decode cX5_handOn 74 = .ok (.aload_n 0, 1) := by decide +kernel
theorem dX5_handOn_75 : decode cX5_handOn 75 = .ok (.getfield 23, 3) := by decide +kernel
theorem dX5_handOn_78 : decode cX5_handOn 78 = .ok (.iload_n 3, 1) := by decide +kernel
theorem dX5_handOn_79 : decode cX5_handOn 79 = .ok (.aload_n 0, 1) := by decide +kernel
theorem dX5_handOn_80 : decode cX5_handOn 80 = .ok (.getfield 23, 3) := by decide +kernel
theorem dX5_handOn_83 : decode cX5_handOn 83 = .ok (.iload_n 1, 1) := by decide +kernel
theorem dX5_handOn_84 : decode cX5_handOn 84 = .ok (.invokevirtual 120, 3) := by decide +kernel
theorem dX5_handOn_87 : decode cX5_handOn 87 = .ok (.aload_n 0, 1) := by decide +kernel
theorem dX5_handOn_88 : decode cX5_handOn 88 = .ok (.getfield 9, 3) := by decide +kernel
theorem dX5_handOn_91 : decode cX5_handOn 91 = .ok (.iload_n 3, 1) := by decide +kernel
theorem dX5_handOn_92 : decode cX5_handOn 92 = .ok (.iconst 1, 1) := by decide +kernel
theorem dX5_handOn_93 : decode cX5_handOn 93 = .ok (.iastore, 1) := by decide +kernel
theorem dX5_handOn_94 : decode cX5_handOn 94 = .ok (.aload_n 0, 1) := by decide +kernel
theorem dX5_handOn_95 : decode cX5_handOn 95 = .ok (.iload_n 1, 1) := by decide +kernel
theorem dX5_handOn_96 : decode cX5_handOn 96 = .ok (.invokevirtual 127, 3) := by decide +kernel
theorem dX5_handOn_99 : decode cX5_handOn 99 = .ok (.goto 3, 3) := by decide +kernel
theorem dX5_handOn_102 : decode cX5_handOn 102 = .ok (.return_, 1) := by decide +kernel
set_option maxRecDepth 20000 in
theorem ggX5_makeStep_X1_number : GoodIn wsX5_makeStep wsX1_number := goodIn_r _ [7, 8, 20, 21] (by decide +kernel) (by decide +kernel)
set_option maxRecDepth 20000 in
theorem gX5_makeStep_X1_number : GoodIn wsX5_makeStep (wsV RX5 94 RX1 yX1_number wsX1_number) := goodIn_app (goodIn_of _ (by decide +kernel)) ggX5_makeStep_X1_number
set_option maxRecDepth 20000 in
theorem ggX5_makeStep_X1_set : GoodIn wsX5_makeStep wsX1_set := goodIn_r _ [12, 8, 20, 21] (by decide +kernel) (by decide +kernel)
set_option maxRecDepth 20000 in
theorem gX5_makeStep_X1_set : GoodIn wsX5_makeStep (wsV RX5 59 RX1 yX1_set wsX1_set) := goodIn_app (goodIn_of _ (by decide +kernel)) ggX5_makeStep_X1_set
theorem dX5_makeStep_0 : decode cX5_makeStep 0 = .ok (.aload_n 0, 1) := by decide +kernel
theorem dX5_makeStep_1 : decode cX5_makeStep 1 = .ok (.getfield 23, 3) := by decide +kernel
theorem dX5_makeStep_4 : decode cX5_makeStep 4 = .ok (.iload_n 1, 1) := by decide +kernel
theorem dX5_makeStep_5 : decode cX5_makeStep 5 = .ok (.iload_n 1, 1) := by decide +kernel
theorem dX5_makeStep_6 : decode cX5_makeStep 6 = .ok (.invokevirtual 94, 3) := by decide +kernel
theorem dX5_makeStep_9 : decode cX5_makeStep 9 = .ok (.istore_n 2, 1) := by decide +kernel
theorem dX5_makeStep_10 : decode cX5_makeStep 10 = .ok (.iload_n 2, 1) := by decide +kernel
theorem dX5_makeStep_11 : decode cX5_makeStep 11 = .ok (.ldc 98, 2) := by decide +kernel
theorem dX5_makeStep_13 : decode cX5_makeStep 13 = .ok (.if_icmp .ge 15, 3) := by decide +kernel
theorem dX5_makeStep_16 : decode cX5_makeStep 16 = .ok (.aload_n 0, 1) := by decide +kernel
theorem dX5_makeStep_17 : decode cX5_makeStep 17 = .ok (.getfield 23, 3) := by decide +kernel
theorem dX5_makeStep_20 : decode cX5_makeStep 20 = .ok (.iload_n 1, 1) := by decide +kernel
theorem dX5_makeStep_21 : decode cX5_makeStep 21 = .ok (.iload_n 1, 1) := by decide +kernel
theorem dX5_makeStep_22 : decode cX5_makeStep 22 = .ok (.iload_n 2, 1) := by decide +kernel
theorem dX5_makeStep_23 : decode cX5_makeStep 23 = .ok (.iconst 1, 1) := by decide +kernel
theorem dX5_makeStep_24 : decode cX5_makeStep 24 = .ok (.iadd, 1) := by decide +kernel
theorem dX5_makeStep_25 : decode cX5_makeStep 25 = .ok (.invokevirtual 59, 3) := by decide +kernel
theorem dX5_makeStep_28 : decode cX5_makeStep 28 = .ok (.return_, 1) := by decide +kernel
theorem dX5_locksOf_0 : decode cX5_locksOf 0 = .ok (.iconst 0, 1) := by decide +kernel
theorem dX5_locksOf_1 : decode cX5_locksOf 1 = .ok (.istore_n 2, 1) := by decide +kernel
theorem dX5_locksOf_2 : decode cX5_locksOf 2 = .ok (.iconst 0, 1) := by decide +kernel
theorem dX5_locksOf_3 : decode cX5_locksOf 3 = .ok (.istore_n 3, 1) := by decide +kernel
theorem dX5_locksOf_4 : decode cX5_locksOf 4 = .ok (.iload_n 3, 1) := by decide +kernel
theorem dX5_locksOf_5 : decode cX5_locksOf 5 = .ok (.iconst 3, 1) := by decide +kernel
theorem dX5_locksOf_6 : decode cX5_locksOf 6 = .ok (.if_icmp .ge 25, 3) := by decide +kernel
theorem dX5_locksOf_9 : decode cX5_locksOf 9 = .ok (.aload_n 0, 1) := by decide +kernel
theorem dX5_locksOf_10 : decode cX5_locksOf 10 = .ok (.getfield 15, 3) := by decide +kernel
theorem dX5_locksOf_13 : decode cX5_locksOf 13 = .ok (.iload_n 3, 1) := by decide +kernel
theorem dX5_locksOf_14 : decode cX5_locksOf 14 = .ok (.iaload, 1) := by decide +kernel
theorem dX5_locksOf_15 : decode cX5_locksOf 15 = .ok (.iload_n 1, 1) := by decide +kernel
theorem dX5_locksOf_16 : decode cX5_locksOf 16 = .ok (.if_icmp .ne 9, 3) := by decide +kernel
theorem dX5_locksOf_19 : decode cX5_locksOf 19 = .ok (.iload_n 2, 1) := by decide +kernel
theorem dX5_locksOf_20 : decode cX5_locksOf 20 = .ok (.iconst 1, 1) := by decide +kernel
theorem dX5_locksOf_21 : decode cX5_locksOf 21 = .ok (.iload_n 3, 1) := by decide +kernel
theorem dX5_locksOf_22 : decode cX5_locksOf 22 = .ok (.ishl, 1) := by decide +kernel
theorem dX5_locksOf_23 : decode cX5_locksOf 23 = .ok (.ior, 1) := by decide +kernel
theorem dX5_locksOf_24 : decode cX5_locksOf 24 = .ok (.istore_n 2, 1) := by decide +kernel
theorem dX5_locksOf_25 : decode cX5_locksOf 25 = .ok (.iinc 3 1, 3) := by decide +kernel
theorem dX5_locksOf_28 : decode cX5_locksOf 28 = .ok (.goto (-24), 3) := by decide +kernel
theorem dX5_locksOf_31 : decode cX5_locksOf 31 = .ok (.iload_n 2, 1) := by decide +kernel
theorem dX5_locksOf_32 : decode cX5_locksOf 32 = .ok (.ireturn, 1) := by decide +kernel
end
section
set_option maxRecDepth 20000 in
theorem ggX6_init_X5_init : GoodIn wsX6_init wsX5_init := goodIn_r _ [17, 18, 2, 3, 19, 20, 21, 22, 23, 24, 25, 26, 27, 28, 29, 30, 31, 32, 33, 34, 35, 36, 37, 38, 39, 40, 41, 42, 43, 44, 45, 46, 47, 48, 49, 50, 51, 52, 53, 54, 55, 56, 57, 58, 59, 60, 61, 62, 63, 64, 6, 65, 66, 67, 68, 69, 70, 71, 72, 73, 74, 75, 76, 77, 78, 79, 80, 81, 82, 83, 84, 85, 86, 87, 88, 89, 90, 91, 92, 93, 94, 95, 96, 97, 98, 99, 100, 101, 102, 119, 120, 121, 122, 123, 124, 125, 141, 142, 143, 144, 145, 146, 147, 148, 149, 150, 151, 152, 153, 154, 155, 156, 157, 158, 159, 160] (by decide +kernel) (by decide +kernel)
set_option maxRecDepth 20000 in
theorem gX6_init_X5_init : GoodIn wsX6_init (wsX5_init) := ggX6_init_X5_init
set_option maxRecDepth 20000 in
theorem ggX6_init_X4_init : GoodIn wsX6_init wsX4_init := goodIn_r _ [104, 105, 2, 3, 106, 107, 108, 109, 110, 19, 111, 112, 113, 114, 115, 116, 117, 118, 130, 131, 132, 133, 134, 135, 136, 137, 138, 139, 140, 161, 162, 163] (by decide +kernel) (by decide +kernel)
set_option maxRecDepth 20000 in
theorem gX6_init_X4_init_n26 : GoodIn wsX6_init (wsX4_init) := ggX6_init_X4_init
theorem dX6_init_0 : decode cX6_init 0 = .ok (.aload_n 0, 1) := by decide +kernel
theorem dX6_init_1 : decode cX6_init 1 = .ok (.invokespecial 1, 3) := by decide +kernel
theorem dX6_init_4 : decode cX6_init 4 = .ok (.aload_n 0, 1) := by decide +kernel
theorem dX6_init_5 : decode cX6_init 5 = .ok (.new 7, 3) := by decide +kernel
theorem dX6_init_8 : decode cX6_init 8 = .ok (.dup, 1) := by decide +kernel
theorem dX6_init_9 : decode cX6_init 9 = .ok (.invokespecial 9, 3) := by decide +kernel
theorem dX6_init_12 : decode cX6_init 12 = .ok (.putfield 10, 3) := by decide +kernel
theorem dX6_init_15 : decode cX6_init 15 = .ok (.aload_n 0, 1) := by decide +kernel
theorem dX6_init_16 : decode cX6_init 16 = .ok (.iconst 2, 1) := by decide +kernel
theorem dX6_init_17 : decode cX6_init 17 = .ok (.anewarray 7, 3) := by decide +kernel
theorem dX6_init_20 : decode cX6_init 20 = .ok (.dup, 1) := by decide +kernel
theorem dX6_init_21 : decode cX6_init 21 = .ok (.iconst 0, 1) := by decide +kernel
theorem dX6_init_22 : decode cX6_init 22 = .ok (.new 7, 3) := by decide +kernel
theorem dX6_init_25 : decode cX6_init 25 = .ok (.dup, 1) := by decide +kernel
theorem dX6_init_26 : decode cX6_init 26 = .ok (.invokespecial 9, 3) := by decide +kernel
theorem dX6_init_29 : decode cX6_init 29 = .ok (.aastore, 1) := by decide +kernel
theorem dX6_init_30 : decode cX6_init 30 = .ok (.dup, 1) := by decide +kernel
theorem dX6_init_31 : decode cX6_init 31 = .ok (.iconst 1, 1) := by decide +kernel
theorem dX6_init_32 : decode cX6_init 32 = .ok (.new 7, 3) := by decide +kernel
theorem dX6_init_35 : decode cX6_init 35 = .ok (.dup, 1) := by decide +kernel
theorem dX6_init_36 : decode cX6_init 36 = .ok (.invokespecial 9, 3) := by decide +kernel
theorem dX6_init_39 : decode cX6_init 39 = .ok (.aastore, 1) := by decide +kernel
theorem dX6_init_40 : decode cX6_init 40 = .ok (.putfield 16, 3) := by decide +kernel
theorem dX6_init_43 : decode cX6_init 43 = .ok (.aload_n 0, 1) := by decide +kernel
theorem dX6_init_44 : decode cX6_init 44 = .ok (.iconst 2, 1) := by decide +kernel
theorem dX6_init_45 : decode cX6_init 45 = .ok (.newarray .boolean, 2) := by decide +kernel
theorem dX6_init_47 : decode cX6_init 47 = .ok (.putfield 20, 3) := by decide +kernel
theorem dX6_init_50 : decode cX6_init 50 = .ok (.aload_n 0, 1) := by decide +kernel
theorem dX6_init_51 : decode cX6_init 51 = .ok (.new 24, 3) := by decide +kernel
theorem dX6_init_54 : decode cX6_init 54 = .ok (.dup, 1) := by decide +kernel
theorem dX6_init_55 : decode cX6_init 55 = .ok (.invokespecial 26, 3) := by decide +kernel
theorem dX6_init_58 : decode cX6_init 58 = .ok (.putfield 27, 3) := by decide +kernel
theorem dX6_init_61 : decode cX6_init 61 = .ok (.return_, 1) := by decide +kernel
set_option maxRecDepth 20000 in
theorem ggX6_anew_X5_begin : GoodIn wsX6_anew wsX5_begin := goodIn_r _ [8, 9, 10, 11, 12, 13, 14, 15, 16, 17, 18, 19, 20, 21, 22, 23, 24, 25, 26, 27, 28, 29, 30, 31, 32, 33, 34, 35, 36, 37, 38, 39, 40, 41, 42, 43, 44, 45, 46, 47, 48, 49, 50, 51, 52, 53, 54, 55, 56, 57, 58, 63, 64, 65, 66, 67, 68, 69, 78, 79, 80, 81, 82, 83, 84, 85, 86, 87, 88, 89, 70, 71, 72, 73, 74, 75, 76, 77] (by decide +kernel) (by decide +kernel)
set_option maxRecDepth 20000 in
theorem gX6_anew_X5_begin : GoodIn wsX6_anew (wsV RX6 41 RX5 yX5_begin wsX5_begin) := goodIn_app (goodIn_of _ (by decide +kernel)) ggX6_anew_X5_begin
theorem dX6_anew_0 : decode cX6_anew 0 = .ok (.aload_n 0, 1) := by decide +kernel
theorem dX6_anew_1 : decode cX6_anew 1 = .ok (.getfield 10, 3) := by decide +kernel
theorem dX6_anew_4 : decode cX6_anew 4 = .ok (.getfield 31, 3) := by decide +kernel
theorem dX6_anew_7 : decode cX6_anew 7 = .ok (.getfield 35, 3) := by decide +kernel
theorem dX6_anew_10 : decode cX6_anew 10 = .ok (.istore_n 1, 1) := by decide +kernel
theorem dX6_anew_11 : decode cX6_anew 11 = .ok (.aload_n 0, 1) := by decide +kernel
theorem dX6_anew_12 : decode cX6_anew 12 = .ok (.getfield 10, 3) := by decide +kernel
theorem dX6_anew_15 : decode cX6_anew 15 = .ok (.invokevirtual 41, 3) := by decide +kernel
theorem dX6_anew_18 : decode cX6_anew 18 = .ok (.iload_n 1, 1) := by decide +kernel
theorem dX6_anew_19 : decode cX6_anew 19 = .ok (.ireturn, 1) := by decide +kernel
set_option maxRecDepth 20000 in
theorem ggX6_feed_X4_append : GoodIn wsX6_feed wsX4_append := goodIn_r _ [7, 8, 9, 10, 15, 16, 17, 18, 19, 20, 21, 22, 23, 24, 25] (by decide +kernel) (by decide +kernel)
set_option maxRecDepth 20000 in
theorem gX6_feed_X4_append : GoodIn wsX6_feed (wsV RX6 45 RX4 yX4_append wsX4_append) := goodIn_app (goodIn_of _ (by decide +kernel)) ggX6_feed_X4_append
theorem dX6_feed_0 : decode cX6_feed 0 = .ok (.iload_n 1, 1) := by decide +kernel
theorem dX6_feed_1 : decode cX6_feed 1 = .ok (.ifCond .lt 10, 3) := by decide +kernel
theorem dX6_feed_4 : decode cX6_feed 4 = .ok (.iload_n 1, 1) := by decide +kernel
theorem dX6_feed_5 : decode cX6_feed 5 = .ok (.sipush 255, 3) := by decide +kernel
theorem dX6_feed_8 : decode cX6_feed 8 = .ok (.if_icmp .le 6, 3) := by decide +kernel
theorem dX6_feed_11 : decode cX6_feed 11 = .ok (.ldc 44, 2) := by decide +kernel
theorem dX6_feed_13 : decode cX6_feed 13 = .ok (.ireturn, 1) := by decide +kernel
theorem dX6_feed_14 : decode cX6_feed 14 = .ok (.aload_n 0, 1) := by decide +kernel
theorem dX6_feed_15 : decode cX6_feed 15 = .ok (.getfield 27, 3) := by decide +kernel
theorem dX6_feed_18 : decode cX6_feed 18 = .ok (.iload_n 1, 1) := by decide +kernel
theorem dX6_feed_19 : decode cX6_feed 19 = .ok (.invokevirtual 45, 3) := by decide +kernel
theorem dX6_feed_22 : decode cX6_feed 22 = .ok (.ireturn, 1) := by decide +kernel
set_option maxRecDepth 20000 in
theorem ggX6_run_X4_tell : GoodIn wsX6_run wsX4_tell := goodIn_r _ [9, 10, 11, 12, 13, 14, 15, 16, 17, 18, 19, 20, 8, 21, 22, 23, 24, 25, 26, 27, 28, 29, 30, 31, 32, 33, 34, 35, 36, 37, 38, 39, 40, 41, 42, 43, 44, 45, 46, 47, 48, 49, 50, 51, 52, 53, 54, 55, 56, 57, 58, 59, 60, 61, 62, 63, 64, 65, 66, 67, 68, 69, 70, 71, 72, 73, 74, 75, 76, 77, 78, 79, 80, 81, 82, 83, 84, 85, 86, 87, 88, 89, 90, 91, 92, 93, 94, 95, 96, 97, 98, 99, 100, 101, 102, 103, 104, 105, 106, 107, 108, 109, 110, 111, 112, 113, 114, 115, 116, 117, 118, 119, 120, 121, 122, 123, 124, 125, 126, 127, 128, 129, 130, 131, 132, 133, 134, 135, 136, 137, 138, 139, 140, 141, 142, 143, 144, 145, 146, 147, 148, 149, 150, 151, 152, 153, 154, 155, 156, 157, 158, 159, 160, 161, 162, 163, 164, 165, 166, 167, 168, 169, 170, 171, 172, 173, 174, 175, 176, 177, 178, 179, 180, 181, 182, 183, 184, 185, 186, 187, 188, 189, 190, 191, 192, 193, 194, 195, 196, 197, 198, 199, 200, 201, 202, 203, 204, 205, 206, 207, 208, 209, 210, 230, 231, 232, 233, 234, 235, 236, 237, 238, 239, 240, 215, 216, 217, 218, 219, 220, 221, 222, 223, 224, 225, 226, 227, 228, 229, 241, 242, 243, 244, 245, 246, 247, 248, 249, 250, 251, 252, 253, 254, 255] (by decide +kernel) (by decide +kernel)
set_option maxRecDepth 20000 in
theorem gX6_run_X4_tell : GoodIn wsX6_run (wsV RX6 49 RX4 yX4_tell wsX4_tell) := goodIn_app (goodIn_of _ (by decide +kernel)) ggX6_run_X4_tell
theorem dX6_run_0 : decode cX6_run 0 = .ok (.aload_n 0, 1) := by decide +kernel
theorem dX6_run_1 : decode cX6_run 1 = .ok (.getfield 10, 3) := by decide +kernel
theorem dX6_run_4 : decode cX6_run 4 = .ok (.getfield 31, 3) := by decide +kernel
theorem dX6_run_7 : decode cX6_run 7 = .ok (.getfield 35, 3) := by decide +kernel
theorem dX6_run_10 : decode cX6_run 10 = .ok (.istore_n 1, 1) := by decide +kernel
theorem dX6_run_11 : decode cX6_run 11 = .ok (.aload_n 0, 1) := by decide +kernel
theorem dX6_run_12 : decode cX6_run 12 = .ok (.getfield 27, 3) := by decide +kernel
theorem dX6_run_15 : decode cX6_run 15 = .ok (.aload_n 0, 1) := by decide +kernel
theorem dX6_run_16 : decode cX6_run 16 = .ok (.getfield 10, 3) := by decide +kernel
theorem dX6_run_19 : decode cX6_run 19 = .ok (.invokevirtual 49, 3) := by decide +kernel
theorem dX6_run_22 : decode cX6_run 22 = .ok (.istore_n 2, 1) := by decide +kernel
theorem dX6_run_23 : decode cX6_run 23 = .ok (.iload_n 2, 1) := by decide +kernel
theorem dX6_run_24 : decode cX6_run 24 = .ok (.ifCond .ne 18, 3) := by decide +kernel
theorem dX6_run_27 : decode cX6_run 27 = .ok (.aload_n 0, 1) := by decide +kernel
theorem dX6_run_28 : decode cX6_run 28 = .ok (.getfield 10, 3) := by decide +kernel
theorem dX6_run_31 : decode cX6_run 31 = .ok (.getfield 31, 3) := by decide +kernel
theorem dX6_run_34 : decode cX6_run 34 = .ok (.getfield 35, 3) := by decide +kernel
theorem dX6_run_37 : decode cX6_run 37 = .ok (.iload_n 1, 1) := by decide +kernel
theorem dX6_run_38 : decode cX6_run 38 = .ok (.isub, 1) := by decide +kernel
theorem dX6_run_39 : decode cX6_run 39 = .ok (.goto 7, 3) := by decide +kernel
theorem dX6_run_42 : decode cX6_run 42 = .ok (.bipush (-10), 2) := by decide +kernel
theorem dX6_run_44 : decode cX6_run 44 = .ok (.iload_n 2, 1) := by decide +kernel
theorem dX6_run_45 : decode cX6_run 45 = .ok (.isub, 1) := by decide +kernel
theorem dX6_run_46 : decode cX6_run 46 = .ok (.ireturn, 1) := by decide +kernel
theorem dX6_fault_0 : decode cX6_fault 0 = .ok (.aload_n 0, 1) := by decide +kernel
theorem dX6_fault_1 : decode cX6_fault 1 = .ok (.getfield 27, 3) := by decide +kernel
theorem dX6_fault_4 : decode cX6_fault 4 = .ok (.getfield 53, 3) := by decide +kernel
theorem dX6_fault_7 : decode cX6_fault 7 = .ok (.ireturn, 1) := by decide +kernel
set_option maxRecDepth 20000 in
theorem ggX6_event_X6_refusalOf : GoodIn wsX6_event wsX6_refusalOf := goodIn_r _ [6, 7, 8, 1, 9, 10, 11, 12, 13, 14, 5, 15, 16, 17, 18, 19, 20, 21, 22, 23, 24, 25, 26, 27, 28, 29, 30, 31, 32, 33, 34, 35, 36, 37, 38, 39, 40, 41, 42, 43, 44, 45, 46, 47, 48, 49, 50, 51, 52, 53, 54, 168, 169, 170, 171, 172, 173, 174, 175, 176, 177, 178, 179, 180, 181, 182, 183, 184, 185, 186, 187, 188] (by decide +kernel) (by decide +kernel)
set_option maxRecDepth 20000 in
theorem gX6_event_X6_refusalOf : GoodIn wsX6_event (wsV RX6 56 RX6 yX6_refusalOf wsX6_refusalOf) := goodIn_app (goodIn_of _ (by decide +kernel)) ggX6_event_X6_refusalOf
set_option maxRecDepth 20000 in
theorem ggX6_event_X5_come : GoodIn wsX6_event wsX5_come := goodIn_r _ [58, 59, 60, 47, 61, 62, 38, 39, 40, 41, 42, 63, 64, 65, 25, 66, 67, 27, 68, 28, 69, 70, 71, 52, 72, 73, 74, 75, 76, 77, 50, 51, 53, 54, 78, 79, 80, 81, 33, 34, 35, 36, 82, 83, 84, 85, 86, 87, 88, 89, 90, 91, 92, 93, 94, 95, 96, 97, 98, 99, 100, 101, 102, 103, 104, 105, 106, 107, 108, 109, 110, 111, 112, 113, 114, 115, 116, 117, 118, 119, 120, 121, 122, 123, 124, 125, 126, 127, 128, 129, 130, 131, 132, 133, 134, 135, 136, 137, 138, 139, 140, 141, 142, 143, 144, 145, 146, 147, 148, 149, 150, 151, 152, 153, 154, 155, 156, 157, 158, 159, 160, 161, 162, 163, 164, 165, 166, 48, 49, 167, 172, 173, 174, 175, 176, 177, 178, 179, 180, 181, 182, 183, 184, 185, 186, 187, 188, 189, 190, 191, 192, 193, 194, 195, 196, 197, 198] (by decide +kernel) (by decide +kernel)
set_option maxRecDepth 20000 in
theorem gX6_event_X5_come : GoodIn wsX6_event (wsV RX6 60 RX5 yX5_come wsX5_come) := goodIn_app (goodIn_of _ (by decide +kernel)) ggX6_event_X5_come
theorem dX6_event_0 : decode cX6_event 0 = .ok (.aload_n 0, 1) := by decide +kernel
theorem dX6_event_1 : decode cX6_event 1 = .ok (.iload_n 1, 1) := by decide +kernel
theorem dX6_event_2 : decode cX6_event 2 = .ok (.iload_n 2, 1) := by decide +kernel
theorem dX6_event_3 : decode cX6_event 3 = .ok (.iload_n 3, 1) := by decide +kernel
theorem dX6_event_4 : decode cX6_event 4 = .ok (.invokevirtual 56, 3) := by decide +kernel
theorem dX6_event_7 : decode cX6_event 7 = .ok (.istore 4, 2) := by decide +kernel
theorem dX6_event_9 : decode cX6_event 9 = .ok (.iload 4, 2) := by decide +kernel
theorem dX6_event_11 : decode cX6_event 11 = .ok (.ifCond .ne 16, 3) := by decide +kernel
theorem dX6_event_14 : decode cX6_event 14 = .ok (.aload_n 0, 1) := by decide +kernel
theorem dX6_event_15 : decode cX6_event 15 = .ok (.getfield 10, 3) := by decide +kernel
theorem dX6_event_18 : decode cX6_event 18 = .ok (.iload_n 1, 1) := by decide +kernel
theorem dX6_event_19 : decode cX6_event 19 = .ok (.iload_n 2, 1) := by decide +kernel
theorem dX6_event_20 : decode cX6_event 20 = .ok (.iload_n 3, 1) := by decide +kernel
theorem dX6_event_21 : decode cX6_event 21 = .ok (.invokevirtual 60, 3) := by decide +kernel
theorem dX6_event_24 : decode cX6_event 24 = .ok (.goto 5, 3) := by decide +kernel
theorem dX6_event_27 : decode cX6_event 27 = .ok (.iload 4, 2) := by decide +kernel
theorem dX6_event_29 : decode cX6_event 29 = .ok (.ireturn, 1) := by decide +kernel
set_option maxRecDepth 20000 in
theorem ggX6_jump_X6_isIn : GoodIn wsX6_jump wsX6_isIn := goodIn_r _ [11] (by decide +kernel) (by decide +kernel)
set_option maxRecDepth 20000 in
theorem gX6_jump_X6_isIn : GoodIn wsX6_jump (va_wsS RX6 63 yX6_isIn wsX6_isIn) := goodIn_app (goodIn_of _ (by decide +kernel)) ggX6_jump_X6_isIn
set_option maxRecDepth 20000 in
theorem ggX6_jump_X5_goes : GoodIn wsX6_jump wsX5_goes := goodIn_r _ [16, 17, 32, 33, 34, 35, 36, 37, 38] (by decide +kernel) (by decide +kernel)
set_option maxRecDepth 20000 in
theorem gX6_jump_X5_goes : GoodIn wsX6_jump (wsV RX6 68 RX5 yX5_goes wsX5_goes) := goodIn_app (goodIn_of _ (by decide +kernel)) ggX6_jump_X5_goes
set_option maxRecDepth 20000 in
theorem ggX6_jump_X1_number : GoodIn wsX6_jump wsX1_number := goodIn_r _ [22, 23, 39, 40] (by decide +kernel) (by decide +kernel)
set_option maxRecDepth 20000 in
theorem gX6_jump_X1_number : GoodIn wsX6_jump (wsV RX6 77 RX1 yX1_number wsX1_number) := goodIn_app (goodIn_of _ (by decide +kernel)) ggX6_jump_X1_number
set_option maxRecDepth 20000 in
theorem ggX6_jump_X1_set : GoodIn wsX6_jump wsX1_set := goodIn_r _ [27, 23, 39, 40] (by decide +kernel) (by decide +kernel)
set_option maxRecDepth 20000 in
theorem gX6_jump_X1_set : GoodIn wsX6_jump (wsV RX6 85 RX1 yX1_set wsX1_set) := goodIn_app (goodIn_of _ (by decide +kernel)) ggX6_jump_X1_set
theorem dX6_jump_0 : decode cX6_jump 0 = .ok (.iload_n 1, 1) := by decide +kernel
theorem dX6_jump_1 : decode cX6_jump 1 = .ok (.iconst 4, 1) := by decide +kernel
theorem dX6_jump_2 : decode cX6_jump 2 = .ok (.invokestatic 63, 3) := by decide +kernel
theorem dX6_jump_5 : decode cX6_jump 5 = .ok (.ifCond .ne 6, 3) := by decide +kernel
theorem dX6_jump_8 : decode cX6_jump 8 = .ok (.ldc 67, 2) := by decide +kernel
theorem dX6_jump_10 : decode cX6_jump 10 = .ok (.ireturn, 1) := by decide +kernel
theorem dX6_jump_11 : decode cX6_jump 11 = .ok (.iload_n 2, 1) := by decide +kernel
theorem dX6_jump_12 : decode cX6_jump 12 = .ok (.iconst 1, 1) := by decide +kernel
theorem dX6_jump_13 : decode cX6_jump 13 = .ok (.if_icmp .ge 6, 3) := by decide +kernel
theorem dX6_jump_16 : decode cX6_jump 16 = .ok (.ldc 44, 2) := by decide +kernel
theorem dX6_jump_18 : decode cX6_jump 18 = .ok (.ireturn, 1) := by decide +kernel
theorem dX6_jump_19 : decode cX6_jump 19 = .ok (.aload_n 0, 1) := by decide +kernel
theorem dX6_jump_20 : decode cX6_jump 20 = .ok (.getfield 10, 3) := by decide +kernel
theorem dX6_jump_23 : decode cX6_jump 23 = .ok (.iload_n 1, 1) := by decide +kernel
theorem dX6_jump_24 : decode cX6_jump 24 = .ok (.invokevirtual 68, 3) := by decide +kernel
theorem dX6_jump_27 : decode cX6_jump 27 = .ok (.ifCond .ne 6, 3) := by decide +kernel
theorem dX6_jump_30 : decode cX6_jump 30 = .ok (.ldc 72, 2) := by decide +kernel
theorem dX6_jump_32 : decode cX6_jump 32 = .ok (.ireturn, 1) := by decide +kernel
theorem dX6_jump_33 : decode cX6_jump 33 = .ok (.aload_n 0, 1) := by decide +kernel
theorem dX6_jump_34 : decode cX6_jump 34 = .ok (.getfield 10, 3) := by decide +kernel
theorem dX6_jump_37 : decode cX6_jump 37 = .ok (.getfield 73, 3) := by decide +kernel
theorem dX6_jump_40 : decode cX6_jump 40 = .ok (.iload_n 1, 1) := by decide +kernel
theorem dX6_jump_41 : decode cX6_jump 41 = .ok (.iload_n 1, 1) := by decide +kernel
theorem dX6_jump_42 : decode cX6_jump 42 = .ok (.invokevirtual 77, 3) := by decide +kernel
theorem dX6_jump_45 : decode cX6_jump 45 = .ok (.istore_n 3, 1) := by decide +kernel
theorem dX6_jump_46 : decode cX6_jump 46 = .ok (.iload_n 2, 1) := by decide +kernel
theorem dX6_jump_47 : decode cX6_jump 47 = .ok (.ldc 83, 2) := by decide +kernel
theorem dX6_jump_49 : decode cX6_jump 49 = .ok (.iload_n 3, 1) := by decide +kernel
theorem dX6_jump_50 : decode cX6_jump 50 = .ok (.isub, 1) := by decide +kernel
theorem dX6_jump_51 : decode cX6_jump 51 = .ok (.if_icmp .le 6, 3) := by decide +kernel
theorem dX6_jump_54 : decode cX6_jump 54 = .ok (.ldc 84, 2) := by decide +kernel
theorem dX6_jump_56 : decode cX6_jump 56 = .ok (.ireturn, 1) := by decide +kernel
theorem dX6_jump_57 : decode cX6_jump 57 = .ok (.aload_n 0, 1) := by decide +kernel
theorem dX6_jump_58 : decode cX6_jump 58 = .ok (.getfield 10, 3) := by decide +kernel
theorem dX6_jump_61 : decode cX6_jump 61 = .ok (.getfield 73, 3) := by decide +kernel
theorem dX6_jump_64 : decode cX6_jump 64 = .ok (.iload_n 1, 1) := by decide +kernel
theorem dX6_jump_65 : decode cX6_jump 65 = .ok (.iload_n 1, 1) := by decide +kernel
theorem dX6_jump_66 : decode cX6_jump 66 = .ok (.iload_n 3, 1) := by decide +kernel
theorem dX6_jump_67 : decode cX6_jump 67 = .ok (.iload_n 2, 1) := by decide +kernel
theorem dX6_jump_68 : decode cX6_jump 68 = .ok (.iadd, 1) := by decide +kernel
theorem dX6_jump_69 : decode cX6_jump 69 = .ok (.invokevirtual 85, 3) := by decide +kernel
theorem dX6_jump_72 : decode cX6_jump 72 = .ok (.iload_n 3, 1) := by decide +kernel
theorem dX6_jump_73 : decode cX6_jump 73 = .ok (.iload_n 2, 1) := by decide +kernel
theorem dX6_jump_74 : decode cX6_jump 74 = .ok (.iadd, 1) := by decide +kernel
theorem dX6_jump_75 : decode cX6_jump 75 = .ok (.ireturn, 1) := by decide +kernel
set_option maxRecDepth 20000 in
theorem ggX6_drift_X6_lotBehind : GoodIn wsX6_drift wsX6_lotBehind := goodIn_r _ [11, 12, 13] (by decide +kernel) (by decide +kernel)
set_option maxRecDepth 20000 in
theorem gX6_drift_X6_lotBehind : GoodIn wsX6_drift (va_wsS RX6 90 yX6_lotBehind wsX6_lotBehind) := goodIn_app (goodIn_of _ (by decide +kernel)) ggX6_drift_X6_lotBehind
set_option maxRecDepth 20000 in
theorem ggX6_drift_X6_boundOf : GoodIn wsX6_drift wsX6_boundOf := goodIn_r _ [16] (by decide +kernel) (by decide +kernel)
set_option maxRecDepth 20000 in
theorem gX6_drift_X6_boundOf : GoodIn wsX6_drift (va_wsS RX6 98 yX6_boundOf wsX6_boundOf) := goodIn_app (goodIn_of _ (by decide +kernel)) ggX6_drift_X6_boundOf
set_option maxRecDepth 20000 in
theorem ggX6_drift_X6_refusalOf : GoodIn wsX6_drift wsX6_refusalOf := goodIn_r _ [20, 21, 2, 3, 22, 4, 23, 24, 25, 26, 10, 27, 14, 15, 16, 28, 29, 30, 31, 32, 33, 34, 35, 36, 37, 38, 39, 40, 41, 42, 43, 44, 45, 46, 47, 48, 49, 50, 51, 52, 53, 54, 55, 56, 57, 58, 59, 60, 61, 62, 63, 177, 178, 179, 180, 181, 182, 183, 184, 185, 186, 187, 188, 189, 190, 191, 192, 193, 194, 195, 196, 197] (by decide +kernel) (by decide +kernel)
set_option maxRecDepth 20000 in
theorem gX6_drift_X6_refusalOf : GoodIn wsX6_drift (wsV RX6 56 RX6 yX6_refusalOf wsX6_refusalOf) := goodIn_app (goodIn_of _ (by decide +kernel)) ggX6_drift_X6_refusalOf
set_option maxRecDepth 20000 in
theorem ggX6_drift_X5_come : GoodIn wsX6_drift wsX5_come := goodIn_r _ [67, 68, 69, 56, 70, 71, 47, 48, 49, 50, 51, 72, 73, 74, 34, 75, 76, 36, 77, 37, 78, 79, 80, 61, 81, 82, 83, 84, 85, 86, 59, 60, 62, 63, 87, 88, 89, 90, 42, 43, 44, 45, 91, 92, 93, 94, 95, 96, 97, 98, 99, 100, 101, 102, 103, 104, 105, 106, 107, 108, 109, 110, 111, 112, 113, 114, 115, 116, 117, 118, 119, 120, 121, 122, 123, 124, 125, 126, 127, 128, 129, 130, 131, 132, 133, 134, 135, 136, 137, 138, 139, 140, 141, 142, 143, 144, 145, 146, 147, 148, 149, 150, 151, 152, 153, 154, 155, 156, 157, 158, 159, 160, 161, 162, 163, 164, 165, 166, 167, 168, 169, 170, 171, 172, 173, 174, 175, 57, 58, 176, 181, 182, 183, 184, 185, 186, 187, 188, 189, 190, 191, 192, 193, 194, 195, 196, 197, 198, 199, 200, 201, 202, 203, 204, 205, 206, 207] (by decide +kernel) (by decide +kernel)
set_option maxRecDepth 20000 in
theorem gX6_drift_X5_come : GoodIn wsX6_drift (wsV RX6 60 RX5 yX5_come wsX5_come) := goodIn_app (goodIn_of _ (by decide +kernel)) ggX6_drift_X5_come
theorem dX6_drift_0 : decode cX6_drift 0 = .ok (.iload_n 1, 1) := by decide +kernel
theorem dX6_drift_1 : decode cX6_drift 1 = .ok (.iconst 1, 1) := by decide +kernel
theorem dX6_drift_2 : decode cX6_drift 2 = .ok (.if_icmp .lt 20, 3) := by decide +kernel
theorem dX6_drift_5 : decode cX6_drift 5 = .ok (.iload_n 1, 1) := by decide +kernel
theorem dX6_drift_6 : decode cX6_drift 6 = .ok (.bipush 40, 2) := by decide +kernel
theorem dX6_drift_8 : decode cX6_drift 8 = .ok (.if_icmp .gt 14, 3) := by decide +kernel
theorem dX6_drift_11 : decode cX6_drift 11 = .ok (.iload_n 2, 1) := by decide +kernel
theorem dX6_drift_12 : decode cX6_drift 12 = .ok (.iconst 1, 1) := by decide +kernel
theorem dX6_drift_13 : decode cX6_drift 13 = .ok (.if_icmp .lt 9, 3) := by decide +kernel
theorem dX6_drift_16 : decode cX6_drift 16 = .ok (.iload_n 2, 1) := by decide +kernel
theorem dX6_drift_17 : decode cX6_drift 17 = .ok (.ldc 89, 2) := by decide +kernel
theorem dX6_drift_19 : decode cX6_drift 19 = .ok (.if_icmp .le 6, 3) := by decide +kernel
theorem dX6_drift_22 : decode cX6_drift 22 = .ok (.ldc 44, 2) := by decide +kernel
theorem dX6_drift_24 : decode cX6_drift 24 = .ok (.ireturn, 1) := by decide +kernel
theorem dX6_drift_25 : decode cX6_drift 25 = .ok (.aload_n 0, 1) := by decide +kernel
theorem dX6_drift_26 : decode cX6_drift 26 = .ok (.getfield 10, 3) := by decide +kernel
theorem dX6_drift_29 : decode cX6_drift 29 = .ok (.getfield 31, 3) := by decide +kernel
theorem dX6_drift_32 : decode cX6_drift 32 = .ok (.getfield 35, 3) := by decide +kernel
theorem dX6_drift_35 : decode cX6_drift 35 = .ok (.istore_n 3, 1) := by decide +kernel
theorem dX6_drift_36 : decode cX6_drift 36 = .ok (.iload_n 2, 1) := by decide +kernel
theorem dX6_drift_37 : decode cX6_drift 37 = .ok (.i2l, 1) := by decide +kernel
theorem dX6_drift_38 : decode cX6_drift 38 = .ok (.lstore 4, 2) := by decide +kernel
theorem dX6_drift_40 : decode cX6_drift 40 = .ok (.iconst 0, 1) := by decide +kernel
theorem dX6_drift_41 : decode cX6_drift 41 = .ok (.istore 6, 2) := by decide +kernel
theorem dX6_drift_43 : decode cX6_drift 43 = .ok (.iload 6, 2) := by decide +kernel
theorem dX6_drift_45 : decode cX6_drift 45 = .ok (.iload_n 1, 1) := by decide +kernel
theorem dX6_drift_46 : decode cX6_drift 46 = .ok (.if_icmp .ge 87, 3) := by decide +kernel
theorem dX6_drift_49 : decode cX6_drift 49 = .ok (.lload 4, 2) := by decide +kernel
theorem dX6_drift_51 : decode cX6_drift 51 = .ok (.invokestatic 90, 3) := by decide +kernel
theorem dX6_drift_54 : decode cX6_drift 54 = .ok (.lstore 4, 2) := by decide +kernel
theorem dX6_drift_56 : decode cX6_drift 56 = .ok (.lload 4, 2) := by decide +kernel
theorem dX6_drift_58 : decode cX6_drift 58 = .ok (.ldc2_w 94, 3) := by decide +kernel
theorem dX6_drift_61 : decode cX6_drift 61 = .ok (.lrem, 1) := by decide +kernel
theorem dX6_drift_62 : decode cX6_drift 62 = .ok (.l2i, 1) := by decide +kernel
theorem dX6_drift_63 : decode cX6_drift 63 = .ok (.istore 7, 2) := by decide +kernel
theorem dX6_drift_65 : decode cX6_drift 65 = .ok (.lload 4, 2) := by decide +kernel
theorem dX6_drift_67 : decode cX6_drift 67 = .ok (.invokestatic 90, 3) := by decide +kernel
theorem dX6_drift_70 : decode cX6_drift 70 = .ok (.lstore 4, 2) := by decide +kernel
theorem dX6_drift_72 : decode cX6_drift 72 = .ok (.lload 4, 2) := by decide +kernel
theorem dX6_drift_74 : decode cX6_drift 74 = .ok (.ldc2_w 96, 3) := by decide +kernel
theorem dX6_drift_77 : decode cX6_drift 77 = .ok (.lrem, 1) := by decide +kernel
theorem dX6_drift_78 : decode cX6_drift 78 = .ok (.l2i, 1) := by decide +kernel
theorem dX6_drift_79 : decode cX6_drift 79 = .ok (.istore 8, 2) := by decide +kernel
theorem dX6_drift_81 : decode cX6_drift 81 = .ok (.lload 4, 2) := by decide +kernel
theorem dX6_drift_83 : decode cX6_drift 83 = .ok (.invokestatic 90, 3) := by decide +kernel
theorem dX6_drift_86 : decode cX6_drift 86 = .ok (.lstore 4, 2) := by decide +kernel
theorem dX6_drift_88 : decode cX6_drift 88 = .ok (.lload 4, 2) := by decide +kernel
theorem dX6_drift_90 : decode cX6_drift 90 = .ok (.iload 8, 2) := by decide +kernel
theorem dX6_drift_92 : decode cX6_drift 92 = .ok (.invokestatic 98, 3) := by decide +kernel
theorem dX6_drift_95 : decode cX6_drift 95 = .ok (.i2l, 1) := by decide +kernel
theorem dX6_drift_96 : decode cX6_drift 96 = .ok (.lrem, 1) := by decide +kernel
theorem dX6_drift_97 : decode cX6_drift 97 = .ok (.l2i, 1) := by decide +kernel
theorem dX6_drift_98 : decode cX6_drift 98 = .ok (.istore 9, 2) := by decide +kernel
theorem dX6_drift_100 : decode cX6_drift 100 = .ok (.aload_n 0, 1) := by decide +kernel
theorem dX6_drift_101 : decode cX6_drift 101 = .ok (.iload 7, 2) := by decide +kernel
theorem dX6_drift_103 : decode cX6_drift 103 = .ok (.iload 8, 2) := by decide +kernel
theorem dX6_drift_105 : decode cX6_drift 105 = .ok (.iload 9, 2) := by decide +kernel
theorem dX6_drift_107 : decode cX6_drift 107 = .ok (.invokevirtual 56, 3) := by decide +kernel
theorem dX6_drift_110 : decode cX6_drift 110 = .ok (.ifCond .ne 17, 3) := by decide +kernel
theorem dX6_drift_113 : decode cX6_drift 113 = .ok (.aload_n 0, 1) := by decide +kernel
theorem dX6_drift_114 : decode cX6_drift 114 = .ok (.getfield 10, 3) := by decide +kernel
theorem dX6_drift_117 : decode cX6_drift 117 = .ok (.iload 7, 2) := by decide +kernel
theorem dX6_drift_119 : decode cX6_drift 119 = .ok (.iload 8, 2) := by decide +kernel
theorem dX6_drift_121 : decode cX6_drift 121 = .ok (.iload 9, 2) := by decide +kernel
theorem dX6_drift_123 : decode cX6_drift 123 = .ok (.invokevirtual 60, 3) := by decide +kernel
theorem dX6_drift_126 : decode cX6_drift 126 = .ok (.pop, 1) := by decide +kernel
theorem dX6_drift_127 : decode cX6_drift 127 = .ok (.iinc 6 1, 3) := by decide +kernel
theorem dX6_drift_130 : decode cX6_drift 130 = .ok (.goto (-87), 3) := by decide +kernel
theorem dX6_drift_133 : decode cX6_drift 133 = .ok (.aload_n 0, 1) := by decide +kernel
theorem dX6_drift_134 : decode cX6_drift 134 = .ok (.getfield 10, 3) := by decide +kernel
theorem dX6_drift_137 : decode cX6_drift 137 = .ok (.getfield 31, 3) := by decide +kernel
theorem dX6_drift_140 : decode cX6_drift 140 = .ok (.getfield 35, 3) := by decide +kernel
theorem dX6_drift_143 : decode cX6_drift 143 = .ok (.iload_n 3, 1) := by decide +kernel
theorem dX6_drift_144 : decode cX6_drift 144 = .ok (.isub, 1) := by decide +kernel
theorem dX6_drift_145 : decode cX6_drift 145 = .ok (.ireturn, 1) := by decide +kernel
set_option maxRecDepth 20000 in
theorem ggX6_told_X5_threadsThat : GoodIn wsX6_told wsX5_threadsThat := goodIn_r _ [13, 14, 48, 49, 50, 51, 52, 53, 54] (by decide +kernel) (by decide +kernel)
set_option maxRecDepth 20000 in
theorem gX6_told_X5_threadsThat : GoodIn wsX6_told (wsV RX6 101 RX5 yX5_threadsThat wsX5_threadsThat) := goodIn_app (goodIn_of _ (by decide +kernel)) ggX6_told_X5_threadsThat
set_option maxRecDepth 20000 in
theorem ggX6_told_X5_heldLocks : GoodIn wsX6_told wsX5_heldLocks := goodIn_r _ [18, 19, 20, 21, 12, 22, 23, 48, 49, 50, 51, 52, 53, 54] (by decide +kernel) (by decide +kernel)
set_option maxRecDepth 20000 in
theorem gX6_told_X5_heldLocks : GoodIn wsX6_told (wsV RX6 104 RX5 yX5_heldLocks wsX5_heldLocks) := goodIn_app (goodIn_of _ (by decide +kernel)) ggX6_told_X5_heldLocks
set_option maxRecDepth 20000 in
theorem ggX6_told_X3_cellsWithRace : GoodIn wsX6_told wsX3_cellsWithRace := goodIn_r _ [28, 29, 30, 31, 27, 32, 33, 55, 56, 57, 58, 59, 60, 61, 62] (by decide +kernel) (by decide +kernel)
set_option maxRecDepth 20000 in
theorem gX6_told_X3_cellsWithRace : GoodIn wsX6_told (wsV RX6 108 RX3 yX3_cellsWithRace wsX3_cellsWithRace) := goodIn_app (goodIn_of _ (by decide +kernel)) ggX6_told_X3_cellsWithRace
set_option maxRecDepth 20000 in
theorem ggX6_told_X3_racesOfAll : GoodIn wsX6_told wsX3_racesOfAll := goodIn_r _ [37, 29, 30, 31, 27, 32, 33, 55, 56, 57, 58, 59, 60, 61, 62] (by decide +kernel) (by decide +kernel)
set_option maxRecDepth 20000 in
theorem gX6_told_X3_racesOfAll : GoodIn wsX6_told (wsV RX6 111 RX3 yX3_racesOfAll wsX3_racesOfAll) := goodIn_app (goodIn_of _ (by decide +kernel)) ggX6_told_X3_racesOfAll
set_option maxRecDepth 20000 in
theorem ggX6_told_X5_promotionsOfAll : GoodIn wsX6_told wsX5_promotionsOfAll := goodIn_r _ [41, 42, 43, 48, 49, 50, 51, 52, 53, 54, 77, 78, 79, 80, 81, 82, 83, 84, 85, 86] (by decide +kernel) (by decide +kernel)
set_option maxRecDepth 20000 in
theorem gX6_told_X5_promotionsOfAll : GoodIn wsX6_told (wsV RX6 124 RX5 yX5_promotionsOfAll wsX5_promotionsOfAll) := goodIn_app (goodIn_of _ (by decide +kernel)) ggX6_told_X5_promotionsOfAll
theorem dX6_told_0 : decode cX6_told 0 = .ok (.iload_n 1, 1) := by decide +kernel
theorem dX6_told_1 : decode cX6_told 1 = .ok (.tableswitch 137 0 8 #[51, 62, 71, 80, 88, 99, 110, 118, 129], 51) := by decide +kernel
theorem dX6_told_52 : decode cX6_told 52 = .ok (.aload_n 0, 1) := by decide +kernel
theorem dX6_told_53 : decode cX6_told 53 = .ok (.getfield 10, 3) := by decide +kernel
theorem dX6_told_56 : decode cX6_told 56 = .ok (.getfield 31, 3) := by decide +kernel
theorem dX6_told_59 : decode cX6_told 59 = .ok (.getfield 35, 3) := by decide +kernel
theorem dX6_told_62 : decode cX6_told 62 = .ok (.ireturn, 1) := by decide +kernel
theorem dX6_told_63 : decode cX6_told 63 = .ok (.aload_n 0, 1) := by decide +kernel
theorem dX6_told_64 : decode cX6_told 64 = .ok (.getfield 10, 3) := by decide +kernel
theorem dX6_told_67 : decode cX6_told 67 = .ok (.iconst 1, 1) := by decide +kernel
theorem dX6_told_68 : decode cX6_told 68 = .ok (.invokevirtual 101, 3) := by decide +kernel
theorem dX6_told_71 : decode cX6_told 71 = .ok (.ireturn, 1) := by decide +kernel
theorem dX6_told_72 : decode cX6_told 72 = .ok (.aload_n 0, 1) := by decide +kernel
theorem dX6_told_73 : decode cX6_told 73 = .ok (.getfield 10, 3) := by decide +kernel
theorem dX6_told_76 : decode cX6_told 76 = .ok (.iconst 2, 1) := by decide +kernel
theorem dX6_told_77 : decode cX6_told 77 = .ok (.invokevirtual 101, 3) := by decide +kernel
theorem dX6_told_80 : decode cX6_told 80 = .ok (.ireturn, 1) := by decide +kernel
theorem dX6_told_81 : decode cX6_told 81 = .ok (.aload_n 0, 1) := by decide +kernel
theorem dX6_told_82 : decode cX6_told 82 = .ok (.getfield 10, 3) := by decide +kernel
theorem dX6_told_85 : decode cX6_told 85 = .ok (.invokevirtual 104, 3) := by decide +kernel
theorem dX6_told_88 : decode cX6_told 88 = .ok (.ireturn, 1) := by decide +kernel
theorem dX6_told_89 : decode cX6_told 89 = .ok (.aload_n 0, 1) := by decide +kernel
theorem dX6_told_90 : decode cX6_told 90 = .ok (.getfield 10, 3) := by decide +kernel
theorem dX6_told_93 : decode cX6_told 93 = .ok (.getfield 31, 3) := by decide +kernel
theorem dX6_told_96 : decode cX6_told 96 = .ok (.invokevirtual 108, 3) := by decide +kernel
theorem dX6_told_99 : decode cX6_told 99 = .ok (.ireturn, 1) := by decide +kernel
theorem dX6_told_100 : decode cX6_told 100 = .ok (.aload_n 0, 1) := by decide +kernel
theorem dX6_told_101 : decode cX6_told 101 = .ok (.getfield 10, 3) := by decide +kernel
theorem dX6_told_104 : decode cX6_told 104 = .ok (.getfield 31, 3) := by decide +kernel
theorem dX6_told_107 : decode cX6_told 107 = .ok (.invokevirtual 111, 3) := by decide +kernel
theorem dX6_told_110 : decode cX6_told 110 = .ok (.ireturn, 1) := by decide +kernel
theorem dX6_told_111 : decode cX6_told 111 = .ok (.aload_n 0, 1) := by decide +kernel
theorem dX6_told_112 : decode cX6_told 112 = .ok (.getfield 27, 3) := by decide +kernel
theorem dX6_told_115 : decode cX6_told 115 = .ok (.getfield 114, 3) := by decide +kernel
theorem dX6_told_118 : decode cX6_told 118 = .ok (.ireturn, 1) := by decide +kernel
theorem dX6_told_119 : decode cX6_told 119 = .ok (.aload_n 0, 1) := by decide +kernel
theorem dX6_told_120 : decode cX6_told 120 = .ok (.getfield 27, 3) := by decide +kernel
theorem dX6_told_123 : decode cX6_told 123 = .ok (.getfield 117, 3) := by decide +kernel
theorem dX6_told_126 : decode cX6_told 126 = .ok (.getfield 121, 3) := by decide +kernel
theorem dX6_told_129 : decode cX6_told 129 = .ok (.ireturn, 1) := by decide +kernel
theorem dX6_told_130 : decode cX6_told 130 = .ok (.aload_n 0, 1) := by decide +kernel
theorem dX6_told_131 : decode cX6_told 131 = .ok (.getfield 10, 3) := by decide +kernel
theorem dX6_told_134 : decode cX6_told 134 = .ok (.invokevirtual 124, 3) := by decide +kernel
theorem dX6_told_137 : decode cX6_told 137 = .ok (.ireturn, 1) := by decide +kernel
theorem dX6_told_138 : decode cX6_told 138 = .ok (.ldc 44, 2) := by decide +kernel
theorem dX6_told_140 : decode cX6_told 140 = .ok (.ireturn, 1) := by decide +kernel
set_option maxRecDepth 20000 in
theorem ggX6_clock_X6_isIn : GoodIn wsX6_clock wsX6_isIn := goodIn_r _ [11] (by decide +kernel) (by decide +kernel)
set_option maxRecDepth 20000 in
theorem gX6_clock_X6_isIn : GoodIn wsX6_clock (va_wsS RX6 63 yX6_isIn wsX6_isIn) := goodIn_app (goodIn_of _ (by decide +kernel)) ggX6_clock_X6_isIn
set_option maxRecDepth 20000 in
theorem ggX6_clock_X1_number : GoodIn wsX6_clock wsX1_number := goodIn_r _ [16, 17, 29, 30] (by decide +kernel) (by decide +kernel)
set_option maxRecDepth 20000 in
theorem gX6_clock_X1_number : GoodIn wsX6_clock (wsV RX6 77 RX1 yX1_number wsX1_number) := goodIn_app (goodIn_of _ (by decide +kernel)) ggX6_clock_X1_number
theorem dX6_clock_0 : decode cX6_clock 0 = .ok (.iload_n 3, 1) := by decide +kernel
theorem dX6_clock_1 : decode cX6_clock 1 = .ok (.iconst 4, 1) := by decide +kernel
theorem dX6_clock_2 : decode cX6_clock 2 = .ok (.invokestatic 63, 3) := by decide +kernel
theorem dX6_clock_5 : decode cX6_clock 5 = .ok (.ifCond .ne 6, 3) := by decide +kernel
theorem dX6_clock_8 : decode cX6_clock 8 = .ok (.ldc 67, 2) := by decide +kernel
theorem dX6_clock_10 : decode cX6_clock 10 = .ok (.ireturn, 1) := by decide +kernel
theorem dX6_clock_11 : decode cX6_clock 11 = .ok (.iload_n 1, 1) := by decide +kernel
theorem dX6_clock_12 : decode cX6_clock 12 = .ok (.iconst 3, 1) := by decide +kernel
theorem dX6_clock_13 : decode cX6_clock 13 = .ok (.invokestatic 63, 3) := by decide +kernel
theorem dX6_clock_16 : decode cX6_clock 16 = .ok (.ifCond .ne 6, 3) := by decide +kernel
theorem dX6_clock_19 : decode cX6_clock 19 = .ok (.ldc 44, 2) := by decide +kernel
theorem dX6_clock_21 : decode cX6_clock 21 = .ok (.ireturn, 1) := by decide +kernel
theorem dX6_clock_22 : decode cX6_clock 22 = .ok (.iload_n 1, 1) := by decide +kernel
theorem dX6_clock_23 : decode cX6_clock 23 = .ok (.ifCond .ne 13, 3) := by decide +kernel
theorem dX6_clock_26 : decode cX6_clock 26 = .ok (.aload_n 0, 1) := by decide +kernel
theorem dX6_clock_27 : decode cX6_clock 27 = .ok (.getfield 10, 3) := by decide +kernel
theorem dX6_clock_30 : decode cX6_clock 30 = .ok (.getfield 73, 3) := by decide +kernel
theorem dX6_clock_33 : decode cX6_clock 33 = .ok (.goto 25, 3) := by decide +kernel
theorem dX6_clock_36 : decode cX6_clock 36 = .ok (.iload_n 1, 1) := by decide +kernel
theorem dX6_clock_37 : decode cX6_clock 37 = .ok (.iconst 1, 1) := by decide +kernel
theorem dX6_clock_38 : decode cX6_clock 38 = .ok (.if_icmp .ne 13, 3) := by decide +kernel
theorem dX6_clock_41 : decode cX6_clock 41 = .ok (.aload_n 0, 1) := by decide +kernel
theorem dX6_clock_42 : decode cX6_clock 42 = .ok (.getfield 10, 3) := by decide +kernel
theorem dX6_clock_45 : decode cX6_clock 45 = .ok (.getfield 127, 3) := by decide +kernel
theorem dX6_clock_48 : decode cX6_clock 48 = .ok (.goto 10, 3) := by decide +kernel
theorem dX6_clock_51 : decode cX6_clock 51 = .ok (.aload_n 0, 1) := by decide +kernel
theorem dX6_clock_52 : decode cX6_clock 52 = .ok (.getfield 10, 3) := by decide +kernel
theorem dX6_clock_55 : decode cX6_clock 55 = .ok (.getfield 130, 3) := by decide +kernel
theorem dX6_clock_58 : decode cX6_clock 58 = .ok (.astore 4, 2) := by decide +kernel
theorem dX6_clock_60 : decode cX6_clock 60 = .ok (.iload_n 2, 1) := by decide +kernel
theorem dX6_clock_61 : decode cX6_clock 61 = .ok (.aload 4, 2) := by decide +kernel
theorem dX6_clock_63 : decode cX6_clock 63 = .ok (.getfield 133, 3) := by decide +kernel
theorem dX6_clock_66 : decode cX6_clock 66 = .ok (.invokestatic 63, 3) := by decide +kernel
theorem dX6_clock_69 : decode cX6_clock 69 = .ok (.ifCond .eq 13, 3) := by decide +kernel
theorem dX6_clock_72 : decode cX6_clock 72 = .ok (.aload 4, 2) := by decide +kernel
theorem dX6_clock_74 : decode cX6_clock 74 = .ok (.iload_n 2, 1) := by decide +kernel
theorem dX6_clock_75 : decode cX6_clock 75 = .ok (.iload_n 3, 1) := by decide +kernel
theorem dX6_clock_76 : decode cX6_clock 76 = .ok (.invokevirtual 77, 3) := by decide +kernel
theorem dX6_clock_79 : decode cX6_clock 79 = .ok (.goto 5, 3) := by decide +kernel
theorem dX6_clock_82 : decode cX6_clock 82 = .ok (.ldc 67, 2) := by decide +kernel
theorem dX6_clock_84 : decode cX6_clock 84 = .ok (.ireturn, 1) := by decide +kernel
set_option maxRecDepth 20000 in
theorem ggX6_eventOf_X6_isIn : GoodIn wsX6_eventOf wsX6_isIn := goodIn_r _ [14] (by decide +kernel) (by decide +kernel)
set_option maxRecDepth 20000 in
theorem gX6_eventOf_X6_isIn : GoodIn wsX6_eventOf (va_wsS RX6 63 yX6_isIn wsX6_isIn) := goodIn_app (goodIn_of _ (by decide +kernel)) ggX6_eventOf_X6_isIn
set_option maxRecDepth 20000 in
theorem ggX6_eventOf_X1_number : GoodIn wsX6_eventOf wsX1_number := goodIn_r _ [19, 20, 40, 41] (by decide +kernel) (by decide +kernel)
set_option maxRecDepth 20000 in
theorem gX6_eventOf_X1_number : GoodIn wsX6_eventOf (wsV RX6 77 RX1 yX1_number wsX1_number) := goodIn_app (goodIn_of _ (by decide +kernel)) ggX6_eventOf_X1_number
theorem dX6_eventOf_0 : decode cX6_eventOf 0 = .ok (.aload_n 0, 1) := by decide +kernel
theorem dX6_eventOf_1 : decode cX6_eventOf 1 = .ok (.getfield 10, 3) := by decide +kernel
theorem dX6_eventOf_4 : decode cX6_eventOf 4 = .ok (.getfield 31, 3) := by decide +kernel
theorem dX6_eventOf_7 : decode cX6_eventOf 7 = .ok (.astore_n 3, 1) := by decide +kernel
theorem dX6_eventOf_8 : decode cX6_eventOf 8 = .ok (.iload_n 1, 1) := by decide +kernel
theorem dX6_eventOf_9 : decode cX6_eventOf 9 = .ok (.aload_n 3, 1) := by decide +kernel
theorem dX6_eventOf_10 : decode cX6_eventOf 10 = .ok (.getfield 35, 3) := by decide +kernel
theorem dX6_eventOf_13 : decode cX6_eventOf 13 = .ok (.invokestatic 63, 3) := by decide +kernel
theorem dX6_eventOf_16 : decode cX6_eventOf 16 = .ok (.ifCond .ne 6, 3) := by decide +kernel
theorem dX6_eventOf_19 : decode cX6_eventOf 19 = .ok (.ldc 67, 2) := by decide +kernel
theorem dX6_eventOf_21 : decode cX6_eventOf 21 = .ok (.ireturn, 1) := by decide +kernel
theorem dX6_eventOf_22 : decode cX6_eventOf 22 = .ok (.iload_n 2, 1) := by decide +kernel
theorem dX6_eventOf_23 : decode cX6_eventOf 23 = .ok (.tableswitch 85 0 7 #[45, 52, 59, 66, 66, 66, 66, 78], 45) := by decide +kernel
theorem dX6_eventOf_68 : decode cX6_eventOf 68 = .ok (.aload_n 3, 1) := by decide +kernel
theorem dX6_eventOf_69 : decode cX6_eventOf 69 = .ok (.getfield 136, 3) := by decide +kernel
theorem dX6_eventOf_72 : decode cX6_eventOf 72 = .ok (.iload_n 1, 1) := by decide +kernel
theorem dX6_eventOf_73 : decode cX6_eventOf 73 = .ok (.iaload, 1) := by decide +kernel
theorem dX6_eventOf_74 : decode cX6_eventOf 74 = .ok (.ireturn, 1) := by decide +kernel
theorem dX6_eventOf_75 : decode cX6_eventOf 75 = .ok (.aload_n 3, 1) := by decide +kernel
theorem dX6_eventOf_76 : decode cX6_eventOf 76 = .ok (.getfield 140, 3) := by decide +kernel
theorem dX6_eventOf_79 : decode cX6_eventOf 79 = .ok (.iload_n 1, 1) := by decide +kernel
theorem dX6_eventOf_80 : decode cX6_eventOf 80 = .ok (.iaload, 1) := by decide +kernel
theorem dX6_eventOf_81 : decode cX6_eventOf 81 = .ok (.ireturn, 1) := by decide +kernel
theorem dX6_eventOf_82 : decode cX6_eventOf 82 = .ok (.aload_n 3, 1) := by decide +kernel
theorem dX6_eventOf_83 : decode cX6_eventOf 83 = .ok (.getfield 143, 3) := by decide +kernel
theorem dX6_eventOf_86 : decode cX6_eventOf 86 = .ok (.iload_n 1, 1) := by decide +kernel
theorem dX6_eventOf_87 : decode cX6_eventOf 87 = .ok (.iaload, 1) := by decide +kernel
theorem dX6_eventOf_88 : decode cX6_eventOf 88 = .ok (.ireturn, 1) := by decide +kernel
theorem dX6_eventOf_89 : decode cX6_eventOf 89 = .ok (.aload_n 3, 1) := by decide +kernel
theorem dX6_eventOf_90 : decode cX6_eventOf 90 = .ok (.getfield 146, 3) := by decide +kernel
theorem dX6_eventOf_93 : decode cX6_eventOf 93 = .ok (.iload_n 1, 1) := by decide +kernel
theorem dX6_eventOf_94 : decode cX6_eventOf 94 = .ok (.iload_n 2, 1) := by decide +kernel
theorem dX6_eventOf_95 : decode cX6_eventOf 95 = .ok (.iconst 3, 1) := by decide +kernel
theorem dX6_eventOf_96 : decode cX6_eventOf 96 = .ok (.isub, 1) := by decide +kernel
theorem dX6_eventOf_97 : decode cX6_eventOf 97 = .ok (.invokevirtual 77, 3) := by decide +kernel
theorem dX6_eventOf_100 : decode cX6_eventOf 100 = .ok (.ireturn, 1) := by decide +kernel
theorem dX6_eventOf_101 : decode cX6_eventOf 101 = .ok (.aload_n 3, 1) := by decide +kernel
theorem dX6_eventOf_102 : decode cX6_eventOf 102 = .ok (.getfield 149, 3) := by decide +kernel
theorem dX6_eventOf_105 : decode cX6_eventOf 105 = .ok (.iload_n 1, 1) := by decide +kernel
theorem dX6_eventOf_106 : decode cX6_eventOf 106 = .ok (.iaload, 1) := by decide +kernel
theorem dX6_eventOf_107 : decode cX6_eventOf 107 = .ok (.ireturn, 1) := by decide +kernel
theorem dX6_eventOf_108 : decode cX6_eventOf 108 = .ok (.ldc 44, 2) := by decide +kernel
theorem dX6_eventOf_110 : decode cX6_eventOf 110 = .ok (.ireturn, 1) := by decide +kernel
set_option maxRecDepth 20000 in
theorem ggX6_holder_X6_isIn : GoodIn wsX6_holder wsX6_isIn := goodIn_r _ [7] (by decide +kernel) (by decide +kernel)
set_option maxRecDepth 20000 in
theorem gX6_holder_X6_isIn : GoodIn wsX6_holder (va_wsS RX6 63 yX6_isIn wsX6_isIn) := goodIn_app (goodIn_of _ (by decide +kernel)) ggX6_holder_X6_isIn
theorem dX6_holder_0 : decode cX6_holder 0 = .ok (.iload_n 1, 1) := by decide +kernel
theorem dX6_holder_1 : decode cX6_holder 1 = .ok (.iconst 3, 1) := by decide +kernel
theorem dX6_holder_2 : decode cX6_holder 2 = .ok (.invokestatic 63, 3) := by decide +kernel
theorem dX6_holder_5 : decode cX6_holder 5 = .ok (.ifCond .eq 15, 3) := by decide +kernel
theorem dX6_holder_8 : decode cX6_holder 8 = .ok (.aload_n 0, 1) := by decide +kernel
theorem dX6_holder_9 : decode cX6_holder 9 = .ok (.getfield 10, 3) := by decide +kernel
theorem dX6_holder_12 : decode cX6_holder 12 = .ok (.getfield 152, 3) := by decide +kernel
theorem dX6_holder_15 : decode cX6_holder 15 = .ok (.iload_n 1, 1) := by decide +kernel
theorem dX6_holder_16 : decode cX6_holder 16 = .ok (.iaload, 1) := by decide +kernel
theorem dX6_holder_17 : decode cX6_holder 17 = .ok (.goto 5, 3) := by decide +kernel
theorem dX6_holder_20 : decode cX6_holder 20 = .ok (.ldc 67, 2) := by decide +kernel
theorem dX6_holder_22 : decode cX6_holder 22 = .ok (.ireturn, 1) := by decide +kernel
set_option maxRecDepth 20000 in
theorem ggX6_journal_X6_isIn : GoodIn wsX6_journal wsX6_isIn := goodIn_r _ [10] (by decide +kernel) (by decide +kernel)
set_option maxRecDepth 20000 in
theorem gX6_journal_X6_isIn : GoodIn wsX6_journal (va_wsS RX6 63 yX6_isIn wsX6_isIn) := goodIn_app (goodIn_of _ (by decide +kernel)) ggX6_journal_X6_isIn
theorem dX6_journal_0 : decode cX6_journal 0 = .ok (.iload_n 2, 1) := by decide +kernel
theorem dX6_journal_1 : decode cX6_journal 1 = .ok (.iconst 2, 1) := by decide +kernel
theorem dX6_journal_2 : decode cX6_journal 2 = .ok (.invokestatic 63, 3) := by decide +kernel
theorem dX6_journal_5 : decode cX6_journal 5 = .ok (.ifCond .ne 6, 3) := by decide +kernel
theorem dX6_journal_8 : decode cX6_journal 8 = .ok (.ldc 44, 2) := by decide +kernel
theorem dX6_journal_10 : decode cX6_journal 10 = .ok (.ireturn, 1) := by decide +kernel
theorem dX6_journal_11 : decode cX6_journal 11 = .ok (.aload_n 0, 1) := by decide +kernel
theorem dX6_journal_12 : decode cX6_journal 12 = .ok (.getfield 27, 3) := by decide +kernel
theorem dX6_journal_15 : decode cX6_journal 15 = .ok (.getfield 117, 3) := by decide +kernel
theorem dX6_journal_18 : decode cX6_journal 18 = .ok (.astore_n 3, 1) := by decide +kernel
theorem dX6_journal_19 : decode cX6_journal 19 = .ok (.iload_n 1, 1) := by decide +kernel
theorem dX6_journal_20 : decode cX6_journal 20 = .ok (.aload_n 3, 1) := by decide +kernel
theorem dX6_journal_21 : decode cX6_journal 21 = .ok (.getfield 121, 3) := by decide +kernel
theorem dX6_journal_24 : decode cX6_journal 24 = .ok (.invokestatic 63, 3) := by decide +kernel
theorem dX6_journal_27 : decode cX6_journal 27 = .ok (.ifCond .ne 5, 3) := by decide +kernel
theorem dX6_journal_30 : decode cX6_journal 30 = .ok (.iconst (-1), 1) := by decide +kernel
theorem dX6_journal_31 : decode cX6_journal 31 = .ok (.ireturn, 1) := by decide +kernel
theorem dX6_journal_32 : decode cX6_journal 32 = .ok (.iload_n 2, 1) := by decide +kernel
theorem dX6_journal_33 : decode cX6_journal 33 = .ok (.ifCond .ne 12, 3) := by decide +kernel
theorem dX6_journal_36 : decode cX6_journal 36 = .ok (.aload_n 3, 1) := by decide +kernel
theorem dX6_journal_37 : decode cX6_journal 37 = .ok (.getfield 155, 3) := by decide +kernel
theorem dX6_journal_40 : decode cX6_journal 40 = .ok (.iload_n 1, 1) := by decide +kernel
theorem dX6_journal_41 : decode cX6_journal 41 = .ok (.iaload, 1) := by decide +kernel
theorem dX6_journal_42 : decode cX6_journal 42 = .ok (.goto 9, 3) := by decide +kernel
theorem dX6_journal_45 : decode cX6_journal 45 = .ok (.aload_n 3, 1) := by decide +kernel
theorem dX6_journal_46 : decode cX6_journal 46 = .ok (.getfield 156, 3) := by decide +kernel
theorem dX6_journal_49 : decode cX6_journal 49 = .ok (.iload_n 1, 1) := by decide +kernel
theorem dX6_journal_50 : decode cX6_journal 50 = .ok (.iaload, 1) := by decide +kernel
theorem dX6_journal_51 : decode cX6_journal 51 = .ok (.ireturn, 1) := by decide +kernel
set_option maxRecDepth 20000 in
theorem ggX6_ahead_X6_isIn : GoodIn wsX6_ahead wsX6_isIn := goodIn_r _ [8] (by decide +kernel) (by decide +kernel)
set_option maxRecDepth 20000 in
theorem gX6_ahead_X6_isIn : GoodIn wsX6_ahead (va_wsS RX6 63 yX6_isIn wsX6_isIn) := goodIn_app (goodIn_of _ (by decide +kernel)) ggX6_ahead_X6_isIn
set_option maxRecDepth 20000 in
theorem ggX6_ahead_X3_isAhead : GoodIn wsX6_ahead wsX3_isAhead := goodIn_r _ [13, 14, 15, 16, 17, 18, 19, 20, 21, 33, 34, 35, 36, 37, 38, 39, 40, 41, 42] (by decide +kernel) (by decide +kernel)
set_option maxRecDepth 20000 in
theorem gX6_ahead_X3_isAhead : GoodIn wsX6_ahead (wsV RX6 159 RX3 yX3_isAhead wsX3_isAhead) := goodIn_app (goodIn_of _ (by decide +kernel)) ggX6_ahead_X3_isAhead
theorem dX6_ahead_0 : decode cX6_ahead 0 = .ok (.aload_n 0, 1) := by decide +kernel
theorem dX6_ahead_1 : decode cX6_ahead 1 = .ok (.getfield 10, 3) := by decide +kernel
theorem dX6_ahead_4 : decode cX6_ahead 4 = .ok (.getfield 31, 3) := by decide +kernel
theorem dX6_ahead_7 : decode cX6_ahead 7 = .ok (.astore_n 3, 1) := by decide +kernel
theorem dX6_ahead_8 : decode cX6_ahead 8 = .ok (.iload_n 1, 1) := by decide +kernel
theorem dX6_ahead_9 : decode cX6_ahead 9 = .ok (.aload_n 3, 1) := by decide +kernel
theorem dX6_ahead_10 : decode cX6_ahead 10 = .ok (.getfield 35, 3) := by decide +kernel
theorem dX6_ahead_13 : decode cX6_ahead 13 = .ok (.invokestatic 63, 3) := by decide +kernel
theorem dX6_ahead_16 : decode cX6_ahead 16 = .ok (.ifCond .eq 19, 3) := by decide +kernel
theorem dX6_ahead_19 : decode cX6_ahead 19 = .ok (.iload_n 2, 1) := by decide +kernel
theorem dX6_ahead_20 : decode cX6_ahead 20 = .ok (.aload_n 3, 1) := by decide +kernel
theorem dX6_ahead_21 : decode cX6_ahead 21 = .ok (.getfield 35, 3) := by decide +kernel
theorem dX6_ahead_24 : decode cX6_ahead 24 = .ok (.invokestatic 63, 3) := by decide +kernel
theorem dX6_ahead_27 : decode cX6_ahead 27 = .ok (.ifCond .eq 8, 3) := by decide +kernel
theorem dX6_ahead_30 : decode cX6_ahead 30 = .ok (.iload_n 1, 1) := by decide +kernel
theorem dX6_ahead_31 : decode cX6_ahead 31 = .ok (.iload_n 2, 1) := by decide +kernel
theorem dX6_ahead_32 : decode cX6_ahead 32 = .ok (.if_icmp .ne 6, 3) := by decide +kernel
theorem dX6_ahead_35 : decode cX6_ahead 35 = .ok (.ldc 67, 2) := by decide +kernel
theorem dX6_ahead_37 : decode cX6_ahead 37 = .ok (.ireturn, 1) := by decide +kernel
theorem dX6_ahead_38 : decode cX6_ahead 38 = .ok (.aload_n 3, 1) := by decide +kernel
theorem dX6_ahead_39 : decode cX6_ahead 39 = .ok (.iload_n 1, 1) := by decide +kernel
theorem dX6_ahead_40 : decode cX6_ahead 40 = .ok (.iload_n 2, 1) := by decide +kernel
theorem dX6_ahead_41 : decode cX6_ahead 41 = .ok (.invokevirtual 159, 3) := by decide +kernel
theorem dX6_ahead_44 : decode cX6_ahead 44 = .ok (.ifCond .eq 7, 3) := by decide +kernel
theorem dX6_ahead_47 : decode cX6_ahead 47 = .ok (.iconst 1, 1) := by decide +kernel
theorem dX6_ahead_48 : decode cX6_ahead 48 = .ok (.goto 4, 3) := by decide +kernel
theorem dX6_ahead_51 : decode cX6_ahead 51 = .ok (.iconst 0, 1) := by decide +kernel
theorem dX6_ahead_52 : decode cX6_ahead 52 = .ok (.ireturn, 1) := by decide +kernel
set_option maxRecDepth 20000 in
theorem ggX6_races_X6_isIn : GoodIn wsX6_races wsX6_isIn := goodIn_r _ [9] (by decide +kernel) (by decide +kernel)
set_option maxRecDepth 20000 in
theorem gX6_races_X6_isIn : GoodIn wsX6_races (va_wsS RX6 63 yX6_isIn wsX6_isIn) := goodIn_app (goodIn_of _ (by decide +kernel)) ggX6_races_X6_isIn
set_option maxRecDepth 20000 in
theorem ggX6_races_X3_racesOfCell : GoodIn wsX6_races wsX3_racesOfCell := goodIn_r _ [14, 15, 27, 28, 29, 30, 31, 32, 33, 34] (by decide +kernel) (by decide +kernel)
set_option maxRecDepth 20000 in
theorem gX6_races_X3_racesOfCell : GoodIn wsX6_races (wsV RX6 162 RX3 yX3_racesOfCell wsX3_racesOfCell) := goodIn_app (goodIn_of _ (by decide +kernel)) ggX6_races_X3_racesOfCell
theorem dX6_races_0 : decode cX6_races 0 = .ok (.iload_n 1, 1) := by decide +kernel
theorem dX6_races_1 : decode cX6_races 1 = .ok (.iconst 4, 1) := by decide +kernel
theorem dX6_races_2 : decode cX6_races 2 = .ok (.invokestatic 63, 3) := by decide +kernel
theorem dX6_races_5 : decode cX6_races 5 = .ok (.ifCond .ne 6, 3) := by decide +kernel
theorem dX6_races_8 : decode cX6_races 8 = .ok (.ldc 67, 2) := by decide +kernel
theorem dX6_races_10 : decode cX6_races 10 = .ok (.ireturn, 1) := by decide +kernel
theorem dX6_races_11 : decode cX6_races 11 = .ok (.iload_n 2, 1) := by decide +kernel
theorem dX6_races_12 : decode cX6_races 12 = .ok (.iconst 4, 1) := by decide +kernel
theorem dX6_races_13 : decode cX6_races 13 = .ok (.invokestatic 63, 3) := by decide +kernel
theorem dX6_races_16 : decode cX6_races 16 = .ok (.ifCond .ne 6, 3) := by decide +kernel
theorem dX6_races_19 : decode cX6_races 19 = .ok (.ldc 44, 2) := by decide +kernel
theorem dX6_races_21 : decode cX6_races 21 = .ok (.ireturn, 1) := by decide +kernel
theorem dX6_races_22 : decode cX6_races 22 = .ok (.iload_n 2, 1) := by decide +kernel
theorem dX6_races_23 : decode cX6_races 23 = .ok (.iconst 3, 1) := by decide +kernel
theorem dX6_races_24 : decode cX6_races 24 = .ok (.if_icmp .ne 17, 3) := by decide +kernel
theorem dX6_races_27 : decode cX6_races 27 = .ok (.aload_n 0, 1) := by decide +kernel
theorem dX6_races_28 : decode cX6_races 28 = .ok (.getfield 10, 3) := by decide +kernel
theorem dX6_races_31 : decode cX6_races 31 = .ok (.getfield 31, 3) := by decide +kernel
theorem dX6_races_34 : decode cX6_races 34 = .ok (.iload_n 1, 1) := by decide +kernel
theorem dX6_races_35 : decode cX6_races 35 = .ok (.invokevirtual 162, 3) := by decide +kernel
theorem dX6_races_38 : decode cX6_races 38 = .ok (.goto 19, 3) := by decide +kernel
theorem dX6_races_41 : decode cX6_races 41 = .ok (.aload_n 0, 1) := by decide +kernel
theorem dX6_races_42 : decode cX6_races 42 = .ok (.getfield 10, 3) := by decide +kernel
theorem dX6_races_45 : decode cX6_races 45 = .ok (.getfield 31, 3) := by decide +kernel
theorem dX6_races_48 : decode cX6_races 48 = .ok (.getfield 165, 3) := by decide +kernel
theorem dX6_races_51 : decode cX6_races 51 = .ok (.iload_n 1, 1) := by decide +kernel
theorem dX6_races_52 : decode cX6_races 52 = .ok (.iconst 3, 1) := by decide +kernel
theorem dX6_races_53 : decode cX6_races 53 = .ok (.imul, 1) := by decide +kernel
theorem dX6_races_54 : decode cX6_races 54 = .ok (.iload_n 2, 1) := by decide +kernel
theorem dX6_races_55 : decode cX6_races 55 = .ok (.iadd, 1) := by decide +kernel
theorem dX6_races_56 : decode cX6_races 56 = .ok (.iaload, 1) := by decide +kernel
theorem dX6_races_57 : decode cX6_races 57 = .ok (.ireturn, 1) := by decide +kernel
set_option maxRecDepth 20000 in
theorem ggX6_race_X6_isIn : GoodIn wsX6_race wsX6_isIn := goodIn_r _ [8] (by decide +kernel) (by decide +kernel)
set_option maxRecDepth 20000 in
theorem gX6_race_X6_isIn : GoodIn wsX6_race (va_wsS RX6 63 yX6_isIn wsX6_isIn) := goodIn_app (goodIn_of _ (by decide +kernel)) ggX6_race_X6_isIn
set_option maxRecDepth 20000 in
theorem ggX6_race_X3_partOfRace : GoodIn wsX6_race wsX3_partOfRace := goodIn_r _ [13, 14, 15, 16, 17, 18, 19, 12, 20, 21, 22, 23, 24, 25, 26, 27, 28, 29, 30, 31, 32, 33, 34, 35, 36, 37, 38, 39, 40, 41, 53, 54, 55, 56, 57, 58, 59, 60, 61, 62] (by decide +kernel) (by decide +kernel)
set_option maxRecDepth 20000 in
theorem gX6_race_X3_partOfRace : GoodIn wsX6_race (wsV RX6 168 RX3 yX3_partOfRace wsX3_partOfRace) := goodIn_app (goodIn_of _ (by decide +kernel)) ggX6_race_X3_partOfRace
theorem dX6_race_0 : decode cX6_race 0 = .ok (.iload_n 1, 1) := by decide +kernel
theorem dX6_race_1 : decode cX6_race 1 = .ok (.iconst 4, 1) := by decide +kernel
theorem dX6_race_2 : decode cX6_race 2 = .ok (.invokestatic 63, 3) := by decide +kernel
theorem dX6_race_5 : decode cX6_race 5 = .ok (.ifCond .ne 6, 3) := by decide +kernel
theorem dX6_race_8 : decode cX6_race 8 = .ok (.ldc 67, 2) := by decide +kernel
theorem dX6_race_10 : decode cX6_race 10 = .ok (.ireturn, 1) := by decide +kernel
theorem dX6_race_11 : decode cX6_race 11 = .ok (.iload_n 3, 1) := by decide +kernel
theorem dX6_race_12 : decode cX6_race 12 = .ok (.iconst 3, 1) := by decide +kernel
theorem dX6_race_13 : decode cX6_race 13 = .ok (.invokestatic 63, 3) := by decide +kernel
theorem dX6_race_16 : decode cX6_race 16 = .ok (.ifCond .eq 7, 3) := by decide +kernel
theorem dX6_race_19 : decode cX6_race 19 = .ok (.iload_n 2, 1) := by decide +kernel
theorem dX6_race_20 : decode cX6_race 20 = .ok (.ifCond .ge 6, 3) := by decide +kernel
theorem dX6_race_23 : decode cX6_race 23 = .ok (.ldc 44, 2) := by decide +kernel
theorem dX6_race_25 : decode cX6_race 25 = .ok (.ireturn, 1) := by decide +kernel
theorem dX6_race_26 : decode cX6_race 26 = .ok (.aload_n 0, 1) := by decide +kernel
theorem dX6_race_27 : decode cX6_race 27 = .ok (.getfield 10, 3) := by decide +kernel
theorem dX6_race_30 : decode cX6_race 30 = .ok (.getfield 31, 3) := by decide +kernel
theorem dX6_race_33 : decode cX6_race 33 = .ok (.iload_n 1, 1) := by decide +kernel
theorem dX6_race_34 : decode cX6_race 34 = .ok (.iload_n 2, 1) := by decide +kernel
theorem dX6_race_35 : decode cX6_race 35 = .ok (.iload_n 3, 1) := by decide +kernel
theorem dX6_race_36 : decode cX6_race 36 = .ok (.invokevirtual 168, 3) := by decide +kernel
theorem dX6_race_39 : decode cX6_race 39 = .ok (.ireturn, 1) := by decide +kernel
set_option maxRecDepth 20000 in
theorem ggX6_cell_X6_isIn : GoodIn wsX6_cell wsX6_isIn := goodIn_r _ [16] (by decide +kernel) (by decide +kernel)
set_option maxRecDepth 20000 in
theorem gX6_cell_X6_isIn : GoodIn wsX6_cell (va_wsS RX6 63 yX6_isIn wsX6_isIn) := goodIn_app (goodIn_of _ (by decide +kernel)) ggX6_cell_X6_isIn
theorem dX6_cell_0 : decode cX6_cell 0 = .ok (.iload_n 1, 1) := by decide +kernel
theorem dX6_cell_1 : decode cX6_cell 1 = .ok (.iconst 4, 1) := by decide +kernel
theorem dX6_cell_2 : decode cX6_cell 2 = .ok (.invokestatic 63, 3) := by decide +kernel
theorem dX6_cell_5 : decode cX6_cell 5 = .ok (.ifCond .ne 6, 3) := by decide +kernel
theorem dX6_cell_8 : decode cX6_cell 8 = .ok (.ldc 67, 2) := by decide +kernel
theorem dX6_cell_10 : decode cX6_cell 10 = .ok (.ireturn, 1) := by decide +kernel
theorem dX6_cell_11 : decode cX6_cell 11 = .ok (.aload_n 0, 1) := by decide +kernel
theorem dX6_cell_12 : decode cX6_cell 12 = .ok (.getfield 10, 3) := by decide +kernel
theorem dX6_cell_15 : decode cX6_cell 15 = .ok (.getfield 171, 3) := by decide +kernel
theorem dX6_cell_18 : decode cX6_cell 18 = .ok (.iload_n 1, 1) := by decide +kernel
theorem dX6_cell_19 : decode cX6_cell 19 = .ok (.aaload, 1) := by decide +kernel
theorem dX6_cell_20 : decode cX6_cell 20 = .ok (.astore_n 3, 1) := by decide +kernel
theorem dX6_cell_21 : decode cX6_cell 21 = .ok (.iload_n 2, 1) := by decide +kernel
theorem dX6_cell_22 : decode cX6_cell 22 = .ok (.tableswitch 94 0 7 #[46, 51, 56, 61, 66, 79, 84, 89], 46) := by decide +kernel
theorem dX6_cell_68 : decode cX6_cell 68 = .ok (.aload_n 3, 1) := by decide +kernel
theorem dX6_cell_69 : decode cX6_cell 69 = .ok (.getfield 175, 3) := by decide +kernel
theorem dX6_cell_72 : decode cX6_cell 72 = .ok (.ireturn, 1) := by decide +kernel
theorem dX6_cell_73 : decode cX6_cell 73 = .ok (.aload_n 3, 1) := by decide +kernel
theorem dX6_cell_74 : decode cX6_cell 74 = .ok (.getfield 180, 3) := by decide +kernel
theorem dX6_cell_77 : decode cX6_cell 77 = .ok (.ireturn, 1) := by decide +kernel
theorem dX6_cell_78 : decode cX6_cell 78 = .ok (.aload_n 3, 1) := by decide +kernel
theorem dX6_cell_79 : decode cX6_cell 79 = .ok (.getfield 183, 3) := by decide +kernel
theorem dX6_cell_82 : decode cX6_cell 82 = .ok (.ireturn, 1) := by decide +kernel
theorem dX6_cell_83 : decode cX6_cell 83 = .ok (.aload_n 3, 1) := by decide +kernel
theorem dX6_cell_84 : decode cX6_cell 84 = .ok (.getfield 186, 3) := by decide +kernel
theorem dX6_cell_87 : decode cX6_cell 87 = .ok (.ireturn, 1) := by decide +kernel
theorem dX6_cell_88 : decode cX6_cell 88 = .ok (.aload_n 3, 1) := by decide +kernel
theorem dX6_cell_89 : decode cX6_cell 89 = .ok (.getfield 189, 3) := by decide +kernel
theorem dX6_cell_92 : decode cX6_cell 92 = .ok (.ifCond .eq 7, 3) := by decide +kernel
theorem dX6_cell_95 : decode cX6_cell 95 = .ok (.iconst 1, 1) := by decide +kernel
theorem dX6_cell_96 : decode cX6_cell 96 = .ok (.goto 4, 3) := by decide +kernel
theorem dX6_cell_99 : decode cX6_cell 99 = .ok (.iconst 0, 1) := by decide +kernel
theorem dX6_cell_100 : decode cX6_cell 100 = .ok (.ireturn, 1) := by decide +kernel
theorem dX6_cell_101 : decode cX6_cell 101 = .ok (.aload_n 3, 1) := by decide +kernel
theorem dX6_cell_102 : decode cX6_cell 102 = .ok (.getfield 193, 3) := by decide +kernel
theorem dX6_cell_105 : decode cX6_cell 105 = .ok (.ireturn, 1) := by decide +kernel
theorem dX6_cell_106 : decode cX6_cell 106 = .ok (.aload_n 3, 1) := by decide +kernel
theorem dX6_cell_107 : decode cX6_cell 107 = .ok (.getfield 196, 3) := by decide +kernel
theorem dX6_cell_110 : decode cX6_cell 110 = .ok (.ireturn, 1) := by decide +kernel
theorem dX6_cell_111 : decode cX6_cell 111 = .ok (.aload_n 3, 1) := by decide +kernel
theorem dX6_cell_112 : decode cX6_cell 112 = .ok (.getfield 199, 3) := by decide +kernel
theorem dX6_cell_115 : decode cX6_cell 115 = .ok (.ireturn, 1) := by decide +kernel
theorem dX6_cell_116 : decode cX6_cell 116 = .ok (.ldc 44, 2) := by decide +kernel
theorem dX6_cell_118 : decode cX6_cell 118 = .ok (.ireturn, 1) := by decide +kernel
set_option maxRecDepth 20000 in
theorem ggX6_shared_X6_isIn : GoodIn wsX6_shared wsX6_isIn := goodIn_r _ [8] (by decide +kernel) (by decide +kernel)
set_option maxRecDepth 20000 in
theorem gX6_shared_X6_isIn : GoodIn wsX6_shared (va_wsS RX6 63 yX6_isIn wsX6_isIn) := goodIn_app (goodIn_of _ (by decide +kernel)) ggX6_shared_X6_isIn
theorem dX6_shared_0 : decode cX6_shared 0 = .ok (.iload_n 1, 1) := by decide +kernel
theorem dX6_shared_1 : decode cX6_shared 1 = .ok (.iconst 4, 1) := by decide +kernel
theorem dX6_shared_2 : decode cX6_shared 2 = .ok (.invokestatic 63, 3) := by decide +kernel
theorem dX6_shared_5 : decode cX6_shared 5 = .ok (.ifCond .eq 11, 3) := by decide +kernel
theorem dX6_shared_8 : decode cX6_shared 8 = .ok (.iload_n 2, 1) := by decide +kernel
theorem dX6_shared_9 : decode cX6_shared 9 = .ok (.iconst 4, 1) := by decide +kernel
theorem dX6_shared_10 : decode cX6_shared 10 = .ok (.invokestatic 63, 3) := by decide +kernel
theorem dX6_shared_13 : decode cX6_shared 13 = .ok (.ifCond .ne 6, 3) := by decide +kernel
theorem dX6_shared_16 : decode cX6_shared 16 = .ok (.ldc 67, 2) := by decide +kernel
theorem dX6_shared_18 : decode cX6_shared 18 = .ok (.ireturn, 1) := by decide +kernel
theorem dX6_shared_19 : decode cX6_shared 19 = .ok (.aload_n 0, 1) := by decide +kernel
theorem dX6_shared_20 : decode cX6_shared 20 = .ok (.getfield 10, 3) := by decide +kernel
theorem dX6_shared_23 : decode cX6_shared 23 = .ok (.getfield 171, 3) := by decide +kernel
theorem dX6_shared_26 : decode cX6_shared 26 = .ok (.iload_n 1, 1) := by decide +kernel
theorem dX6_shared_27 : decode cX6_shared 27 = .ok (.aaload, 1) := by decide +kernel
theorem dX6_shared_28 : decode cX6_shared 28 = .ok (.getfield 202, 3) := by decide +kernel
theorem dX6_shared_31 : decode cX6_shared 31 = .ok (.iload_n 2, 1) := by decide +kernel
theorem dX6_shared_32 : decode cX6_shared 32 = .ok (.iaload, 1) := by decide +kernel
theorem dX6_shared_33 : decode cX6_shared 33 = .ok (.ireturn, 1) := by decide +kernel
set_option maxRecDepth 20000 in
theorem ggX6_would_X6_isIn : GoodIn wsX6_would wsX6_isIn := goodIn_r _ [9] (by decide +kernel) (by decide +kernel)
set_option maxRecDepth 20000 in
theorem gX6_would_X6_isIn : GoodIn wsX6_would (va_wsS RX6 63 yX6_isIn wsX6_isIn) := goodIn_app (goodIn_of _ (by decide +kernel)) ggX6_would_X6_isIn
set_option maxRecDepth 20000 in
theorem ggX6_would_X5_goes : GoodIn wsX6_would wsX5_goes := goodIn_r _ [14, 15, 41, 42, 43, 44, 45, 46, 47] (by decide +kernel) (by decide +kernel)
set_option maxRecDepth 20000 in
theorem gX6_would_X5_goes : GoodIn wsX6_would (wsV RX6 68 RX5 yX5_goes wsX5_goes) := goodIn_app (goodIn_of _ (by decide +kernel)) ggX6_would_X5_goes
set_option maxRecDepth 20000 in
theorem ggX6_would_X2_kindOf : GoodIn wsX6_would wsX2_kindOf := goodIn_r _ [20, 21, 22, 23, 24, 25, 26, 27, 28, 29, 30, 31, 19, 32, 33, 34, 35, 36, 48, 49, 50, 51, 52, 53, 54, 55, 56, 57, 58, 59] (by decide +kernel) (by decide +kernel)
set_option maxRecDepth 20000 in
theorem gX6_would_X2_kindOf : GoodIn wsX6_would (wsV RX6 205 RX2 yX2_kindOf wsX2_kindOf) := goodIn_app (goodIn_of _ (by decide +kernel)) ggX6_would_X2_kindOf
theorem dX6_would_0 : decode cX6_would 0 = .ok (.iload_n 1, 1) := by decide +kernel
theorem dX6_would_1 : decode cX6_would 1 = .ok (.iconst 4, 1) := by decide +kernel
theorem dX6_would_2 : decode cX6_would 2 = .ok (.invokestatic 63, 3) := by decide +kernel
theorem dX6_would_5 : decode cX6_would 5 = .ok (.ifCond .eq 11, 3) := by decide +kernel
theorem dX6_would_8 : decode cX6_would 8 = .ok (.iload_n 2, 1) := by decide +kernel
theorem dX6_would_9 : decode cX6_would 9 = .ok (.iconst 4, 1) := by decide +kernel
theorem dX6_would_10 : decode cX6_would 10 = .ok (.invokestatic 63, 3) := by decide +kernel
theorem dX6_would_13 : decode cX6_would 13 = .ok (.ifCond .ne 6, 3) := by decide +kernel
theorem dX6_would_16 : decode cX6_would 16 = .ok (.ldc 67, 2) := by decide +kernel
theorem dX6_would_18 : decode cX6_would 18 = .ok (.ireturn, 1) := by decide +kernel
theorem dX6_would_19 : decode cX6_would 19 = .ok (.aload_n 0, 1) := by decide +kernel
theorem dX6_would_20 : decode cX6_would 20 = .ok (.getfield 10, 3) := by decide +kernel
theorem dX6_would_23 : decode cX6_would 23 = .ok (.iload_n 1, 1) := by decide +kernel
theorem dX6_would_24 : decode cX6_would 24 = .ok (.invokevirtual 68, 3) := by decide +kernel
theorem dX6_would_27 : decode cX6_would 27 = .ok (.ifCond .ne 6, 3) := by decide +kernel
theorem dX6_would_30 : decode cX6_would 30 = .ok (.ldc 72, 2) := by decide +kernel
theorem dX6_would_32 : decode cX6_would 32 = .ok (.ireturn, 1) := by decide +kernel
theorem dX6_would_33 : decode cX6_would 33 = .ok (.aload_n 0, 1) := by decide +kernel
theorem dX6_would_34 : decode cX6_would 34 = .ok (.getfield 10, 3) := by decide +kernel
theorem dX6_would_37 : decode cX6_would 37 = .ok (.getfield 171, 3) := by decide +kernel
theorem dX6_would_40 : decode cX6_would 40 = .ok (.iload_n 2, 1) := by decide +kernel
theorem dX6_would_41 : decode cX6_would 41 = .ok (.aaload, 1) := by decide +kernel
theorem dX6_would_42 : decode cX6_would 42 = .ok (.iload_n 3, 1) := by decide +kernel
theorem dX6_would_43 : decode cX6_would 43 = .ok (.aload_n 0, 1) := by decide +kernel
theorem dX6_would_44 : decode cX6_would 44 = .ok (.getfield 10, 3) := by decide +kernel
theorem dX6_would_47 : decode cX6_would 47 = .ok (.getfield 73, 3) := by decide +kernel
theorem dX6_would_50 : decode cX6_would 50 = .ok (.iload_n 1, 1) := by decide +kernel
theorem dX6_would_51 : decode cX6_would 51 = .ok (.invokevirtual 205, 3) := by decide +kernel
theorem dX6_would_54 : decode cX6_would 54 = .ok (.ireturn, 1) := by decide +kernel
set_option maxRecDepth 20000 in
theorem ggX6_guard_X6_isIn : GoodIn wsX6_guard wsX6_isIn := goodIn_r _ [8] (by decide +kernel) (by decide +kernel)
set_option maxRecDepth 20000 in
theorem gX6_guard_X6_isIn : GoodIn wsX6_guard (va_wsS RX6 63 yX6_isIn wsX6_isIn) := goodIn_app (goodIn_of _ (by decide +kernel)) ggX6_guard_X6_isIn
theorem dX6_guard_0 : decode cX6_guard 0 = .ok (.iload_n 1, 1) := by decide +kernel
theorem dX6_guard_1 : decode cX6_guard 1 = .ok (.iconst 4, 1) := by decide +kernel
theorem dX6_guard_2 : decode cX6_guard 2 = .ok (.invokestatic 63, 3) := by decide +kernel
theorem dX6_guard_5 : decode cX6_guard 5 = .ok (.ifCond .eq 18, 3) := by decide +kernel
theorem dX6_guard_8 : decode cX6_guard 8 = .ok (.aload_n 0, 1) := by decide +kernel
theorem dX6_guard_9 : decode cX6_guard 9 = .ok (.getfield 10, 3) := by decide +kernel
theorem dX6_guard_12 : decode cX6_guard 12 = .ok (.getfield 171, 3) := by decide +kernel
theorem dX6_guard_15 : decode cX6_guard 15 = .ok (.iload_n 1, 1) := by decide +kernel
theorem dX6_guard_16 : decode cX6_guard 16 = .ok (.aaload, 1) := by decide +kernel
theorem dX6_guard_17 : decode cX6_guard 17 = .ok (.getfield 209, 3) := by decide +kernel
theorem dX6_guard_20 : decode cX6_guard 20 = .ok (.goto 5, 3) := by decide +kernel
theorem dX6_guard_23 : decode cX6_guard 23 = .ok (.ldc 67, 2) := by decide +kernel
theorem dX6_guard_25 : decode cX6_guard 25 = .ok (.ireturn, 1) := by decide +kernel
set_option maxRecDepth 20000 in
theorem ggX6_keep_X6_isIn : GoodIn wsX6_keep wsX6_isIn := goodIn_r _ [10] (by decide +kernel) (by decide +kernel)
set_option maxRecDepth 20000 in
theorem gX6_keep_X6_isIn : GoodIn wsX6_keep (va_wsS RX6 63 yX6_isIn wsX6_isIn) := goodIn_app (goodIn_of _ (by decide +kernel)) ggX6_keep_X6_isIn
set_option maxRecDepth 20000 in
theorem ggX6_keep_X5_copy : GoodIn wsX6_keep wsX5_copy := goodIn_r _ [15, 16, 17, 18, 19, 20, 21, 22, 23, 24, 25, 26, 27, 28, 29, 30, 31, 32, 33, 34, 35, 36, 37, 38, 39, 40, 41, 42, 43, 44, 45, 46, 47, 48, 49, 50, 51, 52, 53, 54, 55, 56, 57, 58, 59, 60, 61, 62, 63, 64, 69, 70, 71, 72, 73, 74, 75, 84, 85, 86, 87, 88, 89, 90, 91, 92, 93, 94, 95, 76, 77, 78, 79, 80, 81, 82, 83] (by decide +kernel) (by decide +kernel)
set_option maxRecDepth 20000 in
theorem gX6_keep_X5_copy : GoodIn wsX6_keep (wsV RX6 212 RX5 yX5_copy wsX5_copy) := goodIn_app (goodIn_of _ (by decide +kernel)) ggX6_keep_X5_copy
theorem dX6_keep_0 : decode cX6_keep 0 = .ok (.iload_n 1, 1) := by decide +kernel
theorem dX6_keep_1 : decode cX6_keep 1 = .ok (.iconst 2, 1) := by decide +kernel
theorem dX6_keep_2 : decode cX6_keep 2 = .ok (.invokestatic 63, 3) := by decide +kernel
theorem dX6_keep_5 : decode cX6_keep 5 = .ok (.ifCond .ne 6, 3) := by decide +kernel
theorem dX6_keep_8 : decode cX6_keep 8 = .ok (.ldc 67, 2) := by decide +kernel
theorem dX6_keep_10 : decode cX6_keep 10 = .ok (.ireturn, 1) := by decide +kernel
theorem dX6_keep_11 : decode cX6_keep 11 = .ok (.aload_n 0, 1) := by decide +kernel
theorem dX6_keep_12 : decode cX6_keep 12 = .ok (.getfield 16, 3) := by decide +kernel
theorem dX6_keep_15 : decode cX6_keep 15 = .ok (.iload_n 1, 1) := by decide +kernel
theorem dX6_keep_16 : decode cX6_keep 16 = .ok (.aaload, 1) := by decide +kernel
theorem dX6_keep_17 : decode cX6_keep 17 = .ok (.aload_n 0, 1) := by decide +kernel
theorem dX6_keep_18 : decode cX6_keep 18 = .ok (.getfield 10, 3) := by decide +kernel
theorem dX6_keep_21 : decode cX6_keep 21 = .ok (.invokevirtual 212, 3) := by decide +kernel
theorem dX6_keep_24 : decode cX6_keep 24 = .ok (.aload_n 0, 1) := by decide +kernel
theorem dX6_keep_25 : decode cX6_keep 25 = .ok (.getfield 20, 3) := by decide +kernel
theorem dX6_keep_28 : decode cX6_keep 28 = .ok (.iload_n 1, 1) := by decide +kernel
theorem dX6_keep_29 : decode cX6_keep 29 = .ok (.iconst 1, 1) := by decide +kernel
theorem dX6_keep_30 : decode cX6_keep 30 = .ok (.bastore, 1) := by decide +kernel
theorem dX6_keep_31 : decode cX6_keep 31 = .ok (.aload_n 0, 1) := by decide +kernel
theorem dX6_keep_32 : decode cX6_keep 32 = .ok (.getfield 10, 3) := by decide +kernel
theorem dX6_keep_35 : decode cX6_keep 35 = .ok (.getfield 31, 3) := by decide +kernel
theorem dX6_keep_38 : decode cX6_keep 38 = .ok (.getfield 35, 3) := by decide +kernel
theorem dX6_keep_41 : decode cX6_keep 41 = .ok (.ireturn, 1) := by decide +kernel
set_option maxRecDepth 20000 in
theorem ggX6_goBack_X6_isIn : GoodIn wsX6_goBack wsX6_isIn := goodIn_r _ [11] (by decide +kernel) (by decide +kernel)
set_option maxRecDepth 20000 in
theorem gX6_goBack_X6_isIn : GoodIn wsX6_goBack (va_wsS RX6 63 yX6_isIn wsX6_isIn) := goodIn_app (goodIn_of _ (by decide +kernel)) ggX6_goBack_X6_isIn
set_option maxRecDepth 20000 in
theorem ggX6_goBack_X5_copy : GoodIn wsX6_goBack wsX5_copy := goodIn_r _ [16, 17, 18, 19, 20, 21, 22, 23, 24, 25, 26, 27, 28, 29, 30, 31, 32, 33, 34, 35, 36, 37, 38, 39, 40, 41, 42, 43, 44, 45, 46, 47, 48, 49, 50, 51, 52, 53, 54, 55, 56, 57, 58, 59, 60, 61, 62, 63, 64, 65, 70, 71, 72, 73, 74, 75, 76, 85, 86, 87, 88, 89, 90, 91, 92, 93, 94, 95, 96, 77, 78, 79, 80, 81, 82, 83, 84] (by decide +kernel) (by decide +kernel)
set_option maxRecDepth 20000 in
theorem gX6_goBack_X5_copy : GoodIn wsX6_goBack (wsV RX6 212 RX5 yX5_copy wsX5_copy) := goodIn_app (goodIn_of _ (by decide +kernel)) ggX6_goBack_X5_copy
theorem dX6_goBack_0 : decode cX6_goBack 0 = .ok (.iload_n 1, 1) := by decide +kernel
theorem dX6_goBack_1 : decode cX6_goBack 1 = .ok (.iconst 2, 1) := by decide +kernel
theorem dX6_goBack_2 : decode cX6_goBack 2 = .ok (.invokestatic 63, 3) := by decide +kernel
theorem dX6_goBack_5 : decode cX6_goBack 5 = .ok (.ifCond .ne 6, 3) := by decide +kernel
theorem dX6_goBack_8 : decode cX6_goBack 8 = .ok (.ldc 67, 2) := by decide +kernel
theorem dX6_goBack_10 : decode cX6_goBack 10 = .ok (.ireturn, 1) := by decide +kernel
theorem dX6_goBack_11 : decode cX6_goBack 11 = .ok (.aload_n 0, 1) := by decide +kernel
theorem dX6_goBack_12 : decode cX6_goBack 12 = .ok (.getfield 20, 3) := by decide +kernel
theorem dX6_goBack_15 : decode cX6_goBack 15 = .ok (.iload_n 1, 1) := by decide +kernel
theorem dX6_goBack_16 : decode cX6_goBack 16 = .ok (.baload, 1) := by decide +kernel
theorem dX6_goBack_17 : decode cX6_goBack 17 = .ok (.ifCond .ne 6, 3) := by decide +kernel
theorem dX6_goBack_20 : decode cX6_goBack 20 = .ok (.ldc 72, 2) := by decide +kernel
theorem dX6_goBack_22 : decode cX6_goBack 22 = .ok (.ireturn, 1) := by decide +kernel
theorem dX6_goBack_23 : decode cX6_goBack 23 = .ok (.aload_n 0, 1) := by decide +kernel
theorem dX6_goBack_24 : decode cX6_goBack 24 = .ok (.getfield 10, 3) := by decide +kernel
theorem dX6_goBack_27 : decode cX6_goBack 27 = .ok (.aload_n 0, 1) := by decide +kernel
theorem dX6_goBack_28 : decode cX6_goBack 28 = .ok (.getfield 16, 3) := by decide +kernel
theorem dX6_goBack_31 : decode cX6_goBack 31 = .ok (.iload_n 1, 1) := by decide +kernel
theorem dX6_goBack_32 : decode cX6_goBack 32 = .ok (.aaload, 1) := by decide +kernel
theorem dX6_goBack_33 : decode cX6_goBack 33 = .ok (.invokevirtual 212, 3) := by decide +kernel
theorem dX6_goBack_36 : decode cX6_goBack 36 = .ok (.aload_n 0, 1) := by decide +kernel
theorem dX6_goBack_37 : decode cX6_goBack 37 = .ok (.getfield 10, 3) := by decide +kernel
theorem dX6_goBack_40 : decode cX6_goBack 40 = .ok (.getfield 31, 3) := by decide +kernel
theorem dX6_goBack_43 : decode cX6_goBack 43 = .ok (.getfield 35, 3) := by decide +kernel
theorem dX6_goBack_46 : decode cX6_goBack 46 = .ok (.ireturn, 1) := by decide +kernel
set_option maxRecDepth 20000 in
theorem ggX6_refusalOf_X6_isIn : GoodIn wsX6_refusalOf wsX6_isIn := goodIn_r _ [11] (by decide +kernel) (by decide +kernel)
set_option maxRecDepth 20000 in
theorem gX6_refusalOf_X6_isIn : GoodIn wsX6_refusalOf (va_wsS RX6 63 yX6_isIn wsX6_isIn) := goodIn_app (goodIn_of _ (by decide +kernel)) ggX6_refusalOf_X6_isIn
set_option maxRecDepth 20000 in
theorem ggX6_refusalOf_X6_boundOf : GoodIn wsX6_refusalOf wsX6_boundOf := goodIn_r _ [14] (by decide +kernel) (by decide +kernel)
set_option maxRecDepth 20000 in
theorem gX6_refusalOf_X6_boundOf : GoodIn wsX6_refusalOf (va_wsS RX6 98 yX6_boundOf wsX6_boundOf) := goodIn_app (goodIn_of _ (by decide +kernel)) ggX6_refusalOf_X6_boundOf
set_option maxRecDepth 20000 in
theorem ggX6_refusalOf_X6_isItself : GoodIn wsX6_refusalOf wsX6_isItself := goodIn_r _ [17] (by decide +kernel) (by decide +kernel)
set_option maxRecDepth 20000 in
theorem gX6_refusalOf_X6_isItself : GoodIn wsX6_refusalOf (va_wsS RX6 216 yX6_isItself wsX6_isItself) := goodIn_app (goodIn_of _ (by decide +kernel)) ggX6_refusalOf_X6_isItself
set_option maxRecDepth 20000 in
theorem ggX6_refusalOf_X5_canBe : GoodIn wsX6_refusalOf wsX5_canBe := goodIn_r _ [22, 23, 24, 25, 26, 27, 21, 28, 29, 30, 31, 32, 55, 56, 57, 58, 59, 60, 61] (by decide +kernel) (by decide +kernel)
set_option maxRecDepth 20000 in
theorem gX6_refusalOf_X5_canBe : GoodIn wsX6_refusalOf (wsV RX6 220 RX5 yX5_canBe wsX5_canBe) := goodIn_app (goodIn_of _ (by decide +kernel)) ggX6_refusalOf_X5_canBe
set_option maxRecDepth 20000 in
theorem ggX6_refusalOf_X3_hasRoom : GoodIn wsX6_refusalOf wsX3_hasRoom := goodIn_r _ [37, 38, 62, 63, 64, 65, 66, 67, 68, 69] (by decide +kernel) (by decide +kernel)
set_option maxRecDepth 20000 in
theorem gX6_refusalOf_X3_hasRoom : GoodIn wsX6_refusalOf (wsV RX6 223 RX3 yX3_hasRoom wsX3_hasRoom) := goodIn_app (goodIn_of _ (by decide +kernel)) ggX6_refusalOf_X3_hasRoom
set_option maxRecDepth 20000 in
theorem ggX6_refusalOf_X5_stepIsMuch : GoodIn wsX6_refusalOf wsX5_stepIsMuch := goodIn_r _ [42, 43, 44, 45, 46, 47, 48, 49, 50, 55, 56, 57, 58, 59, 60, 61, 70, 71] (by decide +kernel) (by decide +kernel)
set_option maxRecDepth 20000 in
theorem gX6_refusalOf_X5_stepIsMuch : GoodIn wsX6_refusalOf (wsV RX6 227 RX5 yX5_stepIsMuch wsX5_stepIsMuch) := goodIn_app (goodIn_of _ (by decide +kernel)) ggX6_refusalOf_X5_stepIsMuch
theorem dX6_refusalOf_0 : decode cX6_refusalOf 0 = .ok (.iload_n 1, 1) := by decide +kernel
theorem dX6_refusalOf_1 : decode cX6_refusalOf 1 = .ok (.iconst 4, 1) := by decide +kernel
theorem dX6_refusalOf_2 : decode cX6_refusalOf 2 = .ok (.invokestatic 63, 3) := by decide +kernel
theorem dX6_refusalOf_5 : decode cX6_refusalOf 5 = .ok (.ifCond .ne 6, 3) := by decide +kernel
theorem dX6_refusalOf_8 : decode cX6_refusalOf 8 = .ok (.ldc 67, 2) := by decide +kernel
theorem dX6_refusalOf_10 : decode cX6_refusalOf 10 = .ok (.ireturn, 1) := by decide +kernel
theorem dX6_refusalOf_11 : decode cX6_refusalOf 11 = .ok (.iload_n 2, 1) := by decide +kernel
theorem dX6_refusalOf_12 : decode cX6_refusalOf 12 = .ok (.bipush 8, 2) := by decide +kernel
theorem dX6_refusalOf_14 : decode cX6_refusalOf 14 = .ok (.invokestatic 63, 3) := by decide +kernel
theorem dX6_refusalOf_17 : decode cX6_refusalOf 17 = .ok (.ifCond .ne 6, 3) := by decide +kernel
theorem dX6_refusalOf_20 : decode cX6_refusalOf 20 = .ok (.ldc 44, 2) := by decide +kernel
theorem dX6_refusalOf_22 : decode cX6_refusalOf 22 = .ok (.ireturn, 1) := by decide +kernel
theorem dX6_refusalOf_23 : decode cX6_refusalOf 23 = .ok (.iload_n 3, 1) := by decide +kernel
theorem dX6_refusalOf_24 : decode cX6_refusalOf 24 = .ok (.iload_n 2, 1) := by decide +kernel
theorem dX6_refusalOf_25 : decode cX6_refusalOf 25 = .ok (.invokestatic 98, 3) := by decide +kernel
theorem dX6_refusalOf_28 : decode cX6_refusalOf 28 = .ok (.invokestatic 63, 3) := by decide +kernel
theorem dX6_refusalOf_31 : decode cX6_refusalOf 31 = .ok (.ifCond .eq 12, 3) := by decide +kernel
theorem dX6_refusalOf_34 : decode cX6_refusalOf 34 = .ok (.iload_n 1, 1) := by decide +kernel
theorem dX6_refusalOf_35 : decode cX6_refusalOf 35 = .ok (.iload_n 2, 1) := by decide +kernel
theorem dX6_refusalOf_36 : decode cX6_refusalOf 36 = .ok (.iload_n 3, 1) := by decide +kernel
theorem dX6_refusalOf_37 : decode cX6_refusalOf 37 = .ok (.invokestatic 216, 3) := by decide +kernel
theorem dX6_refusalOf_40 : decode cX6_refusalOf 40 = .ok (.ifCond .eq 6, 3) := by decide +kernel
theorem dX6_refusalOf_43 : decode cX6_refusalOf 43 = .ok (.ldc 67, 2) := by decide +kernel
theorem dX6_refusalOf_45 : decode cX6_refusalOf 45 = .ok (.ireturn, 1) := by decide +kernel
theorem dX6_refusalOf_46 : decode cX6_refusalOf 46 = .ok (.aload_n 0, 1) := by decide +kernel
theorem dX6_refusalOf_47 : decode cX6_refusalOf 47 = .ok (.getfield 10, 3) := by decide +kernel
theorem dX6_refusalOf_50 : decode cX6_refusalOf 50 = .ok (.iload_n 1, 1) := by decide +kernel
theorem dX6_refusalOf_51 : decode cX6_refusalOf 51 = .ok (.iload_n 2, 1) := by decide +kernel
theorem dX6_refusalOf_52 : decode cX6_refusalOf 52 = .ok (.iload_n 3, 1) := by decide +kernel
theorem dX6_refusalOf_53 : decode cX6_refusalOf 53 = .ok (.invokevirtual 220, 3) := by decide +kernel
theorem dX6_refusalOf_56 : decode cX6_refusalOf 56 = .ok (.ifCond .ne 6, 3) := by decide +kernel
theorem dX6_refusalOf_59 : decode cX6_refusalOf 59 = .ok (.ldc 72, 2) := by decide +kernel
theorem dX6_refusalOf_61 : decode cX6_refusalOf 61 = .ok (.ireturn, 1) := by decide +kernel
theorem dX6_refusalOf_62 : decode cX6_refusalOf 62 = .ok (.aload_n 0, 1) := by decide +kernel
theorem dX6_refusalOf_63 : decode cX6_refusalOf 63 = .ok (.getfield 10, 3) := by decide +kernel
theorem dX6_refusalOf_66 : decode cX6_refusalOf 66 = .ok (.getfield 31, 3) := by decide +kernel
theorem dX6_refusalOf_69 : decode cX6_refusalOf 69 = .ok (.iconst 1, 1) := by decide +kernel
theorem dX6_refusalOf_70 : decode cX6_refusalOf 70 = .ok (.invokevirtual 223, 3) := by decide +kernel
theorem dX6_refusalOf_73 : decode cX6_refusalOf 73 = .ok (.ifCond .ne 6, 3) := by decide +kernel
theorem dX6_refusalOf_76 : decode cX6_refusalOf 76 = .ok (.ldc 226, 2) := by decide +kernel
theorem dX6_refusalOf_78 : decode cX6_refusalOf 78 = .ok (.ireturn, 1) := by decide +kernel
theorem dX6_refusalOf_79 : decode cX6_refusalOf 79 = .ok (.aload_n 0, 1) := by decide +kernel
theorem dX6_refusalOf_80 : decode cX6_refusalOf 80 = .ok (.getfield 10, 3) := by decide +kernel
theorem dX6_refusalOf_83 : decode cX6_refusalOf 83 = .ok (.iload_n 1, 1) := by decide +kernel
theorem dX6_refusalOf_84 : decode cX6_refusalOf 84 = .ok (.iload_n 2, 1) := by decide +kernel
theorem dX6_refusalOf_85 : decode cX6_refusalOf 85 = .ok (.invokevirtual 227, 3) := by decide +kernel
theorem dX6_refusalOf_88 : decode cX6_refusalOf 88 = .ok (.ifCond .eq 8, 3) := by decide +kernel
theorem dX6_refusalOf_91 : decode cX6_refusalOf 91 = .ok (.ldc 84, 2) := by decide +kernel
theorem dX6_refusalOf_93 : decode cX6_refusalOf 93 = .ok (.goto 4, 3) := by decide +kernel
theorem dX6_refusalOf_96 : decode cX6_refusalOf 96 = .ok (.iconst 0, 1) := by decide +kernel
theorem dX6_refusalOf_97 : decode cX6_refusalOf 97 = .ok (.ireturn, 1) := by decide +kernel
theorem dX6_isIn_0 : decode cX6_isIn 0 = .ok (.iload_n 0, 1) := by decide +kernel
theorem dX6_isIn_1 : decode cX6_isIn 1 = .ok (.ifCond .lt 12, 3) := by decide +kernel
theorem dX6_isIn_4 : decode cX6_isIn 4 = .ok (.iload_n 0, 1) := by decide +kernel
theorem dX6_isIn_5 : decode cX6_isIn 5 = .ok (.iload_n 1, 1) := by decide +kernel
theorem dX6_isIn_6 : decode cX6_isIn 6 = .ok (.if_icmp .ge 7, 3) := by decide +kernel
theorem dX6_isIn_9 : decode cX6_isIn 9 = .ok (.iconst 1, 1) := by decide +kernel
theorem dX6_isIn_10 : decode cX6_isIn 10 = .ok (.goto 4, 3) := by decide +kernel
theorem dX6_isIn_13 : decode cX6_isIn 13 = .ok (.iconst 0, 1) := by decide +kernel
theorem dX6_isIn_14 : decode cX6_isIn 14 = .ok (.ireturn, 1) := by decide +kernel
theorem dX6_isItself_0 : decode cX6_isItself 0 = .ok (.iload_n 1, 1) := by decide +kernel
theorem dX6_isItself_1 : decode cX6_isItself 1 = .ok (.bipush 6, 2) := by decide +kernel
theorem dX6_isItself_3 : decode cX6_isItself 3 = .ok (.if_icmp .eq 9, 3) := by decide +kernel
theorem dX6_isItself_6 : decode cX6_isItself 6 = .ok (.iload_n 1, 1) := by decide +kernel
theorem dX6_isItself_7 : decode cX6_isItself 7 = .ok (.bipush 7, 2) := by decide +kernel
theorem dX6_isItself_9 : decode cX6_isItself 9 = .ok (.if_icmp .ne 12, 3) := by decide +kernel
theorem dX6_isItself_12 : decode cX6_isItself 12 = .ok (.iload_n 2, 1) := by decide +kernel
theorem dX6_isItself_13 : decode cX6_isItself 13 = .ok (.iload_n 0, 1) := by decide +kernel
theorem dX6_isItself_14 : decode cX6_isItself 14 = .ok (.if_icmp .ne 7, 3) := by decide +kernel
theorem dX6_isItself_17 : decode cX6_isItself 17 = .ok (.iconst 1, 1) := by decide +kernel
theorem dX6_isItself_18 : decode cX6_isItself 18 = .ok (.goto 4, 3) := by decide +kernel
theorem dX6_isItself_21 : decode cX6_isItself 21 = .ok (.iconst 0, 1) := by decide +kernel
theorem dX6_isItself_22 : decode cX6_isItself 22 = .ok (.ireturn, 1) := by decide +kernel
theorem dX6_boundOf_0 : decode cX6_boundOf 0 = .ok (.iload_n 0, 1) := by decide +kernel
theorem dX6_boundOf_1 : decode cX6_boundOf 1 = .ok (.tableswitch 45 0 5 #[39, 39, 41, 41, 43, 43], 39) := by decide +kernel
theorem dX6_boundOf_40 : decode cX6_boundOf 40 = .ok (.iconst 4, 1) := by decide +kernel
theorem dX6_boundOf_41 : decode cX6_boundOf 41 = .ok (.ireturn, 1) := by decide +kernel
theorem dX6_boundOf_42 : decode cX6_boundOf 42 = .ok (.iconst 3, 1) := by decide +kernel
theorem dX6_boundOf_43 : decode cX6_boundOf 43 = .ok (.ireturn, 1) := by decide +kernel
theorem dX6_boundOf_44 : decode cX6_boundOf 44 = .ok (.iconst 2, 1) := by decide +kernel
theorem dX6_boundOf_45 : decode cX6_boundOf 45 = .ok (.ireturn, 1) := by decide +kernel
theorem dX6_boundOf_46 : decode cX6_boundOf 46 = .ok (.iconst 4, 1) := by decide +kernel
theorem dX6_boundOf_47 : decode cX6_boundOf 47 = .ok (.ireturn, 1) := by decide +kernel
theorem dX6_lotBehind_0 : decode cX6_lotBehind 0 = .ok (.lload_n 0, 1) := by decide +kernel
theorem dX6_lotBehind_1 : decode cX6_lotBehind 1 = .ok (.ldc2_w 230, 3) := by decide +kernel
theorem dX6_lotBehind_4 : decode cX6_lotBehind 4 = .ok (.lmul, 1) := by decide +kernel
theorem dX6_lotBehind_5 : decode cX6_lotBehind 5 = .ok (.ldc2_w 232, 3) := by decide +kernel
theorem dX6_lotBehind_8 : decode cX6_lotBehind 8 = .ok (.lrem, 1) := by decide +kernel
theorem dX6_lotBehind_9 : decode cX6_lotBehind 9 = .ok (.lreturn, 1) := by decide +kernel
end
section
set_option maxRecDepth 20000 in
theorem ggX7_init_X7_clear : GoodIn wsX7_init wsX7_clear := goodIn_r _ [15, 5, 16, 17, 14, 18, 19, 20, 21, 22, 23, 24, 25, 26, 27, 28, 29, 30, 31, 32] (by decide +kernel) (by decide +kernel)
set_option maxRecDepth 20000 in
theorem gX7_init_X7_clear : GoodIn wsX7_init (wsV RX7 26 RX7 yX7_clear wsX7_clear) := goodIn_app (goodIn_of _ (by decide +kernel)) ggX7_init_X7_clear
theorem dX7_init_0 : decode cX7_init 0 = .ok (.aload_n 0, 1) := by decide +kernel
theorem dX7_init_1 : decode cX7_init 1 = .ok (.invokespecial 1, 3) := by decide +kernel
theorem dX7_init_4 : decode cX7_init 4 = .ok (.aload_n 0, 1) := by decide +kernel
theorem dX7_init_5 : decode cX7_init 5 = .ok (.sipush 4358, 3) := by decide +kernel
theorem dX7_init_8 : decode cX7_init 8 = .ok (.newarray .int, 2) := by decide +kernel
theorem dX7_init_10 : decode cX7_init 10 = .ok (.putfield 7, 3) := by decide +kernel
theorem dX7_init_13 : decode cX7_init 13 = .ok (.aload_n 0, 1) := by decide +kernel
theorem dX7_init_14 : decode cX7_init 14 = .ok (.iconst 2, 1) := by decide +kernel
theorem dX7_init_15 : decode cX7_init 15 = .ok (.newarray .boolean, 2) := by decide +kernel
theorem dX7_init_17 : decode cX7_init 17 = .ok (.putfield 13, 3) := by decide +kernel
theorem dX7_init_20 : decode cX7_init 20 = .ok (.aload_n 0, 1) := by decide +kernel
theorem dX7_init_21 : decode cX7_init 21 = .ok (.bipush 24, 2) := by decide +kernel
theorem dX7_init_23 : decode cX7_init 23 = .ok (.newarray .int, 2) := by decide +kernel
theorem dX7_init_25 : decode cX7_init 25 = .ok (.putfield 17, 3) := by decide +kernel
theorem dX7_init_28 : decode cX7_init 28 = .ok (.aload_n 0, 1) := by decide +kernel
theorem dX7_init_29 : decode cX7_init 29 = .ok (.sipush 240, 3) := by decide +kernel
theorem dX7_init_32 : decode cX7_init 32 = .ok (.newarray .int, 2) := by decide +kernel
theorem dX7_init_34 : decode cX7_init 34 = .ok (.putfield 20, 3) := by decide +kernel
theorem dX7_init_37 : decode cX7_init 37 = .ok (.aload_n 0, 1) := by decide +kernel
theorem dX7_init_38 : decode cX7_init 38 = .ok (.sipush 240, 3) := by decide +kernel
theorem dX7_init_41 : decode cX7_init 41 = .ok (.newarray .int, 2) := by decide +kernel
theorem dX7_init_43 : decode cX7_init 43 = .ok (.putfield 23, 3) := by decide +kernel
theorem dX7_init_46 : decode cX7_init 46 = .ok (.aload_n 0, 1) := by decide +kernel
theorem dX7_init_47 : decode cX7_init 47 = .ok (.invokevirtual 26, 3) := by decide +kernel
theorem dX7_init_50 : decode cX7_init 50 = .ok (.aload_n 0, 1) := by decide +kernel
theorem dX7_init_51 : decode cX7_init 51 = .ok (.getfield 7, 3) := by decide +kernel
theorem dX7_init_54 : decode cX7_init 54 = .ok (.sipush 1613, 3) := by decide +kernel
theorem dX7_init_57 : decode cX7_init 57 = .ok (.iconst (-1), 1) := by decide +kernel
theorem dX7_init_58 : decode cX7_init 58 = .ok (.iastore, 1) := by decide +kernel
theorem dX7_init_59 : decode cX7_init 59 = .ok (.return_, 1) := by decide +kernel
theorem dX7_in_0 : decode cX7_in 0 = .ok (.lload_n 0, 1) := by decide +kernel
theorem dX7_in_1 : decode cX7_in 1 = .ok (.lload_n 2, 1) := by decide +kernel
theorem dX7_in_2 : decode cX7_in 2 = .ok (.lcmp, 1) := by decide +kernel
theorem dX7_in_3 : decode cX7_in 3 = .ok (.ifCond .lt 14, 3) := by decide +kernel
theorem dX7_in_6 : decode cX7_in 6 = .ok (.lload_n 0, 1) := by decide +kernel
theorem dX7_in_7 : decode cX7_in 7 = .ok (.lload 4, 2) := by decide +kernel
theorem dX7_in_9 : decode cX7_in 9 = .ok (.lcmp, 1) := by decide +kernel
theorem dX7_in_10 : decode cX7_in 10 = .ok (.ifCond .gt 7, 3) := by decide +kernel
theorem dX7_in_13 : decode cX7_in 13 = .ok (.iconst 1, 1) := by decide +kernel
theorem dX7_in_14 : decode cX7_in 14 = .ok (.goto 4, 3) := by decide +kernel
theorem dX7_in_17 : decode cX7_in 17 = .ok (.iconst 0, 1) := by decide +kernel
theorem dX7_in_18 : decode cX7_in 18 = .ok (.ireturn, 1) := by decide +kernel
set_option maxRecDepth 20000 in
theorem ggX7_isThread_X7_in : GoodIn wsX7_isThread wsX7_in := goodIn_r _ [5] (by decide +kernel) (by decide +kernel)
set_option maxRecDepth 20000 in
theorem gX7_isThread_X7_in : GoodIn wsX7_isThread (va_wsS RX7 31 yX7_in wsX7_in) := goodIn_app (goodIn_of _ (by decide +kernel)) ggX7_isThread_X7_in
theorem dX7_isThread_0 : decode cX7_isThread 0 = .ok (.iload_n 0, 1) := by decide +kernel
theorem dX7_isThread_1 : decode cX7_isThread 1 = .ok (.i2l, 1) := by decide +kernel
theorem dX7_isThread_2 : decode cX7_isThread 2 = .ok (.lconst 0, 1) := by decide +kernel
theorem dX7_isThread_3 : decode cX7_isThread 3 = .ok (.ldc2_w 29, 3) := by decide +kernel
theorem dX7_isThread_6 : decode cX7_isThread 6 = .ok (.invokestatic 31, 3) := by decide +kernel
theorem dX7_isThread_9 : decode cX7_isThread 9 = .ok (.ireturn, 1) := by decide +kernel
set_option maxRecDepth 20000 in
theorem ggX7_isLock_X7_in : GoodIn wsX7_isLock wsX7_in := goodIn_r _ [5] (by decide +kernel) (by decide +kernel)
set_option maxRecDepth 20000 in
theorem gX7_isLock_X7_in : GoodIn wsX7_isLock (va_wsS RX7 31 yX7_in wsX7_in) := goodIn_app (goodIn_of _ (by decide +kernel)) ggX7_isLock_X7_in
theorem dX7_isLock_0 : decode cX7_isLock 0 = .ok (.iload_n 0, 1) := by decide +kernel
theorem dX7_isLock_1 : decode cX7_isLock 1 = .ok (.i2l, 1) := by decide +kernel
theorem dX7_isLock_2 : decode cX7_isLock 2 = .ok (.lconst 0, 1) := by decide +kernel
theorem dX7_isLock_3 : decode cX7_isLock 3 = .ok (.ldc2_w 35, 3) := by decide +kernel
theorem dX7_isLock_6 : decode cX7_isLock 6 = .ok (.invokestatic 31, 3) := by decide +kernel
theorem dX7_isLock_9 : decode cX7_isLock 9 = .ok (.ireturn, 1) := by decide +kernel
set_option maxRecDepth 20000 in
theorem ggX7_isCell_X7_in : GoodIn wsX7_isCell wsX7_in := goodIn_r _ [5] (by decide +kernel) (by decide +kernel)
set_option maxRecDepth 20000 in
theorem gX7_isCell_X7_in : GoodIn wsX7_isCell (va_wsS RX7 31 yX7_in wsX7_in) := goodIn_app (goodIn_of _ (by decide +kernel)) ggX7_isCell_X7_in
theorem dX7_isCell_0 : decode cX7_isCell 0 = .ok (.iload_n 0, 1) := by decide +kernel
theorem dX7_isCell_1 : decode cX7_isCell 1 = .ok (.i2l, 1) := by decide +kernel
theorem dX7_isCell_2 : decode cX7_isCell 2 = .ok (.lconst 0, 1) := by decide +kernel
theorem dX7_isCell_3 : decode cX7_isCell 3 = .ok (.ldc2_w 29, 3) := by decide +kernel
theorem dX7_isCell_6 : decode cX7_isCell 6 = .ok (.invokestatic 31, 3) := by decide +kernel
theorem dX7_isCell_9 : decode cX7_isCell 9 = .ok (.ireturn, 1) := by decide +kernel
set_option maxRecDepth 20000 in
theorem ggX7_isSeen_X7_in : GoodIn wsX7_isSeen wsX7_in := goodIn_r _ [4] (by decide +kernel) (by decide +kernel)
set_option maxRecDepth 20000 in
theorem gX7_isSeen_X7_in : GoodIn wsX7_isSeen (va_wsS RX7 31 yX7_in wsX7_in) := goodIn_app (goodIn_of _ (by decide +kernel)) ggX7_isSeen_X7_in
theorem dX7_isSeen_0 : decode cX7_isSeen 0 = .ok (.iload_n 0, 1) := by decide +kernel
theorem dX7_isSeen_1 : decode cX7_isSeen 1 = .ok (.i2l, 1) := by decide +kernel
theorem dX7_isSeen_2 : decode cX7_isSeen 2 = .ok (.lconst 0, 1) := by decide +kernel
theorem dX7_isSeen_3 : decode cX7_isSeen 3 = .ok (.lconst 1, 1) := by decide +kernel
theorem dX7_isSeen_4 : decode cX7_isSeen 4 = .ok (.invokestatic 31, 3) := by decide +kernel
theorem dX7_isSeen_7 : decode cX7_isSeen 7 = .ok (.ireturn, 1) := by decide +kernel
set_option maxRecDepth 20000 in
theorem ggX7_clear_X7_of : GoodIn wsX7_clear wsX7_of := goodIn_r _ [5] (by decide +kernel) (by decide +kernel)
set_option maxRecDepth 20000 in
theorem gX7_clear_X7_of : GoodIn wsX7_clear (va_wsS RX7 37 yX7_of wsX7_of) := goodIn_app (goodIn_of _ (by decide +kernel)) ggX7_clear_X7_of
theorem dX7_clear_0 : decode cX7_clear 0 = .ok (.iconst 0, 1) := by decide +kernel
theorem dX7_clear_1 : decode cX7_clear 1 = .ok (.istore_n 1, 1) := by decide +kernel
theorem dX7_clear_2 : decode cX7_clear 2 = .ok (.iload_n 1, 1) := by decide +kernel
theorem dX7_clear_3 : decode cX7_clear 3 = .ok (.sipush 1372, 3) := by decide +kernel
theorem dX7_clear_6 : decode cX7_clear 6 = .ok (.if_icmp .ge 16, 3) := by decide +kernel
theorem dX7_clear_9 : decode cX7_clear 9 = .ok (.aload_n 0, 1) := by decide +kernel
theorem dX7_clear_10 : decode cX7_clear 10 = .ok (.getfield 7, 3) := by decide +kernel
theorem dX7_clear_13 : decode cX7_clear 13 = .ok (.iload_n 1, 1) := by decide +kernel
theorem dX7_clear_14 : decode cX7_clear 14 = .ok (.iconst 0, 1) := by decide +kernel
theorem dX7_clear_15 : decode cX7_clear 15 = .ok (.iastore, 1) := by decide +kernel
theorem dX7_clear_16 : decode cX7_clear 16 = .ok (.iinc 1 1, 3) := by decide +kernel
theorem dX7_clear_19 : decode cX7_clear 19 = .ok (.goto (-17), 3) := by decide +kernel
theorem dX7_clear_22 : decode cX7_clear 22 = .ok (.aload_n 0, 1) := by decide +kernel
theorem dX7_clear_23 : decode cX7_clear 23 = .ok (.getfield 7, 3) := by decide +kernel
theorem dX7_clear_26 : decode cX7_clear 26 = .ok (.iconst 0, 1) := by decide +kernel
theorem dX7_clear_27 : decode cX7_clear 27 = .ok (.iconst 1, 1) := by decide +kernel
theorem dX7_clear_28 : decode cX7_clear 28 = .ok (.iastore, 1) := by decide +kernel
theorem dX7_clear_29 : decode cX7_clear 29 = .ok (.iconst 0, 1) := by decide +kernel
theorem dX7_clear_30 : decode cX7_clear 30 = .ok (.istore_n 1, 1) := by decide +kernel
theorem dX7_clear_31 : decode cX7_clear 31 = .ok (.iload_n 1, 1) := by decide +kernel
theorem dX7_clear_32 : decode cX7_clear 32 = .ok (.iconst 4, 1) := by decide +kernel
theorem dX7_clear_33 : decode cX7_clear 33 = .ok (.if_icmp .ge 20, 3) := by decide +kernel
theorem dX7_clear_36 : decode cX7_clear 36 = .ok (.aload_n 0, 1) := by decide +kernel
theorem dX7_clear_37 : decode cX7_clear 37 = .ok (.getfield 7, 3) := by decide +kernel
theorem dX7_clear_40 : decode cX7_clear 40 = .ok (.iconst 4, 1) := by decide +kernel
theorem dX7_clear_41 : decode cX7_clear 41 = .ok (.iconst 5, 1) := by decide +kernel
theorem dX7_clear_42 : decode cX7_clear 42 = .ok (.iload_n 1, 1) := by decide +kernel
theorem dX7_clear_43 : decode cX7_clear 43 = .ok (.imul, 1) := by decide +kernel
theorem dX7_clear_44 : decode cX7_clear 44 = .ok (.iadd, 1) := by decide +kernel
theorem dX7_clear_45 : decode cX7_clear 45 = .ok (.iconst 1, 1) := by decide +kernel
theorem dX7_clear_46 : decode cX7_clear 46 = .ok (.iastore, 1) := by decide +kernel
theorem dX7_clear_47 : decode cX7_clear 47 = .ok (.iinc 1 1, 3) := by decide +kernel
theorem dX7_clear_50 : decode cX7_clear 50 = .ok (.goto (-19), 3) := by decide +kernel
theorem dX7_clear_53 : decode cX7_clear 53 = .ok (.iconst 0, 1) := by decide +kernel
theorem dX7_clear_54 : decode cX7_clear 54 = .ok (.istore_n 1, 1) := by decide +kernel
theorem dX7_clear_55 : decode cX7_clear 55 = .ok (.iload_n 1, 1) := by decide +kernel
theorem dX7_clear_56 : decode cX7_clear 56 = .ok (.iconst 3, 1) := by decide +kernel
theorem dX7_clear_57 : decode cX7_clear 57 = .ok (.if_icmp .ge 19, 3) := by decide +kernel
theorem dX7_clear_60 : decode cX7_clear 60 = .ok (.aload_n 0, 1) := by decide +kernel
theorem dX7_clear_61 : decode cX7_clear 61 = .ok (.getfield 7, 3) := by decide +kernel
theorem dX7_clear_64 : decode cX7_clear 64 = .ok (.bipush 40, 2) := by decide +kernel
theorem dX7_clear_66 : decode cX7_clear 66 = .ok (.iload_n 1, 1) := by decide +kernel
theorem dX7_clear_67 : decode cX7_clear 67 = .ok (.iadd, 1) := by decide +kernel
theorem dX7_clear_68 : decode cX7_clear 68 = .ok (.iconst (-1), 1) := by decide +kernel
theorem dX7_clear_69 : decode cX7_clear 69 = .ok (.iastore, 1) := by decide +kernel
theorem dX7_clear_70 : decode cX7_clear 70 = .ok (.iinc 1 1, 3) := by decide +kernel
theorem dX7_clear_73 : decode cX7_clear 73 = .ok (.goto (-18), 3) := by decide +kernel
theorem dX7_clear_76 : decode cX7_clear 76 = .ok (.iconst 0, 1) := by decide +kernel
theorem dX7_clear_77 : decode cX7_clear 77 = .ok (.istore_n 1, 1) := by decide +kernel
theorem dX7_clear_78 : decode cX7_clear 78 = .ok (.iload_n 1, 1) := by decide +kernel
theorem dX7_clear_79 : decode cX7_clear 79 = .ok (.iconst 4, 1) := by decide +kernel
theorem dX7_clear_80 : decode cX7_clear 80 = .ok (.if_icmp .ge 59, 3) := by decide +kernel
theorem dX7_clear_83 : decode cX7_clear 83 = .ok (.aload_n 0, 1) := by decide +kernel
theorem dX7_clear_84 : decode cX7_clear 84 = .ok (.getfield 7, 3) := by decide +kernel
theorem dX7_clear_87 : decode cX7_clear 87 = .ok (.iload_n 1, 1) := by decide +kernel
theorem dX7_clear_88 : decode cX7_clear 88 = .ok (.invokestatic 37, 3) := by decide +kernel
theorem dX7_clear_91 : decode cX7_clear 91 = .ok (.iconst 0, 1) := by decide +kernel
theorem dX7_clear_92 : decode cX7_clear 92 = .ok (.iadd, 1) := by decide +kernel
theorem dX7_clear_93 : decode cX7_clear 93 = .ok (.iconst (-1), 1) := by decide +kernel
theorem dX7_clear_94 : decode cX7_clear 94 = .ok (.iastore, 1) := by decide +kernel
theorem dX7_clear_95 : decode cX7_clear 95 = .ok (.aload_n 0, 1) := by decide +kernel
theorem dX7_clear_96 : decode cX7_clear 96 = .ok (.getfield 7, 3) := by decide +kernel
theorem dX7_clear_99 : decode cX7_clear 99 = .ok (.iload_n 1, 1) := by decide +kernel
theorem dX7_clear_100 : decode cX7_clear 100 = .ok (.invokestatic 37, 3) := by decide +kernel
theorem dX7_clear_103 : decode cX7_clear 103 = .ok (.iconst 2, 1) := by decide +kernel
theorem dX7_clear_104 : decode cX7_clear 104 = .ok (.iadd, 1) := by decide +kernel
theorem dX7_clear_105 : decode cX7_clear 105 = .ok (.iconst (-1), 1) := by decide +kernel
theorem dX7_clear_106 : decode cX7_clear 106 = .ok (.iastore, 1) := by decide +kernel
theorem dX7_clear_107 : decode cX7_clear 107 = .ok (.aload_n 0, 1) := by decide +kernel
theorem dX7_clear_108 : decode cX7_clear 108 = .ok (.getfield 7, 3) := by decide +kernel
theorem dX7_clear_111 : decode cX7_clear 111 = .ok (.iload_n 1, 1) := by decide +kernel
theorem dX7_clear_112 : decode cX7_clear 112 = .ok (.invokestatic 37, 3) := by decide +kernel
theorem dX7_clear_115 : decode cX7_clear 115 = .ok (.bipush 10, 2) := by decide +kernel
theorem dX7_clear_117 : decode cX7_clear 117 = .ok (.iadd, 1) := by decide +kernel
theorem dX7_clear_118 : decode cX7_clear 118 = .ok (.iconst (-1), 1) := by decide +kernel
theorem dX7_clear_119 : decode cX7_clear 119 = .ok (.iastore, 1) := by decide +kernel
theorem dX7_clear_120 : decode cX7_clear 120 = .ok (.aload_n 0, 1) := by decide +kernel
theorem dX7_clear_121 : decode cX7_clear 121 = .ok (.getfield 7, 3) := by decide +kernel
theorem dX7_clear_124 : decode cX7_clear 124 = .ok (.iload_n 1, 1) := by decide +kernel
theorem dX7_clear_125 : decode cX7_clear 125 = .ok (.invokestatic 37, 3) := by decide +kernel
theorem dX7_clear_128 : decode cX7_clear 128 = .ok (.bipush 11, 2) := by decide +kernel
theorem dX7_clear_130 : decode cX7_clear 130 = .ok (.iadd, 1) := by decide +kernel
theorem dX7_clear_131 : decode cX7_clear 131 = .ok (.iconst (-1), 1) := by decide +kernel
theorem dX7_clear_132 : decode cX7_clear 132 = .ok (.iastore, 1) := by decide +kernel
theorem dX7_clear_133 : decode cX7_clear 133 = .ok (.iinc 1 1, 3) := by decide +kernel
theorem dX7_clear_136 : decode cX7_clear 136 = .ok (.goto (-58), 3) := by decide +kernel
theorem dX7_clear_139 : decode cX7_clear 139 = .ok (.return_, 1) := by decide +kernel
theorem dX7_of_0 : decode cX7_of 0 = .ok (.bipush 43, 2) := by decide +kernel
theorem dX7_of_2 : decode cX7_of 2 = .ok (.bipush 12, 2) := by decide +kernel
theorem dX7_of_4 : decode cX7_of 4 = .ok (.iload_n 0, 1) := by decide +kernel
theorem dX7_of_5 : decode cX7_of 5 = .ok (.imul, 1) := by decide +kernel
theorem dX7_of_6 : decode cX7_of 6 = .ok (.iadd, 1) := by decide +kernel
theorem dX7_of_7 : decode cX7_of 7 = .ok (.ireturn, 1) := by decide +kernel
set_option maxRecDepth 20000 in
theorem ggX7_anew_X7_clear : GoodIn wsX7_anew wsX7_clear := goodIn_r _ [6, 1, 7, 8, 5, 9, 10, 11, 12, 13, 14, 15, 16, 17, 18, 19, 20, 21, 22, 23] (by decide +kernel) (by decide +kernel)
set_option maxRecDepth 20000 in
theorem gX7_anew_X7_clear : GoodIn wsX7_anew (wsV RX7 26 RX7 yX7_clear wsX7_clear) := goodIn_app (goodIn_of _ (by decide +kernel)) ggX7_anew_X7_clear
theorem dX7_anew_0 : decode cX7_anew 0 = .ok (.aload_n 0, 1) := by decide +kernel
theorem dX7_anew_1 : decode cX7_anew 1 = .ok (.getfield 7, 3) := by decide +kernel
theorem dX7_anew_4 : decode cX7_anew 4 = .ok (.bipush 91, 2) := by decide +kernel
theorem dX7_anew_6 : decode cX7_anew 6 = .ok (.iaload, 1) := by decide +kernel
theorem dX7_anew_7 : decode cX7_anew 7 = .ok (.istore_n 1, 1) := by decide +kernel
theorem dX7_anew_8 : decode cX7_anew 8 = .ok (.aload_n 0, 1) := by decide +kernel
theorem dX7_anew_9 : decode cX7_anew 9 = .ok (.invokevirtual 26, 3) := by decide +kernel
theorem dX7_anew_12 : decode cX7_anew 12 = .ok (.iload_n 1, 1) := by decide +kernel
theorem dX7_anew_13 : decode cX7_anew 13 = .ok (.ireturn, 1) := by decide +kernel
theorem dX7_held_0 : decode cX7_held 0 = .ok (.iconst 0, 1) := by decide +kernel
theorem dX7_held_1 : decode cX7_held 1 = .ok (.istore_n 2, 1) := by decide +kernel
theorem dX7_held_2 : decode cX7_held 2 = .ok (.iconst 0, 1) := by decide +kernel
theorem dX7_held_3 : decode cX7_held 3 = .ok (.istore_n 3, 1) := by decide +kernel
theorem dX7_held_4 : decode cX7_held 4 = .ok (.iload_n 3, 1) := by decide +kernel
theorem dX7_held_5 : decode cX7_held 5 = .ok (.iconst 3, 1) := by decide +kernel
theorem dX7_held_6 : decode cX7_held 6 = .ok (.if_icmp .ge 32, 3) := by decide +kernel
theorem dX7_held_9 : decode cX7_held 9 = .ok (.iload_n 2, 1) := by decide +kernel
theorem dX7_held_10 : decode cX7_held 10 = .ok (.aload_n 0, 1) := by decide +kernel
theorem dX7_held_11 : decode cX7_held 11 = .ok (.getfield 7, 3) := by decide +kernel
theorem dX7_held_14 : decode cX7_held 14 = .ok (.bipush 40, 2) := by decide +kernel
theorem dX7_held_16 : decode cX7_held 16 = .ok (.iload_n 3, 1) := by decide +kernel
theorem dX7_held_17 : decode cX7_held 17 = .ok (.iadd, 1) := by decide +kernel
theorem dX7_held_18 : decode cX7_held 18 = .ok (.iaload, 1) := by decide +kernel
theorem dX7_held_19 : decode cX7_held 19 = .ok (.iload_n 1, 1) := by decide +kernel
theorem dX7_held_20 : decode cX7_held 20 = .ok (.if_icmp .ne 9, 3) := by decide +kernel
theorem dX7_held_23 : decode cX7_held 23 = .ok (.iconst 1, 1) := by decide +kernel
theorem dX7_held_24 : decode cX7_held 24 = .ok (.iload_n 3, 1) := by decide +kernel
theorem dX7_held_25 : decode cX7_held 25 = .ok (.ishl, 1) := by decide +kernel
theorem dX7_held_26 : decode cX7_held 26 = .ok (.goto 4, 3) := by decide +kernel
theorem dX7_held_29 : decode cX7_held 29 = .ok (.iconst 0, 1) := by decide +kernel
theorem dX7_held_30 : decode cX7_held 30 = .ok (.ior, 1) := by decide +kernel
theorem dX7_held_31 : decode cX7_held 31 = .ok (.istore_n 2, 1) := by decide +kernel
theorem dX7_held_32 : decode cX7_held 32 = .ok (.iinc 3 1, 3) := by decide +kernel
theorem dX7_held_35 : decode cX7_held 35 = .ok (.goto (-31), 3) := by decide +kernel
theorem dX7_held_38 : decode cX7_held 38 = .ok (.iload_n 2, 1) := by decide +kernel
theorem dX7_held_39 : decode cX7_held 39 = .ok (.ireturn, 1) := by decide +kernel
theorem dX7_number_0 : decode cX7_number 0 = .ok (.aload_n 0, 1) := by decide +kernel
theorem dX7_number_1 : decode cX7_number 1 = .ok (.getfield 7, 3) := by decide +kernel
theorem dX7_number_4 : decode cX7_number 4 = .ok (.iconst 4, 1) := by decide +kernel
theorem dX7_number_5 : decode cX7_number 5 = .ok (.iconst 4, 1) := by decide +kernel
theorem dX7_number_6 : decode cX7_number 6 = .ok (.iload_n 1, 1) := by decide +kernel
theorem dX7_number_7 : decode cX7_number 7 = .ok (.imul, 1) := by decide +kernel
theorem dX7_number_8 : decode cX7_number 8 = .ok (.iadd, 1) := by decide +kernel
theorem dX7_number_9 : decode cX7_number 9 = .ok (.iload_n 2, 1) := by decide +kernel
theorem dX7_number_10 : decode cX7_number 10 = .ok (.iadd, 1) := by decide +kernel
theorem dX7_number_11 : decode cX7_number 11 = .ok (.iaload, 1) := by decide +kernel
theorem dX7_number_12 : decode cX7_number 12 = .ok (.ireturn, 1) := by decide +kernel
theorem dX7_joins_0 : decode cX7_joins 0 = .ok (.iconst 0, 1) := by decide +kernel
theorem dX7_joins_1 : decode cX7_joins 1 = .ok (.istore_n 3, 1) := by decide +kernel
theorem dX7_joins_2 : decode cX7_joins 2 = .ok (.iload_n 3, 1) := by decide +kernel
theorem dX7_joins_3 : decode cX7_joins 3 = .ok (.iconst 4, 1) := by decide +kernel
theorem dX7_joins_4 : decode cX7_joins 4 = .ok (.if_icmp .ge 55, 3) := by decide +kernel
theorem dX7_joins_7 : decode cX7_joins 7 = .ok (.aload_n 0, 1) := by decide +kernel
theorem dX7_joins_8 : decode cX7_joins 8 = .ok (.getfield 7, 3) := by decide +kernel
theorem dX7_joins_11 : decode cX7_joins 11 = .ok (.iload_n 1, 1) := by decide +kernel
theorem dX7_joins_12 : decode cX7_joins 12 = .ok (.iload_n 3, 1) := by decide +kernel
theorem dX7_joins_13 : decode cX7_joins 13 = .ok (.iadd, 1) := by decide +kernel
theorem dX7_joins_14 : decode cX7_joins 14 = .ok (.aload_n 0, 1) := by decide +kernel
theorem dX7_joins_15 : decode cX7_joins 15 = .ok (.getfield 7, 3) := by decide +kernel
theorem dX7_joins_18 : decode cX7_joins 18 = .ok (.iload_n 2, 1) := by decide +kernel
theorem dX7_joins_19 : decode cX7_joins 19 = .ok (.iload_n 3, 1) := by decide +kernel
theorem dX7_joins_20 : decode cX7_joins 20 = .ok (.iadd, 1) := by decide +kernel
theorem dX7_joins_21 : decode cX7_joins 21 = .ok (.iaload, 1) := by decide +kernel
theorem dX7_joins_22 : decode cX7_joins 22 = .ok (.aload_n 0, 1) := by decide +kernel
theorem dX7_joins_23 : decode cX7_joins 23 = .ok (.getfield 7, 3) := by decide +kernel
theorem dX7_joins_26 : decode cX7_joins 26 = .ok (.iload_n 1, 1) := by decide +kernel
theorem dX7_joins_27 : decode cX7_joins 27 = .ok (.iload_n 3, 1) := by decide +kernel
theorem dX7_joins_28 : decode cX7_joins 28 = .ok (.iadd, 1) := by decide +kernel
theorem dX7_joins_29 : decode cX7_joins 29 = .ok (.iaload, 1) := by decide +kernel
theorem dX7_joins_30 : decode cX7_joins 30 = .ok (.if_icmp .le 14, 3) := by decide +kernel
theorem dX7_joins_33 : decode cX7_joins 33 = .ok (.aload_n 0, 1) := by decide +kernel
theorem dX7_joins_34 : decode cX7_joins 34 = .ok (.getfield 7, 3) := by decide +kernel
theorem dX7_joins_37 : decode cX7_joins 37 = .ok (.iload_n 2, 1) := by decide +kernel
theorem dX7_joins_38 : decode cX7_joins 38 = .ok (.iload_n 3, 1) := by decide +kernel
theorem dX7_joins_39 : decode cX7_joins 39 = .ok (.iadd, 1) := by decide +kernel
theorem dX7_joins_40 : decode cX7_joins 40 = .ok (.iaload, 1) := by decide +kernel
theorem dX7_joins_41 : decode cX7_joins 41 = .ok (.goto 11, 3) := by decide +kernel
theorem dX7_joins_44 : decode cX7_joins 44 = .ok (.aload_n 0, 1) := by decide +kernel
theorem dX7_joins_45 : decode cX7_joins 45 = .ok (.getfield 7, 3) := by decide +kernel
theorem dX7_joins_48 : decode cX7_joins 48 = .ok (.iload_n 1, 1) := by decide +kernel
theorem dX7_joins_49 : decode cX7_joins 49 = .ok (.iload_n 3, 1) := by decide +kernel
theorem dX7_joins_50 : decode cX7_joins 50 = .ok (.iadd, 1) := by decide +kernel
theorem dX7_joins_51 : decode cX7_joins 51 = .ok (.iaload, 1) := by decide +kernel
theorem dX7_joins_52 : decode cX7_joins 52 = .ok (.iastore, 1) := by decide +kernel
theorem dX7_joins_53 : decode cX7_joins 53 = .ok (.iinc 3 1, 3) := by decide +kernel
theorem dX7_joins_56 : decode cX7_joins 56 = .ok (.goto (-54), 3) := by decide +kernel
theorem dX7_joins_59 : decode cX7_joins 59 = .ok (.return_, 1) := by decide +kernel
set_option maxRecDepth 20000 in
theorem ggX7_isMuch_X7_number : GoodIn wsX7_isMuch wsX7_number := goodIn_r _ [6, 7, 8, 9, 10, 11, 12, 13, 14, 15, 16, 17, 18, 19, 20, 21] (by decide +kernel) (by decide +kernel)
set_option maxRecDepth 20000 in
theorem gX7_isMuch_X7_number : GoodIn wsX7_isMuch (wsV RX7 41 RX7 yX7_number wsX7_number) := goodIn_app (goodIn_of _ (by decide +kernel)) ggX7_isMuch_X7_number
theorem dX7_isMuch_0 : decode cX7_isMuch 0 = .ok (.aload_n 0, 1) := by decide +kernel
theorem dX7_isMuch_1 : decode cX7_isMuch 1 = .ok (.iload_n 1, 1) := by decide +kernel
theorem dX7_isMuch_2 : decode cX7_isMuch 2 = .ok (.iload_n 1, 1) := by decide +kernel
theorem dX7_isMuch_3 : decode cX7_isMuch 3 = .ok (.invokevirtual 41, 3) := by decide +kernel
theorem dX7_isMuch_6 : decode cX7_isMuch 6 = .ok (.ldc 45, 2) := by decide +kernel
theorem dX7_isMuch_8 : decode cX7_isMuch 8 = .ok (.if_icmp .ne 7, 3) := by decide +kernel
theorem dX7_isMuch_11 : decode cX7_isMuch 11 = .ok (.iconst 1, 1) := by decide +kernel
theorem dX7_isMuch_12 : decode cX7_isMuch 12 = .ok (.goto 4, 3) := by decide +kernel
theorem dX7_isMuch_15 : decode cX7_isMuch 15 = .ok (.iconst 0, 1) := by decide +kernel
theorem dX7_isMuch_16 : decode cX7_isMuch 16 = .ok (.ireturn, 1) := by decide +kernel
theorem dX7_steps_0 : decode cX7_steps 0 = .ok (.aload_n 0, 1) := by decide +kernel
theorem dX7_steps_1 : decode cX7_steps 1 = .ok (.getfield 7, 3) := by decide +kernel
theorem dX7_steps_4 : decode cX7_steps 4 = .ok (.iconst 4, 1) := by decide +kernel
theorem dX7_steps_5 : decode cX7_steps 5 = .ok (.iconst 5, 1) := by decide +kernel
theorem dX7_steps_6 : decode cX7_steps 6 = .ok (.iload_n 1, 1) := by decide +kernel
theorem dX7_steps_7 : decode cX7_steps 7 = .ok (.imul, 1) := by decide +kernel
theorem dX7_steps_8 : decode cX7_steps 8 = .ok (.iadd, 1) := by decide +kernel
theorem dX7_steps_9 : decode cX7_steps 9 = .ok (.dup2, 1) := by decide +kernel
theorem dX7_steps_10 : decode cX7_steps 10 = .ok (.iaload, 1) := by decide +kernel
theorem dX7_steps_11 : decode cX7_steps 11 = .ok (.iconst 1, 1) := by decide +kernel
theorem dX7_steps_12 : decode cX7_steps 12 = .ok (.iadd, 1) := by decide +kernel
theorem dX7_steps_13 : decode cX7_steps 13 = .ok (.iastore, 1) := by decide +kernel
theorem dX7_steps_14 : decode cX7_steps 14 = .ok (.return_, 1) := by decide +kernel
set_option maxRecDepth 20000 in
theorem ggX7_isWith_X7_isCell : GoodIn wsX7_isWith wsX7_isCell := goodIn_r _ [4, 5, 6, 7, 3, 8] (by decide +kernel) (by decide +kernel)
set_option maxRecDepth 20000 in
theorem gX7_isWith_X7_isCell : GoodIn wsX7_isWith (va_wsS RX7 46 yX7_isCell wsX7_isCell) := goodIn_app (goodIn_of _ (by decide +kernel)) ggX7_isWith_X7_isCell
set_option maxRecDepth 20000 in
theorem ggX7_isWith_X7_isLock : GoodIn wsX7_isWith wsX7_isLock := goodIn_r _ [11, 12, 6, 7, 3, 8] (by decide +kernel) (by decide +kernel)
set_option maxRecDepth 20000 in
theorem gX7_isWith_X7_isLock : GoodIn wsX7_isWith (va_wsS RX7 50 yX7_isLock wsX7_isLock) := goodIn_app (goodIn_of _ (by decide +kernel)) ggX7_isWith_X7_isLock
set_option maxRecDepth 20000 in
theorem ggX7_isWith_X7_isSeen : GoodIn wsX7_isWith wsX7_isSeen := goodIn_r _ [15, 6, 7, 3, 8] (by decide +kernel) (by decide +kernel)
set_option maxRecDepth 20000 in
theorem gX7_isWith_X7_isSeen : GoodIn wsX7_isWith (va_wsS RX7 53 yX7_isSeen wsX7_isSeen) := goodIn_app (goodIn_of _ (by decide +kernel)) ggX7_isWith_X7_isSeen
set_option maxRecDepth 20000 in
theorem ggX7_isWith_X7_isThread : GoodIn wsX7_isWith wsX7_isThread := goodIn_r _ [18, 5, 6, 7, 3, 8] (by decide +kernel) (by decide +kernel)
set_option maxRecDepth 20000 in
theorem gX7_isWith_X7_isThread : GoodIn wsX7_isWith (va_wsS RX7 56 yX7_isThread wsX7_isThread) := goodIn_app (goodIn_of _ (by decide +kernel)) ggX7_isWith_X7_isThread
theorem dX7_isWith_0 : decode cX7_isWith 0 = .ok (.iload_n 1, 1) := by decide +kernel
theorem dX7_isWith_1 : decode cX7_isWith 1 = .ok (.tableswitch 54 0 5 #[39, 39, 44, 44, 49, 49], 39) := by decide +kernel
theorem dX7_isWith_40 : decode cX7_isWith 40 = .ok (.iload_n 2, 1) := by decide +kernel
theorem dX7_isWith_41 : decode cX7_isWith 41 = .ok (.invokestatic 46, 3) := by decide +kernel
theorem dX7_isWith_44 : decode cX7_isWith 44 = .ok (.ireturn, 1) := by decide +kernel
theorem dX7_isWith_45 : decode cX7_isWith 45 = .ok (.iload_n 2, 1) := by decide +kernel
theorem dX7_isWith_46 : decode cX7_isWith 46 = .ok (.invokestatic 50, 3) := by decide +kernel
theorem dX7_isWith_49 : decode cX7_isWith 49 = .ok (.ireturn, 1) := by decide +kernel
theorem dX7_isWith_50 : decode cX7_isWith 50 = .ok (.iload_n 2, 1) := by decide +kernel
theorem dX7_isWith_51 : decode cX7_isWith 51 = .ok (.invokestatic 53, 3) := by decide +kernel
theorem dX7_isWith_54 : decode cX7_isWith 54 = .ok (.ireturn, 1) := by decide +kernel
theorem dX7_isWith_55 : decode cX7_isWith 55 = .ok (.iload_n 2, 1) := by decide +kernel
theorem dX7_isWith_56 : decode cX7_isWith 56 = .ok (.invokestatic 56, 3) := by decide +kernel
theorem dX7_isWith_59 : decode cX7_isWith 59 = .ok (.ifCond .eq 12, 3) := by decide +kernel
theorem dX7_isWith_62 : decode cX7_isWith 62 = .ok (.iload_n 2, 1) := by decide +kernel
theorem dX7_isWith_63 : decode cX7_isWith 63 = .ok (.iload_n 0, 1) := by decide +kernel
theorem dX7_isWith_64 : decode cX7_isWith 64 = .ok (.if_icmp .eq 7, 3) := by decide +kernel
theorem dX7_isWith_67 : decode cX7_isWith 67 = .ok (.iconst 1, 1) := by decide +kernel
theorem dX7_isWith_68 : decode cX7_isWith 68 = .ok (.goto 4, 3) := by decide +kernel
theorem dX7_isWith_71 : decode cX7_isWith 71 = .ok (.iconst 0, 1) := by decide +kernel
theorem dX7_isWith_72 : decode cX7_isWith 72 = .ok (.ireturn, 1) := by decide +kernel
set_option maxRecDepth 20000 in
theorem ggX7_can_X7_held : GoodIn wsX7_can wsX7_held := goodIn_r _ [6, 1, 7, 8, 9, 10, 11, 12, 13, 14, 15, 16, 17, 18, 19, 20] (by decide +kernel) (by decide +kernel)
set_option maxRecDepth 20000 in
theorem gX7_can_X7_held : GoodIn wsX7_can (wsV RX7 59 RX7 yX7_held wsX7_held) := goodIn_app (goodIn_of _ (by decide +kernel)) ggX7_can_X7_held
theorem dX7_can_0 : decode cX7_can 0 = .ok (.aload_n 0, 1) := by decide +kernel
theorem dX7_can_1 : decode cX7_can 1 = .ok (.getfield 7, 3) := by decide +kernel
theorem dX7_can_4 : decode cX7_can 4 = .ok (.iconst 0, 1) := by decide +kernel
theorem dX7_can_5 : decode cX7_can 5 = .ok (.iload_n 1, 1) := by decide +kernel
theorem dX7_can_6 : decode cX7_can 6 = .ok (.iadd, 1) := by decide +kernel
theorem dX7_can_7 : decode cX7_can 7 = .ok (.iaload, 1) := by decide +kernel
theorem dX7_can_8 : decode cX7_can 8 = .ok (.iconst 1, 1) := by decide +kernel
theorem dX7_can_9 : decode cX7_can 9 = .ok (.if_icmp .eq 5, 3) := by decide +kernel
theorem dX7_can_12 : decode cX7_can 12 = .ok (.iconst 0, 1) := by decide +kernel
theorem dX7_can_13 : decode cX7_can 13 = .ok (.ireturn, 1) := by decide +kernel
theorem dX7_can_14 : decode cX7_can 14 = .ok (.iload_n 2, 1) := by decide +kernel
theorem dX7_can_15 : decode cX7_can 15 = .ok (.tableswitch 118 2 7 #[37, 56, 118, 118, 75, 92], 37) := by decide +kernel
theorem dX7_can_52 : decode cX7_can 52 = .ok (.aload_n 0, 1) := by decide +kernel
theorem dX7_can_53 : decode cX7_can 53 = .ok (.getfield 7, 3) := by decide +kernel
theorem dX7_can_56 : decode cX7_can 56 = .ok (.bipush 40, 2) := by decide +kernel
theorem dX7_can_58 : decode cX7_can 58 = .ok (.iload_n 3, 1) := by decide +kernel
theorem dX7_can_59 : decode cX7_can 59 = .ok (.iadd, 1) := by decide +kernel
theorem dX7_can_60 : decode cX7_can 60 = .ok (.iaload, 1) := by decide +kernel
theorem dX7_can_61 : decode cX7_can 61 = .ok (.iconst (-1), 1) := by decide +kernel
theorem dX7_can_62 : decode cX7_can 62 = .ok (.if_icmp .ne 7, 3) := by decide +kernel
theorem dX7_can_65 : decode cX7_can 65 = .ok (.iconst 1, 1) := by decide +kernel
theorem dX7_can_66 : decode cX7_can 66 = .ok (.goto 4, 3) := by decide +kernel
theorem dX7_can_69 : decode cX7_can 69 = .ok (.iconst 0, 1) := by decide +kernel
theorem dX7_can_70 : decode cX7_can 70 = .ok (.ireturn, 1) := by decide +kernel
theorem dX7_can_71 : decode cX7_can 71 = .ok (.aload_n 0, 1) := by decide +kernel
theorem dX7_can_72 : decode cX7_can 72 = .ok (.getfield 7, 3) := by decide +kernel
theorem dX7_can_75 : decode cX7_can 75 = .ok (.bipush 40, 2) := by decide +kernel
theorem dX7_can_77 : decode cX7_can 77 = .ok (.iload_n 3, 1) := by decide +kernel
theorem dX7_can_78 : decode cX7_can 78 = .ok (.iadd, 1) := by decide +kernel
theorem dX7_can_79 : decode cX7_can 79 = .ok (.iaload, 1) := by decide +kernel
theorem dX7_can_80 : decode cX7_can 80 = .ok (.iload_n 1, 1) := by decide +kernel
theorem dX7_can_81 : decode cX7_can 81 = .ok (.if_icmp .ne 7, 3) := by decide +kernel
theorem dX7_can_84 : decode cX7_can 84 = .ok (.iconst 1, 1) := by decide +kernel
theorem dX7_can_85 : decode cX7_can 85 = .ok (.goto 4, 3) := by decide +kernel
theorem dX7_can_88 : decode cX7_can 88 = .ok (.iconst 0, 1) := by decide +kernel
theorem dX7_can_89 : decode cX7_can 89 = .ok (.ireturn, 1) := by decide +kernel
theorem dX7_can_90 : decode cX7_can 90 = .ok (.aload_n 0, 1) := by decide +kernel
theorem dX7_can_91 : decode cX7_can 91 = .ok (.getfield 7, 3) := by decide +kernel
theorem dX7_can_94 : decode cX7_can 94 = .ok (.iconst 0, 1) := by decide +kernel
theorem dX7_can_95 : decode cX7_can 95 = .ok (.iload_n 3, 1) := by decide +kernel
theorem dX7_can_96 : decode cX7_can 96 = .ok (.iadd, 1) := by decide +kernel
theorem dX7_can_97 : decode cX7_can 97 = .ok (.iaload, 1) := by decide +kernel
theorem dX7_can_98 : decode cX7_can 98 = .ok (.ifCond .ne 7, 3) := by decide +kernel
theorem dX7_can_101 : decode cX7_can 101 = .ok (.iconst 1, 1) := by decide +kernel
theorem dX7_can_102 : decode cX7_can 102 = .ok (.goto 4, 3) := by decide +kernel
theorem dX7_can_105 : decode cX7_can 105 = .ok (.iconst 0, 1) := by decide +kernel
theorem dX7_can_106 : decode cX7_can 106 = .ok (.ireturn, 1) := by decide +kernel
theorem dX7_can_107 : decode cX7_can 107 = .ok (.aload_n 0, 1) := by decide +kernel
theorem dX7_can_108 : decode cX7_can 108 = .ok (.getfield 7, 3) := by decide +kernel
theorem dX7_can_111 : decode cX7_can 111 = .ok (.iconst 0, 1) := by decide +kernel
theorem dX7_can_112 : decode cX7_can 112 = .ok (.iload_n 3, 1) := by decide +kernel
theorem dX7_can_113 : decode cX7_can 113 = .ok (.iadd, 1) := by decide +kernel
theorem dX7_can_114 : decode cX7_can 114 = .ok (.iaload, 1) := by decide +kernel
theorem dX7_can_115 : decode cX7_can 115 = .ok (.iconst 1, 1) := by decide +kernel
theorem dX7_can_116 : decode cX7_can 116 = .ok (.if_icmp .ne 15, 3) := by decide +kernel
theorem dX7_can_119 : decode cX7_can 119 = .ok (.aload_n 0, 1) := by decide +kernel
theorem dX7_can_120 : decode cX7_can 120 = .ok (.iload_n 3, 1) := by decide +kernel
theorem dX7_can_121 : decode cX7_can 121 = .ok (.invokevirtual 59, 3) := by decide +kernel
theorem dX7_can_124 : decode cX7_can 124 = .ok (.ifCond .ne 7, 3) := by decide +kernel
theorem dX7_can_127 : decode cX7_can 127 = .ok (.iconst 1, 1) := by decide +kernel
theorem dX7_can_128 : decode cX7_can 128 = .ok (.goto 4, 3) := by decide +kernel
theorem dX7_can_131 : decode cX7_can 131 = .ok (.iconst 0, 1) := by decide +kernel
theorem dX7_can_132 : decode cX7_can 132 = .ok (.ireturn, 1) := by decide +kernel
theorem dX7_can_133 : decode cX7_can 133 = .ok (.iconst 1, 1) := by decide +kernel
theorem dX7_can_134 : decode cX7_can 134 = .ok (.ireturn, 1) := by decide +kernel
theorem dX7_hasStep_0 : decode cX7_hasStep 0 = .ok (.iload_n 0, 1) := by decide +kernel
theorem dX7_hasStep_1 : decode cX7_hasStep 1 = .ok (.iconst 3, 1) := by decide +kernel
theorem dX7_hasStep_2 : decode cX7_hasStep 2 = .ok (.if_icmp .eq 14, 3) := by decide +kernel
theorem dX7_hasStep_5 : decode cX7_hasStep 5 = .ok (.iload_n 0, 1) := by decide +kernel
theorem dX7_hasStep_6 : decode cX7_hasStep 6 = .ok (.iconst 4, 1) := by decide +kernel
theorem dX7_hasStep_7 : decode cX7_hasStep 7 = .ok (.if_icmp .eq 9, 3) := by decide +kernel
theorem dX7_hasStep_10 : decode cX7_hasStep 10 = .ok (.iload_n 0, 1) := by decide +kernel
theorem dX7_hasStep_11 : decode cX7_hasStep 11 = .ok (.bipush 6, 2) := by decide +kernel
theorem dX7_hasStep_13 : decode cX7_hasStep 13 = .ok (.if_icmp .ne 7, 3) := by decide +kernel
theorem dX7_hasStep_16 : decode cX7_hasStep 16 = .ok (.iconst 1, 1) := by decide +kernel
theorem dX7_hasStep_17 : decode cX7_hasStep 17 = .ok (.goto 4, 3) := by decide +kernel
theorem dX7_hasStep_20 : decode cX7_hasStep 20 = .ok (.iconst 0, 1) := by decide +kernel
theorem dX7_hasStep_21 : decode cX7_hasStep 21 = .ok (.ireturn, 1) := by decide +kernel
set_option maxRecDepth 20000 in
theorem ggX7_writes_X7_number : GoodIn wsX7_writes wsX7_number := goodIn_r _ [6, 1, 11, 12, 13, 14, 15, 16, 17, 18, 19, 20, 21, 22, 23, 24] (by decide +kernel) (by decide +kernel)
set_option maxRecDepth 20000 in
theorem gX7_writes_X7_number : GoodIn wsX7_writes (wsV RX7 41 RX7 yX7_number wsX7_number) := goodIn_app (goodIn_of _ (by decide +kernel)) ggX7_writes_X7_number
set_option maxRecDepth 20000 in
theorem ggX7_writes_X7_held : GoodIn wsX7_writes wsX7_held := goodIn_r _ [10, 1, 11, 12, 13, 14, 15, 16, 17, 18, 19, 20, 21, 22, 23, 24] (by decide +kernel) (by decide +kernel)
set_option maxRecDepth 20000 in
theorem gX7_writes_X7_held : GoodIn wsX7_writes (wsV RX7 59 RX7 yX7_held wsX7_held) := goodIn_app (goodIn_of _ (by decide +kernel)) ggX7_writes_X7_held
theorem dX7_writes_0 : decode cX7_writes 0 = .ok (.bipush 92, 2) := by decide +kernel
theorem dX7_writes_2 : decode cX7_writes 2 = .ok (.bipush 8, 2) := by decide +kernel
theorem dX7_writes_4 : decode cX7_writes 4 = .ok (.aload_n 0, 1) := by decide +kernel
theorem dX7_writes_5 : decode cX7_writes 5 = .ok (.getfield 7, 3) := by decide +kernel
theorem dX7_writes_8 : decode cX7_writes 8 = .ok (.bipush 91, 2) := by decide +kernel
theorem dX7_writes_10 : decode cX7_writes 10 = .ok (.iaload, 1) := by decide +kernel
theorem dX7_writes_11 : decode cX7_writes 11 = .ok (.imul, 1) := by decide +kernel
theorem dX7_writes_12 : decode cX7_writes 12 = .ok (.iadd, 1) := by decide +kernel
theorem dX7_writes_13 : decode cX7_writes 13 = .ok (.istore 4, 2) := by decide +kernel
theorem dX7_writes_15 : decode cX7_writes 15 = .ok (.aload_n 0, 1) := by decide +kernel
theorem dX7_writes_16 : decode cX7_writes 16 = .ok (.getfield 7, 3) := by decide +kernel
theorem dX7_writes_19 : decode cX7_writes 19 = .ok (.iload 4, 2) := by decide +kernel
theorem dX7_writes_21 : decode cX7_writes 21 = .ok (.iload_n 1, 1) := by decide +kernel
theorem dX7_writes_22 : decode cX7_writes 22 = .ok (.iastore, 1) := by decide +kernel
theorem dX7_writes_23 : decode cX7_writes 23 = .ok (.aload_n 0, 1) := by decide +kernel
theorem dX7_writes_24 : decode cX7_writes 24 = .ok (.getfield 7, 3) := by decide +kernel
theorem dX7_writes_27 : decode cX7_writes 27 = .ok (.iload 4, 2) := by decide +kernel
theorem dX7_writes_29 : decode cX7_writes 29 = .ok (.iconst 1, 1) := by decide +kernel
theorem dX7_writes_30 : decode cX7_writes 30 = .ok (.iadd, 1) := by decide +kernel
theorem dX7_writes_31 : decode cX7_writes 31 = .ok (.iload_n 2, 1) := by decide +kernel
theorem dX7_writes_32 : decode cX7_writes 32 = .ok (.iastore, 1) := by decide +kernel
theorem dX7_writes_33 : decode cX7_writes 33 = .ok (.aload_n 0, 1) := by decide +kernel
theorem dX7_writes_34 : decode cX7_writes 34 = .ok (.getfield 7, 3) := by decide +kernel
theorem dX7_writes_37 : decode cX7_writes 37 = .ok (.iload 4, 2) := by decide +kernel
theorem dX7_writes_39 : decode cX7_writes 39 = .ok (.iconst 2, 1) := by decide +kernel
theorem dX7_writes_40 : decode cX7_writes 40 = .ok (.iadd, 1) := by decide +kernel
theorem dX7_writes_41 : decode cX7_writes 41 = .ok (.iload_n 3, 1) := by decide +kernel
theorem dX7_writes_42 : decode cX7_writes 42 = .ok (.iastore, 1) := by decide +kernel
theorem dX7_writes_43 : decode cX7_writes 43 = .ok (.iconst 0, 1) := by decide +kernel
theorem dX7_writes_44 : decode cX7_writes 44 = .ok (.istore 5, 2) := by decide +kernel
theorem dX7_writes_46 : decode cX7_writes 46 = .ok (.iload 5, 2) := by decide +kernel
theorem dX7_writes_48 : decode cX7_writes 48 = .ok (.iconst 4, 1) := by decide +kernel
theorem dX7_writes_49 : decode cX7_writes 49 = .ok (.if_icmp .ge 28, 3) := by decide +kernel
theorem dX7_writes_52 : decode cX7_writes 52 = .ok (.aload_n 0, 1) := by decide +kernel
theorem dX7_writes_53 : decode cX7_writes 53 = .ok (.getfield 7, 3) := by decide +kernel
theorem dX7_writes_56 : decode cX7_writes 56 = .ok (.iload 4, 2) := by decide +kernel
theorem dX7_writes_58 : decode cX7_writes 58 = .ok (.iconst 3, 1) := by decide +kernel
theorem dX7_writes_59 : decode cX7_writes 59 = .ok (.iadd, 1) := by decide +kernel
theorem dX7_writes_60 : decode cX7_writes 60 = .ok (.iload 5, 2) := by decide +kernel
theorem dX7_writes_62 : decode cX7_writes 62 = .ok (.iadd, 1) := by decide +kernel
theorem dX7_writes_63 : decode cX7_writes 63 = .ok (.aload_n 0, 1) := by decide +kernel
theorem dX7_writes_64 : decode cX7_writes 64 = .ok (.iload_n 1, 1) := by decide +kernel
theorem dX7_writes_65 : decode cX7_writes 65 = .ok (.iload 5, 2) := by decide +kernel
theorem dX7_writes_67 : decode cX7_writes 67 = .ok (.invokevirtual 41, 3) := by decide +kernel
theorem dX7_writes_70 : decode cX7_writes 70 = .ok (.iastore, 1) := by decide +kernel
theorem dX7_writes_71 : decode cX7_writes 71 = .ok (.iinc 5 1, 3) := by decide +kernel
theorem dX7_writes_74 : decode cX7_writes 74 = .ok (.goto (-28), 3) := by decide +kernel
theorem dX7_writes_77 : decode cX7_writes 77 = .ok (.aload_n 0, 1) := by decide +kernel
theorem dX7_writes_78 : decode cX7_writes 78 = .ok (.getfield 7, 3) := by decide +kernel
theorem dX7_writes_81 : decode cX7_writes 81 = .ok (.iload 4, 2) := by decide +kernel
theorem dX7_writes_83 : decode cX7_writes 83 = .ok (.bipush 7, 2) := by decide +kernel
theorem dX7_writes_85 : decode cX7_writes 85 = .ok (.iadd, 1) := by decide +kernel
theorem dX7_writes_86 : decode cX7_writes 86 = .ok (.aload_n 0, 1) := by decide +kernel
theorem dX7_writes_87 : decode cX7_writes 87 = .ok (.iload_n 1, 1) := by decide +kernel
theorem dX7_writes_88 : decode cX7_writes 88 = .ok (.invokevirtual 59, 3) := by decide +kernel
theorem dX7_writes_91 : decode cX7_writes 91 = .ok (.iastore, 1) := by decide +kernel
theorem dX7_writes_92 : decode cX7_writes 92 = .ok (.aload_n 0, 1) := by decide +kernel
theorem dX7_writes_93 : decode cX7_writes 93 = .ok (.getfield 7, 3) := by decide +kernel
theorem dX7_writes_96 : decode cX7_writes 96 = .ok (.bipush 91, 2) := by decide +kernel
theorem dX7_writes_98 : decode cX7_writes 98 = .ok (.dup2, 1) := by decide +kernel
theorem dX7_writes_99 : decode cX7_writes 99 = .ok (.iaload, 1) := by decide +kernel
theorem dX7_writes_100 : decode cX7_writes 100 = .ok (.iconst 1, 1) := by decide +kernel
theorem dX7_writes_101 : decode cX7_writes 101 = .ok (.iadd, 1) := by decide +kernel
theorem dX7_writes_102 : decode cX7_writes 102 = .ok (.iastore, 1) := by decide +kernel
theorem dX7_writes_103 : decode cX7_writes 103 = .ok (.return_, 1) := by decide +kernel
set_option maxRecDepth 20000 in
theorem ggX7_kindOf_X7_of : GoodIn wsX7_kindOf wsX7_of := goodIn_r _ [5] (by decide +kernel) (by decide +kernel)
set_option maxRecDepth 20000 in
theorem gX7_kindOf_X7_of : GoodIn wsX7_kindOf (va_wsS RX7 37 yX7_of wsX7_of) := goodIn_app (goodIn_of _ (by decide +kernel)) ggX7_kindOf_X7_of
set_option maxRecDepth 20000 in
theorem ggX7_kindOf_X7_number : GoodIn wsX7_kindOf wsX7_number := goodIn_r _ [9, 1, 10, 11, 12, 13, 14, 15, 16, 17, 18, 19, 20, 21, 22, 23] (by decide +kernel) (by decide +kernel)
set_option maxRecDepth 20000 in
theorem gX7_kindOf_X7_number : GoodIn wsX7_kindOf (wsV RX7 41 RX7 yX7_number wsX7_number) := goodIn_app (goodIn_of _ (by decide +kernel)) ggX7_kindOf_X7_number
theorem dX7_kindOf_0 : decode cX7_kindOf 0 = .ok (.iload_n 2, 1) := by decide +kernel
theorem dX7_kindOf_1 : decode cX7_kindOf 1 = .ok (.invokestatic 37, 3) := by decide +kernel
theorem dX7_kindOf_4 : decode cX7_kindOf 4 = .ok (.istore 4, 2) := by decide +kernel
theorem dX7_kindOf_6 : decode cX7_kindOf 6 = .ok (.aload_n 0, 1) := by decide +kernel
theorem dX7_kindOf_7 : decode cX7_kindOf 7 = .ok (.getfield 7, 3) := by decide +kernel
theorem dX7_kindOf_10 : decode cX7_kindOf 10 = .ok (.iload 4, 2) := by decide +kernel
theorem dX7_kindOf_12 : decode cX7_kindOf 12 = .ok (.iconst 0, 1) := by decide +kernel
theorem dX7_kindOf_13 : decode cX7_kindOf 13 = .ok (.iadd, 1) := by decide +kernel
theorem dX7_kindOf_14 : decode cX7_kindOf 14 = .ok (.iaload, 1) := by decide +kernel
theorem dX7_kindOf_15 : decode cX7_kindOf 15 = .ok (.istore 5, 2) := by decide +kernel
theorem dX7_kindOf_17 : decode cX7_kindOf 17 = .ok (.iload 5, 2) := by decide +kernel
theorem dX7_kindOf_19 : decode cX7_kindOf 19 = .ok (.iconst (-1), 1) := by decide +kernel
theorem dX7_kindOf_20 : decode cX7_kindOf 20 = .ok (.if_icmp .eq 32, 3) := by decide +kernel
theorem dX7_kindOf_23 : decode cX7_kindOf 23 = .ok (.aload_n 0, 1) := by decide +kernel
theorem dX7_kindOf_24 : decode cX7_kindOf 24 = .ok (.iload_n 1, 1) := by decide +kernel
theorem dX7_kindOf_25 : decode cX7_kindOf 25 = .ok (.iload 5, 2) := by decide +kernel
theorem dX7_kindOf_27 : decode cX7_kindOf 27 = .ok (.invokevirtual 41, 3) := by decide +kernel
theorem dX7_kindOf_30 : decode cX7_kindOf 30 = .ok (.aload_n 0, 1) := by decide +kernel
theorem dX7_kindOf_31 : decode cX7_kindOf 31 = .ok (.getfield 7, 3) := by decide +kernel
theorem dX7_kindOf_34 : decode cX7_kindOf 34 = .ok (.iload 4, 2) := by decide +kernel
theorem dX7_kindOf_36 : decode cX7_kindOf 36 = .ok (.iconst 1, 1) := by decide +kernel
theorem dX7_kindOf_37 : decode cX7_kindOf 37 = .ok (.iadd, 1) := by decide +kernel
theorem dX7_kindOf_38 : decode cX7_kindOf 38 = .ok (.iaload, 1) := by decide +kernel
theorem dX7_kindOf_39 : decode cX7_kindOf 39 = .ok (.if_icmp .ge 13, 3) := by decide +kernel
theorem dX7_kindOf_42 : decode cX7_kindOf 42 = .ok (.iload_n 3, 1) := by decide +kernel
theorem dX7_kindOf_43 : decode cX7_kindOf 43 = .ok (.ifCond .eq 7, 3) := by decide +kernel
theorem dX7_kindOf_46 : decode cX7_kindOf 46 = .ok (.iconst 0, 1) := by decide +kernel
theorem dX7_kindOf_47 : decode cX7_kindOf 47 = .ok (.goto 4, 3) := by decide +kernel
theorem dX7_kindOf_50 : decode cX7_kindOf 50 = .ok (.iconst 1, 1) := by decide +kernel
theorem dX7_kindOf_51 : decode cX7_kindOf 51 = .ok (.ireturn, 1) := by decide +kernel
theorem dX7_kindOf_52 : decode cX7_kindOf 52 = .ok (.iload_n 3, 1) := by decide +kernel
theorem dX7_kindOf_53 : decode cX7_kindOf 53 = .ok (.ifCond .ne 5, 3) := by decide +kernel
theorem dX7_kindOf_56 : decode cX7_kindOf 56 = .ok (.iconst (-1), 1) := by decide +kernel
theorem dX7_kindOf_57 : decode cX7_kindOf 57 = .ok (.ireturn, 1) := by decide +kernel
theorem dX7_kindOf_58 : decode cX7_kindOf 58 = .ok (.aload_n 0, 1) := by decide +kernel
theorem dX7_kindOf_59 : decode cX7_kindOf 59 = .ok (.getfield 7, 3) := by decide +kernel
theorem dX7_kindOf_62 : decode cX7_kindOf 62 = .ok (.iload 4, 2) := by decide +kernel
theorem dX7_kindOf_64 : decode cX7_kindOf 64 = .ok (.iconst 2, 1) := by decide +kernel
theorem dX7_kindOf_65 : decode cX7_kindOf 65 = .ok (.iadd, 1) := by decide +kernel
theorem dX7_kindOf_66 : decode cX7_kindOf 66 = .ok (.iaload, 1) := by decide +kernel
theorem dX7_kindOf_67 : decode cX7_kindOf 67 = .ok (.istore 6, 2) := by decide +kernel
theorem dX7_kindOf_69 : decode cX7_kindOf 69 = .ok (.iload 6, 2) := by decide +kernel
theorem dX7_kindOf_71 : decode cX7_kindOf 71 = .ok (.iconst (-1), 1) := by decide +kernel
theorem dX7_kindOf_72 : decode cX7_kindOf 72 = .ok (.if_icmp .eq 26, 3) := by decide +kernel
theorem dX7_kindOf_75 : decode cX7_kindOf 75 = .ok (.aload_n 0, 1) := by decide +kernel
theorem dX7_kindOf_76 : decode cX7_kindOf 76 = .ok (.iload_n 1, 1) := by decide +kernel
theorem dX7_kindOf_77 : decode cX7_kindOf 77 = .ok (.iload 6, 2) := by decide +kernel
theorem dX7_kindOf_79 : decode cX7_kindOf 79 = .ok (.invokevirtual 41, 3) := by decide +kernel
theorem dX7_kindOf_82 : decode cX7_kindOf 82 = .ok (.aload_n 0, 1) := by decide +kernel
theorem dX7_kindOf_83 : decode cX7_kindOf 83 = .ok (.getfield 7, 3) := by decide +kernel
theorem dX7_kindOf_86 : decode cX7_kindOf 86 = .ok (.iload 4, 2) := by decide +kernel
theorem dX7_kindOf_88 : decode cX7_kindOf 88 = .ok (.iconst 3, 1) := by decide +kernel
theorem dX7_kindOf_89 : decode cX7_kindOf 89 = .ok (.iadd, 1) := by decide +kernel
theorem dX7_kindOf_90 : decode cX7_kindOf 90 = .ok (.iaload, 1) := by decide +kernel
theorem dX7_kindOf_91 : decode cX7_kindOf 91 = .ok (.if_icmp .ge 7, 3) := by decide +kernel
theorem dX7_kindOf_94 : decode cX7_kindOf 94 = .ok (.iconst 1, 1) := by decide +kernel
theorem dX7_kindOf_95 : decode cX7_kindOf 95 = .ok (.goto 4, 3) := by decide +kernel
theorem dX7_kindOf_98 : decode cX7_kindOf 98 = .ok (.iconst 0, 1) := by decide +kernel
theorem dX7_kindOf_99 : decode cX7_kindOf 99 = .ok (.istore 7, 2) := by decide +kernel
theorem dX7_kindOf_101 : decode cX7_kindOf 101 = .ok (.iconst 0, 1) := by decide +kernel
theorem dX7_kindOf_102 : decode cX7_kindOf 102 = .ok (.istore 8, 2) := by decide +kernel
theorem dX7_kindOf_104 : decode cX7_kindOf 104 = .ok (.iload 8, 2) := by decide +kernel
theorem dX7_kindOf_106 : decode cX7_kindOf 106 = .ok (.iconst 4, 1) := by decide +kernel
theorem dX7_kindOf_107 : decode cX7_kindOf 107 = .ok (.if_icmp .ge 56, 3) := by decide +kernel
theorem dX7_kindOf_110 : decode cX7_kindOf 110 = .ok (.iload 7, 2) := by decide +kernel
theorem dX7_kindOf_112 : decode cX7_kindOf 112 = .ok (.ifCond .ne 38, 3) := by decide +kernel
theorem dX7_kindOf_115 : decode cX7_kindOf 115 = .ok (.aload_n 0, 1) := by decide +kernel
theorem dX7_kindOf_116 : decode cX7_kindOf 116 = .ok (.getfield 7, 3) := by decide +kernel
theorem dX7_kindOf_119 : decode cX7_kindOf 119 = .ok (.iload 4, 2) := by decide +kernel
theorem dX7_kindOf_121 : decode cX7_kindOf 121 = .ok (.iconst 4, 1) := by decide +kernel
theorem dX7_kindOf_122 : decode cX7_kindOf 122 = .ok (.iadd, 1) := by decide +kernel
theorem dX7_kindOf_123 : decode cX7_kindOf 123 = .ok (.iaload, 1) := by decide +kernel
theorem dX7_kindOf_124 : decode cX7_kindOf 124 = .ok (.iconst 1, 1) := by decide +kernel
theorem dX7_kindOf_125 : decode cX7_kindOf 125 = .ok (.if_icmp .ne 29, 3) := by decide +kernel
theorem dX7_kindOf_128 : decode cX7_kindOf 128 = .ok (.aload_n 0, 1) := by decide +kernel
theorem dX7_kindOf_129 : decode cX7_kindOf 129 = .ok (.iload_n 1, 1) := by decide +kernel
theorem dX7_kindOf_130 : decode cX7_kindOf 130 = .ok (.iload 8, 2) := by decide +kernel
theorem dX7_kindOf_132 : decode cX7_kindOf 132 = .ok (.invokevirtual 41, 3) := by decide +kernel
theorem dX7_kindOf_135 : decode cX7_kindOf 135 = .ok (.aload_n 0, 1) := by decide +kernel
theorem dX7_kindOf_136 : decode cX7_kindOf 136 = .ok (.getfield 7, 3) := by decide +kernel
theorem dX7_kindOf_139 : decode cX7_kindOf 139 = .ok (.iload 4, 2) := by decide +kernel
theorem dX7_kindOf_141 : decode cX7_kindOf 141 = .ok (.iconst 5, 1) := by decide +kernel
theorem dX7_kindOf_142 : decode cX7_kindOf 142 = .ok (.iadd, 1) := by decide +kernel
theorem dX7_kindOf_143 : decode cX7_kindOf 143 = .ok (.iload 8, 2) := by decide +kernel
theorem dX7_kindOf_145 : decode cX7_kindOf 145 = .ok (.iadd, 1) := by decide +kernel
theorem dX7_kindOf_146 : decode cX7_kindOf 146 = .ok (.iaload, 1) := by decide +kernel
theorem dX7_kindOf_147 : decode cX7_kindOf 147 = .ok (.if_icmp .ge 7, 3) := by decide +kernel
theorem dX7_kindOf_150 : decode cX7_kindOf 150 = .ok (.iconst 1, 1) := by decide +kernel
theorem dX7_kindOf_151 : decode cX7_kindOf 151 = .ok (.goto 4, 3) := by decide +kernel
theorem dX7_kindOf_154 : decode cX7_kindOf 154 = .ok (.iconst 0, 1) := by decide +kernel
theorem dX7_kindOf_155 : decode cX7_kindOf 155 = .ok (.istore 7, 2) := by decide +kernel
theorem dX7_kindOf_157 : decode cX7_kindOf 157 = .ok (.iinc 8 1, 3) := by decide +kernel
theorem dX7_kindOf_160 : decode cX7_kindOf 160 = .ok (.goto (-56), 3) := by decide +kernel
theorem dX7_kindOf_163 : decode cX7_kindOf 163 = .ok (.iload 7, 2) := by decide +kernel
theorem dX7_kindOf_165 : decode cX7_kindOf 165 = .ok (.ifCond .eq 7, 3) := by decide +kernel
theorem dX7_kindOf_168 : decode cX7_kindOf 168 = .ok (.iconst 2, 1) := by decide +kernel
theorem dX7_kindOf_169 : decode cX7_kindOf 169 = .ok (.goto 4, 3) := by decide +kernel
theorem dX7_kindOf_172 : decode cX7_kindOf 172 = .ok (.iconst (-1), 1) := by decide +kernel
theorem dX7_kindOf_173 : decode cX7_kindOf 173 = .ok (.ireturn, 1) := by decide +kernel
set_option maxRecDepth 20000 in
theorem ggX7_accesses_X7_of : GoodIn wsX7_accesses wsX7_of := goodIn_r _ [5] (by decide +kernel) (by decide +kernel)
set_option maxRecDepth 20000 in
theorem gX7_accesses_X7_of : GoodIn wsX7_accesses (va_wsS RX7 37 yX7_of wsX7_of) := goodIn_app (goodIn_of _ (by decide +kernel)) ggX7_accesses_X7_of
set_option maxRecDepth 20000 in
theorem ggX7_accesses_X7_kindOf : GoodIn wsX7_accesses wsX7_kindOf := goodIn_r _ [9, 1, 2, 3, 4, 5, 10, 11, 12, 13, 18, 19, 20, 21, 22, 23, 24, 25, 26, 27, 28, 29, 30, 31] (by decide +kernel) (by decide +kernel)
set_option maxRecDepth 20000 in
theorem gX7_accesses_X7_kindOf : GoodIn wsX7_accesses (wsV RX7 62 RX7 yX7_kindOf wsX7_kindOf) := goodIn_app (goodIn_of _ (by decide +kernel)) ggX7_accesses_X7_kindOf
set_option maxRecDepth 20000 in
theorem ggX7_accesses_X7_number : GoodIn wsX7_accesses wsX7_number := goodIn_r _ [13, 1, 18, 19, 20, 21, 22, 23, 24, 25, 26, 27, 28, 29, 30, 31] (by decide +kernel) (by decide +kernel)
set_option maxRecDepth 20000 in
theorem gX7_accesses_X7_number : GoodIn wsX7_accesses (wsV RX7 41 RX7 yX7_number wsX7_number) := goodIn_app (goodIn_of _ (by decide +kernel)) ggX7_accesses_X7_number
set_option maxRecDepth 20000 in
theorem ggX7_accesses_X7_reads : GoodIn wsX7_accesses wsX7_reads := goodIn_r _ [17, 1, 10, 11, 12, 4, 13, 18, 19, 20, 21, 22, 23, 24, 25, 26, 27, 28, 29, 30, 31] (by decide +kernel) (by decide +kernel)
set_option maxRecDepth 20000 in
theorem gX7_accesses_X7_reads : GoodIn wsX7_accesses (wsV RX7 66 RX7 yX7_reads wsX7_reads) := goodIn_app (goodIn_of _ (by decide +kernel)) ggX7_accesses_X7_reads
theorem dX7_accesses_0 : decode cX7_accesses 0 = .ok (.iload_n 2, 1) := by decide +kernel
theorem dX7_accesses_1 : decode cX7_accesses 1 = .ok (.invokestatic 37, 3) := by decide +kernel
theorem dX7_accesses_4 : decode cX7_accesses 4 = .ok (.istore 4, 2) := by decide +kernel
theorem dX7_accesses_6 : decode cX7_accesses 6 = .ok (.aload_n 0, 1) := by decide +kernel
theorem dX7_accesses_7 : decode cX7_accesses 7 = .ok (.iload_n 1, 1) := by decide +kernel
theorem dX7_accesses_8 : decode cX7_accesses 8 = .ok (.iload_n 2, 1) := by decide +kernel
theorem dX7_accesses_9 : decode cX7_accesses 9 = .ok (.iload_n 3, 1) := by decide +kernel
theorem dX7_accesses_10 : decode cX7_accesses 10 = .ok (.invokevirtual 62, 3) := by decide +kernel
theorem dX7_accesses_13 : decode cX7_accesses 13 = .ok (.istore 5, 2) := by decide +kernel
theorem dX7_accesses_15 : decode cX7_accesses 15 = .ok (.iload 5, 2) := by decide +kernel
theorem dX7_accesses_17 : decode cX7_accesses 17 = .ok (.iconst (-1), 1) := by decide +kernel
theorem dX7_accesses_18 : decode cX7_accesses 18 = .ok (.if_icmp .eq 46, 3) := by decide +kernel
theorem dX7_accesses_21 : decode cX7_accesses 21 = .ok (.aload_n 0, 1) := by decide +kernel
theorem dX7_accesses_22 : decode cX7_accesses 22 = .ok (.getfield 7, 3) := by decide +kernel
theorem dX7_accesses_25 : decode cX7_accesses 25 = .ok (.iload 4, 2) := by decide +kernel
theorem dX7_accesses_27 : decode cX7_accesses 27 = .ok (.bipush 10, 2) := by decide +kernel
theorem dX7_accesses_29 : decode cX7_accesses 29 = .ok (.iadd, 1) := by decide +kernel
theorem dX7_accesses_30 : decode cX7_accesses 30 = .ok (.iaload, 1) := by decide +kernel
theorem dX7_accesses_31 : decode cX7_accesses 31 = .ok (.iconst (-1), 1) := by decide +kernel
theorem dX7_accesses_32 : decode cX7_accesses 32 = .ok (.if_icmp .ne 32, 3) := by decide +kernel
theorem dX7_accesses_35 : decode cX7_accesses 35 = .ok (.aload_n 0, 1) := by decide +kernel
theorem dX7_accesses_36 : decode cX7_accesses 36 = .ok (.getfield 7, 3) := by decide +kernel
theorem dX7_accesses_39 : decode cX7_accesses 39 = .ok (.iload 4, 2) := by decide +kernel
theorem dX7_accesses_41 : decode cX7_accesses 41 = .ok (.bipush 10, 2) := by decide +kernel
theorem dX7_accesses_43 : decode cX7_accesses 43 = .ok (.iadd, 1) := by decide +kernel
theorem dX7_accesses_44 : decode cX7_accesses 44 = .ok (.aload_n 0, 1) := by decide +kernel
theorem dX7_accesses_45 : decode cX7_accesses 45 = .ok (.getfield 7, 3) := by decide +kernel
theorem dX7_accesses_48 : decode cX7_accesses 48 = .ok (.bipush 91, 2) := by decide +kernel
theorem dX7_accesses_50 : decode cX7_accesses 50 = .ok (.iaload, 1) := by decide +kernel
theorem dX7_accesses_51 : decode cX7_accesses 51 = .ok (.iastore, 1) := by decide +kernel
theorem dX7_accesses_52 : decode cX7_accesses 52 = .ok (.aload_n 0, 1) := by decide +kernel
theorem dX7_accesses_53 : decode cX7_accesses 53 = .ok (.getfield 7, 3) := by decide +kernel
theorem dX7_accesses_56 : decode cX7_accesses 56 = .ok (.iload 4, 2) := by decide +kernel
theorem dX7_accesses_58 : decode cX7_accesses 58 = .ok (.bipush 11, 2) := by decide +kernel
theorem dX7_accesses_60 : decode cX7_accesses 60 = .ok (.iadd, 1) := by decide +kernel
theorem dX7_accesses_61 : decode cX7_accesses 61 = .ok (.iload 5, 2) := by decide +kernel
theorem dX7_accesses_63 : decode cX7_accesses 63 = .ok (.iastore, 1) := by decide +kernel
theorem dX7_accesses_64 : decode cX7_accesses 64 = .ok (.iload_n 3, 1) := by decide +kernel
theorem dX7_accesses_65 : decode cX7_accesses 65 = .ok (.ifCond .eq 89, 3) := by decide +kernel
theorem dX7_accesses_68 : decode cX7_accesses 68 = .ok (.aload_n 0, 1) := by decide +kernel
theorem dX7_accesses_69 : decode cX7_accesses 69 = .ok (.getfield 7, 3) := by decide +kernel
theorem dX7_accesses_72 : decode cX7_accesses 72 = .ok (.iload 4, 2) := by decide +kernel
theorem dX7_accesses_74 : decode cX7_accesses 74 = .ok (.iconst 0, 1) := by decide +kernel
theorem dX7_accesses_75 : decode cX7_accesses 75 = .ok (.iadd, 1) := by decide +kernel
theorem dX7_accesses_76 : decode cX7_accesses 76 = .ok (.iload_n 1, 1) := by decide +kernel
theorem dX7_accesses_77 : decode cX7_accesses 77 = .ok (.iastore, 1) := by decide +kernel
theorem dX7_accesses_78 : decode cX7_accesses 78 = .ok (.aload_n 0, 1) := by decide +kernel
theorem dX7_accesses_79 : decode cX7_accesses 79 = .ok (.getfield 7, 3) := by decide +kernel
theorem dX7_accesses_82 : decode cX7_accesses 82 = .ok (.iload 4, 2) := by decide +kernel
theorem dX7_accesses_84 : decode cX7_accesses 84 = .ok (.iconst 1, 1) := by decide +kernel
theorem dX7_accesses_85 : decode cX7_accesses 85 = .ok (.iadd, 1) := by decide +kernel
theorem dX7_accesses_86 : decode cX7_accesses 86 = .ok (.aload_n 0, 1) := by decide +kernel
theorem dX7_accesses_87 : decode cX7_accesses 87 = .ok (.iload_n 1, 1) := by decide +kernel
theorem dX7_accesses_88 : decode cX7_accesses 88 = .ok (.iload_n 1, 1) := by decide +kernel
theorem dX7_accesses_89 : decode cX7_accesses 89 = .ok (.invokevirtual 41, 3) := by decide +kernel
theorem dX7_accesses_92 : decode cX7_accesses 92 = .ok (.iastore, 1) := by decide +kernel
theorem dX7_accesses_93 : decode cX7_accesses 93 = .ok (.aload_n 0, 1) := by decide +kernel
theorem dX7_accesses_94 : decode cX7_accesses 94 = .ok (.getfield 7, 3) := by decide +kernel
theorem dX7_accesses_97 : decode cX7_accesses 97 = .ok (.iload 4, 2) := by decide +kernel
theorem dX7_accesses_99 : decode cX7_accesses 99 = .ok (.iconst 2, 1) := by decide +kernel
theorem dX7_accesses_100 : decode cX7_accesses 100 = .ok (.iadd, 1) := by decide +kernel
theorem dX7_accesses_101 : decode cX7_accesses 101 = .ok (.iconst (-1), 1) := by decide +kernel
theorem dX7_accesses_102 : decode cX7_accesses 102 = .ok (.iastore, 1) := by decide +kernel
theorem dX7_accesses_103 : decode cX7_accesses 103 = .ok (.aload_n 0, 1) := by decide +kernel
theorem dX7_accesses_104 : decode cX7_accesses 104 = .ok (.getfield 7, 3) := by decide +kernel
theorem dX7_accesses_107 : decode cX7_accesses 107 = .ok (.iload 4, 2) := by decide +kernel
theorem dX7_accesses_109 : decode cX7_accesses 109 = .ok (.iconst 3, 1) := by decide +kernel
theorem dX7_accesses_110 : decode cX7_accesses 110 = .ok (.iadd, 1) := by decide +kernel
theorem dX7_accesses_111 : decode cX7_accesses 111 = .ok (.iconst 0, 1) := by decide +kernel
theorem dX7_accesses_112 : decode cX7_accesses 112 = .ok (.iastore, 1) := by decide +kernel
theorem dX7_accesses_113 : decode cX7_accesses 113 = .ok (.aload_n 0, 1) := by decide +kernel
theorem dX7_accesses_114 : decode cX7_accesses 114 = .ok (.getfield 7, 3) := by decide +kernel
theorem dX7_accesses_117 : decode cX7_accesses 117 = .ok (.iload 4, 2) := by decide +kernel
theorem dX7_accesses_119 : decode cX7_accesses 119 = .ok (.iconst 4, 1) := by decide +kernel
theorem dX7_accesses_120 : decode cX7_accesses 120 = .ok (.iadd, 1) := by decide +kernel
theorem dX7_accesses_121 : decode cX7_accesses 121 = .ok (.iconst 0, 1) := by decide +kernel
theorem dX7_accesses_122 : decode cX7_accesses 122 = .ok (.iastore, 1) := by decide +kernel
theorem dX7_accesses_123 : decode cX7_accesses 123 = .ok (.iconst 0, 1) := by decide +kernel
theorem dX7_accesses_124 : decode cX7_accesses 124 = .ok (.istore 6, 2) := by decide +kernel
theorem dX7_accesses_126 : decode cX7_accesses 126 = .ok (.iload 6, 2) := by decide +kernel
theorem dX7_accesses_128 : decode cX7_accesses 128 = .ok (.iconst 4, 1) := by decide +kernel
theorem dX7_accesses_129 : decode cX7_accesses 129 = .ok (.if_icmp .ge 22, 3) := by decide +kernel
theorem dX7_accesses_132 : decode cX7_accesses 132 = .ok (.aload_n 0, 1) := by decide +kernel
theorem dX7_accesses_133 : decode cX7_accesses 133 = .ok (.getfield 7, 3) := by decide +kernel
theorem dX7_accesses_136 : decode cX7_accesses 136 = .ok (.iload 4, 2) := by decide +kernel
theorem dX7_accesses_138 : decode cX7_accesses 138 = .ok (.iconst 5, 1) := by decide +kernel
theorem dX7_accesses_139 : decode cX7_accesses 139 = .ok (.iadd, 1) := by decide +kernel
theorem dX7_accesses_140 : decode cX7_accesses 140 = .ok (.iload 6, 2) := by decide +kernel
theorem dX7_accesses_142 : decode cX7_accesses 142 = .ok (.iadd, 1) := by decide +kernel
theorem dX7_accesses_143 : decode cX7_accesses 143 = .ok (.iconst 0, 1) := by decide +kernel
theorem dX7_accesses_144 : decode cX7_accesses 144 = .ok (.iastore, 1) := by decide +kernel
theorem dX7_accesses_145 : decode cX7_accesses 145 = .ok (.iinc 6 1, 3) := by decide +kernel
theorem dX7_accesses_148 : decode cX7_accesses 148 = .ok (.goto (-22), 3) := by decide +kernel
theorem dX7_accesses_151 : decode cX7_accesses 151 = .ok (.goto 10, 3) := by decide +kernel
theorem dX7_accesses_154 : decode cX7_accesses 154 = .ok (.aload_n 0, 1) := by decide +kernel
theorem dX7_accesses_155 : decode cX7_accesses 155 = .ok (.iload_n 1, 1) := by decide +kernel
theorem dX7_accesses_156 : decode cX7_accesses 156 = .ok (.iload 4, 2) := by decide +kernel
theorem dX7_accesses_158 : decode cX7_accesses 158 = .ok (.invokevirtual 66, 3) := by decide +kernel
theorem dX7_accesses_161 : decode cX7_accesses 161 = .ok (.return_, 1) := by decide +kernel
set_option maxRecDepth 20000 in
theorem ggX7_reads_X7_number : GoodIn wsX7_reads wsX7_number := goodIn_r _ [6, 1, 7, 8, 9, 10, 11, 12, 13, 14, 15, 16, 17, 18, 19, 20] (by decide +kernel) (by decide +kernel)
set_option maxRecDepth 20000 in
theorem gX7_reads_X7_number : GoodIn wsX7_reads (wsV RX7 41 RX7 yX7_number wsX7_number) := goodIn_app (goodIn_of _ (by decide +kernel)) ggX7_reads_X7_number
theorem dX7_reads_0 : decode cX7_reads 0 = .ok (.aload_n 0, 1) := by decide +kernel
theorem dX7_reads_1 : decode cX7_reads 1 = .ok (.getfield 7, 3) := by decide +kernel
theorem dX7_reads_4 : decode cX7_reads 4 = .ok (.iload_n 2, 1) := by decide +kernel
theorem dX7_reads_5 : decode cX7_reads 5 = .ok (.iconst 2, 1) := by decide +kernel
theorem dX7_reads_6 : decode cX7_reads 6 = .ok (.iadd, 1) := by decide +kernel
theorem dX7_reads_7 : decode cX7_reads 7 = .ok (.iaload, 1) := by decide +kernel
theorem dX7_reads_8 : decode cX7_reads 8 = .ok (.istore_n 3, 1) := by decide +kernel
theorem dX7_reads_9 : decode cX7_reads 9 = .ok (.aload_n 0, 1) := by decide +kernel
theorem dX7_reads_10 : decode cX7_reads 10 = .ok (.getfield 7, 3) := by decide +kernel
theorem dX7_reads_13 : decode cX7_reads 13 = .ok (.iload_n 2, 1) := by decide +kernel
theorem dX7_reads_14 : decode cX7_reads 14 = .ok (.iconst 4, 1) := by decide +kernel
theorem dX7_reads_15 : decode cX7_reads 15 = .ok (.iadd, 1) := by decide +kernel
theorem dX7_reads_16 : decode cX7_reads 16 = .ok (.iaload, 1) := by decide +kernel
theorem dX7_reads_17 : decode cX7_reads 17 = .ok (.iconst 1, 1) := by decide +kernel
theorem dX7_reads_18 : decode cX7_reads 18 = .ok (.if_icmp .ne 22, 3) := by decide +kernel
theorem dX7_reads_21 : decode cX7_reads 21 = .ok (.aload_n 0, 1) := by decide +kernel
theorem dX7_reads_22 : decode cX7_reads 22 = .ok (.getfield 7, 3) := by decide +kernel
theorem dX7_reads_25 : decode cX7_reads 25 = .ok (.iload_n 2, 1) := by decide +kernel
theorem dX7_reads_26 : decode cX7_reads 26 = .ok (.iconst 5, 1) := by decide +kernel
theorem dX7_reads_27 : decode cX7_reads 27 = .ok (.iadd, 1) := by decide +kernel
theorem dX7_reads_28 : decode cX7_reads 28 = .ok (.iload_n 1, 1) := by decide +kernel
theorem dX7_reads_29 : decode cX7_reads 29 = .ok (.iadd, 1) := by decide +kernel
theorem dX7_reads_30 : decode cX7_reads 30 = .ok (.aload_n 0, 1) := by decide +kernel
theorem dX7_reads_31 : decode cX7_reads 31 = .ok (.iload_n 1, 1) := by decide +kernel
theorem dX7_reads_32 : decode cX7_reads 32 = .ok (.iload_n 1, 1) := by decide +kernel
theorem dX7_reads_33 : decode cX7_reads 33 = .ok (.invokevirtual 41, 3) := by decide +kernel
theorem dX7_reads_36 : decode cX7_reads 36 = .ok (.iastore, 1) := by decide +kernel
theorem dX7_reads_37 : decode cX7_reads 37 = .ok (.goto 125, 3) := by decide +kernel
theorem dX7_reads_40 : decode cX7_reads 40 = .ok (.iload_n 3, 1) := by decide +kernel
theorem dX7_reads_41 : decode cX7_reads 41 = .ok (.iconst (-1), 1) := by decide +kernel
theorem dX7_reads_42 : decode cX7_reads 42 = .ok (.if_icmp .eq 20, 3) := by decide +kernel
theorem dX7_reads_45 : decode cX7_reads 45 = .ok (.aload_n 0, 1) := by decide +kernel
theorem dX7_reads_46 : decode cX7_reads 46 = .ok (.iload_n 1, 1) := by decide +kernel
theorem dX7_reads_47 : decode cX7_reads 47 = .ok (.iload_n 3, 1) := by decide +kernel
theorem dX7_reads_48 : decode cX7_reads 48 = .ok (.invokevirtual 41, 3) := by decide +kernel
theorem dX7_reads_51 : decode cX7_reads 51 = .ok (.aload_n 0, 1) := by decide +kernel
theorem dX7_reads_52 : decode cX7_reads 52 = .ok (.getfield 7, 3) := by decide +kernel
theorem dX7_reads_55 : decode cX7_reads 55 = .ok (.iload_n 2, 1) := by decide +kernel
theorem dX7_reads_56 : decode cX7_reads 56 = .ok (.iconst 3, 1) := by decide +kernel
theorem dX7_reads_57 : decode cX7_reads 57 = .ok (.iadd, 1) := by decide +kernel
theorem dX7_reads_58 : decode cX7_reads 58 = .ok (.iaload, 1) := by decide +kernel
theorem dX7_reads_59 : decode cX7_reads 59 = .ok (.if_icmp .lt 29, 3) := by decide +kernel
theorem dX7_reads_62 : decode cX7_reads 62 = .ok (.aload_n 0, 1) := by decide +kernel
theorem dX7_reads_63 : decode cX7_reads 63 = .ok (.getfield 7, 3) := by decide +kernel
theorem dX7_reads_66 : decode cX7_reads 66 = .ok (.iload_n 2, 1) := by decide +kernel
theorem dX7_reads_67 : decode cX7_reads 67 = .ok (.iconst 2, 1) := by decide +kernel
theorem dX7_reads_68 : decode cX7_reads 68 = .ok (.iadd, 1) := by decide +kernel
theorem dX7_reads_69 : decode cX7_reads 69 = .ok (.iload_n 1, 1) := by decide +kernel
theorem dX7_reads_70 : decode cX7_reads 70 = .ok (.iastore, 1) := by decide +kernel
theorem dX7_reads_71 : decode cX7_reads 71 = .ok (.aload_n 0, 1) := by decide +kernel
theorem dX7_reads_72 : decode cX7_reads 72 = .ok (.getfield 7, 3) := by decide +kernel
theorem dX7_reads_75 : decode cX7_reads 75 = .ok (.iload_n 2, 1) := by decide +kernel
theorem dX7_reads_76 : decode cX7_reads 76 = .ok (.iconst 3, 1) := by decide +kernel
theorem dX7_reads_77 : decode cX7_reads 77 = .ok (.iadd, 1) := by decide +kernel
theorem dX7_reads_78 : decode cX7_reads 78 = .ok (.aload_n 0, 1) := by decide +kernel
theorem dX7_reads_79 : decode cX7_reads 79 = .ok (.iload_n 1, 1) := by decide +kernel
theorem dX7_reads_80 : decode cX7_reads 80 = .ok (.iload_n 1, 1) := by decide +kernel
theorem dX7_reads_81 : decode cX7_reads 81 = .ok (.invokevirtual 41, 3) := by decide +kernel
theorem dX7_reads_84 : decode cX7_reads 84 = .ok (.iastore, 1) := by decide +kernel
theorem dX7_reads_85 : decode cX7_reads 85 = .ok (.goto 77, 3) := by decide +kernel
theorem dX7_reads_88 : decode cX7_reads 88 = .ok (.aload_n 0, 1) := by decide +kernel
theorem dX7_reads_89 : decode cX7_reads 89 = .ok (.getfield 7, 3) := by decide +kernel
theorem dX7_reads_92 : decode cX7_reads 92 = .ok (.iload_n 2, 1) := by decide +kernel
theorem dX7_reads_93 : decode cX7_reads 93 = .ok (.iconst 4, 1) := by decide +kernel
theorem dX7_reads_94 : decode cX7_reads 94 = .ok (.iadd, 1) := by decide +kernel
theorem dX7_reads_95 : decode cX7_reads 95 = .ok (.iconst 1, 1) := by decide +kernel
theorem dX7_reads_96 : decode cX7_reads 96 = .ok (.iastore, 1) := by decide +kernel
theorem dX7_reads_97 : decode cX7_reads 97 = .ok (.aload_n 0, 1) := by decide +kernel
theorem dX7_reads_98 : decode cX7_reads 98 = .ok (.getfield 7, 3) := by decide +kernel
theorem dX7_reads_101 : decode cX7_reads 101 = .ok (.iload_n 2, 1) := by decide +kernel
theorem dX7_reads_102 : decode cX7_reads 102 = .ok (.iconst 5, 1) := by decide +kernel
theorem dX7_reads_103 : decode cX7_reads 103 = .ok (.iadd, 1) := by decide +kernel
theorem dX7_reads_104 : decode cX7_reads 104 = .ok (.iload_n 3, 1) := by decide +kernel
theorem dX7_reads_105 : decode cX7_reads 105 = .ok (.iadd, 1) := by decide +kernel
theorem dX7_reads_106 : decode cX7_reads 106 = .ok (.aload_n 0, 1) := by decide +kernel
theorem dX7_reads_107 : decode cX7_reads 107 = .ok (.getfield 7, 3) := by decide +kernel
theorem dX7_reads_110 : decode cX7_reads 110 = .ok (.iload_n 2, 1) := by decide +kernel
theorem dX7_reads_111 : decode cX7_reads 111 = .ok (.iconst 3, 1) := by decide +kernel
theorem dX7_reads_112 : decode cX7_reads 112 = .ok (.iadd, 1) := by decide +kernel
theorem dX7_reads_113 : decode cX7_reads 113 = .ok (.iaload, 1) := by decide +kernel
theorem dX7_reads_114 : decode cX7_reads 114 = .ok (.iastore, 1) := by decide +kernel
theorem dX7_reads_115 : decode cX7_reads 115 = .ok (.aload_n 0, 1) := by decide +kernel
theorem dX7_reads_116 : decode cX7_reads 116 = .ok (.getfield 7, 3) := by decide +kernel
theorem dX7_reads_119 : decode cX7_reads 119 = .ok (.iload_n 2, 1) := by decide +kernel
theorem dX7_reads_120 : decode cX7_reads 120 = .ok (.iconst 5, 1) := by decide +kernel
theorem dX7_reads_121 : decode cX7_reads 121 = .ok (.iadd, 1) := by decide +kernel
theorem dX7_reads_122 : decode cX7_reads 122 = .ok (.iload_n 1, 1) := by decide +kernel
theorem dX7_reads_123 : decode cX7_reads 123 = .ok (.iadd, 1) := by decide +kernel
theorem dX7_reads_124 : decode cX7_reads 124 = .ok (.aload_n 0, 1) := by decide +kernel
theorem dX7_reads_125 : decode cX7_reads 125 = .ok (.iload_n 1, 1) := by decide +kernel
theorem dX7_reads_126 : decode cX7_reads 126 = .ok (.iload_n 1, 1) := by decide +kernel
theorem dX7_reads_127 : decode cX7_reads 127 = .ok (.invokevirtual 41, 3) := by decide +kernel
theorem dX7_reads_130 : decode cX7_reads 130 = .ok (.iastore, 1) := by decide +kernel
theorem dX7_reads_131 : decode cX7_reads 131 = .ok (.aload_n 0, 1) := by decide +kernel
theorem dX7_reads_132 : decode cX7_reads 132 = .ok (.getfield 7, 3) := by decide +kernel
theorem dX7_reads_135 : decode cX7_reads 135 = .ok (.iload_n 2, 1) := by decide +kernel
theorem dX7_reads_136 : decode cX7_reads 136 = .ok (.iconst 2, 1) := by decide +kernel
theorem dX7_reads_137 : decode cX7_reads 137 = .ok (.iadd, 1) := by decide +kernel
theorem dX7_reads_138 : decode cX7_reads 138 = .ok (.iconst (-1), 1) := by decide +kernel
theorem dX7_reads_139 : decode cX7_reads 139 = .ok (.iastore, 1) := by decide +kernel
theorem dX7_reads_140 : decode cX7_reads 140 = .ok (.aload_n 0, 1) := by decide +kernel
theorem dX7_reads_141 : decode cX7_reads 141 = .ok (.getfield 7, 3) := by decide +kernel
theorem dX7_reads_144 : decode cX7_reads 144 = .ok (.iload_n 2, 1) := by decide +kernel
theorem dX7_reads_145 : decode cX7_reads 145 = .ok (.iconst 3, 1) := by decide +kernel
theorem dX7_reads_146 : decode cX7_reads 146 = .ok (.iadd, 1) := by decide +kernel
theorem dX7_reads_147 : decode cX7_reads 147 = .ok (.iconst 0, 1) := by decide +kernel
theorem dX7_reads_148 : decode cX7_reads 148 = .ok (.iastore, 1) := by decide +kernel
theorem dX7_reads_149 : decode cX7_reads 149 = .ok (.aload_n 0, 1) := by decide +kernel
theorem dX7_reads_150 : decode cX7_reads 150 = .ok (.getfield 7, 3) := by decide +kernel
theorem dX7_reads_153 : decode cX7_reads 153 = .ok (.iload_n 2, 1) := by decide +kernel
theorem dX7_reads_154 : decode cX7_reads 154 = .ok (.bipush 9, 2) := by decide +kernel
theorem dX7_reads_156 : decode cX7_reads 156 = .ok (.iadd, 1) := by decide +kernel
theorem dX7_reads_157 : decode cX7_reads 157 = .ok (.dup2, 1) := by decide +kernel
theorem dX7_reads_158 : decode cX7_reads 158 = .ok (.iaload, 1) := by decide +kernel
theorem dX7_reads_159 : decode cX7_reads 159 = .ok (.iconst 1, 1) := by decide +kernel
theorem dX7_reads_160 : decode cX7_reads 160 = .ok (.iadd, 1) := by decide +kernel
theorem dX7_reads_161 : decode cX7_reads 161 = .ok (.iastore, 1) := by decide +kernel
theorem dX7_reads_162 : decode cX7_reads 162 = .ok (.return_, 1) := by decide +kernel
set_option maxRecDepth 20000 in
theorem ggX7_comes_X7_accesses : GoodIn wsX7_comes wsX7_accesses := goodIn_r _ [6, 1, 7, 8, 5, 9, 10, 11, 12, 13, 14, 15, 16, 17, 18, 19, 20, 21, 46, 47, 48, 49, 50, 51, 52, 53, 54, 55, 56, 57, 58, 59] (by decide +kernel) (by decide +kernel)
set_option maxRecDepth 20000 in
theorem gX7_comes_X7_accesses : GoodIn wsX7_comes (wsV RX7 70 RX7 yX7_accesses wsX7_accesses) := goodIn_app (goodIn_of _ (by decide +kernel)) ggX7_comes_X7_accesses
set_option maxRecDepth 20000 in
theorem ggX7_comes_X7_joins : GoodIn wsX7_comes wsX7_joins := goodIn_r _ [25, 1, 46, 47, 48, 49, 50, 51, 52, 53, 54, 55, 56, 57, 58, 59] (by decide +kernel) (by decide +kernel)
set_option maxRecDepth 20000 in
theorem gX7_comes_X7_joins : GoodIn wsX7_comes (wsV RX7 74 RX7 yX7_joins wsX7_joins) := goodIn_app (goodIn_of _ (by decide +kernel)) ggX7_comes_X7_joins
set_option maxRecDepth 20000 in
theorem ggX7_comes_X7_number : GoodIn wsX7_comes wsX7_number := goodIn_r _ [17, 1, 46, 47, 48, 49, 50, 51, 52, 53, 54, 55, 56, 57, 58, 59] (by decide +kernel) (by decide +kernel)
set_option maxRecDepth 20000 in
theorem gX7_comes_X7_number : GoodIn wsX7_comes (wsV RX7 41 RX7 yX7_number wsX7_number) := goodIn_app (goodIn_of _ (by decide +kernel)) ggX7_comes_X7_number
set_option maxRecDepth 20000 in
theorem ggX7_comes_X7_writes : GoodIn wsX7_comes wsX7_writes := goodIn_r _ [29, 1, 14, 15, 16, 5, 17, 30, 31, 32, 33, 46, 47, 48, 49, 50, 51, 52, 53, 54, 55, 56, 57, 58, 59] (by decide +kernel) (by decide +kernel)
set_option maxRecDepth 20000 in
theorem gX7_comes_X7_writes : GoodIn wsX7_comes (wsV RX7 77 RX7 yX7_writes wsX7_writes) := goodIn_app (goodIn_of _ (by decide +kernel)) ggX7_comes_X7_writes
set_option maxRecDepth 20000 in
theorem ggX7_comes_X7_hasStep : GoodIn wsX7_comes wsX7_hasStep := goodIn_r _ [36] (by decide +kernel) (by decide +kernel)
set_option maxRecDepth 20000 in
theorem gX7_comes_X7_hasStep : GoodIn wsX7_comes (va_wsS RX7 81 yX7_hasStep wsX7_hasStep) := goodIn_app (goodIn_of _ (by decide +kernel)) ggX7_comes_X7_hasStep
set_option maxRecDepth 20000 in
theorem ggX7_comes_X7_isMuch : GoodIn wsX7_comes wsX7_isMuch := goodIn_r _ [40, 41, 14, 15, 16, 5, 17, 1, 46, 47, 48, 49, 50, 51, 52, 53, 54, 55, 56, 57, 58, 59] (by decide +kernel) (by decide +kernel)
set_option maxRecDepth 20000 in
theorem gX7_comes_X7_isMuch : GoodIn wsX7_comes (wsV RX7 84 RX7 yX7_isMuch wsX7_isMuch) := goodIn_app (goodIn_of _ (by decide +kernel)) ggX7_comes_X7_isMuch
set_option maxRecDepth 20000 in
theorem ggX7_comes_X7_steps : GoodIn wsX7_comes wsX7_steps := goodIn_r _ [45, 1, 46, 47, 48, 49, 50, 51, 52, 53, 54, 55, 56, 57, 58, 59] (by decide +kernel) (by decide +kernel)
set_option maxRecDepth 20000 in
theorem gX7_comes_X7_steps : GoodIn wsX7_comes (wsV RX7 87 RX7 yX7_steps wsX7_steps) := goodIn_app (goodIn_of _ (by decide +kernel)) ggX7_comes_X7_steps
theorem dX7_comes_0 : decode cX7_comes 0 = .ok (.iconst 4, 1) := by decide +kernel
theorem dX7_comes_1 : decode cX7_comes 1 = .ok (.iconst 4, 1) := by decide +kernel
theorem dX7_comes_2 : decode cX7_comes 2 = .ok (.iload_n 1, 1) := by decide +kernel
theorem dX7_comes_3 : decode cX7_comes 3 = .ok (.imul, 1) := by decide +kernel
theorem dX7_comes_4 : decode cX7_comes 4 = .ok (.iadd, 1) := by decide +kernel
theorem dX7_comes_5 : decode cX7_comes 5 = .ok (.istore 4, 2) := by decide +kernel
theorem dX7_comes_7 : decode cX7_comes 7 = .ok (.iload_n 2, 1) := by decide +kernel
theorem dX7_comes_8 : decode cX7_comes 8 = .ok (.tableswitch 190 0 6 #[44, 44, 63, 88, 137, 152, 167], 44) := by decide +kernel
theorem dX7_comes_52 : decode cX7_comes 52 = .ok (.aload_n 0, 1) := by decide +kernel
theorem dX7_comes_53 : decode cX7_comes 53 = .ok (.iload_n 1, 1) := by decide +kernel
theorem dX7_comes_54 : decode cX7_comes 54 = .ok (.iload_n 3, 1) := by decide +kernel
theorem dX7_comes_55 : decode cX7_comes 55 = .ok (.iload_n 2, 1) := by decide +kernel
theorem dX7_comes_56 : decode cX7_comes 56 = .ok (.iconst 1, 1) := by decide +kernel
theorem dX7_comes_57 : decode cX7_comes 57 = .ok (.if_icmp .ne 7, 3) := by decide +kernel
theorem dX7_comes_60 : decode cX7_comes 60 = .ok (.iconst 1, 1) := by decide +kernel
theorem dX7_comes_61 : decode cX7_comes 61 = .ok (.goto 4, 3) := by decide +kernel
theorem dX7_comes_64 : decode cX7_comes 64 = .ok (.iconst 0, 1) := by decide +kernel
theorem dX7_comes_65 : decode cX7_comes 65 = .ok (.invokevirtual 70, 3) := by decide +kernel
theorem dX7_comes_68 : decode cX7_comes 68 = .ok (.goto 150, 3) := by decide +kernel
theorem dX7_comes_71 : decode cX7_comes 71 = .ok (.aload_n 0, 1) := by decide +kernel
theorem dX7_comes_72 : decode cX7_comes 72 = .ok (.iload 4, 2) := by decide +kernel
theorem dX7_comes_74 : decode cX7_comes 74 = .ok (.bipush 20, 2) := by decide +kernel
theorem dX7_comes_76 : decode cX7_comes 76 = .ok (.iconst 4, 1) := by decide +kernel
theorem dX7_comes_77 : decode cX7_comes 77 = .ok (.iload_n 3, 1) := by decide +kernel
theorem dX7_comes_78 : decode cX7_comes 78 = .ok (.imul, 1) := by decide +kernel
theorem dX7_comes_79 : decode cX7_comes 79 = .ok (.iadd, 1) := by decide +kernel
theorem dX7_comes_80 : decode cX7_comes 80 = .ok (.invokevirtual 74, 3) := by decide +kernel
theorem dX7_comes_83 : decode cX7_comes 83 = .ok (.aload_n 0, 1) := by decide +kernel
theorem dX7_comes_84 : decode cX7_comes 84 = .ok (.getfield 7, 3) := by decide +kernel
theorem dX7_comes_87 : decode cX7_comes 87 = .ok (.bipush 40, 2) := by decide +kernel
theorem dX7_comes_89 : decode cX7_comes 89 = .ok (.iload_n 3, 1) := by decide +kernel
theorem dX7_comes_90 : decode cX7_comes 90 = .ok (.iadd, 1) := by decide +kernel
theorem dX7_comes_91 : decode cX7_comes 91 = .ok (.iload_n 1, 1) := by decide +kernel
theorem dX7_comes_92 : decode cX7_comes 92 = .ok (.iastore, 1) := by decide +kernel
theorem dX7_comes_93 : decode cX7_comes 93 = .ok (.goto 125, 3) := by decide +kernel
theorem dX7_comes_96 : decode cX7_comes 96 = .ok (.aload_n 0, 1) := by decide +kernel
theorem dX7_comes_97 : decode cX7_comes 97 = .ok (.getfield 7, 3) := by decide +kernel
theorem dX7_comes_100 : decode cX7_comes 100 = .ok (.bipush 40, 2) := by decide +kernel
theorem dX7_comes_102 : decode cX7_comes 102 = .ok (.iload_n 3, 1) := by decide +kernel
theorem dX7_comes_103 : decode cX7_comes 103 = .ok (.iadd, 1) := by decide +kernel
theorem dX7_comes_104 : decode cX7_comes 104 = .ok (.iconst (-1), 1) := by decide +kernel
theorem dX7_comes_105 : decode cX7_comes 105 = .ok (.iastore, 1) := by decide +kernel
theorem dX7_comes_106 : decode cX7_comes 106 = .ok (.iconst 0, 1) := by decide +kernel
theorem dX7_comes_107 : decode cX7_comes 107 = .ok (.istore 5, 2) := by decide +kernel
theorem dX7_comes_109 : decode cX7_comes 109 = .ok (.iload 5, 2) := by decide +kernel
theorem dX7_comes_111 : decode cX7_comes 111 = .ok (.iconst 4, 1) := by decide +kernel
theorem dX7_comes_112 : decode cX7_comes 112 = .ok (.if_icmp .ge 30, 3) := by decide +kernel
theorem dX7_comes_115 : decode cX7_comes 115 = .ok (.aload_n 0, 1) := by decide +kernel
theorem dX7_comes_116 : decode cX7_comes 116 = .ok (.getfield 7, 3) := by decide +kernel
theorem dX7_comes_119 : decode cX7_comes 119 = .ok (.bipush 20, 2) := by decide +kernel
theorem dX7_comes_121 : decode cX7_comes 121 = .ok (.iconst 4, 1) := by decide +kernel
theorem dX7_comes_122 : decode cX7_comes 122 = .ok (.iload_n 3, 1) := by decide +kernel
theorem dX7_comes_123 : decode cX7_comes 123 = .ok (.imul, 1) := by decide +kernel
theorem dX7_comes_124 : decode cX7_comes 124 = .ok (.iadd, 1) := by decide +kernel
theorem dX7_comes_125 : decode cX7_comes 125 = .ok (.iload 5, 2) := by decide +kernel
theorem dX7_comes_127 : decode cX7_comes 127 = .ok (.iadd, 1) := by decide +kernel
theorem dX7_comes_128 : decode cX7_comes 128 = .ok (.aload_n 0, 1) := by decide +kernel
theorem dX7_comes_129 : decode cX7_comes 129 = .ok (.iload_n 1, 1) := by decide +kernel
theorem dX7_comes_130 : decode cX7_comes 130 = .ok (.iload 5, 2) := by decide +kernel
theorem dX7_comes_132 : decode cX7_comes 132 = .ok (.invokevirtual 41, 3) := by decide +kernel
theorem dX7_comes_135 : decode cX7_comes 135 = .ok (.iastore, 1) := by decide +kernel
theorem dX7_comes_136 : decode cX7_comes 136 = .ok (.iinc 5 1, 3) := by decide +kernel
theorem dX7_comes_139 : decode cX7_comes 139 = .ok (.goto (-30), 3) := by decide +kernel
theorem dX7_comes_142 : decode cX7_comes 142 = .ok (.goto 76, 3) := by decide +kernel
theorem dX7_comes_145 : decode cX7_comes 145 = .ok (.aload_n 0, 1) := by decide +kernel
theorem dX7_comes_146 : decode cX7_comes 146 = .ok (.bipush 32, 2) := by decide +kernel
theorem dX7_comes_148 : decode cX7_comes 148 = .ok (.iconst 4, 1) := by decide +kernel
theorem dX7_comes_149 : decode cX7_comes 149 = .ok (.iload_n 3, 1) := by decide +kernel
theorem dX7_comes_150 : decode cX7_comes 150 = .ok (.imul, 1) := by decide +kernel
theorem dX7_comes_151 : decode cX7_comes 151 = .ok (.iadd, 1) := by decide +kernel
theorem dX7_comes_152 : decode cX7_comes 152 = .ok (.iload 4, 2) := by decide +kernel
theorem dX7_comes_154 : decode cX7_comes 154 = .ok (.invokevirtual 74, 3) := by decide +kernel
theorem dX7_comes_157 : decode cX7_comes 157 = .ok (.goto 61, 3) := by decide +kernel
theorem dX7_comes_160 : decode cX7_comes 160 = .ok (.aload_n 0, 1) := by decide +kernel
theorem dX7_comes_161 : decode cX7_comes 161 = .ok (.iload 4, 2) := by decide +kernel
theorem dX7_comes_163 : decode cX7_comes 163 = .ok (.bipush 32, 2) := by decide +kernel
theorem dX7_comes_165 : decode cX7_comes 165 = .ok (.iconst 4, 1) := by decide +kernel
theorem dX7_comes_166 : decode cX7_comes 166 = .ok (.iload_n 3, 1) := by decide +kernel
theorem dX7_comes_167 : decode cX7_comes 167 = .ok (.imul, 1) := by decide +kernel
theorem dX7_comes_168 : decode cX7_comes 168 = .ok (.iadd, 1) := by decide +kernel
theorem dX7_comes_169 : decode cX7_comes 169 = .ok (.invokevirtual 74, 3) := by decide +kernel
theorem dX7_comes_172 : decode cX7_comes 172 = .ok (.goto 46, 3) := by decide +kernel
theorem dX7_comes_175 : decode cX7_comes 175 = .ok (.aload_n 0, 1) := by decide +kernel
theorem dX7_comes_176 : decode cX7_comes 176 = .ok (.iconst 4, 1) := by decide +kernel
theorem dX7_comes_177 : decode cX7_comes 177 = .ok (.iconst 4, 1) := by decide +kernel
theorem dX7_comes_178 : decode cX7_comes 178 = .ok (.iload_n 3, 1) := by decide +kernel
theorem dX7_comes_179 : decode cX7_comes 179 = .ok (.imul, 1) := by decide +kernel
theorem dX7_comes_180 : decode cX7_comes 180 = .ok (.iadd, 1) := by decide +kernel
theorem dX7_comes_181 : decode cX7_comes 181 = .ok (.iload 4, 2) := by decide +kernel
theorem dX7_comes_183 : decode cX7_comes 183 = .ok (.invokevirtual 74, 3) := by decide +kernel
theorem dX7_comes_186 : decode cX7_comes 186 = .ok (.aload_n 0, 1) := by decide +kernel
theorem dX7_comes_187 : decode cX7_comes 187 = .ok (.getfield 7, 3) := by decide +kernel
theorem dX7_comes_190 : decode cX7_comes 190 = .ok (.iconst 0, 1) := by decide +kernel
theorem dX7_comes_191 : decode cX7_comes 191 = .ok (.iload_n 3, 1) := by decide +kernel
theorem dX7_comes_192 : decode cX7_comes 192 = .ok (.iadd, 1) := by decide +kernel
theorem dX7_comes_193 : decode cX7_comes 193 = .ok (.iconst 1, 1) := by decide +kernel
theorem dX7_comes_194 : decode cX7_comes 194 = .ok (.iastore, 1) := by decide +kernel
theorem dX7_comes_195 : decode cX7_comes 195 = .ok (.goto 23, 3) := by decide +kernel
theorem dX7_comes_198 : decode cX7_comes 198 = .ok (.aload_n 0, 1) := by decide +kernel
theorem dX7_comes_199 : decode cX7_comes 199 = .ok (.iload 4, 2) := by decide +kernel
theorem dX7_comes_201 : decode cX7_comes 201 = .ok (.iconst 4, 1) := by decide +kernel
theorem dX7_comes_202 : decode cX7_comes 202 = .ok (.iconst 4, 1) := by decide +kernel
theorem dX7_comes_203 : decode cX7_comes 203 = .ok (.iload_n 3, 1) := by decide +kernel
theorem dX7_comes_204 : decode cX7_comes 204 = .ok (.imul, 1) := by decide +kernel
theorem dX7_comes_205 : decode cX7_comes 205 = .ok (.iadd, 1) := by decide +kernel
theorem dX7_comes_206 : decode cX7_comes 206 = .ok (.invokevirtual 74, 3) := by decide +kernel
theorem dX7_comes_209 : decode cX7_comes 209 = .ok (.aload_n 0, 1) := by decide +kernel
theorem dX7_comes_210 : decode cX7_comes 210 = .ok (.getfield 7, 3) := by decide +kernel
theorem dX7_comes_213 : decode cX7_comes 213 = .ok (.iconst 0, 1) := by decide +kernel
theorem dX7_comes_214 : decode cX7_comes 214 = .ok (.iload_n 3, 1) := by decide +kernel
theorem dX7_comes_215 : decode cX7_comes 215 = .ok (.iadd, 1) := by decide +kernel
theorem dX7_comes_216 : decode cX7_comes 216 = .ok (.iconst 2, 1) := by decide +kernel
theorem dX7_comes_217 : decode cX7_comes 217 = .ok (.iastore, 1) := by decide +kernel
theorem dX7_comes_218 : decode cX7_comes 218 = .ok (.aload_n 0, 1) := by decide +kernel
theorem dX7_comes_219 : decode cX7_comes 219 = .ok (.iload_n 1, 1) := by decide +kernel
theorem dX7_comes_220 : decode cX7_comes 220 = .ok (.iload_n 2, 1) := by decide +kernel
theorem dX7_comes_221 : decode cX7_comes 221 = .ok (.iload_n 3, 1) := by decide +kernel
theorem dX7_comes_222 : decode cX7_comes 222 = .ok (.invokevirtual 77, 3) := by decide +kernel
theorem dX7_comes_225 : decode cX7_comes 225 = .ok (.iload_n 2, 1) := by decide +kernel
theorem dX7_comes_226 : decode cX7_comes 226 = .ok (.invokestatic 81, 3) := by decide +kernel
theorem dX7_comes_229 : decode cX7_comes 229 = .ok (.ifCond .eq 16, 3) := by decide +kernel
theorem dX7_comes_232 : decode cX7_comes 232 = .ok (.aload_n 0, 1) := by decide +kernel
theorem dX7_comes_233 : decode cX7_comes 233 = .ok (.iload_n 1, 1) := by decide +kernel
theorem dX7_comes_234 : decode cX7_comes 234 = .ok (.invokevirtual 84, 3) := by decide +kernel
theorem dX7_comes_237 : decode cX7_comes 237 = .ok (.ifCond .ne 8, 3) := by decide +kernel
theorem dX7_comes_240 : decode cX7_comes 240 = .ok (.aload_n 0, 1) := by decide +kernel
theorem dX7_comes_241 : decode cX7_comes 241 = .ok (.iload_n 1, 1) := by decide +kernel
theorem dX7_comes_242 : decode cX7_comes 242 = .ok (.invokevirtual 87, 3) := by decide +kernel
theorem dX7_comes_245 : decode cX7_comes 245 = .ok (.return_, 1) := by decide +kernel
set_option maxRecDepth 20000 in
theorem ggX7_event_X7_isThread : GoodIn wsX7_event wsX7_isThread := goodIn_r _ [11, 12, 13, 14, 10, 15] (by decide +kernel) (by decide +kernel)
set_option maxRecDepth 20000 in
theorem gX7_event_X7_isThread : GoodIn wsX7_event (va_wsS RX7 56 yX7_isThread wsX7_isThread) := goodIn_app (goodIn_of _ (by decide +kernel)) ggX7_event_X7_isThread
set_option maxRecDepth 20000 in
theorem ggX7_event_X7_in : GoodIn wsX7_event wsX7_in := goodIn_r _ [15] (by decide +kernel) (by decide +kernel)
set_option maxRecDepth 20000 in
theorem gX7_event_X7_in : GoodIn wsX7_event (va_wsS RX7 31 yX7_in wsX7_in) := goodIn_app (goodIn_of _ (by decide +kernel)) ggX7_event_X7_in
set_option maxRecDepth 20000 in
theorem ggX7_event_X7_isWith : GoodIn wsX7_event wsX7_isWith := goodIn_r _ [18, 19, 20, 10, 21, 12, 13, 14, 15, 22, 23, 24, 25, 26, 27, 28, 8, 9, 11] (by decide +kernel) (by decide +kernel)
set_option maxRecDepth 20000 in
theorem gX7_event_X7_isWith : GoodIn wsX7_event (va_wsS RX7 93 yX7_isWith wsX7_isWith) := goodIn_app (goodIn_of _ (by decide +kernel)) ggX7_event_X7_isWith
set_option maxRecDepth 20000 in
theorem ggX7_event_X7_can : GoodIn wsX7_event wsX7_can := goodIn_r _ [32, 5, 33, 34, 35, 10, 36, 80, 81, 82, 83, 84, 85, 86, 87, 88, 89, 90, 91, 92, 93] (by decide +kernel) (by decide +kernel)
set_option maxRecDepth 20000 in
theorem gX7_event_X7_can : GoodIn wsX7_event (wsV RX7 99 RX7 yX7_can wsX7_can) := goodIn_app (goodIn_of _ (by decide +kernel)) ggX7_event_X7_can
set_option maxRecDepth 20000 in
theorem ggX7_event_X7_hasStep : GoodIn wsX7_event wsX7_hasStep := goodIn_r _ [39] (by decide +kernel) (by decide +kernel)
set_option maxRecDepth 20000 in
theorem gX7_event_X7_hasStep : GoodIn wsX7_event (va_wsS RX7 81 yX7_hasStep wsX7_hasStep) := goodIn_app (goodIn_of _ (by decide +kernel)) ggX7_event_X7_hasStep
set_option maxRecDepth 20000 in
theorem ggX7_event_X7_isMuch : GoodIn wsX7_event wsX7_isMuch := goodIn_r _ [43, 44, 45, 46, 47, 10, 48, 5, 80, 81, 82, 83, 84, 85, 86, 87, 88, 89, 90, 91, 92, 93] (by decide +kernel) (by decide +kernel)
set_option maxRecDepth 20000 in
theorem gX7_event_X7_isMuch : GoodIn wsX7_event (wsV RX7 84 RX7 yX7_isMuch wsX7_isMuch) := goodIn_app (goodIn_of _ (by decide +kernel)) ggX7_event_X7_isMuch
set_option maxRecDepth 20000 in
theorem ggX7_event_X7_comes : GoodIn wsX7_event wsX7_comes := goodIn_r _ [52, 5, 53, 54, 55, 10, 56, 57, 58, 59, 60, 61, 62, 63, 45, 46, 47, 48, 64, 65, 66, 67, 68, 69, 70, 71, 72, 73, 74, 75, 33, 34, 35, 36, 37, 38, 39, 40, 41, 42, 43, 44, 76, 77, 78, 79, 80, 81, 82, 83, 84, 85, 86, 87, 88, 89, 90, 91, 92, 93] (by decide +kernel) (by decide +kernel)
set_option maxRecDepth 20000 in
theorem gX7_event_X7_comes : GoodIn wsX7_event (wsV RX7 105 RX7 yX7_comes wsX7_comes) := goodIn_app (goodIn_of _ (by decide +kernel)) ggX7_event_X7_comes
theorem dX7_event_0 : decode cX7_event 0 = .ok (.iload_n 1, 1) := by decide +kernel
theorem dX7_event_1 : decode cX7_event 1 = .ok (.invokestatic 56, 3) := by decide +kernel
theorem dX7_event_4 : decode cX7_event 4 = .ok (.ifCond .eq 24, 3) := by decide +kernel
theorem dX7_event_7 : decode cX7_event 7 = .ok (.iload_n 2, 1) := by decide +kernel
theorem dX7_event_8 : decode cX7_event 8 = .ok (.i2l, 1) := by decide +kernel
theorem dX7_event_9 : decode cX7_event 9 = .ok (.lconst 0, 1) := by decide +kernel
theorem dX7_event_10 : decode cX7_event 10 = .ok (.ldc2_w 91, 3) := by decide +kernel
theorem dX7_event_13 : decode cX7_event 13 = .ok (.invokestatic 31, 3) := by decide +kernel
theorem dX7_event_16 : decode cX7_event 16 = .ok (.ifCond .eq 15, 3) := by decide +kernel
theorem dX7_event_19 : decode cX7_event 19 = .ok (.iload_n 1, 1) := by decide +kernel
theorem dX7_event_20 : decode cX7_event 20 = .ok (.iload_n 2, 1) := by decide +kernel
theorem dX7_event_21 : decode cX7_event 21 = .ok (.iload_n 3, 1) := by decide +kernel
theorem dX7_event_22 : decode cX7_event 22 = .ok (.invokestatic 93, 3) := by decide +kernel
theorem dX7_event_25 : decode cX7_event 25 = .ok (.ifCond .ne 6, 3) := by decide +kernel
theorem dX7_event_28 : decode cX7_event 28 = .ok (.ldc 97, 2) := by decide +kernel
theorem dX7_event_30 : decode cX7_event 30 = .ok (.ireturn, 1) := by decide +kernel
theorem dX7_event_31 : decode cX7_event 31 = .ok (.iload_n 2, 1) := by decide +kernel
theorem dX7_event_32 : decode cX7_event 32 = .ok (.i2l, 1) := by decide +kernel
theorem dX7_event_33 : decode cX7_event 33 = .ok (.lconst 0, 1) := by decide +kernel
theorem dX7_event_34 : decode cX7_event 34 = .ok (.ldc2_w 91, 3) := by decide +kernel
theorem dX7_event_37 : decode cX7_event 37 = .ok (.invokestatic 31, 3) := by decide +kernel
theorem dX7_event_40 : decode cX7_event 40 = .ok (.ifCond .ne 6, 3) := by decide +kernel
theorem dX7_event_43 : decode cX7_event 43 = .ok (.ldc 98, 2) := by decide +kernel
theorem dX7_event_45 : decode cX7_event 45 = .ok (.ireturn, 1) := by decide +kernel
theorem dX7_event_46 : decode cX7_event 46 = .ok (.aload_n 0, 1) := by decide +kernel
theorem dX7_event_47 : decode cX7_event 47 = .ok (.iload_n 1, 1) := by decide +kernel
theorem dX7_event_48 : decode cX7_event 48 = .ok (.iload_n 2, 1) := by decide +kernel
theorem dX7_event_49 : decode cX7_event 49 = .ok (.iload_n 3, 1) := by decide +kernel
theorem dX7_event_50 : decode cX7_event 50 = .ok (.invokevirtual 99, 3) := by decide +kernel
theorem dX7_event_53 : decode cX7_event 53 = .ok (.ifCond .ne 6, 3) := by decide +kernel
theorem dX7_event_56 : decode cX7_event 56 = .ok (.ldc 102, 2) := by decide +kernel
theorem dX7_event_58 : decode cX7_event 58 = .ok (.ireturn, 1) := by decide +kernel
theorem dX7_event_59 : decode cX7_event 59 = .ok (.aload_n 0, 1) := by decide +kernel
theorem dX7_event_60 : decode cX7_event 60 = .ok (.getfield 7, 3) := by decide +kernel
theorem dX7_event_63 : decode cX7_event 63 = .ok (.bipush 91, 2) := by decide +kernel
theorem dX7_event_65 : decode cX7_event 65 = .ok (.iaload, 1) := by decide +kernel
theorem dX7_event_66 : decode cX7_event 66 = .ok (.sipush 160, 3) := by decide +kernel
theorem dX7_event_69 : decode cX7_event 69 = .ok (.if_icmp .ne 6, 3) := by decide +kernel
theorem dX7_event_72 : decode cX7_event 72 = .ok (.ldc 103, 2) := by decide +kernel
theorem dX7_event_74 : decode cX7_event 74 = .ok (.ireturn, 1) := by decide +kernel
theorem dX7_event_75 : decode cX7_event 75 = .ok (.iload_n 2, 1) := by decide +kernel
theorem dX7_event_76 : decode cX7_event 76 = .ok (.invokestatic 81, 3) := by decide +kernel
theorem dX7_event_79 : decode cX7_event 79 = .ok (.ifCond .eq 14, 3) := by decide +kernel
theorem dX7_event_82 : decode cX7_event 82 = .ok (.aload_n 0, 1) := by decide +kernel
theorem dX7_event_83 : decode cX7_event 83 = .ok (.iload_n 1, 1) := by decide +kernel
theorem dX7_event_84 : decode cX7_event 84 = .ok (.invokevirtual 84, 3) := by decide +kernel
theorem dX7_event_87 : decode cX7_event 87 = .ok (.ifCond .eq 6, 3) := by decide +kernel
theorem dX7_event_90 : decode cX7_event 90 = .ok (.ldc 104, 2) := by decide +kernel
theorem dX7_event_92 : decode cX7_event 92 = .ok (.ireturn, 1) := by decide +kernel
theorem dX7_event_93 : decode cX7_event 93 = .ok (.aload_n 0, 1) := by decide +kernel
end
section
theorem dX7_event_94 : decode cX7_event 94 = .ok (.iload_n 1, 1) := by decide +kernel
theorem dX7_event_95 : decode cX7_event 95 = .ok (.iload_n 2, 1) := by decide +kernel
theorem dX7_event_96 : decode cX7_event 96 = .ok (.iload_n 3, 1) := by decide +kernel
theorem dX7_event_97 : decode cX7_event 97 = .ok (.invokevirtual 105, 3) := by decide +kernel
theorem dX7_event_100 : decode cX7_event 100 = .ok (.aload_n 0, 1) := by decide +kernel
theorem dX7_event_101 : decode cX7_event 101 = .ok (.getfield 7, 3) := by decide +kernel
theorem dX7_event_104 : decode cX7_event 104 = .ok (.bipush 91, 2) := by decide +kernel
theorem dX7_event_106 : decode cX7_event 106 = .ok (.iaload, 1) := by decide +kernel
theorem dX7_event_107 : decode cX7_event 107 = .ok (.iconst 1, 1) := by decide +kernel
theorem dX7_event_108 : decode cX7_event 108 = .ok (.isub, 1) := by decide +kernel
theorem dX7_event_109 : decode cX7_event 109 = .ok (.ireturn, 1) := by decide +kernel
set_option maxRecDepth 20000 in
theorem ggX7_jump_X7_isThread : GoodIn wsX7_jump wsX7_isThread := goodIn_r _ [10, 11, 12, 13, 9, 14] (by decide +kernel) (by decide +kernel)
set_option maxRecDepth 20000 in
theorem gX7_jump_X7_isThread : GoodIn wsX7_jump (va_wsS RX7 56 yX7_isThread wsX7_isThread) := goodIn_app (goodIn_of _ (by decide +kernel)) ggX7_jump_X7_isThread
set_option maxRecDepth 20000 in
theorem ggX7_jump_X7_number : GoodIn wsX7_jump wsX7_number := goodIn_r _ [18, 3, 19, 20, 21, 22, 23, 24, 25, 26, 27, 28, 29, 30, 31, 32] (by decide +kernel) (by decide +kernel)
set_option maxRecDepth 20000 in
theorem gX7_jump_X7_number : GoodIn wsX7_jump (wsV RX7 41 RX7 yX7_number wsX7_number) := goodIn_app (goodIn_of _ (by decide +kernel)) ggX7_jump_X7_number
theorem dX7_jump_0 : decode cX7_jump 0 = .ok (.iload_n 1, 1) := by decide +kernel
theorem dX7_jump_1 : decode cX7_jump 1 = .ok (.invokestatic 56, 3) := by decide +kernel
theorem dX7_jump_4 : decode cX7_jump 4 = .ok (.ifCond .ne 6, 3) := by decide +kernel
theorem dX7_jump_7 : decode cX7_jump 7 = .ok (.ldc 97, 2) := by decide +kernel
theorem dX7_jump_9 : decode cX7_jump 9 = .ok (.ireturn, 1) := by decide +kernel
theorem dX7_jump_10 : decode cX7_jump 10 = .ok (.iload_n 2, 1) := by decide +kernel
theorem dX7_jump_11 : decode cX7_jump 11 = .ok (.iconst 1, 1) := by decide +kernel
theorem dX7_jump_12 : decode cX7_jump 12 = .ok (.if_icmp .ge 6, 3) := by decide +kernel
theorem dX7_jump_15 : decode cX7_jump 15 = .ok (.ldc 98, 2) := by decide +kernel
theorem dX7_jump_17 : decode cX7_jump 17 = .ok (.ireturn, 1) := by decide +kernel
theorem dX7_jump_18 : decode cX7_jump 18 = .ok (.aload_n 0, 1) := by decide +kernel
theorem dX7_jump_19 : decode cX7_jump 19 = .ok (.getfield 7, 3) := by decide +kernel
theorem dX7_jump_22 : decode cX7_jump 22 = .ok (.iconst 0, 1) := by decide +kernel
theorem dX7_jump_23 : decode cX7_jump 23 = .ok (.iload_n 1, 1) := by decide +kernel
theorem dX7_jump_24 : decode cX7_jump 24 = .ok (.iadd, 1) := by decide +kernel
theorem dX7_jump_25 : decode cX7_jump 25 = .ok (.iaload, 1) := by decide +kernel
theorem dX7_jump_26 : decode cX7_jump 26 = .ok (.iconst 1, 1) := by decide +kernel
theorem dX7_jump_27 : decode cX7_jump 27 = .ok (.if_icmp .eq 6, 3) := by decide +kernel
theorem dX7_jump_30 : decode cX7_jump 30 = .ok (.ldc 102, 2) := by decide +kernel
theorem dX7_jump_32 : decode cX7_jump 32 = .ok (.ireturn, 1) := by decide +kernel
theorem dX7_jump_33 : decode cX7_jump 33 = .ok (.aload_n 0, 1) := by decide +kernel
theorem dX7_jump_34 : decode cX7_jump 34 = .ok (.iload_n 1, 1) := by decide +kernel
theorem dX7_jump_35 : decode cX7_jump 35 = .ok (.iload_n 1, 1) := by decide +kernel
theorem dX7_jump_36 : decode cX7_jump 36 = .ok (.invokevirtual 41, 3) := by decide +kernel
theorem dX7_jump_39 : decode cX7_jump 39 = .ok (.i2l, 1) := by decide +kernel
theorem dX7_jump_40 : decode cX7_jump 40 = .ok (.iload_n 2, 1) := by decide +kernel
theorem dX7_jump_41 : decode cX7_jump 41 = .ok (.i2l, 1) := by decide +kernel
theorem dX7_jump_42 : decode cX7_jump 42 = .ok (.ladd, 1) := by decide +kernel
theorem dX7_jump_43 : decode cX7_jump 43 = .ok (.ldc2_w 108, 3) := by decide +kernel
theorem dX7_jump_46 : decode cX7_jump 46 = .ok (.lcmp, 1) := by decide +kernel
theorem dX7_jump_47 : decode cX7_jump 47 = .ok (.ifCond .le 6, 3) := by decide +kernel
theorem dX7_jump_50 : decode cX7_jump 50 = .ok (.ldc 104, 2) := by decide +kernel
theorem dX7_jump_52 : decode cX7_jump 52 = .ok (.ireturn, 1) := by decide +kernel
theorem dX7_jump_53 : decode cX7_jump 53 = .ok (.aload_n 0, 1) := by decide +kernel
theorem dX7_jump_54 : decode cX7_jump 54 = .ok (.getfield 7, 3) := by decide +kernel
theorem dX7_jump_57 : decode cX7_jump 57 = .ok (.iconst 4, 1) := by decide +kernel
theorem dX7_jump_58 : decode cX7_jump 58 = .ok (.iconst 5, 1) := by decide +kernel
theorem dX7_jump_59 : decode cX7_jump 59 = .ok (.iload_n 1, 1) := by decide +kernel
theorem dX7_jump_60 : decode cX7_jump 60 = .ok (.imul, 1) := by decide +kernel
theorem dX7_jump_61 : decode cX7_jump 61 = .ok (.iadd, 1) := by decide +kernel
theorem dX7_jump_62 : decode cX7_jump 62 = .ok (.dup2, 1) := by decide +kernel
theorem dX7_jump_63 : decode cX7_jump 63 = .ok (.iaload, 1) := by decide +kernel
theorem dX7_jump_64 : decode cX7_jump 64 = .ok (.iload_n 2, 1) := by decide +kernel
theorem dX7_jump_65 : decode cX7_jump 65 = .ok (.iadd, 1) := by decide +kernel
theorem dX7_jump_66 : decode cX7_jump 66 = .ok (.iastore, 1) := by decide +kernel
theorem dX7_jump_67 : decode cX7_jump 67 = .ok (.aload_n 0, 1) := by decide +kernel
theorem dX7_jump_68 : decode cX7_jump 68 = .ok (.iload_n 1, 1) := by decide +kernel
theorem dX7_jump_69 : decode cX7_jump 69 = .ok (.iload_n 1, 1) := by decide +kernel
theorem dX7_jump_70 : decode cX7_jump 70 = .ok (.invokevirtual 41, 3) := by decide +kernel
theorem dX7_jump_73 : decode cX7_jump 73 = .ok (.ireturn, 1) := by decide +kernel
theorem dX7_draw_0 : decode cX7_draw 0 = .ok (.aload_n 0, 1) := by decide +kernel
theorem dX7_draw_1 : decode cX7_draw 1 = .ok (.aload_n 0, 1) := by decide +kernel
theorem dX7_draw_2 : decode cX7_draw 2 = .ok (.getfield 110, 3) := by decide +kernel
theorem dX7_draw_5 : decode cX7_draw 5 = .ok (.ldc2_w 114, 3) := by decide +kernel
theorem dX7_draw_8 : decode cX7_draw 8 = .ok (.lmul, 1) := by decide +kernel
theorem dX7_draw_9 : decode cX7_draw 9 = .ok (.ldc2_w 108, 3) := by decide +kernel
theorem dX7_draw_12 : decode cX7_draw 12 = .ok (.lrem, 1) := by decide +kernel
theorem dX7_draw_13 : decode cX7_draw 13 = .ok (.putfield 110, 3) := by decide +kernel
theorem dX7_draw_16 : decode cX7_draw 16 = .ok (.aload_n 0, 1) := by decide +kernel
theorem dX7_draw_17 : decode cX7_draw 17 = .ok (.getfield 110, 3) := by decide +kernel
theorem dX7_draw_20 : decode cX7_draw 20 = .ok (.iload_n 1, 1) := by decide +kernel
theorem dX7_draw_21 : decode cX7_draw 21 = .ok (.i2l, 1) := by decide +kernel
theorem dX7_draw_22 : decode cX7_draw 22 = .ok (.lrem, 1) := by decide +kernel
theorem dX7_draw_23 : decode cX7_draw 23 = .ok (.l2i, 1) := by decide +kernel
theorem dX7_draw_24 : decode cX7_draw 24 = .ok (.ireturn, 1) := by decide +kernel
set_option maxRecDepth 20000 in
theorem ggX7_drift_X7_in : GoodIn wsX7_drift wsX7_in := goodIn_r _ [8] (by decide +kernel) (by decide +kernel)
set_option maxRecDepth 20000 in
theorem gX7_drift_X7_in : GoodIn wsX7_drift (va_wsS RX7 31 yX7_in wsX7_in) := goodIn_app (goodIn_of _ (by decide +kernel)) ggX7_drift_X7_in
set_option maxRecDepth 20000 in
theorem ggX7_drift_X7_draw : GoodIn wsX7_drift wsX7_draw := goodIn_r _ [12, 4, 13, 14, 93, 94, 95, 96, 97, 98, 99, 100, 101, 102, 103, 104, 105, 106] (by decide +kernel) (by decide +kernel)
set_option maxRecDepth 20000 in
theorem gX7_drift_X7_draw : GoodIn wsX7_drift (wsV RX7 120 RX7 yX7_draw wsX7_draw) := goodIn_app (goodIn_of _ (by decide +kernel)) ggX7_drift_X7_draw
set_option maxRecDepth 20000 in
theorem ggX7_drift_X7_event : GoodIn wsX7_drift wsX7_event := goodIn_r _ [18, 19, 20, 3, 21, 22, 23, 24, 25, 26, 7, 27, 28, 5, 6, 8, 29, 30, 31, 32, 33, 34, 35, 36, 37, 38, 39, 40, 41, 42, 43, 44, 45, 46, 47, 48, 49, 50, 51, 52, 53, 54, 55, 56, 57, 58, 59, 60, 61, 62, 63, 64, 65, 66, 67, 68, 69, 70, 71, 72, 73, 74, 75, 76, 77, 78, 79, 80, 81, 82, 83, 84, 85, 86, 87, 88, 89, 90, 91, 92, 93, 94, 95, 96, 97, 98, 99, 100, 101, 102, 103, 104, 105, 106] (by decide +kernel) (by decide +kernel)
set_option maxRecDepth 20000 in
theorem gX7_drift_X7_event : GoodIn wsX7_drift (wsV RX7 123 RX7 yX7_event wsX7_event) := goodIn_app (goodIn_of _ (by decide +kernel)) ggX7_drift_X7_event
theorem dX7_drift_0 : decode cX7_drift 0 = .ok (.iload_n 1, 1) := by decide +kernel
theorem dX7_drift_1 : decode cX7_drift 1 = .ok (.i2l, 1) := by decide +kernel
theorem dX7_drift_2 : decode cX7_drift 2 = .ok (.lconst 1, 1) := by decide +kernel
theorem dX7_drift_3 : decode cX7_drift 3 = .ok (.ldc2_w 116, 3) := by decide +kernel
theorem dX7_drift_6 : decode cX7_drift 6 = .ok (.invokestatic 31, 3) := by decide +kernel
theorem dX7_drift_9 : decode cX7_drift 9 = .ok (.ifCond .eq 15, 3) := by decide +kernel
theorem dX7_drift_12 : decode cX7_drift 12 = .ok (.iload_n 2, 1) := by decide +kernel
theorem dX7_drift_13 : decode cX7_drift 13 = .ok (.i2l, 1) := by decide +kernel
theorem dX7_drift_14 : decode cX7_drift 14 = .ok (.lconst 1, 1) := by decide +kernel
theorem dX7_drift_15 : decode cX7_drift 15 = .ok (.ldc2_w 118, 3) := by decide +kernel
theorem dX7_drift_18 : decode cX7_drift 18 = .ok (.invokestatic 31, 3) := by decide +kernel
theorem dX7_drift_21 : decode cX7_drift 21 = .ok (.ifCond .ne 6, 3) := by decide +kernel
theorem dX7_drift_24 : decode cX7_drift 24 = .ok (.ldc 98, 2) := by decide +kernel
theorem dX7_drift_26 : decode cX7_drift 26 = .ok (.ireturn, 1) := by decide +kernel
theorem dX7_drift_27 : decode cX7_drift 27 = .ok (.aload_n 0, 1) := by decide +kernel
theorem dX7_drift_28 : decode cX7_drift 28 = .ok (.iload_n 2, 1) := by decide +kernel
theorem dX7_drift_29 : decode cX7_drift 29 = .ok (.i2l, 1) := by decide +kernel
theorem dX7_drift_30 : decode cX7_drift 30 = .ok (.putfield 110, 3) := by decide +kernel
theorem dX7_drift_33 : decode cX7_drift 33 = .ok (.iconst 0, 1) := by decide +kernel
theorem dX7_drift_34 : decode cX7_drift 34 = .ok (.istore_n 3, 1) := by decide +kernel
theorem dX7_drift_35 : decode cX7_drift 35 = .ok (.iconst 0, 1) := by decide +kernel
theorem dX7_drift_36 : decode cX7_drift 36 = .ok (.istore 4, 2) := by decide +kernel
theorem dX7_drift_38 : decode cX7_drift 38 = .ok (.iload 4, 2) := by decide +kernel
theorem dX7_drift_40 : decode cX7_drift 40 = .ok (.iload_n 1, 1) := by decide +kernel
theorem dX7_drift_41 : decode cX7_drift 41 = .ok (.if_icmp .ge 84, 3) := by decide +kernel
theorem dX7_drift_44 : decode cX7_drift 44 = .ok (.aload_n 0, 1) := by decide +kernel
theorem dX7_drift_45 : decode cX7_drift 45 = .ok (.iconst 4, 1) := by decide +kernel
theorem dX7_drift_46 : decode cX7_drift 46 = .ok (.invokevirtual 120, 3) := by decide +kernel
theorem dX7_drift_49 : decode cX7_drift 49 = .ok (.istore 5, 2) := by decide +kernel
theorem dX7_drift_51 : decode cX7_drift 51 = .ok (.aload_n 0, 1) := by decide +kernel
theorem dX7_drift_52 : decode cX7_drift 52 = .ok (.bipush 8, 2) := by decide +kernel
theorem dX7_drift_54 : decode cX7_drift 54 = .ok (.invokevirtual 120, 3) := by decide +kernel
theorem dX7_drift_57 : decode cX7_drift 57 = .ok (.istore 6, 2) := by decide +kernel
theorem dX7_drift_59 : decode cX7_drift 59 = .ok (.aload_n 0, 1) := by decide +kernel
theorem dX7_drift_60 : decode cX7_drift 60 = .ok (.iload 6, 2) := by decide +kernel
theorem dX7_drift_62 : decode cX7_drift 62 = .ok (.iconst 2, 1) := by decide +kernel
theorem dX7_drift_63 : decode cX7_drift 63 = .ok (.if_icmp .eq 9, 3) := by decide +kernel
theorem dX7_drift_66 : decode cX7_drift 66 = .ok (.iload 6, 2) := by decide +kernel
theorem dX7_drift_68 : decode cX7_drift 68 = .ok (.iconst 3, 1) := by decide +kernel
theorem dX7_drift_69 : decode cX7_drift 69 = .ok (.if_icmp .ne 7, 3) := by decide +kernel
theorem dX7_drift_72 : decode cX7_drift 72 = .ok (.iconst 3, 1) := by decide +kernel
theorem dX7_drift_73 : decode cX7_drift 73 = .ok (.goto 20, 3) := by decide +kernel
theorem dX7_drift_76 : decode cX7_drift 76 = .ok (.iload 6, 2) := by decide +kernel
theorem dX7_drift_78 : decode cX7_drift 78 = .ok (.iconst 4, 1) := by decide +kernel
theorem dX7_drift_79 : decode cX7_drift 79 = .ok (.if_icmp .eq 9, 3) := by decide +kernel
theorem dX7_drift_82 : decode cX7_drift 82 = .ok (.iload 6, 2) := by decide +kernel
theorem dX7_drift_84 : decode cX7_drift 84 = .ok (.iconst 5, 1) := by decide +kernel
theorem dX7_drift_85 : decode cX7_drift 85 = .ok (.if_icmp .ne 7, 3) := by decide +kernel
theorem dX7_drift_88 : decode cX7_drift 88 = .ok (.iconst 2, 1) := by decide +kernel
theorem dX7_drift_89 : decode cX7_drift 89 = .ok (.goto 4, 3) := by decide +kernel
theorem dX7_drift_92 : decode cX7_drift 92 = .ok (.iconst 4, 1) := by decide +kernel
theorem dX7_drift_93 : decode cX7_drift 93 = .ok (.invokevirtual 120, 3) := by decide +kernel
theorem dX7_drift_96 : decode cX7_drift 96 = .ok (.istore 7, 2) := by decide +kernel
theorem dX7_drift_98 : decode cX7_drift 98 = .ok (.iload_n 3, 1) := by decide +kernel
theorem dX7_drift_99 : decode cX7_drift 99 = .ok (.aload_n 0, 1) := by decide +kernel
theorem dX7_drift_100 : decode cX7_drift 100 = .ok (.iload 5, 2) := by decide +kernel
theorem dX7_drift_102 : decode cX7_drift 102 = .ok (.iload 6, 2) := by decide +kernel
theorem dX7_drift_104 : decode cX7_drift 104 = .ok (.iload 7, 2) := by decide +kernel
theorem dX7_drift_106 : decode cX7_drift 106 = .ok (.invokevirtual 123, 3) := by decide +kernel
theorem dX7_drift_109 : decode cX7_drift 109 = .ok (.ifCond .lt 7, 3) := by decide +kernel
theorem dX7_drift_112 : decode cX7_drift 112 = .ok (.iconst 1, 1) := by decide +kernel
theorem dX7_drift_113 : decode cX7_drift 113 = .ok (.goto 4, 3) := by decide +kernel
theorem dX7_drift_116 : decode cX7_drift 116 = .ok (.iconst 0, 1) := by decide +kernel
theorem dX7_drift_117 : decode cX7_drift 117 = .ok (.iadd, 1) := by decide +kernel
theorem dX7_drift_118 : decode cX7_drift 118 = .ok (.istore_n 3, 1) := by decide +kernel
theorem dX7_drift_119 : decode cX7_drift 119 = .ok (.iinc 4 1, 3) := by decide +kernel
theorem dX7_drift_122 : decode cX7_drift 122 = .ok (.goto (-84), 3) := by decide +kernel
theorem dX7_drift_125 : decode cX7_drift 125 = .ok (.iload_n 3, 1) := by decide +kernel
theorem dX7_drift_126 : decode cX7_drift 126 = .ok (.ireturn, 1) := by decide +kernel
set_option maxRecDepth 20000 in
theorem ggX7_feed_X7_in : GoodIn wsX7_feed wsX7_in := goodIn_r _ [8] (by decide +kernel) (by decide +kernel)
set_option maxRecDepth 20000 in
theorem gX7_feed_X7_in : GoodIn wsX7_feed (va_wsS RX7 31 yX7_in wsX7_in) := goodIn_app (goodIn_of _ (by decide +kernel)) ggX7_feed_X7_in
theorem dX7_feed_0 : decode cX7_feed 0 = .ok (.iload_n 1, 1) := by decide +kernel
theorem dX7_feed_1 : decode cX7_feed 1 = .ok (.i2l, 1) := by decide +kernel
theorem dX7_feed_2 : decode cX7_feed 2 = .ok (.lconst 0, 1) := by decide +kernel
theorem dX7_feed_3 : decode cX7_feed 3 = .ok (.ldc2_w 127, 3) := by decide +kernel
theorem dX7_feed_6 : decode cX7_feed 6 = .ok (.invokestatic 31, 3) := by decide +kernel
theorem dX7_feed_9 : decode cX7_feed 9 = .ok (.ifCond .ne 6, 3) := by decide +kernel
theorem dX7_feed_12 : decode cX7_feed 12 = .ok (.ldc 98, 2) := by decide +kernel
theorem dX7_feed_14 : decode cX7_feed 14 = .ok (.ireturn, 1) := by decide +kernel
theorem dX7_feed_15 : decode cX7_feed 15 = .ok (.aload_n 0, 1) := by decide +kernel
theorem dX7_feed_16 : decode cX7_feed 16 = .ok (.getfield 7, 3) := by decide +kernel
theorem dX7_feed_19 : decode cX7_feed 19 = .ok (.sipush 1372, 3) := by decide +kernel
theorem dX7_feed_22 : decode cX7_feed 22 = .ok (.iaload, 1) := by decide +kernel
theorem dX7_feed_23 : decode cX7_feed 23 = .ok (.sipush 240, 3) := by decide +kernel
theorem dX7_feed_26 : decode cX7_feed 26 = .ok (.if_icmp .ne 6, 3) := by decide +kernel
theorem dX7_feed_29 : decode cX7_feed 29 = .ok (.ldc 103, 2) := by decide +kernel
theorem dX7_feed_31 : decode cX7_feed 31 = .ok (.ireturn, 1) := by decide +kernel
theorem dX7_feed_32 : decode cX7_feed 32 = .ok (.aload_n 0, 1) := by decide +kernel
theorem dX7_feed_33 : decode cX7_feed 33 = .ok (.getfield 7, 3) := by decide +kernel
theorem dX7_feed_36 : decode cX7_feed 36 = .ok (.sipush 1373, 3) := by decide +kernel
theorem dX7_feed_39 : decode cX7_feed 39 = .ok (.aload_n 0, 1) := by decide +kernel
theorem dX7_feed_40 : decode cX7_feed 40 = .ok (.getfield 7, 3) := by decide +kernel
theorem dX7_feed_43 : decode cX7_feed 43 = .ok (.sipush 1372, 3) := by decide +kernel
theorem dX7_feed_46 : decode cX7_feed 46 = .ok (.iaload, 1) := by decide +kernel
theorem dX7_feed_47 : decode cX7_feed 47 = .ok (.iadd, 1) := by decide +kernel
theorem dX7_feed_48 : decode cX7_feed 48 = .ok (.iload_n 1, 1) := by decide +kernel
theorem dX7_feed_49 : decode cX7_feed 49 = .ok (.iastore, 1) := by decide +kernel
theorem dX7_feed_50 : decode cX7_feed 50 = .ok (.aload_n 0, 1) := by decide +kernel
theorem dX7_feed_51 : decode cX7_feed 51 = .ok (.getfield 7, 3) := by decide +kernel
theorem dX7_feed_54 : decode cX7_feed 54 = .ok (.sipush 1372, 3) := by decide +kernel
theorem dX7_feed_57 : decode cX7_feed 57 = .ok (.dup2, 1) := by decide +kernel
theorem dX7_feed_58 : decode cX7_feed 58 = .ok (.iaload, 1) := by decide +kernel
theorem dX7_feed_59 : decode cX7_feed 59 = .ok (.iconst 1, 1) := by decide +kernel
theorem dX7_feed_60 : decode cX7_feed 60 = .ok (.iadd, 1) := by decide +kernel
theorem dX7_feed_61 : decode cX7_feed 61 = .ok (.iastore, 1) := by decide +kernel
theorem dX7_feed_62 : decode cX7_feed 62 = .ok (.aload_n 0, 1) := by decide +kernel
theorem dX7_feed_63 : decode cX7_feed 63 = .ok (.getfield 7, 3) := by decide +kernel
theorem dX7_feed_66 : decode cX7_feed 66 = .ok (.sipush 1372, 3) := by decide +kernel
theorem dX7_feed_69 : decode cX7_feed 69 = .ok (.iaload, 1) := by decide +kernel
theorem dX7_feed_70 : decode cX7_feed 70 = .ok (.ireturn, 1) := by decide +kernel
theorem dX7_notes_0 : decode cX7_notes 0 = .ok (.aload_n 0, 1) := by decide +kernel
theorem dX7_notes_1 : decode cX7_notes 1 = .ok (.getfield 129, 3) := by decide +kernel
theorem dX7_notes_4 : decode cX7_notes 4 = .ok (.bipush 24, 2) := by decide +kernel
theorem dX7_notes_6 : decode cX7_notes 6 = .ok (.if_icmp .ne 41, 3) := by decide +kernel
theorem dX7_notes_9 : decode cX7_notes 9 = .ok (.iconst 1, 1) := by decide +kernel
theorem dX7_notes_10 : decode cX7_notes 10 = .ok (.istore_n 3, 1) := by decide +kernel
theorem dX7_notes_11 : decode cX7_notes 11 = .ok (.iload_n 3, 1) := by decide +kernel
theorem dX7_notes_12 : decode cX7_notes 12 = .ok (.bipush 24, 2) := by decide +kernel
theorem dX7_notes_14 : decode cX7_notes 14 = .ok (.if_icmp .ge 23, 3) := by decide +kernel
theorem dX7_notes_17 : decode cX7_notes 17 = .ok (.aload_n 0, 1) := by decide +kernel
theorem dX7_notes_18 : decode cX7_notes 18 = .ok (.getfield 17, 3) := by decide +kernel
theorem dX7_notes_21 : decode cX7_notes 21 = .ok (.iload_n 3, 1) := by decide +kernel
theorem dX7_notes_22 : decode cX7_notes 22 = .ok (.iconst 1, 1) := by decide +kernel
theorem dX7_notes_23 : decode cX7_notes 23 = .ok (.isub, 1) := by decide +kernel
theorem dX7_notes_24 : decode cX7_notes 24 = .ok (.aload_n 0, 1) := by decide +kernel
theorem dX7_notes_25 : decode cX7_notes 25 = .ok (.getfield 17, 3) := by decide +kernel
theorem dX7_notes_28 : decode cX7_notes 28 = .ok (.iload_n 3, 1) := by decide +kernel
theorem dX7_notes_29 : decode cX7_notes 29 = .ok (.iaload, 1) := by decide +kernel
theorem dX7_notes_30 : decode cX7_notes 30 = .ok (.iastore, 1) := by decide +kernel
theorem dX7_notes_31 : decode cX7_notes 31 = .ok (.iinc 3 1, 3) := by decide +kernel
theorem dX7_notes_34 : decode cX7_notes 34 = .ok (.goto (-23), 3) := by decide +kernel
theorem dX7_notes_37 : decode cX7_notes 37 = .ok (.aload_n 0, 1) := by decide +kernel
theorem dX7_notes_38 : decode cX7_notes 38 = .ok (.dup, 1) := by decide +kernel
theorem dX7_notes_39 : decode cX7_notes 39 = .ok (.getfield 129, 3) := by decide +kernel
theorem dX7_notes_42 : decode cX7_notes 42 = .ok (.iconst 1, 1) := by decide +kernel
theorem dX7_notes_43 : decode cX7_notes 43 = .ok (.isub, 1) := by decide +kernel
theorem dX7_notes_44 : decode cX7_notes 44 = .ok (.putfield 129, 3) := by decide +kernel
theorem dX7_notes_47 : decode cX7_notes 47 = .ok (.aload_n 0, 1) := by decide +kernel
theorem dX7_notes_48 : decode cX7_notes 48 = .ok (.getfield 17, 3) := by decide +kernel
theorem dX7_notes_51 : decode cX7_notes 51 = .ok (.aload_n 0, 1) := by decide +kernel
theorem dX7_notes_52 : decode cX7_notes 52 = .ok (.getfield 129, 3) := by decide +kernel
theorem dX7_notes_55 : decode cX7_notes 55 = .ok (.iconst 2, 1) := by decide +kernel
theorem dX7_notes_56 : decode cX7_notes 56 = .ok (.iload_n 1, 1) := by decide +kernel
theorem dX7_notes_57 : decode cX7_notes 57 = .ok (.imul, 1) := by decide +kernel
theorem dX7_notes_58 : decode cX7_notes 58 = .ok (.iload_n 2, 1) := by decide +kernel
theorem dX7_notes_59 : decode cX7_notes 59 = .ok (.iadd, 1) := by decide +kernel
theorem dX7_notes_60 : decode cX7_notes 60 = .ok (.iastore, 1) := by decide +kernel
theorem dX7_notes_61 : decode cX7_notes 61 = .ok (.aload_n 0, 1) := by decide +kernel
theorem dX7_notes_62 : decode cX7_notes 62 = .ok (.dup, 1) := by decide +kernel
theorem dX7_notes_63 : decode cX7_notes 63 = .ok (.getfield 129, 3) := by decide +kernel
theorem dX7_notes_66 : decode cX7_notes 66 = .ok (.iconst 1, 1) := by decide +kernel
theorem dX7_notes_67 : decode cX7_notes 67 = .ok (.iadd, 1) := by decide +kernel
theorem dX7_notes_68 : decode cX7_notes 68 = .ok (.putfield 129, 3) := by decide +kernel
theorem dX7_notes_71 : decode cX7_notes 71 = .ok (.return_, 1) := by decide +kernel
theorem dX7_here_0 : decode cX7_here 0 = .ok (.aload_n 0, 1) := by decide +kernel
theorem dX7_here_1 : decode cX7_here 1 = .ok (.getfield 133, 3) := by decide +kernel
theorem dX7_here_4 : decode cX7_here 4 = .ok (.aload_n 0, 1) := by decide +kernel
theorem dX7_here_5 : decode cX7_here 5 = .ok (.getfield 7, 3) := by decide +kernel
theorem dX7_here_8 : decode cX7_here 8 = .ok (.sipush 1372, 3) := by decide +kernel
theorem dX7_here_11 : decode cX7_here 11 = .ok (.iaload, 1) := by decide +kernel
theorem dX7_here_12 : decode cX7_here 12 = .ok (.if_icmp .ge 34, 3) := by decide +kernel
theorem dX7_here_15 : decode cX7_here 15 = .ok (.aload_n 0, 1) := by decide +kernel
theorem dX7_here_16 : decode cX7_here 16 = .ok (.getfield 7, 3) := by decide +kernel
theorem dX7_here_19 : decode cX7_here 19 = .ok (.sipush 1373, 3) := by decide +kernel
theorem dX7_here_22 : decode cX7_here 22 = .ok (.aload_n 0, 1) := by decide +kernel
theorem dX7_here_23 : decode cX7_here 23 = .ok (.getfield 133, 3) := by decide +kernel
theorem dX7_here_26 : decode cX7_here 26 = .ok (.iadd, 1) := by decide +kernel
theorem dX7_here_27 : decode cX7_here 27 = .ok (.iaload, 1) := by decide +kernel
theorem dX7_here_28 : decode cX7_here 28 = .ok (.bipush 32, 2) := by decide +kernel
theorem dX7_here_30 : decode cX7_here 30 = .ok (.if_icmp .ne 16, 3) := by decide +kernel
theorem dX7_here_33 : decode cX7_here 33 = .ok (.aload_n 0, 1) := by decide +kernel
theorem dX7_here_34 : decode cX7_here 34 = .ok (.dup, 1) := by decide +kernel
theorem dX7_here_35 : decode cX7_here 35 = .ok (.getfield 133, 3) := by decide +kernel
theorem dX7_here_38 : decode cX7_here 38 = .ok (.iconst 1, 1) := by decide +kernel
theorem dX7_here_39 : decode cX7_here 39 = .ok (.iadd, 1) := by decide +kernel
theorem dX7_here_40 : decode cX7_here 40 = .ok (.putfield 133, 3) := by decide +kernel
theorem dX7_here_43 : decode cX7_here 43 = .ok (.goto (-43), 3) := by decide +kernel
theorem dX7_here_46 : decode cX7_here 46 = .ok (.aload_n 0, 1) := by decide +kernel
theorem dX7_here_47 : decode cX7_here 47 = .ok (.getfield 133, 3) := by decide +kernel
theorem dX7_here_50 : decode cX7_here 50 = .ok (.aload_n 0, 1) := by decide +kernel
theorem dX7_here_51 : decode cX7_here 51 = .ok (.getfield 7, 3) := by decide +kernel
theorem dX7_here_54 : decode cX7_here 54 = .ok (.sipush 1372, 3) := by decide +kernel
theorem dX7_here_57 : decode cX7_here 57 = .ok (.iaload, 1) := by decide +kernel
theorem dX7_here_58 : decode cX7_here 58 = .ok (.if_icmp .ge 19, 3) := by decide +kernel
theorem dX7_here_61 : decode cX7_here 61 = .ok (.aload_n 0, 1) := by decide +kernel
theorem dX7_here_62 : decode cX7_here 62 = .ok (.getfield 7, 3) := by decide +kernel
theorem dX7_here_65 : decode cX7_here 65 = .ok (.sipush 1373, 3) := by decide +kernel
theorem dX7_here_68 : decode cX7_here 68 = .ok (.aload_n 0, 1) := by decide +kernel
theorem dX7_here_69 : decode cX7_here 69 = .ok (.getfield 133, 3) := by decide +kernel
theorem dX7_here_72 : decode cX7_here 72 = .ok (.iadd, 1) := by decide +kernel
theorem dX7_here_73 : decode cX7_here 73 = .ok (.iaload, 1) := by decide +kernel
theorem dX7_here_74 : decode cX7_here 74 = .ok (.goto 4, 3) := by decide +kernel
theorem dX7_here_77 : decode cX7_here 77 = .ok (.iconst (-1), 1) := by decide +kernel
theorem dX7_here_78 : decode cX7_here 78 = .ok (.ireturn, 1) := by decide +kernel
theorem dX7_fails_0 : decode cX7_fails 0 = .ok (.aload_n 0, 1) := by decide +kernel
theorem dX7_fails_1 : decode cX7_fails 1 = .ok (.iload_n 1, 1) := by decide +kernel
theorem dX7_fails_2 : decode cX7_fails 2 = .ok (.putfield 136, 3) := by decide +kernel
theorem dX7_fails_5 : decode cX7_fails 5 = .ok (.aload_n 0, 1) := by decide +kernel
theorem dX7_fails_6 : decode cX7_fails 6 = .ok (.aload_n 0, 1) := by decide +kernel
theorem dX7_fails_7 : decode cX7_fails 7 = .ok (.getfield 133, 3) := by decide +kernel
theorem dX7_fails_10 : decode cX7_fails 10 = .ok (.putfield 139, 3) := by decide +kernel
theorem dX7_fails_13 : decode cX7_fails 13 = .ok (.iconst 0, 1) := by decide +kernel
theorem dX7_fails_14 : decode cX7_fails 14 = .ok (.ireturn, 1) := by decide +kernel
set_option maxRecDepth 20000 in
theorem ggX7_takesFigure_X7_here : GoodIn wsX7_takesFigure wsX7_here := goodIn_r _ [8, 9, 10, 20, 21, 22, 23, 24, 25, 26, 27, 28, 29, 30, 31, 32, 33] (by decide +kernel) (by decide +kernel)
set_option maxRecDepth 20000 in
theorem gX7_takesFigure_X7_here : GoodIn wsX7_takesFigure (wsV RX7 142 RX7 yX7_here wsX7_here) := goodIn_app (goodIn_of _ (by decide +kernel)) ggX7_takesFigure_X7_here
set_option maxRecDepth 20000 in
theorem ggX7_takesFigure_X7_in : GoodIn wsX7_takesFigure wsX7_in := goodIn_r _ [13] (by decide +kernel) (by decide +kernel)
set_option maxRecDepth 20000 in
theorem gX7_takesFigure_X7_in : GoodIn wsX7_takesFigure (va_wsS RX7 31 yX7_in wsX7_in) := goodIn_app (goodIn_of _ (by decide +kernel)) ggX7_takesFigure_X7_in
set_option maxRecDepth 20000 in
theorem ggX7_takesFigure_X7_fails : GoodIn wsX7_takesFigure wsX7_fails := goodIn_r _ [17, 18, 9, 19, 20, 21, 22, 23, 24, 25, 26, 27, 28, 29, 30, 31, 32, 33] (by decide +kernel) (by decide +kernel)
set_option maxRecDepth 20000 in
theorem gX7_takesFigure_X7_fails : GoodIn wsX7_takesFigure (wsV RX7 150 RX7 yX7_fails wsX7_fails) := goodIn_app (goodIn_of _ (by decide +kernel)) ggX7_takesFigure_X7_fails
theorem dX7_takesFigure_0 : decode cX7_takesFigure 0 = .ok (.aload_n 0, 1) := by decide +kernel
theorem dX7_takesFigure_1 : decode cX7_takesFigure 1 = .ok (.invokevirtual 142, 3) := by decide +kernel
theorem dX7_takesFigure_4 : decode cX7_takesFigure 4 = .ok (.istore_n 2, 1) := by decide +kernel
theorem dX7_takesFigure_5 : decode cX7_takesFigure 5 = .ok (.iload_n 2, 1) := by decide +kernel
theorem dX7_takesFigure_6 : decode cX7_takesFigure 6 = .ok (.i2l, 1) := by decide +kernel
theorem dX7_takesFigure_7 : decode cX7_takesFigure 7 = .ok (.ldc2_w 146, 3) := by decide +kernel
theorem dX7_takesFigure_10 : decode cX7_takesFigure 10 = .ok (.ldc2_w 148, 3) := by decide +kernel
theorem dX7_takesFigure_13 : decode cX7_takesFigure 13 = .ok (.invokestatic 31, 3) := by decide +kernel
theorem dX7_takesFigure_16 : decode cX7_takesFigure 16 = .ok (.ifCond .ne 9, 3) := by decide +kernel
theorem dX7_takesFigure_19 : decode cX7_takesFigure 19 = .ok (.aload_n 0, 1) := by decide +kernel
theorem dX7_takesFigure_20 : decode cX7_takesFigure 20 = .ok (.iconst 1, 1) := by decide +kernel
theorem dX7_takesFigure_21 : decode cX7_takesFigure 21 = .ok (.invokevirtual 150, 3) := by decide +kernel
theorem dX7_takesFigure_24 : decode cX7_takesFigure 24 = .ok (.ireturn, 1) := by decide +kernel
theorem dX7_takesFigure_25 : decode cX7_takesFigure 25 = .ok (.aload_n 0, 1) := by decide +kernel
theorem dX7_takesFigure_26 : decode cX7_takesFigure 26 = .ok (.iload_n 2, 1) := by decide +kernel
theorem dX7_takesFigure_27 : decode cX7_takesFigure 27 = .ok (.bipush 48, 2) := by decide +kernel
theorem dX7_takesFigure_29 : decode cX7_takesFigure 29 = .ok (.isub, 1) := by decide +kernel
theorem dX7_takesFigure_30 : decode cX7_takesFigure 30 = .ok (.putfield 153, 3) := by decide +kernel
theorem dX7_takesFigure_33 : decode cX7_takesFigure 33 = .ok (.aload_n 0, 1) := by decide +kernel
theorem dX7_takesFigure_34 : decode cX7_takesFigure 34 = .ok (.getfield 153, 3) := by decide +kernel
theorem dX7_takesFigure_37 : decode cX7_takesFigure 37 = .ok (.iload_n 1, 1) := by decide +kernel
theorem dX7_takesFigure_38 : decode cX7_takesFigure 38 = .ok (.if_icmp .le 11, 3) := by decide +kernel
theorem dX7_takesFigure_41 : decode cX7_takesFigure 41 = .ok (.aload_n 0, 1) := by decide +kernel
theorem dX7_takesFigure_42 : decode cX7_takesFigure 42 = .ok (.iconst 2, 1) := by decide +kernel
theorem dX7_takesFigure_43 : decode cX7_takesFigure 43 = .ok (.invokevirtual 150, 3) := by decide +kernel
theorem dX7_takesFigure_46 : decode cX7_takesFigure 46 = .ok (.ifCond .eq 7, 3) := by decide +kernel
theorem dX7_takesFigure_49 : decode cX7_takesFigure 49 = .ok (.iconst 1, 1) := by decide +kernel
theorem dX7_takesFigure_50 : decode cX7_takesFigure 50 = .ok (.goto 4, 3) := by decide +kernel
theorem dX7_takesFigure_53 : decode cX7_takesFigure 53 = .ok (.iconst 0, 1) := by decide +kernel
theorem dX7_takesFigure_54 : decode cX7_takesFigure 54 = .ok (.ireturn, 1) := by decide +kernel
set_option maxRecDepth 20000 in
theorem ggX7_takes_X7_here : GoodIn wsX7_takes wsX7_here := goodIn_r _ [6, 1, 7, 14, 15, 16, 17, 18, 19, 20, 21, 22, 23, 24, 25, 26, 27] (by decide +kernel) (by decide +kernel)
set_option maxRecDepth 20000 in
theorem gX7_takes_X7_here : GoodIn wsX7_takes (wsV RX7 142 RX7 yX7_here wsX7_here) := goodIn_app (goodIn_of _ (by decide +kernel)) ggX7_takes_X7_here
set_option maxRecDepth 20000 in
theorem ggX7_takes_X7_fails : GoodIn wsX7_takes wsX7_fails := goodIn_r _ [11, 12, 1, 13, 14, 15, 16, 17, 18, 19, 20, 21, 22, 23, 24, 25, 26, 27] (by decide +kernel) (by decide +kernel)
set_option maxRecDepth 20000 in
theorem gX7_takes_X7_fails : GoodIn wsX7_takes (wsV RX7 150 RX7 yX7_fails wsX7_fails) := goodIn_app (goodIn_of _ (by decide +kernel)) ggX7_takes_X7_fails
theorem dX7_takes_0 : decode cX7_takes 0 = .ok (.aload_n 0, 1) := by decide +kernel
theorem dX7_takes_1 : decode cX7_takes 1 = .ok (.invokevirtual 142, 3) := by decide +kernel
theorem dX7_takes_4 : decode cX7_takes 4 = .ok (.iload_n 1, 1) := by decide +kernel
theorem dX7_takes_5 : decode cX7_takes 5 = .ok (.if_icmp .eq 9, 3) := by decide +kernel
theorem dX7_takes_8 : decode cX7_takes 8 = .ok (.aload_n 0, 1) := by decide +kernel
theorem dX7_takes_9 : decode cX7_takes 9 = .ok (.iconst 1, 1) := by decide +kernel
theorem dX7_takes_10 : decode cX7_takes 10 = .ok (.invokevirtual 150, 3) := by decide +kernel
theorem dX7_takes_13 : decode cX7_takes 13 = .ok (.ireturn, 1) := by decide +kernel
theorem dX7_takes_14 : decode cX7_takes 14 = .ok (.aload_n 0, 1) := by decide +kernel
theorem dX7_takes_15 : decode cX7_takes 15 = .ok (.dup, 1) := by decide +kernel
theorem dX7_takes_16 : decode cX7_takes 16 = .ok (.getfield 133, 3) := by decide +kernel
theorem dX7_takes_19 : decode cX7_takes 19 = .ok (.iconst 1, 1) := by decide +kernel
theorem dX7_takes_20 : decode cX7_takes 20 = .ok (.iadd, 1) := by decide +kernel
theorem dX7_takes_21 : decode cX7_takes 21 = .ok (.putfield 133, 3) := by decide +kernel
theorem dX7_takes_24 : decode cX7_takes 24 = .ok (.iconst 1, 1) := by decide +kernel
theorem dX7_takes_25 : decode cX7_takes 25 = .ok (.ireturn, 1) := by decide +kernel
set_option maxRecDepth 20000 in
theorem ggX7_did_X7_fails : GoodIn wsX7_did wsX7_fails := goodIn_r _ [10, 11, 5, 12, 84, 85, 86, 87, 88, 89, 90, 91, 92, 93, 94, 95, 96, 97] (by decide +kernel) (by decide +kernel)
set_option maxRecDepth 20000 in
theorem gX7_did_X7_fails : GoodIn wsX7_did (wsV RX7 150 RX7 yX7_fails wsX7_fails) := goodIn_app (goodIn_of _ (by decide +kernel)) ggX7_did_X7_fails
set_option maxRecDepth 20000 in
theorem ggX7_did_X7_isWith : GoodIn wsX7_did wsX7_isWith := goodIn_r _ [15, 16, 17, 9, 18, 19, 20, 21, 22, 23, 24, 25, 26, 27, 28, 29, 30, 31, 32] (by decide +kernel) (by decide +kernel)
set_option maxRecDepth 20000 in
theorem gX7_did_X7_isWith : GoodIn wsX7_did (va_wsS RX7 93 yX7_isWith wsX7_isWith) := goodIn_app (goodIn_of _ (by decide +kernel)) ggX7_did_X7_isWith
set_option maxRecDepth 20000 in
theorem ggX7_did_X7_can : GoodIn wsX7_did wsX7_can := goodIn_r _ [36, 1, 37, 38, 39, 9, 40, 84, 85, 86, 87, 88, 89, 90, 91, 92, 93, 94, 95, 96, 97] (by decide +kernel) (by decide +kernel)
set_option maxRecDepth 20000 in
theorem gX7_did_X7_can : GoodIn wsX7_did (wsV RX7 99 RX7 yX7_can wsX7_can) := goodIn_app (goodIn_of _ (by decide +kernel)) ggX7_did_X7_can
set_option maxRecDepth 20000 in
theorem ggX7_did_X7_hasStep : GoodIn wsX7_did wsX7_hasStep := goodIn_r _ [43] (by decide +kernel) (by decide +kernel)
set_option maxRecDepth 20000 in
theorem gX7_did_X7_hasStep : GoodIn wsX7_did (va_wsS RX7 81 yX7_hasStep wsX7_hasStep) := goodIn_app (goodIn_of _ (by decide +kernel)) ggX7_did_X7_hasStep
set_option maxRecDepth 20000 in
theorem ggX7_did_X7_isMuch : GoodIn wsX7_did wsX7_isMuch := goodIn_r _ [47, 48, 49, 50, 51, 9, 52, 1, 84, 85, 86, 87, 88, 89, 90, 91, 92, 93, 94, 95, 96, 97] (by decide +kernel) (by decide +kernel)
set_option maxRecDepth 20000 in
theorem gX7_did_X7_isMuch : GoodIn wsX7_did (wsV RX7 84 RX7 yX7_isMuch wsX7_isMuch) := goodIn_app (goodIn_of _ (by decide +kernel)) ggX7_did_X7_isMuch
set_option maxRecDepth 20000 in
theorem ggX7_did_X7_comes : GoodIn wsX7_did wsX7_comes := goodIn_r _ [56, 1, 57, 58, 59, 9, 60, 61, 62, 63, 64, 65, 66, 67, 49, 50, 51, 52, 68, 69, 70, 71, 72, 73, 74, 75, 76, 77, 78, 79, 37, 38, 39, 40, 41, 42, 43, 44, 45, 46, 47, 48, 80, 81, 82, 83, 84, 85, 86, 87, 88, 89, 90, 91, 92, 93, 94, 95, 96, 97] (by decide +kernel) (by decide +kernel)
set_option maxRecDepth 20000 in
theorem gX7_did_X7_comes : GoodIn wsX7_did (wsV RX7 105 RX7 yX7_comes wsX7_comes) := goodIn_app (goodIn_of _ (by decide +kernel)) ggX7_did_X7_comes
theorem dX7_did_0 : decode cX7_did 0 = .ok (.iload_n 1, 1) := by decide +kernel
theorem dX7_did_1 : decode cX7_did 1 = .ok (.iconst 2, 1) := by decide +kernel
theorem dX7_did_2 : decode cX7_did 2 = .ok (.if_icmp .ne 7, 3) := by decide +kernel
theorem dX7_did_5 : decode cX7_did 5 = .ok (.iconst 2, 1) := by decide +kernel
theorem dX7_did_6 : decode cX7_did 6 = .ok (.goto 4, 3) := by decide +kernel
theorem dX7_did_9 : decode cX7_did 9 = .ok (.iconst 1, 1) := by decide +kernel
theorem dX7_did_10 : decode cX7_did 10 = .ok (.istore_n 2, 1) := by decide +kernel
theorem dX7_did_11 : decode cX7_did 11 = .ok (.aload_n 0, 1) := by decide +kernel
theorem dX7_did_12 : decode cX7_did 12 = .ok (.getfield 7, 3) := by decide +kernel
theorem dX7_did_15 : decode cX7_did 15 = .ok (.bipush 91, 2) := by decide +kernel
theorem dX7_did_17 : decode cX7_did 17 = .ok (.iaload, 1) := by decide +kernel
theorem dX7_did_18 : decode cX7_did 18 = .ok (.iload_n 2, 1) := by decide +kernel
theorem dX7_did_19 : decode cX7_did 19 = .ok (.iadd, 1) := by decide +kernel
theorem dX7_did_20 : decode cX7_did 20 = .ok (.aload_n 0, 1) := by decide +kernel
theorem dX7_did_21 : decode cX7_did 21 = .ok (.getfield 156, 3) := by decide +kernel
theorem dX7_did_24 : decode cX7_did 24 = .ok (.iadd, 1) := by decide +kernel
theorem dX7_did_25 : decode cX7_did 25 = .ok (.sipush 160, 3) := by decide +kernel
theorem dX7_did_28 : decode cX7_did 28 = .ok (.if_icmp .le 9, 3) := by decide +kernel
theorem dX7_did_31 : decode cX7_did 31 = .ok (.aload_n 0, 1) := by decide +kernel
theorem dX7_did_32 : decode cX7_did 32 = .ok (.iconst 3, 1) := by decide +kernel
theorem dX7_did_33 : decode cX7_did 33 = .ok (.invokevirtual 150, 3) := by decide +kernel
theorem dX7_did_36 : decode cX7_did 36 = .ok (.ireturn, 1) := by decide +kernel
theorem dX7_did_37 : decode cX7_did 37 = .ok (.aload_n 0, 1) := by decide +kernel
theorem dX7_did_38 : decode cX7_did 38 = .ok (.getfield 159, 3) := by decide +kernel
theorem dX7_did_41 : decode cX7_did 41 = .ok (.iload_n 1, 1) := by decide +kernel
theorem dX7_did_42 : decode cX7_did 42 = .ok (.aload_n 0, 1) := by decide +kernel
theorem dX7_did_43 : decode cX7_did 43 = .ok (.getfield 153, 3) := by decide +kernel
theorem dX7_did_46 : decode cX7_did 46 = .ok (.invokestatic 93, 3) := by decide +kernel
theorem dX7_did_49 : decode cX7_did 49 = .ok (.ifCond .eq 37, 3) := by decide +kernel
theorem dX7_did_52 : decode cX7_did 52 = .ok (.aload_n 0, 1) := by decide +kernel
theorem dX7_did_53 : decode cX7_did 53 = .ok (.aload_n 0, 1) := by decide +kernel
theorem dX7_did_54 : decode cX7_did 54 = .ok (.getfield 159, 3) := by decide +kernel
theorem dX7_did_57 : decode cX7_did 57 = .ok (.iload_n 1, 1) := by decide +kernel
theorem dX7_did_58 : decode cX7_did 58 = .ok (.aload_n 0, 1) := by decide +kernel
theorem dX7_did_59 : decode cX7_did 59 = .ok (.getfield 153, 3) := by decide +kernel
theorem dX7_did_62 : decode cX7_did 62 = .ok (.invokevirtual 99, 3) := by decide +kernel
theorem dX7_did_65 : decode cX7_did 65 = .ok (.ifCond .eq 21, 3) := by decide +kernel
theorem dX7_did_68 : decode cX7_did 68 = .ok (.iload_n 1, 1) := by decide +kernel
theorem dX7_did_69 : decode cX7_did 69 = .ok (.invokestatic 81, 3) := by decide +kernel
theorem dX7_did_72 : decode cX7_did 72 = .ok (.ifCond .eq 20, 3) := by decide +kernel
theorem dX7_did_75 : decode cX7_did 75 = .ok (.aload_n 0, 1) := by decide +kernel
theorem dX7_did_76 : decode cX7_did 76 = .ok (.aload_n 0, 1) := by decide +kernel
theorem dX7_did_77 : decode cX7_did 77 = .ok (.getfield 159, 3) := by decide +kernel
theorem dX7_did_80 : decode cX7_did 80 = .ok (.invokevirtual 84, 3) := by decide +kernel
theorem dX7_did_83 : decode cX7_did 83 = .ok (.ifCond .eq 9, 3) := by decide +kernel
theorem dX7_did_86 : decode cX7_did 86 = .ok (.aload_n 0, 1) := by decide +kernel
theorem dX7_did_87 : decode cX7_did 87 = .ok (.iconst 4, 1) := by decide +kernel
theorem dX7_did_88 : decode cX7_did 88 = .ok (.invokevirtual 150, 3) := by decide +kernel
theorem dX7_did_91 : decode cX7_did 91 = .ok (.ireturn, 1) := by decide +kernel
theorem dX7_did_92 : decode cX7_did 92 = .ok (.aload_n 0, 1) := by decide +kernel
theorem dX7_did_93 : decode cX7_did 93 = .ok (.aload_n 0, 1) := by decide +kernel
theorem dX7_did_94 : decode cX7_did 94 = .ok (.getfield 159, 3) := by decide +kernel
theorem dX7_did_97 : decode cX7_did 97 = .ok (.iload_n 1, 1) := by decide +kernel
theorem dX7_did_98 : decode cX7_did 98 = .ok (.aload_n 0, 1) := by decide +kernel
theorem dX7_did_99 : decode cX7_did 99 = .ok (.getfield 153, 3) := by decide +kernel
theorem dX7_did_102 : decode cX7_did 102 = .ok (.invokevirtual 105, 3) := by decide +kernel
theorem dX7_did_105 : decode cX7_did 105 = .ok (.aload_n 0, 1) := by decide +kernel
theorem dX7_did_106 : decode cX7_did 106 = .ok (.dup, 1) := by decide +kernel
theorem dX7_did_107 : decode cX7_did 107 = .ok (.getfield 133, 3) := by decide +kernel
theorem dX7_did_110 : decode cX7_did 110 = .ok (.iconst 1, 1) := by decide +kernel
theorem dX7_did_111 : decode cX7_did 111 = .ok (.iadd, 1) := by decide +kernel
theorem dX7_did_112 : decode cX7_did 112 = .ok (.putfield 133, 3) := by decide +kernel
theorem dX7_did_115 : decode cX7_did 115 = .ok (.iconst 1, 1) := by decide +kernel
theorem dX7_did_116 : decode cX7_did 116 = .ok (.ireturn, 1) := by decide +kernel
theorem dX7_opens_0 : decode cX7_opens 0 = .ok (.aload_n 0, 1) := by decide +kernel
theorem dX7_opens_1 : decode cX7_opens 1 = .ok (.getfield 20, 3) := by decide +kernel
theorem dX7_opens_4 : decode cX7_opens 4 = .ok (.aload_n 0, 1) := by decide +kernel
theorem dX7_opens_5 : decode cX7_opens 5 = .ok (.getfield 162, 3) := by decide +kernel
theorem dX7_opens_8 : decode cX7_opens 8 = .ok (.iload_n 1, 1) := by decide +kernel
theorem dX7_opens_9 : decode cX7_opens 9 = .ok (.iastore, 1) := by decide +kernel
theorem dX7_opens_10 : decode cX7_opens 10 = .ok (.aload_n 0, 1) := by decide +kernel
theorem dX7_opens_11 : decode cX7_opens 11 = .ok (.getfield 23, 3) := by decide +kernel
theorem dX7_opens_14 : decode cX7_opens 14 = .ok (.aload_n 0, 1) := by decide +kernel
theorem dX7_opens_15 : decode cX7_opens 15 = .ok (.getfield 162, 3) := by decide +kernel
theorem dX7_opens_18 : decode cX7_opens 18 = .ok (.iload_n 2, 1) := by decide +kernel
theorem dX7_opens_19 : decode cX7_opens 19 = .ok (.iastore, 1) := by decide +kernel
theorem dX7_opens_20 : decode cX7_opens 20 = .ok (.aload_n 0, 1) := by decide +kernel
theorem dX7_opens_21 : decode cX7_opens 21 = .ok (.dup, 1) := by decide +kernel
theorem dX7_opens_22 : decode cX7_opens 22 = .ok (.getfield 162, 3) := by decide +kernel
theorem dX7_opens_25 : decode cX7_opens 25 = .ok (.iconst 1, 1) := by decide +kernel
theorem dX7_opens_26 : decode cX7_opens 26 = .ok (.iadd, 1) := by decide +kernel
theorem dX7_opens_27 : decode cX7_opens 27 = .ok (.putfield 162, 3) := by decide +kernel
theorem dX7_opens_30 : decode cX7_opens 30 = .ok (.return_, 1) := by decide +kernel
set_option maxRecDepth 20000 in
theorem ggX7_shuts_X7_comes : GoodIn wsX7_shuts wsX7_comes := goodIn_r _ [10, 11, 12, 13, 14, 9, 15, 16, 17, 18, 19, 20, 21, 22, 23, 24, 25, 26, 27, 28, 29, 30, 31, 32, 33, 34, 35, 36, 37, 38, 39, 40, 41, 42, 43, 44, 45, 46, 47, 48, 49, 50, 51, 52, 53, 54, 61, 62, 63, 64, 65, 66, 67, 68, 69, 70, 71, 72, 73, 74] (by decide +kernel) (by decide +kernel)
set_option maxRecDepth 20000 in
theorem gX7_shuts_X7_comes : GoodIn wsX7_shuts (wsV RX7 105 RX7 yX7_comes wsX7_comes) := goodIn_app (goodIn_of _ (by decide +kernel)) ggX7_shuts_X7_comes
set_option maxRecDepth 20000 in
theorem ggX7_shuts_X7_notes : GoodIn wsX7_shuts wsX7_notes := goodIn_r _ [58, 59, 60, 61, 62, 63, 64, 65, 66, 67, 68, 69, 70, 71, 72, 73, 74] (by decide +kernel) (by decide +kernel)
set_option maxRecDepth 20000 in
theorem gX7_shuts_X7_notes : GoodIn wsX7_shuts (wsV RX7 165 RX7 yX7_notes wsX7_notes) := goodIn_app (goodIn_of _ (by decide +kernel)) ggX7_shuts_X7_notes
theorem dX7_shuts_0 : decode cX7_shuts 0 = .ok (.aload_n 0, 1) := by decide +kernel
theorem dX7_shuts_1 : decode cX7_shuts 1 = .ok (.dup, 1) := by decide +kernel
theorem dX7_shuts_2 : decode cX7_shuts 2 = .ok (.getfield 162, 3) := by decide +kernel
theorem dX7_shuts_5 : decode cX7_shuts 5 = .ok (.iconst 1, 1) := by decide +kernel
theorem dX7_shuts_6 : decode cX7_shuts 6 = .ok (.isub, 1) := by decide +kernel
theorem dX7_shuts_7 : decode cX7_shuts 7 = .ok (.putfield 162, 3) := by decide +kernel
theorem dX7_shuts_10 : decode cX7_shuts 10 = .ok (.aload_n 0, 1) := by decide +kernel
theorem dX7_shuts_11 : decode cX7_shuts 11 = .ok (.getfield 20, 3) := by decide +kernel
theorem dX7_shuts_14 : decode cX7_shuts 14 = .ok (.aload_n 0, 1) := by decide +kernel
theorem dX7_shuts_15 : decode cX7_shuts 15 = .ok (.getfield 162, 3) := by decide +kernel
theorem dX7_shuts_18 : decode cX7_shuts 18 = .ok (.iaload, 1) := by decide +kernel
theorem dX7_shuts_19 : decode cX7_shuts 19 = .ok (.iconst (-1), 1) := by decide +kernel
theorem dX7_shuts_20 : decode cX7_shuts 20 = .ok (.if_icmp .ne 19, 3) := by decide +kernel
theorem dX7_shuts_23 : decode cX7_shuts 23 = .ok (.aload_n 0, 1) := by decide +kernel
theorem dX7_shuts_24 : decode cX7_shuts 24 = .ok (.aload_n 0, 1) := by decide +kernel
theorem dX7_shuts_25 : decode cX7_shuts 25 = .ok (.getfield 23, 3) := by decide +kernel
theorem dX7_shuts_28 : decode cX7_shuts 28 = .ok (.aload_n 0, 1) := by decide +kernel
theorem dX7_shuts_29 : decode cX7_shuts 29 = .ok (.getfield 162, 3) := by decide +kernel
theorem dX7_shuts_32 : decode cX7_shuts 32 = .ok (.iaload, 1) := by decide +kernel
theorem dX7_shuts_33 : decode cX7_shuts 33 = .ok (.putfield 159, 3) := by decide +kernel
theorem dX7_shuts_36 : decode cX7_shuts 36 = .ok (.goto 50, 3) := by decide +kernel
theorem dX7_shuts_39 : decode cX7_shuts 39 = .ok (.aload_n 0, 1) := by decide +kernel
theorem dX7_shuts_40 : decode cX7_shuts 40 = .ok (.aload_n 0, 1) := by decide +kernel
theorem dX7_shuts_41 : decode cX7_shuts 41 = .ok (.getfield 23, 3) := by decide +kernel
theorem dX7_shuts_44 : decode cX7_shuts 44 = .ok (.aload_n 0, 1) := by decide +kernel
theorem dX7_shuts_45 : decode cX7_shuts 45 = .ok (.getfield 162, 3) := by decide +kernel
theorem dX7_shuts_48 : decode cX7_shuts 48 = .ok (.iaload, 1) := by decide +kernel
theorem dX7_shuts_49 : decode cX7_shuts 49 = .ok (.iconst 3, 1) := by decide +kernel
theorem dX7_shuts_50 : decode cX7_shuts 50 = .ok (.aload_n 0, 1) := by decide +kernel
theorem dX7_shuts_51 : decode cX7_shuts 51 = .ok (.getfield 20, 3) := by decide +kernel
theorem dX7_shuts_54 : decode cX7_shuts 54 = .ok (.aload_n 0, 1) := by decide +kernel
theorem dX7_shuts_55 : decode cX7_shuts 55 = .ok (.getfield 162, 3) := by decide +kernel
theorem dX7_shuts_58 : decode cX7_shuts 58 = .ok (.iaload, 1) := by decide +kernel
theorem dX7_shuts_59 : decode cX7_shuts 59 = .ok (.invokevirtual 105, 3) := by decide +kernel
theorem dX7_shuts_62 : decode cX7_shuts 62 = .ok (.aload_n 0, 1) := by decide +kernel
theorem dX7_shuts_63 : decode cX7_shuts 63 = .ok (.aload_n 0, 1) := by decide +kernel
theorem dX7_shuts_64 : decode cX7_shuts 64 = .ok (.getfield 20, 3) := by decide +kernel
theorem dX7_shuts_67 : decode cX7_shuts 67 = .ok (.aload_n 0, 1) := by decide +kernel
theorem dX7_shuts_68 : decode cX7_shuts 68 = .ok (.getfield 162, 3) := by decide +kernel
theorem dX7_shuts_71 : decode cX7_shuts 71 = .ok (.iaload, 1) := by decide +kernel
theorem dX7_shuts_72 : decode cX7_shuts 72 = .ok (.iconst 0, 1) := by decide +kernel
theorem dX7_shuts_73 : decode cX7_shuts 73 = .ok (.invokevirtual 165, 3) := by decide +kernel
theorem dX7_shuts_76 : decode cX7_shuts 76 = .ok (.aload_n 0, 1) := by decide +kernel
theorem dX7_shuts_77 : decode cX7_shuts 77 = .ok (.dup, 1) := by decide +kernel
theorem dX7_shuts_78 : decode cX7_shuts 78 = .ok (.getfield 156, 3) := by decide +kernel
theorem dX7_shuts_81 : decode cX7_shuts 81 = .ok (.iconst 1, 1) := by decide +kernel
theorem dX7_shuts_82 : decode cX7_shuts 82 = .ok (.isub, 1) := by decide +kernel
theorem dX7_shuts_83 : decode cX7_shuts 83 = .ok (.putfield 156, 3) := by decide +kernel
theorem dX7_shuts_86 : decode cX7_shuts 86 = .ok (.return_, 1) := by decide +kernel
set_option maxRecDepth 20000 in
theorem ggX7_takesRegion_X7_takesFigure : GoodIn wsX7_takesRegion wsX7_takesFigure := goodIn_r _ [8, 9, 10, 1, 11, 12, 13, 7, 14, 15, 16, 17, 18, 19, 20, 21, 22, 23, 24, 25, 115, 116, 117, 118, 119, 120, 121, 122, 123, 124, 125, 126, 127, 128] (by decide +kernel) (by decide +kernel)
set_option maxRecDepth 20000 in
theorem gX7_takesRegion_X7_takesFigure : GoodIn wsX7_takesRegion (wsV RX7 168 RX7 yX7_takesFigure wsX7_takesFigure) := goodIn_app (goodIn_of _ (by decide +kernel)) ggX7_takesRegion_X7_takesFigure
set_option maxRecDepth 20000 in
theorem ggX7_takesRegion_X7_did : GoodIn wsX7_takesRegion wsX7_did := goodIn_r _ [29, 16, 2, 3, 1, 15, 20, 21, 22, 7, 23, 24, 25, 30, 31, 32, 33, 34, 35, 36, 17, 18, 19, 37, 38, 39, 40, 41, 42, 43, 44, 45, 46, 47, 48, 49, 50, 51, 52, 53, 54, 55, 56, 57, 58, 59, 60, 61, 62, 63, 64, 65, 66, 67, 68, 69, 70, 71, 72, 73, 74, 75, 76, 77, 78, 79, 80, 81, 82, 83, 84, 85, 86, 87, 88, 89, 90, 91, 92, 93, 94, 95, 96, 97, 115, 116, 117, 118, 119, 120, 121, 122, 123, 124, 125, 126, 127, 128] (by decide +kernel) (by decide +kernel)
set_option maxRecDepth 20000 in
theorem gX7_takesRegion_X7_did : GoodIn wsX7_takesRegion (wsV RX7 171 RX7 yX7_did wsX7_did) := goodIn_app (goodIn_of _ (by decide +kernel)) ggX7_takesRegion_X7_did
set_option maxRecDepth 20000 in
theorem ggX7_takesRegion_X7_notes : GoodIn wsX7_takesRegion wsX7_notes := goodIn_r _ [101, 102, 103, 115, 116, 117, 118, 119, 120, 121, 122, 123, 124, 125, 126, 127, 128] (by decide +kernel) (by decide +kernel)
set_option maxRecDepth 20000 in
theorem gX7_takesRegion_X7_notes : GoodIn wsX7_takesRegion (wsV RX7 165 RX7 yX7_notes wsX7_notes) := goodIn_app (goodIn_of _ (by decide +kernel)) ggX7_takesRegion_X7_notes
set_option maxRecDepth 20000 in
theorem ggX7_takesRegion_X7_opens : GoodIn wsX7_takesRegion wsX7_opens := goodIn_r _ [107, 108, 109, 110, 115, 116, 117, 118, 119, 120, 121, 122, 123, 124, 125, 126, 127, 128] (by decide +kernel) (by decide +kernel)
set_option maxRecDepth 20000 in
theorem gX7_takesRegion_X7_opens : GoodIn wsX7_takesRegion (wsV RX7 174 RX7 yX7_opens wsX7_opens) := goodIn_app (goodIn_of _ (by decide +kernel)) ggX7_takesRegion_X7_opens
set_option maxRecDepth 20000 in
theorem ggX7_takesRegion_X7_takes : GoodIn wsX7_takesRegion wsX7_takes := goodIn_r _ [114, 15, 11, 12, 13, 7, 14, 16, 20, 21, 22, 23, 24, 25, 115, 116, 117, 118, 119, 120, 121, 122, 123, 124, 125, 126, 127, 128] (by decide +kernel) (by decide +kernel)
set_option maxRecDepth 20000 in
theorem gX7_takesRegion_X7_takes : GoodIn wsX7_takesRegion (wsV RX7 177 RX7 yX7_takes wsX7_takes) := goodIn_app (goodIn_of _ (by decide +kernel)) ggX7_takesRegion_X7_takes
theorem dX7_takesRegion_0 : decode cX7_takesRegion 0 = .ok (.aload_n 0, 1) := by decide +kernel
theorem dX7_takesRegion_1 : decode cX7_takesRegion 1 = .ok (.iconst 2, 1) := by decide +kernel
theorem dX7_takesRegion_2 : decode cX7_takesRegion 2 = .ok (.invokevirtual 168, 3) := by decide +kernel
theorem dX7_takesRegion_5 : decode cX7_takesRegion 5 = .ok (.ifCond .eq 11, 3) := by decide +kernel
theorem dX7_takesRegion_8 : decode cX7_takesRegion 8 = .ok (.aload_n 0, 1) := by decide +kernel
theorem dX7_takesRegion_9 : decode cX7_takesRegion 9 = .ok (.iconst 2, 1) := by decide +kernel
theorem dX7_takesRegion_10 : decode cX7_takesRegion 10 = .ok (.invokevirtual 171, 3) := by decide +kernel
theorem dX7_takesRegion_13 : decode cX7_takesRegion 13 = .ok (.ifCond .ne 5, 3) := by decide +kernel
theorem dX7_takesRegion_16 : decode cX7_takesRegion 16 = .ok (.iconst 0, 1) := by decide +kernel
theorem dX7_takesRegion_17 : decode cX7_takesRegion 17 = .ok (.ireturn, 1) := by decide +kernel
theorem dX7_takesRegion_18 : decode cX7_takesRegion 18 = .ok (.aload_n 0, 1) := by decide +kernel
theorem dX7_takesRegion_19 : decode cX7_takesRegion 19 = .ok (.aload_n 0, 1) := by decide +kernel
theorem dX7_takesRegion_20 : decode cX7_takesRegion 20 = .ok (.getfield 153, 3) := by decide +kernel
theorem dX7_takesRegion_23 : decode cX7_takesRegion 23 = .ok (.iconst 1, 1) := by decide +kernel
theorem dX7_takesRegion_24 : decode cX7_takesRegion 24 = .ok (.invokevirtual 165, 3) := by decide +kernel
theorem dX7_takesRegion_27 : decode cX7_takesRegion 27 = .ok (.aload_n 0, 1) := by decide +kernel
theorem dX7_takesRegion_28 : decode cX7_takesRegion 28 = .ok (.dup, 1) := by decide +kernel
theorem dX7_takesRegion_29 : decode cX7_takesRegion 29 = .ok (.getfield 156, 3) := by decide +kernel
theorem dX7_takesRegion_32 : decode cX7_takesRegion 32 = .ok (.iconst 1, 1) := by decide +kernel
theorem dX7_takesRegion_33 : decode cX7_takesRegion 33 = .ok (.iadd, 1) := by decide +kernel
theorem dX7_takesRegion_34 : decode cX7_takesRegion 34 = .ok (.putfield 156, 3) := by decide +kernel
theorem dX7_takesRegion_37 : decode cX7_takesRegion 37 = .ok (.aload_n 0, 1) := by decide +kernel
theorem dX7_takesRegion_38 : decode cX7_takesRegion 38 = .ok (.aload_n 0, 1) := by decide +kernel
theorem dX7_takesRegion_39 : decode cX7_takesRegion 39 = .ok (.getfield 153, 3) := by decide +kernel
theorem dX7_takesRegion_42 : decode cX7_takesRegion 42 = .ok (.aload_n 0, 1) := by decide +kernel
theorem dX7_takesRegion_43 : decode cX7_takesRegion 43 = .ok (.getfield 159, 3) := by decide +kernel
theorem dX7_takesRegion_46 : decode cX7_takesRegion 46 = .ok (.invokevirtual 174, 3) := by decide +kernel
theorem dX7_takesRegion_49 : decode cX7_takesRegion 49 = .ok (.aload_n 0, 1) := by decide +kernel
theorem dX7_takesRegion_50 : decode cX7_takesRegion 50 = .ok (.bipush 40, 2) := by decide +kernel
theorem dX7_takesRegion_52 : decode cX7_takesRegion 52 = .ok (.invokevirtual 177, 3) := by decide +kernel
theorem dX7_takesRegion_55 : decode cX7_takesRegion 55 = .ok (.ireturn, 1) := by decide +kernel
set_option maxRecDepth 20000 in
theorem ggX7_takesTurn_X7_takesFigure : GoodIn wsX7_takesTurn wsX7_takesFigure := goodIn_r _ [9, 10, 11, 2, 12, 13, 14, 8, 15, 3, 1, 16, 17, 18, 19, 20, 21, 22, 23, 24, 36, 37, 38, 39, 40, 41, 42, 43, 44, 45, 46, 47, 48, 49] (by decide +kernel) (by decide +kernel)
set_option maxRecDepth 20000 in
theorem gX7_takesTurn_X7_takesFigure : GoodIn wsX7_takesTurn (wsV RX7 168 RX7 yX7_takesFigure wsX7_takesFigure) := goodIn_app (goodIn_of _ (by decide +kernel)) ggX7_takesTurn_X7_takesFigure
set_option maxRecDepth 20000 in
theorem ggX7_takesTurn_X7_fails : GoodIn wsX7_takesTurn wsX7_fails := goodIn_r _ [22, 23, 3, 24, 36, 37, 38, 39, 40, 41, 42, 43, 44, 45, 46, 47, 48, 49] (by decide +kernel) (by decide +kernel)
set_option maxRecDepth 20000 in
theorem gX7_takesTurn_X7_fails : GoodIn wsX7_takesTurn (wsV RX7 150 RX7 yX7_fails wsX7_fails) := goodIn_app (goodIn_of _ (by decide +kernel)) ggX7_takesTurn_X7_fails
set_option maxRecDepth 20000 in
theorem ggX7_takesTurn_X7_opens : GoodIn wsX7_takesTurn wsX7_opens := goodIn_r _ [28, 29, 30, 31, 36, 37, 38, 39, 40, 41, 42, 43, 44, 45, 46, 47, 48, 49] (by decide +kernel) (by decide +kernel)
set_option maxRecDepth 20000 in
theorem gX7_takesTurn_X7_opens : GoodIn wsX7_takesTurn (wsV RX7 174 RX7 yX7_opens wsX7_opens) := goodIn_app (goodIn_of _ (by decide +kernel)) ggX7_takesTurn_X7_opens
set_option maxRecDepth 20000 in
theorem ggX7_takesTurn_X7_takes : GoodIn wsX7_takesTurn wsX7_takes := goodIn_r _ [35, 3, 12, 13, 14, 8, 15, 1, 19, 20, 21, 22, 23, 24, 36, 37, 38, 39, 40, 41, 42, 43, 44, 45, 46, 47, 48, 49] (by decide +kernel) (by decide +kernel)
set_option maxRecDepth 20000 in
theorem gX7_takesTurn_X7_takes : GoodIn wsX7_takesTurn (wsV RX7 177 RX7 yX7_takes wsX7_takes) := goodIn_app (goodIn_of _ (by decide +kernel)) ggX7_takesTurn_X7_takes
theorem dX7_takesTurn_0 : decode cX7_takesTurn 0 = .ok (.aload_n 0, 1) := by decide +kernel
theorem dX7_takesTurn_1 : decode cX7_takesTurn 1 = .ok (.iconst 3, 1) := by decide +kernel
theorem dX7_takesTurn_2 : decode cX7_takesTurn 2 = .ok (.invokevirtual 168, 3) := by decide +kernel
theorem dX7_takesTurn_5 : decode cX7_takesTurn 5 = .ok (.ifCond .ne 5, 3) := by decide +kernel
theorem dX7_takesTurn_8 : decode cX7_takesTurn 8 = .ok (.iconst 0, 1) := by decide +kernel
theorem dX7_takesTurn_9 : decode cX7_takesTurn 9 = .ok (.ireturn, 1) := by decide +kernel
theorem dX7_takesTurn_10 : decode cX7_takesTurn 10 = .ok (.aload_n 0, 1) := by decide +kernel
theorem dX7_takesTurn_11 : decode cX7_takesTurn 11 = .ok (.getfield 7, 3) := by decide +kernel
theorem dX7_takesTurn_14 : decode cX7_takesTurn 14 = .ok (.iconst 0, 1) := by decide +kernel
theorem dX7_takesTurn_15 : decode cX7_takesTurn 15 = .ok (.aload_n 0, 1) := by decide +kernel
theorem dX7_takesTurn_16 : decode cX7_takesTurn 16 = .ok (.getfield 153, 3) := by decide +kernel
theorem dX7_takesTurn_19 : decode cX7_takesTurn 19 = .ok (.iadd, 1) := by decide +kernel
theorem dX7_takesTurn_20 : decode cX7_takesTurn 20 = .ok (.iaload, 1) := by decide +kernel
theorem dX7_takesTurn_21 : decode cX7_takesTurn 21 = .ok (.iconst 1, 1) := by decide +kernel
theorem dX7_takesTurn_22 : decode cX7_takesTurn 22 = .ok (.if_icmp .eq 9, 3) := by decide +kernel
theorem dX7_takesTurn_25 : decode cX7_takesTurn 25 = .ok (.aload_n 0, 1) := by decide +kernel
theorem dX7_takesTurn_26 : decode cX7_takesTurn 26 = .ok (.iconst 4, 1) := by decide +kernel
theorem dX7_takesTurn_27 : decode cX7_takesTurn 27 = .ok (.invokevirtual 150, 3) := by decide +kernel
theorem dX7_takesTurn_30 : decode cX7_takesTurn 30 = .ok (.ireturn, 1) := by decide +kernel
theorem dX7_takesTurn_31 : decode cX7_takesTurn 31 = .ok (.aload_n 0, 1) := by decide +kernel
theorem dX7_takesTurn_32 : decode cX7_takesTurn 32 = .ok (.dup, 1) := by decide +kernel
theorem dX7_takesTurn_33 : decode cX7_takesTurn 33 = .ok (.getfield 133, 3) := by decide +kernel
theorem dX7_takesTurn_36 : decode cX7_takesTurn 36 = .ok (.iconst 1, 1) := by decide +kernel
theorem dX7_takesTurn_37 : decode cX7_takesTurn 37 = .ok (.iadd, 1) := by decide +kernel
theorem dX7_takesTurn_38 : decode cX7_takesTurn 38 = .ok (.putfield 133, 3) := by decide +kernel
theorem dX7_takesTurn_41 : decode cX7_takesTurn 41 = .ok (.aload_n 0, 1) := by decide +kernel
theorem dX7_takesTurn_42 : decode cX7_takesTurn 42 = .ok (.iconst (-1), 1) := by decide +kernel
theorem dX7_takesTurn_43 : decode cX7_takesTurn 43 = .ok (.aload_n 0, 1) := by decide +kernel
theorem dX7_takesTurn_44 : decode cX7_takesTurn 44 = .ok (.getfield 159, 3) := by decide +kernel
theorem dX7_takesTurn_47 : decode cX7_takesTurn 47 = .ok (.invokevirtual 174, 3) := by decide +kernel
theorem dX7_takesTurn_50 : decode cX7_takesTurn 50 = .ok (.aload_n 0, 1) := by decide +kernel
theorem dX7_takesTurn_51 : decode cX7_takesTurn 51 = .ok (.aload_n 0, 1) := by decide +kernel
theorem dX7_takesTurn_52 : decode cX7_takesTurn 52 = .ok (.getfield 153, 3) := by decide +kernel
theorem dX7_takesTurn_55 : decode cX7_takesTurn 55 = .ok (.putfield 159, 3) := by decide +kernel
theorem dX7_takesTurn_58 : decode cX7_takesTurn 58 = .ok (.aload_n 0, 1) := by decide +kernel
theorem dX7_takesTurn_59 : decode cX7_takesTurn 59 = .ok (.bipush 40, 2) := by decide +kernel
theorem dX7_takesTurn_61 : decode cX7_takesTurn 61 = .ok (.invokevirtual 177, 3) := by decide +kernel
theorem dX7_takesTurn_64 : decode cX7_takesTurn 64 = .ok (.ireturn, 1) := by decide +kernel
set_option maxRecDepth 20000 in
theorem ggX7_takesEnd_X7_fails : GoodIn wsX7_takesEnd wsX7_fails := goodIn_r _ [7, 8, 2, 9, 72, 73, 74, 75, 76, 77, 78, 79, 80, 81, 82, 83, 84, 85] (by decide +kernel) (by decide +kernel)
set_option maxRecDepth 20000 in
theorem gX7_takesEnd_X7_fails : GoodIn wsX7_takesEnd (wsV RX7 150 RX7 yX7_fails wsX7_fails) := goodIn_app (goodIn_of _ (by decide +kernel)) ggX7_takesEnd_X7_fails
set_option maxRecDepth 20000 in
theorem ggX7_takesEnd_X7_shuts : GoodIn wsX7_takesEnd wsX7_shuts := goodIn_r _ [13, 1, 14, 15, 16, 17, 18, 19, 20, 6, 21, 22, 23, 24, 25, 26, 27, 28, 29, 30, 31, 32, 33, 34, 35, 36, 37, 38, 39, 40, 41, 42, 43, 44, 45, 46, 47, 48, 49, 50, 51, 52, 53, 54, 55, 56, 57, 58, 59, 60, 61, 62, 63, 64, 65, 66, 67, 68, 69, 70, 71, 72, 73, 74, 75, 76, 77, 78, 79, 80, 81, 82, 83, 84, 85] (by decide +kernel) (by decide +kernel)
set_option maxRecDepth 20000 in
theorem gX7_takesEnd_X7_shuts : GoodIn wsX7_takesEnd (wsV RX7 180 RX7 yX7_shuts wsX7_shuts) := goodIn_app (goodIn_of _ (by decide +kernel)) ggX7_takesEnd_X7_shuts
theorem dX7_takesEnd_0 : decode cX7_takesEnd 0 = .ok (.aload_n 0, 1) := by decide +kernel
theorem dX7_takesEnd_1 : decode cX7_takesEnd 1 = .ok (.getfield 162, 3) := by decide +kernel
theorem dX7_takesEnd_4 : decode cX7_takesEnd 4 = .ok (.ifCond .ne 9, 3) := by decide +kernel
theorem dX7_takesEnd_7 : decode cX7_takesEnd 7 = .ok (.aload_n 0, 1) := by decide +kernel
theorem dX7_takesEnd_8 : decode cX7_takesEnd 8 = .ok (.iconst 1, 1) := by decide +kernel
theorem dX7_takesEnd_9 : decode cX7_takesEnd 9 = .ok (.invokevirtual 150, 3) := by decide +kernel
theorem dX7_takesEnd_12 : decode cX7_takesEnd 12 = .ok (.ireturn, 1) := by decide +kernel
theorem dX7_takesEnd_13 : decode cX7_takesEnd 13 = .ok (.aload_n 0, 1) := by decide +kernel
theorem dX7_takesEnd_14 : decode cX7_takesEnd 14 = .ok (.dup, 1) := by decide +kernel
theorem dX7_takesEnd_15 : decode cX7_takesEnd 15 = .ok (.getfield 133, 3) := by decide +kernel
theorem dX7_takesEnd_18 : decode cX7_takesEnd 18 = .ok (.iconst 1, 1) := by decide +kernel
theorem dX7_takesEnd_19 : decode cX7_takesEnd 19 = .ok (.iadd, 1) := by decide +kernel
theorem dX7_takesEnd_20 : decode cX7_takesEnd 20 = .ok (.putfield 133, 3) := by decide +kernel
theorem dX7_takesEnd_23 : decode cX7_takesEnd 23 = .ok (.aload_n 0, 1) := by decide +kernel
theorem dX7_takesEnd_24 : decode cX7_takesEnd 24 = .ok (.invokevirtual 180, 3) := by decide +kernel
theorem dX7_takesEnd_27 : decode cX7_takesEnd 27 = .ok (.iconst 1, 1) := by decide +kernel
theorem dX7_takesEnd_28 : decode cX7_takesEnd 28 = .ok (.ireturn, 1) := by decide +kernel
theorem dX7_sortOf_0 : decode cX7_sortOf 0 = .ok (.iload_n 0, 1) := by decide +kernel
theorem dX7_sortOf_1 : decode cX7_sortOf 1 = .ok (.bipush 114, 2) := by decide +kernel
theorem dX7_sortOf_3 : decode cX7_sortOf 3 = .ok (.if_icmp .ne 7, 3) := by decide +kernel
theorem dX7_sortOf_6 : decode cX7_sortOf 6 = .ok (.iconst 0, 1) := by decide +kernel
theorem dX7_sortOf_7 : decode cX7_sortOf 7 = .ok (.goto 56, 3) := by decide +kernel
theorem dX7_sortOf_10 : decode cX7_sortOf 10 = .ok (.iload_n 0, 1) := by decide +kernel
theorem dX7_sortOf_11 : decode cX7_sortOf 11 = .ok (.bipush 119, 2) := by decide +kernel
theorem dX7_sortOf_13 : decode cX7_sortOf 13 = .ok (.if_icmp .ne 7, 3) := by decide +kernel
theorem dX7_sortOf_16 : decode cX7_sortOf 16 = .ok (.iconst 1, 1) := by decide +kernel
theorem dX7_sortOf_17 : decode cX7_sortOf 17 = .ok (.goto 46, 3) := by decide +kernel
theorem dX7_sortOf_20 : decode cX7_sortOf 20 = .ok (.iload_n 0, 1) := by decide +kernel
theorem dX7_sortOf_21 : decode cX7_sortOf 21 = .ok (.bipush 112, 2) := by decide +kernel
theorem dX7_sortOf_23 : decode cX7_sortOf 23 = .ok (.if_icmp .ne 7, 3) := by decide +kernel
theorem dX7_sortOf_26 : decode cX7_sortOf 26 = .ok (.iconst 4, 1) := by decide +kernel
theorem dX7_sortOf_27 : decode cX7_sortOf 27 = .ok (.goto 36, 3) := by decide +kernel
theorem dX7_sortOf_30 : decode cX7_sortOf 30 = .ok (.iload_n 0, 1) := by decide +kernel
theorem dX7_sortOf_31 : decode cX7_sortOf 31 = .ok (.bipush 103, 2) := by decide +kernel
theorem dX7_sortOf_33 : decode cX7_sortOf 33 = .ok (.if_icmp .ne 7, 3) := by decide +kernel
theorem dX7_sortOf_36 : decode cX7_sortOf 36 = .ok (.iconst 5, 1) := by decide +kernel
theorem dX7_sortOf_37 : decode cX7_sortOf 37 = .ok (.goto 26, 3) := by decide +kernel
theorem dX7_sortOf_40 : decode cX7_sortOf 40 = .ok (.iload_n 0, 1) := by decide +kernel
theorem dX7_sortOf_41 : decode cX7_sortOf 41 = .ok (.bipush 102, 2) := by decide +kernel
theorem dX7_sortOf_43 : decode cX7_sortOf 43 = .ok (.if_icmp .ne 8, 3) := by decide +kernel
theorem dX7_sortOf_46 : decode cX7_sortOf 46 = .ok (.bipush 6, 2) := by decide +kernel
theorem dX7_sortOf_48 : decode cX7_sortOf 48 = .ok (.goto 15, 3) := by decide +kernel
theorem dX7_sortOf_51 : decode cX7_sortOf 51 = .ok (.iload_n 0, 1) := by decide +kernel
theorem dX7_sortOf_52 : decode cX7_sortOf 52 = .ok (.bipush 106, 2) := by decide +kernel
theorem dX7_sortOf_54 : decode cX7_sortOf 54 = .ok (.if_icmp .ne 8, 3) := by decide +kernel
theorem dX7_sortOf_57 : decode cX7_sortOf 57 = .ok (.bipush 7, 2) := by decide +kernel
theorem dX7_sortOf_59 : decode cX7_sortOf 59 = .ok (.goto 4, 3) := by decide +kernel
theorem dX7_sortOf_62 : decode cX7_sortOf 62 = .ok (.iconst (-1), 1) := by decide +kernel
theorem dX7_sortOf_63 : decode cX7_sortOf 63 = .ok (.ireturn, 1) := by decide +kernel
set_option maxRecDepth 20000 in
theorem ggX7_takesItem_X7_takesEnd : GoodIn wsX7_takesItem wsX7_takesEnd := goodIn_r _ [6, 7, 1, 8, 9, 10, 5, 11, 12, 13, 14, 15, 16, 17, 18, 19, 20, 21, 22, 23, 24, 25, 26, 27, 28, 29, 30, 31, 32, 33, 34, 35, 36, 37, 38, 39, 40, 41, 42, 43, 44, 45, 46, 47, 48, 49, 50, 51, 52, 53, 54, 55, 56, 57, 58, 59, 60, 61, 62, 63, 64, 65, 66, 67, 68, 69, 70, 71, 72, 73, 74, 75, 134, 135, 136, 137, 138, 139, 140, 141, 142, 143, 144, 145, 146, 147] (by decide +kernel) (by decide +kernel)
set_option maxRecDepth 20000 in
theorem gX7_takesItem_X7_takesEnd : GoodIn wsX7_takesItem (wsV RX7 183 RX7 yX7_takesEnd wsX7_takesEnd) := goodIn_app (goodIn_of _ (by decide +kernel)) ggX7_takesItem_X7_takesEnd
set_option maxRecDepth 20000 in
theorem ggX7_takesItem_X7_sortOf : GoodIn wsX7_takesItem wsX7_sortOf := goodIn_r _ [78] (by decide +kernel) (by decide +kernel)
set_option maxRecDepth 20000 in
theorem gX7_takesItem_X7_sortOf : GoodIn wsX7_takesItem (va_wsS RX7 187 yX7_sortOf wsX7_sortOf) := goodIn_app (goodIn_of _ (by decide +kernel)) ggX7_takesItem_X7_sortOf
set_option maxRecDepth 20000 in
theorem ggX7_takesItem_X7_fails : GoodIn wsX7_takesItem wsX7_fails := goodIn_r _ [11, 12, 1, 13, 134, 135, 136, 137, 138, 139, 140, 141, 142, 143, 144, 145, 146, 147] (by decide +kernel) (by decide +kernel)
set_option maxRecDepth 20000 in
theorem gX7_takesItem_X7_fails : GoodIn wsX7_takesItem (wsV RX7 150 RX7 yX7_fails wsX7_fails) := goodIn_app (goodIn_of _ (by decide +kernel)) ggX7_takesItem_X7_fails
set_option maxRecDepth 20000 in
theorem ggX7_takesItem_X7_takesRegion : GoodIn wsX7_takesItem wsX7_takesRegion := goodIn_r _ [82, 83, 21, 20, 84, 85, 86, 5, 87, 88, 89, 90, 91, 92, 93, 1, 26, 94, 95, 96, 8, 9, 10, 11, 12, 13, 97, 98, 99, 100, 101, 102, 103, 104, 105, 106, 107, 108, 109, 110, 111, 112, 113, 114, 115, 116, 117, 118, 119, 120, 121, 54, 55, 56, 57, 58, 59, 60, 61, 62, 63, 64, 65, 38, 39, 40, 41, 22, 23, 24, 25, 27, 28, 29, 30, 31, 32, 33, 34, 35, 36, 37, 42, 43, 44, 45, 46, 47, 48, 49, 50, 51, 52, 53, 66, 67, 68, 69, 70, 71, 72, 73, 74, 75, 122, 123, 124, 125, 18, 7, 19, 126, 127, 128, 129, 134, 135, 136, 137, 138, 139, 140, 141, 142, 143, 144, 145, 146, 147] (by decide +kernel) (by decide +kernel)
set_option maxRecDepth 20000 in
theorem gX7_takesItem_X7_takesRegion : GoodIn wsX7_takesItem (wsV RX7 190 RX7 yX7_takesRegion wsX7_takesRegion) := goodIn_app (goodIn_of _ (by decide +kernel)) ggX7_takesItem_X7_takesRegion
set_option maxRecDepth 20000 in
theorem ggX7_takesItem_X7_takesTurn : GoodIn wsX7_takesItem wsX7_takesTurn := goodIn_r _ [133, 26, 83, 1, 20, 84, 85, 86, 5, 87, 88, 89, 90, 91, 92, 93, 94, 95, 96, 8, 9, 10, 11, 12, 13, 122, 123, 124, 125, 18, 7, 19, 126, 127, 128, 129, 134, 135, 136, 137, 138, 139, 140, 141, 142, 143, 144, 145, 146, 147] (by decide +kernel) (by decide +kernel)
set_option maxRecDepth 20000 in
theorem gX7_takesItem_X7_takesTurn : GoodIn wsX7_takesItem (wsV RX7 193 RX7 yX7_takesTurn wsX7_takesTurn) := goodIn_app (goodIn_of _ (by decide +kernel)) ggX7_takesItem_X7_takesTurn
set_option maxRecDepth 20000 in
theorem ggX7_takesItem_X7_takesFigure : GoodIn wsX7_takesItem wsX7_takesFigure := goodIn_r _ [87, 88, 89, 83, 90, 91, 92, 5, 93, 1, 26, 94, 95, 96, 8, 9, 10, 11, 12, 13, 134, 135, 136, 137, 138, 139, 140, 141, 142, 143, 144, 145, 146, 147] (by decide +kernel) (by decide +kernel)
set_option maxRecDepth 20000 in
theorem gX7_takesItem_X7_takesFigure : GoodIn wsX7_takesItem (wsV RX7 168 RX7 yX7_takesFigure wsX7_takesFigure) := goodIn_app (goodIn_of _ (by decide +kernel)) ggX7_takesItem_X7_takesFigure
set_option maxRecDepth 20000 in
theorem ggX7_takesItem_X7_did : GoodIn wsX7_takesItem wsX7_did := goodIn_r _ [100, 26, 21, 20, 83, 1, 8, 9, 10, 5, 11, 12, 13, 101, 102, 103, 104, 105, 106, 107, 94, 95, 96, 108, 109, 110, 111, 112, 113, 114, 115, 116, 117, 118, 119, 120, 121, 54, 55, 56, 57, 58, 59, 60, 61, 62, 63, 64, 65, 38, 39, 40, 41, 22, 23, 24, 25, 27, 28, 29, 30, 31, 32, 33, 34, 35, 36, 37, 42, 43, 44, 45, 46, 47, 48, 49, 50, 51, 52, 53, 66, 67, 68, 69, 134, 135, 136, 137, 138, 139, 140, 141, 142, 143, 144, 145, 146, 147] (by decide +kernel) (by decide +kernel)
set_option maxRecDepth 20000 in
theorem gX7_takesItem_X7_did : GoodIn wsX7_takesItem (wsV RX7 171 RX7 yX7_did wsX7_did) := goodIn_app (goodIn_of _ (by decide +kernel)) ggX7_takesItem_X7_did
set_option maxRecDepth 20000 in
theorem ggX7_takesItem_X7_takes : GoodIn wsX7_takesItem wsX7_takes := goodIn_r _ [129, 1, 90, 91, 92, 5, 93, 26, 8, 9, 10, 11, 12, 13, 134, 135, 136, 137, 138, 139, 140, 141, 142, 143, 144, 145, 146, 147] (by decide +kernel) (by decide +kernel)
set_option maxRecDepth 20000 in
theorem gX7_takesItem_X7_takes : GoodIn wsX7_takesItem (wsV RX7 177 RX7 yX7_takes wsX7_takes) := goodIn_app (goodIn_of _ (by decide +kernel)) ggX7_takesItem_X7_takes
theorem dX7_takesItem_0 : decode cX7_takesItem 0 = .ok (.iload_n 1, 1) := by decide +kernel
theorem dX7_takesItem_1 : decode cX7_takesItem 1 = .ok (.bipush 41, 2) := by decide +kernel
theorem dX7_takesItem_3 : decode cX7_takesItem 3 = .ok (.if_icmp .ne 8, 3) := by decide +kernel
theorem dX7_takesItem_6 : decode cX7_takesItem 6 = .ok (.aload_n 0, 1) := by decide +kernel
theorem dX7_takesItem_7 : decode cX7_takesItem 7 = .ok (.invokevirtual 183, 3) := by decide +kernel
theorem dX7_takesItem_10 : decode cX7_takesItem 10 = .ok (.ireturn, 1) := by decide +kernel
theorem dX7_takesItem_11 : decode cX7_takesItem 11 = .ok (.iload_n 1, 1) := by decide +kernel
theorem dX7_takesItem_12 : decode cX7_takesItem 12 = .ok (.invokestatic 187, 3) := by decide +kernel
theorem dX7_takesItem_15 : decode cX7_takesItem 15 = .ok (.istore_n 2, 1) := by decide +kernel
theorem dX7_takesItem_16 : decode cX7_takesItem 16 = .ok (.iload_n 1, 1) := by decide +kernel
theorem dX7_takesItem_17 : decode cX7_takesItem 17 = .ok (.bipush 116, 2) := by decide +kernel
theorem dX7_takesItem_19 : decode cX7_takesItem 19 = .ok (.if_icmp .eq 20, 3) := by decide +kernel
theorem dX7_takesItem_22 : decode cX7_takesItem 22 = .ok (.iload_n 1, 1) := by decide +kernel
theorem dX7_takesItem_23 : decode cX7_takesItem 23 = .ok (.bipush 108, 2) := by decide +kernel
theorem dX7_takesItem_25 : decode cX7_takesItem 25 = .ok (.if_icmp .eq 14, 3) := by decide +kernel
theorem dX7_takesItem_28 : decode cX7_takesItem 28 = .ok (.iload_n 2, 1) := by decide +kernel
theorem dX7_takesItem_29 : decode cX7_takesItem 29 = .ok (.iconst (-1), 1) := by decide +kernel
theorem dX7_takesItem_30 : decode cX7_takesItem 30 = .ok (.if_icmp .ne 9, 3) := by decide +kernel
theorem dX7_takesItem_33 : decode cX7_takesItem 33 = .ok (.aload_n 0, 1) := by decide +kernel
theorem dX7_takesItem_34 : decode cX7_takesItem 34 = .ok (.iconst 1, 1) := by decide +kernel
theorem dX7_takesItem_35 : decode cX7_takesItem 35 = .ok (.invokevirtual 150, 3) := by decide +kernel
theorem dX7_takesItem_38 : decode cX7_takesItem 38 = .ok (.ireturn, 1) := by decide +kernel
theorem dX7_takesItem_39 : decode cX7_takesItem 39 = .ok (.aload_n 0, 1) := by decide +kernel
theorem dX7_takesItem_40 : decode cX7_takesItem 40 = .ok (.dup, 1) := by decide +kernel
theorem dX7_takesItem_41 : decode cX7_takesItem 41 = .ok (.getfield 133, 3) := by decide +kernel
theorem dX7_takesItem_44 : decode cX7_takesItem 44 = .ok (.iconst 1, 1) := by decide +kernel
theorem dX7_takesItem_45 : decode cX7_takesItem 45 = .ok (.iadd, 1) := by decide +kernel
theorem dX7_takesItem_46 : decode cX7_takesItem 46 = .ok (.putfield 133, 3) := by decide +kernel
theorem dX7_takesItem_49 : decode cX7_takesItem 49 = .ok (.iload_n 1, 1) := by decide +kernel
theorem dX7_takesItem_50 : decode cX7_takesItem 50 = .ok (.bipush 108, 2) := by decide +kernel
theorem dX7_takesItem_52 : decode cX7_takesItem 52 = .ok (.if_icmp .ne 8, 3) := by decide +kernel
theorem dX7_takesItem_55 : decode cX7_takesItem 55 = .ok (.aload_n 0, 1) := by decide +kernel
theorem dX7_takesItem_56 : decode cX7_takesItem 56 = .ok (.invokevirtual 190, 3) := by decide +kernel
theorem dX7_takesItem_59 : decode cX7_takesItem 59 = .ok (.ireturn, 1) := by decide +kernel
theorem dX7_takesItem_60 : decode cX7_takesItem 60 = .ok (.iload_n 1, 1) := by decide +kernel
theorem dX7_takesItem_61 : decode cX7_takesItem 61 = .ok (.bipush 116, 2) := by decide +kernel
theorem dX7_takesItem_63 : decode cX7_takesItem 63 = .ok (.if_icmp .ne 8, 3) := by decide +kernel
theorem dX7_takesItem_66 : decode cX7_takesItem 66 = .ok (.aload_n 0, 1) := by decide +kernel
theorem dX7_takesItem_67 : decode cX7_takesItem 67 = .ok (.invokevirtual 193, 3) := by decide +kernel
theorem dX7_takesItem_70 : decode cX7_takesItem 70 = .ok (.ireturn, 1) := by decide +kernel
theorem dX7_takesItem_71 : decode cX7_takesItem 71 = .ok (.aload_n 0, 1) := by decide +kernel
theorem dX7_takesItem_72 : decode cX7_takesItem 72 = .ok (.iload_n 2, 1) := by decide +kernel
theorem dX7_takesItem_73 : decode cX7_takesItem 73 = .ok (.iconst 4, 1) := by decide +kernel
theorem dX7_takesItem_74 : decode cX7_takesItem 74 = .ok (.if_icmp .eq 8, 3) := by decide +kernel
theorem dX7_takesItem_77 : decode cX7_takesItem 77 = .ok (.iload_n 2, 1) := by decide +kernel
theorem dX7_takesItem_78 : decode cX7_takesItem 78 = .ok (.iconst 5, 1) := by decide +kernel
theorem dX7_takesItem_79 : decode cX7_takesItem 79 = .ok (.if_icmp .ne 7, 3) := by decide +kernel
theorem dX7_takesItem_82 : decode cX7_takesItem 82 = .ok (.iconst 1, 1) := by decide +kernel
theorem dX7_takesItem_83 : decode cX7_takesItem 83 = .ok (.goto 4, 3) := by decide +kernel
theorem dX7_takesItem_86 : decode cX7_takesItem 86 = .ok (.iconst 3, 1) := by decide +kernel
theorem dX7_takesItem_87 : decode cX7_takesItem 87 = .ok (.invokevirtual 168, 3) := by decide +kernel
theorem dX7_takesItem_90 : decode cX7_takesItem 90 = .ok (.ifCond .eq 24, 3) := by decide +kernel
theorem dX7_takesItem_93 : decode cX7_takesItem 93 = .ok (.aload_n 0, 1) := by decide +kernel
theorem dX7_takesItem_94 : decode cX7_takesItem 94 = .ok (.iload_n 2, 1) := by decide +kernel
theorem dX7_takesItem_95 : decode cX7_takesItem 95 = .ok (.invokevirtual 171, 3) := by decide +kernel
theorem dX7_takesItem_98 : decode cX7_takesItem 98 = .ok (.ifCond .eq 16, 3) := by decide +kernel
theorem dX7_takesItem_101 : decode cX7_takesItem 101 = .ok (.aload_n 0, 1) := by decide +kernel
theorem dX7_takesItem_102 : decode cX7_takesItem 102 = .ok (.bipush 59, 2) := by decide +kernel
theorem dX7_takesItem_104 : decode cX7_takesItem 104 = .ok (.invokevirtual 177, 3) := by decide +kernel
theorem dX7_takesItem_107 : decode cX7_takesItem 107 = .ok (.ifCond .eq 7, 3) := by decide +kernel
theorem dX7_takesItem_110 : decode cX7_takesItem 110 = .ok (.iconst 1, 1) := by decide +kernel
theorem dX7_takesItem_111 : decode cX7_takesItem 111 = .ok (.goto 4, 3) := by decide +kernel
theorem dX7_takesItem_114 : decode cX7_takesItem 114 = .ok (.iconst 0, 1) := by decide +kernel
theorem dX7_takesItem_115 : decode cX7_takesItem 115 = .ok (.ireturn, 1) := by decide +kernel
set_option maxRecDepth 20000 in
theorem ggX7_run_X7_here : GoodIn wsX7_run wsX7_here := goodIn_r _ [12, 2, 1, 138, 139, 140, 141, 142, 143, 144, 145, 146, 147, 148, 149, 150, 151] (by decide +kernel) (by decide +kernel)
set_option maxRecDepth 20000 in
theorem gX7_run_X7_here : GoodIn wsX7_run (wsV RX7 142 RX7 yX7_here wsX7_here) := goodIn_app (goodIn_of _ (by decide +kernel)) ggX7_run_X7_here
set_option maxRecDepth 20000 in
theorem ggX7_run_X7_takesItem : GoodIn wsX7_run wsX7_takesItem := goodIn_r _ [16, 2, 17, 18, 19, 11, 20, 4, 21, 22, 23, 24, 6, 7, 25, 26, 27, 28, 29, 30, 3, 5, 31, 32, 33, 34, 1, 35, 36, 37, 38, 39, 40, 41, 42, 43, 44, 45, 46, 47, 48, 49, 50, 51, 52, 53, 54, 55, 56, 57, 58, 59, 60, 61, 62, 63, 64, 65, 66, 67, 68, 69, 70, 71, 72, 73, 74, 75, 76, 77, 78, 79, 80, 81, 82, 83, 84, 85, 86, 87, 88, 89, 90, 91, 92, 93, 94, 95, 96, 97, 8, 9, 10, 12, 98, 99, 100, 101, 102, 103, 104, 105, 106, 107, 108, 109, 110, 111, 112, 113, 114, 115, 116, 117, 118, 119, 120, 121, 122, 123, 124, 125, 126, 127, 128, 129, 130, 131, 132, 133, 134, 135, 136, 137, 138, 139, 140, 141, 142, 143, 144, 145, 146, 147, 148, 149, 150, 151] (by decide +kernel) (by decide +kernel)
set_option maxRecDepth 20000 in
theorem gX7_run_X7_takesItem : GoodIn wsX7_run (wsV RX7 196 RX7 yX7_takesItem wsX7_takesItem) := goodIn_app (goodIn_of _ (by decide +kernel)) ggX7_run_X7_takesItem
set_option maxRecDepth 20000 in
theorem ggX7_run_X7_fails : GoodIn wsX7_run wsX7_fails := goodIn_r _ [24, 6, 2, 7, 138, 139, 140, 141, 142, 143, 144, 145, 146, 147, 148, 149, 150, 151] (by decide +kernel) (by decide +kernel)
set_option maxRecDepth 20000 in
theorem gX7_run_X7_fails : GoodIn wsX7_run (wsV RX7 150 RX7 yX7_fails wsX7_fails) := goodIn_app (goodIn_of _ (by decide +kernel)) ggX7_run_X7_fails
set_option maxRecDepth 20000 in
theorem ggX7_run_X7_shuts : GoodIn wsX7_run wsX7_shuts := goodIn_r _ [28, 4, 29, 30, 3, 5, 31, 32, 33, 11, 34, 1, 35, 36, 37, 38, 39, 40, 41, 42, 43, 44, 45, 46, 47, 48, 49, 50, 51, 52, 53, 54, 55, 56, 57, 58, 59, 60, 61, 62, 63, 64, 65, 66, 67, 68, 69, 70, 71, 72, 73, 74, 75, 76, 77, 78, 79, 80, 81, 82, 83, 138, 139, 140, 141, 142, 143, 144, 145, 146, 147, 148, 149, 150, 151] (by decide +kernel) (by decide +kernel)
set_option maxRecDepth 20000 in
theorem gX7_run_X7_shuts : GoodIn wsX7_run (wsV RX7 180 RX7 yX7_shuts wsX7_shuts) := goodIn_app (goodIn_of _ (by decide +kernel)) ggX7_run_X7_shuts
theorem dX7_run_0 : decode cX7_run 0 = .ok (.aload_n 0, 1) := by decide +kernel
theorem dX7_run_1 : decode cX7_run 1 = .ok (.getfield 7, 3) := by decide +kernel
theorem dX7_run_4 : decode cX7_run 4 = .ok (.bipush 91, 2) := by decide +kernel
theorem dX7_run_6 : decode cX7_run 6 = .ok (.iaload, 1) := by decide +kernel
theorem dX7_run_7 : decode cX7_run 7 = .ok (.istore_n 1, 1) := by decide +kernel
theorem dX7_run_8 : decode cX7_run 8 = .ok (.aload_n 0, 1) := by decide +kernel
theorem dX7_run_9 : decode cX7_run 9 = .ok (.iconst 0, 1) := by decide +kernel
theorem dX7_run_10 : decode cX7_run 10 = .ok (.putfield 133, 3) := by decide +kernel
theorem dX7_run_13 : decode cX7_run 13 = .ok (.aload_n 0, 1) := by decide +kernel
theorem dX7_run_14 : decode cX7_run 14 = .ok (.iconst 0, 1) := by decide +kernel
theorem dX7_run_15 : decode cX7_run 15 = .ok (.putfield 159, 3) := by decide +kernel
theorem dX7_run_18 : decode cX7_run 18 = .ok (.aload_n 0, 1) := by decide +kernel
theorem dX7_run_19 : decode cX7_run 19 = .ok (.iconst 0, 1) := by decide +kernel
theorem dX7_run_20 : decode cX7_run 20 = .ok (.putfield 162, 3) := by decide +kernel
theorem dX7_run_23 : decode cX7_run 23 = .ok (.aload_n 0, 1) := by decide +kernel
theorem dX7_run_24 : decode cX7_run 24 = .ok (.iconst 0, 1) := by decide +kernel
theorem dX7_run_25 : decode cX7_run 25 = .ok (.putfield 156, 3) := by decide +kernel
theorem dX7_run_28 : decode cX7_run 28 = .ok (.aload_n 0, 1) := by decide +kernel
theorem dX7_run_29 : decode cX7_run 29 = .ok (.iconst 0, 1) := by decide +kernel
theorem dX7_run_30 : decode cX7_run 30 = .ok (.putfield 136, 3) := by decide +kernel
theorem dX7_run_33 : decode cX7_run 33 = .ok (.aload_n 0, 1) := by decide +kernel
theorem dX7_run_34 : decode cX7_run 34 = .ok (.iconst (-1), 1) := by decide +kernel
theorem dX7_run_35 : decode cX7_run 35 = .ok (.putfield 139, 3) := by decide +kernel
theorem dX7_run_38 : decode cX7_run 38 = .ok (.iconst 1, 1) := by decide +kernel
theorem dX7_run_39 : decode cX7_run 39 = .ok (.istore_n 2, 1) := by decide +kernel
theorem dX7_run_40 : decode cX7_run 40 = .ok (.iload_n 2, 1) := by decide +kernel
theorem dX7_run_41 : decode cX7_run 41 = .ok (.ifCond .eq 23, 3) := by decide +kernel
theorem dX7_run_44 : decode cX7_run 44 = .ok (.aload_n 0, 1) := by decide +kernel
theorem dX7_run_45 : decode cX7_run 45 = .ok (.invokevirtual 142, 3) := by decide +kernel
theorem dX7_run_48 : decode cX7_run 48 = .ok (.iconst (-1), 1) := by decide +kernel
theorem dX7_run_49 : decode cX7_run 49 = .ok (.if_icmp .eq 15, 3) := by decide +kernel
theorem dX7_run_52 : decode cX7_run 52 = .ok (.aload_n 0, 1) := by decide +kernel
theorem dX7_run_53 : decode cX7_run 53 = .ok (.aload_n 0, 1) := by decide +kernel
theorem dX7_run_54 : decode cX7_run 54 = .ok (.invokevirtual 142, 3) := by decide +kernel
theorem dX7_run_57 : decode cX7_run 57 = .ok (.invokevirtual 196, 3) := by decide +kernel
theorem dX7_run_60 : decode cX7_run 60 = .ok (.istore_n 2, 1) := by decide +kernel
theorem dX7_run_61 : decode cX7_run 61 = .ok (.goto (-21), 3) := by decide +kernel
theorem dX7_run_64 : decode cX7_run 64 = .ok (.iload_n 2, 1) := by decide +kernel
theorem dX7_run_65 : decode cX7_run 65 = .ok (.ifCond .eq 16, 3) := by decide +kernel
theorem dX7_run_68 : decode cX7_run 68 = .ok (.aload_n 0, 1) := by decide +kernel
theorem dX7_run_69 : decode cX7_run 69 = .ok (.getfield 162, 3) := by decide +kernel
theorem dX7_run_72 : decode cX7_run 72 = .ok (.ifCond .le 9, 3) := by decide +kernel
theorem dX7_run_75 : decode cX7_run 75 = .ok (.aload_n 0, 1) := by decide +kernel
theorem dX7_run_76 : decode cX7_run 76 = .ok (.iconst 1, 1) := by decide +kernel
theorem dX7_run_77 : decode cX7_run 77 = .ok (.invokevirtual 150, 3) := by decide +kernel
theorem dX7_run_80 : decode cX7_run 80 = .ok (.istore_n 2, 1) := by decide +kernel
theorem dX7_run_81 : decode cX7_run 81 = .ok (.aload_n 0, 1) := by decide +kernel
theorem dX7_run_82 : decode cX7_run 82 = .ok (.getfield 162, 3) := by decide +kernel
theorem dX7_run_85 : decode cX7_run 85 = .ok (.ifCond .le 10, 3) := by decide +kernel
theorem dX7_run_88 : decode cX7_run 88 = .ok (.aload_n 0, 1) := by decide +kernel
theorem dX7_run_89 : decode cX7_run 89 = .ok (.invokevirtual 180, 3) := by decide +kernel
theorem dX7_run_92 : decode cX7_run 92 = .ok (.goto (-11), 3) := by decide +kernel
theorem dX7_run_95 : decode cX7_run 95 = .ok (.aload_n 0, 1) := by decide +kernel
theorem dX7_run_96 : decode cX7_run 96 = .ok (.getfield 7, 3) := by decide +kernel
theorem dX7_run_99 : decode cX7_run 99 = .ok (.sipush 1372, 3) := by decide +kernel
theorem dX7_run_102 : decode cX7_run 102 = .ok (.iconst 0, 1) := by decide +kernel
theorem dX7_run_103 : decode cX7_run 103 = .ok (.iastore, 1) := by decide +kernel
theorem dX7_run_104 : decode cX7_run 104 = .ok (.aload_n 0, 1) := by decide +kernel
theorem dX7_run_105 : decode cX7_run 105 = .ok (.getfield 7, 3) := by decide +kernel
theorem dX7_run_108 : decode cX7_run 108 = .ok (.sipush 1613, 3) := by decide +kernel
theorem dX7_run_111 : decode cX7_run 111 = .ok (.aload_n 0, 1) := by decide +kernel
theorem dX7_run_112 : decode cX7_run 112 = .ok (.getfield 139, 3) := by decide +kernel
theorem dX7_run_115 : decode cX7_run 115 = .ok (.iastore, 1) := by decide +kernel
theorem dX7_run_116 : decode cX7_run 116 = .ok (.aload_n 0, 1) := by decide +kernel
theorem dX7_run_117 : decode cX7_run 117 = .ok (.getfield 136, 3) := by decide +kernel
theorem dX7_run_120 : decode cX7_run 120 = .ok (.ifCond .le 13, 3) := by decide +kernel
theorem dX7_run_123 : decode cX7_run 123 = .ok (.bipush (-10), 2) := by decide +kernel
theorem dX7_run_125 : decode cX7_run 125 = .ok (.aload_n 0, 1) := by decide +kernel
theorem dX7_run_126 : decode cX7_run 126 = .ok (.getfield 136, 3) := by decide +kernel
theorem dX7_run_129 : decode cX7_run 129 = .ok (.isub, 1) := by decide +kernel
theorem dX7_run_130 : decode cX7_run 130 = .ok (.goto 12, 3) := by decide +kernel
theorem dX7_run_133 : decode cX7_run 133 = .ok (.aload_n 0, 1) := by decide +kernel
theorem dX7_run_134 : decode cX7_run 134 = .ok (.getfield 7, 3) := by decide +kernel
theorem dX7_run_137 : decode cX7_run 137 = .ok (.bipush 91, 2) := by decide +kernel
theorem dX7_run_139 : decode cX7_run 139 = .ok (.iaload, 1) := by decide +kernel
theorem dX7_run_140 : decode cX7_run 140 = .ok (.iload_n 1, 1) := by decide +kernel
theorem dX7_run_141 : decode cX7_run 141 = .ok (.isub, 1) := by decide +kernel
theorem dX7_run_142 : decode cX7_run 142 = .ok (.ireturn, 1) := by decide +kernel
theorem dX7_fault_0 : decode cX7_fault 0 = .ok (.aload_n 0, 1) := by decide +kernel
theorem dX7_fault_1 : decode cX7_fault 1 = .ok (.getfield 7, 3) := by decide +kernel
theorem dX7_fault_4 : decode cX7_fault 4 = .ok (.sipush 1613, 3) := by decide +kernel
theorem dX7_fault_7 : decode cX7_fault 7 = .ok (.iaload, 1) := by decide +kernel
theorem dX7_fault_8 : decode cX7_fault 8 = .ok (.ireturn, 1) := by decide +kernel
theorem dX7_whoIs_0 : decode cX7_whoIs 0 = .ok (.iconst 0, 1) := by decide +kernel
theorem dX7_whoIs_1 : decode cX7_whoIs 1 = .ok (.istore_n 2, 1) := by decide +kernel
theorem dX7_whoIs_2 : decode cX7_whoIs 2 = .ok (.iconst 0, 1) := by decide +kernel
theorem dX7_whoIs_3 : decode cX7_whoIs 3 = .ok (.istore_n 3, 1) := by decide +kernel
theorem dX7_whoIs_4 : decode cX7_whoIs 4 = .ok (.iload_n 3, 1) := by decide +kernel
theorem dX7_whoIs_5 : decode cX7_whoIs 5 = .ok (.iconst 4, 1) := by decide +kernel
theorem dX7_whoIs_6 : decode cX7_whoIs 6 = .ok (.if_icmp .ge 31, 3) := by decide +kernel
theorem dX7_whoIs_9 : decode cX7_whoIs 9 = .ok (.iload_n 2, 1) := by decide +kernel
theorem dX7_whoIs_10 : decode cX7_whoIs 10 = .ok (.aload_n 0, 1) := by decide +kernel
theorem dX7_whoIs_11 : decode cX7_whoIs 11 = .ok (.getfield 7, 3) := by decide +kernel
theorem dX7_whoIs_14 : decode cX7_whoIs 14 = .ok (.iconst 0, 1) := by decide +kernel
theorem dX7_whoIs_15 : decode cX7_whoIs 15 = .ok (.iload_n 3, 1) := by decide +kernel
theorem dX7_whoIs_16 : decode cX7_whoIs 16 = .ok (.iadd, 1) := by decide +kernel
theorem dX7_whoIs_17 : decode cX7_whoIs 17 = .ok (.iaload, 1) := by decide +kernel
theorem dX7_whoIs_18 : decode cX7_whoIs 18 = .ok (.iload_n 1, 1) := by decide +kernel
theorem dX7_whoIs_19 : decode cX7_whoIs 19 = .ok (.if_icmp .ne 9, 3) := by decide +kernel
theorem dX7_whoIs_22 : decode cX7_whoIs 22 = .ok (.iconst 1, 1) := by decide +kernel
theorem dX7_whoIs_23 : decode cX7_whoIs 23 = .ok (.iload_n 3, 1) := by decide +kernel
theorem dX7_whoIs_24 : decode cX7_whoIs 24 = .ok (.ishl, 1) := by decide +kernel
theorem dX7_whoIs_25 : decode cX7_whoIs 25 = .ok (.goto 4, 3) := by decide +kernel
theorem dX7_whoIs_28 : decode cX7_whoIs 28 = .ok (.iconst 0, 1) := by decide +kernel
theorem dX7_whoIs_29 : decode cX7_whoIs 29 = .ok (.ior, 1) := by decide +kernel
theorem dX7_whoIs_30 : decode cX7_whoIs 30 = .ok (.istore_n 2, 1) := by decide +kernel
theorem dX7_whoIs_31 : decode cX7_whoIs 31 = .ok (.iinc 3 1, 3) := by decide +kernel
theorem dX7_whoIs_34 : decode cX7_whoIs 34 = .ok (.goto (-30), 3) := by decide +kernel
theorem dX7_whoIs_37 : decode cX7_whoIs 37 = .ok (.iload_n 2, 1) := by decide +kernel
theorem dX7_whoIs_38 : decode cX7_whoIs 38 = .ok (.ireturn, 1) := by decide +kernel
theorem dX7_locksHeld_0 : decode cX7_locksHeld 0 = .ok (.iconst 0, 1) := by decide +kernel
theorem dX7_locksHeld_1 : decode cX7_locksHeld 1 = .ok (.istore_n 1, 1) := by decide +kernel
theorem dX7_locksHeld_2 : decode cX7_locksHeld 2 = .ok (.iconst 0, 1) := by decide +kernel
theorem dX7_locksHeld_3 : decode cX7_locksHeld 3 = .ok (.istore_n 2, 1) := by decide +kernel
theorem dX7_locksHeld_4 : decode cX7_locksHeld 4 = .ok (.iload_n 2, 1) := by decide +kernel
theorem dX7_locksHeld_5 : decode cX7_locksHeld 5 = .ok (.iconst 3, 1) := by decide +kernel
theorem dX7_locksHeld_6 : decode cX7_locksHeld 6 = .ok (.if_icmp .ge 32, 3) := by decide +kernel
theorem dX7_locksHeld_9 : decode cX7_locksHeld 9 = .ok (.iload_n 1, 1) := by decide +kernel
theorem dX7_locksHeld_10 : decode cX7_locksHeld 10 = .ok (.aload_n 0, 1) := by decide +kernel
theorem dX7_locksHeld_11 : decode cX7_locksHeld 11 = .ok (.getfield 7, 3) := by decide +kernel
theorem dX7_locksHeld_14 : decode cX7_locksHeld 14 = .ok (.bipush 40, 2) := by decide +kernel
theorem dX7_locksHeld_16 : decode cX7_locksHeld 16 = .ok (.iload_n 2, 1) := by decide +kernel
theorem dX7_locksHeld_17 : decode cX7_locksHeld 17 = .ok (.iadd, 1) := by decide +kernel
theorem dX7_locksHeld_18 : decode cX7_locksHeld 18 = .ok (.iaload, 1) := by decide +kernel
theorem dX7_locksHeld_19 : decode cX7_locksHeld 19 = .ok (.iconst (-1), 1) := by decide +kernel
theorem dX7_locksHeld_20 : decode cX7_locksHeld 20 = .ok (.if_icmp .eq 9, 3) := by decide +kernel
theorem dX7_locksHeld_23 : decode cX7_locksHeld 23 = .ok (.iconst 1, 1) := by decide +kernel
theorem dX7_locksHeld_24 : decode cX7_locksHeld 24 = .ok (.iload_n 2, 1) := by decide +kernel
theorem dX7_locksHeld_25 : decode cX7_locksHeld 25 = .ok (.ishl, 1) := by decide +kernel
theorem dX7_locksHeld_26 : decode cX7_locksHeld 26 = .ok (.goto 4, 3) := by decide +kernel
theorem dX7_locksHeld_29 : decode cX7_locksHeld 29 = .ok (.iconst 0, 1) := by decide +kernel
theorem dX7_locksHeld_30 : decode cX7_locksHeld 30 = .ok (.ior, 1) := by decide +kernel
theorem dX7_locksHeld_31 : decode cX7_locksHeld 31 = .ok (.istore_n 1, 1) := by decide +kernel
theorem dX7_locksHeld_32 : decode cX7_locksHeld 32 = .ok (.iinc 2 1, 3) := by decide +kernel
theorem dX7_locksHeld_35 : decode cX7_locksHeld 35 = .ok (.goto (-31), 3) := by decide +kernel
theorem dX7_locksHeld_38 : decode cX7_locksHeld 38 = .ok (.iload_n 1, 1) := by decide +kernel
theorem dX7_locksHeld_39 : decode cX7_locksHeld 39 = .ok (.ireturn, 1) := by decide +kernel
set_option maxRecDepth 20000 in
theorem ggX7_cellsRaced_X7_racesOf : GoodIn wsX7_cellsRaced wsX7_racesOf := goodIn_r _ [5, 6, 7, 8, 9, 4, 10, 11, 12, 13, 14, 15, 16, 17, 18, 19, 20, 21, 22, 23, 24, 25, 26, 27, 28, 29, 30, 31, 32] (by decide +kernel) (by decide +kernel)
set_option maxRecDepth 20000 in
theorem gX7_cellsRaced_X7_racesOf : GoodIn wsX7_cellsRaced (wsV RX7 199 RX7 yX7_racesOf wsX7_racesOf) := goodIn_app (goodIn_of _ (by decide +kernel)) ggX7_cellsRaced_X7_racesOf
theorem dX7_cellsRaced_0 : decode cX7_cellsRaced 0 = .ok (.iconst 0, 1) := by decide +kernel
theorem dX7_cellsRaced_1 : decode cX7_cellsRaced 1 = .ok (.istore_n 1, 1) := by decide +kernel
theorem dX7_cellsRaced_2 : decode cX7_cellsRaced 2 = .ok (.iconst 0, 1) := by decide +kernel
theorem dX7_cellsRaced_3 : decode cX7_cellsRaced 3 = .ok (.istore_n 2, 1) := by decide +kernel
theorem dX7_cellsRaced_4 : decode cX7_cellsRaced 4 = .ok (.iload_n 2, 1) := by decide +kernel
theorem dX7_cellsRaced_5 : decode cX7_cellsRaced 5 = .ok (.iconst 4, 1) := by decide +kernel
theorem dX7_cellsRaced_6 : decode cX7_cellsRaced 6 = .ok (.if_icmp .ge 28, 3) := by decide +kernel
theorem dX7_cellsRaced_9 : decode cX7_cellsRaced 9 = .ok (.iload_n 1, 1) := by decide +kernel
theorem dX7_cellsRaced_10 : decode cX7_cellsRaced 10 = .ok (.aload_n 0, 1) := by decide +kernel
theorem dX7_cellsRaced_11 : decode cX7_cellsRaced 11 = .ok (.iload_n 2, 1) := by decide +kernel
theorem dX7_cellsRaced_12 : decode cX7_cellsRaced 12 = .ok (.iconst 3, 1) := by decide +kernel
theorem dX7_cellsRaced_13 : decode cX7_cellsRaced 13 = .ok (.invokevirtual 199, 3) := by decide +kernel
theorem dX7_cellsRaced_16 : decode cX7_cellsRaced 16 = .ok (.ifCond .le 9, 3) := by decide +kernel
theorem dX7_cellsRaced_19 : decode cX7_cellsRaced 19 = .ok (.iconst 1, 1) := by decide +kernel
theorem dX7_cellsRaced_20 : decode cX7_cellsRaced 20 = .ok (.iload_n 2, 1) := by decide +kernel
theorem dX7_cellsRaced_21 : decode cX7_cellsRaced 21 = .ok (.ishl, 1) := by decide +kernel
theorem dX7_cellsRaced_22 : decode cX7_cellsRaced 22 = .ok (.goto 4, 3) := by decide +kernel
theorem dX7_cellsRaced_25 : decode cX7_cellsRaced 25 = .ok (.iconst 0, 1) := by decide +kernel
theorem dX7_cellsRaced_26 : decode cX7_cellsRaced 26 = .ok (.ior, 1) := by decide +kernel
theorem dX7_cellsRaced_27 : decode cX7_cellsRaced 27 = .ok (.istore_n 1, 1) := by decide +kernel
theorem dX7_cellsRaced_28 : decode cX7_cellsRaced 28 = .ok (.iinc 2 1, 3) := by decide +kernel
theorem dX7_cellsRaced_31 : decode cX7_cellsRaced 31 = .ok (.goto (-27), 3) := by decide +kernel
theorem dX7_cellsRaced_34 : decode cX7_cellsRaced 34 = .ok (.iload_n 1, 1) := by decide +kernel
theorem dX7_cellsRaced_35 : decode cX7_cellsRaced 35 = .ok (.ireturn, 1) := by decide +kernel
set_option maxRecDepth 20000 in
theorem ggX7_overCells_X7_racesOf : GoodIn wsX7_overCells wsX7_racesOf := goodIn_r _ [6, 1, 7, 8, 9, 5, 10, 11, 12, 13, 14, 15, 16, 17, 18, 22, 23, 24, 25, 26, 27, 28, 29, 30, 31, 32, 33, 34, 35] (by decide +kernel) (by decide +kernel)
set_option maxRecDepth 20000 in
theorem gX7_overCells_X7_racesOf : GoodIn wsX7_overCells (wsV RX7 199 RX7 yX7_racesOf wsX7_racesOf) := goodIn_app (goodIn_of _ (by decide +kernel)) ggX7_overCells_X7_racesOf
set_option maxRecDepth 20000 in
theorem ggX7_overCells_X7_of : GoodIn wsX7_overCells wsX7_of := goodIn_r _ [21] (by decide +kernel) (by decide +kernel)
set_option maxRecDepth 20000 in
theorem gX7_overCells_X7_of : GoodIn wsX7_overCells (va_wsS RX7 37 yX7_of wsX7_of) := goodIn_app (goodIn_of _ (by decide +kernel)) ggX7_overCells_X7_of
theorem dX7_overCells_0 : decode cX7_overCells 0 = .ok (.iconst 0, 1) := by decide +kernel
theorem dX7_overCells_1 : decode cX7_overCells 1 = .ok (.istore_n 2, 1) := by decide +kernel
theorem dX7_overCells_2 : decode cX7_overCells 2 = .ok (.iconst 0, 1) := by decide +kernel
theorem dX7_overCells_3 : decode cX7_overCells 3 = .ok (.istore_n 3, 1) := by decide +kernel
theorem dX7_overCells_4 : decode cX7_overCells 4 = .ok (.iload_n 3, 1) := by decide +kernel
theorem dX7_overCells_5 : decode cX7_overCells 5 = .ok (.iconst 4, 1) := by decide +kernel
theorem dX7_overCells_6 : decode cX7_overCells 6 = .ok (.if_icmp .ge 37, 3) := by decide +kernel
theorem dX7_overCells_9 : decode cX7_overCells 9 = .ok (.iload_n 2, 1) := by decide +kernel
theorem dX7_overCells_10 : decode cX7_overCells 10 = .ok (.iload_n 1, 1) := by decide +kernel
theorem dX7_overCells_11 : decode cX7_overCells 11 = .ok (.ifCond .eq 12, 3) := by decide +kernel
theorem dX7_overCells_14 : decode cX7_overCells 14 = .ok (.aload_n 0, 1) := by decide +kernel
theorem dX7_overCells_15 : decode cX7_overCells 15 = .ok (.iload_n 3, 1) := by decide +kernel
end
section
theorem dX7_overCells_16 : decode cX7_overCells 16 = .ok (.iconst 3, 1) := by decide +kernel
theorem dX7_overCells_17 : decode cX7_overCells 17 = .ok (.invokevirtual 199, 3) := by decide +kernel
theorem dX7_overCells_20 : decode cX7_overCells 20 = .ok (.goto 15, 3) := by decide +kernel
theorem dX7_overCells_23 : decode cX7_overCells 23 = .ok (.aload_n 0, 1) := by decide +kernel
theorem dX7_overCells_24 : decode cX7_overCells 24 = .ok (.getfield 7, 3) := by decide +kernel
theorem dX7_overCells_27 : decode cX7_overCells 27 = .ok (.iload_n 3, 1) := by decide +kernel
theorem dX7_overCells_28 : decode cX7_overCells 28 = .ok (.invokestatic 37, 3) := by decide +kernel
theorem dX7_overCells_31 : decode cX7_overCells 31 = .ok (.bipush 9, 2) := by decide +kernel
theorem dX7_overCells_33 : decode cX7_overCells 33 = .ok (.iadd, 1) := by decide +kernel
theorem dX7_overCells_34 : decode cX7_overCells 34 = .ok (.iaload, 1) := by decide +kernel
theorem dX7_overCells_35 : decode cX7_overCells 35 = .ok (.iadd, 1) := by decide +kernel
theorem dX7_overCells_36 : decode cX7_overCells 36 = .ok (.istore_n 2, 1) := by decide +kernel
theorem dX7_overCells_37 : decode cX7_overCells 37 = .ok (.iinc 3 1, 3) := by decide +kernel
theorem dX7_overCells_40 : decode cX7_overCells 40 = .ok (.goto (-36), 3) := by decide +kernel
theorem dX7_overCells_43 : decode cX7_overCells 43 = .ok (.iload_n 2, 1) := by decide +kernel
theorem dX7_overCells_44 : decode cX7_overCells 44 = .ok (.ireturn, 1) := by decide +kernel
set_option maxRecDepth 20000 in
theorem ggX7_told_X7_whoIs : GoodIn wsX7_told wsX7_whoIs := goodIn_r _ [8, 1, 40, 41, 42, 43, 44, 45, 46, 47, 48, 49, 50, 51, 52, 53] (by decide +kernel) (by decide +kernel)
set_option maxRecDepth 20000 in
theorem gX7_told_X7_whoIs : GoodIn wsX7_told (wsV RX7 202 RX7 yX7_whoIs wsX7_whoIs) := goodIn_app (goodIn_of _ (by decide +kernel)) ggX7_told_X7_whoIs
set_option maxRecDepth 20000 in
theorem ggX7_told_X7_locksHeld : GoodIn wsX7_told wsX7_locksHeld := goodIn_r _ [12, 1, 40, 41, 42, 43, 44, 45, 46, 47, 48, 49, 50, 51, 52, 53] (by decide +kernel) (by decide +kernel)
set_option maxRecDepth 20000 in
theorem gX7_told_X7_locksHeld : GoodIn wsX7_told (wsV RX7 205 RX7 yX7_locksHeld wsX7_locksHeld) := goodIn_app (goodIn_of _ (by decide +kernel)) ggX7_told_X7_locksHeld
set_option maxRecDepth 20000 in
theorem ggX7_told_X7_cellsRaced : GoodIn wsX7_told wsX7_cellsRaced := goodIn_r _ [16, 17, 18, 19, 7, 20, 1, 21, 22, 23, 24, 25, 26, 27, 28, 29, 30, 31, 32, 40, 41, 42, 43, 44, 45, 46, 47, 48, 49, 50, 51, 52, 53] (by decide +kernel) (by decide +kernel)
set_option maxRecDepth 20000 in
theorem gX7_told_X7_cellsRaced : GoodIn wsX7_told (wsV RX7 208 RX7 yX7_cellsRaced wsX7_cellsRaced) := goodIn_app (goodIn_of _ (by decide +kernel)) ggX7_told_X7_cellsRaced
set_option maxRecDepth 20000 in
theorem ggX7_told_X7_overCells : GoodIn wsX7_told wsX7_overCells := goodIn_r _ [36, 1, 17, 18, 19, 7, 20, 21, 22, 23, 24, 25, 26, 27, 28, 29, 30, 31, 32, 37, 38, 39, 40, 41, 42, 43, 44, 45, 46, 47, 48, 49, 50, 51, 52, 53] (by decide +kernel) (by decide +kernel)
set_option maxRecDepth 20000 in
theorem gX7_told_X7_overCells : GoodIn wsX7_told (wsV RX7 211 RX7 yX7_overCells wsX7_overCells) := goodIn_app (goodIn_of _ (by decide +kernel)) ggX7_told_X7_overCells
theorem dX7_told_0 : decode cX7_told 0 = .ok (.iload_n 1, 1) := by decide +kernel
theorem dX7_told_1 : decode cX7_told 1 = .ok (.tableswitch 107 0 8 #[51, 59, 65, 71, 76, 81, 87, 96, 101], 51) := by decide +kernel
theorem dX7_told_52 : decode cX7_told 52 = .ok (.aload_n 0, 1) := by decide +kernel
theorem dX7_told_53 : decode cX7_told 53 = .ok (.getfield 7, 3) := by decide +kernel
theorem dX7_told_56 : decode cX7_told 56 = .ok (.bipush 91, 2) := by decide +kernel
theorem dX7_told_58 : decode cX7_told 58 = .ok (.iaload, 1) := by decide +kernel
theorem dX7_told_59 : decode cX7_told 59 = .ok (.ireturn, 1) := by decide +kernel
theorem dX7_told_60 : decode cX7_told 60 = .ok (.aload_n 0, 1) := by decide +kernel
theorem dX7_told_61 : decode cX7_told 61 = .ok (.iconst 1, 1) := by decide +kernel
theorem dX7_told_62 : decode cX7_told 62 = .ok (.invokevirtual 202, 3) := by decide +kernel
theorem dX7_told_65 : decode cX7_told 65 = .ok (.ireturn, 1) := by decide +kernel
theorem dX7_told_66 : decode cX7_told 66 = .ok (.aload_n 0, 1) := by decide +kernel
theorem dX7_told_67 : decode cX7_told 67 = .ok (.iconst 2, 1) := by decide +kernel
theorem dX7_told_68 : decode cX7_told 68 = .ok (.invokevirtual 202, 3) := by decide +kernel
theorem dX7_told_71 : decode cX7_told 71 = .ok (.ireturn, 1) := by decide +kernel
theorem dX7_told_72 : decode cX7_told 72 = .ok (.aload_n 0, 1) := by decide +kernel
theorem dX7_told_73 : decode cX7_told 73 = .ok (.invokevirtual 205, 3) := by decide +kernel
theorem dX7_told_76 : decode cX7_told 76 = .ok (.ireturn, 1) := by decide +kernel
theorem dX7_told_77 : decode cX7_told 77 = .ok (.aload_n 0, 1) := by decide +kernel
theorem dX7_told_78 : decode cX7_told 78 = .ok (.invokevirtual 208, 3) := by decide +kernel
theorem dX7_told_81 : decode cX7_told 81 = .ok (.ireturn, 1) := by decide +kernel
theorem dX7_told_82 : decode cX7_told 82 = .ok (.aload_n 0, 1) := by decide +kernel
theorem dX7_told_83 : decode cX7_told 83 = .ok (.iconst 1, 1) := by decide +kernel
theorem dX7_told_84 : decode cX7_told 84 = .ok (.invokevirtual 211, 3) := by decide +kernel
theorem dX7_told_87 : decode cX7_told 87 = .ok (.ireturn, 1) := by decide +kernel
theorem dX7_told_88 : decode cX7_told 88 = .ok (.aload_n 0, 1) := by decide +kernel
theorem dX7_told_89 : decode cX7_told 89 = .ok (.getfield 7, 3) := by decide +kernel
theorem dX7_told_92 : decode cX7_told 92 = .ok (.sipush 1372, 3) := by decide +kernel
theorem dX7_told_95 : decode cX7_told 95 = .ok (.iaload, 1) := by decide +kernel
theorem dX7_told_96 : decode cX7_told 96 = .ok (.ireturn, 1) := by decide +kernel
theorem dX7_told_97 : decode cX7_told 97 = .ok (.aload_n 0, 1) := by decide +kernel
theorem dX7_told_98 : decode cX7_told 98 = .ok (.getfield 129, 3) := by decide +kernel
theorem dX7_told_101 : decode cX7_told 101 = .ok (.ireturn, 1) := by decide +kernel
theorem dX7_told_102 : decode cX7_told 102 = .ok (.aload_n 0, 1) := by decide +kernel
theorem dX7_told_103 : decode cX7_told 103 = .ok (.iconst 0, 1) := by decide +kernel
theorem dX7_told_104 : decode cX7_told 104 = .ok (.invokevirtual 211, 3) := by decide +kernel
theorem dX7_told_107 : decode cX7_told 107 = .ok (.ireturn, 1) := by decide +kernel
theorem dX7_told_108 : decode cX7_told 108 = .ok (.ldc 98, 2) := by decide +kernel
theorem dX7_told_110 : decode cX7_told 110 = .ok (.ireturn, 1) := by decide +kernel
set_option maxRecDepth 20000 in
theorem ggX7_clock_X7_isThread : GoodIn wsX7_clock wsX7_isThread := goodIn_r _ [7, 8, 9, 10, 6, 11] (by decide +kernel) (by decide +kernel)
set_option maxRecDepth 20000 in
theorem gX7_clock_X7_isThread : GoodIn wsX7_clock (va_wsS RX7 56 yX7_isThread wsX7_isThread) := goodIn_app (goodIn_of _ (by decide +kernel)) ggX7_clock_X7_isThread
set_option maxRecDepth 20000 in
theorem ggX7_clock_X7_isLock : GoodIn wsX7_clock wsX7_isLock := goodIn_r _ [14, 15, 9, 10, 6, 11] (by decide +kernel) (by decide +kernel)
set_option maxRecDepth 20000 in
theorem gX7_clock_X7_isLock : GoodIn wsX7_clock (va_wsS RX7 50 yX7_isLock wsX7_isLock) := goodIn_app (goodIn_of _ (by decide +kernel)) ggX7_clock_X7_isLock
set_option maxRecDepth 20000 in
theorem ggX7_clock_X7_isSeen : GoodIn wsX7_clock wsX7_isSeen := goodIn_r _ [18, 9, 10, 6, 11] (by decide +kernel) (by decide +kernel)
set_option maxRecDepth 20000 in
theorem gX7_clock_X7_isSeen : GoodIn wsX7_clock (va_wsS RX7 53 yX7_isSeen wsX7_isSeen) := goodIn_app (goodIn_of _ (by decide +kernel)) ggX7_clock_X7_isSeen
theorem dX7_clock_0 : decode cX7_clock 0 = .ok (.iload_n 3, 1) := by decide +kernel
theorem dX7_clock_1 : decode cX7_clock 1 = .ok (.invokestatic 56, 3) := by decide +kernel
theorem dX7_clock_4 : decode cX7_clock 4 = .ok (.ifCond .ne 6, 3) := by decide +kernel
theorem dX7_clock_7 : decode cX7_clock 7 = .ok (.ldc 97, 2) := by decide +kernel
theorem dX7_clock_9 : decode cX7_clock 9 = .ok (.ireturn, 1) := by decide +kernel
theorem dX7_clock_10 : decode cX7_clock 10 = .ok (.iload_n 1, 1) := by decide +kernel
theorem dX7_clock_11 : decode cX7_clock 11 = .ok (.tableswitch 102 0 2 #[25, 50, 76], 25) := by decide +kernel
theorem dX7_clock_36 : decode cX7_clock 36 = .ok (.iload_n 2, 1) := by decide +kernel
theorem dX7_clock_37 : decode cX7_clock 37 = .ok (.invokestatic 56, 3) := by decide +kernel
theorem dX7_clock_40 : decode cX7_clock 40 = .ok (.ifCond .eq 18, 3) := by decide +kernel
theorem dX7_clock_43 : decode cX7_clock 43 = .ok (.aload_n 0, 1) := by decide +kernel
theorem dX7_clock_44 : decode cX7_clock 44 = .ok (.getfield 7, 3) := by decide +kernel
theorem dX7_clock_47 : decode cX7_clock 47 = .ok (.iconst 4, 1) := by decide +kernel
theorem dX7_clock_48 : decode cX7_clock 48 = .ok (.iconst 4, 1) := by decide +kernel
theorem dX7_clock_49 : decode cX7_clock 49 = .ok (.iload_n 2, 1) := by decide +kernel
theorem dX7_clock_50 : decode cX7_clock 50 = .ok (.imul, 1) := by decide +kernel
theorem dX7_clock_51 : decode cX7_clock 51 = .ok (.iadd, 1) := by decide +kernel
theorem dX7_clock_52 : decode cX7_clock 52 = .ok (.iload_n 3, 1) := by decide +kernel
theorem dX7_clock_53 : decode cX7_clock 53 = .ok (.iadd, 1) := by decide +kernel
theorem dX7_clock_54 : decode cX7_clock 54 = .ok (.iaload, 1) := by decide +kernel
theorem dX7_clock_55 : decode cX7_clock 55 = .ok (.goto 5, 3) := by decide +kernel
theorem dX7_clock_58 : decode cX7_clock 58 = .ok (.ldc 97, 2) := by decide +kernel
theorem dX7_clock_60 : decode cX7_clock 60 = .ok (.ireturn, 1) := by decide +kernel
theorem dX7_clock_61 : decode cX7_clock 61 = .ok (.iload_n 2, 1) := by decide +kernel
theorem dX7_clock_62 : decode cX7_clock 62 = .ok (.invokestatic 50, 3) := by decide +kernel
theorem dX7_clock_65 : decode cX7_clock 65 = .ok (.ifCond .eq 19, 3) := by decide +kernel
theorem dX7_clock_68 : decode cX7_clock 68 = .ok (.aload_n 0, 1) := by decide +kernel
theorem dX7_clock_69 : decode cX7_clock 69 = .ok (.getfield 7, 3) := by decide +kernel
theorem dX7_clock_72 : decode cX7_clock 72 = .ok (.bipush 20, 2) := by decide +kernel
theorem dX7_clock_74 : decode cX7_clock 74 = .ok (.iconst 4, 1) := by decide +kernel
theorem dX7_clock_75 : decode cX7_clock 75 = .ok (.iload_n 2, 1) := by decide +kernel
theorem dX7_clock_76 : decode cX7_clock 76 = .ok (.imul, 1) := by decide +kernel
theorem dX7_clock_77 : decode cX7_clock 77 = .ok (.iadd, 1) := by decide +kernel
theorem dX7_clock_78 : decode cX7_clock 78 = .ok (.iload_n 3, 1) := by decide +kernel
theorem dX7_clock_79 : decode cX7_clock 79 = .ok (.iadd, 1) := by decide +kernel
theorem dX7_clock_80 : decode cX7_clock 80 = .ok (.iaload, 1) := by decide +kernel
theorem dX7_clock_81 : decode cX7_clock 81 = .ok (.goto 5, 3) := by decide +kernel
theorem dX7_clock_84 : decode cX7_clock 84 = .ok (.ldc 97, 2) := by decide +kernel
theorem dX7_clock_86 : decode cX7_clock 86 = .ok (.ireturn, 1) := by decide +kernel
theorem dX7_clock_87 : decode cX7_clock 87 = .ok (.iload_n 2, 1) := by decide +kernel
theorem dX7_clock_88 : decode cX7_clock 88 = .ok (.invokestatic 53, 3) := by decide +kernel
theorem dX7_clock_91 : decode cX7_clock 91 = .ok (.ifCond .eq 19, 3) := by decide +kernel
theorem dX7_clock_94 : decode cX7_clock 94 = .ok (.aload_n 0, 1) := by decide +kernel
theorem dX7_clock_95 : decode cX7_clock 95 = .ok (.getfield 7, 3) := by decide +kernel
theorem dX7_clock_98 : decode cX7_clock 98 = .ok (.bipush 32, 2) := by decide +kernel
theorem dX7_clock_100 : decode cX7_clock 100 = .ok (.iconst 4, 1) := by decide +kernel
theorem dX7_clock_101 : decode cX7_clock 101 = .ok (.iload_n 2, 1) := by decide +kernel
theorem dX7_clock_102 : decode cX7_clock 102 = .ok (.imul, 1) := by decide +kernel
theorem dX7_clock_103 : decode cX7_clock 103 = .ok (.iadd, 1) := by decide +kernel
theorem dX7_clock_104 : decode cX7_clock 104 = .ok (.iload_n 3, 1) := by decide +kernel
theorem dX7_clock_105 : decode cX7_clock 105 = .ok (.iadd, 1) := by decide +kernel
theorem dX7_clock_106 : decode cX7_clock 106 = .ok (.iaload, 1) := by decide +kernel
theorem dX7_clock_107 : decode cX7_clock 107 = .ok (.goto 5, 3) := by decide +kernel
theorem dX7_clock_110 : decode cX7_clock 110 = .ok (.ldc 97, 2) := by decide +kernel
theorem dX7_clock_112 : decode cX7_clock 112 = .ok (.ireturn, 1) := by decide +kernel
theorem dX7_clock_113 : decode cX7_clock 113 = .ok (.ldc 98, 2) := by decide +kernel
theorem dX7_clock_115 : decode cX7_clock 115 = .ok (.ireturn, 1) := by decide +kernel
set_option maxRecDepth 20000 in
theorem ggX7_isEvent_X7_in : GoodIn wsX7_isEvent wsX7_in := goodIn_r _ [5] (by decide +kernel) (by decide +kernel)
set_option maxRecDepth 20000 in
theorem gX7_isEvent_X7_in : GoodIn wsX7_isEvent (va_wsS RX7 31 yX7_in wsX7_in) := goodIn_app (goodIn_of _ (by decide +kernel)) ggX7_isEvent_X7_in
theorem dX7_isEvent_0 : decode cX7_isEvent 0 = .ok (.iload_n 1, 1) := by decide +kernel
theorem dX7_isEvent_1 : decode cX7_isEvent 1 = .ok (.i2l, 1) := by decide +kernel
theorem dX7_isEvent_2 : decode cX7_isEvent 2 = .ok (.lconst 0, 1) := by decide +kernel
theorem dX7_isEvent_3 : decode cX7_isEvent 3 = .ok (.aload_n 0, 1) := by decide +kernel
theorem dX7_isEvent_4 : decode cX7_isEvent 4 = .ok (.getfield 7, 3) := by decide +kernel
theorem dX7_isEvent_7 : decode cX7_isEvent 7 = .ok (.bipush 91, 2) := by decide +kernel
theorem dX7_isEvent_9 : decode cX7_isEvent 9 = .ok (.iaload, 1) := by decide +kernel
theorem dX7_isEvent_10 : decode cX7_isEvent 10 = .ok (.iconst 1, 1) := by decide +kernel
theorem dX7_isEvent_11 : decode cX7_isEvent 11 = .ok (.isub, 1) := by decide +kernel
theorem dX7_isEvent_12 : decode cX7_isEvent 12 = .ok (.i2l, 1) := by decide +kernel
theorem dX7_isEvent_13 : decode cX7_isEvent 13 = .ok (.invokestatic 31, 3) := by decide +kernel
theorem dX7_isEvent_16 : decode cX7_isEvent 16 = .ok (.ireturn, 1) := by decide +kernel
set_option maxRecDepth 20000 in
theorem ggX7_eventOf_X7_isEvent : GoodIn wsX7_eventOf wsX7_isEvent := goodIn_r _ [9, 3, 10, 11, 8, 12, 13, 14, 15, 16, 17, 18, 19, 20, 21, 22, 23, 24, 25, 26] (by decide +kernel) (by decide +kernel)
set_option maxRecDepth 20000 in
theorem gX7_eventOf_X7_isEvent : GoodIn wsX7_eventOf (wsV RX7 215 RX7 yX7_isEvent wsX7_isEvent) := goodIn_app (goodIn_of _ (by decide +kernel)) ggX7_eventOf_X7_isEvent
set_option maxRecDepth 20000 in
theorem ggX7_eventOf_X7_in : GoodIn wsX7_eventOf wsX7_in := goodIn_r _ [12] (by decide +kernel) (by decide +kernel)
set_option maxRecDepth 20000 in
theorem gX7_eventOf_X7_in : GoodIn wsX7_eventOf (va_wsS RX7 31 yX7_in wsX7_in) := goodIn_app (goodIn_of _ (by decide +kernel)) ggX7_eventOf_X7_in
theorem dX7_eventOf_0 : decode cX7_eventOf 0 = .ok (.aload_n 0, 1) := by decide +kernel
theorem dX7_eventOf_1 : decode cX7_eventOf 1 = .ok (.iload_n 1, 1) := by decide +kernel
theorem dX7_eventOf_2 : decode cX7_eventOf 2 = .ok (.invokevirtual 215, 3) := by decide +kernel
theorem dX7_eventOf_5 : decode cX7_eventOf 5 = .ok (.ifCond .ne 6, 3) := by decide +kernel
theorem dX7_eventOf_8 : decode cX7_eventOf 8 = .ok (.ldc 97, 2) := by decide +kernel
theorem dX7_eventOf_10 : decode cX7_eventOf 10 = .ok (.ireturn, 1) := by decide +kernel
theorem dX7_eventOf_11 : decode cX7_eventOf 11 = .ok (.iload_n 2, 1) := by decide +kernel
theorem dX7_eventOf_12 : decode cX7_eventOf 12 = .ok (.i2l, 1) := by decide +kernel
theorem dX7_eventOf_13 : decode cX7_eventOf 13 = .ok (.lconst 0, 1) := by decide +kernel
theorem dX7_eventOf_14 : decode cX7_eventOf 14 = .ok (.ldc2_w 91, 3) := by decide +kernel
theorem dX7_eventOf_17 : decode cX7_eventOf 17 = .ok (.invokestatic 31, 3) := by decide +kernel
theorem dX7_eventOf_20 : decode cX7_eventOf 20 = .ok (.ifCond .eq 20, 3) := by decide +kernel
theorem dX7_eventOf_23 : decode cX7_eventOf 23 = .ok (.aload_n 0, 1) := by decide +kernel
theorem dX7_eventOf_24 : decode cX7_eventOf 24 = .ok (.getfield 7, 3) := by decide +kernel
theorem dX7_eventOf_27 : decode cX7_eventOf 27 = .ok (.bipush 92, 2) := by decide +kernel
theorem dX7_eventOf_29 : decode cX7_eventOf 29 = .ok (.bipush 8, 2) := by decide +kernel
theorem dX7_eventOf_31 : decode cX7_eventOf 31 = .ok (.iload_n 1, 1) := by decide +kernel
theorem dX7_eventOf_32 : decode cX7_eventOf 32 = .ok (.imul, 1) := by decide +kernel
theorem dX7_eventOf_33 : decode cX7_eventOf 33 = .ok (.iadd, 1) := by decide +kernel
theorem dX7_eventOf_34 : decode cX7_eventOf 34 = .ok (.iload_n 2, 1) := by decide +kernel
theorem dX7_eventOf_35 : decode cX7_eventOf 35 = .ok (.iadd, 1) := by decide +kernel
theorem dX7_eventOf_36 : decode cX7_eventOf 36 = .ok (.iaload, 1) := by decide +kernel
theorem dX7_eventOf_37 : decode cX7_eventOf 37 = .ok (.goto 5, 3) := by decide +kernel
theorem dX7_eventOf_40 : decode cX7_eventOf 40 = .ok (.ldc 98, 2) := by decide +kernel
theorem dX7_eventOf_42 : decode cX7_eventOf 42 = .ok (.ireturn, 1) := by decide +kernel
set_option maxRecDepth 20000 in
theorem ggX7_holder_X7_isLock : GoodIn wsX7_holder wsX7_isLock := goodIn_r _ [6, 7, 8, 9, 5, 10] (by decide +kernel) (by decide +kernel)
set_option maxRecDepth 20000 in
theorem gX7_holder_X7_isLock : GoodIn wsX7_holder (va_wsS RX7 50 yX7_isLock wsX7_isLock) := goodIn_app (goodIn_of _ (by decide +kernel)) ggX7_holder_X7_isLock
theorem dX7_holder_0 : decode cX7_holder 0 = .ok (.iload_n 1, 1) := by decide +kernel
theorem dX7_holder_1 : decode cX7_holder 1 = .ok (.invokestatic 50, 3) := by decide +kernel
theorem dX7_holder_4 : decode cX7_holder 4 = .ok (.ifCond .eq 15, 3) := by decide +kernel
theorem dX7_holder_7 : decode cX7_holder 7 = .ok (.aload_n 0, 1) := by decide +kernel
theorem dX7_holder_8 : decode cX7_holder 8 = .ok (.getfield 7, 3) := by decide +kernel
theorem dX7_holder_11 : decode cX7_holder 11 = .ok (.bipush 40, 2) := by decide +kernel
theorem dX7_holder_13 : decode cX7_holder 13 = .ok (.iload_n 1, 1) := by decide +kernel
theorem dX7_holder_14 : decode cX7_holder 14 = .ok (.iadd, 1) := by decide +kernel
theorem dX7_holder_15 : decode cX7_holder 15 = .ok (.iaload, 1) := by decide +kernel
theorem dX7_holder_16 : decode cX7_holder 16 = .ok (.goto 5, 3) := by decide +kernel
theorem dX7_holder_19 : decode cX7_holder 19 = .ok (.ldc 97, 2) := by decide +kernel
theorem dX7_holder_21 : decode cX7_holder 21 = .ok (.ireturn, 1) := by decide +kernel
set_option maxRecDepth 20000 in
theorem ggX7_journal_X7_in : GoodIn wsX7_journal wsX7_in := goodIn_r _ [7] (by decide +kernel) (by decide +kernel)
set_option maxRecDepth 20000 in
theorem gX7_journal_X7_in : GoodIn wsX7_journal (va_wsS RX7 31 yX7_in wsX7_in) := goodIn_app (goodIn_of _ (by decide +kernel)) ggX7_journal_X7_in
theorem dX7_journal_0 : decode cX7_journal 0 = .ok (.iload_n 2, 1) := by decide +kernel
theorem dX7_journal_1 : decode cX7_journal 1 = .ok (.i2l, 1) := by decide +kernel
theorem dX7_journal_2 : decode cX7_journal 2 = .ok (.lconst 0, 1) := by decide +kernel
theorem dX7_journal_3 : decode cX7_journal 3 = .ok (.lconst 1, 1) := by decide +kernel
theorem dX7_journal_4 : decode cX7_journal 4 = .ok (.invokestatic 31, 3) := by decide +kernel
theorem dX7_journal_7 : decode cX7_journal 7 = .ok (.ifCond .ne 6, 3) := by decide +kernel
theorem dX7_journal_10 : decode cX7_journal 10 = .ok (.ldc 98, 2) := by decide +kernel
theorem dX7_journal_12 : decode cX7_journal 12 = .ok (.ireturn, 1) := by decide +kernel
theorem dX7_journal_13 : decode cX7_journal 13 = .ok (.iload_n 1, 1) := by decide +kernel
theorem dX7_journal_14 : decode cX7_journal 14 = .ok (.i2l, 1) := by decide +kernel
theorem dX7_journal_15 : decode cX7_journal 15 = .ok (.lconst 0, 1) := by decide +kernel
theorem dX7_journal_16 : decode cX7_journal 16 = .ok (.aload_n 0, 1) := by decide +kernel
theorem dX7_journal_17 : decode cX7_journal 17 = .ok (.getfield 129, 3) := by decide +kernel
theorem dX7_journal_20 : decode cX7_journal 20 = .ok (.iconst 1, 1) := by decide +kernel
theorem dX7_journal_21 : decode cX7_journal 21 = .ok (.isub, 1) := by decide +kernel
theorem dX7_journal_22 : decode cX7_journal 22 = .ok (.i2l, 1) := by decide +kernel
theorem dX7_journal_23 : decode cX7_journal 23 = .ok (.invokestatic 31, 3) := by decide +kernel
theorem dX7_journal_26 : decode cX7_journal 26 = .ok (.ifCond .ne 5, 3) := by decide +kernel
theorem dX7_journal_29 : decode cX7_journal 29 = .ok (.iconst (-1), 1) := by decide +kernel
theorem dX7_journal_30 : decode cX7_journal 30 = .ok (.ireturn, 1) := by decide +kernel
theorem dX7_journal_31 : decode cX7_journal 31 = .ok (.aload_n 0, 1) := by decide +kernel
theorem dX7_journal_32 : decode cX7_journal 32 = .ok (.getfield 17, 3) := by decide +kernel
theorem dX7_journal_35 : decode cX7_journal 35 = .ok (.aload_n 0, 1) := by decide +kernel
theorem dX7_journal_36 : decode cX7_journal 36 = .ok (.getfield 129, 3) := by decide +kernel
theorem dX7_journal_39 : decode cX7_journal 39 = .ok (.iconst 1, 1) := by decide +kernel
theorem dX7_journal_40 : decode cX7_journal 40 = .ok (.isub, 1) := by decide +kernel
theorem dX7_journal_41 : decode cX7_journal 41 = .ok (.iload_n 1, 1) := by decide +kernel
theorem dX7_journal_42 : decode cX7_journal 42 = .ok (.isub, 1) := by decide +kernel
theorem dX7_journal_43 : decode cX7_journal 43 = .ok (.iaload, 1) := by decide +kernel
theorem dX7_journal_44 : decode cX7_journal 44 = .ok (.istore_n 3, 1) := by decide +kernel
theorem dX7_journal_45 : decode cX7_journal 45 = .ok (.iload_n 2, 1) := by decide +kernel
theorem dX7_journal_46 : decode cX7_journal 46 = .ok (.ifCond .ne 9, 3) := by decide +kernel
theorem dX7_journal_49 : decode cX7_journal 49 = .ok (.iload_n 3, 1) := by decide +kernel
theorem dX7_journal_50 : decode cX7_journal 50 = .ok (.iconst 2, 1) := by decide +kernel
theorem dX7_journal_51 : decode cX7_journal 51 = .ok (.idiv, 1) := by decide +kernel
theorem dX7_journal_52 : decode cX7_journal 52 = .ok (.goto 6, 3) := by decide +kernel
theorem dX7_journal_55 : decode cX7_journal 55 = .ok (.iload_n 3, 1) := by decide +kernel
theorem dX7_journal_56 : decode cX7_journal 56 = .ok (.iconst 2, 1) := by decide +kernel
theorem dX7_journal_57 : decode cX7_journal 57 = .ok (.irem, 1) := by decide +kernel
theorem dX7_journal_58 : decode cX7_journal 58 = .ok (.ireturn, 1) := by decide +kernel
theorem dX7_isAhead_0 : decode cX7_isAhead 0 = .ok (.aload_n 0, 1) := by decide +kernel
theorem dX7_isAhead_1 : decode cX7_isAhead 1 = .ok (.getfield 7, 3) := by decide +kernel
theorem dX7_isAhead_4 : decode cX7_isAhead 4 = .ok (.bipush 92, 2) := by decide +kernel
theorem dX7_isAhead_6 : decode cX7_isAhead 6 = .ok (.bipush 8, 2) := by decide +kernel
theorem dX7_isAhead_8 : decode cX7_isAhead 8 = .ok (.iload_n 1, 1) := by decide +kernel
theorem dX7_isAhead_9 : decode cX7_isAhead 9 = .ok (.imul, 1) := by decide +kernel
theorem dX7_isAhead_10 : decode cX7_isAhead 10 = .ok (.iadd, 1) := by decide +kernel
theorem dX7_isAhead_11 : decode cX7_isAhead 11 = .ok (.iaload, 1) := by decide +kernel
theorem dX7_isAhead_12 : decode cX7_isAhead 12 = .ok (.istore_n 3, 1) := by decide +kernel
theorem dX7_isAhead_13 : decode cX7_isAhead 13 = .ok (.aload_n 0, 1) := by decide +kernel
theorem dX7_isAhead_14 : decode cX7_isAhead 14 = .ok (.getfield 7, 3) := by decide +kernel
theorem dX7_isAhead_17 : decode cX7_isAhead 17 = .ok (.bipush 92, 2) := by decide +kernel
theorem dX7_isAhead_19 : decode cX7_isAhead 19 = .ok (.bipush 8, 2) := by decide +kernel
theorem dX7_isAhead_21 : decode cX7_isAhead 21 = .ok (.iload_n 2, 1) := by decide +kernel
theorem dX7_isAhead_22 : decode cX7_isAhead 22 = .ok (.imul, 1) := by decide +kernel
theorem dX7_isAhead_23 : decode cX7_isAhead 23 = .ok (.iadd, 1) := by decide +kernel
theorem dX7_isAhead_24 : decode cX7_isAhead 24 = .ok (.iconst 3, 1) := by decide +kernel
theorem dX7_isAhead_25 : decode cX7_isAhead 25 = .ok (.iadd, 1) := by decide +kernel
theorem dX7_isAhead_26 : decode cX7_isAhead 26 = .ok (.iload_n 3, 1) := by decide +kernel
theorem dX7_isAhead_27 : decode cX7_isAhead 27 = .ok (.iadd, 1) := by decide +kernel
theorem dX7_isAhead_28 : decode cX7_isAhead 28 = .ok (.iaload, 1) := by decide +kernel
theorem dX7_isAhead_29 : decode cX7_isAhead 29 = .ok (.aload_n 0, 1) := by decide +kernel
theorem dX7_isAhead_30 : decode cX7_isAhead 30 = .ok (.getfield 7, 3) := by decide +kernel
theorem dX7_isAhead_33 : decode cX7_isAhead 33 = .ok (.bipush 92, 2) := by decide +kernel
theorem dX7_isAhead_35 : decode cX7_isAhead 35 = .ok (.bipush 8, 2) := by decide +kernel
theorem dX7_isAhead_37 : decode cX7_isAhead 37 = .ok (.iload_n 1, 1) := by decide +kernel
theorem dX7_isAhead_38 : decode cX7_isAhead 38 = .ok (.imul, 1) := by decide +kernel
theorem dX7_isAhead_39 : decode cX7_isAhead 39 = .ok (.iadd, 1) := by decide +kernel
theorem dX7_isAhead_40 : decode cX7_isAhead 40 = .ok (.iconst 3, 1) := by decide +kernel
theorem dX7_isAhead_41 : decode cX7_isAhead 41 = .ok (.iadd, 1) := by decide +kernel
theorem dX7_isAhead_42 : decode cX7_isAhead 42 = .ok (.iload_n 3, 1) := by decide +kernel
theorem dX7_isAhead_43 : decode cX7_isAhead 43 = .ok (.iadd, 1) := by decide +kernel
theorem dX7_isAhead_44 : decode cX7_isAhead 44 = .ok (.iaload, 1) := by decide +kernel
theorem dX7_isAhead_45 : decode cX7_isAhead 45 = .ok (.if_icmp .lt 7, 3) := by decide +kernel
theorem dX7_isAhead_48 : decode cX7_isAhead 48 = .ok (.iconst 1, 1) := by decide +kernel
theorem dX7_isAhead_49 : decode cX7_isAhead 49 = .ok (.goto 4, 3) := by decide +kernel
theorem dX7_isAhead_52 : decode cX7_isAhead 52 = .ok (.iconst 0, 1) := by decide +kernel
theorem dX7_isAhead_53 : decode cX7_isAhead 53 = .ok (.ireturn, 1) := by decide +kernel
set_option maxRecDepth 20000 in
theorem ggX7_ahead_X7_isEvent : GoodIn wsX7_ahead wsX7_isEvent := goodIn_r _ [6, 7, 8, 9, 5, 10, 15, 16, 17, 18, 19, 20, 21, 22, 23, 24, 25, 26, 27, 28] (by decide +kernel) (by decide +kernel)
set_option maxRecDepth 20000 in
theorem gX7_ahead_X7_isEvent : GoodIn wsX7_ahead (wsV RX7 215 RX7 yX7_isEvent wsX7_isEvent) := goodIn_app (goodIn_of _ (by decide +kernel)) ggX7_ahead_X7_isEvent
set_option maxRecDepth 20000 in
theorem ggX7_ahead_X7_isAhead : GoodIn wsX7_ahead wsX7_isAhead := goodIn_r _ [14, 7, 15, 16, 17, 18, 19, 20, 21, 22, 23, 24, 25, 26, 27, 28] (by decide +kernel) (by decide +kernel)
set_option maxRecDepth 20000 in
theorem gX7_ahead_X7_isAhead : GoodIn wsX7_ahead (wsV RX7 218 RX7 yX7_isAhead wsX7_isAhead) := goodIn_app (goodIn_of _ (by decide +kernel)) ggX7_ahead_X7_isAhead
theorem dX7_ahead_0 : decode cX7_ahead 0 = .ok (.aload_n 0, 1) := by decide +kernel
theorem dX7_ahead_1 : decode cX7_ahead 1 = .ok (.iload_n 1, 1) := by decide +kernel
theorem dX7_ahead_2 : decode cX7_ahead 2 = .ok (.invokevirtual 215, 3) := by decide +kernel
theorem dX7_ahead_5 : decode cX7_ahead 5 = .ok (.ifCond .eq 16, 3) := by decide +kernel
theorem dX7_ahead_8 : decode cX7_ahead 8 = .ok (.aload_n 0, 1) := by decide +kernel
theorem dX7_ahead_9 : decode cX7_ahead 9 = .ok (.iload_n 2, 1) := by decide +kernel
theorem dX7_ahead_10 : decode cX7_ahead 10 = .ok (.invokevirtual 215, 3) := by decide +kernel
theorem dX7_ahead_13 : decode cX7_ahead 13 = .ok (.ifCond .eq 8, 3) := by decide +kernel
theorem dX7_ahead_16 : decode cX7_ahead 16 = .ok (.iload_n 1, 1) := by decide +kernel
theorem dX7_ahead_17 : decode cX7_ahead 17 = .ok (.iload_n 2, 1) := by decide +kernel
theorem dX7_ahead_18 : decode cX7_ahead 18 = .ok (.if_icmp .ne 6, 3) := by decide +kernel
theorem dX7_ahead_21 : decode cX7_ahead 21 = .ok (.ldc 97, 2) := by decide +kernel
theorem dX7_ahead_23 : decode cX7_ahead 23 = .ok (.ireturn, 1) := by decide +kernel
theorem dX7_ahead_24 : decode cX7_ahead 24 = .ok (.iload_n 1, 1) := by decide +kernel
theorem dX7_ahead_25 : decode cX7_ahead 25 = .ok (.iload_n 2, 1) := by decide +kernel
theorem dX7_ahead_26 : decode cX7_ahead 26 = .ok (.if_icmp .ge 16, 3) := by decide +kernel
theorem dX7_ahead_29 : decode cX7_ahead 29 = .ok (.aload_n 0, 1) := by decide +kernel
theorem dX7_ahead_30 : decode cX7_ahead 30 = .ok (.iload_n 1, 1) := by decide +kernel
theorem dX7_ahead_31 : decode cX7_ahead 31 = .ok (.iload_n 2, 1) := by decide +kernel
theorem dX7_ahead_32 : decode cX7_ahead 32 = .ok (.invokevirtual 218, 3) := by decide +kernel
theorem dX7_ahead_35 : decode cX7_ahead 35 = .ok (.ifCond .eq 7, 3) := by decide +kernel
theorem dX7_ahead_38 : decode cX7_ahead 38 = .ok (.iconst 1, 1) := by decide +kernel
theorem dX7_ahead_39 : decode cX7_ahead 39 = .ok (.goto 4, 3) := by decide +kernel
theorem dX7_ahead_42 : decode cX7_ahead 42 = .ok (.iconst 0, 1) := by decide +kernel
theorem dX7_ahead_43 : decode cX7_ahead 43 = .ok (.ireturn, 1) := by decide +kernel
theorem dX7_isAccess_0 : decode cX7_isAccess 0 = .ok (.aload_n 0, 1) := by decide +kernel
theorem dX7_isAccess_1 : decode cX7_isAccess 1 = .ok (.getfield 7, 3) := by decide +kernel
theorem dX7_isAccess_4 : decode cX7_isAccess 4 = .ok (.bipush 92, 2) := by decide +kernel
theorem dX7_isAccess_6 : decode cX7_isAccess 6 = .ok (.bipush 8, 2) := by decide +kernel
theorem dX7_isAccess_8 : decode cX7_isAccess 8 = .ok (.iload_n 1, 1) := by decide +kernel
theorem dX7_isAccess_9 : decode cX7_isAccess 9 = .ok (.imul, 1) := by decide +kernel
theorem dX7_isAccess_10 : decode cX7_isAccess 10 = .ok (.iadd, 1) := by decide +kernel
theorem dX7_isAccess_11 : decode cX7_isAccess 11 = .ok (.iconst 1, 1) := by decide +kernel
theorem dX7_isAccess_12 : decode cX7_isAccess 12 = .ok (.iadd, 1) := by decide +kernel
theorem dX7_isAccess_13 : decode cX7_isAccess 13 = .ok (.iaload, 1) := by decide +kernel
theorem dX7_isAccess_14 : decode cX7_isAccess 14 = .ok (.iconst 1, 1) := by decide +kernel
theorem dX7_isAccess_15 : decode cX7_isAccess 15 = .ok (.if_icmp .gt 25, 3) := by decide +kernel
theorem dX7_isAccess_18 : decode cX7_isAccess 18 = .ok (.aload_n 0, 1) := by decide +kernel
theorem dX7_isAccess_19 : decode cX7_isAccess 19 = .ok (.getfield 7, 3) := by decide +kernel
theorem dX7_isAccess_22 : decode cX7_isAccess 22 = .ok (.bipush 92, 2) := by decide +kernel
theorem dX7_isAccess_24 : decode cX7_isAccess 24 = .ok (.bipush 8, 2) := by decide +kernel
theorem dX7_isAccess_26 : decode cX7_isAccess 26 = .ok (.iload_n 1, 1) := by decide +kernel
theorem dX7_isAccess_27 : decode cX7_isAccess 27 = .ok (.imul, 1) := by decide +kernel
theorem dX7_isAccess_28 : decode cX7_isAccess 28 = .ok (.iadd, 1) := by decide +kernel
theorem dX7_isAccess_29 : decode cX7_isAccess 29 = .ok (.iconst 2, 1) := by decide +kernel
theorem dX7_isAccess_30 : decode cX7_isAccess 30 = .ok (.iadd, 1) := by decide +kernel
theorem dX7_isAccess_31 : decode cX7_isAccess 31 = .ok (.iaload, 1) := by decide +kernel
theorem dX7_isAccess_32 : decode cX7_isAccess 32 = .ok (.iload_n 2, 1) := by decide +kernel
theorem dX7_isAccess_33 : decode cX7_isAccess 33 = .ok (.if_icmp .ne 7, 3) := by decide +kernel
theorem dX7_isAccess_36 : decode cX7_isAccess 36 = .ok (.iconst 1, 1) := by decide +kernel
theorem dX7_isAccess_37 : decode cX7_isAccess 37 = .ok (.goto 4, 3) := by decide +kernel
theorem dX7_isAccess_40 : decode cX7_isAccess 40 = .ok (.iconst 0, 1) := by decide +kernel
theorem dX7_isAccess_41 : decode cX7_isAccess 41 = .ok (.ireturn, 1) := by decide +kernel
set_option maxRecDepth 20000 in
theorem ggX7_kindBy_X7_isAccess : GoodIn wsX7_kindBy wsX7_isAccess := goodIn_r _ [6, 1, 11, 12, 13, 14, 15, 16, 17, 18, 19, 20, 21, 22, 23, 24] (by decide +kernel) (by decide +kernel)
set_option maxRecDepth 20000 in
theorem gX7_kindBy_X7_isAccess : GoodIn wsX7_kindBy (wsV RX7 222 RX7 yX7_isAccess wsX7_isAccess) := goodIn_app (goodIn_of _ (by decide +kernel)) ggX7_kindBy_X7_isAccess
set_option maxRecDepth 20000 in
theorem ggX7_kindBy_X7_isAhead : GoodIn wsX7_kindBy wsX7_isAhead := goodIn_r _ [10, 1, 11, 12, 13, 14, 15, 16, 17, 18, 19, 20, 21, 22, 23, 24] (by decide +kernel) (by decide +kernel)
set_option maxRecDepth 20000 in
theorem gX7_kindBy_X7_isAhead : GoodIn wsX7_kindBy (wsV RX7 218 RX7 yX7_isAhead wsX7_isAhead) := goodIn_app (goodIn_of _ (by decide +kernel)) ggX7_kindBy_X7_isAhead
theorem dX7_kindBy_0 : decode cX7_kindBy 0 = .ok (.aload_n 0, 1) := by decide +kernel
theorem dX7_kindBy_1 : decode cX7_kindBy 1 = .ok (.iload_n 1, 1) := by decide +kernel
theorem dX7_kindBy_2 : decode cX7_kindBy 2 = .ok (.iload_n 3, 1) := by decide +kernel
theorem dX7_kindBy_3 : decode cX7_kindBy 3 = .ok (.invokevirtual 222, 3) := by decide +kernel
theorem dX7_kindBy_6 : decode cX7_kindBy 6 = .ok (.ifCond .eq 39, 3) := by decide +kernel
theorem dX7_kindBy_9 : decode cX7_kindBy 9 = .ok (.aload_n 0, 1) := by decide +kernel
theorem dX7_kindBy_10 : decode cX7_kindBy 10 = .ok (.getfield 7, 3) := by decide +kernel
theorem dX7_kindBy_13 : decode cX7_kindBy 13 = .ok (.bipush 92, 2) := by decide +kernel
theorem dX7_kindBy_15 : decode cX7_kindBy 15 = .ok (.bipush 8, 2) := by decide +kernel
theorem dX7_kindBy_17 : decode cX7_kindBy 17 = .ok (.iload_n 1, 1) := by decide +kernel
theorem dX7_kindBy_18 : decode cX7_kindBy 18 = .ok (.imul, 1) := by decide +kernel
theorem dX7_kindBy_19 : decode cX7_kindBy 19 = .ok (.iadd, 1) := by decide +kernel
theorem dX7_kindBy_20 : decode cX7_kindBy 20 = .ok (.iaload, 1) := by decide +kernel
theorem dX7_kindBy_21 : decode cX7_kindBy 21 = .ok (.aload_n 0, 1) := by decide +kernel
theorem dX7_kindBy_22 : decode cX7_kindBy 22 = .ok (.getfield 7, 3) := by decide +kernel
theorem dX7_kindBy_25 : decode cX7_kindBy 25 = .ok (.bipush 92, 2) := by decide +kernel
theorem dX7_kindBy_27 : decode cX7_kindBy 27 = .ok (.bipush 8, 2) := by decide +kernel
theorem dX7_kindBy_29 : decode cX7_kindBy 29 = .ok (.iload_n 2, 1) := by decide +kernel
theorem dX7_kindBy_30 : decode cX7_kindBy 30 = .ok (.imul, 1) := by decide +kernel
theorem dX7_kindBy_31 : decode cX7_kindBy 31 = .ok (.iadd, 1) := by decide +kernel
theorem dX7_kindBy_32 : decode cX7_kindBy 32 = .ok (.iaload, 1) := by decide +kernel
theorem dX7_kindBy_33 : decode cX7_kindBy 33 = .ok (.if_icmp .eq 12, 3) := by decide +kernel
theorem dX7_kindBy_36 : decode cX7_kindBy 36 = .ok (.aload_n 0, 1) := by decide +kernel
theorem dX7_kindBy_37 : decode cX7_kindBy 37 = .ok (.iload_n 1, 1) := by decide +kernel
theorem dX7_kindBy_38 : decode cX7_kindBy 38 = .ok (.iload_n 2, 1) := by decide +kernel
theorem dX7_kindBy_39 : decode cX7_kindBy 39 = .ok (.invokevirtual 218, 3) := by decide +kernel
theorem dX7_kindBy_42 : decode cX7_kindBy 42 = .ok (.ifCond .eq 5, 3) := by decide +kernel
theorem dX7_kindBy_45 : decode cX7_kindBy 45 = .ok (.iconst (-1), 1) := by decide +kernel
theorem dX7_kindBy_46 : decode cX7_kindBy 46 = .ok (.ireturn, 1) := by decide +kernel
theorem dX7_kindBy_47 : decode cX7_kindBy 47 = .ok (.aload_n 0, 1) := by decide +kernel
theorem dX7_kindBy_48 : decode cX7_kindBy 48 = .ok (.getfield 7, 3) := by decide +kernel
theorem dX7_kindBy_51 : decode cX7_kindBy 51 = .ok (.bipush 92, 2) := by decide +kernel
theorem dX7_kindBy_53 : decode cX7_kindBy 53 = .ok (.bipush 8, 2) := by decide +kernel
theorem dX7_kindBy_55 : decode cX7_kindBy 55 = .ok (.iload_n 1, 1) := by decide +kernel
theorem dX7_kindBy_56 : decode cX7_kindBy 56 = .ok (.imul, 1) := by decide +kernel
theorem dX7_kindBy_57 : decode cX7_kindBy 57 = .ok (.iadd, 1) := by decide +kernel
theorem dX7_kindBy_58 : decode cX7_kindBy 58 = .ok (.iconst 1, 1) := by decide +kernel
theorem dX7_kindBy_59 : decode cX7_kindBy 59 = .ok (.iadd, 1) := by decide +kernel
theorem dX7_kindBy_60 : decode cX7_kindBy 60 = .ok (.iaload, 1) := by decide +kernel
theorem dX7_kindBy_61 : decode cX7_kindBy 61 = .ok (.iconst 1, 1) := by decide +kernel
theorem dX7_kindBy_62 : decode cX7_kindBy 62 = .ok (.if_icmp .ne 7, 3) := by decide +kernel
theorem dX7_kindBy_65 : decode cX7_kindBy 65 = .ok (.iconst 1, 1) := by decide +kernel
theorem dX7_kindBy_66 : decode cX7_kindBy 66 = .ok (.goto 4, 3) := by decide +kernel
theorem dX7_kindBy_69 : decode cX7_kindBy 69 = .ok (.iconst 0, 1) := by decide +kernel
theorem dX7_kindBy_70 : decode cX7_kindBy 70 = .ok (.istore 4, 2) := by decide +kernel
theorem dX7_kindBy_72 : decode cX7_kindBy 72 = .ok (.aload_n 0, 1) := by decide +kernel
theorem dX7_kindBy_73 : decode cX7_kindBy 73 = .ok (.getfield 7, 3) := by decide +kernel
theorem dX7_kindBy_76 : decode cX7_kindBy 76 = .ok (.bipush 92, 2) := by decide +kernel
theorem dX7_kindBy_78 : decode cX7_kindBy 78 = .ok (.bipush 8, 2) := by decide +kernel
theorem dX7_kindBy_80 : decode cX7_kindBy 80 = .ok (.iload_n 2, 1) := by decide +kernel
theorem dX7_kindBy_81 : decode cX7_kindBy 81 = .ok (.imul, 1) := by decide +kernel
theorem dX7_kindBy_82 : decode cX7_kindBy 82 = .ok (.iadd, 1) := by decide +kernel
theorem dX7_kindBy_83 : decode cX7_kindBy 83 = .ok (.iconst 1, 1) := by decide +kernel
theorem dX7_kindBy_84 : decode cX7_kindBy 84 = .ok (.iadd, 1) := by decide +kernel
theorem dX7_kindBy_85 : decode cX7_kindBy 85 = .ok (.iaload, 1) := by decide +kernel
theorem dX7_kindBy_86 : decode cX7_kindBy 86 = .ok (.iconst 1, 1) := by decide +kernel
theorem dX7_kindBy_87 : decode cX7_kindBy 87 = .ok (.if_icmp .ne 7, 3) := by decide +kernel
theorem dX7_kindBy_90 : decode cX7_kindBy 90 = .ok (.iconst 1, 1) := by decide +kernel
theorem dX7_kindBy_91 : decode cX7_kindBy 91 = .ok (.goto 4, 3) := by decide +kernel
theorem dX7_kindBy_94 : decode cX7_kindBy 94 = .ok (.iconst 0, 1) := by decide +kernel
theorem dX7_kindBy_95 : decode cX7_kindBy 95 = .ok (.istore 5, 2) := by decide +kernel
theorem dX7_kindBy_97 : decode cX7_kindBy 97 = .ok (.iload 4, 2) := by decide +kernel
theorem dX7_kindBy_99 : decode cX7_kindBy 99 = .ok (.ifCond .eq 12, 3) := by decide +kernel
theorem dX7_kindBy_102 : decode cX7_kindBy 102 = .ok (.iload 5, 2) := by decide +kernel
theorem dX7_kindBy_104 : decode cX7_kindBy 104 = .ok (.ifCond .eq 7, 3) := by decide +kernel
theorem dX7_kindBy_107 : decode cX7_kindBy 107 = .ok (.iconst 0, 1) := by decide +kernel
theorem dX7_kindBy_108 : decode cX7_kindBy 108 = .ok (.goto 22, 3) := by decide +kernel
theorem dX7_kindBy_111 : decode cX7_kindBy 111 = .ok (.iload 4, 2) := by decide +kernel
theorem dX7_kindBy_113 : decode cX7_kindBy 113 = .ok (.ifCond .eq 7, 3) := by decide +kernel
theorem dX7_kindBy_116 : decode cX7_kindBy 116 = .ok (.iconst 1, 1) := by decide +kernel
theorem dX7_kindBy_117 : decode cX7_kindBy 117 = .ok (.goto 13, 3) := by decide +kernel
theorem dX7_kindBy_120 : decode cX7_kindBy 120 = .ok (.iload 5, 2) := by decide +kernel
theorem dX7_kindBy_122 : decode cX7_kindBy 122 = .ok (.ifCond .eq 7, 3) := by decide +kernel
theorem dX7_kindBy_125 : decode cX7_kindBy 125 = .ok (.iconst 2, 1) := by decide +kernel
theorem dX7_kindBy_126 : decode cX7_kindBy 126 = .ok (.goto 4, 3) := by decide +kernel
theorem dX7_kindBy_129 : decode cX7_kindBy 129 = .ok (.iconst (-1), 1) := by decide +kernel
theorem dX7_kindBy_130 : decode cX7_kindBy 130 = .ok (.ireturn, 1) := by decide +kernel
set_option maxRecDepth 20000 in
theorem ggX7_racesOf_X7_isAccess : GoodIn wsX7_racesOf wsX7_isAccess := goodIn_r _ [6, 1, 15, 16, 17, 18, 19, 20, 21, 22, 23, 24, 25, 26, 27, 28] (by decide +kernel) (by decide +kernel)
set_option maxRecDepth 20000 in
theorem gX7_racesOf_X7_isAccess : GoodIn wsX7_racesOf (wsV RX7 222 RX7 yX7_isAccess wsX7_isAccess) := goodIn_app (goodIn_of _ (by decide +kernel)) ggX7_racesOf_X7_isAccess
set_option maxRecDepth 20000 in
theorem ggX7_racesOf_X7_kindBy : GoodIn wsX7_racesOf wsX7_kindBy := goodIn_r _ [10, 1, 2, 3, 4, 5, 6, 11, 12, 13, 14, 15, 16, 17, 18, 19, 20, 21, 22, 23, 24, 25, 26, 27, 28] (by decide +kernel) (by decide +kernel)
set_option maxRecDepth 20000 in
theorem gX7_racesOf_X7_kindBy : GoodIn wsX7_racesOf (wsV RX7 225 RX7 yX7_kindBy wsX7_kindBy) := goodIn_app (goodIn_of _ (by decide +kernel)) ggX7_racesOf_X7_kindBy
theorem dX7_racesOf_0 : decode cX7_racesOf 0 = .ok (.iconst 0, 1) := by decide +kernel
theorem dX7_racesOf_1 : decode cX7_racesOf 1 = .ok (.istore_n 3, 1) := by decide +kernel
theorem dX7_racesOf_2 : decode cX7_racesOf 2 = .ok (.iconst 0, 1) := by decide +kernel
theorem dX7_racesOf_3 : decode cX7_racesOf 3 = .ok (.istore 4, 2) := by decide +kernel
theorem dX7_racesOf_5 : decode cX7_racesOf 5 = .ok (.iload 4, 2) := by decide +kernel
theorem dX7_racesOf_7 : decode cX7_racesOf 7 = .ok (.aload_n 0, 1) := by decide +kernel
theorem dX7_racesOf_8 : decode cX7_racesOf 8 = .ok (.getfield 7, 3) := by decide +kernel
theorem dX7_racesOf_11 : decode cX7_racesOf 11 = .ok (.bipush 91, 2) := by decide +kernel
theorem dX7_racesOf_13 : decode cX7_racesOf 13 = .ok (.iaload, 1) := by decide +kernel
theorem dX7_racesOf_14 : decode cX7_racesOf 14 = .ok (.if_icmp .ge 71, 3) := by decide +kernel
theorem dX7_racesOf_17 : decode cX7_racesOf 17 = .ok (.iconst 0, 1) := by decide +kernel
theorem dX7_racesOf_18 : decode cX7_racesOf 18 = .ok (.istore 5, 2) := by decide +kernel
theorem dX7_racesOf_20 : decode cX7_racesOf 20 = .ok (.iload 5, 2) := by decide +kernel
theorem dX7_racesOf_22 : decode cX7_racesOf 22 = .ok (.iload 4, 2) := by decide +kernel
theorem dX7_racesOf_24 : decode cX7_racesOf 24 = .ok (.if_icmp .ge 55, 3) := by decide +kernel
theorem dX7_racesOf_27 : decode cX7_racesOf 27 = .ok (.aload_n 0, 1) := by decide +kernel
theorem dX7_racesOf_28 : decode cX7_racesOf 28 = .ok (.iload 4, 2) := by decide +kernel
theorem dX7_racesOf_30 : decode cX7_racesOf 30 = .ok (.iload_n 1, 1) := by decide +kernel
theorem dX7_racesOf_31 : decode cX7_racesOf 31 = .ok (.invokevirtual 222, 3) := by decide +kernel
theorem dX7_racesOf_34 : decode cX7_racesOf 34 = .ok (.ifCond .eq 45, 3) := by decide +kernel
theorem dX7_racesOf_37 : decode cX7_racesOf 37 = .ok (.aload_n 0, 1) := by decide +kernel
theorem dX7_racesOf_38 : decode cX7_racesOf 38 = .ok (.iload 5, 2) := by decide +kernel
theorem dX7_racesOf_40 : decode cX7_racesOf 40 = .ok (.iload 4, 2) := by decide +kernel
theorem dX7_racesOf_42 : decode cX7_racesOf 42 = .ok (.iload_n 1, 1) := by decide +kernel
theorem dX7_racesOf_43 : decode cX7_racesOf 43 = .ok (.invokevirtual 225, 3) := by decide +kernel
theorem dX7_racesOf_46 : decode cX7_racesOf 46 = .ok (.istore 6, 2) := by decide +kernel
theorem dX7_racesOf_48 : decode cX7_racesOf 48 = .ok (.iload_n 3, 1) := by decide +kernel
theorem dX7_racesOf_49 : decode cX7_racesOf 49 = .ok (.iload 6, 2) := by decide +kernel
theorem dX7_racesOf_51 : decode cX7_racesOf 51 = .ok (.iconst (-1), 1) := by decide +kernel
theorem dX7_racesOf_52 : decode cX7_racesOf 52 = .ok (.if_icmp .eq 18, 3) := by decide +kernel
theorem dX7_racesOf_55 : decode cX7_racesOf 55 = .ok (.iload_n 2, 1) := by decide +kernel
theorem dX7_racesOf_56 : decode cX7_racesOf 56 = .ok (.iconst 3, 1) := by decide +kernel
theorem dX7_racesOf_57 : decode cX7_racesOf 57 = .ok (.if_icmp .eq 9, 3) := by decide +kernel
theorem dX7_racesOf_60 : decode cX7_racesOf 60 = .ok (.iload 6, 2) := by decide +kernel
theorem dX7_racesOf_62 : decode cX7_racesOf 62 = .ok (.iload_n 2, 1) := by decide +kernel
theorem dX7_racesOf_63 : decode cX7_racesOf 63 = .ok (.if_icmp .ne 7, 3) := by decide +kernel
theorem dX7_racesOf_66 : decode cX7_racesOf 66 = .ok (.iconst 1, 1) := by decide +kernel
theorem dX7_racesOf_67 : decode cX7_racesOf 67 = .ok (.goto 4, 3) := by decide +kernel
theorem dX7_racesOf_70 : decode cX7_racesOf 70 = .ok (.iconst 0, 1) := by decide +kernel
theorem dX7_racesOf_71 : decode cX7_racesOf 71 = .ok (.iadd, 1) := by decide +kernel
theorem dX7_racesOf_72 : decode cX7_racesOf 72 = .ok (.istore_n 3, 1) := by decide +kernel
theorem dX7_racesOf_73 : decode cX7_racesOf 73 = .ok (.iinc 5 1, 3) := by decide +kernel
theorem dX7_racesOf_76 : decode cX7_racesOf 76 = .ok (.goto (-56), 3) := by decide +kernel
theorem dX7_racesOf_79 : decode cX7_racesOf 79 = .ok (.iinc 4 1, 3) := by decide +kernel
theorem dX7_racesOf_82 : decode cX7_racesOf 82 = .ok (.goto (-77), 3) := by decide +kernel
theorem dX7_racesOf_85 : decode cX7_racesOf 85 = .ok (.iload_n 3, 1) := by decide +kernel
theorem dX7_racesOf_86 : decode cX7_racesOf 86 = .ok (.ireturn, 1) := by decide +kernel
set_option maxRecDepth 20000 in
theorem ggX7_races_X7_isCell : GoodIn wsX7_races wsX7_isCell := goodIn_r _ [7, 2, 8, 9, 6, 10] (by decide +kernel) (by decide +kernel)
set_option maxRecDepth 20000 in
theorem gX7_races_X7_isCell : GoodIn wsX7_races (va_wsS RX7 46 yX7_isCell wsX7_isCell) := goodIn_app (goodIn_of _ (by decide +kernel)) ggX7_races_X7_isCell
set_option maxRecDepth 20000 in
theorem ggX7_races_X7_in : GoodIn wsX7_races wsX7_in := goodIn_r _ [10] (by decide +kernel) (by decide +kernel)
set_option maxRecDepth 20000 in
theorem gX7_races_X7_in : GoodIn wsX7_races (va_wsS RX7 31 yX7_in wsX7_in) := goodIn_app (goodIn_of _ (by decide +kernel)) ggX7_races_X7_in
set_option maxRecDepth 20000 in
theorem ggX7_races_X7_racesOf : GoodIn wsX7_races wsX7_racesOf := goodIn_r _ [14, 15, 16, 17, 18, 6, 19, 20, 21, 22, 23, 24, 25, 26, 27, 28, 29, 30, 31, 32, 33, 34, 35, 36, 37, 38, 39, 40, 41] (by decide +kernel) (by decide +kernel)
set_option maxRecDepth 20000 in
theorem gX7_races_X7_racesOf : GoodIn wsX7_races (wsV RX7 199 RX7 yX7_racesOf wsX7_racesOf) := goodIn_app (goodIn_of _ (by decide +kernel)) ggX7_races_X7_racesOf
theorem dX7_races_0 : decode cX7_races 0 = .ok (.iload_n 1, 1) := by decide +kernel
theorem dX7_races_1 : decode cX7_races 1 = .ok (.invokestatic 46, 3) := by decide +kernel
theorem dX7_races_4 : decode cX7_races 4 = .ok (.ifCond .ne 6, 3) := by decide +kernel
theorem dX7_races_7 : decode cX7_races 7 = .ok (.ldc 97, 2) := by decide +kernel
theorem dX7_races_9 : decode cX7_races 9 = .ok (.ireturn, 1) := by decide +kernel
theorem dX7_races_10 : decode cX7_races 10 = .ok (.iload_n 2, 1) := by decide +kernel
theorem dX7_races_11 : decode cX7_races 11 = .ok (.i2l, 1) := by decide +kernel
theorem dX7_races_12 : decode cX7_races 12 = .ok (.lconst 0, 1) := by decide +kernel
theorem dX7_races_13 : decode cX7_races 13 = .ok (.ldc2_w 29, 3) := by decide +kernel
theorem dX7_races_16 : decode cX7_races 16 = .ok (.invokestatic 31, 3) := by decide +kernel
theorem dX7_races_19 : decode cX7_races 19 = .ok (.ifCond .eq 12, 3) := by decide +kernel
theorem dX7_races_22 : decode cX7_races 22 = .ok (.aload_n 0, 1) := by decide +kernel
theorem dX7_races_23 : decode cX7_races 23 = .ok (.iload_n 1, 1) := by decide +kernel
theorem dX7_races_24 : decode cX7_races 24 = .ok (.iload_n 2, 1) := by decide +kernel
theorem dX7_races_25 : decode cX7_races 25 = .ok (.invokevirtual 199, 3) := by decide +kernel
theorem dX7_races_28 : decode cX7_races 28 = .ok (.goto 5, 3) := by decide +kernel
theorem dX7_races_31 : decode cX7_races 31 = .ok (.ldc 98, 2) := by decide +kernel
theorem dX7_races_33 : decode cX7_races 33 = .ok (.ireturn, 1) := by decide +kernel
set_option maxRecDepth 20000 in
theorem ggX7_race_X7_isCell : GoodIn wsX7_race wsX7_isCell := goodIn_r _ [8, 9, 10, 11, 7, 12] (by decide +kernel) (by decide +kernel)
set_option maxRecDepth 20000 in
theorem gX7_race_X7_isCell : GoodIn wsX7_race (va_wsS RX7 46 yX7_isCell wsX7_isCell) := goodIn_app (goodIn_of _ (by decide +kernel)) ggX7_race_X7_isCell
set_option maxRecDepth 20000 in
theorem ggX7_race_X7_in : GoodIn wsX7_race wsX7_in := goodIn_r _ [12] (by decide +kernel) (by decide +kernel)
set_option maxRecDepth 20000 in
theorem gX7_race_X7_in : GoodIn wsX7_race (va_wsS RX7 31 yX7_in wsX7_in) := goodIn_app (goodIn_of _ (by decide +kernel)) ggX7_race_X7_in
set_option maxRecDepth 20000 in
theorem ggX7_race_X7_isAccess : GoodIn wsX7_race wsX7_isAccess := goodIn_r _ [16, 4, 25, 26, 27, 28, 29, 30, 31, 32, 33, 34, 35, 36, 37, 38] (by decide +kernel) (by decide +kernel)
set_option maxRecDepth 20000 in
theorem gX7_race_X7_isAccess : GoodIn wsX7_race (wsV RX7 222 RX7 yX7_isAccess wsX7_isAccess) := goodIn_app (goodIn_of _ (by decide +kernel)) ggX7_race_X7_isAccess
set_option maxRecDepth 20000 in
theorem ggX7_race_X7_kindBy : GoodIn wsX7_race wsX7_kindBy := goodIn_r _ [20, 4, 13, 14, 15, 7, 16, 21, 22, 23, 24, 25, 26, 27, 28, 29, 30, 31, 32, 33, 34, 35, 36, 37, 38] (by decide +kernel) (by decide +kernel)
set_option maxRecDepth 20000 in
theorem gX7_race_X7_kindBy : GoodIn wsX7_race (wsV RX7 225 RX7 yX7_kindBy wsX7_kindBy) := goodIn_app (goodIn_of _ (by decide +kernel)) ggX7_race_X7_kindBy
theorem dX7_race_0 : decode cX7_race 0 = .ok (.iload_n 1, 1) := by decide +kernel
theorem dX7_race_1 : decode cX7_race 1 = .ok (.invokestatic 46, 3) := by decide +kernel
theorem dX7_race_4 : decode cX7_race 4 = .ok (.ifCond .ne 6, 3) := by decide +kernel
theorem dX7_race_7 : decode cX7_race 7 = .ok (.ldc 97, 2) := by decide +kernel
theorem dX7_race_9 : decode cX7_race 9 = .ok (.ireturn, 1) := by decide +kernel
theorem dX7_race_10 : decode cX7_race 10 = .ok (.iload_n 3, 1) := by decide +kernel
theorem dX7_race_11 : decode cX7_race 11 = .ok (.i2l, 1) := by decide +kernel
theorem dX7_race_12 : decode cX7_race 12 = .ok (.lconst 0, 1) := by decide +kernel
theorem dX7_race_13 : decode cX7_race 13 = .ok (.ldc2_w 35, 3) := by decide +kernel
theorem dX7_race_16 : decode cX7_race 16 = .ok (.invokestatic 31, 3) := by decide +kernel
theorem dX7_race_19 : decode cX7_race 19 = .ok (.ifCond .eq 7, 3) := by decide +kernel
theorem dX7_race_22 : decode cX7_race 22 = .ok (.iload_n 2, 1) := by decide +kernel
theorem dX7_race_23 : decode cX7_race 23 = .ok (.ifCond .ge 6, 3) := by decide +kernel
theorem dX7_race_26 : decode cX7_race 26 = .ok (.ldc 98, 2) := by decide +kernel
theorem dX7_race_28 : decode cX7_race 28 = .ok (.ireturn, 1) := by decide +kernel
theorem dX7_race_29 : decode cX7_race 29 = .ok (.iload_n 2, 1) := by decide +kernel
theorem dX7_race_30 : decode cX7_race 30 = .ok (.istore 4, 2) := by decide +kernel
theorem dX7_race_32 : decode cX7_race 32 = .ok (.iconst 0, 1) := by decide +kernel
theorem dX7_race_33 : decode cX7_race 33 = .ok (.istore 5, 2) := by decide +kernel
theorem dX7_race_35 : decode cX7_race 35 = .ok (.iload 5, 2) := by decide +kernel
theorem dX7_race_37 : decode cX7_race 37 = .ok (.aload_n 0, 1) := by decide +kernel
theorem dX7_race_38 : decode cX7_race 38 = .ok (.getfield 7, 3) := by decide +kernel
theorem dX7_race_41 : decode cX7_race 41 = .ok (.bipush 91, 2) := by decide +kernel
theorem dX7_race_43 : decode cX7_race 43 = .ok (.iaload, 1) := by decide +kernel
theorem dX7_race_44 : decode cX7_race 44 = .ok (.if_icmp .ge 95, 3) := by decide +kernel
theorem dX7_race_47 : decode cX7_race 47 = .ok (.iconst 0, 1) := by decide +kernel
theorem dX7_race_48 : decode cX7_race 48 = .ok (.istore 6, 2) := by decide +kernel
theorem dX7_race_50 : decode cX7_race 50 = .ok (.iload 6, 2) := by decide +kernel
theorem dX7_race_52 : decode cX7_race 52 = .ok (.iload 5, 2) := by decide +kernel
theorem dX7_race_54 : decode cX7_race 54 = .ok (.if_icmp .ge 79, 3) := by decide +kernel
theorem dX7_race_57 : decode cX7_race 57 = .ok (.aload_n 0, 1) := by decide +kernel
theorem dX7_race_58 : decode cX7_race 58 = .ok (.iload 5, 2) := by decide +kernel
theorem dX7_race_60 : decode cX7_race 60 = .ok (.iload_n 1, 1) := by decide +kernel
theorem dX7_race_61 : decode cX7_race 61 = .ok (.invokevirtual 222, 3) := by decide +kernel
theorem dX7_race_64 : decode cX7_race 64 = .ok (.ifCond .eq 69, 3) := by decide +kernel
theorem dX7_race_67 : decode cX7_race 67 = .ok (.aload_n 0, 1) := by decide +kernel
theorem dX7_race_68 : decode cX7_race 68 = .ok (.iload 6, 2) := by decide +kernel
theorem dX7_race_70 : decode cX7_race 70 = .ok (.iload 5, 2) := by decide +kernel
theorem dX7_race_72 : decode cX7_race 72 = .ok (.iload_n 1, 1) := by decide +kernel
theorem dX7_race_73 : decode cX7_race 73 = .ok (.invokevirtual 225, 3) := by decide +kernel
theorem dX7_race_76 : decode cX7_race 76 = .ok (.istore 7, 2) := by decide +kernel
theorem dX7_race_78 : decode cX7_race 78 = .ok (.iload 7, 2) := by decide +kernel
theorem dX7_race_80 : decode cX7_race 80 = .ok (.iconst (-1), 1) := by decide +kernel
theorem dX7_race_81 : decode cX7_race 81 = .ok (.if_icmp .eq 30, 3) := by decide +kernel
theorem dX7_race_84 : decode cX7_race 84 = .ok (.iload 4, 2) := by decide +kernel
theorem dX7_race_86 : decode cX7_race 86 = .ok (.ifCond .ne 25, 3) := by decide +kernel
theorem dX7_race_89 : decode cX7_race 89 = .ok (.iload_n 3, 1) := by decide +kernel
theorem dX7_race_90 : decode cX7_race 90 = .ok (.ifCond .ne 8, 3) := by decide +kernel
theorem dX7_race_93 : decode cX7_race 93 = .ok (.iload 6, 2) := by decide +kernel
theorem dX7_race_95 : decode cX7_race 95 = .ok (.goto 15, 3) := by decide +kernel
theorem dX7_race_98 : decode cX7_race 98 = .ok (.iload_n 3, 1) := by decide +kernel
theorem dX7_race_99 : decode cX7_race 99 = .ok (.iconst 1, 1) := by decide +kernel
theorem dX7_race_100 : decode cX7_race 100 = .ok (.if_icmp .ne 8, 3) := by decide +kernel
theorem dX7_race_103 : decode cX7_race 103 = .ok (.iload 5, 2) := by decide +kernel
theorem dX7_race_105 : decode cX7_race 105 = .ok (.goto 5, 3) := by decide +kernel
theorem dX7_race_108 : decode cX7_race 108 = .ok (.iload 7, 2) := by decide +kernel
theorem dX7_race_110 : decode cX7_race 110 = .ok (.ireturn, 1) := by decide +kernel
theorem dX7_race_111 : decode cX7_race 111 = .ok (.iload 4, 2) := by decide +kernel
theorem dX7_race_113 : decode cX7_race 113 = .ok (.iload 7, 2) := by decide +kernel
theorem dX7_race_115 : decode cX7_race 115 = .ok (.iconst (-1), 1) := by decide +kernel
theorem dX7_race_116 : decode cX7_race 116 = .ok (.if_icmp .eq 7, 3) := by decide +kernel
theorem dX7_race_119 : decode cX7_race 119 = .ok (.iconst 1, 1) := by decide +kernel
theorem dX7_race_120 : decode cX7_race 120 = .ok (.goto 4, 3) := by decide +kernel
theorem dX7_race_123 : decode cX7_race 123 = .ok (.iconst 0, 1) := by decide +kernel
theorem dX7_race_124 : decode cX7_race 124 = .ok (.isub, 1) := by decide +kernel
theorem dX7_race_125 : decode cX7_race 125 = .ok (.istore 4, 2) := by decide +kernel
theorem dX7_race_127 : decode cX7_race 127 = .ok (.iinc 6 1, 3) := by decide +kernel
theorem dX7_race_130 : decode cX7_race 130 = .ok (.goto (-80), 3) := by decide +kernel
theorem dX7_race_133 : decode cX7_race 133 = .ok (.iinc 5 1, 3) := by decide +kernel
theorem dX7_race_136 : decode cX7_race 136 = .ok (.goto (-101), 3) := by decide +kernel
theorem dX7_race_139 : decode cX7_race 139 = .ok (.iconst (-1), 1) := by decide +kernel
theorem dX7_race_140 : decode cX7_race 140 = .ok (.ireturn, 1) := by decide +kernel
set_option maxRecDepth 20000 in
theorem ggX7_cell_X7_isCell : GoodIn wsX7_cell wsX7_isCell := goodIn_r _ [7, 8, 9, 10, 6, 11] (by decide +kernel) (by decide +kernel)
set_option maxRecDepth 20000 in
theorem gX7_cell_X7_isCell : GoodIn wsX7_cell (va_wsS RX7 46 yX7_isCell wsX7_isCell) := goodIn_app (goodIn_of _ (by decide +kernel)) ggX7_cell_X7_isCell
set_option maxRecDepth 20000 in
theorem ggX7_cell_X7_of : GoodIn wsX7_cell wsX7_of := goodIn_r _ [14] (by decide +kernel) (by decide +kernel)
set_option maxRecDepth 20000 in
theorem gX7_cell_X7_of : GoodIn wsX7_cell (va_wsS RX7 37 yX7_of wsX7_of) := goodIn_app (goodIn_of _ (by decide +kernel)) ggX7_cell_X7_of
theorem dX7_cell_0 : decode cX7_cell 0 = .ok (.iload_n 1, 1) := by decide +kernel
theorem dX7_cell_1 : decode cX7_cell 1 = .ok (.invokestatic 46, 3) := by decide +kernel
theorem dX7_cell_4 : decode cX7_cell 4 = .ok (.ifCond .ne 6, 3) := by decide +kernel
theorem dX7_cell_7 : decode cX7_cell 7 = .ok (.ldc 97, 2) := by decide +kernel
theorem dX7_cell_9 : decode cX7_cell 9 = .ok (.ireturn, 1) := by decide +kernel
theorem dX7_cell_10 : decode cX7_cell 10 = .ok (.iload_n 1, 1) := by decide +kernel
theorem dX7_cell_11 : decode cX7_cell 11 = .ok (.invokestatic 37, 3) := by decide +kernel
theorem dX7_cell_14 : decode cX7_cell 14 = .ok (.istore_n 3, 1) := by decide +kernel
theorem dX7_cell_15 : decode cX7_cell 15 = .ok (.iload_n 2, 1) := by decide +kernel
theorem dX7_cell_16 : decode cX7_cell 16 = .ok (.tableswitch 123 0 7 #[48, 57, 66, 75, 84, 93, 103, 113], 48) := by decide +kernel
theorem dX7_cell_64 : decode cX7_cell 64 = .ok (.aload_n 0, 1) := by decide +kernel
theorem dX7_cell_65 : decode cX7_cell 65 = .ok (.getfield 7, 3) := by decide +kernel
theorem dX7_cell_68 : decode cX7_cell 68 = .ok (.iload_n 3, 1) := by decide +kernel
theorem dX7_cell_69 : decode cX7_cell 69 = .ok (.iconst 0, 1) := by decide +kernel
theorem dX7_cell_70 : decode cX7_cell 70 = .ok (.iadd, 1) := by decide +kernel
theorem dX7_cell_71 : decode cX7_cell 71 = .ok (.iaload, 1) := by decide +kernel
theorem dX7_cell_72 : decode cX7_cell 72 = .ok (.ireturn, 1) := by decide +kernel
theorem dX7_cell_73 : decode cX7_cell 73 = .ok (.aload_n 0, 1) := by decide +kernel
theorem dX7_cell_74 : decode cX7_cell 74 = .ok (.getfield 7, 3) := by decide +kernel
theorem dX7_cell_77 : decode cX7_cell 77 = .ok (.iload_n 3, 1) := by decide +kernel
theorem dX7_cell_78 : decode cX7_cell 78 = .ok (.iconst 1, 1) := by decide +kernel
theorem dX7_cell_79 : decode cX7_cell 79 = .ok (.iadd, 1) := by decide +kernel
theorem dX7_cell_80 : decode cX7_cell 80 = .ok (.iaload, 1) := by decide +kernel
theorem dX7_cell_81 : decode cX7_cell 81 = .ok (.ireturn, 1) := by decide +kernel
theorem dX7_cell_82 : decode cX7_cell 82 = .ok (.aload_n 0, 1) := by decide +kernel
theorem dX7_cell_83 : decode cX7_cell 83 = .ok (.getfield 7, 3) := by decide +kernel
theorem dX7_cell_86 : decode cX7_cell 86 = .ok (.iload_n 3, 1) := by decide +kernel
theorem dX7_cell_87 : decode cX7_cell 87 = .ok (.iconst 2, 1) := by decide +kernel
theorem dX7_cell_88 : decode cX7_cell 88 = .ok (.iadd, 1) := by decide +kernel
theorem dX7_cell_89 : decode cX7_cell 89 = .ok (.iaload, 1) := by decide +kernel
theorem dX7_cell_90 : decode cX7_cell 90 = .ok (.ireturn, 1) := by decide +kernel
theorem dX7_cell_91 : decode cX7_cell 91 = .ok (.aload_n 0, 1) := by decide +kernel
theorem dX7_cell_92 : decode cX7_cell 92 = .ok (.getfield 7, 3) := by decide +kernel
theorem dX7_cell_95 : decode cX7_cell 95 = .ok (.iload_n 3, 1) := by decide +kernel
theorem dX7_cell_96 : decode cX7_cell 96 = .ok (.iconst 3, 1) := by decide +kernel
theorem dX7_cell_97 : decode cX7_cell 97 = .ok (.iadd, 1) := by decide +kernel
theorem dX7_cell_98 : decode cX7_cell 98 = .ok (.iaload, 1) := by decide +kernel
theorem dX7_cell_99 : decode cX7_cell 99 = .ok (.ireturn, 1) := by decide +kernel
theorem dX7_cell_100 : decode cX7_cell 100 = .ok (.aload_n 0, 1) := by decide +kernel
theorem dX7_cell_101 : decode cX7_cell 101 = .ok (.getfield 7, 3) := by decide +kernel
theorem dX7_cell_104 : decode cX7_cell 104 = .ok (.iload_n 3, 1) := by decide +kernel
theorem dX7_cell_105 : decode cX7_cell 105 = .ok (.iconst 4, 1) := by decide +kernel
theorem dX7_cell_106 : decode cX7_cell 106 = .ok (.iadd, 1) := by decide +kernel
theorem dX7_cell_107 : decode cX7_cell 107 = .ok (.iaload, 1) := by decide +kernel
theorem dX7_cell_108 : decode cX7_cell 108 = .ok (.ireturn, 1) := by decide +kernel
theorem dX7_cell_109 : decode cX7_cell 109 = .ok (.aload_n 0, 1) := by decide +kernel
theorem dX7_cell_110 : decode cX7_cell 110 = .ok (.getfield 7, 3) := by decide +kernel
theorem dX7_cell_113 : decode cX7_cell 113 = .ok (.iload_n 3, 1) := by decide +kernel
theorem dX7_cell_114 : decode cX7_cell 114 = .ok (.bipush 9, 2) := by decide +kernel
theorem dX7_cell_116 : decode cX7_cell 116 = .ok (.iadd, 1) := by decide +kernel
theorem dX7_cell_117 : decode cX7_cell 117 = .ok (.iaload, 1) := by decide +kernel
theorem dX7_cell_118 : decode cX7_cell 118 = .ok (.ireturn, 1) := by decide +kernel
theorem dX7_cell_119 : decode cX7_cell 119 = .ok (.aload_n 0, 1) := by decide +kernel
theorem dX7_cell_120 : decode cX7_cell 120 = .ok (.getfield 7, 3) := by decide +kernel
theorem dX7_cell_123 : decode cX7_cell 123 = .ok (.iload_n 3, 1) := by decide +kernel
theorem dX7_cell_124 : decode cX7_cell 124 = .ok (.bipush 10, 2) := by decide +kernel
theorem dX7_cell_126 : decode cX7_cell 126 = .ok (.iadd, 1) := by decide +kernel
theorem dX7_cell_127 : decode cX7_cell 127 = .ok (.iaload, 1) := by decide +kernel
theorem dX7_cell_128 : decode cX7_cell 128 = .ok (.ireturn, 1) := by decide +kernel
theorem dX7_cell_129 : decode cX7_cell 129 = .ok (.aload_n 0, 1) := by decide +kernel
theorem dX7_cell_130 : decode cX7_cell 130 = .ok (.getfield 7, 3) := by decide +kernel
theorem dX7_cell_133 : decode cX7_cell 133 = .ok (.iload_n 3, 1) := by decide +kernel
theorem dX7_cell_134 : decode cX7_cell 134 = .ok (.bipush 11, 2) := by decide +kernel
theorem dX7_cell_136 : decode cX7_cell 136 = .ok (.iadd, 1) := by decide +kernel
theorem dX7_cell_137 : decode cX7_cell 137 = .ok (.iaload, 1) := by decide +kernel
theorem dX7_cell_138 : decode cX7_cell 138 = .ok (.ireturn, 1) := by decide +kernel
theorem dX7_cell_139 : decode cX7_cell 139 = .ok (.ldc 98, 2) := by decide +kernel
theorem dX7_cell_141 : decode cX7_cell 141 = .ok (.ireturn, 1) := by decide +kernel
set_option maxRecDepth 20000 in
theorem ggX7_shared_X7_isCell : GoodIn wsX7_shared wsX7_isCell := goodIn_r _ [6, 7, 8, 9, 5, 10] (by decide +kernel) (by decide +kernel)
set_option maxRecDepth 20000 in
theorem gX7_shared_X7_isCell : GoodIn wsX7_shared (va_wsS RX7 46 yX7_isCell wsX7_isCell) := goodIn_app (goodIn_of _ (by decide +kernel)) ggX7_shared_X7_isCell
set_option maxRecDepth 20000 in
theorem ggX7_shared_X7_isThread : GoodIn wsX7_shared wsX7_isThread := goodIn_r _ [13, 7, 8, 9, 5, 10] (by decide +kernel) (by decide +kernel)
set_option maxRecDepth 20000 in
theorem gX7_shared_X7_isThread : GoodIn wsX7_shared (va_wsS RX7 56 yX7_isThread wsX7_isThread) := goodIn_app (goodIn_of _ (by decide +kernel)) ggX7_shared_X7_isThread
set_option maxRecDepth 20000 in
theorem ggX7_shared_X7_of : GoodIn wsX7_shared wsX7_of := goodIn_r _ [16] (by decide +kernel) (by decide +kernel)
set_option maxRecDepth 20000 in
theorem gX7_shared_X7_of : GoodIn wsX7_shared (va_wsS RX7 37 yX7_of wsX7_of) := goodIn_app (goodIn_of _ (by decide +kernel)) ggX7_shared_X7_of
theorem dX7_shared_0 : decode cX7_shared 0 = .ok (.iload_n 1, 1) := by decide +kernel
theorem dX7_shared_1 : decode cX7_shared 1 = .ok (.invokestatic 46, 3) := by decide +kernel
theorem dX7_shared_4 : decode cX7_shared 4 = .ok (.ifCond .eq 26, 3) := by decide +kernel
theorem dX7_shared_7 : decode cX7_shared 7 = .ok (.iload_n 2, 1) := by decide +kernel
theorem dX7_shared_8 : decode cX7_shared 8 = .ok (.invokestatic 56, 3) := by decide +kernel
theorem dX7_shared_11 : decode cX7_shared 11 = .ok (.ifCond .eq 19, 3) := by decide +kernel
theorem dX7_shared_14 : decode cX7_shared 14 = .ok (.aload_n 0, 1) := by decide +kernel
theorem dX7_shared_15 : decode cX7_shared 15 = .ok (.getfield 7, 3) := by decide +kernel
theorem dX7_shared_18 : decode cX7_shared 18 = .ok (.iload_n 1, 1) := by decide +kernel
theorem dX7_shared_19 : decode cX7_shared 19 = .ok (.invokestatic 37, 3) := by decide +kernel
theorem dX7_shared_22 : decode cX7_shared 22 = .ok (.iconst 5, 1) := by decide +kernel
theorem dX7_shared_23 : decode cX7_shared 23 = .ok (.iadd, 1) := by decide +kernel
theorem dX7_shared_24 : decode cX7_shared 24 = .ok (.iload_n 2, 1) := by decide +kernel
theorem dX7_shared_25 : decode cX7_shared 25 = .ok (.iadd, 1) := by decide +kernel
theorem dX7_shared_26 : decode cX7_shared 26 = .ok (.iaload, 1) := by decide +kernel
theorem dX7_shared_27 : decode cX7_shared 27 = .ok (.goto 5, 3) := by decide +kernel
theorem dX7_shared_30 : decode cX7_shared 30 = .ok (.ldc 97, 2) := by decide +kernel
theorem dX7_shared_32 : decode cX7_shared 32 = .ok (.ireturn, 1) := by decide +kernel
set_option maxRecDepth 20000 in
theorem ggX7_would_X7_isThread : GoodIn wsX7_would wsX7_isThread := goodIn_r _ [7, 8, 9, 10, 6, 11] (by decide +kernel) (by decide +kernel)
set_option maxRecDepth 20000 in
theorem gX7_would_X7_isThread : GoodIn wsX7_would (va_wsS RX7 56 yX7_isThread wsX7_isThread) := goodIn_app (goodIn_of _ (by decide +kernel)) ggX7_would_X7_isThread
set_option maxRecDepth 20000 in
theorem ggX7_would_X7_isCell : GoodIn wsX7_would wsX7_isCell := goodIn_r _ [14, 8, 9, 10, 6, 11] (by decide +kernel) (by decide +kernel)
set_option maxRecDepth 20000 in
theorem gX7_would_X7_isCell : GoodIn wsX7_would (va_wsS RX7 46 yX7_isCell wsX7_isCell) := goodIn_app (goodIn_of _ (by decide +kernel)) ggX7_would_X7_isCell
set_option maxRecDepth 20000 in
theorem ggX7_would_X7_kindOf : GoodIn wsX7_would wsX7_kindOf := goodIn_r _ [18, 2, 19, 20, 6, 21, 22, 23, 24, 25, 26, 27, 28, 29, 30, 31, 32, 33, 34, 35, 36, 37, 38, 39] (by decide +kernel) (by decide +kernel)
set_option maxRecDepth 20000 in
theorem gX7_would_X7_kindOf : GoodIn wsX7_would (wsV RX7 62 RX7 yX7_kindOf wsX7_kindOf) := goodIn_app (goodIn_of _ (by decide +kernel)) ggX7_would_X7_kindOf
theorem dX7_would_0 : decode cX7_would 0 = .ok (.iload_n 1, 1) := by decide +kernel
theorem dX7_would_1 : decode cX7_would 1 = .ok (.invokestatic 56, 3) := by decide +kernel
theorem dX7_would_4 : decode cX7_would 4 = .ok (.ifCond .eq 10, 3) := by decide +kernel
theorem dX7_would_7 : decode cX7_would 7 = .ok (.iload_n 2, 1) := by decide +kernel
theorem dX7_would_8 : decode cX7_would 8 = .ok (.invokestatic 46, 3) := by decide +kernel
theorem dX7_would_11 : decode cX7_would 11 = .ok (.ifCond .ne 6, 3) := by decide +kernel
theorem dX7_would_14 : decode cX7_would 14 = .ok (.ldc 97, 2) := by decide +kernel
theorem dX7_would_16 : decode cX7_would 16 = .ok (.ireturn, 1) := by decide +kernel
theorem dX7_would_17 : decode cX7_would 17 = .ok (.aload_n 0, 1) := by decide +kernel
theorem dX7_would_18 : decode cX7_would 18 = .ok (.getfield 7, 3) := by decide +kernel
theorem dX7_would_21 : decode cX7_would 21 = .ok (.iconst 0, 1) := by decide +kernel
theorem dX7_would_22 : decode cX7_would 22 = .ok (.iload_n 1, 1) := by decide +kernel
theorem dX7_would_23 : decode cX7_would 23 = .ok (.iadd, 1) := by decide +kernel
theorem dX7_would_24 : decode cX7_would 24 = .ok (.iaload, 1) := by decide +kernel
theorem dX7_would_25 : decode cX7_would 25 = .ok (.iconst 1, 1) := by decide +kernel
theorem dX7_would_26 : decode cX7_would 26 = .ok (.if_icmp .ne 13, 3) := by decide +kernel
theorem dX7_would_29 : decode cX7_would 29 = .ok (.aload_n 0, 1) := by decide +kernel
theorem dX7_would_30 : decode cX7_would 30 = .ok (.iload_n 1, 1) := by decide +kernel
theorem dX7_would_31 : decode cX7_would 31 = .ok (.iload_n 2, 1) := by decide +kernel
theorem dX7_would_32 : decode cX7_would 32 = .ok (.iload_n 3, 1) := by decide +kernel
theorem dX7_would_33 : decode cX7_would 33 = .ok (.invokevirtual 62, 3) := by decide +kernel
theorem dX7_would_36 : decode cX7_would 36 = .ok (.goto 5, 3) := by decide +kernel
theorem dX7_would_39 : decode cX7_would 39 = .ok (.ldc 102, 2) := by decide +kernel
theorem dX7_would_41 : decode cX7_would 41 = .ok (.ireturn, 1) := by decide +kernel
set_option maxRecDepth 20000 in
theorem ggX7_guard_X7_isCell : GoodIn wsX7_guard wsX7_isCell := goodIn_r _ [6, 7, 8, 9, 5, 10] (by decide +kernel) (by decide +kernel)
set_option maxRecDepth 20000 in
theorem gX7_guard_X7_isCell : GoodIn wsX7_guard (va_wsS RX7 46 yX7_isCell wsX7_isCell) := goodIn_app (goodIn_of _ (by decide +kernel)) ggX7_guard_X7_isCell
set_option maxRecDepth 20000 in
theorem ggX7_guard_X7_isAccess : GoodIn wsX7_guard wsX7_isAccess := goodIn_r _ [14, 2, 15, 16, 17, 18, 19, 20, 21, 22, 23, 24, 25, 26, 27, 28] (by decide +kernel) (by decide +kernel)
set_option maxRecDepth 20000 in
theorem gX7_guard_X7_isAccess : GoodIn wsX7_guard (wsV RX7 222 RX7 yX7_isAccess wsX7_isAccess) := goodIn_app (goodIn_of _ (by decide +kernel)) ggX7_guard_X7_isAccess
theorem dX7_guard_0 : decode cX7_guard 0 = .ok (.iload_n 1, 1) := by decide +kernel
theorem dX7_guard_1 : decode cX7_guard 1 = .ok (.invokestatic 46, 3) := by decide +kernel
theorem dX7_guard_4 : decode cX7_guard 4 = .ok (.ifCond .ne 6, 3) := by decide +kernel
theorem dX7_guard_7 : decode cX7_guard 7 = .ok (.ldc 97, 2) := by decide +kernel
theorem dX7_guard_9 : decode cX7_guard 9 = .ok (.ireturn, 1) := by decide +kernel
theorem dX7_guard_10 : decode cX7_guard 10 = .ok (.bipush 7, 2) := by decide +kernel
theorem dX7_guard_12 : decode cX7_guard 12 = .ok (.istore_n 2, 1) := by decide +kernel
theorem dX7_guard_13 : decode cX7_guard 13 = .ok (.iconst 0, 1) := by decide +kernel
theorem dX7_guard_14 : decode cX7_guard 14 = .ok (.istore_n 3, 1) := by decide +kernel
theorem dX7_guard_15 : decode cX7_guard 15 = .ok (.iload_n 3, 1) := by decide +kernel
theorem dX7_guard_16 : decode cX7_guard 16 = .ok (.aload_n 0, 1) := by decide +kernel
theorem dX7_guard_17 : decode cX7_guard 17 = .ok (.getfield 7, 3) := by decide +kernel
theorem dX7_guard_20 : decode cX7_guard 20 = .ok (.bipush 91, 2) := by decide +kernel
theorem dX7_guard_22 : decode cX7_guard 22 = .ok (.iaload, 1) := by decide +kernel
theorem dX7_guard_23 : decode cX7_guard 23 = .ok (.if_icmp .ge 41, 3) := by decide +kernel
theorem dX7_guard_26 : decode cX7_guard 26 = .ok (.iload_n 2, 1) := by decide +kernel
theorem dX7_guard_27 : decode cX7_guard 27 = .ok (.aload_n 0, 1) := by decide +kernel
theorem dX7_guard_28 : decode cX7_guard 28 = .ok (.iload_n 3, 1) := by decide +kernel
theorem dX7_guard_29 : decode cX7_guard 29 = .ok (.iload_n 1, 1) := by decide +kernel
theorem dX7_guard_30 : decode cX7_guard 30 = .ok (.invokevirtual 222, 3) := by decide +kernel
theorem dX7_guard_33 : decode cX7_guard 33 = .ok (.ifCond .eq 21, 3) := by decide +kernel
theorem dX7_guard_36 : decode cX7_guard 36 = .ok (.aload_n 0, 1) := by decide +kernel
theorem dX7_guard_37 : decode cX7_guard 37 = .ok (.getfield 7, 3) := by decide +kernel
theorem dX7_guard_40 : decode cX7_guard 40 = .ok (.bipush 92, 2) := by decide +kernel
theorem dX7_guard_42 : decode cX7_guard 42 = .ok (.bipush 8, 2) := by decide +kernel
theorem dX7_guard_44 : decode cX7_guard 44 = .ok (.iload_n 3, 1) := by decide +kernel
theorem dX7_guard_45 : decode cX7_guard 45 = .ok (.imul, 1) := by decide +kernel
theorem dX7_guard_46 : decode cX7_guard 46 = .ok (.iadd, 1) := by decide +kernel
theorem dX7_guard_47 : decode cX7_guard 47 = .ok (.bipush 7, 2) := by decide +kernel
theorem dX7_guard_49 : decode cX7_guard 49 = .ok (.iadd, 1) := by decide +kernel
theorem dX7_guard_50 : decode cX7_guard 50 = .ok (.iaload, 1) := by decide +kernel
theorem dX7_guard_51 : decode cX7_guard 51 = .ok (.goto 5, 3) := by decide +kernel
theorem dX7_guard_54 : decode cX7_guard 54 = .ok (.bipush 7, 2) := by decide +kernel
theorem dX7_guard_56 : decode cX7_guard 56 = .ok (.iand, 1) := by decide +kernel
theorem dX7_guard_57 : decode cX7_guard 57 = .ok (.istore_n 2, 1) := by decide +kernel
theorem dX7_guard_58 : decode cX7_guard 58 = .ok (.iinc 3 1, 3) := by decide +kernel
theorem dX7_guard_61 : decode cX7_guard 61 = .ok (.goto (-46), 3) := by decide +kernel
theorem dX7_guard_64 : decode cX7_guard 64 = .ok (.iload_n 2, 1) := by decide +kernel
theorem dX7_guard_65 : decode cX7_guard 65 = .ok (.ireturn, 1) := by decide +kernel
set_option maxRecDepth 20000 in
theorem ggX7_keep_X7_in : GoodIn wsX7_keep wsX7_in := goodIn_r _ [7] (by decide +kernel) (by decide +kernel)
set_option maxRecDepth 20000 in
theorem gX7_keep_X7_in : GoodIn wsX7_keep (va_wsS RX7 31 yX7_in wsX7_in) := goodIn_app (goodIn_of _ (by decide +kernel)) ggX7_keep_X7_in
theorem dX7_keep_0 : decode cX7_keep 0 = .ok (.iload_n 1, 1) := by decide +kernel
theorem dX7_keep_1 : decode cX7_keep 1 = .ok (.i2l, 1) := by decide +kernel
theorem dX7_keep_2 : decode cX7_keep 2 = .ok (.lconst 0, 1) := by decide +kernel
theorem dX7_keep_3 : decode cX7_keep 3 = .ok (.lconst 1, 1) := by decide +kernel
theorem dX7_keep_4 : decode cX7_keep 4 = .ok (.invokestatic 31, 3) := by decide +kernel
theorem dX7_keep_7 : decode cX7_keep 7 = .ok (.ifCond .ne 6, 3) := by decide +kernel
theorem dX7_keep_10 : decode cX7_keep 10 = .ok (.ldc 97, 2) := by decide +kernel
theorem dX7_keep_12 : decode cX7_keep 12 = .ok (.ireturn, 1) := by decide +kernel
theorem dX7_keep_13 : decode cX7_keep 13 = .ok (.iconst 0, 1) := by decide +kernel
theorem dX7_keep_14 : decode cX7_keep 14 = .ok (.istore_n 2, 1) := by decide +kernel
theorem dX7_keep_15 : decode cX7_keep 15 = .ok (.iload_n 2, 1) := by decide +kernel
theorem dX7_keep_16 : decode cX7_keep 16 = .ok (.sipush 1372, 3) := by decide +kernel
theorem dX7_keep_19 : decode cX7_keep 19 = .ok (.if_icmp .ge 31, 3) := by decide +kernel
theorem dX7_keep_22 : decode cX7_keep 22 = .ok (.aload_n 0, 1) := by decide +kernel
theorem dX7_keep_23 : decode cX7_keep 23 = .ok (.getfield 7, 3) := by decide +kernel
theorem dX7_keep_26 : decode cX7_keep 26 = .ok (.sipush 1614, 3) := by decide +kernel
theorem dX7_keep_29 : decode cX7_keep 29 = .ok (.sipush 1372, 3) := by decide +kernel
theorem dX7_keep_32 : decode cX7_keep 32 = .ok (.iload_n 1, 1) := by decide +kernel
theorem dX7_keep_33 : decode cX7_keep 33 = .ok (.imul, 1) := by decide +kernel
theorem dX7_keep_34 : decode cX7_keep 34 = .ok (.iadd, 1) := by decide +kernel
theorem dX7_keep_35 : decode cX7_keep 35 = .ok (.iload_n 2, 1) := by decide +kernel
theorem dX7_keep_36 : decode cX7_keep 36 = .ok (.iadd, 1) := by decide +kernel
theorem dX7_keep_37 : decode cX7_keep 37 = .ok (.aload_n 0, 1) := by decide +kernel
theorem dX7_keep_38 : decode cX7_keep 38 = .ok (.getfield 7, 3) := by decide +kernel
theorem dX7_keep_41 : decode cX7_keep 41 = .ok (.iload_n 2, 1) := by decide +kernel
theorem dX7_keep_42 : decode cX7_keep 42 = .ok (.iaload, 1) := by decide +kernel
theorem dX7_keep_43 : decode cX7_keep 43 = .ok (.iastore, 1) := by decide +kernel
theorem dX7_keep_44 : decode cX7_keep 44 = .ok (.iinc 2 1, 3) := by decide +kernel
theorem dX7_keep_47 : decode cX7_keep 47 = .ok (.goto (-32), 3) := by decide +kernel
theorem dX7_keep_50 : decode cX7_keep 50 = .ok (.aload_n 0, 1) := by decide +kernel
theorem dX7_keep_51 : decode cX7_keep 51 = .ok (.getfield 13, 3) := by decide +kernel
theorem dX7_keep_54 : decode cX7_keep 54 = .ok (.iload_n 1, 1) := by decide +kernel
theorem dX7_keep_55 : decode cX7_keep 55 = .ok (.iconst 1, 1) := by decide +kernel
theorem dX7_keep_56 : decode cX7_keep 56 = .ok (.bastore, 1) := by decide +kernel
theorem dX7_keep_57 : decode cX7_keep 57 = .ok (.aload_n 0, 1) := by decide +kernel
theorem dX7_keep_58 : decode cX7_keep 58 = .ok (.getfield 7, 3) := by decide +kernel
theorem dX7_keep_61 : decode cX7_keep 61 = .ok (.bipush 91, 2) := by decide +kernel
theorem dX7_keep_63 : decode cX7_keep 63 = .ok (.iaload, 1) := by decide +kernel
theorem dX7_keep_64 : decode cX7_keep 64 = .ok (.ireturn, 1) := by decide +kernel
set_option maxRecDepth 20000 in
theorem ggX7_goBack_X7_in : GoodIn wsX7_goBack wsX7_in := goodIn_r _ [8] (by decide +kernel) (by decide +kernel)
set_option maxRecDepth 20000 in
theorem gX7_goBack_X7_in : GoodIn wsX7_goBack (va_wsS RX7 31 yX7_in wsX7_in) := goodIn_app (goodIn_of _ (by decide +kernel)) ggX7_goBack_X7_in
theorem dX7_goBack_0 : decode cX7_goBack 0 = .ok (.iload_n 1, 1) := by decide +kernel
theorem dX7_goBack_1 : decode cX7_goBack 1 = .ok (.i2l, 1) := by decide +kernel
theorem dX7_goBack_2 : decode cX7_goBack 2 = .ok (.lconst 0, 1) := by decide +kernel
theorem dX7_goBack_3 : decode cX7_goBack 3 = .ok (.lconst 1, 1) := by decide +kernel
theorem dX7_goBack_4 : decode cX7_goBack 4 = .ok (.invokestatic 31, 3) := by decide +kernel
theorem dX7_goBack_7 : decode cX7_goBack 7 = .ok (.ifCond .ne 6, 3) := by decide +kernel
theorem dX7_goBack_10 : decode cX7_goBack 10 = .ok (.ldc 97, 2) := by decide +kernel
theorem dX7_goBack_12 : decode cX7_goBack 12 = .ok (.ireturn, 1) := by decide +kernel
theorem dX7_goBack_13 : decode cX7_goBack 13 = .ok (.aload_n 0, 1) := by decide +kernel
theorem dX7_goBack_14 : decode cX7_goBack 14 = .ok (.getfield 13, 3) := by decide +kernel
theorem dX7_goBack_17 : decode cX7_goBack 17 = .ok (.iload_n 1, 1) := by decide +kernel
theorem dX7_goBack_18 : decode cX7_goBack 18 = .ok (.baload, 1) := by decide +kernel
theorem dX7_goBack_19 : decode cX7_goBack 19 = .ok (.ifCond .ne 6, 3) := by decide +kernel
theorem dX7_goBack_22 : decode cX7_goBack 22 = .ok (.ldc 102, 2) := by decide +kernel
theorem dX7_goBack_24 : decode cX7_goBack 24 = .ok (.ireturn, 1) := by decide +kernel
theorem dX7_goBack_25 : decode cX7_goBack 25 = .ok (.iconst 0, 1) := by decide +kernel
theorem dX7_goBack_26 : decode cX7_goBack 26 = .ok (.istore_n 2, 1) := by decide +kernel
theorem dX7_goBack_27 : decode cX7_goBack 27 = .ok (.iload_n 2, 1) := by decide +kernel
theorem dX7_goBack_28 : decode cX7_goBack 28 = .ok (.sipush 1372, 3) := by decide +kernel
theorem dX7_goBack_31 : decode cX7_goBack 31 = .ok (.if_icmp .ge 31, 3) := by decide +kernel
theorem dX7_goBack_34 : decode cX7_goBack 34 = .ok (.aload_n 0, 1) := by decide +kernel
theorem dX7_goBack_35 : decode cX7_goBack 35 = .ok (.getfield 7, 3) := by decide +kernel
theorem dX7_goBack_38 : decode cX7_goBack 38 = .ok (.iload_n 2, 1) := by decide +kernel
theorem dX7_goBack_39 : decode cX7_goBack 39 = .ok (.aload_n 0, 1) := by decide +kernel
theorem dX7_goBack_40 : decode cX7_goBack 40 = .ok (.getfield 7, 3) := by decide +kernel
theorem dX7_goBack_43 : decode cX7_goBack 43 = .ok (.sipush 1614, 3) := by decide +kernel
theorem dX7_goBack_46 : decode cX7_goBack 46 = .ok (.sipush 1372, 3) := by decide +kernel
theorem dX7_goBack_49 : decode cX7_goBack 49 = .ok (.iload_n 1, 1) := by decide +kernel
theorem dX7_goBack_50 : decode cX7_goBack 50 = .ok (.imul, 1) := by decide +kernel
theorem dX7_goBack_51 : decode cX7_goBack 51 = .ok (.iadd, 1) := by decide +kernel
theorem dX7_goBack_52 : decode cX7_goBack 52 = .ok (.iload_n 2, 1) := by decide +kernel
theorem dX7_goBack_53 : decode cX7_goBack 53 = .ok (.iadd, 1) := by decide +kernel
theorem dX7_goBack_54 : decode cX7_goBack 54 = .ok (.iaload, 1) := by decide +kernel
theorem dX7_goBack_55 : decode cX7_goBack 55 = .ok (.iastore, 1) := by decide +kernel
theorem dX7_goBack_56 : decode cX7_goBack 56 = .ok (.iinc 2 1, 3) := by decide +kernel
theorem dX7_goBack_59 : decode cX7_goBack 59 = .ok (.goto (-32), 3) := by decide +kernel
theorem dX7_goBack_62 : decode cX7_goBack 62 = .ok (.aload_n 0, 1) := by decide +kernel
theorem dX7_goBack_63 : decode cX7_goBack 63 = .ok (.getfield 7, 3) := by decide +kernel
theorem dX7_goBack_66 : decode cX7_goBack 66 = .ok (.bipush 91, 2) := by decide +kernel
theorem dX7_goBack_68 : decode cX7_goBack 68 = .ok (.iaload, 1) := by decide +kernel
theorem dX7_goBack_69 : decode cX7_goBack 69 = .ok (.ireturn, 1) := by decide +kernel
end
section
/-! MY ROWS: the world is one function F from numbers of cells (0, 1 ..) to their contents; cell i lies at b + i. No sets of places, no joins. -/
abbrev sx_G : Type := va_G × ClassId × ClassId × ClassId × ClassId × Nat
abbrev sx_b (G : sx_G) : Nat := G.2.2.2.2.2
abbrev sx_ty (G : sx_G) : List (ClassId × FieldType) := [(G.2.1, .int), (G.2.2.1, .boolean), (G.2.2.2.1, .object "RaceWatch$Kept"), (G.2.2.2.2.1, .object "RaceWatch$World")]
abbrev rI (G : sx_G) (n : Nat) (f : Nat → Int32) : va_E := .inl (G.2.1, n, .inl f)
abbrev rZ (G : sx_G) (n : Nat) (f : Nat → Int32) : va_E := .inl (G.2.2.1, n, .inl f)
abbrev rK (G : sx_G) (n : Nat) (f : Nat → Option Nat) : va_E := .inl (G.2.2.2.1, n, .inr (.inr (.inr (.inr f))))
abbrev rO (G : sx_G) (n : Nat) (f : Nat → Option Nat) : va_E := .inl (G.2.2.2.2.1, n, .inr (.inr (.inr (.inr f))))
abbrev ob (ci : Nat) (fs : List Value) : va_E := .inr (ci, fs)
abbrev rf (G : sx_G) (i : Nat) : Value := .ref (sx_b G + i)
def sx_A (G : sx_G) : Nat → Prop := fun q => sx_b G ≤ q
def sx_L (G : sx_G) (n : Nat) (F : Nat → va_E) : va_W := (List.range n).map (fun i => (sx_b G + i, F i))
theorem sx_L_get (G : sx_G) {n : Nat} (F : Nat → va_E) {i : Nat} (h : i < n) : (sx_L G n F)[i]? = some (sx_b G + i, F i) := by simp [sx_L, h]
theorem sx_L_lt (G : sx_G) {n : Nat} (F : Nat → va_E) {i : Nat} {q : Nat × va_E} (h : (sx_L G n F)[i]? = some q) : i < n ∧ q = (sx_b G + i, F i) := by
  have h1 : i < n := by have := (List.getElem?_eq_some_iff.mp h).1; simpa [sx_L] using this
  refine ⟨h1, ?_⟩
  rw [sx_L_get G F h1] at h
  exact (Option.some.inj h).symm
theorem sx_L_set (G : sx_G) {n : Nat} (F : Nat → va_E) {i : Nat} (e : va_E) : (sx_L G n F).set i (sx_b G + i, e) = sx_L G n (va_up F i e) := by
  apply List.ext_getElem?
  intro k
  by_cases hk : k < n
  · rw [sx_L_get G _ hk]
    by_cases hki : k = i
    · subst hki
      rw [List.getElem?_set_self (by simp [sx_L]; exact hk), va_up_self]
    · rw [List.getElem?_set_ne (Ne.symm hki), sx_L_get G _ hk, va_up_ne _ _ hki]
  · rw [List.getElem?_eq_none (by simp [sx_L]; omega), List.getElem?_eq_none (by simp [sx_L]; omega)]
theorem sx_L_push (G : sx_G) {n : Nat} (F : Nat → va_E) (e : va_E) : sx_L G n F ++ [(sx_b G + n, e)] = sx_L G (n + 1) (va_up F n e) := by
  simp only [sx_L, List.range_succ, List.map_append, List.map_cons, List.map_nil, va_up_self]
  congr 1
  apply List.map_congr_left
  intro a ha
  rw [va_up_ne _ _ (Nat.ne_of_lt (List.mem_range.mp ha))]
theorem sx_LD (G : sx_G) (n : Nat) (F : Nat → va_E) : va_D (sx_A G) (sx_L G n F) := by
  refine ⟨fun i j p q hi hj h => ?_, fun k q hk => ?_⟩
  · obtain ⟨-, rfl⟩ := sx_L_lt G F hi
    obtain ⟨-, rfl⟩ := sx_L_lt G F hj
    exact Nat.add_left_cancel h
  · obtain ⟨-, rfl⟩ := sx_L_lt G F hk
    exact Nat.le_add_right _ _
/-- private members of nest mates, and the arrays of objects: what the tables say of them -/
def sx_N (U : State) : Prop := va_Nw (.methodLinkNest RX5 35 yX2_init RX6) U ∧ va_Nw (.methodLinkNest RX5 42 yX3_init RX6) U ∧ va_Nw (.methodLinkNest RX6 26 yX4_init RX6) U ∧ va_Nw (.methodLinkNest RX4 17 yX0_init RX6) U ∧ va_Nw (.methodLinkNest RX4 69 yX6_boundOf RX6) U ∧ va_AO "RaceWatch$Kept" U ∧ va_AO "RaceWatch$World" U
theorem sx_N.warm {s U : State} (hW : s.WarmedH U.vm) (h : sx_N s) : sx_N U := ⟨va_Nw.warmM hW h.1, va_Nw.warmM hW h.2.1, va_Nw.warmM hW h.2.2.1, va_Nw.warmM hW h.2.2.2.1, va_Nw.warmM hW h.2.2.2.2.1, va_AO.moved hW.alike h.2.2.2.2.2.1, va_AO.moved hW.alike h.2.2.2.2.2.2⟩
theorem sx_N.same {s U : State} (hW : s.vm = U.vm) (h : sx_N s) : sx_N U := ⟨va_Nw.same rfl hW h.1, va_Nw.same rfl hW h.2.1, va_Nw.same rfl hW h.2.2.1, va_Nw.same rfl hW h.2.2.2.1, va_Nw.same rfl hW h.2.2.2.2.1, va_AO.moved (by rw [hW]; exact Vm.Alike.refl _) h.2.2.2.2.2.1, va_AO.moved (by rw [hW]; exact Vm.Alike.refl _) h.2.2.2.2.2.2⟩
def sx_C (G : sx_G) (U : State) : Prop := va_K G.1 vwCl (sx_ty G) U ∧ sx_N U
theorem sx_C.warm {G : sx_G} {s U : State} (hW : s.WarmedH U.vm) (h : sx_C G s) : sx_C G U := ⟨va_K.moved hW.alike h.1, h.2.warm hW⟩
/-- the heap, while a method runs -/
def sx_H (G : sx_G) (n : Nat) (F : Nat → va_E) (H0 H : Heap) (locs : List Loc) : Prop := va_P G.1 vwCl (sx_L G n F) H ∧ va_S (sx_A G) H0 H locs
/-- the heap, as a method finds and leaves it -/
def sx_P (G : sx_G) (n : Nat) (F : Nat → va_E) (U : State) : Prop := U.heap.size = sx_b G + n ∧ va_P G.1 vwCl (sx_L G n F) U.heap ∧ sx_C G U
theorem sx_blind (G : sx_G) (n : Nat) (F : Nat → va_E) (av : List Value) : FrameBlind (va_Pc av (sx_P G n F)) := by
  intro a U g mk q
  obtain ⟨q0, q1, q2, q3, q4⟩ := q
  exact ⟨q0, q1, q2, va_K.moved (u := U) (U := U.calling g mk a) (Vm.Alike.refl U.vm) q3, q4.same rfl⟩
/-- a contract: an int (or boolean) comes back; nothing; a long -/
def sx_I (G : sx_G) (l : Launch) (y : MethodName) (ws : List Cond) (rm : Room) (av : List Value) (n : Nat) (F : Nat → va_E) (n' : Nat) (post : Int32 → (Nat → va_E) → Prop) : Prop := Met l y ws rm (va_Pc av (sx_P G n F)) (va_Qi post (sx_P G n') (sx_A G)) rm.cells rm.slots (sx_A G)
def sx_V (G : sx_G) (l : Launch) (y : MethodName) (ws : List Cond) (rm : Room) (av : List Value) (n : Nat) (F : Nat → va_E) (n' : Nat) (post : (Nat → va_E) → Prop) : Prop := Met l y ws rm (va_Pc av (sx_P G n F)) (va_Qv post (sx_P G n') (sx_A G)) rm.cells rm.slots (sx_A G)
def sx_J (G : sx_G) (l : Launch) (y : MethodName) (ws : List Cond) (rm : Room) (av : List Value) (n : Nat) (F : Nat → va_E) (n' : Nat) (post : Int64 → (Nat → va_E) → Prop) : Prop := Met l y ws rm (va_Pc av (sx_P G n F)) (va_Ql post (sx_P G n') (sx_A G)) rm.cells rm.slots (sx_A G)
/-- what a method's walk stands on -/
def sx_X (G : sx_G) (p : Program) (m : MethodId) (c : Code) (cc : ByteArray) (nL : Nat) (s : State) (args : Array Value) (Ts : List Cond) (own : String) (meth : Method) (ret : Option FieldType) (nm : String) : Prop := CallFix p m c cc nL s args Ts own ∧ meth.sig.returnType = ret ∧ meth.locks = false ∧ meth.name = nm ∧ sx_C G s
theorem sx_enter {l : Launch} {G : sx_G} {y : MethodName} {ws ws' : List Cond} {rm : Room} {av : List Value} {n : Nat} {F : Nat → va_E} {cc : ByteArray} {maxL : Nat} {ret : Option FieldType} {own nm : String} {Qc : Array Value → State → Outcome → State → Prop} {mc ms : Nat} {free : Addr → Prop}
    (hy : plainName y.cls = true) (hw : ws = Cond.code y cc maxL ret :: ws') (ho : y.cls = own) (hn : y.name = nm) (hm : (lg_sl av).length ≤ maxL)
    (body : ∀ (p : Program) (e : Env) (s : State) (m : MethodId) (args : Array Value) (below : List Frame) (meth : Method) (c : Code) (ls : Array Slot) (Q : State → Prop), Q = MQ below Qc args s mc ms free → sx_X G p m c cc maxL s args ws own meth ret nm → s.heap.size = sx_b G + n → sx_H G n F s.heap s.heap [] → lv_has ls maxL (lv_args 0 av) → W p l e rm s m args below meth c s.heap [] 0 0 Q (F0 m 0 ls [])) :
    Met l y ws rm (va_Pc av (sx_P G n F)) Qc mc ms free := by
  refine Met.ofW (cc := cc) (maxL := maxL) (ret := ret) hy hw ?_
  intro p e s m args below meth c s₁ B hml hv
  obtain ⟨rfl, hsz, hP, hC⟩ := hv
  have hown : s.vm.findClass y.cls = some m.cls := findClass_of_methodNamed B.named
  rw [lg_entry_eq]
  refine body p e s m _ below meth c _ _ rfl ⟨⟨B.exec, B.bytes, hml, by rw [← ho]; exact hown, atoms_spec (ws := ws) B.pre⟩, B.returns, B.notSynchronized, by rw [← hn]; exact (name_of_methodNamed B.named B.method).1, hC⟩ hsz ⟨hP, va_S.rf⟩ (lv_entry av hm)
section SX
variable {G : sx_G} {p : Program} {l : Launch} {e : Env} {R : Room} {s : State} {m : MethodId} {args : Array Value} {below : List Frame} {meth : Method} {c : Code} {H : Heap} {locs : List Loc} {cells slots : Nat} {Q : State → Prop} {cc : ByteArray} {nL : Nat} {Ts : List Cond} {own nm : String} {ret : Option FieldType} {pc : Nat} {ls : Array Slot} {rest : List Value} {n : Nat} {F : Nat → va_E}
/-- the heap's size, by the room that is used up -/
theorem sx_size {T : State} {n0 : Nat} (X : Stand p l e R s m args below meth c T locs cells slots) (hT : T.heap = H) (hs : s.heap.size = sx_b G + n0) (hn : n = n0 + cells) (hP : sx_H G n F s.heap H locs) : H.size = sx_b G + n := by
  have h1 : T.heap.size ≤ s.heap.size + cells := X.same.2.2.1
  rw [hT] at h1
  have h2 := hP.2.1
  by_cases hz : n = 0
  · omega
  · have h3 := (hP.1 (n - 1) _ (sx_L_get G F (by omega))).lt
    have h4 : sx_b G + (n - 1) < H.size := h3
    omega
theorem sx_iret {v : Int32} {n0 : Nat} {post : Int32 → (Nat → va_E) → Prop} (X : sx_X G p m c cc nL s args Ts own meth ret nm) (hr : ret = some .int) (hs : s.heap.size = sx_b G + n0) (hn : n = n0 + cells) (hP : sx_H G n F s.heap H locs) (hd : decode cc pc = .ok (.ireturn, 1)) (hp : post v F) : W p l e R s m args below meth c H locs (cells) (slots) (MQ below (va_Qi post (sx_P G n) (sx_A G)) args s cells slots (sx_A G)) (F0 m (pc) ls ([.int v])) := by
  obtain ⟨⟨hx, hb, -, -, -⟩, hrt, hlk, -, hC⟩ := X
  intro T hT X0
  have hz := sx_size X0 hT hs hn hP
  exact W.iret (v := v) hx hb (by rw [hrt, hr]) (fun t ht hW => ⟨⟨v, F, rfl, hp, by rw [ht]; exact hz, by rw [ht]; exact hP.1, hC.warm hW⟩, hP.2.F ht⟩) hP.2.2.2 hd hlk T hT X0
theorem sx_vret {n0 : Nat} {post : (Nat → va_E) → Prop} (X : sx_X G p m c cc nL s args Ts own meth ret nm) (hr : ret = none) (hs : s.heap.size = sx_b G + n0) (hn : n = n0 + cells) (hP : sx_H G n F s.heap H locs) (hd : decode cc pc = .ok (.return_, 1)) (hp : post F) : W p l e R s m args below meth c H locs (cells) (slots) (MQ below (va_Qv post (sx_P G n) (sx_A G)) args s cells slots (sx_A G)) (F0 m (pc) ls ([])) := by
  obtain ⟨⟨hx, hb, -, -, -⟩, hrt, hlk, -, hC⟩ := X
  intro T hT X0
  have hz := sx_size X0 hT hs hn hP
  exact W.vret hx hb (by rw [hrt, hr]) (fun t ht hW => ⟨⟨F, rfl, hp, by rw [ht]; exact hz, by rw [ht]; exact hP.1, hC.warm hW⟩, hP.2.F ht⟩) hP.2.2.2 hd hlk T hT X0
theorem sx_lret {v : Int64} {n0 : Nat} {post : Int64 → (Nat → va_E) → Prop} (X : sx_X G p m c cc nL s args Ts own meth ret nm) (hr : ret = some .long) (hs : s.heap.size = sx_b G + n0) (hn : n = n0 + cells) (hP : sx_H G n F s.heap H locs) (hd : decode cc pc = .ok (.lreturn, 1)) (hp : post v F) : W p l e R s m args below meth c H locs (cells) (slots) (MQ below (va_Ql post (sx_P G n) (sx_A G)) args s cells slots (sx_A G)) (F0 m (pc) ls ([.long v])) := by
  obtain ⟨⟨hx, hb, -, -, -⟩, hrt, hlk, -, hC⟩ := X
  intro T hT X0
  have hz := sx_size X0 hT hs hn hP
  exact W.lret (v := v) hx hb (by rw [hrt, hr]) (fun t ht hW => ⟨⟨v, F, rfl, hp, by rw [ht]; exact hz, by rw [ht]; exact hP.1, hC.warm hW⟩, hP.2.F ht⟩) hP.2.2.2 hd hlk T hT X0
theorem sx_zret {v : Int32} {n0 : Nat} {post : Int32 → (Nat → va_E) → Prop} (X : sx_X G p m c cc nL s args Ts own meth ret nm) (hr : ret = some .boolean) (hnr : narrow .boolean (.int v) = .int v) (hs : s.heap.size = sx_b G + n0) (hn : n = n0 + cells) (hP : sx_H G n F s.heap H locs) (hd : decode cc pc = .ok (.ireturn, 1)) (hp : post v F) : W p l e R s m args below meth c H locs (cells) (slots) (MQ below (va_Qi post (sx_P G n) (sx_A G)) args s cells slots (sx_A G)) (F0 m (pc) ls ([.int v])) := by
  obtain ⟨⟨hx, hb, -, -, -⟩, hrt, hlk, -, hC⟩ := X
  intro T hT X0
  have hz := sx_size X0 hT hs hn hP
  exact W.zret (v := v) hx hb (by rw [hrt, hr]) hnr (fun t ht hW => ⟨⟨v, F, rfl, hp, by rw [ht]; exact hz, by rw [ht]; exact hP.1, hC.warm hW⟩, hP.2.F ht⟩) hP.2.2.2 hd hlk T hT X0
theorem sx_get (X : sx_X G p m c cc nL s args Ts own meth ret nm) (hP : sx_H G n F s.heap H locs) {C : String} {T : u_T} {N ci index : Nat} (hin : ∀ w ∈ u_ws C T N, w ∈ Ts) {i : Nat} {fs : List Value} (hF : F i = ob ci fs) (hi : i < n) (hc : vwCl[ci]? = some (C, T, N)) (k : Nat) (hk : k < N) (hlink : Cond.fieldLink own index (T k).1 (T k).2.1 (T k).2.2.1 ∈ Ts) {v : Value} (hv : fs[k]? = some v) (hd : decode cc pc = .ok (.getfield index, 3))
    (kk : W p l e R s m args below meth c H locs (cells) (slots) Q (F0 m (pc + 3) ls (v :: rest))) : W p l e R s m args below meth c H locs (cells) (slots) Q (F0 m (pc) ls (rf G i :: rest)) := by
  obtain ⟨⟨hx, hb, -, hown, hts⟩, -, -, -, hC⟩ := X
  exact va_get (D := G.1) hx hb hts hin hown hC.1 hP.1 i (by rw [sx_L_get G F hi, hF]) hc k hk (hts _ hlink) (fun _ h9 => h9) hv hd kk
theorem sx_put (X : sx_X G p m c cc nL s args Ts own meth ret nm) (hP : sx_H G n F s.heap H locs) {C : String} {T : u_T} {N ci index : Nat} (hin : ∀ w ∈ u_ws C T N, w ∈ Ts) (ty0 : Nat → FieldType) (hty : ∀ k, k < N → parseFieldDescriptor (T k).2.2.1 = some (ty0 k)) (hnm : ∀ a, a < N → ∀ b, b < N → a ≠ b → (T a).2.1 ≠ (T b).2.1) {i : Nat} {fs : List Value} (hF : F i = ob ci fs) (hi : i < n) (hc : vwCl[ci]? = some (C, T, N)) (k : Nat) (hk : k < N) (hlink : Cond.fieldLink own index (T k).1 (T k).2.1 (T k).2.2.1 ∈ Ts) (hfin : (T k).2.2.2 = false) {v : Value} (hnr : narrow (ty0 k) v = v) (hfit : fits (ty0 k) v = true) (hl : k < fs.length) (hd : decode cc pc = .ok (.putfield index, 3))
    (kk : ∀ (F1 : Nat → va_E) (H1 : Heap) (locs1 : List Loc), F1 i = ob ci (fs.set k v) → (∀ j, j ≠ i → F1 j = F j) → sx_H G n F1 s.heap H1 locs1 → W p l e R s m args below meth c H1 locs1 (cells) (slots) Q (F0 m (pc + 3) ls (rest))) : W p l e R s m args below meth c H locs (cells) (slots) Q (F0 m (pc) ls (v :: rf G i :: rest)) := by
  obtain ⟨⟨hx, hb, -, hown, hts⟩, -, -, -, hC⟩ := X
  refine va_put (D := G.1) hx hb hts hin ty0 hty hnm hown hC.1 hP.1 (sx_LD G n F) hP.2 i (by rw [sx_L_get G F hi, hF]) hc k hk (hts _ hlink) (fun _ h9 => h9) hfin (hty k hk) hnr hfit hl hd (fun H1 locs1 h1 _ h3 => ?_)
  rw [sx_L_set] at h1
  exact kk _ H1 locs1 (va_up_self _ _ _) (fun j hj => va_up_ne _ _ hj) ⟨h1, h3⟩
theorem sx_putF (X : sx_X G p m c cc nL s args Ts own meth ret nm) (hP : sx_H G n F s.heap H locs) {C : String} {T : u_T} {N ci index : Nat} (hin : ∀ w ∈ u_ws C T N, w ∈ Ts) (ty0 : Nat → FieldType) (hty : ∀ k, k < N → parseFieldDescriptor (T k).2.2.1 = some (ty0 k)) (hnm : ∀ a, a < N → ∀ b, b < N → a ≠ b → (T a).2.1 ≠ (T b).2.1) {i : Nat} {fs : List Value} (hF : F i = ob ci fs) (hi : i < n) (hc : vwCl[ci]? = some (C, T, N)) (k : Nat) (hk : k < N) (hlink : Cond.fieldLink own index (T k).1 (T k).2.1 (T k).2.2.1 ∈ Ts) (hfin : (T k).2.2.2 = true) (hin2 : nm = "<init>") (hdecl : (T k).1 = own) {v : Value} (hnr : narrow (ty0 k) v = v) (hfit : fits (ty0 k) v = true) (hl : k < fs.length) (hd : decode cc pc = .ok (.putfield index, 3))
    (kk : ∀ (F1 : Nat → va_E) (H1 : Heap) (locs1 : List Loc), F1 i = ob ci (fs.set k v) → (∀ j, j ≠ i → F1 j = F j) → sx_H G n F1 s.heap H1 locs1 → W p l e R s m args below meth c H1 locs1 (cells) (slots) Q (F0 m (pc + 3) ls (rest))) : W p l e R s m args below meth c H locs (cells) (slots) Q (F0 m (pc) ls (v :: rf G i :: rest)) := by
  obtain ⟨⟨hx, hb, -, hown, hts⟩, -, -, hnm2, hC⟩ := X
  refine va_putF (D := G.1) hx hb hts hin ty0 hty hnm hown hC.1 hP.1 (sx_LD G n F) hP.2 i (by rw [sx_L_get G F hi, hF]) hc k hk (hts _ hlink) (fun _ h9 => h9) hfin (hnm2.trans hin2) hdecl (hty k hk) hnr hfit hl hd (fun H1 locs1 h1 _ h3 => ?_)
  rw [sx_L_set] at h1
  exact kk _ H1 locs1 (va_up_self _ _ _) (fun j hj => va_up_ne _ _ hj) ⟨h1, h3⟩
theorem sx_ald (X : sx_X G p m c cc nL s args Ts own meth ret nm) (hP : sx_H G n F s.heap H locs) {i len : Nat} {f : Nat → Int32} (hF : F i = rI G len f) (hi : i < n) (j : Nat) (hj : j < len) (hlen : len < 2 ^ 31) (hd : decode cc pc = .ok (.iaload, 1))
    (kk : W p l e R s m args below meth c H locs (cells) (slots) Q (F0 m (pc + 1) ls (.int (f j) :: rest))) : W p l e R s m args below meth c H locs (cells) (slots) Q (F0 m (pc) ls (.int (nI j) :: rf G i :: rest)) := by
  obtain ⟨⟨hx, hb, -, hown, hts⟩, -, -, -, hC⟩ := X
  exact va_iald (D := G.1) hx hb hC.1 hP.1 i 0 (by rw [sx_L_get G F hi, hF]) rfl (vp_in_nI hj hlen) hd (by rw [nI_clamp (Nat.lt_trans hj hlen)]; exact kk)
theorem sx_ast (X : sx_X G p m c cc nL s args Ts own meth ret nm) (hP : sx_H G n F s.heap H locs) {i len : Nat} {f : Nat → Int32} (hF : F i = rI G len f) (hi : i < n) (j : Nat) (hj : j < len) (hlen : len < 2 ^ 31) {x : Int32} (hd : decode cc pc = .ok (.iastore, 1))
    (kk : ∀ (F1 : Nat → va_E) (H1 : Heap) (locs1 : List Loc), F1 i = rI G len (upd f j x) → (∀ j, j ≠ i → F1 j = F j) → sx_H G n F1 s.heap H1 locs1 → W p l e R s m args below meth c H1 locs1 (cells) (slots) Q (F0 m (pc + 1) ls (rest))) : W p l e R s m args below meth c H locs (cells) (slots) Q (F0 m (pc) ls (.int x :: .int (nI j) :: rf G i :: rest)) := by
  obtain ⟨⟨hx, hb, -, hown, hts⟩, -, -, -, hC⟩ := X
  refine va_iast (D := G.1) hx hb hC.1 hP.1 (sx_LD G n F) hP.2 i 0 (by rw [sx_L_get G F hi, hF]) rfl (vp_in_nI hj hlen) hd (fun H1 locs1 h1 _ h3 => ?_)
  rw [sx_L_set, nI_clamp (Nat.lt_trans hj hlen)] at h1
  exact kk _ H1 locs1 (va_up_self _ _ _) (fun j hj => va_up_ne _ _ hj) ⟨h1, h3⟩
theorem sx_zald (X : sx_X G p m c cc nL s args Ts own meth ret nm) (hP : sx_H G n F s.heap H locs) {i len : Nat} {f : Nat → Int32} (hF : F i = rZ G len f) (hi : i < n) (j : Nat) (hj : j < len) (hlen : len < 2 ^ 31) (hd : decode cc pc = .ok (.baload, 1))
    (kk : W p l e R s m args below meth c H locs (cells) (slots) Q (F0 m (pc + 1) ls (.int (f j) :: rest))) : W p l e R s m args below meth c H locs (cells) (slots) Q (F0 m (pc) ls (.int (nI j) :: rf G i :: rest)) := by
  obtain ⟨⟨hx, hb, -, hown, hts⟩, -, -, -, hC⟩ := X
  exact va_zald (D := G.1) hx hb hC.1 hP.1 i 1 (by rw [sx_L_get G F hi, hF]) rfl (vp_in_nI hj hlen) hd (by rw [nI_clamp (Nat.lt_trans hj hlen)]; exact kk)
theorem sx_zast (X : sx_X G p m c cc nL s args Ts own meth ret nm) (hP : sx_H G n F s.heap H locs) {i len : Nat} {f : Nat → Int32} (hF : F i = rZ G len f) (hi : i < n) (j : Nat) (hj : j < len) (hlen : len < 2 ^ 31) {x : Int32} (hnx : vp_nar .boolean x = x) (hd : decode cc pc = .ok (.bastore, 1))
    (kk : ∀ (F1 : Nat → va_E) (H1 : Heap) (locs1 : List Loc), F1 i = rZ G len (upd f j x) → (∀ j, j ≠ i → F1 j = F j) → sx_H G n F1 s.heap H1 locs1 → W p l e R s m args below meth c H1 locs1 (cells) (slots) Q (F0 m (pc + 1) ls (rest))) : W p l e R s m args below meth c H locs (cells) (slots) Q (F0 m (pc) ls (.int x :: .int (nI j) :: rf G i :: rest)) := by
  obtain ⟨⟨hx, hb, -, hown, hts⟩, -, -, -, hC⟩ := X
  refine va_zast (D := G.1) hx hb hC.1 hP.1 (sx_LD G n F) hP.2 i 1 (by rw [sx_L_get G F hi, hF]) rfl (vp_in_nI hj hlen) hd (fun H1 locs1 h1 _ h3 => ?_)
  rw [sx_L_set, nI_clamp (Nat.lt_trans hj hlen), hnx] at h1
  exact kk _ H1 locs1 (va_up_self _ _ _) (fun j hj => va_up_ne _ _ hj) ⟨h1, h3⟩
theorem sx_kald (X : sx_X G p m c cc nL s args Ts own meth ret nm) (hP : sx_H G n F s.heap H locs) {i len : Nat} {f : Nat → Option Nat} (hF : F i = rK G len f) (hi : i < n) (j : Nat) (hj : j < len) (hlen : len < 2 ^ 31) {q : Nat} (hq : f j = some (sx_b G + q)) (hd : decode cc pc = .ok (.aaload, 1))
    (kk : W p l e R s m args below meth c H locs (cells) (slots) Q (F0 m (pc + 1) ls (rf G q :: rest))) : W p l e R s m args below meth c H locs (cells) (slots) Q (F0 m (pc) ls (.int (nI j) :: rf G i :: rest)) := by
  obtain ⟨⟨hx, hb, -, hown, hts⟩, -, -, -, hC⟩ := X
  exact va_aldq (D := G.1) hx hb hC.1 hP.1 i 2 (by rw [sx_L_get G F hi, hF]) rfl (vp_in_nI hj hlen) hd (by rw [nI_clamp (Nat.lt_trans hj hlen), hq]; exact kk)
theorem sx_oald (X : sx_X G p m c cc nL s args Ts own meth ret nm) (hP : sx_H G n F s.heap H locs) {i len : Nat} {f : Nat → Option Nat} (hF : F i = rO G len f) (hi : i < n) (j : Nat) (hj : j < len) (hlen : len < 2 ^ 31) {q : Nat} (hq : f j = some (sx_b G + q)) (hd : decode cc pc = .ok (.aaload, 1))
    (kk : W p l e R s m args below meth c H locs (cells) (slots) Q (F0 m (pc + 1) ls (rf G q :: rest))) : W p l e R s m args below meth c H locs (cells) (slots) Q (F0 m (pc) ls (.int (nI j) :: rf G i :: rest)) := by
  obtain ⟨⟨hx, hb, -, hown, hts⟩, -, -, -, hC⟩ := X
  exact va_aldq (D := G.1) hx hb hC.1 hP.1 i 3 (by rw [sx_L_get G F hi, hF]) rfl (vp_in_nI hj hlen) hd (by rw [nI_clamp (Nat.lt_trans hj hlen), hq]; exact kk)
theorem sx_alen (X : sx_X G p m c cc nL s args Ts own meth ret nm) (hP : sx_H G n F s.heap H locs) {i len : Nat} {f : Nat → Int32} (hF : F i = rI G len f) (hi : i < n) (hd : decode cc pc = .ok (.arraylength, 1))
    (kk : W p l e R s m args below meth c H locs (cells) (slots) Q (F0 m (pc + 1) ls (.int (nI len) :: rest))) : W p l e R s m args below meth c H locs (cells) (slots) Q (F0 m (pc) ls (rf G i :: rest)) := by
  obtain ⟨⟨hx, hb, -, hown, hts⟩, -, -, -, hC⟩ := X
  exact va_alen (D := G.1) hx hb hC.1 hP.1 i 0 (x := (len, .inl f)) (by rw [sx_L_get G F hi, hF]) (ty := .int) rfl rfl hd kk
theorem sx_kast (X : sx_X G p m c cc nL s args Ts own meth ret nm) (hP : sx_H G n F s.heap H locs) {i len : Nat} {f : Nat → Option Nat} (hF : F i = rK G len f) (hi : i < n) (j : Nat) (hj : j < len) (hlen : len < 2 ^ 31) {q : Nat} {vs : List Value} (hq : F q = ob 2 vs) (hqn : q < n) (hd : decode cc pc = .ok (.aastore, 1))
    (kk : ∀ (F1 : Nat → va_E) (H1 : Heap) (locs1 : List Loc), F1 i = rK G len (va_up f j (some (sx_b G + q))) → (∀ j, j ≠ i → F1 j = F j) → sx_H G n F1 s.heap H1 locs1 → W p l e R s m args below meth c H1 locs1 (cells) (slots) Q (F0 m (pc + 1) ls (rest))) : W p l e R s m args below meth c H locs (cells) (slots) Q (F0 m (pc) ls (rf G q :: .int (nI j) :: rf G i :: rest)) := by
  obtain ⟨⟨hx, hb, -, hown, hts⟩, -, -, -, hC⟩ := X
  refine va_astq (D := G.1) hx hb hC.1 hP.1 (sx_LD G n F) hP.2 i 2 q 2 (r := (RX2, TX2, 10)) (by rw [sx_L_get G F hi, hF]) rfl (by rw [sx_L_get G F hqn, hq]) rfl (vp_in_nI hj hlen) hd (fun H1 locs1 h1 _ h3 => ?_)
  rw [sx_L_set, nI_clamp (Nat.lt_trans hj hlen)] at h1
  exact kk _ H1 locs1 (va_up_self _ _ _) (fun j hj => va_up_ne _ _ hj) ⟨h1, h3⟩
theorem sx_oast (X : sx_X G p m c cc nL s args Ts own meth ret nm) (hP : sx_H G n F s.heap H locs) {i len : Nat} {f : Nat → Option Nat} (hF : F i = rO G len f) (hi : i < n) (j : Nat) (hj : j < len) (hlen : len < 2 ^ 31) {q : Nat} {vs : List Value} (hq : F q = ob 5 vs) (hqn : q < n) (hd : decode cc pc = .ok (.aastore, 1))
    (kk : ∀ (F1 : Nat → va_E) (H1 : Heap) (locs1 : List Loc), F1 i = rO G len (va_up f j (some (sx_b G + q))) → (∀ j, j ≠ i → F1 j = F j) → sx_H G n F1 s.heap H1 locs1 → W p l e R s m args below meth c H1 locs1 (cells) (slots) Q (F0 m (pc + 1) ls (rest))) : W p l e R s m args below meth c H locs (cells) (slots) Q (F0 m (pc) ls (rf G q :: .int (nI j) :: rf G i :: rest)) := by
  obtain ⟨⟨hx, hb, -, hown, hts⟩, -, -, -, hC⟩ := X
  refine va_astq (D := G.1) hx hb hC.1 hP.1 (sx_LD G n F) hP.2 i 3 q 5 (r := (RX5, TX5, 7)) (by rw [sx_L_get G F hi, hF]) rfl (by rw [sx_L_get G F hqn, hq]) rfl (vp_in_nI hj hlen) hd (fun H1 locs1 h1 _ h3 => ?_)
  rw [sx_L_set, nI_clamp (Nat.lt_trans hj hlen)] at h1
  exact kk _ H1 locs1 (va_up_self _ _ _) (fun j hj => va_up_ne _ _ hj) ⟨h1, h3⟩
theorem sx_copy (X : sx_X G p m c cc nL s args Ts own meth ret nm) (hP : sx_H G n F s.heap H locs) (hls : ls.size = nL) {index : Nat} (hlink : Cond.methodLink own index arraycopyName ∈ Ts) (hnat : Cond.native arraycopyName ∈ Ts) (hstat : Cond.static arraycopyName ∈ Ts) (hini : Cond.initialized "java/lang/System" ∈ Ts) {i i0 len len0 : Nat} {f g : Nat → Int32} (hF0 : F i0 = rI G len0 f) (hF : F i = rI G len g) (hi0 : i0 < n) (hi : i < n) (sp dp k : Nat) (h4 : sp + k ≤ len0) (h5 : dp + k ≤ len) (hl0 : len0 < 2 ^ 31) (hl1 : len < 2 ^ 31) (hfr : 1 ≤ R.frames) (hlo : (rest.map fun v => v.category).sum + (nativeFrameWords "java/lang/System" "arraycopy" 5 + 11) ≤ R.locals) (hd : decode cc pc = .ok (.invokestatic index, 3))
    (kk : ∀ (F1 : Nat → va_E) (H1 : Heap) (locs1 : List Loc), F1 i = rI G len (va_cpy f g sp dp k) → (∀ j, j ≠ i → F1 j = F j) → sx_H G n F1 s.heap H1 locs1 → W p l e R s m args below meth c H1 locs1 (cells) (slots) Q (F0 m (pc + 3) ls (rest))) : W p l e R s m args below meth c H locs (cells) (slots) Q (F0 m (pc) ls (.int (nI k) :: .int (nI dp) :: rf G i :: .int (nI sp) :: rf G i0 :: rest)) := by
  obtain ⟨⟨hx, hb, hml, hown, hts⟩, -, -, -, hC⟩ := X
  have e1 : (nI sp).toNatClampNeg = sp := nI_clamp (by omega)
  have e2 : (nI dp).toNatClampNeg = dp := nI_clamp (by omega)
  have e3 : (nI k).toNatClampNeg = k := nI_clamp (by omega)
  refine va_copyi (D := G.1) hx hb (hml.trans hls.symm) hown (hts _ hlink) (hts _ hnat) (hts _ hstat) (hts _ hini) hC.1 hP.1 (sx_LD G n F) hP.2 i0 i 0 0 (by rw [sx_L_get G F hi0, hF0]) (by rw [sx_L_get G F hi, hF]) rfl rfl rfl (nI_pos (by omega)) (nI_pos (by omega)) (nI_pos (by omega)) (by rw [e1, e3]; exact h4) (by rw [e2, e3]; exact h5) (fun _ _ => rfl) hfr hlo hd (fun H1 locs1 h1 _ h3 => ?_)
  rw [sx_L_set, e1, e2, e3] at h1
  exact kk _ H1 locs1 (va_up_self _ _ _) (fun j hj => va_up_ne _ _ hj) ⟨h1, h3⟩
theorem sx_max (X : sx_X G p m c cc nL s args Ts own meth ret nm) (hls : ls.size = nL) {index : Nat} (hlink : Cond.methodLink own index Lib.Math.max.name ∈ Ts) (hstat : Cond.static Lib.Math.max.name ∈ Ts) (hini : Cond.initialized "java/lang/Math" ∈ Ts) (hcode : Cond.code Lib.Math.max.name Lib.Math.max.code 2 (some .int) ∈ Ts) (hfr : 1 ≤ R.frames) (hlo : (rest.map fun v => v.category).sum + 13 ≤ R.locals) (hc : cells ≤ R.cells) (hs : slots ≤ R.slots) {x y : Int32} (hd : decode cc pc = .ok (.invokestatic index, 3))
    (kk : W p l e R s m args below meth c H locs (cells) (slots) Q (F0 m (pc + 3) ls (.int (if x < y then y else x) :: rest))) : W p l e R s m args below meth c H locs (cells) (slots) Q (F0 m (pc) ls (.int y :: .int x :: rest)) := by
  obtain ⟨⟨hx, hb, hml, hown, hts⟩, -, -, -, hC⟩ := X
  exact va_mmax hx hb (hml.trans hls.symm) hown (hts _ hlink) (hts _ hstat) (hts _ hini) (hts _ hcode) hfr hlo hc hs hd kk
theorem sx_min (X : sx_X G p m c cc nL s args Ts own meth ret nm) (hls : ls.size = nL) {index : Nat} (hlink : Cond.methodLink own index Lib.Math.min.name ∈ Ts) (hstat : Cond.static Lib.Math.min.name ∈ Ts) (hini : Cond.initialized "java/lang/Math" ∈ Ts) (hcode : Cond.code Lib.Math.min.name Lib.Math.min.code 2 (some .int) ∈ Ts) (hfr : 1 ≤ R.frames) (hlo : (rest.map fun v => v.category).sum + 13 ≤ R.locals) (hc : cells ≤ R.cells) (hs : slots ≤ R.slots) {x y : Int32} (hd : decode cc pc = .ok (.invokestatic index, 3))
    (kk : W p l e R s m args below meth c H locs (cells) (slots) Q (F0 m (pc + 3) ls (.int (if y < x then y else x) :: rest))) : W p l e R s m args below meth c H locs (cells) (slots) Q (F0 m (pc) ls (.int y :: .int x :: rest)) := by
  obtain ⟨⟨hx, hb, hml, hown, hts⟩, -, -, -, hC⟩ := X
  exact va_mmin hx hb (hml.trans hls.symm) hown (hts _ hlink) (hts _ hstat) (hts _ hini) (hts _ hcode) hfr hlo hc hs hd kk
theorem sx_cvI {y : MethodName} {ws ws' : List Cond} {rm : Room} {As : List Value} {n' : Nat} {bytes : ByteArray} {maxL index n0 : Nat} {ret' : Option FieldType} {st0 : List Value} {post : Int32 → (Nat → va_E) → Prop} {C : String} {i ci : Nat} {fs : List Value} {q : vw_C} (X : sx_X G p m c cc nL s args Ts own meth ret nm) (hM : sx_I G l y ws rm (rf G i :: As) n F n' post) (hG : GoodIn Ts (wsV own index C y ws)) (hw : ws = Cond.code y bytes maxL ret' :: ws') (hd : y.cls = C ∧ y.cls ≠ "java/lang/invoke/MethodHandle" ∧ y.cls ≠ "java/lang/invoke/VarHandle" ∧ (parseMethodDescriptor y.desc).map (fun d => d.parameters.length) = some As.length) (hR : rm.frames + 1 ≤ R.frames ∧ 8 + (maxL + 11) + rm.locals ≤ R.locals) (hF : F i = ob ci fs) (hi : i < n) (hc : vwCl[ci]? = some q) (hq : q.1 = C) (hls : ls.size = nL) (hst : st0 = As.reverse ++ rf G i :: rest) (hroom : (rest.map fun v => v.category).sum ≤ 8) (hdg : decode cc pc = .ok (.invokevirtual index, 3)) (hcs : cells + rm.cells ≤ R.cells ∧ slots + rm.slots ≤ R.slots) (hs : s.heap.size = sx_b G + n0) (hn : n = n0 + cells) (hP : sx_H G n F s.heap H locs)
    (kk : ∀ (r : Int32) (F1 : Nat → va_E) (H1 : Heap) (locs1 : List Loc), post r F1 → sx_H G n' F1 s.heap H1 locs1 → W p l e R s m args below meth c H1 locs1 (cells + rm.cells) (slots + rm.slots) Q (F0 m (pc + 3) ls (.int r :: rest))) : W p l e R s m args below meth c H locs (cells) (slots) Q (F0 m (pc) ls (st0)) := by
  subst hst
  subst hq
  obtain ⟨Sf, -, -, -, hC⟩ := X
  obtain ⟨hx, hb, hml, hown, hts⟩ := id Sf
  intro T hT X0
  have hz := sx_size X0 hT hs hn hP
  refine va_calli (A0 := sx_A G) (H0 := s.heap) (va_runV (As := As) (rest := rest) Sf hM (cwV As.length hts hG hw rfl rfl hd hR) ⟨sx_blind G n F _, va_recv hC.1 hP.1 (q0 := i) hc (by rw [sx_L_get G F hi, hF]), fun U hU hW => ⟨rfl, by rw [hU]; exact hz, by rw [hU]; exact hP.1, hC.warm hW⟩⟩ rfl rfl hls rfl (lv_room hroom) hdg hcs) hP.2 (fun _ _ h => h) (fun _ h => h) (fun r F1 t H1 locs1 ht hvm hp hB hz1 hk1 hS1 => ?_) T hT X0
  exact kk r F1 H1 locs1 hp ⟨by rw [← ht]; exact hB.2.1, hS1⟩
theorem sx_cvV {y : MethodName} {ws ws' : List Cond} {rm : Room} {As : List Value} {n' : Nat} {bytes : ByteArray} {maxL index n0 : Nat} {ret' : Option FieldType} {st0 : List Value} {post : (Nat → va_E) → Prop} {C : String} {i ci : Nat} {fs : List Value} {q : vw_C} (X : sx_X G p m c cc nL s args Ts own meth ret nm) (hM : sx_V G l y ws rm (rf G i :: As) n F n' post) (hG : GoodIn Ts (wsV own index C y ws)) (hw : ws = Cond.code y bytes maxL ret' :: ws') (hd : y.cls = C ∧ y.cls ≠ "java/lang/invoke/MethodHandle" ∧ y.cls ≠ "java/lang/invoke/VarHandle" ∧ (parseMethodDescriptor y.desc).map (fun d => d.parameters.length) = some As.length) (hR : rm.frames + 1 ≤ R.frames ∧ 8 + (maxL + 11) + rm.locals ≤ R.locals) (hF : F i = ob ci fs) (hi : i < n) (hc : vwCl[ci]? = some q) (hq : q.1 = C) (hls : ls.size = nL) (hst : st0 = As.reverse ++ rf G i :: rest) (hroom : (rest.map fun v => v.category).sum ≤ 8) (hdg : decode cc pc = .ok (.invokevirtual index, 3)) (hcs : cells + rm.cells ≤ R.cells ∧ slots + rm.slots ≤ R.slots) (hs : s.heap.size = sx_b G + n0) (hn : n = n0 + cells) (hP : sx_H G n F s.heap H locs)
    (kk : ∀ (F1 : Nat → va_E) (H1 : Heap) (locs1 : List Loc), post F1 → sx_H G n' F1 s.heap H1 locs1 → W p l e R s m args below meth c H1 locs1 (cells + rm.cells) (slots + rm.slots) Q (F0 m (pc + 3) ls (rest))) : W p l e R s m args below meth c H locs (cells) (slots) Q (F0 m (pc) ls (st0)) := by
  subst hst
  subst hq
  obtain ⟨Sf, -, -, -, hC⟩ := X
  obtain ⟨hx, hb, hml, hown, hts⟩ := id Sf
  intro T hT X0
  have hz := sx_size X0 hT hs hn hP
  refine va_callv (A0 := sx_A G) (H0 := s.heap) (va_runV (As := As) (rest := rest) Sf hM (cwV As.length hts hG hw rfl rfl hd hR) ⟨sx_blind G n F _, va_recv hC.1 hP.1 (q0 := i) hc (by rw [sx_L_get G F hi, hF]), fun U hU hW => ⟨rfl, by rw [hU]; exact hz, by rw [hU]; exact hP.1, hC.warm hW⟩⟩ rfl rfl hls rfl (lv_room hroom) hdg hcs) hP.2 (fun _ _ h => h) (fun _ h => h) (fun F1 t H1 locs1 ht hvm hp hB hz1 hk1 hS1 => ?_) T hT X0
  exact kk F1 H1 locs1 hp ⟨by rw [← ht]; exact hB.2.1, hS1⟩
theorem sx_csI {y : MethodName} {ws ws' : List Cond} {rm : Room} {As : List Value} {n' : Nat} {bytes : ByteArray} {maxL index n0 : Nat} {ret' : Option FieldType} {st0 : List Value} {post : Int32 → (Nat → va_E) → Prop} (X : sx_X G p m c cc nL s args Ts own meth ret nm) (hM : sx_I G l y ws rm As n F n' post) (hG : GoodIn Ts (va_wsS own index y ws)) (hw : ws = Cond.code y bytes maxL ret' :: ws') (hd : y.cls ≠ "java/lang/invoke/MethodHandle" ∧ y.cls ≠ "java/lang/invoke/VarHandle" ∧ (parseMethodDescriptor y.desc).map (fun d => d.parameters.length) = some As.length) (hR : rm.frames + 1 ≤ R.frames ∧ 8 + (maxL + 11) + rm.locals ≤ R.locals) (hls : ls.size = nL) (hst : st0 = As.reverse ++ rest) (hroom : (rest.map fun v => v.category).sum ≤ 8) (hdg : decode cc pc = .ok (.invokestatic index, 3)) (hcs : cells + rm.cells ≤ R.cells ∧ slots + rm.slots ≤ R.slots) (hs : s.heap.size = sx_b G + n0) (hn : n = n0 + cells) (hP : sx_H G n F s.heap H locs)
    (kk : ∀ (r : Int32) (F1 : Nat → va_E) (H1 : Heap) (locs1 : List Loc), post r F1 → sx_H G n' F1 s.heap H1 locs1 → W p l e R s m args below meth c H1 locs1 (cells + rm.cells) (slots + rm.slots) Q (F0 m (pc + 3) ls (.int r :: rest))) : W p l e R s m args below meth c H locs (cells) (slots) Q (F0 m (pc) ls (st0)) := by
  subst hst
  obtain ⟨Sf, -, -, -, hC⟩ := X
  obtain ⟨hx, hb, hml, hown, hts⟩ := id Sf
  intro T hT X0
  have hz := sx_size X0 hT hs hn hP
  refine va_calli (A0 := sx_A G) (H0 := s.heap) (va_runS (As := As) (rest := rest) Sf hM (va_cwS As.length hts hG hw rfl rfl hd hR) ⟨sx_blind G n F _, fun U hU hW => ⟨rfl, by rw [hU]; exact hz, by rw [hU]; exact hP.1, hC.warm hW⟩⟩ rfl rfl hls rfl (lv_room hroom) hdg hcs) hP.2 (fun _ _ h => h) (fun _ h => h) (fun r F1 t H1 locs1 ht hvm hp hB hz1 hk1 hS1 => ?_) T hT X0
  exact kk r F1 H1 locs1 hp ⟨by rw [← ht]; exact hB.2.1, hS1⟩
theorem sx_csV {y : MethodName} {ws ws' : List Cond} {rm : Room} {As : List Value} {n' : Nat} {bytes : ByteArray} {maxL index n0 : Nat} {ret' : Option FieldType} {st0 : List Value} {post : (Nat → va_E) → Prop} (X : sx_X G p m c cc nL s args Ts own meth ret nm) (hM : sx_V G l y ws rm As n F n' post) (hG : GoodIn Ts (va_wsS own index y ws)) (hw : ws = Cond.code y bytes maxL ret' :: ws') (hd : y.cls ≠ "java/lang/invoke/MethodHandle" ∧ y.cls ≠ "java/lang/invoke/VarHandle" ∧ (parseMethodDescriptor y.desc).map (fun d => d.parameters.length) = some As.length) (hR : rm.frames + 1 ≤ R.frames ∧ 8 + (maxL + 11) + rm.locals ≤ R.locals) (hls : ls.size = nL) (hst : st0 = As.reverse ++ rest) (hroom : (rest.map fun v => v.category).sum ≤ 8) (hdg : decode cc pc = .ok (.invokestatic index, 3)) (hcs : cells + rm.cells ≤ R.cells ∧ slots + rm.slots ≤ R.slots) (hs : s.heap.size = sx_b G + n0) (hn : n = n0 + cells) (hP : sx_H G n F s.heap H locs)
    (kk : ∀ (F1 : Nat → va_E) (H1 : Heap) (locs1 : List Loc), post F1 → sx_H G n' F1 s.heap H1 locs1 → W p l e R s m args below meth c H1 locs1 (cells + rm.cells) (slots + rm.slots) Q (F0 m (pc + 3) ls (rest))) : W p l e R s m args below meth c H locs (cells) (slots) Q (F0 m (pc) ls (st0)) := by
  subst hst
  obtain ⟨Sf, -, -, -, hC⟩ := X
  obtain ⟨hx, hb, hml, hown, hts⟩ := id Sf
  intro T hT X0
  have hz := sx_size X0 hT hs hn hP
  refine va_callv (A0 := sx_A G) (H0 := s.heap) (va_runS (As := As) (rest := rest) Sf hM (va_cwS As.length hts hG hw rfl rfl hd hR) ⟨sx_blind G n F _, fun U hU hW => ⟨rfl, by rw [hU]; exact hz, by rw [hU]; exact hP.1, hC.warm hW⟩⟩ rfl rfl hls rfl (lv_room hroom) hdg hcs) hP.2 (fun _ _ h => h) (fun _ h => h) (fun F1 t H1 locs1 ht hvm hp hB hz1 hk1 hS1 => ?_) T hT X0
  exact kk F1 H1 locs1 hp ⟨by rw [← ht]; exact hB.2.1, hS1⟩
theorem sx_csJ {y : MethodName} {ws ws' : List Cond} {rm : Room} {As : List Value} {n' : Nat} {bytes : ByteArray} {maxL index n0 : Nat} {ret' : Option FieldType} {st0 : List Value} {post : Int64 → (Nat → va_E) → Prop} (X : sx_X G p m c cc nL s args Ts own meth ret nm) (hM : sx_J G l y ws rm As n F n' post) (hG : GoodIn Ts (va_wsS own index y ws)) (hw : ws = Cond.code y bytes maxL ret' :: ws') (hd : y.cls ≠ "java/lang/invoke/MethodHandle" ∧ y.cls ≠ "java/lang/invoke/VarHandle" ∧ (parseMethodDescriptor y.desc).map (fun d => d.parameters.length) = some As.length) (hR : rm.frames + 1 ≤ R.frames ∧ 8 + (maxL + 11) + rm.locals ≤ R.locals) (hls : ls.size = nL) (hst : st0 = As.reverse ++ rest) (hroom : (rest.map fun v => v.category).sum ≤ 8) (hdg : decode cc pc = .ok (.invokestatic index, 3)) (hcs : cells + rm.cells ≤ R.cells ∧ slots + rm.slots ≤ R.slots) (hs : s.heap.size = sx_b G + n0) (hn : n = n0 + cells) (hP : sx_H G n F s.heap H locs)
    (kk : ∀ (r : Int64) (F1 : Nat → va_E) (H1 : Heap) (locs1 : List Loc), post r F1 → sx_H G n' F1 s.heap H1 locs1 → W p l e R s m args below meth c H1 locs1 (cells + rm.cells) (slots + rm.slots) Q (F0 m (pc + 3) ls (.long r :: rest))) : W p l e R s m args below meth c H locs (cells) (slots) Q (F0 m (pc) ls (st0)) := by
  subst hst
  obtain ⟨Sf, -, -, -, hC⟩ := X
  obtain ⟨hx, hb, hml, hown, hts⟩ := id Sf
  intro T hT X0
  have hz := sx_size X0 hT hs hn hP
  refine va_calll (A0 := sx_A G) (H0 := s.heap) (va_runS (As := As) (rest := rest) Sf hM (va_cwS As.length hts hG hw rfl rfl hd hR) ⟨sx_blind G n F _, fun U hU hW => ⟨rfl, by rw [hU]; exact hz, by rw [hU]; exact hP.1, hC.warm hW⟩⟩ rfl rfl hls rfl (lv_room hroom) hdg hcs) hP.2 (fun _ _ h => h) (fun _ h => h) (fun r F1 t H1 locs1 ht hvm hp hB hz1 hk1 hS1 => ?_) T hT X0
  exact kk r F1 H1 locs1 hp ⟨by rw [← ht]; exact hB.2.1, hS1⟩
theorem sx_cnI {y : MethodName} {ws ws' : List Cond} {rm : Room} {As : List Value} {n' : Nat} {bytes : ByteArray} {maxL index n0 : Nat} {ret' : Option FieldType} {st0 : List Value} {post : Int32 → (Nat → va_E) → Prop} {host : String} (X : sx_X G p m c cc nL s args Ts own meth ret nm) (hM : sx_I G l y ws rm As n F n' post) (hG : GoodIn Ts ws) (hw : ws = Cond.code y bytes maxL ret' :: ws') (hnw : va_Nw (.methodLinkNest own index y host) s) (hini : Cond.initialized y.cls ∈ Ts) (hstt : Cond.static y ∈ Ts) (hd : y.cls ≠ "java/lang/invoke/MethodHandle" ∧ y.cls ≠ "java/lang/invoke/VarHandle" ∧ (parseMethodDescriptor y.desc).map (fun d => d.parameters.length) = some As.length) (hR : rm.frames + 1 ≤ R.frames ∧ 8 + (maxL + 11) + rm.locals ≤ R.locals) (hls : ls.size = nL) (hst : st0 = As.reverse ++ rest) (hroom : (rest.map fun v => v.category).sum ≤ 8) (hdg : decode cc pc = .ok (.invokestatic index, 3)) (hcs : cells + rm.cells ≤ R.cells ∧ slots + rm.slots ≤ R.slots) (hs : s.heap.size = sx_b G + n0) (hn : n = n0 + cells) (hP : sx_H G n F s.heap H locs)
    (kk : ∀ (r : Int32) (F1 : Nat → va_E) (H1 : Heap) (locs1 : List Loc), post r F1 → sx_H G n' F1 s.heap H1 locs1 → W p l e R s m args below meth c H1 locs1 (cells + rm.cells) (slots + rm.slots) Q (F0 m (pc + 3) ls (.int r :: rest))) : W p l e R s m args below meth c H locs (cells) (slots) Q (F0 m (pc) ls (st0)) := by
  subst hst
  obtain ⟨Sf, -, -, -, hC⟩ := X
  obtain ⟨hx, hb, hml, hown, hts⟩ := id Sf
  intro T hT X0
  have hz := sx_size X0 hT hs hn hP
  refine va_calli (A0 := sx_A G) (H0 := s.heap) (va_runSN (As := As) (rest := rest) Sf hM ⟨va_cnB As.length hts hG hw rfl rfl hnw (hts _ hini) hd hR, hts _ hstt, trivial⟩ ⟨sx_blind G n F _, fun U hU hW => ⟨rfl, by rw [hU]; exact hz, by rw [hU]; exact hP.1, hC.warm hW⟩⟩ rfl rfl hls rfl (lv_room hroom) hdg hcs) hP.2 (fun _ _ h => h) (fun _ h => h) (fun r F1 t H1 locs1 ht hvm hp hB hz1 hk1 hS1 => ?_) T hT X0
  exact kk r F1 H1 locs1 hp ⟨by rw [← ht]; exact hB.2.1, hS1⟩
theorem sx_ci {y : MethodName} {ws ws' : List Cond} {rm : Room} {As : List Value} {n' : Nat} {bytes : ByteArray} {maxL index n0 : Nat} {st0 : List Value} {post : (Nat → va_E) → Prop} {i : Nat} (X : sx_X G p m c cc nL s args Ts own meth ret nm) (hM : sx_V G l y ws rm (rf G i :: As) n F n' post) (hG : GoodIn Ts ws) (hw : ws = Cond.code y bytes maxL none :: ws') (hini : Cond.initialized y.cls ∈ Ts) (hlk : Cond.methodLink own index y ∈ Ts) (him : Cond.instanceMethod y ∈ Ts) (hy1 : y.name = "<init>") (hd : y.cls ≠ "java/lang/invoke/MethodHandle" ∧ y.cls ≠ "java/lang/invoke/VarHandle" ∧ (parseMethodDescriptor y.desc).map (fun d => d.parameters.length) = some As.length) (hR : rm.frames + 1 ≤ R.frames ∧ 8 + (maxL + 11) + rm.locals ≤ R.locals) (hls : ls.size = nL) (hst : st0 = As.reverse ++ rf G i :: rest) (hroom : (rest.map fun v => v.category).sum ≤ 8) (hdg : decode cc pc = .ok (.invokespecial index, 3)) (hcs : cells + rm.cells ≤ R.cells ∧ slots + rm.slots ≤ R.slots) (hs : s.heap.size = sx_b G + n0) (hn : n = n0 + cells) (hP : sx_H G n F s.heap H locs)
    (kk : ∀ (F1 : Nat → va_E) (H1 : Heap) (locs1 : List Loc), post F1 → sx_H G n' F1 s.heap H1 locs1 → W p l e R s m args below meth c H1 locs1 (cells + rm.cells) (slots + rm.slots) Q (F0 m (pc + 3) ls (rest))) : W p l e R s m args below meth c H locs (cells) (slots) Q (F0 m (pc) ls (st0)) := by
  subst hst
  obtain ⟨Sf, -, -, -, hC⟩ := X
  obtain ⟨hx, hb, hml, hown, hts⟩ := id Sf
  intro T hT X0
  have hz := sx_size X0 hT hs hn hP
  refine va_callv (A0 := sx_A G) (H0 := s.heap) (va_runI (As := As) (rest := rest) Sf hM (cwI As.length hts hG hw rfl rfl (hts _ hini) (hts _ hlk) (hts _ him) hy1 hd hR) ⟨sx_blind G n F _, fun U hU hW => ⟨rfl, by rw [hU]; exact hz, by rw [hU]; exact hP.1, hC.warm hW⟩⟩ rfl rfl hls rfl (lv_room hroom) hdg hcs) hP.2 (fun _ _ h => h) (fun _ h => h) (fun F1 t H1 locs1 ht hvm hp hB hz1 hk1 hS1 => ?_) T hT X0
  exact kk F1 H1 locs1 hp ⟨by rw [← ht]; exact hB.2.1, hS1⟩
theorem sx_cni {y : MethodName} {ws ws' : List Cond} {rm : Room} {As : List Value} {n' : Nat} {bytes : ByteArray} {maxL index n0 : Nat} {st0 : List Value} {post : (Nat → va_E) → Prop} {i : Nat} {host : String} (X : sx_X G p m c cc nL s args Ts own meth ret nm) (hM : sx_V G l y ws rm (rf G i :: As) n F n' post) (hG : GoodIn Ts ws) (hw : ws = Cond.code y bytes maxL none :: ws') (hnw : va_Nw (.methodLinkNest own index y host) s) (hini : Cond.initialized y.cls ∈ Ts) (him : Cond.instanceMethod y ∈ Ts) (hy1 : y.name = "<init>") (hd : y.cls ≠ "java/lang/invoke/MethodHandle" ∧ y.cls ≠ "java/lang/invoke/VarHandle" ∧ (parseMethodDescriptor y.desc).map (fun d => d.parameters.length) = some As.length) (hR : rm.frames + 1 ≤ R.frames ∧ 8 + (maxL + 11) + rm.locals ≤ R.locals) (hls : ls.size = nL) (hst : st0 = As.reverse ++ rf G i :: rest) (hroom : (rest.map fun v => v.category).sum ≤ 8) (hdg : decode cc pc = .ok (.invokespecial index, 3)) (hcs : cells + rm.cells ≤ R.cells ∧ slots + rm.slots ≤ R.slots) (hs : s.heap.size = sx_b G + n0) (hn : n = n0 + cells) (hP : sx_H G n F s.heap H locs)
    (kk : ∀ (F1 : Nat → va_E) (H1 : Heap) (locs1 : List Loc), post F1 → sx_H G n' F1 s.heap H1 locs1 → W p l e R s m args below meth c H1 locs1 (cells + rm.cells) (slots + rm.slots) Q (F0 m (pc + 3) ls (rest))) : W p l e R s m args below meth c H locs (cells) (slots) Q (F0 m (pc) ls (st0)) := by
  subst hst
  obtain ⟨Sf, -, -, -, hC⟩ := X
  obtain ⟨hx, hb, hml, hown, hts⟩ := id Sf
  intro T hT X0
  have hz := sx_size X0 hT hs hn hP
  refine va_callv (A0 := sx_A G) (H0 := s.heap) (va_runIN (As := As) (rest := rest) Sf hM ⟨va_cnB As.length hts hG hw rfl rfl hnw (hts _ hini) hd hR, hy1, hts _ him⟩ ⟨sx_blind G n F _, fun U hU hW => ⟨rfl, by rw [hU]; exact hz, by rw [hU]; exact hP.1, hC.warm hW⟩⟩ rfl rfl hls rfl (lv_room hroom) hdg hcs) hP.2 (fun _ _ h => h) (fun _ h => h) (fun F1 t H1 locs1 ht hvm hp hB hz1 hk1 hS1 => ?_) T hT X0
  exact kk F1 H1 locs1 hp ⟨by rw [← ht]; exact hB.2.1, hS1⟩
theorem sx_obj (X : sx_X G p m c cc nL s args Ts own meth ret nm) {index : Nat} (hlk : Cond.methodLink own index objectInit ∈ Ts) (him : Cond.instanceMethod objectInit ∈ Ts) (hcd : Cond.code objectInit ⟨#[0xb1]⟩ 1 none ∈ Ts) (hls : ls.size = nL) {a : Nat} (hd : decode cc pc = .ok (.invokespecial index, 3)) (hfr : 1 ≤ R.frames) (hlo : (rest.map fun v => v.category).sum + 12 ≤ R.locals)
    (kk : W p l e R s m args below meth c H locs (cells) (slots) Q (F0 m (pc + 3) ls (rest))) : W p l e R s m args below meth c H locs (cells) (slots) Q (F0 m (pc) ls (.ref a :: rest)) := by
  obtain ⟨⟨hx, hb, hml, hown, hts⟩, -, -, -, -⟩ := X
  exact W.objInit hx hb hown (hts _ hlk) (hts _ him) (hts _ hcd) rfl (hls.trans hml.symm) rfl hd hfr (by show 2 * 0 + _ + 12 ≤ _; omega) kk
theorem sx_fresh {A : va_E} {T1 : State} {H1 : Heap} {q n0 : Nat} (X1 : Stand p l e R s m args below meth c T1 locs (cells + 1) slots) (hT1 : T1.heap = H1) (hs : s.heap.size = sx_b G + n0) (hn : n = n0 + cells) (h1 : va_P G.1 vwCl (sx_L G n F ++ [(q, A)]) H1) (h2 : va_D (sx_A G) (sx_L G n F ++ [(q, A)])) : q = sx_b G + n := by
  have hlen : (sx_L G n F).length = n := by simp [sx_L]
  have hq : (sx_L G n F ++ [(q, A)])[n]? = some (q, A) := by rw [List.getElem?_append_right (by omega), hlen]; simp
  have a1 : q < H1.size := (h1 n _ hq).lt
  have a2 : T1.heap.size ≤ s.heap.size + (cells + 1) := X1.same.2.2.1
  rw [hT1] at a2
  have a3 : sx_b G ≤ q := h2.2 n _ hq
  by_cases hlt : q < sx_b G + n
  · have hb : (sx_L G n F ++ [(q, A)])[q - sx_b G]? = some (sx_b G + (q - sx_b G), F (q - sx_b G)) := by rw [List.getElem?_append_left (by omega), sx_L_get G F (by omega)]
    have := h2.1 n (q - sx_b G) _ _ hq hb (by show q = sx_b G + (q - sx_b G); omega)
    omega
  · omega
theorem sx_new (X : sx_X G p m c cc nL s args Ts own meth ret nm) (hP : sx_H G n F s.heap H locs) {C : String} {T : u_T} {N ci index n0 : Nat} (hin : ∀ w ∈ u_ws C T N, w ∈ Ts) (ty : Nat → FieldType) (hty : ∀ k, k < N → parseFieldDescriptor (T k).2.2.1 = some (ty k)) (hcl : Cond.classLink own index C ∈ Ts) (hinst : Cond.instantiable C N ∈ Ts) (hini : Cond.initialized C ∈ Ts) (hc : vwCl[ci]? = some (C, T, N)) {fs : List Value} (hfs : ∀ j, j < N → defaultValue (ty j) = vp_V fs j) (hcells : cells + 1 ≤ R.cells) (hslots : slots + N ≤ R.slots) (hs : s.heap.size = sx_b G + n0) (hn : n = n0 + cells) (hd : decode cc pc = .ok (.new index, 3))
    (kk : ∀ (F1 : Nat → va_E) (H1 : Heap), F1 n = ob ci fs → (∀ j, j ≠ n → F1 j = F j) → sx_H G (n + 1) F1 s.heap H1 locs → W p l e R s m args below meth c H1 locs (cells + 1) (slots + N) Q (F0 m (pc + 3) ls (rf G n :: rest))) : W p l e R s m args below meth c H locs (cells) (slots) Q (F0 m (pc) ls (rest)) := by
  obtain ⟨⟨hx, hb, -, hown, hts⟩, -, -, -, hC⟩ := X
  refine va_new (D := G.1) (c0 := c) hx hb hts hin ty hty hown (hts _ hcl) (hts _ hinst) (hts _ hini) hC.1 hP.1 (sx_LD G n F) hP.2 (fun q hq => by show sx_b G ≤ q; omega) hc hfs hcells hslots hd (fun q H1 h1 h2 h3 => ?_)
  intro T1 hT1 X1
  have hq := sx_fresh X1 hT1 hs hn h1 h2
  subst hq
  rw [sx_L_push] at h1
  exact kk _ H1 (va_up_self _ _ _) (fun j hj => va_up_ne _ _ hj) ⟨h1, h3⟩ T1 hT1 X1
theorem sx_newi (X : sx_X G p m c cc nL s args Ts own meth ret nm) (hP : sx_H G n F s.heap H locs) {n0 : Nat} (N : Nat) (harr : Cond.arrayClass .int ∈ Ts) (hN : N ≤ 100000) (hcells : cells + 1 ≤ R.cells) (hslots : slots + N ≤ R.slots) (hs : s.heap.size = sx_b G + n0) (hn : n = n0 + cells) (hd : decode cc pc = .ok (.newarray .int, 2))
    (kk : ∀ (F1 : Nat → va_E) (H1 : Heap), F1 n = rI G N (fun _ => 0) → (∀ j, j ≠ n → F1 j = F j) → sx_H G (n + 1) F1 s.heap H1 locs → W p l e R s m args below meth c H1 locs (cells + 1) (slots + N) Q (F0 m (pc + 2) ls (rf G n :: rest))) : W p l e R s m args below meth c H locs (cells) (slots) Q (F0 m (pc) ls (.int (nI N) :: rest)) := by
  obtain ⟨⟨hx, hb, -, hown, hts⟩, -, -, -, hC⟩ := X
  refine va_newa (D := G.1) (atype := .int) hx hb (hts _ harr) (ty := .int) rfl hC.1 hP.1 (sx_LD G n F) hP.2 (fun q hq => by show sx_b G ≤ q; omega) (N' := N) (a0 := (N, .inl (fun _ => 0))) (fun _ => rfl) (nI_pos (by omega)) (nI_clamp (by omega)) (by show N * _ ≤ _; simp [componentBytes]; omega) hcells hslots hd (fun q cA H1 hK2 h1 h2 h3 => ?_)
  intro T1 hT1 X1
  have hq := sx_fresh X1 hT1 hs hn h1 h2
  subst hq
  have e1 := (hC.1.2 0 _ rfl).2
  have e2 := (hK2.2 4 _ rfl).2
  have e3 : cA = G.2.1 := Option.some.inj (Eq.trans (Eq.symm e2) e1)
  rw [sx_L_push, e3] at h1
  exact kk _ H1 (va_up_self _ _ _) (fun j hj => va_up_ne _ _ hj) ⟨h1, h3⟩ T1 hT1 X1
theorem sx_newz (X : sx_X G p m c cc nL s args Ts own meth ret nm) (hP : sx_H G n F s.heap H locs) {n0 : Nat} (N : Nat) (harr : Cond.arrayClass .boolean ∈ Ts) (hN : N ≤ 100000) (hcells : cells + 1 ≤ R.cells) (hslots : slots + N ≤ R.slots) (hs : s.heap.size = sx_b G + n0) (hn : n = n0 + cells) (hd : decode cc pc = .ok (.newarray .boolean, 2))
    (kk : ∀ (F1 : Nat → va_E) (H1 : Heap), F1 n = rZ G N (fun _ => 0) → (∀ j, j ≠ n → F1 j = F j) → sx_H G (n + 1) F1 s.heap H1 locs → W p l e R s m args below meth c H1 locs (cells + 1) (slots + N) Q (F0 m (pc + 2) ls (rf G n :: rest))) : W p l e R s m args below meth c H locs (cells) (slots) Q (F0 m (pc) ls (.int (nI N) :: rest)) := by
  obtain ⟨⟨hx, hb, -, hown, hts⟩, -, -, -, hC⟩ := X
  refine va_newa (D := G.1) (atype := .boolean) hx hb (hts _ harr) (ty := .boolean) rfl hC.1 hP.1 (sx_LD G n F) hP.2 (fun q hq => by show sx_b G ≤ q; omega) (N' := N) (a0 := (N, .inl (fun _ => 0))) (fun _ => rfl) (nI_pos (by omega)) (nI_clamp (by omega)) (by show N * _ ≤ _; simp [componentBytes]; omega) hcells hslots hd (fun q cA H1 hK2 h1 h2 h3 => ?_)
  intro T1 hT1 X1
  have hq := sx_fresh X1 hT1 hs hn h1 h2
  subst hq
  have e1 := (hC.1.2 1 _ rfl).2
  have e2 := (hK2.2 4 _ rfl).2
  have e3 : cA = G.2.2.1 := Option.some.inj (Eq.trans (Eq.symm e2) e1)
  rw [sx_L_push, e3] at h1
  exact kk _ H1 (va_up_self _ _ _) (fun j hj => va_up_ne _ _ hj) ⟨h1, h3⟩ T1 hT1 X1
theorem sx_newk (X : sx_X G p m c cc nL s args Ts own meth ret nm) (hP : sx_H G n F s.heap H locs) {n0 index : Nat} (N : Nat) (hcl : Cond.classLink own index "RaceWatch$Kept" ∈ Ts) (hN : N ≤ 100000) (hcells : cells + 1 ≤ R.cells) (hslots : slots + N ≤ R.slots) (hs : s.heap.size = sx_b G + n0) (hn : n = n0 + cells) (hd : decode cc pc = .ok (.anewarray index, 3))
    (kk : ∀ (F1 : Nat → va_E) (H1 : Heap), F1 n = rK G N (fun _ => none) → (∀ j, j ≠ n → F1 j = F j) → sx_H G (n + 1) F1 s.heap H1 locs → W p l e R s m args below meth c H1 locs (cells + 1) (slots + N) Q (F0 m (pc + 3) ls (rf G n :: rest))) : W p l e R s m args below meth c H locs (cells) (slots) Q (F0 m (pc) ls (.int (nI N) :: rest)) := by
  obtain ⟨⟨hx, hb, -, hown, hts⟩, -, -, -, hC⟩ := X
  refine va_newq (D := G.1) hx hb hown (hts _ hcl) hC.2.2.2.2.2.2.1 hC.1 hP.1 (sx_LD G n F) hP.2 (fun q hq => by show sx_b G ≤ q; omega) (N' := N) (nI_pos (by omega)) (nI_clamp (by omega)) (by omega) hcells hslots hd (fun q cA H1 hK2 h1 h2 h3 => ?_)
  intro T1 hT1 X1
  have hq := sx_fresh X1 hT1 hs hn h1 h2
  subst hq
  obtain ⟨-, -, -, -, -, e1⟩ := (hC.1.2 2 _ rfl).2
  obtain ⟨-, -, -, -, -, e2⟩ := (hK2.2 4 _ rfl).2
  have e3 : cA = G.2.2.2.1 := Option.some.inj (Eq.trans (Eq.symm e2) e1)
  rw [sx_L_push, e3] at h1
  exact kk _ H1 (va_up_self _ _ _) (fun j hj => va_up_ne _ _ hj) ⟨h1, h3⟩ T1 hT1 X1
theorem sx_newo (X : sx_X G p m c cc nL s args Ts own meth ret nm) (hP : sx_H G n F s.heap H locs) {n0 index : Nat} (N : Nat) (hcl : Cond.classLink own index "RaceWatch$World" ∈ Ts) (hN : N ≤ 100000) (hcells : cells + 1 ≤ R.cells) (hslots : slots + N ≤ R.slots) (hs : s.heap.size = sx_b G + n0) (hn : n = n0 + cells) (hd : decode cc pc = .ok (.anewarray index, 3))
    (kk : ∀ (F1 : Nat → va_E) (H1 : Heap), F1 n = rO G N (fun _ => none) → (∀ j, j ≠ n → F1 j = F j) → sx_H G (n + 1) F1 s.heap H1 locs → W p l e R s m args below meth c H1 locs (cells + 1) (slots + N) Q (F0 m (pc + 3) ls (rf G n :: rest))) : W p l e R s m args below meth c H locs (cells) (slots) Q (F0 m (pc) ls (.int (nI N) :: rest)) := by
  obtain ⟨⟨hx, hb, -, hown, hts⟩, -, -, -, hC⟩ := X
  refine va_newq (D := G.1) hx hb hown (hts _ hcl) hC.2.2.2.2.2.2.2 hC.1 hP.1 (sx_LD G n F) hP.2 (fun q hq => by show sx_b G ≤ q; omega) (N' := N) (nI_pos (by omega)) (nI_clamp (by omega)) (by omega) hcells hslots hd (fun q cA H1 hK2 h1 h2 h3 => ?_)
  intro T1 hT1 X1
  have hq := sx_fresh X1 hT1 hs hn h1 h2
  subst hq
  obtain ⟨-, -, -, -, -, e1⟩ := (hC.1.2 3 _ rfl).2
  obtain ⟨-, -, -, -, -, e2⟩ := (hK2.2 4 _ rfl).2
  have e3 : cA = G.2.2.2.2.1 := Option.some.inj (Eq.trans (Eq.symm e2) e1)
  rw [sx_L_push, e3] at h1
  exact kk _ H1 (va_up_self _ _ _) (fun j hj => va_up_ne _ _ hj) ⟨h1, h3⟩ T1 hT1 X1
theorem sx_addN (X : sx_X G p m c cc nL s args Ts own meth ret nm) {a b : Nat} (z : Nat) (hz : a + b = z) (hd : decode cc pc = .ok (.iadd, 1))
    (kk : W p l e R s m args below meth c H locs (cells) (slots) Q (F0 m (pc + 1) ls (.int (nI z) :: rest))) : W p l e R s m args below meth c H locs (cells) (slots) Q (F0 m (pc) ls (.int (nI b) :: .int (nI a) :: rest)) := lv_iadd X.1.1 X.1.2.1 hd (by rw [nI_add, hz]; exact kk)
theorem sx_mulN (X : sx_X G p m c cc nL s args Ts own meth ret nm) {a b : Nat} (z : Nat) (hz : a * b = z) (hd : decode cc pc = .ok (.imul, 1))
    (kk : W p l e R s m args below meth c H locs (cells) (slots) Q (F0 m (pc + 1) ls (.int (nI z) :: rest))) : W p l e R s m args below meth c H locs (cells) (slots) Q (F0 m (pc) ls (.int (nI b) :: .int (nI a) :: rest)) := lv_imul X.1.1 X.1.2.1 hd (by rw [pk_mul, hz]; exact kk)
theorem sx_subN (X : sx_X G p m c cc nL s args Ts own meth ret nm) {a b : Nat} (z : Nat) (h : b ≤ a) (hz : a - b = z) (hd : decode cc pc = .ok (.isub, 1))
    (kk : W p l e R s m args below meth c H locs (cells) (slots) Q (F0 m (pc + 1) ls (.int (nI z) :: rest))) : W p l e R s m args below meth c H locs (cells) (slots) Q (F0 m (pc) ls (.int (nI b) :: .int (nI a) :: rest)) := lv_isub X.1.1 X.1.2.1 hd (by rw [pk_sub h, hz]; exact kk)
theorem sx_icmp_eq (X : sx_X G p m c cc nL s args Ts own meth ret nm) {a b : Nat} (ha : a < 2 ^ 31) (hb2 : b < 2 ^ 31) {off : Int} {tgt : Nat} (hd : decode cc pc = .ok (.if_icmp .eq off, 3)) (ht : (pc : Int) + off = (tgt : Int)) (kt : a = b → W p l e R s m args below meth c H locs (cells) (slots) Q (F0 m (tgt) ls (rest))) (kf : a ≠ b → W p l e R s m args below meth c H locs (cells) (slots) Q (F0 m (pc + 3) ls (rest))) : W p l e R s m args below meth c H locs (cells) (slots) Q (F0 m (pc) ls (.int (nI b) :: .int (nI a) :: rest)) := lv_icmp_eq X.1.1 X.1.2.1 hd ht (fun h => kt ((nI_eq ha hb2).mp h)) (fun h => kf (fun q => h ((nI_eq ha hb2).mpr q)))
theorem sx_icmp_ne (X : sx_X G p m c cc nL s args Ts own meth ret nm) {a b : Nat} (ha : a < 2 ^ 31) (hb2 : b < 2 ^ 31) {off : Int} {tgt : Nat} (hd : decode cc pc = .ok (.if_icmp .ne off, 3)) (ht : (pc : Int) + off = (tgt : Int)) (kt : a ≠ b → W p l e R s m args below meth c H locs (cells) (slots) Q (F0 m (tgt) ls (rest))) (kf : a = b → W p l e R s m args below meth c H locs (cells) (slots) Q (F0 m (pc + 3) ls (rest))) : W p l e R s m args below meth c H locs (cells) (slots) Q (F0 m (pc) ls (.int (nI b) :: .int (nI a) :: rest)) := lv_icmp_ne X.1.1 X.1.2.1 hd ht (fun h => kt (fun q => h ((nI_eq ha hb2).mpr q))) (fun h => kf ((nI_eq ha hb2).mp h))
theorem sx_icmp_lt (X : sx_X G p m c cc nL s args Ts own meth ret nm) {a b : Nat} (ha : a < 2 ^ 31) (hb2 : b < 2 ^ 31) {off : Int} {tgt : Nat} (hd : decode cc pc = .ok (.if_icmp .lt off, 3)) (ht : (pc : Int) + off = (tgt : Int)) (kt : a < b → W p l e R s m args below meth c H locs (cells) (slots) Q (F0 m (tgt) ls (rest))) (kf : b ≤ a → W p l e R s m args below meth c H locs (cells) (slots) Q (F0 m (pc + 3) ls (rest))) : W p l e R s m args below meth c H locs (cells) (slots) Q (F0 m (pc) ls (.int (nI b) :: .int (nI a) :: rest)) := lv_icmp_lt X.1.1 X.1.2.1 hd ht (fun h => kt ((nI_ltI ha hb2).mp h)) (fun h => kf (Nat.not_lt.mp (fun q => h ((nI_ltI ha hb2).mpr q))))
theorem sx_icmp_ge (X : sx_X G p m c cc nL s args Ts own meth ret nm) {a b : Nat} (ha : a < 2 ^ 31) (hb2 : b < 2 ^ 31) {off : Int} {tgt : Nat} (hd : decode cc pc = .ok (.if_icmp .ge off, 3)) (ht : (pc : Int) + off = (tgt : Int)) (kt : b ≤ a → W p l e R s m args below meth c H locs (cells) (slots) Q (F0 m (tgt) ls (rest))) (kf : a < b → W p l e R s m args below meth c H locs (cells) (slots) Q (F0 m (pc + 3) ls (rest))) : W p l e R s m args below meth c H locs (cells) (slots) Q (F0 m (pc) ls (.int (nI b) :: .int (nI a) :: rest)) := lv_icmp_ge X.1.1 X.1.2.1 hd ht (fun h => kt ((nI_leI hb2 ha).mp h)) (fun h => kf (Nat.not_le.mp (fun q => h ((nI_leI hb2 ha).mpr q))))
theorem sx_icmp_gt (X : sx_X G p m c cc nL s args Ts own meth ret nm) {a b : Nat} (ha : a < 2 ^ 31) (hb2 : b < 2 ^ 31) {off : Int} {tgt : Nat} (hd : decode cc pc = .ok (.if_icmp .gt off, 3)) (ht : (pc : Int) + off = (tgt : Int)) (kt : b < a → W p l e R s m args below meth c H locs (cells) (slots) Q (F0 m (tgt) ls (rest))) (kf : a ≤ b → W p l e R s m args below meth c H locs (cells) (slots) Q (F0 m (pc + 3) ls (rest))) : W p l e R s m args below meth c H locs (cells) (slots) Q (F0 m (pc) ls (.int (nI b) :: .int (nI a) :: rest)) := lv_icmp_gt X.1.1 X.1.2.1 hd ht (fun h => kt ((nI_ltI hb2 ha).mp h)) (fun h => kf (Nat.not_lt.mp (fun q => h ((nI_ltI hb2 ha).mpr q))))
theorem sx_icmp_le (X : sx_X G p m c cc nL s args Ts own meth ret nm) {a b : Nat} (ha : a < 2 ^ 31) (hb2 : b < 2 ^ 31) {off : Int} {tgt : Nat} (hd : decode cc pc = .ok (.if_icmp .le off, 3)) (ht : (pc : Int) + off = (tgt : Int)) (kt : a ≤ b → W p l e R s m args below meth c H locs (cells) (slots) Q (F0 m (tgt) ls (rest))) (kf : b < a → W p l e R s m args below meth c H locs (cells) (slots) Q (F0 m (pc + 3) ls (rest))) : W p l e R s m args below meth c H locs (cells) (slots) Q (F0 m (pc) ls (.int (nI b) :: .int (nI a) :: rest)) := lv_icmp_le X.1.1 X.1.2.1 hd ht (fun h => kt ((nI_leI ha hb2).mp h)) (fun h => kf (Nat.not_le.mp (fun q => h ((nI_leI ha hb2).mpr q))))
theorem sx_if_eq (X : sx_X G p m c cc nL s args Ts own meth ret nm) {a : Nat} (ha : a < 2 ^ 31) {off : Int} {tgt : Nat} (hd : decode cc pc = .ok (.ifCond .eq off, 3)) (ht : (pc : Int) + off = (tgt : Int)) (kt : a = 0 → W p l e R s m args below meth c H locs (cells) (slots) Q (F0 m (tgt) ls (rest))) (kf : a ≠ 0 → W p l e R s m args below meth c H locs (cells) (slots) Q (F0 m (pc + 3) ls (rest))) : W p l e R s m args below meth c H locs (cells) (slots) Q (F0 m (pc) ls (.int (nI a) :: rest)) := by
  have h0 : 0 < 2 ^ 31 := by decide
  exact lv_if_eq X.1.1 X.1.2.1 hd ht (fun h => kt ((nI_eq ha h0).mp h)) (fun h => kf (fun q => h ((nI_eq ha h0).mpr q)))
theorem sx_if_ne (X : sx_X G p m c cc nL s args Ts own meth ret nm) {a : Nat} (ha : a < 2 ^ 31) {off : Int} {tgt : Nat} (hd : decode cc pc = .ok (.ifCond .ne off, 3)) (ht : (pc : Int) + off = (tgt : Int)) (kt : a ≠ 0 → W p l e R s m args below meth c H locs (cells) (slots) Q (F0 m (tgt) ls (rest))) (kf : a = 0 → W p l e R s m args below meth c H locs (cells) (slots) Q (F0 m (pc + 3) ls (rest))) : W p l e R s m args below meth c H locs (cells) (slots) Q (F0 m (pc) ls (.int (nI a) :: rest)) := by
  have h0 : 0 < 2 ^ 31 := by decide
  exact lv_if_ne X.1.1 X.1.2.1 hd ht (fun h => kt (fun q => h ((nI_eq ha h0).mpr q))) (fun h => kf ((nI_eq ha h0).mp h))
theorem sx_if_lt (X : sx_X G p m c cc nL s args Ts own meth ret nm) {a : Nat} (ha : a < 2 ^ 31) {off : Int} {tgt : Nat} (hd : decode cc pc = .ok (.ifCond .lt off, 3)) (ht : (pc : Int) + off = (tgt : Int)) (kt : False → W p l e R s m args below meth c H locs (cells) (slots) Q (F0 m (tgt) ls (rest))) (kf : True → W p l e R s m args below meth c H locs (cells) (slots) Q (F0 m (pc + 3) ls (rest))) : W p l e R s m args below meth c H locs (cells) (slots) Q (F0 m (pc) ls (.int (nI a) :: rest)) := by
  have h0 : 0 < 2 ^ 31 := by decide
  exact lv_if_lt X.1.1 X.1.2.1 hd ht (fun h => absurd ((nI_ltI ha h0).mp h) (Nat.not_lt_zero _)) (fun h => kf trivial)
theorem sx_if_ge (X : sx_X G p m c cc nL s args Ts own meth ret nm) {a : Nat} (ha : a < 2 ^ 31) {off : Int} {tgt : Nat} (hd : decode cc pc = .ok (.ifCond .ge off, 3)) (ht : (pc : Int) + off = (tgt : Int)) (kt : True → W p l e R s m args below meth c H locs (cells) (slots) Q (F0 m (tgt) ls (rest))) (kf : False → W p l e R s m args below meth c H locs (cells) (slots) Q (F0 m (pc + 3) ls (rest))) : W p l e R s m args below meth c H locs (cells) (slots) Q (F0 m (pc) ls (.int (nI a) :: rest)) := by
  have h0 : 0 < 2 ^ 31 := by decide
  exact lv_if_ge X.1.1 X.1.2.1 hd ht (fun h => kt trivial) (fun h => absurd ((nI_leI h0 ha).mpr (Nat.zero_le _)) h)
theorem sx_if_gt (X : sx_X G p m c cc nL s args Ts own meth ret nm) {a : Nat} (ha : a < 2 ^ 31) {off : Int} {tgt : Nat} (hd : decode cc pc = .ok (.ifCond .gt off, 3)) (ht : (pc : Int) + off = (tgt : Int)) (kt : 0 < a → W p l e R s m args below meth c H locs (cells) (slots) Q (F0 m (tgt) ls (rest))) (kf : a = 0 → W p l e R s m args below meth c H locs (cells) (slots) Q (F0 m (pc + 3) ls (rest))) : W p l e R s m args below meth c H locs (cells) (slots) Q (F0 m (pc) ls (.int (nI a) :: rest)) := by
  have h0 : 0 < 2 ^ 31 := by decide
  exact lv_if_gt X.1.1 X.1.2.1 hd ht (fun h => kt ((nI_ltI h0 ha).mp h)) (fun h => kf (Nat.le_zero.mp (Nat.not_lt.mp (fun q => h ((nI_ltI h0 ha).mpr q)))))
theorem sx_if_le (X : sx_X G p m c cc nL s args Ts own meth ret nm) {a : Nat} (ha : a < 2 ^ 31) {off : Int} {tgt : Nat} (hd : decode cc pc = .ok (.ifCond .le off, 3)) (ht : (pc : Int) + off = (tgt : Int)) (kt : a = 0 → W p l e R s m args below meth c H locs (cells) (slots) Q (F0 m (tgt) ls (rest))) (kf : 0 < a → W p l e R s m args below meth c H locs (cells) (slots) Q (F0 m (pc + 3) ls (rest))) : W p l e R s m args below meth c H locs (cells) (slots) Q (F0 m (pc) ls (.int (nI a) :: rest)) := by
  have h0 : 0 < 2 ^ 31 := by decide
  exact lv_if_le X.1.1 X.1.2.1 hd ht (fun h => kt (by have := (nI_leI ha h0).mp h; omega)) (fun h => kf (Nat.not_le.mp (fun q => h ((nI_leI ha h0).mpr q))))
theorem sx_join {P : Int32 → Prop} {goal : Prop} (C : Prop) [Decidable C] {a b : Int32} (h : (C → P a) → (¬ C → P b) → goal) (k : P (if C then a else b)) : goal := h (fun hc => by rw [if_pos hc] at k; exact k) (fun hc => by rw [if_neg hc] at k; exact k)
theorem sx_inc1 {a b : Nat} (h : b = a + 1) : nI a + Int32.ofInt 1 = nI b := by rw [h]; exact nI_1 a
theorem sx_dec1 {a b : Nat} (h : a = b + 1) : nI a + Int32.ofInt (-1) = nI b := by rw [h]; exact pk_m1 b
end SX
end
section
/-! pure words: numbers, sets, the reference's row -/
theorem sx_in64 {x : Int32} {lo hi : Int64} {k : Nat} (hl : lo = 0) (hh : hi = lN (k - 1) ∧ 0 < k ∧ k < 2 ^ 31) (h : lo ≤ x.toInt64 ∧ x.toInt64 ≤ hi) : ∃ j, j < k ∧ x = nI j := by
  obtain ⟨h1, h2⟩ := h
  obtain ⟨e1, e2, e3⟩ := hh
  subst hl; subst e1
  have g1 : 0 ≤ x.toInt := by
    have := Int64.le_iff_toInt_le.mp h1
    simpa using this
  have g2 : x.toInt ≤ ((k - 1 : Nat) : Int) := by
    have := Int64.le_iff_toInt_le.mp h2
    rw [lN_toInt (by omega)] at this
    simpa using this
  refine ⟨x.toInt.toNat, by omega, ?_⟩
  apply Int32.toInt_inj.mp
  rw [nI_toInt (by omega)]
  omega
theorem sx_64in {x : Int32} {lo hi : Int64} {k : Nat} (hl : lo = 0) (hh : hi = lN (k - 1) ∧ 0 < k ∧ k < 2 ^ 31) (h : ∃ j, j < k ∧ x = nI j) : lo ≤ x.toInt64 ∧ x.toInt64 ≤ hi := by
  obtain ⟨j, hj, rfl⟩ := h
  obtain ⟨e1, e2, e3⟩ := hh
  subst hl; subst e1
  rw [nI_l (by omega)]
  refine ⟨?_, (lN_le (by omega) (by omega)).mpr (by omega)⟩
  exact (lN_le (a := 0) (by omega) (by omega)).mpr (Nat.zero_le _)
theorem sx_m1 {u : Nat} (h : u < 2 ^ 31) : ¬ nI u = -1 := fun q => by
  have := congrArg Int32.toInt q
  rw [nI_toInt h] at this
  have h2 : (-1 : Int32).toInt = -1 := by decide
  omega
/-- the SET of LOCKS that t holds, by who holds each -/
def heldF (h : Nat → Int32) (t : Int32) : Int32 := (if h 0 = t then 1 else 0) ||| (if h 1 = t then 2 else 0) ||| (if h 2 = t then 4 else 0)
def maxF (a b : Int32) : Int32 := if a < b then b else a
/-- four numbers from fr on joined into those from to on -/
def joinF (w : Nat → Int32) (to fr : Nat) : Nat → Int32 :=
  let w1 := upd w to (if w fr ≤ w to then w to else w fr)
  let w2 := upd w1 (1 + to) (if w1 (1 + fr) ≤ w1 (1 + to) then w1 (1 + to) else w1 (1 + fr))
  let w3 := upd w2 (2 + to) (if w2 (2 + fr) ≤ w2 (2 + to) then w2 (2 + to) else w2 (2 + fr))
  upd w3 (3 + to) (if w3 (3 + fr) ≤ w3 (3 + to) then w3 (3 + to) else w3 (3 + fr))
/-- a choice that needs no instance -/
noncomputable def cif {α : Type} (P : Prop) (a b : α) : α := @ite α P (Classical.propDecidable P) a b
theorem cif_t {α : Type} {P : Prop} {a b : α} (h : P) : cif P a b = a := by unfold cif; exact if_pos h
theorem cif_f {α : Type} {P : Prop} {a b : α} (h : ¬ P) : cif P a b = b := by unfold cif; exact if_neg h
theorem joinF_out {w : Nat → Int32} {to fr k : Nat} (h : k < to ∨ to + 4 ≤ k) : joinF w to fr k = w k := by
  show upd (upd (upd (upd w to _) (1 + to) _) (2 + to) _) (3 + to) _ k = w k
  rw [pk_un (by omega), pk_un (by omega), pk_un (by omega), pk_un (by omega)]
/-- how many there are of what a sort of EVENT is with -/
def boundF (s : Nat) : Nat := if s < 2 then 4 else if s < 4 then 3 else if s < 6 then 2 else 4
theorem boundF_le (s : Nat) : boundF s ≤ 4 := by unfold boundF; repeat' split
                                                 all_goals omega
def hasS (s : Nat) : Prop := s = 3 ∨ s = 4 ∨ s = 6
/-- an EVENT can be now -/
def canF (w : Nat → Int32) (t s x : Nat) : Prop := w t = nI 1 ∧ (s = 2 → w (40 + x) = -1) ∧ (s = 3 → w (40 + x) = nI t) ∧ (s = 6 → w x = 0) ∧ (s = 7 → w x = nI 1 ∧ heldF (fun j => w (40 + j)) (nI x) = 0)
/-- an EVENT is written down -/
def wriF (w : Nat → Int32) (n t s x : Nat) : Nat → Int32 :=
  let w1 := upd w (92 + 8 * n) (nI t)
  let w2 := upd w1 (93 + 8 * n) (nI s)
  let w3 := upd w2 (94 + 8 * n) (nI x)
  let w4 := upd w3 (95 + 8 * n) (w3 (4 + 4 * t))
  let w5 := upd w4 (96 + 8 * n) (w4 (5 + 4 * t))
  let w6 := upd w5 (97 + 8 * n) (w5 (6 + 4 * t))
  let w7 := upd w6 (98 + 8 * n) (w6 (7 + 4 * t))
  let w8 := upd w7 (99 + 8 * n) (heldF (fun j => w7 (40 + j)) (nI t))
  upd w8 91 (nI (1 + n))
def stepF (w : Nat → Int32) (t : Nat) : Nat → Int32 := upd w (4 + 5 * t) (w (4 + 5 * t) + nI 1)
/-- the number v of a THREAD u is not reached by the CLOCK of t -/
def notA (w : Nat → Int32) (t : Nat) (u v : Int32) : Prop := ¬ u = -1 ∧ w (4 + 4 * t + u.toNatClampNeg) < v
theorem notA_no {w : Nat → Int32} {t : Nat} {v : Int32} : ¬ notA w t (-1) v := fun h => h.1 rfl
theorem notA_nI {w : Nat → Int32} {t u : Nat} {v : Int32} (hu : u < 4) : notA w t (nI u) v ↔ w (4 + 4 * t + u) < v := by
  unfold notA
  rw [nI_clamp (by omega)]
  refine ⟨fun h => h.2, fun h => ⟨?_, h⟩⟩
  have : u = 0 ∨ u = 1 ∨ u = 2 ∨ u = 3 := by omega
  rcases this with rfl | rfl | rfl | rfl <;> decide
/-- some number of a SHARED cell is not reached -/
def anyN (w : Nat → Int32) (t c : Nat) : Prop := w (4 + 4 * t) < w (48 + 12 * c) ∨ w (5 + 4 * t) < w (49 + 12 * c) ∨ w (6 + 4 * t) < w (50 + 12 * c) ∨ w (7 + 4 * t) < w (51 + 12 * c)
/-- the KIND by which an access RACES by what a CELL keeps -/
noncomputable def kindF (w : Nat → Int32) (t c wr : Nat) : Int32 :=
  cif (notA w t (w (43 + 12 * c)) (w (44 + 12 * c))) (cif (wr = 0) (nI 1) (nI 0))
    (cif (wr = 0) (-1) (cif (notA w t (w (45 + 12 * c)) (w (46 + 12 * c)) ∨ w (47 + 12 * c) = nI 1 ∧ anyN w t c) (nI 2) (-1)))
noncomputable def firstF (w : Nat → Int32) (c : Nat) (k : Int32) : Nat → Int32 := cif (¬ k = -1 ∧ w (53 + 12 * c) = -1) (upd (upd w (53 + 12 * c) (w 91)) (54 + 12 * c) k) w
def wrF (w : Nat → Int32) (t c : Nat) : Nat → Int32 :=
  let a1 := upd w (43 + 12 * c) (nI t)
  let a2 := upd a1 (44 + 12 * c) (a1 (4 + 5 * t))
  upd (upd (upd (upd (upd (upd (upd a2 (45 + 12 * c) (-1)) (46 + 12 * c) (nI 0)) (47 + 12 * c) (nI 0)) (48 + 12 * c) (nI 0)) (49 + 12 * c) (nI 0)) (50 + 12 * c) (nI 0)) (51 + 12 * c) (nI 0)
def promF (w : Nat → Int32) (t c u : Nat) : Nat → Int32 :=
  let a1 := upd w (47 + 12 * c) (nI 1)
  let a2 := upd a1 (48 + 12 * c + u) (a1 (46 + 12 * c))
  let a3 := upd a2 (48 + 12 * c + t) (a2 (4 + 5 * t))
  let a4 := upd a3 (45 + 12 * c) (-1)
  let a5 := upd a4 (46 + 12 * c) (nI 0)
  upd a5 (52 + 12 * c) (a5 (52 + 12 * c) + nI 1)
noncomputable def readF (w : Nat → Int32) (t c : Nat) : Nat → Int32 :=
  cif (w (47 + 12 * c) = nI 1) (upd w (48 + 12 * c + t) (w (4 + 5 * t)))
    (cif (¬ notA w t (w (45 + 12 * c)) (w (46 + 12 * c))) (upd (upd w (45 + 12 * c) (nI t)) (46 + 12 * c) (upd w (45 + 12 * c) (nI t) (4 + 5 * t)))
      (promF w t c (w (45 + 12 * c)).toNatClampNeg))
noncomputable def accF (w : Nat → Int32) (t c wr : Nat) : Nat → Int32 := cif (wr = 0) (readF (firstF w c (kindF w t c wr)) t c) (wrF (firstF w c (kindF w t c wr)) t c)
theorem accF_out {w : Nat → Int32} {t c wr k : Nat} (hc : c < 4) (ht : t < 4) (hu : w (45 + 12 * c) = -1 ∨ ∃ u, u < 4 ∧ w (45 + 12 * c) = nI u) (h : k < 43 + 12 * c ∨ 55 + 12 * c ≤ k) : accF w t c wr k = w k := by
  have hf : ∀ (v : Int32) (k : Nat), (k < 53 + 12 * c ∨ 55 + 12 * c ≤ k) → firstF w c v k = w k := by
    intro v k h
    unfold firstF
    by_cases hp : ¬ v = -1 ∧ w (53 + 12 * c) = -1
    · rw [cif_t hp, pk_un (by omega), pk_un (by omega)]
    · rw [cif_f hp]
  unfold accF
  generalize kindF w t c wr = v
  generalize hg : firstF w c v = g
  have hgk : ∀ k : Nat, (k < 53 + 12 * c ∨ 55 + 12 * c ≤ k) → g k = w k := fun k h => by rw [← hg]; exact hf v k h
  by_cases hw : wr = 0
  · rw [cif_t hw]
    unfold readF
    by_cases h1 : g (47 + 12 * c) = nI 1
    · rw [cif_t h1, pk_un (by omega), hgk k (by omega)]
    · rw [cif_f h1]
      by_cases h2 : ¬ notA g t (g (45 + 12 * c)) (g (46 + 12 * c))
      · rw [cif_t h2, pk_un (by omega), pk_un (by omega), hgk k (by omega)]
      · rw [cif_f h2]
        have h3 := Classical.not_not.mp h2
        rw [hgk (45 + 12 * c) (by omega)]
        rcases hu with hu | ⟨u, hu, e⟩
        · exact absurd (by rw [hgk (45 + 12 * c) (by omega)]; exact hu) h3.1
        · rw [e, nI_clamp (by omega)]
          show upd (upd (upd (upd (upd (upd g (47 + 12 * c) _) (48 + 12 * c + u) _) (48 + 12 * c + t) _) (45 + 12 * c) _) (46 + 12 * c) _) (52 + 12 * c) _ k = w k
          rw [pk_un (by omega), pk_un (by omega), pk_un (by omega), pk_un (by omega), pk_un (by omega), pk_un (by omega), hgk k (by omega)]
  · rw [cif_f hw]
    show upd (upd (upd (upd (upd (upd (upd (upd (upd g (43 + 12 * c) _) (44 + 12 * c) _) (45 + 12 * c) _) (46 + 12 * c) _) (47 + 12 * c) _) (48 + 12 * c) _) (49 + 12 * c) _) (50 + 12 * c) _) (51 + 12 * c) _ k = w k
    rw [pk_un (by omega), pk_un (by omega), pk_un (by omega), pk_un (by omega), pk_un (by omega), pk_un (by omega), pk_un (by omega), pk_un (by omega), pk_un (by omega), hgk k (by omega)]
def leavF (w : Nat → Int32) (t x : Nat) : Nat → Int32 :=
  let w1 := upd w (40 + x) (-1)
  let w2 := upd w1 (20 + 4 * x) (w1 (4 + 4 * t))
  let w3 := upd w2 (21 + 4 * x) (w2 (5 + 4 * t))
  let w4 := upd w3 (22 + 4 * x) (w3 (6 + 4 * t))
  upd w4 (23 + 4 * x) (w4 (7 + 4 * t))
/-- what an EVENT does ahead of its being written down -/
noncomputable def doF (w : Nat → Int32) (t s x : Nat) : Nat → Int32 :=
  if s = 0 then accF w t x 0 else if s = 1 then accF w t x 1 else if s = 2 then upd (joinF w (4 + 4 * t) (20 + 4 * x)) (40 + x) (nI t)
  else if s = 3 then leavF w t x else if s = 4 then joinF w (32 + 4 * x) (4 + 4 * t) else if s = 5 then joinF w (4 + 4 * t) (32 + 4 * x)
  else if s = 6 then upd (joinF w (4 + 4 * x) (4 + 4 * t)) x (nI 1) else upd (joinF w (4 + 4 * t) (4 + 4 * x)) x (nI 2)
noncomputable def stpF (w : Nat → Int32) (t s : Nat) : Nat → Int32 := cif (hasS s ∧ ¬ w (4 + 5 * t) = 2147483647) (stepF w t) w
noncomputable def comeF (w : Nat → Int32) (n t s x : Nat) : Nat → Int32 := stpF (wriF (doF w t s x) n t s x) t s
/-- what a CELL keeps is sound -/
def okC (w : Nat → Int32) (c : Nat) : Prop := (w (43 + 12 * c) = -1 ∨ ∃ u, u < 4 ∧ w (43 + 12 * c) = nI u) ∧ (w (45 + 12 * c) = -1 ∨ ∃ u, u < 4 ∧ w (45 + 12 * c) = nI u) ∧ (w (47 + 12 * c) = nI 0 ∨ w (47 + 12 * c) = nI 1 ∧ w (45 + 12 * c) = -1)
theorem okC_upd {w : Nat → Int32} {c k : Nat} {v : Int32} (h : okC w c) (h1 : k ≠ 43 + 12 * c) (h2 : k ≠ 45 + 12 * c) (h3 : k ≠ 47 + 12 * c) : okC (upd w k v) c := by
  unfold okC
  rw [pk_un (Ne.symm h1), pk_un (Ne.symm h2), pk_un (Ne.symm h3)]
  exact h
theorem wriF_91 {w : Nat → Int32} {n t s x : Nat} : wriF w n t s x 91 = nI (1 + n) := pk_us
theorem comeF_91 {w : Nat → Int32} {n t s x : Nat} (ht : t < 4) : comeF w n t s x 91 = nI (1 + n) := by
  unfold comeF stpF
  by_cases h : hasS s ∧ ¬ wriF (doF w t s x) n t s x (4 + 5 * t) = 2147483647
  · rw [cif_t h]
    unfold stepF
    rw [pk_un (by omega), wriF_91]
  · rw [cif_f h, wriF_91]
def inR (x : Int32) (k : Nat) : Prop := ∃ j, j < k ∧ x = nI j
def withF (t s : Nat) (wi : Int32) : Prop := ∃ j, j < boundF s ∧ wi = nI j ∧ (6 ≤ s → j ≠ t)
/-- an EVENT that names what there is: its answer, and the row behind it -/
noncomputable def evG (w : Nat → Int32) (n t s x : Nat) : Int32 × (Nat → Int32) :=
  cif (¬ canF w t s x) (-1000000003, w) (cif (n = 160) (-1000000004, w) (cif (hasS s ∧ w (4 + 5 * t) = 2147483647) (-1000000005, w) (nI n, comeF w n t s x)))
noncomputable def evF (w : Nat → Int32) (n : Nat) (th so wi : Int32) : Int32 × (Nat → Int32) :=
  cif (¬ inR th 4) (-1000000001, w) (cif (¬ inR so 8) (-1000000002, w) (cif (¬ withF th.toNatClampNeg so.toNatClampNeg wi) (-1000000001, w) (evG w n th.toNatClampNeg so.toNatClampNeg wi.toNatClampNeg)))
theorem evF_U1 {w : Nat → Int32} {n : Nat} {th so wi : Int32} (h : ¬ inR th 4) : evF w n th so wi = (-1000000001, w) := cif_t h
theorem evF_O {w : Nat → Int32} {n t : Nat} {so wi : Int32} (ht : t < 4) (h : ¬ inR so 8) : evF w n (nI t) so wi = (-1000000002, w) := by
  unfold evF; rw [cif_f (fun q => q ⟨t, ht, rfl⟩), cif_t h]
theorem evF_U2 {w : Nat → Int32} {n t s : Nat} {wi : Int32} (ht : t < 4) (hs : s < 8) (h : ¬ withF t s wi) : evF w n (nI t) (nI s) wi = (-1000000001, w) := by
  unfold evF; rw [cif_f (fun q => q ⟨t, ht, rfl⟩), cif_f (fun q => q ⟨s, hs, rfl⟩), nI_clamp (by omega), nI_clamp (by omega), cif_t h]
theorem evF_go {w : Nat → Int32} {n t s x : Nat} (ht : t < 4) (hs : s < 8) (hx : x < 4) (h : withF t s (nI x)) : evF w n (nI t) (nI s) (nI x) = evG w n t s x := by
  unfold evF; rw [cif_f (fun q => q ⟨t, ht, rfl⟩), cif_f (fun q => q ⟨s, hs, rfl⟩), nI_clamp (by omega), nI_clamp (by omega), nI_clamp (by omega), cif_f (fun q => q h)]
noncomputable def jumpF (w : Nat → Int32) (th v : Int32) : Int32 × (Nat → Int32) :=
  cif (¬ inR th 4) (-1000000001, w) (cif (¬ nI 1 ≤ v) (-1000000002, w) (cif (¬ w th.toNatClampNeg = nI 1) (-1000000003, w) (cif (¬ (w (4 + 5 * th.toNatClampNeg)).toInt64 + v.toInt64 ≤ 2147483647) (-1000000005, w) (w (4 + 5 * th.toNatClampNeg) + v, upd w (4 + 5 * th.toNatClampNeg) (w (4 + 5 * th.toNatClampNeg) + v)))))
end
section
theorem ys_X7_in : yX7_in.cls ≠ "java/lang/invoke/MethodHandle" ∧ yX7_in.cls ≠ "java/lang/invoke/VarHandle" ∧ (parseMethodDescriptor yX7_in.desc).map (fun d => d.parameters.length) = some 3 := by decide +kernel
theorem yv_X7_in : yX7_in.cls = RX7 ∧ yX7_in.cls ≠ "java/lang/invoke/MethodHandle" ∧ yX7_in.cls ≠ "java/lang/invoke/VarHandle" ∧ (parseMethodDescriptor yX7_in.desc).map (fun d => d.parameters.length) = some 3 := ⟨rfl, ys_X7_in⟩
abbrev rmX7_in : Room := { frames := 0, cells := 0, slots := 0, locals := 0 }
set_option maxHeartbeats 4000000 in
set_option maxRecDepth 100000 in
theorem mX7_in {G : sx_G} (l : Launch) {F : Nat → va_E} {n : Nat} {v lo hi : Int64} : sx_I G l yX7_in wsX7_in rmX7_in [.long (v), .long (lo), .long (hi)] (n) F (n) (fun r F1 => F = F1 ∧ ((lo ≤ v ∧ v ≤ hi) ∧ nI 1 = r ∨ ¬ (lo ≤ v ∧ v ≤ hi) ∧ nI 0 = r)) := by
  refine sx_enter (cc := cX7_in) (maxL := 6) (ret := some .boolean) (own := RX7) (nm := "in") (by decide) rfl rfl rfl (Nat.le_of_ble_eq_true rfl) ?_
  intro pp ee ss mm args below meth kc ls Q hQ X hs hP hl
  have hl : lv_has ls 6 [(0, .long (v)), (2, .long (lo)), (4, .long (hi))] := hl
  refine lv_lload_n X.1.1 X.1.2.1 dX7_in_0 rfl (lv_at hl 0 rfl) ?_
  refine lv_lload_n X.1.1 X.1.2.1 dX7_in_1 rfl (lv_at hl 1 rfl) ?_
  refine W.lcmp X.1.1 X.1.2.1 dX7_in_2 ?_
  refine lv_if_lt X.1.1 X.1.2.1 (tgt := 17) dX7_in_3 (by decide) (fun c3 => ?_) (fun c3 => ?_)
  · refine lv_iconst (v := nI 0) X.1.1 X.1.2.1 dX7_in_17 (by decide) ?_
    rw [hQ]
    exact sx_zret X rfl (by decide) hs rfl hP dX7_in_18 (⟨rfl, Or.inr ⟨fun q => Int64.not_lt.mpr q.1 ((lg_cmp_lt _ _).mp c3), rfl⟩⟩)
  · refine lv_lload_n X.1.1 X.1.2.1 dX7_in_6 rfl (lv_at hl 0 rfl) ?_
    refine lv_lload X.1.1 X.1.2.1 dX7_in_7 (lv_at hl 2 rfl) ?_
    refine W.lcmp X.1.1 X.1.2.1 dX7_in_9 ?_
    refine lv_if_gt X.1.1 X.1.2.1 (tgt := 17) dX7_in_10 (by decide) (fun c10 => ?_) (fun c10 => ?_)
    · refine lv_iconst (v := nI 0) X.1.1 X.1.2.1 dX7_in_17 (by decide) ?_
      rw [hQ]
      exact sx_zret X rfl (by decide) hs rfl hP dX7_in_18 (⟨rfl, Or.inr ⟨fun q => Int64.not_lt.mpr q.2 ((lg_cmp_gt _ _).mp c10), rfl⟩⟩)
    · refine lv_iconst (v := nI 1) X.1.1 X.1.2.1 dX7_in_13 (by decide) ?_
      refine lv_goto (tgt := 18) X.1.1 X.1.2.1 dX7_in_14 (by decide) ?_
      rw [hQ]
      exact sx_zret X rfl (by decide) hs rfl hP dX7_in_18 (⟨rfl, Or.inl ⟨⟨(lg_cmp_ge _ _).mp (Int32.not_lt.mp c3), (lg_cmp_le _ _).mp (Int32.not_lt.mp c10)⟩, rfl⟩⟩)
theorem ys_X7_isThread : yX7_isThread.cls ≠ "java/lang/invoke/MethodHandle" ∧ yX7_isThread.cls ≠ "java/lang/invoke/VarHandle" ∧ (parseMethodDescriptor yX7_isThread.desc).map (fun d => d.parameters.length) = some 1 := by decide +kernel
theorem yv_X7_isThread : yX7_isThread.cls = RX7 ∧ yX7_isThread.cls ≠ "java/lang/invoke/MethodHandle" ∧ yX7_isThread.cls ≠ "java/lang/invoke/VarHandle" ∧ (parseMethodDescriptor yX7_isThread.desc).map (fun d => d.parameters.length) = some 1 := ⟨rfl, ys_X7_isThread⟩
theorem lk_X7_isThread_constantLong_RX7_29_3 : (.constantLong RX7 29 (3) : Cond) ∈ wsX7_isThread := List.mem_cons_of_mem _ (List.mem_of_getElem? (i := 0) rfl)
abbrev rmX7_isThread : Room := { frames := 1, cells := 0, slots := 0, locals := 25 }
set_option maxHeartbeats 4000000 in
set_option maxRecDepth 100000 in
theorem mX7_isThread {G : sx_G} (l : Launch) {F : Nat → va_E} {n : Nat} {x : Int32} : sx_I G l yX7_isThread wsX7_isThread rmX7_isThread [.int (x)] (n) F (n) (fun r F1 => F = F1 ∧ ((∃ j, j < 4 ∧ x = nI j) ∧ nI 1 = r ∨ ¬ (∃ j, j < 4 ∧ x = nI j) ∧ nI 0 = r)) := by
  refine sx_enter (cc := cX7_isThread) (maxL := 1) (ret := some .boolean) (own := RX7) (nm := "isThread") (by decide) rfl rfl rfl (Nat.le_of_ble_eq_true rfl) ?_
  intro pp ee ss mm args below meth kc ls Q hQ X hs hP hl
  have hl : lv_has ls 1 [(0, .int (x))] := hl
  refine lv_iload_n X.1.1 X.1.2.1 dX7_isThread_0 rfl (lv_at hl 0 rfl) ?_
  refine lv_i2l (v := (x).toInt64) X.1.1 X.1.2.1 dX7_isThread_1 rfl ?_
  refine lv_lconst (v := 0) X.1.1 X.1.2.1 dX7_isThread_2 (by decide) ?_
  refine lv_ldc2 (v := 3) X.1.1 X.1.2.1 X.1.2.2.2.1 (X.1.2.2.2.2 _ lk_X7_isThread_constantLong_RX7_29_3) dX7_isThread_3 ?_
  refine sx_csI (As := [.long ((x).toInt64), .long (0), .long (3)]) (rest := []) X (mX7_in l) gX7_isThread_X7_in rfl ys_X7_in ⟨Nat.le_of_ble_eq_true rfl, Nat.le_of_ble_eq_true rfl⟩ hl.1 rfl (Nat.le_of_ble_eq_true rfl) dX7_isThread_6 ⟨Nat.le_of_ble_eq_true rfl, Nat.le_of_ble_eq_true rfl⟩ hs rfl hP (fun r1 F1 H1 l1 hp hP => ?_)
  obtain ⟨rfl, ⟨b2, rfl⟩ | ⟨b2, rfl⟩⟩ := hp
  · rw [hQ]
    exact sx_zret X rfl (by decide) hs rfl hP dX7_isThread_9 (⟨rfl, Or.inl ⟨sx_in64 (by decide) (by decide) b2, rfl⟩⟩)
  · rw [hQ]
    exact sx_zret X rfl (by decide) hs rfl hP dX7_isThread_9 (⟨rfl, Or.inr ⟨fun q => b2 (sx_64in (by decide) (by decide) q), rfl⟩⟩)
theorem ys_X7_isLock : yX7_isLock.cls ≠ "java/lang/invoke/MethodHandle" ∧ yX7_isLock.cls ≠ "java/lang/invoke/VarHandle" ∧ (parseMethodDescriptor yX7_isLock.desc).map (fun d => d.parameters.length) = some 1 := by decide +kernel
theorem yv_X7_isLock : yX7_isLock.cls = RX7 ∧ yX7_isLock.cls ≠ "java/lang/invoke/MethodHandle" ∧ yX7_isLock.cls ≠ "java/lang/invoke/VarHandle" ∧ (parseMethodDescriptor yX7_isLock.desc).map (fun d => d.parameters.length) = some 1 := ⟨rfl, ys_X7_isLock⟩
theorem lk_X7_isLock_constantLong_RX7_35_2 : (.constantLong RX7 35 (2) : Cond) ∈ wsX7_isLock := List.mem_cons_of_mem _ (List.mem_of_getElem? (i := 0) rfl)
abbrev rmX7_isLock : Room := { frames := 1, cells := 0, slots := 0, locals := 25 }
set_option maxHeartbeats 4000000 in
set_option maxRecDepth 100000 in
theorem mX7_isLock {G : sx_G} (l : Launch) {F : Nat → va_E} {n : Nat} {x : Int32} : sx_I G l yX7_isLock wsX7_isLock rmX7_isLock [.int (x)] (n) F (n) (fun r F1 => F = F1 ∧ ((∃ j, j < 3 ∧ x = nI j) ∧ nI 1 = r ∨ ¬ (∃ j, j < 3 ∧ x = nI j) ∧ nI 0 = r)) := by
  refine sx_enter (cc := cX7_isLock) (maxL := 1) (ret := some .boolean) (own := RX7) (nm := "isLock") (by decide) rfl rfl rfl (Nat.le_of_ble_eq_true rfl) ?_
  intro pp ee ss mm args below meth kc ls Q hQ X hs hP hl
  have hl : lv_has ls 1 [(0, .int (x))] := hl
  refine lv_iload_n X.1.1 X.1.2.1 dX7_isLock_0 rfl (lv_at hl 0 rfl) ?_
  refine lv_i2l (v := (x).toInt64) X.1.1 X.1.2.1 dX7_isLock_1 rfl ?_
  refine lv_lconst (v := 0) X.1.1 X.1.2.1 dX7_isLock_2 (by decide) ?_
  refine lv_ldc2 (v := 2) X.1.1 X.1.2.1 X.1.2.2.2.1 (X.1.2.2.2.2 _ lk_X7_isLock_constantLong_RX7_35_2) dX7_isLock_3 ?_
  refine sx_csI (As := [.long ((x).toInt64), .long (0), .long (2)]) (rest := []) X (mX7_in l) gX7_isLock_X7_in rfl ys_X7_in ⟨Nat.le_of_ble_eq_true rfl, Nat.le_of_ble_eq_true rfl⟩ hl.1 rfl (Nat.le_of_ble_eq_true rfl) dX7_isLock_6 ⟨Nat.le_of_ble_eq_true rfl, Nat.le_of_ble_eq_true rfl⟩ hs rfl hP (fun r1 F1 H1 l1 hp hP => ?_)
  obtain ⟨rfl, ⟨b2, rfl⟩ | ⟨b2, rfl⟩⟩ := hp
  · rw [hQ]
    exact sx_zret X rfl (by decide) hs rfl hP dX7_isLock_9 (⟨rfl, Or.inl ⟨sx_in64 (by decide) (by decide) b2, rfl⟩⟩)
  · rw [hQ]
    exact sx_zret X rfl (by decide) hs rfl hP dX7_isLock_9 (⟨rfl, Or.inr ⟨fun q => b2 (sx_64in (by decide) (by decide) q), rfl⟩⟩)
theorem ys_X7_isCell : yX7_isCell.cls ≠ "java/lang/invoke/MethodHandle" ∧ yX7_isCell.cls ≠ "java/lang/invoke/VarHandle" ∧ (parseMethodDescriptor yX7_isCell.desc).map (fun d => d.parameters.length) = some 1 := by decide +kernel
theorem yv_X7_isCell : yX7_isCell.cls = RX7 ∧ yX7_isCell.cls ≠ "java/lang/invoke/MethodHandle" ∧ yX7_isCell.cls ≠ "java/lang/invoke/VarHandle" ∧ (parseMethodDescriptor yX7_isCell.desc).map (fun d => d.parameters.length) = some 1 := ⟨rfl, ys_X7_isCell⟩
theorem lk_X7_isCell_constantLong_RX7_29_3 : (.constantLong RX7 29 (3) : Cond) ∈ wsX7_isCell := List.mem_cons_of_mem _ (List.mem_of_getElem? (i := 0) rfl)
abbrev rmX7_isCell : Room := { frames := 1, cells := 0, slots := 0, locals := 25 }
set_option maxHeartbeats 4000000 in
set_option maxRecDepth 100000 in
theorem mX7_isCell {G : sx_G} (l : Launch) {F : Nat → va_E} {n : Nat} {x : Int32} : sx_I G l yX7_isCell wsX7_isCell rmX7_isCell [.int (x)] (n) F (n) (fun r F1 => F = F1 ∧ ((∃ j, j < 4 ∧ x = nI j) ∧ nI 1 = r ∨ ¬ (∃ j, j < 4 ∧ x = nI j) ∧ nI 0 = r)) := by
  refine sx_enter (cc := cX7_isCell) (maxL := 1) (ret := some .boolean) (own := RX7) (nm := "isCell") (by decide) rfl rfl rfl (Nat.le_of_ble_eq_true rfl) ?_
  intro pp ee ss mm args below meth kc ls Q hQ X hs hP hl
  have hl : lv_has ls 1 [(0, .int (x))] := hl
  refine lv_iload_n X.1.1 X.1.2.1 dX7_isCell_0 rfl (lv_at hl 0 rfl) ?_
  refine lv_i2l (v := (x).toInt64) X.1.1 X.1.2.1 dX7_isCell_1 rfl ?_
  refine lv_lconst (v := 0) X.1.1 X.1.2.1 dX7_isCell_2 (by decide) ?_
  refine lv_ldc2 (v := 3) X.1.1 X.1.2.1 X.1.2.2.2.1 (X.1.2.2.2.2 _ lk_X7_isCell_constantLong_RX7_29_3) dX7_isCell_3 ?_
  refine sx_csI (As := [.long ((x).toInt64), .long (0), .long (3)]) (rest := []) X (mX7_in l) gX7_isCell_X7_in rfl ys_X7_in ⟨Nat.le_of_ble_eq_true rfl, Nat.le_of_ble_eq_true rfl⟩ hl.1 rfl (Nat.le_of_ble_eq_true rfl) dX7_isCell_6 ⟨Nat.le_of_ble_eq_true rfl, Nat.le_of_ble_eq_true rfl⟩ hs rfl hP (fun r1 F1 H1 l1 hp hP => ?_)
  obtain ⟨rfl, ⟨b2, rfl⟩ | ⟨b2, rfl⟩⟩ := hp
  · rw [hQ]
    exact sx_zret X rfl (by decide) hs rfl hP dX7_isCell_9 (⟨rfl, Or.inl ⟨sx_in64 (by decide) (by decide) b2, rfl⟩⟩)
  · rw [hQ]
    exact sx_zret X rfl (by decide) hs rfl hP dX7_isCell_9 (⟨rfl, Or.inr ⟨fun q => b2 (sx_64in (by decide) (by decide) q), rfl⟩⟩)
theorem ys_X7_isSeen : yX7_isSeen.cls ≠ "java/lang/invoke/MethodHandle" ∧ yX7_isSeen.cls ≠ "java/lang/invoke/VarHandle" ∧ (parseMethodDescriptor yX7_isSeen.desc).map (fun d => d.parameters.length) = some 1 := by decide +kernel
theorem yv_X7_isSeen : yX7_isSeen.cls = RX7 ∧ yX7_isSeen.cls ≠ "java/lang/invoke/MethodHandle" ∧ yX7_isSeen.cls ≠ "java/lang/invoke/VarHandle" ∧ (parseMethodDescriptor yX7_isSeen.desc).map (fun d => d.parameters.length) = some 1 := ⟨rfl, ys_X7_isSeen⟩
abbrev rmX7_isSeen : Room := { frames := 1, cells := 0, slots := 0, locals := 25 }
set_option maxHeartbeats 4000000 in
set_option maxRecDepth 100000 in
theorem mX7_isSeen {G : sx_G} (l : Launch) {F : Nat → va_E} {n : Nat} {x : Int32} : sx_I G l yX7_isSeen wsX7_isSeen rmX7_isSeen [.int (x)] (n) F (n) (fun r F1 => F = F1 ∧ ((∃ j, j < 2 ∧ x = nI j) ∧ nI 1 = r ∨ ¬ (∃ j, j < 2 ∧ x = nI j) ∧ nI 0 = r)) := by
  refine sx_enter (cc := cX7_isSeen) (maxL := 1) (ret := some .boolean) (own := RX7) (nm := "isSeen") (by decide) rfl rfl rfl (Nat.le_of_ble_eq_true rfl) ?_
  intro pp ee ss mm args below meth kc ls Q hQ X hs hP hl
  have hl : lv_has ls 1 [(0, .int (x))] := hl
  refine lv_iload_n X.1.1 X.1.2.1 dX7_isSeen_0 rfl (lv_at hl 0 rfl) ?_
  refine lv_i2l (v := (x).toInt64) X.1.1 X.1.2.1 dX7_isSeen_1 rfl ?_
  refine lv_lconst (v := 0) X.1.1 X.1.2.1 dX7_isSeen_2 (by decide) ?_
  refine lv_lconst (v := 1) X.1.1 X.1.2.1 dX7_isSeen_3 (by decide) ?_
  refine sx_csI (As := [.long ((x).toInt64), .long (0), .long (1)]) (rest := []) X (mX7_in l) gX7_isSeen_X7_in rfl ys_X7_in ⟨Nat.le_of_ble_eq_true rfl, Nat.le_of_ble_eq_true rfl⟩ hl.1 rfl (Nat.le_of_ble_eq_true rfl) dX7_isSeen_4 ⟨Nat.le_of_ble_eq_true rfl, Nat.le_of_ble_eq_true rfl⟩ hs rfl hP (fun r1 F1 H1 l1 hp hP => ?_)
  obtain ⟨rfl, ⟨b2, rfl⟩ | ⟨b2, rfl⟩⟩ := hp
  · rw [hQ]
    exact sx_zret X rfl (by decide) hs rfl hP dX7_isSeen_7 (⟨rfl, Or.inl ⟨sx_in64 (by decide) (by decide) b2, rfl⟩⟩)
  · rw [hQ]
    exact sx_zret X rfl (by decide) hs rfl hP dX7_isSeen_7 (⟨rfl, Or.inr ⟨fun q => b2 (sx_64in (by decide) (by decide) q), rfl⟩⟩)
theorem ys_X7_of : yX7_of.cls ≠ "java/lang/invoke/MethodHandle" ∧ yX7_of.cls ≠ "java/lang/invoke/VarHandle" ∧ (parseMethodDescriptor yX7_of.desc).map (fun d => d.parameters.length) = some 1 := by decide +kernel
theorem yv_X7_of : yX7_of.cls = RX7 ∧ yX7_of.cls ≠ "java/lang/invoke/MethodHandle" ∧ yX7_of.cls ≠ "java/lang/invoke/VarHandle" ∧ (parseMethodDescriptor yX7_of.desc).map (fun d => d.parameters.length) = some 1 := ⟨rfl, ys_X7_of⟩
abbrev rmX7_of : Room := { frames := 0, cells := 0, slots := 0, locals := 0 }
set_option maxHeartbeats 4000000 in
set_option maxRecDepth 100000 in
theorem mX7_of {G : sx_G} (l : Launch) {F : Nat → va_E} {n c : Nat} : sx_I G l yX7_of wsX7_of rmX7_of [.int (nI (c))] (n) F (n) (fun r F1 => F = F1 ∧ nI (43 + 12 * c) = r) := by
  refine sx_enter (cc := cX7_of) (maxL := 1) (ret := some .int) (own := RX7) (nm := "of") (by decide) rfl rfl rfl (Nat.le_of_ble_eq_true rfl) ?_
  intro pp ee ss mm args below meth kc ls Q hQ X hs hP hl
  have hl : lv_has ls 1 [(0, .int (nI (c)))] := hl
  refine lv_bipush (v := nI 43) X.1.1 X.1.2.1 dX7_of_0 (by decide) ?_
  refine lv_bipush (v := nI 12) X.1.1 X.1.2.1 dX7_of_2 (by decide) ?_
  refine lv_iload_n X.1.1 X.1.2.1 dX7_of_4 rfl (lv_at hl 0 rfl) ?_
  refine sx_mulN X (12 * c) (by omega) dX7_of_5 ?_
  refine sx_addN X (43 + 12 * c) (by omega) dX7_of_6 ?_
  rw [hQ]
  exact sx_iret X rfl hs rfl hP dX7_of_7 (⟨rfl, rfl⟩)
theorem ys_X7_number : yX7_number.cls ≠ "java/lang/invoke/MethodHandle" ∧ yX7_number.cls ≠ "java/lang/invoke/VarHandle" ∧ (parseMethodDescriptor yX7_number.desc).map (fun d => d.parameters.length) = some 2 := by decide +kernel
theorem yv_X7_number : yX7_number.cls = RX7 ∧ yX7_number.cls ≠ "java/lang/invoke/MethodHandle" ∧ yX7_number.cls ≠ "java/lang/invoke/VarHandle" ∧ (parseMethodDescriptor yX7_number.desc).map (fun d => d.parameters.length) = some 2 := ⟨rfl, ys_X7_number⟩
theorem in_X7_number_X7 : ∀ w ∈ wsX70, w ∈ wsX7_number := fun _ h => List.mem_cons_of_mem _ (List.mem_append_right _ (h))
theorem lk_X7_number_fieldLink_RX7_7_RaceWatchModel_w_I : (.fieldLink RX7 7 "RaceWatchModel" "w" "[I" : Cond) ∈ wsX7_number := List.mem_cons_of_mem _ (List.mem_append_left _ (List.mem_of_getElem? (i := 0) rfl))
abbrev rmX7_number : Room := { frames := 0, cells := 0, slots := 0, locals := 0 }
set_option maxHeartbeats 4000000 in
set_option maxRecDepth 100000 in
theorem mX7_number {G : sx_G} (l : Launch) {F : Nat → va_E} {w : Nat → Int32} {of : List Value} {t u : Nat} (ht : t < 4) (hu : u < 4) (h91 : F (91) = ob 7 (rf G 92 :: of)) (h92 : F (92) = rI G (4358) (w)) : sx_I G l yX7_number wsX7_number rmX7_number [rf G 91, .int (nI (t)), .int (nI (u))] (97) F (97) (fun r F1 => F = F1 ∧ w (4 + 4 * t + u) = r) := by
  refine sx_enter (cc := cX7_number) (maxL := 3) (ret := some .int) (own := RX7) (nm := "number") (by decide) rfl rfl rfl (Nat.le_of_ble_eq_true rfl) ?_
  intro pp ee ss mm args below meth kc ls Q hQ X hs hP hl
  have hl : lv_has ls 3 [(0, rf G 91), (1, .int (nI (t))), (2, .int (nI (u)))] := hl
  refine lv_aload_n X.1.1 X.1.2.1 dX7_number_0 rfl (lv_at hl 0 rfl) ?_
  refine sx_get X hP in_X7_number_X7 h91 (by decide) rfl 0 (by decide) lk_X7_number_fieldLink_RX7_7_RaceWatchModel_w_I rfl dX7_number_1 ?_
  refine lv_iconst (v := nI 4) X.1.1 X.1.2.1 dX7_number_4 (by decide) ?_
  refine lv_iconst (v := nI 4) X.1.1 X.1.2.1 dX7_number_5 (by decide) ?_
  refine lv_iload_n X.1.1 X.1.2.1 dX7_number_6 rfl (lv_at hl 1 rfl) ?_
  refine sx_mulN X (4 * t) (by omega) dX7_number_7 ?_
  refine sx_addN X (4 + 4 * t) (by omega) dX7_number_8 ?_
  refine lv_iload_n X.1.1 X.1.2.1 dX7_number_9 rfl (lv_at hl 2 rfl) ?_
  refine sx_addN X (4 + 4 * t + u) (by omega) dX7_number_10 ?_
  refine sx_ald X hP h92 (by decide) (4 + 4 * t + u) (by omega) (by decide) dX7_number_11 ?_
  rw [hQ]
  exact sx_iret X rfl hs rfl hP dX7_number_12 (⟨rfl, rfl⟩)
theorem ys_X7_held : yX7_held.cls ≠ "java/lang/invoke/MethodHandle" ∧ yX7_held.cls ≠ "java/lang/invoke/VarHandle" ∧ (parseMethodDescriptor yX7_held.desc).map (fun d => d.parameters.length) = some 1 := by decide +kernel
theorem yv_X7_held : yX7_held.cls = RX7 ∧ yX7_held.cls ≠ "java/lang/invoke/MethodHandle" ∧ yX7_held.cls ≠ "java/lang/invoke/VarHandle" ∧ (parseMethodDescriptor yX7_held.desc).map (fun d => d.parameters.length) = some 1 := ⟨rfl, ys_X7_held⟩
theorem in_X7_held_X7 : ∀ w ∈ wsX70, w ∈ wsX7_held := fun _ h => List.mem_cons_of_mem _ (List.mem_append_right _ (h))
theorem lk_X7_held_fieldLink_RX7_7_RaceWatchModel_w_I : (.fieldLink RX7 7 "RaceWatchModel" "w" "[I" : Cond) ∈ wsX7_held := List.mem_cons_of_mem _ (List.mem_append_left _ (List.mem_of_getElem? (i := 0) rfl))
abbrev rmX7_held : Room := { frames := 0, cells := 0, slots := 0, locals := 0 }
set_option maxHeartbeats 4000000 in
set_option maxRecDepth 100000 in
theorem mX7_held {G : sx_G} (l : Launch) {F : Nat → va_E} {w : Nat → Int32} {of : List Value} {t : Int32} (h91 : F (91) = ob 7 (rf G 92 :: of)) (h92 : F (92) = rI G (4358) (w)) : sx_I G l yX7_held wsX7_held rmX7_held [rf G 91, .int (t)] (97) F (97) (fun r F1 => F = F1 ∧ heldF (fun j => w (40 + j)) t = r) := by
  refine sx_enter (cc := cX7_held) (maxL := 4) (ret := some .int) (own := RX7) (nm := "held") (by decide) rfl rfl rfl (Nat.le_of_ble_eq_true rfl) ?_
  intro pp ee ss mm args below meth kc ls Q hQ X hs hP hl
  have hl : lv_has ls 4 [(0, rf G 91), (1, .int (t))] := hl
  refine lv_iconst (v := nI 0) X.1.1 X.1.2.1 dX7_held_0 (by decide) ?_
  refine lv_istore_n (lv' := [(2, .int (nI 0)), (0, rf G 91), (1, .int (t))]) X.1.1 X.1.2.1 dX7_held_1 rfl hl (by decide) rfl (fun ls hl => ?_)
  refine lv_iconst (v := nI 0) X.1.1 X.1.2.1 dX7_held_2 (by decide) ?_
  refine lv_istore_n (lv' := [(3, .int (nI 0)), (2, .int (nI 0)), (0, rf G 91), (1, .int (t))]) X.1.1 X.1.2.1 dX7_held_3 rfl hl (by decide) rfl (fun ls hl => ?_)
  refine lv_iload_n X.1.1 X.1.2.1 dX7_held_4 rfl (lv_at hl 0 rfl) ?_
  refine lv_iconst (v := nI 3) X.1.1 X.1.2.1 dX7_held_5 (by decide) ?_
  refine sx_icmp_ge X (by decide) (by decide) (tgt := 38) dX7_held_6 (by decide) (fun h => absurd h (by decide)) (fun _ => ?_)
  refine lv_iload_n X.1.1 X.1.2.1 dX7_held_9 rfl (lv_at hl 1 rfl) ?_
  refine lv_aload_n X.1.1 X.1.2.1 dX7_held_10 rfl (lv_at hl 2 rfl) ?_
  refine sx_get X hP in_X7_held_X7 h91 (by decide) rfl 0 (by decide) lk_X7_held_fieldLink_RX7_7_RaceWatchModel_w_I rfl dX7_held_11 ?_
  refine lv_bipush (v := nI 40) X.1.1 X.1.2.1 dX7_held_14 (by decide) ?_
  refine lv_iload_n X.1.1 X.1.2.1 dX7_held_16 rfl (lv_at hl 0 rfl) ?_
  refine sx_addN X (40) rfl dX7_held_17 ?_
  refine sx_ald X hP h92 (by decide) (40) (by decide) (by decide) dX7_held_18 ?_
  refine lv_iload_n X.1.1 X.1.2.1 dX7_held_19 rfl (lv_at hl 3 rfl) ?_
  refine sx_join (P := fun z => W pp l ee rmX7_held ss mm args below meth kc ss.heap [] 0 0 Q (F0 mm 30 ls (.int z :: .int (nI 0) :: []))) ((w 40) = (t)) (a := ((nI (1)) <<< ((nI (0)) &&& 31))) (b := (nI (0))) (fun ja jb => ?_) ?_
  · refine lv_icmp_ne X.1.1 X.1.2.1 (tgt := 29) dX7_held_20 (by decide) (fun c20 => ?_) (fun c20 => ?_)
    · refine lv_iconst (v := nI 0) X.1.1 X.1.2.1 dX7_held_29 (by decide) ?_
      exact jb c20
    · refine lv_iconst (v := nI 1) X.1.1 X.1.2.1 dX7_held_23 (by decide) ?_
      refine lv_iload_n X.1.1 X.1.2.1 dX7_held_24 rfl (lv_at hl 0 rfl) ?_
      refine lv_ishl X.1.1 X.1.2.1 dX7_held_25 ?_
      refine lv_goto (tgt := 30) X.1.1 X.1.2.1 dX7_held_26 (by decide) ?_
      exact ja c20
  · refine lv_ior X.1.1 X.1.2.1 dX7_held_30 ?_
    refine lv_istore_n (lv' := [(2, .int ((nI (0)) ||| (if (w 40) = (t) then ((nI (1)) <<< ((nI (0)) &&& 31)) else (nI (0))))), (3, .int (nI 0)), (0, rf G 91), (1, .int (t))]) X.1.1 X.1.2.1 dX7_held_31 rfl hl (by decide) rfl (fun ls hl => ?_)
    refine lv_iinc (v := (nI (1))) (lv' := [(3, .int (nI 1)), (2, .int ((nI (0)) ||| (if (w 40) = (t) then ((nI (1)) <<< ((nI (0)) &&& 31)) else (nI (0))))), (0, rf G 91), (1, .int (t))]) X.1.1 X.1.2.1 dX7_held_32 hl (k := 1) rfl (by decide) (by decide) rfl (fun ls hl => ?_)
    refine lv_goto (tgt := 4) X.1.1 X.1.2.1 dX7_held_35 (by decide) ?_
    refine lv_iload_n X.1.1 X.1.2.1 dX7_held_4 rfl (lv_at hl 0 rfl) ?_
    refine lv_iconst (v := nI 3) X.1.1 X.1.2.1 dX7_held_5 (by decide) ?_
    refine sx_icmp_ge X (by decide) (by decide) (tgt := 38) dX7_held_6 (by decide) (fun h => absurd h (by decide)) (fun _ => ?_)
    refine lv_iload_n X.1.1 X.1.2.1 dX7_held_9 rfl (lv_at hl 1 rfl) ?_
    refine lv_aload_n X.1.1 X.1.2.1 dX7_held_10 rfl (lv_at hl 2 rfl) ?_
    refine sx_get X hP in_X7_held_X7 h91 (by decide) rfl 0 (by decide) lk_X7_held_fieldLink_RX7_7_RaceWatchModel_w_I rfl dX7_held_11 ?_
    refine lv_bipush (v := nI 40) X.1.1 X.1.2.1 dX7_held_14 (by decide) ?_
    refine lv_iload_n X.1.1 X.1.2.1 dX7_held_16 rfl (lv_at hl 0 rfl) ?_
    refine sx_addN X (41) rfl dX7_held_17 ?_
    refine sx_ald X hP h92 (by decide) (41) (by decide) (by decide) dX7_held_18 ?_
    refine lv_iload_n X.1.1 X.1.2.1 dX7_held_19 rfl (lv_at hl 3 rfl) ?_
    refine sx_join (P := fun z => W pp l ee rmX7_held ss mm args below meth kc ss.heap [] 0 0 Q (F0 mm 30 ls (.int z :: .int ((nI (0)) ||| (if (w 40) = (t) then ((nI (1)) <<< ((nI (0)) &&& 31)) else (nI (0)))) :: []))) ((w 41) = (t)) (a := ((nI (1)) <<< ((nI (1)) &&& 31))) (b := (nI (0))) (fun ja jb => ?_) ?_
    · refine lv_icmp_ne X.1.1 X.1.2.1 (tgt := 29) dX7_held_20 (by decide) (fun c20 => ?_) (fun c20 => ?_)
      · refine lv_iconst (v := nI 0) X.1.1 X.1.2.1 dX7_held_29 (by decide) ?_
        exact jb c20
      · refine lv_iconst (v := nI 1) X.1.1 X.1.2.1 dX7_held_23 (by decide) ?_
        refine lv_iload_n X.1.1 X.1.2.1 dX7_held_24 rfl (lv_at hl 0 rfl) ?_
        refine lv_ishl X.1.1 X.1.2.1 dX7_held_25 ?_
        refine lv_goto (tgt := 30) X.1.1 X.1.2.1 dX7_held_26 (by decide) ?_
        exact ja c20
    · refine lv_ior X.1.1 X.1.2.1 dX7_held_30 ?_
      refine lv_istore_n (lv' := [(2, .int (((nI (0)) ||| (if (w 40) = (t) then ((nI (1)) <<< ((nI (0)) &&& 31)) else (nI (0)))) ||| (if (w 41) = (t) then ((nI (1)) <<< ((nI (1)) &&& 31)) else (nI (0))))), (3, .int (nI 1)), (0, rf G 91), (1, .int (t))]) X.1.1 X.1.2.1 dX7_held_31 rfl hl (by decide) rfl (fun ls hl => ?_)
      refine lv_iinc (v := (nI (2))) (lv' := [(3, .int (nI 2)), (2, .int (((nI (0)) ||| (if (w 40) = (t) then ((nI (1)) <<< ((nI (0)) &&& 31)) else (nI (0)))) ||| (if (w 41) = (t) then ((nI (1)) <<< ((nI (1)) &&& 31)) else (nI (0))))), (0, rf G 91), (1, .int (t))]) X.1.1 X.1.2.1 dX7_held_32 hl (k := 1) rfl (by decide) (by decide) rfl (fun ls hl => ?_)
      refine lv_goto (tgt := 4) X.1.1 X.1.2.1 dX7_held_35 (by decide) ?_
      refine lv_iload_n X.1.1 X.1.2.1 dX7_held_4 rfl (lv_at hl 0 rfl) ?_
      refine lv_iconst (v := nI 3) X.1.1 X.1.2.1 dX7_held_5 (by decide) ?_
      refine sx_icmp_ge X (by decide) (by decide) (tgt := 38) dX7_held_6 (by decide) (fun h => absurd h (by decide)) (fun _ => ?_)
      refine lv_iload_n X.1.1 X.1.2.1 dX7_held_9 rfl (lv_at hl 1 rfl) ?_
      refine lv_aload_n X.1.1 X.1.2.1 dX7_held_10 rfl (lv_at hl 2 rfl) ?_
      refine sx_get X hP in_X7_held_X7 h91 (by decide) rfl 0 (by decide) lk_X7_held_fieldLink_RX7_7_RaceWatchModel_w_I rfl dX7_held_11 ?_
      refine lv_bipush (v := nI 40) X.1.1 X.1.2.1 dX7_held_14 (by decide) ?_
      refine lv_iload_n X.1.1 X.1.2.1 dX7_held_16 rfl (lv_at hl 0 rfl) ?_
      refine sx_addN X (42) rfl dX7_held_17 ?_
      refine sx_ald X hP h92 (by decide) (42) (by decide) (by decide) dX7_held_18 ?_
      refine lv_iload_n X.1.1 X.1.2.1 dX7_held_19 rfl (lv_at hl 3 rfl) ?_
      refine sx_join (P := fun z => W pp l ee rmX7_held ss mm args below meth kc ss.heap [] 0 0 Q (F0 mm 30 ls (.int z :: .int (((nI (0)) ||| (if (w 40) = (t) then ((nI (1)) <<< ((nI (0)) &&& 31)) else (nI (0)))) ||| (if (w 41) = (t) then ((nI (1)) <<< ((nI (1)) &&& 31)) else (nI (0)))) :: []))) ((w 42) = (t)) (a := ((nI (1)) <<< ((nI (2)) &&& 31))) (b := (nI (0))) (fun ja jb => ?_) ?_
      · refine lv_icmp_ne X.1.1 X.1.2.1 (tgt := 29) dX7_held_20 (by decide) (fun c20 => ?_) (fun c20 => ?_)
        · refine lv_iconst (v := nI 0) X.1.1 X.1.2.1 dX7_held_29 (by decide) ?_
          exact jb c20
        · refine lv_iconst (v := nI 1) X.1.1 X.1.2.1 dX7_held_23 (by decide) ?_
          refine lv_iload_n X.1.1 X.1.2.1 dX7_held_24 rfl (lv_at hl 0 rfl) ?_
          refine lv_ishl X.1.1 X.1.2.1 dX7_held_25 ?_
          refine lv_goto (tgt := 30) X.1.1 X.1.2.1 dX7_held_26 (by decide) ?_
          exact ja c20
      · refine lv_ior X.1.1 X.1.2.1 dX7_held_30 ?_
        refine lv_istore_n (lv' := [(2, .int ((((nI (0)) ||| (if (w 40) = (t) then ((nI (1)) <<< ((nI (0)) &&& 31)) else (nI (0)))) ||| (if (w 41) = (t) then ((nI (1)) <<< ((nI (1)) &&& 31)) else (nI (0)))) ||| (if (w 42) = (t) then ((nI (1)) <<< ((nI (2)) &&& 31)) else (nI (0))))), (3, .int (nI 2)), (0, rf G 91), (1, .int (t))]) X.1.1 X.1.2.1 dX7_held_31 rfl hl (by decide) rfl (fun ls hl => ?_)
        refine lv_iinc (v := (nI (3))) (lv' := [(3, .int (nI 3)), (2, .int ((((nI (0)) ||| (if (w 40) = (t) then ((nI (1)) <<< ((nI (0)) &&& 31)) else (nI (0)))) ||| (if (w 41) = (t) then ((nI (1)) <<< ((nI (1)) &&& 31)) else (nI (0)))) ||| (if (w 42) = (t) then ((nI (1)) <<< ((nI (2)) &&& 31)) else (nI (0))))), (0, rf G 91), (1, .int (t))]) X.1.1 X.1.2.1 dX7_held_32 hl (k := 1) rfl (by decide) (by decide) rfl (fun ls hl => ?_)
        refine lv_goto (tgt := 4) X.1.1 X.1.2.1 dX7_held_35 (by decide) ?_
        refine lv_iload_n X.1.1 X.1.2.1 dX7_held_4 rfl (lv_at hl 0 rfl) ?_
        refine lv_iconst (v := nI 3) X.1.1 X.1.2.1 dX7_held_5 (by decide) ?_
        refine sx_icmp_ge X (by decide) (by decide) (tgt := 38) dX7_held_6 (by decide) (fun _ => ?_) (fun h => absurd h (by decide))
        refine lv_iload_n X.1.1 X.1.2.1 dX7_held_38 rfl (lv_at hl 1 rfl) ?_
        rw [hQ]
        exact sx_iret X rfl hs rfl hP dX7_held_39 (⟨rfl, by simp only [heldF, Nat.reduceAdd]; (repeat' split) <;> first | rfl | (exfalso; simp_all; done) | simp_all⟩)
theorem ys_X7_joins : yX7_joins.cls ≠ "java/lang/invoke/MethodHandle" ∧ yX7_joins.cls ≠ "java/lang/invoke/VarHandle" ∧ (parseMethodDescriptor yX7_joins.desc).map (fun d => d.parameters.length) = some 2 := by decide +kernel
theorem yv_X7_joins : yX7_joins.cls = RX7 ∧ yX7_joins.cls ≠ "java/lang/invoke/MethodHandle" ∧ yX7_joins.cls ≠ "java/lang/invoke/VarHandle" ∧ (parseMethodDescriptor yX7_joins.desc).map (fun d => d.parameters.length) = some 2 := ⟨rfl, ys_X7_joins⟩
theorem in_X7_joins_X7 : ∀ w ∈ wsX70, w ∈ wsX7_joins := fun _ h => List.mem_cons_of_mem _ (List.mem_append_right _ (h))
theorem lk_X7_joins_fieldLink_RX7_7_RaceWatchModel_w_I : (.fieldLink RX7 7 "RaceWatchModel" "w" "[I" : Cond) ∈ wsX7_joins := List.mem_cons_of_mem _ (List.mem_append_left _ (List.mem_of_getElem? (i := 0) rfl))
abbrev rmX7_joins : Room := { frames := 0, cells := 0, slots := 0, locals := 0 }
set_option maxHeartbeats 4000000 in
set_option maxRecDepth 100000 in
theorem mX7_joins {G : sx_G} (l : Launch) {F : Nat → va_E} {w : Nat → Int32} {of : List Value} {to fr : Nat} (ht : to < 4000) (hf : fr < 4000) (h91 : F (91) = ob 7 (rf G 92 :: of)) (h92 : F (92) = rI G (4358) (w)) : sx_V G l yX7_joins wsX7_joins rmX7_joins [rf G 91, .int (nI (to)), .int (nI (fr))] (97) F (97) (fun F1 => F1 92 = rI G 4358 (joinF w to fr) ∧ ∀ j, j ≠ 92 → F1 j = F j) := by
  refine sx_enter (cc := cX7_joins) (maxL := 4) (ret := none) (own := RX7) (nm := "joins") (by decide) rfl rfl rfl (Nat.le_of_ble_eq_true rfl) ?_
  intro pp ee ss mm args below meth kc ls Q hQ X hs hP hl
  have hl : lv_has ls 4 [(0, rf G 91), (1, .int (nI (to))), (2, .int (nI (fr)))] := hl
  have hO : ∀ j, j ≠ 92 → F j = F j := fun _ _ => rfl
  refine lv_iconst (v := nI 0) X.1.1 X.1.2.1 dX7_joins_0 (by decide) ?_
  refine lv_istore_n (lv' := [(3, .int (nI 0)), (0, rf G 91), (1, .int (nI (to))), (2, .int (nI (fr)))]) X.1.1 X.1.2.1 dX7_joins_1 rfl hl (by decide) rfl (fun ls hl => ?_)
  refine lv_iload_n X.1.1 X.1.2.1 dX7_joins_2 rfl (lv_at hl 0 rfl) ?_
  refine lv_iconst (v := nI 4) X.1.1 X.1.2.1 dX7_joins_3 (by decide) ?_
  refine sx_icmp_ge X (by decide) (by decide) (tgt := 59) dX7_joins_4 (by decide) (fun h => absurd h (by decide)) (fun _ => ?_)
  refine lv_aload_n X.1.1 X.1.2.1 dX7_joins_7 rfl (lv_at hl 1 rfl) ?_
  refine sx_get X hP in_X7_joins_X7 h91 (by decide) rfl 0 (by decide) lk_X7_joins_fieldLink_RX7_7_RaceWatchModel_w_I rfl dX7_joins_8 ?_
  refine lv_iload_n X.1.1 X.1.2.1 dX7_joins_11 rfl (lv_at hl 2 rfl) ?_
  refine lv_iload_n X.1.1 X.1.2.1 dX7_joins_12 rfl (lv_at hl 0 rfl) ?_
  refine sx_addN X (to) (by omega) dX7_joins_13 ?_
  refine lv_aload_n X.1.1 X.1.2.1 dX7_joins_14 rfl (lv_at hl 1 rfl) ?_
  refine sx_get X hP in_X7_joins_X7 h91 (by decide) rfl 0 (by decide) lk_X7_joins_fieldLink_RX7_7_RaceWatchModel_w_I rfl dX7_joins_15 ?_
  refine lv_iload_n X.1.1 X.1.2.1 dX7_joins_18 rfl (lv_at hl 3 rfl) ?_
  refine lv_iload_n X.1.1 X.1.2.1 dX7_joins_19 rfl (lv_at hl 0 rfl) ?_
  refine sx_addN X (fr) (by omega) dX7_joins_20 ?_
  refine sx_ald X hP h92 (by decide) (fr) (by omega) (by decide) dX7_joins_21 ?_
  refine lv_aload_n X.1.1 X.1.2.1 dX7_joins_22 rfl (lv_at hl 1 rfl) ?_
  refine sx_get X hP in_X7_joins_X7 h91 (by decide) rfl 0 (by decide) lk_X7_joins_fieldLink_RX7_7_RaceWatchModel_w_I rfl dX7_joins_23 ?_
  refine lv_iload_n X.1.1 X.1.2.1 dX7_joins_26 rfl (lv_at hl 2 rfl) ?_
  refine lv_iload_n X.1.1 X.1.2.1 dX7_joins_27 rfl (lv_at hl 0 rfl) ?_
  refine sx_addN X (to) (by omega) dX7_joins_28 ?_
  refine sx_ald X hP h92 (by decide) (to) (by omega) (by decide) dX7_joins_29 ?_
  refine sx_join (P := fun z => W pp l ee rmX7_joins ss mm args below meth kc ss.heap [] 0 0 Q (F0 mm 52 ls (.int z :: .int (nI (to)) :: rf G 92 :: []))) ((w (fr)) ≤ (w (to))) (a := (w (to))) (b := (w (fr))) (fun ja jb => ?_) ?_
  · refine lv_icmp_le X.1.1 X.1.2.1 (tgt := 44) dX7_joins_30 (by decide) (fun c30 => ?_) (fun c30 => ?_)
    · refine lv_aload_n X.1.1 X.1.2.1 dX7_joins_44 rfl (lv_at hl 1 rfl) ?_
      refine sx_get X hP in_X7_joins_X7 h91 (by decide) rfl 0 (by decide) lk_X7_joins_fieldLink_RX7_7_RaceWatchModel_w_I rfl dX7_joins_45 ?_
      refine lv_iload_n X.1.1 X.1.2.1 dX7_joins_48 rfl (lv_at hl 2 rfl) ?_
      refine lv_iload_n X.1.1 X.1.2.1 dX7_joins_49 rfl (lv_at hl 0 rfl) ?_
      refine sx_addN X (to) (by omega) dX7_joins_50 ?_
      refine sx_ald X hP h92 (by decide) (to) (by omega) (by decide) dX7_joins_51 ?_
      exact ja c30
    · refine lv_aload_n X.1.1 X.1.2.1 dX7_joins_33 rfl (lv_at hl 1 rfl) ?_
      refine sx_get X hP in_X7_joins_X7 h91 (by decide) rfl 0 (by decide) lk_X7_joins_fieldLink_RX7_7_RaceWatchModel_w_I rfl dX7_joins_34 ?_
      refine lv_iload_n X.1.1 X.1.2.1 dX7_joins_37 rfl (lv_at hl 3 rfl) ?_
      refine lv_iload_n X.1.1 X.1.2.1 dX7_joins_38 rfl (lv_at hl 0 rfl) ?_
      refine sx_addN X (fr) (by omega) dX7_joins_39 ?_
      refine sx_ald X hP h92 (by decide) (fr) (by omega) (by decide) dX7_joins_40 ?_
      refine lv_goto (tgt := 52) X.1.1 X.1.2.1 dX7_joins_41 (by decide) ?_
      exact jb c30
  · refine sx_ast X hP h92 (by decide) (to) (by omega) (by decide) dX7_joins_52 (fun F1 H1 l1 e1 o1 hP => ?_)
    obtain ⟨w1, hw1⟩ : ∃ z, z = upd w (to) (if (w (fr)) ≤ (w (to)) then (w (to)) else (w (fr))) := ⟨_, rfl⟩
    rw [← hw1] at e1
    have h92 : F1 (92) = rI G (4358) (w1) := e1
    have h91 := (o1 (91) (by decide)).trans h91
    have hO : ∀ j, j ≠ 92 → F1 j = F j := fun j hj => (o1 j (by omega)).trans (hO j hj)
    refine lv_iinc (v := (nI (1))) (lv' := [(3, .int (nI 1)), (0, rf G 91), (1, .int (nI (to))), (2, .int (nI (fr)))]) X.1.1 X.1.2.1 dX7_joins_53 hl (k := 0) rfl (by decide) (by decide) rfl (fun ls hl => ?_)
    refine lv_goto (tgt := 2) X.1.1 X.1.2.1 dX7_joins_56 (by decide) ?_
    refine lv_iload_n X.1.1 X.1.2.1 dX7_joins_2 rfl (lv_at hl 0 rfl) ?_
    refine lv_iconst (v := nI 4) X.1.1 X.1.2.1 dX7_joins_3 (by decide) ?_
    refine sx_icmp_ge X (by decide) (by decide) (tgt := 59) dX7_joins_4 (by decide) (fun h => absurd h (by decide)) (fun _ => ?_)
    refine lv_aload_n X.1.1 X.1.2.1 dX7_joins_7 rfl (lv_at hl 1 rfl) ?_
    refine sx_get X hP in_X7_joins_X7 h91 (by decide) rfl 0 (by decide) lk_X7_joins_fieldLink_RX7_7_RaceWatchModel_w_I rfl dX7_joins_8 ?_
    refine lv_iload_n X.1.1 X.1.2.1 dX7_joins_11 rfl (lv_at hl 2 rfl) ?_
    refine lv_iload_n X.1.1 X.1.2.1 dX7_joins_12 rfl (lv_at hl 0 rfl) ?_
    refine sx_addN X (1 + to) (by omega) dX7_joins_13 ?_
    refine lv_aload_n X.1.1 X.1.2.1 dX7_joins_14 rfl (lv_at hl 1 rfl) ?_
    refine sx_get X hP in_X7_joins_X7 h91 (by decide) rfl 0 (by decide) lk_X7_joins_fieldLink_RX7_7_RaceWatchModel_w_I rfl dX7_joins_15 ?_
    refine lv_iload_n X.1.1 X.1.2.1 dX7_joins_18 rfl (lv_at hl 3 rfl) ?_
    refine lv_iload_n X.1.1 X.1.2.1 dX7_joins_19 rfl (lv_at hl 0 rfl) ?_
    refine sx_addN X (1 + fr) (by omega) dX7_joins_20 ?_
    refine sx_ald X hP h92 (by decide) (1 + fr) (by omega) (by decide) dX7_joins_21 ?_
    refine lv_aload_n X.1.1 X.1.2.1 dX7_joins_22 rfl (lv_at hl 1 rfl) ?_
    refine sx_get X hP in_X7_joins_X7 h91 (by decide) rfl 0 (by decide) lk_X7_joins_fieldLink_RX7_7_RaceWatchModel_w_I rfl dX7_joins_23 ?_
    refine lv_iload_n X.1.1 X.1.2.1 dX7_joins_26 rfl (lv_at hl 2 rfl) ?_
    refine lv_iload_n X.1.1 X.1.2.1 dX7_joins_27 rfl (lv_at hl 0 rfl) ?_
    refine sx_addN X (1 + to) (by omega) dX7_joins_28 ?_
    refine sx_ald X hP h92 (by decide) (1 + to) (by omega) (by decide) dX7_joins_29 ?_
    refine sx_join (P := fun z => W pp l ee rmX7_joins ss mm args below meth kc H1 l1 0 0 Q (F0 mm 52 ls (.int z :: .int (nI (1 + to)) :: rf G 92 :: []))) ((w1 (1 + fr)) ≤ (w1 (1 + to))) (a := (w1 (1 + to))) (b := (w1 (1 + fr))) (fun ja jb => ?_) ?_
    · refine lv_icmp_le X.1.1 X.1.2.1 (tgt := 44) dX7_joins_30 (by decide) (fun c30 => ?_) (fun c30 => ?_)
      · refine lv_aload_n X.1.1 X.1.2.1 dX7_joins_44 rfl (lv_at hl 1 rfl) ?_
        refine sx_get X hP in_X7_joins_X7 h91 (by decide) rfl 0 (by decide) lk_X7_joins_fieldLink_RX7_7_RaceWatchModel_w_I rfl dX7_joins_45 ?_
        refine lv_iload_n X.1.1 X.1.2.1 dX7_joins_48 rfl (lv_at hl 2 rfl) ?_
        refine lv_iload_n X.1.1 X.1.2.1 dX7_joins_49 rfl (lv_at hl 0 rfl) ?_
        refine sx_addN X (1 + to) (by omega) dX7_joins_50 ?_
        refine sx_ald X hP h92 (by decide) (1 + to) (by omega) (by decide) dX7_joins_51 ?_
        exact ja c30
      · refine lv_aload_n X.1.1 X.1.2.1 dX7_joins_33 rfl (lv_at hl 1 rfl) ?_
        refine sx_get X hP in_X7_joins_X7 h91 (by decide) rfl 0 (by decide) lk_X7_joins_fieldLink_RX7_7_RaceWatchModel_w_I rfl dX7_joins_34 ?_
        refine lv_iload_n X.1.1 X.1.2.1 dX7_joins_37 rfl (lv_at hl 3 rfl) ?_
        refine lv_iload_n X.1.1 X.1.2.1 dX7_joins_38 rfl (lv_at hl 0 rfl) ?_
        refine sx_addN X (1 + fr) (by omega) dX7_joins_39 ?_
        refine sx_ald X hP h92 (by decide) (1 + fr) (by omega) (by decide) dX7_joins_40 ?_
        refine lv_goto (tgt := 52) X.1.1 X.1.2.1 dX7_joins_41 (by decide) ?_
        exact jb c30
    · refine sx_ast X hP h92 (by decide) (1 + to) (by omega) (by decide) dX7_joins_52 (fun F2 H2 l2 e2 o2 hP => ?_)
      obtain ⟨w2, hw2⟩ : ∃ z, z = upd w1 (1 + to) (if (w1 (1 + fr)) ≤ (w1 (1 + to)) then (w1 (1 + to)) else (w1 (1 + fr))) := ⟨_, rfl⟩
      rw [← hw2] at e2
      have h92 : F2 (92) = rI G (4358) (w2) := e2
      have h91 := (o2 (91) (by decide)).trans h91
      have hO : ∀ j, j ≠ 92 → F2 j = F j := fun j hj => (o2 j (by omega)).trans (hO j hj)
      refine lv_iinc (v := (nI (2))) (lv' := [(3, .int (nI 2)), (0, rf G 91), (1, .int (nI (to))), (2, .int (nI (fr)))]) X.1.1 X.1.2.1 dX7_joins_53 hl (k := 0) rfl (by decide) (by decide) rfl (fun ls hl => ?_)
      refine lv_goto (tgt := 2) X.1.1 X.1.2.1 dX7_joins_56 (by decide) ?_
      refine lv_iload_n X.1.1 X.1.2.1 dX7_joins_2 rfl (lv_at hl 0 rfl) ?_
      refine lv_iconst (v := nI 4) X.1.1 X.1.2.1 dX7_joins_3 (by decide) ?_
      refine sx_icmp_ge X (by decide) (by decide) (tgt := 59) dX7_joins_4 (by decide) (fun h => absurd h (by decide)) (fun _ => ?_)
      refine lv_aload_n X.1.1 X.1.2.1 dX7_joins_7 rfl (lv_at hl 1 rfl) ?_
      refine sx_get X hP in_X7_joins_X7 h91 (by decide) rfl 0 (by decide) lk_X7_joins_fieldLink_RX7_7_RaceWatchModel_w_I rfl dX7_joins_8 ?_
      refine lv_iload_n X.1.1 X.1.2.1 dX7_joins_11 rfl (lv_at hl 2 rfl) ?_
      refine lv_iload_n X.1.1 X.1.2.1 dX7_joins_12 rfl (lv_at hl 0 rfl) ?_
      refine sx_addN X (2 + to) (by omega) dX7_joins_13 ?_
      refine lv_aload_n X.1.1 X.1.2.1 dX7_joins_14 rfl (lv_at hl 1 rfl) ?_
      refine sx_get X hP in_X7_joins_X7 h91 (by decide) rfl 0 (by decide) lk_X7_joins_fieldLink_RX7_7_RaceWatchModel_w_I rfl dX7_joins_15 ?_
      refine lv_iload_n X.1.1 X.1.2.1 dX7_joins_18 rfl (lv_at hl 3 rfl) ?_
      refine lv_iload_n X.1.1 X.1.2.1 dX7_joins_19 rfl (lv_at hl 0 rfl) ?_
      refine sx_addN X (2 + fr) (by omega) dX7_joins_20 ?_
      refine sx_ald X hP h92 (by decide) (2 + fr) (by omega) (by decide) dX7_joins_21 ?_
      refine lv_aload_n X.1.1 X.1.2.1 dX7_joins_22 rfl (lv_at hl 1 rfl) ?_
      refine sx_get X hP in_X7_joins_X7 h91 (by decide) rfl 0 (by decide) lk_X7_joins_fieldLink_RX7_7_RaceWatchModel_w_I rfl dX7_joins_23 ?_
      refine lv_iload_n X.1.1 X.1.2.1 dX7_joins_26 rfl (lv_at hl 2 rfl) ?_
      refine lv_iload_n X.1.1 X.1.2.1 dX7_joins_27 rfl (lv_at hl 0 rfl) ?_
      refine sx_addN X (2 + to) (by omega) dX7_joins_28 ?_
      refine sx_ald X hP h92 (by decide) (2 + to) (by omega) (by decide) dX7_joins_29 ?_
      refine sx_join (P := fun z => W pp l ee rmX7_joins ss mm args below meth kc H2 l2 0 0 Q (F0 mm 52 ls (.int z :: .int (nI (2 + to)) :: rf G 92 :: []))) ((w2 (2 + fr)) ≤ (w2 (2 + to))) (a := (w2 (2 + to))) (b := (w2 (2 + fr))) (fun ja jb => ?_) ?_
      · refine lv_icmp_le X.1.1 X.1.2.1 (tgt := 44) dX7_joins_30 (by decide) (fun c30 => ?_) (fun c30 => ?_)
        · refine lv_aload_n X.1.1 X.1.2.1 dX7_joins_44 rfl (lv_at hl 1 rfl) ?_
          refine sx_get X hP in_X7_joins_X7 h91 (by decide) rfl 0 (by decide) lk_X7_joins_fieldLink_RX7_7_RaceWatchModel_w_I rfl dX7_joins_45 ?_
          refine lv_iload_n X.1.1 X.1.2.1 dX7_joins_48 rfl (lv_at hl 2 rfl) ?_
          refine lv_iload_n X.1.1 X.1.2.1 dX7_joins_49 rfl (lv_at hl 0 rfl) ?_
          refine sx_addN X (2 + to) (by omega) dX7_joins_50 ?_
          refine sx_ald X hP h92 (by decide) (2 + to) (by omega) (by decide) dX7_joins_51 ?_
          exact ja c30
        · refine lv_aload_n X.1.1 X.1.2.1 dX7_joins_33 rfl (lv_at hl 1 rfl) ?_
          refine sx_get X hP in_X7_joins_X7 h91 (by decide) rfl 0 (by decide) lk_X7_joins_fieldLink_RX7_7_RaceWatchModel_w_I rfl dX7_joins_34 ?_
          refine lv_iload_n X.1.1 X.1.2.1 dX7_joins_37 rfl (lv_at hl 3 rfl) ?_
          refine lv_iload_n X.1.1 X.1.2.1 dX7_joins_38 rfl (lv_at hl 0 rfl) ?_
          refine sx_addN X (2 + fr) (by omega) dX7_joins_39 ?_
          refine sx_ald X hP h92 (by decide) (2 + fr) (by omega) (by decide) dX7_joins_40 ?_
          refine lv_goto (tgt := 52) X.1.1 X.1.2.1 dX7_joins_41 (by decide) ?_
          exact jb c30
      · refine sx_ast X hP h92 (by decide) (2 + to) (by omega) (by decide) dX7_joins_52 (fun F3 H3 l3 e3 o3 hP => ?_)
        obtain ⟨w3, hw3⟩ : ∃ z, z = upd w2 (2 + to) (if (w2 (2 + fr)) ≤ (w2 (2 + to)) then (w2 (2 + to)) else (w2 (2 + fr))) := ⟨_, rfl⟩
        rw [← hw3] at e3
        have h92 : F3 (92) = rI G (4358) (w3) := e3
        have h91 := (o3 (91) (by decide)).trans h91
        have hO : ∀ j, j ≠ 92 → F3 j = F j := fun j hj => (o3 j (by omega)).trans (hO j hj)
        refine lv_iinc (v := (nI (3))) (lv' := [(3, .int (nI 3)), (0, rf G 91), (1, .int (nI (to))), (2, .int (nI (fr)))]) X.1.1 X.1.2.1 dX7_joins_53 hl (k := 0) rfl (by decide) (by decide) rfl (fun ls hl => ?_)
        refine lv_goto (tgt := 2) X.1.1 X.1.2.1 dX7_joins_56 (by decide) ?_
        refine lv_iload_n X.1.1 X.1.2.1 dX7_joins_2 rfl (lv_at hl 0 rfl) ?_
        refine lv_iconst (v := nI 4) X.1.1 X.1.2.1 dX7_joins_3 (by decide) ?_
        refine sx_icmp_ge X (by decide) (by decide) (tgt := 59) dX7_joins_4 (by decide) (fun h => absurd h (by decide)) (fun _ => ?_)
        refine lv_aload_n X.1.1 X.1.2.1 dX7_joins_7 rfl (lv_at hl 1 rfl) ?_
        refine sx_get X hP in_X7_joins_X7 h91 (by decide) rfl 0 (by decide) lk_X7_joins_fieldLink_RX7_7_RaceWatchModel_w_I rfl dX7_joins_8 ?_
        refine lv_iload_n X.1.1 X.1.2.1 dX7_joins_11 rfl (lv_at hl 2 rfl) ?_
        refine lv_iload_n X.1.1 X.1.2.1 dX7_joins_12 rfl (lv_at hl 0 rfl) ?_
        refine sx_addN X (3 + to) (by omega) dX7_joins_13 ?_
        refine lv_aload_n X.1.1 X.1.2.1 dX7_joins_14 rfl (lv_at hl 1 rfl) ?_
        refine sx_get X hP in_X7_joins_X7 h91 (by decide) rfl 0 (by decide) lk_X7_joins_fieldLink_RX7_7_RaceWatchModel_w_I rfl dX7_joins_15 ?_
        refine lv_iload_n X.1.1 X.1.2.1 dX7_joins_18 rfl (lv_at hl 3 rfl) ?_
        refine lv_iload_n X.1.1 X.1.2.1 dX7_joins_19 rfl (lv_at hl 0 rfl) ?_
        refine sx_addN X (3 + fr) (by omega) dX7_joins_20 ?_
        refine sx_ald X hP h92 (by decide) (3 + fr) (by omega) (by decide) dX7_joins_21 ?_
        refine lv_aload_n X.1.1 X.1.2.1 dX7_joins_22 rfl (lv_at hl 1 rfl) ?_
        refine sx_get X hP in_X7_joins_X7 h91 (by decide) rfl 0 (by decide) lk_X7_joins_fieldLink_RX7_7_RaceWatchModel_w_I rfl dX7_joins_23 ?_
        refine lv_iload_n X.1.1 X.1.2.1 dX7_joins_26 rfl (lv_at hl 2 rfl) ?_
        refine lv_iload_n X.1.1 X.1.2.1 dX7_joins_27 rfl (lv_at hl 0 rfl) ?_
        refine sx_addN X (3 + to) (by omega) dX7_joins_28 ?_
        refine sx_ald X hP h92 (by decide) (3 + to) (by omega) (by decide) dX7_joins_29 ?_
        refine sx_join (P := fun z => W pp l ee rmX7_joins ss mm args below meth kc H3 l3 0 0 Q (F0 mm 52 ls (.int z :: .int (nI (3 + to)) :: rf G 92 :: []))) ((w3 (3 + fr)) ≤ (w3 (3 + to))) (a := (w3 (3 + to))) (b := (w3 (3 + fr))) (fun ja jb => ?_) ?_
        · refine lv_icmp_le X.1.1 X.1.2.1 (tgt := 44) dX7_joins_30 (by decide) (fun c30 => ?_) (fun c30 => ?_)
          · refine lv_aload_n X.1.1 X.1.2.1 dX7_joins_44 rfl (lv_at hl 1 rfl) ?_
            refine sx_get X hP in_X7_joins_X7 h91 (by decide) rfl 0 (by decide) lk_X7_joins_fieldLink_RX7_7_RaceWatchModel_w_I rfl dX7_joins_45 ?_
            refine lv_iload_n X.1.1 X.1.2.1 dX7_joins_48 rfl (lv_at hl 2 rfl) ?_
            refine lv_iload_n X.1.1 X.1.2.1 dX7_joins_49 rfl (lv_at hl 0 rfl) ?_
            refine sx_addN X (3 + to) (by omega) dX7_joins_50 ?_
            refine sx_ald X hP h92 (by decide) (3 + to) (by omega) (by decide) dX7_joins_51 ?_
            exact ja c30
          · refine lv_aload_n X.1.1 X.1.2.1 dX7_joins_33 rfl (lv_at hl 1 rfl) ?_
            refine sx_get X hP in_X7_joins_X7 h91 (by decide) rfl 0 (by decide) lk_X7_joins_fieldLink_RX7_7_RaceWatchModel_w_I rfl dX7_joins_34 ?_
            refine lv_iload_n X.1.1 X.1.2.1 dX7_joins_37 rfl (lv_at hl 3 rfl) ?_
            refine lv_iload_n X.1.1 X.1.2.1 dX7_joins_38 rfl (lv_at hl 0 rfl) ?_
            refine sx_addN X (3 + fr) (by omega) dX7_joins_39 ?_
            refine sx_ald X hP h92 (by decide) (3 + fr) (by omega) (by decide) dX7_joins_40 ?_
            refine lv_goto (tgt := 52) X.1.1 X.1.2.1 dX7_joins_41 (by decide) ?_
            exact jb c30
        · refine sx_ast X hP h92 (by decide) (3 + to) (by omega) (by decide) dX7_joins_52 (fun F4 H4 l4 e4 o4 hP => ?_)
          obtain ⟨w4, hw4⟩ : ∃ z, z = upd w3 (3 + to) (if (w3 (3 + fr)) ≤ (w3 (3 + to)) then (w3 (3 + to)) else (w3 (3 + fr))) := ⟨_, rfl⟩
          rw [← hw4] at e4
          have h92 : F4 (92) = rI G (4358) (w4) := e4
          have h91 := (o4 (91) (by decide)).trans h91
          have hO : ∀ j, j ≠ 92 → F4 j = F j := fun j hj => (o4 j (by omega)).trans (hO j hj)
          refine lv_iinc (v := (nI (4))) (lv' := [(3, .int (nI 4)), (0, rf G 91), (1, .int (nI (to))), (2, .int (nI (fr)))]) X.1.1 X.1.2.1 dX7_joins_53 hl (k := 0) rfl (by decide) (by decide) rfl (fun ls hl => ?_)
          refine lv_goto (tgt := 2) X.1.1 X.1.2.1 dX7_joins_56 (by decide) ?_
          refine lv_iload_n X.1.1 X.1.2.1 dX7_joins_2 rfl (lv_at hl 0 rfl) ?_
          refine lv_iconst (v := nI 4) X.1.1 X.1.2.1 dX7_joins_3 (by decide) ?_
          refine sx_icmp_ge X (by decide) (by decide) (tgt := 59) dX7_joins_4 (by decide) (fun _ => ?_) (fun h => absurd h (by decide))
          rw [hQ]
          exact sx_vret X rfl hs rfl hP dX7_joins_59 (⟨h92.trans (by rw [hw4, hw3, hw2, hw1]; rfl), hO⟩)
end
