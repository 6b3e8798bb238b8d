section
-- ===== PART A: goes FIRST, ahead of the names: the tables' words, and 'selects' of the private methods out of them =====
/-- a private method of a class that the tables say can be made, by its rows of tables_1 -/
def lw_okq (q : MethodName × Nat) : Prop := (q.1.cls ≠ "java/lang/invoke/MethodHandle" ∧ q.1.cls ≠ "java/lang/invoke/VarHandle") ∧ Cond.instantiable q.1.cls q.2 ∈ tables_1 ∧ Cond.privateMethod q.1 ∈ tables_1 ∧ Cond.instanceMethod q.1 ∈ tables_1
theorem lw_p0 : lw_okq (⟨"RaceWatch$Kept", "forgetReads", "()V"⟩, 10) := ⟨⟨by decide +kernel, by decide +kernel⟩, List.mem_of_getElem? (i := 46) (by decide +kernel), List.mem_of_getElem? (i := 154) (by decide +kernel), List.mem_of_getElem? (i := 155) (by decide +kernel)⟩
theorem lw_p1 : lw_okq (⟨"RaceWatch$Telling", "faultOfFigure", "(I)I"⟩, 11) := ⟨⟨by decide +kernel, by decide +kernel⟩, List.mem_of_getElem? (i := 194) (by decide +kernel), List.mem_of_getElem? (i := 293) (by decide +kernel), List.mem_of_getElem? (i := 294) (by decide +kernel)⟩
theorem lw_p2 : lw_okq (⟨"RaceWatch$Telling", "tellThread", "(ILRaceWatch$World;)I"⟩, 11) := ⟨⟨by decide +kernel, by decide +kernel⟩, List.mem_of_getElem? (i := 194) (by decide +kernel), List.mem_of_getElem? (i := 300) (by decide +kernel), List.mem_of_getElem? (i := 301) (by decide +kernel)⟩
theorem lw_p3 : lw_okq (⟨"RaceWatch$Telling", "open", "(I)V"⟩, 11) := ⟨⟨by decide +kernel, by decide +kernel⟩, List.mem_of_getElem? (i := 194) (by decide +kernel), List.mem_of_getElem? (i := 308) (by decide +kernel), List.mem_of_getElem? (i := 309) (by decide +kernel)⟩
theorem lw_p4 : lw_okq (⟨"RaceWatch$Telling", "tellEvent", "(ILRaceWatch$World;)I"⟩, 11) := ⟨⟨by decide +kernel, by decide +kernel⟩, List.mem_of_getElem? (i := 194) (by decide +kernel), List.mem_of_getElem? (i := 312) (by decide +kernel), List.mem_of_getElem? (i := 313) (by decide +kernel)⟩
theorem lw_p5 : lw_okq (⟨"RaceWatch$World", "locksOf", "(I)I"⟩, 7) := ⟨⟨by decide +kernel, by decide +kernel⟩, List.mem_of_getElem? (i := 21) (by decide +kernel), List.mem_of_getElem? (i := 325) (by decide +kernel), List.mem_of_getElem? (i := 326) (by decide +kernel)⟩
theorem lw_p6 : lw_okq (⟨"RaceWatch$World", "takeIn", "(III)V"⟩, 7) := ⟨⟨by decide +kernel, by decide +kernel⟩, List.mem_of_getElem? (i := 21) (by decide +kernel), List.mem_of_getElem? (i := 344) (by decide +kernel), List.mem_of_getElem? (i := 345) (by decide +kernel)⟩
theorem lw_p7 : lw_okq (⟨"RaceWatch$Log", "kindOfPair", "(II)I"⟩, 8) := ⟨⟨by decide +kernel, by decide +kernel⟩, List.mem_of_getElem? (i := 94) (by decide +kernel), List.mem_of_getElem? (i := 369) (by decide +kernel), List.mem_of_getElem? (i := 370) (by decide +kernel)⟩
theorem lw_p8 : lw_okq (⟨"RaceWatch$Log", "isAccess", "(I)Z"⟩, 8) := ⟨⟨by decide +kernel, by decide +kernel⟩, List.mem_of_getElem? (i := 94) (by decide +kernel), List.mem_of_getElem? (i := 373) (by decide +kernel), List.mem_of_getElem? (i := 374) (by decide +kernel)⟩
theorem lw_p9 : lw_okq (⟨"RaceWatch$Kept", "readsAreAhead", "(LRaceWatch$Clocks;I)Z"⟩, 10) := ⟨⟨by decide +kernel, by decide +kernel⟩, List.mem_of_getElem? (i := 46) (by decide +kernel), List.mem_of_getElem? (i := 391) (by decide +kernel), List.mem_of_getElem? (i := 392) (by decide +kernel)⟩
theorem lw_p10 : lw_okq (⟨"RaceWatch$Kept", "keepRead", "(LRaceWatch$Clocks;I)V"⟩, 10) := ⟨⟨by decide +kernel, by decide +kernel⟩, List.mem_of_getElem? (i := 46) (by decide +kernel), List.mem_of_getElem? (i := 395) (by decide +kernel), List.mem_of_getElem? (i := 396) (by decide +kernel)⟩
theorem lw_p11 : lw_okq (⟨"RaceWatch$Kept", "share", "(II)V"⟩, 10) := ⟨⟨by decide +kernel, by decide +kernel⟩, List.mem_of_getElem? (i := 46) (by decide +kernel), List.mem_of_getElem? (i := 399) (by decide +kernel), List.mem_of_getElem? (i := 400) (by decide +kernel)⟩
theorem lw_p12 : lw_okq (⟨"RaceWatch$World", "handOn", "(III)V"⟩, 7) := ⟨⟨by decide +kernel, by decide +kernel⟩, List.mem_of_getElem? (i := 21) (by decide +kernel), List.mem_of_getElem? (i := 403) (by decide +kernel), List.mem_of_getElem? (i := 404) (by decide +kernel)⟩
theorem lw_p13 : lw_okq (⟨"RaceWatch$World", "makeStep", "(I)V"⟩, 7) := ⟨⟨by decide +kernel, by decide +kernel⟩, List.mem_of_getElem? (i := 21) (by decide +kernel), List.mem_of_getElem? (i := 408) (by decide +kernel), List.mem_of_getElem? (i := 409) (by decide +kernel)⟩
theorem lw_p14 : lw_okq (⟨"RaceWatch$Telling", "shutLast", "(LRaceWatch$World;)V"⟩, 11) := ⟨⟨by decide +kernel, by decide +kernel⟩, List.mem_of_getElem? (i := 194) (by decide +kernel), List.mem_of_getElem? (i := 420) (by decide +kernel), List.mem_of_getElem? (i := 421) (by decide +kernel)⟩
theorem lw_p15 : lw_okq (⟨"RaceWatch$Telling", "tellSign", "(I)I"⟩, 11) := ⟨⟨by decide +kernel, by decide +kernel⟩, List.mem_of_getElem? (i := 194) (by decide +kernel), List.mem_of_getElem? (i := 424) (by decide +kernel), List.mem_of_getElem? (i := 425) (by decide +kernel)⟩
def lw_privs_1 : List (MethodName × Nat) := [(⟨"RaceWatch$Kept", "forgetReads", "()V"⟩, 10), (⟨"RaceWatch$Telling", "faultOfFigure", "(I)I"⟩, 11), (⟨"RaceWatch$Telling", "tellThread", "(ILRaceWatch$World;)I"⟩, 11), (⟨"RaceWatch$Telling", "open", "(I)V"⟩, 11), (⟨"RaceWatch$Telling", "tellEvent", "(ILRaceWatch$World;)I"⟩, 11), (⟨"RaceWatch$World", "locksOf", "(I)I"⟩, 7), (⟨"RaceWatch$World", "takeIn", "(III)V"⟩, 7), (⟨"RaceWatch$Log", "kindOfPair", "(II)I"⟩, 8), (⟨"RaceWatch$Log", "isAccess", "(I)Z"⟩, 8), (⟨"RaceWatch$Kept", "readsAreAhead", "(LRaceWatch$Clocks;I)Z"⟩, 10), (⟨"RaceWatch$Kept", "keepRead", "(LRaceWatch$Clocks;I)V"⟩, 10), (⟨"RaceWatch$Kept", "share", "(II)V"⟩, 10), (⟨"RaceWatch$World", "handOn", "(III)V"⟩, 7), (⟨"RaceWatch$World", "makeStep", "(I)V"⟩, 7), (⟨"RaceWatch$Telling", "shutLast", "(LRaceWatch$World;)V"⟩, 11), (⟨"RaceWatch$Telling", "tellSign", "(I)I"⟩, 11)]
theorem lw_r1 : ∀ q ∈ lw_privs_1, lw_okq q := List.forall_mem_cons.mpr ⟨lw_p0, List.forall_mem_cons.mpr ⟨lw_p1, List.forall_mem_cons.mpr ⟨lw_p2, List.forall_mem_cons.mpr ⟨lw_p3, List.forall_mem_cons.mpr ⟨lw_p4, List.forall_mem_cons.mpr ⟨lw_p5, List.forall_mem_cons.mpr ⟨lw_p6, List.forall_mem_cons.mpr ⟨lw_p7, List.forall_mem_cons.mpr ⟨lw_p8, List.forall_mem_cons.mpr ⟨lw_p9, List.forall_mem_cons.mpr ⟨lw_p10, List.forall_mem_cons.mpr ⟨lw_p11, List.forall_mem_cons.mpr ⟨lw_p12, List.forall_mem_cons.mpr ⟨lw_p13, List.forall_mem_cons.mpr ⟨lw_p14, List.forall_mem_cons.mpr ⟨lw_p15, fun _ h => absurd h List.not_mem_nil⟩⟩⟩⟩⟩⟩⟩⟩⟩⟩⟩⟩⟩⟩⟩⟩
theorem lw_p16 : lw_okq (⟨"RaceWatch", "refusalOf", "(III)I"⟩, 4) := ⟨⟨by decide +kernel, by decide +kernel⟩, List.mem_of_getElem? (i := 13) (by decide +kernel), List.mem_of_getElem? (i := 439) (by decide +kernel), List.mem_of_getElem? (i := 440) (by decide +kernel)⟩
theorem lw_p17 : lw_okq (⟨"RaceWatch$Log", "earlierOf", "(II)I"⟩, 8) := ⟨⟨by decide +kernel, by decide +kernel⟩, List.mem_of_getElem? (i := 94) (by decide +kernel), List.mem_of_getElem? (i := 540) (by decide +kernel), List.mem_of_getElem? (i := 541) (by decide +kernel)⟩
theorem lw_p18 : lw_okq (⟨"RaceWatchModel", "clear", "()V"⟩, 14) := ⟨⟨by decide +kernel, by decide +kernel⟩, List.mem_of_getElem? (i := 589) (by decide +kernel), List.mem_of_getElem? (i := 595) (by decide +kernel), List.mem_of_getElem? (i := 596) (by decide +kernel)⟩
theorem lw_p19 : lw_okq (⟨"RaceWatchModel", "can", "(III)Z"⟩, 14) := ⟨⟨by decide +kernel, by decide +kernel⟩, List.mem_of_getElem? (i := 589) (by decide +kernel), List.mem_of_getElem? (i := 676) (by decide +kernel), List.mem_of_getElem? (i := 677) (by decide +kernel)⟩
theorem lw_p20 : lw_okq (⟨"RaceWatchModel", "held", "(I)I"⟩, 14) := ⟨⟨by decide +kernel, by decide +kernel⟩, List.mem_of_getElem? (i := 589) (by decide +kernel), List.mem_of_getElem? (i := 680) (by decide +kernel), List.mem_of_getElem? (i := 681) (by decide +kernel)⟩
theorem lw_p21 : lw_okq (⟨"RaceWatchModel", "isMuch", "(I)Z"⟩, 14) := ⟨⟨by decide +kernel, by decide +kernel⟩, List.mem_of_getElem? (i := 589) (by decide +kernel), List.mem_of_getElem? (i := 689) (by decide +kernel), List.mem_of_getElem? (i := 690) (by decide +kernel)⟩
theorem lw_p22 : lw_okq (⟨"RaceWatchModel", "number", "(II)I"⟩, 14) := ⟨⟨by decide +kernel, by decide +kernel⟩, List.mem_of_getElem? (i := 589) (by decide +kernel), List.mem_of_getElem? (i := 693) (by decide +kernel), List.mem_of_getElem? (i := 694) (by decide +kernel)⟩
theorem lw_p23 : lw_okq (⟨"RaceWatchModel", "comes", "(III)V"⟩, 14) := ⟨⟨by decide +kernel, by decide +kernel⟩, List.mem_of_getElem? (i := 589) (by decide +kernel), List.mem_of_getElem? (i := 699) (by decide +kernel), List.mem_of_getElem? (i := 700) (by decide +kernel)⟩
theorem lw_p24 : lw_okq (⟨"RaceWatchModel", "accesses", "(IIZ)V"⟩, 14) := ⟨⟨by decide +kernel, by decide +kernel⟩, List.mem_of_getElem? (i := 589) (by decide +kernel), List.mem_of_getElem? (i := 703) (by decide +kernel), List.mem_of_getElem? (i := 704) (by decide +kernel)⟩
theorem lw_p25 : lw_okq (⟨"RaceWatchModel", "kindOf", "(IIZ)I"⟩, 14) := ⟨⟨by decide +kernel, by decide +kernel⟩, List.mem_of_getElem? (i := 589) (by decide +kernel), List.mem_of_getElem? (i := 707) (by decide +kernel), List.mem_of_getElem? (i := 708) (by decide +kernel)⟩
theorem lw_p26 : lw_okq (⟨"RaceWatchModel", "reads", "(II)V"⟩, 14) := ⟨⟨by decide +kernel, by decide +kernel⟩, List.mem_of_getElem? (i := 589) (by decide +kernel), List.mem_of_getElem? (i := 711) (by decide +kernel), List.mem_of_getElem? (i := 712) (by decide +kernel)⟩
theorem lw_p27 : lw_okq (⟨"RaceWatchModel", "joins", "(II)V"⟩, 14) := ⟨⟨by decide +kernel, by decide +kernel⟩, List.mem_of_getElem? (i := 589) (by decide +kernel), List.mem_of_getElem? (i := 715) (by decide +kernel), List.mem_of_getElem? (i := 716) (by decide +kernel)⟩
theorem lw_p28 : lw_okq (⟨"RaceWatchModel", "writes", "(III)V"⟩, 14) := ⟨⟨by decide +kernel, by decide +kernel⟩, List.mem_of_getElem? (i := 589) (by decide +kernel), List.mem_of_getElem? (i := 719) (by decide +kernel), List.mem_of_getElem? (i := 720) (by decide +kernel)⟩
theorem lw_p29 : lw_okq (⟨"RaceWatchModel", "steps", "(I)V"⟩, 14) := ⟨⟨by decide +kernel, by decide +kernel⟩, List.mem_of_getElem? (i := 589) (by decide +kernel), List.mem_of_getElem? (i := 723) (by decide +kernel), List.mem_of_getElem? (i := 724) (by decide +kernel)⟩
theorem lw_p30 : lw_okq (⟨"RaceWatchModel", "draw", "(I)I"⟩, 14) := ⟨⟨by decide +kernel, by decide +kernel⟩, List.mem_of_getElem? (i := 589) (by decide +kernel), List.mem_of_getElem? (i := 738) (by decide +kernel), List.mem_of_getElem? (i := 739) (by decide +kernel)⟩
theorem lw_p31 : lw_okq (⟨"RaceWatchModel", "here", "()I"⟩, 14) := ⟨⟨by decide +kernel, by decide +kernel⟩, List.mem_of_getElem? (i := 589) (by decide +kernel), List.mem_of_getElem? (i := 753) (by decide +kernel), List.mem_of_getElem? (i := 754) (by decide +kernel)⟩
def lw_privs_2 : List (MethodName × Nat) := [(⟨"RaceWatch", "refusalOf", "(III)I"⟩, 4), (⟨"RaceWatch$Log", "earlierOf", "(II)I"⟩, 8), (⟨"RaceWatchModel", "clear", "()V"⟩, 14), (⟨"RaceWatchModel", "can", "(III)Z"⟩, 14), (⟨"RaceWatchModel", "held", "(I)I"⟩, 14), (⟨"RaceWatchModel", "isMuch", "(I)Z"⟩, 14), (⟨"RaceWatchModel", "number", "(II)I"⟩, 14), (⟨"RaceWatchModel", "comes", "(III)V"⟩, 14), (⟨"RaceWatchModel", "accesses", "(IIZ)V"⟩, 14), (⟨"RaceWatchModel", "kindOf", "(IIZ)I"⟩, 14), (⟨"RaceWatchModel", "reads", "(II)V"⟩, 14), (⟨"RaceWatchModel", "joins", "(II)V"⟩, 14), (⟨"RaceWatchModel", "writes", "(III)V"⟩, 14), (⟨"RaceWatchModel", "steps", "(I)V"⟩, 14), (⟨"RaceWatchModel", "draw", "(I)I"⟩, 14), (⟨"RaceWatchModel", "here", "()I"⟩, 14)]
theorem lw_r2 : ∀ q ∈ lw_privs_2, lw_okq q := List.forall_mem_cons.mpr ⟨lw_p16, List.forall_mem_cons.mpr ⟨lw_p17, List.forall_mem_cons.mpr ⟨lw_p18, List.forall_mem_cons.mpr ⟨lw_p19, List.forall_mem_cons.mpr ⟨lw_p20, List.forall_mem_cons.mpr ⟨lw_p21, List.forall_mem_cons.mpr ⟨lw_p22, List.forall_mem_cons.mpr ⟨lw_p23, List.forall_mem_cons.mpr ⟨lw_p24, List.forall_mem_cons.mpr ⟨lw_p25, List.forall_mem_cons.mpr ⟨lw_p26, List.forall_mem_cons.mpr ⟨lw_p27, List.forall_mem_cons.mpr ⟨lw_p28, List.forall_mem_cons.mpr ⟨lw_p29, List.forall_mem_cons.mpr ⟨lw_p30, List.forall_mem_cons.mpr ⟨lw_p31, fun _ h => absurd h List.not_mem_nil⟩⟩⟩⟩⟩⟩⟩⟩⟩⟩⟩⟩⟩⟩⟩⟩
theorem lw_p32 : lw_okq (⟨"RaceWatchModel", "takesItem", "(I)Z"⟩, 14) := ⟨⟨by decide +kernel, by decide +kernel⟩, List.mem_of_getElem? (i := 589) (by decide +kernel), List.mem_of_getElem? (i := 757) (by decide +kernel), List.mem_of_getElem? (i := 758) (by decide +kernel)⟩
theorem lw_p33 : lw_okq (⟨"RaceWatchModel", "takesEnd", "()Z"⟩, 14) := ⟨⟨by decide +kernel, by decide +kernel⟩, List.mem_of_getElem? (i := 589) (by decide +kernel), List.mem_of_getElem? (i := 761) (by decide +kernel), List.mem_of_getElem? (i := 762) (by decide +kernel)⟩
theorem lw_p34 : lw_okq (⟨"RaceWatchModel", "fails", "(I)Z"⟩, 14) := ⟨⟨by decide +kernel, by decide +kernel⟩, List.mem_of_getElem? (i := 589) (by decide +kernel), List.mem_of_getElem? (i := 765) (by decide +kernel), List.mem_of_getElem? (i := 766) (by decide +kernel)⟩
theorem lw_p35 : lw_okq (⟨"RaceWatchModel", "shuts", "()V"⟩, 14) := ⟨⟨by decide +kernel, by decide +kernel⟩, List.mem_of_getElem? (i := 589) (by decide +kernel), List.mem_of_getElem? (i := 769) (by decide +kernel), List.mem_of_getElem? (i := 770) (by decide +kernel)⟩
theorem lw_p36 : lw_okq (⟨"RaceWatchModel", "notes", "(II)V"⟩, 14) := ⟨⟨by decide +kernel, by decide +kernel⟩, List.mem_of_getElem? (i := 589) (by decide +kernel), List.mem_of_getElem? (i := 773) (by decide +kernel), List.mem_of_getElem? (i := 774) (by decide +kernel)⟩
theorem lw_p37 : lw_okq (⟨"RaceWatchModel", "takesRegion", "()Z"⟩, 14) := ⟨⟨by decide +kernel, by decide +kernel⟩, List.mem_of_getElem? (i := 589) (by decide +kernel), List.mem_of_getElem? (i := 780) (by decide +kernel), List.mem_of_getElem? (i := 781) (by decide +kernel)⟩
theorem lw_p38 : lw_okq (⟨"RaceWatchModel", "takesFigure", "(I)Z"⟩, 14) := ⟨⟨by decide +kernel, by decide +kernel⟩, List.mem_of_getElem? (i := 589) (by decide +kernel), List.mem_of_getElem? (i := 784) (by decide +kernel), List.mem_of_getElem? (i := 785) (by decide +kernel)⟩
theorem lw_p39 : lw_okq (⟨"RaceWatchModel", "did", "(I)Z"⟩, 14) := ⟨⟨by decide +kernel, by decide +kernel⟩, List.mem_of_getElem? (i := 589) (by decide +kernel), List.mem_of_getElem? (i := 790) (by decide +kernel), List.mem_of_getElem? (i := 791) (by decide +kernel)⟩
theorem lw_p40 : lw_okq (⟨"RaceWatchModel", "opens", "(II)V"⟩, 14) := ⟨⟨by decide +kernel, by decide +kernel⟩, List.mem_of_getElem? (i := 589) (by decide +kernel), List.mem_of_getElem? (i := 794) (by decide +kernel), List.mem_of_getElem? (i := 795) (by decide +kernel)⟩
theorem lw_p41 : lw_okq (⟨"RaceWatchModel", "takes", "(I)Z"⟩, 14) := ⟨⟨by decide +kernel, by decide +kernel⟩, List.mem_of_getElem? (i := 589) (by decide +kernel), List.mem_of_getElem? (i := 798) (by decide +kernel), List.mem_of_getElem? (i := 799) (by decide +kernel)⟩
theorem lw_p42 : lw_okq (⟨"RaceWatchModel", "takesTurn", "()Z"⟩, 14) := ⟨⟨by decide +kernel, by decide +kernel⟩, List.mem_of_getElem? (i := 589) (by decide +kernel), List.mem_of_getElem? (i := 802) (by decide +kernel), List.mem_of_getElem? (i := 803) (by decide +kernel)⟩
theorem lw_p43 : lw_okq (⟨"RaceWatchModel", "whoIs", "(I)I"⟩, 14) := ⟨⟨by decide +kernel, by decide +kernel⟩, List.mem_of_getElem? (i := 589) (by decide +kernel), List.mem_of_getElem? (i := 814) (by decide +kernel), List.mem_of_getElem? (i := 815) (by decide +kernel)⟩
theorem lw_p44 : lw_okq (⟨"RaceWatchModel", "locksHeld", "()I"⟩, 14) := ⟨⟨by decide +kernel, by decide +kernel⟩, List.mem_of_getElem? (i := 589) (by decide +kernel), List.mem_of_getElem? (i := 818) (by decide +kernel), List.mem_of_getElem? (i := 819) (by decide +kernel)⟩
theorem lw_p45 : lw_okq (⟨"RaceWatchModel", "cellsRaced", "()I"⟩, 14) := ⟨⟨by decide +kernel, by decide +kernel⟩, List.mem_of_getElem? (i := 589) (by decide +kernel), List.mem_of_getElem? (i := 822) (by decide +kernel), List.mem_of_getElem? (i := 823) (by decide +kernel)⟩
theorem lw_p46 : lw_okq (⟨"RaceWatchModel", "racesOf", "(II)I"⟩, 14) := ⟨⟨by decide +kernel, by decide +kernel⟩, List.mem_of_getElem? (i := 589) (by decide +kernel), List.mem_of_getElem? (i := 826) (by decide +kernel), List.mem_of_getElem? (i := 827) (by decide +kernel)⟩
theorem lw_p47 : lw_okq (⟨"RaceWatchModel", "isAccess", "(II)Z"⟩, 14) := ⟨⟨by decide +kernel, by decide +kernel⟩, List.mem_of_getElem? (i := 589) (by decide +kernel), List.mem_of_getElem? (i := 830) (by decide +kernel), List.mem_of_getElem? (i := 831) (by decide +kernel)⟩
def lw_privs_3 : List (MethodName × Nat) := [(⟨"RaceWatchModel", "takesItem", "(I)Z"⟩, 14), (⟨"RaceWatchModel", "takesEnd", "()Z"⟩, 14), (⟨"RaceWatchModel", "fails", "(I)Z"⟩, 14), (⟨"RaceWatchModel", "shuts", "()V"⟩, 14), (⟨"RaceWatchModel", "notes", "(II)V"⟩, 14), (⟨"RaceWatchModel", "takesRegion", "()Z"⟩, 14), (⟨"RaceWatchModel", "takesFigure", "(I)Z"⟩, 14), (⟨"RaceWatchModel", "did", "(I)Z"⟩, 14), (⟨"RaceWatchModel", "opens", "(II)V"⟩, 14), (⟨"RaceWatchModel", "takes", "(I)Z"⟩, 14), (⟨"RaceWatchModel", "takesTurn", "()Z"⟩, 14), (⟨"RaceWatchModel", "whoIs", "(I)I"⟩, 14), (⟨"RaceWatchModel", "locksHeld", "()I"⟩, 14), (⟨"RaceWatchModel", "cellsRaced", "()I"⟩, 14), (⟨"RaceWatchModel", "racesOf", "(II)I"⟩, 14), (⟨"RaceWatchModel", "isAccess", "(II)Z"⟩, 14)]
theorem lw_r3 : ∀ q ∈ lw_privs_3, lw_okq q := List.forall_mem_cons.mpr ⟨lw_p32, List.forall_mem_cons.mpr ⟨lw_p33, List.forall_mem_cons.mpr ⟨lw_p34, List.forall_mem_cons.mpr ⟨lw_p35, List.forall_mem_cons.mpr ⟨lw_p36, List.forall_mem_cons.mpr ⟨lw_p37, List.forall_mem_cons.mpr ⟨lw_p38, List.forall_mem_cons.mpr ⟨lw_p39, List.forall_mem_cons.mpr ⟨lw_p40, List.forall_mem_cons.mpr ⟨lw_p41, List.forall_mem_cons.mpr ⟨lw_p42, List.forall_mem_cons.mpr ⟨lw_p43, List.forall_mem_cons.mpr ⟨lw_p44, List.forall_mem_cons.mpr ⟨lw_p45, List.forall_mem_cons.mpr ⟨lw_p46, List.forall_mem_cons.mpr ⟨lw_p47, fun _ h => absurd h List.not_mem_nil⟩⟩⟩⟩⟩⟩⟩⟩⟩⟩⟩⟩⟩⟩⟩⟩
theorem lw_p48 : lw_okq (⟨"RaceWatchModel", "kindBy", "(III)I"⟩, 14) := ⟨⟨by decide +kernel, by decide +kernel⟩, List.mem_of_getElem? (i := 589) (by decide +kernel), List.mem_of_getElem? (i := 834) (by decide +kernel), List.mem_of_getElem? (i := 835) (by decide +kernel)⟩
theorem lw_p49 : lw_okq (⟨"RaceWatchModel", "isAhead", "(II)Z"⟩, 14) := ⟨⟨by decide +kernel, by decide +kernel⟩, List.mem_of_getElem? (i := 589) (by decide +kernel), List.mem_of_getElem? (i := 838) (by decide +kernel), List.mem_of_getElem? (i := 839) (by decide +kernel)⟩
theorem lw_p50 : lw_okq (⟨"RaceWatchModel", "overCells", "(Z)I"⟩, 14) := ⟨⟨by decide +kernel, by decide +kernel⟩, List.mem_of_getElem? (i := 589) (by decide +kernel), List.mem_of_getElem? (i := 842) (by decide +kernel), List.mem_of_getElem? (i := 843) (by decide +kernel)⟩
theorem lw_p51 : lw_okq (⟨"RaceWatchModel", "isEvent", "(I)Z"⟩, 14) := ⟨⟨by decide +kernel, by decide +kernel⟩, List.mem_of_getElem? (i := 589) (by decide +kernel), List.mem_of_getElem? (i := 854) (by decide +kernel), List.mem_of_getElem? (i := 855) (by decide +kernel)⟩
def lw_privs_4 : List (MethodName × Nat) := [(⟨"RaceWatchModel", "kindBy", "(III)I"⟩, 14), (⟨"RaceWatchModel", "isAhead", "(II)Z"⟩, 14), (⟨"RaceWatchModel", "overCells", "(Z)I"⟩, 14), (⟨"RaceWatchModel", "isEvent", "(I)Z"⟩, 14)]
theorem lw_r4 : ∀ q ∈ lw_privs_4, lw_okq q := List.forall_mem_cons.mpr ⟨lw_p48, List.forall_mem_cons.mpr ⟨lw_p49, List.forall_mem_cons.mpr ⟨lw_p50, List.forall_mem_cons.mpr ⟨lw_p51, fun _ h => absurd h List.not_mem_nil⟩⟩⟩⟩
def lw_privs : List (MethodName × Nat) := lw_privs_1 ++ (lw_privs_2 ++ (lw_privs_3 ++ (lw_privs_4)))
def lw_tbl : List Cond := k2_sels lw_privs ++ tables_1
theorem lw_privs_ok : ∀ q ∈ lw_privs, lw_okq q := by
  show ∀ q ∈ lw_privs_1 ++ (lw_privs_2 ++ (lw_privs_3 ++ (lw_privs_4))), lw_okq q
  exact List.forall_mem_append.mpr ⟨lw_r1, List.forall_mem_append.mpr ⟨lw_r2, List.forall_mem_append.mpr ⟨lw_r3, lw_r4⟩⟩⟩
end
section
/-! ===== BEGIN words of one list among another's, by their places ===== -/
theorem goodIn_r {big : List Cond} (ws : List Cond) (ps : List Nat) (hp : ws = ps.filterMap (fun i => big[i]?)) (h : ws.all goodWord = true) : GoodIn big ws := by
  intro w hw
  have h1 := List.all_eq_true.mp h w hw
  rw [hp] at hw
  obtain ⟨i, -, hi⟩ := List.mem_filterMap.mp hw
  have hm : w ∈ big := by first | exact List.mem_of_getElem? hi | exact List.getElem?_mem hi
  exact ⟨hm, good_of_word h1⟩
theorem goodIn_app {big a b : List Cond} (ha : GoodIn big a) (hb : GoodIn big b) : GoodIn big (a ++ b) := fun w h => (List.mem_append.mp h).elim (ha w) (hb w)
theorem goodIn_ca {big a b : List Cond} {c : Cond} (ha : GoodIn big (c :: a)) (hb : GoodIn big b) : GoodIn big (c :: (a ++ b)) := fun w h => (List.mem_cons.mp h).elim (fun e => ha w (List.mem_cons.mpr (Or.inl e))) (fun h => (List.mem_append.mp h).elim (fun h => ha w (List.mem_cons.mpr (Or.inr h))) (hb w))
theorem goodIn_sub {big ws : List Cond} (hm : ∀ w ∈ ws, w ∈ big) (h : ws.all goodWord = true) : GoodIn big ws := fun w hw => ⟨hm w hw, good_of_word (List.all_eq_true.mp h w hw)⟩
/-! ===== END ===== -/

/-! ===== BEGIN printed: names, fields, word lists, decode rows ===== -/
def RX0 : String := "RaceWatch$Book"
def TX0 : u_T := fun k => match k with
  | 0 => ("RaceWatch$Book", "count", "I", false)
  | 1 => ("RaceWatch$Book", "locks", "[I", true)
  | _ => ("RaceWatch$Book", "opened", "[I", true)
def tyX0 : Nat → FieldType := fun k => match k with
  | 0 => .int
  | 1 => .array .int
  | _ => .array .int
abbrev wsX00 : List Cond := u_ws RX0 TX0 3
theorem nmX0 : ∀ a, a < 3 → ∀ b, b < 3 → a ≠ b → (TX0 a).2.1 ≠ (TX0 b).2.1 := by decide +kernel
theorem tyX0_ok : ∀ k, k < 3 → parseFieldDescriptor (TX0 k).2.2.1 = some (tyX0 k) := by decide +kernel
abbrev cX0_init : ByteArray := prog_2_method_1_code
def yX0_init : MethodName := ⟨RX0, "<init>", "()V"⟩
abbrev cX0_enter : ByteArray := prog_2_method_2_code
def yX0_enter : MethodName := ⟨RX0, "enter", "(II)V"⟩
def RX1 : String := "RaceWatch$Clocks"
def TX1 : u_T := fun k => match k with
  | 0 => ("RaceWatch$Clocks", "rows", "I", true)
  | _ => ("RaceWatch$Clocks", "numbers", "[I", true)
def tyX1 : Nat → FieldType := fun k => match k with
  | 0 => .int
  | _ => .array .int
abbrev wsX10 : List Cond := u_ws RX1 TX1 2
theorem nmX1 : ∀ a, a < 2 → ∀ b, b < 2 → a ≠ b → (TX1 a).2.1 ≠ (TX1 b).2.1 := by decide +kernel
theorem tyX1_ok : ∀ k, k < 2 → parseFieldDescriptor (TX1 k).2.2.1 = some (tyX1 k) := by decide +kernel
abbrev cX1_init : ByteArray := prog_3_method_1_code
def yX1_init : MethodName := ⟨RX1, "<init>", "(I)V"⟩
abbrev cX1_number : ByteArray := prog_3_method_2_code
def yX1_number : MethodName := ⟨RX1, "number", "(II)I"⟩
abbrev cX1_set : ByteArray := prog_3_method_3_code
def yX1_set : MethodName := ⟨RX1, "set", "(III)V"⟩
abbrev cX1_join : ByteArray := prog_3_method_4_code
def yX1_join : MethodName := ⟨RX1, "join", "(ILRaceWatch$Clocks;I)V"⟩
abbrev cX1_copyRow : ByteArray := prog_3_method_5_code
def yX1_copyRow : MethodName := ⟨RX1, "copyRow", "(ILRaceWatch$Clocks;I)V"⟩
abbrev cX1_copyRows : ByteArray := prog_3_method_6_code
def yX1_copyRows : MethodName := ⟨RX1, "copyRows", "(LRaceWatch$Clocks;I)V"⟩
abbrev cX1_clear : ByteArray := prog_3_method_7_code
def yX1_clear : MethodName := ⟨RX1, "clear", "()V"⟩
def RX2 : String := "RaceWatch$Kept"
def TX2 : u_T := fun k => match k with
  | 0 => ("RaceWatch$Kept", "writer", "I", false)
  | 1 => ("RaceWatch$Kept", "writeNumber", "I", false)
  | 2 => ("RaceWatch$Kept", "reader", "I", false)
  | 3 => ("RaceWatch$Kept", "readNumber", "I", false)
  | 4 => ("RaceWatch$Kept", "isShared", "Z", false)
  | 5 => ("RaceWatch$Kept", "readNumbers", "[I", true)
  | 6 => ("RaceWatch$Kept", "promotions", "I", false)
  | 7 => ("RaceWatch$Kept", "firstEvent", "I", false)
  | 8 => ("RaceWatch$Kept", "firstKind", "I", false)
  | _ => ("RaceWatch$Kept", "guards", "I", false)
def tyX2 : Nat → FieldType := fun k => match k with
  | 0 => .int
  | 1 => .int
  | 2 => .int
  | 3 => .int
  | 4 => .boolean
  | 5 => .array .int
  | 6 => .int
  | 7 => .int
  | 8 => .int
  | _ => .int
abbrev wsX20 : List Cond := u_ws RX2 TX2 10
theorem nmX2 : ∀ a, a < 10 → ∀ b, b < 10 → a ≠ b → (TX2 a).2.1 ≠ (TX2 b).2.1 := by decide +kernel
theorem tyX2_ok : ∀ k, k < 10 → parseFieldDescriptor (TX2 k).2.2.1 = some (tyX2 k) := by decide +kernel
abbrev cX2_init : ByteArray := prog_4_method_1_code
def yX2_init : MethodName := ⟨RX2, "<init>", "()V"⟩
abbrev cX2_begin : ByteArray := prog_4_method_2_code
def yX2_begin : MethodName := ⟨RX2, "begin", "()V"⟩
abbrev cX2_copy : ByteArray := prog_4_method_3_code
def yX2_copy : MethodName := ⟨RX2, "copy", "(LRaceWatch$Kept;)V"⟩
abbrev cX2_kindOf : ByteArray := prog_4_method_4_code
def yX2_kindOf : MethodName := ⟨RX2, "kindOf", "(ZLRaceWatch$Clocks;I)I"⟩
abbrev cX2_access : ByteArray := prog_4_method_5_code
def yX2_access : MethodName := ⟨RX2, "access", "(ZLRaceWatch$Clocks;III)V"⟩
abbrev cX2_readsAreAhead : ByteArray := prog_4_method_6_code
def yX2_readsAreAhead : MethodName := ⟨RX2, "readsAreAhead", "(LRaceWatch$Clocks;I)Z"⟩
abbrev cX2_keepRead : ByteArray := prog_4_method_7_code
def yX2_keepRead : MethodName := ⟨RX2, "keepRead", "(LRaceWatch$Clocks;I)V"⟩
abbrev cX2_share : ByteArray := prog_4_method_8_code
def yX2_share : MethodName := ⟨RX2, "share", "(II)V"⟩
abbrev cX2_forgetReads : ByteArray := prog_4_method_9_code
def yX2_forgetReads : MethodName := ⟨RX2, "forgetReads", "()V"⟩
def RX3 : String := "RaceWatch$Log"
def TX3 : u_T := fun k => match k with
  | 0 => ("RaceWatch$Log", "count", "I", false)
  | 1 => ("RaceWatch$Log", "threads", "[I", true)
  | 2 => ("RaceWatch$Log", "sorts", "[I", true)
  | 3 => ("RaceWatch$Log", "withs", "[I", true)
  | 4 => ("RaceWatch$Log", "locks", "[I", true)
  | 5 => ("RaceWatch$Log", "clocks", "LRaceWatch$Clocks;", true)
  | 6 => ("RaceWatch$Log", "racesBehind", "[I", true)
  | _ => ("RaceWatch$Log", "raceCounts", "[I", true)
def tyX3 : Nat → FieldType := fun k => match k with
  | 0 => .int
  | 1 => .array .int
  | 2 => .array .int
  | 3 => .array .int
  | 4 => .array .int
  | 5 => .object "RaceWatch$Clocks"
  | 6 => .array .int
  | _ => .array .int
abbrev wsX30 : List Cond := u_ws RX3 TX3 8
theorem nmX3 : ∀ a, a < 8 → ∀ b, b < 8 → a ≠ b → (TX3 a).2.1 ≠ (TX3 b).2.1 := by decide +kernel
theorem tyX3_ok : ∀ k, k < 8 → parseFieldDescriptor (TX3 k).2.2.1 = some (tyX3 k) := by decide +kernel
abbrev cX3_init : ByteArray := prog_5_method_1_code
def yX3_init : MethodName := ⟨RX3, "<init>", "()V"⟩
abbrev cX3_begin : ByteArray := prog_5_method_2_code
def yX3_begin : MethodName := ⟨RX3, "begin", "()V"⟩
abbrev cX3_copy : ByteArray := prog_5_method_3_code
def yX3_copy : MethodName := ⟨RX3, "copy", "(LRaceWatch$Log;)V"⟩
abbrev cX3_hasRoom : ByteArray := prog_5_method_4_code
def yX3_hasRoom : MethodName := ⟨RX3, "hasRoom", "(I)Z"⟩
abbrev cX3_append : ByteArray := prog_5_method_5_code
def yX3_append : MethodName := ⟨RX3, "append", "(IIIILRaceWatch$Clocks;)I"⟩
abbrev cX3_isAhead : ByteArray := prog_5_method_6_code
def yX3_isAhead : MethodName := ⟨RX3, "isAhead", "(II)Z"⟩
abbrev cX3_racesOfCell : ByteArray := prog_5_method_7_code
def yX3_racesOfCell : MethodName := ⟨RX3, "racesOfCell", "(I)I"⟩
abbrev cX3_racesOfAll : ByteArray := prog_5_method_8_code
def yX3_racesOfAll : MethodName := ⟨RX3, "racesOfAll", "()I"⟩
abbrev cX3_cellsWithRace : ByteArray := prog_5_method_9_code
def yX3_cellsWithRace : MethodName := ⟨RX3, "cellsWithRace", "()I"⟩
abbrev cX3_partOfRace : ByteArray := prog_5_method_10_code
def yX3_partOfRace : MethodName := ⟨RX3, "partOfRace", "(III)I"⟩
abbrev cX3_earlierOf : ByteArray := prog_5_method_11_code
def yX3_earlierOf : MethodName := ⟨RX3, "earlierOf", "(II)I"⟩
abbrev cX3_countRaces : ByteArray := prog_5_method_12_code
def yX3_countRaces : MethodName := ⟨RX3, "countRaces", "(I)V"⟩
abbrev cX3_isAccess : ByteArray := prog_5_method_13_code
def yX3_isAccess : MethodName := ⟨RX3, "isAccess", "(I)Z"⟩
abbrev cX3_kindOfPair : ByteArray := prog_5_method_14_code
def yX3_kindOfPair : MethodName := ⟨RX3, "kindOfPair", "(II)I"⟩
def RX4 : String := "RaceWatch$Telling"
def TX4 : u_T := fun k => match k with
  | 0 => ("RaceWatch$Telling", "length", "I", false)
  | 1 => ("RaceWatch$Telling", "faultAt", "I", false)
  | 2 => ("RaceWatch$Telling", "book", "LRaceWatch$Book;", true)
  | 3 => ("RaceWatch$Telling", "letters", "[I", true)
  | 4 => ("RaceWatch$Telling", "due", "I", false)
  | 5 => ("RaceWatch$Telling", "item", "I", false)
  | 6 => ("RaceWatch$Telling", "threadAtIt", "I", false)
  | 7 => ("RaceWatch$Telling", "openRegions", "I", false)
  | 8 => ("RaceWatch$Telling", "depth", "I", false)
  | 9 => ("RaceWatch$Telling", "lockOf", "[I", true)
  | _ => ("RaceWatch$Telling", "threadBefore", "[I", true)
def tyX4 : Nat → FieldType := fun k => match k with
  | 0 => .int
  | 1 => .int
  | 2 => .object "RaceWatch$Book"
  | 3 => .array .int
  | 4 => .int
  | 5 => .int
  | 6 => .int
  | 7 => .int
  | 8 => .int
  | 9 => .array .int
  | _ => .array .int
abbrev wsX40 : List Cond := u_ws RX4 TX4 11
theorem nmX4 : ∀ a, a < 11 → ∀ b, b < 11 → a ≠ b → (TX4 a).2.1 ≠ (TX4 b).2.1 := by decide +kernel
theorem tyX4_ok : ∀ k, k < 11 → parseFieldDescriptor (TX4 k).2.2.1 = some (tyX4 k) := by decide +kernel
abbrev cX4_init : ByteArray := prog_6_method_1_code
def yX4_init : MethodName := ⟨RX4, "<init>", "()V"⟩
abbrev cX4_append : ByteArray := prog_6_method_2_code
def yX4_append : MethodName := ⟨RX4, "append", "(I)I"⟩
abbrev cX4_tell : ByteArray := prog_6_method_3_code
def yX4_tell : MethodName := ⟨RX4, "tell", "(LRaceWatch$World;)I"⟩
abbrev cX4_faultOfFigure : ByteArray := prog_6_method_4_code
def yX4_faultOfFigure : MethodName := ⟨RX4, "faultOfFigure", "(I)I"⟩
abbrev cX4_tellSign : ByteArray := prog_6_method_5_code
def yX4_tellSign : MethodName := ⟨RX4, "tellSign", "(I)I"⟩
abbrev cX4_tellThread : ByteArray := prog_6_method_6_code
def yX4_tellThread : MethodName := ⟨RX4, "tellThread", "(ILRaceWatch$World;)I"⟩
abbrev cX4_tellEvent : ByteArray := prog_6_method_7_code
def yX4_tellEvent : MethodName := ⟨RX4, "tellEvent", "(ILRaceWatch$World;)I"⟩
abbrev cX4_open : ByteArray := prog_6_method_8_code
def yX4_open : MethodName := ⟨RX4, "open", "(I)V"⟩
abbrev cX4_shutLast : ByteArray := prog_6_method_9_code
def yX4_shutLast : MethodName := ⟨RX4, "shutLast", "(LRaceWatch$World;)V"⟩
abbrev cX4_itemOf : ByteArray := prog_6_method_10_code
def yX4_itemOf : MethodName := ⟨RX4, "itemOf", "(I)I"⟩
def RX5 : String := "RaceWatch$World"
def TX5 : u_T := fun k => match k with
  | 0 => ("RaceWatch$World", "states", "[I", true)
  | 1 => ("RaceWatch$World", "holders", "[I", true)
  | 2 => ("RaceWatch$World", "ofThreads", "LRaceWatch$Clocks;", true)
  | 3 => ("RaceWatch$World", "ofLocks", "LRaceWatch$Clocks;", true)
  | 4 => ("RaceWatch$World", "ofSeenCells", "LRaceWatch$Clocks;", true)
  | 5 => ("RaceWatch$World", "cells", "[LRaceWatch$Kept;", true)
  | _ => ("RaceWatch$World", "log", "LRaceWatch$Log;", true)
def tyX5 : Nat → FieldType := fun k => match k with
  | 0 => .array .int
  | 1 => .array .int
  | 2 => .object "RaceWatch$Clocks"
  | 3 => .object "RaceWatch$Clocks"
  | 4 => .object "RaceWatch$Clocks"
  | 5 => .array (.object "RaceWatch$Kept")
  | _ => .object "RaceWatch$Log"
abbrev wsX50 : List Cond := u_ws RX5 TX5 7
theorem nmX5 : ∀ a, a < 7 → ∀ b, b < 7 → a ≠ b → (TX5 a).2.1 ≠ (TX5 b).2.1 := by decide +kernel
theorem tyX5_ok : ∀ k, k < 7 → parseFieldDescriptor (TX5 k).2.2.1 = some (tyX5 k) := by decide +kernel
abbrev cX5_init : ByteArray := prog_7_method_1_code
def yX5_init : MethodName := ⟨RX5, "<init>", "()V"⟩
abbrev cX5_begin : ByteArray := prog_7_method_2_code
def yX5_begin : MethodName := ⟨RX5, "begin", "()V"⟩
abbrev cX5_copy : ByteArray := prog_7_method_3_code
def yX5_copy : MethodName := ⟨RX5, "copy", "(LRaceWatch$World;)V"⟩
abbrev cX5_goes : ByteArray := prog_7_method_4_code
def yX5_goes : MethodName := ⟨RX5, "goes", "(I)Z"⟩
abbrev cX5_threadsThat : ByteArray := prog_7_method_5_code
def yX5_threadsThat : MethodName := ⟨RX5, "threadsThat", "(I)I"⟩
abbrev cX5_heldLocks : ByteArray := prog_7_method_6_code
def yX5_heldLocks : MethodName := ⟨RX5, "heldLocks", "()I"⟩
abbrev cX5_promotionsOfAll : ByteArray := prog_7_method_7_code
def yX5_promotionsOfAll : MethodName := ⟨RX5, "promotionsOfAll", "()I"⟩
abbrev cX5_canBe : ByteArray := prog_7_method_8_code
def yX5_canBe : MethodName := ⟨RX5, "canBe", "(III)Z"⟩
abbrev cX5_stepIsMuch : ByteArray := prog_7_method_9_code
def yX5_stepIsMuch : MethodName := ⟨RX5, "stepIsMuch", "(II)Z"⟩
abbrev cX5_come : ByteArray := prog_7_method_10_code
def yX5_come : MethodName := ⟨RX5, "come", "(III)I"⟩
abbrev cX5_takeIn : ByteArray := prog_7_method_11_code
def yX5_takeIn : MethodName := ⟨RX5, "takeIn", "(III)V"⟩
abbrev cX5_handOn : ByteArray := prog_7_method_12_code
def yX5_handOn : MethodName := ⟨RX5, "handOn", "(III)V"⟩
abbrev cX5_makeStep : ByteArray := prog_7_method_13_code
def yX5_makeStep : MethodName := ⟨RX5, "makeStep", "(I)V"⟩
abbrev cX5_locksOf : ByteArray := prog_7_method_14_code
def yX5_locksOf : MethodName := ⟨RX5, "locksOf", "(I)I"⟩
def RX6 : String := "RaceWatch"
def TX6 : u_T := fun k => match k with
  | 0 => ("RaceWatch", "world", "LRaceWatch$World;", true)
  | 1 => ("RaceWatch", "images", "[LRaceWatch$World;", true)
  | 2 => ("RaceWatch", "isKept", "[Z", true)
  | _ => ("RaceWatch", "telling", "LRaceWatch$Telling;", true)
def tyX6 : Nat → FieldType := fun k => match k with
  | 0 => .object "RaceWatch$World"
  | 1 => .array (.object "RaceWatch$World")
  | 2 => .array .boolean
  | _ => .object "RaceWatch$Telling"
abbrev wsX60 : List Cond := u_ws RX6 TX6 4
theorem nmX6 : ∀ a, a < 4 → ∀ b, b < 4 → a ≠ b → (TX6 a).2.1 ≠ (TX6 b).2.1 := by decide +kernel
theorem tyX6_ok : ∀ k, k < 4 → parseFieldDescriptor (TX6 k).2.2.1 = some (tyX6 k) := by decide +kernel
abbrev cX6_init : ByteArray := prog_1_method_1_code
def yX6_init : MethodName := ⟨RX6, "<init>", "()V"⟩
abbrev cX6_anew : ByteArray := prog_1_method_2_code
def yX6_anew : MethodName := ⟨RX6, "anew", "()I"⟩
abbrev cX6_feed : ByteArray := prog_1_method_3_code
def yX6_feed : MethodName := ⟨RX6, "feed", "(I)I"⟩
abbrev cX6_run : ByteArray := prog_1_method_4_code
def yX6_run : MethodName := ⟨RX6, "run", "()I"⟩
abbrev cX6_fault : ByteArray := prog_1_method_5_code
def yX6_fault : MethodName := ⟨RX6, "fault", "()I"⟩
abbrev cX6_event : ByteArray := prog_1_method_6_code
def yX6_event : MethodName := ⟨RX6, "event", "(III)I"⟩
abbrev cX6_jump : ByteArray := prog_1_method_7_code
def yX6_jump : MethodName := ⟨RX6, "jump", "(II)I"⟩
abbrev cX6_drift : ByteArray := prog_1_method_8_code
def yX6_drift : MethodName := ⟨RX6, "drift", "(II)I"⟩
abbrev cX6_told : ByteArray := prog_1_method_9_code
def yX6_told : MethodName := ⟨RX6, "told", "(I)I"⟩
abbrev cX6_clock : ByteArray := prog_1_method_10_code
def yX6_clock : MethodName := ⟨RX6, "clock", "(III)I"⟩
abbrev cX6_eventOf : ByteArray := prog_1_method_11_code
def yX6_eventOf : MethodName := ⟨RX6, "eventOf", "(II)I"⟩
abbrev cX6_holder : ByteArray := prog_1_method_12_code
def yX6_holder : MethodName := ⟨RX6, "holder", "(I)I"⟩
abbrev cX6_journal : ByteArray := prog_1_method_13_code
def yX6_journal : MethodName := ⟨RX6, "journal", "(II)I"⟩
abbrev cX6_ahead : ByteArray := prog_1_method_14_code
def yX6_ahead : MethodName := ⟨RX6, "ahead", "(II)I"⟩
abbrev cX6_races : ByteArray := prog_1_method_15_code
def yX6_races : MethodName := ⟨RX6, "races", "(II)I"⟩
abbrev cX6_race : ByteArray := prog_1_method_16_code
def yX6_race : MethodName := ⟨RX6, "race", "(III)I"⟩
abbrev cX6_cell : ByteArray := prog_1_method_17_code
def yX6_cell : MethodName := ⟨RX6, "cell", "(II)I"⟩
abbrev cX6_shared : ByteArray := prog_1_method_18_code
def yX6_shared : MethodName := ⟨RX6, "shared", "(II)I"⟩
abbrev cX6_would : ByteArray := prog_1_method_19_code
def yX6_would : MethodName := ⟨RX6, "would", "(IIZ)I"⟩
abbrev cX6_guard : ByteArray := prog_1_method_20_code
def yX6_guard : MethodName := ⟨RX6, "guard", "(I)I"⟩
abbrev cX6_keep : ByteArray := prog_1_method_21_code
def yX6_keep : MethodName := ⟨RX6, "keep", "(I)I"⟩
abbrev cX6_goBack : ByteArray := prog_1_method_22_code
def yX6_goBack : MethodName := ⟨RX6, "goBack", "(I)I"⟩
abbrev cX6_refusalOf : ByteArray := prog_1_method_23_code
def yX6_refusalOf : MethodName := ⟨RX6, "refusalOf", "(III)I"⟩
abbrev cX6_isIn : ByteArray := prog_1_method_24_code
def yX6_isIn : MethodName := ⟨RX6, "isIn", "(II)Z"⟩
abbrev cX6_isItself : ByteArray := prog_1_method_25_code
def yX6_isItself : MethodName := ⟨RX6, "isItself", "(III)Z"⟩
abbrev cX6_boundOf : ByteArray := prog_1_method_26_code
def yX6_boundOf : MethodName := ⟨RX6, "boundOf", "(I)I"⟩
abbrev cX6_lotBehind : ByteArray := prog_1_method_27_code
def yX6_lotBehind : MethodName := ⟨RX6, "lotBehind", "(J)J"⟩
def RX7 : String := "RaceWatchModel"
def TX7 : u_T := fun k => match k with
  | 0 => ("RaceWatchModel", "w", "[I", true)
  | 1 => ("RaceWatchModel", "isKept", "[Z", true)
  | 2 => ("RaceWatchModel", "entries", "I", false)
  | 3 => ("RaceWatchModel", "journals", "[I", true)
  | 4 => ("RaceWatchModel", "x", "J", false)
  | 5 => ("RaceWatchModel", "at", "I", false)
  | 6 => ("RaceWatchModel", "figure", "I", false)
  | 7 => ("RaceWatchModel", "fault", "I", false)
  | 8 => ("RaceWatchModel", "faultAt", "I", false)
  | 9 => ("RaceWatchModel", "who", "I", false)
  | 10 => ("RaceWatchModel", "open", "I", false)
  | 11 => ("RaceWatchModel", "regions", "I", false)
  | 12 => ("RaceWatchModel", "openLock", "[I", true)
  | _ => ("RaceWatchModel", "openThread", "[I", true)
def tyX7 : Nat → FieldType := fun k => match k with
  | 0 => .array .int
  | 1 => .array .boolean
  | 2 => .int
  | 3 => .array .int
  | 4 => .long
  | 5 => .int
  | 6 => .int
  | 7 => .int
  | 8 => .int
  | 9 => .int
  | 10 => .int
  | 11 => .int
  | 12 => .array .int
  | _ => .array .int
abbrev wsX70 : List Cond := u_ws RX7 TX7 14
theorem nmX7 : ∀ a, a < 14 → ∀ b, b < 14 → a ≠ b → (TX7 a).2.1 ≠ (TX7 b).2.1 := by decide +kernel
theorem tyX7_ok : ∀ k, k < 14 → parseFieldDescriptor (TX7 k).2.2.1 = some (tyX7 k) := by decide +kernel
abbrev cX7_init : ByteArray := prog_9_method_1_code
def yX7_init : MethodName := ⟨RX7, "<init>", "()V"⟩
abbrev cX7_in : ByteArray := prog_9_method_3_code
def yX7_in : MethodName := ⟨RX7, "in", "(JJJ)Z"⟩
abbrev cX7_isThread : ByteArray := prog_9_method_4_code
def yX7_isThread : MethodName := ⟨RX7, "isThread", "(I)Z"⟩
abbrev cX7_isLock : ByteArray := prog_9_method_5_code
def yX7_isLock : MethodName := ⟨RX7, "isLock", "(I)Z"⟩
abbrev cX7_isCell : ByteArray := prog_9_method_6_code
def yX7_isCell : MethodName := ⟨RX7, "isCell", "(I)Z"⟩
abbrev cX7_isSeen : ByteArray := prog_9_method_7_code
def yX7_isSeen : MethodName := ⟨RX7, "isSeen", "(I)Z"⟩
abbrev cX7_clear : ByteArray := prog_9_method_8_code
def yX7_clear : MethodName := ⟨RX7, "clear", "()V"⟩
abbrev cX7_of : ByteArray := prog_9_method_9_code
def yX7_of : MethodName := ⟨RX7, "of", "(I)I"⟩
abbrev cX7_anew : ByteArray := prog_9_method_10_code
def yX7_anew : MethodName := ⟨RX7, "anew", "()I"⟩
abbrev cX7_held : ByteArray := prog_9_method_11_code
def yX7_held : MethodName := ⟨RX7, "held", "(I)I"⟩
abbrev cX7_number : ByteArray := prog_9_method_12_code
def yX7_number : MethodName := ⟨RX7, "number", "(II)I"⟩
abbrev cX7_joins : ByteArray := prog_9_method_13_code
def yX7_joins : MethodName := ⟨RX7, "joins", "(II)V"⟩
abbrev cX7_isMuch : ByteArray := prog_9_method_14_code
def yX7_isMuch : MethodName := ⟨RX7, "isMuch", "(I)Z"⟩
abbrev cX7_steps : ByteArray := prog_9_method_15_code
def yX7_steps : MethodName := ⟨RX7, "steps", "(I)V"⟩
abbrev cX7_isWith : ByteArray := prog_9_method_16_code
def yX7_isWith : MethodName := ⟨RX7, "isWith", "(III)Z"⟩
abbrev cX7_can : ByteArray := prog_9_method_17_code
def yX7_can : MethodName := ⟨RX7, "can", "(III)Z"⟩
abbrev cX7_hasStep : ByteArray := prog_9_method_18_code
def yX7_hasStep : MethodName := ⟨RX7, "hasStep", "(I)Z"⟩
abbrev cX7_writes : ByteArray := prog_9_method_19_code
def yX7_writes : MethodName := ⟨RX7, "writes", "(III)V"⟩
abbrev cX7_kindOf : ByteArray := prog_9_method_20_code
def yX7_kindOf : MethodName := ⟨RX7, "kindOf", "(IIZ)I"⟩
abbrev cX7_accesses : ByteArray := prog_9_method_21_code
def yX7_accesses : MethodName := ⟨RX7, "accesses", "(IIZ)V"⟩
abbrev cX7_reads : ByteArray := prog_9_method_22_code
def yX7_reads : MethodName := ⟨RX7, "reads", "(II)V"⟩
abbrev cX7_comes : ByteArray := prog_9_method_23_code
def yX7_comes : MethodName := ⟨RX7, "comes", "(III)V"⟩
abbrev cX7_event : ByteArray := prog_9_method_24_code
def yX7_event : MethodName := ⟨RX7, "event", "(III)I"⟩
abbrev cX7_jump : ByteArray := prog_9_method_25_code
def yX7_jump : MethodName := ⟨RX7, "jump", "(II)I"⟩
abbrev cX7_draw : ByteArray := prog_9_method_26_code
def yX7_draw : MethodName := ⟨RX7, "draw", "(I)I"⟩
abbrev cX7_drift : ByteArray := prog_9_method_27_code
def yX7_drift : MethodName := ⟨RX7, "drift", "(II)I"⟩
abbrev cX7_feed : ByteArray := prog_9_method_28_code
def yX7_feed : MethodName := ⟨RX7, "feed", "(I)I"⟩
abbrev cX7_notes : ByteArray := prog_9_method_29_code
def yX7_notes : MethodName := ⟨RX7, "notes", "(II)V"⟩
abbrev cX7_here : ByteArray := prog_9_method_30_code
def yX7_here : MethodName := ⟨RX7, "here", "()I"⟩
abbrev cX7_fails : ByteArray := prog_9_method_31_code
def yX7_fails : MethodName := ⟨RX7, "fails", "(I)Z"⟩
abbrev cX7_takesFigure : ByteArray := prog_9_method_32_code
def yX7_takesFigure : MethodName := ⟨RX7, "takesFigure", "(I)Z"⟩
abbrev cX7_takes : ByteArray := prog_9_method_33_code
def yX7_takes : MethodName := ⟨RX7, "takes", "(I)Z"⟩
abbrev cX7_did : ByteArray := prog_9_method_34_code
def yX7_did : MethodName := ⟨RX7, "did", "(I)Z"⟩
abbrev cX7_opens : ByteArray := prog_9_method_35_code
def yX7_opens : MethodName := ⟨RX7, "opens", "(II)V"⟩
abbrev cX7_shuts : ByteArray := prog_9_method_36_code
def yX7_shuts : MethodName := ⟨RX7, "shuts", "()V"⟩
abbrev cX7_takesRegion : ByteArray := prog_9_method_37_code
def yX7_takesRegion : MethodName := ⟨RX7, "takesRegion", "()Z"⟩
abbrev cX7_takesTurn : ByteArray := prog_9_method_38_code
def yX7_takesTurn : MethodName := ⟨RX7, "takesTurn", "()Z"⟩
abbrev cX7_takesEnd : ByteArray := prog_9_method_39_code
def yX7_takesEnd : MethodName := ⟨RX7, "takesEnd", "()Z"⟩
abbrev cX7_sortOf : ByteArray := prog_9_method_40_code
def yX7_sortOf : MethodName := ⟨RX7, "sortOf", "(I)I"⟩
abbrev cX7_takesItem : ByteArray := prog_9_method_41_code
def yX7_takesItem : MethodName := ⟨RX7, "takesItem", "(I)Z"⟩
abbrev cX7_run : ByteArray := prog_9_method_42_code
def yX7_run : MethodName := ⟨RX7, "run", "()I"⟩
abbrev cX7_fault : ByteArray := prog_9_method_43_code
def yX7_fault : MethodName := ⟨RX7, "fault", "()I"⟩
abbrev cX7_whoIs : ByteArray := prog_9_method_44_code
def yX7_whoIs : MethodName := ⟨RX7, "whoIs", "(I)I"⟩
abbrev cX7_locksHeld : ByteArray := prog_9_method_45_code
def yX7_locksHeld : MethodName := ⟨RX7, "locksHeld", "()I"⟩
abbrev cX7_cellsRaced : ByteArray := prog_9_method_46_code
def yX7_cellsRaced : MethodName := ⟨RX7, "cellsRaced", "()I"⟩
abbrev cX7_overCells : ByteArray := prog_9_method_47_code
def yX7_overCells : MethodName := ⟨RX7, "overCells", "(Z)I"⟩
abbrev cX7_told : ByteArray := prog_9_method_48_code
def yX7_told : MethodName := ⟨RX7, "told", "(I)I"⟩
abbrev cX7_clock : ByteArray := prog_9_method_49_code
def yX7_clock : MethodName := ⟨RX7, "clock", "(III)I"⟩
abbrev cX7_isEvent : ByteArray := prog_9_method_50_code
def yX7_isEvent : MethodName := ⟨RX7, "isEvent", "(I)Z"⟩
abbrev cX7_eventOf : ByteArray := prog_9_method_51_code
def yX7_eventOf : MethodName := ⟨RX7, "eventOf", "(II)I"⟩
abbrev cX7_holder : ByteArray := prog_9_method_52_code
def yX7_holder : MethodName := ⟨RX7, "holder", "(I)I"⟩
abbrev cX7_journal : ByteArray := prog_9_method_53_code
def yX7_journal : MethodName := ⟨RX7, "journal", "(II)I"⟩
abbrev cX7_isAhead : ByteArray := prog_9_method_54_code
def yX7_isAhead : MethodName := ⟨RX7, "isAhead", "(II)Z"⟩
abbrev cX7_ahead : ByteArray := prog_9_method_55_code
def yX7_ahead : MethodName := ⟨RX7, "ahead", "(II)I"⟩
abbrev cX7_isAccess : ByteArray := prog_9_method_56_code
def yX7_isAccess : MethodName := ⟨RX7, "isAccess", "(II)Z"⟩
abbrev cX7_kindBy : ByteArray := prog_9_method_57_code
def yX7_kindBy : MethodName := ⟨RX7, "kindBy", "(III)I"⟩
abbrev cX7_racesOf : ByteArray := prog_9_method_58_code
def yX7_racesOf : MethodName := ⟨RX7, "racesOf", "(II)I"⟩
abbrev cX7_races : ByteArray := prog_9_method_59_code
def yX7_races : MethodName := ⟨RX7, "races", "(II)I"⟩
abbrev cX7_race : ByteArray := prog_9_method_60_code
def yX7_race : MethodName := ⟨RX7, "race", "(III)I"⟩
abbrev cX7_cell : ByteArray := prog_9_method_61_code
def yX7_cell : MethodName := ⟨RX7, "cell", "(II)I"⟩
abbrev cX7_shared : ByteArray := prog_9_method_62_code
def yX7_shared : MethodName := ⟨RX7, "shared", "(II)I"⟩
abbrev cX7_would : ByteArray := prog_9_method_63_code
def yX7_would : MethodName := ⟨RX7, "would", "(IIZ)I"⟩
abbrev cX7_guard : ByteArray := prog_9_method_64_code
def yX7_guard : MethodName := ⟨RX7, "guard", "(I)I"⟩
abbrev cX7_keep : ByteArray := prog_9_method_65_code
def yX7_keep : MethodName := ⟨RX7, "keep", "(I)I"⟩
abbrev cX7_goBack : ByteArray := prog_9_method_66_code
def yX7_goBack : MethodName := ⟨RX7, "goBack", "(I)I"⟩
def RJ9 : String := "java/lang/Math"
def TJ9 : u_T := fun k => match k with
  | _ => ("", "", "", false)
def tyJ9 : Nat → FieldType := fun k => match k with
  | _ => .int
abbrev wsJ90 : List Cond := u_ws RJ9 TJ9 0
theorem nmJ9 : ∀ a, a < 0 → ∀ b, b < 0 → a ≠ b → (TJ9 a).2.1 ≠ (TJ9 b).2.1 := by decide +kernel
theorem tyJ9_ok : ∀ k, k < 0 → parseFieldDescriptor (TJ9 k).2.2.1 = some (tyJ9 k) := by decide +kernel
abbrev cJ9_max_7cf53 : ByteArray := prog_10_method_65_code
def yJ9_max_7cf53 : MethodName := ⟨RJ9, "max", "(II)I"⟩
abbrev cJ9_min_7cf53 : ByteArray := prog_10_method_69_code
def yJ9_min_7cf53 : MethodName := ⟨RJ9, "min", "(II)I"⟩
def RJ10 : String := "java/lang/System"
def TJ10 : u_T := fun k => match k with
  | _ => ("", "", "", false)
def tyJ10 : Nat → FieldType := fun k => match k with
  | _ => .int
abbrev wsJ100 : List Cond := u_ws RJ10 TJ10 0
theorem nmJ10 : ∀ a, a < 0 → ∀ b, b < 0 → a ≠ b → (TJ10 a).2.1 ≠ (TJ10 b).2.1 := by decide +kernel
theorem tyJ10_ok : ∀ k, k < 0 → parseFieldDescriptor (TJ10 k).2.2.1 = some (tyJ10 k) := by decide +kernel
def RJ7 : String := "java/util/Arrays"
def TJ7 : u_T := fun k => match k with
  | _ => ("", "", "", false)
def tyJ7 : Nat → FieldType := fun k => match k with
  | _ => .int
abbrev wsJ70 : List Cond := u_ws RJ7 TJ7 0
theorem nmJ7 : ∀ a, a < 0 → ∀ b, b < 0 → a ≠ b → (TJ7 a).2.1 ≠ (TJ7 b).2.1 := by decide +kernel
theorem tyJ7_ok : ∀ k, k < 0 → parseFieldDescriptor (TJ7 k).2.2.1 = some (tyJ7 k) := by decide +kernel
abbrev cJ7_fill_53178 : ByteArray := prog_12_method_103_code
def yJ7_fill_53178 : MethodName := ⟨RJ7, "fill", "([II)V"⟩
def RL : String := "RaceWatchLaw"
abbrev cL_law : ByteArray := code
def yL_law : MethodName := ⟨RL, "law", "([I)Z"⟩
def wsX0_init : List Cond := .code yX0_init cX0_init 1 none :: ([.methodLink RX0 3 objectInit, .instanceMethod objectInit, .code objectInit ⟨#[0xb1]⟩ 1 none, .arrayClass .int, .fieldLink RX0 9 "RaceWatch$Book" "locks" "[I", .fieldLink RX0 15 "RaceWatch$Book" "opened" "[I"] ++ wsX00)
def wsX0_enter : List Cond := .code yX0_enter cX0_enter 3 none :: ([.fieldLink RX0 9 "RaceWatch$Book" "locks" "[I", .methodLink RX0 18 arraycopyName, .native arraycopyName, .static arraycopyName, .initialized "java/lang/System", .fieldLink RX0 15 "RaceWatch$Book" "opened" "[I", .fieldLink RX0 24 "RaceWatch$Book" "count" "I", .methodLink RX0 28 Lib.Math.min.name, .static Lib.Math.min.name, .initialized "java/lang/Math", .code Lib.Math.min.name Lib.Math.min.code 2 (some .int)] ++ wsX00)
def wsX1_init : List Cond := .code yX1_init cX1_init 2 none :: ([.methodLink RX1 3 objectInit, .instanceMethod objectInit, .code objectInit ⟨#[0xb1]⟩ 1 none, .methodLink RX1 9 Lib.Math.max.name, .static Lib.Math.max.name, .initialized "java/lang/Math", .code Lib.Math.max.name Lib.Math.max.code 2 (some .int), .fieldLink RX1 15 "RaceWatch$Clocks" "rows" "I", .arrayClass .int, .fieldLink RX1 21 "RaceWatch$Clocks" "numbers" "[I"] ++ wsX10)
def wsX1_number : List Cond := .code yX1_number cX1_number 3 (some .int) :: ([.fieldLink RX1 21 "RaceWatch$Clocks" "numbers" "[I"] ++ wsX10)
def wsX1_set : List Cond := .code yX1_set cX1_set 4 none :: ([.fieldLink RX1 21 "RaceWatch$Clocks" "numbers" "[I"] ++ wsX10)
def wsX1_join : List Cond := .code yX1_join cX1_join 5 none :: ([.methodLink RX1 9 Lib.Math.max.name, .static Lib.Math.max.name, .initialized "java/lang/Math", .code Lib.Math.max.name Lib.Math.max.code 2 (some .int), .methodLink RX1 25 yX1_number, .instanceMethod yX1_number, .selects RX1 yX1_number yX1_number, .initialized RX1, .code yX1_number cX1_number 3 (some .int), .fieldLink RX1 21 "RaceWatch$Clocks" "numbers" "[I", .methodLink RX1 28 yX1_set, .instanceMethod yX1_set, .selects RX1 yX1_set yX1_set, .code yX1_set cX1_set 4 none] ++ wsX10)
def wsX1_copyRow : List Cond := .code yX1_copyRow cX1_copyRow 4 none :: ([.fieldLink RX1 21 "RaceWatch$Clocks" "numbers" "[I", .methodLink RX1 32 arraycopyName, .native arraycopyName, .static arraycopyName, .initialized "java/lang/System"] ++ wsX10)
def wsX1_copyRows : List Cond := .code yX1_copyRows cX1_copyRows 3 none :: ([.fieldLink RX1 21 "RaceWatch$Clocks" "numbers" "[I", .methodLink RX1 32 arraycopyName, .native arraycopyName, .static arraycopyName, .initialized "java/lang/System"] ++ wsX10)
def wsJ7_fill_53178 : List Cond := .code yJ7_fill_53178 cJ7_fill_53178 4 none :: ([])
def wsX1_clear : List Cond := .code yX1_clear cX1_clear 1 none :: ([.fieldLink RX1 21 "RaceWatch$Clocks" "numbers" "[I", .methodLink RX1 38 yJ7_fill_53178, .static yJ7_fill_53178, .initialized RJ7, .code yJ7_fill_53178 cJ7_fill_53178 4 none] ++ wsX10)
def wsX2_init : List Cond := .code yX2_init cX2_init 1 none :: ([.methodLink RX2 3 objectInit, .instanceMethod objectInit, .code objectInit ⟨#[0xb1]⟩ 1 none, .arrayClass .int, .fieldLink RX2 9 "RaceWatch$Kept" "readNumbers" "[I"] ++ wsX20)
def wsX2_forgetReads : List Cond := .code yX2_forgetReads cX2_forgetReads 1 none :: ([.fieldLink RX2 37 "RaceWatch$Kept" "reader" "I", .fieldLink RX2 40 "RaceWatch$Kept" "readNumber" "I", .fieldLink RX2 43 "RaceWatch$Kept" "isShared" "Z", .fieldLink RX2 9 "RaceWatch$Kept" "readNumbers" "[I", .methodLink RX2 75 yJ7_fill_53178, .static yJ7_fill_53178, .initialized RJ7, .code yJ7_fill_53178 cJ7_fill_53178 4 none] ++ wsX20)
def wsX2_begin : List Cond := .code yX2_begin cX2_begin 1 none :: ([.fieldLink RX2 15 "RaceWatch$Kept" "writer" "I", .fieldLink RX2 19 "RaceWatch$Kept" "writeNumber" "I", .fieldLink RX2 25 "RaceWatch$Kept" "promotions" "I", .fieldLink RX2 28 "RaceWatch$Kept" "firstEvent" "I", .fieldLink RX2 31 "RaceWatch$Kept" "firstKind" "I", .fieldLink RX2 34 "RaceWatch$Kept" "guards" "I", .methodLink RX2 22 yX2_forgetReads, .instanceMethod yX2_forgetReads, .selects RX2 yX2_forgetReads yX2_forgetReads, .initialized RX2, .code yX2_forgetReads cX2_forgetReads 1 none, .fieldLink RX2 37 "RaceWatch$Kept" "reader" "I", .fieldLink RX2 40 "RaceWatch$Kept" "readNumber" "I", .fieldLink RX2 43 "RaceWatch$Kept" "isShared" "Z", .fieldLink RX2 9 "RaceWatch$Kept" "readNumbers" "[I", .methodLink RX2 75 yJ7_fill_53178, .static yJ7_fill_53178, .initialized RJ7, .code yJ7_fill_53178 cJ7_fill_53178 4 none] ++ wsX20)
def wsX2_copy : List Cond := .code yX2_copy cX2_copy 2 none :: ([.fieldLink RX2 15 "RaceWatch$Kept" "writer" "I", .fieldLink RX2 19 "RaceWatch$Kept" "writeNumber" "I", .fieldLink RX2 37 "RaceWatch$Kept" "reader" "I", .fieldLink RX2 40 "RaceWatch$Kept" "readNumber" "I", .fieldLink RX2 43 "RaceWatch$Kept" "isShared" "Z", .fieldLink RX2 9 "RaceWatch$Kept" "readNumbers" "[I", .methodLink RX2 47 arraycopyName, .native arraycopyName, .static arraycopyName, .initialized "java/lang/System", .fieldLink RX2 25 "RaceWatch$Kept" "promotions" "I", .fieldLink RX2 28 "RaceWatch$Kept" "firstEvent" "I", .fieldLink RX2 31 "RaceWatch$Kept" "firstKind" "I", .fieldLink RX2 34 "RaceWatch$Kept" "guards" "I"] ++ wsX20)
def wsX2_readsAreAhead : List Cond := .code yX2_readsAreAhead cX2_readsAreAhead 4 (some .boolean) :: ([.fieldLink RX2 43 "RaceWatch$Kept" "isShared" "Z", .fieldLink RX2 37 "RaceWatch$Kept" "reader" "I", .fieldLink RX2 40 "RaceWatch$Kept" "readNumber" "I", .fieldLink RX2 9 "RaceWatch$Kept" "readNumbers" "[I", .methodLink RX2 53 yX1_number, .instanceMethod yX1_number, .selects RX1 yX1_number yX1_number, .initialized RX1, .code yX1_number cX1_number 3 (some .int), .fieldLink RX1 21 "RaceWatch$Clocks" "numbers" "[I"] ++ wsX20 ++ wsX10)
def wsX2_kindOf : List Cond := .code yX2_kindOf cX2_kindOf 5 (some .int) :: ([.fieldLink RX2 15 "RaceWatch$Kept" "writer" "I", .fieldLink RX2 19 "RaceWatch$Kept" "writeNumber" "I", .methodLink RX2 53 yX1_number, .instanceMethod yX1_number, .selects RX1 yX1_number yX1_number, .initialized RX1, .code yX1_number cX1_number 3 (some .int), .fieldLink RX1 21 "RaceWatch$Clocks" "numbers" "[I", .methodLink RX2 59 yX2_readsAreAhead, .instanceMethod yX2_readsAreAhead, .selects RX2 yX2_readsAreAhead yX2_readsAreAhead, .initialized RX2, .code yX2_readsAreAhead cX2_readsAreAhead 4 (some .boolean), .fieldLink RX2 43 "RaceWatch$Kept" "isShared" "Z", .fieldLink RX2 37 "RaceWatch$Kept" "reader" "I", .fieldLink RX2 40 "RaceWatch$Kept" "readNumber" "I", .fieldLink RX2 9 "RaceWatch$Kept" "readNumbers" "[I"] ++ wsX20 ++ wsX10)
def wsX2_share : List Cond := .code yX2_share cX2_share 3 none :: ([.fieldLink RX2 9 "RaceWatch$Kept" "readNumbers" "[I", .fieldLink RX2 37 "RaceWatch$Kept" "reader" "I", .fieldLink RX2 40 "RaceWatch$Kept" "readNumber" "I", .fieldLink RX2 43 "RaceWatch$Kept" "isShared" "Z", .fieldLink RX2 25 "RaceWatch$Kept" "promotions" "I"] ++ wsX20)
def wsX2_keepRead : List Cond := .code yX2_keepRead cX2_keepRead 4 none :: ([.fieldLink RX2 43 "RaceWatch$Kept" "isShared" "Z", .fieldLink RX2 9 "RaceWatch$Kept" "readNumbers" "[I", .fieldLink RX2 37 "RaceWatch$Kept" "reader" "I", .fieldLink RX2 40 "RaceWatch$Kept" "readNumber" "I", .methodLink RX2 53 yX1_number, .instanceMethod yX1_number, .selects RX1 yX1_number yX1_number, .initialized RX1, .code yX1_number cX1_number 3 (some .int), .fieldLink RX1 21 "RaceWatch$Clocks" "numbers" "[I", .methodLink RX2 59 yX2_readsAreAhead, .instanceMethod yX2_readsAreAhead, .selects RX2 yX2_readsAreAhead yX2_readsAreAhead, .initialized RX2, .code yX2_readsAreAhead cX2_readsAreAhead 4 (some .boolean), .methodLink RX2 71 yX2_share, .instanceMethod yX2_share, .selects RX2 yX2_share yX2_share, .code yX2_share cX2_share 3 none, .fieldLink RX2 25 "RaceWatch$Kept" "promotions" "I"] ++ wsX20 ++ wsX10)
def wsX2_access_r1 : List Cond := [Cond.fieldLink RX2 28 "RaceWatch$Kept" "firstEvent" "I", Cond.fieldLink RX2 31 "RaceWatch$Kept" "firstKind" "I", Cond.fieldLink RX2 34 "RaceWatch$Kept" "guards" "I", Cond.fieldLink RX2 15 "RaceWatch$Kept" "writer" "I", Cond.fieldLink RX2 19 "RaceWatch$Kept" "writeNumber" "I", Cond.methodLink RX2 63 yX2_kindOf, Cond.instanceMethod yX2_kindOf, Cond.selects RX2 yX2_kindOf yX2_kindOf, Cond.initialized RX2, Cond.code yX2_kindOf cX2_kindOf 5 (some .int), Cond.methodLink RX2 53 yX1_number, Cond.instanceMethod yX1_number, Cond.selects RX1 yX1_number yX1_number, Cond.initialized RX1, Cond.code yX1_number cX1_number 3 (some .int), Cond.fieldLink RX1 21 "RaceWatch$Clocks" "numbers" "[I", Cond.methodLink RX2 59 yX2_readsAreAhead, Cond.instanceMethod yX2_readsAreAhead, Cond.selects RX2 yX2_readsAreAhead yX2_readsAreAhead, Cond.code yX2_readsAreAhead cX2_readsAreAhead 4 (some .boolean), Cond.fieldLink RX2 43 "RaceWatch$Kept" "isShared" "Z", Cond.fieldLink RX2 37 "RaceWatch$Kept" "reader" "I", Cond.fieldLink RX2 40 "RaceWatch$Kept" "readNumber" "I", Cond.fieldLink RX2 9 "RaceWatch$Kept" "readNumbers" "[I"]
def wsX2_access_r2 : List Cond := [Cond.methodLink RX2 22 yX2_forgetReads, Cond.instanceMethod yX2_forgetReads, Cond.selects RX2 yX2_forgetReads yX2_forgetReads, Cond.code yX2_forgetReads cX2_forgetReads 1 none, Cond.methodLink RX2 75 yJ7_fill_53178, Cond.static yJ7_fill_53178, Cond.initialized RJ7, Cond.code yJ7_fill_53178 cJ7_fill_53178 4 none, Cond.methodLink RX2 67 yX2_keepRead, Cond.instanceMethod yX2_keepRead, Cond.selects RX2 yX2_keepRead yX2_keepRead, Cond.code yX2_keepRead cX2_keepRead 4 none, Cond.methodLink RX2 71 yX2_share, Cond.instanceMethod yX2_share, Cond.selects RX2 yX2_share yX2_share, Cond.code yX2_share cX2_share 3 none, Cond.fieldLink RX2 25 "RaceWatch$Kept" "promotions" "I"]
def wsX2_access : List Cond := .code yX2_access cX2_access 7 none :: ((wsX2_access_r1 ++ wsX2_access_r2) ++ wsX20 ++ wsX10)
def wsX3_init : List Cond := .code yX3_init cX3_init 1 none :: ([.methodLink RX3 3 objectInit, .instanceMethod objectInit, .code objectInit ⟨#[0xb1]⟩ 1 none, .arrayClass .int, .fieldLink RX3 9 "RaceWatch$Log" "threads" "[I", .fieldLink RX3 15 "RaceWatch$Log" "sorts" "[I", .fieldLink RX3 18 "RaceWatch$Log" "withs" "[I", .fieldLink RX3 21 "RaceWatch$Log" "locks" "[I", .classLink RX3 24 RX1, .instantiable RX1 2, .initialized RX1, .fieldLink RX3 29 "RaceWatch$Log" "clocks" "LRaceWatch$Clocks;", .fieldLink RX3 33 "RaceWatch$Log" "racesBehind" "[I", .fieldLink RX3 36 "RaceWatch$Log" "raceCounts" "[I", .methodLink RX3 26 yX1_init, .instanceMethod yX1_init, .code yX1_init cX1_init 2 none, .methodLink RX1 3 objectInit, .methodLink RX1 9 Lib.Math.max.name, .static Lib.Math.max.name, .initialized "java/lang/Math", .code Lib.Math.max.name Lib.Math.max.code 2 (some .int), .fieldLink RX1 15 "RaceWatch$Clocks" "rows" "I", .fieldLink RX1 21 "RaceWatch$Clocks" "numbers" "[I"] ++ wsX30 ++ wsX10)
def wsX3_begin : List Cond := .code yX3_begin cX3_begin 1 none :: ([.fieldLink RX3 39 "RaceWatch$Log" "count" "I", .fieldLink RX3 36 "RaceWatch$Log" "raceCounts" "[I", .methodLink RX3 43 yJ7_fill_53178, .static yJ7_fill_53178, .initialized RJ7, .code yJ7_fill_53178 cJ7_fill_53178 4 none] ++ wsX30)
def wsX3_copy : List Cond := .code yX3_copy cX3_copy 2 none :: ([.fieldLink RX3 39 "RaceWatch$Log" "count" "I", .fieldLink RX3 9 "RaceWatch$Log" "threads" "[I", .methodLink RX3 49 arraycopyName, .native arraycopyName, .static arraycopyName, .initialized "java/lang/System", .fieldLink RX3 15 "RaceWatch$Log" "sorts" "[I", .fieldLink RX3 18 "RaceWatch$Log" "withs" "[I", .fieldLink RX3 21 "RaceWatch$Log" "locks" "[I", .fieldLink RX3 29 "RaceWatch$Log" "clocks" "LRaceWatch$Clocks;", .fieldLink RX3 33 "RaceWatch$Log" "racesBehind" "[I", .fieldLink RX3 36 "RaceWatch$Log" "raceCounts" "[I", .methodLink RX3 55 yX1_copyRows, .instanceMethod yX1_copyRows, .selects RX1 yX1_copyRows yX1_copyRows, .initialized RX1, .code yX1_copyRows cX1_copyRows 3 none, .fieldLink RX1 21 "RaceWatch$Clocks" "numbers" "[I", .methodLink RX1 32 arraycopyName] ++ wsX30 ++ wsX10)
def wsX3_hasRoom : List Cond := .code yX3_hasRoom cX3_hasRoom 2 (some .boolean) :: ([.fieldLink RX3 39 "RaceWatch$Log" "count" "I"] ++ wsX30)
def wsX3_append : List Cond := .code yX3_append cX3_append 7 (some .int) :: ([.fieldLink RX3 39 "RaceWatch$Log" "count" "I", .fieldLink RX3 9 "RaceWatch$Log" "threads" "[I", .fieldLink RX3 15 "RaceWatch$Log" "sorts" "[I", .fieldLink RX3 18 "RaceWatch$Log" "withs" "[I", .fieldLink RX3 21 "RaceWatch$Log" "locks" "[I", .fieldLink RX3 29 "RaceWatch$Log" "clocks" "LRaceWatch$Clocks;", .methodLink RX3 59 yX1_copyRow, .instanceMethod yX1_copyRow, .selects RX1 yX1_copyRow yX1_copyRow, .initialized RX1, .code yX1_copyRow cX1_copyRow 4 none, .fieldLink RX1 21 "RaceWatch$Clocks" "numbers" "[I", .methodLink RX1 32 arraycopyName, .native arraycopyName, .static arraycopyName, .initialized "java/lang/System"] ++ wsX30 ++ wsX10)
def wsX3_isAhead : List Cond := .code yX3_isAhead cX3_isAhead 4 (some .boolean) :: ([.fieldLink RX3 9 "RaceWatch$Log" "threads" "[I", .fieldLink RX3 29 "RaceWatch$Log" "clocks" "LRaceWatch$Clocks;", .methodLink RX3 63 yX1_number, .instanceMethod yX1_number, .selects RX1 yX1_number yX1_number, .initialized RX1, .code yX1_number cX1_number 3 (some .int), .fieldLink RX1 21 "RaceWatch$Clocks" "numbers" "[I"] ++ wsX30 ++ wsX10)
def wsX3_racesOfCell : List Cond := .code yX3_racesOfCell cX3_racesOfCell 4 (some .int) :: ([.fieldLink RX3 36 "RaceWatch$Log" "raceCounts" "[I"] ++ wsX30)
def wsX3_racesOfAll : List Cond := .code yX3_racesOfAll cX3_racesOfAll 3 (some .int) :: ([.methodLink RX3 67 yX3_racesOfCell, .instanceMethod yX3_racesOfCell, .selects RX3 yX3_racesOfCell yX3_racesOfCell, .initialized RX3, .code yX3_racesOfCell cX3_racesOfCell 4 (some .int), .fieldLink RX3 36 "RaceWatch$Log" "raceCounts" "[I"] ++ wsX30)
def wsX3_cellsWithRace : List Cond := .code yX3_cellsWithRace cX3_cellsWithRace 3 (some .int) :: ([.methodLink RX3 67 yX3_racesOfCell, .instanceMethod yX3_racesOfCell, .selects RX3 yX3_racesOfCell yX3_racesOfCell, .initialized RX3, .code yX3_racesOfCell cX3_racesOfCell 4 (some .int), .fieldLink RX3 36 "RaceWatch$Log" "raceCounts" "[I"] ++ wsX30)
def wsX3_isAccess : List Cond := .code yX3_isAccess cX3_isAccess 2 (some .boolean) :: ([.fieldLink RX3 15 "RaceWatch$Log" "sorts" "[I"] ++ wsX30)
def wsX3_kindOfPair : List Cond := .code yX3_kindOfPair cX3_kindOfPair 3 (some .int) :: ([.fieldLink RX3 18 "RaceWatch$Log" "withs" "[I", .fieldLink RX3 9 "RaceWatch$Log" "threads" "[I", .fieldLink RX3 15 "RaceWatch$Log" "sorts" "[I", .methodLink RX3 71 yX3_isAccess, .instanceMethod yX3_isAccess, .selects RX3 yX3_isAccess yX3_isAccess, .initialized RX3, .code yX3_isAccess cX3_isAccess 2 (some .boolean), .methodLink RX3 81 yX3_isAhead, .instanceMethod yX3_isAhead, .selects RX3 yX3_isAhead yX3_isAhead, .code yX3_isAhead cX3_isAhead 4 (some .boolean), .fieldLink RX3 29 "RaceWatch$Log" "clocks" "LRaceWatch$Clocks;", .methodLink RX3 63 yX1_number, .instanceMethod yX1_number, .selects RX1 yX1_number yX1_number, .initialized RX1, .code yX1_number cX1_number 3 (some .int), .fieldLink RX1 21 "RaceWatch$Clocks" "numbers" "[I"] ++ wsX30 ++ wsX10)
def wsX3_earlierOf : List Cond := .code yX3_earlierOf cX3_earlierOf 5 (some .int) :: ([.methodLink RX3 78 yX3_kindOfPair, .instanceMethod yX3_kindOfPair, .selects RX3 yX3_kindOfPair yX3_kindOfPair, .initialized RX3, .code yX3_kindOfPair cX3_kindOfPair 3 (some .int), .fieldLink RX3 18 "RaceWatch$Log" "withs" "[I", .fieldLink RX3 9 "RaceWatch$Log" "threads" "[I", .fieldLink RX3 15 "RaceWatch$Log" "sorts" "[I", .methodLink RX3 71 yX3_isAccess, .instanceMethod yX3_isAccess, .selects RX3 yX3_isAccess yX3_isAccess, .code yX3_isAccess cX3_isAccess 2 (some .boolean), .methodLink RX3 81 yX3_isAhead, .instanceMethod yX3_isAhead, .selects RX3 yX3_isAhead yX3_isAhead, .code yX3_isAhead cX3_isAhead 4 (some .boolean), .fieldLink RX3 29 "RaceWatch$Log" "clocks" "LRaceWatch$Clocks;", .methodLink RX3 63 yX1_number, .instanceMethod yX1_number, .selects RX1 yX1_number yX1_number, .initialized RX1, .code yX1_number cX1_number 3 (some .int), .fieldLink RX1 21 "RaceWatch$Clocks" "numbers" "[I"] ++ wsX30 ++ wsX10)
def wsX3_partOfRace_r1 : List Cond := [Cond.fieldLink RX3 39 "RaceWatch$Log" "count" "I", Cond.fieldLink RX3 18 "RaceWatch$Log" "withs" "[I", Cond.fieldLink RX3 33 "RaceWatch$Log" "racesBehind" "[I", Cond.methodLink RX3 71 yX3_isAccess, Cond.instanceMethod yX3_isAccess, Cond.selects RX3 yX3_isAccess yX3_isAccess, Cond.initialized RX3, Cond.code yX3_isAccess cX3_isAccess 2 (some .boolean), Cond.fieldLink RX3 15 "RaceWatch$Log" "sorts" "[I", Cond.methodLink RX3 75 yX3_earlierOf, Cond.instanceMethod yX3_earlierOf, Cond.selects RX3 yX3_earlierOf yX3_earlierOf, Cond.code yX3_earlierOf cX3_earlierOf 5 (some .int), Cond.methodLink RX3 78 yX3_kindOfPair, Cond.instanceMethod yX3_kindOfPair, Cond.selects RX3 yX3_kindOfPair yX3_kindOfPair, Cond.code yX3_kindOfPair cX3_kindOfPair 3 (some .int), Cond.fieldLink RX3 9 "RaceWatch$Log" "threads" "[I", Cond.methodLink RX3 81 yX3_isAhead, Cond.instanceMethod yX3_isAhead, Cond.selects RX3 yX3_isAhead yX3_isAhead, Cond.code yX3_isAhead cX3_isAhead 4 (some .boolean), Cond.fieldLink RX3 29 "RaceWatch$Log" "clocks" "LRaceWatch$Clocks;", Cond.methodLink RX3 63 yX1_number]
def wsX3_partOfRace_r2 : List Cond := [Cond.instanceMethod yX1_number, Cond.selects RX1 yX1_number yX1_number, Cond.initialized RX1, Cond.code yX1_number cX1_number 3 (some .int), Cond.fieldLink RX1 21 "RaceWatch$Clocks" "numbers" "[I"]
def wsX3_partOfRace : List Cond := .code yX3_partOfRace cX3_partOfRace 7 (some .int) :: ((wsX3_partOfRace_r1 ++ wsX3_partOfRace_r2) ++ wsX30 ++ wsX10)
def wsX3_countRaces_r1 : List Cond := [Cond.fieldLink RX3 36 "RaceWatch$Log" "raceCounts" "[I", Cond.fieldLink RX3 18 "RaceWatch$Log" "withs" "[I", Cond.fieldLink RX3 33 "RaceWatch$Log" "racesBehind" "[I", Cond.methodLink RX3 78 yX3_kindOfPair, Cond.instanceMethod yX3_kindOfPair, Cond.selects RX3 yX3_kindOfPair yX3_kindOfPair, Cond.initialized RX3, Cond.code yX3_kindOfPair cX3_kindOfPair 3 (some .int), Cond.fieldLink RX3 9 "RaceWatch$Log" "threads" "[I", Cond.fieldLink RX3 15 "RaceWatch$Log" "sorts" "[I", Cond.methodLink RX3 71 yX3_isAccess, Cond.instanceMethod yX3_isAccess, Cond.selects RX3 yX3_isAccess yX3_isAccess, Cond.code yX3_isAccess cX3_isAccess 2 (some .boolean), Cond.methodLink RX3 81 yX3_isAhead, Cond.instanceMethod yX3_isAhead, Cond.selects RX3 yX3_isAhead yX3_isAhead, Cond.code yX3_isAhead cX3_isAhead 4 (some .boolean), Cond.fieldLink RX3 29 "RaceWatch$Log" "clocks" "LRaceWatch$Clocks;", Cond.methodLink RX3 63 yX1_number, Cond.instanceMethod yX1_number, Cond.selects RX1 yX1_number yX1_number, Cond.initialized RX1, Cond.code yX1_number cX1_number 3 (some .int)]
def wsX3_countRaces_r2 : List Cond := [Cond.fieldLink RX1 21 "RaceWatch$Clocks" "numbers" "[I"]
def wsX3_countRaces : List Cond := .code yX3_countRaces cX3_countRaces 5 none :: ((wsX3_countRaces_r1 ++ wsX3_countRaces_r2) ++ wsX30 ++ wsX10)
def wsX4_init : List Cond := .code yX4_init cX4_init 1 none :: ([.methodLink RX4 3 objectInit, .instanceMethod objectInit, .code objectInit ⟨#[0xb1]⟩ 1 none, .fieldLink RX4 9 "RaceWatch$Telling" "faultAt" "I", .classLink RX4 15 RX0, .instantiable RX0 3, .initialized RX0, .fieldLink RX4 18 "RaceWatch$Telling" "book" "LRaceWatch$Book;", .arrayClass .int, .fieldLink RX4 22 "RaceWatch$Telling" "letters" "[I", .fieldLink RX4 26 "RaceWatch$Telling" "lockOf" "[I", .fieldLink RX4 29 "RaceWatch$Telling" "threadBefore" "[I", .instanceMethod yX0_init, .code yX0_init cX0_init 1 none, .methodLink RX0 3 objectInit, .fieldLink RX0 9 "RaceWatch$Book" "locks" "[I", .fieldLink RX0 15 "RaceWatch$Book" "opened" "[I"] ++ wsX40 ++ wsX00)
def wsX4_append : List Cond := .code yX4_append cX4_append 2 (some .int) :: ([.fieldLink RX4 32 "RaceWatch$Telling" "length" "I", .constant RX4 35 (-1000000004), .fieldLink RX4 22 "RaceWatch$Telling" "letters" "[I"] ++ wsX40)
def wsX6_boundOf : List Cond := .code yX6_boundOf cX6_boundOf 1 (some .int) :: ([])
def wsX4_faultOfFigure : List Cond := .code yX4_faultOfFigure cX4_faultOfFigure 2 (some .int) :: ([.fieldLink RX4 52 "RaceWatch$Telling" "item" "I", .static yX6_boundOf, .initialized RX6, .code yX6_boundOf cX6_boundOf 1 (some .int)] ++ wsX40)
def wsX5_goes : List Cond := .code yX5_goes cX5_goes 2 (some .boolean) :: ([.fieldLink RX5 9 "RaceWatch$World" "states" "[I"] ++ wsX50)
def wsX4_open : List Cond := .code yX4_open cX4_open 2 none :: ([.fieldLink RX4 45 "RaceWatch$Telling" "depth" "I", .fieldLink RX4 26 "RaceWatch$Telling" "lockOf" "[I", .fieldLink RX4 29 "RaceWatch$Telling" "threadBefore" "[I", .fieldLink RX4 39 "RaceWatch$Telling" "threadAtIt" "I"] ++ wsX40)
def wsX4_tellThread : List Cond := .code yX4_tellThread cX4_tellThread 3 (some .int) :: ([.fieldLink RX4 39 "RaceWatch$Telling" "threadAtIt" "I", .fieldLink RX4 36 "RaceWatch$Telling" "due" "I", .methodLink RX4 75 yX5_goes, .instanceMethod yX5_goes, .selects RX5 yX5_goes yX5_goes, .initialized RX5, .code yX5_goes cX5_goes 2 (some .boolean), .fieldLink RX5 9 "RaceWatch$World" "states" "[I", .methodLink RX4 81 yX4_open, .instanceMethod yX4_open, .selects RX4 yX4_open yX4_open, .initialized RX4, .code yX4_open cX4_open 2 none, .fieldLink RX4 45 "RaceWatch$Telling" "depth" "I", .fieldLink RX4 26 "RaceWatch$Telling" "lockOf" "[I", .fieldLink RX4 29 "RaceWatch$Telling" "threadBefore" "[I"] ++ wsX40 ++ wsX50)
def wsX5_locksOf : List Cond := .code yX5_locksOf cX5_locksOf 4 (some .int) :: ([.fieldLink RX5 15 "RaceWatch$World" "holders" "[I"] ++ wsX50)
def wsX5_canBe : List Cond := .code yX5_canBe cX5_canBe 4 (some .boolean) :: ([.fieldLink RX5 15 "RaceWatch$World" "holders" "[I", .fieldLink RX5 9 "RaceWatch$World" "states" "[I", .methodLink RX5 90 yX5_goes, .instanceMethod yX5_goes, .selects RX5 yX5_goes yX5_goes, .initialized RX5, .code yX5_goes cX5_goes 2 (some .boolean), .methodLink RX5 82 yX5_locksOf, .instanceMethod yX5_locksOf, .selects RX5 yX5_locksOf yX5_locksOf, .code yX5_locksOf cX5_locksOf 4 (some .int)] ++ wsX50)
def wsX5_stepIsMuch : List Cond := .code yX5_stepIsMuch cX5_stepIsMuch 4 (some .boolean) :: ([.fieldLink RX5 23 "RaceWatch$World" "ofThreads" "LRaceWatch$Clocks;", .constant RX5 98 (2147483647), .methodLink RX5 94 yX1_number, .instanceMethod yX1_number, .selects RX1 yX1_number yX1_number, .initialized RX1, .code yX1_number cX1_number 3 (some .int), .fieldLink RX1 21 "RaceWatch$Clocks" "numbers" "[I"] ++ wsX50 ++ wsX10)
def wsX5_takeIn : List Cond := .code yX5_takeIn cX5_takeIn 4 none :: ([.fieldLink RX5 23 "RaceWatch$World" "ofThreads" "LRaceWatch$Clocks;", .fieldLink RX5 27 "RaceWatch$World" "ofLocks" "LRaceWatch$Clocks;", .fieldLink RX5 15 "RaceWatch$World" "holders" "[I", .fieldLink RX5 30 "RaceWatch$World" "ofSeenCells" "LRaceWatch$Clocks;", .fieldLink RX5 9 "RaceWatch$World" "states" "[I", .methodLink RX5 120 yX1_join, .instanceMethod yX1_join, .selects RX1 yX1_join yX1_join, .initialized RX1, .code yX1_join cX1_join 5 none, .methodLink RX1 9 Lib.Math.max.name, .static Lib.Math.max.name, .initialized "java/lang/Math", .code Lib.Math.max.name Lib.Math.max.code 2 (some .int), .methodLink RX1 25 yX1_number, .instanceMethod yX1_number, .selects RX1 yX1_number yX1_number, .code yX1_number cX1_number 3 (some .int), .fieldLink RX1 21 "RaceWatch$Clocks" "numbers" "[I", .methodLink RX1 28 yX1_set, .instanceMethod yX1_set, .selects RX1 yX1_set yX1_set, .code yX1_set cX1_set 4 none] ++ wsX50 ++ wsX10)
def wsX5_makeStep : List Cond := .code yX5_makeStep cX5_makeStep 3 none :: ([.fieldLink RX5 23 "RaceWatch$World" "ofThreads" "LRaceWatch$Clocks;", .constant RX5 98 (2147483647), .methodLink RX5 94 yX1_number, .instanceMethod yX1_number, .selects RX1 yX1_number yX1_number, .initialized RX1, .code yX1_number cX1_number 3 (some .int), .fieldLink RX1 21 "RaceWatch$Clocks" "numbers" "[I", .methodLink RX5 59 yX1_set, .instanceMethod yX1_set, .selects RX1 yX1_set yX1_set, .code yX1_set cX1_set 4 none] ++ wsX50 ++ wsX10)
def wsX5_handOn_r1 : List Cond := [Cond.fieldLink RX5 27 "RaceWatch$World" "ofLocks" "LRaceWatch$Clocks;", Cond.fieldLink RX5 23 "RaceWatch$World" "ofThreads" "LRaceWatch$Clocks;", Cond.fieldLink RX5 30 "RaceWatch$World" "ofSeenCells" "LRaceWatch$Clocks;", Cond.fieldLink RX5 9 "RaceWatch$World" "states" "[I", Cond.methodLink RX5 124 yX1_copyRow, Cond.instanceMethod yX1_copyRow, Cond.selects RX1 yX1_copyRow yX1_copyRow, Cond.initialized RX1, Cond.code yX1_copyRow cX1_copyRow 4 none, Cond.fieldLink RX1 21 "RaceWatch$Clocks" "numbers" "[I", Cond.methodLink RX1 32 arraycopyName, Cond.native arraycopyName, Cond.static arraycopyName, Cond.initialized "java/lang/System", Cond.methodLink RX5 127 yX5_makeStep, Cond.instanceMethod yX5_makeStep, Cond.selects RX5 yX5_makeStep yX5_makeStep, Cond.initialized RX5, Cond.code yX5_makeStep cX5_makeStep 3 none, Cond.constant RX5 98 (2147483647), Cond.methodLink RX5 94 yX1_number, Cond.instanceMethod yX1_number, Cond.selects RX1 yX1_number yX1_number, Cond.code yX1_number cX1_number 3 (some .int)]
def wsX5_handOn_r2 : List Cond := [Cond.methodLink RX5 59 yX1_set, Cond.instanceMethod yX1_set, Cond.selects RX1 yX1_set yX1_set, Cond.code yX1_set cX1_set 4 none, Cond.methodLink RX5 120 yX1_join, Cond.instanceMethod yX1_join, Cond.selects RX1 yX1_join yX1_join, Cond.code yX1_join cX1_join 5 none, Cond.methodLink RX1 9 Lib.Math.max.name, Cond.static Lib.Math.max.name, Cond.initialized "java/lang/Math", Cond.code Lib.Math.max.name Lib.Math.max.code 2 (some .int), Cond.methodLink RX1 25 yX1_number, Cond.methodLink RX1 28 yX1_set]
def wsX5_handOn : List Cond := .code yX5_handOn cX5_handOn 4 none :: ((wsX5_handOn_r1 ++ wsX5_handOn_r2) ++ wsX50 ++ wsX10)
def wsX5_come_r1 : List Cond := [Cond.fieldLink RX5 43 "RaceWatch$World" "log" "LRaceWatch$Log;", Cond.constant RX5 102 (-1000000004), Cond.fieldLink RX5 23 "RaceWatch$World" "ofThreads" "LRaceWatch$Clocks;", Cond.fieldLink RX5 36 "RaceWatch$World" "cells" "[LRaceWatch$Kept;", Cond.methodLink RX5 99 yX3_hasRoom, Cond.instanceMethod yX3_hasRoom, Cond.selects RX3 yX3_hasRoom yX3_hasRoom, Cond.initialized RX3, Cond.code yX3_hasRoom cX3_hasRoom 2 (some .boolean), Cond.fieldLink RX3 39 "RaceWatch$Log" "count" "I", Cond.methodLink RX5 103 yX5_takeIn, Cond.instanceMethod yX5_takeIn, Cond.selects RX5 yX5_takeIn yX5_takeIn, Cond.initialized RX5, Cond.code yX5_takeIn cX5_takeIn 4 none, Cond.fieldLink RX5 27 "RaceWatch$World" "ofLocks" "LRaceWatch$Clocks;", Cond.fieldLink RX5 15 "RaceWatch$World" "holders" "[I", Cond.fieldLink RX5 30 "RaceWatch$World" "ofSeenCells" "LRaceWatch$Clocks;", Cond.fieldLink RX5 9 "RaceWatch$World" "states" "[I", Cond.methodLink RX5 120 yX1_join, Cond.instanceMethod yX1_join, Cond.selects RX1 yX1_join yX1_join, Cond.initialized RX1, Cond.code yX1_join cX1_join 5 none]
def wsX5_come_r2 : List Cond := [Cond.methodLink RX1 9 Lib.Math.max.name, Cond.static Lib.Math.max.name, Cond.initialized "java/lang/Math", Cond.code Lib.Math.max.name Lib.Math.max.code 2 (some .int), Cond.methodLink RX1 25 yX1_number, Cond.instanceMethod yX1_number, Cond.selects RX1 yX1_number yX1_number, Cond.code yX1_number cX1_number 3 (some .int), Cond.fieldLink RX1 21 "RaceWatch$Clocks" "numbers" "[I", Cond.methodLink RX1 28 yX1_set, Cond.instanceMethod yX1_set, Cond.selects RX1 yX1_set yX1_set, Cond.code yX1_set cX1_set 4 none, Cond.methodLink RX5 82 yX5_locksOf, Cond.instanceMethod yX5_locksOf, Cond.selects RX5 yX5_locksOf yX5_locksOf, Cond.code yX5_locksOf cX5_locksOf 4 (some .int), Cond.methodLink RX5 106 yX3_append, Cond.instanceMethod yX3_append, Cond.selects RX3 yX3_append yX3_append, Cond.code yX3_append cX3_append 7 (some .int), Cond.fieldLink RX3 9 "RaceWatch$Log" "threads" "[I", Cond.fieldLink RX3 15 "RaceWatch$Log" "sorts" "[I", Cond.fieldLink RX3 18 "RaceWatch$Log" "withs" "[I"]
def wsX5_come_r3 : List Cond := [Cond.fieldLink RX3 21 "RaceWatch$Log" "locks" "[I", Cond.fieldLink RX3 29 "RaceWatch$Log" "clocks" "LRaceWatch$Clocks;", Cond.methodLink RX3 59 yX1_copyRow, Cond.instanceMethod yX1_copyRow, Cond.selects RX1 yX1_copyRow yX1_copyRow, Cond.code yX1_copyRow cX1_copyRow 4 none, Cond.methodLink RX1 32 arraycopyName, Cond.native arraycopyName, Cond.static arraycopyName, Cond.initialized "java/lang/System", Cond.methodLink RX5 110 yX3_countRaces, Cond.instanceMethod yX3_countRaces, Cond.selects RX3 yX3_countRaces yX3_countRaces, Cond.code yX3_countRaces cX3_countRaces 5 none, Cond.fieldLink RX3 36 "RaceWatch$Log" "raceCounts" "[I", Cond.fieldLink RX3 33 "RaceWatch$Log" "racesBehind" "[I", Cond.methodLink RX3 78 yX3_kindOfPair, Cond.instanceMethod yX3_kindOfPair, Cond.selects RX3 yX3_kindOfPair yX3_kindOfPair, Cond.code yX3_kindOfPair cX3_kindOfPair 3 (some .int), Cond.methodLink RX3 71 yX3_isAccess, Cond.instanceMethod yX3_isAccess, Cond.selects RX3 yX3_isAccess yX3_isAccess, Cond.code yX3_isAccess cX3_isAccess 2 (some .boolean)]
def wsX5_come_r4 : List Cond := [Cond.methodLink RX3 81 yX3_isAhead, Cond.instanceMethod yX3_isAhead, Cond.selects RX3 yX3_isAhead yX3_isAhead, Cond.code yX3_isAhead cX3_isAhead 4 (some .boolean), Cond.methodLink RX3 63 yX1_number, Cond.methodLink RX5 113 yX2_access, Cond.instanceMethod yX2_access, Cond.selects RX2 yX2_access yX2_access, Cond.initialized RX2, Cond.code yX2_access cX2_access 7 none, Cond.fieldLink RX2 28 "RaceWatch$Kept" "firstEvent" "I", Cond.fieldLink RX2 31 "RaceWatch$Kept" "firstKind" "I", Cond.fieldLink RX2 34 "RaceWatch$Kept" "guards" "I", Cond.fieldLink RX2 15 "RaceWatch$Kept" "writer" "I", Cond.fieldLink RX2 19 "RaceWatch$Kept" "writeNumber" "I", Cond.methodLink RX2 63 yX2_kindOf, Cond.instanceMethod yX2_kindOf, Cond.selects RX2 yX2_kindOf yX2_kindOf, Cond.code yX2_kindOf cX2_kindOf 5 (some .int), Cond.methodLink RX2 53 yX1_number, Cond.methodLink RX2 59 yX2_readsAreAhead, Cond.instanceMethod yX2_readsAreAhead, Cond.selects RX2 yX2_readsAreAhead yX2_readsAreAhead, Cond.code yX2_readsAreAhead cX2_readsAreAhead 4 (some .boolean)]
def wsX5_come_r5 : List Cond := [Cond.fieldLink RX2 43 "RaceWatch$Kept" "isShared" "Z", Cond.fieldLink RX2 37 "RaceWatch$Kept" "reader" "I", Cond.fieldLink RX2 40 "RaceWatch$Kept" "readNumber" "I", Cond.fieldLink RX2 9 "RaceWatch$Kept" "readNumbers" "[I", Cond.methodLink RX2 22 yX2_forgetReads, Cond.instanceMethod yX2_forgetReads, Cond.selects RX2 yX2_forgetReads yX2_forgetReads, Cond.code yX2_forgetReads cX2_forgetReads 1 none, Cond.methodLink RX2 75 yJ7_fill_53178, Cond.static yJ7_fill_53178, Cond.initialized RJ7, Cond.code yJ7_fill_53178 cJ7_fill_53178 4 none, Cond.methodLink RX2 67 yX2_keepRead, Cond.instanceMethod yX2_keepRead, Cond.selects RX2 yX2_keepRead yX2_keepRead, Cond.code yX2_keepRead cX2_keepRead 4 none, Cond.methodLink RX2 71 yX2_share, Cond.instanceMethod yX2_share, Cond.selects RX2 yX2_share yX2_share, Cond.code yX2_share cX2_share 3 none, Cond.fieldLink RX2 25 "RaceWatch$Kept" "promotions" "I", Cond.methodLink RX5 117 yX5_handOn, Cond.instanceMethod yX5_handOn, Cond.selects RX5 yX5_handOn yX5_handOn]
def wsX5_come_r6 : List Cond := [Cond.code yX5_handOn cX5_handOn 4 none, Cond.methodLink RX5 124 yX1_copyRow, Cond.methodLink RX5 127 yX5_makeStep, Cond.instanceMethod yX5_makeStep, Cond.selects RX5 yX5_makeStep yX5_makeStep, Cond.code yX5_makeStep cX5_makeStep 3 none, Cond.constant RX5 98 (2147483647), Cond.methodLink RX5 94 yX1_number, Cond.methodLink RX5 59 yX1_set]
def wsX5_come : List Cond := .code yX5_come cX5_come 6 (some .int) :: ((wsX5_come_r1 ++ (wsX5_come_r2 ++ (wsX5_come_r3 ++ (wsX5_come_r4 ++ (wsX5_come_r5 ++ wsX5_come_r6))))) ++ wsX50 ++ wsX30 ++ wsX10 ++ wsX20)
def wsX4_tellEvent_r1 : List Cond := [Cond.fieldLink RX4 52 "RaceWatch$Telling" "item" "I", Cond.fieldLink RX4 85 "RaceWatch$World" "log" "LRaceWatch$Log;", Cond.fieldLink RX4 42 "RaceWatch$Telling" "openRegions" "I", Cond.fieldLink RX4 39 "RaceWatch$Telling" "threadAtIt" "I", Cond.fieldLink RX4 36 "RaceWatch$Telling" "due" "I", Cond.fieldLink RX4 18 "RaceWatch$Telling" "book" "LRaceWatch$Book;", Cond.methodLink RX4 89 yX3_hasRoom, Cond.instanceMethod yX3_hasRoom, Cond.selects RX3 yX3_hasRoom yX3_hasRoom, Cond.initialized RX3, Cond.code yX3_hasRoom cX3_hasRoom 2 (some .boolean), Cond.fieldLink RX3 39 "RaceWatch$Log" "count" "I", Cond.methodLink RX4 94 yX5_canBe, Cond.instanceMethod yX5_canBe, Cond.selects RX5 yX5_canBe yX5_canBe, Cond.initialized RX5, Cond.code yX5_canBe cX5_canBe 4 (some .boolean), Cond.fieldLink RX5 15 "RaceWatch$World" "holders" "[I", Cond.fieldLink RX5 9 "RaceWatch$World" "states" "[I", Cond.methodLink RX5 90 yX5_goes, Cond.instanceMethod yX5_goes, Cond.selects RX5 yX5_goes yX5_goes, Cond.code yX5_goes cX5_goes 2 (some .boolean), Cond.methodLink RX5 82 yX5_locksOf]
def wsX4_tellEvent_r2 : List Cond := [Cond.instanceMethod yX5_locksOf, Cond.selects RX5 yX5_locksOf yX5_locksOf, Cond.code yX5_locksOf cX5_locksOf 4 (some .int), Cond.methodLink RX4 98 yX5_stepIsMuch, Cond.instanceMethod yX5_stepIsMuch, Cond.selects RX5 yX5_stepIsMuch yX5_stepIsMuch, Cond.code yX5_stepIsMuch cX5_stepIsMuch 4 (some .boolean), Cond.fieldLink RX5 23 "RaceWatch$World" "ofThreads" "LRaceWatch$Clocks;", Cond.constant RX5 98 (2147483647), Cond.methodLink RX5 94 yX1_number, Cond.instanceMethod yX1_number, Cond.selects RX1 yX1_number yX1_number, Cond.initialized RX1, Cond.code yX1_number cX1_number 3 (some .int), Cond.fieldLink RX1 21 "RaceWatch$Clocks" "numbers" "[I", Cond.methodLink RX4 102 yX5_come, Cond.instanceMethod yX5_come, Cond.selects RX5 yX5_come yX5_come, Cond.code yX5_come cX5_come 6 (some .int), Cond.fieldLink RX5 43 "RaceWatch$World" "log" "LRaceWatch$Log;", Cond.constant RX5 102 (-1000000004), Cond.fieldLink RX5 36 "RaceWatch$World" "cells" "[LRaceWatch$Kept;", Cond.methodLink RX5 99 yX3_hasRoom, Cond.methodLink RX5 103 yX5_takeIn]
def wsX4_tellEvent_r3 : List Cond := [Cond.instanceMethod yX5_takeIn, Cond.selects RX5 yX5_takeIn yX5_takeIn, Cond.code yX5_takeIn cX5_takeIn 4 none, Cond.fieldLink RX5 27 "RaceWatch$World" "ofLocks" "LRaceWatch$Clocks;", Cond.fieldLink RX5 30 "RaceWatch$World" "ofSeenCells" "LRaceWatch$Clocks;", Cond.methodLink RX5 120 yX1_join, Cond.instanceMethod yX1_join, Cond.selects RX1 yX1_join yX1_join, Cond.code yX1_join cX1_join 5 none, Cond.methodLink RX1 9 Lib.Math.max.name, Cond.static Lib.Math.max.name, Cond.initialized "java/lang/Math", Cond.code Lib.Math.max.name Lib.Math.max.code 2 (some .int), Cond.methodLink RX1 25 yX1_number, Cond.methodLink RX1 28 yX1_set, Cond.instanceMethod yX1_set, Cond.selects RX1 yX1_set yX1_set, Cond.code yX1_set cX1_set 4 none, Cond.methodLink RX5 106 yX3_append, Cond.instanceMethod yX3_append, Cond.selects RX3 yX3_append yX3_append, Cond.code yX3_append cX3_append 7 (some .int), Cond.fieldLink RX3 9 "RaceWatch$Log" "threads" "[I", Cond.fieldLink RX3 15 "RaceWatch$Log" "sorts" "[I"]
def wsX4_tellEvent_r4 : List Cond := [Cond.fieldLink RX3 18 "RaceWatch$Log" "withs" "[I", Cond.fieldLink RX3 21 "RaceWatch$Log" "locks" "[I", Cond.fieldLink RX3 29 "RaceWatch$Log" "clocks" "LRaceWatch$Clocks;", Cond.methodLink RX3 59 yX1_copyRow, Cond.instanceMethod yX1_copyRow, Cond.selects RX1 yX1_copyRow yX1_copyRow, Cond.code yX1_copyRow cX1_copyRow 4 none, Cond.methodLink RX1 32 arraycopyName, Cond.native arraycopyName, Cond.static arraycopyName, Cond.initialized "java/lang/System", Cond.methodLink RX5 110 yX3_countRaces, Cond.instanceMethod yX3_countRaces, Cond.selects RX3 yX3_countRaces yX3_countRaces, Cond.code yX3_countRaces cX3_countRaces 5 none, Cond.fieldLink RX3 36 "RaceWatch$Log" "raceCounts" "[I", Cond.fieldLink RX3 33 "RaceWatch$Log" "racesBehind" "[I", Cond.methodLink RX3 78 yX3_kindOfPair, Cond.instanceMethod yX3_kindOfPair, Cond.selects RX3 yX3_kindOfPair yX3_kindOfPair, Cond.code yX3_kindOfPair cX3_kindOfPair 3 (some .int), Cond.methodLink RX3 71 yX3_isAccess, Cond.instanceMethod yX3_isAccess, Cond.selects RX3 yX3_isAccess yX3_isAccess]
def wsX4_tellEvent_r5 : List Cond := [Cond.code yX3_isAccess cX3_isAccess 2 (some .boolean), Cond.methodLink RX3 81 yX3_isAhead, Cond.instanceMethod yX3_isAhead, Cond.selects RX3 yX3_isAhead yX3_isAhead, Cond.code yX3_isAhead cX3_isAhead 4 (some .boolean), Cond.methodLink RX3 63 yX1_number, Cond.methodLink RX5 113 yX2_access, Cond.instanceMethod yX2_access, Cond.selects RX2 yX2_access yX2_access, Cond.initialized RX2, Cond.code yX2_access cX2_access 7 none, Cond.fieldLink RX2 28 "RaceWatch$Kept" "firstEvent" "I", Cond.fieldLink RX2 31 "RaceWatch$Kept" "firstKind" "I", Cond.fieldLink RX2 34 "RaceWatch$Kept" "guards" "I", Cond.fieldLink RX2 15 "RaceWatch$Kept" "writer" "I", Cond.fieldLink RX2 19 "RaceWatch$Kept" "writeNumber" "I", Cond.methodLink RX2 63 yX2_kindOf, Cond.instanceMethod yX2_kindOf, Cond.selects RX2 yX2_kindOf yX2_kindOf, Cond.code yX2_kindOf cX2_kindOf 5 (some .int), Cond.methodLink RX2 53 yX1_number, Cond.methodLink RX2 59 yX2_readsAreAhead, Cond.instanceMethod yX2_readsAreAhead, Cond.selects RX2 yX2_readsAreAhead yX2_readsAreAhead]
def wsX4_tellEvent_r6 : List Cond := [Cond.code yX2_readsAreAhead cX2_readsAreAhead 4 (some .boolean), Cond.fieldLink RX2 43 "RaceWatch$Kept" "isShared" "Z", Cond.fieldLink RX2 37 "RaceWatch$Kept" "reader" "I", Cond.fieldLink RX2 40 "RaceWatch$Kept" "readNumber" "I", Cond.fieldLink RX2 9 "RaceWatch$Kept" "readNumbers" "[I", Cond.methodLink RX2 22 yX2_forgetReads, Cond.instanceMethod yX2_forgetReads, Cond.selects RX2 yX2_forgetReads yX2_forgetReads, Cond.code yX2_forgetReads cX2_forgetReads 1 none, Cond.methodLink RX2 75 yJ7_fill_53178, Cond.static yJ7_fill_53178, Cond.initialized RJ7, Cond.code yJ7_fill_53178 cJ7_fill_53178 4 none, Cond.methodLink RX2 67 yX2_keepRead, Cond.instanceMethod yX2_keepRead, Cond.selects RX2 yX2_keepRead yX2_keepRead, Cond.code yX2_keepRead cX2_keepRead 4 none, Cond.methodLink RX2 71 yX2_share, Cond.instanceMethod yX2_share, Cond.selects RX2 yX2_share yX2_share, Cond.code yX2_share cX2_share 3 none, Cond.fieldLink RX2 25 "RaceWatch$Kept" "promotions" "I", Cond.methodLink RX5 117 yX5_handOn, Cond.instanceMethod yX5_handOn]
def wsX4_tellEvent_r7 : List Cond := [Cond.selects RX5 yX5_handOn yX5_handOn, Cond.code yX5_handOn cX5_handOn 4 none, Cond.methodLink RX5 124 yX1_copyRow, Cond.methodLink RX5 127 yX5_makeStep, Cond.instanceMethod yX5_makeStep, Cond.selects RX5 yX5_makeStep yX5_makeStep, Cond.code yX5_makeStep cX5_makeStep 3 none, Cond.methodLink RX5 59 yX1_set, Cond.methodLink RX4 81 yX4_open, Cond.instanceMethod yX4_open, Cond.selects RX4 yX4_open yX4_open, Cond.initialized RX4, Cond.code yX4_open cX4_open 2 none, Cond.fieldLink RX4 45 "RaceWatch$Telling" "depth" "I", Cond.fieldLink RX4 26 "RaceWatch$Telling" "lockOf" "[I", Cond.fieldLink RX4 29 "RaceWatch$Telling" "threadBefore" "[I", Cond.methodLink RX4 106 yX0_enter, Cond.instanceMethod yX0_enter, Cond.selects RX0 yX0_enter yX0_enter, Cond.initialized RX0, Cond.code yX0_enter cX0_enter 3 none, Cond.fieldLink RX0 9 "RaceWatch$Book" "locks" "[I", Cond.methodLink RX0 18 arraycopyName, Cond.fieldLink RX0 15 "RaceWatch$Book" "opened" "[I"]
def wsX4_tellEvent_r8 : List Cond := [Cond.fieldLink RX0 24 "RaceWatch$Book" "count" "I", Cond.methodLink RX0 28 Lib.Math.min.name, Cond.static Lib.Math.min.name, Cond.code Lib.Math.min.name Lib.Math.min.code 2 (some .int)]
def wsX4_tellEvent : List Cond := .code yX4_tellEvent cX4_tellEvent 4 (some .int) :: ((wsX4_tellEvent_r1 ++ (wsX4_tellEvent_r2 ++ (wsX4_tellEvent_r3 ++ (wsX4_tellEvent_r4 ++ (wsX4_tellEvent_r5 ++ (wsX4_tellEvent_r6 ++ (wsX4_tellEvent_r7 ++ wsX4_tellEvent_r8))))))) ++ wsX40 ++ wsX50 ++ wsX30 ++ wsX10 ++ wsX20 ++ wsX00)
def wsX4_shutLast_r1 : List Cond := [Cond.fieldLink RX4 45 "RaceWatch$Telling" "depth" "I", Cond.fieldLink RX4 29 "RaceWatch$Telling" "threadBefore" "[I", Cond.fieldLink RX4 39 "RaceWatch$Telling" "threadAtIt" "I", Cond.fieldLink RX4 26 "RaceWatch$Telling" "lockOf" "[I", Cond.fieldLink RX4 42 "RaceWatch$Telling" "openRegions" "I", Cond.fieldLink RX4 18 "RaceWatch$Telling" "book" "LRaceWatch$Book;", Cond.methodLink RX4 102 yX5_come, Cond.instanceMethod yX5_come, Cond.selects RX5 yX5_come yX5_come, Cond.initialized RX5, Cond.code yX5_come cX5_come 6 (some .int), Cond.fieldLink RX5 43 "RaceWatch$World" "log" "LRaceWatch$Log;", Cond.constant RX5 102 (-1000000004), Cond.fieldLink RX5 23 "RaceWatch$World" "ofThreads" "LRaceWatch$Clocks;", Cond.fieldLink RX5 36 "RaceWatch$World" "cells" "[LRaceWatch$Kept;", Cond.methodLink RX5 99 yX3_hasRoom, Cond.instanceMethod yX3_hasRoom, Cond.selects RX3 yX3_hasRoom yX3_hasRoom, Cond.initialized RX3, Cond.code yX3_hasRoom cX3_hasRoom 2 (some .boolean), Cond.fieldLink RX3 39 "RaceWatch$Log" "count" "I", Cond.methodLink RX5 103 yX5_takeIn, Cond.instanceMethod yX5_takeIn, Cond.selects RX5 yX5_takeIn yX5_takeIn]
def wsX4_shutLast_r2 : List Cond := [Cond.code yX5_takeIn cX5_takeIn 4 none, Cond.fieldLink RX5 27 "RaceWatch$World" "ofLocks" "LRaceWatch$Clocks;", Cond.fieldLink RX5 15 "RaceWatch$World" "holders" "[I", Cond.fieldLink RX5 30 "RaceWatch$World" "ofSeenCells" "LRaceWatch$Clocks;", Cond.fieldLink RX5 9 "RaceWatch$World" "states" "[I", Cond.methodLink RX5 120 yX1_join, Cond.instanceMethod yX1_join, Cond.selects RX1 yX1_join yX1_join, Cond.initialized RX1, Cond.code yX1_join cX1_join 5 none, Cond.methodLink RX1 9 Lib.Math.max.name, Cond.static Lib.Math.max.name, Cond.initialized "java/lang/Math", Cond.code Lib.Math.max.name Lib.Math.max.code 2 (some .int), Cond.methodLink RX1 25 yX1_number, Cond.instanceMethod yX1_number, Cond.selects RX1 yX1_number yX1_number, Cond.code yX1_number cX1_number 3 (some .int), Cond.fieldLink RX1 21 "RaceWatch$Clocks" "numbers" "[I", Cond.methodLink RX1 28 yX1_set, Cond.instanceMethod yX1_set, Cond.selects RX1 yX1_set yX1_set, Cond.code yX1_set cX1_set 4 none, Cond.methodLink RX5 82 yX5_locksOf]
def wsX4_shutLast_r3 : List Cond := [Cond.instanceMethod yX5_locksOf, Cond.selects RX5 yX5_locksOf yX5_locksOf, Cond.code yX5_locksOf cX5_locksOf 4 (some .int), Cond.methodLink RX5 106 yX3_append, Cond.instanceMethod yX3_append, Cond.selects RX3 yX3_append yX3_append, Cond.code yX3_append cX3_append 7 (some .int), Cond.fieldLink RX3 9 "RaceWatch$Log" "threads" "[I", Cond.fieldLink RX3 15 "RaceWatch$Log" "sorts" "[I", Cond.fieldLink RX3 18 "RaceWatch$Log" "withs" "[I", Cond.fieldLink RX3 21 "RaceWatch$Log" "locks" "[I", Cond.fieldLink RX3 29 "RaceWatch$Log" "clocks" "LRaceWatch$Clocks;", Cond.methodLink RX3 59 yX1_copyRow, Cond.instanceMethod yX1_copyRow, Cond.selects RX1 yX1_copyRow yX1_copyRow, Cond.code yX1_copyRow cX1_copyRow 4 none, Cond.methodLink RX1 32 arraycopyName, Cond.native arraycopyName, Cond.static arraycopyName, Cond.initialized "java/lang/System", Cond.methodLink RX5 110 yX3_countRaces, Cond.instanceMethod yX3_countRaces, Cond.selects RX3 yX3_countRaces yX3_countRaces, Cond.code yX3_countRaces cX3_countRaces 5 none]
def wsX4_shutLast_r4 : List Cond := [Cond.fieldLink RX3 36 "RaceWatch$Log" "raceCounts" "[I", Cond.fieldLink RX3 33 "RaceWatch$Log" "racesBehind" "[I", Cond.methodLink RX3 78 yX3_kindOfPair, Cond.instanceMethod yX3_kindOfPair, Cond.selects RX3 yX3_kindOfPair yX3_kindOfPair, Cond.code yX3_kindOfPair cX3_kindOfPair 3 (some .int), Cond.methodLink RX3 71 yX3_isAccess, Cond.instanceMethod yX3_isAccess, Cond.selects RX3 yX3_isAccess yX3_isAccess, Cond.code yX3_isAccess cX3_isAccess 2 (some .boolean), Cond.methodLink RX3 81 yX3_isAhead, Cond.instanceMethod yX3_isAhead, Cond.selects RX3 yX3_isAhead yX3_isAhead, Cond.code yX3_isAhead cX3_isAhead 4 (some .boolean), Cond.methodLink RX3 63 yX1_number, Cond.methodLink RX5 113 yX2_access, Cond.instanceMethod yX2_access, Cond.selects RX2 yX2_access yX2_access, Cond.initialized RX2, Cond.code yX2_access cX2_access 7 none, Cond.fieldLink RX2 28 "RaceWatch$Kept" "firstEvent" "I", Cond.fieldLink RX2 31 "RaceWatch$Kept" "firstKind" "I", Cond.fieldLink RX2 34 "RaceWatch$Kept" "guards" "I", Cond.fieldLink RX2 15 "RaceWatch$Kept" "writer" "I"]
def wsX4_shutLast_r5 : List Cond := [Cond.fieldLink RX2 19 "RaceWatch$Kept" "writeNumber" "I", Cond.methodLink RX2 63 yX2_kindOf, Cond.instanceMethod yX2_kindOf, Cond.selects RX2 yX2_kindOf yX2_kindOf, Cond.code yX2_kindOf cX2_kindOf 5 (some .int), Cond.methodLink RX2 53 yX1_number, Cond.methodLink RX2 59 yX2_readsAreAhead, Cond.instanceMethod yX2_readsAreAhead, Cond.selects RX2 yX2_readsAreAhead yX2_readsAreAhead, Cond.code yX2_readsAreAhead cX2_readsAreAhead 4 (some .boolean), Cond.fieldLink RX2 43 "RaceWatch$Kept" "isShared" "Z", Cond.fieldLink RX2 37 "RaceWatch$Kept" "reader" "I", Cond.fieldLink RX2 40 "RaceWatch$Kept" "readNumber" "I", Cond.fieldLink RX2 9 "RaceWatch$Kept" "readNumbers" "[I", Cond.methodLink RX2 22 yX2_forgetReads, Cond.instanceMethod yX2_forgetReads, Cond.selects RX2 yX2_forgetReads yX2_forgetReads, Cond.code yX2_forgetReads cX2_forgetReads 1 none, Cond.methodLink RX2 75 yJ7_fill_53178, Cond.static yJ7_fill_53178, Cond.initialized RJ7, Cond.code yJ7_fill_53178 cJ7_fill_53178 4 none, Cond.methodLink RX2 67 yX2_keepRead, Cond.instanceMethod yX2_keepRead]
def wsX4_shutLast_r6 : List Cond := [Cond.selects RX2 yX2_keepRead yX2_keepRead, Cond.code yX2_keepRead cX2_keepRead 4 none, Cond.methodLink RX2 71 yX2_share, Cond.instanceMethod yX2_share, Cond.selects RX2 yX2_share yX2_share, Cond.code yX2_share cX2_share 3 none, Cond.fieldLink RX2 25 "RaceWatch$Kept" "promotions" "I", Cond.methodLink RX5 117 yX5_handOn, Cond.instanceMethod yX5_handOn, Cond.selects RX5 yX5_handOn yX5_handOn, Cond.code yX5_handOn cX5_handOn 4 none, Cond.methodLink RX5 124 yX1_copyRow, Cond.methodLink RX5 127 yX5_makeStep, Cond.instanceMethod yX5_makeStep, Cond.selects RX5 yX5_makeStep yX5_makeStep, Cond.code yX5_makeStep cX5_makeStep 3 none, Cond.constant RX5 98 (2147483647), Cond.methodLink RX5 94 yX1_number, Cond.methodLink RX5 59 yX1_set, Cond.methodLink RX4 106 yX0_enter, Cond.instanceMethod yX0_enter, Cond.selects RX0 yX0_enter yX0_enter, Cond.initialized RX0, Cond.code yX0_enter cX0_enter 3 none]
def wsX4_shutLast_r7 : List Cond := [Cond.fieldLink RX0 9 "RaceWatch$Book" "locks" "[I", Cond.methodLink RX0 18 arraycopyName, Cond.fieldLink RX0 15 "RaceWatch$Book" "opened" "[I", Cond.fieldLink RX0 24 "RaceWatch$Book" "count" "I", Cond.methodLink RX0 28 Lib.Math.min.name, Cond.static Lib.Math.min.name, Cond.code Lib.Math.min.name Lib.Math.min.code 2 (some .int)]
def wsX4_shutLast : List Cond := .code yX4_shutLast cX4_shutLast 3 none :: ((wsX4_shutLast_r1 ++ (wsX4_shutLast_r2 ++ (wsX4_shutLast_r3 ++ (wsX4_shutLast_r4 ++ (wsX4_shutLast_r5 ++ (wsX4_shutLast_r6 ++ wsX4_shutLast_r7)))))) ++ wsX40 ++ wsX50 ++ wsX30 ++ wsX10 ++ wsX20 ++ wsX00)
def wsX4_itemOf : List Cond := .code yX4_itemOf cX4_itemOf 1 (some .int) :: ([])
def wsX4_tellSign : List Cond := .code yX4_tellSign cX4_tellSign 3 (some .int) :: ([.fieldLink RX4 36 "RaceWatch$Telling" "due" "I", .fieldLink RX4 52 "RaceWatch$Telling" "item" "I", .methodLink RX4 72 yX4_itemOf, .static yX4_itemOf, .initialized RX4, .code yX4_itemOf cX4_itemOf 1 (some .int)] ++ wsX40)
def wsX4_tell_r1 : List Cond := [Cond.fieldLink RX4 36 "RaceWatch$Telling" "due" "I", Cond.fieldLink RX4 39 "RaceWatch$Telling" "threadAtIt" "I", Cond.fieldLink RX4 42 "RaceWatch$Telling" "openRegions" "I", Cond.fieldLink RX4 45 "RaceWatch$Telling" "depth" "I", Cond.fieldLink RX4 32 "RaceWatch$Telling" "length" "I", Cond.fieldLink RX4 22 "RaceWatch$Telling" "letters" "[I", Cond.fieldLink RX4 52 "RaceWatch$Telling" "item" "I", Cond.fieldLink RX4 9 "RaceWatch$Telling" "faultAt" "I", Cond.methodLink RX4 48 yX4_faultOfFigure, Cond.instanceMethod yX4_faultOfFigure, Cond.selects RX4 yX4_faultOfFigure yX4_faultOfFigure, Cond.initialized RX4, Cond.code yX4_faultOfFigure cX4_faultOfFigure 2 (some .int), Cond.static yX6_boundOf, Cond.initialized RX6, Cond.code yX6_boundOf cX6_boundOf 1 (some .int), Cond.methodLink RX4 55 yX4_tellThread, Cond.instanceMethod yX4_tellThread, Cond.selects RX4 yX4_tellThread yX4_tellThread, Cond.code yX4_tellThread cX4_tellThread 3 (some .int), Cond.methodLink RX4 75 yX5_goes, Cond.instanceMethod yX5_goes, Cond.selects RX5 yX5_goes yX5_goes, Cond.initialized RX5]
def wsX4_tell_r2 : List Cond := [Cond.code yX5_goes cX5_goes 2 (some .boolean), Cond.fieldLink RX5 9 "RaceWatch$World" "states" "[I", Cond.methodLink RX4 81 yX4_open, Cond.instanceMethod yX4_open, Cond.selects RX4 yX4_open yX4_open, Cond.code yX4_open cX4_open 2 none, Cond.fieldLink RX4 26 "RaceWatch$Telling" "lockOf" "[I", Cond.fieldLink RX4 29 "RaceWatch$Telling" "threadBefore" "[I", Cond.methodLink RX4 59 yX4_tellEvent, Cond.instanceMethod yX4_tellEvent, Cond.selects RX4 yX4_tellEvent yX4_tellEvent, Cond.code yX4_tellEvent cX4_tellEvent 4 (some .int), Cond.fieldLink RX4 85 "RaceWatch$World" "log" "LRaceWatch$Log;", Cond.fieldLink RX4 18 "RaceWatch$Telling" "book" "LRaceWatch$Book;", Cond.methodLink RX4 89 yX3_hasRoom, Cond.instanceMethod yX3_hasRoom, Cond.selects RX3 yX3_hasRoom yX3_hasRoom, Cond.initialized RX3, Cond.code yX3_hasRoom cX3_hasRoom 2 (some .boolean), Cond.fieldLink RX3 39 "RaceWatch$Log" "count" "I", Cond.methodLink RX4 94 yX5_canBe, Cond.instanceMethod yX5_canBe, Cond.selects RX5 yX5_canBe yX5_canBe, Cond.code yX5_canBe cX5_canBe 4 (some .boolean)]
def wsX4_tell_r3 : List Cond := [Cond.fieldLink RX5 15 "RaceWatch$World" "holders" "[I", Cond.methodLink RX5 90 yX5_goes, Cond.methodLink RX5 82 yX5_locksOf, Cond.instanceMethod yX5_locksOf, Cond.selects RX5 yX5_locksOf yX5_locksOf, Cond.code yX5_locksOf cX5_locksOf 4 (some .int), Cond.methodLink RX4 98 yX5_stepIsMuch, Cond.instanceMethod yX5_stepIsMuch, Cond.selects RX5 yX5_stepIsMuch yX5_stepIsMuch, Cond.code yX5_stepIsMuch cX5_stepIsMuch 4 (some .boolean), Cond.fieldLink RX5 23 "RaceWatch$World" "ofThreads" "LRaceWatch$Clocks;", Cond.constant RX5 98 (2147483647), Cond.methodLink RX5 94 yX1_number, Cond.instanceMethod yX1_number, Cond.selects RX1 yX1_number yX1_number, Cond.initialized RX1, Cond.code yX1_number cX1_number 3 (some .int), Cond.fieldLink RX1 21 "RaceWatch$Clocks" "numbers" "[I", Cond.methodLink RX4 102 yX5_come, Cond.instanceMethod yX5_come, Cond.selects RX5 yX5_come yX5_come, Cond.code yX5_come cX5_come 6 (some .int), Cond.fieldLink RX5 43 "RaceWatch$World" "log" "LRaceWatch$Log;", Cond.constant RX5 102 (-1000000004)]
def wsX4_tell_r4 : List Cond := [Cond.fieldLink RX5 36 "RaceWatch$World" "cells" "[LRaceWatch$Kept;", Cond.methodLink RX5 99 yX3_hasRoom, Cond.methodLink RX5 103 yX5_takeIn, Cond.instanceMethod yX5_takeIn, Cond.selects RX5 yX5_takeIn yX5_takeIn, Cond.code yX5_takeIn cX5_takeIn 4 none, Cond.fieldLink RX5 27 "RaceWatch$World" "ofLocks" "LRaceWatch$Clocks;", Cond.fieldLink RX5 30 "RaceWatch$World" "ofSeenCells" "LRaceWatch$Clocks;", Cond.methodLink RX5 120 yX1_join, Cond.instanceMethod yX1_join, Cond.selects RX1 yX1_join yX1_join, Cond.code yX1_join cX1_join 5 none, Cond.methodLink RX1 9 Lib.Math.max.name, Cond.static Lib.Math.max.name, Cond.initialized "java/lang/Math", Cond.code Lib.Math.max.name Lib.Math.max.code 2 (some .int), Cond.methodLink RX1 25 yX1_number, Cond.methodLink RX1 28 yX1_set, Cond.instanceMethod yX1_set, Cond.selects RX1 yX1_set yX1_set, Cond.code yX1_set cX1_set 4 none, Cond.methodLink RX5 106 yX3_append, Cond.instanceMethod yX3_append, Cond.selects RX3 yX3_append yX3_append]
def wsX4_tell_r5 : List Cond := [Cond.code yX3_append cX3_append 7 (some .int), Cond.fieldLink RX3 9 "RaceWatch$Log" "threads" "[I", Cond.fieldLink RX3 15 "RaceWatch$Log" "sorts" "[I", Cond.fieldLink RX3 18 "RaceWatch$Log" "withs" "[I", Cond.fieldLink RX3 21 "RaceWatch$Log" "locks" "[I", Cond.fieldLink RX3 29 "RaceWatch$Log" "clocks" "LRaceWatch$Clocks;", Cond.methodLink RX3 59 yX1_copyRow, Cond.instanceMethod yX1_copyRow, Cond.selects RX1 yX1_copyRow yX1_copyRow, Cond.code yX1_copyRow cX1_copyRow 4 none, Cond.methodLink RX1 32 arraycopyName, Cond.native arraycopyName, Cond.static arraycopyName, Cond.initialized "java/lang/System", Cond.methodLink RX5 110 yX3_countRaces, Cond.instanceMethod yX3_countRaces, Cond.selects RX3 yX3_countRaces yX3_countRaces, Cond.code yX3_countRaces cX3_countRaces 5 none, Cond.fieldLink RX3 36 "RaceWatch$Log" "raceCounts" "[I", Cond.fieldLink RX3 33 "RaceWatch$Log" "racesBehind" "[I", Cond.methodLink RX3 78 yX3_kindOfPair, Cond.instanceMethod yX3_kindOfPair, Cond.selects RX3 yX3_kindOfPair yX3_kindOfPair, Cond.code yX3_kindOfPair cX3_kindOfPair 3 (some .int)]
def wsX4_tell_r6 : List Cond := [Cond.methodLink RX3 71 yX3_isAccess, Cond.instanceMethod yX3_isAccess, Cond.selects RX3 yX3_isAccess yX3_isAccess, Cond.code yX3_isAccess cX3_isAccess 2 (some .boolean), Cond.methodLink RX3 81 yX3_isAhead, Cond.instanceMethod yX3_isAhead, Cond.selects RX3 yX3_isAhead yX3_isAhead, Cond.code yX3_isAhead cX3_isAhead 4 (some .boolean), Cond.methodLink RX3 63 yX1_number, Cond.methodLink RX5 113 yX2_access, Cond.instanceMethod yX2_access, Cond.selects RX2 yX2_access yX2_access, Cond.initialized RX2, Cond.code yX2_access cX2_access 7 none, Cond.fieldLink RX2 28 "RaceWatch$Kept" "firstEvent" "I", Cond.fieldLink RX2 31 "RaceWatch$Kept" "firstKind" "I", Cond.fieldLink RX2 34 "RaceWatch$Kept" "guards" "I", Cond.fieldLink RX2 15 "RaceWatch$Kept" "writer" "I", Cond.fieldLink RX2 19 "RaceWatch$Kept" "writeNumber" "I", Cond.methodLink RX2 63 yX2_kindOf, Cond.instanceMethod yX2_kindOf, Cond.selects RX2 yX2_kindOf yX2_kindOf, Cond.code yX2_kindOf cX2_kindOf 5 (some .int), Cond.methodLink RX2 53 yX1_number]
def wsX4_tell_r7 : List Cond := [Cond.methodLink RX2 59 yX2_readsAreAhead, Cond.instanceMethod yX2_readsAreAhead, Cond.selects RX2 yX2_readsAreAhead yX2_readsAreAhead, Cond.code yX2_readsAreAhead cX2_readsAreAhead 4 (some .boolean), Cond.fieldLink RX2 43 "RaceWatch$Kept" "isShared" "Z", Cond.fieldLink RX2 37 "RaceWatch$Kept" "reader" "I", Cond.fieldLink RX2 40 "RaceWatch$Kept" "readNumber" "I", Cond.fieldLink RX2 9 "RaceWatch$Kept" "readNumbers" "[I", Cond.methodLink RX2 22 yX2_forgetReads, Cond.instanceMethod yX2_forgetReads, Cond.selects RX2 yX2_forgetReads yX2_forgetReads, Cond.code yX2_forgetReads cX2_forgetReads 1 none, Cond.methodLink RX2 75 yJ7_fill_53178, Cond.static yJ7_fill_53178, Cond.initialized RJ7, Cond.code yJ7_fill_53178 cJ7_fill_53178 4 none, Cond.methodLink RX2 67 yX2_keepRead, Cond.instanceMethod yX2_keepRead, Cond.selects RX2 yX2_keepRead yX2_keepRead, Cond.code yX2_keepRead cX2_keepRead 4 none, Cond.methodLink RX2 71 yX2_share, Cond.instanceMethod yX2_share, Cond.selects RX2 yX2_share yX2_share, Cond.code yX2_share cX2_share 3 none]
def wsX4_tell_r8 : List Cond := [Cond.fieldLink RX2 25 "RaceWatch$Kept" "promotions" "I", Cond.methodLink RX5 117 yX5_handOn, Cond.instanceMethod yX5_handOn, Cond.selects RX5 yX5_handOn yX5_handOn, Cond.code yX5_handOn cX5_handOn 4 none, Cond.methodLink RX5 124 yX1_copyRow, Cond.methodLink RX5 127 yX5_makeStep, Cond.instanceMethod yX5_makeStep, Cond.selects RX5 yX5_makeStep yX5_makeStep, Cond.code yX5_makeStep cX5_makeStep 3 none, Cond.methodLink RX5 59 yX1_set, Cond.methodLink RX4 106 yX0_enter, Cond.instanceMethod yX0_enter, Cond.selects RX0 yX0_enter yX0_enter, Cond.initialized RX0, Cond.code yX0_enter cX0_enter 3 none, Cond.fieldLink RX0 9 "RaceWatch$Book" "locks" "[I", Cond.methodLink RX0 18 arraycopyName, Cond.fieldLink RX0 15 "RaceWatch$Book" "opened" "[I", Cond.fieldLink RX0 24 "RaceWatch$Book" "count" "I", Cond.methodLink RX0 28 Lib.Math.min.name, Cond.static Lib.Math.min.name, Cond.code Lib.Math.min.name Lib.Math.min.code 2 (some .int), Cond.methodLink RX4 62 yX4_shutLast]
def wsX4_tell_r9 : List Cond := [Cond.instanceMethod yX4_shutLast, Cond.selects RX4 yX4_shutLast yX4_shutLast, Cond.code yX4_shutLast cX4_shutLast 3 none, Cond.methodLink RX4 66 yX4_tellSign, Cond.instanceMethod yX4_tellSign, Cond.selects RX4 yX4_tellSign yX4_tellSign, Cond.code yX4_tellSign cX4_tellSign 3 (some .int), Cond.methodLink RX4 72 yX4_itemOf, Cond.static yX4_itemOf, Cond.code yX4_itemOf cX4_itemOf 1 (some .int)]
def wsX4_tell : List Cond := .code yX4_tell cX4_tell 5 (some .int) :: ((wsX4_tell_r1 ++ (wsX4_tell_r2 ++ (wsX4_tell_r3 ++ (wsX4_tell_r4 ++ (wsX4_tell_r5 ++ (wsX4_tell_r6 ++ (wsX4_tell_r7 ++ (wsX4_tell_r8 ++ wsX4_tell_r9)))))))) ++ wsX40 ++ wsX50 ++ wsX30 ++ wsX10 ++ wsX20 ++ wsX00)
def wsX5_begin_r1 : List Cond := [Cond.fieldLink RX5 9 "RaceWatch$World" "states" "[I", Cond.fieldLink RX5 15 "RaceWatch$World" "holders" "[I", Cond.fieldLink RX5 23 "RaceWatch$World" "ofThreads" "LRaceWatch$Clocks;", Cond.fieldLink RX5 27 "RaceWatch$World" "ofLocks" "LRaceWatch$Clocks;", Cond.fieldLink RX5 30 "RaceWatch$World" "ofSeenCells" "LRaceWatch$Clocks;", Cond.fieldLink RX5 36 "RaceWatch$World" "cells" "[LRaceWatch$Kept;", Cond.fieldLink RX5 43 "RaceWatch$World" "log" "LRaceWatch$Log;", Cond.methodLink RX5 50 yJ7_fill_53178, Cond.static yJ7_fill_53178, Cond.initialized RJ7, Cond.code yJ7_fill_53178 cJ7_fill_53178 4 none, Cond.methodLink RX5 56 yX1_clear, Cond.instanceMethod yX1_clear, Cond.selects RX1 yX1_clear yX1_clear, Cond.initialized RX1, Cond.code yX1_clear cX1_clear 1 none, Cond.fieldLink RX1 21 "RaceWatch$Clocks" "numbers" "[I", Cond.methodLink RX1 38 yJ7_fill_53178, Cond.methodLink RX5 59 yX1_set, Cond.instanceMethod yX1_set, Cond.selects RX1 yX1_set yX1_set, Cond.code yX1_set cX1_set 4 none, Cond.methodLink RX5 63 yX2_begin, Cond.instanceMethod yX2_begin]
def wsX5_begin_r2 : List Cond := [Cond.selects RX2 yX2_begin yX2_begin, Cond.initialized RX2, Cond.code yX2_begin cX2_begin 1 none, Cond.fieldLink RX2 15 "RaceWatch$Kept" "writer" "I", Cond.fieldLink RX2 19 "RaceWatch$Kept" "writeNumber" "I", Cond.fieldLink RX2 25 "RaceWatch$Kept" "promotions" "I", Cond.fieldLink RX2 28 "RaceWatch$Kept" "firstEvent" "I", Cond.fieldLink RX2 31 "RaceWatch$Kept" "firstKind" "I", Cond.fieldLink RX2 34 "RaceWatch$Kept" "guards" "I", Cond.methodLink RX2 22 yX2_forgetReads, Cond.instanceMethod yX2_forgetReads, Cond.selects RX2 yX2_forgetReads yX2_forgetReads, Cond.code yX2_forgetReads cX2_forgetReads 1 none, Cond.fieldLink RX2 37 "RaceWatch$Kept" "reader" "I", Cond.fieldLink RX2 40 "RaceWatch$Kept" "readNumber" "I", Cond.fieldLink RX2 43 "RaceWatch$Kept" "isShared" "Z", Cond.fieldLink RX2 9 "RaceWatch$Kept" "readNumbers" "[I", Cond.methodLink RX2 75 yJ7_fill_53178, Cond.methodLink RX5 64 yX3_begin, Cond.instanceMethod yX3_begin, Cond.selects RX3 yX3_begin yX3_begin, Cond.initialized RX3, Cond.code yX3_begin cX3_begin 1 none, Cond.fieldLink RX3 39 "RaceWatch$Log" "count" "I"]
def wsX5_begin_r3 : List Cond := [Cond.fieldLink RX3 36 "RaceWatch$Log" "raceCounts" "[I", Cond.methodLink RX3 43 yJ7_fill_53178]
def wsX5_begin : List Cond := .code yX5_begin cX5_begin 2 none :: ((wsX5_begin_r1 ++ (wsX5_begin_r2 ++ wsX5_begin_r3)) ++ wsX50 ++ wsX10 ++ wsX20 ++ wsX30)
def wsX5_init_r1 : List Cond := [Cond.methodLink RX5 3 objectInit, Cond.instanceMethod objectInit, Cond.code objectInit ⟨#[0xb1]⟩ 1 none, Cond.arrayClass .int, Cond.fieldLink RX5 9 "RaceWatch$World" "states" "[I", Cond.fieldLink RX5 15 "RaceWatch$World" "holders" "[I", Cond.classLink RX5 18 RX1, Cond.instantiable RX1 2, Cond.initialized RX1, Cond.fieldLink RX5 23 "RaceWatch$World" "ofThreads" "LRaceWatch$Clocks;", Cond.fieldLink RX5 27 "RaceWatch$World" "ofLocks" "LRaceWatch$Clocks;", Cond.fieldLink RX5 30 "RaceWatch$World" "ofSeenCells" "LRaceWatch$Clocks;", Cond.classLink RX5 33 RX2, Cond.instantiable RX2 10, Cond.initialized RX2, Cond.fieldLink RX5 36 "RaceWatch$World" "cells" "[LRaceWatch$Kept;", Cond.classLink RX5 40 RX3, Cond.instantiable RX3 8, Cond.initialized RX3, Cond.fieldLink RX5 43 "RaceWatch$World" "log" "LRaceWatch$Log;", Cond.methodLink RX5 20 yX1_init, Cond.instanceMethod yX1_init, Cond.code yX1_init cX1_init 2 none, Cond.methodLink RX1 3 objectInit]
def wsX5_init_r2 : List Cond := [Cond.methodLink RX1 9 Lib.Math.max.name, Cond.static Lib.Math.max.name, Cond.initialized "java/lang/Math", Cond.code Lib.Math.max.name Lib.Math.max.code 2 (some .int), Cond.fieldLink RX1 15 "RaceWatch$Clocks" "rows" "I", Cond.fieldLink RX1 21 "RaceWatch$Clocks" "numbers" "[I", Cond.instanceMethod yX2_init, Cond.code yX2_init cX2_init 1 none, Cond.methodLink RX2 3 objectInit, Cond.fieldLink RX2 9 "RaceWatch$Kept" "readNumbers" "[I", Cond.instanceMethod yX3_init, Cond.code yX3_init cX3_init 1 none, Cond.methodLink RX3 3 objectInit, Cond.fieldLink RX3 9 "RaceWatch$Log" "threads" "[I", Cond.fieldLink RX3 15 "RaceWatch$Log" "sorts" "[I", Cond.fieldLink RX3 18 "RaceWatch$Log" "withs" "[I", Cond.fieldLink RX3 21 "RaceWatch$Log" "locks" "[I", Cond.classLink RX3 24 RX1, Cond.fieldLink RX3 29 "RaceWatch$Log" "clocks" "LRaceWatch$Clocks;", Cond.fieldLink RX3 33 "RaceWatch$Log" "racesBehind" "[I", Cond.fieldLink RX3 36 "RaceWatch$Log" "raceCounts" "[I", Cond.methodLink RX3 26 yX1_init, Cond.methodLink RX5 47 yX5_begin, Cond.instanceMethod yX5_begin]
def wsX5_init_r3 : List Cond := [Cond.selects RX5 yX5_begin yX5_begin, Cond.initialized RX5, Cond.code yX5_begin cX5_begin 2 none, Cond.methodLink RX5 50 yJ7_fill_53178, Cond.static yJ7_fill_53178, Cond.initialized RJ7, Cond.code yJ7_fill_53178 cJ7_fill_53178 4 none, Cond.methodLink RX5 56 yX1_clear, Cond.instanceMethod yX1_clear, Cond.selects RX1 yX1_clear yX1_clear, Cond.code yX1_clear cX1_clear 1 none, Cond.methodLink RX1 38 yJ7_fill_53178, Cond.methodLink RX5 59 yX1_set, Cond.instanceMethod yX1_set, Cond.selects RX1 yX1_set yX1_set, Cond.code yX1_set cX1_set 4 none, Cond.methodLink RX5 63 yX2_begin, Cond.instanceMethod yX2_begin, Cond.selects RX2 yX2_begin yX2_begin, Cond.code yX2_begin cX2_begin 1 none, Cond.fieldLink RX2 15 "RaceWatch$Kept" "writer" "I", Cond.fieldLink RX2 19 "RaceWatch$Kept" "writeNumber" "I", Cond.fieldLink RX2 25 "RaceWatch$Kept" "promotions" "I", Cond.fieldLink RX2 28 "RaceWatch$Kept" "firstEvent" "I"]
def wsX5_init_r4 : List Cond := [Cond.fieldLink RX2 31 "RaceWatch$Kept" "firstKind" "I", Cond.fieldLink RX2 34 "RaceWatch$Kept" "guards" "I", Cond.methodLink RX2 22 yX2_forgetReads, Cond.instanceMethod yX2_forgetReads, Cond.selects RX2 yX2_forgetReads yX2_forgetReads, Cond.code yX2_forgetReads cX2_forgetReads 1 none, Cond.fieldLink RX2 37 "RaceWatch$Kept" "reader" "I", Cond.fieldLink RX2 40 "RaceWatch$Kept" "readNumber" "I", Cond.fieldLink RX2 43 "RaceWatch$Kept" "isShared" "Z", Cond.methodLink RX2 75 yJ7_fill_53178, Cond.methodLink RX5 64 yX3_begin, Cond.instanceMethod yX3_begin, Cond.selects RX3 yX3_begin yX3_begin, Cond.code yX3_begin cX3_begin 1 none, Cond.fieldLink RX3 39 "RaceWatch$Log" "count" "I", Cond.methodLink RX3 43 yJ7_fill_53178]
def wsX5_init : List Cond := .code yX5_init cX5_init 1 none :: ((wsX5_init_r1 ++ (wsX5_init_r2 ++ (wsX5_init_r3 ++ wsX5_init_r4))) ++ wsX50 ++ wsX10 ++ wsX20 ++ wsX30)
def wsX5_copy_r1 : List Cond := [Cond.fieldLink RX5 9 "RaceWatch$World" "states" "[I", Cond.methodLink RX5 65 arraycopyName, Cond.native arraycopyName, Cond.static arraycopyName, Cond.initialized "java/lang/System", Cond.fieldLink RX5 15 "RaceWatch$World" "holders" "[I", Cond.fieldLink RX5 23 "RaceWatch$World" "ofThreads" "LRaceWatch$Clocks;", Cond.fieldLink RX5 27 "RaceWatch$World" "ofLocks" "LRaceWatch$Clocks;", Cond.fieldLink RX5 30 "RaceWatch$World" "ofSeenCells" "LRaceWatch$Clocks;", Cond.fieldLink RX5 36 "RaceWatch$World" "cells" "[LRaceWatch$Kept;", Cond.fieldLink RX5 43 "RaceWatch$World" "log" "LRaceWatch$Log;", Cond.methodLink RX5 71 yX1_copyRows, Cond.instanceMethod yX1_copyRows, Cond.selects RX1 yX1_copyRows yX1_copyRows, Cond.initialized RX1, Cond.code yX1_copyRows cX1_copyRows 3 none, Cond.fieldLink RX1 21 "RaceWatch$Clocks" "numbers" "[I", Cond.methodLink RX1 32 arraycopyName, Cond.methodLink RX5 75 yX2_copy, Cond.instanceMethod yX2_copy, Cond.selects RX2 yX2_copy yX2_copy, Cond.initialized RX2, Cond.code yX2_copy cX2_copy 2 none, Cond.fieldLink RX2 15 "RaceWatch$Kept" "writer" "I"]
def wsX5_copy_r2 : List Cond := [Cond.fieldLink RX2 19 "RaceWatch$Kept" "writeNumber" "I", Cond.fieldLink RX2 37 "RaceWatch$Kept" "reader" "I", Cond.fieldLink RX2 40 "RaceWatch$Kept" "readNumber" "I", Cond.fieldLink RX2 43 "RaceWatch$Kept" "isShared" "Z", Cond.fieldLink RX2 9 "RaceWatch$Kept" "readNumbers" "[I", Cond.methodLink RX2 47 arraycopyName, Cond.fieldLink RX2 25 "RaceWatch$Kept" "promotions" "I", Cond.fieldLink RX2 28 "RaceWatch$Kept" "firstEvent" "I", Cond.fieldLink RX2 31 "RaceWatch$Kept" "firstKind" "I", Cond.fieldLink RX2 34 "RaceWatch$Kept" "guards" "I", Cond.methodLink RX5 79 yX3_copy, Cond.instanceMethod yX3_copy, Cond.selects RX3 yX3_copy yX3_copy, Cond.initialized RX3, Cond.code yX3_copy cX3_copy 2 none, Cond.fieldLink RX3 39 "RaceWatch$Log" "count" "I", Cond.fieldLink RX3 9 "RaceWatch$Log" "threads" "[I", Cond.methodLink RX3 49 arraycopyName, Cond.fieldLink RX3 15 "RaceWatch$Log" "sorts" "[I", Cond.fieldLink RX3 18 "RaceWatch$Log" "withs" "[I", Cond.fieldLink RX3 21 "RaceWatch$Log" "locks" "[I", Cond.fieldLink RX3 29 "RaceWatch$Log" "clocks" "LRaceWatch$Clocks;", Cond.fieldLink RX3 33 "RaceWatch$Log" "racesBehind" "[I", Cond.fieldLink RX3 36 "RaceWatch$Log" "raceCounts" "[I"]
def wsX5_copy_r3 : List Cond := [Cond.methodLink RX3 55 yX1_copyRows]
def wsX5_copy : List Cond := .code yX5_copy cX5_copy 3 none :: ((wsX5_copy_r1 ++ (wsX5_copy_r2 ++ wsX5_copy_r3)) ++ wsX50 ++ wsX10 ++ wsX20 ++ wsX30)
def wsX5_threadsThat : List Cond := .code yX5_threadsThat cX5_threadsThat 4 (some .int) :: ([.fieldLink RX5 9 "RaceWatch$World" "states" "[I"] ++ wsX50)
def wsX5_heldLocks : List Cond := .code yX5_heldLocks cX5_heldLocks 3 (some .int) :: ([.methodLink RX5 82 yX5_locksOf, .instanceMethod yX5_locksOf, .selects RX5 yX5_locksOf yX5_locksOf, .initialized RX5, .code yX5_locksOf cX5_locksOf 4 (some .int), .fieldLink RX5 15 "RaceWatch$World" "holders" "[I"] ++ wsX50)
def wsX5_promotionsOfAll : List Cond := .code yX5_promotionsOfAll cX5_promotionsOfAll 3 (some .int) :: ([.fieldLink RX5 36 "RaceWatch$World" "cells" "[LRaceWatch$Kept;", .fieldLink RX5 86 "RaceWatch$Kept" "promotions" "I"] ++ wsX50 ++ wsX20)
def wsX6_init_r1 : List Cond := [Cond.methodLink RX6 1 objectInit, Cond.instanceMethod objectInit, Cond.code objectInit ⟨#[0xb1]⟩ 1 none, Cond.classLink RX6 7 RX5, Cond.instantiable RX5 7, Cond.initialized RX5, Cond.fieldLink RX6 10 "RaceWatch" "world" "LRaceWatch$World;", Cond.fieldLink RX6 16 "RaceWatch" "images" "[LRaceWatch$World;", Cond.arrayClass .boolean, Cond.fieldLink RX6 20 "RaceWatch" "isKept" "[Z", Cond.classLink RX6 24 RX4, Cond.instantiable RX4 11, Cond.initialized RX4, Cond.fieldLink RX6 27 "RaceWatch" "telling" "LRaceWatch$Telling;", Cond.methodLink RX6 9 yX5_init, Cond.instanceMethod yX5_init, Cond.code yX5_init cX5_init 1 none, Cond.methodLink RX5 3 objectInit, Cond.arrayClass .int, Cond.fieldLink RX5 9 "RaceWatch$World" "states" "[I", Cond.fieldLink RX5 15 "RaceWatch$World" "holders" "[I", Cond.classLink RX5 18 RX1, Cond.instantiable RX1 2, Cond.initialized RX1]
def wsX6_init_r2 : List Cond := [Cond.fieldLink RX5 23 "RaceWatch$World" "ofThreads" "LRaceWatch$Clocks;", Cond.fieldLink RX5 27 "RaceWatch$World" "ofLocks" "LRaceWatch$Clocks;", Cond.fieldLink RX5 30 "RaceWatch$World" "ofSeenCells" "LRaceWatch$Clocks;", Cond.classLink RX5 33 RX2, Cond.instantiable RX2 10, Cond.initialized RX2, Cond.fieldLink RX5 36 "RaceWatch$World" "cells" "[LRaceWatch$Kept;", Cond.classLink RX5 40 RX3, Cond.instantiable RX3 8, Cond.initialized RX3, Cond.fieldLink RX5 43 "RaceWatch$World" "log" "LRaceWatch$Log;", Cond.methodLink RX5 20 yX1_init, Cond.instanceMethod yX1_init, Cond.code yX1_init cX1_init 2 none, Cond.methodLink RX1 3 objectInit, Cond.methodLink RX1 9 Lib.Math.max.name, Cond.static Lib.Math.max.name, Cond.initialized "java/lang/Math", Cond.code Lib.Math.max.name Lib.Math.max.code 2 (some .int), Cond.fieldLink RX1 15 "RaceWatch$Clocks" "rows" "I", Cond.fieldLink RX1 21 "RaceWatch$Clocks" "numbers" "[I", Cond.instanceMethod yX2_init, Cond.code yX2_init cX2_init 1 none, Cond.methodLink RX2 3 objectInit]
def wsX6_init_r3 : List Cond := [Cond.fieldLink RX2 9 "RaceWatch$Kept" "readNumbers" "[I", Cond.instanceMethod yX3_init, Cond.code yX3_init cX3_init 1 none, Cond.methodLink RX3 3 objectInit, Cond.fieldLink RX3 9 "RaceWatch$Log" "threads" "[I", Cond.fieldLink RX3 15 "RaceWatch$Log" "sorts" "[I", Cond.fieldLink RX3 18 "RaceWatch$Log" "withs" "[I", Cond.fieldLink RX3 21 "RaceWatch$Log" "locks" "[I", Cond.classLink RX3 24 RX1, Cond.fieldLink RX3 29 "RaceWatch$Log" "clocks" "LRaceWatch$Clocks;", Cond.fieldLink RX3 33 "RaceWatch$Log" "racesBehind" "[I", Cond.fieldLink RX3 36 "RaceWatch$Log" "raceCounts" "[I", Cond.methodLink RX3 26 yX1_init, Cond.methodLink RX5 47 yX5_begin, Cond.instanceMethod yX5_begin, Cond.selects RX5 yX5_begin yX5_begin, Cond.code yX5_begin cX5_begin 2 none, Cond.methodLink RX5 50 yJ7_fill_53178, Cond.static yJ7_fill_53178, Cond.initialized RJ7, Cond.code yJ7_fill_53178 cJ7_fill_53178 4 none, Cond.methodLink RX5 56 yX1_clear, Cond.instanceMethod yX1_clear, Cond.selects RX1 yX1_clear yX1_clear]
def wsX6_init_r4 : List Cond := [Cond.code yX1_clear cX1_clear 1 none, Cond.methodLink RX1 38 yJ7_fill_53178, Cond.methodLink RX5 59 yX1_set, Cond.instanceMethod yX1_set, Cond.selects RX1 yX1_set yX1_set, Cond.code yX1_set cX1_set 4 none, Cond.methodLink RX5 63 yX2_begin, Cond.instanceMethod yX2_begin, Cond.selects RX2 yX2_begin yX2_begin, Cond.code yX2_begin cX2_begin 1 none, Cond.fieldLink RX2 15 "RaceWatch$Kept" "writer" "I", Cond.fieldLink RX2 19 "RaceWatch$Kept" "writeNumber" "I", Cond.fieldLink RX2 25 "RaceWatch$Kept" "promotions" "I", Cond.fieldLink RX2 28 "RaceWatch$Kept" "firstEvent" "I", Cond.fieldLink RX2 31 "RaceWatch$Kept" "firstKind" "I", Cond.fieldLink RX2 34 "RaceWatch$Kept" "guards" "I", Cond.methodLink RX2 22 yX2_forgetReads, Cond.instanceMethod yX2_forgetReads, Cond.selects RX2 yX2_forgetReads yX2_forgetReads, Cond.code yX2_forgetReads cX2_forgetReads 1 none, Cond.fieldLink RX2 37 "RaceWatch$Kept" "reader" "I", Cond.fieldLink RX2 40 "RaceWatch$Kept" "readNumber" "I", Cond.fieldLink RX2 43 "RaceWatch$Kept" "isShared" "Z", Cond.methodLink RX2 75 yJ7_fill_53178]
def wsX6_init_r5 : List Cond := [Cond.methodLink RX5 64 yX3_begin, Cond.instanceMethod yX3_begin, Cond.selects RX3 yX3_begin yX3_begin, Cond.code yX3_begin cX3_begin 1 none, Cond.fieldLink RX3 39 "RaceWatch$Log" "count" "I", Cond.methodLink RX3 43 yJ7_fill_53178, Cond.instanceMethod yX4_init, Cond.code yX4_init cX4_init 1 none, Cond.methodLink RX4 3 objectInit, Cond.fieldLink RX4 9 "RaceWatch$Telling" "faultAt" "I", Cond.classLink RX4 15 RX0, Cond.instantiable RX0 3, Cond.initialized RX0, Cond.fieldLink RX4 18 "RaceWatch$Telling" "book" "LRaceWatch$Book;", Cond.fieldLink RX4 22 "RaceWatch$Telling" "letters" "[I", Cond.fieldLink RX4 26 "RaceWatch$Telling" "lockOf" "[I", Cond.fieldLink RX4 29 "RaceWatch$Telling" "threadBefore" "[I", Cond.instanceMethod yX0_init, Cond.code yX0_init cX0_init 1 none, Cond.methodLink RX0 3 objectInit, Cond.fieldLink RX0 9 "RaceWatch$Book" "locks" "[I", Cond.fieldLink RX0 15 "RaceWatch$Book" "opened" "[I"]
def wsX6_init : List Cond := .code yX6_init cX6_init 1 none :: ((wsX6_init_r1 ++ (wsX6_init_r2 ++ (wsX6_init_r3 ++ (wsX6_init_r4 ++ wsX6_init_r5)))) ++ wsX50 ++ wsX60 ++ wsX40 ++ wsX10 ++ wsX20 ++ wsX30 ++ wsX00)
def wsX6_anew_r1 : List Cond := [Cond.fieldLink RX6 10 "RaceWatch" "world" "LRaceWatch$World;", Cond.fieldLink RX6 31 "RaceWatch$World" "log" "LRaceWatch$Log;", Cond.fieldLink RX6 35 "RaceWatch$Log" "count" "I", Cond.methodLink RX6 41 yX5_begin, Cond.instanceMethod yX5_begin, Cond.selects RX5 yX5_begin yX5_begin, Cond.initialized RX5, Cond.code yX5_begin cX5_begin 2 none, Cond.fieldLink RX5 9 "RaceWatch$World" "states" "[I", Cond.fieldLink RX5 15 "RaceWatch$World" "holders" "[I", Cond.fieldLink RX5 23 "RaceWatch$World" "ofThreads" "LRaceWatch$Clocks;", Cond.fieldLink RX5 27 "RaceWatch$World" "ofLocks" "LRaceWatch$Clocks;", Cond.fieldLink RX5 30 "RaceWatch$World" "ofSeenCells" "LRaceWatch$Clocks;", Cond.fieldLink RX5 36 "RaceWatch$World" "cells" "[LRaceWatch$Kept;", Cond.fieldLink RX5 43 "RaceWatch$World" "log" "LRaceWatch$Log;", Cond.methodLink RX5 50 yJ7_fill_53178, Cond.static yJ7_fill_53178, Cond.initialized RJ7, Cond.code yJ7_fill_53178 cJ7_fill_53178 4 none, Cond.methodLink RX5 56 yX1_clear, Cond.instanceMethod yX1_clear, Cond.selects RX1 yX1_clear yX1_clear, Cond.initialized RX1, Cond.code yX1_clear cX1_clear 1 none]
def wsX6_anew_r2 : List Cond := [Cond.fieldLink RX1 21 "RaceWatch$Clocks" "numbers" "[I", Cond.methodLink RX1 38 yJ7_fill_53178, Cond.methodLink RX5 59 yX1_set, Cond.instanceMethod yX1_set, Cond.selects RX1 yX1_set yX1_set, Cond.code yX1_set cX1_set 4 none, Cond.methodLink RX5 63 yX2_begin, Cond.instanceMethod yX2_begin, Cond.selects RX2 yX2_begin yX2_begin, Cond.initialized RX2, Cond.code yX2_begin cX2_begin 1 none, Cond.fieldLink RX2 15 "RaceWatch$Kept" "writer" "I", Cond.fieldLink RX2 19 "RaceWatch$Kept" "writeNumber" "I", Cond.fieldLink RX2 25 "RaceWatch$Kept" "promotions" "I", Cond.fieldLink RX2 28 "RaceWatch$Kept" "firstEvent" "I", Cond.fieldLink RX2 31 "RaceWatch$Kept" "firstKind" "I", Cond.fieldLink RX2 34 "RaceWatch$Kept" "guards" "I", Cond.methodLink RX2 22 yX2_forgetReads, Cond.instanceMethod yX2_forgetReads, Cond.selects RX2 yX2_forgetReads yX2_forgetReads, Cond.code yX2_forgetReads cX2_forgetReads 1 none, Cond.fieldLink RX2 37 "RaceWatch$Kept" "reader" "I", Cond.fieldLink RX2 40 "RaceWatch$Kept" "readNumber" "I", Cond.fieldLink RX2 43 "RaceWatch$Kept" "isShared" "Z"]
def wsX6_anew_r3 : List Cond := [Cond.fieldLink RX2 9 "RaceWatch$Kept" "readNumbers" "[I", Cond.methodLink RX2 75 yJ7_fill_53178, Cond.methodLink RX5 64 yX3_begin, Cond.instanceMethod yX3_begin, Cond.selects RX3 yX3_begin yX3_begin, Cond.initialized RX3, Cond.code yX3_begin cX3_begin 1 none, Cond.fieldLink RX3 39 "RaceWatch$Log" "count" "I", Cond.fieldLink RX3 36 "RaceWatch$Log" "raceCounts" "[I", Cond.methodLink RX3 43 yJ7_fill_53178]
def wsX6_anew : List Cond := .code yX6_anew cX6_anew 2 (some .int) :: ((wsX6_anew_r1 ++ (wsX6_anew_r2 ++ wsX6_anew_r3)) ++ wsX60 ++ wsX50 ++ wsX30 ++ wsX10 ++ wsX20)
def wsX6_feed : List Cond := .code yX6_feed cX6_feed 2 (some .int) :: ([.constant RX6 44 (-1000000002), .fieldLink RX6 27 "RaceWatch" "telling" "LRaceWatch$Telling;", .methodLink RX6 45 yX4_append, .instanceMethod yX4_append, .selects RX4 yX4_append yX4_append, .initialized RX4, .code yX4_append cX4_append 2 (some .int), .fieldLink RX4 32 "RaceWatch$Telling" "length" "I", .constant RX4 35 (-1000000004), .fieldLink RX4 22 "RaceWatch$Telling" "letters" "[I"] ++ wsX60 ++ wsX40)
def wsX6_run_r1 : List Cond := [Cond.fieldLink RX6 10 "RaceWatch" "world" "LRaceWatch$World;", Cond.fieldLink RX6 31 "RaceWatch$World" "log" "LRaceWatch$Log;", Cond.fieldLink RX6 35 "RaceWatch$Log" "count" "I", Cond.fieldLink RX6 27 "RaceWatch" "telling" "LRaceWatch$Telling;", Cond.methodLink RX6 49 yX4_tell, Cond.instanceMethod yX4_tell, Cond.selects RX4 yX4_tell yX4_tell, Cond.initialized RX4, Cond.code yX4_tell cX4_tell 5 (some .int), Cond.fieldLink RX4 36 "RaceWatch$Telling" "due" "I", Cond.fieldLink RX4 39 "RaceWatch$Telling" "threadAtIt" "I", Cond.fieldLink RX4 42 "RaceWatch$Telling" "openRegions" "I", Cond.fieldLink RX4 45 "RaceWatch$Telling" "depth" "I", Cond.fieldLink RX4 32 "RaceWatch$Telling" "length" "I", Cond.fieldLink RX4 22 "RaceWatch$Telling" "letters" "[I", Cond.fieldLink RX4 52 "RaceWatch$Telling" "item" "I", Cond.fieldLink RX4 9 "RaceWatch$Telling" "faultAt" "I", Cond.methodLink RX4 48 yX4_faultOfFigure, Cond.instanceMethod yX4_faultOfFigure, Cond.selects RX4 yX4_faultOfFigure yX4_faultOfFigure, Cond.code yX4_faultOfFigure cX4_faultOfFigure 2 (some .int), Cond.static yX6_boundOf, Cond.initialized RX6, Cond.code yX6_boundOf cX6_boundOf 1 (some .int)]
def wsX6_run_r2 : List Cond := [Cond.methodLink RX4 55 yX4_tellThread, Cond.instanceMethod yX4_tellThread, Cond.selects RX4 yX4_tellThread yX4_tellThread, Cond.code yX4_tellThread cX4_tellThread 3 (some .int), Cond.methodLink RX4 75 yX5_goes, Cond.instanceMethod yX5_goes, Cond.selects RX5 yX5_goes yX5_goes, Cond.initialized RX5, Cond.code yX5_goes cX5_goes 2 (some .boolean), Cond.fieldLink RX5 9 "RaceWatch$World" "states" "[I", Cond.methodLink RX4 81 yX4_open, Cond.instanceMethod yX4_open, Cond.selects RX4 yX4_open yX4_open, Cond.code yX4_open cX4_open 2 none, Cond.fieldLink RX4 26 "RaceWatch$Telling" "lockOf" "[I", Cond.fieldLink RX4 29 "RaceWatch$Telling" "threadBefore" "[I", Cond.methodLink RX4 59 yX4_tellEvent, Cond.instanceMethod yX4_tellEvent, Cond.selects RX4 yX4_tellEvent yX4_tellEvent, Cond.code yX4_tellEvent cX4_tellEvent 4 (some .int), Cond.fieldLink RX4 85 "RaceWatch$World" "log" "LRaceWatch$Log;", Cond.fieldLink RX4 18 "RaceWatch$Telling" "book" "LRaceWatch$Book;", Cond.methodLink RX4 89 yX3_hasRoom, Cond.instanceMethod yX3_hasRoom]
def wsX6_run_r3 : List Cond := [Cond.selects RX3 yX3_hasRoom yX3_hasRoom, Cond.initialized RX3, Cond.code yX3_hasRoom cX3_hasRoom 2 (some .boolean), Cond.fieldLink RX3 39 "RaceWatch$Log" "count" "I", Cond.methodLink RX4 94 yX5_canBe, Cond.instanceMethod yX5_canBe, Cond.selects RX5 yX5_canBe yX5_canBe, Cond.code yX5_canBe cX5_canBe 4 (some .boolean), Cond.fieldLink RX5 15 "RaceWatch$World" "holders" "[I", Cond.methodLink RX5 90 yX5_goes, Cond.methodLink RX5 82 yX5_locksOf, Cond.instanceMethod yX5_locksOf, Cond.selects RX5 yX5_locksOf yX5_locksOf, Cond.code yX5_locksOf cX5_locksOf 4 (some .int), Cond.methodLink RX4 98 yX5_stepIsMuch, Cond.instanceMethod yX5_stepIsMuch, Cond.selects RX5 yX5_stepIsMuch yX5_stepIsMuch, Cond.code yX5_stepIsMuch cX5_stepIsMuch 4 (some .boolean), Cond.fieldLink RX5 23 "RaceWatch$World" "ofThreads" "LRaceWatch$Clocks;", Cond.constant RX5 98 (2147483647), Cond.methodLink RX5 94 yX1_number, Cond.instanceMethod yX1_number, Cond.selects RX1 yX1_number yX1_number, Cond.initialized RX1]
def wsX6_run_r4 : List Cond := [Cond.code yX1_number cX1_number 3 (some .int), Cond.fieldLink RX1 21 "RaceWatch$Clocks" "numbers" "[I", Cond.methodLink RX4 102 yX5_come, Cond.instanceMethod yX5_come, Cond.selects RX5 yX5_come yX5_come, Cond.code yX5_come cX5_come 6 (some .int), Cond.fieldLink RX5 43 "RaceWatch$World" "log" "LRaceWatch$Log;", Cond.constant RX5 102 (-1000000004), Cond.fieldLink RX5 36 "RaceWatch$World" "cells" "[LRaceWatch$Kept;", Cond.methodLink RX5 99 yX3_hasRoom, Cond.methodLink RX5 103 yX5_takeIn, Cond.instanceMethod yX5_takeIn, Cond.selects RX5 yX5_takeIn yX5_takeIn, Cond.code yX5_takeIn cX5_takeIn 4 none, Cond.fieldLink RX5 27 "RaceWatch$World" "ofLocks" "LRaceWatch$Clocks;", Cond.fieldLink RX5 30 "RaceWatch$World" "ofSeenCells" "LRaceWatch$Clocks;", Cond.methodLink RX5 120 yX1_join, Cond.instanceMethod yX1_join, Cond.selects RX1 yX1_join yX1_join, Cond.code yX1_join cX1_join 5 none, Cond.methodLink RX1 9 Lib.Math.max.name, Cond.static Lib.Math.max.name, Cond.initialized "java/lang/Math", Cond.code Lib.Math.max.name Lib.Math.max.code 2 (some .int)]
def wsX6_run_r5 : List Cond := [Cond.methodLink RX1 25 yX1_number, Cond.methodLink RX1 28 yX1_set, Cond.instanceMethod yX1_set, Cond.selects RX1 yX1_set yX1_set, Cond.code yX1_set cX1_set 4 none, Cond.methodLink RX5 106 yX3_append, Cond.instanceMethod yX3_append, Cond.selects RX3 yX3_append yX3_append, Cond.code yX3_append cX3_append 7 (some .int), Cond.fieldLink RX3 9 "RaceWatch$Log" "threads" "[I", Cond.fieldLink RX3 15 "RaceWatch$Log" "sorts" "[I", Cond.fieldLink RX3 18 "RaceWatch$Log" "withs" "[I", Cond.fieldLink RX3 21 "RaceWatch$Log" "locks" "[I", Cond.fieldLink RX3 29 "RaceWatch$Log" "clocks" "LRaceWatch$Clocks;", Cond.methodLink RX3 59 yX1_copyRow, Cond.instanceMethod yX1_copyRow, Cond.selects RX1 yX1_copyRow yX1_copyRow, Cond.code yX1_copyRow cX1_copyRow 4 none, Cond.methodLink RX1 32 arraycopyName, Cond.native arraycopyName, Cond.static arraycopyName, Cond.initialized "java/lang/System", Cond.methodLink RX5 110 yX3_countRaces, Cond.instanceMethod yX3_countRaces]
def wsX6_run_r6 : List Cond := [Cond.selects RX3 yX3_countRaces yX3_countRaces, Cond.code yX3_countRaces cX3_countRaces 5 none, Cond.fieldLink RX3 36 "RaceWatch$Log" "raceCounts" "[I", Cond.fieldLink RX3 33 "RaceWatch$Log" "racesBehind" "[I", Cond.methodLink RX3 78 yX3_kindOfPair, Cond.instanceMethod yX3_kindOfPair, Cond.selects RX3 yX3_kindOfPair yX3_kindOfPair, Cond.code yX3_kindOfPair cX3_kindOfPair 3 (some .int), Cond.methodLink RX3 71 yX3_isAccess, Cond.instanceMethod yX3_isAccess, Cond.selects RX3 yX3_isAccess yX3_isAccess, Cond.code yX3_isAccess cX3_isAccess 2 (some .boolean), Cond.methodLink RX3 81 yX3_isAhead, Cond.instanceMethod yX3_isAhead, Cond.selects RX3 yX3_isAhead yX3_isAhead, Cond.code yX3_isAhead cX3_isAhead 4 (some .boolean), Cond.methodLink RX3 63 yX1_number, Cond.methodLink RX5 113 yX2_access, Cond.instanceMethod yX2_access, Cond.selects RX2 yX2_access yX2_access, Cond.initialized RX2, Cond.code yX2_access cX2_access 7 none, Cond.fieldLink RX2 28 "RaceWatch$Kept" "firstEvent" "I", Cond.fieldLink RX2 31 "RaceWatch$Kept" "firstKind" "I"]
def wsX6_run_r7 : List Cond := [Cond.fieldLink RX2 34 "RaceWatch$Kept" "guards" "I", Cond.fieldLink RX2 15 "RaceWatch$Kept" "writer" "I", Cond.fieldLink RX2 19 "RaceWatch$Kept" "writeNumber" "I", Cond.methodLink RX2 63 yX2_kindOf, Cond.instanceMethod yX2_kindOf, Cond.selects RX2 yX2_kindOf yX2_kindOf, Cond.code yX2_kindOf cX2_kindOf 5 (some .int), Cond.methodLink RX2 53 yX1_number, Cond.methodLink RX2 59 yX2_readsAreAhead, Cond.instanceMethod yX2_readsAreAhead, Cond.selects RX2 yX2_readsAreAhead yX2_readsAreAhead, Cond.code yX2_readsAreAhead cX2_readsAreAhead 4 (some .boolean), Cond.fieldLink RX2 43 "RaceWatch$Kept" "isShared" "Z", Cond.fieldLink RX2 37 "RaceWatch$Kept" "reader" "I", Cond.fieldLink RX2 40 "RaceWatch$Kept" "readNumber" "I", Cond.fieldLink RX2 9 "RaceWatch$Kept" "readNumbers" "[I", Cond.methodLink RX2 22 yX2_forgetReads, Cond.instanceMethod yX2_forgetReads, Cond.selects RX2 yX2_forgetReads yX2_forgetReads, Cond.code yX2_forgetReads cX2_forgetReads 1 none, Cond.methodLink RX2 75 yJ7_fill_53178, Cond.static yJ7_fill_53178, Cond.initialized RJ7, Cond.code yJ7_fill_53178 cJ7_fill_53178 4 none]
def wsX6_run_r8 : List Cond := [Cond.methodLink RX2 67 yX2_keepRead, Cond.instanceMethod yX2_keepRead, Cond.selects RX2 yX2_keepRead yX2_keepRead, Cond.code yX2_keepRead cX2_keepRead 4 none, Cond.methodLink RX2 71 yX2_share, Cond.instanceMethod yX2_share, Cond.selects RX2 yX2_share yX2_share, Cond.code yX2_share cX2_share 3 none, Cond.fieldLink RX2 25 "RaceWatch$Kept" "promotions" "I", Cond.methodLink RX5 117 yX5_handOn, Cond.instanceMethod yX5_handOn, Cond.selects RX5 yX5_handOn yX5_handOn, Cond.code yX5_handOn cX5_handOn 4 none, Cond.methodLink RX5 124 yX1_copyRow, Cond.methodLink RX5 127 yX5_makeStep, Cond.instanceMethod yX5_makeStep, Cond.selects RX5 yX5_makeStep yX5_makeStep, Cond.code yX5_makeStep cX5_makeStep 3 none, Cond.methodLink RX5 59 yX1_set, Cond.methodLink RX4 106 yX0_enter, Cond.instanceMethod yX0_enter, Cond.selects RX0 yX0_enter yX0_enter, Cond.initialized RX0, Cond.code yX0_enter cX0_enter 3 none]
def wsX6_run_r9 : List Cond := [Cond.fieldLink RX0 9 "RaceWatch$Book" "locks" "[I", Cond.methodLink RX0 18 arraycopyName, Cond.fieldLink RX0 15 "RaceWatch$Book" "opened" "[I", Cond.fieldLink RX0 24 "RaceWatch$Book" "count" "I", Cond.methodLink RX0 28 Lib.Math.min.name, Cond.static Lib.Math.min.name, Cond.code Lib.Math.min.name Lib.Math.min.code 2 (some .int), Cond.methodLink RX4 62 yX4_shutLast, Cond.instanceMethod yX4_shutLast, Cond.selects RX4 yX4_shutLast yX4_shutLast, Cond.code yX4_shutLast cX4_shutLast 3 none, Cond.methodLink RX4 66 yX4_tellSign, Cond.instanceMethod yX4_tellSign, Cond.selects RX4 yX4_tellSign yX4_tellSign, Cond.code yX4_tellSign cX4_tellSign 3 (some .int), Cond.methodLink RX4 72 yX4_itemOf, Cond.static yX4_itemOf, Cond.code yX4_itemOf cX4_itemOf 1 (some .int)]
def wsX6_run : List Cond := .code yX6_run cX6_run 3 (some .int) :: ((wsX6_run_r1 ++ (wsX6_run_r2 ++ (wsX6_run_r3 ++ (wsX6_run_r4 ++ (wsX6_run_r5 ++ (wsX6_run_r6 ++ (wsX6_run_r7 ++ (wsX6_run_r8 ++ wsX6_run_r9)))))))) ++ wsX60 ++ wsX50 ++ wsX30 ++ wsX40 ++ wsX10 ++ wsX20 ++ wsX00)
def wsX6_fault : List Cond := .code yX6_fault cX6_fault 1 (some .int) :: ([.fieldLink RX6 27 "RaceWatch" "telling" "LRaceWatch$Telling;", .fieldLink RX6 53 "RaceWatch$Telling" "faultAt" "I"] ++ wsX60 ++ wsX40)
def wsX6_isIn : List Cond := .code yX6_isIn cX6_isIn 2 (some .boolean) :: ([])
def wsX6_isItself : List Cond := .code yX6_isItself cX6_isItself 3 (some .boolean) :: ([])
def wsX6_refusalOf_r1 : List Cond := [Cond.constant RX6 67 (-1000000001), Cond.constant RX6 44 (-1000000002), Cond.fieldLink RX6 10 "RaceWatch" "world" "LRaceWatch$World;", Cond.constant RX6 72 (-1000000003), Cond.fieldLink RX6 31 "RaceWatch$World" "log" "LRaceWatch$Log;", Cond.constant RX6 226 (-1000000004), Cond.constant RX6 84 (-1000000005), Cond.methodLink RX6 63 yX6_isIn, Cond.static yX6_isIn, Cond.initialized RX6, Cond.code yX6_isIn cX6_isIn 2 (some .boolean), Cond.methodLink RX6 98 yX6_boundOf, Cond.static yX6_boundOf, Cond.code yX6_boundOf cX6_boundOf 1 (some .int), Cond.methodLink RX6 216 yX6_isItself, Cond.static yX6_isItself, Cond.code yX6_isItself cX6_isItself 3 (some .boolean), Cond.methodLink RX6 220 yX5_canBe, Cond.instanceMethod yX5_canBe, Cond.selects RX5 yX5_canBe yX5_canBe, Cond.initialized RX5, Cond.code yX5_canBe cX5_canBe 4 (some .boolean), Cond.fieldLink RX5 15 "RaceWatch$World" "holders" "[I", Cond.fieldLink RX5 9 "RaceWatch$World" "states" "[I"]
def wsX6_refusalOf_r2 : List Cond := [Cond.methodLink RX5 90 yX5_goes, Cond.instanceMethod yX5_goes, Cond.selects RX5 yX5_goes yX5_goes, Cond.code yX5_goes cX5_goes 2 (some .boolean), Cond.methodLink RX5 82 yX5_locksOf, Cond.instanceMethod yX5_locksOf, Cond.selects RX5 yX5_locksOf yX5_locksOf, Cond.code yX5_locksOf cX5_locksOf 4 (some .int), Cond.methodLink RX6 223 yX3_hasRoom, Cond.instanceMethod yX3_hasRoom, Cond.selects RX3 yX3_hasRoom yX3_hasRoom, Cond.initialized RX3, Cond.code yX3_hasRoom cX3_hasRoom 2 (some .boolean), Cond.fieldLink RX3 39 "RaceWatch$Log" "count" "I", Cond.methodLink RX6 227 yX5_stepIsMuch, Cond.instanceMethod yX5_stepIsMuch, Cond.selects RX5 yX5_stepIsMuch yX5_stepIsMuch, Cond.code yX5_stepIsMuch cX5_stepIsMuch 4 (some .boolean), Cond.fieldLink RX5 23 "RaceWatch$World" "ofThreads" "LRaceWatch$Clocks;", Cond.constant RX5 98 (2147483647), Cond.methodLink RX5 94 yX1_number, Cond.instanceMethod yX1_number, Cond.selects RX1 yX1_number yX1_number, Cond.initialized RX1]
def wsX6_refusalOf_r3 : List Cond := [Cond.code yX1_number cX1_number 3 (some .int), Cond.fieldLink RX1 21 "RaceWatch$Clocks" "numbers" "[I"]
def wsX6_refusalOf : List Cond := .code yX6_refusalOf cX6_refusalOf 4 (some .int) :: ((wsX6_refusalOf_r1 ++ (wsX6_refusalOf_r2 ++ wsX6_refusalOf_r3)) ++ wsX60 ++ wsX50 ++ wsX30 ++ wsX10)
def wsX6_event_r1 : List Cond := [Cond.fieldLink RX6 10 "RaceWatch" "world" "LRaceWatch$World;", Cond.methodLink RX6 56 yX6_refusalOf, Cond.instanceMethod yX6_refusalOf, Cond.selects RX6 yX6_refusalOf yX6_refusalOf, Cond.initialized RX6, Cond.code yX6_refusalOf cX6_refusalOf 4 (some .int), Cond.constant RX6 67 (-1000000001), Cond.constant RX6 44 (-1000000002), Cond.constant RX6 72 (-1000000003), Cond.fieldLink RX6 31 "RaceWatch$World" "log" "LRaceWatch$Log;", Cond.constant RX6 226 (-1000000004), Cond.constant RX6 84 (-1000000005), Cond.methodLink RX6 63 yX6_isIn, Cond.static yX6_isIn, Cond.code yX6_isIn cX6_isIn 2 (some .boolean), Cond.methodLink RX6 98 yX6_boundOf, Cond.static yX6_boundOf, Cond.code yX6_boundOf cX6_boundOf 1 (some .int), Cond.methodLink RX6 216 yX6_isItself, Cond.static yX6_isItself, Cond.code yX6_isItself cX6_isItself 3 (some .boolean), Cond.methodLink RX6 220 yX5_canBe, Cond.instanceMethod yX5_canBe, Cond.selects RX5 yX5_canBe yX5_canBe]
def wsX6_event_r2 : List Cond := [Cond.initialized RX5, Cond.code yX5_canBe cX5_canBe 4 (some .boolean), Cond.fieldLink RX5 15 "RaceWatch$World" "holders" "[I", Cond.fieldLink RX5 9 "RaceWatch$World" "states" "[I", Cond.methodLink RX5 90 yX5_goes, Cond.instanceMethod yX5_goes, Cond.selects RX5 yX5_goes yX5_goes, Cond.code yX5_goes cX5_goes 2 (some .boolean), Cond.methodLink RX5 82 yX5_locksOf, Cond.instanceMethod yX5_locksOf, Cond.selects RX5 yX5_locksOf yX5_locksOf, Cond.code yX5_locksOf cX5_locksOf 4 (some .int), Cond.methodLink RX6 223 yX3_hasRoom, Cond.instanceMethod yX3_hasRoom, Cond.selects RX3 yX3_hasRoom yX3_hasRoom, Cond.initialized RX3, Cond.code yX3_hasRoom cX3_hasRoom 2 (some .boolean), Cond.fieldLink RX3 39 "RaceWatch$Log" "count" "I", Cond.methodLink RX6 227 yX5_stepIsMuch, Cond.instanceMethod yX5_stepIsMuch, Cond.selects RX5 yX5_stepIsMuch yX5_stepIsMuch, Cond.code yX5_stepIsMuch cX5_stepIsMuch 4 (some .boolean), Cond.fieldLink RX5 23 "RaceWatch$World" "ofThreads" "LRaceWatch$Clocks;", Cond.constant RX5 98 (2147483647)]
def wsX6_event_r3 : List Cond := [Cond.methodLink RX5 94 yX1_number, Cond.instanceMethod yX1_number, Cond.selects RX1 yX1_number yX1_number, Cond.initialized RX1, Cond.code yX1_number cX1_number 3 (some .int), Cond.fieldLink RX1 21 "RaceWatch$Clocks" "numbers" "[I", Cond.methodLink RX6 60 yX5_come, Cond.instanceMethod yX5_come, Cond.selects RX5 yX5_come yX5_come, Cond.code yX5_come cX5_come 6 (some .int), Cond.fieldLink RX5 43 "RaceWatch$World" "log" "LRaceWatch$Log;", Cond.constant RX5 102 (-1000000004), Cond.fieldLink RX5 36 "RaceWatch$World" "cells" "[LRaceWatch$Kept;", Cond.methodLink RX5 99 yX3_hasRoom, Cond.methodLink RX5 103 yX5_takeIn, Cond.instanceMethod yX5_takeIn, Cond.selects RX5 yX5_takeIn yX5_takeIn, Cond.code yX5_takeIn cX5_takeIn 4 none, Cond.fieldLink RX5 27 "RaceWatch$World" "ofLocks" "LRaceWatch$Clocks;", Cond.fieldLink RX5 30 "RaceWatch$World" "ofSeenCells" "LRaceWatch$Clocks;", Cond.methodLink RX5 120 yX1_join, Cond.instanceMethod yX1_join, Cond.selects RX1 yX1_join yX1_join, Cond.code yX1_join cX1_join 5 none]
def wsX6_event_r4 : List Cond := [Cond.methodLink RX1 9 Lib.Math.max.name, Cond.static Lib.Math.max.name, Cond.initialized "java/lang/Math", Cond.code Lib.Math.max.name Lib.Math.max.code 2 (some .int), Cond.methodLink RX1 25 yX1_number, Cond.methodLink RX1 28 yX1_set, Cond.instanceMethod yX1_set, Cond.selects RX1 yX1_set yX1_set, Cond.code yX1_set cX1_set 4 none, Cond.methodLink RX5 106 yX3_append, Cond.instanceMethod yX3_append, Cond.selects RX3 yX3_append yX3_append, Cond.code yX3_append cX3_append 7 (some .int), Cond.fieldLink RX3 9 "RaceWatch$Log" "threads" "[I", Cond.fieldLink RX3 15 "RaceWatch$Log" "sorts" "[I", Cond.fieldLink RX3 18 "RaceWatch$Log" "withs" "[I", Cond.fieldLink RX3 21 "RaceWatch$Log" "locks" "[I", Cond.fieldLink RX3 29 "RaceWatch$Log" "clocks" "LRaceWatch$Clocks;", Cond.methodLink RX3 59 yX1_copyRow, Cond.instanceMethod yX1_copyRow, Cond.selects RX1 yX1_copyRow yX1_copyRow, Cond.code yX1_copyRow cX1_copyRow 4 none, Cond.methodLink RX1 32 arraycopyName, Cond.native arraycopyName]
def wsX6_event_r5 : List Cond := [Cond.static arraycopyName, Cond.initialized "java/lang/System", Cond.methodLink RX5 110 yX3_countRaces, Cond.instanceMethod yX3_countRaces, Cond.selects RX3 yX3_countRaces yX3_countRaces, Cond.code yX3_countRaces cX3_countRaces 5 none, Cond.fieldLink RX3 36 "RaceWatch$Log" "raceCounts" "[I", Cond.fieldLink RX3 33 "RaceWatch$Log" "racesBehind" "[I", Cond.methodLink RX3 78 yX3_kindOfPair, Cond.instanceMethod yX3_kindOfPair, Cond.selects RX3 yX3_kindOfPair yX3_kindOfPair, Cond.code yX3_kindOfPair cX3_kindOfPair 3 (some .int), Cond.methodLink RX3 71 yX3_isAccess, Cond.instanceMethod yX3_isAccess, Cond.selects RX3 yX3_isAccess yX3_isAccess, Cond.code yX3_isAccess cX3_isAccess 2 (some .boolean), Cond.methodLink RX3 81 yX3_isAhead, Cond.instanceMethod yX3_isAhead, Cond.selects RX3 yX3_isAhead yX3_isAhead, Cond.code yX3_isAhead cX3_isAhead 4 (some .boolean), Cond.methodLink RX3 63 yX1_number, Cond.methodLink RX5 113 yX2_access, Cond.instanceMethod yX2_access, Cond.selects RX2 yX2_access yX2_access]
def wsX6_event_r6 : List Cond := [Cond.initialized RX2, Cond.code yX2_access cX2_access 7 none, Cond.fieldLink RX2 28 "RaceWatch$Kept" "firstEvent" "I", Cond.fieldLink RX2 31 "RaceWatch$Kept" "firstKind" "I", Cond.fieldLink RX2 34 "RaceWatch$Kept" "guards" "I", Cond.fieldLink RX2 15 "RaceWatch$Kept" "writer" "I", Cond.fieldLink RX2 19 "RaceWatch$Kept" "writeNumber" "I", Cond.methodLink RX2 63 yX2_kindOf, Cond.instanceMethod yX2_kindOf, Cond.selects RX2 yX2_kindOf yX2_kindOf, Cond.code yX2_kindOf cX2_kindOf 5 (some .int), Cond.methodLink RX2 53 yX1_number, Cond.methodLink RX2 59 yX2_readsAreAhead, Cond.instanceMethod yX2_readsAreAhead, Cond.selects RX2 yX2_readsAreAhead yX2_readsAreAhead, Cond.code yX2_readsAreAhead cX2_readsAreAhead 4 (some .boolean), Cond.fieldLink RX2 43 "RaceWatch$Kept" "isShared" "Z", Cond.fieldLink RX2 37 "RaceWatch$Kept" "reader" "I", Cond.fieldLink RX2 40 "RaceWatch$Kept" "readNumber" "I", Cond.fieldLink RX2 9 "RaceWatch$Kept" "readNumbers" "[I", Cond.methodLink RX2 22 yX2_forgetReads, Cond.instanceMethod yX2_forgetReads, Cond.selects RX2 yX2_forgetReads yX2_forgetReads, Cond.code yX2_forgetReads cX2_forgetReads 1 none]
def wsX6_event_r7 : List Cond := [Cond.methodLink RX2 75 yJ7_fill_53178, Cond.static yJ7_fill_53178, Cond.initialized RJ7, Cond.code yJ7_fill_53178 cJ7_fill_53178 4 none, Cond.methodLink RX2 67 yX2_keepRead, Cond.instanceMethod yX2_keepRead, Cond.selects RX2 yX2_keepRead yX2_keepRead, Cond.code yX2_keepRead cX2_keepRead 4 none, Cond.methodLink RX2 71 yX2_share, Cond.instanceMethod yX2_share, Cond.selects RX2 yX2_share yX2_share, Cond.code yX2_share cX2_share 3 none, Cond.fieldLink RX2 25 "RaceWatch$Kept" "promotions" "I", Cond.methodLink RX5 117 yX5_handOn, Cond.instanceMethod yX5_handOn, Cond.selects RX5 yX5_handOn yX5_handOn, Cond.code yX5_handOn cX5_handOn 4 none, Cond.methodLink RX5 124 yX1_copyRow, Cond.methodLink RX5 127 yX5_makeStep, Cond.instanceMethod yX5_makeStep, Cond.selects RX5 yX5_makeStep yX5_makeStep, Cond.code yX5_makeStep cX5_makeStep 3 none, Cond.methodLink RX5 59 yX1_set]
def wsX6_event : List Cond := .code yX6_event cX6_event 5 (some .int) :: ((wsX6_event_r1 ++ (wsX6_event_r2 ++ (wsX6_event_r3 ++ (wsX6_event_r4 ++ (wsX6_event_r5 ++ (wsX6_event_r6 ++ wsX6_event_r7)))))) ++ wsX60 ++ wsX50 ++ wsX30 ++ wsX10 ++ wsX20)
def wsX6_jump_r1 : List Cond := [Cond.constant RX6 67 (-1000000001), Cond.constant RX6 44 (-1000000002), Cond.fieldLink RX6 10 "RaceWatch" "world" "LRaceWatch$World;", Cond.constant RX6 72 (-1000000003), Cond.fieldLink RX6 73 "RaceWatch$World" "ofThreads" "LRaceWatch$Clocks;", Cond.constant RX6 83 (2147483647), Cond.constant RX6 84 (-1000000005), Cond.methodLink RX6 63 yX6_isIn, Cond.static yX6_isIn, Cond.initialized RX6, Cond.code yX6_isIn cX6_isIn 2 (some .boolean), Cond.methodLink RX6 68 yX5_goes, Cond.instanceMethod yX5_goes, Cond.selects RX5 yX5_goes yX5_goes, Cond.initialized RX5, Cond.code yX5_goes cX5_goes 2 (some .boolean), Cond.fieldLink RX5 9 "RaceWatch$World" "states" "[I", Cond.methodLink RX6 77 yX1_number, Cond.instanceMethod yX1_number, Cond.selects RX1 yX1_number yX1_number, Cond.initialized RX1, Cond.code yX1_number cX1_number 3 (some .int), Cond.fieldLink RX1 21 "RaceWatch$Clocks" "numbers" "[I", Cond.methodLink RX6 85 yX1_set]
def wsX6_jump_r2 : List Cond := [Cond.instanceMethod yX1_set, Cond.selects RX1 yX1_set yX1_set, Cond.code yX1_set cX1_set 4 none]
def wsX6_jump : List Cond := .code yX6_jump cX6_jump 4 (some .int) :: ((wsX6_jump_r1 ++ wsX6_jump_r2) ++ wsX60 ++ wsX50 ++ wsX10)
def wsX6_lotBehind : List Cond := .code yX6_lotBehind cX6_lotBehind 2 (some .long) :: ([.constantLong RX6 230 (16807), .constantLong RX6 232 (2147483647)])
def wsX6_drift_r1 : List Cond := [Cond.constant RX6 89 (999999), Cond.constant RX6 44 (-1000000002), Cond.fieldLink RX6 10 "RaceWatch" "world" "LRaceWatch$World;", Cond.fieldLink RX6 31 "RaceWatch$World" "log" "LRaceWatch$Log;", Cond.fieldLink RX6 35 "RaceWatch$Log" "count" "I", Cond.constantLong RX6 94 (4), Cond.constantLong RX6 96 (8), Cond.methodLink RX6 90 yX6_lotBehind, Cond.static yX6_lotBehind, Cond.initialized RX6, Cond.code yX6_lotBehind cX6_lotBehind 2 (some .long), Cond.constantLong RX6 230 (16807), Cond.constantLong RX6 232 (2147483647), Cond.methodLink RX6 98 yX6_boundOf, Cond.static yX6_boundOf, Cond.code yX6_boundOf cX6_boundOf 1 (some .int), Cond.methodLink RX6 56 yX6_refusalOf, Cond.instanceMethod yX6_refusalOf, Cond.selects RX6 yX6_refusalOf yX6_refusalOf, Cond.code yX6_refusalOf cX6_refusalOf 4 (some .int), Cond.constant RX6 67 (-1000000001), Cond.constant RX6 72 (-1000000003), Cond.constant RX6 226 (-1000000004), Cond.constant RX6 84 (-1000000005)]
def wsX6_drift_r2 : List Cond := [Cond.methodLink RX6 63 yX6_isIn, Cond.static yX6_isIn, Cond.code yX6_isIn cX6_isIn 2 (some .boolean), Cond.methodLink RX6 216 yX6_isItself, Cond.static yX6_isItself, Cond.code yX6_isItself cX6_isItself 3 (some .boolean), Cond.methodLink RX6 220 yX5_canBe, Cond.instanceMethod yX5_canBe, Cond.selects RX5 yX5_canBe yX5_canBe, Cond.initialized RX5, Cond.code yX5_canBe cX5_canBe 4 (some .boolean), Cond.fieldLink RX5 15 "RaceWatch$World" "holders" "[I", Cond.fieldLink RX5 9 "RaceWatch$World" "states" "[I", Cond.methodLink RX5 90 yX5_goes, Cond.instanceMethod yX5_goes, Cond.selects RX5 yX5_goes yX5_goes, Cond.code yX5_goes cX5_goes 2 (some .boolean), Cond.methodLink RX5 82 yX5_locksOf, Cond.instanceMethod yX5_locksOf, Cond.selects RX5 yX5_locksOf yX5_locksOf, Cond.code yX5_locksOf cX5_locksOf 4 (some .int), Cond.methodLink RX6 223 yX3_hasRoom, Cond.instanceMethod yX3_hasRoom, Cond.selects RX3 yX3_hasRoom yX3_hasRoom]
def wsX6_drift_r3 : List Cond := [Cond.initialized RX3, Cond.code yX3_hasRoom cX3_hasRoom 2 (some .boolean), Cond.fieldLink RX3 39 "RaceWatch$Log" "count" "I", Cond.methodLink RX6 227 yX5_stepIsMuch, Cond.instanceMethod yX5_stepIsMuch, Cond.selects RX5 yX5_stepIsMuch yX5_stepIsMuch, Cond.code yX5_stepIsMuch cX5_stepIsMuch 4 (some .boolean), Cond.fieldLink RX5 23 "RaceWatch$World" "ofThreads" "LRaceWatch$Clocks;", Cond.constant RX5 98 (2147483647), Cond.methodLink RX5 94 yX1_number, Cond.instanceMethod yX1_number, Cond.selects RX1 yX1_number yX1_number, Cond.initialized RX1, Cond.code yX1_number cX1_number 3 (some .int), Cond.fieldLink RX1 21 "RaceWatch$Clocks" "numbers" "[I", Cond.methodLink RX6 60 yX5_come, Cond.instanceMethod yX5_come, Cond.selects RX5 yX5_come yX5_come, Cond.code yX5_come cX5_come 6 (some .int), Cond.fieldLink RX5 43 "RaceWatch$World" "log" "LRaceWatch$Log;", Cond.constant RX5 102 (-1000000004), Cond.fieldLink RX5 36 "RaceWatch$World" "cells" "[LRaceWatch$Kept;", Cond.methodLink RX5 99 yX3_hasRoom, Cond.methodLink RX5 103 yX5_takeIn]
def wsX6_drift_r4 : List Cond := [Cond.instanceMethod yX5_takeIn, Cond.selects RX5 yX5_takeIn yX5_takeIn, Cond.code yX5_takeIn cX5_takeIn 4 none, Cond.fieldLink RX5 27 "RaceWatch$World" "ofLocks" "LRaceWatch$Clocks;", Cond.fieldLink RX5 30 "RaceWatch$World" "ofSeenCells" "LRaceWatch$Clocks;", Cond.methodLink RX5 120 yX1_join, Cond.instanceMethod yX1_join, Cond.selects RX1 yX1_join yX1_join, Cond.code yX1_join cX1_join 5 none, Cond.methodLink RX1 9 Lib.Math.max.name, Cond.static Lib.Math.max.name, Cond.initialized "java/lang/Math", Cond.code Lib.Math.max.name Lib.Math.max.code 2 (some .int), Cond.methodLink RX1 25 yX1_number, Cond.methodLink RX1 28 yX1_set, Cond.instanceMethod yX1_set, Cond.selects RX1 yX1_set yX1_set, Cond.code yX1_set cX1_set 4 none, Cond.methodLink RX5 106 yX3_append, Cond.instanceMethod yX3_append, Cond.selects RX3 yX3_append yX3_append, Cond.code yX3_append cX3_append 7 (some .int), Cond.fieldLink RX3 9 "RaceWatch$Log" "threads" "[I", Cond.fieldLink RX3 15 "RaceWatch$Log" "sorts" "[I"]
def wsX6_drift_r5 : List Cond := [Cond.fieldLink RX3 18 "RaceWatch$Log" "withs" "[I", Cond.fieldLink RX3 21 "RaceWatch$Log" "locks" "[I", Cond.fieldLink RX3 29 "RaceWatch$Log" "clocks" "LRaceWatch$Clocks;", Cond.methodLink RX3 59 yX1_copyRow, Cond.instanceMethod yX1_copyRow, Cond.selects RX1 yX1_copyRow yX1_copyRow, Cond.code yX1_copyRow cX1_copyRow 4 none, Cond.methodLink RX1 32 arraycopyName, Cond.native arraycopyName, Cond.static arraycopyName, Cond.initialized "java/lang/System", Cond.methodLink RX5 110 yX3_countRaces, Cond.instanceMethod yX3_countRaces, Cond.selects RX3 yX3_countRaces yX3_countRaces, Cond.code yX3_countRaces cX3_countRaces 5 none, Cond.fieldLink RX3 36 "RaceWatch$Log" "raceCounts" "[I", Cond.fieldLink RX3 33 "RaceWatch$Log" "racesBehind" "[I", Cond.methodLink RX3 78 yX3_kindOfPair, Cond.instanceMethod yX3_kindOfPair, Cond.selects RX3 yX3_kindOfPair yX3_kindOfPair, Cond.code yX3_kindOfPair cX3_kindOfPair 3 (some .int), Cond.methodLink RX3 71 yX3_isAccess, Cond.instanceMethod yX3_isAccess, Cond.selects RX3 yX3_isAccess yX3_isAccess]
def wsX6_drift_r6 : List Cond := [Cond.code yX3_isAccess cX3_isAccess 2 (some .boolean), Cond.methodLink RX3 81 yX3_isAhead, Cond.instanceMethod yX3_isAhead, Cond.selects RX3 yX3_isAhead yX3_isAhead, Cond.code yX3_isAhead cX3_isAhead 4 (some .boolean), Cond.methodLink RX3 63 yX1_number, Cond.methodLink RX5 113 yX2_access, Cond.instanceMethod yX2_access, Cond.selects RX2 yX2_access yX2_access, Cond.initialized RX2, Cond.code yX2_access cX2_access 7 none, Cond.fieldLink RX2 28 "RaceWatch$Kept" "firstEvent" "I", Cond.fieldLink RX2 31 "RaceWatch$Kept" "firstKind" "I", Cond.fieldLink RX2 34 "RaceWatch$Kept" "guards" "I", Cond.fieldLink RX2 15 "RaceWatch$Kept" "writer" "I", Cond.fieldLink RX2 19 "RaceWatch$Kept" "writeNumber" "I", Cond.methodLink RX2 63 yX2_kindOf, Cond.instanceMethod yX2_kindOf, Cond.selects RX2 yX2_kindOf yX2_kindOf, Cond.code yX2_kindOf cX2_kindOf 5 (some .int), Cond.methodLink RX2 53 yX1_number, Cond.methodLink RX2 59 yX2_readsAreAhead, Cond.instanceMethod yX2_readsAreAhead, Cond.selects RX2 yX2_readsAreAhead yX2_readsAreAhead]
def wsX6_drift_r7 : List Cond := [Cond.code yX2_readsAreAhead cX2_readsAreAhead 4 (some .boolean), Cond.fieldLink RX2 43 "RaceWatch$Kept" "isShared" "Z", Cond.fieldLink RX2 37 "RaceWatch$Kept" "reader" "I", Cond.fieldLink RX2 40 "RaceWatch$Kept" "readNumber" "I", Cond.fieldLink RX2 9 "RaceWatch$Kept" "readNumbers" "[I", Cond.methodLink RX2 22 yX2_forgetReads, Cond.instanceMethod yX2_forgetReads, Cond.selects RX2 yX2_forgetReads yX2_forgetReads, Cond.code yX2_forgetReads cX2_forgetReads 1 none, Cond.methodLink RX2 75 yJ7_fill_53178, Cond.static yJ7_fill_53178, Cond.initialized RJ7, Cond.code yJ7_fill_53178 cJ7_fill_53178 4 none, Cond.methodLink RX2 67 yX2_keepRead, Cond.instanceMethod yX2_keepRead, Cond.selects RX2 yX2_keepRead yX2_keepRead, Cond.code yX2_keepRead cX2_keepRead 4 none, Cond.methodLink RX2 71 yX2_share, Cond.instanceMethod yX2_share, Cond.selects RX2 yX2_share yX2_share, Cond.code yX2_share cX2_share 3 none, Cond.fieldLink RX2 25 "RaceWatch$Kept" "promotions" "I", Cond.methodLink RX5 117 yX5_handOn, Cond.instanceMethod yX5_handOn]
def wsX6_drift_r8 : List Cond := [Cond.selects RX5 yX5_handOn yX5_handOn, Cond.code yX5_handOn cX5_handOn 4 none, Cond.methodLink RX5 124 yX1_copyRow, Cond.methodLink RX5 127 yX5_makeStep, Cond.instanceMethod yX5_makeStep, Cond.selects RX5 yX5_makeStep yX5_makeStep, Cond.code yX5_makeStep cX5_makeStep 3 none, Cond.methodLink RX5 59 yX1_set]
def wsX6_drift : List Cond := .code yX6_drift cX6_drift 10 (some .int) :: ((wsX6_drift_r1 ++ (wsX6_drift_r2 ++ (wsX6_drift_r3 ++ (wsX6_drift_r4 ++ (wsX6_drift_r5 ++ (wsX6_drift_r6 ++ (wsX6_drift_r7 ++ wsX6_drift_r8))))))) ++ wsX60 ++ wsX50 ++ wsX30 ++ wsX10 ++ wsX20)
def wsX6_told_r1 : List Cond := [Cond.fieldLink RX6 10 "RaceWatch" "world" "LRaceWatch$World;", Cond.fieldLink RX6 31 "RaceWatch$World" "log" "LRaceWatch$Log;", Cond.fieldLink RX6 35 "RaceWatch$Log" "count" "I", Cond.fieldLink RX6 27 "RaceWatch" "telling" "LRaceWatch$Telling;", Cond.fieldLink RX6 114 "RaceWatch$Telling" "length" "I", Cond.fieldLink RX6 117 "RaceWatch$Telling" "book" "LRaceWatch$Book;", Cond.fieldLink RX6 121 "RaceWatch$Book" "count" "I", Cond.constant RX6 44 (-1000000002), Cond.methodLink RX6 101 yX5_threadsThat, Cond.instanceMethod yX5_threadsThat, Cond.selects RX5 yX5_threadsThat yX5_threadsThat, Cond.initialized RX5, Cond.code yX5_threadsThat cX5_threadsThat 4 (some .int), Cond.fieldLink RX5 9 "RaceWatch$World" "states" "[I", Cond.methodLink RX6 104 yX5_heldLocks, Cond.instanceMethod yX5_heldLocks, Cond.selects RX5 yX5_heldLocks yX5_heldLocks, Cond.code yX5_heldLocks cX5_heldLocks 3 (some .int), Cond.methodLink RX5 82 yX5_locksOf, Cond.instanceMethod yX5_locksOf, Cond.selects RX5 yX5_locksOf yX5_locksOf, Cond.code yX5_locksOf cX5_locksOf 4 (some .int), Cond.fieldLink RX5 15 "RaceWatch$World" "holders" "[I", Cond.methodLink RX6 108 yX3_cellsWithRace]
def wsX6_told_r2 : List Cond := [Cond.instanceMethod yX3_cellsWithRace, Cond.selects RX3 yX3_cellsWithRace yX3_cellsWithRace, Cond.initialized RX3, Cond.code yX3_cellsWithRace cX3_cellsWithRace 3 (some .int), Cond.methodLink RX3 67 yX3_racesOfCell, Cond.instanceMethod yX3_racesOfCell, Cond.selects RX3 yX3_racesOfCell yX3_racesOfCell, Cond.code yX3_racesOfCell cX3_racesOfCell 4 (some .int), Cond.fieldLink RX3 36 "RaceWatch$Log" "raceCounts" "[I", Cond.methodLink RX6 111 yX3_racesOfAll, Cond.instanceMethod yX3_racesOfAll, Cond.selects RX3 yX3_racesOfAll yX3_racesOfAll, Cond.code yX3_racesOfAll cX3_racesOfAll 3 (some .int), Cond.methodLink RX6 124 yX5_promotionsOfAll, Cond.instanceMethod yX5_promotionsOfAll, Cond.selects RX5 yX5_promotionsOfAll yX5_promotionsOfAll, Cond.code yX5_promotionsOfAll cX5_promotionsOfAll 3 (some .int), Cond.fieldLink RX5 36 "RaceWatch$World" "cells" "[LRaceWatch$Kept;", Cond.fieldLink RX5 86 "RaceWatch$Kept" "promotions" "I"]
def wsX6_told : List Cond := .code yX6_told cX6_told 2 (some .int) :: ((wsX6_told_r1 ++ wsX6_told_r2) ++ wsX60 ++ wsX50 ++ wsX30 ++ wsX40 ++ wsX00 ++ wsX20)
def wsX6_clock : List Cond := .code yX6_clock cX6_clock 5 (some .int) :: ([.constant RX6 67 (-1000000001), .constant RX6 44 (-1000000002), .fieldLink RX6 10 "RaceWatch" "world" "LRaceWatch$World;", .fieldLink RX6 73 "RaceWatch$World" "ofThreads" "LRaceWatch$Clocks;", .fieldLink RX6 127 "RaceWatch$World" "ofLocks" "LRaceWatch$Clocks;", .fieldLink RX6 130 "RaceWatch$World" "ofSeenCells" "LRaceWatch$Clocks;", .fieldLink RX6 133 "RaceWatch$Clocks" "rows" "I", .methodLink RX6 63 yX6_isIn, .static yX6_isIn, .initialized RX6, .code yX6_isIn cX6_isIn 2 (some .boolean), .methodLink RX6 77 yX1_number, .instanceMethod yX1_number, .selects RX1 yX1_number yX1_number, .initialized RX1, .code yX1_number cX1_number 3 (some .int), .fieldLink RX1 21 "RaceWatch$Clocks" "numbers" "[I"] ++ wsX60 ++ wsX50 ++ wsX10)
def wsX6_eventOf : List Cond := .code yX6_eventOf cX6_eventOf 4 (some .int) :: ([.fieldLink RX6 10 "RaceWatch" "world" "LRaceWatch$World;", .fieldLink RX6 31 "RaceWatch$World" "log" "LRaceWatch$Log;", .fieldLink RX6 35 "RaceWatch$Log" "count" "I", .constant RX6 67 (-1000000001), .fieldLink RX6 136 "RaceWatch$Log" "threads" "[I", .fieldLink RX6 140 "RaceWatch$Log" "sorts" "[I", .fieldLink RX6 143 "RaceWatch$Log" "withs" "[I", .fieldLink RX6 146 "RaceWatch$Log" "clocks" "LRaceWatch$Clocks;", .fieldLink RX6 149 "RaceWatch$Log" "locks" "[I", .constant RX6 44 (-1000000002), .methodLink RX6 63 yX6_isIn, .static yX6_isIn, .initialized RX6, .code yX6_isIn cX6_isIn 2 (some .boolean), .methodLink RX6 77 yX1_number, .instanceMethod yX1_number, .selects RX1 yX1_number yX1_number, .initialized RX1, .code yX1_number cX1_number 3 (some .int), .fieldLink RX1 21 "RaceWatch$Clocks" "numbers" "[I"] ++ wsX60 ++ wsX50 ++ wsX30 ++ wsX10)
def wsX6_holder : List Cond := .code yX6_holder cX6_holder 2 (some .int) :: ([.fieldLink RX6 10 "RaceWatch" "world" "LRaceWatch$World;", .fieldLink RX6 152 "RaceWatch$World" "holders" "[I", .constant RX6 67 (-1000000001), .methodLink RX6 63 yX6_isIn, .static yX6_isIn, .initialized RX6, .code yX6_isIn cX6_isIn 2 (some .boolean)] ++ wsX60 ++ wsX50)
def wsX6_journal : List Cond := .code yX6_journal cX6_journal 4 (some .int) :: ([.constant RX6 44 (-1000000002), .fieldLink RX6 27 "RaceWatch" "telling" "LRaceWatch$Telling;", .fieldLink RX6 117 "RaceWatch$Telling" "book" "LRaceWatch$Book;", .fieldLink RX6 121 "RaceWatch$Book" "count" "I", .fieldLink RX6 155 "RaceWatch$Book" "locks" "[I", .fieldLink RX6 156 "RaceWatch$Book" "opened" "[I", .methodLink RX6 63 yX6_isIn, .static yX6_isIn, .initialized RX6, .code yX6_isIn cX6_isIn 2 (some .boolean)] ++ wsX60 ++ wsX40 ++ wsX00)
def wsX6_ahead : List Cond := .code yX6_ahead cX6_ahead 4 (some .int) :: ([.fieldLink RX6 10 "RaceWatch" "world" "LRaceWatch$World;", .fieldLink RX6 31 "RaceWatch$World" "log" "LRaceWatch$Log;", .fieldLink RX6 35 "RaceWatch$Log" "count" "I", .constant RX6 67 (-1000000001), .methodLink RX6 63 yX6_isIn, .static yX6_isIn, .initialized RX6, .code yX6_isIn cX6_isIn 2 (some .boolean), .methodLink RX6 159 yX3_isAhead, .instanceMethod yX3_isAhead, .selects RX3 yX3_isAhead yX3_isAhead, .initialized RX3, .code yX3_isAhead cX3_isAhead 4 (some .boolean), .fieldLink RX3 9 "RaceWatch$Log" "threads" "[I", .fieldLink RX3 29 "RaceWatch$Log" "clocks" "LRaceWatch$Clocks;", .methodLink RX3 63 yX1_number, .instanceMethod yX1_number, .selects RX1 yX1_number yX1_number, .initialized RX1, .code yX1_number cX1_number 3 (some .int), .fieldLink RX1 21 "RaceWatch$Clocks" "numbers" "[I"] ++ wsX60 ++ wsX50 ++ wsX30 ++ wsX10)
def wsX6_races : List Cond := .code yX6_races cX6_races 3 (some .int) :: ([.constant RX6 67 (-1000000001), .constant RX6 44 (-1000000002), .fieldLink RX6 10 "RaceWatch" "world" "LRaceWatch$World;", .fieldLink RX6 31 "RaceWatch$World" "log" "LRaceWatch$Log;", .fieldLink RX6 165 "RaceWatch$Log" "raceCounts" "[I", .methodLink RX6 63 yX6_isIn, .static yX6_isIn, .initialized RX6, .code yX6_isIn cX6_isIn 2 (some .boolean), .methodLink RX6 162 yX3_racesOfCell, .instanceMethod yX3_racesOfCell, .selects RX3 yX3_racesOfCell yX3_racesOfCell, .initialized RX3, .code yX3_racesOfCell cX3_racesOfCell 4 (some .int), .fieldLink RX3 36 "RaceWatch$Log" "raceCounts" "[I"] ++ wsX60 ++ wsX50 ++ wsX30)
def wsX6_race_r1 : List Cond := [Cond.constant RX6 67 (-1000000001), Cond.constant RX6 44 (-1000000002), Cond.fieldLink RX6 10 "RaceWatch" "world" "LRaceWatch$World;", Cond.fieldLink RX6 31 "RaceWatch$World" "log" "LRaceWatch$Log;", Cond.methodLink RX6 63 yX6_isIn, Cond.static yX6_isIn, Cond.initialized RX6, Cond.code yX6_isIn cX6_isIn 2 (some .boolean), Cond.methodLink RX6 168 yX3_partOfRace, Cond.instanceMethod yX3_partOfRace, Cond.selects RX3 yX3_partOfRace yX3_partOfRace, Cond.initialized RX3, Cond.code yX3_partOfRace cX3_partOfRace 7 (some .int), Cond.fieldLink RX3 39 "RaceWatch$Log" "count" "I", Cond.fieldLink RX3 18 "RaceWatch$Log" "withs" "[I", Cond.fieldLink RX3 33 "RaceWatch$Log" "racesBehind" "[I", Cond.methodLink RX3 71 yX3_isAccess, Cond.instanceMethod yX3_isAccess, Cond.selects RX3 yX3_isAccess yX3_isAccess, Cond.code yX3_isAccess cX3_isAccess 2 (some .boolean), Cond.fieldLink RX3 15 "RaceWatch$Log" "sorts" "[I", Cond.methodLink RX3 75 yX3_earlierOf, Cond.instanceMethod yX3_earlierOf, Cond.selects RX3 yX3_earlierOf yX3_earlierOf]
def wsX6_race_r2 : List Cond := [Cond.code yX3_earlierOf cX3_earlierOf 5 (some .int), Cond.methodLink RX3 78 yX3_kindOfPair, Cond.instanceMethod yX3_kindOfPair, Cond.selects RX3 yX3_kindOfPair yX3_kindOfPair, Cond.code yX3_kindOfPair cX3_kindOfPair 3 (some .int), Cond.fieldLink RX3 9 "RaceWatch$Log" "threads" "[I", Cond.methodLink RX3 81 yX3_isAhead, Cond.instanceMethod yX3_isAhead, Cond.selects RX3 yX3_isAhead yX3_isAhead, Cond.code yX3_isAhead cX3_isAhead 4 (some .boolean), Cond.fieldLink RX3 29 "RaceWatch$Log" "clocks" "LRaceWatch$Clocks;", Cond.methodLink RX3 63 yX1_number, Cond.instanceMethod yX1_number, Cond.selects RX1 yX1_number yX1_number, Cond.initialized RX1, Cond.code yX1_number cX1_number 3 (some .int), Cond.fieldLink RX1 21 "RaceWatch$Clocks" "numbers" "[I"]
def wsX6_race : List Cond := .code yX6_race cX6_race 4 (some .int) :: ((wsX6_race_r1 ++ wsX6_race_r2) ++ wsX60 ++ wsX50 ++ wsX30 ++ wsX10)
def wsX6_cell : List Cond := .code yX6_cell cX6_cell 4 (some .int) :: ([.constant RX6 67 (-1000000001), .fieldLink RX6 10 "RaceWatch" "world" "LRaceWatch$World;", .fieldLink RX6 171 "RaceWatch$World" "cells" "[LRaceWatch$Kept;", .fieldLink RX6 175 "RaceWatch$Kept" "writer" "I", .fieldLink RX6 180 "RaceWatch$Kept" "writeNumber" "I", .fieldLink RX6 183 "RaceWatch$Kept" "reader" "I", .fieldLink RX6 186 "RaceWatch$Kept" "readNumber" "I", .fieldLink RX6 189 "RaceWatch$Kept" "isShared" "Z", .fieldLink RX6 193 "RaceWatch$Kept" "promotions" "I", .fieldLink RX6 196 "RaceWatch$Kept" "firstEvent" "I", .fieldLink RX6 199 "RaceWatch$Kept" "firstKind" "I", .constant RX6 44 (-1000000002), .methodLink RX6 63 yX6_isIn, .static yX6_isIn, .initialized RX6, .code yX6_isIn cX6_isIn 2 (some .boolean)] ++ wsX60 ++ wsX50 ++ wsX20)
def wsX6_shared : List Cond := .code yX6_shared cX6_shared 3 (some .int) :: ([.constant RX6 67 (-1000000001), .fieldLink RX6 10 "RaceWatch" "world" "LRaceWatch$World;", .fieldLink RX6 171 "RaceWatch$World" "cells" "[LRaceWatch$Kept;", .fieldLink RX6 202 "RaceWatch$Kept" "readNumbers" "[I", .methodLink RX6 63 yX6_isIn, .static yX6_isIn, .initialized RX6, .code yX6_isIn cX6_isIn 2 (some .boolean)] ++ wsX60 ++ wsX50 ++ wsX20)
def wsX6_would_r1 : List Cond := [Cond.constant RX6 67 (-1000000001), Cond.fieldLink RX6 10 "RaceWatch" "world" "LRaceWatch$World;", Cond.constant RX6 72 (-1000000003), Cond.fieldLink RX6 171 "RaceWatch$World" "cells" "[LRaceWatch$Kept;", Cond.fieldLink RX6 73 "RaceWatch$World" "ofThreads" "LRaceWatch$Clocks;", Cond.methodLink RX6 63 yX6_isIn, Cond.static yX6_isIn, Cond.initialized RX6, Cond.code yX6_isIn cX6_isIn 2 (some .boolean), Cond.methodLink RX6 68 yX5_goes, Cond.instanceMethod yX5_goes, Cond.selects RX5 yX5_goes yX5_goes, Cond.initialized RX5, Cond.code yX5_goes cX5_goes 2 (some .boolean), Cond.fieldLink RX5 9 "RaceWatch$World" "states" "[I", Cond.methodLink RX6 205 yX2_kindOf, Cond.instanceMethod yX2_kindOf, Cond.selects RX2 yX2_kindOf yX2_kindOf, Cond.initialized RX2, Cond.code yX2_kindOf cX2_kindOf 5 (some .int), Cond.fieldLink RX2 15 "RaceWatch$Kept" "writer" "I", Cond.fieldLink RX2 19 "RaceWatch$Kept" "writeNumber" "I", Cond.methodLink RX2 53 yX1_number, Cond.instanceMethod yX1_number]
def wsX6_would_r2 : List Cond := [Cond.selects RX1 yX1_number yX1_number, Cond.initialized RX1, Cond.code yX1_number cX1_number 3 (some .int), Cond.fieldLink RX1 21 "RaceWatch$Clocks" "numbers" "[I", Cond.methodLink RX2 59 yX2_readsAreAhead, Cond.instanceMethod yX2_readsAreAhead, Cond.selects RX2 yX2_readsAreAhead yX2_readsAreAhead, Cond.code yX2_readsAreAhead cX2_readsAreAhead 4 (some .boolean), Cond.fieldLink RX2 43 "RaceWatch$Kept" "isShared" "Z", Cond.fieldLink RX2 37 "RaceWatch$Kept" "reader" "I", Cond.fieldLink RX2 40 "RaceWatch$Kept" "readNumber" "I", Cond.fieldLink RX2 9 "RaceWatch$Kept" "readNumbers" "[I"]
def wsX6_would : List Cond := .code yX6_would cX6_would 4 (some .int) :: ((wsX6_would_r1 ++ wsX6_would_r2) ++ wsX60 ++ wsX50 ++ wsX20 ++ wsX10)
def wsX6_guard : List Cond := .code yX6_guard cX6_guard 2 (some .int) :: ([.fieldLink RX6 10 "RaceWatch" "world" "LRaceWatch$World;", .fieldLink RX6 171 "RaceWatch$World" "cells" "[LRaceWatch$Kept;", .fieldLink RX6 209 "RaceWatch$Kept" "guards" "I", .constant RX6 67 (-1000000001), .methodLink RX6 63 yX6_isIn, .static yX6_isIn, .initialized RX6, .code yX6_isIn cX6_isIn 2 (some .boolean)] ++ wsX60 ++ wsX50 ++ wsX20)
def wsX6_keep_r1 : List Cond := [Cond.constant RX6 67 (-1000000001), Cond.fieldLink RX6 16 "RaceWatch" "images" "[LRaceWatch$World;", Cond.fieldLink RX6 10 "RaceWatch" "world" "LRaceWatch$World;", Cond.fieldLink RX6 20 "RaceWatch" "isKept" "[Z", Cond.fieldLink RX6 31 "RaceWatch$World" "log" "LRaceWatch$Log;", Cond.fieldLink RX6 35 "RaceWatch$Log" "count" "I", Cond.methodLink RX6 63 yX6_isIn, Cond.static yX6_isIn, Cond.initialized RX6, Cond.code yX6_isIn cX6_isIn 2 (some .boolean), Cond.methodLink RX6 212 yX5_copy, Cond.instanceMethod yX5_copy, Cond.selects RX5 yX5_copy yX5_copy, Cond.initialized RX5, Cond.code yX5_copy cX5_copy 3 none, Cond.fieldLink RX5 9 "RaceWatch$World" "states" "[I", Cond.methodLink RX5 65 arraycopyName, Cond.native arraycopyName, Cond.static arraycopyName, Cond.initialized "java/lang/System", Cond.fieldLink RX5 15 "RaceWatch$World" "holders" "[I", Cond.fieldLink RX5 23 "RaceWatch$World" "ofThreads" "LRaceWatch$Clocks;", Cond.fieldLink RX5 27 "RaceWatch$World" "ofLocks" "LRaceWatch$Clocks;", Cond.fieldLink RX5 30 "RaceWatch$World" "ofSeenCells" "LRaceWatch$Clocks;"]
def wsX6_keep_r2 : List Cond := [Cond.fieldLink RX5 36 "RaceWatch$World" "cells" "[LRaceWatch$Kept;", Cond.fieldLink RX5 43 "RaceWatch$World" "log" "LRaceWatch$Log;", Cond.methodLink RX5 71 yX1_copyRows, Cond.instanceMethod yX1_copyRows, Cond.selects RX1 yX1_copyRows yX1_copyRows, Cond.initialized RX1, Cond.code yX1_copyRows cX1_copyRows 3 none, Cond.fieldLink RX1 21 "RaceWatch$Clocks" "numbers" "[I", Cond.methodLink RX1 32 arraycopyName, Cond.methodLink RX5 75 yX2_copy, Cond.instanceMethod yX2_copy, Cond.selects RX2 yX2_copy yX2_copy, Cond.initialized RX2, Cond.code yX2_copy cX2_copy 2 none, Cond.fieldLink RX2 15 "RaceWatch$Kept" "writer" "I", Cond.fieldLink RX2 19 "RaceWatch$Kept" "writeNumber" "I", Cond.fieldLink RX2 37 "RaceWatch$Kept" "reader" "I", Cond.fieldLink RX2 40 "RaceWatch$Kept" "readNumber" "I", Cond.fieldLink RX2 43 "RaceWatch$Kept" "isShared" "Z", Cond.fieldLink RX2 9 "RaceWatch$Kept" "readNumbers" "[I", Cond.methodLink RX2 47 arraycopyName, Cond.fieldLink RX2 25 "RaceWatch$Kept" "promotions" "I", Cond.fieldLink RX2 28 "RaceWatch$Kept" "firstEvent" "I", Cond.fieldLink RX2 31 "RaceWatch$Kept" "firstKind" "I"]
def wsX6_keep_r3 : List Cond := [Cond.fieldLink RX2 34 "RaceWatch$Kept" "guards" "I", Cond.methodLink RX5 79 yX3_copy, Cond.instanceMethod yX3_copy, Cond.selects RX3 yX3_copy yX3_copy, Cond.initialized RX3, Cond.code yX3_copy cX3_copy 2 none, Cond.fieldLink RX3 39 "RaceWatch$Log" "count" "I", Cond.fieldLink RX3 9 "RaceWatch$Log" "threads" "[I", Cond.methodLink RX3 49 arraycopyName, Cond.fieldLink RX3 15 "RaceWatch$Log" "sorts" "[I", Cond.fieldLink RX3 18 "RaceWatch$Log" "withs" "[I", Cond.fieldLink RX3 21 "RaceWatch$Log" "locks" "[I", Cond.fieldLink RX3 29 "RaceWatch$Log" "clocks" "LRaceWatch$Clocks;", Cond.fieldLink RX3 33 "RaceWatch$Log" "racesBehind" "[I", Cond.fieldLink RX3 36 "RaceWatch$Log" "raceCounts" "[I", Cond.methodLink RX3 55 yX1_copyRows]
def wsX6_keep : List Cond := .code yX6_keep cX6_keep 2 (some .int) :: ((wsX6_keep_r1 ++ (wsX6_keep_r2 ++ wsX6_keep_r3)) ++ wsX60 ++ wsX50 ++ wsX30 ++ wsX10 ++ wsX20)
def wsX6_goBack_r1 : List Cond := [Cond.constant RX6 67 (-1000000001), Cond.fieldLink RX6 20 "RaceWatch" "isKept" "[Z", Cond.constant RX6 72 (-1000000003), Cond.fieldLink RX6 10 "RaceWatch" "world" "LRaceWatch$World;", Cond.fieldLink RX6 16 "RaceWatch" "images" "[LRaceWatch$World;", Cond.fieldLink RX6 31 "RaceWatch$World" "log" "LRaceWatch$Log;", Cond.fieldLink RX6 35 "RaceWatch$Log" "count" "I", Cond.methodLink RX6 63 yX6_isIn, Cond.static yX6_isIn, Cond.initialized RX6, Cond.code yX6_isIn cX6_isIn 2 (some .boolean), Cond.methodLink RX6 212 yX5_copy, Cond.instanceMethod yX5_copy, Cond.selects RX5 yX5_copy yX5_copy, Cond.initialized RX5, Cond.code yX5_copy cX5_copy 3 none, Cond.fieldLink RX5 9 "RaceWatch$World" "states" "[I", Cond.methodLink RX5 65 arraycopyName, Cond.native arraycopyName, Cond.static arraycopyName, Cond.initialized "java/lang/System", Cond.fieldLink RX5 15 "RaceWatch$World" "holders" "[I", Cond.fieldLink RX5 23 "RaceWatch$World" "ofThreads" "LRaceWatch$Clocks;", Cond.fieldLink RX5 27 "RaceWatch$World" "ofLocks" "LRaceWatch$Clocks;"]
def wsX6_goBack_r2 : List Cond := [Cond.fieldLink RX5 30 "RaceWatch$World" "ofSeenCells" "LRaceWatch$Clocks;", Cond.fieldLink RX5 36 "RaceWatch$World" "cells" "[LRaceWatch$Kept;", Cond.fieldLink RX5 43 "RaceWatch$World" "log" "LRaceWatch$Log;", Cond.methodLink RX5 71 yX1_copyRows, Cond.instanceMethod yX1_copyRows, Cond.selects RX1 yX1_copyRows yX1_copyRows, Cond.initialized RX1, Cond.code yX1_copyRows cX1_copyRows 3 none, Cond.fieldLink RX1 21 "RaceWatch$Clocks" "numbers" "[I", Cond.methodLink RX1 32 arraycopyName, Cond.methodLink RX5 75 yX2_copy, Cond.instanceMethod yX2_copy, Cond.selects RX2 yX2_copy yX2_copy, Cond.initialized RX2, Cond.code yX2_copy cX2_copy 2 none, Cond.fieldLink RX2 15 "RaceWatch$Kept" "writer" "I", Cond.fieldLink RX2 19 "RaceWatch$Kept" "writeNumber" "I", Cond.fieldLink RX2 37 "RaceWatch$Kept" "reader" "I", Cond.fieldLink RX2 40 "RaceWatch$Kept" "readNumber" "I", Cond.fieldLink RX2 43 "RaceWatch$Kept" "isShared" "Z", Cond.fieldLink RX2 9 "RaceWatch$Kept" "readNumbers" "[I", Cond.methodLink RX2 47 arraycopyName, Cond.fieldLink RX2 25 "RaceWatch$Kept" "promotions" "I", Cond.fieldLink RX2 28 "RaceWatch$Kept" "firstEvent" "I"]
def wsX6_goBack_r3 : List Cond := [Cond.fieldLink RX2 31 "RaceWatch$Kept" "firstKind" "I", Cond.fieldLink RX2 34 "RaceWatch$Kept" "guards" "I", Cond.methodLink RX5 79 yX3_copy, Cond.instanceMethod yX3_copy, Cond.selects RX3 yX3_copy yX3_copy, Cond.initialized RX3, Cond.code yX3_copy cX3_copy 2 none, Cond.fieldLink RX3 39 "RaceWatch$Log" "count" "I", Cond.fieldLink RX3 9 "RaceWatch$Log" "threads" "[I", Cond.methodLink RX3 49 arraycopyName, Cond.fieldLink RX3 15 "RaceWatch$Log" "sorts" "[I", Cond.fieldLink RX3 18 "RaceWatch$Log" "withs" "[I", Cond.fieldLink RX3 21 "RaceWatch$Log" "locks" "[I", Cond.fieldLink RX3 29 "RaceWatch$Log" "clocks" "LRaceWatch$Clocks;", Cond.fieldLink RX3 33 "RaceWatch$Log" "racesBehind" "[I", Cond.fieldLink RX3 36 "RaceWatch$Log" "raceCounts" "[I", Cond.methodLink RX3 55 yX1_copyRows]
def wsX6_goBack : List Cond := .code yX6_goBack cX6_goBack 2 (some .int) :: ((wsX6_goBack_r1 ++ (wsX6_goBack_r2 ++ wsX6_goBack_r3)) ++ wsX60 ++ wsX50 ++ wsX30 ++ wsX10 ++ wsX20)
def wsX7_of : List Cond := .code yX7_of cX7_of 1 (some .int) :: ([])
def wsX7_clear : List Cond := .code yX7_clear cX7_clear 2 none :: ([.fieldLink RX7 7 "RaceWatchModel" "w" "[I", .methodLink RX7 37 yX7_of, .static yX7_of, .initialized RX7, .code yX7_of cX7_of 1 (some .int)] ++ wsX70)
def wsX7_init : List Cond := .code yX7_init cX7_init 1 none :: ([.methodLink RX7 1 objectInit, .instanceMethod objectInit, .code objectInit ⟨#[0xb1]⟩ 1 none, .arrayClass .int, .fieldLink RX7 7 "RaceWatchModel" "w" "[I", .arrayClass .boolean, .fieldLink RX7 13 "RaceWatchModel" "isKept" "[Z", .fieldLink RX7 17 "RaceWatchModel" "journals" "[I", .fieldLink RX7 20 "RaceWatchModel" "openLock" "[I", .fieldLink RX7 23 "RaceWatchModel" "openThread" "[I", .methodLink RX7 26 yX7_clear, .instanceMethod yX7_clear, .selects RX7 yX7_clear yX7_clear, .initialized RX7, .code yX7_clear cX7_clear 2 none, .methodLink RX7 37 yX7_of, .static yX7_of, .code yX7_of cX7_of 1 (some .int)] ++ wsX70)
def wsX7_in : List Cond := .code yX7_in cX7_in 6 (some .boolean) :: ([])
def wsX7_isThread : List Cond := .code yX7_isThread cX7_isThread 1 (some .boolean) :: ([.constantLong RX7 29 (3), .methodLink RX7 31 yX7_in, .static yX7_in, .initialized RX7, .code yX7_in cX7_in 6 (some .boolean)])
def wsX7_isLock : List Cond := .code yX7_isLock cX7_isLock 1 (some .boolean) :: ([.constantLong RX7 35 (2), .methodLink RX7 31 yX7_in, .static yX7_in, .initialized RX7, .code yX7_in cX7_in 6 (some .boolean)])
def wsX7_isCell : List Cond := .code yX7_isCell cX7_isCell 1 (some .boolean) :: ([.constantLong RX7 29 (3), .methodLink RX7 31 yX7_in, .static yX7_in, .initialized RX7, .code yX7_in cX7_in 6 (some .boolean)])
def wsX7_isSeen : List Cond := .code yX7_isSeen cX7_isSeen 1 (some .boolean) :: ([.methodLink RX7 31 yX7_in, .static yX7_in, .initialized RX7, .code yX7_in cX7_in 6 (some .boolean)])
def wsX7_anew : List Cond := .code yX7_anew cX7_anew 2 (some .int) :: ([.fieldLink RX7 7 "RaceWatchModel" "w" "[I", .methodLink RX7 26 yX7_clear, .instanceMethod yX7_clear, .selects RX7 yX7_clear yX7_clear, .initialized RX7, .code yX7_clear cX7_clear 2 none, .methodLink RX7 37 yX7_of, .static yX7_of, .code yX7_of cX7_of 1 (some .int)] ++ wsX70)
def wsX7_held : List Cond := .code yX7_held cX7_held 4 (some .int) :: ([.fieldLink RX7 7 "RaceWatchModel" "w" "[I"] ++ wsX70)
def wsX7_number : List Cond := .code yX7_number cX7_number 3 (some .int) :: ([.fieldLink RX7 7 "RaceWatchModel" "w" "[I"] ++ wsX70)
def wsX7_joins : List Cond := .code yX7_joins cX7_joins 4 none :: ([.fieldLink RX7 7 "RaceWatchModel" "w" "[I"] ++ wsX70)
def wsX7_isMuch : List Cond := .code yX7_isMuch cX7_isMuch 2 (some .boolean) :: ([.constant RX7 45 (2147483647), .methodLink RX7 41 yX7_number, .instanceMethod yX7_number, .selects RX7 yX7_number yX7_number, .initialized RX7, .code yX7_number cX7_number 3 (some .int), .fieldLink RX7 7 "RaceWatchModel" "w" "[I"] ++ wsX70)
def wsX7_steps : List Cond := .code yX7_steps cX7_steps 2 none :: ([.fieldLink RX7 7 "RaceWatchModel" "w" "[I"] ++ wsX70)
def wsX7_isWith : List Cond := .code yX7_isWith cX7_isWith 3 (some .boolean) :: ([.methodLink RX7 46 yX7_isCell, .static yX7_isCell, .initialized RX7, .code yX7_isCell cX7_isCell 1 (some .boolean), .constantLong RX7 29 (3), .methodLink RX7 31 yX7_in, .static yX7_in, .code yX7_in cX7_in 6 (some .boolean), .methodLink RX7 50 yX7_isLock, .static yX7_isLock, .code yX7_isLock cX7_isLock 1 (some .boolean), .constantLong RX7 35 (2), .methodLink RX7 53 yX7_isSeen, .static yX7_isSeen, .code yX7_isSeen cX7_isSeen 1 (some .boolean), .methodLink RX7 56 yX7_isThread, .static yX7_isThread, .code yX7_isThread cX7_isThread 1 (some .boolean)])
def wsX7_can : List Cond := .code yX7_can cX7_can 4 (some .boolean) :: ([.fieldLink RX7 7 "RaceWatchModel" "w" "[I", .methodLink RX7 59 yX7_held, .instanceMethod yX7_held, .selects RX7 yX7_held yX7_held, .initialized RX7, .code yX7_held cX7_held 4 (some .int)] ++ wsX70)
def wsX7_hasStep : List Cond := .code yX7_hasStep cX7_hasStep 1 (some .boolean) :: ([])
def wsX7_writes : List Cond := .code yX7_writes cX7_writes 6 none :: ([.fieldLink RX7 7 "RaceWatchModel" "w" "[I", .methodLink RX7 41 yX7_number, .instanceMethod yX7_number, .selects RX7 yX7_number yX7_number, .initialized RX7, .code yX7_number cX7_number 3 (some .int), .methodLink RX7 59 yX7_held, .instanceMethod yX7_held, .selects RX7 yX7_held yX7_held, .code yX7_held cX7_held 4 (some .int)] ++ wsX70)
def wsX7_kindOf : List Cond := .code yX7_kindOf cX7_kindOf 9 (some .int) :: ([.fieldLink RX7 7 "RaceWatchModel" "w" "[I", .methodLink RX7 37 yX7_of, .static yX7_of, .initialized RX7, .code yX7_of cX7_of 1 (some .int), .methodLink RX7 41 yX7_number, .instanceMethod yX7_number, .selects RX7 yX7_number yX7_number, .code yX7_number cX7_number 3 (some .int)] ++ wsX70)
def wsX7_reads : List Cond := .code yX7_reads cX7_reads 4 none :: ([.fieldLink RX7 7 "RaceWatchModel" "w" "[I", .methodLink RX7 41 yX7_number, .instanceMethod yX7_number, .selects RX7 yX7_number yX7_number, .initialized RX7, .code yX7_number cX7_number 3 (some .int)] ++ wsX70)
def wsX7_accesses : List Cond := .code yX7_accesses cX7_accesses 7 none :: ([.fieldLink RX7 7 "RaceWatchModel" "w" "[I", .methodLink RX7 37 yX7_of, .static yX7_of, .initialized RX7, .code yX7_of cX7_of 1 (some .int), .methodLink RX7 62 yX7_kindOf, .instanceMethod yX7_kindOf, .selects RX7 yX7_kindOf yX7_kindOf, .code yX7_kindOf cX7_kindOf 9 (some .int), .methodLink RX7 41 yX7_number, .instanceMethod yX7_number, .selects RX7 yX7_number yX7_number, .code yX7_number cX7_number 3 (some .int), .methodLink RX7 66 yX7_reads, .instanceMethod yX7_reads, .selects RX7 yX7_reads yX7_reads, .code yX7_reads cX7_reads 4 none] ++ wsX70)
def wsX7_comes_r1 : List Cond := [Cond.fieldLink RX7 7 "RaceWatchModel" "w" "[I", Cond.methodLink RX7 70 yX7_accesses, Cond.instanceMethod yX7_accesses, Cond.selects RX7 yX7_accesses yX7_accesses, Cond.initialized RX7, Cond.code yX7_accesses cX7_accesses 7 none, Cond.methodLink RX7 37 yX7_of, Cond.static yX7_of, Cond.code yX7_of cX7_of 1 (some .int), Cond.methodLink RX7 62 yX7_kindOf, Cond.instanceMethod yX7_kindOf, Cond.selects RX7 yX7_kindOf yX7_kindOf, Cond.code yX7_kindOf cX7_kindOf 9 (some .int), Cond.methodLink RX7 41 yX7_number, Cond.instanceMethod yX7_number, Cond.selects RX7 yX7_number yX7_number, Cond.code yX7_number cX7_number 3 (some .int), Cond.methodLink RX7 66 yX7_reads, Cond.instanceMethod yX7_reads, Cond.selects RX7 yX7_reads yX7_reads, Cond.code yX7_reads cX7_reads 4 none, Cond.methodLink RX7 74 yX7_joins, Cond.instanceMethod yX7_joins, Cond.selects RX7 yX7_joins yX7_joins]
def wsX7_comes_r2 : List Cond := [Cond.code yX7_joins cX7_joins 4 none, Cond.methodLink RX7 77 yX7_writes, Cond.instanceMethod yX7_writes, Cond.selects RX7 yX7_writes yX7_writes, Cond.code yX7_writes cX7_writes 6 none, Cond.methodLink RX7 59 yX7_held, Cond.instanceMethod yX7_held, Cond.selects RX7 yX7_held yX7_held, Cond.code yX7_held cX7_held 4 (some .int), Cond.methodLink RX7 81 yX7_hasStep, Cond.static yX7_hasStep, Cond.code yX7_hasStep cX7_hasStep 1 (some .boolean), Cond.methodLink RX7 84 yX7_isMuch, Cond.instanceMethod yX7_isMuch, Cond.selects RX7 yX7_isMuch yX7_isMuch, Cond.code yX7_isMuch cX7_isMuch 2 (some .boolean), Cond.constant RX7 45 (2147483647), Cond.methodLink RX7 87 yX7_steps, Cond.instanceMethod yX7_steps, Cond.selects RX7 yX7_steps yX7_steps, Cond.code yX7_steps cX7_steps 2 none]
def wsX7_comes : List Cond := .code yX7_comes cX7_comes 6 none :: ((wsX7_comes_r1 ++ wsX7_comes_r2) ++ wsX70)
def wsX7_event_r1 : List Cond := [Cond.constantLong RX7 91 (7), Cond.constant RX7 97 (-1000000001), Cond.constant RX7 98 (-1000000002), Cond.constant RX7 102 (-1000000003), Cond.fieldLink RX7 7 "RaceWatchModel" "w" "[I", Cond.constant RX7 103 (-1000000004), Cond.constant RX7 104 (-1000000005), Cond.methodLink RX7 56 yX7_isThread, Cond.static yX7_isThread, Cond.initialized RX7, Cond.code yX7_isThread cX7_isThread 1 (some .boolean), Cond.constantLong RX7 29 (3), Cond.methodLink RX7 31 yX7_in, Cond.static yX7_in, Cond.code yX7_in cX7_in 6 (some .boolean), Cond.methodLink RX7 93 yX7_isWith, Cond.static yX7_isWith, Cond.code yX7_isWith cX7_isWith 3 (some .boolean), Cond.methodLink RX7 46 yX7_isCell, Cond.static yX7_isCell, Cond.code yX7_isCell cX7_isCell 1 (some .boolean), Cond.methodLink RX7 50 yX7_isLock, Cond.static yX7_isLock, Cond.code yX7_isLock cX7_isLock 1 (some .boolean)]
def wsX7_event_r2 : List Cond := [Cond.constantLong RX7 35 (2), Cond.methodLink RX7 53 yX7_isSeen, Cond.static yX7_isSeen, Cond.code yX7_isSeen cX7_isSeen 1 (some .boolean), Cond.methodLink RX7 99 yX7_can, Cond.instanceMethod yX7_can, Cond.selects RX7 yX7_can yX7_can, Cond.code yX7_can cX7_can 4 (some .boolean), Cond.methodLink RX7 59 yX7_held, Cond.instanceMethod yX7_held, Cond.selects RX7 yX7_held yX7_held, Cond.code yX7_held cX7_held 4 (some .int), Cond.methodLink RX7 81 yX7_hasStep, Cond.static yX7_hasStep, Cond.code yX7_hasStep cX7_hasStep 1 (some .boolean), Cond.methodLink RX7 84 yX7_isMuch, Cond.instanceMethod yX7_isMuch, Cond.selects RX7 yX7_isMuch yX7_isMuch, Cond.code yX7_isMuch cX7_isMuch 2 (some .boolean), Cond.constant RX7 45 (2147483647), Cond.methodLink RX7 41 yX7_number, Cond.instanceMethod yX7_number, Cond.selects RX7 yX7_number yX7_number, Cond.code yX7_number cX7_number 3 (some .int)]
def wsX7_event_r3 : List Cond := [Cond.methodLink RX7 105 yX7_comes, Cond.instanceMethod yX7_comes, Cond.selects RX7 yX7_comes yX7_comes, Cond.code yX7_comes cX7_comes 6 none, Cond.methodLink RX7 70 yX7_accesses, Cond.instanceMethod yX7_accesses, Cond.selects RX7 yX7_accesses yX7_accesses, Cond.code yX7_accesses cX7_accesses 7 none, Cond.methodLink RX7 37 yX7_of, Cond.static yX7_of, Cond.code yX7_of cX7_of 1 (some .int), Cond.methodLink RX7 62 yX7_kindOf, Cond.instanceMethod yX7_kindOf, Cond.selects RX7 yX7_kindOf yX7_kindOf, Cond.code yX7_kindOf cX7_kindOf 9 (some .int), Cond.methodLink RX7 66 yX7_reads, Cond.instanceMethod yX7_reads, Cond.selects RX7 yX7_reads yX7_reads, Cond.code yX7_reads cX7_reads 4 none, Cond.methodLink RX7 74 yX7_joins, Cond.instanceMethod yX7_joins, Cond.selects RX7 yX7_joins yX7_joins, Cond.code yX7_joins cX7_joins 4 none, Cond.methodLink RX7 77 yX7_writes]
def wsX7_event_r4 : List Cond := [Cond.instanceMethod yX7_writes, Cond.selects RX7 yX7_writes yX7_writes, Cond.code yX7_writes cX7_writes 6 none, Cond.methodLink RX7 87 yX7_steps, Cond.instanceMethod yX7_steps, Cond.selects RX7 yX7_steps yX7_steps, Cond.code yX7_steps cX7_steps 2 none]
def wsX7_event : List Cond := .code yX7_event cX7_event 4 (some .int) :: ((wsX7_event_r1 ++ (wsX7_event_r2 ++ (wsX7_event_r3 ++ wsX7_event_r4))) ++ wsX70)
def wsX7_jump : List Cond := .code yX7_jump cX7_jump 3 (some .int) :: ([.constant RX7 97 (-1000000001), .constant RX7 98 (-1000000002), .fieldLink RX7 7 "RaceWatchModel" "w" "[I", .constant RX7 102 (-1000000003), .constantLong RX7 108 (2147483647), .constant RX7 104 (-1000000005), .methodLink RX7 56 yX7_isThread, .static yX7_isThread, .initialized RX7, .code yX7_isThread cX7_isThread 1 (some .boolean), .constantLong RX7 29 (3), .methodLink RX7 31 yX7_in, .static yX7_in, .code yX7_in cX7_in 6 (some .boolean), .methodLink RX7 41 yX7_number, .instanceMethod yX7_number, .selects RX7 yX7_number yX7_number, .code yX7_number cX7_number 3 (some .int)] ++ wsX70)
def wsX7_draw : List Cond := .code yX7_draw cX7_draw 2 (some .int) :: ([.fieldLink RX7 110 "RaceWatchModel" "x" "J", .constantLong RX7 114 (16807), .constantLong RX7 108 (2147483647)] ++ wsX70)
def wsX7_drift_r1 : List Cond := [Cond.constantLong RX7 116 (40), Cond.constantLong RX7 118 (999999), Cond.constant RX7 98 (-1000000002), Cond.fieldLink RX7 110 "RaceWatchModel" "x" "J", Cond.methodLink RX7 31 yX7_in, Cond.static yX7_in, Cond.initialized RX7, Cond.code yX7_in cX7_in 6 (some .boolean), Cond.methodLink RX7 120 yX7_draw, Cond.instanceMethod yX7_draw, Cond.selects RX7 yX7_draw yX7_draw, Cond.code yX7_draw cX7_draw 2 (some .int), Cond.constantLong RX7 114 (16807), Cond.constantLong RX7 108 (2147483647), Cond.methodLink RX7 123 yX7_event, Cond.instanceMethod yX7_event, Cond.selects RX7 yX7_event yX7_event, Cond.code yX7_event cX7_event 4 (some .int), Cond.constantLong RX7 91 (7), Cond.constant RX7 97 (-1000000001), Cond.constant RX7 102 (-1000000003), Cond.fieldLink RX7 7 "RaceWatchModel" "w" "[I", Cond.constant RX7 103 (-1000000004), Cond.constant RX7 104 (-1000000005)]
def wsX7_drift_r2 : List Cond := [Cond.methodLink RX7 56 yX7_isThread, Cond.static yX7_isThread, Cond.code yX7_isThread cX7_isThread 1 (some .boolean), Cond.constantLong RX7 29 (3), Cond.methodLink RX7 93 yX7_isWith, Cond.static yX7_isWith, Cond.code yX7_isWith cX7_isWith 3 (some .boolean), Cond.methodLink RX7 46 yX7_isCell, Cond.static yX7_isCell, Cond.code yX7_isCell cX7_isCell 1 (some .boolean), Cond.methodLink RX7 50 yX7_isLock, Cond.static yX7_isLock, Cond.code yX7_isLock cX7_isLock 1 (some .boolean), Cond.constantLong RX7 35 (2), Cond.methodLink RX7 53 yX7_isSeen, Cond.static yX7_isSeen, Cond.code yX7_isSeen cX7_isSeen 1 (some .boolean), Cond.methodLink RX7 99 yX7_can, Cond.instanceMethod yX7_can, Cond.selects RX7 yX7_can yX7_can, Cond.code yX7_can cX7_can 4 (some .boolean), Cond.methodLink RX7 59 yX7_held, Cond.instanceMethod yX7_held, Cond.selects RX7 yX7_held yX7_held]
def wsX7_drift_r3 : List Cond := [Cond.code yX7_held cX7_held 4 (some .int), Cond.methodLink RX7 81 yX7_hasStep, Cond.static yX7_hasStep, Cond.code yX7_hasStep cX7_hasStep 1 (some .boolean), Cond.methodLink RX7 84 yX7_isMuch, Cond.instanceMethod yX7_isMuch, Cond.selects RX7 yX7_isMuch yX7_isMuch, Cond.code yX7_isMuch cX7_isMuch 2 (some .boolean), Cond.constant RX7 45 (2147483647), Cond.methodLink RX7 41 yX7_number, Cond.instanceMethod yX7_number, Cond.selects RX7 yX7_number yX7_number, Cond.code yX7_number cX7_number 3 (some .int), Cond.methodLink RX7 105 yX7_comes, Cond.instanceMethod yX7_comes, Cond.selects RX7 yX7_comes yX7_comes, Cond.code yX7_comes cX7_comes 6 none, Cond.methodLink RX7 70 yX7_accesses, Cond.instanceMethod yX7_accesses, Cond.selects RX7 yX7_accesses yX7_accesses, Cond.code yX7_accesses cX7_accesses 7 none, Cond.methodLink RX7 37 yX7_of, Cond.static yX7_of, Cond.code yX7_of cX7_of 1 (some .int)]
def wsX7_drift_r4 : List Cond := [Cond.methodLink RX7 62 yX7_kindOf, Cond.instanceMethod yX7_kindOf, Cond.selects RX7 yX7_kindOf yX7_kindOf, Cond.code yX7_kindOf cX7_kindOf 9 (some .int), Cond.methodLink RX7 66 yX7_reads, Cond.instanceMethod yX7_reads, Cond.selects RX7 yX7_reads yX7_reads, Cond.code yX7_reads cX7_reads 4 none, Cond.methodLink RX7 74 yX7_joins, Cond.instanceMethod yX7_joins, Cond.selects RX7 yX7_joins yX7_joins, Cond.code yX7_joins cX7_joins 4 none, Cond.methodLink RX7 77 yX7_writes, Cond.instanceMethod yX7_writes, Cond.selects RX7 yX7_writes yX7_writes, Cond.code yX7_writes cX7_writes 6 none, Cond.methodLink RX7 87 yX7_steps, Cond.instanceMethod yX7_steps, Cond.selects RX7 yX7_steps yX7_steps, Cond.code yX7_steps cX7_steps 2 none]
def wsX7_drift : List Cond := .code yX7_drift cX7_drift 8 (some .int) :: ((wsX7_drift_r1 ++ (wsX7_drift_r2 ++ (wsX7_drift_r3 ++ wsX7_drift_r4))) ++ wsX70)
def wsX7_feed : List Cond := .code yX7_feed cX7_feed 2 (some .int) :: ([.constantLong RX7 127 (255), .constant RX7 98 (-1000000002), .fieldLink RX7 7 "RaceWatchModel" "w" "[I", .constant RX7 103 (-1000000004), .methodLink RX7 31 yX7_in, .static yX7_in, .initialized RX7, .code yX7_in cX7_in 6 (some .boolean)] ++ wsX70)
def wsX7_notes : List Cond := .code yX7_notes cX7_notes 4 none :: ([.fieldLink RX7 129 "RaceWatchModel" "entries" "I", .fieldLink RX7 17 "RaceWatchModel" "journals" "[I"] ++ wsX70)
def wsX7_here : List Cond := .code yX7_here cX7_here 1 (some .int) :: ([.fieldLink RX7 133 "RaceWatchModel" "at" "I", .fieldLink RX7 7 "RaceWatchModel" "w" "[I"] ++ wsX70)
def wsX7_fails : List Cond := .code yX7_fails cX7_fails 2 (some .boolean) :: ([.fieldLink RX7 136 "RaceWatchModel" "fault" "I", .fieldLink RX7 133 "RaceWatchModel" "at" "I", .fieldLink RX7 139 "RaceWatchModel" "faultAt" "I"] ++ wsX70)
def wsX7_takesFigure : List Cond := .code yX7_takesFigure cX7_takesFigure 3 (some .boolean) :: ([.constantLong RX7 146 (48), .constantLong RX7 148 (57), .fieldLink RX7 153 "RaceWatchModel" "figure" "I", .methodLink RX7 142 yX7_here, .instanceMethod yX7_here, .selects RX7 yX7_here yX7_here, .initialized RX7, .code yX7_here cX7_here 1 (some .int), .fieldLink RX7 133 "RaceWatchModel" "at" "I", .fieldLink RX7 7 "RaceWatchModel" "w" "[I", .methodLink RX7 31 yX7_in, .static yX7_in, .code yX7_in cX7_in 6 (some .boolean), .methodLink RX7 150 yX7_fails, .instanceMethod yX7_fails, .selects RX7 yX7_fails yX7_fails, .code yX7_fails cX7_fails 2 (some .boolean), .fieldLink RX7 136 "RaceWatchModel" "fault" "I", .fieldLink RX7 139 "RaceWatchModel" "faultAt" "I"] ++ wsX70)
def wsX7_takes : List Cond := .code yX7_takes cX7_takes 2 (some .boolean) :: ([.fieldLink RX7 133 "RaceWatchModel" "at" "I", .methodLink RX7 142 yX7_here, .instanceMethod yX7_here, .selects RX7 yX7_here yX7_here, .initialized RX7, .code yX7_here cX7_here 1 (some .int), .fieldLink RX7 7 "RaceWatchModel" "w" "[I", .methodLink RX7 150 yX7_fails, .instanceMethod yX7_fails, .selects RX7 yX7_fails yX7_fails, .code yX7_fails cX7_fails 2 (some .boolean), .fieldLink RX7 136 "RaceWatchModel" "fault" "I", .fieldLink RX7 139 "RaceWatchModel" "faultAt" "I"] ++ wsX70)
def wsX7_did_r1 : List Cond := [Cond.fieldLink RX7 7 "RaceWatchModel" "w" "[I", Cond.fieldLink RX7 156 "RaceWatchModel" "regions" "I", Cond.fieldLink RX7 159 "RaceWatchModel" "who" "I", Cond.fieldLink RX7 153 "RaceWatchModel" "figure" "I", Cond.fieldLink RX7 133 "RaceWatchModel" "at" "I", Cond.methodLink RX7 150 yX7_fails, Cond.instanceMethod yX7_fails, Cond.selects RX7 yX7_fails yX7_fails, Cond.initialized RX7, Cond.code yX7_fails cX7_fails 2 (some .boolean), Cond.fieldLink RX7 136 "RaceWatchModel" "fault" "I", Cond.fieldLink RX7 139 "RaceWatchModel" "faultAt" "I", Cond.methodLink RX7 93 yX7_isWith, Cond.static yX7_isWith, Cond.code yX7_isWith cX7_isWith 3 (some .boolean), Cond.methodLink RX7 46 yX7_isCell, Cond.static yX7_isCell, Cond.code yX7_isCell cX7_isCell 1 (some .boolean), Cond.constantLong RX7 29 (3), Cond.methodLink RX7 31 yX7_in, Cond.static yX7_in, Cond.code yX7_in cX7_in 6 (some .boolean), Cond.methodLink RX7 50 yX7_isLock, Cond.static yX7_isLock]
def wsX7_did_r2 : List Cond := [Cond.code yX7_isLock cX7_isLock 1 (some .boolean), Cond.constantLong RX7 35 (2), Cond.methodLink RX7 53 yX7_isSeen, Cond.static yX7_isSeen, Cond.code yX7_isSeen cX7_isSeen 1 (some .boolean), Cond.methodLink RX7 56 yX7_isThread, Cond.static yX7_isThread, Cond.code yX7_isThread cX7_isThread 1 (some .boolean), Cond.methodLink RX7 99 yX7_can, Cond.instanceMethod yX7_can, Cond.selects RX7 yX7_can yX7_can, Cond.code yX7_can cX7_can 4 (some .boolean), Cond.methodLink RX7 59 yX7_held, Cond.instanceMethod yX7_held, Cond.selects RX7 yX7_held yX7_held, Cond.code yX7_held cX7_held 4 (some .int), Cond.methodLink RX7 81 yX7_hasStep, Cond.static yX7_hasStep, Cond.code yX7_hasStep cX7_hasStep 1 (some .boolean), Cond.methodLink RX7 84 yX7_isMuch, Cond.instanceMethod yX7_isMuch, Cond.selects RX7 yX7_isMuch yX7_isMuch, Cond.code yX7_isMuch cX7_isMuch 2 (some .boolean), Cond.constant RX7 45 (2147483647)]
def wsX7_did_r3 : List Cond := [Cond.methodLink RX7 41 yX7_number, Cond.instanceMethod yX7_number, Cond.selects RX7 yX7_number yX7_number, Cond.code yX7_number cX7_number 3 (some .int), Cond.methodLink RX7 105 yX7_comes, Cond.instanceMethod yX7_comes, Cond.selects RX7 yX7_comes yX7_comes, Cond.code yX7_comes cX7_comes 6 none, Cond.methodLink RX7 70 yX7_accesses, Cond.instanceMethod yX7_accesses, Cond.selects RX7 yX7_accesses yX7_accesses, Cond.code yX7_accesses cX7_accesses 7 none, Cond.methodLink RX7 37 yX7_of, Cond.static yX7_of, Cond.code yX7_of cX7_of 1 (some .int), Cond.methodLink RX7 62 yX7_kindOf, Cond.instanceMethod yX7_kindOf, Cond.selects RX7 yX7_kindOf yX7_kindOf, Cond.code yX7_kindOf cX7_kindOf 9 (some .int), Cond.methodLink RX7 66 yX7_reads, Cond.instanceMethod yX7_reads, Cond.selects RX7 yX7_reads yX7_reads, Cond.code yX7_reads cX7_reads 4 none, Cond.methodLink RX7 74 yX7_joins]
def wsX7_did_r4 : List Cond := [Cond.instanceMethod yX7_joins, Cond.selects RX7 yX7_joins yX7_joins, Cond.code yX7_joins cX7_joins 4 none, Cond.methodLink RX7 77 yX7_writes, Cond.instanceMethod yX7_writes, Cond.selects RX7 yX7_writes yX7_writes, Cond.code yX7_writes cX7_writes 6 none, Cond.methodLink RX7 87 yX7_steps, Cond.instanceMethod yX7_steps, Cond.selects RX7 yX7_steps yX7_steps, Cond.code yX7_steps cX7_steps 2 none]
def wsX7_did : List Cond := .code yX7_did cX7_did 3 (some .boolean) :: ((wsX7_did_r1 ++ (wsX7_did_r2 ++ (wsX7_did_r3 ++ wsX7_did_r4))) ++ wsX70)
def wsX7_opens : List Cond := .code yX7_opens cX7_opens 3 none :: ([.fieldLink RX7 20 "RaceWatchModel" "openLock" "[I", .fieldLink RX7 162 "RaceWatchModel" "open" "I", .fieldLink RX7 23 "RaceWatchModel" "openThread" "[I"] ++ wsX70)
def wsX7_shuts_r1 : List Cond := [Cond.fieldLink RX7 162 "RaceWatchModel" "open" "I", Cond.fieldLink RX7 20 "RaceWatchModel" "openLock" "[I", Cond.fieldLink RX7 23 "RaceWatchModel" "openThread" "[I", Cond.fieldLink RX7 159 "RaceWatchModel" "who" "I", Cond.fieldLink RX7 156 "RaceWatchModel" "regions" "I", Cond.methodLink RX7 105 yX7_comes, Cond.instanceMethod yX7_comes, Cond.selects RX7 yX7_comes yX7_comes, Cond.initialized RX7, Cond.code yX7_comes cX7_comes 6 none, Cond.fieldLink RX7 7 "RaceWatchModel" "w" "[I", Cond.methodLink RX7 70 yX7_accesses, Cond.instanceMethod yX7_accesses, Cond.selects RX7 yX7_accesses yX7_accesses, Cond.code yX7_accesses cX7_accesses 7 none, Cond.methodLink RX7 37 yX7_of, Cond.static yX7_of, Cond.code yX7_of cX7_of 1 (some .int), Cond.methodLink RX7 62 yX7_kindOf, Cond.instanceMethod yX7_kindOf, Cond.selects RX7 yX7_kindOf yX7_kindOf, Cond.code yX7_kindOf cX7_kindOf 9 (some .int), Cond.methodLink RX7 41 yX7_number, Cond.instanceMethod yX7_number]
def wsX7_shuts_r2 : List Cond := [Cond.selects RX7 yX7_number yX7_number, Cond.code yX7_number cX7_number 3 (some .int), Cond.methodLink RX7 66 yX7_reads, Cond.instanceMethod yX7_reads, Cond.selects RX7 yX7_reads yX7_reads, Cond.code yX7_reads cX7_reads 4 none, Cond.methodLink RX7 74 yX7_joins, Cond.instanceMethod yX7_joins, Cond.selects RX7 yX7_joins yX7_joins, Cond.code yX7_joins cX7_joins 4 none, Cond.methodLink RX7 77 yX7_writes, Cond.instanceMethod yX7_writes, Cond.selects RX7 yX7_writes yX7_writes, Cond.code yX7_writes cX7_writes 6 none, Cond.methodLink RX7 59 yX7_held, Cond.instanceMethod yX7_held, Cond.selects RX7 yX7_held yX7_held, Cond.code yX7_held cX7_held 4 (some .int), Cond.methodLink RX7 81 yX7_hasStep, Cond.static yX7_hasStep, Cond.code yX7_hasStep cX7_hasStep 1 (some .boolean), Cond.methodLink RX7 84 yX7_isMuch, Cond.instanceMethod yX7_isMuch, Cond.selects RX7 yX7_isMuch yX7_isMuch]
def wsX7_shuts_r3 : List Cond := [Cond.code yX7_isMuch cX7_isMuch 2 (some .boolean), Cond.constant RX7 45 (2147483647), Cond.methodLink RX7 87 yX7_steps, Cond.instanceMethod yX7_steps, Cond.selects RX7 yX7_steps yX7_steps, Cond.code yX7_steps cX7_steps 2 none, Cond.methodLink RX7 165 yX7_notes, Cond.instanceMethod yX7_notes, Cond.selects RX7 yX7_notes yX7_notes, Cond.code yX7_notes cX7_notes 4 none, Cond.fieldLink RX7 129 "RaceWatchModel" "entries" "I", Cond.fieldLink RX7 17 "RaceWatchModel" "journals" "[I"]
def wsX7_shuts : List Cond := .code yX7_shuts cX7_shuts 1 none :: ((wsX7_shuts_r1 ++ (wsX7_shuts_r2 ++ wsX7_shuts_r3)) ++ wsX70)
def wsX7_takesRegion_r1 : List Cond := [Cond.fieldLink RX7 153 "RaceWatchModel" "figure" "I", Cond.fieldLink RX7 156 "RaceWatchModel" "regions" "I", Cond.fieldLink RX7 159 "RaceWatchModel" "who" "I", Cond.methodLink RX7 168 yX7_takesFigure, Cond.instanceMethod yX7_takesFigure, Cond.selects RX7 yX7_takesFigure yX7_takesFigure, Cond.initialized RX7, Cond.code yX7_takesFigure cX7_takesFigure 3 (some .boolean), Cond.constantLong RX7 146 (48), Cond.constantLong RX7 148 (57), Cond.methodLink RX7 142 yX7_here, Cond.instanceMethod yX7_here, Cond.selects RX7 yX7_here yX7_here, Cond.code yX7_here cX7_here 1 (some .int), Cond.fieldLink RX7 133 "RaceWatchModel" "at" "I", Cond.fieldLink RX7 7 "RaceWatchModel" "w" "[I", Cond.methodLink RX7 31 yX7_in, Cond.static yX7_in, Cond.code yX7_in cX7_in 6 (some .boolean), Cond.methodLink RX7 150 yX7_fails, Cond.instanceMethod yX7_fails, Cond.selects RX7 yX7_fails yX7_fails, Cond.code yX7_fails cX7_fails 2 (some .boolean), Cond.fieldLink RX7 136 "RaceWatchModel" "fault" "I"]
def wsX7_takesRegion_r2 : List Cond := [Cond.fieldLink RX7 139 "RaceWatchModel" "faultAt" "I", Cond.methodLink RX7 171 yX7_did, Cond.instanceMethod yX7_did, Cond.selects RX7 yX7_did yX7_did, Cond.code yX7_did cX7_did 3 (some .boolean), Cond.methodLink RX7 93 yX7_isWith, Cond.static yX7_isWith, Cond.code yX7_isWith cX7_isWith 3 (some .boolean), Cond.methodLink RX7 46 yX7_isCell, Cond.static yX7_isCell, Cond.code yX7_isCell cX7_isCell 1 (some .boolean), Cond.constantLong RX7 29 (3), Cond.methodLink RX7 50 yX7_isLock, Cond.static yX7_isLock, Cond.code yX7_isLock cX7_isLock 1 (some .boolean), Cond.constantLong RX7 35 (2), Cond.methodLink RX7 53 yX7_isSeen, Cond.static yX7_isSeen, Cond.code yX7_isSeen cX7_isSeen 1 (some .boolean), Cond.methodLink RX7 56 yX7_isThread, Cond.static yX7_isThread, Cond.code yX7_isThread cX7_isThread 1 (some .boolean), Cond.methodLink RX7 99 yX7_can, Cond.instanceMethod yX7_can]
def wsX7_takesRegion_r3 : List Cond := [Cond.selects RX7 yX7_can yX7_can, Cond.code yX7_can cX7_can 4 (some .boolean), Cond.methodLink RX7 59 yX7_held, Cond.instanceMethod yX7_held, Cond.selects RX7 yX7_held yX7_held, Cond.code yX7_held cX7_held 4 (some .int), Cond.methodLink RX7 81 yX7_hasStep, Cond.static yX7_hasStep, Cond.code yX7_hasStep cX7_hasStep 1 (some .boolean), Cond.methodLink RX7 84 yX7_isMuch, Cond.instanceMethod yX7_isMuch, Cond.selects RX7 yX7_isMuch yX7_isMuch, Cond.code yX7_isMuch cX7_isMuch 2 (some .boolean), Cond.constant RX7 45 (2147483647), Cond.methodLink RX7 41 yX7_number, Cond.instanceMethod yX7_number, Cond.selects RX7 yX7_number yX7_number, Cond.code yX7_number cX7_number 3 (some .int), Cond.methodLink RX7 105 yX7_comes, Cond.instanceMethod yX7_comes, Cond.selects RX7 yX7_comes yX7_comes, Cond.code yX7_comes cX7_comes 6 none, Cond.methodLink RX7 70 yX7_accesses, Cond.instanceMethod yX7_accesses]
def wsX7_takesRegion_r4 : List Cond := [Cond.selects RX7 yX7_accesses yX7_accesses, Cond.code yX7_accesses cX7_accesses 7 none, Cond.methodLink RX7 37 yX7_of, Cond.static yX7_of, Cond.code yX7_of cX7_of 1 (some .int), Cond.methodLink RX7 62 yX7_kindOf, Cond.instanceMethod yX7_kindOf, Cond.selects RX7 yX7_kindOf yX7_kindOf, Cond.code yX7_kindOf cX7_kindOf 9 (some .int), Cond.methodLink RX7 66 yX7_reads, Cond.instanceMethod yX7_reads, Cond.selects RX7 yX7_reads yX7_reads, Cond.code yX7_reads cX7_reads 4 none, Cond.methodLink RX7 74 yX7_joins, Cond.instanceMethod yX7_joins, Cond.selects RX7 yX7_joins yX7_joins, Cond.code yX7_joins cX7_joins 4 none, Cond.methodLink RX7 77 yX7_writes, Cond.instanceMethod yX7_writes, Cond.selects RX7 yX7_writes yX7_writes, Cond.code yX7_writes cX7_writes 6 none, Cond.methodLink RX7 87 yX7_steps, Cond.instanceMethod yX7_steps, Cond.selects RX7 yX7_steps yX7_steps]
def wsX7_takesRegion_r5 : List Cond := [Cond.code yX7_steps cX7_steps 2 none, Cond.methodLink RX7 165 yX7_notes, Cond.instanceMethod yX7_notes, Cond.selects RX7 yX7_notes yX7_notes, Cond.code yX7_notes cX7_notes 4 none, Cond.fieldLink RX7 129 "RaceWatchModel" "entries" "I", Cond.fieldLink RX7 17 "RaceWatchModel" "journals" "[I", Cond.methodLink RX7 174 yX7_opens, Cond.instanceMethod yX7_opens, Cond.selects RX7 yX7_opens yX7_opens, Cond.code yX7_opens cX7_opens 3 none, Cond.fieldLink RX7 20 "RaceWatchModel" "openLock" "[I", Cond.fieldLink RX7 162 "RaceWatchModel" "open" "I", Cond.fieldLink RX7 23 "RaceWatchModel" "openThread" "[I", Cond.methodLink RX7 177 yX7_takes, Cond.instanceMethod yX7_takes, Cond.selects RX7 yX7_takes yX7_takes, Cond.code yX7_takes cX7_takes 2 (some .boolean)]
def wsX7_takesRegion : List Cond := .code yX7_takesRegion cX7_takesRegion 1 (some .boolean) :: ((wsX7_takesRegion_r1 ++ (wsX7_takesRegion_r2 ++ (wsX7_takesRegion_r3 ++ (wsX7_takesRegion_r4 ++ wsX7_takesRegion_r5)))) ++ wsX70)
def wsX7_takesTurn_r1 : List Cond := [Cond.fieldLink RX7 7 "RaceWatchModel" "w" "[I", Cond.fieldLink RX7 153 "RaceWatchModel" "figure" "I", Cond.fieldLink RX7 133 "RaceWatchModel" "at" "I", Cond.fieldLink RX7 159 "RaceWatchModel" "who" "I", Cond.methodLink RX7 168 yX7_takesFigure, Cond.instanceMethod yX7_takesFigure, Cond.selects RX7 yX7_takesFigure yX7_takesFigure, Cond.initialized RX7, Cond.code yX7_takesFigure cX7_takesFigure 3 (some .boolean), Cond.constantLong RX7 146 (48), Cond.constantLong RX7 148 (57), Cond.methodLink RX7 142 yX7_here, Cond.instanceMethod yX7_here, Cond.selects RX7 yX7_here yX7_here, Cond.code yX7_here cX7_here 1 (some .int), Cond.methodLink RX7 31 yX7_in, Cond.static yX7_in, Cond.code yX7_in cX7_in 6 (some .boolean), Cond.methodLink RX7 150 yX7_fails, Cond.instanceMethod yX7_fails, Cond.selects RX7 yX7_fails yX7_fails, Cond.code yX7_fails cX7_fails 2 (some .boolean), Cond.fieldLink RX7 136 "RaceWatchModel" "fault" "I", Cond.fieldLink RX7 139 "RaceWatchModel" "faultAt" "I"]
def wsX7_takesTurn_r2 : List Cond := [Cond.methodLink RX7 174 yX7_opens, Cond.instanceMethod yX7_opens, Cond.selects RX7 yX7_opens yX7_opens, Cond.code yX7_opens cX7_opens 3 none, Cond.fieldLink RX7 20 "RaceWatchModel" "openLock" "[I", Cond.fieldLink RX7 162 "RaceWatchModel" "open" "I", Cond.fieldLink RX7 23 "RaceWatchModel" "openThread" "[I", Cond.methodLink RX7 177 yX7_takes, Cond.instanceMethod yX7_takes, Cond.selects RX7 yX7_takes yX7_takes, Cond.code yX7_takes cX7_takes 2 (some .boolean)]
def wsX7_takesTurn : List Cond := .code yX7_takesTurn cX7_takesTurn 1 (some .boolean) :: ((wsX7_takesTurn_r1 ++ wsX7_takesTurn_r2) ++ wsX70)
def wsX7_takesEnd_r1 : List Cond := [Cond.fieldLink RX7 162 "RaceWatchModel" "open" "I", Cond.fieldLink RX7 133 "RaceWatchModel" "at" "I", Cond.methodLink RX7 150 yX7_fails, Cond.instanceMethod yX7_fails, Cond.selects RX7 yX7_fails yX7_fails, Cond.initialized RX7, Cond.code yX7_fails cX7_fails 2 (some .boolean), Cond.fieldLink RX7 136 "RaceWatchModel" "fault" "I", Cond.fieldLink RX7 139 "RaceWatchModel" "faultAt" "I", Cond.methodLink RX7 180 yX7_shuts, Cond.instanceMethod yX7_shuts, Cond.selects RX7 yX7_shuts yX7_shuts, Cond.code yX7_shuts cX7_shuts 1 none, Cond.fieldLink RX7 20 "RaceWatchModel" "openLock" "[I", Cond.fieldLink RX7 23 "RaceWatchModel" "openThread" "[I", Cond.fieldLink RX7 159 "RaceWatchModel" "who" "I", Cond.fieldLink RX7 156 "RaceWatchModel" "regions" "I", Cond.methodLink RX7 105 yX7_comes, Cond.instanceMethod yX7_comes, Cond.selects RX7 yX7_comes yX7_comes, Cond.code yX7_comes cX7_comes 6 none, Cond.fieldLink RX7 7 "RaceWatchModel" "w" "[I", Cond.methodLink RX7 70 yX7_accesses, Cond.instanceMethod yX7_accesses]
def wsX7_takesEnd_r2 : List Cond := [Cond.selects RX7 yX7_accesses yX7_accesses, Cond.code yX7_accesses cX7_accesses 7 none, Cond.methodLink RX7 37 yX7_of, Cond.static yX7_of, Cond.code yX7_of cX7_of 1 (some .int), Cond.methodLink RX7 62 yX7_kindOf, Cond.instanceMethod yX7_kindOf, Cond.selects RX7 yX7_kindOf yX7_kindOf, Cond.code yX7_kindOf cX7_kindOf 9 (some .int), Cond.methodLink RX7 41 yX7_number, Cond.instanceMethod yX7_number, Cond.selects RX7 yX7_number yX7_number, Cond.code yX7_number cX7_number 3 (some .int), Cond.methodLink RX7 66 yX7_reads, Cond.instanceMethod yX7_reads, Cond.selects RX7 yX7_reads yX7_reads, Cond.code yX7_reads cX7_reads 4 none, Cond.methodLink RX7 74 yX7_joins, Cond.instanceMethod yX7_joins, Cond.selects RX7 yX7_joins yX7_joins, Cond.code yX7_joins cX7_joins 4 none, Cond.methodLink RX7 77 yX7_writes, Cond.instanceMethod yX7_writes, Cond.selects RX7 yX7_writes yX7_writes]
def wsX7_takesEnd_r3 : List Cond := [Cond.code yX7_writes cX7_writes 6 none, Cond.methodLink RX7 59 yX7_held, Cond.instanceMethod yX7_held, Cond.selects RX7 yX7_held yX7_held, Cond.code yX7_held cX7_held 4 (some .int), Cond.methodLink RX7 81 yX7_hasStep, Cond.static yX7_hasStep, Cond.code yX7_hasStep cX7_hasStep 1 (some .boolean), Cond.methodLink RX7 84 yX7_isMuch, Cond.instanceMethod yX7_isMuch, Cond.selects RX7 yX7_isMuch yX7_isMuch, Cond.code yX7_isMuch cX7_isMuch 2 (some .boolean), Cond.constant RX7 45 (2147483647), Cond.methodLink RX7 87 yX7_steps, Cond.instanceMethod yX7_steps, Cond.selects RX7 yX7_steps yX7_steps, Cond.code yX7_steps cX7_steps 2 none, Cond.methodLink RX7 165 yX7_notes, Cond.instanceMethod yX7_notes, Cond.selects RX7 yX7_notes yX7_notes, Cond.code yX7_notes cX7_notes 4 none, Cond.fieldLink RX7 129 "RaceWatchModel" "entries" "I", Cond.fieldLink RX7 17 "RaceWatchModel" "journals" "[I"]
def wsX7_takesEnd : List Cond := .code yX7_takesEnd cX7_takesEnd 1 (some .boolean) :: ((wsX7_takesEnd_r1 ++ (wsX7_takesEnd_r2 ++ wsX7_takesEnd_r3)) ++ wsX70)
def wsX7_sortOf : List Cond := .code yX7_sortOf cX7_sortOf 1 (some .int) :: ([])
def wsX7_takesItem_r1 : List Cond := [Cond.fieldLink RX7 133 "RaceWatchModel" "at" "I", Cond.methodLink RX7 183 yX7_takesEnd, Cond.instanceMethod yX7_takesEnd, Cond.selects RX7 yX7_takesEnd yX7_takesEnd, Cond.initialized RX7, Cond.code yX7_takesEnd cX7_takesEnd 1 (some .boolean), Cond.fieldLink RX7 162 "RaceWatchModel" "open" "I", Cond.methodLink RX7 150 yX7_fails, Cond.instanceMethod yX7_fails, Cond.selects RX7 yX7_fails yX7_fails, Cond.code yX7_fails cX7_fails 2 (some .boolean), Cond.fieldLink RX7 136 "RaceWatchModel" "fault" "I", Cond.fieldLink RX7 139 "RaceWatchModel" "faultAt" "I", Cond.methodLink RX7 180 yX7_shuts, Cond.instanceMethod yX7_shuts, Cond.selects RX7 yX7_shuts yX7_shuts, Cond.code yX7_shuts cX7_shuts 1 none, Cond.fieldLink RX7 20 "RaceWatchModel" "openLock" "[I", Cond.fieldLink RX7 23 "RaceWatchModel" "openThread" "[I", Cond.fieldLink RX7 159 "RaceWatchModel" "who" "I", Cond.fieldLink RX7 156 "RaceWatchModel" "regions" "I", Cond.methodLink RX7 105 yX7_comes, Cond.instanceMethod yX7_comes, Cond.selects RX7 yX7_comes yX7_comes]
def wsX7_takesItem_r2 : List Cond := [Cond.code yX7_comes cX7_comes 6 none, Cond.fieldLink RX7 7 "RaceWatchModel" "w" "[I", Cond.methodLink RX7 70 yX7_accesses, Cond.instanceMethod yX7_accesses, Cond.selects RX7 yX7_accesses yX7_accesses, Cond.code yX7_accesses cX7_accesses 7 none, Cond.methodLink RX7 37 yX7_of, Cond.static yX7_of, Cond.code yX7_of cX7_of 1 (some .int), Cond.methodLink RX7 62 yX7_kindOf, Cond.instanceMethod yX7_kindOf, Cond.selects RX7 yX7_kindOf yX7_kindOf, Cond.code yX7_kindOf cX7_kindOf 9 (some .int), Cond.methodLink RX7 41 yX7_number, Cond.instanceMethod yX7_number, Cond.selects RX7 yX7_number yX7_number, Cond.code yX7_number cX7_number 3 (some .int), Cond.methodLink RX7 66 yX7_reads, Cond.instanceMethod yX7_reads, Cond.selects RX7 yX7_reads yX7_reads, Cond.code yX7_reads cX7_reads 4 none, Cond.methodLink RX7 74 yX7_joins, Cond.instanceMethod yX7_joins, Cond.selects RX7 yX7_joins yX7_joins]
def wsX7_takesItem_r3 : List Cond := [Cond.code yX7_joins cX7_joins 4 none, Cond.methodLink RX7 77 yX7_writes, Cond.instanceMethod yX7_writes, Cond.selects RX7 yX7_writes yX7_writes, Cond.code yX7_writes cX7_writes 6 none, Cond.methodLink RX7 59 yX7_held, Cond.instanceMethod yX7_held, Cond.selects RX7 yX7_held yX7_held, Cond.code yX7_held cX7_held 4 (some .int), Cond.methodLink RX7 81 yX7_hasStep, Cond.static yX7_hasStep, Cond.code yX7_hasStep cX7_hasStep 1 (some .boolean), Cond.methodLink RX7 84 yX7_isMuch, Cond.instanceMethod yX7_isMuch, Cond.selects RX7 yX7_isMuch yX7_isMuch, Cond.code yX7_isMuch cX7_isMuch 2 (some .boolean), Cond.constant RX7 45 (2147483647), Cond.methodLink RX7 87 yX7_steps, Cond.instanceMethod yX7_steps, Cond.selects RX7 yX7_steps yX7_steps, Cond.code yX7_steps cX7_steps 2 none, Cond.methodLink RX7 165 yX7_notes, Cond.instanceMethod yX7_notes, Cond.selects RX7 yX7_notes yX7_notes]
def wsX7_takesItem_r4 : List Cond := [Cond.code yX7_notes cX7_notes 4 none, Cond.fieldLink RX7 129 "RaceWatchModel" "entries" "I", Cond.fieldLink RX7 17 "RaceWatchModel" "journals" "[I", Cond.methodLink RX7 187 yX7_sortOf, Cond.static yX7_sortOf, Cond.code yX7_sortOf cX7_sortOf 1 (some .int), Cond.methodLink RX7 190 yX7_takesRegion, Cond.instanceMethod yX7_takesRegion, Cond.selects RX7 yX7_takesRegion yX7_takesRegion, Cond.code yX7_takesRegion cX7_takesRegion 1 (some .boolean), Cond.fieldLink RX7 153 "RaceWatchModel" "figure" "I", Cond.methodLink RX7 168 yX7_takesFigure, Cond.instanceMethod yX7_takesFigure, Cond.selects RX7 yX7_takesFigure yX7_takesFigure, Cond.code yX7_takesFigure cX7_takesFigure 3 (some .boolean), Cond.constantLong RX7 146 (48), Cond.constantLong RX7 148 (57), Cond.methodLink RX7 142 yX7_here, Cond.instanceMethod yX7_here, Cond.selects RX7 yX7_here yX7_here, Cond.code yX7_here cX7_here 1 (some .int), Cond.methodLink RX7 31 yX7_in, Cond.static yX7_in, Cond.code yX7_in cX7_in 6 (some .boolean)]
def wsX7_takesItem_r5 : List Cond := [Cond.methodLink RX7 171 yX7_did, Cond.instanceMethod yX7_did, Cond.selects RX7 yX7_did yX7_did, Cond.code yX7_did cX7_did 3 (some .boolean), Cond.methodLink RX7 93 yX7_isWith, Cond.static yX7_isWith, Cond.code yX7_isWith cX7_isWith 3 (some .boolean), Cond.methodLink RX7 46 yX7_isCell, Cond.static yX7_isCell, Cond.code yX7_isCell cX7_isCell 1 (some .boolean), Cond.constantLong RX7 29 (3), Cond.methodLink RX7 50 yX7_isLock, Cond.static yX7_isLock, Cond.code yX7_isLock cX7_isLock 1 (some .boolean), Cond.constantLong RX7 35 (2), Cond.methodLink RX7 53 yX7_isSeen, Cond.static yX7_isSeen, Cond.code yX7_isSeen cX7_isSeen 1 (some .boolean), Cond.methodLink RX7 56 yX7_isThread, Cond.static yX7_isThread, Cond.code yX7_isThread cX7_isThread 1 (some .boolean), Cond.methodLink RX7 99 yX7_can, Cond.instanceMethod yX7_can, Cond.selects RX7 yX7_can yX7_can]
def wsX7_takesItem_r6 : List Cond := [Cond.code yX7_can cX7_can 4 (some .boolean), Cond.methodLink RX7 174 yX7_opens, Cond.instanceMethod yX7_opens, Cond.selects RX7 yX7_opens yX7_opens, Cond.code yX7_opens cX7_opens 3 none, Cond.methodLink RX7 177 yX7_takes, Cond.instanceMethod yX7_takes, Cond.selects RX7 yX7_takes yX7_takes, Cond.code yX7_takes cX7_takes 2 (some .boolean), Cond.methodLink RX7 193 yX7_takesTurn, Cond.instanceMethod yX7_takesTurn, Cond.selects RX7 yX7_takesTurn yX7_takesTurn, Cond.code yX7_takesTurn cX7_takesTurn 1 (some .boolean)]
def wsX7_takesItem : List Cond := .code yX7_takesItem cX7_takesItem 3 (some .boolean) :: ((wsX7_takesItem_r1 ++ (wsX7_takesItem_r2 ++ (wsX7_takesItem_r3 ++ (wsX7_takesItem_r4 ++ (wsX7_takesItem_r5 ++ wsX7_takesItem_r6))))) ++ wsX70)
def wsX7_run_r1 : List Cond := [Cond.fieldLink RX7 7 "RaceWatchModel" "w" "[I", Cond.fieldLink RX7 133 "RaceWatchModel" "at" "I", Cond.fieldLink RX7 159 "RaceWatchModel" "who" "I", Cond.fieldLink RX7 162 "RaceWatchModel" "open" "I", Cond.fieldLink RX7 156 "RaceWatchModel" "regions" "I", Cond.fieldLink RX7 136 "RaceWatchModel" "fault" "I", Cond.fieldLink RX7 139 "RaceWatchModel" "faultAt" "I", Cond.methodLink RX7 142 yX7_here, Cond.instanceMethod yX7_here, Cond.selects RX7 yX7_here yX7_here, Cond.initialized RX7, Cond.code yX7_here cX7_here 1 (some .int), Cond.methodLink RX7 196 yX7_takesItem, Cond.instanceMethod yX7_takesItem, Cond.selects RX7 yX7_takesItem yX7_takesItem, Cond.code yX7_takesItem cX7_takesItem 3 (some .boolean), Cond.methodLink RX7 183 yX7_takesEnd, Cond.instanceMethod yX7_takesEnd, Cond.selects RX7 yX7_takesEnd yX7_takesEnd, Cond.code yX7_takesEnd cX7_takesEnd 1 (some .boolean), Cond.methodLink RX7 150 yX7_fails, Cond.instanceMethod yX7_fails, Cond.selects RX7 yX7_fails yX7_fails, Cond.code yX7_fails cX7_fails 2 (some .boolean)]
def wsX7_run_r2 : List Cond := [Cond.methodLink RX7 180 yX7_shuts, Cond.instanceMethod yX7_shuts, Cond.selects RX7 yX7_shuts yX7_shuts, Cond.code yX7_shuts cX7_shuts 1 none, Cond.fieldLink RX7 20 "RaceWatchModel" "openLock" "[I", Cond.fieldLink RX7 23 "RaceWatchModel" "openThread" "[I", Cond.methodLink RX7 105 yX7_comes, Cond.instanceMethod yX7_comes, Cond.selects RX7 yX7_comes yX7_comes, Cond.code yX7_comes cX7_comes 6 none, Cond.methodLink RX7 70 yX7_accesses, Cond.instanceMethod yX7_accesses, Cond.selects RX7 yX7_accesses yX7_accesses, Cond.code yX7_accesses cX7_accesses 7 none, Cond.methodLink RX7 37 yX7_of, Cond.static yX7_of, Cond.code yX7_of cX7_of 1 (some .int), Cond.methodLink RX7 62 yX7_kindOf, Cond.instanceMethod yX7_kindOf, Cond.selects RX7 yX7_kindOf yX7_kindOf, Cond.code yX7_kindOf cX7_kindOf 9 (some .int), Cond.methodLink RX7 41 yX7_number, Cond.instanceMethod yX7_number, Cond.selects RX7 yX7_number yX7_number]
def wsX7_run_r3 : List Cond := [Cond.code yX7_number cX7_number 3 (some .int), Cond.methodLink RX7 66 yX7_reads, Cond.instanceMethod yX7_reads, Cond.selects RX7 yX7_reads yX7_reads, Cond.code yX7_reads cX7_reads 4 none, Cond.methodLink RX7 74 yX7_joins, Cond.instanceMethod yX7_joins, Cond.selects RX7 yX7_joins yX7_joins, Cond.code yX7_joins cX7_joins 4 none, Cond.methodLink RX7 77 yX7_writes, Cond.instanceMethod yX7_writes, Cond.selects RX7 yX7_writes yX7_writes, Cond.code yX7_writes cX7_writes 6 none, Cond.methodLink RX7 59 yX7_held, Cond.instanceMethod yX7_held, Cond.selects RX7 yX7_held yX7_held, Cond.code yX7_held cX7_held 4 (some .int), Cond.methodLink RX7 81 yX7_hasStep, Cond.static yX7_hasStep, Cond.code yX7_hasStep cX7_hasStep 1 (some .boolean), Cond.methodLink RX7 84 yX7_isMuch, Cond.instanceMethod yX7_isMuch, Cond.selects RX7 yX7_isMuch yX7_isMuch, Cond.code yX7_isMuch cX7_isMuch 2 (some .boolean)]
def wsX7_run_r4 : List Cond := [Cond.constant RX7 45 (2147483647), Cond.methodLink RX7 87 yX7_steps, Cond.instanceMethod yX7_steps, Cond.selects RX7 yX7_steps yX7_steps, Cond.code yX7_steps cX7_steps 2 none, Cond.methodLink RX7 165 yX7_notes, Cond.instanceMethod yX7_notes, Cond.selects RX7 yX7_notes yX7_notes, Cond.code yX7_notes cX7_notes 4 none, Cond.fieldLink RX7 129 "RaceWatchModel" "entries" "I", Cond.fieldLink RX7 17 "RaceWatchModel" "journals" "[I", Cond.methodLink RX7 187 yX7_sortOf, Cond.static yX7_sortOf, Cond.code yX7_sortOf cX7_sortOf 1 (some .int), Cond.methodLink RX7 190 yX7_takesRegion, Cond.instanceMethod yX7_takesRegion, Cond.selects RX7 yX7_takesRegion yX7_takesRegion, Cond.code yX7_takesRegion cX7_takesRegion 1 (some .boolean), Cond.fieldLink RX7 153 "RaceWatchModel" "figure" "I", Cond.methodLink RX7 168 yX7_takesFigure, Cond.instanceMethod yX7_takesFigure, Cond.selects RX7 yX7_takesFigure yX7_takesFigure, Cond.code yX7_takesFigure cX7_takesFigure 3 (some .boolean), Cond.constantLong RX7 146 (48)]
def wsX7_run_r5 : List Cond := [Cond.constantLong RX7 148 (57), Cond.methodLink RX7 31 yX7_in, Cond.static yX7_in, Cond.code yX7_in cX7_in 6 (some .boolean), Cond.methodLink RX7 171 yX7_did, Cond.instanceMethod yX7_did, Cond.selects RX7 yX7_did yX7_did, Cond.code yX7_did cX7_did 3 (some .boolean), Cond.methodLink RX7 93 yX7_isWith, Cond.static yX7_isWith, Cond.code yX7_isWith cX7_isWith 3 (some .boolean), Cond.methodLink RX7 46 yX7_isCell, Cond.static yX7_isCell, Cond.code yX7_isCell cX7_isCell 1 (some .boolean), Cond.constantLong RX7 29 (3), Cond.methodLink RX7 50 yX7_isLock, Cond.static yX7_isLock, Cond.code yX7_isLock cX7_isLock 1 (some .boolean), Cond.constantLong RX7 35 (2), Cond.methodLink RX7 53 yX7_isSeen, Cond.static yX7_isSeen, Cond.code yX7_isSeen cX7_isSeen 1 (some .boolean), Cond.methodLink RX7 56 yX7_isThread, Cond.static yX7_isThread]
def wsX7_run_r6 : List Cond := [Cond.code yX7_isThread cX7_isThread 1 (some .boolean), Cond.methodLink RX7 99 yX7_can, Cond.instanceMethod yX7_can, Cond.selects RX7 yX7_can yX7_can, Cond.code yX7_can cX7_can 4 (some .boolean), Cond.methodLink RX7 174 yX7_opens, Cond.instanceMethod yX7_opens, Cond.selects RX7 yX7_opens yX7_opens, Cond.code yX7_opens cX7_opens 3 none, Cond.methodLink RX7 177 yX7_takes, Cond.instanceMethod yX7_takes, Cond.selects RX7 yX7_takes yX7_takes, Cond.code yX7_takes cX7_takes 2 (some .boolean), Cond.methodLink RX7 193 yX7_takesTurn, Cond.instanceMethod yX7_takesTurn, Cond.selects RX7 yX7_takesTurn yX7_takesTurn, Cond.code yX7_takesTurn cX7_takesTurn 1 (some .boolean)]
def wsX7_run : List Cond := .code yX7_run cX7_run 3 (some .int) :: ((wsX7_run_r1 ++ (wsX7_run_r2 ++ (wsX7_run_r3 ++ (wsX7_run_r4 ++ (wsX7_run_r5 ++ wsX7_run_r6))))) ++ wsX70)
def wsX7_fault : List Cond := .code yX7_fault cX7_fault 1 (some .int) :: ([.fieldLink RX7 7 "RaceWatchModel" "w" "[I"] ++ wsX70)
def wsX7_whoIs : List Cond := .code yX7_whoIs cX7_whoIs 4 (some .int) :: ([.fieldLink RX7 7 "RaceWatchModel" "w" "[I"] ++ wsX70)
def wsX7_locksHeld : List Cond := .code yX7_locksHeld cX7_locksHeld 3 (some .int) :: ([.fieldLink RX7 7 "RaceWatchModel" "w" "[I"] ++ wsX70)
def wsX7_isAccess : List Cond := .code yX7_isAccess cX7_isAccess 3 (some .boolean) :: ([.fieldLink RX7 7 "RaceWatchModel" "w" "[I"] ++ wsX70)
def wsX7_isAhead : List Cond := .code yX7_isAhead cX7_isAhead 4 (some .boolean) :: ([.fieldLink RX7 7 "RaceWatchModel" "w" "[I"] ++ wsX70)
def wsX7_kindBy : List Cond := .code yX7_kindBy cX7_kindBy 6 (some .int) :: ([.fieldLink RX7 7 "RaceWatchModel" "w" "[I", .methodLink RX7 222 yX7_isAccess, .instanceMethod yX7_isAccess, .selects RX7 yX7_isAccess yX7_isAccess, .initialized RX7, .code yX7_isAccess cX7_isAccess 3 (some .boolean), .methodLink RX7 218 yX7_isAhead, .instanceMethod yX7_isAhead, .selects RX7 yX7_isAhead yX7_isAhead, .code yX7_isAhead cX7_isAhead 4 (some .boolean)] ++ wsX70)
def wsX7_racesOf : List Cond := .code yX7_racesOf cX7_racesOf 7 (some .int) :: ([.fieldLink RX7 7 "RaceWatchModel" "w" "[I", .methodLink RX7 222 yX7_isAccess, .instanceMethod yX7_isAccess, .selects RX7 yX7_isAccess yX7_isAccess, .initialized RX7, .code yX7_isAccess cX7_isAccess 3 (some .boolean), .methodLink RX7 225 yX7_kindBy, .instanceMethod yX7_kindBy, .selects RX7 yX7_kindBy yX7_kindBy, .code yX7_kindBy cX7_kindBy 6 (some .int), .methodLink RX7 218 yX7_isAhead, .instanceMethod yX7_isAhead, .selects RX7 yX7_isAhead yX7_isAhead, .code yX7_isAhead cX7_isAhead 4 (some .boolean)] ++ wsX70)
def wsX7_cellsRaced : List Cond := .code yX7_cellsRaced cX7_cellsRaced 3 (some .int) :: ([.methodLink RX7 199 yX7_racesOf, .instanceMethod yX7_racesOf, .selects RX7 yX7_racesOf yX7_racesOf, .initialized RX7, .code yX7_racesOf cX7_racesOf 7 (some .int), .fieldLink RX7 7 "RaceWatchModel" "w" "[I", .methodLink RX7 222 yX7_isAccess, .instanceMethod yX7_isAccess, .selects RX7 yX7_isAccess yX7_isAccess, .code yX7_isAccess cX7_isAccess 3 (some .boolean), .methodLink RX7 225 yX7_kindBy, .instanceMethod yX7_kindBy, .selects RX7 yX7_kindBy yX7_kindBy, .code yX7_kindBy cX7_kindBy 6 (some .int), .methodLink RX7 218 yX7_isAhead, .instanceMethod yX7_isAhead, .selects RX7 yX7_isAhead yX7_isAhead, .code yX7_isAhead cX7_isAhead 4 (some .boolean)] ++ wsX70)
def wsX7_overCells : List Cond := .code yX7_overCells cX7_overCells 4 (some .int) :: ([.fieldLink RX7 7 "RaceWatchModel" "w" "[I", .methodLink RX7 199 yX7_racesOf, .instanceMethod yX7_racesOf, .selects RX7 yX7_racesOf yX7_racesOf, .initialized RX7, .code yX7_racesOf cX7_racesOf 7 (some .int), .methodLink RX7 222 yX7_isAccess, .instanceMethod yX7_isAccess, .selects RX7 yX7_isAccess yX7_isAccess, .code yX7_isAccess cX7_isAccess 3 (some .boolean), .methodLink RX7 225 yX7_kindBy, .instanceMethod yX7_kindBy, .selects RX7 yX7_kindBy yX7_kindBy, .code yX7_kindBy cX7_kindBy 6 (some .int), .methodLink RX7 218 yX7_isAhead, .instanceMethod yX7_isAhead, .selects RX7 yX7_isAhead yX7_isAhead, .code yX7_isAhead cX7_isAhead 4 (some .boolean), .methodLink RX7 37 yX7_of, .static yX7_of, .code yX7_of cX7_of 1 (some .int)] ++ wsX70)
def wsX7_told_r1 : List Cond := [Cond.fieldLink RX7 7 "RaceWatchModel" "w" "[I", Cond.fieldLink RX7 129 "RaceWatchModel" "entries" "I", Cond.constant RX7 98 (-1000000002), Cond.methodLink RX7 202 yX7_whoIs, Cond.instanceMethod yX7_whoIs, Cond.selects RX7 yX7_whoIs yX7_whoIs, Cond.initialized RX7, Cond.code yX7_whoIs cX7_whoIs 4 (some .int), Cond.methodLink RX7 205 yX7_locksHeld, Cond.instanceMethod yX7_locksHeld, Cond.selects RX7 yX7_locksHeld yX7_locksHeld, Cond.code yX7_locksHeld cX7_locksHeld 3 (some .int), Cond.methodLink RX7 208 yX7_cellsRaced, Cond.instanceMethod yX7_cellsRaced, Cond.selects RX7 yX7_cellsRaced yX7_cellsRaced, Cond.code yX7_cellsRaced cX7_cellsRaced 3 (some .int), Cond.methodLink RX7 199 yX7_racesOf, Cond.instanceMethod yX7_racesOf, Cond.selects RX7 yX7_racesOf yX7_racesOf, Cond.code yX7_racesOf cX7_racesOf 7 (some .int), Cond.methodLink RX7 222 yX7_isAccess, Cond.instanceMethod yX7_isAccess, Cond.selects RX7 yX7_isAccess yX7_isAccess, Cond.code yX7_isAccess cX7_isAccess 3 (some .boolean)]
def wsX7_told_r2 : List Cond := [Cond.methodLink RX7 225 yX7_kindBy, Cond.instanceMethod yX7_kindBy, Cond.selects RX7 yX7_kindBy yX7_kindBy, Cond.code yX7_kindBy cX7_kindBy 6 (some .int), Cond.methodLink RX7 218 yX7_isAhead, Cond.instanceMethod yX7_isAhead, Cond.selects RX7 yX7_isAhead yX7_isAhead, Cond.code yX7_isAhead cX7_isAhead 4 (some .boolean), Cond.methodLink RX7 211 yX7_overCells, Cond.instanceMethod yX7_overCells, Cond.selects RX7 yX7_overCells yX7_overCells, Cond.code yX7_overCells cX7_overCells 4 (some .int), Cond.methodLink RX7 37 yX7_of, Cond.static yX7_of, Cond.code yX7_of cX7_of 1 (some .int)]
def wsX7_told : List Cond := .code yX7_told cX7_told 2 (some .int) :: ((wsX7_told_r1 ++ wsX7_told_r2) ++ wsX70)
def wsX7_clock : List Cond := .code yX7_clock cX7_clock 4 (some .int) :: ([.constant RX7 97 (-1000000001), .fieldLink RX7 7 "RaceWatchModel" "w" "[I", .constant RX7 98 (-1000000002), .methodLink RX7 56 yX7_isThread, .static yX7_isThread, .initialized RX7, .code yX7_isThread cX7_isThread 1 (some .boolean), .constantLong RX7 29 (3), .methodLink RX7 31 yX7_in, .static yX7_in, .code yX7_in cX7_in 6 (some .boolean), .methodLink RX7 50 yX7_isLock, .static yX7_isLock, .code yX7_isLock cX7_isLock 1 (some .boolean), .constantLong RX7 35 (2), .methodLink RX7 53 yX7_isSeen, .static yX7_isSeen, .code yX7_isSeen cX7_isSeen 1 (some .boolean)] ++ wsX70)
def wsX7_isEvent : List Cond := .code yX7_isEvent cX7_isEvent 2 (some .boolean) :: ([.fieldLink RX7 7 "RaceWatchModel" "w" "[I", .methodLink RX7 31 yX7_in, .static yX7_in, .initialized RX7, .code yX7_in cX7_in 6 (some .boolean)] ++ wsX70)
def wsX7_eventOf : List Cond := .code yX7_eventOf cX7_eventOf 3 (some .int) :: ([.constant RX7 97 (-1000000001), .constantLong RX7 91 (7), .fieldLink RX7 7 "RaceWatchModel" "w" "[I", .constant RX7 98 (-1000000002), .methodLink RX7 215 yX7_isEvent, .instanceMethod yX7_isEvent, .selects RX7 yX7_isEvent yX7_isEvent, .initialized RX7, .code yX7_isEvent cX7_isEvent 2 (some .boolean), .methodLink RX7 31 yX7_in, .static yX7_in, .code yX7_in cX7_in 6 (some .boolean)] ++ wsX70)
def wsX7_holder : List Cond := .code yX7_holder cX7_holder 2 (some .int) :: ([.fieldLink RX7 7 "RaceWatchModel" "w" "[I", .constant RX7 97 (-1000000001), .methodLink RX7 50 yX7_isLock, .static yX7_isLock, .initialized RX7, .code yX7_isLock cX7_isLock 1 (some .boolean), .constantLong RX7 35 (2), .methodLink RX7 31 yX7_in, .static yX7_in, .code yX7_in cX7_in 6 (some .boolean)] ++ wsX70)
def wsX7_journal : List Cond := .code yX7_journal cX7_journal 4 (some .int) :: ([.constant RX7 98 (-1000000002), .fieldLink RX7 129 "RaceWatchModel" "entries" "I", .fieldLink RX7 17 "RaceWatchModel" "journals" "[I", .methodLink RX7 31 yX7_in, .static yX7_in, .initialized RX7, .code yX7_in cX7_in 6 (some .boolean)] ++ wsX70)
def wsX7_ahead : List Cond := .code yX7_ahead cX7_ahead 3 (some .int) :: ([.constant RX7 97 (-1000000001), .methodLink RX7 215 yX7_isEvent, .instanceMethod yX7_isEvent, .selects RX7 yX7_isEvent yX7_isEvent, .initialized RX7, .code yX7_isEvent cX7_isEvent 2 (some .boolean), .fieldLink RX7 7 "RaceWatchModel" "w" "[I", .methodLink RX7 31 yX7_in, .static yX7_in, .code yX7_in cX7_in 6 (some .boolean), .methodLink RX7 218 yX7_isAhead, .instanceMethod yX7_isAhead, .selects RX7 yX7_isAhead yX7_isAhead, .code yX7_isAhead cX7_isAhead 4 (some .boolean)] ++ wsX70)
def wsX7_races_r1 : List Cond := [Cond.constant RX7 97 (-1000000001), Cond.constantLong RX7 29 (3), Cond.constant RX7 98 (-1000000002), Cond.methodLink RX7 46 yX7_isCell, Cond.static yX7_isCell, Cond.initialized RX7, Cond.code yX7_isCell cX7_isCell 1 (some .boolean), Cond.methodLink RX7 31 yX7_in, Cond.static yX7_in, Cond.code yX7_in cX7_in 6 (some .boolean), Cond.methodLink RX7 199 yX7_racesOf, Cond.instanceMethod yX7_racesOf, Cond.selects RX7 yX7_racesOf yX7_racesOf, Cond.code yX7_racesOf cX7_racesOf 7 (some .int), Cond.fieldLink RX7 7 "RaceWatchModel" "w" "[I", Cond.methodLink RX7 222 yX7_isAccess, Cond.instanceMethod yX7_isAccess, Cond.selects RX7 yX7_isAccess yX7_isAccess, Cond.code yX7_isAccess cX7_isAccess 3 (some .boolean), Cond.methodLink RX7 225 yX7_kindBy, Cond.instanceMethod yX7_kindBy, Cond.selects RX7 yX7_kindBy yX7_kindBy, Cond.code yX7_kindBy cX7_kindBy 6 (some .int), Cond.methodLink RX7 218 yX7_isAhead]
def wsX7_races_r2 : List Cond := [Cond.instanceMethod yX7_isAhead, Cond.selects RX7 yX7_isAhead yX7_isAhead, Cond.code yX7_isAhead cX7_isAhead 4 (some .boolean)]
def wsX7_races : List Cond := .code yX7_races cX7_races 3 (some .int) :: ((wsX7_races_r1 ++ wsX7_races_r2) ++ wsX70)
def wsX7_race : List Cond := .code yX7_race cX7_race 8 (some .int) :: ([.constant RX7 97 (-1000000001), .constantLong RX7 35 (2), .constant RX7 98 (-1000000002), .fieldLink RX7 7 "RaceWatchModel" "w" "[I", .methodLink RX7 46 yX7_isCell, .static yX7_isCell, .initialized RX7, .code yX7_isCell cX7_isCell 1 (some .boolean), .constantLong RX7 29 (3), .methodLink RX7 31 yX7_in, .static yX7_in, .code yX7_in cX7_in 6 (some .boolean), .methodLink RX7 222 yX7_isAccess, .instanceMethod yX7_isAccess, .selects RX7 yX7_isAccess yX7_isAccess, .code yX7_isAccess cX7_isAccess 3 (some .boolean), .methodLink RX7 225 yX7_kindBy, .instanceMethod yX7_kindBy, .selects RX7 yX7_kindBy yX7_kindBy, .code yX7_kindBy cX7_kindBy 6 (some .int), .methodLink RX7 218 yX7_isAhead, .instanceMethod yX7_isAhead, .selects RX7 yX7_isAhead yX7_isAhead, .code yX7_isAhead cX7_isAhead 4 (some .boolean)] ++ wsX70)
def wsX7_cell : List Cond := .code yX7_cell cX7_cell 4 (some .int) :: ([.constant RX7 97 (-1000000001), .fieldLink RX7 7 "RaceWatchModel" "w" "[I", .constant RX7 98 (-1000000002), .methodLink RX7 46 yX7_isCell, .static yX7_isCell, .initialized RX7, .code yX7_isCell cX7_isCell 1 (some .boolean), .constantLong RX7 29 (3), .methodLink RX7 31 yX7_in, .static yX7_in, .code yX7_in cX7_in 6 (some .boolean), .methodLink RX7 37 yX7_of, .static yX7_of, .code yX7_of cX7_of 1 (some .int)] ++ wsX70)
def wsX7_shared : List Cond := .code yX7_shared cX7_shared 3 (some .int) :: ([.fieldLink RX7 7 "RaceWatchModel" "w" "[I", .constant RX7 97 (-1000000001), .methodLink RX7 46 yX7_isCell, .static yX7_isCell, .initialized RX7, .code yX7_isCell cX7_isCell 1 (some .boolean), .constantLong RX7 29 (3), .methodLink RX7 31 yX7_in, .static yX7_in, .code yX7_in cX7_in 6 (some .boolean), .methodLink RX7 56 yX7_isThread, .static yX7_isThread, .code yX7_isThread cX7_isThread 1 (some .boolean), .methodLink RX7 37 yX7_of, .static yX7_of, .code yX7_of cX7_of 1 (some .int)] ++ wsX70)
def wsX7_would_r1 : List Cond := [Cond.constant RX7 97 (-1000000001), Cond.fieldLink RX7 7 "RaceWatchModel" "w" "[I", Cond.constant RX7 102 (-1000000003), Cond.methodLink RX7 56 yX7_isThread, Cond.static yX7_isThread, Cond.initialized RX7, Cond.code yX7_isThread cX7_isThread 1 (some .boolean), Cond.constantLong RX7 29 (3), Cond.methodLink RX7 31 yX7_in, Cond.static yX7_in, Cond.code yX7_in cX7_in 6 (some .boolean), Cond.methodLink RX7 46 yX7_isCell, Cond.static yX7_isCell, Cond.code yX7_isCell cX7_isCell 1 (some .boolean), Cond.methodLink RX7 62 yX7_kindOf, Cond.instanceMethod yX7_kindOf, Cond.selects RX7 yX7_kindOf yX7_kindOf, Cond.code yX7_kindOf cX7_kindOf 9 (some .int), Cond.methodLink RX7 37 yX7_of, Cond.static yX7_of, Cond.code yX7_of cX7_of 1 (some .int), Cond.methodLink RX7 41 yX7_number, Cond.instanceMethod yX7_number, Cond.selects RX7 yX7_number yX7_number]
def wsX7_would_r2 : List Cond := [Cond.code yX7_number cX7_number 3 (some .int)]
def wsX7_would : List Cond := .code yX7_would cX7_would 4 (some .int) :: ((wsX7_would_r1 ++ wsX7_would_r2) ++ wsX70)
def wsX7_guard : List Cond := .code yX7_guard cX7_guard 4 (some .int) :: ([.constant RX7 97 (-1000000001), .fieldLink RX7 7 "RaceWatchModel" "w" "[I", .methodLink RX7 46 yX7_isCell, .static yX7_isCell, .initialized RX7, .code yX7_isCell cX7_isCell 1 (some .boolean), .constantLong RX7 29 (3), .methodLink RX7 31 yX7_in, .static yX7_in, .code yX7_in cX7_in 6 (some .boolean), .methodLink RX7 222 yX7_isAccess, .instanceMethod yX7_isAccess, .selects RX7 yX7_isAccess yX7_isAccess, .code yX7_isAccess cX7_isAccess 3 (some .boolean)] ++ wsX70)
def wsX7_keep : List Cond := .code yX7_keep cX7_keep 3 (some .int) :: ([.constant RX7 97 (-1000000001), .fieldLink RX7 7 "RaceWatchModel" "w" "[I", .fieldLink RX7 13 "RaceWatchModel" "isKept" "[Z", .methodLink RX7 31 yX7_in, .static yX7_in, .initialized RX7, .code yX7_in cX7_in 6 (some .boolean)] ++ wsX70)
def wsX7_goBack : List Cond := .code yX7_goBack cX7_goBack 3 (some .int) :: ([.constant RX7 97 (-1000000001), .fieldLink RX7 13 "RaceWatchModel" "isKept" "[Z", .constant RX7 102 (-1000000003), .fieldLink RX7 7 "RaceWatchModel" "w" "[I", .methodLink RX7 31 yX7_in, .static yX7_in, .initialized RX7, .code yX7_in cX7_in 6 (some .boolean)] ++ wsX70)
def wsJ9_max_7cf53 : List Cond := .code yJ9_max_7cf53 cJ9_max_7cf53 2 (some .int) :: ([])
def wsJ9_min_7cf53 : List Cond := .code yJ9_min_7cf53 cJ9_min_7cf53 2 (some .int) :: ([])
abbrev vwCl : List vw_C := [(RX0, TX0, 3), (RX1, TX1, 2), (RX2, TX2, 10), (RX3, TX3, 8), (RX4, TX4, 11), (RX5, TX5, 7), (RX6, TX6, 4), (RX7, TX7, 14)]
end
section
theorem dX0_init_0 : decode cX0_init 0 = .ok (.aload_n 0, 1) := by decide +kernel
theorem dX0_init_1 : decode cX0_init 1 = .ok (.invokespecial 3, 3) := by decide +kernel
theorem dX0_init_4 : decode cX0_init 4 = .ok (.aload_n 0, 1) := by decide +kernel
theorem dX0_init_5 : decode cX0_init 5 = .ok (.bipush 24, 2) := by decide +kernel
theorem dX0_init_7 : decode cX0_init 7 = .ok (.newarray .int, 2) := by decide +kernel
theorem dX0_init_9 : decode cX0_init 9 = .ok (.putfield 9, 3) := by decide +kernel
theorem dX0_init_12 : decode cX0_init 12 = .ok (.aload_n 0, 1) := by decide +kernel
theorem dX0_init_13 : decode cX0_init 13 = .ok (.bipush 24, 2) := by decide +kernel
theorem dX0_init_15 : decode cX0_init 15 = .ok (.newarray .int, 2) := by decide +kernel
theorem dX0_init_17 : decode cX0_init 17 = .ok (.putfield 15, 3) := by decide +kernel
theorem dX0_init_20 : decode cX0_init 20 = .ok (.return_, 1) := by decide +kernel
theorem dX0_enter_0 : decode cX0_enter 0 = .ok (.aload_n 0, 1) := by decide +kernel
theorem dX0_enter_1 : decode cX0_enter 1 = .ok (.getfield 9, 3) := by decide +kernel
theorem dX0_enter_4 : decode cX0_enter 4 = .ok (.iconst 0, 1) := by decide +kernel
theorem dX0_enter_5 : decode cX0_enter 5 = .ok (.aload_n 0, 1) := by decide +kernel
theorem dX0_enter_6 : decode cX0_enter 6 = .ok (.getfield 9, 3) := by decide +kernel
theorem dX0_enter_9 : decode cX0_enter 9 = .ok (.iconst 1, 1) := by decide +kernel
theorem dX0_enter_10 : decode cX0_enter 10 = .ok (.bipush 23, 2) := by decide +kernel
theorem dX0_enter_12 : decode cX0_enter 12 = .ok (.invokestatic 18, 3) := by decide +kernel
theorem dX0_enter_15 : decode cX0_enter 15 = .ok (.aload_n 0, 1) := by decide +kernel
theorem dX0_enter_16 : decode cX0_enter 16 = .ok (.getfield 15, 3) := by decide +kernel
theorem dX0_enter_19 : decode cX0_enter 19 = .ok (.iconst 0, 1) := by decide +kernel
theorem dX0_enter_20 : decode cX0_enter 20 = .ok (.aload_n 0, 1) := by decide +kernel
theorem dX0_enter_21 : decode cX0_enter 21 = .ok (.getfield 15, 3) := by decide +kernel
theorem dX0_enter_24 : decode cX0_enter 24 = .ok (.iconst 1, 1) := by decide +kernel
theorem dX0_enter_25 : decode cX0_enter 25 = .ok (.bipush 23, 2) := by decide +kernel
theorem dX0_enter_27 : decode cX0_enter 27 = .ok (.invokestatic 18, 3) := by decide +kernel
theorem dX0_enter_30 : decode cX0_enter 30 = .ok (.aload_n 0, 1) := by decide +kernel
theorem dX0_enter_31 : decode cX0_enter 31 = .ok (.getfield 9, 3) := by decide +kernel
theorem dX0_enter_34 : decode cX0_enter 34 = .ok (.iconst 0, 1) := by decide +kernel
theorem dX0_enter_35 : decode cX0_enter 35 = .ok (.iload_n 1, 1) := by decide +kernel
theorem dX0_enter_36 : decode cX0_enter 36 = .ok (.iastore, 1) := by decide +kernel
theorem dX0_enter_37 : decode cX0_enter 37 = .ok (.aload_n 0, 1) := by decide +kernel
theorem dX0_enter_38 : decode cX0_enter 38 = .ok (.getfield 15, 3) := by decide +kernel
theorem dX0_enter_41 : decode cX0_enter 41 = .ok (.iconst 0, 1) := by decide +kernel
theorem dX0_enter_42 : decode cX0_enter 42 = .ok (.iload_n 2, 1) := by decide +kernel
theorem dX0_enter_43 : decode cX0_enter 43 = .ok (.iastore, 1) := by decide +kernel
theorem dX0_enter_44 : decode cX0_enter 44 = .ok (.aload_n 0, 1) := by decide +kernel
theorem dX0_enter_45 : decode cX0_enter 45 = .ok (.aload_n 0, 1) := by decide +kernel
theorem dX0_enter_46 : decode cX0_enter 46 = .ok (.getfield 24, 3) := by decide +kernel
theorem dX0_enter_49 : decode cX0_enter 49 = .ok (.iconst 1, 1) := by decide +kernel
theorem dX0_enter_50 : decode cX0_enter 50 = .ok (.iadd, 1) := by decide +kernel
theorem dX0_enter_51 : decode cX0_enter 51 = .ok (.bipush 24, 2) := by decide +kernel
theorem dX0_enter_53 : decode cX0_enter 53 = .ok (.invokestatic 28, 3) := by decide +kernel
theorem dX0_enter_56 : decode cX0_enter 56 = .ok (.putfield 24, 3) := by decide +kernel
theorem dX0_enter_59 : decode cX0_enter 59 = .ok (.return_, 1) := by decide +kernel
theorem dX1_init_0 : decode cX1_init 0 = .ok (.aload_n 0, 1) := by decide +kernel
theorem dX1_init_1 : decode cX1_init 1 = .ok (.invokespecial 3, 3) := by decide +kernel
theorem dX1_init_4 : decode cX1_init 4 = .ok (.aload_n 0, 1) := by decide +kernel
theorem dX1_init_5 : decode cX1_init 5 = .ok (.iload_n 1, 1) := by decide +kernel
theorem dX1_init_6 : decode cX1_init 6 = .ok (.iconst 0, 1) := by decide +kernel
theorem dX1_init_7 : decode cX1_init 7 = .ok (.invokestatic 9, 3) := by decide +kernel
theorem dX1_init_10 : decode cX1_init 10 = .ok (.putfield 15, 3) := by decide +kernel
theorem dX1_init_13 : decode cX1_init 13 = .ok (.aload_n 0, 1) := by decide +kernel
theorem dX1_init_14 : decode cX1_init 14 = .ok (.aload_n 0, 1) := by decide +kernel
theorem dX1_init_15 : decode cX1_init 15 = .ok (.getfield 15, 3) := by decide +kernel
theorem dX1_init_18 : decode cX1_init 18 = .ok (.iconst 4, 1) := by decide +kernel
theorem dX1_init_19 : decode cX1_init 19 = .ok (.imul, 1) := by decide +kernel
theorem dX1_init_20 : decode cX1_init 20 = .ok (.newarray .int, 2) := by decide +kernel
theorem dX1_init_22 : decode cX1_init 22 = .ok (.putfield 21, 3) := by decide +kernel
theorem dX1_init_25 : decode cX1_init 25 = .ok (.return_, 1) := by decide +kernel
theorem dX1_number_0 : decode cX1_number 0 = .ok (.aload_n 0, 1) := by decide +kernel
theorem dX1_number_1 : decode cX1_number 1 = .ok (.getfield 21, 3) := by decide +kernel
theorem dX1_number_4 : decode cX1_number 4 = .ok (.iload_n 1, 1) := by decide +kernel
theorem dX1_number_5 : decode cX1_number 5 = .ok (.iconst 4, 1) := by decide +kernel
theorem dX1_number_6 : decode cX1_number 6 = .ok (.imul, 1) := by decide +kernel
theorem dX1_number_7 : decode cX1_number 7 = .ok (.iload_n 2, 1) := by decide +kernel
theorem dX1_number_8 : decode cX1_number 8 = .ok (.iadd, 1) := by decide +kernel
theorem dX1_number_9 : decode cX1_number 9 = .ok (.iaload, 1) := by decide +kernel
theorem dX1_number_10 : decode cX1_number 10 = .ok (.ireturn, 1) := by decide +kernel
theorem dX1_set_0 : decode cX1_set 0 = .ok (.aload_n 0, 1) := by decide +kernel
theorem dX1_set_1 : decode cX1_set 1 = .ok (.getfield 21, 3) := by decide +kernel
theorem dX1_set_4 : decode cX1_set 4 = .ok (.iload_n 1, 1) := by decide +kernel
theorem dX1_set_5 : decode cX1_set 5 = .ok (.iconst 4, 1) := by decide +kernel
theorem dX1_set_6 : decode cX1_set 6 = .ok (.imul, 1) := by decide +kernel
theorem dX1_set_7 : decode cX1_set 7 = .ok (.iload_n 2, 1) := by decide +kernel
theorem dX1_set_8 : decode cX1_set 8 = .ok (.iadd, 1) := by decide +kernel
theorem dX1_set_9 : decode cX1_set 9 = .ok (.iload_n 3, 1) := by decide +kernel
theorem dX1_set_10 : decode cX1_set 10 = .ok (.iastore, 1) := by decide +kernel
theorem dX1_set_11 : decode cX1_set 11 = .ok (.return_, 1) := by decide +kernel
set_option maxRecDepth 20000 in
theorem ggX1_join_X1_number : GoodIn wsX1_join wsX1_number := goodIn_r _ [9, 10, 15, 16] (by decide +kernel) (by decide +kernel)
set_option maxRecDepth 20000 in
theorem gX1_join_X1_number : GoodIn wsX1_join (wsV RX1 25 RX1 yX1_number wsX1_number) := goodIn_app (goodIn_of _ (by decide +kernel)) ggX1_join_X1_number
set_option maxRecDepth 20000 in
theorem ggX1_join_X1_set : GoodIn wsX1_join wsX1_set := goodIn_r _ [14, 10, 15, 16] (by decide +kernel) (by decide +kernel)
set_option maxRecDepth 20000 in
theorem gX1_join_X1_set : GoodIn wsX1_join (wsV RX1 28 RX1 yX1_set wsX1_set) := goodIn_app (goodIn_of _ (by decide +kernel)) ggX1_join_X1_set
theorem dX1_join_0 : decode cX1_join 0 = .ok (.iconst 0, 1) := by decide +kernel
theorem dX1_join_1 : decode cX1_join 1 = .ok (.istore 4, 2) := by decide +kernel
theorem dX1_join_3 : decode cX1_join 3 = .ok (.iload 4, 2) := by decide +kernel
theorem dX1_join_5 : decode cX1_join 5 = .ok (.iconst 4, 1) := by decide +kernel
theorem dX1_join_6 : decode cX1_join 6 = .ok (.if_icmp .ge 33, 3) := by decide +kernel
theorem dX1_join_9 : decode cX1_join 9 = .ok (.aload_n 0, 1) := by decide +kernel
theorem dX1_join_10 : decode cX1_join 10 = .ok (.iload_n 1, 1) := by decide +kernel
theorem dX1_join_11 : decode cX1_join 11 = .ok (.iload 4, 2) := by decide +kernel
theorem dX1_join_13 : decode cX1_join 13 = .ok (.aload_n 0, 1) := by decide +kernel
theorem dX1_join_14 : decode cX1_join 14 = .ok (.iload_n 1, 1) := by decide +kernel
theorem dX1_join_15 : decode cX1_join 15 = .ok (.iload 4, 2) := by decide +kernel
theorem dX1_join_17 : decode cX1_join 17 = .ok (.invokevirtual 25, 3) := by decide +kernel
theorem dX1_join_20 : decode cX1_join 20 = .ok (.aload_n 2, 1) := by decide +kernel
theorem dX1_join_21 : decode cX1_join 21 = .ok (.iload_n 3, 1) := by decide +kernel
theorem dX1_join_22 : decode cX1_join 22 = .ok (.iload 4, 2) := by decide +kernel
theorem dX1_join_24 : decode cX1_join 24 = .ok (.invokevirtual 25, 3) := by decide +kernel
theorem dX1_join_27 : decode cX1_join 27 = .ok (.invokestatic 9, 3) := by decide +kernel
theorem dX1_join_30 : decode cX1_join 30 = .ok (.invokevirtual 28, 3) := by decide +kernel
theorem dX1_join_33 : decode cX1_join 33 = .ok (.iinc 4 1, 3) := by decide +kernel
theorem dX1_join_36 : decode cX1_join 36 = .ok (.goto (-33), 3) := by decide +kernel
theorem dX1_join_39 : decode cX1_join 39 = .ok (.return_, 1) := by decide +kernel
theorem dX1_copyRow_0 : decode cX1_copyRow 0 = .ok (.aload_n 2, 1) := by decide +kernel
theorem dX1_copyRow_1 : decode cX1_copyRow 1 = .ok (.getfield 21, 3) := by decide +kernel
theorem dX1_copyRow_4 : decode cX1_copyRow 4 = .ok (.iload_n 3, 1) := by decide +kernel
theorem dX1_copyRow_5 : decode cX1_copyRow 5 = .ok (.iconst 4, 1) := by decide +kernel
theorem dX1_copyRow_6 : decode cX1_copyRow 6 = .ok (.imul, 1) := by decide +kernel
theorem dX1_copyRow_7 : decode cX1_copyRow 7 = .ok (.aload_n 0, 1) := by decide +kernel
theorem dX1_copyRow_8 : decode cX1_copyRow 8 = .ok (.getfield 21, 3) := by decide +kernel
theorem dX1_copyRow_11 : decode cX1_copyRow 11 = .ok (.iload_n 1, 1) := by decide +kernel
theorem dX1_copyRow_12 : decode cX1_copyRow 12 = .ok (.iconst 4, 1) := by decide +kernel
theorem dX1_copyRow_13 : decode cX1_copyRow 13 = .ok (.imul, 1) := by decide +kernel
theorem dX1_copyRow_14 : decode cX1_copyRow 14 = .ok (.iconst 4, 1) := by decide +kernel
theorem dX1_copyRow_15 : decode cX1_copyRow 15 = .ok (.invokestatic 32, 3) := by decide +kernel
theorem dX1_copyRow_18 : decode cX1_copyRow 18 = .ok (.return_, 1) := by decide +kernel
theorem dX1_copyRows_0 : decode cX1_copyRows 0 = .ok (.aload_n 1, 1) := by decide +kernel
theorem dX1_copyRows_1 : decode cX1_copyRows 1 = .ok (.getfield 21, 3) := by decide +kernel
theorem dX1_copyRows_4 : decode cX1_copyRows 4 = .ok (.iconst 0, 1) := by decide +kernel
theorem dX1_copyRows_5 : decode cX1_copyRows 5 = .ok (.aload_n 0, 1) := by decide +kernel
theorem dX1_copyRows_6 : decode cX1_copyRows 6 = .ok (.getfield 21, 3) := by decide +kernel
theorem dX1_copyRows_9 : decode cX1_copyRows 9 = .ok (.iconst 0, 1) := by decide +kernel
theorem dX1_copyRows_10 : decode cX1_copyRows 10 = .ok (.iload_n 2, 1) := by decide +kernel
theorem dX1_copyRows_11 : decode cX1_copyRows 11 = .ok (.iconst 4, 1) := by decide +kernel
theorem dX1_copyRows_12 : decode cX1_copyRows 12 = .ok (.imul, 1) := by decide +kernel
theorem dX1_copyRows_13 : decode cX1_copyRows 13 = .ok (.invokestatic 32, 3) := by decide +kernel
theorem dX1_copyRows_16 : decode cX1_copyRows 16 = .ok (.return_, 1) := by decide +kernel
set_option maxRecDepth 20000 in
theorem ggX1_clear_J7_fill_53178 : GoodIn wsX1_clear wsJ7_fill_53178 := goodIn_r _ [5] (by decide +kernel) (by decide +kernel)
set_option maxRecDepth 20000 in
theorem gX1_clear_J7_fill_53178 : GoodIn wsX1_clear (va_wsS RX1 38 yJ7_fill_53178 wsJ7_fill_53178) := goodIn_app (goodIn_of _ (by decide +kernel)) ggX1_clear_J7_fill_53178
theorem dX1_clear_0 : decode cX1_clear 0 = .ok (.aload_n 0, 1) := by decide +kernel
theorem dX1_clear_1 : decode cX1_clear 1 = .ok (.getfield 21, 3) := by decide +kernel
theorem dX1_clear_4 : decode cX1_clear 4 = .ok (.iconst 0, 1) := by decide +kernel
theorem dX1_clear_5 : decode cX1_clear 5 = .ok (.invokestatic 38, 3) := by decide +kernel
theorem dX1_clear_8 : decode cX1_clear 8 = .ok (.return_, 1) := by decide +kernel
theorem dX2_init_0 : decode cX2_init 0 = .ok (.aload_n 0, 1) := by decide +kernel
theorem dX2_init_1 : decode cX2_init 1 = .ok (.invokespecial 3, 3) := by decide +kernel
theorem dX2_init_4 : decode cX2_init 4 = .ok (.aload_n 0, 1) := by decide +kernel
theorem dX2_init_5 : decode cX2_init 5 = .ok (.iconst 4, 1) := by decide +kernel
theorem dX2_init_6 : decode cX2_init 6 = .ok (.newarray .int, 2) := by decide +kernel
theorem dX2_init_8 : decode cX2_init 8 = .ok (.putfield 9, 3) := by decide +kernel
theorem dX2_init_11 : decode cX2_init 11 = .ok (.return_, 1) := by decide +kernel
set_option maxRecDepth 20000 in
theorem ggX2_begin_X2_forgetReads : GoodIn wsX2_begin wsX2_forgetReads := goodIn_r _ [11, 12, 13, 14, 15, 16, 17, 18, 19, 20, 21, 22, 23, 24, 25, 26, 27, 28, 29] (by decide +kernel) (by decide +kernel)
set_option maxRecDepth 20000 in
theorem gX2_begin_X2_forgetReads : GoodIn wsX2_begin (wsV RX2 22 RX2 yX2_forgetReads wsX2_forgetReads) := goodIn_app (goodIn_of _ (by decide +kernel)) ggX2_begin_X2_forgetReads
theorem dX2_begin_0 : decode cX2_begin 0 = .ok (.aload_n 0, 1) := by decide +kernel
theorem dX2_begin_1 : decode cX2_begin 1 = .ok (.iconst (-1), 1) := by decide +kernel
theorem dX2_begin_2 : decode cX2_begin 2 = .ok (.putfield 15, 3) := by decide +kernel
theorem dX2_begin_5 : decode cX2_begin 5 = .ok (.aload_n 0, 1) := by decide +kernel
theorem dX2_begin_6 : decode cX2_begin 6 = .ok (.iconst 0, 1) := by decide +kernel
theorem dX2_begin_7 : decode cX2_begin 7 = .ok (.putfield 19, 3) := by decide +kernel
theorem dX2_begin_10 : decode cX2_begin 10 = .ok (.aload_n 0, 1) := by decide +kernel
theorem dX2_begin_11 : decode cX2_begin 11 = .ok (.invokevirtual 22, 3) := by decide +kernel
theorem dX2_begin_14 : decode cX2_begin 14 = .ok (.aload_n 0, 1) := by decide +kernel
theorem dX2_begin_15 : decode cX2_begin 15 = .ok (.iconst 0, 1) := by decide +kernel
theorem dX2_begin_16 : decode cX2_begin 16 = .ok (.putfield 25, 3) := by decide +kernel
theorem dX2_begin_19 : decode cX2_begin 19 = .ok (.aload_n 0, 1) := by decide +kernel
theorem dX2_begin_20 : decode cX2_begin 20 = .ok (.iconst (-1), 1) := by decide +kernel
theorem dX2_begin_21 : decode cX2_begin 21 = .ok (.putfield 28, 3) := by decide +kernel
theorem dX2_begin_24 : decode cX2_begin 24 = .ok (.aload_n 0, 1) := by decide +kernel
theorem dX2_begin_25 : decode cX2_begin 25 = .ok (.iconst (-1), 1) := by decide +kernel
theorem dX2_begin_26 : decode cX2_begin 26 = .ok (.putfield 31, 3) := by decide +kernel
theorem dX2_begin_29 : decode cX2_begin 29 = .ok (.aload_n 0, 1) := by decide +kernel
theorem dX2_begin_30 : decode cX2_begin 30 = .ok (.bipush 7, 2) := by decide +kernel
theorem dX2_begin_32 : decode cX2_begin 32 = .ok (.putfield 34, 3) := by decide +kernel
theorem dX2_begin_35 : decode cX2_begin 35 = .ok (.return_, 1) := by decide +kernel
theorem dX2_copy_0 : decode cX2_copy 0 = .ok (.aload_n 0, 1) := by decide +kernel
theorem dX2_copy_1 : decode cX2_copy 1 = .ok (.aload_n 1, 1) := by decide +kernel
theorem dX2_copy_2 : decode cX2_copy 2 = .ok (.getfield 15, 3) := by decide +kernel
theorem dX2_copy_5 : decode cX2_copy 5 = .ok (.putfield 15, 3) := by decide +kernel
theorem dX2_copy_8 : decode cX2_copy 8 = .ok (.aload_n 0, 1) := by decide +kernel
theorem dX2_copy_9 : decode cX2_copy 9 = .ok (.aload_n 1, 1) := by decide +kernel
theorem dX2_copy_10 : decode cX2_copy 10 = .ok (.getfield 19, 3) := by decide +kernel
theorem dX2_copy_13 : decode cX2_copy 13 = .ok (.putfield 19, 3) := by decide +kernel
theorem dX2_copy_16 : decode cX2_copy 16 = .ok (.aload_n 0, 1) := by decide +kernel
theorem dX2_copy_17 : decode cX2_copy 17 = .ok (.aload_n 1, 1) := by decide +kernel
theorem dX2_copy_18 : decode cX2_copy 18 = .ok (.getfield 37, 3) := by decide +kernel
theorem dX2_copy_21 : decode cX2_copy 21 = .ok (.putfield 37, 3) := by decide +kernel
theorem dX2_copy_24 : decode cX2_copy 24 = .ok (.aload_n 0, 1) := by decide +kernel
theorem dX2_copy_25 : decode cX2_copy 25 = .ok (.aload_n 1, 1) := by decide +kernel
theorem dX2_copy_26 : decode cX2_copy 26 = .ok (.getfield 40, 3) := by decide +kernel
theorem dX2_copy_29 : decode cX2_copy 29 = .ok (.putfield 40, 3) := by decide +kernel
theorem dX2_copy_32 : decode cX2_copy 32 = .ok (.aload_n 0, 1) := by decide +kernel
theorem dX2_copy_33 : decode cX2_copy 33 = .ok (.aload_n 1, 1) := by decide +kernel
theorem dX2_copy_34 : decode cX2_copy 34 = .ok (.getfield 43, 3) := by decide +kernel
theorem dX2_copy_37 : decode cX2_copy 37 = .ok (.putfield 43, 3) := by decide +kernel
theorem dX2_copy_40 : decode cX2_copy 40 = .ok (.aload_n 1, 1) := by decide +kernel
theorem dX2_copy_41 : decode cX2_copy 41 = .ok (.getfield 9, 3) := by decide +kernel
theorem dX2_copy_44 : decode cX2_copy 44 = .ok (.iconst 0, 1) := by decide +kernel
theorem dX2_copy_45 : decode cX2_copy 45 = .ok (.aload_n 0, 1) := by decide +kernel
theorem dX2_copy_46 : decode cX2_copy 46 = .ok (.getfield 9, 3) := by decide +kernel
theorem dX2_copy_49 : decode cX2_copy 49 = .ok (.iconst 0, 1) := by decide +kernel
theorem dX2_copy_50 : decode cX2_copy 50 = .ok (.iconst 4, 1) := by decide +kernel
theorem dX2_copy_51 : decode cX2_copy 51 = .ok (.invokestatic 47, 3) := by decide +kernel
theorem dX2_copy_54 : decode cX2_copy 54 = .ok (.aload_n 0, 1) := by decide +kernel
theorem dX2_copy_55 : decode cX2_copy 55 = .ok (.aload_n 1, 1) := by decide +kernel
theorem dX2_copy_56 : decode cX2_copy 56 = .ok (.getfield 25, 3) := by decide +kernel
theorem dX2_copy_59 : decode cX2_copy 59 = .ok (.putfield 25, 3) := by decide +kernel
theorem dX2_copy_62 : decode cX2_copy 62 = .ok (.aload_n 0, 1) := by decide +kernel
theorem dX2_copy_63 : decode cX2_copy 63 = .ok (.aload_n 1, 1) := by decide +kernel
theorem dX2_copy_64 : decode cX2_copy 64 = .ok (.getfield 28, 3) := by decide +kernel
theorem dX2_copy_67 : decode cX2_copy 67 = .ok (.putfield 28, 3) := by decide +kernel
theorem dX2_copy_70 : decode cX2_copy 70 = .ok (.aload_n 0, 1) := by decide +kernel
theorem dX2_copy_71 : decode cX2_copy 71 = .ok (.aload_n 1, 1) := by decide +kernel
theorem dX2_copy_72 : decode cX2_copy 72 = .ok (.getfield 31, 3) := by decide +kernel
theorem dX2_copy_75 : decode cX2_copy 75 = .ok (.putfield 31, 3) := by decide +kernel
theorem dX2_copy_78 : decode cX2_copy 78 = .ok (.aload_n 0, 1) := by decide +kernel
theorem dX2_copy_79 : decode cX2_copy 79 = .ok (.aload_n 1, 1) := by decide +kernel
theorem dX2_copy_80 : decode cX2_copy 80 = .ok (.getfield 34, 3) := by decide +kernel
theorem dX2_copy_83 : decode cX2_copy 83 = .ok (.putfield 34, 3) := by decide +kernel
theorem dX2_copy_86 : decode cX2_copy 86 = .ok (.return_, 1) := by decide +kernel
set_option maxRecDepth 20000 in
theorem ggX2_kindOf_X1_number : GoodIn wsX2_kindOf wsX1_number := goodIn_r _ [7, 8, 28, 29] (by decide +kernel) (by decide +kernel)
set_option maxRecDepth 20000 in
theorem gX2_kindOf_X1_number : GoodIn wsX2_kindOf (wsV RX2 53 RX1 yX1_number wsX1_number) := goodIn_app (goodIn_of _ (by decide +kernel)) ggX2_kindOf_X1_number
set_option maxRecDepth 20000 in
theorem ggX2_kindOf_X2_readsAreAhead : GoodIn wsX2_kindOf wsX2_readsAreAhead := goodIn_r _ [13, 14, 15, 16, 17, 3, 4, 5, 6, 7, 8, 18, 19, 20, 21, 22, 23, 24, 25, 26, 27, 28, 29] (by decide +kernel) (by decide +kernel)
set_option maxRecDepth 20000 in
theorem gX2_kindOf_X2_readsAreAhead : GoodIn wsX2_kindOf (wsV RX2 59 RX2 yX2_readsAreAhead wsX2_readsAreAhead) := goodIn_app (goodIn_of _ (by decide +kernel)) ggX2_kindOf_X2_readsAreAhead
theorem dX2_kindOf_0 : decode cX2_kindOf 0 = .ok (.aload_n 0, 1) := by decide +kernel
theorem dX2_kindOf_1 : decode cX2_kindOf 1 = .ok (.getfield 15, 3) := by decide +kernel
theorem dX2_kindOf_4 : decode cX2_kindOf 4 = .ok (.iconst (-1), 1) := by decide +kernel
theorem dX2_kindOf_5 : decode cX2_kindOf 5 = .ok (.if_icmp .eq 19, 3) := by decide +kernel
theorem dX2_kindOf_8 : decode cX2_kindOf 8 = .ok (.aload_n 2, 1) := by decide +kernel
theorem dX2_kindOf_9 : decode cX2_kindOf 9 = .ok (.iload_n 3, 1) := by decide +kernel
theorem dX2_kindOf_10 : decode cX2_kindOf 10 = .ok (.aload_n 0, 1) := by decide +kernel
theorem dX2_kindOf_11 : decode cX2_kindOf 11 = .ok (.getfield 15, 3) := by decide +kernel
theorem dX2_kindOf_14 : decode cX2_kindOf 14 = .ok (.invokevirtual 53, 3) := by decide +kernel
theorem dX2_kindOf_17 : decode cX2_kindOf 17 = .ok (.aload_n 0, 1) := by decide +kernel
theorem dX2_kindOf_18 : decode cX2_kindOf 18 = .ok (.getfield 19, 3) := by decide +kernel
theorem dX2_kindOf_21 : decode cX2_kindOf 21 = .ok (.if_icmp .lt 7, 3) := by decide +kernel
theorem dX2_kindOf_24 : decode cX2_kindOf 24 = .ok (.iconst 1, 1) := by decide +kernel
theorem dX2_kindOf_25 : decode cX2_kindOf 25 = .ok (.goto 4, 3) := by decide +kernel
theorem dX2_kindOf_28 : decode cX2_kindOf 28 = .ok (.iconst 0, 1) := by decide +kernel
theorem dX2_kindOf_29 : decode cX2_kindOf 29 = .ok (.istore 4, 2) := by decide +kernel
theorem dX2_kindOf_31 : decode cX2_kindOf 31 = .ok (.iload_n 1, 1) := by decide +kernel
theorem dX2_kindOf_32 : decode cX2_kindOf 32 = .ok (.ifCond .ne 14, 3) := by decide +kernel
theorem dX2_kindOf_35 : decode cX2_kindOf 35 = .ok (.iload 4, 2) := by decide +kernel
theorem dX2_kindOf_37 : decode cX2_kindOf 37 = .ok (.ifCond .eq 7, 3) := by decide +kernel
theorem dX2_kindOf_40 : decode cX2_kindOf 40 = .ok (.iconst (-1), 1) := by decide +kernel
theorem dX2_kindOf_41 : decode cX2_kindOf 41 = .ok (.goto 4, 3) := by decide +kernel
theorem dX2_kindOf_44 : decode cX2_kindOf 44 = .ok (.iconst 1, 1) := by decide +kernel
theorem dX2_kindOf_45 : decode cX2_kindOf 45 = .ok (.ireturn, 1) := by decide +kernel
theorem dX2_kindOf_46 : decode cX2_kindOf 46 = .ok (.iload 4, 2) := by decide +kernel
theorem dX2_kindOf_48 : decode cX2_kindOf 48 = .ok (.ifCond .ne 5, 3) := by decide +kernel
theorem dX2_kindOf_51 : decode cX2_kindOf 51 = .ok (.iconst 0, 1) := by decide +kernel
theorem dX2_kindOf_52 : decode cX2_kindOf 52 = .ok (.ireturn, 1) := by decide +kernel
theorem dX2_kindOf_53 : decode cX2_kindOf 53 = .ok (.aload_n 0, 1) := by decide +kernel
theorem dX2_kindOf_54 : decode cX2_kindOf 54 = .ok (.aload_n 2, 1) := by decide +kernel
theorem dX2_kindOf_55 : decode cX2_kindOf 55 = .ok (.iload_n 3, 1) := by decide +kernel
theorem dX2_kindOf_56 : decode cX2_kindOf 56 = .ok (.invokevirtual 59, 3) := by decide +kernel
theorem dX2_kindOf_59 : decode cX2_kindOf 59 = .ok (.ifCond .eq 7, 3) := by decide +kernel
theorem dX2_kindOf_62 : decode cX2_kindOf 62 = .ok (.iconst (-1), 1) := by decide +kernel
theorem dX2_kindOf_63 : decode cX2_kindOf 63 = .ok (.goto 4, 3) := by decide +kernel
theorem dX2_kindOf_66 : decode cX2_kindOf 66 = .ok (.iconst 2, 1) := by decide +kernel
theorem dX2_kindOf_67 : decode cX2_kindOf 67 = .ok (.ireturn, 1) := by decide +kernel
set_option maxRecDepth 20000 in
theorem ggX2_access_X2_kindOf : GoodIn wsX2_access wsX2_kindOf := goodIn_r _ [10, 4, 5, 11, 12, 13, 14, 15, 16, 17, 18, 19, 9, 20, 21, 22, 23, 24, 42, 43, 44, 45, 46, 47, 48, 49, 50, 51, 52, 53] (by decide +kernel) (by decide +kernel)
set_option maxRecDepth 20000 in
theorem gX2_access_X2_kindOf : GoodIn wsX2_access (wsV RX2 63 RX2 yX2_kindOf wsX2_kindOf) := goodIn_app (goodIn_of _ (by decide +kernel)) ggX2_access_X2_kindOf
set_option maxRecDepth 20000 in
theorem ggX2_access_X1_number : GoodIn wsX2_access wsX1_number := goodIn_r _ [15, 16, 52, 53] (by decide +kernel) (by decide +kernel)
set_option maxRecDepth 20000 in
theorem gX2_access_X1_number : GoodIn wsX2_access (wsV RX2 53 RX1 yX1_number wsX1_number) := goodIn_app (goodIn_of _ (by decide +kernel)) ggX2_access_X1_number
set_option maxRecDepth 20000 in
theorem ggX2_access_X2_forgetReads : GoodIn wsX2_access wsX2_forgetReads := goodIn_r _ [28, 22, 23, 21, 24, 29, 30, 31, 32, 42, 43, 44, 45, 46, 47, 48, 49, 50, 51] (by decide +kernel) (by decide +kernel)
set_option maxRecDepth 20000 in
theorem gX2_access_X2_forgetReads : GoodIn wsX2_access (wsV RX2 22 RX2 yX2_forgetReads wsX2_forgetReads) := goodIn_app (goodIn_of _ (by decide +kernel)) ggX2_access_X2_forgetReads
set_option maxRecDepth 20000 in
theorem ggX2_access_X2_keepRead : GoodIn wsX2_access wsX2_keepRead := goodIn_r _ [36, 21, 24, 22, 23, 11, 12, 13, 14, 15, 16, 17, 18, 19, 9, 20, 37, 38, 39, 40, 41, 42, 43, 44, 45, 46, 47, 48, 49, 50, 51, 52, 53] (by decide +kernel) (by decide +kernel)
set_option maxRecDepth 20000 in
theorem gX2_access_X2_keepRead : GoodIn wsX2_access (wsV RX2 67 RX2 yX2_keepRead wsX2_keepRead) := goodIn_app (goodIn_of _ (by decide +kernel)) ggX2_access_X2_keepRead
theorem dX2_access_0 : decode cX2_access 0 = .ok (.aload_n 0, 1) := by decide +kernel
theorem dX2_access_1 : decode cX2_access 1 = .ok (.iload_n 1, 1) := by decide +kernel
theorem dX2_access_2 : decode cX2_access 2 = .ok (.aload_n 2, 1) := by decide +kernel
theorem dX2_access_3 : decode cX2_access 3 = .ok (.iload_n 3, 1) := by decide +kernel
theorem dX2_access_4 : decode cX2_access 4 = .ok (.invokevirtual 63, 3) := by decide +kernel
theorem dX2_access_7 : decode cX2_access 7 = .ok (.istore 6, 2) := by decide +kernel
theorem dX2_access_9 : decode cX2_access 9 = .ok (.iload 6, 2) := by decide +kernel
theorem dX2_access_11 : decode cX2_access 11 = .ok (.iconst (-1), 1) := by decide +kernel
theorem dX2_access_12 : decode cX2_access 12 = .ok (.if_icmp .eq 23, 3) := by decide +kernel
theorem dX2_access_15 : decode cX2_access 15 = .ok (.aload_n 0, 1) := by decide +kernel
theorem dX2_access_16 : decode cX2_access 16 = .ok (.getfield 28, 3) := by decide +kernel
theorem dX2_access_19 : decode cX2_access 19 = .ok (.iconst (-1), 1) := by decide +kernel
theorem dX2_access_20 : decode cX2_access 20 = .ok (.if_icmp .ne 15, 3) := by decide +kernel
theorem dX2_access_23 : decode cX2_access 23 = .ok (.aload_n 0, 1) := by decide +kernel
theorem dX2_access_24 : decode cX2_access 24 = .ok (.iload 4, 2) := by decide +kernel
theorem dX2_access_26 : decode cX2_access 26 = .ok (.putfield 28, 3) := by decide +kernel
theorem dX2_access_29 : decode cX2_access 29 = .ok (.aload_n 0, 1) := by decide +kernel
theorem dX2_access_30 : decode cX2_access 30 = .ok (.iload 6, 2) := by decide +kernel
theorem dX2_access_32 : decode cX2_access 32 = .ok (.putfield 31, 3) := by decide +kernel
theorem dX2_access_35 : decode cX2_access 35 = .ok (.aload_n 0, 1) := by decide +kernel
theorem dX2_access_36 : decode cX2_access 36 = .ok (.dup, 1) := by decide +kernel
theorem dX2_access_37 : decode cX2_access 37 = .ok (.getfield 34, 3) := by decide +kernel
theorem dX2_access_40 : decode cX2_access 40 = .ok (.iload 5, 2) := by decide +kernel
theorem dX2_access_42 : decode cX2_access 42 = .ok (.iand, 1) := by decide +kernel
theorem dX2_access_43 : decode cX2_access 43 = .ok (.putfield 34, 3) := by decide +kernel
theorem dX2_access_46 : decode cX2_access 46 = .ok (.iload_n 1, 1) := by decide +kernel
theorem dX2_access_47 : decode cX2_access 47 = .ok (.ifCond .eq 25, 3) := by decide +kernel
theorem dX2_access_50 : decode cX2_access 50 = .ok (.aload_n 0, 1) := by decide +kernel
theorem dX2_access_51 : decode cX2_access 51 = .ok (.iload_n 3, 1) := by decide +kernel
theorem dX2_access_52 : decode cX2_access 52 = .ok (.putfield 15, 3) := by decide +kernel
theorem dX2_access_55 : decode cX2_access 55 = .ok (.aload_n 0, 1) := by decide +kernel
theorem dX2_access_56 : decode cX2_access 56 = .ok (.aload_n 2, 1) := by decide +kernel
theorem dX2_access_57 : decode cX2_access 57 = .ok (.iload_n 3, 1) := by decide +kernel
theorem dX2_access_58 : decode cX2_access 58 = .ok (.iload_n 3, 1) := by decide +kernel
theorem dX2_access_59 : decode cX2_access 59 = .ok (.invokevirtual 53, 3) := by decide +kernel
theorem dX2_access_62 : decode cX2_access 62 = .ok (.putfield 19, 3) := by decide +kernel
theorem dX2_access_65 : decode cX2_access 65 = .ok (.aload_n 0, 1) := by decide +kernel
theorem dX2_access_66 : decode cX2_access 66 = .ok (.invokevirtual 22, 3) := by decide +kernel
theorem dX2_access_69 : decode cX2_access 69 = .ok (.goto 9, 3) := by decide +kernel
theorem dX2_access_72 : decode cX2_access 72 = .ok (.aload_n 0, 1) := by decide +kernel
theorem dX2_access_73 : decode cX2_access 73 = .ok (.aload_n 2, 1) := by decide +kernel
theorem dX2_access_74 : decode cX2_access 74 = .ok (.iload_n 3, 1) := by decide +kernel
theorem dX2_access_75 : decode cX2_access 75 = .ok (.invokevirtual 67, 3) := by decide +kernel
theorem dX2_access_78 : decode cX2_access 78 = .ok (.return_, 1) := by decide +kernel
set_option maxRecDepth 20000 in
theorem ggX2_readsAreAhead_X1_number : GoodIn wsX2_readsAreAhead wsX1_number := goodIn_r _ [9, 10, 21, 22] (by decide +kernel) (by decide +kernel)
set_option maxRecDepth 20000 in
theorem gX2_readsAreAhead_X1_number : GoodIn wsX2_readsAreAhead (wsV RX2 53 RX1 yX1_number wsX1_number) := goodIn_app (goodIn_of _ (by decide +kernel)) ggX2_readsAreAhead_X1_number
theorem dX2_readsAreAhead_0 : decode cX2_readsAreAhead 0 = .ok (.aload_n 0, 1) := by decide +kernel
theorem dX2_readsAreAhead_1 : decode cX2_readsAreAhead 1 = .ok (.getfield 43, 3) := by decide +kernel
theorem dX2_readsAreAhead_4 : decode cX2_readsAreAhead 4 = .ok (.ifCond .ne 33, 3) := by decide +kernel
theorem dX2_readsAreAhead_7 : decode cX2_readsAreAhead 7 = .ok (.aload_n 0, 1) := by decide +kernel
theorem dX2_readsAreAhead_8 : decode cX2_readsAreAhead 8 = .ok (.getfield 37, 3) := by decide +kernel
theorem dX2_readsAreAhead_11 : decode cX2_readsAreAhead 11 = .ok (.iconst (-1), 1) := by decide +kernel
theorem dX2_readsAreAhead_12 : decode cX2_readsAreAhead 12 = .ok (.if_icmp .eq 19, 3) := by decide +kernel
theorem dX2_readsAreAhead_15 : decode cX2_readsAreAhead 15 = .ok (.aload_n 1, 1) := by decide +kernel
theorem dX2_readsAreAhead_16 : decode cX2_readsAreAhead 16 = .ok (.iload_n 2, 1) := by decide +kernel
theorem dX2_readsAreAhead_17 : decode cX2_readsAreAhead 17 = .ok (.aload_n 0, 1) := by decide +kernel
theorem dX2_readsAreAhead_18 : decode cX2_readsAreAhead 18 = .ok (.getfield 37, 3) := by decide +kernel
theorem dX2_readsAreAhead_21 : decode cX2_readsAreAhead 21 = .ok (.invokevirtual 53, 3) := by decide +kernel
theorem dX2_readsAreAhead_24 : decode cX2_readsAreAhead 24 = .ok (.aload_n 0, 1) := by decide +kernel
theorem dX2_readsAreAhead_25 : decode cX2_readsAreAhead 25 = .ok (.getfield 40, 3) := by decide +kernel
theorem dX2_readsAreAhead_28 : decode cX2_readsAreAhead 28 = .ok (.if_icmp .lt 7, 3) := by decide +kernel
theorem dX2_readsAreAhead_31 : decode cX2_readsAreAhead 31 = .ok (.iconst 1, 1) := by decide +kernel
theorem dX2_readsAreAhead_32 : decode cX2_readsAreAhead 32 = .ok (.goto 4, 3) := by decide +kernel
theorem dX2_readsAreAhead_35 : decode cX2_readsAreAhead 35 = .ok (.iconst 0, 1) := by decide +kernel
theorem dX2_readsAreAhead_36 : decode cX2_readsAreAhead 36 = .ok (.ireturn, 1) := by decide +kernel
theorem dX2_readsAreAhead_37 : decode cX2_readsAreAhead 37 = .ok (.iconst 0, 1) := by decide +kernel
theorem dX2_readsAreAhead_38 : decode cX2_readsAreAhead 38 = .ok (.istore_n 3, 1) := by decide +kernel
theorem dX2_readsAreAhead_39 : decode cX2_readsAreAhead 39 = .ok (.iload_n 3, 1) := by decide +kernel
theorem dX2_readsAreAhead_40 : decode cX2_readsAreAhead 40 = .ok (.iconst 4, 1) := by decide +kernel
theorem dX2_readsAreAhead_41 : decode cX2_readsAreAhead 41 = .ok (.if_icmp .ge 26, 3) := by decide +kernel
theorem dX2_readsAreAhead_44 : decode cX2_readsAreAhead 44 = .ok (.aload_n 1, 1) := by decide +kernel
theorem dX2_readsAreAhead_45 : decode cX2_readsAreAhead 45 = .ok (.iload_n 2, 1) := by decide +kernel
theorem dX2_readsAreAhead_46 : decode cX2_readsAreAhead 46 = .ok (.iload_n 3, 1) := by decide +kernel
theorem dX2_readsAreAhead_47 : decode cX2_readsAreAhead 47 = .ok (.invokevirtual 53, 3) := by decide +kernel
theorem dX2_readsAreAhead_50 : decode cX2_readsAreAhead 50 = .ok (.aload_n 0, 1) := by decide +kernel
theorem dX2_readsAreAhead_51 : decode cX2_readsAreAhead 51 = .ok (.getfield 9, 3) := by decide +kernel
theorem dX2_readsAreAhead_54 : decode cX2_readsAreAhead 54 = .ok (.iload_n 3, 1) := by decide +kernel
theorem dX2_readsAreAhead_55 : decode cX2_readsAreAhead 55 = .ok (.iaload, 1) := by decide +kernel
theorem dX2_readsAreAhead_56 : decode cX2_readsAreAhead 56 = .ok (.if_icmp .ge 5, 3) := by decide +kernel
theorem dX2_readsAreAhead_59 : decode cX2_readsAreAhead 59 = .ok (.iconst 0, 1) := by decide +kernel
theorem dX2_readsAreAhead_60 : decode cX2_readsAreAhead 60 = .ok (.ireturn, 1) := by decide +kernel
theorem dX2_readsAreAhead_61 : decode cX2_readsAreAhead 61 = .ok (.iinc 3 1, 3) := by decide +kernel
theorem dX2_readsAreAhead_64 : decode cX2_readsAreAhead 64 = .ok (.goto (-25), 3) := by decide +kernel
theorem dX2_readsAreAhead_67 : decode cX2_readsAreAhead 67 = .ok (.iconst 1, 1) := by decide +kernel
theorem dX2_readsAreAhead_68 : decode cX2_readsAreAhead 68 = .ok (.ireturn, 1) := by decide +kernel
set_option maxRecDepth 20000 in
theorem ggX2_keepRead_X1_number : GoodIn wsX2_keepRead wsX1_number := goodIn_r _ [9, 10, 31, 32] (by decide +kernel) (by decide +kernel)
set_option maxRecDepth 20000 in
theorem gX2_keepRead_X1_number : GoodIn wsX2_keepRead (wsV RX2 53 RX1 yX1_number wsX1_number) := goodIn_app (goodIn_of _ (by decide +kernel)) ggX2_keepRead_X1_number
set_option maxRecDepth 20000 in
theorem ggX2_keepRead_X2_readsAreAhead : GoodIn wsX2_keepRead wsX2_readsAreAhead := goodIn_r _ [15, 1, 3, 4, 2, 5, 6, 7, 8, 9, 10, 21, 22, 23, 24, 25, 26, 27, 28, 29, 30, 31, 32] (by decide +kernel) (by decide +kernel)
set_option maxRecDepth 20000 in
theorem gX2_keepRead_X2_readsAreAhead : GoodIn wsX2_keepRead (wsV RX2 59 RX2 yX2_readsAreAhead wsX2_readsAreAhead) := goodIn_app (goodIn_of _ (by decide +kernel)) ggX2_keepRead_X2_readsAreAhead
set_option maxRecDepth 20000 in
theorem ggX2_keepRead_X2_share : GoodIn wsX2_keepRead wsX2_share := goodIn_r _ [19, 2, 3, 4, 1, 20, 21, 22, 23, 24, 25, 26, 27, 28, 29, 30] (by decide +kernel) (by decide +kernel)
set_option maxRecDepth 20000 in
theorem gX2_keepRead_X2_share : GoodIn wsX2_keepRead (wsV RX2 71 RX2 yX2_share wsX2_share) := goodIn_app (goodIn_of _ (by decide +kernel)) ggX2_keepRead_X2_share
theorem dX2_keepRead_0 : decode cX2_keepRead 0 = .ok (.aload_n 1, 1) := by decide +kernel
theorem dX2_keepRead_1 : decode cX2_keepRead 1 = .ok (.iload_n 2, 1) := by decide +kernel
theorem dX2_keepRead_2 : decode cX2_keepRead 2 = .ok (.iload_n 2, 1) := by decide +kernel
theorem dX2_keepRead_3 : decode cX2_keepRead 3 = .ok (.invokevirtual 53, 3) := by decide +kernel
theorem dX2_keepRead_6 : decode cX2_keepRead 6 = .ok (.istore_n 3, 1) := by decide +kernel
theorem dX2_keepRead_7 : decode cX2_keepRead 7 = .ok (.aload_n 0, 1) := by decide +kernel
theorem dX2_keepRead_8 : decode cX2_keepRead 8 = .ok (.getfield 43, 3) := by decide +kernel
theorem dX2_keepRead_11 : decode cX2_keepRead 11 = .ok (.ifCond .eq 13, 3) := by decide +kernel
theorem dX2_keepRead_14 : decode cX2_keepRead 14 = .ok (.aload_n 0, 1) := by decide +kernel
theorem dX2_keepRead_15 : decode cX2_keepRead 15 = .ok (.getfield 9, 3) := by decide +kernel
theorem dX2_keepRead_18 : decode cX2_keepRead 18 = .ok (.iload_n 2, 1) := by decide +kernel
theorem dX2_keepRead_19 : decode cX2_keepRead 19 = .ok (.iload_n 3, 1) := by decide +kernel
theorem dX2_keepRead_20 : decode cX2_keepRead 20 = .ok (.iastore, 1) := by decide +kernel
theorem dX2_keepRead_21 : decode cX2_keepRead 21 = .ok (.goto 31, 3) := by decide +kernel
theorem dX2_keepRead_24 : decode cX2_keepRead 24 = .ok (.aload_n 0, 1) := by decide +kernel
theorem dX2_keepRead_25 : decode cX2_keepRead 25 = .ok (.aload_n 1, 1) := by decide +kernel
theorem dX2_keepRead_26 : decode cX2_keepRead 26 = .ok (.iload_n 2, 1) := by decide +kernel
theorem dX2_keepRead_27 : decode cX2_keepRead 27 = .ok (.invokevirtual 59, 3) := by decide +kernel
theorem dX2_keepRead_30 : decode cX2_keepRead 30 = .ok (.ifCond .eq 16, 3) := by decide +kernel
theorem dX2_keepRead_33 : decode cX2_keepRead 33 = .ok (.aload_n 0, 1) := by decide +kernel
theorem dX2_keepRead_34 : decode cX2_keepRead 34 = .ok (.iload_n 2, 1) := by decide +kernel
theorem dX2_keepRead_35 : decode cX2_keepRead 35 = .ok (.putfield 37, 3) := by decide +kernel
theorem dX2_keepRead_38 : decode cX2_keepRead 38 = .ok (.aload_n 0, 1) := by decide +kernel
theorem dX2_keepRead_39 : decode cX2_keepRead 39 = .ok (.iload_n 3, 1) := by decide +kernel
theorem dX2_keepRead_40 : decode cX2_keepRead 40 = .ok (.putfield 40, 3) := by decide +kernel
theorem dX2_keepRead_43 : decode cX2_keepRead 43 = .ok (.goto 9, 3) := by decide +kernel
theorem dX2_keepRead_46 : decode cX2_keepRead 46 = .ok (.aload_n 0, 1) := by decide +kernel
theorem dX2_keepRead_47 : decode cX2_keepRead 47 = .ok (.iload_n 2, 1) := by decide +kernel
theorem dX2_keepRead_48 : decode cX2_keepRead 48 = .ok (.iload_n 3, 1) := by decide +kernel
theorem dX2_keepRead_49 : decode cX2_keepRead 49 = .ok (.invokevirtual 71, 3) := by decide +kernel
theorem dX2_keepRead_52 : decode cX2_keepRead 52 = .ok (.return_, 1) := by decide +kernel
theorem dX2_share_0 : decode cX2_share 0 = .ok (.aload_n 0, 1) := by decide +kernel
theorem dX2_share_1 : decode cX2_share 1 = .ok (.getfield 9, 3) := by decide +kernel
theorem dX2_share_4 : decode cX2_share 4 = .ok (.aload_n 0, 1) := by decide +kernel
theorem dX2_share_5 : decode cX2_share 5 = .ok (.getfield 37, 3) := by decide +kernel
theorem dX2_share_8 : decode cX2_share 8 = .ok (.aload_n 0, 1) := by decide +kernel
theorem dX2_share_9 : decode cX2_share 9 = .ok (.getfield 40, 3) := by decide +kernel
theorem dX2_share_12 : decode cX2_share 12 = .ok (.iastore, 1) := by decide +kernel
theorem dX2_share_13 : decode cX2_share 13 = .ok (.aload_n 0, 1) := by decide +kernel
theorem dX2_share_14 : decode cX2_share 14 = .ok (.getfield 9, 3) := by decide +kernel
theorem dX2_share_17 : decode cX2_share 17 = .ok (.iload_n 1, 1) := by decide +kernel
theorem dX2_share_18 : decode cX2_share 18 = .ok (.iload_n 2, 1) := by decide +kernel
theorem dX2_share_19 : decode cX2_share 19 = .ok (.iastore, 1) := by decide +kernel
theorem dX2_share_20 : decode cX2_share 20 = .ok (.aload_n 0, 1) := by decide +kernel
theorem dX2_share_21 : decode cX2_share 21 = .ok (.iconst (-1), 1) := by decide +kernel
theorem dX2_share_22 : decode cX2_share 22 = .ok (.putfield 37, 3) := by decide +kernel
theorem dX2_share_25 : decode cX2_share 25 = .ok (.aload_n 0, 1) := by decide +kernel
theorem dX2_share_26 : decode cX2_share 26 = .ok (.iconst 0, 1) := by decide +kernel
theorem dX2_share_27 : decode cX2_share 27 = .ok (.putfield 40, 3) := by decide +kernel
theorem dX2_share_30 : decode cX2_share 30 = .ok (.aload_n 0, 1) := by decide +kernel
theorem dX2_share_31 : decode cX2_share 31 = .ok (.iconst 1, 1) := by decide +kernel
theorem dX2_share_32 : decode cX2_share 32 = .ok (.putfield 43, 3) := by decide +kernel
theorem dX2_share_35 : decode cX2_share 35 = .ok (.aload_n 0, 1) := by decide +kernel
theorem dX2_share_36 : decode cX2_share 36 = .ok (.dup, 1) := by decide +kernel
theorem dX2_share_37 : decode cX2_share 37 = .ok (.getfield 25, 3) := by decide +kernel
theorem dX2_share_40 : decode cX2_share 40 = .ok (.iconst 1, 1) := by decide +kernel
theorem dX2_share_41 : decode cX2_share 41 = .ok (.iadd, 1) := by decide +kernel
theorem dX2_share_42 : decode cX2_share 42 = .ok (.putfield 25, 3) := by decide +kernel
theorem dX2_share_45 : decode cX2_share 45 = .ok (.return_, 1) := by decide +kernel
set_option maxRecDepth 20000 in
theorem ggX2_forgetReads_J7_fill_53178 : GoodIn wsX2_forgetReads wsJ7_fill_53178 := goodIn_r _ [8] (by decide +kernel) (by decide +kernel)
set_option maxRecDepth 20000 in
theorem gX2_forgetReads_J7_fill_53178 : GoodIn wsX2_forgetReads (va_wsS RX2 75 yJ7_fill_53178 wsJ7_fill_53178) := goodIn_app (goodIn_of _ (by decide +kernel)) ggX2_forgetReads_J7_fill_53178
theorem dX2_forgetReads_0 : decode cX2_forgetReads 0 = .ok (.aload_n 0, 1) := by decide +kernel
theorem dX2_forgetReads_1 : decode cX2_forgetReads 1 = .ok (.iconst (-1), 1) := by decide +kernel
theorem dX2_forgetReads_2 : decode cX2_forgetReads 2 = .ok (.putfield 37, 3) := by decide +kernel
theorem dX2_forgetReads_5 : decode cX2_forgetReads 5 = .ok (.aload_n 0, 1) := by decide +kernel
theorem dX2_forgetReads_6 : decode cX2_forgetReads 6 = .ok (.iconst 0, 1) := by decide +kernel
theorem dX2_forgetReads_7 : decode cX2_forgetReads 7 = .ok (.putfield 40, 3) := by decide +kernel
theorem dX2_forgetReads_10 : decode cX2_forgetReads 10 = .ok (.aload_n 0, 1) := by decide +kernel
theorem dX2_forgetReads_11 : decode cX2_forgetReads 11 = .ok (.iconst 0, 1) := by decide +kernel
theorem dX2_forgetReads_12 : decode cX2_forgetReads 12 = .ok (.putfield 43, 3) := by decide +kernel
theorem dX2_forgetReads_15 : decode cX2_forgetReads 15 = .ok (.aload_n 0, 1) := by decide +kernel
theorem dX2_forgetReads_16 : decode cX2_forgetReads 16 = .ok (.getfield 9, 3) := by decide +kernel
theorem dX2_forgetReads_19 : decode cX2_forgetReads 19 = .ok (.iconst 0, 1) := by decide +kernel
theorem dX2_forgetReads_20 : decode cX2_forgetReads 20 = .ok (.invokestatic 75, 3) := by decide +kernel
theorem dX2_forgetReads_23 : decode cX2_forgetReads 23 = .ok (.return_, 1) := by decide +kernel
set_option maxRecDepth 20000 in
theorem ggX3_init_X1_init : GoodIn wsX3_init wsX1_init := goodIn_r _ [17, 18, 2, 3, 19, 20, 21, 22, 23, 4, 24, 33, 34] (by decide +kernel) (by decide +kernel)
set_option maxRecDepth 20000 in
theorem gX3_init_X1_init : GoodIn wsX3_init (wsX1_init) := ggX3_init_X1_init
theorem dX3_init_0 : decode cX3_init 0 = .ok (.aload_n 0, 1) := by decide +kernel
theorem dX3_init_1 : decode cX3_init 1 = .ok (.invokespecial 3, 3) := by decide +kernel
theorem dX3_init_4 : decode cX3_init 4 = .ok (.aload_n 0, 1) := by decide +kernel
theorem dX3_init_5 : decode cX3_init 5 = .ok (.sipush 160, 3) := by decide +kernel
theorem dX3_init_8 : decode cX3_init 8 = .ok (.newarray .int, 2) := by decide +kernel
theorem dX3_init_10 : decode cX3_init 10 = .ok (.putfield 9, 3) := by decide +kernel
theorem dX3_init_13 : decode cX3_init 13 = .ok (.aload_n 0, 1) := by decide +kernel
theorem dX3_init_14 : decode cX3_init 14 = .ok (.sipush 160, 3) := by decide +kernel
theorem dX3_init_17 : decode cX3_init 17 = .ok (.newarray .int, 2) := by decide +kernel
theorem dX3_init_19 : decode cX3_init 19 = .ok (.putfield 15, 3) := by decide +kernel
theorem dX3_init_22 : decode cX3_init 22 = .ok (.aload_n 0, 1) := by decide +kernel
theorem dX3_init_23 : decode cX3_init 23 = .ok (.sipush 160, 3) := by decide +kernel
theorem dX3_init_26 : decode cX3_init 26 = .ok (.newarray .int, 2) := by decide +kernel
theorem dX3_init_28 : decode cX3_init 28 = .ok (.putfield 18, 3) := by decide +kernel
theorem dX3_init_31 : decode cX3_init 31 = .ok (.aload_n 0, 1) := by decide +kernel
theorem dX3_init_32 : decode cX3_init 32 = .ok (.sipush 160, 3) := by decide +kernel
theorem dX3_init_35 : decode cX3_init 35 = .ok (.newarray .int, 2) := by decide +kernel
theorem dX3_init_37 : decode cX3_init 37 = .ok (.putfield 21, 3) := by decide +kernel
theorem dX3_init_40 : decode cX3_init 40 = .ok (.aload_n 0, 1) := by decide +kernel
theorem dX3_init_41 : decode cX3_init 41 = .ok (.new 24, 3) := by decide +kernel
theorem dX3_init_44 : decode cX3_init 44 = .ok (.dup, 1) := by decide +kernel
theorem dX3_init_45 : decode cX3_init 45 = .ok (.sipush 160, 3) := by decide +kernel
theorem dX3_init_48 : decode cX3_init 48 = .ok (.invokespecial 26, 3) := by decide +kernel
theorem dX3_init_51 : decode cX3_init 51 = .ok (.putfield 29, 3) := by decide +kernel
theorem dX3_init_54 : decode cX3_init 54 = .ok (.aload_n 0, 1) := by decide +kernel
theorem dX3_init_55 : decode cX3_init 55 = .ok (.sipush 160, 3) := by decide +kernel
theorem dX3_init_58 : decode cX3_init 58 = .ok (.newarray .int, 2) := by decide +kernel
theorem dX3_init_60 : decode cX3_init 60 = .ok (.putfield 33, 3) := by decide +kernel
theorem dX3_init_63 : decode cX3_init 63 = .ok (.aload_n 0, 1) := by decide +kernel
theorem dX3_init_64 : decode cX3_init 64 = .ok (.bipush 12, 2) := by decide +kernel
theorem dX3_init_66 : decode cX3_init 66 = .ok (.newarray .int, 2) := by decide +kernel
theorem dX3_init_68 : decode cX3_init 68 = .ok (.putfield 36, 3) := by decide +kernel
theorem dX3_init_71 : decode cX3_init 71 = .ok (.return_, 1) := by decide +kernel
set_option maxRecDepth 20000 in
theorem ggX3_begin_J7_fill_53178 : GoodIn wsX3_begin wsJ7_fill_53178 := goodIn_r _ [6] (by decide +kernel) (by decide +kernel)
set_option maxRecDepth 20000 in
theorem gX3_begin_J7_fill_53178 : GoodIn wsX3_begin (va_wsS RX3 43 yJ7_fill_53178 wsJ7_fill_53178) := goodIn_app (goodIn_of _ (by decide +kernel)) ggX3_begin_J7_fill_53178
theorem dX3_begin_0 : decode cX3_begin 0 = .ok (.aload_n 0, 1) := by decide +kernel
theorem dX3_begin_1 : decode cX3_begin 1 = .ok (.iconst 0, 1) := by decide +kernel
theorem dX3_begin_2 : decode cX3_begin 2 = .ok (.putfield 39, 3) := by decide +kernel
theorem dX3_begin_5 : decode cX3_begin 5 = .ok (.aload_n 0, 1) := by decide +kernel
theorem dX3_begin_6 : decode cX3_begin 6 = .ok (.getfield 36, 3) := by decide +kernel
theorem dX3_begin_9 : decode cX3_begin 9 = .ok (.iconst 0, 1) := by decide +kernel
theorem dX3_begin_10 : decode cX3_begin 10 = .ok (.invokestatic 43, 3) := by decide +kernel
theorem dX3_begin_13 : decode cX3_begin 13 = .ok (.return_, 1) := by decide +kernel
set_option maxRecDepth 20000 in
theorem ggX3_copy_X1_copyRows : GoodIn wsX3_copy wsX1_copyRows := goodIn_r _ [17, 18, 19, 4, 5, 6, 28, 29] (by decide +kernel) (by decide +kernel)
set_option maxRecDepth 20000 in
theorem gX3_copy_X1_copyRows : GoodIn wsX3_copy (wsV RX3 55 RX1 yX1_copyRows wsX1_copyRows) := goodIn_app (goodIn_of _ (by decide +kernel)) ggX3_copy_X1_copyRows
theorem dX3_copy_0 : decode cX3_copy 0 = .ok (.aload_n 0, 1) := by decide +kernel
theorem dX3_copy_1 : decode cX3_copy 1 = .ok (.aload_n 1, 1) := by decide +kernel
theorem dX3_copy_2 : decode cX3_copy 2 = .ok (.getfield 39, 3) := by decide +kernel
theorem dX3_copy_5 : decode cX3_copy 5 = .ok (.putfield 39, 3) := by decide +kernel
theorem dX3_copy_8 : decode cX3_copy 8 = .ok (.aload_n 1, 1) := by decide +kernel
theorem dX3_copy_9 : decode cX3_copy 9 = .ok (.getfield 9, 3) := by decide +kernel
theorem dX3_copy_12 : decode cX3_copy 12 = .ok (.iconst 0, 1) := by decide +kernel
theorem dX3_copy_13 : decode cX3_copy 13 = .ok (.aload_n 0, 1) := by decide +kernel
theorem dX3_copy_14 : decode cX3_copy 14 = .ok (.getfield 9, 3) := by decide +kernel
theorem dX3_copy_17 : decode cX3_copy 17 = .ok (.iconst 0, 1) := by decide +kernel
theorem dX3_copy_18 : decode cX3_copy 18 = .ok (.aload_n 0, 1) := by decide +kernel
theorem dX3_copy_19 : decode cX3_copy 19 = .ok (.getfield 39, 3) := by decide +kernel
theorem dX3_copy_22 : decode cX3_copy 22 = .ok (.invokestatic 49, 3) := by decide +kernel
theorem dX3_copy_25 : decode cX3_copy 25 = .ok (.aload_n 1, 1) := by decide +kernel
theorem dX3_copy_26 : decode cX3_copy 26 = .ok (.getfield 15, 3) := by decide +kernel
theorem dX3_copy_29 : decode cX3_copy 29 = .ok (.iconst 0, 1) := by decide +kernel
theorem dX3_copy_30 : decode cX3_copy 30 = .ok (.aload_n 0, 1) := by decide +kernel
theorem dX3_copy_31 : decode cX3_copy 31 = .ok (.getfield 15, 3) := by decide +kernel
theorem dX3_copy_34 : decode cX3_copy 34 = .ok (.iconst 0, 1) := by decide +kernel
theorem dX3_copy_35 : decode cX3_copy 35 = .ok (.aload_n 0, 1) := by decide +kernel
theorem dX3_copy_36 : decode cX3_copy 36 = .ok (.getfield 39, 3) := by decide +kernel
theorem dX3_copy_39 : decode cX3_copy 39 = .ok (.invokestatic 49, 3) := by decide +kernel
theorem dX3_copy_42 : decode cX3_copy 42 = .ok (.aload_n 1, 1) := by decide +kernel
theorem dX3_copy_43 : decode cX3_copy 43 = .ok (.getfield 18, 3) := by decide +kernel
theorem dX3_copy_46 : decode cX3_copy 46 = .ok (.iconst 0, 1) := by decide +kernel
theorem dX3_copy_47 : decode cX3_copy 47 = .ok (.aload_n 0, 1) := by decide +kernel
theorem dX3_copy_48 : decode cX3_copy 48 = .ok (.getfield 18, 3) := by decide +kernel
theorem dX3_copy_51 : decode cX3_copy 51 = .ok (.iconst 0, 1) := by decide +kernel
theorem dX3_copy_52 : decode cX3_copy 52 = .ok (.aload_n 0, 1) := by decide +kernel
theorem dX3_copy_53 : decode cX3_copy 53 = .ok (.getfield 39, 3) := by decide +kernel
theorem dX3_copy_56 : decode cX3_copy 56 = .ok (.invokestatic 49, 3) := by decide +kernel
theorem dX3_copy_59 : decode cX3_copy 59 = .ok (.aload_n 1, 1) := by decide +kernel
theorem dX3_copy_60 : decode cX3_copy 60 = .ok (.getfield 21, 3) := by decide +kernel
theorem dX3_copy_63 : decode cX3_copy 63 = .ok (.iconst 0, 1) := by decide +kernel
theorem dX3_copy_64 : decode cX3_copy 64 = .ok (.aload_n 0, 1) := by decide +kernel
theorem dX3_copy_65 : decode cX3_copy 65 = .ok (.getfield 21, 3) := by decide +kernel
theorem dX3_copy_68 : decode cX3_copy 68 = .ok (.iconst 0, 1) := by decide +kernel
theorem dX3_copy_69 : decode cX3_copy 69 = .ok (.aload_n 0, 1) := by decide +kernel
theorem dX3_copy_70 : decode cX3_copy 70 = .ok (.getfield 39, 3) := by decide +kernel
theorem dX3_copy_73 : decode cX3_copy 73 = .ok (.invokestatic 49, 3) := by decide +kernel
theorem dX3_copy_76 : decode cX3_copy 76 = .ok (.aload_n 0, 1) := by decide +kernel
theorem dX3_copy_77 : decode cX3_copy 77 = .ok (.getfield 29, 3) := by decide +kernel
theorem dX3_copy_80 : decode cX3_copy 80 = .ok (.aload_n 1, 1) := by decide +kernel
theorem dX3_copy_81 : decode cX3_copy 81 = .ok (.getfield 29, 3) := by decide +kernel
theorem dX3_copy_84 : decode cX3_copy 84 = .ok (.aload_n 0, 1) := by decide +kernel
theorem dX3_copy_85 : decode cX3_copy 85 = .ok (.getfield 39, 3) := by decide +kernel
theorem dX3_copy_88 : decode cX3_copy 88 = .ok (.invokevirtual 55, 3) := by decide +kernel
theorem dX3_copy_91 : decode cX3_copy 91 = .ok (.aload_n 1, 1) := by decide +kernel
theorem dX3_copy_92 : decode cX3_copy 92 = .ok (.getfield 33, 3) := by decide +kernel
theorem dX3_copy_95 : decode cX3_copy 95 = .ok (.iconst 0, 1) := by decide +kernel
theorem dX3_copy_96 : decode cX3_copy 96 = .ok (.aload_n 0, 1) := by decide +kernel
theorem dX3_copy_97 : decode cX3_copy 97 = .ok (.getfield 33, 3) := by decide +kernel
theorem dX3_copy_100 : decode cX3_copy 100 = .ok (.iconst 0, 1) := by decide +kernel
theorem dX3_copy_101 : decode cX3_copy 101 = .ok (.aload_n 0, 1) := by decide +kernel
theorem dX3_copy_102 : decode cX3_copy 102 = .ok (.getfield 39, 3) := by decide +kernel
theorem dX3_copy_105 : decode cX3_copy 105 = .ok (.invokestatic 49, 3) := by decide +kernel
theorem dX3_copy_108 : decode cX3_copy 108 = .ok (.aload_n 1, 1) := by decide +kernel
theorem dX3_copy_109 : decode cX3_copy 109 = .ok (.getfield 36, 3) := by decide +kernel
theorem dX3_copy_112 : decode cX3_copy 112 = .ok (.iconst 0, 1) := by decide +kernel
theorem dX3_copy_113 : decode cX3_copy 113 = .ok (.aload_n 0, 1) := by decide +kernel
theorem dX3_copy_114 : decode cX3_copy 114 = .ok (.getfield 36, 3) := by decide +kernel
theorem dX3_copy_117 : decode cX3_copy 117 = .ok (.iconst 0, 1) := by decide +kernel
theorem dX3_copy_118 : decode cX3_copy 118 = .ok (.bipush 12, 2) := by decide +kernel
theorem dX3_copy_120 : decode cX3_copy 120 = .ok (.invokestatic 49, 3) := by decide +kernel
theorem dX3_copy_123 : decode cX3_copy 123 = .ok (.return_, 1) := by decide +kernel
theorem dX3_hasRoom_0 : decode cX3_hasRoom 0 = .ok (.aload_n 0, 1) := by decide +kernel
theorem dX3_hasRoom_1 : decode cX3_hasRoom 1 = .ok (.getfield 39, 3) := by decide +kernel
theorem dX3_hasRoom_4 : decode cX3_hasRoom 4 = .ok (.iload_n 1, 1) := by decide +kernel
theorem dX3_hasRoom_5 : decode cX3_hasRoom 5 = .ok (.iadd, 1) := by decide +kernel
theorem dX3_hasRoom_6 : decode cX3_hasRoom 6 = .ok (.sipush 160, 3) := by decide +kernel
theorem dX3_hasRoom_9 : decode cX3_hasRoom 9 = .ok (.if_icmp .gt 7, 3) := by decide +kernel
theorem dX3_hasRoom_12 : decode cX3_hasRoom 12 = .ok (.iconst 1, 1) := by decide +kernel
theorem dX3_hasRoom_13 : decode cX3_hasRoom 13 = .ok (.goto 4, 3) := by decide +kernel
theorem dX3_hasRoom_16 : decode cX3_hasRoom 16 = .ok (.iconst 0, 1) := by decide +kernel
theorem dX3_hasRoom_17 : decode cX3_hasRoom 17 = .ok (.ireturn, 1) := by decide +kernel
set_option maxRecDepth 20000 in
theorem ggX3_append_X1_copyRow : GoodIn wsX3_append wsX1_copyRow := goodIn_r _ [11, 12, 13, 14, 15, 16, 25, 26] (by decide +kernel) (by decide +kernel)
set_option maxRecDepth 20000 in
theorem gX3_append_X1_copyRow : GoodIn wsX3_append (wsV RX3 59 RX1 yX1_copyRow wsX1_copyRow) := goodIn_app (goodIn_of _ (by decide +kernel)) ggX3_append_X1_copyRow
theorem dX3_append_0 : decode cX3_append 0 = .ok (.aload_n 0, 1) := by decide +kernel
theorem dX3_append_1 : decode cX3_append 1 = .ok (.getfield 39, 3) := by decide +kernel
theorem dX3_append_4 : decode cX3_append 4 = .ok (.istore 6, 2) := by decide +kernel
theorem dX3_append_6 : decode cX3_append 6 = .ok (.aload_n 0, 1) := by decide +kernel
theorem dX3_append_7 : decode cX3_append 7 = .ok (.getfield 9, 3) := by decide +kernel
theorem dX3_append_10 : decode cX3_append 10 = .ok (.iload 6, 2) := by decide +kernel
theorem dX3_append_12 : decode cX3_append 12 = .ok (.iload_n 1, 1) := by decide +kernel
theorem dX3_append_13 : decode cX3_append 13 = .ok (.iastore, 1) := by decide +kernel
theorem dX3_append_14 : decode cX3_append 14 = .ok (.aload_n 0, 1) := by decide +kernel
theorem dX3_append_15 : decode cX3_append 15 = .ok (.getfield 15, 3) := by decide +kernel
theorem dX3_append_18 : decode cX3_append 18 = .ok (.iload 6, 2) := by decide +kernel
theorem dX3_append_20 : decode cX3_append 20 = .ok (.iload_n 2, 1) := by decide +kernel
theorem dX3_append_21 : decode cX3_append 21 = .ok (.iastore, 1) := by decide +kernel
theorem dX3_append_22 : decode cX3_append 22 = .ok (.aload_n 0, 1) := by decide +kernel
theorem dX3_append_23 : decode cX3_append 23 = .ok (.getfield 18, 3) := by decide +kernel
theorem dX3_append_26 : decode cX3_append 26 = .ok (.iload 6, 2) := by decide +kernel
theorem dX3_append_28 : decode cX3_append 28 = .ok (.iload_n 3, 1) := by decide +kernel
theorem dX3_append_29 : decode cX3_append 29 = .ok (.iastore, 1) := by decide +kernel
theorem dX3_append_30 : decode cX3_append 30 = .ok (.aload_n 0, 1) := by decide +kernel
theorem dX3_append_31 : decode cX3_append 31 = .ok (.getfield 21, 3) := by decide +kernel
theorem dX3_append_34 : decode cX3_append 34 = .ok (.iload 6, 2) := by decide +kernel
theorem dX3_append_36 : decode cX3_append 36 = .ok (.iload 4, 2) := by decide +kernel
theorem dX3_append_38 : decode cX3_append 38 = .ok (.iastore, 1) := by decide +kernel
theorem dX3_append_39 : decode cX3_append 39 = .ok (.aload_n 0, 1) := by decide +kernel
theorem dX3_append_40 : decode cX3_append 40 = .ok (.getfield 29, 3) := by decide +kernel
theorem dX3_append_43 : decode cX3_append 43 = .ok (.iload 6, 2) := by decide +kernel
theorem dX3_append_45 : decode cX3_append 45 = .ok (.aload 5, 2) := by decide +kernel
theorem dX3_append_47 : decode cX3_append 47 = .ok (.iload_n 1, 1) := by decide +kernel
theorem dX3_append_48 : decode cX3_append 48 = .ok (.invokevirtual 59, 3) := by decide +kernel
theorem dX3_append_51 : decode cX3_append 51 = .ok (.aload_n 0, 1) := by decide +kernel
theorem dX3_append_52 : decode cX3_append 52 = .ok (.dup, 1) := by decide +kernel
theorem dX3_append_53 : decode cX3_append 53 = .ok (.getfield 39, 3) := by decide +kernel
theorem dX3_append_56 : decode cX3_append 56 = .ok (.iconst 1, 1) := by decide +kernel
theorem dX3_append_57 : decode cX3_append 57 = .ok (.iadd, 1) := by decide +kernel
theorem dX3_append_58 : decode cX3_append 58 = .ok (.putfield 39, 3) := by decide +kernel
theorem dX3_append_61 : decode cX3_append 61 = .ok (.iload 6, 2) := by decide +kernel
theorem dX3_append_63 : decode cX3_append 63 = .ok (.ireturn, 1) := by decide +kernel
set_option maxRecDepth 20000 in
theorem ggX3_isAhead_X1_number : GoodIn wsX3_isAhead wsX1_number := goodIn_r _ [7, 8, 17, 18] (by decide +kernel) (by decide +kernel)
set_option maxRecDepth 20000 in
theorem gX3_isAhead_X1_number : GoodIn wsX3_isAhead (wsV RX3 63 RX1 yX1_number wsX1_number) := goodIn_app (goodIn_of _ (by decide +kernel)) ggX3_isAhead_X1_number
theorem dX3_isAhead_0 : decode cX3_isAhead 0 = .ok (.aload_n 0, 1) := by decide +kernel
theorem dX3_isAhead_1 : decode cX3_isAhead 1 = .ok (.getfield 9, 3) := by decide +kernel
theorem dX3_isAhead_4 : decode cX3_isAhead 4 = .ok (.iload_n 1, 1) := by decide +kernel
theorem dX3_isAhead_5 : decode cX3_isAhead 5 = .ok (.iaload, 1) := by decide +kernel
theorem dX3_isAhead_6 : decode cX3_isAhead 6 = .ok (.istore_n 3, 1) := by decide +kernel
theorem dX3_isAhead_7 : decode cX3_isAhead 7 = .ok (.iload_n 1, 1) := by decide +kernel
theorem dX3_isAhead_8 : decode cX3_isAhead 8 = .ok (.iload_n 2, 1) := by decide +kernel
theorem dX3_isAhead_9 : decode cX3_isAhead 9 = .ok (.if_icmp .ge 28, 3) := by decide +kernel
theorem dX3_isAhead_12 : decode cX3_isAhead 12 = .ok (.aload_n 0, 1) := by decide +kernel
theorem dX3_isAhead_13 : decode cX3_isAhead 13 = .ok (.getfield 29, 3) := by decide +kernel
theorem dX3_isAhead_16 : decode cX3_isAhead 16 = .ok (.iload_n 2, 1) := by decide +kernel
theorem dX3_isAhead_17 : decode cX3_isAhead 17 = .ok (.iload_n 3, 1) := by decide +kernel
theorem dX3_isAhead_18 : decode cX3_isAhead 18 = .ok (.invokevirtual 63, 3) := by decide +kernel
theorem dX3_isAhead_21 : decode cX3_isAhead 21 = .ok (.aload_n 0, 1) := by decide +kernel
theorem dX3_isAhead_22 : decode cX3_isAhead 22 = .ok (.getfield 29, 3) := by decide +kernel
theorem dX3_isAhead_25 : decode cX3_isAhead 25 = .ok (.iload_n 1, 1) := by decide +kernel
theorem dX3_isAhead_26 : decode cX3_isAhead 26 = .ok (.iload_n 3, 1) := by decide +kernel
theorem dX3_isAhead_27 : decode cX3_isAhead 27 = .ok (.invokevirtual 63, 3) := by decide +kernel
theorem dX3_isAhead_30 : decode cX3_isAhead 30 = .ok (.if_icmp .lt 7, 3) := by decide +kernel
theorem dX3_isAhead_33 : decode cX3_isAhead 33 = .ok (.iconst 1, 1) := by decide +kernel
theorem dX3_isAhead_34 : decode cX3_isAhead 34 = .ok (.goto 4, 3) := by decide +kernel
theorem dX3_isAhead_37 : decode cX3_isAhead 37 = .ok (.iconst 0, 1) := by decide +kernel
theorem dX3_isAhead_38 : decode cX3_isAhead 38 = .ok (.ireturn, 1) := by decide +kernel
theorem dX3_racesOfCell_0 : decode cX3_racesOfCell 0 = .ok (.iconst 0, 1) := by decide +kernel
theorem dX3_racesOfCell_1 : decode cX3_racesOfCell 1 = .ok (.istore_n 2, 1) := by decide +kernel
theorem dX3_racesOfCell_2 : decode cX3_racesOfCell 2 = .ok (.iconst 0, 1) := by decide +kernel
theorem dX3_racesOfCell_3 : decode cX3_racesOfCell 3 = .ok (.istore_n 3, 1) := by decide +kernel
theorem dX3_racesOfCell_4 : decode cX3_racesOfCell 4 = .ok (.iload_n 3, 1) := by decide +kernel
theorem dX3_racesOfCell_5 : decode cX3_racesOfCell 5 = .ok (.iconst 3, 1) := by decide +kernel
theorem dX3_racesOfCell_6 : decode cX3_racesOfCell 6 = .ok (.if_icmp .ge 22, 3) := by decide +kernel
theorem dX3_racesOfCell_9 : decode cX3_racesOfCell 9 = .ok (.iload_n 2, 1) := by decide +kernel
theorem dX3_racesOfCell_10 : decode cX3_racesOfCell 10 = .ok (.aload_n 0, 1) := by decide +kernel
theorem dX3_racesOfCell_11 : decode cX3_racesOfCell 11 = .ok (.getfield 36, 3) := by decide +kernel
theorem dX3_racesOfCell_14 : decode cX3_racesOfCell 14 = .ok (.iload_n 1, 1) := by decide +kernel
theorem dX3_racesOfCell_15 : decode cX3_racesOfCell 15 = .ok (.iconst 3, 1) := by decide +kernel
theorem dX3_racesOfCell_16 : decode cX3_racesOfCell 16 = .ok (.imul, 1) := by decide +kernel
theorem dX3_racesOfCell_17 : decode cX3_racesOfCell 17 = .ok (.iload_n 3, 1) := by decide +kernel
theorem dX3_racesOfCell_18 : decode cX3_racesOfCell 18 = .ok (.iadd, 1) := by decide +kernel
theorem dX3_racesOfCell_19 : decode cX3_racesOfCell 19 = .ok (.iaload, 1) := by decide +kernel
theorem dX3_racesOfCell_20 : decode cX3_racesOfCell 20 = .ok (.iadd, 1) := by decide +kernel
theorem dX3_racesOfCell_21 : decode cX3_racesOfCell 21 = .ok (.istore_n 2, 1) := by decide +kernel
theorem dX3_racesOfCell_22 : decode cX3_racesOfCell 22 = .ok (.iinc 3 1, 3) := by decide +kernel
theorem dX3_racesOfCell_25 : decode cX3_racesOfCell 25 = .ok (.goto (-21), 3) := by decide +kernel
theorem dX3_racesOfCell_28 : decode cX3_racesOfCell 28 = .ok (.iload_n 2, 1) := by decide +kernel
theorem dX3_racesOfCell_29 : decode cX3_racesOfCell 29 = .ok (.ireturn, 1) := by decide +kernel
set_option maxRecDepth 20000 in
theorem ggX3_racesOfAll_X3_racesOfCell : GoodIn wsX3_racesOfAll wsX3_racesOfCell := goodIn_r _ [5, 6, 7, 8, 9, 10, 11, 12, 13, 14] (by decide +kernel) (by decide +kernel)
set_option maxRecDepth 20000 in
theorem gX3_racesOfAll_X3_racesOfCell : GoodIn wsX3_racesOfAll (wsV RX3 67 RX3 yX3_racesOfCell wsX3_racesOfCell) := goodIn_app (goodIn_of _ (by decide +kernel)) ggX3_racesOfAll_X3_racesOfCell
theorem dX3_racesOfAll_0 : decode cX3_racesOfAll 0 = .ok (.iconst 0, 1) := by decide +kernel
theorem dX3_racesOfAll_1 : decode cX3_racesOfAll 1 = .ok (.istore_n 1, 1) := by decide +kernel
theorem dX3_racesOfAll_2 : decode cX3_racesOfAll 2 = .ok (.iconst 0, 1) := by decide +kernel
theorem dX3_racesOfAll_3 : decode cX3_racesOfAll 3 = .ok (.istore_n 2, 1) := by decide +kernel
theorem dX3_racesOfAll_4 : decode cX3_racesOfAll 4 = .ok (.iload_n 2, 1) := by decide +kernel
theorem dX3_racesOfAll_5 : decode cX3_racesOfAll 5 = .ok (.iconst 4, 1) := by decide +kernel
theorem dX3_racesOfAll_6 : decode cX3_racesOfAll 6 = .ok (.if_icmp .ge 17, 3) := by decide +kernel
theorem dX3_racesOfAll_9 : decode cX3_racesOfAll 9 = .ok (.iload_n 1, 1) := by decide +kernel
theorem dX3_racesOfAll_10 : decode cX3_racesOfAll 10 = .ok (.aload_n 0, 1) := by decide +kernel
theorem dX3_racesOfAll_11 : decode cX3_racesOfAll 11 = .ok (.iload_n 2, 1) := by decide +kernel
theorem dX3_racesOfAll_12 : decode cX3_racesOfAll 12 = .ok (.invokevirtual 67, 3) := by decide +kernel
theorem dX3_racesOfAll_15 : decode cX3_racesOfAll 15 = .ok (.iadd, 1) := by decide +kernel
theorem dX3_racesOfAll_16 : decode cX3_racesOfAll 16 = .ok (.istore_n 1, 1) := by decide +kernel
theorem dX3_racesOfAll_17 : decode cX3_racesOfAll 17 = .ok (.iinc 2 1, 3) := by decide +kernel
theorem dX3_racesOfAll_20 : decode cX3_racesOfAll 20 = .ok (.goto (-16), 3) := by decide +kernel
theorem dX3_racesOfAll_23 : decode cX3_racesOfAll 23 = .ok (.iload_n 1, 1) := by decide +kernel
theorem dX3_racesOfAll_24 : decode cX3_racesOfAll 24 = .ok (.ireturn, 1) := by decide +kernel
set_option maxRecDepth 20000 in
theorem ggX3_cellsWithRace_X3_racesOfCell : GoodIn wsX3_cellsWithRace wsX3_racesOfCell := goodIn_r _ [5, 6, 7, 8, 9, 10, 11, 12, 13, 14] (by decide +kernel) (by decide +kernel)
set_option maxRecDepth 20000 in
theorem gX3_cellsWithRace_X3_racesOfCell : GoodIn wsX3_cellsWithRace (wsV RX3 67 RX3 yX3_racesOfCell wsX3_racesOfCell) := goodIn_app (goodIn_of _ (by decide +kernel)) ggX3_cellsWithRace_X3_racesOfCell
theorem dX3_cellsWithRace_0 : decode cX3_cellsWithRace 0 = .ok (.iconst 0, 1) := by decide +kernel
theorem dX3_cellsWithRace_1 : decode cX3_cellsWithRace 1 = .ok (.istore_n 1, 1) := by decide +kernel
theorem dX3_cellsWithRace_2 : decode cX3_cellsWithRace 2 = .ok (.iconst 0, 1) := by decide +kernel
theorem dX3_cellsWithRace_3 : decode cX3_cellsWithRace 3 = .ok (.istore_n 2, 1) := by decide +kernel
theorem dX3_cellsWithRace_4 : decode cX3_cellsWithRace 4 = .ok (.iload_n 2, 1) := by decide +kernel
theorem dX3_cellsWithRace_5 : decode cX3_cellsWithRace 5 = .ok (.iconst 4, 1) := by decide +kernel
theorem dX3_cellsWithRace_6 : decode cX3_cellsWithRace 6 = .ok (.if_icmp .ge 23, 3) := by decide +kernel
theorem dX3_cellsWithRace_9 : decode cX3_cellsWithRace 9 = .ok (.aload_n 0, 1) := by decide +kernel
theorem dX3_cellsWithRace_10 : decode cX3_cellsWithRace 10 = .ok (.iload_n 2, 1) := by decide +kernel
theorem dX3_cellsWithRace_11 : decode cX3_cellsWithRace 11 = .ok (.invokevirtual 67, 3) := by decide +kernel
theorem dX3_cellsWithRace_14 : decode cX3_cellsWithRace 14 = .ok (.ifCond .le 9, 3) := by decide +kernel
theorem dX3_cellsWithRace_17 : decode cX3_cellsWithRace 17 = .ok (.iload_n 1, 1) := by decide +kernel
theorem dX3_cellsWithRace_18 : decode cX3_cellsWithRace 18 = .ok (.iconst 1, 1) := by decide +kernel
theorem dX3_cellsWithRace_19 : decode cX3_cellsWithRace 19 = .ok (.iload_n 2, 1) := by decide +kernel
theorem dX3_cellsWithRace_20 : decode cX3_cellsWithRace 20 = .ok (.ishl, 1) := by decide +kernel
theorem dX3_cellsWithRace_21 : decode cX3_cellsWithRace 21 = .ok (.ior, 1) := by decide +kernel
theorem dX3_cellsWithRace_22 : decode cX3_cellsWithRace 22 = .ok (.istore_n 1, 1) := by decide +kernel
theorem dX3_cellsWithRace_23 : decode cX3_cellsWithRace 23 = .ok (.iinc 2 1, 3) := by decide +kernel
theorem dX3_cellsWithRace_26 : decode cX3_cellsWithRace 26 = .ok (.goto (-22), 3) := by decide +kernel
theorem dX3_cellsWithRace_29 : decode cX3_cellsWithRace 29 = .ok (.iload_n 1, 1) := by decide +kernel
theorem dX3_cellsWithRace_30 : decode cX3_cellsWithRace 30 = .ok (.ireturn, 1) := by decide +kernel
set_option maxRecDepth 20000 in
theorem ggX3_partOfRace_X3_isAccess : GoodIn wsX3_partOfRace wsX3_isAccess := goodIn_r _ [8, 9, 30, 31, 32, 33, 34, 35, 36, 37] (by decide +kernel) (by decide +kernel)
set_option maxRecDepth 20000 in
theorem gX3_partOfRace_X3_isAccess : GoodIn wsX3_partOfRace (wsV RX3 71 RX3 yX3_isAccess wsX3_isAccess) := goodIn_app (goodIn_of _ (by decide +kernel)) ggX3_partOfRace_X3_isAccess
set_option maxRecDepth 20000 in
theorem ggX3_partOfRace_X3_earlierOf : GoodIn wsX3_partOfRace wsX3_earlierOf := goodIn_r _ [13, 14, 15, 16, 7, 17, 2, 18, 9, 4, 5, 6, 8, 19, 20, 21, 22, 23, 24, 25, 26, 27, 28, 29, 30, 31, 32, 33, 34, 35, 36, 37, 38, 39] (by decide +kernel) (by decide +kernel)
set_option maxRecDepth 20000 in
theorem gX3_partOfRace_X3_earlierOf : GoodIn wsX3_partOfRace (wsV RX3 75 RX3 yX3_earlierOf wsX3_earlierOf) := goodIn_app (goodIn_of _ (by decide +kernel)) ggX3_partOfRace_X3_earlierOf
set_option maxRecDepth 20000 in
theorem ggX3_partOfRace_X3_kindOfPair : GoodIn wsX3_partOfRace wsX3_kindOfPair := goodIn_r _ [17, 2, 18, 9, 4, 5, 6, 7, 8, 19, 20, 21, 22, 23, 24, 25, 26, 27, 28, 29, 30, 31, 32, 33, 34, 35, 36, 37, 38, 39] (by decide +kernel) (by decide +kernel)
set_option maxRecDepth 20000 in
theorem gX3_partOfRace_X3_kindOfPair : GoodIn wsX3_partOfRace (wsV RX3 78 RX3 yX3_kindOfPair wsX3_kindOfPair) := goodIn_app (goodIn_of _ (by decide +kernel)) ggX3_partOfRace_X3_kindOfPair
theorem dX3_partOfRace_0 : decode cX3_partOfRace 0 = .ok (.iload_n 2, 1) := by decide +kernel
theorem dX3_partOfRace_1 : decode cX3_partOfRace 1 = .ok (.istore 4, 2) := by decide +kernel
theorem dX3_partOfRace_3 : decode cX3_partOfRace 3 = .ok (.iconst 0, 1) := by decide +kernel
theorem dX3_partOfRace_4 : decode cX3_partOfRace 4 = .ok (.istore 5, 2) := by decide +kernel
theorem dX3_partOfRace_6 : decode cX3_partOfRace 6 = .ok (.iload 5, 2) := by decide +kernel
theorem dX3_partOfRace_8 : decode cX3_partOfRace 8 = .ok (.aload_n 0, 1) := by decide +kernel
theorem dX3_partOfRace_9 : decode cX3_partOfRace 9 = .ok (.getfield 39, 3) := by decide +kernel
theorem dX3_partOfRace_12 : decode cX3_partOfRace 12 = .ok (.if_icmp .ge 91, 3) := by decide +kernel
theorem dX3_partOfRace_15 : decode cX3_partOfRace 15 = .ok (.aload_n 0, 1) := by decide +kernel
theorem dX3_partOfRace_16 : decode cX3_partOfRace 16 = .ok (.iload 5, 2) := by decide +kernel
theorem dX3_partOfRace_18 : decode cX3_partOfRace 18 = .ok (.invokevirtual 71, 3) := by decide +kernel
theorem dX3_partOfRace_21 : decode cX3_partOfRace 21 = .ok (.ifCond .eq 76, 3) := by decide +kernel
theorem dX3_partOfRace_24 : decode cX3_partOfRace 24 = .ok (.aload_n 0, 1) := by decide +kernel
theorem dX3_partOfRace_25 : decode cX3_partOfRace 25 = .ok (.getfield 18, 3) := by decide +kernel
theorem dX3_partOfRace_28 : decode cX3_partOfRace 28 = .ok (.iload 5, 2) := by decide +kernel
theorem dX3_partOfRace_30 : decode cX3_partOfRace 30 = .ok (.iaload, 1) := by decide +kernel
theorem dX3_partOfRace_31 : decode cX3_partOfRace 31 = .ok (.iload_n 1, 1) := by decide +kernel
theorem dX3_partOfRace_32 : decode cX3_partOfRace 32 = .ok (.if_icmp .ne 65, 3) := by decide +kernel
theorem dX3_partOfRace_35 : decode cX3_partOfRace 35 = .ok (.iload 4, 2) := by decide +kernel
theorem dX3_partOfRace_37 : decode cX3_partOfRace 37 = .ok (.aload_n 0, 1) := by decide +kernel
theorem dX3_partOfRace_38 : decode cX3_partOfRace 38 = .ok (.getfield 33, 3) := by decide +kernel
theorem dX3_partOfRace_41 : decode cX3_partOfRace 41 = .ok (.iload 5, 2) := by decide +kernel
theorem dX3_partOfRace_43 : decode cX3_partOfRace 43 = .ok (.iaload, 1) := by decide +kernel
theorem dX3_partOfRace_44 : decode cX3_partOfRace 44 = .ok (.if_icmp .ge 41, 3) := by decide +kernel
theorem dX3_partOfRace_47 : decode cX3_partOfRace 47 = .ok (.aload_n 0, 1) := by decide +kernel
theorem dX3_partOfRace_48 : decode cX3_partOfRace 48 = .ok (.iload 5, 2) := by decide +kernel
theorem dX3_partOfRace_50 : decode cX3_partOfRace 50 = .ok (.iload 4, 2) := by decide +kernel
theorem dX3_partOfRace_52 : decode cX3_partOfRace 52 = .ok (.invokevirtual 75, 3) := by decide +kernel
theorem dX3_partOfRace_55 : decode cX3_partOfRace 55 = .ok (.istore 6, 2) := by decide +kernel
theorem dX3_partOfRace_57 : decode cX3_partOfRace 57 = .ok (.iload_n 3, 1) := by decide +kernel
theorem dX3_partOfRace_58 : decode cX3_partOfRace 58 = .ok (.ifCond .ne 8, 3) := by decide +kernel
theorem dX3_partOfRace_61 : decode cX3_partOfRace 61 = .ok (.iload 6, 2) := by decide +kernel
theorem dX3_partOfRace_63 : decode cX3_partOfRace 63 = .ok (.goto 21, 3) := by decide +kernel
theorem dX3_partOfRace_66 : decode cX3_partOfRace 66 = .ok (.iload_n 3, 1) := by decide +kernel
theorem dX3_partOfRace_67 : decode cX3_partOfRace 67 = .ok (.iconst 1, 1) := by decide +kernel
theorem dX3_partOfRace_68 : decode cX3_partOfRace 68 = .ok (.if_icmp .ne 8, 3) := by decide +kernel
theorem dX3_partOfRace_71 : decode cX3_partOfRace 71 = .ok (.iload 5, 2) := by decide +kernel
theorem dX3_partOfRace_73 : decode cX3_partOfRace 73 = .ok (.goto 11, 3) := by decide +kernel
theorem dX3_partOfRace_76 : decode cX3_partOfRace 76 = .ok (.aload_n 0, 1) := by decide +kernel
theorem dX3_partOfRace_77 : decode cX3_partOfRace 77 = .ok (.iload 6, 2) := by decide +kernel
theorem dX3_partOfRace_79 : decode cX3_partOfRace 79 = .ok (.iload 5, 2) := by decide +kernel
theorem dX3_partOfRace_81 : decode cX3_partOfRace 81 = .ok (.invokevirtual 78, 3) := by decide +kernel
theorem dX3_partOfRace_84 : decode cX3_partOfRace 84 = .ok (.ireturn, 1) := by decide +kernel
theorem dX3_partOfRace_85 : decode cX3_partOfRace 85 = .ok (.iload 4, 2) := by decide +kernel
theorem dX3_partOfRace_87 : decode cX3_partOfRace 87 = .ok (.aload_n 0, 1) := by decide +kernel
theorem dX3_partOfRace_88 : decode cX3_partOfRace 88 = .ok (.getfield 33, 3) := by decide +kernel
theorem dX3_partOfRace_91 : decode cX3_partOfRace 91 = .ok (.iload 5, 2) := by decide +kernel
theorem dX3_partOfRace_93 : decode cX3_partOfRace 93 = .ok (.iaload, 1) := by decide +kernel
theorem dX3_partOfRace_94 : decode cX3_partOfRace 94 = .ok (.isub, 1) := by decide +kernel
theorem dX3_partOfRace_95 : decode cX3_partOfRace 95 = .ok (.istore 4, 2) := by decide +kernel
theorem dX3_partOfRace_97 : decode cX3_partOfRace 97 = .ok (.iinc 5 1, 3) := by decide +kernel
theorem dX3_partOfRace_100 : decode cX3_partOfRace 100 = .ok (.goto (-94), 3) := by decide +kernel
theorem dX3_partOfRace_103 : decode cX3_partOfRace 103 = .ok (.iconst (-1), 1) := by decide +kernel
theorem dX3_partOfRace_104 : decode cX3_partOfRace 104 = .ok (.ireturn, 1) := by decide +kernel
set_option maxRecDepth 20000 in
theorem ggX3_earlierOf_X3_kindOfPair : GoodIn wsX3_earlierOf wsX3_kindOfPair := goodIn_r _ [5, 6, 7, 8, 9, 10, 11, 4, 12, 13, 14, 15, 16, 17, 18, 19, 20, 21, 22, 23, 24, 25, 26, 27, 28, 29, 30, 31, 32, 33] (by decide +kernel) (by decide +kernel)
set_option maxRecDepth 20000 in
theorem gX3_earlierOf_X3_kindOfPair : GoodIn wsX3_earlierOf (wsV RX3 78 RX3 yX3_kindOfPair wsX3_kindOfPair) := goodIn_app (goodIn_of _ (by decide +kernel)) ggX3_earlierOf_X3_kindOfPair
theorem dX3_earlierOf_0 : decode cX3_earlierOf 0 = .ok (.iload_n 2, 1) := by decide +kernel
theorem dX3_earlierOf_1 : decode cX3_earlierOf 1 = .ok (.istore_n 3, 1) := by decide +kernel
theorem dX3_earlierOf_2 : decode cX3_earlierOf 2 = .ok (.iconst 0, 1) := by decide +kernel
theorem dX3_earlierOf_3 : decode cX3_earlierOf 3 = .ok (.istore 4, 2) := by decide +kernel
theorem dX3_earlierOf_5 : decode cX3_earlierOf 5 = .ok (.iload 4, 2) := by decide +kernel
theorem dX3_earlierOf_7 : decode cX3_earlierOf 7 = .ok (.iload_n 1, 1) := by decide +kernel
theorem dX3_earlierOf_8 : decode cX3_earlierOf 8 = .ok (.if_icmp .ge 30, 3) := by decide +kernel
theorem dX3_earlierOf_11 : decode cX3_earlierOf 11 = .ok (.aload_n 0, 1) := by decide +kernel
theorem dX3_earlierOf_12 : decode cX3_earlierOf 12 = .ok (.iload 4, 2) := by decide +kernel
theorem dX3_earlierOf_14 : decode cX3_earlierOf 14 = .ok (.iload_n 1, 1) := by decide +kernel
theorem dX3_earlierOf_15 : decode cX3_earlierOf 15 = .ok (.invokevirtual 78, 3) := by decide +kernel
theorem dX3_earlierOf_18 : decode cX3_earlierOf 18 = .ok (.iconst (-1), 1) := by decide +kernel
theorem dX3_earlierOf_19 : decode cX3_earlierOf 19 = .ok (.if_icmp .eq 13, 3) := by decide +kernel
theorem dX3_earlierOf_22 : decode cX3_earlierOf 22 = .ok (.iload_n 3, 1) := by decide +kernel
theorem dX3_earlierOf_23 : decode cX3_earlierOf 23 = .ok (.ifCond .ne 6, 3) := by decide +kernel
theorem dX3_earlierOf_26 : decode cX3_earlierOf 26 = .ok (.iload 4, 2) := by decide +kernel
theorem dX3_earlierOf_28 : decode cX3_earlierOf 28 = .ok (.ireturn, 1) := by decide +kernel
theorem dX3_earlierOf_29 : decode cX3_earlierOf 29 = .ok (.iinc 3 (-1), 3) := by decide +kernel
theorem dX3_earlierOf_32 : decode cX3_earlierOf 32 = .ok (.iinc 4 1, 3) := by decide +kernel
theorem dX3_earlierOf_35 : decode cX3_earlierOf 35 = .ok (.goto (-30), 3) := by decide +kernel
theorem dX3_earlierOf_38 : decode cX3_earlierOf 38 = .ok (.iconst (-1), 1) := by decide +kernel
theorem dX3_earlierOf_39 : decode cX3_earlierOf 39 = .ok (.ireturn, 1) := by decide +kernel
set_option maxRecDepth 20000 in
theorem ggX3_countRaces_X3_kindOfPair : GoodIn wsX3_countRaces wsX3_kindOfPair := goodIn_r _ [8, 2, 9, 10, 11, 12, 13, 7, 14, 15, 16, 17, 18, 19, 20, 21, 22, 23, 24, 25, 26, 27, 28, 29, 30, 31, 32, 33, 34, 35] (by decide +kernel) (by decide +kernel)
set_option maxRecDepth 20000 in
theorem gX3_countRaces_X3_kindOfPair : GoodIn wsX3_countRaces (wsV RX3 78 RX3 yX3_kindOfPair wsX3_kindOfPair) := goodIn_app (goodIn_of _ (by decide +kernel)) ggX3_countRaces_X3_kindOfPair
theorem dX3_countRaces_0 : decode cX3_countRaces 0 = .ok (.iconst 0, 1) := by decide +kernel
theorem dX3_countRaces_1 : decode cX3_countRaces 1 = .ok (.istore_n 2, 1) := by decide +kernel
theorem dX3_countRaces_2 : decode cX3_countRaces 2 = .ok (.iconst 0, 1) := by decide +kernel
theorem dX3_countRaces_3 : decode cX3_countRaces 3 = .ok (.istore_n 3, 1) := by decide +kernel
theorem dX3_countRaces_4 : decode cX3_countRaces 4 = .ok (.iload_n 3, 1) := by decide +kernel
theorem dX3_countRaces_5 : decode cX3_countRaces 5 = .ok (.iload_n 1, 1) := by decide +kernel
theorem dX3_countRaces_6 : decode cX3_countRaces 6 = .ok (.if_icmp .ge 46, 3) := by decide +kernel
theorem dX3_countRaces_9 : decode cX3_countRaces 9 = .ok (.aload_n 0, 1) := by decide +kernel
theorem dX3_countRaces_10 : decode cX3_countRaces 10 = .ok (.iload_n 3, 1) := by decide +kernel
theorem dX3_countRaces_11 : decode cX3_countRaces 11 = .ok (.iload_n 1, 1) := by decide +kernel
theorem dX3_countRaces_12 : decode cX3_countRaces 12 = .ok (.invokevirtual 78, 3) := by decide +kernel
theorem dX3_countRaces_15 : decode cX3_countRaces 15 = .ok (.istore 4, 2) := by decide +kernel
theorem dX3_countRaces_17 : decode cX3_countRaces 17 = .ok (.iload 4, 2) := by decide +kernel
theorem dX3_countRaces_19 : decode cX3_countRaces 19 = .ok (.iconst (-1), 1) := by decide +kernel
theorem dX3_countRaces_20 : decode cX3_countRaces 20 = .ok (.if_icmp .eq 26, 3) := by decide +kernel
theorem dX3_countRaces_23 : decode cX3_countRaces 23 = .ok (.aload_n 0, 1) := by decide +kernel
theorem dX3_countRaces_24 : decode cX3_countRaces 24 = .ok (.getfield 36, 3) := by decide +kernel
theorem dX3_countRaces_27 : decode cX3_countRaces 27 = .ok (.aload_n 0, 1) := by decide +kernel
theorem dX3_countRaces_28 : decode cX3_countRaces 28 = .ok (.getfield 18, 3) := by decide +kernel
theorem dX3_countRaces_31 : decode cX3_countRaces 31 = .ok (.iload_n 1, 1) := by decide +kernel
theorem dX3_countRaces_32 : decode cX3_countRaces 32 = .ok (.iaload, 1) := by decide +kernel
theorem dX3_countRaces_33 : decode cX3_countRaces 33 = .ok (.iconst 3, 1) := by decide +kernel
theorem dX3_countRaces_34 : decode cX3_countRaces 34 = .ok (.imul, 1) := by decide +kernel
theorem dX3_countRaces_35 : decode cX3_countRaces 35 = .ok (.iload 4, 2) := by decide +kernel
theorem dX3_countRaces_37 : decode cX3_countRaces 37 = .ok (.iadd, 1) := by decide +kernel
theorem dX3_countRaces_38 : decode cX3_countRaces 38 = .ok (.dup2, 1) := by decide +kernel
theorem dX3_countRaces_39 : decode cX3_countRaces 39 = .ok (.iaload, 1) := by decide +kernel
theorem dX3_countRaces_40 : decode cX3_countRaces 40 = .ok (.iconst 1, 1) := by decide +kernel
theorem dX3_countRaces_41 : decode cX3_countRaces 41 = .ok (.iadd, 1) := by decide +kernel
theorem dX3_countRaces_42 : decode cX3_countRaces 42 = .ok (.iastore, 1) := by decide +kernel
theorem dX3_countRaces_43 : decode cX3_countRaces 43 = .ok (.iinc 2 1, 3) := by decide +kernel
theorem dX3_countRaces_46 : decode cX3_countRaces 46 = .ok (.iinc 3 1, 3) := by decide +kernel
theorem dX3_countRaces_49 : decode cX3_countRaces 49 = .ok (.goto (-45), 3) := by decide +kernel
theorem dX3_countRaces_52 : decode cX3_countRaces 52 = .ok (.aload_n 0, 1) := by decide +kernel
theorem dX3_countRaces_53 : decode cX3_countRaces 53 = .ok (.getfield 33, 3) := by decide +kernel
theorem dX3_countRaces_56 : decode cX3_countRaces 56 = .ok (.iload_n 1, 1) := by decide +kernel
theorem dX3_countRaces_57 : decode cX3_countRaces 57 = .ok (.iload_n 2, 1) := by decide +kernel
theorem dX3_countRaces_58 : decode cX3_countRaces 58 = .ok (.iastore, 1) := by decide +kernel
theorem dX3_countRaces_59 : decode cX3_countRaces 59 = .ok (.return_, 1) := by decide +kernel
theorem dX3_isAccess_0 : decode cX3_isAccess 0 = .ok (.aload_n 0, 1) := by decide +kernel
theorem dX3_isAccess_1 : decode cX3_isAccess 1 = .ok (.getfield 15, 3) := by decide +kernel
theorem dX3_isAccess_4 : decode cX3_isAccess 4 = .ok (.iload_n 1, 1) := by decide +kernel
theorem dX3_isAccess_5 : decode cX3_isAccess 5 = .ok (.iaload, 1) := by decide +kernel
theorem dX3_isAccess_6 : decode cX3_isAccess 6 = .ok (.ifCond .eq 13, 3) := by decide +kernel
theorem dX3_isAccess_9 : decode cX3_isAccess 9 = .ok (.aload_n 0, 1) := by decide +kernel
theorem dX3_isAccess_10 : decode cX3_isAccess 10 = .ok (.getfield 15, 3) := by decide +kernel
theorem dX3_isAccess_13 : decode cX3_isAccess 13 = .ok (.iload_n 1, 1) := by decide +kernel
theorem dX3_isAccess_14 : decode cX3_isAccess 14 = .ok (.iaload, 1) := by decide +kernel
theorem dX3_isAccess_15 : decode cX3_isAccess 15 = .ok (.iconst 1, 1) := by decide +kernel
theorem dX3_isAccess_16 : decode cX3_isAccess 16 = .ok (.if_icmp .ne 7, 3) := by decide +kernel
theorem dX3_isAccess_19 : decode cX3_isAccess 19 = .ok (.iconst 1, 1) := by decide +kernel
theorem dX3_isAccess_20 : decode cX3_isAccess 20 = .ok (.goto 4, 3) := by decide +kernel
theorem dX3_isAccess_23 : decode cX3_isAccess 23 = .ok (.iconst 0, 1) := by decide +kernel
theorem dX3_isAccess_24 : decode cX3_isAccess 24 = .ok (.ireturn, 1) := by decide +kernel
set_option maxRecDepth 20000 in
theorem ggX3_kindOfPair_X3_isAccess : GoodIn wsX3_kindOfPair wsX3_isAccess := goodIn_r _ [8, 3, 20, 21, 22, 23, 24, 25, 26, 27] (by decide +kernel) (by decide +kernel)
set_option maxRecDepth 20000 in
theorem gX3_kindOfPair_X3_isAccess : GoodIn wsX3_kindOfPair (wsV RX3 71 RX3 yX3_isAccess wsX3_isAccess) := goodIn_app (goodIn_of _ (by decide +kernel)) ggX3_kindOfPair_X3_isAccess
set_option maxRecDepth 20000 in
theorem ggX3_kindOfPair_X3_isAhead : GoodIn wsX3_kindOfPair wsX3_isAhead := goodIn_r _ [12, 2, 13, 14, 15, 16, 17, 18, 19, 20, 21, 22, 23, 24, 25, 26, 27, 28, 29] (by decide +kernel) (by decide +kernel)
set_option maxRecDepth 20000 in
theorem gX3_kindOfPair_X3_isAhead : GoodIn wsX3_kindOfPair (wsV RX3 81 RX3 yX3_isAhead wsX3_isAhead) := goodIn_app (goodIn_of _ (by decide +kernel)) ggX3_kindOfPair_X3_isAhead
theorem dX3_kindOfPair_0 : decode cX3_kindOfPair 0 = .ok (.aload_n 0, 1) := by decide +kernel
theorem dX3_kindOfPair_1 : decode cX3_kindOfPair 1 = .ok (.iload_n 1, 1) := by decide +kernel
theorem dX3_kindOfPair_2 : decode cX3_kindOfPair 2 = .ok (.invokevirtual 71, 3) := by decide +kernel
theorem dX3_kindOfPair_5 : decode cX3_kindOfPair 5 = .ok (.ifCond .eq 26, 3) := by decide +kernel
theorem dX3_kindOfPair_8 : decode cX3_kindOfPair 8 = .ok (.aload_n 0, 1) := by decide +kernel
theorem dX3_kindOfPair_9 : decode cX3_kindOfPair 9 = .ok (.iload_n 2, 1) := by decide +kernel
theorem dX3_kindOfPair_10 : decode cX3_kindOfPair 10 = .ok (.invokevirtual 71, 3) := by decide +kernel
theorem dX3_kindOfPair_13 : decode cX3_kindOfPair 13 = .ok (.ifCond .eq 18, 3) := by decide +kernel
theorem dX3_kindOfPair_16 : decode cX3_kindOfPair 16 = .ok (.aload_n 0, 1) := by decide +kernel
theorem dX3_kindOfPair_17 : decode cX3_kindOfPair 17 = .ok (.getfield 18, 3) := by decide +kernel
theorem dX3_kindOfPair_20 : decode cX3_kindOfPair 20 = .ok (.iload_n 1, 1) := by decide +kernel
theorem dX3_kindOfPair_21 : decode cX3_kindOfPair 21 = .ok (.iaload, 1) := by decide +kernel
theorem dX3_kindOfPair_22 : decode cX3_kindOfPair 22 = .ok (.aload_n 0, 1) := by decide +kernel
theorem dX3_kindOfPair_23 : decode cX3_kindOfPair 23 = .ok (.getfield 18, 3) := by decide +kernel
theorem dX3_kindOfPair_26 : decode cX3_kindOfPair 26 = .ok (.iload_n 2, 1) := by decide +kernel
theorem dX3_kindOfPair_27 : decode cX3_kindOfPair 27 = .ok (.iaload, 1) := by decide +kernel
theorem dX3_kindOfPair_28 : decode cX3_kindOfPair 28 = .ok (.if_icmp .eq 5, 3) := by decide +kernel
theorem dX3_kindOfPair_31 : decode cX3_kindOfPair 31 = .ok (.iconst (-1), 1) := by decide +kernel
theorem dX3_kindOfPair_32 : decode cX3_kindOfPair 32 = .ok (.ireturn, 1) := by decide +kernel
theorem dX3_kindOfPair_33 : decode cX3_kindOfPair 33 = .ok (.aload_n 0, 1) := by decide +kernel
theorem dX3_kindOfPair_34 : decode cX3_kindOfPair 34 = .ok (.getfield 9, 3) := by decide +kernel
theorem dX3_kindOfPair_37 : decode cX3_kindOfPair 37 = .ok (.iload_n 1, 1) := by decide +kernel
theorem dX3_kindOfPair_38 : decode cX3_kindOfPair 38 = .ok (.iaload, 1) := by decide +kernel
theorem dX3_kindOfPair_39 : decode cX3_kindOfPair 39 = .ok (.aload_n 0, 1) := by decide +kernel
theorem dX3_kindOfPair_40 : decode cX3_kindOfPair 40 = .ok (.getfield 9, 3) := by decide +kernel
theorem dX3_kindOfPair_43 : decode cX3_kindOfPair 43 = .ok (.iload_n 2, 1) := by decide +kernel
theorem dX3_kindOfPair_44 : decode cX3_kindOfPair 44 = .ok (.iaload, 1) := by decide +kernel
theorem dX3_kindOfPair_45 : decode cX3_kindOfPair 45 = .ok (.if_icmp .eq 12, 3) := by decide +kernel
theorem dX3_kindOfPair_48 : decode cX3_kindOfPair 48 = .ok (.aload_n 0, 1) := by decide +kernel
theorem dX3_kindOfPair_49 : decode cX3_kindOfPair 49 = .ok (.iload_n 1, 1) := by decide +kernel
theorem dX3_kindOfPair_50 : decode cX3_kindOfPair 50 = .ok (.iload_n 2, 1) := by decide +kernel
theorem dX3_kindOfPair_51 : decode cX3_kindOfPair 51 = .ok (.invokevirtual 81, 3) := by decide +kernel
theorem dX3_kindOfPair_54 : decode cX3_kindOfPair 54 = .ok (.ifCond .eq 5, 3) := by decide +kernel
theorem dX3_kindOfPair_57 : decode cX3_kindOfPair 57 = .ok (.iconst (-1), 1) := by decide +kernel
theorem dX3_kindOfPair_58 : decode cX3_kindOfPair 58 = .ok (.ireturn, 1) := by decide +kernel
theorem dX3_kindOfPair_59 : decode cX3_kindOfPair 59 = .ok (.aload_n 0, 1) := by decide +kernel
theorem dX3_kindOfPair_60 : decode cX3_kindOfPair 60 = .ok (.getfield 15, 3) := by decide +kernel
theorem dX3_kindOfPair_63 : decode cX3_kindOfPair 63 = .ok (.iload_n 1, 1) := by decide +kernel
theorem dX3_kindOfPair_64 : decode cX3_kindOfPair 64 = .ok (.iaload, 1) := by decide +kernel
theorem dX3_kindOfPair_65 : decode cX3_kindOfPair 65 = .ok (.iconst 1, 1) := by decide +kernel
theorem dX3_kindOfPair_66 : decode cX3_kindOfPair 66 = .ok (.if_icmp .ne 19, 3) := by decide +kernel
theorem dX3_kindOfPair_69 : decode cX3_kindOfPair 69 = .ok (.aload_n 0, 1) := by decide +kernel
theorem dX3_kindOfPair_70 : decode cX3_kindOfPair 70 = .ok (.getfield 15, 3) := by decide +kernel
theorem dX3_kindOfPair_73 : decode cX3_kindOfPair 73 = .ok (.iload_n 2, 1) := by decide +kernel
theorem dX3_kindOfPair_74 : decode cX3_kindOfPair 74 = .ok (.iaload, 1) := by decide +kernel
theorem dX3_kindOfPair_75 : decode cX3_kindOfPair 75 = .ok (.iconst 1, 1) := by decide +kernel
theorem dX3_kindOfPair_76 : decode cX3_kindOfPair 76 = .ok (.if_icmp .ne 7, 3) := by decide +kernel
theorem dX3_kindOfPair_79 : decode cX3_kindOfPair 79 = .ok (.iconst 0, 1) := by decide +kernel
theorem dX3_kindOfPair_80 : decode cX3_kindOfPair 80 = .ok (.goto 4, 3) := by decide +kernel
theorem dX3_kindOfPair_83 : decode cX3_kindOfPair 83 = .ok (.iconst 1, 1) := by decide +kernel
theorem dX3_kindOfPair_84 : decode cX3_kindOfPair 84 = .ok (.ireturn, 1) := by decide +kernel
theorem dX3_kindOfPair_85 : decode cX3_kindOfPair 85 = .ok (.aload_n 0, 1) := by decide +kernel
theorem dX3_kindOfPair_86 : decode cX3_kindOfPair 86 = .ok (.getfield 15, 3) := by decide +kernel
theorem dX3_kindOfPair_89 : decode cX3_kindOfPair 89 = .ok (.iload_n 2, 1) := by decide +kernel
theorem dX3_kindOfPair_90 : decode cX3_kindOfPair 90 = .ok (.iaload, 1) := by decide +kernel
theorem dX3_kindOfPair_91 : decode cX3_kindOfPair 91 = .ok (.iconst 1, 1) := by decide +kernel
theorem dX3_kindOfPair_92 : decode cX3_kindOfPair 92 = .ok (.if_icmp .ne 7, 3) := by decide +kernel
theorem dX3_kindOfPair_95 : decode cX3_kindOfPair 95 = .ok (.iconst 2, 1) := by decide +kernel
theorem dX3_kindOfPair_96 : decode cX3_kindOfPair 96 = .ok (.goto 4, 3) := by decide +kernel
theorem dX3_kindOfPair_99 : decode cX3_kindOfPair 99 = .ok (.iconst (-1), 1) := by decide +kernel
theorem dX3_kindOfPair_100 : decode cX3_kindOfPair 100 = .ok (.ireturn, 1) := by decide +kernel
end
section
/-! MY ROWS: the world is one function F from numbers of cells (0, 1 ..) to their contents; cell i lies at b + i. No sets of places, no joins. -/
abbrev sx_G : Type := va_G × ClassId × ClassId × ClassId × ClassId × Nat
abbrev sx_b (G : sx_G) : Nat := G.2.2.2.2.2
abbrev sx_ty (G : sx_G) : List (ClassId × FieldType) := [(G.2.1, .int), (G.2.2.1, .boolean), (G.2.2.2.1, .object "RaceWatch$Kept"), (G.2.2.2.2.1, .object "RaceWatch$World")]
abbrev rI (G : sx_G) (n : Nat) (f : Nat → Int32) : va_E := .inl (G.2.1, n, .inl f)
abbrev rZ (G : sx_G) (n : Nat) (f : Nat → Int32) : va_E := .inl (G.2.2.1, n, .inl f)
abbrev rK (G : sx_G) (n : Nat) (f : Nat → Option Nat) : va_E := .inl (G.2.2.2.1, n, .inr (.inr (.inr (.inr f))))
abbrev rO (G : sx_G) (n : Nat) (f : Nat → Option Nat) : va_E := .inl (G.2.2.2.2.1, n, .inr (.inr (.inr (.inr f))))
abbrev ob (ci : Nat) (fs : List Value) : va_E := .inr (ci, fs)
abbrev rf (G : sx_G) (i : Nat) : Value := .ref (sx_b G + i)
def sx_A (G : sx_G) : Nat → Prop := fun q => sx_b G ≤ q
def sx_L (G : sx_G) (n : Nat) (F : Nat → va_E) : va_W := (List.range n).map (fun i => (sx_b G + i, F i))
theorem sx_L_get (G : sx_G) {n : Nat} (F : Nat → va_E) {i : Nat} (h : i < n) : (sx_L G n F)[i]? = some (sx_b G + i, F i) := by simp [sx_L, h]
theorem sx_L_lt (G : sx_G) {n : Nat} (F : Nat → va_E) {i : Nat} {q : Nat × va_E} (h : (sx_L G n F)[i]? = some q) : i < n ∧ q = (sx_b G + i, F i) := by
  have h1 : i < n := by have := (List.getElem?_eq_some_iff.mp h).1; simpa [sx_L] using this
  refine ⟨h1, ?_⟩
  rw [sx_L_get G F h1] at h
  exact (Option.some.inj h).symm
theorem sx_L_set (G : sx_G) {n : Nat} (F : Nat → va_E) {i : Nat} (e : va_E) : (sx_L G n F).set i (sx_b G + i, e) = sx_L G n (va_up F i e) := by
  apply List.ext_getElem?
  intro k
  by_cases hk : k < n
  · rw [sx_L_get G _ hk]
    by_cases hki : k = i
    · subst hki
      rw [List.getElem?_set_self (by simp [sx_L]; exact hk), va_up_self]
    · rw [List.getElem?_set_ne (Ne.symm hki), sx_L_get G _ hk, va_up_ne _ _ hki]
  · rw [List.getElem?_eq_none (by simp [sx_L]; omega), List.getElem?_eq_none (by simp [sx_L]; omega)]
theorem sx_L_push (G : sx_G) {n : Nat} (F : Nat → va_E) (e : va_E) : sx_L G n F ++ [(sx_b G + n, e)] = sx_L G (n + 1) (va_up F n e) := by
  simp only [sx_L, List.range_succ, List.map_append, List.map_cons, List.map_nil, va_up_self]
  congr 1
  apply List.map_congr_left
  intro a ha
  rw [va_up_ne _ _ (Nat.ne_of_lt (List.mem_range.mp ha))]
theorem sx_LD (G : sx_G) (n : Nat) (F : Nat → va_E) : va_D (sx_A G) (sx_L G n F) := by
  refine ⟨fun i j p q hi hj h => ?_, fun k q hk => ?_⟩
  · obtain ⟨-, rfl⟩ := sx_L_lt G F hi
    obtain ⟨-, rfl⟩ := sx_L_lt G F hj
    exact Nat.add_left_cancel h
  · obtain ⟨-, rfl⟩ := sx_L_lt G F hk
    exact Nat.le_add_right _ _
/-- private members of nest mates, and the arrays of objects: what the tables say of them -/
def sx_N (U : State) : Prop := va_Nw (.methodLinkNest RX5 35 yX2_init RX6) U ∧ va_Nw (.methodLinkNest RX5 42 yX3_init RX6) U ∧ va_Nw (.methodLinkNest RX6 26 yX4_init RX6) U ∧ va_Nw (.methodLinkNest RX4 17 yX0_init RX6) U ∧ va_Nw (.methodLinkNest RX4 69 yX6_boundOf RX6) U ∧ va_AO "RaceWatch$Kept" U ∧ va_AO "RaceWatch$World" U
theorem sx_N.warm {s U : State} (hW : s.WarmedH U.vm) (h : sx_N s) : sx_N U := ⟨va_Nw.warmM hW h.1, va_Nw.warmM hW h.2.1, va_Nw.warmM hW h.2.2.1, va_Nw.warmM hW h.2.2.2.1, va_Nw.warmM hW h.2.2.2.2.1, va_AO.moved hW.alike h.2.2.2.2.2.1, va_AO.moved hW.alike h.2.2.2.2.2.2⟩
theorem sx_N.same {s U : State} (hW : s.vm = U.vm) (h : sx_N s) : sx_N U := ⟨va_Nw.same rfl hW h.1, va_Nw.same rfl hW h.2.1, va_Nw.same rfl hW h.2.2.1, va_Nw.same rfl hW h.2.2.2.1, va_Nw.same rfl hW h.2.2.2.2.1, va_AO.moved (by rw [hW]; exact Vm.Alike.refl _) h.2.2.2.2.2.1, va_AO.moved (by rw [hW]; exact Vm.Alike.refl _) h.2.2.2.2.2.2⟩
def sx_C (G : sx_G) (U : State) : Prop := va_K G.1 vwCl (sx_ty G) U ∧ sx_N U
theorem sx_C.warm {G : sx_G} {s U : State} (hW : s.WarmedH U.vm) (h : sx_C G s) : sx_C G U := ⟨va_K.moved hW.alike h.1, h.2.warm hW⟩
/-- the heap, while a method runs -/
def sx_H (G : sx_G) (n : Nat) (F : Nat → va_E) (H0 H : Heap) (locs : List Loc) : Prop := va_P G.1 vwCl (sx_L G n F) H ∧ va_S (sx_A G) H0 H locs
/-- the heap, as a method finds and leaves it -/
def sx_P (G : sx_G) (n : Nat) (F : Nat → va_E) (U : State) : Prop := U.heap.size = sx_b G + n ∧ va_P G.1 vwCl (sx_L G n F) U.heap ∧ sx_C G U
theorem sx_blind (G : sx_G) (n : Nat) (F : Nat → va_E) (av : List Value) : FrameBlind (va_Pc av (sx_P G n F)) := by
  intro a U g mk q
  obtain ⟨q0, q1, q2, q3, q4⟩ := q
  exact ⟨q0, q1, q2, va_K.moved (u := U) (U := U.calling g mk a) (Vm.Alike.refl U.vm) q3, q4.same rfl⟩
/-- a contract: an int (or boolean) comes back; nothing; a long -/
def sx_I (G : sx_G) (l : Launch) (y : MethodName) (ws : List Cond) (rm : Room) (av : List Value) (n : Nat) (F : Nat → va_E) (n' : Nat) (post : Int32 → (Nat → va_E) → Prop) : Prop := Met l y ws rm (va_Pc av (sx_P G n F)) (va_Qi post (sx_P G n') (sx_A G)) rm.cells rm.slots (sx_A G)
def sx_V (G : sx_G) (l : Launch) (y : MethodName) (ws : List Cond) (rm : Room) (av : List Value) (n : Nat) (F : Nat → va_E) (n' : Nat) (post : (Nat → va_E) → Prop) : Prop := Met l y ws rm (va_Pc av (sx_P G n F)) (va_Qv post (sx_P G n') (sx_A G)) rm.cells rm.slots (sx_A G)
def sx_J (G : sx_G) (l : Launch) (y : MethodName) (ws : List Cond) (rm : Room) (av : List Value) (n : Nat) (F : Nat → va_E) (n' : Nat) (post : Int64 → (Nat → va_E) → Prop) : Prop := Met l y ws rm (va_Pc av (sx_P G n F)) (va_Ql post (sx_P G n') (sx_A G)) rm.cells rm.slots (sx_A G)
/-- what a method's walk stands on -/
def sx_X (G : sx_G) (p : Program) (m : MethodId) (c : Code) (cc : ByteArray) (nL : Nat) (s : State) (args : Array Value) (Ts : List Cond) (own : String) (meth : Method) (ret : Option FieldType) (nm : String) : Prop := CallFix p m c cc nL s args Ts own ∧ meth.sig.returnType = ret ∧ meth.locks = false ∧ meth.name = nm ∧ sx_C G s
theorem sx_enter {l : Launch} {G : sx_G} {y : MethodName} {ws ws' : List Cond} {rm : Room} {av : List Value} {n : Nat} {F : Nat → va_E} {cc : ByteArray} {maxL : Nat} {ret : Option FieldType} {own nm : String} {Qc : Array Value → State → Outcome → State → Prop} {mc ms : Nat} {free : Addr → Prop}
    (hy : plainName y.cls = true) (hw : ws = Cond.code y cc maxL ret :: ws') (ho : y.cls = own) (hn : y.name = nm) (hm : (lg_sl av).length ≤ maxL)
    (body : ∀ (p : Program) (e : Env) (s : State) (m : MethodId) (args : Array Value) (below : List Frame) (meth : Method) (c : Code) (ls : Array Slot) (Q : State → Prop), Q = MQ below Qc args s mc ms free → sx_X G p m c cc maxL s args ws own meth ret nm → s.heap.size = sx_b G + n → sx_H G n F s.heap s.heap [] → lv_has ls maxL (lv_args 0 av) → W p l e rm s m args below meth c s.heap [] 0 0 Q (F0 m 0 ls [])) :
    Met l y ws rm (va_Pc av (sx_P G n F)) Qc mc ms free := by
  refine Met.ofW (cc := cc) (maxL := maxL) (ret := ret) hy hw ?_
  intro p e s m args below meth c s₁ B hml hv
  obtain ⟨rfl, hsz, hP, hC⟩ := hv
  have hown : s.vm.findClass y.cls = some m.cls := findClass_of_methodNamed B.named
  rw [lg_entry_eq]
  refine body p e s m _ below meth c _ _ rfl ⟨⟨B.exec, B.bytes, hml, by rw [← ho]; exact hown, atoms_spec (ws := ws) B.pre⟩, B.returns, B.notSynchronized, by rw [← hn]; exact (name_of_methodNamed B.named B.method).1, hC⟩ hsz ⟨hP, va_S.rf⟩ (lv_entry av hm)
section SX
variable {G : sx_G} {p : Program} {l : Launch} {e : Env} {R : Room} {s : State} {m : MethodId} {args : Array Value} {below : List Frame} {meth : Method} {c : Code} {H : Heap} {locs : List Loc} {cells slots : Nat} {Q : State → Prop} {cc : ByteArray} {nL : Nat} {Ts : List Cond} {own nm : String} {ret : Option FieldType} {pc : Nat} {ls : Array Slot} {rest : List Value} {n : Nat} {F : Nat → va_E}
/-- the heap's size, by the room that is used up -/
theorem sx_size {T : State} {n0 : Nat} (X : Stand p l e R s m args below meth c T locs cells slots) (hT : T.heap = H) (hs : s.heap.size = sx_b G + n0) (hn : n = n0 + cells) (hP : sx_H G n F s.heap H locs) : H.size = sx_b G + n := by
  have h1 : T.heap.size ≤ s.heap.size + cells := X.same.2.2.1
  rw [hT] at h1
  have h2 := hP.2.1
  by_cases hz : n = 0
  · omega
  · have h3 := (hP.1 (n - 1) _ (sx_L_get G F (by omega))).lt
    have h4 : sx_b G + (n - 1) < H.size := h3
    omega
theorem sx_iret {v : Int32} {n0 : Nat} {post : Int32 → (Nat → va_E) → Prop} (X : sx_X G p m c cc nL s args Ts own meth ret nm) (hr : ret = some .int) (hs : s.heap.size = sx_b G + n0) (hn : n = n0 + cells) (hP : sx_H G n F s.heap H locs) (hd : decode cc pc = .ok (.ireturn, 1)) (hp : post v F) : W p l e R s m args below meth c H locs (cells) (slots) (MQ below (va_Qi post (sx_P G n) (sx_A G)) args s cells slots (sx_A G)) (F0 m (pc) ls ([.int v])) := by
  obtain ⟨⟨hx, hb, -, -, -⟩, hrt, hlk, -, hC⟩ := X
  intro T hT X0
  have hz := sx_size X0 hT hs hn hP
  exact W.iret (v := v) hx hb (by rw [hrt, hr]) (fun t ht hW => ⟨⟨v, F, rfl, hp, by rw [ht]; exact hz, by rw [ht]; exact hP.1, hC.warm hW⟩, hP.2.F ht⟩) hP.2.2.2 hd hlk T hT X0
theorem sx_vret {n0 : Nat} {post : (Nat → va_E) → Prop} (X : sx_X G p m c cc nL s args Ts own meth ret nm) (hr : ret = none) (hs : s.heap.size = sx_b G + n0) (hn : n = n0 + cells) (hP : sx_H G n F s.heap H locs) (hd : decode cc pc = .ok (.return_, 1)) (hp : post F) : W p l e R s m args below meth c H locs (cells) (slots) (MQ below (va_Qv post (sx_P G n) (sx_A G)) args s cells slots (sx_A G)) (F0 m (pc) ls ([])) := by
  obtain ⟨⟨hx, hb, -, -, -⟩, hrt, hlk, -, hC⟩ := X
  intro T hT X0
  have hz := sx_size X0 hT hs hn hP
  exact W.vret hx hb (by rw [hrt, hr]) (fun t ht hW => ⟨⟨F, rfl, hp, by rw [ht]; exact hz, by rw [ht]; exact hP.1, hC.warm hW⟩, hP.2.F ht⟩) hP.2.2.2 hd hlk T hT X0
theorem sx_lret {v : Int64} {n0 : Nat} {post : Int64 → (Nat → va_E) → Prop} (X : sx_X G p m c cc nL s args Ts own meth ret nm) (hr : ret = some .long) (hs : s.heap.size = sx_b G + n0) (hn : n = n0 + cells) (hP : sx_H G n F s.heap H locs) (hd : decode cc pc = .ok (.lreturn, 1)) (hp : post v F) : W p l e R s m args below meth c H locs (cells) (slots) (MQ below (va_Ql post (sx_P G n) (sx_A G)) args s cells slots (sx_A G)) (F0 m (pc) ls ([.long v])) := by
  obtain ⟨⟨hx, hb, -, -, -⟩, hrt, hlk, -, hC⟩ := X
  intro T hT X0
  have hz := sx_size X0 hT hs hn hP
  exact W.lret (v := v) hx hb (by rw [hrt, hr]) (fun t ht hW => ⟨⟨v, F, rfl, hp, by rw [ht]; exact hz, by rw [ht]; exact hP.1, hC.warm hW⟩, hP.2.F ht⟩) hP.2.2.2 hd hlk T hT X0
theorem sx_zret {v : Int32} {n0 : Nat} {post : Int32 → (Nat → va_E) → Prop} (X : sx_X G p m c cc nL s args Ts own meth ret nm) (hr : ret = some .boolean) (hnr : narrow .boolean (.int v) = .int v) (hs : s.heap.size = sx_b G + n0) (hn : n = n0 + cells) (hP : sx_H G n F s.heap H locs) (hd : decode cc pc = .ok (.ireturn, 1)) (hp : post v F) : W p l e R s m args below meth c H locs (cells) (slots) (MQ below (va_Qi post (sx_P G n) (sx_A G)) args s cells slots (sx_A G)) (F0 m (pc) ls ([.int v])) := by
  obtain ⟨⟨hx, hb, -, -, -⟩, hrt, hlk, -, hC⟩ := X
  intro T hT X0
  have hz := sx_size X0 hT hs hn hP
  exact W.zret (v := v) hx hb (by rw [hrt, hr]) hnr (fun t ht hW => ⟨⟨v, F, rfl, hp, by rw [ht]; exact hz, by rw [ht]; exact hP.1, hC.warm hW⟩, hP.2.F ht⟩) hP.2.2.2 hd hlk T hT X0
theorem sx_get (X : sx_X G p m c cc nL s args Ts own meth ret nm) (hP : sx_H G n F s.heap H locs) {C : String} {T : u_T} {N ci index : Nat} (hin : ∀ w ∈ u_ws C T N, w ∈ Ts) {i : Nat} {fs : List Value} (hF : F i = ob ci fs) (hi : i < n) (hc : vwCl[ci]? = some (C, T, N)) (k : Nat) (hk : k < N) (hlink : Cond.fieldLink own index (T k).1 (T k).2.1 (T k).2.2.1 ∈ Ts) {v : Value} (hv : fs[k]? = some v) (hd : decode cc pc = .ok (.getfield index, 3))
    (kk : W p l e R s m args below meth c H locs (cells) (slots) Q (F0 m (pc + 3) ls (v :: rest))) : W p l e R s m args below meth c H locs (cells) (slots) Q (F0 m (pc) ls (rf G i :: rest)) := by
  obtain ⟨⟨hx, hb, -, hown, hts⟩, -, -, -, hC⟩ := X
  exact va_get (D := G.1) hx hb hts hin hown hC.1 hP.1 i (by rw [sx_L_get G F hi, hF]) hc k hk (hts _ hlink) (fun _ h9 => h9) hv hd kk
theorem sx_put (X : sx_X G p m c cc nL s args Ts own meth ret nm) (hP : sx_H G n F s.heap H locs) {C : String} {T : u_T} {N ci index : Nat} (hin : ∀ w ∈ u_ws C T N, w ∈ Ts) (ty0 : Nat → FieldType) (hty : ∀ k, k < N → parseFieldDescriptor (T k).2.2.1 = some (ty0 k)) (hnm : ∀ a, a < N → ∀ b, b < N → a ≠ b → (T a).2.1 ≠ (T b).2.1) {i : Nat} {fs : List Value} (hF : F i = ob ci fs) (hi : i < n) (hc : vwCl[ci]? = some (C, T, N)) (k : Nat) (hk : k < N) (hlink : Cond.fieldLink own index (T k).1 (T k).2.1 (T k).2.2.1 ∈ Ts) (hfin : (T k).2.2.2 = false) {v : Value} (hnr : narrow (ty0 k) v = v) (hfit : fits (ty0 k) v = true) (hl : k < fs.length) (hd : decode cc pc = .ok (.putfield index, 3))
    (kk : ∀ (F1 : Nat → va_E) (H1 : Heap) (locs1 : List Loc), F1 i = ob ci (fs.set k v) → (∀ j, j ≠ i → F1 j = F j) → sx_H G n F1 s.heap H1 locs1 → W p l e R s m args below meth c H1 locs1 (cells) (slots) Q (F0 m (pc + 3) ls (rest))) : W p l e R s m args below meth c H locs (cells) (slots) Q (F0 m (pc) ls (v :: rf G i :: rest)) := by
  obtain ⟨⟨hx, hb, -, hown, hts⟩, -, -, -, hC⟩ := X
  refine va_put (D := G.1) hx hb hts hin ty0 hty hnm hown hC.1 hP.1 (sx_LD G n F) hP.2 i (by rw [sx_L_get G F hi, hF]) hc k hk (hts _ hlink) (fun _ h9 => h9) hfin (hty k hk) hnr hfit hl hd (fun H1 locs1 h1 _ h3 => ?_)
  rw [sx_L_set] at h1
  exact kk _ H1 locs1 (va_up_self _ _ _) (fun j hj => va_up_ne _ _ hj) ⟨h1, h3⟩
theorem sx_putF (X : sx_X G p m c cc nL s args Ts own meth ret nm) (hP : sx_H G n F s.heap H locs) {C : String} {T : u_T} {N ci index : Nat} (hin : ∀ w ∈ u_ws C T N, w ∈ Ts) (ty0 : Nat → FieldType) (hty : ∀ k, k < N → parseFieldDescriptor (T k).2.2.1 = some (ty0 k)) (hnm : ∀ a, a < N → ∀ b, b < N → a ≠ b → (T a).2.1 ≠ (T b).2.1) {i : Nat} {fs : List Value} (hF : F i = ob ci fs) (hi : i < n) (hc : vwCl[ci]? = some (C, T, N)) (k : Nat) (hk : k < N) (hlink : Cond.fieldLink own index (T k).1 (T k).2.1 (T k).2.2.1 ∈ Ts) (hfin : (T k).2.2.2 = true) (hin2 : nm = "<init>") (hdecl : (T k).1 = own) {v : Value} (hnr : narrow (ty0 k) v = v) (hfit : fits (ty0 k) v = true) (hl : k < fs.length) (hd : decode cc pc = .ok (.putfield index, 3))
    (kk : ∀ (F1 : Nat → va_E) (H1 : Heap) (locs1 : List Loc), F1 i = ob ci (fs.set k v) → (∀ j, j ≠ i → F1 j = F j) → sx_H G n F1 s.heap H1 locs1 → W p l e R s m args below meth c H1 locs1 (cells) (slots) Q (F0 m (pc + 3) ls (rest))) : W p l e R s m args below meth c H locs (cells) (slots) Q (F0 m (pc) ls (v :: rf G i :: rest)) := by
  obtain ⟨⟨hx, hb, -, hown, hts⟩, -, -, hnm2, hC⟩ := X
  refine va_putF (D := G.1) hx hb hts hin ty0 hty hnm hown hC.1 hP.1 (sx_LD G n F) hP.2 i (by rw [sx_L_get G F hi, hF]) hc k hk (hts _ hlink) (fun _ h9 => h9) hfin (hnm2.trans hin2) hdecl (hty k hk) hnr hfit hl hd (fun H1 locs1 h1 _ h3 => ?_)
  rw [sx_L_set] at h1
  exact kk _ H1 locs1 (va_up_self _ _ _) (fun j hj => va_up_ne _ _ hj) ⟨h1, h3⟩
theorem sx_ald (X : sx_X G p m c cc nL s args Ts own meth ret nm) (hP : sx_H G n F s.heap H locs) {i len : Nat} {f : Nat → Int32} (hF : F i = rI G len f) (hi : i < n) (j : Nat) (hj : j < len) (hlen : len < 2 ^ 31) (hd : decode cc pc = .ok (.iaload, 1))
    (kk : W p l e R s m args below meth c H locs (cells) (slots) Q (F0 m (pc + 1) ls (.int (f j) :: rest))) : W p l e R s m args below meth c H locs (cells) (slots) Q (F0 m (pc) ls (.int (nI j) :: rf G i :: rest)) := by
  obtain ⟨⟨hx, hb, -, hown, hts⟩, -, -, -, hC⟩ := X
  exact va_iald (D := G.1) hx hb hC.1 hP.1 i 0 (by rw [sx_L_get G F hi, hF]) rfl (vp_in_nI hj hlen) hd (by rw [nI_clamp (Nat.lt_trans hj hlen)]; exact kk)
theorem sx_ast (X : sx_X G p m c cc nL s args Ts own meth ret nm) (hP : sx_H G n F s.heap H locs) {i len : Nat} {f : Nat → Int32} (hF : F i = rI G len f) (hi : i < n) (j : Nat) (hj : j < len) (hlen : len < 2 ^ 31) {x : Int32} (hd : decode cc pc = .ok (.iastore, 1))
    (kk : ∀ (F1 : Nat → va_E) (H1 : Heap) (locs1 : List Loc), F1 i = rI G len (upd f j x) → (∀ j, j ≠ i → F1 j = F j) → sx_H G n F1 s.heap H1 locs1 → W p l e R s m args below meth c H1 locs1 (cells) (slots) Q (F0 m (pc + 1) ls (rest))) : W p l e R s m args below meth c H locs (cells) (slots) Q (F0 m (pc) ls (.int x :: .int (nI j) :: rf G i :: rest)) := by
  obtain ⟨⟨hx, hb, -, hown, hts⟩, -, -, -, hC⟩ := X
  refine va_iast (D := G.1) hx hb hC.1 hP.1 (sx_LD G n F) hP.2 i 0 (by rw [sx_L_get G F hi, hF]) rfl (vp_in_nI hj hlen) hd (fun H1 locs1 h1 _ h3 => ?_)
  rw [sx_L_set, nI_clamp (Nat.lt_trans hj hlen)] at h1
  exact kk _ H1 locs1 (va_up_self _ _ _) (fun j hj => va_up_ne _ _ hj) ⟨h1, h3⟩
theorem sx_zald (X : sx_X G p m c cc nL s args Ts own meth ret nm) (hP : sx_H G n F s.heap H locs) {i len : Nat} {f : Nat → Int32} (hF : F i = rZ G len f) (hi : i < n) (j : Nat) (hj : j < len) (hlen : len < 2 ^ 31) (hd : decode cc pc = .ok (.baload, 1))
    (kk : W p l e R s m args below meth c H locs (cells) (slots) Q (F0 m (pc + 1) ls (.int (f j) :: rest))) : W p l e R s m args below meth c H locs (cells) (slots) Q (F0 m (pc) ls (.int (nI j) :: rf G i :: rest)) := by
  obtain ⟨⟨hx, hb, -, hown, hts⟩, -, -, -, hC⟩ := X
  exact va_zald (D := G.1) hx hb hC.1 hP.1 i 1 (by rw [sx_L_get G F hi, hF]) rfl (vp_in_nI hj hlen) hd (by rw [nI_clamp (Nat.lt_trans hj hlen)]; exact kk)
theorem sx_zast (X : sx_X G p m c cc nL s args Ts own meth ret nm) (hP : sx_H G n F s.heap H locs) {i len : Nat} {f : Nat → Int32} (hF : F i = rZ G len f) (hi : i < n) (j : Nat) (hj : j < len) (hlen : len < 2 ^ 31) {x : Int32} (hnx : vp_nar .boolean x = x) (hd : decode cc pc = .ok (.bastore, 1))
    (kk : ∀ (F1 : Nat → va_E) (H1 : Heap) (locs1 : List Loc), F1 i = rZ G len (upd f j x) → (∀ j, j ≠ i → F1 j = F j) → sx_H G n F1 s.heap H1 locs1 → W p l e R s m args below meth c H1 locs1 (cells) (slots) Q (F0 m (pc + 1) ls (rest))) : W p l e R s m args below meth c H locs (cells) (slots) Q (F0 m (pc) ls (.int x :: .int (nI j) :: rf G i :: rest)) := by
  obtain ⟨⟨hx, hb, -, hown, hts⟩, -, -, -, hC⟩ := X
  refine va_zast (D := G.1) hx hb hC.1 hP.1 (sx_LD G n F) hP.2 i 1 (by rw [sx_L_get G F hi, hF]) rfl (vp_in_nI hj hlen) hd (fun H1 locs1 h1 _ h3 => ?_)
  rw [sx_L_set, nI_clamp (Nat.lt_trans hj hlen), hnx] at h1
  exact kk _ H1 locs1 (va_up_self _ _ _) (fun j hj => va_up_ne _ _ hj) ⟨h1, h3⟩
theorem sx_kald (X : sx_X G p m c cc nL s args Ts own meth ret nm) (hP : sx_H G n F s.heap H locs) {i len : Nat} {f : Nat → Option Nat} (hF : F i = rK G len f) (hi : i < n) (j : Nat) (hj : j < len) (hlen : len < 2 ^ 31) {q : Nat} (hq : f j = some (sx_b G + q)) (hd : decode cc pc = .ok (.aaload, 1))
    (kk : W p l e R s m args below meth c H locs (cells) (slots) Q (F0 m (pc + 1) ls (rf G q :: rest))) : W p l e R s m args below meth c H locs (cells) (slots) Q (F0 m (pc) ls (.int (nI j) :: rf G i :: rest)) := by
  obtain ⟨⟨hx, hb, -, hown, hts⟩, -, -, -, hC⟩ := X
  exact va_aldq (D := G.1) hx hb hC.1 hP.1 i 2 (by rw [sx_L_get G F hi, hF]) rfl (vp_in_nI hj hlen) hd (by rw [nI_clamp (Nat.lt_trans hj hlen), hq]; exact kk)
theorem sx_oald (X : sx_X G p m c cc nL s args Ts own meth ret nm) (hP : sx_H G n F s.heap H locs) {i len : Nat} {f : Nat → Option Nat} (hF : F i = rO G len f) (hi : i < n) (j : Nat) (hj : j < len) (hlen : len < 2 ^ 31) {q : Nat} (hq : f j = some (sx_b G + q)) (hd : decode cc pc = .ok (.aaload, 1))
    (kk : W p l e R s m args below meth c H locs (cells) (slots) Q (F0 m (pc + 1) ls (rf G q :: rest))) : W p l e R s m args below meth c H locs (cells) (slots) Q (F0 m (pc) ls (.int (nI j) :: rf G i :: rest)) := by
  obtain ⟨⟨hx, hb, -, hown, hts⟩, -, -, -, hC⟩ := X
  exact va_aldq (D := G.1) hx hb hC.1 hP.1 i 3 (by rw [sx_L_get G F hi, hF]) rfl (vp_in_nI hj hlen) hd (by rw [nI_clamp (Nat.lt_trans hj hlen), hq]; exact kk)
theorem sx_alen (X : sx_X G p m c cc nL s args Ts own meth ret nm) (hP : sx_H G n F s.heap H locs) {i len : Nat} {f : Nat → Int32} (hF : F i = rI G len f) (hi : i < n) (hd : decode cc pc = .ok (.arraylength, 1))
    (kk : W p l e R s m args below meth c H locs (cells) (slots) Q (F0 m (pc + 1) ls (.int (nI len) :: rest))) : W p l e R s m args below meth c H locs (cells) (slots) Q (F0 m (pc) ls (rf G i :: rest)) := by
  obtain ⟨⟨hx, hb, -, hown, hts⟩, -, -, -, hC⟩ := X
  exact va_alen (D := G.1) hx hb hC.1 hP.1 i 0 (x := (len, .inl f)) (by rw [sx_L_get G F hi, hF]) (ty := .int) rfl rfl hd kk
theorem sx_kast (X : sx_X G p m c cc nL s args Ts own meth ret nm) (hP : sx_H G n F s.heap H locs) {i len : Nat} {f : Nat → Option Nat} (hF : F i = rK G len f) (hi : i < n) (j : Nat) (hj : j < len) (hlen : len < 2 ^ 31) {q : Nat} {vs : List Value} (hq : F q = ob 2 vs) (hqn : q < n) (hd : decode cc pc = .ok (.aastore, 1))
    (kk : ∀ (F1 : Nat → va_E) (H1 : Heap) (locs1 : List Loc), F1 i = rK G len (va_up f j (some (sx_b G + q))) → (∀ j, j ≠ i → F1 j = F j) → sx_H G n F1 s.heap H1 locs1 → W p l e R s m args below meth c H1 locs1 (cells) (slots) Q (F0 m (pc + 1) ls (rest))) : W p l e R s m args below meth c H locs (cells) (slots) Q (F0 m (pc) ls (rf G q :: .int (nI j) :: rf G i :: rest)) := by
  obtain ⟨⟨hx, hb, -, hown, hts⟩, -, -, -, hC⟩ := X
  refine va_astq (D := G.1) hx hb hC.1 hP.1 (sx_LD G n F) hP.2 i 2 q 2 (r := (RX2, TX2, 10)) (by rw [sx_L_get G F hi, hF]) rfl (by rw [sx_L_get G F hqn, hq]) rfl (vp_in_nI hj hlen) hd (fun H1 locs1 h1 _ h3 => ?_)
  rw [sx_L_set, nI_clamp (Nat.lt_trans hj hlen)] at h1
  exact kk _ H1 locs1 (va_up_self _ _ _) (fun j hj => va_up_ne _ _ hj) ⟨h1, h3⟩
theorem sx_oast (X : sx_X G p m c cc nL s args Ts own meth ret nm) (hP : sx_H G n F s.heap H locs) {i len : Nat} {f : Nat → Option Nat} (hF : F i = rO G len f) (hi : i < n) (j : Nat) (hj : j < len) (hlen : len < 2 ^ 31) {q : Nat} {vs : List Value} (hq : F q = ob 5 vs) (hqn : q < n) (hd : decode cc pc = .ok (.aastore, 1))
    (kk : ∀ (F1 : Nat → va_E) (H1 : Heap) (locs1 : List Loc), F1 i = rO G len (va_up f j (some (sx_b G + q))) → (∀ j, j ≠ i → F1 j = F j) → sx_H G n F1 s.heap H1 locs1 → W p l e R s m args below meth c H1 locs1 (cells) (slots) Q (F0 m (pc + 1) ls (rest))) : W p l e R s m args below meth c H locs (cells) (slots) Q (F0 m (pc) ls (rf G q :: .int (nI j) :: rf G i :: rest)) := by
  obtain ⟨⟨hx, hb, -, hown, hts⟩, -, -, -, hC⟩ := X
  refine va_astq (D := G.1) hx hb hC.1 hP.1 (sx_LD G n F) hP.2 i 3 q 5 (r := (RX5, TX5, 7)) (by rw [sx_L_get G F hi, hF]) rfl (by rw [sx_L_get G F hqn, hq]) rfl (vp_in_nI hj hlen) hd (fun H1 locs1 h1 _ h3 => ?_)
  rw [sx_L_set, nI_clamp (Nat.lt_trans hj hlen)] at h1
  exact kk _ H1 locs1 (va_up_self _ _ _) (fun j hj => va_up_ne _ _ hj) ⟨h1, h3⟩
theorem sx_copy (X : sx_X G p m c cc nL s args Ts own meth ret nm) (hP : sx_H G n F s.heap H locs) (hls : ls.size = nL) {index : Nat} (hlink : Cond.methodLink own index arraycopyName ∈ Ts) (hnat : Cond.native arraycopyName ∈ Ts) (hstat : Cond.static arraycopyName ∈ Ts) (hini : Cond.initialized "java/lang/System" ∈ Ts) {i i0 len len0 : Nat} {f g : Nat → Int32} (hF0 : F i0 = rI G len0 f) (hF : F i = rI G len g) (hi0 : i0 < n) (hi : i < n) (sp dp k : Nat) (h4 : sp + k ≤ len0) (h5 : dp + k ≤ len) (hl0 : len0 < 2 ^ 31) (hl1 : len < 2 ^ 31) (hfr : 1 ≤ R.frames) (hlo : (rest.map fun v => v.category).sum + (nativeFrameWords "java/lang/System" "arraycopy" 5 + 11) ≤ R.locals) (hd : decode cc pc = .ok (.invokestatic index, 3))
    (kk : ∀ (F1 : Nat → va_E) (H1 : Heap) (locs1 : List Loc), F1 i = rI G len (va_cpy f g sp dp k) → (∀ j, j ≠ i → F1 j = F j) → sx_H G n F1 s.heap H1 locs1 → W p l e R s m args below meth c H1 locs1 (cells) (slots) Q (F0 m (pc + 3) ls (rest))) : W p l e R s m args below meth c H locs (cells) (slots) Q (F0 m (pc) ls (.int (nI k) :: .int (nI dp) :: rf G i :: .int (nI sp) :: rf G i0 :: rest)) := by
  obtain ⟨⟨hx, hb, hml, hown, hts⟩, -, -, -, hC⟩ := X
  have e1 : (nI sp).toNatClampNeg = sp := nI_clamp (by omega)
  have e2 : (nI dp).toNatClampNeg = dp := nI_clamp (by omega)
  have e3 : (nI k).toNatClampNeg = k := nI_clamp (by omega)
  refine va_copyi (D := G.1) hx hb (hml.trans hls.symm) hown (hts _ hlink) (hts _ hnat) (hts _ hstat) (hts _ hini) hC.1 hP.1 (sx_LD G n F) hP.2 i0 i 0 0 (by rw [sx_L_get G F hi0, hF0]) (by rw [sx_L_get G F hi, hF]) rfl rfl rfl (nI_pos (by omega)) (nI_pos (by omega)) (nI_pos (by omega)) (by rw [e1, e3]; exact h4) (by rw [e2, e3]; exact h5) (fun _ _ => rfl) hfr hlo hd (fun H1 locs1 h1 _ h3 => ?_)
  rw [sx_L_set, e1, e2, e3] at h1
  exact kk _ H1 locs1 (va_up_self _ _ _) (fun j hj => va_up_ne _ _ hj) ⟨h1, h3⟩
theorem sx_max (X : sx_X G p m c cc nL s args Ts own meth ret nm) (hls : ls.size = nL) {index : Nat} (hlink : Cond.methodLink own index Lib.Math.max.name ∈ Ts) (hstat : Cond.static Lib.Math.max.name ∈ Ts) (hini : Cond.initialized "java/lang/Math" ∈ Ts) (hcode : Cond.code Lib.Math.max.name Lib.Math.max.code 2 (some .int) ∈ Ts) (hfr : 1 ≤ R.frames) (hlo : (rest.map fun v => v.category).sum + 13 ≤ R.locals) (hc : cells ≤ R.cells) (hs : slots ≤ R.slots) {x y : Int32} (hd : decode cc pc = .ok (.invokestatic index, 3))
    (kk : W p l e R s m args below meth c H locs (cells) (slots) Q (F0 m (pc + 3) ls (.int (if x < y then y else x) :: rest))) : W p l e R s m args below meth c H locs (cells) (slots) Q (F0 m (pc) ls (.int y :: .int x :: rest)) := by
  obtain ⟨⟨hx, hb, hml, hown, hts⟩, -, -, -, hC⟩ := X
  exact va_mmax hx hb (hml.trans hls.symm) hown (hts _ hlink) (hts _ hstat) (hts _ hini) (hts _ hcode) hfr hlo hc hs hd kk
theorem sx_min (X : sx_X G p m c cc nL s args Ts own meth ret nm) (hls : ls.size = nL) {index : Nat} (hlink : Cond.methodLink own index Lib.Math.min.name ∈ Ts) (hstat : Cond.static Lib.Math.min.name ∈ Ts) (hini : Cond.initialized "java/lang/Math" ∈ Ts) (hcode : Cond.code Lib.Math.min.name Lib.Math.min.code 2 (some .int) ∈ Ts) (hfr : 1 ≤ R.frames) (hlo : (rest.map fun v => v.category).sum + 13 ≤ R.locals) (hc : cells ≤ R.cells) (hs : slots ≤ R.slots) {x y : Int32} (hd : decode cc pc = .ok (.invokestatic index, 3))
    (kk : W p l e R s m args below meth c H locs (cells) (slots) Q (F0 m (pc + 3) ls (.int (if y < x then y else x) :: rest))) : W p l e R s m args below meth c H locs (cells) (slots) Q (F0 m (pc) ls (.int y :: .int x :: rest)) := by
  obtain ⟨⟨hx, hb, hml, hown, hts⟩, -, -, -, hC⟩ := X
  exact va_mmin hx hb (hml.trans hls.symm) hown (hts _ hlink) (hts _ hstat) (hts _ hini) (hts _ hcode) hfr hlo hc hs hd kk
theorem sx_cvI {y : MethodName} {ws ws' : List Cond} {rm : Room} {As : List Value} {n' : Nat} {bytes : ByteArray} {maxL index n0 : Nat} {ret' : Option FieldType} {st0 : List Value} {post : Int32 → (Nat → va_E) → Prop} {C : String} {i ci : Nat} {fs : List Value} {q : vw_C} (X : sx_X G p m c cc nL s args Ts own meth ret nm) (hM : sx_I G l y ws rm (rf G i :: As) n F n' post) (hG : GoodIn Ts (wsV own index C y ws)) (hw : ws = Cond.code y bytes maxL ret' :: ws') (hd : y.cls = C ∧ y.cls ≠ "java/lang/invoke/MethodHandle" ∧ y.cls ≠ "java/lang/invoke/VarHandle" ∧ (parseMethodDescriptor y.desc).map (fun d => d.parameters.length) = some As.length) (hR : rm.frames + 1 ≤ R.frames ∧ 8 + (maxL + 11) + rm.locals ≤ R.locals) (hF : F i = ob ci fs) (hi : i < n) (hc : vwCl[ci]? = some q) (hq : q.1 = C) (hls : ls.size = nL) (hst : st0 = As.reverse ++ rf G i :: rest) (hroom : (rest.map fun v => v.category).sum ≤ 8) (hdg : decode cc pc = .ok (.invokevirtual index, 3)) (hcs : cells + rm.cells ≤ R.cells ∧ slots + rm.slots ≤ R.slots) (hs : s.heap.size = sx_b G + n0) (hn : n = n0 + cells) (hP : sx_H G n F s.heap H locs)
    (kk : ∀ (r : Int32) (F1 : Nat → va_E) (H1 : Heap) (locs1 : List Loc), post r F1 → sx_H G n' F1 s.heap H1 locs1 → W p l e R s m args below meth c H1 locs1 (cells + rm.cells) (slots + rm.slots) Q (F0 m (pc + 3) ls (.int r :: rest))) : W p l e R s m args below meth c H locs (cells) (slots) Q (F0 m (pc) ls (st0)) := by
  subst hst
  subst hq
  obtain ⟨Sf, -, -, -, hC⟩ := X
  obtain ⟨hx, hb, hml, hown, hts⟩ := id Sf
  intro T hT X0
  have hz := sx_size X0 hT hs hn hP
  refine va_calli (A0 := sx_A G) (H0 := s.heap) (va_runV (As := As) (rest := rest) Sf hM (cwV As.length hts hG hw rfl rfl hd hR) ⟨sx_blind G n F _, va_recv hC.1 hP.1 (q0 := i) hc (by rw [sx_L_get G F hi, hF]), fun U hU hW => ⟨rfl, by rw [hU]; exact hz, by rw [hU]; exact hP.1, hC.warm hW⟩⟩ rfl rfl hls rfl (lv_room hroom) hdg hcs) hP.2 (fun _ _ h => h) (fun _ h => h) (fun r F1 t H1 locs1 ht hvm hp hB hz1 hk1 hS1 => ?_) T hT X0
  exact kk r F1 H1 locs1 hp ⟨by rw [← ht]; exact hB.2.1, hS1⟩
theorem sx_cvV {y : MethodName} {ws ws' : List Cond} {rm : Room} {As : List Value} {n' : Nat} {bytes : ByteArray} {maxL index n0 : Nat} {ret' : Option FieldType} {st0 : List Value} {post : (Nat → va_E) → Prop} {C : String} {i ci : Nat} {fs : List Value} {q : vw_C} (X : sx_X G p m c cc nL s args Ts own meth ret nm) (hM : sx_V G l y ws rm (rf G i :: As) n F n' post) (hG : GoodIn Ts (wsV own index C y ws)) (hw : ws = Cond.code y bytes maxL ret' :: ws') (hd : y.cls = C ∧ y.cls ≠ "java/lang/invoke/MethodHandle" ∧ y.cls ≠ "java/lang/invoke/VarHandle" ∧ (parseMethodDescriptor y.desc).map (fun d => d.parameters.length) = some As.length) (hR : rm.frames + 1 ≤ R.frames ∧ 8 + (maxL + 11) + rm.locals ≤ R.locals) (hF : F i = ob ci fs) (hi : i < n) (hc : vwCl[ci]? = some q) (hq : q.1 = C) (hls : ls.size = nL) (hst : st0 = As.reverse ++ rf G i :: rest) (hroom : (rest.map fun v => v.category).sum ≤ 8) (hdg : decode cc pc = .ok (.invokevirtual index, 3)) (hcs : cells + rm.cells ≤ R.cells ∧ slots + rm.slots ≤ R.slots) (hs : s.heap.size = sx_b G + n0) (hn : n = n0 + cells) (hP : sx_H G n F s.heap H locs)
    (kk : ∀ (F1 : Nat → va_E) (H1 : Heap) (locs1 : List Loc), post F1 → sx_H G n' F1 s.heap H1 locs1 → W p l e R s m args below meth c H1 locs1 (cells + rm.cells) (slots + rm.slots) Q (F0 m (pc + 3) ls (rest))) : W p l e R s m args below meth c H locs (cells) (slots) Q (F0 m (pc) ls (st0)) := by
  subst hst
  subst hq
  obtain ⟨Sf, -, -, -, hC⟩ := X
  obtain ⟨hx, hb, hml, hown, hts⟩ := id Sf
  intro T hT X0
  have hz := sx_size X0 hT hs hn hP
  refine va_callv (A0 := sx_A G) (H0 := s.heap) (va_runV (As := As) (rest := rest) Sf hM (cwV As.length hts hG hw rfl rfl hd hR) ⟨sx_blind G n F _, va_recv hC.1 hP.1 (q0 := i) hc (by rw [sx_L_get G F hi, hF]), fun U hU hW => ⟨rfl, by rw [hU]; exact hz, by rw [hU]; exact hP.1, hC.warm hW⟩⟩ rfl rfl hls rfl (lv_room hroom) hdg hcs) hP.2 (fun _ _ h => h) (fun _ h => h) (fun F1 t H1 locs1 ht hvm hp hB hz1 hk1 hS1 => ?_) T hT X0
  exact kk F1 H1 locs1 hp ⟨by rw [← ht]; exact hB.2.1, hS1⟩
theorem sx_csI {y : MethodName} {ws ws' : List Cond} {rm : Room} {As : List Value} {n' : Nat} {bytes : ByteArray} {maxL index n0 : Nat} {ret' : Option FieldType} {st0 : List Value} {post : Int32 → (Nat → va_E) → Prop} (X : sx_X G p m c cc nL s args Ts own meth ret nm) (hM : sx_I G l y ws rm As n F n' post) (hG : GoodIn Ts (va_wsS own index y ws)) (hw : ws = Cond.code y bytes maxL ret' :: ws') (hd : y.cls ≠ "java/lang/invoke/MethodHandle" ∧ y.cls ≠ "java/lang/invoke/VarHandle" ∧ (parseMethodDescriptor y.desc).map (fun d => d.parameters.length) = some As.length) (hR : rm.frames + 1 ≤ R.frames ∧ 8 + (maxL + 11) + rm.locals ≤ R.locals) (hls : ls.size = nL) (hst : st0 = As.reverse ++ rest) (hroom : (rest.map fun v => v.category).sum ≤ 8) (hdg : decode cc pc = .ok (.invokestatic index, 3)) (hcs : cells + rm.cells ≤ R.cells ∧ slots + rm.slots ≤ R.slots) (hs : s.heap.size = sx_b G + n0) (hn : n = n0 + cells) (hP : sx_H G n F s.heap H locs)
    (kk : ∀ (r : Int32) (F1 : Nat → va_E) (H1 : Heap) (locs1 : List Loc), post r F1 → sx_H G n' F1 s.heap H1 locs1 → W p l e R s m args below meth c H1 locs1 (cells + rm.cells) (slots + rm.slots) Q (F0 m (pc + 3) ls (.int r :: rest))) : W p l e R s m args below meth c H locs (cells) (slots) Q (F0 m (pc) ls (st0)) := by
  subst hst
  obtain ⟨Sf, -, -, -, hC⟩ := X
  obtain ⟨hx, hb, hml, hown, hts⟩ := id Sf
  intro T hT X0
  have hz := sx_size X0 hT hs hn hP
  refine va_calli (A0 := sx_A G) (H0 := s.heap) (va_runS (As := As) (rest := rest) Sf hM (va_cwS As.length hts hG hw rfl rfl hd hR) ⟨sx_blind G n F _, fun U hU hW => ⟨rfl, by rw [hU]; exact hz, by rw [hU]; exact hP.1, hC.warm hW⟩⟩ rfl rfl hls rfl (lv_room hroom) hdg hcs) hP.2 (fun _ _ h => h) (fun _ h => h) (fun r F1 t H1 locs1 ht hvm hp hB hz1 hk1 hS1 => ?_) T hT X0
  exact kk r F1 H1 locs1 hp ⟨by rw [← ht]; exact hB.2.1, hS1⟩
theorem sx_csV {y : MethodName} {ws ws' : List Cond} {rm : Room} {As : List Value} {n' : Nat} {bytes : ByteArray} {maxL index n0 : Nat} {ret' : Option FieldType} {st0 : List Value} {post : (Nat → va_E) → Prop} (X : sx_X G p m c cc nL s args Ts own meth ret nm) (hM : sx_V G l y ws rm As n F n' post) (hG : GoodIn Ts (va_wsS own index y ws)) (hw : ws = Cond.code y bytes maxL ret' :: ws') (hd : y.cls ≠ "java/lang/invoke/MethodHandle" ∧ y.cls ≠ "java/lang/invoke/VarHandle" ∧ (parseMethodDescriptor y.desc).map (fun d => d.parameters.length) = some As.length) (hR : rm.frames + 1 ≤ R.frames ∧ 8 + (maxL + 11) + rm.locals ≤ R.locals) (hls : ls.size = nL) (hst : st0 = As.reverse ++ rest) (hroom : (rest.map fun v => v.category).sum ≤ 8) (hdg : decode cc pc = .ok (.invokestatic index, 3)) (hcs : cells + rm.cells ≤ R.cells ∧ slots + rm.slots ≤ R.slots) (hs : s.heap.size = sx_b G + n0) (hn : n = n0 + cells) (hP : sx_H G n F s.heap H locs)
    (kk : ∀ (F1 : Nat → va_E) (H1 : Heap) (locs1 : List Loc), post F1 → sx_H G n' F1 s.heap H1 locs1 → W p l e R s m args below meth c H1 locs1 (cells + rm.cells) (slots + rm.slots) Q (F0 m (pc + 3) ls (rest))) : W p l e R s m args below meth c H locs (cells) (slots) Q (F0 m (pc) ls (st0)) := by
  subst hst
  obtain ⟨Sf, -, -, -, hC⟩ := X
  obtain ⟨hx, hb, hml, hown, hts⟩ := id Sf
  intro T hT X0
  have hz := sx_size X0 hT hs hn hP
  refine va_callv (A0 := sx_A G) (H0 := s.heap) (va_runS (As := As) (rest := rest) Sf hM (va_cwS As.length hts hG hw rfl rfl hd hR) ⟨sx_blind G n F _, fun U hU hW => ⟨rfl, by rw [hU]; exact hz, by rw [hU]; exact hP.1, hC.warm hW⟩⟩ rfl rfl hls rfl (lv_room hroom) hdg hcs) hP.2 (fun _ _ h => h) (fun _ h => h) (fun F1 t H1 locs1 ht hvm hp hB hz1 hk1 hS1 => ?_) T hT X0
  exact kk F1 H1 locs1 hp ⟨by rw [← ht]; exact hB.2.1, hS1⟩
theorem sx_csJ {y : MethodName} {ws ws' : List Cond} {rm : Room} {As : List Value} {n' : Nat} {bytes : ByteArray} {maxL index n0 : Nat} {ret' : Option FieldType} {st0 : List Value} {post : Int64 → (Nat → va_E) → Prop} (X : sx_X G p m c cc nL s args Ts own meth ret nm) (hM : sx_J G l y ws rm As n F n' post) (hG : GoodIn Ts (va_wsS own index y ws)) (hw : ws = Cond.code y bytes maxL ret' :: ws') (hd : y.cls ≠ "java/lang/invoke/MethodHandle" ∧ y.cls ≠ "java/lang/invoke/VarHandle" ∧ (parseMethodDescriptor y.desc).map (fun d => d.parameters.length) = some As.length) (hR : rm.frames + 1 ≤ R.frames ∧ 8 + (maxL + 11) + rm.locals ≤ R.locals) (hls : ls.size = nL) (hst : st0 = As.reverse ++ rest) (hroom : (rest.map fun v => v.category).sum ≤ 8) (hdg : decode cc pc = .ok (.invokestatic index, 3)) (hcs : cells + rm.cells ≤ R.cells ∧ slots + rm.slots ≤ R.slots) (hs : s.heap.size = sx_b G + n0) (hn : n = n0 + cells) (hP : sx_H G n F s.heap H locs)
    (kk : ∀ (r : Int64) (F1 : Nat → va_E) (H1 : Heap) (locs1 : List Loc), post r F1 → sx_H G n' F1 s.heap H1 locs1 → W p l e R s m args below meth c H1 locs1 (cells + rm.cells) (slots + rm.slots) Q (F0 m (pc + 3) ls (.long r :: rest))) : W p l e R s m args below meth c H locs (cells) (slots) Q (F0 m (pc) ls (st0)) := by
  subst hst
  obtain ⟨Sf, -, -, -, hC⟩ := X
  obtain ⟨hx, hb, hml, hown, hts⟩ := id Sf
  intro T hT X0
  have hz := sx_size X0 hT hs hn hP
  refine va_calll (A0 := sx_A G) (H0 := s.heap) (va_runS (As := As) (rest := rest) Sf hM (va_cwS As.length hts hG hw rfl rfl hd hR) ⟨sx_blind G n F _, fun U hU hW => ⟨rfl, by rw [hU]; exact hz, by rw [hU]; exact hP.1, hC.warm hW⟩⟩ rfl rfl hls rfl (lv_room hroom) hdg hcs) hP.2 (fun _ _ h => h) (fun _ h => h) (fun r F1 t H1 locs1 ht hvm hp hB hz1 hk1 hS1 => ?_) T hT X0
  exact kk r F1 H1 locs1 hp ⟨by rw [← ht]; exact hB.2.1, hS1⟩
theorem sx_cnI {y : MethodName} {ws ws' : List Cond} {rm : Room} {As : List Value} {n' : Nat} {bytes : ByteArray} {maxL index n0 : Nat} {ret' : Option FieldType} {st0 : List Value} {post : Int32 → (Nat → va_E) → Prop} {host : String} (X : sx_X G p m c cc nL s args Ts own meth ret nm) (hM : sx_I G l y ws rm As n F n' post) (hG : GoodIn Ts ws) (hw : ws = Cond.code y bytes maxL ret' :: ws') (hnw : va_Nw (.methodLinkNest own index y host) s) (hini : Cond.initialized y.cls ∈ Ts) (hstt : Cond.static y ∈ Ts) (hd : y.cls ≠ "java/lang/invoke/MethodHandle" ∧ y.cls ≠ "java/lang/invoke/VarHandle" ∧ (parseMethodDescriptor y.desc).map (fun d => d.parameters.length) = some As.length) (hR : rm.frames + 1 ≤ R.frames ∧ 8 + (maxL + 11) + rm.locals ≤ R.locals) (hls : ls.size = nL) (hst : st0 = As.reverse ++ rest) (hroom : (rest.map fun v => v.category).sum ≤ 8) (hdg : decode cc pc = .ok (.invokestatic index, 3)) (hcs : cells + rm.cells ≤ R.cells ∧ slots + rm.slots ≤ R.slots) (hs : s.heap.size = sx_b G + n0) (hn : n = n0 + cells) (hP : sx_H G n F s.heap H locs)
    (kk : ∀ (r : Int32) (F1 : Nat → va_E) (H1 : Heap) (locs1 : List Loc), post r F1 → sx_H G n' F1 s.heap H1 locs1 → W p l e R s m args below meth c H1 locs1 (cells + rm.cells) (slots + rm.slots) Q (F0 m (pc + 3) ls (.int r :: rest))) : W p l e R s m args below meth c H locs (cells) (slots) Q (F0 m (pc) ls (st0)) := by
  subst hst
  obtain ⟨Sf, -, -, -, hC⟩ := X
  obtain ⟨hx, hb, hml, hown, hts⟩ := id Sf
  intro T hT X0
  have hz := sx_size X0 hT hs hn hP
  refine va_calli (A0 := sx_A G) (H0 := s.heap) (va_runSN (As := As) (rest := rest) Sf hM ⟨va_cnB As.length hts hG hw rfl rfl hnw (hts _ hini) hd hR, hts _ hstt, trivial⟩ ⟨sx_blind G n F _, fun U hU hW => ⟨rfl, by rw [hU]; exact hz, by rw [hU]; exact hP.1, hC.warm hW⟩⟩ rfl rfl hls rfl (lv_room hroom) hdg hcs) hP.2 (fun _ _ h => h) (fun _ h => h) (fun r F1 t H1 locs1 ht hvm hp hB hz1 hk1 hS1 => ?_) T hT X0
  exact kk r F1 H1 locs1 hp ⟨by rw [← ht]; exact hB.2.1, hS1⟩
theorem sx_ci {y : MethodName} {ws ws' : List Cond} {rm : Room} {As : List Value} {n' : Nat} {bytes : ByteArray} {maxL index n0 : Nat} {st0 : List Value} {post : (Nat → va_E) → Prop} {i : Nat} (X : sx_X G p m c cc nL s args Ts own meth ret nm) (hM : sx_V G l y ws rm (rf G i :: As) n F n' post) (hG : GoodIn Ts ws) (hw : ws = Cond.code y bytes maxL none :: ws') (hini : Cond.initialized y.cls ∈ Ts) (hlk : Cond.methodLink own index y ∈ Ts) (him : Cond.instanceMethod y ∈ Ts) (hy1 : y.name = "<init>") (hd : y.cls ≠ "java/lang/invoke/MethodHandle" ∧ y.cls ≠ "java/lang/invoke/VarHandle" ∧ (parseMethodDescriptor y.desc).map (fun d => d.parameters.length) = some As.length) (hR : rm.frames + 1 ≤ R.frames ∧ 8 + (maxL + 11) + rm.locals ≤ R.locals) (hls : ls.size = nL) (hst : st0 = As.reverse ++ rf G i :: rest) (hroom : (rest.map fun v => v.category).sum ≤ 8) (hdg : decode cc pc = .ok (.invokespecial index, 3)) (hcs : cells + rm.cells ≤ R.cells ∧ slots + rm.slots ≤ R.slots) (hs : s.heap.size = sx_b G + n0) (hn : n = n0 + cells) (hP : sx_H G n F s.heap H locs)
    (kk : ∀ (F1 : Nat → va_E) (H1 : Heap) (locs1 : List Loc), post F1 → sx_H G n' F1 s.heap H1 locs1 → W p l e R s m args below meth c H1 locs1 (cells + rm.cells) (slots + rm.slots) Q (F0 m (pc + 3) ls (rest))) : W p l e R s m args below meth c H locs (cells) (slots) Q (F0 m (pc) ls (st0)) := by
  subst hst
  obtain ⟨Sf, -, -, -, hC⟩ := X
  obtain ⟨hx, hb, hml, hown, hts⟩ := id Sf
  intro T hT X0
  have hz := sx_size X0 hT hs hn hP
  refine va_callv (A0 := sx_A G) (H0 := s.heap) (va_runI (As := As) (rest := rest) Sf hM (cwI As.length hts hG hw rfl rfl (hts _ hini) (hts _ hlk) (hts _ him) hy1 hd hR) ⟨sx_blind G n F _, fun U hU hW => ⟨rfl, by rw [hU]; exact hz, by rw [hU]; exact hP.1, hC.warm hW⟩⟩ rfl rfl hls rfl (lv_room hroom) hdg hcs) hP.2 (fun _ _ h => h) (fun _ h => h) (fun F1 t H1 locs1 ht hvm hp hB hz1 hk1 hS1 => ?_) T hT X0
  exact kk F1 H1 locs1 hp ⟨by rw [← ht]; exact hB.2.1, hS1⟩
theorem sx_cni {y : MethodName} {ws ws' : List Cond} {rm : Room} {As : List Value} {n' : Nat} {bytes : ByteArray} {maxL index n0 : Nat} {st0 : List Value} {post : (Nat → va_E) → Prop} {i : Nat} {host : String} (X : sx_X G p m c cc nL s args Ts own meth ret nm) (hM : sx_V G l y ws rm (rf G i :: As) n F n' post) (hG : GoodIn Ts ws) (hw : ws = Cond.code y bytes maxL none :: ws') (hnw : va_Nw (.methodLinkNest own index y host) s) (hini : Cond.initialized y.cls ∈ Ts) (him : Cond.instanceMethod y ∈ Ts) (hy1 : y.name = "<init>") (hd : y.cls ≠ "java/lang/invoke/MethodHandle" ∧ y.cls ≠ "java/lang/invoke/VarHandle" ∧ (parseMethodDescriptor y.desc).map (fun d => d.parameters.length) = some As.length) (hR : rm.frames + 1 ≤ R.frames ∧ 8 + (maxL + 11) + rm.locals ≤ R.locals) (hls : ls.size = nL) (hst : st0 = As.reverse ++ rf G i :: rest) (hroom : (rest.map fun v => v.category).sum ≤ 8) (hdg : decode cc pc = .ok (.invokespecial index, 3)) (hcs : cells + rm.cells ≤ R.cells ∧ slots + rm.slots ≤ R.slots) (hs : s.heap.size = sx_b G + n0) (hn : n = n0 + cells) (hP : sx_H G n F s.heap H locs)
    (kk : ∀ (F1 : Nat → va_E) (H1 : Heap) (locs1 : List Loc), post F1 → sx_H G n' F1 s.heap H1 locs1 → W p l e R s m args below meth c H1 locs1 (cells + rm.cells) (slots + rm.slots) Q (F0 m (pc + 3) ls (rest))) : W p l e R s m args below meth c H locs (cells) (slots) Q (F0 m (pc) ls (st0)) := by
  subst hst
  obtain ⟨Sf, -, -, -, hC⟩ := X
  obtain ⟨hx, hb, hml, hown, hts⟩ := id Sf
  intro T hT X0
  have hz := sx_size X0 hT hs hn hP
  refine va_callv (A0 := sx_A G) (H0 := s.heap) (va_runIN (As := As) (rest := rest) Sf hM ⟨va_cnB As.length hts hG hw rfl rfl hnw (hts _ hini) hd hR, hy1, hts _ him⟩ ⟨sx_blind G n F _, fun U hU hW => ⟨rfl, by rw [hU]; exact hz, by rw [hU]; exact hP.1, hC.warm hW⟩⟩ rfl rfl hls rfl (lv_room hroom) hdg hcs) hP.2 (fun _ _ h => h) (fun _ h => h) (fun F1 t H1 locs1 ht hvm hp hB hz1 hk1 hS1 => ?_) T hT X0
  exact kk F1 H1 locs1 hp ⟨by rw [← ht]; exact hB.2.1, hS1⟩
theorem sx_obj (X : sx_X G p m c cc nL s args Ts own meth ret nm) {index : Nat} (hlk : Cond.methodLink own index objectInit ∈ Ts) (him : Cond.instanceMethod objectInit ∈ Ts) (hcd : Cond.code objectInit ⟨#[0xb1]⟩ 1 none ∈ Ts) (hls : ls.size = nL) {a : Nat} (hd : decode cc pc = .ok (.invokespecial index, 3)) (hfr : 1 ≤ R.frames) (hlo : (rest.map fun v => v.category).sum + 12 ≤ R.locals)
    (kk : W p l e R s m args below meth c H locs (cells) (slots) Q (F0 m (pc + 3) ls (rest))) : W p l e R s m args below meth c H locs (cells) (slots) Q (F0 m (pc) ls (.ref a :: rest)) := by
  obtain ⟨⟨hx, hb, hml, hown, hts⟩, -, -, -, -⟩ := X
  exact W.objInit hx hb hown (hts _ hlk) (hts _ him) (hts _ hcd) rfl (hls.trans hml.symm) rfl hd hfr (by show 2 * 0 + _ + 12 ≤ _; omega) kk
theorem sx_fresh {A : va_E} {T1 : State} {H1 : Heap} {q n0 : Nat} (X1 : Stand p l e R s m args below meth c T1 locs (cells + 1) slots) (hT1 : T1.heap = H1) (hs : s.heap.size = sx_b G + n0) (hn : n = n0 + cells) (h1 : va_P G.1 vwCl (sx_L G n F ++ [(q, A)]) H1) (h2 : va_D (sx_A G) (sx_L G n F ++ [(q, A)])) : q = sx_b G + n := by
  have hlen : (sx_L G n F).length = n := by simp [sx_L]
  have hq : (sx_L G n F ++ [(q, A)])[n]? = some (q, A) := by rw [List.getElem?_append_right (by omega), hlen]; simp
  have a1 : q < H1.size := (h1 n _ hq).lt
  have a2 : T1.heap.size ≤ s.heap.size + (cells + 1) := X1.same.2.2.1
  rw [hT1] at a2
  have a3 : sx_b G ≤ q := h2.2 n _ hq
  by_cases hlt : q < sx_b G + n
  · have hb : (sx_L G n F ++ [(q, A)])[q - sx_b G]? = some (sx_b G + (q - sx_b G), F (q - sx_b G)) := by rw [List.getElem?_append_left (by omega), sx_L_get G F (by omega)]
    have := h2.1 n (q - sx_b G) _ _ hq hb (by show q = sx_b G + (q - sx_b G); omega)
    omega
  · omega
theorem sx_new (X : sx_X G p m c cc nL s args Ts own meth ret nm) (hP : sx_H G n F s.heap H locs) {C : String} {T : u_T} {N ci index n0 : Nat} (hin : ∀ w ∈ u_ws C T N, w ∈ Ts) (ty : Nat → FieldType) (hty : ∀ k, k < N → parseFieldDescriptor (T k).2.2.1 = some (ty k)) (hcl : Cond.classLink own index C ∈ Ts) (hinst : Cond.instantiable C N ∈ Ts) (hini : Cond.initialized C ∈ Ts) (hc : vwCl[ci]? = some (C, T, N)) {fs : List Value} (hfs : ∀ j, j < N → defaultValue (ty j) = vp_V fs j) (hcells : cells + 1 ≤ R.cells) (hslots : slots + N ≤ R.slots) (hs : s.heap.size = sx_b G + n0) (hn : n = n0 + cells) (hd : decode cc pc = .ok (.new index, 3))
    (kk : ∀ (F1 : Nat → va_E) (H1 : Heap), F1 n = ob ci fs → (∀ j, j ≠ n → F1 j = F j) → sx_H G (n + 1) F1 s.heap H1 locs → W p l e R s m args below meth c H1 locs (cells + 1) (slots + N) Q (F0 m (pc + 3) ls (rf G n :: rest))) : W p l e R s m args below meth c H locs (cells) (slots) Q (F0 m (pc) ls (rest)) := by
  obtain ⟨⟨hx, hb, -, hown, hts⟩, -, -, -, hC⟩ := X
  refine va_new (D := G.1) (c0 := c) hx hb hts hin ty hty hown (hts _ hcl) (hts _ hinst) (hts _ hini) hC.1 hP.1 (sx_LD G n F) hP.2 (fun q hq => by show sx_b G ≤ q; omega) hc hfs hcells hslots hd (fun q H1 h1 h2 h3 => ?_)
  intro T1 hT1 X1
  have hq := sx_fresh X1 hT1 hs hn h1 h2
  subst hq
  rw [sx_L_push] at h1
  exact kk _ H1 (va_up_self _ _ _) (fun j hj => va_up_ne _ _ hj) ⟨h1, h3⟩ T1 hT1 X1
theorem sx_newi (X : sx_X G p m c cc nL s args Ts own meth ret nm) (hP : sx_H G n F s.heap H locs) {n0 : Nat} (N : Nat) (harr : Cond.arrayClass .int ∈ Ts) (hN : N ≤ 100000) (hcells : cells + 1 ≤ R.cells) (hslots : slots + N ≤ R.slots) (hs : s.heap.size = sx_b G + n0) (hn : n = n0 + cells) (hd : decode cc pc = .ok (.newarray .int, 2))
    (kk : ∀ (F1 : Nat → va_E) (H1 : Heap), F1 n = rI G N (fun _ => 0) → (∀ j, j ≠ n → F1 j = F j) → sx_H G (n + 1) F1 s.heap H1 locs → W p l e R s m args below meth c H1 locs (cells + 1) (slots + N) Q (F0 m (pc + 2) ls (rf G n :: rest))) : W p l e R s m args below meth c H locs (cells) (slots) Q (F0 m (pc) ls (.int (nI N) :: rest)) := by
  obtain ⟨⟨hx, hb, -, hown, hts⟩, -, -, -, hC⟩ := X
  refine va_newa (D := G.1) (atype := .int) hx hb (hts _ harr) (ty := .int) rfl hC.1 hP.1 (sx_LD G n F) hP.2 (fun q hq => by show sx_b G ≤ q; omega) (N' := N) (a0 := (N, .inl (fun _ => 0))) (fun _ => rfl) (nI_pos (by omega)) (nI_clamp (by omega)) (by show N * _ ≤ _; simp [componentBytes]; omega) hcells hslots hd (fun q cA H1 hK2 h1 h2 h3 => ?_)
  intro T1 hT1 X1
  have hq := sx_fresh X1 hT1 hs hn h1 h2
  subst hq
  have e1 := (hC.1.2 0 _ rfl).2
  have e2 := (hK2.2 4 _ rfl).2
  have e3 : cA = G.2.1 := Option.some.inj (Eq.trans (Eq.symm e2) e1)
  rw [sx_L_push, e3] at h1
  exact kk _ H1 (va_up_self _ _ _) (fun j hj => va_up_ne _ _ hj) ⟨h1, h3⟩ T1 hT1 X1
theorem sx_newz (X : sx_X G p m c cc nL s args Ts own meth ret nm) (hP : sx_H G n F s.heap H locs) {n0 : Nat} (N : Nat) (harr : Cond.arrayClass .boolean ∈ Ts) (hN : N ≤ 100000) (hcells : cells + 1 ≤ R.cells) (hslots : slots + N ≤ R.slots) (hs : s.heap.size = sx_b G + n0) (hn : n = n0 + cells) (hd : decode cc pc = .ok (.newarray .boolean, 2))
    (kk : ∀ (F1 : Nat → va_E) (H1 : Heap), F1 n = rZ G N (fun _ => 0) → (∀ j, j ≠ n → F1 j = F j) → sx_H G (n + 1) F1 s.heap H1 locs → W p l e R s m args below meth c H1 locs (cells + 1) (slots + N) Q (F0 m (pc + 2) ls (rf G n :: rest))) : W p l e R s m args below meth c H locs (cells) (slots) Q (F0 m (pc) ls (.int (nI N) :: rest)) := by
  obtain ⟨⟨hx, hb, -, hown, hts⟩, -, -, -, hC⟩ := X
  refine va_newa (D := G.1) (atype := .boolean) hx hb (hts _ harr) (ty := .boolean) rfl hC.1 hP.1 (sx_LD G n F) hP.2 (fun q hq => by show sx_b G ≤ q; omega) (N' := N) (a0 := (N, .inl (fun _ => 0))) (fun _ => rfl) (nI_pos (by omega)) (nI_clamp (by omega)) (by show N * _ ≤ _; simp [componentBytes]; omega) hcells hslots hd (fun q cA H1 hK2 h1 h2 h3 => ?_)
  intro T1 hT1 X1
  have hq := sx_fresh X1 hT1 hs hn h1 h2
  subst hq
  have e1 := (hC.1.2 1 _ rfl).2
  have e2 := (hK2.2 4 _ rfl).2
  have e3 : cA = G.2.2.1 := Option.some.inj (Eq.trans (Eq.symm e2) e1)
  rw [sx_L_push, e3] at h1
  exact kk _ H1 (va_up_self _ _ _) (fun j hj => va_up_ne _ _ hj) ⟨h1, h3⟩ T1 hT1 X1
theorem sx_newk (X : sx_X G p m c cc nL s args Ts own meth ret nm) (hP : sx_H G n F s.heap H locs) {n0 index : Nat} (N : Nat) (hcl : Cond.classLink own index "RaceWatch$Kept" ∈ Ts) (hN : N ≤ 100000) (hcells : cells + 1 ≤ R.cells) (hslots : slots + N ≤ R.slots) (hs : s.heap.size = sx_b G + n0) (hn : n = n0 + cells) (hd : decode cc pc = .ok (.anewarray index, 3))
    (kk : ∀ (F1 : Nat → va_E) (H1 : Heap), F1 n = rK G N (fun _ => none) → (∀ j, j ≠ n → F1 j = F j) → sx_H G (n + 1) F1 s.heap H1 locs → W p l e R s m args below meth c H1 locs (cells + 1) (slots + N) Q (F0 m (pc + 3) ls (rf G n :: rest))) : W p l e R s m args below meth c H locs (cells) (slots) Q (F0 m (pc) ls (.int (nI N) :: rest)) := by
  obtain ⟨⟨hx, hb, -, hown, hts⟩, -, -, -, hC⟩ := X
  refine va_newq (D := G.1) hx hb hown (hts _ hcl) hC.2.2.2.2.2.2.1 hC.1 hP.1 (sx_LD G n F) hP.2 (fun q hq => by show sx_b G ≤ q; omega) (N' := N) (nI_pos (by omega)) (nI_clamp (by omega)) (by omega) hcells hslots hd (fun q cA H1 hK2 h1 h2 h3 => ?_)
  intro T1 hT1 X1
  have hq := sx_fresh X1 hT1 hs hn h1 h2
  subst hq
  obtain ⟨-, -, -, -, -, e1⟩ := (hC.1.2 2 _ rfl).2
  obtain ⟨-, -, -, -, -, e2⟩ := (hK2.2 4 _ rfl).2
  have e3 : cA = G.2.2.2.1 := Option.some.inj (Eq.trans (Eq.symm e2) e1)
  rw [sx_L_push, e3] at h1
  exact kk _ H1 (va_up_self _ _ _) (fun j hj => va_up_ne _ _ hj) ⟨h1, h3⟩ T1 hT1 X1
theorem sx_newo (X : sx_X G p m c cc nL s args Ts own meth ret nm) (hP : sx_H G n F s.heap H locs) {n0 index : Nat} (N : Nat) (hcl : Cond.classLink own index "RaceWatch$World" ∈ Ts) (hN : N ≤ 100000) (hcells : cells + 1 ≤ R.cells) (hslots : slots + N ≤ R.slots) (hs : s.heap.size = sx_b G + n0) (hn : n = n0 + cells) (hd : decode cc pc = .ok (.anewarray index, 3))
    (kk : ∀ (F1 : Nat → va_E) (H1 : Heap), F1 n = rO G N (fun _ => none) → (∀ j, j ≠ n → F1 j = F j) → sx_H G (n + 1) F1 s.heap H1 locs → W p l e R s m args below meth c H1 locs (cells + 1) (slots + N) Q (F0 m (pc + 3) ls (rf G n :: rest))) : W p l e R s m args below meth c H locs (cells) (slots) Q (F0 m (pc) ls (.int (nI N) :: rest)) := by
  obtain ⟨⟨hx, hb, -, hown, hts⟩, -, -, -, hC⟩ := X
  refine va_newq (D := G.1) hx hb hown (hts _ hcl) hC.2.2.2.2.2.2.2 hC.1 hP.1 (sx_LD G n F) hP.2 (fun q hq => by show sx_b G ≤ q; omega) (N' := N) (nI_pos (by omega)) (nI_clamp (by omega)) (by omega) hcells hslots hd (fun q cA H1 hK2 h1 h2 h3 => ?_)
  intro T1 hT1 X1
  have hq := sx_fresh X1 hT1 hs hn h1 h2
  subst hq
  obtain ⟨-, -, -, -, -, e1⟩ := (hC.1.2 3 _ rfl).2
  obtain ⟨-, -, -, -, -, e2⟩ := (hK2.2 4 _ rfl).2
  have e3 : cA = G.2.2.2.2.1 := Option.some.inj (Eq.trans (Eq.symm e2) e1)
  rw [sx_L_push, e3] at h1
  exact kk _ H1 (va_up_self _ _ _) (fun j hj => va_up_ne _ _ hj) ⟨h1, h3⟩ T1 hT1 X1
theorem sx_addN (X : sx_X G p m c cc nL s args Ts own meth ret nm) {a b : Nat} (z : Nat) (hz : a + b = z) (hd : decode cc pc = .ok (.iadd, 1))
    (kk : W p l e R s m args below meth c H locs (cells) (slots) Q (F0 m (pc + 1) ls (.int (nI z) :: rest))) : W p l e R s m args below meth c H locs (cells) (slots) Q (F0 m (pc) ls (.int (nI b) :: .int (nI a) :: rest)) := lv_iadd X.1.1 X.1.2.1 hd (by rw [nI_add, hz]; exact kk)
theorem sx_mulN (X : sx_X G p m c cc nL s args Ts own meth ret nm) {a b : Nat} (z : Nat) (hz : a * b = z) (hd : decode cc pc = .ok (.imul, 1))
    (kk : W p l e R s m args below meth c H locs (cells) (slots) Q (F0 m (pc + 1) ls (.int (nI z) :: rest))) : W p l e R s m args below meth c H locs (cells) (slots) Q (F0 m (pc) ls (.int (nI b) :: .int (nI a) :: rest)) := lv_imul X.1.1 X.1.2.1 hd (by rw [pk_mul, hz]; exact kk)
theorem sx_subN (X : sx_X G p m c cc nL s args Ts own meth ret nm) {a b : Nat} (z : Nat) (h : b ≤ a) (hz : a - b = z) (hd : decode cc pc = .ok (.isub, 1))
    (kk : W p l e R s m args below meth c H locs (cells) (slots) Q (F0 m (pc + 1) ls (.int (nI z) :: rest))) : W p l e R s m args below meth c H locs (cells) (slots) Q (F0 m (pc) ls (.int (nI b) :: .int (nI a) :: rest)) := lv_isub X.1.1 X.1.2.1 hd (by rw [pk_sub h, hz]; exact kk)
theorem sx_icmp_eq (X : sx_X G p m c cc nL s args Ts own meth ret nm) {a b : Nat} (ha : a < 2 ^ 31) (hb2 : b < 2 ^ 31) {off : Int} {tgt : Nat} (hd : decode cc pc = .ok (.if_icmp .eq off, 3)) (ht : (pc : Int) + off = (tgt : Int)) (kt : a = b → W p l e R s m args below meth c H locs (cells) (slots) Q (F0 m (tgt) ls (rest))) (kf : a ≠ b → W p l e R s m args below meth c H locs (cells) (slots) Q (F0 m (pc + 3) ls (rest))) : W p l e R s m args below meth c H locs (cells) (slots) Q (F0 m (pc) ls (.int (nI b) :: .int (nI a) :: rest)) := lv_icmp_eq X.1.1 X.1.2.1 hd ht (fun h => kt ((nI_eq ha hb2).mp h)) (fun h => kf (fun q => h ((nI_eq ha hb2).mpr q)))
theorem sx_icmp_ne (X : sx_X G p m c cc nL s args Ts own meth ret nm) {a b : Nat} (ha : a < 2 ^ 31) (hb2 : b < 2 ^ 31) {off : Int} {tgt : Nat} (hd : decode cc pc = .ok (.if_icmp .ne off, 3)) (ht : (pc : Int) + off = (tgt : Int)) (kt : a ≠ b → W p l e R s m args below meth c H locs (cells) (slots) Q (F0 m (tgt) ls (rest))) (kf : a = b → W p l e R s m args below meth c H locs (cells) (slots) Q (F0 m (pc + 3) ls (rest))) : W p l e R s m args below meth c H locs (cells) (slots) Q (F0 m (pc) ls (.int (nI b) :: .int (nI a) :: rest)) := lv_icmp_ne X.1.1 X.1.2.1 hd ht (fun h => kt (fun q => h ((nI_eq ha hb2).mpr q))) (fun h => kf ((nI_eq ha hb2).mp h))
theorem sx_icmp_lt (X : sx_X G p m c cc nL s args Ts own meth ret nm) {a b : Nat} (ha : a < 2 ^ 31) (hb2 : b < 2 ^ 31) {off : Int} {tgt : Nat} (hd : decode cc pc = .ok (.if_icmp .lt off, 3)) (ht : (pc : Int) + off = (tgt : Int)) (kt : a < b → W p l e R s m args below meth c H locs (cells) (slots) Q (F0 m (tgt) ls (rest))) (kf : b ≤ a → W p l e R s m args below meth c H locs (cells) (slots) Q (F0 m (pc + 3) ls (rest))) : W p l e R s m args below meth c H locs (cells) (slots) Q (F0 m (pc) ls (.int (nI b) :: .int (nI a) :: rest)) := lv_icmp_lt X.1.1 X.1.2.1 hd ht (fun h => kt ((nI_ltI ha hb2).mp h)) (fun h => kf (Nat.not_lt.mp (fun q => h ((nI_ltI ha hb2).mpr q))))
theorem sx_icmp_ge (X : sx_X G p m c cc nL s args Ts own meth ret nm) {a b : Nat} (ha : a < 2 ^ 31) (hb2 : b < 2 ^ 31) {off : Int} {tgt : Nat} (hd : decode cc pc = .ok (.if_icmp .ge off, 3)) (ht : (pc : Int) + off = (tgt : Int)) (kt : b ≤ a → W p l e R s m args below meth c H locs (cells) (slots) Q (F0 m (tgt) ls (rest))) (kf : a < b → W p l e R s m args below meth c H locs (cells) (slots) Q (F0 m (pc + 3) ls (rest))) : W p l e R s m args below meth c H locs (cells) (slots) Q (F0 m (pc) ls (.int (nI b) :: .int (nI a) :: rest)) := lv_icmp_ge X.1.1 X.1.2.1 hd ht (fun h => kt ((nI_leI hb2 ha).mp h)) (fun h => kf (Nat.not_le.mp (fun q => h ((nI_leI hb2 ha).mpr q))))
theorem sx_icmp_gt (X : sx_X G p m c cc nL s args Ts own meth ret nm) {a b : Nat} (ha : a < 2 ^ 31) (hb2 : b < 2 ^ 31) {off : Int} {tgt : Nat} (hd : decode cc pc = .ok (.if_icmp .gt off, 3)) (ht : (pc : Int) + off = (tgt : Int)) (kt : b < a → W p l e R s m args below meth c H locs (cells) (slots) Q (F0 m (tgt) ls (rest))) (kf : a ≤ b → W p l e R s m args below meth c H locs (cells) (slots) Q (F0 m (pc + 3) ls (rest))) : W p l e R s m args below meth c H locs (cells) (slots) Q (F0 m (pc) ls (.int (nI b) :: .int (nI a) :: rest)) := lv_icmp_gt X.1.1 X.1.2.1 hd ht (fun h => kt ((nI_ltI hb2 ha).mp h)) (fun h => kf (Nat.not_lt.mp (fun q => h ((nI_ltI hb2 ha).mpr q))))
theorem sx_icmp_le (X : sx_X G p m c cc nL s args Ts own meth ret nm) {a b : Nat} (ha : a < 2 ^ 31) (hb2 : b < 2 ^ 31) {off : Int} {tgt : Nat} (hd : decode cc pc = .ok (.if_icmp .le off, 3)) (ht : (pc : Int) + off = (tgt : Int)) (kt : a ≤ b → W p l e R s m args below meth c H locs (cells) (slots) Q (F0 m (tgt) ls (rest))) (kf : b < a → W p l e R s m args below meth c H locs (cells) (slots) Q (F0 m (pc + 3) ls (rest))) : W p l e R s m args below meth c H locs (cells) (slots) Q (F0 m (pc) ls (.int (nI b) :: .int (nI a) :: rest)) := lv_icmp_le X.1.1 X.1.2.1 hd ht (fun h => kt ((nI_leI ha hb2).mp h)) (fun h => kf (Nat.not_le.mp (fun q => h ((nI_leI ha hb2).mpr q))))
theorem sx_if_eq (X : sx_X G p m c cc nL s args Ts own meth ret nm) {a : Nat} (ha : a < 2 ^ 31) {off : Int} {tgt : Nat} (hd : decode cc pc = .ok (.ifCond .eq off, 3)) (ht : (pc : Int) + off = (tgt : Int)) (kt : a = 0 → W p l e R s m args below meth c H locs (cells) (slots) Q (F0 m (tgt) ls (rest))) (kf : a ≠ 0 → W p l e R s m args below meth c H locs (cells) (slots) Q (F0 m (pc + 3) ls (rest))) : W p l e R s m args below meth c H locs (cells) (slots) Q (F0 m (pc) ls (.int (nI a) :: rest)) := by
  have h0 : 0 < 2 ^ 31 := by decide
  exact lv_if_eq X.1.1 X.1.2.1 hd ht (fun h => kt ((nI_eq ha h0).mp h)) (fun h => kf (fun q => h ((nI_eq ha h0).mpr q)))
theorem sx_if_ne (X : sx_X G p m c cc nL s args Ts own meth ret nm) {a : Nat} (ha : a < 2 ^ 31) {off : Int} {tgt : Nat} (hd : decode cc pc = .ok (.ifCond .ne off, 3)) (ht : (pc : Int) + off = (tgt : Int)) (kt : a ≠ 0 → W p l e R s m args below meth c H locs (cells) (slots) Q (F0 m (tgt) ls (rest))) (kf : a = 0 → W p l e R s m args below meth c H locs (cells) (slots) Q (F0 m (pc + 3) ls (rest))) : W p l e R s m args below meth c H locs (cells) (slots) Q (F0 m (pc) ls (.int (nI a) :: rest)) := by
  have h0 : 0 < 2 ^ 31 := by decide
  exact lv_if_ne X.1.1 X.1.2.1 hd ht (fun h => kt (fun q => h ((nI_eq ha h0).mpr q))) (fun h => kf ((nI_eq ha h0).mp h))
theorem sx_if_lt (X : sx_X G p m c cc nL s args Ts own meth ret nm) {a : Nat} (ha : a < 2 ^ 31) {off : Int} {tgt : Nat} (hd : decode cc pc = .ok (.ifCond .lt off, 3)) (ht : (pc : Int) + off = (tgt : Int)) (kt : False → W p l e R s m args below meth c H locs (cells) (slots) Q (F0 m (tgt) ls (rest))) (kf : True → W p l e R s m args below meth c H locs (cells) (slots) Q (F0 m (pc + 3) ls (rest))) : W p l e R s m args below meth c H locs (cells) (slots) Q (F0 m (pc) ls (.int (nI a) :: rest)) := by
  have h0 : 0 < 2 ^ 31 := by decide
  exact lv_if_lt X.1.1 X.1.2.1 hd ht (fun h => absurd ((nI_ltI ha h0).mp h) (Nat.not_lt_zero _)) (fun h => kf trivial)
theorem sx_if_ge (X : sx_X G p m c cc nL s args Ts own meth ret nm) {a : Nat} (ha : a < 2 ^ 31) {off : Int} {tgt : Nat} (hd : decode cc pc = .ok (.ifCond .ge off, 3)) (ht : (pc : Int) + off = (tgt : Int)) (kt : True → W p l e R s m args below meth c H locs (cells) (slots) Q (F0 m (tgt) ls (rest))) (kf : False → W p l e R s m args below meth c H locs (cells) (slots) Q (F0 m (pc + 3) ls (rest))) : W p l e R s m args below meth c H locs (cells) (slots) Q (F0 m (pc) ls (.int (nI a) :: rest)) := by
  have h0 : 0 < 2 ^ 31 := by decide
  exact lv_if_ge X.1.1 X.1.2.1 hd ht (fun h => kt trivial) (fun h => absurd ((nI_leI h0 ha).mpr (Nat.zero_le _)) h)
theorem sx_if_gt (X : sx_X G p m c cc nL s args Ts own meth ret nm) {a : Nat} (ha : a < 2 ^ 31) {off : Int} {tgt : Nat} (hd : decode cc pc = .ok (.ifCond .gt off, 3)) (ht : (pc : Int) + off = (tgt : Int)) (kt : 0 < a → W p l e R s m args below meth c H locs (cells) (slots) Q (F0 m (tgt) ls (rest))) (kf : a = 0 → W p l e R s m args below meth c H locs (cells) (slots) Q (F0 m (pc + 3) ls (rest))) : W p l e R s m args below meth c H locs (cells) (slots) Q (F0 m (pc) ls (.int (nI a) :: rest)) := by
  have h0 : 0 < 2 ^ 31 := by decide
  exact lv_if_gt X.1.1 X.1.2.1 hd ht (fun h => kt ((nI_ltI h0 ha).mp h)) (fun h => kf (Nat.le_zero.mp (Nat.not_lt.mp (fun q => h ((nI_ltI h0 ha).mpr q)))))
theorem sx_if_le (X : sx_X G p m c cc nL s args Ts own meth ret nm) {a : Nat} (ha : a < 2 ^ 31) {off : Int} {tgt : Nat} (hd : decode cc pc = .ok (.ifCond .le off, 3)) (ht : (pc : Int) + off = (tgt : Int)) (kt : a = 0 → W p l e R s m args below meth c H locs (cells) (slots) Q (F0 m (tgt) ls (rest))) (kf : 0 < a → W p l e R s m args below meth c H locs (cells) (slots) Q (F0 m (pc + 3) ls (rest))) : W p l e R s m args below meth c H locs (cells) (slots) Q (F0 m (pc) ls (.int (nI a) :: rest)) := by
  have h0 : 0 < 2 ^ 31 := by decide
  exact lv_if_le X.1.1 X.1.2.1 hd ht (fun h => kt (by have := (nI_leI ha h0).mp h; omega)) (fun h => kf (Nat.not_le.mp (fun q => h ((nI_leI ha h0).mpr q))))
theorem sx_join {P : Int32 → Prop} {goal : Prop} (C : Prop) [Decidable C] {a b : Int32} (h : (C → P a) → (¬ C → P b) → goal) (k : P (if C then a else b)) : goal := h (fun hc => by rw [if_pos hc] at k; exact k) (fun hc => by rw [if_neg hc] at k; exact k)
theorem sx_inc1 {a b : Nat} (h : b = a + 1) : nI a + Int32.ofInt 1 = nI b := by rw [h]; exact nI_1 a
theorem sx_dec1 {a b : Nat} (h : a = b + 1) : nI a + Int32.ofInt (-1) = nI b := by rw [h]; exact pk_m1 b
end SX
end
