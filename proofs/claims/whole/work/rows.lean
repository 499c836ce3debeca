section
-- ===== PART A: goes FIRST, ahead of the names: the tables' words, and 'selects' of the private methods out of them =====
/-- a private method of a class that the tables say can be made, by its rows of tables_1 -/
def lw_okq (q : MethodName × Nat) : Prop := (q.1.cls ≠ "java/lang/invoke/MethodHandle" ∧ q.1.cls ≠ "java/lang/invoke/VarHandle") ∧ Cond.instantiable q.1.cls q.2 ∈ tables_1 ∧ Cond.privateMethod q.1 ∈ tables_1 ∧ Cond.instanceMethod q.1 ∈ tables_1
theorem lw_p0 : lw_okq (⟨"ChordMover", "takeFour", "(I)V"⟩, 13) := ⟨⟨by decide +kernel, by decide +kernel⟩, List.mem_of_getElem? (i := 28) (by decide +kernel), List.mem_of_getElem? (i := 260) (by decide +kernel), List.mem_of_getElem? (i := 261) (by decide +kernel)⟩
theorem lw_p1 : lw_okq (⟨"ChordMover$Writer", "putNames", "(LChordMover$Song;IILChordMover$Page;)V"⟩, 1) := ⟨⟨by decide +kernel, by decide +kernel⟩, List.mem_of_getElem? (i := 124) (by decide +kernel), List.mem_of_getElem? (i := 284) (by decide +kernel), List.mem_of_getElem? (i := 285) (by decide +kernel)⟩
theorem lw_p2 : lw_okq (⟨"ChordMover$Page", "putNote", "(I)V"⟩, 2) := ⟨⟨by decide +kernel, by decide +kernel⟩, List.mem_of_getElem? (i := 108) (by decide +kernel), List.mem_of_getElem? (i := 304) (by decide +kernel), List.mem_of_getElem? (i := 305) (by decide +kernel)⟩
theorem lw_p3 : lw_okq (⟨"ChordMover$Writer", "putWords", "(LChordMover$Song;IILChordMover$Page;)V"⟩, 1) := ⟨⟨by decide +kernel, by decide +kernel⟩, List.mem_of_getElem? (i := 124) (by decide +kernel), List.mem_of_getElem? (i := 388) (by decide +kernel), List.mem_of_getElem? (i := 389) (by decide +kernel)⟩
theorem lw_p4 : lw_okq (⟨"ChordMover", "forgetHands", "()V"⟩, 13) := ⟨⟨by decide +kernel, by decide +kernel⟩, List.mem_of_getElem? (i := 28) (by decide +kernel), List.mem_of_getElem? (i := 404) (by decide +kernel), List.mem_of_getElem? (i := 405) (by decide +kernel)⟩
theorem lw_p5 : lw_okq (⟨"ChordMover$Finder", "layFrom", "(I)V"⟩, 9) := ⟨⟨by decide +kernel, by decide +kernel⟩, List.mem_of_getElem? (i := 134) (by decide +kernel), List.mem_of_getElem? (i := 455) (by decide +kernel), List.mem_of_getElem? (i := 456) (by decide +kernel)⟩
theorem lw_p6 : lw_okq (⟨"ChordMover$Finder", "leastIsBass", "()Z"⟩, 9) := ⟨⟨by decide +kernel, by decide +kernel⟩, List.mem_of_getElem? (i := 134) (by decide +kernel), List.mem_of_getElem? (i := 459) (by decide +kernel), List.mem_of_getElem? (i := 460) (by decide +kernel)⟩
theorem lw_p7 : lw_okq (⟨"ChordMover$Finder", "strainOfFirst", "(I)I"⟩, 9) := ⟨⟨by decide +kernel, by decide +kernel⟩, List.mem_of_getElem? (i := 134) (by decide +kernel), List.mem_of_getElem? (i := 463) (by decide +kernel), List.mem_of_getElem? (i := 464) (by decide +kernel)⟩
theorem lw_p8 : lw_okq (⟨"ChordMover$Finder", "keep", "(I)V"⟩, 9) := ⟨⟨by decide +kernel, by decide +kernel⟩, List.mem_of_getElem? (i := 134) (by decide +kernel), List.mem_of_getElem? (i := 473) (by decide +kernel), List.mem_of_getElem? (i := 474) (by decide +kernel)⟩
theorem lw_p9 : lw_okq (⟨"ChordMover$Finder", "toneAt", "(II)I"⟩, 9) := ⟨⟨by decide +kernel, by decide +kernel⟩, List.mem_of_getElem? (i := 134) (by decide +kernel), List.mem_of_getElem? (i := 477) (by decide +kernel), List.mem_of_getElem? (i := 478) (by decide +kernel)⟩
theorem lw_p10 : lw_okq (⟨"ChordMover$Finder", "mayFit", "(I)Z"⟩, 9) := ⟨⟨by decide +kernel, by decide +kernel⟩, List.mem_of_getElem? (i := 134) (by decide +kernel), List.mem_of_getElem? (i := 481) (by decide +kernel), List.mem_of_getElem? (i := 482) (by decide +kernel)⟩
theorem lw_p11 : lw_okq (⟨"ChordMover$Finder", "soundingOfFirst", "(I)I"⟩, 9) := ⟨⟨by decide +kernel, by decide +kernel⟩, List.mem_of_getElem? (i := 134) (by decide +kernel), List.mem_of_getElem? (i := 488) (by decide +kernel), List.mem_of_getElem? (i := 489) (by decide +kernel)⟩
theorem lw_p12 : lw_okq (⟨"ChordMover$Plan", "weigh", "(LChordMover$HandBook;III)V"⟩, 5) := ⟨⟨by decide +kernel, by decide +kernel⟩, List.mem_of_getElem? (i := 192) (by decide +kernel), List.mem_of_getElem? (i := 496) (by decide +kernel), List.mem_of_getElem? (i := 497) (by decide +kernel)⟩
theorem lw_p13 : lw_okq (⟨"java/lang/Throwable", "fillInStackTrace", "(I)Ljava/lang/Throwable;"⟩, 6) := ⟨⟨by decide +kernel, by decide +kernel⟩, List.mem_of_getElem? (i := 578) (by decide +kernel), List.mem_of_getElem? (i := 576) (by decide +kernel), List.mem_of_getElem? (i := 577) (by decide +kernel)⟩
theorem lw_p14 : lw_okq (⟨"ChordMover$Reader", "readItem", "(LChordMover$Song;)V"⟩, 5) := ⟨⟨by decide +kernel, by decide +kernel⟩, List.mem_of_getElem? (i := 36) (by decide +kernel), List.mem_of_getElem? (i := 618) (by decide +kernel), List.mem_of_getElem? (i := 619) (by decide +kernel)⟩
theorem lw_p15 : lw_okq (⟨"ChordMover$Reader", "signAt", "(I)I"⟩, 5) := ⟨⟨by decide +kernel, by decide +kernel⟩, List.mem_of_getElem? (i := 36) (by decide +kernel), List.mem_of_getElem? (i := 622) (by decide +kernel), List.mem_of_getElem? (i := 623) (by decide +kernel)⟩
def lw_privs_1 : List (MethodName × Nat) := [(⟨"ChordMover", "takeFour", "(I)V"⟩, 13), (⟨"ChordMover$Writer", "putNames", "(LChordMover$Song;IILChordMover$Page;)V"⟩, 1), (⟨"ChordMover$Page", "putNote", "(I)V"⟩, 2), (⟨"ChordMover$Writer", "putWords", "(LChordMover$Song;IILChordMover$Page;)V"⟩, 1), (⟨"ChordMover", "forgetHands", "()V"⟩, 13), (⟨"ChordMover$Finder", "layFrom", "(I)V"⟩, 9), (⟨"ChordMover$Finder", "leastIsBass", "()Z"⟩, 9), (⟨"ChordMover$Finder", "strainOfFirst", "(I)I"⟩, 9), (⟨"ChordMover$Finder", "keep", "(I)V"⟩, 9), (⟨"ChordMover$Finder", "toneAt", "(II)I"⟩, 9), (⟨"ChordMover$Finder", "mayFit", "(I)Z"⟩, 9), (⟨"ChordMover$Finder", "soundingOfFirst", "(I)I"⟩, 9), (⟨"ChordMover$Plan", "weigh", "(LChordMover$HandBook;III)V"⟩, 5), (⟨"java/lang/Throwable", "fillInStackTrace", "(I)Ljava/lang/Throwable;"⟩, 6), (⟨"ChordMover$Reader", "readItem", "(LChordMover$Song;)V"⟩, 5), (⟨"ChordMover$Reader", "signAt", "(I)I"⟩, 5)]
theorem lw_r1 : ∀ q ∈ lw_privs_1, lw_okq q := List.forall_mem_cons.mpr ⟨lw_p0, List.forall_mem_cons.mpr ⟨lw_p1, List.forall_mem_cons.mpr ⟨lw_p2, List.forall_mem_cons.mpr ⟨lw_p3, List.forall_mem_cons.mpr ⟨lw_p4, List.forall_mem_cons.mpr ⟨lw_p5, List.forall_mem_cons.mpr ⟨lw_p6, List.forall_mem_cons.mpr ⟨lw_p7, List.forall_mem_cons.mpr ⟨lw_p8, List.forall_mem_cons.mpr ⟨lw_p9, List.forall_mem_cons.mpr ⟨lw_p10, List.forall_mem_cons.mpr ⟨lw_p11, List.forall_mem_cons.mpr ⟨lw_p12, List.forall_mem_cons.mpr ⟨lw_p13, List.forall_mem_cons.mpr ⟨lw_p14, List.forall_mem_cons.mpr ⟨lw_p15, fun _ h => absurd h List.not_mem_nil⟩⟩⟩⟩⟩⟩⟩⟩⟩⟩⟩⟩⟩⟩⟩⟩
theorem lw_p16 : lw_okq (⟨"ChordMover$Reader", "readChord", "(LChordMover$Song;)V"⟩, 5) := ⟨⟨by decide +kernel, by decide +kernel⟩, List.mem_of_getElem? (i := 36) (by decide +kernel), List.mem_of_getElem? (i := 626) (by decide +kernel), List.mem_of_getElem? (i := 627) (by decide +kernel)⟩
theorem lw_p17 : lw_okq (⟨"ChordMover$Reader", "refuse", "(I)V"⟩, 5) := ⟨⟨by decide +kernel, by decide +kernel⟩, List.mem_of_getElem? (i := 36) (by decide +kernel), List.mem_of_getElem? (i := 630) (by decide +kernel), List.mem_of_getElem? (i := 631) (by decide +kernel)⟩
theorem lw_p18 : lw_okq (⟨"ChordMover$Reader", "readNote", "()I"⟩, 5) := ⟨⟨by decide +kernel, by decide +kernel⟩, List.mem_of_getElem? (i := 36) (by decide +kernel), List.mem_of_getElem? (i := 634) (by decide +kernel), List.mem_of_getElem? (i := 635) (by decide +kernel)⟩
theorem lw_p19 : lw_okq (⟨"ChordMover$Reader", "readKind", "()I"⟩, 5) := ⟨⟨by decide +kernel, by decide +kernel⟩, List.mem_of_getElem? (i := 36) (by decide +kernel), List.mem_of_getElem? (i := 696) (by decide +kernel), List.mem_of_getElem? (i := 697) (by decide +kernel)⟩
theorem lw_p20 : lw_okq (⟨"ChordMover$Reader", "standsHere", "(Ljava/lang/String;)Z"⟩, 5) := ⟨⟨by decide +kernel, by decide +kernel⟩, List.mem_of_getElem? (i := 36) (by decide +kernel), List.mem_of_getElem? (i := 702) (by decide +kernel), List.mem_of_getElem? (i := 703) (by decide +kernel)⟩
theorem lw_p21 : lw_okq (⟨"ChordMover$Reader", "readLineEnd", "(LChordMover$Song;)V"⟩, 5) := ⟨⟨by decide +kernel, by decide +kernel⟩, List.mem_of_getElem? (i := 36) (by decide +kernel), List.mem_of_getElem? (i := 715) (by decide +kernel), List.mem_of_getElem? (i := 716) (by decide +kernel)⟩
theorem lw_p22 : lw_okq (⟨"ChordMoverModel", "lays", "(I)V"⟩, 45) := ⟨⟨by decide +kernel, by decide +kernel⟩, List.mem_of_getElem? (i := 850) (by decide +kernel), List.mem_of_getElem? (i := 1000) (by decide +kernel), List.mem_of_getElem? (i := 1001) (by decide +kernel)⟩
theorem lw_p23 : lw_okq (⟨"ChordMoverModel", "right", "(ZI)Z"⟩, 45) := ⟨⟨by decide +kernel, by decide +kernel⟩, List.mem_of_getElem? (i := 850) (by decide +kernel), List.mem_of_getElem? (i := 1008) (by decide +kernel), List.mem_of_getElem? (i := 1009) (by decide +kernel)⟩
theorem lw_p24 : lw_okq (⟨"ChordMoverModel", "reads", "()Z"⟩, 45) := ⟨⟨by decide +kernel, by decide +kernel⟩, List.mem_of_getElem? (i := 850) (by decide +kernel), List.mem_of_getElem? (i := 1012) (by decide +kernel), List.mem_of_getElem? (i := 1013) (by decide +kernel)⟩
theorem lw_p25 : lw_okq (⟨"ChordMoverModel", "wrong", "(II)Z"⟩, 45) := ⟨⟨by decide +kernel, by decide +kernel⟩, List.mem_of_getElem? (i := 850) (by decide +kernel), List.mem_of_getElem? (i := 1016) (by decide +kernel), List.mem_of_getElem? (i := 1017) (by decide +kernel)⟩
theorem lw_p26 : lw_okq (⟨"ChordMoverModel", "named", "()Z"⟩, 45) := ⟨⟨by decide +kernel, by decide +kernel⟩, List.mem_of_getElem? (i := 850) (by decide +kernel), List.mem_of_getElem? (i := 1020) (by decide +kernel), List.mem_of_getElem? (i := 1021) (by decide +kernel)⟩
theorem lw_p27 : lw_okq (⟨"ChordMoverModel", "noted", "()Z"⟩, 45) := ⟨⟨by decide +kernel, by decide +kernel⟩, List.mem_of_getElem? (i := 850) (by decide +kernel), List.mem_of_getElem? (i := 1024) (by decide +kernel), List.mem_of_getElem? (i := 1025) (by decide +kernel)⟩
theorem lw_p28 : lw_okq (⟨"ChordMoverModel", "byteAt", "(I)I"⟩, 45) := ⟨⟨by decide +kernel, by decide +kernel⟩, List.mem_of_getElem? (i := 850) (by decide +kernel), List.mem_of_getElem? (i := 1028) (by decide +kernel), List.mem_of_getElem? (i := 1029) (by decide +kernel)⟩
theorem lw_p29 : lw_okq (⟨"ChordMoverModel", "isHere", "(Ljava/lang/String;)Z"⟩, 45) := ⟨⟨by decide +kernel, by decide +kernel⟩, List.mem_of_getElem? (i := 850) (by decide +kernel), List.mem_of_getElem? (i := 1052) (by decide +kernel), List.mem_of_getElem? (i := 1053) (by decide +kernel)⟩
theorem lw_p30 : lw_okq (⟨"ChordMoverModel", "changes", "()V"⟩, 45) := ⟨⟨by decide +kernel, by decide +kernel⟩, List.mem_of_getElem? (i := 850) (by decide +kernel), List.mem_of_getElem? (i := 1058) (by decide +kernel), List.mem_of_getElem? (i := 1059) (by decide +kernel)⟩
theorem lw_p31 : lw_okq (⟨"ChordMoverModel", "isChord", "(I)Z"⟩, 45) := ⟨⟨by decide +kernel, by decide +kernel⟩, List.mem_of_getElem? (i := 850) (by decide +kernel), List.mem_of_getElem? (i := 1081) (by decide +kernel), List.mem_of_getElem? (i := 1082) (by decide +kernel)⟩
def lw_privs_2 : List (MethodName × Nat) := [(⟨"ChordMover$Reader", "readChord", "(LChordMover$Song;)V"⟩, 5), (⟨"ChordMover$Reader", "refuse", "(I)V"⟩, 5), (⟨"ChordMover$Reader", "readNote", "()I"⟩, 5), (⟨"ChordMover$Reader", "readKind", "()I"⟩, 5), (⟨"ChordMover$Reader", "standsHere", "(Ljava/lang/String;)Z"⟩, 5), (⟨"ChordMover$Reader", "readLineEnd", "(LChordMover$Song;)V"⟩, 5), (⟨"ChordMoverModel", "lays", "(I)V"⟩, 45), (⟨"ChordMoverModel", "right", "(ZI)Z"⟩, 45), (⟨"ChordMoverModel", "reads", "()Z"⟩, 45), (⟨"ChordMoverModel", "wrong", "(II)Z"⟩, 45), (⟨"ChordMoverModel", "named", "()Z"⟩, 45), (⟨"ChordMoverModel", "noted", "()Z"⟩, 45), (⟨"ChordMoverModel", "byteAt", "(I)I"⟩, 45), (⟨"ChordMoverModel", "isHere", "(Ljava/lang/String;)Z"⟩, 45), (⟨"ChordMoverModel", "changes", "()V"⟩, 45), (⟨"ChordMoverModel", "isChord", "(I)Z"⟩, 45)]
theorem lw_r2 : ∀ q ∈ lw_privs_2, lw_okq q := List.forall_mem_cons.mpr ⟨lw_p16, List.forall_mem_cons.mpr ⟨lw_p17, List.forall_mem_cons.mpr ⟨lw_p18, List.forall_mem_cons.mpr ⟨lw_p19, List.forall_mem_cons.mpr ⟨lw_p20, List.forall_mem_cons.mpr ⟨lw_p21, List.forall_mem_cons.mpr ⟨lw_p22, List.forall_mem_cons.mpr ⟨lw_p23, List.forall_mem_cons.mpr ⟨lw_p24, List.forall_mem_cons.mpr ⟨lw_p25, List.forall_mem_cons.mpr ⟨lw_p26, List.forall_mem_cons.mpr ⟨lw_p27, List.forall_mem_cons.mpr ⟨lw_p28, List.forall_mem_cons.mpr ⟨lw_p29, List.forall_mem_cons.mpr ⟨lw_p30, List.forall_mem_cons.mpr ⟨lw_p31, fun _ h => absurd h List.not_mem_nil⟩⟩⟩⟩⟩⟩⟩⟩⟩⟩⟩⟩⟩⟩⟩⟩
theorem lw_p32 : lw_okq (⟨"ChordMoverModel", "tones", "(I)I"⟩, 45) := ⟨⟨by decide +kernel, by decide +kernel⟩, List.mem_of_getElem? (i := 850) (by decide +kernel), List.mem_of_getElem? (i := 1085) (by decide +kernel), List.mem_of_getElem? (i := 1086) (by decide +kernel)⟩
theorem lw_p33 : lw_okq (⟨"ChordMoverModel", "names", "(I)V"⟩, 45) := ⟨⟨by decide +kernel, by decide +kernel⟩, List.mem_of_getElem? (i := 850) (by decide +kernel), List.mem_of_getElem? (i := 1099) (by decide +kernel), List.mem_of_getElem? (i := 1100) (by decide +kernel)⟩
theorem lw_p34 : lw_okq (⟨"ChordMoverModel", "addNote", "(I)V"⟩, 45) := ⟨⟨by decide +kernel, by decide +kernel⟩, List.mem_of_getElem? (i := 850) (by decide +kernel), List.mem_of_getElem? (i := 1103) (by decide +kernel), List.mem_of_getElem? (i := 1104) (by decide +kernel)⟩
theorem lw_p35 : lw_okq (⟨"ChordMoverModel", "add", "(I)V"⟩, 45) := ⟨⟨by decide +kernel, by decide +kernel⟩, List.mem_of_getElem? (i := 850) (by decide +kernel), List.mem_of_getElem? (i := 1108) (by decide +kernel), List.mem_of_getElem? (i := 1109) (by decide +kernel)⟩
theorem lw_p36 : lw_okq (⟨"ChordMoverModel", "says", "(I)V"⟩, 45) := ⟨⟨by decide +kernel, by decide +kernel⟩, List.mem_of_getElem? (i := 850) (by decide +kernel), List.mem_of_getElem? (i := 1112) (by decide +kernel), List.mem_of_getElem? (i := 1113) (by decide +kernel)⟩
theorem lw_p37 : lw_okq (⟨"ChordMoverModel", "writes", "(I)I"⟩, 45) := ⟨⟨by decide +kernel, by decide +kernel⟩, List.mem_of_getElem? (i := 850) (by decide +kernel), List.mem_of_getElem? (i := 1120) (by decide +kernel), List.mem_of_getElem? (i := 1121) (by decide +kernel)⟩
theorem lw_p38 : lw_okq (⟨"ChordMoverModel", "nextWord", "(I)I"⟩, 45) := ⟨⟨by decide +kernel, by decide +kernel⟩, List.mem_of_getElem? (i := 850) (by decide +kernel), List.mem_of_getElem? (i := 1127) (by decide +kernel), List.mem_of_getElem? (i := 1128) (by decide +kernel)⟩
theorem lw_p39 : lw_okq (⟨"ChordMoverModel", "kept", "()I"⟩, 45) := ⟨⟨by decide +kernel, by decide +kernel⟩, List.mem_of_getElem? (i := 850) (by decide +kernel), List.mem_of_getElem? (i := 1135) (by decide +kernel), List.mem_of_getElem? (i := 1136) (by decide +kernel)⟩
theorem lw_p40 : lw_okq (⟨"ChordMoverModel", "find", "(II)I"⟩, 45) := ⟨⟨by decide +kernel, by decide +kernel⟩, List.mem_of_getElem? (i := 850) (by decide +kernel), List.mem_of_getElem? (i := 1154) (by decide +kernel), List.mem_of_getElem? (i := 1155) (by decide +kernel)⟩
theorem lw_p41 : lw_okq (⟨"ChordMoverModel", "strain", "(III)I"⟩, 45) := ⟨⟨by decide +kernel, by decide +kernel⟩, List.mem_of_getElem? (i := 850) (by decide +kernel), List.mem_of_getElem? (i := 1158) (by decide +kernel), List.mem_of_getElem? (i := 1159) (by decide +kernel)⟩
theorem lw_p42 : lw_okq (⟨"ChordMoverModel", "comes", "(II)V"⟩, 45) := ⟨⟨by decide +kernel, by decide +kernel⟩, List.mem_of_getElem? (i := 850) (by decide +kernel), List.mem_of_getElem? (i := 1166) (by decide +kernel), List.mem_of_getElem? (i := 1167) (by decide +kernel)⟩
theorem lw_p43 : lw_okq (⟨"ChordMoverModel", "sum", "(I)I"⟩, 45) := ⟨⟨by decide +kernel, by decide +kernel⟩, List.mem_of_getElem? (i := 850) (by decide +kernel), List.mem_of_getElem? (i := 1178) (by decide +kernel), List.mem_of_getElem? (i := 1179) (by decide +kernel)⟩
theorem lw_p44 : lw_okq (⟨"ChordMoverModel", "change", "(IIIII)I"⟩, 45) := ⟨⟨by decide +kernel, by decide +kernel⟩, List.mem_of_getElem? (i := 850) (by decide +kernel), List.mem_of_getElem? (i := 1182) (by decide +kernel), List.mem_of_getElem? (i := 1183) (by decide +kernel)⟩
theorem lw_p45 : lw_okq (⟨"ChordMoverModel", "plays", "(II)V"⟩, 45) := ⟨⟨by decide +kernel, by decide +kernel⟩, List.mem_of_getElem? (i := 850) (by decide +kernel), List.mem_of_getElem? (i := 1186) (by decide +kernel), List.mem_of_getElem? (i := 1187) (by decide +kernel)⟩
def lw_privs_3 : List (MethodName × Nat) := [(⟨"ChordMoverModel", "tones", "(I)I"⟩, 45), (⟨"ChordMoverModel", "names", "(I)V"⟩, 45), (⟨"ChordMoverModel", "addNote", "(I)V"⟩, 45), (⟨"ChordMoverModel", "add", "(I)V"⟩, 45), (⟨"ChordMoverModel", "says", "(I)V"⟩, 45), (⟨"ChordMoverModel", "writes", "(I)I"⟩, 45), (⟨"ChordMoverModel", "nextWord", "(I)I"⟩, 45), (⟨"ChordMoverModel", "kept", "()I"⟩, 45), (⟨"ChordMoverModel", "find", "(II)I"⟩, 45), (⟨"ChordMoverModel", "strain", "(III)I"⟩, 45), (⟨"ChordMoverModel", "comes", "(II)V"⟩, 45), (⟨"ChordMoverModel", "sum", "(I)I"⟩, 45), (⟨"ChordMoverModel", "change", "(IIIII)I"⟩, 45), (⟨"ChordMoverModel", "plays", "(II)V"⟩, 45)]
theorem lw_r3 : ∀ q ∈ lw_privs_3, lw_okq q := List.forall_mem_cons.mpr ⟨lw_p32, List.forall_mem_cons.mpr ⟨lw_p33, List.forall_mem_cons.mpr ⟨lw_p34, List.forall_mem_cons.mpr ⟨lw_p35, List.forall_mem_cons.mpr ⟨lw_p36, List.forall_mem_cons.mpr ⟨lw_p37, List.forall_mem_cons.mpr ⟨lw_p38, List.forall_mem_cons.mpr ⟨lw_p39, List.forall_mem_cons.mpr ⟨lw_p40, List.forall_mem_cons.mpr ⟨lw_p41, List.forall_mem_cons.mpr ⟨lw_p42, List.forall_mem_cons.mpr ⟨lw_p43, List.forall_mem_cons.mpr ⟨lw_p44, List.forall_mem_cons.mpr ⟨lw_p45, fun _ h => absurd h List.not_mem_nil⟩⟩⟩⟩⟩⟩⟩⟩⟩⟩⟩⟩⟩⟩
def lw_privs : List (MethodName × Nat) := lw_privs_1 ++ (lw_privs_2 ++ (lw_privs_3))
def lw_tbl : List Cond := k2_sels lw_privs ++ tables_1
theorem lw_privs_ok : ∀ q ∈ lw_privs, lw_okq q := by
  show ∀ q ∈ lw_privs_1 ++ (lw_privs_2 ++ (lw_privs_3)), lw_okq q
  exact List.forall_mem_append.mpr ⟨lw_r1, List.forall_mem_append.mpr ⟨lw_r2, lw_r3⟩⟩
/-! ===== BEGIN words of one list among another's, by their places ===== -/
theorem goodIn_r {big : List Cond} (ws : List Cond) (ps : List Nat) (hp : ws = ps.filterMap (fun i => big[i]?)) (h : ws.all goodWord = true) : GoodIn big ws := by
  intro w hw
  have h1 := List.all_eq_true.mp h w hw
  rw [hp] at hw
  obtain ⟨i, -, hi⟩ := List.mem_filterMap.mp hw
  have hm : w ∈ big := by first | exact List.mem_of_getElem? hi | exact List.getElem?_mem hi
  exact ⟨hm, good_of_word h1⟩
theorem goodIn_app {big a b : List Cond} (ha : GoodIn big a) (hb : GoodIn big b) : GoodIn big (a ++ b) := fun w h => (List.mem_append.mp h).elim (ha w) (hb w)
theorem goodIn_ca {big a b : List Cond} {c : Cond} (ha : GoodIn big (c :: a)) (hb : GoodIn big b) : GoodIn big (c :: (a ++ b)) := fun w h => (List.mem_cons.mp h).elim (fun e => ha w (List.mem_cons.mpr (Or.inl e))) (fun h => (List.mem_append.mp h).elim (fun h => ha w (List.mem_cons.mpr (Or.inr h))) (hb w))
theorem goodIn_sub {big ws : List Cond} (hm : ∀ w ∈ ws, w ∈ big) (h : ws.all goodWord = true) : GoodIn big ws := fun w hw => ⟨hm w hw, good_of_word (List.all_eq_true.mp h w hw)⟩
/-! ===== END ===== -/
end
section
/-! ===== BEGIN printed: names, fields, word lists, decode rows ===== -/
def RX0 : String := "ChordMover$Finder"
def TX0 : u_T := fun k => match k with
  | 0 => ("ChordMover$Finder", "pitch", "[I", true)
  | 1 => ("ChordMover$Finder", "strings", "I", false)
  | 2 => ("ChordMover$Finder", "best", "[I", true)
  | 3 => ("ChordMover$Finder", "found", "I", false)
  | 4 => ("ChordMover$Finder", "frets", "[I", true)
  | 5 => ("ChordMover$Finder", "barNow", "I", false)
  | 6 => ("ChordMover$Finder", "tones", "I", false)
  | 7 => ("ChordMover$Finder", "needed", "I", false)
  | _ => ("ChordMover$Finder", "bassTone", "I", false)
def tyX0 : Nat → FieldType := fun k => match k with
  | 0 => .array .int
  | 1 => .int
  | 2 => .array .int
  | 3 => .int
  | 4 => .array .int
  | 5 => .int
  | 6 => .int
  | 7 => .int
  | _ => .int
abbrev wsX00 : List Cond := u_ws RX0 TX0 9
theorem nmX0 : ∀ a, a < 9 → ∀ b, b < 9 → a ≠ b → (TX0 a).2.1 ≠ (TX0 b).2.1 := by decide +kernel
theorem tyX0_ok : ∀ k, k < 9 → parseFieldDescriptor (TX0 k).2.2.1 = some (tyX0 k) := by decide +kernel
abbrev cX0_init : ByteArray := prog_2_method_1_code
def yX0_init : MethodName := ⟨RX0, "<init>", "()V"⟩
abbrev cX0_search : ByteArray := prog_2_method_2_code
def yX0_search : MethodName := ⟨RX0, "search", "(LChordMover$Song;II)V"⟩
abbrev cX0_layFrom : ByteArray := prog_2_method_3_code
def yX0_layFrom : MethodName := ⟨RX0, "layFrom", "(I)V"⟩
abbrev cX0_toneAt : ByteArray := prog_2_method_4_code
def yX0_toneAt : MethodName := ⟨RX0, "toneAt", "(II)I"⟩
abbrev cX0_mayFit : ByteArray := prog_2_method_5_code
def yX0_mayFit : MethodName := ⟨RX0, "mayFit", "(I)Z"⟩
abbrev cX0_strainOfFirst : ByteArray := prog_2_method_6_code
def yX0_strainOfFirst : MethodName := ⟨RX0, "strainOfFirst", "(I)I"⟩
abbrev cX0_soundingOfFirst : ByteArray := prog_2_method_7_code
def yX0_soundingOfFirst : MethodName := ⟨RX0, "soundingOfFirst", "(I)I"⟩
abbrev cX0_leastIsBass : ByteArray := prog_2_method_8_code
def yX0_leastIsBass : MethodName := ⟨RX0, "leastIsBass", "()Z"⟩
abbrev cX0_keep : ByteArray := prog_2_method_9_code
def yX0_keep : MethodName := ⟨RX0, "keep", "(I)V"⟩
def RX1 : String := "ChordMover$Hand"
def TX1 : u_T := fun k => match k with
  | _ => ("", "", "", false)
def tyX1 : Nat → FieldType := fun k => match k with
  | _ => .int
abbrev wsX10 : List Cond := u_ws RX1 TX1 0
theorem nmX1 : ∀ a, a < 0 → ∀ b, b < 0 → a ≠ b → (TX1 a).2.1 ≠ (TX1 b).2.1 := by decide +kernel
theorem tyX1_ok : ∀ k, k < 0 → parseFieldDescriptor (TX1 k).2.2.1 = some (tyX1 k) := by decide +kernel
abbrev cX1_of : ByteArray := prog_3_method_2_code
def yX1_of : MethodName := ⟨RX1, "of", "(I[II)I"⟩
abbrev cX1_strainOf : ByteArray := prog_3_method_3_code
def yX1_strainOf : MethodName := ⟨RX1, "strainOf", "(I)I"⟩
abbrev cX1_fretOf : ByteArray := prog_3_method_4_code
def yX1_fretOf : MethodName := ⟨RX1, "fretOf", "(II)I"⟩
abbrev cX1_change : ByteArray := prog_3_method_5_code
def yX1_change : MethodName := ⟨RX1, "change", "(II)I"⟩
abbrev cX1_shiftOf : ByteArray := prog_3_method_6_code
def yX1_shiftOf : MethodName := ⟨RX1, "shiftOf", "(I)I"⟩
def RX2 : String := "ChordMover$HandBook"
def TX2 : u_T := fun k => match k with
  | 0 => ("ChordMover$HandBook", "rows", "[I", true)
  | _ => ("ChordMover$HandBook", "found", "[I", true)
def tyX2 : Nat → FieldType := fun k => match k with
  | 0 => .array .int
  | _ => .array .int
abbrev wsX20 : List Cond := u_ws RX2 TX2 2
theorem nmX2 : ∀ a, a < 2 → ∀ b, b < 2 → a ≠ b → (TX2 a).2.1 ≠ (TX2 b).2.1 := by decide +kernel
theorem tyX2_ok : ∀ k, k < 2 → parseFieldDescriptor (TX2 k).2.2.1 = some (tyX2 k) := by decide +kernel
abbrev cX2_init : ByteArray := prog_4_method_1_code
def yX2_init : MethodName := ⟨RX2, "<init>", "()V"⟩
abbrev cX2_forget : ByteArray := prog_4_method_2_code
def yX2_forget : MethodName := ⟨RX2, "forget", "()V"⟩
abbrev cX2_pageOf : ByteArray := prog_4_method_3_code
def yX2_pageOf : MethodName := ⟨RX2, "pageOf", "(LChordMover$Song;LChordMover$Finder;II)I"⟩
def RX3 : String := "ChordMover$Kinds"
def TX3 : u_T := fun k => match k with
  | _ => ("", "", "", false)
def tyX3 : Nat → FieldType := fun k => match k with
  | _ => .int
abbrev wsX30 : List Cond := u_ws RX3 TX3 0
theorem nmX3 : ∀ a, a < 0 → ∀ b, b < 0 → a ≠ b → (TX3 a).2.1 ≠ (TX3 b).2.1 := by decide +kernel
theorem tyX3_ok : ∀ k, k < 0 → parseFieldDescriptor (TX3 k).2.2.1 = some (tyX3 k) := by decide +kernel
abbrev cX3_textOf : ByteArray := prog_5_method_2_code
def yX3_textOf : MethodName := ⟨RX3, "textOf", "(I)Ljava/lang/String;"⟩
abbrev cX3_tonesAbove : ByteArray := prog_5_method_3_code
def yX3_tonesAbove : MethodName := ⟨RX3, "tonesAbove", "(II)I"⟩
def RX4 : String := "ChordMover$Notes"
def TX4 : u_T := fun k => match k with
  | _ => ("", "", "", false)
def tyX4 : Nat → FieldType := fun k => match k with
  | _ => .int
abbrev wsX40 : List Cond := u_ws RX4 TX4 0
theorem nmX4 : ∀ a, a < 0 → ∀ b, b < 0 → a ≠ b → (TX4 a).2.1 ≠ (TX4 b).2.1 := by decide +kernel
theorem tyX4_ok : ∀ k, k < 0 → parseFieldDescriptor (TX4 k).2.2.1 = some (tyX4 k) := by decide +kernel
abbrev cX4_toneOf : ByteArray := prog_6_method_2_code
def yX4_toneOf : MethodName := ⟨RX4, "toneOf", "(I)I"⟩
abbrev cX4_ofLetter : ByteArray := prog_6_method_3_code
def yX4_ofLetter : MethodName := ⟨RX4, "ofLetter", "(I)I"⟩
abbrev cX4_letterOf : ByteArray := prog_6_method_4_code
def yX4_letterOf : MethodName := ⟨RX4, "letterOf", "(I)C"⟩
abbrev cX4_sharpsOf : ByteArray := prog_6_method_5_code
def yX4_sharpsOf : MethodName := ⟨RX4, "sharpsOf", "(I)I"⟩
abbrev cX4_folded : ByteArray := prog_6_method_6_code
def yX4_folded : MethodName := ⟨RX4, "folded", "(I)I"⟩
abbrev cX4_scaleOf : ByteArray := prog_6_method_7_code
def yX4_scaleOf : MethodName := ⟨RX4, "scaleOf", "(I)I"⟩
def RX5 : String := "ChordMover$Page"
def TX5 : u_T := fun k => match k with
  | 0 => ("ChordMover$Page", "kept", "[I", true)
  | _ => ("ChordMover$Page", "length", "I", false)
def tyX5 : Nat → FieldType := fun k => match k with
  | 0 => .array .int
  | _ => .int
abbrev wsX50 : List Cond := u_ws RX5 TX5 2
theorem nmX5 : ∀ a, a < 2 → ∀ b, b < 2 → a ≠ b → (TX5 a).2.1 ≠ (TX5 b).2.1 := by decide +kernel
theorem tyX5_ok : ∀ k, k < 2 → parseFieldDescriptor (TX5 k).2.2.1 = some (tyX5 k) := by decide +kernel
abbrev cX5_init : ByteArray := prog_7_method_1_code
def yX5_init : MethodName := ⟨RX5, "<init>", "()V"⟩
abbrev cX5_keptLength : ByteArray := prog_7_method_2_code
def yX5_keptLength : MethodName := ⟨RX5, "keptLength", "()I"⟩
abbrev cX5_put : ByteArray := prog_7_method_3_code
def yX5_put : MethodName := ⟨RX5, "put", "(I)V"⟩
abbrev cX5_putMany : ByteArray := prog_7_method_4_code
def yX5_putMany : MethodName := ⟨RX5, "putMany", "(II)V"⟩
abbrev cX5_putName : ByteArray := prog_7_method_5_code
def yX5_putName : MethodName := ⟨RX5, "putName", "(LChordMover$Song;I)V"⟩
abbrev cX5_putNote : ByteArray := prog_7_method_6_code
def yX5_putNote : MethodName := ⟨RX5, "putNote", "(I)V"⟩
def RX6 : String := "ChordMover$Plan"
def TX6 : u_T := fun k => match k with
  | 0 => ("ChordMover$Plan", "rest", "[I", true)
  | 1 => ("ChordMover$Plan", "next", "[I", true)
  | 2 => ("ChordMover$Plan", "first", "I", false)
  | 3 => ("ChordMover$Plan", "kept", "[I", true)
  | _ => ("ChordMover$Plan", "keptBar", "I", false)
def tyX6 : Nat → FieldType := fun k => match k with
  | 0 => .array .int
  | 1 => .array .int
  | 2 => .int
  | 3 => .array .int
  | _ => .int
abbrev wsX60 : List Cond := u_ws RX6 TX6 5
theorem nmX6 : ∀ a, a < 5 → ∀ b, b < 5 → a ≠ b → (TX6 a).2.1 ≠ (TX6 b).2.1 := by decide +kernel
theorem tyX6_ok : ∀ k, k < 5 → parseFieldDescriptor (TX6 k).2.2.1 = some (tyX6 k) := by decide +kernel
abbrev cX6_init : ByteArray := prog_8_method_1_code
def yX6_init : MethodName := ⟨RX6, "<init>", "()V"⟩
abbrev cX6_leastSum : ByteArray := prog_8_method_2_code
def yX6_leastSum : MethodName := ⟨RX6, "leastSum", "(LChordMover$Song;LChordMover$Finder;LChordMover$HandBook;I)I"⟩
abbrev cX6_weigh : ByteArray := prog_8_method_3_code
def yX6_weigh : MethodName := ⟨RX6, "weigh", "(LChordMover$HandBook;III)V"⟩
abbrev cX6_keepAt : ByteArray := prog_8_method_4_code
def yX6_keepAt : MethodName := ⟨RX6, "keepAt", "(II)V"⟩
def RX7 : String := "ChordMover$Reader"
def TX7 : u_T := fun k => match k with
  | 0 => ("ChordMover$Reader", "text", "[I", false)
  | 1 => ("ChordMover$Reader", "length", "I", false)
  | 2 => ("ChordMover$Reader", "at", "I", false)
  | 3 => ("ChordMover$Reader", "fault", "I", false)
  | _ => ("ChordMover$Reader", "place", "I", false)
def tyX7 : Nat → FieldType := fun k => match k with
  | 0 => .array .int
  | 1 => .int
  | 2 => .int
  | 3 => .int
  | _ => .int
abbrev wsX70 : List Cond := u_ws RX7 TX7 5
theorem nmX7 : ∀ a, a < 5 → ∀ b, b < 5 → a ≠ b → (TX7 a).2.1 ≠ (TX7 b).2.1 := by decide +kernel
theorem tyX7_ok : ∀ k, k < 5 → parseFieldDescriptor (TX7 k).2.2.1 = some (tyX7 k) := by decide +kernel
abbrev cX7_init : ByteArray := prog_9_method_1_code
def yX7_init : MethodName := ⟨RX7, "<init>", "()V"⟩
abbrev cX7_readInto : ByteArray := prog_9_method_2_code
def yX7_readInto : MethodName := ⟨RX7, "readInto", "(LChordMover$Song;[II)V"⟩
abbrev cX7_readItem : ByteArray := prog_9_method_3_code
def yX7_readItem : MethodName := ⟨RX7, "readItem", "(LChordMover$Song;)V"⟩
abbrev cX7_readLineEnd : ByteArray := prog_9_method_4_code
def yX7_readLineEnd : MethodName := ⟨RX7, "readLineEnd", "(LChordMover$Song;)V"⟩
abbrev cX7_readChord : ByteArray := prog_9_method_5_code
def yX7_readChord : MethodName := ⟨RX7, "readChord", "(LChordMover$Song;)V"⟩
abbrev cX7_readNote : ByteArray := prog_9_method_6_code
def yX7_readNote : MethodName := ⟨RX7, "readNote", "()I"⟩
abbrev cX7_readKind : ByteArray := prog_9_method_7_code
def yX7_readKind : MethodName := ⟨RX7, "readKind", "()I"⟩
abbrev cX7_standsHere : ByteArray := prog_9_method_8_code
def yX7_standsHere : MethodName := ⟨RX7, "standsHere", "(Ljava/lang/String;)Z"⟩
abbrev cX7_signAt : ByteArray := prog_9_method_9_code
def yX7_signAt : MethodName := ⟨RX7, "signAt", "(I)I"⟩
abbrev cX7_refuse : ByteArray := prog_9_method_10_code
def yX7_refuse : MethodName := ⟨RX7, "refuse", "(I)V"⟩
def RX8 : String := "ChordMover$Song"
def TX8 : u_T := fun k => match k with
  | 0 => ("ChordMover$Song", "items", "[I", true)
  | 1 => ("ChordMover$Song", "size", "I", false)
  | 2 => ("ChordMover$Song", "lines", "I", false)
  | 3 => ("ChordMover$Song", "chords", "I", false)
  | 4 => ("ChordMover$Song", "root", "[I", true)
  | 5 => ("ChordMover$Song", "kind", "[I", true)
  | 6 => ("ChordMover$Song", "bass", "[I", true)
  | _ => ("ChordMover$Song", "line", "[I", true)
def tyX8 : Nat → FieldType := fun k => match k with
  | 0 => .array .int
  | 1 => .int
  | 2 => .int
  | 3 => .int
  | 4 => .array .int
  | 5 => .array .int
  | 6 => .array .int
  | _ => .array .int
abbrev wsX80 : List Cond := u_ws RX8 TX8 8
theorem nmX8 : ∀ a, a < 8 → ∀ b, b < 8 → a ≠ b → (TX8 a).2.1 ≠ (TX8 b).2.1 := by decide +kernel
theorem tyX8_ok : ∀ k, k < 8 → parseFieldDescriptor (TX8 k).2.2.1 = some (tyX8 k) := by decide +kernel
abbrev cX8_init : ByteArray := prog_10_method_1_code
def yX8_init : MethodName := ⟨RX8, "<init>", "()V"⟩
abbrev cX8_startAnew : ByteArray := prog_10_method_2_code
def yX8_startAnew : MethodName := ⟨RX8, "startAnew", "()V"⟩
abbrev cX8_addItem : ByteArray := prog_10_method_3_code
def yX8_addItem : MethodName := ⟨RX8, "addItem", "(I)V"⟩
abbrev cX8_addLineEnd : ByteArray := prog_10_method_4_code
def yX8_addLineEnd : MethodName := ⟨RX8, "addLineEnd", "()V"⟩
abbrev cX8_addChord : ByteArray := prog_10_method_5_code
def yX8_addChord : MethodName := ⟨RX8, "addChord", "(III)V"⟩
abbrev cX8_hasChord : ByteArray := prog_10_method_6_code
def yX8_hasChord : MethodName := ⟨RX8, "hasChord", "(I)Z"⟩
abbrev cX8_tonesOf : ByteArray := prog_10_method_7_code
def yX8_tonesOf : MethodName := ⟨RX8, "tonesOf", "(I)I"⟩
abbrev cX8_neededOf : ByteArray := prog_10_method_8_code
def yX8_neededOf : MethodName := ⟨RX8, "neededOf", "(II)I"⟩
abbrev cX8_firstLike : ByteArray := prog_10_method_9_code
def yX8_firstLike : MethodName := ⟨RX8, "firstLike", "(I)I"⟩
abbrev cX8_shiftNotes : ByteArray := prog_10_method_10_code
def yX8_shiftNotes : MethodName := ⟨RX8, "shiftNotes", "(I)V"⟩
abbrev cX8_chordsWithin : ByteArray := prog_10_method_11_code
def yX8_chordsWithin : MethodName := ⟨RX8, "chordsWithin", "(I)I"⟩
abbrev cX8_endOfLine : ByteArray := prog_10_method_12_code
def yX8_endOfLine : MethodName := ⟨RX8, "endOfLine", "(I)I"⟩
abbrev cX8_chordsStandIn : ByteArray := prog_10_method_13_code
def yX8_chordsStandIn : MethodName := ⟨RX8, "chordsStandIn", "(II)Z"⟩
abbrev cX8_nextWordByte : ByteArray := prog_10_method_14_code
def yX8_nextWordByte : MethodName := ⟨RX8, "nextWordByte", "(II)I"⟩
def RX9 : String := "ChordMover$Writer"
def TX9 : u_T := fun k => match k with
  | _ => ("ChordMover$Writer", "gap", "[I", true)
def tyX9 : Nat → FieldType := fun k => match k with
  | _ => .array .int
abbrev wsX90 : List Cond := u_ws RX9 TX9 1
theorem nmX9 : ∀ a, a < 1 → ∀ b, b < 1 → a ≠ b → (TX9 a).2.1 ≠ (TX9 b).2.1 := by decide +kernel
theorem tyX9_ok : ∀ k, k < 1 → parseFieldDescriptor (TX9 k).2.2.1 = some (tyX9 k) := by decide +kernel
abbrev cX9_init : ByteArray := prog_11_method_1_code
def yX9_init : MethodName := ⟨RX9, "<init>", "()V"⟩
abbrev cX9_putSong : ByteArray := prog_11_method_2_code
def yX9_putSong : MethodName := ⟨RX9, "putSong", "(LChordMover$Song;LChordMover$Page;)V"⟩
abbrev cX9_putNames : ByteArray := prog_11_method_3_code
def yX9_putNames : MethodName := ⟨RX9, "putNames", "(LChordMover$Song;IILChordMover$Page;)V"⟩
abbrev cX9_putWords : ByteArray := prog_11_method_4_code
def yX9_putWords : MethodName := ⟨RX9, "putWords", "(LChordMover$Song;IILChordMover$Page;)V"⟩
abbrev cX9_isLetter : ByteArray := prog_11_method_5_code
def yX9_isLetter : MethodName := ⟨RX9, "isLetter", "(I)Z"⟩
def RX10 : String := "ChordMover"
def TX10 : u_T := fun k => match k with
  | 0 => ("ChordMover", "tape", "[I", true)
  | 1 => ("ChordMover", "tapeLength", "I", false)
  | 2 => ("ChordMover", "reader", "LChordMover$Reader;", true)
  | 3 => ("ChordMover", "current", "LChordMover$Song;", false)
  | 4 => ("ChordMover", "spare", "LChordMover$Song;", false)
  | 5 => ("ChordMover", "latestFault", "I", false)
  | 6 => ("ChordMover", "latestPlace", "I", false)
  | 7 => ("ChordMover", "keyNow", "I", false)
  | 8 => ("ChordMover", "out", "LChordMover$Page;", true)
  | 9 => ("ChordMover", "writer", "LChordMover$Writer;", true)
  | 10 => ("ChordMover", "finder", "LChordMover$Finder;", true)
  | 11 => ("ChordMover", "book", "LChordMover$HandBook;", true)
  | _ => ("ChordMover", "plan", "LChordMover$Plan;", true)
def tyX10 : Nat → FieldType := fun k => match k with
  | 0 => .array .int
  | 1 => .int
  | 2 => .object "ChordMover$Reader"
  | 3 => .object "ChordMover$Song"
  | 4 => .object "ChordMover$Song"
  | 5 => .int
  | 6 => .int
  | 7 => .int
  | 8 => .object "ChordMover$Page"
  | 9 => .object "ChordMover$Writer"
  | 10 => .object "ChordMover$Finder"
  | 11 => .object "ChordMover$HandBook"
  | _ => .object "ChordMover$Plan"
abbrev wsX100 : List Cond := u_ws RX10 TX10 13
theorem nmX10 : ∀ a, a < 13 → ∀ b, b < 13 → a ≠ b → (TX10 a).2.1 ≠ (TX10 b).2.1 := by decide +kernel
theorem tyX10_ok : ∀ k, k < 13 → parseFieldDescriptor (TX10 k).2.2.1 = some (tyX10 k) := by decide +kernel
abbrev cX10_init : ByteArray := prog_1_method_1_code
def yX10_init : MethodName := ⟨RX10, "<init>", "()V"⟩
abbrev cX10_feed : ByteArray := prog_1_method_2_code
def yX10_feed : MethodName := ⟨RX10, "feed", "(IIIII)I"⟩
abbrev cX10_song : ByteArray := prog_1_method_3_code
def yX10_song : MethodName := ⟨RX10, "song", "(I)I"⟩
abbrev cX10_fault : ByteArray := prog_1_method_4_code
def yX10_fault : MethodName := ⟨RX10, "fault", "(I)I"⟩
abbrev cX10_key : ByteArray := prog_1_method_5_code
def yX10_key : MethodName := ⟨RX10, "key", "(I)I"⟩
abbrev cX10_move : ByteArray := prog_1_method_6_code
def yX10_move : MethodName := ⟨RX10, "move", "(I)I"⟩
abbrev cX10_chord : ByteArray := prog_1_method_7_code
def yX10_chord : MethodName := ⟨RX10, "chord", "(II)I"⟩
abbrev cX10_name : ByteArray := prog_1_method_8_code
def yX10_name : MethodName := ⟨RX10, "name", "(I)I"⟩
abbrev cX10_write : ByteArray := prog_1_method_9_code
def yX10_write : MethodName := ⟨RX10, "write", "()I"⟩
abbrev cX10_told : ByteArray := prog_1_method_10_code
def yX10_told : MethodName := ⟨RX10, "told", "(I)I"⟩
abbrev cX10_string : ByteArray := prog_1_method_11_code
def yX10_string : MethodName := ⟨RX10, "string", "(I)I"⟩
abbrev cX10_unstring : ByteArray := prog_1_method_12_code
def yX10_unstring : MethodName := ⟨RX10, "unstring", "()I"⟩
abbrev cX10_hands : ByteArray := prog_1_method_13_code
def yX10_hands : MethodName := ⟨RX10, "hands", "(II)I"⟩
abbrev cX10_fret : ByteArray := prog_1_method_14_code
def yX10_fret : MethodName := ⟨RX10, "fret", "(IIII)I"⟩
abbrev cX10_play : ByteArray := prog_1_method_15_code
def yX10_play : MethodName := ⟨RX10, "play", "(I)I"⟩
abbrev cX10_easiest : ByteArray := prog_1_method_16_code
def yX10_easiest : MethodName := ⟨RX10, "easiest", "()I"⟩
abbrev cX10_played : ByteArray := prog_1_method_17_code
def yX10_played : MethodName := ⟨RX10, "played", "(I)I"⟩
abbrev cX10_guess : ByteArray := prog_1_method_18_code
def yX10_guess : MethodName := ⟨RX10, "guess", "()I"⟩
abbrev cX10_count : ByteArray := prog_1_method_19_code
def yX10_count : MethodName := ⟨RX10, "count", "(I)I"⟩
abbrev cX10_takeFour : ByteArray := prog_1_method_20_code
def yX10_takeFour : MethodName := ⟨RX10, "takeFour", "(I)V"⟩
abbrev cX10_forgetHands : ByteArray := prog_1_method_21_code
def yX10_forgetHands : MethodName := ⟨RX10, "forgetHands", "()V"⟩
abbrev cX10_isBar : ByteArray := prog_1_method_22_code
def yX10_isBar : MethodName := ⟨RX10, "isBar", "(I)Z"⟩
def RX11 : String := "ChordMoverModel"
def TX11 : u_T := fun k => match k with
  | 0 => ("ChordMoverModel", "thrown", "I", false)
  | 1 => ("ChordMoverModel", "tape", "[I", true)
  | 2 => ("ChordMoverModel", "taped", "I", false)
  | 3 => ("ChordMoverModel", "faultKind", "I", false)
  | 4 => ("ChordMoverModel", "faultPlace", "I", false)
  | 5 => ("ChordMoverModel", "isSong", "Z", false)
  | 6 => ("ChordMoverModel", "chords", "I", false)
  | 7 => ("ChordMoverModel", "lines", "I", false)
  | 8 => ("ChordMoverModel", "key", "I", false)
  | 9 => ("ChordMoverModel", "strings", "I", false)
  | 10 => ("ChordMoverModel", "playedBar", "I", false)
  | 11 => ("ChordMoverModel", "root", "[I", true)
  | 12 => ("ChordMoverModel", "kind", "[I", true)
  | 13 => ("ChordMoverModel", "bass", "[I", true)
  | 14 => ("ChordMoverModel", "line", "[I", true)
  | 15 => ("ChordMoverModel", "newRoot", "[I", true)
  | 16 => ("ChordMoverModel", "newKind", "[I", true)
  | 17 => ("ChordMoverModel", "newBass", "[I", true)
  | 18 => ("ChordMoverModel", "newLine", "[I", true)
  | 19 => ("ChordMoverModel", "song", "[I", true)
  | 20 => ("ChordMoverModel", "newSong", "[I", true)
  | 21 => ("ChordMoverModel", "size", "I", false)
  | 22 => ("ChordMoverModel", "newSize", "I", false)
  | 23 => ("ChordMoverModel", "pitch", "[I", true)
  | 24 => ("ChordMoverModel", "played", "[I", true)
  | 25 => ("ChordMoverModel", "out", "[I", true)
  | 26 => ("ChordMoverModel", "outs", "I", false)
  | 27 => ("ChordMoverModel", "at", "I", false)
  | 28 => ("ChordMoverModel", "end", "I", false)
  | 29 => ("ChordMoverModel", "note", "I", false)
  | 30 => ("ChordMoverModel", "chordsRead", "I", false)
  | 31 => ("ChordMoverModel", "linesRead", "I", false)
  | 32 => ("ChordMoverModel", "name", "[I", true)
  | 33 => ("ChordMoverModel", "nameSize", "I", false)
  | 34 => ("ChordMoverModel", "upper", "[I", true)
  | 35 => ("ChordMoverModel", "lower", "[I", true)
  | 36 => ("ChordMoverModel", "uppers", "I", false)
  | 37 => ("ChordMoverModel", "lowers", "I", false)
  | 38 => ("ChordMoverModel", "handMany", "[I", true)
  | 39 => ("ChordMoverModel", "handFret", "[I", true)
  | 40 => ("ChordMoverModel", "handStrain", "[I", true)
  | 41 => ("ChordMoverModel", "fret", "[I", true)
  | 42 => ("ChordMoverModel", "least", "[I", true)
  | 43 => ("ChordMoverModel", "most", "[I", true)
  | _ => ("ChordMoverModel", "rest", "[I", true)
def tyX11 : Nat → FieldType := fun k => match k with
  | 0 => .int
  | 1 => .array .int
  | 2 => .int
  | 3 => .int
  | 4 => .int
  | 5 => .boolean
  | 6 => .int
  | 7 => .int
  | 8 => .int
  | 9 => .int
  | 10 => .int
  | 11 => .array .int
  | 12 => .array .int
  | 13 => .array .int
  | 14 => .array .int
  | 15 => .array .int
  | 16 => .array .int
  | 17 => .array .int
  | 18 => .array .int
  | 19 => .array .int
  | 20 => .array .int
  | 21 => .int
  | 22 => .int
  | 23 => .array .int
  | 24 => .array .int
  | 25 => .array .int
  | 26 => .int
  | 27 => .int
  | 28 => .int
  | 29 => .int
  | 30 => .int
  | 31 => .int
  | 32 => .array .int
  | 33 => .int
  | 34 => .array .int
  | 35 => .array .int
  | 36 => .int
  | 37 => .int
  | 38 => .array .int
  | 39 => .array .int
  | 40 => .array .int
  | 41 => .array .int
  | 42 => .array .int
  | 43 => .array .int
  | _ => .array .int
abbrev wsX110 : List Cond := u_ws RX11 TX11 45
theorem nmX11 : ∀ a, a < 45 → ∀ b, b < 45 → a ≠ b → (TX11 a).2.1 ≠ (TX11 b).2.1 := by decide +kernel
theorem tyX11_ok : ∀ k, k < 45 → parseFieldDescriptor (TX11 k).2.2.1 = some (tyX11 k) := by decide +kernel
abbrev cX11_init : ByteArray := prog_13_method_1_code
def yX11_init : MethodName := ⟨RX11, "<init>", "()V"⟩
abbrev cX11_thrown : ByteArray := prog_13_method_2_code
def yX11_thrown : MethodName := ⟨RX11, "thrown", "()I"⟩
abbrev cX11_right : ByteArray := prog_13_method_3_code
def yX11_right : MethodName := ⟨RX11, "right", "(ZI)Z"⟩
abbrev cX11_feed : ByteArray := prog_13_method_4_code
def yX11_feed : MethodName := ⟨RX11, "feed", "(IIIII)I"⟩
abbrev cX11_lays : ByteArray := prog_13_method_5_code
def yX11_lays : MethodName := ⟨RX11, "lays", "(I)V"⟩
abbrev cX11_tone : ByteArray := prog_13_method_6_code
def yX11_tone : MethodName := ⟨RX11, "tone", "(I)I"⟩
abbrev cX11_kindOf : ByteArray := prog_13_method_7_code
def yX11_kindOf : MethodName := ⟨RX11, "kindOf", "(I)Ljava/lang/String;"⟩
abbrev cX11_tonesOf : ByteArray := prog_13_method_8_code
def yX11_tonesOf : MethodName := ⟨RX11, "tonesOf", "(I)I"⟩
abbrev cX11_tones : ByteArray := prog_13_method_9_code
def yX11_tones : MethodName := ⟨RX11, "tones", "(I)I"⟩
abbrev cX11_many : ByteArray := prog_13_method_10_code
def yX11_many : MethodName := ⟨RX11, "many", "(I)I"⟩
abbrev cX11_byteAt : ByteArray := prog_13_method_11_code
def yX11_byteAt : MethodName := ⟨RX11, "byteAt", "(I)I"⟩
abbrev cX11_placeOf : ByteArray := prog_13_method_12_code
def yX11_placeOf : MethodName := ⟨RX11, "placeOf", "(I)I"⟩
abbrev cX11_wrong : ByteArray := prog_13_method_13_code
def yX11_wrong : MethodName := ⟨RX11, "wrong", "(II)Z"⟩
abbrev cX11_noted : ByteArray := prog_13_method_14_code
def yX11_noted : MethodName := ⟨RX11, "noted", "()Z"⟩
abbrev cX11_isHere : ByteArray := prog_13_method_15_code
def yX11_isHere : MethodName := ⟨RX11, "isHere", "(Ljava/lang/String;)Z"⟩
abbrev cX11_named : ByteArray := prog_13_method_16_code
def yX11_named : MethodName := ⟨RX11, "named", "()Z"⟩
abbrev cX11_reads : ByteArray := prog_13_method_17_code
def yX11_reads : MethodName := ⟨RX11, "reads", "()Z"⟩
abbrev cX11_song : ByteArray := prog_13_method_18_code
def yX11_song : MethodName := ⟨RX11, "song", "(I)I"⟩
abbrev cX11_fault : ByteArray := prog_13_method_19_code
def yX11_fault : MethodName := ⟨RX11, "fault", "(I)I"⟩
abbrev cX11_key : ByteArray := prog_13_method_20_code
def yX11_key : MethodName := ⟨RX11, "key", "(I)I"⟩
abbrev cX11_within : ByteArray := prog_13_method_21_code
def yX11_within : MethodName := ⟨RX11, "within", "(I)I"⟩
abbrev cX11_move : ByteArray := prog_13_method_22_code
def yX11_move : MethodName := ⟨RX11, "move", "(I)I"⟩
abbrev cX11_isChord : ByteArray := prog_13_method_23_code
def yX11_isChord : MethodName := ⟨RX11, "isChord", "(I)Z"⟩
abbrev cX11_chord : ByteArray := prog_13_method_24_code
def yX11_chord : MethodName := ⟨RX11, "chord", "(II)I"⟩
abbrev cX11_add : ByteArray := prog_13_method_25_code
def yX11_add : MethodName := ⟨RX11, "add", "(I)V"⟩
abbrev cX11_addNote : ByteArray := prog_13_method_26_code
def yX11_addNote : MethodName := ⟨RX11, "addNote", "(I)V"⟩
abbrev cX11_names : ByteArray := prog_13_method_27_code
def yX11_names : MethodName := ⟨RX11, "names", "(I)V"⟩
abbrev cX11_says : ByteArray := prog_13_method_28_code
def yX11_says : MethodName := ⟨RX11, "says", "(I)V"⟩
abbrev cX11_kept : ByteArray := prog_13_method_29_code
def yX11_kept : MethodName := ⟨RX11, "kept", "()I"⟩
abbrev cX11_name : ByteArray := prog_13_method_30_code
def yX11_name : MethodName := ⟨RX11, "name", "(I)I"⟩
abbrev cX11_isLetter : ByteArray := prog_13_method_31_code
def yX11_isLetter : MethodName := ⟨RX11, "isLetter", "(I)Z"⟩
abbrev cX11_nextWord : ByteArray := prog_13_method_32_code
def yX11_nextWord : MethodName := ⟨RX11, "nextWord", "(I)I"⟩
abbrev cX11_writes : ByteArray := prog_13_method_33_code
def yX11_writes : MethodName := ⟨RX11, "writes", "(I)I"⟩
abbrev cX11_write : ByteArray := prog_13_method_34_code
def yX11_write : MethodName := ⟨RX11, "write", "()I"⟩
abbrev cX11_told : ByteArray := prog_13_method_35_code
def yX11_told : MethodName := ⟨RX11, "told", "(I)I"⟩
abbrev cX11_string : ByteArray := prog_13_method_36_code
def yX11_string : MethodName := ⟨RX11, "string", "(I)I"⟩
abbrev cX11_unstring : ByteArray := prog_13_method_37_code
def yX11_unstring : MethodName := ⟨RX11, "unstring", "()I"⟩
abbrev cX11_changes : ByteArray := prog_13_method_38_code
def yX11_changes : MethodName := ⟨RX11, "changes", "()V"⟩
abbrev cX11_find : ByteArray := prog_13_method_39_code
def yX11_find : MethodName := ⟨RX11, "find", "(II)I"⟩
abbrev cX11_strain : ByteArray := prog_13_method_40_code
def yX11_strain : MethodName := ⟨RX11, "strain", "(III)I"⟩
abbrev cX11_comes : ByteArray := prog_13_method_41_code
def yX11_comes : MethodName := ⟨RX11, "comes", "(II)V"⟩
abbrev cX11_isBar : ByteArray := prog_13_method_42_code
def yX11_isBar : MethodName := ⟨RX11, "isBar", "(I)Z"⟩
abbrev cX11_hands : ByteArray := prog_13_method_43_code
def yX11_hands : MethodName := ⟨RX11, "hands", "(II)I"⟩
abbrev cX11_fret : ByteArray := prog_13_method_44_code
def yX11_fret : MethodName := ⟨RX11, "fret", "(IIII)I"⟩
abbrev cX11_change : ByteArray := prog_13_method_45_code
def yX11_change : MethodName := ⟨RX11, "change", "(IIIII)I"⟩
abbrev cX11_sum : ByteArray := prog_13_method_46_code
def yX11_sum : MethodName := ⟨RX11, "sum", "(I)I"⟩
abbrev cX11_plays : ByteArray := prog_13_method_47_code
def yX11_plays : MethodName := ⟨RX11, "plays", "(II)V"⟩
abbrev cX11_play : ByteArray := prog_13_method_48_code
def yX11_play : MethodName := ⟨RX11, "play", "(I)I"⟩
abbrev cX11_easiest : ByteArray := prog_13_method_49_code
def yX11_easiest : MethodName := ⟨RX11, "easiest", "()I"⟩
abbrev cX11_played : ByteArray := prog_13_method_50_code
def yX11_played : MethodName := ⟨RX11, "played", "(I)I"⟩
abbrev cX11_guess : ByteArray := prog_13_method_51_code
def yX11_guess : MethodName := ⟨RX11, "guess", "()I"⟩
abbrev cX11_count : ByteArray := prog_13_method_52_code
def yX11_count : MethodName := ⟨RX11, "count", "(I)I"⟩
def RJ11 : String := "java/lang/Character"
def TJ11 : u_T := fun k => match k with
  | _ => ("", "", "", false)
def tyJ11 : Nat → FieldType := fun k => match k with
  | _ => .int
abbrev wsJ110 : List Cond := u_ws RJ11 TJ11 0
theorem nmJ11 : ∀ a, a < 0 → ∀ b, b < 0 → a ≠ b → (TJ11 a).2.1 ≠ (TJ11 b).2.1 := by decide +kernel
theorem tyJ11_ok : ∀ k, k < 0 → parseFieldDescriptor (TJ11 k).2.2.1 = some (tyJ11 k) := by decide +kernel
abbrev cJ11_isValidCodePoint_9a6ad : ByteArray := prog_14_method_11_code
def yJ11_isValidCodePoint_9a6ad : MethodName := ⟨RJ11, "isValidCodePoint", "(I)Z"⟩
abbrev cJ11_highSurrogate_5068e : ByteArray := prog_14_method_28_code
def yJ11_highSurrogate_5068e : MethodName := ⟨RJ11, "highSurrogate", "(I)C"⟩
abbrev cJ11_lowSurrogate_5068e : ByteArray := prog_14_method_29_code
def yJ11_lowSurrogate_5068e : MethodName := ⟨RJ11, "lowSurrogate", "(I)C"⟩
def RJ6 : String := "java/lang/Integer"
def TJ6 : u_T := fun k => match k with
  | _ => ("", "", "", false)
def tyJ6 : Nat → FieldType := fun k => match k with
  | _ => .int
abbrev wsJ60 : List Cond := u_ws RJ6 TJ6 0
theorem nmJ6 : ∀ a, a < 0 → ∀ b, b < 0 → a ≠ b → (TJ6 a).2.1 ≠ (TJ6 b).2.1 := by decide +kernel
theorem tyJ6_ok : ∀ k, k < 0 → parseFieldDescriptor (TJ6 k).2.2.1 = some (tyJ6 k) := by decide +kernel
abbrev cJ6_bitCount_0f7a4 : ByteArray := prog_17_method_49_code
def yJ6_bitCount_0f7a4 : MethodName := ⟨RJ6, "bitCount", "(I)I"⟩
def RJ9 : String := "java/lang/Math"
def TJ9 : u_T := fun k => match k with
  | _ => ("", "", "", false)
def tyJ9 : Nat → FieldType := fun k => match k with
  | _ => .int
abbrev wsJ90 : List Cond := u_ws RJ9 TJ9 0
theorem nmJ9 : ∀ a, a < 0 → ∀ b, b < 0 → a ≠ b → (TJ9 a).2.1 ≠ (TJ9 b).2.1 := by decide +kernel
theorem tyJ9_ok : ∀ k, k < 0 → parseFieldDescriptor (TJ9 k).2.2.1 = some (tyJ9 k) := by decide +kernel
abbrev cJ9_floorDiv_7cf53 : ByteArray := prog_18_method_47_code
def yJ9_floorDiv_7cf53 : MethodName := ⟨RJ9, "floorDiv", "(II)I"⟩
abbrev cJ9_floorMod_7cf53 : ByteArray := prog_18_method_50_code
def yJ9_floorMod_7cf53 : MethodName := ⟨RJ9, "floorMod", "(II)I"⟩
abbrev cJ9_abs_0f7a4 : ByteArray := prog_18_method_59_code
def yJ9_abs_0f7a4 : MethodName := ⟨RJ9, "abs", "(I)I"⟩
abbrev cJ9_max_7cf53 : ByteArray := prog_18_method_65_code
def yJ9_max_7cf53 : MethodName := ⟨RJ9, "max", "(II)I"⟩
abbrev cJ9_min_7cf53 : ByteArray := prog_18_method_69_code
def yJ9_min_7cf53 : MethodName := ⟨RJ9, "min", "(II)I"⟩
def RJ0 : String := "java/lang/String"
def TJ0 : u_T := fun k => match k with
  | _ => ("", "", "", false)
def tyJ0 : Nat → FieldType := fun k => match k with
  | _ => .int
abbrev wsJ00 : List Cond := u_ws RJ0 TJ0 0
theorem nmJ0 : ∀ a, a < 0 → ∀ b, b < 0 → a ≠ b → (TJ0 a).2.1 ≠ (TJ0 b).2.1 := by decide +kernel
theorem tyJ0_ok : ∀ k, k < 0 → parseFieldDescriptor (TJ0 k).2.2.1 = some (tyJ0 k) := by decide +kernel
abbrev cJ0_length_8abf5 : ByteArray := prog_20_method_54_code
def yJ0_length_8abf5 : MethodName := ⟨RJ0, "length", "()I"⟩
abbrev cJ0_charAt_5068e : ByteArray := prog_20_method_56_code
def yJ0_charAt_5068e : MethodName := ⟨RJ0, "charAt", "(I)C"⟩
abbrev cJ0_indexOf_0f7a4 : ByteArray := prog_20_method_79_code
def yJ0_indexOf_0f7a4 : MethodName := ⟨RJ0, "indexOf", "(I)I"⟩
abbrev cJ0_indexOf_7cf53 : ByteArray := prog_20_method_80_code
def yJ0_indexOf_7cf53 : MethodName := ⟨RJ0, "indexOf", "(II)I"⟩
abbrev cJ0_coder_7d493 : ByteArray := prog_20_method_152_code
def yJ0_coder_7d493 : MethodName := ⟨RJ0, "coder", "()B"⟩
abbrev cJ0_isLatin1_aae02 : ByteArray := prog_20_method_154_code
def yJ0_isLatin1_aae02 : MethodName := ⟨RJ0, "isLatin1", "()Z"⟩
abbrev cJ0_checkIndex_df160 : ByteArray := prog_20_method_155_code
def yJ0_checkIndex_df160 : MethodName := ⟨RJ0, "checkIndex", "(II)V"⟩
abbrev cJ0_checkBoundsBeginEnd_23922 : ByteArray := prog_20_method_158_code
def yJ0_checkBoundsBeginEnd_23922 : MethodName := ⟨RJ0, "checkBoundsBeginEnd", "(III)V"⟩
def RJ1 : String := "java/lang/StringLatin1"
def TJ1 : u_T := fun k => match k with
  | _ => ("", "", "", false)
def tyJ1 : Nat → FieldType := fun k => match k with
  | _ => .int
abbrev wsJ10 : List Cond := u_ws RJ1 TJ1 0
theorem nmJ1 : ∀ a, a < 0 → ∀ b, b < 0 → a ≠ b → (TJ1 a).2.1 ≠ (TJ1 b).2.1 := by decide +kernel
theorem tyJ1_ok : ∀ k, k < 0 → parseFieldDescriptor (TJ1 k).2.2.1 = some (tyJ1 k) := by decide +kernel
abbrev cJ1_charAt_3b067 : ByteArray := prog_21_method_2_code
def yJ1_charAt_3b067 : MethodName := ⟨RJ1, "charAt", "([BI)C"⟩
abbrev cJ1_canEncode_9a6ad : ByteArray := prog_21_method_4_code
def yJ1_canEncode_9a6ad : MethodName := ⟨RJ1, "canEncode", "(I)Z"⟩
abbrev cJ1_indexOf_4cfef : ByteArray := prog_21_method_22_code
def yJ1_indexOf_4cfef : MethodName := ⟨RJ1, "indexOf", "([BIII)I"⟩
abbrev cJ1_indexOfChar_4cfef : ByteArray := prog_21_method_23_code
def yJ1_indexOfChar_4cfef : MethodName := ⟨RJ1, "indexOfChar", "([BIII)I"⟩
def RJ2 : String := "java/lang/StringUTF16"
def TJ2 : u_T := fun k => match k with
  | _ => ("", "", "", false)
def tyJ2 : Nat → FieldType := fun k => match k with
  | _ => .int
abbrev wsJ20 : List Cond := u_ws RJ2 TJ2 0
theorem nmJ2 : ∀ a, a < 0 → ∀ b, b < 0 → a ≠ b → (TJ2 a).2.1 ≠ (TJ2 b).2.1 := by decide +kernel
theorem tyJ2_ok : ∀ k, k < 0 → parseFieldDescriptor (TJ2 k).2.2.1 = some (tyJ2 k) := by decide +kernel
abbrev cJ2_getChar_3b067 : ByteArray := prog_22_method_5_code
def yJ2_getChar_3b067 : MethodName := ⟨RJ2, "getChar", "([BI)C"⟩
abbrev cJ2_length_9d52b : ByteArray := prog_22_method_6_code
def yJ2_length_9d52b : MethodName := ⟨RJ2, "length", "([B)I"⟩
abbrev cJ2_indexOf_4cfef : ByteArray := prog_22_method_40_code
def yJ2_indexOf_4cfef : MethodName := ⟨RJ2, "indexOf", "([BIII)I"⟩
abbrev cJ2_indexOfChar_4cfef : ByteArray := prog_22_method_47_code
def yJ2_indexOfChar_4cfef : MethodName := ⟨RJ2, "indexOfChar", "([BIII)I"⟩
abbrev cJ2_indexOfCharUnsafe_4cfef : ByteArray := prog_22_method_48_code
def yJ2_indexOfCharUnsafe_4cfef : MethodName := ⟨RJ2, "indexOfCharUnsafe", "([BIII)I"⟩
abbrev cJ2_indexOfSupplementary_4cfef : ByteArray := prog_22_method_49_code
def yJ2_indexOfSupplementary_4cfef : MethodName := ⟨RJ2, "indexOfSupplementary", "([BIII)I"⟩
abbrev cJ2_charAt_3b067 : ByteArray := prog_22_method_83_code
def yJ2_charAt_3b067 : MethodName := ⟨RJ2, "charAt", "([BI)C"⟩
abbrev cJ2_checkIndex_2214a : ByteArray := prog_22_method_91_code
def yJ2_checkIndex_2214a : MethodName := ⟨RJ2, "checkIndex", "(I[B)V"⟩
abbrev cJ2_checkBoundsBeginEnd_d044e : ByteArray := prog_22_method_93_code
def yJ2_checkBoundsBeginEnd_d044e : MethodName := ⟨RJ2, "checkBoundsBeginEnd", "(II[B)V"⟩
def RJ10 : String := "java/lang/System"
def TJ10 : u_T := fun k => match k with
  | _ => ("", "", "", false)
def tyJ10 : Nat → FieldType := fun k => match k with
  | _ => .int
abbrev wsJ100 : List Cond := u_ws RJ10 TJ10 0
theorem nmJ10 : ∀ a, a < 0 → ∀ b, b < 0 → a ≠ b → (TJ10 a).2.1 ≠ (TJ10 b).2.1 := by decide +kernel
theorem tyJ10_ok : ∀ k, k < 0 → parseFieldDescriptor (TJ10 k).2.2.1 = some (tyJ10 k) := by decide +kernel
def RJ7 : String := "java/util/Arrays"
def TJ7 : u_T := fun k => match k with
  | _ => ("", "", "", false)
def tyJ7 : Nat → FieldType := fun k => match k with
  | _ => .int
abbrev wsJ70 : List Cond := u_ws RJ7 TJ7 0
theorem nmJ7 : ∀ a, a < 0 → ∀ b, b < 0 → a ≠ b → (TJ7 a).2.1 ≠ (TJ7 b).2.1 := by decide +kernel
theorem tyJ7_ok : ∀ k, k < 0 → parseFieldDescriptor (TJ7 k).2.2.1 = some (tyJ7 k) := by decide +kernel
abbrev cJ7_fill_53178 : ByteArray := prog_25_method_103_code
def yJ7_fill_53178 : MethodName := ⟨RJ7, "fill", "([II)V"⟩
def RJ3 : String := "jdk/internal/util/Preconditions"
def TJ3 : u_T := fun k => match k with
  | _ => ("", "", "", false)
def tyJ3 : Nat → FieldType := fun k => match k with
  | _ => .int
abbrev wsJ30 : List Cond := u_ws RJ3 TJ3 0
theorem nmJ3 : ∀ a, a < 0 → ∀ b, b < 0 → a ≠ b → (TJ3 a).2.1 ≠ (TJ3 b).2.1 := by decide +kernel
theorem tyJ3_ok : ∀ k, k < 0 → parseFieldDescriptor (TJ3 k).2.2.1 = some (tyJ3 k) := by decide +kernel
abbrev cJ3_checkIndex_8e157 : ByteArray := prog_27_method_11_code
def yJ3_checkIndex_8e157 : MethodName := ⟨RJ3, "checkIndex", "(IILjava/util/function/BiFunction;)I"⟩
abbrev cJ3_checkFromToIndex_8c36e : ByteArray := prog_27_method_12_code
def yJ3_checkFromToIndex_8c36e : MethodName := ⟨RJ3, "checkFromToIndex", "(IIILjava/util/function/BiFunction;)I"⟩
def RL : String := "ChordMoverLaw"
abbrev cL_song : ByteArray := method_3_code
def yL_song : MethodName := ⟨RL, "song", "(LChordMover;I[J)I"⟩
abbrev cL_fault : ByteArray := method_4_code
def yL_fault : MethodName := ⟨RL, "fault", "(LChordMover;I[J)I"⟩
abbrev cL_key : ByteArray := method_5_code
def yL_key : MethodName := ⟨RL, "key", "(LChordMover;I[J)I"⟩
abbrev cL_move : ByteArray := method_6_code
def yL_move : MethodName := ⟨RL, "move", "(LChordMover;I[J)I"⟩
abbrev cL_chord : ByteArray := method_7_code
def yL_chord : MethodName := ⟨RL, "chord", "(LChordMover;II[J)I"⟩
abbrev cL_name : ByteArray := method_8_code
def yL_name : MethodName := ⟨RL, "name", "(LChordMover;I[J)I"⟩
abbrev cL_told : ByteArray := method_9_code
def yL_told : MethodName := ⟨RL, "told", "(LChordMover;I[J)I"⟩
abbrev cL_string : ByteArray := method_10_code
def yL_string : MethodName := ⟨RL, "string", "(LChordMover;I[J)I"⟩
abbrev cL_hands : ByteArray := method_11_code
def yL_hands : MethodName := ⟨RL, "hands", "(LChordMover;II[J)I"⟩
abbrev cL_fret : ByteArray := method_12_code
def yL_fret : MethodName := ⟨RL, "fret", "(LChordMover;IIII[J)I"⟩
abbrev cL_play : ByteArray := method_13_code
def yL_play : MethodName := ⟨RL, "play", "(LChordMover;I[J)I"⟩
abbrev cL_count : ByteArray := method_14_code
def yL_count : MethodName := ⟨RL, "count", "(LChordMover;I[J)I"⟩
abbrev cL_law : ByteArray := code
def yL_law : MethodName := ⟨RL, "law", "([I)Z"⟩
abbrev vwCl : List vw_C := [(RX0, TX0, 9), (RX2, TX2, 2), (RX5, TX5, 2), (RX6, TX6, 5), (RX7, TX7, 5), (RX8, TX8, 8), (RX9, TX9, 1), (RX10, TX10, 13), (RX11, TX11, 45)]
end
section
theorem dX0_init_0 : decode cX0_init 0 = .ok (.aload_n 0, 1) := by decide +kernel
theorem dX0_init_1 : decode cX0_init 1 = .ok (.invokespecial 3, 3) := by decide +kernel
theorem dX0_init_4 : decode cX0_init 4 = .ok (.aload_n 0, 1) := by decide +kernel
theorem dX0_init_5 : decode cX0_init 5 = .ok (.bipush 6, 2) := by decide +kernel
theorem dX0_init_7 : decode cX0_init 7 = .ok (.newarray .int, 2) := by decide +kernel
theorem dX0_init_9 : decode cX0_init 9 = .ok (.putfield 9, 3) := by decide +kernel
theorem dX0_init_12 : decode cX0_init 12 = .ok (.aload_n 0, 1) := by decide +kernel
theorem dX0_init_13 : decode cX0_init 13 = .ok (.bipush 6, 2) := by decide +kernel
theorem dX0_init_15 : decode cX0_init 15 = .ok (.newarray .int, 2) := by decide +kernel
theorem dX0_init_17 : decode cX0_init 17 = .ok (.putfield 15, 3) := by decide +kernel
theorem dX0_init_20 : decode cX0_init 20 = .ok (.aload_n 0, 1) := by decide +kernel
theorem dX0_init_21 : decode cX0_init 21 = .ok (.bipush 6, 2) := by decide +kernel
theorem dX0_init_23 : decode cX0_init 23 = .ok (.newarray .int, 2) := by decide +kernel
theorem dX0_init_25 : decode cX0_init 25 = .ok (.putfield 18, 3) := by decide +kernel
theorem dX0_init_28 : decode cX0_init 28 = .ok (.return_, 1) := by decide +kernel
theorem dX0_search_0 : decode cX0_search 0 = .ok (.aload_n 0, 1) := by decide +kernel
theorem dX0_search_1 : decode cX0_search 1 = .ok (.iload_n 3, 1) := by decide +kernel
theorem dX0_search_2 : decode cX0_search 2 = .ok (.putfield 21, 3) := by decide +kernel
theorem dX0_search_5 : decode cX0_search 5 = .ok (.aload_n 0, 1) := by decide +kernel
theorem dX0_search_6 : decode cX0_search 6 = .ok (.aload_n 1, 1) := by decide +kernel
theorem dX0_search_7 : decode cX0_search 7 = .ok (.iload_n 2, 1) := by decide +kernel
theorem dX0_search_8 : decode cX0_search 8 = .ok (.invokevirtual 25, 3) := by decide +kernel
theorem dX0_search_11 : decode cX0_search 11 = .ok (.putfield 31, 3) := by decide +kernel
theorem dX0_search_14 : decode cX0_search 14 = .ok (.aload_n 0, 1) := by decide +kernel
theorem dX0_search_15 : decode cX0_search 15 = .ok (.aload_n 1, 1) := by decide +kernel
theorem dX0_search_16 : decode cX0_search 16 = .ok (.iload_n 2, 1) := by decide +kernel
theorem dX0_search_17 : decode cX0_search 17 = .ok (.aload_n 0, 1) := by decide +kernel
theorem dX0_search_18 : decode cX0_search 18 = .ok (.getfield 31, 3) := by decide +kernel
theorem dX0_search_21 : decode cX0_search 21 = .ok (.invokevirtual 34, 3) := by decide +kernel
theorem dX0_search_24 : decode cX0_search 24 = .ok (.putfield 38, 3) := by decide +kernel
theorem dX0_search_27 : decode cX0_search 27 = .ok (.aload_n 0, 1) := by decide +kernel
theorem dX0_search_28 : decode cX0_search 28 = .ok (.aload_n 1, 1) := by decide +kernel
theorem dX0_search_29 : decode cX0_search 29 = .ok (.getfield 41, 3) := by decide +kernel
theorem dX0_search_32 : decode cX0_search 32 = .ok (.iload_n 2, 1) := by decide +kernel
theorem dX0_search_33 : decode cX0_search 33 = .ok (.iaload, 1) := by decide +kernel
theorem dX0_search_34 : decode cX0_search 34 = .ok (.invokestatic 44, 3) := by decide +kernel
theorem dX0_search_37 : decode cX0_search 37 = .ok (.putfield 49, 3) := by decide +kernel
theorem dX0_search_40 : decode cX0_search 40 = .ok (.aload_n 0, 1) := by decide +kernel
theorem dX0_search_41 : decode cX0_search 41 = .ok (.iconst 0, 1) := by decide +kernel
theorem dX0_search_42 : decode cX0_search 42 = .ok (.putfield 52, 3) := by decide +kernel
theorem dX0_search_45 : decode cX0_search 45 = .ok (.aload_n 0, 1) := by decide +kernel
theorem dX0_search_46 : decode cX0_search 46 = .ok (.iconst 0, 1) := by decide +kernel
theorem dX0_search_47 : decode cX0_search 47 = .ok (.invokevirtual 55, 3) := by decide +kernel
theorem dX0_search_50 : decode cX0_search 50 = .ok (.return_, 1) := by decide +kernel
theorem dX0_layFrom_0 : decode cX0_layFrom 0 = .ok (.iload_n 1, 1) := by decide +kernel
theorem dX0_layFrom_1 : decode cX0_layFrom 1 = .ok (.aload_n 0, 1) := by decide +kernel
theorem dX0_layFrom_2 : decode cX0_layFrom 2 = .ok (.getfield 59, 3) := by decide +kernel
theorem dX0_layFrom_5 : decode cX0_layFrom 5 = .ok (.if_icmp .ge 9, 3) := by decide +kernel
theorem dX0_layFrom_8 : decode cX0_layFrom 8 = .ok (.iload_n 1, 1) := by decide +kernel
theorem dX0_layFrom_9 : decode cX0_layFrom 9 = .ok (.bipush 6, 2) := by decide +kernel
theorem dX0_layFrom_11 : decode cX0_layFrom 11 = .ok (.if_icmp .lt 34, 3) := by decide +kernel
theorem dX0_layFrom_14 : decode cX0_layFrom 14 = .ok (.aload_n 0, 1) := by decide +kernel
theorem dX0_layFrom_15 : decode cX0_layFrom 15 = .ok (.invokevirtual 62, 3) := by decide +kernel
theorem dX0_layFrom_18 : decode cX0_layFrom 18 = .ok (.ifCond .eq 26, 3) := by decide +kernel
theorem dX0_layFrom_21 : decode cX0_layFrom 21 = .ok (.aload_n 0, 1) := by decide +kernel
theorem dX0_layFrom_22 : decode cX0_layFrom 22 = .ok (.aload_n 0, 1) := by decide +kernel
theorem dX0_layFrom_23 : decode cX0_layFrom 23 = .ok (.aload_n 0, 1) := by decide +kernel
theorem dX0_layFrom_24 : decode cX0_layFrom 24 = .ok (.getfield 59, 3) := by decide +kernel
theorem dX0_layFrom_27 : decode cX0_layFrom 27 = .ok (.invokevirtual 66, 3) := by decide +kernel
theorem dX0_layFrom_30 : decode cX0_layFrom 30 = .ok (.aload_n 0, 1) := by decide +kernel
theorem dX0_layFrom_31 : decode cX0_layFrom 31 = .ok (.getfield 18, 3) := by decide +kernel
theorem dX0_layFrom_34 : decode cX0_layFrom 34 = .ok (.aload_n 0, 1) := by decide +kernel
theorem dX0_layFrom_35 : decode cX0_layFrom 35 = .ok (.getfield 59, 3) := by decide +kernel
theorem dX0_layFrom_38 : decode cX0_layFrom 38 = .ok (.invokestatic 69, 3) := by decide +kernel
theorem dX0_layFrom_41 : decode cX0_layFrom 41 = .ok (.invokevirtual 75, 3) := by decide +kernel
theorem dX0_layFrom_44 : decode cX0_layFrom 44 = .ok (.return_, 1) := by decide +kernel
theorem dX0_layFrom_45 : decode cX0_layFrom 45 = .ok (.iconst (-1), 1) := by decide +kernel
theorem dX0_layFrom_46 : decode cX0_layFrom 46 = .ok (.istore_n 2, 1) := by decide +kernel
theorem dX0_layFrom_47 : decode cX0_layFrom 47 = .ok (.iload_n 2, 1) := by decide +kernel
theorem dX0_layFrom_48 : decode cX0_layFrom 48 = .ok (.bipush 9, 2) := by decide +kernel
theorem dX0_layFrom_50 : decode cX0_layFrom 50 = .ok (.if_icmp .gt 55, 3) := by decide +kernel
theorem dX0_layFrom_53 : decode cX0_layFrom 53 = .ok (.iload_n 2, 1) := by decide +kernel
theorem dX0_layFrom_54 : decode cX0_layFrom 54 = .ok (.iconst (-1), 1) := by decide +kernel
theorem dX0_layFrom_55 : decode cX0_layFrom 55 = .ok (.if_icmp .eq 20, 3) := by decide +kernel
theorem dX0_layFrom_58 : decode cX0_layFrom 58 = .ok (.aload_n 0, 1) := by decide +kernel
theorem dX0_layFrom_59 : decode cX0_layFrom 59 = .ok (.getfield 31, 3) := by decide +kernel
theorem dX0_layFrom_62 : decode cX0_layFrom 62 = .ok (.aload_n 0, 1) := by decide +kernel
theorem dX0_layFrom_63 : decode cX0_layFrom 63 = .ok (.iload_n 1, 1) := by decide +kernel
theorem dX0_layFrom_64 : decode cX0_layFrom 64 = .ok (.iload_n 2, 1) := by decide +kernel
theorem dX0_layFrom_65 : decode cX0_layFrom 65 = .ok (.invokevirtual 78, 3) := by decide +kernel
theorem dX0_layFrom_68 : decode cX0_layFrom 68 = .ok (.ishr, 1) := by decide +kernel
theorem dX0_layFrom_69 : decode cX0_layFrom 69 = .ok (.iconst 1, 1) := by decide +kernel
theorem dX0_layFrom_70 : decode cX0_layFrom 70 = .ok (.iand, 1) := by decide +kernel
theorem dX0_layFrom_71 : decode cX0_layFrom 71 = .ok (.iconst 1, 1) := by decide +kernel
theorem dX0_layFrom_72 : decode cX0_layFrom 72 = .ok (.if_icmp .ne 27, 3) := by decide +kernel
theorem dX0_layFrom_75 : decode cX0_layFrom 75 = .ok (.aload_n 0, 1) := by decide +kernel
theorem dX0_layFrom_76 : decode cX0_layFrom 76 = .ok (.getfield 18, 3) := by decide +kernel
theorem dX0_layFrom_79 : decode cX0_layFrom 79 = .ok (.iload_n 1, 1) := by decide +kernel
theorem dX0_layFrom_80 : decode cX0_layFrom 80 = .ok (.iload_n 2, 1) := by decide +kernel
theorem dX0_layFrom_81 : decode cX0_layFrom 81 = .ok (.iastore, 1) := by decide +kernel
theorem dX0_layFrom_82 : decode cX0_layFrom 82 = .ok (.aload_n 0, 1) := by decide +kernel
theorem dX0_layFrom_83 : decode cX0_layFrom 83 = .ok (.iload_n 1, 1) := by decide +kernel
theorem dX0_layFrom_84 : decode cX0_layFrom 84 = .ok (.iconst 1, 1) := by decide +kernel
theorem dX0_layFrom_85 : decode cX0_layFrom 85 = .ok (.iadd, 1) := by decide +kernel
theorem dX0_layFrom_86 : decode cX0_layFrom 86 = .ok (.invokevirtual 81, 3) := by decide +kernel
theorem dX0_layFrom_89 : decode cX0_layFrom 89 = .ok (.ifCond .eq 10, 3) := by decide +kernel
theorem dX0_layFrom_92 : decode cX0_layFrom 92 = .ok (.aload_n 0, 1) := by decide +kernel
theorem dX0_layFrom_93 : decode cX0_layFrom 93 = .ok (.iload_n 1, 1) := by decide +kernel
theorem dX0_layFrom_94 : decode cX0_layFrom 94 = .ok (.iconst 1, 1) := by decide +kernel
theorem dX0_layFrom_95 : decode cX0_layFrom 95 = .ok (.iadd, 1) := by decide +kernel
theorem dX0_layFrom_96 : decode cX0_layFrom 96 = .ok (.invokevirtual 55, 3) := by decide +kernel
theorem dX0_layFrom_99 : decode cX0_layFrom 99 = .ok (.iinc 2 1, 3) := by decide +kernel
theorem dX0_layFrom_102 : decode cX0_layFrom 102 = .ok (.goto (-55), 3) := by decide +kernel
theorem dX0_layFrom_105 : decode cX0_layFrom 105 = .ok (.return_, 1) := by decide +kernel
theorem dX0_toneAt_0 : decode cX0_toneAt 0 = .ok (.aload_n 0, 1) := by decide +kernel
theorem dX0_toneAt_1 : decode cX0_toneAt 1 = .ok (.getfield 9, 3) := by decide +kernel
theorem dX0_toneAt_4 : decode cX0_toneAt 4 = .ok (.iload_n 1, 1) := by decide +kernel
theorem dX0_toneAt_5 : decode cX0_toneAt 5 = .ok (.iaload, 1) := by decide +kernel
theorem dX0_toneAt_6 : decode cX0_toneAt 6 = .ok (.aload_n 0, 1) := by decide +kernel
theorem dX0_toneAt_7 : decode cX0_toneAt 7 = .ok (.getfield 21, 3) := by decide +kernel
theorem dX0_toneAt_10 : decode cX0_toneAt 10 = .ok (.iadd, 1) := by decide +kernel
theorem dX0_toneAt_11 : decode cX0_toneAt 11 = .ok (.iload_n 2, 1) := by decide +kernel
theorem dX0_toneAt_12 : decode cX0_toneAt 12 = .ok (.iadd, 1) := by decide +kernel
theorem dX0_toneAt_13 : decode cX0_toneAt 13 = .ok (.bipush 12, 2) := by decide +kernel
theorem dX0_toneAt_15 : decode cX0_toneAt 15 = .ok (.irem, 1) := by decide +kernel
theorem dX0_toneAt_16 : decode cX0_toneAt 16 = .ok (.ireturn, 1) := by decide +kernel
theorem dX0_mayFit_0 : decode cX0_mayFit 0 = .ok (.aload_n 0, 1) := by decide +kernel
theorem dX0_mayFit_1 : decode cX0_mayFit 1 = .ok (.iload_n 1, 1) := by decide +kernel
theorem dX0_mayFit_2 : decode cX0_mayFit 2 = .ok (.invokevirtual 66, 3) := by decide +kernel
theorem dX0_mayFit_5 : decode cX0_mayFit 5 = .ok (.istore_n 2, 1) := by decide +kernel
theorem dX0_mayFit_6 : decode cX0_mayFit 6 = .ok (.iload_n 2, 1) := by decide +kernel
theorem dX0_mayFit_7 : decode cX0_mayFit 7 = .ok (.iconst (-1), 1) := by decide +kernel
theorem dX0_mayFit_8 : decode cX0_mayFit 8 = .ok (.if_icmp .ne 5, 3) := by decide +kernel
theorem dX0_mayFit_11 : decode cX0_mayFit 11 = .ok (.iconst 0, 1) := by decide +kernel
theorem dX0_mayFit_12 : decode cX0_mayFit 12 = .ok (.ireturn, 1) := by decide +kernel
theorem dX0_mayFit_13 : decode cX0_mayFit 13 = .ok (.aload_n 0, 1) := by decide +kernel
theorem dX0_mayFit_14 : decode cX0_mayFit 14 = .ok (.getfield 52, 3) := by decide +kernel
theorem dX0_mayFit_17 : decode cX0_mayFit 17 = .ok (.bipush 6, 2) := by decide +kernel
theorem dX0_mayFit_19 : decode cX0_mayFit 19 = .ok (.if_icmp .ne 18, 3) := by decide +kernel
theorem dX0_mayFit_22 : decode cX0_mayFit 22 = .ok (.iload_n 2, 1) := by decide +kernel
theorem dX0_mayFit_23 : decode cX0_mayFit 23 = .ok (.aload_n 0, 1) := by decide +kernel
theorem dX0_mayFit_24 : decode cX0_mayFit 24 = .ok (.getfield 15, 3) := by decide +kernel
theorem dX0_mayFit_27 : decode cX0_mayFit 27 = .ok (.iconst 5, 1) := by decide +kernel
theorem dX0_mayFit_28 : decode cX0_mayFit 28 = .ok (.iaload, 1) := by decide +kernel
theorem dX0_mayFit_29 : decode cX0_mayFit 29 = .ok (.invokestatic 85, 3) := by decide +kernel
theorem dX0_mayFit_32 : decode cX0_mayFit 32 = .ok (.if_icmp .lt 5, 3) := by decide +kernel
theorem dX0_mayFit_35 : decode cX0_mayFit 35 = .ok (.iconst 0, 1) := by decide +kernel
theorem dX0_mayFit_36 : decode cX0_mayFit 36 = .ok (.ireturn, 1) := by decide +kernel
theorem dX0_mayFit_37 : decode cX0_mayFit 37 = .ok (.aload_n 0, 1) := by decide +kernel
theorem dX0_mayFit_38 : decode cX0_mayFit 38 = .ok (.getfield 38, 3) := by decide +kernel
theorem dX0_mayFit_41 : decode cX0_mayFit 41 = .ok (.aload_n 0, 1) := by decide +kernel
theorem dX0_mayFit_42 : decode cX0_mayFit 42 = .ok (.iload_n 1, 1) := by decide +kernel
theorem dX0_mayFit_43 : decode cX0_mayFit 43 = .ok (.invokevirtual 88, 3) := by decide +kernel
theorem dX0_mayFit_46 : decode cX0_mayFit 46 = .ok (.iconst (-1), 1) := by decide +kernel
theorem dX0_mayFit_47 : decode cX0_mayFit 47 = .ok (.ixor, 1) := by decide +kernel
theorem dX0_mayFit_48 : decode cX0_mayFit 48 = .ok (.iand, 1) := by decide +kernel
theorem dX0_mayFit_49 : decode cX0_mayFit 49 = .ok (.invokestatic 91, 3) := by decide +kernel
theorem dX0_mayFit_52 : decode cX0_mayFit 52 = .ok (.aload_n 0, 1) := by decide +kernel
theorem dX0_mayFit_53 : decode cX0_mayFit 53 = .ok (.getfield 59, 3) := by decide +kernel
theorem dX0_mayFit_56 : decode cX0_mayFit 56 = .ok (.iload_n 1, 1) := by decide +kernel
theorem dX0_mayFit_57 : decode cX0_mayFit 57 = .ok (.isub, 1) := by decide +kernel
theorem dX0_mayFit_58 : decode cX0_mayFit 58 = .ok (.if_icmp .gt 7, 3) := by decide +kernel
theorem dX0_mayFit_61 : decode cX0_mayFit 61 = .ok (.iconst 1, 1) := by decide +kernel
theorem dX0_mayFit_62 : decode cX0_mayFit 62 = .ok (.goto 4, 3) := by decide +kernel
theorem dX0_mayFit_65 : decode cX0_mayFit 65 = .ok (.iconst 0, 1) := by decide +kernel
theorem dX0_mayFit_66 : decode cX0_mayFit 66 = .ok (.ireturn, 1) := by decide +kernel
theorem dX0_strainOfFirst_0 : decode cX0_strainOfFirst 0 = .ok (.iconst 0, 1) := by decide +kernel
theorem dX0_strainOfFirst_1 : decode cX0_strainOfFirst 1 = .ok (.istore_n 2, 1) := by decide +kernel
theorem dX0_strainOfFirst_2 : decode cX0_strainOfFirst 2 = .ok (.iconst 0, 1) := by decide +kernel
theorem dX0_strainOfFirst_3 : decode cX0_strainOfFirst 3 = .ok (.istore_n 3, 1) := by decide +kernel
theorem dX0_strainOfFirst_4 : decode cX0_strainOfFirst 4 = .ok (.iconst 0, 1) := by decide +kernel
theorem dX0_strainOfFirst_5 : decode cX0_strainOfFirst 5 = .ok (.istore 4, 2) := by decide +kernel
theorem dX0_strainOfFirst_7 : decode cX0_strainOfFirst 7 = .ok (.iconst 0, 1) := by decide +kernel
theorem dX0_strainOfFirst_8 : decode cX0_strainOfFirst 8 = .ok (.istore 5, 2) := by decide +kernel
theorem dX0_strainOfFirst_10 : decode cX0_strainOfFirst 10 = .ok (.bipush 9, 2) := by decide +kernel
theorem dX0_strainOfFirst_12 : decode cX0_strainOfFirst 12 = .ok (.istore 6, 2) := by decide +kernel
theorem dX0_strainOfFirst_14 : decode cX0_strainOfFirst 14 = .ok (.iconst 0, 1) := by decide +kernel
theorem dX0_strainOfFirst_15 : decode cX0_strainOfFirst 15 = .ok (.istore 7, 2) := by decide +kernel
theorem dX0_strainOfFirst_17 : decode cX0_strainOfFirst 17 = .ok (.iconst 0, 1) := by decide +kernel
theorem dX0_strainOfFirst_18 : decode cX0_strainOfFirst 18 = .ok (.istore 8, 2) := by decide +kernel
theorem dX0_strainOfFirst_20 : decode cX0_strainOfFirst 20 = .ok (.iload 8, 2) := by decide +kernel
theorem dX0_strainOfFirst_22 : decode cX0_strainOfFirst 22 = .ok (.iload_n 1, 1) := by decide +kernel
theorem dX0_strainOfFirst_23 : decode cX0_strainOfFirst 23 = .ok (.if_icmp .ge 98, 3) := by decide +kernel
theorem dX0_strainOfFirst_26 : decode cX0_strainOfFirst 26 = .ok (.iload 8, 2) := by decide +kernel
theorem dX0_strainOfFirst_28 : decode cX0_strainOfFirst 28 = .ok (.bipush 6, 2) := by decide +kernel
theorem dX0_strainOfFirst_30 : decode cX0_strainOfFirst 30 = .ok (.if_icmp .ge 91, 3) := by decide +kernel
theorem dX0_strainOfFirst_33 : decode cX0_strainOfFirst 33 = .ok (.aload_n 0, 1) := by decide +kernel
theorem dX0_strainOfFirst_34 : decode cX0_strainOfFirst 34 = .ok (.getfield 18, 3) := by decide +kernel
theorem dX0_strainOfFirst_37 : decode cX0_strainOfFirst 37 = .ok (.iload 8, 2) := by decide +kernel
theorem dX0_strainOfFirst_39 : decode cX0_strainOfFirst 39 = .ok (.iaload, 1) := by decide +kernel
theorem dX0_strainOfFirst_40 : decode cX0_strainOfFirst 40 = .ok (.istore 9, 2) := by decide +kernel
theorem dX0_strainOfFirst_42 : decode cX0_strainOfFirst 42 = .ok (.iload 9, 2) := by decide +kernel
theorem dX0_strainOfFirst_44 : decode cX0_strainOfFirst 44 = .ok (.iconst (-1), 1) := by decide +kernel
theorem dX0_strainOfFirst_45 : decode cX0_strainOfFirst 45 = .ok (.if_icmp .ne 9, 3) := by decide +kernel
theorem dX0_strainOfFirst_48 : decode cX0_strainOfFirst 48 = .ok (.iinc 2 1, 3) := by decide +kernel
theorem dX0_strainOfFirst_51 : decode cX0_strainOfFirst 51 = .ok (.goto 64, 3) := by decide +kernel
theorem dX0_strainOfFirst_54 : decode cX0_strainOfFirst 54 = .ok (.iload 9, 2) := by decide +kernel
theorem dX0_strainOfFirst_56 : decode cX0_strainOfFirst 56 = .ok (.ifCond .ne 9, 3) := by decide +kernel
theorem dX0_strainOfFirst_59 : decode cX0_strainOfFirst 59 = .ok (.iinc 3 1, 3) := by decide +kernel
theorem dX0_strainOfFirst_62 : decode cX0_strainOfFirst 62 = .ok (.goto 53, 3) := by decide +kernel
theorem dX0_strainOfFirst_65 : decode cX0_strainOfFirst 65 = .ok (.iinc 4 1, 3) := by decide +kernel
theorem dX0_strainOfFirst_68 : decode cX0_strainOfFirst 68 = .ok (.iload 9, 2) := by decide +kernel
theorem dX0_strainOfFirst_70 : decode cX0_strainOfFirst 70 = .ok (.iload 5, 2) := by decide +kernel
theorem dX0_strainOfFirst_72 : decode cX0_strainOfFirst 72 = .ok (.if_icmp .le 8, 3) := by decide +kernel
theorem dX0_strainOfFirst_75 : decode cX0_strainOfFirst 75 = .ok (.iload 9, 2) := by decide +kernel
theorem dX0_strainOfFirst_77 : decode cX0_strainOfFirst 77 = .ok (.goto 5, 3) := by decide +kernel
theorem dX0_strainOfFirst_80 : decode cX0_strainOfFirst 80 = .ok (.iload 5, 2) := by decide +kernel
theorem dX0_strainOfFirst_82 : decode cX0_strainOfFirst 82 = .ok (.istore 5, 2) := by decide +kernel
theorem dX0_strainOfFirst_84 : decode cX0_strainOfFirst 84 = .ok (.iload 9, 2) := by decide +kernel
theorem dX0_strainOfFirst_86 : decode cX0_strainOfFirst 86 = .ok (.iload 6, 2) := by decide +kernel
theorem dX0_strainOfFirst_88 : decode cX0_strainOfFirst 88 = .ok (.if_icmp .ge 10, 3) := by decide +kernel
theorem dX0_strainOfFirst_91 : decode cX0_strainOfFirst 91 = .ok (.iload 9, 2) := by decide +kernel
theorem dX0_strainOfFirst_93 : decode cX0_strainOfFirst 93 = .ok (.istore 6, 2) := by decide +kernel
theorem dX0_strainOfFirst_95 : decode cX0_strainOfFirst 95 = .ok (.iconst 0, 1) := by decide +kernel
theorem dX0_strainOfFirst_96 : decode cX0_strainOfFirst 96 = .ok (.istore 7, 2) := by decide +kernel
theorem dX0_strainOfFirst_98 : decode cX0_strainOfFirst 98 = .ok (.iload 7, 2) := by decide +kernel
theorem dX0_strainOfFirst_100 : decode cX0_strainOfFirst 100 = .ok (.iload 9, 2) := by decide +kernel
theorem dX0_strainOfFirst_102 : decode cX0_strainOfFirst 102 = .ok (.iload 6, 2) := by decide +kernel
theorem dX0_strainOfFirst_104 : decode cX0_strainOfFirst 104 = .ok (.if_icmp .ne 7, 3) := by decide +kernel
theorem dX0_strainOfFirst_107 : decode cX0_strainOfFirst 107 = .ok (.iconst 1, 1) := by decide +kernel
theorem dX0_strainOfFirst_108 : decode cX0_strainOfFirst 108 = .ok (.goto 4, 3) := by decide +kernel
theorem dX0_strainOfFirst_111 : decode cX0_strainOfFirst 111 = .ok (.iconst 0, 1) := by decide +kernel
theorem dX0_strainOfFirst_112 : decode cX0_strainOfFirst 112 = .ok (.iadd, 1) := by decide +kernel
theorem dX0_strainOfFirst_113 : decode cX0_strainOfFirst 113 = .ok (.istore 7, 2) := by decide +kernel
theorem dX0_strainOfFirst_115 : decode cX0_strainOfFirst 115 = .ok (.iinc 8 1, 3) := by decide +kernel
theorem dX0_strainOfFirst_118 : decode cX0_strainOfFirst 118 = .ok (.goto (-98), 3) := by decide +kernel
theorem dX0_strainOfFirst_121 : decode cX0_strainOfFirst 121 = .ok (.iload_n 3, 1) := by decide +kernel
theorem dX0_strainOfFirst_122 : decode cX0_strainOfFirst 122 = .ok (.ifCond .ne 18, 3) := by decide +kernel
theorem dX0_strainOfFirst_125 : decode cX0_strainOfFirst 125 = .ok (.iload 4, 2) := by decide +kernel
theorem dX0_strainOfFirst_127 : decode cX0_strainOfFirst 127 = .ok (.ifCond .le 13, 3) := by decide +kernel
theorem dX0_strainOfFirst_130 : decode cX0_strainOfFirst 130 = .ok (.iload 4, 2) := by decide +kernel
theorem dX0_strainOfFirst_132 : decode cX0_strainOfFirst 132 = .ok (.iload 7, 2) := by decide +kernel
theorem dX0_strainOfFirst_134 : decode cX0_strainOfFirst 134 = .ok (.isub, 1) := by decide +kernel
theorem dX0_strainOfFirst_135 : decode cX0_strainOfFirst 135 = .ok (.iconst 1, 1) := by decide +kernel
theorem dX0_strainOfFirst_136 : decode cX0_strainOfFirst 136 = .ok (.iadd, 1) := by decide +kernel
theorem dX0_strainOfFirst_137 : decode cX0_strainOfFirst 137 = .ok (.goto 5, 3) := by decide +kernel
theorem dX0_strainOfFirst_140 : decode cX0_strainOfFirst 140 = .ok (.iload 4, 2) := by decide +kernel
theorem dX0_strainOfFirst_142 : decode cX0_strainOfFirst 142 = .ok (.istore 8, 2) := by decide +kernel
theorem dX0_strainOfFirst_144 : decode cX0_strainOfFirst 144 = .ok (.iload 5, 2) := by decide +kernel
theorem dX0_strainOfFirst_146 : decode cX0_strainOfFirst 146 = .ok (.iload 6, 2) := by decide +kernel
theorem dX0_strainOfFirst_148 : decode cX0_strainOfFirst 148 = .ok (.isub, 1) := by decide +kernel
theorem dX0_strainOfFirst_149 : decode cX0_strainOfFirst 149 = .ok (.iconst 3, 1) := by decide +kernel
theorem dX0_strainOfFirst_150 : decode cX0_strainOfFirst 150 = .ok (.if_icmp .gt 9, 3) := by decide +kernel
theorem dX0_strainOfFirst_153 : decode cX0_strainOfFirst 153 = .ok (.iload 8, 2) := by decide +kernel
theorem dX0_strainOfFirst_155 : decode cX0_strainOfFirst 155 = .ok (.iconst 4, 1) := by decide +kernel
theorem dX0_strainOfFirst_156 : decode cX0_strainOfFirst 156 = .ok (.if_icmp .le 5, 3) := by decide +kernel
theorem dX0_strainOfFirst_159 : decode cX0_strainOfFirst 159 = .ok (.iconst (-1), 1) := by decide +kernel
theorem dX0_strainOfFirst_160 : decode cX0_strainOfFirst 160 = .ok (.ireturn, 1) := by decide +kernel
theorem dX0_strainOfFirst_161 : decode cX0_strainOfFirst 161 = .ok (.iconst 3, 1) := by decide +kernel
theorem dX0_strainOfFirst_162 : decode cX0_strainOfFirst 162 = .ok (.iload 8, 2) := by decide +kernel
theorem dX0_strainOfFirst_164 : decode cX0_strainOfFirst 164 = .ok (.imul, 1) := by decide +kernel
theorem dX0_strainOfFirst_165 : decode cX0_strainOfFirst 165 = .ok (.iload 5, 2) := by decide +kernel
theorem dX0_strainOfFirst_167 : decode cX0_strainOfFirst 167 = .ok (.iadd, 1) := by decide +kernel
theorem dX0_strainOfFirst_168 : decode cX0_strainOfFirst 168 = .ok (.iconst 4, 1) := by decide +kernel
theorem dX0_strainOfFirst_169 : decode cX0_strainOfFirst 169 = .ok (.iload_n 2, 1) := by decide +kernel
theorem dX0_strainOfFirst_170 : decode cX0_strainOfFirst 170 = .ok (.imul, 1) := by decide +kernel
theorem dX0_strainOfFirst_171 : decode cX0_strainOfFirst 171 = .ok (.iadd, 1) := by decide +kernel
theorem dX0_strainOfFirst_172 : decode cX0_strainOfFirst 172 = .ok (.ireturn, 1) := by decide +kernel
theorem dX0_soundingOfFirst_0 : decode cX0_soundingOfFirst 0 = .ok (.iconst 0, 1) := by decide +kernel
theorem dX0_soundingOfFirst_1 : decode cX0_soundingOfFirst 1 = .ok (.istore_n 2, 1) := by decide +kernel
theorem dX0_soundingOfFirst_2 : decode cX0_soundingOfFirst 2 = .ok (.iconst 0, 1) := by decide +kernel
theorem dX0_soundingOfFirst_3 : decode cX0_soundingOfFirst 3 = .ok (.istore_n 3, 1) := by decide +kernel
theorem dX0_soundingOfFirst_4 : decode cX0_soundingOfFirst 4 = .ok (.iload_n 3, 1) := by decide +kernel
theorem dX0_soundingOfFirst_5 : decode cX0_soundingOfFirst 5 = .ok (.iload_n 1, 1) := by decide +kernel
theorem dX0_soundingOfFirst_6 : decode cX0_soundingOfFirst 6 = .ok (.if_icmp .ge 41, 3) := by decide +kernel
theorem dX0_soundingOfFirst_9 : decode cX0_soundingOfFirst 9 = .ok (.iload_n 3, 1) := by decide +kernel
theorem dX0_soundingOfFirst_10 : decode cX0_soundingOfFirst 10 = .ok (.bipush 6, 2) := by decide +kernel
theorem dX0_soundingOfFirst_12 : decode cX0_soundingOfFirst 12 = .ok (.if_icmp .ge 35, 3) := by decide +kernel
theorem dX0_soundingOfFirst_15 : decode cX0_soundingOfFirst 15 = .ok (.aload_n 0, 1) := by decide +kernel
theorem dX0_soundingOfFirst_16 : decode cX0_soundingOfFirst 16 = .ok (.getfield 18, 3) := by decide +kernel
theorem dX0_soundingOfFirst_19 : decode cX0_soundingOfFirst 19 = .ok (.iload_n 3, 1) := by decide +kernel
theorem dX0_soundingOfFirst_20 : decode cX0_soundingOfFirst 20 = .ok (.iaload, 1) := by decide +kernel
theorem dX0_soundingOfFirst_21 : decode cX0_soundingOfFirst 21 = .ok (.iconst (-1), 1) := by decide +kernel
theorem dX0_soundingOfFirst_22 : decode cX0_soundingOfFirst 22 = .ok (.if_icmp .eq 19, 3) := by decide +kernel
theorem dX0_soundingOfFirst_25 : decode cX0_soundingOfFirst 25 = .ok (.iload_n 2, 1) := by decide +kernel
theorem dX0_soundingOfFirst_26 : decode cX0_soundingOfFirst 26 = .ok (.iconst 1, 1) := by decide +kernel
theorem dX0_soundingOfFirst_27 : decode cX0_soundingOfFirst 27 = .ok (.aload_n 0, 1) := by decide +kernel
theorem dX0_soundingOfFirst_28 : decode cX0_soundingOfFirst 28 = .ok (.iload_n 3, 1) := by decide +kernel
theorem dX0_soundingOfFirst_29 : decode cX0_soundingOfFirst 29 = .ok (.aload_n 0, 1) := by decide +kernel
theorem dX0_soundingOfFirst_30 : decode cX0_soundingOfFirst 30 = .ok (.getfield 18, 3) := by decide +kernel
theorem dX0_soundingOfFirst_33 : decode cX0_soundingOfFirst 33 = .ok (.iload_n 3, 1) := by decide +kernel
theorem dX0_soundingOfFirst_34 : decode cX0_soundingOfFirst 34 = .ok (.iaload, 1) := by decide +kernel
theorem dX0_soundingOfFirst_35 : decode cX0_soundingOfFirst 35 = .ok (.invokevirtual 78, 3) := by decide +kernel
theorem dX0_soundingOfFirst_38 : decode cX0_soundingOfFirst 38 = .ok (.ishl, 1) := by decide +kernel
theorem dX0_soundingOfFirst_39 : decode cX0_soundingOfFirst 39 = .ok (.ior, 1) := by decide +kernel
theorem dX0_soundingOfFirst_40 : decode cX0_soundingOfFirst 40 = .ok (.istore_n 2, 1) := by decide +kernel
theorem dX0_soundingOfFirst_41 : decode cX0_soundingOfFirst 41 = .ok (.iinc 3 1, 3) := by decide +kernel
theorem dX0_soundingOfFirst_44 : decode cX0_soundingOfFirst 44 = .ok (.goto (-40), 3) := by decide +kernel
theorem dX0_soundingOfFirst_47 : decode cX0_soundingOfFirst 47 = .ok (.iload_n 2, 1) := by decide +kernel
theorem dX0_soundingOfFirst_48 : decode cX0_soundingOfFirst 48 = .ok (.ireturn, 1) := by decide +kernel
theorem dX0_leastIsBass_0 : decode cX0_leastIsBass 0 = .ok (.iconst (-1), 1) := by decide +kernel
theorem dX0_leastIsBass_1 : decode cX0_leastIsBass 1 = .ok (.istore_n 1, 1) := by decide +kernel
theorem dX0_leastIsBass_2 : decode cX0_leastIsBass 2 = .ok (.iconst 0, 1) := by decide +kernel
theorem dX0_leastIsBass_3 : decode cX0_leastIsBass 3 = .ok (.istore_n 2, 1) := by decide +kernel
theorem dX0_leastIsBass_4 : decode cX0_leastIsBass 4 = .ok (.iload_n 2, 1) := by decide +kernel
theorem dX0_leastIsBass_5 : decode cX0_leastIsBass 5 = .ok (.aload_n 0, 1) := by decide +kernel
theorem dX0_leastIsBass_6 : decode cX0_leastIsBass 6 = .ok (.getfield 59, 3) := by decide +kernel
theorem dX0_leastIsBass_9 : decode cX0_leastIsBass 9 = .ok (.if_icmp .ge 56, 3) := by decide +kernel
theorem dX0_leastIsBass_12 : decode cX0_leastIsBass 12 = .ok (.iload_n 2, 1) := by decide +kernel
theorem dX0_leastIsBass_13 : decode cX0_leastIsBass 13 = .ok (.bipush 6, 2) := by decide +kernel
theorem dX0_leastIsBass_15 : decode cX0_leastIsBass 15 = .ok (.if_icmp .ge 50, 3) := by decide +kernel
theorem dX0_leastIsBass_18 : decode cX0_leastIsBass 18 = .ok (.aload_n 0, 1) := by decide +kernel
theorem dX0_leastIsBass_19 : decode cX0_leastIsBass 19 = .ok (.getfield 9, 3) := by decide +kernel
theorem dX0_leastIsBass_22 : decode cX0_leastIsBass 22 = .ok (.iload_n 2, 1) := by decide +kernel
theorem dX0_leastIsBass_23 : decode cX0_leastIsBass 23 = .ok (.iaload, 1) := by decide +kernel
theorem dX0_leastIsBass_24 : decode cX0_leastIsBass 24 = .ok (.aload_n 0, 1) := by decide +kernel
theorem dX0_leastIsBass_25 : decode cX0_leastIsBass 25 = .ok (.getfield 21, 3) := by decide +kernel
theorem dX0_leastIsBass_28 : decode cX0_leastIsBass 28 = .ok (.iadd, 1) := by decide +kernel
theorem dX0_leastIsBass_29 : decode cX0_leastIsBass 29 = .ok (.aload_n 0, 1) := by decide +kernel
theorem dX0_leastIsBass_30 : decode cX0_leastIsBass 30 = .ok (.getfield 18, 3) := by decide +kernel
theorem dX0_leastIsBass_33 : decode cX0_leastIsBass 33 = .ok (.iload_n 2, 1) := by decide +kernel
theorem dX0_leastIsBass_34 : decode cX0_leastIsBass 34 = .ok (.iaload, 1) := by decide +kernel
theorem dX0_leastIsBass_35 : decode cX0_leastIsBass 35 = .ok (.iadd, 1) := by decide +kernel
theorem dX0_leastIsBass_36 : decode cX0_leastIsBass 36 = .ok (.istore_n 3, 1) := by decide +kernel
theorem dX0_leastIsBass_37 : decode cX0_leastIsBass 37 = .ok (.aload_n 0, 1) := by decide +kernel
theorem dX0_leastIsBass_38 : decode cX0_leastIsBass 38 = .ok (.getfield 18, 3) := by decide +kernel
theorem dX0_leastIsBass_41 : decode cX0_leastIsBass 41 = .ok (.iload_n 2, 1) := by decide +kernel
theorem dX0_leastIsBass_42 : decode cX0_leastIsBass 42 = .ok (.iaload, 1) := by decide +kernel
theorem dX0_leastIsBass_43 : decode cX0_leastIsBass 43 = .ok (.iconst (-1), 1) := by decide +kernel
theorem dX0_leastIsBass_44 : decode cX0_leastIsBass 44 = .ok (.if_icmp .eq 15, 3) := by decide +kernel
theorem dX0_leastIsBass_47 : decode cX0_leastIsBass 47 = .ok (.iload_n 1, 1) := by decide +kernel
theorem dX0_leastIsBass_48 : decode cX0_leastIsBass 48 = .ok (.iconst (-1), 1) := by decide +kernel
theorem dX0_leastIsBass_49 : decode cX0_leastIsBass 49 = .ok (.if_icmp .eq 8, 3) := by decide +kernel
theorem dX0_leastIsBass_52 : decode cX0_leastIsBass 52 = .ok (.iload_n 3, 1) := by decide +kernel
theorem dX0_leastIsBass_53 : decode cX0_leastIsBass 53 = .ok (.iload_n 1, 1) := by decide +kernel
theorem dX0_leastIsBass_54 : decode cX0_leastIsBass 54 = .ok (.if_icmp .ge 5, 3) := by decide +kernel
theorem dX0_leastIsBass_57 : decode cX0_leastIsBass 57 = .ok (.iload_n 3, 1) := by decide +kernel
theorem dX0_leastIsBass_58 : decode cX0_leastIsBass 58 = .ok (.istore_n 1, 1) := by decide +kernel
theorem dX0_leastIsBass_59 : decode cX0_leastIsBass 59 = .ok (.iinc 2 1, 3) := by decide +kernel
theorem dX0_leastIsBass_62 : decode cX0_leastIsBass 62 = .ok (.goto (-58), 3) := by decide +kernel
theorem dX0_leastIsBass_65 : decode cX0_leastIsBass 65 = .ok (.iload_n 1, 1) := by decide +kernel
theorem dX0_leastIsBass_66 : decode cX0_leastIsBass 66 = .ok (.iconst (-1), 1) := by decide +kernel
theorem dX0_leastIsBass_67 : decode cX0_leastIsBass 67 = .ok (.if_icmp .eq 18, 3) := by decide +kernel
theorem dX0_leastIsBass_70 : decode cX0_leastIsBass 70 = .ok (.iload_n 1, 1) := by decide +kernel
theorem dX0_leastIsBass_71 : decode cX0_leastIsBass 71 = .ok (.bipush 12, 2) := by decide +kernel
theorem dX0_leastIsBass_73 : decode cX0_leastIsBass 73 = .ok (.irem, 1) := by decide +kernel
theorem dX0_leastIsBass_74 : decode cX0_leastIsBass 74 = .ok (.aload_n 0, 1) := by decide +kernel
theorem dX0_leastIsBass_75 : decode cX0_leastIsBass 75 = .ok (.getfield 49, 3) := by decide +kernel
theorem dX0_leastIsBass_78 : decode cX0_leastIsBass 78 = .ok (.if_icmp .ne 7, 3) := by decide +kernel
theorem dX0_leastIsBass_81 : decode cX0_leastIsBass 81 = .ok (.iconst 1, 1) := by decide +kernel
theorem dX0_leastIsBass_82 : decode cX0_leastIsBass 82 = .ok (.goto 4, 3) := by decide +kernel
theorem dX0_leastIsBass_85 : decode cX0_leastIsBass 85 = .ok (.iconst 0, 1) := by decide +kernel
theorem dX0_leastIsBass_86 : decode cX0_leastIsBass 86 = .ok (.ireturn, 1) := by decide +kernel
theorem dX0_keep_0 : decode cX0_keep 0 = .ok (.aload_n 0, 1) := by decide +kernel
theorem dX0_keep_1 : decode cX0_keep 1 = .ok (.getfield 52, 3) := by decide +kernel
theorem dX0_keep_4 : decode cX0_keep 4 = .ok (.bipush 6, 2) := by decide +kernel
theorem dX0_keep_6 : decode cX0_keep 6 = .ok (.if_icmp .ge 16, 3) := by decide +kernel
theorem dX0_keep_9 : decode cX0_keep 9 = .ok (.aload_n 0, 1) := by decide +kernel
theorem dX0_keep_10 : decode cX0_keep 10 = .ok (.dup, 1) := by decide +kernel
theorem dX0_keep_11 : decode cX0_keep 11 = .ok (.getfield 52, 3) := by decide +kernel
theorem dX0_keep_14 : decode cX0_keep 14 = .ok (.iconst 1, 1) := by decide +kernel
theorem dX0_keep_15 : decode cX0_keep 15 = .ok (.iadd, 1) := by decide +kernel
theorem dX0_keep_16 : decode cX0_keep 16 = .ok (.putfield 52, 3) := by decide +kernel
theorem dX0_keep_19 : decode cX0_keep 19 = .ok (.goto 14, 3) := by decide +kernel
theorem dX0_keep_22 : decode cX0_keep 22 = .ok (.aload_n 0, 1) := by decide +kernel
theorem dX0_keep_23 : decode cX0_keep 23 = .ok (.getfield 15, 3) := by decide +kernel
theorem dX0_keep_26 : decode cX0_keep 26 = .ok (.iconst 5, 1) := by decide +kernel
theorem dX0_keep_27 : decode cX0_keep 27 = .ok (.iaload, 1) := by decide +kernel
theorem dX0_keep_28 : decode cX0_keep 28 = .ok (.iload_n 1, 1) := by decide +kernel
theorem dX0_keep_29 : decode cX0_keep 29 = .ok (.if_icmp .gt 4, 3) := by decide +kernel
theorem dX0_keep_32 : decode cX0_keep 32 = .ok (.return_, 1) := by decide +kernel
theorem dX0_keep_33 : decode cX0_keep 33 = .ok (.aload_n 0, 1) := by decide +kernel
theorem dX0_keep_34 : decode cX0_keep 34 = .ok (.getfield 52, 3) := by decide +kernel
theorem dX0_keep_37 : decode cX0_keep 37 = .ok (.iconst 1, 1) := by decide +kernel
theorem dX0_keep_38 : decode cX0_keep 38 = .ok (.isub, 1) := by decide +kernel
theorem dX0_keep_39 : decode cX0_keep 39 = .ok (.istore_n 2, 1) := by decide +kernel
theorem dX0_keep_40 : decode cX0_keep 40 = .ok (.iload_n 2, 1) := by decide +kernel
theorem dX0_keep_41 : decode cX0_keep 41 = .ok (.ifCond .le 35, 3) := by decide +kernel
theorem dX0_keep_44 : decode cX0_keep 44 = .ok (.aload_n 0, 1) := by decide +kernel
theorem dX0_keep_45 : decode cX0_keep 45 = .ok (.getfield 15, 3) := by decide +kernel
theorem dX0_keep_48 : decode cX0_keep 48 = .ok (.iload_n 2, 1) := by decide +kernel
theorem dX0_keep_49 : decode cX0_keep 49 = .ok (.iconst 1, 1) := by decide +kernel
theorem dX0_keep_50 : decode cX0_keep 50 = .ok (.isub, 1) := by decide +kernel
theorem dX0_keep_51 : decode cX0_keep 51 = .ok (.iaload, 1) := by decide +kernel
theorem dX0_keep_52 : decode cX0_keep 52 = .ok (.iload_n 1, 1) := by decide +kernel
theorem dX0_keep_53 : decode cX0_keep 53 = .ok (.if_icmp .le 23, 3) := by decide +kernel
theorem dX0_keep_56 : decode cX0_keep 56 = .ok (.aload_n 0, 1) := by decide +kernel
theorem dX0_keep_57 : decode cX0_keep 57 = .ok (.getfield 15, 3) := by decide +kernel
theorem dX0_keep_60 : decode cX0_keep 60 = .ok (.iload_n 2, 1) := by decide +kernel
theorem dX0_keep_61 : decode cX0_keep 61 = .ok (.aload_n 0, 1) := by decide +kernel
theorem dX0_keep_62 : decode cX0_keep 62 = .ok (.getfield 15, 3) := by decide +kernel
theorem dX0_keep_65 : decode cX0_keep 65 = .ok (.iload_n 2, 1) := by decide +kernel
theorem dX0_keep_66 : decode cX0_keep 66 = .ok (.iconst 1, 1) := by decide +kernel
theorem dX0_keep_67 : decode cX0_keep 67 = .ok (.isub, 1) := by decide +kernel
theorem dX0_keep_68 : decode cX0_keep 68 = .ok (.iaload, 1) := by decide +kernel
theorem dX0_keep_69 : decode cX0_keep 69 = .ok (.iastore, 1) := by decide +kernel
theorem dX0_keep_70 : decode cX0_keep 70 = .ok (.iinc 2 (-1), 3) := by decide +kernel
theorem dX0_keep_73 : decode cX0_keep 73 = .ok (.goto (-33), 3) := by decide +kernel
theorem dX0_keep_76 : decode cX0_keep 76 = .ok (.aload_n 0, 1) := by decide +kernel
theorem dX0_keep_77 : decode cX0_keep 77 = .ok (.getfield 15, 3) := by decide +kernel
theorem dX0_keep_80 : decode cX0_keep 80 = .ok (.iload_n 2, 1) := by decide +kernel
theorem dX0_keep_81 : decode cX0_keep 81 = .ok (.iload_n 1, 1) := by decide +kernel
theorem dX0_keep_82 : decode cX0_keep 82 = .ok (.iastore, 1) := by decide +kernel
theorem dX0_keep_83 : decode cX0_keep 83 = .ok (.return_, 1) := by decide +kernel
theorem dX1_of_0 : decode cX1_of 0 = .ok (.iload_n 0, 1) := by decide +kernel
theorem dX1_of_1 : decode cX1_of 1 = .ok (.bipush 24, 2) := by decide +kernel
theorem dX1_of_3 : decode cX1_of 3 = .ok (.ishl, 1) := by decide +kernel
theorem dX1_of_4 : decode cX1_of 4 = .ok (.istore_n 3, 1) := by decide +kernel
theorem dX1_of_5 : decode cX1_of 5 = .ok (.iconst 0, 1) := by decide +kernel
theorem dX1_of_6 : decode cX1_of 6 = .ok (.istore 4, 2) := by decide +kernel
theorem dX1_of_8 : decode cX1_of 8 = .ok (.iload 4, 2) := by decide +kernel
theorem dX1_of_10 : decode cX1_of 10 = .ok (.iload_n 2, 1) := by decide +kernel
theorem dX1_of_11 : decode cX1_of 11 = .ok (.if_icmp .ge 31, 3) := by decide +kernel
theorem dX1_of_14 : decode cX1_of 14 = .ok (.iload 4, 2) := by decide +kernel
theorem dX1_of_16 : decode cX1_of 16 = .ok (.aload_n 1, 1) := by decide +kernel
theorem dX1_of_17 : decode cX1_of 17 = .ok (.arraylength, 1) := by decide +kernel
theorem dX1_of_18 : decode cX1_of 18 = .ok (.if_icmp .ge 24, 3) := by decide +kernel
theorem dX1_of_21 : decode cX1_of 21 = .ok (.iload_n 3, 1) := by decide +kernel
theorem dX1_of_22 : decode cX1_of 22 = .ok (.aload_n 1, 1) := by decide +kernel
theorem dX1_of_23 : decode cX1_of 23 = .ok (.iload 4, 2) := by decide +kernel
theorem dX1_of_25 : decode cX1_of 25 = .ok (.iaload, 1) := by decide +kernel
theorem dX1_of_26 : decode cX1_of 26 = .ok (.iconst 1, 1) := by decide +kernel
theorem dX1_of_27 : decode cX1_of 27 = .ok (.iadd, 1) := by decide +kernel
theorem dX1_of_28 : decode cX1_of 28 = .ok (.iload 4, 2) := by decide +kernel
theorem dX1_of_30 : decode cX1_of 30 = .ok (.invokestatic 11, 3) := by decide +kernel
theorem dX1_of_33 : decode cX1_of 33 = .ok (.ishl, 1) := by decide +kernel
theorem dX1_of_34 : decode cX1_of 34 = .ok (.ior, 1) := by decide +kernel
theorem dX1_of_35 : decode cX1_of 35 = .ok (.istore_n 3, 1) := by decide +kernel
theorem dX1_of_36 : decode cX1_of 36 = .ok (.iinc 4 1, 3) := by decide +kernel
theorem dX1_of_39 : decode cX1_of 39 = .ok (.goto (-31), 3) := by decide +kernel
theorem dX1_of_42 : decode cX1_of 42 = .ok (.iload_n 3, 1) := by decide +kernel
theorem dX1_of_43 : decode cX1_of 43 = .ok (.ireturn, 1) := by decide +kernel
theorem dX1_strainOf_0 : decode cX1_strainOf 0 = .ok (.iload_n 0, 1) := by decide +kernel
theorem dX1_strainOf_1 : decode cX1_strainOf 1 = .ok (.bipush 24, 2) := by decide +kernel
theorem dX1_strainOf_3 : decode cX1_strainOf 3 = .ok (.ishr, 1) := by decide +kernel
theorem dX1_strainOf_4 : decode cX1_strainOf 4 = .ok (.ireturn, 1) := by decide +kernel
theorem dX1_fretOf_0 : decode cX1_fretOf 0 = .ok (.iload_n 0, 1) := by decide +kernel
theorem dX1_fretOf_1 : decode cX1_fretOf 1 = .ok (.iload_n 1, 1) := by decide +kernel
theorem dX1_fretOf_2 : decode cX1_fretOf 2 = .ok (.invokestatic 11, 3) := by decide +kernel
theorem dX1_fretOf_5 : decode cX1_fretOf 5 = .ok (.ishr, 1) := by decide +kernel
theorem dX1_fretOf_6 : decode cX1_fretOf 6 = .ok (.bipush 15, 2) := by decide +kernel
theorem dX1_fretOf_8 : decode cX1_fretOf 8 = .ok (.iand, 1) := by decide +kernel
theorem dX1_fretOf_9 : decode cX1_fretOf 9 = .ok (.iconst 1, 1) := by decide +kernel
theorem dX1_fretOf_10 : decode cX1_fretOf 10 = .ok (.isub, 1) := by decide +kernel
theorem dX1_fretOf_11 : decode cX1_fretOf 11 = .ok (.ireturn, 1) := by decide +kernel
theorem dX1_change_0 : decode cX1_change 0 = .ok (.iconst 0, 1) := by decide +kernel
theorem dX1_change_1 : decode cX1_change 1 = .ok (.istore_n 2, 1) := by decide +kernel
theorem dX1_change_2 : decode cX1_change 2 = .ok (.iconst 0, 1) := by decide +kernel
theorem dX1_change_3 : decode cX1_change 3 = .ok (.istore_n 3, 1) := by decide +kernel
theorem dX1_change_4 : decode cX1_change 4 = .ok (.iload_n 3, 1) := by decide +kernel
theorem dX1_change_5 : decode cX1_change 5 = .ok (.bipush 6, 2) := by decide +kernel
theorem dX1_change_7 : decode cX1_change 7 = .ok (.if_icmp .ge 34, 3) := by decide +kernel
theorem dX1_change_10 : decode cX1_change 10 = .ok (.iload_n 2, 1) := by decide +kernel
theorem dX1_change_11 : decode cX1_change 11 = .ok (.iconst 0, 1) := by decide +kernel
theorem dX1_change_12 : decode cX1_change 12 = .ok (.iload_n 0, 1) := by decide +kernel
theorem dX1_change_13 : decode cX1_change 13 = .ok (.iload_n 3, 1) := by decide +kernel
theorem dX1_change_14 : decode cX1_change 14 = .ok (.invokestatic 15, 3) := by decide +kernel
theorem dX1_change_17 : decode cX1_change 17 = .ok (.invokestatic 19, 3) := by decide +kernel
theorem dX1_change_20 : decode cX1_change 20 = .ok (.iconst 0, 1) := by decide +kernel
theorem dX1_change_21 : decode cX1_change 21 = .ok (.iload_n 1, 1) := by decide +kernel
theorem dX1_change_22 : decode cX1_change 22 = .ok (.iload_n 3, 1) := by decide +kernel
theorem dX1_change_23 : decode cX1_change 23 = .ok (.invokestatic 15, 3) := by decide +kernel
theorem dX1_change_26 : decode cX1_change 26 = .ok (.invokestatic 19, 3) := by decide +kernel
theorem dX1_change_29 : decode cX1_change 29 = .ok (.isub, 1) := by decide +kernel
theorem dX1_change_30 : decode cX1_change 30 = .ok (.invokestatic 24, 3) := by decide +kernel
theorem dX1_change_33 : decode cX1_change 33 = .ok (.iadd, 1) := by decide +kernel
theorem dX1_change_34 : decode cX1_change 34 = .ok (.istore_n 2, 1) := by decide +kernel
theorem dX1_change_35 : decode cX1_change 35 = .ok (.iinc 3 1, 3) := by decide +kernel
theorem dX1_change_38 : decode cX1_change 38 = .ok (.goto (-34), 3) := by decide +kernel
theorem dX1_change_41 : decode cX1_change 41 = .ok (.iload_n 2, 1) := by decide +kernel
theorem dX1_change_42 : decode cX1_change 42 = .ok (.ireturn, 1) := by decide +kernel
theorem dX1_shiftOf_0 : decode cX1_shiftOf 0 = .ok (.iconst 4, 1) := by decide +kernel
theorem dX1_shiftOf_1 : decode cX1_shiftOf 1 = .ok (.iconst 5, 1) := by decide +kernel
theorem dX1_shiftOf_2 : decode cX1_shiftOf 2 = .ok (.iload_n 0, 1) := by decide +kernel
theorem dX1_shiftOf_3 : decode cX1_shiftOf 3 = .ok (.isub, 1) := by decide +kernel
theorem dX1_shiftOf_4 : decode cX1_shiftOf 4 = .ok (.imul, 1) := by decide +kernel
theorem dX1_shiftOf_5 : decode cX1_shiftOf 5 = .ok (.ireturn, 1) := by decide +kernel
theorem dX2_init_0 : decode cX2_init 0 = .ok (.aload_n 0, 1) := by decide +kernel
theorem dX2_init_1 : decode cX2_init 1 = .ok (.invokespecial 3, 3) := by decide +kernel
theorem dX2_init_4 : decode cX2_init 4 = .ok (.aload_n 0, 1) := by decide +kernel
theorem dX2_init_5 : decode cX2_init 5 = .ok (.sipush 2880, 3) := by decide +kernel
theorem dX2_init_8 : decode cX2_init 8 = .ok (.newarray .int, 2) := by decide +kernel
theorem dX2_init_10 : decode cX2_init 10 = .ok (.putfield 9, 3) := by decide +kernel
theorem dX2_init_13 : decode cX2_init 13 = .ok (.aload_n 0, 1) := by decide +kernel
theorem dX2_init_14 : decode cX2_init 14 = .ok (.sipush 480, 3) := by decide +kernel
theorem dX2_init_17 : decode cX2_init 17 = .ok (.newarray .int, 2) := by decide +kernel
theorem dX2_init_19 : decode cX2_init 19 = .ok (.putfield 15, 3) := by decide +kernel
theorem dX2_init_22 : decode cX2_init 22 = .ok (.aload_n 0, 1) := by decide +kernel
theorem dX2_init_23 : decode cX2_init 23 = .ok (.getfield 15, 3) := by decide +kernel
theorem dX2_init_26 : decode cX2_init 26 = .ok (.iconst (-1), 1) := by decide +kernel
theorem dX2_init_27 : decode cX2_init 27 = .ok (.invokestatic 18, 3) := by decide +kernel
theorem dX2_init_30 : decode cX2_init 30 = .ok (.return_, 1) := by decide +kernel
theorem dX2_forget_0 : decode cX2_forget 0 = .ok (.aload_n 0, 1) := by decide +kernel
theorem dX2_forget_1 : decode cX2_forget 1 = .ok (.getfield 15, 3) := by decide +kernel
theorem dX2_forget_4 : decode cX2_forget 4 = .ok (.iconst (-1), 1) := by decide +kernel
theorem dX2_forget_5 : decode cX2_forget 5 = .ok (.invokestatic 18, 3) := by decide +kernel
theorem dX2_forget_8 : decode cX2_forget 8 = .ok (.return_, 1) := by decide +kernel
theorem dX2_pageOf_0 : decode cX2_pageOf 0 = .ok (.aload_n 1, 1) := by decide +kernel
theorem dX2_pageOf_1 : decode cX2_pageOf 1 = .ok (.iload_n 3, 1) := by decide +kernel
theorem dX2_pageOf_2 : decode cX2_pageOf 2 = .ok (.invokevirtual 24, 3) := by decide +kernel
theorem dX2_pageOf_5 : decode cX2_pageOf 5 = .ok (.istore 5, 2) := by decide +kernel
theorem dX2_pageOf_7 : decode cX2_pageOf 7 = .ok (.iload 5, 2) := by decide +kernel
theorem dX2_pageOf_9 : decode cX2_pageOf 9 = .ok (.bipush 8, 2) := by decide +kernel
theorem dX2_pageOf_11 : decode cX2_pageOf 11 = .ok (.imul, 1) := by decide +kernel
theorem dX2_pageOf_12 : decode cX2_pageOf 12 = .ok (.iload 4, 2) := by decide +kernel
theorem dX2_pageOf_14 : decode cX2_pageOf 14 = .ok (.iadd, 1) := by decide +kernel
theorem dX2_pageOf_15 : decode cX2_pageOf 15 = .ok (.istore 6, 2) := by decide +kernel
theorem dX2_pageOf_17 : decode cX2_pageOf 17 = .ok (.aload_n 0, 1) := by decide +kernel
theorem dX2_pageOf_18 : decode cX2_pageOf 18 = .ok (.getfield 15, 3) := by decide +kernel
theorem dX2_pageOf_21 : decode cX2_pageOf 21 = .ok (.iload 6, 2) := by decide +kernel
theorem dX2_pageOf_23 : decode cX2_pageOf 23 = .ok (.iaload, 1) := by decide +kernel
theorem dX2_pageOf_24 : decode cX2_pageOf 24 = .ok (.iconst (-1), 1) := by decide +kernel
theorem dX2_pageOf_25 : decode cX2_pageOf 25 = .ok (.if_icmp .ne 44, 3) := by decide +kernel
theorem dX2_pageOf_28 : decode cX2_pageOf 28 = .ok (.aload_n 2, 1) := by decide +kernel
theorem dX2_pageOf_29 : decode cX2_pageOf 29 = .ok (.aload_n 1, 1) := by decide +kernel
theorem dX2_pageOf_30 : decode cX2_pageOf 30 = .ok (.iload 5, 2) := by decide +kernel
theorem dX2_pageOf_32 : decode cX2_pageOf 32 = .ok (.iload 4, 2) := by decide +kernel
theorem dX2_pageOf_34 : decode cX2_pageOf 34 = .ok (.invokevirtual 30, 3) := by decide +kernel
theorem dX2_pageOf_37 : decode cX2_pageOf 37 = .ok (.aload_n 2, 1) := by decide +kernel
theorem dX2_pageOf_38 : decode cX2_pageOf 38 = .ok (.getfield 36, 3) := by decide +kernel
theorem dX2_pageOf_41 : decode cX2_pageOf 41 = .ok (.iconst 0, 1) := by decide +kernel
theorem dX2_pageOf_42 : decode cX2_pageOf 42 = .ok (.aload_n 0, 1) := by decide +kernel
theorem dX2_pageOf_43 : decode cX2_pageOf 43 = .ok (.getfield 9, 3) := by decide +kernel
theorem dX2_pageOf_46 : decode cX2_pageOf 46 = .ok (.iload 6, 2) := by decide +kernel
theorem dX2_pageOf_48 : decode cX2_pageOf 48 = .ok (.bipush 6, 2) := by decide +kernel
theorem dX2_pageOf_50 : decode cX2_pageOf 50 = .ok (.imul, 1) := by decide +kernel
theorem dX2_pageOf_51 : decode cX2_pageOf 51 = .ok (.aload_n 2, 1) := by decide +kernel
theorem dX2_pageOf_52 : decode cX2_pageOf 52 = .ok (.getfield 39, 3) := by decide +kernel
theorem dX2_pageOf_55 : decode cX2_pageOf 55 = .ok (.invokestatic 42, 3) := by decide +kernel
theorem dX2_pageOf_58 : decode cX2_pageOf 58 = .ok (.aload_n 0, 1) := by decide +kernel
theorem dX2_pageOf_59 : decode cX2_pageOf 59 = .ok (.getfield 15, 3) := by decide +kernel
theorem dX2_pageOf_62 : decode cX2_pageOf 62 = .ok (.iload 6, 2) := by decide +kernel
theorem dX2_pageOf_64 : decode cX2_pageOf 64 = .ok (.aload_n 2, 1) := by decide +kernel
theorem dX2_pageOf_65 : decode cX2_pageOf 65 = .ok (.getfield 39, 3) := by decide +kernel
theorem dX2_pageOf_68 : decode cX2_pageOf 68 = .ok (.iastore, 1) := by decide +kernel
theorem dX2_pageOf_69 : decode cX2_pageOf 69 = .ok (.iload 6, 2) := by decide +kernel
theorem dX2_pageOf_71 : decode cX2_pageOf 71 = .ok (.ireturn, 1) := by decide +kernel
theorem dX3_textOf_0 : decode cX3_textOf 0 = .ok (.iload_n 0, 1) := by decide +kernel
theorem dX3_textOf_1 : decode cX3_textOf 1 = .ok (.tableswitch 106 1 13 #[67, 70, 73, 76, 79, 82, 85, 88, 91, 94, 97, 100, 103], 67) := by decide +kernel
theorem dX3_textOf_68 : decode cX3_textOf 68 = .ok (.ldc 7, 2) := by decide +kernel
theorem dX3_textOf_70 : decode cX3_textOf 70 = .ok (.areturn, 1) := by decide +kernel
theorem dX3_textOf_71 : decode cX3_textOf 71 = .ok (.ldc 9, 2) := by decide +kernel
theorem dX3_textOf_73 : decode cX3_textOf 73 = .ok (.areturn, 1) := by decide +kernel
theorem dX3_textOf_74 : decode cX3_textOf 74 = .ok (.ldc 11, 2) := by decide +kernel
theorem dX3_textOf_76 : decode cX3_textOf 76 = .ok (.areturn, 1) := by decide +kernel
theorem dX3_textOf_77 : decode cX3_textOf 77 = .ok (.ldc 13, 2) := by decide +kernel
theorem dX3_textOf_79 : decode cX3_textOf 79 = .ok (.areturn, 1) := by decide +kernel
theorem dX3_textOf_80 : decode cX3_textOf 80 = .ok (.ldc 15, 2) := by decide +kernel
theorem dX3_textOf_82 : decode cX3_textOf 82 = .ok (.areturn, 1) := by decide +kernel
theorem dX3_textOf_83 : decode cX3_textOf 83 = .ok (.ldc 17, 2) := by decide +kernel
theorem dX3_textOf_85 : decode cX3_textOf 85 = .ok (.areturn, 1) := by decide +kernel
theorem dX3_textOf_86 : decode cX3_textOf 86 = .ok (.ldc 19, 2) := by decide +kernel
theorem dX3_textOf_88 : decode cX3_textOf 88 = .ok (.areturn, 1) := by decide +kernel
theorem dX3_textOf_89 : decode cX3_textOf 89 = .ok (.ldc 21, 2) := by decide +kernel
theorem dX3_textOf_91 : decode cX3_textOf 91 = .ok (.areturn, 1) := by decide +kernel
theorem dX3_textOf_92 : decode cX3_textOf 92 = .ok (.ldc 23, 2) := by decide +kernel
theorem dX3_textOf_94 : decode cX3_textOf 94 = .ok (.areturn, 1) := by decide +kernel
theorem dX3_textOf_95 : decode cX3_textOf 95 = .ok (.ldc 25, 2) := by decide +kernel
theorem dX3_textOf_97 : decode cX3_textOf 97 = .ok (.areturn, 1) := by decide +kernel
theorem dX3_textOf_98 : decode cX3_textOf 98 = .ok (.ldc 27, 2) := by decide +kernel
theorem dX3_textOf_100 : decode cX3_textOf 100 = .ok (.areturn, 1) := by decide +kernel
theorem dX3_textOf_101 : decode cX3_textOf 101 = .ok (.ldc 29, 2) := by decide +kernel
theorem dX3_textOf_103 : decode cX3_textOf 103 = .ok (.areturn, 1) := by decide +kernel
theorem dX3_textOf_104 : decode cX3_textOf 104 = .ok (.ldc 31, 2) := by decide +kernel
theorem dX3_textOf_106 : decode cX3_textOf 106 = .ok (.areturn, 1) := by decide +kernel
theorem dX3_textOf_107 : decode cX3_textOf 107 = .ok (.ldc 33, 2) := by decide +kernel
theorem dX3_textOf_109 : decode cX3_textOf 109 = .ok (.areturn, 1) := by decide +kernel
theorem dX3_tonesAbove_0 : decode cX3_tonesAbove 0 = .ok (.iload_n 1, 1) := by decide +kernel
theorem dX3_tonesAbove_1 : decode cX3_tonesAbove 1 = .ok (.ifCond .lt 11, 3) := by decide +kernel
theorem dX3_tonesAbove_4 : decode cX3_tonesAbove 4 = .ok (.iload_n 1, 1) := by decide +kernel
theorem dX3_tonesAbove_5 : decode cX3_tonesAbove 5 = .ok (.getstatic 35, 3) := by decide +kernel
theorem dX3_tonesAbove_8 : decode cX3_tonesAbove 8 = .ok (.arraylength, 1) := by decide +kernel
theorem dX3_tonesAbove_9 : decode cX3_tonesAbove 9 = .ok (.if_icmp .lt 5, 3) := by decide +kernel
theorem dX3_tonesAbove_12 : decode cX3_tonesAbove 12 = .ok (.iconst 0, 1) := by decide +kernel
theorem dX3_tonesAbove_13 : decode cX3_tonesAbove 13 = .ok (.ireturn, 1) := by decide +kernel
theorem dX3_tonesAbove_14 : decode cX3_tonesAbove 14 = .ok (.getstatic 35, 3) := by decide +kernel
theorem dX3_tonesAbove_17 : decode cX3_tonesAbove 17 = .ok (.iload_n 1, 1) := by decide +kernel
theorem dX3_tonesAbove_18 : decode cX3_tonesAbove 18 = .ok (.iaload, 1) := by decide +kernel
theorem dX3_tonesAbove_19 : decode cX3_tonesAbove 19 = .ok (.iload_n 0, 1) := by decide +kernel
theorem dX3_tonesAbove_20 : decode cX3_tonesAbove 20 = .ok (.ishl, 1) := by decide +kernel
theorem dX3_tonesAbove_21 : decode cX3_tonesAbove 21 = .ok (.istore_n 2, 1) := by decide +kernel
theorem dX3_tonesAbove_22 : decode cX3_tonesAbove 22 = .ok (.iload_n 2, 1) := by decide +kernel
theorem dX3_tonesAbove_23 : decode cX3_tonesAbove 23 = .ok (.iload_n 2, 1) := by decide +kernel
theorem dX3_tonesAbove_24 : decode cX3_tonesAbove 24 = .ok (.bipush 12, 2) := by decide +kernel
theorem dX3_tonesAbove_26 : decode cX3_tonesAbove 26 = .ok (.ishr, 1) := by decide +kernel
theorem dX3_tonesAbove_27 : decode cX3_tonesAbove 27 = .ok (.ior, 1) := by decide +kernel
theorem dX3_tonesAbove_28 : decode cX3_tonesAbove 28 = .ok (.sipush 4095, 3) := by decide +kernel
theorem dX3_tonesAbove_31 : decode cX3_tonesAbove 31 = .ok (.iand, 1) := by decide +kernel
theorem dX3_tonesAbove_32 : decode cX3_tonesAbove 32 = .ok (.ireturn, 1) := by decide +kernel
theorem dX4_toneOf_0 : decode cX4_toneOf 0 = .ok (.bipush 7, 2) := by decide +kernel
theorem dX4_toneOf_2 : decode cX4_toneOf 2 = .ok (.iload_n 0, 1) := by decide +kernel
theorem dX4_toneOf_3 : decode cX4_toneOf 3 = .ok (.imul, 1) := by decide +kernel
theorem dX4_toneOf_4 : decode cX4_toneOf 4 = .ok (.bipush 12, 2) := by decide +kernel
theorem dX4_toneOf_6 : decode cX4_toneOf 6 = .ok (.invokestatic 7, 3) := by decide +kernel
theorem dX4_toneOf_9 : decode cX4_toneOf 9 = .ok (.ireturn, 1) := by decide +kernel
theorem dX4_ofLetter_0 : decode cX4_ofLetter 0 = .ok (.iload_n 0, 1) := by decide +kernel
theorem dX4_ofLetter_1 : decode cX4_ofLetter 1 = .ok (.bipush 65, 2) := by decide +kernel
theorem dX4_ofLetter_3 : decode cX4_ofLetter 3 = .ok (.if_icmp .lt 9, 3) := by decide +kernel
theorem dX4_ofLetter_6 : decode cX4_ofLetter 6 = .ok (.iload_n 0, 1) := by decide +kernel
theorem dX4_ofLetter_7 : decode cX4_ofLetter 7 = .ok (.bipush 71, 2) := by decide +kernel
theorem dX4_ofLetter_9 : decode cX4_ofLetter 9 = .ok (.if_icmp .le 6, 3) := by decide +kernel
theorem dX4_ofLetter_12 : decode cX4_ofLetter 12 = .ok (.bipush (-100), 2) := by decide +kernel
theorem dX4_ofLetter_14 : decode cX4_ofLetter 14 = .ok (.ireturn, 1) := by decide +kernel
theorem dX4_ofLetter_15 : decode cX4_ofLetter 15 = .ok (.ldc 15, 2) := by decide +kernel
theorem dX4_ofLetter_17 : decode cX4_ofLetter 17 = .ok (.iload_n 0, 1) := by decide +kernel
theorem dX4_ofLetter_18 : decode cX4_ofLetter 18 = .ok (.i2c, 1) := by decide +kernel
theorem dX4_ofLetter_19 : decode cX4_ofLetter 19 = .ok (.invokevirtual 17, 3) := by decide +kernel
theorem dX4_ofLetter_22 : decode cX4_ofLetter 22 = .ok (.iconst 1, 1) := by decide +kernel
theorem dX4_ofLetter_23 : decode cX4_ofLetter 23 = .ok (.isub, 1) := by decide +kernel
theorem dX4_ofLetter_24 : decode cX4_ofLetter 24 = .ok (.ireturn, 1) := by decide +kernel
theorem dX4_letterOf_0 : decode cX4_letterOf 0 = .ok (.ldc 15, 2) := by decide +kernel
theorem dX4_letterOf_2 : decode cX4_letterOf 2 = .ok (.iload_n 0, 1) := by decide +kernel
theorem dX4_letterOf_3 : decode cX4_letterOf 3 = .ok (.iconst 1, 1) := by decide +kernel
theorem dX4_letterOf_4 : decode cX4_letterOf 4 = .ok (.iadd, 1) := by decide +kernel
theorem dX4_letterOf_5 : decode cX4_letterOf 5 = .ok (.bipush 7, 2) := by decide +kernel
theorem dX4_letterOf_7 : decode cX4_letterOf 7 = .ok (.invokestatic 7, 3) := by decide +kernel
theorem dX4_letterOf_10 : decode cX4_letterOf 10 = .ok (.invokevirtual 23, 3) := by decide +kernel
theorem dX4_letterOf_13 : decode cX4_letterOf 13 = .ok (.ireturn, 1) := by decide +kernel
theorem dX4_sharpsOf_0 : decode cX4_sharpsOf 0 = .ok (.iload_n 0, 1) := by decide +kernel
theorem dX4_sharpsOf_1 : decode cX4_sharpsOf 1 = .ok (.iconst 1, 1) := by decide +kernel
theorem dX4_sharpsOf_2 : decode cX4_sharpsOf 2 = .ok (.iadd, 1) := by decide +kernel
theorem dX4_sharpsOf_3 : decode cX4_sharpsOf 3 = .ok (.bipush 7, 2) := by decide +kernel
theorem dX4_sharpsOf_5 : decode cX4_sharpsOf 5 = .ok (.invokestatic 27, 3) := by decide +kernel
theorem dX4_sharpsOf_8 : decode cX4_sharpsOf 8 = .ok (.ireturn, 1) := by decide +kernel
theorem dX4_folded_0 : decode cX4_folded 0 = .ok (.iload_n 0, 1) := by decide +kernel
theorem dX4_folded_1 : decode cX4_folded 1 = .ok (.istore_n 1, 1) := by decide +kernel
theorem dX4_folded_2 : decode cX4_folded 2 = .ok (.iload_n 1, 1) := by decide +kernel
theorem dX4_folded_3 : decode cX4_folded 3 = .ok (.bipush 19, 2) := by decide +kernel
theorem dX4_folded_5 : decode cX4_folded 5 = .ok (.if_icmp .le 9, 3) := by decide +kernel
theorem dX4_folded_8 : decode cX4_folded 8 = .ok (.iinc 1 (-12), 3) := by decide +kernel
theorem dX4_folded_11 : decode cX4_folded 11 = .ok (.goto (-9), 3) := by decide +kernel
theorem dX4_folded_14 : decode cX4_folded 14 = .ok (.iload_n 1, 1) := by decide +kernel
theorem dX4_folded_15 : decode cX4_folded 15 = .ok (.bipush (-15), 2) := by decide +kernel
theorem dX4_folded_17 : decode cX4_folded 17 = .ok (.if_icmp .ge 9, 3) := by decide +kernel
theorem dX4_folded_20 : decode cX4_folded 20 = .ok (.iinc 1 12, 3) := by decide +kernel
theorem dX4_folded_23 : decode cX4_folded 23 = .ok (.goto (-9), 3) := by decide +kernel
theorem dX4_folded_26 : decode cX4_folded 26 = .ok (.iload_n 1, 1) := by decide +kernel
theorem dX4_folded_27 : decode cX4_folded 27 = .ok (.ireturn, 1) := by decide +kernel
theorem dX4_scaleOf_0 : decode cX4_scaleOf 0 = .ok (.iconst 0, 1) := by decide +kernel
theorem dX4_scaleOf_1 : decode cX4_scaleOf 1 = .ok (.istore_n 1, 1) := by decide +kernel
theorem dX4_scaleOf_2 : decode cX4_scaleOf 2 = .ok (.iload_n 0, 1) := by decide +kernel
theorem dX4_scaleOf_3 : decode cX4_scaleOf 3 = .ok (.iconst 1, 1) := by decide +kernel
theorem dX4_scaleOf_4 : decode cX4_scaleOf 4 = .ok (.isub, 1) := by decide +kernel
theorem dX4_scaleOf_5 : decode cX4_scaleOf 5 = .ok (.istore_n 2, 1) := by decide +kernel
theorem dX4_scaleOf_6 : decode cX4_scaleOf 6 = .ok (.iload_n 2, 1) := by decide +kernel
theorem dX4_scaleOf_7 : decode cX4_scaleOf 7 = .ok (.iload_n 0, 1) := by decide +kernel
theorem dX4_scaleOf_8 : decode cX4_scaleOf 8 = .ok (.iconst 5, 1) := by decide +kernel
theorem dX4_scaleOf_9 : decode cX4_scaleOf 9 = .ok (.iadd, 1) := by decide +kernel
theorem dX4_scaleOf_10 : decode cX4_scaleOf 10 = .ok (.if_icmp .gt 18, 3) := by decide +kernel
theorem dX4_scaleOf_13 : decode cX4_scaleOf 13 = .ok (.iload_n 1, 1) := by decide +kernel
theorem dX4_scaleOf_14 : decode cX4_scaleOf 14 = .ok (.iconst 1, 1) := by decide +kernel
theorem dX4_scaleOf_15 : decode cX4_scaleOf 15 = .ok (.iload_n 2, 1) := by decide +kernel
theorem dX4_scaleOf_16 : decode cX4_scaleOf 16 = .ok (.invokestatic 30, 3) := by decide +kernel
theorem dX4_scaleOf_19 : decode cX4_scaleOf 19 = .ok (.ishl, 1) := by decide +kernel
theorem dX4_scaleOf_20 : decode cX4_scaleOf 20 = .ok (.ior, 1) := by decide +kernel
theorem dX4_scaleOf_21 : decode cX4_scaleOf 21 = .ok (.istore_n 1, 1) := by decide +kernel
theorem dX4_scaleOf_22 : decode cX4_scaleOf 22 = .ok (.iinc 2 1, 3) := by decide +kernel
theorem dX4_scaleOf_25 : decode cX4_scaleOf 25 = .ok (.goto (-19), 3) := by decide +kernel
theorem dX4_scaleOf_28 : decode cX4_scaleOf 28 = .ok (.iload_n 1, 1) := by decide +kernel
theorem dX4_scaleOf_29 : decode cX4_scaleOf 29 = .ok (.ireturn, 1) := by decide +kernel
theorem dX5_init_0 : decode cX5_init 0 = .ok (.aload_n 0, 1) := by decide +kernel
theorem dX5_init_1 : decode cX5_init 1 = .ok (.invokespecial 3, 3) := by decide +kernel
theorem dX5_init_4 : decode cX5_init 4 = .ok (.aload_n 0, 1) := by decide +kernel
theorem dX5_init_5 : decode cX5_init 5 = .ok (.sipush 4000, 3) := by decide +kernel
theorem dX5_init_8 : decode cX5_init 8 = .ok (.newarray .int, 2) := by decide +kernel
theorem dX5_init_10 : decode cX5_init 10 = .ok (.putfield 9, 3) := by decide +kernel
theorem dX5_init_13 : decode cX5_init 13 = .ok (.return_, 1) := by decide +kernel
theorem dX5_keptLength_0 : decode cX5_keptLength 0 = .ok (.aload_n 0, 1) := by decide +kernel
theorem dX5_keptLength_1 : decode cX5_keptLength 1 = .ok (.getfield 15, 3) := by decide +kernel
theorem dX5_keptLength_4 : decode cX5_keptLength 4 = .ok (.sipush 4000, 3) := by decide +kernel
theorem dX5_keptLength_7 : decode cX5_keptLength 7 = .ok (.invokestatic 19, 3) := by decide +kernel
theorem dX5_keptLength_10 : decode cX5_keptLength 10 = .ok (.ireturn, 1) := by decide +kernel
theorem dX5_put_0 : decode cX5_put 0 = .ok (.aload_n 0, 1) := by decide +kernel
theorem dX5_put_1 : decode cX5_put 1 = .ok (.getfield 15, 3) := by decide +kernel
theorem dX5_put_4 : decode cX5_put 4 = .ok (.ifCond .lt 23, 3) := by decide +kernel
theorem dX5_put_7 : decode cX5_put 7 = .ok (.aload_n 0, 1) := by decide +kernel
theorem dX5_put_8 : decode cX5_put 8 = .ok (.getfield 15, 3) := by decide +kernel
theorem dX5_put_11 : decode cX5_put 11 = .ok (.sipush 4000, 3) := by decide +kernel
theorem dX5_put_14 : decode cX5_put 14 = .ok (.if_icmp .ge 13, 3) := by decide +kernel
theorem dX5_put_17 : decode cX5_put 17 = .ok (.aload_n 0, 1) := by decide +kernel
theorem dX5_put_18 : decode cX5_put 18 = .ok (.getfield 9, 3) := by decide +kernel
theorem dX5_put_21 : decode cX5_put 21 = .ok (.aload_n 0, 1) := by decide +kernel
theorem dX5_put_22 : decode cX5_put 22 = .ok (.getfield 15, 3) := by decide +kernel
theorem dX5_put_25 : decode cX5_put 25 = .ok (.iload_n 1, 1) := by decide +kernel
theorem dX5_put_26 : decode cX5_put 26 = .ok (.iastore, 1) := by decide +kernel
theorem dX5_put_27 : decode cX5_put 27 = .ok (.aload_n 0, 1) := by decide +kernel
theorem dX5_put_28 : decode cX5_put 28 = .ok (.dup, 1) := by decide +kernel
theorem dX5_put_29 : decode cX5_put 29 = .ok (.getfield 15, 3) := by decide +kernel
theorem dX5_put_32 : decode cX5_put 32 = .ok (.iconst 1, 1) := by decide +kernel
theorem dX5_put_33 : decode cX5_put 33 = .ok (.iadd, 1) := by decide +kernel
theorem dX5_put_34 : decode cX5_put 34 = .ok (.putfield 15, 3) := by decide +kernel
theorem dX5_put_37 : decode cX5_put 37 = .ok (.return_, 1) := by decide +kernel
theorem dX5_putMany_0 : decode cX5_putMany 0 = .ok (.iconst 0, 1) := by decide +kernel
theorem dX5_putMany_1 : decode cX5_putMany 1 = .ok (.istore_n 3, 1) := by decide +kernel
theorem dX5_putMany_2 : decode cX5_putMany 2 = .ok (.iload_n 3, 1) := by decide +kernel
theorem dX5_putMany_3 : decode cX5_putMany 3 = .ok (.iload_n 2, 1) := by decide +kernel
theorem dX5_putMany_4 : decode cX5_putMany 4 = .ok (.if_icmp .ge 14, 3) := by decide +kernel
theorem dX5_putMany_7 : decode cX5_putMany 7 = .ok (.aload_n 0, 1) := by decide +kernel
theorem dX5_putMany_8 : decode cX5_putMany 8 = .ok (.iload_n 1, 1) := by decide +kernel
theorem dX5_putMany_9 : decode cX5_putMany 9 = .ok (.invokevirtual 25, 3) := by decide +kernel
theorem dX5_putMany_12 : decode cX5_putMany 12 = .ok (.iinc 3 1, 3) := by decide +kernel
theorem dX5_putMany_15 : decode cX5_putMany 15 = .ok (.goto (-13), 3) := by decide +kernel
theorem dX5_putMany_18 : decode cX5_putMany 18 = .ok (.return_, 1) := by decide +kernel
theorem dX5_putName_0 : decode cX5_putName 0 = .ok (.aload_n 0, 1) := by decide +kernel
theorem dX5_putName_1 : decode cX5_putName 1 = .ok (.aload_n 1, 1) := by decide +kernel
theorem dX5_putName_2 : decode cX5_putName 2 = .ok (.getfield 29, 3) := by decide +kernel
theorem dX5_putName_5 : decode cX5_putName 5 = .ok (.iload_n 2, 1) := by decide +kernel
theorem dX5_putName_6 : decode cX5_putName 6 = .ok (.iaload, 1) := by decide +kernel
theorem dX5_putName_7 : decode cX5_putName 7 = .ok (.invokevirtual 34, 3) := by decide +kernel
theorem dX5_putName_10 : decode cX5_putName 10 = .ok (.aload_n 1, 1) := by decide +kernel
theorem dX5_putName_11 : decode cX5_putName 11 = .ok (.getfield 37, 3) := by decide +kernel
theorem dX5_putName_14 : decode cX5_putName 14 = .ok (.iload_n 2, 1) := by decide +kernel
theorem dX5_putName_15 : decode cX5_putName 15 = .ok (.iaload, 1) := by decide +kernel
theorem dX5_putName_16 : decode cX5_putName 16 = .ok (.invokestatic 40, 3) := by decide +kernel
theorem dX5_putName_19 : decode cX5_putName 19 = .ok (.astore_n 3, 1) := by decide +kernel
theorem dX5_putName_20 : decode cX5_putName 20 = .ok (.iconst 0, 1) := by decide +kernel
theorem dX5_putName_21 : decode cX5_putName 21 = .ok (.istore 4, 2) := by decide +kernel
theorem dX5_putName_23 : decode cX5_putName 23 = .ok (.iload 4, 2) := by decide +kernel
theorem dX5_putName_25 : decode cX5_putName 25 = .ok (.aload_n 3, 1) := by decide +kernel
theorem dX5_putName_26 : decode cX5_putName 26 = .ok (.invokevirtual 46, 3) := by decide +kernel
theorem dX5_putName_29 : decode cX5_putName 29 = .ok (.if_icmp .ge 19, 3) := by decide +kernel
theorem dX5_putName_32 : decode cX5_putName 32 = .ok (.aload_n 0, 1) := by decide +kernel
theorem dX5_putName_33 : decode cX5_putName 33 = .ok (.aload_n 3, 1) := by decide +kernel
theorem dX5_putName_34 : decode cX5_putName 34 = .ok (.iload 4, 2) := by decide +kernel
theorem dX5_putName_36 : decode cX5_putName 36 = .ok (.invokevirtual 51, 3) := by decide +kernel
theorem dX5_putName_39 : decode cX5_putName 39 = .ok (.invokevirtual 25, 3) := by decide +kernel
theorem dX5_putName_42 : decode cX5_putName 42 = .ok (.iinc 4 1, 3) := by decide +kernel
theorem dX5_putName_45 : decode cX5_putName 45 = .ok (.goto (-22), 3) := by decide +kernel
theorem dX5_putName_48 : decode cX5_putName 48 = .ok (.aload_n 1, 1) := by decide +kernel
theorem dX5_putName_49 : decode cX5_putName 49 = .ok (.getfield 55, 3) := by decide +kernel
theorem dX5_putName_52 : decode cX5_putName 52 = .ok (.iload_n 2, 1) := by decide +kernel
theorem dX5_putName_53 : decode cX5_putName 53 = .ok (.iaload, 1) := by decide +kernel
theorem dX5_putName_54 : decode cX5_putName 54 = .ok (.aload_n 1, 1) := by decide +kernel
theorem dX5_putName_55 : decode cX5_putName 55 = .ok (.getfield 29, 3) := by decide +kernel
theorem dX5_putName_58 : decode cX5_putName 58 = .ok (.iload_n 2, 1) := by decide +kernel
theorem dX5_putName_59 : decode cX5_putName 59 = .ok (.iaload, 1) := by decide +kernel
theorem dX5_putName_60 : decode cX5_putName 60 = .ok (.if_icmp .eq 19, 3) := by decide +kernel
theorem dX5_putName_63 : decode cX5_putName 63 = .ok (.aload_n 0, 1) := by decide +kernel
theorem dX5_putName_64 : decode cX5_putName 64 = .ok (.bipush 47, 2) := by decide +kernel
theorem dX5_putName_66 : decode cX5_putName 66 = .ok (.invokevirtual 25, 3) := by decide +kernel
theorem dX5_putName_69 : decode cX5_putName 69 = .ok (.aload_n 0, 1) := by decide +kernel
theorem dX5_putName_70 : decode cX5_putName 70 = .ok (.aload_n 1, 1) := by decide +kernel
theorem dX5_putName_71 : decode cX5_putName 71 = .ok (.getfield 55, 3) := by decide +kernel
theorem dX5_putName_74 : decode cX5_putName 74 = .ok (.iload_n 2, 1) := by decide +kernel
theorem dX5_putName_75 : decode cX5_putName 75 = .ok (.iaload, 1) := by decide +kernel
theorem dX5_putName_76 : decode cX5_putName 76 = .ok (.invokevirtual 34, 3) := by decide +kernel
theorem dX5_putName_79 : decode cX5_putName 79 = .ok (.return_, 1) := by decide +kernel
theorem dX5_putNote_0 : decode cX5_putNote 0 = .ok (.iload_n 1, 1) := by decide +kernel
theorem dX5_putNote_1 : decode cX5_putNote 1 = .ok (.invokestatic 58, 3) := by decide +kernel
theorem dX5_putNote_4 : decode cX5_putNote 4 = .ok (.istore_n 2, 1) := by decide +kernel
theorem dX5_putNote_5 : decode cX5_putNote 5 = .ok (.aload_n 0, 1) := by decide +kernel
theorem dX5_putNote_6 : decode cX5_putNote 6 = .ok (.iload_n 1, 1) := by decide +kernel
theorem dX5_putNote_7 : decode cX5_putNote 7 = .ok (.invokestatic 64, 3) := by decide +kernel
theorem dX5_putNote_10 : decode cX5_putNote 10 = .ok (.invokevirtual 25, 3) := by decide +kernel
theorem dX5_putNote_13 : decode cX5_putNote 13 = .ok (.aload_n 0, 1) := by decide +kernel
theorem dX5_putNote_14 : decode cX5_putNote 14 = .ok (.bipush 35, 2) := by decide +kernel
theorem dX5_putNote_16 : decode cX5_putNote 16 = .ok (.iload_n 2, 1) := by decide +kernel
theorem dX5_putNote_17 : decode cX5_putNote 17 = .ok (.invokevirtual 67, 3) := by decide +kernel
theorem dX5_putNote_20 : decode cX5_putNote 20 = .ok (.aload_n 0, 1) := by decide +kernel
theorem dX5_putNote_21 : decode cX5_putNote 21 = .ok (.bipush 98, 2) := by decide +kernel
theorem dX5_putNote_23 : decode cX5_putNote 23 = .ok (.iload_n 2, 1) := by decide +kernel
theorem dX5_putNote_24 : decode cX5_putNote 24 = .ok (.ineg, 1) := by decide +kernel
theorem dX5_putNote_25 : decode cX5_putNote 25 = .ok (.invokevirtual 67, 3) := by decide +kernel
theorem dX5_putNote_28 : decode cX5_putNote 28 = .ok (.return_, 1) := by decide +kernel
theorem dX6_init_0 : decode cX6_init 0 = .ok (.aload_n 0, 1) := by decide +kernel
theorem dX6_init_1 : decode cX6_init 1 = .ok (.invokespecial 3, 3) := by decide +kernel
theorem dX6_init_4 : decode cX6_init 4 = .ok (.aload_n 0, 1) := by decide +kernel
theorem dX6_init_5 : decode cX6_init 5 = .ok (.sipush 360, 3) := by decide +kernel
theorem dX6_init_8 : decode cX6_init 8 = .ok (.newarray .int, 2) := by decide +kernel
theorem dX6_init_10 : decode cX6_init 10 = .ok (.putfield 9, 3) := by decide +kernel
theorem dX6_init_13 : decode cX6_init 13 = .ok (.aload_n 0, 1) := by decide +kernel
theorem dX6_init_14 : decode cX6_init 14 = .ok (.sipush 360, 3) := by decide +kernel
theorem dX6_init_17 : decode cX6_init 17 = .ok (.newarray .int, 2) := by decide +kernel
theorem dX6_init_19 : decode cX6_init 19 = .ok (.putfield 15, 3) := by decide +kernel
theorem dX6_init_22 : decode cX6_init 22 = .ok (.aload_n 0, 1) := by decide +kernel
theorem dX6_init_23 : decode cX6_init 23 = .ok (.bipush 60, 2) := by decide +kernel
theorem dX6_init_25 : decode cX6_init 25 = .ok (.newarray .int, 2) := by decide +kernel
theorem dX6_init_27 : decode cX6_init 27 = .ok (.putfield 18, 3) := by decide +kernel
theorem dX6_init_30 : decode cX6_init 30 = .ok (.aload_n 0, 1) := by decide +kernel
theorem dX6_init_31 : decode cX6_init 31 = .ok (.iconst (-1), 1) := by decide +kernel
theorem dX6_init_32 : decode cX6_init 32 = .ok (.putfield 21, 3) := by decide +kernel
theorem dX6_init_35 : decode cX6_init 35 = .ok (.return_, 1) := by decide +kernel
theorem dX6_leastSum_0 : decode cX6_leastSum 0 = .ok (.iconst (-1), 1) := by decide +kernel
theorem dX6_leastSum_1 : decode cX6_leastSum 1 = .ok (.istore 5, 2) := by decide +kernel
theorem dX6_leastSum_3 : decode cX6_leastSum 3 = .ok (.aload_n 1, 1) := by decide +kernel
theorem dX6_leastSum_4 : decode cX6_leastSum 4 = .ok (.getfield 25, 3) := by decide +kernel
theorem dX6_leastSum_7 : decode cX6_leastSum 7 = .ok (.iconst 1, 1) := by decide +kernel
theorem dX6_leastSum_8 : decode cX6_leastSum 8 = .ok (.isub, 1) := by decide +kernel
theorem dX6_leastSum_9 : decode cX6_leastSum 9 = .ok (.istore 6, 2) := by decide +kernel
theorem dX6_leastSum_11 : decode cX6_leastSum 11 = .ok (.iload 6, 2) := by decide +kernel
theorem dX6_leastSum_13 : decode cX6_leastSum 13 = .ok (.ifCond .lt 48, 3) := by decide +kernel
theorem dX6_leastSum_16 : decode cX6_leastSum 16 = .ok (.aload_n 3, 1) := by decide +kernel
theorem dX6_leastSum_17 : decode cX6_leastSum 17 = .ok (.aload_n 1, 1) := by decide +kernel
theorem dX6_leastSum_18 : decode cX6_leastSum 18 = .ok (.aload_n 2, 1) := by decide +kernel
theorem dX6_leastSum_19 : decode cX6_leastSum 19 = .ok (.iload 6, 2) := by decide +kernel
theorem dX6_leastSum_21 : decode cX6_leastSum 21 = .ok (.iload 4, 2) := by decide +kernel
theorem dX6_leastSum_23 : decode cX6_leastSum 23 = .ok (.invokevirtual 30, 3) := by decide +kernel
theorem dX6_leastSum_26 : decode cX6_leastSum 26 = .ok (.istore 7, 2) := by decide +kernel
theorem dX6_leastSum_28 : decode cX6_leastSum 28 = .ok (.aload_n 3, 1) := by decide +kernel
theorem dX6_leastSum_29 : decode cX6_leastSum 29 = .ok (.getfield 36, 3) := by decide +kernel
theorem dX6_leastSum_32 : decode cX6_leastSum 32 = .ok (.iload 7, 2) := by decide +kernel
theorem dX6_leastSum_34 : decode cX6_leastSum 34 = .ok (.iaload, 1) := by decide +kernel
theorem dX6_leastSum_35 : decode cX6_leastSum 35 = .ok (.ifCond .ne 5, 3) := by decide +kernel
theorem dX6_leastSum_38 : decode cX6_leastSum 38 = .ok (.iconst (-1), 1) := by decide +kernel
theorem dX6_leastSum_39 : decode cX6_leastSum 39 = .ok (.ireturn, 1) := by decide +kernel
theorem dX6_leastSum_40 : decode cX6_leastSum 40 = .ok (.aload_n 0, 1) := by decide +kernel
theorem dX6_leastSum_41 : decode cX6_leastSum 41 = .ok (.aload_n 3, 1) := by decide +kernel
theorem dX6_leastSum_42 : decode cX6_leastSum 42 = .ok (.iload 6, 2) := by decide +kernel
theorem dX6_leastSum_44 : decode cX6_leastSum 44 = .ok (.iload 7, 2) := by decide +kernel
theorem dX6_leastSum_46 : decode cX6_leastSum 46 = .ok (.iload 5, 2) := by decide +kernel
theorem dX6_leastSum_48 : decode cX6_leastSum 48 = .ok (.invokevirtual 39, 3) := by decide +kernel
theorem dX6_leastSum_51 : decode cX6_leastSum 51 = .ok (.iload 7, 2) := by decide +kernel
theorem dX6_leastSum_53 : decode cX6_leastSum 53 = .ok (.istore 5, 2) := by decide +kernel
theorem dX6_leastSum_55 : decode cX6_leastSum 55 = .ok (.iinc 6 (-1), 3) := by decide +kernel
theorem dX6_leastSum_58 : decode cX6_leastSum 58 = .ok (.goto (-47), 3) := by decide +kernel
theorem dX6_leastSum_61 : decode cX6_leastSum 61 = .ok (.iload 5, 2) := by decide +kernel
theorem dX6_leastSum_63 : decode cX6_leastSum 63 = .ok (.iconst (-1), 1) := by decide +kernel
theorem dX6_leastSum_64 : decode cX6_leastSum 64 = .ok (.if_icmp .ne 5, 3) := by decide +kernel
theorem dX6_leastSum_67 : decode cX6_leastSum 67 = .ok (.iconst (-1), 1) := by decide +kernel
theorem dX6_leastSum_68 : decode cX6_leastSum 68 = .ok (.ireturn, 1) := by decide +kernel
theorem dX6_leastSum_69 : decode cX6_leastSum 69 = .ok (.aload_n 0, 1) := by decide +kernel
theorem dX6_leastSum_70 : decode cX6_leastSum 70 = .ok (.iconst 0, 1) := by decide +kernel
theorem dX6_leastSum_71 : decode cX6_leastSum 71 = .ok (.putfield 43, 3) := by decide +kernel
theorem dX6_leastSum_74 : decode cX6_leastSum 74 = .ok (.iconst 1, 1) := by decide +kernel
theorem dX6_leastSum_75 : decode cX6_leastSum 75 = .ok (.istore 6, 2) := by decide +kernel
theorem dX6_leastSum_77 : decode cX6_leastSum 77 = .ok (.iload 6, 2) := by decide +kernel
theorem dX6_leastSum_79 : decode cX6_leastSum 79 = .ok (.aload_n 3, 1) := by decide +kernel
theorem dX6_leastSum_80 : decode cX6_leastSum 80 = .ok (.getfield 36, 3) := by decide +kernel
theorem dX6_leastSum_83 : decode cX6_leastSum 83 = .ok (.iload 5, 2) := by decide +kernel
theorem dX6_leastSum_85 : decode cX6_leastSum 85 = .ok (.iaload, 1) := by decide +kernel
theorem dX6_leastSum_86 : decode cX6_leastSum 86 = .ok (.if_icmp .ge 34, 3) := by decide +kernel
theorem dX6_leastSum_89 : decode cX6_leastSum 89 = .ok (.aload_n 0, 1) := by decide +kernel
theorem dX6_leastSum_90 : decode cX6_leastSum 90 = .ok (.getfield 9, 3) := by decide +kernel
theorem dX6_leastSum_93 : decode cX6_leastSum 93 = .ok (.iload 6, 2) := by decide +kernel
theorem dX6_leastSum_95 : decode cX6_leastSum 95 = .ok (.iaload, 1) := by decide +kernel
theorem dX6_leastSum_96 : decode cX6_leastSum 96 = .ok (.aload_n 0, 1) := by decide +kernel
theorem dX6_leastSum_97 : decode cX6_leastSum 97 = .ok (.getfield 9, 3) := by decide +kernel
theorem dX6_leastSum_100 : decode cX6_leastSum 100 = .ok (.aload_n 0, 1) := by decide +kernel
theorem dX6_leastSum_101 : decode cX6_leastSum 101 = .ok (.getfield 43, 3) := by decide +kernel
theorem dX6_leastSum_104 : decode cX6_leastSum 104 = .ok (.iaload, 1) := by decide +kernel
theorem dX6_leastSum_105 : decode cX6_leastSum 105 = .ok (.if_icmp .ge 9, 3) := by decide +kernel
theorem dX6_leastSum_108 : decode cX6_leastSum 108 = .ok (.aload_n 0, 1) := by decide +kernel
theorem dX6_leastSum_109 : decode cX6_leastSum 109 = .ok (.iload 6, 2) := by decide +kernel
theorem dX6_leastSum_111 : decode cX6_leastSum 111 = .ok (.putfield 43, 3) := by decide +kernel
theorem dX6_leastSum_114 : decode cX6_leastSum 114 = .ok (.iinc 6 1, 3) := by decide +kernel
theorem dX6_leastSum_117 : decode cX6_leastSum 117 = .ok (.goto (-40), 3) := by decide +kernel
theorem dX6_leastSum_120 : decode cX6_leastSum 120 = .ok (.aload_n 0, 1) := by decide +kernel
theorem dX6_leastSum_121 : decode cX6_leastSum 121 = .ok (.getfield 9, 3) := by decide +kernel
theorem dX6_leastSum_124 : decode cX6_leastSum 124 = .ok (.aload_n 0, 1) := by decide +kernel
theorem dX6_leastSum_125 : decode cX6_leastSum 125 = .ok (.getfield 43, 3) := by decide +kernel
theorem dX6_leastSum_128 : decode cX6_leastSum 128 = .ok (.iaload, 1) := by decide +kernel
theorem dX6_leastSum_129 : decode cX6_leastSum 129 = .ok (.ireturn, 1) := by decide +kernel
theorem dX6_weigh_0 : decode cX6_weigh 0 = .ok (.iconst 0, 1) := by decide +kernel
theorem dX6_weigh_1 : decode cX6_weigh 1 = .ok (.istore 5, 2) := by decide +kernel
theorem dX6_weigh_3 : decode cX6_weigh 3 = .ok (.iload 5, 2) := by decide +kernel
theorem dX6_weigh_5 : decode cX6_weigh 5 = .ok (.aload_n 1, 1) := by decide +kernel
theorem dX6_weigh_6 : decode cX6_weigh 6 = .ok (.getfield 36, 3) := by decide +kernel
theorem dX6_weigh_9 : decode cX6_weigh 9 = .ok (.iload_n 3, 1) := by decide +kernel
theorem dX6_weigh_10 : decode cX6_weigh 10 = .ok (.iaload, 1) := by decide +kernel
theorem dX6_weigh_11 : decode cX6_weigh 11 = .ok (.if_icmp .ge 146, 3) := by decide +kernel
theorem dX6_weigh_14 : decode cX6_weigh 14 = .ok (.aload_n 1, 1) := by decide +kernel
theorem dX6_weigh_15 : decode cX6_weigh 15 = .ok (.getfield 46, 3) := by decide +kernel
theorem dX6_weigh_18 : decode cX6_weigh 18 = .ok (.iload_n 3, 1) := by decide +kernel
theorem dX6_weigh_19 : decode cX6_weigh 19 = .ok (.bipush 6, 2) := by decide +kernel
theorem dX6_weigh_21 : decode cX6_weigh 21 = .ok (.imul, 1) := by decide +kernel
theorem dX6_weigh_22 : decode cX6_weigh 22 = .ok (.iload 5, 2) := by decide +kernel
theorem dX6_weigh_24 : decode cX6_weigh 24 = .ok (.iadd, 1) := by decide +kernel
theorem dX6_weigh_25 : decode cX6_weigh 25 = .ok (.iaload, 1) := by decide +kernel
theorem dX6_weigh_26 : decode cX6_weigh 26 = .ok (.istore 6, 2) := by decide +kernel
theorem dX6_weigh_28 : decode cX6_weigh 28 = .ok (.iconst 0, 1) := by decide +kernel
theorem dX6_weigh_29 : decode cX6_weigh 29 = .ok (.istore 7, 2) := by decide +kernel
theorem dX6_weigh_31 : decode cX6_weigh 31 = .ok (.iconst (-1), 1) := by decide +kernel
theorem dX6_weigh_32 : decode cX6_weigh 32 = .ok (.istore 8, 2) := by decide +kernel
theorem dX6_weigh_34 : decode cX6_weigh 34 = .ok (.iconst 0, 1) := by decide +kernel
theorem dX6_weigh_35 : decode cX6_weigh 35 = .ok (.istore 9, 2) := by decide +kernel
theorem dX6_weigh_37 : decode cX6_weigh 37 = .ok (.iload 4, 2) := by decide +kernel
theorem dX6_weigh_39 : decode cX6_weigh 39 = .ok (.iconst (-1), 1) := by decide +kernel
theorem dX6_weigh_40 : decode cX6_weigh 40 = .ok (.if_icmp .eq 77, 3) := by decide +kernel
theorem dX6_weigh_43 : decode cX6_weigh 43 = .ok (.iload 9, 2) := by decide +kernel
theorem dX6_weigh_45 : decode cX6_weigh 45 = .ok (.aload_n 1, 1) := by decide +kernel
theorem dX6_weigh_46 : decode cX6_weigh 46 = .ok (.getfield 36, 3) := by decide +kernel
theorem dX6_weigh_49 : decode cX6_weigh 49 = .ok (.iload 4, 2) := by decide +kernel
theorem dX6_weigh_51 : decode cX6_weigh 51 = .ok (.iaload, 1) := by decide +kernel
theorem dX6_weigh_52 : decode cX6_weigh 52 = .ok (.if_icmp .ge 65, 3) := by decide +kernel
theorem dX6_weigh_55 : decode cX6_weigh 55 = .ok (.aload_n 0, 1) := by decide +kernel
theorem dX6_weigh_56 : decode cX6_weigh 56 = .ok (.getfield 9, 3) := by decide +kernel
theorem dX6_weigh_59 : decode cX6_weigh 59 = .ok (.iload_n 2, 1) := by decide +kernel
theorem dX6_weigh_60 : decode cX6_weigh 60 = .ok (.iconst 1, 1) := by decide +kernel
theorem dX6_weigh_61 : decode cX6_weigh 61 = .ok (.iadd, 1) := by decide +kernel
theorem dX6_weigh_62 : decode cX6_weigh 62 = .ok (.bipush 6, 2) := by decide +kernel
theorem dX6_weigh_64 : decode cX6_weigh 64 = .ok (.imul, 1) := by decide +kernel
theorem dX6_weigh_65 : decode cX6_weigh 65 = .ok (.iload 9, 2) := by decide +kernel
theorem dX6_weigh_67 : decode cX6_weigh 67 = .ok (.iadd, 1) := by decide +kernel
theorem dX6_weigh_68 : decode cX6_weigh 68 = .ok (.iaload, 1) := by decide +kernel
theorem dX6_weigh_69 : decode cX6_weigh 69 = .ok (.iload 6, 2) := by decide +kernel
theorem dX6_weigh_71 : decode cX6_weigh 71 = .ok (.aload_n 1, 1) := by decide +kernel
theorem dX6_weigh_72 : decode cX6_weigh 72 = .ok (.getfield 46, 3) := by decide +kernel
theorem dX6_weigh_75 : decode cX6_weigh 75 = .ok (.iload 4, 2) := by decide +kernel
theorem dX6_weigh_77 : decode cX6_weigh 77 = .ok (.bipush 6, 2) := by decide +kernel
theorem dX6_weigh_79 : decode cX6_weigh 79 = .ok (.imul, 1) := by decide +kernel
theorem dX6_weigh_80 : decode cX6_weigh 80 = .ok (.iload 9, 2) := by decide +kernel
theorem dX6_weigh_82 : decode cX6_weigh 82 = .ok (.iadd, 1) := by decide +kernel
theorem dX6_weigh_83 : decode cX6_weigh 83 = .ok (.iaload, 1) := by decide +kernel
theorem dX6_weigh_84 : decode cX6_weigh 84 = .ok (.invokestatic 49, 3) := by decide +kernel
theorem dX6_weigh_87 : decode cX6_weigh 87 = .ok (.iadd, 1) := by decide +kernel
theorem dX6_weigh_88 : decode cX6_weigh 88 = .ok (.istore 10, 2) := by decide +kernel
theorem dX6_weigh_90 : decode cX6_weigh 90 = .ok (.iload 8, 2) := by decide +kernel
theorem dX6_weigh_92 : decode cX6_weigh 92 = .ok (.iconst (-1), 1) := by decide +kernel
theorem dX6_weigh_93 : decode cX6_weigh 93 = .ok (.if_icmp .eq 10, 3) := by decide +kernel
theorem dX6_weigh_96 : decode cX6_weigh 96 = .ok (.iload 10, 2) := by decide +kernel
theorem dX6_weigh_98 : decode cX6_weigh 98 = .ok (.iload 7, 2) := by decide +kernel
theorem dX6_weigh_100 : decode cX6_weigh 100 = .ok (.if_icmp .ge 11, 3) := by decide +kernel
theorem dX6_weigh_103 : decode cX6_weigh 103 = .ok (.iload 10, 2) := by decide +kernel
theorem dX6_weigh_105 : decode cX6_weigh 105 = .ok (.istore 7, 2) := by decide +kernel
theorem dX6_weigh_107 : decode cX6_weigh 107 = .ok (.iload 9, 2) := by decide +kernel
theorem dX6_weigh_109 : decode cX6_weigh 109 = .ok (.istore 8, 2) := by decide +kernel
theorem dX6_weigh_111 : decode cX6_weigh 111 = .ok (.iinc 9 1, 3) := by decide +kernel
theorem dX6_weigh_114 : decode cX6_weigh 114 = .ok (.goto (-77), 3) := by decide +kernel
theorem dX6_weigh_117 : decode cX6_weigh 117 = .ok (.aload_n 0, 1) := by decide +kernel
theorem dX6_weigh_118 : decode cX6_weigh 118 = .ok (.getfield 9, 3) := by decide +kernel
theorem dX6_weigh_121 : decode cX6_weigh 121 = .ok (.iload_n 2, 1) := by decide +kernel
theorem dX6_weigh_122 : decode cX6_weigh 122 = .ok (.bipush 6, 2) := by decide +kernel
theorem dX6_weigh_124 : decode cX6_weigh 124 = .ok (.imul, 1) := by decide +kernel
theorem dX6_weigh_125 : decode cX6_weigh 125 = .ok (.iload 5, 2) := by decide +kernel
theorem dX6_weigh_127 : decode cX6_weigh 127 = .ok (.iadd, 1) := by decide +kernel
theorem dX6_weigh_128 : decode cX6_weigh 128 = .ok (.iload 6, 2) := by decide +kernel
theorem dX6_weigh_130 : decode cX6_weigh 130 = .ok (.invokestatic 55, 3) := by decide +kernel
theorem dX6_weigh_133 : decode cX6_weigh 133 = .ok (.iload 7, 2) := by decide +kernel
theorem dX6_weigh_135 : decode cX6_weigh 135 = .ok (.iadd, 1) := by decide +kernel
theorem dX6_weigh_136 : decode cX6_weigh 136 = .ok (.iastore, 1) := by decide +kernel
theorem dX6_weigh_137 : decode cX6_weigh 137 = .ok (.aload_n 0, 1) := by decide +kernel
theorem dX6_weigh_138 : decode cX6_weigh 138 = .ok (.getfield 15, 3) := by decide +kernel
theorem dX6_weigh_141 : decode cX6_weigh 141 = .ok (.iload_n 2, 1) := by decide +kernel
theorem dX6_weigh_142 : decode cX6_weigh 142 = .ok (.bipush 6, 2) := by decide +kernel
theorem dX6_weigh_144 : decode cX6_weigh 144 = .ok (.imul, 1) := by decide +kernel
theorem dX6_weigh_145 : decode cX6_weigh 145 = .ok (.iload 5, 2) := by decide +kernel
theorem dX6_weigh_147 : decode cX6_weigh 147 = .ok (.iadd, 1) := by decide +kernel
theorem dX6_weigh_148 : decode cX6_weigh 148 = .ok (.iload 8, 2) := by decide +kernel
theorem dX6_weigh_150 : decode cX6_weigh 150 = .ok (.iastore, 1) := by decide +kernel
theorem dX6_weigh_151 : decode cX6_weigh 151 = .ok (.iinc 5 1, 3) := by decide +kernel
theorem dX6_weigh_154 : decode cX6_weigh 154 = .ok (.goto (-151), 3) := by decide +kernel
theorem dX6_weigh_157 : decode cX6_weigh 157 = .ok (.return_, 1) := by decide +kernel
theorem dX6_keepAt_0 : decode cX6_keepAt 0 = .ok (.aload_n 0, 1) := by decide +kernel
theorem dX6_keepAt_1 : decode cX6_keepAt 1 = .ok (.getfield 43, 3) := by decide +kernel
theorem dX6_keepAt_4 : decode cX6_keepAt 4 = .ok (.istore_n 3, 1) := by decide +kernel
theorem dX6_keepAt_5 : decode cX6_keepAt 5 = .ok (.iconst 0, 1) := by decide +kernel
theorem dX6_keepAt_6 : decode cX6_keepAt 6 = .ok (.istore 4, 2) := by decide +kernel
theorem dX6_keepAt_8 : decode cX6_keepAt 8 = .ok (.iload 4, 2) := by decide +kernel
theorem dX6_keepAt_10 : decode cX6_keepAt 10 = .ok (.iload_n 1, 1) := by decide +kernel
theorem dX6_keepAt_11 : decode cX6_keepAt 11 = .ok (.if_icmp .ge 47, 3) := by decide +kernel
theorem dX6_keepAt_14 : decode cX6_keepAt 14 = .ok (.iload 4, 2) := by decide +kernel
theorem dX6_keepAt_16 : decode cX6_keepAt 16 = .ok (.bipush 60, 2) := by decide +kernel
theorem dX6_keepAt_18 : decode cX6_keepAt 18 = .ok (.if_icmp .ge 40, 3) := by decide +kernel
theorem dX6_keepAt_21 : decode cX6_keepAt 21 = .ok (.iload_n 3, 1) := by decide +kernel
theorem dX6_keepAt_22 : decode cX6_keepAt 22 = .ok (.ifCond .lt 36, 3) := by decide +kernel
theorem dX6_keepAt_25 : decode cX6_keepAt 25 = .ok (.iload_n 3, 1) := by decide +kernel
theorem dX6_keepAt_26 : decode cX6_keepAt 26 = .ok (.bipush 6, 2) := by decide +kernel
theorem dX6_keepAt_28 : decode cX6_keepAt 28 = .ok (.if_icmp .ge 30, 3) := by decide +kernel
theorem dX6_keepAt_31 : decode cX6_keepAt 31 = .ok (.aload_n 0, 1) := by decide +kernel
theorem dX6_keepAt_32 : decode cX6_keepAt 32 = .ok (.getfield 18, 3) := by decide +kernel
theorem dX6_keepAt_35 : decode cX6_keepAt 35 = .ok (.iload 4, 2) := by decide +kernel
theorem dX6_keepAt_37 : decode cX6_keepAt 37 = .ok (.iload_n 3, 1) := by decide +kernel
theorem dX6_keepAt_38 : decode cX6_keepAt 38 = .ok (.iastore, 1) := by decide +kernel
theorem dX6_keepAt_39 : decode cX6_keepAt 39 = .ok (.aload_n 0, 1) := by decide +kernel
theorem dX6_keepAt_40 : decode cX6_keepAt 40 = .ok (.getfield 15, 3) := by decide +kernel
theorem dX6_keepAt_43 : decode cX6_keepAt 43 = .ok (.iload 4, 2) := by decide +kernel
theorem dX6_keepAt_45 : decode cX6_keepAt 45 = .ok (.bipush 6, 2) := by decide +kernel
theorem dX6_keepAt_47 : decode cX6_keepAt 47 = .ok (.imul, 1) := by decide +kernel
theorem dX6_keepAt_48 : decode cX6_keepAt 48 = .ok (.iload_n 3, 1) := by decide +kernel
theorem dX6_keepAt_49 : decode cX6_keepAt 49 = .ok (.iadd, 1) := by decide +kernel
theorem dX6_keepAt_50 : decode cX6_keepAt 50 = .ok (.iaload, 1) := by decide +kernel
theorem dX6_keepAt_51 : decode cX6_keepAt 51 = .ok (.istore_n 3, 1) := by decide +kernel
theorem dX6_keepAt_52 : decode cX6_keepAt 52 = .ok (.iinc 4 1, 3) := by decide +kernel
theorem dX6_keepAt_55 : decode cX6_keepAt 55 = .ok (.goto (-47), 3) := by decide +kernel
theorem dX6_keepAt_58 : decode cX6_keepAt 58 = .ok (.aload_n 0, 1) := by decide +kernel
theorem dX6_keepAt_59 : decode cX6_keepAt 59 = .ok (.iload_n 2, 1) := by decide +kernel
theorem dX6_keepAt_60 : decode cX6_keepAt 60 = .ok (.putfield 21, 3) := by decide +kernel
theorem dX6_keepAt_63 : decode cX6_keepAt 63 = .ok (.return_, 1) := by decide +kernel
theorem dX7_init_0 : decode cX7_init 0 = .ok (.aload_n 0, 1) := by decide +kernel
theorem dX7_init_1 : decode cX7_init 1 = .ok (.invokespecial 3, 3) := by decide +kernel
theorem dX7_init_4 : decode cX7_init 4 = .ok (.aload_n 0, 1) := by decide +kernel
theorem dX7_init_5 : decode cX7_init 5 = .ok (.iconst 0, 1) := by decide +kernel
theorem dX7_init_6 : decode cX7_init 6 = .ok (.newarray .int, 2) := by decide +kernel
theorem dX7_init_8 : decode cX7_init 8 = .ok (.putfield 9, 3) := by decide +kernel
theorem dX7_init_11 : decode cX7_init 11 = .ok (.aload_n 0, 1) := by decide +kernel
theorem dX7_init_12 : decode cX7_init 12 = .ok (.iconst (-1), 1) := by decide +kernel
theorem dX7_init_13 : decode cX7_init 13 = .ok (.putfield 15, 3) := by decide +kernel
theorem dX7_init_16 : decode cX7_init 16 = .ok (.return_, 1) := by decide +kernel
theorem dX7_readInto_0 : decode cX7_readInto 0 = .ok (.aload_n 0, 1) := by decide +kernel
theorem dX7_readInto_1 : decode cX7_readInto 1 = .ok (.aload_n 2, 1) := by decide +kernel
theorem dX7_readInto_2 : decode cX7_readInto 2 = .ok (.putfield 9, 3) := by decide +kernel
theorem dX7_readInto_5 : decode cX7_readInto 5 = .ok (.aload_n 0, 1) := by decide +kernel
theorem dX7_readInto_6 : decode cX7_readInto 6 = .ok (.iload_n 3, 1) := by decide +kernel
theorem dX7_readInto_7 : decode cX7_readInto 7 = .ok (.aload_n 2, 1) := by decide +kernel
theorem dX7_readInto_8 : decode cX7_readInto 8 = .ok (.arraylength, 1) := by decide +kernel
theorem dX7_readInto_9 : decode cX7_readInto 9 = .ok (.invokestatic 19, 3) := by decide +kernel
theorem dX7_readInto_12 : decode cX7_readInto 12 = .ok (.putfield 25, 3) := by decide +kernel
theorem dX7_readInto_15 : decode cX7_readInto 15 = .ok (.aload_n 0, 1) := by decide +kernel
theorem dX7_readInto_16 : decode cX7_readInto 16 = .ok (.iconst 0, 1) := by decide +kernel
theorem dX7_readInto_17 : decode cX7_readInto 17 = .ok (.putfield 28, 3) := by decide +kernel
theorem dX7_readInto_20 : decode cX7_readInto 20 = .ok (.aload_n 0, 1) := by decide +kernel
theorem dX7_readInto_21 : decode cX7_readInto 21 = .ok (.iconst 0, 1) := by decide +kernel
theorem dX7_readInto_22 : decode cX7_readInto 22 = .ok (.putfield 31, 3) := by decide +kernel
theorem dX7_readInto_25 : decode cX7_readInto 25 = .ok (.aload_n 0, 1) := by decide +kernel
theorem dX7_readInto_26 : decode cX7_readInto 26 = .ok (.iconst (-1), 1) := by decide +kernel
theorem dX7_readInto_27 : decode cX7_readInto 27 = .ok (.putfield 15, 3) := by decide +kernel
theorem dX7_readInto_30 : decode cX7_readInto 30 = .ok (.aload_n 1, 1) := by decide +kernel
theorem dX7_readInto_31 : decode cX7_readInto 31 = .ok (.invokevirtual 34, 3) := by decide +kernel
theorem dX7_readInto_34 : decode cX7_readInto 34 = .ok (.iconst 0, 1) := by decide +kernel
theorem dX7_readInto_35 : decode cX7_readInto 35 = .ok (.istore 4, 2) := by decide +kernel
theorem dX7_readInto_37 : decode cX7_readInto 37 = .ok (.iload 4, 2) := by decide +kernel
theorem dX7_readInto_39 : decode cX7_readInto 39 = .ok (.aload_n 0, 1) := by decide +kernel
theorem dX7_readInto_40 : decode cX7_readInto 40 = .ok (.getfield 25, 3) := by decide +kernel
theorem dX7_readInto_43 : decode cX7_readInto 43 = .ok (.if_icmp .ge 32, 3) := by decide +kernel
theorem dX7_readInto_46 : decode cX7_readInto 46 = .ok (.aload_n 0, 1) := by decide +kernel
theorem dX7_readInto_47 : decode cX7_readInto 47 = .ok (.getfield 28, 3) := by decide +kernel
theorem dX7_readInto_50 : decode cX7_readInto 50 = .ok (.aload_n 0, 1) := by decide +kernel
theorem dX7_readInto_51 : decode cX7_readInto 51 = .ok (.getfield 25, 3) := by decide +kernel
theorem dX7_readInto_54 : decode cX7_readInto 54 = .ok (.if_icmp .ge 21, 3) := by decide +kernel
theorem dX7_readInto_57 : decode cX7_readInto 57 = .ok (.aload_n 0, 1) := by decide +kernel
theorem dX7_readInto_58 : decode cX7_readInto 58 = .ok (.getfield 31, 3) := by decide +kernel
theorem dX7_readInto_61 : decode cX7_readInto 61 = .ok (.ifCond .ne 14, 3) := by decide +kernel
theorem dX7_readInto_64 : decode cX7_readInto 64 = .ok (.aload_n 0, 1) := by decide +kernel
theorem dX7_readInto_65 : decode cX7_readInto 65 = .ok (.aload_n 1, 1) := by decide +kernel
theorem dX7_readInto_66 : decode cX7_readInto 66 = .ok (.invokevirtual 39, 3) := by decide +kernel
theorem dX7_readInto_69 : decode cX7_readInto 69 = .ok (.iinc 4 1, 3) := by decide +kernel
theorem dX7_readInto_72 : decode cX7_readInto 72 = .ok (.goto (-35), 3) := by decide +kernel
theorem dX7_readInto_75 : decode cX7_readInto 75 = .ok (.return_, 1) := by decide +kernel
theorem dX7_readItem_0 : decode cX7_readItem 0 = .ok (.aload_n 0, 1) := by decide +kernel
theorem dX7_readItem_1 : decode cX7_readItem 1 = .ok (.aload_n 0, 1) := by decide +kernel
theorem dX7_readItem_2 : decode cX7_readItem 2 = .ok (.getfield 28, 3) := by decide +kernel
theorem dX7_readItem_5 : decode cX7_readItem 5 = .ok (.invokevirtual 43, 3) := by decide +kernel
theorem dX7_readItem_8 : decode cX7_readItem 8 = .ok (.istore_n 2, 1) := by decide +kernel
theorem dX7_readItem_9 : decode cX7_readItem 9 = .ok (.iload_n 2, 1) := by decide +kernel
theorem dX7_readItem_10 : decode cX7_readItem 10 = .ok (.bipush 91, 2) := by decide +kernel
theorem dX7_readItem_12 : decode cX7_readItem 12 = .ok (.if_icmp .ne 11, 3) := by decide +kernel
theorem dX7_readItem_15 : decode cX7_readItem 15 = .ok (.aload_n 0, 1) := by decide +kernel
theorem dX7_readItem_16 : decode cX7_readItem 16 = .ok (.aload_n 1, 1) := by decide +kernel
theorem dX7_readItem_17 : decode cX7_readItem 17 = .ok (.invokevirtual 47, 3) := by decide +kernel
theorem dX7_readItem_20 : decode cX7_readItem 20 = .ok (.goto 58, 3) := by decide +kernel
theorem dX7_readItem_23 : decode cX7_readItem 23 = .ok (.iload_n 2, 1) := by decide +kernel
theorem dX7_readItem_24 : decode cX7_readItem 24 = .ok (.bipush 10, 2) := by decide +kernel
theorem dX7_readItem_26 : decode cX7_readItem 26 = .ok (.if_icmp .ne 11, 3) := by decide +kernel
theorem dX7_readItem_29 : decode cX7_readItem 29 = .ok (.aload_n 0, 1) := by decide +kernel
theorem dX7_readItem_30 : decode cX7_readItem 30 = .ok (.aload_n 1, 1) := by decide +kernel
theorem dX7_readItem_31 : decode cX7_readItem 31 = .ok (.invokevirtual 50, 3) := by decide +kernel
theorem dX7_readItem_34 : decode cX7_readItem 34 = .ok (.goto 44, 3) := by decide +kernel
theorem dX7_readItem_37 : decode cX7_readItem 37 = .ok (.iload_n 2, 1) := by decide +kernel
theorem dX7_readItem_38 : decode cX7_readItem 38 = .ok (.bipush 32, 2) := by decide +kernel
theorem dX7_readItem_40 : decode cX7_readItem 40 = .ok (.if_icmp .lt 15, 3) := by decide +kernel
theorem dX7_readItem_43 : decode cX7_readItem 43 = .ok (.iload_n 2, 1) := by decide +kernel
theorem dX7_readItem_44 : decode cX7_readItem 44 = .ok (.bipush 126, 2) := by decide +kernel
theorem dX7_readItem_46 : decode cX7_readItem 46 = .ok (.if_icmp .gt 9, 3) := by decide +kernel
theorem dX7_readItem_49 : decode cX7_readItem 49 = .ok (.iload_n 2, 1) := by decide +kernel
theorem dX7_readItem_50 : decode cX7_readItem 50 = .ok (.bipush 93, 2) := by decide +kernel
theorem dX7_readItem_52 : decode cX7_readItem 52 = .ok (.if_icmp .ne 11, 3) := by decide +kernel
theorem dX7_readItem_55 : decode cX7_readItem 55 = .ok (.aload_n 0, 1) := by decide +kernel
theorem dX7_readItem_56 : decode cX7_readItem 56 = .ok (.iconst 1, 1) := by decide +kernel
theorem dX7_readItem_57 : decode cX7_readItem 57 = .ok (.invokevirtual 53, 3) := by decide +kernel
theorem dX7_readItem_60 : decode cX7_readItem 60 = .ok (.goto 18, 3) := by decide +kernel
theorem dX7_readItem_63 : decode cX7_readItem 63 = .ok (.aload_n 1, 1) := by decide +kernel
theorem dX7_readItem_64 : decode cX7_readItem 64 = .ok (.iload_n 2, 1) := by decide +kernel
theorem dX7_readItem_65 : decode cX7_readItem 65 = .ok (.invokevirtual 57, 3) := by decide +kernel
theorem dX7_readItem_68 : decode cX7_readItem 68 = .ok (.aload_n 0, 1) := by decide +kernel
theorem dX7_readItem_69 : decode cX7_readItem 69 = .ok (.dup, 1) := by decide +kernel
theorem dX7_readItem_70 : decode cX7_readItem 70 = .ok (.getfield 28, 3) := by decide +kernel
theorem dX7_readItem_73 : decode cX7_readItem 73 = .ok (.iconst 1, 1) := by decide +kernel
theorem dX7_readItem_74 : decode cX7_readItem 74 = .ok (.iadd, 1) := by decide +kernel
theorem dX7_readItem_75 : decode cX7_readItem 75 = .ok (.putfield 28, 3) := by decide +kernel
theorem dX7_readItem_78 : decode cX7_readItem 78 = .ok (.return_, 1) := by decide +kernel
theorem dX7_readLineEnd_0 : decode cX7_readLineEnd 0 = .ok (.aload_n 1, 1) := by decide +kernel
theorem dX7_readLineEnd_1 : decode cX7_readLineEnd 1 = .ok (.getfield 60, 3) := by decide +kernel
theorem dX7_readLineEnd_4 : decode cX7_readLineEnd 4 = .ok (.bipush 40, 2) := by decide +kernel
theorem dX7_readLineEnd_6 : decode cX7_readLineEnd 6 = .ok (.if_icmp .lt 9, 3) := by decide +kernel
theorem dX7_readLineEnd_9 : decode cX7_readLineEnd 9 = .ok (.aload_n 0, 1) := by decide +kernel
theorem dX7_readLineEnd_10 : decode cX7_readLineEnd 10 = .ok (.iconst 2, 1) := by decide +kernel
theorem dX7_readLineEnd_11 : decode cX7_readLineEnd 11 = .ok (.invokevirtual 53, 3) := by decide +kernel
theorem dX7_readLineEnd_14 : decode cX7_readLineEnd 14 = .ok (.return_, 1) := by decide +kernel
theorem dX7_readLineEnd_15 : decode cX7_readLineEnd 15 = .ok (.aload_n 1, 1) := by decide +kernel
theorem dX7_readLineEnd_16 : decode cX7_readLineEnd 16 = .ok (.invokevirtual 63, 3) := by decide +kernel
theorem dX7_readLineEnd_19 : decode cX7_readLineEnd 19 = .ok (.aload_n 0, 1) := by decide +kernel
theorem dX7_readLineEnd_20 : decode cX7_readLineEnd 20 = .ok (.dup, 1) := by decide +kernel
theorem dX7_readLineEnd_21 : decode cX7_readLineEnd 21 = .ok (.getfield 28, 3) := by decide +kernel
theorem dX7_readLineEnd_24 : decode cX7_readLineEnd 24 = .ok (.iconst 1, 1) := by decide +kernel
theorem dX7_readLineEnd_25 : decode cX7_readLineEnd 25 = .ok (.iadd, 1) := by decide +kernel
theorem dX7_readLineEnd_26 : decode cX7_readLineEnd 26 = .ok (.putfield 28, 3) := by decide +kernel
theorem dX7_readLineEnd_29 : decode cX7_readLineEnd 29 = .ok (.return_, 1) := by decide +kernel
theorem dX7_readChord_0 : decode cX7_readChord 0 = .ok (.aload_n 1, 1) := by decide +kernel
theorem dX7_readChord_1 : decode cX7_readChord 1 = .ok (.getfield 66, 3) := by decide +kernel
theorem dX7_readChord_4 : decode cX7_readChord 4 = .ok (.bipush 60, 2) := by decide +kernel
theorem dX7_readChord_6 : decode cX7_readChord 6 = .ok (.if_icmp .lt 9, 3) := by decide +kernel
theorem dX7_readChord_9 : decode cX7_readChord 9 = .ok (.aload_n 0, 1) := by decide +kernel
theorem dX7_readChord_10 : decode cX7_readChord 10 = .ok (.iconst 2, 1) := by decide +kernel
theorem dX7_readChord_11 : decode cX7_readChord 11 = .ok (.invokevirtual 53, 3) := by decide +kernel
theorem dX7_readChord_14 : decode cX7_readChord 14 = .ok (.return_, 1) := by decide +kernel
theorem dX7_readChord_15 : decode cX7_readChord 15 = .ok (.aload_n 0, 1) := by decide +kernel
theorem dX7_readChord_16 : decode cX7_readChord 16 = .ok (.dup, 1) := by decide +kernel
theorem dX7_readChord_17 : decode cX7_readChord 17 = .ok (.getfield 28, 3) := by decide +kernel
theorem dX7_readChord_20 : decode cX7_readChord 20 = .ok (.iconst 1, 1) := by decide +kernel
theorem dX7_readChord_21 : decode cX7_readChord 21 = .ok (.iadd, 1) := by decide +kernel
theorem dX7_readChord_22 : decode cX7_readChord 22 = .ok (.putfield 28, 3) := by decide +kernel
theorem dX7_readChord_25 : decode cX7_readChord 25 = .ok (.aload_n 0, 1) := by decide +kernel
theorem dX7_readChord_26 : decode cX7_readChord 26 = .ok (.invokevirtual 69, 3) := by decide +kernel
theorem dX7_readChord_29 : decode cX7_readChord 29 = .ok (.istore_n 2, 1) := by decide +kernel
theorem dX7_readChord_30 : decode cX7_readChord 30 = .ok (.iload_n 2, 1) := by decide +kernel
theorem dX7_readChord_31 : decode cX7_readChord 31 = .ok (.bipush (-100), 2) := by decide +kernel
theorem dX7_readChord_33 : decode cX7_readChord 33 = .ok (.if_icmp .ne 9, 3) := by decide +kernel
theorem dX7_readChord_36 : decode cX7_readChord 36 = .ok (.aload_n 0, 1) := by decide +kernel
theorem dX7_readChord_37 : decode cX7_readChord 37 = .ok (.iconst 1, 1) := by decide +kernel
theorem dX7_readChord_38 : decode cX7_readChord 38 = .ok (.invokevirtual 53, 3) := by decide +kernel
theorem dX7_readChord_41 : decode cX7_readChord 41 = .ok (.return_, 1) := by decide +kernel
theorem dX7_readChord_42 : decode cX7_readChord 42 = .ok (.aload_n 0, 1) := by decide +kernel
theorem dX7_readChord_43 : decode cX7_readChord 43 = .ok (.invokevirtual 75, 3) := by decide +kernel
theorem dX7_readChord_46 : decode cX7_readChord 46 = .ok (.istore_n 3, 1) := by decide +kernel
theorem dX7_readChord_47 : decode cX7_readChord 47 = .ok (.iload_n 2, 1) := by decide +kernel
theorem dX7_readChord_48 : decode cX7_readChord 48 = .ok (.istore 4, 2) := by decide +kernel
theorem dX7_readChord_50 : decode cX7_readChord 50 = .ok (.aload_n 0, 1) := by decide +kernel
theorem dX7_readChord_51 : decode cX7_readChord 51 = .ok (.aload_n 0, 1) := by decide +kernel
theorem dX7_readChord_52 : decode cX7_readChord 52 = .ok (.getfield 28, 3) := by decide +kernel
theorem dX7_readChord_55 : decode cX7_readChord 55 = .ok (.invokevirtual 43, 3) := by decide +kernel
theorem dX7_readChord_58 : decode cX7_readChord 58 = .ok (.bipush 47, 2) := by decide +kernel
theorem dX7_readChord_60 : decode cX7_readChord 60 = .ok (.if_icmp .ne 19, 3) := by decide +kernel
theorem dX7_readChord_63 : decode cX7_readChord 63 = .ok (.aload_n 0, 1) := by decide +kernel
theorem dX7_readChord_64 : decode cX7_readChord 64 = .ok (.dup, 1) := by decide +kernel
theorem dX7_readChord_65 : decode cX7_readChord 65 = .ok (.getfield 28, 3) := by decide +kernel
theorem dX7_readChord_68 : decode cX7_readChord 68 = .ok (.iconst 1, 1) := by decide +kernel
theorem dX7_readChord_69 : decode cX7_readChord 69 = .ok (.iadd, 1) := by decide +kernel
theorem dX7_readChord_70 : decode cX7_readChord 70 = .ok (.putfield 28, 3) := by decide +kernel
theorem dX7_readChord_73 : decode cX7_readChord 73 = .ok (.aload_n 0, 1) := by decide +kernel
theorem dX7_readChord_74 : decode cX7_readChord 74 = .ok (.invokevirtual 69, 3) := by decide +kernel
theorem dX7_readChord_77 : decode cX7_readChord 77 = .ok (.istore 4, 2) := by decide +kernel
theorem dX7_readChord_79 : decode cX7_readChord 79 = .ok (.iload 4, 2) := by decide +kernel
theorem dX7_readChord_81 : decode cX7_readChord 81 = .ok (.bipush (-100), 2) := by decide +kernel
theorem dX7_readChord_83 : decode cX7_readChord 83 = .ok (.if_icmp .eq 16, 3) := by decide +kernel
theorem dX7_readChord_86 : decode cX7_readChord 86 = .ok (.aload_n 0, 1) := by decide +kernel
theorem dX7_readChord_87 : decode cX7_readChord 87 = .ok (.aload_n 0, 1) := by decide +kernel
theorem dX7_readChord_88 : decode cX7_readChord 88 = .ok (.getfield 28, 3) := by decide +kernel
theorem dX7_readChord_91 : decode cX7_readChord 91 = .ok (.invokevirtual 43, 3) := by decide +kernel
theorem dX7_readChord_94 : decode cX7_readChord 94 = .ok (.bipush 93, 2) := by decide +kernel
theorem dX7_readChord_96 : decode cX7_readChord 96 = .ok (.if_icmp .eq 9, 3) := by decide +kernel
theorem dX7_readChord_99 : decode cX7_readChord 99 = .ok (.aload_n 0, 1) := by decide +kernel
theorem dX7_readChord_100 : decode cX7_readChord 100 = .ok (.iconst 1, 1) := by decide +kernel
theorem dX7_readChord_101 : decode cX7_readChord 101 = .ok (.invokevirtual 53, 3) := by decide +kernel
theorem dX7_readChord_104 : decode cX7_readChord 104 = .ok (.return_, 1) := by decide +kernel
theorem dX7_readChord_105 : decode cX7_readChord 105 = .ok (.aload_n 0, 1) := by decide +kernel
theorem dX7_readChord_106 : decode cX7_readChord 106 = .ok (.dup, 1) := by decide +kernel
theorem dX7_readChord_107 : decode cX7_readChord 107 = .ok (.getfield 28, 3) := by decide +kernel
theorem dX7_readChord_110 : decode cX7_readChord 110 = .ok (.iconst 1, 1) := by decide +kernel
theorem dX7_readChord_111 : decode cX7_readChord 111 = .ok (.iadd, 1) := by decide +kernel
theorem dX7_readChord_112 : decode cX7_readChord 112 = .ok (.putfield 28, 3) := by decide +kernel
theorem dX7_readChord_115 : decode cX7_readChord 115 = .ok (.aload_n 1, 1) := by decide +kernel
theorem dX7_readChord_116 : decode cX7_readChord 116 = .ok (.iload_n 2, 1) := by decide +kernel
theorem dX7_readChord_117 : decode cX7_readChord 117 = .ok (.iload_n 3, 1) := by decide +kernel
theorem dX7_readChord_118 : decode cX7_readChord 118 = .ok (.iload 4, 2) := by decide +kernel
theorem dX7_readChord_120 : decode cX7_readChord 120 = .ok (.invokevirtual 78, 3) := by decide +kernel
theorem dX7_readChord_123 : decode cX7_readChord 123 = .ok (.return_, 1) := by decide +kernel
theorem dX7_readNote_0 : decode cX7_readNote 0 = .ok (.aload_n 0, 1) := by decide +kernel
theorem dX7_readNote_1 : decode cX7_readNote 1 = .ok (.aload_n 0, 1) := by decide +kernel
theorem dX7_readNote_2 : decode cX7_readNote 2 = .ok (.getfield 28, 3) := by decide +kernel
theorem dX7_readNote_5 : decode cX7_readNote 5 = .ok (.invokevirtual 43, 3) := by decide +kernel
theorem dX7_readNote_8 : decode cX7_readNote 8 = .ok (.invokestatic 82, 3) := by decide +kernel
theorem dX7_readNote_11 : decode cX7_readNote 11 = .ok (.istore_n 1, 1) := by decide +kernel
theorem dX7_readNote_12 : decode cX7_readNote 12 = .ok (.iload_n 1, 1) := by decide +kernel
theorem dX7_readNote_13 : decode cX7_readNote 13 = .ok (.bipush (-100), 2) := by decide +kernel
theorem dX7_readNote_15 : decode cX7_readNote 15 = .ok (.if_icmp .ne 6, 3) := by decide +kernel
theorem dX7_readNote_18 : decode cX7_readNote 18 = .ok (.bipush (-100), 2) := by decide +kernel
theorem dX7_readNote_20 : decode cX7_readNote 20 = .ok (.ireturn, 1) := by decide +kernel
theorem dX7_readNote_21 : decode cX7_readNote 21 = .ok (.aload_n 0, 1) := by decide +kernel
theorem dX7_readNote_22 : decode cX7_readNote 22 = .ok (.dup, 1) := by decide +kernel
theorem dX7_readNote_23 : decode cX7_readNote 23 = .ok (.getfield 28, 3) := by decide +kernel
theorem dX7_readNote_26 : decode cX7_readNote 26 = .ok (.iconst 1, 1) := by decide +kernel
theorem dX7_readNote_27 : decode cX7_readNote 27 = .ok (.iadd, 1) := by decide +kernel
theorem dX7_readNote_28 : decode cX7_readNote 28 = .ok (.putfield 28, 3) := by decide +kernel
theorem dX7_readNote_31 : decode cX7_readNote 31 = .ok (.aload_n 0, 1) := by decide +kernel
theorem dX7_readNote_32 : decode cX7_readNote 32 = .ok (.aload_n 0, 1) := by decide +kernel
theorem dX7_readNote_33 : decode cX7_readNote 33 = .ok (.getfield 28, 3) := by decide +kernel
theorem dX7_readNote_36 : decode cX7_readNote 36 = .ok (.invokevirtual 43, 3) := by decide +kernel
theorem dX7_readNote_39 : decode cX7_readNote 39 = .ok (.istore_n 2, 1) := by decide +kernel
theorem dX7_readNote_40 : decode cX7_readNote 40 = .ok (.iload_n 2, 1) := by decide +kernel
theorem dX7_readNote_41 : decode cX7_readNote 41 = .ok (.bipush 35, 2) := by decide +kernel
theorem dX7_readNote_43 : decode cX7_readNote 43 = .ok (.if_icmp .eq 11, 3) := by decide +kernel
theorem dX7_readNote_46 : decode cX7_readNote 46 = .ok (.iload_n 2, 1) := by decide +kernel
theorem dX7_readNote_47 : decode cX7_readNote 47 = .ok (.bipush 98, 2) := by decide +kernel
theorem dX7_readNote_49 : decode cX7_readNote 49 = .ok (.if_icmp .eq 5, 3) := by decide +kernel
theorem dX7_readNote_52 : decode cX7_readNote 52 = .ok (.iload_n 1, 1) := by decide +kernel
theorem dX7_readNote_53 : decode cX7_readNote 53 = .ok (.ireturn, 1) := by decide +kernel
theorem dX7_readNote_54 : decode cX7_readNote 54 = .ok (.iload_n 2, 1) := by decide +kernel
theorem dX7_readNote_55 : decode cX7_readNote 55 = .ok (.bipush 35, 2) := by decide +kernel
theorem dX7_readNote_57 : decode cX7_readNote 57 = .ok (.if_icmp .ne 8, 3) := by decide +kernel
theorem dX7_readNote_60 : decode cX7_readNote 60 = .ok (.bipush 7, 2) := by decide +kernel
theorem dX7_readNote_62 : decode cX7_readNote 62 = .ok (.goto 5, 3) := by decide +kernel
theorem dX7_readNote_65 : decode cX7_readNote 65 = .ok (.bipush (-7), 2) := by decide +kernel
theorem dX7_readNote_67 : decode cX7_readNote 67 = .ok (.istore_n 3, 1) := by decide +kernel
theorem dX7_readNote_68 : decode cX7_readNote 68 = .ok (.aload_n 0, 1) := by decide +kernel
theorem dX7_readNote_69 : decode cX7_readNote 69 = .ok (.dup, 1) := by decide +kernel
theorem dX7_readNote_70 : decode cX7_readNote 70 = .ok (.getfield 28, 3) := by decide +kernel
theorem dX7_readNote_73 : decode cX7_readNote 73 = .ok (.iconst 1, 1) := by decide +kernel
theorem dX7_readNote_74 : decode cX7_readNote 74 = .ok (.iadd, 1) := by decide +kernel
theorem dX7_readNote_75 : decode cX7_readNote 75 = .ok (.putfield 28, 3) := by decide +kernel
theorem dX7_readNote_78 : decode cX7_readNote 78 = .ok (.aload_n 0, 1) := by decide +kernel
theorem dX7_readNote_79 : decode cX7_readNote 79 = .ok (.aload_n 0, 1) := by decide +kernel
theorem dX7_readNote_80 : decode cX7_readNote 80 = .ok (.getfield 28, 3) := by decide +kernel
theorem dX7_readNote_83 : decode cX7_readNote 83 = .ok (.invokevirtual 43, 3) := by decide +kernel
theorem dX7_readNote_86 : decode cX7_readNote 86 = .ok (.iload_n 2, 1) := by decide +kernel
theorem dX7_readNote_87 : decode cX7_readNote 87 = .ok (.if_icmp .eq 7, 3) := by decide +kernel
theorem dX7_readNote_90 : decode cX7_readNote 90 = .ok (.iload_n 1, 1) := by decide +kernel
theorem dX7_readNote_91 : decode cX7_readNote 91 = .ok (.iload_n 3, 1) := by decide +kernel
theorem dX7_readNote_92 : decode cX7_readNote 92 = .ok (.iadd, 1) := by decide +kernel
theorem dX7_readNote_93 : decode cX7_readNote 93 = .ok (.ireturn, 1) := by decide +kernel
theorem dX7_readNote_94 : decode cX7_readNote 94 = .ok (.aload_n 0, 1) := by decide +kernel
theorem dX7_readNote_95 : decode cX7_readNote 95 = .ok (.dup, 1) := by decide +kernel
theorem dX7_readNote_96 : decode cX7_readNote 96 = .ok (.getfield 28, 3) := by decide +kernel
theorem dX7_readNote_99 : decode cX7_readNote 99 = .ok (.iconst 1, 1) := by decide +kernel
theorem dX7_readNote_100 : decode cX7_readNote 100 = .ok (.iadd, 1) := by decide +kernel
theorem dX7_readNote_101 : decode cX7_readNote 101 = .ok (.putfield 28, 3) := by decide +kernel
theorem dX7_readNote_104 : decode cX7_readNote 104 = .ok (.iload_n 1, 1) := by decide +kernel
theorem dX7_readNote_105 : decode cX7_readNote 105 = .ok (.iconst 2, 1) := by decide +kernel
theorem dX7_readNote_106 : decode cX7_readNote 106 = .ok (.iload_n 3, 1) := by decide +kernel
theorem dX7_readNote_107 : decode cX7_readNote 107 = .ok (.imul, 1) := by decide +kernel
theorem dX7_readNote_108 : decode cX7_readNote 108 = .ok (.iadd, 1) := by decide +kernel
theorem dX7_readNote_109 : decode cX7_readNote 109 = .ok (.ireturn, 1) := by decide +kernel
theorem dX7_readKind_0 : decode cX7_readKind 0 = .ok (.iconst 0, 1) := by decide +kernel
theorem dX7_readKind_1 : decode cX7_readKind 1 = .ok (.istore_n 1, 1) := by decide +kernel
theorem dX7_readKind_2 : decode cX7_readKind 2 = .ok (.iconst 0, 1) := by decide +kernel
theorem dX7_readKind_3 : decode cX7_readKind 3 = .ok (.istore_n 2, 1) := by decide +kernel
theorem dX7_readKind_4 : decode cX7_readKind 4 = .ok (.iconst 0, 1) := by decide +kernel
theorem dX7_readKind_5 : decode cX7_readKind 5 = .ok (.istore_n 3, 1) := by decide +kernel
theorem dX7_readKind_6 : decode cX7_readKind 6 = .ok (.iload_n 3, 1) := by decide +kernel
theorem dX7_readKind_7 : decode cX7_readKind 7 = .ok (.bipush 14, 2) := by decide +kernel
theorem dX7_readKind_9 : decode cX7_readKind 9 = .ok (.if_icmp .ge 41, 3) := by decide +kernel
theorem dX7_readKind_12 : decode cX7_readKind 12 = .ok (.iload_n 3, 1) := by decide +kernel
theorem dX7_readKind_13 : decode cX7_readKind 13 = .ok (.invokestatic 87, 3) := by decide +kernel
theorem dX7_readKind_16 : decode cX7_readKind 16 = .ok (.astore 4, 2) := by decide +kernel
theorem dX7_readKind_18 : decode cX7_readKind 18 = .ok (.aload 4, 2) := by decide +kernel
theorem dX7_readKind_20 : decode cX7_readKind 20 = .ok (.invokevirtual 91, 3) := by decide +kernel
theorem dX7_readKind_23 : decode cX7_readKind 23 = .ok (.iload_n 2, 1) := by decide +kernel
theorem dX7_readKind_24 : decode cX7_readKind 24 = .ok (.if_icmp .le 20, 3) := by decide +kernel
theorem dX7_readKind_27 : decode cX7_readKind 27 = .ok (.aload_n 0, 1) := by decide +kernel
theorem dX7_readKind_28 : decode cX7_readKind 28 = .ok (.aload 4, 2) := by decide +kernel
theorem dX7_readKind_30 : decode cX7_readKind 30 = .ok (.invokevirtual 95, 3) := by decide +kernel
theorem dX7_readKind_33 : decode cX7_readKind 33 = .ok (.ifCond .eq 11, 3) := by decide +kernel
theorem dX7_readKind_36 : decode cX7_readKind 36 = .ok (.iload_n 3, 1) := by decide +kernel
theorem dX7_readKind_37 : decode cX7_readKind 37 = .ok (.istore_n 1, 1) := by decide +kernel
theorem dX7_readKind_38 : decode cX7_readKind 38 = .ok (.aload 4, 2) := by decide +kernel
theorem dX7_readKind_40 : decode cX7_readKind 40 = .ok (.invokevirtual 91, 3) := by decide +kernel
theorem dX7_readKind_43 : decode cX7_readKind 43 = .ok (.istore_n 2, 1) := by decide +kernel
theorem dX7_readKind_44 : decode cX7_readKind 44 = .ok (.iinc 3 1, 3) := by decide +kernel
theorem dX7_readKind_47 : decode cX7_readKind 47 = .ok (.goto (-41), 3) := by decide +kernel
theorem dX7_readKind_50 : decode cX7_readKind 50 = .ok (.aload_n 0, 1) := by decide +kernel
theorem dX7_readKind_51 : decode cX7_readKind 51 = .ok (.dup, 1) := by decide +kernel
theorem dX7_readKind_52 : decode cX7_readKind 52 = .ok (.getfield 28, 3) := by decide +kernel
theorem dX7_readKind_55 : decode cX7_readKind 55 = .ok (.iload_n 2, 1) := by decide +kernel
theorem dX7_readKind_56 : decode cX7_readKind 56 = .ok (.iadd, 1) := by decide +kernel
theorem dX7_readKind_57 : decode cX7_readKind 57 = .ok (.putfield 28, 3) := by decide +kernel
theorem dX7_readKind_60 : decode cX7_readKind 60 = .ok (.iload_n 1, 1) := by decide +kernel
theorem dX7_readKind_61 : decode cX7_readKind 61 = .ok (.ireturn, 1) := by decide +kernel
theorem dX7_standsHere_0 : decode cX7_standsHere 0 = .ok (.iconst 0, 1) := by decide +kernel
theorem dX7_standsHere_1 : decode cX7_standsHere 1 = .ok (.istore_n 2, 1) := by decide +kernel
theorem dX7_standsHere_2 : decode cX7_standsHere 2 = .ok (.iload_n 2, 1) := by decide +kernel
theorem dX7_standsHere_3 : decode cX7_standsHere 3 = .ok (.aload_n 1, 1) := by decide +kernel
theorem dX7_standsHere_4 : decode cX7_standsHere 4 = .ok (.invokevirtual 91, 3) := by decide +kernel
theorem dX7_standsHere_7 : decode cX7_standsHere 7 = .ok (.if_icmp .ge 29, 3) := by decide +kernel
theorem dX7_standsHere_10 : decode cX7_standsHere 10 = .ok (.aload_n 0, 1) := by decide +kernel
theorem dX7_standsHere_11 : decode cX7_standsHere 11 = .ok (.aload_n 0, 1) := by decide +kernel
theorem dX7_standsHere_12 : decode cX7_standsHere 12 = .ok (.getfield 28, 3) := by decide +kernel
theorem dX7_standsHere_15 : decode cX7_standsHere 15 = .ok (.iload_n 2, 1) := by decide +kernel
theorem dX7_standsHere_16 : decode cX7_standsHere 16 = .ok (.iadd, 1) := by decide +kernel
theorem dX7_standsHere_17 : decode cX7_standsHere 17 = .ok (.invokevirtual 43, 3) := by decide +kernel
theorem dX7_standsHere_20 : decode cX7_standsHere 20 = .ok (.aload_n 1, 1) := by decide +kernel
theorem dX7_standsHere_21 : decode cX7_standsHere 21 = .ok (.iload_n 2, 1) := by decide +kernel
theorem dX7_standsHere_22 : decode cX7_standsHere 22 = .ok (.invokevirtual 99, 3) := by decide +kernel
theorem dX7_standsHere_25 : decode cX7_standsHere 25 = .ok (.if_icmp .eq 5, 3) := by decide +kernel
theorem dX7_standsHere_28 : decode cX7_standsHere 28 = .ok (.iconst 0, 1) := by decide +kernel
theorem dX7_standsHere_29 : decode cX7_standsHere 29 = .ok (.ireturn, 1) := by decide +kernel
theorem dX7_standsHere_30 : decode cX7_standsHere 30 = .ok (.iinc 2 1, 3) := by decide +kernel
theorem dX7_standsHere_33 : decode cX7_standsHere 33 = .ok (.goto (-31), 3) := by decide +kernel
theorem dX7_standsHere_36 : decode cX7_standsHere 36 = .ok (.iconst 1, 1) := by decide +kernel
theorem dX7_standsHere_37 : decode cX7_standsHere 37 = .ok (.ireturn, 1) := by decide +kernel
theorem dX7_signAt_0 : decode cX7_signAt 0 = .ok (.iload_n 1, 1) := by decide +kernel
theorem dX7_signAt_1 : decode cX7_signAt 1 = .ok (.ifCond .lt 20, 3) := by decide +kernel
theorem dX7_signAt_4 : decode cX7_signAt 4 = .ok (.iload_n 1, 1) := by decide +kernel
theorem dX7_signAt_5 : decode cX7_signAt 5 = .ok (.aload_n 0, 1) := by decide +kernel
theorem dX7_signAt_6 : decode cX7_signAt 6 = .ok (.getfield 25, 3) := by decide +kernel
theorem dX7_signAt_9 : decode cX7_signAt 9 = .ok (.if_icmp .ge 12, 3) := by decide +kernel
theorem dX7_signAt_12 : decode cX7_signAt 12 = .ok (.aload_n 0, 1) := by decide +kernel
theorem dX7_signAt_13 : decode cX7_signAt 13 = .ok (.getfield 9, 3) := by decide +kernel
theorem dX7_signAt_16 : decode cX7_signAt 16 = .ok (.iload_n 1, 1) := by decide +kernel
theorem dX7_signAt_17 : decode cX7_signAt 17 = .ok (.iaload, 1) := by decide +kernel
theorem dX7_signAt_18 : decode cX7_signAt 18 = .ok (.goto 4, 3) := by decide +kernel
theorem dX7_signAt_21 : decode cX7_signAt 21 = .ok (.iconst (-1), 1) := by decide +kernel
theorem dX7_signAt_22 : decode cX7_signAt 22 = .ok (.ireturn, 1) := by decide +kernel
theorem dX7_refuse_0 : decode cX7_refuse 0 = .ok (.aload_n 0, 1) := by decide +kernel
theorem dX7_refuse_1 : decode cX7_refuse 1 = .ok (.iload_n 1, 1) := by decide +kernel
theorem dX7_refuse_2 : decode cX7_refuse 2 = .ok (.putfield 31, 3) := by decide +kernel
theorem dX7_refuse_5 : decode cX7_refuse 5 = .ok (.aload_n 0, 1) := by decide +kernel
theorem dX7_refuse_6 : decode cX7_refuse 6 = .ok (.aload_n 0, 1) := by decide +kernel
theorem dX7_refuse_7 : decode cX7_refuse 7 = .ok (.getfield 28, 3) := by decide +kernel
theorem dX7_refuse_10 : decode cX7_refuse 10 = .ok (.putfield 15, 3) := by decide +kernel
theorem dX7_refuse_13 : decode cX7_refuse 13 = .ok (.return_, 1) := by decide +kernel
theorem dX8_init_0 : decode cX8_init 0 = .ok (.aload_n 0, 1) := by decide +kernel
theorem dX8_init_1 : decode cX8_init 1 = .ok (.invokespecial 3, 3) := by decide +kernel
theorem dX8_init_4 : decode cX8_init 4 = .ok (.aload_n 0, 1) := by decide +kernel
theorem dX8_init_5 : decode cX8_init 5 = .ok (.sipush 1200, 3) := by decide +kernel
theorem dX8_init_8 : decode cX8_init 8 = .ok (.newarray .int, 2) := by decide +kernel
theorem dX8_init_10 : decode cX8_init 10 = .ok (.putfield 9, 3) := by decide +kernel
theorem dX8_init_13 : decode cX8_init 13 = .ok (.aload_n 0, 1) := by decide +kernel
theorem dX8_init_14 : decode cX8_init 14 = .ok (.bipush 60, 2) := by decide +kernel
theorem dX8_init_16 : decode cX8_init 16 = .ok (.newarray .int, 2) := by decide +kernel
theorem dX8_init_18 : decode cX8_init 18 = .ok (.putfield 15, 3) := by decide +kernel
theorem dX8_init_21 : decode cX8_init 21 = .ok (.aload_n 0, 1) := by decide +kernel
theorem dX8_init_22 : decode cX8_init 22 = .ok (.bipush 60, 2) := by decide +kernel
theorem dX8_init_24 : decode cX8_init 24 = .ok (.newarray .int, 2) := by decide +kernel
theorem dX8_init_26 : decode cX8_init 26 = .ok (.putfield 18, 3) := by decide +kernel
theorem dX8_init_29 : decode cX8_init 29 = .ok (.aload_n 0, 1) := by decide +kernel
theorem dX8_init_30 : decode cX8_init 30 = .ok (.bipush 60, 2) := by decide +kernel
theorem dX8_init_32 : decode cX8_init 32 = .ok (.newarray .int, 2) := by decide +kernel
theorem dX8_init_34 : decode cX8_init 34 = .ok (.putfield 21, 3) := by decide +kernel
theorem dX8_init_37 : decode cX8_init 37 = .ok (.aload_n 0, 1) := by decide +kernel
theorem dX8_init_38 : decode cX8_init 38 = .ok (.bipush 60, 2) := by decide +kernel
theorem dX8_init_40 : decode cX8_init 40 = .ok (.newarray .int, 2) := by decide +kernel
theorem dX8_init_42 : decode cX8_init 42 = .ok (.putfield 24, 3) := by decide +kernel
theorem dX8_init_45 : decode cX8_init 45 = .ok (.return_, 1) := by decide +kernel
theorem dX8_startAnew_0 : decode cX8_startAnew 0 = .ok (.aload_n 0, 1) := by decide +kernel
theorem dX8_startAnew_1 : decode cX8_startAnew 1 = .ok (.iconst 0, 1) := by decide +kernel
theorem dX8_startAnew_2 : decode cX8_startAnew 2 = .ok (.putfield 27, 3) := by decide +kernel
theorem dX8_startAnew_5 : decode cX8_startAnew 5 = .ok (.aload_n 0, 1) := by decide +kernel
theorem dX8_startAnew_6 : decode cX8_startAnew 6 = .ok (.iconst 1, 1) := by decide +kernel
theorem dX8_startAnew_7 : decode cX8_startAnew 7 = .ok (.putfield 31, 3) := by decide +kernel
theorem dX8_startAnew_10 : decode cX8_startAnew 10 = .ok (.aload_n 0, 1) := by decide +kernel
theorem dX8_startAnew_11 : decode cX8_startAnew 11 = .ok (.iconst 0, 1) := by decide +kernel
theorem dX8_startAnew_12 : decode cX8_startAnew 12 = .ok (.putfield 34, 3) := by decide +kernel
theorem dX8_startAnew_15 : decode cX8_startAnew 15 = .ok (.return_, 1) := by decide +kernel
theorem dX8_addItem_0 : decode cX8_addItem 0 = .ok (.aload_n 0, 1) := by decide +kernel
theorem dX8_addItem_1 : decode cX8_addItem 1 = .ok (.getfield 27, 3) := by decide +kernel
theorem dX8_addItem_4 : decode cX8_addItem 4 = .ok (.sipush 1200, 3) := by decide +kernel
theorem dX8_addItem_7 : decode cX8_addItem 7 = .ok (.if_icmp .ge 23, 3) := by decide +kernel
theorem dX8_addItem_10 : decode cX8_addItem 10 = .ok (.aload_n 0, 1) := by decide +kernel
theorem dX8_addItem_11 : decode cX8_addItem 11 = .ok (.getfield 9, 3) := by decide +kernel
theorem dX8_addItem_14 : decode cX8_addItem 14 = .ok (.aload_n 0, 1) := by decide +kernel
theorem dX8_addItem_15 : decode cX8_addItem 15 = .ok (.getfield 27, 3) := by decide +kernel
theorem dX8_addItem_18 : decode cX8_addItem 18 = .ok (.iload_n 1, 1) := by decide +kernel
theorem dX8_addItem_19 : decode cX8_addItem 19 = .ok (.iastore, 1) := by decide +kernel
theorem dX8_addItem_20 : decode cX8_addItem 20 = .ok (.aload_n 0, 1) := by decide +kernel
theorem dX8_addItem_21 : decode cX8_addItem 21 = .ok (.dup, 1) := by decide +kernel
theorem dX8_addItem_22 : decode cX8_addItem 22 = .ok (.getfield 27, 3) := by decide +kernel
theorem dX8_addItem_25 : decode cX8_addItem 25 = .ok (.iconst 1, 1) := by decide +kernel
theorem dX8_addItem_26 : decode cX8_addItem 26 = .ok (.iadd, 1) := by decide +kernel
theorem dX8_addItem_27 : decode cX8_addItem 27 = .ok (.putfield 27, 3) := by decide +kernel
theorem dX8_addItem_30 : decode cX8_addItem 30 = .ok (.return_, 1) := by decide +kernel
theorem dX8_addLineEnd_0 : decode cX8_addLineEnd 0 = .ok (.aload_n 0, 1) := by decide +kernel
theorem dX8_addLineEnd_1 : decode cX8_addLineEnd 1 = .ok (.bipush 10, 2) := by decide +kernel
theorem dX8_addLineEnd_3 : decode cX8_addLineEnd 3 = .ok (.invokevirtual 37, 3) := by decide +kernel
theorem dX8_addLineEnd_6 : decode cX8_addLineEnd 6 = .ok (.aload_n 0, 1) := by decide +kernel
theorem dX8_addLineEnd_7 : decode cX8_addLineEnd 7 = .ok (.dup, 1) := by decide +kernel
theorem dX8_addLineEnd_8 : decode cX8_addLineEnd 8 = .ok (.getfield 31, 3) := by decide +kernel
theorem dX8_addLineEnd_11 : decode cX8_addLineEnd 11 = .ok (.iconst 1, 1) := by decide +kernel
theorem dX8_addLineEnd_12 : decode cX8_addLineEnd 12 = .ok (.iadd, 1) := by decide +kernel
theorem dX8_addLineEnd_13 : decode cX8_addLineEnd 13 = .ok (.putfield 31, 3) := by decide +kernel
theorem dX8_addLineEnd_16 : decode cX8_addLineEnd 16 = .ok (.return_, 1) := by decide +kernel
theorem dX8_addChord_0 : decode cX8_addChord 0 = .ok (.aload_n 0, 1) := by decide +kernel
theorem dX8_addChord_1 : decode cX8_addChord 1 = .ok (.getfield 34, 3) := by decide +kernel
theorem dX8_addChord_4 : decode cX8_addChord 4 = .ok (.bipush 60, 2) := by decide +kernel
theorem dX8_addChord_6 : decode cX8_addChord 6 = .ok (.if_icmp .ge 70, 3) := by decide +kernel
theorem dX8_addChord_9 : decode cX8_addChord 9 = .ok (.aload_n 0, 1) := by decide +kernel
theorem dX8_addChord_10 : decode cX8_addChord 10 = .ok (.getfield 15, 3) := by decide +kernel
theorem dX8_addChord_13 : decode cX8_addChord 13 = .ok (.aload_n 0, 1) := by decide +kernel
theorem dX8_addChord_14 : decode cX8_addChord 14 = .ok (.getfield 34, 3) := by decide +kernel
theorem dX8_addChord_17 : decode cX8_addChord 17 = .ok (.iload_n 1, 1) := by decide +kernel
theorem dX8_addChord_18 : decode cX8_addChord 18 = .ok (.iastore, 1) := by decide +kernel
theorem dX8_addChord_19 : decode cX8_addChord 19 = .ok (.aload_n 0, 1) := by decide +kernel
theorem dX8_addChord_20 : decode cX8_addChord 20 = .ok (.getfield 18, 3) := by decide +kernel
theorem dX8_addChord_23 : decode cX8_addChord 23 = .ok (.aload_n 0, 1) := by decide +kernel
theorem dX8_addChord_24 : decode cX8_addChord 24 = .ok (.getfield 34, 3) := by decide +kernel
theorem dX8_addChord_27 : decode cX8_addChord 27 = .ok (.iload_n 2, 1) := by decide +kernel
theorem dX8_addChord_28 : decode cX8_addChord 28 = .ok (.iastore, 1) := by decide +kernel
theorem dX8_addChord_29 : decode cX8_addChord 29 = .ok (.aload_n 0, 1) := by decide +kernel
theorem dX8_addChord_30 : decode cX8_addChord 30 = .ok (.getfield 21, 3) := by decide +kernel
theorem dX8_addChord_33 : decode cX8_addChord 33 = .ok (.aload_n 0, 1) := by decide +kernel
theorem dX8_addChord_34 : decode cX8_addChord 34 = .ok (.getfield 34, 3) := by decide +kernel
theorem dX8_addChord_37 : decode cX8_addChord 37 = .ok (.iload_n 3, 1) := by decide +kernel
theorem dX8_addChord_38 : decode cX8_addChord 38 = .ok (.iastore, 1) := by decide +kernel
theorem dX8_addChord_39 : decode cX8_addChord 39 = .ok (.aload_n 0, 1) := by decide +kernel
theorem dX8_addChord_40 : decode cX8_addChord 40 = .ok (.getfield 24, 3) := by decide +kernel
theorem dX8_addChord_43 : decode cX8_addChord 43 = .ok (.aload_n 0, 1) := by decide +kernel
theorem dX8_addChord_44 : decode cX8_addChord 44 = .ok (.getfield 34, 3) := by decide +kernel
theorem dX8_addChord_47 : decode cX8_addChord 47 = .ok (.aload_n 0, 1) := by decide +kernel
theorem dX8_addChord_48 : decode cX8_addChord 48 = .ok (.getfield 31, 3) := by decide +kernel
theorem dX8_addChord_51 : decode cX8_addChord 51 = .ok (.iconst 1, 1) := by decide +kernel
theorem dX8_addChord_52 : decode cX8_addChord 52 = .ok (.isub, 1) := by decide +kernel
theorem dX8_addChord_53 : decode cX8_addChord 53 = .ok (.iastore, 1) := by decide +kernel
theorem dX8_addChord_54 : decode cX8_addChord 54 = .ok (.aload_n 0, 1) := by decide +kernel
theorem dX8_addChord_55 : decode cX8_addChord 55 = .ok (.sipush 256, 3) := by decide +kernel
theorem dX8_addChord_58 : decode cX8_addChord 58 = .ok (.aload_n 0, 1) := by decide +kernel
theorem dX8_addChord_59 : decode cX8_addChord 59 = .ok (.getfield 34, 3) := by decide +kernel
theorem dX8_addChord_62 : decode cX8_addChord 62 = .ok (.iadd, 1) := by decide +kernel
theorem dX8_addChord_63 : decode cX8_addChord 63 = .ok (.invokevirtual 37, 3) := by decide +kernel
theorem dX8_addChord_66 : decode cX8_addChord 66 = .ok (.aload_n 0, 1) := by decide +kernel
theorem dX8_addChord_67 : decode cX8_addChord 67 = .ok (.dup, 1) := by decide +kernel
theorem dX8_addChord_68 : decode cX8_addChord 68 = .ok (.getfield 34, 3) := by decide +kernel
theorem dX8_addChord_71 : decode cX8_addChord 71 = .ok (.iconst 1, 1) := by decide +kernel
theorem dX8_addChord_72 : decode cX8_addChord 72 = .ok (.iadd, 1) := by decide +kernel
theorem dX8_addChord_73 : decode cX8_addChord 73 = .ok (.putfield 34, 3) := by decide +kernel
theorem dX8_addChord_76 : decode cX8_addChord 76 = .ok (.return_, 1) := by decide +kernel
theorem dX8_hasChord_0 : decode cX8_hasChord 0 = .ok (.iload_n 1, 1) := by decide +kernel
theorem dX8_hasChord_1 : decode cX8_hasChord 1 = .ok (.ifCond .lt 15, 3) := by decide +kernel
theorem dX8_hasChord_4 : decode cX8_hasChord 4 = .ok (.iload_n 1, 1) := by decide +kernel
theorem dX8_hasChord_5 : decode cX8_hasChord 5 = .ok (.aload_n 0, 1) := by decide +kernel
theorem dX8_hasChord_6 : decode cX8_hasChord 6 = .ok (.getfield 34, 3) := by decide +kernel
theorem dX8_hasChord_9 : decode cX8_hasChord 9 = .ok (.if_icmp .ge 7, 3) := by decide +kernel
theorem dX8_hasChord_12 : decode cX8_hasChord 12 = .ok (.iconst 1, 1) := by decide +kernel
theorem dX8_hasChord_13 : decode cX8_hasChord 13 = .ok (.goto 4, 3) := by decide +kernel
theorem dX8_hasChord_16 : decode cX8_hasChord 16 = .ok (.iconst 0, 1) := by decide +kernel
theorem dX8_hasChord_17 : decode cX8_hasChord 17 = .ok (.ireturn, 1) := by decide +kernel
theorem dX8_tonesOf_0 : decode cX8_tonesOf 0 = .ok (.aload_n 0, 1) := by decide +kernel
theorem dX8_tonesOf_1 : decode cX8_tonesOf 1 = .ok (.getfield 15, 3) := by decide +kernel
theorem dX8_tonesOf_4 : decode cX8_tonesOf 4 = .ok (.iload_n 1, 1) := by decide +kernel
theorem dX8_tonesOf_5 : decode cX8_tonesOf 5 = .ok (.iaload, 1) := by decide +kernel
theorem dX8_tonesOf_6 : decode cX8_tonesOf 6 = .ok (.invokestatic 41, 3) := by decide +kernel
theorem dX8_tonesOf_9 : decode cX8_tonesOf 9 = .ok (.aload_n 0, 1) := by decide +kernel
theorem dX8_tonesOf_10 : decode cX8_tonesOf 10 = .ok (.getfield 18, 3) := by decide +kernel
theorem dX8_tonesOf_13 : decode cX8_tonesOf 13 = .ok (.iload_n 1, 1) := by decide +kernel
theorem dX8_tonesOf_14 : decode cX8_tonesOf 14 = .ok (.iaload, 1) := by decide +kernel
theorem dX8_tonesOf_15 : decode cX8_tonesOf 15 = .ok (.invokestatic 47, 3) := by decide +kernel
theorem dX8_tonesOf_18 : decode cX8_tonesOf 18 = .ok (.istore_n 2, 1) := by decide +kernel
theorem dX8_tonesOf_19 : decode cX8_tonesOf 19 = .ok (.iload_n 2, 1) := by decide +kernel
theorem dX8_tonesOf_20 : decode cX8_tonesOf 20 = .ok (.iconst 1, 1) := by decide +kernel
theorem dX8_tonesOf_21 : decode cX8_tonesOf 21 = .ok (.aload_n 0, 1) := by decide +kernel
theorem dX8_tonesOf_22 : decode cX8_tonesOf 22 = .ok (.getfield 21, 3) := by decide +kernel
theorem dX8_tonesOf_25 : decode cX8_tonesOf 25 = .ok (.iload_n 1, 1) := by decide +kernel
theorem dX8_tonesOf_26 : decode cX8_tonesOf 26 = .ok (.iaload, 1) := by decide +kernel
theorem dX8_tonesOf_27 : decode cX8_tonesOf 27 = .ok (.invokestatic 41, 3) := by decide +kernel
theorem dX8_tonesOf_30 : decode cX8_tonesOf 30 = .ok (.ishl, 1) := by decide +kernel
theorem dX8_tonesOf_31 : decode cX8_tonesOf 31 = .ok (.ior, 1) := by decide +kernel
theorem dX8_tonesOf_32 : decode cX8_tonesOf 32 = .ok (.ireturn, 1) := by decide +kernel
theorem dX8_neededOf_0 : decode cX8_neededOf 0 = .ok (.iload_n 2, 1) := by decide +kernel
theorem dX8_neededOf_1 : decode cX8_neededOf 1 = .ok (.invokestatic 53, 3) := by decide +kernel
theorem dX8_neededOf_4 : decode cX8_neededOf 4 = .ok (.iconst 4, 1) := by decide +kernel
theorem dX8_neededOf_5 : decode cX8_neededOf 5 = .ok (.if_icmp .ge 5, 3) := by decide +kernel
theorem dX8_neededOf_8 : decode cX8_neededOf 8 = .ok (.iload_n 2, 1) := by decide +kernel
theorem dX8_neededOf_9 : decode cX8_neededOf 9 = .ok (.ireturn, 1) := by decide +kernel
theorem dX8_neededOf_10 : decode cX8_neededOf 10 = .ok (.aload_n 0, 1) := by decide +kernel
theorem dX8_neededOf_11 : decode cX8_neededOf 11 = .ok (.getfield 15, 3) := by decide +kernel
theorem dX8_neededOf_14 : decode cX8_neededOf 14 = .ok (.iload_n 1, 1) := by decide +kernel
theorem dX8_neededOf_15 : decode cX8_neededOf 15 = .ok (.iaload, 1) := by decide +kernel
theorem dX8_neededOf_16 : decode cX8_neededOf 16 = .ok (.invokestatic 41, 3) := by decide +kernel
theorem dX8_neededOf_19 : decode cX8_neededOf 19 = .ok (.bipush 7, 2) := by decide +kernel
theorem dX8_neededOf_21 : decode cX8_neededOf 21 = .ok (.iadd, 1) := by decide +kernel
theorem dX8_neededOf_22 : decode cX8_neededOf 22 = .ok (.bipush 12, 2) := by decide +kernel
theorem dX8_neededOf_24 : decode cX8_neededOf 24 = .ok (.irem, 1) := by decide +kernel
theorem dX8_neededOf_25 : decode cX8_neededOf 25 = .ok (.istore_n 3, 1) := by decide +kernel
theorem dX8_neededOf_26 : decode cX8_neededOf 26 = .ok (.iload_n 2, 1) := by decide +kernel
theorem dX8_neededOf_27 : decode cX8_neededOf 27 = .ok (.iconst 1, 1) := by decide +kernel
theorem dX8_neededOf_28 : decode cX8_neededOf 28 = .ok (.iload_n 3, 1) := by decide +kernel
theorem dX8_neededOf_29 : decode cX8_neededOf 29 = .ok (.ishl, 1) := by decide +kernel
theorem dX8_neededOf_30 : decode cX8_neededOf 30 = .ok (.iconst (-1), 1) := by decide +kernel
theorem dX8_neededOf_31 : decode cX8_neededOf 31 = .ok (.ixor, 1) := by decide +kernel
theorem dX8_neededOf_32 : decode cX8_neededOf 32 = .ok (.iand, 1) := by decide +kernel
theorem dX8_neededOf_33 : decode cX8_neededOf 33 = .ok (.ireturn, 1) := by decide +kernel
theorem dX8_firstLike_0 : decode cX8_firstLike 0 = .ok (.iconst 0, 1) := by decide +kernel
theorem dX8_firstLike_1 : decode cX8_firstLike 1 = .ok (.istore_n 2, 1) := by decide +kernel
theorem dX8_firstLike_2 : decode cX8_firstLike 2 = .ok (.iload_n 2, 1) := by decide +kernel
theorem dX8_firstLike_3 : decode cX8_firstLike 3 = .ok (.iload_n 1, 1) := by decide +kernel
theorem dX8_firstLike_4 : decode cX8_firstLike 4 = .ok (.if_icmp .ge 68, 3) := by decide +kernel
theorem dX8_firstLike_7 : decode cX8_firstLike 7 = .ok (.aload_n 0, 1) := by decide +kernel
theorem dX8_firstLike_8 : decode cX8_firstLike 8 = .ok (.getfield 18, 3) := by decide +kernel
theorem dX8_firstLike_11 : decode cX8_firstLike 11 = .ok (.iload_n 2, 1) := by decide +kernel
theorem dX8_firstLike_12 : decode cX8_firstLike 12 = .ok (.iaload, 1) := by decide +kernel
theorem dX8_firstLike_13 : decode cX8_firstLike 13 = .ok (.aload_n 0, 1) := by decide +kernel
theorem dX8_firstLike_14 : decode cX8_firstLike 14 = .ok (.getfield 18, 3) := by decide +kernel
theorem dX8_firstLike_17 : decode cX8_firstLike 17 = .ok (.iload_n 1, 1) := by decide +kernel
theorem dX8_firstLike_18 : decode cX8_firstLike 18 = .ok (.iaload, 1) := by decide +kernel
theorem dX8_firstLike_19 : decode cX8_firstLike 19 = .ok (.if_icmp .ne 47, 3) := by decide +kernel
theorem dX8_firstLike_22 : decode cX8_firstLike 22 = .ok (.aload_n 0, 1) := by decide +kernel
theorem dX8_firstLike_23 : decode cX8_firstLike 23 = .ok (.getfield 15, 3) := by decide +kernel
theorem dX8_firstLike_26 : decode cX8_firstLike 26 = .ok (.iload_n 2, 1) := by decide +kernel
theorem dX8_firstLike_27 : decode cX8_firstLike 27 = .ok (.iaload, 1) := by decide +kernel
theorem dX8_firstLike_28 : decode cX8_firstLike 28 = .ok (.invokestatic 41, 3) := by decide +kernel
theorem dX8_firstLike_31 : decode cX8_firstLike 31 = .ok (.aload_n 0, 1) := by decide +kernel
theorem dX8_firstLike_32 : decode cX8_firstLike 32 = .ok (.getfield 15, 3) := by decide +kernel
theorem dX8_firstLike_35 : decode cX8_firstLike 35 = .ok (.iload_n 1, 1) := by decide +kernel
theorem dX8_firstLike_36 : decode cX8_firstLike 36 = .ok (.iaload, 1) := by decide +kernel
theorem dX8_firstLike_37 : decode cX8_firstLike 37 = .ok (.invokestatic 41, 3) := by decide +kernel
theorem dX8_firstLike_40 : decode cX8_firstLike 40 = .ok (.if_icmp .ne 26, 3) := by decide +kernel
theorem dX8_firstLike_43 : decode cX8_firstLike 43 = .ok (.aload_n 0, 1) := by decide +kernel
theorem dX8_firstLike_44 : decode cX8_firstLike 44 = .ok (.getfield 21, 3) := by decide +kernel
theorem dX8_firstLike_47 : decode cX8_firstLike 47 = .ok (.iload_n 2, 1) := by decide +kernel
theorem dX8_firstLike_48 : decode cX8_firstLike 48 = .ok (.iaload, 1) := by decide +kernel
theorem dX8_firstLike_49 : decode cX8_firstLike 49 = .ok (.invokestatic 41, 3) := by decide +kernel
theorem dX8_firstLike_52 : decode cX8_firstLike 52 = .ok (.aload_n 0, 1) := by decide +kernel
theorem dX8_firstLike_53 : decode cX8_firstLike 53 = .ok (.getfield 21, 3) := by decide +kernel
theorem dX8_firstLike_56 : decode cX8_firstLike 56 = .ok (.iload_n 1, 1) := by decide +kernel
theorem dX8_firstLike_57 : decode cX8_firstLike 57 = .ok (.iaload, 1) := by decide +kernel
theorem dX8_firstLike_58 : decode cX8_firstLike 58 = .ok (.invokestatic 41, 3) := by decide +kernel
theorem dX8_firstLike_61 : decode cX8_firstLike 61 = .ok (.if_icmp .ne 5, 3) := by decide +kernel
theorem dX8_firstLike_64 : decode cX8_firstLike 64 = .ok (.iload_n 2, 1) := by decide +kernel
theorem dX8_firstLike_65 : decode cX8_firstLike 65 = .ok (.ireturn, 1) := by decide +kernel
theorem dX8_firstLike_66 : decode cX8_firstLike 66 = .ok (.iinc 2 1, 3) := by decide +kernel
theorem dX8_firstLike_69 : decode cX8_firstLike 69 = .ok (.goto (-67), 3) := by decide +kernel
theorem dX8_firstLike_72 : decode cX8_firstLike 72 = .ok (.iload_n 1, 1) := by decide +kernel
theorem dX8_firstLike_73 : decode cX8_firstLike 73 = .ok (.ireturn, 1) := by decide +kernel
theorem dX8_shiftNotes_0 : decode cX8_shiftNotes 0 = .ok (.iconst 0, 1) := by decide +kernel
theorem dX8_shiftNotes_1 : decode cX8_shiftNotes 1 = .ok (.istore_n 2, 1) := by decide +kernel
theorem dX8_shiftNotes_2 : decode cX8_shiftNotes 2 = .ok (.iload_n 2, 1) := by decide +kernel
theorem dX8_shiftNotes_3 : decode cX8_shiftNotes 3 = .ok (.aload_n 0, 1) := by decide +kernel
theorem dX8_shiftNotes_4 : decode cX8_shiftNotes 4 = .ok (.getfield 34, 3) := by decide +kernel
theorem dX8_shiftNotes_7 : decode cX8_shiftNotes 7 = .ok (.if_icmp .ge 43, 3) := by decide +kernel
theorem dX8_shiftNotes_10 : decode cX8_shiftNotes 10 = .ok (.aload_n 0, 1) := by decide +kernel
theorem dX8_shiftNotes_11 : decode cX8_shiftNotes 11 = .ok (.getfield 15, 3) := by decide +kernel
theorem dX8_shiftNotes_14 : decode cX8_shiftNotes 14 = .ok (.iload_n 2, 1) := by decide +kernel
theorem dX8_shiftNotes_15 : decode cX8_shiftNotes 15 = .ok (.aload_n 0, 1) := by decide +kernel
theorem dX8_shiftNotes_16 : decode cX8_shiftNotes 16 = .ok (.getfield 15, 3) := by decide +kernel
theorem dX8_shiftNotes_19 : decode cX8_shiftNotes 19 = .ok (.iload_n 2, 1) := by decide +kernel
theorem dX8_shiftNotes_20 : decode cX8_shiftNotes 20 = .ok (.iaload, 1) := by decide +kernel
theorem dX8_shiftNotes_21 : decode cX8_shiftNotes 21 = .ok (.iload_n 1, 1) := by decide +kernel
theorem dX8_shiftNotes_22 : decode cX8_shiftNotes 22 = .ok (.iadd, 1) := by decide +kernel
theorem dX8_shiftNotes_23 : decode cX8_shiftNotes 23 = .ok (.invokestatic 58, 3) := by decide +kernel
theorem dX8_shiftNotes_26 : decode cX8_shiftNotes 26 = .ok (.iastore, 1) := by decide +kernel
theorem dX8_shiftNotes_27 : decode cX8_shiftNotes 27 = .ok (.aload_n 0, 1) := by decide +kernel
theorem dX8_shiftNotes_28 : decode cX8_shiftNotes 28 = .ok (.getfield 21, 3) := by decide +kernel
theorem dX8_shiftNotes_31 : decode cX8_shiftNotes 31 = .ok (.iload_n 2, 1) := by decide +kernel
theorem dX8_shiftNotes_32 : decode cX8_shiftNotes 32 = .ok (.aload_n 0, 1) := by decide +kernel
theorem dX8_shiftNotes_33 : decode cX8_shiftNotes 33 = .ok (.getfield 21, 3) := by decide +kernel
theorem dX8_shiftNotes_36 : decode cX8_shiftNotes 36 = .ok (.iload_n 2, 1) := by decide +kernel
theorem dX8_shiftNotes_37 : decode cX8_shiftNotes 37 = .ok (.iaload, 1) := by decide +kernel
theorem dX8_shiftNotes_38 : decode cX8_shiftNotes 38 = .ok (.iload_n 1, 1) := by decide +kernel
theorem dX8_shiftNotes_39 : decode cX8_shiftNotes 39 = .ok (.iadd, 1) := by decide +kernel
theorem dX8_shiftNotes_40 : decode cX8_shiftNotes 40 = .ok (.invokestatic 58, 3) := by decide +kernel
theorem dX8_shiftNotes_43 : decode cX8_shiftNotes 43 = .ok (.iastore, 1) := by decide +kernel
theorem dX8_shiftNotes_44 : decode cX8_shiftNotes 44 = .ok (.iinc 2 1, 3) := by decide +kernel
theorem dX8_shiftNotes_47 : decode cX8_shiftNotes 47 = .ok (.goto (-45), 3) := by decide +kernel
theorem dX8_shiftNotes_50 : decode cX8_shiftNotes 50 = .ok (.return_, 1) := by decide +kernel
theorem dX8_chordsWithin_0 : decode cX8_chordsWithin 0 = .ok (.iconst 0, 1) := by decide +kernel
theorem dX8_chordsWithin_1 : decode cX8_chordsWithin 1 = .ok (.istore_n 2, 1) := by decide +kernel
theorem dX8_chordsWithin_2 : decode cX8_chordsWithin 2 = .ok (.iconst 0, 1) := by decide +kernel
theorem dX8_chordsWithin_3 : decode cX8_chordsWithin 3 = .ok (.istore_n 3, 1) := by decide +kernel
theorem dX8_chordsWithin_4 : decode cX8_chordsWithin 4 = .ok (.iload_n 3, 1) := by decide +kernel
theorem dX8_chordsWithin_5 : decode cX8_chordsWithin 5 = .ok (.aload_n 0, 1) := by decide +kernel
theorem dX8_chordsWithin_6 : decode cX8_chordsWithin 6 = .ok (.getfield 34, 3) := by decide +kernel
theorem dX8_chordsWithin_9 : decode cX8_chordsWithin 9 = .ok (.if_icmp .ge 24, 3) := by decide +kernel
theorem dX8_chordsWithin_12 : decode cX8_chordsWithin 12 = .ok (.aload_n 0, 1) := by decide +kernel
theorem dX8_chordsWithin_13 : decode cX8_chordsWithin 13 = .ok (.iload_n 3, 1) := by decide +kernel
theorem dX8_chordsWithin_14 : decode cX8_chordsWithin 14 = .ok (.invokevirtual 61, 3) := by decide +kernel
theorem dX8_chordsWithin_17 : decode cX8_chordsWithin 17 = .ok (.iload_n 1, 1) := by decide +kernel
theorem dX8_chordsWithin_18 : decode cX8_chordsWithin 18 = .ok (.iconst (-1), 1) := by decide +kernel
theorem dX8_chordsWithin_19 : decode cX8_chordsWithin 19 = .ok (.ixor, 1) := by decide +kernel
theorem dX8_chordsWithin_20 : decode cX8_chordsWithin 20 = .ok (.iand, 1) := by decide +kernel
theorem dX8_chordsWithin_21 : decode cX8_chordsWithin 21 = .ok (.ifCond .ne 6, 3) := by decide +kernel
theorem dX8_chordsWithin_24 : decode cX8_chordsWithin 24 = .ok (.iinc 2 1, 3) := by decide +kernel
theorem dX8_chordsWithin_27 : decode cX8_chordsWithin 27 = .ok (.iinc 3 1, 3) := by decide +kernel
theorem dX8_chordsWithin_30 : decode cX8_chordsWithin 30 = .ok (.goto (-26), 3) := by decide +kernel
theorem dX8_chordsWithin_33 : decode cX8_chordsWithin 33 = .ok (.iload_n 2, 1) := by decide +kernel
theorem dX8_chordsWithin_34 : decode cX8_chordsWithin 34 = .ok (.ireturn, 1) := by decide +kernel
theorem dX8_endOfLine_0 : decode cX8_endOfLine 0 = .ok (.iload_n 1, 1) := by decide +kernel
theorem dX8_endOfLine_1 : decode cX8_endOfLine 1 = .ok (.istore_n 2, 1) := by decide +kernel
theorem dX8_endOfLine_2 : decode cX8_endOfLine 2 = .ok (.iload_n 2, 1) := by decide +kernel
theorem dX8_endOfLine_3 : decode cX8_endOfLine 3 = .ok (.aload_n 0, 1) := by decide +kernel
theorem dX8_endOfLine_4 : decode cX8_endOfLine 4 = .ok (.getfield 27, 3) := by decide +kernel
theorem dX8_endOfLine_7 : decode cX8_endOfLine 7 = .ok (.if_icmp .ge 20, 3) := by decide +kernel
theorem dX8_endOfLine_10 : decode cX8_endOfLine 10 = .ok (.aload_n 0, 1) := by decide +kernel
theorem dX8_endOfLine_11 : decode cX8_endOfLine 11 = .ok (.getfield 9, 3) := by decide +kernel
theorem dX8_endOfLine_14 : decode cX8_endOfLine 14 = .ok (.iload_n 2, 1) := by decide +kernel
theorem dX8_endOfLine_15 : decode cX8_endOfLine 15 = .ok (.iaload, 1) := by decide +kernel
theorem dX8_endOfLine_16 : decode cX8_endOfLine 16 = .ok (.bipush 10, 2) := by decide +kernel
theorem dX8_endOfLine_18 : decode cX8_endOfLine 18 = .ok (.if_icmp .eq 9, 3) := by decide +kernel
theorem dX8_endOfLine_21 : decode cX8_endOfLine 21 = .ok (.iinc 2 1, 3) := by decide +kernel
theorem dX8_endOfLine_24 : decode cX8_endOfLine 24 = .ok (.goto (-22), 3) := by decide +kernel
theorem dX8_endOfLine_27 : decode cX8_endOfLine 27 = .ok (.iload_n 2, 1) := by decide +kernel
theorem dX8_endOfLine_28 : decode cX8_endOfLine 28 = .ok (.ireturn, 1) := by decide +kernel
theorem dX8_chordsStandIn_0 : decode cX8_chordsStandIn 0 = .ok (.iload_n 1, 1) := by decide +kernel
theorem dX8_chordsStandIn_1 : decode cX8_chordsStandIn 1 = .ok (.istore_n 3, 1) := by decide +kernel
theorem dX8_chordsStandIn_2 : decode cX8_chordsStandIn 2 = .ok (.iload_n 3, 1) := by decide +kernel
theorem dX8_chordsStandIn_3 : decode cX8_chordsStandIn 3 = .ok (.iload_n 2, 1) := by decide +kernel
theorem dX8_chordsStandIn_4 : decode cX8_chordsStandIn 4 = .ok (.if_icmp .ge 31, 3) := by decide +kernel
theorem dX8_chordsStandIn_7 : decode cX8_chordsStandIn 7 = .ok (.iload_n 3, 1) := by decide +kernel
theorem dX8_chordsStandIn_8 : decode cX8_chordsStandIn 8 = .ok (.aload_n 0, 1) := by decide +kernel
theorem dX8_chordsStandIn_9 : decode cX8_chordsStandIn 9 = .ok (.getfield 27, 3) := by decide +kernel
theorem dX8_chordsStandIn_12 : decode cX8_chordsStandIn 12 = .ok (.if_icmp .ge 23, 3) := by decide +kernel
theorem dX8_chordsStandIn_15 : decode cX8_chordsStandIn 15 = .ok (.aload_n 0, 1) := by decide +kernel
theorem dX8_chordsStandIn_16 : decode cX8_chordsStandIn 16 = .ok (.getfield 9, 3) := by decide +kernel
theorem dX8_chordsStandIn_19 : decode cX8_chordsStandIn 19 = .ok (.iload_n 3, 1) := by decide +kernel
theorem dX8_chordsStandIn_20 : decode cX8_chordsStandIn 20 = .ok (.iaload, 1) := by decide +kernel
theorem dX8_chordsStandIn_21 : decode cX8_chordsStandIn 21 = .ok (.sipush 256, 3) := by decide +kernel
theorem dX8_chordsStandIn_24 : decode cX8_chordsStandIn 24 = .ok (.if_icmp .lt 5, 3) := by decide +kernel
theorem dX8_chordsStandIn_27 : decode cX8_chordsStandIn 27 = .ok (.iconst 1, 1) := by decide +kernel
theorem dX8_chordsStandIn_28 : decode cX8_chordsStandIn 28 = .ok (.ireturn, 1) := by decide +kernel
theorem dX8_chordsStandIn_29 : decode cX8_chordsStandIn 29 = .ok (.iinc 3 1, 3) := by decide +kernel
theorem dX8_chordsStandIn_32 : decode cX8_chordsStandIn 32 = .ok (.goto (-30), 3) := by decide +kernel
theorem dX8_chordsStandIn_35 : decode cX8_chordsStandIn 35 = .ok (.iconst 0, 1) := by decide +kernel
theorem dX8_chordsStandIn_36 : decode cX8_chordsStandIn 36 = .ok (.ireturn, 1) := by decide +kernel
theorem dX8_nextWordByte_0 : decode cX8_nextWordByte 0 = .ok (.iload_n 1, 1) := by decide +kernel
theorem dX8_nextWordByte_1 : decode cX8_nextWordByte 1 = .ok (.istore_n 3, 1) := by decide +kernel
theorem dX8_nextWordByte_2 : decode cX8_nextWordByte 2 = .ok (.iload_n 3, 1) := by decide +kernel
theorem dX8_nextWordByte_3 : decode cX8_nextWordByte 3 = .ok (.iload_n 2, 1) := by decide +kernel
theorem dX8_nextWordByte_4 : decode cX8_nextWordByte 4 = .ok (.if_icmp .ge 36, 3) := by decide +kernel
theorem dX8_nextWordByte_7 : decode cX8_nextWordByte 7 = .ok (.iload_n 3, 1) := by decide +kernel
theorem dX8_nextWordByte_8 : decode cX8_nextWordByte 8 = .ok (.aload_n 0, 1) := by decide +kernel
theorem dX8_nextWordByte_9 : decode cX8_nextWordByte 9 = .ok (.getfield 27, 3) := by decide +kernel
theorem dX8_nextWordByte_12 : decode cX8_nextWordByte 12 = .ok (.if_icmp .ge 28, 3) := by decide +kernel
theorem dX8_nextWordByte_15 : decode cX8_nextWordByte 15 = .ok (.aload_n 0, 1) := by decide +kernel
theorem dX8_nextWordByte_16 : decode cX8_nextWordByte 16 = .ok (.getfield 9, 3) := by decide +kernel
theorem dX8_nextWordByte_19 : decode cX8_nextWordByte 19 = .ok (.iload_n 3, 1) := by decide +kernel
theorem dX8_nextWordByte_20 : decode cX8_nextWordByte 20 = .ok (.iaload, 1) := by decide +kernel
theorem dX8_nextWordByte_21 : decode cX8_nextWordByte 21 = .ok (.sipush 256, 3) := by decide +kernel
theorem dX8_nextWordByte_24 : decode cX8_nextWordByte 24 = .ok (.if_icmp .ge 10, 3) := by decide +kernel
theorem dX8_nextWordByte_27 : decode cX8_nextWordByte 27 = .ok (.aload_n 0, 1) := by decide +kernel
theorem dX8_nextWordByte_28 : decode cX8_nextWordByte 28 = .ok (.getfield 9, 3) := by decide +kernel
theorem dX8_nextWordByte_31 : decode cX8_nextWordByte 31 = .ok (.iload_n 3, 1) := by decide +kernel
theorem dX8_nextWordByte_32 : decode cX8_nextWordByte 32 = .ok (.iaload, 1) := by decide +kernel
theorem dX8_nextWordByte_33 : decode cX8_nextWordByte 33 = .ok (.ireturn, 1) := by decide +kernel
theorem dX8_nextWordByte_34 : decode cX8_nextWordByte 34 = .ok (.iinc 3 1, 3) := by decide +kernel
theorem dX8_nextWordByte_37 : decode cX8_nextWordByte 37 = .ok (.goto (-35), 3) := by decide +kernel
theorem dX8_nextWordByte_40 : decode cX8_nextWordByte 40 = .ok (.iconst (-1), 1) := by decide +kernel
theorem dX8_nextWordByte_41 : decode cX8_nextWordByte 41 = .ok (.ireturn, 1) := by decide +kernel
theorem dX9_init_0 : decode cX9_init 0 = .ok (.aload_n 0, 1) := by decide +kernel
theorem dX9_init_1 : decode cX9_init 1 = .ok (.invokespecial 3, 3) := by decide +kernel
theorem dX9_init_4 : decode cX9_init 4 = .ok (.aload_n 0, 1) := by decide +kernel
theorem dX9_init_5 : decode cX9_init 5 = .ok (.bipush 60, 2) := by decide +kernel
theorem dX9_init_7 : decode cX9_init 7 = .ok (.newarray .int, 2) := by decide +kernel
theorem dX9_init_9 : decode cX9_init 9 = .ok (.putfield 9, 3) := by decide +kernel
theorem dX9_init_12 : decode cX9_init 12 = .ok (.return_, 1) := by decide +kernel
theorem dX9_putSong_0 : decode cX9_putSong 0 = .ok (.iconst 0, 1) := by decide +kernel
theorem dX9_putSong_1 : decode cX9_putSong 1 = .ok (.istore_n 3, 1) := by decide +kernel
theorem dX9_putSong_2 : decode cX9_putSong 2 = .ok (.iconst 0, 1) := by decide +kernel
theorem dX9_putSong_3 : decode cX9_putSong 3 = .ok (.istore 4, 2) := by decide +kernel
theorem dX9_putSong_5 : decode cX9_putSong 5 = .ok (.iload 4, 2) := by decide +kernel
theorem dX9_putSong_7 : decode cX9_putSong 7 = .ok (.aload_n 1, 1) := by decide +kernel
theorem dX9_putSong_8 : decode cX9_putSong 8 = .ok (.getfield 15, 3) := by decide +kernel
theorem dX9_putSong_11 : decode cX9_putSong 11 = .ok (.if_icmp .ge 66, 3) := by decide +kernel
theorem dX9_putSong_14 : decode cX9_putSong 14 = .ok (.iload 4, 2) := by decide +kernel
theorem dX9_putSong_16 : decode cX9_putSong 16 = .ok (.ifCond .le 9, 3) := by decide +kernel
theorem dX9_putSong_19 : decode cX9_putSong 19 = .ok (.aload_n 2, 1) := by decide +kernel
theorem dX9_putSong_20 : decode cX9_putSong 20 = .ok (.bipush 10, 2) := by decide +kernel
theorem dX9_putSong_22 : decode cX9_putSong 22 = .ok (.invokevirtual 21, 3) := by decide +kernel
theorem dX9_putSong_25 : decode cX9_putSong 25 = .ok (.aload_n 1, 1) := by decide +kernel
theorem dX9_putSong_26 : decode cX9_putSong 26 = .ok (.iload_n 3, 1) := by decide +kernel
theorem dX9_putSong_27 : decode cX9_putSong 27 = .ok (.invokevirtual 27, 3) := by decide +kernel
theorem dX9_putSong_30 : decode cX9_putSong 30 = .ok (.istore 5, 2) := by decide +kernel
theorem dX9_putSong_32 : decode cX9_putSong 32 = .ok (.aload_n 1, 1) := by decide +kernel
theorem dX9_putSong_33 : decode cX9_putSong 33 = .ok (.iload_n 3, 1) := by decide +kernel
theorem dX9_putSong_34 : decode cX9_putSong 34 = .ok (.iload 5, 2) := by decide +kernel
theorem dX9_putSong_36 : decode cX9_putSong 36 = .ok (.invokevirtual 31, 3) := by decide +kernel
theorem dX9_putSong_39 : decode cX9_putSong 39 = .ok (.ifCond .eq 18, 3) := by decide +kernel
theorem dX9_putSong_42 : decode cX9_putSong 42 = .ok (.aload_n 0, 1) := by decide +kernel
theorem dX9_putSong_43 : decode cX9_putSong 43 = .ok (.aload_n 1, 1) := by decide +kernel
theorem dX9_putSong_44 : decode cX9_putSong 44 = .ok (.iload_n 3, 1) := by decide +kernel
theorem dX9_putSong_45 : decode cX9_putSong 45 = .ok (.iload 5, 2) := by decide +kernel
theorem dX9_putSong_47 : decode cX9_putSong 47 = .ok (.aload_n 2, 1) := by decide +kernel
theorem dX9_putSong_48 : decode cX9_putSong 48 = .ok (.invokevirtual 35, 3) := by decide +kernel
theorem dX9_putSong_51 : decode cX9_putSong 51 = .ok (.aload_n 2, 1) := by decide +kernel
theorem dX9_putSong_52 : decode cX9_putSong 52 = .ok (.bipush 10, 2) := by decide +kernel
theorem dX9_putSong_54 : decode cX9_putSong 54 = .ok (.invokevirtual 21, 3) := by decide +kernel
theorem dX9_putSong_57 : decode cX9_putSong 57 = .ok (.aload_n 0, 1) := by decide +kernel
theorem dX9_putSong_58 : decode cX9_putSong 58 = .ok (.aload_n 1, 1) := by decide +kernel
theorem dX9_putSong_59 : decode cX9_putSong 59 = .ok (.iload_n 3, 1) := by decide +kernel
theorem dX9_putSong_60 : decode cX9_putSong 60 = .ok (.iload 5, 2) := by decide +kernel
theorem dX9_putSong_62 : decode cX9_putSong 62 = .ok (.aload_n 2, 1) := by decide +kernel
theorem dX9_putSong_63 : decode cX9_putSong 63 = .ok (.invokevirtual 39, 3) := by decide +kernel
theorem dX9_putSong_66 : decode cX9_putSong 66 = .ok (.iload 5, 2) := by decide +kernel
theorem dX9_putSong_68 : decode cX9_putSong 68 = .ok (.iconst 1, 1) := by decide +kernel
theorem dX9_putSong_69 : decode cX9_putSong 69 = .ok (.iadd, 1) := by decide +kernel
theorem dX9_putSong_70 : decode cX9_putSong 70 = .ok (.istore_n 3, 1) := by decide +kernel
theorem dX9_putSong_71 : decode cX9_putSong 71 = .ok (.iinc 4 1, 3) := by decide +kernel
theorem dX9_putSong_74 : decode cX9_putSong 74 = .ok (.goto (-69), 3) := by decide +kernel
theorem dX9_putSong_77 : decode cX9_putSong 77 = .ok (.return_, 1) := by decide +kernel
theorem dX9_putNames_0 : decode cX9_putNames 0 = .ok (.iconst 0, 1) := by decide +kernel
theorem dX9_putNames_1 : decode cX9_putNames 1 = .ok (.istore 5, 2) := by decide +kernel
theorem dX9_putNames_3 : decode cX9_putNames 3 = .ok (.iconst 0, 1) := by decide +kernel
theorem dX9_putNames_4 : decode cX9_putNames 4 = .ok (.istore 6, 2) := by decide +kernel
theorem dX9_putNames_6 : decode cX9_putNames 6 = .ok (.iload_n 2, 1) := by decide +kernel
theorem dX9_putNames_7 : decode cX9_putNames 7 = .ok (.istore 7, 2) := by decide +kernel
theorem dX9_putNames_9 : decode cX9_putNames 9 = .ok (.iload 7, 2) := by decide +kernel
theorem dX9_putNames_11 : decode cX9_putNames 11 = .ok (.iload_n 3, 1) := by decide +kernel
theorem dX9_putNames_12 : decode cX9_putNames 12 = .ok (.if_icmp .ge 129, 3) := by decide +kernel
theorem dX9_putNames_15 : decode cX9_putNames 15 = .ok (.iload 7, 2) := by decide +kernel
theorem dX9_putNames_17 : decode cX9_putNames 17 = .ok (.aload_n 1, 1) := by decide +kernel
theorem dX9_putNames_18 : decode cX9_putNames 18 = .ok (.getfield 42, 3) := by decide +kernel
theorem dX9_putNames_21 : decode cX9_putNames 21 = .ok (.if_icmp .ge 120, 3) := by decide +kernel
theorem dX9_putNames_24 : decode cX9_putNames 24 = .ok (.aload_n 1, 1) := by decide +kernel
theorem dX9_putNames_25 : decode cX9_putNames 25 = .ok (.getfield 45, 3) := by decide +kernel
theorem dX9_putNames_28 : decode cX9_putNames 28 = .ok (.iload 7, 2) := by decide +kernel
theorem dX9_putNames_30 : decode cX9_putNames 30 = .ok (.iaload, 1) := by decide +kernel
theorem dX9_putNames_31 : decode cX9_putNames 31 = .ok (.sipush 256, 3) := by decide +kernel
theorem dX9_putNames_34 : decode cX9_putNames 34 = .ok (.isub, 1) := by decide +kernel
theorem dX9_putNames_35 : decode cX9_putNames 35 = .ok (.istore 8, 2) := by decide +kernel
theorem dX9_putNames_37 : decode cX9_putNames 37 = .ok (.aload_n 1, 1) := by decide +kernel
theorem dX9_putNames_38 : decode cX9_putNames 38 = .ok (.iload 8, 2) := by decide +kernel
theorem dX9_putNames_40 : decode cX9_putNames 40 = .ok (.invokevirtual 48, 3) := by decide +kernel
theorem dX9_putNames_43 : decode cX9_putNames 43 = .ok (.ifCond .ne 9, 3) := by decide +kernel
theorem dX9_putNames_46 : decode cX9_putNames 46 = .ok (.iinc 5 1, 3) := by decide +kernel
theorem dX9_putNames_49 : decode cX9_putNames 49 = .ok (.goto 86, 3) := by decide +kernel
theorem dX9_putNames_52 : decode cX9_putNames 52 = .ok (.iload 6, 2) := by decide +kernel
theorem dX9_putNames_54 : decode cX9_putNames 54 = .ok (.ifCond .ne 7, 3) := by decide +kernel
theorem dX9_putNames_57 : decode cX9_putNames 57 = .ok (.iconst 0, 1) := by decide +kernel
theorem dX9_putNames_58 : decode cX9_putNames 58 = .ok (.goto 7, 3) := by decide +kernel
theorem dX9_putNames_61 : decode cX9_putNames 61 = .ok (.iload 6, 2) := by decide +kernel
theorem dX9_putNames_63 : decode cX9_putNames 63 = .ok (.iconst 1, 1) := by decide +kernel
theorem dX9_putNames_64 : decode cX9_putNames 64 = .ok (.iadd, 1) := by decide +kernel
theorem dX9_putNames_65 : decode cX9_putNames 65 = .ok (.istore 9, 2) := by decide +kernel
theorem dX9_putNames_67 : decode cX9_putNames 67 = .ok (.aload_n 0, 1) := by decide +kernel
theorem dX9_putNames_68 : decode cX9_putNames 68 = .ok (.getfield 9, 3) := by decide +kernel
theorem dX9_putNames_71 : decode cX9_putNames 71 = .ok (.iload 8, 2) := by decide +kernel
theorem dX9_putNames_73 : decode cX9_putNames 73 = .ok (.iconst 0, 1) := by decide +kernel
theorem dX9_putNames_74 : decode cX9_putNames 74 = .ok (.iload 9, 2) := by decide +kernel
theorem dX9_putNames_76 : decode cX9_putNames 76 = .ok (.iload 5, 2) := by decide +kernel
theorem dX9_putNames_78 : decode cX9_putNames 78 = .ok (.isub, 1) := by decide +kernel
theorem dX9_putNames_79 : decode cX9_putNames 79 = .ok (.invokestatic 52, 3) := by decide +kernel
theorem dX9_putNames_82 : decode cX9_putNames 82 = .ok (.iastore, 1) := by decide +kernel
theorem dX9_putNames_83 : decode cX9_putNames 83 = .ok (.iload 5, 2) := by decide +kernel
theorem dX9_putNames_85 : decode cX9_putNames 85 = .ok (.aload_n 0, 1) := by decide +kernel
theorem dX9_putNames_86 : decode cX9_putNames 86 = .ok (.getfield 9, 3) := by decide +kernel
theorem dX9_putNames_89 : decode cX9_putNames 89 = .ok (.iload 8, 2) := by decide +kernel
theorem dX9_putNames_91 : decode cX9_putNames 91 = .ok (.iaload, 1) := by decide +kernel
theorem dX9_putNames_92 : decode cX9_putNames 92 = .ok (.iadd, 1) := by decide +kernel
theorem dX9_putNames_93 : decode cX9_putNames 93 = .ok (.istore 5, 2) := by decide +kernel
theorem dX9_putNames_95 : decode cX9_putNames 95 = .ok (.aload 4, 2) := by decide +kernel
theorem dX9_putNames_97 : decode cX9_putNames 97 = .ok (.bipush 32, 2) := by decide +kernel
theorem dX9_putNames_99 : decode cX9_putNames 99 = .ok (.iload 5, 2) := by decide +kernel
theorem dX9_putNames_101 : decode cX9_putNames 101 = .ok (.iload 6, 2) := by decide +kernel
theorem dX9_putNames_103 : decode cX9_putNames 103 = .ok (.isub, 1) := by decide +kernel
theorem dX9_putNames_104 : decode cX9_putNames 104 = .ok (.invokevirtual 58, 3) := by decide +kernel
theorem dX9_putNames_107 : decode cX9_putNames 107 = .ok (.aload 4, 2) := by decide +kernel
theorem dX9_putNames_109 : decode cX9_putNames 109 = .ok (.getfield 62, 3) := by decide +kernel
theorem dX9_putNames_112 : decode cX9_putNames 112 = .ok (.istore 10, 2) := by decide +kernel
theorem dX9_putNames_114 : decode cX9_putNames 114 = .ok (.aload 4, 2) := by decide +kernel
theorem dX9_putNames_116 : decode cX9_putNames 116 = .ok (.aload_n 1, 1) := by decide +kernel
theorem dX9_putNames_117 : decode cX9_putNames 117 = .ok (.iload 8, 2) := by decide +kernel
theorem dX9_putNames_119 : decode cX9_putNames 119 = .ok (.invokevirtual 65, 3) := by decide +kernel
theorem dX9_putNames_122 : decode cX9_putNames 122 = .ok (.iload 5, 2) := by decide +kernel
theorem dX9_putNames_124 : decode cX9_putNames 124 = .ok (.aload 4, 2) := by decide +kernel
theorem dX9_putNames_126 : decode cX9_putNames 126 = .ok (.getfield 62, 3) := by decide +kernel
theorem dX9_putNames_129 : decode cX9_putNames 129 = .ok (.iadd, 1) := by decide +kernel
theorem dX9_putNames_130 : decode cX9_putNames 130 = .ok (.iload 10, 2) := by decide +kernel
theorem dX9_putNames_132 : decode cX9_putNames 132 = .ok (.isub, 1) := by decide +kernel
theorem dX9_putNames_133 : decode cX9_putNames 133 = .ok (.istore 6, 2) := by decide +kernel
theorem dX9_putNames_135 : decode cX9_putNames 135 = .ok (.iinc 7 1, 3) := by decide +kernel
theorem dX9_putNames_138 : decode cX9_putNames 138 = .ok (.goto (-129), 3) := by decide +kernel
theorem dX9_putNames_141 : decode cX9_putNames 141 = .ok (.return_, 1) := by decide +kernel
theorem dX9_putWords_0 : decode cX9_putWords 0 = .ok (.iconst (-1), 1) := by decide +kernel
theorem dX9_putWords_1 : decode cX9_putWords 1 = .ok (.istore 5, 2) := by decide +kernel
theorem dX9_putWords_3 : decode cX9_putWords 3 = .ok (.iload_n 2, 1) := by decide +kernel
theorem dX9_putWords_4 : decode cX9_putWords 4 = .ok (.istore 6, 2) := by decide +kernel
theorem dX9_putWords_6 : decode cX9_putWords 6 = .ok (.iload 6, 2) := by decide +kernel
theorem dX9_putWords_8 : decode cX9_putWords 8 = .ok (.iload_n 3, 1) := by decide +kernel
theorem dX9_putWords_9 : decode cX9_putWords 9 = .ok (.if_icmp .ge 110, 3) := by decide +kernel
theorem dX9_putWords_12 : decode cX9_putWords 12 = .ok (.iload 6, 2) := by decide +kernel
theorem dX9_putWords_14 : decode cX9_putWords 14 = .ok (.aload_n 1, 1) := by decide +kernel
theorem dX9_putWords_15 : decode cX9_putWords 15 = .ok (.getfield 42, 3) := by decide +kernel
theorem dX9_putWords_18 : decode cX9_putWords 18 = .ok (.if_icmp .ge 101, 3) := by decide +kernel
theorem dX9_putWords_21 : decode cX9_putWords 21 = .ok (.aload_n 1, 1) := by decide +kernel
theorem dX9_putWords_22 : decode cX9_putWords 22 = .ok (.getfield 45, 3) := by decide +kernel
theorem dX9_putWords_25 : decode cX9_putWords 25 = .ok (.iload 6, 2) := by decide +kernel
theorem dX9_putWords_27 : decode cX9_putWords 27 = .ok (.iaload, 1) := by decide +kernel
theorem dX9_putWords_28 : decode cX9_putWords 28 = .ok (.istore 7, 2) := by decide +kernel
theorem dX9_putWords_30 : decode cX9_putWords 30 = .ok (.iload 7, 2) := by decide +kernel
theorem dX9_putWords_32 : decode cX9_putWords 32 = .ok (.sipush 256, 3) := by decide +kernel
theorem dX9_putWords_35 : decode cX9_putWords 35 = .ok (.isub, 1) := by decide +kernel
theorem dX9_putWords_36 : decode cX9_putWords 36 = .ok (.istore 8, 2) := by decide +kernel
theorem dX9_putWords_38 : decode cX9_putWords 38 = .ok (.aload_n 1, 1) := by decide +kernel
theorem dX9_putWords_39 : decode cX9_putWords 39 = .ok (.iload 8, 2) := by decide +kernel
theorem dX9_putWords_41 : decode cX9_putWords 41 = .ok (.invokevirtual 48, 3) := by decide +kernel
theorem dX9_putWords_44 : decode cX9_putWords 44 = .ok (.ifCond .eq 58, 3) := by decide +kernel
theorem dX9_putWords_47 : decode cX9_putWords 47 = .ok (.iload 5, 2) := by decide +kernel
theorem dX9_putWords_49 : decode cX9_putWords 49 = .ok (.invokestatic 69, 3) := by decide +kernel
theorem dX9_putWords_52 : decode cX9_putWords 52 = .ok (.ifCond .eq 20, 3) := by decide +kernel
theorem dX9_putWords_55 : decode cX9_putWords 55 = .ok (.aload_n 1, 1) := by decide +kernel
theorem dX9_putWords_56 : decode cX9_putWords 56 = .ok (.iload 6, 2) := by decide +kernel
theorem dX9_putWords_58 : decode cX9_putWords 58 = .ok (.iload_n 3, 1) := by decide +kernel
theorem dX9_putWords_59 : decode cX9_putWords 59 = .ok (.invokevirtual 72, 3) := by decide +kernel
theorem dX9_putWords_62 : decode cX9_putWords 62 = .ok (.invokestatic 69, 3) := by decide +kernel
theorem dX9_putWords_65 : decode cX9_putWords 65 = .ok (.ifCond .eq 7, 3) := by decide +kernel
theorem dX9_putWords_68 : decode cX9_putWords 68 = .ok (.iconst 1, 1) := by decide +kernel
theorem dX9_putWords_69 : decode cX9_putWords 69 = .ok (.goto 4, 3) := by decide +kernel
theorem dX9_putWords_72 : decode cX9_putWords 72 = .ok (.iconst 0, 1) := by decide +kernel
theorem dX9_putWords_73 : decode cX9_putWords 73 = .ok (.istore 9, 2) := by decide +kernel
theorem dX9_putWords_75 : decode cX9_putWords 75 = .ok (.aload 4, 2) := by decide +kernel
theorem dX9_putWords_77 : decode cX9_putWords 77 = .ok (.iload 9, 2) := by decide +kernel
theorem dX9_putWords_79 : decode cX9_putWords 79 = .ok (.ifCond .eq 8, 3) := by decide +kernel
theorem dX9_putWords_82 : decode cX9_putWords 82 = .ok (.bipush 45, 2) := by decide +kernel
theorem dX9_putWords_84 : decode cX9_putWords 84 = .ok (.goto 5, 3) := by decide +kernel
theorem dX9_putWords_87 : decode cX9_putWords 87 = .ok (.bipush 32, 2) := by decide +kernel
theorem dX9_putWords_89 : decode cX9_putWords 89 = .ok (.aload_n 0, 1) := by decide +kernel
theorem dX9_putWords_90 : decode cX9_putWords 90 = .ok (.getfield 9, 3) := by decide +kernel
theorem dX9_putWords_93 : decode cX9_putWords 93 = .ok (.iload 8, 2) := by decide +kernel
theorem dX9_putWords_95 : decode cX9_putWords 95 = .ok (.iaload, 1) := by decide +kernel
theorem dX9_putWords_96 : decode cX9_putWords 96 = .ok (.invokevirtual 58, 3) := by decide +kernel
theorem dX9_putWords_99 : decode cX9_putWords 99 = .ok (.goto 14, 3) := by decide +kernel
theorem dX9_putWords_102 : decode cX9_putWords 102 = .ok (.aload 4, 2) := by decide +kernel
theorem dX9_putWords_104 : decode cX9_putWords 104 = .ok (.iload 7, 2) := by decide +kernel
theorem dX9_putWords_106 : decode cX9_putWords 106 = .ok (.invokevirtual 21, 3) := by decide +kernel
theorem dX9_putWords_109 : decode cX9_putWords 109 = .ok (.iload 7, 2) := by decide +kernel
theorem dX9_putWords_111 : decode cX9_putWords 111 = .ok (.istore 5, 2) := by decide +kernel
theorem dX9_putWords_113 : decode cX9_putWords 113 = .ok (.iinc 6 1, 3) := by decide +kernel
theorem dX9_putWords_116 : decode cX9_putWords 116 = .ok (.goto (-110), 3) := by decide +kernel
theorem dX9_putWords_119 : decode cX9_putWords 119 = .ok (.return_, 1) := by decide +kernel
theorem dX9_isLetter_0 : decode cX9_isLetter 0 = .ok (.iload_n 0, 1) := by decide +kernel
theorem dX9_isLetter_1 : decode cX9_isLetter 1 = .ok (.bipush 65, 2) := by decide +kernel
theorem dX9_isLetter_3 : decode cX9_isLetter 3 = .ok (.if_icmp .lt 9, 3) := by decide +kernel
theorem dX9_isLetter_6 : decode cX9_isLetter 6 = .ok (.iload_n 0, 1) := by decide +kernel
theorem dX9_isLetter_7 : decode cX9_isLetter 7 = .ok (.bipush 90, 2) := by decide +kernel
theorem dX9_isLetter_9 : decode cX9_isLetter 9 = .ok (.if_icmp .le 15, 3) := by decide +kernel
theorem dX9_isLetter_12 : decode cX9_isLetter 12 = .ok (.iload_n 0, 1) := by decide +kernel
theorem dX9_isLetter_13 : decode cX9_isLetter 13 = .ok (.bipush 97, 2) := by decide +kernel
theorem dX9_isLetter_15 : decode cX9_isLetter 15 = .ok (.if_icmp .lt 13, 3) := by decide +kernel
theorem dX9_isLetter_18 : decode cX9_isLetter 18 = .ok (.iload_n 0, 1) := by decide +kernel
theorem dX9_isLetter_19 : decode cX9_isLetter 19 = .ok (.bipush 122, 2) := by decide +kernel
theorem dX9_isLetter_21 : decode cX9_isLetter 21 = .ok (.if_icmp .gt 7, 3) := by decide +kernel
theorem dX9_isLetter_24 : decode cX9_isLetter 24 = .ok (.iconst 1, 1) := by decide +kernel
theorem dX9_isLetter_25 : decode cX9_isLetter 25 = .ok (.goto 4, 3) := by decide +kernel
theorem dX9_isLetter_28 : decode cX9_isLetter 28 = .ok (.iconst 0, 1) := by decide +kernel
theorem dX9_isLetter_29 : decode cX9_isLetter 29 = .ok (.ireturn, 1) := by decide +kernel
theorem dX10_init_0 : decode cX10_init 0 = .ok (.aload_n 0, 1) := by decide +kernel
theorem dX10_init_1 : decode cX10_init 1 = .ok (.invokespecial 1, 3) := by decide +kernel
theorem dX10_init_4 : decode cX10_init 4 = .ok (.aload_n 0, 1) := by decide +kernel
theorem dX10_init_5 : decode cX10_init 5 = .ok (.sipush 1200, 3) := by decide +kernel
theorem dX10_init_8 : decode cX10_init 8 = .ok (.newarray .int, 2) := by decide +kernel
theorem dX10_init_10 : decode cX10_init 10 = .ok (.putfield 9, 3) := by decide +kernel
theorem dX10_init_13 : decode cX10_init 13 = .ok (.aload_n 0, 1) := by decide +kernel
theorem dX10_init_14 : decode cX10_init 14 = .ok (.new 13, 3) := by decide +kernel
theorem dX10_init_17 : decode cX10_init 17 = .ok (.dup, 1) := by decide +kernel
theorem dX10_init_18 : decode cX10_init 18 = .ok (.invokespecial 15, 3) := by decide +kernel
theorem dX10_init_21 : decode cX10_init 21 = .ok (.putfield 16, 3) := by decide +kernel
theorem dX10_init_24 : decode cX10_init 24 = .ok (.aload_n 0, 1) := by decide +kernel
theorem dX10_init_25 : decode cX10_init 25 = .ok (.new 20, 3) := by decide +kernel
theorem dX10_init_28 : decode cX10_init 28 = .ok (.dup, 1) := by decide +kernel
theorem dX10_init_29 : decode cX10_init 29 = .ok (.invokespecial 22, 3) := by decide +kernel
theorem dX10_init_32 : decode cX10_init 32 = .ok (.putfield 23, 3) := by decide +kernel
theorem dX10_init_35 : decode cX10_init 35 = .ok (.aload_n 0, 1) := by decide +kernel
theorem dX10_init_36 : decode cX10_init 36 = .ok (.new 20, 3) := by decide +kernel
theorem dX10_init_39 : decode cX10_init 39 = .ok (.dup, 1) := by decide +kernel
theorem dX10_init_40 : decode cX10_init 40 = .ok (.invokespecial 22, 3) := by decide +kernel
theorem dX10_init_43 : decode cX10_init 43 = .ok (.putfield 27, 3) := by decide +kernel
theorem dX10_init_46 : decode cX10_init 46 = .ok (.aload_n 0, 1) := by decide +kernel
theorem dX10_init_47 : decode cX10_init 47 = .ok (.iconst (-1), 1) := by decide +kernel
theorem dX10_init_48 : decode cX10_init 48 = .ok (.putfield 30, 3) := by decide +kernel
theorem dX10_init_51 : decode cX10_init 51 = .ok (.aload_n 0, 1) := by decide +kernel
theorem dX10_init_52 : decode cX10_init 52 = .ok (.new 34, 3) := by decide +kernel
theorem dX10_init_55 : decode cX10_init 55 = .ok (.dup, 1) := by decide +kernel
theorem dX10_init_56 : decode cX10_init 56 = .ok (.invokespecial 36, 3) := by decide +kernel
theorem dX10_init_59 : decode cX10_init 59 = .ok (.putfield 37, 3) := by decide +kernel
theorem dX10_init_62 : decode cX10_init 62 = .ok (.aload_n 0, 1) := by decide +kernel
theorem dX10_init_63 : decode cX10_init 63 = .ok (.new 41, 3) := by decide +kernel
theorem dX10_init_66 : decode cX10_init 66 = .ok (.dup, 1) := by decide +kernel
theorem dX10_init_67 : decode cX10_init 67 = .ok (.invokespecial 43, 3) := by decide +kernel
theorem dX10_init_70 : decode cX10_init 70 = .ok (.putfield 44, 3) := by decide +kernel
theorem dX10_init_73 : decode cX10_init 73 = .ok (.aload_n 0, 1) := by decide +kernel
theorem dX10_init_74 : decode cX10_init 74 = .ok (.new 48, 3) := by decide +kernel
theorem dX10_init_77 : decode cX10_init 77 = .ok (.dup, 1) := by decide +kernel
theorem dX10_init_78 : decode cX10_init 78 = .ok (.invokespecial 50, 3) := by decide +kernel
theorem dX10_init_81 : decode cX10_init 81 = .ok (.putfield 51, 3) := by decide +kernel
theorem dX10_init_84 : decode cX10_init 84 = .ok (.aload_n 0, 1) := by decide +kernel
theorem dX10_init_85 : decode cX10_init 85 = .ok (.new 55, 3) := by decide +kernel
theorem dX10_init_88 : decode cX10_init 88 = .ok (.dup, 1) := by decide +kernel
theorem dX10_init_89 : decode cX10_init 89 = .ok (.invokespecial 57, 3) := by decide +kernel
theorem dX10_init_92 : decode cX10_init 92 = .ok (.putfield 58, 3) := by decide +kernel
theorem dX10_init_95 : decode cX10_init 95 = .ok (.aload_n 0, 1) := by decide +kernel
theorem dX10_init_96 : decode cX10_init 96 = .ok (.new 62, 3) := by decide +kernel
theorem dX10_init_99 : decode cX10_init 99 = .ok (.dup, 1) := by decide +kernel
theorem dX10_init_100 : decode cX10_init 100 = .ok (.invokespecial 64, 3) := by decide +kernel
theorem dX10_init_103 : decode cX10_init 103 = .ok (.putfield 65, 3) := by decide +kernel
theorem dX10_init_106 : decode cX10_init 106 = .ok (.return_, 1) := by decide +kernel
theorem dX10_feed_0 : decode cX10_feed 0 = .ok (.aload_n 0, 1) := by decide +kernel
theorem dX10_feed_1 : decode cX10_feed 1 = .ok (.getfield 69, 3) := by decide +kernel
theorem dX10_feed_4 : decode cX10_feed 4 = .ok (.bipush 20, 2) := by decide +kernel
theorem dX10_feed_6 : decode cX10_feed 6 = .ok (.iadd, 1) := by decide +kernel
theorem dX10_feed_7 : decode cX10_feed 7 = .ok (.sipush 1200, 3) := by decide +kernel
theorem dX10_feed_10 : decode cX10_feed 10 = .ok (.if_icmp .le 5, 3) := by decide +kernel
theorem dX10_feed_13 : decode cX10_feed 13 = .ok (.iconst (-1), 1) := by decide +kernel
theorem dX10_feed_14 : decode cX10_feed 14 = .ok (.ireturn, 1) := by decide +kernel
theorem dX10_feed_15 : decode cX10_feed 15 = .ok (.aload_n 0, 1) := by decide +kernel
theorem dX10_feed_16 : decode cX10_feed 16 = .ok (.iload_n 1, 1) := by decide +kernel
theorem dX10_feed_17 : decode cX10_feed 17 = .ok (.invokevirtual 72, 3) := by decide +kernel
theorem dX10_feed_20 : decode cX10_feed 20 = .ok (.aload_n 0, 1) := by decide +kernel
theorem dX10_feed_21 : decode cX10_feed 21 = .ok (.iload_n 2, 1) := by decide +kernel
theorem dX10_feed_22 : decode cX10_feed 22 = .ok (.invokevirtual 72, 3) := by decide +kernel
theorem dX10_feed_25 : decode cX10_feed 25 = .ok (.aload_n 0, 1) := by decide +kernel
theorem dX10_feed_26 : decode cX10_feed 26 = .ok (.iload_n 3, 1) := by decide +kernel
theorem dX10_feed_27 : decode cX10_feed 27 = .ok (.invokevirtual 72, 3) := by decide +kernel
theorem dX10_feed_30 : decode cX10_feed 30 = .ok (.aload_n 0, 1) := by decide +kernel
theorem dX10_feed_31 : decode cX10_feed 31 = .ok (.iload 4, 2) := by decide +kernel
theorem dX10_feed_33 : decode cX10_feed 33 = .ok (.invokevirtual 72, 3) := by decide +kernel
theorem dX10_feed_36 : decode cX10_feed 36 = .ok (.aload_n 0, 1) := by decide +kernel
theorem dX10_feed_37 : decode cX10_feed 37 = .ok (.iload 5, 2) := by decide +kernel
theorem dX10_feed_39 : decode cX10_feed 39 = .ok (.invokevirtual 72, 3) := by decide +kernel
theorem dX10_feed_42 : decode cX10_feed 42 = .ok (.aload_n 0, 1) := by decide +kernel
theorem dX10_feed_43 : decode cX10_feed 43 = .ok (.getfield 69, 3) := by decide +kernel
theorem dX10_feed_46 : decode cX10_feed 46 = .ok (.ireturn, 1) := by decide +kernel
theorem dX10_song_0 : decode cX10_song 0 = .ok (.iload_n 1, 1) := by decide +kernel
theorem dX10_song_1 : decode cX10_song 1 = .ok (.ifCond .lt 11, 3) := by decide +kernel
theorem dX10_song_4 : decode cX10_song 4 = .ok (.iload_n 1, 1) := by decide +kernel
theorem dX10_song_5 : decode cX10_song 5 = .ok (.aload_n 0, 1) := by decide +kernel
theorem dX10_song_6 : decode cX10_song 6 = .ok (.getfield 69, 3) := by decide +kernel
theorem dX10_song_9 : decode cX10_song 9 = .ok (.if_icmp .le 13, 3) := by decide +kernel
theorem dX10_song_12 : decode cX10_song 12 = .ok (.new 76, 3) := by decide +kernel
theorem dX10_song_15 : decode cX10_song 15 = .ok (.dup, 1) := by decide +kernel
theorem dX10_song_16 : decode cX10_song 16 = .ok (.ldc 78, 2) := by decide +kernel
theorem dX10_song_18 : decode cX10_song 18 = .ok (.invokespecial 80, 3) := by decide +kernel
theorem dX10_song_21 : decode cX10_song 21 = .ok (.athrow, 1) := by decide +kernel
theorem dX10_song_22 : decode cX10_song 22 = .ok (.aload_n 0, 1) := by decide +kernel
theorem dX10_song_23 : decode cX10_song 23 = .ok (.getfield 16, 3) := by decide +kernel
theorem dX10_song_26 : decode cX10_song 26 = .ok (.aload_n 0, 1) := by decide +kernel
theorem dX10_song_27 : decode cX10_song 27 = .ok (.getfield 27, 3) := by decide +kernel
theorem dX10_song_30 : decode cX10_song 30 = .ok (.aload_n 0, 1) := by decide +kernel
theorem dX10_song_31 : decode cX10_song 31 = .ok (.getfield 9, 3) := by decide +kernel
theorem dX10_song_34 : decode cX10_song 34 = .ok (.iload_n 1, 1) := by decide +kernel
theorem dX10_song_35 : decode cX10_song 35 = .ok (.invokevirtual 83, 3) := by decide +kernel
theorem dX10_song_38 : decode cX10_song 38 = .ok (.aload_n 0, 1) := by decide +kernel
theorem dX10_song_39 : decode cX10_song 39 = .ok (.iconst 0, 1) := by decide +kernel
theorem dX10_song_40 : decode cX10_song 40 = .ok (.putfield 69, 3) := by decide +kernel
theorem dX10_song_43 : decode cX10_song 43 = .ok (.aload_n 0, 1) := by decide +kernel
theorem dX10_song_44 : decode cX10_song 44 = .ok (.aload_n 0, 1) := by decide +kernel
theorem dX10_song_45 : decode cX10_song 45 = .ok (.getfield 16, 3) := by decide +kernel
theorem dX10_song_48 : decode cX10_song 48 = .ok (.getfield 87, 3) := by decide +kernel
theorem dX10_song_51 : decode cX10_song 51 = .ok (.putfield 90, 3) := by decide +kernel
theorem dX10_song_54 : decode cX10_song 54 = .ok (.aload_n 0, 1) := by decide +kernel
theorem dX10_song_55 : decode cX10_song 55 = .ok (.aload_n 0, 1) := by decide +kernel
theorem dX10_song_56 : decode cX10_song 56 = .ok (.getfield 16, 3) := by decide +kernel
theorem dX10_song_59 : decode cX10_song 59 = .ok (.getfield 93, 3) := by decide +kernel
theorem dX10_song_62 : decode cX10_song 62 = .ok (.putfield 30, 3) := by decide +kernel
theorem dX10_song_65 : decode cX10_song 65 = .ok (.aload_n 0, 1) := by decide +kernel
theorem dX10_song_66 : decode cX10_song 66 = .ok (.getfield 90, 3) := by decide +kernel
theorem dX10_song_69 : decode cX10_song 69 = .ok (.ifCond .ne 25, 3) := by decide +kernel
theorem dX10_song_72 : decode cX10_song 72 = .ok (.aload_n 0, 1) := by decide +kernel
theorem dX10_song_73 : decode cX10_song 73 = .ok (.getfield 23, 3) := by decide +kernel
theorem dX10_song_76 : decode cX10_song 76 = .ok (.astore_n 2, 1) := by decide +kernel
theorem dX10_song_77 : decode cX10_song 77 = .ok (.aload_n 0, 1) := by decide +kernel
theorem dX10_song_78 : decode cX10_song 78 = .ok (.aload_n 0, 1) := by decide +kernel
theorem dX10_song_79 : decode cX10_song 79 = .ok (.getfield 27, 3) := by decide +kernel
theorem dX10_song_82 : decode cX10_song 82 = .ok (.putfield 23, 3) := by decide +kernel
theorem dX10_song_85 : decode cX10_song 85 = .ok (.aload_n 0, 1) := by decide +kernel
theorem dX10_song_86 : decode cX10_song 86 = .ok (.aload_n 2, 1) := by decide +kernel
theorem dX10_song_87 : decode cX10_song 87 = .ok (.putfield 27, 3) := by decide +kernel
theorem dX10_song_90 : decode cX10_song 90 = .ok (.aload_n 0, 1) := by decide +kernel
theorem dX10_song_91 : decode cX10_song 91 = .ok (.invokevirtual 96, 3) := by decide +kernel
theorem dX10_song_94 : decode cX10_song 94 = .ok (.aload_n 0, 1) := by decide +kernel
theorem dX10_song_95 : decode cX10_song 95 = .ok (.getfield 90, 3) := by decide +kernel
theorem dX10_song_98 : decode cX10_song 98 = .ok (.ireturn, 1) := by decide +kernel
theorem dX10_fault_0 : decode cX10_fault 0 = .ok (.iload_n 1, 1) := by decide +kernel
theorem dX10_fault_1 : decode cX10_fault 1 = .ok (.lookupswitch 37 #[(0, 27), (1, 32)], 27) := by decide +kernel
theorem dX10_fault_28 : decode cX10_fault 28 = .ok (.aload_n 0, 1) := by decide +kernel
theorem dX10_fault_29 : decode cX10_fault 29 = .ok (.getfield 90, 3) := by decide +kernel
theorem dX10_fault_32 : decode cX10_fault 32 = .ok (.ireturn, 1) := by decide +kernel
theorem dX10_fault_33 : decode cX10_fault 33 = .ok (.aload_n 0, 1) := by decide +kernel
theorem dX10_fault_34 : decode cX10_fault 34 = .ok (.getfield 30, 3) := by decide +kernel
theorem dX10_fault_37 : decode cX10_fault 37 = .ok (.ireturn, 1) := by decide +kernel
theorem dX10_fault_38 : decode cX10_fault 38 = .ok (.new 99, 3) := by decide +kernel
theorem dX10_fault_41 : decode cX10_fault 41 = .ok (.dup, 1) := by decide +kernel
theorem dX10_fault_42 : decode cX10_fault 42 = .ok (.ldc 101, 2) := by decide +kernel
theorem dX10_fault_44 : decode cX10_fault 44 = .ok (.invokespecial 103, 3) := by decide +kernel
theorem dX10_fault_47 : decode cX10_fault 47 = .ok (.athrow, 1) := by decide +kernel
theorem dX10_key_0 : decode cX10_key 0 = .ok (.iload_n 1, 1) := by decide +kernel
theorem dX10_key_1 : decode cX10_key 1 = .ok (.bipush (-7), 2) := by decide +kernel
theorem dX10_key_3 : decode cX10_key 3 = .ok (.if_icmp .lt 9, 3) := by decide +kernel
theorem dX10_key_6 : decode cX10_key 6 = .ok (.iload_n 1, 1) := by decide +kernel
theorem dX10_key_7 : decode cX10_key 7 = .ok (.bipush 7, 2) := by decide +kernel
theorem dX10_key_9 : decode cX10_key 9 = .ok (.if_icmp .le 13, 3) := by decide +kernel
theorem dX10_key_12 : decode cX10_key 12 = .ok (.new 76, 3) := by decide +kernel
theorem dX10_key_15 : decode cX10_key 15 = .ok (.dup, 1) := by decide +kernel
theorem dX10_key_16 : decode cX10_key 16 = .ok (.ldc 104, 2) := by decide +kernel
theorem dX10_key_18 : decode cX10_key 18 = .ok (.invokespecial 80, 3) := by decide +kernel
theorem dX10_key_21 : decode cX10_key 21 = .ok (.athrow, 1) := by decide +kernel
theorem dX10_key_22 : decode cX10_key 22 = .ok (.aload_n 0, 1) := by decide +kernel
theorem dX10_key_23 : decode cX10_key 23 = .ok (.getfield 106, 3) := by decide +kernel
theorem dX10_key_26 : decode cX10_key 26 = .ok (.istore_n 2, 1) := by decide +kernel
theorem dX10_key_27 : decode cX10_key 27 = .ok (.aload_n 0, 1) := by decide +kernel
theorem dX10_key_28 : decode cX10_key 28 = .ok (.iload_n 1, 1) := by decide +kernel
theorem dX10_key_29 : decode cX10_key 29 = .ok (.putfield 106, 3) := by decide +kernel
theorem dX10_key_32 : decode cX10_key 32 = .ok (.iload_n 2, 1) := by decide +kernel
theorem dX10_key_33 : decode cX10_key 33 = .ok (.ireturn, 1) := by decide +kernel
theorem dX10_move_0 : decode cX10_move 0 = .ok (.iload_n 1, 1) := by decide +kernel
theorem dX10_move_1 : decode cX10_move 1 = .ok (.bipush (-11), 2) := by decide +kernel
theorem dX10_move_3 : decode cX10_move 3 = .ok (.if_icmp .lt 9, 3) := by decide +kernel
theorem dX10_move_6 : decode cX10_move 6 = .ok (.iload_n 1, 1) := by decide +kernel
theorem dX10_move_7 : decode cX10_move 7 = .ok (.bipush 11, 2) := by decide +kernel
theorem dX10_move_9 : decode cX10_move 9 = .ok (.if_icmp .le 13, 3) := by decide +kernel
theorem dX10_move_12 : decode cX10_move 12 = .ok (.new 76, 3) := by decide +kernel
theorem dX10_move_15 : decode cX10_move 15 = .ok (.dup, 1) := by decide +kernel
theorem dX10_move_16 : decode cX10_move 16 = .ok (.ldc 109, 2) := by decide +kernel
theorem dX10_move_18 : decode cX10_move 18 = .ok (.invokespecial 80, 3) := by decide +kernel
theorem dX10_move_21 : decode cX10_move 21 = .ok (.athrow, 1) := by decide +kernel
theorem dX10_move_22 : decode cX10_move 22 = .ok (.aload_n 0, 1) := by decide +kernel
theorem dX10_move_23 : decode cX10_move 23 = .ok (.getfield 106, 3) := by decide +kernel
theorem dX10_move_26 : decode cX10_move 26 = .ok (.bipush 7, 2) := by decide +kernel
theorem dX10_move_28 : decode cX10_move 28 = .ok (.iload_n 1, 1) := by decide +kernel
theorem dX10_move_29 : decode cX10_move 29 = .ok (.imul, 1) := by decide +kernel
theorem dX10_move_30 : decode cX10_move 30 = .ok (.iadd, 1) := by decide +kernel
theorem dX10_move_31 : decode cX10_move 31 = .ok (.iconst 5, 1) := by decide +kernel
theorem dX10_move_32 : decode cX10_move 32 = .ok (.iadd, 1) := by decide +kernel
theorem dX10_move_33 : decode cX10_move 33 = .ok (.bipush 12, 2) := by decide +kernel
theorem dX10_move_35 : decode cX10_move 35 = .ok (.invokestatic 111, 3) := by decide +kernel
theorem dX10_move_38 : decode cX10_move 38 = .ok (.iconst 5, 1) := by decide +kernel
theorem dX10_move_39 : decode cX10_move 39 = .ok (.isub, 1) := by decide +kernel
theorem dX10_move_40 : decode cX10_move 40 = .ok (.istore_n 2, 1) := by decide +kernel
theorem dX10_move_41 : decode cX10_move 41 = .ok (.aload_n 0, 1) := by decide +kernel
theorem dX10_move_42 : decode cX10_move 42 = .ok (.getfield 23, 3) := by decide +kernel
theorem dX10_move_45 : decode cX10_move 45 = .ok (.iload_n 2, 1) := by decide +kernel
theorem dX10_move_46 : decode cX10_move 46 = .ok (.aload_n 0, 1) := by decide +kernel
theorem dX10_move_47 : decode cX10_move 47 = .ok (.getfield 106, 3) := by decide +kernel
theorem dX10_move_50 : decode cX10_move 50 = .ok (.isub, 1) := by decide +kernel
theorem dX10_move_51 : decode cX10_move 51 = .ok (.invokevirtual 117, 3) := by decide +kernel
theorem dX10_move_54 : decode cX10_move 54 = .ok (.aload_n 0, 1) := by decide +kernel
theorem dX10_move_55 : decode cX10_move 55 = .ok (.iload_n 2, 1) := by decide +kernel
theorem dX10_move_56 : decode cX10_move 56 = .ok (.putfield 106, 3) := by decide +kernel
theorem dX10_move_59 : decode cX10_move 59 = .ok (.aload_n 0, 1) := by decide +kernel
theorem dX10_move_60 : decode cX10_move 60 = .ok (.invokevirtual 96, 3) := by decide +kernel
theorem dX10_move_63 : decode cX10_move 63 = .ok (.iload_n 2, 1) := by decide +kernel
theorem dX10_move_64 : decode cX10_move 64 = .ok (.ireturn, 1) := by decide +kernel
theorem dX10_chord_0 : decode cX10_chord 0 = .ok (.aload_n 0, 1) := by decide +kernel
theorem dX10_chord_1 : decode cX10_chord 1 = .ok (.getfield 23, 3) := by decide +kernel
theorem dX10_chord_4 : decode cX10_chord 4 = .ok (.iload_n 1, 1) := by decide +kernel
theorem dX10_chord_5 : decode cX10_chord 5 = .ok (.invokevirtual 120, 3) := by decide +kernel
theorem dX10_chord_8 : decode cX10_chord 8 = .ok (.ifCond .ne 13, 3) := by decide +kernel
theorem dX10_chord_11 : decode cX10_chord 11 = .ok (.new 99, 3) := by decide +kernel
theorem dX10_chord_14 : decode cX10_chord 14 = .ok (.dup, 1) := by decide +kernel
theorem dX10_chord_15 : decode cX10_chord 15 = .ok (.ldc 124, 2) := by decide +kernel
theorem dX10_chord_17 : decode cX10_chord 17 = .ok (.invokespecial 103, 3) := by decide +kernel
theorem dX10_chord_20 : decode cX10_chord 20 = .ok (.athrow, 1) := by decide +kernel
theorem dX10_chord_21 : decode cX10_chord 21 = .ok (.iload_n 2, 1) := by decide +kernel
theorem dX10_chord_22 : decode cX10_chord 22 = .ok (.tableswitch 83 0 4 #[34, 44, 54, 64, 73], 34) := by decide +kernel
theorem dX10_chord_56 : decode cX10_chord 56 = .ok (.aload_n 0, 1) := by decide +kernel
theorem dX10_chord_57 : decode cX10_chord 57 = .ok (.getfield 23, 3) := by decide +kernel
theorem dX10_chord_60 : decode cX10_chord 60 = .ok (.getfield 126, 3) := by decide +kernel
theorem dX10_chord_63 : decode cX10_chord 63 = .ok (.iload_n 1, 1) := by decide +kernel
theorem dX10_chord_64 : decode cX10_chord 64 = .ok (.iaload, 1) := by decide +kernel
theorem dX10_chord_65 : decode cX10_chord 65 = .ok (.ireturn, 1) := by decide +kernel
theorem dX10_chord_66 : decode cX10_chord 66 = .ok (.aload_n 0, 1) := by decide +kernel
theorem dX10_chord_67 : decode cX10_chord 67 = .ok (.getfield 23, 3) := by decide +kernel
theorem dX10_chord_70 : decode cX10_chord 70 = .ok (.getfield 129, 3) := by decide +kernel
theorem dX10_chord_73 : decode cX10_chord 73 = .ok (.iload_n 1, 1) := by decide +kernel
theorem dX10_chord_74 : decode cX10_chord 74 = .ok (.iaload, 1) := by decide +kernel
theorem dX10_chord_75 : decode cX10_chord 75 = .ok (.ireturn, 1) := by decide +kernel
theorem dX10_chord_76 : decode cX10_chord 76 = .ok (.aload_n 0, 1) := by decide +kernel
theorem dX10_chord_77 : decode cX10_chord 77 = .ok (.getfield 23, 3) := by decide +kernel
theorem dX10_chord_80 : decode cX10_chord 80 = .ok (.getfield 132, 3) := by decide +kernel
theorem dX10_chord_83 : decode cX10_chord 83 = .ok (.iload_n 1, 1) := by decide +kernel
theorem dX10_chord_84 : decode cX10_chord 84 = .ok (.iaload, 1) := by decide +kernel
theorem dX10_chord_85 : decode cX10_chord 85 = .ok (.ireturn, 1) := by decide +kernel
theorem dX10_chord_86 : decode cX10_chord 86 = .ok (.aload_n 0, 1) := by decide +kernel
theorem dX10_chord_87 : decode cX10_chord 87 = .ok (.getfield 23, 3) := by decide +kernel
theorem dX10_chord_90 : decode cX10_chord 90 = .ok (.iload_n 1, 1) := by decide +kernel
theorem dX10_chord_91 : decode cX10_chord 91 = .ok (.invokevirtual 135, 3) := by decide +kernel
theorem dX10_chord_94 : decode cX10_chord 94 = .ok (.ireturn, 1) := by decide +kernel
theorem dX10_chord_95 : decode cX10_chord 95 = .ok (.aload_n 0, 1) := by decide +kernel
theorem dX10_chord_96 : decode cX10_chord 96 = .ok (.getfield 23, 3) := by decide +kernel
theorem dX10_chord_99 : decode cX10_chord 99 = .ok (.getfield 139, 3) := by decide +kernel
theorem dX10_chord_102 : decode cX10_chord 102 = .ok (.iload_n 1, 1) := by decide +kernel
theorem dX10_chord_103 : decode cX10_chord 103 = .ok (.iaload, 1) := by decide +kernel
theorem dX10_chord_104 : decode cX10_chord 104 = .ok (.ireturn, 1) := by decide +kernel
theorem dX10_chord_105 : decode cX10_chord 105 = .ok (.new 99, 3) := by decide +kernel
theorem dX10_chord_108 : decode cX10_chord 108 = .ok (.dup, 1) := by decide +kernel
theorem dX10_chord_109 : decode cX10_chord 109 = .ok (.ldc 142, 2) := by decide +kernel
theorem dX10_chord_111 : decode cX10_chord 111 = .ok (.invokespecial 103, 3) := by decide +kernel
theorem dX10_chord_114 : decode cX10_chord 114 = .ok (.athrow, 1) := by decide +kernel
theorem dX10_name_0 : decode cX10_name 0 = .ok (.aload_n 0, 1) := by decide +kernel
theorem dX10_name_1 : decode cX10_name 1 = .ok (.getfield 23, 3) := by decide +kernel
theorem dX10_name_4 : decode cX10_name 4 = .ok (.iload_n 1, 1) := by decide +kernel
theorem dX10_name_5 : decode cX10_name 5 = .ok (.invokevirtual 120, 3) := by decide +kernel
theorem dX10_name_8 : decode cX10_name 8 = .ok (.ifCond .ne 13, 3) := by decide +kernel
theorem dX10_name_11 : decode cX10_name 11 = .ok (.new 99, 3) := by decide +kernel
theorem dX10_name_14 : decode cX10_name 14 = .ok (.dup, 1) := by decide +kernel
theorem dX10_name_15 : decode cX10_name 15 = .ok (.ldc 124, 2) := by decide +kernel
theorem dX10_name_17 : decode cX10_name 17 = .ok (.invokespecial 103, 3) := by decide +kernel
theorem dX10_name_20 : decode cX10_name 20 = .ok (.athrow, 1) := by decide +kernel
theorem dX10_name_21 : decode cX10_name 21 = .ok (.aload_n 0, 1) := by decide +kernel
theorem dX10_name_22 : decode cX10_name 22 = .ok (.getfield 37, 3) := by decide +kernel
theorem dX10_name_25 : decode cX10_name 25 = .ok (.iconst 0, 1) := by decide +kernel
theorem dX10_name_26 : decode cX10_name 26 = .ok (.putfield 144, 3) := by decide +kernel
theorem dX10_name_29 : decode cX10_name 29 = .ok (.aload_n 0, 1) := by decide +kernel
theorem dX10_name_30 : decode cX10_name 30 = .ok (.getfield 37, 3) := by decide +kernel
theorem dX10_name_33 : decode cX10_name 33 = .ok (.aload_n 0, 1) := by decide +kernel
theorem dX10_name_34 : decode cX10_name 34 = .ok (.getfield 23, 3) := by decide +kernel
theorem dX10_name_37 : decode cX10_name 37 = .ok (.iload_n 1, 1) := by decide +kernel
theorem dX10_name_38 : decode cX10_name 38 = .ok (.invokevirtual 147, 3) := by decide +kernel
theorem dX10_name_41 : decode cX10_name 41 = .ok (.aload_n 0, 1) := by decide +kernel
theorem dX10_name_42 : decode cX10_name 42 = .ok (.getfield 37, 3) := by decide +kernel
theorem dX10_name_45 : decode cX10_name 45 = .ok (.getfield 144, 3) := by decide +kernel
theorem dX10_name_48 : decode cX10_name 48 = .ok (.ireturn, 1) := by decide +kernel
theorem dX10_write_0 : decode cX10_write 0 = .ok (.aload_n 0, 1) := by decide +kernel
theorem dX10_write_1 : decode cX10_write 1 = .ok (.getfield 37, 3) := by decide +kernel
theorem dX10_write_4 : decode cX10_write 4 = .ok (.iconst 0, 1) := by decide +kernel
theorem dX10_write_5 : decode cX10_write 5 = .ok (.putfield 144, 3) := by decide +kernel
theorem dX10_write_8 : decode cX10_write 8 = .ok (.aload_n 0, 1) := by decide +kernel
theorem dX10_write_9 : decode cX10_write 9 = .ok (.getfield 44, 3) := by decide +kernel
theorem dX10_write_12 : decode cX10_write 12 = .ok (.aload_n 0, 1) := by decide +kernel
theorem dX10_write_13 : decode cX10_write 13 = .ok (.getfield 23, 3) := by decide +kernel
theorem dX10_write_16 : decode cX10_write 16 = .ok (.aload_n 0, 1) := by decide +kernel
theorem dX10_write_17 : decode cX10_write 17 = .ok (.getfield 37, 3) := by decide +kernel
theorem dX10_write_20 : decode cX10_write 20 = .ok (.invokevirtual 151, 3) := by decide +kernel
theorem dX10_write_23 : decode cX10_write 23 = .ok (.aload_n 0, 1) := by decide +kernel
theorem dX10_write_24 : decode cX10_write 24 = .ok (.getfield 37, 3) := by decide +kernel
theorem dX10_write_27 : decode cX10_write 27 = .ok (.getfield 144, 3) := by decide +kernel
theorem dX10_write_30 : decode cX10_write 30 = .ok (.ireturn, 1) := by decide +kernel
theorem dX10_told_0 : decode cX10_told 0 = .ok (.iload_n 1, 1) := by decide +kernel
theorem dX10_told_1 : decode cX10_told 1 = .ok (.ifCond .lt 14, 3) := by decide +kernel
theorem dX10_told_4 : decode cX10_told 4 = .ok (.iload_n 1, 1) := by decide +kernel
theorem dX10_told_5 : decode cX10_told 5 = .ok (.aload_n 0, 1) := by decide +kernel
theorem dX10_told_6 : decode cX10_told 6 = .ok (.getfield 37, 3) := by decide +kernel
theorem dX10_told_9 : decode cX10_told 9 = .ok (.invokevirtual 155, 3) := by decide +kernel
theorem dX10_told_12 : decode cX10_told 12 = .ok (.if_icmp .lt 13, 3) := by decide +kernel
theorem dX10_told_15 : decode cX10_told 15 = .ok (.new 99, 3) := by decide +kernel
theorem dX10_told_18 : decode cX10_told 18 = .ok (.dup, 1) := by decide +kernel
theorem dX10_told_19 : decode cX10_told 19 = .ok (.ldc 159, 2) := by decide +kernel
theorem dX10_told_21 : decode cX10_told 21 = .ok (.invokespecial 103, 3) := by decide +kernel
theorem dX10_told_24 : decode cX10_told 24 = .ok (.athrow, 1) := by decide +kernel
end
section
theorem dX10_told_25 : decode cX10_told 25 = .ok (.aload_n 0, 1) := by decide +kernel
theorem dX10_told_26 : decode cX10_told 26 = .ok (.getfield 37, 3) := by decide +kernel
theorem dX10_told_29 : decode cX10_told 29 = .ok (.getfield 161, 3) := by decide +kernel
theorem dX10_told_32 : decode cX10_told 32 = .ok (.iload_n 1, 1) := by decide +kernel
theorem dX10_told_33 : decode cX10_told 33 = .ok (.iaload, 1) := by decide +kernel
theorem dX10_told_34 : decode cX10_told 34 = .ok (.ireturn, 1) := by decide +kernel
theorem dX10_string_0 : decode cX10_string 0 = .ok (.iload_n 1, 1) := by decide +kernel
theorem dX10_string_1 : decode cX10_string 1 = .ok (.ifCond .lt 9, 3) := by decide +kernel
theorem dX10_string_4 : decode cX10_string 4 = .ok (.iload_n 1, 1) := by decide +kernel
theorem dX10_string_5 : decode cX10_string 5 = .ok (.bipush 60, 2) := by decide +kernel
theorem dX10_string_7 : decode cX10_string 7 = .ok (.if_icmp .le 13, 3) := by decide +kernel
theorem dX10_string_10 : decode cX10_string 10 = .ok (.new 76, 3) := by decide +kernel
theorem dX10_string_13 : decode cX10_string 13 = .ok (.dup, 1) := by decide +kernel
theorem dX10_string_14 : decode cX10_string 14 = .ok (.ldc 164, 2) := by decide +kernel
theorem dX10_string_16 : decode cX10_string 16 = .ok (.invokespecial 80, 3) := by decide +kernel
theorem dX10_string_19 : decode cX10_string 19 = .ok (.athrow, 1) := by decide +kernel
theorem dX10_string_20 : decode cX10_string 20 = .ok (.aload_n 0, 1) := by decide +kernel
theorem dX10_string_21 : decode cX10_string 21 = .ok (.getfield 51, 3) := by decide +kernel
theorem dX10_string_24 : decode cX10_string 24 = .ok (.getfield 166, 3) := by decide +kernel
theorem dX10_string_27 : decode cX10_string 27 = .ok (.bipush 6, 2) := by decide +kernel
theorem dX10_string_29 : decode cX10_string 29 = .ok (.if_icmp .lt 5, 3) := by decide +kernel
theorem dX10_string_32 : decode cX10_string 32 = .ok (.iconst (-1), 1) := by decide +kernel
theorem dX10_string_33 : decode cX10_string 33 = .ok (.ireturn, 1) := by decide +kernel
theorem dX10_string_34 : decode cX10_string 34 = .ok (.aload_n 0, 1) := by decide +kernel
theorem dX10_string_35 : decode cX10_string 35 = .ok (.getfield 51, 3) := by decide +kernel
theorem dX10_string_38 : decode cX10_string 38 = .ok (.getfield 169, 3) := by decide +kernel
theorem dX10_string_41 : decode cX10_string 41 = .ok (.aload_n 0, 1) := by decide +kernel
theorem dX10_string_42 : decode cX10_string 42 = .ok (.getfield 51, 3) := by decide +kernel
theorem dX10_string_45 : decode cX10_string 45 = .ok (.getfield 166, 3) := by decide +kernel
theorem dX10_string_48 : decode cX10_string 48 = .ok (.iload_n 1, 1) := by decide +kernel
theorem dX10_string_49 : decode cX10_string 49 = .ok (.iastore, 1) := by decide +kernel
theorem dX10_string_50 : decode cX10_string 50 = .ok (.aload_n 0, 1) := by decide +kernel
theorem dX10_string_51 : decode cX10_string 51 = .ok (.getfield 51, 3) := by decide +kernel
theorem dX10_string_54 : decode cX10_string 54 = .ok (.dup, 1) := by decide +kernel
theorem dX10_string_55 : decode cX10_string 55 = .ok (.getfield 166, 3) := by decide +kernel
theorem dX10_string_58 : decode cX10_string 58 = .ok (.iconst 1, 1) := by decide +kernel
theorem dX10_string_59 : decode cX10_string 59 = .ok (.iadd, 1) := by decide +kernel
theorem dX10_string_60 : decode cX10_string 60 = .ok (.putfield 166, 3) := by decide +kernel
theorem dX10_string_63 : decode cX10_string 63 = .ok (.aload_n 0, 1) := by decide +kernel
theorem dX10_string_64 : decode cX10_string 64 = .ok (.invokevirtual 96, 3) := by decide +kernel
theorem dX10_string_67 : decode cX10_string 67 = .ok (.aload_n 0, 1) := by decide +kernel
theorem dX10_string_68 : decode cX10_string 68 = .ok (.getfield 51, 3) := by decide +kernel
theorem dX10_string_71 : decode cX10_string 71 = .ok (.getfield 166, 3) := by decide +kernel
theorem dX10_string_74 : decode cX10_string 74 = .ok (.ireturn, 1) := by decide +kernel
theorem dX10_unstring_0 : decode cX10_unstring 0 = .ok (.aload_n 0, 1) := by decide +kernel
theorem dX10_unstring_1 : decode cX10_unstring 1 = .ok (.getfield 51, 3) := by decide +kernel
theorem dX10_unstring_4 : decode cX10_unstring 4 = .ok (.getfield 166, 3) := by decide +kernel
theorem dX10_unstring_7 : decode cX10_unstring 7 = .ok (.istore_n 1, 1) := by decide +kernel
theorem dX10_unstring_8 : decode cX10_unstring 8 = .ok (.aload_n 0, 1) := by decide +kernel
theorem dX10_unstring_9 : decode cX10_unstring 9 = .ok (.getfield 51, 3) := by decide +kernel
theorem dX10_unstring_12 : decode cX10_unstring 12 = .ok (.iconst 0, 1) := by decide +kernel
theorem dX10_unstring_13 : decode cX10_unstring 13 = .ok (.putfield 166, 3) := by decide +kernel
theorem dX10_unstring_16 : decode cX10_unstring 16 = .ok (.aload_n 0, 1) := by decide +kernel
theorem dX10_unstring_17 : decode cX10_unstring 17 = .ok (.invokevirtual 96, 3) := by decide +kernel
theorem dX10_unstring_20 : decode cX10_unstring 20 = .ok (.iload_n 1, 1) := by decide +kernel
theorem dX10_unstring_21 : decode cX10_unstring 21 = .ok (.ireturn, 1) := by decide +kernel
theorem dX10_hands_0 : decode cX10_hands 0 = .ok (.aload_n 0, 1) := by decide +kernel
theorem dX10_hands_1 : decode cX10_hands 1 = .ok (.getfield 23, 3) := by decide +kernel
theorem dX10_hands_4 : decode cX10_hands 4 = .ok (.iload_n 1, 1) := by decide +kernel
theorem dX10_hands_5 : decode cX10_hands 5 = .ok (.invokevirtual 120, 3) := by decide +kernel
theorem dX10_hands_8 : decode cX10_hands 8 = .ok (.ifCond .ne 13, 3) := by decide +kernel
theorem dX10_hands_11 : decode cX10_hands 11 = .ok (.new 99, 3) := by decide +kernel
theorem dX10_hands_14 : decode cX10_hands 14 = .ok (.dup, 1) := by decide +kernel
theorem dX10_hands_15 : decode cX10_hands 15 = .ok (.ldc 124, 2) := by decide +kernel
theorem dX10_hands_17 : decode cX10_hands 17 = .ok (.invokespecial 103, 3) := by decide +kernel
theorem dX10_hands_20 : decode cX10_hands 20 = .ok (.athrow, 1) := by decide +kernel
theorem dX10_hands_21 : decode cX10_hands 21 = .ok (.iload_n 2, 1) := by decide +kernel
theorem dX10_hands_22 : decode cX10_hands 22 = .ok (.invokestatic 172, 3) := by decide +kernel
theorem dX10_hands_25 : decode cX10_hands 25 = .ok (.ifCond .ne 13, 3) := by decide +kernel
theorem dX10_hands_28 : decode cX10_hands 28 = .ok (.new 76, 3) := by decide +kernel
theorem dX10_hands_31 : decode cX10_hands 31 = .ok (.dup, 1) := by decide +kernel
theorem dX10_hands_32 : decode cX10_hands 32 = .ok (.ldc 175, 2) := by decide +kernel
theorem dX10_hands_34 : decode cX10_hands 34 = .ok (.invokespecial 80, 3) := by decide +kernel
theorem dX10_hands_37 : decode cX10_hands 37 = .ok (.athrow, 1) := by decide +kernel
theorem dX10_hands_38 : decode cX10_hands 38 = .ok (.aload_n 0, 1) := by decide +kernel
theorem dX10_hands_39 : decode cX10_hands 39 = .ok (.getfield 58, 3) := by decide +kernel
theorem dX10_hands_42 : decode cX10_hands 42 = .ok (.getfield 177, 3) := by decide +kernel
theorem dX10_hands_45 : decode cX10_hands 45 = .ok (.aload_n 0, 1) := by decide +kernel
theorem dX10_hands_46 : decode cX10_hands 46 = .ok (.getfield 58, 3) := by decide +kernel
theorem dX10_hands_49 : decode cX10_hands 49 = .ok (.aload_n 0, 1) := by decide +kernel
theorem dX10_hands_50 : decode cX10_hands 50 = .ok (.getfield 23, 3) := by decide +kernel
theorem dX10_hands_53 : decode cX10_hands 53 = .ok (.aload_n 0, 1) := by decide +kernel
theorem dX10_hands_54 : decode cX10_hands 54 = .ok (.getfield 51, 3) := by decide +kernel
theorem dX10_hands_57 : decode cX10_hands 57 = .ok (.iload_n 1, 1) := by decide +kernel
theorem dX10_hands_58 : decode cX10_hands 58 = .ok (.iload_n 2, 1) := by decide +kernel
theorem dX10_hands_59 : decode cX10_hands 59 = .ok (.invokevirtual 180, 3) := by decide +kernel
theorem dX10_hands_62 : decode cX10_hands 62 = .ok (.iaload, 1) := by decide +kernel
theorem dX10_hands_63 : decode cX10_hands 63 = .ok (.ireturn, 1) := by decide +kernel
theorem dX10_fret_0 : decode cX10_fret 0 = .ok (.aload_n 0, 1) := by decide +kernel
theorem dX10_fret_1 : decode cX10_fret 1 = .ok (.iload_n 1, 1) := by decide +kernel
theorem dX10_fret_2 : decode cX10_fret 2 = .ok (.iload_n 2, 1) := by decide +kernel
theorem dX10_fret_3 : decode cX10_fret 3 = .ok (.invokevirtual 184, 3) := by decide +kernel
theorem dX10_fret_6 : decode cX10_fret 6 = .ok (.istore 5, 2) := by decide +kernel
theorem dX10_fret_8 : decode cX10_fret 8 = .ok (.iload_n 3, 1) := by decide +kernel
theorem dX10_fret_9 : decode cX10_fret 9 = .ok (.ifCond .lt 9, 3) := by decide +kernel
theorem dX10_fret_12 : decode cX10_fret 12 = .ok (.iload_n 3, 1) := by decide +kernel
theorem dX10_fret_13 : decode cX10_fret 13 = .ok (.iload 5, 2) := by decide +kernel
theorem dX10_fret_15 : decode cX10_fret 15 = .ok (.if_icmp .lt 13, 3) := by decide +kernel
theorem dX10_fret_18 : decode cX10_fret 18 = .ok (.new 99, 3) := by decide +kernel
theorem dX10_fret_21 : decode cX10_fret 21 = .ok (.dup, 1) := by decide +kernel
theorem dX10_fret_22 : decode cX10_fret 22 = .ok (.ldc 187, 2) := by decide +kernel
theorem dX10_fret_24 : decode cX10_fret 24 = .ok (.invokespecial 103, 3) := by decide +kernel
theorem dX10_fret_27 : decode cX10_fret 27 = .ok (.athrow, 1) := by decide +kernel
theorem dX10_fret_28 : decode cX10_fret 28 = .ok (.iload 4, 2) := by decide +kernel
theorem dX10_fret_30 : decode cX10_fret 30 = .ok (.iconst (-1), 1) := by decide +kernel
theorem dX10_fret_31 : decode cX10_fret 31 = .ok (.if_icmp .lt 15, 3) := by decide +kernel
theorem dX10_fret_34 : decode cX10_fret 34 = .ok (.iload 4, 2) := by decide +kernel
theorem dX10_fret_36 : decode cX10_fret 36 = .ok (.aload_n 0, 1) := by decide +kernel
theorem dX10_fret_37 : decode cX10_fret 37 = .ok (.getfield 51, 3) := by decide +kernel
theorem dX10_fret_40 : decode cX10_fret 40 = .ok (.getfield 166, 3) := by decide +kernel
theorem dX10_fret_43 : decode cX10_fret 43 = .ok (.if_icmp .lt 13, 3) := by decide +kernel
theorem dX10_fret_46 : decode cX10_fret 46 = .ok (.new 99, 3) := by decide +kernel
theorem dX10_fret_49 : decode cX10_fret 49 = .ok (.dup, 1) := by decide +kernel
theorem dX10_fret_50 : decode cX10_fret 50 = .ok (.ldc 189, 2) := by decide +kernel
theorem dX10_fret_52 : decode cX10_fret 52 = .ok (.invokespecial 103, 3) := by decide +kernel
theorem dX10_fret_55 : decode cX10_fret 55 = .ok (.athrow, 1) := by decide +kernel
theorem dX10_fret_56 : decode cX10_fret 56 = .ok (.aload_n 0, 1) := by decide +kernel
theorem dX10_fret_57 : decode cX10_fret 57 = .ok (.getfield 58, 3) := by decide +kernel
theorem dX10_fret_60 : decode cX10_fret 60 = .ok (.getfield 191, 3) := by decide +kernel
theorem dX10_fret_63 : decode cX10_fret 63 = .ok (.aload_n 0, 1) := by decide +kernel
theorem dX10_fret_64 : decode cX10_fret 64 = .ok (.getfield 58, 3) := by decide +kernel
theorem dX10_fret_67 : decode cX10_fret 67 = .ok (.aload_n 0, 1) := by decide +kernel
theorem dX10_fret_68 : decode cX10_fret 68 = .ok (.getfield 23, 3) := by decide +kernel
theorem dX10_fret_71 : decode cX10_fret 71 = .ok (.aload_n 0, 1) := by decide +kernel
theorem dX10_fret_72 : decode cX10_fret 72 = .ok (.getfield 51, 3) := by decide +kernel
theorem dX10_fret_75 : decode cX10_fret 75 = .ok (.iload_n 1, 1) := by decide +kernel
theorem dX10_fret_76 : decode cX10_fret 76 = .ok (.iload_n 2, 1) := by decide +kernel
theorem dX10_fret_77 : decode cX10_fret 77 = .ok (.invokevirtual 180, 3) := by decide +kernel
theorem dX10_fret_80 : decode cX10_fret 80 = .ok (.bipush 6, 2) := by decide +kernel
theorem dX10_fret_82 : decode cX10_fret 82 = .ok (.imul, 1) := by decide +kernel
theorem dX10_fret_83 : decode cX10_fret 83 = .ok (.iload_n 3, 1) := by decide +kernel
theorem dX10_fret_84 : decode cX10_fret 84 = .ok (.iadd, 1) := by decide +kernel
theorem dX10_fret_85 : decode cX10_fret 85 = .ok (.iaload, 1) := by decide +kernel
theorem dX10_fret_86 : decode cX10_fret 86 = .ok (.istore 6, 2) := by decide +kernel
theorem dX10_fret_88 : decode cX10_fret 88 = .ok (.iload 4, 2) := by decide +kernel
theorem dX10_fret_90 : decode cX10_fret 90 = .ok (.iconst (-1), 1) := by decide +kernel
theorem dX10_fret_91 : decode cX10_fret 91 = .ok (.if_icmp .ne 11, 3) := by decide +kernel
theorem dX10_fret_94 : decode cX10_fret 94 = .ok (.iload 6, 2) := by decide +kernel
theorem dX10_fret_96 : decode cX10_fret 96 = .ok (.invokestatic 194, 3) := by decide +kernel
theorem dX10_fret_99 : decode cX10_fret 99 = .ok (.goto 10, 3) := by decide +kernel
theorem dX10_fret_102 : decode cX10_fret 102 = .ok (.iload 6, 2) := by decide +kernel
theorem dX10_fret_104 : decode cX10_fret 104 = .ok (.iload 4, 2) := by decide +kernel
theorem dX10_fret_106 : decode cX10_fret 106 = .ok (.invokestatic 199, 3) := by decide +kernel
theorem dX10_fret_109 : decode cX10_fret 109 = .ok (.ireturn, 1) := by decide +kernel
theorem dX10_play_0 : decode cX10_play 0 = .ok (.iload_n 1, 1) := by decide +kernel
theorem dX10_play_1 : decode cX10_play 1 = .ok (.invokestatic 172, 3) := by decide +kernel
theorem dX10_play_4 : decode cX10_play 4 = .ok (.ifCond .ne 13, 3) := by decide +kernel
theorem dX10_play_7 : decode cX10_play 7 = .ok (.new 76, 3) := by decide +kernel
theorem dX10_play_10 : decode cX10_play 10 = .ok (.dup, 1) := by decide +kernel
theorem dX10_play_11 : decode cX10_play 11 = .ok (.ldc 175, 2) := by decide +kernel
theorem dX10_play_13 : decode cX10_play 13 = .ok (.invokespecial 80, 3) := by decide +kernel
theorem dX10_play_16 : decode cX10_play 16 = .ok (.athrow, 1) := by decide +kernel
theorem dX10_play_17 : decode cX10_play 17 = .ok (.aload_n 0, 1) := by decide +kernel
theorem dX10_play_18 : decode cX10_play 18 = .ok (.getfield 65, 3) := by decide +kernel
theorem dX10_play_21 : decode cX10_play 21 = .ok (.aload_n 0, 1) := by decide +kernel
theorem dX10_play_22 : decode cX10_play 22 = .ok (.getfield 23, 3) := by decide +kernel
theorem dX10_play_25 : decode cX10_play 25 = .ok (.aload_n 0, 1) := by decide +kernel
theorem dX10_play_26 : decode cX10_play 26 = .ok (.getfield 51, 3) := by decide +kernel
theorem dX10_play_29 : decode cX10_play 29 = .ok (.aload_n 0, 1) := by decide +kernel
theorem dX10_play_30 : decode cX10_play 30 = .ok (.getfield 58, 3) := by decide +kernel
theorem dX10_play_33 : decode cX10_play 33 = .ok (.iload_n 1, 1) := by decide +kernel
theorem dX10_play_34 : decode cX10_play 34 = .ok (.invokevirtual 202, 3) := by decide +kernel
theorem dX10_play_37 : decode cX10_play 37 = .ok (.istore_n 2, 1) := by decide +kernel
theorem dX10_play_38 : decode cX10_play 38 = .ok (.iload_n 2, 1) := by decide +kernel
theorem dX10_play_39 : decode cX10_play 39 = .ok (.iconst (-1), 1) := by decide +kernel
theorem dX10_play_40 : decode cX10_play 40 = .ok (.if_icmp .eq 18, 3) := by decide +kernel
theorem dX10_play_43 : decode cX10_play 43 = .ok (.aload_n 0, 1) := by decide +kernel
theorem dX10_play_44 : decode cX10_play 44 = .ok (.getfield 65, 3) := by decide +kernel
theorem dX10_play_47 : decode cX10_play 47 = .ok (.aload_n 0, 1) := by decide +kernel
theorem dX10_play_48 : decode cX10_play 48 = .ok (.getfield 23, 3) := by decide +kernel
theorem dX10_play_51 : decode cX10_play 51 = .ok (.getfield 206, 3) := by decide +kernel
theorem dX10_play_54 : decode cX10_play 54 = .ok (.iload_n 1, 1) := by decide +kernel
theorem dX10_play_55 : decode cX10_play 55 = .ok (.invokevirtual 209, 3) := by decide +kernel
theorem dX10_play_58 : decode cX10_play 58 = .ok (.iload_n 2, 1) := by decide +kernel
theorem dX10_play_59 : decode cX10_play 59 = .ok (.ireturn, 1) := by decide +kernel
theorem dX10_easiest_0 : decode cX10_easiest 0 = .ok (.iconst (-1), 1) := by decide +kernel
theorem dX10_easiest_1 : decode cX10_easiest 1 = .ok (.istore_n 1, 1) := by decide +kernel
theorem dX10_easiest_2 : decode cX10_easiest 2 = .ok (.iconst (-1), 1) := by decide +kernel
theorem dX10_easiest_3 : decode cX10_easiest 3 = .ok (.istore_n 2, 1) := by decide +kernel
theorem dX10_easiest_4 : decode cX10_easiest 4 = .ok (.iconst 0, 1) := by decide +kernel
theorem dX10_easiest_5 : decode cX10_easiest 5 = .ok (.istore_n 3, 1) := by decide +kernel
theorem dX10_easiest_6 : decode cX10_easiest 6 = .ok (.iload_n 3, 1) := by decide +kernel
theorem dX10_easiest_7 : decode cX10_easiest 7 = .ok (.bipush 8, 2) := by decide +kernel
theorem dX10_easiest_9 : decode cX10_easiest 9 = .ok (.if_icmp .ge 53, 3) := by decide +kernel
theorem dX10_easiest_12 : decode cX10_easiest 12 = .ok (.aload_n 0, 1) := by decide +kernel
theorem dX10_easiest_13 : decode cX10_easiest 13 = .ok (.getfield 65, 3) := by decide +kernel
theorem dX10_easiest_16 : decode cX10_easiest 16 = .ok (.aload_n 0, 1) := by decide +kernel
theorem dX10_easiest_17 : decode cX10_easiest 17 = .ok (.getfield 23, 3) := by decide +kernel
theorem dX10_easiest_20 : decode cX10_easiest 20 = .ok (.aload_n 0, 1) := by decide +kernel
theorem dX10_easiest_21 : decode cX10_easiest 21 = .ok (.getfield 51, 3) := by decide +kernel
theorem dX10_easiest_24 : decode cX10_easiest 24 = .ok (.aload_n 0, 1) := by decide +kernel
theorem dX10_easiest_25 : decode cX10_easiest 25 = .ok (.getfield 58, 3) := by decide +kernel
theorem dX10_easiest_28 : decode cX10_easiest 28 = .ok (.iload_n 3, 1) := by decide +kernel
theorem dX10_easiest_29 : decode cX10_easiest 29 = .ok (.invokevirtual 202, 3) := by decide +kernel
theorem dX10_easiest_32 : decode cX10_easiest 32 = .ok (.istore 4, 2) := by decide +kernel
theorem dX10_easiest_34 : decode cX10_easiest 34 = .ok (.iload 4, 2) := by decide +kernel
theorem dX10_easiest_36 : decode cX10_easiest 36 = .ok (.iconst (-1), 1) := by decide +kernel
theorem dX10_easiest_37 : decode cX10_easiest 37 = .ok (.if_icmp .eq 19, 3) := by decide +kernel
theorem dX10_easiest_40 : decode cX10_easiest 40 = .ok (.iload_n 1, 1) := by decide +kernel
theorem dX10_easiest_41 : decode cX10_easiest 41 = .ok (.iconst (-1), 1) := by decide +kernel
theorem dX10_easiest_42 : decode cX10_easiest 42 = .ok (.if_icmp .eq 9, 3) := by decide +kernel
theorem dX10_easiest_45 : decode cX10_easiest 45 = .ok (.iload 4, 2) := by decide +kernel
theorem dX10_easiest_47 : decode cX10_easiest 47 = .ok (.iload_n 2, 1) := by decide +kernel
theorem dX10_easiest_48 : decode cX10_easiest 48 = .ok (.if_icmp .ge 8, 3) := by decide +kernel
theorem dX10_easiest_51 : decode cX10_easiest 51 = .ok (.iload_n 3, 1) := by decide +kernel
theorem dX10_easiest_52 : decode cX10_easiest 52 = .ok (.istore_n 1, 1) := by decide +kernel
theorem dX10_easiest_53 : decode cX10_easiest 53 = .ok (.iload 4, 2) := by decide +kernel
theorem dX10_easiest_55 : decode cX10_easiest 55 = .ok (.istore_n 2, 1) := by decide +kernel
theorem dX10_easiest_56 : decode cX10_easiest 56 = .ok (.iinc 3 1, 3) := by decide +kernel
theorem dX10_easiest_59 : decode cX10_easiest 59 = .ok (.goto (-53), 3) := by decide +kernel
theorem dX10_easiest_62 : decode cX10_easiest 62 = .ok (.iload_n 1, 1) := by decide +kernel
theorem dX10_easiest_63 : decode cX10_easiest 63 = .ok (.iconst (-1), 1) := by decide +kernel
theorem dX10_easiest_64 : decode cX10_easiest 64 = .ok (.if_icmp .eq 39, 3) := by decide +kernel
theorem dX10_easiest_67 : decode cX10_easiest 67 = .ok (.aload_n 0, 1) := by decide +kernel
theorem dX10_easiest_68 : decode cX10_easiest 68 = .ok (.getfield 65, 3) := by decide +kernel
theorem dX10_easiest_71 : decode cX10_easiest 71 = .ok (.aload_n 0, 1) := by decide +kernel
theorem dX10_easiest_72 : decode cX10_easiest 72 = .ok (.getfield 23, 3) := by decide +kernel
theorem dX10_easiest_75 : decode cX10_easiest 75 = .ok (.aload_n 0, 1) := by decide +kernel
theorem dX10_easiest_76 : decode cX10_easiest 76 = .ok (.getfield 51, 3) := by decide +kernel
theorem dX10_easiest_79 : decode cX10_easiest 79 = .ok (.aload_n 0, 1) := by decide +kernel
theorem dX10_easiest_80 : decode cX10_easiest 80 = .ok (.getfield 58, 3) := by decide +kernel
theorem dX10_easiest_83 : decode cX10_easiest 83 = .ok (.iload_n 1, 1) := by decide +kernel
theorem dX10_easiest_84 : decode cX10_easiest 84 = .ok (.invokevirtual 202, 3) := by decide +kernel
theorem dX10_easiest_87 : decode cX10_easiest 87 = .ok (.pop, 1) := by decide +kernel
theorem dX10_easiest_88 : decode cX10_easiest 88 = .ok (.aload_n 0, 1) := by decide +kernel
theorem dX10_easiest_89 : decode cX10_easiest 89 = .ok (.getfield 65, 3) := by decide +kernel
theorem dX10_easiest_92 : decode cX10_easiest 92 = .ok (.aload_n 0, 1) := by decide +kernel
theorem dX10_easiest_93 : decode cX10_easiest 93 = .ok (.getfield 23, 3) := by decide +kernel
theorem dX10_easiest_96 : decode cX10_easiest 96 = .ok (.getfield 206, 3) := by decide +kernel
theorem dX10_easiest_99 : decode cX10_easiest 99 = .ok (.iload_n 1, 1) := by decide +kernel
theorem dX10_easiest_100 : decode cX10_easiest 100 = .ok (.invokevirtual 209, 3) := by decide +kernel
theorem dX10_easiest_103 : decode cX10_easiest 103 = .ok (.iload_n 1, 1) := by decide +kernel
theorem dX10_easiest_104 : decode cX10_easiest 104 = .ok (.ireturn, 1) := by decide +kernel
theorem dX10_played_0 : decode cX10_played 0 = .ok (.aload_n 0, 1) := by decide +kernel
theorem dX10_played_1 : decode cX10_played 1 = .ok (.getfield 65, 3) := by decide +kernel
theorem dX10_played_4 : decode cX10_played 4 = .ok (.getfield 213, 3) := by decide +kernel
theorem dX10_played_7 : decode cX10_played 7 = .ok (.iconst (-1), 1) := by decide +kernel
theorem dX10_played_8 : decode cX10_played 8 = .ok (.if_icmp .eq 8, 3) := by decide +kernel
theorem dX10_played_11 : decode cX10_played 11 = .ok (.iload_n 1, 1) := by decide +kernel
theorem dX10_played_12 : decode cX10_played 12 = .ok (.iconst (-1), 1) := by decide +kernel
theorem dX10_played_13 : decode cX10_played 13 = .ok (.if_icmp .ne 11, 3) := by decide +kernel
theorem dX10_played_16 : decode cX10_played 16 = .ok (.aload_n 0, 1) := by decide +kernel
theorem dX10_played_17 : decode cX10_played 17 = .ok (.getfield 65, 3) := by decide +kernel
theorem dX10_played_20 : decode cX10_played 20 = .ok (.getfield 213, 3) := by decide +kernel
theorem dX10_played_23 : decode cX10_played 23 = .ok (.ireturn, 1) := by decide +kernel
theorem dX10_played_24 : decode cX10_played 24 = .ok (.aload_n 0, 1) := by decide +kernel
theorem dX10_played_25 : decode cX10_played 25 = .ok (.getfield 23, 3) := by decide +kernel
theorem dX10_played_28 : decode cX10_played 28 = .ok (.iload_n 1, 1) := by decide +kernel
theorem dX10_played_29 : decode cX10_played 29 = .ok (.invokevirtual 120, 3) := by decide +kernel
theorem dX10_played_32 : decode cX10_played 32 = .ok (.ifCond .eq 15, 3) := by decide +kernel
theorem dX10_played_35 : decode cX10_played 35 = .ok (.aload_n 0, 1) := by decide +kernel
theorem dX10_played_36 : decode cX10_played 36 = .ok (.getfield 65, 3) := by decide +kernel
theorem dX10_played_39 : decode cX10_played 39 = .ok (.getfield 216, 3) := by decide +kernel
theorem dX10_played_42 : decode cX10_played 42 = .ok (.iload_n 1, 1) := by decide +kernel
theorem dX10_played_43 : decode cX10_played 43 = .ok (.iaload, 1) := by decide +kernel
theorem dX10_played_44 : decode cX10_played 44 = .ok (.goto 4, 3) := by decide +kernel
theorem dX10_played_47 : decode cX10_played 47 = .ok (.iconst (-1), 1) := by decide +kernel
theorem dX10_played_48 : decode cX10_played 48 = .ok (.ireturn, 1) := by decide +kernel
theorem dX10_guess_0 : decode cX10_guess 0 = .ok (.bipush (-100), 2) := by decide +kernel
theorem dX10_guess_2 : decode cX10_guess 2 = .ok (.istore_n 1, 1) := by decide +kernel
theorem dX10_guess_3 : decode cX10_guess 3 = .ok (.iconst (-1), 1) := by decide +kernel
theorem dX10_guess_4 : decode cX10_guess 4 = .ok (.istore_n 2, 1) := by decide +kernel
theorem dX10_guess_5 : decode cX10_guess 5 = .ok (.bipush (-6), 2) := by decide +kernel
theorem dX10_guess_7 : decode cX10_guess 7 = .ok (.istore_n 3, 1) := by decide +kernel
theorem dX10_guess_8 : decode cX10_guess 8 = .ok (.iload_n 3, 1) := by decide +kernel
theorem dX10_guess_9 : decode cX10_guess 9 = .ok (.bipush 6, 2) := by decide +kernel
theorem dX10_guess_11 : decode cX10_guess 11 = .ok (.if_icmp .gt 45, 3) := by decide +kernel
theorem dX10_guess_14 : decode cX10_guess 14 = .ok (.aload_n 0, 1) := by decide +kernel
theorem dX10_guess_15 : decode cX10_guess 15 = .ok (.getfield 23, 3) := by decide +kernel
theorem dX10_guess_18 : decode cX10_guess 18 = .ok (.iload_n 3, 1) := by decide +kernel
theorem dX10_guess_19 : decode cX10_guess 19 = .ok (.invokestatic 217, 3) := by decide +kernel
theorem dX10_guess_22 : decode cX10_guess 22 = .ok (.invokevirtual 222, 3) := by decide +kernel
theorem dX10_guess_25 : decode cX10_guess 25 = .ok (.istore 4, 2) := by decide +kernel
theorem dX10_guess_27 : decode cX10_guess 27 = .ok (.iload 4, 2) := by decide +kernel
theorem dX10_guess_29 : decode cX10_guess 29 = .ok (.iload_n 2, 1) := by decide +kernel
theorem dX10_guess_30 : decode cX10_guess 30 = .ok (.if_icmp .le 11, 3) := by decide +kernel
theorem dX10_guess_33 : decode cX10_guess 33 = .ok (.iload 4, 2) := by decide +kernel
theorem dX10_guess_35 : decode cX10_guess 35 = .ok (.istore_n 2, 1) := by decide +kernel
theorem dX10_guess_36 : decode cX10_guess 36 = .ok (.iload_n 3, 1) := by decide +kernel
theorem dX10_guess_37 : decode cX10_guess 37 = .ok (.istore_n 1, 1) := by decide +kernel
theorem dX10_guess_38 : decode cX10_guess 38 = .ok (.goto 12, 3) := by decide +kernel
theorem dX10_guess_41 : decode cX10_guess 41 = .ok (.iload 4, 2) := by decide +kernel
theorem dX10_guess_43 : decode cX10_guess 43 = .ok (.iload_n 2, 1) := by decide +kernel
theorem dX10_guess_44 : decode cX10_guess 44 = .ok (.if_icmp .ne 6, 3) := by decide +kernel
theorem dX10_guess_47 : decode cX10_guess 47 = .ok (.bipush (-100), 2) := by decide +kernel
theorem dX10_guess_49 : decode cX10_guess 49 = .ok (.istore_n 1, 1) := by decide +kernel
theorem dX10_guess_50 : decode cX10_guess 50 = .ok (.iinc 3 1, 3) := by decide +kernel
theorem dX10_guess_53 : decode cX10_guess 53 = .ok (.goto (-45), 3) := by decide +kernel
theorem dX10_guess_56 : decode cX10_guess 56 = .ok (.iload_n 1, 1) := by decide +kernel
theorem dX10_guess_57 : decode cX10_guess 57 = .ok (.ireturn, 1) := by decide +kernel
theorem dX10_count_0 : decode cX10_count 0 = .ok (.iload_n 1, 1) := by decide +kernel
theorem dX10_count_1 : decode cX10_count 1 = .ok (.tableswitch 81 0 5 #[39, 47, 55, 60, 68, 76], 39) := by decide +kernel
theorem dX10_count_40 : decode cX10_count 40 = .ok (.aload_n 0, 1) := by decide +kernel
theorem dX10_count_41 : decode cX10_count 41 = .ok (.getfield 23, 3) := by decide +kernel
theorem dX10_count_44 : decode cX10_count 44 = .ok (.getfield 206, 3) := by decide +kernel
theorem dX10_count_47 : decode cX10_count 47 = .ok (.ireturn, 1) := by decide +kernel
theorem dX10_count_48 : decode cX10_count 48 = .ok (.aload_n 0, 1) := by decide +kernel
theorem dX10_count_49 : decode cX10_count 49 = .ok (.getfield 23, 3) := by decide +kernel
theorem dX10_count_52 : decode cX10_count 52 = .ok (.getfield 225, 3) := by decide +kernel
theorem dX10_count_55 : decode cX10_count 55 = .ok (.ireturn, 1) := by decide +kernel
theorem dX10_count_56 : decode cX10_count 56 = .ok (.aload_n 0, 1) := by decide +kernel
theorem dX10_count_57 : decode cX10_count 57 = .ok (.getfield 106, 3) := by decide +kernel
theorem dX10_count_60 : decode cX10_count 60 = .ok (.ireturn, 1) := by decide +kernel
theorem dX10_count_61 : decode cX10_count 61 = .ok (.aload_n 0, 1) := by decide +kernel
theorem dX10_count_62 : decode cX10_count 62 = .ok (.getfield 51, 3) := by decide +kernel
theorem dX10_count_65 : decode cX10_count 65 = .ok (.getfield 166, 3) := by decide +kernel
theorem dX10_count_68 : decode cX10_count 68 = .ok (.ireturn, 1) := by decide +kernel
theorem dX10_count_69 : decode cX10_count 69 = .ok (.aload_n 0, 1) := by decide +kernel
theorem dX10_count_70 : decode cX10_count 70 = .ok (.getfield 37, 3) := by decide +kernel
theorem dX10_count_73 : decode cX10_count 73 = .ok (.invokevirtual 155, 3) := by decide +kernel
theorem dX10_count_76 : decode cX10_count 76 = .ok (.ireturn, 1) := by decide +kernel
theorem dX10_count_77 : decode cX10_count 77 = .ok (.aload_n 0, 1) := by decide +kernel
theorem dX10_count_78 : decode cX10_count 78 = .ok (.getfield 69, 3) := by decide +kernel
theorem dX10_count_81 : decode cX10_count 81 = .ok (.ireturn, 1) := by decide +kernel
theorem dX10_count_82 : decode cX10_count 82 = .ok (.new 99, 3) := by decide +kernel
theorem dX10_count_85 : decode cX10_count 85 = .ok (.dup, 1) := by decide +kernel
theorem dX10_count_86 : decode cX10_count 86 = .ok (.ldc 228, 2) := by decide +kernel
theorem dX10_count_88 : decode cX10_count 88 = .ok (.invokespecial 103, 3) := by decide +kernel
theorem dX10_count_91 : decode cX10_count 91 = .ok (.athrow, 1) := by decide +kernel
theorem dX10_takeFour_0 : decode cX10_takeFour 0 = .ok (.bipush 24, 2) := by decide +kernel
theorem dX10_takeFour_2 : decode cX10_takeFour 2 = .ok (.istore_n 2, 1) := by decide +kernel
theorem dX10_takeFour_3 : decode cX10_takeFour 3 = .ok (.iload_n 2, 1) := by decide +kernel
theorem dX10_takeFour_4 : decode cX10_takeFour 4 = .ok (.ifCond .lt 45, 3) := by decide +kernel
theorem dX10_takeFour_7 : decode cX10_takeFour 7 = .ok (.aload_n 0, 1) := by decide +kernel
theorem dX10_takeFour_8 : decode cX10_takeFour 8 = .ok (.getfield 69, 3) := by decide +kernel
theorem dX10_takeFour_11 : decode cX10_takeFour 11 = .ok (.sipush 1200, 3) := by decide +kernel
theorem dX10_takeFour_14 : decode cX10_takeFour 14 = .ok (.if_icmp .ge 35, 3) := by decide +kernel
theorem dX10_takeFour_17 : decode cX10_takeFour 17 = .ok (.aload_n 0, 1) := by decide +kernel
theorem dX10_takeFour_18 : decode cX10_takeFour 18 = .ok (.getfield 9, 3) := by decide +kernel
theorem dX10_takeFour_21 : decode cX10_takeFour 21 = .ok (.aload_n 0, 1) := by decide +kernel
theorem dX10_takeFour_22 : decode cX10_takeFour 22 = .ok (.getfield 69, 3) := by decide +kernel
theorem dX10_takeFour_25 : decode cX10_takeFour 25 = .ok (.iload_n 1, 1) := by decide +kernel
theorem dX10_takeFour_26 : decode cX10_takeFour 26 = .ok (.iload_n 2, 1) := by decide +kernel
theorem dX10_takeFour_27 : decode cX10_takeFour 27 = .ok (.ishr, 1) := by decide +kernel
theorem dX10_takeFour_28 : decode cX10_takeFour 28 = .ok (.sipush 255, 3) := by decide +kernel
theorem dX10_takeFour_31 : decode cX10_takeFour 31 = .ok (.iand, 1) := by decide +kernel
theorem dX10_takeFour_32 : decode cX10_takeFour 32 = .ok (.iastore, 1) := by decide +kernel
theorem dX10_takeFour_33 : decode cX10_takeFour 33 = .ok (.aload_n 0, 1) := by decide +kernel
theorem dX10_takeFour_34 : decode cX10_takeFour 34 = .ok (.dup, 1) := by decide +kernel
theorem dX10_takeFour_35 : decode cX10_takeFour 35 = .ok (.getfield 69, 3) := by decide +kernel
theorem dX10_takeFour_38 : decode cX10_takeFour 38 = .ok (.iconst 1, 1) := by decide +kernel
theorem dX10_takeFour_39 : decode cX10_takeFour 39 = .ok (.iadd, 1) := by decide +kernel
theorem dX10_takeFour_40 : decode cX10_takeFour 40 = .ok (.putfield 69, 3) := by decide +kernel
theorem dX10_takeFour_43 : decode cX10_takeFour 43 = .ok (.iinc 2 (-8), 3) := by decide +kernel
theorem dX10_takeFour_46 : decode cX10_takeFour 46 = .ok (.goto (-43), 3) := by decide +kernel
theorem dX10_takeFour_49 : decode cX10_takeFour 49 = .ok (.return_, 1) := by decide +kernel
theorem dX10_forgetHands_0 : decode cX10_forgetHands 0 = .ok (.aload_n 0, 1) := by decide +kernel
theorem dX10_forgetHands_1 : decode cX10_forgetHands 1 = .ok (.getfield 58, 3) := by decide +kernel
theorem dX10_forgetHands_4 : decode cX10_forgetHands 4 = .ok (.invokevirtual 230, 3) := by decide +kernel
theorem dX10_forgetHands_7 : decode cX10_forgetHands 7 = .ok (.aload_n 0, 1) := by decide +kernel
theorem dX10_forgetHands_8 : decode cX10_forgetHands 8 = .ok (.getfield 65, 3) := by decide +kernel
theorem dX10_forgetHands_11 : decode cX10_forgetHands 11 = .ok (.iconst (-1), 1) := by decide +kernel
theorem dX10_forgetHands_12 : decode cX10_forgetHands 12 = .ok (.putfield 213, 3) := by decide +kernel
theorem dX10_forgetHands_15 : decode cX10_forgetHands 15 = .ok (.return_, 1) := by decide +kernel
theorem dX10_isBar_0 : decode cX10_isBar 0 = .ok (.iload_n 0, 1) := by decide +kernel
theorem dX10_isBar_1 : decode cX10_isBar 1 = .ok (.ifCond .lt 13, 3) := by decide +kernel
theorem dX10_isBar_4 : decode cX10_isBar 4 = .ok (.iload_n 0, 1) := by decide +kernel
theorem dX10_isBar_5 : decode cX10_isBar 5 = .ok (.bipush 8, 2) := by decide +kernel
theorem dX10_isBar_7 : decode cX10_isBar 7 = .ok (.if_icmp .ge 7, 3) := by decide +kernel
theorem dX10_isBar_10 : decode cX10_isBar 10 = .ok (.iconst 1, 1) := by decide +kernel
theorem dX10_isBar_11 : decode cX10_isBar 11 = .ok (.goto 4, 3) := by decide +kernel
theorem dX10_isBar_14 : decode cX10_isBar 14 = .ok (.iconst 0, 1) := by decide +kernel
theorem dX10_isBar_15 : decode cX10_isBar 15 = .ok (.ireturn, 1) := by decide +kernel
theorem dX11_init_0 : decode cX11_init 0 = .ok (.aload_n 0, 1) := by decide +kernel
theorem dX11_init_1 : decode cX11_init 1 = .ok (.invokespecial 1, 3) := by decide +kernel
theorem dX11_init_4 : decode cX11_init 4 = .ok (.aload_n 0, 1) := by decide +kernel
theorem dX11_init_5 : decode cX11_init 5 = .ok (.sipush 1200, 3) := by decide +kernel
theorem dX11_init_8 : decode cX11_init 8 = .ok (.newarray .int, 2) := by decide +kernel
theorem dX11_init_10 : decode cX11_init 10 = .ok (.putfield 7, 3) := by decide +kernel
theorem dX11_init_13 : decode cX11_init 13 = .ok (.aload_n 0, 1) := by decide +kernel
theorem dX11_init_14 : decode cX11_init 14 = .ok (.iconst (-1), 1) := by decide +kernel
theorem dX11_init_15 : decode cX11_init 15 = .ok (.putfield 13, 3) := by decide +kernel
theorem dX11_init_18 : decode cX11_init 18 = .ok (.aload_n 0, 1) := by decide +kernel
theorem dX11_init_19 : decode cX11_init 19 = .ok (.iconst (-1), 1) := by decide +kernel
theorem dX11_init_20 : decode cX11_init 20 = .ok (.putfield 17, 3) := by decide +kernel
theorem dX11_init_23 : decode cX11_init 23 = .ok (.aload_n 0, 1) := by decide +kernel
theorem dX11_init_24 : decode cX11_init 24 = .ok (.bipush 61, 2) := by decide +kernel
theorem dX11_init_26 : decode cX11_init 26 = .ok (.newarray .int, 2) := by decide +kernel
theorem dX11_init_28 : decode cX11_init 28 = .ok (.putfield 20, 3) := by decide +kernel
theorem dX11_init_31 : decode cX11_init 31 = .ok (.aload_n 0, 1) := by decide +kernel
theorem dX11_init_32 : decode cX11_init 32 = .ok (.bipush 61, 2) := by decide +kernel
theorem dX11_init_34 : decode cX11_init 34 = .ok (.newarray .int, 2) := by decide +kernel
theorem dX11_init_36 : decode cX11_init 36 = .ok (.putfield 23, 3) := by decide +kernel
theorem dX11_init_39 : decode cX11_init 39 = .ok (.aload_n 0, 1) := by decide +kernel
theorem dX11_init_40 : decode cX11_init 40 = .ok (.bipush 61, 2) := by decide +kernel
theorem dX11_init_42 : decode cX11_init 42 = .ok (.newarray .int, 2) := by decide +kernel
theorem dX11_init_44 : decode cX11_init 44 = .ok (.putfield 26, 3) := by decide +kernel
theorem dX11_init_47 : decode cX11_init 47 = .ok (.aload_n 0, 1) := by decide +kernel
theorem dX11_init_48 : decode cX11_init 48 = .ok (.bipush 61, 2) := by decide +kernel
theorem dX11_init_50 : decode cX11_init 50 = .ok (.newarray .int, 2) := by decide +kernel
theorem dX11_init_52 : decode cX11_init 52 = .ok (.putfield 29, 3) := by decide +kernel
theorem dX11_init_55 : decode cX11_init 55 = .ok (.aload_n 0, 1) := by decide +kernel
theorem dX11_init_56 : decode cX11_init 56 = .ok (.bipush 61, 2) := by decide +kernel
theorem dX11_init_58 : decode cX11_init 58 = .ok (.newarray .int, 2) := by decide +kernel
theorem dX11_init_60 : decode cX11_init 60 = .ok (.putfield 32, 3) := by decide +kernel
theorem dX11_init_63 : decode cX11_init 63 = .ok (.aload_n 0, 1) := by decide +kernel
theorem dX11_init_64 : decode cX11_init 64 = .ok (.bipush 61, 2) := by decide +kernel
theorem dX11_init_66 : decode cX11_init 66 = .ok (.newarray .int, 2) := by decide +kernel
theorem dX11_init_68 : decode cX11_init 68 = .ok (.putfield 35, 3) := by decide +kernel
theorem dX11_init_71 : decode cX11_init 71 = .ok (.aload_n 0, 1) := by decide +kernel
theorem dX11_init_72 : decode cX11_init 72 = .ok (.bipush 61, 2) := by decide +kernel
theorem dX11_init_74 : decode cX11_init 74 = .ok (.newarray .int, 2) := by decide +kernel
theorem dX11_init_76 : decode cX11_init 76 = .ok (.putfield 38, 3) := by decide +kernel
theorem dX11_init_79 : decode cX11_init 79 = .ok (.aload_n 0, 1) := by decide +kernel
theorem dX11_init_80 : decode cX11_init 80 = .ok (.bipush 61, 2) := by decide +kernel
theorem dX11_init_82 : decode cX11_init 82 = .ok (.newarray .int, 2) := by decide +kernel
theorem dX11_init_84 : decode cX11_init 84 = .ok (.putfield 41, 3) := by decide +kernel
theorem dX11_init_87 : decode cX11_init 87 = .ok (.aload_n 0, 1) := by decide +kernel
theorem dX11_init_88 : decode cX11_init 88 = .ok (.sipush 1200, 3) := by decide +kernel
theorem dX11_init_91 : decode cX11_init 91 = .ok (.newarray .int, 2) := by decide +kernel
theorem dX11_init_93 : decode cX11_init 93 = .ok (.putfield 44, 3) := by decide +kernel
theorem dX11_init_96 : decode cX11_init 96 = .ok (.aload_n 0, 1) := by decide +kernel
theorem dX11_init_97 : decode cX11_init 97 = .ok (.sipush 1200, 3) := by decide +kernel
theorem dX11_init_100 : decode cX11_init 100 = .ok (.newarray .int, 2) := by decide +kernel
theorem dX11_init_102 : decode cX11_init 102 = .ok (.putfield 47, 3) := by decide +kernel
theorem dX11_init_105 : decode cX11_init 105 = .ok (.aload_n 0, 1) := by decide +kernel
theorem dX11_init_106 : decode cX11_init 106 = .ok (.bipush 6, 2) := by decide +kernel
theorem dX11_init_108 : decode cX11_init 108 = .ok (.newarray .int, 2) := by decide +kernel
theorem dX11_init_110 : decode cX11_init 110 = .ok (.putfield 50, 3) := by decide +kernel
theorem dX11_init_113 : decode cX11_init 113 = .ok (.aload_n 0, 1) := by decide +kernel
theorem dX11_init_114 : decode cX11_init 114 = .ok (.bipush 60, 2) := by decide +kernel
theorem dX11_init_116 : decode cX11_init 116 = .ok (.newarray .int, 2) := by decide +kernel
theorem dX11_init_118 : decode cX11_init 118 = .ok (.putfield 53, 3) := by decide +kernel
theorem dX11_init_121 : decode cX11_init 121 = .ok (.aload_n 0, 1) := by decide +kernel
theorem dX11_init_122 : decode cX11_init 122 = .ok (.sipush 4000, 3) := by decide +kernel
theorem dX11_init_125 : decode cX11_init 125 = .ok (.newarray .int, 2) := by decide +kernel
theorem dX11_init_127 : decode cX11_init 127 = .ok (.putfield 56, 3) := by decide +kernel
theorem dX11_init_130 : decode cX11_init 130 = .ok (.aload_n 0, 1) := by decide +kernel
theorem dX11_init_131 : decode cX11_init 131 = .ok (.bipush 16, 2) := by decide +kernel
theorem dX11_init_133 : decode cX11_init 133 = .ok (.newarray .int, 2) := by decide +kernel
theorem dX11_init_135 : decode cX11_init 135 = .ok (.putfield 59, 3) := by decide +kernel
theorem dX11_init_138 : decode cX11_init 138 = .ok (.aload_n 0, 1) := by decide +kernel
theorem dX11_init_139 : decode cX11_init 139 = .ok (.sipush 4000, 3) := by decide +kernel
theorem dX11_init_142 : decode cX11_init 142 = .ok (.newarray .int, 2) := by decide +kernel
theorem dX11_init_144 : decode cX11_init 144 = .ok (.putfield 62, 3) := by decide +kernel
theorem dX11_init_147 : decode cX11_init 147 = .ok (.aload_n 0, 1) := by decide +kernel
theorem dX11_init_148 : decode cX11_init 148 = .ok (.sipush 4000, 3) := by decide +kernel
theorem dX11_init_151 : decode cX11_init 151 = .ok (.newarray .int, 2) := by decide +kernel
theorem dX11_init_153 : decode cX11_init 153 = .ok (.putfield 65, 3) := by decide +kernel
theorem dX11_init_156 : decode cX11_init 156 = .ok (.aload_n 0, 1) := by decide +kernel
theorem dX11_init_157 : decode cX11_init 157 = .ok (.sipush 480, 3) := by decide +kernel
theorem dX11_init_160 : decode cX11_init 160 = .ok (.newarray .int, 2) := by decide +kernel
theorem dX11_init_162 : decode cX11_init 162 = .ok (.putfield 68, 3) := by decide +kernel
theorem dX11_init_165 : decode cX11_init 165 = .ok (.aload_n 0, 1) := by decide +kernel
theorem dX11_init_166 : decode cX11_init 166 = .ok (.sipush 17280, 3) := by decide +kernel
theorem dX11_init_169 : decode cX11_init 169 = .ok (.newarray .int, 2) := by decide +kernel
theorem dX11_init_171 : decode cX11_init 171 = .ok (.putfield 71, 3) := by decide +kernel
theorem dX11_init_174 : decode cX11_init 174 = .ok (.aload_n 0, 1) := by decide +kernel
theorem dX11_init_175 : decode cX11_init 175 = .ok (.sipush 2880, 3) := by decide +kernel
theorem dX11_init_178 : decode cX11_init 178 = .ok (.newarray .int, 2) := by decide +kernel
theorem dX11_init_180 : decode cX11_init 180 = .ok (.putfield 74, 3) := by decide +kernel
theorem dX11_init_183 : decode cX11_init 183 = .ok (.aload_n 0, 1) := by decide +kernel
theorem dX11_init_184 : decode cX11_init 184 = .ok (.bipush 6, 2) := by decide +kernel
theorem dX11_init_186 : decode cX11_init 186 = .ok (.newarray .int, 2) := by decide +kernel
theorem dX11_init_188 : decode cX11_init 188 = .ok (.putfield 77, 3) := by decide +kernel
theorem dX11_init_191 : decode cX11_init 191 = .ok (.aload_n 0, 1) := by decide +kernel
theorem dX11_init_192 : decode cX11_init 192 = .ok (.bipush 7, 2) := by decide +kernel
theorem dX11_init_194 : decode cX11_init 194 = .ok (.newarray .int, 2) := by decide +kernel
theorem dX11_init_196 : decode cX11_init 196 = .ok (.putfield 80, 3) := by decide +kernel
theorem dX11_init_199 : decode cX11_init 199 = .ok (.aload_n 0, 1) := by decide +kernel
theorem dX11_init_200 : decode cX11_init 200 = .ok (.bipush 7, 2) := by decide +kernel
theorem dX11_init_202 : decode cX11_init 202 = .ok (.newarray .int, 2) := by decide +kernel
theorem dX11_init_204 : decode cX11_init 204 = .ok (.putfield 83, 3) := by decide +kernel
theorem dX11_init_207 : decode cX11_init 207 = .ok (.aload_n 0, 1) := by decide +kernel
theorem dX11_init_208 : decode cX11_init 208 = .ok (.sipush 360, 3) := by decide +kernel
theorem dX11_init_211 : decode cX11_init 211 = .ok (.newarray .int, 2) := by decide +kernel
theorem dX11_init_213 : decode cX11_init 213 = .ok (.putfield 86, 3) := by decide +kernel
theorem dX11_init_216 : decode cX11_init 216 = .ok (.return_, 1) := by decide +kernel
theorem dX11_thrown_0 : decode cX11_thrown 0 = .ok (.aload_n 0, 1) := by decide +kernel
theorem dX11_thrown_1 : decode cX11_thrown 1 = .ok (.getfield 89, 3) := by decide +kernel
theorem dX11_thrown_4 : decode cX11_thrown 4 = .ok (.ireturn, 1) := by decide +kernel
theorem dX11_right_0 : decode cX11_right 0 = .ok (.aload_n 0, 1) := by decide +kernel
theorem dX11_right_1 : decode cX11_right 1 = .ok (.getfield 89, 3) := by decide +kernel
theorem dX11_right_4 : decode cX11_right 4 = .ok (.ifCond .ne 12, 3) := by decide +kernel
theorem dX11_right_7 : decode cX11_right 7 = .ok (.iload_n 1, 1) := by decide +kernel
theorem dX11_right_8 : decode cX11_right 8 = .ok (.ifCond .ne 8, 3) := by decide +kernel
theorem dX11_right_11 : decode cX11_right 11 = .ok (.aload_n 0, 1) := by decide +kernel
theorem dX11_right_12 : decode cX11_right 12 = .ok (.iload_n 2, 1) := by decide +kernel
theorem dX11_right_13 : decode cX11_right 13 = .ok (.putfield 89, 3) := by decide +kernel
theorem dX11_right_16 : decode cX11_right 16 = .ok (.aload_n 0, 1) := by decide +kernel
theorem dX11_right_17 : decode cX11_right 17 = .ok (.getfield 89, 3) := by decide +kernel
theorem dX11_right_20 : decode cX11_right 20 = .ok (.ifCond .ne 7, 3) := by decide +kernel
theorem dX11_right_23 : decode cX11_right 23 = .ok (.iconst 1, 1) := by decide +kernel
theorem dX11_right_24 : decode cX11_right 24 = .ok (.goto 4, 3) := by decide +kernel
theorem dX11_right_27 : decode cX11_right 27 = .ok (.iconst 0, 1) := by decide +kernel
theorem dX11_right_28 : decode cX11_right 28 = .ok (.ireturn, 1) := by decide +kernel
theorem dX11_feed_0 : decode cX11_feed 0 = .ok (.aload_n 0, 1) := by decide +kernel
theorem dX11_feed_1 : decode cX11_feed 1 = .ok (.iconst 0, 1) := by decide +kernel
theorem dX11_feed_2 : decode cX11_feed 2 = .ok (.putfield 89, 3) := by decide +kernel
theorem dX11_feed_5 : decode cX11_feed 5 = .ok (.aload_n 0, 1) := by decide +kernel
theorem dX11_feed_6 : decode cX11_feed 6 = .ok (.getfield 92, 3) := by decide +kernel
theorem dX11_feed_9 : decode cX11_feed 9 = .ok (.bipush 20, 2) := by decide +kernel
theorem dX11_feed_11 : decode cX11_feed 11 = .ok (.iadd, 1) := by decide +kernel
theorem dX11_feed_12 : decode cX11_feed 12 = .ok (.sipush 1200, 3) := by decide +kernel
theorem dX11_feed_15 : decode cX11_feed 15 = .ok (.if_icmp .le 5, 3) := by decide +kernel
theorem dX11_feed_18 : decode cX11_feed 18 = .ok (.iconst (-1), 1) := by decide +kernel
theorem dX11_feed_19 : decode cX11_feed 19 = .ok (.ireturn, 1) := by decide +kernel
theorem dX11_feed_20 : decode cX11_feed 20 = .ok (.aload_n 0, 1) := by decide +kernel
theorem dX11_feed_21 : decode cX11_feed 21 = .ok (.iload_n 1, 1) := by decide +kernel
theorem dX11_feed_22 : decode cX11_feed 22 = .ok (.invokevirtual 95, 3) := by decide +kernel
theorem dX11_feed_25 : decode cX11_feed 25 = .ok (.aload_n 0, 1) := by decide +kernel
theorem dX11_feed_26 : decode cX11_feed 26 = .ok (.iload_n 2, 1) := by decide +kernel
theorem dX11_feed_27 : decode cX11_feed 27 = .ok (.invokevirtual 95, 3) := by decide +kernel
theorem dX11_feed_30 : decode cX11_feed 30 = .ok (.aload_n 0, 1) := by decide +kernel
theorem dX11_feed_31 : decode cX11_feed 31 = .ok (.iload_n 3, 1) := by decide +kernel
theorem dX11_feed_32 : decode cX11_feed 32 = .ok (.invokevirtual 95, 3) := by decide +kernel
theorem dX11_feed_35 : decode cX11_feed 35 = .ok (.aload_n 0, 1) := by decide +kernel
theorem dX11_feed_36 : decode cX11_feed 36 = .ok (.iload 4, 2) := by decide +kernel
theorem dX11_feed_38 : decode cX11_feed 38 = .ok (.invokevirtual 95, 3) := by decide +kernel
theorem dX11_feed_41 : decode cX11_feed 41 = .ok (.aload_n 0, 1) := by decide +kernel
theorem dX11_feed_42 : decode cX11_feed 42 = .ok (.iload 5, 2) := by decide +kernel
theorem dX11_feed_44 : decode cX11_feed 44 = .ok (.invokevirtual 95, 3) := by decide +kernel
theorem dX11_feed_47 : decode cX11_feed 47 = .ok (.aload_n 0, 1) := by decide +kernel
theorem dX11_feed_48 : decode cX11_feed 48 = .ok (.getfield 92, 3) := by decide +kernel
theorem dX11_feed_51 : decode cX11_feed 51 = .ok (.ireturn, 1) := by decide +kernel
theorem dX11_lays_0 : decode cX11_lays 0 = .ok (.bipush 24, 2) := by decide +kernel
theorem dX11_lays_2 : decode cX11_lays 2 = .ok (.istore_n 2, 1) := by decide +kernel
theorem dX11_lays_3 : decode cX11_lays 3 = .ok (.iload_n 2, 1) := by decide +kernel
theorem dX11_lays_4 : decode cX11_lays 4 = .ok (.ifCond .lt 35, 3) := by decide +kernel
theorem dX11_lays_7 : decode cX11_lays 7 = .ok (.aload_n 0, 1) := by decide +kernel
theorem dX11_lays_8 : decode cX11_lays 8 = .ok (.getfield 7, 3) := by decide +kernel
theorem dX11_lays_11 : decode cX11_lays 11 = .ok (.aload_n 0, 1) := by decide +kernel
theorem dX11_lays_12 : decode cX11_lays 12 = .ok (.getfield 92, 3) := by decide +kernel
theorem dX11_lays_15 : decode cX11_lays 15 = .ok (.iload_n 1, 1) := by decide +kernel
theorem dX11_lays_16 : decode cX11_lays 16 = .ok (.iload_n 2, 1) := by decide +kernel
theorem dX11_lays_17 : decode cX11_lays 17 = .ok (.ishr, 1) := by decide +kernel
theorem dX11_lays_18 : decode cX11_lays 18 = .ok (.sipush 255, 3) := by decide +kernel
theorem dX11_lays_21 : decode cX11_lays 21 = .ok (.iand, 1) := by decide +kernel
theorem dX11_lays_22 : decode cX11_lays 22 = .ok (.iastore, 1) := by decide +kernel
theorem dX11_lays_23 : decode cX11_lays 23 = .ok (.aload_n 0, 1) := by decide +kernel
theorem dX11_lays_24 : decode cX11_lays 24 = .ok (.dup, 1) := by decide +kernel
theorem dX11_lays_25 : decode cX11_lays 25 = .ok (.getfield 92, 3) := by decide +kernel
theorem dX11_lays_28 : decode cX11_lays 28 = .ok (.iconst 1, 1) := by decide +kernel
theorem dX11_lays_29 : decode cX11_lays 29 = .ok (.iadd, 1) := by decide +kernel
theorem dX11_lays_30 : decode cX11_lays 30 = .ok (.putfield 92, 3) := by decide +kernel
theorem dX11_lays_33 : decode cX11_lays 33 = .ok (.iinc 2 (-8), 3) := by decide +kernel
theorem dX11_lays_36 : decode cX11_lays 36 = .ok (.goto (-33), 3) := by decide +kernel
theorem dX11_lays_39 : decode cX11_lays 39 = .ok (.return_, 1) := by decide +kernel
theorem dX11_tone_0 : decode cX11_tone 0 = .ok (.bipush 7, 2) := by decide +kernel
theorem dX11_tone_2 : decode cX11_tone 2 = .ok (.iload_n 0, 1) := by decide +kernel
theorem dX11_tone_3 : decode cX11_tone 3 = .ok (.imul, 1) := by decide +kernel
theorem dX11_tone_4 : decode cX11_tone 4 = .ok (.bipush 12, 2) := by decide +kernel
theorem dX11_tone_6 : decode cX11_tone 6 = .ok (.irem, 1) := by decide +kernel
theorem dX11_tone_7 : decode cX11_tone 7 = .ok (.bipush 12, 2) := by decide +kernel
theorem dX11_tone_9 : decode cX11_tone 9 = .ok (.iadd, 1) := by decide +kernel
theorem dX11_tone_10 : decode cX11_tone 10 = .ok (.bipush 12, 2) := by decide +kernel
theorem dX11_tone_12 : decode cX11_tone 12 = .ok (.irem, 1) := by decide +kernel
theorem dX11_tone_13 : decode cX11_tone 13 = .ok (.ireturn, 1) := by decide +kernel
theorem dX11_kindOf_0 : decode cX11_kindOf 0 = .ok (.iload_n 0, 1) := by decide +kernel
theorem dX11_kindOf_1 : decode cX11_kindOf 1 = .ok (.tableswitch 106 0 12 #[67, 70, 73, 76, 79, 82, 85, 88, 91, 94, 97, 100, 103], 67) := by decide +kernel
theorem dX11_kindOf_68 : decode cX11_kindOf 68 = .ok (.ldc 99, 2) := by decide +kernel
theorem dX11_kindOf_70 : decode cX11_kindOf 70 = .ok (.areturn, 1) := by decide +kernel
theorem dX11_kindOf_71 : decode cX11_kindOf 71 = .ok (.ldc 101, 2) := by decide +kernel
theorem dX11_kindOf_73 : decode cX11_kindOf 73 = .ok (.areturn, 1) := by decide +kernel
theorem dX11_kindOf_74 : decode cX11_kindOf 74 = .ok (.ldc 103, 2) := by decide +kernel
theorem dX11_kindOf_76 : decode cX11_kindOf 76 = .ok (.areturn, 1) := by decide +kernel
theorem dX11_kindOf_77 : decode cX11_kindOf 77 = .ok (.ldc 105, 2) := by decide +kernel
theorem dX11_kindOf_79 : decode cX11_kindOf 79 = .ok (.areturn, 1) := by decide +kernel
theorem dX11_kindOf_80 : decode cX11_kindOf 80 = .ok (.ldc 107, 2) := by decide +kernel
theorem dX11_kindOf_82 : decode cX11_kindOf 82 = .ok (.areturn, 1) := by decide +kernel
theorem dX11_kindOf_83 : decode cX11_kindOf 83 = .ok (.ldc 109, 2) := by decide +kernel
theorem dX11_kindOf_85 : decode cX11_kindOf 85 = .ok (.areturn, 1) := by decide +kernel
theorem dX11_kindOf_86 : decode cX11_kindOf 86 = .ok (.ldc 111, 2) := by decide +kernel
theorem dX11_kindOf_88 : decode cX11_kindOf 88 = .ok (.areturn, 1) := by decide +kernel
theorem dX11_kindOf_89 : decode cX11_kindOf 89 = .ok (.ldc 113, 2) := by decide +kernel
theorem dX11_kindOf_91 : decode cX11_kindOf 91 = .ok (.areturn, 1) := by decide +kernel
theorem dX11_kindOf_92 : decode cX11_kindOf 92 = .ok (.ldc 115, 2) := by decide +kernel
theorem dX11_kindOf_94 : decode cX11_kindOf 94 = .ok (.areturn, 1) := by decide +kernel
theorem dX11_kindOf_95 : decode cX11_kindOf 95 = .ok (.ldc 117, 2) := by decide +kernel
theorem dX11_kindOf_97 : decode cX11_kindOf 97 = .ok (.areturn, 1) := by decide +kernel
theorem dX11_kindOf_98 : decode cX11_kindOf 98 = .ok (.ldc 119, 2) := by decide +kernel
theorem dX11_kindOf_100 : decode cX11_kindOf 100 = .ok (.areturn, 1) := by decide +kernel
theorem dX11_kindOf_101 : decode cX11_kindOf 101 = .ok (.ldc 121, 2) := by decide +kernel
theorem dX11_kindOf_103 : decode cX11_kindOf 103 = .ok (.areturn, 1) := by decide +kernel
theorem dX11_kindOf_104 : decode cX11_kindOf 104 = .ok (.ldc 123, 2) := by decide +kernel
theorem dX11_kindOf_106 : decode cX11_kindOf 106 = .ok (.areturn, 1) := by decide +kernel
theorem dX11_kindOf_107 : decode cX11_kindOf 107 = .ok (.ldc 125, 2) := by decide +kernel
theorem dX11_kindOf_109 : decode cX11_kindOf 109 = .ok (.areturn, 1) := by decide +kernel
theorem dX11_tonesOf_0 : decode cX11_tonesOf 0 = .ok (.iload_n 0, 1) := by decide +kernel
theorem dX11_tonesOf_1 : decode cX11_tonesOf 1 = .ok (.tableswitch 118 0 12 #[67, 71, 75, 79, 83, 87, 90, 94, 98, 102, 106, 110, 114], 67) := by decide +kernel
theorem dX11_tonesOf_68 : decode cX11_tonesOf 68 = .ok (.sipush 145, 3) := by decide +kernel
theorem dX11_tonesOf_71 : decode cX11_tonesOf 71 = .ok (.ireturn, 1) := by decide +kernel
theorem dX11_tonesOf_72 : decode cX11_tonesOf 72 = .ok (.sipush 137, 3) := by decide +kernel
theorem dX11_tonesOf_75 : decode cX11_tonesOf 75 = .ok (.ireturn, 1) := by decide +kernel
theorem dX11_tonesOf_76 : decode cX11_tonesOf 76 = .ok (.sipush 1169, 3) := by decide +kernel
theorem dX11_tonesOf_79 : decode cX11_tonesOf 79 = .ok (.ireturn, 1) := by decide +kernel
theorem dX11_tonesOf_80 : decode cX11_tonesOf 80 = .ok (.sipush 1161, 3) := by decide +kernel
theorem dX11_tonesOf_83 : decode cX11_tonesOf 83 = .ok (.ireturn, 1) := by decide +kernel
theorem dX11_tonesOf_84 : decode cX11_tonesOf 84 = .ok (.sipush 2193, 3) := by decide +kernel
theorem dX11_tonesOf_87 : decode cX11_tonesOf 87 = .ok (.ireturn, 1) := by decide +kernel
theorem dX11_tonesOf_88 : decode cX11_tonesOf 88 = .ok (.bipush 73, 2) := by decide +kernel
theorem dX11_tonesOf_90 : decode cX11_tonesOf 90 = .ok (.ireturn, 1) := by decide +kernel
theorem dX11_tonesOf_91 : decode cX11_tonesOf 91 = .ok (.sipush 273, 3) := by decide +kernel
theorem dX11_tonesOf_94 : decode cX11_tonesOf 94 = .ok (.ireturn, 1) := by decide +kernel
theorem dX11_tonesOf_95 : decode cX11_tonesOf 95 = .ok (.sipush 161, 3) := by decide +kernel
theorem dX11_tonesOf_98 : decode cX11_tonesOf 98 = .ok (.ireturn, 1) := by decide +kernel
theorem dX11_tonesOf_99 : decode cX11_tonesOf 99 = .ok (.sipush 133, 3) := by decide +kernel
theorem dX11_tonesOf_102 : decode cX11_tonesOf 102 = .ok (.ireturn, 1) := by decide +kernel
theorem dX11_tonesOf_103 : decode cX11_tonesOf 103 = .ok (.sipush 657, 3) := by decide +kernel
theorem dX11_tonesOf_106 : decode cX11_tonesOf 106 = .ok (.ireturn, 1) := by decide +kernel
theorem dX11_tonesOf_107 : decode cX11_tonesOf 107 = .ok (.sipush 649, 3) := by decide +kernel
theorem dX11_tonesOf_110 : decode cX11_tonesOf 110 = .ok (.ireturn, 1) := by decide +kernel
theorem dX11_tonesOf_111 : decode cX11_tonesOf 111 = .ok (.sipush 585, 3) := by decide +kernel
theorem dX11_tonesOf_114 : decode cX11_tonesOf 114 = .ok (.ireturn, 1) := by decide +kernel
theorem dX11_tonesOf_115 : decode cX11_tonesOf 115 = .ok (.sipush 1173, 3) := by decide +kernel
theorem dX11_tonesOf_118 : decode cX11_tonesOf 118 = .ok (.ireturn, 1) := by decide +kernel
theorem dX11_tonesOf_119 : decode cX11_tonesOf 119 = .ok (.sipush 149, 3) := by decide +kernel
theorem dX11_tonesOf_122 : decode cX11_tonesOf 122 = .ok (.ireturn, 1) := by decide +kernel
theorem dX11_tones_0 : decode cX11_tones 0 = .ok (.iconst 1, 1) := by decide +kernel
theorem dX11_tones_1 : decode cX11_tones 1 = .ok (.aload_n 0, 1) := by decide +kernel
theorem dX11_tones_2 : decode cX11_tones 2 = .ok (.getfield 26, 3) := by decide +kernel
theorem dX11_tones_5 : decode cX11_tones 5 = .ok (.iload_n 1, 1) := by decide +kernel
theorem dX11_tones_6 : decode cX11_tones 6 = .ok (.iaload, 1) := by decide +kernel
theorem dX11_tones_7 : decode cX11_tones 7 = .ok (.invokestatic 127, 3) := by decide +kernel
theorem dX11_tones_10 : decode cX11_tones 10 = .ok (.ishl, 1) := by decide +kernel
theorem dX11_tones_11 : decode cX11_tones 11 = .ok (.istore_n 2, 1) := by decide +kernel
theorem dX11_tones_12 : decode cX11_tones 12 = .ok (.iconst 0, 1) := by decide +kernel
theorem dX11_tones_13 : decode cX11_tones 13 = .ok (.istore_n 3, 1) := by decide +kernel
theorem dX11_tones_14 : decode cX11_tones 14 = .ok (.iload_n 3, 1) := by decide +kernel
theorem dX11_tones_15 : decode cX11_tones 15 = .ok (.bipush 12, 2) := by decide +kernel
theorem dX11_tones_17 : decode cX11_tones 17 = .ok (.if_icmp .ge 45, 3) := by decide +kernel
theorem dX11_tones_20 : decode cX11_tones 20 = .ok (.aload_n 0, 1) := by decide +kernel
theorem dX11_tones_21 : decode cX11_tones 21 = .ok (.getfield 23, 3) := by decide +kernel
theorem dX11_tones_24 : decode cX11_tones 24 = .ok (.iload_n 1, 1) := by decide +kernel
theorem dX11_tones_25 : decode cX11_tones 25 = .ok (.iaload, 1) := by decide +kernel
theorem dX11_tones_26 : decode cX11_tones 26 = .ok (.invokestatic 131, 3) := by decide +kernel
theorem dX11_tones_29 : decode cX11_tones 29 = .ok (.iload_n 3, 1) := by decide +kernel
theorem dX11_tones_30 : decode cX11_tones 30 = .ok (.ishr, 1) := by decide +kernel
theorem dX11_tones_31 : decode cX11_tones 31 = .ok (.iconst 1, 1) := by decide +kernel
theorem dX11_tones_32 : decode cX11_tones 32 = .ok (.iand, 1) := by decide +kernel
theorem dX11_tones_33 : decode cX11_tones 33 = .ok (.iconst 1, 1) := by decide +kernel
theorem dX11_tones_34 : decode cX11_tones 34 = .ok (.if_icmp .ne 22, 3) := by decide +kernel
theorem dX11_tones_37 : decode cX11_tones 37 = .ok (.iload_n 2, 1) := by decide +kernel
theorem dX11_tones_38 : decode cX11_tones 38 = .ok (.iconst 1, 1) := by decide +kernel
theorem dX11_tones_39 : decode cX11_tones 39 = .ok (.aload_n 0, 1) := by decide +kernel
theorem dX11_tones_40 : decode cX11_tones 40 = .ok (.getfield 20, 3) := by decide +kernel
theorem dX11_tones_43 : decode cX11_tones 43 = .ok (.iload_n 1, 1) := by decide +kernel
theorem dX11_tones_44 : decode cX11_tones 44 = .ok (.iaload, 1) := by decide +kernel
theorem dX11_tones_45 : decode cX11_tones 45 = .ok (.invokestatic 127, 3) := by decide +kernel
theorem dX11_tones_48 : decode cX11_tones 48 = .ok (.iload_n 3, 1) := by decide +kernel
theorem dX11_tones_49 : decode cX11_tones 49 = .ok (.iadd, 1) := by decide +kernel
theorem dX11_tones_50 : decode cX11_tones 50 = .ok (.bipush 12, 2) := by decide +kernel
theorem dX11_tones_52 : decode cX11_tones 52 = .ok (.irem, 1) := by decide +kernel
theorem dX11_tones_53 : decode cX11_tones 53 = .ok (.ishl, 1) := by decide +kernel
theorem dX11_tones_54 : decode cX11_tones 54 = .ok (.ior, 1) := by decide +kernel
theorem dX11_tones_55 : decode cX11_tones 55 = .ok (.istore_n 2, 1) := by decide +kernel
theorem dX11_tones_56 : decode cX11_tones 56 = .ok (.iinc 3 1, 3) := by decide +kernel
theorem dX11_tones_59 : decode cX11_tones 59 = .ok (.goto (-45), 3) := by decide +kernel
theorem dX11_tones_62 : decode cX11_tones 62 = .ok (.iload_n 2, 1) := by decide +kernel
theorem dX11_tones_63 : decode cX11_tones 63 = .ok (.ireturn, 1) := by decide +kernel
theorem dX11_many_0 : decode cX11_many 0 = .ok (.iconst 0, 1) := by decide +kernel
theorem dX11_many_1 : decode cX11_many 1 = .ok (.istore_n 1, 1) := by decide +kernel
theorem dX11_many_2 : decode cX11_many 2 = .ok (.iconst 0, 1) := by decide +kernel
theorem dX11_many_3 : decode cX11_many 3 = .ok (.istore_n 2, 1) := by decide +kernel
theorem dX11_many_4 : decode cX11_many 4 = .ok (.iload_n 2, 1) := by decide +kernel
theorem dX11_many_5 : decode cX11_many 5 = .ok (.bipush 12, 2) := by decide +kernel
theorem dX11_many_7 : decode cX11_many 7 = .ok (.if_icmp .ge 17, 3) := by decide +kernel
theorem dX11_many_10 : decode cX11_many 10 = .ok (.iload_n 1, 1) := by decide +kernel
theorem dX11_many_11 : decode cX11_many 11 = .ok (.iload_n 0, 1) := by decide +kernel
theorem dX11_many_12 : decode cX11_many 12 = .ok (.iload_n 2, 1) := by decide +kernel
theorem dX11_many_13 : decode cX11_many 13 = .ok (.ishr, 1) := by decide +kernel
theorem dX11_many_14 : decode cX11_many 14 = .ok (.iconst 1, 1) := by decide +kernel
theorem dX11_many_15 : decode cX11_many 15 = .ok (.iand, 1) := by decide +kernel
theorem dX11_many_16 : decode cX11_many 16 = .ok (.iadd, 1) := by decide +kernel
theorem dX11_many_17 : decode cX11_many 17 = .ok (.istore_n 1, 1) := by decide +kernel
theorem dX11_many_18 : decode cX11_many 18 = .ok (.iinc 2 1, 3) := by decide +kernel
theorem dX11_many_21 : decode cX11_many 21 = .ok (.goto (-17), 3) := by decide +kernel
theorem dX11_many_24 : decode cX11_many 24 = .ok (.iload_n 1, 1) := by decide +kernel
theorem dX11_many_25 : decode cX11_many 25 = .ok (.ireturn, 1) := by decide +kernel
theorem dX11_byteAt_0 : decode cX11_byteAt 0 = .ok (.iload_n 1, 1) := by decide +kernel
theorem dX11_byteAt_1 : decode cX11_byteAt 1 = .ok (.aload_n 0, 1) := by decide +kernel
theorem dX11_byteAt_2 : decode cX11_byteAt 2 = .ok (.getfield 134, 3) := by decide +kernel
theorem dX11_byteAt_5 : decode cX11_byteAt 5 = .ok (.if_icmp .ge 12, 3) := by decide +kernel
theorem dX11_byteAt_8 : decode cX11_byteAt 8 = .ok (.aload_n 0, 1) := by decide +kernel
theorem dX11_byteAt_9 : decode cX11_byteAt 9 = .ok (.getfield 7, 3) := by decide +kernel
theorem dX11_byteAt_12 : decode cX11_byteAt 12 = .ok (.iload_n 1, 1) := by decide +kernel
theorem dX11_byteAt_13 : decode cX11_byteAt 13 = .ok (.iaload, 1) := by decide +kernel
theorem dX11_byteAt_14 : decode cX11_byteAt 14 = .ok (.goto 4, 3) := by decide +kernel
theorem dX11_byteAt_17 : decode cX11_byteAt 17 = .ok (.iconst 0, 1) := by decide +kernel
theorem dX11_byteAt_18 : decode cX11_byteAt 18 = .ok (.ireturn, 1) := by decide +kernel
theorem dX11_placeOf_0 : decode cX11_placeOf 0 = .ok (.iload_n 0, 1) := by decide +kernel
theorem dX11_placeOf_1 : decode cX11_placeOf 1 = .ok (.tableswitch 55 65 71 #[51, 55, 45, 49, 53, 43, 47], 43) := by decide +kernel
theorem dX11_placeOf_44 : decode cX11_placeOf 44 = .ok (.iconst (-1), 1) := by decide +kernel
theorem dX11_placeOf_45 : decode cX11_placeOf 45 = .ok (.ireturn, 1) := by decide +kernel
theorem dX11_placeOf_46 : decode cX11_placeOf 46 = .ok (.iconst 0, 1) := by decide +kernel
theorem dX11_placeOf_47 : decode cX11_placeOf 47 = .ok (.ireturn, 1) := by decide +kernel
theorem dX11_placeOf_48 : decode cX11_placeOf 48 = .ok (.iconst 1, 1) := by decide +kernel
theorem dX11_placeOf_49 : decode cX11_placeOf 49 = .ok (.ireturn, 1) := by decide +kernel
theorem dX11_placeOf_50 : decode cX11_placeOf 50 = .ok (.iconst 2, 1) := by decide +kernel
theorem dX11_placeOf_51 : decode cX11_placeOf 51 = .ok (.ireturn, 1) := by decide +kernel
theorem dX11_placeOf_52 : decode cX11_placeOf 52 = .ok (.iconst 3, 1) := by decide +kernel
theorem dX11_placeOf_53 : decode cX11_placeOf 53 = .ok (.ireturn, 1) := by decide +kernel
theorem dX11_placeOf_54 : decode cX11_placeOf 54 = .ok (.iconst 4, 1) := by decide +kernel
theorem dX11_placeOf_55 : decode cX11_placeOf 55 = .ok (.ireturn, 1) := by decide +kernel
theorem dX11_placeOf_56 : decode cX11_placeOf 56 = .ok (.iconst 5, 1) := by decide +kernel
theorem dX11_placeOf_57 : decode cX11_placeOf 57 = .ok (.ireturn, 1) := by decide +kernel
theorem dX11_wrong_0 : decode cX11_wrong 0 = .ok (.aload_n 0, 1) := by decide +kernel
theorem dX11_wrong_1 : decode cX11_wrong 1 = .ok (.iload_n 1, 1) := by decide +kernel
theorem dX11_wrong_2 : decode cX11_wrong 2 = .ok (.putfield 137, 3) := by decide +kernel
theorem dX11_wrong_5 : decode cX11_wrong 5 = .ok (.aload_n 0, 1) := by decide +kernel
theorem dX11_wrong_6 : decode cX11_wrong 6 = .ok (.iload_n 2, 1) := by decide +kernel
theorem dX11_wrong_7 : decode cX11_wrong 7 = .ok (.putfield 13, 3) := by decide +kernel
theorem dX11_wrong_10 : decode cX11_wrong 10 = .ok (.iconst 0, 1) := by decide +kernel
theorem dX11_wrong_11 : decode cX11_wrong 11 = .ok (.ireturn, 1) := by decide +kernel
theorem dX11_noted_0 : decode cX11_noted 0 = .ok (.aload_n 0, 1) := by decide +kernel
theorem dX11_noted_1 : decode cX11_noted 1 = .ok (.aload_n 0, 1) := by decide +kernel
theorem dX11_noted_2 : decode cX11_noted 2 = .ok (.getfield 140, 3) := by decide +kernel
theorem dX11_noted_5 : decode cX11_noted 5 = .ok (.invokevirtual 143, 3) := by decide +kernel
theorem dX11_noted_8 : decode cX11_noted 8 = .ok (.istore_n 1, 1) := by decide +kernel
theorem dX11_noted_9 : decode cX11_noted 9 = .ok (.iload_n 1, 1) := by decide +kernel
theorem dX11_noted_10 : decode cX11_noted 10 = .ok (.bipush 65, 2) := by decide +kernel
theorem dX11_noted_12 : decode cX11_noted 12 = .ok (.if_icmp .lt 9, 3) := by decide +kernel
theorem dX11_noted_15 : decode cX11_noted 15 = .ok (.iload_n 1, 1) := by decide +kernel
theorem dX11_noted_16 : decode cX11_noted 16 = .ok (.bipush 71, 2) := by decide +kernel
theorem dX11_noted_18 : decode cX11_noted 18 = .ok (.if_icmp .le 13, 3) := by decide +kernel
theorem dX11_noted_21 : decode cX11_noted 21 = .ok (.aload_n 0, 1) := by decide +kernel
theorem dX11_noted_22 : decode cX11_noted 22 = .ok (.iconst 1, 1) := by decide +kernel
theorem dX11_noted_23 : decode cX11_noted 23 = .ok (.aload_n 0, 1) := by decide +kernel
theorem dX11_noted_24 : decode cX11_noted 24 = .ok (.getfield 140, 3) := by decide +kernel
theorem dX11_noted_27 : decode cX11_noted 27 = .ok (.invokevirtual 146, 3) := by decide +kernel
theorem dX11_noted_30 : decode cX11_noted 30 = .ok (.ireturn, 1) := by decide +kernel
theorem dX11_noted_31 : decode cX11_noted 31 = .ok (.aload_n 0, 1) := by decide +kernel
theorem dX11_noted_32 : decode cX11_noted 32 = .ok (.iload_n 1, 1) := by decide +kernel
theorem dX11_noted_33 : decode cX11_noted 33 = .ok (.invokestatic 150, 3) := by decide +kernel
theorem dX11_noted_36 : decode cX11_noted 36 = .ok (.putfield 153, 3) := by decide +kernel
theorem dX11_noted_39 : decode cX11_noted 39 = .ok (.aload_n 0, 1) := by decide +kernel
theorem dX11_noted_40 : decode cX11_noted 40 = .ok (.dup, 1) := by decide +kernel
theorem dX11_noted_41 : decode cX11_noted 41 = .ok (.getfield 140, 3) := by decide +kernel
theorem dX11_noted_44 : decode cX11_noted 44 = .ok (.iconst 1, 1) := by decide +kernel
theorem dX11_noted_45 : decode cX11_noted 45 = .ok (.iadd, 1) := by decide +kernel
theorem dX11_noted_46 : decode cX11_noted 46 = .ok (.putfield 140, 3) := by decide +kernel
theorem dX11_noted_49 : decode cX11_noted 49 = .ok (.aload_n 0, 1) := by decide +kernel
theorem dX11_noted_50 : decode cX11_noted 50 = .ok (.aload_n 0, 1) := by decide +kernel
theorem dX11_noted_51 : decode cX11_noted 51 = .ok (.getfield 140, 3) := by decide +kernel
theorem dX11_noted_54 : decode cX11_noted 54 = .ok (.invokevirtual 143, 3) := by decide +kernel
theorem dX11_noted_57 : decode cX11_noted 57 = .ok (.istore_n 2, 1) := by decide +kernel
theorem dX11_noted_58 : decode cX11_noted 58 = .ok (.iconst 0, 1) := by decide +kernel
theorem dX11_noted_59 : decode cX11_noted 59 = .ok (.istore_n 3, 1) := by decide +kernel
theorem dX11_noted_60 : decode cX11_noted 60 = .ok (.iload_n 3, 1) := by decide +kernel
theorem dX11_noted_61 : decode cX11_noted 61 = .ok (.iconst 2, 1) := by decide +kernel
theorem dX11_noted_62 : decode cX11_noted 62 = .ok (.if_icmp .ge 65, 3) := by decide +kernel
theorem dX11_noted_65 : decode cX11_noted 65 = .ok (.iload_n 2, 1) := by decide +kernel
theorem dX11_noted_66 : decode cX11_noted 66 = .ok (.bipush 35, 2) := by decide +kernel
theorem dX11_noted_68 : decode cX11_noted 68 = .ok (.if_icmp .eq 9, 3) := by decide +kernel
theorem dX11_noted_71 : decode cX11_noted 71 = .ok (.iload_n 2, 1) := by decide +kernel
theorem dX11_noted_72 : decode cX11_noted 72 = .ok (.bipush 98, 2) := by decide +kernel
theorem dX11_noted_74 : decode cX11_noted 74 = .ok (.if_icmp .ne 53, 3) := by decide +kernel
theorem dX11_noted_77 : decode cX11_noted 77 = .ok (.aload_n 0, 1) := by decide +kernel
theorem dX11_noted_78 : decode cX11_noted 78 = .ok (.aload_n 0, 1) := by decide +kernel
theorem dX11_noted_79 : decode cX11_noted 79 = .ok (.getfield 140, 3) := by decide +kernel
theorem dX11_noted_82 : decode cX11_noted 82 = .ok (.invokevirtual 143, 3) := by decide +kernel
theorem dX11_noted_85 : decode cX11_noted 85 = .ok (.iload_n 2, 1) := by decide +kernel
theorem dX11_noted_86 : decode cX11_noted 86 = .ok (.if_icmp .ne 41, 3) := by decide +kernel
theorem dX11_noted_89 : decode cX11_noted 89 = .ok (.aload_n 0, 1) := by decide +kernel
theorem dX11_noted_90 : decode cX11_noted 90 = .ok (.dup, 1) := by decide +kernel
theorem dX11_noted_91 : decode cX11_noted 91 = .ok (.getfield 153, 3) := by decide +kernel
theorem dX11_noted_94 : decode cX11_noted 94 = .ok (.iload_n 2, 1) := by decide +kernel
theorem dX11_noted_95 : decode cX11_noted 95 = .ok (.bipush 35, 2) := by decide +kernel
theorem dX11_noted_97 : decode cX11_noted 97 = .ok (.if_icmp .ne 8, 3) := by decide +kernel
theorem dX11_noted_100 : decode cX11_noted 100 = .ok (.bipush 7, 2) := by decide +kernel
theorem dX11_noted_102 : decode cX11_noted 102 = .ok (.goto 5, 3) := by decide +kernel
theorem dX11_noted_105 : decode cX11_noted 105 = .ok (.bipush (-7), 2) := by decide +kernel
theorem dX11_noted_107 : decode cX11_noted 107 = .ok (.iadd, 1) := by decide +kernel
theorem dX11_noted_108 : decode cX11_noted 108 = .ok (.putfield 153, 3) := by decide +kernel
theorem dX11_noted_111 : decode cX11_noted 111 = .ok (.aload_n 0, 1) := by decide +kernel
theorem dX11_noted_112 : decode cX11_noted 112 = .ok (.dup, 1) := by decide +kernel
theorem dX11_noted_113 : decode cX11_noted 113 = .ok (.getfield 140, 3) := by decide +kernel
theorem dX11_noted_116 : decode cX11_noted 116 = .ok (.iconst 1, 1) := by decide +kernel
theorem dX11_noted_117 : decode cX11_noted 117 = .ok (.iadd, 1) := by decide +kernel
theorem dX11_noted_118 : decode cX11_noted 118 = .ok (.putfield 140, 3) := by decide +kernel
theorem dX11_noted_121 : decode cX11_noted 121 = .ok (.iinc 3 1, 3) := by decide +kernel
theorem dX11_noted_124 : decode cX11_noted 124 = .ok (.goto (-64), 3) := by decide +kernel
theorem dX11_noted_127 : decode cX11_noted 127 = .ok (.iconst 1, 1) := by decide +kernel
theorem dX11_noted_128 : decode cX11_noted 128 = .ok (.ireturn, 1) := by decide +kernel
theorem dX11_isHere_0 : decode cX11_isHere 0 = .ok (.iconst 1, 1) := by decide +kernel
theorem dX11_isHere_1 : decode cX11_isHere 1 = .ok (.istore_n 2, 1) := by decide +kernel
theorem dX11_isHere_2 : decode cX11_isHere 2 = .ok (.iconst 0, 1) := by decide +kernel
theorem dX11_isHere_3 : decode cX11_isHere 3 = .ok (.istore_n 3, 1) := by decide +kernel
theorem dX11_isHere_4 : decode cX11_isHere 4 = .ok (.iload_n 3, 1) := by decide +kernel
theorem dX11_isHere_5 : decode cX11_isHere 5 = .ok (.aload_n 1, 1) := by decide +kernel
theorem dX11_isHere_6 : decode cX11_isHere 6 = .ok (.invokevirtual 156, 3) := by decide +kernel
theorem dX11_isHere_9 : decode cX11_isHere 9 = .ok (.if_icmp .ge 37, 3) := by decide +kernel
theorem dX11_isHere_12 : decode cX11_isHere 12 = .ok (.iload_n 2, 1) := by decide +kernel
theorem dX11_isHere_13 : decode cX11_isHere 13 = .ok (.ifCond .eq 33, 3) := by decide +kernel
theorem dX11_isHere_16 : decode cX11_isHere 16 = .ok (.aload_n 0, 1) := by decide +kernel
theorem dX11_isHere_17 : decode cX11_isHere 17 = .ok (.aload_n 0, 1) := by decide +kernel
theorem dX11_isHere_18 : decode cX11_isHere 18 = .ok (.getfield 140, 3) := by decide +kernel
theorem dX11_isHere_21 : decode cX11_isHere 21 = .ok (.iload_n 3, 1) := by decide +kernel
theorem dX11_isHere_22 : decode cX11_isHere 22 = .ok (.iadd, 1) := by decide +kernel
theorem dX11_isHere_23 : decode cX11_isHere 23 = .ok (.invokevirtual 143, 3) := by decide +kernel
theorem dX11_isHere_26 : decode cX11_isHere 26 = .ok (.aload_n 1, 1) := by decide +kernel
theorem dX11_isHere_27 : decode cX11_isHere 27 = .ok (.iload_n 3, 1) := by decide +kernel
theorem dX11_isHere_28 : decode cX11_isHere 28 = .ok (.invokevirtual 162, 3) := by decide +kernel
theorem dX11_isHere_31 : decode cX11_isHere 31 = .ok (.if_icmp .ne 7, 3) := by decide +kernel
theorem dX11_isHere_34 : decode cX11_isHere 34 = .ok (.iconst 1, 1) := by decide +kernel
theorem dX11_isHere_35 : decode cX11_isHere 35 = .ok (.goto 4, 3) := by decide +kernel
theorem dX11_isHere_38 : decode cX11_isHere 38 = .ok (.iconst 0, 1) := by decide +kernel
theorem dX11_isHere_39 : decode cX11_isHere 39 = .ok (.istore_n 2, 1) := by decide +kernel
theorem dX11_isHere_40 : decode cX11_isHere 40 = .ok (.iinc 3 1, 3) := by decide +kernel
theorem dX11_isHere_43 : decode cX11_isHere 43 = .ok (.goto (-39), 3) := by decide +kernel
theorem dX11_isHere_46 : decode cX11_isHere 46 = .ok (.iload_n 2, 1) := by decide +kernel
theorem dX11_isHere_47 : decode cX11_isHere 47 = .ok (.ireturn, 1) := by decide +kernel
theorem dX11_named_0 : decode cX11_named 0 = .ok (.aload_n 0, 1) := by decide +kernel
theorem dX11_named_1 : decode cX11_named 1 = .ok (.invokevirtual 166, 3) := by decide +kernel
theorem dX11_named_4 : decode cX11_named 4 = .ok (.ifCond .ne 5, 3) := by decide +kernel
theorem dX11_named_7 : decode cX11_named 7 = .ok (.iconst 0, 1) := by decide +kernel
theorem dX11_named_8 : decode cX11_named 8 = .ok (.ireturn, 1) := by decide +kernel
theorem dX11_named_9 : decode cX11_named 9 = .ok (.aload_n 0, 1) := by decide +kernel
theorem dX11_named_10 : decode cX11_named 10 = .ok (.getfield 32, 3) := by decide +kernel
theorem dX11_named_13 : decode cX11_named 13 = .ok (.aload_n 0, 1) := by decide +kernel
theorem dX11_named_14 : decode cX11_named 14 = .ok (.getfield 170, 3) := by decide +kernel
theorem dX11_named_17 : decode cX11_named 17 = .ok (.aload_n 0, 1) := by decide +kernel
theorem dX11_named_18 : decode cX11_named 18 = .ok (.getfield 153, 3) := by decide +kernel
theorem dX11_named_21 : decode cX11_named 21 = .ok (.iastore, 1) := by decide +kernel
theorem dX11_named_22 : decode cX11_named 22 = .ok (.aload_n 0, 1) := by decide +kernel
theorem dX11_named_23 : decode cX11_named 23 = .ok (.getfield 38, 3) := by decide +kernel
theorem dX11_named_26 : decode cX11_named 26 = .ok (.aload_n 0, 1) := by decide +kernel
theorem dX11_named_27 : decode cX11_named 27 = .ok (.getfield 170, 3) := by decide +kernel
theorem dX11_named_30 : decode cX11_named 30 = .ok (.aload_n 0, 1) := by decide +kernel
theorem dX11_named_31 : decode cX11_named 31 = .ok (.getfield 153, 3) := by decide +kernel
theorem dX11_named_34 : decode cX11_named 34 = .ok (.iastore, 1) := by decide +kernel
theorem dX11_named_35 : decode cX11_named 35 = .ok (.iconst 0, 1) := by decide +kernel
theorem dX11_named_36 : decode cX11_named 36 = .ok (.istore_n 1, 1) := by decide +kernel
theorem dX11_named_37 : decode cX11_named 37 = .ok (.iconst 0, 1) := by decide +kernel
theorem dX11_named_38 : decode cX11_named 38 = .ok (.istore_n 2, 1) := by decide +kernel
theorem dX11_named_39 : decode cX11_named 39 = .ok (.iload_n 2, 1) := by decide +kernel
theorem dX11_named_40 : decode cX11_named 40 = .ok (.bipush 14, 2) := by decide +kernel
theorem dX11_named_42 : decode cX11_named 42 = .ok (.if_icmp .ge 39, 3) := by decide +kernel
theorem dX11_named_45 : decode cX11_named 45 = .ok (.aload_n 0, 1) := by decide +kernel
theorem dX11_named_46 : decode cX11_named 46 = .ok (.iload_n 2, 1) := by decide +kernel
theorem dX11_named_47 : decode cX11_named 47 = .ok (.invokestatic 173, 3) := by decide +kernel
theorem dX11_named_50 : decode cX11_named 50 = .ok (.invokevirtual 177, 3) := by decide +kernel
theorem dX11_named_53 : decode cX11_named 53 = .ok (.ifCond .eq 22, 3) := by decide +kernel
theorem dX11_named_56 : decode cX11_named 56 = .ok (.iload_n 2, 1) := by decide +kernel
theorem dX11_named_57 : decode cX11_named 57 = .ok (.invokestatic 173, 3) := by decide +kernel
theorem dX11_named_60 : decode cX11_named 60 = .ok (.invokevirtual 156, 3) := by decide +kernel
theorem dX11_named_63 : decode cX11_named 63 = .ok (.iload_n 1, 1) := by decide +kernel
theorem dX11_named_64 : decode cX11_named 64 = .ok (.invokestatic 173, 3) := by decide +kernel
theorem dX11_named_67 : decode cX11_named 67 = .ok (.invokevirtual 156, 3) := by decide +kernel
theorem dX11_named_70 : decode cX11_named 70 = .ok (.if_icmp .le 5, 3) := by decide +kernel
theorem dX11_named_73 : decode cX11_named 73 = .ok (.iload_n 2, 1) := by decide +kernel
theorem dX11_named_74 : decode cX11_named 74 = .ok (.istore_n 1, 1) := by decide +kernel
theorem dX11_named_75 : decode cX11_named 75 = .ok (.iinc 2 1, 3) := by decide +kernel
theorem dX11_named_78 : decode cX11_named 78 = .ok (.goto (-39), 3) := by decide +kernel
theorem dX11_named_81 : decode cX11_named 81 = .ok (.aload_n 0, 1) := by decide +kernel
theorem dX11_named_82 : decode cX11_named 82 = .ok (.getfield 35, 3) := by decide +kernel
theorem dX11_named_85 : decode cX11_named 85 = .ok (.aload_n 0, 1) := by decide +kernel
theorem dX11_named_86 : decode cX11_named 86 = .ok (.getfield 170, 3) := by decide +kernel
theorem dX11_named_89 : decode cX11_named 89 = .ok (.iload_n 1, 1) := by decide +kernel
theorem dX11_named_90 : decode cX11_named 90 = .ok (.iastore, 1) := by decide +kernel
theorem dX11_named_91 : decode cX11_named 91 = .ok (.aload_n 0, 1) := by decide +kernel
theorem dX11_named_92 : decode cX11_named 92 = .ok (.dup, 1) := by decide +kernel
theorem dX11_named_93 : decode cX11_named 93 = .ok (.getfield 140, 3) := by decide +kernel
theorem dX11_named_96 : decode cX11_named 96 = .ok (.iload_n 1, 1) := by decide +kernel
theorem dX11_named_97 : decode cX11_named 97 = .ok (.invokestatic 173, 3) := by decide +kernel
theorem dX11_named_100 : decode cX11_named 100 = .ok (.invokevirtual 156, 3) := by decide +kernel
theorem dX11_named_103 : decode cX11_named 103 = .ok (.iadd, 1) := by decide +kernel
theorem dX11_named_104 : decode cX11_named 104 = .ok (.putfield 140, 3) := by decide +kernel
theorem dX11_named_107 : decode cX11_named 107 = .ok (.aload_n 0, 1) := by decide +kernel
theorem dX11_named_108 : decode cX11_named 108 = .ok (.aload_n 0, 1) := by decide +kernel
theorem dX11_named_109 : decode cX11_named 109 = .ok (.getfield 140, 3) := by decide +kernel
theorem dX11_named_112 : decode cX11_named 112 = .ok (.invokevirtual 143, 3) := by decide +kernel
theorem dX11_named_115 : decode cX11_named 115 = .ok (.bipush 47, 2) := by decide +kernel
theorem dX11_named_117 : decode cX11_named 117 = .ok (.if_icmp .ne 35, 3) := by decide +kernel
theorem dX11_named_120 : decode cX11_named 120 = .ok (.aload_n 0, 1) := by decide +kernel
theorem dX11_named_121 : decode cX11_named 121 = .ok (.dup, 1) := by decide +kernel
theorem dX11_named_122 : decode cX11_named 122 = .ok (.getfield 140, 3) := by decide +kernel
theorem dX11_named_125 : decode cX11_named 125 = .ok (.iconst 1, 1) := by decide +kernel
theorem dX11_named_126 : decode cX11_named 126 = .ok (.iadd, 1) := by decide +kernel
theorem dX11_named_127 : decode cX11_named 127 = .ok (.putfield 140, 3) := by decide +kernel
theorem dX11_named_130 : decode cX11_named 130 = .ok (.aload_n 0, 1) := by decide +kernel
theorem dX11_named_131 : decode cX11_named 131 = .ok (.invokevirtual 166, 3) := by decide +kernel
theorem dX11_named_134 : decode cX11_named 134 = .ok (.ifCond .ne 5, 3) := by decide +kernel
theorem dX11_named_137 : decode cX11_named 137 = .ok (.iconst 0, 1) := by decide +kernel
theorem dX11_named_138 : decode cX11_named 138 = .ok (.ireturn, 1) := by decide +kernel
theorem dX11_named_139 : decode cX11_named 139 = .ok (.aload_n 0, 1) := by decide +kernel
theorem dX11_named_140 : decode cX11_named 140 = .ok (.getfield 38, 3) := by decide +kernel
theorem dX11_named_143 : decode cX11_named 143 = .ok (.aload_n 0, 1) := by decide +kernel
theorem dX11_named_144 : decode cX11_named 144 = .ok (.getfield 170, 3) := by decide +kernel
theorem dX11_named_147 : decode cX11_named 147 = .ok (.aload_n 0, 1) := by decide +kernel
theorem dX11_named_148 : decode cX11_named 148 = .ok (.getfield 153, 3) := by decide +kernel
theorem dX11_named_151 : decode cX11_named 151 = .ok (.iastore, 1) := by decide +kernel
theorem dX11_named_152 : decode cX11_named 152 = .ok (.aload_n 0, 1) := by decide +kernel
theorem dX11_named_153 : decode cX11_named 153 = .ok (.aload_n 0, 1) := by decide +kernel
theorem dX11_named_154 : decode cX11_named 154 = .ok (.getfield 140, 3) := by decide +kernel
theorem dX11_named_157 : decode cX11_named 157 = .ok (.invokevirtual 143, 3) := by decide +kernel
theorem dX11_named_160 : decode cX11_named 160 = .ok (.bipush 93, 2) := by decide +kernel
theorem dX11_named_162 : decode cX11_named 162 = .ok (.if_icmp .eq 13, 3) := by decide +kernel
theorem dX11_named_165 : decode cX11_named 165 = .ok (.aload_n 0, 1) := by decide +kernel
theorem dX11_named_166 : decode cX11_named 166 = .ok (.iconst 1, 1) := by decide +kernel
theorem dX11_named_167 : decode cX11_named 167 = .ok (.aload_n 0, 1) := by decide +kernel
theorem dX11_named_168 : decode cX11_named 168 = .ok (.getfield 140, 3) := by decide +kernel
theorem dX11_named_171 : decode cX11_named 171 = .ok (.invokevirtual 146, 3) := by decide +kernel
theorem dX11_named_174 : decode cX11_named 174 = .ok (.ireturn, 1) := by decide +kernel
theorem dX11_named_175 : decode cX11_named 175 = .ok (.aload_n 0, 1) := by decide +kernel
theorem dX11_named_176 : decode cX11_named 176 = .ok (.dup, 1) := by decide +kernel
theorem dX11_named_177 : decode cX11_named 177 = .ok (.getfield 140, 3) := by decide +kernel
theorem dX11_named_180 : decode cX11_named 180 = .ok (.iconst 1, 1) := by decide +kernel
theorem dX11_named_181 : decode cX11_named 181 = .ok (.iadd, 1) := by decide +kernel
theorem dX11_named_182 : decode cX11_named 182 = .ok (.putfield 140, 3) := by decide +kernel
theorem dX11_named_185 : decode cX11_named 185 = .ok (.iconst 1, 1) := by decide +kernel
theorem dX11_named_186 : decode cX11_named 186 = .ok (.ireturn, 1) := by decide +kernel
theorem dX11_reads_0 : decode cX11_reads 0 = .ok (.aload_n 0, 1) := by decide +kernel
theorem dX11_reads_1 : decode cX11_reads 1 = .ok (.iconst 0, 1) := by decide +kernel
theorem dX11_reads_2 : decode cX11_reads 2 = .ok (.putfield 140, 3) := by decide +kernel
theorem dX11_reads_5 : decode cX11_reads 5 = .ok (.aload_n 0, 1) := by decide +kernel
theorem dX11_reads_6 : decode cX11_reads 6 = .ok (.iconst 0, 1) := by decide +kernel
theorem dX11_reads_7 : decode cX11_reads 7 = .ok (.putfield 170, 3) := by decide +kernel
theorem dX11_reads_10 : decode cX11_reads 10 = .ok (.aload_n 0, 1) := by decide +kernel
theorem dX11_reads_11 : decode cX11_reads 11 = .ok (.iconst 1, 1) := by decide +kernel
theorem dX11_reads_12 : decode cX11_reads 12 = .ok (.putfield 181, 3) := by decide +kernel
theorem dX11_reads_15 : decode cX11_reads 15 = .ok (.aload_n 0, 1) := by decide +kernel
theorem dX11_reads_16 : decode cX11_reads 16 = .ok (.iconst 0, 1) := by decide +kernel
theorem dX11_reads_17 : decode cX11_reads 17 = .ok (.putfield 184, 3) := by decide +kernel
theorem dX11_reads_20 : decode cX11_reads 20 = .ok (.aload_n 0, 1) := by decide +kernel
theorem dX11_reads_21 : decode cX11_reads 21 = .ok (.getfield 140, 3) := by decide +kernel
theorem dX11_reads_24 : decode cX11_reads 24 = .ok (.aload_n 0, 1) := by decide +kernel
theorem dX11_reads_25 : decode cX11_reads 25 = .ok (.getfield 134, 3) := by decide +kernel
theorem dX11_reads_28 : decode cX11_reads 28 = .ok (.if_icmp .ge 218, 3) := by decide +kernel
theorem dX11_reads_31 : decode cX11_reads 31 = .ok (.aload_n 0, 1) := by decide +kernel
theorem dX11_reads_32 : decode cX11_reads 32 = .ok (.getfield 7, 3) := by decide +kernel
theorem dX11_reads_35 : decode cX11_reads 35 = .ok (.aload_n 0, 1) := by decide +kernel
theorem dX11_reads_36 : decode cX11_reads 36 = .ok (.getfield 140, 3) := by decide +kernel
theorem dX11_reads_39 : decode cX11_reads 39 = .ok (.iaload, 1) := by decide +kernel
theorem dX11_reads_40 : decode cX11_reads 40 = .ok (.istore_n 1, 1) := by decide +kernel
theorem dX11_reads_41 : decode cX11_reads 41 = .ok (.iload_n 1, 1) := by decide +kernel
theorem dX11_reads_42 : decode cX11_reads 42 = .ok (.bipush 91, 2) := by decide +kernel
theorem dX11_reads_44 : decode cX11_reads 44 = .ok (.if_icmp .ne 94, 3) := by decide +kernel
theorem dX11_reads_47 : decode cX11_reads 47 = .ok (.aload_n 0, 1) := by decide +kernel
theorem dX11_reads_48 : decode cX11_reads 48 = .ok (.getfield 170, 3) := by decide +kernel
theorem dX11_reads_51 : decode cX11_reads 51 = .ok (.bipush 60, 2) := by decide +kernel
theorem dX11_reads_53 : decode cX11_reads 53 = .ok (.if_icmp .ne 13, 3) := by decide +kernel
theorem dX11_reads_56 : decode cX11_reads 56 = .ok (.aload_n 0, 1) := by decide +kernel
theorem dX11_reads_57 : decode cX11_reads 57 = .ok (.iconst 2, 1) := by decide +kernel
theorem dX11_reads_58 : decode cX11_reads 58 = .ok (.aload_n 0, 1) := by decide +kernel
theorem dX11_reads_59 : decode cX11_reads 59 = .ok (.getfield 140, 3) := by decide +kernel
theorem dX11_reads_62 : decode cX11_reads 62 = .ok (.invokevirtual 146, 3) := by decide +kernel
theorem dX11_reads_65 : decode cX11_reads 65 = .ok (.ireturn, 1) := by decide +kernel
theorem dX11_reads_66 : decode cX11_reads 66 = .ok (.aload_n 0, 1) := by decide +kernel
theorem dX11_reads_67 : decode cX11_reads 67 = .ok (.dup, 1) := by decide +kernel
theorem dX11_reads_68 : decode cX11_reads 68 = .ok (.getfield 140, 3) := by decide +kernel
theorem dX11_reads_71 : decode cX11_reads 71 = .ok (.iconst 1, 1) := by decide +kernel
theorem dX11_reads_72 : decode cX11_reads 72 = .ok (.iadd, 1) := by decide +kernel
theorem dX11_reads_73 : decode cX11_reads 73 = .ok (.putfield 140, 3) := by decide +kernel
theorem dX11_reads_76 : decode cX11_reads 76 = .ok (.aload_n 0, 1) := by decide +kernel
theorem dX11_reads_77 : decode cX11_reads 77 = .ok (.invokevirtual 187, 3) := by decide +kernel
theorem dX11_reads_80 : decode cX11_reads 80 = .ok (.ifCond .ne 5, 3) := by decide +kernel
theorem dX11_reads_83 : decode cX11_reads 83 = .ok (.iconst 0, 1) := by decide +kernel
theorem dX11_reads_84 : decode cX11_reads 84 = .ok (.ireturn, 1) := by decide +kernel
theorem dX11_reads_85 : decode cX11_reads 85 = .ok (.aload_n 0, 1) := by decide +kernel
theorem dX11_reads_86 : decode cX11_reads 86 = .ok (.getfield 41, 3) := by decide +kernel
theorem dX11_reads_89 : decode cX11_reads 89 = .ok (.aload_n 0, 1) := by decide +kernel
theorem dX11_reads_90 : decode cX11_reads 90 = .ok (.getfield 170, 3) := by decide +kernel
theorem dX11_reads_93 : decode cX11_reads 93 = .ok (.aload_n 0, 1) := by decide +kernel
theorem dX11_reads_94 : decode cX11_reads 94 = .ok (.getfield 181, 3) := by decide +kernel
theorem dX11_reads_97 : decode cX11_reads 97 = .ok (.iconst 1, 1) := by decide +kernel
theorem dX11_reads_98 : decode cX11_reads 98 = .ok (.isub, 1) := by decide +kernel
theorem dX11_reads_99 : decode cX11_reads 99 = .ok (.iastore, 1) := by decide +kernel
theorem dX11_reads_100 : decode cX11_reads 100 = .ok (.aload_n 0, 1) := by decide +kernel
theorem dX11_reads_101 : decode cX11_reads 101 = .ok (.getfield 47, 3) := by decide +kernel
theorem dX11_reads_104 : decode cX11_reads 104 = .ok (.aload_n 0, 1) := by decide +kernel
theorem dX11_reads_105 : decode cX11_reads 105 = .ok (.getfield 184, 3) := by decide +kernel
theorem dX11_reads_108 : decode cX11_reads 108 = .ok (.iconst (-1), 1) := by decide +kernel
theorem dX11_reads_109 : decode cX11_reads 109 = .ok (.aload_n 0, 1) := by decide +kernel
theorem dX11_reads_110 : decode cX11_reads 110 = .ok (.getfield 170, 3) := by decide +kernel
theorem dX11_reads_113 : decode cX11_reads 113 = .ok (.isub, 1) := by decide +kernel
theorem dX11_reads_114 : decode cX11_reads 114 = .ok (.iastore, 1) := by decide +kernel
theorem dX11_reads_115 : decode cX11_reads 115 = .ok (.aload_n 0, 1) := by decide +kernel
theorem dX11_reads_116 : decode cX11_reads 116 = .ok (.dup, 1) := by decide +kernel
theorem dX11_reads_117 : decode cX11_reads 117 = .ok (.getfield 184, 3) := by decide +kernel
theorem dX11_reads_120 : decode cX11_reads 120 = .ok (.iconst 1, 1) := by decide +kernel
theorem dX11_reads_121 : decode cX11_reads 121 = .ok (.iadd, 1) := by decide +kernel
theorem dX11_reads_122 : decode cX11_reads 122 = .ok (.putfield 184, 3) := by decide +kernel
theorem dX11_reads_125 : decode cX11_reads 125 = .ok (.aload_n 0, 1) := by decide +kernel
theorem dX11_reads_126 : decode cX11_reads 126 = .ok (.dup, 1) := by decide +kernel
theorem dX11_reads_127 : decode cX11_reads 127 = .ok (.getfield 170, 3) := by decide +kernel
theorem dX11_reads_130 : decode cX11_reads 130 = .ok (.iconst 1, 1) := by decide +kernel
theorem dX11_reads_131 : decode cX11_reads 131 = .ok (.iadd, 1) := by decide +kernel
theorem dX11_reads_132 : decode cX11_reads 132 = .ok (.putfield 170, 3) := by decide +kernel
theorem dX11_reads_135 : decode cX11_reads 135 = .ok (.goto (-115), 3) := by decide +kernel
theorem dX11_reads_138 : decode cX11_reads 138 = .ok (.iload_n 1, 1) := by decide +kernel
theorem dX11_reads_139 : decode cX11_reads 139 = .ok (.bipush 10, 2) := by decide +kernel
theorem dX11_reads_141 : decode cX11_reads 141 = .ok (.if_icmp .eq 31, 3) := by decide +kernel
theorem dX11_reads_144 : decode cX11_reads 144 = .ok (.iload_n 1, 1) := by decide +kernel
theorem dX11_reads_145 : decode cX11_reads 145 = .ok (.bipush 32, 2) := by decide +kernel
theorem dX11_reads_147 : decode cX11_reads 147 = .ok (.if_icmp .lt 15, 3) := by decide +kernel
theorem dX11_reads_150 : decode cX11_reads 150 = .ok (.iload_n 1, 1) := by decide +kernel
theorem dX11_reads_151 : decode cX11_reads 151 = .ok (.bipush 126, 2) := by decide +kernel
theorem dX11_reads_153 : decode cX11_reads 153 = .ok (.if_icmp .gt 9, 3) := by decide +kernel
theorem dX11_reads_156 : decode cX11_reads 156 = .ok (.iload_n 1, 1) := by decide +kernel
theorem dX11_reads_157 : decode cX11_reads 157 = .ok (.bipush 93, 2) := by decide +kernel
theorem dX11_reads_159 : decode cX11_reads 159 = .ok (.if_icmp .ne 13, 3) := by decide +kernel
theorem dX11_reads_162 : decode cX11_reads 162 = .ok (.aload_n 0, 1) := by decide +kernel
theorem dX11_reads_163 : decode cX11_reads 163 = .ok (.iconst 1, 1) := by decide +kernel
theorem dX11_reads_164 : decode cX11_reads 164 = .ok (.aload_n 0, 1) := by decide +kernel
theorem dX11_reads_165 : decode cX11_reads 165 = .ok (.getfield 140, 3) := by decide +kernel
theorem dX11_reads_168 : decode cX11_reads 168 = .ok (.invokevirtual 146, 3) := by decide +kernel
theorem dX11_reads_171 : decode cX11_reads 171 = .ok (.ireturn, 1) := by decide +kernel
theorem dX11_reads_172 : decode cX11_reads 172 = .ok (.iload_n 1, 1) := by decide +kernel
theorem dX11_reads_173 : decode cX11_reads 173 = .ok (.bipush 10, 2) := by decide +kernel
theorem dX11_reads_175 : decode cX11_reads 175 = .ok (.if_icmp .ne 22, 3) := by decide +kernel
theorem dX11_reads_178 : decode cX11_reads 178 = .ok (.aload_n 0, 1) := by decide +kernel
theorem dX11_reads_179 : decode cX11_reads 179 = .ok (.getfield 181, 3) := by decide +kernel
theorem dX11_reads_182 : decode cX11_reads 182 = .ok (.bipush 40, 2) := by decide +kernel
theorem dX11_reads_184 : decode cX11_reads 184 = .ok (.if_icmp .ne 13, 3) := by decide +kernel
theorem dX11_reads_187 : decode cX11_reads 187 = .ok (.aload_n 0, 1) := by decide +kernel
theorem dX11_reads_188 : decode cX11_reads 188 = .ok (.iconst 2, 1) := by decide +kernel
theorem dX11_reads_189 : decode cX11_reads 189 = .ok (.aload_n 0, 1) := by decide +kernel
theorem dX11_reads_190 : decode cX11_reads 190 = .ok (.getfield 140, 3) := by decide +kernel
theorem dX11_reads_193 : decode cX11_reads 193 = .ok (.invokevirtual 146, 3) := by decide +kernel
theorem dX11_reads_196 : decode cX11_reads 196 = .ok (.ireturn, 1) := by decide +kernel
theorem dX11_reads_197 : decode cX11_reads 197 = .ok (.iload_n 1, 1) := by decide +kernel
theorem dX11_reads_198 : decode cX11_reads 198 = .ok (.bipush 10, 2) := by decide +kernel
theorem dX11_reads_200 : decode cX11_reads 200 = .ok (.if_icmp .ne 13, 3) := by decide +kernel
theorem dX11_reads_203 : decode cX11_reads 203 = .ok (.aload_n 0, 1) := by decide +kernel
theorem dX11_reads_204 : decode cX11_reads 204 = .ok (.dup, 1) := by decide +kernel
theorem dX11_reads_205 : decode cX11_reads 205 = .ok (.getfield 181, 3) := by decide +kernel
theorem dX11_reads_208 : decode cX11_reads 208 = .ok (.iconst 1, 1) := by decide +kernel
theorem dX11_reads_209 : decode cX11_reads 209 = .ok (.iadd, 1) := by decide +kernel
theorem dX11_reads_210 : decode cX11_reads 210 = .ok (.putfield 181, 3) := by decide +kernel
theorem dX11_reads_213 : decode cX11_reads 213 = .ok (.aload_n 0, 1) := by decide +kernel
theorem dX11_reads_214 : decode cX11_reads 214 = .ok (.getfield 47, 3) := by decide +kernel
theorem dX11_reads_217 : decode cX11_reads 217 = .ok (.aload_n 0, 1) := by decide +kernel
theorem dX11_reads_218 : decode cX11_reads 218 = .ok (.getfield 184, 3) := by decide +kernel
theorem dX11_reads_221 : decode cX11_reads 221 = .ok (.iload_n 1, 1) := by decide +kernel
theorem dX11_reads_222 : decode cX11_reads 222 = .ok (.iastore, 1) := by decide +kernel
theorem dX11_reads_223 : decode cX11_reads 223 = .ok (.aload_n 0, 1) := by decide +kernel
theorem dX11_reads_224 : decode cX11_reads 224 = .ok (.dup, 1) := by decide +kernel
theorem dX11_reads_225 : decode cX11_reads 225 = .ok (.getfield 184, 3) := by decide +kernel
theorem dX11_reads_228 : decode cX11_reads 228 = .ok (.iconst 1, 1) := by decide +kernel
theorem dX11_reads_229 : decode cX11_reads 229 = .ok (.iadd, 1) := by decide +kernel
theorem dX11_reads_230 : decode cX11_reads 230 = .ok (.putfield 184, 3) := by decide +kernel
theorem dX11_reads_233 : decode cX11_reads 233 = .ok (.aload_n 0, 1) := by decide +kernel
theorem dX11_reads_234 : decode cX11_reads 234 = .ok (.dup, 1) := by decide +kernel
theorem dX11_reads_235 : decode cX11_reads 235 = .ok (.getfield 140, 3) := by decide +kernel
theorem dX11_reads_238 : decode cX11_reads 238 = .ok (.iconst 1, 1) := by decide +kernel
theorem dX11_reads_239 : decode cX11_reads 239 = .ok (.iadd, 1) := by decide +kernel
theorem dX11_reads_240 : decode cX11_reads 240 = .ok (.putfield 140, 3) := by decide +kernel
theorem dX11_reads_243 : decode cX11_reads 243 = .ok (.goto (-223), 3) := by decide +kernel
theorem dX11_reads_246 : decode cX11_reads 246 = .ok (.iconst 1, 1) := by decide +kernel
theorem dX11_reads_247 : decode cX11_reads 247 = .ok (.ireturn, 1) := by decide +kernel
theorem dX11_song_0 : decode cX11_song 0 = .ok (.aload_n 0, 1) := by decide +kernel
theorem dX11_song_1 : decode cX11_song 1 = .ok (.iconst 0, 1) := by decide +kernel
theorem dX11_song_2 : decode cX11_song 2 = .ok (.putfield 89, 3) := by decide +kernel
theorem dX11_song_5 : decode cX11_song 5 = .ok (.aload_n 0, 1) := by decide +kernel
theorem dX11_song_6 : decode cX11_song 6 = .ok (.iload_n 1, 1) := by decide +kernel
theorem dX11_song_7 : decode cX11_song 7 = .ok (.ifCond .lt 15, 3) := by decide +kernel
theorem dX11_song_10 : decode cX11_song 10 = .ok (.iload_n 1, 1) := by decide +kernel
theorem dX11_song_11 : decode cX11_song 11 = .ok (.aload_n 0, 1) := by decide +kernel
theorem dX11_song_12 : decode cX11_song 12 = .ok (.getfield 92, 3) := by decide +kernel
theorem dX11_song_15 : decode cX11_song 15 = .ok (.if_icmp .gt 7, 3) := by decide +kernel
theorem dX11_song_18 : decode cX11_song 18 = .ok (.iconst 1, 1) := by decide +kernel
theorem dX11_song_19 : decode cX11_song 19 = .ok (.goto 4, 3) := by decide +kernel
theorem dX11_song_22 : decode cX11_song 22 = .ok (.iconst 0, 1) := by decide +kernel
theorem dX11_song_23 : decode cX11_song 23 = .ok (.iconst 1, 1) := by decide +kernel
theorem dX11_song_24 : decode cX11_song 24 = .ok (.invokevirtual 190, 3) := by decide +kernel
theorem dX11_song_27 : decode cX11_song 27 = .ok (.ifCond .ne 5, 3) := by decide +kernel
theorem dX11_song_30 : decode cX11_song 30 = .ok (.iconst 0, 1) := by decide +kernel
theorem dX11_song_31 : decode cX11_song 31 = .ok (.ireturn, 1) := by decide +kernel
theorem dX11_song_32 : decode cX11_song 32 = .ok (.aload_n 0, 1) := by decide +kernel
theorem dX11_song_33 : decode cX11_song 33 = .ok (.iload_n 1, 1) := by decide +kernel
theorem dX11_song_34 : decode cX11_song 34 = .ok (.putfield 134, 3) := by decide +kernel
theorem dX11_song_37 : decode cX11_song 37 = .ok (.aload_n 0, 1) := by decide +kernel
theorem dX11_song_38 : decode cX11_song 38 = .ok (.iconst 0, 1) := by decide +kernel
theorem dX11_song_39 : decode cX11_song 39 = .ok (.putfield 92, 3) := by decide +kernel
theorem dX11_song_42 : decode cX11_song 42 = .ok (.aload_n 0, 1) := by decide +kernel
theorem dX11_song_43 : decode cX11_song 43 = .ok (.iconst 0, 1) := by decide +kernel
theorem dX11_song_44 : decode cX11_song 44 = .ok (.putfield 137, 3) := by decide +kernel
theorem dX11_song_47 : decode cX11_song 47 = .ok (.aload_n 0, 1) := by decide +kernel
theorem dX11_song_48 : decode cX11_song 48 = .ok (.iconst (-1), 1) := by decide +kernel
theorem dX11_song_49 : decode cX11_song 49 = .ok (.putfield 13, 3) := by decide +kernel
theorem dX11_song_52 : decode cX11_song 52 = .ok (.aload_n 0, 1) := by decide +kernel
theorem dX11_song_53 : decode cX11_song 53 = .ok (.invokevirtual 194, 3) := by decide +kernel
theorem dX11_song_56 : decode cX11_song 56 = .ok (.ifCond .ne 8, 3) := by decide +kernel
theorem dX11_song_59 : decode cX11_song 59 = .ok (.aload_n 0, 1) := by decide +kernel
theorem dX11_song_60 : decode cX11_song 60 = .ok (.getfield 137, 3) := by decide +kernel
theorem dX11_song_63 : decode cX11_song 63 = .ok (.ireturn, 1) := by decide +kernel
theorem dX11_song_64 : decode cX11_song 64 = .ok (.aload_n 0, 1) := by decide +kernel
theorem dX11_song_65 : decode cX11_song 65 = .ok (.aload_n 0, 1) := by decide +kernel
theorem dX11_song_66 : decode cX11_song 66 = .ok (.getfield 170, 3) := by decide +kernel
theorem dX11_song_69 : decode cX11_song 69 = .ok (.putfield 197, 3) := by decide +kernel
theorem dX11_song_72 : decode cX11_song 72 = .ok (.aload_n 0, 1) := by decide +kernel
theorem dX11_song_73 : decode cX11_song 73 = .ok (.aload_n 0, 1) := by decide +kernel
theorem dX11_song_74 : decode cX11_song 74 = .ok (.getfield 181, 3) := by decide +kernel
theorem dX11_song_77 : decode cX11_song 77 = .ok (.putfield 200, 3) := by decide +kernel
theorem dX11_song_80 : decode cX11_song 80 = .ok (.aload_n 0, 1) := by decide +kernel
theorem dX11_song_81 : decode cX11_song 81 = .ok (.aload_n 0, 1) := by decide +kernel
theorem dX11_song_82 : decode cX11_song 82 = .ok (.getfield 184, 3) := by decide +kernel
theorem dX11_song_85 : decode cX11_song 85 = .ok (.putfield 203, 3) := by decide +kernel
theorem dX11_song_88 : decode cX11_song 88 = .ok (.aload_n 0, 1) := by decide +kernel
theorem dX11_song_89 : decode cX11_song 89 = .ok (.iconst 1, 1) := by decide +kernel
theorem dX11_song_90 : decode cX11_song 90 = .ok (.putfield 206, 3) := by decide +kernel
theorem dX11_song_93 : decode cX11_song 93 = .ok (.iconst 0, 1) := by decide +kernel
theorem dX11_song_94 : decode cX11_song 94 = .ok (.istore_n 2, 1) := by decide +kernel
theorem dX11_song_95 : decode cX11_song 95 = .ok (.iload_n 2, 1) := by decide +kernel
theorem dX11_song_96 : decode cX11_song 96 = .ok (.aload_n 0, 1) := by decide +kernel
theorem dX11_song_97 : decode cX11_song 97 = .ok (.getfield 203, 3) := by decide +kernel
theorem dX11_song_100 : decode cX11_song 100 = .ok (.if_icmp .ge 21, 3) := by decide +kernel
theorem dX11_song_103 : decode cX11_song 103 = .ok (.aload_n 0, 1) := by decide +kernel
theorem dX11_song_104 : decode cX11_song 104 = .ok (.getfield 44, 3) := by decide +kernel
theorem dX11_song_107 : decode cX11_song 107 = .ok (.iload_n 2, 1) := by decide +kernel
theorem dX11_song_108 : decode cX11_song 108 = .ok (.aload_n 0, 1) := by decide +kernel
theorem dX11_song_109 : decode cX11_song 109 = .ok (.getfield 47, 3) := by decide +kernel
theorem dX11_song_112 : decode cX11_song 112 = .ok (.iload_n 2, 1) := by decide +kernel
theorem dX11_song_113 : decode cX11_song 113 = .ok (.iaload, 1) := by decide +kernel
theorem dX11_song_114 : decode cX11_song 114 = .ok (.iastore, 1) := by decide +kernel
theorem dX11_song_115 : decode cX11_song 115 = .ok (.iinc 2 1, 3) := by decide +kernel
theorem dX11_song_118 : decode cX11_song 118 = .ok (.goto (-23), 3) := by decide +kernel
theorem dX11_song_121 : decode cX11_song 121 = .ok (.iconst 0, 1) := by decide +kernel
theorem dX11_song_122 : decode cX11_song 122 = .ok (.istore_n 2, 1) := by decide +kernel
theorem dX11_song_123 : decode cX11_song 123 = .ok (.iload_n 2, 1) := by decide +kernel
theorem dX11_song_124 : decode cX11_song 124 = .ok (.aload_n 0, 1) := by decide +kernel
theorem dX11_song_125 : decode cX11_song 125 = .ok (.getfield 197, 3) := by decide +kernel
theorem dX11_song_128 : decode cX11_song 128 = .ok (.if_icmp .ge 57, 3) := by decide +kernel
theorem dX11_song_131 : decode cX11_song 131 = .ok (.aload_n 0, 1) := by decide +kernel
theorem dX11_song_132 : decode cX11_song 132 = .ok (.getfield 20, 3) := by decide +kernel
theorem dX11_song_135 : decode cX11_song 135 = .ok (.iload_n 2, 1) := by decide +kernel
theorem dX11_song_136 : decode cX11_song 136 = .ok (.aload_n 0, 1) := by decide +kernel
theorem dX11_song_137 : decode cX11_song 137 = .ok (.getfield 32, 3) := by decide +kernel
theorem dX11_song_140 : decode cX11_song 140 = .ok (.iload_n 2, 1) := by decide +kernel
theorem dX11_song_141 : decode cX11_song 141 = .ok (.iaload, 1) := by decide +kernel
theorem dX11_song_142 : decode cX11_song 142 = .ok (.iastore, 1) := by decide +kernel
theorem dX11_song_143 : decode cX11_song 143 = .ok (.aload_n 0, 1) := by decide +kernel
theorem dX11_song_144 : decode cX11_song 144 = .ok (.getfield 23, 3) := by decide +kernel
theorem dX11_song_147 : decode cX11_song 147 = .ok (.iload_n 2, 1) := by decide +kernel
theorem dX11_song_148 : decode cX11_song 148 = .ok (.aload_n 0, 1) := by decide +kernel
theorem dX11_song_149 : decode cX11_song 149 = .ok (.getfield 35, 3) := by decide +kernel
theorem dX11_song_152 : decode cX11_song 152 = .ok (.iload_n 2, 1) := by decide +kernel
theorem dX11_song_153 : decode cX11_song 153 = .ok (.iaload, 1) := by decide +kernel
theorem dX11_song_154 : decode cX11_song 154 = .ok (.iastore, 1) := by decide +kernel
theorem dX11_song_155 : decode cX11_song 155 = .ok (.aload_n 0, 1) := by decide +kernel
theorem dX11_song_156 : decode cX11_song 156 = .ok (.getfield 26, 3) := by decide +kernel
theorem dX11_song_159 : decode cX11_song 159 = .ok (.iload_n 2, 1) := by decide +kernel
theorem dX11_song_160 : decode cX11_song 160 = .ok (.aload_n 0, 1) := by decide +kernel
theorem dX11_song_161 : decode cX11_song 161 = .ok (.getfield 38, 3) := by decide +kernel
theorem dX11_song_164 : decode cX11_song 164 = .ok (.iload_n 2, 1) := by decide +kernel
theorem dX11_song_165 : decode cX11_song 165 = .ok (.iaload, 1) := by decide +kernel
theorem dX11_song_166 : decode cX11_song 166 = .ok (.iastore, 1) := by decide +kernel
theorem dX11_song_167 : decode cX11_song 167 = .ok (.aload_n 0, 1) := by decide +kernel
theorem dX11_song_168 : decode cX11_song 168 = .ok (.getfield 29, 3) := by decide +kernel
theorem dX11_song_171 : decode cX11_song 171 = .ok (.iload_n 2, 1) := by decide +kernel
theorem dX11_song_172 : decode cX11_song 172 = .ok (.aload_n 0, 1) := by decide +kernel
theorem dX11_song_173 : decode cX11_song 173 = .ok (.getfield 41, 3) := by decide +kernel
theorem dX11_song_176 : decode cX11_song 176 = .ok (.iload_n 2, 1) := by decide +kernel
theorem dX11_song_177 : decode cX11_song 177 = .ok (.iaload, 1) := by decide +kernel
theorem dX11_song_178 : decode cX11_song 178 = .ok (.iastore, 1) := by decide +kernel
theorem dX11_song_179 : decode cX11_song 179 = .ok (.iinc 2 1, 3) := by decide +kernel
theorem dX11_song_182 : decode cX11_song 182 = .ok (.goto (-59), 3) := by decide +kernel
theorem dX11_song_185 : decode cX11_song 185 = .ok (.aload_n 0, 1) := by decide +kernel
theorem dX11_song_186 : decode cX11_song 186 = .ok (.invokevirtual 210, 3) := by decide +kernel
theorem dX11_song_189 : decode cX11_song 189 = .ok (.iconst 0, 1) := by decide +kernel
theorem dX11_song_190 : decode cX11_song 190 = .ok (.ireturn, 1) := by decide +kernel
theorem dX11_fault_0 : decode cX11_fault 0 = .ok (.aload_n 0, 1) := by decide +kernel
theorem dX11_fault_1 : decode cX11_fault 1 = .ok (.iconst 0, 1) := by decide +kernel
theorem dX11_fault_2 : decode cX11_fault 2 = .ok (.putfield 89, 3) := by decide +kernel
theorem dX11_fault_5 : decode cX11_fault 5 = .ok (.aload_n 0, 1) := by decide +kernel
theorem dX11_fault_6 : decode cX11_fault 6 = .ok (.iload_n 1, 1) := by decide +kernel
theorem dX11_fault_7 : decode cX11_fault 7 = .ok (.ifCond .eq 8, 3) := by decide +kernel
theorem dX11_fault_10 : decode cX11_fault 10 = .ok (.iload_n 1, 1) := by decide +kernel
theorem dX11_fault_11 : decode cX11_fault 11 = .ok (.iconst 1, 1) := by decide +kernel
theorem dX11_fault_12 : decode cX11_fault 12 = .ok (.if_icmp .ne 7, 3) := by decide +kernel
theorem dX11_fault_15 : decode cX11_fault 15 = .ok (.iconst 1, 1) := by decide +kernel
theorem dX11_fault_16 : decode cX11_fault 16 = .ok (.goto 4, 3) := by decide +kernel
theorem dX11_fault_19 : decode cX11_fault 19 = .ok (.iconst 0, 1) := by decide +kernel
theorem dX11_fault_20 : decode cX11_fault 20 = .ok (.iconst 1, 1) := by decide +kernel
theorem dX11_fault_21 : decode cX11_fault 21 = .ok (.invokevirtual 190, 3) := by decide +kernel
theorem dX11_fault_24 : decode cX11_fault 24 = .ok (.ifCond .ne 5, 3) := by decide +kernel
theorem dX11_fault_27 : decode cX11_fault 27 = .ok (.iconst 0, 1) := by decide +kernel
theorem dX11_fault_28 : decode cX11_fault 28 = .ok (.ireturn, 1) := by decide +kernel
theorem dX11_fault_29 : decode cX11_fault 29 = .ok (.iload_n 1, 1) := by decide +kernel
theorem dX11_fault_30 : decode cX11_fault 30 = .ok (.ifCond .ne 10, 3) := by decide +kernel
theorem dX11_fault_33 : decode cX11_fault 33 = .ok (.aload_n 0, 1) := by decide +kernel
theorem dX11_fault_34 : decode cX11_fault 34 = .ok (.getfield 137, 3) := by decide +kernel
theorem dX11_fault_37 : decode cX11_fault 37 = .ok (.goto 7, 3) := by decide +kernel
theorem dX11_fault_40 : decode cX11_fault 40 = .ok (.aload_n 0, 1) := by decide +kernel
theorem dX11_fault_41 : decode cX11_fault 41 = .ok (.getfield 13, 3) := by decide +kernel
theorem dX11_fault_44 : decode cX11_fault 44 = .ok (.ireturn, 1) := by decide +kernel
theorem dX11_key_0 : decode cX11_key 0 = .ok (.aload_n 0, 1) := by decide +kernel
theorem dX11_key_1 : decode cX11_key 1 = .ok (.iconst 0, 1) := by decide +kernel
theorem dX11_key_2 : decode cX11_key 2 = .ok (.putfield 89, 3) := by decide +kernel
theorem dX11_key_5 : decode cX11_key 5 = .ok (.aload_n 0, 1) := by decide +kernel
theorem dX11_key_6 : decode cX11_key 6 = .ok (.iload_n 1, 1) := by decide +kernel
theorem dX11_key_7 : decode cX11_key 7 = .ok (.bipush (-7), 2) := by decide +kernel
theorem dX11_key_9 : decode cX11_key 9 = .ok (.if_icmp .lt 13, 3) := by decide +kernel
theorem dX11_key_12 : decode cX11_key 12 = .ok (.iload_n 1, 1) := by decide +kernel
theorem dX11_key_13 : decode cX11_key 13 = .ok (.bipush 7, 2) := by decide +kernel
theorem dX11_key_15 : decode cX11_key 15 = .ok (.if_icmp .gt 7, 3) := by decide +kernel
theorem dX11_key_18 : decode cX11_key 18 = .ok (.iconst 1, 1) := by decide +kernel
theorem dX11_key_19 : decode cX11_key 19 = .ok (.goto 4, 3) := by decide +kernel
theorem dX11_key_22 : decode cX11_key 22 = .ok (.iconst 0, 1) := by decide +kernel
theorem dX11_key_23 : decode cX11_key 23 = .ok (.iconst 1, 1) := by decide +kernel
theorem dX11_key_24 : decode cX11_key 24 = .ok (.invokevirtual 190, 3) := by decide +kernel
theorem dX11_key_27 : decode cX11_key 27 = .ok (.ifCond .ne 5, 3) := by decide +kernel
theorem dX11_key_30 : decode cX11_key 30 = .ok (.iconst 0, 1) := by decide +kernel
theorem dX11_key_31 : decode cX11_key 31 = .ok (.ireturn, 1) := by decide +kernel
theorem dX11_key_32 : decode cX11_key 32 = .ok (.aload_n 0, 1) := by decide +kernel
theorem dX11_key_33 : decode cX11_key 33 = .ok (.getfield 213, 3) := by decide +kernel
theorem dX11_key_36 : decode cX11_key 36 = .ok (.istore_n 2, 1) := by decide +kernel
theorem dX11_key_37 : decode cX11_key 37 = .ok (.aload_n 0, 1) := by decide +kernel
theorem dX11_key_38 : decode cX11_key 38 = .ok (.iload_n 1, 1) := by decide +kernel
theorem dX11_key_39 : decode cX11_key 39 = .ok (.putfield 213, 3) := by decide +kernel
theorem dX11_key_42 : decode cX11_key 42 = .ok (.iload_n 2, 1) := by decide +kernel
theorem dX11_key_43 : decode cX11_key 43 = .ok (.ireturn, 1) := by decide +kernel
theorem dX11_within_0 : decode cX11_within 0 = .ok (.iload_n 0, 1) := by decide +kernel
theorem dX11_within_1 : decode cX11_within 1 = .ok (.istore_n 1, 1) := by decide +kernel
theorem dX11_within_2 : decode cX11_within 2 = .ok (.iload_n 1, 1) := by decide +kernel
theorem dX11_within_3 : decode cX11_within 3 = .ok (.bipush 19, 2) := by decide +kernel
theorem dX11_within_5 : decode cX11_within 5 = .ok (.if_icmp .le 9, 3) := by decide +kernel
theorem dX11_within_8 : decode cX11_within 8 = .ok (.iinc 1 (-12), 3) := by decide +kernel
theorem dX11_within_11 : decode cX11_within 11 = .ok (.goto (-9), 3) := by decide +kernel
theorem dX11_within_14 : decode cX11_within 14 = .ok (.iload_n 1, 1) := by decide +kernel
theorem dX11_within_15 : decode cX11_within 15 = .ok (.bipush (-15), 2) := by decide +kernel
theorem dX11_within_17 : decode cX11_within 17 = .ok (.if_icmp .ge 9, 3) := by decide +kernel
theorem dX11_within_20 : decode cX11_within 20 = .ok (.iinc 1 12, 3) := by decide +kernel
theorem dX11_within_23 : decode cX11_within 23 = .ok (.goto (-9), 3) := by decide +kernel
theorem dX11_within_26 : decode cX11_within 26 = .ok (.iload_n 1, 1) := by decide +kernel
theorem dX11_within_27 : decode cX11_within 27 = .ok (.ireturn, 1) := by decide +kernel
theorem dX11_move_0 : decode cX11_move 0 = .ok (.aload_n 0, 1) := by decide +kernel
theorem dX11_move_1 : decode cX11_move 1 = .ok (.iconst 0, 1) := by decide +kernel
theorem dX11_move_2 : decode cX11_move 2 = .ok (.putfield 89, 3) := by decide +kernel
theorem dX11_move_5 : decode cX11_move 5 = .ok (.aload_n 0, 1) := by decide +kernel
theorem dX11_move_6 : decode cX11_move 6 = .ok (.iload_n 1, 1) := by decide +kernel
theorem dX11_move_7 : decode cX11_move 7 = .ok (.bipush (-11), 2) := by decide +kernel
theorem dX11_move_9 : decode cX11_move 9 = .ok (.if_icmp .lt 13, 3) := by decide +kernel
theorem dX11_move_12 : decode cX11_move 12 = .ok (.iload_n 1, 1) := by decide +kernel
theorem dX11_move_13 : decode cX11_move 13 = .ok (.bipush 11, 2) := by decide +kernel
theorem dX11_move_15 : decode cX11_move 15 = .ok (.if_icmp .gt 7, 3) := by decide +kernel
theorem dX11_move_18 : decode cX11_move 18 = .ok (.iconst 1, 1) := by decide +kernel
theorem dX11_move_19 : decode cX11_move 19 = .ok (.goto 4, 3) := by decide +kernel
theorem dX11_move_22 : decode cX11_move 22 = .ok (.iconst 0, 1) := by decide +kernel
theorem dX11_move_23 : decode cX11_move 23 = .ok (.iconst 1, 1) := by decide +kernel
theorem dX11_move_24 : decode cX11_move 24 = .ok (.invokevirtual 190, 3) := by decide +kernel
theorem dX11_move_27 : decode cX11_move 27 = .ok (.ifCond .ne 5, 3) := by decide +kernel
theorem dX11_move_30 : decode cX11_move 30 = .ok (.iconst 0, 1) := by decide +kernel
theorem dX11_move_31 : decode cX11_move 31 = .ok (.ireturn, 1) := by decide +kernel
theorem dX11_move_32 : decode cX11_move 32 = .ok (.aload_n 0, 1) := by decide +kernel
theorem dX11_move_33 : decode cX11_move 33 = .ok (.getfield 213, 3) := by decide +kernel
theorem dX11_move_36 : decode cX11_move 36 = .ok (.bipush 7, 2) := by decide +kernel
theorem dX11_move_38 : decode cX11_move 38 = .ok (.iload_n 1, 1) := by decide +kernel
theorem dX11_move_39 : decode cX11_move 39 = .ok (.imul, 1) := by decide +kernel
theorem dX11_move_40 : decode cX11_move 40 = .ok (.iadd, 1) := by decide +kernel
theorem dX11_move_41 : decode cX11_move 41 = .ok (.istore_n 2, 1) := by decide +kernel
theorem dX11_move_42 : decode cX11_move 42 = .ok (.iload_n 2, 1) := by decide +kernel
theorem dX11_move_43 : decode cX11_move 43 = .ok (.bipush 6, 2) := by decide +kernel
theorem dX11_move_45 : decode cX11_move 45 = .ok (.if_icmp .le 9, 3) := by decide +kernel
theorem dX11_move_48 : decode cX11_move 48 = .ok (.iinc 2 (-12), 3) := by decide +kernel
theorem dX11_move_51 : decode cX11_move 51 = .ok (.goto (-9), 3) := by decide +kernel
theorem dX11_move_54 : decode cX11_move 54 = .ok (.iload_n 2, 1) := by decide +kernel
theorem dX11_move_55 : decode cX11_move 55 = .ok (.bipush (-5), 2) := by decide +kernel
theorem dX11_move_57 : decode cX11_move 57 = .ok (.if_icmp .ge 9, 3) := by decide +kernel
theorem dX11_move_60 : decode cX11_move 60 = .ok (.iinc 2 12, 3) := by decide +kernel
theorem dX11_move_63 : decode cX11_move 63 = .ok (.goto (-9), 3) := by decide +kernel
theorem dX11_move_66 : decode cX11_move 66 = .ok (.iconst 0, 1) := by decide +kernel
theorem dX11_move_67 : decode cX11_move 67 = .ok (.istore_n 3, 1) := by decide +kernel
theorem dX11_move_68 : decode cX11_move 68 = .ok (.iload_n 3, 1) := by decide +kernel
theorem dX11_move_69 : decode cX11_move 69 = .ok (.aload_n 0, 1) := by decide +kernel
theorem dX11_move_70 : decode cX11_move 70 = .ok (.getfield 197, 3) := by decide +kernel
theorem dX11_move_73 : decode cX11_move 73 = .ok (.if_icmp .ge 53, 3) := by decide +kernel
theorem dX11_move_76 : decode cX11_move 76 = .ok (.aload_n 0, 1) := by decide +kernel
theorem dX11_move_77 : decode cX11_move 77 = .ok (.getfield 20, 3) := by decide +kernel
theorem dX11_move_80 : decode cX11_move 80 = .ok (.iload_n 3, 1) := by decide +kernel
theorem dX11_move_81 : decode cX11_move 81 = .ok (.aload_n 0, 1) := by decide +kernel
theorem dX11_move_82 : decode cX11_move 82 = .ok (.getfield 20, 3) := by decide +kernel
theorem dX11_move_85 : decode cX11_move 85 = .ok (.iload_n 3, 1) := by decide +kernel
theorem dX11_move_86 : decode cX11_move 86 = .ok (.iaload, 1) := by decide +kernel
theorem dX11_move_87 : decode cX11_move 87 = .ok (.iload_n 2, 1) := by decide +kernel
theorem dX11_move_88 : decode cX11_move 88 = .ok (.iadd, 1) := by decide +kernel
theorem dX11_move_89 : decode cX11_move 89 = .ok (.aload_n 0, 1) := by decide +kernel
theorem dX11_move_90 : decode cX11_move 90 = .ok (.getfield 213, 3) := by decide +kernel
theorem dX11_move_93 : decode cX11_move 93 = .ok (.isub, 1) := by decide +kernel
theorem dX11_move_94 : decode cX11_move 94 = .ok (.invokestatic 216, 3) := by decide +kernel
theorem dX11_move_97 : decode cX11_move 97 = .ok (.iastore, 1) := by decide +kernel
theorem dX11_move_98 : decode cX11_move 98 = .ok (.aload_n 0, 1) := by decide +kernel
theorem dX11_move_99 : decode cX11_move 99 = .ok (.getfield 26, 3) := by decide +kernel
theorem dX11_move_102 : decode cX11_move 102 = .ok (.iload_n 3, 1) := by decide +kernel
theorem dX11_move_103 : decode cX11_move 103 = .ok (.aload_n 0, 1) := by decide +kernel
theorem dX11_move_104 : decode cX11_move 104 = .ok (.getfield 26, 3) := by decide +kernel
theorem dX11_move_107 : decode cX11_move 107 = .ok (.iload_n 3, 1) := by decide +kernel
theorem dX11_move_108 : decode cX11_move 108 = .ok (.iaload, 1) := by decide +kernel
theorem dX11_move_109 : decode cX11_move 109 = .ok (.iload_n 2, 1) := by decide +kernel
theorem dX11_move_110 : decode cX11_move 110 = .ok (.iadd, 1) := by decide +kernel
theorem dX11_move_111 : decode cX11_move 111 = .ok (.aload_n 0, 1) := by decide +kernel
theorem dX11_move_112 : decode cX11_move 112 = .ok (.getfield 213, 3) := by decide +kernel
theorem dX11_move_115 : decode cX11_move 115 = .ok (.isub, 1) := by decide +kernel
theorem dX11_move_116 : decode cX11_move 116 = .ok (.invokestatic 216, 3) := by decide +kernel
theorem dX11_move_119 : decode cX11_move 119 = .ok (.iastore, 1) := by decide +kernel
theorem dX11_move_120 : decode cX11_move 120 = .ok (.iinc 3 1, 3) := by decide +kernel
theorem dX11_move_123 : decode cX11_move 123 = .ok (.goto (-55), 3) := by decide +kernel
theorem dX11_move_126 : decode cX11_move 126 = .ok (.aload_n 0, 1) := by decide +kernel
theorem dX11_move_127 : decode cX11_move 127 = .ok (.iload_n 2, 1) := by decide +kernel
theorem dX11_move_128 : decode cX11_move 128 = .ok (.putfield 213, 3) := by decide +kernel
theorem dX11_move_131 : decode cX11_move 131 = .ok (.aload_n 0, 1) := by decide +kernel
theorem dX11_move_132 : decode cX11_move 132 = .ok (.invokevirtual 210, 3) := by decide +kernel
theorem dX11_move_135 : decode cX11_move 135 = .ok (.aload_n 0, 1) := by decide +kernel
theorem dX11_move_136 : decode cX11_move 136 = .ok (.getfield 213, 3) := by decide +kernel
theorem dX11_move_139 : decode cX11_move 139 = .ok (.ireturn, 1) := by decide +kernel
theorem dX11_isChord_0 : decode cX11_isChord 0 = .ok (.aload_n 0, 1) := by decide +kernel
theorem dX11_isChord_1 : decode cX11_isChord 1 = .ok (.iconst 0, 1) := by decide +kernel
theorem dX11_isChord_2 : decode cX11_isChord 2 = .ok (.putfield 89, 3) := by decide +kernel
theorem dX11_isChord_5 : decode cX11_isChord 5 = .ok (.aload_n 0, 1) := by decide +kernel
theorem dX11_isChord_6 : decode cX11_isChord 6 = .ok (.iload_n 1, 1) := by decide +kernel
theorem dX11_isChord_7 : decode cX11_isChord 7 = .ok (.ifCond .lt 15, 3) := by decide +kernel
theorem dX11_isChord_10 : decode cX11_isChord 10 = .ok (.iload_n 1, 1) := by decide +kernel
theorem dX11_isChord_11 : decode cX11_isChord 11 = .ok (.aload_n 0, 1) := by decide +kernel
theorem dX11_isChord_12 : decode cX11_isChord 12 = .ok (.getfield 197, 3) := by decide +kernel
theorem dX11_isChord_15 : decode cX11_isChord 15 = .ok (.if_icmp .ge 7, 3) := by decide +kernel
theorem dX11_isChord_18 : decode cX11_isChord 18 = .ok (.iconst 1, 1) := by decide +kernel
theorem dX11_isChord_19 : decode cX11_isChord 19 = .ok (.goto 4, 3) := by decide +kernel
theorem dX11_isChord_22 : decode cX11_isChord 22 = .ok (.iconst 0, 1) := by decide +kernel
theorem dX11_isChord_23 : decode cX11_isChord 23 = .ok (.iconst 1, 1) := by decide +kernel
theorem dX11_isChord_24 : decode cX11_isChord 24 = .ok (.invokevirtual 190, 3) := by decide +kernel
theorem dX11_isChord_27 : decode cX11_isChord 27 = .ok (.ireturn, 1) := by decide +kernel
theorem dX11_chord_0 : decode cX11_chord 0 = .ok (.aload_n 0, 1) := by decide +kernel
theorem dX11_chord_1 : decode cX11_chord 1 = .ok (.iload_n 1, 1) := by decide +kernel
theorem dX11_chord_2 : decode cX11_chord 2 = .ok (.invokevirtual 219, 3) := by decide +kernel
theorem dX11_chord_5 : decode cX11_chord 5 = .ok (.ifCond .eq 25, 3) := by decide +kernel
theorem dX11_chord_8 : decode cX11_chord 8 = .ok (.aload_n 0, 1) := by decide +kernel
theorem dX11_chord_9 : decode cX11_chord 9 = .ok (.iload_n 2, 1) := by decide +kernel
theorem dX11_chord_10 : decode cX11_chord 10 = .ok (.ifCond .lt 12, 3) := by decide +kernel
theorem dX11_chord_13 : decode cX11_chord 13 = .ok (.iload_n 2, 1) := by decide +kernel
theorem dX11_chord_14 : decode cX11_chord 14 = .ok (.iconst 4, 1) := by decide +kernel
theorem dX11_chord_15 : decode cX11_chord 15 = .ok (.if_icmp .gt 7, 3) := by decide +kernel
theorem dX11_chord_18 : decode cX11_chord 18 = .ok (.iconst 1, 1) := by decide +kernel
theorem dX11_chord_19 : decode cX11_chord 19 = .ok (.goto 4, 3) := by decide +kernel
theorem dX11_chord_22 : decode cX11_chord 22 = .ok (.iconst 0, 1) := by decide +kernel
theorem dX11_chord_23 : decode cX11_chord 23 = .ok (.iconst 1, 1) := by decide +kernel
theorem dX11_chord_24 : decode cX11_chord 24 = .ok (.invokevirtual 190, 3) := by decide +kernel
theorem dX11_chord_27 : decode cX11_chord 27 = .ok (.ifCond .ne 5, 3) := by decide +kernel
theorem dX11_chord_30 : decode cX11_chord 30 = .ok (.iconst 0, 1) := by decide +kernel
theorem dX11_chord_31 : decode cX11_chord 31 = .ok (.ireturn, 1) := by decide +kernel
theorem dX11_chord_32 : decode cX11_chord 32 = .ok (.iload_n 2, 1) := by decide +kernel
theorem dX11_chord_33 : decode cX11_chord 33 = .ok (.tableswitch 58 0 3 #[31, 38, 45, 52], 31) := by decide +kernel
theorem dX11_chord_64 : decode cX11_chord 64 = .ok (.aload_n 0, 1) := by decide +kernel
theorem dX11_chord_65 : decode cX11_chord 65 = .ok (.getfield 20, 3) := by decide +kernel
theorem dX11_chord_68 : decode cX11_chord 68 = .ok (.iload_n 1, 1) := by decide +kernel
theorem dX11_chord_69 : decode cX11_chord 69 = .ok (.iaload, 1) := by decide +kernel
theorem dX11_chord_70 : decode cX11_chord 70 = .ok (.ireturn, 1) := by decide +kernel
theorem dX11_chord_71 : decode cX11_chord 71 = .ok (.aload_n 0, 1) := by decide +kernel
theorem dX11_chord_72 : decode cX11_chord 72 = .ok (.getfield 23, 3) := by decide +kernel
theorem dX11_chord_75 : decode cX11_chord 75 = .ok (.iload_n 1, 1) := by decide +kernel
theorem dX11_chord_76 : decode cX11_chord 76 = .ok (.iaload, 1) := by decide +kernel
theorem dX11_chord_77 : decode cX11_chord 77 = .ok (.ireturn, 1) := by decide +kernel
theorem dX11_chord_78 : decode cX11_chord 78 = .ok (.aload_n 0, 1) := by decide +kernel
theorem dX11_chord_79 : decode cX11_chord 79 = .ok (.getfield 26, 3) := by decide +kernel
theorem dX11_chord_82 : decode cX11_chord 82 = .ok (.iload_n 1, 1) := by decide +kernel
theorem dX11_chord_83 : decode cX11_chord 83 = .ok (.iaload, 1) := by decide +kernel
theorem dX11_chord_84 : decode cX11_chord 84 = .ok (.ireturn, 1) := by decide +kernel
theorem dX11_chord_85 : decode cX11_chord 85 = .ok (.aload_n 0, 1) := by decide +kernel
theorem dX11_chord_86 : decode cX11_chord 86 = .ok (.iload_n 1, 1) := by decide +kernel
theorem dX11_chord_87 : decode cX11_chord 87 = .ok (.invokevirtual 223, 3) := by decide +kernel
theorem dX11_chord_90 : decode cX11_chord 90 = .ok (.ireturn, 1) := by decide +kernel
theorem dX11_chord_91 : decode cX11_chord 91 = .ok (.aload_n 0, 1) := by decide +kernel
theorem dX11_chord_92 : decode cX11_chord 92 = .ok (.getfield 29, 3) := by decide +kernel
theorem dX11_chord_95 : decode cX11_chord 95 = .ok (.iload_n 1, 1) := by decide +kernel
theorem dX11_chord_96 : decode cX11_chord 96 = .ok (.iaload, 1) := by decide +kernel
theorem dX11_chord_97 : decode cX11_chord 97 = .ok (.ireturn, 1) := by decide +kernel
theorem dX11_add_0 : decode cX11_add 0 = .ok (.aload_n 0, 1) := by decide +kernel
theorem dX11_add_1 : decode cX11_add 1 = .ok (.getfield 59, 3) := by decide +kernel
theorem dX11_add_4 : decode cX11_add 4 = .ok (.aload_n 0, 1) := by decide +kernel
theorem dX11_add_5 : decode cX11_add 5 = .ok (.getfield 226, 3) := by decide +kernel
theorem dX11_add_8 : decode cX11_add 8 = .ok (.iload_n 1, 1) := by decide +kernel
theorem dX11_add_9 : decode cX11_add 9 = .ok (.iastore, 1) := by decide +kernel
theorem dX11_add_10 : decode cX11_add 10 = .ok (.aload_n 0, 1) := by decide +kernel
theorem dX11_add_11 : decode cX11_add 11 = .ok (.dup, 1) := by decide +kernel
theorem dX11_add_12 : decode cX11_add 12 = .ok (.getfield 226, 3) := by decide +kernel
theorem dX11_add_15 : decode cX11_add 15 = .ok (.iconst 1, 1) := by decide +kernel
theorem dX11_add_16 : decode cX11_add 16 = .ok (.iadd, 1) := by decide +kernel
theorem dX11_add_17 : decode cX11_add 17 = .ok (.putfield 226, 3) := by decide +kernel
theorem dX11_add_20 : decode cX11_add 20 = .ok (.return_, 1) := by decide +kernel
theorem dX11_addNote_0 : decode cX11_addNote 0 = .ok (.iload_n 1, 1) := by decide +kernel
theorem dX11_addNote_1 : decode cX11_addNote 1 = .ok (.bipush 15, 2) := by decide +kernel
theorem dX11_addNote_3 : decode cX11_addNote 3 = .ok (.iadd, 1) := by decide +kernel
theorem dX11_addNote_4 : decode cX11_addNote 4 = .ok (.bipush 7, 2) := by decide +kernel
theorem dX11_addNote_6 : decode cX11_addNote 6 = .ok (.idiv, 1) := by decide +kernel
theorem dX11_addNote_7 : decode cX11_addNote 7 = .ok (.iconst 2, 1) := by decide +kernel
theorem dX11_addNote_8 : decode cX11_addNote 8 = .ok (.isub, 1) := by decide +kernel
theorem dX11_addNote_9 : decode cX11_addNote 9 = .ok (.istore_n 2, 1) := by decide +kernel
theorem dX11_addNote_10 : decode cX11_addNote 10 = .ok (.aload_n 0, 1) := by decide +kernel
theorem dX11_addNote_11 : decode cX11_addNote 11 = .ok (.ldc 229, 2) := by decide +kernel
theorem dX11_addNote_13 : decode cX11_addNote 13 = .ok (.iload_n 1, 1) := by decide +kernel
theorem dX11_addNote_14 : decode cX11_addNote 14 = .ok (.iconst 1, 1) := by decide +kernel
theorem dX11_addNote_15 : decode cX11_addNote 15 = .ok (.iadd, 1) := by decide +kernel
theorem dX11_addNote_16 : decode cX11_addNote 16 = .ok (.bipush 7, 2) := by decide +kernel
theorem dX11_addNote_18 : decode cX11_addNote 18 = .ok (.iload_n 2, 1) := by decide +kernel
theorem dX11_addNote_19 : decode cX11_addNote 19 = .ok (.imul, 1) := by decide +kernel
theorem dX11_addNote_20 : decode cX11_addNote 20 = .ok (.isub, 1) := by decide +kernel
theorem dX11_addNote_21 : decode cX11_addNote 21 = .ok (.invokevirtual 162, 3) := by decide +kernel
theorem dX11_addNote_24 : decode cX11_addNote 24 = .ok (.invokevirtual 231, 3) := by decide +kernel
theorem dX11_addNote_27 : decode cX11_addNote 27 = .ok (.iconst 0, 1) := by decide +kernel
theorem dX11_addNote_28 : decode cX11_addNote 28 = .ok (.istore_n 3, 1) := by decide +kernel
theorem dX11_addNote_29 : decode cX11_addNote 29 = .ok (.iload_n 3, 1) := by decide +kernel
theorem dX11_addNote_30 : decode cX11_addNote 30 = .ok (.iload_n 2, 1) := by decide +kernel
theorem dX11_addNote_31 : decode cX11_addNote 31 = .ok (.if_icmp .ge 15, 3) := by decide +kernel
theorem dX11_addNote_34 : decode cX11_addNote 34 = .ok (.aload_n 0, 1) := by decide +kernel
theorem dX11_addNote_35 : decode cX11_addNote 35 = .ok (.bipush 35, 2) := by decide +kernel
theorem dX11_addNote_37 : decode cX11_addNote 37 = .ok (.invokevirtual 231, 3) := by decide +kernel
theorem dX11_addNote_40 : decode cX11_addNote 40 = .ok (.iinc 3 1, 3) := by decide +kernel
theorem dX11_addNote_43 : decode cX11_addNote 43 = .ok (.goto (-14), 3) := by decide +kernel
theorem dX11_addNote_46 : decode cX11_addNote 46 = .ok (.iload_n 2, 1) := by decide +kernel
theorem dX11_addNote_47 : decode cX11_addNote 47 = .ok (.istore_n 3, 1) := by decide +kernel
theorem dX11_addNote_48 : decode cX11_addNote 48 = .ok (.iload_n 3, 1) := by decide +kernel
theorem dX11_addNote_49 : decode cX11_addNote 49 = .ok (.ifCond .ge 15, 3) := by decide +kernel
theorem dX11_addNote_52 : decode cX11_addNote 52 = .ok (.aload_n 0, 1) := by decide +kernel
theorem dX11_addNote_53 : decode cX11_addNote 53 = .ok (.bipush 98, 2) := by decide +kernel
theorem dX11_addNote_55 : decode cX11_addNote 55 = .ok (.invokevirtual 231, 3) := by decide +kernel
theorem dX11_addNote_58 : decode cX11_addNote 58 = .ok (.iinc 3 1, 3) := by decide +kernel
theorem dX11_addNote_61 : decode cX11_addNote 61 = .ok (.goto (-13), 3) := by decide +kernel
theorem dX11_addNote_64 : decode cX11_addNote 64 = .ok (.return_, 1) := by decide +kernel
theorem dX11_names_0 : decode cX11_names 0 = .ok (.aload_n 0, 1) := by decide +kernel
theorem dX11_names_1 : decode cX11_names 1 = .ok (.iconst 0, 1) := by decide +kernel
theorem dX11_names_2 : decode cX11_names 2 = .ok (.putfield 226, 3) := by decide +kernel
theorem dX11_names_5 : decode cX11_names 5 = .ok (.aload_n 0, 1) := by decide +kernel
theorem dX11_names_6 : decode cX11_names 6 = .ok (.aload_n 0, 1) := by decide +kernel
theorem dX11_names_7 : decode cX11_names 7 = .ok (.getfield 20, 3) := by decide +kernel
theorem dX11_names_10 : decode cX11_names 10 = .ok (.iload_n 1, 1) := by decide +kernel
theorem dX11_names_11 : decode cX11_names 11 = .ok (.iaload, 1) := by decide +kernel
theorem dX11_names_12 : decode cX11_names 12 = .ok (.invokevirtual 234, 3) := by decide +kernel
theorem dX11_names_15 : decode cX11_names 15 = .ok (.aload_n 0, 1) := by decide +kernel
theorem dX11_names_16 : decode cX11_names 16 = .ok (.getfield 23, 3) := by decide +kernel
theorem dX11_names_19 : decode cX11_names 19 = .ok (.iload_n 1, 1) := by decide +kernel
theorem dX11_names_20 : decode cX11_names 20 = .ok (.iaload, 1) := by decide +kernel
theorem dX11_names_21 : decode cX11_names 21 = .ok (.invokestatic 173, 3) := by decide +kernel
theorem dX11_names_24 : decode cX11_names 24 = .ok (.astore_n 2, 1) := by decide +kernel
theorem dX11_names_25 : decode cX11_names 25 = .ok (.iconst 0, 1) := by decide +kernel
theorem dX11_names_26 : decode cX11_names 26 = .ok (.istore_n 3, 1) := by decide +kernel
theorem dX11_names_27 : decode cX11_names 27 = .ok (.iload_n 3, 1) := by decide +kernel
theorem dX11_names_28 : decode cX11_names 28 = .ok (.aload_n 2, 1) := by decide +kernel
theorem dX11_names_29 : decode cX11_names 29 = .ok (.invokevirtual 156, 3) := by decide +kernel
theorem dX11_names_32 : decode cX11_names 32 = .ok (.if_icmp .ge 18, 3) := by decide +kernel
theorem dX11_names_35 : decode cX11_names 35 = .ok (.aload_n 0, 1) := by decide +kernel
theorem dX11_names_36 : decode cX11_names 36 = .ok (.aload_n 2, 1) := by decide +kernel
theorem dX11_names_37 : decode cX11_names 37 = .ok (.iload_n 3, 1) := by decide +kernel
theorem dX11_names_38 : decode cX11_names 38 = .ok (.invokevirtual 162, 3) := by decide +kernel
theorem dX11_names_41 : decode cX11_names 41 = .ok (.invokevirtual 231, 3) := by decide +kernel
theorem dX11_names_44 : decode cX11_names 44 = .ok (.iinc 3 1, 3) := by decide +kernel
theorem dX11_names_47 : decode cX11_names 47 = .ok (.goto (-20), 3) := by decide +kernel
theorem dX11_names_50 : decode cX11_names 50 = .ok (.aload_n 0, 1) := by decide +kernel
theorem dX11_names_51 : decode cX11_names 51 = .ok (.getfield 26, 3) := by decide +kernel
theorem dX11_names_54 : decode cX11_names 54 = .ok (.iload_n 1, 1) := by decide +kernel
theorem dX11_names_55 : decode cX11_names 55 = .ok (.iaload, 1) := by decide +kernel
theorem dX11_names_56 : decode cX11_names 56 = .ok (.aload_n 0, 1) := by decide +kernel
theorem dX11_names_57 : decode cX11_names 57 = .ok (.getfield 20, 3) := by decide +kernel
theorem dX11_names_60 : decode cX11_names 60 = .ok (.iload_n 1, 1) := by decide +kernel
theorem dX11_names_61 : decode cX11_names 61 = .ok (.iaload, 1) := by decide +kernel
theorem dX11_names_62 : decode cX11_names 62 = .ok (.if_icmp .ne 4, 3) := by decide +kernel
theorem dX11_names_65 : decode cX11_names 65 = .ok (.return_, 1) := by decide +kernel
theorem dX11_names_66 : decode cX11_names 66 = .ok (.aload_n 0, 1) := by decide +kernel
theorem dX11_names_67 : decode cX11_names 67 = .ok (.bipush 47, 2) := by decide +kernel
theorem dX11_names_69 : decode cX11_names 69 = .ok (.invokevirtual 231, 3) := by decide +kernel
theorem dX11_names_72 : decode cX11_names 72 = .ok (.aload_n 0, 1) := by decide +kernel
theorem dX11_names_73 : decode cX11_names 73 = .ok (.aload_n 0, 1) := by decide +kernel
theorem dX11_names_74 : decode cX11_names 74 = .ok (.getfield 26, 3) := by decide +kernel
theorem dX11_names_77 : decode cX11_names 77 = .ok (.iload_n 1, 1) := by decide +kernel
theorem dX11_names_78 : decode cX11_names 78 = .ok (.iaload, 1) := by decide +kernel
theorem dX11_names_79 : decode cX11_names 79 = .ok (.invokevirtual 234, 3) := by decide +kernel
theorem dX11_names_82 : decode cX11_names 82 = .ok (.return_, 1) := by decide +kernel
theorem dX11_says_0 : decode cX11_says 0 = .ok (.aload_n 0, 1) := by decide +kernel
theorem dX11_says_1 : decode cX11_says 1 = .ok (.getfield 237, 3) := by decide +kernel
theorem dX11_says_4 : decode cX11_says 4 = .ok (.sipush 4000, 3) := by decide +kernel
theorem dX11_says_7 : decode cX11_says 7 = .ok (.if_icmp .ge 13, 3) := by decide +kernel
theorem dX11_says_10 : decode cX11_says 10 = .ok (.aload_n 0, 1) := by decide +kernel
theorem dX11_says_11 : decode cX11_says 11 = .ok (.getfield 56, 3) := by decide +kernel
theorem dX11_says_14 : decode cX11_says 14 = .ok (.aload_n 0, 1) := by decide +kernel
theorem dX11_says_15 : decode cX11_says 15 = .ok (.getfield 237, 3) := by decide +kernel
theorem dX11_says_18 : decode cX11_says 18 = .ok (.iload_n 1, 1) := by decide +kernel
theorem dX11_says_19 : decode cX11_says 19 = .ok (.iastore, 1) := by decide +kernel
theorem dX11_says_20 : decode cX11_says 20 = .ok (.aload_n 0, 1) := by decide +kernel
theorem dX11_says_21 : decode cX11_says 21 = .ok (.dup, 1) := by decide +kernel
theorem dX11_says_22 : decode cX11_says 22 = .ok (.getfield 237, 3) := by decide +kernel
theorem dX11_says_25 : decode cX11_says 25 = .ok (.iconst 1, 1) := by decide +kernel
theorem dX11_says_26 : decode cX11_says 26 = .ok (.iadd, 1) := by decide +kernel
theorem dX11_says_27 : decode cX11_says 27 = .ok (.putfield 237, 3) := by decide +kernel
theorem dX11_says_30 : decode cX11_says 30 = .ok (.return_, 1) := by decide +kernel
theorem dX11_kept_0 : decode cX11_kept 0 = .ok (.aload_n 0, 1) := by decide +kernel
theorem dX11_kept_1 : decode cX11_kept 1 = .ok (.getfield 237, 3) := by decide +kernel
theorem dX11_kept_4 : decode cX11_kept 4 = .ok (.sipush 4000, 3) := by decide +kernel
theorem dX11_kept_7 : decode cX11_kept 7 = .ok (.if_icmp .ge 10, 3) := by decide +kernel
theorem dX11_kept_10 : decode cX11_kept 10 = .ok (.aload_n 0, 1) := by decide +kernel
theorem dX11_kept_11 : decode cX11_kept 11 = .ok (.getfield 237, 3) := by decide +kernel
theorem dX11_kept_14 : decode cX11_kept 14 = .ok (.goto 6, 3) := by decide +kernel
theorem dX11_kept_17 : decode cX11_kept 17 = .ok (.sipush 4000, 3) := by decide +kernel
theorem dX11_kept_20 : decode cX11_kept 20 = .ok (.ireturn, 1) := by decide +kernel
theorem dX11_name_0 : decode cX11_name 0 = .ok (.aload_n 0, 1) := by decide +kernel
theorem dX11_name_1 : decode cX11_name 1 = .ok (.iload_n 1, 1) := by decide +kernel
theorem dX11_name_2 : decode cX11_name 2 = .ok (.invokevirtual 219, 3) := by decide +kernel
theorem dX11_name_5 : decode cX11_name 5 = .ok (.ifCond .ne 5, 3) := by decide +kernel
theorem dX11_name_8 : decode cX11_name 8 = .ok (.iconst 0, 1) := by decide +kernel
theorem dX11_name_9 : decode cX11_name 9 = .ok (.ireturn, 1) := by decide +kernel
theorem dX11_name_10 : decode cX11_name 10 = .ok (.aload_n 0, 1) := by decide +kernel
theorem dX11_name_11 : decode cX11_name 11 = .ok (.iload_n 1, 1) := by decide +kernel
theorem dX11_name_12 : decode cX11_name 12 = .ok (.invokevirtual 240, 3) := by decide +kernel
theorem dX11_name_15 : decode cX11_name 15 = .ok (.aload_n 0, 1) := by decide +kernel
theorem dX11_name_16 : decode cX11_name 16 = .ok (.iconst 0, 1) := by decide +kernel
theorem dX11_name_17 : decode cX11_name 17 = .ok (.putfield 237, 3) := by decide +kernel
theorem dX11_name_20 : decode cX11_name 20 = .ok (.iconst 0, 1) := by decide +kernel
theorem dX11_name_21 : decode cX11_name 21 = .ok (.istore_n 2, 1) := by decide +kernel
theorem dX11_name_22 : decode cX11_name 22 = .ok (.iload_n 2, 1) := by decide +kernel
theorem dX11_name_23 : decode cX11_name 23 = .ok (.aload_n 0, 1) := by decide +kernel
theorem dX11_name_24 : decode cX11_name 24 = .ok (.getfield 226, 3) := by decide +kernel
theorem dX11_name_27 : decode cX11_name 27 = .ok (.if_icmp .ge 19, 3) := by decide +kernel
theorem dX11_name_30 : decode cX11_name 30 = .ok (.aload_n 0, 1) := by decide +kernel
theorem dX11_name_31 : decode cX11_name 31 = .ok (.aload_n 0, 1) := by decide +kernel
theorem dX11_name_32 : decode cX11_name 32 = .ok (.getfield 59, 3) := by decide +kernel
theorem dX11_name_35 : decode cX11_name 35 = .ok (.iload_n 2, 1) := by decide +kernel
theorem dX11_name_36 : decode cX11_name 36 = .ok (.iaload, 1) := by decide +kernel
theorem dX11_name_37 : decode cX11_name 37 = .ok (.invokevirtual 243, 3) := by decide +kernel
theorem dX11_name_40 : decode cX11_name 40 = .ok (.iinc 2 1, 3) := by decide +kernel
theorem dX11_name_43 : decode cX11_name 43 = .ok (.goto (-21), 3) := by decide +kernel
theorem dX11_name_46 : decode cX11_name 46 = .ok (.aload_n 0, 1) := by decide +kernel
theorem dX11_name_47 : decode cX11_name 47 = .ok (.getfield 237, 3) := by decide +kernel
theorem dX11_name_50 : decode cX11_name 50 = .ok (.ireturn, 1) := by decide +kernel
theorem dX11_isLetter_0 : decode cX11_isLetter 0 = .ok (.iload_n 0, 1) := by decide +kernel
theorem dX11_isLetter_1 : decode cX11_isLetter 1 = .ok (.bipush 65, 2) := by decide +kernel
theorem dX11_isLetter_3 : decode cX11_isLetter 3 = .ok (.if_icmp .lt 9, 3) := by decide +kernel
theorem dX11_isLetter_6 : decode cX11_isLetter 6 = .ok (.iload_n 0, 1) := by decide +kernel
theorem dX11_isLetter_7 : decode cX11_isLetter 7 = .ok (.bipush 90, 2) := by decide +kernel
theorem dX11_isLetter_9 : decode cX11_isLetter 9 = .ok (.if_icmp .le 15, 3) := by decide +kernel
theorem dX11_isLetter_12 : decode cX11_isLetter 12 = .ok (.iload_n 0, 1) := by decide +kernel
theorem dX11_isLetter_13 : decode cX11_isLetter 13 = .ok (.bipush 97, 2) := by decide +kernel
theorem dX11_isLetter_15 : decode cX11_isLetter 15 = .ok (.if_icmp .lt 13, 3) := by decide +kernel
theorem dX11_isLetter_18 : decode cX11_isLetter 18 = .ok (.iload_n 0, 1) := by decide +kernel
theorem dX11_isLetter_19 : decode cX11_isLetter 19 = .ok (.bipush 122, 2) := by decide +kernel
theorem dX11_isLetter_21 : decode cX11_isLetter 21 = .ok (.if_icmp .gt 7, 3) := by decide +kernel
theorem dX11_isLetter_24 : decode cX11_isLetter 24 = .ok (.iconst 1, 1) := by decide +kernel
theorem dX11_isLetter_25 : decode cX11_isLetter 25 = .ok (.goto 4, 3) := by decide +kernel
theorem dX11_isLetter_28 : decode cX11_isLetter 28 = .ok (.iconst 0, 1) := by decide +kernel
theorem dX11_isLetter_29 : decode cX11_isLetter 29 = .ok (.ireturn, 1) := by decide +kernel
theorem dX11_nextWord_0 : decode cX11_nextWord 0 = .ok (.iload_n 1, 1) := by decide +kernel
theorem dX11_nextWord_1 : decode cX11_nextWord 1 = .ok (.istore_n 2, 1) := by decide +kernel
theorem dX11_nextWord_2 : decode cX11_nextWord 2 = .ok (.iload_n 2, 1) := by decide +kernel
theorem dX11_nextWord_3 : decode cX11_nextWord 3 = .ok (.aload_n 0, 1) := by decide +kernel
theorem dX11_nextWord_4 : decode cX11_nextWord 4 = .ok (.getfield 203, 3) := by decide +kernel
theorem dX11_nextWord_7 : decode cX11_nextWord 7 = .ok (.if_icmp .ge 18, 3) := by decide +kernel
theorem dX11_nextWord_10 : decode cX11_nextWord 10 = .ok (.aload_n 0, 1) := by decide +kernel
theorem dX11_nextWord_11 : decode cX11_nextWord 11 = .ok (.getfield 44, 3) := by decide +kernel
theorem dX11_nextWord_14 : decode cX11_nextWord 14 = .ok (.iload_n 2, 1) := by decide +kernel
theorem dX11_nextWord_15 : decode cX11_nextWord 15 = .ok (.iaload, 1) := by decide +kernel
theorem dX11_nextWord_16 : decode cX11_nextWord 16 = .ok (.ifCond .ge 9, 3) := by decide +kernel
theorem dX11_nextWord_19 : decode cX11_nextWord 19 = .ok (.iinc 2 1, 3) := by decide +kernel
theorem dX11_nextWord_22 : decode cX11_nextWord 22 = .ok (.goto (-20), 3) := by decide +kernel
theorem dX11_nextWord_25 : decode cX11_nextWord 25 = .ok (.iload_n 2, 1) := by decide +kernel
theorem dX11_nextWord_26 : decode cX11_nextWord 26 = .ok (.aload_n 0, 1) := by decide +kernel
theorem dX11_nextWord_27 : decode cX11_nextWord 27 = .ok (.getfield 203, 3) := by decide +kernel
theorem dX11_nextWord_30 : decode cX11_nextWord 30 = .ok (.if_icmp .ge 23, 3) := by decide +kernel
theorem dX11_nextWord_33 : decode cX11_nextWord 33 = .ok (.aload_n 0, 1) := by decide +kernel
theorem dX11_nextWord_34 : decode cX11_nextWord 34 = .ok (.getfield 44, 3) := by decide +kernel
theorem dX11_nextWord_37 : decode cX11_nextWord 37 = .ok (.iload_n 2, 1) := by decide +kernel
theorem dX11_nextWord_38 : decode cX11_nextWord 38 = .ok (.iaload, 1) := by decide +kernel
theorem dX11_nextWord_39 : decode cX11_nextWord 39 = .ok (.bipush 10, 2) := by decide +kernel
theorem dX11_nextWord_41 : decode cX11_nextWord 41 = .ok (.if_icmp .eq 12, 3) := by decide +kernel
theorem dX11_nextWord_44 : decode cX11_nextWord 44 = .ok (.aload_n 0, 1) := by decide +kernel
theorem dX11_nextWord_45 : decode cX11_nextWord 45 = .ok (.getfield 44, 3) := by decide +kernel
theorem dX11_nextWord_48 : decode cX11_nextWord 48 = .ok (.iload_n 2, 1) := by decide +kernel
theorem dX11_nextWord_49 : decode cX11_nextWord 49 = .ok (.iaload, 1) := by decide +kernel
theorem dX11_nextWord_50 : decode cX11_nextWord 50 = .ok (.goto 4, 3) := by decide +kernel
theorem dX11_nextWord_53 : decode cX11_nextWord 53 = .ok (.iconst 0, 1) := by decide +kernel
theorem dX11_nextWord_54 : decode cX11_nextWord 54 = .ok (.ireturn, 1) := by decide +kernel
theorem dX11_writes_0 : decode cX11_writes 0 = .ok (.aload_n 0, 1) := by decide +kernel
theorem dX11_writes_1 : decode cX11_writes 1 = .ok (.iconst 0, 1) := by decide +kernel
theorem dX11_writes_2 : decode cX11_writes 2 = .ok (.putfield 246, 3) := by decide +kernel
theorem dX11_writes_5 : decode cX11_writes 5 = .ok (.aload_n 0, 1) := by decide +kernel
theorem dX11_writes_6 : decode cX11_writes 6 = .ok (.iconst 0, 1) := by decide +kernel
theorem dX11_writes_7 : decode cX11_writes 7 = .ok (.putfield 249, 3) := by decide +kernel
theorem dX11_writes_10 : decode cX11_writes 10 = .ok (.iconst 0, 1) := by decide +kernel
theorem dX11_writes_11 : decode cX11_writes 11 = .ok (.istore_n 2, 1) := by decide +kernel
theorem dX11_writes_12 : decode cX11_writes 12 = .ok (.iload_n 1, 1) := by decide +kernel
theorem dX11_writes_13 : decode cX11_writes 13 = .ok (.istore_n 3, 1) := by decide +kernel
theorem dX11_writes_14 : decode cX11_writes 14 = .ok (.iload_n 3, 1) := by decide +kernel
theorem dX11_writes_15 : decode cX11_writes 15 = .ok (.aload_n 0, 1) := by decide +kernel
theorem dX11_writes_16 : decode cX11_writes 16 = .ok (.getfield 203, 3) := by decide +kernel
theorem dX11_writes_19 : decode cX11_writes 19 = .ok (.if_icmp .ge 229, 3) := by decide +kernel
theorem dX11_writes_22 : decode cX11_writes 22 = .ok (.aload_n 0, 1) := by decide +kernel
theorem dX11_writes_23 : decode cX11_writes 23 = .ok (.getfield 44, 3) := by decide +kernel
theorem dX11_writes_26 : decode cX11_writes 26 = .ok (.iload_n 3, 1) := by decide +kernel
theorem dX11_writes_27 : decode cX11_writes 27 = .ok (.iaload, 1) := by decide +kernel
theorem dX11_writes_28 : decode cX11_writes 28 = .ok (.bipush 10, 2) := by decide +kernel
theorem dX11_writes_30 : decode cX11_writes 30 = .ok (.if_icmp .eq 218, 3) := by decide +kernel
theorem dX11_writes_33 : decode cX11_writes 33 = .ok (.aload_n 0, 1) := by decide +kernel
theorem dX11_writes_34 : decode cX11_writes 34 = .ok (.getfield 44, 3) := by decide +kernel
theorem dX11_writes_37 : decode cX11_writes 37 = .ok (.iload_n 3, 1) := by decide +kernel
theorem dX11_writes_38 : decode cX11_writes 38 = .ok (.iaload, 1) := by decide +kernel
theorem dX11_writes_39 : decode cX11_writes 39 = .ok (.ifCond .lt 41, 3) := by decide +kernel
theorem dX11_writes_42 : decode cX11_writes 42 = .ok (.aload_n 0, 1) := by decide +kernel
theorem dX11_writes_43 : decode cX11_writes 43 = .ok (.getfield 65, 3) := by decide +kernel
theorem dX11_writes_46 : decode cX11_writes 46 = .ok (.aload_n 0, 1) := by decide +kernel
theorem dX11_writes_47 : decode cX11_writes 47 = .ok (.getfield 249, 3) := by decide +kernel
theorem dX11_writes_50 : decode cX11_writes 50 = .ok (.aload_n 0, 1) := by decide +kernel
theorem dX11_writes_51 : decode cX11_writes 51 = .ok (.getfield 44, 3) := by decide +kernel
theorem dX11_writes_54 : decode cX11_writes 54 = .ok (.iload_n 3, 1) := by decide +kernel
theorem dX11_writes_55 : decode cX11_writes 55 = .ok (.iaload, 1) := by decide +kernel
theorem dX11_writes_56 : decode cX11_writes 56 = .ok (.iastore, 1) := by decide +kernel
theorem dX11_writes_57 : decode cX11_writes 57 = .ok (.aload_n 0, 1) := by decide +kernel
theorem dX11_writes_58 : decode cX11_writes 58 = .ok (.dup, 1) := by decide +kernel
theorem dX11_writes_59 : decode cX11_writes 59 = .ok (.getfield 249, 3) := by decide +kernel
theorem dX11_writes_62 : decode cX11_writes 62 = .ok (.iconst 1, 1) := by decide +kernel
theorem dX11_writes_63 : decode cX11_writes 63 = .ok (.iadd, 1) := by decide +kernel
theorem dX11_writes_64 : decode cX11_writes 64 = .ok (.putfield 249, 3) := by decide +kernel
theorem dX11_writes_67 : decode cX11_writes 67 = .ok (.aload_n 0, 1) := by decide +kernel
theorem dX11_writes_68 : decode cX11_writes 68 = .ok (.getfield 44, 3) := by decide +kernel
theorem dX11_writes_71 : decode cX11_writes 71 = .ok (.iload_n 3, 1) := by decide +kernel
theorem dX11_writes_72 : decode cX11_writes 72 = .ok (.iaload, 1) := by decide +kernel
theorem dX11_writes_73 : decode cX11_writes 73 = .ok (.istore_n 2, 1) := by decide +kernel
theorem dX11_writes_74 : decode cX11_writes 74 = .ok (.iinc 3 1, 3) := by decide +kernel
theorem dX11_writes_77 : decode cX11_writes 77 = .ok (.goto (-63), 3) := by decide +kernel
theorem dX11_writes_80 : decode cX11_writes 80 = .ok (.iload_n 2, 1) := by decide +kernel
theorem dX11_writes_81 : decode cX11_writes 81 = .ok (.invokestatic 252, 3) := by decide +kernel
theorem dX11_writes_84 : decode cX11_writes 84 = .ok (.ifCond .eq 19, 3) := by decide +kernel
theorem dX11_writes_87 : decode cX11_writes 87 = .ok (.aload_n 0, 1) := by decide +kernel
theorem dX11_writes_88 : decode cX11_writes 88 = .ok (.iload_n 3, 1) := by decide +kernel
theorem dX11_writes_89 : decode cX11_writes 89 = .ok (.invokevirtual 255, 3) := by decide +kernel
theorem dX11_writes_92 : decode cX11_writes 92 = .ok (.invokestatic 252, 3) := by decide +kernel
theorem dX11_writes_95 : decode cX11_writes 95 = .ok (.ifCond .eq 8, 3) := by decide +kernel
theorem dX11_writes_98 : decode cX11_writes 98 = .ok (.bipush 45, 2) := by decide +kernel
theorem dX11_writes_100 : decode cX11_writes 100 = .ok (.goto 5, 3) := by decide +kernel
theorem dX11_writes_103 : decode cX11_writes 103 = .ok (.bipush 32, 2) := by decide +kernel
theorem dX11_writes_105 : decode cX11_writes 105 = .ok (.istore 4, 2) := by decide +kernel
theorem dX11_writes_107 : decode cX11_writes 107 = .ok (.aload_n 0, 1) := by decide +kernel
theorem dX11_writes_108 : decode cX11_writes 108 = .ok (.getfield 246, 3) := by decide +kernel
theorem dX11_writes_111 : decode cX11_writes 111 = .ok (.ifCond .le 40, 3) := by decide +kernel
theorem dX11_writes_114 : decode cX11_writes 114 = .ok (.aload_n 0, 1) := by decide +kernel
theorem dX11_writes_115 : decode cX11_writes 115 = .ok (.getfield 249, 3) := by decide +kernel
theorem dX11_writes_118 : decode cX11_writes 118 = .ok (.aload_n 0, 1) := by decide +kernel
theorem dX11_writes_119 : decode cX11_writes 119 = .ok (.getfield 246, 3) := by decide +kernel
theorem dX11_writes_122 : decode cX11_writes 122 = .ok (.iconst 1, 1) := by decide +kernel
theorem dX11_writes_123 : decode cX11_writes 123 = .ok (.iadd, 1) := by decide +kernel
theorem dX11_writes_124 : decode cX11_writes 124 = .ok (.if_icmp .ge 27, 3) := by decide +kernel
theorem dX11_writes_127 : decode cX11_writes 127 = .ok (.aload_n 0, 1) := by decide +kernel
theorem dX11_writes_128 : decode cX11_writes 128 = .ok (.getfield 65, 3) := by decide +kernel
theorem dX11_writes_131 : decode cX11_writes 131 = .ok (.aload_n 0, 1) := by decide +kernel
theorem dX11_writes_132 : decode cX11_writes 132 = .ok (.getfield 249, 3) := by decide +kernel
theorem dX11_writes_135 : decode cX11_writes 135 = .ok (.iload 4, 2) := by decide +kernel
theorem dX11_writes_137 : decode cX11_writes 137 = .ok (.iastore, 1) := by decide +kernel
theorem dX11_writes_138 : decode cX11_writes 138 = .ok (.aload_n 0, 1) := by decide +kernel
theorem dX11_writes_139 : decode cX11_writes 139 = .ok (.dup, 1) := by decide +kernel
theorem dX11_writes_140 : decode cX11_writes 140 = .ok (.getfield 249, 3) := by decide +kernel
theorem dX11_writes_143 : decode cX11_writes 143 = .ok (.iconst 1, 1) := by decide +kernel
theorem dX11_writes_144 : decode cX11_writes 144 = .ok (.iadd, 1) := by decide +kernel
theorem dX11_writes_145 : decode cX11_writes 145 = .ok (.putfield 249, 3) := by decide +kernel
theorem dX11_writes_148 : decode cX11_writes 148 = .ok (.goto (-41), 3) := by decide +kernel
theorem dX11_writes_151 : decode cX11_writes 151 = .ok (.aload_n 0, 1) := by decide +kernel
theorem dX11_writes_152 : decode cX11_writes 152 = .ok (.getfield 246, 3) := by decide +kernel
theorem dX11_writes_155 : decode cX11_writes 155 = .ok (.aload_n 0, 1) := by decide +kernel
theorem dX11_writes_156 : decode cX11_writes 156 = .ok (.getfield 249, 3) := by decide +kernel
theorem dX11_writes_159 : decode cX11_writes 159 = .ok (.if_icmp .ge 27, 3) := by decide +kernel
theorem dX11_writes_162 : decode cX11_writes 162 = .ok (.aload_n 0, 1) := by decide +kernel
theorem dX11_writes_163 : decode cX11_writes 163 = .ok (.getfield 62, 3) := by decide +kernel
theorem dX11_writes_166 : decode cX11_writes 166 = .ok (.aload_n 0, 1) := by decide +kernel
theorem dX11_writes_167 : decode cX11_writes 167 = .ok (.getfield 246, 3) := by decide +kernel
theorem dX11_writes_170 : decode cX11_writes 170 = .ok (.bipush 32, 2) := by decide +kernel
theorem dX11_writes_172 : decode cX11_writes 172 = .ok (.iastore, 1) := by decide +kernel
theorem dX11_writes_173 : decode cX11_writes 173 = .ok (.aload_n 0, 1) := by decide +kernel
theorem dX11_writes_174 : decode cX11_writes 174 = .ok (.dup, 1) := by decide +kernel
theorem dX11_writes_175 : decode cX11_writes 175 = .ok (.getfield 246, 3) := by decide +kernel
theorem dX11_writes_178 : decode cX11_writes 178 = .ok (.iconst 1, 1) := by decide +kernel
theorem dX11_writes_179 : decode cX11_writes 179 = .ok (.iadd, 1) := by decide +kernel
theorem dX11_writes_180 : decode cX11_writes 180 = .ok (.putfield 246, 3) := by decide +kernel
theorem dX11_writes_183 : decode cX11_writes 183 = .ok (.goto (-32), 3) := by decide +kernel
theorem dX11_writes_186 : decode cX11_writes 186 = .ok (.aload_n 0, 1) := by decide +kernel
theorem dX11_writes_187 : decode cX11_writes 187 = .ok (.iconst (-1), 1) := by decide +kernel
theorem dX11_writes_188 : decode cX11_writes 188 = .ok (.aload_n 0, 1) := by decide +kernel
theorem dX11_writes_189 : decode cX11_writes 189 = .ok (.getfield 44, 3) := by decide +kernel
theorem dX11_writes_192 : decode cX11_writes 192 = .ok (.iload_n 3, 1) := by decide +kernel
theorem dX11_writes_193 : decode cX11_writes 193 = .ok (.iaload, 1) := by decide +kernel
theorem dX11_writes_194 : decode cX11_writes 194 = .ok (.isub, 1) := by decide +kernel
theorem dX11_writes_195 : decode cX11_writes 195 = .ok (.invokevirtual 240, 3) := by decide +kernel
theorem dX11_writes_198 : decode cX11_writes 198 = .ok (.iconst 0, 1) := by decide +kernel
theorem dX11_writes_199 : decode cX11_writes 199 = .ok (.istore 5, 2) := by decide +kernel
theorem dX11_writes_201 : decode cX11_writes 201 = .ok (.iload 5, 2) := by decide +kernel
theorem dX11_writes_203 : decode cX11_writes 203 = .ok (.aload_n 0, 1) := by decide +kernel
theorem dX11_writes_204 : decode cX11_writes 204 = .ok (.getfield 226, 3) := by decide +kernel
theorem dX11_writes_207 : decode cX11_writes 207 = .ok (.if_icmp .ge 35, 3) := by decide +kernel
theorem dX11_writes_210 : decode cX11_writes 210 = .ok (.aload_n 0, 1) := by decide +kernel
theorem dX11_writes_211 : decode cX11_writes 211 = .ok (.getfield 62, 3) := by decide +kernel
theorem dX11_writes_214 : decode cX11_writes 214 = .ok (.aload_n 0, 1) := by decide +kernel
theorem dX11_writes_215 : decode cX11_writes 215 = .ok (.getfield 246, 3) := by decide +kernel
theorem dX11_writes_218 : decode cX11_writes 218 = .ok (.aload_n 0, 1) := by decide +kernel
theorem dX11_writes_219 : decode cX11_writes 219 = .ok (.getfield 59, 3) := by decide +kernel
theorem dX11_writes_222 : decode cX11_writes 222 = .ok (.iload 5, 2) := by decide +kernel
theorem dX11_writes_224 : decode cX11_writes 224 = .ok (.iaload, 1) := by decide +kernel
theorem dX11_writes_225 : decode cX11_writes 225 = .ok (.iastore, 1) := by decide +kernel
theorem dX11_writes_226 : decode cX11_writes 226 = .ok (.aload_n 0, 1) := by decide +kernel
theorem dX11_writes_227 : decode cX11_writes 227 = .ok (.dup, 1) := by decide +kernel
theorem dX11_writes_228 : decode cX11_writes 228 = .ok (.getfield 246, 3) := by decide +kernel
theorem dX11_writes_231 : decode cX11_writes 231 = .ok (.iconst 1, 1) := by decide +kernel
theorem dX11_writes_232 : decode cX11_writes 232 = .ok (.iadd, 1) := by decide +kernel
theorem dX11_writes_233 : decode cX11_writes 233 = .ok (.putfield 246, 3) := by decide +kernel
theorem dX11_writes_236 : decode cX11_writes 236 = .ok (.iinc 5 1, 3) := by decide +kernel
theorem dX11_writes_239 : decode cX11_writes 239 = .ok (.goto (-38), 3) := by decide +kernel
theorem dX11_writes_242 : decode cX11_writes 242 = .ok (.iinc 3 1, 3) := by decide +kernel
theorem dX11_writes_245 : decode cX11_writes 245 = .ok (.goto (-231), 3) := by decide +kernel
theorem dX11_writes_248 : decode cX11_writes 248 = .ok (.iload_n 3, 1) := by decide +kernel
theorem dX11_writes_249 : decode cX11_writes 249 = .ok (.ireturn, 1) := by decide +kernel
theorem dX11_write_0 : decode cX11_write 0 = .ok (.aload_n 0, 1) := by decide +kernel
theorem dX11_write_1 : decode cX11_write 1 = .ok (.iconst 0, 1) := by decide +kernel
theorem dX11_write_2 : decode cX11_write 2 = .ok (.putfield 89, 3) := by decide +kernel
theorem dX11_write_5 : decode cX11_write 5 = .ok (.aload_n 0, 1) := by decide +kernel
theorem dX11_write_6 : decode cX11_write 6 = .ok (.iconst 0, 1) := by decide +kernel
theorem dX11_write_7 : decode cX11_write 7 = .ok (.putfield 237, 3) := by decide +kernel
theorem dX11_write_10 : decode cX11_write 10 = .ok (.aload_n 0, 1) := by decide +kernel
theorem dX11_write_11 : decode cX11_write 11 = .ok (.getfield 206, 3) := by decide +kernel
theorem dX11_write_14 : decode cX11_write 14 = .ok (.ifCond .ne 5, 3) := by decide +kernel
theorem dX11_write_17 : decode cX11_write 17 = .ok (.iconst 0, 1) := by decide +kernel
theorem dX11_write_18 : decode cX11_write 18 = .ok (.ireturn, 1) := by decide +kernel
theorem dX11_write_19 : decode cX11_write 19 = .ok (.iconst 0, 1) := by decide +kernel
theorem dX11_write_20 : decode cX11_write 20 = .ok (.istore_n 1, 1) := by decide +kernel
theorem dX11_write_21 : decode cX11_write 21 = .ok (.iconst 0, 1) := by decide +kernel
theorem dX11_write_22 : decode cX11_write 22 = .ok (.istore_n 2, 1) := by decide +kernel
theorem dX11_write_23 : decode cX11_write 23 = .ok (.iload_n 2, 1) := by decide +kernel
theorem dX11_write_24 : decode cX11_write 24 = .ok (.aload_n 0, 1) := by decide +kernel
theorem dX11_write_25 : decode cX11_write 25 = .ok (.getfield 200, 3) := by decide +kernel
theorem dX11_write_28 : decode cX11_write 28 = .ok (.if_icmp .ge 100, 3) := by decide +kernel
theorem dX11_write_31 : decode cX11_write 31 = .ok (.iload_n 2, 1) := by decide +kernel
theorem dX11_write_32 : decode cX11_write 32 = .ok (.ifCond .le 9, 3) := by decide +kernel
theorem dX11_write_35 : decode cX11_write 35 = .ok (.aload_n 0, 1) := by decide +kernel
theorem dX11_write_36 : decode cX11_write 36 = .ok (.bipush 10, 2) := by decide +kernel
theorem dX11_write_38 : decode cX11_write 38 = .ok (.invokevirtual 243, 3) := by decide +kernel
theorem dX11_write_41 : decode cX11_write 41 = .ok (.aload_n 0, 1) := by decide +kernel
theorem dX11_write_42 : decode cX11_write 42 = .ok (.iload_n 1, 1) := by decide +kernel
theorem dX11_write_43 : decode cX11_write 43 = .ok (.invokevirtual 258, 3) := by decide +kernel
theorem dX11_write_46 : decode cX11_write 46 = .ok (.istore_n 3, 1) := by decide +kernel
theorem dX11_write_47 : decode cX11_write 47 = .ok (.iconst 0, 1) := by decide +kernel
theorem dX11_write_48 : decode cX11_write 48 = .ok (.istore 4, 2) := by decide +kernel
theorem dX11_write_50 : decode cX11_write 50 = .ok (.iload 4, 2) := by decide +kernel
theorem dX11_write_52 : decode cX11_write 52 = .ok (.aload_n 0, 1) := by decide +kernel
theorem dX11_write_53 : decode cX11_write 53 = .ok (.getfield 246, 3) := by decide +kernel
theorem dX11_write_56 : decode cX11_write 56 = .ok (.if_icmp .ge 20, 3) := by decide +kernel
theorem dX11_write_59 : decode cX11_write 59 = .ok (.aload_n 0, 1) := by decide +kernel
theorem dX11_write_60 : decode cX11_write 60 = .ok (.aload_n 0, 1) := by decide +kernel
theorem dX11_write_61 : decode cX11_write 61 = .ok (.getfield 62, 3) := by decide +kernel
theorem dX11_write_64 : decode cX11_write 64 = .ok (.iload 4, 2) := by decide +kernel
theorem dX11_write_66 : decode cX11_write 66 = .ok (.iaload, 1) := by decide +kernel
theorem dX11_write_67 : decode cX11_write 67 = .ok (.invokevirtual 243, 3) := by decide +kernel
theorem dX11_write_70 : decode cX11_write 70 = .ok (.iinc 4 1, 3) := by decide +kernel
theorem dX11_write_73 : decode cX11_write 73 = .ok (.goto (-23), 3) := by decide +kernel
theorem dX11_write_76 : decode cX11_write 76 = .ok (.aload_n 0, 1) := by decide +kernel
theorem dX11_write_77 : decode cX11_write 77 = .ok (.getfield 246, 3) := by decide +kernel
theorem dX11_write_80 : decode cX11_write 80 = .ok (.ifCond .le 9, 3) := by decide +kernel
theorem dX11_write_83 : decode cX11_write 83 = .ok (.aload_n 0, 1) := by decide +kernel
theorem dX11_write_84 : decode cX11_write 84 = .ok (.bipush 10, 2) := by decide +kernel
theorem dX11_write_86 : decode cX11_write 86 = .ok (.invokevirtual 243, 3) := by decide +kernel
theorem dX11_write_89 : decode cX11_write 89 = .ok (.iconst 0, 1) := by decide +kernel
theorem dX11_write_90 : decode cX11_write 90 = .ok (.istore 4, 2) := by decide +kernel
theorem dX11_write_92 : decode cX11_write 92 = .ok (.iload 4, 2) := by decide +kernel
theorem dX11_write_94 : decode cX11_write 94 = .ok (.aload_n 0, 1) := by decide +kernel
theorem dX11_write_95 : decode cX11_write 95 = .ok (.getfield 249, 3) := by decide +kernel
theorem dX11_write_98 : decode cX11_write 98 = .ok (.if_icmp .ge 20, 3) := by decide +kernel
theorem dX11_write_101 : decode cX11_write 101 = .ok (.aload_n 0, 1) := by decide +kernel
theorem dX11_write_102 : decode cX11_write 102 = .ok (.aload_n 0, 1) := by decide +kernel
theorem dX11_write_103 : decode cX11_write 103 = .ok (.getfield 65, 3) := by decide +kernel
theorem dX11_write_106 : decode cX11_write 106 = .ok (.iload 4, 2) := by decide +kernel
theorem dX11_write_108 : decode cX11_write 108 = .ok (.iaload, 1) := by decide +kernel
theorem dX11_write_109 : decode cX11_write 109 = .ok (.invokevirtual 243, 3) := by decide +kernel
theorem dX11_write_112 : decode cX11_write 112 = .ok (.iinc 4 1, 3) := by decide +kernel
theorem dX11_write_115 : decode cX11_write 115 = .ok (.goto (-23), 3) := by decide +kernel
theorem dX11_write_118 : decode cX11_write 118 = .ok (.iload_n 3, 1) := by decide +kernel
theorem dX11_write_119 : decode cX11_write 119 = .ok (.iconst 1, 1) := by decide +kernel
theorem dX11_write_120 : decode cX11_write 120 = .ok (.iadd, 1) := by decide +kernel
theorem dX11_write_121 : decode cX11_write 121 = .ok (.istore_n 1, 1) := by decide +kernel
theorem dX11_write_122 : decode cX11_write 122 = .ok (.iinc 2 1, 3) := by decide +kernel
theorem dX11_write_125 : decode cX11_write 125 = .ok (.goto (-102), 3) := by decide +kernel
theorem dX11_write_128 : decode cX11_write 128 = .ok (.aload_n 0, 1) := by decide +kernel
theorem dX11_write_129 : decode cX11_write 129 = .ok (.getfield 237, 3) := by decide +kernel
theorem dX11_write_132 : decode cX11_write 132 = .ok (.ireturn, 1) := by decide +kernel
theorem dX11_told_0 : decode cX11_told 0 = .ok (.aload_n 0, 1) := by decide +kernel
theorem dX11_told_1 : decode cX11_told 1 = .ok (.iconst 0, 1) := by decide +kernel
theorem dX11_told_2 : decode cX11_told 2 = .ok (.putfield 89, 3) := by decide +kernel
theorem dX11_told_5 : decode cX11_told 5 = .ok (.aload_n 0, 1) := by decide +kernel
theorem dX11_told_6 : decode cX11_told 6 = .ok (.iload_n 1, 1) := by decide +kernel
theorem dX11_told_7 : decode cX11_told 7 = .ok (.ifCond .lt 15, 3) := by decide +kernel
theorem dX11_told_10 : decode cX11_told 10 = .ok (.iload_n 1, 1) := by decide +kernel
theorem dX11_told_11 : decode cX11_told 11 = .ok (.aload_n 0, 1) := by decide +kernel
theorem dX11_told_12 : decode cX11_told 12 = .ok (.invokevirtual 261, 3) := by decide +kernel
theorem dX11_told_15 : decode cX11_told 15 = .ok (.if_icmp .ge 7, 3) := by decide +kernel
theorem dX11_told_18 : decode cX11_told 18 = .ok (.iconst 1, 1) := by decide +kernel
theorem dX11_told_19 : decode cX11_told 19 = .ok (.goto 4, 3) := by decide +kernel
theorem dX11_told_22 : decode cX11_told 22 = .ok (.iconst 0, 1) := by decide +kernel
theorem dX11_told_23 : decode cX11_told 23 = .ok (.iconst 1, 1) := by decide +kernel
theorem dX11_told_24 : decode cX11_told 24 = .ok (.invokevirtual 190, 3) := by decide +kernel
theorem dX11_told_27 : decode cX11_told 27 = .ok (.ifCond .eq 12, 3) := by decide +kernel
theorem dX11_told_30 : decode cX11_told 30 = .ok (.aload_n 0, 1) := by decide +kernel
theorem dX11_told_31 : decode cX11_told 31 = .ok (.getfield 56, 3) := by decide +kernel
theorem dX11_told_34 : decode cX11_told 34 = .ok (.iload_n 1, 1) := by decide +kernel
theorem dX11_told_35 : decode cX11_told 35 = .ok (.iaload, 1) := by decide +kernel
theorem dX11_told_36 : decode cX11_told 36 = .ok (.goto 4, 3) := by decide +kernel
theorem dX11_told_39 : decode cX11_told 39 = .ok (.iconst 0, 1) := by decide +kernel
theorem dX11_told_40 : decode cX11_told 40 = .ok (.ireturn, 1) := by decide +kernel
theorem dX11_string_0 : decode cX11_string 0 = .ok (.aload_n 0, 1) := by decide +kernel
theorem dX11_string_1 : decode cX11_string 1 = .ok (.iconst 0, 1) := by decide +kernel
theorem dX11_string_2 : decode cX11_string 2 = .ok (.putfield 89, 3) := by decide +kernel
theorem dX11_string_5 : decode cX11_string 5 = .ok (.aload_n 0, 1) := by decide +kernel
theorem dX11_string_6 : decode cX11_string 6 = .ok (.iload_n 1, 1) := by decide +kernel
theorem dX11_string_7 : decode cX11_string 7 = .ok (.ifCond .lt 13, 3) := by decide +kernel
theorem dX11_string_10 : decode cX11_string 10 = .ok (.iload_n 1, 1) := by decide +kernel
theorem dX11_string_11 : decode cX11_string 11 = .ok (.bipush 60, 2) := by decide +kernel
theorem dX11_string_13 : decode cX11_string 13 = .ok (.if_icmp .gt 7, 3) := by decide +kernel
theorem dX11_string_16 : decode cX11_string 16 = .ok (.iconst 1, 1) := by decide +kernel
theorem dX11_string_17 : decode cX11_string 17 = .ok (.goto 4, 3) := by decide +kernel
theorem dX11_string_20 : decode cX11_string 20 = .ok (.iconst 0, 1) := by decide +kernel
theorem dX11_string_21 : decode cX11_string 21 = .ok (.iconst 1, 1) := by decide +kernel
theorem dX11_string_22 : decode cX11_string 22 = .ok (.invokevirtual 190, 3) := by decide +kernel
theorem dX11_string_25 : decode cX11_string 25 = .ok (.ifCond .ne 5, 3) := by decide +kernel
theorem dX11_string_28 : decode cX11_string 28 = .ok (.iconst 0, 1) := by decide +kernel
theorem dX11_string_29 : decode cX11_string 29 = .ok (.ireturn, 1) := by decide +kernel
theorem dX11_string_30 : decode cX11_string 30 = .ok (.aload_n 0, 1) := by decide +kernel
theorem dX11_string_31 : decode cX11_string 31 = .ok (.getfield 264, 3) := by decide +kernel
theorem dX11_string_34 : decode cX11_string 34 = .ok (.bipush 6, 2) := by decide +kernel
theorem dX11_string_36 : decode cX11_string 36 = .ok (.if_icmp .ne 5, 3) := by decide +kernel
theorem dX11_string_39 : decode cX11_string 39 = .ok (.iconst (-1), 1) := by decide +kernel
theorem dX11_string_40 : decode cX11_string 40 = .ok (.ireturn, 1) := by decide +kernel
theorem dX11_string_41 : decode cX11_string 41 = .ok (.aload_n 0, 1) := by decide +kernel
theorem dX11_string_42 : decode cX11_string 42 = .ok (.getfield 50, 3) := by decide +kernel
theorem dX11_string_45 : decode cX11_string 45 = .ok (.aload_n 0, 1) := by decide +kernel
theorem dX11_string_46 : decode cX11_string 46 = .ok (.getfield 264, 3) := by decide +kernel
theorem dX11_string_49 : decode cX11_string 49 = .ok (.iload_n 1, 1) := by decide +kernel
theorem dX11_string_50 : decode cX11_string 50 = .ok (.iastore, 1) := by decide +kernel
theorem dX11_string_51 : decode cX11_string 51 = .ok (.aload_n 0, 1) := by decide +kernel
theorem dX11_string_52 : decode cX11_string 52 = .ok (.dup, 1) := by decide +kernel
theorem dX11_string_53 : decode cX11_string 53 = .ok (.getfield 264, 3) := by decide +kernel
theorem dX11_string_56 : decode cX11_string 56 = .ok (.iconst 1, 1) := by decide +kernel
theorem dX11_string_57 : decode cX11_string 57 = .ok (.iadd, 1) := by decide +kernel
theorem dX11_string_58 : decode cX11_string 58 = .ok (.putfield 264, 3) := by decide +kernel
theorem dX11_string_61 : decode cX11_string 61 = .ok (.aload_n 0, 1) := by decide +kernel
theorem dX11_string_62 : decode cX11_string 62 = .ok (.invokevirtual 210, 3) := by decide +kernel
theorem dX11_string_65 : decode cX11_string 65 = .ok (.aload_n 0, 1) := by decide +kernel
theorem dX11_string_66 : decode cX11_string 66 = .ok (.getfield 264, 3) := by decide +kernel
theorem dX11_string_69 : decode cX11_string 69 = .ok (.ireturn, 1) := by decide +kernel
theorem dX11_unstring_0 : decode cX11_unstring 0 = .ok (.aload_n 0, 1) := by decide +kernel
theorem dX11_unstring_1 : decode cX11_unstring 1 = .ok (.iconst 0, 1) := by decide +kernel
theorem dX11_unstring_2 : decode cX11_unstring 2 = .ok (.putfield 89, 3) := by decide +kernel
theorem dX11_unstring_5 : decode cX11_unstring 5 = .ok (.aload_n 0, 1) := by decide +kernel
theorem dX11_unstring_6 : decode cX11_unstring 6 = .ok (.getfield 264, 3) := by decide +kernel
theorem dX11_unstring_9 : decode cX11_unstring 9 = .ok (.istore_n 1, 1) := by decide +kernel
theorem dX11_unstring_10 : decode cX11_unstring 10 = .ok (.aload_n 0, 1) := by decide +kernel
theorem dX11_unstring_11 : decode cX11_unstring 11 = .ok (.iconst 0, 1) := by decide +kernel
theorem dX11_unstring_12 : decode cX11_unstring 12 = .ok (.putfield 264, 3) := by decide +kernel
theorem dX11_unstring_15 : decode cX11_unstring 15 = .ok (.aload_n 0, 1) := by decide +kernel
theorem dX11_unstring_16 : decode cX11_unstring 16 = .ok (.invokevirtual 210, 3) := by decide +kernel
theorem dX11_unstring_19 : decode cX11_unstring 19 = .ok (.iload_n 1, 1) := by decide +kernel
theorem dX11_unstring_20 : decode cX11_unstring 20 = .ok (.ireturn, 1) := by decide +kernel
theorem dX11_changes_0 : decode cX11_changes 0 = .ok (.iconst 0, 1) := by decide +kernel
theorem dX11_changes_1 : decode cX11_changes 1 = .ok (.istore_n 1, 1) := by decide +kernel
theorem dX11_changes_2 : decode cX11_changes 2 = .ok (.iload_n 1, 1) := by decide +kernel
theorem dX11_changes_3 : decode cX11_changes 3 = .ok (.sipush 480, 3) := by decide +kernel
theorem dX11_changes_6 : decode cX11_changes 6 = .ok (.if_icmp .ge 16, 3) := by decide +kernel
theorem dX11_changes_9 : decode cX11_changes 9 = .ok (.aload_n 0, 1) := by decide +kernel
theorem dX11_changes_10 : decode cX11_changes 10 = .ok (.getfield 68, 3) := by decide +kernel
theorem dX11_changes_13 : decode cX11_changes 13 = .ok (.iload_n 1, 1) := by decide +kernel
theorem dX11_changes_14 : decode cX11_changes 14 = .ok (.iconst (-1), 1) := by decide +kernel
theorem dX11_changes_15 : decode cX11_changes 15 = .ok (.iastore, 1) := by decide +kernel
theorem dX11_changes_16 : decode cX11_changes 16 = .ok (.iinc 1 1, 3) := by decide +kernel
theorem dX11_changes_19 : decode cX11_changes 19 = .ok (.goto (-17), 3) := by decide +kernel
theorem dX11_changes_22 : decode cX11_changes 22 = .ok (.aload_n 0, 1) := by decide +kernel
theorem dX11_changes_23 : decode cX11_changes 23 = .ok (.iconst (-1), 1) := by decide +kernel
theorem dX11_changes_24 : decode cX11_changes 24 = .ok (.putfield 17, 3) := by decide +kernel
theorem dX11_changes_27 : decode cX11_changes 27 = .ok (.return_, 1) := by decide +kernel
theorem dX11_find_0 : decode cX11_find 0 = .ok (.bipush 8, 2) := by decide +kernel
theorem dX11_find_2 : decode cX11_find 2 = .ok (.iload_n 1, 1) := by decide +kernel
theorem dX11_find_3 : decode cX11_find 3 = .ok (.imul, 1) := by decide +kernel
theorem dX11_find_4 : decode cX11_find 4 = .ok (.iload_n 2, 1) := by decide +kernel
theorem dX11_find_5 : decode cX11_find 5 = .ok (.iadd, 1) := by decide +kernel
theorem dX11_find_6 : decode cX11_find 6 = .ok (.istore_n 3, 1) := by decide +kernel
theorem dX11_find_7 : decode cX11_find 7 = .ok (.aload_n 0, 1) := by decide +kernel
theorem dX11_find_8 : decode cX11_find 8 = .ok (.getfield 68, 3) := by decide +kernel
theorem dX11_find_11 : decode cX11_find 11 = .ok (.iload_n 3, 1) := by decide +kernel
theorem dX11_find_12 : decode cX11_find 12 = .ok (.iaload, 1) := by decide +kernel
theorem dX11_find_13 : decode cX11_find 13 = .ok (.iconst (-1), 1) := by decide +kernel
theorem dX11_find_14 : decode cX11_find 14 = .ok (.if_icmp .eq 10, 3) := by decide +kernel
theorem dX11_find_17 : decode cX11_find 17 = .ok (.aload_n 0, 1) := by decide +kernel
theorem dX11_find_18 : decode cX11_find 18 = .ok (.getfield 68, 3) := by decide +kernel
theorem dX11_find_21 : decode cX11_find 21 = .ok (.iload_n 3, 1) := by decide +kernel
theorem dX11_find_22 : decode cX11_find 22 = .ok (.iaload, 1) := by decide +kernel
theorem dX11_find_23 : decode cX11_find 23 = .ok (.ireturn, 1) := by decide +kernel
theorem dX11_find_24 : decode cX11_find 24 = .ok (.aload_n 0, 1) := by decide +kernel
theorem dX11_find_25 : decode cX11_find 25 = .ok (.getfield 68, 3) := by decide +kernel
theorem dX11_find_28 : decode cX11_find 28 = .ok (.iload_n 3, 1) := by decide +kernel
theorem dX11_find_29 : decode cX11_find 29 = .ok (.iconst 0, 1) := by decide +kernel
theorem dX11_find_30 : decode cX11_find 30 = .ok (.iastore, 1) := by decide +kernel
theorem dX11_find_31 : decode cX11_find 31 = .ok (.aload_n 0, 1) := by decide +kernel
theorem dX11_find_32 : decode cX11_find 32 = .ok (.iload_n 1, 1) := by decide +kernel
theorem dX11_find_33 : decode cX11_find 33 = .ok (.invokevirtual 223, 3) := by decide +kernel
theorem dX11_find_36 : decode cX11_find 36 = .ok (.istore 4, 2) := by decide +kernel
theorem dX11_find_38 : decode cX11_find 38 = .ok (.iconst 0, 1) := by decide +kernel
theorem dX11_find_39 : decode cX11_find 39 = .ok (.istore 5, 2) := by decide +kernel
theorem dX11_find_41 : decode cX11_find 41 = .ok (.aload_n 0, 1) := by decide +kernel
theorem dX11_find_42 : decode cX11_find 42 = .ok (.getfield 77, 3) := by decide +kernel
theorem dX11_find_45 : decode cX11_find 45 = .ok (.iconst 0, 1) := by decide +kernel
theorem dX11_find_46 : decode cX11_find 46 = .ok (.bipush (-2), 2) := by decide +kernel
theorem dX11_find_48 : decode cX11_find 48 = .ok (.iastore, 1) := by decide +kernel
theorem dX11_find_49 : decode cX11_find 49 = .ok (.aload_n 0, 1) := by decide +kernel
theorem dX11_find_50 : decode cX11_find 50 = .ok (.getfield 80, 3) := by decide +kernel
theorem dX11_find_53 : decode cX11_find 53 = .ok (.iconst 0, 1) := by decide +kernel
theorem dX11_find_54 : decode cX11_find 54 = .ok (.bipush 99, 2) := by decide +kernel
theorem dX11_find_56 : decode cX11_find 56 = .ok (.iastore, 1) := by decide +kernel
theorem dX11_find_57 : decode cX11_find 57 = .ok (.aload_n 0, 1) := by decide +kernel
theorem dX11_find_58 : decode cX11_find 58 = .ok (.getfield 83, 3) := by decide +kernel
theorem dX11_find_61 : decode cX11_find 61 = .ok (.iconst 0, 1) := by decide +kernel
theorem dX11_find_62 : decode cX11_find 62 = .ok (.iconst 0, 1) := by decide +kernel
theorem dX11_find_63 : decode cX11_find 63 = .ok (.iastore, 1) := by decide +kernel
theorem dX11_find_64 : decode cX11_find 64 = .ok (.iload 5, 2) := by decide +kernel
theorem dX11_find_66 : decode cX11_find 66 = .ok (.ifCond .lt 239, 3) := by decide +kernel
theorem dX11_find_69 : decode cX11_find 69 = .ok (.aload_n 0, 1) := by decide +kernel
theorem dX11_find_70 : decode cX11_find 70 = .ok (.getfield 264, 3) := by decide +kernel
theorem dX11_find_73 : decode cX11_find 73 = .ok (.ifCond .le 232, 3) := by decide +kernel
theorem dX11_find_76 : decode cX11_find 76 = .ok (.aload_n 0, 1) := by decide +kernel
theorem dX11_find_77 : decode cX11_find 77 = .ok (.getfield 77, 3) := by decide +kernel
theorem dX11_find_80 : decode cX11_find 80 = .ok (.iload 5, 2) := by decide +kernel
theorem dX11_find_82 : decode cX11_find 82 = .ok (.dup2, 1) := by decide +kernel
theorem dX11_find_83 : decode cX11_find 83 = .ok (.iaload, 1) := by decide +kernel
theorem dX11_find_84 : decode cX11_find 84 = .ok (.iconst 1, 1) := by decide +kernel
theorem dX11_find_85 : decode cX11_find 85 = .ok (.iadd, 1) := by decide +kernel
theorem dX11_find_86 : decode cX11_find 86 = .ok (.iastore, 1) := by decide +kernel
theorem dX11_find_87 : decode cX11_find 87 = .ok (.aload_n 0, 1) := by decide +kernel
theorem dX11_find_88 : decode cX11_find 88 = .ok (.getfield 77, 3) := by decide +kernel
theorem dX11_find_91 : decode cX11_find 91 = .ok (.iload 5, 2) := by decide +kernel
theorem dX11_find_93 : decode cX11_find 93 = .ok (.iaload, 1) := by decide +kernel
theorem dX11_find_94 : decode cX11_find 94 = .ok (.istore 6, 2) := by decide +kernel
theorem dX11_find_96 : decode cX11_find 96 = .ok (.iload 6, 2) := by decide +kernel
theorem dX11_find_98 : decode cX11_find 98 = .ok (.bipush 9, 2) := by decide +kernel
theorem dX11_find_100 : decode cX11_find 100 = .ok (.if_icmp .le 9, 3) := by decide +kernel
theorem dX11_find_103 : decode cX11_find 103 = .ok (.iinc 5 (-1), 3) := by decide +kernel
theorem dX11_find_106 : decode cX11_find 106 = .ok (.goto (-42), 3) := by decide +kernel
theorem dX11_find_109 : decode cX11_find 109 = .ok (.iload 6, 2) := by decide +kernel
theorem dX11_find_111 : decode cX11_find 111 = .ok (.ifCond .lt 29, 3) := by decide +kernel
theorem dX11_find_114 : decode cX11_find 114 = .ok (.iload 4, 2) := by decide +kernel
theorem dX11_find_116 : decode cX11_find 116 = .ok (.aload_n 0, 1) := by decide +kernel
theorem dX11_find_117 : decode cX11_find 117 = .ok (.getfield 50, 3) := by decide +kernel
theorem dX11_find_120 : decode cX11_find 120 = .ok (.iload 5, 2) := by decide +kernel
theorem dX11_find_122 : decode cX11_find 122 = .ok (.iaload, 1) := by decide +kernel
theorem dX11_find_123 : decode cX11_find 123 = .ok (.iload_n 2, 1) := by decide +kernel
theorem dX11_find_124 : decode cX11_find 124 = .ok (.iadd, 1) := by decide +kernel
theorem dX11_find_125 : decode cX11_find 125 = .ok (.iload 6, 2) := by decide +kernel
theorem dX11_find_127 : decode cX11_find 127 = .ok (.iadd, 1) := by decide +kernel
theorem dX11_find_128 : decode cX11_find 128 = .ok (.bipush 12, 2) := by decide +kernel
theorem dX11_find_130 : decode cX11_find 130 = .ok (.irem, 1) := by decide +kernel
theorem dX11_find_131 : decode cX11_find 131 = .ok (.ishr, 1) := by decide +kernel
theorem dX11_find_132 : decode cX11_find 132 = .ok (.iconst 1, 1) := by decide +kernel
theorem dX11_find_133 : decode cX11_find 133 = .ok (.iand, 1) := by decide +kernel
theorem dX11_find_134 : decode cX11_find 134 = .ok (.ifCond .ne 6, 3) := by decide +kernel
theorem dX11_find_137 : decode cX11_find 137 = .ok (.goto (-73), 3) := by decide +kernel
theorem dX11_find_140 : decode cX11_find 140 = .ok (.aload_n 0, 1) := by decide +kernel
theorem dX11_find_141 : decode cX11_find 141 = .ok (.getfield 80, 3) := by decide +kernel
theorem dX11_find_144 : decode cX11_find 144 = .ok (.iload 5, 2) := by decide +kernel
theorem dX11_find_146 : decode cX11_find 146 = .ok (.iconst 1, 1) := by decide +kernel
theorem dX11_find_147 : decode cX11_find 147 = .ok (.iadd, 1) := by decide +kernel
theorem dX11_find_148 : decode cX11_find 148 = .ok (.iload 6, 2) := by decide +kernel
theorem dX11_find_150 : decode cX11_find 150 = .ok (.ifCond .le 20, 3) := by decide +kernel
theorem dX11_find_153 : decode cX11_find 153 = .ok (.iload 6, 2) := by decide +kernel
theorem dX11_find_155 : decode cX11_find 155 = .ok (.aload_n 0, 1) := by decide +kernel
theorem dX11_find_156 : decode cX11_find 156 = .ok (.getfield 80, 3) := by decide +kernel
theorem dX11_find_159 : decode cX11_find 159 = .ok (.iload 5, 2) := by decide +kernel
theorem dX11_find_161 : decode cX11_find 161 = .ok (.iaload, 1) := by decide +kernel
theorem dX11_find_162 : decode cX11_find 162 = .ok (.if_icmp .ge 8, 3) := by decide +kernel
theorem dX11_find_165 : decode cX11_find 165 = .ok (.iload 6, 2) := by decide +kernel
theorem dX11_find_167 : decode cX11_find 167 = .ok (.goto 10, 3) := by decide +kernel
theorem dX11_find_170 : decode cX11_find 170 = .ok (.aload_n 0, 1) := by decide +kernel
theorem dX11_find_171 : decode cX11_find 171 = .ok (.getfield 80, 3) := by decide +kernel
theorem dX11_find_174 : decode cX11_find 174 = .ok (.iload 5, 2) := by decide +kernel
theorem dX11_find_176 : decode cX11_find 176 = .ok (.iaload, 1) := by decide +kernel
theorem dX11_find_177 : decode cX11_find 177 = .ok (.iastore, 1) := by decide +kernel
theorem dX11_find_178 : decode cX11_find 178 = .ok (.aload_n 0, 1) := by decide +kernel
theorem dX11_find_179 : decode cX11_find 179 = .ok (.getfield 83, 3) := by decide +kernel
theorem dX11_find_182 : decode cX11_find 182 = .ok (.iload 5, 2) := by decide +kernel
theorem dX11_find_184 : decode cX11_find 184 = .ok (.iconst 1, 1) := by decide +kernel
theorem dX11_find_185 : decode cX11_find 185 = .ok (.iadd, 1) := by decide +kernel
theorem dX11_find_186 : decode cX11_find 186 = .ok (.iload 6, 2) := by decide +kernel
theorem dX11_find_188 : decode cX11_find 188 = .ok (.aload_n 0, 1) := by decide +kernel
theorem dX11_find_189 : decode cX11_find 189 = .ok (.getfield 83, 3) := by decide +kernel
theorem dX11_find_192 : decode cX11_find 192 = .ok (.iload 5, 2) := by decide +kernel
theorem dX11_find_194 : decode cX11_find 194 = .ok (.iaload, 1) := by decide +kernel
theorem dX11_find_195 : decode cX11_find 195 = .ok (.if_icmp .le 8, 3) := by decide +kernel
theorem dX11_find_198 : decode cX11_find 198 = .ok (.iload 6, 2) := by decide +kernel
theorem dX11_find_200 : decode cX11_find 200 = .ok (.goto 10, 3) := by decide +kernel
theorem dX11_find_203 : decode cX11_find 203 = .ok (.aload_n 0, 1) := by decide +kernel
theorem dX11_find_204 : decode cX11_find 204 = .ok (.getfield 83, 3) := by decide +kernel
theorem dX11_find_207 : decode cX11_find 207 = .ok (.iload 5, 2) := by decide +kernel
theorem dX11_find_209 : decode cX11_find 209 = .ok (.iaload, 1) := by decide +kernel
theorem dX11_find_210 : decode cX11_find 210 = .ok (.iastore, 1) := by decide +kernel
theorem dX11_find_211 : decode cX11_find 211 = .ok (.aload_n 0, 1) := by decide +kernel
theorem dX11_find_212 : decode cX11_find 212 = .ok (.getfield 80, 3) := by decide +kernel
theorem dX11_find_215 : decode cX11_find 215 = .ok (.iload 5, 2) := by decide +kernel
theorem dX11_find_217 : decode cX11_find 217 = .ok (.iconst 1, 1) := by decide +kernel
theorem dX11_find_218 : decode cX11_find 218 = .ok (.iadd, 1) := by decide +kernel
theorem dX11_find_219 : decode cX11_find 219 = .ok (.iaload, 1) := by decide +kernel
theorem dX11_find_220 : decode cX11_find 220 = .ok (.bipush 99, 2) := by decide +kernel
theorem dX11_find_222 : decode cX11_find 222 = .ok (.if_icmp .ge 29, 3) := by decide +kernel
theorem dX11_find_225 : decode cX11_find 225 = .ok (.aload_n 0, 1) := by decide +kernel
theorem dX11_find_226 : decode cX11_find 226 = .ok (.getfield 83, 3) := by decide +kernel
theorem dX11_find_229 : decode cX11_find 229 = .ok (.iload 5, 2) := by decide +kernel
theorem dX11_find_231 : decode cX11_find 231 = .ok (.iconst 1, 1) := by decide +kernel
theorem dX11_find_232 : decode cX11_find 232 = .ok (.iadd, 1) := by decide +kernel
theorem dX11_find_233 : decode cX11_find 233 = .ok (.iaload, 1) := by decide +kernel
theorem dX11_find_234 : decode cX11_find 234 = .ok (.aload_n 0, 1) := by decide +kernel
theorem dX11_find_235 : decode cX11_find 235 = .ok (.getfield 80, 3) := by decide +kernel
theorem dX11_find_238 : decode cX11_find 238 = .ok (.iload 5, 2) := by decide +kernel
theorem dX11_find_240 : decode cX11_find 240 = .ok (.iconst 1, 1) := by decide +kernel
theorem dX11_find_241 : decode cX11_find 241 = .ok (.iadd, 1) := by decide +kernel
theorem dX11_find_242 : decode cX11_find 242 = .ok (.iaload, 1) := by decide +kernel
theorem dX11_find_243 : decode cX11_find 243 = .ok (.isub, 1) := by decide +kernel
theorem dX11_find_244 : decode cX11_find 244 = .ok (.iconst 3, 1) := by decide +kernel
theorem dX11_find_245 : decode cX11_find 245 = .ok (.if_icmp .le 6, 3) := by decide +kernel
theorem dX11_find_248 : decode cX11_find 248 = .ok (.goto (-184), 3) := by decide +kernel
theorem dX11_find_251 : decode cX11_find 251 = .ok (.iload 5, 2) := by decide +kernel
theorem dX11_find_253 : decode cX11_find 253 = .ok (.iconst 1, 1) := by decide +kernel
theorem dX11_find_254 : decode cX11_find 254 = .ok (.iadd, 1) := by decide +kernel
theorem dX11_find_255 : decode cX11_find 255 = .ok (.aload_n 0, 1) := by decide +kernel
theorem dX11_find_256 : decode cX11_find 256 = .ok (.getfield 264, 3) := by decide +kernel
theorem dX11_find_259 : decode cX11_find 259 = .ok (.if_icmp .ge 18, 3) := by decide +kernel
theorem dX11_find_262 : decode cX11_find 262 = .ok (.iinc 5 1, 3) := by decide +kernel
theorem dX11_find_265 : decode cX11_find 265 = .ok (.aload_n 0, 1) := by decide +kernel
theorem dX11_find_266 : decode cX11_find 266 = .ok (.getfield 77, 3) := by decide +kernel
theorem dX11_find_269 : decode cX11_find 269 = .ok (.iload 5, 2) := by decide +kernel
theorem dX11_find_271 : decode cX11_find 271 = .ok (.bipush (-2), 2) := by decide +kernel
theorem dX11_find_273 : decode cX11_find 273 = .ok (.iastore, 1) := by decide +kernel
theorem dX11_find_274 : decode cX11_find 274 = .ok (.goto (-210), 3) := by decide +kernel
theorem dX11_find_277 : decode cX11_find 277 = .ok (.aload_n 0, 1) := by decide +kernel
theorem dX11_find_278 : decode cX11_find 278 = .ok (.iload_n 1, 1) := by decide +kernel
theorem dX11_find_279 : decode cX11_find 279 = .ok (.iload_n 2, 1) := by decide +kernel
theorem dX11_find_280 : decode cX11_find 280 = .ok (.iload 4, 2) := by decide +kernel
theorem dX11_find_282 : decode cX11_find 282 = .ok (.invokevirtual 267, 3) := by decide +kernel
theorem dX11_find_285 : decode cX11_find 285 = .ok (.istore 7, 2) := by decide +kernel
theorem dX11_find_287 : decode cX11_find 287 = .ok (.iload 7, 2) := by decide +kernel
theorem dX11_find_289 : decode cX11_find 289 = .ok (.ldc_w 271, 3) := by decide +kernel
theorem dX11_find_292 : decode cX11_find 292 = .ok (.if_icmp .ge 10, 3) := by decide +kernel
theorem dX11_find_295 : decode cX11_find 295 = .ok (.aload_n 0, 1) := by decide +kernel
theorem dX11_find_296 : decode cX11_find 296 = .ok (.iload_n 3, 1) := by decide +kernel
theorem dX11_find_297 : decode cX11_find 297 = .ok (.iload 7, 2) := by decide +kernel
theorem dX11_find_299 : decode cX11_find 299 = .ok (.invokevirtual 272, 3) := by decide +kernel
theorem dX11_find_302 : decode cX11_find 302 = .ok (.goto (-238), 3) := by decide +kernel
theorem dX11_find_305 : decode cX11_find 305 = .ok (.aload_n 0, 1) := by decide +kernel
theorem dX11_find_306 : decode cX11_find 306 = .ok (.getfield 68, 3) := by decide +kernel
theorem dX11_find_309 : decode cX11_find 309 = .ok (.iload_n 3, 1) := by decide +kernel
theorem dX11_find_310 : decode cX11_find 310 = .ok (.iaload, 1) := by decide +kernel
theorem dX11_find_311 : decode cX11_find 311 = .ok (.ireturn, 1) := by decide +kernel
theorem dX11_strain_0 : decode cX11_strain 0 = .ok (.iconst 0, 1) := by decide +kernel
theorem dX11_strain_1 : decode cX11_strain 1 = .ok (.istore 4, 2) := by decide +kernel
theorem dX11_strain_3 : decode cX11_strain 3 = .ok (.ldc_w 271, 3) := by decide +kernel
theorem dX11_strain_6 : decode cX11_strain 6 = .ok (.istore 5, 2) := by decide +kernel
theorem dX11_strain_8 : decode cX11_strain 8 = .ok (.iconst 0, 1) := by decide +kernel
theorem dX11_strain_9 : decode cX11_strain 9 = .ok (.istore 6, 2) := by decide +kernel
theorem dX11_strain_11 : decode cX11_strain 11 = .ok (.iconst 0, 1) := by decide +kernel
theorem dX11_strain_12 : decode cX11_strain 12 = .ok (.istore 7, 2) := by decide +kernel
theorem dX11_strain_14 : decode cX11_strain 14 = .ok (.iconst 0, 1) := by decide +kernel
theorem dX11_strain_15 : decode cX11_strain 15 = .ok (.istore 8, 2) := by decide +kernel
theorem dX11_strain_17 : decode cX11_strain 17 = .ok (.iconst 0, 1) := by decide +kernel
theorem dX11_strain_18 : decode cX11_strain 18 = .ok (.istore 9, 2) := by decide +kernel
theorem dX11_strain_20 : decode cX11_strain 20 = .ok (.iconst 0, 1) := by decide +kernel
theorem dX11_strain_21 : decode cX11_strain 21 = .ok (.istore 10, 2) := by decide +kernel
theorem dX11_strain_23 : decode cX11_strain 23 = .ok (.iload 10, 2) := by decide +kernel
theorem dX11_strain_25 : decode cX11_strain 25 = .ok (.aload_n 0, 1) := by decide +kernel
theorem dX11_strain_26 : decode cX11_strain 26 = .ok (.getfield 264, 3) := by decide +kernel
theorem dX11_strain_29 : decode cX11_strain 29 = .ok (.if_icmp .ge 154, 3) := by decide +kernel
theorem dX11_strain_32 : decode cX11_strain 32 = .ok (.aload_n 0, 1) := by decide +kernel
theorem dX11_strain_33 : decode cX11_strain 33 = .ok (.getfield 77, 3) := by decide +kernel
theorem dX11_strain_36 : decode cX11_strain 36 = .ok (.iload 10, 2) := by decide +kernel
theorem dX11_strain_38 : decode cX11_strain 38 = .ok (.iaload, 1) := by decide +kernel
theorem dX11_strain_39 : decode cX11_strain 39 = .ok (.iconst (-1), 1) := by decide +kernel
theorem dX11_strain_40 : decode cX11_strain 40 = .ok (.if_icmp .ne 9, 3) := by decide +kernel
theorem dX11_strain_43 : decode cX11_strain 43 = .ok (.iinc 6 1, 3) := by decide +kernel
theorem dX11_strain_46 : decode cX11_strain 46 = .ok (.goto 131, 3) := by decide +kernel
theorem dX11_strain_49 : decode cX11_strain 49 = .ok (.aload_n 0, 1) := by decide +kernel
theorem dX11_strain_50 : decode cX11_strain 50 = .ok (.getfield 50, 3) := by decide +kernel
theorem dX11_strain_53 : decode cX11_strain 53 = .ok (.iload 10, 2) := by decide +kernel
theorem dX11_strain_55 : decode cX11_strain 55 = .ok (.iaload, 1) := by decide +kernel
theorem dX11_strain_56 : decode cX11_strain 56 = .ok (.iload_n 2, 1) := by decide +kernel
theorem dX11_strain_57 : decode cX11_strain 57 = .ok (.iadd, 1) := by decide +kernel
theorem dX11_strain_58 : decode cX11_strain 58 = .ok (.aload_n 0, 1) := by decide +kernel
theorem dX11_strain_59 : decode cX11_strain 59 = .ok (.getfield 77, 3) := by decide +kernel
theorem dX11_strain_62 : decode cX11_strain 62 = .ok (.iload 10, 2) := by decide +kernel
theorem dX11_strain_64 : decode cX11_strain 64 = .ok (.iaload, 1) := by decide +kernel
theorem dX11_strain_65 : decode cX11_strain 65 = .ok (.iadd, 1) := by decide +kernel
theorem dX11_strain_66 : decode cX11_strain 66 = .ok (.istore 11, 2) := by decide +kernel
theorem dX11_strain_68 : decode cX11_strain 68 = .ok (.iload 4, 2) := by decide +kernel
theorem dX11_strain_70 : decode cX11_strain 70 = .ok (.iconst 1, 1) := by decide +kernel
theorem dX11_strain_71 : decode cX11_strain 71 = .ok (.iload 11, 2) := by decide +kernel
theorem dX11_strain_73 : decode cX11_strain 73 = .ok (.bipush 12, 2) := by decide +kernel
theorem dX11_strain_75 : decode cX11_strain 75 = .ok (.irem, 1) := by decide +kernel
theorem dX11_strain_76 : decode cX11_strain 76 = .ok (.ishl, 1) := by decide +kernel
theorem dX11_strain_77 : decode cX11_strain 77 = .ok (.ior, 1) := by decide +kernel
theorem dX11_strain_78 : decode cX11_strain 78 = .ok (.istore 4, 2) := by decide +kernel
theorem dX11_strain_80 : decode cX11_strain 80 = .ok (.iload 11, 2) := by decide +kernel
theorem dX11_strain_82 : decode cX11_strain 82 = .ok (.iload 5, 2) := by decide +kernel
theorem dX11_strain_84 : decode cX11_strain 84 = .ok (.if_icmp .ge 8, 3) := by decide +kernel
theorem dX11_strain_87 : decode cX11_strain 87 = .ok (.iload 11, 2) := by decide +kernel
end
section
theorem dX11_strain_89 : decode cX11_strain 89 = .ok (.goto 5, 3) := by decide +kernel
theorem dX11_strain_92 : decode cX11_strain 92 = .ok (.iload 5, 2) := by decide +kernel
theorem dX11_strain_94 : decode cX11_strain 94 = .ok (.istore 5, 2) := by decide +kernel
theorem dX11_strain_96 : decode cX11_strain 96 = .ok (.iload 7, 2) := by decide +kernel
theorem dX11_strain_98 : decode cX11_strain 98 = .ok (.ifCond .ne 13, 3) := by decide +kernel
theorem dX11_strain_101 : decode cX11_strain 101 = .ok (.aload_n 0, 1) := by decide +kernel
theorem dX11_strain_102 : decode cX11_strain 102 = .ok (.getfield 77, 3) := by decide +kernel
theorem dX11_strain_105 : decode cX11_strain 105 = .ok (.iload 10, 2) := by decide +kernel
theorem dX11_strain_107 : decode cX11_strain 107 = .ok (.iaload, 1) := by decide +kernel
theorem dX11_strain_108 : decode cX11_strain 108 = .ok (.ifCond .ne 7, 3) := by decide +kernel
theorem dX11_strain_111 : decode cX11_strain 111 = .ok (.iconst 1, 1) := by decide +kernel
theorem dX11_strain_112 : decode cX11_strain 112 = .ok (.goto 4, 3) := by decide +kernel
theorem dX11_strain_115 : decode cX11_strain 115 = .ok (.iconst 0, 1) := by decide +kernel
theorem dX11_strain_116 : decode cX11_strain 116 = .ok (.istore 7, 2) := by decide +kernel
theorem dX11_strain_118 : decode cX11_strain 118 = .ok (.iload 8, 2) := by decide +kernel
theorem dX11_strain_120 : decode cX11_strain 120 = .ok (.aload_n 0, 1) := by decide +kernel
theorem dX11_strain_121 : decode cX11_strain 121 = .ok (.getfield 77, 3) := by decide +kernel
theorem dX11_strain_124 : decode cX11_strain 124 = .ok (.iload 10, 2) := by decide +kernel
theorem dX11_strain_126 : decode cX11_strain 126 = .ok (.iaload, 1) := by decide +kernel
theorem dX11_strain_127 : decode cX11_strain 127 = .ok (.ifCond .le 7, 3) := by decide +kernel
theorem dX11_strain_130 : decode cX11_strain 130 = .ok (.iconst 1, 1) := by decide +kernel
theorem dX11_strain_131 : decode cX11_strain 131 = .ok (.goto 4, 3) := by decide +kernel
theorem dX11_strain_134 : decode cX11_strain 134 = .ok (.iconst 0, 1) := by decide +kernel
theorem dX11_strain_135 : decode cX11_strain 135 = .ok (.iadd, 1) := by decide +kernel
theorem dX11_strain_136 : decode cX11_strain 136 = .ok (.istore 8, 2) := by decide +kernel
theorem dX11_strain_138 : decode cX11_strain 138 = .ok (.iload 9, 2) := by decide +kernel
theorem dX11_strain_140 : decode cX11_strain 140 = .ok (.aload_n 0, 1) := by decide +kernel
theorem dX11_strain_141 : decode cX11_strain 141 = .ok (.getfield 77, 3) := by decide +kernel
theorem dX11_strain_144 : decode cX11_strain 144 = .ok (.iload 10, 2) := by decide +kernel
theorem dX11_strain_146 : decode cX11_strain 146 = .ok (.iaload, 1) := by decide +kernel
theorem dX11_strain_147 : decode cX11_strain 147 = .ok (.ifCond .le 26, 3) := by decide +kernel
theorem dX11_strain_150 : decode cX11_strain 150 = .ok (.aload_n 0, 1) := by decide +kernel
theorem dX11_strain_151 : decode cX11_strain 151 = .ok (.getfield 77, 3) := by decide +kernel
theorem dX11_strain_154 : decode cX11_strain 154 = .ok (.iload 10, 2) := by decide +kernel
theorem dX11_strain_156 : decode cX11_strain 156 = .ok (.iaload, 1) := by decide +kernel
theorem dX11_strain_157 : decode cX11_strain 157 = .ok (.aload_n 0, 1) := by decide +kernel
theorem dX11_strain_158 : decode cX11_strain 158 = .ok (.getfield 80, 3) := by decide +kernel
theorem dX11_strain_161 : decode cX11_strain 161 = .ok (.aload_n 0, 1) := by decide +kernel
theorem dX11_strain_162 : decode cX11_strain 162 = .ok (.getfield 264, 3) := by decide +kernel
theorem dX11_strain_165 : decode cX11_strain 165 = .ok (.iaload, 1) := by decide +kernel
theorem dX11_strain_166 : decode cX11_strain 166 = .ok (.if_icmp .ne 7, 3) := by decide +kernel
theorem dX11_strain_169 : decode cX11_strain 169 = .ok (.iconst 1, 1) := by decide +kernel
theorem dX11_strain_170 : decode cX11_strain 170 = .ok (.goto 4, 3) := by decide +kernel
theorem dX11_strain_173 : decode cX11_strain 173 = .ok (.iconst 0, 1) := by decide +kernel
theorem dX11_strain_174 : decode cX11_strain 174 = .ok (.iadd, 1) := by decide +kernel
theorem dX11_strain_175 : decode cX11_strain 175 = .ok (.istore 9, 2) := by decide +kernel
theorem dX11_strain_177 : decode cX11_strain 177 = .ok (.iinc 10 1, 3) := by decide +kernel
theorem dX11_strain_180 : decode cX11_strain 180 = .ok (.goto (-157), 3) := by decide +kernel
theorem dX11_strain_183 : decode cX11_strain 183 = .ok (.iload 5, 2) := by decide +kernel
theorem dX11_strain_185 : decode cX11_strain 185 = .ok (.ldc_w 271, 3) := by decide +kernel
theorem dX11_strain_188 : decode cX11_strain 188 = .ok (.if_icmp .eq 20, 3) := by decide +kernel
theorem dX11_strain_191 : decode cX11_strain 191 = .ok (.iload 5, 2) := by decide +kernel
theorem dX11_strain_193 : decode cX11_strain 193 = .ok (.bipush 12, 2) := by decide +kernel
theorem dX11_strain_195 : decode cX11_strain 195 = .ok (.irem, 1) := by decide +kernel
theorem dX11_strain_196 : decode cX11_strain 196 = .ok (.aload_n 0, 1) := by decide +kernel
theorem dX11_strain_197 : decode cX11_strain 197 = .ok (.getfield 26, 3) := by decide +kernel
theorem dX11_strain_200 : decode cX11_strain 200 = .ok (.iload_n 1, 1) := by decide +kernel
theorem dX11_strain_201 : decode cX11_strain 201 = .ok (.iaload, 1) := by decide +kernel
theorem dX11_strain_202 : decode cX11_strain 202 = .ok (.invokestatic 127, 3) := by decide +kernel
theorem dX11_strain_205 : decode cX11_strain 205 = .ok (.if_icmp .eq 7, 3) := by decide +kernel
theorem dX11_strain_208 : decode cX11_strain 208 = .ok (.ldc_w 271, 3) := by decide +kernel
theorem dX11_strain_211 : decode cX11_strain 211 = .ok (.ireturn, 1) := by decide +kernel
theorem dX11_strain_212 : decode cX11_strain 212 = .ok (.iload_n 3, 1) := by decide +kernel
theorem dX11_strain_213 : decode cX11_strain 213 = .ok (.iload 4, 2) := by decide +kernel
theorem dX11_strain_215 : decode cX11_strain 215 = .ok (.iconst (-1), 1) := by decide +kernel
theorem dX11_strain_216 : decode cX11_strain 216 = .ok (.ixor, 1) := by decide +kernel
theorem dX11_strain_217 : decode cX11_strain 217 = .ok (.iand, 1) := by decide +kernel
theorem dX11_strain_218 : decode cX11_strain 218 = .ok (.istore 10, 2) := by decide +kernel
theorem dX11_strain_220 : decode cX11_strain 220 = .ok (.iload_n 3, 1) := by decide +kernel
theorem dX11_strain_221 : decode cX11_strain 221 = .ok (.invokestatic 276, 3) := by decide +kernel
theorem dX11_strain_224 : decode cX11_strain 224 = .ok (.iconst 4, 1) := by decide +kernel
theorem dX11_strain_225 : decode cX11_strain 225 = .ok (.if_icmp .lt 27, 3) := by decide +kernel
theorem dX11_strain_228 : decode cX11_strain 228 = .ok (.iload 10, 2) := by decide +kernel
theorem dX11_strain_230 : decode cX11_strain 230 = .ok (.iconst 1, 1) := by decide +kernel
theorem dX11_strain_231 : decode cX11_strain 231 = .ok (.aload_n 0, 1) := by decide +kernel
theorem dX11_strain_232 : decode cX11_strain 232 = .ok (.getfield 20, 3) := by decide +kernel
theorem dX11_strain_235 : decode cX11_strain 235 = .ok (.iload_n 1, 1) := by decide +kernel
theorem dX11_strain_236 : decode cX11_strain 236 = .ok (.iaload, 1) := by decide +kernel
theorem dX11_strain_237 : decode cX11_strain 237 = .ok (.invokestatic 127, 3) := by decide +kernel
theorem dX11_strain_240 : decode cX11_strain 240 = .ok (.bipush 7, 2) := by decide +kernel
theorem dX11_strain_242 : decode cX11_strain 242 = .ok (.iadd, 1) := by decide +kernel
theorem dX11_strain_243 : decode cX11_strain 243 = .ok (.bipush 12, 2) := by decide +kernel
theorem dX11_strain_245 : decode cX11_strain 245 = .ok (.irem, 1) := by decide +kernel
theorem dX11_strain_246 : decode cX11_strain 246 = .ok (.ishl, 1) := by decide +kernel
theorem dX11_strain_247 : decode cX11_strain 247 = .ok (.iconst (-1), 1) := by decide +kernel
theorem dX11_strain_248 : decode cX11_strain 248 = .ok (.ixor, 1) := by decide +kernel
theorem dX11_strain_249 : decode cX11_strain 249 = .ok (.iand, 1) := by decide +kernel
theorem dX11_strain_250 : decode cX11_strain 250 = .ok (.istore 10, 2) := by decide +kernel
theorem dX11_strain_252 : decode cX11_strain 252 = .ok (.iload 10, 2) := by decide +kernel
theorem dX11_strain_254 : decode cX11_strain 254 = .ok (.ifCond .eq 7, 3) := by decide +kernel
theorem dX11_strain_257 : decode cX11_strain 257 = .ok (.ldc_w 271, 3) := by decide +kernel
theorem dX11_strain_260 : decode cX11_strain 260 = .ok (.ireturn, 1) := by decide +kernel
theorem dX11_strain_261 : decode cX11_strain 261 = .ok (.iload 7, 2) := by decide +kernel
theorem dX11_strain_263 : decode cX11_strain 263 = .ok (.ifCond .ne 18, 3) := by decide +kernel
theorem dX11_strain_266 : decode cX11_strain 266 = .ok (.iload 9, 2) := by decide +kernel
theorem dX11_strain_268 : decode cX11_strain 268 = .ok (.iconst 1, 1) := by decide +kernel
theorem dX11_strain_269 : decode cX11_strain 269 = .ok (.if_icmp .le 12, 3) := by decide +kernel
theorem dX11_strain_272 : decode cX11_strain 272 = .ok (.iload 8, 2) := by decide +kernel
theorem dX11_strain_274 : decode cX11_strain 274 = .ok (.iload 9, 2) := by decide +kernel
theorem dX11_strain_276 : decode cX11_strain 276 = .ok (.iconst 1, 1) := by decide +kernel
theorem dX11_strain_277 : decode cX11_strain 277 = .ok (.isub, 1) := by decide +kernel
theorem dX11_strain_278 : decode cX11_strain 278 = .ok (.isub, 1) := by decide +kernel
theorem dX11_strain_279 : decode cX11_strain 279 = .ok (.istore 8, 2) := by decide +kernel
theorem dX11_strain_281 : decode cX11_strain 281 = .ok (.iload 8, 2) := by decide +kernel
theorem dX11_strain_283 : decode cX11_strain 283 = .ok (.iconst 4, 1) := by decide +kernel
theorem dX11_strain_284 : decode cX11_strain 284 = .ok (.if_icmp .le 9, 3) := by decide +kernel
theorem dX11_strain_287 : decode cX11_strain 287 = .ok (.ldc_w 271, 3) := by decide +kernel
theorem dX11_strain_290 : decode cX11_strain 290 = .ok (.goto 22, 3) := by decide +kernel
theorem dX11_strain_293 : decode cX11_strain 293 = .ok (.iconst 3, 1) := by decide +kernel
theorem dX11_strain_294 : decode cX11_strain 294 = .ok (.iload 8, 2) := by decide +kernel
theorem dX11_strain_296 : decode cX11_strain 296 = .ok (.imul, 1) := by decide +kernel
theorem dX11_strain_297 : decode cX11_strain 297 = .ok (.aload_n 0, 1) := by decide +kernel
theorem dX11_strain_298 : decode cX11_strain 298 = .ok (.getfield 83, 3) := by decide +kernel
theorem dX11_strain_301 : decode cX11_strain 301 = .ok (.aload_n 0, 1) := by decide +kernel
theorem dX11_strain_302 : decode cX11_strain 302 = .ok (.getfield 264, 3) := by decide +kernel
theorem dX11_strain_305 : decode cX11_strain 305 = .ok (.iaload, 1) := by decide +kernel
theorem dX11_strain_306 : decode cX11_strain 306 = .ok (.iadd, 1) := by decide +kernel
theorem dX11_strain_307 : decode cX11_strain 307 = .ok (.iconst 4, 1) := by decide +kernel
theorem dX11_strain_308 : decode cX11_strain 308 = .ok (.iload 6, 2) := by decide +kernel
theorem dX11_strain_310 : decode cX11_strain 310 = .ok (.imul, 1) := by decide +kernel
theorem dX11_strain_311 : decode cX11_strain 311 = .ok (.iadd, 1) := by decide +kernel
theorem dX11_strain_312 : decode cX11_strain 312 = .ok (.ireturn, 1) := by decide +kernel
theorem dX11_comes_0 : decode cX11_comes 0 = .ok (.aload_n 0, 1) := by decide +kernel
theorem dX11_comes_1 : decode cX11_comes 1 = .ok (.getfield 68, 3) := by decide +kernel
theorem dX11_comes_4 : decode cX11_comes 4 = .ok (.iload_n 1, 1) := by decide +kernel
theorem dX11_comes_5 : decode cX11_comes 5 = .ok (.iaload, 1) := by decide +kernel
theorem dX11_comes_6 : decode cX11_comes 6 = .ok (.istore_n 3, 1) := by decide +kernel
theorem dX11_comes_7 : decode cX11_comes 7 = .ok (.iload_n 3, 1) := by decide +kernel
theorem dX11_comes_8 : decode cX11_comes 8 = .ok (.ifCond .le 26, 3) := by decide +kernel
theorem dX11_comes_11 : decode cX11_comes 11 = .ok (.aload_n 0, 1) := by decide +kernel
theorem dX11_comes_12 : decode cX11_comes 12 = .ok (.getfield 74, 3) := by decide +kernel
theorem dX11_comes_15 : decode cX11_comes 15 = .ok (.bipush 6, 2) := by decide +kernel
theorem dX11_comes_17 : decode cX11_comes 17 = .ok (.iload_n 1, 1) := by decide +kernel
theorem dX11_comes_18 : decode cX11_comes 18 = .ok (.imul, 1) := by decide +kernel
theorem dX11_comes_19 : decode cX11_comes 19 = .ok (.iload_n 3, 1) := by decide +kernel
theorem dX11_comes_20 : decode cX11_comes 20 = .ok (.iadd, 1) := by decide +kernel
theorem dX11_comes_21 : decode cX11_comes 21 = .ok (.iconst 1, 1) := by decide +kernel
theorem dX11_comes_22 : decode cX11_comes 22 = .ok (.isub, 1) := by decide +kernel
theorem dX11_comes_23 : decode cX11_comes 23 = .ok (.iaload, 1) := by decide +kernel
theorem dX11_comes_24 : decode cX11_comes 24 = .ok (.iload_n 2, 1) := by decide +kernel
theorem dX11_comes_25 : decode cX11_comes 25 = .ok (.if_icmp .le 9, 3) := by decide +kernel
theorem dX11_comes_28 : decode cX11_comes 28 = .ok (.iinc 3 (-1), 3) := by decide +kernel
theorem dX11_comes_31 : decode cX11_comes 31 = .ok (.goto (-24), 3) := by decide +kernel
theorem dX11_comes_34 : decode cX11_comes 34 = .ok (.iload_n 3, 1) := by decide +kernel
theorem dX11_comes_35 : decode cX11_comes 35 = .ok (.bipush 6, 2) := by decide +kernel
theorem dX11_comes_37 : decode cX11_comes 37 = .ok (.if_icmp .ne 4, 3) := by decide +kernel
theorem dX11_comes_40 : decode cX11_comes 40 = .ok (.return_, 1) := by decide +kernel
theorem dX11_comes_41 : decode cX11_comes 41 = .ok (.aload_n 0, 1) := by decide +kernel
theorem dX11_comes_42 : decode cX11_comes 42 = .ok (.getfield 68, 3) := by decide +kernel
theorem dX11_comes_45 : decode cX11_comes 45 = .ok (.iload_n 1, 1) := by decide +kernel
theorem dX11_comes_46 : decode cX11_comes 46 = .ok (.iaload, 1) := by decide +kernel
theorem dX11_comes_47 : decode cX11_comes 47 = .ok (.bipush 6, 2) := by decide +kernel
theorem dX11_comes_49 : decode cX11_comes 49 = .ok (.if_icmp .ge 13, 3) := by decide +kernel
theorem dX11_comes_52 : decode cX11_comes 52 = .ok (.aload_n 0, 1) := by decide +kernel
theorem dX11_comes_53 : decode cX11_comes 53 = .ok (.getfield 68, 3) := by decide +kernel
theorem dX11_comes_56 : decode cX11_comes 56 = .ok (.iload_n 1, 1) := by decide +kernel
theorem dX11_comes_57 : decode cX11_comes 57 = .ok (.dup2, 1) := by decide +kernel
theorem dX11_comes_58 : decode cX11_comes 58 = .ok (.iaload, 1) := by decide +kernel
theorem dX11_comes_59 : decode cX11_comes 59 = .ok (.iconst 1, 1) := by decide +kernel
theorem dX11_comes_60 : decode cX11_comes 60 = .ok (.iadd, 1) := by decide +kernel
theorem dX11_comes_61 : decode cX11_comes 61 = .ok (.iastore, 1) := by decide +kernel
theorem dX11_comes_62 : decode cX11_comes 62 = .ok (.aload_n 0, 1) := by decide +kernel
theorem dX11_comes_63 : decode cX11_comes 63 = .ok (.getfield 68, 3) := by decide +kernel
theorem dX11_comes_66 : decode cX11_comes 66 = .ok (.iload_n 1, 1) := by decide +kernel
theorem dX11_comes_67 : decode cX11_comes 67 = .ok (.iaload, 1) := by decide +kernel
theorem dX11_comes_68 : decode cX11_comes 68 = .ok (.iconst 1, 1) := by decide +kernel
theorem dX11_comes_69 : decode cX11_comes 69 = .ok (.isub, 1) := by decide +kernel
theorem dX11_comes_70 : decode cX11_comes 70 = .ok (.istore 4, 2) := by decide +kernel
theorem dX11_comes_72 : decode cX11_comes 72 = .ok (.iload 4, 2) := by decide +kernel
theorem dX11_comes_74 : decode cX11_comes 74 = .ok (.iload_n 3, 1) := by decide +kernel
theorem dX11_comes_75 : decode cX11_comes 75 = .ok (.if_icmp .le 90, 3) := by decide +kernel
theorem dX11_comes_78 : decode cX11_comes 78 = .ok (.aload_n 0, 1) := by decide +kernel
theorem dX11_comes_79 : decode cX11_comes 79 = .ok (.getfield 74, 3) := by decide +kernel
theorem dX11_comes_82 : decode cX11_comes 82 = .ok (.bipush 6, 2) := by decide +kernel
theorem dX11_comes_84 : decode cX11_comes 84 = .ok (.iload_n 1, 1) := by decide +kernel
theorem dX11_comes_85 : decode cX11_comes 85 = .ok (.imul, 1) := by decide +kernel
theorem dX11_comes_86 : decode cX11_comes 86 = .ok (.iload 4, 2) := by decide +kernel
theorem dX11_comes_88 : decode cX11_comes 88 = .ok (.iadd, 1) := by decide +kernel
theorem dX11_comes_89 : decode cX11_comes 89 = .ok (.aload_n 0, 1) := by decide +kernel
theorem dX11_comes_90 : decode cX11_comes 90 = .ok (.getfield 74, 3) := by decide +kernel
theorem dX11_comes_93 : decode cX11_comes 93 = .ok (.bipush 6, 2) := by decide +kernel
theorem dX11_comes_95 : decode cX11_comes 95 = .ok (.iload_n 1, 1) := by decide +kernel
theorem dX11_comes_96 : decode cX11_comes 96 = .ok (.imul, 1) := by decide +kernel
theorem dX11_comes_97 : decode cX11_comes 97 = .ok (.iload 4, 2) := by decide +kernel
theorem dX11_comes_99 : decode cX11_comes 99 = .ok (.iadd, 1) := by decide +kernel
theorem dX11_comes_100 : decode cX11_comes 100 = .ok (.iconst 1, 1) := by decide +kernel
theorem dX11_comes_101 : decode cX11_comes 101 = .ok (.isub, 1) := by decide +kernel
theorem dX11_comes_102 : decode cX11_comes 102 = .ok (.iaload, 1) := by decide +kernel
theorem dX11_comes_103 : decode cX11_comes 103 = .ok (.iastore, 1) := by decide +kernel
theorem dX11_comes_104 : decode cX11_comes 104 = .ok (.iconst 0, 1) := by decide +kernel
theorem dX11_comes_105 : decode cX11_comes 105 = .ok (.istore 5, 2) := by decide +kernel
theorem dX11_comes_107 : decode cX11_comes 107 = .ok (.iload 5, 2) := by decide +kernel
theorem dX11_comes_109 : decode cX11_comes 109 = .ok (.bipush 6, 2) := by decide +kernel
theorem dX11_comes_111 : decode cX11_comes 111 = .ok (.if_icmp .ge 48, 3) := by decide +kernel
theorem dX11_comes_114 : decode cX11_comes 114 = .ok (.aload_n 0, 1) := by decide +kernel
theorem dX11_comes_115 : decode cX11_comes 115 = .ok (.getfield 71, 3) := by decide +kernel
theorem dX11_comes_118 : decode cX11_comes 118 = .ok (.bipush 36, 2) := by decide +kernel
theorem dX11_comes_120 : decode cX11_comes 120 = .ok (.iload_n 1, 1) := by decide +kernel
theorem dX11_comes_121 : decode cX11_comes 121 = .ok (.imul, 1) := by decide +kernel
theorem dX11_comes_122 : decode cX11_comes 122 = .ok (.bipush 6, 2) := by decide +kernel
theorem dX11_comes_124 : decode cX11_comes 124 = .ok (.iload 4, 2) := by decide +kernel
theorem dX11_comes_126 : decode cX11_comes 126 = .ok (.imul, 1) := by decide +kernel
theorem dX11_comes_127 : decode cX11_comes 127 = .ok (.iadd, 1) := by decide +kernel
theorem dX11_comes_128 : decode cX11_comes 128 = .ok (.iload 5, 2) := by decide +kernel
theorem dX11_comes_130 : decode cX11_comes 130 = .ok (.iadd, 1) := by decide +kernel
theorem dX11_comes_131 : decode cX11_comes 131 = .ok (.aload_n 0, 1) := by decide +kernel
theorem dX11_comes_132 : decode cX11_comes 132 = .ok (.getfield 71, 3) := by decide +kernel
theorem dX11_comes_135 : decode cX11_comes 135 = .ok (.bipush 36, 2) := by decide +kernel
theorem dX11_comes_137 : decode cX11_comes 137 = .ok (.iload_n 1, 1) := by decide +kernel
theorem dX11_comes_138 : decode cX11_comes 138 = .ok (.imul, 1) := by decide +kernel
theorem dX11_comes_139 : decode cX11_comes 139 = .ok (.bipush 6, 2) := by decide +kernel
theorem dX11_comes_141 : decode cX11_comes 141 = .ok (.iload 4, 2) := by decide +kernel
theorem dX11_comes_143 : decode cX11_comes 143 = .ok (.imul, 1) := by decide +kernel
theorem dX11_comes_144 : decode cX11_comes 144 = .ok (.iadd, 1) := by decide +kernel
theorem dX11_comes_145 : decode cX11_comes 145 = .ok (.bipush 6, 2) := by decide +kernel
theorem dX11_comes_147 : decode cX11_comes 147 = .ok (.isub, 1) := by decide +kernel
theorem dX11_comes_148 : decode cX11_comes 148 = .ok (.iload 5, 2) := by decide +kernel
theorem dX11_comes_150 : decode cX11_comes 150 = .ok (.iadd, 1) := by decide +kernel
theorem dX11_comes_151 : decode cX11_comes 151 = .ok (.iaload, 1) := by decide +kernel
theorem dX11_comes_152 : decode cX11_comes 152 = .ok (.iastore, 1) := by decide +kernel
theorem dX11_comes_153 : decode cX11_comes 153 = .ok (.iinc 5 1, 3) := by decide +kernel
theorem dX11_comes_156 : decode cX11_comes 156 = .ok (.goto (-49), 3) := by decide +kernel
theorem dX11_comes_159 : decode cX11_comes 159 = .ok (.iinc 4 (-1), 3) := by decide +kernel
theorem dX11_comes_162 : decode cX11_comes 162 = .ok (.goto (-90), 3) := by decide +kernel
theorem dX11_comes_165 : decode cX11_comes 165 = .ok (.aload_n 0, 1) := by decide +kernel
theorem dX11_comes_166 : decode cX11_comes 166 = .ok (.getfield 74, 3) := by decide +kernel
theorem dX11_comes_169 : decode cX11_comes 169 = .ok (.bipush 6, 2) := by decide +kernel
theorem dX11_comes_171 : decode cX11_comes 171 = .ok (.iload_n 1, 1) := by decide +kernel
theorem dX11_comes_172 : decode cX11_comes 172 = .ok (.imul, 1) := by decide +kernel
theorem dX11_comes_173 : decode cX11_comes 173 = .ok (.iload_n 3, 1) := by decide +kernel
theorem dX11_comes_174 : decode cX11_comes 174 = .ok (.iadd, 1) := by decide +kernel
theorem dX11_comes_175 : decode cX11_comes 175 = .ok (.iload_n 2, 1) := by decide +kernel
theorem dX11_comes_176 : decode cX11_comes 176 = .ok (.iastore, 1) := by decide +kernel
theorem dX11_comes_177 : decode cX11_comes 177 = .ok (.iconst 0, 1) := by decide +kernel
theorem dX11_comes_178 : decode cX11_comes 178 = .ok (.istore 4, 2) := by decide +kernel
theorem dX11_comes_180 : decode cX11_comes 180 = .ok (.iload 4, 2) := by decide +kernel
theorem dX11_comes_182 : decode cX11_comes 182 = .ok (.aload_n 0, 1) := by decide +kernel
theorem dX11_comes_183 : decode cX11_comes 183 = .ok (.getfield 264, 3) := by decide +kernel
theorem dX11_comes_186 : decode cX11_comes 186 = .ok (.if_icmp .ge 33, 3) := by decide +kernel
theorem dX11_comes_189 : decode cX11_comes 189 = .ok (.aload_n 0, 1) := by decide +kernel
theorem dX11_comes_190 : decode cX11_comes 190 = .ok (.getfield 71, 3) := by decide +kernel
theorem dX11_comes_193 : decode cX11_comes 193 = .ok (.bipush 36, 2) := by decide +kernel
theorem dX11_comes_195 : decode cX11_comes 195 = .ok (.iload_n 1, 1) := by decide +kernel
theorem dX11_comes_196 : decode cX11_comes 196 = .ok (.imul, 1) := by decide +kernel
theorem dX11_comes_197 : decode cX11_comes 197 = .ok (.bipush 6, 2) := by decide +kernel
theorem dX11_comes_199 : decode cX11_comes 199 = .ok (.iload_n 3, 1) := by decide +kernel
theorem dX11_comes_200 : decode cX11_comes 200 = .ok (.imul, 1) := by decide +kernel
theorem dX11_comes_201 : decode cX11_comes 201 = .ok (.iadd, 1) := by decide +kernel
theorem dX11_comes_202 : decode cX11_comes 202 = .ok (.iload 4, 2) := by decide +kernel
theorem dX11_comes_204 : decode cX11_comes 204 = .ok (.iadd, 1) := by decide +kernel
theorem dX11_comes_205 : decode cX11_comes 205 = .ok (.aload_n 0, 1) := by decide +kernel
theorem dX11_comes_206 : decode cX11_comes 206 = .ok (.getfield 77, 3) := by decide +kernel
theorem dX11_comes_209 : decode cX11_comes 209 = .ok (.iload 4, 2) := by decide +kernel
theorem dX11_comes_211 : decode cX11_comes 211 = .ok (.iaload, 1) := by decide +kernel
theorem dX11_comes_212 : decode cX11_comes 212 = .ok (.iastore, 1) := by decide +kernel
theorem dX11_comes_213 : decode cX11_comes 213 = .ok (.iinc 4 1, 3) := by decide +kernel
theorem dX11_comes_216 : decode cX11_comes 216 = .ok (.goto (-36), 3) := by decide +kernel
theorem dX11_comes_219 : decode cX11_comes 219 = .ok (.return_, 1) := by decide +kernel
theorem dX11_isBar_0 : decode cX11_isBar 0 = .ok (.iload_n 0, 1) := by decide +kernel
theorem dX11_isBar_1 : decode cX11_isBar 1 = .ok (.ifCond .lt 13, 3) := by decide +kernel
theorem dX11_isBar_4 : decode cX11_isBar 4 = .ok (.iload_n 0, 1) := by decide +kernel
theorem dX11_isBar_5 : decode cX11_isBar 5 = .ok (.bipush 7, 2) := by decide +kernel
theorem dX11_isBar_7 : decode cX11_isBar 7 = .ok (.if_icmp .gt 7, 3) := by decide +kernel
theorem dX11_isBar_10 : decode cX11_isBar 10 = .ok (.iconst 1, 1) := by decide +kernel
theorem dX11_isBar_11 : decode cX11_isBar 11 = .ok (.goto 4, 3) := by decide +kernel
theorem dX11_isBar_14 : decode cX11_isBar 14 = .ok (.iconst 0, 1) := by decide +kernel
theorem dX11_isBar_15 : decode cX11_isBar 15 = .ok (.ireturn, 1) := by decide +kernel
theorem dX11_hands_0 : decode cX11_hands 0 = .ok (.aload_n 0, 1) := by decide +kernel
theorem dX11_hands_1 : decode cX11_hands 1 = .ok (.iload_n 1, 1) := by decide +kernel
theorem dX11_hands_2 : decode cX11_hands 2 = .ok (.invokevirtual 219, 3) := by decide +kernel
theorem dX11_hands_5 : decode cX11_hands 5 = .ok (.ifCond .eq 24, 3) := by decide +kernel
theorem dX11_hands_8 : decode cX11_hands 8 = .ok (.aload_n 0, 1) := by decide +kernel
theorem dX11_hands_9 : decode cX11_hands 9 = .ok (.iload_n 2, 1) := by decide +kernel
theorem dX11_hands_10 : decode cX11_hands 10 = .ok (.invokestatic 279, 3) := by decide +kernel
theorem dX11_hands_13 : decode cX11_hands 13 = .ok (.iconst 2, 1) := by decide +kernel
theorem dX11_hands_14 : decode cX11_hands 14 = .ok (.invokevirtual 190, 3) := by decide +kernel
theorem dX11_hands_17 : decode cX11_hands 17 = .ok (.ifCond .eq 12, 3) := by decide +kernel
theorem dX11_hands_20 : decode cX11_hands 20 = .ok (.aload_n 0, 1) := by decide +kernel
theorem dX11_hands_21 : decode cX11_hands 21 = .ok (.iload_n 1, 1) := by decide +kernel
theorem dX11_hands_22 : decode cX11_hands 22 = .ok (.iload_n 2, 1) := by decide +kernel
theorem dX11_hands_23 : decode cX11_hands 23 = .ok (.invokevirtual 282, 3) := by decide +kernel
theorem dX11_hands_26 : decode cX11_hands 26 = .ok (.goto 4, 3) := by decide +kernel
theorem dX11_hands_29 : decode cX11_hands 29 = .ok (.iconst 0, 1) := by decide +kernel
theorem dX11_hands_30 : decode cX11_hands 30 = .ok (.ireturn, 1) := by decide +kernel
theorem dX11_fret_0 : decode cX11_fret 0 = .ok (.aload_n 0, 1) := by decide +kernel
theorem dX11_fret_1 : decode cX11_fret 1 = .ok (.iload_n 1, 1) := by decide +kernel
theorem dX11_fret_2 : decode cX11_fret 2 = .ok (.invokevirtual 219, 3) := by decide +kernel
theorem dX11_fret_5 : decode cX11_fret 5 = .ok (.ifCond .eq 15, 3) := by decide +kernel
theorem dX11_fret_8 : decode cX11_fret 8 = .ok (.aload_n 0, 1) := by decide +kernel
theorem dX11_fret_9 : decode cX11_fret 9 = .ok (.iload_n 2, 1) := by decide +kernel
theorem dX11_fret_10 : decode cX11_fret 10 = .ok (.invokestatic 279, 3) := by decide +kernel
theorem dX11_fret_13 : decode cX11_fret 13 = .ok (.iconst 2, 1) := by decide +kernel
theorem dX11_fret_14 : decode cX11_fret 14 = .ok (.invokevirtual 190, 3) := by decide +kernel
theorem dX11_fret_17 : decode cX11_fret 17 = .ok (.ifCond .ne 5, 3) := by decide +kernel
theorem dX11_fret_20 : decode cX11_fret 20 = .ok (.iconst 0, 1) := by decide +kernel
theorem dX11_fret_21 : decode cX11_fret 21 = .ok (.ireturn, 1) := by decide +kernel
theorem dX11_fret_22 : decode cX11_fret 22 = .ok (.aload_n 0, 1) := by decide +kernel
theorem dX11_fret_23 : decode cX11_fret 23 = .ok (.iload_n 1, 1) := by decide +kernel
theorem dX11_fret_24 : decode cX11_fret 24 = .ok (.iload_n 2, 1) := by decide +kernel
theorem dX11_fret_25 : decode cX11_fret 25 = .ok (.invokevirtual 282, 3) := by decide +kernel
theorem dX11_fret_28 : decode cX11_fret 28 = .ok (.istore 5, 2) := by decide +kernel
theorem dX11_fret_30 : decode cX11_fret 30 = .ok (.aload_n 0, 1) := by decide +kernel
theorem dX11_fret_31 : decode cX11_fret 31 = .ok (.iload_n 3, 1) := by decide +kernel
theorem dX11_fret_32 : decode cX11_fret 32 = .ok (.ifCond .lt 28, 3) := by decide +kernel
theorem dX11_fret_35 : decode cX11_fret 35 = .ok (.iload_n 3, 1) := by decide +kernel
theorem dX11_fret_36 : decode cX11_fret 36 = .ok (.iload 5, 2) := by decide +kernel
theorem dX11_fret_38 : decode cX11_fret 38 = .ok (.if_icmp .ge 22, 3) := by decide +kernel
theorem dX11_fret_41 : decode cX11_fret 41 = .ok (.iload 4, 2) := by decide +kernel
theorem dX11_fret_43 : decode cX11_fret 43 = .ok (.iconst (-1), 1) := by decide +kernel
theorem dX11_fret_44 : decode cX11_fret 44 = .ok (.if_icmp .lt 16, 3) := by decide +kernel
theorem dX11_fret_47 : decode cX11_fret 47 = .ok (.iload 4, 2) := by decide +kernel
theorem dX11_fret_49 : decode cX11_fret 49 = .ok (.aload_n 0, 1) := by decide +kernel
theorem dX11_fret_50 : decode cX11_fret 50 = .ok (.getfield 264, 3) := by decide +kernel
theorem dX11_fret_53 : decode cX11_fret 53 = .ok (.if_icmp .ge 7, 3) := by decide +kernel
theorem dX11_fret_56 : decode cX11_fret 56 = .ok (.iconst 1, 1) := by decide +kernel
theorem dX11_fret_57 : decode cX11_fret 57 = .ok (.goto 4, 3) := by decide +kernel
theorem dX11_fret_60 : decode cX11_fret 60 = .ok (.iconst 0, 1) := by decide +kernel
theorem dX11_fret_61 : decode cX11_fret 61 = .ok (.iconst 1, 1) := by decide +kernel
theorem dX11_fret_62 : decode cX11_fret 62 = .ok (.invokevirtual 190, 3) := by decide +kernel
theorem dX11_fret_65 : decode cX11_fret 65 = .ok (.ifCond .ne 5, 3) := by decide +kernel
theorem dX11_fret_68 : decode cX11_fret 68 = .ok (.iconst 0, 1) := by decide +kernel
theorem dX11_fret_69 : decode cX11_fret 69 = .ok (.ireturn, 1) := by decide +kernel
theorem dX11_fret_70 : decode cX11_fret 70 = .ok (.bipush 8, 2) := by decide +kernel
theorem dX11_fret_72 : decode cX11_fret 72 = .ok (.iload_n 1, 1) := by decide +kernel
theorem dX11_fret_73 : decode cX11_fret 73 = .ok (.imul, 1) := by decide +kernel
theorem dX11_fret_74 : decode cX11_fret 74 = .ok (.iload_n 2, 1) := by decide +kernel
theorem dX11_fret_75 : decode cX11_fret 75 = .ok (.iadd, 1) := by decide +kernel
theorem dX11_fret_76 : decode cX11_fret 76 = .ok (.istore 6, 2) := by decide +kernel
theorem dX11_fret_78 : decode cX11_fret 78 = .ok (.iload 4, 2) := by decide +kernel
theorem dX11_fret_80 : decode cX11_fret 80 = .ok (.iconst (-1), 1) := by decide +kernel
theorem dX11_fret_81 : decode cX11_fret 81 = .ok (.if_icmp .ne 18, 3) := by decide +kernel
theorem dX11_fret_84 : decode cX11_fret 84 = .ok (.aload_n 0, 1) := by decide +kernel
theorem dX11_fret_85 : decode cX11_fret 85 = .ok (.getfield 74, 3) := by decide +kernel
theorem dX11_fret_88 : decode cX11_fret 88 = .ok (.bipush 6, 2) := by decide +kernel
theorem dX11_fret_90 : decode cX11_fret 90 = .ok (.iload 6, 2) := by decide +kernel
theorem dX11_fret_92 : decode cX11_fret 92 = .ok (.imul, 1) := by decide +kernel
theorem dX11_fret_93 : decode cX11_fret 93 = .ok (.iload_n 3, 1) := by decide +kernel
theorem dX11_fret_94 : decode cX11_fret 94 = .ok (.iadd, 1) := by decide +kernel
theorem dX11_fret_95 : decode cX11_fret 95 = .ok (.iaload, 1) := by decide +kernel
theorem dX11_fret_96 : decode cX11_fret 96 = .ok (.goto 21, 3) := by decide +kernel
theorem dX11_fret_99 : decode cX11_fret 99 = .ok (.aload_n 0, 1) := by decide +kernel
theorem dX11_fret_100 : decode cX11_fret 100 = .ok (.getfield 71, 3) := by decide +kernel
theorem dX11_fret_103 : decode cX11_fret 103 = .ok (.bipush 36, 2) := by decide +kernel
theorem dX11_fret_105 : decode cX11_fret 105 = .ok (.iload 6, 2) := by decide +kernel
theorem dX11_fret_107 : decode cX11_fret 107 = .ok (.imul, 1) := by decide +kernel
theorem dX11_fret_108 : decode cX11_fret 108 = .ok (.bipush 6, 2) := by decide +kernel
theorem dX11_fret_110 : decode cX11_fret 110 = .ok (.iload_n 3, 1) := by decide +kernel
theorem dX11_fret_111 : decode cX11_fret 111 = .ok (.imul, 1) := by decide +kernel
theorem dX11_fret_112 : decode cX11_fret 112 = .ok (.iadd, 1) := by decide +kernel
theorem dX11_fret_113 : decode cX11_fret 113 = .ok (.iload 4, 2) := by decide +kernel
theorem dX11_fret_115 : decode cX11_fret 115 = .ok (.iadd, 1) := by decide +kernel
theorem dX11_fret_116 : decode cX11_fret 116 = .ok (.iaload, 1) := by decide +kernel
theorem dX11_fret_117 : decode cX11_fret 117 = .ok (.ireturn, 1) := by decide +kernel
theorem dX11_change_0 : decode cX11_change 0 = .ok (.iconst 0, 1) := by decide +kernel
theorem dX11_change_1 : decode cX11_change 1 = .ok (.istore 6, 2) := by decide +kernel
theorem dX11_change_3 : decode cX11_change 3 = .ok (.iconst 0, 1) := by decide +kernel
theorem dX11_change_4 : decode cX11_change 4 = .ok (.istore 7, 2) := by decide +kernel
theorem dX11_change_6 : decode cX11_change 6 = .ok (.iload 7, 2) := by decide +kernel
theorem dX11_change_8 : decode cX11_change 8 = .ok (.aload_n 0, 1) := by decide +kernel
theorem dX11_change_9 : decode cX11_change 9 = .ok (.getfield 264, 3) := by decide +kernel
theorem dX11_change_12 : decode cX11_change 12 = .ok (.if_icmp .ge 111, 3) := by decide +kernel
theorem dX11_change_15 : decode cX11_change 15 = .ok (.aload_n 0, 1) := by decide +kernel
theorem dX11_change_16 : decode cX11_change 16 = .ok (.getfield 71, 3) := by decide +kernel
theorem dX11_change_19 : decode cX11_change 19 = .ok (.bipush 36, 2) := by decide +kernel
theorem dX11_change_21 : decode cX11_change 21 = .ok (.bipush 8, 2) := by decide +kernel
theorem dX11_change_23 : decode cX11_change 23 = .ok (.iload_n 1, 1) := by decide +kernel
theorem dX11_change_24 : decode cX11_change 24 = .ok (.imul, 1) := by decide +kernel
theorem dX11_change_25 : decode cX11_change 25 = .ok (.iload 5, 2) := by decide +kernel
theorem dX11_change_27 : decode cX11_change 27 = .ok (.iadd, 1) := by decide +kernel
theorem dX11_change_28 : decode cX11_change 28 = .ok (.imul, 1) := by decide +kernel
theorem dX11_change_29 : decode cX11_change 29 = .ok (.bipush 6, 2) := by decide +kernel
theorem dX11_change_31 : decode cX11_change 31 = .ok (.iload_n 2, 1) := by decide +kernel
theorem dX11_change_32 : decode cX11_change 32 = .ok (.imul, 1) := by decide +kernel
theorem dX11_change_33 : decode cX11_change 33 = .ok (.iadd, 1) := by decide +kernel
theorem dX11_change_34 : decode cX11_change 34 = .ok (.iload 7, 2) := by decide +kernel
theorem dX11_change_36 : decode cX11_change 36 = .ok (.iadd, 1) := by decide +kernel
theorem dX11_change_37 : decode cX11_change 37 = .ok (.iaload, 1) := by decide +kernel
theorem dX11_change_38 : decode cX11_change 38 = .ok (.istore 8, 2) := by decide +kernel
theorem dX11_change_40 : decode cX11_change 40 = .ok (.aload_n 0, 1) := by decide +kernel
theorem dX11_change_41 : decode cX11_change 41 = .ok (.getfield 71, 3) := by decide +kernel
theorem dX11_change_44 : decode cX11_change 44 = .ok (.bipush 36, 2) := by decide +kernel
theorem dX11_change_46 : decode cX11_change 46 = .ok (.bipush 8, 2) := by decide +kernel
theorem dX11_change_48 : decode cX11_change 48 = .ok (.iload_n 3, 1) := by decide +kernel
theorem dX11_change_49 : decode cX11_change 49 = .ok (.imul, 1) := by decide +kernel
theorem dX11_change_50 : decode cX11_change 50 = .ok (.iload 5, 2) := by decide +kernel
theorem dX11_change_52 : decode cX11_change 52 = .ok (.iadd, 1) := by decide +kernel
theorem dX11_change_53 : decode cX11_change 53 = .ok (.imul, 1) := by decide +kernel
theorem dX11_change_54 : decode cX11_change 54 = .ok (.bipush 6, 2) := by decide +kernel
theorem dX11_change_56 : decode cX11_change 56 = .ok (.iload 4, 2) := by decide +kernel
theorem dX11_change_58 : decode cX11_change 58 = .ok (.imul, 1) := by decide +kernel
theorem dX11_change_59 : decode cX11_change 59 = .ok (.iadd, 1) := by decide +kernel
theorem dX11_change_60 : decode cX11_change 60 = .ok (.iload 7, 2) := by decide +kernel
theorem dX11_change_62 : decode cX11_change 62 = .ok (.iadd, 1) := by decide +kernel
theorem dX11_change_63 : decode cX11_change 63 = .ok (.iaload, 1) := by decide +kernel
theorem dX11_change_64 : decode cX11_change 64 = .ok (.istore 9, 2) := by decide +kernel
theorem dX11_change_66 : decode cX11_change 66 = .ok (.iload 8, 2) := by decide +kernel
theorem dX11_change_68 : decode cX11_change 68 = .ok (.ifCond .ge 7, 3) := by decide +kernel
theorem dX11_change_71 : decode cX11_change 71 = .ok (.iconst 0, 1) := by decide +kernel
theorem dX11_change_72 : decode cX11_change 72 = .ok (.goto 5, 3) := by decide +kernel
theorem dX11_change_75 : decode cX11_change 75 = .ok (.iload 8, 2) := by decide +kernel
theorem dX11_change_77 : decode cX11_change 77 = .ok (.istore 8, 2) := by decide +kernel
theorem dX11_change_79 : decode cX11_change 79 = .ok (.iload 9, 2) := by decide +kernel
theorem dX11_change_81 : decode cX11_change 81 = .ok (.ifCond .ge 7, 3) := by decide +kernel
theorem dX11_change_84 : decode cX11_change 84 = .ok (.iconst 0, 1) := by decide +kernel
theorem dX11_change_85 : decode cX11_change 85 = .ok (.goto 5, 3) := by decide +kernel
theorem dX11_change_88 : decode cX11_change 88 = .ok (.iload 9, 2) := by decide +kernel
theorem dX11_change_90 : decode cX11_change 90 = .ok (.istore 9, 2) := by decide +kernel
theorem dX11_change_92 : decode cX11_change 92 = .ok (.iload 6, 2) := by decide +kernel
theorem dX11_change_94 : decode cX11_change 94 = .ok (.iload 8, 2) := by decide +kernel
theorem dX11_change_96 : decode cX11_change 96 = .ok (.iload 9, 2) := by decide +kernel
theorem dX11_change_98 : decode cX11_change 98 = .ok (.if_icmp .ge 11, 3) := by decide +kernel
theorem dX11_change_101 : decode cX11_change 101 = .ok (.iload 9, 2) := by decide +kernel
theorem dX11_change_103 : decode cX11_change 103 = .ok (.iload 8, 2) := by decide +kernel
theorem dX11_change_105 : decode cX11_change 105 = .ok (.isub, 1) := by decide +kernel
theorem dX11_change_106 : decode cX11_change 106 = .ok (.goto 8, 3) := by decide +kernel
theorem dX11_change_109 : decode cX11_change 109 = .ok (.iload 8, 2) := by decide +kernel
theorem dX11_change_111 : decode cX11_change 111 = .ok (.iload 9, 2) := by decide +kernel
theorem dX11_change_113 : decode cX11_change 113 = .ok (.isub, 1) := by decide +kernel
theorem dX11_change_114 : decode cX11_change 114 = .ok (.iadd, 1) := by decide +kernel
theorem dX11_change_115 : decode cX11_change 115 = .ok (.istore 6, 2) := by decide +kernel
theorem dX11_change_117 : decode cX11_change 117 = .ok (.iinc 7 1, 3) := by decide +kernel
theorem dX11_change_120 : decode cX11_change 120 = .ok (.goto (-114), 3) := by decide +kernel
theorem dX11_change_123 : decode cX11_change 123 = .ok (.iload 6, 2) := by decide +kernel
theorem dX11_change_125 : decode cX11_change 125 = .ok (.ireturn, 1) := by decide +kernel
theorem dX11_sum_0 : decode cX11_sum 0 = .ok (.aload_n 0, 1) := by decide +kernel
theorem dX11_sum_1 : decode cX11_sum 1 = .ok (.getfield 197, 3) := by decide +kernel
theorem dX11_sum_4 : decode cX11_sum 4 = .ok (.ifCond .le 7, 3) := by decide +kernel
theorem dX11_sum_7 : decode cX11_sum 7 = .ok (.iconst 1, 1) := by decide +kernel
theorem dX11_sum_8 : decode cX11_sum 8 = .ok (.goto 4, 3) := by decide +kernel
theorem dX11_sum_11 : decode cX11_sum 11 = .ok (.iconst 0, 1) := by decide +kernel
theorem dX11_sum_12 : decode cX11_sum 12 = .ok (.istore_n 2, 1) := by decide +kernel
theorem dX11_sum_13 : decode cX11_sum 13 = .ok (.iconst 0, 1) := by decide +kernel
theorem dX11_sum_14 : decode cX11_sum 14 = .ok (.istore_n 3, 1) := by decide +kernel
theorem dX11_sum_15 : decode cX11_sum 15 = .ok (.iload_n 3, 1) := by decide +kernel
theorem dX11_sum_16 : decode cX11_sum 16 = .ok (.aload_n 0, 1) := by decide +kernel
theorem dX11_sum_17 : decode cX11_sum 17 = .ok (.getfield 197, 3) := by decide +kernel
theorem dX11_sum_20 : decode cX11_sum 20 = .ok (.if_icmp .ge 28, 3) := by decide +kernel
theorem dX11_sum_23 : decode cX11_sum 23 = .ok (.iload_n 2, 1) := by decide +kernel
theorem dX11_sum_24 : decode cX11_sum 24 = .ok (.ifCond .eq 24, 3) := by decide +kernel
theorem dX11_sum_27 : decode cX11_sum 27 = .ok (.aload_n 0, 1) := by decide +kernel
theorem dX11_sum_28 : decode cX11_sum 28 = .ok (.iload_n 3, 1) := by decide +kernel
theorem dX11_sum_29 : decode cX11_sum 29 = .ok (.iload_n 1, 1) := by decide +kernel
theorem dX11_sum_30 : decode cX11_sum 30 = .ok (.invokevirtual 282, 3) := by decide +kernel
theorem dX11_sum_33 : decode cX11_sum 33 = .ok (.ifCond .le 7, 3) := by decide +kernel
theorem dX11_sum_36 : decode cX11_sum 36 = .ok (.iconst 1, 1) := by decide +kernel
theorem dX11_sum_37 : decode cX11_sum 37 = .ok (.goto 4, 3) := by decide +kernel
theorem dX11_sum_40 : decode cX11_sum 40 = .ok (.iconst 0, 1) := by decide +kernel
theorem dX11_sum_41 : decode cX11_sum 41 = .ok (.istore_n 2, 1) := by decide +kernel
theorem dX11_sum_42 : decode cX11_sum 42 = .ok (.iinc 3 1, 3) := by decide +kernel
theorem dX11_sum_45 : decode cX11_sum 45 = .ok (.goto (-30), 3) := by decide +kernel
theorem dX11_sum_48 : decode cX11_sum 48 = .ok (.iload_n 2, 1) := by decide +kernel
theorem dX11_sum_49 : decode cX11_sum 49 = .ok (.ifCond .ne 5, 3) := by decide +kernel
theorem dX11_sum_52 : decode cX11_sum 52 = .ok (.iconst (-1), 1) := by decide +kernel
theorem dX11_sum_53 : decode cX11_sum 53 = .ok (.ireturn, 1) := by decide +kernel
theorem dX11_sum_54 : decode cX11_sum 54 = .ok (.aload_n 0, 1) := by decide +kernel
theorem dX11_sum_55 : decode cX11_sum 55 = .ok (.getfield 197, 3) := by decide +kernel
theorem dX11_sum_58 : decode cX11_sum 58 = .ok (.iconst 1, 1) := by decide +kernel
theorem dX11_sum_59 : decode cX11_sum 59 = .ok (.isub, 1) := by decide +kernel
theorem dX11_sum_60 : decode cX11_sum 60 = .ok (.istore_n 3, 1) := by decide +kernel
theorem dX11_sum_61 : decode cX11_sum 61 = .ok (.iload_n 3, 1) := by decide +kernel
theorem dX11_sum_62 : decode cX11_sum 62 = .ok (.ifCond .lt 170, 3) := by decide +kernel
theorem dX11_sum_65 : decode cX11_sum 65 = .ok (.iconst 0, 1) := by decide +kernel
theorem dX11_sum_66 : decode cX11_sum 66 = .ok (.istore 4, 2) := by decide +kernel
theorem dX11_sum_68 : decode cX11_sum 68 = .ok (.iload 4, 2) := by decide +kernel
theorem dX11_sum_70 : decode cX11_sum 70 = .ok (.aload_n 0, 1) := by decide +kernel
theorem dX11_sum_71 : decode cX11_sum 71 = .ok (.getfield 68, 3) := by decide +kernel
theorem dX11_sum_74 : decode cX11_sum 74 = .ok (.bipush 8, 2) := by decide +kernel
theorem dX11_sum_76 : decode cX11_sum 76 = .ok (.iload_n 3, 1) := by decide +kernel
theorem dX11_sum_77 : decode cX11_sum 77 = .ok (.imul, 1) := by decide +kernel
theorem dX11_sum_78 : decode cX11_sum 78 = .ok (.iload_n 1, 1) := by decide +kernel
theorem dX11_sum_79 : decode cX11_sum 79 = .ok (.iadd, 1) := by decide +kernel
theorem dX11_sum_80 : decode cX11_sum 80 = .ok (.iaload, 1) := by decide +kernel
theorem dX11_sum_81 : decode cX11_sum 81 = .ok (.if_icmp .ge 145, 3) := by decide +kernel
theorem dX11_sum_84 : decode cX11_sum 84 = .ok (.iload_n 3, 1) := by decide +kernel
theorem dX11_sum_85 : decode cX11_sum 85 = .ok (.aload_n 0, 1) := by decide +kernel
theorem dX11_sum_86 : decode cX11_sum 86 = .ok (.getfield 197, 3) := by decide +kernel
theorem dX11_sum_89 : decode cX11_sum 89 = .ok (.iconst 1, 1) := by decide +kernel
theorem dX11_sum_90 : decode cX11_sum 90 = .ok (.isub, 1) := by decide +kernel
theorem dX11_sum_91 : decode cX11_sum 91 = .ok (.if_icmp .ne 7, 3) := by decide +kernel
theorem dX11_sum_94 : decode cX11_sum 94 = .ok (.iconst 0, 1) := by decide +kernel
theorem dX11_sum_95 : decode cX11_sum 95 = .ok (.goto 6, 3) := by decide +kernel
theorem dX11_sum_98 : decode cX11_sum 98 = .ok (.ldc_w 271, 3) := by decide +kernel
theorem dX11_sum_101 : decode cX11_sum 101 = .ok (.istore 5, 2) := by decide +kernel
theorem dX11_sum_103 : decode cX11_sum 103 = .ok (.iconst 0, 1) := by decide +kernel
theorem dX11_sum_104 : decode cX11_sum 104 = .ok (.istore 6, 2) := by decide +kernel
theorem dX11_sum_106 : decode cX11_sum 106 = .ok (.iload_n 3, 1) := by decide +kernel
theorem dX11_sum_107 : decode cX11_sum 107 = .ok (.aload_n 0, 1) := by decide +kernel
theorem dX11_sum_108 : decode cX11_sum 108 = .ok (.getfield 197, 3) := by decide +kernel
theorem dX11_sum_111 : decode cX11_sum 111 = .ok (.iconst 1, 1) := by decide +kernel
theorem dX11_sum_112 : decode cX11_sum 112 = .ok (.isub, 1) := by decide +kernel
theorem dX11_sum_113 : decode cX11_sum 113 = .ok (.if_icmp .ge 75, 3) := by decide +kernel
theorem dX11_sum_116 : decode cX11_sum 116 = .ok (.iload 6, 2) := by decide +kernel
theorem dX11_sum_118 : decode cX11_sum 118 = .ok (.aload_n 0, 1) := by decide +kernel
theorem dX11_sum_119 : decode cX11_sum 119 = .ok (.getfield 68, 3) := by decide +kernel
theorem dX11_sum_122 : decode cX11_sum 122 = .ok (.bipush 8, 2) := by decide +kernel
theorem dX11_sum_124 : decode cX11_sum 124 = .ok (.iload_n 3, 1) := by decide +kernel
theorem dX11_sum_125 : decode cX11_sum 125 = .ok (.imul, 1) := by decide +kernel
theorem dX11_sum_126 : decode cX11_sum 126 = .ok (.bipush 8, 2) := by decide +kernel
theorem dX11_sum_128 : decode cX11_sum 128 = .ok (.iadd, 1) := by decide +kernel
theorem dX11_sum_129 : decode cX11_sum 129 = .ok (.iload_n 1, 1) := by decide +kernel
theorem dX11_sum_130 : decode cX11_sum 130 = .ok (.iadd, 1) := by decide +kernel
theorem dX11_sum_131 : decode cX11_sum 131 = .ok (.iaload, 1) := by decide +kernel
theorem dX11_sum_132 : decode cX11_sum 132 = .ok (.if_icmp .ge 56, 3) := by decide +kernel
theorem dX11_sum_135 : decode cX11_sum 135 = .ok (.aload_n 0, 1) := by decide +kernel
theorem dX11_sum_136 : decode cX11_sum 136 = .ok (.iload_n 3, 1) := by decide +kernel
theorem dX11_sum_137 : decode cX11_sum 137 = .ok (.iload 4, 2) := by decide +kernel
theorem dX11_sum_139 : decode cX11_sum 139 = .ok (.iload_n 3, 1) := by decide +kernel
theorem dX11_sum_140 : decode cX11_sum 140 = .ok (.iconst 1, 1) := by decide +kernel
theorem dX11_sum_141 : decode cX11_sum 141 = .ok (.iadd, 1) := by decide +kernel
theorem dX11_sum_142 : decode cX11_sum 142 = .ok (.iload 6, 2) := by decide +kernel
theorem dX11_sum_144 : decode cX11_sum 144 = .ok (.iload_n 1, 1) := by decide +kernel
theorem dX11_sum_145 : decode cX11_sum 145 = .ok (.invokevirtual 286, 3) := by decide +kernel
theorem dX11_sum_148 : decode cX11_sum 148 = .ok (.aload_n 0, 1) := by decide +kernel
theorem dX11_sum_149 : decode cX11_sum 149 = .ok (.getfield 86, 3) := by decide +kernel
theorem dX11_sum_152 : decode cX11_sum 152 = .ok (.bipush 6, 2) := by decide +kernel
theorem dX11_sum_154 : decode cX11_sum 154 = .ok (.iload_n 3, 1) := by decide +kernel
theorem dX11_sum_155 : decode cX11_sum 155 = .ok (.imul, 1) := by decide +kernel
theorem dX11_sum_156 : decode cX11_sum 156 = .ok (.bipush 6, 2) := by decide +kernel
theorem dX11_sum_158 : decode cX11_sum 158 = .ok (.iadd, 1) := by decide +kernel
theorem dX11_sum_159 : decode cX11_sum 159 = .ok (.iload 6, 2) := by decide +kernel
theorem dX11_sum_161 : decode cX11_sum 161 = .ok (.iadd, 1) := by decide +kernel
theorem dX11_sum_162 : decode cX11_sum 162 = .ok (.iaload, 1) := by decide +kernel
theorem dX11_sum_163 : decode cX11_sum 163 = .ok (.iadd, 1) := by decide +kernel
theorem dX11_sum_164 : decode cX11_sum 164 = .ok (.istore 7, 2) := by decide +kernel
theorem dX11_sum_166 : decode cX11_sum 166 = .ok (.iload 7, 2) := by decide +kernel
theorem dX11_sum_168 : decode cX11_sum 168 = .ok (.iload 5, 2) := by decide +kernel
theorem dX11_sum_170 : decode cX11_sum 170 = .ok (.if_icmp .ge 8, 3) := by decide +kernel
theorem dX11_sum_173 : decode cX11_sum 173 = .ok (.iload 7, 2) := by decide +kernel
theorem dX11_sum_175 : decode cX11_sum 175 = .ok (.goto 5, 3) := by decide +kernel
theorem dX11_sum_178 : decode cX11_sum 178 = .ok (.iload 5, 2) := by decide +kernel
theorem dX11_sum_180 : decode cX11_sum 180 = .ok (.istore 5, 2) := by decide +kernel
theorem dX11_sum_182 : decode cX11_sum 182 = .ok (.iinc 6 1, 3) := by decide +kernel
theorem dX11_sum_185 : decode cX11_sum 185 = .ok (.goto (-79), 3) := by decide +kernel
theorem dX11_sum_188 : decode cX11_sum 188 = .ok (.aload_n 0, 1) := by decide +kernel
theorem dX11_sum_189 : decode cX11_sum 189 = .ok (.getfield 86, 3) := by decide +kernel
theorem dX11_sum_192 : decode cX11_sum 192 = .ok (.bipush 6, 2) := by decide +kernel
theorem dX11_sum_194 : decode cX11_sum 194 = .ok (.iload_n 3, 1) := by decide +kernel
theorem dX11_sum_195 : decode cX11_sum 195 = .ok (.imul, 1) := by decide +kernel
theorem dX11_sum_196 : decode cX11_sum 196 = .ok (.iload 4, 2) := by decide +kernel
theorem dX11_sum_198 : decode cX11_sum 198 = .ok (.iadd, 1) := by decide +kernel
theorem dX11_sum_199 : decode cX11_sum 199 = .ok (.aload_n 0, 1) := by decide +kernel
theorem dX11_sum_200 : decode cX11_sum 200 = .ok (.getfield 74, 3) := by decide +kernel
theorem dX11_sum_203 : decode cX11_sum 203 = .ok (.bipush 6, 2) := by decide +kernel
theorem dX11_sum_205 : decode cX11_sum 205 = .ok (.bipush 8, 2) := by decide +kernel
theorem dX11_sum_207 : decode cX11_sum 207 = .ok (.iload_n 3, 1) := by decide +kernel
theorem dX11_sum_208 : decode cX11_sum 208 = .ok (.imul, 1) := by decide +kernel
theorem dX11_sum_209 : decode cX11_sum 209 = .ok (.iload_n 1, 1) := by decide +kernel
theorem dX11_sum_210 : decode cX11_sum 210 = .ok (.iadd, 1) := by decide +kernel
theorem dX11_sum_211 : decode cX11_sum 211 = .ok (.imul, 1) := by decide +kernel
theorem dX11_sum_212 : decode cX11_sum 212 = .ok (.iload 4, 2) := by decide +kernel
theorem dX11_sum_214 : decode cX11_sum 214 = .ok (.iadd, 1) := by decide +kernel
theorem dX11_sum_215 : decode cX11_sum 215 = .ok (.iaload, 1) := by decide +kernel
theorem dX11_sum_216 : decode cX11_sum 216 = .ok (.iload 5, 2) := by decide +kernel
theorem dX11_sum_218 : decode cX11_sum 218 = .ok (.iadd, 1) := by decide +kernel
theorem dX11_sum_219 : decode cX11_sum 219 = .ok (.iastore, 1) := by decide +kernel
theorem dX11_sum_220 : decode cX11_sum 220 = .ok (.iinc 4 1, 3) := by decide +kernel
theorem dX11_sum_223 : decode cX11_sum 223 = .ok (.goto (-155), 3) := by decide +kernel
theorem dX11_sum_226 : decode cX11_sum 226 = .ok (.iinc 3 (-1), 3) := by decide +kernel
theorem dX11_sum_229 : decode cX11_sum 229 = .ok (.goto (-168), 3) := by decide +kernel
theorem dX11_sum_232 : decode cX11_sum 232 = .ok (.ldc_w 271, 3) := by decide +kernel
theorem dX11_sum_235 : decode cX11_sum 235 = .ok (.istore_n 3, 1) := by decide +kernel
theorem dX11_sum_236 : decode cX11_sum 236 = .ok (.iconst 0, 1) := by decide +kernel
theorem dX11_sum_237 : decode cX11_sum 237 = .ok (.istore 4, 2) := by decide +kernel
theorem dX11_sum_239 : decode cX11_sum 239 = .ok (.iload 4, 2) := by decide +kernel
theorem dX11_sum_241 : decode cX11_sum 241 = .ok (.aload_n 0, 1) := by decide +kernel
theorem dX11_sum_242 : decode cX11_sum 242 = .ok (.getfield 68, 3) := by decide +kernel
theorem dX11_sum_245 : decode cX11_sum 245 = .ok (.iload_n 1, 1) := by decide +kernel
theorem dX11_sum_246 : decode cX11_sum 246 = .ok (.iaload, 1) := by decide +kernel
theorem dX11_sum_247 : decode cX11_sum 247 = .ok (.if_icmp .ge 32, 3) := by decide +kernel
theorem dX11_sum_250 : decode cX11_sum 250 = .ok (.aload_n 0, 1) := by decide +kernel
theorem dX11_sum_251 : decode cX11_sum 251 = .ok (.getfield 86, 3) := by decide +kernel
theorem dX11_sum_254 : decode cX11_sum 254 = .ok (.iload 4, 2) := by decide +kernel
theorem dX11_sum_256 : decode cX11_sum 256 = .ok (.iaload, 1) := by decide +kernel
theorem dX11_sum_257 : decode cX11_sum 257 = .ok (.iload_n 3, 1) := by decide +kernel
theorem dX11_sum_258 : decode cX11_sum 258 = .ok (.if_icmp .ge 13, 3) := by decide +kernel
theorem dX11_sum_261 : decode cX11_sum 261 = .ok (.aload_n 0, 1) := by decide +kernel
theorem dX11_sum_262 : decode cX11_sum 262 = .ok (.getfield 86, 3) := by decide +kernel
theorem dX11_sum_265 : decode cX11_sum 265 = .ok (.iload 4, 2) := by decide +kernel
theorem dX11_sum_267 : decode cX11_sum 267 = .ok (.iaload, 1) := by decide +kernel
theorem dX11_sum_268 : decode cX11_sum 268 = .ok (.goto 4, 3) := by decide +kernel
theorem dX11_sum_271 : decode cX11_sum 271 = .ok (.iload_n 3, 1) := by decide +kernel
theorem dX11_sum_272 : decode cX11_sum 272 = .ok (.istore_n 3, 1) := by decide +kernel
theorem dX11_sum_273 : decode cX11_sum 273 = .ok (.iinc 4 1, 3) := by decide +kernel
theorem dX11_sum_276 : decode cX11_sum 276 = .ok (.goto (-37), 3) := by decide +kernel
theorem dX11_sum_279 : decode cX11_sum 279 = .ok (.iload_n 3, 1) := by decide +kernel
theorem dX11_sum_280 : decode cX11_sum 280 = .ok (.ireturn, 1) := by decide +kernel
theorem dX11_plays_0 : decode cX11_plays 0 = .ok (.aload_n 0, 1) := by decide +kernel
theorem dX11_plays_1 : decode cX11_plays 1 = .ok (.iload_n 1, 1) := by decide +kernel
theorem dX11_plays_2 : decode cX11_plays 2 = .ok (.putfield 17, 3) := by decide +kernel
theorem dX11_plays_5 : decode cX11_plays 5 = .ok (.iload_n 2, 1) := by decide +kernel
theorem dX11_plays_6 : decode cX11_plays 6 = .ok (.istore_n 3, 1) := by decide +kernel
theorem dX11_plays_7 : decode cX11_plays 7 = .ok (.iconst 0, 1) := by decide +kernel
theorem dX11_plays_8 : decode cX11_plays 8 = .ok (.istore 4, 2) := by decide +kernel
theorem dX11_plays_10 : decode cX11_plays 10 = .ok (.iload 4, 2) := by decide +kernel
theorem dX11_plays_12 : decode cX11_plays 12 = .ok (.aload_n 0, 1) := by decide +kernel
theorem dX11_plays_13 : decode cX11_plays 13 = .ok (.getfield 197, 3) := by decide +kernel
theorem dX11_plays_16 : decode cX11_plays 16 = .ok (.if_icmp .ge 109, 3) := by decide +kernel
theorem dX11_plays_19 : decode cX11_plays 19 = .ok (.iconst 0, 1) := by decide +kernel
theorem dX11_plays_20 : decode cX11_plays 20 = .ok (.istore 5, 2) := by decide +kernel
theorem dX11_plays_22 : decode cX11_plays 22 = .ok (.aload_n 0, 1) := by decide +kernel
theorem dX11_plays_23 : decode cX11_plays 23 = .ok (.getfield 86, 3) := by decide +kernel
theorem dX11_plays_26 : decode cX11_plays 26 = .ok (.bipush 6, 2) := by decide +kernel
theorem dX11_plays_28 : decode cX11_plays 28 = .ok (.iload 4, 2) := by decide +kernel
theorem dX11_plays_30 : decode cX11_plays 30 = .ok (.imul, 1) := by decide +kernel
theorem dX11_plays_31 : decode cX11_plays 31 = .ok (.iload 5, 2) := by decide +kernel
theorem dX11_plays_33 : decode cX11_plays 33 = .ok (.iadd, 1) := by decide +kernel
theorem dX11_plays_34 : decode cX11_plays 34 = .ok (.iaload, 1) := by decide +kernel
theorem dX11_plays_35 : decode cX11_plays 35 = .ok (.iload 4, 2) := by decide +kernel
theorem dX11_plays_37 : decode cX11_plays 37 = .ok (.ifCond .ne 7, 3) := by decide +kernel
theorem dX11_plays_40 : decode cX11_plays 40 = .ok (.iconst 0, 1) := by decide +kernel
theorem dX11_plays_41 : decode cX11_plays 41 = .ok (.goto 25, 3) := by decide +kernel
theorem dX11_plays_44 : decode cX11_plays 44 = .ok (.aload_n 0, 1) := by decide +kernel
theorem dX11_plays_45 : decode cX11_plays 45 = .ok (.iload 4, 2) := by decide +kernel
theorem dX11_plays_47 : decode cX11_plays 47 = .ok (.iconst 1, 1) := by decide +kernel
theorem dX11_plays_48 : decode cX11_plays 48 = .ok (.isub, 1) := by decide +kernel
theorem dX11_plays_49 : decode cX11_plays 49 = .ok (.aload_n 0, 1) := by decide +kernel
theorem dX11_plays_50 : decode cX11_plays 50 = .ok (.getfield 53, 3) := by decide +kernel
theorem dX11_plays_53 : decode cX11_plays 53 = .ok (.iload 4, 2) := by decide +kernel
theorem dX11_plays_55 : decode cX11_plays 55 = .ok (.iconst 1, 1) := by decide +kernel
theorem dX11_plays_56 : decode cX11_plays 56 = .ok (.isub, 1) := by decide +kernel
theorem dX11_plays_57 : decode cX11_plays 57 = .ok (.iaload, 1) := by decide +kernel
theorem dX11_plays_58 : decode cX11_plays 58 = .ok (.iload 4, 2) := by decide +kernel
theorem dX11_plays_60 : decode cX11_plays 60 = .ok (.iload 5, 2) := by decide +kernel
theorem dX11_plays_62 : decode cX11_plays 62 = .ok (.iload_n 1, 1) := by decide +kernel
theorem dX11_plays_63 : decode cX11_plays 63 = .ok (.invokevirtual 286, 3) := by decide +kernel
theorem dX11_plays_66 : decode cX11_plays 66 = .ok (.iadd, 1) := by decide +kernel
theorem dX11_plays_67 : decode cX11_plays 67 = .ok (.iload_n 3, 1) := by decide +kernel
theorem dX11_plays_68 : decode cX11_plays 68 = .ok (.if_icmp .eq 9, 3) := by decide +kernel
theorem dX11_plays_71 : decode cX11_plays 71 = .ok (.iinc 5 1, 3) := by decide +kernel
theorem dX11_plays_74 : decode cX11_plays 74 = .ok (.goto (-52), 3) := by decide +kernel
theorem dX11_plays_77 : decode cX11_plays 77 = .ok (.aload_n 0, 1) := by decide +kernel
theorem dX11_plays_78 : decode cX11_plays 78 = .ok (.getfield 53, 3) := by decide +kernel
theorem dX11_plays_81 : decode cX11_plays 81 = .ok (.iload 4, 2) := by decide +kernel
theorem dX11_plays_83 : decode cX11_plays 83 = .ok (.iload 5, 2) := by decide +kernel
theorem dX11_plays_85 : decode cX11_plays 85 = .ok (.iastore, 1) := by decide +kernel
theorem dX11_plays_86 : decode cX11_plays 86 = .ok (.aload_n 0, 1) := by decide +kernel
theorem dX11_plays_87 : decode cX11_plays 87 = .ok (.getfield 86, 3) := by decide +kernel
theorem dX11_plays_90 : decode cX11_plays 90 = .ok (.bipush 6, 2) := by decide +kernel
theorem dX11_plays_92 : decode cX11_plays 92 = .ok (.iload 4, 2) := by decide +kernel
theorem dX11_plays_94 : decode cX11_plays 94 = .ok (.imul, 1) := by decide +kernel
theorem dX11_plays_95 : decode cX11_plays 95 = .ok (.iload 5, 2) := by decide +kernel
theorem dX11_plays_97 : decode cX11_plays 97 = .ok (.iadd, 1) := by decide +kernel
theorem dX11_plays_98 : decode cX11_plays 98 = .ok (.iaload, 1) := by decide +kernel
theorem dX11_plays_99 : decode cX11_plays 99 = .ok (.aload_n 0, 1) := by decide +kernel
theorem dX11_plays_100 : decode cX11_plays 100 = .ok (.getfield 74, 3) := by decide +kernel
theorem dX11_plays_103 : decode cX11_plays 103 = .ok (.bipush 6, 2) := by decide +kernel
theorem dX11_plays_105 : decode cX11_plays 105 = .ok (.bipush 8, 2) := by decide +kernel
theorem dX11_plays_107 : decode cX11_plays 107 = .ok (.iload 4, 2) := by decide +kernel
theorem dX11_plays_109 : decode cX11_plays 109 = .ok (.imul, 1) := by decide +kernel
theorem dX11_plays_110 : decode cX11_plays 110 = .ok (.iload_n 1, 1) := by decide +kernel
theorem dX11_plays_111 : decode cX11_plays 111 = .ok (.iadd, 1) := by decide +kernel
theorem dX11_plays_112 : decode cX11_plays 112 = .ok (.imul, 1) := by decide +kernel
theorem dX11_plays_113 : decode cX11_plays 113 = .ok (.iload 5, 2) := by decide +kernel
theorem dX11_plays_115 : decode cX11_plays 115 = .ok (.iadd, 1) := by decide +kernel
theorem dX11_plays_116 : decode cX11_plays 116 = .ok (.iaload, 1) := by decide +kernel
theorem dX11_plays_117 : decode cX11_plays 117 = .ok (.isub, 1) := by decide +kernel
theorem dX11_plays_118 : decode cX11_plays 118 = .ok (.istore_n 3, 1) := by decide +kernel
theorem dX11_plays_119 : decode cX11_plays 119 = .ok (.iinc 4 1, 3) := by decide +kernel
theorem dX11_plays_122 : decode cX11_plays 122 = .ok (.goto (-112), 3) := by decide +kernel
theorem dX11_plays_125 : decode cX11_plays 125 = .ok (.return_, 1) := by decide +kernel
theorem dX11_play_0 : decode cX11_play 0 = .ok (.aload_n 0, 1) := by decide +kernel
theorem dX11_play_1 : decode cX11_play 1 = .ok (.iconst 0, 1) := by decide +kernel
theorem dX11_play_2 : decode cX11_play 2 = .ok (.putfield 89, 3) := by decide +kernel
theorem dX11_play_5 : decode cX11_play 5 = .ok (.aload_n 0, 1) := by decide +kernel
theorem dX11_play_6 : decode cX11_play 6 = .ok (.iload_n 1, 1) := by decide +kernel
theorem dX11_play_7 : decode cX11_play 7 = .ok (.invokestatic 279, 3) := by decide +kernel
theorem dX11_play_10 : decode cX11_play 10 = .ok (.iconst 1, 1) := by decide +kernel
theorem dX11_play_11 : decode cX11_play 11 = .ok (.invokevirtual 190, 3) := by decide +kernel
theorem dX11_play_14 : decode cX11_play 14 = .ok (.ifCond .ne 5, 3) := by decide +kernel
theorem dX11_play_17 : decode cX11_play 17 = .ok (.iconst 0, 1) := by decide +kernel
theorem dX11_play_18 : decode cX11_play 18 = .ok (.ireturn, 1) := by decide +kernel
theorem dX11_play_19 : decode cX11_play 19 = .ok (.aload_n 0, 1) := by decide +kernel
theorem dX11_play_20 : decode cX11_play 20 = .ok (.iload_n 1, 1) := by decide +kernel
theorem dX11_play_21 : decode cX11_play 21 = .ok (.invokevirtual 290, 3) := by decide +kernel
theorem dX11_play_24 : decode cX11_play 24 = .ok (.istore_n 2, 1) := by decide +kernel
theorem dX11_play_25 : decode cX11_play 25 = .ok (.iload_n 2, 1) := by decide +kernel
theorem dX11_play_26 : decode cX11_play 26 = .ok (.iconst (-1), 1) := by decide +kernel
theorem dX11_play_27 : decode cX11_play 27 = .ok (.if_icmp .eq 9, 3) := by decide +kernel
theorem dX11_play_30 : decode cX11_play 30 = .ok (.aload_n 0, 1) := by decide +kernel
theorem dX11_play_31 : decode cX11_play 31 = .ok (.iload_n 1, 1) := by decide +kernel
theorem dX11_play_32 : decode cX11_play 32 = .ok (.iload_n 2, 1) := by decide +kernel
theorem dX11_play_33 : decode cX11_play 33 = .ok (.invokevirtual 293, 3) := by decide +kernel
theorem dX11_play_36 : decode cX11_play 36 = .ok (.iload_n 2, 1) := by decide +kernel
theorem dX11_play_37 : decode cX11_play 37 = .ok (.ireturn, 1) := by decide +kernel
theorem dX11_easiest_0 : decode cX11_easiest 0 = .ok (.aload_n 0, 1) := by decide +kernel
theorem dX11_easiest_1 : decode cX11_easiest 1 = .ok (.iconst 0, 1) := by decide +kernel
theorem dX11_easiest_2 : decode cX11_easiest 2 = .ok (.putfield 89, 3) := by decide +kernel
theorem dX11_easiest_5 : decode cX11_easiest 5 = .ok (.iconst (-1), 1) := by decide +kernel
theorem dX11_easiest_6 : decode cX11_easiest 6 = .ok (.istore_n 1, 1) := by decide +kernel
theorem dX11_easiest_7 : decode cX11_easiest 7 = .ok (.ldc_w 271, 3) := by decide +kernel
theorem dX11_easiest_10 : decode cX11_easiest 10 = .ok (.istore_n 2, 1) := by decide +kernel
theorem dX11_easiest_11 : decode cX11_easiest 11 = .ok (.iconst 0, 1) := by decide +kernel
theorem dX11_easiest_12 : decode cX11_easiest 12 = .ok (.istore_n 3, 1) := by decide +kernel
theorem dX11_easiest_13 : decode cX11_easiest 13 = .ok (.iload_n 3, 1) := by decide +kernel
theorem dX11_easiest_14 : decode cX11_easiest 14 = .ok (.bipush 7, 2) := by decide +kernel
theorem dX11_easiest_16 : decode cX11_easiest 16 = .ok (.if_icmp .gt 36, 3) := by decide +kernel
theorem dX11_easiest_19 : decode cX11_easiest 19 = .ok (.aload_n 0, 1) := by decide +kernel
theorem dX11_easiest_20 : decode cX11_easiest 20 = .ok (.iload_n 3, 1) := by decide +kernel
theorem dX11_easiest_21 : decode cX11_easiest 21 = .ok (.invokevirtual 290, 3) := by decide +kernel
theorem dX11_easiest_24 : decode cX11_easiest 24 = .ok (.istore 4, 2) := by decide +kernel
theorem dX11_easiest_26 : decode cX11_easiest 26 = .ok (.iload 4, 2) := by decide +kernel
theorem dX11_easiest_28 : decode cX11_easiest 28 = .ok (.iconst (-1), 1) := by decide +kernel
theorem dX11_easiest_29 : decode cX11_easiest 29 = .ok (.if_icmp .eq 17, 3) := by decide +kernel
theorem dX11_easiest_32 : decode cX11_easiest 32 = .ok (.iload 4, 2) := by decide +kernel
theorem dX11_easiest_34 : decode cX11_easiest 34 = .ok (.iload_n 2, 1) := by decide +kernel
theorem dX11_easiest_35 : decode cX11_easiest 35 = .ok (.if_icmp .lt 6, 3) := by decide +kernel
theorem dX11_easiest_38 : decode cX11_easiest 38 = .ok (.goto 8, 3) := by decide +kernel
theorem dX11_easiest_41 : decode cX11_easiest 41 = .ok (.iload_n 3, 1) := by decide +kernel
theorem dX11_easiest_42 : decode cX11_easiest 42 = .ok (.istore_n 1, 1) := by decide +kernel
theorem dX11_easiest_43 : decode cX11_easiest 43 = .ok (.iload 4, 2) := by decide +kernel
theorem dX11_easiest_45 : decode cX11_easiest 45 = .ok (.istore_n 2, 1) := by decide +kernel
theorem dX11_easiest_46 : decode cX11_easiest 46 = .ok (.iinc 3 1, 3) := by decide +kernel
theorem dX11_easiest_49 : decode cX11_easiest 49 = .ok (.goto (-36), 3) := by decide +kernel
theorem dX11_easiest_52 : decode cX11_easiest 52 = .ok (.iload_n 1, 1) := by decide +kernel
theorem dX11_easiest_53 : decode cX11_easiest 53 = .ok (.iconst (-1), 1) := by decide +kernel
theorem dX11_easiest_54 : decode cX11_easiest 54 = .ok (.if_icmp .eq 13, 3) := by decide +kernel
theorem dX11_easiest_57 : decode cX11_easiest 57 = .ok (.aload_n 0, 1) := by decide +kernel
theorem dX11_easiest_58 : decode cX11_easiest 58 = .ok (.iload_n 1, 1) := by decide +kernel
theorem dX11_easiest_59 : decode cX11_easiest 59 = .ok (.aload_n 0, 1) := by decide +kernel
theorem dX11_easiest_60 : decode cX11_easiest 60 = .ok (.iload_n 1, 1) := by decide +kernel
theorem dX11_easiest_61 : decode cX11_easiest 61 = .ok (.invokevirtual 290, 3) := by decide +kernel
theorem dX11_easiest_64 : decode cX11_easiest 64 = .ok (.invokevirtual 293, 3) := by decide +kernel
theorem dX11_easiest_67 : decode cX11_easiest 67 = .ok (.iload_n 1, 1) := by decide +kernel
theorem dX11_easiest_68 : decode cX11_easiest 68 = .ok (.ireturn, 1) := by decide +kernel
theorem dX11_played_0 : decode cX11_played 0 = .ok (.aload_n 0, 1) := by decide +kernel
theorem dX11_played_1 : decode cX11_played 1 = .ok (.iconst 0, 1) := by decide +kernel
theorem dX11_played_2 : decode cX11_played 2 = .ok (.putfield 89, 3) := by decide +kernel
theorem dX11_played_5 : decode cX11_played 5 = .ok (.aload_n 0, 1) := by decide +kernel
theorem dX11_played_6 : decode cX11_played 6 = .ok (.getfield 17, 3) := by decide +kernel
theorem dX11_played_9 : decode cX11_played 9 = .ok (.iconst (-1), 1) := by decide +kernel
theorem dX11_played_10 : decode cX11_played 10 = .ok (.if_icmp .eq 16, 3) := by decide +kernel
theorem dX11_played_13 : decode cX11_played 13 = .ok (.iload_n 1, 1) := by decide +kernel
theorem dX11_played_14 : decode cX11_played 14 = .ok (.iconst (-1), 1) := by decide +kernel
theorem dX11_played_15 : decode cX11_played 15 = .ok (.if_icmp .lt 11, 3) := by decide +kernel
theorem dX11_played_18 : decode cX11_played 18 = .ok (.iload_n 1, 1) := by decide +kernel
theorem dX11_played_19 : decode cX11_played 19 = .ok (.aload_n 0, 1) := by decide +kernel
theorem dX11_played_20 : decode cX11_played 20 = .ok (.getfield 197, 3) := by decide +kernel
theorem dX11_played_23 : decode cX11_played 23 = .ok (.if_icmp .lt 5, 3) := by decide +kernel
theorem dX11_played_26 : decode cX11_played 26 = .ok (.iconst (-1), 1) := by decide +kernel
theorem dX11_played_27 : decode cX11_played 27 = .ok (.ireturn, 1) := by decide +kernel
theorem dX11_played_28 : decode cX11_played 28 = .ok (.iload_n 1, 1) := by decide +kernel
theorem dX11_played_29 : decode cX11_played 29 = .ok (.iconst (-1), 1) := by decide +kernel
theorem dX11_played_30 : decode cX11_played 30 = .ok (.if_icmp .ne 10, 3) := by decide +kernel
theorem dX11_played_33 : decode cX11_played 33 = .ok (.aload_n 0, 1) := by decide +kernel
theorem dX11_played_34 : decode cX11_played 34 = .ok (.getfield 17, 3) := by decide +kernel
theorem dX11_played_37 : decode cX11_played 37 = .ok (.goto 9, 3) := by decide +kernel
theorem dX11_played_40 : decode cX11_played 40 = .ok (.aload_n 0, 1) := by decide +kernel
theorem dX11_played_41 : decode cX11_played 41 = .ok (.getfield 53, 3) := by decide +kernel
theorem dX11_played_44 : decode cX11_played 44 = .ok (.iload_n 1, 1) := by decide +kernel
theorem dX11_played_45 : decode cX11_played 45 = .ok (.iaload, 1) := by decide +kernel
theorem dX11_played_46 : decode cX11_played 46 = .ok (.ireturn, 1) := by decide +kernel
theorem dX11_guess_0 : decode cX11_guess 0 = .ok (.aload_n 0, 1) := by decide +kernel
theorem dX11_guess_1 : decode cX11_guess 1 = .ok (.iconst 0, 1) := by decide +kernel
theorem dX11_guess_2 : decode cX11_guess 2 = .ok (.putfield 89, 3) := by decide +kernel
theorem dX11_guess_5 : decode cX11_guess 5 = .ok (.bipush (-100), 2) := by decide +kernel
theorem dX11_guess_7 : decode cX11_guess 7 = .ok (.istore_n 1, 1) := by decide +kernel
theorem dX11_guess_8 : decode cX11_guess 8 = .ok (.iconst (-1), 1) := by decide +kernel
theorem dX11_guess_9 : decode cX11_guess 9 = .ok (.istore_n 2, 1) := by decide +kernel
theorem dX11_guess_10 : decode cX11_guess 10 = .ok (.bipush (-6), 2) := by decide +kernel
theorem dX11_guess_12 : decode cX11_guess 12 = .ok (.istore_n 3, 1) := by decide +kernel
theorem dX11_guess_13 : decode cX11_guess 13 = .ok (.iload_n 3, 1) := by decide +kernel
theorem dX11_guess_14 : decode cX11_guess 14 = .ok (.bipush 6, 2) := by decide +kernel
theorem dX11_guess_16 : decode cX11_guess 16 = .ok (.if_icmp .gt 104, 3) := by decide +kernel
theorem dX11_guess_19 : decode cX11_guess 19 = .ok (.iconst 0, 1) := by decide +kernel
theorem dX11_guess_20 : decode cX11_guess 20 = .ok (.istore 4, 2) := by decide +kernel
theorem dX11_guess_22 : decode cX11_guess 22 = .ok (.iload_n 3, 1) := by decide +kernel
theorem dX11_guess_23 : decode cX11_guess 23 = .ok (.iconst 1, 1) := by decide +kernel
theorem dX11_guess_24 : decode cX11_guess 24 = .ok (.isub, 1) := by decide +kernel
theorem dX11_guess_25 : decode cX11_guess 25 = .ok (.istore 5, 2) := by decide +kernel
theorem dX11_guess_27 : decode cX11_guess 27 = .ok (.iload 5, 2) := by decide +kernel
theorem dX11_guess_29 : decode cX11_guess 29 = .ok (.iload_n 3, 1) := by decide +kernel
theorem dX11_guess_30 : decode cX11_guess 30 = .ok (.iconst 5, 1) := by decide +kernel
theorem dX11_guess_31 : decode cX11_guess 31 = .ok (.iadd, 1) := by decide +kernel
theorem dX11_guess_32 : decode cX11_guess 32 = .ok (.if_icmp .gt 21, 3) := by decide +kernel
theorem dX11_guess_35 : decode cX11_guess 35 = .ok (.iload 4, 2) := by decide +kernel
theorem dX11_guess_37 : decode cX11_guess 37 = .ok (.iconst 1, 1) := by decide +kernel
theorem dX11_guess_38 : decode cX11_guess 38 = .ok (.iload 5, 2) := by decide +kernel
theorem dX11_guess_40 : decode cX11_guess 40 = .ok (.invokestatic 127, 3) := by decide +kernel
theorem dX11_guess_43 : decode cX11_guess 43 = .ok (.ishl, 1) := by decide +kernel
theorem dX11_guess_44 : decode cX11_guess 44 = .ok (.ior, 1) := by decide +kernel
theorem dX11_guess_45 : decode cX11_guess 45 = .ok (.istore 4, 2) := by decide +kernel
theorem dX11_guess_47 : decode cX11_guess 47 = .ok (.iinc 5 1, 3) := by decide +kernel
theorem dX11_guess_50 : decode cX11_guess 50 = .ok (.goto (-23), 3) := by decide +kernel
theorem dX11_guess_53 : decode cX11_guess 53 = .ok (.iconst 0, 1) := by decide +kernel
theorem dX11_guess_54 : decode cX11_guess 54 = .ok (.istore 5, 2) := by decide +kernel
theorem dX11_guess_56 : decode cX11_guess 56 = .ok (.iconst 0, 1) := by decide +kernel
theorem dX11_guess_57 : decode cX11_guess 57 = .ok (.istore 6, 2) := by decide +kernel
theorem dX11_guess_59 : decode cX11_guess 59 = .ok (.iload 6, 2) := by decide +kernel
theorem dX11_guess_61 : decode cX11_guess 61 = .ok (.aload_n 0, 1) := by decide +kernel
theorem dX11_guess_62 : decode cX11_guess 62 = .ok (.getfield 197, 3) := by decide +kernel
theorem dX11_guess_65 : decode cX11_guess 65 = .ok (.if_icmp .ge 26, 3) := by decide +kernel
theorem dX11_guess_68 : decode cX11_guess 68 = .ok (.aload_n 0, 1) := by decide +kernel
theorem dX11_guess_69 : decode cX11_guess 69 = .ok (.iload 6, 2) := by decide +kernel
theorem dX11_guess_71 : decode cX11_guess 71 = .ok (.invokevirtual 223, 3) := by decide +kernel
theorem dX11_guess_74 : decode cX11_guess 74 = .ok (.iload 4, 2) := by decide +kernel
theorem dX11_guess_76 : decode cX11_guess 76 = .ok (.iconst (-1), 1) := by decide +kernel
theorem dX11_guess_77 : decode cX11_guess 77 = .ok (.ixor, 1) := by decide +kernel
theorem dX11_guess_78 : decode cX11_guess 78 = .ok (.iand, 1) := by decide +kernel
theorem dX11_guess_79 : decode cX11_guess 79 = .ok (.ifCond .ne 6, 3) := by decide +kernel
theorem dX11_guess_82 : decode cX11_guess 82 = .ok (.iinc 5 1, 3) := by decide +kernel
theorem dX11_guess_85 : decode cX11_guess 85 = .ok (.iinc 6 1, 3) := by decide +kernel
theorem dX11_guess_88 : decode cX11_guess 88 = .ok (.goto (-29), 3) := by decide +kernel
theorem dX11_guess_91 : decode cX11_guess 91 = .ok (.iload 5, 2) := by decide +kernel
theorem dX11_guess_93 : decode cX11_guess 93 = .ok (.iload_n 2, 1) := by decide +kernel
theorem dX11_guess_94 : decode cX11_guess 94 = .ok (.if_icmp .le 11, 3) := by decide +kernel
theorem dX11_guess_97 : decode cX11_guess 97 = .ok (.iload_n 3, 1) := by decide +kernel
theorem dX11_guess_98 : decode cX11_guess 98 = .ok (.istore_n 1, 1) := by decide +kernel
theorem dX11_guess_99 : decode cX11_guess 99 = .ok (.iload 5, 2) := by decide +kernel
theorem dX11_guess_101 : decode cX11_guess 101 = .ok (.istore_n 2, 1) := by decide +kernel
theorem dX11_guess_102 : decode cX11_guess 102 = .ok (.goto 12, 3) := by decide +kernel
theorem dX11_guess_105 : decode cX11_guess 105 = .ok (.iload 5, 2) := by decide +kernel
theorem dX11_guess_107 : decode cX11_guess 107 = .ok (.iload_n 2, 1) := by decide +kernel
theorem dX11_guess_108 : decode cX11_guess 108 = .ok (.if_icmp .ne 6, 3) := by decide +kernel
theorem dX11_guess_111 : decode cX11_guess 111 = .ok (.bipush (-100), 2) := by decide +kernel
theorem dX11_guess_113 : decode cX11_guess 113 = .ok (.istore_n 1, 1) := by decide +kernel
theorem dX11_guess_114 : decode cX11_guess 114 = .ok (.iinc 3 1, 3) := by decide +kernel
theorem dX11_guess_117 : decode cX11_guess 117 = .ok (.goto (-104), 3) := by decide +kernel
theorem dX11_guess_120 : decode cX11_guess 120 = .ok (.iload_n 1, 1) := by decide +kernel
theorem dX11_guess_121 : decode cX11_guess 121 = .ok (.ireturn, 1) := by decide +kernel
theorem dX11_count_0 : decode cX11_count 0 = .ok (.aload_n 0, 1) := by decide +kernel
theorem dX11_count_1 : decode cX11_count 1 = .ok (.iconst 0, 1) := by decide +kernel
theorem dX11_count_2 : decode cX11_count 2 = .ok (.putfield 89, 3) := by decide +kernel
theorem dX11_count_5 : decode cX11_count 5 = .ok (.aload_n 0, 1) := by decide +kernel
theorem dX11_count_6 : decode cX11_count 6 = .ok (.iload_n 1, 1) := by decide +kernel
theorem dX11_count_7 : decode cX11_count 7 = .ok (.ifCond .lt 12, 3) := by decide +kernel
theorem dX11_count_10 : decode cX11_count 10 = .ok (.iload_n 1, 1) := by decide +kernel
theorem dX11_count_11 : decode cX11_count 11 = .ok (.iconst 5, 1) := by decide +kernel
theorem dX11_count_12 : decode cX11_count 12 = .ok (.if_icmp .gt 7, 3) := by decide +kernel
theorem dX11_count_15 : decode cX11_count 15 = .ok (.iconst 1, 1) := by decide +kernel
theorem dX11_count_16 : decode cX11_count 16 = .ok (.goto 4, 3) := by decide +kernel
theorem dX11_count_19 : decode cX11_count 19 = .ok (.iconst 0, 1) := by decide +kernel
theorem dX11_count_20 : decode cX11_count 20 = .ok (.iconst 1, 1) := by decide +kernel
theorem dX11_count_21 : decode cX11_count 21 = .ok (.invokevirtual 190, 3) := by decide +kernel
theorem dX11_count_24 : decode cX11_count 24 = .ok (.ifCond .ne 5, 3) := by decide +kernel
theorem dX11_count_27 : decode cX11_count 27 = .ok (.iconst 0, 1) := by decide +kernel
theorem dX11_count_28 : decode cX11_count 28 = .ok (.ireturn, 1) := by decide +kernel
theorem dX11_count_29 : decode cX11_count 29 = .ok (.iload_n 1, 1) := by decide +kernel
theorem dX11_count_30 : decode cX11_count 30 = .ok (.tableswitch 59 0 4 #[34, 39, 44, 49, 54], 34) := by decide +kernel
theorem dX11_count_64 : decode cX11_count 64 = .ok (.aload_n 0, 1) := by decide +kernel
theorem dX11_count_65 : decode cX11_count 65 = .ok (.getfield 197, 3) := by decide +kernel
theorem dX11_count_68 : decode cX11_count 68 = .ok (.ireturn, 1) := by decide +kernel
theorem dX11_count_69 : decode cX11_count 69 = .ok (.aload_n 0, 1) := by decide +kernel
theorem dX11_count_70 : decode cX11_count 70 = .ok (.getfield 200, 3) := by decide +kernel
theorem dX11_count_73 : decode cX11_count 73 = .ok (.ireturn, 1) := by decide +kernel
theorem dX11_count_74 : decode cX11_count 74 = .ok (.aload_n 0, 1) := by decide +kernel
theorem dX11_count_75 : decode cX11_count 75 = .ok (.getfield 213, 3) := by decide +kernel
theorem dX11_count_78 : decode cX11_count 78 = .ok (.ireturn, 1) := by decide +kernel
theorem dX11_count_79 : decode cX11_count 79 = .ok (.aload_n 0, 1) := by decide +kernel
theorem dX11_count_80 : decode cX11_count 80 = .ok (.getfield 264, 3) := by decide +kernel
theorem dX11_count_83 : decode cX11_count 83 = .ok (.ireturn, 1) := by decide +kernel
theorem dX11_count_84 : decode cX11_count 84 = .ok (.aload_n 0, 1) := by decide +kernel
theorem dX11_count_85 : decode cX11_count 85 = .ok (.invokevirtual 261, 3) := by decide +kernel
theorem dX11_count_88 : decode cX11_count 88 = .ok (.ireturn, 1) := by decide +kernel
theorem dX11_count_89 : decode cX11_count 89 = .ok (.aload_n 0, 1) := by decide +kernel
theorem dX11_count_90 : decode cX11_count 90 = .ok (.getfield 92, 3) := by decide +kernel
theorem dX11_count_93 : decode cX11_count 93 = .ok (.ireturn, 1) := by decide +kernel
theorem dJ11_isValidCodePoint_9a6ad_0 : decode cJ11_isValidCodePoint_9a6ad 0 = .ok (.iload_n 0, 1) := by decide +kernel
theorem dJ11_isValidCodePoint_9a6ad_1 : decode cJ11_isValidCodePoint_9a6ad 1 = .ok (.bipush 16, 2) := by decide +kernel
theorem dJ11_isValidCodePoint_9a6ad_3 : decode cJ11_isValidCodePoint_9a6ad 3 = .ok (.iushr, 1) := by decide +kernel
theorem dJ11_isValidCodePoint_9a6ad_4 : decode cJ11_isValidCodePoint_9a6ad 4 = .ok (.istore_n 1, 1) := by decide +kernel
theorem dJ11_isValidCodePoint_9a6ad_5 : decode cJ11_isValidCodePoint_9a6ad 5 = .ok (.iload_n 1, 1) := by decide +kernel
theorem dJ11_isValidCodePoint_9a6ad_6 : decode cJ11_isValidCodePoint_9a6ad 6 = .ok (.bipush 17, 2) := by decide +kernel
theorem dJ11_isValidCodePoint_9a6ad_8 : decode cJ11_isValidCodePoint_9a6ad 8 = .ok (.if_icmp .ge 7, 3) := by decide +kernel
theorem dJ11_isValidCodePoint_9a6ad_11 : decode cJ11_isValidCodePoint_9a6ad 11 = .ok (.iconst 1, 1) := by decide +kernel
theorem dJ11_isValidCodePoint_9a6ad_12 : decode cJ11_isValidCodePoint_9a6ad 12 = .ok (.goto 4, 3) := by decide +kernel
theorem dJ11_isValidCodePoint_9a6ad_15 : decode cJ11_isValidCodePoint_9a6ad 15 = .ok (.iconst 0, 1) := by decide +kernel
theorem dJ11_isValidCodePoint_9a6ad_16 : decode cJ11_isValidCodePoint_9a6ad 16 = .ok (.ireturn, 1) := by decide +kernel
theorem dJ11_highSurrogate_5068e_0 : decode cJ11_highSurrogate_5068e 0 = .ok (.iload_n 0, 1) := by decide +kernel
theorem dJ11_highSurrogate_5068e_1 : decode cJ11_highSurrogate_5068e 1 = .ok (.bipush 10, 2) := by decide +kernel
theorem dJ11_highSurrogate_5068e_3 : decode cJ11_highSurrogate_5068e 3 = .ok (.iushr, 1) := by decide +kernel
theorem dJ11_highSurrogate_5068e_4 : decode cJ11_highSurrogate_5068e 4 = .ok (.ldc 110, 2) := by decide +kernel
theorem dJ11_highSurrogate_5068e_6 : decode cJ11_highSurrogate_5068e 6 = .ok (.iadd, 1) := by decide +kernel
theorem dJ11_highSurrogate_5068e_7 : decode cJ11_highSurrogate_5068e 7 = .ok (.i2c, 1) := by decide +kernel
theorem dJ11_highSurrogate_5068e_8 : decode cJ11_highSurrogate_5068e 8 = .ok (.ireturn, 1) := by decide +kernel
theorem dJ11_lowSurrogate_5068e_0 : decode cJ11_lowSurrogate_5068e 0 = .ok (.iload_n 0, 1) := by decide +kernel
theorem dJ11_lowSurrogate_5068e_1 : decode cJ11_lowSurrogate_5068e 1 = .ok (.sipush 1023, 3) := by decide +kernel
theorem dJ11_lowSurrogate_5068e_4 : decode cJ11_lowSurrogate_5068e 4 = .ok (.iand, 1) := by decide +kernel
theorem dJ11_lowSurrogate_5068e_5 : decode cJ11_lowSurrogate_5068e 5 = .ok (.ldc 76, 2) := by decide +kernel
theorem dJ11_lowSurrogate_5068e_7 : decode cJ11_lowSurrogate_5068e 7 = .ok (.iadd, 1) := by decide +kernel
theorem dJ11_lowSurrogate_5068e_8 : decode cJ11_lowSurrogate_5068e 8 = .ok (.i2c, 1) := by decide +kernel
theorem dJ11_lowSurrogate_5068e_9 : decode cJ11_lowSurrogate_5068e 9 = .ok (.ireturn, 1) := by decide +kernel
theorem dJ6_bitCount_0f7a4_0 : decode cJ6_bitCount_0f7a4 0 = .ok (.iload_n 0, 1) := by decide +kernel
theorem dJ6_bitCount_0f7a4_1 : decode cJ6_bitCount_0f7a4 1 = .ok (.iload_n 0, 1) := by decide +kernel
theorem dJ6_bitCount_0f7a4_2 : decode cJ6_bitCount_0f7a4 2 = .ok (.iconst 1, 1) := by decide +kernel
theorem dJ6_bitCount_0f7a4_3 : decode cJ6_bitCount_0f7a4 3 = .ok (.iushr, 1) := by decide +kernel
theorem dJ6_bitCount_0f7a4_4 : decode cJ6_bitCount_0f7a4 4 = .ok (.ldc_w 265, 3) := by decide +kernel
theorem dJ6_bitCount_0f7a4_7 : decode cJ6_bitCount_0f7a4 7 = .ok (.iand, 1) := by decide +kernel
theorem dJ6_bitCount_0f7a4_8 : decode cJ6_bitCount_0f7a4 8 = .ok (.isub, 1) := by decide +kernel
theorem dJ6_bitCount_0f7a4_9 : decode cJ6_bitCount_0f7a4 9 = .ok (.istore_n 0, 1) := by decide +kernel
theorem dJ6_bitCount_0f7a4_10 : decode cJ6_bitCount_0f7a4 10 = .ok (.iload_n 0, 1) := by decide +kernel
theorem dJ6_bitCount_0f7a4_11 : decode cJ6_bitCount_0f7a4 11 = .ok (.ldc_w 266, 3) := by decide +kernel
theorem dJ6_bitCount_0f7a4_14 : decode cJ6_bitCount_0f7a4 14 = .ok (.iand, 1) := by decide +kernel
theorem dJ6_bitCount_0f7a4_15 : decode cJ6_bitCount_0f7a4 15 = .ok (.iload_n 0, 1) := by decide +kernel
theorem dJ6_bitCount_0f7a4_16 : decode cJ6_bitCount_0f7a4 16 = .ok (.iconst 2, 1) := by decide +kernel
theorem dJ6_bitCount_0f7a4_17 : decode cJ6_bitCount_0f7a4 17 = .ok (.iushr, 1) := by decide +kernel
theorem dJ6_bitCount_0f7a4_18 : decode cJ6_bitCount_0f7a4 18 = .ok (.ldc_w 266, 3) := by decide +kernel
theorem dJ6_bitCount_0f7a4_21 : decode cJ6_bitCount_0f7a4 21 = .ok (.iand, 1) := by decide +kernel
theorem dJ6_bitCount_0f7a4_22 : decode cJ6_bitCount_0f7a4 22 = .ok (.iadd, 1) := by decide +kernel
theorem dJ6_bitCount_0f7a4_23 : decode cJ6_bitCount_0f7a4 23 = .ok (.istore_n 0, 1) := by decide +kernel
theorem dJ6_bitCount_0f7a4_24 : decode cJ6_bitCount_0f7a4 24 = .ok (.iload_n 0, 1) := by decide +kernel
theorem dJ6_bitCount_0f7a4_25 : decode cJ6_bitCount_0f7a4 25 = .ok (.iload_n 0, 1) := by decide +kernel
theorem dJ6_bitCount_0f7a4_26 : decode cJ6_bitCount_0f7a4 26 = .ok (.iconst 4, 1) := by decide +kernel
theorem dJ6_bitCount_0f7a4_27 : decode cJ6_bitCount_0f7a4 27 = .ok (.iushr, 1) := by decide +kernel
theorem dJ6_bitCount_0f7a4_28 : decode cJ6_bitCount_0f7a4 28 = .ok (.iadd, 1) := by decide +kernel
theorem dJ6_bitCount_0f7a4_29 : decode cJ6_bitCount_0f7a4 29 = .ok (.ldc_w 267, 3) := by decide +kernel
theorem dJ6_bitCount_0f7a4_32 : decode cJ6_bitCount_0f7a4 32 = .ok (.iand, 1) := by decide +kernel
theorem dJ6_bitCount_0f7a4_33 : decode cJ6_bitCount_0f7a4 33 = .ok (.istore_n 0, 1) := by decide +kernel
theorem dJ6_bitCount_0f7a4_34 : decode cJ6_bitCount_0f7a4 34 = .ok (.iload_n 0, 1) := by decide +kernel
theorem dJ6_bitCount_0f7a4_35 : decode cJ6_bitCount_0f7a4 35 = .ok (.iload_n 0, 1) := by decide +kernel
theorem dJ6_bitCount_0f7a4_36 : decode cJ6_bitCount_0f7a4 36 = .ok (.bipush 8, 2) := by decide +kernel
theorem dJ6_bitCount_0f7a4_38 : decode cJ6_bitCount_0f7a4 38 = .ok (.iushr, 1) := by decide +kernel
theorem dJ6_bitCount_0f7a4_39 : decode cJ6_bitCount_0f7a4 39 = .ok (.iadd, 1) := by decide +kernel
theorem dJ6_bitCount_0f7a4_40 : decode cJ6_bitCount_0f7a4 40 = .ok (.istore_n 0, 1) := by decide +kernel
theorem dJ6_bitCount_0f7a4_41 : decode cJ6_bitCount_0f7a4 41 = .ok (.iload_n 0, 1) := by decide +kernel
theorem dJ6_bitCount_0f7a4_42 : decode cJ6_bitCount_0f7a4 42 = .ok (.iload_n 0, 1) := by decide +kernel
theorem dJ6_bitCount_0f7a4_43 : decode cJ6_bitCount_0f7a4 43 = .ok (.bipush 16, 2) := by decide +kernel
theorem dJ6_bitCount_0f7a4_45 : decode cJ6_bitCount_0f7a4 45 = .ok (.iushr, 1) := by decide +kernel
theorem dJ6_bitCount_0f7a4_46 : decode cJ6_bitCount_0f7a4 46 = .ok (.iadd, 1) := by decide +kernel
theorem dJ6_bitCount_0f7a4_47 : decode cJ6_bitCount_0f7a4 47 = .ok (.istore_n 0, 1) := by decide +kernel
theorem dJ6_bitCount_0f7a4_48 : decode cJ6_bitCount_0f7a4 48 = .ok (.iload_n 0, 1) := by decide +kernel
theorem dJ6_bitCount_0f7a4_49 : decode cJ6_bitCount_0f7a4 49 = .ok (.bipush 63, 2) := by decide +kernel
theorem dJ6_bitCount_0f7a4_51 : decode cJ6_bitCount_0f7a4 51 = .ok (.iand, 1) := by decide +kernel
theorem dJ6_bitCount_0f7a4_52 : decode cJ6_bitCount_0f7a4 52 = .ok (.ireturn, 1) := by decide +kernel
theorem dJ9_floorDiv_7cf53_0 : decode cJ9_floorDiv_7cf53 0 = .ok (.iload_n 0, 1) := by decide +kernel
theorem dJ9_floorDiv_7cf53_1 : decode cJ9_floorDiv_7cf53 1 = .ok (.iload_n 1, 1) := by decide +kernel
theorem dJ9_floorDiv_7cf53_2 : decode cJ9_floorDiv_7cf53 2 = .ok (.idiv, 1) := by decide +kernel
theorem dJ9_floorDiv_7cf53_3 : decode cJ9_floorDiv_7cf53 3 = .ok (.istore_n 2, 1) := by decide +kernel
theorem dJ9_floorDiv_7cf53_4 : decode cJ9_floorDiv_7cf53 4 = .ok (.iload_n 0, 1) := by decide +kernel
theorem dJ9_floorDiv_7cf53_5 : decode cJ9_floorDiv_7cf53 5 = .ok (.iload_n 1, 1) := by decide +kernel
theorem dJ9_floorDiv_7cf53_6 : decode cJ9_floorDiv_7cf53 6 = .ok (.ixor, 1) := by decide +kernel
theorem dJ9_floorDiv_7cf53_7 : decode cJ9_floorDiv_7cf53 7 = .ok (.ifCond .ge 14, 3) := by decide +kernel
theorem dJ9_floorDiv_7cf53_10 : decode cJ9_floorDiv_7cf53 10 = .ok (.iload_n 2, 1) := by decide +kernel
theorem dJ9_floorDiv_7cf53_11 : decode cJ9_floorDiv_7cf53 11 = .ok (.iload_n 1, 1) := by decide +kernel
theorem dJ9_floorDiv_7cf53_12 : decode cJ9_floorDiv_7cf53 12 = .ok (.imul, 1) := by decide +kernel
theorem dJ9_floorDiv_7cf53_13 : decode cJ9_floorDiv_7cf53 13 = .ok (.iload_n 0, 1) := by decide +kernel
theorem dJ9_floorDiv_7cf53_14 : decode cJ9_floorDiv_7cf53 14 = .ok (.if_icmp .eq 7, 3) := by decide +kernel
theorem dJ9_floorDiv_7cf53_17 : decode cJ9_floorDiv_7cf53 17 = .ok (.iload_n 2, 1) := by decide +kernel
theorem dJ9_floorDiv_7cf53_18 : decode cJ9_floorDiv_7cf53 18 = .ok (.iconst 1, 1) := by decide +kernel
theorem dJ9_floorDiv_7cf53_19 : decode cJ9_floorDiv_7cf53 19 = .ok (.isub, 1) := by decide +kernel
theorem dJ9_floorDiv_7cf53_20 : decode cJ9_floorDiv_7cf53 20 = .ok (.ireturn, 1) := by decide +kernel
theorem dJ9_floorDiv_7cf53_21 : decode cJ9_floorDiv_7cf53 21 = .ok (.iload_n 2, 1) := by decide +kernel
theorem dJ9_floorDiv_7cf53_22 : decode cJ9_floorDiv_7cf53 22 = .ok (.ireturn, 1) := by decide +kernel
theorem dJ9_floorMod_7cf53_0 : decode cJ9_floorMod_7cf53 0 = .ok (.iload_n 0, 1) := by decide +kernel
theorem dJ9_floorMod_7cf53_1 : decode cJ9_floorMod_7cf53 1 = .ok (.iload_n 1, 1) := by decide +kernel
theorem dJ9_floorMod_7cf53_2 : decode cJ9_floorMod_7cf53 2 = .ok (.irem, 1) := by decide +kernel
theorem dJ9_floorMod_7cf53_3 : decode cJ9_floorMod_7cf53 3 = .ok (.istore_n 2, 1) := by decide +kernel
theorem dJ9_floorMod_7cf53_4 : decode cJ9_floorMod_7cf53 4 = .ok (.iload_n 0, 1) := by decide +kernel
theorem dJ9_floorMod_7cf53_5 : decode cJ9_floorMod_7cf53 5 = .ok (.iload_n 1, 1) := by decide +kernel
theorem dJ9_floorMod_7cf53_6 : decode cJ9_floorMod_7cf53 6 = .ok (.ixor, 1) := by decide +kernel
theorem dJ9_floorMod_7cf53_7 : decode cJ9_floorMod_7cf53 7 = .ok (.ifCond .ge 11, 3) := by decide +kernel
theorem dJ9_floorMod_7cf53_10 : decode cJ9_floorMod_7cf53 10 = .ok (.iload_n 2, 1) := by decide +kernel
theorem dJ9_floorMod_7cf53_11 : decode cJ9_floorMod_7cf53 11 = .ok (.ifCond .eq 7, 3) := by decide +kernel
theorem dJ9_floorMod_7cf53_14 : decode cJ9_floorMod_7cf53 14 = .ok (.iload_n 2, 1) := by decide +kernel
theorem dJ9_floorMod_7cf53_15 : decode cJ9_floorMod_7cf53 15 = .ok (.iload_n 1, 1) := by decide +kernel
theorem dJ9_floorMod_7cf53_16 : decode cJ9_floorMod_7cf53 16 = .ok (.iadd, 1) := by decide +kernel
theorem dJ9_floorMod_7cf53_17 : decode cJ9_floorMod_7cf53 17 = .ok (.ireturn, 1) := by decide +kernel
theorem dJ9_floorMod_7cf53_18 : decode cJ9_floorMod_7cf53 18 = .ok (.iload_n 2, 1) := by decide +kernel
theorem dJ9_floorMod_7cf53_19 : decode cJ9_floorMod_7cf53 19 = .ok (.ireturn, 1) := by decide +kernel
theorem dJ9_abs_0f7a4_0 : decode cJ9_abs_0f7a4 0 = .ok (.iload_n 0, 1) := by decide +kernel
theorem dJ9_abs_0f7a4_1 : decode cJ9_abs_0f7a4 1 = .ok (.ifCond .ge 8, 3) := by decide +kernel
theorem dJ9_abs_0f7a4_4 : decode cJ9_abs_0f7a4 4 = .ok (.iload_n 0, 1) := by decide +kernel
theorem dJ9_abs_0f7a4_5 : decode cJ9_abs_0f7a4 5 = .ok (.ineg, 1) := by decide +kernel
theorem dJ9_abs_0f7a4_6 : decode cJ9_abs_0f7a4 6 = .ok (.goto 4, 3) := by decide +kernel
theorem dJ9_abs_0f7a4_9 : decode cJ9_abs_0f7a4 9 = .ok (.iload_n 0, 1) := by decide +kernel
theorem dJ9_abs_0f7a4_10 : decode cJ9_abs_0f7a4 10 = .ok (.ireturn, 1) := by decide +kernel
theorem dJ9_max_7cf53_0 : decode cJ9_max_7cf53 0 = .ok (.iload_n 0, 1) := by decide +kernel
theorem dJ9_max_7cf53_1 : decode cJ9_max_7cf53 1 = .ok (.iload_n 1, 1) := by decide +kernel
theorem dJ9_max_7cf53_2 : decode cJ9_max_7cf53 2 = .ok (.if_icmp .lt 7, 3) := by decide +kernel
theorem dJ9_max_7cf53_5 : decode cJ9_max_7cf53 5 = .ok (.iload_n 0, 1) := by decide +kernel
theorem dJ9_max_7cf53_6 : decode cJ9_max_7cf53 6 = .ok (.goto 4, 3) := by decide +kernel
theorem dJ9_max_7cf53_9 : decode cJ9_max_7cf53 9 = .ok (.iload_n 1, 1) := by decide +kernel
theorem dJ9_max_7cf53_10 : decode cJ9_max_7cf53 10 = .ok (.ireturn, 1) := by decide +kernel
theorem dJ9_min_7cf53_0 : decode cJ9_min_7cf53 0 = .ok (.iload_n 0, 1) := by decide +kernel
theorem dJ9_min_7cf53_1 : decode cJ9_min_7cf53 1 = .ok (.iload_n 1, 1) := by decide +kernel
theorem dJ9_min_7cf53_2 : decode cJ9_min_7cf53 2 = .ok (.if_icmp .gt 7, 3) := by decide +kernel
theorem dJ9_min_7cf53_5 : decode cJ9_min_7cf53 5 = .ok (.iload_n 0, 1) := by decide +kernel
theorem dJ9_min_7cf53_6 : decode cJ9_min_7cf53 6 = .ok (.goto 4, 3) := by decide +kernel
theorem dJ9_min_7cf53_9 : decode cJ9_min_7cf53 9 = .ok (.iload_n 1, 1) := by decide +kernel
theorem dJ9_min_7cf53_10 : decode cJ9_min_7cf53 10 = .ok (.ireturn, 1) := by decide +kernel
theorem dJ0_length_8abf5_0 : decode cJ0_length_8abf5 0 = .ok (.aload_n 0, 1) := by decide +kernel
theorem dJ0_length_8abf5_1 : decode cJ0_length_8abf5 1 = .ok (.getfield 9, 3) := by decide +kernel
theorem dJ0_length_8abf5_4 : decode cJ0_length_8abf5 4 = .ok (.arraylength, 1) := by decide +kernel
theorem dJ0_length_8abf5_5 : decode cJ0_length_8abf5 5 = .ok (.aload_n 0, 1) := by decide +kernel
theorem dJ0_length_8abf5_6 : decode cJ0_length_8abf5 6 = .ok (.invokevirtual 335, 3) := by decide +kernel
theorem dJ0_length_8abf5_9 : decode cJ0_length_8abf5 9 = .ok (.ishr, 1) := by decide +kernel
theorem dJ0_length_8abf5_10 : decode cJ0_length_8abf5 10 = .ok (.ireturn, 1) := by decide +kernel
theorem dJ0_charAt_5068e_0 : decode cJ0_charAt_5068e 0 = .ok (.aload_n 0, 1) := by decide +kernel
theorem dJ0_charAt_5068e_1 : decode cJ0_charAt_5068e 1 = .ok (.invokevirtual 492, 3) := by decide +kernel
theorem dJ0_charAt_5068e_4 : decode cJ0_charAt_5068e 4 = .ok (.ifCond .eq 12, 3) := by decide +kernel
theorem dJ0_charAt_5068e_7 : decode cJ0_charAt_5068e 7 = .ok (.aload_n 0, 1) := by decide +kernel
theorem dJ0_charAt_5068e_8 : decode cJ0_charAt_5068e 8 = .ok (.getfield 9, 3) := by decide +kernel
theorem dJ0_charAt_5068e_11 : decode cJ0_charAt_5068e 11 = .ok (.iload_n 1, 1) := by decide +kernel
theorem dJ0_charAt_5068e_12 : decode cJ0_charAt_5068e 12 = .ok (.invokestatic 495, 3) := by decide +kernel
theorem dJ0_charAt_5068e_15 : decode cJ0_charAt_5068e 15 = .ok (.ireturn, 1) := by decide +kernel
theorem dJ0_charAt_5068e_16 : decode cJ0_charAt_5068e 16 = .ok (.aload_n 0, 1) := by decide +kernel
theorem dJ0_charAt_5068e_17 : decode cJ0_charAt_5068e 17 = .ok (.getfield 9, 3) := by decide +kernel
theorem dJ0_charAt_5068e_20 : decode cJ0_charAt_5068e 20 = .ok (.iload_n 1, 1) := by decide +kernel
theorem dJ0_charAt_5068e_21 : decode cJ0_charAt_5068e 21 = .ok (.invokestatic 498, 3) := by decide +kernel
theorem dJ0_charAt_5068e_24 : decode cJ0_charAt_5068e 24 = .ok (.ireturn, 1) := by decide +kernel
theorem dJ0_indexOf_0f7a4_0 : decode cJ0_indexOf_0f7a4 0 = .ok (.aload_n 0, 1) := by decide +kernel
theorem dJ0_indexOf_0f7a4_1 : decode cJ0_indexOf_0f7a4 1 = .ok (.iload_n 1, 1) := by decide +kernel
theorem dJ0_indexOf_0f7a4_2 : decode cJ0_indexOf_0f7a4 2 = .ok (.iconst 0, 1) := by decide +kernel
theorem dJ0_indexOf_0f7a4_3 : decode cJ0_indexOf_0f7a4 3 = .ok (.invokevirtual 633, 3) := by decide +kernel
theorem dJ0_indexOf_0f7a4_6 : decode cJ0_indexOf_0f7a4 6 = .ok (.ireturn, 1) := by decide +kernel
theorem dJ0_indexOf_7cf53_0 : decode cJ0_indexOf_7cf53 0 = .ok (.aload_n 0, 1) := by decide +kernel
theorem dJ0_indexOf_7cf53_1 : decode cJ0_indexOf_7cf53 1 = .ok (.invokevirtual 492, 3) := by decide +kernel
theorem dJ0_indexOf_7cf53_4 : decode cJ0_indexOf_7cf53 4 = .ok (.ifCond .eq 19, 3) := by decide +kernel
theorem dJ0_indexOf_7cf53_7 : decode cJ0_indexOf_7cf53 7 = .ok (.aload_n 0, 1) := by decide +kernel
theorem dJ0_indexOf_7cf53_8 : decode cJ0_indexOf_7cf53 8 = .ok (.getfield 9, 3) := by decide +kernel
theorem dJ0_indexOf_7cf53_11 : decode cJ0_indexOf_7cf53 11 = .ok (.iload_n 1, 1) := by decide +kernel
theorem dJ0_indexOf_7cf53_12 : decode cJ0_indexOf_7cf53 12 = .ok (.iload_n 2, 1) := by decide +kernel
theorem dJ0_indexOf_7cf53_13 : decode cJ0_indexOf_7cf53 13 = .ok (.aload_n 0, 1) := by decide +kernel
theorem dJ0_indexOf_7cf53_14 : decode cJ0_indexOf_7cf53 14 = .ok (.invokevirtual 505, 3) := by decide +kernel
theorem dJ0_indexOf_7cf53_17 : decode cJ0_indexOf_7cf53 17 = .ok (.invokestatic 637, 3) := by decide +kernel
theorem dJ0_indexOf_7cf53_20 : decode cJ0_indexOf_7cf53 20 = .ok (.goto 16, 3) := by decide +kernel
theorem dJ0_indexOf_7cf53_23 : decode cJ0_indexOf_7cf53 23 = .ok (.aload_n 0, 1) := by decide +kernel
theorem dJ0_indexOf_7cf53_24 : decode cJ0_indexOf_7cf53 24 = .ok (.getfield 9, 3) := by decide +kernel
theorem dJ0_indexOf_7cf53_27 : decode cJ0_indexOf_7cf53 27 = .ok (.iload_n 1, 1) := by decide +kernel
theorem dJ0_indexOf_7cf53_28 : decode cJ0_indexOf_7cf53 28 = .ok (.iload_n 2, 1) := by decide +kernel
theorem dJ0_indexOf_7cf53_29 : decode cJ0_indexOf_7cf53 29 = .ok (.aload_n 0, 1) := by decide +kernel
theorem dJ0_indexOf_7cf53_30 : decode cJ0_indexOf_7cf53 30 = .ok (.invokevirtual 505, 3) := by decide +kernel
theorem dJ0_indexOf_7cf53_33 : decode cJ0_indexOf_7cf53 33 = .ok (.invokestatic 640, 3) := by decide +kernel
theorem dJ0_indexOf_7cf53_36 : decode cJ0_indexOf_7cf53 36 = .ok (.ireturn, 1) := by decide +kernel
theorem dJ0_coder_7d493_0 : decode cJ0_coder_7d493 0 = .ok (.getstatic 38, 3) := by decide +kernel
theorem dJ0_coder_7d493_3 : decode cJ0_coder_7d493 3 = .ok (.ifCond .eq 10, 3) := by decide +kernel
theorem dJ0_coder_7d493_6 : decode cJ0_coder_7d493 6 = .ok (.aload_n 0, 1) := by decide +kernel
theorem dJ0_coder_7d493_7 : decode cJ0_coder_7d493 7 = .ok (.getfield 15, 3) := by decide +kernel
theorem dJ0_coder_7d493_10 : decode cJ0_coder_7d493 10 = .ok (.goto 4, 3) := by decide +kernel
theorem dJ0_coder_7d493_13 : decode cJ0_coder_7d493 13 = .ok (.iconst 1, 1) := by decide +kernel
theorem dJ0_coder_7d493_14 : decode cJ0_coder_7d493 14 = .ok (.ireturn, 1) := by decide +kernel
theorem dJ0_isLatin1_aae02_0 : decode cJ0_isLatin1_aae02 0 = .ok (.getstatic 38, 3) := by decide +kernel
theorem dJ0_isLatin1_aae02_3 : decode cJ0_isLatin1_aae02 3 = .ok (.ifCond .eq 14, 3) := by decide +kernel
theorem dJ0_isLatin1_aae02_6 : decode cJ0_isLatin1_aae02 6 = .ok (.aload_n 0, 1) := by decide +kernel
theorem dJ0_isLatin1_aae02_7 : decode cJ0_isLatin1_aae02 7 = .ok (.getfield 15, 3) := by decide +kernel
theorem dJ0_isLatin1_aae02_10 : decode cJ0_isLatin1_aae02 10 = .ok (.ifCond .ne 7, 3) := by decide +kernel
theorem dJ0_isLatin1_aae02_13 : decode cJ0_isLatin1_aae02 13 = .ok (.iconst 1, 1) := by decide +kernel
theorem dJ0_isLatin1_aae02_14 : decode cJ0_isLatin1_aae02 14 = .ok (.goto 4, 3) := by decide +kernel
theorem dJ0_isLatin1_aae02_17 : decode cJ0_isLatin1_aae02 17 = .ok (.iconst 0, 1) := by decide +kernel
theorem dJ0_isLatin1_aae02_18 : decode cJ0_isLatin1_aae02 18 = .ok (.ireturn, 1) := by decide +kernel
theorem dJ0_checkIndex_df160_0 : decode cJ0_checkIndex_df160 0 = .ok (.iload_n 0, 1) := by decide +kernel
theorem dJ0_checkIndex_df160_1 : decode cJ0_checkIndex_df160 1 = .ok (.iload_n 1, 1) := by decide +kernel
theorem dJ0_checkIndex_df160_2 : decode cJ0_checkIndex_df160 2 = .ok (.getstatic 1053, 3) := by decide +kernel
theorem dJ0_checkIndex_df160_5 : decode cJ0_checkIndex_df160 5 = .ok (.invokestatic 1059, 3) := by decide +kernel
theorem dJ0_checkIndex_df160_8 : decode cJ0_checkIndex_df160 8 = .ok (.pop, 1) := by decide +kernel
theorem dJ0_checkIndex_df160_9 : decode cJ0_checkIndex_df160 9 = .ok (.return_, 1) := by decide +kernel
theorem dJ0_checkBoundsBeginEnd_23922_0 : decode cJ0_checkBoundsBeginEnd_23922 0 = .ok (.iload_n 0, 1) := by decide +kernel
theorem dJ0_checkBoundsBeginEnd_23922_1 : decode cJ0_checkBoundsBeginEnd_23922 1 = .ok (.iload_n 1, 1) := by decide +kernel
theorem dJ0_checkBoundsBeginEnd_23922_2 : decode cJ0_checkBoundsBeginEnd_23922 2 = .ok (.iload_n 2, 1) := by decide +kernel
theorem dJ0_checkBoundsBeginEnd_23922_3 : decode cJ0_checkBoundsBeginEnd_23922 3 = .ok (.getstatic 1053, 3) := by decide +kernel
theorem dJ0_checkBoundsBeginEnd_23922_6 : decode cJ0_checkBoundsBeginEnd_23922 6 = .ok (.invokestatic 1062, 3) := by decide +kernel
theorem dJ0_checkBoundsBeginEnd_23922_9 : decode cJ0_checkBoundsBeginEnd_23922 9 = .ok (.pop, 1) := by decide +kernel
theorem dJ0_checkBoundsBeginEnd_23922_10 : decode cJ0_checkBoundsBeginEnd_23922 10 = .ok (.return_, 1) := by decide +kernel
theorem dJ1_charAt_3b067_0 : decode cJ1_charAt_3b067 0 = .ok (.iload_n 1, 1) := by decide +kernel
theorem dJ1_charAt_3b067_1 : decode cJ1_charAt_3b067 1 = .ok (.aload_n 0, 1) := by decide +kernel
theorem dJ1_charAt_3b067_2 : decode cJ1_charAt_3b067 2 = .ok (.arraylength, 1) := by decide +kernel
theorem dJ1_charAt_3b067_3 : decode cJ1_charAt_3b067 3 = .ok (.invokestatic 9, 3) := by decide +kernel
theorem dJ1_charAt_3b067_6 : decode cJ1_charAt_3b067 6 = .ok (.aload_n 0, 1) := by decide +kernel
theorem dJ1_charAt_3b067_7 : decode cJ1_charAt_3b067 7 = .ok (.iload_n 1, 1) := by decide +kernel
theorem dJ1_charAt_3b067_8 : decode cJ1_charAt_3b067 8 = .ok (.baload, 1) := by decide +kernel
theorem dJ1_charAt_3b067_9 : decode cJ1_charAt_3b067 9 = .ok (.sipush 255, 3) := by decide +kernel
theorem dJ1_charAt_3b067_12 : decode cJ1_charAt_3b067 12 = .ok (.iand, 1) := by decide +kernel
theorem dJ1_charAt_3b067_13 : decode cJ1_charAt_3b067 13 = .ok (.i2c, 1) := by decide +kernel
theorem dJ1_charAt_3b067_14 : decode cJ1_charAt_3b067 14 = .ok (.ireturn, 1) := by decide +kernel
theorem dJ1_canEncode_9a6ad_0 : decode cJ1_canEncode_9a6ad 0 = .ok (.iload_n 0, 1) := by decide +kernel
theorem dJ1_canEncode_9a6ad_1 : decode cJ1_canEncode_9a6ad 1 = .ok (.ifCond .lt 14, 3) := by decide +kernel
theorem dJ1_canEncode_9a6ad_4 : decode cJ1_canEncode_9a6ad 4 = .ok (.iload_n 0, 1) := by decide +kernel
theorem dJ1_canEncode_9a6ad_5 : decode cJ1_canEncode_9a6ad 5 = .ok (.sipush 255, 3) := by decide +kernel
theorem dJ1_canEncode_9a6ad_8 : decode cJ1_canEncode_9a6ad 8 = .ok (.if_icmp .gt 7, 3) := by decide +kernel
theorem dJ1_canEncode_9a6ad_11 : decode cJ1_canEncode_9a6ad 11 = .ok (.iconst 1, 1) := by decide +kernel
theorem dJ1_canEncode_9a6ad_12 : decode cJ1_canEncode_9a6ad 12 = .ok (.goto 4, 3) := by decide +kernel
theorem dJ1_canEncode_9a6ad_15 : decode cJ1_canEncode_9a6ad 15 = .ok (.iconst 0, 1) := by decide +kernel
theorem dJ1_canEncode_9a6ad_16 : decode cJ1_canEncode_9a6ad 16 = .ok (.ireturn, 1) := by decide +kernel
theorem dJ1_indexOf_4cfef_0 : decode cJ1_indexOf_4cfef 0 = .ok (.iload_n 1, 1) := by decide +kernel
theorem dJ1_indexOf_4cfef_1 : decode cJ1_indexOf_4cfef 1 = .ok (.invokestatic 88, 3) := by decide +kernel
theorem dJ1_indexOf_4cfef_4 : decode cJ1_indexOf_4cfef 4 = .ok (.ifCond .ne 5, 3) := by decide +kernel
theorem dJ1_indexOf_4cfef_7 : decode cJ1_indexOf_4cfef 7 = .ok (.iconst (-1), 1) := by decide +kernel
theorem dJ1_indexOf_4cfef_8 : decode cJ1_indexOf_4cfef 8 = .ok (.ireturn, 1) := by decide +kernel
theorem dJ1_indexOf_4cfef_9 : decode cJ1_indexOf_4cfef 9 = .ok (.iload_n 2, 1) := by decide +kernel
theorem dJ1_indexOf_4cfef_10 : decode cJ1_indexOf_4cfef 10 = .ok (.iconst 0, 1) := by decide +kernel
theorem dJ1_indexOf_4cfef_11 : decode cJ1_indexOf_4cfef 11 = .ok (.invokestatic 92, 3) := by decide +kernel
theorem dJ1_indexOf_4cfef_14 : decode cJ1_indexOf_4cfef 14 = .ok (.istore_n 2, 1) := by decide +kernel
theorem dJ1_indexOf_4cfef_15 : decode cJ1_indexOf_4cfef 15 = .ok (.iload_n 3, 1) := by decide +kernel
theorem dJ1_indexOf_4cfef_16 : decode cJ1_indexOf_4cfef 16 = .ok (.aload_n 0, 1) := by decide +kernel
theorem dJ1_indexOf_4cfef_17 : decode cJ1_indexOf_4cfef 17 = .ok (.arraylength, 1) := by decide +kernel
theorem dJ1_indexOf_4cfef_18 : decode cJ1_indexOf_4cfef 18 = .ok (.invokestatic 38, 3) := by decide +kernel
theorem dJ1_indexOf_4cfef_21 : decode cJ1_indexOf_4cfef 21 = .ok (.istore_n 3, 1) := by decide +kernel
theorem dJ1_indexOf_4cfef_22 : decode cJ1_indexOf_4cfef 22 = .ok (.iload_n 2, 1) := by decide +kernel
theorem dJ1_indexOf_4cfef_23 : decode cJ1_indexOf_4cfef 23 = .ok (.iload_n 3, 1) := by decide +kernel
theorem dJ1_indexOf_4cfef_24 : decode cJ1_indexOf_4cfef 24 = .ok (.if_icmp .lt 5, 3) := by decide +kernel
theorem dJ1_indexOf_4cfef_27 : decode cJ1_indexOf_4cfef 27 = .ok (.iconst (-1), 1) := by decide +kernel
theorem dJ1_indexOf_4cfef_28 : decode cJ1_indexOf_4cfef 28 = .ok (.ireturn, 1) := by decide +kernel
theorem dJ1_indexOf_4cfef_29 : decode cJ1_indexOf_4cfef 29 = .ok (.aload_n 0, 1) := by decide +kernel
theorem dJ1_indexOf_4cfef_30 : decode cJ1_indexOf_4cfef 30 = .ok (.iload_n 1, 1) := by decide +kernel
theorem dJ1_indexOf_4cfef_31 : decode cJ1_indexOf_4cfef 31 = .ok (.iload_n 2, 1) := by decide +kernel
theorem dJ1_indexOf_4cfef_32 : decode cJ1_indexOf_4cfef 32 = .ok (.iload_n 3, 1) := by decide +kernel
theorem dJ1_indexOf_4cfef_33 : decode cJ1_indexOf_4cfef 33 = .ok (.invokestatic 95, 3) := by decide +kernel
theorem dJ1_indexOf_4cfef_36 : decode cJ1_indexOf_4cfef 36 = .ok (.ireturn, 1) := by decide +kernel
theorem dJ1_indexOfChar_4cfef_0 : decode cJ1_indexOfChar_4cfef 0 = .ok (.iload_n 1, 1) := by decide +kernel
theorem dJ1_indexOfChar_4cfef_1 : decode cJ1_indexOfChar_4cfef 1 = .ok (.i2b, 1) := by decide +kernel
theorem dJ1_indexOfChar_4cfef_2 : decode cJ1_indexOfChar_4cfef 2 = .ok (.istore 4, 2) := by decide +kernel
theorem dJ1_indexOfChar_4cfef_4 : decode cJ1_indexOfChar_4cfef 4 = .ok (.iload_n 2, 1) := by decide +kernel
theorem dJ1_indexOfChar_4cfef_5 : decode cJ1_indexOfChar_4cfef 5 = .ok (.istore 5, 2) := by decide +kernel
theorem dJ1_indexOfChar_4cfef_7 : decode cJ1_indexOfChar_4cfef 7 = .ok (.iload 5, 2) := by decide +kernel
theorem dJ1_indexOfChar_4cfef_9 : decode cJ1_indexOfChar_4cfef 9 = .ok (.iload_n 3, 1) := by decide +kernel
theorem dJ1_indexOfChar_4cfef_10 : decode cJ1_indexOfChar_4cfef 10 = .ok (.if_icmp .ge 21, 3) := by decide +kernel
theorem dJ1_indexOfChar_4cfef_13 : decode cJ1_indexOfChar_4cfef 13 = .ok (.aload_n 0, 1) := by decide +kernel
theorem dJ1_indexOfChar_4cfef_14 : decode cJ1_indexOfChar_4cfef 14 = .ok (.iload 5, 2) := by decide +kernel
theorem dJ1_indexOfChar_4cfef_16 : decode cJ1_indexOfChar_4cfef 16 = .ok (.baload, 1) := by decide +kernel
theorem dJ1_indexOfChar_4cfef_17 : decode cJ1_indexOfChar_4cfef 17 = .ok (.iload 4, 2) := by decide +kernel
theorem dJ1_indexOfChar_4cfef_19 : decode cJ1_indexOfChar_4cfef 19 = .ok (.if_icmp .ne 6, 3) := by decide +kernel
theorem dJ1_indexOfChar_4cfef_22 : decode cJ1_indexOfChar_4cfef 22 = .ok (.iload 5, 2) := by decide +kernel
theorem dJ1_indexOfChar_4cfef_24 : decode cJ1_indexOfChar_4cfef 24 = .ok (.ireturn, 1) := by decide +kernel
theorem dJ1_indexOfChar_4cfef_25 : decode cJ1_indexOfChar_4cfef 25 = .ok (.iinc 5 1, 3) := by decide +kernel
theorem dJ1_indexOfChar_4cfef_28 : decode cJ1_indexOfChar_4cfef 28 = .ok (.goto (-21), 3) := by decide +kernel
theorem dJ1_indexOfChar_4cfef_31 : decode cJ1_indexOfChar_4cfef 31 = .ok (.iconst (-1), 1) := by decide +kernel
theorem dJ1_indexOfChar_4cfef_32 : decode cJ1_indexOfChar_4cfef 32 = .ok (.ireturn, 1) := by decide +kernel
theorem dJ2_getChar_3b067_0 : decode cJ2_getChar_3b067 0 = .ok (.getstatic 44, 3) := by decide +kernel
theorem dJ2_getChar_3b067_3 : decode cJ2_getChar_3b067 3 = .ok (.ifCond .ne 25, 3) := by decide +kernel
theorem dJ2_getChar_3b067_6 : decode cJ2_getChar_3b067 6 = .ok (.iload_n 1, 1) := by decide +kernel
theorem dJ2_getChar_3b067_7 : decode cJ2_getChar_3b067 7 = .ok (.ifCond .lt 11, 3) := by decide +kernel
theorem dJ2_getChar_3b067_10 : decode cJ2_getChar_3b067 10 = .ok (.iload_n 1, 1) := by decide +kernel
theorem dJ2_getChar_3b067_11 : decode cJ2_getChar_3b067 11 = .ok (.aload_n 0, 1) := by decide +kernel
theorem dJ2_getChar_3b067_12 : decode cJ2_getChar_3b067 12 = .ok (.invokestatic 48, 3) := by decide +kernel
theorem dJ2_getChar_3b067_15 : decode cJ2_getChar_3b067 15 = .ok (.if_icmp .lt 13, 3) := by decide +kernel
theorem dJ2_getChar_3b067_18 : decode cJ2_getChar_3b067 18 = .ok (.new 52, 3) := by decide +kernel
theorem dJ2_getChar_3b067_21 : decode cJ2_getChar_3b067 21 = .ok (.dup, 1) := by decide +kernel
theorem dJ2_getChar_3b067_22 : decode cJ2_getChar_3b067 22 = .ok (.ldc 54, 2) := by decide +kernel
theorem dJ2_getChar_3b067_24 : decode cJ2_getChar_3b067 24 = .ok (.invokespecial 56, 3) := by decide +kernel
theorem dJ2_getChar_3b067_27 : decode cJ2_getChar_3b067 27 = .ok (.athrow, 1) := by decide +kernel
theorem dJ2_getChar_3b067_28 : decode cJ2_getChar_3b067 28 = .ok (.iload_n 1, 1) := by decide +kernel
theorem dJ2_getChar_3b067_29 : decode cJ2_getChar_3b067 29 = .ok (.iconst 1, 1) := by decide +kernel
theorem dJ2_getChar_3b067_30 : decode cJ2_getChar_3b067 30 = .ok (.ishl, 1) := by decide +kernel
theorem dJ2_getChar_3b067_31 : decode cJ2_getChar_3b067 31 = .ok (.istore_n 1, 1) := by decide +kernel
theorem dJ2_getChar_3b067_32 : decode cJ2_getChar_3b067 32 = .ok (.aload_n 0, 1) := by decide +kernel
theorem dJ2_getChar_3b067_33 : decode cJ2_getChar_3b067 33 = .ok (.iload_n 1, 1) := by decide +kernel
theorem dJ2_getChar_3b067_34 : decode cJ2_getChar_3b067 34 = .ok (.iinc 1 1, 3) := by decide +kernel
theorem dJ2_getChar_3b067_37 : decode cJ2_getChar_3b067 37 = .ok (.baload, 1) := by decide +kernel
theorem dJ2_getChar_3b067_38 : decode cJ2_getChar_3b067 38 = .ok (.sipush 255, 3) := by decide +kernel
theorem dJ2_getChar_3b067_41 : decode cJ2_getChar_3b067 41 = .ok (.iand, 1) := by decide +kernel
theorem dJ2_getChar_3b067_42 : decode cJ2_getChar_3b067 42 = .ok (.getstatic 59, 3) := by decide +kernel
theorem dJ2_getChar_3b067_45 : decode cJ2_getChar_3b067 45 = .ok (.ishl, 1) := by decide +kernel
theorem dJ2_getChar_3b067_46 : decode cJ2_getChar_3b067 46 = .ok (.aload_n 0, 1) := by decide +kernel
theorem dJ2_getChar_3b067_47 : decode cJ2_getChar_3b067 47 = .ok (.iload_n 1, 1) := by decide +kernel
theorem dJ2_getChar_3b067_48 : decode cJ2_getChar_3b067 48 = .ok (.baload, 1) := by decide +kernel
theorem dJ2_getChar_3b067_49 : decode cJ2_getChar_3b067 49 = .ok (.sipush 255, 3) := by decide +kernel
theorem dJ2_getChar_3b067_52 : decode cJ2_getChar_3b067 52 = .ok (.iand, 1) := by decide +kernel
theorem dJ2_getChar_3b067_53 : decode cJ2_getChar_3b067 53 = .ok (.getstatic 63, 3) := by decide +kernel
theorem dJ2_getChar_3b067_56 : decode cJ2_getChar_3b067 56 = .ok (.ishl, 1) := by decide +kernel
theorem dJ2_getChar_3b067_57 : decode cJ2_getChar_3b067 57 = .ok (.ior, 1) := by decide +kernel
theorem dJ2_getChar_3b067_58 : decode cJ2_getChar_3b067 58 = .ok (.i2c, 1) := by decide +kernel
theorem dJ2_getChar_3b067_59 : decode cJ2_getChar_3b067 59 = .ok (.ireturn, 1) := by decide +kernel
theorem dJ2_length_9d52b_0 : decode cJ2_length_9d52b 0 = .ok (.aload_n 0, 1) := by decide +kernel
theorem dJ2_length_9d52b_1 : decode cJ2_length_9d52b 1 = .ok (.arraylength, 1) := by decide +kernel
theorem dJ2_length_9d52b_2 : decode cJ2_length_9d52b 2 = .ok (.iconst 1, 1) := by decide +kernel
theorem dJ2_length_9d52b_3 : decode cJ2_length_9d52b 3 = .ok (.ishr, 1) := by decide +kernel
theorem dJ2_length_9d52b_4 : decode cJ2_length_9d52b 4 = .ok (.ireturn, 1) := by decide +kernel
theorem dJ2_indexOf_4cfef_0 : decode cJ2_indexOf_4cfef 0 = .ok (.iload_n 2, 1) := by decide +kernel
theorem dJ2_indexOf_4cfef_1 : decode cJ2_indexOf_4cfef 1 = .ok (.iconst 0, 1) := by decide +kernel
theorem dJ2_indexOf_4cfef_2 : decode cJ2_indexOf_4cfef 2 = .ok (.invokestatic 224, 3) := by decide +kernel
theorem dJ2_indexOf_4cfef_5 : decode cJ2_indexOf_4cfef 5 = .ok (.istore_n 2, 1) := by decide +kernel
theorem dJ2_indexOf_4cfef_6 : decode cJ2_indexOf_4cfef 6 = .ok (.iload_n 3, 1) := by decide +kernel
theorem dJ2_indexOf_4cfef_7 : decode cJ2_indexOf_4cfef 7 = .ok (.aload_n 0, 1) := by decide +kernel
theorem dJ2_indexOf_4cfef_8 : decode cJ2_indexOf_4cfef 8 = .ok (.arraylength, 1) := by decide +kernel
theorem dJ2_indexOf_4cfef_9 : decode cJ2_indexOf_4cfef 9 = .ok (.iconst 1, 1) := by decide +kernel
theorem dJ2_indexOf_4cfef_10 : decode cJ2_indexOf_4cfef 10 = .ok (.ishr, 1) := by decide +kernel
theorem dJ2_indexOf_4cfef_11 : decode cJ2_indexOf_4cfef 11 = .ok (.invokestatic 183, 3) := by decide +kernel
theorem dJ2_indexOf_4cfef_14 : decode cJ2_indexOf_4cfef 14 = .ok (.istore_n 3, 1) := by decide +kernel
theorem dJ2_indexOf_4cfef_15 : decode cJ2_indexOf_4cfef 15 = .ok (.iload_n 2, 1) := by decide +kernel
theorem dJ2_indexOf_4cfef_16 : decode cJ2_indexOf_4cfef 16 = .ok (.iload_n 3, 1) := by decide +kernel
theorem dJ2_indexOf_4cfef_17 : decode cJ2_indexOf_4cfef 17 = .ok (.if_icmp .lt 5, 3) := by decide +kernel
theorem dJ2_indexOf_4cfef_20 : decode cJ2_indexOf_4cfef 20 = .ok (.iconst (-1), 1) := by decide +kernel
theorem dJ2_indexOf_4cfef_21 : decode cJ2_indexOf_4cfef 21 = .ok (.ireturn, 1) := by decide +kernel
theorem dJ2_indexOf_4cfef_22 : decode cJ2_indexOf_4cfef 22 = .ok (.iload_n 1, 1) := by decide +kernel
theorem dJ2_indexOf_4cfef_23 : decode cJ2_indexOf_4cfef 23 = .ok (.ldc 227, 2) := by decide +kernel
theorem dJ2_indexOf_4cfef_25 : decode cJ2_indexOf_4cfef 25 = .ok (.if_icmp .ge 11, 3) := by decide +kernel
theorem dJ2_indexOf_4cfef_28 : decode cJ2_indexOf_4cfef 28 = .ok (.aload_n 0, 1) := by decide +kernel
theorem dJ2_indexOf_4cfef_29 : decode cJ2_indexOf_4cfef 29 = .ok (.iload_n 1, 1) := by decide +kernel
theorem dJ2_indexOf_4cfef_30 : decode cJ2_indexOf_4cfef 30 = .ok (.iload_n 2, 1) := by decide +kernel
theorem dJ2_indexOf_4cfef_31 : decode cJ2_indexOf_4cfef 31 = .ok (.iload_n 3, 1) := by decide +kernel
theorem dJ2_indexOf_4cfef_32 : decode cJ2_indexOf_4cfef 32 = .ok (.invokestatic 228, 3) := by decide +kernel
theorem dJ2_indexOf_4cfef_35 : decode cJ2_indexOf_4cfef 35 = .ok (.ireturn, 1) := by decide +kernel
theorem dJ2_indexOf_4cfef_36 : decode cJ2_indexOf_4cfef 36 = .ok (.aload_n 0, 1) := by decide +kernel
theorem dJ2_indexOf_4cfef_37 : decode cJ2_indexOf_4cfef 37 = .ok (.iload_n 1, 1) := by decide +kernel
theorem dJ2_indexOf_4cfef_38 : decode cJ2_indexOf_4cfef 38 = .ok (.iload_n 2, 1) := by decide +kernel
theorem dJ2_indexOf_4cfef_39 : decode cJ2_indexOf_4cfef 39 = .ok (.iload_n 3, 1) := by decide +kernel
theorem dJ2_indexOf_4cfef_40 : decode cJ2_indexOf_4cfef 40 = .ok (.invokestatic 232, 3) := by decide +kernel
theorem dJ2_indexOf_4cfef_43 : decode cJ2_indexOf_4cfef 43 = .ok (.ireturn, 1) := by decide +kernel
theorem dJ2_indexOfChar_4cfef_0 : decode cJ2_indexOfChar_4cfef 0 = .ok (.iload_n 2, 1) := by decide +kernel
theorem dJ2_indexOfChar_4cfef_1 : decode cJ2_indexOfChar_4cfef 1 = .ok (.iload_n 3, 1) := by decide +kernel
theorem dJ2_indexOfChar_4cfef_2 : decode cJ2_indexOfChar_4cfef 2 = .ok (.aload_n 0, 1) := by decide +kernel
theorem dJ2_indexOfChar_4cfef_3 : decode cJ2_indexOfChar_4cfef 3 = .ok (.invokestatic 96, 3) := by decide +kernel
theorem dJ2_indexOfChar_4cfef_6 : decode cJ2_indexOfChar_4cfef 6 = .ok (.aload_n 0, 1) := by decide +kernel
theorem dJ2_indexOfChar_4cfef_7 : decode cJ2_indexOfChar_4cfef 7 = .ok (.iload_n 1, 1) := by decide +kernel
theorem dJ2_indexOfChar_4cfef_8 : decode cJ2_indexOfChar_4cfef 8 = .ok (.iload_n 2, 1) := by decide +kernel
theorem dJ2_indexOfChar_4cfef_9 : decode cJ2_indexOfChar_4cfef 9 = .ok (.iload_n 3, 1) := by decide +kernel
theorem dJ2_indexOfChar_4cfef_10 : decode cJ2_indexOfChar_4cfef 10 = .ok (.invokestatic 244, 3) := by decide +kernel
theorem dJ2_indexOfChar_4cfef_13 : decode cJ2_indexOfChar_4cfef 13 = .ok (.ireturn, 1) := by decide +kernel
theorem dJ2_indexOfCharUnsafe_4cfef_0 : decode cJ2_indexOfCharUnsafe_4cfef 0 = .ok (.iload_n 2, 1) := by decide +kernel
theorem dJ2_indexOfCharUnsafe_4cfef_1 : decode cJ2_indexOfCharUnsafe_4cfef 1 = .ok (.istore 4, 2) := by decide +kernel
theorem dJ2_indexOfCharUnsafe_4cfef_3 : decode cJ2_indexOfCharUnsafe_4cfef 3 = .ok (.iload 4, 2) := by decide +kernel
theorem dJ2_indexOfCharUnsafe_4cfef_5 : decode cJ2_indexOfCharUnsafe_4cfef 5 = .ok (.iload_n 3, 1) := by decide +kernel
theorem dJ2_indexOfCharUnsafe_4cfef_6 : decode cJ2_indexOfCharUnsafe_4cfef 6 = .ok (.if_icmp .ge 22, 3) := by decide +kernel
theorem dJ2_indexOfCharUnsafe_4cfef_9 : decode cJ2_indexOfCharUnsafe_4cfef 9 = .ok (.aload_n 0, 1) := by decide +kernel
theorem dJ2_indexOfCharUnsafe_4cfef_10 : decode cJ2_indexOfCharUnsafe_4cfef 10 = .ok (.iload 4, 2) := by decide +kernel
theorem dJ2_indexOfCharUnsafe_4cfef_12 : decode cJ2_indexOfCharUnsafe_4cfef 12 = .ok (.invokestatic 71, 3) := by decide +kernel
theorem dJ2_indexOfCharUnsafe_4cfef_15 : decode cJ2_indexOfCharUnsafe_4cfef 15 = .ok (.iload_n 1, 1) := by decide +kernel
theorem dJ2_indexOfCharUnsafe_4cfef_16 : decode cJ2_indexOfCharUnsafe_4cfef 16 = .ok (.if_icmp .ne 6, 3) := by decide +kernel
theorem dJ2_indexOfCharUnsafe_4cfef_19 : decode cJ2_indexOfCharUnsafe_4cfef 19 = .ok (.iload 4, 2) := by decide +kernel
theorem dJ2_indexOfCharUnsafe_4cfef_21 : decode cJ2_indexOfCharUnsafe_4cfef 21 = .ok (.ireturn, 1) := by decide +kernel
theorem dJ2_indexOfCharUnsafe_4cfef_22 : decode cJ2_indexOfCharUnsafe_4cfef 22 = .ok (.iinc 4 1, 3) := by decide +kernel
theorem dJ2_indexOfCharUnsafe_4cfef_25 : decode cJ2_indexOfCharUnsafe_4cfef 25 = .ok (.goto (-22), 3) := by decide +kernel
theorem dJ2_indexOfCharUnsafe_4cfef_28 : decode cJ2_indexOfCharUnsafe_4cfef 28 = .ok (.iconst (-1), 1) := by decide +kernel
theorem dJ2_indexOfCharUnsafe_4cfef_29 : decode cJ2_indexOfCharUnsafe_4cfef 29 = .ok (.ireturn, 1) := by decide +kernel
theorem dJ2_indexOfSupplementary_4cfef_0 : decode cJ2_indexOfSupplementary_4cfef 0 = .ok (.iload_n 1, 1) := by decide +kernel
theorem dJ2_indexOfSupplementary_4cfef_1 : decode cJ2_indexOfSupplementary_4cfef 1 = .ok (.invokestatic 164, 3) := by decide +kernel
theorem dJ2_indexOfSupplementary_4cfef_4 : decode cJ2_indexOfSupplementary_4cfef 4 = .ok (.ifCond .eq 65, 3) := by decide +kernel
theorem dJ2_indexOfSupplementary_4cfef_7 : decode cJ2_indexOfSupplementary_4cfef 7 = .ok (.iload_n 1, 1) := by decide +kernel
theorem dJ2_indexOfSupplementary_4cfef_8 : decode cJ2_indexOfSupplementary_4cfef 8 = .ok (.invokestatic 157, 3) := by decide +kernel
theorem dJ2_indexOfSupplementary_4cfef_11 : decode cJ2_indexOfSupplementary_4cfef 11 = .ok (.istore 4, 2) := by decide +kernel
theorem dJ2_indexOfSupplementary_4cfef_13 : decode cJ2_indexOfSupplementary_4cfef 13 = .ok (.iload_n 1, 1) := by decide +kernel
theorem dJ2_indexOfSupplementary_4cfef_14 : decode cJ2_indexOfSupplementary_4cfef 14 = .ok (.invokestatic 161, 3) := by decide +kernel
theorem dJ2_indexOfSupplementary_4cfef_17 : decode cJ2_indexOfSupplementary_4cfef 17 = .ok (.istore 5, 2) := by decide +kernel
theorem dJ2_indexOfSupplementary_4cfef_19 : decode cJ2_indexOfSupplementary_4cfef 19 = .ok (.iload_n 2, 1) := by decide +kernel
theorem dJ2_indexOfSupplementary_4cfef_20 : decode cJ2_indexOfSupplementary_4cfef 20 = .ok (.iload_n 3, 1) := by decide +kernel
theorem dJ2_indexOfSupplementary_4cfef_21 : decode cJ2_indexOfSupplementary_4cfef 21 = .ok (.aload_n 0, 1) := by decide +kernel
theorem dJ2_indexOfSupplementary_4cfef_22 : decode cJ2_indexOfSupplementary_4cfef 22 = .ok (.invokestatic 96, 3) := by decide +kernel
theorem dJ2_indexOfSupplementary_4cfef_25 : decode cJ2_indexOfSupplementary_4cfef 25 = .ok (.iload_n 2, 1) := by decide +kernel
theorem dJ2_indexOfSupplementary_4cfef_26 : decode cJ2_indexOfSupplementary_4cfef 26 = .ok (.istore 6, 2) := by decide +kernel
theorem dJ2_indexOfSupplementary_4cfef_28 : decode cJ2_indexOfSupplementary_4cfef 28 = .ok (.iload 6, 2) := by decide +kernel
theorem dJ2_indexOfSupplementary_4cfef_30 : decode cJ2_indexOfSupplementary_4cfef 30 = .ok (.iload_n 3, 1) := by decide +kernel
theorem dJ2_indexOfSupplementary_4cfef_31 : decode cJ2_indexOfSupplementary_4cfef 31 = .ok (.iconst 1, 1) := by decide +kernel
theorem dJ2_indexOfSupplementary_4cfef_32 : decode cJ2_indexOfSupplementary_4cfef 32 = .ok (.isub, 1) := by decide +kernel
theorem dJ2_indexOfSupplementary_4cfef_33 : decode cJ2_indexOfSupplementary_4cfef 33 = .ok (.if_icmp .ge 36, 3) := by decide +kernel
theorem dJ2_indexOfSupplementary_4cfef_36 : decode cJ2_indexOfSupplementary_4cfef 36 = .ok (.aload_n 0, 1) := by decide +kernel
theorem dJ2_indexOfSupplementary_4cfef_37 : decode cJ2_indexOfSupplementary_4cfef 37 = .ok (.iload 6, 2) := by decide +kernel
theorem dJ2_indexOfSupplementary_4cfef_39 : decode cJ2_indexOfSupplementary_4cfef 39 = .ok (.invokestatic 71, 3) := by decide +kernel
theorem dJ2_indexOfSupplementary_4cfef_42 : decode cJ2_indexOfSupplementary_4cfef 42 = .ok (.iload 4, 2) := by decide +kernel
theorem dJ2_indexOfSupplementary_4cfef_44 : decode cJ2_indexOfSupplementary_4cfef 44 = .ok (.if_icmp .ne 19, 3) := by decide +kernel
theorem dJ2_indexOfSupplementary_4cfef_47 : decode cJ2_indexOfSupplementary_4cfef 47 = .ok (.aload_n 0, 1) := by decide +kernel
theorem dJ2_indexOfSupplementary_4cfef_48 : decode cJ2_indexOfSupplementary_4cfef 48 = .ok (.iload 6, 2) := by decide +kernel
theorem dJ2_indexOfSupplementary_4cfef_50 : decode cJ2_indexOfSupplementary_4cfef 50 = .ok (.iconst 1, 1) := by decide +kernel
theorem dJ2_indexOfSupplementary_4cfef_51 : decode cJ2_indexOfSupplementary_4cfef 51 = .ok (.iadd, 1) := by decide +kernel
theorem dJ2_indexOfSupplementary_4cfef_52 : decode cJ2_indexOfSupplementary_4cfef 52 = .ok (.invokestatic 71, 3) := by decide +kernel
theorem dJ2_indexOfSupplementary_4cfef_55 : decode cJ2_indexOfSupplementary_4cfef 55 = .ok (.iload 5, 2) := by decide +kernel
theorem dJ2_indexOfSupplementary_4cfef_57 : decode cJ2_indexOfSupplementary_4cfef 57 = .ok (.if_icmp .ne 6, 3) := by decide +kernel
theorem dJ2_indexOfSupplementary_4cfef_60 : decode cJ2_indexOfSupplementary_4cfef 60 = .ok (.iload 6, 2) := by decide +kernel
theorem dJ2_indexOfSupplementary_4cfef_62 : decode cJ2_indexOfSupplementary_4cfef 62 = .ok (.ireturn, 1) := by decide +kernel
theorem dJ2_indexOfSupplementary_4cfef_63 : decode cJ2_indexOfSupplementary_4cfef 63 = .ok (.iinc 6 1, 3) := by decide +kernel
theorem dJ2_indexOfSupplementary_4cfef_66 : decode cJ2_indexOfSupplementary_4cfef 66 = .ok (.goto (-38), 3) := by decide +kernel
theorem dJ2_indexOfSupplementary_4cfef_69 : decode cJ2_indexOfSupplementary_4cfef 69 = .ok (.iconst (-1), 1) := by decide +kernel
theorem dJ2_indexOfSupplementary_4cfef_70 : decode cJ2_indexOfSupplementary_4cfef 70 = .ok (.ireturn, 1) := by decide +kernel
theorem dJ2_charAt_3b067_0 : decode cJ2_charAt_3b067 0 = .ok (.iload_n 1, 1) := by decide +kernel
theorem dJ2_charAt_3b067_1 : decode cJ2_charAt_3b067 1 = .ok (.aload_n 0, 1) := by decide +kernel
theorem dJ2_charAt_3b067_2 : decode cJ2_charAt_3b067 2 = .ok (.invokestatic 67, 3) := by decide +kernel
theorem dJ2_charAt_3b067_5 : decode cJ2_charAt_3b067 5 = .ok (.aload_n 0, 1) := by decide +kernel
theorem dJ2_charAt_3b067_6 : decode cJ2_charAt_3b067 6 = .ok (.iload_n 1, 1) := by decide +kernel
theorem dJ2_charAt_3b067_7 : decode cJ2_charAt_3b067 7 = .ok (.invokestatic 71, 3) := by decide +kernel
theorem dJ2_charAt_3b067_10 : decode cJ2_charAt_3b067 10 = .ok (.ireturn, 1) := by decide +kernel
theorem dJ2_checkIndex_2214a_0 : decode cJ2_checkIndex_2214a 0 = .ok (.iload_n 0, 1) := by decide +kernel
theorem dJ2_checkIndex_2214a_1 : decode cJ2_checkIndex_2214a 1 = .ok (.aload_n 1, 1) := by decide +kernel
theorem dJ2_checkIndex_2214a_2 : decode cJ2_checkIndex_2214a 2 = .ok (.invokestatic 48, 3) := by decide +kernel
theorem dJ2_checkIndex_2214a_5 : decode cJ2_checkIndex_2214a 5 = .ok (.invokestatic 414, 3) := by decide +kernel
theorem dJ2_checkIndex_2214a_8 : decode cJ2_checkIndex_2214a 8 = .ok (.return_, 1) := by decide +kernel
theorem dJ2_checkBoundsBeginEnd_d044e_0 : decode cJ2_checkBoundsBeginEnd_d044e 0 = .ok (.iload_n 0, 1) := by decide +kernel
theorem dJ2_checkBoundsBeginEnd_d044e_1 : decode cJ2_checkBoundsBeginEnd_d044e 1 = .ok (.iload_n 1, 1) := by decide +kernel
theorem dJ2_checkBoundsBeginEnd_d044e_2 : decode cJ2_checkBoundsBeginEnd_d044e 2 = .ok (.aload_n 2, 1) := by decide +kernel
theorem dJ2_checkBoundsBeginEnd_d044e_3 : decode cJ2_checkBoundsBeginEnd_d044e 3 = .ok (.invokestatic 48, 3) := by decide +kernel
theorem dJ2_checkBoundsBeginEnd_d044e_6 : decode cJ2_checkBoundsBeginEnd_d044e 6 = .ok (.invokestatic 241, 3) := by decide +kernel
theorem dJ2_checkBoundsBeginEnd_d044e_9 : decode cJ2_checkBoundsBeginEnd_d044e 9 = .ok (.return_, 1) := by decide +kernel
theorem dJ7_fill_53178_0 : decode cJ7_fill_53178 0 = .ok (.iconst 0, 1) := by decide +kernel
theorem dJ7_fill_53178_1 : decode cJ7_fill_53178 1 = .ok (.istore_n 2, 1) := by decide +kernel
theorem dJ7_fill_53178_2 : decode cJ7_fill_53178 2 = .ok (.aload_n 0, 1) := by decide +kernel
theorem dJ7_fill_53178_3 : decode cJ7_fill_53178 3 = .ok (.arraylength, 1) := by decide +kernel
theorem dJ7_fill_53178_4 : decode cJ7_fill_53178 4 = .ok (.istore_n 3, 1) := by decide +kernel
theorem dJ7_fill_53178_5 : decode cJ7_fill_53178 5 = .ok (.iload_n 2, 1) := by decide +kernel
theorem dJ7_fill_53178_6 : decode cJ7_fill_53178 6 = .ok (.iload_n 3, 1) := by decide +kernel
theorem dJ7_fill_53178_7 : decode cJ7_fill_53178 7 = .ok (.if_icmp .ge 13, 3) := by decide +kernel
theorem dJ7_fill_53178_10 : decode cJ7_fill_53178 10 = .ok (.aload_n 0, 1) := by decide +kernel
theorem dJ7_fill_53178_11 : decode cJ7_fill_53178 11 = .ok (.iload_n 2, 1) := by decide +kernel
theorem dJ7_fill_53178_12 : decode cJ7_fill_53178 12 = .ok (.iload_n 1, 1) := by decide +kernel
theorem dJ7_fill_53178_13 : decode cJ7_fill_53178 13 = .ok (.iastore, 1) := by decide +kernel
theorem dJ7_fill_53178_14 : decode cJ7_fill_53178 14 = .ok (.iinc 2 1, 3) := by decide +kernel
theorem dJ7_fill_53178_17 : decode cJ7_fill_53178 17 = .ok (.goto (-12), 3) := by decide +kernel
theorem dJ7_fill_53178_20 : decode cJ7_fill_53178 20 = .ok (.return_, 1) := by decide +kernel
theorem dJ3_checkIndex_8e157_0 : decode cJ3_checkIndex_8e157 0 = .ok (.iload_n 0, 1) := by decide +kernel
theorem dJ3_checkIndex_8e157_1 : decode cJ3_checkIndex_8e157 1 = .ok (.ifCond .lt 8, 3) := by decide +kernel
theorem dJ3_checkIndex_8e157_4 : decode cJ3_checkIndex_8e157 4 = .ok (.iload_n 0, 1) := by decide +kernel
theorem dJ3_checkIndex_8e157_5 : decode cJ3_checkIndex_8e157 5 = .ok (.iload_n 1, 1) := by decide +kernel
theorem dJ3_checkIndex_8e157_6 : decode cJ3_checkIndex_8e157 6 = .ok (.if_icmp .lt 10, 3) := by decide +kernel
theorem dJ3_checkIndex_8e157_9 : decode cJ3_checkIndex_8e157 9 = .ok (.aload_n 2, 1) := by decide +kernel
theorem dJ3_checkIndex_8e157_10 : decode cJ3_checkIndex_8e157 10 = .ok (.iload_n 0, 1) := by decide +kernel
theorem dJ3_checkIndex_8e157_11 : decode cJ3_checkIndex_8e157 11 = .ok (.iload_n 1, 1) := by decide +kernel
theorem dJ3_checkIndex_8e157_12 : decode cJ3_checkIndex_8e157 12 = .ok (.invokestatic 95, 3) := by decide +kernel
theorem dJ3_checkIndex_8e157_15 : decode cJ3_checkIndex_8e157 15 = .ok (.athrow, 1) := by decide +kernel
theorem dJ3_checkIndex_8e157_16 : decode cJ3_checkIndex_8e157 16 = .ok (.iload_n 0, 1) := by decide +kernel
theorem dJ3_checkIndex_8e157_17 : decode cJ3_checkIndex_8e157 17 = .ok (.ireturn, 1) := by decide +kernel
theorem dJ3_checkFromToIndex_8c36e_0 : decode cJ3_checkFromToIndex_8c36e 0 = .ok (.iload_n 0, 1) := by decide +kernel
theorem dJ3_checkFromToIndex_8c36e_1 : decode cJ3_checkFromToIndex_8c36e 1 = .ok (.ifCond .lt 13, 3) := by decide +kernel
theorem dJ3_checkFromToIndex_8c36e_4 : decode cJ3_checkFromToIndex_8c36e 4 = .ok (.iload_n 0, 1) := by decide +kernel
theorem dJ3_checkFromToIndex_8c36e_5 : decode cJ3_checkFromToIndex_8c36e 5 = .ok (.iload_n 1, 1) := by decide +kernel
theorem dJ3_checkFromToIndex_8c36e_6 : decode cJ3_checkFromToIndex_8c36e 6 = .ok (.if_icmp .gt 8, 3) := by decide +kernel
theorem dJ3_checkFromToIndex_8c36e_9 : decode cJ3_checkFromToIndex_8c36e 9 = .ok (.iload_n 1, 1) := by decide +kernel
theorem dJ3_checkFromToIndex_8c36e_10 : decode cJ3_checkFromToIndex_8c36e 10 = .ok (.iload_n 2, 1) := by decide +kernel
theorem dJ3_checkFromToIndex_8c36e_11 : decode cJ3_checkFromToIndex_8c36e 11 = .ok (.if_icmp .le 11, 3) := by decide +kernel
theorem dJ3_checkFromToIndex_8c36e_14 : decode cJ3_checkFromToIndex_8c36e 14 = .ok (.aload_n 3, 1) := by decide +kernel
theorem dJ3_checkFromToIndex_8c36e_15 : decode cJ3_checkFromToIndex_8c36e 15 = .ok (.iload_n 0, 1) := by decide +kernel
theorem dJ3_checkFromToIndex_8c36e_16 : decode cJ3_checkFromToIndex_8c36e 16 = .ok (.iload_n 1, 1) := by decide +kernel
theorem dJ3_checkFromToIndex_8c36e_17 : decode cJ3_checkFromToIndex_8c36e 17 = .ok (.iload_n 2, 1) := by decide +kernel
theorem dJ3_checkFromToIndex_8c36e_18 : decode cJ3_checkFromToIndex_8c36e 18 = .ok (.invokestatic 99, 3) := by decide +kernel
theorem dJ3_checkFromToIndex_8c36e_21 : decode cJ3_checkFromToIndex_8c36e 21 = .ok (.athrow, 1) := by decide +kernel
theorem dJ3_checkFromToIndex_8c36e_22 : decode cJ3_checkFromToIndex_8c36e 22 = .ok (.iload_n 0, 1) := by decide +kernel
theorem dJ3_checkFromToIndex_8c36e_23 : decode cJ3_checkFromToIndex_8c36e 23 = .ok (.ireturn, 1) := by decide +kernel
theorem dL_song_0 : decode cL_song 0 = .ok (.aload_n 2, 1) := by decide +kernel
theorem dL_song_1 : decode cL_song 1 = .ok (.iconst 0, 1) := by decide +kernel
theorem dL_song_2 : decode cL_song 2 = .ok (.aload_n 0, 1) := by decide +kernel
theorem dL_song_3 : decode cL_song 3 = .ok (.iload_n 1, 1) := by decide +kernel
theorem dL_song_4 : decode cL_song 4 = .ok (.invokevirtual 7, 3) := by decide +kernel
theorem dL_song_7 : decode cL_song 7 = .ok (.i2l, 1) := by decide +kernel
theorem dL_song_8 : decode cL_song 8 = .ok (.lastore, 1) := by decide +kernel
theorem dL_song_9 : decode cL_song 9 = .ok (.goto 6, 3) := by decide +kernel
theorem dL_song_12 : decode cL_song 12 = .ok (.astore_n 3, 1) := by decide +kernel
theorem dL_song_13 : decode cL_song 13 = .ok (.iconst 1, 1) := by decide +kernel
theorem dL_song_14 : decode cL_song 14 = .ok (.ireturn, 1) := by decide +kernel
theorem dL_song_15 : decode cL_song 15 = .ok (.iconst 0, 1) := by decide +kernel
theorem dL_song_16 : decode cL_song 16 = .ok (.ireturn, 1) := by decide +kernel
theorem dL_fault_0 : decode cL_fault 0 = .ok (.aload_n 2, 1) := by decide +kernel
theorem dL_fault_1 : decode cL_fault 1 = .ok (.iconst 0, 1) := by decide +kernel
theorem dL_fault_2 : decode cL_fault 2 = .ok (.aload_n 0, 1) := by decide +kernel
theorem dL_fault_3 : decode cL_fault 3 = .ok (.iload_n 1, 1) := by decide +kernel
theorem dL_fault_4 : decode cL_fault 4 = .ok (.invokevirtual 15, 3) := by decide +kernel
theorem dL_fault_7 : decode cL_fault 7 = .ok (.i2l, 1) := by decide +kernel
theorem dL_fault_8 : decode cL_fault 8 = .ok (.lastore, 1) := by decide +kernel
theorem dL_fault_9 : decode cL_fault 9 = .ok (.goto 6, 3) := by decide +kernel
theorem dL_fault_12 : decode cL_fault 12 = .ok (.astore_n 3, 1) := by decide +kernel
theorem dL_fault_13 : decode cL_fault 13 = .ok (.iconst 1, 1) := by decide +kernel
theorem dL_fault_14 : decode cL_fault 14 = .ok (.ireturn, 1) := by decide +kernel
theorem dL_fault_15 : decode cL_fault 15 = .ok (.iconst 0, 1) := by decide +kernel
theorem dL_fault_16 : decode cL_fault 16 = .ok (.ireturn, 1) := by decide +kernel
theorem dL_key_0 : decode cL_key 0 = .ok (.aload_n 2, 1) := by decide +kernel
theorem dL_key_1 : decode cL_key 1 = .ok (.iconst 0, 1) := by decide +kernel
theorem dL_key_2 : decode cL_key 2 = .ok (.aload_n 0, 1) := by decide +kernel
theorem dL_key_3 : decode cL_key 3 = .ok (.iload_n 1, 1) := by decide +kernel
theorem dL_key_4 : decode cL_key 4 = .ok (.invokevirtual 20, 3) := by decide +kernel
theorem dL_key_7 : decode cL_key 7 = .ok (.i2l, 1) := by decide +kernel
theorem dL_key_8 : decode cL_key 8 = .ok (.lastore, 1) := by decide +kernel
theorem dL_key_9 : decode cL_key 9 = .ok (.goto 6, 3) := by decide +kernel
theorem dL_key_12 : decode cL_key 12 = .ok (.astore_n 3, 1) := by decide +kernel
theorem dL_key_13 : decode cL_key 13 = .ok (.iconst 1, 1) := by decide +kernel
theorem dL_key_14 : decode cL_key 14 = .ok (.ireturn, 1) := by decide +kernel
theorem dL_key_15 : decode cL_key 15 = .ok (.iconst 0, 1) := by decide +kernel
theorem dL_key_16 : decode cL_key 16 = .ok (.ireturn, 1) := by decide +kernel
theorem dL_move_0 : decode cL_move 0 = .ok (.aload_n 2, 1) := by decide +kernel
theorem dL_move_1 : decode cL_move 1 = .ok (.iconst 0, 1) := by decide +kernel
theorem dL_move_2 : decode cL_move 2 = .ok (.aload_n 0, 1) := by decide +kernel
theorem dL_move_3 : decode cL_move 3 = .ok (.iload_n 1, 1) := by decide +kernel
theorem dL_move_4 : decode cL_move 4 = .ok (.invokevirtual 23, 3) := by decide +kernel
theorem dL_move_7 : decode cL_move 7 = .ok (.i2l, 1) := by decide +kernel
theorem dL_move_8 : decode cL_move 8 = .ok (.lastore, 1) := by decide +kernel
theorem dL_move_9 : decode cL_move 9 = .ok (.goto 6, 3) := by decide +kernel
theorem dL_move_12 : decode cL_move 12 = .ok (.astore_n 3, 1) := by decide +kernel
theorem dL_move_13 : decode cL_move 13 = .ok (.iconst 1, 1) := by decide +kernel
theorem dL_move_14 : decode cL_move 14 = .ok (.ireturn, 1) := by decide +kernel
theorem dL_move_15 : decode cL_move 15 = .ok (.iconst 0, 1) := by decide +kernel
theorem dL_move_16 : decode cL_move 16 = .ok (.ireturn, 1) := by decide +kernel
theorem dL_chord_0 : decode cL_chord 0 = .ok (.aload_n 3, 1) := by decide +kernel
theorem dL_chord_1 : decode cL_chord 1 = .ok (.iconst 0, 1) := by decide +kernel
theorem dL_chord_2 : decode cL_chord 2 = .ok (.aload_n 0, 1) := by decide +kernel
theorem dL_chord_3 : decode cL_chord 3 = .ok (.iload_n 1, 1) := by decide +kernel
theorem dL_chord_4 : decode cL_chord 4 = .ok (.iload_n 2, 1) := by decide +kernel
theorem dL_chord_5 : decode cL_chord 5 = .ok (.invokevirtual 26, 3) := by decide +kernel
theorem dL_chord_8 : decode cL_chord 8 = .ok (.i2l, 1) := by decide +kernel
theorem dL_chord_9 : decode cL_chord 9 = .ok (.lastore, 1) := by decide +kernel
theorem dL_chord_10 : decode cL_chord 10 = .ok (.goto 7, 3) := by decide +kernel
theorem dL_chord_13 : decode cL_chord 13 = .ok (.astore 4, 2) := by decide +kernel
theorem dL_chord_15 : decode cL_chord 15 = .ok (.iconst 1, 1) := by decide +kernel
theorem dL_chord_16 : decode cL_chord 16 = .ok (.ireturn, 1) := by decide +kernel
theorem dL_chord_17 : decode cL_chord 17 = .ok (.iconst 0, 1) := by decide +kernel
theorem dL_chord_18 : decode cL_chord 18 = .ok (.ireturn, 1) := by decide +kernel
theorem dL_name_0 : decode cL_name 0 = .ok (.aload_n 2, 1) := by decide +kernel
theorem dL_name_1 : decode cL_name 1 = .ok (.iconst 0, 1) := by decide +kernel
theorem dL_name_2 : decode cL_name 2 = .ok (.aload_n 0, 1) := by decide +kernel
theorem dL_name_3 : decode cL_name 3 = .ok (.iload_n 1, 1) := by decide +kernel
theorem dL_name_4 : decode cL_name 4 = .ok (.invokevirtual 30, 3) := by decide +kernel
theorem dL_name_7 : decode cL_name 7 = .ok (.i2l, 1) := by decide +kernel
theorem dL_name_8 : decode cL_name 8 = .ok (.lastore, 1) := by decide +kernel
theorem dL_name_9 : decode cL_name 9 = .ok (.goto 6, 3) := by decide +kernel
theorem dL_name_12 : decode cL_name 12 = .ok (.astore_n 3, 1) := by decide +kernel
theorem dL_name_13 : decode cL_name 13 = .ok (.iconst 1, 1) := by decide +kernel
theorem dL_name_14 : decode cL_name 14 = .ok (.ireturn, 1) := by decide +kernel
theorem dL_name_15 : decode cL_name 15 = .ok (.iconst 0, 1) := by decide +kernel
theorem dL_name_16 : decode cL_name 16 = .ok (.ireturn, 1) := by decide +kernel
theorem dL_told_0 : decode cL_told 0 = .ok (.aload_n 2, 1) := by decide +kernel
theorem dL_told_1 : decode cL_told 1 = .ok (.iconst 0, 1) := by decide +kernel
theorem dL_told_2 : decode cL_told 2 = .ok (.aload_n 0, 1) := by decide +kernel
theorem dL_told_3 : decode cL_told 3 = .ok (.iload_n 1, 1) := by decide +kernel
theorem dL_told_4 : decode cL_told 4 = .ok (.invokevirtual 33, 3) := by decide +kernel
theorem dL_told_7 : decode cL_told 7 = .ok (.i2l, 1) := by decide +kernel
theorem dL_told_8 : decode cL_told 8 = .ok (.lastore, 1) := by decide +kernel
theorem dL_told_9 : decode cL_told 9 = .ok (.goto 6, 3) := by decide +kernel
theorem dL_told_12 : decode cL_told 12 = .ok (.astore_n 3, 1) := by decide +kernel
theorem dL_told_13 : decode cL_told 13 = .ok (.iconst 1, 1) := by decide +kernel
theorem dL_told_14 : decode cL_told 14 = .ok (.ireturn, 1) := by decide +kernel
theorem dL_told_15 : decode cL_told 15 = .ok (.iconst 0, 1) := by decide +kernel
theorem dL_told_16 : decode cL_told 16 = .ok (.ireturn, 1) := by decide +kernel
theorem dL_string_0 : decode cL_string 0 = .ok (.aload_n 2, 1) := by decide +kernel
theorem dL_string_1 : decode cL_string 1 = .ok (.iconst 0, 1) := by decide +kernel
theorem dL_string_2 : decode cL_string 2 = .ok (.aload_n 0, 1) := by decide +kernel
theorem dL_string_3 : decode cL_string 3 = .ok (.iload_n 1, 1) := by decide +kernel
theorem dL_string_4 : decode cL_string 4 = .ok (.invokevirtual 36, 3) := by decide +kernel
theorem dL_string_7 : decode cL_string 7 = .ok (.i2l, 1) := by decide +kernel
theorem dL_string_8 : decode cL_string 8 = .ok (.lastore, 1) := by decide +kernel
theorem dL_string_9 : decode cL_string 9 = .ok (.goto 6, 3) := by decide +kernel
theorem dL_string_12 : decode cL_string 12 = .ok (.astore_n 3, 1) := by decide +kernel
theorem dL_string_13 : decode cL_string 13 = .ok (.iconst 1, 1) := by decide +kernel
theorem dL_string_14 : decode cL_string 14 = .ok (.ireturn, 1) := by decide +kernel
theorem dL_string_15 : decode cL_string 15 = .ok (.iconst 0, 1) := by decide +kernel
theorem dL_string_16 : decode cL_string 16 = .ok (.ireturn, 1) := by decide +kernel
theorem dL_hands_0 : decode cL_hands 0 = .ok (.aload_n 3, 1) := by decide +kernel
theorem dL_hands_1 : decode cL_hands 1 = .ok (.iconst 0, 1) := by decide +kernel
theorem dL_hands_2 : decode cL_hands 2 = .ok (.aload_n 0, 1) := by decide +kernel
theorem dL_hands_3 : decode cL_hands 3 = .ok (.iload_n 1, 1) := by decide +kernel
theorem dL_hands_4 : decode cL_hands 4 = .ok (.iload_n 2, 1) := by decide +kernel
theorem dL_hands_5 : decode cL_hands 5 = .ok (.invokevirtual 39, 3) := by decide +kernel
theorem dL_hands_8 : decode cL_hands 8 = .ok (.i2l, 1) := by decide +kernel
theorem dL_hands_9 : decode cL_hands 9 = .ok (.lastore, 1) := by decide +kernel
theorem dL_hands_10 : decode cL_hands 10 = .ok (.goto 11, 3) := by decide +kernel
theorem dL_hands_13 : decode cL_hands 13 = .ok (.astore 4, 2) := by decide +kernel
theorem dL_hands_15 : decode cL_hands 15 = .ok (.iconst 1, 1) := by decide +kernel
theorem dL_hands_16 : decode cL_hands 16 = .ok (.ireturn, 1) := by decide +kernel
theorem dL_hands_17 : decode cL_hands 17 = .ok (.astore 4, 2) := by decide +kernel
theorem dL_hands_19 : decode cL_hands 19 = .ok (.iconst 2, 1) := by decide +kernel
theorem dL_hands_20 : decode cL_hands 20 = .ok (.ireturn, 1) := by decide +kernel
theorem dL_hands_21 : decode cL_hands 21 = .ok (.iconst 0, 1) := by decide +kernel
theorem dL_hands_22 : decode cL_hands 22 = .ok (.ireturn, 1) := by decide +kernel
theorem dL_fret_0 : decode cL_fret 0 = .ok (.aload 5, 2) := by decide +kernel
theorem dL_fret_2 : decode cL_fret 2 = .ok (.iconst 0, 1) := by decide +kernel
theorem dL_fret_3 : decode cL_fret 3 = .ok (.aload_n 0, 1) := by decide +kernel
theorem dL_fret_4 : decode cL_fret 4 = .ok (.iload_n 1, 1) := by decide +kernel
theorem dL_fret_5 : decode cL_fret 5 = .ok (.iload_n 2, 1) := by decide +kernel
theorem dL_fret_6 : decode cL_fret 6 = .ok (.iload_n 3, 1) := by decide +kernel
theorem dL_fret_7 : decode cL_fret 7 = .ok (.iload 4, 2) := by decide +kernel
theorem dL_fret_9 : decode cL_fret 9 = .ok (.invokevirtual 42, 3) := by decide +kernel
theorem dL_fret_12 : decode cL_fret 12 = .ok (.i2l, 1) := by decide +kernel
theorem dL_fret_13 : decode cL_fret 13 = .ok (.lastore, 1) := by decide +kernel
theorem dL_fret_14 : decode cL_fret 14 = .ok (.goto 11, 3) := by decide +kernel
theorem dL_fret_17 : decode cL_fret 17 = .ok (.astore 6, 2) := by decide +kernel
theorem dL_fret_19 : decode cL_fret 19 = .ok (.iconst 1, 1) := by decide +kernel
theorem dL_fret_20 : decode cL_fret 20 = .ok (.ireturn, 1) := by decide +kernel
theorem dL_fret_21 : decode cL_fret 21 = .ok (.astore 6, 2) := by decide +kernel
theorem dL_fret_23 : decode cL_fret 23 = .ok (.iconst 2, 1) := by decide +kernel
theorem dL_fret_24 : decode cL_fret 24 = .ok (.ireturn, 1) := by decide +kernel
theorem dL_fret_25 : decode cL_fret 25 = .ok (.iconst 0, 1) := by decide +kernel
theorem dL_fret_26 : decode cL_fret 26 = .ok (.ireturn, 1) := by decide +kernel
theorem dL_play_0 : decode cL_play 0 = .ok (.aload_n 2, 1) := by decide +kernel
theorem dL_play_1 : decode cL_play 1 = .ok (.iconst 0, 1) := by decide +kernel
theorem dL_play_2 : decode cL_play 2 = .ok (.aload_n 0, 1) := by decide +kernel
theorem dL_play_3 : decode cL_play 3 = .ok (.iload_n 1, 1) := by decide +kernel
theorem dL_play_4 : decode cL_play 4 = .ok (.invokevirtual 46, 3) := by decide +kernel
theorem dL_play_7 : decode cL_play 7 = .ok (.i2l, 1) := by decide +kernel
theorem dL_play_8 : decode cL_play 8 = .ok (.lastore, 1) := by decide +kernel
theorem dL_play_9 : decode cL_play 9 = .ok (.goto 6, 3) := by decide +kernel
theorem dL_play_12 : decode cL_play 12 = .ok (.astore_n 3, 1) := by decide +kernel
theorem dL_play_13 : decode cL_play 13 = .ok (.iconst 1, 1) := by decide +kernel
theorem dL_play_14 : decode cL_play 14 = .ok (.ireturn, 1) := by decide +kernel
theorem dL_play_15 : decode cL_play 15 = .ok (.iconst 0, 1) := by decide +kernel
theorem dL_play_16 : decode cL_play 16 = .ok (.ireturn, 1) := by decide +kernel
theorem dL_count_0 : decode cL_count 0 = .ok (.aload_n 2, 1) := by decide +kernel
theorem dL_count_1 : decode cL_count 1 = .ok (.iconst 0, 1) := by decide +kernel
theorem dL_count_2 : decode cL_count 2 = .ok (.aload_n 0, 1) := by decide +kernel
theorem dL_count_3 : decode cL_count 3 = .ok (.iload_n 1, 1) := by decide +kernel
theorem dL_count_4 : decode cL_count 4 = .ok (.invokevirtual 49, 3) := by decide +kernel
theorem dL_count_7 : decode cL_count 7 = .ok (.i2l, 1) := by decide +kernel
theorem dL_count_8 : decode cL_count 8 = .ok (.lastore, 1) := by decide +kernel
theorem dL_count_9 : decode cL_count 9 = .ok (.goto 6, 3) := by decide +kernel
theorem dL_count_12 : decode cL_count 12 = .ok (.astore_n 3, 1) := by decide +kernel
theorem dL_count_13 : decode cL_count 13 = .ok (.iconst 1, 1) := by decide +kernel
theorem dL_count_14 : decode cL_count 14 = .ok (.ireturn, 1) := by decide +kernel
theorem dL_count_15 : decode cL_count 15 = .ok (.iconst 0, 1) := by decide +kernel
theorem dL_count_16 : decode cL_count 16 = .ok (.ireturn, 1) := by decide +kernel
theorem dL_law_0 : decode cL_law 0 = .ok (.new 8, 3) := by decide +kernel
theorem dL_law_3 : decode cL_law 3 = .ok (.dup, 1) := by decide +kernel
theorem dL_law_4 : decode cL_law 4 = .ok (.invokespecial 52, 3) := by decide +kernel
theorem dL_law_7 : decode cL_law 7 = .ok (.astore_n 1, 1) := by decide +kernel
theorem dL_law_8 : decode cL_law 8 = .ok (.new 53, 3) := by decide +kernel
theorem dL_law_11 : decode cL_law 11 = .ok (.dup, 1) := by decide +kernel
theorem dL_law_12 : decode cL_law 12 = .ok (.invokespecial 55, 3) := by decide +kernel
theorem dL_law_15 : decode cL_law 15 = .ok (.astore_n 2, 1) := by decide +kernel
theorem dL_law_16 : decode cL_law 16 = .ok (.iconst 1, 1) := by decide +kernel
theorem dL_law_17 : decode cL_law 17 = .ok (.newarray .long, 2) := by decide +kernel
theorem dL_law_19 : decode cL_law 19 = .ok (.astore_n 3, 1) := by decide +kernel
theorem dL_law_20 : decode cL_law 20 = .ok (.iconst 0, 1) := by decide +kernel
theorem dL_law_21 : decode cL_law 21 = .ok (.istore 4, 2) := by decide +kernel
theorem dL_law_23 : decode cL_law 23 = .ok (.iload 4, 2) := by decide +kernel
theorem dL_law_25 : decode cL_law 25 = .ok (.aload_n 0, 1) := by decide +kernel
theorem dL_law_26 : decode cL_law 26 = .ok (.arraylength, 1) := by decide +kernel
theorem dL_law_27 : decode cL_law 27 = .ok (.bipush 6, 2) := by decide +kernel
theorem dL_law_29 : decode cL_law 29 = .ok (.isub, 1) := by decide +kernel
theorem dL_law_30 : decode cL_law 30 = .ok (.if_icmp .gt 986, 3) := by decide +kernel
theorem dL_law_33 : decode cL_law 33 = .ok (.aload_n 0, 1) := by decide +kernel
theorem dL_law_34 : decode cL_law 34 = .ok (.iload 4, 2) := by decide +kernel
theorem dL_law_36 : decode cL_law 36 = .ok (.iaload, 1) := by decide +kernel
theorem dL_law_37 : decode cL_law 37 = .ok (.bipush 31, 2) := by decide +kernel
theorem dL_law_39 : decode cL_law 39 = .ok (.iand, 1) := by decide +kernel
theorem dL_law_40 : decode cL_law 40 = .ok (.tableswitch 970 0 17 #[88, 161, 217, 273, 329, 385, 453, 509, 522, 578, 634, 647, 715, 807, 863, 876, 901, 914], 88) := by decide +kernel
theorem dL_law_128 : decode cL_law 128 = .ok (.aload_n 1, 1) := by decide +kernel
theorem dL_law_129 : decode cL_law 129 = .ok (.aload_n 0, 1) := by decide +kernel
theorem dL_law_130 : decode cL_law 130 = .ok (.iload 4, 2) := by decide +kernel
theorem dL_law_132 : decode cL_law 132 = .ok (.iconst 1, 1) := by decide +kernel
theorem dL_law_133 : decode cL_law 133 = .ok (.iadd, 1) := by decide +kernel
theorem dL_law_134 : decode cL_law 134 = .ok (.iaload, 1) := by decide +kernel
theorem dL_law_135 : decode cL_law 135 = .ok (.aload_n 0, 1) := by decide +kernel
theorem dL_law_136 : decode cL_law 136 = .ok (.iload 4, 2) := by decide +kernel
theorem dL_law_138 : decode cL_law 138 = .ok (.iconst 2, 1) := by decide +kernel
theorem dL_law_139 : decode cL_law 139 = .ok (.iadd, 1) := by decide +kernel
theorem dL_law_140 : decode cL_law 140 = .ok (.iaload, 1) := by decide +kernel
theorem dL_law_141 : decode cL_law 141 = .ok (.aload_n 0, 1) := by decide +kernel
theorem dL_law_142 : decode cL_law 142 = .ok (.iload 4, 2) := by decide +kernel
theorem dL_law_144 : decode cL_law 144 = .ok (.iconst 3, 1) := by decide +kernel
theorem dL_law_145 : decode cL_law 145 = .ok (.iadd, 1) := by decide +kernel
theorem dL_law_146 : decode cL_law 146 = .ok (.iaload, 1) := by decide +kernel
theorem dL_law_147 : decode cL_law 147 = .ok (.aload_n 0, 1) := by decide +kernel
theorem dL_law_148 : decode cL_law 148 = .ok (.iload 4, 2) := by decide +kernel
theorem dL_law_150 : decode cL_law 150 = .ok (.iconst 4, 1) := by decide +kernel
theorem dL_law_151 : decode cL_law 151 = .ok (.iadd, 1) := by decide +kernel
theorem dL_law_152 : decode cL_law 152 = .ok (.iaload, 1) := by decide +kernel
theorem dL_law_153 : decode cL_law 153 = .ok (.aload_n 0, 1) := by decide +kernel
theorem dL_law_154 : decode cL_law 154 = .ok (.iload 4, 2) := by decide +kernel
theorem dL_law_156 : decode cL_law 156 = .ok (.iconst 5, 1) := by decide +kernel
theorem dL_law_157 : decode cL_law 157 = .ok (.iadd, 1) := by decide +kernel
theorem dL_law_158 : decode cL_law 158 = .ok (.iaload, 1) := by decide +kernel
theorem dL_law_159 : decode cL_law 159 = .ok (.invokevirtual 56, 3) := by decide +kernel
theorem dL_law_162 : decode cL_law 162 = .ok (.aload_n 2, 1) := by decide +kernel
theorem dL_law_163 : decode cL_law 163 = .ok (.aload_n 0, 1) := by decide +kernel
theorem dL_law_164 : decode cL_law 164 = .ok (.iload 4, 2) := by decide +kernel
theorem dL_law_166 : decode cL_law 166 = .ok (.iconst 1, 1) := by decide +kernel
theorem dL_law_167 : decode cL_law 167 = .ok (.iadd, 1) := by decide +kernel
theorem dL_law_168 : decode cL_law 168 = .ok (.iaload, 1) := by decide +kernel
theorem dL_law_169 : decode cL_law 169 = .ok (.aload_n 0, 1) := by decide +kernel
theorem dL_law_170 : decode cL_law 170 = .ok (.iload 4, 2) := by decide +kernel
theorem dL_law_172 : decode cL_law 172 = .ok (.iconst 2, 1) := by decide +kernel
theorem dL_law_173 : decode cL_law 173 = .ok (.iadd, 1) := by decide +kernel
theorem dL_law_174 : decode cL_law 174 = .ok (.iaload, 1) := by decide +kernel
theorem dL_law_175 : decode cL_law 175 = .ok (.aload_n 0, 1) := by decide +kernel
theorem dL_law_176 : decode cL_law 176 = .ok (.iload 4, 2) := by decide +kernel
theorem dL_law_178 : decode cL_law 178 = .ok (.iconst 3, 1) := by decide +kernel
theorem dL_law_179 : decode cL_law 179 = .ok (.iadd, 1) := by decide +kernel
theorem dL_law_180 : decode cL_law 180 = .ok (.iaload, 1) := by decide +kernel
theorem dL_law_181 : decode cL_law 181 = .ok (.aload_n 0, 1) := by decide +kernel
theorem dL_law_182 : decode cL_law 182 = .ok (.iload 4, 2) := by decide +kernel
theorem dL_law_184 : decode cL_law 184 = .ok (.iconst 4, 1) := by decide +kernel
theorem dL_law_185 : decode cL_law 185 = .ok (.iadd, 1) := by decide +kernel
theorem dL_law_186 : decode cL_law 186 = .ok (.iaload, 1) := by decide +kernel
theorem dL_law_187 : decode cL_law 187 = .ok (.aload_n 0, 1) := by decide +kernel
theorem dL_law_188 : decode cL_law 188 = .ok (.iload 4, 2) := by decide +kernel
theorem dL_law_190 : decode cL_law 190 = .ok (.iconst 5, 1) := by decide +kernel
theorem dL_law_191 : decode cL_law 191 = .ok (.iadd, 1) := by decide +kernel
theorem dL_law_192 : decode cL_law 192 = .ok (.iaload, 1) := by decide +kernel
theorem dL_law_193 : decode cL_law 193 = .ok (.invokevirtual 60, 3) := by decide +kernel
theorem dL_law_196 : decode cL_law 196 = .ok (.if_icmp .eq 814, 3) := by decide +kernel
theorem dL_law_199 : decode cL_law 199 = .ok (.iconst 0, 1) := by decide +kernel
theorem dL_law_200 : decode cL_law 200 = .ok (.ireturn, 1) := by decide +kernel
theorem dL_law_201 : decode cL_law 201 = .ok (.aload_n 1, 1) := by decide +kernel
theorem dL_law_202 : decode cL_law 202 = .ok (.aload_n 0, 1) := by decide +kernel
theorem dL_law_203 : decode cL_law 203 = .ok (.iload 4, 2) := by decide +kernel
theorem dL_law_205 : decode cL_law 205 = .ok (.iconst 1, 1) := by decide +kernel
theorem dL_law_206 : decode cL_law 206 = .ok (.iadd, 1) := by decide +kernel
theorem dL_law_207 : decode cL_law 207 = .ok (.iaload, 1) := by decide +kernel
theorem dL_law_208 : decode cL_law 208 = .ok (.aload_n 3, 1) := by decide +kernel
theorem dL_law_209 : decode cL_law 209 = .ok (.invokestatic 61, 3) := by decide +kernel
theorem dL_law_212 : decode cL_law 212 = .ok (.istore 5, 2) := by decide +kernel
theorem dL_law_214 : decode cL_law 214 = .ok (.aload_n 2, 1) := by decide +kernel
theorem dL_law_215 : decode cL_law 215 = .ok (.aload_n 0, 1) := by decide +kernel
theorem dL_law_216 : decode cL_law 216 = .ok (.iload 4, 2) := by decide +kernel
theorem dL_law_218 : decode cL_law 218 = .ok (.iconst 1, 1) := by decide +kernel
theorem dL_law_219 : decode cL_law 219 = .ok (.iadd, 1) := by decide +kernel
theorem dL_law_220 : decode cL_law 220 = .ok (.iaload, 1) := by decide +kernel
theorem dL_law_221 : decode cL_law 221 = .ok (.invokevirtual 66, 3) := by decide +kernel
theorem dL_law_224 : decode cL_law 224 = .ok (.istore 6, 2) := by decide +kernel
theorem dL_law_226 : decode cL_law 226 = .ok (.aload_n 2, 1) := by decide +kernel
theorem dL_law_227 : decode cL_law 227 = .ok (.invokevirtual 67, 3) := by decide +kernel
theorem dL_law_230 : decode cL_law 230 = .ok (.iload 5, 2) := by decide +kernel
theorem dL_law_232 : decode cL_law 232 = .ok (.if_icmp .eq 5, 3) := by decide +kernel
theorem dL_law_235 : decode cL_law 235 = .ok (.iconst 0, 1) := by decide +kernel
theorem dL_law_236 : decode cL_law 236 = .ok (.ireturn, 1) := by decide +kernel
theorem dL_law_237 : decode cL_law 237 = .ok (.iload 5, 2) := by decide +kernel
theorem dL_law_239 : decode cL_law 239 = .ok (.ifCond .ne 15, 3) := by decide +kernel
theorem dL_law_242 : decode cL_law 242 = .ok (.aload_n 3, 1) := by decide +kernel
theorem dL_law_243 : decode cL_law 243 = .ok (.iconst 0, 1) := by decide +kernel
theorem dL_law_244 : decode cL_law 244 = .ok (.laload, 1) := by decide +kernel
theorem dL_law_245 : decode cL_law 245 = .ok (.iload 6, 2) := by decide +kernel
theorem dL_law_247 : decode cL_law 247 = .ok (.i2l, 1) := by decide +kernel
theorem dL_law_248 : decode cL_law 248 = .ok (.lcmp, 1) := by decide +kernel
theorem dL_law_249 : decode cL_law 249 = .ok (.ifCond .eq 5, 3) := by decide +kernel
theorem dL_law_252 : decode cL_law 252 = .ok (.iconst 0, 1) := by decide +kernel
theorem dL_law_253 : decode cL_law 253 = .ok (.ireturn, 1) := by decide +kernel
theorem dL_law_254 : decode cL_law 254 = .ok (.goto 756, 3) := by decide +kernel
theorem dL_law_257 : decode cL_law 257 = .ok (.aload_n 1, 1) := by decide +kernel
theorem dL_law_258 : decode cL_law 258 = .ok (.aload_n 0, 1) := by decide +kernel
theorem dL_law_259 : decode cL_law 259 = .ok (.iload 4, 2) := by decide +kernel
theorem dL_law_261 : decode cL_law 261 = .ok (.iconst 1, 1) := by decide +kernel
theorem dL_law_262 : decode cL_law 262 = .ok (.iadd, 1) := by decide +kernel
theorem dL_law_263 : decode cL_law 263 = .ok (.iaload, 1) := by decide +kernel
theorem dL_law_264 : decode cL_law 264 = .ok (.aload_n 3, 1) := by decide +kernel
theorem dL_law_265 : decode cL_law 265 = .ok (.invokestatic 71, 3) := by decide +kernel
theorem dL_law_268 : decode cL_law 268 = .ok (.istore 5, 2) := by decide +kernel
theorem dL_law_270 : decode cL_law 270 = .ok (.aload_n 2, 1) := by decide +kernel
theorem dL_law_271 : decode cL_law 271 = .ok (.aload_n 0, 1) := by decide +kernel
theorem dL_law_272 : decode cL_law 272 = .ok (.iload 4, 2) := by decide +kernel
theorem dL_law_274 : decode cL_law 274 = .ok (.iconst 1, 1) := by decide +kernel
theorem dL_law_275 : decode cL_law 275 = .ok (.iadd, 1) := by decide +kernel
theorem dL_law_276 : decode cL_law 276 = .ok (.iaload, 1) := by decide +kernel
theorem dL_law_277 : decode cL_law 277 = .ok (.invokevirtual 73, 3) := by decide +kernel
theorem dL_law_280 : decode cL_law 280 = .ok (.istore 6, 2) := by decide +kernel
theorem dL_law_282 : decode cL_law 282 = .ok (.aload_n 2, 1) := by decide +kernel
theorem dL_law_283 : decode cL_law 283 = .ok (.invokevirtual 67, 3) := by decide +kernel
theorem dL_law_286 : decode cL_law 286 = .ok (.iload 5, 2) := by decide +kernel
theorem dL_law_288 : decode cL_law 288 = .ok (.if_icmp .eq 5, 3) := by decide +kernel
theorem dL_law_291 : decode cL_law 291 = .ok (.iconst 0, 1) := by decide +kernel
theorem dL_law_292 : decode cL_law 292 = .ok (.ireturn, 1) := by decide +kernel
theorem dL_law_293 : decode cL_law 293 = .ok (.iload 5, 2) := by decide +kernel
theorem dL_law_295 : decode cL_law 295 = .ok (.ifCond .ne 15, 3) := by decide +kernel
theorem dL_law_298 : decode cL_law 298 = .ok (.aload_n 3, 1) := by decide +kernel
theorem dL_law_299 : decode cL_law 299 = .ok (.iconst 0, 1) := by decide +kernel
theorem dL_law_300 : decode cL_law 300 = .ok (.laload, 1) := by decide +kernel
theorem dL_law_301 : decode cL_law 301 = .ok (.iload 6, 2) := by decide +kernel
theorem dL_law_303 : decode cL_law 303 = .ok (.i2l, 1) := by decide +kernel
theorem dL_law_304 : decode cL_law 304 = .ok (.lcmp, 1) := by decide +kernel
theorem dL_law_305 : decode cL_law 305 = .ok (.ifCond .eq 5, 3) := by decide +kernel
theorem dL_law_308 : decode cL_law 308 = .ok (.iconst 0, 1) := by decide +kernel
theorem dL_law_309 : decode cL_law 309 = .ok (.ireturn, 1) := by decide +kernel
theorem dL_law_310 : decode cL_law 310 = .ok (.goto 700, 3) := by decide +kernel
theorem dL_law_313 : decode cL_law 313 = .ok (.aload_n 1, 1) := by decide +kernel
theorem dL_law_314 : decode cL_law 314 = .ok (.aload_n 0, 1) := by decide +kernel
theorem dL_law_315 : decode cL_law 315 = .ok (.iload 4, 2) := by decide +kernel
theorem dL_law_317 : decode cL_law 317 = .ok (.iconst 1, 1) := by decide +kernel
theorem dL_law_318 : decode cL_law 318 = .ok (.iadd, 1) := by decide +kernel
theorem dL_law_319 : decode cL_law 319 = .ok (.iaload, 1) := by decide +kernel
theorem dL_law_320 : decode cL_law 320 = .ok (.aload_n 3, 1) := by decide +kernel
theorem dL_law_321 : decode cL_law 321 = .ok (.invokestatic 74, 3) := by decide +kernel
theorem dL_law_324 : decode cL_law 324 = .ok (.istore 5, 2) := by decide +kernel
theorem dL_law_326 : decode cL_law 326 = .ok (.aload_n 2, 1) := by decide +kernel
theorem dL_law_327 : decode cL_law 327 = .ok (.aload_n 0, 1) := by decide +kernel
theorem dL_law_328 : decode cL_law 328 = .ok (.iload 4, 2) := by decide +kernel
theorem dL_law_330 : decode cL_law 330 = .ok (.iconst 1, 1) := by decide +kernel
theorem dL_law_331 : decode cL_law 331 = .ok (.iadd, 1) := by decide +kernel
theorem dL_law_332 : decode cL_law 332 = .ok (.iaload, 1) := by decide +kernel
theorem dL_law_333 : decode cL_law 333 = .ok (.invokevirtual 76, 3) := by decide +kernel
theorem dL_law_336 : decode cL_law 336 = .ok (.istore 6, 2) := by decide +kernel
theorem dL_law_338 : decode cL_law 338 = .ok (.aload_n 2, 1) := by decide +kernel
theorem dL_law_339 : decode cL_law 339 = .ok (.invokevirtual 67, 3) := by decide +kernel
theorem dL_law_342 : decode cL_law 342 = .ok (.iload 5, 2) := by decide +kernel
theorem dL_law_344 : decode cL_law 344 = .ok (.if_icmp .eq 5, 3) := by decide +kernel
theorem dL_law_347 : decode cL_law 347 = .ok (.iconst 0, 1) := by decide +kernel
theorem dL_law_348 : decode cL_law 348 = .ok (.ireturn, 1) := by decide +kernel
theorem dL_law_349 : decode cL_law 349 = .ok (.iload 5, 2) := by decide +kernel
theorem dL_law_351 : decode cL_law 351 = .ok (.ifCond .ne 15, 3) := by decide +kernel
theorem dL_law_354 : decode cL_law 354 = .ok (.aload_n 3, 1) := by decide +kernel
theorem dL_law_355 : decode cL_law 355 = .ok (.iconst 0, 1) := by decide +kernel
theorem dL_law_356 : decode cL_law 356 = .ok (.laload, 1) := by decide +kernel
theorem dL_law_357 : decode cL_law 357 = .ok (.iload 6, 2) := by decide +kernel
theorem dL_law_359 : decode cL_law 359 = .ok (.i2l, 1) := by decide +kernel
theorem dL_law_360 : decode cL_law 360 = .ok (.lcmp, 1) := by decide +kernel
theorem dL_law_361 : decode cL_law 361 = .ok (.ifCond .eq 5, 3) := by decide +kernel
theorem dL_law_364 : decode cL_law 364 = .ok (.iconst 0, 1) := by decide +kernel
theorem dL_law_365 : decode cL_law 365 = .ok (.ireturn, 1) := by decide +kernel
theorem dL_law_366 : decode cL_law 366 = .ok (.goto 644, 3) := by decide +kernel
theorem dL_law_369 : decode cL_law 369 = .ok (.aload_n 1, 1) := by decide +kernel
theorem dL_law_370 : decode cL_law 370 = .ok (.aload_n 0, 1) := by decide +kernel
theorem dL_law_371 : decode cL_law 371 = .ok (.iload 4, 2) := by decide +kernel
theorem dL_law_373 : decode cL_law 373 = .ok (.iconst 1, 1) := by decide +kernel
theorem dL_law_374 : decode cL_law 374 = .ok (.iadd, 1) := by decide +kernel
theorem dL_law_375 : decode cL_law 375 = .ok (.iaload, 1) := by decide +kernel
theorem dL_law_376 : decode cL_law 376 = .ok (.aload_n 3, 1) := by decide +kernel
theorem dL_law_377 : decode cL_law 377 = .ok (.invokestatic 77, 3) := by decide +kernel
theorem dL_law_380 : decode cL_law 380 = .ok (.istore 5, 2) := by decide +kernel
theorem dL_law_382 : decode cL_law 382 = .ok (.aload_n 2, 1) := by decide +kernel
theorem dL_law_383 : decode cL_law 383 = .ok (.aload_n 0, 1) := by decide +kernel
theorem dL_law_384 : decode cL_law 384 = .ok (.iload 4, 2) := by decide +kernel
theorem dL_law_386 : decode cL_law 386 = .ok (.iconst 1, 1) := by decide +kernel
theorem dL_law_387 : decode cL_law 387 = .ok (.iadd, 1) := by decide +kernel
theorem dL_law_388 : decode cL_law 388 = .ok (.iaload, 1) := by decide +kernel
theorem dL_law_389 : decode cL_law 389 = .ok (.invokevirtual 79, 3) := by decide +kernel
theorem dL_law_392 : decode cL_law 392 = .ok (.istore 6, 2) := by decide +kernel
theorem dL_law_394 : decode cL_law 394 = .ok (.aload_n 2, 1) := by decide +kernel
theorem dL_law_395 : decode cL_law 395 = .ok (.invokevirtual 67, 3) := by decide +kernel
theorem dL_law_398 : decode cL_law 398 = .ok (.iload 5, 2) := by decide +kernel
theorem dL_law_400 : decode cL_law 400 = .ok (.if_icmp .eq 5, 3) := by decide +kernel
theorem dL_law_403 : decode cL_law 403 = .ok (.iconst 0, 1) := by decide +kernel
theorem dL_law_404 : decode cL_law 404 = .ok (.ireturn, 1) := by decide +kernel
theorem dL_law_405 : decode cL_law 405 = .ok (.iload 5, 2) := by decide +kernel
theorem dL_law_407 : decode cL_law 407 = .ok (.ifCond .ne 15, 3) := by decide +kernel
theorem dL_law_410 : decode cL_law 410 = .ok (.aload_n 3, 1) := by decide +kernel
theorem dL_law_411 : decode cL_law 411 = .ok (.iconst 0, 1) := by decide +kernel
theorem dL_law_412 : decode cL_law 412 = .ok (.laload, 1) := by decide +kernel
theorem dL_law_413 : decode cL_law 413 = .ok (.iload 6, 2) := by decide +kernel
theorem dL_law_415 : decode cL_law 415 = .ok (.i2l, 1) := by decide +kernel
theorem dL_law_416 : decode cL_law 416 = .ok (.lcmp, 1) := by decide +kernel
theorem dL_law_417 : decode cL_law 417 = .ok (.ifCond .eq 5, 3) := by decide +kernel
theorem dL_law_420 : decode cL_law 420 = .ok (.iconst 0, 1) := by decide +kernel
theorem dL_law_421 : decode cL_law 421 = .ok (.ireturn, 1) := by decide +kernel
theorem dL_law_422 : decode cL_law 422 = .ok (.goto 588, 3) := by decide +kernel
theorem dL_law_425 : decode cL_law 425 = .ok (.aload_n 1, 1) := by decide +kernel
theorem dL_law_426 : decode cL_law 426 = .ok (.aload_n 0, 1) := by decide +kernel
theorem dL_law_427 : decode cL_law 427 = .ok (.iload 4, 2) := by decide +kernel
theorem dL_law_429 : decode cL_law 429 = .ok (.iconst 1, 1) := by decide +kernel
theorem dL_law_430 : decode cL_law 430 = .ok (.iadd, 1) := by decide +kernel
theorem dL_law_431 : decode cL_law 431 = .ok (.iaload, 1) := by decide +kernel
theorem dL_law_432 : decode cL_law 432 = .ok (.aload_n 0, 1) := by decide +kernel
theorem dL_law_433 : decode cL_law 433 = .ok (.iload 4, 2) := by decide +kernel
theorem dL_law_435 : decode cL_law 435 = .ok (.iconst 2, 1) := by decide +kernel
theorem dL_law_436 : decode cL_law 436 = .ok (.iadd, 1) := by decide +kernel
theorem dL_law_437 : decode cL_law 437 = .ok (.iaload, 1) := by decide +kernel
theorem dL_law_438 : decode cL_law 438 = .ok (.aload_n 3, 1) := by decide +kernel
theorem dL_law_439 : decode cL_law 439 = .ok (.invokestatic 80, 3) := by decide +kernel
theorem dL_law_442 : decode cL_law 442 = .ok (.istore 5, 2) := by decide +kernel
theorem dL_law_444 : decode cL_law 444 = .ok (.aload_n 2, 1) := by decide +kernel
theorem dL_law_445 : decode cL_law 445 = .ok (.aload_n 0, 1) := by decide +kernel
theorem dL_law_446 : decode cL_law 446 = .ok (.iload 4, 2) := by decide +kernel
theorem dL_law_448 : decode cL_law 448 = .ok (.iconst 1, 1) := by decide +kernel
theorem dL_law_449 : decode cL_law 449 = .ok (.iadd, 1) := by decide +kernel
theorem dL_law_450 : decode cL_law 450 = .ok (.iaload, 1) := by decide +kernel
theorem dL_law_451 : decode cL_law 451 = .ok (.aload_n 0, 1) := by decide +kernel
theorem dL_law_452 : decode cL_law 452 = .ok (.iload 4, 2) := by decide +kernel
theorem dL_law_454 : decode cL_law 454 = .ok (.iconst 2, 1) := by decide +kernel
theorem dL_law_455 : decode cL_law 455 = .ok (.iadd, 1) := by decide +kernel
theorem dL_law_456 : decode cL_law 456 = .ok (.iaload, 1) := by decide +kernel
theorem dL_law_457 : decode cL_law 457 = .ok (.invokevirtual 83, 3) := by decide +kernel
theorem dL_law_460 : decode cL_law 460 = .ok (.istore 6, 2) := by decide +kernel
theorem dL_law_462 : decode cL_law 462 = .ok (.aload_n 2, 1) := by decide +kernel
theorem dL_law_463 : decode cL_law 463 = .ok (.invokevirtual 67, 3) := by decide +kernel
theorem dL_law_466 : decode cL_law 466 = .ok (.iload 5, 2) := by decide +kernel
theorem dL_law_468 : decode cL_law 468 = .ok (.if_icmp .eq 5, 3) := by decide +kernel
theorem dL_law_471 : decode cL_law 471 = .ok (.iconst 0, 1) := by decide +kernel
theorem dL_law_472 : decode cL_law 472 = .ok (.ireturn, 1) := by decide +kernel
theorem dL_law_473 : decode cL_law 473 = .ok (.iload 5, 2) := by decide +kernel
theorem dL_law_475 : decode cL_law 475 = .ok (.ifCond .ne 15, 3) := by decide +kernel
theorem dL_law_478 : decode cL_law 478 = .ok (.aload_n 3, 1) := by decide +kernel
theorem dL_law_479 : decode cL_law 479 = .ok (.iconst 0, 1) := by decide +kernel
theorem dL_law_480 : decode cL_law 480 = .ok (.laload, 1) := by decide +kernel
theorem dL_law_481 : decode cL_law 481 = .ok (.iload 6, 2) := by decide +kernel
theorem dL_law_483 : decode cL_law 483 = .ok (.i2l, 1) := by decide +kernel
theorem dL_law_484 : decode cL_law 484 = .ok (.lcmp, 1) := by decide +kernel
theorem dL_law_485 : decode cL_law 485 = .ok (.ifCond .eq 5, 3) := by decide +kernel
theorem dL_law_488 : decode cL_law 488 = .ok (.iconst 0, 1) := by decide +kernel
theorem dL_law_489 : decode cL_law 489 = .ok (.ireturn, 1) := by decide +kernel
theorem dL_law_490 : decode cL_law 490 = .ok (.goto 520, 3) := by decide +kernel
theorem dL_law_493 : decode cL_law 493 = .ok (.aload_n 1, 1) := by decide +kernel
theorem dL_law_494 : decode cL_law 494 = .ok (.aload_n 0, 1) := by decide +kernel
theorem dL_law_495 : decode cL_law 495 = .ok (.iload 4, 2) := by decide +kernel
theorem dL_law_497 : decode cL_law 497 = .ok (.iconst 1, 1) := by decide +kernel
theorem dL_law_498 : decode cL_law 498 = .ok (.iadd, 1) := by decide +kernel
theorem dL_law_499 : decode cL_law 499 = .ok (.iaload, 1) := by decide +kernel
theorem dL_law_500 : decode cL_law 500 = .ok (.aload_n 3, 1) := by decide +kernel
theorem dL_law_501 : decode cL_law 501 = .ok (.invokestatic 84, 3) := by decide +kernel
theorem dL_law_504 : decode cL_law 504 = .ok (.istore 5, 2) := by decide +kernel
theorem dL_law_506 : decode cL_law 506 = .ok (.aload_n 2, 1) := by decide +kernel
theorem dL_law_507 : decode cL_law 507 = .ok (.aload_n 0, 1) := by decide +kernel
theorem dL_law_508 : decode cL_law 508 = .ok (.iload 4, 2) := by decide +kernel
theorem dL_law_510 : decode cL_law 510 = .ok (.iconst 1, 1) := by decide +kernel
theorem dL_law_511 : decode cL_law 511 = .ok (.iadd, 1) := by decide +kernel
theorem dL_law_512 : decode cL_law 512 = .ok (.iaload, 1) := by decide +kernel
theorem dL_law_513 : decode cL_law 513 = .ok (.invokevirtual 86, 3) := by decide +kernel
theorem dL_law_516 : decode cL_law 516 = .ok (.istore 6, 2) := by decide +kernel
theorem dL_law_518 : decode cL_law 518 = .ok (.aload_n 2, 1) := by decide +kernel
theorem dL_law_519 : decode cL_law 519 = .ok (.invokevirtual 67, 3) := by decide +kernel
theorem dL_law_522 : decode cL_law 522 = .ok (.iload 5, 2) := by decide +kernel
theorem dL_law_524 : decode cL_law 524 = .ok (.if_icmp .eq 5, 3) := by decide +kernel
theorem dL_law_527 : decode cL_law 527 = .ok (.iconst 0, 1) := by decide +kernel
theorem dL_law_528 : decode cL_law 528 = .ok (.ireturn, 1) := by decide +kernel
theorem dL_law_529 : decode cL_law 529 = .ok (.iload 5, 2) := by decide +kernel
theorem dL_law_531 : decode cL_law 531 = .ok (.ifCond .ne 15, 3) := by decide +kernel
theorem dL_law_534 : decode cL_law 534 = .ok (.aload_n 3, 1) := by decide +kernel
theorem dL_law_535 : decode cL_law 535 = .ok (.iconst 0, 1) := by decide +kernel
theorem dL_law_536 : decode cL_law 536 = .ok (.laload, 1) := by decide +kernel
theorem dL_law_537 : decode cL_law 537 = .ok (.iload 6, 2) := by decide +kernel
theorem dL_law_539 : decode cL_law 539 = .ok (.i2l, 1) := by decide +kernel
theorem dL_law_540 : decode cL_law 540 = .ok (.lcmp, 1) := by decide +kernel
theorem dL_law_541 : decode cL_law 541 = .ok (.ifCond .eq 5, 3) := by decide +kernel
theorem dL_law_544 : decode cL_law 544 = .ok (.iconst 0, 1) := by decide +kernel
theorem dL_law_545 : decode cL_law 545 = .ok (.ireturn, 1) := by decide +kernel
theorem dL_law_546 : decode cL_law 546 = .ok (.goto 464, 3) := by decide +kernel
theorem dL_law_549 : decode cL_law 549 = .ok (.aload_n 1, 1) := by decide +kernel
theorem dL_law_550 : decode cL_law 550 = .ok (.invokevirtual 87, 3) := by decide +kernel
theorem dL_law_553 : decode cL_law 553 = .ok (.aload_n 2, 1) := by decide +kernel
theorem dL_law_554 : decode cL_law 554 = .ok (.invokevirtual 90, 3) := by decide +kernel
theorem dL_law_557 : decode cL_law 557 = .ok (.if_icmp .eq 453, 3) := by decide +kernel
theorem dL_law_560 : decode cL_law 560 = .ok (.iconst 0, 1) := by decide +kernel
theorem dL_law_561 : decode cL_law 561 = .ok (.ireturn, 1) := by decide +kernel
theorem dL_law_562 : decode cL_law 562 = .ok (.aload_n 1, 1) := by decide +kernel
theorem dL_law_563 : decode cL_law 563 = .ok (.aload_n 0, 1) := by decide +kernel
theorem dL_law_564 : decode cL_law 564 = .ok (.iload 4, 2) := by decide +kernel
theorem dL_law_566 : decode cL_law 566 = .ok (.iconst 1, 1) := by decide +kernel
theorem dL_law_567 : decode cL_law 567 = .ok (.iadd, 1) := by decide +kernel
theorem dL_law_568 : decode cL_law 568 = .ok (.iaload, 1) := by decide +kernel
theorem dL_law_569 : decode cL_law 569 = .ok (.aload_n 3, 1) := by decide +kernel
theorem dL_law_570 : decode cL_law 570 = .ok (.invokestatic 91, 3) := by decide +kernel
theorem dL_law_573 : decode cL_law 573 = .ok (.istore 5, 2) := by decide +kernel
theorem dL_law_575 : decode cL_law 575 = .ok (.aload_n 2, 1) := by decide +kernel
theorem dL_law_576 : decode cL_law 576 = .ok (.aload_n 0, 1) := by decide +kernel
theorem dL_law_577 : decode cL_law 577 = .ok (.iload 4, 2) := by decide +kernel
theorem dL_law_579 : decode cL_law 579 = .ok (.iconst 1, 1) := by decide +kernel
theorem dL_law_580 : decode cL_law 580 = .ok (.iadd, 1) := by decide +kernel
theorem dL_law_581 : decode cL_law 581 = .ok (.iaload, 1) := by decide +kernel
theorem dL_law_582 : decode cL_law 582 = .ok (.invokevirtual 93, 3) := by decide +kernel
theorem dL_law_585 : decode cL_law 585 = .ok (.istore 6, 2) := by decide +kernel
theorem dL_law_587 : decode cL_law 587 = .ok (.aload_n 2, 1) := by decide +kernel
theorem dL_law_588 : decode cL_law 588 = .ok (.invokevirtual 67, 3) := by decide +kernel
theorem dL_law_591 : decode cL_law 591 = .ok (.iload 5, 2) := by decide +kernel
theorem dL_law_593 : decode cL_law 593 = .ok (.if_icmp .eq 5, 3) := by decide +kernel
theorem dL_law_596 : decode cL_law 596 = .ok (.iconst 0, 1) := by decide +kernel
theorem dL_law_597 : decode cL_law 597 = .ok (.ireturn, 1) := by decide +kernel
theorem dL_law_598 : decode cL_law 598 = .ok (.iload 5, 2) := by decide +kernel
theorem dL_law_600 : decode cL_law 600 = .ok (.ifCond .ne 15, 3) := by decide +kernel
theorem dL_law_603 : decode cL_law 603 = .ok (.aload_n 3, 1) := by decide +kernel
theorem dL_law_604 : decode cL_law 604 = .ok (.iconst 0, 1) := by decide +kernel
theorem dL_law_605 : decode cL_law 605 = .ok (.laload, 1) := by decide +kernel
theorem dL_law_606 : decode cL_law 606 = .ok (.iload 6, 2) := by decide +kernel
theorem dL_law_608 : decode cL_law 608 = .ok (.i2l, 1) := by decide +kernel
theorem dL_law_609 : decode cL_law 609 = .ok (.lcmp, 1) := by decide +kernel
theorem dL_law_610 : decode cL_law 610 = .ok (.ifCond .eq 5, 3) := by decide +kernel
theorem dL_law_613 : decode cL_law 613 = .ok (.iconst 0, 1) := by decide +kernel
theorem dL_law_614 : decode cL_law 614 = .ok (.ireturn, 1) := by decide +kernel
theorem dL_law_615 : decode cL_law 615 = .ok (.goto 395, 3) := by decide +kernel
theorem dL_law_618 : decode cL_law 618 = .ok (.aload_n 1, 1) := by decide +kernel
theorem dL_law_619 : decode cL_law 619 = .ok (.aload_n 0, 1) := by decide +kernel
theorem dL_law_620 : decode cL_law 620 = .ok (.iload 4, 2) := by decide +kernel
theorem dL_law_622 : decode cL_law 622 = .ok (.iconst 1, 1) := by decide +kernel
theorem dL_law_623 : decode cL_law 623 = .ok (.iadd, 1) := by decide +kernel
theorem dL_law_624 : decode cL_law 624 = .ok (.iaload, 1) := by decide +kernel
theorem dL_law_625 : decode cL_law 625 = .ok (.aload_n 3, 1) := by decide +kernel
theorem dL_law_626 : decode cL_law 626 = .ok (.invokestatic 94, 3) := by decide +kernel
theorem dL_law_629 : decode cL_law 629 = .ok (.istore 5, 2) := by decide +kernel
theorem dL_law_631 : decode cL_law 631 = .ok (.aload_n 2, 1) := by decide +kernel
theorem dL_law_632 : decode cL_law 632 = .ok (.aload_n 0, 1) := by decide +kernel
theorem dL_law_633 : decode cL_law 633 = .ok (.iload 4, 2) := by decide +kernel
theorem dL_law_635 : decode cL_law 635 = .ok (.iconst 1, 1) := by decide +kernel
theorem dL_law_636 : decode cL_law 636 = .ok (.iadd, 1) := by decide +kernel
theorem dL_law_637 : decode cL_law 637 = .ok (.iaload, 1) := by decide +kernel
theorem dL_law_638 : decode cL_law 638 = .ok (.invokevirtual 96, 3) := by decide +kernel
theorem dL_law_641 : decode cL_law 641 = .ok (.istore 6, 2) := by decide +kernel
theorem dL_law_643 : decode cL_law 643 = .ok (.aload_n 2, 1) := by decide +kernel
theorem dL_law_644 : decode cL_law 644 = .ok (.invokevirtual 67, 3) := by decide +kernel
theorem dL_law_647 : decode cL_law 647 = .ok (.iload 5, 2) := by decide +kernel
theorem dL_law_649 : decode cL_law 649 = .ok (.if_icmp .eq 5, 3) := by decide +kernel
theorem dL_law_652 : decode cL_law 652 = .ok (.iconst 0, 1) := by decide +kernel
theorem dL_law_653 : decode cL_law 653 = .ok (.ireturn, 1) := by decide +kernel
theorem dL_law_654 : decode cL_law 654 = .ok (.iload 5, 2) := by decide +kernel
theorem dL_law_656 : decode cL_law 656 = .ok (.ifCond .ne 15, 3) := by decide +kernel
theorem dL_law_659 : decode cL_law 659 = .ok (.aload_n 3, 1) := by decide +kernel
theorem dL_law_660 : decode cL_law 660 = .ok (.iconst 0, 1) := by decide +kernel
theorem dL_law_661 : decode cL_law 661 = .ok (.laload, 1) := by decide +kernel
theorem dL_law_662 : decode cL_law 662 = .ok (.iload 6, 2) := by decide +kernel
theorem dL_law_664 : decode cL_law 664 = .ok (.i2l, 1) := by decide +kernel
theorem dL_law_665 : decode cL_law 665 = .ok (.lcmp, 1) := by decide +kernel
theorem dL_law_666 : decode cL_law 666 = .ok (.ifCond .eq 5, 3) := by decide +kernel
theorem dL_law_669 : decode cL_law 669 = .ok (.iconst 0, 1) := by decide +kernel
theorem dL_law_670 : decode cL_law 670 = .ok (.ireturn, 1) := by decide +kernel
theorem dL_law_671 : decode cL_law 671 = .ok (.goto 339, 3) := by decide +kernel
theorem dL_law_674 : decode cL_law 674 = .ok (.aload_n 1, 1) := by decide +kernel
theorem dL_law_675 : decode cL_law 675 = .ok (.invokevirtual 97, 3) := by decide +kernel
theorem dL_law_678 : decode cL_law 678 = .ok (.aload_n 2, 1) := by decide +kernel
theorem dL_law_679 : decode cL_law 679 = .ok (.invokevirtual 100, 3) := by decide +kernel
theorem dL_law_682 : decode cL_law 682 = .ok (.if_icmp .eq 328, 3) := by decide +kernel
theorem dL_law_685 : decode cL_law 685 = .ok (.iconst 0, 1) := by decide +kernel
theorem dL_law_686 : decode cL_law 686 = .ok (.ireturn, 1) := by decide +kernel
theorem dL_law_687 : decode cL_law 687 = .ok (.aload_n 1, 1) := by decide +kernel
theorem dL_law_688 : decode cL_law 688 = .ok (.aload_n 0, 1) := by decide +kernel
theorem dL_law_689 : decode cL_law 689 = .ok (.iload 4, 2) := by decide +kernel
theorem dL_law_691 : decode cL_law 691 = .ok (.iconst 1, 1) := by decide +kernel
theorem dL_law_692 : decode cL_law 692 = .ok (.iadd, 1) := by decide +kernel
theorem dL_law_693 : decode cL_law 693 = .ok (.iaload, 1) := by decide +kernel
theorem dL_law_694 : decode cL_law 694 = .ok (.aload_n 0, 1) := by decide +kernel
theorem dL_law_695 : decode cL_law 695 = .ok (.iload 4, 2) := by decide +kernel
theorem dL_law_697 : decode cL_law 697 = .ok (.iconst 2, 1) := by decide +kernel
theorem dL_law_698 : decode cL_law 698 = .ok (.iadd, 1) := by decide +kernel
theorem dL_law_699 : decode cL_law 699 = .ok (.iaload, 1) := by decide +kernel
theorem dL_law_700 : decode cL_law 700 = .ok (.aload_n 3, 1) := by decide +kernel
theorem dL_law_701 : decode cL_law 701 = .ok (.invokestatic 101, 3) := by decide +kernel
theorem dL_law_704 : decode cL_law 704 = .ok (.istore 5, 2) := by decide +kernel
theorem dL_law_706 : decode cL_law 706 = .ok (.aload_n 2, 1) := by decide +kernel
theorem dL_law_707 : decode cL_law 707 = .ok (.aload_n 0, 1) := by decide +kernel
theorem dL_law_708 : decode cL_law 708 = .ok (.iload 4, 2) := by decide +kernel
theorem dL_law_710 : decode cL_law 710 = .ok (.iconst 1, 1) := by decide +kernel
theorem dL_law_711 : decode cL_law 711 = .ok (.iadd, 1) := by decide +kernel
theorem dL_law_712 : decode cL_law 712 = .ok (.iaload, 1) := by decide +kernel
theorem dL_law_713 : decode cL_law 713 = .ok (.aload_n 0, 1) := by decide +kernel
theorem dL_law_714 : decode cL_law 714 = .ok (.iload 4, 2) := by decide +kernel
theorem dL_law_716 : decode cL_law 716 = .ok (.iconst 2, 1) := by decide +kernel
theorem dL_law_717 : decode cL_law 717 = .ok (.iadd, 1) := by decide +kernel
theorem dL_law_718 : decode cL_law 718 = .ok (.iaload, 1) := by decide +kernel
theorem dL_law_719 : decode cL_law 719 = .ok (.invokevirtual 103, 3) := by decide +kernel
theorem dL_law_722 : decode cL_law 722 = .ok (.istore 6, 2) := by decide +kernel
theorem dL_law_724 : decode cL_law 724 = .ok (.aload_n 2, 1) := by decide +kernel
theorem dL_law_725 : decode cL_law 725 = .ok (.invokevirtual 67, 3) := by decide +kernel
theorem dL_law_728 : decode cL_law 728 = .ok (.iload 5, 2) := by decide +kernel
theorem dL_law_730 : decode cL_law 730 = .ok (.if_icmp .eq 5, 3) := by decide +kernel
theorem dL_law_733 : decode cL_law 733 = .ok (.iconst 0, 1) := by decide +kernel
theorem dL_law_734 : decode cL_law 734 = .ok (.ireturn, 1) := by decide +kernel
theorem dL_law_735 : decode cL_law 735 = .ok (.iload 5, 2) := by decide +kernel
theorem dL_law_737 : decode cL_law 737 = .ok (.ifCond .ne 15, 3) := by decide +kernel
theorem dL_law_740 : decode cL_law 740 = .ok (.aload_n 3, 1) := by decide +kernel
theorem dL_law_741 : decode cL_law 741 = .ok (.iconst 0, 1) := by decide +kernel
theorem dL_law_742 : decode cL_law 742 = .ok (.laload, 1) := by decide +kernel
theorem dL_law_743 : decode cL_law 743 = .ok (.iload 6, 2) := by decide +kernel
theorem dL_law_745 : decode cL_law 745 = .ok (.i2l, 1) := by decide +kernel
theorem dL_law_746 : decode cL_law 746 = .ok (.lcmp, 1) := by decide +kernel
theorem dL_law_747 : decode cL_law 747 = .ok (.ifCond .eq 5, 3) := by decide +kernel
theorem dL_law_750 : decode cL_law 750 = .ok (.iconst 0, 1) := by decide +kernel
theorem dL_law_751 : decode cL_law 751 = .ok (.ireturn, 1) := by decide +kernel
theorem dL_law_752 : decode cL_law 752 = .ok (.goto 258, 3) := by decide +kernel
theorem dL_law_755 : decode cL_law 755 = .ok (.aload_n 1, 1) := by decide +kernel
theorem dL_law_756 : decode cL_law 756 = .ok (.aload_n 0, 1) := by decide +kernel
theorem dL_law_757 : decode cL_law 757 = .ok (.iload 4, 2) := by decide +kernel
theorem dL_law_759 : decode cL_law 759 = .ok (.iconst 1, 1) := by decide +kernel
theorem dL_law_760 : decode cL_law 760 = .ok (.iadd, 1) := by decide +kernel
theorem dL_law_761 : decode cL_law 761 = .ok (.iaload, 1) := by decide +kernel
theorem dL_law_762 : decode cL_law 762 = .ok (.aload_n 0, 1) := by decide +kernel
theorem dL_law_763 : decode cL_law 763 = .ok (.iload 4, 2) := by decide +kernel
theorem dL_law_765 : decode cL_law 765 = .ok (.iconst 2, 1) := by decide +kernel
theorem dL_law_766 : decode cL_law 766 = .ok (.iadd, 1) := by decide +kernel
theorem dL_law_767 : decode cL_law 767 = .ok (.iaload, 1) := by decide +kernel
theorem dL_law_768 : decode cL_law 768 = .ok (.aload_n 0, 1) := by decide +kernel
theorem dL_law_769 : decode cL_law 769 = .ok (.iload 4, 2) := by decide +kernel
theorem dL_law_771 : decode cL_law 771 = .ok (.iconst 3, 1) := by decide +kernel
theorem dL_law_772 : decode cL_law 772 = .ok (.iadd, 1) := by decide +kernel
theorem dL_law_773 : decode cL_law 773 = .ok (.iaload, 1) := by decide +kernel
theorem dL_law_774 : decode cL_law 774 = .ok (.aload_n 0, 1) := by decide +kernel
theorem dL_law_775 : decode cL_law 775 = .ok (.iload 4, 2) := by decide +kernel
theorem dL_law_777 : decode cL_law 777 = .ok (.iconst 4, 1) := by decide +kernel
theorem dL_law_778 : decode cL_law 778 = .ok (.iadd, 1) := by decide +kernel
theorem dL_law_779 : decode cL_law 779 = .ok (.iaload, 1) := by decide +kernel
theorem dL_law_780 : decode cL_law 780 = .ok (.aload_n 3, 1) := by decide +kernel
theorem dL_law_781 : decode cL_law 781 = .ok (.invokestatic 104, 3) := by decide +kernel
theorem dL_law_784 : decode cL_law 784 = .ok (.istore 5, 2) := by decide +kernel
theorem dL_law_786 : decode cL_law 786 = .ok (.aload_n 2, 1) := by decide +kernel
theorem dL_law_787 : decode cL_law 787 = .ok (.aload_n 0, 1) := by decide +kernel
theorem dL_law_788 : decode cL_law 788 = .ok (.iload 4, 2) := by decide +kernel
theorem dL_law_790 : decode cL_law 790 = .ok (.iconst 1, 1) := by decide +kernel
theorem dL_law_791 : decode cL_law 791 = .ok (.iadd, 1) := by decide +kernel
theorem dL_law_792 : decode cL_law 792 = .ok (.iaload, 1) := by decide +kernel
theorem dL_law_793 : decode cL_law 793 = .ok (.aload_n 0, 1) := by decide +kernel
theorem dL_law_794 : decode cL_law 794 = .ok (.iload 4, 2) := by decide +kernel
theorem dL_law_796 : decode cL_law 796 = .ok (.iconst 2, 1) := by decide +kernel
theorem dL_law_797 : decode cL_law 797 = .ok (.iadd, 1) := by decide +kernel
theorem dL_law_798 : decode cL_law 798 = .ok (.iaload, 1) := by decide +kernel
theorem dL_law_799 : decode cL_law 799 = .ok (.aload_n 0, 1) := by decide +kernel
theorem dL_law_800 : decode cL_law 800 = .ok (.iload 4, 2) := by decide +kernel
theorem dL_law_802 : decode cL_law 802 = .ok (.iconst 3, 1) := by decide +kernel
theorem dL_law_803 : decode cL_law 803 = .ok (.iadd, 1) := by decide +kernel
theorem dL_law_804 : decode cL_law 804 = .ok (.iaload, 1) := by decide +kernel
theorem dL_law_805 : decode cL_law 805 = .ok (.aload_n 0, 1) := by decide +kernel
theorem dL_law_806 : decode cL_law 806 = .ok (.iload 4, 2) := by decide +kernel
theorem dL_law_808 : decode cL_law 808 = .ok (.iconst 4, 1) := by decide +kernel
theorem dL_law_809 : decode cL_law 809 = .ok (.iadd, 1) := by decide +kernel
theorem dL_law_810 : decode cL_law 810 = .ok (.iaload, 1) := by decide +kernel
theorem dL_law_811 : decode cL_law 811 = .ok (.invokevirtual 107, 3) := by decide +kernel
theorem dL_law_814 : decode cL_law 814 = .ok (.istore 6, 2) := by decide +kernel
theorem dL_law_816 : decode cL_law 816 = .ok (.aload_n 2, 1) := by decide +kernel
theorem dL_law_817 : decode cL_law 817 = .ok (.invokevirtual 67, 3) := by decide +kernel
theorem dL_law_820 : decode cL_law 820 = .ok (.iload 5, 2) := by decide +kernel
theorem dL_law_822 : decode cL_law 822 = .ok (.if_icmp .eq 5, 3) := by decide +kernel
theorem dL_law_825 : decode cL_law 825 = .ok (.iconst 0, 1) := by decide +kernel
theorem dL_law_826 : decode cL_law 826 = .ok (.ireturn, 1) := by decide +kernel
theorem dL_law_827 : decode cL_law 827 = .ok (.iload 5, 2) := by decide +kernel
theorem dL_law_829 : decode cL_law 829 = .ok (.ifCond .ne 15, 3) := by decide +kernel
theorem dL_law_832 : decode cL_law 832 = .ok (.aload_n 3, 1) := by decide +kernel
theorem dL_law_833 : decode cL_law 833 = .ok (.iconst 0, 1) := by decide +kernel
theorem dL_law_834 : decode cL_law 834 = .ok (.laload, 1) := by decide +kernel
theorem dL_law_835 : decode cL_law 835 = .ok (.iload 6, 2) := by decide +kernel
theorem dL_law_837 : decode cL_law 837 = .ok (.i2l, 1) := by decide +kernel
theorem dL_law_838 : decode cL_law 838 = .ok (.lcmp, 1) := by decide +kernel
theorem dL_law_839 : decode cL_law 839 = .ok (.ifCond .eq 5, 3) := by decide +kernel
theorem dL_law_842 : decode cL_law 842 = .ok (.iconst 0, 1) := by decide +kernel
theorem dL_law_843 : decode cL_law 843 = .ok (.ireturn, 1) := by decide +kernel
theorem dL_law_844 : decode cL_law 844 = .ok (.goto 166, 3) := by decide +kernel
theorem dL_law_847 : decode cL_law 847 = .ok (.aload_n 1, 1) := by decide +kernel
theorem dL_law_848 : decode cL_law 848 = .ok (.aload_n 0, 1) := by decide +kernel
theorem dL_law_849 : decode cL_law 849 = .ok (.iload 4, 2) := by decide +kernel
theorem dL_law_851 : decode cL_law 851 = .ok (.iconst 1, 1) := by decide +kernel
theorem dL_law_852 : decode cL_law 852 = .ok (.iadd, 1) := by decide +kernel
theorem dL_law_853 : decode cL_law 853 = .ok (.iaload, 1) := by decide +kernel
theorem dL_law_854 : decode cL_law 854 = .ok (.aload_n 3, 1) := by decide +kernel
theorem dL_law_855 : decode cL_law 855 = .ok (.invokestatic 108, 3) := by decide +kernel
theorem dL_law_858 : decode cL_law 858 = .ok (.istore 5, 2) := by decide +kernel
theorem dL_law_860 : decode cL_law 860 = .ok (.aload_n 2, 1) := by decide +kernel
theorem dL_law_861 : decode cL_law 861 = .ok (.aload_n 0, 1) := by decide +kernel
theorem dL_law_862 : decode cL_law 862 = .ok (.iload 4, 2) := by decide +kernel
theorem dL_law_864 : decode cL_law 864 = .ok (.iconst 1, 1) := by decide +kernel
theorem dL_law_865 : decode cL_law 865 = .ok (.iadd, 1) := by decide +kernel
theorem dL_law_866 : decode cL_law 866 = .ok (.iaload, 1) := by decide +kernel
theorem dL_law_867 : decode cL_law 867 = .ok (.invokevirtual 110, 3) := by decide +kernel
theorem dL_law_870 : decode cL_law 870 = .ok (.istore 6, 2) := by decide +kernel
theorem dL_law_872 : decode cL_law 872 = .ok (.aload_n 2, 1) := by decide +kernel
theorem dL_law_873 : decode cL_law 873 = .ok (.invokevirtual 67, 3) := by decide +kernel
theorem dL_law_876 : decode cL_law 876 = .ok (.iload 5, 2) := by decide +kernel
theorem dL_law_878 : decode cL_law 878 = .ok (.if_icmp .eq 5, 3) := by decide +kernel
theorem dL_law_881 : decode cL_law 881 = .ok (.iconst 0, 1) := by decide +kernel
theorem dL_law_882 : decode cL_law 882 = .ok (.ireturn, 1) := by decide +kernel
theorem dL_law_883 : decode cL_law 883 = .ok (.iload 5, 2) := by decide +kernel
theorem dL_law_885 : decode cL_law 885 = .ok (.ifCond .ne 15, 3) := by decide +kernel
theorem dL_law_888 : decode cL_law 888 = .ok (.aload_n 3, 1) := by decide +kernel
theorem dL_law_889 : decode cL_law 889 = .ok (.iconst 0, 1) := by decide +kernel
theorem dL_law_890 : decode cL_law 890 = .ok (.laload, 1) := by decide +kernel
theorem dL_law_891 : decode cL_law 891 = .ok (.iload 6, 2) := by decide +kernel
theorem dL_law_893 : decode cL_law 893 = .ok (.i2l, 1) := by decide +kernel
theorem dL_law_894 : decode cL_law 894 = .ok (.lcmp, 1) := by decide +kernel
theorem dL_law_895 : decode cL_law 895 = .ok (.ifCond .eq 5, 3) := by decide +kernel
theorem dL_law_898 : decode cL_law 898 = .ok (.iconst 0, 1) := by decide +kernel
theorem dL_law_899 : decode cL_law 899 = .ok (.ireturn, 1) := by decide +kernel
theorem dL_law_900 : decode cL_law 900 = .ok (.goto 110, 3) := by decide +kernel
theorem dL_law_903 : decode cL_law 903 = .ok (.aload_n 1, 1) := by decide +kernel
theorem dL_law_904 : decode cL_law 904 = .ok (.invokevirtual 111, 3) := by decide +kernel
theorem dL_law_907 : decode cL_law 907 = .ok (.aload_n 2, 1) := by decide +kernel
theorem dL_law_908 : decode cL_law 908 = .ok (.invokevirtual 114, 3) := by decide +kernel
theorem dL_law_911 : decode cL_law 911 = .ok (.if_icmp .eq 99, 3) := by decide +kernel
theorem dL_law_914 : decode cL_law 914 = .ok (.iconst 0, 1) := by decide +kernel
theorem dL_law_915 : decode cL_law 915 = .ok (.ireturn, 1) := by decide +kernel
theorem dL_law_916 : decode cL_law 916 = .ok (.aload_n 1, 1) := by decide +kernel
theorem dL_law_917 : decode cL_law 917 = .ok (.aload_n 0, 1) := by decide +kernel
theorem dL_law_918 : decode cL_law 918 = .ok (.iload 4, 2) := by decide +kernel
theorem dL_law_920 : decode cL_law 920 = .ok (.iconst 1, 1) := by decide +kernel
theorem dL_law_921 : decode cL_law 921 = .ok (.iadd, 1) := by decide +kernel
theorem dL_law_922 : decode cL_law 922 = .ok (.iaload, 1) := by decide +kernel
theorem dL_law_923 : decode cL_law 923 = .ok (.invokevirtual 115, 3) := by decide +kernel
theorem dL_law_926 : decode cL_law 926 = .ok (.aload_n 2, 1) := by decide +kernel
theorem dL_law_927 : decode cL_law 927 = .ok (.aload_n 0, 1) := by decide +kernel
theorem dL_law_928 : decode cL_law 928 = .ok (.iload 4, 2) := by decide +kernel
theorem dL_law_930 : decode cL_law 930 = .ok (.iconst 1, 1) := by decide +kernel
theorem dL_law_931 : decode cL_law 931 = .ok (.iadd, 1) := by decide +kernel
theorem dL_law_932 : decode cL_law 932 = .ok (.iaload, 1) := by decide +kernel
theorem dL_law_933 : decode cL_law 933 = .ok (.invokevirtual 118, 3) := by decide +kernel
theorem dL_law_936 : decode cL_law 936 = .ok (.if_icmp .eq 74, 3) := by decide +kernel
theorem dL_law_939 : decode cL_law 939 = .ok (.iconst 0, 1) := by decide +kernel
theorem dL_law_940 : decode cL_law 940 = .ok (.ireturn, 1) := by decide +kernel
theorem dL_law_941 : decode cL_law 941 = .ok (.aload_n 1, 1) := by decide +kernel
theorem dL_law_942 : decode cL_law 942 = .ok (.invokevirtual 119, 3) := by decide +kernel
theorem dL_law_945 : decode cL_law 945 = .ok (.aload_n 2, 1) := by decide +kernel
theorem dL_law_946 : decode cL_law 946 = .ok (.invokevirtual 122, 3) := by decide +kernel
theorem dL_law_949 : decode cL_law 949 = .ok (.if_icmp .eq 61, 3) := by decide +kernel
theorem dL_law_952 : decode cL_law 952 = .ok (.iconst 0, 1) := by decide +kernel
theorem dL_law_953 : decode cL_law 953 = .ok (.ireturn, 1) := by decide +kernel
theorem dL_law_954 : decode cL_law 954 = .ok (.aload_n 1, 1) := by decide +kernel
theorem dL_law_955 : decode cL_law 955 = .ok (.aload_n 0, 1) := by decide +kernel
theorem dL_law_956 : decode cL_law 956 = .ok (.iload 4, 2) := by decide +kernel
theorem dL_law_958 : decode cL_law 958 = .ok (.iconst 1, 1) := by decide +kernel
theorem dL_law_959 : decode cL_law 959 = .ok (.iadd, 1) := by decide +kernel
theorem dL_law_960 : decode cL_law 960 = .ok (.iaload, 1) := by decide +kernel
theorem dL_law_961 : decode cL_law 961 = .ok (.aload_n 3, 1) := by decide +kernel
theorem dL_law_962 : decode cL_law 962 = .ok (.invokestatic 123, 3) := by decide +kernel
theorem dL_law_965 : decode cL_law 965 = .ok (.istore 5, 2) := by decide +kernel
theorem dL_law_967 : decode cL_law 967 = .ok (.aload_n 2, 1) := by decide +kernel
theorem dL_law_968 : decode cL_law 968 = .ok (.aload_n 0, 1) := by decide +kernel
theorem dL_law_969 : decode cL_law 969 = .ok (.iload 4, 2) := by decide +kernel
theorem dL_law_971 : decode cL_law 971 = .ok (.iconst 1, 1) := by decide +kernel
theorem dL_law_972 : decode cL_law 972 = .ok (.iadd, 1) := by decide +kernel
theorem dL_law_973 : decode cL_law 973 = .ok (.iaload, 1) := by decide +kernel
theorem dL_law_974 : decode cL_law 974 = .ok (.invokevirtual 125, 3) := by decide +kernel
theorem dL_law_977 : decode cL_law 977 = .ok (.istore 6, 2) := by decide +kernel
theorem dL_law_979 : decode cL_law 979 = .ok (.aload_n 2, 1) := by decide +kernel
theorem dL_law_980 : decode cL_law 980 = .ok (.invokevirtual 67, 3) := by decide +kernel
theorem dL_law_983 : decode cL_law 983 = .ok (.iload 5, 2) := by decide +kernel
theorem dL_law_985 : decode cL_law 985 = .ok (.if_icmp .eq 5, 3) := by decide +kernel
theorem dL_law_988 : decode cL_law 988 = .ok (.iconst 0, 1) := by decide +kernel
theorem dL_law_989 : decode cL_law 989 = .ok (.ireturn, 1) := by decide +kernel
theorem dL_law_990 : decode cL_law 990 = .ok (.iload 5, 2) := by decide +kernel
theorem dL_law_992 : decode cL_law 992 = .ok (.ifCond .ne 15, 3) := by decide +kernel
theorem dL_law_995 : decode cL_law 995 = .ok (.aload_n 3, 1) := by decide +kernel
theorem dL_law_996 : decode cL_law 996 = .ok (.iconst 0, 1) := by decide +kernel
theorem dL_law_997 : decode cL_law 997 = .ok (.laload, 1) := by decide +kernel
theorem dL_law_998 : decode cL_law 998 = .ok (.iload 6, 2) := by decide +kernel
theorem dL_law_1000 : decode cL_law 1000 = .ok (.i2l, 1) := by decide +kernel
theorem dL_law_1001 : decode cL_law 1001 = .ok (.lcmp, 1) := by decide +kernel
theorem dL_law_1002 : decode cL_law 1002 = .ok (.ifCond .eq 5, 3) := by decide +kernel
theorem dL_law_1005 : decode cL_law 1005 = .ok (.iconst 0, 1) := by decide +kernel
theorem dL_law_1006 : decode cL_law 1006 = .ok (.ireturn, 1) := by decide +kernel
theorem dL_law_1007 : decode cL_law 1007 = .ok (.goto 3, 3) := by decide +kernel
theorem dL_law_1010 : decode cL_law 1010 = .ok (.iinc 4 6, 3) := by decide +kernel
theorem dL_law_1013 : decode cL_law 1013 = .ok (.goto (-990), 3) := by decide +kernel
theorem dL_law_1016 : decode cL_law 1016 = .ok (.iconst 1, 1) := by decide +kernel
theorem dL_law_1017 : decode cL_law 1017 = .ok (.ireturn, 1) := by decide +kernel
end
section
/-! ===== whole numbers for ints ===== -/
def iZ (z : Int) : Int32 := Int32.ofInt z
abbrev inR (z : Int) : Prop := -2147483648 ≤ z ∧ z < 2147483648
theorem iZ_toInt {z : Int} (h : inR z) : (iZ z).toInt = z := Int32.toInt_ofInt_of_le h.1 h.2
theorem iZ_of (x : Int32) : iZ x.toInt = x := Int32.ofInt_toInt x
theorem inR_of (x : Int32) : inR x.toInt := ⟨Int32.le_toInt x, Int32.toInt_lt x⟩
theorem iZ_add (a b : Int) : iZ a + iZ b = iZ (a + b) := (Int32.ofInt_add a b).symm
theorem iZ_sub (a b : Int) : iZ a - iZ b = iZ (a - b) := (Int32.ofInt_sub a b).symm
theorem iZ_mul (a b : Int) : iZ a * iZ b = iZ (a * b) := (Int32.ofInt_mul a b).symm
theorem iZ_neg (a : Int) : - iZ a = iZ (-a) := (Int32.ofInt_neg a).symm
theorem iZ_eq {a b : Int} (ha : inR a) (hb : inR b) : iZ a = iZ b ↔ a = b :=
  ⟨fun h => by rw [← iZ_toInt ha, ← iZ_toInt hb, h], fun h => by rw [h]⟩
theorem iZ_lt {a b : Int} (ha : inR a) (hb : inR b) : iZ a < iZ b ↔ a < b := by
  rw [Int32.lt_iff_toInt_lt, iZ_toInt ha, iZ_toInt hb]
theorem iZ_le {a b : Int} (ha : inR a) (hb : inR b) : iZ a ≤ iZ b ↔ a ≤ b := by
  rw [Int32.le_iff_toInt_le, iZ_toInt ha, iZ_toInt hb]
theorem inR_0 : inR 0 := ⟨by decide, by decide⟩
theorem iZ_0 : iZ 0 = 0 := rfl
theorem iZ_div {a b : Int} (ha : inR a) (hb : inR b) (h : b ≠ -1) : iZ a / iZ b = iZ (a.tdiv b) := by
  apply Int32.toInt_inj.mp
  have e : iZ b ≠ -1 := fun q => h (by have := congrArg Int32.toInt q; rw [iZ_toInt hb] at this; exact this)
  rw [Int32.toInt_div_of_ne_right _ _ e, iZ_toInt ha, iZ_toInt hb]
  have hr : inR (a.tdiv b) := by
    have := Int32.toInt_div_of_ne_right (iZ a) (iZ b) e
    rw [iZ_toInt ha, iZ_toInt hb] at this
    rw [← this]
    exact inR_of _
  rw [iZ_toInt hr]
theorem iZ_rem {a b : Int} (ha : inR a) (hb : inR b) (h : b ≠ -1) : iZ a - iZ a / iZ b * iZ b = iZ (a.tmod b) := by
  rw [iZ_div ha hb h, iZ_mul, iZ_sub, Int.tmod_def, Int.mul_comm]
theorem iZ_clamp {i : Int} (h : inR i) : (iZ i).toNatClampNeg = i.toNat := by
  show (iZ i).toInt.toNat = _
  rw [iZ_toInt h]
theorem iZ_in {i : Int} {n : Nat} (h0 : 0 ≤ i) (h1 : i < n) (hn : n ≤ 2147483648) : vp_in (iZ i) n := by
  have hr : inR i := ⟨by omega, by omega⟩
  exact vp_in_iff.mpr (by rw [iZ_toInt hr]; exact ⟨h0, h1⟩)
def zand (a b : Int) : Int := (iZ a &&& iZ b).toInt
def zor (a b : Int) : Int := (iZ a ||| iZ b).toInt
def zxor (a b : Int) : Int := (iZ a ^^^ iZ b).toInt
def zshl (a b : Int) : Int := (iZ a <<< (iZ b &&& 31)).toInt
def zshr (a b : Int) : Int := (iZ a >>> (iZ b &&& 31)).toInt
def zushr (a b : Int) : Int := ((iZ a).toUInt32 >>> ((iZ b).toUInt32 &&& Int32.toUInt32 31)).toInt32.toInt
def zi2c (a : Int) : Int := ((iZ a).toUInt32 % 65536).toInt32.toInt
def zi2b (a : Int) : Int := (iZ a).toInt8.toInt32.toInt
/-- a place of a row changed -/
def zu (f : Int → Int) (i v : Int) : Int → Int := fun j => if j = i then v else f j
theorem zu_same (f : Int → Int) (i v : Int) : zu f i v i = v := if_pos rfl
theorem zu_ne {f : Int → Int} {i v j : Int} (h : j ≠ i) : zu f i v j = f j := if_neg h
/-- a row of ints as the machine has it -/
def zrow (f : Int → Int) : Nat → Int32 := fun j => iZ (f (j : Int))
theorem zrow_get (f : Int → Int) {i : Int} (h : 0 ≤ i) : zrow f i.toNat = iZ (f i) := by
  unfold zrow
  rw [Int.toNat_of_nonneg h]
theorem zrow_upd (f : Int → Int) {i : Int} (v : Int) (h : 0 ≤ i) : upd (zrow f) i.toNat (iZ v) = zrow (zu f i v) := by
  funext j
  unfold zrow zu upd
  by_cases hj : j = i.toNat
  · subst hj
    rw [if_pos rfl, if_pos (Int.toNat_of_nonneg h)]
  · rw [if_neg hj, if_neg (fun q => hj (by omega))]
/-! ===== the abstract judgement ===== -/
def gw : List Cond := lw_tbl.filter goodWord
theorem gw_in {w : Cond} (h : w ∈ gw) : w ∈ lw_tbl := (List.mem_filter.mp h).1
theorem gw_of {w : Cond} (h : w ∈ lw_tbl) (g : goodWord w = true) : w ∈ gw := List.mem_filter.mpr ⟨h, g⟩
theorem gw_good : GoodIn gw gw := fun _ h => ⟨h, good_of_word (List.mem_filter.mp h).2⟩
abbrev CtxT : Type := Program × Env × State × MethodId × Array Value × List Frame × Method × Code × (Nat → Prop) × (State → Prop)
abbrev OT : Type := (Nat → Prop) → State → Heap → Prop
abbrev KT (σ : Type) : Type := Nat → List (Option Value) → List Value → σ → Prop
/-- what lies outside the world and stays: laws of it -/
def OL (O : OT) : Prop := (∀ (A B : Nat → Prop) (U : State) (H : Heap), O A U H → (∀ q, B q → A q) → O B U H) ∧ (∀ (A : Nat → Prop) (U : State) (H H1 : Heap), O A U H → (∀ a : Nat, a < H.size → ¬ A a → H1[a]? = H[a]?) → O A U H1) ∧ (∀ (A : Nat → Prop) (s U : State) (H : Heap), s.WarmedH U.vm → O A s H → O A U H)
def cQ {σ : Type} (D : va_G) (tys : List (ClassId × FieldType)) (wld : σ → va_W) (A : Nat → Prop) (post : Option Value → σ → Prop) : Array Value → State → Outcome → State → Prop := fun _ st oc t => (∃ (v : Option Value) (u : σ), oc = .returned v ∧ post v u ∧ va_P D vwCl (wld u) t.heap ∧ va_K D vwCl tys t ∧ va_D A (wld u)) ∧ va_F A st t
/-- the locals -/
def lvH (ls : Array Slot) (nL : Nat) (lv : List (Option Value)) : Prop := ls.size = nL ∧ lv_wf ls ∧ ∀ (i : Nat) (v : Value), lv[i]? = some (some v) → ls[i]? = some (.val v) ∧ v.category = 1
def lvP (lv : List (Option Value)) : List (Nat × Value) := lv.zipIdx.filterMap (fun q => q.1.map (fun v => (q.2, v)))
theorem lvP_mem {lv : List (Option Value)} {i : Nat} {v : Value} : (i, v) ∈ lvP lv ↔ lv[i]? = some (some v) := by
  unfold lvP
  rw [List.mem_filterMap]
  constructor
  · rintro ⟨⟨x, j⟩, h1, h2⟩
    cases x with
    | none => cases h2
    | some w =>
      cases h2
      exact List.mem_zipIdx_iff_getElem?.mp h1
  · intro h
    exact ⟨(some v, i), List.mem_zipIdx_iff_getElem?.mpr h, rfl⟩
theorem lvH.has {ls : Array Slot} {nL : Nat} {lv : List (Option Value)} (h : lvH ls nL lv) : lv_has ls nL (lvP lv) := ⟨h.1, h.2.1, fun q hq => (h.2.2 q.1 q.2 (lvP_mem.mp hq)).1⟩
theorem lvH.store {ls ls' : Array Slot} {nL i : Nat} {v : Value} {lv : List (Option Value)} (h : lvH ls nL lv) (hc : v.category = 1) (hs : lv_has ls' nL ((i, v) :: (lvP lv).filter (fun q => !(q.1 == i) && !(q.1 + 1 == i && q.2.category == 2)))) : lvH ls' nL (lv.set i (some v)) := by
  refine ⟨hs.1, hs.2.1, fun j w hj => ?_⟩
  by_cases hij : j = i
  · subst hij
    have hl : j < lv.length := by
      have := (List.getElem?_eq_some_iff.mp hj).1
      rwa [List.length_set] at this
    rw [List.getElem?_set_self hl] at hj
    cases hj
    exact ⟨hs.2.2 (j, v) List.mem_cons_self, hc⟩
  · rw [List.getElem?_set_ne (Ne.symm hij)] at hj
    have hw := (h.2.2 j w hj).2
    refine ⟨hs.2.2 (j, w) (List.mem_cons_of_mem _ (List.mem_filter.mpr ⟨lvP_mem.mpr hj, ?_⟩)), hw⟩
    simp [hij, hw]
def Snd {σ : Type} (l : Launch) (R : Room) (cc : ByteArray) (nL : Nat) (own : String) (rt : Option FieldType) (D : va_G) (tys : List (ClassId × FieldType)) (O : OT) (wld : σ → va_W) (post : Option Value → σ → Prop) (X : CtxT) (J : KT σ) : Prop :=
  match X with
  | (p, e, s, m, args, below, meth, c, A, Q) => p.tables.exec = Jvm.exec ∧ c.code = cc ∧ c.maxLocals = nL ∧ s.vm.findClass own = some m.cls ∧ (∀ w ∈ gw, w.before args s = true) ∧ meth.sig.returnType = rt ∧ meth.locks = false ∧ va_K D vwCl tys s ∧ (∀ q, s.heap.size ≤ q → A q) ∧ OL O ∧ O A s s.heap ∧ (∀ t, MQ below (cQ D tys wld A post) args s 0 0 A t → Q t) ∧
    ∀ pc lv st u, J pc lv st u ↔ (∀ (H : Heap) (locs : List Loc) (ls : Array Slot), va_P D vwCl (wld u) H → va_D A (wld u) → va_S A s.heap H locs → lvH ls nL lv → W p l e R s m args below meth c H locs 0 0 Q (F0 m pc ls st))
/-- a contract: in the world at u the method y with the arguments as returns, as post says; nothing is made -/
def Ct {σ : Type} (l : Launch) (y : MethodName) (cc : ByteArray) (n : Nat) (rt : Option FieldType) (rm : Room) (D : va_G) (tys : List (ClassId × FieldType)) (O : OT) (wld : σ → va_W) (as : List Value) (u : σ) (post : Option Value → σ → Prop) : Prop :=
  ∀ sz : Nat, Met l y (Cond.code y cc n rt :: gw) rm (va_Pc as (fun U => U.heap.size = sz ∧ va_P D vwCl (wld u) U.heap ∧ va_K D vwCl tys U ∧ va_D (fun _ => True) (wld u) ∧ O (va_A (wld u) sz) U U.heap)) (cQ D tys wld (va_A (wld u) sz) post) 0 0 (va_A (wld u) sz)
def pI {σ : Type} (P : Int → σ → Prop) : Option Value → σ → Prop := fun v u => ∃ r : Int, v = some (.int (iZ r)) ∧ P r u
def pV {σ : Type} (P : σ → Prop) : Option Value → σ → Prop := fun v u => v = none ∧ P u
def pR {σ : Type} (P : Nat → σ → Prop) : Option Value → σ → Prop := fun v u => ∃ r : Nat, v = some (.ref r) ∧ P r u
theorem lv_args_cat : ∀ (as : List Value) (k : Nat), (∀ v ∈ as, v.category = 1) → ∀ (i : Nat) (v : Value), as[i]? = some v → (k + i, v) ∈ lv_args k as
  | [], _, _, i, v, h => by simp at h
  | a :: as, k, hc, i, v, h => by
    have ha : a.category = 1 := hc a List.mem_cons_self
    unfold lv_args
    rw [if_neg (by omega)]
    cases i with
    | zero =>
      cases h
      exact List.mem_cons_self
    | succ i =>
      rw [List.getElem?_cons_succ] at h
      have := lv_args_cat as (k + 1) (fun v hv => hc v (List.mem_cons_of_mem _ hv)) i v h
      rw [show k + (i + 1) = k + 1 + i by omega]
      exact List.mem_cons_of_mem _ this
theorem lg_sl_len : ∀ (as : List Value), (∀ v ∈ as, v.category = 1) → (lg_sl as).length = as.length
  | [], _ => rfl
  | a :: as, hc => by
    have ha : ¬ a.category = 2 := by have := hc a List.mem_cons_self; omega
    have ih := lg_sl_len as (fun v hv => hc v (List.mem_cons_of_mem _ hv))
    unfold lg_sl at ih ⊢
    rw [List.flatMap_cons, List.length_append, if_neg ha, ih]
    simp [Nat.add_comm]
theorem lv_start (as : List Value) (n : Nat) (has : as.length ≤ n) (hc : ∀ v ∈ as, v.category = 1) : lvH ((lg_sl as ++ List.replicate (n - (lg_sl as).length) Slot.unset).toArray) n (as.map some ++ List.replicate (n - as.length) none) := by
  have h := lv_entry as (n := n) (by rw [lg_sl_len as hc]; exact has)
  refine ⟨h.1, h.2.1, fun i v hi => ?_⟩
  have hv : as[i]? = some v := by
    by_cases hl : i < as.length
    · rw [List.getElem?_append_left (by rw [List.length_map]; exact hl), List.getElem?_map] at hi
      cases hx : as[i]? with
      | none => rw [hx] at hi; cases hi
      | some x => rw [hx] at hi; cases hi; rfl
    · rw [List.getElem?_append_right (by rw [List.length_map]; omega)] at hi
      have := List.mem_replicate.mp (List.mem_of_getElem? hi)
      cases this.2
  refine ⟨?_, hc v (List.mem_of_getElem? hv)⟩
  have := h.2.2 (0 + i, v) (lv_args_cat as 0 hc i v hv)
  rwa [Nat.zero_add] at this
set_option maxHeartbeats 4000000 in
/-- a contract out of a walk -/
theorem ct_intro {σ : Type} {l : Launch} {rm : Room} {cc : ByteArray} {n : Nat} {own : String} {rt : Option FieldType} {D : va_G} {tys : List (ClassId × FieldType)} {O : OT} {wld : σ → va_W} {post : Option Value → σ → Prop} {y : MethodName} {as : List Value} {u : σ} (hy : plainFor y = true) (hyc : y.cls = own) (hOL : OL O) (has : as.length ≤ n) (hcat : ∀ v ∈ as, v.category = 1)
    (h : ∀ (X : CtxT) (J : KT σ), Snd l rm cc n own rt D tys O wld post X J → J 0 (as.map some ++ List.replicate (n - as.length) none) [] u) : Ct l y cc n rt rm D tys O wld as u post := by
  intro sz
  refine va_MetF (cc := cc) (maxL := n) (ret := rt) hy rfl ?_
  intro p e s m args below meth c s₁ B hml hv
  obtain ⟨rfl, hsz, hP, hK, hD0, hO⟩ := hv
  have hts := atoms_spec (ws := Cond.code y cc n rt :: gw) B.pre
  have hown : s.vm.findClass own = some m.cls := by rw [← hyc]; exact findClass_of_methodNamed B.named
  subst hsz
  rw [lg_entry_eq]
  have key := h (p, e, s, m, as.toArray, below, meth, c, va_A (wld u) s.heap.size, MQ below (cQ D tys wld (va_A (wld u) s.heap.size) post) as.toArray s 0 0 (va_A (wld u) s.heap.size)) (fun pc lv st u' => ∀ (H : Heap) (locs : List Loc) (ls : Array Slot), va_P D vwCl (wld u') H → va_D (va_A (wld u) s.heap.size) (wld u') → va_S (va_A (wld u) s.heap.size) s.heap H locs → lvH ls n lv → W p l e rm s m as.toArray below meth c H locs 0 0 (MQ below (cQ D tys wld (va_A (wld u) s.heap.size) post) as.toArray s 0 0 (va_A (wld u) s.heap.size)) (F0 m pc ls st))
    ⟨B.exec, B.bytes, hml, hown, fun w hw => hts w (List.mem_cons_of_mem _ hw), B.returns, B.notSynchronized, hK, fun q hq => Or.inr hq, hOL, hO, fun _ h => h, fun _ _ _ _ => Iff.rfl⟩
  exact key s.heap [] _ hP hD0.self va_S.rf (lv_start as n has hcat)
section ROWS
variable {σ : Type} {l : Launch} {R : Room} {cc : ByteArray} {nL : Nat} {own : String} {rt : Option FieldType} {D : va_G} {tys : List (ClassId × FieldType)} {O : OT} {wld : σ → va_W} {post : Option Value → σ → Prop} {X : CtxT} {J : KT σ}
variable {pc : Nat} {lv : List (Option Value)} {st : List Value} {u : σ}
theorem v_iconst (hJ : Snd l R cc nL own rt D tys O wld post X J) {n : Int} (d : decode cc pc = .ok (.iconst n, 1)) (k : J (pc + 1) lv (.int (iZ n) :: st) u) : J pc lv st u := by
  obtain ⟨p, e, s, m, args, below, meth, c, A, Q⟩ := X
  obtain ⟨hx, hb, hml, hown, hts, hr, hlk, hK, hA, hOL, hO, hQ, hW⟩ := hJ
  refine (hW _ _ _ _).mpr (fun H locs ls hP hD hS hl => ?_)
  exact lv_iconst hx hb d rfl ((hW _ _ _ _).mp k H locs ls hP hD hS hl)
theorem v_bipush (hJ : Snd l R cc nL own rt D tys O wld post X J) {n : Int} (d : decode cc pc = .ok (.bipush n, 2)) (hn : (Int8.ofInt n).toInt32 = iZ n) (k : J (pc + 2) lv (.int (iZ n) :: st) u) : J pc lv st u := by
  obtain ⟨p, e, s, m, args, below, meth, c, A, Q⟩ := X
  obtain ⟨hx, hb, hml, hown, hts, hr, hlk, hK, hA, hOL, hO, hQ, hW⟩ := hJ
  refine (hW _ _ _ _).mpr (fun H locs ls hP hD hS hl => ?_)
  exact lv_bipush hx hb d hn ((hW _ _ _ _).mp k H locs ls hP hD hS hl)
theorem v_sipush (hJ : Snd l R cc nL own rt D tys O wld post X J) {n : Int} (d : decode cc pc = .ok (.sipush n, 3)) (hn : (Int16.ofInt n).toInt32 = iZ n) (k : J (pc + 3) lv (.int (iZ n) :: st) u) : J pc lv st u := by
  obtain ⟨p, e, s, m, args, below, meth, c, A, Q⟩ := X
  obtain ⟨hx, hb, hml, hown, hts, hr, hlk, hK, hA, hOL, hO, hQ, hW⟩ := hJ
  refine (hW _ _ _ _).mpr (fun H locs ls hP hD hS hl => ?_)
  exact lv_sipush hx hb d hn ((hW _ _ _ _).mp k H locs ls hP hD hS hl)
theorem v_ldc (hJ : Snd l R cc nL own rt D tys O wld post X J) {n : Int} {index : Nat} (d : decode cc pc = .ok (.ldc index, 2)) (hc : Cond.constant own index (iZ n) ∈ gw) (k : J (pc + 2) lv (.int (iZ n) :: st) u) : J pc lv st u := by
  obtain ⟨p, e, s, m, args, below, meth, c, A, Q⟩ := X
  obtain ⟨hx, hb, hml, hown, hts, hr, hlk, hK, hA, hOL, hO, hQ, hW⟩ := hJ
  refine (hW _ _ _ _).mpr (fun H locs ls hP hD hS hl => ?_)
  exact lv_ldc hx hb hown (hts _ hc) d ((hW _ _ _ _).mp k H locs ls hP hD hS hl)
theorem v_ild0 (hJ : Snd l R cc nL own rt D tys O wld post X J) {x : Int32} (d : decode cc pc = .ok (.iload_n 0, 1)) (k : J (pc + 1) (some (.int x) :: lv) (.int x :: st) u) : J pc (some (.int x) :: lv) st u := by
  obtain ⟨p, e, s, m, args, below, meth, c, A, Q⟩ := X
  obtain ⟨hx, hb, hml, hown, hts, hr, hlk, hK, hA, hOL, hO, hQ, hW⟩ := hJ
  refine (hW _ _ _ _).mpr (fun H locs ls hP hD hS hl => ?_)
  exact lv_iload_n hx hb d rfl (hl.2.2 0 _ rfl).1 ((hW _ _ _ _).mp k H locs ls hP hD hS hl)
theorem v_ald0 (hJ : Snd l R cc nL own rt D tys O wld post X J) {x : Nat} (d : decode cc pc = .ok (.aload_n 0, 1)) (k : J (pc + 1) (some (.ref x) :: lv) (.ref x :: st) u) : J pc (some (.ref x) :: lv) st u := by
  obtain ⟨p, e, s, m, args, below, meth, c, A, Q⟩ := X
  obtain ⟨hx, hb, hml, hown, hts, hr, hlk, hK, hA, hOL, hO, hQ, hW⟩ := hJ
  refine (hW _ _ _ _).mpr (fun H locs ls hP hD hS hl => ?_)
  exact lv_aload_n hx hb d rfl (hl.2.2 0 _ rfl).1 ((hW _ _ _ _).mp k H locs ls hP hD hS hl)
theorem v_ist0 (hJ : Snd l R cc nL own rt D tys O wld post X J) {a0 : Option Value} {x : Int32} (d : decode cc pc = .ok (.istore_n 0, 1)) (hn : 0 < nL) (k : J (pc + 1) (some (.int x) :: lv) st u) : J pc (a0 :: lv) (.int x :: st) u := by
  obtain ⟨p, e, s, m, args, below, meth, c, A, Q⟩ := X
  obtain ⟨hx, hb, hml, hown, hts, hr, hlk, hK, hA, hOL, hO, hQ, hW⟩ := hJ
  refine (hW _ _ _ _).mpr (fun H locs ls hP hD hS hl => ?_)
  exact lv_istore_n hx hb d rfl hl.has hn rfl (fun ls2 h2 => (hW _ _ _ _).mp k H locs ls2 hP hD hS (hl.store rfl h2))
theorem v_ast0 (hJ : Snd l R cc nL own rt D tys O wld post X J) {a0 : Option Value} {x : Nat} (d : decode cc pc = .ok (.astore_n 0, 1)) (hn : 0 < nL) (k : J (pc + 1) (some (.ref x) :: lv) st u) : J pc (a0 :: lv) (.ref x :: st) u := by
  obtain ⟨p, e, s, m, args, below, meth, c, A, Q⟩ := X
  obtain ⟨hx, hb, hml, hown, hts, hr, hlk, hK, hA, hOL, hO, hQ, hW⟩ := hJ
  refine (hW _ _ _ _).mpr (fun H locs ls hP hD hS hl => ?_)
  exact lv_astore_n hx hb d rfl hl.has hn rfl (fun ls2 h2 => (hW _ _ _ _).mp k H locs ls2 hP hD hS (hl.store rfl h2))
theorem v_inc0 (hJ : Snd l R cc nL own rt D tys O wld post X J) {x n : Int} (d : decode cc pc = .ok (.iinc 0 n, 3)) (hn : 0 < nL) (k : J (pc + 3) (some (.int (iZ (x + n))) :: lv) st u) : J pc (some (.int (iZ x)) :: lv) st u := by
  obtain ⟨p, e, s, m, args, below, meth, c, A, Q⟩ := X
  obtain ⟨hx, hb, hml, hown, hts, hr, hlk, hK, hA, hOL, hO, hQ, hW⟩ := hJ
  refine (hW _ _ _ _).mpr (fun H locs ls hP hD hS hl => ?_)
  obtain ⟨kk, hkk⟩ := List.getElem?_of_mem (lvP_mem (i := 0) (v := .int (iZ x)).mpr (show (some (.int (iZ x)) :: lv)[0]? = _ from rfl))
  exact lv_iinc (v := iZ (x + n)) hx hb d hl.has hkk (iZ_add x n) hn rfl (fun ls2 h2 => (hW _ _ _ _).mp k H locs ls2 hP hD hS (hl.store rfl h2))
theorem v_ild1 (hJ : Snd l R cc nL own rt D tys O wld post X J) {a0 : Option Value} {x : Int32} (d : decode cc pc = .ok (.iload_n 1, 1)) (k : J (pc + 1) (a0 :: some (.int x) :: lv) (.int x :: st) u) : J pc (a0 :: some (.int x) :: lv) st u := by
  obtain ⟨p, e, s, m, args, below, meth, c, A, Q⟩ := X
  obtain ⟨hx, hb, hml, hown, hts, hr, hlk, hK, hA, hOL, hO, hQ, hW⟩ := hJ
  refine (hW _ _ _ _).mpr (fun H locs ls hP hD hS hl => ?_)
  exact lv_iload_n hx hb d rfl (hl.2.2 1 _ rfl).1 ((hW _ _ _ _).mp k H locs ls hP hD hS hl)
theorem v_ald1 (hJ : Snd l R cc nL own rt D tys O wld post X J) {a0 : Option Value} {x : Nat} (d : decode cc pc = .ok (.aload_n 1, 1)) (k : J (pc + 1) (a0 :: some (.ref x) :: lv) (.ref x :: st) u) : J pc (a0 :: some (.ref x) :: lv) st u := by
  obtain ⟨p, e, s, m, args, below, meth, c, A, Q⟩ := X
  obtain ⟨hx, hb, hml, hown, hts, hr, hlk, hK, hA, hOL, hO, hQ, hW⟩ := hJ
  refine (hW _ _ _ _).mpr (fun H locs ls hP hD hS hl => ?_)
  exact lv_aload_n hx hb d rfl (hl.2.2 1 _ rfl).1 ((hW _ _ _ _).mp k H locs ls hP hD hS hl)
theorem v_ist1 (hJ : Snd l R cc nL own rt D tys O wld post X J) {a0 a1 : Option Value} {x : Int32} (d : decode cc pc = .ok (.istore_n 1, 1)) (hn : 1 < nL) (k : J (pc + 1) (a0 :: some (.int x) :: lv) st u) : J pc (a0 :: a1 :: lv) (.int x :: st) u := by
  obtain ⟨p, e, s, m, args, below, meth, c, A, Q⟩ := X
  obtain ⟨hx, hb, hml, hown, hts, hr, hlk, hK, hA, hOL, hO, hQ, hW⟩ := hJ
  refine (hW _ _ _ _).mpr (fun H locs ls hP hD hS hl => ?_)
  exact lv_istore_n hx hb d rfl hl.has hn rfl (fun ls2 h2 => (hW _ _ _ _).mp k H locs ls2 hP hD hS (hl.store rfl h2))
theorem v_ast1 (hJ : Snd l R cc nL own rt D tys O wld post X J) {a0 a1 : Option Value} {x : Nat} (d : decode cc pc = .ok (.astore_n 1, 1)) (hn : 1 < nL) (k : J (pc + 1) (a0 :: some (.ref x) :: lv) st u) : J pc (a0 :: a1 :: lv) (.ref x :: st) u := by
  obtain ⟨p, e, s, m, args, below, meth, c, A, Q⟩ := X
  obtain ⟨hx, hb, hml, hown, hts, hr, hlk, hK, hA, hOL, hO, hQ, hW⟩ := hJ
  refine (hW _ _ _ _).mpr (fun H locs ls hP hD hS hl => ?_)
  exact lv_astore_n hx hb d rfl hl.has hn rfl (fun ls2 h2 => (hW _ _ _ _).mp k H locs ls2 hP hD hS (hl.store rfl h2))
theorem v_inc1 (hJ : Snd l R cc nL own rt D tys O wld post X J) {a0 : Option Value} {x n : Int} (d : decode cc pc = .ok (.iinc 1 n, 3)) (hn : 1 < nL) (k : J (pc + 3) (a0 :: some (.int (iZ (x + n))) :: lv) st u) : J pc (a0 :: some (.int (iZ x)) :: lv) st u := by
  obtain ⟨p, e, s, m, args, below, meth, c, A, Q⟩ := X
  obtain ⟨hx, hb, hml, hown, hts, hr, hlk, hK, hA, hOL, hO, hQ, hW⟩ := hJ
  refine (hW _ _ _ _).mpr (fun H locs ls hP hD hS hl => ?_)
  obtain ⟨kk, hkk⟩ := List.getElem?_of_mem (lvP_mem (i := 1) (v := .int (iZ x)).mpr (show (a0 :: some (.int (iZ x)) :: lv)[1]? = _ from rfl))
  exact lv_iinc (v := iZ (x + n)) hx hb d hl.has hkk (iZ_add x n) hn rfl (fun ls2 h2 => (hW _ _ _ _).mp k H locs ls2 hP hD hS (hl.store rfl h2))
theorem v_ild2 (hJ : Snd l R cc nL own rt D tys O wld post X J) {a0 a1 : Option Value} {x : Int32} (d : decode cc pc = .ok (.iload_n 2, 1)) (k : J (pc + 1) (a0 :: a1 :: some (.int x) :: lv) (.int x :: st) u) : J pc (a0 :: a1 :: some (.int x) :: lv) st u := by
  obtain ⟨p, e, s, m, args, below, meth, c, A, Q⟩ := X
  obtain ⟨hx, hb, hml, hown, hts, hr, hlk, hK, hA, hOL, hO, hQ, hW⟩ := hJ
  refine (hW _ _ _ _).mpr (fun H locs ls hP hD hS hl => ?_)
  exact lv_iload_n hx hb d rfl (hl.2.2 2 _ rfl).1 ((hW _ _ _ _).mp k H locs ls hP hD hS hl)
theorem v_ald2 (hJ : Snd l R cc nL own rt D tys O wld post X J) {a0 a1 : Option Value} {x : Nat} (d : decode cc pc = .ok (.aload_n 2, 1)) (k : J (pc + 1) (a0 :: a1 :: some (.ref x) :: lv) (.ref x :: st) u) : J pc (a0 :: a1 :: some (.ref x) :: lv) st u := by
  obtain ⟨p, e, s, m, args, below, meth, c, A, Q⟩ := X
  obtain ⟨hx, hb, hml, hown, hts, hr, hlk, hK, hA, hOL, hO, hQ, hW⟩ := hJ
  refine (hW _ _ _ _).mpr (fun H locs ls hP hD hS hl => ?_)
  exact lv_aload_n hx hb d rfl (hl.2.2 2 _ rfl).1 ((hW _ _ _ _).mp k H locs ls hP hD hS hl)
theorem v_ist2 (hJ : Snd l R cc nL own rt D tys O wld post X J) {a0 a1 a2 : Option Value} {x : Int32} (d : decode cc pc = .ok (.istore_n 2, 1)) (hn : 2 < nL) (k : J (pc + 1) (a0 :: a1 :: some (.int x) :: lv) st u) : J pc (a0 :: a1 :: a2 :: lv) (.int x :: st) u := by
  obtain ⟨p, e, s, m, args, below, meth, c, A, Q⟩ := X
  obtain ⟨hx, hb, hml, hown, hts, hr, hlk, hK, hA, hOL, hO, hQ, hW⟩ := hJ
  refine (hW _ _ _ _).mpr (fun H locs ls hP hD hS hl => ?_)
  exact lv_istore_n hx hb d rfl hl.has hn rfl (fun ls2 h2 => (hW _ _ _ _).mp k H locs ls2 hP hD hS (hl.store rfl h2))
theorem v_ast2 (hJ : Snd l R cc nL own rt D tys O wld post X J) {a0 a1 a2 : Option Value} {x : Nat} (d : decode cc pc = .ok (.astore_n 2, 1)) (hn : 2 < nL) (k : J (pc + 1) (a0 :: a1 :: some (.ref x) :: lv) st u) : J pc (a0 :: a1 :: a2 :: lv) (.ref x :: st) u := by
  obtain ⟨p, e, s, m, args, below, meth, c, A, Q⟩ := X
  obtain ⟨hx, hb, hml, hown, hts, hr, hlk, hK, hA, hOL, hO, hQ, hW⟩ := hJ
  refine (hW _ _ _ _).mpr (fun H locs ls hP hD hS hl => ?_)
  exact lv_astore_n hx hb d rfl hl.has hn rfl (fun ls2 h2 => (hW _ _ _ _).mp k H locs ls2 hP hD hS (hl.store rfl h2))
theorem v_inc2 (hJ : Snd l R cc nL own rt D tys O wld post X J) {a0 a1 : Option Value} {x n : Int} (d : decode cc pc = .ok (.iinc 2 n, 3)) (hn : 2 < nL) (k : J (pc + 3) (a0 :: a1 :: some (.int (iZ (x + n))) :: lv) st u) : J pc (a0 :: a1 :: some (.int (iZ x)) :: lv) st u := by
  obtain ⟨p, e, s, m, args, below, meth, c, A, Q⟩ := X
  obtain ⟨hx, hb, hml, hown, hts, hr, hlk, hK, hA, hOL, hO, hQ, hW⟩ := hJ
  refine (hW _ _ _ _).mpr (fun H locs ls hP hD hS hl => ?_)
  obtain ⟨kk, hkk⟩ := List.getElem?_of_mem (lvP_mem (i := 2) (v := .int (iZ x)).mpr (show (a0 :: a1 :: some (.int (iZ x)) :: lv)[2]? = _ from rfl))
  exact lv_iinc (v := iZ (x + n)) hx hb d hl.has hkk (iZ_add x n) hn rfl (fun ls2 h2 => (hW _ _ _ _).mp k H locs ls2 hP hD hS (hl.store rfl h2))
theorem v_ild3 (hJ : Snd l R cc nL own rt D tys O wld post X J) {a0 a1 a2 : Option Value} {x : Int32} (d : decode cc pc = .ok (.iload_n 3, 1)) (k : J (pc + 1) (a0 :: a1 :: a2 :: some (.int x) :: lv) (.int x :: st) u) : J pc (a0 :: a1 :: a2 :: some (.int x) :: lv) st u := by
  obtain ⟨p, e, s, m, args, below, meth, c, A, Q⟩ := X
  obtain ⟨hx, hb, hml, hown, hts, hr, hlk, hK, hA, hOL, hO, hQ, hW⟩ := hJ
  refine (hW _ _ _ _).mpr (fun H locs ls hP hD hS hl => ?_)
  exact lv_iload_n hx hb d rfl (hl.2.2 3 _ rfl).1 ((hW _ _ _ _).mp k H locs ls hP hD hS hl)
theorem v_ald3 (hJ : Snd l R cc nL own rt D tys O wld post X J) {a0 a1 a2 : Option Value} {x : Nat} (d : decode cc pc = .ok (.aload_n 3, 1)) (k : J (pc + 1) (a0 :: a1 :: a2 :: some (.ref x) :: lv) (.ref x :: st) u) : J pc (a0 :: a1 :: a2 :: some (.ref x) :: lv) st u := by
  obtain ⟨p, e, s, m, args, below, meth, c, A, Q⟩ := X
  obtain ⟨hx, hb, hml, hown, hts, hr, hlk, hK, hA, hOL, hO, hQ, hW⟩ := hJ
  refine (hW _ _ _ _).mpr (fun H locs ls hP hD hS hl => ?_)
  exact lv_aload_n hx hb d rfl (hl.2.2 3 _ rfl).1 ((hW _ _ _ _).mp k H locs ls hP hD hS hl)
theorem v_ist3 (hJ : Snd l R cc nL own rt D tys O wld post X J) {a0 a1 a2 a3 : Option Value} {x : Int32} (d : decode cc pc = .ok (.istore_n 3, 1)) (hn : 3 < nL) (k : J (pc + 1) (a0 :: a1 :: a2 :: some (.int x) :: lv) st u) : J pc (a0 :: a1 :: a2 :: a3 :: lv) (.int x :: st) u := by
  obtain ⟨p, e, s, m, args, below, meth, c, A, Q⟩ := X
  obtain ⟨hx, hb, hml, hown, hts, hr, hlk, hK, hA, hOL, hO, hQ, hW⟩ := hJ
  refine (hW _ _ _ _).mpr (fun H locs ls hP hD hS hl => ?_)
  exact lv_istore_n hx hb d rfl hl.has hn rfl (fun ls2 h2 => (hW _ _ _ _).mp k H locs ls2 hP hD hS (hl.store rfl h2))
theorem v_ast3 (hJ : Snd l R cc nL own rt D tys O wld post X J) {a0 a1 a2 a3 : Option Value} {x : Nat} (d : decode cc pc = .ok (.astore_n 3, 1)) (hn : 3 < nL) (k : J (pc + 1) (a0 :: a1 :: a2 :: some (.ref x) :: lv) st u) : J pc (a0 :: a1 :: a2 :: a3 :: lv) (.ref x :: st) u := by
  obtain ⟨p, e, s, m, args, below, meth, c, A, Q⟩ := X
  obtain ⟨hx, hb, hml, hown, hts, hr, hlk, hK, hA, hOL, hO, hQ, hW⟩ := hJ
  refine (hW _ _ _ _).mpr (fun H locs ls hP hD hS hl => ?_)
  exact lv_astore_n hx hb d rfl hl.has hn rfl (fun ls2 h2 => (hW _ _ _ _).mp k H locs ls2 hP hD hS (hl.store rfl h2))
theorem v_inc3 (hJ : Snd l R cc nL own rt D tys O wld post X J) {a0 a1 a2 : Option Value} {x n : Int} (d : decode cc pc = .ok (.iinc 3 n, 3)) (hn : 3 < nL) (k : J (pc + 3) (a0 :: a1 :: a2 :: some (.int (iZ (x + n))) :: lv) st u) : J pc (a0 :: a1 :: a2 :: some (.int (iZ x)) :: lv) st u := by
  obtain ⟨p, e, s, m, args, below, meth, c, A, Q⟩ := X
  obtain ⟨hx, hb, hml, hown, hts, hr, hlk, hK, hA, hOL, hO, hQ, hW⟩ := hJ
  refine (hW _ _ _ _).mpr (fun H locs ls hP hD hS hl => ?_)
  obtain ⟨kk, hkk⟩ := List.getElem?_of_mem (lvP_mem (i := 3) (v := .int (iZ x)).mpr (show (a0 :: a1 :: a2 :: some (.int (iZ x)) :: lv)[3]? = _ from rfl))
  exact lv_iinc (v := iZ (x + n)) hx hb d hl.has hkk (iZ_add x n) hn rfl (fun ls2 h2 => (hW _ _ _ _).mp k H locs ls2 hP hD hS (hl.store rfl h2))
theorem v_ild4 (hJ : Snd l R cc nL own rt D tys O wld post X J) {a0 a1 a2 a3 : Option Value} {x : Int32} (d : decode cc pc = .ok (.iload 4, 2)) (k : J (pc + 2) (a0 :: a1 :: a2 :: a3 :: some (.int x) :: lv) (.int x :: st) u) : J pc (a0 :: a1 :: a2 :: a3 :: some (.int x) :: lv) st u := by
  obtain ⟨p, e, s, m, args, below, meth, c, A, Q⟩ := X
  obtain ⟨hx, hb, hml, hown, hts, hr, hlk, hK, hA, hOL, hO, hQ, hW⟩ := hJ
  refine (hW _ _ _ _).mpr (fun H locs ls hP hD hS hl => ?_)
  exact lv_iload hx hb d (hl.2.2 4 _ rfl).1 ((hW _ _ _ _).mp k H locs ls hP hD hS hl)
theorem v_ald4 (hJ : Snd l R cc nL own rt D tys O wld post X J) {a0 a1 a2 a3 : Option Value} {x : Nat} (d : decode cc pc = .ok (.aload 4, 2)) (k : J (pc + 2) (a0 :: a1 :: a2 :: a3 :: some (.ref x) :: lv) (.ref x :: st) u) : J pc (a0 :: a1 :: a2 :: a3 :: some (.ref x) :: lv) st u := by
  obtain ⟨p, e, s, m, args, below, meth, c, A, Q⟩ := X
  obtain ⟨hx, hb, hml, hown, hts, hr, hlk, hK, hA, hOL, hO, hQ, hW⟩ := hJ
  refine (hW _ _ _ _).mpr (fun H locs ls hP hD hS hl => ?_)
  exact lv_aload hx hb d (hl.2.2 4 _ rfl).1 ((hW _ _ _ _).mp k H locs ls hP hD hS hl)
theorem v_ist4 (hJ : Snd l R cc nL own rt D tys O wld post X J) {a0 a1 a2 a3 a4 : Option Value} {x : Int32} (d : decode cc pc = .ok (.istore 4, 2)) (hn : 4 < nL) (k : J (pc + 2) (a0 :: a1 :: a2 :: a3 :: some (.int x) :: lv) st u) : J pc (a0 :: a1 :: a2 :: a3 :: a4 :: lv) (.int x :: st) u := by
  obtain ⟨p, e, s, m, args, below, meth, c, A, Q⟩ := X
  obtain ⟨hx, hb, hml, hown, hts, hr, hlk, hK, hA, hOL, hO, hQ, hW⟩ := hJ
  refine (hW _ _ _ _).mpr (fun H locs ls hP hD hS hl => ?_)
  exact lv_istore hx hb d hl.has hn rfl (fun ls2 h2 => (hW _ _ _ _).mp k H locs ls2 hP hD hS (hl.store rfl h2))
theorem v_ast4 (hJ : Snd l R cc nL own rt D tys O wld post X J) {a0 a1 a2 a3 a4 : Option Value} {x : Nat} (d : decode cc pc = .ok (.astore 4, 2)) (hn : 4 < nL) (k : J (pc + 2) (a0 :: a1 :: a2 :: a3 :: some (.ref x) :: lv) st u) : J pc (a0 :: a1 :: a2 :: a3 :: a4 :: lv) (.ref x :: st) u := by
  obtain ⟨p, e, s, m, args, below, meth, c, A, Q⟩ := X
  obtain ⟨hx, hb, hml, hown, hts, hr, hlk, hK, hA, hOL, hO, hQ, hW⟩ := hJ
  refine (hW _ _ _ _).mpr (fun H locs ls hP hD hS hl => ?_)
  exact lv_astore hx hb d hl.has hn rfl (fun ls2 h2 => (hW _ _ _ _).mp k H locs ls2 hP hD hS (hl.store rfl h2))
theorem v_inc4 (hJ : Snd l R cc nL own rt D tys O wld post X J) {a0 a1 a2 a3 : Option Value} {x n : Int} (d : decode cc pc = .ok (.iinc 4 n, 3)) (hn : 4 < nL) (k : J (pc + 3) (a0 :: a1 :: a2 :: a3 :: some (.int (iZ (x + n))) :: lv) st u) : J pc (a0 :: a1 :: a2 :: a3 :: some (.int (iZ x)) :: lv) st u := by
  obtain ⟨p, e, s, m, args, below, meth, c, A, Q⟩ := X
  obtain ⟨hx, hb, hml, hown, hts, hr, hlk, hK, hA, hOL, hO, hQ, hW⟩ := hJ
  refine (hW _ _ _ _).mpr (fun H locs ls hP hD hS hl => ?_)
  obtain ⟨kk, hkk⟩ := List.getElem?_of_mem (lvP_mem (i := 4) (v := .int (iZ x)).mpr (show (a0 :: a1 :: a2 :: a3 :: some (.int (iZ x)) :: lv)[4]? = _ from rfl))
  exact lv_iinc (v := iZ (x + n)) hx hb d hl.has hkk (iZ_add x n) hn rfl (fun ls2 h2 => (hW _ _ _ _).mp k H locs ls2 hP hD hS (hl.store rfl h2))
theorem v_ild5 (hJ : Snd l R cc nL own rt D tys O wld post X J) {a0 a1 a2 a3 a4 : Option Value} {x : Int32} (d : decode cc pc = .ok (.iload 5, 2)) (k : J (pc + 2) (a0 :: a1 :: a2 :: a3 :: a4 :: some (.int x) :: lv) (.int x :: st) u) : J pc (a0 :: a1 :: a2 :: a3 :: a4 :: some (.int x) :: lv) st u := by
  obtain ⟨p, e, s, m, args, below, meth, c, A, Q⟩ := X
  obtain ⟨hx, hb, hml, hown, hts, hr, hlk, hK, hA, hOL, hO, hQ, hW⟩ := hJ
  refine (hW _ _ _ _).mpr (fun H locs ls hP hD hS hl => ?_)
  exact lv_iload hx hb d (hl.2.2 5 _ rfl).1 ((hW _ _ _ _).mp k H locs ls hP hD hS hl)
theorem v_ald5 (hJ : Snd l R cc nL own rt D tys O wld post X J) {a0 a1 a2 a3 a4 : Option Value} {x : Nat} (d : decode cc pc = .ok (.aload 5, 2)) (k : J (pc + 2) (a0 :: a1 :: a2 :: a3 :: a4 :: some (.ref x) :: lv) (.ref x :: st) u) : J pc (a0 :: a1 :: a2 :: a3 :: a4 :: some (.ref x) :: lv) st u := by
  obtain ⟨p, e, s, m, args, below, meth, c, A, Q⟩ := X
  obtain ⟨hx, hb, hml, hown, hts, hr, hlk, hK, hA, hOL, hO, hQ, hW⟩ := hJ
  refine (hW _ _ _ _).mpr (fun H locs ls hP hD hS hl => ?_)
  exact lv_aload hx hb d (hl.2.2 5 _ rfl).1 ((hW _ _ _ _).mp k H locs ls hP hD hS hl)
theorem v_ist5 (hJ : Snd l R cc nL own rt D tys O wld post X J) {a0 a1 a2 a3 a4 a5 : Option Value} {x : Int32} (d : decode cc pc = .ok (.istore 5, 2)) (hn : 5 < nL) (k : J (pc + 2) (a0 :: a1 :: a2 :: a3 :: a4 :: some (.int x) :: lv) st u) : J pc (a0 :: a1 :: a2 :: a3 :: a4 :: a5 :: lv) (.int x :: st) u := by
  obtain ⟨p, e, s, m, args, below, meth, c, A, Q⟩ := X
  obtain ⟨hx, hb, hml, hown, hts, hr, hlk, hK, hA, hOL, hO, hQ, hW⟩ := hJ
  refine (hW _ _ _ _).mpr (fun H locs ls hP hD hS hl => ?_)
  exact lv_istore hx hb d hl.has hn rfl (fun ls2 h2 => (hW _ _ _ _).mp k H locs ls2 hP hD hS (hl.store rfl h2))
theorem v_ast5 (hJ : Snd l R cc nL own rt D tys O wld post X J) {a0 a1 a2 a3 a4 a5 : Option Value} {x : Nat} (d : decode cc pc = .ok (.astore 5, 2)) (hn : 5 < nL) (k : J (pc + 2) (a0 :: a1 :: a2 :: a3 :: a4 :: some (.ref x) :: lv) st u) : J pc (a0 :: a1 :: a2 :: a3 :: a4 :: a5 :: lv) (.ref x :: st) u := by
  obtain ⟨p, e, s, m, args, below, meth, c, A, Q⟩ := X
  obtain ⟨hx, hb, hml, hown, hts, hr, hlk, hK, hA, hOL, hO, hQ, hW⟩ := hJ
  refine (hW _ _ _ _).mpr (fun H locs ls hP hD hS hl => ?_)
  exact lv_astore hx hb d hl.has hn rfl (fun ls2 h2 => (hW _ _ _ _).mp k H locs ls2 hP hD hS (hl.store rfl h2))
theorem v_inc5 (hJ : Snd l R cc nL own rt D tys O wld post X J) {a0 a1 a2 a3 a4 : Option Value} {x n : Int} (d : decode cc pc = .ok (.iinc 5 n, 3)) (hn : 5 < nL) (k : J (pc + 3) (a0 :: a1 :: a2 :: a3 :: a4 :: some (.int (iZ (x + n))) :: lv) st u) : J pc (a0 :: a1 :: a2 :: a3 :: a4 :: some (.int (iZ x)) :: lv) st u := by
  obtain ⟨p, e, s, m, args, below, meth, c, A, Q⟩ := X
  obtain ⟨hx, hb, hml, hown, hts, hr, hlk, hK, hA, hOL, hO, hQ, hW⟩ := hJ
  refine (hW _ _ _ _).mpr (fun H locs ls hP hD hS hl => ?_)
  obtain ⟨kk, hkk⟩ := List.getElem?_of_mem (lvP_mem (i := 5) (v := .int (iZ x)).mpr (show (a0 :: a1 :: a2 :: a3 :: a4 :: some (.int (iZ x)) :: lv)[5]? = _ from rfl))
  exact lv_iinc (v := iZ (x + n)) hx hb d hl.has hkk (iZ_add x n) hn rfl (fun ls2 h2 => (hW _ _ _ _).mp k H locs ls2 hP hD hS (hl.store rfl h2))
theorem v_ild6 (hJ : Snd l R cc nL own rt D tys O wld post X J) {a0 a1 a2 a3 a4 a5 : Option Value} {x : Int32} (d : decode cc pc = .ok (.iload 6, 2)) (k : J (pc + 2) (a0 :: a1 :: a2 :: a3 :: a4 :: a5 :: some (.int x) :: lv) (.int x :: st) u) : J pc (a0 :: a1 :: a2 :: a3 :: a4 :: a5 :: some (.int x) :: lv) st u := by
  obtain ⟨p, e, s, m, args, below, meth, c, A, Q⟩ := X
  obtain ⟨hx, hb, hml, hown, hts, hr, hlk, hK, hA, hOL, hO, hQ, hW⟩ := hJ
  refine (hW _ _ _ _).mpr (fun H locs ls hP hD hS hl => ?_)
  exact lv_iload hx hb d (hl.2.2 6 _ rfl).1 ((hW _ _ _ _).mp k H locs ls hP hD hS hl)
theorem v_ald6 (hJ : Snd l R cc nL own rt D tys O wld post X J) {a0 a1 a2 a3 a4 a5 : Option Value} {x : Nat} (d : decode cc pc = .ok (.aload 6, 2)) (k : J (pc + 2) (a0 :: a1 :: a2 :: a3 :: a4 :: a5 :: some (.ref x) :: lv) (.ref x :: st) u) : J pc (a0 :: a1 :: a2 :: a3 :: a4 :: a5 :: some (.ref x) :: lv) st u := by
  obtain ⟨p, e, s, m, args, below, meth, c, A, Q⟩ := X
  obtain ⟨hx, hb, hml, hown, hts, hr, hlk, hK, hA, hOL, hO, hQ, hW⟩ := hJ
  refine (hW _ _ _ _).mpr (fun H locs ls hP hD hS hl => ?_)
  exact lv_aload hx hb d (hl.2.2 6 _ rfl).1 ((hW _ _ _ _).mp k H locs ls hP hD hS hl)
theorem v_ist6 (hJ : Snd l R cc nL own rt D tys O wld post X J) {a0 a1 a2 a3 a4 a5 a6 : Option Value} {x : Int32} (d : decode cc pc = .ok (.istore 6, 2)) (hn : 6 < nL) (k : J (pc + 2) (a0 :: a1 :: a2 :: a3 :: a4 :: a5 :: some (.int x) :: lv) st u) : J pc (a0 :: a1 :: a2 :: a3 :: a4 :: a5 :: a6 :: lv) (.int x :: st) u := by
  obtain ⟨p, e, s, m, args, below, meth, c, A, Q⟩ := X
  obtain ⟨hx, hb, hml, hown, hts, hr, hlk, hK, hA, hOL, hO, hQ, hW⟩ := hJ
  refine (hW _ _ _ _).mpr (fun H locs ls hP hD hS hl => ?_)
  exact lv_istore hx hb d hl.has hn rfl (fun ls2 h2 => (hW _ _ _ _).mp k H locs ls2 hP hD hS (hl.store rfl h2))
theorem v_ast6 (hJ : Snd l R cc nL own rt D tys O wld post X J) {a0 a1 a2 a3 a4 a5 a6 : Option Value} {x : Nat} (d : decode cc pc = .ok (.astore 6, 2)) (hn : 6 < nL) (k : J (pc + 2) (a0 :: a1 :: a2 :: a3 :: a4 :: a5 :: some (.ref x) :: lv) st u) : J pc (a0 :: a1 :: a2 :: a3 :: a4 :: a5 :: a6 :: lv) (.ref x :: st) u := by
  obtain ⟨p, e, s, m, args, below, meth, c, A, Q⟩ := X
  obtain ⟨hx, hb, hml, hown, hts, hr, hlk, hK, hA, hOL, hO, hQ, hW⟩ := hJ
  refine (hW _ _ _ _).mpr (fun H locs ls hP hD hS hl => ?_)
  exact lv_astore hx hb d hl.has hn rfl (fun ls2 h2 => (hW _ _ _ _).mp k H locs ls2 hP hD hS (hl.store rfl h2))
theorem v_inc6 (hJ : Snd l R cc nL own rt D tys O wld post X J) {a0 a1 a2 a3 a4 a5 : Option Value} {x n : Int} (d : decode cc pc = .ok (.iinc 6 n, 3)) (hn : 6 < nL) (k : J (pc + 3) (a0 :: a1 :: a2 :: a3 :: a4 :: a5 :: some (.int (iZ (x + n))) :: lv) st u) : J pc (a0 :: a1 :: a2 :: a3 :: a4 :: a5 :: some (.int (iZ x)) :: lv) st u := by
  obtain ⟨p, e, s, m, args, below, meth, c, A, Q⟩ := X
  obtain ⟨hx, hb, hml, hown, hts, hr, hlk, hK, hA, hOL, hO, hQ, hW⟩ := hJ
  refine (hW _ _ _ _).mpr (fun H locs ls hP hD hS hl => ?_)
  obtain ⟨kk, hkk⟩ := List.getElem?_of_mem (lvP_mem (i := 6) (v := .int (iZ x)).mpr (show (a0 :: a1 :: a2 :: a3 :: a4 :: a5 :: some (.int (iZ x)) :: lv)[6]? = _ from rfl))
  exact lv_iinc (v := iZ (x + n)) hx hb d hl.has hkk (iZ_add x n) hn rfl (fun ls2 h2 => (hW _ _ _ _).mp k H locs ls2 hP hD hS (hl.store rfl h2))
theorem v_ild7 (hJ : Snd l R cc nL own rt D tys O wld post X J) {a0 a1 a2 a3 a4 a5 a6 : Option Value} {x : Int32} (d : decode cc pc = .ok (.iload 7, 2)) (k : J (pc + 2) (a0 :: a1 :: a2 :: a3 :: a4 :: a5 :: a6 :: some (.int x) :: lv) (.int x :: st) u) : J pc (a0 :: a1 :: a2 :: a3 :: a4 :: a5 :: a6 :: some (.int x) :: lv) st u := by
  obtain ⟨p, e, s, m, args, below, meth, c, A, Q⟩ := X
  obtain ⟨hx, hb, hml, hown, hts, hr, hlk, hK, hA, hOL, hO, hQ, hW⟩ := hJ
  refine (hW _ _ _ _).mpr (fun H locs ls hP hD hS hl => ?_)
  exact lv_iload hx hb d (hl.2.2 7 _ rfl).1 ((hW _ _ _ _).mp k H locs ls hP hD hS hl)
theorem v_ald7 (hJ : Snd l R cc nL own rt D tys O wld post X J) {a0 a1 a2 a3 a4 a5 a6 : Option Value} {x : Nat} (d : decode cc pc = .ok (.aload 7, 2)) (k : J (pc + 2) (a0 :: a1 :: a2 :: a3 :: a4 :: a5 :: a6 :: some (.ref x) :: lv) (.ref x :: st) u) : J pc (a0 :: a1 :: a2 :: a3 :: a4 :: a5 :: a6 :: some (.ref x) :: lv) st u := by
  obtain ⟨p, e, s, m, args, below, meth, c, A, Q⟩ := X
  obtain ⟨hx, hb, hml, hown, hts, hr, hlk, hK, hA, hOL, hO, hQ, hW⟩ := hJ
  refine (hW _ _ _ _).mpr (fun H locs ls hP hD hS hl => ?_)
  exact lv_aload hx hb d (hl.2.2 7 _ rfl).1 ((hW _ _ _ _).mp k H locs ls hP hD hS hl)
theorem v_ist7 (hJ : Snd l R cc nL own rt D tys O wld post X J) {a0 a1 a2 a3 a4 a5 a6 a7 : Option Value} {x : Int32} (d : decode cc pc = .ok (.istore 7, 2)) (hn : 7 < nL) (k : J (pc + 2) (a0 :: a1 :: a2 :: a3 :: a4 :: a5 :: a6 :: some (.int x) :: lv) st u) : J pc (a0 :: a1 :: a2 :: a3 :: a4 :: a5 :: a6 :: a7 :: lv) (.int x :: st) u := by
  obtain ⟨p, e, s, m, args, below, meth, c, A, Q⟩ := X
  obtain ⟨hx, hb, hml, hown, hts, hr, hlk, hK, hA, hOL, hO, hQ, hW⟩ := hJ
  refine (hW _ _ _ _).mpr (fun H locs ls hP hD hS hl => ?_)
  exact lv_istore hx hb d hl.has hn rfl (fun ls2 h2 => (hW _ _ _ _).mp k H locs ls2 hP hD hS (hl.store rfl h2))
theorem v_ast7 (hJ : Snd l R cc nL own rt D tys O wld post X J) {a0 a1 a2 a3 a4 a5 a6 a7 : Option Value} {x : Nat} (d : decode cc pc = .ok (.astore 7, 2)) (hn : 7 < nL) (k : J (pc + 2) (a0 :: a1 :: a2 :: a3 :: a4 :: a5 :: a6 :: some (.ref x) :: lv) st u) : J pc (a0 :: a1 :: a2 :: a3 :: a4 :: a5 :: a6 :: a7 :: lv) (.ref x :: st) u := by
  obtain ⟨p, e, s, m, args, below, meth, c, A, Q⟩ := X
  obtain ⟨hx, hb, hml, hown, hts, hr, hlk, hK, hA, hOL, hO, hQ, hW⟩ := hJ
  refine (hW _ _ _ _).mpr (fun H locs ls hP hD hS hl => ?_)
  exact lv_astore hx hb d hl.has hn rfl (fun ls2 h2 => (hW _ _ _ _).mp k H locs ls2 hP hD hS (hl.store rfl h2))
theorem v_inc7 (hJ : Snd l R cc nL own rt D tys O wld post X J) {a0 a1 a2 a3 a4 a5 a6 : Option Value} {x n : Int} (d : decode cc pc = .ok (.iinc 7 n, 3)) (hn : 7 < nL) (k : J (pc + 3) (a0 :: a1 :: a2 :: a3 :: a4 :: a5 :: a6 :: some (.int (iZ (x + n))) :: lv) st u) : J pc (a0 :: a1 :: a2 :: a3 :: a4 :: a5 :: a6 :: some (.int (iZ x)) :: lv) st u := by
  obtain ⟨p, e, s, m, args, below, meth, c, A, Q⟩ := X
  obtain ⟨hx, hb, hml, hown, hts, hr, hlk, hK, hA, hOL, hO, hQ, hW⟩ := hJ
  refine (hW _ _ _ _).mpr (fun H locs ls hP hD hS hl => ?_)
  obtain ⟨kk, hkk⟩ := List.getElem?_of_mem (lvP_mem (i := 7) (v := .int (iZ x)).mpr (show (a0 :: a1 :: a2 :: a3 :: a4 :: a5 :: a6 :: some (.int (iZ x)) :: lv)[7]? = _ from rfl))
  exact lv_iinc (v := iZ (x + n)) hx hb d hl.has hkk (iZ_add x n) hn rfl (fun ls2 h2 => (hW _ _ _ _).mp k H locs ls2 hP hD hS (hl.store rfl h2))
theorem v_ild8 (hJ : Snd l R cc nL own rt D tys O wld post X J) {a0 a1 a2 a3 a4 a5 a6 a7 : Option Value} {x : Int32} (d : decode cc pc = .ok (.iload 8, 2)) (k : J (pc + 2) (a0 :: a1 :: a2 :: a3 :: a4 :: a5 :: a6 :: a7 :: some (.int x) :: lv) (.int x :: st) u) : J pc (a0 :: a1 :: a2 :: a3 :: a4 :: a5 :: a6 :: a7 :: some (.int x) :: lv) st u := by
  obtain ⟨p, e, s, m, args, below, meth, c, A, Q⟩ := X
  obtain ⟨hx, hb, hml, hown, hts, hr, hlk, hK, hA, hOL, hO, hQ, hW⟩ := hJ
  refine (hW _ _ _ _).mpr (fun H locs ls hP hD hS hl => ?_)
  exact lv_iload hx hb d (hl.2.2 8 _ rfl).1 ((hW _ _ _ _).mp k H locs ls hP hD hS hl)
theorem v_ald8 (hJ : Snd l R cc nL own rt D tys O wld post X J) {a0 a1 a2 a3 a4 a5 a6 a7 : Option Value} {x : Nat} (d : decode cc pc = .ok (.aload 8, 2)) (k : J (pc + 2) (a0 :: a1 :: a2 :: a3 :: a4 :: a5 :: a6 :: a7 :: some (.ref x) :: lv) (.ref x :: st) u) : J pc (a0 :: a1 :: a2 :: a3 :: a4 :: a5 :: a6 :: a7 :: some (.ref x) :: lv) st u := by
  obtain ⟨p, e, s, m, args, below, meth, c, A, Q⟩ := X
  obtain ⟨hx, hb, hml, hown, hts, hr, hlk, hK, hA, hOL, hO, hQ, hW⟩ := hJ
  refine (hW _ _ _ _).mpr (fun H locs ls hP hD hS hl => ?_)
  exact lv_aload hx hb d (hl.2.2 8 _ rfl).1 ((hW _ _ _ _).mp k H locs ls hP hD hS hl)
theorem v_ist8 (hJ : Snd l R cc nL own rt D tys O wld post X J) {a0 a1 a2 a3 a4 a5 a6 a7 a8 : Option Value} {x : Int32} (d : decode cc pc = .ok (.istore 8, 2)) (hn : 8 < nL) (k : J (pc + 2) (a0 :: a1 :: a2 :: a3 :: a4 :: a5 :: a6 :: a7 :: some (.int x) :: lv) st u) : J pc (a0 :: a1 :: a2 :: a3 :: a4 :: a5 :: a6 :: a7 :: a8 :: lv) (.int x :: st) u := by
  obtain ⟨p, e, s, m, args, below, meth, c, A, Q⟩ := X
  obtain ⟨hx, hb, hml, hown, hts, hr, hlk, hK, hA, hOL, hO, hQ, hW⟩ := hJ
  refine (hW _ _ _ _).mpr (fun H locs ls hP hD hS hl => ?_)
  exact lv_istore hx hb d hl.has hn rfl (fun ls2 h2 => (hW _ _ _ _).mp k H locs ls2 hP hD hS (hl.store rfl h2))
theorem v_ast8 (hJ : Snd l R cc nL own rt D tys O wld post X J) {a0 a1 a2 a3 a4 a5 a6 a7 a8 : Option Value} {x : Nat} (d : decode cc pc = .ok (.astore 8, 2)) (hn : 8 < nL) (k : J (pc + 2) (a0 :: a1 :: a2 :: a3 :: a4 :: a5 :: a6 :: a7 :: some (.ref x) :: lv) st u) : J pc (a0 :: a1 :: a2 :: a3 :: a4 :: a5 :: a6 :: a7 :: a8 :: lv) (.ref x :: st) u := by
  obtain ⟨p, e, s, m, args, below, meth, c, A, Q⟩ := X
  obtain ⟨hx, hb, hml, hown, hts, hr, hlk, hK, hA, hOL, hO, hQ, hW⟩ := hJ
  refine (hW _ _ _ _).mpr (fun H locs ls hP hD hS hl => ?_)
  exact lv_astore hx hb d hl.has hn rfl (fun ls2 h2 => (hW _ _ _ _).mp k H locs ls2 hP hD hS (hl.store rfl h2))
theorem v_inc8 (hJ : Snd l R cc nL own rt D tys O wld post X J) {a0 a1 a2 a3 a4 a5 a6 a7 : Option Value} {x n : Int} (d : decode cc pc = .ok (.iinc 8 n, 3)) (hn : 8 < nL) (k : J (pc + 3) (a0 :: a1 :: a2 :: a3 :: a4 :: a5 :: a6 :: a7 :: some (.int (iZ (x + n))) :: lv) st u) : J pc (a0 :: a1 :: a2 :: a3 :: a4 :: a5 :: a6 :: a7 :: some (.int (iZ x)) :: lv) st u := by
  obtain ⟨p, e, s, m, args, below, meth, c, A, Q⟩ := X
  obtain ⟨hx, hb, hml, hown, hts, hr, hlk, hK, hA, hOL, hO, hQ, hW⟩ := hJ
  refine (hW _ _ _ _).mpr (fun H locs ls hP hD hS hl => ?_)
  obtain ⟨kk, hkk⟩ := List.getElem?_of_mem (lvP_mem (i := 8) (v := .int (iZ x)).mpr (show (a0 :: a1 :: a2 :: a3 :: a4 :: a5 :: a6 :: a7 :: some (.int (iZ x)) :: lv)[8]? = _ from rfl))
  exact lv_iinc (v := iZ (x + n)) hx hb d hl.has hkk (iZ_add x n) hn rfl (fun ls2 h2 => (hW _ _ _ _).mp k H locs ls2 hP hD hS (hl.store rfl h2))
theorem v_ild9 (hJ : Snd l R cc nL own rt D tys O wld post X J) {a0 a1 a2 a3 a4 a5 a6 a7 a8 : Option Value} {x : Int32} (d : decode cc pc = .ok (.iload 9, 2)) (k : J (pc + 2) (a0 :: a1 :: a2 :: a3 :: a4 :: a5 :: a6 :: a7 :: a8 :: some (.int x) :: lv) (.int x :: st) u) : J pc (a0 :: a1 :: a2 :: a3 :: a4 :: a5 :: a6 :: a7 :: a8 :: some (.int x) :: lv) st u := by
  obtain ⟨p, e, s, m, args, below, meth, c, A, Q⟩ := X
  obtain ⟨hx, hb, hml, hown, hts, hr, hlk, hK, hA, hOL, hO, hQ, hW⟩ := hJ
  refine (hW _ _ _ _).mpr (fun H locs ls hP hD hS hl => ?_)
  exact lv_iload hx hb d (hl.2.2 9 _ rfl).1 ((hW _ _ _ _).mp k H locs ls hP hD hS hl)
theorem v_ald9 (hJ : Snd l R cc nL own rt D tys O wld post X J) {a0 a1 a2 a3 a4 a5 a6 a7 a8 : Option Value} {x : Nat} (d : decode cc pc = .ok (.aload 9, 2)) (k : J (pc + 2) (a0 :: a1 :: a2 :: a3 :: a4 :: a5 :: a6 :: a7 :: a8 :: some (.ref x) :: lv) (.ref x :: st) u) : J pc (a0 :: a1 :: a2 :: a3 :: a4 :: a5 :: a6 :: a7 :: a8 :: some (.ref x) :: lv) st u := by
  obtain ⟨p, e, s, m, args, below, meth, c, A, Q⟩ := X
  obtain ⟨hx, hb, hml, hown, hts, hr, hlk, hK, hA, hOL, hO, hQ, hW⟩ := hJ
  refine (hW _ _ _ _).mpr (fun H locs ls hP hD hS hl => ?_)
  exact lv_aload hx hb d (hl.2.2 9 _ rfl).1 ((hW _ _ _ _).mp k H locs ls hP hD hS hl)
theorem v_ist9 (hJ : Snd l R cc nL own rt D tys O wld post X J) {a0 a1 a2 a3 a4 a5 a6 a7 a8 a9 : Option Value} {x : Int32} (d : decode cc pc = .ok (.istore 9, 2)) (hn : 9 < nL) (k : J (pc + 2) (a0 :: a1 :: a2 :: a3 :: a4 :: a5 :: a6 :: a7 :: a8 :: some (.int x) :: lv) st u) : J pc (a0 :: a1 :: a2 :: a3 :: a4 :: a5 :: a6 :: a7 :: a8 :: a9 :: lv) (.int x :: st) u := by
  obtain ⟨p, e, s, m, args, below, meth, c, A, Q⟩ := X
  obtain ⟨hx, hb, hml, hown, hts, hr, hlk, hK, hA, hOL, hO, hQ, hW⟩ := hJ
  refine (hW _ _ _ _).mpr (fun H locs ls hP hD hS hl => ?_)
  exact lv_istore hx hb d hl.has hn rfl (fun ls2 h2 => (hW _ _ _ _).mp k H locs ls2 hP hD hS (hl.store rfl h2))
theorem v_ast9 (hJ : Snd l R cc nL own rt D tys O wld post X J) {a0 a1 a2 a3 a4 a5 a6 a7 a8 a9 : Option Value} {x : Nat} (d : decode cc pc = .ok (.astore 9, 2)) (hn : 9 < nL) (k : J (pc + 2) (a0 :: a1 :: a2 :: a3 :: a4 :: a5 :: a6 :: a7 :: a8 :: some (.ref x) :: lv) st u) : J pc (a0 :: a1 :: a2 :: a3 :: a4 :: a5 :: a6 :: a7 :: a8 :: a9 :: lv) (.ref x :: st) u := by
  obtain ⟨p, e, s, m, args, below, meth, c, A, Q⟩ := X
  obtain ⟨hx, hb, hml, hown, hts, hr, hlk, hK, hA, hOL, hO, hQ, hW⟩ := hJ
  refine (hW _ _ _ _).mpr (fun H locs ls hP hD hS hl => ?_)
  exact lv_astore hx hb d hl.has hn rfl (fun ls2 h2 => (hW _ _ _ _).mp k H locs ls2 hP hD hS (hl.store rfl h2))
theorem v_inc9 (hJ : Snd l R cc nL own rt D tys O wld post X J) {a0 a1 a2 a3 a4 a5 a6 a7 a8 : Option Value} {x n : Int} (d : decode cc pc = .ok (.iinc 9 n, 3)) (hn : 9 < nL) (k : J (pc + 3) (a0 :: a1 :: a2 :: a3 :: a4 :: a5 :: a6 :: a7 :: a8 :: some (.int (iZ (x + n))) :: lv) st u) : J pc (a0 :: a1 :: a2 :: a3 :: a4 :: a5 :: a6 :: a7 :: a8 :: some (.int (iZ x)) :: lv) st u := by
  obtain ⟨p, e, s, m, args, below, meth, c, A, Q⟩ := X
  obtain ⟨hx, hb, hml, hown, hts, hr, hlk, hK, hA, hOL, hO, hQ, hW⟩ := hJ
  refine (hW _ _ _ _).mpr (fun H locs ls hP hD hS hl => ?_)
  obtain ⟨kk, hkk⟩ := List.getElem?_of_mem (lvP_mem (i := 9) (v := .int (iZ x)).mpr (show (a0 :: a1 :: a2 :: a3 :: a4 :: a5 :: a6 :: a7 :: a8 :: some (.int (iZ x)) :: lv)[9]? = _ from rfl))
  exact lv_iinc (v := iZ (x + n)) hx hb d hl.has hkk (iZ_add x n) hn rfl (fun ls2 h2 => (hW _ _ _ _).mp k H locs ls2 hP hD hS (hl.store rfl h2))
theorem v_ild10 (hJ : Snd l R cc nL own rt D tys O wld post X J) {a0 a1 a2 a3 a4 a5 a6 a7 a8 a9 : Option Value} {x : Int32} (d : decode cc pc = .ok (.iload 10, 2)) (k : J (pc + 2) (a0 :: a1 :: a2 :: a3 :: a4 :: a5 :: a6 :: a7 :: a8 :: a9 :: some (.int x) :: lv) (.int x :: st) u) : J pc (a0 :: a1 :: a2 :: a3 :: a4 :: a5 :: a6 :: a7 :: a8 :: a9 :: some (.int x) :: lv) st u := by
  obtain ⟨p, e, s, m, args, below, meth, c, A, Q⟩ := X
  obtain ⟨hx, hb, hml, hown, hts, hr, hlk, hK, hA, hOL, hO, hQ, hW⟩ := hJ
  refine (hW _ _ _ _).mpr (fun H locs ls hP hD hS hl => ?_)
  exact lv_iload hx hb d (hl.2.2 10 _ rfl).1 ((hW _ _ _ _).mp k H locs ls hP hD hS hl)
theorem v_ald10 (hJ : Snd l R cc nL own rt D tys O wld post X J) {a0 a1 a2 a3 a4 a5 a6 a7 a8 a9 : Option Value} {x : Nat} (d : decode cc pc = .ok (.aload 10, 2)) (k : J (pc + 2) (a0 :: a1 :: a2 :: a3 :: a4 :: a5 :: a6 :: a7 :: a8 :: a9 :: some (.ref x) :: lv) (.ref x :: st) u) : J pc (a0 :: a1 :: a2 :: a3 :: a4 :: a5 :: a6 :: a7 :: a8 :: a9 :: some (.ref x) :: lv) st u := by
  obtain ⟨p, e, s, m, args, below, meth, c, A, Q⟩ := X
  obtain ⟨hx, hb, hml, hown, hts, hr, hlk, hK, hA, hOL, hO, hQ, hW⟩ := hJ
  refine (hW _ _ _ _).mpr (fun H locs ls hP hD hS hl => ?_)
  exact lv_aload hx hb d (hl.2.2 10 _ rfl).1 ((hW _ _ _ _).mp k H locs ls hP hD hS hl)
theorem v_ist10 (hJ : Snd l R cc nL own rt D tys O wld post X J) {a0 a1 a2 a3 a4 a5 a6 a7 a8 a9 a10 : Option Value} {x : Int32} (d : decode cc pc = .ok (.istore 10, 2)) (hn : 10 < nL) (k : J (pc + 2) (a0 :: a1 :: a2 :: a3 :: a4 :: a5 :: a6 :: a7 :: a8 :: a9 :: some (.int x) :: lv) st u) : J pc (a0 :: a1 :: a2 :: a3 :: a4 :: a5 :: a6 :: a7 :: a8 :: a9 :: a10 :: lv) (.int x :: st) u := by
  obtain ⟨p, e, s, m, args, below, meth, c, A, Q⟩ := X
  obtain ⟨hx, hb, hml, hown, hts, hr, hlk, hK, hA, hOL, hO, hQ, hW⟩ := hJ
  refine (hW _ _ _ _).mpr (fun H locs ls hP hD hS hl => ?_)
  exact lv_istore hx hb d hl.has hn rfl (fun ls2 h2 => (hW _ _ _ _).mp k H locs ls2 hP hD hS (hl.store rfl h2))
theorem v_ast10 (hJ : Snd l R cc nL own rt D tys O wld post X J) {a0 a1 a2 a3 a4 a5 a6 a7 a8 a9 a10 : Option Value} {x : Nat} (d : decode cc pc = .ok (.astore 10, 2)) (hn : 10 < nL) (k : J (pc + 2) (a0 :: a1 :: a2 :: a3 :: a4 :: a5 :: a6 :: a7 :: a8 :: a9 :: some (.ref x) :: lv) st u) : J pc (a0 :: a1 :: a2 :: a3 :: a4 :: a5 :: a6 :: a7 :: a8 :: a9 :: a10 :: lv) (.ref x :: st) u := by
  obtain ⟨p, e, s, m, args, below, meth, c, A, Q⟩ := X
  obtain ⟨hx, hb, hml, hown, hts, hr, hlk, hK, hA, hOL, hO, hQ, hW⟩ := hJ
  refine (hW _ _ _ _).mpr (fun H locs ls hP hD hS hl => ?_)
  exact lv_astore hx hb d hl.has hn rfl (fun ls2 h2 => (hW _ _ _ _).mp k H locs ls2 hP hD hS (hl.store rfl h2))
theorem v_inc10 (hJ : Snd l R cc nL own rt D tys O wld post X J) {a0 a1 a2 a3 a4 a5 a6 a7 a8 a9 : Option Value} {x n : Int} (d : decode cc pc = .ok (.iinc 10 n, 3)) (hn : 10 < nL) (k : J (pc + 3) (a0 :: a1 :: a2 :: a3 :: a4 :: a5 :: a6 :: a7 :: a8 :: a9 :: some (.int (iZ (x + n))) :: lv) st u) : J pc (a0 :: a1 :: a2 :: a3 :: a4 :: a5 :: a6 :: a7 :: a8 :: a9 :: some (.int (iZ x)) :: lv) st u := by
  obtain ⟨p, e, s, m, args, below, meth, c, A, Q⟩ := X
  obtain ⟨hx, hb, hml, hown, hts, hr, hlk, hK, hA, hOL, hO, hQ, hW⟩ := hJ
  refine (hW _ _ _ _).mpr (fun H locs ls hP hD hS hl => ?_)
  obtain ⟨kk, hkk⟩ := List.getElem?_of_mem (lvP_mem (i := 10) (v := .int (iZ x)).mpr (show (a0 :: a1 :: a2 :: a3 :: a4 :: a5 :: a6 :: a7 :: a8 :: a9 :: some (.int (iZ x)) :: lv)[10]? = _ from rfl))
  exact lv_iinc (v := iZ (x + n)) hx hb d hl.has hkk (iZ_add x n) hn rfl (fun ls2 h2 => (hW _ _ _ _).mp k H locs ls2 hP hD hS (hl.store rfl h2))
theorem v_ild11 (hJ : Snd l R cc nL own rt D tys O wld post X J) {a0 a1 a2 a3 a4 a5 a6 a7 a8 a9 a10 : Option Value} {x : Int32} (d : decode cc pc = .ok (.iload 11, 2)) (k : J (pc + 2) (a0 :: a1 :: a2 :: a3 :: a4 :: a5 :: a6 :: a7 :: a8 :: a9 :: a10 :: some (.int x) :: lv) (.int x :: st) u) : J pc (a0 :: a1 :: a2 :: a3 :: a4 :: a5 :: a6 :: a7 :: a8 :: a9 :: a10 :: some (.int x) :: lv) st u := by
  obtain ⟨p, e, s, m, args, below, meth, c, A, Q⟩ := X
  obtain ⟨hx, hb, hml, hown, hts, hr, hlk, hK, hA, hOL, hO, hQ, hW⟩ := hJ
  refine (hW _ _ _ _).mpr (fun H locs ls hP hD hS hl => ?_)
  exact lv_iload hx hb d (hl.2.2 11 _ rfl).1 ((hW _ _ _ _).mp k H locs ls hP hD hS hl)
theorem v_ald11 (hJ : Snd l R cc nL own rt D tys O wld post X J) {a0 a1 a2 a3 a4 a5 a6 a7 a8 a9 a10 : Option Value} {x : Nat} (d : decode cc pc = .ok (.aload 11, 2)) (k : J (pc + 2) (a0 :: a1 :: a2 :: a3 :: a4 :: a5 :: a6 :: a7 :: a8 :: a9 :: a10 :: some (.ref x) :: lv) (.ref x :: st) u) : J pc (a0 :: a1 :: a2 :: a3 :: a4 :: a5 :: a6 :: a7 :: a8 :: a9 :: a10 :: some (.ref x) :: lv) st u := by
  obtain ⟨p, e, s, m, args, below, meth, c, A, Q⟩ := X
  obtain ⟨hx, hb, hml, hown, hts, hr, hlk, hK, hA, hOL, hO, hQ, hW⟩ := hJ
  refine (hW _ _ _ _).mpr (fun H locs ls hP hD hS hl => ?_)
  exact lv_aload hx hb d (hl.2.2 11 _ rfl).1 ((hW _ _ _ _).mp k H locs ls hP hD hS hl)
theorem v_ist11 (hJ : Snd l R cc nL own rt D tys O wld post X J) {a0 a1 a2 a3 a4 a5 a6 a7 a8 a9 a10 a11 : Option Value} {x : Int32} (d : decode cc pc = .ok (.istore 11, 2)) (hn : 11 < nL) (k : J (pc + 2) (a0 :: a1 :: a2 :: a3 :: a4 :: a5 :: a6 :: a7 :: a8 :: a9 :: a10 :: some (.int x) :: lv) st u) : J pc (a0 :: a1 :: a2 :: a3 :: a4 :: a5 :: a6 :: a7 :: a8 :: a9 :: a10 :: a11 :: lv) (.int x :: st) u := by
  obtain ⟨p, e, s, m, args, below, meth, c, A, Q⟩ := X
  obtain ⟨hx, hb, hml, hown, hts, hr, hlk, hK, hA, hOL, hO, hQ, hW⟩ := hJ
  refine (hW _ _ _ _).mpr (fun H locs ls hP hD hS hl => ?_)
  exact lv_istore hx hb d hl.has hn rfl (fun ls2 h2 => (hW _ _ _ _).mp k H locs ls2 hP hD hS (hl.store rfl h2))
theorem v_ast11 (hJ : Snd l R cc nL own rt D tys O wld post X J) {a0 a1 a2 a3 a4 a5 a6 a7 a8 a9 a10 a11 : Option Value} {x : Nat} (d : decode cc pc = .ok (.astore 11, 2)) (hn : 11 < nL) (k : J (pc + 2) (a0 :: a1 :: a2 :: a3 :: a4 :: a5 :: a6 :: a7 :: a8 :: a9 :: a10 :: some (.ref x) :: lv) st u) : J pc (a0 :: a1 :: a2 :: a3 :: a4 :: a5 :: a6 :: a7 :: a8 :: a9 :: a10 :: a11 :: lv) (.ref x :: st) u := by
  obtain ⟨p, e, s, m, args, below, meth, c, A, Q⟩ := X
  obtain ⟨hx, hb, hml, hown, hts, hr, hlk, hK, hA, hOL, hO, hQ, hW⟩ := hJ
  refine (hW _ _ _ _).mpr (fun H locs ls hP hD hS hl => ?_)
  exact lv_astore hx hb d hl.has hn rfl (fun ls2 h2 => (hW _ _ _ _).mp k H locs ls2 hP hD hS (hl.store rfl h2))
theorem v_inc11 (hJ : Snd l R cc nL own rt D tys O wld post X J) {a0 a1 a2 a3 a4 a5 a6 a7 a8 a9 a10 : Option Value} {x n : Int} (d : decode cc pc = .ok (.iinc 11 n, 3)) (hn : 11 < nL) (k : J (pc + 3) (a0 :: a1 :: a2 :: a3 :: a4 :: a5 :: a6 :: a7 :: a8 :: a9 :: a10 :: some (.int (iZ (x + n))) :: lv) st u) : J pc (a0 :: a1 :: a2 :: a3 :: a4 :: a5 :: a6 :: a7 :: a8 :: a9 :: a10 :: some (.int (iZ x)) :: lv) st u := by
  obtain ⟨p, e, s, m, args, below, meth, c, A, Q⟩ := X
  obtain ⟨hx, hb, hml, hown, hts, hr, hlk, hK, hA, hOL, hO, hQ, hW⟩ := hJ
  refine (hW _ _ _ _).mpr (fun H locs ls hP hD hS hl => ?_)
  obtain ⟨kk, hkk⟩ := List.getElem?_of_mem (lvP_mem (i := 11) (v := .int (iZ x)).mpr (show (a0 :: a1 :: a2 :: a3 :: a4 :: a5 :: a6 :: a7 :: a8 :: a9 :: a10 :: some (.int (iZ x)) :: lv)[11]? = _ from rfl))
  exact lv_iinc (v := iZ (x + n)) hx hb d hl.has hkk (iZ_add x n) hn rfl (fun ls2 h2 => (hW _ _ _ _).mp k H locs ls2 hP hD hS (hl.store rfl h2))
theorem v_ild12 (hJ : Snd l R cc nL own rt D tys O wld post X J) {a0 a1 a2 a3 a4 a5 a6 a7 a8 a9 a10 a11 : Option Value} {x : Int32} (d : decode cc pc = .ok (.iload 12, 2)) (k : J (pc + 2) (a0 :: a1 :: a2 :: a3 :: a4 :: a5 :: a6 :: a7 :: a8 :: a9 :: a10 :: a11 :: some (.int x) :: lv) (.int x :: st) u) : J pc (a0 :: a1 :: a2 :: a3 :: a4 :: a5 :: a6 :: a7 :: a8 :: a9 :: a10 :: a11 :: some (.int x) :: lv) st u := by
  obtain ⟨p, e, s, m, args, below, meth, c, A, Q⟩ := X
  obtain ⟨hx, hb, hml, hown, hts, hr, hlk, hK, hA, hOL, hO, hQ, hW⟩ := hJ
  refine (hW _ _ _ _).mpr (fun H locs ls hP hD hS hl => ?_)
  exact lv_iload hx hb d (hl.2.2 12 _ rfl).1 ((hW _ _ _ _).mp k H locs ls hP hD hS hl)
theorem v_ald12 (hJ : Snd l R cc nL own rt D tys O wld post X J) {a0 a1 a2 a3 a4 a5 a6 a7 a8 a9 a10 a11 : Option Value} {x : Nat} (d : decode cc pc = .ok (.aload 12, 2)) (k : J (pc + 2) (a0 :: a1 :: a2 :: a3 :: a4 :: a5 :: a6 :: a7 :: a8 :: a9 :: a10 :: a11 :: some (.ref x) :: lv) (.ref x :: st) u) : J pc (a0 :: a1 :: a2 :: a3 :: a4 :: a5 :: a6 :: a7 :: a8 :: a9 :: a10 :: a11 :: some (.ref x) :: lv) st u := by
  obtain ⟨p, e, s, m, args, below, meth, c, A, Q⟩ := X
  obtain ⟨hx, hb, hml, hown, hts, hr, hlk, hK, hA, hOL, hO, hQ, hW⟩ := hJ
  refine (hW _ _ _ _).mpr (fun H locs ls hP hD hS hl => ?_)
  exact lv_aload hx hb d (hl.2.2 12 _ rfl).1 ((hW _ _ _ _).mp k H locs ls hP hD hS hl)
theorem v_ist12 (hJ : Snd l R cc nL own rt D tys O wld post X J) {a0 a1 a2 a3 a4 a5 a6 a7 a8 a9 a10 a11 a12 : Option Value} {x : Int32} (d : decode cc pc = .ok (.istore 12, 2)) (hn : 12 < nL) (k : J (pc + 2) (a0 :: a1 :: a2 :: a3 :: a4 :: a5 :: a6 :: a7 :: a8 :: a9 :: a10 :: a11 :: some (.int x) :: lv) st u) : J pc (a0 :: a1 :: a2 :: a3 :: a4 :: a5 :: a6 :: a7 :: a8 :: a9 :: a10 :: a11 :: a12 :: lv) (.int x :: st) u := by
  obtain ⟨p, e, s, m, args, below, meth, c, A, Q⟩ := X
  obtain ⟨hx, hb, hml, hown, hts, hr, hlk, hK, hA, hOL, hO, hQ, hW⟩ := hJ
  refine (hW _ _ _ _).mpr (fun H locs ls hP hD hS hl => ?_)
  exact lv_istore hx hb d hl.has hn rfl (fun ls2 h2 => (hW _ _ _ _).mp k H locs ls2 hP hD hS (hl.store rfl h2))
theorem v_ast12 (hJ : Snd l R cc nL own rt D tys O wld post X J) {a0 a1 a2 a3 a4 a5 a6 a7 a8 a9 a10 a11 a12 : Option Value} {x : Nat} (d : decode cc pc = .ok (.astore 12, 2)) (hn : 12 < nL) (k : J (pc + 2) (a0 :: a1 :: a2 :: a3 :: a4 :: a5 :: a6 :: a7 :: a8 :: a9 :: a10 :: a11 :: some (.ref x) :: lv) st u) : J pc (a0 :: a1 :: a2 :: a3 :: a4 :: a5 :: a6 :: a7 :: a8 :: a9 :: a10 :: a11 :: a12 :: lv) (.ref x :: st) u := by
  obtain ⟨p, e, s, m, args, below, meth, c, A, Q⟩ := X
  obtain ⟨hx, hb, hml, hown, hts, hr, hlk, hK, hA, hOL, hO, hQ, hW⟩ := hJ
  refine (hW _ _ _ _).mpr (fun H locs ls hP hD hS hl => ?_)
  exact lv_astore hx hb d hl.has hn rfl (fun ls2 h2 => (hW _ _ _ _).mp k H locs ls2 hP hD hS (hl.store rfl h2))
theorem v_inc12 (hJ : Snd l R cc nL own rt D tys O wld post X J) {a0 a1 a2 a3 a4 a5 a6 a7 a8 a9 a10 a11 : Option Value} {x n : Int} (d : decode cc pc = .ok (.iinc 12 n, 3)) (hn : 12 < nL) (k : J (pc + 3) (a0 :: a1 :: a2 :: a3 :: a4 :: a5 :: a6 :: a7 :: a8 :: a9 :: a10 :: a11 :: some (.int (iZ (x + n))) :: lv) st u) : J pc (a0 :: a1 :: a2 :: a3 :: a4 :: a5 :: a6 :: a7 :: a8 :: a9 :: a10 :: a11 :: some (.int (iZ x)) :: lv) st u := by
  obtain ⟨p, e, s, m, args, below, meth, c, A, Q⟩ := X
  obtain ⟨hx, hb, hml, hown, hts, hr, hlk, hK, hA, hOL, hO, hQ, hW⟩ := hJ
  refine (hW _ _ _ _).mpr (fun H locs ls hP hD hS hl => ?_)
  obtain ⟨kk, hkk⟩ := List.getElem?_of_mem (lvP_mem (i := 12) (v := .int (iZ x)).mpr (show (a0 :: a1 :: a2 :: a3 :: a4 :: a5 :: a6 :: a7 :: a8 :: a9 :: a10 :: a11 :: some (.int (iZ x)) :: lv)[12]? = _ from rfl))
  exact lv_iinc (v := iZ (x + n)) hx hb d hl.has hkk (iZ_add x n) hn rfl (fun ls2 h2 => (hW _ _ _ _).mp k H locs ls2 hP hD hS (hl.store rfl h2))
theorem v_ild13 (hJ : Snd l R cc nL own rt D tys O wld post X J) {a0 a1 a2 a3 a4 a5 a6 a7 a8 a9 a10 a11 a12 : Option Value} {x : Int32} (d : decode cc pc = .ok (.iload 13, 2)) (k : J (pc + 2) (a0 :: a1 :: a2 :: a3 :: a4 :: a5 :: a6 :: a7 :: a8 :: a9 :: a10 :: a11 :: a12 :: some (.int x) :: lv) (.int x :: st) u) : J pc (a0 :: a1 :: a2 :: a3 :: a4 :: a5 :: a6 :: a7 :: a8 :: a9 :: a10 :: a11 :: a12 :: some (.int x) :: lv) st u := by
  obtain ⟨p, e, s, m, args, below, meth, c, A, Q⟩ := X
  obtain ⟨hx, hb, hml, hown, hts, hr, hlk, hK, hA, hOL, hO, hQ, hW⟩ := hJ
  refine (hW _ _ _ _).mpr (fun H locs ls hP hD hS hl => ?_)
  exact lv_iload hx hb d (hl.2.2 13 _ rfl).1 ((hW _ _ _ _).mp k H locs ls hP hD hS hl)
theorem v_ald13 (hJ : Snd l R cc nL own rt D tys O wld post X J) {a0 a1 a2 a3 a4 a5 a6 a7 a8 a9 a10 a11 a12 : Option Value} {x : Nat} (d : decode cc pc = .ok (.aload 13, 2)) (k : J (pc + 2) (a0 :: a1 :: a2 :: a3 :: a4 :: a5 :: a6 :: a7 :: a8 :: a9 :: a10 :: a11 :: a12 :: some (.ref x) :: lv) (.ref x :: st) u) : J pc (a0 :: a1 :: a2 :: a3 :: a4 :: a5 :: a6 :: a7 :: a8 :: a9 :: a10 :: a11 :: a12 :: some (.ref x) :: lv) st u := by
  obtain ⟨p, e, s, m, args, below, meth, c, A, Q⟩ := X
  obtain ⟨hx, hb, hml, hown, hts, hr, hlk, hK, hA, hOL, hO, hQ, hW⟩ := hJ
  refine (hW _ _ _ _).mpr (fun H locs ls hP hD hS hl => ?_)
  exact lv_aload hx hb d (hl.2.2 13 _ rfl).1 ((hW _ _ _ _).mp k H locs ls hP hD hS hl)
theorem v_ist13 (hJ : Snd l R cc nL own rt D tys O wld post X J) {a0 a1 a2 a3 a4 a5 a6 a7 a8 a9 a10 a11 a12 a13 : Option Value} {x : Int32} (d : decode cc pc = .ok (.istore 13, 2)) (hn : 13 < nL) (k : J (pc + 2) (a0 :: a1 :: a2 :: a3 :: a4 :: a5 :: a6 :: a7 :: a8 :: a9 :: a10 :: a11 :: a12 :: some (.int x) :: lv) st u) : J pc (a0 :: a1 :: a2 :: a3 :: a4 :: a5 :: a6 :: a7 :: a8 :: a9 :: a10 :: a11 :: a12 :: a13 :: lv) (.int x :: st) u := by
  obtain ⟨p, e, s, m, args, below, meth, c, A, Q⟩ := X
  obtain ⟨hx, hb, hml, hown, hts, hr, hlk, hK, hA, hOL, hO, hQ, hW⟩ := hJ
  refine (hW _ _ _ _).mpr (fun H locs ls hP hD hS hl => ?_)
  exact lv_istore hx hb d hl.has hn rfl (fun ls2 h2 => (hW _ _ _ _).mp k H locs ls2 hP hD hS (hl.store rfl h2))
theorem v_ast13 (hJ : Snd l R cc nL own rt D tys O wld post X J) {a0 a1 a2 a3 a4 a5 a6 a7 a8 a9 a10 a11 a12 a13 : Option Value} {x : Nat} (d : decode cc pc = .ok (.astore 13, 2)) (hn : 13 < nL) (k : J (pc + 2) (a0 :: a1 :: a2 :: a3 :: a4 :: a5 :: a6 :: a7 :: a8 :: a9 :: a10 :: a11 :: a12 :: some (.ref x) :: lv) st u) : J pc (a0 :: a1 :: a2 :: a3 :: a4 :: a5 :: a6 :: a7 :: a8 :: a9 :: a10 :: a11 :: a12 :: a13 :: lv) (.ref x :: st) u := by
  obtain ⟨p, e, s, m, args, below, meth, c, A, Q⟩ := X
  obtain ⟨hx, hb, hml, hown, hts, hr, hlk, hK, hA, hOL, hO, hQ, hW⟩ := hJ
  refine (hW _ _ _ _).mpr (fun H locs ls hP hD hS hl => ?_)
  exact lv_astore hx hb d hl.has hn rfl (fun ls2 h2 => (hW _ _ _ _).mp k H locs ls2 hP hD hS (hl.store rfl h2))
theorem v_inc13 (hJ : Snd l R cc nL own rt D tys O wld post X J) {a0 a1 a2 a3 a4 a5 a6 a7 a8 a9 a10 a11 a12 : Option Value} {x n : Int} (d : decode cc pc = .ok (.iinc 13 n, 3)) (hn : 13 < nL) (k : J (pc + 3) (a0 :: a1 :: a2 :: a3 :: a4 :: a5 :: a6 :: a7 :: a8 :: a9 :: a10 :: a11 :: a12 :: some (.int (iZ (x + n))) :: lv) st u) : J pc (a0 :: a1 :: a2 :: a3 :: a4 :: a5 :: a6 :: a7 :: a8 :: a9 :: a10 :: a11 :: a12 :: some (.int (iZ x)) :: lv) st u := by
  obtain ⟨p, e, s, m, args, below, meth, c, A, Q⟩ := X
  obtain ⟨hx, hb, hml, hown, hts, hr, hlk, hK, hA, hOL, hO, hQ, hW⟩ := hJ
  refine (hW _ _ _ _).mpr (fun H locs ls hP hD hS hl => ?_)
  obtain ⟨kk, hkk⟩ := List.getElem?_of_mem (lvP_mem (i := 13) (v := .int (iZ x)).mpr (show (a0 :: a1 :: a2 :: a3 :: a4 :: a5 :: a6 :: a7 :: a8 :: a9 :: a10 :: a11 :: a12 :: some (.int (iZ x)) :: lv)[13]? = _ from rfl))
  exact lv_iinc (v := iZ (x + n)) hx hb d hl.has hkk (iZ_add x n) hn rfl (fun ls2 h2 => (hW _ _ _ _).mp k H locs ls2 hP hD hS (hl.store rfl h2))
theorem v_ild14 (hJ : Snd l R cc nL own rt D tys O wld post X J) {a0 a1 a2 a3 a4 a5 a6 a7 a8 a9 a10 a11 a12 a13 : Option Value} {x : Int32} (d : decode cc pc = .ok (.iload 14, 2)) (k : J (pc + 2) (a0 :: a1 :: a2 :: a3 :: a4 :: a5 :: a6 :: a7 :: a8 :: a9 :: a10 :: a11 :: a12 :: a13 :: some (.int x) :: lv) (.int x :: st) u) : J pc (a0 :: a1 :: a2 :: a3 :: a4 :: a5 :: a6 :: a7 :: a8 :: a9 :: a10 :: a11 :: a12 :: a13 :: some (.int x) :: lv) st u := by
  obtain ⟨p, e, s, m, args, below, meth, c, A, Q⟩ := X
  obtain ⟨hx, hb, hml, hown, hts, hr, hlk, hK, hA, hOL, hO, hQ, hW⟩ := hJ
  refine (hW _ _ _ _).mpr (fun H locs ls hP hD hS hl => ?_)
  exact lv_iload hx hb d (hl.2.2 14 _ rfl).1 ((hW _ _ _ _).mp k H locs ls hP hD hS hl)
theorem v_ald14 (hJ : Snd l R cc nL own rt D tys O wld post X J) {a0 a1 a2 a3 a4 a5 a6 a7 a8 a9 a10 a11 a12 a13 : Option Value} {x : Nat} (d : decode cc pc = .ok (.aload 14, 2)) (k : J (pc + 2) (a0 :: a1 :: a2 :: a3 :: a4 :: a5 :: a6 :: a7 :: a8 :: a9 :: a10 :: a11 :: a12 :: a13 :: some (.ref x) :: lv) (.ref x :: st) u) : J pc (a0 :: a1 :: a2 :: a3 :: a4 :: a5 :: a6 :: a7 :: a8 :: a9 :: a10 :: a11 :: a12 :: a13 :: some (.ref x) :: lv) st u := by
  obtain ⟨p, e, s, m, args, below, meth, c, A, Q⟩ := X
  obtain ⟨hx, hb, hml, hown, hts, hr, hlk, hK, hA, hOL, hO, hQ, hW⟩ := hJ
  refine (hW _ _ _ _).mpr (fun H locs ls hP hD hS hl => ?_)
  exact lv_aload hx hb d (hl.2.2 14 _ rfl).1 ((hW _ _ _ _).mp k H locs ls hP hD hS hl)
theorem v_ist14 (hJ : Snd l R cc nL own rt D tys O wld post X J) {a0 a1 a2 a3 a4 a5 a6 a7 a8 a9 a10 a11 a12 a13 a14 : Option Value} {x : Int32} (d : decode cc pc = .ok (.istore 14, 2)) (hn : 14 < nL) (k : J (pc + 2) (a0 :: a1 :: a2 :: a3 :: a4 :: a5 :: a6 :: a7 :: a8 :: a9 :: a10 :: a11 :: a12 :: a13 :: some (.int x) :: lv) st u) : J pc (a0 :: a1 :: a2 :: a3 :: a4 :: a5 :: a6 :: a7 :: a8 :: a9 :: a10 :: a11 :: a12 :: a13 :: a14 :: lv) (.int x :: st) u := by
  obtain ⟨p, e, s, m, args, below, meth, c, A, Q⟩ := X
  obtain ⟨hx, hb, hml, hown, hts, hr, hlk, hK, hA, hOL, hO, hQ, hW⟩ := hJ
  refine (hW _ _ _ _).mpr (fun H locs ls hP hD hS hl => ?_)
  exact lv_istore hx hb d hl.has hn rfl (fun ls2 h2 => (hW _ _ _ _).mp k H locs ls2 hP hD hS (hl.store rfl h2))
theorem v_ast14 (hJ : Snd l R cc nL own rt D tys O wld post X J) {a0 a1 a2 a3 a4 a5 a6 a7 a8 a9 a10 a11 a12 a13 a14 : Option Value} {x : Nat} (d : decode cc pc = .ok (.astore 14, 2)) (hn : 14 < nL) (k : J (pc + 2) (a0 :: a1 :: a2 :: a3 :: a4 :: a5 :: a6 :: a7 :: a8 :: a9 :: a10 :: a11 :: a12 :: a13 :: some (.ref x) :: lv) st u) : J pc (a0 :: a1 :: a2 :: a3 :: a4 :: a5 :: a6 :: a7 :: a8 :: a9 :: a10 :: a11 :: a12 :: a13 :: a14 :: lv) (.ref x :: st) u := by
  obtain ⟨p, e, s, m, args, below, meth, c, A, Q⟩ := X
  obtain ⟨hx, hb, hml, hown, hts, hr, hlk, hK, hA, hOL, hO, hQ, hW⟩ := hJ
  refine (hW _ _ _ _).mpr (fun H locs ls hP hD hS hl => ?_)
  exact lv_astore hx hb d hl.has hn rfl (fun ls2 h2 => (hW _ _ _ _).mp k H locs ls2 hP hD hS (hl.store rfl h2))
theorem v_inc14 (hJ : Snd l R cc nL own rt D tys O wld post X J) {a0 a1 a2 a3 a4 a5 a6 a7 a8 a9 a10 a11 a12 a13 : Option Value} {x n : Int} (d : decode cc pc = .ok (.iinc 14 n, 3)) (hn : 14 < nL) (k : J (pc + 3) (a0 :: a1 :: a2 :: a3 :: a4 :: a5 :: a6 :: a7 :: a8 :: a9 :: a10 :: a11 :: a12 :: a13 :: some (.int (iZ (x + n))) :: lv) st u) : J pc (a0 :: a1 :: a2 :: a3 :: a4 :: a5 :: a6 :: a7 :: a8 :: a9 :: a10 :: a11 :: a12 :: a13 :: some (.int (iZ x)) :: lv) st u := by
  obtain ⟨p, e, s, m, args, below, meth, c, A, Q⟩ := X
  obtain ⟨hx, hb, hml, hown, hts, hr, hlk, hK, hA, hOL, hO, hQ, hW⟩ := hJ
  refine (hW _ _ _ _).mpr (fun H locs ls hP hD hS hl => ?_)
  obtain ⟨kk, hkk⟩ := List.getElem?_of_mem (lvP_mem (i := 14) (v := .int (iZ x)).mpr (show (a0 :: a1 :: a2 :: a3 :: a4 :: a5 :: a6 :: a7 :: a8 :: a9 :: a10 :: a11 :: a12 :: a13 :: some (.int (iZ x)) :: lv)[14]? = _ from rfl))
  exact lv_iinc (v := iZ (x + n)) hx hb d hl.has hkk (iZ_add x n) hn rfl (fun ls2 h2 => (hW _ _ _ _).mp k H locs ls2 hP hD hS (hl.store rfl h2))
theorem v_ild15 (hJ : Snd l R cc nL own rt D tys O wld post X J) {a0 a1 a2 a3 a4 a5 a6 a7 a8 a9 a10 a11 a12 a13 a14 : Option Value} {x : Int32} (d : decode cc pc = .ok (.iload 15, 2)) (k : J (pc + 2) (a0 :: a1 :: a2 :: a3 :: a4 :: a5 :: a6 :: a7 :: a8 :: a9 :: a10 :: a11 :: a12 :: a13 :: a14 :: some (.int x) :: lv) (.int x :: st) u) : J pc (a0 :: a1 :: a2 :: a3 :: a4 :: a5 :: a6 :: a7 :: a8 :: a9 :: a10 :: a11 :: a12 :: a13 :: a14 :: some (.int x) :: lv) st u := by
  obtain ⟨p, e, s, m, args, below, meth, c, A, Q⟩ := X
  obtain ⟨hx, hb, hml, hown, hts, hr, hlk, hK, hA, hOL, hO, hQ, hW⟩ := hJ
  refine (hW _ _ _ _).mpr (fun H locs ls hP hD hS hl => ?_)
  exact lv_iload hx hb d (hl.2.2 15 _ rfl).1 ((hW _ _ _ _).mp k H locs ls hP hD hS hl)
theorem v_ald15 (hJ : Snd l R cc nL own rt D tys O wld post X J) {a0 a1 a2 a3 a4 a5 a6 a7 a8 a9 a10 a11 a12 a13 a14 : Option Value} {x : Nat} (d : decode cc pc = .ok (.aload 15, 2)) (k : J (pc + 2) (a0 :: a1 :: a2 :: a3 :: a4 :: a5 :: a6 :: a7 :: a8 :: a9 :: a10 :: a11 :: a12 :: a13 :: a14 :: some (.ref x) :: lv) (.ref x :: st) u) : J pc (a0 :: a1 :: a2 :: a3 :: a4 :: a5 :: a6 :: a7 :: a8 :: a9 :: a10 :: a11 :: a12 :: a13 :: a14 :: some (.ref x) :: lv) st u := by
  obtain ⟨p, e, s, m, args, below, meth, c, A, Q⟩ := X
  obtain ⟨hx, hb, hml, hown, hts, hr, hlk, hK, hA, hOL, hO, hQ, hW⟩ := hJ
  refine (hW _ _ _ _).mpr (fun H locs ls hP hD hS hl => ?_)
  exact lv_aload hx hb d (hl.2.2 15 _ rfl).1 ((hW _ _ _ _).mp k H locs ls hP hD hS hl)
theorem v_ist15 (hJ : Snd l R cc nL own rt D tys O wld post X J) {a0 a1 a2 a3 a4 a5 a6 a7 a8 a9 a10 a11 a12 a13 a14 a15 : Option Value} {x : Int32} (d : decode cc pc = .ok (.istore 15, 2)) (hn : 15 < nL) (k : J (pc + 2) (a0 :: a1 :: a2 :: a3 :: a4 :: a5 :: a6 :: a7 :: a8 :: a9 :: a10 :: a11 :: a12 :: a13 :: a14 :: some (.int x) :: lv) st u) : J pc (a0 :: a1 :: a2 :: a3 :: a4 :: a5 :: a6 :: a7 :: a8 :: a9 :: a10 :: a11 :: a12 :: a13 :: a14 :: a15 :: lv) (.int x :: st) u := by
  obtain ⟨p, e, s, m, args, below, meth, c, A, Q⟩ := X
  obtain ⟨hx, hb, hml, hown, hts, hr, hlk, hK, hA, hOL, hO, hQ, hW⟩ := hJ
  refine (hW _ _ _ _).mpr (fun H locs ls hP hD hS hl => ?_)
  exact lv_istore hx hb d hl.has hn rfl (fun ls2 h2 => (hW _ _ _ _).mp k H locs ls2 hP hD hS (hl.store rfl h2))
theorem v_ast15 (hJ : Snd l R cc nL own rt D tys O wld post X J) {a0 a1 a2 a3 a4 a5 a6 a7 a8 a9 a10 a11 a12 a13 a14 a15 : Option Value} {x : Nat} (d : decode cc pc = .ok (.astore 15, 2)) (hn : 15 < nL) (k : J (pc + 2) (a0 :: a1 :: a2 :: a3 :: a4 :: a5 :: a6 :: a7 :: a8 :: a9 :: a10 :: a11 :: a12 :: a13 :: a14 :: some (.ref x) :: lv) st u) : J pc (a0 :: a1 :: a2 :: a3 :: a4 :: a5 :: a6 :: a7 :: a8 :: a9 :: a10 :: a11 :: a12 :: a13 :: a14 :: a15 :: lv) (.ref x :: st) u := by
  obtain ⟨p, e, s, m, args, below, meth, c, A, Q⟩ := X
  obtain ⟨hx, hb, hml, hown, hts, hr, hlk, hK, hA, hOL, hO, hQ, hW⟩ := hJ
  refine (hW _ _ _ _).mpr (fun H locs ls hP hD hS hl => ?_)
  exact lv_astore hx hb d hl.has hn rfl (fun ls2 h2 => (hW _ _ _ _).mp k H locs ls2 hP hD hS (hl.store rfl h2))
theorem v_inc15 (hJ : Snd l R cc nL own rt D tys O wld post X J) {a0 a1 a2 a3 a4 a5 a6 a7 a8 a9 a10 a11 a12 a13 a14 : Option Value} {x n : Int} (d : decode cc pc = .ok (.iinc 15 n, 3)) (hn : 15 < nL) (k : J (pc + 3) (a0 :: a1 :: a2 :: a3 :: a4 :: a5 :: a6 :: a7 :: a8 :: a9 :: a10 :: a11 :: a12 :: a13 :: a14 :: some (.int (iZ (x + n))) :: lv) st u) : J pc (a0 :: a1 :: a2 :: a3 :: a4 :: a5 :: a6 :: a7 :: a8 :: a9 :: a10 :: a11 :: a12 :: a13 :: a14 :: some (.int (iZ x)) :: lv) st u := by
  obtain ⟨p, e, s, m, args, below, meth, c, A, Q⟩ := X
  obtain ⟨hx, hb, hml, hown, hts, hr, hlk, hK, hA, hOL, hO, hQ, hW⟩ := hJ
  refine (hW _ _ _ _).mpr (fun H locs ls hP hD hS hl => ?_)
  obtain ⟨kk, hkk⟩ := List.getElem?_of_mem (lvP_mem (i := 15) (v := .int (iZ x)).mpr (show (a0 :: a1 :: a2 :: a3 :: a4 :: a5 :: a6 :: a7 :: a8 :: a9 :: a10 :: a11 :: a12 :: a13 :: a14 :: some (.int (iZ x)) :: lv)[15]? = _ from rfl))
  exact lv_iinc (v := iZ (x + n)) hx hb d hl.has hkk (iZ_add x n) hn rfl (fun ls2 h2 => (hW _ _ _ _).mp k H locs ls2 hP hD hS (hl.store rfl h2))
theorem v_iadd (hJ : Snd l R cc nL own rt D tys O wld post X J) {x y : Int} (d : decode cc pc = .ok (.iadd, 1)) (k : J (pc + 1) lv (.int (iZ (x + y)) :: st) u) : J pc lv (.int (iZ y) :: .int (iZ x) :: st) u := by
  obtain ⟨p, e, s, m, args, below, meth, c, A, Q⟩ := X
  obtain ⟨hx, hb, hml, hown, hts, hr, hlk, hK, hA, hOL, hO, hQ, hW⟩ := hJ
  refine (hW _ _ _ _).mpr (fun H locs ls hP hD hS hl => ?_)
  exact lv_iadd hx hb d (by rw [iZ_add]; exact ((hW _ _ _ _).mp k H locs ls hP hD hS hl))
theorem v_isub (hJ : Snd l R cc nL own rt D tys O wld post X J) {x y : Int} (d : decode cc pc = .ok (.isub, 1)) (k : J (pc + 1) lv (.int (iZ (x - y)) :: st) u) : J pc lv (.int (iZ y) :: .int (iZ x) :: st) u := by
  obtain ⟨p, e, s, m, args, below, meth, c, A, Q⟩ := X
  obtain ⟨hx, hb, hml, hown, hts, hr, hlk, hK, hA, hOL, hO, hQ, hW⟩ := hJ
  refine (hW _ _ _ _).mpr (fun H locs ls hP hD hS hl => ?_)
  exact lv_isub hx hb d (by rw [iZ_sub]; exact ((hW _ _ _ _).mp k H locs ls hP hD hS hl))
theorem v_imul (hJ : Snd l R cc nL own rt D tys O wld post X J) {x y : Int} (d : decode cc pc = .ok (.imul, 1)) (k : J (pc + 1) lv (.int (iZ (x * y)) :: st) u) : J pc lv (.int (iZ y) :: .int (iZ x) :: st) u := by
  obtain ⟨p, e, s, m, args, below, meth, c, A, Q⟩ := X
  obtain ⟨hx, hb, hml, hown, hts, hr, hlk, hK, hA, hOL, hO, hQ, hW⟩ := hJ
  refine (hW _ _ _ _).mpr (fun H locs ls hP hD hS hl => ?_)
  exact lv_imul hx hb d (by rw [iZ_mul]; exact ((hW _ _ _ _).mp k H locs ls hP hD hS hl))
theorem v_ineg (hJ : Snd l R cc nL own rt D tys O wld post X J) {x : Int} (d : decode cc pc = .ok (.ineg, 1)) (k : J (pc + 1) lv (.int (iZ (-x)) :: st) u) : J pc lv (.int (iZ x) :: st) u := by
  obtain ⟨p, e, s, m, args, below, meth, c, A, Q⟩ := X
  obtain ⟨hx, hb, hml, hown, hts, hr, hlk, hK, hA, hOL, hO, hQ, hW⟩ := hJ
  refine (hW _ _ _ _).mpr (fun H locs ls hP hD hS hl => ?_)
  exact lv_ineg hx hb d (by rw [iZ_neg]; exact ((hW _ _ _ _).mp k H locs ls hP hD hS hl))
theorem v_idiv (hJ : Snd l R cc nL own rt D tys O wld post X J) {x y : Int} (d : decode cc pc = .ok (.idiv, 1)) (h1 : inR x) (h2 : inR y) (h3 : 0 < y) (k : J (pc + 1) lv (.int (iZ (x.tdiv y)) :: st) u) : J pc lv (.int (iZ y) :: .int (iZ x) :: st) u := by
  obtain ⟨p, e, s, m, args, below, meth, c, A, Q⟩ := X
  obtain ⟨hx, hb, hml, hown, hts, hr, hlk, hK, hA, hOL, hO, hQ, hW⟩ := hJ
  refine (hW _ _ _ _).mpr (fun H locs ls hP hD hS hl => ?_)
  exact lv_idiv hx hb d (fun q => by rw [← iZ_0, iZ_eq h2 inR_0] at q; omega) (by rw [iZ_div h1 h2 (by omega)]; exact ((hW _ _ _ _).mp k H locs ls hP hD hS hl))
theorem v_irem (hJ : Snd l R cc nL own rt D tys O wld post X J) {x y : Int} (d : decode cc pc = .ok (.irem, 1)) (h1 : inR x) (h2 : inR y) (h3 : 0 < y) (k : J (pc + 1) lv (.int (iZ (x.tmod y)) :: st) u) : J pc lv (.int (iZ y) :: .int (iZ x) :: st) u := by
  obtain ⟨p, e, s, m, args, below, meth, c, A, Q⟩ := X
  obtain ⟨hx, hb, hml, hown, hts, hr, hlk, hK, hA, hOL, hO, hQ, hW⟩ := hJ
  refine (hW _ _ _ _).mpr (fun H locs ls hP hD hS hl => ?_)
  exact lv_irem hx hb d (fun q => by rw [← iZ_0, iZ_eq h2 inR_0] at q; omega) (by rw [iZ_rem h1 h2 (by omega)]; exact ((hW _ _ _ _).mp k H locs ls hP hD hS hl))
theorem v_iand (hJ : Snd l R cc nL own rt D tys O wld post X J) {x y : Int} (d : decode cc pc = .ok (.iand, 1)) (k : J (pc + 1) lv (.int (iZ (zand x y)) :: st) u) : J pc lv (.int (iZ y) :: .int (iZ x) :: st) u := by
  obtain ⟨p, e, s, m, args, below, meth, c, A, Q⟩ := X
  obtain ⟨hx, hb, hml, hown, hts, hr, hlk, hK, hA, hOL, hO, hQ, hW⟩ := hJ
  refine (hW _ _ _ _).mpr (fun H locs ls hP hD hS hl => ?_)
  have k1 := ((hW _ _ _ _).mp k H locs ls hP hD hS hl)
  rw [show iZ (zand x y) = _ from iZ_of _] at k1
  exact lv_iand hx hb d k1
theorem v_ior (hJ : Snd l R cc nL own rt D tys O wld post X J) {x y : Int} (d : decode cc pc = .ok (.ior, 1)) (k : J (pc + 1) lv (.int (iZ (zor x y)) :: st) u) : J pc lv (.int (iZ y) :: .int (iZ x) :: st) u := by
  obtain ⟨p, e, s, m, args, below, meth, c, A, Q⟩ := X
  obtain ⟨hx, hb, hml, hown, hts, hr, hlk, hK, hA, hOL, hO, hQ, hW⟩ := hJ
  refine (hW _ _ _ _).mpr (fun H locs ls hP hD hS hl => ?_)
  have k1 := ((hW _ _ _ _).mp k H locs ls hP hD hS hl)
  rw [show iZ (zor x y) = _ from iZ_of _] at k1
  exact lv_ior hx hb d k1
theorem v_ixor (hJ : Snd l R cc nL own rt D tys O wld post X J) {x y : Int} (d : decode cc pc = .ok (.ixor, 1)) (k : J (pc + 1) lv (.int (iZ (zxor x y)) :: st) u) : J pc lv (.int (iZ y) :: .int (iZ x) :: st) u := by
  obtain ⟨p, e, s, m, args, below, meth, c, A, Q⟩ := X
  obtain ⟨hx, hb, hml, hown, hts, hr, hlk, hK, hA, hOL, hO, hQ, hW⟩ := hJ
  refine (hW _ _ _ _).mpr (fun H locs ls hP hD hS hl => ?_)
  have k1 := ((hW _ _ _ _).mp k H locs ls hP hD hS hl)
  rw [show iZ (zxor x y) = _ from iZ_of _] at k1
  exact lv_ixor hx hb d k1
theorem v_ishl (hJ : Snd l R cc nL own rt D tys O wld post X J) {x y : Int} (d : decode cc pc = .ok (.ishl, 1)) (k : J (pc + 1) lv (.int (iZ (zshl x y)) :: st) u) : J pc lv (.int (iZ y) :: .int (iZ x) :: st) u := by
  obtain ⟨p, e, s, m, args, below, meth, c, A, Q⟩ := X
  obtain ⟨hx, hb, hml, hown, hts, hr, hlk, hK, hA, hOL, hO, hQ, hW⟩ := hJ
  refine (hW _ _ _ _).mpr (fun H locs ls hP hD hS hl => ?_)
  have k1 := ((hW _ _ _ _).mp k H locs ls hP hD hS hl)
  rw [show iZ (zshl x y) = _ from iZ_of _] at k1
  exact lv_ishl hx hb d k1
theorem v_ishr (hJ : Snd l R cc nL own rt D tys O wld post X J) {x y : Int} (d : decode cc pc = .ok (.ishr, 1)) (k : J (pc + 1) lv (.int (iZ (zshr x y)) :: st) u) : J pc lv (.int (iZ y) :: .int (iZ x) :: st) u := by
  obtain ⟨p, e, s, m, args, below, meth, c, A, Q⟩ := X
  obtain ⟨hx, hb, hml, hown, hts, hr, hlk, hK, hA, hOL, hO, hQ, hW⟩ := hJ
  refine (hW _ _ _ _).mpr (fun H locs ls hP hD hS hl => ?_)
  have k1 := ((hW _ _ _ _).mp k H locs ls hP hD hS hl)
  rw [show iZ (zshr x y) = _ from iZ_of _] at k1
  exact lv_ishr hx hb d k1
theorem v_iushr (hJ : Snd l R cc nL own rt D tys O wld post X J) {x y : Int} (d : decode cc pc = .ok (.iushr, 1)) (k : J (pc + 1) lv (.int (iZ (zushr x y)) :: st) u) : J pc lv (.int (iZ y) :: .int (iZ x) :: st) u := by
  obtain ⟨p, e, s, m, args, below, meth, c, A, Q⟩ := X
  obtain ⟨hx, hb, hml, hown, hts, hr, hlk, hK, hA, hOL, hO, hQ, hW⟩ := hJ
  refine (hW _ _ _ _).mpr (fun H locs ls hP hD hS hl => ?_)
  exact lv_iushr hx hb d (iZ_of _).symm ((hW _ _ _ _).mp k H locs ls hP hD hS hl)
theorem v_i2c (hJ : Snd l R cc nL own rt D tys O wld post X J) {x : Int} (d : decode cc pc = .ok (.i2c, 1)) (k : J (pc + 1) lv (.int (iZ (zi2c x)) :: st) u) : J pc lv (.int (iZ x) :: st) u := by
  obtain ⟨p, e, s, m, args, below, meth, c, A, Q⟩ := X
  obtain ⟨hx, hb, hml, hown, hts, hr, hlk, hK, hA, hOL, hO, hQ, hW⟩ := hJ
  refine (hW _ _ _ _).mpr (fun H locs ls hP hD hS hl => ?_)
  exact lv_i2c hx hb d (iZ_of _).symm ((hW _ _ _ _).mp k H locs ls hP hD hS hl)
theorem v_i2b (hJ : Snd l R cc nL own rt D tys O wld post X J) {x : Int} (d : decode cc pc = .ok (.i2b, 1)) (k : J (pc + 1) lv (.int (iZ (zi2b x)) :: st) u) : J pc lv (.int (iZ x) :: st) u := by
  obtain ⟨p, e, s, m, args, below, meth, c, A, Q⟩ := X
  obtain ⟨hx, hb, hml, hown, hts, hr, hlk, hK, hA, hOL, hO, hQ, hW⟩ := hJ
  refine (hW _ _ _ _).mpr (fun H locs ls hP hD hS hl => ?_)
  exact lv_i2b hx hb d (iZ_of _).symm ((hW _ _ _ _).mp k H locs ls hP hD hS hl)
theorem v_dup (hJ : Snd l R cc nL own rt D tys O wld post X J) {v : Value} (d : decode cc pc = .ok (.dup, 1)) (hv : v.category = 1) (k : J (pc + 1) lv (v :: v :: st) u) : J pc lv (v :: st) u := by
  obtain ⟨p, e, s, m, args, below, meth, c, A, Q⟩ := X
  obtain ⟨hx, hb, hml, hown, hts, hr, hlk, hK, hA, hOL, hO, hQ, hW⟩ := hJ
  refine (hW _ _ _ _).mpr (fun H locs ls hP hD hS hl => ?_)
  exact lv_dup hx hb d hv ((hW _ _ _ _).mp k H locs ls hP hD hS hl)
theorem v_pop (hJ : Snd l R cc nL own rt D tys O wld post X J) {v : Value} (d : decode cc pc = .ok (.pop, 1)) (hv : v.category = 1) (k : J (pc + 1) lv st u) : J pc lv (v :: st) u := by
  obtain ⟨p, e, s, m, args, below, meth, c, A, Q⟩ := X
  obtain ⟨hx, hb, hml, hown, hts, hr, hlk, hK, hA, hOL, hO, hQ, hW⟩ := hJ
  refine (hW _ _ _ _).mpr (fun H locs ls hP hD hS hl => ?_)
  exact lv_pop hx hb d hv ((hW _ _ _ _).mp k H locs ls hP hD hS hl)
theorem v_dup2 (hJ : Snd l R cc nL own rt D tys O wld post X J) {v w : Value} (d : decode cc pc = .ok (.dup2, 1)) (hv : v.category = 1) (hw : w.category = 1) (k : J (pc + 1) lv (v :: w :: v :: w :: st) u) : J pc lv (v :: w :: st) u := by
  obtain ⟨p, e, s, m, args, below, meth, c, A, Q⟩ := X
  obtain ⟨hx, hb, hml, hown, hts, hr, hlk, hK, hA, hOL, hO, hQ, hW⟩ := hJ
  refine (hW _ _ _ _).mpr (fun H locs ls hP hD hS hl => ?_)
  exact lv_dup2_11 hx hb d hv hw ((hW _ _ _ _).mp k H locs ls hP hD hS hl)
theorem v_goto (hJ : Snd l R cc nL own rt D tys O wld post X J) {off : Int} {tgt : Nat} (d : decode cc pc = .ok (.goto off, 3)) (ht : (pc : Int) + off = (tgt : Int)) (k : J tgt lv st u) : J pc lv st u := by
  obtain ⟨p, e, s, m, args, below, meth, c, A, Q⟩ := X
  obtain ⟨hx, hb, hml, hown, hts, hr, hlk, hK, hA, hOL, hO, hQ, hW⟩ := hJ
  refine (hW _ _ _ _).mpr (fun H locs ls hP hD hS hl => ?_)
  exact lv_goto hx hb d ht ((hW _ _ _ _).mp k H locs ls hP hD hS hl)
theorem v_icmp_eq (hJ : Snd l R cc nL own rt D tys O wld post X J) {x y : Int} {off : Int} {tgt : Nat} (d : decode cc pc = .ok (.if_icmp .eq off, 3)) (ht : (pc : Int) + off = (tgt : Int)) (hx1 : inR x) (hy1 : inR y) (kt : x = y → J tgt lv st u) (kf : ¬ (x = y) → J (pc + 3) lv st u) : J pc lv (.int (iZ y) :: .int (iZ x) :: st) u := by
  obtain ⟨p, e, s, m, args, below, meth, c, A, Q⟩ := X
  obtain ⟨hx, hb, hml, hown, hts, hr, hlk, hK, hA, hOL, hO, hQ, hW⟩ := hJ
  refine (hW _ _ _ _).mpr (fun H locs ls hP hD hS hl => ?_)
  exact lv_icmp_eq hx hb d ht (fun q => (hW _ _ _ _).mp (kt ((iZ_eq hx1 hy1).mp q)) H locs ls hP hD hS hl) (fun q => (hW _ _ _ _).mp (kf (fun z => q ((iZ_eq hx1 hy1).mpr z))) H locs ls hP hD hS hl)
theorem v_if_eq (hJ : Snd l R cc nL own rt D tys O wld post X J) {x : Int} {off : Int} {tgt : Nat} (d : decode cc pc = .ok (.ifCond .eq off, 3)) (ht : (pc : Int) + off = (tgt : Int)) (hx1 : inR x) (kt : x = 0 → J tgt lv st u) (kf : ¬ (x = 0) → J (pc + 3) lv st u) : J pc lv (.int (iZ x) :: st) u := by
  obtain ⟨p, e, s, m, args, below, meth, c, A, Q⟩ := X
  obtain ⟨hx, hb, hml, hown, hts, hr, hlk, hK, hA, hOL, hO, hQ, hW⟩ := hJ
  refine (hW _ _ _ _).mpr (fun H locs ls hP hD hS hl => ?_)
  exact lv_if_eq hx hb d ht (fun q => (hW _ _ _ _).mp (kt ((iZ_eq hx1 inR_0).mp q)) H locs ls hP hD hS hl) (fun q => (hW _ _ _ _).mp (kf (fun z => q ((iZ_eq hx1 inR_0).mpr z))) H locs ls hP hD hS hl)
theorem v_icmp_ne (hJ : Snd l R cc nL own rt D tys O wld post X J) {x y : Int} {off : Int} {tgt : Nat} (d : decode cc pc = .ok (.if_icmp .ne off, 3)) (ht : (pc : Int) + off = (tgt : Int)) (hx1 : inR x) (hy1 : inR y) (kt : x ≠ y → J tgt lv st u) (kf : x = y → J (pc + 3) lv st u) : J pc lv (.int (iZ y) :: .int (iZ x) :: st) u := by
  obtain ⟨p, e, s, m, args, below, meth, c, A, Q⟩ := X
  obtain ⟨hx, hb, hml, hown, hts, hr, hlk, hK, hA, hOL, hO, hQ, hW⟩ := hJ
  refine (hW _ _ _ _).mpr (fun H locs ls hP hD hS hl => ?_)
  exact lv_icmp_ne hx hb d ht (fun q => (hW _ _ _ _).mp (kt (fun z => q ((iZ_eq hx1 hy1).mpr z))) H locs ls hP hD hS hl) (fun q => (hW _ _ _ _).mp (kf ((iZ_eq hx1 hy1).mp q)) H locs ls hP hD hS hl)
theorem v_if_ne (hJ : Snd l R cc nL own rt D tys O wld post X J) {x : Int} {off : Int} {tgt : Nat} (d : decode cc pc = .ok (.ifCond .ne off, 3)) (ht : (pc : Int) + off = (tgt : Int)) (hx1 : inR x) (kt : x ≠ 0 → J tgt lv st u) (kf : x = 0 → J (pc + 3) lv st u) : J pc lv (.int (iZ x) :: st) u := by
  obtain ⟨p, e, s, m, args, below, meth, c, A, Q⟩ := X
  obtain ⟨hx, hb, hml, hown, hts, hr, hlk, hK, hA, hOL, hO, hQ, hW⟩ := hJ
  refine (hW _ _ _ _).mpr (fun H locs ls hP hD hS hl => ?_)
  exact lv_if_ne hx hb d ht (fun q => (hW _ _ _ _).mp (kt (fun z => q ((iZ_eq hx1 inR_0).mpr z))) H locs ls hP hD hS hl) (fun q => (hW _ _ _ _).mp (kf ((iZ_eq hx1 inR_0).mp q)) H locs ls hP hD hS hl)
theorem v_icmp_lt (hJ : Snd l R cc nL own rt D tys O wld post X J) {x y : Int} {off : Int} {tgt : Nat} (d : decode cc pc = .ok (.if_icmp .lt off, 3)) (ht : (pc : Int) + off = (tgt : Int)) (hx1 : inR x) (hy1 : inR y) (kt : x < y → J tgt lv st u) (kf : ¬ (x < y) → J (pc + 3) lv st u) : J pc lv (.int (iZ y) :: .int (iZ x) :: st) u := by
  obtain ⟨p, e, s, m, args, below, meth, c, A, Q⟩ := X
  obtain ⟨hx, hb, hml, hown, hts, hr, hlk, hK, hA, hOL, hO, hQ, hW⟩ := hJ
  refine (hW _ _ _ _).mpr (fun H locs ls hP hD hS hl => ?_)
  exact lv_icmp_lt hx hb d ht (fun q => (hW _ _ _ _).mp (kt ((iZ_lt hx1 hy1).mp q)) H locs ls hP hD hS hl) (fun q => (hW _ _ _ _).mp (kf (fun z => q ((iZ_lt hx1 hy1).mpr z))) H locs ls hP hD hS hl)
theorem v_if_lt (hJ : Snd l R cc nL own rt D tys O wld post X J) {x : Int} {off : Int} {tgt : Nat} (d : decode cc pc = .ok (.ifCond .lt off, 3)) (ht : (pc : Int) + off = (tgt : Int)) (hx1 : inR x) (kt : x < 0 → J tgt lv st u) (kf : ¬ (x < 0) → J (pc + 3) lv st u) : J pc lv (.int (iZ x) :: st) u := by
  obtain ⟨p, e, s, m, args, below, meth, c, A, Q⟩ := X
  obtain ⟨hx, hb, hml, hown, hts, hr, hlk, hK, hA, hOL, hO, hQ, hW⟩ := hJ
  refine (hW _ _ _ _).mpr (fun H locs ls hP hD hS hl => ?_)
  exact lv_if_lt hx hb d ht (fun q => (hW _ _ _ _).mp (kt ((iZ_lt hx1 inR_0).mp q)) H locs ls hP hD hS hl) (fun q => (hW _ _ _ _).mp (kf (fun z => q ((iZ_lt hx1 inR_0).mpr z))) H locs ls hP hD hS hl)
theorem v_icmp_ge (hJ : Snd l R cc nL own rt D tys O wld post X J) {x y : Int} {off : Int} {tgt : Nat} (d : decode cc pc = .ok (.if_icmp .ge off, 3)) (ht : (pc : Int) + off = (tgt : Int)) (hx1 : inR x) (hy1 : inR y) (kt : y ≤ x → J tgt lv st u) (kf : ¬ (y ≤ x) → J (pc + 3) lv st u) : J pc lv (.int (iZ y) :: .int (iZ x) :: st) u := by
  obtain ⟨p, e, s, m, args, below, meth, c, A, Q⟩ := X
  obtain ⟨hx, hb, hml, hown, hts, hr, hlk, hK, hA, hOL, hO, hQ, hW⟩ := hJ
  refine (hW _ _ _ _).mpr (fun H locs ls hP hD hS hl => ?_)
  exact lv_icmp_ge hx hb d ht (fun q => (hW _ _ _ _).mp (kt ((iZ_le hy1 hx1).mp q)) H locs ls hP hD hS hl) (fun q => (hW _ _ _ _).mp (kf (fun z => q ((iZ_le hy1 hx1).mpr z))) H locs ls hP hD hS hl)
theorem v_if_ge (hJ : Snd l R cc nL own rt D tys O wld post X J) {x : Int} {off : Int} {tgt : Nat} (d : decode cc pc = .ok (.ifCond .ge off, 3)) (ht : (pc : Int) + off = (tgt : Int)) (hx1 : inR x) (kt : 0 ≤ x → J tgt lv st u) (kf : ¬ (0 ≤ x) → J (pc + 3) lv st u) : J pc lv (.int (iZ x) :: st) u := by
  obtain ⟨p, e, s, m, args, below, meth, c, A, Q⟩ := X
  obtain ⟨hx, hb, hml, hown, hts, hr, hlk, hK, hA, hOL, hO, hQ, hW⟩ := hJ
  refine (hW _ _ _ _).mpr (fun H locs ls hP hD hS hl => ?_)
  exact lv_if_ge hx hb d ht (fun q => (hW _ _ _ _).mp (kt ((iZ_le inR_0 hx1).mp q)) H locs ls hP hD hS hl) (fun q => (hW _ _ _ _).mp (kf (fun z => q ((iZ_le inR_0 hx1).mpr z))) H locs ls hP hD hS hl)
theorem v_icmp_gt (hJ : Snd l R cc nL own rt D tys O wld post X J) {x y : Int} {off : Int} {tgt : Nat} (d : decode cc pc = .ok (.if_icmp .gt off, 3)) (ht : (pc : Int) + off = (tgt : Int)) (hx1 : inR x) (hy1 : inR y) (kt : y < x → J tgt lv st u) (kf : ¬ (y < x) → J (pc + 3) lv st u) : J pc lv (.int (iZ y) :: .int (iZ x) :: st) u := by
  obtain ⟨p, e, s, m, args, below, meth, c, A, Q⟩ := X
  obtain ⟨hx, hb, hml, hown, hts, hr, hlk, hK, hA, hOL, hO, hQ, hW⟩ := hJ
  refine (hW _ _ _ _).mpr (fun H locs ls hP hD hS hl => ?_)
  exact lv_icmp_gt hx hb d ht (fun q => (hW _ _ _ _).mp (kt ((iZ_lt hy1 hx1).mp q)) H locs ls hP hD hS hl) (fun q => (hW _ _ _ _).mp (kf (fun z => q ((iZ_lt hy1 hx1).mpr z))) H locs ls hP hD hS hl)
theorem v_if_gt (hJ : Snd l R cc nL own rt D tys O wld post X J) {x : Int} {off : Int} {tgt : Nat} (d : decode cc pc = .ok (.ifCond .gt off, 3)) (ht : (pc : Int) + off = (tgt : Int)) (hx1 : inR x) (kt : 0 < x → J tgt lv st u) (kf : ¬ (0 < x) → J (pc + 3) lv st u) : J pc lv (.int (iZ x) :: st) u := by
  obtain ⟨p, e, s, m, args, below, meth, c, A, Q⟩ := X
  obtain ⟨hx, hb, hml, hown, hts, hr, hlk, hK, hA, hOL, hO, hQ, hW⟩ := hJ
  refine (hW _ _ _ _).mpr (fun H locs ls hP hD hS hl => ?_)
  exact lv_if_gt hx hb d ht (fun q => (hW _ _ _ _).mp (kt ((iZ_lt inR_0 hx1).mp q)) H locs ls hP hD hS hl) (fun q => (hW _ _ _ _).mp (kf (fun z => q ((iZ_lt inR_0 hx1).mpr z))) H locs ls hP hD hS hl)
theorem v_icmp_le (hJ : Snd l R cc nL own rt D tys O wld post X J) {x y : Int} {off : Int} {tgt : Nat} (d : decode cc pc = .ok (.if_icmp .le off, 3)) (ht : (pc : Int) + off = (tgt : Int)) (hx1 : inR x) (hy1 : inR y) (kt : x ≤ y → J tgt lv st u) (kf : ¬ (x ≤ y) → J (pc + 3) lv st u) : J pc lv (.int (iZ y) :: .int (iZ x) :: st) u := by
  obtain ⟨p, e, s, m, args, below, meth, c, A, Q⟩ := X
  obtain ⟨hx, hb, hml, hown, hts, hr, hlk, hK, hA, hOL, hO, hQ, hW⟩ := hJ
  refine (hW _ _ _ _).mpr (fun H locs ls hP hD hS hl => ?_)
  exact lv_icmp_le hx hb d ht (fun q => (hW _ _ _ _).mp (kt ((iZ_le hx1 hy1).mp q)) H locs ls hP hD hS hl) (fun q => (hW _ _ _ _).mp (kf (fun z => q ((iZ_le hx1 hy1).mpr z))) H locs ls hP hD hS hl)
theorem v_if_le (hJ : Snd l R cc nL own rt D tys O wld post X J) {x : Int} {off : Int} {tgt : Nat} (d : decode cc pc = .ok (.ifCond .le off, 3)) (ht : (pc : Int) + off = (tgt : Int)) (hx1 : inR x) (kt : x ≤ 0 → J tgt lv st u) (kf : ¬ (x ≤ 0) → J (pc + 3) lv st u) : J pc lv (.int (iZ x) :: st) u := by
  obtain ⟨p, e, s, m, args, below, meth, c, A, Q⟩ := X
  obtain ⟨hx, hb, hml, hown, hts, hr, hlk, hK, hA, hOL, hO, hQ, hW⟩ := hJ
  refine (hW _ _ _ _).mpr (fun H locs ls hP hD hS hl => ?_)
  exact lv_if_le hx hb d ht (fun q => (hW _ _ _ _).mp (kt ((iZ_le hx1 inR_0).mp q)) H locs ls hP hD hS hl) (fun q => (hW _ _ _ _).mp (kf (fun z => q ((iZ_le hx1 inR_0).mpr z))) H locs ls hP hD hS hl)
theorem v_lookup (hJ : Snd l R cc nL own rt D tys O wld post X J) {dflt : Int} {ps : Array (Int × Int)} {len : Nat} {x : Int} {off : Int} {tgt : Nat} (d : decode cc pc = .ok (.lookupswitch dflt ps, len)) (hx1 : inR x) (hp : (ps.toList.zip (ps.toList.drop 1)).all (fun (a, next) => a.1 < next.1) = true) (ho : Op.lookupswitch.offset ps.toList dflt x = off) (ht : (pc : Int) + off = (tgt : Int)) (k : J tgt lv st u) : J pc lv (.int (iZ x) :: st) u := by
  obtain ⟨p, e, s, m, args, below, meth, c, A, Q⟩ := X
  obtain ⟨hx, hb, hml, hown, hts, hr, hlk, hK, hA, hOL, hO, hQ, hW⟩ := hJ
  refine (hW _ _ _ _).mpr (fun H locs ls hP hD hS hl => ?_)
  exact lv_lookup hx hb d hp (by rw [iZ_toInt hx1]; exact ho) ht ((hW _ _ _ _).mp k H locs ls hP hD hS hl)
theorem v_tableOut (hJ : Snd l R cc nL own rt D tys O wld post X J) {dflt lo hi : Int} {offs : Array Int} {len : Nat} {x : Int} {tgt : Nat} (d : decode cc pc = .ok (.tableswitch dflt lo hi offs, len)) (hx1 : inR x) (h : x < lo ∨ hi < x) (ht : (pc : Int) + dflt = (tgt : Int)) (k : J tgt lv st u) : J pc lv (.int (iZ x) :: st) u := by
  obtain ⟨p, e, s, m, args, below, meth, c, A, Q⟩ := X
  obtain ⟨hx, hb, hml, hown, hts, hr, hlk, hK, hA, hOL, hO, hQ, hW⟩ := hJ
  refine (hW _ _ _ _).mpr (fun H locs ls hP hD hS hl => ?_)
  exact lv_tableOut hx hb d (by rw [iZ_toInt hx1]; exact h) ht ((hW _ _ _ _).mp k H locs ls hP hD hS hl)
theorem v_tableIn (hJ : Snd l R cc nL own rt D tys O wld post X J) {dflt lo hi : Int} {offs : Array Int} {len : Nat} {x : Int} {off : Int} {tgt : Nat} (d : decode cc pc = .ok (.tableswitch dflt lo hi offs, len)) (hx1 : inR x) (h1 : ¬ x < lo) (h2 : ¬ hi < x) (ho : offs[(x - lo).toNat]? = some off) (ht : (pc : Int) + off = (tgt : Int)) (k : J tgt lv st u) : J pc lv (.int (iZ x) :: st) u := by
  obtain ⟨p, e, s, m, args, below, meth, c, A, Q⟩ := X
  obtain ⟨hx, hb, hml, hown, hts, hr, hlk, hK, hA, hOL, hO, hQ, hW⟩ := hJ
  refine (hW _ _ _ _).mpr (fun H locs ls hP hD hS hl => ?_)
  exact lv_tableIn hx hb d (by rw [iZ_toInt hx1]; exact h1) (by rw [iZ_toInt hx1]; exact h2) (by rw [iZ_toInt hx1]; exact ho) ht ((hW _ _ _ _).mp k H locs ls hP hD hS hl)
theorem v_getf (hJ : Snd l R cc nL own rt D tys O wld post X J) {q0 ci fk N idx : Nat} {C : String} {T : u_T} {fs : List Value} {a : Nat} {v : Value} (he : (wld u)[q0]? = some (a, .inr (ci, fs))) (hc : vwCl[ci]? = some (C, T, N)) (hin : ∀ w ∈ u_ws C T N, w ∈ gw) (hk : fk < N) (hlink : Cond.fieldLink own idx (T fk).1 (T fk).2.1 (T fk).2.2.1 ∈ gw) (hv : fs[fk]? = some v) (d : decode cc pc = .ok (.getfield idx, 3)) (k : J (pc + 3) lv (v :: st) u) : J pc lv (.ref a :: st) u := by
  obtain ⟨p, e, s, m, args, below, meth, c, A, Q⟩ := X
  obtain ⟨hx, hb, hml, hown, hts, hr, hlk, hK, hA, hOL, hO, hQ, hW⟩ := hJ
  refine (hW _ _ _ _).mpr (fun H locs ls hP hD hS hl => ?_)
  exact va_get (D := D) (Ts := gw) hx hb hts hin hown hK hP q0 he hc fk hk (hts _ hlink) (fun _ h => h) hv d ((hW _ _ _ _).mp k H locs ls hP hD hS hl)
theorem v_putf (hJ : Snd l R cc nL own rt D tys O wld post X J) {q0 ci fk N idx : Nat} {C : String} {T : u_T} {fs : List Value} {a : Nat} {v : Value} {u2 : σ} {ty0 : Nat → FieldType} (he : (wld u)[q0]? = some (a, .inr (ci, fs))) (hc : vwCl[ci]? = some (C, T, N)) (hin : ∀ w ∈ u_ws C T N, w ∈ gw) (hty : ∀ k, k < N → parseFieldDescriptor (T k).2.2.1 = some (ty0 k)) (hnm : ∀ a, a < N → ∀ b, b < N → a ≠ b → (T a).2.1 ≠ (T b).2.1) (hk : fk < N) (hlink : Cond.fieldLink own idx (T fk).1 (T fk).2.1 (T fk).2.2.1 ∈ gw) (hfin : (T fk).2.2.2 = false) (hn : narrow (ty0 fk) v = v) (hfit : fits (ty0 fk) v = true) (hl2 : fk < fs.length) (hset : (wld u).set q0 (a, .inr (ci, fs.set fk v)) = wld u2) (d : decode cc pc = .ok (.putfield idx, 3)) (k : J (pc + 3) lv st u2) : J pc lv (v :: .ref a :: st) u := by
  obtain ⟨p, e, s, m, args, below, meth, c, A, Q⟩ := X
  obtain ⟨hx, hb, hml, hown, hts, hr, hlk, hK, hA, hOL, hO, hQ, hW⟩ := hJ
  refine (hW _ _ _ _).mpr (fun H locs ls hP hD hS hl => ?_)
  refine va_put (D := D) (Ts := gw) hx hb hts hin ty0 hty hnm hown hK hP hD hS q0 he hc fk hk (hts _ hlink) (fun _ h => h) hfin (hty fk hk) hn hfit hl2 d (fun H1 locs1 hP1 hD1 hS1 => ?_)
  rw [hset] at hP1 hD1
  exact (hW _ _ _ _).mp k H1 locs1 ls hP1 hD1 hS1 hl
theorem v_iald (hJ : Snd l R cc nL own rt D tys O wld post X J) {q0 t0 n : Nat} {cA : ClassId} {f : Int → Int} {a : Nat} {i : Int} (he : (wld u)[q0]? = some (a, .inl (cA, n, .inl (zrow f)))) (ht : tys[t0]? = some (cA, .int)) (hn : n ≤ 2147483648) (h0 : 0 ≤ i) (h1 : i < n) (d : decode cc pc = .ok (.iaload, 1)) (k : J (pc + 1) lv (.int (iZ (f i)) :: st) u) : J pc lv (.int (iZ i) :: .ref a :: st) u := by
  obtain ⟨p, e, s, m, args, below, meth, c, A, Q⟩ := X
  obtain ⟨hx, hb, hml, hown, hts, hr, hlk, hK, hA, hOL, hO, hQ, hW⟩ := hJ
  refine (hW _ _ _ _).mpr (fun H locs ls hP hD hS hl => ?_)
  refine va_iald (D := D) hx hb hK hP q0 t0 he ht (iZ_in h0 h1 hn) d ?_
  rw [iZ_clamp (show inR i from ⟨by omega, by omega⟩), zrow_get f h0]
  exact ((hW _ _ _ _).mp k H locs ls hP hD hS hl)
theorem v_iast (hJ : Snd l R cc nL own rt D tys O wld post X J) {q0 t0 n : Nat} {cA : ClassId} {f : Int → Int} {a : Nat} {i x : Int} {u2 : σ} (he : (wld u)[q0]? = some (a, .inl (cA, n, .inl (zrow f)))) (ht : tys[t0]? = some (cA, .int)) (hn : n ≤ 2147483648) (h0 : 0 ≤ i) (h1 : i < n) (hset : (wld u).set q0 (a, .inl (cA, n, .inl (zrow (zu f i x)))) = wld u2) (d : decode cc pc = .ok (.iastore, 1)) (k : J (pc + 1) lv st u2) : J pc lv (.int (iZ x) :: .int (iZ i) :: .ref a :: st) u := by
  obtain ⟨p, e, s, m, args, below, meth, c, A, Q⟩ := X
  obtain ⟨hx, hb, hml, hown, hts, hr, hlk, hK, hA, hOL, hO, hQ, hW⟩ := hJ
  refine (hW _ _ _ _).mpr (fun H locs ls hP hD hS hl => ?_)
  refine va_iast (D := D) hx hb hK hP hD hS q0 t0 he ht (iZ_in h0 h1 hn) d (fun H1 locs1 hP1 hD1 hS1 => ?_)
  rw [iZ_clamp (show inR i from ⟨by omega, by omega⟩), zrow_upd f x h0, hset] at hP1 hD1
  exact (hW _ _ _ _).mp k H1 locs1 ls hP1 hD1 hS1 hl
theorem v_alen (hJ : Snd l R cc nL own rt D tys O wld post X J) {q0 t0 n : Nat} {cA : ClassId} {f : Nat → Int32} {a : Nat} (he : (wld u)[q0]? = some (a, .inl (cA, n, .inl f))) (ht : tys[t0]? = some (cA, .int)) (d : decode cc pc = .ok (.arraylength, 1)) (k : J (pc + 1) lv (.int (iZ (n : Int)) :: st) u) : J pc lv (.ref a :: st) u := by
  obtain ⟨p, e, s, m, args, below, meth, c, A, Q⟩ := X
  obtain ⟨hx, hb, hml, hown, hts, hr, hlk, hK, hA, hOL, hO, hQ, hW⟩ := hJ
  refine (hW _ _ _ _).mpr (fun H locs ls hP hD hS hl => ?_)
  exact va_alen (D := D) hx hb hK hP q0 t0 he ht (show Int32.ofNat n = iZ (n : Int) from Int32.ofInt_eq_ofNat.symm) d ((hW _ _ _ _).mp k H locs ls hP hD hS hl)
theorem v_iret  (hJ : Snd l R cc nL own (some .int) D tys O wld post X J) {x : Int32} (d : decode cc pc = .ok (.ireturn, 1)) (hq : post (some (.int x)) u) : J pc lv [.int x] u := by
  obtain ⟨p, e, s, m, args, below, meth, c, A, Q⟩ := X
  obtain ⟨hx, hb, hml, hown, hts, hr, hlk, hK, hA, hOL, hO, hQ, hW⟩ := hJ
  refine (hW _ _ _ _).mpr (fun H locs ls hP hD hS hl => ?_)
  have k1 : W p l e R s m args below meth c H locs 0 0 (MQ below (cQ D tys wld A post) args s 0 0 A) (F0 m pc ls [.int x]) := W.iret hx hb hr (fun t ht hWm => ⟨⟨_, u, rfl, hq, by rw [ht]; exact hP, va_K.moved hWm.alike hK, hD⟩, hS.F ht⟩) hS.2.2 d hlk
  intro T hT X
  obtain ⟨t, a1, b1⟩ := k1 T hT X
  exact ⟨t, a1, hQ t b1⟩
theorem v_zret {ty : FieldType} (hJ : Snd l R cc nL own (some ty) D tys O wld post X J) {x : Int32} (hn : narrow ty (.int x) = .int x) (d : decode cc pc = .ok (.ireturn, 1)) (hq : post (some (.int x)) u) : J pc lv [.int x] u := by
  obtain ⟨p, e, s, m, args, below, meth, c, A, Q⟩ := X
  obtain ⟨hx, hb, hml, hown, hts, hr, hlk, hK, hA, hOL, hO, hQ, hW⟩ := hJ
  refine (hW _ _ _ _).mpr (fun H locs ls hP hD hS hl => ?_)
  have k1 : W p l e R s m args below meth c H locs 0 0 (MQ below (cQ D tys wld A post) args s 0 0 A) (F0 m pc ls [.int x]) := W.zret hx hb hr hn (fun t ht hWm => ⟨⟨_, u, rfl, hq, by rw [ht]; exact hP, va_K.moved hWm.alike hK, hD⟩, hS.F ht⟩) hS.2.2 d hlk
  intro T hT X
  obtain ⟨t, a1, b1⟩ := k1 T hT X
  exact ⟨t, a1, hQ t b1⟩
theorem v_vret  (hJ : Snd l R cc nL own (none) D tys O wld post X J)  (d : decode cc pc = .ok (.return_, 1)) (hq : post none u) : J pc lv [] u := by
  obtain ⟨p, e, s, m, args, below, meth, c, A, Q⟩ := X
  obtain ⟨hx, hb, hml, hown, hts, hr, hlk, hK, hA, hOL, hO, hQ, hW⟩ := hJ
  refine (hW _ _ _ _).mpr (fun H locs ls hP hD hS hl => ?_)
  have k1 : W p l e R s m args below meth c H locs 0 0 (MQ below (cQ D tys wld A post) args s 0 0 A) (F0 m pc ls []) := W.vret hx hb hr (fun t ht hWm => ⟨⟨_, u, rfl, hq, by rw [ht]; exact hP, va_K.moved hWm.alike hK, hD⟩, hS.F ht⟩) hS.2.2 d hlk
  intro T hT X
  obtain ⟨t, a1, b1⟩ := k1 T hT X
  exact ⟨t, a1, hQ t b1⟩
theorem v_aret {on : String} (hJ : Snd l R cc nL own (some (.object on)) D tys O wld post X J) {x : Nat} (d : decode cc pc = .ok (.areturn, 1)) (hq : post (some (.ref x)) u) : J pc lv [.ref x] u := by
  obtain ⟨p, e, s, m, args, below, meth, c, A, Q⟩ := X
  obtain ⟨hx, hb, hml, hown, hts, hr, hlk, hK, hA, hOL, hO, hQ, hW⟩ := hJ
  refine (hW _ _ _ _).mpr (fun H locs ls hP hD hS hl => ?_)
  have k1 : W p l e R s m args below meth c H locs 0 0 (MQ below (cQ D tys wld A post) args s 0 0 A) (F0 m pc ls [.ref x]) := W.aret hx hb hr (Or.inl ⟨_, rfl⟩) (Or.inr ⟨_, rfl⟩) (fun t ht hWm => ⟨⟨_, u, rfl, hq, by rw [ht]; exact hP, va_K.moved hWm.alike hK, hD⟩, hS.F ht⟩) hS.2.2 d hlk
  intro T hT X
  obtain ⟨t, a1, b1⟩ := k1 T hT X
  exact ⟨t, a1, hQ t b1⟩
theorem va_goon {p : Program} {e : Env} {s : State} {m : MethodId} {args : Array Value} {below : List Frame} {meth : Method} {c : Code} {H : Heap} {locs : List Loc} {Q : State → Prop} {ls : Array Slot} {rest st0 : List Value} {a : Array Value} {A0 A1 : Nat → Prop} {H0 : Heap} {free : Addr → Prop} {post' : Option Value → σ → Prop} (hr : va_Run p l e R s m args below meth c H locs 0 0 0 0 (F0 m pc ls st0) rest (cQ D tys wld A1 post' a) free) (hS : va_S A0 H0 H locs) (hA : ∀ q, A1 q → A0 q) (hf : ∀ q, free q → A0 q)
    (kk : ∀ (v : Option Value) (u : σ) (H1 : Heap) (locs1 : List Loc), post' v u → va_P D vwCl (wld u) H1 → va_D A0 (wld u) → va_S A0 H0 H1 locs1 → W p l e R s m args below meth c H1 locs1 0 0 Q (F0 m (pc + 3) ls (v.toList ++ rest))) : W p l e R s m args below meth c H locs 0 0 Q (F0 m pc ls st0) := by
  intro T hT X
  obtain ⟨v, st₀, t, T', L, h0, X', hL, e1, e2, ⟨⟨v2, u, hv, hp, hP, hK, hD⟩, hz, hk⟩, st⟩ := hr T hT X
  cases hv
  rw [h0] at hz hk
  obtain ⟨t2, a1, b1⟩ := kk v u T'.heap (locs ++ L) hp (by rw [e1]; exact hP) (hD.weaken (fun _ _ _ h => hA _ h))
    ⟨Nat.le_trans hS.1 (by rw [e1]; exact hz), fun q h1 h2 => by rw [e1, hk q (Nat.lt_of_lt_of_le h1 hS.1) (fun z => h2 (hA q z))]; exact hS.2.1 q h1 h2, fun q hq => by
      rcases List.mem_append.mp hq with h | h
      · exact hS.2.2 q h
      · exact hf _ (hL q h)⟩ T' rfl X'
  exact ⟨t2, st t2 a1, b1⟩
/-- what a call's place in the code says: links and words -/
def LkV (own : String) (idx : Nat) (C : String) (y : MethodName) (cc : ByteArray) (n : Nat) (rt : Option FieldType) (k : Nat) : Prop := (∀ w ∈ wsV own idx C y [Cond.code y cc n rt], w ∈ gw) ∧ y.cls = C ∧ y.cls ≠ "java/lang/invoke/MethodHandle" ∧ y.cls ≠ "java/lang/invoke/VarHandle" ∧ (parseMethodDescriptor y.desc).map (fun d => d.parameters.length) = some k
def LkS (own : String) (idx : Nat) (y : MethodName) (cc : ByteArray) (n : Nat) (rt : Option FieldType) (k : Nat) : Prop := (∀ w ∈ va_wsS own idx y [Cond.code y cc n rt], w ∈ gw) ∧ y.cls ≠ "java/lang/invoke/MethodHandle" ∧ y.cls ≠ "java/lang/invoke/VarHandle" ∧ (parseMethodDescriptor y.desc).map (fun d => d.parameters.length) = some k
def rOk (rm R : Room) (n : Nat) : Prop := rm.cells = 0 ∧ rm.slots = 0 ∧ rm.frames + 1 ≤ R.frames ∧ 8 + (n + 11) + rm.locals ≤ R.locals
theorem lk_good {y : MethodName} {cc : ByteArray} {n : Nat} {rt : Option FieldType} {ws : List Cond} (h : ∀ w ∈ ws ++ [Cond.code y cc n rt], w ∈ gw) : GoodIn gw (ws ++ (Cond.code y cc n rt :: gw)) := by
  intro w hw
  rcases List.mem_append.mp hw with h1 | h1
  · exact gw_good w (h w (List.mem_append_left _ h1))
  · rcases List.mem_cons.mp h1 with h2 | h2
    · exact gw_good w (h w (by rw [h2]; exact List.mem_append_right _ List.mem_cons_self))
    · exact gw_good w h2
theorem ct_pre {p : Program} {e : Env} {s : State} {m : MethodId} {args : Array Value} {below : List Frame} {A : Nat → Prop} {H : Heap} {locs : List Loc} (hK : va_K D vwCl tys s) (hOL : OL O) (hO : O A s s.heap) (hP : va_P D vwCl (wld u) H) (hD : va_D A (wld u)) (hS : va_S A s.heap H locs) (hF : ∀ q, va_A (wld u) H.size q → A q) (as : List Value) : ∀ U : State, U.heap = H → s.WarmedH U.vm → va_Pc as (fun U => U.heap.size = H.size ∧ va_P D vwCl (wld u) U.heap ∧ va_K D vwCl tys U ∧ va_D (fun _ => True) (wld u) ∧ O (va_A (wld u) H.size) U U.heap) as.toArray U := by
  intro U hU hWm
  refine ⟨rfl, by rw [hU], by rw [hU]; exact hP, va_K.moved hWm.alike hK, hD.weaken (fun _ _ _ _ => trivial), ?_⟩
  rw [hU]
  exact hOL.2.2 _ s U H hWm (hOL.1 A _ s H (hOL.2.1 A s s.heap H hO hS.2.1) hF)
theorem ct_blind {sz : Nat} {A1 : Nat → Prop} (hOL : OL O) (as : List Value) : FrameBlind (va_Pc as (fun U => U.heap.size = sz ∧ va_P D vwCl (wld u) U.heap ∧ va_K D vwCl tys U ∧ va_D (fun _ => True) (wld u) ∧ O A1 U U.heap)) := by
  intro a U g mk q
  obtain ⟨q0, q1, qP, qK, qD, qO⟩ := q
  exact ⟨q0, q1, qP, va_K.moved (u := U) (U := U.calling g mk a) (Vm.Alike.refl U.vm) qK, qD, hOL.2.2 _ U (U.calling g mk a) U.heap (State.WarmedH.refl U) qO⟩
theorem v_callV (hJ : Snd l R cc nL own rt D tys O wld post X J) {q0 ci N idx kn n' : Nat} {C : String} {T : u_T} {fs : List Value} {b : Nat} {y : MethodName} {cc' : ByteArray} {rt' : Option FieldType} {rm : Room} {As st0 : List Value} {post' : Option Value → σ → Prop} (he : (wld u)[q0]? = some (b, .inr (ci, fs))) (hc : vwCl[ci]? = some (C, T, N)) (lk : LkV own idx C y cc' n' rt' kn) (hM : Ct l y cc' n' rt' rm D tys O wld (.ref b :: As) u post') (hkn : As.length = kn) (hst : st0 = As.reverse ++ .ref b :: st) (hroom : (st.map fun v => v.category).sum ≤ 8) (hrm : rOk rm R n') (d : decode cc pc = .ok (.invokevirtual idx, 3)) (kk : ∀ (v : Option Value) (u' : σ), post' v u' → J (pc + 3) lv (v.toList ++ st) u') : J pc lv st0 u := by
  obtain ⟨p, e, s, m, args, below, meth, c, A, Q⟩ := X
  obtain ⟨hx, hb, hml, hown, hts, hr, hlk, hK, hA, hOL, hO, hQ, hW⟩ := hJ
  refine (hW _ _ _ _).mpr (fun H locs ls hP hD hS hl => ?_)
  have hF : ∀ q, va_A (wld u) H.size q → A q := by
    rintro q (⟨k9, e9, h9⟩ | h9)
    · exact hD.2 k9 _ h9
    · exact hA q (Nat.le_trans hS.1 h9)
  refine va_goon (D := D) (tys := tys) (wld := wld) (A1 := va_A (wld u) H.size) (va_runV (As := As) (rest := st) (Ts := gw) (own := own) (b := b) ⟨hx, hb, hml, hown, hts⟩ (hM H.size) (cwV kn hts (lk_good lk.1) rfl hrm.1 hrm.2.1 lk.2 hrm.2.2) ⟨ct_blind hOL _, va_recv hK hP hc he, ct_pre (p := p) (e := e) (m := m) (args := args) (below := below) hK hOL hO hP hD hS hF _⟩ rfl hkn hl.1 hst (lv_room hroom) d ⟨Nat.zero_le _, Nat.zero_le _⟩) hS hF hF (fun v u' H1 locs1 hp hP1 hD1 hS1 => (hW _ _ _ _).mp (kk v u' hp) H1 locs1 ls hP1 hD1 hS1 hl)
theorem v_callS (hJ : Snd l R cc nL own rt D tys O wld post X J) {idx kn n' : Nat} {y : MethodName} {cc' : ByteArray} {rt' : Option FieldType} {rm : Room} {As st0 : List Value} {post' : Option Value → σ → Prop} (lk : LkS own idx y cc' n' rt' kn) (hM : Ct l y cc' n' rt' rm D tys O wld As u post') (hkn : As.length = kn) (hst : st0 = As.reverse ++ st) (hroom : (st.map fun v => v.category).sum ≤ 8) (hrm : rOk rm R n') (d : decode cc pc = .ok (.invokestatic idx, 3)) (kk : ∀ (v : Option Value) (u' : σ), post' v u' → J (pc + 3) lv (v.toList ++ st) u') : J pc lv st0 u := by
  obtain ⟨p, e, s, m, args, below, meth, c, A, Q⟩ := X
  obtain ⟨hx, hb, hml, hown, hts, hr, hlk, hK, hA, hOL, hO, hQ, hW⟩ := hJ
  refine (hW _ _ _ _).mpr (fun H locs ls hP hD hS hl => ?_)
  have hF : ∀ q, va_A (wld u) H.size q → A q := by
    rintro q (⟨k9, e9, h9⟩ | h9)
    · exact hD.2 k9 _ h9
    · exact hA q (Nat.le_trans hS.1 h9)
  refine va_goon (D := D) (tys := tys) (wld := wld) (A1 := va_A (wld u) H.size) (va_runS (As := As) (rest := st) (Ts := gw) (own := own) ⟨hx, hb, hml, hown, hts⟩ (hM H.size) (va_cwS kn hts (lk_good lk.1) rfl hrm.1 hrm.2.1 lk.2 hrm.2.2) ⟨ct_blind hOL _, ct_pre (p := p) (e := e) (m := m) (args := args) (below := below) hK hOL hO hP hD hS hF _⟩ rfl hkn hl.1 hst (lv_room hroom) d ⟨Nat.zero_le _, Nat.zero_le _⟩) hS hF hF (fun v u' H1 locs1 hp hP1 hD1 hS1 => (hW _ _ _ _).mp (kk v u' hp) H1 locs1 ls hP1 hD1 hS1 hl)
theorem v_cV0i (hJ : Snd l R cc nL own rt D tys O wld post X J) {q0 ci N idx n2 : Nat} {C : String} {T : u_T} {fs : List Value} {b : Nat} {y : MethodName} {cc2 : ByteArray} {rt2 : Option FieldType} {rm : Room} {P : Int → σ → Prop} (he : (wld u)[q0]? = some (b, .inr (ci, fs))) (hc : vwCl[ci]? = some (C, T, N)) (lk : LkV own idx C y cc2 n2 rt2 0) (hM : Ct l y cc2 n2 rt2 rm D tys O wld (.ref b :: []) u (pI P)) (hroom : (st.map fun v => v.category).sum ≤ 8) (hrm : rOk rm R n2) (d : decode cc pc = .ok (.invokevirtual idx, 3)) (kk : ∀ (r : Int) (u2 : σ), P r u2 → J (pc + 3) lv (.int (iZ r) :: st) u2) : J pc lv (.ref b :: st) u :=
  v_callV (As := []) hJ he hc lk hM rfl rfl hroom hrm d (fun v u2 h => by obtain ⟨r, rfl, h2⟩ := h; exact kk r u2 h2)
theorem v_cS0i (hJ : Snd l R cc nL own rt D tys O wld post X J) {idx n2 : Nat} {y : MethodName} {cc2 : ByteArray} {rt2 : Option FieldType} {rm : Room} {P : Int → σ → Prop} (lk : LkS own idx y cc2 n2 rt2 0) (hM : Ct l y cc2 n2 rt2 rm D tys O wld [] u (pI P)) (hroom : (st.map fun v => v.category).sum ≤ 8) (hrm : rOk rm R n2) (d : decode cc pc = .ok (.invokestatic idx, 3)) (kk : ∀ (r : Int) (u2 : σ), P r u2 → J (pc + 3) lv (.int (iZ r) :: st) u2) : J pc lv (st) u :=
  v_callS (As := []) hJ lk hM rfl rfl hroom hrm d (fun v u2 h => by obtain ⟨r, rfl, h2⟩ := h; exact kk r u2 h2)
theorem v_cV0v (hJ : Snd l R cc nL own rt D tys O wld post X J) {q0 ci N idx n2 : Nat} {C : String} {T : u_T} {fs : List Value} {b : Nat} {y : MethodName} {cc2 : ByteArray} {rt2 : Option FieldType} {rm : Room} {P : σ → Prop} (he : (wld u)[q0]? = some (b, .inr (ci, fs))) (hc : vwCl[ci]? = some (C, T, N)) (lk : LkV own idx C y cc2 n2 rt2 0) (hM : Ct l y cc2 n2 rt2 rm D tys O wld (.ref b :: []) u (pV P)) (hroom : (st.map fun v => v.category).sum ≤ 8) (hrm : rOk rm R n2) (d : decode cc pc = .ok (.invokevirtual idx, 3)) (kk : ∀ (u2 : σ), P u2 → J (pc + 3) lv st u2) : J pc lv (.ref b :: st) u :=
  v_callV (As := []) hJ he hc lk hM rfl rfl hroom hrm d (fun v u2 h => by obtain ⟨rfl, h2⟩ := h; exact kk u2 h2)
theorem v_cS0v (hJ : Snd l R cc nL own rt D tys O wld post X J) {idx n2 : Nat} {y : MethodName} {cc2 : ByteArray} {rt2 : Option FieldType} {rm : Room} {P : σ → Prop} (lk : LkS own idx y cc2 n2 rt2 0) (hM : Ct l y cc2 n2 rt2 rm D tys O wld [] u (pV P)) (hroom : (st.map fun v => v.category).sum ≤ 8) (hrm : rOk rm R n2) (d : decode cc pc = .ok (.invokestatic idx, 3)) (kk : ∀ (u2 : σ), P u2 → J (pc + 3) lv st u2) : J pc lv (st) u :=
  v_callS (As := []) hJ lk hM rfl rfl hroom hrm d (fun v u2 h => by obtain ⟨rfl, h2⟩ := h; exact kk u2 h2)
theorem v_cV0r (hJ : Snd l R cc nL own rt D tys O wld post X J) {q0 ci N idx n2 : Nat} {C : String} {T : u_T} {fs : List Value} {b : Nat} {y : MethodName} {cc2 : ByteArray} {rt2 : Option FieldType} {rm : Room} {P : Nat → σ → Prop} (he : (wld u)[q0]? = some (b, .inr (ci, fs))) (hc : vwCl[ci]? = some (C, T, N)) (lk : LkV own idx C y cc2 n2 rt2 0) (hM : Ct l y cc2 n2 rt2 rm D tys O wld (.ref b :: []) u (pR P)) (hroom : (st.map fun v => v.category).sum ≤ 8) (hrm : rOk rm R n2) (d : decode cc pc = .ok (.invokevirtual idx, 3)) (kk : ∀ (r : Nat) (u2 : σ), P r u2 → J (pc + 3) lv (.ref r :: st) u2) : J pc lv (.ref b :: st) u :=
  v_callV (As := []) hJ he hc lk hM rfl rfl hroom hrm d (fun v u2 h => by obtain ⟨r, rfl, h2⟩ := h; exact kk r u2 h2)
theorem v_cS0r (hJ : Snd l R cc nL own rt D tys O wld post X J) {idx n2 : Nat} {y : MethodName} {cc2 : ByteArray} {rt2 : Option FieldType} {rm : Room} {P : Nat → σ → Prop} (lk : LkS own idx y cc2 n2 rt2 0) (hM : Ct l y cc2 n2 rt2 rm D tys O wld [] u (pR P)) (hroom : (st.map fun v => v.category).sum ≤ 8) (hrm : rOk rm R n2) (d : decode cc pc = .ok (.invokestatic idx, 3)) (kk : ∀ (r : Nat) (u2 : σ), P r u2 → J (pc + 3) lv (.ref r :: st) u2) : J pc lv (st) u :=
  v_callS (As := []) hJ lk hM rfl rfl hroom hrm d (fun v u2 h => by obtain ⟨r, rfl, h2⟩ := h; exact kk r u2 h2)
theorem v_cV1i (hJ : Snd l R cc nL own rt D tys O wld post X J) {q0 ci N idx n2 : Nat} {C : String} {T : u_T} {fs : List Value} {b : Nat} {y : MethodName} {cc2 : ByteArray} {rt2 : Option FieldType} {rm : Room} {v1 : Value} {P : Int → σ → Prop} (he : (wld u)[q0]? = some (b, .inr (ci, fs))) (hc : vwCl[ci]? = some (C, T, N)) (lk : LkV own idx C y cc2 n2 rt2 1) (hM : Ct l y cc2 n2 rt2 rm D tys O wld (.ref b :: [v1]) u (pI P)) (hroom : (st.map fun v => v.category).sum ≤ 8) (hrm : rOk rm R n2) (d : decode cc pc = .ok (.invokevirtual idx, 3)) (kk : ∀ (r : Int) (u2 : σ), P r u2 → J (pc + 3) lv (.int (iZ r) :: st) u2) : J pc lv (v1 :: .ref b :: st) u :=
  v_callV (As := [v1]) hJ he hc lk hM rfl rfl hroom hrm d (fun v u2 h => by obtain ⟨r, rfl, h2⟩ := h; exact kk r u2 h2)
theorem v_cS1i (hJ : Snd l R cc nL own rt D tys O wld post X J) {idx n2 : Nat} {y : MethodName} {cc2 : ByteArray} {rt2 : Option FieldType} {rm : Room} {v1 : Value} {P : Int → σ → Prop} (lk : LkS own idx y cc2 n2 rt2 1) (hM : Ct l y cc2 n2 rt2 rm D tys O wld [v1] u (pI P)) (hroom : (st.map fun v => v.category).sum ≤ 8) (hrm : rOk rm R n2) (d : decode cc pc = .ok (.invokestatic idx, 3)) (kk : ∀ (r : Int) (u2 : σ), P r u2 → J (pc + 3) lv (.int (iZ r) :: st) u2) : J pc lv (v1 :: st) u :=
  v_callS (As := [v1]) hJ lk hM rfl rfl hroom hrm d (fun v u2 h => by obtain ⟨r, rfl, h2⟩ := h; exact kk r u2 h2)
theorem v_cV1v (hJ : Snd l R cc nL own rt D tys O wld post X J) {q0 ci N idx n2 : Nat} {C : String} {T : u_T} {fs : List Value} {b : Nat} {y : MethodName} {cc2 : ByteArray} {rt2 : Option FieldType} {rm : Room} {v1 : Value} {P : σ → Prop} (he : (wld u)[q0]? = some (b, .inr (ci, fs))) (hc : vwCl[ci]? = some (C, T, N)) (lk : LkV own idx C y cc2 n2 rt2 1) (hM : Ct l y cc2 n2 rt2 rm D tys O wld (.ref b :: [v1]) u (pV P)) (hroom : (st.map fun v => v.category).sum ≤ 8) (hrm : rOk rm R n2) (d : decode cc pc = .ok (.invokevirtual idx, 3)) (kk : ∀ (u2 : σ), P u2 → J (pc + 3) lv st u2) : J pc lv (v1 :: .ref b :: st) u :=
  v_callV (As := [v1]) hJ he hc lk hM rfl rfl hroom hrm d (fun v u2 h => by obtain ⟨rfl, h2⟩ := h; exact kk u2 h2)
theorem v_cS1v (hJ : Snd l R cc nL own rt D tys O wld post X J) {idx n2 : Nat} {y : MethodName} {cc2 : ByteArray} {rt2 : Option FieldType} {rm : Room} {v1 : Value} {P : σ → Prop} (lk : LkS own idx y cc2 n2 rt2 1) (hM : Ct l y cc2 n2 rt2 rm D tys O wld [v1] u (pV P)) (hroom : (st.map fun v => v.category).sum ≤ 8) (hrm : rOk rm R n2) (d : decode cc pc = .ok (.invokestatic idx, 3)) (kk : ∀ (u2 : σ), P u2 → J (pc + 3) lv st u2) : J pc lv (v1 :: st) u :=
  v_callS (As := [v1]) hJ lk hM rfl rfl hroom hrm d (fun v u2 h => by obtain ⟨rfl, h2⟩ := h; exact kk u2 h2)
theorem v_cV1r (hJ : Snd l R cc nL own rt D tys O wld post X J) {q0 ci N idx n2 : Nat} {C : String} {T : u_T} {fs : List Value} {b : Nat} {y : MethodName} {cc2 : ByteArray} {rt2 : Option FieldType} {rm : Room} {v1 : Value} {P : Nat → σ → Prop} (he : (wld u)[q0]? = some (b, .inr (ci, fs))) (hc : vwCl[ci]? = some (C, T, N)) (lk : LkV own idx C y cc2 n2 rt2 1) (hM : Ct l y cc2 n2 rt2 rm D tys O wld (.ref b :: [v1]) u (pR P)) (hroom : (st.map fun v => v.category).sum ≤ 8) (hrm : rOk rm R n2) (d : decode cc pc = .ok (.invokevirtual idx, 3)) (kk : ∀ (r : Nat) (u2 : σ), P r u2 → J (pc + 3) lv (.ref r :: st) u2) : J pc lv (v1 :: .ref b :: st) u :=
  v_callV (As := [v1]) hJ he hc lk hM rfl rfl hroom hrm d (fun v u2 h => by obtain ⟨r, rfl, h2⟩ := h; exact kk r u2 h2)
theorem v_cS1r (hJ : Snd l R cc nL own rt D tys O wld post X J) {idx n2 : Nat} {y : MethodName} {cc2 : ByteArray} {rt2 : Option FieldType} {rm : Room} {v1 : Value} {P : Nat → σ → Prop} (lk : LkS own idx y cc2 n2 rt2 1) (hM : Ct l y cc2 n2 rt2 rm D tys O wld [v1] u (pR P)) (hroom : (st.map fun v => v.category).sum ≤ 8) (hrm : rOk rm R n2) (d : decode cc pc = .ok (.invokestatic idx, 3)) (kk : ∀ (r : Nat) (u2 : σ), P r u2 → J (pc + 3) lv (.ref r :: st) u2) : J pc lv (v1 :: st) u :=
  v_callS (As := [v1]) hJ lk hM rfl rfl hroom hrm d (fun v u2 h => by obtain ⟨r, rfl, h2⟩ := h; exact kk r u2 h2)
theorem v_cV2i (hJ : Snd l R cc nL own rt D tys O wld post X J) {q0 ci N idx n2 : Nat} {C : String} {T : u_T} {fs : List Value} {b : Nat} {y : MethodName} {cc2 : ByteArray} {rt2 : Option FieldType} {rm : Room} {v1 v2 : Value} {P : Int → σ → Prop} (he : (wld u)[q0]? = some (b, .inr (ci, fs))) (hc : vwCl[ci]? = some (C, T, N)) (lk : LkV own idx C y cc2 n2 rt2 2) (hM : Ct l y cc2 n2 rt2 rm D tys O wld (.ref b :: [v1, v2]) u (pI P)) (hroom : (st.map fun v => v.category).sum ≤ 8) (hrm : rOk rm R n2) (d : decode cc pc = .ok (.invokevirtual idx, 3)) (kk : ∀ (r : Int) (u2 : σ), P r u2 → J (pc + 3) lv (.int (iZ r) :: st) u2) : J pc lv (v2 :: v1 :: .ref b :: st) u :=
  v_callV (As := [v1, v2]) hJ he hc lk hM rfl rfl hroom hrm d (fun v u2 h => by obtain ⟨r, rfl, h2⟩ := h; exact kk r u2 h2)
theorem v_cS2i (hJ : Snd l R cc nL own rt D tys O wld post X J) {idx n2 : Nat} {y : MethodName} {cc2 : ByteArray} {rt2 : Option FieldType} {rm : Room} {v1 v2 : Value} {P : Int → σ → Prop} (lk : LkS own idx y cc2 n2 rt2 2) (hM : Ct l y cc2 n2 rt2 rm D tys O wld [v1, v2] u (pI P)) (hroom : (st.map fun v => v.category).sum ≤ 8) (hrm : rOk rm R n2) (d : decode cc pc = .ok (.invokestatic idx, 3)) (kk : ∀ (r : Int) (u2 : σ), P r u2 → J (pc + 3) lv (.int (iZ r) :: st) u2) : J pc lv (v2 :: v1 :: st) u :=
  v_callS (As := [v1, v2]) hJ lk hM rfl rfl hroom hrm d (fun v u2 h => by obtain ⟨r, rfl, h2⟩ := h; exact kk r u2 h2)
theorem v_cV2v (hJ : Snd l R cc nL own rt D tys O wld post X J) {q0 ci N idx n2 : Nat} {C : String} {T : u_T} {fs : List Value} {b : Nat} {y : MethodName} {cc2 : ByteArray} {rt2 : Option FieldType} {rm : Room} {v1 v2 : Value} {P : σ → Prop} (he : (wld u)[q0]? = some (b, .inr (ci, fs))) (hc : vwCl[ci]? = some (C, T, N)) (lk : LkV own idx C y cc2 n2 rt2 2) (hM : Ct l y cc2 n2 rt2 rm D tys O wld (.ref b :: [v1, v2]) u (pV P)) (hroom : (st.map fun v => v.category).sum ≤ 8) (hrm : rOk rm R n2) (d : decode cc pc = .ok (.invokevirtual idx, 3)) (kk : ∀ (u2 : σ), P u2 → J (pc + 3) lv st u2) : J pc lv (v2 :: v1 :: .ref b :: st) u :=
  v_callV (As := [v1, v2]) hJ he hc lk hM rfl rfl hroom hrm d (fun v u2 h => by obtain ⟨rfl, h2⟩ := h; exact kk u2 h2)
theorem v_cS2v (hJ : Snd l R cc nL own rt D tys O wld post X J) {idx n2 : Nat} {y : MethodName} {cc2 : ByteArray} {rt2 : Option FieldType} {rm : Room} {v1 v2 : Value} {P : σ → Prop} (lk : LkS own idx y cc2 n2 rt2 2) (hM : Ct l y cc2 n2 rt2 rm D tys O wld [v1, v2] u (pV P)) (hroom : (st.map fun v => v.category).sum ≤ 8) (hrm : rOk rm R n2) (d : decode cc pc = .ok (.invokestatic idx, 3)) (kk : ∀ (u2 : σ), P u2 → J (pc + 3) lv st u2) : J pc lv (v2 :: v1 :: st) u :=
  v_callS (As := [v1, v2]) hJ lk hM rfl rfl hroom hrm d (fun v u2 h => by obtain ⟨rfl, h2⟩ := h; exact kk u2 h2)
theorem v_cV2r (hJ : Snd l R cc nL own rt D tys O wld post X J) {q0 ci N idx n2 : Nat} {C : String} {T : u_T} {fs : List Value} {b : Nat} {y : MethodName} {cc2 : ByteArray} {rt2 : Option FieldType} {rm : Room} {v1 v2 : Value} {P : Nat → σ → Prop} (he : (wld u)[q0]? = some (b, .inr (ci, fs))) (hc : vwCl[ci]? = some (C, T, N)) (lk : LkV own idx C y cc2 n2 rt2 2) (hM : Ct l y cc2 n2 rt2 rm D tys O wld (.ref b :: [v1, v2]) u (pR P)) (hroom : (st.map fun v => v.category).sum ≤ 8) (hrm : rOk rm R n2) (d : decode cc pc = .ok (.invokevirtual idx, 3)) (kk : ∀ (r : Nat) (u2 : σ), P r u2 → J (pc + 3) lv (.ref r :: st) u2) : J pc lv (v2 :: v1 :: .ref b :: st) u :=
  v_callV (As := [v1, v2]) hJ he hc lk hM rfl rfl hroom hrm d (fun v u2 h => by obtain ⟨r, rfl, h2⟩ := h; exact kk r u2 h2)
theorem v_cS2r (hJ : Snd l R cc nL own rt D tys O wld post X J) {idx n2 : Nat} {y : MethodName} {cc2 : ByteArray} {rt2 : Option FieldType} {rm : Room} {v1 v2 : Value} {P : Nat → σ → Prop} (lk : LkS own idx y cc2 n2 rt2 2) (hM : Ct l y cc2 n2 rt2 rm D tys O wld [v1, v2] u (pR P)) (hroom : (st.map fun v => v.category).sum ≤ 8) (hrm : rOk rm R n2) (d : decode cc pc = .ok (.invokestatic idx, 3)) (kk : ∀ (r : Nat) (u2 : σ), P r u2 → J (pc + 3) lv (.ref r :: st) u2) : J pc lv (v2 :: v1 :: st) u :=
  v_callS (As := [v1, v2]) hJ lk hM rfl rfl hroom hrm d (fun v u2 h => by obtain ⟨r, rfl, h2⟩ := h; exact kk r u2 h2)
theorem v_cV3i (hJ : Snd l R cc nL own rt D tys O wld post X J) {q0 ci N idx n2 : Nat} {C : String} {T : u_T} {fs : List Value} {b : Nat} {y : MethodName} {cc2 : ByteArray} {rt2 : Option FieldType} {rm : Room} {v1 v2 v3 : Value} {P : Int → σ → Prop} (he : (wld u)[q0]? = some (b, .inr (ci, fs))) (hc : vwCl[ci]? = some (C, T, N)) (lk : LkV own idx C y cc2 n2 rt2 3) (hM : Ct l y cc2 n2 rt2 rm D tys O wld (.ref b :: [v1, v2, v3]) u (pI P)) (hroom : (st.map fun v => v.category).sum ≤ 8) (hrm : rOk rm R n2) (d : decode cc pc = .ok (.invokevirtual idx, 3)) (kk : ∀ (r : Int) (u2 : σ), P r u2 → J (pc + 3) lv (.int (iZ r) :: st) u2) : J pc lv (v3 :: v2 :: v1 :: .ref b :: st) u :=
  v_callV (As := [v1, v2, v3]) hJ he hc lk hM rfl rfl hroom hrm d (fun v u2 h => by obtain ⟨r, rfl, h2⟩ := h; exact kk r u2 h2)
theorem v_cS3i (hJ : Snd l R cc nL own rt D tys O wld post X J) {idx n2 : Nat} {y : MethodName} {cc2 : ByteArray} {rt2 : Option FieldType} {rm : Room} {v1 v2 v3 : Value} {P : Int → σ → Prop} (lk : LkS own idx y cc2 n2 rt2 3) (hM : Ct l y cc2 n2 rt2 rm D tys O wld [v1, v2, v3] u (pI P)) (hroom : (st.map fun v => v.category).sum ≤ 8) (hrm : rOk rm R n2) (d : decode cc pc = .ok (.invokestatic idx, 3)) (kk : ∀ (r : Int) (u2 : σ), P r u2 → J (pc + 3) lv (.int (iZ r) :: st) u2) : J pc lv (v3 :: v2 :: v1 :: st) u :=
  v_callS (As := [v1, v2, v3]) hJ lk hM rfl rfl hroom hrm d (fun v u2 h => by obtain ⟨r, rfl, h2⟩ := h; exact kk r u2 h2)
theorem v_cV3v (hJ : Snd l R cc nL own rt D tys O wld post X J) {q0 ci N idx n2 : Nat} {C : String} {T : u_T} {fs : List Value} {b : Nat} {y : MethodName} {cc2 : ByteArray} {rt2 : Option FieldType} {rm : Room} {v1 v2 v3 : Value} {P : σ → Prop} (he : (wld u)[q0]? = some (b, .inr (ci, fs))) (hc : vwCl[ci]? = some (C, T, N)) (lk : LkV own idx C y cc2 n2 rt2 3) (hM : Ct l y cc2 n2 rt2 rm D tys O wld (.ref b :: [v1, v2, v3]) u (pV P)) (hroom : (st.map fun v => v.category).sum ≤ 8) (hrm : rOk rm R n2) (d : decode cc pc = .ok (.invokevirtual idx, 3)) (kk : ∀ (u2 : σ), P u2 → J (pc + 3) lv st u2) : J pc lv (v3 :: v2 :: v1 :: .ref b :: st) u :=
  v_callV (As := [v1, v2, v3]) hJ he hc lk hM rfl rfl hroom hrm d (fun v u2 h => by obtain ⟨rfl, h2⟩ := h; exact kk u2 h2)
theorem v_cS3v (hJ : Snd l R cc nL own rt D tys O wld post X J) {idx n2 : Nat} {y : MethodName} {cc2 : ByteArray} {rt2 : Option FieldType} {rm : Room} {v1 v2 v3 : Value} {P : σ → Prop} (lk : LkS own idx y cc2 n2 rt2 3) (hM : Ct l y cc2 n2 rt2 rm D tys O wld [v1, v2, v3] u (pV P)) (hroom : (st.map fun v => v.category).sum ≤ 8) (hrm : rOk rm R n2) (d : decode cc pc = .ok (.invokestatic idx, 3)) (kk : ∀ (u2 : σ), P u2 → J (pc + 3) lv st u2) : J pc lv (v3 :: v2 :: v1 :: st) u :=
  v_callS (As := [v1, v2, v3]) hJ lk hM rfl rfl hroom hrm d (fun v u2 h => by obtain ⟨rfl, h2⟩ := h; exact kk u2 h2)
theorem v_cV3r (hJ : Snd l R cc nL own rt D tys O wld post X J) {q0 ci N idx n2 : Nat} {C : String} {T : u_T} {fs : List Value} {b : Nat} {y : MethodName} {cc2 : ByteArray} {rt2 : Option FieldType} {rm : Room} {v1 v2 v3 : Value} {P : Nat → σ → Prop} (he : (wld u)[q0]? = some (b, .inr (ci, fs))) (hc : vwCl[ci]? = some (C, T, N)) (lk : LkV own idx C y cc2 n2 rt2 3) (hM : Ct l y cc2 n2 rt2 rm D tys O wld (.ref b :: [v1, v2, v3]) u (pR P)) (hroom : (st.map fun v => v.category).sum ≤ 8) (hrm : rOk rm R n2) (d : decode cc pc = .ok (.invokevirtual idx, 3)) (kk : ∀ (r : Nat) (u2 : σ), P r u2 → J (pc + 3) lv (.ref r :: st) u2) : J pc lv (v3 :: v2 :: v1 :: .ref b :: st) u :=
  v_callV (As := [v1, v2, v3]) hJ he hc lk hM rfl rfl hroom hrm d (fun v u2 h => by obtain ⟨r, rfl, h2⟩ := h; exact kk r u2 h2)
theorem v_cS3r (hJ : Snd l R cc nL own rt D tys O wld post X J) {idx n2 : Nat} {y : MethodName} {cc2 : ByteArray} {rt2 : Option FieldType} {rm : Room} {v1 v2 v3 : Value} {P : Nat → σ → Prop} (lk : LkS own idx y cc2 n2 rt2 3) (hM : Ct l y cc2 n2 rt2 rm D tys O wld [v1, v2, v3] u (pR P)) (hroom : (st.map fun v => v.category).sum ≤ 8) (hrm : rOk rm R n2) (d : decode cc pc = .ok (.invokestatic idx, 3)) (kk : ∀ (r : Nat) (u2 : σ), P r u2 → J (pc + 3) lv (.ref r :: st) u2) : J pc lv (v3 :: v2 :: v1 :: st) u :=
  v_callS (As := [v1, v2, v3]) hJ lk hM rfl rfl hroom hrm d (fun v u2 h => by obtain ⟨r, rfl, h2⟩ := h; exact kk r u2 h2)
theorem v_cV4i (hJ : Snd l R cc nL own rt D tys O wld post X J) {q0 ci N idx n2 : Nat} {C : String} {T : u_T} {fs : List Value} {b : Nat} {y : MethodName} {cc2 : ByteArray} {rt2 : Option FieldType} {rm : Room} {v1 v2 v3 v4 : Value} {P : Int → σ → Prop} (he : (wld u)[q0]? = some (b, .inr (ci, fs))) (hc : vwCl[ci]? = some (C, T, N)) (lk : LkV own idx C y cc2 n2 rt2 4) (hM : Ct l y cc2 n2 rt2 rm D tys O wld (.ref b :: [v1, v2, v3, v4]) u (pI P)) (hroom : (st.map fun v => v.category).sum ≤ 8) (hrm : rOk rm R n2) (d : decode cc pc = .ok (.invokevirtual idx, 3)) (kk : ∀ (r : Int) (u2 : σ), P r u2 → J (pc + 3) lv (.int (iZ r) :: st) u2) : J pc lv (v4 :: v3 :: v2 :: v1 :: .ref b :: st) u :=
  v_callV (As := [v1, v2, v3, v4]) hJ he hc lk hM rfl rfl hroom hrm d (fun v u2 h => by obtain ⟨r, rfl, h2⟩ := h; exact kk r u2 h2)
theorem v_cS4i (hJ : Snd l R cc nL own rt D tys O wld post X J) {idx n2 : Nat} {y : MethodName} {cc2 : ByteArray} {rt2 : Option FieldType} {rm : Room} {v1 v2 v3 v4 : Value} {P : Int → σ → Prop} (lk : LkS own idx y cc2 n2 rt2 4) (hM : Ct l y cc2 n2 rt2 rm D tys O wld [v1, v2, v3, v4] u (pI P)) (hroom : (st.map fun v => v.category).sum ≤ 8) (hrm : rOk rm R n2) (d : decode cc pc = .ok (.invokestatic idx, 3)) (kk : ∀ (r : Int) (u2 : σ), P r u2 → J (pc + 3) lv (.int (iZ r) :: st) u2) : J pc lv (v4 :: v3 :: v2 :: v1 :: st) u :=
  v_callS (As := [v1, v2, v3, v4]) hJ lk hM rfl rfl hroom hrm d (fun v u2 h => by obtain ⟨r, rfl, h2⟩ := h; exact kk r u2 h2)
theorem v_cV4v (hJ : Snd l R cc nL own rt D tys O wld post X J) {q0 ci N idx n2 : Nat} {C : String} {T : u_T} {fs : List Value} {b : Nat} {y : MethodName} {cc2 : ByteArray} {rt2 : Option FieldType} {rm : Room} {v1 v2 v3 v4 : Value} {P : σ → Prop} (he : (wld u)[q0]? = some (b, .inr (ci, fs))) (hc : vwCl[ci]? = some (C, T, N)) (lk : LkV own idx C y cc2 n2 rt2 4) (hM : Ct l y cc2 n2 rt2 rm D tys O wld (.ref b :: [v1, v2, v3, v4]) u (pV P)) (hroom : (st.map fun v => v.category).sum ≤ 8) (hrm : rOk rm R n2) (d : decode cc pc = .ok (.invokevirtual idx, 3)) (kk : ∀ (u2 : σ), P u2 → J (pc + 3) lv st u2) : J pc lv (v4 :: v3 :: v2 :: v1 :: .ref b :: st) u :=
  v_callV (As := [v1, v2, v3, v4]) hJ he hc lk hM rfl rfl hroom hrm d (fun v u2 h => by obtain ⟨rfl, h2⟩ := h; exact kk u2 h2)
theorem v_cS4v (hJ : Snd l R cc nL own rt D tys O wld post X J) {idx n2 : Nat} {y : MethodName} {cc2 : ByteArray} {rt2 : Option FieldType} {rm : Room} {v1 v2 v3 v4 : Value} {P : σ → Prop} (lk : LkS own idx y cc2 n2 rt2 4) (hM : Ct l y cc2 n2 rt2 rm D tys O wld [v1, v2, v3, v4] u (pV P)) (hroom : (st.map fun v => v.category).sum ≤ 8) (hrm : rOk rm R n2) (d : decode cc pc = .ok (.invokestatic idx, 3)) (kk : ∀ (u2 : σ), P u2 → J (pc + 3) lv st u2) : J pc lv (v4 :: v3 :: v2 :: v1 :: st) u :=
  v_callS (As := [v1, v2, v3, v4]) hJ lk hM rfl rfl hroom hrm d (fun v u2 h => by obtain ⟨rfl, h2⟩ := h; exact kk u2 h2)
theorem v_cV4r (hJ : Snd l R cc nL own rt D tys O wld post X J) {q0 ci N idx n2 : Nat} {C : String} {T : u_T} {fs : List Value} {b : Nat} {y : MethodName} {cc2 : ByteArray} {rt2 : Option FieldType} {rm : Room} {v1 v2 v3 v4 : Value} {P : Nat → σ → Prop} (he : (wld u)[q0]? = some (b, .inr (ci, fs))) (hc : vwCl[ci]? = some (C, T, N)) (lk : LkV own idx C y cc2 n2 rt2 4) (hM : Ct l y cc2 n2 rt2 rm D tys O wld (.ref b :: [v1, v2, v3, v4]) u (pR P)) (hroom : (st.map fun v => v.category).sum ≤ 8) (hrm : rOk rm R n2) (d : decode cc pc = .ok (.invokevirtual idx, 3)) (kk : ∀ (r : Nat) (u2 : σ), P r u2 → J (pc + 3) lv (.ref r :: st) u2) : J pc lv (v4 :: v3 :: v2 :: v1 :: .ref b :: st) u :=
  v_callV (As := [v1, v2, v3, v4]) hJ he hc lk hM rfl rfl hroom hrm d (fun v u2 h => by obtain ⟨r, rfl, h2⟩ := h; exact kk r u2 h2)
theorem v_cS4r (hJ : Snd l R cc nL own rt D tys O wld post X J) {idx n2 : Nat} {y : MethodName} {cc2 : ByteArray} {rt2 : Option FieldType} {rm : Room} {v1 v2 v3 v4 : Value} {P : Nat → σ → Prop} (lk : LkS own idx y cc2 n2 rt2 4) (hM : Ct l y cc2 n2 rt2 rm D tys O wld [v1, v2, v3, v4] u (pR P)) (hroom : (st.map fun v => v.category).sum ≤ 8) (hrm : rOk rm R n2) (d : decode cc pc = .ok (.invokestatic idx, 3)) (kk : ∀ (r : Nat) (u2 : σ), P r u2 → J (pc + 3) lv (.ref r :: st) u2) : J pc lv (v4 :: v3 :: v2 :: v1 :: st) u :=
  v_callS (As := [v1, v2, v3, v4]) hJ lk hM rfl rfl hroom hrm d (fun v u2 h => by obtain ⟨r, rfl, h2⟩ := h; exact kk r u2 h2)
theorem v_cV5i (hJ : Snd l R cc nL own rt D tys O wld post X J) {q0 ci N idx n2 : Nat} {C : String} {T : u_T} {fs : List Value} {b : Nat} {y : MethodName} {cc2 : ByteArray} {rt2 : Option FieldType} {rm : Room} {v1 v2 v3 v4 v5 : Value} {P : Int → σ → Prop} (he : (wld u)[q0]? = some (b, .inr (ci, fs))) (hc : vwCl[ci]? = some (C, T, N)) (lk : LkV own idx C y cc2 n2 rt2 5) (hM : Ct l y cc2 n2 rt2 rm D tys O wld (.ref b :: [v1, v2, v3, v4, v5]) u (pI P)) (hroom : (st.map fun v => v.category).sum ≤ 8) (hrm : rOk rm R n2) (d : decode cc pc = .ok (.invokevirtual idx, 3)) (kk : ∀ (r : Int) (u2 : σ), P r u2 → J (pc + 3) lv (.int (iZ r) :: st) u2) : J pc lv (v5 :: v4 :: v3 :: v2 :: v1 :: .ref b :: st) u :=
  v_callV (As := [v1, v2, v3, v4, v5]) hJ he hc lk hM rfl rfl hroom hrm d (fun v u2 h => by obtain ⟨r, rfl, h2⟩ := h; exact kk r u2 h2)
theorem v_cS5i (hJ : Snd l R cc nL own rt D tys O wld post X J) {idx n2 : Nat} {y : MethodName} {cc2 : ByteArray} {rt2 : Option FieldType} {rm : Room} {v1 v2 v3 v4 v5 : Value} {P : Int → σ → Prop} (lk : LkS own idx y cc2 n2 rt2 5) (hM : Ct l y cc2 n2 rt2 rm D tys O wld [v1, v2, v3, v4, v5] u (pI P)) (hroom : (st.map fun v => v.category).sum ≤ 8) (hrm : rOk rm R n2) (d : decode cc pc = .ok (.invokestatic idx, 3)) (kk : ∀ (r : Int) (u2 : σ), P r u2 → J (pc + 3) lv (.int (iZ r) :: st) u2) : J pc lv (v5 :: v4 :: v3 :: v2 :: v1 :: st) u :=
  v_callS (As := [v1, v2, v3, v4, v5]) hJ lk hM rfl rfl hroom hrm d (fun v u2 h => by obtain ⟨r, rfl, h2⟩ := h; exact kk r u2 h2)
theorem v_cV5v (hJ : Snd l R cc nL own rt D tys O wld post X J) {q0 ci N idx n2 : Nat} {C : String} {T : u_T} {fs : List Value} {b : Nat} {y : MethodName} {cc2 : ByteArray} {rt2 : Option FieldType} {rm : Room} {v1 v2 v3 v4 v5 : Value} {P : σ → Prop} (he : (wld u)[q0]? = some (b, .inr (ci, fs))) (hc : vwCl[ci]? = some (C, T, N)) (lk : LkV own idx C y cc2 n2 rt2 5) (hM : Ct l y cc2 n2 rt2 rm D tys O wld (.ref b :: [v1, v2, v3, v4, v5]) u (pV P)) (hroom : (st.map fun v => v.category).sum ≤ 8) (hrm : rOk rm R n2) (d : decode cc pc = .ok (.invokevirtual idx, 3)) (kk : ∀ (u2 : σ), P u2 → J (pc + 3) lv st u2) : J pc lv (v5 :: v4 :: v3 :: v2 :: v1 :: .ref b :: st) u :=
  v_callV (As := [v1, v2, v3, v4, v5]) hJ he hc lk hM rfl rfl hroom hrm d (fun v u2 h => by obtain ⟨rfl, h2⟩ := h; exact kk u2 h2)
theorem v_cS5v (hJ : Snd l R cc nL own rt D tys O wld post X J) {idx n2 : Nat} {y : MethodName} {cc2 : ByteArray} {rt2 : Option FieldType} {rm : Room} {v1 v2 v3 v4 v5 : Value} {P : σ → Prop} (lk : LkS own idx y cc2 n2 rt2 5) (hM : Ct l y cc2 n2 rt2 rm D tys O wld [v1, v2, v3, v4, v5] u (pV P)) (hroom : (st.map fun v => v.category).sum ≤ 8) (hrm : rOk rm R n2) (d : decode cc pc = .ok (.invokestatic idx, 3)) (kk : ∀ (u2 : σ), P u2 → J (pc + 3) lv st u2) : J pc lv (v5 :: v4 :: v3 :: v2 :: v1 :: st) u :=
  v_callS (As := [v1, v2, v3, v4, v5]) hJ lk hM rfl rfl hroom hrm d (fun v u2 h => by obtain ⟨rfl, h2⟩ := h; exact kk u2 h2)
theorem v_cV5r (hJ : Snd l R cc nL own rt D tys O wld post X J) {q0 ci N idx n2 : Nat} {C : String} {T : u_T} {fs : List Value} {b : Nat} {y : MethodName} {cc2 : ByteArray} {rt2 : Option FieldType} {rm : Room} {v1 v2 v3 v4 v5 : Value} {P : Nat → σ → Prop} (he : (wld u)[q0]? = some (b, .inr (ci, fs))) (hc : vwCl[ci]? = some (C, T, N)) (lk : LkV own idx C y cc2 n2 rt2 5) (hM : Ct l y cc2 n2 rt2 rm D tys O wld (.ref b :: [v1, v2, v3, v4, v5]) u (pR P)) (hroom : (st.map fun v => v.category).sum ≤ 8) (hrm : rOk rm R n2) (d : decode cc pc = .ok (.invokevirtual idx, 3)) (kk : ∀ (r : Nat) (u2 : σ), P r u2 → J (pc + 3) lv (.ref r :: st) u2) : J pc lv (v5 :: v4 :: v3 :: v2 :: v1 :: .ref b :: st) u :=
  v_callV (As := [v1, v2, v3, v4, v5]) hJ he hc lk hM rfl rfl hroom hrm d (fun v u2 h => by obtain ⟨r, rfl, h2⟩ := h; exact kk r u2 h2)
theorem v_cS5r (hJ : Snd l R cc nL own rt D tys O wld post X J) {idx n2 : Nat} {y : MethodName} {cc2 : ByteArray} {rt2 : Option FieldType} {rm : Room} {v1 v2 v3 v4 v5 : Value} {P : Nat → σ → Prop} (lk : LkS own idx y cc2 n2 rt2 5) (hM : Ct l y cc2 n2 rt2 rm D tys O wld [v1, v2, v3, v4, v5] u (pR P)) (hroom : (st.map fun v => v.category).sum ≤ 8) (hrm : rOk rm R n2) (d : decode cc pc = .ok (.invokestatic idx, 3)) (kk : ∀ (r : Nat) (u2 : σ), P r u2 → J (pc + 3) lv (.ref r :: st) u2) : J pc lv (v5 :: v4 :: v3 :: v2 :: v1 :: st) u :=
  v_callS (As := [v1, v2, v3, v4, v5]) hJ lk hM rfl rfl hroom hrm d (fun v u2 h => by obtain ⟨r, rfl, h2⟩ := h; exact kk r u2 h2)
theorem v_cS6i (hJ : Snd l R cc nL own rt D tys O wld post X J) {idx n2 : Nat} {y : MethodName} {cc2 : ByteArray} {rt2 : Option FieldType} {rm : Room} {v1 v2 v3 v4 v5 v6 : Value} {P : Int → σ → Prop} (lk : LkS own idx y cc2 n2 rt2 6) (hM : Ct l y cc2 n2 rt2 rm D tys O wld [v1, v2, v3, v4, v5, v6] u (pI P)) (hroom : (st.map fun v => v.category).sum ≤ 8) (hrm : rOk rm R n2) (d : decode cc pc = .ok (.invokestatic idx, 3)) (kk : ∀ (r : Int) (u2 : σ), P r u2 → J (pc + 3) lv (.int (iZ r) :: st) u2) : J pc lv (v6 :: v5 :: v4 :: v3 :: v2 :: v1 :: st) u :=
  v_callS (As := [v1, v2, v3, v4, v5, v6]) hJ lk hM rfl rfl hroom hrm d (fun v u2 h => by obtain ⟨r, rfl, h2⟩ := h; exact kk r u2 h2)
theorem v_cS6v (hJ : Snd l R cc nL own rt D tys O wld post X J) {idx n2 : Nat} {y : MethodName} {cc2 : ByteArray} {rt2 : Option FieldType} {rm : Room} {v1 v2 v3 v4 v5 v6 : Value} {P : σ → Prop} (lk : LkS own idx y cc2 n2 rt2 6) (hM : Ct l y cc2 n2 rt2 rm D tys O wld [v1, v2, v3, v4, v5, v6] u (pV P)) (hroom : (st.map fun v => v.category).sum ≤ 8) (hrm : rOk rm R n2) (d : decode cc pc = .ok (.invokestatic idx, 3)) (kk : ∀ (u2 : σ), P u2 → J (pc + 3) lv st u2) : J pc lv (v6 :: v5 :: v4 :: v3 :: v2 :: v1 :: st) u :=
  v_callS (As := [v1, v2, v3, v4, v5, v6]) hJ lk hM rfl rfl hroom hrm d (fun v u2 h => by obtain ⟨rfl, h2⟩ := h; exact kk u2 h2)
theorem v_cS6r (hJ : Snd l R cc nL own rt D tys O wld post X J) {idx n2 : Nat} {y : MethodName} {cc2 : ByteArray} {rt2 : Option FieldType} {rm : Room} {v1 v2 v3 v4 v5 v6 : Value} {P : Nat → σ → Prop} (lk : LkS own idx y cc2 n2 rt2 6) (hM : Ct l y cc2 n2 rt2 rm D tys O wld [v1, v2, v3, v4, v5, v6] u (pR P)) (hroom : (st.map fun v => v.category).sum ≤ 8) (hrm : rOk rm R n2) (d : decode cc pc = .ok (.invokestatic idx, 3)) (kk : ∀ (r : Nat) (u2 : σ), P r u2 → J (pc + 3) lv (.ref r :: st) u2) : J pc lv (v6 :: v5 :: v4 :: v3 :: v2 :: v1 :: st) u :=
  v_callS (As := [v1, v2, v3, v4, v5, v6]) hJ lk hM rfl rfl hroom hrm d (fun v u2 h => by obtain ⟨r, rfl, h2⟩ := h; exact kk r u2 h2)
end ROWS
end
section
theorem inX11g : ∀ w ∈ u_ws RX11 TX11 45, w ∈ gw := fun w h => by
  have h1 := List.all_eq_true.mp (show (u_ws RX11 TX11 45).all (fun w => decide (w ∈ lw_tbl) && goodWord w) = true by decide +kernel) w h
  simp only [Bool.and_eq_true, decide_eq_true_eq] at h1
  exact gw_of h1.1 h1.2
theorem lkX11_95 : LkV RX11 95 RX11 yX11_lays cX11_lays 3 none 1 :=
  ⟨fun w hw => by
    rcases (show w = _ ∨ w = _ ∨ w = _ ∨ w = _ ∨ w = _ by simpa [wsV] using hw) with rfl | rfl | rfl | rfl | rfl
    · exact gw_of (List.mem_of_getElem? (i := 1045) (by decide +kernel)) (by decide +kernel)
    · exact gw_of (List.mem_of_getElem? (i := 1047) (by decide +kernel)) (by decide +kernel)
    · exact gw_of (List.mem_of_getElem? (i := 22) (by decide +kernel)) (by decide +kernel)
    · exact gw_of (List.mem_of_getElem? (i := 56) (by decide +kernel)) (by decide +kernel)
    · exact gw_of (List.mem_of_getElem? (i := 1048) (by decide +kernel)) (by decide +kernel), rfl, by decide, by decide, by decide +kernel⟩
theorem lkX11_127 : LkS RX11 127 yX11_tone cX11_tone 1 (some .int) 1 :=
  ⟨fun w hw => by
    rcases (show w = _ ∨ w = _ ∨ w = _ ∨ w = _ by simpa [va_wsS] using hw) with rfl | rfl | rfl | rfl
    · exact gw_of (List.mem_of_getElem? (i := 1134) (by decide +kernel)) (by decide +kernel)
    · exact gw_of (List.mem_of_getElem? (i := 1135) (by decide +kernel)) (by decide +kernel)
    · exact gw_of (List.mem_of_getElem? (i := 56) (by decide +kernel)) (by decide +kernel)
    · exact gw_of (List.mem_of_getElem? (i := 1136) (by decide +kernel)) (by decide +kernel), by decide, by decide, by decide +kernel⟩
theorem lkX11_131 : LkS RX11 131 yX11_tonesOf cX11_tonesOf 1 (some .int) 1 :=
  ⟨fun w hw => by
    rcases (show w = _ ∨ w = _ ∨ w = _ ∨ w = _ by simpa [va_wsS] using hw) with rfl | rfl | rfl | rfl
    · exact gw_of (List.mem_of_getElem? (i := 1137) (by decide +kernel)) (by decide +kernel)
    · exact gw_of (List.mem_of_getElem? (i := 1138) (by decide +kernel)) (by decide +kernel)
    · exact gw_of (List.mem_of_getElem? (i := 56) (by decide +kernel)) (by decide +kernel)
    · exact gw_of (List.mem_of_getElem? (i := 1139) (by decide +kernel)) (by decide +kernel), by decide, by decide, by decide +kernel⟩
theorem lkX11_143 : LkV RX11 143 RX11 yX11_byteAt cX11_byteAt 2 (some .int) 1 :=
  ⟨fun w hw => by
    rcases (show w = _ ∨ w = _ ∨ w = _ ∨ w = _ ∨ w = _ by simpa [wsV] using hw) with rfl | rfl | rfl | rfl | rfl
    · exact gw_of (List.mem_of_getElem? (i := 1073) (by decide +kernel)) (by decide +kernel)
    · exact gw_of (List.mem_of_getElem? (i := 1075) (by decide +kernel)) (by decide +kernel)
    · exact gw_of (List.mem_of_getElem? (i := 28) (by decide +kernel)) (by decide +kernel)
    · exact gw_of (List.mem_of_getElem? (i := 56) (by decide +kernel)) (by decide +kernel)
    · exact gw_of (List.mem_of_getElem? (i := 1076) (by decide +kernel)) (by decide +kernel), rfl, by decide, by decide, by decide +kernel⟩
theorem lkX11_146 : LkV RX11 146 RX11 yX11_wrong cX11_wrong 3 (some .boolean) 2 :=
  ⟨fun w hw => by
    rcases (show w = _ ∨ w = _ ∨ w = _ ∨ w = _ ∨ w = _ by simpa [wsV] using hw) with rfl | rfl | rfl | rfl | rfl
    · exact gw_of (List.mem_of_getElem? (i := 1061) (by decide +kernel)) (by decide +kernel)
    · exact gw_of (List.mem_of_getElem? (i := 1063) (by decide +kernel)) (by decide +kernel)
    · exact gw_of (List.mem_of_getElem? (i := 25) (by decide +kernel)) (by decide +kernel)
    · exact gw_of (List.mem_of_getElem? (i := 56) (by decide +kernel)) (by decide +kernel)
    · exact gw_of (List.mem_of_getElem? (i := 1064) (by decide +kernel)) (by decide +kernel), rfl, by decide, by decide, by decide +kernel⟩
theorem lkX11_150 : LkS RX11 150 yX11_placeOf cX11_placeOf 1 (some .int) 1 :=
  ⟨fun w hw => by
    rcases (show w = _ ∨ w = _ ∨ w = _ ∨ w = _ by simpa [va_wsS] using hw) with rfl | rfl | rfl | rfl
    · exact gw_of (List.mem_of_getElem? (i := 1077) (by decide +kernel)) (by decide +kernel)
    · exact gw_of (List.mem_of_getElem? (i := 1078) (by decide +kernel)) (by decide +kernel)
    · exact gw_of (List.mem_of_getElem? (i := 56) (by decide +kernel)) (by decide +kernel)
    · exact gw_of (List.mem_of_getElem? (i := 1079) (by decide +kernel)) (by decide +kernel), by decide, by decide, by decide +kernel⟩
theorem lkX11_156 : LkV RX11 156 RJ0 yJ0_length_8abf5 cJ0_length_8abf5 1 (some .int) 0 :=
  ⟨fun w hw => by
    rcases (show w = _ ∨ w = _ ∨ w = _ ∨ w = _ ∨ w = _ by simpa [wsV] using hw) with rfl | rfl | rfl | rfl | rfl
    · exact gw_of (List.mem_of_getElem? (i := 1101) (by decide +kernel)) (by decide +kernel)
    · exact gw_of (List.mem_of_getElem? (i := 425) (by decide +kernel)) (by decide +kernel)
    · exact gw_of (List.mem_of_getElem? (i := 426) (by decide +kernel)) (by decide +kernel)
    · exact gw_of (List.mem_of_getElem? (i := 63) (by decide +kernel)) (by decide +kernel)
    · exact gw_of (List.mem_of_getElem? (i := 427) (by decide +kernel)) (by decide +kernel), rfl, by decide, by decide, by decide +kernel⟩
theorem lkX11_162 : LkV RX11 162 RJ0 yJ0_charAt_5068e cJ0_charAt_5068e 2 (some .char) 1 :=
  ⟨fun w hw => by
    rcases (show w = _ ∨ w = _ ∨ w = _ ∨ w = _ ∨ w = _ by simpa [wsV] using hw) with rfl | rfl | rfl | rfl | rfl
    · exact gw_of (List.mem_of_getElem? (i := 1102) (by decide +kernel)) (by decide +kernel)
    · exact gw_of (List.mem_of_getElem? (i := 367) (by decide +kernel)) (by decide +kernel)
    · exact gw_of (List.mem_of_getElem? (i := 368) (by decide +kernel)) (by decide +kernel)
    · exact gw_of (List.mem_of_getElem? (i := 63) (by decide +kernel)) (by decide +kernel)
    · exact gw_of (List.mem_of_getElem? (i := 369) (by decide +kernel)) (by decide +kernel), rfl, by decide, by decide, by decide +kernel⟩
theorem lkX11_166 : LkV RX11 166 RX11 yX11_noted cX11_noted 4 (some .boolean) 0 :=
  ⟨fun w hw => by
    rcases (show w = _ ∨ w = _ ∨ w = _ ∨ w = _ ∨ w = _ by simpa [wsV] using hw) with rfl | rfl | rfl | rfl | rfl
    · exact gw_of (List.mem_of_getElem? (i := 1069) (by decide +kernel)) (by decide +kernel)
    · exact gw_of (List.mem_of_getElem? (i := 1071) (by decide +kernel)) (by decide +kernel)
    · exact gw_of (List.mem_of_getElem? (i := 27) (by decide +kernel)) (by decide +kernel)
    · exact gw_of (List.mem_of_getElem? (i := 56) (by decide +kernel)) (by decide +kernel)
    · exact gw_of (List.mem_of_getElem? (i := 1072) (by decide +kernel)) (by decide +kernel), rfl, by decide, by decide, by decide +kernel⟩
theorem lkX11_173 : LkS RX11 173 yX11_kindOf cX11_kindOf 1 (some (.object "java/lang/String")) 1 :=
  ⟨fun w hw => by
    rcases (show w = _ ∨ w = _ ∨ w = _ ∨ w = _ by simpa [va_wsS] using hw) with rfl | rfl | rfl | rfl
    · exact gw_of (List.mem_of_getElem? (i := 1080) (by decide +kernel)) (by decide +kernel)
    · exact gw_of (List.mem_of_getElem? (i := 1081) (by decide +kernel)) (by decide +kernel)
    · exact gw_of (List.mem_of_getElem? (i := 56) (by decide +kernel)) (by decide +kernel)
    · exact gw_of (List.mem_of_getElem? (i := 1082) (by decide +kernel)) (by decide +kernel), by decide, by decide, by decide +kernel⟩
theorem lkX11_177 : LkV RX11 177 RX11 yX11_isHere cX11_isHere 4 (some .boolean) 1 :=
  ⟨fun w hw => by
    rcases (show w = _ ∨ w = _ ∨ w = _ ∨ w = _ ∨ w = _ by simpa [wsV] using hw) with rfl | rfl | rfl | rfl | rfl
    · exact gw_of (List.mem_of_getElem? (i := 1097) (by decide +kernel)) (by decide +kernel)
    · exact gw_of (List.mem_of_getElem? (i := 1099) (by decide +kernel)) (by decide +kernel)
    · exact gw_of (List.mem_of_getElem? (i := 29) (by decide +kernel)) (by decide +kernel)
    · exact gw_of (List.mem_of_getElem? (i := 56) (by decide +kernel)) (by decide +kernel)
    · exact gw_of (List.mem_of_getElem? (i := 1100) (by decide +kernel)) (by decide +kernel), rfl, by decide, by decide, by decide +kernel⟩
theorem lkX11_187 : LkV RX11 187 RX11 yX11_named cX11_named 3 (some .boolean) 0 :=
  ⟨fun w hw => by
    rcases (show w = _ ∨ w = _ ∨ w = _ ∨ w = _ ∨ w = _ by simpa [wsV] using hw) with rfl | rfl | rfl | rfl | rfl
    · exact gw_of (List.mem_of_getElem? (i := 1065) (by decide +kernel)) (by decide +kernel)
    · exact gw_of (List.mem_of_getElem? (i := 1067) (by decide +kernel)) (by decide +kernel)
    · exact gw_of (List.mem_of_getElem? (i := 26) (by decide +kernel)) (by decide +kernel)
    · exact gw_of (List.mem_of_getElem? (i := 56) (by decide +kernel)) (by decide +kernel)
    · exact gw_of (List.mem_of_getElem? (i := 1068) (by decide +kernel)) (by decide +kernel), rfl, by decide, by decide, by decide +kernel⟩
theorem lkX11_190 : LkV RX11 190 RX11 yX11_right cX11_right 3 (some .boolean) 2 :=
  ⟨fun w hw => by
    rcases (show w = _ ∨ w = _ ∨ w = _ ∨ w = _ ∨ w = _ by simpa [wsV] using hw) with rfl | rfl | rfl | rfl | rfl
    · exact gw_of (List.mem_of_getElem? (i := 1053) (by decide +kernel)) (by decide +kernel)
    · exact gw_of (List.mem_of_getElem? (i := 1055) (by decide +kernel)) (by decide +kernel)
    · exact gw_of (List.mem_of_getElem? (i := 23) (by decide +kernel)) (by decide +kernel)
    · exact gw_of (List.mem_of_getElem? (i := 56) (by decide +kernel)) (by decide +kernel)
    · exact gw_of (List.mem_of_getElem? (i := 1056) (by decide +kernel)) (by decide +kernel), rfl, by decide, by decide, by decide +kernel⟩
theorem lkX11_194 : LkV RX11 194 RX11 yX11_reads cX11_reads 2 (some .boolean) 0 :=
  ⟨fun w hw => by
    rcases (show w = _ ∨ w = _ ∨ w = _ ∨ w = _ ∨ w = _ by simpa [wsV] using hw) with rfl | rfl | rfl | rfl | rfl
    · exact gw_of (List.mem_of_getElem? (i := 1057) (by decide +kernel)) (by decide +kernel)
    · exact gw_of (List.mem_of_getElem? (i := 1059) (by decide +kernel)) (by decide +kernel)
    · exact gw_of (List.mem_of_getElem? (i := 24) (by decide +kernel)) (by decide +kernel)
    · exact gw_of (List.mem_of_getElem? (i := 56) (by decide +kernel)) (by decide +kernel)
    · exact gw_of (List.mem_of_getElem? (i := 1060) (by decide +kernel)) (by decide +kernel), rfl, by decide, by decide, by decide +kernel⟩
theorem lkX11_210 : LkV RX11 210 RX11 yX11_changes cX11_changes 2 none 0 :=
  ⟨fun w hw => by
    rcases (show w = _ ∨ w = _ ∨ w = _ ∨ w = _ ∨ w = _ by simpa [wsV] using hw) with rfl | rfl | rfl | rfl | rfl
    · exact gw_of (List.mem_of_getElem? (i := 1103) (by decide +kernel)) (by decide +kernel)
    · exact gw_of (List.mem_of_getElem? (i := 1105) (by decide +kernel)) (by decide +kernel)
    · exact gw_of (List.mem_of_getElem? (i := 30) (by decide +kernel)) (by decide +kernel)
    · exact gw_of (List.mem_of_getElem? (i := 56) (by decide +kernel)) (by decide +kernel)
    · exact gw_of (List.mem_of_getElem? (i := 1106) (by decide +kernel)) (by decide +kernel), rfl, by decide, by decide, by decide +kernel⟩
theorem lkX11_216 : LkS RX11 216 yX11_within cX11_within 2 (some .int) 1 :=
  ⟨fun w hw => by
    rcases (show w = _ ∨ w = _ ∨ w = _ ∨ w = _ by simpa [va_wsS] using hw) with rfl | rfl | rfl | rfl
    · exact gw_of (List.mem_of_getElem? (i := 1119) (by decide +kernel)) (by decide +kernel)
    · exact gw_of (List.mem_of_getElem? (i := 1120) (by decide +kernel)) (by decide +kernel)
    · exact gw_of (List.mem_of_getElem? (i := 56) (by decide +kernel)) (by decide +kernel)
    · exact gw_of (List.mem_of_getElem? (i := 1121) (by decide +kernel)) (by decide +kernel), by decide, by decide, by decide +kernel⟩
theorem lkX11_219 : LkV RX11 219 RX11 yX11_isChord cX11_isChord 2 (some .boolean) 1 :=
  ⟨fun w hw => by
    rcases (show w = _ ∨ w = _ ∨ w = _ ∨ w = _ ∨ w = _ by simpa [wsV] using hw) with rfl | rfl | rfl | rfl | rfl
    · exact gw_of (List.mem_of_getElem? (i := 1126) (by decide +kernel)) (by decide +kernel)
    · exact gw_of (List.mem_of_getElem? (i := 1128) (by decide +kernel)) (by decide +kernel)
    · exact gw_of (List.mem_of_getElem? (i := 31) (by decide +kernel)) (by decide +kernel)
    · exact gw_of (List.mem_of_getElem? (i := 56) (by decide +kernel)) (by decide +kernel)
    · exact gw_of (List.mem_of_getElem? (i := 1129) (by decide +kernel)) (by decide +kernel), rfl, by decide, by decide, by decide +kernel⟩
theorem lkX11_223 : LkV RX11 223 RX11 yX11_tones cX11_tones 4 (some .int) 1 :=
  ⟨fun w hw => by
    rcases (show w = _ ∨ w = _ ∨ w = _ ∨ w = _ ∨ w = _ by simpa [wsV] using hw) with rfl | rfl | rfl | rfl | rfl
    · exact gw_of (List.mem_of_getElem? (i := 1130) (by decide +kernel)) (by decide +kernel)
    · exact gw_of (List.mem_of_getElem? (i := 1132) (by decide +kernel)) (by decide +kernel)
    · exact gw_of (List.mem_of_getElem? (i := 32) (by decide +kernel)) (by decide +kernel)
    · exact gw_of (List.mem_of_getElem? (i := 56) (by decide +kernel)) (by decide +kernel)
    · exact gw_of (List.mem_of_getElem? (i := 1133) (by decide +kernel)) (by decide +kernel), rfl, by decide, by decide, by decide +kernel⟩
theorem lkX11_231 : LkV RX11 231 RX11 yX11_add cX11_add 2 none 1 :=
  ⟨fun w hw => by
    rcases (show w = _ ∨ w = _ ∨ w = _ ∨ w = _ ∨ w = _ by simpa [wsV] using hw) with rfl | rfl | rfl | rfl | rfl
    · exact gw_of (List.mem_of_getElem? (i := 1153) (by decide +kernel)) (by decide +kernel)
    · exact gw_of (List.mem_of_getElem? (i := 1155) (by decide +kernel)) (by decide +kernel)
    · exact gw_of (List.mem_of_getElem? (i := 35) (by decide +kernel)) (by decide +kernel)
    · exact gw_of (List.mem_of_getElem? (i := 56) (by decide +kernel)) (by decide +kernel)
    · exact gw_of (List.mem_of_getElem? (i := 1156) (by decide +kernel)) (by decide +kernel), rfl, by decide, by decide, by decide +kernel⟩
theorem lkX11_234 : LkV RX11 234 RX11 yX11_addNote cX11_addNote 4 none 1 :=
  ⟨fun w hw => by
    rcases (show w = _ ∨ w = _ ∨ w = _ ∨ w = _ ∨ w = _ by simpa [wsV] using hw) with rfl | rfl | rfl | rfl | rfl
    · exact gw_of (List.mem_of_getElem? (i := 1148) (by decide +kernel)) (by decide +kernel)
    · exact gw_of (List.mem_of_getElem? (i := 1150) (by decide +kernel)) (by decide +kernel)
    · exact gw_of (List.mem_of_getElem? (i := 34) (by decide +kernel)) (by decide +kernel)
    · exact gw_of (List.mem_of_getElem? (i := 56) (by decide +kernel)) (by decide +kernel)
    · exact gw_of (List.mem_of_getElem? (i := 1151) (by decide +kernel)) (by decide +kernel), rfl, by decide, by decide, by decide +kernel⟩
theorem lkX11_240 : LkV RX11 240 RX11 yX11_names cX11_names 4 none 1 :=
  ⟨fun w hw => by
    rcases (show w = _ ∨ w = _ ∨ w = _ ∨ w = _ ∨ w = _ by simpa [wsV] using hw) with rfl | rfl | rfl | rfl | rfl
    · exact gw_of (List.mem_of_getElem? (i := 1144) (by decide +kernel)) (by decide +kernel)
    · exact gw_of (List.mem_of_getElem? (i := 1146) (by decide +kernel)) (by decide +kernel)
    · exact gw_of (List.mem_of_getElem? (i := 33) (by decide +kernel)) (by decide +kernel)
    · exact gw_of (List.mem_of_getElem? (i := 56) (by decide +kernel)) (by decide +kernel)
    · exact gw_of (List.mem_of_getElem? (i := 1147) (by decide +kernel)) (by decide +kernel), rfl, by decide, by decide, by decide +kernel⟩
theorem lkX11_243 : LkV RX11 243 RX11 yX11_says cX11_says 2 none 1 :=
  ⟨fun w hw => by
    rcases (show w = _ ∨ w = _ ∨ w = _ ∨ w = _ ∨ w = _ by simpa [wsV] using hw) with rfl | rfl | rfl | rfl | rfl
    · exact gw_of (List.mem_of_getElem? (i := 1157) (by decide +kernel)) (by decide +kernel)
    · exact gw_of (List.mem_of_getElem? (i := 1159) (by decide +kernel)) (by decide +kernel)
    · exact gw_of (List.mem_of_getElem? (i := 36) (by decide +kernel)) (by decide +kernel)
    · exact gw_of (List.mem_of_getElem? (i := 56) (by decide +kernel)) (by decide +kernel)
    · exact gw_of (List.mem_of_getElem? (i := 1160) (by decide +kernel)) (by decide +kernel), rfl, by decide, by decide, by decide +kernel⟩
theorem lkX11_252 : LkS RX11 252 yX11_isLetter cX11_isLetter 1 (some .boolean) 1 :=
  ⟨fun w hw => by
    rcases (show w = _ ∨ w = _ ∨ w = _ ∨ w = _ by simpa [va_wsS] using hw) with rfl | rfl | rfl | rfl
    · exact gw_of (List.mem_of_getElem? (i := 1169) (by decide +kernel)) (by decide +kernel)
    · exact gw_of (List.mem_of_getElem? (i := 1170) (by decide +kernel)) (by decide +kernel)
    · exact gw_of (List.mem_of_getElem? (i := 56) (by decide +kernel)) (by decide +kernel)
    · exact gw_of (List.mem_of_getElem? (i := 1171) (by decide +kernel)) (by decide +kernel), by decide, by decide, by decide +kernel⟩
theorem lkX11_255 : LkV RX11 255 RX11 yX11_nextWord cX11_nextWord 3 (some .int) 1 :=
  ⟨fun w hw => by
    rcases (show w = _ ∨ w = _ ∨ w = _ ∨ w = _ ∨ w = _ by simpa [wsV] using hw) with rfl | rfl | rfl | rfl | rfl
    · exact gw_of (List.mem_of_getElem? (i := 1172) (by decide +kernel)) (by decide +kernel)
    · exact gw_of (List.mem_of_getElem? (i := 1174) (by decide +kernel)) (by decide +kernel)
    · exact gw_of (List.mem_of_getElem? (i := 38) (by decide +kernel)) (by decide +kernel)
    · exact gw_of (List.mem_of_getElem? (i := 56) (by decide +kernel)) (by decide +kernel)
    · exact gw_of (List.mem_of_getElem? (i := 1175) (by decide +kernel)) (by decide +kernel), rfl, by decide, by decide, by decide +kernel⟩
theorem lkX11_258 : LkV RX11 258 RX11 yX11_writes cX11_writes 6 (some .int) 1 :=
  ⟨fun w hw => by
    rcases (show w = _ ∨ w = _ ∨ w = _ ∨ w = _ ∨ w = _ by simpa [wsV] using hw) with rfl | rfl | rfl | rfl | rfl
    · exact gw_of (List.mem_of_getElem? (i := 1165) (by decide +kernel)) (by decide +kernel)
    · exact gw_of (List.mem_of_getElem? (i := 1167) (by decide +kernel)) (by decide +kernel)
    · exact gw_of (List.mem_of_getElem? (i := 37) (by decide +kernel)) (by decide +kernel)
    · exact gw_of (List.mem_of_getElem? (i := 56) (by decide +kernel)) (by decide +kernel)
    · exact gw_of (List.mem_of_getElem? (i := 1168) (by decide +kernel)) (by decide +kernel), rfl, by decide, by decide, by decide +kernel⟩
theorem lkX11_261 : LkV RX11 261 RX11 yX11_kept cX11_kept 1 (some .int) 0 :=
  ⟨fun w hw => by
    rcases (show w = _ ∨ w = _ ∨ w = _ ∨ w = _ ∨ w = _ by simpa [wsV] using hw) with rfl | rfl | rfl | rfl | rfl
    · exact gw_of (List.mem_of_getElem? (i := 1180) (by decide +kernel)) (by decide +kernel)
    · exact gw_of (List.mem_of_getElem? (i := 1182) (by decide +kernel)) (by decide +kernel)
    · exact gw_of (List.mem_of_getElem? (i := 39) (by decide +kernel)) (by decide +kernel)
    · exact gw_of (List.mem_of_getElem? (i := 56) (by decide +kernel)) (by decide +kernel)
    · exact gw_of (List.mem_of_getElem? (i := 1183) (by decide +kernel)) (by decide +kernel), rfl, by decide, by decide, by decide +kernel⟩
theorem lkX11_267 : LkV RX11 267 RX11 yX11_strain cX11_strain 12 (some .int) 3 :=
  ⟨fun w hw => by
    rcases (show w = _ ∨ w = _ ∨ w = _ ∨ w = _ ∨ w = _ by simpa [wsV] using hw) with rfl | rfl | rfl | rfl | rfl
    · exact gw_of (List.mem_of_getElem? (i := 1203) (by decide +kernel)) (by decide +kernel)
    · exact gw_of (List.mem_of_getElem? (i := 1205) (by decide +kernel)) (by decide +kernel)
    · exact gw_of (List.mem_of_getElem? (i := 41) (by decide +kernel)) (by decide +kernel)
    · exact gw_of (List.mem_of_getElem? (i := 56) (by decide +kernel)) (by decide +kernel)
    · exact gw_of (List.mem_of_getElem? (i := 1206) (by decide +kernel)) (by decide +kernel), rfl, by decide, by decide, by decide +kernel⟩
theorem lkX11_272 : LkV RX11 272 RX11 yX11_comes cX11_comes 6 none 2 :=
  ⟨fun w hw => by
    rcases (show w = _ ∨ w = _ ∨ w = _ ∨ w = _ ∨ w = _ by simpa [wsV] using hw) with rfl | rfl | rfl | rfl | rfl
    · exact gw_of (List.mem_of_getElem? (i := 1211) (by decide +kernel)) (by decide +kernel)
    · exact gw_of (List.mem_of_getElem? (i := 1213) (by decide +kernel)) (by decide +kernel)
    · exact gw_of (List.mem_of_getElem? (i := 42) (by decide +kernel)) (by decide +kernel)
    · exact gw_of (List.mem_of_getElem? (i := 56) (by decide +kernel)) (by decide +kernel)
    · exact gw_of (List.mem_of_getElem? (i := 1214) (by decide +kernel)) (by decide +kernel), rfl, by decide, by decide, by decide +kernel⟩
theorem lkX11_276 : LkS RX11 276 yX11_many cX11_many 3 (some .int) 1 :=
  ⟨fun w hw => by
    rcases (show w = _ ∨ w = _ ∨ w = _ ∨ w = _ by simpa [va_wsS] using hw) with rfl | rfl | rfl | rfl
    · exact gw_of (List.mem_of_getElem? (i := 1208) (by decide +kernel)) (by decide +kernel)
    · exact gw_of (List.mem_of_getElem? (i := 1209) (by decide +kernel)) (by decide +kernel)
    · exact gw_of (List.mem_of_getElem? (i := 56) (by decide +kernel)) (by decide +kernel)
    · exact gw_of (List.mem_of_getElem? (i := 1210) (by decide +kernel)) (by decide +kernel), by decide, by decide, by decide +kernel⟩
theorem lkX11_279 : LkS RX11 279 yX11_isBar cX11_isBar 1 (some .boolean) 1 :=
  ⟨fun w hw => by
    rcases (show w = _ ∨ w = _ ∨ w = _ ∨ w = _ by simpa [va_wsS] using hw) with rfl | rfl | rfl | rfl
    · exact gw_of (List.mem_of_getElem? (i := 1196) (by decide +kernel)) (by decide +kernel)
    · exact gw_of (List.mem_of_getElem? (i := 1197) (by decide +kernel)) (by decide +kernel)
    · exact gw_of (List.mem_of_getElem? (i := 56) (by decide +kernel)) (by decide +kernel)
    · exact gw_of (List.mem_of_getElem? (i := 1198) (by decide +kernel)) (by decide +kernel), by decide, by decide, by decide +kernel⟩
theorem lkX11_282 : LkV RX11 282 RX11 yX11_find cX11_find 8 (some .int) 2 :=
  ⟨fun w hw => by
    rcases (show w = _ ∨ w = _ ∨ w = _ ∨ w = _ ∨ w = _ by simpa [wsV] using hw) with rfl | rfl | rfl | rfl | rfl
    · exact gw_of (List.mem_of_getElem? (i := 1199) (by decide +kernel)) (by decide +kernel)
    · exact gw_of (List.mem_of_getElem? (i := 1201) (by decide +kernel)) (by decide +kernel)
    · exact gw_of (List.mem_of_getElem? (i := 40) (by decide +kernel)) (by decide +kernel)
    · exact gw_of (List.mem_of_getElem? (i := 56) (by decide +kernel)) (by decide +kernel)
    · exact gw_of (List.mem_of_getElem? (i := 1202) (by decide +kernel)) (by decide +kernel), rfl, by decide, by decide, by decide +kernel⟩
theorem lkX11_286 : LkV RX11 286 RX11 yX11_change cX11_change 10 (some .int) 5 :=
  ⟨fun w hw => by
    rcases (show w = _ ∨ w = _ ∨ w = _ ∨ w = _ ∨ w = _ by simpa [wsV] using hw) with rfl | rfl | rfl | rfl | rfl
    · exact gw_of (List.mem_of_getElem? (i := 1227) (by decide +kernel)) (by decide +kernel)
    · exact gw_of (List.mem_of_getElem? (i := 1229) (by decide +kernel)) (by decide +kernel)
    · exact gw_of (List.mem_of_getElem? (i := 44) (by decide +kernel)) (by decide +kernel)
    · exact gw_of (List.mem_of_getElem? (i := 56) (by decide +kernel)) (by decide +kernel)
    · exact gw_of (List.mem_of_getElem? (i := 1230) (by decide +kernel)) (by decide +kernel), rfl, by decide, by decide, by decide +kernel⟩
theorem lkX11_290 : LkV RX11 290 RX11 yX11_sum cX11_sum 8 (some .int) 1 :=
  ⟨fun w hw => by
    rcases (show w = _ ∨ w = _ ∨ w = _ ∨ w = _ ∨ w = _ by simpa [wsV] using hw) with rfl | rfl | rfl | rfl | rfl
    · exact gw_of (List.mem_of_getElem? (i := 1223) (by decide +kernel)) (by decide +kernel)
    · exact gw_of (List.mem_of_getElem? (i := 1225) (by decide +kernel)) (by decide +kernel)
    · exact gw_of (List.mem_of_getElem? (i := 43) (by decide +kernel)) (by decide +kernel)
    · exact gw_of (List.mem_of_getElem? (i := 56) (by decide +kernel)) (by decide +kernel)
    · exact gw_of (List.mem_of_getElem? (i := 1226) (by decide +kernel)) (by decide +kernel), rfl, by decide, by decide, by decide +kernel⟩
theorem lkX11_293 : LkV RX11 293 RX11 yX11_plays cX11_plays 6 none 2 :=
  ⟨fun w hw => by
    rcases (show w = _ ∨ w = _ ∨ w = _ ∨ w = _ ∨ w = _ by simpa [wsV] using hw) with rfl | rfl | rfl | rfl | rfl
    · exact gw_of (List.mem_of_getElem? (i := 1231) (by decide +kernel)) (by decide +kernel)
    · exact gw_of (List.mem_of_getElem? (i := 1233) (by decide +kernel)) (by decide +kernel)
    · exact gw_of (List.mem_of_getElem? (i := 45) (by decide +kernel)) (by decide +kernel)
    · exact gw_of (List.mem_of_getElem? (i := 56) (by decide +kernel)) (by decide +kernel)
    · exact gw_of (List.mem_of_getElem? (i := 1234) (by decide +kernel)) (by decide +kernel), rfl, by decide, by decide, by decide +kernel⟩
abbrev sM : Type := (Nat → Int) × (Nat → Int → Int)
/-- the reference's cells: the object at ad 0, its rows at ad k, k the field's number -/
def wM (ad : Nat → Nat) (cI : ClassId) (u : sM) : va_W := [(ad 0, .inr (8, [.int (iZ (u.1 0)), .ref (ad 1), .int (iZ (u.1 2)), .int (iZ (u.1 3)), .int (iZ (u.1 4)), .int (iZ (u.1 5)), .int (iZ (u.1 6)), .int (iZ (u.1 7)), .int (iZ (u.1 8)), .int (iZ (u.1 9)), .int (iZ (u.1 10)), .ref (ad 11), .ref (ad 12), .ref (ad 13), .ref (ad 14), .ref (ad 15), .ref (ad 16), .ref (ad 17), .ref (ad 18), .ref (ad 19), .ref (ad 20), .int (iZ (u.1 21)), .int (iZ (u.1 22)), .ref (ad 23), .ref (ad 24), .ref (ad 25), .int (iZ (u.1 26)), .int (iZ (u.1 27)), .int (iZ (u.1 28)), .int (iZ (u.1 29)), .int (iZ (u.1 30)), .int (iZ (u.1 31)), .ref (ad 32), .int (iZ (u.1 33)), .ref (ad 34), .ref (ad 35), .int (iZ (u.1 36)), .int (iZ (u.1 37)), .ref (ad 38), .ref (ad 39), .ref (ad 40), .ref (ad 41), .ref (ad 42), .ref (ad 43), .ref (ad 44)])), (ad 1, .inl (cI, 1200, .inl (zrow (u.2 1)))), (ad 11, .inl (cI, 61, .inl (zrow (u.2 11)))), (ad 12, .inl (cI, 61, .inl (zrow (u.2 12)))), (ad 13, .inl (cI, 61, .inl (zrow (u.2 13)))), (ad 14, .inl (cI, 61, .inl (zrow (u.2 14)))), (ad 15, .inl (cI, 61, .inl (zrow (u.2 15)))), (ad 16, .inl (cI, 61, .inl (zrow (u.2 16)))), (ad 17, .inl (cI, 61, .inl (zrow (u.2 17)))), (ad 18, .inl (cI, 61, .inl (zrow (u.2 18)))), (ad 19, .inl (cI, 1200, .inl (zrow (u.2 19)))), (ad 20, .inl (cI, 1200, .inl (zrow (u.2 20)))), (ad 23, .inl (cI, 6, .inl (zrow (u.2 23)))), (ad 24, .inl (cI, 60, .inl (zrow (u.2 24)))), (ad 25, .inl (cI, 4000, .inl (zrow (u.2 25)))), (ad 32, .inl (cI, 16, .inl (zrow (u.2 32)))), (ad 34, .inl (cI, 4000, .inl (zrow (u.2 34)))), (ad 35, .inl (cI, 4000, .inl (zrow (u.2 35)))), (ad 38, .inl (cI, 480, .inl (zrow (u.2 38)))), (ad 39, .inl (cI, 17280, .inl (zrow (u.2 39)))), (ad 40, .inl (cI, 2880, .inl (zrow (u.2 40)))), (ad 41, .inl (cI, 6, .inl (zrow (u.2 41)))), (ad 42, .inl (cI, 7, .inl (zrow (u.2 42)))), (ad 43, .inl (cI, 7, .inl (zrow (u.2 43)))), (ad 44, .inl (cI, 360, .inl (zrow (u.2 44))))]
section MROWS
variable {l : Launch} {R : Room} {cc : ByteArray} {nL : Nat} {rt : Option FieldType} {D : va_G} {cI : ClassId} {ad : Nat → Nat} {O : OT} {post : Option Value → sM → Prop} {X : CtxT} {J : KT sM}
variable {pc : Nat} {lv : List (Option Value)} {st : List Value} {I : Nat → Int} {A : Nat → Int → Int}
theorem kX11_89 : Cond.fieldLink RX11 89 "ChordMoverModel" "thrown" "I" ∈ gw := gw_of (List.mem_of_getElem? (i := 901) (by decide +kernel)) (by decide +kernel)
theorem mg0 (hJ : Snd l R cc nL RX11 rt D [(cI, .int)] O (wM ad cI) post X J) (d : decode cc pc = .ok (.getfield 89, 3)) (k : J (pc + 3) lv (.int (iZ (I 0)) :: st) (I, A)) : J pc lv (.ref (ad 0) :: st) (I, A) := v_getf (q0 := 0) (ci := 8) (fk := 0) (v := .int (iZ (I 0))) hJ rfl rfl inX11g (by decide) kX11_89 rfl d k
theorem mp0 (hJ : Snd l R cc nL RX11 rt D [(cI, .int)] O (wM ad cI) post X J) {x : Int} (d : decode cc pc = .ok (.putfield 89, 3)) (k : J (pc + 3) lv st (va_up I 0 x, A)) : J pc lv (.int (iZ x) :: .ref (ad 0) :: st) (I, A) := v_putf (q0 := 0) (ci := 8) (fk := 0) hJ rfl rfl inX11g tyX11_ok nmX11 (by decide) kX11_89 rfl rfl rfl (Nat.le_of_ble_eq_true rfl) rfl d k
theorem kX11_7 : Cond.fieldLink RX11 7 "ChordMoverModel" "tape" "[I" ∈ gw := gw_of (List.mem_of_getElem? (i := 902) (by decide +kernel)) (by decide +kernel)
theorem mg1 (hJ : Snd l R cc nL RX11 rt D [(cI, .int)] O (wM ad cI) post X J) (d : decode cc pc = .ok (.getfield 7, 3)) (k : J (pc + 3) lv (.ref (ad 1) :: st) (I, A)) : J pc lv (.ref (ad 0) :: st) (I, A) := v_getf (q0 := 0) (ci := 8) (fk := 1) (v := .ref (ad 1)) hJ rfl rfl inX11g (by decide) kX11_7 rfl d k
theorem kX11_92 : Cond.fieldLink RX11 92 "ChordMoverModel" "taped" "I" ∈ gw := gw_of (List.mem_of_getElem? (i := 903) (by decide +kernel)) (by decide +kernel)
theorem mg2 (hJ : Snd l R cc nL RX11 rt D [(cI, .int)] O (wM ad cI) post X J) (d : decode cc pc = .ok (.getfield 92, 3)) (k : J (pc + 3) lv (.int (iZ (I 2)) :: st) (I, A)) : J pc lv (.ref (ad 0) :: st) (I, A) := v_getf (q0 := 0) (ci := 8) (fk := 2) (v := .int (iZ (I 2))) hJ rfl rfl inX11g (by decide) kX11_92 rfl d k
theorem mp2 (hJ : Snd l R cc nL RX11 rt D [(cI, .int)] O (wM ad cI) post X J) {x : Int} (d : decode cc pc = .ok (.putfield 92, 3)) (k : J (pc + 3) lv st (va_up I 2 x, A)) : J pc lv (.int (iZ x) :: .ref (ad 0) :: st) (I, A) := v_putf (q0 := 0) (ci := 8) (fk := 2) hJ rfl rfl inX11g tyX11_ok nmX11 (by decide) kX11_92 rfl rfl rfl (Nat.le_of_ble_eq_true rfl) rfl d k
theorem kX11_137 : Cond.fieldLink RX11 137 "ChordMoverModel" "faultKind" "I" ∈ gw := gw_of (List.mem_of_getElem? (i := 904) (by decide +kernel)) (by decide +kernel)
theorem mg3 (hJ : Snd l R cc nL RX11 rt D [(cI, .int)] O (wM ad cI) post X J) (d : decode cc pc = .ok (.getfield 137, 3)) (k : J (pc + 3) lv (.int (iZ (I 3)) :: st) (I, A)) : J pc lv (.ref (ad 0) :: st) (I, A) := v_getf (q0 := 0) (ci := 8) (fk := 3) (v := .int (iZ (I 3))) hJ rfl rfl inX11g (by decide) kX11_137 rfl d k
theorem mp3 (hJ : Snd l R cc nL RX11 rt D [(cI, .int)] O (wM ad cI) post X J) {x : Int} (d : decode cc pc = .ok (.putfield 137, 3)) (k : J (pc + 3) lv st (va_up I 3 x, A)) : J pc lv (.int (iZ x) :: .ref (ad 0) :: st) (I, A) := v_putf (q0 := 0) (ci := 8) (fk := 3) hJ rfl rfl inX11g tyX11_ok nmX11 (by decide) kX11_137 rfl rfl rfl (Nat.le_of_ble_eq_true rfl) rfl d k
theorem kX11_13 : Cond.fieldLink RX11 13 "ChordMoverModel" "faultPlace" "I" ∈ gw := gw_of (List.mem_of_getElem? (i := 905) (by decide +kernel)) (by decide +kernel)
theorem mg4 (hJ : Snd l R cc nL RX11 rt D [(cI, .int)] O (wM ad cI) post X J) (d : decode cc pc = .ok (.getfield 13, 3)) (k : J (pc + 3) lv (.int (iZ (I 4)) :: st) (I, A)) : J pc lv (.ref (ad 0) :: st) (I, A) := v_getf (q0 := 0) (ci := 8) (fk := 4) (v := .int (iZ (I 4))) hJ rfl rfl inX11g (by decide) kX11_13 rfl d k
theorem mp4 (hJ : Snd l R cc nL RX11 rt D [(cI, .int)] O (wM ad cI) post X J) {x : Int} (d : decode cc pc = .ok (.putfield 13, 3)) (k : J (pc + 3) lv st (va_up I 4 x, A)) : J pc lv (.int (iZ x) :: .ref (ad 0) :: st) (I, A) := v_putf (q0 := 0) (ci := 8) (fk := 4) hJ rfl rfl inX11g tyX11_ok nmX11 (by decide) kX11_13 rfl rfl rfl (Nat.le_of_ble_eq_true rfl) rfl d k
theorem kX11_206 : Cond.fieldLink RX11 206 "ChordMoverModel" "isSong" "Z" ∈ gw := gw_of (List.mem_of_getElem? (i := 906) (by decide +kernel)) (by decide +kernel)
theorem mg5 (hJ : Snd l R cc nL RX11 rt D [(cI, .int)] O (wM ad cI) post X J) (d : decode cc pc = .ok (.getfield 206, 3)) (k : J (pc + 3) lv (.int (iZ (I 5)) :: st) (I, A)) : J pc lv (.ref (ad 0) :: st) (I, A) := v_getf (q0 := 0) (ci := 8) (fk := 5) (v := .int (iZ (I 5))) hJ rfl rfl inX11g (by decide) kX11_206 rfl d k
theorem mp5 (hJ : Snd l R cc nL RX11 rt D [(cI, .int)] O (wM ad cI) post X J) (d : decode cc pc = .ok (.putfield 206, 3)) (k : J (pc + 3) lv st (va_up I 5 1, A)) : J pc lv (.int (iZ 1) :: .ref (ad 0) :: st) (I, A) := v_putf (q0 := 0) (ci := 8) (fk := 5) hJ rfl rfl inX11g tyX11_ok nmX11 (by decide) kX11_206 rfl rfl rfl (Nat.le_of_ble_eq_true rfl) rfl d k
theorem kX11_197 : Cond.fieldLink RX11 197 "ChordMoverModel" "chords" "I" ∈ gw := gw_of (List.mem_of_getElem? (i := 907) (by decide +kernel)) (by decide +kernel)
theorem mg6 (hJ : Snd l R cc nL RX11 rt D [(cI, .int)] O (wM ad cI) post X J) (d : decode cc pc = .ok (.getfield 197, 3)) (k : J (pc + 3) lv (.int (iZ (I 6)) :: st) (I, A)) : J pc lv (.ref (ad 0) :: st) (I, A) := v_getf (q0 := 0) (ci := 8) (fk := 6) (v := .int (iZ (I 6))) hJ rfl rfl inX11g (by decide) kX11_197 rfl d k
theorem mp6 (hJ : Snd l R cc nL RX11 rt D [(cI, .int)] O (wM ad cI) post X J) {x : Int} (d : decode cc pc = .ok (.putfield 197, 3)) (k : J (pc + 3) lv st (va_up I 6 x, A)) : J pc lv (.int (iZ x) :: .ref (ad 0) :: st) (I, A) := v_putf (q0 := 0) (ci := 8) (fk := 6) hJ rfl rfl inX11g tyX11_ok nmX11 (by decide) kX11_197 rfl rfl rfl (Nat.le_of_ble_eq_true rfl) rfl d k
theorem kX11_200 : Cond.fieldLink RX11 200 "ChordMoverModel" "lines" "I" ∈ gw := gw_of (List.mem_of_getElem? (i := 908) (by decide +kernel)) (by decide +kernel)
theorem mg7 (hJ : Snd l R cc nL RX11 rt D [(cI, .int)] O (wM ad cI) post X J) (d : decode cc pc = .ok (.getfield 200, 3)) (k : J (pc + 3) lv (.int (iZ (I 7)) :: st) (I, A)) : J pc lv (.ref (ad 0) :: st) (I, A) := v_getf (q0 := 0) (ci := 8) (fk := 7) (v := .int (iZ (I 7))) hJ rfl rfl inX11g (by decide) kX11_200 rfl d k
theorem mp7 (hJ : Snd l R cc nL RX11 rt D [(cI, .int)] O (wM ad cI) post X J) {x : Int} (d : decode cc pc = .ok (.putfield 200, 3)) (k : J (pc + 3) lv st (va_up I 7 x, A)) : J pc lv (.int (iZ x) :: .ref (ad 0) :: st) (I, A) := v_putf (q0 := 0) (ci := 8) (fk := 7) hJ rfl rfl inX11g tyX11_ok nmX11 (by decide) kX11_200 rfl rfl rfl (Nat.le_of_ble_eq_true rfl) rfl d k
theorem kX11_213 : Cond.fieldLink RX11 213 "ChordMoverModel" "key" "I" ∈ gw := gw_of (List.mem_of_getElem? (i := 909) (by decide +kernel)) (by decide +kernel)
theorem mg8 (hJ : Snd l R cc nL RX11 rt D [(cI, .int)] O (wM ad cI) post X J) (d : decode cc pc = .ok (.getfield 213, 3)) (k : J (pc + 3) lv (.int (iZ (I 8)) :: st) (I, A)) : J pc lv (.ref (ad 0) :: st) (I, A) := v_getf (q0 := 0) (ci := 8) (fk := 8) (v := .int (iZ (I 8))) hJ rfl rfl inX11g (by decide) kX11_213 rfl d k
theorem mp8 (hJ : Snd l R cc nL RX11 rt D [(cI, .int)] O (wM ad cI) post X J) {x : Int} (d : decode cc pc = .ok (.putfield 213, 3)) (k : J (pc + 3) lv st (va_up I 8 x, A)) : J pc lv (.int (iZ x) :: .ref (ad 0) :: st) (I, A) := v_putf (q0 := 0) (ci := 8) (fk := 8) hJ rfl rfl inX11g tyX11_ok nmX11 (by decide) kX11_213 rfl rfl rfl (Nat.le_of_ble_eq_true rfl) rfl d k
theorem kX11_264 : Cond.fieldLink RX11 264 "ChordMoverModel" "strings" "I" ∈ gw := gw_of (List.mem_of_getElem? (i := 910) (by decide +kernel)) (by decide +kernel)
theorem mg9 (hJ : Snd l R cc nL RX11 rt D [(cI, .int)] O (wM ad cI) post X J) (d : decode cc pc = .ok (.getfield 264, 3)) (k : J (pc + 3) lv (.int (iZ (I 9)) :: st) (I, A)) : J pc lv (.ref (ad 0) :: st) (I, A) := v_getf (q0 := 0) (ci := 8) (fk := 9) (v := .int (iZ (I 9))) hJ rfl rfl inX11g (by decide) kX11_264 rfl d k
theorem mp9 (hJ : Snd l R cc nL RX11 rt D [(cI, .int)] O (wM ad cI) post X J) {x : Int} (d : decode cc pc = .ok (.putfield 264, 3)) (k : J (pc + 3) lv st (va_up I 9 x, A)) : J pc lv (.int (iZ x) :: .ref (ad 0) :: st) (I, A) := v_putf (q0 := 0) (ci := 8) (fk := 9) hJ rfl rfl inX11g tyX11_ok nmX11 (by decide) kX11_264 rfl rfl rfl (Nat.le_of_ble_eq_true rfl) rfl d k
theorem kX11_17 : Cond.fieldLink RX11 17 "ChordMoverModel" "playedBar" "I" ∈ gw := gw_of (List.mem_of_getElem? (i := 911) (by decide +kernel)) (by decide +kernel)
theorem mg10 (hJ : Snd l R cc nL RX11 rt D [(cI, .int)] O (wM ad cI) post X J) (d : decode cc pc = .ok (.getfield 17, 3)) (k : J (pc + 3) lv (.int (iZ (I 10)) :: st) (I, A)) : J pc lv (.ref (ad 0) :: st) (I, A) := v_getf (q0 := 0) (ci := 8) (fk := 10) (v := .int (iZ (I 10))) hJ rfl rfl inX11g (by decide) kX11_17 rfl d k
theorem mp10 (hJ : Snd l R cc nL RX11 rt D [(cI, .int)] O (wM ad cI) post X J) {x : Int} (d : decode cc pc = .ok (.putfield 17, 3)) (k : J (pc + 3) lv st (va_up I 10 x, A)) : J pc lv (.int (iZ x) :: .ref (ad 0) :: st) (I, A) := v_putf (q0 := 0) (ci := 8) (fk := 10) hJ rfl rfl inX11g tyX11_ok nmX11 (by decide) kX11_17 rfl rfl rfl (Nat.le_of_ble_eq_true rfl) rfl d k
theorem kX11_20 : Cond.fieldLink RX11 20 "ChordMoverModel" "root" "[I" ∈ gw := gw_of (List.mem_of_getElem? (i := 912) (by decide +kernel)) (by decide +kernel)
theorem mg11 (hJ : Snd l R cc nL RX11 rt D [(cI, .int)] O (wM ad cI) post X J) (d : decode cc pc = .ok (.getfield 20, 3)) (k : J (pc + 3) lv (.ref (ad 11) :: st) (I, A)) : J pc lv (.ref (ad 0) :: st) (I, A) := v_getf (q0 := 0) (ci := 8) (fk := 11) (v := .ref (ad 11)) hJ rfl rfl inX11g (by decide) kX11_20 rfl d k
theorem kX11_23 : Cond.fieldLink RX11 23 "ChordMoverModel" "kind" "[I" ∈ gw := gw_of (List.mem_of_getElem? (i := 913) (by decide +kernel)) (by decide +kernel)
theorem mg12 (hJ : Snd l R cc nL RX11 rt D [(cI, .int)] O (wM ad cI) post X J) (d : decode cc pc = .ok (.getfield 23, 3)) (k : J (pc + 3) lv (.ref (ad 12) :: st) (I, A)) : J pc lv (.ref (ad 0) :: st) (I, A) := v_getf (q0 := 0) (ci := 8) (fk := 12) (v := .ref (ad 12)) hJ rfl rfl inX11g (by decide) kX11_23 rfl d k
theorem kX11_26 : Cond.fieldLink RX11 26 "ChordMoverModel" "bass" "[I" ∈ gw := gw_of (List.mem_of_getElem? (i := 914) (by decide +kernel)) (by decide +kernel)
theorem mg13 (hJ : Snd l R cc nL RX11 rt D [(cI, .int)] O (wM ad cI) post X J) (d : decode cc pc = .ok (.getfield 26, 3)) (k : J (pc + 3) lv (.ref (ad 13) :: st) (I, A)) : J pc lv (.ref (ad 0) :: st) (I, A) := v_getf (q0 := 0) (ci := 8) (fk := 13) (v := .ref (ad 13)) hJ rfl rfl inX11g (by decide) kX11_26 rfl d k
theorem kX11_29 : Cond.fieldLink RX11 29 "ChordMoverModel" "line" "[I" ∈ gw := gw_of (List.mem_of_getElem? (i := 915) (by decide +kernel)) (by decide +kernel)
theorem mg14 (hJ : Snd l R cc nL RX11 rt D [(cI, .int)] O (wM ad cI) post X J) (d : decode cc pc = .ok (.getfield 29, 3)) (k : J (pc + 3) lv (.ref (ad 14) :: st) (I, A)) : J pc lv (.ref (ad 0) :: st) (I, A) := v_getf (q0 := 0) (ci := 8) (fk := 14) (v := .ref (ad 14)) hJ rfl rfl inX11g (by decide) kX11_29 rfl d k
theorem kX11_32 : Cond.fieldLink RX11 32 "ChordMoverModel" "newRoot" "[I" ∈ gw := gw_of (List.mem_of_getElem? (i := 916) (by decide +kernel)) (by decide +kernel)
theorem mg15 (hJ : Snd l R cc nL RX11 rt D [(cI, .int)] O (wM ad cI) post X J) (d : decode cc pc = .ok (.getfield 32, 3)) (k : J (pc + 3) lv (.ref (ad 15) :: st) (I, A)) : J pc lv (.ref (ad 0) :: st) (I, A) := v_getf (q0 := 0) (ci := 8) (fk := 15) (v := .ref (ad 15)) hJ rfl rfl inX11g (by decide) kX11_32 rfl d k
theorem kX11_35 : Cond.fieldLink RX11 35 "ChordMoverModel" "newKind" "[I" ∈ gw := gw_of (List.mem_of_getElem? (i := 917) (by decide +kernel)) (by decide +kernel)
theorem mg16 (hJ : Snd l R cc nL RX11 rt D [(cI, .int)] O (wM ad cI) post X J) (d : decode cc pc = .ok (.getfield 35, 3)) (k : J (pc + 3) lv (.ref (ad 16) :: st) (I, A)) : J pc lv (.ref (ad 0) :: st) (I, A) := v_getf (q0 := 0) (ci := 8) (fk := 16) (v := .ref (ad 16)) hJ rfl rfl inX11g (by decide) kX11_35 rfl d k
theorem kX11_38 : Cond.fieldLink RX11 38 "ChordMoverModel" "newBass" "[I" ∈ gw := gw_of (List.mem_of_getElem? (i := 918) (by decide +kernel)) (by decide +kernel)
theorem mg17 (hJ : Snd l R cc nL RX11 rt D [(cI, .int)] O (wM ad cI) post X J) (d : decode cc pc = .ok (.getfield 38, 3)) (k : J (pc + 3) lv (.ref (ad 17) :: st) (I, A)) : J pc lv (.ref (ad 0) :: st) (I, A) := v_getf (q0 := 0) (ci := 8) (fk := 17) (v := .ref (ad 17)) hJ rfl rfl inX11g (by decide) kX11_38 rfl d k
theorem kX11_41 : Cond.fieldLink RX11 41 "ChordMoverModel" "newLine" "[I" ∈ gw := gw_of (List.mem_of_getElem? (i := 919) (by decide +kernel)) (by decide +kernel)
theorem mg18 (hJ : Snd l R cc nL RX11 rt D [(cI, .int)] O (wM ad cI) post X J) (d : decode cc pc = .ok (.getfield 41, 3)) (k : J (pc + 3) lv (.ref (ad 18) :: st) (I, A)) : J pc lv (.ref (ad 0) :: st) (I, A) := v_getf (q0 := 0) (ci := 8) (fk := 18) (v := .ref (ad 18)) hJ rfl rfl inX11g (by decide) kX11_41 rfl d k
theorem kX11_44 : Cond.fieldLink RX11 44 "ChordMoverModel" "song" "[I" ∈ gw := gw_of (List.mem_of_getElem? (i := 920) (by decide +kernel)) (by decide +kernel)
theorem mg19 (hJ : Snd l R cc nL RX11 rt D [(cI, .int)] O (wM ad cI) post X J) (d : decode cc pc = .ok (.getfield 44, 3)) (k : J (pc + 3) lv (.ref (ad 19) :: st) (I, A)) : J pc lv (.ref (ad 0) :: st) (I, A) := v_getf (q0 := 0) (ci := 8) (fk := 19) (v := .ref (ad 19)) hJ rfl rfl inX11g (by decide) kX11_44 rfl d k
theorem kX11_47 : Cond.fieldLink RX11 47 "ChordMoverModel" "newSong" "[I" ∈ gw := gw_of (List.mem_of_getElem? (i := 921) (by decide +kernel)) (by decide +kernel)
theorem mg20 (hJ : Snd l R cc nL RX11 rt D [(cI, .int)] O (wM ad cI) post X J) (d : decode cc pc = .ok (.getfield 47, 3)) (k : J (pc + 3) lv (.ref (ad 20) :: st) (I, A)) : J pc lv (.ref (ad 0) :: st) (I, A) := v_getf (q0 := 0) (ci := 8) (fk := 20) (v := .ref (ad 20)) hJ rfl rfl inX11g (by decide) kX11_47 rfl d k
theorem kX11_203 : Cond.fieldLink RX11 203 "ChordMoverModel" "size" "I" ∈ gw := gw_of (List.mem_of_getElem? (i := 922) (by decide +kernel)) (by decide +kernel)
theorem mg21 (hJ : Snd l R cc nL RX11 rt D [(cI, .int)] O (wM ad cI) post X J) (d : decode cc pc = .ok (.getfield 203, 3)) (k : J (pc + 3) lv (.int (iZ (I 21)) :: st) (I, A)) : J pc lv (.ref (ad 0) :: st) (I, A) := v_getf (q0 := 0) (ci := 8) (fk := 21) (v := .int (iZ (I 21))) hJ rfl rfl inX11g (by decide) kX11_203 rfl d k
theorem mp21 (hJ : Snd l R cc nL RX11 rt D [(cI, .int)] O (wM ad cI) post X J) {x : Int} (d : decode cc pc = .ok (.putfield 203, 3)) (k : J (pc + 3) lv st (va_up I 21 x, A)) : J pc lv (.int (iZ x) :: .ref (ad 0) :: st) (I, A) := v_putf (q0 := 0) (ci := 8) (fk := 21) hJ rfl rfl inX11g tyX11_ok nmX11 (by decide) kX11_203 rfl rfl rfl (Nat.le_of_ble_eq_true rfl) rfl d k
theorem kX11_184 : Cond.fieldLink RX11 184 "ChordMoverModel" "newSize" "I" ∈ gw := gw_of (List.mem_of_getElem? (i := 923) (by decide +kernel)) (by decide +kernel)
theorem mg22 (hJ : Snd l R cc nL RX11 rt D [(cI, .int)] O (wM ad cI) post X J) (d : decode cc pc = .ok (.getfield 184, 3)) (k : J (pc + 3) lv (.int (iZ (I 22)) :: st) (I, A)) : J pc lv (.ref (ad 0) :: st) (I, A) := v_getf (q0 := 0) (ci := 8) (fk := 22) (v := .int (iZ (I 22))) hJ rfl rfl inX11g (by decide) kX11_184 rfl d k
theorem mp22 (hJ : Snd l R cc nL RX11 rt D [(cI, .int)] O (wM ad cI) post X J) {x : Int} (d : decode cc pc = .ok (.putfield 184, 3)) (k : J (pc + 3) lv st (va_up I 22 x, A)) : J pc lv (.int (iZ x) :: .ref (ad 0) :: st) (I, A) := v_putf (q0 := 0) (ci := 8) (fk := 22) hJ rfl rfl inX11g tyX11_ok nmX11 (by decide) kX11_184 rfl rfl rfl (Nat.le_of_ble_eq_true rfl) rfl d k
theorem kX11_50 : Cond.fieldLink RX11 50 "ChordMoverModel" "pitch" "[I" ∈ gw := gw_of (List.mem_of_getElem? (i := 924) (by decide +kernel)) (by decide +kernel)
theorem mg23 (hJ : Snd l R cc nL RX11 rt D [(cI, .int)] O (wM ad cI) post X J) (d : decode cc pc = .ok (.getfield 50, 3)) (k : J (pc + 3) lv (.ref (ad 23) :: st) (I, A)) : J pc lv (.ref (ad 0) :: st) (I, A) := v_getf (q0 := 0) (ci := 8) (fk := 23) (v := .ref (ad 23)) hJ rfl rfl inX11g (by decide) kX11_50 rfl d k
theorem kX11_53 : Cond.fieldLink RX11 53 "ChordMoverModel" "played" "[I" ∈ gw := gw_of (List.mem_of_getElem? (i := 925) (by decide +kernel)) (by decide +kernel)
theorem mg24 (hJ : Snd l R cc nL RX11 rt D [(cI, .int)] O (wM ad cI) post X J) (d : decode cc pc = .ok (.getfield 53, 3)) (k : J (pc + 3) lv (.ref (ad 24) :: st) (I, A)) : J pc lv (.ref (ad 0) :: st) (I, A) := v_getf (q0 := 0) (ci := 8) (fk := 24) (v := .ref (ad 24)) hJ rfl rfl inX11g (by decide) kX11_53 rfl d k
theorem kX11_56 : Cond.fieldLink RX11 56 "ChordMoverModel" "out" "[I" ∈ gw := gw_of (List.mem_of_getElem? (i := 926) (by decide +kernel)) (by decide +kernel)
theorem mg25 (hJ : Snd l R cc nL RX11 rt D [(cI, .int)] O (wM ad cI) post X J) (d : decode cc pc = .ok (.getfield 56, 3)) (k : J (pc + 3) lv (.ref (ad 25) :: st) (I, A)) : J pc lv (.ref (ad 0) :: st) (I, A) := v_getf (q0 := 0) (ci := 8) (fk := 25) (v := .ref (ad 25)) hJ rfl rfl inX11g (by decide) kX11_56 rfl d k
theorem kX11_237 : Cond.fieldLink RX11 237 "ChordMoverModel" "outs" "I" ∈ gw := gw_of (List.mem_of_getElem? (i := 927) (by decide +kernel)) (by decide +kernel)
theorem mg26 (hJ : Snd l R cc nL RX11 rt D [(cI, .int)] O (wM ad cI) post X J) (d : decode cc pc = .ok (.getfield 237, 3)) (k : J (pc + 3) lv (.int (iZ (I 26)) :: st) (I, A)) : J pc lv (.ref (ad 0) :: st) (I, A) := v_getf (q0 := 0) (ci := 8) (fk := 26) (v := .int (iZ (I 26))) hJ rfl rfl inX11g (by decide) kX11_237 rfl d k
theorem mp26 (hJ : Snd l R cc nL RX11 rt D [(cI, .int)] O (wM ad cI) post X J) {x : Int} (d : decode cc pc = .ok (.putfield 237, 3)) (k : J (pc + 3) lv st (va_up I 26 x, A)) : J pc lv (.int (iZ x) :: .ref (ad 0) :: st) (I, A) := v_putf (q0 := 0) (ci := 8) (fk := 26) hJ rfl rfl inX11g tyX11_ok nmX11 (by decide) kX11_237 rfl rfl rfl (Nat.le_of_ble_eq_true rfl) rfl d k
theorem kX11_140 : Cond.fieldLink RX11 140 "ChordMoverModel" "at" "I" ∈ gw := gw_of (List.mem_of_getElem? (i := 928) (by decide +kernel)) (by decide +kernel)
theorem mg27 (hJ : Snd l R cc nL RX11 rt D [(cI, .int)] O (wM ad cI) post X J) (d : decode cc pc = .ok (.getfield 140, 3)) (k : J (pc + 3) lv (.int (iZ (I 27)) :: st) (I, A)) : J pc lv (.ref (ad 0) :: st) (I, A) := v_getf (q0 := 0) (ci := 8) (fk := 27) (v := .int (iZ (I 27))) hJ rfl rfl inX11g (by decide) kX11_140 rfl d k
theorem mp27 (hJ : Snd l R cc nL RX11 rt D [(cI, .int)] O (wM ad cI) post X J) {x : Int} (d : decode cc pc = .ok (.putfield 140, 3)) (k : J (pc + 3) lv st (va_up I 27 x, A)) : J pc lv (.int (iZ x) :: .ref (ad 0) :: st) (I, A) := v_putf (q0 := 0) (ci := 8) (fk := 27) hJ rfl rfl inX11g tyX11_ok nmX11 (by decide) kX11_140 rfl rfl rfl (Nat.le_of_ble_eq_true rfl) rfl d k
theorem kX11_134 : Cond.fieldLink RX11 134 "ChordMoverModel" "end" "I" ∈ gw := gw_of (List.mem_of_getElem? (i := 929) (by decide +kernel)) (by decide +kernel)
theorem mg28 (hJ : Snd l R cc nL RX11 rt D [(cI, .int)] O (wM ad cI) post X J) (d : decode cc pc = .ok (.getfield 134, 3)) (k : J (pc + 3) lv (.int (iZ (I 28)) :: st) (I, A)) : J pc lv (.ref (ad 0) :: st) (I, A) := v_getf (q0 := 0) (ci := 8) (fk := 28) (v := .int (iZ (I 28))) hJ rfl rfl inX11g (by decide) kX11_134 rfl d k
theorem mp28 (hJ : Snd l R cc nL RX11 rt D [(cI, .int)] O (wM ad cI) post X J) {x : Int} (d : decode cc pc = .ok (.putfield 134, 3)) (k : J (pc + 3) lv st (va_up I 28 x, A)) : J pc lv (.int (iZ x) :: .ref (ad 0) :: st) (I, A) := v_putf (q0 := 0) (ci := 8) (fk := 28) hJ rfl rfl inX11g tyX11_ok nmX11 (by decide) kX11_134 rfl rfl rfl (Nat.le_of_ble_eq_true rfl) rfl d k
theorem kX11_153 : Cond.fieldLink RX11 153 "ChordMoverModel" "note" "I" ∈ gw := gw_of (List.mem_of_getElem? (i := 930) (by decide +kernel)) (by decide +kernel)
theorem mg29 (hJ : Snd l R cc nL RX11 rt D [(cI, .int)] O (wM ad cI) post X J) (d : decode cc pc = .ok (.getfield 153, 3)) (k : J (pc + 3) lv (.int (iZ (I 29)) :: st) (I, A)) : J pc lv (.ref (ad 0) :: st) (I, A) := v_getf (q0 := 0) (ci := 8) (fk := 29) (v := .int (iZ (I 29))) hJ rfl rfl inX11g (by decide) kX11_153 rfl d k
theorem mp29 (hJ : Snd l R cc nL RX11 rt D [(cI, .int)] O (wM ad cI) post X J) {x : Int} (d : decode cc pc = .ok (.putfield 153, 3)) (k : J (pc + 3) lv st (va_up I 29 x, A)) : J pc lv (.int (iZ x) :: .ref (ad 0) :: st) (I, A) := v_putf (q0 := 0) (ci := 8) (fk := 29) hJ rfl rfl inX11g tyX11_ok nmX11 (by decide) kX11_153 rfl rfl rfl (Nat.le_of_ble_eq_true rfl) rfl d k
theorem kX11_170 : Cond.fieldLink RX11 170 "ChordMoverModel" "chordsRead" "I" ∈ gw := gw_of (List.mem_of_getElem? (i := 931) (by decide +kernel)) (by decide +kernel)
theorem mg30 (hJ : Snd l R cc nL RX11 rt D [(cI, .int)] O (wM ad cI) post X J) (d : decode cc pc = .ok (.getfield 170, 3)) (k : J (pc + 3) lv (.int (iZ (I 30)) :: st) (I, A)) : J pc lv (.ref (ad 0) :: st) (I, A) := v_getf (q0 := 0) (ci := 8) (fk := 30) (v := .int (iZ (I 30))) hJ rfl rfl inX11g (by decide) kX11_170 rfl d k
theorem mp30 (hJ : Snd l R cc nL RX11 rt D [(cI, .int)] O (wM ad cI) post X J) {x : Int} (d : decode cc pc = .ok (.putfield 170, 3)) (k : J (pc + 3) lv st (va_up I 30 x, A)) : J pc lv (.int (iZ x) :: .ref (ad 0) :: st) (I, A) := v_putf (q0 := 0) (ci := 8) (fk := 30) hJ rfl rfl inX11g tyX11_ok nmX11 (by decide) kX11_170 rfl rfl rfl (Nat.le_of_ble_eq_true rfl) rfl d k
theorem kX11_181 : Cond.fieldLink RX11 181 "ChordMoverModel" "linesRead" "I" ∈ gw := gw_of (List.mem_of_getElem? (i := 932) (by decide +kernel)) (by decide +kernel)
theorem mg31 (hJ : Snd l R cc nL RX11 rt D [(cI, .int)] O (wM ad cI) post X J) (d : decode cc pc = .ok (.getfield 181, 3)) (k : J (pc + 3) lv (.int (iZ (I 31)) :: st) (I, A)) : J pc lv (.ref (ad 0) :: st) (I, A) := v_getf (q0 := 0) (ci := 8) (fk := 31) (v := .int (iZ (I 31))) hJ rfl rfl inX11g (by decide) kX11_181 rfl d k
theorem mp31 (hJ : Snd l R cc nL RX11 rt D [(cI, .int)] O (wM ad cI) post X J) {x : Int} (d : decode cc pc = .ok (.putfield 181, 3)) (k : J (pc + 3) lv st (va_up I 31 x, A)) : J pc lv (.int (iZ x) :: .ref (ad 0) :: st) (I, A) := v_putf (q0 := 0) (ci := 8) (fk := 31) hJ rfl rfl inX11g tyX11_ok nmX11 (by decide) kX11_181 rfl rfl rfl (Nat.le_of_ble_eq_true rfl) rfl d k
theorem kX11_59 : Cond.fieldLink RX11 59 "ChordMoverModel" "name" "[I" ∈ gw := gw_of (List.mem_of_getElem? (i := 933) (by decide +kernel)) (by decide +kernel)
theorem mg32 (hJ : Snd l R cc nL RX11 rt D [(cI, .int)] O (wM ad cI) post X J) (d : decode cc pc = .ok (.getfield 59, 3)) (k : J (pc + 3) lv (.ref (ad 32) :: st) (I, A)) : J pc lv (.ref (ad 0) :: st) (I, A) := v_getf (q0 := 0) (ci := 8) (fk := 32) (v := .ref (ad 32)) hJ rfl rfl inX11g (by decide) kX11_59 rfl d k
theorem kX11_226 : Cond.fieldLink RX11 226 "ChordMoverModel" "nameSize" "I" ∈ gw := gw_of (List.mem_of_getElem? (i := 934) (by decide +kernel)) (by decide +kernel)
theorem mg33 (hJ : Snd l R cc nL RX11 rt D [(cI, .int)] O (wM ad cI) post X J) (d : decode cc pc = .ok (.getfield 226, 3)) (k : J (pc + 3) lv (.int (iZ (I 33)) :: st) (I, A)) : J pc lv (.ref (ad 0) :: st) (I, A) := v_getf (q0 := 0) (ci := 8) (fk := 33) (v := .int (iZ (I 33))) hJ rfl rfl inX11g (by decide) kX11_226 rfl d k
theorem mp33 (hJ : Snd l R cc nL RX11 rt D [(cI, .int)] O (wM ad cI) post X J) {x : Int} (d : decode cc pc = .ok (.putfield 226, 3)) (k : J (pc + 3) lv st (va_up I 33 x, A)) : J pc lv (.int (iZ x) :: .ref (ad 0) :: st) (I, A) := v_putf (q0 := 0) (ci := 8) (fk := 33) hJ rfl rfl inX11g tyX11_ok nmX11 (by decide) kX11_226 rfl rfl rfl (Nat.le_of_ble_eq_true rfl) rfl d k
theorem kX11_62 : Cond.fieldLink RX11 62 "ChordMoverModel" "upper" "[I" ∈ gw := gw_of (List.mem_of_getElem? (i := 935) (by decide +kernel)) (by decide +kernel)
theorem mg34 (hJ : Snd l R cc nL RX11 rt D [(cI, .int)] O (wM ad cI) post X J) (d : decode cc pc = .ok (.getfield 62, 3)) (k : J (pc + 3) lv (.ref (ad 34) :: st) (I, A)) : J pc lv (.ref (ad 0) :: st) (I, A) := v_getf (q0 := 0) (ci := 8) (fk := 34) (v := .ref (ad 34)) hJ rfl rfl inX11g (by decide) kX11_62 rfl d k
theorem kX11_65 : Cond.fieldLink RX11 65 "ChordMoverModel" "lower" "[I" ∈ gw := gw_of (List.mem_of_getElem? (i := 936) (by decide +kernel)) (by decide +kernel)
theorem mg35 (hJ : Snd l R cc nL RX11 rt D [(cI, .int)] O (wM ad cI) post X J) (d : decode cc pc = .ok (.getfield 65, 3)) (k : J (pc + 3) lv (.ref (ad 35) :: st) (I, A)) : J pc lv (.ref (ad 0) :: st) (I, A) := v_getf (q0 := 0) (ci := 8) (fk := 35) (v := .ref (ad 35)) hJ rfl rfl inX11g (by decide) kX11_65 rfl d k
theorem kX11_246 : Cond.fieldLink RX11 246 "ChordMoverModel" "uppers" "I" ∈ gw := gw_of (List.mem_of_getElem? (i := 937) (by decide +kernel)) (by decide +kernel)
theorem mg36 (hJ : Snd l R cc nL RX11 rt D [(cI, .int)] O (wM ad cI) post X J) (d : decode cc pc = .ok (.getfield 246, 3)) (k : J (pc + 3) lv (.int (iZ (I 36)) :: st) (I, A)) : J pc lv (.ref (ad 0) :: st) (I, A) := v_getf (q0 := 0) (ci := 8) (fk := 36) (v := .int (iZ (I 36))) hJ rfl rfl inX11g (by decide) kX11_246 rfl d k
theorem mp36 (hJ : Snd l R cc nL RX11 rt D [(cI, .int)] O (wM ad cI) post X J) {x : Int} (d : decode cc pc = .ok (.putfield 246, 3)) (k : J (pc + 3) lv st (va_up I 36 x, A)) : J pc lv (.int (iZ x) :: .ref (ad 0) :: st) (I, A) := v_putf (q0 := 0) (ci := 8) (fk := 36) hJ rfl rfl inX11g tyX11_ok nmX11 (by decide) kX11_246 rfl rfl rfl (Nat.le_of_ble_eq_true rfl) rfl d k
theorem kX11_249 : Cond.fieldLink RX11 249 "ChordMoverModel" "lowers" "I" ∈ gw := gw_of (List.mem_of_getElem? (i := 938) (by decide +kernel)) (by decide +kernel)
theorem mg37 (hJ : Snd l R cc nL RX11 rt D [(cI, .int)] O (wM ad cI) post X J) (d : decode cc pc = .ok (.getfield 249, 3)) (k : J (pc + 3) lv (.int (iZ (I 37)) :: st) (I, A)) : J pc lv (.ref (ad 0) :: st) (I, A) := v_getf (q0 := 0) (ci := 8) (fk := 37) (v := .int (iZ (I 37))) hJ rfl rfl inX11g (by decide) kX11_249 rfl d k
theorem mp37 (hJ : Snd l R cc nL RX11 rt D [(cI, .int)] O (wM ad cI) post X J) {x : Int} (d : decode cc pc = .ok (.putfield 249, 3)) (k : J (pc + 3) lv st (va_up I 37 x, A)) : J pc lv (.int (iZ x) :: .ref (ad 0) :: st) (I, A) := v_putf (q0 := 0) (ci := 8) (fk := 37) hJ rfl rfl inX11g tyX11_ok nmX11 (by decide) kX11_249 rfl rfl rfl (Nat.le_of_ble_eq_true rfl) rfl d k
theorem kX11_68 : Cond.fieldLink RX11 68 "ChordMoverModel" "handMany" "[I" ∈ gw := gw_of (List.mem_of_getElem? (i := 939) (by decide +kernel)) (by decide +kernel)
theorem mg38 (hJ : Snd l R cc nL RX11 rt D [(cI, .int)] O (wM ad cI) post X J) (d : decode cc pc = .ok (.getfield 68, 3)) (k : J (pc + 3) lv (.ref (ad 38) :: st) (I, A)) : J pc lv (.ref (ad 0) :: st) (I, A) := v_getf (q0 := 0) (ci := 8) (fk := 38) (v := .ref (ad 38)) hJ rfl rfl inX11g (by decide) kX11_68 rfl d k
theorem kX11_71 : Cond.fieldLink RX11 71 "ChordMoverModel" "handFret" "[I" ∈ gw := gw_of (List.mem_of_getElem? (i := 940) (by decide +kernel)) (by decide +kernel)
theorem mg39 (hJ : Snd l R cc nL RX11 rt D [(cI, .int)] O (wM ad cI) post X J) (d : decode cc pc = .ok (.getfield 71, 3)) (k : J (pc + 3) lv (.ref (ad 39) :: st) (I, A)) : J pc lv (.ref (ad 0) :: st) (I, A) := v_getf (q0 := 0) (ci := 8) (fk := 39) (v := .ref (ad 39)) hJ rfl rfl inX11g (by decide) kX11_71 rfl d k
theorem kX11_74 : Cond.fieldLink RX11 74 "ChordMoverModel" "handStrain" "[I" ∈ gw := gw_of (List.mem_of_getElem? (i := 941) (by decide +kernel)) (by decide +kernel)
theorem mg40 (hJ : Snd l R cc nL RX11 rt D [(cI, .int)] O (wM ad cI) post X J) (d : decode cc pc = .ok (.getfield 74, 3)) (k : J (pc + 3) lv (.ref (ad 40) :: st) (I, A)) : J pc lv (.ref (ad 0) :: st) (I, A) := v_getf (q0 := 0) (ci := 8) (fk := 40) (v := .ref (ad 40)) hJ rfl rfl inX11g (by decide) kX11_74 rfl d k
theorem kX11_77 : Cond.fieldLink RX11 77 "ChordMoverModel" "fret" "[I" ∈ gw := gw_of (List.mem_of_getElem? (i := 942) (by decide +kernel)) (by decide +kernel)
theorem mg41 (hJ : Snd l R cc nL RX11 rt D [(cI, .int)] O (wM ad cI) post X J) (d : decode cc pc = .ok (.getfield 77, 3)) (k : J (pc + 3) lv (.ref (ad 41) :: st) (I, A)) : J pc lv (.ref (ad 0) :: st) (I, A) := v_getf (q0 := 0) (ci := 8) (fk := 41) (v := .ref (ad 41)) hJ rfl rfl inX11g (by decide) kX11_77 rfl d k
theorem kX11_80 : Cond.fieldLink RX11 80 "ChordMoverModel" "least" "[I" ∈ gw := gw_of (List.mem_of_getElem? (i := 943) (by decide +kernel)) (by decide +kernel)
theorem mg42 (hJ : Snd l R cc nL RX11 rt D [(cI, .int)] O (wM ad cI) post X J) (d : decode cc pc = .ok (.getfield 80, 3)) (k : J (pc + 3) lv (.ref (ad 42) :: st) (I, A)) : J pc lv (.ref (ad 0) :: st) (I, A) := v_getf (q0 := 0) (ci := 8) (fk := 42) (v := .ref (ad 42)) hJ rfl rfl inX11g (by decide) kX11_80 rfl d k
theorem kX11_83 : Cond.fieldLink RX11 83 "ChordMoverModel" "most" "[I" ∈ gw := gw_of (List.mem_of_getElem? (i := 944) (by decide +kernel)) (by decide +kernel)
theorem mg43 (hJ : Snd l R cc nL RX11 rt D [(cI, .int)] O (wM ad cI) post X J) (d : decode cc pc = .ok (.getfield 83, 3)) (k : J (pc + 3) lv (.ref (ad 43) :: st) (I, A)) : J pc lv (.ref (ad 0) :: st) (I, A) := v_getf (q0 := 0) (ci := 8) (fk := 43) (v := .ref (ad 43)) hJ rfl rfl inX11g (by decide) kX11_83 rfl d k
theorem kX11_86 : Cond.fieldLink RX11 86 "ChordMoverModel" "rest" "[I" ∈ gw := gw_of (List.mem_of_getElem? (i := 945) (by decide +kernel)) (by decide +kernel)
theorem mg44 (hJ : Snd l R cc nL RX11 rt D [(cI, .int)] O (wM ad cI) post X J) (d : decode cc pc = .ok (.getfield 86, 3)) (k : J (pc + 3) lv (.ref (ad 44) :: st) (I, A)) : J pc lv (.ref (ad 0) :: st) (I, A) := v_getf (q0 := 0) (ci := 8) (fk := 44) (v := .ref (ad 44)) hJ rfl rfl inX11g (by decide) kX11_86 rfl d k
theorem ma1 (hJ : Snd l R cc nL RX11 rt D [(cI, .int)] O (wM ad cI) post X J) {i : Int} (h0 : 0 ≤ i) (h1 : i < 1200) (d : decode cc pc = .ok (.iaload, 1)) (k : J (pc + 1) lv (.int (iZ (A 1 i)) :: st) (I, A)) : J pc lv (.int (iZ i) :: .ref (ad 1) :: st) (I, A) := v_iald (q0 := 1) (t0 := 0) (n := 1200) (f := A 1) hJ rfl rfl (by decide) h0 h1 d k
theorem ms1 (hJ : Snd l R cc nL RX11 rt D [(cI, .int)] O (wM ad cI) post X J) {i x : Int} (h0 : 0 ≤ i) (h1 : i < 1200) (d : decode cc pc = .ok (.iastore, 1)) (k : J (pc + 1) lv st (I, va_up A 1 (zu (A 1) i x))) : J pc lv (.int (iZ x) :: .int (iZ i) :: .ref (ad 1) :: st) (I, A) := v_iast (q0 := 1) (t0 := 0) (n := 1200) (f := A 1) hJ rfl rfl (by decide) h0 h1 rfl d k
theorem ma11 (hJ : Snd l R cc nL RX11 rt D [(cI, .int)] O (wM ad cI) post X J) {i : Int} (h0 : 0 ≤ i) (h1 : i < 61) (d : decode cc pc = .ok (.iaload, 1)) (k : J (pc + 1) lv (.int (iZ (A 11 i)) :: st) (I, A)) : J pc lv (.int (iZ i) :: .ref (ad 11) :: st) (I, A) := v_iald (q0 := 2) (t0 := 0) (n := 61) (f := A 11) hJ rfl rfl (by decide) h0 h1 d k
theorem ms11 (hJ : Snd l R cc nL RX11 rt D [(cI, .int)] O (wM ad cI) post X J) {i x : Int} (h0 : 0 ≤ i) (h1 : i < 61) (d : decode cc pc = .ok (.iastore, 1)) (k : J (pc + 1) lv st (I, va_up A 11 (zu (A 11) i x))) : J pc lv (.int (iZ x) :: .int (iZ i) :: .ref (ad 11) :: st) (I, A) := v_iast (q0 := 2) (t0 := 0) (n := 61) (f := A 11) hJ rfl rfl (by decide) h0 h1 rfl d k
theorem ma12 (hJ : Snd l R cc nL RX11 rt D [(cI, .int)] O (wM ad cI) post X J) {i : Int} (h0 : 0 ≤ i) (h1 : i < 61) (d : decode cc pc = .ok (.iaload, 1)) (k : J (pc + 1) lv (.int (iZ (A 12 i)) :: st) (I, A)) : J pc lv (.int (iZ i) :: .ref (ad 12) :: st) (I, A) := v_iald (q0 := 3) (t0 := 0) (n := 61) (f := A 12) hJ rfl rfl (by decide) h0 h1 d k
theorem ms12 (hJ : Snd l R cc nL RX11 rt D [(cI, .int)] O (wM ad cI) post X J) {i x : Int} (h0 : 0 ≤ i) (h1 : i < 61) (d : decode cc pc = .ok (.iastore, 1)) (k : J (pc + 1) lv st (I, va_up A 12 (zu (A 12) i x))) : J pc lv (.int (iZ x) :: .int (iZ i) :: .ref (ad 12) :: st) (I, A) := v_iast (q0 := 3) (t0 := 0) (n := 61) (f := A 12) hJ rfl rfl (by decide) h0 h1 rfl d k
theorem ma13 (hJ : Snd l R cc nL RX11 rt D [(cI, .int)] O (wM ad cI) post X J) {i : Int} (h0 : 0 ≤ i) (h1 : i < 61) (d : decode cc pc = .ok (.iaload, 1)) (k : J (pc + 1) lv (.int (iZ (A 13 i)) :: st) (I, A)) : J pc lv (.int (iZ i) :: .ref (ad 13) :: st) (I, A) := v_iald (q0 := 4) (t0 := 0) (n := 61) (f := A 13) hJ rfl rfl (by decide) h0 h1 d k
theorem ms13 (hJ : Snd l R cc nL RX11 rt D [(cI, .int)] O (wM ad cI) post X J) {i x : Int} (h0 : 0 ≤ i) (h1 : i < 61) (d : decode cc pc = .ok (.iastore, 1)) (k : J (pc + 1) lv st (I, va_up A 13 (zu (A 13) i x))) : J pc lv (.int (iZ x) :: .int (iZ i) :: .ref (ad 13) :: st) (I, A) := v_iast (q0 := 4) (t0 := 0) (n := 61) (f := A 13) hJ rfl rfl (by decide) h0 h1 rfl d k
theorem ma14 (hJ : Snd l R cc nL RX11 rt D [(cI, .int)] O (wM ad cI) post X J) {i : Int} (h0 : 0 ≤ i) (h1 : i < 61) (d : decode cc pc = .ok (.iaload, 1)) (k : J (pc + 1) lv (.int (iZ (A 14 i)) :: st) (I, A)) : J pc lv (.int (iZ i) :: .ref (ad 14) :: st) (I, A) := v_iald (q0 := 5) (t0 := 0) (n := 61) (f := A 14) hJ rfl rfl (by decide) h0 h1 d k
theorem ms14 (hJ : Snd l R cc nL RX11 rt D [(cI, .int)] O (wM ad cI) post X J) {i x : Int} (h0 : 0 ≤ i) (h1 : i < 61) (d : decode cc pc = .ok (.iastore, 1)) (k : J (pc + 1) lv st (I, va_up A 14 (zu (A 14) i x))) : J pc lv (.int (iZ x) :: .int (iZ i) :: .ref (ad 14) :: st) (I, A) := v_iast (q0 := 5) (t0 := 0) (n := 61) (f := A 14) hJ rfl rfl (by decide) h0 h1 rfl d k
theorem ma15 (hJ : Snd l R cc nL RX11 rt D [(cI, .int)] O (wM ad cI) post X J) {i : Int} (h0 : 0 ≤ i) (h1 : i < 61) (d : decode cc pc = .ok (.iaload, 1)) (k : J (pc + 1) lv (.int (iZ (A 15 i)) :: st) (I, A)) : J pc lv (.int (iZ i) :: .ref (ad 15) :: st) (I, A) := v_iald (q0 := 6) (t0 := 0) (n := 61) (f := A 15) hJ rfl rfl (by decide) h0 h1 d k
theorem ms15 (hJ : Snd l R cc nL RX11 rt D [(cI, .int)] O (wM ad cI) post X J) {i x : Int} (h0 : 0 ≤ i) (h1 : i < 61) (d : decode cc pc = .ok (.iastore, 1)) (k : J (pc + 1) lv st (I, va_up A 15 (zu (A 15) i x))) : J pc lv (.int (iZ x) :: .int (iZ i) :: .ref (ad 15) :: st) (I, A) := v_iast (q0 := 6) (t0 := 0) (n := 61) (f := A 15) hJ rfl rfl (by decide) h0 h1 rfl d k
theorem ma16 (hJ : Snd l R cc nL RX11 rt D [(cI, .int)] O (wM ad cI) post X J) {i : Int} (h0 : 0 ≤ i) (h1 : i < 61) (d : decode cc pc = .ok (.iaload, 1)) (k : J (pc + 1) lv (.int (iZ (A 16 i)) :: st) (I, A)) : J pc lv (.int (iZ i) :: .ref (ad 16) :: st) (I, A) := v_iald (q0 := 7) (t0 := 0) (n := 61) (f := A 16) hJ rfl rfl (by decide) h0 h1 d k
theorem ms16 (hJ : Snd l R cc nL RX11 rt D [(cI, .int)] O (wM ad cI) post X J) {i x : Int} (h0 : 0 ≤ i) (h1 : i < 61) (d : decode cc pc = .ok (.iastore, 1)) (k : J (pc + 1) lv st (I, va_up A 16 (zu (A 16) i x))) : J pc lv (.int (iZ x) :: .int (iZ i) :: .ref (ad 16) :: st) (I, A) := v_iast (q0 := 7) (t0 := 0) (n := 61) (f := A 16) hJ rfl rfl (by decide) h0 h1 rfl d k
theorem ma17 (hJ : Snd l R cc nL RX11 rt D [(cI, .int)] O (wM ad cI) post X J) {i : Int} (h0 : 0 ≤ i) (h1 : i < 61) (d : decode cc pc = .ok (.iaload, 1)) (k : J (pc + 1) lv (.int (iZ (A 17 i)) :: st) (I, A)) : J pc lv (.int (iZ i) :: .ref (ad 17) :: st) (I, A) := v_iald (q0 := 8) (t0 := 0) (n := 61) (f := A 17) hJ rfl rfl (by decide) h0 h1 d k
theorem ms17 (hJ : Snd l R cc nL RX11 rt D [(cI, .int)] O (wM ad cI) post X J) {i x : Int} (h0 : 0 ≤ i) (h1 : i < 61) (d : decode cc pc = .ok (.iastore, 1)) (k : J (pc + 1) lv st (I, va_up A 17 (zu (A 17) i x))) : J pc lv (.int (iZ x) :: .int (iZ i) :: .ref (ad 17) :: st) (I, A) := v_iast (q0 := 8) (t0 := 0) (n := 61) (f := A 17) hJ rfl rfl (by decide) h0 h1 rfl d k
theorem ma18 (hJ : Snd l R cc nL RX11 rt D [(cI, .int)] O (wM ad cI) post X J) {i : Int} (h0 : 0 ≤ i) (h1 : i < 61) (d : decode cc pc = .ok (.iaload, 1)) (k : J (pc + 1) lv (.int (iZ (A 18 i)) :: st) (I, A)) : J pc lv (.int (iZ i) :: .ref (ad 18) :: st) (I, A) := v_iald (q0 := 9) (t0 := 0) (n := 61) (f := A 18) hJ rfl rfl (by decide) h0 h1 d k
theorem ms18 (hJ : Snd l R cc nL RX11 rt D [(cI, .int)] O (wM ad cI) post X J) {i x : Int} (h0 : 0 ≤ i) (h1 : i < 61) (d : decode cc pc = .ok (.iastore, 1)) (k : J (pc + 1) lv st (I, va_up A 18 (zu (A 18) i x))) : J pc lv (.int (iZ x) :: .int (iZ i) :: .ref (ad 18) :: st) (I, A) := v_iast (q0 := 9) (t0 := 0) (n := 61) (f := A 18) hJ rfl rfl (by decide) h0 h1 rfl d k
theorem ma19 (hJ : Snd l R cc nL RX11 rt D [(cI, .int)] O (wM ad cI) post X J) {i : Int} (h0 : 0 ≤ i) (h1 : i < 1200) (d : decode cc pc = .ok (.iaload, 1)) (k : J (pc + 1) lv (.int (iZ (A 19 i)) :: st) (I, A)) : J pc lv (.int (iZ i) :: .ref (ad 19) :: st) (I, A) := v_iald (q0 := 10) (t0 := 0) (n := 1200) (f := A 19) hJ rfl rfl (by decide) h0 h1 d k
theorem ms19 (hJ : Snd l R cc nL RX11 rt D [(cI, .int)] O (wM ad cI) post X J) {i x : Int} (h0 : 0 ≤ i) (h1 : i < 1200) (d : decode cc pc = .ok (.iastore, 1)) (k : J (pc + 1) lv st (I, va_up A 19 (zu (A 19) i x))) : J pc lv (.int (iZ x) :: .int (iZ i) :: .ref (ad 19) :: st) (I, A) := v_iast (q0 := 10) (t0 := 0) (n := 1200) (f := A 19) hJ rfl rfl (by decide) h0 h1 rfl d k
theorem ma20 (hJ : Snd l R cc nL RX11 rt D [(cI, .int)] O (wM ad cI) post X J) {i : Int} (h0 : 0 ≤ i) (h1 : i < 1200) (d : decode cc pc = .ok (.iaload, 1)) (k : J (pc + 1) lv (.int (iZ (A 20 i)) :: st) (I, A)) : J pc lv (.int (iZ i) :: .ref (ad 20) :: st) (I, A) := v_iald (q0 := 11) (t0 := 0) (n := 1200) (f := A 20) hJ rfl rfl (by decide) h0 h1 d k
theorem ms20 (hJ : Snd l R cc nL RX11 rt D [(cI, .int)] O (wM ad cI) post X J) {i x : Int} (h0 : 0 ≤ i) (h1 : i < 1200) (d : decode cc pc = .ok (.iastore, 1)) (k : J (pc + 1) lv st (I, va_up A 20 (zu (A 20) i x))) : J pc lv (.int (iZ x) :: .int (iZ i) :: .ref (ad 20) :: st) (I, A) := v_iast (q0 := 11) (t0 := 0) (n := 1200) (f := A 20) hJ rfl rfl (by decide) h0 h1 rfl d k
theorem ma23 (hJ : Snd l R cc nL RX11 rt D [(cI, .int)] O (wM ad cI) post X J) {i : Int} (h0 : 0 ≤ i) (h1 : i < 6) (d : decode cc pc = .ok (.iaload, 1)) (k : J (pc + 1) lv (.int (iZ (A 23 i)) :: st) (I, A)) : J pc lv (.int (iZ i) :: .ref (ad 23) :: st) (I, A) := v_iald (q0 := 12) (t0 := 0) (n := 6) (f := A 23) hJ rfl rfl (by decide) h0 h1 d k
theorem ms23 (hJ : Snd l R cc nL RX11 rt D [(cI, .int)] O (wM ad cI) post X J) {i x : Int} (h0 : 0 ≤ i) (h1 : i < 6) (d : decode cc pc = .ok (.iastore, 1)) (k : J (pc + 1) lv st (I, va_up A 23 (zu (A 23) i x))) : J pc lv (.int (iZ x) :: .int (iZ i) :: .ref (ad 23) :: st) (I, A) := v_iast (q0 := 12) (t0 := 0) (n := 6) (f := A 23) hJ rfl rfl (by decide) h0 h1 rfl d k
theorem ma24 (hJ : Snd l R cc nL RX11 rt D [(cI, .int)] O (wM ad cI) post X J) {i : Int} (h0 : 0 ≤ i) (h1 : i < 60) (d : decode cc pc = .ok (.iaload, 1)) (k : J (pc + 1) lv (.int (iZ (A 24 i)) :: st) (I, A)) : J pc lv (.int (iZ i) :: .ref (ad 24) :: st) (I, A) := v_iald (q0 := 13) (t0 := 0) (n := 60) (f := A 24) hJ rfl rfl (by decide) h0 h1 d k
theorem ms24 (hJ : Snd l R cc nL RX11 rt D [(cI, .int)] O (wM ad cI) post X J) {i x : Int} (h0 : 0 ≤ i) (h1 : i < 60) (d : decode cc pc = .ok (.iastore, 1)) (k : J (pc + 1) lv st (I, va_up A 24 (zu (A 24) i x))) : J pc lv (.int (iZ x) :: .int (iZ i) :: .ref (ad 24) :: st) (I, A) := v_iast (q0 := 13) (t0 := 0) (n := 60) (f := A 24) hJ rfl rfl (by decide) h0 h1 rfl d k
theorem ma25 (hJ : Snd l R cc nL RX11 rt D [(cI, .int)] O (wM ad cI) post X J) {i : Int} (h0 : 0 ≤ i) (h1 : i < 4000) (d : decode cc pc = .ok (.iaload, 1)) (k : J (pc + 1) lv (.int (iZ (A 25 i)) :: st) (I, A)) : J pc lv (.int (iZ i) :: .ref (ad 25) :: st) (I, A) := v_iald (q0 := 14) (t0 := 0) (n := 4000) (f := A 25) hJ rfl rfl (by decide) h0 h1 d k
theorem ms25 (hJ : Snd l R cc nL RX11 rt D [(cI, .int)] O (wM ad cI) post X J) {i x : Int} (h0 : 0 ≤ i) (h1 : i < 4000) (d : decode cc pc = .ok (.iastore, 1)) (k : J (pc + 1) lv st (I, va_up A 25 (zu (A 25) i x))) : J pc lv (.int (iZ x) :: .int (iZ i) :: .ref (ad 25) :: st) (I, A) := v_iast (q0 := 14) (t0 := 0) (n := 4000) (f := A 25) hJ rfl rfl (by decide) h0 h1 rfl d k
theorem ma32 (hJ : Snd l R cc nL RX11 rt D [(cI, .int)] O (wM ad cI) post X J) {i : Int} (h0 : 0 ≤ i) (h1 : i < 16) (d : decode cc pc = .ok (.iaload, 1)) (k : J (pc + 1) lv (.int (iZ (A 32 i)) :: st) (I, A)) : J pc lv (.int (iZ i) :: .ref (ad 32) :: st) (I, A) := v_iald (q0 := 15) (t0 := 0) (n := 16) (f := A 32) hJ rfl rfl (by decide) h0 h1 d k
theorem ms32 (hJ : Snd l R cc nL RX11 rt D [(cI, .int)] O (wM ad cI) post X J) {i x : Int} (h0 : 0 ≤ i) (h1 : i < 16) (d : decode cc pc = .ok (.iastore, 1)) (k : J (pc + 1) lv st (I, va_up A 32 (zu (A 32) i x))) : J pc lv (.int (iZ x) :: .int (iZ i) :: .ref (ad 32) :: st) (I, A) := v_iast (q0 := 15) (t0 := 0) (n := 16) (f := A 32) hJ rfl rfl (by decide) h0 h1 rfl d k
theorem ma34 (hJ : Snd l R cc nL RX11 rt D [(cI, .int)] O (wM ad cI) post X J) {i : Int} (h0 : 0 ≤ i) (h1 : i < 4000) (d : decode cc pc = .ok (.iaload, 1)) (k : J (pc + 1) lv (.int (iZ (A 34 i)) :: st) (I, A)) : J pc lv (.int (iZ i) :: .ref (ad 34) :: st) (I, A) := v_iald (q0 := 16) (t0 := 0) (n := 4000) (f := A 34) hJ rfl rfl (by decide) h0 h1 d k
theorem ms34 (hJ : Snd l R cc nL RX11 rt D [(cI, .int)] O (wM ad cI) post X J) {i x : Int} (h0 : 0 ≤ i) (h1 : i < 4000) (d : decode cc pc = .ok (.iastore, 1)) (k : J (pc + 1) lv st (I, va_up A 34 (zu (A 34) i x))) : J pc lv (.int (iZ x) :: .int (iZ i) :: .ref (ad 34) :: st) (I, A) := v_iast (q0 := 16) (t0 := 0) (n := 4000) (f := A 34) hJ rfl rfl (by decide) h0 h1 rfl d k
theorem ma35 (hJ : Snd l R cc nL RX11 rt D [(cI, .int)] O (wM ad cI) post X J) {i : Int} (h0 : 0 ≤ i) (h1 : i < 4000) (d : decode cc pc = .ok (.iaload, 1)) (k : J (pc + 1) lv (.int (iZ (A 35 i)) :: st) (I, A)) : J pc lv (.int (iZ i) :: .ref (ad 35) :: st) (I, A) := v_iald (q0 := 17) (t0 := 0) (n := 4000) (f := A 35) hJ rfl rfl (by decide) h0 h1 d k
theorem ms35 (hJ : Snd l R cc nL RX11 rt D [(cI, .int)] O (wM ad cI) post X J) {i x : Int} (h0 : 0 ≤ i) (h1 : i < 4000) (d : decode cc pc = .ok (.iastore, 1)) (k : J (pc + 1) lv st (I, va_up A 35 (zu (A 35) i x))) : J pc lv (.int (iZ x) :: .int (iZ i) :: .ref (ad 35) :: st) (I, A) := v_iast (q0 := 17) (t0 := 0) (n := 4000) (f := A 35) hJ rfl rfl (by decide) h0 h1 rfl d k
theorem ma38 (hJ : Snd l R cc nL RX11 rt D [(cI, .int)] O (wM ad cI) post X J) {i : Int} (h0 : 0 ≤ i) (h1 : i < 480) (d : decode cc pc = .ok (.iaload, 1)) (k : J (pc + 1) lv (.int (iZ (A 38 i)) :: st) (I, A)) : J pc lv (.int (iZ i) :: .ref (ad 38) :: st) (I, A) := v_iald (q0 := 18) (t0 := 0) (n := 480) (f := A 38) hJ rfl rfl (by decide) h0 h1 d k
theorem ms38 (hJ : Snd l R cc nL RX11 rt D [(cI, .int)] O (wM ad cI) post X J) {i x : Int} (h0 : 0 ≤ i) (h1 : i < 480) (d : decode cc pc = .ok (.iastore, 1)) (k : J (pc + 1) lv st (I, va_up A 38 (zu (A 38) i x))) : J pc lv (.int (iZ x) :: .int (iZ i) :: .ref (ad 38) :: st) (I, A) := v_iast (q0 := 18) (t0 := 0) (n := 480) (f := A 38) hJ rfl rfl (by decide) h0 h1 rfl d k
theorem ma39 (hJ : Snd l R cc nL RX11 rt D [(cI, .int)] O (wM ad cI) post X J) {i : Int} (h0 : 0 ≤ i) (h1 : i < 17280) (d : decode cc pc = .ok (.iaload, 1)) (k : J (pc + 1) lv (.int (iZ (A 39 i)) :: st) (I, A)) : J pc lv (.int (iZ i) :: .ref (ad 39) :: st) (I, A) := v_iald (q0 := 19) (t0 := 0) (n := 17280) (f := A 39) hJ rfl rfl (by decide) h0 h1 d k
theorem ms39 (hJ : Snd l R cc nL RX11 rt D [(cI, .int)] O (wM ad cI) post X J) {i x : Int} (h0 : 0 ≤ i) (h1 : i < 17280) (d : decode cc pc = .ok (.iastore, 1)) (k : J (pc + 1) lv st (I, va_up A 39 (zu (A 39) i x))) : J pc lv (.int (iZ x) :: .int (iZ i) :: .ref (ad 39) :: st) (I, A) := v_iast (q0 := 19) (t0 := 0) (n := 17280) (f := A 39) hJ rfl rfl (by decide) h0 h1 rfl d k
theorem ma40 (hJ : Snd l R cc nL RX11 rt D [(cI, .int)] O (wM ad cI) post X J) {i : Int} (h0 : 0 ≤ i) (h1 : i < 2880) (d : decode cc pc = .ok (.iaload, 1)) (k : J (pc + 1) lv (.int (iZ (A 40 i)) :: st) (I, A)) : J pc lv (.int (iZ i) :: .ref (ad 40) :: st) (I, A) := v_iald (q0 := 20) (t0 := 0) (n := 2880) (f := A 40) hJ rfl rfl (by decide) h0 h1 d k
theorem ms40 (hJ : Snd l R cc nL RX11 rt D [(cI, .int)] O (wM ad cI) post X J) {i x : Int} (h0 : 0 ≤ i) (h1 : i < 2880) (d : decode cc pc = .ok (.iastore, 1)) (k : J (pc + 1) lv st (I, va_up A 40 (zu (A 40) i x))) : J pc lv (.int (iZ x) :: .int (iZ i) :: .ref (ad 40) :: st) (I, A) := v_iast (q0 := 20) (t0 := 0) (n := 2880) (f := A 40) hJ rfl rfl (by decide) h0 h1 rfl d k
theorem ma41 (hJ : Snd l R cc nL RX11 rt D [(cI, .int)] O (wM ad cI) post X J) {i : Int} (h0 : 0 ≤ i) (h1 : i < 6) (d : decode cc pc = .ok (.iaload, 1)) (k : J (pc + 1) lv (.int (iZ (A 41 i)) :: st) (I, A)) : J pc lv (.int (iZ i) :: .ref (ad 41) :: st) (I, A) := v_iald (q0 := 21) (t0 := 0) (n := 6) (f := A 41) hJ rfl rfl (by decide) h0 h1 d k
theorem ms41 (hJ : Snd l R cc nL RX11 rt D [(cI, .int)] O (wM ad cI) post X J) {i x : Int} (h0 : 0 ≤ i) (h1 : i < 6) (d : decode cc pc = .ok (.iastore, 1)) (k : J (pc + 1) lv st (I, va_up A 41 (zu (A 41) i x))) : J pc lv (.int (iZ x) :: .int (iZ i) :: .ref (ad 41) :: st) (I, A) := v_iast (q0 := 21) (t0 := 0) (n := 6) (f := A 41) hJ rfl rfl (by decide) h0 h1 rfl d k
theorem ma42 (hJ : Snd l R cc nL RX11 rt D [(cI, .int)] O (wM ad cI) post X J) {i : Int} (h0 : 0 ≤ i) (h1 : i < 7) (d : decode cc pc = .ok (.iaload, 1)) (k : J (pc + 1) lv (.int (iZ (A 42 i)) :: st) (I, A)) : J pc lv (.int (iZ i) :: .ref (ad 42) :: st) (I, A) := v_iald (q0 := 22) (t0 := 0) (n := 7) (f := A 42) hJ rfl rfl (by decide) h0 h1 d k
theorem ms42 (hJ : Snd l R cc nL RX11 rt D [(cI, .int)] O (wM ad cI) post X J) {i x : Int} (h0 : 0 ≤ i) (h1 : i < 7) (d : decode cc pc = .ok (.iastore, 1)) (k : J (pc + 1) lv st (I, va_up A 42 (zu (A 42) i x))) : J pc lv (.int (iZ x) :: .int (iZ i) :: .ref (ad 42) :: st) (I, A) := v_iast (q0 := 22) (t0 := 0) (n := 7) (f := A 42) hJ rfl rfl (by decide) h0 h1 rfl d k
theorem ma43 (hJ : Snd l R cc nL RX11 rt D [(cI, .int)] O (wM ad cI) post X J) {i : Int} (h0 : 0 ≤ i) (h1 : i < 7) (d : decode cc pc = .ok (.iaload, 1)) (k : J (pc + 1) lv (.int (iZ (A 43 i)) :: st) (I, A)) : J pc lv (.int (iZ i) :: .ref (ad 43) :: st) (I, A) := v_iald (q0 := 23) (t0 := 0) (n := 7) (f := A 43) hJ rfl rfl (by decide) h0 h1 d k
theorem ms43 (hJ : Snd l R cc nL RX11 rt D [(cI, .int)] O (wM ad cI) post X J) {i x : Int} (h0 : 0 ≤ i) (h1 : i < 7) (d : decode cc pc = .ok (.iastore, 1)) (k : J (pc + 1) lv st (I, va_up A 43 (zu (A 43) i x))) : J pc lv (.int (iZ x) :: .int (iZ i) :: .ref (ad 43) :: st) (I, A) := v_iast (q0 := 23) (t0 := 0) (n := 7) (f := A 43) hJ rfl rfl (by decide) h0 h1 rfl d k
theorem ma44 (hJ : Snd l R cc nL RX11 rt D [(cI, .int)] O (wM ad cI) post X J) {i : Int} (h0 : 0 ≤ i) (h1 : i < 360) (d : decode cc pc = .ok (.iaload, 1)) (k : J (pc + 1) lv (.int (iZ (A 44 i)) :: st) (I, A)) : J pc lv (.int (iZ i) :: .ref (ad 44) :: st) (I, A) := v_iald (q0 := 24) (t0 := 0) (n := 360) (f := A 44) hJ rfl rfl (by decide) h0 h1 d k
theorem ms44 (hJ : Snd l R cc nL RX11 rt D [(cI, .int)] O (wM ad cI) post X J) {i x : Int} (h0 : 0 ≤ i) (h1 : i < 360) (d : decode cc pc = .ok (.iastore, 1)) (k : J (pc + 1) lv st (I, va_up A 44 (zu (A 44) i x))) : J pc lv (.int (iZ x) :: .int (iZ i) :: .ref (ad 44) :: st) (I, A) := v_iast (q0 := 24) (t0 := 0) (n := 360) (f := A 44) hJ rfl rfl (by decide) h0 h1 rfl d k
theorem wM_0 (u : sM) : ∃ fs, (wM ad cI u)[0]? = some (ad 0, .inr (8, fs)) := ⟨_, rfl⟩
end MROWS
end
section
abbrev rL (k : Nat) : Room := { frames := k, cells := 0, slots := 0, locals := 40 * k }
theorem rOk_L {a b n : Nat} (h : a < b) (hn : n ≤ 21) : rOk (rL a) (rL b) n := ⟨rfl, rfl, h, by show 8 + (n + 11) + 40 * a ≤ 40 * b; omega⟩
/-- the String constants that are read: the kinds' texts by their numbers, then the letters -/
def lenS : List Nat := [0, 1, 1, 2, 4, 3, 3, 4, 4, 1, 2, 4, 1, 4, 7]
def bytS : List (List Int32) := [[], [109], [55], [109, 55], [109, 97, 106, 55], [100, 105, 109], [97, 117, 103], [115, 117, 115, 52], [115, 117, 115, 50], [54], [109, 54], [100, 105, 109, 55], [57], [97, 100, 100, 57], [70, 67, 71, 68, 65, 69, 66]]
/-- the same as whole numbers -/
def txS (i : Nat) : List Int := [[], [109], [55], [109, 55], [109, 97, 106, 55], [100, 105, 109], [97, 117, 103], [115, 117, 115, 52], [115, 117, 115, 50], [54], [109, 54], [100, 105, 109, 55], [57], [97, 100, 100, 57], [70, 67, 71, 68, 65, 69, 66]].getD i []
theorem lenS_ok : ∀ i, i < 15 → lenS.getD i 0 = (txS i).length ∧ (txS i).length < 8 := by decide +kernel
theorem bytS_ok : ∀ i, i < 15 → ∀ k, k < (txS i).length → (bytS.getD i []).getD k 0 = iZ ((txS i).getD k 0) := by decide +kernel
theorem txS_in : ∀ i, i < 15 → ∀ k, k < (txS i).length → 0 < (txS i).getD k 0 ∧ (txS i).getD k 0 < 128 := by decide +kernel
/-- where they stand in the classes' tables: class, entry, text, which -/
def strT : List (String × Nat × String × Nat) := [("ChordMover$Kinds", 7, "m", 1), ("ChordMover$Kinds", 9, "7", 2), ("ChordMover$Kinds", 11, "m7", 3), ("ChordMover$Kinds", 13, "maj7", 4), ("ChordMover$Kinds", 15, "dim", 5), ("ChordMover$Kinds", 17, "aug", 6), ("ChordMover$Kinds", 19, "sus4", 7), ("ChordMover$Kinds", 21, "sus2", 8), ("ChordMover$Kinds", 23, "6", 9), ("ChordMover$Kinds", 25, "m6", 10), ("ChordMover$Kinds", 27, "dim7", 11), ("ChordMover$Kinds", 29, "9", 12), ("ChordMover$Kinds", 31, "add9", 13), ("ChordMover$Kinds", 33, "", 0), ("ChordMover$Notes", 15, "FCGDAEB", 14), ("ChordMoverModel", 99, "", 0), ("ChordMoverModel", 101, "m", 1), ("ChordMoverModel", 103, "7", 2), ("ChordMoverModel", 105, "m7", 3), ("ChordMoverModel", 107, "maj7", 4), ("ChordMoverModel", 109, "dim", 5), ("ChordMoverModel", 111, "aug", 6), ("ChordMoverModel", 113, "sus4", 7), ("ChordMoverModel", 115, "sus2", 8), ("ChordMoverModel", 117, "6", 9), ("ChordMoverModel", 119, "m6", 10), ("ChordMoverModel", 121, "dim7", 11), ("ChordMoverModel", 123, "9", 12), ("ChordMoverModel", 125, "add9", 13), ("ChordMoverModel", 229, "FCGDAEB", 14)]
def OG (O : OT) (adK adV : Nat → Nat) : Prop := OL O ∧ ∀ (A : Nat → Prop) (U : State) (H : Heap), O A U H → vk_S 15 lenS bytS adK adV A U H ∧ (∀ q ∈ strT, vk_R q.1 q.2.1 q.2.2.1 (adK q.2.2.2) U) ∧ va_Z "java/lang/String" "COMPACT_STRINGS" "Z" (.int (iZ 1)) A U H ∧ va_Zq "jdk/internal/util/Preconditions" "SIOOBE_FORMATTER" "Ljava/util/function/BiFunction;" A U H
abbrev MC (l : Launch) (D : va_G) (cI : ClassId) (ad : Nat → Nat) (O : OT) (y : MethodName) (cc : ByteArray) (n : Nat) (rt : Option FieldType) (lev : Nat) (as : List Value) (u : sM) (post : Option Value → sM → Prop) : Prop := Ct l y cc n rt (rL lev) D [(cI, .int)] O (wM ad cI) as u post
theorem lkJ0_335 : LkV RJ0 335 RJ0 yJ0_coder_7d493 cJ0_coder_7d493 1 (some .byte) 0 :=
  ⟨fun w hw => by
    rcases (show w = _ ∨ w = _ ∨ w = _ ∨ w = _ ∨ w = _ by simpa [wsV] using hw) with rfl | rfl | rfl | rfl | rfl
    · exact gw_of (List.mem_of_getElem? (i := 428) (by decide +kernel)) (by decide +kernel)
    · exact gw_of (List.mem_of_getElem? (i := 429) (by decide +kernel)) (by decide +kernel)
    · exact gw_of (List.mem_of_getElem? (i := 430) (by decide +kernel)) (by decide +kernel)
    · exact gw_of (List.mem_of_getElem? (i := 63) (by decide +kernel)) (by decide +kernel)
    · exact gw_of (List.mem_of_getElem? (i := 431) (by decide +kernel)) (by decide +kernel), rfl, by decide, by decide, by decide +kernel⟩
theorem lkJ0_492 : LkV RJ0 492 RJ0 yJ0_isLatin1_aae02 cJ0_isLatin1_aae02 1 (some .boolean) 0 :=
  ⟨fun w hw => by
    rcases (show w = _ ∨ w = _ ∨ w = _ ∨ w = _ ∨ w = _ by simpa [wsV] using hw) with rfl | rfl | rfl | rfl | rfl
    · exact gw_of (List.mem_of_getElem? (i := 370) (by decide +kernel)) (by decide +kernel)
    · exact gw_of (List.mem_of_getElem? (i := 371) (by decide +kernel)) (by decide +kernel)
    · exact gw_of (List.mem_of_getElem? (i := 372) (by decide +kernel)) (by decide +kernel)
    · exact gw_of (List.mem_of_getElem? (i := 63) (by decide +kernel)) (by decide +kernel)
    · exact gw_of (List.mem_of_getElem? (i := 373) (by decide +kernel)) (by decide +kernel), rfl, by decide, by decide, by decide +kernel⟩
theorem lkJ0_495 : LkS RJ0 495 yJ1_charAt_3b067 cJ1_charAt_3b067 2 (some .char) 2 :=
  ⟨fun w hw => by
    rcases (show w = _ ∨ w = _ ∨ w = _ ∨ w = _ by simpa [va_wsS] using hw) with rfl | rfl | rfl | rfl
    · exact gw_of (List.mem_of_getElem? (i := 376) (by decide +kernel)) (by decide +kernel)
    · exact gw_of (List.mem_of_getElem? (i := 377) (by decide +kernel)) (by decide +kernel)
    · exact gw_of (List.mem_of_getElem? (i := 64) (by decide +kernel)) (by decide +kernel)
    · exact gw_of (List.mem_of_getElem? (i := 378) (by decide +kernel)) (by decide +kernel), by decide, by decide, by decide +kernel⟩
theorem lkJ0_498 : LkS RJ0 498 yJ2_charAt_3b067 cJ2_charAt_3b067 2 (some .char) 2 :=
  ⟨fun w hw => by
    rcases (show w = _ ∨ w = _ ∨ w = _ ∨ w = _ by simpa [va_wsS] using hw) with rfl | rfl | rfl | rfl
    · exact gw_of (List.mem_of_getElem? (i := 387) (by decide +kernel)) (by decide +kernel)
    · exact gw_of (List.mem_of_getElem? (i := 388) (by decide +kernel)) (by decide +kernel)
    · exact gw_of (List.mem_of_getElem? (i := 65) (by decide +kernel)) (by decide +kernel)
    · exact gw_of (List.mem_of_getElem? (i := 389) (by decide +kernel)) (by decide +kernel), by decide, by decide, by decide +kernel⟩
theorem lkJ0_505 : LkV RJ0 505 RJ0 yJ0_length_8abf5 cJ0_length_8abf5 1 (some .int) 0 :=
  ⟨fun w hw => by
    rcases (show w = _ ∨ w = _ ∨ w = _ ∨ w = _ ∨ w = _ by simpa [wsV] using hw) with rfl | rfl | rfl | rfl | rfl
    · exact gw_of (List.mem_of_getElem? (i := 694) (by decide +kernel)) (by decide +kernel)
    · exact gw_of (List.mem_of_getElem? (i := 425) (by decide +kernel)) (by decide +kernel)
    · exact gw_of (List.mem_of_getElem? (i := 426) (by decide +kernel)) (by decide +kernel)
    · exact gw_of (List.mem_of_getElem? (i := 63) (by decide +kernel)) (by decide +kernel)
    · exact gw_of (List.mem_of_getElem? (i := 427) (by decide +kernel)) (by decide +kernel), rfl, by decide, by decide, by decide +kernel⟩
theorem lkJ0_633 : LkV RJ0 633 RJ0 yJ0_indexOf_7cf53 cJ0_indexOf_7cf53 3 (some .int) 2 :=
  ⟨fun w hw => by
    rcases (show w = _ ∨ w = _ ∨ w = _ ∨ w = _ ∨ w = _ by simpa [wsV] using hw) with rfl | rfl | rfl | rfl | rfl
    · exact gw_of (List.mem_of_getElem? (i := 690) (by decide +kernel)) (by decide +kernel)
    · exact gw_of (List.mem_of_getElem? (i := 691) (by decide +kernel)) (by decide +kernel)
    · exact gw_of (List.mem_of_getElem? (i := 692) (by decide +kernel)) (by decide +kernel)
    · exact gw_of (List.mem_of_getElem? (i := 63) (by decide +kernel)) (by decide +kernel)
    · exact gw_of (List.mem_of_getElem? (i := 693) (by decide +kernel)) (by decide +kernel), rfl, by decide, by decide, by decide +kernel⟩
theorem lkJ0_637 : LkS RJ0 637 yJ1_indexOf_4cfef cJ1_indexOf_4cfef 4 (some .int) 4 :=
  ⟨fun w hw => by
    rcases (show w = _ ∨ w = _ ∨ w = _ ∨ w = _ by simpa [va_wsS] using hw) with rfl | rfl | rfl | rfl
    · exact gw_of (List.mem_of_getElem? (i := 695) (by decide +kernel)) (by decide +kernel)
    · exact gw_of (List.mem_of_getElem? (i := 696) (by decide +kernel)) (by decide +kernel)
    · exact gw_of (List.mem_of_getElem? (i := 64) (by decide +kernel)) (by decide +kernel)
    · exact gw_of (List.mem_of_getElem? (i := 697) (by decide +kernel)) (by decide +kernel), by decide, by decide, by decide +kernel⟩
theorem lkJ0_640 : LkS RJ0 640 yJ2_indexOf_4cfef cJ2_indexOf_4cfef 4 (some .int) 4 :=
  ⟨fun w hw => by
    rcases (show w = _ ∨ w = _ ∨ w = _ ∨ w = _ by simpa [va_wsS] using hw) with rfl | rfl | rfl | rfl
    · exact gw_of (List.mem_of_getElem? (i := 706) (by decide +kernel)) (by decide +kernel)
    · exact gw_of (List.mem_of_getElem? (i := 707) (by decide +kernel)) (by decide +kernel)
    · exact gw_of (List.mem_of_getElem? (i := 65) (by decide +kernel)) (by decide +kernel)
    · exact gw_of (List.mem_of_getElem? (i := 708) (by decide +kernel)) (by decide +kernel), by decide, by decide, by decide +kernel⟩
theorem lkJ0_1059 : LkS RJ0 1059 yJ3_checkIndex_8e157 cJ3_checkIndex_8e157 3 (some .int) 3 :=
  ⟨fun w hw => by
    rcases (show w = _ ∨ w = _ ∨ w = _ ∨ w = _ by simpa [va_wsS] using hw) with rfl | rfl | rfl | rfl
    · exact gw_of (List.mem_of_getElem? (i := 384) (by decide +kernel)) (by decide +kernel)
    · exact gw_of (List.mem_of_getElem? (i := 385) (by decide +kernel)) (by decide +kernel)
    · exact gw_of (List.mem_of_getElem? (i := 66) (by decide +kernel)) (by decide +kernel)
    · exact gw_of (List.mem_of_getElem? (i := 386) (by decide +kernel)) (by decide +kernel), by decide, by decide, by decide +kernel⟩
theorem lkJ0_1062 : LkS RJ0 1062 yJ3_checkFromToIndex_8c36e cJ3_checkFromToIndex_8c36e 4 (some .int) 4 :=
  ⟨fun w hw => by
    rcases (show w = _ ∨ w = _ ∨ w = _ ∨ w = _ by simpa [va_wsS] using hw) with rfl | rfl | rfl | rfl
    · exact gw_of (List.mem_of_getElem? (i := 721) (by decide +kernel)) (by decide +kernel)
    · exact gw_of (List.mem_of_getElem? (i := 722) (by decide +kernel)) (by decide +kernel)
    · exact gw_of (List.mem_of_getElem? (i := 66) (by decide +kernel)) (by decide +kernel)
    · exact gw_of (List.mem_of_getElem? (i := 723) (by decide +kernel)) (by decide +kernel), by decide, by decide, by decide +kernel⟩
theorem lkJ1_9 : LkS RJ1 9 yJ0_checkIndex_df160 cJ0_checkIndex_df160 2 none 2 :=
  ⟨fun w hw => by
    rcases (show w = _ ∨ w = _ ∨ w = _ ∨ w = _ by simpa [va_wsS] using hw) with rfl | rfl | rfl | rfl
    · exact gw_of (List.mem_of_getElem? (i := 379) (by decide +kernel)) (by decide +kernel)
    · exact gw_of (List.mem_of_getElem? (i := 380) (by decide +kernel)) (by decide +kernel)
    · exact gw_of (List.mem_of_getElem? (i := 63) (by decide +kernel)) (by decide +kernel)
    · exact gw_of (List.mem_of_getElem? (i := 381) (by decide +kernel)) (by decide +kernel), by decide, by decide, by decide +kernel⟩
theorem lkJ1_38 : LkS RJ1 38 yJ9_min_7cf53 cJ9_min_7cf53 2 (some .int) 2 :=
  ⟨fun w hw => by
    rcases (show w = _ ∨ w = _ ∨ w = _ ∨ w = _ by simpa [va_wsS] using hw) with rfl | rfl | rfl | rfl
    · exact gw_of (List.mem_of_getElem? (i := 702) (by decide +kernel)) (by decide +kernel)
    · exact gw_of (List.mem_of_getElem? (i := 657) (by decide +kernel)) (by decide +kernel)
    · exact gw_of (List.mem_of_getElem? (i := 61) (by decide +kernel)) (by decide +kernel)
    · exact gw_of (List.mem_of_getElem? (i := 658) (by decide +kernel)) (by decide +kernel), by decide, by decide, by decide +kernel⟩
theorem lkJ1_88 : LkS RJ1 88 yJ1_canEncode_9a6ad cJ1_canEncode_9a6ad 1 (some .boolean) 1 :=
  ⟨fun w hw => by
    rcases (show w = _ ∨ w = _ ∨ w = _ ∨ w = _ by simpa [va_wsS] using hw) with rfl | rfl | rfl | rfl
    · exact gw_of (List.mem_of_getElem? (i := 698) (by decide +kernel)) (by decide +kernel)
    · exact gw_of (List.mem_of_getElem? (i := 699) (by decide +kernel)) (by decide +kernel)
    · exact gw_of (List.mem_of_getElem? (i := 64) (by decide +kernel)) (by decide +kernel)
    · exact gw_of (List.mem_of_getElem? (i := 700) (by decide +kernel)) (by decide +kernel), by decide, by decide, by decide +kernel⟩
theorem lkJ1_92 : LkS RJ1 92 yJ9_max_7cf53 cJ9_max_7cf53 2 (some .int) 2 :=
  ⟨fun w hw => by
    rcases (show w = _ ∨ w = _ ∨ w = _ ∨ w = _ by simpa [va_wsS] using hw) with rfl | rfl | rfl | rfl
    · exact gw_of (List.mem_of_getElem? (i := 701) (by decide +kernel)) (by decide +kernel)
    · exact gw_of (List.mem_of_getElem? (i := 338) (by decide +kernel)) (by decide +kernel)
    · exact gw_of (List.mem_of_getElem? (i := 61) (by decide +kernel)) (by decide +kernel)
    · exact gw_of (List.mem_of_getElem? (i := 339) (by decide +kernel)) (by decide +kernel), by decide, by decide, by decide +kernel⟩
theorem lkJ1_95 : LkS RJ1 95 yJ1_indexOfChar_4cfef cJ1_indexOfChar_4cfef 6 (some .int) 4 :=
  ⟨fun w hw => by
    rcases (show w = _ ∨ w = _ ∨ w = _ ∨ w = _ by simpa [va_wsS] using hw) with rfl | rfl | rfl | rfl
    · exact gw_of (List.mem_of_getElem? (i := 703) (by decide +kernel)) (by decide +kernel)
    · exact gw_of (List.mem_of_getElem? (i := 704) (by decide +kernel)) (by decide +kernel)
    · exact gw_of (List.mem_of_getElem? (i := 64) (by decide +kernel)) (by decide +kernel)
    · exact gw_of (List.mem_of_getElem? (i := 705) (by decide +kernel)) (by decide +kernel), by decide, by decide, by decide +kernel⟩
theorem kJ0_9 : Cond.fieldLink RJ0 9 "java/lang/String" "value" "[B" ∈ gw := gw_of (List.mem_of_getElem? (i := 1267) (by decide +kernel)) (by decide +kernel)
theorem kJ0_15 : Cond.fieldLink RJ0 15 "java/lang/String" "coder" "B" ∈ gw := gw_of (List.mem_of_getElem? (i := 1266) (by decide +kernel)) (by decide +kernel)
theorem kJ0_38 : Cond.fieldLink RJ0 38 "java/lang/String" "COMPACT_STRINGS" "Z" ∈ gw := gw_of (List.mem_of_getElem? (i := 374) (by decide +kernel)) (by decide +kernel)
theorem kJ0_1053 : Cond.fieldLink RJ0 1053 "jdk/internal/util/Preconditions" "SIOOBE_FORMATTER" "Ljava/util/function/BiFunction;" ∈ gw := gw_of (List.mem_of_getElem? (i := 382) (by decide +kernel)) (by decide +kernel)
theorem k_const_X11_271 : Cond.constant RX11 271 (iZ 1000000000) ∈ gw := gw_of (List.mem_of_getElem? (i := 1207) (by decide +kernel)) (by decide +kernel)
theorem k_const_J6_265 : Cond.constant RJ6 265 (iZ 1431655765) ∈ gw := gw_of (List.mem_of_getElem? (i := 496) (by decide +kernel)) (by decide +kernel)
theorem k_const_J6_266 : Cond.constant RJ6 266 (iZ 858993459) ∈ gw := gw_of (List.mem_of_getElem? (i := 497) (by decide +kernel)) (by decide +kernel)
theorem k_const_J6_267 : Cond.constant RJ6 267 (iZ 252645135) ∈ gw := gw_of (List.mem_of_getElem? (i := 498) (by decide +kernel)) (by decide +kernel)
section SROWS
variable {σ : Type} {l : Launch} {R : Room} {cc : ByteArray} {nL : Nat} {own : String} {rt : Option FieldType} {D : va_G} {tys : List (ClassId × FieldType)} {O : OT} {wld : σ → va_W} {post : Option Value → σ → Prop} {X : CtxT} {J : KT σ} {adK adV : Nat → Nat}
variable {pc : Nat} {lv : List (Option Value)} {st : List Value} {u : σ}
theorem v_ldcS (hJ : Snd l R cc nL own rt D tys O wld post X J) (hG : OG O adK adV) {idx i : Nat} {tx : String} (hm : (own, idx, tx, i) ∈ strT) (d : decode cc pc = .ok (.ldc idx, 2)) (k : J (pc + 2) lv (.ref (adK i) :: st) u) : J pc lv st u := by
  obtain ⟨p, e, s, m, args, below, meth, c, A, Q⟩ := X
  obtain ⟨hx, hb, hml, hown, hts, hr, hlk, hK, hA, hOL, hO, hQ, hW⟩ := hJ
  refine (hW _ _ _ _).mpr (fun H locs ls hP hD hS hl => ?_)
  exact va_ldcS (tx := tx) hx hb hown ((hG.2 A s s.heap hO).2.1 _ hm) d ((hW _ _ _ _).mp k H locs ls hP hD hS hl)
theorem v_ldcwK (hJ : Snd l R cc nL own rt D tys O wld post X J) {n : Int} {index : Nat} (d : decode cc pc = .ok (.ldc_w index, 3)) (hc : Cond.constant own index (iZ n) ∈ gw) (k : J (pc + 3) lv (.int (iZ n) :: st) u) : J pc lv st u := by
  obtain ⟨p, e, s, m, args, below, meth, c, A, Q⟩ := X
  obtain ⟨hx, hb, hml, hown, hts, hr, hlk, hK, hA, hOL, hO, hQ, hW⟩ := hJ
  refine (hW _ _ _ _).mpr (fun H locs ls hP hD hS hl => ?_)
  exact lv_ldcw hx hb hown (hts _ hc) d ((hW _ _ _ _).mp k H locs ls hP hD hS hl)
theorem v_gets (hJ : Snd l R cc nL own rt D tys O wld post X J) {C n ds : String} {v : Value} {idx : Nat} (hz : ∀ (A : Nat → Prop) (U : State) (H : Heap), O A U H → va_Z C n ds v A U H) (hlink : Cond.fieldLink own idx C n ds ∈ gw) (d : decode cc pc = .ok (.getstatic idx, 3)) (k : J (pc + 3) lv (v :: st) u) : J pc lv st u := by
  obtain ⟨p, e, s, m, args, below, meth, c, A, Q⟩ := X
  obtain ⟨hx, hb, hml, hown, hts, hr, hlk, hK, hA, hOL, hO, hQ, hW⟩ := hJ
  refine (hW _ _ _ _).mpr (fun H locs ls hP hD hS hl => ?_)
  exact va_gets hx hb (hz A s s.heap hO) hS hown (hts _ hlink) (fun _ h => h) d ((hW _ _ _ _).mp k H locs ls hP hD hS hl)
theorem v_getsq (hJ : Snd l R cc nL own rt D tys O wld post X J) {C n ds : String} {idx : Nat} (hz : ∀ (A : Nat → Prop) (U : State) (H : Heap), O A U H → va_Zq C n ds A U H) (hlink : Cond.fieldLink own idx C n ds ∈ gw) (d : decode cc pc = .ok (.getstatic idx, 3)) (k : ∀ v : Value, v.category = 1 → J (pc + 3) lv (v :: st) u) : J pc lv st u := by
  obtain ⟨p, e, s, m, args, below, meth, c, A, Q⟩ := X
  obtain ⟨hx, hb, hml, hown, hts, hr, hlk, hK, hA, hOL, hO, hQ, hW⟩ := hJ
  refine (hW _ _ _ _).mpr (fun H locs ls hP hD hS hl => ?_)
  rcases hz A s s.heap hO with h | ⟨t, h⟩
  · exact va_gets hx hb h hS hown (hts _ hlink) (fun _ h => h) d ((hW _ _ _ _).mp (k .null rfl) H locs ls hP hD hS hl)
  · exact va_gets hx hb h hS hown (hts _ hlink) (fun _ h => h) d ((hW _ _ _ _).mp (k (.ref t) rfl) H locs ls hP hD hS hl)
theorem v_strV (hJ : Snd l R cc nL own rt D tys O wld post X J) (hG : OG O adK adV) {idx i : Nat} (hi : i < 15) (hlink : Cond.fieldLink own idx "java/lang/String" "value" "[B" ∈ gw) (d : decode cc pc = .ok (.getfield idx, 3)) (k : J (pc + 3) lv (.ref (adV i) :: st) u) : J pc lv (.ref (adK i) :: st) u := by
  obtain ⟨p, e, s, m, args, below, meth, c, A, Q⟩ := X
  obtain ⟨hx, hb, hml, hown, hts, hr, hlk, hK, hA, hOL, hO, hQ, hW⟩ := hJ
  refine (hW _ _ _ _).mpr (fun H locs ls hP hD hS hl => ?_)
  exact vk_getf hx hb ((hG.2 A s s.heap hO).1.1 i hi).2.2.1 hS hown (hts _ hlink) (fun _ h => h) d ((hW _ _ _ _).mp k H locs ls hP hD hS hl)
theorem v_strC (hJ : Snd l R cc nL own rt D tys O wld post X J) (hG : OG O adK adV) {idx i : Nat} (hi : i < 15) (hlink : Cond.fieldLink own idx "java/lang/String" "coder" "B" ∈ gw) (d : decode cc pc = .ok (.getfield idx, 3)) (k : J (pc + 3) lv (.int (iZ 0) :: st) u) : J pc lv (.ref (adK i) :: st) u := by
  obtain ⟨p, e, s, m, args, below, meth, c, A, Q⟩ := X
  obtain ⟨hx, hb, hml, hown, hts, hr, hlk, hK, hA, hOL, hO, hQ, hW⟩ := hJ
  refine (hW _ _ _ _).mpr (fun H locs ls hP hD hS hl => ?_)
  exact vk_getf hx hb ((hG.2 A s s.heap hO).1.1 i hi).2.1 hS hown (hts _ hlink) (fun _ h => h) d ((hW _ _ _ _).mp k H locs ls hP hD hS hl)
theorem v_strL (hJ : Snd l R cc nL own rt D tys O wld post X J) (hG : OG O adK adV) {i : Nat} (hi : i < 15) (d : decode cc pc = .ok (.arraylength, 1)) (k : J (pc + 1) lv (.int (iZ ((txS i).length : Int)) :: st) u) : J pc lv (.ref (adV i) :: st) u := by
  obtain ⟨p, e, s, m, args, below, meth, c, A, Q⟩ := X
  obtain ⟨hx, hb, hml, hown, hts, hr, hlk, hK, hA, hOL, hO, hQ, hW⟩ := hJ
  refine (hW _ _ _ _).mpr (fun H locs ls hP hD hS hl => ?_)
  exact va_tlen hx hb ((hG.2 A s s.heap hO).1.1 i hi).2.2.2 hS (show Int32.ofNat (lenS.getD i 0) = iZ ((txS i).length : Int) by rw [(lenS_ok i hi).1]; exact Int32.ofInt_eq_ofNat.symm) d ((hW _ _ _ _).mp k H locs ls hP hD hS hl)
theorem v_strB (hJ : Snd l R cc nL own rt D tys O wld post X J) (hG : OG O adK adV) {i j : Nat} (hi : i < 15) (hj : j < (txS i).length) (d : decode cc pc = .ok (.baload, 1)) (k : J (pc + 1) lv (.int (iZ ((txS i).getD j 0)) :: st) u) : J pc lv (.int (iZ (j : Int)) :: .ref (adV i) :: st) u := by
  obtain ⟨p, e, s, m, args, below, meth, c, A, Q⟩ := X
  obtain ⟨hx, hb, hml, hown, hts, hr, hlk, hK, hA, hOL, hO, hQ, hW⟩ := hJ
  refine (hW _ _ _ _).mpr (fun H locs ls hP hD hS hl => ?_)
  have hl8 := lenS_ok i hi
  refine va_tb hx hb ((hG.2 A s s.heap hO).1.1 i hi).2.2.2 hS (iZ_in (by omega) (by rw [hl8.1]; omega) (by rw [hl8.1]; omega)) (v := .int (iZ ((txS i).getD j 0))) ?_ d ((hW _ _ _ _).mp k H locs ls hP hD hS hl)
  rw [iZ_clamp (show inR (j : Int) from ⟨by omega, by omega⟩)]
  show Value.int _ = _
  rw [Int.toNat_natCast, bytS_ok i hi j hj]
theorem v_callT (hJ : Snd l R cc nL own rt D tys O wld post X J) (hG : OG O adK adV) {idx kn n2 i : Nat} {y : MethodName} {cc2 : ByteArray} {rt2 : Option FieldType} {rm : Room} {As st0 : List Value} {post2 : Option Value → σ → Prop} (hi : i < 15) (lk : LkV own idx "java/lang/String" y cc2 n2 rt2 kn) (hM : Ct l y cc2 n2 rt2 rm D tys O wld (.ref (adK i) :: As) u post2) (hkn : As.length = kn) (hst : st0 = As.reverse ++ .ref (adK i) :: st) (hroom : (st.map fun v => v.category).sum ≤ 8) (hrm : rOk rm R n2) (d : decode cc pc = .ok (.invokevirtual idx, 3)) (kk : ∀ (v : Option Value) (u2 : σ), post2 v u2 → J (pc + 3) lv (v.toList ++ st) u2) : J pc lv st0 u := by
  obtain ⟨p, e, s, m, args, below, meth, c, A, Q⟩ := X
  obtain ⟨hx, hb, hml, hown, hts, hr, hlk, hK, hA, hOL, hO, hQ, hW⟩ := hJ
  refine (hW _ _ _ _).mpr (fun H locs ls hP hD hS hl => ?_)
  have hF : ∀ q, va_A (wld u) H.size q → A q := by
    rintro q (⟨k9, e9, h9⟩ | h9)
    · exact hD.2 k9 _ h9
    · exact hA q (Nat.le_trans hS.1 h9)
  refine va_goon (D := D) (tys := tys) (wld := wld) (A1 := va_A (wld u) H.size) (va_runV (As := As) (rest := st) (Ts := gw) (own := own) (b := adK i) ⟨hx, hb, hml, hown, hts⟩ (hM H.size) (cwV kn hts (lk_good lk.1) rfl hrm.1 hrm.2.1 lk.2 hrm.2.2) ⟨ct_blind hOL _, vk_recv (hG.2 A s s.heap hO).1 hi hS, ct_pre (p := p) (e := e) (m := m) (args := args) (below := below) hK hOL hO hP hD hS hF _⟩ rfl hkn hl.1 hst (lv_room hroom) d ⟨Nat.zero_le _, Nat.zero_le _⟩) hS hF hF (fun v u2 H1 locs1 hp hP1 hD1 hS1 => (hW _ _ _ _).mp (kk v u2 hp) H1 locs1 ls hP1 hD1 hS1 hl)
theorem v_cT0i (hJ : Snd l R cc nL own rt D tys O wld post X J) (hG : OG O adK adV) {idx n2 i : Nat} {y : MethodName} {cc2 : ByteArray} {rt2 : Option FieldType} {rm : Room} {P : Int → σ → Prop} (hi : i < 15) (lk : LkV own idx "java/lang/String" y cc2 n2 rt2 0) (hM : Ct l y cc2 n2 rt2 rm D tys O wld [.ref (adK i)] u (pI P)) (hroom : (st.map fun v => v.category).sum ≤ 8) (hrm : rOk rm R n2) (d : decode cc pc = .ok (.invokevirtual idx, 3)) (kk : ∀ (r : Int) (u2 : σ), P r u2 → J (pc + 3) lv (.int (iZ r) :: st) u2) : J pc lv (.ref (adK i) :: st) u :=
  v_callT (As := []) hJ hG hi lk hM rfl rfl hroom hrm d (fun v u2 h => by obtain ⟨r, rfl, h2⟩ := h; exact kk r u2 h2)
theorem v_cT1i (hJ : Snd l R cc nL own rt D tys O wld post X J) (hG : OG O adK adV) {idx n2 i : Nat} {y : MethodName} {cc2 : ByteArray} {rt2 : Option FieldType} {rm : Room} {v1 : Value} {P : Int → σ → Prop} (hi : i < 15) (lk : LkV own idx "java/lang/String" y cc2 n2 rt2 1) (hM : Ct l y cc2 n2 rt2 rm D tys O wld [.ref (adK i), v1] u (pI P)) (hroom : (st.map fun v => v.category).sum ≤ 8) (hrm : rOk rm R n2) (d : decode cc pc = .ok (.invokevirtual idx, 3)) (kk : ∀ (r : Int) (u2 : σ), P r u2 → J (pc + 3) lv (.int (iZ r) :: st) u2) : J pc lv (v1 :: .ref (adK i) :: st) u :=
  v_callT (As := [v1]) hJ hG hi lk hM rfl rfl hroom hrm d (fun v u2 h => by obtain ⟨r, rfl, h2⟩ := h; exact kk r u2 h2)
end SROWS
set_option maxHeartbeats 4000000 in
set_option maxRecDepth 100000 in
theorem qJ3_checkIndex_8e157 {σ : Type} {l : Launch} {D : va_G} {tys : List (ClassId × FieldType)} {O : OT} {wld : σ → va_W} {adK adV : Nat → Nat} (hO : OG O adK adV) {u : σ} {a b : Int} {v : Value} (hv : v.category = 1) (ha : 0 ≤ a ∧ a < b) (hb : b < 1000) : Ct l yJ3_checkIndex_8e157 cJ3_checkIndex_8e157 3 (some .int) (rL 1) D tys O wld [.int (iZ a), .int (iZ b), v] u (pI fun r u2 => r = a ∧ u2 = u) := by
  refine ct_intro (own := RJ3) (by decide) rfl hO.1 (Nat.le_of_ble_eq_true rfl) (by intro w9 h9; simp at h9; rcases h9 with rfl | rfl | rfl <;> first | rfl | exact hv) (fun X J hJ => ?_)
  show J 0 [some (.int (iZ a)), some (.int (iZ b)), some (v)] [] u
  refine v_ild0 (pc := 0) hJ dJ3_checkIndex_8e157_0 ?_
  refine v_if_lt (tgt := 9) (pc := 1) hJ dJ3_checkIndex_8e157_1 (by decide) (by omega) (fun h1 => ?_) (fun h1 => ?_)
  · omega
  · refine v_ild0 (pc := 4) hJ dJ3_checkIndex_8e157_4 ?_
    refine v_ild1 (pc := 5) hJ dJ3_checkIndex_8e157_5 ?_
    refine v_icmp_lt (tgt := 16) (pc := 6) hJ dJ3_checkIndex_8e157_6 (by decide) (by omega) (by omega) (fun h6 => ?_) (fun h6 => ?_)
    · refine v_ild0 (pc := 16) hJ dJ3_checkIndex_8e157_16 ?_
      refine v_iret (pc := 17) hJ dJ3_checkIndex_8e157_17 ⟨_, rfl, ?_⟩
      exact ⟨rfl, rfl⟩
    · omega
set_option maxHeartbeats 4000000 in
set_option maxRecDepth 100000 in
theorem qJ0_checkIndex_df160 {σ : Type} {l : Launch} {D : va_G} {tys : List (ClassId × FieldType)} {O : OT} {wld : σ → va_W} {adK adV : Nat → Nat} (hO : OG O adK adV) {u : σ} {a b : Int} (ha : 0 ≤ a ∧ a < b) (hb : b < 1000) : Ct l yJ0_checkIndex_df160 cJ0_checkIndex_df160 2 none (rL 2) D tys O wld [.int (iZ a), .int (iZ b)] u (pV fun u2 => u2 = u) := by
  refine ct_intro (own := RJ0) (by decide) rfl hO.1 (Nat.le_of_ble_eq_true rfl) (by simp [Value.category]) (fun X J hJ => ?_)
  show J 0 [some (.int (iZ a)), some (.int (iZ b))] [] u
  refine v_ild0 (pc := 0) hJ dJ0_checkIndex_df160_0 ?_
  refine v_ild1 (pc := 1) hJ dJ0_checkIndex_df160_1 ?_
  refine v_getsq (pc := 2) hJ (fun A U H h => (hO.2 A U H h).2.2.2) kJ0_1053 dJ0_checkIndex_df160_2 (fun v9 hv9 => ?_)
  refine v_cS3i (pc := 5) hJ lkJ0_1059 (qJ3_checkIndex_8e157 hO hv9 ha hb) (Nat.le_of_ble_eq_true rfl) (rOk_L (by decide) (by decide)) dJ0_checkIndex_df160_5 (fun r5 u5 g5 => ?_)
  obtain ⟨rfl, rfl⟩ := g5
  refine v_pop (pc := 8) hJ dJ0_checkIndex_df160_8 rfl ?_
  refine v_vret (pc := 9) hJ dJ0_checkIndex_df160_9 ⟨rfl, ?_⟩
  rfl
set_option maxHeartbeats 4000000 in
set_option maxRecDepth 100000 in
theorem qJ0_coder_7d493 {σ : Type} {l : Launch} {D : va_G} {tys : List (ClassId × FieldType)} {O : OT} {wld : σ → va_W} {adK adV : Nat → Nat} (hO : OG O adK adV) {u : σ} {i : Nat} (hi : i < 15) : Ct l yJ0_coder_7d493 cJ0_coder_7d493 1 (some .byte) (rL 1) D tys O wld [.ref (adK i)] u (pI fun r u2 => r = 0 ∧ u2 = u) := by
  refine ct_intro (own := RJ0) (by decide) rfl hO.1 (Nat.le_of_ble_eq_true rfl) (by simp [Value.category]) (fun X J hJ => ?_)
  show J 0 [some (.ref (adK i))] [] u
  refine v_gets (pc := 0) (v := .int (iZ 1)) hJ (fun A U H h => (hO.2 A U H h).2.2.1) kJ0_38 dJ0_coder_7d493_0 ?_
  refine v_if_eq (tgt := 13) (pc := 3) hJ dJ0_coder_7d493_3 (by decide) (by decide) (fun h => by first | exact absurd h (by decide) | exact absurd (by decide) h) (fun _ => ?_)
  refine v_ald0 (pc := 6) hJ dJ0_coder_7d493_6 ?_
  refine v_strC (pc := 7) hJ hO hi kJ0_15 dJ0_coder_7d493_7 ?_
  refine v_goto (tgt := 14) (pc := 10) hJ dJ0_coder_7d493_10 (by decide) ?_
  refine v_zret (pc := 14) hJ rfl dJ0_coder_7d493_14 ⟨_, rfl, ?_⟩
  exact ⟨rfl, rfl⟩
set_option maxHeartbeats 4000000 in
set_option maxRecDepth 100000 in
theorem qJ0_isLatin1_aae02 {σ : Type} {l : Launch} {D : va_G} {tys : List (ClassId × FieldType)} {O : OT} {wld : σ → va_W} {adK adV : Nat → Nat} (hO : OG O adK adV) {u : σ} {i : Nat} (hi : i < 15) : Ct l yJ0_isLatin1_aae02 cJ0_isLatin1_aae02 1 (some .boolean) (rL 1) D tys O wld [.ref (adK i)] u (pI fun r u2 => r = 1 ∧ u2 = u) := by
  refine ct_intro (own := RJ0) (by decide) rfl hO.1 (Nat.le_of_ble_eq_true rfl) (by simp [Value.category]) (fun X J hJ => ?_)
  show J 0 [some (.ref (adK i))] [] u
  refine v_gets (pc := 0) (v := .int (iZ 1)) hJ (fun A U H h => (hO.2 A U H h).2.2.1) kJ0_38 dJ0_isLatin1_aae02_0 ?_
  refine v_if_eq (tgt := 17) (pc := 3) hJ dJ0_isLatin1_aae02_3 (by decide) (by decide) (fun h => by first | exact absurd h (by decide) | exact absurd (by decide) h) (fun _ => ?_)
  refine v_ald0 (pc := 6) hJ dJ0_isLatin1_aae02_6 ?_
  refine v_strC (pc := 7) hJ hO hi kJ0_15 dJ0_isLatin1_aae02_7 ?_
  refine v_if_ne (tgt := 17) (pc := 10) hJ dJ0_isLatin1_aae02_10 (by decide) (by decide) (fun h => by first | exact absurd h (by decide) | exact absurd (by decide) h) (fun _ => ?_)
  refine v_iconst (pc := 13) hJ dJ0_isLatin1_aae02_13 ?_
  refine v_goto (tgt := 18) (pc := 14) hJ dJ0_isLatin1_aae02_14 (by decide) ?_
  refine v_zret (pc := 18) hJ rfl dJ0_isLatin1_aae02_18 ⟨_, rfl, ?_⟩
  exact ⟨rfl, rfl⟩
set_option maxHeartbeats 4000000 in
set_option maxRecDepth 100000 in
theorem qJ0_length_8abf5 {σ : Type} {l : Launch} {D : va_G} {tys : List (ClassId × FieldType)} {O : OT} {wld : σ → va_W} {adK adV : Nat → Nat} (hO : OG O adK adV) {u : σ} {i : Nat} (hi : i < 15) : Ct l yJ0_length_8abf5 cJ0_length_8abf5 1 (some .int) (rL 2) D tys O wld [.ref (adK i)] u (pI fun r u2 => r = ((txS i).length : Int) ∧ u2 = u) := by
  refine ct_intro (own := RJ0) (by decide) rfl hO.1 (Nat.le_of_ble_eq_true rfl) (by simp [Value.category]) (fun X J hJ => ?_)
  show J 0 [some (.ref (adK i))] [] u
  refine v_ald0 (pc := 0) hJ dJ0_length_8abf5_0 ?_
  refine v_strV (pc := 1) hJ hO hi kJ0_9 dJ0_length_8abf5_1 ?_
  refine v_strL (pc := 4) hJ hO hi dJ0_length_8abf5_4 ?_
  refine v_ald0 (pc := 5) hJ dJ0_length_8abf5_5 ?_
  refine v_cT0i (pc := 6) hJ hO hi lkJ0_335 (qJ0_coder_7d493 hO hi) (Nat.le_of_ble_eq_true rfl) (rOk_L (by decide) (by decide)) dJ0_length_8abf5_6 (fun r6 u6 g6 => ?_)
  obtain ⟨rfl, rfl⟩ := g6
  refine v_ishr (pc := 9) hJ dJ0_length_8abf5_9 ?_
  refine v_iret (pc := 10) hJ dJ0_length_8abf5_10 ⟨_, rfl, ?_⟩
  exact ⟨by have := lenS_ok i hi; revert this; generalize (txS i).length = z; intro h; rcases (show z = 0 ∨ z = 1 ∨ z = 2 ∨ z = 3 ∨ z = 4 ∨ z = 5 ∨ z = 6 ∨ z = 7 by omega) with e | e | e | e | e | e | e | e <;> subst e <;> rfl, rfl⟩
theorem zch {c : Int} (h : 0 < c ∧ c < 128) : zi2c (zand c 255) = c ∧ narrow .char (.int (iZ c)) = .int (iZ c) := by
  have hh : ∀ n : Nat, n < 128 → zi2c (zand (n : Int) 255) = n ∧ narrow .char (.int (iZ (n : Int))) = .int (iZ (n : Int)) := by decide +kernel
  obtain ⟨n, rfl⟩ := Int.eq_ofNat_of_zero_le (show 0 ≤ c by omega)
  exact hh n (by omega)
set_option maxHeartbeats 4000000 in
set_option maxRecDepth 100000 in
theorem qJ1_charAt_3b067 {σ : Type} {l : Launch} {D : va_G} {tys : List (ClassId × FieldType)} {O : OT} {wld : σ → va_W} {adK adV : Nat → Nat} (hO : OG O adK adV) {u : σ} {i j : Nat} (hi : i < 15) (hj : j < (txS i).length) : Ct l yJ1_charAt_3b067 cJ1_charAt_3b067 2 (some .char) (rL 3) D tys O wld [.ref (adV i), .int (iZ (j : Int))] u (pI fun r u2 => r = (txS i).getD j 0 ∧ u2 = u) := by
  refine ct_intro (own := RJ1) (by decide) rfl hO.1 (Nat.le_of_ble_eq_true rfl) (by simp [Value.category]) (fun X J hJ => ?_)
  show J 0 [some (.ref (adV i)), some (.int (iZ (j : Int)))] [] u
  refine v_ild1 (pc := 0) hJ dJ1_charAt_3b067_0 ?_
  refine v_ald0 (pc := 1) hJ dJ1_charAt_3b067_1 ?_
  refine v_strL (pc := 2) hJ hO hi dJ1_charAt_3b067_2 ?_
  refine v_cS2v (pc := 3) hJ lkJ1_9 (qJ0_checkIndex_df160 hO (by omega) (by have := lenS_ok i hi; omega)) (Nat.le_of_ble_eq_true rfl) (rOk_L (by decide) (by decide)) dJ1_charAt_3b067_3 (fun u3 g3 => ?_)
  subst g3
  refine v_ald0 (pc := 6) hJ dJ1_charAt_3b067_6 ?_
  refine v_ild1 (pc := 7) hJ dJ1_charAt_3b067_7 ?_
  refine v_strB (pc := 8) hJ hO hi hj dJ1_charAt_3b067_8 ?_
  refine v_sipush (pc := 9) hJ dJ1_charAt_3b067_9 (by decide) ?_
  refine v_iand (pc := 12) hJ dJ1_charAt_3b067_12 ?_
  refine v_i2c (pc := 13) hJ dJ1_charAt_3b067_13 ?_
  rw [(zch (txS_in i hi j hj)).1]
  refine v_zret (pc := 14) hJ (zch (txS_in i hi j hj)).2 dJ1_charAt_3b067_14 ⟨_, rfl, ?_⟩
  exact ⟨rfl, rfl⟩
set_option maxHeartbeats 4000000 in
set_option maxRecDepth 100000 in
theorem qJ0_charAt_5068e {σ : Type} {l : Launch} {D : va_G} {tys : List (ClassId × FieldType)} {O : OT} {wld : σ → va_W} {adK adV : Nat → Nat} (hO : OG O adK adV) {u : σ} {i j : Nat} (hi : i < 15) (hj : j < (txS i).length) : Ct l yJ0_charAt_5068e cJ0_charAt_5068e 2 (some .char) (rL 4) D tys O wld [.ref (adK i), .int (iZ (j : Int))] u (pI fun r u2 => r = (txS i).getD j 0 ∧ u2 = u) := by
  refine ct_intro (own := RJ0) (by decide) rfl hO.1 (Nat.le_of_ble_eq_true rfl) (by simp [Value.category]) (fun X J hJ => ?_)
  show J 0 [some (.ref (adK i)), some (.int (iZ (j : Int)))] [] u
  refine v_ald0 (pc := 0) hJ dJ0_charAt_5068e_0 ?_
  refine v_cT0i (pc := 1) hJ hO hi lkJ0_492 (qJ0_isLatin1_aae02 hO hi) (Nat.le_of_ble_eq_true rfl) (rOk_L (by decide) (by decide)) dJ0_charAt_5068e_1 (fun r1 u1 g1 => ?_)
  obtain ⟨rfl, rfl⟩ := g1
  refine v_if_eq (tgt := 16) (pc := 4) hJ dJ0_charAt_5068e_4 (by decide) (by decide) (fun h => by first | exact absurd h (by decide) | exact absurd (by decide) h) (fun _ => ?_)
  refine v_ald0 (pc := 7) hJ dJ0_charAt_5068e_7 ?_
  refine v_strV (pc := 8) hJ hO hi kJ0_9 dJ0_charAt_5068e_8 ?_
  refine v_ild1 (pc := 11) hJ dJ0_charAt_5068e_11 ?_
  refine v_cS2i (pc := 12) hJ lkJ0_495 (qJ1_charAt_3b067 hO hi hj) (Nat.le_of_ble_eq_true rfl) (rOk_L (by decide) (by decide)) dJ0_charAt_5068e_12 (fun r12 u12 g12 => ?_)
  obtain ⟨rfl, rfl⟩ := g12
  refine v_zret (pc := 15) hJ (zch (txS_in i hi j hj)).2 dJ0_charAt_5068e_15 ⟨_, rfl, ?_⟩
  exact ⟨rfl, rfl⟩
end
section
/-- TONE of a NOTE -/
def tn (p : Int) : Int := 7 * p % 12
theorem tn_lt (p : Int) : 0 ≤ tn p ∧ tn p < 12 := by unfold tn; omega
theorem tn_eq {p : Int} : (((7 * p).tmod 12 + 12).tmod 12) = tn p := by
  unfold tn
  rw [Int.tmod_eq_emod_of_nonneg (a := (7 * p).tmod 12 + 12) (by have := Int.lt_tmod_of_pos (7 * p) (show (0 : Int) < 12 by decide); omega)]
  rw [Int.tmod_eq_emod]
  split <;> omega
theorem up_s {α : Type} (f : Nat → α) (k : Nat) (v : α) : va_up f k v k = v := if_pos rfl
theorem up_n {α : Type} {f : Nat → α} {k j : Nat} {v : α} (h : j ≠ k) : va_up f k v j = f j := if_neg h
theorem tmodB {x : Int} : -12 < x.tmod 12 ∧ x.tmod 12 < 12 := ⟨Int.lt_tmod_of_pos x (by decide), Int.tmod_lt_of_pos x (by decide)⟩
set_option maxHeartbeats 4000000 in
set_option maxRecDepth 100000 in
theorem qX11_thrown {l : Launch} {D : va_G} {cI : ClassId} {ad : Nat → Nat} {O : OT} {adK adV : Nat → Nat} (hO : OG O adK adV) {I : Nat → Int} {A : Nat → Int → Int}   : MC l D cI ad O yX11_thrown cX11_thrown 1 (some .int) 1 [.ref (ad 0)] (I, A) (pI fun r u2 => r = I 0 ∧ u2 = (I, A)) := by
  refine ct_intro (own := RX11) (by decide) rfl hO.1 (Nat.le_of_ble_eq_true rfl) (by simp [Value.category]) (fun X J hJ => ?_)
  show J 0 [some (.ref (ad 0))] [] (I, A)
  refine v_ald0 (pc := 0) hJ dX11_thrown_0 ?_
  refine mg0 (pc := 1) hJ dX11_thrown_1 ?_
  refine v_iret (pc := 4) hJ dX11_thrown_4 ⟨_, rfl, ?_⟩
  exact ⟨rfl, rfl⟩
set_option maxHeartbeats 4000000 in
set_option maxRecDepth 100000 in
theorem qX11_right {l : Launch} {D : va_G} {cI : ClassId} {ad : Nat → Nat} {O : OT} {adK adV : Nat → Nat} (hO : OG O adK adV) {I : Nat → Int} {A : Nat → Int → Int} {b w : Int} (h0 : I 0 = 0) (hb : b = 0 ∨ b = 1) (hw : 0 < w ∧ w < 100) : MC l D cI ad O yX11_right cX11_right 3 (some .boolean) 1 [.ref (ad 0), .int (iZ b), .int (iZ w)] (I, A) (pI fun r u2 => (b = 0 → r = 0 ∧ u2 = (va_up I 0 w, A)) ∧ (b = 1 → r = 1 ∧ u2 = (I, A))) := by
  refine ct_intro (own := RX11) (by decide) rfl hO.1 (Nat.le_of_ble_eq_true rfl) (by simp [Value.category]) (fun X J hJ => ?_)
  show J 0 [some (.ref (ad 0)), some (.int (iZ b)), some (.int (iZ w))] [] (I, A)
  refine v_ald0 (pc := 0) hJ dX11_right_0 ?_
  refine mg0 (pc := 1) hJ dX11_right_1 ?_
  refine v_if_ne (tgt := 16) (pc := 4) hJ dX11_right_4 (by decide) (by omega) (fun h4 => ?_) (fun h4 => ?_)
  · exact absurd h0 h4
  · refine v_ild1 (pc := 7) hJ dX11_right_7 ?_
    refine v_if_ne (tgt := 16) (pc := 8) hJ dX11_right_8 (by decide) (by omega) (fun h8 => ?_) (fun h8 => ?_)
    · try simp only [up_s]
      refine v_ald0 (pc := 16) hJ dX11_right_16 ?_
      refine mg0 (pc := 17) hJ dX11_right_17 ?_
      refine v_if_ne (tgt := 27) (pc := 20) hJ dX11_right_20 (by decide) (by (try simp only [up_s]); omega) (fun h20 => ?_) (fun h20 => ?_)
      · refine v_iconst (pc := 27) hJ dX11_right_27 ?_
        refine v_zret (pc := 28) hJ rfl dX11_right_28 ⟨_, rfl, ?_⟩
        exact absurd h0 h20
      · refine v_iconst (pc := 23) hJ dX11_right_23 ?_
        refine v_goto (tgt := 28) (pc := 24) hJ dX11_right_24 (by decide) ?_
        refine v_zret (pc := 28) hJ rfl dX11_right_28 ⟨_, rfl, ?_⟩
        exact ⟨fun q => absurd q h8, fun q => ⟨rfl, rfl⟩⟩
    · refine v_ald0 (pc := 11) hJ dX11_right_11 ?_
      refine v_ild2 (pc := 12) hJ dX11_right_12 ?_
      refine mp0 (pc := 13) hJ dX11_right_13 ?_
      try simp only [up_s]
      refine v_ald0 (pc := 16) hJ dX11_right_16 ?_
      refine mg0 (pc := 17) hJ dX11_right_17 ?_
      try simp only [up_s, up_n, up_up, ne_eq, Nat.reduceEqDiff, not_false_eq_true]
      refine v_if_ne (tgt := 27) (pc := 20) hJ dX11_right_20 (by decide) (by (try simp only [up_s]); omega) (fun h20 => ?_) (fun h20 => ?_)
      · refine v_iconst (pc := 27) hJ dX11_right_27 ?_
        refine v_zret (pc := 28) hJ rfl dX11_right_28 ⟨_, rfl, ?_⟩
        exact ⟨fun q => ⟨rfl, rfl⟩, fun q => by omega⟩
      · refine v_iconst (pc := 23) hJ dX11_right_23 ?_
        refine v_goto (tgt := 28) (pc := 24) hJ dX11_right_24 (by decide) ?_
        refine v_zret (pc := 28) hJ rfl dX11_right_28 ⟨_, rfl, ?_⟩
        simp only [up_s] at h20; omega
set_option maxHeartbeats 4000000 in
set_option maxRecDepth 100000 in
theorem qX11_tone {l : Launch} {D : va_G} {cI : ClassId} {ad : Nat → Nat} {O : OT} {adK adV : Nat → Nat} (hO : OG O adK adV) {I : Nat → Int} {A : Nat → Int → Int} {p : Int} (hp : -1000 ≤ p ∧ p ≤ 1000) : MC l D cI ad O yX11_tone cX11_tone 1 (some .int) 1 [.int (iZ p)] (I, A) (pI fun r u2 => r = tn p ∧ u2 = (I, A)) := by
  refine ct_intro (own := RX11) (by decide) rfl hO.1 (Nat.le_of_ble_eq_true rfl) (by simp [Value.category]) (fun X J hJ => ?_)
  show J 0 [some (.int (iZ p))] [] (I, A)
  refine v_bipush (pc := 0) hJ dX11_tone_0 (by decide) ?_
  refine v_ild0 (pc := 2) hJ dX11_tone_2 ?_
  refine v_imul (pc := 3) hJ dX11_tone_3 ?_
  refine v_bipush (pc := 4) hJ dX11_tone_4 (by decide) ?_
  refine v_irem (pc := 6) hJ dX11_tone_6 (by omega) (by omega) (by omega) ?_
  refine v_bipush (pc := 7) hJ dX11_tone_7 (by decide) ?_
  refine v_iadd (pc := 9) hJ dX11_tone_9 ?_
  refine v_bipush (pc := 10) hJ dX11_tone_10 (by decide) ?_
  have h12 := tmodB (x := 7 * p)
  refine v_irem (pc := 12) hJ dX11_tone_12 (by omega) (by omega) (by omega) ?_
  refine v_iret (pc := 13) hJ dX11_tone_13 ⟨_, rfl, ?_⟩
  exact ⟨tn_eq, rfl⟩
set_option maxHeartbeats 4000000 in
set_option maxRecDepth 100000 in
theorem qX11_isBar {l : Launch} {D : va_G} {cI : ClassId} {ad : Nat → Nat} {O : OT} {adK adV : Nat → Nat} (hO : OG O adK adV) {I : Nat → Int} {A : Nat → Int → Int} {b : Int} (hb : inR b) : MC l D cI ad O yX11_isBar cX11_isBar 1 (some .boolean) 1 [.int (iZ b)] (I, A) (pI fun r u2 => (r = 0 ∨ r = 1) ∧ (r = 1 ↔ 0 ≤ b ∧ b ≤ 7) ∧ u2 = (I, A)) := by
  refine ct_intro (own := RX11) (by decide) rfl hO.1 (Nat.le_of_ble_eq_true rfl) (by simp [Value.category]) (fun X J hJ => ?_)
  show J 0 [some (.int (iZ b))] [] (I, A)
  refine v_ild0 (pc := 0) hJ dX11_isBar_0 ?_
  refine v_if_lt (tgt := 14) (pc := 1) hJ dX11_isBar_1 (by decide) (by omega) (fun h1 => ?_) (fun h1 => ?_)
  · refine v_iconst (pc := 14) hJ dX11_isBar_14 ?_
    refine v_zret (pc := 15) hJ rfl dX11_isBar_15 ⟨_, rfl, ?_⟩
    exact ⟨by omega, by omega, rfl⟩
  · refine v_ild0 (pc := 4) hJ dX11_isBar_4 ?_
    refine v_bipush (pc := 5) hJ dX11_isBar_5 (by decide) ?_
    refine v_icmp_gt (tgt := 14) (pc := 7) hJ dX11_isBar_7 (by decide) (by omega) (by omega) (fun h7 => ?_) (fun h7 => ?_)
    · refine v_iconst (pc := 14) hJ dX11_isBar_14 ?_
      refine v_zret (pc := 15) hJ rfl dX11_isBar_15 ⟨_, rfl, ?_⟩
      exact ⟨by omega, by omega, rfl⟩
    · refine v_iconst (pc := 10) hJ dX11_isBar_10 ?_
      refine v_goto (tgt := 15) (pc := 11) hJ dX11_isBar_11 (by decide) ?_
      refine v_zret (pc := 15) hJ rfl dX11_isBar_15 ⟨_, rfl, ?_⟩
      exact ⟨by omega, by omega, rfl⟩
set_option maxHeartbeats 4000000 in
set_option maxRecDepth 100000 in
theorem qX11_kept {l : Launch} {D : va_G} {cI : ClassId} {ad : Nat → Nat} {O : OT} {adK adV : Nat → Nat} (hO : OG O adK adV) {I : Nat → Int} {A : Nat → Int → Int}  (h26 : inR (I 26)) : MC l D cI ad O yX11_kept cX11_kept 1 (some .int) 1 [.ref (ad 0)] (I, A) (pI fun r u2 => r = (if I 26 < 4000 then I 26 else 4000) ∧ u2 = (I, A)) := by
  refine ct_intro (own := RX11) (by decide) rfl hO.1 (Nat.le_of_ble_eq_true rfl) (by simp [Value.category]) (fun X J hJ => ?_)
  show J 0 [some (.ref (ad 0))] [] (I, A)
  refine v_ald0 (pc := 0) hJ dX11_kept_0 ?_
  refine mg26 (pc := 1) hJ dX11_kept_1 ?_
  refine v_sipush (pc := 4) hJ dX11_kept_4 (by decide) ?_
  refine v_icmp_ge (tgt := 17) (pc := 7) hJ dX11_kept_7 (by decide) (by omega) (by omega) (fun h7 => ?_) (fun h7 => ?_)
  · refine v_sipush (pc := 17) hJ dX11_kept_17 (by decide) ?_
    refine v_iret (pc := 20) hJ dX11_kept_20 ⟨_, rfl, ?_⟩
    exact ⟨by split <;> omega, rfl⟩
  · refine v_ald0 (pc := 10) hJ dX11_kept_10 ?_
    refine mg26 (pc := 11) hJ dX11_kept_11 ?_
    refine v_goto (tgt := 20) (pc := 14) hJ dX11_kept_14 (by decide) ?_
    refine v_iret (pc := 20) hJ dX11_kept_20 ⟨_, rfl, ?_⟩
    exact ⟨by split <;> omega, rfl⟩
set_option maxHeartbeats 4000000 in
set_option maxRecDepth 100000 in
theorem qX11_isLetter {l : Launch} {D : va_G} {cI : ClassId} {ad : Nat → Nat} {O : OT} {adK adV : Nat → Nat} (hO : OG O adK adV) {I : Nat → Int} {A : Nat → Int → Int} {c : Int} (hc : inR c) : MC l D cI ad O yX11_isLetter cX11_isLetter 1 (some .boolean) 1 [.int (iZ c)] (I, A) (pI fun r u2 => (r = 0 ∨ r = 1) ∧ (r = 1 ↔ (65 ≤ c ∧ c ≤ 90) ∨ (97 ≤ c ∧ c ≤ 122)) ∧ u2 = (I, A)) := by
  refine ct_intro (own := RX11) (by decide) rfl hO.1 (Nat.le_of_ble_eq_true rfl) (by simp [Value.category]) (fun X J hJ => ?_)
  show J 0 [some (.int (iZ c))] [] (I, A)
  refine v_ild0 (pc := 0) hJ dX11_isLetter_0 ?_
  refine v_bipush (pc := 1) hJ dX11_isLetter_1 (by decide) ?_
  refine v_icmp_lt (tgt := 12) (pc := 3) hJ dX11_isLetter_3 (by decide) (by omega) (by omega) (fun h3 => ?_) (fun h3 => ?_)
  · refine v_ild0 (pc := 12) hJ dX11_isLetter_12 ?_
    refine v_bipush (pc := 13) hJ dX11_isLetter_13 (by decide) ?_
    refine v_icmp_lt (tgt := 28) (pc := 15) hJ dX11_isLetter_15 (by decide) (by omega) (by omega) (fun h15 => ?_) (fun h15 => ?_)
    · refine v_iconst (pc := 28) hJ dX11_isLetter_28 ?_
      refine v_zret (pc := 29) hJ rfl dX11_isLetter_29 ⟨_, rfl, ?_⟩
      exact ⟨by omega, by omega, rfl⟩
    · refine v_ild0 (pc := 18) hJ dX11_isLetter_18 ?_
      refine v_bipush (pc := 19) hJ dX11_isLetter_19 (by decide) ?_
      refine v_icmp_gt (tgt := 28) (pc := 21) hJ dX11_isLetter_21 (by decide) (by omega) (by omega) (fun h21 => ?_) (fun h21 => ?_)
      · refine v_iconst (pc := 28) hJ dX11_isLetter_28 ?_
        refine v_zret (pc := 29) hJ rfl dX11_isLetter_29 ⟨_, rfl, ?_⟩
        exact ⟨by omega, by omega, rfl⟩
      · refine v_iconst (pc := 24) hJ dX11_isLetter_24 ?_
        refine v_goto (tgt := 29) (pc := 25) hJ dX11_isLetter_25 (by decide) ?_
        refine v_zret (pc := 29) hJ rfl dX11_isLetter_29 ⟨_, rfl, ?_⟩
        exact ⟨by omega, by omega, rfl⟩
  · refine v_ild0 (pc := 6) hJ dX11_isLetter_6 ?_
    refine v_bipush (pc := 7) hJ dX11_isLetter_7 (by decide) ?_
    refine v_icmp_le (tgt := 24) (pc := 9) hJ dX11_isLetter_9 (by decide) (by omega) (by omega) (fun h9 => ?_) (fun h9 => ?_)
    · refine v_iconst (pc := 24) hJ dX11_isLetter_24 ?_
      refine v_goto (tgt := 29) (pc := 25) hJ dX11_isLetter_25 (by decide) ?_
      refine v_zret (pc := 29) hJ rfl dX11_isLetter_29 ⟨_, rfl, ?_⟩
      exact ⟨by omega, by omega, rfl⟩
    · refine v_ild0 (pc := 12) hJ dX11_isLetter_12 ?_
      refine v_bipush (pc := 13) hJ dX11_isLetter_13 (by decide) ?_
      refine v_icmp_lt (tgt := 28) (pc := 15) hJ dX11_isLetter_15 (by decide) (by omega) (by omega) (fun h15 => ?_) (fun h15 => ?_)
      · refine v_iconst (pc := 28) hJ dX11_isLetter_28 ?_
        refine v_zret (pc := 29) hJ rfl dX11_isLetter_29 ⟨_, rfl, ?_⟩
        exact ⟨by omega, by omega, rfl⟩
      · refine v_ild0 (pc := 18) hJ dX11_isLetter_18 ?_
        refine v_bipush (pc := 19) hJ dX11_isLetter_19 (by decide) ?_
        refine v_icmp_gt (tgt := 28) (pc := 21) hJ dX11_isLetter_21 (by decide) (by omega) (by omega) (fun h21 => ?_) (fun h21 => ?_)
        · refine v_iconst (pc := 28) hJ dX11_isLetter_28 ?_
          refine v_zret (pc := 29) hJ rfl dX11_isLetter_29 ⟨_, rfl, ?_⟩
          exact ⟨by omega, by omega, rfl⟩
        · refine v_iconst (pc := 24) hJ dX11_isLetter_24 ?_
          refine v_goto (tgt := 29) (pc := 25) hJ dX11_isLetter_25 (by decide) ?_
          refine v_zret (pc := 29) hJ rfl dX11_isLetter_29 ⟨_, rfl, ?_⟩
          exact ⟨by omega, by omega, rfl⟩
set_option maxHeartbeats 4000000 in
set_option maxRecDepth 100000 in
theorem qX11_says {l : Launch} {D : va_G} {cI : ClassId} {ad : Nat → Nat} {O : OT} {adK adV : Nat → Nat} (hO : OG O adK adV) {I : Nat → Int} {A : Nat → Int → Int} {c : Int} (h26 : 0 ≤ I 26 ∧ I 26 < 100000) : MC l D cI ad O yX11_says cX11_says 2 none 1 [.ref (ad 0), .int (iZ c)] (I, A) (pV fun u2 => u2 = (va_up I 26 (I 26 + 1), if I 26 < 4000 then va_up A 25 (zu (A 25) (I 26) c) else A)) := by
  refine ct_intro (own := RX11) (by decide) rfl hO.1 (Nat.le_of_ble_eq_true rfl) (by simp [Value.category]) (fun X J hJ => ?_)
  show J 0 [some (.ref (ad 0)), some (.int (iZ c))] [] (I, A)
  refine v_ald0 (pc := 0) hJ dX11_says_0 ?_
  refine mg26 (pc := 1) hJ dX11_says_1 ?_
  refine v_sipush (pc := 4) hJ dX11_says_4 (by decide) ?_
  refine v_icmp_ge (tgt := 20) (pc := 7) hJ dX11_says_7 (by decide) (by omega) (by omega) (fun h7 => ?_) (fun h7 => ?_)
  · refine v_ald0 (pc := 20) hJ dX11_says_20 ?_
    refine v_dup (pc := 21) hJ dX11_says_21 rfl ?_
    refine mg26 (pc := 22) hJ dX11_says_22 ?_
    refine v_iconst (pc := 25) hJ dX11_says_25 ?_
    refine v_iadd (pc := 26) hJ dX11_says_26 ?_
    refine mp26 (pc := 27) hJ dX11_says_27 ?_
    refine v_vret (pc := 30) hJ dX11_says_30 ⟨rfl, ?_⟩
    first | (rw [if_pos (by omega)]) | (rw [if_neg (by omega)])
  · refine v_ald0 (pc := 10) hJ dX11_says_10 ?_
    refine mg25 (pc := 11) hJ dX11_says_11 ?_
    refine v_ald0 (pc := 14) hJ dX11_says_14 ?_
    refine mg26 (pc := 15) hJ dX11_says_15 ?_
    refine v_ild1 (pc := 18) hJ dX11_says_18 ?_
    refine ms25 (pc := 19) hJ (by omega) (by omega) dX11_says_19 ?_
    refine v_ald0 (pc := 20) hJ dX11_says_20 ?_
    refine v_dup (pc := 21) hJ dX11_says_21 rfl ?_
    refine mg26 (pc := 22) hJ dX11_says_22 ?_
    try simp only [up_s, up_n, up_up, ne_eq, Nat.reduceEqDiff, not_false_eq_true]
    refine v_iconst (pc := 25) hJ dX11_says_25 ?_
    refine v_iadd (pc := 26) hJ dX11_says_26 ?_
    refine mp26 (pc := 27) hJ dX11_says_27 ?_
    refine v_vret (pc := 30) hJ dX11_says_30 ⟨rfl, ?_⟩
    first | (rw [if_pos (by omega)]) | (rw [if_neg (by omega)])
set_option maxHeartbeats 4000000 in
set_option maxRecDepth 100000 in
theorem qX11_add {l : Launch} {D : va_G} {cI : ClassId} {ad : Nat → Nat} {O : OT} {adK adV : Nat → Nat} (hO : OG O adK adV) {I : Nat → Int} {A : Nat → Int → Int} {c : Int} (h33 : 0 ≤ I 33 ∧ I 33 < 16) : MC l D cI ad O yX11_add cX11_add 2 none 1 [.ref (ad 0), .int (iZ c)] (I, A) (pV fun u2 => u2 = (va_up I 33 (I 33 + 1), va_up A 32 (zu (A 32) (I 33) c))) := by
  refine ct_intro (own := RX11) (by decide) rfl hO.1 (Nat.le_of_ble_eq_true rfl) (by simp [Value.category]) (fun X J hJ => ?_)
  show J 0 [some (.ref (ad 0)), some (.int (iZ c))] [] (I, A)
  refine v_ald0 (pc := 0) hJ dX11_add_0 ?_
  refine mg32 (pc := 1) hJ dX11_add_1 ?_
  refine v_ald0 (pc := 4) hJ dX11_add_4 ?_
  refine mg33 (pc := 5) hJ dX11_add_5 ?_
  refine v_ild1 (pc := 8) hJ dX11_add_8 ?_
  refine ms32 (pc := 9) hJ (by omega) (by omega) dX11_add_9 ?_
  refine v_ald0 (pc := 10) hJ dX11_add_10 ?_
  refine v_dup (pc := 11) hJ dX11_add_11 rfl ?_
  refine mg33 (pc := 12) hJ dX11_add_12 ?_
  try simp only [up_s, up_n, up_up, ne_eq, Nat.reduceEqDiff, not_false_eq_true]
  refine v_iconst (pc := 15) hJ dX11_add_15 ?_
  refine v_iadd (pc := 16) hJ dX11_add_16 ?_
  refine mp33 (pc := 17) hJ dX11_add_17 ?_
  refine v_vret (pc := 20) hJ dX11_add_20 ⟨rfl, ?_⟩
  rfl
set_option maxHeartbeats 4000000 in
set_option maxRecDepth 100000 in
theorem qX11_wrong {l : Launch} {D : va_G} {cI : ClassId} {ad : Nat → Nat} {O : OT} {adK adV : Nat → Nat} (hO : OG O adK adV) {I : Nat → Int} {A : Nat → Int → Int} {w p : Int}  : MC l D cI ad O yX11_wrong cX11_wrong 3 (some .boolean) 1 [.ref (ad 0), .int (iZ w), .int (iZ p)] (I, A) (pI fun r u2 => r = 0 ∧ u2 = (va_up (va_up I 3 w) 4 p, A)) := by
  refine ct_intro (own := RX11) (by decide) rfl hO.1 (Nat.le_of_ble_eq_true rfl) (by simp [Value.category]) (fun X J hJ => ?_)
  show J 0 [some (.ref (ad 0)), some (.int (iZ w)), some (.int (iZ p))] [] (I, A)
  refine v_ald0 (pc := 0) hJ dX11_wrong_0 ?_
  refine v_ild1 (pc := 1) hJ dX11_wrong_1 ?_
  refine mp3 (pc := 2) hJ dX11_wrong_2 ?_
  refine v_ald0 (pc := 5) hJ dX11_wrong_5 ?_
  refine v_ild2 (pc := 6) hJ dX11_wrong_6 ?_
  refine mp4 (pc := 7) hJ dX11_wrong_7 ?_
  refine v_iconst (pc := 10) hJ dX11_wrong_10 ?_
  refine v_zret (pc := 11) hJ rfl dX11_wrong_11 ⟨_, rfl, ?_⟩
  exact ⟨rfl, rfl⟩
set_option maxHeartbeats 4000000 in
set_option maxRecDepth 100000 in
theorem qX11_byteAt {l : Launch} {D : va_G} {cI : ClassId} {ad : Nat → Nat} {O : OT} {adK adV : Nat → Nat} (hO : OG O adK adV) {I : Nat → Int} {A : Nat → Int → Int} {k : Int} (hk : 0 ≤ k ∧ k < 2000) (h28 : 0 ≤ I 28 ∧ I 28 ≤ 1200) : MC l D cI ad O yX11_byteAt cX11_byteAt 2 (some .int) 1 [.ref (ad 0), .int (iZ k)] (I, A) (pI fun r u2 => r = (if k < I 28 then A 1 k else 0) ∧ u2 = (I, A)) := by
  refine ct_intro (own := RX11) (by decide) rfl hO.1 (Nat.le_of_ble_eq_true rfl) (by simp [Value.category]) (fun X J hJ => ?_)
  show J 0 [some (.ref (ad 0)), some (.int (iZ k))] [] (I, A)
  refine v_ild1 (pc := 0) hJ dX11_byteAt_0 ?_
  refine v_ald0 (pc := 1) hJ dX11_byteAt_1 ?_
  refine mg28 (pc := 2) hJ dX11_byteAt_2 ?_
  refine v_icmp_ge (tgt := 17) (pc := 5) hJ dX11_byteAt_5 (by decide) (by omega) (by omega) (fun h5 => ?_) (fun h5 => ?_)
  · refine v_iconst (pc := 17) hJ dX11_byteAt_17 ?_
    refine v_iret (pc := 18) hJ dX11_byteAt_18 ⟨_, rfl, ?_⟩
    exact ⟨by split <;> first | rfl | omega, rfl⟩
  · refine v_ald0 (pc := 8) hJ dX11_byteAt_8 ?_
    refine mg1 (pc := 9) hJ dX11_byteAt_9 ?_
    refine v_ild1 (pc := 12) hJ dX11_byteAt_12 ?_
    refine ma1 (pc := 13) hJ (by omega) (by omega) dX11_byteAt_13 ?_
    refine v_goto (tgt := 18) (pc := 14) hJ dX11_byteAt_14 (by decide) ?_
    refine v_iret (pc := 18) hJ dX11_byteAt_18 ⟨_, rfl, ?_⟩
    exact ⟨by split <;> first | rfl | omega, rfl⟩
end
section
theorem up_up {α : Type} (f : Nat → α) (k : Nat) (v w : α) : va_up (va_up f k v) k w = va_up f k w := by
  funext j
  unfold va_up
  split <;> rfl
theorem inR_zand (a b : Int) : inR (zand a b) := inR_of _
theorem inR_zor (a b : Int) : inR (zor a b) := inR_of _
theorem inR_zshl (a b : Int) : inR (zshl a b) := inR_of _
theorem inR_zshr (a b : Int) : inR (zshr a b) := inR_of _
theorem inR_zxor (a b : Int) : inR (zxor a b) := inR_of _
/-- a byte of a number -/
def bt8 (v s : Int) : Int := zand (zshr v s) 255
/-- four bytes behind a tape -/
def lay4 (T : Int → Int) (n v : Int) : Int → Int := zu (zu (zu (zu T n (bt8 v 24)) (n + 1) (bt8 v 16)) (n + 2) (bt8 v 8)) (n + 3) (bt8 v 0)
/-- the kinds' tones -/
def kT (k : Int) : Int := if k = 0 then 145 else if k = 1 then 137 else if k = 2 then 1169 else if k = 3 then 1161 else if k = 4 then 2193 else if k = 5 then 73 else if k = 6 then 273 else if k = 7 then 161 else if k = 8 then 133 else if k = 9 then 657 else if k = 10 then 649 else if k = 11 then 585 else if k = 12 then 1173 else 149
theorem kT_in (k : Int) : 0 ≤ kT k ∧ kT k < 4096 := by
  unfold kT
  repeat' split
  all_goals omega
/-- how many of the lowest n bits are set -/
def cntN (b : Int) : Nat → Int
  | 0 => 0
  | n + 1 => cntN b n + zand (zshr b n) 1
/-- a chord's tones as bits -/
def tsN (rt kd b0 : Int) : Nat → Int
  | 0 => b0
  | n + 1 => if zand (zshr (kT kd) n) 1 = 1 then zor (tsN rt kd b0 n) (zshl 1 ((rt + n).tmod 12)) else tsN rt kd b0 n
def tsF (r k b : Int) : Int := tsN (tn r) k (zshl 1 (tn b)) 12
/-- a letter's place on the row -/
def plc (c : Int) : Int := if c = 70 then -1 else if c = 67 then 0 else if c = 71 then 1 else if c = 68 then 2 else if c = 65 then 3 else if c = 69 then 4 else 5
/-- a note, as much as it must be 12 less or more -/
def wi (p : Int) : Int := if 19 < p then p - 12 * ((p - 8) / 12) else if p < -15 then p + 12 * ((-p - 4) / 12) else p
theorem wi_in (p : Int) : -15 ≤ wi p ∧ wi p ≤ 19 := by unfold wi; split <;> (try split) <;> omega
theorem wi_dn {p : Int} (h : 19 < p) (h2 : p < 1000) : wi (p - 12) = wi p := by
  unfold wi
  repeat' split
  all_goals omega
theorem wi_up {p : Int} (h : p < -15) (h2 : -1000 < p) : wi (p + 12) = wi p := by
  unfold wi
  repeat' split
  all_goals omega
theorem wi_id {p : Int} (h : ¬ 19 < p) (h2 : ¬ p < -15) : wi p = p := by unfold wi; rw [if_neg h, if_neg h2]
def mv (k n : Int) : Int := (k + 7 * n + 5) % 12 - 5
set_option maxHeartbeats 4000000 in
theorem qX11_lays {l : Launch} {D : va_G} {cI : ClassId} {ad : Nat → Nat} {O : OT} {adK adV : Nat → Nat} (hO : OG O adK adV) {I : Nat → Int} {A : Nat → Int → Int} {v : Int} (h2 : 0 ≤ I 2 ∧ I 2 + 4 ≤ 1200) : MC l D cI ad O yX11_lays cX11_lays 3 none 1 [.ref (ad 0), .int (iZ v)] (I, A) (pV fun u2 => u2 = (va_up I 2 (I 2 + 4), va_up A 1 (lay4 (A 1) (I 2) v))) := by
  refine ct_intro (own := RX11) (by decide) rfl hO.1 (Nat.le_of_ble_eq_true rfl) (by simp [Value.category]) (fun X J hJ => ?_)
  have step : ∀ (k : Int) (I1 : Nat → Int) (A1 : Nat → Int → Int), 0 ≤ k → k < 32 → 0 ≤ I1 2 → I1 2 < 1200 → J 3 [some (.ref (ad 0)), some (.int (iZ v)), some (.int (iZ (k + -8)))] [] (va_up I1 2 (I1 2 + 1), va_up A1 1 (zu (A1 1) (I1 2) (bt8 v k))) → J 3 [some (.ref (ad 0)), some (.int (iZ v)), some (.int (iZ k))] [] (I1, A1) := by
    intro k I1 A1 h1 h3 h4 h5 kk
    refine v_ild2 (pc := 3) hJ dX11_lays_3 ?_
    refine v_if_lt (tgt := 39) (pc := 4) hJ dX11_lays_4 (by decide) (by omega) (fun h4 => ?_) (fun h4 => ?_)
    · omega
    · refine v_ald0 (pc := 7) hJ dX11_lays_7 ?_
      refine mg1 (pc := 8) hJ dX11_lays_8 ?_
      refine v_ald0 (pc := 11) hJ dX11_lays_11 ?_
      refine mg2 (pc := 12) hJ dX11_lays_12 ?_
      refine v_ild1 (pc := 15) hJ dX11_lays_15 ?_
      refine v_ild2 (pc := 16) hJ dX11_lays_16 ?_
      refine v_ishr (pc := 17) hJ dX11_lays_17 ?_
      refine v_sipush (pc := 18) hJ dX11_lays_18 (by decide) ?_
      refine v_iand (pc := 21) hJ dX11_lays_21 ?_
      refine ms1 (pc := 22) hJ (by omega) (by omega) dX11_lays_22 ?_
      refine v_ald0 (pc := 23) hJ dX11_lays_23 ?_
      refine v_dup (pc := 24) hJ dX11_lays_24 rfl ?_
      refine mg2 (pc := 25) hJ dX11_lays_25 ?_
      try simp only [up_s, up_n, up_up, ne_eq, Nat.reduceEqDiff, not_false_eq_true]
      refine v_iconst (pc := 28) hJ dX11_lays_28 ?_
      refine v_iadd (pc := 29) hJ dX11_lays_29 ?_
      refine mp2 (pc := 30) hJ dX11_lays_30 ?_
      refine v_inc2 (pc := 33) hJ dX11_lays_33 (by decide) ?_
      refine v_goto (tgt := 3) (pc := 36) hJ dX11_lays_36 (by decide) ?_
      exact kk
  show J 0 [some (.ref (ad 0)), some (.int (iZ v)), none] [] (I, A)
  refine v_bipush (pc := 0) hJ dX11_lays_0 (by decide) ?_
  refine v_ist2 (pc := 2) hJ dX11_lays_2 (by decide) ?_
  refine step 24 _ _ (by decide) (by decide) (by omega) (by omega) ?_
  refine step 16 _ _ (by decide) (by decide) (by simp only [up_s]; omega) (by simp only [up_s]; omega) ?_
  refine step 8 _ _ (by decide) (by decide) (by simp only [up_s, up_up]; omega) (by simp only [up_s, up_up]; omega) ?_
  refine step 0 _ _ (by decide) (by decide) (by simp only [up_s, up_up]; omega) (by simp only [up_s, up_up]; omega) ?_
  refine v_ild2 (pc := 3) hJ dX11_lays_3 ?_
  refine v_if_lt (tgt := 39) (pc := 4) hJ dX11_lays_4 (by decide) (by decide) (fun _ => ?_) (fun h => absurd (by decide) h)
  refine v_vret (pc := 39) hJ dX11_lays_39 ⟨rfl, ?_⟩
  simp only [up_s, up_up, lay4]
  rw [show I 2 + 1 + 1 + 1 + 1 = I 2 + 4 by omega, show I 2 + 1 + 1 + 1 = I 2 + 3 by omega, show I 2 + 1 + 1 = I 2 + 2 by omega]
set_option maxHeartbeats 4000000 in
theorem qX11_feed {l : Launch} {D : va_G} {cI : ClassId} {ad : Nat → Nat} {O : OT} {adK adV : Nat → Nat} (hO : OG O adK adV) {I : Nat → Int} {A : Nat → Int → Int} {a b c d e : Int} (h2 : 0 ≤ I 2 ∧ I 2 ≤ 1200) : MC l D cI ad O yX11_feed cX11_feed 6 (some .int) 2 [.ref (ad 0), .int (iZ a), .int (iZ b), .int (iZ c), .int (iZ d), .int (iZ e)] (I, A) (pI fun r u2 => (I 2 + 20 > 1200 → r = -1 ∧ u2 = (va_up I 0 0, A)) ∧ (I 2 + 20 ≤ 1200 → r = I 2 + 20 ∧ u2 = (va_up (va_up I 0 0) 2 (I 2 + 20), va_up A 1 (lay4 (lay4 (lay4 (lay4 (lay4 (A 1) (I 2) a) (I 2 + 4) b) (I 2 + 8) c) (I 2 + 12) d) (I 2 + 16) e)))) := by
  refine ct_intro (own := RX11) (by decide) rfl hO.1 (Nat.le_of_ble_eq_true rfl) (by simp [Value.category]) (fun X J hJ => ?_)
  show J 0 [some (.ref (ad 0)), some (.int (iZ a)), some (.int (iZ b)), some (.int (iZ c)), some (.int (iZ d)), some (.int (iZ e))] [] (I, A)
  refine v_ald0 (pc := 0) hJ dX11_feed_0 ?_
  refine v_iconst (pc := 1) hJ dX11_feed_1 ?_
  refine mp0 (pc := 2) hJ dX11_feed_2 ?_
  refine v_ald0 (pc := 5) hJ dX11_feed_5 ?_
  refine mg2 (pc := 6) hJ dX11_feed_6 ?_
  try simp only [up_s, up_n, up_up, ne_eq, Nat.reduceEqDiff, not_false_eq_true]
  refine v_bipush (pc := 9) hJ dX11_feed_9 (by decide) ?_
  refine v_iadd (pc := 11) hJ dX11_feed_11 ?_
  refine v_sipush (pc := 12) hJ dX11_feed_12 (by decide) ?_
  
  refine v_icmp_le (tgt := 20) (pc := 15) hJ dX11_feed_15 (by decide) (by omega) (by omega) (fun h15 => ?_) (fun h15 => ?_)
  · refine v_ald0 (pc := 20) hJ dX11_feed_20 ?_
    refine v_ild1 (pc := 21) hJ dX11_feed_21 ?_
    refine v_cV1v (pc := 22) (q0 := 0) (ci := 8) hJ rfl rfl lkX11_95 (qX11_lays hO (by simp only [up_s, up_n, up_up, ne_eq, Nat.reduceEqDiff, not_false_eq_true]; omega)) (Nat.le_of_ble_eq_true rfl) (rOk_L (by decide) (by decide)) dX11_feed_22 (fun u22 g22 => ?_)
    subst g22
    refine v_ald0 (pc := 25) hJ dX11_feed_25 ?_
    refine v_ild2 (pc := 26) hJ dX11_feed_26 ?_
    refine v_cV1v (pc := 27) (q0 := 0) (ci := 8) hJ rfl rfl lkX11_95 (qX11_lays hO (by simp only [up_s, up_n, up_up, ne_eq, Nat.reduceEqDiff, not_false_eq_true]; omega)) (Nat.le_of_ble_eq_true rfl) (rOk_L (by decide) (by decide)) dX11_feed_27 (fun u27 g27 => ?_)
    subst g27
    refine v_ald0 (pc := 30) hJ dX11_feed_30 ?_
    refine v_ild3 (pc := 31) hJ dX11_feed_31 ?_
    refine v_cV1v (pc := 32) (q0 := 0) (ci := 8) hJ rfl rfl lkX11_95 (qX11_lays hO (by simp only [up_s, up_n, up_up, ne_eq, Nat.reduceEqDiff, not_false_eq_true]; omega)) (Nat.le_of_ble_eq_true rfl) (rOk_L (by decide) (by decide)) dX11_feed_32 (fun u32 g32 => ?_)
    subst g32
    refine v_ald0 (pc := 35) hJ dX11_feed_35 ?_
    refine v_ild4 (pc := 36) hJ dX11_feed_36 ?_
    refine v_cV1v (pc := 38) (q0 := 0) (ci := 8) hJ rfl rfl lkX11_95 (qX11_lays hO (by simp only [up_s, up_n, up_up, ne_eq, Nat.reduceEqDiff, not_false_eq_true]; omega)) (Nat.le_of_ble_eq_true rfl) (rOk_L (by decide) (by decide)) dX11_feed_38 (fun u38 g38 => ?_)
    subst g38
    refine v_ald0 (pc := 41) hJ dX11_feed_41 ?_
    refine v_ild5 (pc := 42) hJ dX11_feed_42 ?_
    refine v_cV1v (pc := 44) (q0 := 0) (ci := 8) hJ rfl rfl lkX11_95 (qX11_lays hO (by simp only [up_s, up_n, up_up, ne_eq, Nat.reduceEqDiff, not_false_eq_true]; omega)) (Nat.le_of_ble_eq_true rfl) (rOk_L (by decide) (by decide)) dX11_feed_44 (fun u44 g44 => ?_)
    subst g44
    refine v_ald0 (pc := 47) hJ dX11_feed_47 ?_
    refine mg2 (pc := 48) hJ dX11_feed_48 ?_
    try simp only [up_s, up_n, up_up, ne_eq, Nat.reduceEqDiff, not_false_eq_true]
    refine v_iret (pc := 51) hJ dX11_feed_51 ⟨_, rfl, ?_⟩
    first
      | exact ⟨fun _ => ⟨rfl, rfl⟩, fun q => by omega⟩
      | (simp only [up_s, up_up, up_n, ne_eq, Nat.reduceEqDiff, not_false_eq_true]
         refine ⟨fun q => by omega, fun q => ⟨by omega, ?_⟩⟩
         rw [show I 2 + 4 + 4 = I 2 + 8 by omega, show I 2 + 8 + 4 = I 2 + 12 by omega, show I 2 + 12 + 4 = I 2 + 16 by omega, show I 2 + 16 + 4 = I 2 + 20 by omega])
  · refine v_iconst (pc := 18) hJ dX11_feed_18 ?_
    refine v_iret (pc := 19) hJ dX11_feed_19 ⟨_, rfl, ?_⟩
    first
      | exact ⟨fun _ => ⟨rfl, rfl⟩, fun q => by omega⟩
      | (simp only [up_s, up_up, up_n, ne_eq, Nat.reduceEqDiff, not_false_eq_true]
         refine ⟨fun q => by omega, fun q => ⟨by omega, ?_⟩⟩
         rw [show I 2 + 4 + 4 = I 2 + 8 by omega, show I 2 + 8 + 4 = I 2 + 12 by omega, show I 2 + 12 + 4 = I 2 + 16 by omega, show I 2 + 16 + 4 = I 2 + 20 by omega])
set_option maxHeartbeats 4000000 in
theorem qX11_tonesOf {l : Launch} {D : va_G} {cI : ClassId} {ad : Nat → Nat} {O : OT} {adK adV : Nat → Nat} (hO : OG O adK adV) {I : Nat → Int} {A : Nat → Int → Int} {k : Int} (hk : inR k) : MC l D cI ad O yX11_tonesOf cX11_tonesOf 1 (some .int) 1 [.int (iZ k)] (I, A) (pI fun r u2 => r = kT k ∧ u2 = (I, A)) := by
  refine ct_intro (own := RX11) (by decide) rfl hO.1 (Nat.le_of_ble_eq_true rfl) (by simp [Value.category]) (fun X J hJ => ?_)
  show J 0 [some (.int (iZ k))] [] (I, A)
  refine v_ild0 (pc := 0) hJ dX11_tonesOf_0 ?_
  by_cases hsw1 : k < 0 ∨ 12 < k
  · refine v_tableOut (tgt := 119) (pc := 1) hJ dX11_tonesOf_1 (by omega) hsw1 (by decide) ?_
    refine v_sipush (pc := 119) hJ dX11_tonesOf_119 (by decide) ?_
    refine v_iret (pc := 122) hJ dX11_tonesOf_122 ⟨_, rfl, ?_⟩
    exact ⟨by first | rfl | (unfold kT; repeat (rw [if_neg (by omega)])), rfl⟩
  · rcases (show k = 0 ∨ k = 1 ∨ k = 2 ∨ k = 3 ∨ k = 4 ∨ k = 5 ∨ k = 6 ∨ k = 7 ∨ k = 8 ∨ k = 9 ∨ k = 10 ∨ k = 11 ∨ k = 12 by omega) with rfl | rfl | rfl | rfl | rfl | rfl | rfl | rfl | rfl | rfl | rfl | rfl | rfl
    · refine v_tableIn (off := 67) (tgt := 68) (pc := 1) hJ dX11_tonesOf_1 (by omega) (by decide) (by decide) rfl (by decide) ?_
      refine v_sipush (pc := 68) hJ dX11_tonesOf_68 (by decide) ?_
      refine v_iret (pc := 71) hJ dX11_tonesOf_71 ⟨_, rfl, ?_⟩
      exact ⟨by first | rfl | (unfold kT; repeat (rw [if_neg (by omega)])), rfl⟩
    · refine v_tableIn (off := 71) (tgt := 72) (pc := 1) hJ dX11_tonesOf_1 (by omega) (by decide) (by decide) rfl (by decide) ?_
      refine v_sipush (pc := 72) hJ dX11_tonesOf_72 (by decide) ?_
      refine v_iret (pc := 75) hJ dX11_tonesOf_75 ⟨_, rfl, ?_⟩
      exact ⟨by first | rfl | (unfold kT; repeat (rw [if_neg (by omega)])), rfl⟩
    · refine v_tableIn (off := 75) (tgt := 76) (pc := 1) hJ dX11_tonesOf_1 (by omega) (by decide) (by decide) rfl (by decide) ?_
      refine v_sipush (pc := 76) hJ dX11_tonesOf_76 (by decide) ?_
      refine v_iret (pc := 79) hJ dX11_tonesOf_79 ⟨_, rfl, ?_⟩
      exact ⟨by first | rfl | (unfold kT; repeat (rw [if_neg (by omega)])), rfl⟩
    · refine v_tableIn (off := 79) (tgt := 80) (pc := 1) hJ dX11_tonesOf_1 (by omega) (by decide) (by decide) rfl (by decide) ?_
      refine v_sipush (pc := 80) hJ dX11_tonesOf_80 (by decide) ?_
      refine v_iret (pc := 83) hJ dX11_tonesOf_83 ⟨_, rfl, ?_⟩
      exact ⟨by first | rfl | (unfold kT; repeat (rw [if_neg (by omega)])), rfl⟩
    · refine v_tableIn (off := 83) (tgt := 84) (pc := 1) hJ dX11_tonesOf_1 (by omega) (by decide) (by decide) rfl (by decide) ?_
      refine v_sipush (pc := 84) hJ dX11_tonesOf_84 (by decide) ?_
      refine v_iret (pc := 87) hJ dX11_tonesOf_87 ⟨_, rfl, ?_⟩
      exact ⟨by first | rfl | (unfold kT; repeat (rw [if_neg (by omega)])), rfl⟩
    · refine v_tableIn (off := 87) (tgt := 88) (pc := 1) hJ dX11_tonesOf_1 (by omega) (by decide) (by decide) rfl (by decide) ?_
      refine v_bipush (pc := 88) hJ dX11_tonesOf_88 (by decide) ?_
      refine v_iret (pc := 90) hJ dX11_tonesOf_90 ⟨_, rfl, ?_⟩
      exact ⟨by first | rfl | (unfold kT; repeat (rw [if_neg (by omega)])), rfl⟩
    · refine v_tableIn (off := 90) (tgt := 91) (pc := 1) hJ dX11_tonesOf_1 (by omega) (by decide) (by decide) rfl (by decide) ?_
      refine v_sipush (pc := 91) hJ dX11_tonesOf_91 (by decide) ?_
      refine v_iret (pc := 94) hJ dX11_tonesOf_94 ⟨_, rfl, ?_⟩
      exact ⟨by first | rfl | (unfold kT; repeat (rw [if_neg (by omega)])), rfl⟩
    · refine v_tableIn (off := 94) (tgt := 95) (pc := 1) hJ dX11_tonesOf_1 (by omega) (by decide) (by decide) rfl (by decide) ?_
      refine v_sipush (pc := 95) hJ dX11_tonesOf_95 (by decide) ?_
      refine v_iret (pc := 98) hJ dX11_tonesOf_98 ⟨_, rfl, ?_⟩
      exact ⟨by first | rfl | (unfold kT; repeat (rw [if_neg (by omega)])), rfl⟩
    · refine v_tableIn (off := 98) (tgt := 99) (pc := 1) hJ dX11_tonesOf_1 (by omega) (by decide) (by decide) rfl (by decide) ?_
      refine v_sipush (pc := 99) hJ dX11_tonesOf_99 (by decide) ?_
      refine v_iret (pc := 102) hJ dX11_tonesOf_102 ⟨_, rfl, ?_⟩
      exact ⟨by first | rfl | (unfold kT; repeat (rw [if_neg (by omega)])), rfl⟩
    · refine v_tableIn (off := 102) (tgt := 103) (pc := 1) hJ dX11_tonesOf_1 (by omega) (by decide) (by decide) rfl (by decide) ?_
      refine v_sipush (pc := 103) hJ dX11_tonesOf_103 (by decide) ?_
      refine v_iret (pc := 106) hJ dX11_tonesOf_106 ⟨_, rfl, ?_⟩
      exact ⟨by first | rfl | (unfold kT; repeat (rw [if_neg (by omega)])), rfl⟩
    · refine v_tableIn (off := 106) (tgt := 107) (pc := 1) hJ dX11_tonesOf_1 (by omega) (by decide) (by decide) rfl (by decide) ?_
      refine v_sipush (pc := 107) hJ dX11_tonesOf_107 (by decide) ?_
      refine v_iret (pc := 110) hJ dX11_tonesOf_110 ⟨_, rfl, ?_⟩
      exact ⟨by first | rfl | (unfold kT; repeat (rw [if_neg (by omega)])), rfl⟩
    · refine v_tableIn (off := 110) (tgt := 111) (pc := 1) hJ dX11_tonesOf_1 (by omega) (by decide) (by decide) rfl (by decide) ?_
      refine v_sipush (pc := 111) hJ dX11_tonesOf_111 (by decide) ?_
      refine v_iret (pc := 114) hJ dX11_tonesOf_114 ⟨_, rfl, ?_⟩
      exact ⟨by first | rfl | (unfold kT; repeat (rw [if_neg (by omega)])), rfl⟩
    · refine v_tableIn (off := 114) (tgt := 115) (pc := 1) hJ dX11_tonesOf_1 (by omega) (by decide) (by decide) rfl (by decide) ?_
      refine v_sipush (pc := 115) hJ dX11_tonesOf_115 (by decide) ?_
      refine v_iret (pc := 118) hJ dX11_tonesOf_118 ⟨_, rfl, ?_⟩
      exact ⟨by first | rfl | (unfold kT; repeat (rw [if_neg (by omega)])), rfl⟩
set_option maxHeartbeats 4000000 in
theorem qX11_placeOf {l : Launch} {D : va_G} {cI : ClassId} {ad : Nat → Nat} {O : OT} {adK adV : Nat → Nat} (hO : OG O adK adV) {I : Nat → Int} {A : Nat → Int → Int} {c : Int} (hc : inR c) : MC l D cI ad O yX11_placeOf cX11_placeOf 1 (some .int) 1 [.int (iZ c)] (I, A) (pI fun r u2 => r = plc c ∧ u2 = (I, A)) := by
  refine ct_intro (own := RX11) (by decide) rfl hO.1 (Nat.le_of_ble_eq_true rfl) (by simp [Value.category]) (fun X J hJ => ?_)
  show J 0 [some (.int (iZ c))] [] (I, A)
  refine v_ild0 (pc := 0) hJ dX11_placeOf_0 ?_
  by_cases hsw1 : c < 65 ∨ 71 < c
  · refine v_tableOut (tgt := 56) (pc := 1) hJ dX11_placeOf_1 (by omega) hsw1 (by decide) ?_
    refine v_iconst (pc := 56) hJ dX11_placeOf_56 ?_
    refine v_iret (pc := 57) hJ dX11_placeOf_57 ⟨_, rfl, ?_⟩
    exact ⟨by first | rfl | (unfold plc; repeat (rw [if_neg (by omega)])), rfl⟩
  · rcases (show c = 65 ∨ c = 66 ∨ c = 67 ∨ c = 68 ∨ c = 69 ∨ c = 70 ∨ c = 71 by omega) with rfl | rfl | rfl | rfl | rfl | rfl | rfl
    · refine v_tableIn (off := 51) (tgt := 52) (pc := 1) hJ dX11_placeOf_1 (by omega) (by decide) (by decide) rfl (by decide) ?_
      refine v_iconst (pc := 52) hJ dX11_placeOf_52 ?_
      refine v_iret (pc := 53) hJ dX11_placeOf_53 ⟨_, rfl, ?_⟩
      exact ⟨by first | rfl | (unfold plc; repeat (rw [if_neg (by omega)])), rfl⟩
    · refine v_tableIn (off := 55) (tgt := 56) (pc := 1) hJ dX11_placeOf_1 (by omega) (by decide) (by decide) rfl (by decide) ?_
      refine v_iconst (pc := 56) hJ dX11_placeOf_56 ?_
      refine v_iret (pc := 57) hJ dX11_placeOf_57 ⟨_, rfl, ?_⟩
      exact ⟨by first | rfl | (unfold plc; repeat (rw [if_neg (by omega)])), rfl⟩
    · refine v_tableIn (off := 45) (tgt := 46) (pc := 1) hJ dX11_placeOf_1 (by omega) (by decide) (by decide) rfl (by decide) ?_
      refine v_iconst (pc := 46) hJ dX11_placeOf_46 ?_
      refine v_iret (pc := 47) hJ dX11_placeOf_47 ⟨_, rfl, ?_⟩
      exact ⟨by first | rfl | (unfold plc; repeat (rw [if_neg (by omega)])), rfl⟩
    · refine v_tableIn (off := 49) (tgt := 50) (pc := 1) hJ dX11_placeOf_1 (by omega) (by decide) (by decide) rfl (by decide) ?_
      refine v_iconst (pc := 50) hJ dX11_placeOf_50 ?_
      refine v_iret (pc := 51) hJ dX11_placeOf_51 ⟨_, rfl, ?_⟩
      exact ⟨by first | rfl | (unfold plc; repeat (rw [if_neg (by omega)])), rfl⟩
    · refine v_tableIn (off := 53) (tgt := 54) (pc := 1) hJ dX11_placeOf_1 (by omega) (by decide) (by decide) rfl (by decide) ?_
      refine v_iconst (pc := 54) hJ dX11_placeOf_54 ?_
      refine v_iret (pc := 55) hJ dX11_placeOf_55 ⟨_, rfl, ?_⟩
      exact ⟨by first | rfl | (unfold plc; repeat (rw [if_neg (by omega)])), rfl⟩
    · refine v_tableIn (off := 43) (tgt := 44) (pc := 1) hJ dX11_placeOf_1 (by omega) (by decide) (by decide) rfl (by decide) ?_
      refine v_iconst (pc := 44) hJ dX11_placeOf_44 ?_
      refine v_iret (pc := 45) hJ dX11_placeOf_45 ⟨_, rfl, ?_⟩
      exact ⟨by first | rfl | (unfold plc; repeat (rw [if_neg (by omega)])), rfl⟩
    · refine v_tableIn (off := 47) (tgt := 48) (pc := 1) hJ dX11_placeOf_1 (by omega) (by decide) (by decide) rfl (by decide) ?_
      refine v_iconst (pc := 48) hJ dX11_placeOf_48 ?_
      refine v_iret (pc := 49) hJ dX11_placeOf_49 ⟨_, rfl, ?_⟩
      exact ⟨by first | rfl | (unfold plc; repeat (rw [if_neg (by omega)])), rfl⟩
set_option maxHeartbeats 4000000 in
theorem qX11_many {l : Launch} {D : va_G} {cI : ClassId} {ad : Nat → Nat} {O : OT} {adK adV : Nat → Nat} (hO : OG O adK adV) {I : Nat → Int} {A : Nat → Int → Int} {b : Int}  : MC l D cI ad O yX11_many cX11_many 3 (some .int) 1 [.int (iZ b)] (I, A) (pI fun r u2 => r = cntN b 12 ∧ u2 = (I, A)) := by
  refine ct_intro (own := RX11) (by decide) rfl hO.1 (Nat.le_of_ble_eq_true rfl) (by simp [Value.category]) (fun X J hJ => ?_)
  have lp : ∀ (n : Nat) (k : Nat), (k ≤ 12) → (12 - (k : Int)) < (n : Int) → J 4 [some (.int (iZ b)), some (.int (iZ (cntN b k))), some (.int (iZ (k : Int)))] [] (I, A) := by
    intro n
    induction n with
    | zero => intro k hk hmu; exfalso; omega
    | succ n ih =>
      intro k hk hmu
      refine v_ild2 (pc := 4) hJ dX11_many_4 ?_
      refine v_bipush (pc := 5) hJ dX11_many_5 (by decide) ?_
      refine v_icmp_ge (tgt := 24) (pc := 7) hJ dX11_many_7 (by decide) (by omega) (by omega) (fun h7 => ?_) (fun h7 => ?_)
      · refine v_ild1 (pc := 24) hJ dX11_many_24 ?_
        refine v_iret (pc := 25) hJ dX11_many_25 ⟨_, rfl, ?_⟩
        have e : k = 12 := by omega
        subst e
        exact ⟨rfl, rfl⟩
      · refine v_ild1 (pc := 10) hJ dX11_many_10 ?_
        refine v_ild0 (pc := 11) hJ dX11_many_11 ?_
        refine v_ild2 (pc := 12) hJ dX11_many_12 ?_
        refine v_ishr (pc := 13) hJ dX11_many_13 ?_
        refine v_iconst (pc := 14) hJ dX11_many_14 ?_
        refine v_iand (pc := 15) hJ dX11_many_15 ?_
        refine v_iadd (pc := 16) hJ dX11_many_16 ?_
        refine v_ist1 (pc := 17) hJ dX11_many_17 (by decide) ?_
        refine v_inc2 (pc := 18) hJ dX11_many_18 (by decide) ?_
        refine v_goto (tgt := 4) (pc := 21) hJ dX11_many_21 (by decide) ?_
        exact ih (k + 1) (by omega) (by omega)
  show J 0 [some (.int (iZ b)), none, none] [] (I, A)
  refine v_iconst (pc := 0) hJ dX11_many_0 ?_
  refine v_ist1 (pc := 1) hJ dX11_many_1 (by decide) ?_
  refine v_iconst (pc := 2) hJ dX11_many_2 ?_
  refine v_ist2 (pc := 3) hJ dX11_many_3 (by decide) ?_
  exact lp 13 0 (by omega) (by omega)
set_option maxHeartbeats 4000000 in
theorem qX11_within {l : Launch} {D : va_G} {cI : ClassId} {ad : Nat → Nat} {O : OT} {adK adV : Nat → Nat} (hO : OG O adK adV) {I : Nat → Int} {A : Nat → Int → Int} {p : Int} (hp : -900 < p ∧ p < 900) : MC l D cI ad O yX11_within cX11_within 2 (some .int) 1 [.int (iZ p)] (I, A) (pI fun r u2 => r = wi p ∧ u2 = (I, A)) := by
  refine ct_intro (own := RX11) (by decide) rfl hO.1 (Nat.le_of_ble_eq_true rfl) (by simp [Value.category]) (fun X J hJ => ?_)
  have up : ∀ (n : Nat) (z : Int), (z < 20) → (-900 < z) → (wi z = wi p) → (-z + 20) < (n : Int) → J 14 [some (.int (iZ p)), some (.int (iZ z))] [] (I, A) := by
    intro n
    induction n with
    | zero => intro z h1 h2 h3 hmu; exfalso; omega
    | succ n ih =>
      intro z h1 h2 h3 hmu
      refine v_ild1 (pc := 14) hJ dX11_within_14 ?_
      refine v_bipush (pc := 15) hJ dX11_within_15 (by decide) ?_
      refine v_icmp_ge (tgt := 26) (pc := 17) hJ dX11_within_17 (by decide) (by omega) (by omega) (fun h17 => ?_) (fun h17 => ?_)
      · refine v_ild1 (pc := 26) hJ dX11_within_26 ?_
        refine v_iret (pc := 27) hJ dX11_within_27 ⟨_, rfl, ?_⟩
        exact ⟨by rw [← h3, wi_id (by omega) (by omega)], rfl⟩
      · refine v_inc1 (pc := 20) hJ dX11_within_20 (by decide) ?_
        refine v_goto (tgt := 14) (pc := 23) hJ dX11_within_23 (by decide) ?_
        exact ih (z + 12) (by omega) (by omega) (by rw [← h3]; exact wi_up (by omega) (by omega)) (by omega)
  have dn : ∀ (n : Nat) (z : Int), (z < 900) → (-900 < z) → (wi z = wi p) → (z + 1000) < (n : Int) → J 2 [some (.int (iZ p)), some (.int (iZ z))] [] (I, A) := by
    intro n
    induction n with
    | zero => intro z h1 h2 h3 hmu; exfalso; omega
    | succ n ih =>
      intro z h1 h2 h3 hmu
      refine v_ild1 (pc := 2) hJ dX11_within_2 ?_
      refine v_bipush (pc := 3) hJ dX11_within_3 (by decide) ?_
      refine v_icmp_le (tgt := 14) (pc := 5) hJ dX11_within_5 (by decide) (by omega) (by omega) (fun h5 => ?_) (fun h5 => ?_)
      · exact up 1000 z (by omega) h2 h3 (by omega)
      · refine v_inc1 (pc := 8) hJ dX11_within_8 (by decide) ?_
        refine v_goto (tgt := 2) (pc := 11) hJ dX11_within_11 (by decide) ?_
        exact ih (z + -12) (by omega) (by omega) (by rw [← h3]; exact wi_dn (by omega) (by omega)) (by omega)
  show J 0 [some (.int (iZ p)), none] [] (I, A)
  refine v_ild0 (pc := 0) hJ dX11_within_0 ?_
  refine v_ist1 (pc := 1) hJ dX11_within_1 (by decide) ?_
  exact dn 2000 p hp.2 hp.1 rfl (by omega)
end
section
theorem qX11_right1 {l : Launch} {D : va_G} {cI : ClassId} {ad : Nat → Nat} {O : OT} {adK adV : Nat → Nat} (hO : OG O adK adV) {I : Nat → Int} {A : Nat → Int → Int} {w : Int} (h0 : I 0 = 0) : MC l D cI ad O yX11_right cX11_right 3 (some .boolean) 1 [.ref (ad 0), .int (iZ 1), .int (iZ w)] (I, A) (pI fun r u2 => r = 1 ∧ u2 = (I, A)) := by
  refine ct_intro (own := RX11) (by decide) rfl hO.1 (Nat.le_of_ble_eq_true rfl) (by simp [Value.category]) (fun X J hJ => ?_)
  show J 0 [some (.ref (ad 0)), some (.int (iZ 1)), some (.int (iZ w))] [] (I, A)
  refine v_ald0 (pc := 0) hJ dX11_right_0 ?_
  refine mg0 (pc := 1) hJ dX11_right_1 ?_
  refine v_if_ne (tgt := 16) (pc := 4) hJ dX11_right_4 (by decide) (by omega) (fun h4 => ?_) (fun h4 => ?_)
  · exact absurd h0 h4
  · refine v_ild1 (pc := 7) hJ dX11_right_7 ?_
    refine v_if_ne (tgt := 16) (pc := 8) hJ dX11_right_8 (by decide) (by omega) (fun h8 => ?_) (fun h8 => ?_)
    · refine v_ald0 (pc := 16) hJ dX11_right_16 ?_
      refine mg0 (pc := 17) hJ dX11_right_17 ?_
      refine v_if_ne (tgt := 27) (pc := 20) hJ dX11_right_20 (by decide) (by omega) (fun h20 => ?_) (fun h20 => ?_)
      · exact absurd h0 h20
      · refine v_iconst (pc := 23) hJ dX11_right_23 ?_
        refine v_goto (tgt := 28) (pc := 24) hJ dX11_right_24 (by decide) ?_
        refine v_zret (pc := 28) hJ rfl dX11_right_28 ⟨_, rfl, ?_⟩
        exact ⟨rfl, rfl⟩
    · exact absurd h8 (by decide)
theorem qX11_right0 {l : Launch} {D : va_G} {cI : ClassId} {ad : Nat → Nat} {O : OT} {adK adV : Nat → Nat} (hO : OG O adK adV) {I : Nat → Int} {A : Nat → Int → Int} {w : Int} (h0 : I 0 = 0) (hw : 0 < w ∧ w < 100) : MC l D cI ad O yX11_right cX11_right 3 (some .boolean) 1 [.ref (ad 0), .int (iZ 0), .int (iZ w)] (I, A) (pI fun r u2 => r = 0 ∧ u2 = (va_up I 0 w, A)) := by
  refine ct_intro (own := RX11) (by decide) rfl hO.1 (Nat.le_of_ble_eq_true rfl) (by simp [Value.category]) (fun X J hJ => ?_)
  show J 0 [some (.ref (ad 0)), some (.int (iZ 0)), some (.int (iZ w))] [] (I, A)
  refine v_ald0 (pc := 0) hJ dX11_right_0 ?_
  refine mg0 (pc := 1) hJ dX11_right_1 ?_
  refine v_if_ne (tgt := 16) (pc := 4) hJ dX11_right_4 (by decide) (by omega) (fun h4 => ?_) (fun h4 => ?_)
  · exact absurd h0 h4
  · refine v_ild1 (pc := 7) hJ dX11_right_7 ?_
    refine v_if_ne (tgt := 16) (pc := 8) hJ dX11_right_8 (by decide) (by omega) (fun h8 => ?_) (fun h8 => ?_)
    · exact absurd rfl h8
    · refine v_ald0 (pc := 11) hJ dX11_right_11 ?_
      refine v_ild2 (pc := 12) hJ dX11_right_12 ?_
      refine mp0 (pc := 13) hJ dX11_right_13 ?_
      refine v_ald0 (pc := 16) hJ dX11_right_16 ?_
      refine mg0 (pc := 17) hJ dX11_right_17 ?_
      try simp only [up_s, up_n, up_up, ne_eq, Nat.reduceEqDiff, not_false_eq_true]
      refine v_if_ne (tgt := 27) (pc := 20) hJ dX11_right_20 (by decide) (by omega) (fun h20 => ?_) (fun h20 => ?_)
      · refine v_iconst (pc := 27) hJ dX11_right_27 ?_
        refine v_zret (pc := 28) hJ rfl dX11_right_28 ⟨_, rfl, ?_⟩
        exact ⟨rfl, rfl⟩
      · omega
set_option maxHeartbeats 4000000 in
theorem qX11_fault {l : Launch} {D : va_G} {cI : ClassId} {ad : Nat → Nat} {O : OT} {adK adV : Nat → Nat} (hO : OG O adK adV) {I : Nat → Int} {A : Nat → Int → Int} {w : Int} (hw : inR w) : MC l D cI ad O yX11_fault cX11_fault 2 (some .int) 2 [.ref (ad 0), .int (iZ w)] (I, A) (pI fun r u2 => (w = 0 → r = I 3 ∧ u2 = (va_up I 0 0, A)) ∧ (w = 1 → r = I 4 ∧ u2 = (va_up I 0 0, A)) ∧ (w ≠ 0 → w ≠ 1 → u2 = (va_up I 0 1, A))) := by
  refine ct_intro (own := RX11) (by decide) rfl hO.1 (Nat.le_of_ble_eq_true rfl) (by simp [Value.category]) (fun X J hJ => ?_)
  show J 0 [some (.ref (ad 0)), some (.int (iZ w))] [] (I, A)
  refine v_ald0 (pc := 0) hJ dX11_fault_0 ?_
  refine v_iconst (pc := 1) hJ dX11_fault_1 ?_
  refine mp0 (pc := 2) hJ dX11_fault_2 ?_
  refine v_ald0 (pc := 5) hJ dX11_fault_5 ?_
  refine v_ild1 (pc := 6) hJ dX11_fault_6 ?_
  refine v_if_eq (tgt := 15) (pc := 7) hJ dX11_fault_7 (by decide) (by omega) (fun h7 => ?_) (fun h7 => ?_)
  · refine v_iconst (pc := 15) hJ dX11_fault_15 ?_
    refine v_goto (tgt := 20) (pc := 16) hJ dX11_fault_16 (by decide) ?_
    refine v_iconst (pc := 20) hJ dX11_fault_20 ?_
    refine v_cV2i (pc := 21) (q0 := 0) (ci := 8) hJ rfl rfl lkX11_190 (qX11_right1 hO (by first | (simp only [up_s, up_n, up_up, ne_eq, Nat.reduceEqDiff, not_false_eq_true]; done) | assumption | (simp only [up_s, up_n, up_up, ne_eq, Nat.reduceEqDiff, not_false_eq_true]; assumption))) (Nat.le_of_ble_eq_true rfl) (rOk_L (by decide) (by decide)) dX11_fault_21 (fun r21 u21 g21 => ?_)
    obtain ⟨rfl, rfl⟩ := g21
    try simp only [up_s, up_n, up_up, ne_eq, Nat.reduceEqDiff, not_false_eq_true]
    refine v_if_ne (tgt := 29) (pc := 24) hJ dX11_fault_24 (by decide) (by decide) (fun _ => ?_) (fun h => by first | exact absurd h (by decide) | exact absurd (by decide) h)
    refine v_ild1 (pc := 29) hJ dX11_fault_29 ?_
    refine v_if_ne (tgt := 40) (pc := 30) hJ dX11_fault_30 (by decide) (by omega) (fun h30 => ?_) (fun h30 => ?_)
    · refine v_ald0 (pc := 40) hJ dX11_fault_40 ?_
      refine mg4 (pc := 41) hJ dX11_fault_41 ?_
      try simp only [up_s, up_n, up_up, ne_eq, Nat.reduceEqDiff, not_false_eq_true]
      refine v_iret (pc := 44) hJ dX11_fault_44 ⟨_, rfl, ?_⟩
      refine ⟨fun q => ?_, fun q => ?_, fun q1 q2 => ?_⟩ <;> first | (exfalso; omega) | exact ⟨rfl, rfl⟩ | simp only [up_up]
    · refine v_ald0 (pc := 33) hJ dX11_fault_33 ?_
      refine mg3 (pc := 34) hJ dX11_fault_34 ?_
      try simp only [up_s, up_n, up_up, ne_eq, Nat.reduceEqDiff, not_false_eq_true]
      refine v_goto (tgt := 44) (pc := 37) hJ dX11_fault_37 (by decide) ?_
      refine v_iret (pc := 44) hJ dX11_fault_44 ⟨_, rfl, ?_⟩
      refine ⟨fun q => ?_, fun q => ?_, fun q1 q2 => ?_⟩ <;> first | (exfalso; omega) | exact ⟨rfl, rfl⟩ | simp only [up_up]
  · refine v_ild1 (pc := 10) hJ dX11_fault_10 ?_
    refine v_iconst (pc := 11) hJ dX11_fault_11 ?_
    refine v_icmp_ne (tgt := 19) (pc := 12) hJ dX11_fault_12 (by decide) (by omega) (by omega) (fun h12 => ?_) (fun h12 => ?_)
    · refine v_iconst (pc := 19) hJ dX11_fault_19 ?_
      refine v_iconst (pc := 20) hJ dX11_fault_20 ?_
      refine v_cV2i (pc := 21) (q0 := 0) (ci := 8) hJ rfl rfl lkX11_190 (qX11_right0 hO (by first | (simp only [up_s, up_n, up_up, ne_eq, Nat.reduceEqDiff, not_false_eq_true]; done) | assumption | (simp only [up_s, up_n, up_up, ne_eq, Nat.reduceEqDiff, not_false_eq_true]; assumption)) (by decide)) (Nat.le_of_ble_eq_true rfl) (rOk_L (by decide) (by decide)) dX11_fault_21 (fun r21 u21 g21 => ?_)
      obtain ⟨rfl, rfl⟩ := g21
      try simp only [up_s, up_n, up_up, ne_eq, Nat.reduceEqDiff, not_false_eq_true]
      refine v_if_ne (tgt := 29) (pc := 24) hJ dX11_fault_24 (by decide) (by decide) (fun h => by first | exact absurd h (by decide) | exact absurd (by decide) h) (fun _ => ?_)
      refine v_iconst (pc := 27) hJ dX11_fault_27 ?_
      refine v_iret (pc := 28) hJ dX11_fault_28 ⟨_, rfl, ?_⟩
      refine ⟨fun q => ?_, fun q => ?_, fun q1 q2 => ?_⟩ <;> first | (exfalso; omega) | exact ⟨rfl, rfl⟩ | simp only [up_up]
    · refine v_iconst (pc := 15) hJ dX11_fault_15 ?_
      refine v_goto (tgt := 20) (pc := 16) hJ dX11_fault_16 (by decide) ?_
      refine v_iconst (pc := 20) hJ dX11_fault_20 ?_
      refine v_cV2i (pc := 21) (q0 := 0) (ci := 8) hJ rfl rfl lkX11_190 (qX11_right1 hO (by first | (simp only [up_s, up_n, up_up, ne_eq, Nat.reduceEqDiff, not_false_eq_true]; done) | assumption | (simp only [up_s, up_n, up_up, ne_eq, Nat.reduceEqDiff, not_false_eq_true]; assumption))) (Nat.le_of_ble_eq_true rfl) (rOk_L (by decide) (by decide)) dX11_fault_21 (fun r21 u21 g21 => ?_)
      obtain ⟨rfl, rfl⟩ := g21
      try simp only [up_s, up_n, up_up, ne_eq, Nat.reduceEqDiff, not_false_eq_true]
      refine v_if_ne (tgt := 29) (pc := 24) hJ dX11_fault_24 (by decide) (by decide) (fun _ => ?_) (fun h => by first | exact absurd h (by decide) | exact absurd (by decide) h)
      refine v_ild1 (pc := 29) hJ dX11_fault_29 ?_
      refine v_if_ne (tgt := 40) (pc := 30) hJ dX11_fault_30 (by decide) (by omega) (fun h30 => ?_) (fun h30 => ?_)
      · refine v_ald0 (pc := 40) hJ dX11_fault_40 ?_
        refine mg4 (pc := 41) hJ dX11_fault_41 ?_
        try simp only [up_s, up_n, up_up, ne_eq, Nat.reduceEqDiff, not_false_eq_true]
        refine v_iret (pc := 44) hJ dX11_fault_44 ⟨_, rfl, ?_⟩
        refine ⟨fun q => ?_, fun q => ?_, fun q1 q2 => ?_⟩ <;> first | (exfalso; omega) | exact ⟨rfl, rfl⟩ | simp only [up_up]
      · refine v_ald0 (pc := 33) hJ dX11_fault_33 ?_
        refine mg3 (pc := 34) hJ dX11_fault_34 ?_
        try simp only [up_s, up_n, up_up, ne_eq, Nat.reduceEqDiff, not_false_eq_true]
        refine v_goto (tgt := 44) (pc := 37) hJ dX11_fault_37 (by decide) ?_
        refine v_iret (pc := 44) hJ dX11_fault_44 ⟨_, rfl, ?_⟩
        refine ⟨fun q => ?_, fun q => ?_, fun q1 q2 => ?_⟩ <;> first | (exfalso; omega) | exact ⟨rfl, rfl⟩ | simp only [up_up]
set_option maxHeartbeats 4000000 in
theorem qX11_key {l : Launch} {D : va_G} {cI : ClassId} {ad : Nat → Nat} {O : OT} {adK adV : Nat → Nat} (hO : OG O adK adV) {I : Nat → Int} {A : Nat → Int → Int} {k : Int} (hk : inR k) : MC l D cI ad O yX11_key cX11_key 3 (some .int) 2 [.ref (ad 0), .int (iZ k)] (I, A) (pI fun r u2 => (-7 ≤ k ∧ k ≤ 7 → r = I 8 ∧ u2 = (va_up (va_up I 0 0) 8 k, A)) ∧ (¬ (-7 ≤ k ∧ k ≤ 7) → u2 = (va_up I 0 1, A))) := by
  refine ct_intro (own := RX11) (by decide) rfl hO.1 (Nat.le_of_ble_eq_true rfl) (by simp [Value.category]) (fun X J hJ => ?_)
  show J 0 [some (.ref (ad 0)), some (.int (iZ k)), none] [] (I, A)
  refine v_ald0 (pc := 0) hJ dX11_key_0 ?_
  refine v_iconst (pc := 1) hJ dX11_key_1 ?_
  refine mp0 (pc := 2) hJ dX11_key_2 ?_
  refine v_ald0 (pc := 5) hJ dX11_key_5 ?_
  refine v_ild1 (pc := 6) hJ dX11_key_6 ?_
  refine v_bipush (pc := 7) hJ dX11_key_7 (by decide) ?_
  refine v_icmp_lt (tgt := 22) (pc := 9) hJ dX11_key_9 (by decide) (by omega) (by omega) (fun h9 => ?_) (fun h9 => ?_)
  · refine v_iconst (pc := 22) hJ dX11_key_22 ?_
    refine v_iconst (pc := 23) hJ dX11_key_23 ?_
    refine v_cV2i (pc := 24) (q0 := 0) (ci := 8) hJ rfl rfl lkX11_190 (qX11_right0 hO (by first | (simp only [up_s, up_n, up_up, ne_eq, Nat.reduceEqDiff, not_false_eq_true]; done) | assumption | (simp only [up_s, up_n, up_up, ne_eq, Nat.reduceEqDiff, not_false_eq_true]; assumption)) (by decide)) (Nat.le_of_ble_eq_true rfl) (rOk_L (by decide) (by decide)) dX11_key_24 (fun r24 u24 g24 => ?_)
    obtain ⟨rfl, rfl⟩ := g24
    try simp only [up_s, up_n, up_up, ne_eq, Nat.reduceEqDiff, not_false_eq_true]
    refine v_if_ne (tgt := 32) (pc := 27) hJ dX11_key_27 (by decide) (by decide) (fun h => by first | exact absurd h (by decide) | exact absurd (by decide) h) (fun _ => ?_)
    refine v_iconst (pc := 30) hJ dX11_key_30 ?_
    refine v_iret (pc := 31) hJ dX11_key_31 ⟨_, rfl, ?_⟩
    refine ⟨fun q => ?_, fun q => ?_⟩ <;> first | (exfalso; omega) | exact ⟨rfl, rfl⟩ | simp only [up_up]
  · refine v_ild1 (pc := 12) hJ dX11_key_12 ?_
    refine v_bipush (pc := 13) hJ dX11_key_13 (by decide) ?_
    refine v_icmp_gt (tgt := 22) (pc := 15) hJ dX11_key_15 (by decide) (by omega) (by omega) (fun h15 => ?_) (fun h15 => ?_)
    · refine v_iconst (pc := 22) hJ dX11_key_22 ?_
      refine v_iconst (pc := 23) hJ dX11_key_23 ?_
      refine v_cV2i (pc := 24) (q0 := 0) (ci := 8) hJ rfl rfl lkX11_190 (qX11_right0 hO (by first | (simp only [up_s, up_n, up_up, ne_eq, Nat.reduceEqDiff, not_false_eq_true]; done) | assumption | (simp only [up_s, up_n, up_up, ne_eq, Nat.reduceEqDiff, not_false_eq_true]; assumption)) (by decide)) (Nat.le_of_ble_eq_true rfl) (rOk_L (by decide) (by decide)) dX11_key_24 (fun r24 u24 g24 => ?_)
      obtain ⟨rfl, rfl⟩ := g24
      try simp only [up_s, up_n, up_up, ne_eq, Nat.reduceEqDiff, not_false_eq_true]
      refine v_if_ne (tgt := 32) (pc := 27) hJ dX11_key_27 (by decide) (by decide) (fun h => by first | exact absurd h (by decide) | exact absurd (by decide) h) (fun _ => ?_)
      refine v_iconst (pc := 30) hJ dX11_key_30 ?_
      refine v_iret (pc := 31) hJ dX11_key_31 ⟨_, rfl, ?_⟩
      refine ⟨fun q => ?_, fun q => ?_⟩ <;> first | (exfalso; omega) | exact ⟨rfl, rfl⟩ | simp only [up_up]
    · refine v_iconst (pc := 18) hJ dX11_key_18 ?_
      refine v_goto (tgt := 23) (pc := 19) hJ dX11_key_19 (by decide) ?_
      refine v_iconst (pc := 23) hJ dX11_key_23 ?_
      refine v_cV2i (pc := 24) (q0 := 0) (ci := 8) hJ rfl rfl lkX11_190 (qX11_right1 hO (by first | (simp only [up_s, up_n, up_up, ne_eq, Nat.reduceEqDiff, not_false_eq_true]; done) | assumption | (simp only [up_s, up_n, up_up, ne_eq, Nat.reduceEqDiff, not_false_eq_true]; assumption))) (Nat.le_of_ble_eq_true rfl) (rOk_L (by decide) (by decide)) dX11_key_24 (fun r24 u24 g24 => ?_)
      obtain ⟨rfl, rfl⟩ := g24
      try simp only [up_s, up_n, up_up, ne_eq, Nat.reduceEqDiff, not_false_eq_true]
      refine v_if_ne (tgt := 32) (pc := 27) hJ dX11_key_27 (by decide) (by decide) (fun _ => ?_) (fun h => by first | exact absurd h (by decide) | exact absurd (by decide) h)
      refine v_ald0 (pc := 32) hJ dX11_key_32 ?_
      refine mg8 (pc := 33) hJ dX11_key_33 ?_
      try simp only [up_s, up_n, up_up, ne_eq, Nat.reduceEqDiff, not_false_eq_true]
      refine v_ist2 (pc := 36) hJ dX11_key_36 (by decide) ?_
      refine v_ald0 (pc := 37) hJ dX11_key_37 ?_
      refine v_ild1 (pc := 38) hJ dX11_key_38 ?_
      refine mp8 (pc := 39) hJ dX11_key_39 ?_
      refine v_ild2 (pc := 42) hJ dX11_key_42 ?_
      refine v_iret (pc := 43) hJ dX11_key_43 ⟨_, rfl, ?_⟩
      refine ⟨fun q => ?_, fun q => ?_⟩ <;> first | (exfalso; omega) | exact ⟨rfl, rfl⟩ | simp only [up_up]
set_option maxHeartbeats 4000000 in
theorem qX11_isChord {l : Launch} {D : va_G} {cI : ClassId} {ad : Nat → Nat} {O : OT} {adK adV : Nat → Nat} (hO : OG O adK adV) {I : Nat → Int} {A : Nat → Int → Int} {i : Int} (hi : inR i) (h6 : inR (I 6)) : MC l D cI ad O yX11_isChord cX11_isChord 2 (some .boolean) 2 [.ref (ad 0), .int (iZ i)] (I, A) (pI fun r u2 => (0 ≤ i ∧ i < I 6 → r = 1 ∧ u2 = (va_up I 0 0, A)) ∧ (¬ (0 ≤ i ∧ i < I 6) → r = 0 ∧ u2 = (va_up I 0 1, A))) := by
  refine ct_intro (own := RX11) (by decide) rfl hO.1 (Nat.le_of_ble_eq_true rfl) (by simp [Value.category]) (fun X J hJ => ?_)
  show J 0 [some (.ref (ad 0)), some (.int (iZ i))] [] (I, A)
  refine v_ald0 (pc := 0) hJ dX11_isChord_0 ?_
  refine v_iconst (pc := 1) hJ dX11_isChord_1 ?_
  refine mp0 (pc := 2) hJ dX11_isChord_2 ?_
  refine v_ald0 (pc := 5) hJ dX11_isChord_5 ?_
  refine v_ild1 (pc := 6) hJ dX11_isChord_6 ?_
  refine v_if_lt (tgt := 22) (pc := 7) hJ dX11_isChord_7 (by decide) (by omega) (fun h7 => ?_) (fun h7 => ?_)
  · refine v_iconst (pc := 22) hJ dX11_isChord_22 ?_
    refine v_iconst (pc := 23) hJ dX11_isChord_23 ?_
    refine v_cV2i (pc := 24) (q0 := 0) (ci := 8) hJ rfl rfl lkX11_190 (qX11_right0 hO (by first | (simp only [up_s, up_n, up_up, ne_eq, Nat.reduceEqDiff, not_false_eq_true]; done) | assumption | (simp only [up_s, up_n, up_up, ne_eq, Nat.reduceEqDiff, not_false_eq_true]; assumption)) (by decide)) (Nat.le_of_ble_eq_true rfl) (rOk_L (by decide) (by decide)) dX11_isChord_24 (fun r24 u24 g24 => ?_)
    obtain ⟨rfl, rfl⟩ := g24
    try simp only [up_s, up_n, up_up, ne_eq, Nat.reduceEqDiff, not_false_eq_true]
    refine v_zret (pc := 27) hJ rfl dX11_isChord_27 ⟨_, rfl, ?_⟩
    refine ⟨fun q => ?_, fun q => ?_⟩ <;> first | (exfalso; omega) | exact ⟨rfl, rfl⟩ | (simp only [up_up]; exact ⟨trivial, trivial⟩) | simp only [up_up, and_self]
  · refine v_ild1 (pc := 10) hJ dX11_isChord_10 ?_
    refine v_ald0 (pc := 11) hJ dX11_isChord_11 ?_
    refine mg6 (pc := 12) hJ dX11_isChord_12 ?_
    try simp only [up_s, up_n, up_up, ne_eq, Nat.reduceEqDiff, not_false_eq_true]
    refine v_icmp_ge (tgt := 22) (pc := 15) hJ dX11_isChord_15 (by decide) (by omega) (by omega) (fun h15 => ?_) (fun h15 => ?_)
    · refine v_iconst (pc := 22) hJ dX11_isChord_22 ?_
      refine v_iconst (pc := 23) hJ dX11_isChord_23 ?_
      refine v_cV2i (pc := 24) (q0 := 0) (ci := 8) hJ rfl rfl lkX11_190 (qX11_right0 hO (by first | (simp only [up_s, up_n, up_up, ne_eq, Nat.reduceEqDiff, not_false_eq_true]; done) | assumption | (simp only [up_s, up_n, up_up, ne_eq, Nat.reduceEqDiff, not_false_eq_true]; assumption)) (by decide)) (Nat.le_of_ble_eq_true rfl) (rOk_L (by decide) (by decide)) dX11_isChord_24 (fun r24 u24 g24 => ?_)
      obtain ⟨rfl, rfl⟩ := g24
      try simp only [up_s, up_n, up_up, ne_eq, Nat.reduceEqDiff, not_false_eq_true]
      refine v_zret (pc := 27) hJ rfl dX11_isChord_27 ⟨_, rfl, ?_⟩
      refine ⟨fun q => ?_, fun q => ?_⟩ <;> first | (exfalso; omega) | exact ⟨rfl, rfl⟩ | (simp only [up_up]; exact ⟨trivial, trivial⟩) | simp only [up_up, and_self]
    · refine v_iconst (pc := 18) hJ dX11_isChord_18 ?_
      refine v_goto (tgt := 23) (pc := 19) hJ dX11_isChord_19 (by decide) ?_
      refine v_iconst (pc := 23) hJ dX11_isChord_23 ?_
      refine v_cV2i (pc := 24) (q0 := 0) (ci := 8) hJ rfl rfl lkX11_190 (qX11_right1 hO (by first | (simp only [up_s, up_n, up_up, ne_eq, Nat.reduceEqDiff, not_false_eq_true]; done) | assumption | (simp only [up_s, up_n, up_up, ne_eq, Nat.reduceEqDiff, not_false_eq_true]; assumption))) (Nat.le_of_ble_eq_true rfl) (rOk_L (by decide) (by decide)) dX11_isChord_24 (fun r24 u24 g24 => ?_)
      obtain ⟨rfl, rfl⟩ := g24
      try simp only [up_s, up_n, up_up, ne_eq, Nat.reduceEqDiff, not_false_eq_true]
      refine v_zret (pc := 27) hJ rfl dX11_isChord_27 ⟨_, rfl, ?_⟩
      refine ⟨fun q => ?_, fun q => ?_⟩ <;> first | (exfalso; omega) | exact ⟨rfl, rfl⟩ | (simp only [up_up]; exact ⟨trivial, trivial⟩) | simp only [up_up, and_self]
set_option maxHeartbeats 4000000 in
theorem qX11_told {l : Launch} {D : va_G} {cI : ClassId} {ad : Nat → Nat} {O : OT} {adK adV : Nat → Nat} (hO : OG O adK adV) {I : Nat → Int} {A : Nat → Int → Int} {k : Int} (hk : inR k) (h26 : 0 ≤ I 26 ∧ I 26 < 100000) : MC l D cI ad O yX11_told cX11_told 2 (some .int) 2 [.ref (ad 0), .int (iZ k)] (I, A) (pI fun r u2 => (0 ≤ k ∧ k < (if I 26 < 4000 then I 26 else 4000) → r = A 25 k ∧ u2 = (va_up I 0 0, A)) ∧ (¬ (0 ≤ k ∧ k < (if I 26 < 4000 then I 26 else 4000)) → u2 = (va_up I 0 1, A))) := by
  refine ct_intro (own := RX11) (by decide) rfl hO.1 (Nat.le_of_ble_eq_true rfl) (by simp [Value.category]) (fun X J hJ => ?_)
  show J 0 [some (.ref (ad 0)), some (.int (iZ k))] [] (I, A)
  refine v_ald0 (pc := 0) hJ dX11_told_0 ?_
  refine v_iconst (pc := 1) hJ dX11_told_1 ?_
  refine mp0 (pc := 2) hJ dX11_told_2 ?_
  refine v_ald0 (pc := 5) hJ dX11_told_5 ?_
  refine v_ild1 (pc := 6) hJ dX11_told_6 ?_
  refine v_if_lt (tgt := 22) (pc := 7) hJ dX11_told_7 (by decide) (by omega) (fun h7 => ?_) (fun h7 => ?_)
  · refine v_iconst (pc := 22) hJ dX11_told_22 ?_
    refine v_iconst (pc := 23) hJ dX11_told_23 ?_
    refine v_cV2i (pc := 24) (q0 := 0) (ci := 8) hJ rfl rfl lkX11_190 (qX11_right0 hO (by first | (simp only [up_s, up_n, up_up, ne_eq, Nat.reduceEqDiff, not_false_eq_true]; done) | assumption | (simp only [up_s, up_n, up_up, ne_eq, Nat.reduceEqDiff, not_false_eq_true]; assumption)) (by decide)) (Nat.le_of_ble_eq_true rfl) (rOk_L (by decide) (by decide)) dX11_told_24 (fun r24 u24 g24 => ?_)
    obtain ⟨rfl, rfl⟩ := g24
    try simp only [up_s, up_n, up_up, ne_eq, Nat.reduceEqDiff, not_false_eq_true]
    refine v_if_eq (tgt := 39) (pc := 27) hJ dX11_told_27 (by decide) (by decide) (fun _ => ?_) (fun h => by first | exact absurd h (by decide) | exact absurd (by decide) h)
    refine v_iconst (pc := 39) hJ dX11_told_39 ?_
    refine v_iret (pc := 40) hJ dX11_told_40 ⟨_, rfl, ?_⟩
    refine ⟨fun q => ?_, fun q => ?_⟩ <;> first | (exfalso; omega) | exact ⟨rfl, rfl⟩ | simp only [up_up]
  · refine v_ild1 (pc := 10) hJ dX11_told_10 ?_
    refine v_ald0 (pc := 11) hJ dX11_told_11 ?_
    refine v_cV0i (pc := 12) (q0 := 0) (ci := 8) hJ rfl rfl lkX11_261 (qX11_kept hO (by simp only [up_s, up_n, up_up, ne_eq, Nat.reduceEqDiff, not_false_eq_true]; omega)) (Nat.le_of_ble_eq_true rfl) (rOk_L (by decide) (by decide)) dX11_told_12 (fun r12 u12 g12 => ?_)
    obtain ⟨rfl, rfl⟩ := g12
    try simp only [up_s, up_n, up_up, ne_eq, Nat.reduceEqDiff, not_false_eq_true]
    refine v_icmp_ge (tgt := 22) (pc := 15) hJ dX11_told_15 (by decide) (by omega) (by omega) (fun h15 => ?_) (fun h15 => ?_)
    · refine v_iconst (pc := 22) hJ dX11_told_22 ?_
      refine v_iconst (pc := 23) hJ dX11_told_23 ?_
      refine v_cV2i (pc := 24) (q0 := 0) (ci := 8) hJ rfl rfl lkX11_190 (qX11_right0 hO (by first | (simp only [up_s, up_n, up_up, ne_eq, Nat.reduceEqDiff, not_false_eq_true]; done) | assumption | (simp only [up_s, up_n, up_up, ne_eq, Nat.reduceEqDiff, not_false_eq_true]; assumption)) (by decide)) (Nat.le_of_ble_eq_true rfl) (rOk_L (by decide) (by decide)) dX11_told_24 (fun r24 u24 g24 => ?_)
      obtain ⟨rfl, rfl⟩ := g24
      try simp only [up_s, up_n, up_up, ne_eq, Nat.reduceEqDiff, not_false_eq_true]
      refine v_if_eq (tgt := 39) (pc := 27) hJ dX11_told_27 (by decide) (by decide) (fun _ => ?_) (fun h => by first | exact absurd h (by decide) | exact absurd (by decide) h)
      refine v_iconst (pc := 39) hJ dX11_told_39 ?_
      refine v_iret (pc := 40) hJ dX11_told_40 ⟨_, rfl, ?_⟩
      refine ⟨fun q => ?_, fun q => ?_⟩ <;> first | (exfalso; omega) | exact ⟨rfl, rfl⟩ | simp only [up_up]
    · refine v_iconst (pc := 18) hJ dX11_told_18 ?_
      refine v_goto (tgt := 23) (pc := 19) hJ dX11_told_19 (by decide) ?_
      refine v_iconst (pc := 23) hJ dX11_told_23 ?_
      refine v_cV2i (pc := 24) (q0 := 0) (ci := 8) hJ rfl rfl lkX11_190 (qX11_right1 hO (by first | (simp only [up_s, up_n, up_up, ne_eq, Nat.reduceEqDiff, not_false_eq_true]; done) | assumption | (simp only [up_s, up_n, up_up, ne_eq, Nat.reduceEqDiff, not_false_eq_true]; assumption))) (Nat.le_of_ble_eq_true rfl) (rOk_L (by decide) (by decide)) dX11_told_24 (fun r24 u24 g24 => ?_)
      obtain ⟨rfl, rfl⟩ := g24
      try simp only [up_s, up_n, up_up, ne_eq, Nat.reduceEqDiff, not_false_eq_true]
      refine v_if_eq (tgt := 39) (pc := 27) hJ dX11_told_27 (by decide) (by decide) (fun h => by first | exact absurd h (by decide) | exact absurd (by decide) h) (fun _ => ?_)
      refine v_ald0 (pc := 30) hJ dX11_told_30 ?_
      refine mg25 (pc := 31) hJ dX11_told_31 ?_
      refine v_ild1 (pc := 34) hJ dX11_told_34 ?_
      refine ma25 (pc := 35) hJ (by omega) (by omega) dX11_told_35 ?_
      try simp only [up_s, up_n, up_up, ne_eq, Nat.reduceEqDiff, not_false_eq_true]
      refine v_goto (tgt := 40) (pc := 36) hJ dX11_told_36 (by decide) ?_
      refine v_iret (pc := 40) hJ dX11_told_40 ⟨_, rfl, ?_⟩
      refine ⟨fun q => ?_, fun q => ?_⟩ <;> first | (exfalso; omega) | exact ⟨rfl, rfl⟩ | simp only [up_up]
set_option maxHeartbeats 4000000 in
theorem qX11_played {l : Launch} {D : va_G} {cI : ClassId} {ad : Nat → Nat} {O : OT} {adK adV : Nat → Nat} (hO : OG O adK adV) {I : Nat → Int} {A : Nat → Int → Int} {i : Int} (hi : inR i) (h10 : inR (I 10)) (h6 : 0 ≤ I 6 ∧ I 6 ≤ 60) : MC l D cI ad O yX11_played cX11_played 2 (some .int) 1 [.ref (ad 0), .int (iZ i)] (I, A) (pI fun r u2 => r = (if I 10 = -1 ∨ i < -1 ∨ I 6 ≤ i then -1 else if i = -1 then I 10 else A 24 i) ∧ u2 = (va_up I 0 0, A)) := by
  refine ct_intro (own := RX11) (by decide) rfl hO.1 (Nat.le_of_ble_eq_true rfl) (by simp [Value.category]) (fun X J hJ => ?_)
  show J 0 [some (.ref (ad 0)), some (.int (iZ i))] [] (I, A)
  refine v_ald0 (pc := 0) hJ dX11_played_0 ?_
  refine v_iconst (pc := 1) hJ dX11_played_1 ?_
  refine mp0 (pc := 2) hJ dX11_played_2 ?_
  refine v_ald0 (pc := 5) hJ dX11_played_5 ?_
  refine mg10 (pc := 6) hJ dX11_played_6 ?_
  try simp only [up_s, up_n, up_up, ne_eq, Nat.reduceEqDiff, not_false_eq_true]
  refine v_iconst (pc := 9) hJ dX11_played_9 ?_
  refine v_icmp_eq (tgt := 26) (pc := 10) hJ dX11_played_10 (by decide) (by omega) (by omega) (fun h10 => ?_) (fun h10 => ?_)
  · refine v_iconst (pc := 26) hJ dX11_played_26 ?_
    refine v_iret (pc := 27) hJ dX11_played_27 ⟨_, rfl, ?_⟩
    first | (rw [if_pos (by omega)]; exact ⟨rfl, rfl⟩) | (rw [if_neg (by omega), if_pos (by omega)]; exact ⟨rfl, rfl⟩) | (rw [if_neg (by omega), if_neg (by omega)]; exact ⟨rfl, rfl⟩)
  · refine v_ild1 (pc := 13) hJ dX11_played_13 ?_
    refine v_iconst (pc := 14) hJ dX11_played_14 ?_
    refine v_icmp_lt (tgt := 26) (pc := 15) hJ dX11_played_15 (by decide) (by omega) (by omega) (fun h15 => ?_) (fun h15 => ?_)
    · refine v_iconst (pc := 26) hJ dX11_played_26 ?_
      refine v_iret (pc := 27) hJ dX11_played_27 ⟨_, rfl, ?_⟩
      first | (rw [if_pos (by omega)]; exact ⟨rfl, rfl⟩) | (rw [if_neg (by omega), if_pos (by omega)]; exact ⟨rfl, rfl⟩) | (rw [if_neg (by omega), if_neg (by omega)]; exact ⟨rfl, rfl⟩)
    · refine v_ild1 (pc := 18) hJ dX11_played_18 ?_
      refine v_ald0 (pc := 19) hJ dX11_played_19 ?_
      refine mg6 (pc := 20) hJ dX11_played_20 ?_
      try simp only [up_s, up_n, up_up, ne_eq, Nat.reduceEqDiff, not_false_eq_true]
      refine v_icmp_lt (tgt := 28) (pc := 23) hJ dX11_played_23 (by decide) (by omega) (by omega) (fun h23 => ?_) (fun h23 => ?_)
      · refine v_ild1 (pc := 28) hJ dX11_played_28 ?_
        refine v_iconst (pc := 29) hJ dX11_played_29 ?_
        refine v_icmp_ne (tgt := 40) (pc := 30) hJ dX11_played_30 (by decide) (by omega) (by omega) (fun h30 => ?_) (fun h30 => ?_)
        · refine v_ald0 (pc := 40) hJ dX11_played_40 ?_
          refine mg24 (pc := 41) hJ dX11_played_41 ?_
          refine v_ild1 (pc := 44) hJ dX11_played_44 ?_
          refine ma24 (pc := 45) hJ (by omega) (by omega) dX11_played_45 ?_
          try simp only [up_s, up_n, up_up, ne_eq, Nat.reduceEqDiff, not_false_eq_true]
          refine v_iret (pc := 46) hJ dX11_played_46 ⟨_, rfl, ?_⟩
          first | (rw [if_pos (by omega)]; exact ⟨rfl, rfl⟩) | (rw [if_neg (by omega), if_pos (by omega)]; exact ⟨rfl, rfl⟩) | (rw [if_neg (by omega), if_neg (by omega)]; exact ⟨rfl, rfl⟩)
        · refine v_ald0 (pc := 33) hJ dX11_played_33 ?_
          refine mg10 (pc := 34) hJ dX11_played_34 ?_
          try simp only [up_s, up_n, up_up, ne_eq, Nat.reduceEqDiff, not_false_eq_true]
          refine v_goto (tgt := 46) (pc := 37) hJ dX11_played_37 (by decide) ?_
          refine v_iret (pc := 46) hJ dX11_played_46 ⟨_, rfl, ?_⟩
          first | (rw [if_pos (by omega)]; exact ⟨rfl, rfl⟩) | (rw [if_neg (by omega), if_pos (by omega)]; exact ⟨rfl, rfl⟩) | (rw [if_neg (by omega), if_neg (by omega)]; exact ⟨rfl, rfl⟩)
      · refine v_iconst (pc := 26) hJ dX11_played_26 ?_
        refine v_iret (pc := 27) hJ dX11_played_27 ⟨_, rfl, ?_⟩
        first | (rw [if_pos (by omega)]; exact ⟨rfl, rfl⟩) | (rw [if_neg (by omega), if_pos (by omega)]; exact ⟨rfl, rfl⟩) | (rw [if_neg (by omega), if_neg (by omega)]; exact ⟨rfl, rfl⟩)
set_option maxHeartbeats 4000000 in
theorem qX11_count {l : Launch} {D : va_G} {cI : ClassId} {ad : Nat → Nat} {O : OT} {adK adV : Nat → Nat} (hO : OG O adK adV) {I : Nat → Int} {A : Nat → Int → Int} {w : Int} (hw : inR w) (h26 : 0 ≤ I 26 ∧ I 26 < 100000) : MC l D cI ad O yX11_count cX11_count 2 (some .int) 2 [.ref (ad 0), .int (iZ w)] (I, A) (pI fun r u2 => (0 ≤ w ∧ w ≤ 5 → r = (if w = 0 then I 6 else if w = 1 then I 7 else if w = 2 then I 8 else if w = 3 then I 9 else if w = 4 then (if I 26 < 4000 then I 26 else 4000) else I 2) ∧ u2 = (va_up I 0 0, A)) ∧ (¬ (0 ≤ w ∧ w ≤ 5) → u2 = (va_up I 0 1, A))) := by
  refine ct_intro (own := RX11) (by decide) rfl hO.1 (Nat.le_of_ble_eq_true rfl) (by simp [Value.category]) (fun X J hJ => ?_)
  show J 0 [some (.ref (ad 0)), some (.int (iZ w))] [] (I, A)
  refine v_ald0 (pc := 0) hJ dX11_count_0 ?_
  refine v_iconst (pc := 1) hJ dX11_count_1 ?_
  refine mp0 (pc := 2) hJ dX11_count_2 ?_
  refine v_ald0 (pc := 5) hJ dX11_count_5 ?_
  refine v_ild1 (pc := 6) hJ dX11_count_6 ?_
  refine v_if_lt (tgt := 19) (pc := 7) hJ dX11_count_7 (by decide) (by omega) (fun h7 => ?_) (fun h7 => ?_)
  · refine v_iconst (pc := 19) hJ dX11_count_19 ?_
    refine v_iconst (pc := 20) hJ dX11_count_20 ?_
    refine v_cV2i (pc := 21) (q0 := 0) (ci := 8) hJ rfl rfl lkX11_190 (qX11_right0 hO (by first | (simp only [up_s, up_n, up_up, ne_eq, Nat.reduceEqDiff, not_false_eq_true]; done) | assumption | (simp only [up_s, up_n, up_up, ne_eq, Nat.reduceEqDiff, not_false_eq_true]; assumption)) (by decide)) (Nat.le_of_ble_eq_true rfl) (rOk_L (by decide) (by decide)) dX11_count_21 (fun r21 u21 g21 => ?_)
    obtain ⟨rfl, rfl⟩ := g21
    try simp only [up_s, up_n, up_up, ne_eq, Nat.reduceEqDiff, not_false_eq_true]
    refine v_if_ne (tgt := 29) (pc := 24) hJ dX11_count_24 (by decide) (by decide) (fun h => by first | exact absurd h (by decide) | exact absurd (by decide) h) (fun _ => ?_)
    refine v_iconst (pc := 27) hJ dX11_count_27 ?_
    refine v_iret (pc := 28) hJ dX11_count_28 ⟨_, rfl, ?_⟩
    refine ⟨fun q => ?_, fun q => ?_⟩ <;> first | (exfalso; omega) | (refine ⟨?_, rfl⟩; first | rfl | (repeat (rw [if_neg (by omega)])) | (simp only [up_n, ne_eq, Nat.reduceEqDiff, not_false_eq_true]; rfl)) | simp only [up_up]
  · refine v_ild1 (pc := 10) hJ dX11_count_10 ?_
    refine v_iconst (pc := 11) hJ dX11_count_11 ?_
    refine v_icmp_gt (tgt := 19) (pc := 12) hJ dX11_count_12 (by decide) (by omega) (by omega) (fun h12 => ?_) (fun h12 => ?_)
    · refine v_iconst (pc := 19) hJ dX11_count_19 ?_
      refine v_iconst (pc := 20) hJ dX11_count_20 ?_
      refine v_cV2i (pc := 21) (q0 := 0) (ci := 8) hJ rfl rfl lkX11_190 (qX11_right0 hO (by first | (simp only [up_s, up_n, up_up, ne_eq, Nat.reduceEqDiff, not_false_eq_true]; done) | assumption | (simp only [up_s, up_n, up_up, ne_eq, Nat.reduceEqDiff, not_false_eq_true]; assumption)) (by decide)) (Nat.le_of_ble_eq_true rfl) (rOk_L (by decide) (by decide)) dX11_count_21 (fun r21 u21 g21 => ?_)
      obtain ⟨rfl, rfl⟩ := g21
      try simp only [up_s, up_n, up_up, ne_eq, Nat.reduceEqDiff, not_false_eq_true]
      refine v_if_ne (tgt := 29) (pc := 24) hJ dX11_count_24 (by decide) (by decide) (fun h => by first | exact absurd h (by decide) | exact absurd (by decide) h) (fun _ => ?_)
      refine v_iconst (pc := 27) hJ dX11_count_27 ?_
      refine v_iret (pc := 28) hJ dX11_count_28 ⟨_, rfl, ?_⟩
      refine ⟨fun q => ?_, fun q => ?_⟩ <;> first | (exfalso; omega) | (refine ⟨?_, rfl⟩; first | rfl | (repeat (rw [if_neg (by omega)])) | (simp only [up_n, ne_eq, Nat.reduceEqDiff, not_false_eq_true]; rfl)) | simp only [up_up]
    · refine v_iconst (pc := 15) hJ dX11_count_15 ?_
      refine v_goto (tgt := 20) (pc := 16) hJ dX11_count_16 (by decide) ?_
      refine v_iconst (pc := 20) hJ dX11_count_20 ?_
      refine v_cV2i (pc := 21) (q0 := 0) (ci := 8) hJ rfl rfl lkX11_190 (qX11_right1 hO (by first | (simp only [up_s, up_n, up_up, ne_eq, Nat.reduceEqDiff, not_false_eq_true]; done) | assumption | (simp only [up_s, up_n, up_up, ne_eq, Nat.reduceEqDiff, not_false_eq_true]; assumption))) (Nat.le_of_ble_eq_true rfl) (rOk_L (by decide) (by decide)) dX11_count_21 (fun r21 u21 g21 => ?_)
      obtain ⟨rfl, rfl⟩ := g21
      try simp only [up_s, up_n, up_up, ne_eq, Nat.reduceEqDiff, not_false_eq_true]
      refine v_if_ne (tgt := 29) (pc := 24) hJ dX11_count_24 (by decide) (by decide) (fun _ => ?_) (fun h => by first | exact absurd h (by decide) | exact absurd (by decide) h)
      refine v_ild1 (pc := 29) hJ dX11_count_29 ?_
      by_cases hsw30 : w < 0 ∨ 4 < w
      · refine v_tableOut (tgt := 89) (pc := 30) hJ dX11_count_30 (by omega) hsw30 (by decide) ?_
        refine v_ald0 (pc := 89) hJ dX11_count_89 ?_
        refine mg2 (pc := 90) hJ dX11_count_90 ?_
        try simp only [up_s, up_n, up_up, ne_eq, Nat.reduceEqDiff, not_false_eq_true]
        refine v_iret (pc := 93) hJ dX11_count_93 ⟨_, rfl, ?_⟩
        refine ⟨fun q => ?_, fun q => ?_⟩ <;> first | (exfalso; omega) | (refine ⟨?_, rfl⟩; first | rfl | (repeat (rw [if_neg (by omega)])) | (simp only [up_n, ne_eq, Nat.reduceEqDiff, not_false_eq_true]; rfl)) | simp only [up_up]
      · rcases (show w = 0 ∨ w = 1 ∨ w = 2 ∨ w = 3 ∨ w = 4 by omega) with rfl | rfl | rfl | rfl | rfl
        · refine v_tableIn (off := 34) (tgt := 64) (pc := 30) hJ dX11_count_30 (by omega) (by decide) (by decide) rfl (by decide) ?_
          refine v_ald0 (pc := 64) hJ dX11_count_64 ?_
          refine mg6 (pc := 65) hJ dX11_count_65 ?_
          try simp only [up_s, up_n, up_up, ne_eq, Nat.reduceEqDiff, not_false_eq_true]
          refine v_iret (pc := 68) hJ dX11_count_68 ⟨_, rfl, ?_⟩
          refine ⟨fun q => ?_, fun q => ?_⟩ <;> first | (exfalso; omega) | (refine ⟨?_, rfl⟩; first | rfl | (repeat (rw [if_neg (by omega)])) | (simp only [up_n, ne_eq, Nat.reduceEqDiff, not_false_eq_true]; rfl)) | simp only [up_up]
        · refine v_tableIn (off := 39) (tgt := 69) (pc := 30) hJ dX11_count_30 (by omega) (by decide) (by decide) rfl (by decide) ?_
          refine v_ald0 (pc := 69) hJ dX11_count_69 ?_
          refine mg7 (pc := 70) hJ dX11_count_70 ?_
          try simp only [up_s, up_n, up_up, ne_eq, Nat.reduceEqDiff, not_false_eq_true]
          refine v_iret (pc := 73) hJ dX11_count_73 ⟨_, rfl, ?_⟩
          refine ⟨fun q => ?_, fun q => ?_⟩ <;> first | (exfalso; omega) | (refine ⟨?_, rfl⟩; first | rfl | (repeat (rw [if_neg (by omega)])) | (simp only [up_n, ne_eq, Nat.reduceEqDiff, not_false_eq_true]; rfl)) | simp only [up_up]
        · refine v_tableIn (off := 44) (tgt := 74) (pc := 30) hJ dX11_count_30 (by omega) (by decide) (by decide) rfl (by decide) ?_
          refine v_ald0 (pc := 74) hJ dX11_count_74 ?_
          refine mg8 (pc := 75) hJ dX11_count_75 ?_
          try simp only [up_s, up_n, up_up, ne_eq, Nat.reduceEqDiff, not_false_eq_true]
          refine v_iret (pc := 78) hJ dX11_count_78 ⟨_, rfl, ?_⟩
          refine ⟨fun q => ?_, fun q => ?_⟩ <;> first | (exfalso; omega) | (refine ⟨?_, rfl⟩; first | rfl | (repeat (rw [if_neg (by omega)])) | (simp only [up_n, ne_eq, Nat.reduceEqDiff, not_false_eq_true]; rfl)) | simp only [up_up]
        · refine v_tableIn (off := 49) (tgt := 79) (pc := 30) hJ dX11_count_30 (by omega) (by decide) (by decide) rfl (by decide) ?_
          refine v_ald0 (pc := 79) hJ dX11_count_79 ?_
          refine mg9 (pc := 80) hJ dX11_count_80 ?_
          try simp only [up_s, up_n, up_up, ne_eq, Nat.reduceEqDiff, not_false_eq_true]
          refine v_iret (pc := 83) hJ dX11_count_83 ⟨_, rfl, ?_⟩
          refine ⟨fun q => ?_, fun q => ?_⟩ <;> first | (exfalso; omega) | (refine ⟨?_, rfl⟩; first | rfl | (repeat (rw [if_neg (by omega)])) | (simp only [up_n, ne_eq, Nat.reduceEqDiff, not_false_eq_true]; rfl)) | simp only [up_up]
        · refine v_tableIn (off := 54) (tgt := 84) (pc := 30) hJ dX11_count_30 (by omega) (by decide) (by decide) rfl (by decide) ?_
          refine v_ald0 (pc := 84) hJ dX11_count_84 ?_
          refine v_cV0i (pc := 85) (q0 := 0) (ci := 8) hJ rfl rfl lkX11_261 (qX11_kept hO (by simp only [up_s, up_n, up_up, ne_eq, Nat.reduceEqDiff, not_false_eq_true]; omega)) (Nat.le_of_ble_eq_true rfl) (rOk_L (by decide) (by decide)) dX11_count_85 (fun r85 u85 g85 => ?_)
          obtain ⟨rfl, rfl⟩ := g85
          try simp only [up_s, up_n, up_up, ne_eq, Nat.reduceEqDiff, not_false_eq_true]
          refine v_iret (pc := 88) hJ dX11_count_88 ⟨_, rfl, ?_⟩
          refine ⟨fun q => ?_, fun q => ?_⟩ <;> first | (exfalso; omega) | (refine ⟨?_, rfl⟩; first | rfl | (repeat (rw [if_neg (by omega)])) | (simp only [up_n, ne_eq, Nat.reduceEqDiff, not_false_eq_true]; rfl)) | simp only [up_up]
set_option maxHeartbeats 4000000 in
theorem qX11_changes {l : Launch} {D : va_G} {cI : ClassId} {ad : Nat → Nat} {O : OT} {adK adV : Nat → Nat} (hO : OG O adK adV) {I : Nat → Int} {A : Nat → Int → Int}   : MC l D cI ad O yX11_changes cX11_changes 2 none 1 [.ref (ad 0)] (I, A) (pV fun u2 => ∃ M, (∀ j, 0 ≤ j → j < 480 → M j = -1) ∧ u2 = (va_up I 10 (-1), va_up A 38 M)) := by
  refine ct_intro (own := RX11) (by decide) rfl hO.1 (Nat.le_of_ble_eq_true rfl) (by simp [Value.category]) (fun X J hJ => ?_)
  have lp : ∀ (n : Nat) (k : Nat) (M : Int → Int), (k ≤ 480) → (∀ j : Int, 0 ≤ j → j < k → M j = -1) → (480 - (k : Int)) < (n : Int) → J 2 [some (.ref (ad 0)), some (.int (iZ (k : Int)))] [] (I, va_up A 38 M) := by
    intro n
    induction n with
    | zero => intro k  M hk hM hmu; exfalso; omega
    | succ n ih =>
      intro k  M hk hM hmu
      refine v_ild1 (pc := 2) hJ dX11_changes_2 ?_
      refine v_sipush (pc := 3) hJ dX11_changes_3 (by decide) ?_
      refine v_icmp_ge (tgt := 22) (pc := 6) hJ dX11_changes_6 (by decide) (by omega) (by omega) (fun h6 => ?_) (fun h6 => ?_)
      · refine v_ald0 (pc := 22) hJ dX11_changes_22 ?_
        refine v_iconst (pc := 23) hJ dX11_changes_23 ?_
        refine mp10 (pc := 24) hJ dX11_changes_24 ?_
        refine v_vret (pc := 27) hJ dX11_changes_27 ⟨rfl, ?_⟩
        have e : k = 480 := by omega
        subst e
        exact ⟨M, hM, rfl⟩
      · refine v_ald0 (pc := 9) hJ dX11_changes_9 ?_
        refine mg38 (pc := 10) hJ dX11_changes_10 ?_
        refine v_ild1 (pc := 13) hJ dX11_changes_13 ?_
        refine v_iconst (pc := 14) hJ dX11_changes_14 ?_
        refine ms38 (pc := 15) hJ (by omega) (by omega) dX11_changes_15 ?_
        refine v_inc1 (pc := 16) hJ dX11_changes_16 (by decide) ?_
        refine v_goto (tgt := 2) (pc := 19) hJ dX11_changes_19 (by decide) ?_
        simp only [up_s, up_up]
        exact ih (k + 1) (zu M k (-1)) (by omega) (fun j h1 h2 => by unfold zu; split; rfl; exact hM j h1 (by omega)) (by omega)
  show J 0 [some (.ref (ad 0)), none] [] (I, A)
  refine v_iconst (pc := 0) hJ dX11_changes_0 ?_
  refine v_ist1 (pc := 1) hJ dX11_changes_1 (by decide) ?_
  have e : A = va_up A 38 (A 38) := by funext j; unfold va_up; split <;> simp_all
  rw [e]
  exact lp 481 0 (A 38) (by omega) (fun j h1 h2 => by omega) (by omega)
end
section
/-- what holds of a song's chords in the reference -/
abbrev okC (I : Nat → Int) (A : Nat → Int → Int) : Prop := (0 ≤ I 6 ∧ I 6 ≤ 60) ∧ ∀ j : Int, 0 ≤ j → j < I 6 → (-15 ≤ A 11 j ∧ A 11 j ≤ 19) ∧ (0 ≤ A 12 j ∧ A 12 j ≤ 13) ∧ (-15 ≤ A 13 j ∧ A 13 j ≤ 19)
theorem up_id {α : Type} (f : Nat → α) (k : Nat) : va_up f k (f k) = f := by
  funext j
  unfold va_up
  split <;> simp_all
theorem kT_r (k : Int) : inR (kT k) := by have := kT_in k; omega
theorem tm12 {x : Int} (h : 0 ≤ x) : x.tmod 12 = x % 12 := Int.tmod_eq_emod_of_nonneg h
/-- the seven tones of a key, as bits -/
def scN (k : Int) : Nat → Int
  | 0 => 0
  | n + 1 => zor (scN k n) (zshl 1 (tn (k - 1 + n)))
/-- how many of the first n chords have their tones among these -/
def fitN (f : Int → Int) (b : Int) : Nat → Int
  | 0 => 0
  | n + 1 => if zand (f n) (zxor b (-1)) = 0 then fitN f b n + 1 else fitN f b n
theorem fitN_in (f : Int → Int) (b : Int) : ∀ n : Nat, 0 ≤ fitN f b n ∧ fitN f b n ≤ n
  | 0 => by simp [fitN]
  | n + 1 => by
    have := fitN_in f b n
    unfold fitN
    split <;> omega
/-- the guess: of the keys from -6 on, the first n: the best one, and how many fit -/
def gsN (cnt : Int → Int) : Nat → Int × Int
  | 0 => (-100, -1)
  | n + 1 => if (gsN cnt n).2 < cnt ((n : Int) - 6) then ((n : Int) - 6, cnt ((n : Int) - 6)) else if cnt ((n : Int) - 6) = (gsN cnt n).2 then (-100, (gsN cnt n).2) else gsN cnt n
theorem gsN_in {cnt : Int → Int} (h : ∀ k, 0 ≤ cnt k ∧ cnt k ≤ 60) : ∀ n : Nat, -1 ≤ (gsN cnt n).2 ∧ (gsN cnt n).2 ≤ 60
  | 0 => by simp [gsN]
  | n + 1 => by
    have h1 := gsN_in h n
    have h2 := h ((n : Int) - 6)
    unfold gsN
    split
    · exact ⟨by show -1 ≤ cnt _; omega, by show cnt _ ≤ 60; omega⟩
    · split
      · exact h1
      · exact h1
theorem fitN_pos {f : Int → Int} {b : Int} {n : Nat} (h : zand (f n) (zxor b (-1)) = 0) : fitN f b n + 1 = fitN f b (n + 1) := by rw [fitN, if_pos h]
theorem fitN_neg {f : Int → Int} {b : Int} {n : Nat} (h : zand (f n) (zxor b (-1)) ≠ 0) : fitN f b n = fitN f b (n + 1) := by rw [fitN, if_neg h]
theorem gsN_1 {cnt : Int → Int} {n : Nat} (h : (gsN cnt n).2 < cnt ((n : Int) - 6)) : gsN cnt (n + 1) = ((n : Int) - 6, cnt ((n : Int) - 6)) := by rw [gsN, if_pos h]
theorem gsN_2 {cnt : Int → Int} {n : Nat} (h : ¬ (gsN cnt n).2 < cnt ((n : Int) - 6)) (h2 : cnt ((n : Int) - 6) = (gsN cnt n).2) : gsN cnt (n + 1) = (-100, (gsN cnt n).2) := by rw [gsN, if_neg h, if_pos h2]
theorem gsN_3 {cnt : Int → Int} {n : Nat} (h : ¬ (gsN cnt n).2 < cnt ((n : Int) - 6)) (h2 : ¬ cnt ((n : Int) - 6) = (gsN cnt n).2) : gsN cnt (n + 1) = gsN cnt n := by rw [gsN, if_neg h, if_neg h2]
theorem tsN_pos {rt kd b0 : Int} {n : Nat} (h : zand (zshr (kT kd) n) 1 = 1) : zor (tsN rt kd b0 n) (zshl 1 ((rt + n).tmod 12)) = tsN rt kd b0 (n + 1) := by rw [tsN, if_pos h]
theorem tsN_neg {rt kd b0 : Int} {n : Nat} (h : zand (zshr (kT kd) n) 1 ≠ 1) : tsN rt kd b0 n = tsN rt kd b0 (n + 1) := by rw [tsN, if_neg h]
def tsA (A : Nat → Int → Int) (i : Int) : Int := tsF (A 11 i) (A 12 i) (A 13 i)
set_option maxHeartbeats 4000000 in
set_option maxRecDepth 100000 in
theorem qX11_tones {l : Launch} {D : va_G} {cI : ClassId} {ad : Nat → Nat} {O : OT} {adK adV : Nat → Nat} (hO : OG O adK adV) {I : Nat → Int} {A : Nat → Int → Int} {i : Int} (hC : okC I A) (hi : 0 ≤ i ∧ i < I 6) : MC l D cI ad O yX11_tones cX11_tones 4 (some .int) 2 [.ref (ad 0), .int (iZ i)] (I, A) (pI fun r u2 => r = tsA A i ∧ u2 = (I, A)) := by
  refine ct_intro (own := RX11) (by decide) rfl hO.1 (Nat.le_of_ble_eq_true rfl) (by simp [Value.category]) (fun X J hJ => ?_)
  obtain ⟨⟨c1, c2⟩, c3⟩ := hC
  obtain ⟨k1, k2, k3⟩ := c3 i hi.1 hi.2
  have lp : ∀ (n : Nat) (k : Nat), (k ≤ 12) → (12 - (k : Int)) < (n : Int) → J 14 [some (.ref (ad 0)), some (.int (iZ i)), some (.int (iZ (tsN (tn (A 11 i)) (A 12 i) (zshl 1 (tn (A 13 i))) k))), some (.int (iZ (k : Int)))] [] (I, A) := by
    intro n
    induction n with
    | zero => intro k hk hmu; exfalso; omega
    | succ n ih =>
      intro k hk hmu
      refine v_ild3 (pc := 14) hJ dX11_tones_14 ?_
      refine v_bipush (pc := 15) hJ dX11_tones_15 (by decide) ?_
      refine v_icmp_ge (tgt := 62) (pc := 17) hJ dX11_tones_17 (by decide) (by omega) (by omega) (fun h17 => ?_) (fun h17 => ?_)
      · refine v_ild2 (pc := 62) hJ dX11_tones_62 ?_
        refine v_iret (pc := 63) hJ dX11_tones_63 ⟨_, rfl, ?_⟩
        have e : k = 12 := by omega
        subst e
        exact ⟨rfl, rfl⟩
      · refine v_ald0 (pc := 20) hJ dX11_tones_20 ?_
        refine mg12 (pc := 21) hJ dX11_tones_21 ?_
        refine v_ild1 (pc := 24) hJ dX11_tones_24 ?_
        refine ma12 (pc := 25) hJ (by omega) (by omega) dX11_tones_25 ?_
        refine v_cS1i (pc := 26) hJ lkX11_131 (qX11_tonesOf hO (by omega)) (Nat.le_of_ble_eq_true rfl) (rOk_L (by decide) (by decide)) dX11_tones_26 (fun r26 u26 g26 => ?_)
        obtain ⟨rfl, rfl⟩ := g26
        refine v_ild3 (pc := 29) hJ dX11_tones_29 ?_
        refine v_ishr (pc := 30) hJ dX11_tones_30 ?_
        refine v_iconst (pc := 31) hJ dX11_tones_31 ?_
        refine v_iand (pc := 32) hJ dX11_tones_32 ?_
        refine v_iconst (pc := 33) hJ dX11_tones_33 ?_
        refine v_icmp_ne (tgt := 56) (pc := 34) hJ dX11_tones_34 (by decide) (inR_zand _ _) (by decide) (fun h34 => ?_) (fun h34 => ?_)
        · refine v_inc3 (pc := 56) hJ dX11_tones_56 (by decide) ?_
          refine v_goto (tgt := 14) (pc := 59) hJ dX11_tones_59 (by decide) ?_
          first | rw [tsN_neg h34] | rw [tsN_pos (Classical.not_not.mp (fun q => q h34))] | rw [tsN_pos h34]
          exact ih (k + 1) (by omega) (by omega)
        · refine v_ild2 (pc := 37) hJ dX11_tones_37 ?_
          refine v_iconst (pc := 38) hJ dX11_tones_38 ?_
          refine v_ald0 (pc := 39) hJ dX11_tones_39 ?_
          refine mg11 (pc := 40) hJ dX11_tones_40 ?_
          refine v_ild1 (pc := 43) hJ dX11_tones_43 ?_
          refine ma11 (pc := 44) hJ (by omega) (by omega) dX11_tones_44 ?_
          try simp only [up_s, up_n, up_up, ne_eq, Nat.reduceEqDiff, not_false_eq_true]
          refine v_cS1i (pc := 45) hJ lkX11_127 (qX11_tone hO (by omega)) (Nat.le_of_ble_eq_true rfl) (rOk_L (by decide) (by decide)) dX11_tones_45 (fun r45 u45 g45 => ?_)
          obtain ⟨rfl, rfl⟩ := g45
          try simp only [up_s, up_n, up_up, ne_eq, Nat.reduceEqDiff, not_false_eq_true]
          refine v_ild3 (pc := 48) hJ dX11_tones_48 ?_
          refine v_iadd (pc := 49) hJ dX11_tones_49 ?_
          refine v_bipush (pc := 50) hJ dX11_tones_50 (by decide) ?_
          have ht := tn_lt (A 11 i)
          refine v_irem (pc := 52) hJ dX11_tones_52 (by omega) (by omega) (by omega) ?_
          refine v_ishl (pc := 53) hJ dX11_tones_53 ?_
          refine v_ior (pc := 54) hJ dX11_tones_54 ?_
          refine v_ist2 (pc := 55) hJ dX11_tones_55 (by decide) ?_
          refine v_inc3 (pc := 56) hJ dX11_tones_56 (by decide) ?_
          refine v_goto (tgt := 14) (pc := 59) hJ dX11_tones_59 (by decide) ?_
          first | rw [tsN_neg h34] | rw [tsN_pos (Classical.not_not.mp (fun q => q h34))] | rw [tsN_pos h34]
          exact ih (k + 1) (by omega) (by omega)
  show J 0 [some (.ref (ad 0)), some (.int (iZ i)), none, none] [] (I, A)
  refine v_iconst (pc := 0) hJ dX11_tones_0 ?_
  refine v_ald0 (pc := 1) hJ dX11_tones_1 ?_
  refine mg13 (pc := 2) hJ dX11_tones_2 ?_
  refine v_ild1 (pc := 5) hJ dX11_tones_5 ?_
  refine ma13 (pc := 6) hJ (by omega) (by omega) dX11_tones_6 ?_
  refine v_cS1i (pc := 7) hJ lkX11_127 (qX11_tone hO (by omega)) (Nat.le_of_ble_eq_true rfl) (rOk_L (by decide) (by decide)) dX11_tones_7 (fun r7 u7 g7 => ?_)
  obtain ⟨rfl, rfl⟩ := g7
  refine v_ishl (pc := 10) hJ dX11_tones_10 ?_
  refine v_ist2 (pc := 11) hJ dX11_tones_11 (by decide) ?_
  refine v_iconst (pc := 12) hJ dX11_tones_12 ?_
  refine v_ist3 (pc := 13) hJ dX11_tones_13 (by decide) ?_
  exact lp 13 0 (by omega) (by omega)
set_option maxHeartbeats 4000000 in
set_option maxRecDepth 100000 in
theorem qX11_chord {l : Launch} {D : va_G} {cI : ClassId} {ad : Nat → Nat} {O : OT} {adK adV : Nat → Nat} (hO : OG O adK adV) {I : Nat → Int} {A : Nat → Int → Int} {i w : Int} (hC : okC I A) (hi : inR i) (hw : inR w) : MC l D cI ad O yX11_chord cX11_chord 3 (some .int) 3 [.ref (ad 0), .int (iZ i), .int (iZ w)] (I, A) (pI fun r u2 => ((0 ≤ i ∧ i < I 6) ∧ 0 ≤ w ∧ w ≤ 4 → r = (if w = 0 then A 11 i else if w = 1 then A 12 i else if w = 2 then A 13 i else if w = 3 then tsA A i else A 14 i) ∧ u2 = (va_up I 0 0, A)) ∧ (¬ ((0 ≤ i ∧ i < I 6) ∧ 0 ≤ w ∧ w ≤ 4) → u2 = (va_up I 0 1, A))) := by
  refine ct_intro (own := RX11) (by decide) rfl hO.1 (Nat.le_of_ble_eq_true rfl) (by simp [Value.category]) (fun X J hJ => ?_)
  show J 0 [some (.ref (ad 0)), some (.int (iZ i)), some (.int (iZ w))] [] (I, A)
  obtain ⟨⟨c1, c2⟩, c3⟩ := id hC
  by_cases hin : 0 ≤ i ∧ i < I 6
  · skip
    refine v_ald0 (pc := 0) hJ dX11_chord_0 ?_
    refine v_ild1 (pc := 1) hJ dX11_chord_1 ?_
    refine v_cV1i (pc := 2) (q0 := 0) (ci := 8) hJ rfl rfl lkX11_219 (qX11_isChord hO (by omega) (by omega)) (Nat.le_of_ble_eq_true rfl) (rOk_L (by decide) (by decide)) dX11_chord_2 (fun r2 u2 g2 => ?_)
    obtain ⟨rfl, rfl⟩ := g2.1 hin
    refine v_if_eq (tgt := 30) (pc := 5) hJ dX11_chord_5 (by decide) (by decide) (fun h => by first | exact absurd h (by decide) | exact absurd (by decide) h) (fun _ => ?_)
    refine v_ald0 (pc := 8) hJ dX11_chord_8 ?_
    refine v_ild2 (pc := 9) hJ dX11_chord_9 ?_
    refine v_if_lt (tgt := 22) (pc := 10) hJ dX11_chord_10 (by decide) (by omega) (fun h10 => ?_) (fun h10 => ?_)
    · refine v_iconst (pc := 22) hJ dX11_chord_22 ?_
      refine v_iconst (pc := 23) hJ dX11_chord_23 ?_
      refine v_cV2i (pc := 24) (q0 := 0) (ci := 8) hJ rfl rfl lkX11_190 (qX11_right0 hO (by first | (simp only [up_s, up_n, up_up, ne_eq, Nat.reduceEqDiff, not_false_eq_true]; done) | assumption | (simp only [up_s, up_n, up_up, ne_eq, Nat.reduceEqDiff, not_false_eq_true]; assumption)) (by decide)) (Nat.le_of_ble_eq_true rfl) (rOk_L (by decide) (by decide)) dX11_chord_24 (fun r24 u24 g24 => ?_)
      obtain ⟨rfl, rfl⟩ := g24
      try simp only [up_s, up_n, up_up, ne_eq, Nat.reduceEqDiff, not_false_eq_true]
      refine v_if_ne (tgt := 32) (pc := 27) hJ dX11_chord_27 (by decide) (by decide) (fun h => by first | exact absurd h (by decide) | exact absurd (by decide) h) (fun _ => ?_)
      refine v_iconst (pc := 30) hJ dX11_chord_30 ?_
      refine v_iret (pc := 31) hJ dX11_chord_31 ⟨_, rfl, ?_⟩
      refine ⟨fun q => ?_, fun q => ?_⟩ <;> first | (exfalso; omega) | (refine ⟨?_, rfl⟩; first | (simp; done) | (repeat (rw [if_neg (by omega)]))) | simp only [up_up]
    · refine v_ild2 (pc := 13) hJ dX11_chord_13 ?_
      refine v_iconst (pc := 14) hJ dX11_chord_14 ?_
      refine v_icmp_gt (tgt := 22) (pc := 15) hJ dX11_chord_15 (by decide) (by omega) (by omega) (fun h15 => ?_) (fun h15 => ?_)
      · refine v_iconst (pc := 22) hJ dX11_chord_22 ?_
        refine v_iconst (pc := 23) hJ dX11_chord_23 ?_
        refine v_cV2i (pc := 24) (q0 := 0) (ci := 8) hJ rfl rfl lkX11_190 (qX11_right0 hO (by first | (simp only [up_s, up_n, up_up, ne_eq, Nat.reduceEqDiff, not_false_eq_true]; done) | assumption | (simp only [up_s, up_n, up_up, ne_eq, Nat.reduceEqDiff, not_false_eq_true]; assumption)) (by decide)) (Nat.le_of_ble_eq_true rfl) (rOk_L (by decide) (by decide)) dX11_chord_24 (fun r24 u24 g24 => ?_)
        obtain ⟨rfl, rfl⟩ := g24
        try simp only [up_s, up_n, up_up, ne_eq, Nat.reduceEqDiff, not_false_eq_true]
        refine v_if_ne (tgt := 32) (pc := 27) hJ dX11_chord_27 (by decide) (by decide) (fun h => by first | exact absurd h (by decide) | exact absurd (by decide) h) (fun _ => ?_)
        refine v_iconst (pc := 30) hJ dX11_chord_30 ?_
        refine v_iret (pc := 31) hJ dX11_chord_31 ⟨_, rfl, ?_⟩
        refine ⟨fun q => ?_, fun q => ?_⟩ <;> first | (exfalso; omega) | (refine ⟨?_, rfl⟩; first | (simp; done) | (repeat (rw [if_neg (by omega)]))) | simp only [up_up]
      · refine v_iconst (pc := 18) hJ dX11_chord_18 ?_
        refine v_goto (tgt := 23) (pc := 19) hJ dX11_chord_19 (by decide) ?_
        refine v_iconst (pc := 23) hJ dX11_chord_23 ?_
        refine v_cV2i (pc := 24) (q0 := 0) (ci := 8) hJ rfl rfl lkX11_190 (qX11_right1 hO (by first | (simp only [up_s, up_n, up_up, ne_eq, Nat.reduceEqDiff, not_false_eq_true]; done) | assumption | (simp only [up_s, up_n, up_up, ne_eq, Nat.reduceEqDiff, not_false_eq_true]; assumption))) (Nat.le_of_ble_eq_true rfl) (rOk_L (by decide) (by decide)) dX11_chord_24 (fun r24 u24 g24 => ?_)
        obtain ⟨rfl, rfl⟩ := g24
        try simp only [up_s, up_n, up_up, ne_eq, Nat.reduceEqDiff, not_false_eq_true]
        refine v_if_ne (tgt := 32) (pc := 27) hJ dX11_chord_27 (by decide) (by decide) (fun _ => ?_) (fun h => by first | exact absurd h (by decide) | exact absurd (by decide) h)
        refine v_ild2 (pc := 32) hJ dX11_chord_32 ?_
        by_cases hsw33 : w < 0 ∨ 3 < w
        · refine v_tableOut (tgt := 91) (pc := 33) hJ dX11_chord_33 (by omega) hsw33 (by decide) ?_
          refine v_ald0 (pc := 91) hJ dX11_chord_91 ?_
          refine mg14 (pc := 92) hJ dX11_chord_92 ?_
          refine v_ild1 (pc := 95) hJ dX11_chord_95 ?_
          refine ma14 (pc := 96) hJ (by omega) (by omega) dX11_chord_96 ?_
          try simp only [up_s, up_n, up_up, ne_eq, Nat.reduceEqDiff, not_false_eq_true]
          refine v_iret (pc := 97) hJ dX11_chord_97 ⟨_, rfl, ?_⟩
          refine ⟨fun q => ?_, fun q => ?_⟩ <;> first | (exfalso; omega) | (refine ⟨?_, rfl⟩; first | (simp; done) | (repeat (rw [if_neg (by omega)]))) | simp only [up_up]
        · rcases (show w = 0 ∨ w = 1 ∨ w = 2 ∨ w = 3 by omega) with rfl | rfl | rfl | rfl
          · refine v_tableIn (off := 31) (tgt := 64) (pc := 33) hJ dX11_chord_33 (by omega) (by decide) (by decide) rfl (by decide) ?_
            refine v_ald0 (pc := 64) hJ dX11_chord_64 ?_
            refine mg11 (pc := 65) hJ dX11_chord_65 ?_
            refine v_ild1 (pc := 68) hJ dX11_chord_68 ?_
            refine ma11 (pc := 69) hJ (by omega) (by omega) dX11_chord_69 ?_
            try simp only [up_s, up_n, up_up, ne_eq, Nat.reduceEqDiff, not_false_eq_true]
            refine v_iret (pc := 70) hJ dX11_chord_70 ⟨_, rfl, ?_⟩
            refine ⟨fun q => ?_, fun q => ?_⟩ <;> first | (exfalso; omega) | (refine ⟨?_, rfl⟩; first | (simp; done) | (repeat (rw [if_neg (by omega)]))) | simp only [up_up]
          · refine v_tableIn (off := 38) (tgt := 71) (pc := 33) hJ dX11_chord_33 (by omega) (by decide) (by decide) rfl (by decide) ?_
            refine v_ald0 (pc := 71) hJ dX11_chord_71 ?_
            refine mg12 (pc := 72) hJ dX11_chord_72 ?_
            refine v_ild1 (pc := 75) hJ dX11_chord_75 ?_
            refine ma12 (pc := 76) hJ (by omega) (by omega) dX11_chord_76 ?_
            try simp only [up_s, up_n, up_up, ne_eq, Nat.reduceEqDiff, not_false_eq_true]
            refine v_iret (pc := 77) hJ dX11_chord_77 ⟨_, rfl, ?_⟩
            refine ⟨fun q => ?_, fun q => ?_⟩ <;> first | (exfalso; omega) | (refine ⟨?_, rfl⟩; first | (simp; done) | (repeat (rw [if_neg (by omega)]))) | simp only [up_up]
          · refine v_tableIn (off := 45) (tgt := 78) (pc := 33) hJ dX11_chord_33 (by omega) (by decide) (by decide) rfl (by decide) ?_
            refine v_ald0 (pc := 78) hJ dX11_chord_78 ?_
            refine mg13 (pc := 79) hJ dX11_chord_79 ?_
            refine v_ild1 (pc := 82) hJ dX11_chord_82 ?_
            refine ma13 (pc := 83) hJ (by omega) (by omega) dX11_chord_83 ?_
            try simp only [up_s, up_n, up_up, ne_eq, Nat.reduceEqDiff, not_false_eq_true]
            refine v_iret (pc := 84) hJ dX11_chord_84 ⟨_, rfl, ?_⟩
            refine ⟨fun q => ?_, fun q => ?_⟩ <;> first | (exfalso; omega) | (refine ⟨?_, rfl⟩; first | (simp; done) | (repeat (rw [if_neg (by omega)]))) | simp only [up_up]
          · refine v_tableIn (off := 52) (tgt := 85) (pc := 33) hJ dX11_chord_33 (by omega) (by decide) (by decide) rfl (by decide) ?_
            refine v_ald0 (pc := 85) hJ dX11_chord_85 ?_
            refine v_ild1 (pc := 86) hJ dX11_chord_86 ?_
            refine v_cV1i (pc := 87) (q0 := 0) (ci := 8) hJ rfl rfl lkX11_223 (qX11_tones hO (by simp only [okC, up_s, up_n, up_up, ne_eq, Nat.reduceEqDiff, not_false_eq_true]; exact hC) (by simp only [up_s, up_n, up_up, ne_eq, Nat.reduceEqDiff, not_false_eq_true]; exact hin)) (Nat.le_of_ble_eq_true rfl) (rOk_L (by decide) (by decide)) dX11_chord_87 (fun r87 u87 g87 => ?_)
            obtain ⟨rfl, rfl⟩ := g87
            try simp only [up_s, up_n, up_up, ne_eq, Nat.reduceEqDiff, not_false_eq_true]
            refine v_iret (pc := 90) hJ dX11_chord_90 ⟨_, rfl, ?_⟩
            refine ⟨fun q => ?_, fun q => ?_⟩ <;> first | (exfalso; omega) | (refine ⟨?_, rfl⟩; first | (simp; done) | (repeat (rw [if_neg (by omega)]))) | simp only [up_up]
  · skip
    refine v_ald0 (pc := 0) hJ dX11_chord_0 ?_
    refine v_ild1 (pc := 1) hJ dX11_chord_1 ?_
    refine v_cV1i (pc := 2) (q0 := 0) (ci := 8) hJ rfl rfl lkX11_219 (qX11_isChord hO (by omega) (by omega)) (Nat.le_of_ble_eq_true rfl) (rOk_L (by decide) (by decide)) dX11_chord_2 (fun r2 u2 g2 => ?_)
    obtain ⟨rfl, rfl⟩ := g2.2 hin
    refine v_if_eq (tgt := 30) (pc := 5) hJ dX11_chord_5 (by decide) (by decide) (fun _ => ?_) (fun h => by first | exact absurd h (by decide) | exact absurd (by decide) h)
    refine v_iconst (pc := 30) hJ dX11_chord_30 ?_
    refine v_iret (pc := 31) hJ dX11_chord_31 ⟨_, rfl, ?_⟩
    refine ⟨fun q => ?_, fun q => ?_⟩ <;> first | (exfalso; omega) | (refine ⟨?_, rfl⟩; first | (simp; done) | (repeat (rw [if_neg (by omega)]))) | simp only [up_up]
set_option maxHeartbeats 4000000 in
set_option maxRecDepth 100000 in
theorem qX11_unstring {l : Launch} {D : va_G} {cI : ClassId} {ad : Nat → Nat} {O : OT} {adK adV : Nat → Nat} (hO : OG O adK adV) {I : Nat → Int} {A : Nat → Int → Int}   : MC l D cI ad O yX11_unstring cX11_unstring 2 (some .int) 2 [.ref (ad 0)] (I, A) (pI fun r u2 => r = I 9 ∧ ∃ M, (∀ j, 0 ≤ j → j < 480 → M j = -1) ∧ u2 = (va_up (va_up (va_up I 0 0) 9 0) 10 (-1), va_up A 38 M)) := by
  refine ct_intro (own := RX11) (by decide) rfl hO.1 (Nat.le_of_ble_eq_true rfl) (by simp [Value.category]) (fun X J hJ => ?_)
  show J 0 [some (.ref (ad 0)), none] [] (I, A)
  refine v_ald0 (pc := 0) hJ dX11_unstring_0 ?_
  refine v_iconst (pc := 1) hJ dX11_unstring_1 ?_
  refine mp0 (pc := 2) hJ dX11_unstring_2 ?_
  refine v_ald0 (pc := 5) hJ dX11_unstring_5 ?_
  refine mg9 (pc := 6) hJ dX11_unstring_6 ?_
  try simp only [up_s, up_n, up_up, ne_eq, Nat.reduceEqDiff, not_false_eq_true]
  refine v_ist1 (pc := 9) hJ dX11_unstring_9 (by decide) ?_
  refine v_ald0 (pc := 10) hJ dX11_unstring_10 ?_
  refine v_iconst (pc := 11) hJ dX11_unstring_11 ?_
  refine mp9 (pc := 12) hJ dX11_unstring_12 ?_
  refine v_ald0 (pc := 15) hJ dX11_unstring_15 ?_
  refine v_cV0v (pc := 16) (q0 := 0) (ci := 8) hJ rfl rfl lkX11_210 (qX11_changes hO) (Nat.le_of_ble_eq_true rfl) (rOk_L (by decide) (by decide)) dX11_unstring_16 (fun u16 g16 => ?_)
  obtain ⟨M, hM, rfl⟩ := g16
  try simp only [up_s, up_n, up_up, ne_eq, Nat.reduceEqDiff, not_false_eq_true]
  refine v_ild1 (pc := 19) hJ dX11_unstring_19 ?_
  refine v_iret (pc := 20) hJ dX11_unstring_20 ⟨_, rfl, ?_⟩
  exact ⟨rfl, M, hM, rfl⟩
set_option maxHeartbeats 4000000 in
set_option maxRecDepth 100000 in
theorem qX11_string {l : Launch} {D : va_G} {cI : ClassId} {ad : Nat → Nat} {O : OT} {adK adV : Nat → Nat} (hO : OG O adK adV) {I : Nat → Int} {A : Nat → Int → Int} {p : Int} (hp : inR p) (h9 : 0 ≤ I 9 ∧ I 9 ≤ 6) : MC l D cI ad O yX11_string cX11_string 2 (some .int) 2 [.ref (ad 0), .int (iZ p)] (I, A) (pI fun r u2 => (0 ≤ p ∧ p ≤ 60 → (I 9 = 6 → r = -1 ∧ u2 = (va_up I 0 0, A)) ∧ (I 9 < 6 → r = I 9 + 1 ∧ ∃ M, (∀ j, 0 ≤ j → j < 480 → M j = -1) ∧ u2 = (va_up (va_up (va_up I 0 0) 9 (I 9 + 1)) 10 (-1), va_up (va_up A 23 (zu (A 23) (I 9) p)) 38 M))) ∧ (¬ (0 ≤ p ∧ p ≤ 60) → u2 = (va_up I 0 1, A))) := by
  refine ct_intro (own := RX11) (by decide) rfl hO.1 (Nat.le_of_ble_eq_true rfl) (by simp [Value.category]) (fun X J hJ => ?_)
  show J 0 [some (.ref (ad 0)), some (.int (iZ p))] [] (I, A)
  refine v_ald0 (pc := 0) hJ dX11_string_0 ?_
  refine v_iconst (pc := 1) hJ dX11_string_1 ?_
  refine mp0 (pc := 2) hJ dX11_string_2 ?_
  refine v_ald0 (pc := 5) hJ dX11_string_5 ?_
  refine v_ild1 (pc := 6) hJ dX11_string_6 ?_
  refine v_if_lt (tgt := 20) (pc := 7) hJ dX11_string_7 (by decide) (by omega) (fun h7 => ?_) (fun h7 => ?_)
  · refine v_iconst (pc := 20) hJ dX11_string_20 ?_
    refine v_iconst (pc := 21) hJ dX11_string_21 ?_
    refine v_cV2i (pc := 22) (q0 := 0) (ci := 8) hJ rfl rfl lkX11_190 (qX11_right0 hO (by first | (simp only [up_s, up_n, up_up, ne_eq, Nat.reduceEqDiff, not_false_eq_true]; done) | assumption | (simp only [up_s, up_n, up_up, ne_eq, Nat.reduceEqDiff, not_false_eq_true]; assumption)) (by decide)) (Nat.le_of_ble_eq_true rfl) (rOk_L (by decide) (by decide)) dX11_string_22 (fun r22 u22 g22 => ?_)
    obtain ⟨rfl, rfl⟩ := g22
    try simp only [up_s, up_n, up_up, ne_eq, Nat.reduceEqDiff, not_false_eq_true]
    refine v_if_ne (tgt := 30) (pc := 25) hJ dX11_string_25 (by decide) (by decide) (fun h => by first | exact absurd h (by decide) | exact absurd (by decide) h) (fun _ => ?_)
    refine v_iconst (pc := 28) hJ dX11_string_28 ?_
    refine v_iret (pc := 29) hJ dX11_string_29 ⟨_, rfl, ?_⟩
    refine ⟨fun q => ⟨fun q2 => ?_, fun q2 => ?_⟩, fun q => ?_⟩ <;> first | (exfalso; omega) | exact ⟨rfl, rfl⟩ | exact ⟨rfl, M, hM, rfl⟩ | simp only [up_up]
  · refine v_ild1 (pc := 10) hJ dX11_string_10 ?_
    refine v_bipush (pc := 11) hJ dX11_string_11 (by decide) ?_
    refine v_icmp_gt (tgt := 20) (pc := 13) hJ dX11_string_13 (by decide) (by omega) (by omega) (fun h13 => ?_) (fun h13 => ?_)
    · refine v_iconst (pc := 20) hJ dX11_string_20 ?_
      refine v_iconst (pc := 21) hJ dX11_string_21 ?_
      refine v_cV2i (pc := 22) (q0 := 0) (ci := 8) hJ rfl rfl lkX11_190 (qX11_right0 hO (by first | (simp only [up_s, up_n, up_up, ne_eq, Nat.reduceEqDiff, not_false_eq_true]; done) | assumption | (simp only [up_s, up_n, up_up, ne_eq, Nat.reduceEqDiff, not_false_eq_true]; assumption)) (by decide)) (Nat.le_of_ble_eq_true rfl) (rOk_L (by decide) (by decide)) dX11_string_22 (fun r22 u22 g22 => ?_)
      obtain ⟨rfl, rfl⟩ := g22
      try simp only [up_s, up_n, up_up, ne_eq, Nat.reduceEqDiff, not_false_eq_true]
      refine v_if_ne (tgt := 30) (pc := 25) hJ dX11_string_25 (by decide) (by decide) (fun h => by first | exact absurd h (by decide) | exact absurd (by decide) h) (fun _ => ?_)
      refine v_iconst (pc := 28) hJ dX11_string_28 ?_
      refine v_iret (pc := 29) hJ dX11_string_29 ⟨_, rfl, ?_⟩
      refine ⟨fun q => ⟨fun q2 => ?_, fun q2 => ?_⟩, fun q => ?_⟩ <;> first | (exfalso; omega) | exact ⟨rfl, rfl⟩ | exact ⟨rfl, M, hM, rfl⟩ | simp only [up_up]
    · refine v_iconst (pc := 16) hJ dX11_string_16 ?_
      refine v_goto (tgt := 21) (pc := 17) hJ dX11_string_17 (by decide) ?_
      refine v_iconst (pc := 21) hJ dX11_string_21 ?_
      refine v_cV2i (pc := 22) (q0 := 0) (ci := 8) hJ rfl rfl lkX11_190 (qX11_right1 hO (by first | (simp only [up_s, up_n, up_up, ne_eq, Nat.reduceEqDiff, not_false_eq_true]; done) | assumption | (simp only [up_s, up_n, up_up, ne_eq, Nat.reduceEqDiff, not_false_eq_true]; assumption))) (Nat.le_of_ble_eq_true rfl) (rOk_L (by decide) (by decide)) dX11_string_22 (fun r22 u22 g22 => ?_)
      obtain ⟨rfl, rfl⟩ := g22
      try simp only [up_s, up_n, up_up, ne_eq, Nat.reduceEqDiff, not_false_eq_true]
      refine v_if_ne (tgt := 30) (pc := 25) hJ dX11_string_25 (by decide) (by decide) (fun _ => ?_) (fun h => by first | exact absurd h (by decide) | exact absurd (by decide) h)
      refine v_ald0 (pc := 30) hJ dX11_string_30 ?_
      refine mg9 (pc := 31) hJ dX11_string_31 ?_
      try simp only [up_s, up_n, up_up, ne_eq, Nat.reduceEqDiff, not_false_eq_true]
      refine v_bipush (pc := 34) hJ dX11_string_34 (by decide) ?_
      refine v_icmp_ne (tgt := 41) (pc := 36) hJ dX11_string_36 (by decide) (by omega) (by omega) (fun h36 => ?_) (fun h36 => ?_)
      · refine v_ald0 (pc := 41) hJ dX11_string_41 ?_
        refine mg23 (pc := 42) hJ dX11_string_42 ?_
        refine v_ald0 (pc := 45) hJ dX11_string_45 ?_
        refine mg9 (pc := 46) hJ dX11_string_46 ?_
        try simp only [up_s, up_n, up_up, ne_eq, Nat.reduceEqDiff, not_false_eq_true]
        refine v_ild1 (pc := 49) hJ dX11_string_49 ?_
        refine ms23 (pc := 50) hJ (by omega) (by omega) dX11_string_50 ?_
        refine v_ald0 (pc := 51) hJ dX11_string_51 ?_
        refine v_dup (pc := 52) hJ dX11_string_52 rfl ?_
        refine mg9 (pc := 53) hJ dX11_string_53 ?_
        try simp only [up_s, up_n, up_up, ne_eq, Nat.reduceEqDiff, not_false_eq_true]
        refine v_iconst (pc := 56) hJ dX11_string_56 ?_
        refine v_iadd (pc := 57) hJ dX11_string_57 ?_
        refine mp9 (pc := 58) hJ dX11_string_58 ?_
        refine v_ald0 (pc := 61) hJ dX11_string_61 ?_
        refine v_cV0v (pc := 62) (q0 := 0) (ci := 8) hJ rfl rfl lkX11_210 (qX11_changes hO) (Nat.le_of_ble_eq_true rfl) (rOk_L (by decide) (by decide)) dX11_string_62 (fun u62 g62 => ?_)
        obtain ⟨M, hM, rfl⟩ := g62
        try simp only [up_s, up_n, up_up, ne_eq, Nat.reduceEqDiff, not_false_eq_true]
        refine v_ald0 (pc := 65) hJ dX11_string_65 ?_
        refine mg9 (pc := 66) hJ dX11_string_66 ?_
        try simp only [up_s, up_n, up_up, ne_eq, Nat.reduceEqDiff, not_false_eq_true]
        refine v_iret (pc := 69) hJ dX11_string_69 ⟨_, rfl, ?_⟩
        refine ⟨fun q => ⟨fun q2 => ?_, fun q2 => ?_⟩, fun q => ?_⟩ <;> first | (exfalso; omega) | exact ⟨rfl, rfl⟩ | exact ⟨rfl, M, hM, rfl⟩ | simp only [up_up]
      · refine v_iconst (pc := 39) hJ dX11_string_39 ?_
        refine v_iret (pc := 40) hJ dX11_string_40 ⟨_, rfl, ?_⟩
        refine ⟨fun q => ⟨fun q2 => ?_, fun q2 => ?_⟩, fun q => ?_⟩ <;> first | (exfalso; omega) | exact ⟨rfl, rfl⟩ | exact ⟨rfl, M, hM, rfl⟩ | simp only [up_up]
set_option maxHeartbeats 4000000 in
set_option maxRecDepth 100000 in
theorem qX11_guess {l : Launch} {D : va_G} {cI : ClassId} {ad : Nat → Nat} {O : OT} {adK adV : Nat → Nat} (hO : OG O adK adV) {I : Nat → Int} {A : Nat → Int → Int}  (hC : okC I A) : MC l D cI ad O yX11_guess cX11_guess 7 (some .int) 3 [.ref (ad 0)] (I, A) (pI fun r u2 => r = (gsN (fun k => fitN (tsA A) (scN k 7) (I 6).toNat) 13).1 ∧ u2 = (va_up I 0 0, A)) := by
  refine ct_intro (own := RX11) (by decide) rfl hO.1 (Nat.le_of_ble_eq_true rfl) (by simp [Value.category]) (fun X J hJ => ?_)
  obtain ⟨⟨c1, c2⟩, c3⟩ := id hC
  have hcnt : ∀ k, 0 ≤ fitN (tsA A) (scN k 7) (I 6).toNat ∧ fitN (tsA A) (scN k 7) (I 6).toNat ≤ 60 := fun k => by have := fitN_in (tsA A) (scN k 7) (I 6).toNat; omega
  have lp : ∀ (n0 kn : Nat) (a4 a5 a6 : Option Value), kn ≤ 13 → (13 - (kn : Int)) < (n0 : Int) → J 13 [some (.ref (ad 0)), some (.int (iZ ((gsN (fun k => fitN (tsA A) (scN k 7) (I 6).toNat) kn).1))), some (.int (iZ ((gsN (fun k => fitN (tsA A) (scN k 7) (I 6).toNat) kn).2))), some (.int (iZ (((kn : Int) - 6)))), a4, a5, a6] [] (va_up I 0 0, A) := by
    intro n0
    induction n0 with
    | zero => intro kn a4 a5 a6 hk hmu; exfalso; omega
    | succ n0 ih0 =>
      intro kn a4 a5 a6 hk hmu0
      have hg := gsN_in (cnt := fun k => fitN (tsA A) (scN k 7) (I 6).toNat) hcnt kn
      have e2 : ((kn + 1 : Nat) : Int) - 6 = (kn : Int) - 6 + 1 := by omega
      have lp3 : ∀ (n : Nat) (j : Nat), (kn < 13) → ((j : Int) ≤ I 6) → (I 6 - (j : Int)) < (n : Int) → J 59 [some (.ref (ad 0)), some (.int (iZ ((gsN (fun k => fitN (tsA A) (scN k 7) (I 6).toNat) kn).1))), some (.int (iZ ((gsN (fun k => fitN (tsA A) (scN k 7) (I 6).toNat) kn).2))), some (.int (iZ (((kn : Int) - 6)))), some (.int (iZ (scN ((kn : Int) - 6) 7))), some (.int (iZ (fitN (tsA A) (scN ((kn : Int) - 6) 7) j))), some (.int (iZ ((j : Int))))] [] (va_up I 0 0, A) := by
        intro n
        induction n with
        | zero => intro j hk13 hj hmu; exfalso; omega
        | succ n ih =>
          intro j hk13 hj hmu
          refine v_ild6 (pc := 59) hJ dX11_guess_59 ?_
          refine v_ald0 (pc := 61) hJ dX11_guess_61 ?_
          refine mg6 (pc := 62) hJ dX11_guess_62 ?_
          try simp only [up_s, up_n, up_up, ne_eq, Nat.reduceEqDiff, not_false_eq_true]
          refine v_icmp_ge (tgt := 91) (pc := 65) hJ dX11_guess_65 (by decide) (by omega) (by omega) (fun h65 => ?_) (fun h65 => ?_)
          · have e : j = (I 6).toNat := by omega
            subst e
            have hcc := hcnt ((kn : Int) - 6)
            refine v_ild5 (pc := 91) hJ dX11_guess_91 ?_
            refine v_ild2 (pc := 93) hJ dX11_guess_93 ?_
            refine v_icmp_le (tgt := 105) (pc := 94) hJ dX11_guess_94 (by decide) (by omega) (by omega) (fun h94 => ?_) (fun h94 => ?_)
            · refine v_ild5 (pc := 105) hJ dX11_guess_105 ?_
              refine v_ild2 (pc := 107) hJ dX11_guess_107 ?_
              refine v_icmp_ne (tgt := 114) (pc := 108) hJ dX11_guess_108 (by decide) (by omega) (by omega) (fun h108 => ?_) (fun h108 => ?_)
              · refine v_inc3 (pc := 114) hJ dX11_guess_114 (by decide) ?_
                refine v_goto (tgt := 13) (pc := 117) hJ dX11_guess_117 (by decide) ?_
                have hn := ih0 (kn + 1) (some (.int (iZ (scN ((kn : Int) - 6) 7)))) (some (.int (iZ (fitN (tsA A) (scN ((kn : Int) - 6) 7) (I 6).toNat)))) (some (.int (iZ ((I 6).toNat : Int)))) (by omega) (by omega)
                rw [e2] at hn
                first
                  | (rw [gsN_1 (cnt := (fun k => fitN (tsA A) (scN k 7) (I 6).toNat)) (by omega)] at hn; exact hn)
                  | (rw [gsN_2 (cnt := (fun k => fitN (tsA A) (scN k 7) (I 6).toNat)) (by omega) (by omega)] at hn; exact hn)
                  | (rw [gsN_3 (cnt := (fun k => fitN (tsA A) (scN k 7) (I 6).toNat)) (by omega) (by omega)] at hn; exact hn)
              · refine v_bipush (pc := 111) hJ dX11_guess_111 (by decide) ?_
                refine v_ist1 (pc := 113) hJ dX11_guess_113 (by decide) ?_
                refine v_inc3 (pc := 114) hJ dX11_guess_114 (by decide) ?_
                refine v_goto (tgt := 13) (pc := 117) hJ dX11_guess_117 (by decide) ?_
                have hn := ih0 (kn + 1) (some (.int (iZ (scN ((kn : Int) - 6) 7)))) (some (.int (iZ (fitN (tsA A) (scN ((kn : Int) - 6) 7) (I 6).toNat)))) (some (.int (iZ ((I 6).toNat : Int)))) (by omega) (by omega)
                rw [e2] at hn
                first
                  | (rw [gsN_1 (cnt := (fun k => fitN (tsA A) (scN k 7) (I 6).toNat)) (by omega)] at hn; exact hn)
                  | (rw [gsN_2 (cnt := (fun k => fitN (tsA A) (scN k 7) (I 6).toNat)) (by omega) (by omega)] at hn; exact hn)
                  | (rw [gsN_3 (cnt := (fun k => fitN (tsA A) (scN k 7) (I 6).toNat)) (by omega) (by omega)] at hn; exact hn)
            · refine v_ild3 (pc := 97) hJ dX11_guess_97 ?_
              refine v_ist1 (pc := 98) hJ dX11_guess_98 (by decide) ?_
              refine v_ild5 (pc := 99) hJ dX11_guess_99 ?_
              refine v_ist2 (pc := 101) hJ dX11_guess_101 (by decide) ?_
              refine v_goto (tgt := 114) (pc := 102) hJ dX11_guess_102 (by decide) ?_
              refine v_inc3 (pc := 114) hJ dX11_guess_114 (by decide) ?_
              refine v_goto (tgt := 13) (pc := 117) hJ dX11_guess_117 (by decide) ?_
              have hn := ih0 (kn + 1) (some (.int (iZ (scN ((kn : Int) - 6) 7)))) (some (.int (iZ (fitN (tsA A) (scN ((kn : Int) - 6) 7) (I 6).toNat)))) (some (.int (iZ ((I 6).toNat : Int)))) (by omega) (by omega)
              rw [e2] at hn
              first
                | (rw [gsN_1 (cnt := (fun k => fitN (tsA A) (scN k 7) (I 6).toNat)) (by omega)] at hn; exact hn)
                | (rw [gsN_2 (cnt := (fun k => fitN (tsA A) (scN k 7) (I 6).toNat)) (by omega) (by omega)] at hn; exact hn)
                | (rw [gsN_3 (cnt := (fun k => fitN (tsA A) (scN k 7) (I 6).toNat)) (by omega) (by omega)] at hn; exact hn)
          · refine v_ald0 (pc := 68) hJ dX11_guess_68 ?_
            refine v_ild6 (pc := 69) hJ dX11_guess_69 ?_
            refine v_cV1i (pc := 71) (q0 := 0) (ci := 8) hJ rfl rfl lkX11_223 (qX11_tones hO (by simp only [okC, up_s, up_n, up_up, ne_eq, Nat.reduceEqDiff, not_false_eq_true]; exact hC) (by simp only [up_s, up_n, up_up, ne_eq, Nat.reduceEqDiff, not_false_eq_true]; omega)) (Nat.le_of_ble_eq_true rfl) (rOk_L (by decide) (by decide)) dX11_guess_71 (fun r71 u71 g71 => ?_)
            obtain ⟨rfl, rfl⟩ := g71
            try simp only [up_s, up_n, up_up, ne_eq, Nat.reduceEqDiff, not_false_eq_true]
            refine v_ild4 (pc := 74) hJ dX11_guess_74 ?_
            refine v_iconst (pc := 76) hJ dX11_guess_76 ?_
            refine v_ixor (pc := 77) hJ dX11_guess_77 ?_
            refine v_iand (pc := 78) hJ dX11_guess_78 ?_
            refine v_if_ne (tgt := 85) (pc := 79) hJ dX11_guess_79 (by decide) (inR_zand _ _) (fun h79 => ?_) (fun h79 => ?_)
            · refine v_inc6 (pc := 85) hJ dX11_guess_85 (by decide) ?_
              refine v_goto (tgt := 59) (pc := 88) hJ dX11_guess_88 (by decide) ?_
              first | rw [fitN_neg h79] | rw [fitN_pos h79]
              exact ih (j + 1) hk13 (by omega) (by omega)
            · refine v_inc5 (pc := 82) hJ dX11_guess_82 (by decide) ?_
              refine v_inc6 (pc := 85) hJ dX11_guess_85 (by decide) ?_
              refine v_goto (tgt := 59) (pc := 88) hJ dX11_guess_88 (by decide) ?_
              first | rw [fitN_neg h79] | rw [fitN_pos h79]
              exact ih (j + 1) hk13 (by omega) (by omega)
      have lp2 : ∀ (n : Nat) (j : Nat) (a6 : Option Value), (kn < 13) → (j ≤ 7) → (7 - (j : Int)) < (n : Int) → J 27 [some (.ref (ad 0)), some (.int (iZ ((gsN (fun k => fitN (tsA A) (scN k 7) (I 6).toNat) kn).1))), some (.int (iZ ((gsN (fun k => fitN (tsA A) (scN k 7) (I 6).toNat) kn).2))), some (.int (iZ (((kn : Int) - 6)))), some (.int (iZ (scN ((kn : Int) - 6) j))), some (.int (iZ (((kn : Int) - 6) - 1 + (j : Int)))), a6] [] (va_up I 0 0, A) := by
        intro n
        induction n with
        | zero => intro j  a6 hk13 hj hmu; exfalso; omega
        | succ n ih =>
          intro j  a6 hk13 hj hmu
          refine v_ild5 (pc := 27) hJ dX11_guess_27 ?_
          refine v_ild3 (pc := 29) hJ dX11_guess_29 ?_
          refine v_iconst (pc := 30) hJ dX11_guess_30 ?_
          refine v_iadd (pc := 31) hJ dX11_guess_31 ?_
          refine v_icmp_gt (tgt := 53) (pc := 32) hJ dX11_guess_32 (by decide) (by omega) (by omega) (fun h32 => ?_) (fun h32 => ?_)
          · have e : j = 7 := by omega
            subst e
            refine v_iconst (pc := 53) hJ dX11_guess_53 ?_
            refine v_ist5 (pc := 54) hJ dX11_guess_54 (by decide) ?_
            refine v_iconst (pc := 56) hJ dX11_guess_56 ?_
            refine v_ist6 (pc := 57) hJ dX11_guess_57 (by decide) ?_
            exact lp3 100 0 hk13 (by omega) (by omega)
          · refine v_ild4 (pc := 35) hJ dX11_guess_35 ?_
            refine v_iconst (pc := 37) hJ dX11_guess_37 ?_
            refine v_ild5 (pc := 38) hJ dX11_guess_38 ?_
            refine v_cS1i (pc := 40) hJ lkX11_127 (qX11_tone hO (by omega)) (Nat.le_of_ble_eq_true rfl) (rOk_L (by decide) (by decide)) dX11_guess_40 (fun r40 u40 g40 => ?_)
            obtain ⟨rfl, rfl⟩ := g40
            try simp only [up_s, up_n, up_up, ne_eq, Nat.reduceEqDiff, not_false_eq_true]
            refine v_ishl (pc := 43) hJ dX11_guess_43 ?_
            refine v_ior (pc := 44) hJ dX11_guess_44 ?_
            refine v_ist4 (pc := 45) hJ dX11_guess_45 (by decide) ?_
            refine v_inc5 (pc := 47) hJ dX11_guess_47 (by decide) ?_
            refine v_goto (tgt := 27) (pc := 50) hJ dX11_guess_50 (by decide) ?_
            rw [show (kn : Int) - 6 - 1 + (j : Int) + 1 = (kn : Int) - 6 - 1 + ((j + 1 : Nat) : Int) by omega]
            exact ih (j + 1) a6 hk13 (by omega) (by omega)
      refine v_ild3 (pc := 13) hJ dX11_guess_13 ?_
      refine v_bipush (pc := 14) hJ dX11_guess_14 (by decide) ?_
      refine v_icmp_gt (tgt := 120) (pc := 16) hJ dX11_guess_16 (by decide) (by omega) (by omega) (fun h16 => ?_) (fun h16 => ?_)
      · refine v_ild1 (pc := 120) hJ dX11_guess_120 ?_
        refine v_iret (pc := 121) hJ dX11_guess_121 ⟨_, rfl, ?_⟩
        have e : kn = 13 := by omega
        subst e
        exact ⟨rfl, rfl⟩
      · refine v_iconst (pc := 19) hJ dX11_guess_19 ?_
        refine v_ist4 (pc := 20) hJ dX11_guess_20 (by decide) ?_
        refine v_ild3 (pc := 22) hJ dX11_guess_22 ?_
        refine v_iconst (pc := 23) hJ dX11_guess_23 ?_
        refine v_isub (pc := 24) hJ dX11_guess_24 ?_
        refine v_ist5 (pc := 25) hJ dX11_guess_25 (by decide) ?_
        rw [show (kn : Int) - 6 - 1 = (kn : Int) - 6 - 1 + ((0 : Nat) : Int) by omega]
        exact lp2 8 0 _ (by omega) (by omega) (by omega)
  show J 0 [some (.ref (ad 0)), none, none, none, none, none, none] [] (I, A)
  refine v_ald0 (pc := 0) hJ dX11_guess_0 ?_
  refine v_iconst (pc := 1) hJ dX11_guess_1 ?_
  refine mp0 (pc := 2) hJ dX11_guess_2 ?_
  refine v_bipush (pc := 5) hJ dX11_guess_5 (by decide) ?_
  refine v_ist1 (pc := 7) hJ dX11_guess_7 (by decide) ?_
  refine v_iconst (pc := 8) hJ dX11_guess_8 ?_
  refine v_ist2 (pc := 9) hJ dX11_guess_9 (by decide) ?_
  refine v_bipush (pc := 10) hJ dX11_guess_10 (by decide) ?_
  refine v_ist3 (pc := 12) hJ dX11_guess_12 (by decide) ?_
  exact lp 14 0 _ _ _ (by omega) (by omega)
end
