section
-- ===== PART A: goes FIRST, ahead of the names: the tables' words, and 'selects' of the private methods out of them =====
/-- a private method of a class that the tables say can be made, by its rows of tables_1 -/
def lw_okq (q : MethodName × Nat) : Prop := (q.1.cls ≠ "java/lang/invoke/MethodHandle" ∧ q.1.cls ≠ "java/lang/invoke/VarHandle") ∧ Cond.instantiable q.1.cls q.2 ∈ tables_1 ∧ Cond.privateMethod q.1 ∈ tables_1 ∧ Cond.instanceMethod q.1 ∈ tables_1
theorem lw_p0 : lw_okq (⟨"ThresholdLines", "forgetLines", "()V"⟩, 11) := ⟨⟨by decide +kernel, by decide +kernel⟩, List.mem_of_getElem? (i := 18) (by decide +kernel), List.mem_of_getElem? (i := 263) (by decide +kernel), List.mem_of_getElem? (i := 264) (by decide +kernel)⟩
theorem lw_p1 : lw_okq (⟨"ThresholdLines", "knowLines", "()V"⟩, 11) := ⟨⟨by decide +kernel, by decide +kernel⟩, List.mem_of_getElem? (i := 18) (by decide +kernel), List.mem_of_getElem? (i := 284) (by decide +kernel), List.mem_of_getElem? (i := 285) (by decide +kernel)⟩
theorem lw_p2 : lw_okq (⟨"ThresholdLines$LineFinder", "follow", "(LThresholdLines$Drawing;II)V"⟩, 5) := ⟨⟨by decide +kernel, by decide +kernel⟩, List.mem_of_getElem? (i := 67) (by decide +kernel), List.mem_of_getElem? (i := 297) (by decide +kernel), List.mem_of_getElem? (i := 298) (by decide +kernel)⟩
theorem lw_p3 : lw_okq (⟨"ThresholdLines", "dotsHeld", "(II)I"⟩, 11) := ⟨⟨by decide +kernel, by decide +kernel⟩, List.mem_of_getElem? (i := 18) (by decide +kernel), List.mem_of_getElem? (i := 334) (by decide +kernel), List.mem_of_getElem? (i := 335) (by decide +kernel)⟩
theorem lw_p4 : lw_okq (⟨"ThresholdLines", "squaresRound", "(III)I"⟩, 11) := ⟨⟨by decide +kernel, by decide +kernel⟩, List.mem_of_getElem? (i := 18) (by decide +kernel), List.mem_of_getElem? (i := 338) (by decide +kernel), List.mem_of_getElem? (i := 339) (by decide +kernel)⟩
theorem lw_p5 : lw_okq (⟨"ThresholdLines", "pointsMetTwice", "(I)I"⟩, 11) := ⟨⟨by decide +kernel, by decide +kernel⟩, List.mem_of_getElem? (i := 18) (by decide +kernel), List.mem_of_getElem? (i := 342) (by decide +kernel), List.mem_of_getElem? (i := 343) (by decide +kernel)⟩
theorem lw_p6 : lw_okq (⟨"ThresholdLines", "knowJoin", "()V"⟩, 11) := ⟨⟨by decide +kernel, by decide +kernel⟩, List.mem_of_getElem? (i := 18) (by decide +kernel), List.mem_of_getElem? (i := 370) (by decide +kernel), List.mem_of_getElem? (i := 371) (by decide +kernel)⟩
theorem lw_p7 : lw_okq (⟨"ThresholdLines$Joiner", "tryPoint", "(LThresholdLines$Drawing;LThresholdLines$LineFinder;II)V"⟩, 4) := ⟨⟨by decide +kernel, by decide +kernel⟩, List.mem_of_getElem? (i := 90) (by decide +kernel), List.mem_of_getElem? (i := 379) (by decide +kernel), List.mem_of_getElem? (i := 380) (by decide +kernel)⟩
theorem lw_p8 : lw_okq (⟨"ThresholdLines$Joiner", "unite", "(II)V"⟩, 4) := ⟨⟨by decide +kernel, by decide +kernel⟩, List.mem_of_getElem? (i := 90) (by decide +kernel), List.mem_of_getElem? (i := 385) (by decide +kernel), List.mem_of_getElem? (i := 386) (by decide +kernel)⟩
theorem lw_p9 : lw_okq (⟨"ThresholdLines$TextReader", "readOne", "(II)Z"⟩, 5) := ⟨⟨by decide +kernel, by decide +kernel⟩, List.mem_of_getElem? (i := 138) (by decide +kernel), List.mem_of_getElem? (i := 436) (by decide +kernel), List.mem_of_getElem? (i := 437) (by decide +kernel)⟩
theorem lw_p10 : lw_okq (⟨"ThresholdLines$Tokens", "takeNumber", "()V"⟩, 5) := ⟨⟨by decide +kernel, by decide +kernel⟩, List.mem_of_getElem? (i := 144) (by decide +kernel), List.mem_of_getElem? (i := 454) (by decide +kernel), List.mem_of_getElem? (i := 455) (by decide +kernel)⟩
theorem lw_p11 : lw_okq (⟨"ThresholdLines$Tokens", "spells", "(Ljava/lang/String;)Z"⟩, 5) := ⟨⟨by decide +kernel, by decide +kernel⟩, List.mem_of_getElem? (i := 144) (by decide +kernel), List.mem_of_getElem? (i := 467) (by decide +kernel), List.mem_of_getElem? (i := 468) (by decide +kernel)⟩
theorem lw_p12 : lw_okq (⟨"ThresholdLines$TextReader", "readPlain", "(LThresholdLines$Drawing;)Z"⟩, 5) := ⟨⟨by decide +kernel, by decide +kernel⟩, List.mem_of_getElem? (i := 138) (by decide +kernel), List.mem_of_getElem? (i := 531) (by decide +kernel), List.mem_of_getElem? (i := 532) (by decide +kernel)⟩
theorem lw_p13 : lw_okq (⟨"ThresholdLines$TextReader", "readNumber", "(II)I"⟩, 5) := ⟨⟨by decide +kernel, by decide +kernel⟩, List.mem_of_getElem? (i := 138) (by decide +kernel), List.mem_of_getElem? (i := 535) (by decide +kernel), List.mem_of_getElem? (i := 536) (by decide +kernel)⟩
theorem lw_p14 : lw_okq (⟨"ThresholdLines$TextReader", "readKept", "(LThresholdLines$Drawing;)Z"⟩, 5) := ⟨⟨by decide +kernel, by decide +kernel⟩, List.mem_of_getElem? (i := 138) (by decide +kernel), List.mem_of_getElem? (i := 540) (by decide +kernel), List.mem_of_getElem? (i := 541) (by decide +kernel)⟩
theorem lw_p15 : lw_okq (⟨"ThresholdLines$TextReader", "readSet", "(III)Z"⟩, 5) := ⟨⟨by decide +kernel, by decide +kernel⟩, List.mem_of_getElem? (i := 138) (by decide +kernel), List.mem_of_getElem? (i := 551) (by decide +kernel), List.mem_of_getElem? (i := 552) (by decide +kernel)⟩
def lw_privs_1 : List (MethodName × Nat) := [(⟨"ThresholdLines", "forgetLines", "()V"⟩, 11), (⟨"ThresholdLines", "knowLines", "()V"⟩, 11), (⟨"ThresholdLines$LineFinder", "follow", "(LThresholdLines$Drawing;II)V"⟩, 5), (⟨"ThresholdLines", "dotsHeld", "(II)I"⟩, 11), (⟨"ThresholdLines", "squaresRound", "(III)I"⟩, 11), (⟨"ThresholdLines", "pointsMetTwice", "(I)I"⟩, 11), (⟨"ThresholdLines", "knowJoin", "()V"⟩, 11), (⟨"ThresholdLines$Joiner", "tryPoint", "(LThresholdLines$Drawing;LThresholdLines$LineFinder;II)V"⟩, 4), (⟨"ThresholdLines$Joiner", "unite", "(II)V"⟩, 4), (⟨"ThresholdLines$TextReader", "readOne", "(II)Z"⟩, 5), (⟨"ThresholdLines$Tokens", "takeNumber", "()V"⟩, 5), (⟨"ThresholdLines$Tokens", "spells", "(Ljava/lang/String;)Z"⟩, 5), (⟨"ThresholdLines$TextReader", "readPlain", "(LThresholdLines$Drawing;)Z"⟩, 5), (⟨"ThresholdLines$TextReader", "readNumber", "(II)I"⟩, 5), (⟨"ThresholdLines$TextReader", "readKept", "(LThresholdLines$Drawing;)Z"⟩, 5), (⟨"ThresholdLines$TextReader", "readSet", "(III)Z"⟩, 5)]
theorem lw_r1 : ∀ q ∈ lw_privs_1, lw_okq q := List.forall_mem_cons.mpr ⟨lw_p0, List.forall_mem_cons.mpr ⟨lw_p1, List.forall_mem_cons.mpr ⟨lw_p2, List.forall_mem_cons.mpr ⟨lw_p3, List.forall_mem_cons.mpr ⟨lw_p4, List.forall_mem_cons.mpr ⟨lw_p5, List.forall_mem_cons.mpr ⟨lw_p6, List.forall_mem_cons.mpr ⟨lw_p7, List.forall_mem_cons.mpr ⟨lw_p8, List.forall_mem_cons.mpr ⟨lw_p9, List.forall_mem_cons.mpr ⟨lw_p10, List.forall_mem_cons.mpr ⟨lw_p11, List.forall_mem_cons.mpr ⟨lw_p12, List.forall_mem_cons.mpr ⟨lw_p13, List.forall_mem_cons.mpr ⟨lw_p14, List.forall_mem_cons.mpr ⟨lw_p15, fun _ h => absurd h List.not_mem_nil⟩⟩⟩⟩⟩⟩⟩⟩⟩⟩⟩⟩⟩⟩⟩⟩
theorem lw_p16 : lw_okq (⟨"ThresholdLines$TextReader", "readRow", "(III)Z"⟩, 5) := ⟨⟨by decide +kernel, by decide +kernel⟩, List.mem_of_getElem? (i := 138) (by decide +kernel), List.mem_of_getElem? (i := 557) (by decide +kernel), List.mem_of_getElem? (i := 558) (by decide +kernel)⟩
theorem lw_p17 : lw_okq (⟨"ThresholdLines$Drawing", "layMirrors", "(LThresholdLines$Drawing;II)V"⟩, 3) := ⟨⟨by decide +kernel, by decide +kernel⟩, List.mem_of_getElem? (i := 26) (by decide +kernel), List.mem_of_getElem? (i := 565) (by decide +kernel), List.mem_of_getElem? (i := 566) (by decide +kernel)⟩
theorem lw_p18 : lw_okq (⟨"ThresholdLines$TextReader", "readTurned", "(III)Z"⟩, 5) := ⟨⟨by decide +kernel, by decide +kernel⟩, List.mem_of_getElem? (i := 138) (by decide +kernel), List.mem_of_getElem? (i := 571) (by decide +kernel), List.mem_of_getElem? (i := 572) (by decide +kernel)⟩
theorem lw_p19 : lw_okq (⟨"ThresholdLines$TextReader", "readPair", "(IIII)Z"⟩, 5) := ⟨⟨by decide +kernel, by decide +kernel⟩, List.mem_of_getElem? (i := 138) (by decide +kernel), List.mem_of_getElem? (i := 586) (by decide +kernel), List.mem_of_getElem? (i := 587) (by decide +kernel)⟩
theorem lw_p20 : lw_okq (⟨"ThresholdLines", "takeSpare", "()V"⟩, 11) := ⟨⟨by decide +kernel, by decide +kernel⟩, List.mem_of_getElem? (i := 18) (by decide +kernel), List.mem_of_getElem? (i := 598) (by decide +kernel), List.mem_of_getElem? (i := 599) (by decide +kernel)⟩
theorem lw_p21 : lw_okq (⟨"ThresholdLines$WalkReader", "tellPoint", "(LThresholdLines$Drawing;III)V"⟩, 6) := ⟨⟨by decide +kernel, by decide +kernel⟩, List.mem_of_getElem? (i := 187) (by decide +kernel), List.mem_of_getElem? (i := 631) (by decide +kernel), List.mem_of_getElem? (i := 632) (by decide +kernel)⟩
theorem lw_p22 : lw_okq (⟨"ThresholdLines", "waysFrom", "(LThresholdLines$Drawing;)I"⟩, 11) := ⟨⟨by decide +kernel, by decide +kernel⟩, List.mem_of_getElem? (i := 18) (by decide +kernel), List.mem_of_getElem? (i := 654) (by decide +kernel), List.mem_of_getElem? (i := 655) (by decide +kernel)⟩
theorem lw_p23 : lw_okq (⟨"ThresholdLines", "pinCount", "()I"⟩, 11) := ⟨⟨by decide +kernel, by decide +kernel⟩, List.mem_of_getElem? (i := 18) (by decide +kernel), List.mem_of_getElem? (i := 671) (by decide +kernel), List.mem_of_getElem? (i := 672) (by decide +kernel)⟩
theorem lw_p24 : lw_okq (⟨"ThresholdLines", "shelvesUsed", "()I"⟩, 11) := ⟨⟨by decide +kernel, by decide +kernel⟩, List.mem_of_getElem? (i := 18) (by decide +kernel), List.mem_of_getElem? (i := 675) (by decide +kernel), List.mem_of_getElem? (i := 676) (by decide +kernel)⟩
theorem lw_p25 : lw_okq (⟨"ThresholdLinesModel", "isInner", "(III)Z"⟩, 30) := ⟨⟨by decide +kernel, by decide +kernel⟩, List.mem_of_getElem? (i := 683) (by decide +kernel), List.mem_of_getElem? (i := 785) (by decide +kernel), List.mem_of_getElem? (i := 786) (by decide +kernel)⟩
theorem lw_p26 : lw_okq (⟨"ThresholdLinesModel", "walkAll", "()V"⟩, 30) := ⟨⟨by decide +kernel, by decide +kernel⟩, List.mem_of_getElem? (i := 683) (by decide +kernel), List.mem_of_getElem? (i := 807) (by decide +kernel), List.mem_of_getElem? (i := 808) (by decide +kernel)⟩
theorem lw_p27 : lw_okq (⟨"ThresholdLinesModel", "squares", "()I"⟩, 30) := ⟨⟨by decide +kernel, by decide +kernel⟩, List.mem_of_getElem? (i := 683) (by decide +kernel), List.mem_of_getElem? (i := 811) (by decide +kernel), List.mem_of_getElem? (i := 812) (by decide +kernel)⟩
theorem lw_p28 : lw_okq (⟨"ThresholdLinesModel", "walkOne", "(II)I"⟩, 30) := ⟨⟨by decide +kernel, by decide +kernel⟩, List.mem_of_getElem? (i := 683) (by decide +kernel), List.mem_of_getElem? (i := 815) (by decide +kernel), List.mem_of_getElem? (i := 816) (by decide +kernel)⟩
theorem lw_p29 : lw_okq (⟨"ThresholdLinesModel", "isSquare", "(I)Z"⟩, 30) := ⟨⟨by decide +kernel, by decide +kernel⟩, List.mem_of_getElem? (i := 683) (by decide +kernel), List.mem_of_getElem? (i := 823) (by decide +kernel), List.mem_of_getElem? (i := 824) (by decide +kernel)⟩
theorem lw_p30 : lw_okq (⟨"ThresholdLinesModel", "held", "(III)I"⟩, 30) := ⟨⟨by decide +kernel, by decide +kernel⟩, List.mem_of_getElem? (i := 683) (by decide +kernel), List.mem_of_getElem? (i := 831) (by decide +kernel), List.mem_of_getElem? (i := 832) (by decide +kernel)⟩
theorem lw_p31 : lw_okq (⟨"ThresholdLinesModel", "strand", "(III)I"⟩, 30) := ⟨⟨by decide +kernel, by decide +kernel⟩, List.mem_of_getElem? (i := 683) (by decide +kernel), List.mem_of_getElem? (i := 835) (by decide +kernel), List.mem_of_getElem? (i := 836) (by decide +kernel)⟩
def lw_privs_2 : List (MethodName × Nat) := [(⟨"ThresholdLines$TextReader", "readRow", "(III)Z"⟩, 5), (⟨"ThresholdLines$Drawing", "layMirrors", "(LThresholdLines$Drawing;II)V"⟩, 3), (⟨"ThresholdLines$TextReader", "readTurned", "(III)Z"⟩, 5), (⟨"ThresholdLines$TextReader", "readPair", "(IIII)Z"⟩, 5), (⟨"ThresholdLines", "takeSpare", "()V"⟩, 11), (⟨"ThresholdLines$WalkReader", "tellPoint", "(LThresholdLines$Drawing;III)V"⟩, 6), (⟨"ThresholdLines", "waysFrom", "(LThresholdLines$Drawing;)I"⟩, 11), (⟨"ThresholdLines", "pinCount", "()I"⟩, 11), (⟨"ThresholdLines", "shelvesUsed", "()I"⟩, 11), (⟨"ThresholdLinesModel", "isInner", "(III)Z"⟩, 30), (⟨"ThresholdLinesModel", "walkAll", "()V"⟩, 30), (⟨"ThresholdLinesModel", "squares", "()I"⟩, 30), (⟨"ThresholdLinesModel", "walkOne", "(II)I"⟩, 30), (⟨"ThresholdLinesModel", "isSquare", "(I)Z"⟩, 30), (⟨"ThresholdLinesModel", "held", "(III)I"⟩, 30), (⟨"ThresholdLinesModel", "strand", "(III)I"⟩, 30)]
theorem lw_r2 : ∀ q ∈ lw_privs_2, lw_okq q := List.forall_mem_cons.mpr ⟨lw_p16, List.forall_mem_cons.mpr ⟨lw_p17, List.forall_mem_cons.mpr ⟨lw_p18, List.forall_mem_cons.mpr ⟨lw_p19, List.forall_mem_cons.mpr ⟨lw_p20, List.forall_mem_cons.mpr ⟨lw_p21, List.forall_mem_cons.mpr ⟨lw_p22, List.forall_mem_cons.mpr ⟨lw_p23, List.forall_mem_cons.mpr ⟨lw_p24, List.forall_mem_cons.mpr ⟨lw_p25, List.forall_mem_cons.mpr ⟨lw_p26, List.forall_mem_cons.mpr ⟨lw_p27, List.forall_mem_cons.mpr ⟨lw_p28, List.forall_mem_cons.mpr ⟨lw_p29, List.forall_mem_cons.mpr ⟨lw_p30, List.forall_mem_cons.mpr ⟨lw_p31, fun _ h => absurd h List.not_mem_nil⟩⟩⟩⟩⟩⟩⟩⟩⟩⟩⟩⟩⟩⟩⟩⟩
theorem lw_p32 : lw_okq (⟨"ThresholdLinesModel", "find", "()V"⟩, 30) := ⟨⟨by decide +kernel, by decide +kernel⟩, List.mem_of_getElem? (i := 683) (by decide +kernel), List.mem_of_getElem? (i := 859) (by decide +kernel), List.mem_of_getElem? (i := 860) (by decide +kernel)⟩
theorem lw_p33 : lw_okq (⟨"ThresholdLinesModel", "rootOf", "(I)I"⟩, 30) := ⟨⟨by decide +kernel, by decide +kernel⟩, List.mem_of_getElem? (i := 683) (by decide +kernel), List.mem_of_getElem? (i := 863) (by decide +kernel), List.mem_of_getElem? (i := 864) (by decide +kernel)⟩
theorem lw_p34 : lw_okq (⟨"ThresholdLinesModel", "other", "(I)I"⟩, 30) := ⟨⟨by decide +kernel, by decide +kernel⟩, List.mem_of_getElem? (i := 683) (by decide +kernel), List.mem_of_getElem? (i := 871) (by decide +kernel), List.mem_of_getElem? (i := 872) (by decide +kernel)⟩
theorem lw_p35 : lw_okq (⟨"ThresholdLinesModel", "four", "(I)V"⟩, 30) := ⟨⟨by decide +kernel, by decide +kernel⟩, List.mem_of_getElem? (i := 683) (by decide +kernel), List.mem_of_getElem? (i := 883) (by decide +kernel), List.mem_of_getElem? (i := 884) (by decide +kernel)⟩
theorem lw_p36 : lw_okq (⟨"ThresholdLinesModel", "read", "()I"⟩, 30) := ⟨⟨by decide +kernel, by decide +kernel⟩, List.mem_of_getElem? (i := 683) (by decide +kernel), List.mem_of_getElem? (i := 895) (by decide +kernel), List.mem_of_getElem? (i := 896) (by decide +kernel)⟩
theorem lw_p37 : lw_okq (⟨"ThresholdLinesModel", "nextToken", "()V"⟩, 30) := ⟨⟨by decide +kernel, by decide +kernel⟩, List.mem_of_getElem? (i := 683) (by decide +kernel), List.mem_of_getElem? (i := 899) (by decide +kernel), List.mem_of_getElem? (i := 900) (by decide +kernel)⟩
theorem lw_p38 : lw_okq (⟨"ThresholdLinesModel", "see", "(I)I"⟩, 30) := ⟨⟨by decide +kernel, by decide +kernel⟩, List.mem_of_getElem? (i := 683) (by decide +kernel), List.mem_of_getElem? (i := 903) (by decide +kernel), List.mem_of_getElem? (i := 904) (by decide +kernel)⟩
theorem lw_p39 : lw_okq (⟨"ThresholdLinesModel", "begin", "()I"⟩, 30) := ⟨⟨by decide +kernel, by decide +kernel⟩, List.mem_of_getElem? (i := 683) (by decide +kernel), List.mem_of_getElem? (i := 920) (by decide +kernel), List.mem_of_getElem? (i := 921) (by decide +kernel)⟩
theorem lw_p40 : lw_okq (⟨"ThresholdLinesModel", "take", "(II)I"⟩, 30) := ⟨⟨by decide +kernel, by decide +kernel⟩, List.mem_of_getElem? (i := 683) (by decide +kernel), List.mem_of_getElem? (i := 924) (by decide +kernel), List.mem_of_getElem? (i := 925) (by decide +kernel)⟩
theorem lw_p41 : lw_okq (⟨"ThresholdLinesModel", "takeLast", "(II)I"⟩, 30) := ⟨⟨by decide +kernel, by decide +kernel⟩, List.mem_of_getElem? (i := 683) (by decide +kernel), List.mem_of_getElem? (i := 928) (by decide +kernel), List.mem_of_getElem? (i := 929) (by decide +kernel)⟩
theorem lw_p42 : lw_okq (⟨"ThresholdLinesModel", "plain", "(III)V"⟩, 30) := ⟨⟨by decide +kernel, by decide +kernel⟩, List.mem_of_getElem? (i := 683) (by decide +kernel), List.mem_of_getElem? (i := 932) (by decide +kernel), List.mem_of_getElem? (i := 933) (by decide +kernel)⟩
theorem lw_p43 : lw_okq (⟨"ThresholdLinesModel", "copy", "(II)V"⟩, 30) := ⟨⟨by decide +kernel, by decide +kernel⟩, List.mem_of_getElem? (i := 683) (by decide +kernel), List.mem_of_getElem? (i := 936) (by decide +kernel), List.mem_of_getElem? (i := 937) (by decide +kernel)⟩
theorem lw_p44 : lw_okq (⟨"ThresholdLinesModel", "close", "()I"⟩, 30) := ⟨⟨by decide +kernel, by decide +kernel⟩, List.mem_of_getElem? (i := 683) (by decide +kernel), List.mem_of_getElem? (i := 940) (by decide +kernel), List.mem_of_getElem? (i := 941) (by decide +kernel)⟩
theorem lw_p45 : lw_okq (⟨"ThresholdLinesModel", "isDone", "(II)Z"⟩, 30) := ⟨⟨by decide +kernel, by decide +kernel⟩, List.mem_of_getElem? (i := 683) (by decide +kernel), List.mem_of_getElem? (i := 944) (by decide +kernel), List.mem_of_getElem? (i := 945) (by decide +kernel)⟩
theorem lw_p46 : lw_okq (⟨"ThresholdLinesModel", "turn", "(I)V"⟩, 30) := ⟨⟨by decide +kernel, by decide +kernel⟩, List.mem_of_getElem? (i := 683) (by decide +kernel), List.mem_of_getElem? (i := 948) (by decide +kernel), List.mem_of_getElem? (i := 949) (by decide +kernel)⟩
theorem lw_p47 : lw_okq (⟨"ThresholdLinesModel", "flip", "(I)V"⟩, 30) := ⟨⟨by decide +kernel, by decide +kernel⟩, List.mem_of_getElem? (i := 683) (by decide +kernel), List.mem_of_getElem? (i := 952) (by decide +kernel), List.mem_of_getElem? (i := 953) (by decide +kernel)⟩
def lw_privs_3 : List (MethodName × Nat) := [(⟨"ThresholdLinesModel", "find", "()V"⟩, 30), (⟨"ThresholdLinesModel", "rootOf", "(I)I"⟩, 30), (⟨"ThresholdLinesModel", "other", "(I)I"⟩, 30), (⟨"ThresholdLinesModel", "four", "(I)V"⟩, 30), (⟨"ThresholdLinesModel", "read", "()I"⟩, 30), (⟨"ThresholdLinesModel", "nextToken", "()V"⟩, 30), (⟨"ThresholdLinesModel", "see", "(I)I"⟩, 30), (⟨"ThresholdLinesModel", "begin", "()I"⟩, 30), (⟨"ThresholdLinesModel", "take", "(II)I"⟩, 30), (⟨"ThresholdLinesModel", "takeLast", "(II)I"⟩, 30), (⟨"ThresholdLinesModel", "plain", "(III)V"⟩, 30), (⟨"ThresholdLinesModel", "copy", "(II)V"⟩, 30), (⟨"ThresholdLinesModel", "close", "()I"⟩, 30), (⟨"ThresholdLinesModel", "isDone", "(II)Z"⟩, 30), (⟨"ThresholdLinesModel", "turn", "(I)V"⟩, 30), (⟨"ThresholdLinesModel", "flip", "(I)V"⟩, 30)]
theorem lw_r3 : ∀ q ∈ lw_privs_3, lw_okq q := List.forall_mem_cons.mpr ⟨lw_p32, List.forall_mem_cons.mpr ⟨lw_p33, List.forall_mem_cons.mpr ⟨lw_p34, List.forall_mem_cons.mpr ⟨lw_p35, List.forall_mem_cons.mpr ⟨lw_p36, List.forall_mem_cons.mpr ⟨lw_p37, List.forall_mem_cons.mpr ⟨lw_p38, List.forall_mem_cons.mpr ⟨lw_p39, List.forall_mem_cons.mpr ⟨lw_p40, List.forall_mem_cons.mpr ⟨lw_p41, List.forall_mem_cons.mpr ⟨lw_p42, List.forall_mem_cons.mpr ⟨lw_p43, List.forall_mem_cons.mpr ⟨lw_p44, List.forall_mem_cons.mpr ⟨lw_p45, List.forall_mem_cons.mpr ⟨lw_p46, List.forall_mem_cons.mpr ⟨lw_p47, fun _ h => absurd h List.not_mem_nil⟩⟩⟩⟩⟩⟩⟩⟩⟩⟩⟩⟩⟩⟩⟩⟩
theorem lw_p48 : lw_okq (⟨"ThresholdLinesModel", "isRow", "(I)Z"⟩, 30) := ⟨⟨by decide +kernel, by decide +kernel⟩, List.mem_of_getElem? (i := 683) (by decide +kernel), List.mem_of_getElem? (i := 956) (by decide +kernel), List.mem_of_getElem? (i := 957) (by decide +kernel)⟩
theorem lw_p49 : lw_okq (⟨"ThresholdLinesModel", "lay", "(IIII)V"⟩, 30) := ⟨⟨by decide +kernel, by decide +kernel⟩, List.mem_of_getElem? (i := 683) (by decide +kernel), List.mem_of_getElem? (i := 960) (by decide +kernel), List.mem_of_getElem? (i := 961) (by decide +kernel)⟩
theorem lw_p50 : lw_okq (⟨"ThresholdLinesModel", "isPut", "(II)Z"⟩, 30) := ⟨⟨by decide +kernel, by decide +kernel⟩, List.mem_of_getElem? (i := 683) (by decide +kernel), List.mem_of_getElem? (i := 964) (by decide +kernel), List.mem_of_getElem? (i := 965) (by decide +kernel)⟩
theorem lw_p51 : lw_okq (⟨"ThresholdLinesModel", "isTold", "(I)Z"⟩, 30) := ⟨⟨by decide +kernel, by decide +kernel⟩, List.mem_of_getElem? (i := 683) (by decide +kernel), List.mem_of_getElem? (i := 968) (by decide +kernel), List.mem_of_getElem? (i := 969) (by decide +kernel)⟩
theorem lw_p52 : lw_okq (⟨"ThresholdLinesModel", "walkBack", "(II)I"⟩, 30) := ⟨⟨by decide +kernel, by decide +kernel⟩, List.mem_of_getElem? (i := 683) (by decide +kernel), List.mem_of_getElem? (i := 980) (by decide +kernel), List.mem_of_getElem? (i := 981) (by decide +kernel)⟩
theorem lw_p53 : lw_okq (⟨"ThresholdLinesModel", "bend", "(IIII)V"⟩, 30) := ⟨⟨by decide +kernel, by decide +kernel⟩, List.mem_of_getElem? (i := 683) (by decide +kernel), List.mem_of_getElem? (i := 990) (by decide +kernel), List.mem_of_getElem? (i := 991) (by decide +kernel)⟩
theorem lw_p54 : lw_okq (⟨"ThresholdLinesModel", "isSame", "(II)Z"⟩, 30) := ⟨⟨by decide +kernel, by decide +kernel⟩, List.mem_of_getElem? (i := 683) (by decide +kernel), List.mem_of_getElem? (i := 1002) (by decide +kernel), List.mem_of_getElem? (i := 1003) (by decide +kernel)⟩
theorem lw_p55 : lw_okq (⟨"ThresholdLinesModel", "ways", "(I)I"⟩, 30) := ⟨⟨by decide +kernel, by decide +kernel⟩, List.mem_of_getElem? (i := 683) (by decide +kernel), List.mem_of_getElem? (i := 1006) (by decide +kernel), List.mem_of_getElem? (i := 1007) (by decide +kernel)⟩
def lw_privs_4 : List (MethodName × Nat) := [(⟨"ThresholdLinesModel", "isRow", "(I)Z"⟩, 30), (⟨"ThresholdLinesModel", "lay", "(IIII)V"⟩, 30), (⟨"ThresholdLinesModel", "isPut", "(II)Z"⟩, 30), (⟨"ThresholdLinesModel", "isTold", "(I)Z"⟩, 30), (⟨"ThresholdLinesModel", "walkBack", "(II)I"⟩, 30), (⟨"ThresholdLinesModel", "bend", "(IIII)V"⟩, 30), (⟨"ThresholdLinesModel", "isSame", "(II)Z"⟩, 30), (⟨"ThresholdLinesModel", "ways", "(I)I"⟩, 30)]
theorem lw_r4 : ∀ q ∈ lw_privs_4, lw_okq q := List.forall_mem_cons.mpr ⟨lw_p48, List.forall_mem_cons.mpr ⟨lw_p49, List.forall_mem_cons.mpr ⟨lw_p50, List.forall_mem_cons.mpr ⟨lw_p51, List.forall_mem_cons.mpr ⟨lw_p52, List.forall_mem_cons.mpr ⟨lw_p53, List.forall_mem_cons.mpr ⟨lw_p54, List.forall_mem_cons.mpr ⟨lw_p55, fun _ h => absurd h List.not_mem_nil⟩⟩⟩⟩⟩⟩⟩⟩
def lw_privs : List (MethodName × Nat) := lw_privs_1 ++ (lw_privs_2 ++ (lw_privs_3 ++ (lw_privs_4)))
def lw_tbl : List Cond := k2_sels lw_privs ++ tables_1
theorem lw_privs_ok : ∀ q ∈ lw_privs, lw_okq q := by
  show ∀ q ∈ lw_privs_1 ++ (lw_privs_2 ++ (lw_privs_3 ++ (lw_privs_4))), lw_okq q
  exact List.forall_mem_append.mpr ⟨lw_r1, List.forall_mem_append.mpr ⟨lw_r2, List.forall_mem_append.mpr ⟨lw_r3, lw_r4⟩⟩⟩
end
section
def RX0 : String := "ThresholdLines$Drawing"
def TX0 : u_T := fun k => match k with
  | 0 => ("ThresholdLines$Drawing", "wide", "I", false)
  | 1 => ("ThresholdLines$Drawing", "high", "I", false)
  | _ => ("ThresholdLines$Drawing", "mirrors", "[I", true)
def tyX0 : Nat → FieldType := fun k => match k with
  | 0 => .int
  | 1 => .int
  | _ => .array .int
theorem nmX0 : ∀ a, a < 3 → ∀ b, b < 3 → a ≠ b → (TX0 a).2.1 ≠ (TX0 b).2.1 := by decide +kernel
theorem tyX0_ok : ∀ k, k < 3 → parseFieldDescriptor (TX0 k).2.2.1 = some (tyX0 k) := by decide +kernel
abbrev cX0_init : ByteArray := prog_2_method_1_code
def yX0_init : MethodName := ⟨RX0, "<init>", "()V"⟩
abbrev cX0_clear : ByteArray := prog_2_method_2_code
def yX0_clear : MethodName := ⟨RX0, "clear", "(II)V"⟩
abbrev cX0_isPoint : ByteArray := prog_2_method_3_code
def yX0_isPoint : MethodName := ⟨RX0, "isPoint", "(II)Z"⟩
abbrev cX0_isInner : ByteArray := prog_2_method_4_code
def yX0_isInner : MethodName := ⟨RX0, "isInner", "(II)Z"⟩
abbrev cX0_isSquare : ByteArray := prog_2_method_5_code
def yX0_isSquare : MethodName := ⟨RX0, "isSquare", "(I)Z"⟩
abbrev cX0_squareCount : ByteArray := prog_2_method_6_code
def yX0_squareCount : MethodName := ⟨RX0, "squareCount", "()I"⟩
abbrev cX0_mirrorAt : ByteArray := prog_2_method_7_code
def yX0_mirrorAt : MethodName := ⟨RX0, "mirrorAt", "(II)I"⟩
abbrev cX0_put : ByteArray := prog_2_method_8_code
def yX0_put : MethodName := ⟨RX0, "put", "(III)V"⟩
abbrev cX0_copy : ByteArray := prog_2_method_9_code
def yX0_copy : MethodName := ⟨RX0, "copy", "(LThresholdLines$Drawing;)V"⟩
abbrev cX0_isSameAs : ByteArray := prog_2_method_10_code
def yX0_isSameAs : MethodName := ⟨RX0, "isSameAs", "(LThresholdLines$Drawing;)Z"⟩
abbrev cX0_countOf : ByteArray := prog_2_method_11_code
def yX0_countOf : MethodName := ⟨RX0, "countOf", "(I)I"⟩
abbrev cX0_takeTurned : ByteArray := prog_2_method_12_code
def yX0_takeTurned : MethodName := ⟨RX0, "takeTurned", "(LThresholdLines$Drawing;IZ)V"⟩
abbrev cX0_turnedColumn : ByteArray := prog_2_method_13_code
def yX0_turnedColumn : MethodName := ⟨RX0, "turnedColumn", "(LThresholdLines$Drawing;III)I"⟩
abbrev cX0_turnedRow : ByteArray := prog_2_method_14_code
def yX0_turnedRow : MethodName := ⟨RX0, "turnedRow", "(LThresholdLines$Drawing;III)I"⟩
abbrev cX0_growBeside : ByteArray := prog_2_method_15_code
def yX0_growBeside : MethodName := ⟨RX0, "growBeside", "(LThresholdLines$Drawing;)Z"⟩
abbrev cX0_growBelow : ByteArray := prog_2_method_16_code
def yX0_growBelow : MethodName := ⟨RX0, "growBelow", "(LThresholdLines$Drawing;)Z"⟩
abbrev cX0_coverWith : ByteArray := prog_2_method_17_code
def yX0_coverWith : MethodName := ⟨RX0, "coverWith", "(LThresholdLines$Drawing;)Z"⟩
abbrev cX0_layMirrors : ByteArray := prog_2_method_18_code
def yX0_layMirrors : MethodName := ⟨RX0, "layMirrors", "(LThresholdLines$Drawing;II)V"⟩
def RX1 : String := "ThresholdLines$Joiner"
def TX1 : u_T := fun k => match k with
  | 0 => ("ThresholdLines$Joiner", "count", "I", false)
  | 1 => ("ThresholdLines$Joiner", "changedI", "[I", true)
  | 2 => ("ThresholdLines$Joiner", "changedJ", "[I", true)
  | _ => ("ThresholdLines$Joiner", "groupOf", "[I", true)
def tyX1 : Nat → FieldType := fun k => match k with
  | 0 => .int
  | 1 => .array .int
  | 2 => .array .int
  | _ => .array .int
theorem nmX1 : ∀ a, a < 4 → ∀ b, b < 4 → a ≠ b → (TX1 a).2.1 ≠ (TX1 b).2.1 := by decide +kernel
theorem tyX1_ok : ∀ k, k < 4 → parseFieldDescriptor (TX1 k).2.2.1 = some (tyX1 k) := by decide +kernel
abbrev cX1_init : ByteArray := prog_3_method_1_code
def yX1_init : MethodName := ⟨RX1, "<init>", "()V"⟩
abbrev cX1_choose : ByteArray := prog_3_method_2_code
def yX1_choose : MethodName := ⟨RX1, "choose", "(LThresholdLines$Drawing;[ILThresholdLines$LineFinder;)V"⟩
abbrev cX1_tryPoint : ByteArray := prog_3_method_3_code
def yX1_tryPoint : MethodName := ⟨RX1, "tryPoint", "(LThresholdLines$Drawing;LThresholdLines$LineFinder;II)V"⟩
abbrev cX1_unite : ByteArray := prog_3_method_4_code
def yX1_unite : MethodName := ⟨RX1, "unite", "(II)V"⟩
abbrev cX1_columnOf : ByteArray := prog_3_method_5_code
def yX1_columnOf : MethodName := ⟨RX1, "columnOf", "(I)I"⟩
abbrev cX1_rowOf : ByteArray := prog_3_method_6_code
def yX1_rowOf : MethodName := ⟨RX1, "rowOf", "(I)I"⟩
def RX2 : String := "ThresholdLines$LineFinder"
def TX2 : u_T := fun k => match k with
  | 0 => ("ThresholdLines$LineFinder", "count", "I", false)
  | 1 => ("ThresholdLines$LineFinder", "lineAt", "[I", true)
  | 2 => ("ThresholdLines$LineFinder", "placeAt", "[I", true)
  | 3 => ("ThresholdLines$LineFinder", "walked", "[I", true)
  | _ => ("ThresholdLines$LineFinder", "beginOf", "[I", true)
def tyX2 : Nat → FieldType := fun k => match k with
  | 0 => .int
  | 1 => .array .int
  | 2 => .array .int
  | 3 => .array .int
  | _ => .array .int
theorem nmX2 : ∀ a, a < 5 → ∀ b, b < 5 → a ≠ b → (TX2 a).2.1 ≠ (TX2 b).2.1 := by decide +kernel
theorem tyX2_ok : ∀ k, k < 5 → parseFieldDescriptor (TX2 k).2.2.1 = some (tyX2 k) := by decide +kernel
abbrev cX2_init : ByteArray := prog_4_method_1_code
def yX2_init : MethodName := ⟨RX2, "<init>", "()V"⟩
abbrev cX2_findAll : ByteArray := prog_4_method_2_code
def yX2_findAll : MethodName := ⟨RX2, "findAll", "(LThresholdLines$Drawing;)V"⟩
abbrev cX2_follow : ByteArray := prog_4_method_3_code
def yX2_follow : MethodName := ⟨RX2, "follow", "(LThresholdLines$Drawing;II)V"⟩
abbrev cX2_isLine : ByteArray := prog_4_method_4_code
def yX2_isLine : MethodName := ⟨RX2, "isLine", "(I)Z"⟩
abbrev cX2_lineThrough : ByteArray := prog_4_method_5_code
def yX2_lineThrough : MethodName := ⟨RX2, "lineThrough", "(I)I"⟩
abbrev cX2_placeInWalk : ByteArray := prog_4_method_6_code
def yX2_placeInWalk : MethodName := ⟨RX2, "placeInWalk", "(I)I"⟩
abbrev cX2_lengthOf : ByteArray := prog_4_method_7_code
def yX2_lengthOf : MethodName := ⟨RX2, "lengthOf", "(I)I"⟩
abbrev cX2_squareOf : ByteArray := prog_4_method_8_code
def yX2_squareOf : MethodName := ⟨RX2, "squareOf", "(II)I"⟩
def RX3 : String := "ThresholdLines$Tape"
def TX3 : u_T := fun k => match k with
  | 0 => ("ThresholdLines$Tape", "length", "I", false)
  | 1 => ("ThresholdLines$Tape", "wasRead", "Z", false)
  | 2 => ("ThresholdLines$Tape", "faultKind", "I", false)
  | 3 => ("ThresholdLines$Tape", "faultPlace", "I", false)
  | _ => ("ThresholdLines$Tape", "bytes", "[I", true)
def tyX3 : Nat → FieldType := fun k => match k with
  | 0 => .int
  | 1 => .boolean
  | 2 => .int
  | 3 => .int
  | _ => .array .int
theorem nmX3 : ∀ a, a < 5 → ∀ b, b < 5 → a ≠ b → (TX3 a).2.1 ≠ (TX3 b).2.1 := by decide +kernel
theorem tyX3_ok : ∀ k, k < 5 → parseFieldDescriptor (TX3 k).2.2.1 = some (tyX3 k) := by decide +kernel
abbrev cX3_init : ByteArray := prog_5_method_1_code
def yX3_init : MethodName := ⟨RX3, "<init>", "()V"⟩
abbrev cX3_add : ByteArray := prog_5_method_2_code
def yX3_add : MethodName := ⟨RX3, "add", "(I)V"⟩
abbrev cX3_byteAt : ByteArray := prog_5_method_3_code
def yX3_byteAt : MethodName := ⟨RX3, "byteAt", "(I)I"⟩
abbrev cX3_beginReading : ByteArray := prog_5_method_4_code
def yX3_beginReading : MethodName := ⟨RX3, "beginReading", "()V"⟩
abbrev cX3_fail : ByteArray := prog_5_method_5_code
def yX3_fail : MethodName := ⟨RX3, "fail", "(II)Z"⟩
def RX4 : String := "ThresholdLines$TextReader"
def TX4 : u_T := fun k => match k with
  | 0 => ("ThresholdLines$TextReader", "tape", "LThresholdLines$Tape;", true)
  | 1 => ("ThresholdLines$TextReader", "tokens", "LThresholdLines$Tokens;", true)
  | 2 => ("ThresholdLines$TextReader", "shelves", "[LThresholdLines$Drawing;", true)
  | 3 => ("ThresholdLines$TextReader", "slots", "[LThresholdLines$Drawing;", true)
  | _ => ("ThresholdLines$TextReader", "spare", "LThresholdLines$Drawing;", true)
def tyX4 : Nat → FieldType := fun k => match k with
  | 0 => .object "ThresholdLines$Tape"
  | 1 => .object "ThresholdLines$Tokens"
  | 2 => .array (.object "ThresholdLines$Drawing")
  | 3 => .array (.object "ThresholdLines$Drawing")
  | _ => .object "ThresholdLines$Drawing"
theorem nmX4 : ∀ a, a < 5 → ∀ b, b < 5 → a ≠ b → (TX4 a).2.1 ≠ (TX4 b).2.1 := by decide +kernel
theorem tyX4_ok : ∀ k, k < 5 → parseFieldDescriptor (TX4 k).2.2.1 = some (tyX4 k) := by decide +kernel
abbrev cX4_init : ByteArray := prog_6_method_1_code
def yX4_init : MethodName := ⟨RX4, "<init>", "(LThresholdLines$Tape;[LThresholdLines$Drawing;)V"⟩
abbrev cX4_readInto : ByteArray := prog_6_method_2_code
def yX4_readInto : MethodName := ⟨RX4, "readInto", "(LThresholdLines$Drawing;)Z"⟩
abbrev cX4_readOne : ByteArray := prog_6_method_3_code
def yX4_readOne : MethodName := ⟨RX4, "readOne", "(II)Z"⟩
abbrev cX4_readPlain : ByteArray := prog_6_method_4_code
def yX4_readPlain : MethodName := ⟨RX4, "readPlain", "(LThresholdLines$Drawing;)Z"⟩
abbrev cX4_readKept : ByteArray := prog_6_method_5_code
def yX4_readKept : MethodName := ⟨RX4, "readKept", "(LThresholdLines$Drawing;)Z"⟩
abbrev cX4_readSet : ByteArray := prog_6_method_6_code
def yX4_readSet : MethodName := ⟨RX4, "readSet", "(III)Z"⟩
abbrev cX4_readRow : ByteArray := prog_6_method_7_code
def yX4_readRow : MethodName := ⟨RX4, "readRow", "(III)Z"⟩
abbrev cX4_readTurned : ByteArray := prog_6_method_8_code
def yX4_readTurned : MethodName := ⟨RX4, "readTurned", "(III)Z"⟩
abbrev cX4_readPair : ByteArray := prog_6_method_9_code
def yX4_readPair : MethodName := ⟨RX4, "readPair", "(IIII)Z"⟩
abbrev cX4_readNumber : ByteArray := prog_6_method_10_code
def yX4_readNumber : MethodName := ⟨RX4, "readNumber", "(II)I"⟩
def RX5 : String := "ThresholdLines$Tokens"
def TX5 : u_T := fun k => match k with
  | 0 => ("ThresholdLines$Tokens", "start", "I", false)
  | 1 => ("ThresholdLines$Tokens", "number", "I", false)
  | 2 => ("ThresholdLines$Tokens", "atEnd", "Z", false)
  | 3 => ("ThresholdLines$Tokens", "tape", "LThresholdLines$Tape;", true)
  | _ => ("ThresholdLines$Tokens", "next", "I", false)
def tyX5 : Nat → FieldType := fun k => match k with
  | 0 => .int
  | 1 => .int
  | 2 => .boolean
  | 3 => .object "ThresholdLines$Tape"
  | _ => .int
theorem nmX5 : ∀ a, a < 5 → ∀ b, b < 5 → a ≠ b → (TX5 a).2.1 ≠ (TX5 b).2.1 := by decide +kernel
theorem tyX5_ok : ∀ k, k < 5 → parseFieldDescriptor (TX5 k).2.2.1 = some (tyX5 k) := by decide +kernel
abbrev cX5_init : ByteArray := prog_7_method_1_code
def yX5_init : MethodName := ⟨RX5, "<init>", "(LThresholdLines$Tape;)V"⟩
abbrev cX5_rewind : ByteArray := prog_7_method_2_code
def yX5_rewind : MethodName := ⟨RX5, "rewind", "()V"⟩
abbrev cX5_advance : ByteArray := prog_7_method_3_code
def yX5_advance : MethodName := ⟨RX5, "advance", "()V"⟩
abbrev cX5_takeNumber : ByteArray := prog_7_method_4_code
def yX5_takeNumber : MethodName := ⟨RX5, "takeNumber", "()V"⟩
abbrev cX5_wordFound : ByteArray := prog_7_method_5_code
def yX5_wordFound : MethodName := ⟨RX5, "wordFound", "()I"⟩
abbrev cX5_spells : ByteArray := prog_7_method_6_code
def yX5_spells : MethodName := ⟨RX5, "spells", "(Ljava/lang/String;)Z"⟩
abbrev cX5_isBlank : ByteArray := prog_7_method_7_code
def yX5_isBlank : MethodName := ⟨RX5, "isBlank", "(I)Z"⟩
abbrev cX5_isDigit : ByteArray := prog_7_method_8_code
def yX5_isDigit : MethodName := ⟨RX5, "isDigit", "(I)Z"⟩
abbrev cX5_isLetter : ByteArray := prog_7_method_9_code
def yX5_isLetter : MethodName := ⟨RX5, "isLetter", "(I)Z"⟩
def RX6 : String := "ThresholdLines$WalkReader"
def TX6 : u_T := fun k => match k with
  | 0 => ("ThresholdLines$WalkReader", "pointsMet", "I", false)
  | 1 => ("ThresholdLines$WalkReader", "tape", "LThresholdLines$Tape;", true)
  | 2 => ("ThresholdLines$WalkReader", "gone", "[I", true)
  | 3 => ("ThresholdLines$WalkReader", "met", "[I", true)
  | 4 => ("ThresholdLines$WalkReader", "right", "I", false)
  | _ => ("ThresholdLines$WalkReader", "down", "I", false)
def tyX6 : Nat → FieldType := fun k => match k with
  | 0 => .int
  | 1 => .object "ThresholdLines$Tape"
  | 2 => .array .int
  | 3 => .array .int
  | 4 => .int
  | _ => .int
theorem nmX6 : ∀ a, a < 6 → ∀ b, b < 6 → a ≠ b → (TX6 a).2.1 ≠ (TX6 b).2.1 := by decide +kernel
theorem tyX6_ok : ∀ k, k < 6 → parseFieldDescriptor (TX6 k).2.2.1 = some (tyX6 k) := by decide +kernel
abbrev cX6_init : ByteArray := prog_8_method_1_code
def yX6_init : MethodName := ⟨RX6, "<init>", "(LThresholdLines$Tape;)V"⟩
abbrev cX6_readInto : ByteArray := prog_8_method_2_code
def yX6_readInto : MethodName := ⟨RX6, "readInto", "(LThresholdLines$Drawing;II)Z"⟩
abbrev cX6_tellPoint : ByteArray := prog_8_method_3_code
def yX6_tellPoint : MethodName := ⟨RX6, "tellPoint", "(LThresholdLines$Drawing;III)V"⟩
abbrev cX6_rightOf : ByteArray := prog_8_method_4_code
def yX6_rightOf : MethodName := ⟨RX6, "rightOf", "(I)I"⟩
abbrev cX6_downOf : ByteArray := prog_8_method_5_code
def yX6_downOf : MethodName := ⟨RX6, "downOf", "(I)I"⟩
def RX7 : String := "ThresholdLines"
def TX7 : u_T := fun k => match k with
  | 0 => ("ThresholdLines", "drawing", "LThresholdLines$Drawing;", true)
  | 1 => ("ThresholdLines", "spare", "LThresholdLines$Drawing;", true)
  | 2 => ("ThresholdLines", "pins", "[I", true)
  | 3 => ("ThresholdLines", "shelves", "[LThresholdLines$Drawing;", true)
  | 4 => ("ThresholdLines", "finder", "LThresholdLines$LineFinder;", true)
  | 5 => ("ThresholdLines", "joiner", "LThresholdLines$Joiner;", true)
  | 6 => ("ThresholdLines", "tape", "LThresholdLines$Tape;", true)
  | 7 => ("ThresholdLines", "textReader", "LThresholdLines$TextReader;", true)
  | 8 => ("ThresholdLines", "walkReader", "LThresholdLines$WalkReader;", true)
  | 9 => ("ThresholdLines", "linesKnown", "Z", false)
  | _ => ("ThresholdLines", "joinKnown", "Z", false)
def tyX7 : Nat → FieldType := fun k => match k with
  | 0 => .object "ThresholdLines$Drawing"
  | 1 => .object "ThresholdLines$Drawing"
  | 2 => .array .int
  | 3 => .array (.object "ThresholdLines$Drawing")
  | 4 => .object "ThresholdLines$LineFinder"
  | 5 => .object "ThresholdLines$Joiner"
  | 6 => .object "ThresholdLines$Tape"
  | 7 => .object "ThresholdLines$TextReader"
  | 8 => .object "ThresholdLines$WalkReader"
  | 9 => .boolean
  | _ => .boolean
theorem nmX7 : ∀ a, a < 11 → ∀ b, b < 11 → a ≠ b → (TX7 a).2.1 ≠ (TX7 b).2.1 := by decide +kernel
theorem tyX7_ok : ∀ k, k < 11 → parseFieldDescriptor (TX7 k).2.2.1 = some (tyX7 k) := by decide +kernel
abbrev cX7_init : ByteArray := prog_1_method_1_code
def yX7_init : MethodName := ⟨RX7, "<init>", "(II)V"⟩
abbrev cX7_set : ByteArray := prog_1_method_2_code
def yX7_set : MethodName := ⟨RX7, "set", "(III)Z"⟩
abbrev cX7_mirror : ByteArray := prog_1_method_3_code
def yX7_mirror : MethodName := ⟨RX7, "mirror", "(II)I"⟩
abbrev cX7_pin : ByteArray := prog_1_method_4_code
def yX7_pin : MethodName := ⟨RX7, "pin", "(IIZ)Z"⟩
abbrev cX7_lines : ByteArray := prog_1_method_5_code
def yX7_lines : MethodName := ⟨RX7, "lines", "()I"⟩
abbrev cX7_lineOf : ByteArray := prog_1_method_6_code
def yX7_lineOf : MethodName := ⟨RX7, "lineOf", "(I)I"⟩
abbrev cX7_line : ByteArray := prog_1_method_7_code
def yX7_line : MethodName := ⟨RX7, "line", "(II)I"⟩
abbrev cX7_walk : ByteArray := prog_1_method_8_code
def yX7_walk : MethodName := ⟨RX7, "walk", "(II)I"⟩
abbrev cX7_holds : ByteArray := prog_1_method_9_code
def yX7_holds : MethodName := ⟨RX7, "holds", "(III)I"⟩
abbrev cX7_colour : ByteArray := prog_1_method_10_code
def yX7_colour : MethodName := ⟨RX7, "colour", "(I)I"⟩
abbrev cX7_coloured : ByteArray := prog_1_method_11_code
def yX7_coloured : MethodName := ⟨RX7, "coloured", "(IZ)I"⟩
abbrev cX7_joined : ByteArray := prog_1_method_12_code
def yX7_joined : MethodName := ⟨RX7, "joined", "(I)I"⟩
abbrev cX7_change : ByteArray := prog_1_method_13_code
def yX7_change : MethodName := ⟨RX7, "change", "(II)I"⟩
abbrev cX7_join : ByteArray := prog_1_method_14_code
def yX7_join : MethodName := ⟨RX7, "join", "()I"⟩
abbrev cX7_feed : ByteArray := prog_1_method_15_code
def yX7_feed : MethodName := ⟨RX7, "feed", "(IIIII)I"⟩
abbrev cX7_end : ByteArray := prog_1_method_16_code
def yX7_end : MethodName := ⟨RX7, "end", "(I)I"⟩
abbrev cX7_draw : ByteArray := prog_1_method_17_code
def yX7_draw : MethodName := ⟨RX7, "draw", "()I"⟩
abbrev cX7_back : ByteArray := prog_1_method_18_code
def yX7_back : MethodName := ⟨RX7, "back", "(IIII)I"⟩
abbrev cX7_fault : ByteArray := prog_1_method_19_code
def yX7_fault : MethodName := ⟨RX7, "fault", "(I)I"⟩
abbrev cX7_keep : ByteArray := prog_1_method_20_code
def yX7_keep : MethodName := ⟨RX7, "keep", "(I)Z"⟩
abbrev cX7_like : ByteArray := prog_1_method_21_code
def yX7_like : MethodName := ⟨RX7, "like", "(II)I"⟩
abbrev cX7_alike : ByteArray := prog_1_method_22_code
def yX7_alike : MethodName := ⟨RX7, "alike", "()I"⟩
abbrev cX7_about : ByteArray := prog_1_method_23_code
def yX7_about : MethodName := ⟨RX7, "about", "(I)I"⟩
abbrev cX7_isDots : ByteArray := prog_1_method_24_code
def yX7_isDots : MethodName := ⟨RX7, "isDots", "(I)Z"⟩
abbrev cX7_placeOf : ByteArray := prog_1_method_25_code
def yX7_placeOf : MethodName := ⟨RX7, "placeOf", "(II)I"⟩
abbrev cX7_lowerOther : ByteArray := prog_1_method_26_code
def yX7_lowerOther : MethodName := ⟨RX7, "lowerOther", "(I)I"⟩
abbrev cX7_forgetLines : ByteArray := prog_1_method_27_code
def yX7_forgetLines : MethodName := ⟨RX7, "forgetLines", "()V"⟩
abbrev cX7_knowLines : ByteArray := prog_1_method_28_code
def yX7_knowLines : MethodName := ⟨RX7, "knowLines", "()V"⟩
abbrev cX7_knowJoin : ByteArray := prog_1_method_29_code
def yX7_knowJoin : MethodName := ⟨RX7, "knowJoin", "()V"⟩
abbrev cX7_takeSpare : ByteArray := prog_1_method_30_code
def yX7_takeSpare : MethodName := ⟨RX7, "takeSpare", "()V"⟩
abbrev cX7_squaresRound : ByteArray := prog_1_method_31_code
def yX7_squaresRound : MethodName := ⟨RX7, "squaresRound", "(III)I"⟩
abbrev cX7_dotsHeld : ByteArray := prog_1_method_32_code
def yX7_dotsHeld : MethodName := ⟨RX7, "dotsHeld", "(II)I"⟩
abbrev cX7_pointsMetTwice : ByteArray := prog_1_method_33_code
def yX7_pointsMetTwice : MethodName := ⟨RX7, "pointsMetTwice", "(I)I"⟩
abbrev cX7_waysFrom : ByteArray := prog_1_method_34_code
def yX7_waysFrom : MethodName := ⟨RX7, "waysFrom", "(LThresholdLines$Drawing;)I"⟩
abbrev cX7_pinCount : ByteArray := prog_1_method_35_code
def yX7_pinCount : MethodName := ⟨RX7, "pinCount", "()I"⟩
abbrev cX7_shelvesUsed : ByteArray := prog_1_method_36_code
def yX7_shelvesUsed : MethodName := ⟨RX7, "shelvesUsed", "()I"⟩
def RX8 : String := "ThresholdLinesModel"
def TX8 : u_T := fun k => match k with
  | 0 => ("ThresholdLinesModel", "wide", "[I", true)
  | 1 => ("ThresholdLinesModel", "high", "[I", true)
  | 2 => ("ThresholdLinesModel", "mirrors", "[B", true)
  | 3 => ("ThresholdLinesModel", "isPinned", "[Z", true)
  | 4 => ("ThresholdLinesModel", "lineCount", "I", false)
  | 5 => ("ThresholdLinesModel", "lineOf", "[I", true)
  | 6 => ("ThresholdLinesModel", "placeIn", "[I", true)
  | 7 => ("ThresholdLinesModel", "row", "[I", true)
  | 8 => ("ThresholdLinesModel", "firstOf", "[I", true)
  | 9 => ("ThresholdLinesModel", "heap", "[I", true)
  | 10 => ("ThresholdLinesModel", "changes", "I", false)
  | 11 => ("ThresholdLinesModel", "heaps", "I", false)
  | 12 => ("ThresholdLinesModel", "changeAt", "[I", true)
  | 13 => ("ThresholdLinesModel", "tape", "[I", true)
  | 14 => ("ThresholdLinesModel", "taped", "I", false)
  | 15 => ("ThresholdLinesModel", "fault", "I", false)
  | 16 => ("ThresholdLinesModel", "faultPlace", "I", false)
  | 17 => ("ThresholdLinesModel", "at", "I", false)
  | 18 => ("ThresholdLinesModel", "place", "I", false)
  | 19 => ("ThresholdLinesModel", "token", "I", false)
  | 20 => ("ThresholdLinesModel", "number", "I", false)
  | 21 => ("ThresholdLinesModel", "opens", "I", false)
  | 22 => ("ThresholdLinesModel", "openWord", "[I", true)
  | 23 => ("ThresholdLinesModel", "openPlace", "[I", true)
  | 24 => ("ThresholdLinesModel", "openNumber", "[I", true)
  | 25 => ("ThresholdLinesModel", "hasFirst", "[Z", true)
  | 26 => ("ThresholdLinesModel", "isWhole", "Z", false)
  | 27 => ("ThresholdLinesModel", "isThrough", "[Z", true)
  | 28 => ("ThresholdLinesModel", "isTold2", "[Z", true)
  | _ => ("ThresholdLinesModel", "cameBy", "I", false)
def tyX8 : Nat → FieldType := fun k => match k with
  | 0 => .array .int
  | 1 => .array .int
  | 2 => .array .byte
  | 3 => .array .boolean
  | 4 => .int
  | 5 => .array .int
  | 6 => .array .int
  | 7 => .array .int
  | 8 => .array .int
  | 9 => .array .int
  | 10 => .int
  | 11 => .int
  | 12 => .array .int
  | 13 => .array .int
  | 14 => .int
  | 15 => .int
  | 16 => .int
  | 17 => .int
  | 18 => .int
  | 19 => .int
  | 20 => .int
  | 21 => .int
  | 22 => .array .int
  | 23 => .array .int
  | 24 => .array .int
  | 25 => .array .boolean
  | 26 => .boolean
  | 27 => .array .boolean
  | 28 => .array .boolean
  | _ => .int
theorem nmX8 : ∀ a, a < 30 → ∀ b, b < 30 → a ≠ b → (TX8 a).2.1 ≠ (TX8 b).2.1 := by decide +kernel
theorem tyX8_ok : ∀ k, k < 30 → parseFieldDescriptor (TX8 k).2.2.1 = some (tyX8 k) := by decide +kernel
abbrev cX8_init : ByteArray := prog_10_method_1_code
def yX8_init : MethodName := ⟨RX8, "<init>", "(II)V"⟩
abbrev cX8_isIn : ByteArray := prog_10_method_2_code
def yX8_isIn : MethodName := ⟨RX8, "isIn", "(III)Z"⟩
abbrev cX8_cell : ByteArray := prog_10_method_3_code
def yX8_cell : MethodName := ⟨RX8, "cell", "(III)I"⟩
abbrev cX8_isInner : ByteArray := prog_10_method_4_code
def yX8_isInner : MethodName := ⟨RX8, "isInner", "(III)Z"⟩
abbrev cX8_set : ByteArray := prog_10_method_5_code
def yX8_set : MethodName := ⟨RX8, "set", "(III)Z"⟩
abbrev cX8_mirror : ByteArray := prog_10_method_6_code
def yX8_mirror : MethodName := ⟨RX8, "mirror", "(II)I"⟩
abbrev cX8_pin : ByteArray := prog_10_method_7_code
def yX8_pin : MethodName := ⟨RX8, "pin", "(IIZ)Z"⟩
abbrev cX8_squares : ByteArray := prog_10_method_8_code
def yX8_squares : MethodName := ⟨RX8, "squares", "()I"⟩
abbrev cX8_walkAll : ByteArray := prog_10_method_9_code
def yX8_walkAll : MethodName := ⟨RX8, "walkAll", "()V"⟩
abbrev cX8_walkOne : ByteArray := prog_10_method_10_code
def yX8_walkOne : MethodName := ⟨RX8, "walkOne", "(II)I"⟩
abbrev cX8_lines : ByteArray := prog_10_method_11_code
def yX8_lines : MethodName := ⟨RX8, "lines", "()I"⟩
abbrev cX8_isSquare : ByteArray := prog_10_method_12_code
def yX8_isSquare : MethodName := ⟨RX8, "isSquare", "(I)Z"⟩
abbrev cX8_lineOf : ByteArray := prog_10_method_13_code
def yX8_lineOf : MethodName := ⟨RX8, "lineOf", "(I)I"⟩
abbrev cX8_held : ByteArray := prog_10_method_14_code
def yX8_held : MethodName := ⟨RX8, "held", "(III)I"⟩
abbrev cX8_strand : ByteArray := prog_10_method_15_code
def yX8_strand : MethodName := ⟨RX8, "strand", "(III)I"⟩
abbrev cX8_line : ByteArray := prog_10_method_16_code
def yX8_line : MethodName := ⟨RX8, "line", "(II)I"⟩
abbrev cX8_walk : ByteArray := prog_10_method_17_code
def yX8_walk : MethodName := ⟨RX8, "walk", "(II)I"⟩
abbrev cX8_holds : ByteArray := prog_10_method_18_code
def yX8_holds : MethodName := ⟨RX8, "holds", "(III)I"⟩
abbrev cX8_colour : ByteArray := prog_10_method_19_code
def yX8_colour : MethodName := ⟨RX8, "colour", "(I)I"⟩
abbrev cX8_coloured : ByteArray := prog_10_method_20_code
def yX8_coloured : MethodName := ⟨RX8, "coloured", "(IZ)I"⟩
abbrev cX8_rootOf : ByteArray := prog_10_method_21_code
def yX8_rootOf : MethodName := ⟨RX8, "rootOf", "(I)I"⟩
abbrev cX8_find : ByteArray := prog_10_method_22_code
def yX8_find : MethodName := ⟨RX8, "find", "()V"⟩
abbrev cX8_joined : ByteArray := prog_10_method_23_code
def yX8_joined : MethodName := ⟨RX8, "joined", "(I)I"⟩
abbrev cX8_other : ByteArray := prog_10_method_24_code
def yX8_other : MethodName := ⟨RX8, "other", "(I)I"⟩
abbrev cX8_change : ByteArray := prog_10_method_25_code
def yX8_change : MethodName := ⟨RX8, "change", "(II)I"⟩
abbrev cX8_join : ByteArray := prog_10_method_26_code
def yX8_join : MethodName := ⟨RX8, "join", "()I"⟩
abbrev cX8_four : ByteArray := prog_10_method_27_code
def yX8_four : MethodName := ⟨RX8, "four", "(I)V"⟩
abbrev cX8_feed : ByteArray := prog_10_method_28_code
def yX8_feed : MethodName := ⟨RX8, "feed", "(IIIII)I"⟩
abbrev cX8_end : ByteArray := prog_10_method_29_code
def yX8_end : MethodName := ⟨RX8, "end", "(I)I"⟩
abbrev cX8_copy : ByteArray := prog_10_method_30_code
def yX8_copy : MethodName := ⟨RX8, "copy", "(II)V"⟩
abbrev cX8_plain : ByteArray := prog_10_method_31_code
def yX8_plain : MethodName := ⟨RX8, "plain", "(III)V"⟩
abbrev cX8_lay : ByteArray := prog_10_method_32_code
def yX8_lay : MethodName := ⟨RX8, "lay", "(IIII)V"⟩
abbrev cX8_turn : ByteArray := prog_10_method_33_code
def yX8_turn : MethodName := ⟨RX8, "turn", "(I)V"⟩
abbrev cX8_flip : ByteArray := prog_10_method_34_code
def yX8_flip : MethodName := ⟨RX8, "flip", "(I)V"⟩
abbrev cX8_see : ByteArray := prog_10_method_35_code
def yX8_see : MethodName := ⟨RX8, "see", "(I)I"⟩
abbrev cX8_isDigit : ByteArray := prog_10_method_36_code
def yX8_isDigit : MethodName := ⟨RX8, "isDigit", "(I)Z"⟩
abbrev cX8_add : ByteArray := prog_10_method_37_code
def yX8_add : MethodName := ⟨RX8, "add", "(JII)J"⟩
abbrev cX8_wordOf : ByteArray := prog_10_method_38_code
def yX8_wordOf : MethodName := ⟨RX8, "wordOf", "(J)I"⟩
abbrev cX8_nextToken : ByteArray := prog_10_method_39_code
def yX8_nextToken : MethodName := ⟨RX8, "nextToken", "()V"⟩
abbrev cX8_take : ByteArray := prog_10_method_40_code
def yX8_take : MethodName := ⟨RX8, "take", "(II)I"⟩
abbrev cX8_begin : ByteArray := prog_10_method_41_code
def yX8_begin : MethodName := ⟨RX8, "begin", "()I"⟩
abbrev cX8_takeLast : ByteArray := prog_10_method_42_code
def yX8_takeLast : MethodName := ⟨RX8, "takeLast", "(II)I"⟩
abbrev cX8_close : ByteArray := prog_10_method_43_code
def yX8_close : MethodName := ⟨RX8, "close", "()I"⟩
abbrev cX8_isDone : ByteArray := prog_10_method_44_code
def yX8_isDone : MethodName := ⟨RX8, "isDone", "(II)Z"⟩
abbrev cX8_isRow : ByteArray := prog_10_method_45_code
def yX8_isRow : MethodName := ⟨RX8, "isRow", "(I)Z"⟩
abbrev cX8_isPut : ByteArray := prog_10_method_46_code
def yX8_isPut : MethodName := ⟨RX8, "isPut", "(II)Z"⟩
abbrev cX8_read : ByteArray := prog_10_method_47_code
def yX8_read : MethodName := ⟨RX8, "read", "()I"⟩
abbrev cX8_isTold : ByteArray := prog_10_method_48_code
def yX8_isTold : MethodName := ⟨RX8, "isTold", "(I)Z"⟩
abbrev cX8_draw : ByteArray := prog_10_method_49_code
def yX8_draw : MethodName := ⟨RX8, "draw", "()I"⟩
abbrev cX8_fault : ByteArray := prog_10_method_50_code
def yX8_fault : MethodName := ⟨RX8, "fault", "(I)I"⟩
abbrev cX8_bend : ByteArray := prog_10_method_51_code
def yX8_bend : MethodName := ⟨RX8, "bend", "(IIII)V"⟩
abbrev cX8_dxOf : ByteArray := prog_10_method_52_code
def yX8_dxOf : MethodName := ⟨RX8, "dxOf", "(I)I"⟩
abbrev cX8_dyOf : ByteArray := prog_10_method_53_code
def yX8_dyOf : MethodName := ⟨RX8, "dyOf", "(I)I"⟩
abbrev cX8_walkBack : ByteArray := prog_10_method_54_code
def yX8_walkBack : MethodName := ⟨RX8, "walkBack", "(II)I"⟩
abbrev cX8_back : ByteArray := prog_10_method_55_code
def yX8_back : MethodName := ⟨RX8, "back", "(IIII)I"⟩
abbrev cX8_keep : ByteArray := prog_10_method_56_code
def yX8_keep : MethodName := ⟨RX8, "keep", "(I)Z"⟩
abbrev cX8_isSame : ByteArray := prog_10_method_57_code
def yX8_isSame : MethodName := ⟨RX8, "isSame", "(II)Z"⟩
abbrev cX8_ways : ByteArray := prog_10_method_58_code
def yX8_ways : MethodName := ⟨RX8, "ways", "(I)I"⟩
abbrev cX8_like : ByteArray := prog_10_method_59_code
def yX8_like : MethodName := ⟨RX8, "like", "(II)I"⟩
abbrev cX8_alike : ByteArray := prog_10_method_60_code
def yX8_alike : MethodName := ⟨RX8, "alike", "()I"⟩
abbrev cX8_about : ByteArray := prog_10_method_61_code
def yX8_about : MethodName := ⟨RX8, "about", "(I)I"⟩
def RJ9 : String := "java/lang/Math"
def TJ9 : u_T := fun k => match k with
  | _ => ("", "", "", false)
def tyJ9 : Nat → FieldType := fun k => match k with
  | _ => .int
theorem nmJ9 : ∀ a, a < 0 → ∀ b, b < 0 → a ≠ b → (TJ9 a).2.1 ≠ (TJ9 b).2.1 := by decide +kernel
theorem tyJ9_ok : ∀ k, k < 0 → parseFieldDescriptor (TJ9 k).2.2.1 = some (tyJ9 k) := by decide +kernel
abbrev cJ9_max_7cf53 : ByteArray := prog_11_method_65_code
def yJ9_max_7cf53 : MethodName := ⟨RJ9, "max", "(II)I"⟩
abbrev cJ9_min_7cf53 : ByteArray := prog_11_method_69_code
def yJ9_min_7cf53 : MethodName := ⟨RJ9, "min", "(II)I"⟩
def RJ0 : String := "java/lang/String"
def TJ0 : u_T := fun k => match k with
  | _ => ("", "", "", false)
def tyJ0 : Nat → FieldType := fun k => match k with
  | _ => .int
theorem nmJ0 : ∀ a, a < 0 → ∀ b, b < 0 → a ≠ b → (TJ0 a).2.1 ≠ (TJ0 b).2.1 := by decide +kernel
theorem tyJ0_ok : ∀ k, k < 0 → parseFieldDescriptor (TJ0 k).2.2.1 = some (tyJ0 k) := by decide +kernel
abbrev cJ0_length_8abf5 : ByteArray := prog_12_method_54_code
def yJ0_length_8abf5 : MethodName := ⟨RJ0, "length", "()I"⟩
abbrev cJ0_charAt_5068e : ByteArray := prog_12_method_56_code
def yJ0_charAt_5068e : MethodName := ⟨RJ0, "charAt", "(I)C"⟩
abbrev cJ0_coder_7d493 : ByteArray := prog_12_method_152_code
def yJ0_coder_7d493 : MethodName := ⟨RJ0, "coder", "()B"⟩
abbrev cJ0_isLatin1_aae02 : ByteArray := prog_12_method_154_code
def yJ0_isLatin1_aae02 : MethodName := ⟨RJ0, "isLatin1", "()Z"⟩
abbrev cJ0_checkIndex_df160 : ByteArray := prog_12_method_155_code
def yJ0_checkIndex_df160 : MethodName := ⟨RJ0, "checkIndex", "(II)V"⟩
def RJ1 : String := "java/lang/StringLatin1"
def TJ1 : u_T := fun k => match k with
  | _ => ("", "", "", false)
def tyJ1 : Nat → FieldType := fun k => match k with
  | _ => .int
theorem nmJ1 : ∀ a, a < 0 → ∀ b, b < 0 → a ≠ b → (TJ1 a).2.1 ≠ (TJ1 b).2.1 := by decide +kernel
theorem tyJ1_ok : ∀ k, k < 0 → parseFieldDescriptor (TJ1 k).2.2.1 = some (tyJ1 k) := by decide +kernel
abbrev cJ1_charAt_3b067 : ByteArray := prog_13_method_2_code
def yJ1_charAt_3b067 : MethodName := ⟨RJ1, "charAt", "([BI)C"⟩
def RJ2 : String := "java/lang/StringUTF16"
def TJ2 : u_T := fun k => match k with
  | _ => ("", "", "", false)
def tyJ2 : Nat → FieldType := fun k => match k with
  | _ => .int
theorem nmJ2 : ∀ a, a < 0 → ∀ b, b < 0 → a ≠ b → (TJ2 a).2.1 ≠ (TJ2 b).2.1 := by decide +kernel
theorem tyJ2_ok : ∀ k, k < 0 → parseFieldDescriptor (TJ2 k).2.2.1 = some (tyJ2 k) := by decide +kernel
abbrev cJ2_getChar_3b067 : ByteArray := prog_14_method_5_code
def yJ2_getChar_3b067 : MethodName := ⟨RJ2, "getChar", "([BI)C"⟩
abbrev cJ2_length_9d52b : ByteArray := prog_14_method_6_code
def yJ2_length_9d52b : MethodName := ⟨RJ2, "length", "([B)I"⟩
abbrev cJ2_charAt_3b067 : ByteArray := prog_14_method_83_code
def yJ2_charAt_3b067 : MethodName := ⟨RJ2, "charAt", "([BI)C"⟩
abbrev cJ2_checkIndex_2214a : ByteArray := prog_14_method_91_code
def yJ2_checkIndex_2214a : MethodName := ⟨RJ2, "checkIndex", "(I[B)V"⟩
def RJ10 : String := "java/lang/System"
def TJ10 : u_T := fun k => match k with
  | _ => ("", "", "", false)
def tyJ10 : Nat → FieldType := fun k => match k with
  | _ => .int
theorem nmJ10 : ∀ a, a < 0 → ∀ b, b < 0 → a ≠ b → (TJ10 a).2.1 ≠ (TJ10 b).2.1 := by decide +kernel
theorem tyJ10_ok : ∀ k, k < 0 → parseFieldDescriptor (TJ10 k).2.2.1 = some (tyJ10 k) := by decide +kernel
def RJ7 : String := "java/util/Arrays"
def TJ7 : u_T := fun k => match k with
  | _ => ("", "", "", false)
def tyJ7 : Nat → FieldType := fun k => match k with
  | _ => .int
theorem nmJ7 : ∀ a, a < 0 → ∀ b, b < 0 → a ≠ b → (TJ7 a).2.1 ≠ (TJ7 b).2.1 := by decide +kernel
theorem tyJ7_ok : ∀ k, k < 0 → parseFieldDescriptor (TJ7 k).2.2.1 = some (tyJ7 k) := by decide +kernel
abbrev cJ7_fill_53178 : ByteArray := prog_16_method_103_code
def yJ7_fill_53178 : MethodName := ⟨RJ7, "fill", "([II)V"⟩
def RJ3 : String := "jdk/internal/util/Preconditions"
def TJ3 : u_T := fun k => match k with
  | _ => ("", "", "", false)
def tyJ3 : Nat → FieldType := fun k => match k with
  | _ => .int
theorem nmJ3 : ∀ a, a < 0 → ∀ b, b < 0 → a ≠ b → (TJ3 a).2.1 ≠ (TJ3 b).2.1 := by decide +kernel
theorem tyJ3_ok : ∀ k, k < 0 → parseFieldDescriptor (TJ3 k).2.2.1 = some (tyJ3 k) := by decide +kernel
abbrev cJ3_checkIndex_8e157 : ByteArray := prog_17_method_11_code
def yJ3_checkIndex_8e157 : MethodName := ⟨RJ3, "checkIndex", "(IILjava/util/function/BiFunction;)I"⟩
def RL : String := "ThresholdLinesLaw"
abbrev cL_cell : ByteArray := method_2_code
def yL_cell : MethodName := ⟨RL, "cell", "([II)I"⟩
abbrev cL_law : ByteArray := code
def yL_law : MethodName := ⟨RL, "law", "([I)Z"⟩
abbrev vwCl : List vw_C := [(RX0, TX0, 3), (RX1, TX1, 4), (RX2, TX2, 5), (RX3, TX3, 5), (RX4, TX4, 5), (RX5, TX5, 5), (RX6, TX6, 6), (RX7, TX7, 11), (RX8, TX8, 30)]
end
section
theorem dX0_init_0 : decode cX0_init 0 = .ok (.aload_n 0, 1) := by decide +kernel
theorem dX0_init_1 : decode cX0_init 1 = .ok (.invokespecial 3, 3) := by decide +kernel
theorem dX0_init_4 : decode cX0_init 4 = .ok (.aload_n 0, 1) := by decide +kernel
theorem dX0_init_5 : decode cX0_init 5 = .ok (.iconst 1, 1) := by decide +kernel
theorem dX0_init_6 : decode cX0_init 6 = .ok (.putfield 9, 3) := by decide +kernel
theorem dX0_init_9 : decode cX0_init 9 = .ok (.aload_n 0, 1) := by decide +kernel
theorem dX0_init_10 : decode cX0_init 10 = .ok (.iconst 1, 1) := by decide +kernel
theorem dX0_init_11 : decode cX0_init 11 = .ok (.putfield 15, 3) := by decide +kernel
theorem dX0_init_14 : decode cX0_init 14 = .ok (.aload_n 0, 1) := by decide +kernel
theorem dX0_init_15 : decode cX0_init 15 = .ok (.sipush 128, 3) := by decide +kernel
theorem dX0_init_18 : decode cX0_init 18 = .ok (.newarray .int, 2) := by decide +kernel
theorem dX0_init_20 : decode cX0_init 20 = .ok (.putfield 18, 3) := by decide +kernel
theorem dX0_init_23 : decode cX0_init 23 = .ok (.return_, 1) := by decide +kernel
theorem dX0_clear_0 : decode cX0_clear 0 = .ok (.iload_n 1, 1) := by decide +kernel
theorem dX0_clear_1 : decode cX0_clear 1 = .ok (.invokestatic 22, 3) := by decide +kernel
theorem dX0_clear_4 : decode cX0_clear 4 = .ok (.ifCond .eq 20, 3) := by decide +kernel
theorem dX0_clear_7 : decode cX0_clear 7 = .ok (.iload_n 2, 1) := by decide +kernel
theorem dX0_clear_8 : decode cX0_clear 8 = .ok (.invokestatic 22, 3) := by decide +kernel
theorem dX0_clear_11 : decode cX0_clear 11 = .ok (.ifCond .eq 13, 3) := by decide +kernel
theorem dX0_clear_14 : decode cX0_clear 14 = .ok (.aload_n 0, 1) := by decide +kernel
theorem dX0_clear_15 : decode cX0_clear 15 = .ok (.iload_n 1, 1) := by decide +kernel
theorem dX0_clear_16 : decode cX0_clear 16 = .ok (.putfield 9, 3) := by decide +kernel
theorem dX0_clear_19 : decode cX0_clear 19 = .ok (.aload_n 0, 1) := by decide +kernel
theorem dX0_clear_20 : decode cX0_clear 20 = .ok (.iload_n 2, 1) := by decide +kernel
theorem dX0_clear_21 : decode cX0_clear 21 = .ok (.putfield 15, 3) := by decide +kernel
theorem dX0_clear_24 : decode cX0_clear 24 = .ok (.aload_n 0, 1) := by decide +kernel
theorem dX0_clear_25 : decode cX0_clear 25 = .ok (.getfield 18, 3) := by decide +kernel
theorem dX0_clear_28 : decode cX0_clear 28 = .ok (.iconst 0, 1) := by decide +kernel
theorem dX0_clear_29 : decode cX0_clear 29 = .ok (.invokestatic 26, 3) := by decide +kernel
theorem dX0_clear_32 : decode cX0_clear 32 = .ok (.return_, 1) := by decide +kernel
theorem dX0_isPoint_0 : decode cX0_isPoint 0 = .ok (.iload_n 1, 1) := by decide +kernel
theorem dX0_isPoint_1 : decode cX0_isPoint 1 = .ok (.ifCond .lt 40, 3) := by decide +kernel
theorem dX0_isPoint_4 : decode cX0_isPoint 4 = .ok (.iload_n 1, 1) := by decide +kernel
theorem dX0_isPoint_5 : decode cX0_isPoint 5 = .ok (.iconst 2, 1) := by decide +kernel
theorem dX0_isPoint_6 : decode cX0_isPoint 6 = .ok (.aload_n 0, 1) := by decide +kernel
theorem dX0_isPoint_7 : decode cX0_isPoint 7 = .ok (.getfield 9, 3) := by decide +kernel
theorem dX0_isPoint_10 : decode cX0_isPoint 10 = .ok (.imul, 1) := by decide +kernel
theorem dX0_isPoint_11 : decode cX0_isPoint 11 = .ok (.if_icmp .gt 30, 3) := by decide +kernel
theorem dX0_isPoint_14 : decode cX0_isPoint 14 = .ok (.iload_n 2, 1) := by decide +kernel
theorem dX0_isPoint_15 : decode cX0_isPoint 15 = .ok (.ifCond .lt 26, 3) := by decide +kernel
theorem dX0_isPoint_18 : decode cX0_isPoint 18 = .ok (.iload_n 2, 1) := by decide +kernel
theorem dX0_isPoint_19 : decode cX0_isPoint 19 = .ok (.iconst 2, 1) := by decide +kernel
theorem dX0_isPoint_20 : decode cX0_isPoint 20 = .ok (.aload_n 0, 1) := by decide +kernel
theorem dX0_isPoint_21 : decode cX0_isPoint 21 = .ok (.getfield 15, 3) := by decide +kernel
theorem dX0_isPoint_24 : decode cX0_isPoint 24 = .ok (.imul, 1) := by decide +kernel
theorem dX0_isPoint_25 : decode cX0_isPoint 25 = .ok (.if_icmp .gt 16, 3) := by decide +kernel
theorem dX0_isPoint_28 : decode cX0_isPoint 28 = .ok (.iload_n 1, 1) := by decide +kernel
theorem dX0_isPoint_29 : decode cX0_isPoint 29 = .ok (.iload_n 2, 1) := by decide +kernel
theorem dX0_isPoint_30 : decode cX0_isPoint 30 = .ok (.iadd, 1) := by decide +kernel
theorem dX0_isPoint_31 : decode cX0_isPoint 31 = .ok (.iconst 1, 1) := by decide +kernel
theorem dX0_isPoint_32 : decode cX0_isPoint 32 = .ok (.iand, 1) := by decide +kernel
theorem dX0_isPoint_33 : decode cX0_isPoint 33 = .ok (.iconst 1, 1) := by decide +kernel
theorem dX0_isPoint_34 : decode cX0_isPoint 34 = .ok (.if_icmp .ne 7, 3) := by decide +kernel
theorem dX0_isPoint_37 : decode cX0_isPoint 37 = .ok (.iconst 1, 1) := by decide +kernel
theorem dX0_isPoint_38 : decode cX0_isPoint 38 = .ok (.goto 4, 3) := by decide +kernel
theorem dX0_isPoint_41 : decode cX0_isPoint 41 = .ok (.iconst 0, 1) := by decide +kernel
theorem dX0_isPoint_42 : decode cX0_isPoint 42 = .ok (.ireturn, 1) := by decide +kernel
theorem dX0_isInner_0 : decode cX0_isInner 0 = .ok (.iload_n 1, 1) := by decide +kernel
theorem dX0_isInner_1 : decode cX0_isInner 1 = .ok (.ifCond .le 40, 3) := by decide +kernel
theorem dX0_isInner_4 : decode cX0_isInner 4 = .ok (.iload_n 1, 1) := by decide +kernel
theorem dX0_isInner_5 : decode cX0_isInner 5 = .ok (.iconst 2, 1) := by decide +kernel
theorem dX0_isInner_6 : decode cX0_isInner 6 = .ok (.aload_n 0, 1) := by decide +kernel
theorem dX0_isInner_7 : decode cX0_isInner 7 = .ok (.getfield 9, 3) := by decide +kernel
theorem dX0_isInner_10 : decode cX0_isInner 10 = .ok (.imul, 1) := by decide +kernel
theorem dX0_isInner_11 : decode cX0_isInner 11 = .ok (.if_icmp .ge 30, 3) := by decide +kernel
theorem dX0_isInner_14 : decode cX0_isInner 14 = .ok (.iload_n 2, 1) := by decide +kernel
theorem dX0_isInner_15 : decode cX0_isInner 15 = .ok (.ifCond .le 26, 3) := by decide +kernel
theorem dX0_isInner_18 : decode cX0_isInner 18 = .ok (.iload_n 2, 1) := by decide +kernel
theorem dX0_isInner_19 : decode cX0_isInner 19 = .ok (.iconst 2, 1) := by decide +kernel
theorem dX0_isInner_20 : decode cX0_isInner 20 = .ok (.aload_n 0, 1) := by decide +kernel
theorem dX0_isInner_21 : decode cX0_isInner 21 = .ok (.getfield 15, 3) := by decide +kernel
theorem dX0_isInner_24 : decode cX0_isInner 24 = .ok (.imul, 1) := by decide +kernel
theorem dX0_isInner_25 : decode cX0_isInner 25 = .ok (.if_icmp .ge 16, 3) := by decide +kernel
theorem dX0_isInner_28 : decode cX0_isInner 28 = .ok (.iload_n 1, 1) := by decide +kernel
theorem dX0_isInner_29 : decode cX0_isInner 29 = .ok (.iload_n 2, 1) := by decide +kernel
theorem dX0_isInner_30 : decode cX0_isInner 30 = .ok (.iadd, 1) := by decide +kernel
theorem dX0_isInner_31 : decode cX0_isInner 31 = .ok (.iconst 1, 1) := by decide +kernel
theorem dX0_isInner_32 : decode cX0_isInner 32 = .ok (.iand, 1) := by decide +kernel
theorem dX0_isInner_33 : decode cX0_isInner 33 = .ok (.iconst 1, 1) := by decide +kernel
theorem dX0_isInner_34 : decode cX0_isInner 34 = .ok (.if_icmp .ne 7, 3) := by decide +kernel
theorem dX0_isInner_37 : decode cX0_isInner 37 = .ok (.iconst 1, 1) := by decide +kernel
theorem dX0_isInner_38 : decode cX0_isInner 38 = .ok (.goto 4, 3) := by decide +kernel
theorem dX0_isInner_41 : decode cX0_isInner 41 = .ok (.iconst 0, 1) := by decide +kernel
theorem dX0_isInner_42 : decode cX0_isInner 42 = .ok (.ireturn, 1) := by decide +kernel
theorem dX0_isSquare_0 : decode cX0_isSquare 0 = .ok (.iload_n 1, 1) := by decide +kernel
theorem dX0_isSquare_1 : decode cX0_isSquare 1 = .ok (.ifCond .lt 15, 3) := by decide +kernel
theorem dX0_isSquare_4 : decode cX0_isSquare 4 = .ok (.iload_n 1, 1) := by decide +kernel
theorem dX0_isSquare_5 : decode cX0_isSquare 5 = .ok (.aload_n 0, 1) := by decide +kernel
theorem dX0_isSquare_6 : decode cX0_isSquare 6 = .ok (.invokevirtual 32, 3) := by decide +kernel
theorem dX0_isSquare_9 : decode cX0_isSquare 9 = .ok (.if_icmp .ge 7, 3) := by decide +kernel
theorem dX0_isSquare_12 : decode cX0_isSquare 12 = .ok (.iconst 1, 1) := by decide +kernel
theorem dX0_isSquare_13 : decode cX0_isSquare 13 = .ok (.goto 4, 3) := by decide +kernel
theorem dX0_isSquare_16 : decode cX0_isSquare 16 = .ok (.iconst 0, 1) := by decide +kernel
theorem dX0_isSquare_17 : decode cX0_isSquare 17 = .ok (.ireturn, 1) := by decide +kernel
theorem dX0_squareCount_0 : decode cX0_squareCount 0 = .ok (.iconst 4, 1) := by decide +kernel
theorem dX0_squareCount_1 : decode cX0_squareCount 1 = .ok (.aload_n 0, 1) := by decide +kernel
theorem dX0_squareCount_2 : decode cX0_squareCount 2 = .ok (.getfield 9, 3) := by decide +kernel
theorem dX0_squareCount_5 : decode cX0_squareCount 5 = .ok (.imul, 1) := by decide +kernel
theorem dX0_squareCount_6 : decode cX0_squareCount 6 = .ok (.aload_n 0, 1) := by decide +kernel
theorem dX0_squareCount_7 : decode cX0_squareCount 7 = .ok (.getfield 15, 3) := by decide +kernel
theorem dX0_squareCount_10 : decode cX0_squareCount 10 = .ok (.imul, 1) := by decide +kernel
theorem dX0_squareCount_11 : decode cX0_squareCount 11 = .ok (.ireturn, 1) := by decide +kernel
theorem dX0_mirrorAt_0 : decode cX0_mirrorAt 0 = .ok (.aload_n 0, 1) := by decide +kernel
theorem dX0_mirrorAt_1 : decode cX0_mirrorAt 1 = .ok (.iload_n 1, 1) := by decide +kernel
theorem dX0_mirrorAt_2 : decode cX0_mirrorAt 2 = .ok (.iload_n 2, 1) := by decide +kernel
theorem dX0_mirrorAt_3 : decode cX0_mirrorAt 3 = .ok (.invokevirtual 36, 3) := by decide +kernel
theorem dX0_mirrorAt_6 : decode cX0_mirrorAt 6 = .ok (.ifCond .eq 16, 3) := by decide +kernel
theorem dX0_mirrorAt_9 : decode cX0_mirrorAt 9 = .ok (.aload_n 0, 1) := by decide +kernel
theorem dX0_mirrorAt_10 : decode cX0_mirrorAt 10 = .ok (.getfield 18, 3) := by decide +kernel
theorem dX0_mirrorAt_13 : decode cX0_mirrorAt 13 = .ok (.iload_n 1, 1) := by decide +kernel
theorem dX0_mirrorAt_14 : decode cX0_mirrorAt 14 = .ok (.iload_n 2, 1) := by decide +kernel
theorem dX0_mirrorAt_15 : decode cX0_mirrorAt 15 = .ok (.invokestatic 40, 3) := by decide +kernel
theorem dX0_mirrorAt_18 : decode cX0_mirrorAt 18 = .ok (.iaload, 1) := by decide +kernel
theorem dX0_mirrorAt_19 : decode cX0_mirrorAt 19 = .ok (.goto 4, 3) := by decide +kernel
theorem dX0_mirrorAt_22 : decode cX0_mirrorAt 22 = .ok (.iconst 0, 1) := by decide +kernel
theorem dX0_mirrorAt_23 : decode cX0_mirrorAt 23 = .ok (.ireturn, 1) := by decide +kernel
theorem dX0_put_0 : decode cX0_put 0 = .ok (.aload_n 0, 1) := by decide +kernel
theorem dX0_put_1 : decode cX0_put 1 = .ok (.iload_n 1, 1) := by decide +kernel
theorem dX0_put_2 : decode cX0_put 2 = .ok (.iload_n 2, 1) := by decide +kernel
theorem dX0_put_3 : decode cX0_put 3 = .ok (.invokevirtual 36, 3) := by decide +kernel
theorem dX0_put_6 : decode cX0_put 6 = .ok (.ifCond .eq 14, 3) := by decide +kernel
theorem dX0_put_9 : decode cX0_put 9 = .ok (.aload_n 0, 1) := by decide +kernel
theorem dX0_put_10 : decode cX0_put 10 = .ok (.getfield 18, 3) := by decide +kernel
theorem dX0_put_13 : decode cX0_put 13 = .ok (.iload_n 1, 1) := by decide +kernel
theorem dX0_put_14 : decode cX0_put 14 = .ok (.iload_n 2, 1) := by decide +kernel
theorem dX0_put_15 : decode cX0_put 15 = .ok (.invokestatic 40, 3) := by decide +kernel
theorem dX0_put_18 : decode cX0_put 18 = .ok (.iload_n 3, 1) := by decide +kernel
theorem dX0_put_19 : decode cX0_put 19 = .ok (.iastore, 1) := by decide +kernel
theorem dX0_put_20 : decode cX0_put 20 = .ok (.return_, 1) := by decide +kernel
theorem dX0_copy_0 : decode cX0_copy 0 = .ok (.aload_n 0, 1) := by decide +kernel
theorem dX0_copy_1 : decode cX0_copy 1 = .ok (.aload_n 1, 1) := by decide +kernel
theorem dX0_copy_2 : decode cX0_copy 2 = .ok (.getfield 9, 3) := by decide +kernel
theorem dX0_copy_5 : decode cX0_copy 5 = .ok (.putfield 9, 3) := by decide +kernel
theorem dX0_copy_8 : decode cX0_copy 8 = .ok (.aload_n 0, 1) := by decide +kernel
theorem dX0_copy_9 : decode cX0_copy 9 = .ok (.aload_n 1, 1) := by decide +kernel
theorem dX0_copy_10 : decode cX0_copy 10 = .ok (.getfield 15, 3) := by decide +kernel
theorem dX0_copy_13 : decode cX0_copy 13 = .ok (.putfield 15, 3) := by decide +kernel
theorem dX0_copy_16 : decode cX0_copy 16 = .ok (.aload_n 1, 1) := by decide +kernel
theorem dX0_copy_17 : decode cX0_copy 17 = .ok (.getfield 18, 3) := by decide +kernel
theorem dX0_copy_20 : decode cX0_copy 20 = .ok (.iconst 0, 1) := by decide +kernel
theorem dX0_copy_21 : decode cX0_copy 21 = .ok (.aload_n 0, 1) := by decide +kernel
theorem dX0_copy_22 : decode cX0_copy 22 = .ok (.getfield 18, 3) := by decide +kernel
theorem dX0_copy_25 : decode cX0_copy 25 = .ok (.iconst 0, 1) := by decide +kernel
theorem dX0_copy_26 : decode cX0_copy 26 = .ok (.sipush 128, 3) := by decide +kernel
theorem dX0_copy_29 : decode cX0_copy 29 = .ok (.invokestatic 44, 3) := by decide +kernel
theorem dX0_copy_32 : decode cX0_copy 32 = .ok (.return_, 1) := by decide +kernel
theorem dX0_isSameAs_0 : decode cX0_isSameAs 0 = .ok (.aload_n 0, 1) := by decide +kernel
theorem dX0_isSameAs_1 : decode cX0_isSameAs 1 = .ok (.getfield 9, 3) := by decide +kernel
theorem dX0_isSameAs_4 : decode cX0_isSameAs 4 = .ok (.aload_n 1, 1) := by decide +kernel
theorem dX0_isSameAs_5 : decode cX0_isSameAs 5 = .ok (.getfield 9, 3) := by decide +kernel
theorem dX0_isSameAs_8 : decode cX0_isSameAs 8 = .ok (.if_icmp .ne 14, 3) := by decide +kernel
theorem dX0_isSameAs_11 : decode cX0_isSameAs 11 = .ok (.aload_n 0, 1) := by decide +kernel
theorem dX0_isSameAs_12 : decode cX0_isSameAs 12 = .ok (.getfield 15, 3) := by decide +kernel
theorem dX0_isSameAs_15 : decode cX0_isSameAs 15 = .ok (.aload_n 1, 1) := by decide +kernel
theorem dX0_isSameAs_16 : decode cX0_isSameAs 16 = .ok (.getfield 15, 3) := by decide +kernel
theorem dX0_isSameAs_19 : decode cX0_isSameAs 19 = .ok (.if_icmp .eq 5, 3) := by decide +kernel
theorem dX0_isSameAs_22 : decode cX0_isSameAs 22 = .ok (.iconst 0, 1) := by decide +kernel
theorem dX0_isSameAs_23 : decode cX0_isSameAs 23 = .ok (.ireturn, 1) := by decide +kernel
theorem dX0_isSameAs_24 : decode cX0_isSameAs 24 = .ok (.iconst 0, 1) := by decide +kernel
theorem dX0_isSameAs_25 : decode cX0_isSameAs 25 = .ok (.istore_n 2, 1) := by decide +kernel
theorem dX0_isSameAs_26 : decode cX0_isSameAs 26 = .ok (.iload_n 2, 1) := by decide +kernel
theorem dX0_isSameAs_27 : decode cX0_isSameAs 27 = .ok (.sipush 128, 3) := by decide +kernel
theorem dX0_isSameAs_30 : decode cX0_isSameAs 30 = .ok (.if_icmp .ge 26, 3) := by decide +kernel
theorem dX0_isSameAs_33 : decode cX0_isSameAs 33 = .ok (.aload_n 0, 1) := by decide +kernel
theorem dX0_isSameAs_34 : decode cX0_isSameAs 34 = .ok (.getfield 18, 3) := by decide +kernel
theorem dX0_isSameAs_37 : decode cX0_isSameAs 37 = .ok (.iload_n 2, 1) := by decide +kernel
theorem dX0_isSameAs_38 : decode cX0_isSameAs 38 = .ok (.iaload, 1) := by decide +kernel
theorem dX0_isSameAs_39 : decode cX0_isSameAs 39 = .ok (.aload_n 1, 1) := by decide +kernel
theorem dX0_isSameAs_40 : decode cX0_isSameAs 40 = .ok (.getfield 18, 3) := by decide +kernel
theorem dX0_isSameAs_43 : decode cX0_isSameAs 43 = .ok (.iload_n 2, 1) := by decide +kernel
theorem dX0_isSameAs_44 : decode cX0_isSameAs 44 = .ok (.iaload, 1) := by decide +kernel
theorem dX0_isSameAs_45 : decode cX0_isSameAs 45 = .ok (.if_icmp .eq 5, 3) := by decide +kernel
theorem dX0_isSameAs_48 : decode cX0_isSameAs 48 = .ok (.iconst 0, 1) := by decide +kernel
theorem dX0_isSameAs_49 : decode cX0_isSameAs 49 = .ok (.ireturn, 1) := by decide +kernel
theorem dX0_isSameAs_50 : decode cX0_isSameAs 50 = .ok (.iinc 2 1, 3) := by decide +kernel
theorem dX0_isSameAs_53 : decode cX0_isSameAs 53 = .ok (.goto (-27), 3) := by decide +kernel
theorem dX0_isSameAs_56 : decode cX0_isSameAs 56 = .ok (.iconst 1, 1) := by decide +kernel
theorem dX0_isSameAs_57 : decode cX0_isSameAs 57 = .ok (.ireturn, 1) := by decide +kernel
theorem dX0_countOf_0 : decode cX0_countOf 0 = .ok (.iconst 0, 1) := by decide +kernel
theorem dX0_countOf_1 : decode cX0_countOf 1 = .ok (.istore_n 2, 1) := by decide +kernel
theorem dX0_countOf_2 : decode cX0_countOf 2 = .ok (.aload_n 0, 1) := by decide +kernel
theorem dX0_countOf_3 : decode cX0_countOf 3 = .ok (.getfield 18, 3) := by decide +kernel
theorem dX0_countOf_6 : decode cX0_countOf 6 = .ok (.astore_n 3, 1) := by decide +kernel
theorem dX0_countOf_7 : decode cX0_countOf 7 = .ok (.aload_n 3, 1) := by decide +kernel
theorem dX0_countOf_8 : decode cX0_countOf 8 = .ok (.arraylength, 1) := by decide +kernel
theorem dX0_countOf_9 : decode cX0_countOf 9 = .ok (.istore 4, 2) := by decide +kernel
theorem dX0_countOf_11 : decode cX0_countOf 11 = .ok (.iconst 0, 1) := by decide +kernel
theorem dX0_countOf_12 : decode cX0_countOf 12 = .ok (.istore 5, 2) := by decide +kernel
theorem dX0_countOf_14 : decode cX0_countOf 14 = .ok (.iload 5, 2) := by decide +kernel
theorem dX0_countOf_16 : decode cX0_countOf 16 = .ok (.iload 4, 2) := by decide +kernel
theorem dX0_countOf_18 : decode cX0_countOf 18 = .ok (.if_icmp .ge 29, 3) := by decide +kernel
theorem dX0_countOf_21 : decode cX0_countOf 21 = .ok (.aload_n 3, 1) := by decide +kernel
theorem dX0_countOf_22 : decode cX0_countOf 22 = .ok (.iload 5, 2) := by decide +kernel
theorem dX0_countOf_24 : decode cX0_countOf 24 = .ok (.iaload, 1) := by decide +kernel
theorem dX0_countOf_25 : decode cX0_countOf 25 = .ok (.istore 6, 2) := by decide +kernel
theorem dX0_countOf_27 : decode cX0_countOf 27 = .ok (.iload_n 2, 1) := by decide +kernel
theorem dX0_countOf_28 : decode cX0_countOf 28 = .ok (.iload 6, 2) := by decide +kernel
theorem dX0_countOf_30 : decode cX0_countOf 30 = .ok (.iload_n 1, 1) := by decide +kernel
theorem dX0_countOf_31 : decode cX0_countOf 31 = .ok (.if_icmp .ne 7, 3) := by decide +kernel
theorem dX0_countOf_34 : decode cX0_countOf 34 = .ok (.iconst 1, 1) := by decide +kernel
theorem dX0_countOf_35 : decode cX0_countOf 35 = .ok (.goto 4, 3) := by decide +kernel
theorem dX0_countOf_38 : decode cX0_countOf 38 = .ok (.iconst 0, 1) := by decide +kernel
theorem dX0_countOf_39 : decode cX0_countOf 39 = .ok (.iadd, 1) := by decide +kernel
theorem dX0_countOf_40 : decode cX0_countOf 40 = .ok (.istore_n 2, 1) := by decide +kernel
theorem dX0_countOf_41 : decode cX0_countOf 41 = .ok (.iinc 5 1, 3) := by decide +kernel
theorem dX0_countOf_44 : decode cX0_countOf 44 = .ok (.goto (-30), 3) := by decide +kernel
theorem dX0_countOf_47 : decode cX0_countOf 47 = .ok (.iload_n 2, 1) := by decide +kernel
theorem dX0_countOf_48 : decode cX0_countOf 48 = .ok (.ireturn, 1) := by decide +kernel
theorem dX0_takeTurned_0 : decode cX0_takeTurned 0 = .ok (.iload_n 2, 1) := by decide +kernel
theorem dX0_takeTurned_1 : decode cX0_takeTurned 1 = .ok (.iconst 1, 1) := by decide +kernel
theorem dX0_takeTurned_2 : decode cX0_takeTurned 2 = .ok (.iand, 1) := by decide +kernel
theorem dX0_takeTurned_3 : decode cX0_takeTurned 3 = .ok (.iconst 1, 1) := by decide +kernel
theorem dX0_takeTurned_4 : decode cX0_takeTurned 4 = .ok (.if_icmp .ne 7, 3) := by decide +kernel
theorem dX0_takeTurned_7 : decode cX0_takeTurned 7 = .ok (.iconst 1, 1) := by decide +kernel
theorem dX0_takeTurned_8 : decode cX0_takeTurned 8 = .ok (.goto 4, 3) := by decide +kernel
theorem dX0_takeTurned_11 : decode cX0_takeTurned 11 = .ok (.iconst 0, 1) := by decide +kernel
theorem dX0_takeTurned_12 : decode cX0_takeTurned 12 = .ok (.istore 4, 2) := by decide +kernel
theorem dX0_takeTurned_14 : decode cX0_takeTurned 14 = .ok (.aload_n 0, 1) := by decide +kernel
theorem dX0_takeTurned_15 : decode cX0_takeTurned 15 = .ok (.iload 4, 2) := by decide +kernel
theorem dX0_takeTurned_17 : decode cX0_takeTurned 17 = .ok (.ifCond .eq 10, 3) := by decide +kernel
theorem dX0_takeTurned_20 : decode cX0_takeTurned 20 = .ok (.aload_n 1, 1) := by decide +kernel
theorem dX0_takeTurned_21 : decode cX0_takeTurned 21 = .ok (.getfield 15, 3) := by decide +kernel
theorem dX0_takeTurned_24 : decode cX0_takeTurned 24 = .ok (.goto 7, 3) := by decide +kernel
theorem dX0_takeTurned_27 : decode cX0_takeTurned 27 = .ok (.aload_n 1, 1) := by decide +kernel
theorem dX0_takeTurned_28 : decode cX0_takeTurned 28 = .ok (.getfield 9, 3) := by decide +kernel
theorem dX0_takeTurned_31 : decode cX0_takeTurned 31 = .ok (.iload 4, 2) := by decide +kernel
theorem dX0_takeTurned_33 : decode cX0_takeTurned 33 = .ok (.ifCond .eq 10, 3) := by decide +kernel
theorem dX0_takeTurned_36 : decode cX0_takeTurned 36 = .ok (.aload_n 1, 1) := by decide +kernel
theorem dX0_takeTurned_37 : decode cX0_takeTurned 37 = .ok (.getfield 9, 3) := by decide +kernel
theorem dX0_takeTurned_40 : decode cX0_takeTurned 40 = .ok (.goto 7, 3) := by decide +kernel
theorem dX0_takeTurned_43 : decode cX0_takeTurned 43 = .ok (.aload_n 1, 1) := by decide +kernel
theorem dX0_takeTurned_44 : decode cX0_takeTurned 44 = .ok (.getfield 15, 3) := by decide +kernel
theorem dX0_takeTurned_47 : decode cX0_takeTurned 47 = .ok (.invokevirtual 50, 3) := by decide +kernel
theorem dX0_takeTurned_50 : decode cX0_takeTurned 50 = .ok (.iconst 1, 1) := by decide +kernel
theorem dX0_takeTurned_51 : decode cX0_takeTurned 51 = .ok (.istore 5, 2) := by decide +kernel
theorem dX0_takeTurned_53 : decode cX0_takeTurned 53 = .ok (.iload 5, 2) := by decide +kernel
theorem dX0_takeTurned_55 : decode cX0_takeTurned 55 = .ok (.iconst 2, 1) := by decide +kernel
theorem dX0_takeTurned_56 : decode cX0_takeTurned 56 = .ok (.aload_n 1, 1) := by decide +kernel
theorem dX0_takeTurned_57 : decode cX0_takeTurned 57 = .ok (.getfield 15, 3) := by decide +kernel
theorem dX0_takeTurned_60 : decode cX0_takeTurned 60 = .ok (.imul, 1) := by decide +kernel
theorem dX0_takeTurned_61 : decode cX0_takeTurned 61 = .ok (.if_icmp .ge 113, 3) := by decide +kernel
theorem dX0_takeTurned_64 : decode cX0_takeTurned 64 = .ok (.iconst 1, 1) := by decide +kernel
theorem dX0_takeTurned_65 : decode cX0_takeTurned 65 = .ok (.iload 5, 2) := by decide +kernel
theorem dX0_takeTurned_67 : decode cX0_takeTurned 67 = .ok (.iconst 1, 1) := by decide +kernel
theorem dX0_takeTurned_68 : decode cX0_takeTurned 68 = .ok (.iand, 1) := by decide +kernel
theorem dX0_takeTurned_69 : decode cX0_takeTurned 69 = .ok (.iadd, 1) := by decide +kernel
theorem dX0_takeTurned_70 : decode cX0_takeTurned 70 = .ok (.istore 6, 2) := by decide +kernel
theorem dX0_takeTurned_72 : decode cX0_takeTurned 72 = .ok (.iload 6, 2) := by decide +kernel
theorem dX0_takeTurned_74 : decode cX0_takeTurned 74 = .ok (.iconst 2, 1) := by decide +kernel
theorem dX0_takeTurned_75 : decode cX0_takeTurned 75 = .ok (.aload_n 1, 1) := by decide +kernel
theorem dX0_takeTurned_76 : decode cX0_takeTurned 76 = .ok (.getfield 9, 3) := by decide +kernel
theorem dX0_takeTurned_79 : decode cX0_takeTurned 79 = .ok (.imul, 1) := by decide +kernel
theorem dX0_takeTurned_80 : decode cX0_takeTurned 80 = .ok (.if_icmp .ge 88, 3) := by decide +kernel
theorem dX0_takeTurned_83 : decode cX0_takeTurned 83 = .ok (.aload_n 1, 1) := by decide +kernel
theorem dX0_takeTurned_84 : decode cX0_takeTurned 84 = .ok (.iload 6, 2) := by decide +kernel
theorem dX0_takeTurned_86 : decode cX0_takeTurned 86 = .ok (.iload 5, 2) := by decide +kernel
theorem dX0_takeTurned_88 : decode cX0_takeTurned 88 = .ok (.invokevirtual 54, 3) := by decide +kernel
theorem dX0_takeTurned_91 : decode cX0_takeTurned 91 = .ok (.istore 7, 2) := by decide +kernel
theorem dX0_takeTurned_93 : decode cX0_takeTurned 93 = .ok (.aload_n 1, 1) := by decide +kernel
theorem dX0_takeTurned_94 : decode cX0_takeTurned 94 = .ok (.iload_n 2, 1) := by decide +kernel
theorem dX0_takeTurned_95 : decode cX0_takeTurned 95 = .ok (.iload 6, 2) := by decide +kernel
theorem dX0_takeTurned_97 : decode cX0_takeTurned 97 = .ok (.iload 5, 2) := by decide +kernel
theorem dX0_takeTurned_99 : decode cX0_takeTurned 99 = .ok (.invokestatic 57, 3) := by decide +kernel
theorem dX0_takeTurned_102 : decode cX0_takeTurned 102 = .ok (.istore 8, 2) := by decide +kernel
theorem dX0_takeTurned_104 : decode cX0_takeTurned 104 = .ok (.aload_n 1, 1) := by decide +kernel
theorem dX0_takeTurned_105 : decode cX0_takeTurned 105 = .ok (.iload_n 2, 1) := by decide +kernel
theorem dX0_takeTurned_106 : decode cX0_takeTurned 106 = .ok (.iload 6, 2) := by decide +kernel
theorem dX0_takeTurned_108 : decode cX0_takeTurned 108 = .ok (.iload 5, 2) := by decide +kernel
theorem dX0_takeTurned_110 : decode cX0_takeTurned 110 = .ok (.invokestatic 61, 3) := by decide +kernel
theorem dX0_takeTurned_113 : decode cX0_takeTurned 113 = .ok (.istore 9, 2) := by decide +kernel
theorem dX0_takeTurned_115 : decode cX0_takeTurned 115 = .ok (.iload 4, 2) := by decide +kernel
theorem dX0_takeTurned_117 : decode cX0_takeTurned 117 = .ok (.ifCond .eq 15, 3) := by decide +kernel
theorem dX0_takeTurned_120 : decode cX0_takeTurned 120 = .ok (.iload 7, 2) := by decide +kernel
theorem dX0_takeTurned_122 : decode cX0_takeTurned 122 = .ok (.ifCond .eq 10, 3) := by decide +kernel
theorem dX0_takeTurned_125 : decode cX0_takeTurned 125 = .ok (.iconst 3, 1) := by decide +kernel
theorem dX0_takeTurned_126 : decode cX0_takeTurned 126 = .ok (.iload 7, 2) := by decide +kernel
theorem dX0_takeTurned_128 : decode cX0_takeTurned 128 = .ok (.isub, 1) := by decide +kernel
theorem dX0_takeTurned_129 : decode cX0_takeTurned 129 = .ok (.goto 5, 3) := by decide +kernel
theorem dX0_takeTurned_132 : decode cX0_takeTurned 132 = .ok (.iload 7, 2) := by decide +kernel
theorem dX0_takeTurned_134 : decode cX0_takeTurned 134 = .ok (.istore 10, 2) := by decide +kernel
theorem dX0_takeTurned_136 : decode cX0_takeTurned 136 = .ok (.aload_n 0, 1) := by decide +kernel
theorem dX0_takeTurned_137 : decode cX0_takeTurned 137 = .ok (.iload_n 3, 1) := by decide +kernel
theorem dX0_takeTurned_138 : decode cX0_takeTurned 138 = .ok (.ifCond .eq 15, 3) := by decide +kernel
theorem dX0_takeTurned_141 : decode cX0_takeTurned 141 = .ok (.iconst 2, 1) := by decide +kernel
theorem dX0_takeTurned_142 : decode cX0_takeTurned 142 = .ok (.aload_n 0, 1) := by decide +kernel
theorem dX0_takeTurned_143 : decode cX0_takeTurned 143 = .ok (.getfield 9, 3) := by decide +kernel
theorem dX0_takeTurned_146 : decode cX0_takeTurned 146 = .ok (.imul, 1) := by decide +kernel
theorem dX0_takeTurned_147 : decode cX0_takeTurned 147 = .ok (.iload 8, 2) := by decide +kernel
theorem dX0_takeTurned_149 : decode cX0_takeTurned 149 = .ok (.isub, 1) := by decide +kernel
theorem dX0_takeTurned_150 : decode cX0_takeTurned 150 = .ok (.goto 5, 3) := by decide +kernel
theorem dX0_takeTurned_153 : decode cX0_takeTurned 153 = .ok (.iload 8, 2) := by decide +kernel
theorem dX0_takeTurned_155 : decode cX0_takeTurned 155 = .ok (.iload 9, 2) := by decide +kernel
theorem dX0_takeTurned_157 : decode cX0_takeTurned 157 = .ok (.iload 10, 2) := by decide +kernel
theorem dX0_takeTurned_159 : decode cX0_takeTurned 159 = .ok (.invokevirtual 64, 3) := by decide +kernel
theorem dX0_takeTurned_162 : decode cX0_takeTurned 162 = .ok (.iinc 6 2, 3) := by decide +kernel
theorem dX0_takeTurned_165 : decode cX0_takeTurned 165 = .ok (.goto (-93), 3) := by decide +kernel
theorem dX0_takeTurned_168 : decode cX0_takeTurned 168 = .ok (.iinc 5 1, 3) := by decide +kernel
theorem dX0_takeTurned_171 : decode cX0_takeTurned 171 = .ok (.goto (-118), 3) := by decide +kernel
theorem dX0_takeTurned_174 : decode cX0_takeTurned 174 = .ok (.return_, 1) := by decide +kernel
theorem dX0_turnedColumn_0 : decode cX0_turnedColumn 0 = .ok (.iload_n 1, 1) := by decide +kernel
theorem dX0_turnedColumn_1 : decode cX0_turnedColumn 1 = .ok (.tableswitch 47 1 3 #[27, 36, 45], 27) := by decide +kernel
theorem dX0_turnedColumn_28 : decode cX0_turnedColumn 28 = .ok (.iconst 2, 1) := by decide +kernel
theorem dX0_turnedColumn_29 : decode cX0_turnedColumn 29 = .ok (.aload_n 0, 1) := by decide +kernel
theorem dX0_turnedColumn_30 : decode cX0_turnedColumn 30 = .ok (.getfield 15, 3) := by decide +kernel
theorem dX0_turnedColumn_33 : decode cX0_turnedColumn 33 = .ok (.imul, 1) := by decide +kernel
theorem dX0_turnedColumn_34 : decode cX0_turnedColumn 34 = .ok (.iload_n 3, 1) := by decide +kernel
theorem dX0_turnedColumn_35 : decode cX0_turnedColumn 35 = .ok (.isub, 1) := by decide +kernel
theorem dX0_turnedColumn_36 : decode cX0_turnedColumn 36 = .ok (.ireturn, 1) := by decide +kernel
theorem dX0_turnedColumn_37 : decode cX0_turnedColumn 37 = .ok (.iconst 2, 1) := by decide +kernel
theorem dX0_turnedColumn_38 : decode cX0_turnedColumn 38 = .ok (.aload_n 0, 1) := by decide +kernel
theorem dX0_turnedColumn_39 : decode cX0_turnedColumn 39 = .ok (.getfield 9, 3) := by decide +kernel
theorem dX0_turnedColumn_42 : decode cX0_turnedColumn 42 = .ok (.imul, 1) := by decide +kernel
theorem dX0_turnedColumn_43 : decode cX0_turnedColumn 43 = .ok (.iload_n 2, 1) := by decide +kernel
theorem dX0_turnedColumn_44 : decode cX0_turnedColumn 44 = .ok (.isub, 1) := by decide +kernel
theorem dX0_turnedColumn_45 : decode cX0_turnedColumn 45 = .ok (.ireturn, 1) := by decide +kernel
theorem dX0_turnedColumn_46 : decode cX0_turnedColumn 46 = .ok (.iload_n 3, 1) := by decide +kernel
theorem dX0_turnedColumn_47 : decode cX0_turnedColumn 47 = .ok (.ireturn, 1) := by decide +kernel
theorem dX0_turnedColumn_48 : decode cX0_turnedColumn 48 = .ok (.iload_n 2, 1) := by decide +kernel
theorem dX0_turnedColumn_49 : decode cX0_turnedColumn 49 = .ok (.ireturn, 1) := by decide +kernel
theorem dX0_turnedRow_0 : decode cX0_turnedRow 0 = .ok (.iload_n 1, 1) := by decide +kernel
theorem dX0_turnedRow_1 : decode cX0_turnedRow 1 = .ok (.tableswitch 47 1 3 #[27, 29, 38], 27) := by decide +kernel
theorem dX0_turnedRow_28 : decode cX0_turnedRow 28 = .ok (.iload_n 2, 1) := by decide +kernel
theorem dX0_turnedRow_29 : decode cX0_turnedRow 29 = .ok (.ireturn, 1) := by decide +kernel
theorem dX0_turnedRow_30 : decode cX0_turnedRow 30 = .ok (.iconst 2, 1) := by decide +kernel
theorem dX0_turnedRow_31 : decode cX0_turnedRow 31 = .ok (.aload_n 0, 1) := by decide +kernel
theorem dX0_turnedRow_32 : decode cX0_turnedRow 32 = .ok (.getfield 15, 3) := by decide +kernel
theorem dX0_turnedRow_35 : decode cX0_turnedRow 35 = .ok (.imul, 1) := by decide +kernel
theorem dX0_turnedRow_36 : decode cX0_turnedRow 36 = .ok (.iload_n 3, 1) := by decide +kernel
theorem dX0_turnedRow_37 : decode cX0_turnedRow 37 = .ok (.isub, 1) := by decide +kernel
theorem dX0_turnedRow_38 : decode cX0_turnedRow 38 = .ok (.ireturn, 1) := by decide +kernel
theorem dX0_turnedRow_39 : decode cX0_turnedRow 39 = .ok (.iconst 2, 1) := by decide +kernel
theorem dX0_turnedRow_40 : decode cX0_turnedRow 40 = .ok (.aload_n 0, 1) := by decide +kernel
theorem dX0_turnedRow_41 : decode cX0_turnedRow 41 = .ok (.getfield 9, 3) := by decide +kernel
theorem dX0_turnedRow_44 : decode cX0_turnedRow 44 = .ok (.imul, 1) := by decide +kernel
theorem dX0_turnedRow_45 : decode cX0_turnedRow 45 = .ok (.iload_n 2, 1) := by decide +kernel
theorem dX0_turnedRow_46 : decode cX0_turnedRow 46 = .ok (.isub, 1) := by decide +kernel
theorem dX0_turnedRow_47 : decode cX0_turnedRow 47 = .ok (.ireturn, 1) := by decide +kernel
theorem dX0_turnedRow_48 : decode cX0_turnedRow 48 = .ok (.iload_n 3, 1) := by decide +kernel
theorem dX0_turnedRow_49 : decode cX0_turnedRow 49 = .ok (.ireturn, 1) := by decide +kernel
theorem dX0_growBeside_0 : decode cX0_growBeside 0 = .ok (.iconst 2, 1) := by decide +kernel
theorem dX0_growBeside_1 : decode cX0_growBeside 1 = .ok (.aload_n 0, 1) := by decide +kernel
theorem dX0_growBeside_2 : decode cX0_growBeside 2 = .ok (.getfield 9, 3) := by decide +kernel
theorem dX0_growBeside_5 : decode cX0_growBeside 5 = .ok (.imul, 1) := by decide +kernel
theorem dX0_growBeside_6 : decode cX0_growBeside 6 = .ok (.istore_n 2, 1) := by decide +kernel
theorem dX0_growBeside_7 : decode cX0_growBeside 7 = .ok (.aload_n 0, 1) := by decide +kernel
theorem dX0_growBeside_8 : decode cX0_growBeside 8 = .ok (.getfield 15, 3) := by decide +kernel
theorem dX0_growBeside_11 : decode cX0_growBeside 11 = .ok (.aload_n 1, 1) := by decide +kernel
theorem dX0_growBeside_12 : decode cX0_growBeside 12 = .ok (.getfield 15, 3) := by decide +kernel
theorem dX0_growBeside_15 : decode cX0_growBeside 15 = .ok (.if_icmp .ne 18, 3) := by decide +kernel
theorem dX0_growBeside_18 : decode cX0_growBeside 18 = .ok (.aload_n 0, 1) := by decide +kernel
theorem dX0_growBeside_19 : decode cX0_growBeside 19 = .ok (.getfield 9, 3) := by decide +kernel
theorem dX0_growBeside_22 : decode cX0_growBeside 22 = .ok (.aload_n 1, 1) := by decide +kernel
theorem dX0_growBeside_23 : decode cX0_growBeside 23 = .ok (.getfield 9, 3) := by decide +kernel
theorem dX0_growBeside_26 : decode cX0_growBeside 26 = .ok (.iadd, 1) := by decide +kernel
theorem dX0_growBeside_27 : decode cX0_growBeside 27 = .ok (.invokestatic 22, 3) := by decide +kernel
theorem dX0_growBeside_30 : decode cX0_growBeside 30 = .ok (.ifCond .ne 5, 3) := by decide +kernel
theorem dX0_growBeside_33 : decode cX0_growBeside 33 = .ok (.iconst 0, 1) := by decide +kernel
theorem dX0_growBeside_34 : decode cX0_growBeside 34 = .ok (.ireturn, 1) := by decide +kernel
theorem dX0_growBeside_35 : decode cX0_growBeside 35 = .ok (.aload_n 0, 1) := by decide +kernel
theorem dX0_growBeside_36 : decode cX0_growBeside 36 = .ok (.dup, 1) := by decide +kernel
theorem dX0_growBeside_37 : decode cX0_growBeside 37 = .ok (.getfield 9, 3) := by decide +kernel
theorem dX0_growBeside_40 : decode cX0_growBeside 40 = .ok (.aload_n 1, 1) := by decide +kernel
theorem dX0_growBeside_41 : decode cX0_growBeside 41 = .ok (.getfield 9, 3) := by decide +kernel
theorem dX0_growBeside_44 : decode cX0_growBeside 44 = .ok (.iadd, 1) := by decide +kernel
theorem dX0_growBeside_45 : decode cX0_growBeside 45 = .ok (.putfield 9, 3) := by decide +kernel
theorem dX0_growBeside_48 : decode cX0_growBeside 48 = .ok (.aload_n 0, 1) := by decide +kernel
theorem dX0_growBeside_49 : decode cX0_growBeside 49 = .ok (.aload_n 1, 1) := by decide +kernel
theorem dX0_growBeside_50 : decode cX0_growBeside 50 = .ok (.iload_n 2, 1) := by decide +kernel
theorem dX0_growBeside_51 : decode cX0_growBeside 51 = .ok (.iconst 0, 1) := by decide +kernel
theorem dX0_growBeside_52 : decode cX0_growBeside 52 = .ok (.invokevirtual 68, 3) := by decide +kernel
theorem dX0_growBeside_55 : decode cX0_growBeside 55 = .ok (.iconst 1, 1) := by decide +kernel
theorem dX0_growBeside_56 : decode cX0_growBeside 56 = .ok (.ireturn, 1) := by decide +kernel
theorem dX0_growBelow_0 : decode cX0_growBelow 0 = .ok (.iconst 2, 1) := by decide +kernel
theorem dX0_growBelow_1 : decode cX0_growBelow 1 = .ok (.aload_n 0, 1) := by decide +kernel
theorem dX0_growBelow_2 : decode cX0_growBelow 2 = .ok (.getfield 15, 3) := by decide +kernel
theorem dX0_growBelow_5 : decode cX0_growBelow 5 = .ok (.imul, 1) := by decide +kernel
theorem dX0_growBelow_6 : decode cX0_growBelow 6 = .ok (.istore_n 2, 1) := by decide +kernel
theorem dX0_growBelow_7 : decode cX0_growBelow 7 = .ok (.aload_n 0, 1) := by decide +kernel
theorem dX0_growBelow_8 : decode cX0_growBelow 8 = .ok (.getfield 9, 3) := by decide +kernel
theorem dX0_growBelow_11 : decode cX0_growBelow 11 = .ok (.aload_n 1, 1) := by decide +kernel
theorem dX0_growBelow_12 : decode cX0_growBelow 12 = .ok (.getfield 9, 3) := by decide +kernel
theorem dX0_growBelow_15 : decode cX0_growBelow 15 = .ok (.if_icmp .ne 18, 3) := by decide +kernel
theorem dX0_growBelow_18 : decode cX0_growBelow 18 = .ok (.aload_n 0, 1) := by decide +kernel
theorem dX0_growBelow_19 : decode cX0_growBelow 19 = .ok (.getfield 15, 3) := by decide +kernel
theorem dX0_growBelow_22 : decode cX0_growBelow 22 = .ok (.aload_n 1, 1) := by decide +kernel
theorem dX0_growBelow_23 : decode cX0_growBelow 23 = .ok (.getfield 15, 3) := by decide +kernel
theorem dX0_growBelow_26 : decode cX0_growBelow 26 = .ok (.iadd, 1) := by decide +kernel
theorem dX0_growBelow_27 : decode cX0_growBelow 27 = .ok (.invokestatic 22, 3) := by decide +kernel
theorem dX0_growBelow_30 : decode cX0_growBelow 30 = .ok (.ifCond .ne 5, 3) := by decide +kernel
theorem dX0_growBelow_33 : decode cX0_growBelow 33 = .ok (.iconst 0, 1) := by decide +kernel
theorem dX0_growBelow_34 : decode cX0_growBelow 34 = .ok (.ireturn, 1) := by decide +kernel
theorem dX0_growBelow_35 : decode cX0_growBelow 35 = .ok (.aload_n 0, 1) := by decide +kernel
theorem dX0_growBelow_36 : decode cX0_growBelow 36 = .ok (.dup, 1) := by decide +kernel
theorem dX0_growBelow_37 : decode cX0_growBelow 37 = .ok (.getfield 15, 3) := by decide +kernel
theorem dX0_growBelow_40 : decode cX0_growBelow 40 = .ok (.aload_n 1, 1) := by decide +kernel
theorem dX0_growBelow_41 : decode cX0_growBelow 41 = .ok (.getfield 15, 3) := by decide +kernel
theorem dX0_growBelow_44 : decode cX0_growBelow 44 = .ok (.iadd, 1) := by decide +kernel
theorem dX0_growBelow_45 : decode cX0_growBelow 45 = .ok (.putfield 15, 3) := by decide +kernel
theorem dX0_growBelow_48 : decode cX0_growBelow 48 = .ok (.aload_n 0, 1) := by decide +kernel
theorem dX0_growBelow_49 : decode cX0_growBelow 49 = .ok (.aload_n 1, 1) := by decide +kernel
theorem dX0_growBelow_50 : decode cX0_growBelow 50 = .ok (.iconst 0, 1) := by decide +kernel
theorem dX0_growBelow_51 : decode cX0_growBelow 51 = .ok (.iload_n 2, 1) := by decide +kernel
theorem dX0_growBelow_52 : decode cX0_growBelow 52 = .ok (.invokevirtual 68, 3) := by decide +kernel
theorem dX0_growBelow_55 : decode cX0_growBelow 55 = .ok (.iconst 1, 1) := by decide +kernel
theorem dX0_growBelow_56 : decode cX0_growBelow 56 = .ok (.ireturn, 1) := by decide +kernel
theorem dX0_coverWith_0 : decode cX0_coverWith 0 = .ok (.aload_n 0, 1) := by decide +kernel
theorem dX0_coverWith_1 : decode cX0_coverWith 1 = .ok (.getfield 9, 3) := by decide +kernel
theorem dX0_coverWith_4 : decode cX0_coverWith 4 = .ok (.aload_n 1, 1) := by decide +kernel
theorem dX0_coverWith_5 : decode cX0_coverWith 5 = .ok (.getfield 9, 3) := by decide +kernel
theorem dX0_coverWith_8 : decode cX0_coverWith 8 = .ok (.if_icmp .ne 14, 3) := by decide +kernel
theorem dX0_coverWith_11 : decode cX0_coverWith 11 = .ok (.aload_n 0, 1) := by decide +kernel
theorem dX0_coverWith_12 : decode cX0_coverWith 12 = .ok (.getfield 15, 3) := by decide +kernel
theorem dX0_coverWith_15 : decode cX0_coverWith 15 = .ok (.aload_n 1, 1) := by decide +kernel
theorem dX0_coverWith_16 : decode cX0_coverWith 16 = .ok (.getfield 15, 3) := by decide +kernel
theorem dX0_coverWith_19 : decode cX0_coverWith 19 = .ok (.if_icmp .eq 5, 3) := by decide +kernel
theorem dX0_coverWith_22 : decode cX0_coverWith 22 = .ok (.iconst 0, 1) := by decide +kernel
theorem dX0_coverWith_23 : decode cX0_coverWith 23 = .ok (.ireturn, 1) := by decide +kernel
theorem dX0_coverWith_24 : decode cX0_coverWith 24 = .ok (.aload_n 0, 1) := by decide +kernel
theorem dX0_coverWith_25 : decode cX0_coverWith 25 = .ok (.aload_n 1, 1) := by decide +kernel
theorem dX0_coverWith_26 : decode cX0_coverWith 26 = .ok (.iconst 0, 1) := by decide +kernel
theorem dX0_coverWith_27 : decode cX0_coverWith 27 = .ok (.iconst 0, 1) := by decide +kernel
theorem dX0_coverWith_28 : decode cX0_coverWith 28 = .ok (.invokevirtual 68, 3) := by decide +kernel
theorem dX0_coverWith_31 : decode cX0_coverWith 31 = .ok (.iconst 1, 1) := by decide +kernel
theorem dX0_coverWith_32 : decode cX0_coverWith 32 = .ok (.ireturn, 1) := by decide +kernel
theorem dX0_layMirrors_0 : decode cX0_layMirrors 0 = .ok (.iconst 1, 1) := by decide +kernel
theorem dX0_layMirrors_1 : decode cX0_layMirrors 1 = .ok (.istore 4, 2) := by decide +kernel
theorem dX0_layMirrors_3 : decode cX0_layMirrors 3 = .ok (.iload 4, 2) := by decide +kernel
theorem dX0_layMirrors_5 : decode cX0_layMirrors 5 = .ok (.iconst 2, 1) := by decide +kernel
theorem dX0_layMirrors_6 : decode cX0_layMirrors 6 = .ok (.aload_n 1, 1) := by decide +kernel
theorem dX0_layMirrors_7 : decode cX0_layMirrors 7 = .ok (.getfield 15, 3) := by decide +kernel
theorem dX0_layMirrors_10 : decode cX0_layMirrors 10 = .ok (.imul, 1) := by decide +kernel
theorem dX0_layMirrors_11 : decode cX0_layMirrors 11 = .ok (.if_icmp .ge 63, 3) := by decide +kernel
theorem dX0_layMirrors_14 : decode cX0_layMirrors 14 = .ok (.iconst 1, 1) := by decide +kernel
theorem dX0_layMirrors_15 : decode cX0_layMirrors 15 = .ok (.iload 4, 2) := by decide +kernel
theorem dX0_layMirrors_17 : decode cX0_layMirrors 17 = .ok (.iconst 1, 1) := by decide +kernel
theorem dX0_layMirrors_18 : decode cX0_layMirrors 18 = .ok (.iand, 1) := by decide +kernel
theorem dX0_layMirrors_19 : decode cX0_layMirrors 19 = .ok (.iadd, 1) := by decide +kernel
theorem dX0_layMirrors_20 : decode cX0_layMirrors 20 = .ok (.istore 5, 2) := by decide +kernel
theorem dX0_layMirrors_22 : decode cX0_layMirrors 22 = .ok (.iload 5, 2) := by decide +kernel
theorem dX0_layMirrors_24 : decode cX0_layMirrors 24 = .ok (.iconst 2, 1) := by decide +kernel
theorem dX0_layMirrors_25 : decode cX0_layMirrors 25 = .ok (.aload_n 1, 1) := by decide +kernel
theorem dX0_layMirrors_26 : decode cX0_layMirrors 26 = .ok (.getfield 9, 3) := by decide +kernel
theorem dX0_layMirrors_29 : decode cX0_layMirrors 29 = .ok (.imul, 1) := by decide +kernel
theorem dX0_layMirrors_30 : decode cX0_layMirrors 30 = .ok (.if_icmp .ge 38, 3) := by decide +kernel
theorem dX0_layMirrors_33 : decode cX0_layMirrors 33 = .ok (.aload_n 1, 1) := by decide +kernel
theorem dX0_layMirrors_34 : decode cX0_layMirrors 34 = .ok (.iload 5, 2) := by decide +kernel
theorem dX0_layMirrors_36 : decode cX0_layMirrors 36 = .ok (.iload 4, 2) := by decide +kernel
theorem dX0_layMirrors_38 : decode cX0_layMirrors 38 = .ok (.invokevirtual 54, 3) := by decide +kernel
theorem dX0_layMirrors_41 : decode cX0_layMirrors 41 = .ok (.istore 6, 2) := by decide +kernel
theorem dX0_layMirrors_43 : decode cX0_layMirrors 43 = .ok (.iload 6, 2) := by decide +kernel
theorem dX0_layMirrors_45 : decode cX0_layMirrors 45 = .ok (.ifCond .eq 17, 3) := by decide +kernel
theorem dX0_layMirrors_48 : decode cX0_layMirrors 48 = .ok (.aload_n 0, 1) := by decide +kernel
theorem dX0_layMirrors_49 : decode cX0_layMirrors 49 = .ok (.iload 5, 2) := by decide +kernel
theorem dX0_layMirrors_51 : decode cX0_layMirrors 51 = .ok (.iload_n 2, 1) := by decide +kernel
theorem dX0_layMirrors_52 : decode cX0_layMirrors 52 = .ok (.iadd, 1) := by decide +kernel
theorem dX0_layMirrors_53 : decode cX0_layMirrors 53 = .ok (.iload 4, 2) := by decide +kernel
theorem dX0_layMirrors_55 : decode cX0_layMirrors 55 = .ok (.iload_n 3, 1) := by decide +kernel
theorem dX0_layMirrors_56 : decode cX0_layMirrors 56 = .ok (.iadd, 1) := by decide +kernel
theorem dX0_layMirrors_57 : decode cX0_layMirrors 57 = .ok (.iload 6, 2) := by decide +kernel
theorem dX0_layMirrors_59 : decode cX0_layMirrors 59 = .ok (.invokevirtual 64, 3) := by decide +kernel
theorem dX0_layMirrors_62 : decode cX0_layMirrors 62 = .ok (.iinc 5 2, 3) := by decide +kernel
theorem dX0_layMirrors_65 : decode cX0_layMirrors 65 = .ok (.goto (-43), 3) := by decide +kernel
theorem dX0_layMirrors_68 : decode cX0_layMirrors 68 = .ok (.iinc 4 1, 3) := by decide +kernel
theorem dX0_layMirrors_71 : decode cX0_layMirrors 71 = .ok (.goto (-68), 3) := by decide +kernel
theorem dX0_layMirrors_74 : decode cX0_layMirrors 74 = .ok (.return_, 1) := by decide +kernel
theorem dX1_init_0 : decode cX1_init 0 = .ok (.aload_n 0, 1) := by decide +kernel
theorem dX1_init_1 : decode cX1_init 1 = .ok (.invokespecial 3, 3) := by decide +kernel
theorem dX1_init_4 : decode cX1_init 4 = .ok (.aload_n 0, 1) := by decide +kernel
theorem dX1_init_5 : decode cX1_init 5 = .ok (.sipush 128, 3) := by decide +kernel
theorem dX1_init_8 : decode cX1_init 8 = .ok (.newarray .int, 2) := by decide +kernel
theorem dX1_init_10 : decode cX1_init 10 = .ok (.putfield 9, 3) := by decide +kernel
theorem dX1_init_13 : decode cX1_init 13 = .ok (.aload_n 0, 1) := by decide +kernel
theorem dX1_init_14 : decode cX1_init 14 = .ok (.sipush 128, 3) := by decide +kernel
theorem dX1_init_17 : decode cX1_init 17 = .ok (.newarray .int, 2) := by decide +kernel
theorem dX1_init_19 : decode cX1_init 19 = .ok (.putfield 15, 3) := by decide +kernel
theorem dX1_init_22 : decode cX1_init 22 = .ok (.aload_n 0, 1) := by decide +kernel
theorem dX1_init_23 : decode cX1_init 23 = .ok (.sipush 256, 3) := by decide +kernel
theorem dX1_init_26 : decode cX1_init 26 = .ok (.newarray .int, 2) := by decide +kernel
theorem dX1_init_28 : decode cX1_init 28 = .ok (.putfield 18, 3) := by decide +kernel
theorem dX1_init_31 : decode cX1_init 31 = .ok (.return_, 1) := by decide +kernel
theorem dX1_choose_0 : decode cX1_choose 0 = .ok (.aload_n 0, 1) := by decide +kernel
theorem dX1_choose_1 : decode cX1_choose 1 = .ok (.iconst 0, 1) := by decide +kernel
theorem dX1_choose_2 : decode cX1_choose 2 = .ok (.putfield 21, 3) := by decide +kernel
theorem dX1_choose_5 : decode cX1_choose 5 = .ok (.iconst 0, 1) := by decide +kernel
theorem dX1_choose_6 : decode cX1_choose 6 = .ok (.istore 4, 2) := by decide +kernel
theorem dX1_choose_8 : decode cX1_choose 8 = .ok (.iload 4, 2) := by decide +kernel
theorem dX1_choose_10 : decode cX1_choose 10 = .ok (.sipush 256, 3) := by decide +kernel
theorem dX1_choose_13 : decode cX1_choose 13 = .ok (.if_icmp .ge 18, 3) := by decide +kernel
theorem dX1_choose_16 : decode cX1_choose 16 = .ok (.aload_n 0, 1) := by decide +kernel
theorem dX1_choose_17 : decode cX1_choose 17 = .ok (.getfield 18, 3) := by decide +kernel
theorem dX1_choose_20 : decode cX1_choose 20 = .ok (.iload 4, 2) := by decide +kernel
theorem dX1_choose_22 : decode cX1_choose 22 = .ok (.iload 4, 2) := by decide +kernel
theorem dX1_choose_24 : decode cX1_choose 24 = .ok (.iastore, 1) := by decide +kernel
theorem dX1_choose_25 : decode cX1_choose 25 = .ok (.iinc 4 1, 3) := by decide +kernel
theorem dX1_choose_28 : decode cX1_choose 28 = .ok (.goto (-20), 3) := by decide +kernel
theorem dX1_choose_31 : decode cX1_choose 31 = .ok (.iconst 1, 1) := by decide +kernel
theorem dX1_choose_32 : decode cX1_choose 32 = .ok (.istore 4, 2) := by decide +kernel
theorem dX1_choose_34 : decode cX1_choose 34 = .ok (.iload 4, 2) := by decide +kernel
theorem dX1_choose_36 : decode cX1_choose 36 = .ok (.iconst 2, 1) := by decide +kernel
theorem dX1_choose_37 : decode cX1_choose 37 = .ok (.aload_n 1, 1) := by decide +kernel
theorem dX1_choose_38 : decode cX1_choose 38 = .ok (.getfield 25, 3) := by decide +kernel
theorem dX1_choose_41 : decode cX1_choose 41 = .ok (.imul, 1) := by decide +kernel
theorem dX1_choose_42 : decode cX1_choose 42 = .ok (.if_icmp .ge 56, 3) := by decide +kernel
theorem dX1_choose_45 : decode cX1_choose 45 = .ok (.iconst 1, 1) := by decide +kernel
theorem dX1_choose_46 : decode cX1_choose 46 = .ok (.iload 4, 2) := by decide +kernel
theorem dX1_choose_48 : decode cX1_choose 48 = .ok (.iconst 1, 1) := by decide +kernel
theorem dX1_choose_49 : decode cX1_choose 49 = .ok (.iand, 1) := by decide +kernel
theorem dX1_choose_50 : decode cX1_choose 50 = .ok (.iadd, 1) := by decide +kernel
theorem dX1_choose_51 : decode cX1_choose 51 = .ok (.istore 5, 2) := by decide +kernel
theorem dX1_choose_53 : decode cX1_choose 53 = .ok (.iload 5, 2) := by decide +kernel
theorem dX1_choose_55 : decode cX1_choose 55 = .ok (.iconst 2, 1) := by decide +kernel
theorem dX1_choose_56 : decode cX1_choose 56 = .ok (.aload_n 1, 1) := by decide +kernel
theorem dX1_choose_57 : decode cX1_choose 57 = .ok (.getfield 30, 3) := by decide +kernel
theorem dX1_choose_60 : decode cX1_choose 60 = .ok (.imul, 1) := by decide +kernel
theorem dX1_choose_61 : decode cX1_choose 61 = .ok (.if_icmp .ge 31, 3) := by decide +kernel
theorem dX1_choose_64 : decode cX1_choose 64 = .ok (.aload_n 2, 1) := by decide +kernel
theorem dX1_choose_65 : decode cX1_choose 65 = .ok (.iload 5, 2) := by decide +kernel
theorem dX1_choose_67 : decode cX1_choose 67 = .ok (.iload 4, 2) := by decide +kernel
theorem dX1_choose_69 : decode cX1_choose 69 = .ok (.invokestatic 33, 3) := by decide +kernel
theorem dX1_choose_72 : decode cX1_choose 72 = .ok (.iaload, 1) := by decide +kernel
theorem dX1_choose_73 : decode cX1_choose 73 = .ok (.ifCond .ne 13, 3) := by decide +kernel
theorem dX1_choose_76 : decode cX1_choose 76 = .ok (.aload_n 0, 1) := by decide +kernel
theorem dX1_choose_77 : decode cX1_choose 77 = .ok (.aload_n 1, 1) := by decide +kernel
theorem dX1_choose_78 : decode cX1_choose 78 = .ok (.aload_n 3, 1) := by decide +kernel
theorem dX1_choose_79 : decode cX1_choose 79 = .ok (.iload 5, 2) := by decide +kernel
theorem dX1_choose_81 : decode cX1_choose 81 = .ok (.iload 4, 2) := by decide +kernel
theorem dX1_choose_83 : decode cX1_choose 83 = .ok (.invokevirtual 37, 3) := by decide +kernel
theorem dX1_choose_86 : decode cX1_choose 86 = .ok (.iinc 5 2, 3) := by decide +kernel
theorem dX1_choose_89 : decode cX1_choose 89 = .ok (.goto (-36), 3) := by decide +kernel
theorem dX1_choose_92 : decode cX1_choose 92 = .ok (.iinc 4 1, 3) := by decide +kernel
theorem dX1_choose_95 : decode cX1_choose 95 = .ok (.goto (-61), 3) := by decide +kernel
theorem dX1_choose_98 : decode cX1_choose 98 = .ok (.return_, 1) := by decide +kernel
theorem dX1_tryPoint_0 : decode cX1_tryPoint 0 = .ok (.iconst 2, 1) := by decide +kernel
theorem dX1_tryPoint_1 : decode cX1_tryPoint 1 = .ok (.aload_n 1, 1) := by decide +kernel
theorem dX1_tryPoint_2 : decode cX1_tryPoint 2 = .ok (.getfield 30, 3) := by decide +kernel
theorem dX1_tryPoint_5 : decode cX1_tryPoint 5 = .ok (.imul, 1) := by decide +kernel
theorem dX1_tryPoint_6 : decode cX1_tryPoint 6 = .ok (.istore 5, 2) := by decide +kernel
theorem dX1_tryPoint_8 : decode cX1_tryPoint 8 = .ok (.iload 5, 2) := by decide +kernel
theorem dX1_tryPoint_10 : decode cX1_tryPoint 10 = .ok (.iload 4, 2) := by decide +kernel
theorem dX1_tryPoint_12 : decode cX1_tryPoint 12 = .ok (.imul, 1) := by decide +kernel
theorem dX1_tryPoint_13 : decode cX1_tryPoint 13 = .ok (.iload_n 3, 1) := by decide +kernel
theorem dX1_tryPoint_14 : decode cX1_tryPoint 14 = .ok (.iadd, 1) := by decide +kernel
theorem dX1_tryPoint_15 : decode cX1_tryPoint 15 = .ok (.istore 6, 2) := by decide +kernel
theorem dX1_tryPoint_17 : decode cX1_tryPoint 17 = .ok (.iload 6, 2) := by decide +kernel
theorem dX1_tryPoint_19 : decode cX1_tryPoint 19 = .ok (.iload 5, 2) := by decide +kernel
theorem dX1_tryPoint_21 : decode cX1_tryPoint 21 = .ok (.isub, 1) := by decide +kernel
theorem dX1_tryPoint_22 : decode cX1_tryPoint 22 = .ok (.istore 7, 2) := by decide +kernel
theorem dX1_tryPoint_24 : decode cX1_tryPoint 24 = .ok (.iload 7, 2) := by decide +kernel
theorem dX1_tryPoint_26 : decode cX1_tryPoint 26 = .ok (.iconst 1, 1) := by decide +kernel
theorem dX1_tryPoint_27 : decode cX1_tryPoint 27 = .ok (.isub, 1) := by decide +kernel
theorem dX1_tryPoint_28 : decode cX1_tryPoint 28 = .ok (.istore 8, 2) := by decide +kernel
theorem dX1_tryPoint_30 : decode cX1_tryPoint 30 = .ok (.aload_n 1, 1) := by decide +kernel
theorem dX1_tryPoint_31 : decode cX1_tryPoint 31 = .ok (.iload_n 3, 1) := by decide +kernel
theorem dX1_tryPoint_32 : decode cX1_tryPoint 32 = .ok (.iload 4, 2) := by decide +kernel
theorem dX1_tryPoint_34 : decode cX1_tryPoint 34 = .ok (.invokevirtual 41, 3) := by decide +kernel
theorem dX1_tryPoint_37 : decode cX1_tryPoint 37 = .ok (.ifCond .ne 7, 3) := by decide +kernel
theorem dX1_tryPoint_40 : decode cX1_tryPoint 40 = .ok (.iconst 1, 1) := by decide +kernel
theorem dX1_tryPoint_41 : decode cX1_tryPoint 41 = .ok (.goto 4, 3) := by decide +kernel
theorem dX1_tryPoint_44 : decode cX1_tryPoint 44 = .ok (.iconst 0, 1) := by decide +kernel
theorem dX1_tryPoint_45 : decode cX1_tryPoint 45 = .ok (.istore 9, 2) := by decide +kernel
theorem dX1_tryPoint_47 : decode cX1_tryPoint 47 = .ok (.aload_n 2, 1) := by decide +kernel
theorem dX1_tryPoint_48 : decode cX1_tryPoint 48 = .ok (.iload 8, 2) := by decide +kernel
theorem dX1_tryPoint_50 : decode cX1_tryPoint 50 = .ok (.invokevirtual 44, 3) := by decide +kernel
theorem dX1_tryPoint_53 : decode cX1_tryPoint 53 = .ok (.istore 10, 2) := by decide +kernel
theorem dX1_tryPoint_55 : decode cX1_tryPoint 55 = .ok (.aload_n 2, 1) := by decide +kernel
theorem dX1_tryPoint_56 : decode cX1_tryPoint 56 = .ok (.iload 9, 2) := by decide +kernel
theorem dX1_tryPoint_58 : decode cX1_tryPoint 58 = .ok (.ifCond .eq 8, 3) := by decide +kernel
theorem dX1_tryPoint_61 : decode cX1_tryPoint 61 = .ok (.iload 7, 2) := by decide +kernel
theorem dX1_tryPoint_63 : decode cX1_tryPoint 63 = .ok (.goto 5, 3) := by decide +kernel
theorem dX1_tryPoint_66 : decode cX1_tryPoint 66 = .ok (.iload 6, 2) := by decide +kernel
theorem dX1_tryPoint_68 : decode cX1_tryPoint 68 = .ok (.invokevirtual 44, 3) := by decide +kernel
theorem dX1_tryPoint_71 : decode cX1_tryPoint 71 = .ok (.istore 11, 2) := by decide +kernel
theorem dX1_tryPoint_73 : decode cX1_tryPoint 73 = .ok (.iload 10, 2) := by decide +kernel
theorem dX1_tryPoint_75 : decode cX1_tryPoint 75 = .ok (.ifCond .lt 18, 3) := by decide +kernel
theorem dX1_tryPoint_78 : decode cX1_tryPoint 78 = .ok (.iload 11, 2) := by decide +kernel
theorem dX1_tryPoint_80 : decode cX1_tryPoint 80 = .ok (.ifCond .lt 13, 3) := by decide +kernel
theorem dX1_tryPoint_83 : decode cX1_tryPoint 83 = .ok (.aload_n 0, 1) := by decide +kernel
theorem dX1_tryPoint_84 : decode cX1_tryPoint 84 = .ok (.getfield 21, 3) := by decide +kernel
theorem dX1_tryPoint_87 : decode cX1_tryPoint 87 = .ok (.sipush 128, 3) := by decide +kernel
theorem dX1_tryPoint_90 : decode cX1_tryPoint 90 = .ok (.if_icmp .lt 4, 3) := by decide +kernel
theorem dX1_tryPoint_93 : decode cX1_tryPoint 93 = .ok (.return_, 1) := by decide +kernel
theorem dX1_tryPoint_94 : decode cX1_tryPoint 94 = .ok (.aload_n 0, 1) := by decide +kernel
theorem dX1_tryPoint_95 : decode cX1_tryPoint 95 = .ok (.getfield 18, 3) := by decide +kernel
theorem dX1_tryPoint_98 : decode cX1_tryPoint 98 = .ok (.iload 10, 2) := by decide +kernel
theorem dX1_tryPoint_100 : decode cX1_tryPoint 100 = .ok (.iaload, 1) := by decide +kernel
theorem dX1_tryPoint_101 : decode cX1_tryPoint 101 = .ok (.aload_n 0, 1) := by decide +kernel
theorem dX1_tryPoint_102 : decode cX1_tryPoint 102 = .ok (.getfield 18, 3) := by decide +kernel
theorem dX1_tryPoint_105 : decode cX1_tryPoint 105 = .ok (.iload 11, 2) := by decide +kernel
theorem dX1_tryPoint_107 : decode cX1_tryPoint 107 = .ok (.iaload, 1) := by decide +kernel
theorem dX1_tryPoint_108 : decode cX1_tryPoint 108 = .ok (.if_icmp .eq 52, 3) := by decide +kernel
theorem dX1_tryPoint_111 : decode cX1_tryPoint 111 = .ok (.aload_n 0, 1) := by decide +kernel
theorem dX1_tryPoint_112 : decode cX1_tryPoint 112 = .ok (.aload_n 0, 1) := by decide +kernel
theorem dX1_tryPoint_113 : decode cX1_tryPoint 113 = .ok (.getfield 18, 3) := by decide +kernel
theorem dX1_tryPoint_116 : decode cX1_tryPoint 116 = .ok (.iload 10, 2) := by decide +kernel
theorem dX1_tryPoint_118 : decode cX1_tryPoint 118 = .ok (.iaload, 1) := by decide +kernel
theorem dX1_tryPoint_119 : decode cX1_tryPoint 119 = .ok (.aload_n 0, 1) := by decide +kernel
theorem dX1_tryPoint_120 : decode cX1_tryPoint 120 = .ok (.getfield 18, 3) := by decide +kernel
theorem dX1_tryPoint_123 : decode cX1_tryPoint 123 = .ok (.iload 11, 2) := by decide +kernel
theorem dX1_tryPoint_125 : decode cX1_tryPoint 125 = .ok (.iaload, 1) := by decide +kernel
theorem dX1_tryPoint_126 : decode cX1_tryPoint 126 = .ok (.invokevirtual 50, 3) := by decide +kernel
theorem dX1_tryPoint_129 : decode cX1_tryPoint 129 = .ok (.aload_n 0, 1) := by decide +kernel
theorem dX1_tryPoint_130 : decode cX1_tryPoint 130 = .ok (.getfield 9, 3) := by decide +kernel
theorem dX1_tryPoint_133 : decode cX1_tryPoint 133 = .ok (.aload_n 0, 1) := by decide +kernel
theorem dX1_tryPoint_134 : decode cX1_tryPoint 134 = .ok (.getfield 21, 3) := by decide +kernel
theorem dX1_tryPoint_137 : decode cX1_tryPoint 137 = .ok (.iload_n 3, 1) := by decide +kernel
theorem dX1_tryPoint_138 : decode cX1_tryPoint 138 = .ok (.iastore, 1) := by decide +kernel
theorem dX1_tryPoint_139 : decode cX1_tryPoint 139 = .ok (.aload_n 0, 1) := by decide +kernel
theorem dX1_tryPoint_140 : decode cX1_tryPoint 140 = .ok (.getfield 15, 3) := by decide +kernel
theorem dX1_tryPoint_143 : decode cX1_tryPoint 143 = .ok (.aload_n 0, 1) := by decide +kernel
theorem dX1_tryPoint_144 : decode cX1_tryPoint 144 = .ok (.getfield 21, 3) := by decide +kernel
theorem dX1_tryPoint_147 : decode cX1_tryPoint 147 = .ok (.iload 4, 2) := by decide +kernel
theorem dX1_tryPoint_149 : decode cX1_tryPoint 149 = .ok (.iastore, 1) := by decide +kernel
theorem dX1_tryPoint_150 : decode cX1_tryPoint 150 = .ok (.aload_n 0, 1) := by decide +kernel
theorem dX1_tryPoint_151 : decode cX1_tryPoint 151 = .ok (.dup, 1) := by decide +kernel
theorem dX1_tryPoint_152 : decode cX1_tryPoint 152 = .ok (.getfield 21, 3) := by decide +kernel
theorem dX1_tryPoint_155 : decode cX1_tryPoint 155 = .ok (.iconst 1, 1) := by decide +kernel
theorem dX1_tryPoint_156 : decode cX1_tryPoint 156 = .ok (.iadd, 1) := by decide +kernel
theorem dX1_tryPoint_157 : decode cX1_tryPoint 157 = .ok (.putfield 21, 3) := by decide +kernel
theorem dX1_tryPoint_160 : decode cX1_tryPoint 160 = .ok (.return_, 1) := by decide +kernel
theorem dX1_unite_0 : decode cX1_unite 0 = .ok (.iconst 0, 1) := by decide +kernel
theorem dX1_unite_1 : decode cX1_unite 1 = .ok (.istore_n 3, 1) := by decide +kernel
theorem dX1_unite_2 : decode cX1_unite 2 = .ok (.iload_n 3, 1) := by decide +kernel
theorem dX1_unite_3 : decode cX1_unite 3 = .ok (.sipush 256, 3) := by decide +kernel
theorem dX1_unite_6 : decode cX1_unite 6 = .ok (.if_icmp .ge 26, 3) := by decide +kernel
theorem dX1_unite_9 : decode cX1_unite 9 = .ok (.aload_n 0, 1) := by decide +kernel
theorem dX1_unite_10 : decode cX1_unite 10 = .ok (.getfield 18, 3) := by decide +kernel
theorem dX1_unite_13 : decode cX1_unite 13 = .ok (.iload_n 3, 1) := by decide +kernel
theorem dX1_unite_14 : decode cX1_unite 14 = .ok (.iaload, 1) := by decide +kernel
theorem dX1_unite_15 : decode cX1_unite 15 = .ok (.iload_n 2, 1) := by decide +kernel
theorem dX1_unite_16 : decode cX1_unite 16 = .ok (.if_icmp .ne 10, 3) := by decide +kernel
theorem dX1_unite_19 : decode cX1_unite 19 = .ok (.aload_n 0, 1) := by decide +kernel
theorem dX1_unite_20 : decode cX1_unite 20 = .ok (.getfield 18, 3) := by decide +kernel
theorem dX1_unite_23 : decode cX1_unite 23 = .ok (.iload_n 3, 1) := by decide +kernel
theorem dX1_unite_24 : decode cX1_unite 24 = .ok (.iload_n 1, 1) := by decide +kernel
theorem dX1_unite_25 : decode cX1_unite 25 = .ok (.iastore, 1) := by decide +kernel
theorem dX1_unite_26 : decode cX1_unite 26 = .ok (.iinc 3 1, 3) := by decide +kernel
theorem dX1_unite_29 : decode cX1_unite 29 = .ok (.goto (-27), 3) := by decide +kernel
theorem dX1_unite_32 : decode cX1_unite 32 = .ok (.return_, 1) := by decide +kernel
theorem dX1_columnOf_0 : decode cX1_columnOf 0 = .ok (.iload_n 1, 1) := by decide +kernel
theorem dX1_columnOf_1 : decode cX1_columnOf 1 = .ok (.ifCond .lt 20, 3) := by decide +kernel
theorem dX1_columnOf_4 : decode cX1_columnOf 4 = .ok (.iload_n 1, 1) := by decide +kernel
theorem dX1_columnOf_5 : decode cX1_columnOf 5 = .ok (.aload_n 0, 1) := by decide +kernel
theorem dX1_columnOf_6 : decode cX1_columnOf 6 = .ok (.getfield 21, 3) := by decide +kernel
theorem dX1_columnOf_9 : decode cX1_columnOf 9 = .ok (.if_icmp .ge 12, 3) := by decide +kernel
theorem dX1_columnOf_12 : decode cX1_columnOf 12 = .ok (.aload_n 0, 1) := by decide +kernel
theorem dX1_columnOf_13 : decode cX1_columnOf 13 = .ok (.getfield 9, 3) := by decide +kernel
theorem dX1_columnOf_16 : decode cX1_columnOf 16 = .ok (.iload_n 1, 1) := by decide +kernel
theorem dX1_columnOf_17 : decode cX1_columnOf 17 = .ok (.iaload, 1) := by decide +kernel
theorem dX1_columnOf_18 : decode cX1_columnOf 18 = .ok (.goto 4, 3) := by decide +kernel
theorem dX1_columnOf_21 : decode cX1_columnOf 21 = .ok (.iconst (-1), 1) := by decide +kernel
theorem dX1_columnOf_22 : decode cX1_columnOf 22 = .ok (.ireturn, 1) := by decide +kernel
theorem dX1_rowOf_0 : decode cX1_rowOf 0 = .ok (.iload_n 1, 1) := by decide +kernel
theorem dX1_rowOf_1 : decode cX1_rowOf 1 = .ok (.ifCond .lt 20, 3) := by decide +kernel
theorem dX1_rowOf_4 : decode cX1_rowOf 4 = .ok (.iload_n 1, 1) := by decide +kernel
theorem dX1_rowOf_5 : decode cX1_rowOf 5 = .ok (.aload_n 0, 1) := by decide +kernel
theorem dX1_rowOf_6 : decode cX1_rowOf 6 = .ok (.getfield 21, 3) := by decide +kernel
theorem dX1_rowOf_9 : decode cX1_rowOf 9 = .ok (.if_icmp .ge 12, 3) := by decide +kernel
theorem dX1_rowOf_12 : decode cX1_rowOf 12 = .ok (.aload_n 0, 1) := by decide +kernel
theorem dX1_rowOf_13 : decode cX1_rowOf 13 = .ok (.getfield 15, 3) := by decide +kernel
theorem dX1_rowOf_16 : decode cX1_rowOf 16 = .ok (.iload_n 1, 1) := by decide +kernel
theorem dX1_rowOf_17 : decode cX1_rowOf 17 = .ok (.iaload, 1) := by decide +kernel
theorem dX1_rowOf_18 : decode cX1_rowOf 18 = .ok (.goto 4, 3) := by decide +kernel
theorem dX1_rowOf_21 : decode cX1_rowOf 21 = .ok (.iconst (-1), 1) := by decide +kernel
theorem dX1_rowOf_22 : decode cX1_rowOf 22 = .ok (.ireturn, 1) := by decide +kernel
theorem dX2_init_0 : decode cX2_init 0 = .ok (.aload_n 0, 1) := by decide +kernel
theorem dX2_init_1 : decode cX2_init 1 = .ok (.invokespecial 3, 3) := by decide +kernel
theorem dX2_init_4 : decode cX2_init 4 = .ok (.aload_n 0, 1) := by decide +kernel
theorem dX2_init_5 : decode cX2_init 5 = .ok (.sipush 256, 3) := by decide +kernel
theorem dX2_init_8 : decode cX2_init 8 = .ok (.newarray .int, 2) := by decide +kernel
theorem dX2_init_10 : decode cX2_init 10 = .ok (.putfield 9, 3) := by decide +kernel
theorem dX2_init_13 : decode cX2_init 13 = .ok (.aload_n 0, 1) := by decide +kernel
theorem dX2_init_14 : decode cX2_init 14 = .ok (.sipush 256, 3) := by decide +kernel
theorem dX2_init_17 : decode cX2_init 17 = .ok (.newarray .int, 2) := by decide +kernel
theorem dX2_init_19 : decode cX2_init 19 = .ok (.putfield 15, 3) := by decide +kernel
theorem dX2_init_22 : decode cX2_init 22 = .ok (.aload_n 0, 1) := by decide +kernel
theorem dX2_init_23 : decode cX2_init 23 = .ok (.sipush 256, 3) := by decide +kernel
theorem dX2_init_26 : decode cX2_init 26 = .ok (.newarray .int, 2) := by decide +kernel
theorem dX2_init_28 : decode cX2_init 28 = .ok (.putfield 18, 3) := by decide +kernel
theorem dX2_init_31 : decode cX2_init 31 = .ok (.aload_n 0, 1) := by decide +kernel
theorem dX2_init_32 : decode cX2_init 32 = .ok (.sipush 257, 3) := by decide +kernel
theorem dX2_init_35 : decode cX2_init 35 = .ok (.newarray .int, 2) := by decide +kernel
theorem dX2_init_37 : decode cX2_init 37 = .ok (.putfield 21, 3) := by decide +kernel
theorem dX2_init_40 : decode cX2_init 40 = .ok (.return_, 1) := by decide +kernel
theorem dX2_findAll_0 : decode cX2_findAll 0 = .ok (.aload_n 0, 1) := by decide +kernel
theorem dX2_findAll_1 : decode cX2_findAll 1 = .ok (.getfield 9, 3) := by decide +kernel
theorem dX2_findAll_4 : decode cX2_findAll 4 = .ok (.iconst (-1), 1) := by decide +kernel
theorem dX2_findAll_5 : decode cX2_findAll 5 = .ok (.invokestatic 24, 3) := by decide +kernel
theorem dX2_findAll_8 : decode cX2_findAll 8 = .ok (.aload_n 0, 1) := by decide +kernel
theorem dX2_findAll_9 : decode cX2_findAll 9 = .ok (.iconst 0, 1) := by decide +kernel
theorem dX2_findAll_10 : decode cX2_findAll 10 = .ok (.putfield 30, 3) := by decide +kernel
theorem dX2_findAll_13 : decode cX2_findAll 13 = .ok (.aload_n 0, 1) := by decide +kernel
theorem dX2_findAll_14 : decode cX2_findAll 14 = .ok (.getfield 21, 3) := by decide +kernel
theorem dX2_findAll_17 : decode cX2_findAll 17 = .ok (.iconst 0, 1) := by decide +kernel
theorem dX2_findAll_18 : decode cX2_findAll 18 = .ok (.iconst 0, 1) := by decide +kernel
theorem dX2_findAll_19 : decode cX2_findAll 19 = .ok (.iastore, 1) := by decide +kernel
theorem dX2_findAll_20 : decode cX2_findAll 20 = .ok (.iconst 0, 1) := by decide +kernel
theorem dX2_findAll_21 : decode cX2_findAll 21 = .ok (.istore_n 2, 1) := by decide +kernel
theorem dX2_findAll_22 : decode cX2_findAll 22 = .ok (.iload_n 2, 1) := by decide +kernel
theorem dX2_findAll_23 : decode cX2_findAll 23 = .ok (.iconst 2, 1) := by decide +kernel
theorem dX2_findAll_24 : decode cX2_findAll 24 = .ok (.aload_n 1, 1) := by decide +kernel
theorem dX2_findAll_25 : decode cX2_findAll 25 = .ok (.getfield 34, 3) := by decide +kernel
theorem dX2_findAll_28 : decode cX2_findAll 28 = .ok (.imul, 1) := by decide +kernel
theorem dX2_findAll_29 : decode cX2_findAll 29 = .ok (.if_icmp .ge 52, 3) := by decide +kernel
theorem dX2_findAll_32 : decode cX2_findAll 32 = .ok (.iconst 0, 1) := by decide +kernel
theorem dX2_findAll_33 : decode cX2_findAll 33 = .ok (.istore_n 3, 1) := by decide +kernel
theorem dX2_findAll_34 : decode cX2_findAll 34 = .ok (.iload_n 3, 1) := by decide +kernel
theorem dX2_findAll_35 : decode cX2_findAll 35 = .ok (.iconst 2, 1) := by decide +kernel
theorem dX2_findAll_36 : decode cX2_findAll 36 = .ok (.aload_n 1, 1) := by decide +kernel
theorem dX2_findAll_37 : decode cX2_findAll 37 = .ok (.getfield 39, 3) := by decide +kernel
theorem dX2_findAll_40 : decode cX2_findAll 40 = .ok (.imul, 1) := by decide +kernel
theorem dX2_findAll_41 : decode cX2_findAll 41 = .ok (.if_icmp .ge 34, 3) := by decide +kernel
theorem dX2_findAll_44 : decode cX2_findAll 44 = .ok (.aload_n 0, 1) := by decide +kernel
theorem dX2_findAll_45 : decode cX2_findAll 45 = .ok (.iconst 2, 1) := by decide +kernel
theorem dX2_findAll_46 : decode cX2_findAll 46 = .ok (.aload_n 1, 1) := by decide +kernel
theorem dX2_findAll_47 : decode cX2_findAll 47 = .ok (.getfield 39, 3) := by decide +kernel
theorem dX2_findAll_50 : decode cX2_findAll 50 = .ok (.imul, 1) := by decide +kernel
theorem dX2_findAll_51 : decode cX2_findAll 51 = .ok (.iload_n 2, 1) := by decide +kernel
theorem dX2_findAll_52 : decode cX2_findAll 52 = .ok (.imul, 1) := by decide +kernel
theorem dX2_findAll_53 : decode cX2_findAll 53 = .ok (.iload_n 3, 1) := by decide +kernel
theorem dX2_findAll_54 : decode cX2_findAll 54 = .ok (.iadd, 1) := by decide +kernel
theorem dX2_findAll_55 : decode cX2_findAll 55 = .ok (.invokevirtual 42, 3) := by decide +kernel
theorem dX2_findAll_58 : decode cX2_findAll 58 = .ok (.iconst (-1), 1) := by decide +kernel
theorem dX2_findAll_59 : decode cX2_findAll 59 = .ok (.if_icmp .ne 10, 3) := by decide +kernel
theorem dX2_findAll_62 : decode cX2_findAll 62 = .ok (.aload_n 0, 1) := by decide +kernel
theorem dX2_findAll_63 : decode cX2_findAll 63 = .ok (.aload_n 1, 1) := by decide +kernel
theorem dX2_findAll_64 : decode cX2_findAll 64 = .ok (.iload_n 3, 1) := by decide +kernel
theorem dX2_findAll_65 : decode cX2_findAll 65 = .ok (.iload_n 2, 1) := by decide +kernel
theorem dX2_findAll_66 : decode cX2_findAll 66 = .ok (.invokevirtual 46, 3) := by decide +kernel
theorem dX2_findAll_69 : decode cX2_findAll 69 = .ok (.iinc 3 1, 3) := by decide +kernel
theorem dX2_findAll_72 : decode cX2_findAll 72 = .ok (.goto (-38), 3) := by decide +kernel
theorem dX2_findAll_75 : decode cX2_findAll 75 = .ok (.iinc 2 1, 3) := by decide +kernel
theorem dX2_findAll_78 : decode cX2_findAll 78 = .ok (.goto (-56), 3) := by decide +kernel
theorem dX2_findAll_81 : decode cX2_findAll 81 = .ok (.return_, 1) := by decide +kernel
theorem dX2_follow_0 : decode cX2_follow 0 = .ok (.aload_n 0, 1) := by decide +kernel
theorem dX2_follow_1 : decode cX2_follow 1 = .ok (.getfield 21, 3) := by decide +kernel
theorem dX2_follow_4 : decode cX2_follow 4 = .ok (.aload_n 0, 1) := by decide +kernel
theorem dX2_follow_5 : decode cX2_follow 5 = .ok (.getfield 30, 3) := by decide +kernel
theorem dX2_follow_8 : decode cX2_follow 8 = .ok (.iaload, 1) := by decide +kernel
theorem dX2_follow_9 : decode cX2_follow 9 = .ok (.istore 4, 2) := by decide +kernel
theorem dX2_follow_11 : decode cX2_follow 11 = .ok (.iload 4, 2) := by decide +kernel
theorem dX2_follow_13 : decode cX2_follow 13 = .ok (.istore 5, 2) := by decide +kernel
theorem dX2_follow_15 : decode cX2_follow 15 = .ok (.iload_n 2, 1) := by decide +kernel
theorem dX2_follow_16 : decode cX2_follow 16 = .ok (.istore 6, 2) := by decide +kernel
theorem dX2_follow_18 : decode cX2_follow 18 = .ok (.iload_n 3, 1) := by decide +kernel
theorem dX2_follow_19 : decode cX2_follow 19 = .ok (.istore 7, 2) := by decide +kernel
theorem dX2_follow_21 : decode cX2_follow 21 = .ok (.iconst 1, 1) := by decide +kernel
theorem dX2_follow_22 : decode cX2_follow 22 = .ok (.istore 8, 2) := by decide +kernel
theorem dX2_follow_24 : decode cX2_follow 24 = .ok (.iload 6, 2) := by decide +kernel
theorem dX2_follow_26 : decode cX2_follow 26 = .ok (.iload 7, 2) := by decide +kernel
theorem dX2_follow_28 : decode cX2_follow 28 = .ok (.iadd, 1) := by decide +kernel
theorem dX2_follow_29 : decode cX2_follow 29 = .ok (.iconst 1, 1) := by decide +kernel
theorem dX2_follow_30 : decode cX2_follow 30 = .ok (.iand, 1) := by decide +kernel
theorem dX2_follow_31 : decode cX2_follow 31 = .ok (.ifCond .ne 7, 3) := by decide +kernel
theorem dX2_follow_34 : decode cX2_follow 34 = .ok (.iconst (-1), 1) := by decide +kernel
theorem dX2_follow_35 : decode cX2_follow 35 = .ok (.goto 4, 3) := by decide +kernel
theorem dX2_follow_38 : decode cX2_follow 38 = .ok (.iconst 1, 1) := by decide +kernel
theorem dX2_follow_39 : decode cX2_follow 39 = .ok (.istore 9, 2) := by decide +kernel
theorem dX2_follow_41 : decode cX2_follow 41 = .ok (.iconst 0, 1) := by decide +kernel
theorem dX2_follow_42 : decode cX2_follow 42 = .ok (.istore 10, 2) := by decide +kernel
theorem dX2_follow_44 : decode cX2_follow 44 = .ok (.iload 10, 2) := by decide +kernel
theorem dX2_follow_46 : decode cX2_follow 46 = .ok (.sipush 256, 3) := by decide +kernel
theorem dX2_follow_49 : decode cX2_follow 49 = .ok (.if_icmp .ge 219, 3) := by decide +kernel
theorem dX2_follow_52 : decode cX2_follow 52 = .ok (.iconst 2, 1) := by decide +kernel
theorem dX2_follow_53 : decode cX2_follow 53 = .ok (.aload_n 1, 1) := by decide +kernel
theorem dX2_follow_54 : decode cX2_follow 54 = .ok (.getfield 39, 3) := by decide +kernel
theorem dX2_follow_57 : decode cX2_follow 57 = .ok (.imul, 1) := by decide +kernel
theorem dX2_follow_58 : decode cX2_follow 58 = .ok (.iload 7, 2) := by decide +kernel
theorem dX2_follow_60 : decode cX2_follow 60 = .ok (.imul, 1) := by decide +kernel
theorem dX2_follow_61 : decode cX2_follow 61 = .ok (.iload 6, 2) := by decide +kernel
theorem dX2_follow_63 : decode cX2_follow 63 = .ok (.iadd, 1) := by decide +kernel
theorem dX2_follow_64 : decode cX2_follow 64 = .ok (.istore 11, 2) := by decide +kernel
theorem dX2_follow_66 : decode cX2_follow 66 = .ok (.aload_n 1, 1) := by decide +kernel
theorem dX2_follow_67 : decode cX2_follow 67 = .ok (.iload 11, 2) := by decide +kernel
theorem dX2_follow_69 : decode cX2_follow 69 = .ok (.invokevirtual 50, 3) := by decide +kernel
theorem dX2_follow_72 : decode cX2_follow 72 = .ok (.ifCond .eq 196, 3) := by decide +kernel
theorem dX2_follow_75 : decode cX2_follow 75 = .ok (.aload_n 0, 1) := by decide +kernel
theorem dX2_follow_76 : decode cX2_follow 76 = .ok (.iload 11, 2) := by decide +kernel
theorem dX2_follow_78 : decode cX2_follow 78 = .ok (.invokevirtual 42, 3) := by decide +kernel
theorem dX2_follow_81 : decode cX2_follow 81 = .ok (.iconst (-1), 1) := by decide +kernel
theorem dX2_follow_82 : decode cX2_follow 82 = .ok (.if_icmp .ne 186, 3) := by decide +kernel
theorem dX2_follow_85 : decode cX2_follow 85 = .ok (.iload 5, 2) := by decide +kernel
theorem dX2_follow_87 : decode cX2_follow 87 = .ok (.sipush 256, 3) := by decide +kernel
theorem dX2_follow_90 : decode cX2_follow 90 = .ok (.if_icmp .lt 6, 3) := by decide +kernel
theorem dX2_follow_93 : decode cX2_follow 93 = .ok (.goto 175, 3) := by decide +kernel
theorem dX2_follow_96 : decode cX2_follow 96 = .ok (.aload_n 0, 1) := by decide +kernel
theorem dX2_follow_97 : decode cX2_follow 97 = .ok (.getfield 9, 3) := by decide +kernel
theorem dX2_follow_100 : decode cX2_follow 100 = .ok (.iload 11, 2) := by decide +kernel
theorem dX2_follow_102 : decode cX2_follow 102 = .ok (.aload_n 0, 1) := by decide +kernel
theorem dX2_follow_103 : decode cX2_follow 103 = .ok (.getfield 30, 3) := by decide +kernel
theorem dX2_follow_106 : decode cX2_follow 106 = .ok (.iastore, 1) := by decide +kernel
theorem dX2_follow_107 : decode cX2_follow 107 = .ok (.aload_n 0, 1) := by decide +kernel
theorem dX2_follow_108 : decode cX2_follow 108 = .ok (.getfield 15, 3) := by decide +kernel
theorem dX2_follow_111 : decode cX2_follow 111 = .ok (.iload 11, 2) := by decide +kernel
theorem dX2_follow_113 : decode cX2_follow 113 = .ok (.iload 5, 2) := by decide +kernel
theorem dX2_follow_115 : decode cX2_follow 115 = .ok (.iload 4, 2) := by decide +kernel
theorem dX2_follow_117 : decode cX2_follow 117 = .ok (.isub, 1) := by decide +kernel
theorem dX2_follow_118 : decode cX2_follow 118 = .ok (.iastore, 1) := by decide +kernel
theorem dX2_follow_119 : decode cX2_follow 119 = .ok (.aload_n 0, 1) := by decide +kernel
theorem dX2_follow_120 : decode cX2_follow 120 = .ok (.getfield 18, 3) := by decide +kernel
theorem dX2_follow_123 : decode cX2_follow 123 = .ok (.iload 5, 2) := by decide +kernel
theorem dX2_follow_125 : decode cX2_follow 125 = .ok (.iload 11, 2) := by decide +kernel
theorem dX2_follow_127 : decode cX2_follow 127 = .ok (.iastore, 1) := by decide +kernel
theorem dX2_follow_128 : decode cX2_follow 128 = .ok (.iinc 5 1, 3) := by decide +kernel
theorem dX2_follow_131 : decode cX2_follow 131 = .ok (.iload 8, 2) := by decide +kernel
theorem dX2_follow_133 : decode cX2_follow 133 = .ok (.ifCond .le 10, 3) := by decide +kernel
theorem dX2_follow_136 : decode cX2_follow 136 = .ok (.iload 6, 2) := by decide +kernel
theorem dX2_follow_138 : decode cX2_follow 138 = .ok (.iconst 1, 1) := by decide +kernel
theorem dX2_follow_139 : decode cX2_follow 139 = .ok (.iadd, 1) := by decide +kernel
theorem dX2_follow_140 : decode cX2_follow 140 = .ok (.goto 5, 3) := by decide +kernel
theorem dX2_follow_143 : decode cX2_follow 143 = .ok (.iload 6, 2) := by decide +kernel
theorem dX2_follow_145 : decode cX2_follow 145 = .ok (.istore 12, 2) := by decide +kernel
theorem dX2_follow_147 : decode cX2_follow 147 = .ok (.iload 9, 2) := by decide +kernel
theorem dX2_follow_149 : decode cX2_follow 149 = .ok (.ifCond .le 10, 3) := by decide +kernel
theorem dX2_follow_152 : decode cX2_follow 152 = .ok (.iload 7, 2) := by decide +kernel
theorem dX2_follow_154 : decode cX2_follow 154 = .ok (.iconst 1, 1) := by decide +kernel
theorem dX2_follow_155 : decode cX2_follow 155 = .ok (.iadd, 1) := by decide +kernel
theorem dX2_follow_156 : decode cX2_follow 156 = .ok (.goto 5, 3) := by decide +kernel
theorem dX2_follow_159 : decode cX2_follow 159 = .ok (.iload 7, 2) := by decide +kernel
theorem dX2_follow_161 : decode cX2_follow 161 = .ok (.istore 13, 2) := by decide +kernel
theorem dX2_follow_163 : decode cX2_follow 163 = .ok (.aload_n 1, 1) := by decide +kernel
theorem dX2_follow_164 : decode cX2_follow 164 = .ok (.iload 12, 2) := by decide +kernel
theorem dX2_follow_166 : decode cX2_follow 166 = .ok (.iload 13, 2) := by decide +kernel
theorem dX2_follow_168 : decode cX2_follow 168 = .ok (.invokevirtual 54, 3) := by decide +kernel
theorem dX2_follow_171 : decode cX2_follow 171 = .ok (.istore 14, 2) := by decide +kernel
theorem dX2_follow_173 : decode cX2_follow 173 = .ok (.iload 12, 2) := by decide +kernel
theorem dX2_follow_175 : decode cX2_follow 175 = .ok (.ifCond .eq 20, 3) := by decide +kernel
theorem dX2_follow_178 : decode cX2_follow 178 = .ok (.iload 12, 2) := by decide +kernel
theorem dX2_follow_180 : decode cX2_follow 180 = .ok (.iconst 2, 1) := by decide +kernel
theorem dX2_follow_181 : decode cX2_follow 181 = .ok (.aload_n 1, 1) := by decide +kernel
theorem dX2_follow_182 : decode cX2_follow 182 = .ok (.getfield 39, 3) := by decide +kernel
theorem dX2_follow_185 : decode cX2_follow 185 = .ok (.imul, 1) := by decide +kernel
theorem dX2_follow_186 : decode cX2_follow 186 = .ok (.if_icmp .eq 9, 3) := by decide +kernel
theorem dX2_follow_189 : decode cX2_follow 189 = .ok (.iload 14, 2) := by decide +kernel
theorem dX2_follow_191 : decode cX2_follow 191 = .ok (.iconst 1, 1) := by decide +kernel
theorem dX2_follow_192 : decode cX2_follow 192 = .ok (.if_icmp .ne 11, 3) := by decide +kernel
theorem dX2_follow_195 : decode cX2_follow 195 = .ok (.iload 8, 2) := by decide +kernel
theorem dX2_follow_197 : decode cX2_follow 197 = .ok (.ineg, 1) := by decide +kernel
theorem dX2_follow_198 : decode cX2_follow 198 = .ok (.istore 8, 2) := by decide +kernel
theorem dX2_follow_200 : decode cX2_follow 200 = .ok (.goto 30, 3) := by decide +kernel
theorem dX2_follow_203 : decode cX2_follow 203 = .ok (.iload 13, 2) := by decide +kernel
theorem dX2_follow_205 : decode cX2_follow 205 = .ok (.ifCond .eq 20, 3) := by decide +kernel
theorem dX2_follow_208 : decode cX2_follow 208 = .ok (.iload 13, 2) := by decide +kernel
theorem dX2_follow_210 : decode cX2_follow 210 = .ok (.iconst 2, 1) := by decide +kernel
theorem dX2_follow_211 : decode cX2_follow 211 = .ok (.aload_n 1, 1) := by decide +kernel
theorem dX2_follow_212 : decode cX2_follow 212 = .ok (.getfield 34, 3) := by decide +kernel
theorem dX2_follow_215 : decode cX2_follow 215 = .ok (.imul, 1) := by decide +kernel
theorem dX2_follow_216 : decode cX2_follow 216 = .ok (.if_icmp .eq 9, 3) := by decide +kernel
theorem dX2_follow_219 : decode cX2_follow 219 = .ok (.iload 14, 2) := by decide +kernel
theorem dX2_follow_221 : decode cX2_follow 221 = .ok (.iconst 2, 1) := by decide +kernel
theorem dX2_follow_222 : decode cX2_follow 222 = .ok (.if_icmp .ne 8, 3) := by decide +kernel
theorem dX2_follow_225 : decode cX2_follow 225 = .ok (.iload 9, 2) := by decide +kernel
theorem dX2_follow_227 : decode cX2_follow 227 = .ok (.ineg, 1) := by decide +kernel
theorem dX2_follow_228 : decode cX2_follow 228 = .ok (.istore 9, 2) := by decide +kernel
theorem dX2_follow_230 : decode cX2_follow 230 = .ok (.iload 8, 2) := by decide +kernel
theorem dX2_follow_232 : decode cX2_follow 232 = .ok (.ifCond .le 8, 3) := by decide +kernel
theorem dX2_follow_235 : decode cX2_follow 235 = .ok (.iload 12, 2) := by decide +kernel
theorem dX2_follow_237 : decode cX2_follow 237 = .ok (.goto 7, 3) := by decide +kernel
theorem dX2_follow_240 : decode cX2_follow 240 = .ok (.iload 12, 2) := by decide +kernel
theorem dX2_follow_242 : decode cX2_follow 242 = .ok (.iconst 1, 1) := by decide +kernel
theorem dX2_follow_243 : decode cX2_follow 243 = .ok (.isub, 1) := by decide +kernel
theorem dX2_follow_244 : decode cX2_follow 244 = .ok (.istore 6, 2) := by decide +kernel
theorem dX2_follow_246 : decode cX2_follow 246 = .ok (.iload 9, 2) := by decide +kernel
theorem dX2_follow_248 : decode cX2_follow 248 = .ok (.ifCond .le 8, 3) := by decide +kernel
theorem dX2_follow_251 : decode cX2_follow 251 = .ok (.iload 13, 2) := by decide +kernel
theorem dX2_follow_253 : decode cX2_follow 253 = .ok (.goto 7, 3) := by decide +kernel
theorem dX2_follow_256 : decode cX2_follow 256 = .ok (.iload 13, 2) := by decide +kernel
theorem dX2_follow_258 : decode cX2_follow 258 = .ok (.iconst 1, 1) := by decide +kernel
theorem dX2_follow_259 : decode cX2_follow 259 = .ok (.isub, 1) := by decide +kernel
theorem dX2_follow_260 : decode cX2_follow 260 = .ok (.istore 7, 2) := by decide +kernel
theorem dX2_follow_262 : decode cX2_follow 262 = .ok (.iinc 10 1, 3) := by decide +kernel
theorem dX2_follow_265 : decode cX2_follow 265 = .ok (.goto (-221), 3) := by decide +kernel
theorem dX2_follow_268 : decode cX2_follow 268 = .ok (.aload_n 0, 1) := by decide +kernel
theorem dX2_follow_269 : decode cX2_follow 269 = .ok (.getfield 30, 3) := by decide +kernel
theorem dX2_follow_272 : decode cX2_follow 272 = .ok (.sipush 256, 3) := by decide +kernel
theorem dX2_follow_275 : decode cX2_follow 275 = .ok (.if_icmp .ge 24, 3) := by decide +kernel
theorem dX2_follow_278 : decode cX2_follow 278 = .ok (.aload_n 0, 1) := by decide +kernel
theorem dX2_follow_279 : decode cX2_follow 279 = .ok (.dup, 1) := by decide +kernel
theorem dX2_follow_280 : decode cX2_follow 280 = .ok (.getfield 30, 3) := by decide +kernel
theorem dX2_follow_283 : decode cX2_follow 283 = .ok (.iconst 1, 1) := by decide +kernel
theorem dX2_follow_284 : decode cX2_follow 284 = .ok (.iadd, 1) := by decide +kernel
theorem dX2_follow_285 : decode cX2_follow 285 = .ok (.putfield 30, 3) := by decide +kernel
theorem dX2_follow_288 : decode cX2_follow 288 = .ok (.aload_n 0, 1) := by decide +kernel
theorem dX2_follow_289 : decode cX2_follow 289 = .ok (.getfield 21, 3) := by decide +kernel
theorem dX2_follow_292 : decode cX2_follow 292 = .ok (.aload_n 0, 1) := by decide +kernel
theorem dX2_follow_293 : decode cX2_follow 293 = .ok (.getfield 30, 3) := by decide +kernel
theorem dX2_follow_296 : decode cX2_follow 296 = .ok (.iload 5, 2) := by decide +kernel
theorem dX2_follow_298 : decode cX2_follow 298 = .ok (.iastore, 1) := by decide +kernel
theorem dX2_follow_299 : decode cX2_follow 299 = .ok (.return_, 1) := by decide +kernel
theorem dX2_isLine_0 : decode cX2_isLine 0 = .ok (.iload_n 1, 1) := by decide +kernel
theorem dX2_isLine_1 : decode cX2_isLine 1 = .ok (.ifCond .lt 15, 3) := by decide +kernel
theorem dX2_isLine_4 : decode cX2_isLine 4 = .ok (.iload_n 1, 1) := by decide +kernel
theorem dX2_isLine_5 : decode cX2_isLine 5 = .ok (.aload_n 0, 1) := by decide +kernel
theorem dX2_isLine_6 : decode cX2_isLine 6 = .ok (.getfield 30, 3) := by decide +kernel
theorem dX2_isLine_9 : decode cX2_isLine 9 = .ok (.if_icmp .ge 7, 3) := by decide +kernel
theorem dX2_isLine_12 : decode cX2_isLine 12 = .ok (.iconst 1, 1) := by decide +kernel
theorem dX2_isLine_13 : decode cX2_isLine 13 = .ok (.goto 4, 3) := by decide +kernel
theorem dX2_isLine_16 : decode cX2_isLine 16 = .ok (.iconst 0, 1) := by decide +kernel
theorem dX2_isLine_17 : decode cX2_isLine 17 = .ok (.ireturn, 1) := by decide +kernel
theorem dX2_lineThrough_0 : decode cX2_lineThrough 0 = .ok (.iload_n 1, 1) := by decide +kernel
theorem dX2_lineThrough_1 : decode cX2_lineThrough 1 = .ok (.ifCond .lt 19, 3) := by decide +kernel
theorem dX2_lineThrough_4 : decode cX2_lineThrough 4 = .ok (.iload_n 1, 1) := by decide +kernel
theorem dX2_lineThrough_5 : decode cX2_lineThrough 5 = .ok (.sipush 256, 3) := by decide +kernel
theorem dX2_lineThrough_8 : decode cX2_lineThrough 8 = .ok (.if_icmp .ge 12, 3) := by decide +kernel
theorem dX2_lineThrough_11 : decode cX2_lineThrough 11 = .ok (.aload_n 0, 1) := by decide +kernel
theorem dX2_lineThrough_12 : decode cX2_lineThrough 12 = .ok (.getfield 9, 3) := by decide +kernel
theorem dX2_lineThrough_15 : decode cX2_lineThrough 15 = .ok (.iload_n 1, 1) := by decide +kernel
theorem dX2_lineThrough_16 : decode cX2_lineThrough 16 = .ok (.iaload, 1) := by decide +kernel
theorem dX2_lineThrough_17 : decode cX2_lineThrough 17 = .ok (.goto 4, 3) := by decide +kernel
theorem dX2_lineThrough_20 : decode cX2_lineThrough 20 = .ok (.iconst (-1), 1) := by decide +kernel
theorem dX2_lineThrough_21 : decode cX2_lineThrough 21 = .ok (.ireturn, 1) := by decide +kernel
theorem dX2_placeInWalk_0 : decode cX2_placeInWalk 0 = .ok (.iload_n 1, 1) := by decide +kernel
theorem dX2_placeInWalk_1 : decode cX2_placeInWalk 1 = .ok (.ifCond .lt 19, 3) := by decide +kernel
theorem dX2_placeInWalk_4 : decode cX2_placeInWalk 4 = .ok (.iload_n 1, 1) := by decide +kernel
theorem dX2_placeInWalk_5 : decode cX2_placeInWalk 5 = .ok (.sipush 256, 3) := by decide +kernel
theorem dX2_placeInWalk_8 : decode cX2_placeInWalk 8 = .ok (.if_icmp .ge 12, 3) := by decide +kernel
theorem dX2_placeInWalk_11 : decode cX2_placeInWalk 11 = .ok (.aload_n 0, 1) := by decide +kernel
theorem dX2_placeInWalk_12 : decode cX2_placeInWalk 12 = .ok (.getfield 15, 3) := by decide +kernel
theorem dX2_placeInWalk_15 : decode cX2_placeInWalk 15 = .ok (.iload_n 1, 1) := by decide +kernel
theorem dX2_placeInWalk_16 : decode cX2_placeInWalk 16 = .ok (.iaload, 1) := by decide +kernel
theorem dX2_placeInWalk_17 : decode cX2_placeInWalk 17 = .ok (.goto 4, 3) := by decide +kernel
theorem dX2_placeInWalk_20 : decode cX2_placeInWalk 20 = .ok (.iconst 0, 1) := by decide +kernel
theorem dX2_placeInWalk_21 : decode cX2_placeInWalk 21 = .ok (.ireturn, 1) := by decide +kernel
theorem dX2_lengthOf_0 : decode cX2_lengthOf 0 = .ok (.aload_n 0, 1) := by decide +kernel
theorem dX2_lengthOf_1 : decode cX2_lengthOf 1 = .ok (.iload_n 1, 1) := by decide +kernel
theorem dX2_lengthOf_2 : decode cX2_lengthOf 2 = .ok (.invokevirtual 58, 3) := by decide +kernel
theorem dX2_lengthOf_5 : decode cX2_lengthOf 5 = .ok (.ifCond .eq 21, 3) := by decide +kernel
theorem dX2_lengthOf_8 : decode cX2_lengthOf 8 = .ok (.aload_n 0, 1) := by decide +kernel
theorem dX2_lengthOf_9 : decode cX2_lengthOf 9 = .ok (.getfield 21, 3) := by decide +kernel
theorem dX2_lengthOf_12 : decode cX2_lengthOf 12 = .ok (.iload_n 1, 1) := by decide +kernel
theorem dX2_lengthOf_13 : decode cX2_lengthOf 13 = .ok (.iconst 1, 1) := by decide +kernel
theorem dX2_lengthOf_14 : decode cX2_lengthOf 14 = .ok (.iadd, 1) := by decide +kernel
theorem dX2_lengthOf_15 : decode cX2_lengthOf 15 = .ok (.iaload, 1) := by decide +kernel
theorem dX2_lengthOf_16 : decode cX2_lengthOf 16 = .ok (.aload_n 0, 1) := by decide +kernel
theorem dX2_lengthOf_17 : decode cX2_lengthOf 17 = .ok (.getfield 21, 3) := by decide +kernel
theorem dX2_lengthOf_20 : decode cX2_lengthOf 20 = .ok (.iload_n 1, 1) := by decide +kernel
theorem dX2_lengthOf_21 : decode cX2_lengthOf 21 = .ok (.iaload, 1) := by decide +kernel
theorem dX2_lengthOf_22 : decode cX2_lengthOf 22 = .ok (.isub, 1) := by decide +kernel
theorem dX2_lengthOf_23 : decode cX2_lengthOf 23 = .ok (.goto 4, 3) := by decide +kernel
theorem dX2_lengthOf_26 : decode cX2_lengthOf 26 = .ok (.iconst 0, 1) := by decide +kernel
theorem dX2_lengthOf_27 : decode cX2_lengthOf 27 = .ok (.ireturn, 1) := by decide +kernel
theorem dX2_squareOf_0 : decode cX2_squareOf 0 = .ok (.iload_n 2, 1) := by decide +kernel
theorem dX2_squareOf_1 : decode cX2_squareOf 1 = .ok (.ifCond .lt 28, 3) := by decide +kernel
theorem dX2_squareOf_4 : decode cX2_squareOf 4 = .ok (.iload_n 2, 1) := by decide +kernel
theorem dX2_squareOf_5 : decode cX2_squareOf 5 = .ok (.aload_n 0, 1) := by decide +kernel
theorem dX2_squareOf_6 : decode cX2_squareOf 6 = .ok (.iload_n 1, 1) := by decide +kernel
theorem dX2_squareOf_7 : decode cX2_squareOf 7 = .ok (.invokevirtual 61, 3) := by decide +kernel
theorem dX2_squareOf_10 : decode cX2_squareOf 10 = .ok (.if_icmp .ge 19, 3) := by decide +kernel
theorem dX2_squareOf_13 : decode cX2_squareOf 13 = .ok (.aload_n 0, 1) := by decide +kernel
theorem dX2_squareOf_14 : decode cX2_squareOf 14 = .ok (.getfield 18, 3) := by decide +kernel
theorem dX2_squareOf_17 : decode cX2_squareOf 17 = .ok (.aload_n 0, 1) := by decide +kernel
theorem dX2_squareOf_18 : decode cX2_squareOf 18 = .ok (.getfield 21, 3) := by decide +kernel
theorem dX2_squareOf_21 : decode cX2_squareOf 21 = .ok (.iload_n 1, 1) := by decide +kernel
theorem dX2_squareOf_22 : decode cX2_squareOf 22 = .ok (.iaload, 1) := by decide +kernel
theorem dX2_squareOf_23 : decode cX2_squareOf 23 = .ok (.iload_n 2, 1) := by decide +kernel
theorem dX2_squareOf_24 : decode cX2_squareOf 24 = .ok (.iadd, 1) := by decide +kernel
theorem dX2_squareOf_25 : decode cX2_squareOf 25 = .ok (.iaload, 1) := by decide +kernel
theorem dX2_squareOf_26 : decode cX2_squareOf 26 = .ok (.goto 4, 3) := by decide +kernel
theorem dX2_squareOf_29 : decode cX2_squareOf 29 = .ok (.iconst (-1), 1) := by decide +kernel
theorem dX2_squareOf_30 : decode cX2_squareOf 30 = .ok (.ireturn, 1) := by decide +kernel
theorem dX3_init_0 : decode cX3_init 0 = .ok (.aload_n 0, 1) := by decide +kernel
theorem dX3_init_1 : decode cX3_init 1 = .ok (.invokespecial 3, 3) := by decide +kernel
theorem dX3_init_4 : decode cX3_init 4 = .ok (.aload_n 0, 1) := by decide +kernel
theorem dX3_init_5 : decode cX3_init 5 = .ok (.iconst (-1), 1) := by decide +kernel
theorem dX3_init_6 : decode cX3_init 6 = .ok (.putfield 9, 3) := by decide +kernel
theorem dX3_init_9 : decode cX3_init 9 = .ok (.aload_n 0, 1) := by decide +kernel
theorem dX3_init_10 : decode cX3_init 10 = .ok (.sipush 200, 3) := by decide +kernel
theorem dX3_init_13 : decode cX3_init 13 = .ok (.newarray .int, 2) := by decide +kernel
theorem dX3_init_15 : decode cX3_init 15 = .ok (.putfield 15, 3) := by decide +kernel
theorem dX3_init_18 : decode cX3_init 18 = .ok (.return_, 1) := by decide +kernel
theorem dX3_add_0 : decode cX3_add 0 = .ok (.bipush 24, 2) := by decide +kernel
theorem dX3_add_2 : decode cX3_add 2 = .ok (.istore_n 2, 1) := by decide +kernel
theorem dX3_add_3 : decode cX3_add 3 = .ok (.iload_n 2, 1) := by decide +kernel
theorem dX3_add_4 : decode cX3_add 4 = .ok (.ifCond .lt 52, 3) := by decide +kernel
theorem dX3_add_7 : decode cX3_add 7 = .ok (.aload_n 0, 1) := by decide +kernel
theorem dX3_add_8 : decode cX3_add 8 = .ok (.getfield 19, 3) := by decide +kernel
theorem dX3_add_11 : decode cX3_add 11 = .ok (.ifCond .lt 39, 3) := by decide +kernel
theorem dX3_add_14 : decode cX3_add 14 = .ok (.aload_n 0, 1) := by decide +kernel
theorem dX3_add_15 : decode cX3_add 15 = .ok (.getfield 19, 3) := by decide +kernel
theorem dX3_add_18 : decode cX3_add 18 = .ok (.sipush 200, 3) := by decide +kernel
theorem dX3_add_21 : decode cX3_add 21 = .ok (.if_icmp .ge 29, 3) := by decide +kernel
theorem dX3_add_24 : decode cX3_add 24 = .ok (.aload_n 0, 1) := by decide +kernel
theorem dX3_add_25 : decode cX3_add 25 = .ok (.getfield 15, 3) := by decide +kernel
theorem dX3_add_28 : decode cX3_add 28 = .ok (.aload_n 0, 1) := by decide +kernel
theorem dX3_add_29 : decode cX3_add 29 = .ok (.getfield 19, 3) := by decide +kernel
theorem dX3_add_32 : decode cX3_add 32 = .ok (.iload_n 1, 1) := by decide +kernel
theorem dX3_add_33 : decode cX3_add 33 = .ok (.iload_n 2, 1) := by decide +kernel
theorem dX3_add_34 : decode cX3_add 34 = .ok (.iushr, 1) := by decide +kernel
theorem dX3_add_35 : decode cX3_add 35 = .ok (.sipush 255, 3) := by decide +kernel
theorem dX3_add_38 : decode cX3_add 38 = .ok (.iand, 1) := by decide +kernel
theorem dX3_add_39 : decode cX3_add 39 = .ok (.iastore, 1) := by decide +kernel
theorem dX3_add_40 : decode cX3_add 40 = .ok (.aload_n 0, 1) := by decide +kernel
theorem dX3_add_41 : decode cX3_add 41 = .ok (.dup, 1) := by decide +kernel
theorem dX3_add_42 : decode cX3_add 42 = .ok (.getfield 19, 3) := by decide +kernel
theorem dX3_add_45 : decode cX3_add 45 = .ok (.iconst 1, 1) := by decide +kernel
theorem dX3_add_46 : decode cX3_add 46 = .ok (.iadd, 1) := by decide +kernel
theorem dX3_add_47 : decode cX3_add 47 = .ok (.putfield 19, 3) := by decide +kernel
theorem dX3_add_50 : decode cX3_add 50 = .ok (.iinc 2 (-8), 3) := by decide +kernel
theorem dX3_add_53 : decode cX3_add 53 = .ok (.goto (-50), 3) := by decide +kernel
theorem dX3_add_56 : decode cX3_add 56 = .ok (.return_, 1) := by decide +kernel
theorem dX3_byteAt_0 : decode cX3_byteAt 0 = .ok (.iload_n 1, 1) := by decide +kernel
theorem dX3_byteAt_1 : decode cX3_byteAt 1 = .ok (.ifCond .lt 27, 3) := by decide +kernel
theorem dX3_byteAt_4 : decode cX3_byteAt 4 = .ok (.iload_n 1, 1) := by decide +kernel
theorem dX3_byteAt_5 : decode cX3_byteAt 5 = .ok (.aload_n 0, 1) := by decide +kernel
theorem dX3_byteAt_6 : decode cX3_byteAt 6 = .ok (.getfield 19, 3) := by decide +kernel
theorem dX3_byteAt_9 : decode cX3_byteAt 9 = .ok (.if_icmp .ge 19, 3) := by decide +kernel
theorem dX3_byteAt_12 : decode cX3_byteAt 12 = .ok (.iload_n 1, 1) := by decide +kernel
theorem dX3_byteAt_13 : decode cX3_byteAt 13 = .ok (.sipush 200, 3) := by decide +kernel
theorem dX3_byteAt_16 : decode cX3_byteAt 16 = .ok (.if_icmp .ge 12, 3) := by decide +kernel
theorem dX3_byteAt_19 : decode cX3_byteAt 19 = .ok (.aload_n 0, 1) := by decide +kernel
theorem dX3_byteAt_20 : decode cX3_byteAt 20 = .ok (.getfield 15, 3) := by decide +kernel
theorem dX3_byteAt_23 : decode cX3_byteAt 23 = .ok (.iload_n 1, 1) := by decide +kernel
theorem dX3_byteAt_24 : decode cX3_byteAt 24 = .ok (.iaload, 1) := by decide +kernel
theorem dX3_byteAt_25 : decode cX3_byteAt 25 = .ok (.goto 4, 3) := by decide +kernel
theorem dX3_byteAt_28 : decode cX3_byteAt 28 = .ok (.iconst (-1), 1) := by decide +kernel
theorem dX3_byteAt_29 : decode cX3_byteAt 29 = .ok (.ireturn, 1) := by decide +kernel
theorem dX3_beginReading_0 : decode cX3_beginReading 0 = .ok (.aload_n 0, 1) := by decide +kernel
theorem dX3_beginReading_1 : decode cX3_beginReading 1 = .ok (.iconst 1, 1) := by decide +kernel
theorem dX3_beginReading_2 : decode cX3_beginReading 2 = .ok (.putfield 22, 3) := by decide +kernel
theorem dX3_beginReading_5 : decode cX3_beginReading 5 = .ok (.aload_n 0, 1) := by decide +kernel
theorem dX3_beginReading_6 : decode cX3_beginReading 6 = .ok (.iconst 0, 1) := by decide +kernel
theorem dX3_beginReading_7 : decode cX3_beginReading 7 = .ok (.putfield 26, 3) := by decide +kernel
theorem dX3_beginReading_10 : decode cX3_beginReading 10 = .ok (.aload_n 0, 1) := by decide +kernel
theorem dX3_beginReading_11 : decode cX3_beginReading 11 = .ok (.iconst (-1), 1) := by decide +kernel
theorem dX3_beginReading_12 : decode cX3_beginReading 12 = .ok (.putfield 9, 3) := by decide +kernel
theorem dX3_beginReading_15 : decode cX3_beginReading 15 = .ok (.return_, 1) := by decide +kernel
theorem dX3_fail_0 : decode cX3_fail 0 = .ok (.aload_n 0, 1) := by decide +kernel
theorem dX3_fail_1 : decode cX3_fail 1 = .ok (.iload_n 1, 1) := by decide +kernel
theorem dX3_fail_2 : decode cX3_fail 2 = .ok (.putfield 26, 3) := by decide +kernel
theorem dX3_fail_5 : decode cX3_fail 5 = .ok (.aload_n 0, 1) := by decide +kernel
theorem dX3_fail_6 : decode cX3_fail 6 = .ok (.iload_n 2, 1) := by decide +kernel
theorem dX3_fail_7 : decode cX3_fail 7 = .ok (.putfield 9, 3) := by decide +kernel
theorem dX3_fail_10 : decode cX3_fail 10 = .ok (.iconst 0, 1) := by decide +kernel
theorem dX3_fail_11 : decode cX3_fail 11 = .ok (.ireturn, 1) := by decide +kernel
theorem dX4_init_0 : decode cX4_init 0 = .ok (.aload_n 0, 1) := by decide +kernel
theorem dX4_init_1 : decode cX4_init 1 = .ok (.invokespecial 3, 3) := by decide +kernel
theorem dX4_init_4 : decode cX4_init 4 = .ok (.aload_n 0, 1) := by decide +kernel
theorem dX4_init_5 : decode cX4_init 5 = .ok (.aload_n 1, 1) := by decide +kernel
theorem dX4_init_6 : decode cX4_init 6 = .ok (.putfield 9, 3) := by decide +kernel
theorem dX4_init_9 : decode cX4_init 9 = .ok (.aload_n 0, 1) := by decide +kernel
theorem dX4_init_10 : decode cX4_init 10 = .ok (.aload_n 2, 1) := by decide +kernel
theorem dX4_init_11 : decode cX4_init 11 = .ok (.putfield 15, 3) := by decide +kernel
theorem dX4_init_14 : decode cX4_init 14 = .ok (.aload_n 0, 1) := by decide +kernel
theorem dX4_init_15 : decode cX4_init 15 = .ok (.new 19, 3) := by decide +kernel
theorem dX4_init_18 : decode cX4_init 18 = .ok (.dup, 1) := by decide +kernel
theorem dX4_init_19 : decode cX4_init 19 = .ok (.aload_n 1, 1) := by decide +kernel
theorem dX4_init_20 : decode cX4_init 20 = .ok (.invokespecial 21, 3) := by decide +kernel
theorem dX4_init_23 : decode cX4_init 23 = .ok (.putfield 24, 3) := by decide +kernel
theorem dX4_init_26 : decode cX4_init 26 = .ok (.aload_n 0, 1) := by decide +kernel
theorem dX4_init_27 : decode cX4_init 27 = .ok (.bipush 9, 2) := by decide +kernel
theorem dX4_init_29 : decode cX4_init 29 = .ok (.anewarray 28, 3) := by decide +kernel
theorem dX4_init_32 : decode cX4_init 32 = .ok (.putfield 30, 3) := by decide +kernel
theorem dX4_init_35 : decode cX4_init 35 = .ok (.iconst 0, 1) := by decide +kernel
theorem dX4_init_36 : decode cX4_init 36 = .ok (.istore_n 3, 1) := by decide +kernel
theorem dX4_init_37 : decode cX4_init 37 = .ok (.iload_n 3, 1) := by decide +kernel
theorem dX4_init_38 : decode cX4_init 38 = .ok (.aload_n 0, 1) := by decide +kernel
theorem dX4_init_39 : decode cX4_init 39 = .ok (.getfield 30, 3) := by decide +kernel
theorem dX4_init_42 : decode cX4_init 42 = .ok (.arraylength, 1) := by decide +kernel
theorem dX4_init_43 : decode cX4_init 43 = .ok (.if_icmp .ge 22, 3) := by decide +kernel
theorem dX4_init_46 : decode cX4_init 46 = .ok (.aload_n 0, 1) := by decide +kernel
theorem dX4_init_47 : decode cX4_init 47 = .ok (.getfield 30, 3) := by decide +kernel
theorem dX4_init_50 : decode cX4_init 50 = .ok (.iload_n 3, 1) := by decide +kernel
theorem dX4_init_51 : decode cX4_init 51 = .ok (.new 28, 3) := by decide +kernel
theorem dX4_init_54 : decode cX4_init 54 = .ok (.dup, 1) := by decide +kernel
theorem dX4_init_55 : decode cX4_init 55 = .ok (.invokespecial 33, 3) := by decide +kernel
theorem dX4_init_58 : decode cX4_init 58 = .ok (.aastore, 1) := by decide +kernel
theorem dX4_init_59 : decode cX4_init 59 = .ok (.iinc 3 1, 3) := by decide +kernel
theorem dX4_init_62 : decode cX4_init 62 = .ok (.goto (-25), 3) := by decide +kernel
theorem dX4_init_65 : decode cX4_init 65 = .ok (.aload_n 0, 1) := by decide +kernel
theorem dX4_init_66 : decode cX4_init 66 = .ok (.new 28, 3) := by decide +kernel
theorem dX4_init_69 : decode cX4_init 69 = .ok (.dup, 1) := by decide +kernel
theorem dX4_init_70 : decode cX4_init 70 = .ok (.invokespecial 33, 3) := by decide +kernel
theorem dX4_init_73 : decode cX4_init 73 = .ok (.putfield 34, 3) := by decide +kernel
theorem dX4_init_76 : decode cX4_init 76 = .ok (.return_, 1) := by decide +kernel
theorem dX4_readInto_0 : decode cX4_readInto 0 = .ok (.aload_n 0, 1) := by decide +kernel
theorem dX4_readInto_1 : decode cX4_readInto 1 = .ok (.getfield 9, 3) := by decide +kernel
theorem dX4_readInto_4 : decode cX4_readInto 4 = .ok (.invokevirtual 38, 3) := by decide +kernel
theorem dX4_readInto_7 : decode cX4_readInto 7 = .ok (.aload_n 0, 1) := by decide +kernel
theorem dX4_readInto_8 : decode cX4_readInto 8 = .ok (.getfield 24, 3) := by decide +kernel
theorem dX4_readInto_11 : decode cX4_readInto 11 = .ok (.invokevirtual 43, 3) := by decide +kernel
theorem dX4_readInto_14 : decode cX4_readInto 14 = .ok (.aload_n 0, 1) := by decide +kernel
theorem dX4_readInto_15 : decode cX4_readInto 15 = .ok (.iconst 0, 1) := by decide +kernel
theorem dX4_readInto_16 : decode cX4_readInto 16 = .ok (.iconst 0, 1) := by decide +kernel
theorem dX4_readInto_17 : decode cX4_readInto 17 = .ok (.invokevirtual 46, 3) := by decide +kernel
theorem dX4_readInto_20 : decode cX4_readInto 20 = .ok (.ifCond .ne 5, 3) := by decide +kernel
theorem dX4_readInto_23 : decode cX4_readInto 23 = .ok (.iconst 0, 1) := by decide +kernel
theorem dX4_readInto_24 : decode cX4_readInto 24 = .ok (.ireturn, 1) := by decide +kernel
theorem dX4_readInto_25 : decode cX4_readInto 25 = .ok (.aload_n 0, 1) := by decide +kernel
theorem dX4_readInto_26 : decode cX4_readInto 26 = .ok (.getfield 24, 3) := by decide +kernel
theorem dX4_readInto_29 : decode cX4_readInto 29 = .ok (.invokevirtual 50, 3) := by decide +kernel
theorem dX4_readInto_32 : decode cX4_readInto 32 = .ok (.aload_n 0, 1) := by decide +kernel
theorem dX4_readInto_33 : decode cX4_readInto 33 = .ok (.getfield 24, 3) := by decide +kernel
theorem dX4_readInto_36 : decode cX4_readInto 36 = .ok (.getfield 53, 3) := by decide +kernel
theorem dX4_readInto_39 : decode cX4_readInto 39 = .ok (.ifCond .ne 19, 3) := by decide +kernel
theorem dX4_readInto_42 : decode cX4_readInto 42 = .ok (.aload_n 0, 1) := by decide +kernel
theorem dX4_readInto_43 : decode cX4_readInto 43 = .ok (.getfield 9, 3) := by decide +kernel
theorem dX4_readInto_46 : decode cX4_readInto 46 = .ok (.iconst 1, 1) := by decide +kernel
theorem dX4_readInto_47 : decode cX4_readInto 47 = .ok (.aload_n 0, 1) := by decide +kernel
theorem dX4_readInto_48 : decode cX4_readInto 48 = .ok (.getfield 24, 3) := by decide +kernel
theorem dX4_readInto_51 : decode cX4_readInto 51 = .ok (.getfield 57, 3) := by decide +kernel
theorem dX4_readInto_54 : decode cX4_readInto 54 = .ok (.invokevirtual 61, 3) := by decide +kernel
theorem dX4_readInto_57 : decode cX4_readInto 57 = .ok (.ireturn, 1) := by decide +kernel
theorem dX4_readInto_58 : decode cX4_readInto 58 = .ok (.aload_n 1, 1) := by decide +kernel
theorem dX4_readInto_59 : decode cX4_readInto 59 = .ok (.aload_n 0, 1) := by decide +kernel
theorem dX4_readInto_60 : decode cX4_readInto 60 = .ok (.getfield 30, 3) := by decide +kernel
theorem dX4_readInto_63 : decode cX4_readInto 63 = .ok (.iconst 0, 1) := by decide +kernel
theorem dX4_readInto_64 : decode cX4_readInto 64 = .ok (.aaload, 1) := by decide +kernel
theorem dX4_readInto_65 : decode cX4_readInto 65 = .ok (.invokevirtual 64, 3) := by decide +kernel
theorem dX4_readInto_68 : decode cX4_readInto 68 = .ok (.iconst 1, 1) := by decide +kernel
theorem dX4_readInto_69 : decode cX4_readInto 69 = .ok (.ireturn, 1) := by decide +kernel
theorem dX4_readOne_0 : decode cX4_readOne 0 = .ok (.aload_n 0, 1) := by decide +kernel
theorem dX4_readOne_1 : decode cX4_readOne 1 = .ok (.getfield 24, 3) := by decide +kernel
theorem dX4_readOne_4 : decode cX4_readOne 4 = .ok (.invokevirtual 50, 3) := by decide +kernel
theorem dX4_readOne_7 : decode cX4_readOne 7 = .ok (.aload_n 0, 1) := by decide +kernel
theorem dX4_readOne_8 : decode cX4_readOne 8 = .ok (.getfield 24, 3) := by decide +kernel
theorem dX4_readOne_11 : decode cX4_readOne 11 = .ok (.invokevirtual 68, 3) := by decide +kernel
theorem dX4_readOne_14 : decode cX4_readOne 14 = .ok (.istore_n 3, 1) := by decide +kernel
theorem dX4_readOne_15 : decode cX4_readOne 15 = .ok (.aload_n 0, 1) := by decide +kernel
theorem dX4_readOne_16 : decode cX4_readOne 16 = .ok (.getfield 24, 3) := by decide +kernel
theorem dX4_readOne_19 : decode cX4_readOne 19 = .ok (.getfield 57, 3) := by decide +kernel
theorem dX4_readOne_22 : decode cX4_readOne 22 = .ok (.istore 4, 2) := by decide +kernel
theorem dX4_readOne_24 : decode cX4_readOne 24 = .ok (.iload_n 2, 1) := by decide +kernel
theorem dX4_readOne_25 : decode cX4_readOne 25 = .ok (.ifCond .lt 16, 3) := by decide +kernel
theorem dX4_readOne_28 : decode cX4_readOne 28 = .ok (.iload_n 2, 1) := by decide +kernel
theorem dX4_readOne_29 : decode cX4_readOne 29 = .ok (.aload_n 0, 1) := by decide +kernel
theorem dX4_readOne_30 : decode cX4_readOne 30 = .ok (.getfield 30, 3) := by decide +kernel
theorem dX4_readOne_33 : decode cX4_readOne 33 = .ok (.arraylength, 1) := by decide +kernel
theorem dX4_readOne_34 : decode cX4_readOne 34 = .ok (.if_icmp .ge 7, 3) := by decide +kernel
theorem dX4_readOne_37 : decode cX4_readOne 37 = .ok (.iload_n 3, 1) := by decide +kernel
theorem dX4_readOne_38 : decode cX4_readOne 38 = .ok (.ifCond .ne 14, 3) := by decide +kernel
theorem dX4_readOne_41 : decode cX4_readOne 41 = .ok (.aload_n 0, 1) := by decide +kernel
theorem dX4_readOne_42 : decode cX4_readOne 42 = .ok (.getfield 9, 3) := by decide +kernel
theorem dX4_readOne_45 : decode cX4_readOne 45 = .ok (.iconst 1, 1) := by decide +kernel
theorem dX4_readOne_46 : decode cX4_readOne 46 = .ok (.iload 4, 2) := by decide +kernel
theorem dX4_readOne_48 : decode cX4_readOne 48 = .ok (.invokevirtual 61, 3) := by decide +kernel
theorem dX4_readOne_51 : decode cX4_readOne 51 = .ok (.ireturn, 1) := by decide +kernel
theorem dX4_readOne_52 : decode cX4_readOne 52 = .ok (.iload_n 3, 1) := by decide +kernel
theorem dX4_readOne_53 : decode cX4_readOne 53 = .ok (.iconst 1, 1) := by decide +kernel
theorem dX4_readOne_54 : decode cX4_readOne 54 = .ok (.if_icmp .ne 14, 3) := by decide +kernel
theorem dX4_readOne_57 : decode cX4_readOne 57 = .ok (.aload_n 0, 1) := by decide +kernel
theorem dX4_readOne_58 : decode cX4_readOne 58 = .ok (.aload_n 0, 1) := by decide +kernel
theorem dX4_readOne_59 : decode cX4_readOne 59 = .ok (.getfield 30, 3) := by decide +kernel
theorem dX4_readOne_62 : decode cX4_readOne 62 = .ok (.iload_n 2, 1) := by decide +kernel
theorem dX4_readOne_63 : decode cX4_readOne 63 = .ok (.aaload, 1) := by decide +kernel
theorem dX4_readOne_64 : decode cX4_readOne 64 = .ok (.invokevirtual 72, 3) := by decide +kernel
theorem dX4_readOne_67 : decode cX4_readOne 67 = .ok (.ireturn, 1) := by decide +kernel
theorem dX4_readOne_68 : decode cX4_readOne 68 = .ok (.iload_n 3, 1) := by decide +kernel
theorem dX4_readOne_69 : decode cX4_readOne 69 = .ok (.bipush 9, 2) := by decide +kernel
theorem dX4_readOne_71 : decode cX4_readOne 71 = .ok (.if_icmp .ne 14, 3) := by decide +kernel
theorem dX4_readOne_74 : decode cX4_readOne 74 = .ok (.aload_n 0, 1) := by decide +kernel
theorem dX4_readOne_75 : decode cX4_readOne 75 = .ok (.aload_n 0, 1) := by decide +kernel
theorem dX4_readOne_76 : decode cX4_readOne 76 = .ok (.getfield 30, 3) := by decide +kernel
theorem dX4_readOne_79 : decode cX4_readOne 79 = .ok (.iload_n 2, 1) := by decide +kernel
theorem dX4_readOne_80 : decode cX4_readOne 80 = .ok (.aaload, 1) := by decide +kernel
theorem dX4_readOne_81 : decode cX4_readOne 81 = .ok (.invokevirtual 76, 3) := by decide +kernel
theorem dX4_readOne_84 : decode cX4_readOne 84 = .ok (.ireturn, 1) := by decide +kernel
theorem dX4_readOne_85 : decode cX4_readOne 85 = .ok (.iload_n 1, 1) := by decide +kernel
theorem dX4_readOne_86 : decode cX4_readOne 86 = .ok (.bipush 8, 2) := by decide +kernel
theorem dX4_readOne_88 : decode cX4_readOne 88 = .ok (.if_icmp .lt 14, 3) := by decide +kernel
theorem dX4_readOne_91 : decode cX4_readOne 91 = .ok (.aload_n 0, 1) := by decide +kernel
theorem dX4_readOne_92 : decode cX4_readOne 92 = .ok (.getfield 9, 3) := by decide +kernel
theorem dX4_readOne_95 : decode cX4_readOne 95 = .ok (.iconst 3, 1) := by decide +kernel
theorem dX4_readOne_96 : decode cX4_readOne 96 = .ok (.iload 4, 2) := by decide +kernel
theorem dX4_readOne_98 : decode cX4_readOne 98 = .ok (.invokevirtual 61, 3) := by decide +kernel
theorem dX4_readOne_101 : decode cX4_readOne 101 = .ok (.ireturn, 1) := by decide +kernel
theorem dX4_readOne_102 : decode cX4_readOne 102 = .ok (.iload_n 3, 1) := by decide +kernel
theorem dX4_readOne_103 : decode cX4_readOne 103 = .ok (.tableswitch 73 2 8 #[41, 63, 63, 73, 73, 73, 52], 41) := by decide +kernel
theorem dX4_readOne_144 : decode cX4_readOne 144 = .ok (.aload_n 0, 1) := by decide +kernel
theorem dX4_readOne_145 : decode cX4_readOne 145 = .ok (.iload_n 1, 1) := by decide +kernel
theorem dX4_readOne_146 : decode cX4_readOne 146 = .ok (.iconst 1, 1) := by decide +kernel
theorem dX4_readOne_147 : decode cX4_readOne 147 = .ok (.iadd, 1) := by decide +kernel
theorem dX4_readOne_148 : decode cX4_readOne 148 = .ok (.iload_n 2, 1) := by decide +kernel
theorem dX4_readOne_149 : decode cX4_readOne 149 = .ok (.iload 4, 2) := by decide +kernel
theorem dX4_readOne_151 : decode cX4_readOne 151 = .ok (.invokevirtual 79, 3) := by decide +kernel
theorem dX4_readOne_154 : decode cX4_readOne 154 = .ok (.ireturn, 1) := by decide +kernel
theorem dX4_readOne_155 : decode cX4_readOne 155 = .ok (.aload_n 0, 1) := by decide +kernel
theorem dX4_readOne_156 : decode cX4_readOne 156 = .ok (.iload_n 1, 1) := by decide +kernel
theorem dX4_readOne_157 : decode cX4_readOne 157 = .ok (.iconst 1, 1) := by decide +kernel
theorem dX4_readOne_158 : decode cX4_readOne 158 = .ok (.iadd, 1) := by decide +kernel
theorem dX4_readOne_159 : decode cX4_readOne 159 = .ok (.iload_n 2, 1) := by decide +kernel
theorem dX4_readOne_160 : decode cX4_readOne 160 = .ok (.iload 4, 2) := by decide +kernel
theorem dX4_readOne_162 : decode cX4_readOne 162 = .ok (.invokevirtual 83, 3) := by decide +kernel
theorem dX4_readOne_165 : decode cX4_readOne 165 = .ok (.ireturn, 1) := by decide +kernel
theorem dX4_readOne_166 : decode cX4_readOne 166 = .ok (.aload_n 0, 1) := by decide +kernel
theorem dX4_readOne_167 : decode cX4_readOne 167 = .ok (.iload_n 1, 1) := by decide +kernel
theorem dX4_readOne_168 : decode cX4_readOne 168 = .ok (.iconst 1, 1) := by decide +kernel
theorem dX4_readOne_169 : decode cX4_readOne 169 = .ok (.iadd, 1) := by decide +kernel
theorem dX4_readOne_170 : decode cX4_readOne 170 = .ok (.iload_n 2, 1) := by decide +kernel
theorem dX4_readOne_171 : decode cX4_readOne 171 = .ok (.iload_n 3, 1) := by decide +kernel
theorem dX4_readOne_172 : decode cX4_readOne 172 = .ok (.invokevirtual 86, 3) := by decide +kernel
theorem dX4_readOne_175 : decode cX4_readOne 175 = .ok (.ireturn, 1) := by decide +kernel
theorem dX4_readOne_176 : decode cX4_readOne 176 = .ok (.aload_n 0, 1) := by decide +kernel
theorem dX4_readOne_177 : decode cX4_readOne 177 = .ok (.iload_n 1, 1) := by decide +kernel
theorem dX4_readOne_178 : decode cX4_readOne 178 = .ok (.iconst 1, 1) := by decide +kernel
theorem dX4_readOne_179 : decode cX4_readOne 179 = .ok (.iadd, 1) := by decide +kernel
theorem dX4_readOne_180 : decode cX4_readOne 180 = .ok (.iload_n 2, 1) := by decide +kernel
theorem dX4_readOne_181 : decode cX4_readOne 181 = .ok (.iload_n 3, 1) := by decide +kernel
theorem dX4_readOne_182 : decode cX4_readOne 182 = .ok (.iload 4, 2) := by decide +kernel
theorem dX4_readOne_184 : decode cX4_readOne 184 = .ok (.invokevirtual 89, 3) := by decide +kernel
theorem dX4_readOne_187 : decode cX4_readOne 187 = .ok (.ireturn, 1) := by decide +kernel
theorem dX4_readPlain_0 : decode cX4_readPlain 0 = .ok (.aload_n 0, 1) := by decide +kernel
theorem dX4_readPlain_1 : decode cX4_readPlain 1 = .ok (.iconst 1, 1) := by decide +kernel
theorem dX4_readPlain_2 : decode cX4_readPlain 2 = .ok (.bipush 8, 2) := by decide +kernel
theorem dX4_readPlain_4 : decode cX4_readPlain 4 = .ok (.invokevirtual 93, 3) := by decide +kernel
theorem dX4_readPlain_7 : decode cX4_readPlain 7 = .ok (.istore_n 2, 1) := by decide +kernel
theorem dX4_readPlain_8 : decode cX4_readPlain 8 = .ok (.iload_n 2, 1) := by decide +kernel
theorem dX4_readPlain_9 : decode cX4_readPlain 9 = .ok (.iconst (-1), 1) := by decide +kernel
theorem dX4_readPlain_10 : decode cX4_readPlain 10 = .ok (.if_icmp .ne 5, 3) := by decide +kernel
theorem dX4_readPlain_13 : decode cX4_readPlain 13 = .ok (.iconst 0, 1) := by decide +kernel
theorem dX4_readPlain_14 : decode cX4_readPlain 14 = .ok (.ireturn, 1) := by decide +kernel
theorem dX4_readPlain_15 : decode cX4_readPlain 15 = .ok (.aload_n 0, 1) := by decide +kernel
theorem dX4_readPlain_16 : decode cX4_readPlain 16 = .ok (.iconst 1, 1) := by decide +kernel
theorem dX4_readPlain_17 : decode cX4_readPlain 17 = .ok (.bipush 8, 2) := by decide +kernel
theorem dX4_readPlain_19 : decode cX4_readPlain 19 = .ok (.invokevirtual 93, 3) := by decide +kernel
theorem dX4_readPlain_22 : decode cX4_readPlain 22 = .ok (.istore_n 3, 1) := by decide +kernel
theorem dX4_readPlain_23 : decode cX4_readPlain 23 = .ok (.iload_n 3, 1) := by decide +kernel
theorem dX4_readPlain_24 : decode cX4_readPlain 24 = .ok (.iconst (-1), 1) := by decide +kernel
theorem dX4_readPlain_25 : decode cX4_readPlain 25 = .ok (.if_icmp .ne 5, 3) := by decide +kernel
theorem dX4_readPlain_28 : decode cX4_readPlain 28 = .ok (.iconst 0, 1) := by decide +kernel
theorem dX4_readPlain_29 : decode cX4_readPlain 29 = .ok (.ireturn, 1) := by decide +kernel
theorem dX4_readPlain_30 : decode cX4_readPlain 30 = .ok (.aload_n 1, 1) := by decide +kernel
theorem dX4_readPlain_31 : decode cX4_readPlain 31 = .ok (.iload_n 2, 1) := by decide +kernel
theorem dX4_readPlain_32 : decode cX4_readPlain 32 = .ok (.iload_n 3, 1) := by decide +kernel
theorem dX4_readPlain_33 : decode cX4_readPlain 33 = .ok (.invokevirtual 97, 3) := by decide +kernel
theorem dX4_readPlain_36 : decode cX4_readPlain 36 = .ok (.iconst 1, 1) := by decide +kernel
theorem dX4_readPlain_37 : decode cX4_readPlain 37 = .ok (.ireturn, 1) := by decide +kernel
theorem dX4_readKept_0 : decode cX4_readKept 0 = .ok (.aload_n 0, 1) := by decide +kernel
theorem dX4_readKept_1 : decode cX4_readKept 1 = .ok (.iconst 0, 1) := by decide +kernel
theorem dX4_readKept_2 : decode cX4_readKept 2 = .ok (.bipush 7, 2) := by decide +kernel
theorem dX4_readKept_4 : decode cX4_readKept 4 = .ok (.invokevirtual 93, 3) := by decide +kernel
theorem dX4_readKept_7 : decode cX4_readKept 7 = .ok (.istore_n 2, 1) := by decide +kernel
theorem dX4_readKept_8 : decode cX4_readKept 8 = .ok (.iload_n 2, 1) := by decide +kernel
theorem dX4_readKept_9 : decode cX4_readKept 9 = .ok (.ifCond .lt 12, 3) := by decide +kernel
theorem dX4_readKept_12 : decode cX4_readKept 12 = .ok (.iload_n 2, 1) := by decide +kernel
theorem dX4_readKept_13 : decode cX4_readKept 13 = .ok (.aload_n 0, 1) := by decide +kernel
theorem dX4_readKept_14 : decode cX4_readKept 14 = .ok (.getfield 15, 3) := by decide +kernel
theorem dX4_readKept_17 : decode cX4_readKept 17 = .ok (.arraylength, 1) := by decide +kernel
theorem dX4_readKept_18 : decode cX4_readKept 18 = .ok (.if_icmp .lt 5, 3) := by decide +kernel
theorem dX4_readKept_21 : decode cX4_readKept 21 = .ok (.iconst 0, 1) := by decide +kernel
theorem dX4_readKept_22 : decode cX4_readKept 22 = .ok (.ireturn, 1) := by decide +kernel
theorem dX4_readKept_23 : decode cX4_readKept 23 = .ok (.aload_n 0, 1) := by decide +kernel
theorem dX4_readKept_24 : decode cX4_readKept 24 = .ok (.getfield 15, 3) := by decide +kernel
theorem dX4_readKept_27 : decode cX4_readKept 27 = .ok (.iload_n 2, 1) := by decide +kernel
theorem dX4_readKept_28 : decode cX4_readKept 28 = .ok (.aaload, 1) := by decide +kernel
theorem dX4_readKept_29 : decode cX4_readKept 29 = .ok (.astore_n 3, 1) := by decide +kernel
theorem dX4_readKept_30 : decode cX4_readKept 30 = .ok (.aload_n 3, 1) := by decide +kernel
theorem dX4_readKept_31 : decode cX4_readKept 31 = .ok (.ifnonnull 19, 3) := by decide +kernel
theorem dX4_readKept_34 : decode cX4_readKept 34 = .ok (.aload_n 0, 1) := by decide +kernel
theorem dX4_readKept_35 : decode cX4_readKept 35 = .ok (.getfield 9, 3) := by decide +kernel
theorem dX4_readKept_38 : decode cX4_readKept 38 = .ok (.iconst 2, 1) := by decide +kernel
theorem dX4_readKept_39 : decode cX4_readKept 39 = .ok (.aload_n 0, 1) := by decide +kernel
theorem dX4_readKept_40 : decode cX4_readKept 40 = .ok (.getfield 24, 3) := by decide +kernel
theorem dX4_readKept_43 : decode cX4_readKept 43 = .ok (.getfield 57, 3) := by decide +kernel
theorem dX4_readKept_46 : decode cX4_readKept 46 = .ok (.invokevirtual 61, 3) := by decide +kernel
theorem dX4_readKept_49 : decode cX4_readKept 49 = .ok (.ireturn, 1) := by decide +kernel
theorem dX4_readKept_50 : decode cX4_readKept 50 = .ok (.aload_n 1, 1) := by decide +kernel
theorem dX4_readKept_51 : decode cX4_readKept 51 = .ok (.aload_n 3, 1) := by decide +kernel
theorem dX4_readKept_52 : decode cX4_readKept 52 = .ok (.invokevirtual 64, 3) := by decide +kernel
theorem dX4_readKept_55 : decode cX4_readKept 55 = .ok (.iconst 1, 1) := by decide +kernel
theorem dX4_readKept_56 : decode cX4_readKept 56 = .ok (.ireturn, 1) := by decide +kernel
theorem dX4_readSet_0 : decode cX4_readSet 0 = .ok (.aload_n 0, 1) := by decide +kernel
theorem dX4_readSet_1 : decode cX4_readSet 1 = .ok (.iconst 0, 1) := by decide +kernel
theorem dX4_readSet_2 : decode cX4_readSet 2 = .ok (.bipush 16, 2) := by decide +kernel
theorem dX4_readSet_4 : decode cX4_readSet 4 = .ok (.invokevirtual 93, 3) := by decide +kernel
theorem dX4_readSet_7 : decode cX4_readSet 7 = .ok (.istore 4, 2) := by decide +kernel
theorem dX4_readSet_9 : decode cX4_readSet 9 = .ok (.iload 4, 2) := by decide +kernel
theorem dX4_readSet_11 : decode cX4_readSet 11 = .ok (.iconst (-1), 1) := by decide +kernel
theorem dX4_readSet_12 : decode cX4_readSet 12 = .ok (.if_icmp .ne 5, 3) := by decide +kernel
theorem dX4_readSet_15 : decode cX4_readSet 15 = .ok (.iconst 0, 1) := by decide +kernel
theorem dX4_readSet_16 : decode cX4_readSet 16 = .ok (.ireturn, 1) := by decide +kernel
theorem dX4_readSet_17 : decode cX4_readSet 17 = .ok (.aload_n 0, 1) := by decide +kernel
theorem dX4_readSet_18 : decode cX4_readSet 18 = .ok (.iconst 0, 1) := by decide +kernel
theorem dX4_readSet_19 : decode cX4_readSet 19 = .ok (.bipush 16, 2) := by decide +kernel
theorem dX4_readSet_21 : decode cX4_readSet 21 = .ok (.invokevirtual 93, 3) := by decide +kernel
theorem dX4_readSet_24 : decode cX4_readSet 24 = .ok (.istore 5, 2) := by decide +kernel
theorem dX4_readSet_26 : decode cX4_readSet 26 = .ok (.iload 5, 2) := by decide +kernel
theorem dX4_readSet_28 : decode cX4_readSet 28 = .ok (.iconst (-1), 1) := by decide +kernel
theorem dX4_readSet_29 : decode cX4_readSet 29 = .ok (.if_icmp .ne 5, 3) := by decide +kernel
theorem dX4_readSet_32 : decode cX4_readSet 32 = .ok (.iconst 0, 1) := by decide +kernel
theorem dX4_readSet_33 : decode cX4_readSet 33 = .ok (.ireturn, 1) := by decide +kernel
theorem dX4_readSet_34 : decode cX4_readSet 34 = .ok (.aload_n 0, 1) := by decide +kernel
theorem dX4_readSet_35 : decode cX4_readSet 35 = .ok (.iconst 0, 1) := by decide +kernel
theorem dX4_readSet_36 : decode cX4_readSet 36 = .ok (.iconst 2, 1) := by decide +kernel
theorem dX4_readSet_37 : decode cX4_readSet 37 = .ok (.invokevirtual 93, 3) := by decide +kernel
theorem dX4_readSet_40 : decode cX4_readSet 40 = .ok (.istore 6, 2) := by decide +kernel
theorem dX4_readSet_42 : decode cX4_readSet 42 = .ok (.iload 6, 2) := by decide +kernel
theorem dX4_readSet_44 : decode cX4_readSet 44 = .ok (.iconst (-1), 1) := by decide +kernel
theorem dX4_readSet_45 : decode cX4_readSet 45 = .ok (.if_icmp .eq 12, 3) := by decide +kernel
theorem dX4_readSet_48 : decode cX4_readSet 48 = .ok (.aload_n 0, 1) := by decide +kernel
theorem dX4_readSet_49 : decode cX4_readSet 49 = .ok (.iload_n 1, 1) := by decide +kernel
theorem dX4_readSet_50 : decode cX4_readSet 50 = .ok (.iload_n 2, 1) := by decide +kernel
theorem dX4_readSet_51 : decode cX4_readSet 51 = .ok (.invokevirtual 46, 3) := by decide +kernel
theorem dX4_readSet_54 : decode cX4_readSet 54 = .ok (.ifCond .ne 5, 3) := by decide +kernel
theorem dX4_readSet_57 : decode cX4_readSet 57 = .ok (.iconst 0, 1) := by decide +kernel
theorem dX4_readSet_58 : decode cX4_readSet 58 = .ok (.ireturn, 1) := by decide +kernel
theorem dX4_readSet_59 : decode cX4_readSet 59 = .ok (.aload_n 0, 1) := by decide +kernel
theorem dX4_readSet_60 : decode cX4_readSet 60 = .ok (.getfield 30, 3) := by decide +kernel
theorem dX4_readSet_63 : decode cX4_readSet 63 = .ok (.iload_n 2, 1) := by decide +kernel
theorem dX4_readSet_64 : decode cX4_readSet 64 = .ok (.aaload, 1) := by decide +kernel
theorem dX4_readSet_65 : decode cX4_readSet 65 = .ok (.iload 4, 2) := by decide +kernel
theorem dX4_readSet_67 : decode cX4_readSet 67 = .ok (.iload 5, 2) := by decide +kernel
theorem dX4_readSet_69 : decode cX4_readSet 69 = .ok (.invokevirtual 101, 3) := by decide +kernel
theorem dX4_readSet_72 : decode cX4_readSet 72 = .ok (.ifCond .ne 13, 3) := by decide +kernel
theorem dX4_readSet_75 : decode cX4_readSet 75 = .ok (.aload_n 0, 1) := by decide +kernel
theorem dX4_readSet_76 : decode cX4_readSet 76 = .ok (.getfield 9, 3) := by decide +kernel
theorem dX4_readSet_79 : decode cX4_readSet 79 = .ok (.iconst 4, 1) := by decide +kernel
theorem dX4_readSet_80 : decode cX4_readSet 80 = .ok (.iload_n 3, 1) := by decide +kernel
theorem dX4_readSet_81 : decode cX4_readSet 81 = .ok (.invokevirtual 61, 3) := by decide +kernel
theorem dX4_readSet_84 : decode cX4_readSet 84 = .ok (.ireturn, 1) := by decide +kernel
theorem dX4_readSet_85 : decode cX4_readSet 85 = .ok (.aload_n 0, 1) := by decide +kernel
theorem dX4_readSet_86 : decode cX4_readSet 86 = .ok (.getfield 30, 3) := by decide +kernel
theorem dX4_readSet_89 : decode cX4_readSet 89 = .ok (.iload_n 2, 1) := by decide +kernel
theorem dX4_readSet_90 : decode cX4_readSet 90 = .ok (.aaload, 1) := by decide +kernel
theorem dX4_readSet_91 : decode cX4_readSet 91 = .ok (.iload 4, 2) := by decide +kernel
theorem dX4_readSet_93 : decode cX4_readSet 93 = .ok (.iload 5, 2) := by decide +kernel
theorem dX4_readSet_95 : decode cX4_readSet 95 = .ok (.iload 6, 2) := by decide +kernel
theorem dX4_readSet_97 : decode cX4_readSet 97 = .ok (.invokevirtual 104, 3) := by decide +kernel
theorem dX4_readSet_100 : decode cX4_readSet 100 = .ok (.iconst 1, 1) := by decide +kernel
theorem dX4_readSet_101 : decode cX4_readSet 101 = .ok (.ireturn, 1) := by decide +kernel
theorem dX4_readRow_0 : decode cX4_readRow 0 = .ok (.aload_n 0, 1) := by decide +kernel
theorem dX4_readRow_1 : decode cX4_readRow 1 = .ok (.iconst 1, 1) := by decide +kernel
theorem dX4_readRow_2 : decode cX4_readRow 2 = .ok (.bipush 8, 2) := by decide +kernel
theorem dX4_readRow_4 : decode cX4_readRow 4 = .ok (.invokevirtual 93, 3) := by decide +kernel
theorem dX4_readRow_7 : decode cX4_readRow 7 = .ok (.istore 4, 2) := by decide +kernel
theorem dX4_readRow_9 : decode cX4_readRow 9 = .ok (.iload 4, 2) := by decide +kernel
theorem dX4_readRow_11 : decode cX4_readRow 11 = .ok (.iconst (-1), 1) := by decide +kernel
theorem dX4_readRow_12 : decode cX4_readRow 12 = .ok (.if_icmp .eq 12, 3) := by decide +kernel
theorem dX4_readRow_15 : decode cX4_readRow 15 = .ok (.aload_n 0, 1) := by decide +kernel
theorem dX4_readRow_16 : decode cX4_readRow 16 = .ok (.iload_n 1, 1) := by decide +kernel
theorem dX4_readRow_17 : decode cX4_readRow 17 = .ok (.iload_n 2, 1) := by decide +kernel
theorem dX4_readRow_18 : decode cX4_readRow 18 = .ok (.invokevirtual 46, 3) := by decide +kernel
theorem dX4_readRow_21 : decode cX4_readRow 21 = .ok (.ifCond .ne 5, 3) := by decide +kernel
theorem dX4_readRow_24 : decode cX4_readRow 24 = .ok (.iconst 0, 1) := by decide +kernel
theorem dX4_readRow_25 : decode cX4_readRow 25 = .ok (.ireturn, 1) := by decide +kernel
theorem dX4_readRow_26 : decode cX4_readRow 26 = .ok (.aload_n 0, 1) := by decide +kernel
theorem dX4_readRow_27 : decode cX4_readRow 27 = .ok (.getfield 34, 3) := by decide +kernel
theorem dX4_readRow_30 : decode cX4_readRow 30 = .ok (.aload_n 0, 1) := by decide +kernel
theorem dX4_readRow_31 : decode cX4_readRow 31 = .ok (.getfield 30, 3) := by decide +kernel
theorem dX4_readRow_34 : decode cX4_readRow 34 = .ok (.iload_n 2, 1) := by decide +kernel
theorem dX4_readRow_35 : decode cX4_readRow 35 = .ok (.aaload, 1) := by decide +kernel
theorem dX4_readRow_36 : decode cX4_readRow 36 = .ok (.invokevirtual 64, 3) := by decide +kernel
theorem dX4_readRow_39 : decode cX4_readRow 39 = .ok (.iconst 1, 1) := by decide +kernel
theorem dX4_readRow_40 : decode cX4_readRow 40 = .ok (.istore 5, 2) := by decide +kernel
theorem dX4_readRow_42 : decode cX4_readRow 42 = .ok (.iload 5, 2) := by decide +kernel
theorem dX4_readRow_44 : decode cX4_readRow 44 = .ok (.iload 4, 2) := by decide +kernel
theorem dX4_readRow_46 : decode cX4_readRow 46 = .ok (.if_icmp .ge 35, 3) := by decide +kernel
theorem dX4_readRow_49 : decode cX4_readRow 49 = .ok (.aload_n 0, 1) := by decide +kernel
theorem dX4_readRow_50 : decode cX4_readRow 50 = .ok (.getfield 30, 3) := by decide +kernel
theorem dX4_readRow_53 : decode cX4_readRow 53 = .ok (.iload_n 2, 1) := by decide +kernel
theorem dX4_readRow_54 : decode cX4_readRow 54 = .ok (.aaload, 1) := by decide +kernel
theorem dX4_readRow_55 : decode cX4_readRow 55 = .ok (.aload_n 0, 1) := by decide +kernel
theorem dX4_readRow_56 : decode cX4_readRow 56 = .ok (.getfield 34, 3) := by decide +kernel
theorem dX4_readRow_59 : decode cX4_readRow 59 = .ok (.invokevirtual 108, 3) := by decide +kernel
theorem dX4_readRow_62 : decode cX4_readRow 62 = .ok (.ifCond .ne 13, 3) := by decide +kernel
theorem dX4_readRow_65 : decode cX4_readRow 65 = .ok (.aload_n 0, 1) := by decide +kernel
theorem dX4_readRow_66 : decode cX4_readRow 66 = .ok (.getfield 9, 3) := by decide +kernel
theorem dX4_readRow_69 : decode cX4_readRow 69 = .ok (.iconst 4, 1) := by decide +kernel
theorem dX4_readRow_70 : decode cX4_readRow 70 = .ok (.iload_n 3, 1) := by decide +kernel
theorem dX4_readRow_71 : decode cX4_readRow 71 = .ok (.invokevirtual 61, 3) := by decide +kernel
theorem dX4_readRow_74 : decode cX4_readRow 74 = .ok (.ireturn, 1) := by decide +kernel
theorem dX4_readRow_75 : decode cX4_readRow 75 = .ok (.iinc 5 1, 3) := by decide +kernel
theorem dX4_readRow_78 : decode cX4_readRow 78 = .ok (.goto (-36), 3) := by decide +kernel
theorem dX4_readRow_81 : decode cX4_readRow 81 = .ok (.iconst 1, 1) := by decide +kernel
theorem dX4_readRow_82 : decode cX4_readRow 82 = .ok (.ireturn, 1) := by decide +kernel
theorem dX4_readTurned_0 : decode cX4_readTurned 0 = .ok (.aload_n 0, 1) := by decide +kernel
theorem dX4_readTurned_1 : decode cX4_readTurned 1 = .ok (.iload_n 1, 1) := by decide +kernel
theorem dX4_readTurned_2 : decode cX4_readTurned 2 = .ok (.iload_n 2, 1) := by decide +kernel
theorem dX4_readTurned_3 : decode cX4_readTurned 3 = .ok (.invokevirtual 46, 3) := by decide +kernel
theorem dX4_readTurned_6 : decode cX4_readTurned 6 = .ok (.ifCond .ne 5, 3) := by decide +kernel
theorem dX4_readTurned_9 : decode cX4_readTurned 9 = .ok (.iconst 0, 1) := by decide +kernel
theorem dX4_readTurned_10 : decode cX4_readTurned 10 = .ok (.ireturn, 1) := by decide +kernel
theorem dX4_readTurned_11 : decode cX4_readTurned 11 = .ok (.aload_n 0, 1) := by decide +kernel
theorem dX4_readTurned_12 : decode cX4_readTurned 12 = .ok (.getfield 34, 3) := by decide +kernel
theorem dX4_readTurned_15 : decode cX4_readTurned 15 = .ok (.aload_n 0, 1) := by decide +kernel
theorem dX4_readTurned_16 : decode cX4_readTurned 16 = .ok (.getfield 30, 3) := by decide +kernel
theorem dX4_readTurned_19 : decode cX4_readTurned 19 = .ok (.iload_n 2, 1) := by decide +kernel
theorem dX4_readTurned_20 : decode cX4_readTurned 20 = .ok (.aaload, 1) := by decide +kernel
theorem dX4_readTurned_21 : decode cX4_readTurned 21 = .ok (.iload_n 3, 1) := by decide +kernel
theorem dX4_readTurned_22 : decode cX4_readTurned 22 = .ok (.iconst 3, 1) := by decide +kernel
theorem dX4_readTurned_23 : decode cX4_readTurned 23 = .ok (.if_icmp .ne 7, 3) := by decide +kernel
theorem dX4_readTurned_26 : decode cX4_readTurned 26 = .ok (.iconst 1, 1) := by decide +kernel
theorem dX4_readTurned_27 : decode cX4_readTurned 27 = .ok (.goto 4, 3) := by decide +kernel
theorem dX4_readTurned_30 : decode cX4_readTurned 30 = .ok (.iconst 0, 1) := by decide +kernel
theorem dX4_readTurned_31 : decode cX4_readTurned 31 = .ok (.iload_n 3, 1) := by decide +kernel
theorem dX4_readTurned_32 : decode cX4_readTurned 32 = .ok (.iconst 4, 1) := by decide +kernel
theorem dX4_readTurned_33 : decode cX4_readTurned 33 = .ok (.if_icmp .ne 7, 3) := by decide +kernel
theorem dX4_readTurned_36 : decode cX4_readTurned 36 = .ok (.iconst 1, 1) := by decide +kernel
theorem dX4_readTurned_37 : decode cX4_readTurned 37 = .ok (.goto 4, 3) := by decide +kernel
theorem dX4_readTurned_40 : decode cX4_readTurned 40 = .ok (.iconst 0, 1) := by decide +kernel
theorem dX4_readTurned_41 : decode cX4_readTurned 41 = .ok (.invokevirtual 111, 3) := by decide +kernel
theorem dX4_readTurned_44 : decode cX4_readTurned 44 = .ok (.aload_n 0, 1) := by decide +kernel
theorem dX4_readTurned_45 : decode cX4_readTurned 45 = .ok (.getfield 30, 3) := by decide +kernel
theorem dX4_readTurned_48 : decode cX4_readTurned 48 = .ok (.iload_n 2, 1) := by decide +kernel
theorem dX4_readTurned_49 : decode cX4_readTurned 49 = .ok (.aaload, 1) := by decide +kernel
theorem dX4_readTurned_50 : decode cX4_readTurned 50 = .ok (.aload_n 0, 1) := by decide +kernel
theorem dX4_readTurned_51 : decode cX4_readTurned 51 = .ok (.getfield 34, 3) := by decide +kernel
theorem dX4_readTurned_54 : decode cX4_readTurned 54 = .ok (.invokevirtual 64, 3) := by decide +kernel
theorem dX4_readTurned_57 : decode cX4_readTurned 57 = .ok (.iconst 1, 1) := by decide +kernel
theorem dX4_readTurned_58 : decode cX4_readTurned 58 = .ok (.ireturn, 1) := by decide +kernel
theorem dX4_readPair_0 : decode cX4_readPair 0 = .ok (.iload_n 2, 1) := by decide +kernel
theorem dX4_readPair_1 : decode cX4_readPair 1 = .ok (.iconst 1, 1) := by decide +kernel
theorem dX4_readPair_2 : decode cX4_readPair 2 = .ok (.iadd, 1) := by decide +kernel
theorem dX4_readPair_3 : decode cX4_readPair 3 = .ok (.aload_n 0, 1) := by decide +kernel
theorem dX4_readPair_4 : decode cX4_readPair 4 = .ok (.getfield 30, 3) := by decide +kernel
theorem dX4_readPair_7 : decode cX4_readPair 7 = .ok (.arraylength, 1) := by decide +kernel
theorem dX4_readPair_8 : decode cX4_readPair 8 = .ok (.if_icmp .ge 23, 3) := by decide +kernel
theorem dX4_readPair_11 : decode cX4_readPair 11 = .ok (.aload_n 0, 1) := by decide +kernel
theorem dX4_readPair_12 : decode cX4_readPair 12 = .ok (.iload_n 1, 1) := by decide +kernel
theorem dX4_readPair_13 : decode cX4_readPair 13 = .ok (.iload_n 2, 1) := by decide +kernel
theorem dX4_readPair_14 : decode cX4_readPair 14 = .ok (.invokevirtual 46, 3) := by decide +kernel
theorem dX4_readPair_17 : decode cX4_readPair 17 = .ok (.ifCond .eq 14, 3) := by decide +kernel
theorem dX4_readPair_20 : decode cX4_readPair 20 = .ok (.aload_n 0, 1) := by decide +kernel
theorem dX4_readPair_21 : decode cX4_readPair 21 = .ok (.iload_n 1, 1) := by decide +kernel
theorem dX4_readPair_22 : decode cX4_readPair 22 = .ok (.iload_n 2, 1) := by decide +kernel
theorem dX4_readPair_23 : decode cX4_readPair 23 = .ok (.iconst 1, 1) := by decide +kernel
theorem dX4_readPair_24 : decode cX4_readPair 24 = .ok (.iadd, 1) := by decide +kernel
theorem dX4_readPair_25 : decode cX4_readPair 25 = .ok (.invokevirtual 46, 3) := by decide +kernel
theorem dX4_readPair_28 : decode cX4_readPair 28 = .ok (.ifCond .ne 5, 3) := by decide +kernel
theorem dX4_readPair_31 : decode cX4_readPair 31 = .ok (.iconst 0, 1) := by decide +kernel
theorem dX4_readPair_32 : decode cX4_readPair 32 = .ok (.ireturn, 1) := by decide +kernel
theorem dX4_readPair_33 : decode cX4_readPair 33 = .ok (.aload_n 0, 1) := by decide +kernel
theorem dX4_readPair_34 : decode cX4_readPair 34 = .ok (.getfield 30, 3) := by decide +kernel
theorem dX4_readPair_37 : decode cX4_readPair 37 = .ok (.iload_n 2, 1) := by decide +kernel
theorem dX4_readPair_38 : decode cX4_readPair 38 = .ok (.aaload, 1) := by decide +kernel
theorem dX4_readPair_39 : decode cX4_readPair 39 = .ok (.astore 5, 2) := by decide +kernel
theorem dX4_readPair_41 : decode cX4_readPair 41 = .ok (.aload_n 0, 1) := by decide +kernel
theorem dX4_readPair_42 : decode cX4_readPair 42 = .ok (.getfield 30, 3) := by decide +kernel
theorem dX4_readPair_45 : decode cX4_readPair 45 = .ok (.iload_n 2, 1) := by decide +kernel
theorem dX4_readPair_46 : decode cX4_readPair 46 = .ok (.iconst 1, 1) := by decide +kernel
theorem dX4_readPair_47 : decode cX4_readPair 47 = .ok (.iadd, 1) := by decide +kernel
theorem dX4_readPair_48 : decode cX4_readPair 48 = .ok (.aaload, 1) := by decide +kernel
theorem dX4_readPair_49 : decode cX4_readPair 49 = .ok (.astore 6, 2) := by decide +kernel
theorem dX4_readPair_51 : decode cX4_readPair 51 = .ok (.iload_n 3, 1) := by decide +kernel
theorem dX4_readPair_52 : decode cX4_readPair 52 = .ok (.iconst 5, 1) := by decide +kernel
theorem dX4_readPair_53 : decode cX4_readPair 53 = .ok (.if_icmp .ne 15, 3) := by decide +kernel
theorem dX4_readPair_56 : decode cX4_readPair 56 = .ok (.aload 5, 2) := by decide +kernel
theorem dX4_readPair_58 : decode cX4_readPair 58 = .ok (.aload 6, 2) := by decide +kernel
theorem dX4_readPair_60 : decode cX4_readPair 60 = .ok (.invokevirtual 108, 3) := by decide +kernel
theorem dX4_readPair_63 : decode cX4_readPair 63 = .ok (.istore 7, 2) := by decide +kernel
theorem dX4_readPair_65 : decode cX4_readPair 65 = .ok (.goto 30, 3) := by decide +kernel
theorem dX4_readPair_68 : decode cX4_readPair 68 = .ok (.iload_n 3, 1) := by decide +kernel
theorem dX4_readPair_69 : decode cX4_readPair 69 = .ok (.bipush 6, 2) := by decide +kernel
theorem dX4_readPair_71 : decode cX4_readPair 71 = .ok (.if_icmp .ne 15, 3) := by decide +kernel
theorem dX4_readPair_74 : decode cX4_readPair 74 = .ok (.aload 5, 2) := by decide +kernel
theorem dX4_readPair_76 : decode cX4_readPair 76 = .ok (.aload 6, 2) := by decide +kernel
theorem dX4_readPair_78 : decode cX4_readPair 78 = .ok (.invokevirtual 115, 3) := by decide +kernel
theorem dX4_readPair_81 : decode cX4_readPair 81 = .ok (.istore 7, 2) := by decide +kernel
theorem dX4_readPair_83 : decode cX4_readPair 83 = .ok (.goto 12, 3) := by decide +kernel
theorem dX4_readPair_86 : decode cX4_readPair 86 = .ok (.aload 5, 2) := by decide +kernel
theorem dX4_readPair_88 : decode cX4_readPair 88 = .ok (.aload 6, 2) := by decide +kernel
theorem dX4_readPair_90 : decode cX4_readPair 90 = .ok (.invokevirtual 118, 3) := by decide +kernel
theorem dX4_readPair_93 : decode cX4_readPair 93 = .ok (.istore 7, 2) := by decide +kernel
theorem dX4_readPair_95 : decode cX4_readPair 95 = .ok (.iload 7, 2) := by decide +kernel
theorem dX4_readPair_97 : decode cX4_readPair 97 = .ok (.ifCond .ne 16, 3) := by decide +kernel
theorem dX4_readPair_100 : decode cX4_readPair 100 = .ok (.aload_n 0, 1) := by decide +kernel
theorem dX4_readPair_101 : decode cX4_readPair 101 = .ok (.getfield 9, 3) := by decide +kernel
theorem dX4_readPair_104 : decode cX4_readPair 104 = .ok (.iconst 4, 1) := by decide +kernel
theorem dX4_readPair_105 : decode cX4_readPair 105 = .ok (.iload 4, 2) := by decide +kernel
theorem dX4_readPair_107 : decode cX4_readPair 107 = .ok (.invokevirtual 61, 3) := by decide +kernel
theorem dX4_readPair_110 : decode cX4_readPair 110 = .ok (.ifCond .eq 7, 3) := by decide +kernel
theorem dX4_readPair_113 : decode cX4_readPair 113 = .ok (.iconst 1, 1) := by decide +kernel
theorem dX4_readPair_114 : decode cX4_readPair 114 = .ok (.goto 4, 3) := by decide +kernel
theorem dX4_readPair_117 : decode cX4_readPair 117 = .ok (.iconst 0, 1) := by decide +kernel
theorem dX4_readPair_118 : decode cX4_readPair 118 = .ok (.ireturn, 1) := by decide +kernel
theorem dX4_readNumber_0 : decode cX4_readNumber 0 = .ok (.aload_n 0, 1) := by decide +kernel
theorem dX4_readNumber_1 : decode cX4_readNumber 1 = .ok (.getfield 24, 3) := by decide +kernel
theorem dX4_readNumber_4 : decode cX4_readNumber 4 = .ok (.invokevirtual 50, 3) := by decide +kernel
theorem dX4_readNumber_7 : decode cX4_readNumber 7 = .ok (.aload_n 0, 1) := by decide +kernel
theorem dX4_readNumber_8 : decode cX4_readNumber 8 = .ok (.getfield 24, 3) := by decide +kernel
theorem dX4_readNumber_11 : decode cX4_readNumber 11 = .ok (.getfield 121, 3) := by decide +kernel
theorem dX4_readNumber_14 : decode cX4_readNumber 14 = .ok (.istore_n 3, 1) := by decide +kernel
theorem dX4_readNumber_15 : decode cX4_readNumber 15 = .ok (.iload_n 3, 1) := by decide +kernel
theorem dX4_readNumber_16 : decode cX4_readNumber 16 = .ok (.iconst (-1), 1) := by decide +kernel
theorem dX4_readNumber_17 : decode cX4_readNumber 17 = .ok (.if_icmp .ne 21, 3) := by decide +kernel
theorem dX4_readNumber_20 : decode cX4_readNumber 20 = .ok (.aload_n 0, 1) := by decide +kernel
theorem dX4_readNumber_21 : decode cX4_readNumber 21 = .ok (.getfield 9, 3) := by decide +kernel
theorem dX4_readNumber_24 : decode cX4_readNumber 24 = .ok (.iconst 1, 1) := by decide +kernel
theorem dX4_readNumber_25 : decode cX4_readNumber 25 = .ok (.aload_n 0, 1) := by decide +kernel
theorem dX4_readNumber_26 : decode cX4_readNumber 26 = .ok (.getfield 24, 3) := by decide +kernel
theorem dX4_readNumber_29 : decode cX4_readNumber 29 = .ok (.getfield 57, 3) := by decide +kernel
theorem dX4_readNumber_32 : decode cX4_readNumber 32 = .ok (.invokevirtual 61, 3) := by decide +kernel
theorem dX4_readNumber_35 : decode cX4_readNumber 35 = .ok (.pop, 1) := by decide +kernel
theorem dX4_readNumber_36 : decode cX4_readNumber 36 = .ok (.iconst (-1), 1) := by decide +kernel
theorem dX4_readNumber_37 : decode cX4_readNumber 37 = .ok (.ireturn, 1) := by decide +kernel
theorem dX4_readNumber_38 : decode cX4_readNumber 38 = .ok (.iload_n 3, 1) := by decide +kernel
theorem dX4_readNumber_39 : decode cX4_readNumber 39 = .ok (.iload_n 1, 1) := by decide +kernel
theorem dX4_readNumber_40 : decode cX4_readNumber 40 = .ok (.if_icmp .lt 8, 3) := by decide +kernel
theorem dX4_readNumber_43 : decode cX4_readNumber 43 = .ok (.iload_n 3, 1) := by decide +kernel
theorem dX4_readNumber_44 : decode cX4_readNumber 44 = .ok (.iload_n 2, 1) := by decide +kernel
theorem dX4_readNumber_45 : decode cX4_readNumber 45 = .ok (.if_icmp .le 21, 3) := by decide +kernel
theorem dX4_readNumber_48 : decode cX4_readNumber 48 = .ok (.aload_n 0, 1) := by decide +kernel
theorem dX4_readNumber_49 : decode cX4_readNumber 49 = .ok (.getfield 9, 3) := by decide +kernel
theorem dX4_readNumber_52 : decode cX4_readNumber 52 = .ok (.iconst 2, 1) := by decide +kernel
theorem dX4_readNumber_53 : decode cX4_readNumber 53 = .ok (.aload_n 0, 1) := by decide +kernel
theorem dX4_readNumber_54 : decode cX4_readNumber 54 = .ok (.getfield 24, 3) := by decide +kernel
theorem dX4_readNumber_57 : decode cX4_readNumber 57 = .ok (.getfield 57, 3) := by decide +kernel
theorem dX4_readNumber_60 : decode cX4_readNumber 60 = .ok (.invokevirtual 61, 3) := by decide +kernel
theorem dX4_readNumber_63 : decode cX4_readNumber 63 = .ok (.pop, 1) := by decide +kernel
theorem dX4_readNumber_64 : decode cX4_readNumber 64 = .ok (.iconst (-1), 1) := by decide +kernel
theorem dX4_readNumber_65 : decode cX4_readNumber 65 = .ok (.ireturn, 1) := by decide +kernel
theorem dX4_readNumber_66 : decode cX4_readNumber 66 = .ok (.iload_n 3, 1) := by decide +kernel
theorem dX4_readNumber_67 : decode cX4_readNumber 67 = .ok (.ireturn, 1) := by decide +kernel
theorem dX5_init_0 : decode cX5_init 0 = .ok (.aload_n 0, 1) := by decide +kernel
theorem dX5_init_1 : decode cX5_init 1 = .ok (.invokespecial 3, 3) := by decide +kernel
theorem dX5_init_4 : decode cX5_init 4 = .ok (.aload_n 0, 1) := by decide +kernel
theorem dX5_init_5 : decode cX5_init 5 = .ok (.aload_n 1, 1) := by decide +kernel
theorem dX5_init_6 : decode cX5_init 6 = .ok (.putfield 9, 3) := by decide +kernel
theorem dX5_init_9 : decode cX5_init 9 = .ok (.return_, 1) := by decide +kernel
theorem dX5_rewind_0 : decode cX5_rewind 0 = .ok (.aload_n 0, 1) := by decide +kernel
theorem dX5_rewind_1 : decode cX5_rewind 1 = .ok (.iconst 0, 1) := by decide +kernel
theorem dX5_rewind_2 : decode cX5_rewind 2 = .ok (.putfield 15, 3) := by decide +kernel
theorem dX5_rewind_5 : decode cX5_rewind 5 = .ok (.return_, 1) := by decide +kernel
theorem dX5_advance_0 : decode cX5_advance 0 = .ok (.aload_n 0, 1) := by decide +kernel
theorem dX5_advance_1 : decode cX5_advance 1 = .ok (.getfield 15, 3) := by decide +kernel
theorem dX5_advance_4 : decode cX5_advance 4 = .ok (.aload_n 0, 1) := by decide +kernel
theorem dX5_advance_5 : decode cX5_advance 5 = .ok (.getfield 9, 3) := by decide +kernel
theorem dX5_advance_8 : decode cX5_advance 8 = .ok (.getfield 19, 3) := by decide +kernel
theorem dX5_advance_11 : decode cX5_advance 11 = .ok (.if_icmp .ge 33, 3) := by decide +kernel
theorem dX5_advance_14 : decode cX5_advance 14 = .ok (.aload_n 0, 1) := by decide +kernel
theorem dX5_advance_15 : decode cX5_advance 15 = .ok (.getfield 9, 3) := by decide +kernel
theorem dX5_advance_18 : decode cX5_advance 18 = .ok (.aload_n 0, 1) := by decide +kernel
theorem dX5_advance_19 : decode cX5_advance 19 = .ok (.getfield 15, 3) := by decide +kernel
theorem dX5_advance_22 : decode cX5_advance 22 = .ok (.invokevirtual 24, 3) := by decide +kernel
theorem dX5_advance_25 : decode cX5_advance 25 = .ok (.invokestatic 28, 3) := by decide +kernel
theorem dX5_advance_28 : decode cX5_advance 28 = .ok (.ifCond .eq 16, 3) := by decide +kernel
theorem dX5_advance_31 : decode cX5_advance 31 = .ok (.aload_n 0, 1) := by decide +kernel
theorem dX5_advance_32 : decode cX5_advance 32 = .ok (.dup, 1) := by decide +kernel
theorem dX5_advance_33 : decode cX5_advance 33 = .ok (.getfield 15, 3) := by decide +kernel
theorem dX5_advance_36 : decode cX5_advance 36 = .ok (.iconst 1, 1) := by decide +kernel
theorem dX5_advance_37 : decode cX5_advance 37 = .ok (.iadd, 1) := by decide +kernel
theorem dX5_advance_38 : decode cX5_advance 38 = .ok (.putfield 15, 3) := by decide +kernel
theorem dX5_advance_41 : decode cX5_advance 41 = .ok (.goto (-41), 3) := by decide +kernel
theorem dX5_advance_44 : decode cX5_advance 44 = .ok (.aload_n 0, 1) := by decide +kernel
theorem dX5_advance_45 : decode cX5_advance 45 = .ok (.aload_n 0, 1) := by decide +kernel
theorem dX5_advance_46 : decode cX5_advance 46 = .ok (.getfield 15, 3) := by decide +kernel
theorem dX5_advance_49 : decode cX5_advance 49 = .ok (.putfield 32, 3) := by decide +kernel
theorem dX5_advance_52 : decode cX5_advance 52 = .ok (.aload_n 0, 1) := by decide +kernel
theorem dX5_advance_53 : decode cX5_advance 53 = .ok (.iconst (-1), 1) := by decide +kernel
theorem dX5_advance_54 : decode cX5_advance 54 = .ok (.putfield 35, 3) := by decide +kernel
theorem dX5_advance_57 : decode cX5_advance 57 = .ok (.aload_n 0, 1) := by decide +kernel
theorem dX5_advance_58 : decode cX5_advance 58 = .ok (.aload_n 0, 1) := by decide +kernel
theorem dX5_advance_59 : decode cX5_advance 59 = .ok (.getfield 15, 3) := by decide +kernel
theorem dX5_advance_62 : decode cX5_advance 62 = .ok (.aload_n 0, 1) := by decide +kernel
theorem dX5_advance_63 : decode cX5_advance 63 = .ok (.getfield 9, 3) := by decide +kernel
theorem dX5_advance_66 : decode cX5_advance 66 = .ok (.getfield 19, 3) := by decide +kernel
theorem dX5_advance_69 : decode cX5_advance 69 = .ok (.if_icmp .lt 7, 3) := by decide +kernel
theorem dX5_advance_72 : decode cX5_advance 72 = .ok (.iconst 1, 1) := by decide +kernel
theorem dX5_advance_73 : decode cX5_advance 73 = .ok (.goto 4, 3) := by decide +kernel
theorem dX5_advance_76 : decode cX5_advance 76 = .ok (.iconst 0, 1) := by decide +kernel
theorem dX5_advance_77 : decode cX5_advance 77 = .ok (.putfield 38, 3) := by decide +kernel
theorem dX5_advance_80 : decode cX5_advance 80 = .ok (.aload_n 0, 1) := by decide +kernel
theorem dX5_advance_81 : decode cX5_advance 81 = .ok (.getfield 9, 3) := by decide +kernel
theorem dX5_advance_84 : decode cX5_advance 84 = .ok (.aload_n 0, 1) := by decide +kernel
theorem dX5_advance_85 : decode cX5_advance 85 = .ok (.getfield 15, 3) := by decide +kernel
theorem dX5_advance_88 : decode cX5_advance 88 = .ok (.invokevirtual 24, 3) := by decide +kernel
theorem dX5_advance_91 : decode cX5_advance 91 = .ok (.invokestatic 42, 3) := by decide +kernel
theorem dX5_advance_94 : decode cX5_advance 94 = .ok (.ifCond .eq 7, 3) := by decide +kernel
theorem dX5_advance_97 : decode cX5_advance 97 = .ok (.aload_n 0, 1) := by decide +kernel
theorem dX5_advance_98 : decode cX5_advance 98 = .ok (.invokevirtual 45, 3) := by decide +kernel
theorem dX5_advance_101 : decode cX5_advance 101 = .ok (.aload_n 0, 1) := by decide +kernel
theorem dX5_advance_102 : decode cX5_advance 102 = .ok (.getfield 35, 3) := by decide +kernel
theorem dX5_advance_105 : decode cX5_advance 105 = .ok (.iconst (-1), 1) := by decide +kernel
theorem dX5_advance_106 : decode cX5_advance 106 = .ok (.if_icmp .ne 47, 3) := by decide +kernel
theorem dX5_advance_109 : decode cX5_advance 109 = .ok (.aload_n 0, 1) := by decide +kernel
theorem dX5_advance_110 : decode cX5_advance 110 = .ok (.getfield 15, 3) := by decide +kernel
theorem dX5_advance_113 : decode cX5_advance 113 = .ok (.aload_n 0, 1) := by decide +kernel
theorem dX5_advance_114 : decode cX5_advance 114 = .ok (.getfield 9, 3) := by decide +kernel
theorem dX5_advance_117 : decode cX5_advance 117 = .ok (.getfield 19, 3) := by decide +kernel
theorem dX5_advance_120 : decode cX5_advance 120 = .ok (.if_icmp .ge 33, 3) := by decide +kernel
theorem dX5_advance_123 : decode cX5_advance 123 = .ok (.aload_n 0, 1) := by decide +kernel
theorem dX5_advance_124 : decode cX5_advance 124 = .ok (.getfield 9, 3) := by decide +kernel
theorem dX5_advance_127 : decode cX5_advance 127 = .ok (.aload_n 0, 1) := by decide +kernel
theorem dX5_advance_128 : decode cX5_advance 128 = .ok (.getfield 15, 3) := by decide +kernel
theorem dX5_advance_131 : decode cX5_advance 131 = .ok (.invokevirtual 24, 3) := by decide +kernel
theorem dX5_advance_134 : decode cX5_advance 134 = .ok (.invokestatic 48, 3) := by decide +kernel
theorem dX5_advance_137 : decode cX5_advance 137 = .ok (.ifCond .eq 16, 3) := by decide +kernel
theorem dX5_advance_140 : decode cX5_advance 140 = .ok (.aload_n 0, 1) := by decide +kernel
theorem dX5_advance_141 : decode cX5_advance 141 = .ok (.dup, 1) := by decide +kernel
theorem dX5_advance_142 : decode cX5_advance 142 = .ok (.getfield 15, 3) := by decide +kernel
theorem dX5_advance_145 : decode cX5_advance 145 = .ok (.iconst 1, 1) := by decide +kernel
theorem dX5_advance_146 : decode cX5_advance 146 = .ok (.iadd, 1) := by decide +kernel
theorem dX5_advance_147 : decode cX5_advance 147 = .ok (.putfield 15, 3) := by decide +kernel
theorem dX5_advance_150 : decode cX5_advance 150 = .ok (.goto (-49), 3) := by decide +kernel
theorem dX5_advance_153 : decode cX5_advance 153 = .ok (.return_, 1) := by decide +kernel
theorem dX5_takeNumber_0 : decode cX5_takeNumber 0 = .ok (.aload_n 0, 1) := by decide +kernel
theorem dX5_takeNumber_1 : decode cX5_takeNumber 1 = .ok (.iconst 0, 1) := by decide +kernel
theorem dX5_takeNumber_2 : decode cX5_takeNumber 2 = .ok (.putfield 35, 3) := by decide +kernel
theorem dX5_takeNumber_5 : decode cX5_takeNumber 5 = .ok (.aload_n 0, 1) := by decide +kernel
theorem dX5_takeNumber_6 : decode cX5_takeNumber 6 = .ok (.getfield 15, 3) := by decide +kernel
theorem dX5_takeNumber_9 : decode cX5_takeNumber 9 = .ok (.aload_n 0, 1) := by decide +kernel
theorem dX5_takeNumber_10 : decode cX5_takeNumber 10 = .ok (.getfield 9, 3) := by decide +kernel
theorem dX5_takeNumber_13 : decode cX5_takeNumber 13 = .ok (.getfield 19, 3) := by decide +kernel
theorem dX5_takeNumber_16 : decode cX5_takeNumber 16 = .ok (.if_icmp .ge 64, 3) := by decide +kernel
theorem dX5_takeNumber_19 : decode cX5_takeNumber 19 = .ok (.aload_n 0, 1) := by decide +kernel
theorem dX5_takeNumber_20 : decode cX5_takeNumber 20 = .ok (.getfield 9, 3) := by decide +kernel
theorem dX5_takeNumber_23 : decode cX5_takeNumber 23 = .ok (.aload_n 0, 1) := by decide +kernel
theorem dX5_takeNumber_24 : decode cX5_takeNumber 24 = .ok (.getfield 15, 3) := by decide +kernel
theorem dX5_takeNumber_27 : decode cX5_takeNumber 27 = .ok (.invokevirtual 24, 3) := by decide +kernel
theorem dX5_takeNumber_30 : decode cX5_takeNumber 30 = .ok (.invokestatic 42, 3) := by decide +kernel
theorem dX5_takeNumber_33 : decode cX5_takeNumber 33 = .ok (.ifCond .eq 47, 3) := by decide +kernel
theorem dX5_takeNumber_36 : decode cX5_takeNumber 36 = .ok (.aload_n 0, 1) := by decide +kernel
theorem dX5_takeNumber_37 : decode cX5_takeNumber 37 = .ok (.bipush 10, 2) := by decide +kernel
theorem dX5_takeNumber_39 : decode cX5_takeNumber 39 = .ok (.aload_n 0, 1) := by decide +kernel
theorem dX5_takeNumber_40 : decode cX5_takeNumber 40 = .ok (.getfield 35, 3) := by decide +kernel
theorem dX5_takeNumber_43 : decode cX5_takeNumber 43 = .ok (.imul, 1) := by decide +kernel
theorem dX5_takeNumber_44 : decode cX5_takeNumber 44 = .ok (.aload_n 0, 1) := by decide +kernel
theorem dX5_takeNumber_45 : decode cX5_takeNumber 45 = .ok (.getfield 9, 3) := by decide +kernel
theorem dX5_takeNumber_48 : decode cX5_takeNumber 48 = .ok (.aload_n 0, 1) := by decide +kernel
theorem dX5_takeNumber_49 : decode cX5_takeNumber 49 = .ok (.getfield 15, 3) := by decide +kernel
theorem dX5_takeNumber_52 : decode cX5_takeNumber 52 = .ok (.invokevirtual 24, 3) := by decide +kernel
theorem dX5_takeNumber_55 : decode cX5_takeNumber 55 = .ok (.iadd, 1) := by decide +kernel
theorem dX5_takeNumber_56 : decode cX5_takeNumber 56 = .ok (.bipush 48, 2) := by decide +kernel
theorem dX5_takeNumber_58 : decode cX5_takeNumber 58 = .ok (.isub, 1) := by decide +kernel
theorem dX5_takeNumber_59 : decode cX5_takeNumber 59 = .ok (.bipush 100, 2) := by decide +kernel
theorem dX5_takeNumber_61 : decode cX5_takeNumber 61 = .ok (.invokestatic 51, 3) := by decide +kernel
theorem dX5_takeNumber_64 : decode cX5_takeNumber 64 = .ok (.putfield 35, 3) := by decide +kernel
theorem dX5_takeNumber_67 : decode cX5_takeNumber 67 = .ok (.aload_n 0, 1) := by decide +kernel
theorem dX5_takeNumber_68 : decode cX5_takeNumber 68 = .ok (.dup, 1) := by decide +kernel
theorem dX5_takeNumber_69 : decode cX5_takeNumber 69 = .ok (.getfield 15, 3) := by decide +kernel
theorem dX5_takeNumber_72 : decode cX5_takeNumber 72 = .ok (.iconst 1, 1) := by decide +kernel
theorem dX5_takeNumber_73 : decode cX5_takeNumber 73 = .ok (.iadd, 1) := by decide +kernel
theorem dX5_takeNumber_74 : decode cX5_takeNumber 74 = .ok (.putfield 15, 3) := by decide +kernel
theorem dX5_takeNumber_77 : decode cX5_takeNumber 77 = .ok (.goto (-72), 3) := by decide +kernel
theorem dX5_takeNumber_80 : decode cX5_takeNumber 80 = .ok (.return_, 1) := by decide +kernel
theorem dX5_wordFound_0 : decode cX5_wordFound 0 = .ok (.aload_n 0, 1) := by decide +kernel
theorem dX5_wordFound_1 : decode cX5_wordFound 1 = .ok (.ldc 57, 2) := by decide +kernel
theorem dX5_wordFound_3 : decode cX5_wordFound 3 = .ok (.invokevirtual 59, 3) := by decide +kernel
theorem dX5_wordFound_6 : decode cX5_wordFound 6 = .ok (.ifCond .eq 5, 3) := by decide +kernel
theorem dX5_wordFound_9 : decode cX5_wordFound 9 = .ok (.iconst 1, 1) := by decide +kernel
theorem dX5_wordFound_10 : decode cX5_wordFound 10 = .ok (.ireturn, 1) := by decide +kernel
theorem dX5_wordFound_11 : decode cX5_wordFound 11 = .ok (.aload_n 0, 1) := by decide +kernel
theorem dX5_wordFound_12 : decode cX5_wordFound 12 = .ok (.ldc 63, 2) := by decide +kernel
theorem dX5_wordFound_14 : decode cX5_wordFound 14 = .ok (.invokevirtual 59, 3) := by decide +kernel
theorem dX5_wordFound_17 : decode cX5_wordFound 17 = .ok (.ifCond .eq 5, 3) := by decide +kernel
theorem dX5_wordFound_20 : decode cX5_wordFound 20 = .ok (.iconst 2, 1) := by decide +kernel
theorem dX5_wordFound_21 : decode cX5_wordFound 21 = .ok (.ireturn, 1) := by decide +kernel
theorem dX5_wordFound_22 : decode cX5_wordFound 22 = .ok (.aload_n 0, 1) := by decide +kernel
theorem dX5_wordFound_23 : decode cX5_wordFound 23 = .ok (.ldc 65, 2) := by decide +kernel
theorem dX5_wordFound_25 : decode cX5_wordFound 25 = .ok (.invokevirtual 59, 3) := by decide +kernel
theorem dX5_wordFound_28 : decode cX5_wordFound 28 = .ok (.ifCond .eq 5, 3) := by decide +kernel
theorem dX5_wordFound_31 : decode cX5_wordFound 31 = .ok (.iconst 3, 1) := by decide +kernel
theorem dX5_wordFound_32 : decode cX5_wordFound 32 = .ok (.ireturn, 1) := by decide +kernel
theorem dX5_wordFound_33 : decode cX5_wordFound 33 = .ok (.aload_n 0, 1) := by decide +kernel
theorem dX5_wordFound_34 : decode cX5_wordFound 34 = .ok (.ldc 67, 2) := by decide +kernel
theorem dX5_wordFound_36 : decode cX5_wordFound 36 = .ok (.invokevirtual 59, 3) := by decide +kernel
theorem dX5_wordFound_39 : decode cX5_wordFound 39 = .ok (.ifCond .eq 5, 3) := by decide +kernel
theorem dX5_wordFound_42 : decode cX5_wordFound 42 = .ok (.iconst 4, 1) := by decide +kernel
theorem dX5_wordFound_43 : decode cX5_wordFound 43 = .ok (.ireturn, 1) := by decide +kernel
theorem dX5_wordFound_44 : decode cX5_wordFound 44 = .ok (.aload_n 0, 1) := by decide +kernel
theorem dX5_wordFound_45 : decode cX5_wordFound 45 = .ok (.ldc 69, 2) := by decide +kernel
theorem dX5_wordFound_47 : decode cX5_wordFound 47 = .ok (.invokevirtual 59, 3) := by decide +kernel
theorem dX5_wordFound_50 : decode cX5_wordFound 50 = .ok (.ifCond .eq 5, 3) := by decide +kernel
theorem dX5_wordFound_53 : decode cX5_wordFound 53 = .ok (.iconst 5, 1) := by decide +kernel
theorem dX5_wordFound_54 : decode cX5_wordFound 54 = .ok (.ireturn, 1) := by decide +kernel
theorem dX5_wordFound_55 : decode cX5_wordFound 55 = .ok (.aload_n 0, 1) := by decide +kernel
theorem dX5_wordFound_56 : decode cX5_wordFound 56 = .ok (.ldc 71, 2) := by decide +kernel
theorem dX5_wordFound_58 : decode cX5_wordFound 58 = .ok (.invokevirtual 59, 3) := by decide +kernel
theorem dX5_wordFound_61 : decode cX5_wordFound 61 = .ok (.ifCond .eq 6, 3) := by decide +kernel
theorem dX5_wordFound_64 : decode cX5_wordFound 64 = .ok (.bipush 6, 2) := by decide +kernel
theorem dX5_wordFound_66 : decode cX5_wordFound 66 = .ok (.ireturn, 1) := by decide +kernel
theorem dX5_wordFound_67 : decode cX5_wordFound 67 = .ok (.aload_n 0, 1) := by decide +kernel
theorem dX5_wordFound_68 : decode cX5_wordFound 68 = .ok (.ldc 73, 2) := by decide +kernel
theorem dX5_wordFound_70 : decode cX5_wordFound 70 = .ok (.invokevirtual 59, 3) := by decide +kernel
theorem dX5_wordFound_73 : decode cX5_wordFound 73 = .ok (.ifCond .eq 6, 3) := by decide +kernel
theorem dX5_wordFound_76 : decode cX5_wordFound 76 = .ok (.bipush 7, 2) := by decide +kernel
theorem dX5_wordFound_78 : decode cX5_wordFound 78 = .ok (.ireturn, 1) := by decide +kernel
theorem dX5_wordFound_79 : decode cX5_wordFound 79 = .ok (.aload_n 0, 1) := by decide +kernel
theorem dX5_wordFound_80 : decode cX5_wordFound 80 = .ok (.ldc 75, 2) := by decide +kernel
theorem dX5_wordFound_82 : decode cX5_wordFound 82 = .ok (.invokevirtual 59, 3) := by decide +kernel
theorem dX5_wordFound_85 : decode cX5_wordFound 85 = .ok (.ifCond .eq 6, 3) := by decide +kernel
theorem dX5_wordFound_88 : decode cX5_wordFound 88 = .ok (.bipush 8, 2) := by decide +kernel
theorem dX5_wordFound_90 : decode cX5_wordFound 90 = .ok (.ireturn, 1) := by decide +kernel
theorem dX5_wordFound_91 : decode cX5_wordFound 91 = .ok (.aload_n 0, 1) := by decide +kernel
theorem dX5_wordFound_92 : decode cX5_wordFound 92 = .ok (.ldc 77, 2) := by decide +kernel
theorem dX5_wordFound_94 : decode cX5_wordFound 94 = .ok (.invokevirtual 59, 3) := by decide +kernel
theorem dX5_wordFound_97 : decode cX5_wordFound 97 = .ok (.ifCond .eq 6, 3) := by decide +kernel
theorem dX5_wordFound_100 : decode cX5_wordFound 100 = .ok (.bipush 9, 2) := by decide +kernel
theorem dX5_wordFound_102 : decode cX5_wordFound 102 = .ok (.ireturn, 1) := by decide +kernel
theorem dX5_wordFound_103 : decode cX5_wordFound 103 = .ok (.iconst 0, 1) := by decide +kernel
theorem dX5_wordFound_104 : decode cX5_wordFound 104 = .ok (.ireturn, 1) := by decide +kernel
theorem dX5_spells_0 : decode cX5_spells 0 = .ok (.aload_n 0, 1) := by decide +kernel
theorem dX5_spells_1 : decode cX5_spells 1 = .ok (.getfield 15, 3) := by decide +kernel
theorem dX5_spells_4 : decode cX5_spells 4 = .ok (.aload_n 0, 1) := by decide +kernel
theorem dX5_spells_5 : decode cX5_spells 5 = .ok (.getfield 32, 3) := by decide +kernel
theorem dX5_spells_8 : decode cX5_spells 8 = .ok (.isub, 1) := by decide +kernel
theorem dX5_spells_9 : decode cX5_spells 9 = .ok (.aload_n 1, 1) := by decide +kernel
theorem dX5_spells_10 : decode cX5_spells 10 = .ok (.invokevirtual 79, 3) := by decide +kernel
theorem dX5_spells_13 : decode cX5_spells 13 = .ok (.if_icmp .eq 5, 3) := by decide +kernel
theorem dX5_spells_16 : decode cX5_spells 16 = .ok (.iconst 0, 1) := by decide +kernel
theorem dX5_spells_17 : decode cX5_spells 17 = .ok (.ireturn, 1) := by decide +kernel
theorem dX5_spells_18 : decode cX5_spells 18 = .ok (.iconst 0, 1) := by decide +kernel
theorem dX5_spells_19 : decode cX5_spells 19 = .ok (.istore_n 2, 1) := by decide +kernel
theorem dX5_spells_20 : decode cX5_spells 20 = .ok (.iload_n 2, 1) := by decide +kernel
theorem dX5_spells_21 : decode cX5_spells 21 = .ok (.aload_n 1, 1) := by decide +kernel
theorem dX5_spells_22 : decode cX5_spells 22 = .ok (.invokevirtual 79, 3) := by decide +kernel
theorem dX5_spells_25 : decode cX5_spells 25 = .ok (.if_icmp .ge 32, 3) := by decide +kernel
theorem dX5_spells_28 : decode cX5_spells 28 = .ok (.aload_n 0, 1) := by decide +kernel
theorem dX5_spells_29 : decode cX5_spells 29 = .ok (.getfield 9, 3) := by decide +kernel
theorem dX5_spells_32 : decode cX5_spells 32 = .ok (.aload_n 0, 1) := by decide +kernel
theorem dX5_spells_33 : decode cX5_spells 33 = .ok (.getfield 32, 3) := by decide +kernel
theorem dX5_spells_36 : decode cX5_spells 36 = .ok (.iload_n 2, 1) := by decide +kernel
theorem dX5_spells_37 : decode cX5_spells 37 = .ok (.iadd, 1) := by decide +kernel
theorem dX5_spells_38 : decode cX5_spells 38 = .ok (.invokevirtual 24, 3) := by decide +kernel
theorem dX5_spells_41 : decode cX5_spells 41 = .ok (.aload_n 1, 1) := by decide +kernel
theorem dX5_spells_42 : decode cX5_spells 42 = .ok (.iload_n 2, 1) := by decide +kernel
theorem dX5_spells_43 : decode cX5_spells 43 = .ok (.invokevirtual 84, 3) := by decide +kernel
theorem dX5_spells_46 : decode cX5_spells 46 = .ok (.if_icmp .eq 5, 3) := by decide +kernel
theorem dX5_spells_49 : decode cX5_spells 49 = .ok (.iconst 0, 1) := by decide +kernel
theorem dX5_spells_50 : decode cX5_spells 50 = .ok (.ireturn, 1) := by decide +kernel
theorem dX5_spells_51 : decode cX5_spells 51 = .ok (.iinc 2 1, 3) := by decide +kernel
theorem dX5_spells_54 : decode cX5_spells 54 = .ok (.goto (-34), 3) := by decide +kernel
theorem dX5_spells_57 : decode cX5_spells 57 = .ok (.iconst 1, 1) := by decide +kernel
theorem dX5_spells_58 : decode cX5_spells 58 = .ok (.ireturn, 1) := by decide +kernel
theorem dX5_isBlank_0 : decode cX5_isBlank 0 = .ok (.iload_n 0, 1) := by decide +kernel
theorem dX5_isBlank_1 : decode cX5_isBlank 1 = .ok (.bipush 32, 2) := by decide +kernel
theorem dX5_isBlank_3 : decode cX5_isBlank 3 = .ok (.if_icmp .eq 9, 3) := by decide +kernel
theorem dX5_isBlank_6 : decode cX5_isBlank 6 = .ok (.iload_n 0, 1) := by decide +kernel
theorem dX5_isBlank_7 : decode cX5_isBlank 7 = .ok (.bipush 10, 2) := by decide +kernel
theorem dX5_isBlank_9 : decode cX5_isBlank 9 = .ok (.if_icmp .ne 7, 3) := by decide +kernel
theorem dX5_isBlank_12 : decode cX5_isBlank 12 = .ok (.iconst 1, 1) := by decide +kernel
theorem dX5_isBlank_13 : decode cX5_isBlank 13 = .ok (.goto 4, 3) := by decide +kernel
theorem dX5_isBlank_16 : decode cX5_isBlank 16 = .ok (.iconst 0, 1) := by decide +kernel
theorem dX5_isBlank_17 : decode cX5_isBlank 17 = .ok (.ireturn, 1) := by decide +kernel
theorem dX5_isDigit_0 : decode cX5_isDigit 0 = .ok (.iload_n 0, 1) := by decide +kernel
theorem dX5_isDigit_1 : decode cX5_isDigit 1 = .ok (.bipush 48, 2) := by decide +kernel
theorem dX5_isDigit_3 : decode cX5_isDigit 3 = .ok (.if_icmp .lt 13, 3) := by decide +kernel
theorem dX5_isDigit_6 : decode cX5_isDigit 6 = .ok (.iload_n 0, 1) := by decide +kernel
theorem dX5_isDigit_7 : decode cX5_isDigit 7 = .ok (.bipush 57, 2) := by decide +kernel
theorem dX5_isDigit_9 : decode cX5_isDigit 9 = .ok (.if_icmp .gt 7, 3) := by decide +kernel
theorem dX5_isDigit_12 : decode cX5_isDigit 12 = .ok (.iconst 1, 1) := by decide +kernel
theorem dX5_isDigit_13 : decode cX5_isDigit 13 = .ok (.goto 4, 3) := by decide +kernel
theorem dX5_isDigit_16 : decode cX5_isDigit 16 = .ok (.iconst 0, 1) := by decide +kernel
theorem dX5_isDigit_17 : decode cX5_isDigit 17 = .ok (.ireturn, 1) := by decide +kernel
theorem dX5_isLetter_0 : decode cX5_isLetter 0 = .ok (.iload_n 0, 1) := by decide +kernel
theorem dX5_isLetter_1 : decode cX5_isLetter 1 = .ok (.bipush 97, 2) := by decide +kernel
theorem dX5_isLetter_3 : decode cX5_isLetter 3 = .ok (.if_icmp .lt 13, 3) := by decide +kernel
theorem dX5_isLetter_6 : decode cX5_isLetter 6 = .ok (.iload_n 0, 1) := by decide +kernel
theorem dX5_isLetter_7 : decode cX5_isLetter 7 = .ok (.bipush 122, 2) := by decide +kernel
theorem dX5_isLetter_9 : decode cX5_isLetter 9 = .ok (.if_icmp .gt 7, 3) := by decide +kernel
theorem dX5_isLetter_12 : decode cX5_isLetter 12 = .ok (.iconst 1, 1) := by decide +kernel
theorem dX5_isLetter_13 : decode cX5_isLetter 13 = .ok (.goto 4, 3) := by decide +kernel
theorem dX5_isLetter_16 : decode cX5_isLetter 16 = .ok (.iconst 0, 1) := by decide +kernel
theorem dX5_isLetter_17 : decode cX5_isLetter 17 = .ok (.ireturn, 1) := by decide +kernel
theorem dX6_init_0 : decode cX6_init 0 = .ok (.aload_n 0, 1) := by decide +kernel
theorem dX6_init_1 : decode cX6_init 1 = .ok (.invokespecial 3, 3) := by decide +kernel
theorem dX6_init_4 : decode cX6_init 4 = .ok (.aload_n 0, 1) := by decide +kernel
theorem dX6_init_5 : decode cX6_init 5 = .ok (.sipush 256, 3) := by decide +kernel
theorem dX6_init_8 : decode cX6_init 8 = .ok (.newarray .int, 2) := by decide +kernel
theorem dX6_init_10 : decode cX6_init 10 = .ok (.putfield 9, 3) := by decide +kernel
theorem dX6_init_13 : decode cX6_init 13 = .ok (.aload_n 0, 1) := by decide +kernel
theorem dX6_init_14 : decode cX6_init 14 = .ok (.sipush 128, 3) := by decide +kernel
theorem dX6_init_17 : decode cX6_init 17 = .ok (.newarray .int, 2) := by decide +kernel
theorem dX6_init_19 : decode cX6_init 19 = .ok (.putfield 15, 3) := by decide +kernel
theorem dX6_init_22 : decode cX6_init 22 = .ok (.aload_n 0, 1) := by decide +kernel
theorem dX6_init_23 : decode cX6_init 23 = .ok (.aload_n 1, 1) := by decide +kernel
theorem dX6_init_24 : decode cX6_init 24 = .ok (.putfield 18, 3) := by decide +kernel
theorem dX6_init_27 : decode cX6_init 27 = .ok (.return_, 1) := by decide +kernel
theorem dX6_readInto_0 : decode cX6_readInto 0 = .ok (.aload_n 0, 1) := by decide +kernel
theorem dX6_readInto_1 : decode cX6_readInto 1 = .ok (.getfield 18, 3) := by decide +kernel
theorem dX6_readInto_4 : decode cX6_readInto 4 = .ok (.invokevirtual 22, 3) := by decide +kernel
theorem dX6_readInto_7 : decode cX6_readInto 7 = .ok (.aload_n 0, 1) := by decide +kernel
theorem dX6_readInto_8 : decode cX6_readInto 8 = .ok (.getfield 9, 3) := by decide +kernel
theorem dX6_readInto_11 : decode cX6_readInto 11 = .ok (.iconst 0, 1) := by decide +kernel
theorem dX6_readInto_12 : decode cX6_readInto 12 = .ok (.invokestatic 27, 3) := by decide +kernel
theorem dX6_readInto_15 : decode cX6_readInto 15 = .ok (.aload_n 0, 1) := by decide +kernel
theorem dX6_readInto_16 : decode cX6_readInto 16 = .ok (.getfield 15, 3) := by decide +kernel
theorem dX6_readInto_19 : decode cX6_readInto 19 = .ok (.iconst 0, 1) := by decide +kernel
theorem dX6_readInto_20 : decode cX6_readInto 20 = .ok (.invokestatic 27, 3) := by decide +kernel
theorem dX6_readInto_23 : decode cX6_readInto 23 = .ok (.aload_n 0, 1) := by decide +kernel
theorem dX6_readInto_24 : decode cX6_readInto 24 = .ok (.iconst 0, 1) := by decide +kernel
theorem dX6_readInto_25 : decode cX6_readInto 25 = .ok (.putfield 33, 3) := by decide +kernel
theorem dX6_readInto_28 : decode cX6_readInto 28 = .ok (.iload_n 2, 1) := by decide +kernel
theorem dX6_readInto_29 : decode cX6_readInto 29 = .ok (.istore 4, 2) := by decide +kernel
theorem dX6_readInto_31 : decode cX6_readInto 31 = .ok (.iload_n 3, 1) := by decide +kernel
theorem dX6_readInto_32 : decode cX6_readInto 32 = .ok (.istore 5, 2) := by decide +kernel
theorem dX6_readInto_34 : decode cX6_readInto 34 = .ok (.iconst 0, 1) := by decide +kernel
theorem dX6_readInto_35 : decode cX6_readInto 35 = .ok (.istore 6, 2) := by decide +kernel
theorem dX6_readInto_37 : decode cX6_readInto 37 = .ok (.iload 6, 2) := by decide +kernel
theorem dX6_readInto_39 : decode cX6_readInto 39 = .ok (.aload_n 0, 1) := by decide +kernel
theorem dX6_readInto_40 : decode cX6_readInto 40 = .ok (.getfield 18, 3) := by decide +kernel
theorem dX6_readInto_43 : decode cX6_readInto 43 = .ok (.getfield 37, 3) := by decide +kernel
theorem dX6_readInto_46 : decode cX6_readInto 46 = .ok (.if_icmp .ge 191, 3) := by decide +kernel
theorem dX6_readInto_49 : decode cX6_readInto 49 = .ok (.aload_n 0, 1) := by decide +kernel
theorem dX6_readInto_50 : decode cX6_readInto 50 = .ok (.getfield 18, 3) := by decide +kernel
theorem dX6_readInto_53 : decode cX6_readInto 53 = .ok (.iload 6, 2) := by decide +kernel
theorem dX6_readInto_55 : decode cX6_readInto 55 = .ok (.invokevirtual 40, 3) := by decide +kernel
theorem dX6_readInto_58 : decode cX6_readInto 58 = .ok (.istore 7, 2) := by decide +kernel
theorem dX6_readInto_60 : decode cX6_readInto 60 = .ok (.iload 7, 2) := by decide +kernel
theorem dX6_readInto_62 : decode cX6_readInto 62 = .ok (.bipush 97, 2) := by decide +kernel
theorem dX6_readInto_64 : decode cX6_readInto 64 = .ok (.if_icmp .lt 10, 3) := by decide +kernel
theorem dX6_readInto_67 : decode cX6_readInto 67 = .ok (.iload 7, 2) := by decide +kernel
theorem dX6_readInto_69 : decode cX6_readInto 69 = .ok (.bipush 100, 2) := by decide +kernel
theorem dX6_readInto_71 : decode cX6_readInto 71 = .ok (.if_icmp .le 14, 3) := by decide +kernel
theorem dX6_readInto_74 : decode cX6_readInto 74 = .ok (.aload_n 0, 1) := by decide +kernel
theorem dX6_readInto_75 : decode cX6_readInto 75 = .ok (.getfield 18, 3) := by decide +kernel
theorem dX6_readInto_78 : decode cX6_readInto 78 = .ok (.iconst 1, 1) := by decide +kernel
theorem dX6_readInto_79 : decode cX6_readInto 79 = .ok (.iload 6, 2) := by decide +kernel
theorem dX6_readInto_81 : decode cX6_readInto 81 = .ok (.invokevirtual 44, 3) := by decide +kernel
theorem dX6_readInto_84 : decode cX6_readInto 84 = .ok (.ireturn, 1) := by decide +kernel
theorem dX6_readInto_85 : decode cX6_readInto 85 = .ok (.iload 4, 2) := by decide +kernel
theorem dX6_readInto_87 : decode cX6_readInto 87 = .ok (.iload 7, 2) := by decide +kernel
theorem dX6_readInto_89 : decode cX6_readInto 89 = .ok (.invokestatic 48, 3) := by decide +kernel
theorem dX6_readInto_92 : decode cX6_readInto 92 = .ok (.iadd, 1) := by decide +kernel
theorem dX6_readInto_93 : decode cX6_readInto 93 = .ok (.istore 8, 2) := by decide +kernel
theorem dX6_readInto_95 : decode cX6_readInto 95 = .ok (.iload 5, 2) := by decide +kernel
theorem dX6_readInto_97 : decode cX6_readInto 97 = .ok (.iload 7, 2) := by decide +kernel
theorem dX6_readInto_99 : decode cX6_readInto 99 = .ok (.invokestatic 51, 3) := by decide +kernel
theorem dX6_readInto_102 : decode cX6_readInto 102 = .ok (.iadd, 1) := by decide +kernel
theorem dX6_readInto_103 : decode cX6_readInto 103 = .ok (.istore 9, 2) := by decide +kernel
theorem dX6_readInto_105 : decode cX6_readInto 105 = .ok (.aload_n 1, 1) := by decide +kernel
theorem dX6_readInto_106 : decode cX6_readInto 106 = .ok (.iload 8, 2) := by decide +kernel
theorem dX6_readInto_108 : decode cX6_readInto 108 = .ok (.iload 9, 2) := by decide +kernel
theorem dX6_readInto_110 : decode cX6_readInto 110 = .ok (.invokevirtual 54, 3) := by decide +kernel
theorem dX6_readInto_113 : decode cX6_readInto 113 = .ok (.ifCond .ne 14, 3) := by decide +kernel
theorem dX6_readInto_116 : decode cX6_readInto 116 = .ok (.aload_n 0, 1) := by decide +kernel
theorem dX6_readInto_117 : decode cX6_readInto 117 = .ok (.getfield 18, 3) := by decide +kernel
theorem dX6_readInto_120 : decode cX6_readInto 120 = .ok (.iconst 2, 1) := by decide +kernel
theorem dX6_readInto_121 : decode cX6_readInto 121 = .ok (.iload 6, 2) := by decide +kernel
theorem dX6_readInto_123 : decode cX6_readInto 123 = .ok (.invokevirtual 44, 3) := by decide +kernel
theorem dX6_readInto_126 : decode cX6_readInto 126 = .ok (.ireturn, 1) := by decide +kernel
theorem dX6_readInto_127 : decode cX6_readInto 127 = .ok (.iconst 2, 1) := by decide +kernel
theorem dX6_readInto_128 : decode cX6_readInto 128 = .ok (.aload_n 1, 1) := by decide +kernel
theorem dX6_readInto_129 : decode cX6_readInto 129 = .ok (.getfield 59, 3) := by decide +kernel
theorem dX6_readInto_132 : decode cX6_readInto 132 = .ok (.imul, 1) := by decide +kernel
theorem dX6_readInto_133 : decode cX6_readInto 133 = .ok (.iload 5, 2) := by decide +kernel
theorem dX6_readInto_135 : decode cX6_readInto 135 = .ok (.iload 9, 2) := by decide +kernel
theorem dX6_readInto_137 : decode cX6_readInto 137 = .ok (.invokestatic 62, 3) := by decide +kernel
theorem dX6_readInto_140 : decode cX6_readInto 140 = .ok (.imul, 1) := by decide +kernel
theorem dX6_readInto_141 : decode cX6_readInto 141 = .ok (.iload 4, 2) := by decide +kernel
theorem dX6_readInto_143 : decode cX6_readInto 143 = .ok (.iload 8, 2) := by decide +kernel
theorem dX6_readInto_145 : decode cX6_readInto 145 = .ok (.invokestatic 62, 3) := by decide +kernel
theorem dX6_readInto_148 : decode cX6_readInto 148 = .ok (.iadd, 1) := by decide +kernel
theorem dX6_readInto_149 : decode cX6_readInto 149 = .ok (.istore 10, 2) := by decide +kernel
theorem dX6_readInto_151 : decode cX6_readInto 151 = .ok (.aload_n 1, 1) := by decide +kernel
theorem dX6_readInto_152 : decode cX6_readInto 152 = .ok (.iload 10, 2) := by decide +kernel
theorem dX6_readInto_154 : decode cX6_readInto 154 = .ok (.invokevirtual 68, 3) := by decide +kernel
theorem dX6_readInto_157 : decode cX6_readInto 157 = .ok (.ifCond .eq 13, 3) := by decide +kernel
theorem dX6_readInto_160 : decode cX6_readInto 160 = .ok (.aload_n 0, 1) := by decide +kernel
theorem dX6_readInto_161 : decode cX6_readInto 161 = .ok (.getfield 9, 3) := by decide +kernel
theorem dX6_readInto_164 : decode cX6_readInto 164 = .ok (.iload 10, 2) := by decide +kernel
theorem dX6_readInto_166 : decode cX6_readInto 166 = .ok (.iaload, 1) := by decide +kernel
theorem dX6_readInto_167 : decode cX6_readInto 167 = .ok (.ifCond .eq 14, 3) := by decide +kernel
theorem dX6_readInto_170 : decode cX6_readInto 170 = .ok (.aload_n 0, 1) := by decide +kernel
theorem dX6_readInto_171 : decode cX6_readInto 171 = .ok (.getfield 18, 3) := by decide +kernel
theorem dX6_readInto_174 : decode cX6_readInto 174 = .ok (.iconst 3, 1) := by decide +kernel
theorem dX6_readInto_175 : decode cX6_readInto 175 = .ok (.iload 6, 2) := by decide +kernel
theorem dX6_readInto_177 : decode cX6_readInto 177 = .ok (.invokevirtual 44, 3) := by decide +kernel
theorem dX6_readInto_180 : decode cX6_readInto 180 = .ok (.ireturn, 1) := by decide +kernel
theorem dX6_readInto_181 : decode cX6_readInto 181 = .ok (.aload_n 0, 1) := by decide +kernel
theorem dX6_readInto_182 : decode cX6_readInto 182 = .ok (.getfield 9, 3) := by decide +kernel
theorem dX6_readInto_185 : decode cX6_readInto 185 = .ok (.iload 10, 2) := by decide +kernel
theorem dX6_readInto_187 : decode cX6_readInto 187 = .ok (.iconst 1, 1) := by decide +kernel
theorem dX6_readInto_188 : decode cX6_readInto 188 = .ok (.iastore, 1) := by decide +kernel
theorem dX6_readInto_189 : decode cX6_readInto 189 = .ok (.iload 6, 2) := by decide +kernel
theorem dX6_readInto_191 : decode cX6_readInto 191 = .ok (.ifCond .le 14, 3) := by decide +kernel
theorem dX6_readInto_194 : decode cX6_readInto 194 = .ok (.aload_n 0, 1) := by decide +kernel
theorem dX6_readInto_195 : decode cX6_readInto 195 = .ok (.aload_n 1, 1) := by decide +kernel
theorem dX6_readInto_196 : decode cX6_readInto 196 = .ok (.iload 4, 2) := by decide +kernel
theorem dX6_readInto_198 : decode cX6_readInto 198 = .ok (.iload 5, 2) := by decide +kernel
theorem dX6_readInto_200 : decode cX6_readInto 200 = .ok (.iload 7, 2) := by decide +kernel
theorem dX6_readInto_202 : decode cX6_readInto 202 = .ok (.invokevirtual 72, 3) := by decide +kernel
theorem dX6_readInto_205 : decode cX6_readInto 205 = .ok (.aload_n 0, 1) := by decide +kernel
theorem dX6_readInto_206 : decode cX6_readInto 206 = .ok (.iload 7, 2) := by decide +kernel
theorem dX6_readInto_208 : decode cX6_readInto 208 = .ok (.invokestatic 48, 3) := by decide +kernel
theorem dX6_readInto_211 : decode cX6_readInto 211 = .ok (.putfield 76, 3) := by decide +kernel
theorem dX6_readInto_214 : decode cX6_readInto 214 = .ok (.aload_n 0, 1) := by decide +kernel
theorem dX6_readInto_215 : decode cX6_readInto 215 = .ok (.iload 7, 2) := by decide +kernel
theorem dX6_readInto_217 : decode cX6_readInto 217 = .ok (.invokestatic 51, 3) := by decide +kernel
theorem dX6_readInto_220 : decode cX6_readInto 220 = .ok (.putfield 79, 3) := by decide +kernel
theorem dX6_readInto_223 : decode cX6_readInto 223 = .ok (.iload 8, 2) := by decide +kernel
theorem dX6_readInto_225 : decode cX6_readInto 225 = .ok (.istore 4, 2) := by decide +kernel
theorem dX6_readInto_227 : decode cX6_readInto 227 = .ok (.iload 9, 2) := by decide +kernel
theorem dX6_readInto_229 : decode cX6_readInto 229 = .ok (.istore 5, 2) := by decide +kernel
theorem dX6_readInto_231 : decode cX6_readInto 231 = .ok (.iinc 6 1, 3) := by decide +kernel
theorem dX6_readInto_234 : decode cX6_readInto 234 = .ok (.goto (-197), 3) := by decide +kernel
theorem dX6_readInto_237 : decode cX6_readInto 237 = .ok (.aload_n 0, 1) := by decide +kernel
theorem dX6_readInto_238 : decode cX6_readInto 238 = .ok (.getfield 18, 3) := by decide +kernel
theorem dX6_readInto_241 : decode cX6_readInto 241 = .ok (.getfield 37, 3) := by decide +kernel
theorem dX6_readInto_244 : decode cX6_readInto 244 = .ok (.ifCond .eq 15, 3) := by decide +kernel
theorem dX6_readInto_247 : decode cX6_readInto 247 = .ok (.iload 4, 2) := by decide +kernel
theorem dX6_readInto_249 : decode cX6_readInto 249 = .ok (.iload_n 2, 1) := by decide +kernel
theorem dX6_readInto_250 : decode cX6_readInto 250 = .ok (.if_icmp .ne 9, 3) := by decide +kernel
theorem dX6_readInto_253 : decode cX6_readInto 253 = .ok (.iload 5, 2) := by decide +kernel
theorem dX6_readInto_255 : decode cX6_readInto 255 = .ok (.iload_n 3, 1) := by decide +kernel
theorem dX6_readInto_256 : decode cX6_readInto 256 = .ok (.if_icmp .eq 19, 3) := by decide +kernel
theorem dX6_readInto_259 : decode cX6_readInto 259 = .ok (.aload_n 0, 1) := by decide +kernel
theorem dX6_readInto_260 : decode cX6_readInto 260 = .ok (.getfield 18, 3) := by decide +kernel
theorem dX6_readInto_263 : decode cX6_readInto 263 = .ok (.iconst 4, 1) := by decide +kernel
theorem dX6_readInto_264 : decode cX6_readInto 264 = .ok (.aload_n 0, 1) := by decide +kernel
theorem dX6_readInto_265 : decode cX6_readInto 265 = .ok (.getfield 18, 3) := by decide +kernel
theorem dX6_readInto_268 : decode cX6_readInto 268 = .ok (.getfield 37, 3) := by decide +kernel
theorem dX6_readInto_271 : decode cX6_readInto 271 = .ok (.invokevirtual 44, 3) := by decide +kernel
theorem dX6_readInto_274 : decode cX6_readInto 274 = .ok (.ireturn, 1) := by decide +kernel
theorem dX6_readInto_275 : decode cX6_readInto 275 = .ok (.aload_n 0, 1) := by decide +kernel
theorem dX6_readInto_276 : decode cX6_readInto 276 = .ok (.aload_n 1, 1) := by decide +kernel
theorem dX6_readInto_277 : decode cX6_readInto 277 = .ok (.iload 4, 2) := by decide +kernel
theorem dX6_readInto_279 : decode cX6_readInto 279 = .ok (.iload 5, 2) := by decide +kernel
theorem dX6_readInto_281 : decode cX6_readInto 281 = .ok (.aload_n 0, 1) := by decide +kernel
theorem dX6_readInto_282 : decode cX6_readInto 282 = .ok (.getfield 18, 3) := by decide +kernel
theorem dX6_readInto_285 : decode cX6_readInto 285 = .ok (.iconst 0, 1) := by decide +kernel
theorem dX6_readInto_286 : decode cX6_readInto 286 = .ok (.invokevirtual 40, 3) := by decide +kernel
theorem dX6_readInto_289 : decode cX6_readInto 289 = .ok (.invokevirtual 72, 3) := by decide +kernel
theorem dX6_readInto_292 : decode cX6_readInto 292 = .ok (.iconst 1, 1) := by decide +kernel
theorem dX6_readInto_293 : decode cX6_readInto 293 = .ok (.ireturn, 1) := by decide +kernel
theorem dX6_tellPoint_0 : decode cX6_tellPoint 0 = .ok (.aload_n 1, 1) := by decide +kernel
theorem dX6_tellPoint_1 : decode cX6_tellPoint 1 = .ok (.iload_n 2, 1) := by decide +kernel
theorem dX6_tellPoint_2 : decode cX6_tellPoint 2 = .ok (.iload_n 3, 1) := by decide +kernel
theorem dX6_tellPoint_3 : decode cX6_tellPoint 3 = .ok (.invokevirtual 82, 3) := by decide +kernel
theorem dX6_tellPoint_6 : decode cX6_tellPoint 6 = .ok (.ifCond .ne 4, 3) := by decide +kernel
theorem dX6_tellPoint_9 : decode cX6_tellPoint 9 = .ok (.return_, 1) := by decide +kernel
theorem dX6_tellPoint_10 : decode cX6_tellPoint 10 = .ok (.iconst 0, 1) := by decide +kernel
theorem dX6_tellPoint_11 : decode cX6_tellPoint 11 = .ok (.istore 5, 2) := by decide +kernel
theorem dX6_tellPoint_13 : decode cX6_tellPoint 13 = .ok (.aload_n 0, 1) := by decide +kernel
theorem dX6_tellPoint_14 : decode cX6_tellPoint 14 = .ok (.getfield 76, 3) := by decide +kernel
theorem dX6_tellPoint_17 : decode cX6_tellPoint 17 = .ok (.iload 4, 2) := by decide +kernel
theorem dX6_tellPoint_19 : decode cX6_tellPoint 19 = .ok (.invokestatic 48, 3) := by decide +kernel
theorem dX6_tellPoint_22 : decode cX6_tellPoint 22 = .ok (.if_icmp .eq 9, 3) := by decide +kernel
theorem dX6_tellPoint_25 : decode cX6_tellPoint 25 = .ok (.iconst 1, 1) := by decide +kernel
theorem dX6_tellPoint_26 : decode cX6_tellPoint 26 = .ok (.istore 5, 2) := by decide +kernel
theorem dX6_tellPoint_28 : decode cX6_tellPoint 28 = .ok (.goto 18, 3) := by decide +kernel
theorem dX6_tellPoint_31 : decode cX6_tellPoint 31 = .ok (.aload_n 0, 1) := by decide +kernel
theorem dX6_tellPoint_32 : decode cX6_tellPoint 32 = .ok (.getfield 79, 3) := by decide +kernel
theorem dX6_tellPoint_35 : decode cX6_tellPoint 35 = .ok (.iload 4, 2) := by decide +kernel
theorem dX6_tellPoint_37 : decode cX6_tellPoint 37 = .ok (.invokestatic 51, 3) := by decide +kernel
theorem dX6_tellPoint_40 : decode cX6_tellPoint 40 = .ok (.if_icmp .eq 6, 3) := by decide +kernel
theorem dX6_tellPoint_43 : decode cX6_tellPoint 43 = .ok (.iconst 2, 1) := by decide +kernel
theorem dX6_tellPoint_44 : decode cX6_tellPoint 44 = .ok (.istore 5, 2) := by decide +kernel
theorem dX6_tellPoint_46 : decode cX6_tellPoint 46 = .ok (.aload_n 1, 1) := by decide +kernel
theorem dX6_tellPoint_47 : decode cX6_tellPoint 47 = .ok (.iload_n 2, 1) := by decide +kernel
theorem dX6_tellPoint_48 : decode cX6_tellPoint 48 = .ok (.iload_n 3, 1) := by decide +kernel
theorem dX6_tellPoint_49 : decode cX6_tellPoint 49 = .ok (.iload 5, 2) := by decide +kernel
theorem dX6_tellPoint_51 : decode cX6_tellPoint 51 = .ok (.invokevirtual 85, 3) := by decide +kernel
theorem dX6_tellPoint_54 : decode cX6_tellPoint 54 = .ok (.iload_n 2, 1) := by decide +kernel
theorem dX6_tellPoint_55 : decode cX6_tellPoint 55 = .ok (.iload_n 3, 1) := by decide +kernel
theorem dX6_tellPoint_56 : decode cX6_tellPoint 56 = .ok (.invokestatic 89, 3) := by decide +kernel
theorem dX6_tellPoint_59 : decode cX6_tellPoint 59 = .ok (.istore 6, 2) := by decide +kernel
theorem dX6_tellPoint_61 : decode cX6_tellPoint 61 = .ok (.aload_n 0, 1) := by decide +kernel
theorem dX6_tellPoint_62 : decode cX6_tellPoint 62 = .ok (.getfield 15, 3) := by decide +kernel
theorem dX6_tellPoint_65 : decode cX6_tellPoint 65 = .ok (.iload 6, 2) := by decide +kernel
theorem dX6_tellPoint_67 : decode cX6_tellPoint 67 = .ok (.iaload, 1) := by decide +kernel
theorem dX6_tellPoint_68 : decode cX6_tellPoint 68 = .ok (.ifCond .ne 21, 3) := by decide +kernel
theorem dX6_tellPoint_71 : decode cX6_tellPoint 71 = .ok (.aload_n 0, 1) := by decide +kernel
theorem dX6_tellPoint_72 : decode cX6_tellPoint 72 = .ok (.getfield 15, 3) := by decide +kernel
theorem dX6_tellPoint_75 : decode cX6_tellPoint 75 = .ok (.iload 6, 2) := by decide +kernel
theorem dX6_tellPoint_77 : decode cX6_tellPoint 77 = .ok (.iconst 1, 1) := by decide +kernel
theorem dX6_tellPoint_78 : decode cX6_tellPoint 78 = .ok (.iastore, 1) := by decide +kernel
theorem dX6_tellPoint_79 : decode cX6_tellPoint 79 = .ok (.aload_n 0, 1) := by decide +kernel
theorem dX6_tellPoint_80 : decode cX6_tellPoint 80 = .ok (.dup, 1) := by decide +kernel
theorem dX6_tellPoint_81 : decode cX6_tellPoint 81 = .ok (.getfield 33, 3) := by decide +kernel
theorem dX6_tellPoint_84 : decode cX6_tellPoint 84 = .ok (.iconst 1, 1) := by decide +kernel
theorem dX6_tellPoint_85 : decode cX6_tellPoint 85 = .ok (.iadd, 1) := by decide +kernel
theorem dX6_tellPoint_86 : decode cX6_tellPoint 86 = .ok (.putfield 33, 3) := by decide +kernel
theorem dX6_tellPoint_89 : decode cX6_tellPoint 89 = .ok (.return_, 1) := by decide +kernel
theorem dX6_rightOf_0 : decode cX6_rightOf 0 = .ok (.iload_n 0, 1) := by decide +kernel
theorem dX6_rightOf_1 : decode cX6_rightOf 1 = .ok (.bipush 97, 2) := by decide +kernel
theorem dX6_rightOf_3 : decode cX6_rightOf 3 = .ok (.if_icmp .eq 9, 3) := by decide +kernel
theorem dX6_rightOf_6 : decode cX6_rightOf 6 = .ok (.iload_n 0, 1) := by decide +kernel
theorem dX6_rightOf_7 : decode cX6_rightOf 7 = .ok (.bipush 100, 2) := by decide +kernel
theorem dX6_rightOf_9 : decode cX6_rightOf 9 = .ok (.if_icmp .ne 7, 3) := by decide +kernel
theorem dX6_rightOf_12 : decode cX6_rightOf 12 = .ok (.iconst 1, 1) := by decide +kernel
theorem dX6_rightOf_13 : decode cX6_rightOf 13 = .ok (.goto 4, 3) := by decide +kernel
theorem dX6_rightOf_16 : decode cX6_rightOf 16 = .ok (.iconst (-1), 1) := by decide +kernel
theorem dX6_rightOf_17 : decode cX6_rightOf 17 = .ok (.ireturn, 1) := by decide +kernel
theorem dX6_downOf_0 : decode cX6_downOf 0 = .ok (.iload_n 0, 1) := by decide +kernel
theorem dX6_downOf_1 : decode cX6_downOf 1 = .ok (.bipush 97, 2) := by decide +kernel
theorem dX6_downOf_3 : decode cX6_downOf 3 = .ok (.if_icmp .eq 9, 3) := by decide +kernel
theorem dX6_downOf_6 : decode cX6_downOf 6 = .ok (.iload_n 0, 1) := by decide +kernel
theorem dX6_downOf_7 : decode cX6_downOf 7 = .ok (.bipush 98, 2) := by decide +kernel
theorem dX6_downOf_9 : decode cX6_downOf 9 = .ok (.if_icmp .ne 7, 3) := by decide +kernel
theorem dX6_downOf_12 : decode cX6_downOf 12 = .ok (.iconst 1, 1) := by decide +kernel
theorem dX6_downOf_13 : decode cX6_downOf 13 = .ok (.goto 4, 3) := by decide +kernel
theorem dX6_downOf_16 : decode cX6_downOf 16 = .ok (.iconst (-1), 1) := by decide +kernel
theorem dX6_downOf_17 : decode cX6_downOf 17 = .ok (.ireturn, 1) := by decide +kernel
theorem dX7_init_0 : decode cX7_init 0 = .ok (.aload_n 0, 1) := by decide +kernel
theorem dX7_init_1 : decode cX7_init 1 = .ok (.invokespecial 1, 3) := by decide +kernel
theorem dX7_init_4 : decode cX7_init 4 = .ok (.aload_n 0, 1) := by decide +kernel
theorem dX7_init_5 : decode cX7_init 5 = .ok (.new 7, 3) := by decide +kernel
theorem dX7_init_8 : decode cX7_init 8 = .ok (.dup, 1) := by decide +kernel
theorem dX7_init_9 : decode cX7_init 9 = .ok (.invokespecial 9, 3) := by decide +kernel
theorem dX7_init_12 : decode cX7_init 12 = .ok (.putfield 10, 3) := by decide +kernel
theorem dX7_init_15 : decode cX7_init 15 = .ok (.aload_n 0, 1) := by decide +kernel
theorem dX7_init_16 : decode cX7_init 16 = .ok (.getfield 10, 3) := by decide +kernel
theorem dX7_init_19 : decode cX7_init 19 = .ok (.iload_n 1, 1) := by decide +kernel
theorem dX7_init_20 : decode cX7_init 20 = .ok (.iconst 1, 1) := by decide +kernel
theorem dX7_init_21 : decode cX7_init 21 = .ok (.invokestatic 16, 3) := by decide +kernel
theorem dX7_init_24 : decode cX7_init 24 = .ok (.bipush 8, 2) := by decide +kernel
theorem dX7_init_26 : decode cX7_init 26 = .ok (.invokestatic 22, 3) := by decide +kernel
theorem dX7_init_29 : decode cX7_init 29 = .ok (.iload_n 2, 1) := by decide +kernel
theorem dX7_init_30 : decode cX7_init 30 = .ok (.iconst 1, 1) := by decide +kernel
theorem dX7_init_31 : decode cX7_init 31 = .ok (.invokestatic 16, 3) := by decide +kernel
theorem dX7_init_34 : decode cX7_init 34 = .ok (.bipush 8, 2) := by decide +kernel
theorem dX7_init_36 : decode cX7_init 36 = .ok (.invokestatic 22, 3) := by decide +kernel
theorem dX7_init_39 : decode cX7_init 39 = .ok (.invokevirtual 25, 3) := by decide +kernel
theorem dX7_init_42 : decode cX7_init 42 = .ok (.aload_n 0, 1) := by decide +kernel
theorem dX7_init_43 : decode cX7_init 43 = .ok (.new 7, 3) := by decide +kernel
theorem dX7_init_46 : decode cX7_init 46 = .ok (.dup, 1) := by decide +kernel
theorem dX7_init_47 : decode cX7_init 47 = .ok (.invokespecial 9, 3) := by decide +kernel
theorem dX7_init_50 : decode cX7_init 50 = .ok (.putfield 29, 3) := by decide +kernel
theorem dX7_init_53 : decode cX7_init 53 = .ok (.aload_n 0, 1) := by decide +kernel
theorem dX7_init_54 : decode cX7_init 54 = .ok (.sipush 128, 3) := by decide +kernel
theorem dX7_init_57 : decode cX7_init 57 = .ok (.newarray .int, 2) := by decide +kernel
theorem dX7_init_59 : decode cX7_init 59 = .ok (.putfield 32, 3) := by decide +kernel
theorem dX7_init_62 : decode cX7_init 62 = .ok (.aload_n 0, 1) := by decide +kernel
theorem dX7_init_63 : decode cX7_init 63 = .ok (.bipush 8, 2) := by decide +kernel
theorem dX7_init_65 : decode cX7_init 65 = .ok (.anewarray 7, 3) := by decide +kernel
theorem dX7_init_68 : decode cX7_init 68 = .ok (.putfield 36, 3) := by decide +kernel
theorem dX7_init_71 : decode cX7_init 71 = .ok (.aload_n 0, 1) := by decide +kernel
theorem dX7_init_72 : decode cX7_init 72 = .ok (.new 40, 3) := by decide +kernel
theorem dX7_init_75 : decode cX7_init 75 = .ok (.dup, 1) := by decide +kernel
theorem dX7_init_76 : decode cX7_init 76 = .ok (.invokespecial 42, 3) := by decide +kernel
theorem dX7_init_79 : decode cX7_init 79 = .ok (.putfield 43, 3) := by decide +kernel
theorem dX7_init_82 : decode cX7_init 82 = .ok (.aload_n 0, 1) := by decide +kernel
theorem dX7_init_83 : decode cX7_init 83 = .ok (.new 47, 3) := by decide +kernel
theorem dX7_init_86 : decode cX7_init 86 = .ok (.dup, 1) := by decide +kernel
theorem dX7_init_87 : decode cX7_init 87 = .ok (.invokespecial 49, 3) := by decide +kernel
theorem dX7_init_90 : decode cX7_init 90 = .ok (.putfield 50, 3) := by decide +kernel
theorem dX7_init_93 : decode cX7_init 93 = .ok (.aload_n 0, 1) := by decide +kernel
theorem dX7_init_94 : decode cX7_init 94 = .ok (.new 54, 3) := by decide +kernel
theorem dX7_init_97 : decode cX7_init 97 = .ok (.dup, 1) := by decide +kernel
theorem dX7_init_98 : decode cX7_init 98 = .ok (.invokespecial 56, 3) := by decide +kernel
theorem dX7_init_101 : decode cX7_init 101 = .ok (.putfield 57, 3) := by decide +kernel
theorem dX7_init_104 : decode cX7_init 104 = .ok (.aload_n 0, 1) := by decide +kernel
theorem dX7_init_105 : decode cX7_init 105 = .ok (.new 61, 3) := by decide +kernel
theorem dX7_init_108 : decode cX7_init 108 = .ok (.dup, 1) := by decide +kernel
theorem dX7_init_109 : decode cX7_init 109 = .ok (.aload_n 0, 1) := by decide +kernel
theorem dX7_init_110 : decode cX7_init 110 = .ok (.getfield 57, 3) := by decide +kernel
theorem dX7_init_113 : decode cX7_init 113 = .ok (.aload_n 0, 1) := by decide +kernel
theorem dX7_init_114 : decode cX7_init 114 = .ok (.getfield 36, 3) := by decide +kernel
theorem dX7_init_117 : decode cX7_init 117 = .ok (.invokespecial 63, 3) := by decide +kernel
theorem dX7_init_120 : decode cX7_init 120 = .ok (.putfield 66, 3) := by decide +kernel
theorem dX7_init_123 : decode cX7_init 123 = .ok (.aload_n 0, 1) := by decide +kernel
theorem dX7_init_124 : decode cX7_init 124 = .ok (.new 70, 3) := by decide +kernel
theorem dX7_init_127 : decode cX7_init 127 = .ok (.dup, 1) := by decide +kernel
theorem dX7_init_128 : decode cX7_init 128 = .ok (.aload_n 0, 1) := by decide +kernel
theorem dX7_init_129 : decode cX7_init 129 = .ok (.getfield 57, 3) := by decide +kernel
theorem dX7_init_132 : decode cX7_init 132 = .ok (.invokespecial 72, 3) := by decide +kernel
theorem dX7_init_135 : decode cX7_init 135 = .ok (.putfield 75, 3) := by decide +kernel
theorem dX7_init_138 : decode cX7_init 138 = .ok (.aload_n 0, 1) := by decide +kernel
theorem dX7_init_139 : decode cX7_init 139 = .ok (.iconst 0, 1) := by decide +kernel
theorem dX7_init_140 : decode cX7_init 140 = .ok (.putfield 79, 3) := by decide +kernel
theorem dX7_init_143 : decode cX7_init 143 = .ok (.aload_n 0, 1) := by decide +kernel
theorem dX7_init_144 : decode cX7_init 144 = .ok (.iconst 0, 1) := by decide +kernel
theorem dX7_init_145 : decode cX7_init 145 = .ok (.putfield 83, 3) := by decide +kernel
theorem dX7_init_148 : decode cX7_init 148 = .ok (.return_, 1) := by decide +kernel
theorem dX7_set_0 : decode cX7_set 0 = .ok (.aload_n 0, 1) := by decide +kernel
theorem dX7_set_1 : decode cX7_set 1 = .ok (.getfield 10, 3) := by decide +kernel
theorem dX7_set_4 : decode cX7_set 4 = .ok (.iload_n 1, 1) := by decide +kernel
theorem dX7_set_5 : decode cX7_set 5 = .ok (.iload_n 2, 1) := by decide +kernel
theorem dX7_set_6 : decode cX7_set 6 = .ok (.invokevirtual 86, 3) := by decide +kernel
theorem dX7_set_9 : decode cX7_set 9 = .ok (.ifCond .eq 12, 3) := by decide +kernel
theorem dX7_set_12 : decode cX7_set 12 = .ok (.iload_n 3, 1) := by decide +kernel
theorem dX7_set_13 : decode cX7_set 13 = .ok (.ifCond .lt 8, 3) := by decide +kernel
theorem dX7_set_16 : decode cX7_set 16 = .ok (.iload_n 3, 1) := by decide +kernel
theorem dX7_set_17 : decode cX7_set 17 = .ok (.iconst 2, 1) := by decide +kernel
theorem dX7_set_18 : decode cX7_set 18 = .ok (.if_icmp .le 5, 3) := by decide +kernel
theorem dX7_set_21 : decode cX7_set 21 = .ok (.iconst 0, 1) := by decide +kernel
theorem dX7_set_22 : decode cX7_set 22 = .ok (.ireturn, 1) := by decide +kernel
theorem dX7_set_23 : decode cX7_set 23 = .ok (.aload_n 0, 1) := by decide +kernel
theorem dX7_set_24 : decode cX7_set 24 = .ok (.getfield 10, 3) := by decide +kernel
theorem dX7_set_27 : decode cX7_set 27 = .ok (.iload_n 1, 1) := by decide +kernel
theorem dX7_set_28 : decode cX7_set 28 = .ok (.iload_n 2, 1) := by decide +kernel
theorem dX7_set_29 : decode cX7_set 29 = .ok (.iload_n 3, 1) := by decide +kernel
theorem dX7_set_30 : decode cX7_set 30 = .ok (.invokevirtual 90, 3) := by decide +kernel
theorem dX7_set_33 : decode cX7_set 33 = .ok (.aload_n 0, 1) := by decide +kernel
theorem dX7_set_34 : decode cX7_set 34 = .ok (.invokevirtual 94, 3) := by decide +kernel
theorem dX7_set_37 : decode cX7_set 37 = .ok (.iconst 1, 1) := by decide +kernel
theorem dX7_set_38 : decode cX7_set 38 = .ok (.ireturn, 1) := by decide +kernel
theorem dX7_mirror_0 : decode cX7_mirror 0 = .ok (.aload_n 0, 1) := by decide +kernel
theorem dX7_mirror_1 : decode cX7_mirror 1 = .ok (.getfield 10, 3) := by decide +kernel
theorem dX7_mirror_4 : decode cX7_mirror 4 = .ok (.iload_n 1, 1) := by decide +kernel
theorem dX7_mirror_5 : decode cX7_mirror 5 = .ok (.iload_n 2, 1) := by decide +kernel
theorem dX7_mirror_6 : decode cX7_mirror 6 = .ok (.invokevirtual 86, 3) := by decide +kernel
theorem dX7_mirror_9 : decode cX7_mirror 9 = .ok (.ifCond .eq 15, 3) := by decide +kernel
theorem dX7_mirror_12 : decode cX7_mirror 12 = .ok (.aload_n 0, 1) := by decide +kernel
theorem dX7_mirror_13 : decode cX7_mirror 13 = .ok (.getfield 10, 3) := by decide +kernel
theorem dX7_mirror_16 : decode cX7_mirror 16 = .ok (.iload_n 1, 1) := by decide +kernel
theorem dX7_mirror_17 : decode cX7_mirror 17 = .ok (.iload_n 2, 1) := by decide +kernel
theorem dX7_mirror_18 : decode cX7_mirror 18 = .ok (.invokevirtual 97, 3) := by decide +kernel
theorem dX7_mirror_21 : decode cX7_mirror 21 = .ok (.goto 4, 3) := by decide +kernel
theorem dX7_mirror_24 : decode cX7_mirror 24 = .ok (.iconst (-1), 1) := by decide +kernel
theorem dX7_mirror_25 : decode cX7_mirror 25 = .ok (.ireturn, 1) := by decide +kernel
theorem dX7_pin_0 : decode cX7_pin 0 = .ok (.aload_n 0, 1) := by decide +kernel
theorem dX7_pin_1 : decode cX7_pin 1 = .ok (.getfield 10, 3) := by decide +kernel
theorem dX7_pin_4 : decode cX7_pin 4 = .ok (.iload_n 1, 1) := by decide +kernel
theorem dX7_pin_5 : decode cX7_pin 5 = .ok (.iload_n 2, 1) := by decide +kernel
theorem dX7_pin_6 : decode cX7_pin 6 = .ok (.invokevirtual 86, 3) := by decide +kernel
theorem dX7_pin_9 : decode cX7_pin 9 = .ok (.ifCond .ne 5, 3) := by decide +kernel
theorem dX7_pin_12 : decode cX7_pin 12 = .ok (.iconst 0, 1) := by decide +kernel
theorem dX7_pin_13 : decode cX7_pin 13 = .ok (.ireturn, 1) := by decide +kernel
theorem dX7_pin_14 : decode cX7_pin 14 = .ok (.aload_n 0, 1) := by decide +kernel
theorem dX7_pin_15 : decode cX7_pin 15 = .ok (.getfield 32, 3) := by decide +kernel
theorem dX7_pin_18 : decode cX7_pin 18 = .ok (.iload_n 1, 1) := by decide +kernel
theorem dX7_pin_19 : decode cX7_pin 19 = .ok (.iload_n 2, 1) := by decide +kernel
theorem dX7_pin_20 : decode cX7_pin 20 = .ok (.invokestatic 100, 3) := by decide +kernel
theorem dX7_pin_23 : decode cX7_pin 23 = .ok (.iload_n 3, 1) := by decide +kernel
theorem dX7_pin_24 : decode cX7_pin 24 = .ok (.ifCond .eq 7, 3) := by decide +kernel
theorem dX7_pin_27 : decode cX7_pin 27 = .ok (.iconst 1, 1) := by decide +kernel
theorem dX7_pin_28 : decode cX7_pin 28 = .ok (.goto 4, 3) := by decide +kernel
theorem dX7_pin_31 : decode cX7_pin 31 = .ok (.iconst 0, 1) := by decide +kernel
theorem dX7_pin_32 : decode cX7_pin 32 = .ok (.iastore, 1) := by decide +kernel
theorem dX7_pin_33 : decode cX7_pin 33 = .ok (.aload_n 0, 1) := by decide +kernel
theorem dX7_pin_34 : decode cX7_pin 34 = .ok (.iconst 0, 1) := by decide +kernel
theorem dX7_pin_35 : decode cX7_pin 35 = .ok (.putfield 83, 3) := by decide +kernel
theorem dX7_pin_38 : decode cX7_pin 38 = .ok (.iconst 1, 1) := by decide +kernel
theorem dX7_pin_39 : decode cX7_pin 39 = .ok (.ireturn, 1) := by decide +kernel
theorem dX7_lines_0 : decode cX7_lines 0 = .ok (.aload_n 0, 1) := by decide +kernel
theorem dX7_lines_1 : decode cX7_lines 1 = .ok (.invokevirtual 103, 3) := by decide +kernel
theorem dX7_lines_4 : decode cX7_lines 4 = .ok (.aload_n 0, 1) := by decide +kernel
theorem dX7_lines_5 : decode cX7_lines 5 = .ok (.getfield 43, 3) := by decide +kernel
theorem dX7_lines_8 : decode cX7_lines 8 = .ok (.getfield 106, 3) := by decide +kernel
theorem dX7_lines_11 : decode cX7_lines 11 = .ok (.ireturn, 1) := by decide +kernel
theorem dX7_lineOf_0 : decode cX7_lineOf 0 = .ok (.aload_n 0, 1) := by decide +kernel
theorem dX7_lineOf_1 : decode cX7_lineOf 1 = .ok (.getfield 10, 3) := by decide +kernel
theorem dX7_lineOf_4 : decode cX7_lineOf 4 = .ok (.iload_n 1, 1) := by decide +kernel
theorem dX7_lineOf_5 : decode cX7_lineOf 5 = .ok (.invokevirtual 110, 3) := by decide +kernel
theorem dX7_lineOf_8 : decode cX7_lineOf 8 = .ok (.ifCond .ne 5, 3) := by decide +kernel
theorem dX7_lineOf_11 : decode cX7_lineOf 11 = .ok (.iconst (-1), 1) := by decide +kernel
theorem dX7_lineOf_12 : decode cX7_lineOf 12 = .ok (.ireturn, 1) := by decide +kernel
theorem dX7_lineOf_13 : decode cX7_lineOf 13 = .ok (.aload_n 0, 1) := by decide +kernel
theorem dX7_lineOf_14 : decode cX7_lineOf 14 = .ok (.invokevirtual 103, 3) := by decide +kernel
theorem dX7_lineOf_17 : decode cX7_lineOf 17 = .ok (.aload_n 0, 1) := by decide +kernel
theorem dX7_lineOf_18 : decode cX7_lineOf 18 = .ok (.getfield 43, 3) := by decide +kernel
theorem dX7_lineOf_21 : decode cX7_lineOf 21 = .ok (.iload_n 1, 1) := by decide +kernel
theorem dX7_lineOf_22 : decode cX7_lineOf 22 = .ok (.invokevirtual 114, 3) := by decide +kernel
theorem dX7_lineOf_25 : decode cX7_lineOf 25 = .ok (.ireturn, 1) := by decide +kernel
theorem dX7_line_0 : decode cX7_line 0 = .ok (.aload_n 0, 1) := by decide +kernel
theorem dX7_line_1 : decode cX7_line 1 = .ok (.invokevirtual 103, 3) := by decide +kernel
theorem dX7_line_4 : decode cX7_line 4 = .ok (.aload_n 0, 1) := by decide +kernel
theorem dX7_line_5 : decode cX7_line 5 = .ok (.getfield 43, 3) := by decide +kernel
theorem dX7_line_8 : decode cX7_line 8 = .ok (.iload_n 1, 1) := by decide +kernel
theorem dX7_line_9 : decode cX7_line 9 = .ok (.invokevirtual 118, 3) := by decide +kernel
theorem dX7_line_12 : decode cX7_line 12 = .ok (.ifCond .ne 5, 3) := by decide +kernel
theorem dX7_line_15 : decode cX7_line 15 = .ok (.iconst (-1), 1) := by decide +kernel
theorem dX7_line_16 : decode cX7_line 16 = .ok (.ireturn, 1) := by decide +kernel
theorem dX7_line_17 : decode cX7_line 17 = .ok (.iload_n 2, 1) := by decide +kernel
theorem dX7_line_18 : decode cX7_line 18 = .ok (.tableswitch 73 0 4 #[34, 43, 53, 60, 67], 34) := by decide +kernel
theorem dX7_line_52 : decode cX7_line 52 = .ok (.aload_n 0, 1) := by decide +kernel
theorem dX7_line_53 : decode cX7_line 53 = .ok (.getfield 43, 3) := by decide +kernel
theorem dX7_line_56 : decode cX7_line 56 = .ok (.iload_n 1, 1) := by decide +kernel
theorem dX7_line_57 : decode cX7_line 57 = .ok (.invokevirtual 121, 3) := by decide +kernel
theorem dX7_line_60 : decode cX7_line 60 = .ok (.ireturn, 1) := by decide +kernel
theorem dX7_line_61 : decode cX7_line 61 = .ok (.aload_n 0, 1) := by decide +kernel
theorem dX7_line_62 : decode cX7_line 62 = .ok (.getfield 43, 3) := by decide +kernel
theorem dX7_line_65 : decode cX7_line 65 = .ok (.iload_n 1, 1) := by decide +kernel
theorem dX7_line_66 : decode cX7_line 66 = .ok (.iconst 0, 1) := by decide +kernel
theorem dX7_line_67 : decode cX7_line 67 = .ok (.invokevirtual 124, 3) := by decide +kernel
theorem dX7_line_70 : decode cX7_line 70 = .ok (.ireturn, 1) := by decide +kernel
theorem dX7_line_71 : decode cX7_line 71 = .ok (.aload_n 0, 1) := by decide +kernel
theorem dX7_line_72 : decode cX7_line 72 = .ok (.iload_n 1, 1) := by decide +kernel
theorem dX7_line_73 : decode cX7_line 73 = .ok (.iconst 4, 1) := by decide +kernel
theorem dX7_line_74 : decode cX7_line 74 = .ok (.invokevirtual 127, 3) := by decide +kernel
theorem dX7_line_77 : decode cX7_line 77 = .ok (.ireturn, 1) := by decide +kernel
theorem dX7_line_78 : decode cX7_line 78 = .ok (.aload_n 0, 1) := by decide +kernel
theorem dX7_line_79 : decode cX7_line 79 = .ok (.iload_n 1, 1) := by decide +kernel
theorem dX7_line_80 : decode cX7_line 80 = .ok (.iconst 1, 1) := by decide +kernel
theorem dX7_line_81 : decode cX7_line 81 = .ok (.invokevirtual 127, 3) := by decide +kernel
theorem dX7_line_84 : decode cX7_line 84 = .ok (.ireturn, 1) := by decide +kernel
theorem dX7_line_85 : decode cX7_line 85 = .ok (.aload_n 0, 1) := by decide +kernel
theorem dX7_line_86 : decode cX7_line 86 = .ok (.iload_n 1, 1) := by decide +kernel
theorem dX7_line_87 : decode cX7_line 87 = .ok (.invokevirtual 130, 3) := by decide +kernel
theorem dX7_line_90 : decode cX7_line 90 = .ok (.ireturn, 1) := by decide +kernel
theorem dX7_line_91 : decode cX7_line 91 = .ok (.iconst (-1), 1) := by decide +kernel
theorem dX7_line_92 : decode cX7_line 92 = .ok (.ireturn, 1) := by decide +kernel
theorem dX7_walk_0 : decode cX7_walk 0 = .ok (.aload_n 0, 1) := by decide +kernel
theorem dX7_walk_1 : decode cX7_walk 1 = .ok (.invokevirtual 103, 3) := by decide +kernel
theorem dX7_walk_4 : decode cX7_walk 4 = .ok (.aload_n 0, 1) := by decide +kernel
theorem dX7_walk_5 : decode cX7_walk 5 = .ok (.getfield 43, 3) := by decide +kernel
theorem dX7_walk_8 : decode cX7_walk 8 = .ok (.iload_n 1, 1) := by decide +kernel
theorem dX7_walk_9 : decode cX7_walk 9 = .ok (.iload_n 2, 1) := by decide +kernel
theorem dX7_walk_10 : decode cX7_walk 10 = .ok (.invokevirtual 124, 3) := by decide +kernel
theorem dX7_walk_13 : decode cX7_walk 13 = .ok (.ireturn, 1) := by decide +kernel
theorem dX7_holds_0 : decode cX7_holds 0 = .ok (.aload_n 0, 1) := by decide +kernel
theorem dX7_holds_1 : decode cX7_holds 1 = .ok (.invokevirtual 103, 3) := by decide +kernel
theorem dX7_holds_4 : decode cX7_holds 4 = .ok (.aload_n 0, 1) := by decide +kernel
theorem dX7_holds_5 : decode cX7_holds 5 = .ok (.getfield 43, 3) := by decide +kernel
theorem dX7_holds_8 : decode cX7_holds 8 = .ok (.iload_n 1, 1) := by decide +kernel
theorem dX7_holds_9 : decode cX7_holds 9 = .ok (.invokevirtual 118, 3) := by decide +kernel
theorem dX7_holds_12 : decode cX7_holds 12 = .ok (.ifCond .eq 33, 3) := by decide +kernel
theorem dX7_holds_15 : decode cX7_holds 15 = .ok (.iload_n 2, 1) := by decide +kernel
theorem dX7_holds_16 : decode cX7_holds 16 = .ok (.ifCond .lt 29, 3) := by decide +kernel
theorem dX7_holds_19 : decode cX7_holds 19 = .ok (.iload_n 2, 1) := by decide +kernel
theorem dX7_holds_20 : decode cX7_holds 20 = .ok (.aload_n 0, 1) := by decide +kernel
theorem dX7_holds_21 : decode cX7_holds 21 = .ok (.getfield 10, 3) := by decide +kernel
theorem dX7_holds_24 : decode cX7_holds 24 = .ok (.getfield 133, 3) := by decide +kernel
theorem dX7_holds_27 : decode cX7_holds 27 = .ok (.if_icmp .ge 18, 3) := by decide +kernel
theorem dX7_holds_30 : decode cX7_holds 30 = .ok (.iload_n 3, 1) := by decide +kernel
theorem dX7_holds_31 : decode cX7_holds 31 = .ok (.ifCond .lt 14, 3) := by decide +kernel
theorem dX7_holds_34 : decode cX7_holds 34 = .ok (.iload_n 3, 1) := by decide +kernel
theorem dX7_holds_35 : decode cX7_holds 35 = .ok (.aload_n 0, 1) := by decide +kernel
theorem dX7_holds_36 : decode cX7_holds 36 = .ok (.getfield 10, 3) := by decide +kernel
theorem dX7_holds_39 : decode cX7_holds 39 = .ok (.getfield 136, 3) := by decide +kernel
theorem dX7_holds_42 : decode cX7_holds 42 = .ok (.if_icmp .lt 5, 3) := by decide +kernel
theorem dX7_holds_45 : decode cX7_holds 45 = .ok (.iconst (-1), 1) := by decide +kernel
theorem dX7_holds_46 : decode cX7_holds 46 = .ok (.ireturn, 1) := by decide +kernel
theorem dX7_holds_47 : decode cX7_holds 47 = .ok (.aload_n 0, 1) := by decide +kernel
theorem dX7_holds_48 : decode cX7_holds 48 = .ok (.iload_n 1, 1) := by decide +kernel
theorem dX7_holds_49 : decode cX7_holds 49 = .ok (.iconst 2, 1) := by decide +kernel
theorem dX7_holds_50 : decode cX7_holds 50 = .ok (.iload_n 2, 1) := by decide +kernel
theorem dX7_holds_51 : decode cX7_holds 51 = .ok (.imul, 1) := by decide +kernel
theorem dX7_holds_52 : decode cX7_holds 52 = .ok (.iconst 1, 1) := by decide +kernel
theorem dX7_holds_53 : decode cX7_holds 53 = .ok (.iadd, 1) := by decide +kernel
theorem dX7_holds_54 : decode cX7_holds 54 = .ok (.iconst 2, 1) := by decide +kernel
theorem dX7_holds_55 : decode cX7_holds 55 = .ok (.iload_n 3, 1) := by decide +kernel
theorem dX7_holds_56 : decode cX7_holds 56 = .ok (.imul, 1) := by decide +kernel
theorem dX7_holds_57 : decode cX7_holds 57 = .ok (.iconst 1, 1) := by decide +kernel
theorem dX7_holds_58 : decode cX7_holds 58 = .ok (.iadd, 1) := by decide +kernel
theorem dX7_holds_59 : decode cX7_holds 59 = .ok (.invokevirtual 139, 3) := by decide +kernel
theorem dX7_holds_62 : decode cX7_holds 62 = .ok (.ireturn, 1) := by decide +kernel
theorem dX7_colour_0 : decode cX7_colour 0 = .ok (.aload_n 0, 1) := by decide +kernel
theorem dX7_colour_1 : decode cX7_colour 1 = .ok (.getfield 10, 3) := by decide +kernel
theorem dX7_colour_4 : decode cX7_colour 4 = .ok (.iload_n 1, 1) := by decide +kernel
theorem dX7_colour_5 : decode cX7_colour 5 = .ok (.invokevirtual 110, 3) := by decide +kernel
theorem dX7_colour_8 : decode cX7_colour 8 = .ok (.ifCond .ne 5, 3) := by decide +kernel
theorem dX7_colour_11 : decode cX7_colour 11 = .ok (.iconst (-1), 1) := by decide +kernel
theorem dX7_colour_12 : decode cX7_colour 12 = .ok (.ireturn, 1) := by decide +kernel
theorem dX7_colour_13 : decode cX7_colour 13 = .ok (.aload_n 0, 1) := by decide +kernel
theorem dX7_colour_14 : decode cX7_colour 14 = .ok (.invokevirtual 103, 3) := by decide +kernel
theorem dX7_colour_17 : decode cX7_colour 17 = .ok (.aload_n 0, 1) := by decide +kernel
theorem dX7_colour_18 : decode cX7_colour 18 = .ok (.getfield 43, 3) := by decide +kernel
theorem dX7_colour_21 : decode cX7_colour 21 = .ok (.iload_n 1, 1) := by decide +kernel
theorem dX7_colour_22 : decode cX7_colour 22 = .ok (.invokevirtual 143, 3) := by decide +kernel
theorem dX7_colour_25 : decode cX7_colour 25 = .ok (.iconst 1, 1) := by decide +kernel
theorem dX7_colour_26 : decode cX7_colour 26 = .ok (.iand, 1) := by decide +kernel
theorem dX7_colour_27 : decode cX7_colour 27 = .ok (.ireturn, 1) := by decide +kernel
theorem dX7_coloured_0 : decode cX7_coloured 0 = .ok (.iconst 2, 1) := by decide +kernel
theorem dX7_coloured_1 : decode cX7_coloured 1 = .ok (.aload_n 0, 1) := by decide +kernel
theorem dX7_coloured_2 : decode cX7_coloured 2 = .ok (.getfield 10, 3) := by decide +kernel
theorem dX7_coloured_5 : decode cX7_coloured 5 = .ok (.getfield 133, 3) := by decide +kernel
theorem dX7_coloured_8 : decode cX7_coloured 8 = .ok (.imul, 1) := by decide +kernel
theorem dX7_coloured_9 : decode cX7_coloured 9 = .ok (.istore_n 3, 1) := by decide +kernel
theorem dX7_coloured_10 : decode cX7_coloured 10 = .ok (.iconst 2, 1) := by decide +kernel
theorem dX7_coloured_11 : decode cX7_coloured 11 = .ok (.aload_n 0, 1) := by decide +kernel
theorem dX7_coloured_12 : decode cX7_coloured 12 = .ok (.getfield 10, 3) := by decide +kernel
theorem dX7_coloured_15 : decode cX7_coloured 15 = .ok (.getfield 136, 3) := by decide +kernel
theorem dX7_coloured_18 : decode cX7_coloured 18 = .ok (.imul, 1) := by decide +kernel
theorem dX7_coloured_19 : decode cX7_coloured 19 = .ok (.istore 4, 2) := by decide +kernel
theorem dX7_coloured_21 : decode cX7_coloured 21 = .ok (.iload_n 1, 1) := by decide +kernel
theorem dX7_coloured_22 : decode cX7_coloured 22 = .ok (.ifCond .lt 17, 3) := by decide +kernel
theorem dX7_coloured_25 : decode cX7_coloured 25 = .ok (.iload_n 1, 1) := by decide +kernel
theorem dX7_coloured_26 : decode cX7_coloured 26 = .ok (.iload_n 2, 1) := by decide +kernel
theorem dX7_coloured_27 : decode cX7_coloured 27 = .ok (.ifCond .eq 7, 3) := by decide +kernel
theorem dX7_coloured_30 : decode cX7_coloured 30 = .ok (.iload_n 3, 1) := by decide +kernel
theorem dX7_coloured_31 : decode cX7_coloured 31 = .ok (.goto 5, 3) := by decide +kernel
theorem dX7_coloured_34 : decode cX7_coloured 34 = .ok (.iload 4, 2) := by decide +kernel
theorem dX7_coloured_36 : decode cX7_coloured 36 = .ok (.if_icmp .lt 5, 3) := by decide +kernel
theorem dX7_coloured_39 : decode cX7_coloured 39 = .ok (.iconst (-1), 1) := by decide +kernel
theorem dX7_coloured_40 : decode cX7_coloured 40 = .ok (.ireturn, 1) := by decide +kernel
theorem dX7_coloured_41 : decode cX7_coloured 41 = .ok (.aload_n 0, 1) := by decide +kernel
theorem dX7_coloured_42 : decode cX7_coloured 42 = .ok (.invokevirtual 103, 3) := by decide +kernel
theorem dX7_coloured_45 : decode cX7_coloured 45 = .ok (.iload_n 2, 1) := by decide +kernel
theorem dX7_coloured_46 : decode cX7_coloured 46 = .ok (.ifCond .eq 7, 3) := by decide +kernel
theorem dX7_coloured_49 : decode cX7_coloured 49 = .ok (.iload_n 1, 1) := by decide +kernel
theorem dX7_coloured_50 : decode cX7_coloured 50 = .ok (.goto 6, 3) := by decide +kernel
theorem dX7_coloured_53 : decode cX7_coloured 53 = .ok (.iload_n 3, 1) := by decide +kernel
theorem dX7_coloured_54 : decode cX7_coloured 54 = .ok (.iload_n 1, 1) := by decide +kernel
theorem dX7_coloured_55 : decode cX7_coloured 55 = .ok (.imul, 1) := by decide +kernel
theorem dX7_coloured_56 : decode cX7_coloured 56 = .ok (.istore 5, 2) := by decide +kernel
theorem dX7_coloured_58 : decode cX7_coloured 58 = .ok (.iload_n 2, 1) := by decide +kernel
theorem dX7_coloured_59 : decode cX7_coloured 59 = .ok (.ifCond .eq 7, 3) := by decide +kernel
theorem dX7_coloured_62 : decode cX7_coloured 62 = .ok (.iload_n 3, 1) := by decide +kernel
theorem dX7_coloured_63 : decode cX7_coloured 63 = .ok (.goto 4, 3) := by decide +kernel
theorem dX7_coloured_66 : decode cX7_coloured 66 = .ok (.iconst 1, 1) := by decide +kernel
theorem dX7_coloured_67 : decode cX7_coloured 67 = .ok (.istore 6, 2) := by decide +kernel
theorem dX7_coloured_69 : decode cX7_coloured 69 = .ok (.iload_n 2, 1) := by decide +kernel
theorem dX7_coloured_70 : decode cX7_coloured 70 = .ok (.ifCond .eq 8, 3) := by decide +kernel
theorem dX7_coloured_73 : decode cX7_coloured 73 = .ok (.iload 4, 2) := by decide +kernel
theorem dX7_coloured_75 : decode cX7_coloured 75 = .ok (.goto 4, 3) := by decide +kernel
theorem dX7_coloured_78 : decode cX7_coloured 78 = .ok (.iload_n 3, 1) := by decide +kernel
theorem dX7_coloured_79 : decode cX7_coloured 79 = .ok (.istore 7, 2) := by decide +kernel
theorem dX7_coloured_81 : decode cX7_coloured 81 = .ok (.iconst 0, 1) := by decide +kernel
theorem dX7_coloured_82 : decode cX7_coloured 82 = .ok (.istore 8, 2) := by decide +kernel
theorem dX7_coloured_84 : decode cX7_coloured 84 = .ok (.iconst 0, 1) := by decide +kernel
theorem dX7_coloured_85 : decode cX7_coloured 85 = .ok (.istore 9, 2) := by decide +kernel
theorem dX7_coloured_87 : decode cX7_coloured 87 = .ok (.iload 9, 2) := by decide +kernel
theorem dX7_coloured_89 : decode cX7_coloured 89 = .ok (.iload 7, 2) := by decide +kernel
theorem dX7_coloured_91 : decode cX7_coloured 91 = .ok (.if_icmp .ge 31, 3) := by decide +kernel
theorem dX7_coloured_94 : decode cX7_coloured 94 = .ok (.iload 8, 2) := by decide +kernel
theorem dX7_coloured_96 : decode cX7_coloured 96 = .ok (.aload_n 0, 1) := by decide +kernel
theorem dX7_coloured_97 : decode cX7_coloured 97 = .ok (.getfield 43, 3) := by decide +kernel
theorem dX7_coloured_100 : decode cX7_coloured 100 = .ok (.iload 5, 2) := by decide +kernel
theorem dX7_coloured_102 : decode cX7_coloured 102 = .ok (.iload 6, 2) := by decide +kernel
theorem dX7_coloured_104 : decode cX7_coloured 104 = .ok (.iload 9, 2) := by decide +kernel
theorem dX7_coloured_106 : decode cX7_coloured 106 = .ok (.imul, 1) := by decide +kernel
theorem dX7_coloured_107 : decode cX7_coloured 107 = .ok (.iadd, 1) := by decide +kernel
theorem dX7_coloured_108 : decode cX7_coloured 108 = .ok (.invokevirtual 143, 3) := by decide +kernel
theorem dX7_coloured_111 : decode cX7_coloured 111 = .ok (.iconst 1, 1) := by decide +kernel
theorem dX7_coloured_112 : decode cX7_coloured 112 = .ok (.iand, 1) := by decide +kernel
theorem dX7_coloured_113 : decode cX7_coloured 113 = .ok (.iadd, 1) := by decide +kernel
theorem dX7_coloured_114 : decode cX7_coloured 114 = .ok (.istore 8, 2) := by decide +kernel
theorem dX7_coloured_116 : decode cX7_coloured 116 = .ok (.iinc 9 1, 3) := by decide +kernel
theorem dX7_coloured_119 : decode cX7_coloured 119 = .ok (.goto (-32), 3) := by decide +kernel
theorem dX7_coloured_122 : decode cX7_coloured 122 = .ok (.iload 8, 2) := by decide +kernel
theorem dX7_coloured_124 : decode cX7_coloured 124 = .ok (.ireturn, 1) := by decide +kernel
theorem dX7_joined_0 : decode cX7_joined 0 = .ok (.aload_n 0, 1) := by decide +kernel
theorem dX7_joined_1 : decode cX7_joined 1 = .ok (.invokevirtual 146, 3) := by decide +kernel
theorem dX7_joined_4 : decode cX7_joined 4 = .ok (.iload_n 1, 1) := by decide +kernel
theorem dX7_joined_5 : decode cX7_joined 5 = .ok (.lookupswitch 51 #[(0, 27), (1, 43)], 27) := by decide +kernel
theorem dX7_joined_32 : decode cX7_joined 32 = .ok (.aload_n 0, 1) := by decide +kernel
theorem dX7_joined_33 : decode cX7_joined 33 = .ok (.getfield 43, 3) := by decide +kernel
theorem dX7_joined_36 : decode cX7_joined 36 = .ok (.getfield 106, 3) := by decide +kernel
theorem dX7_joined_39 : decode cX7_joined 39 = .ok (.aload_n 0, 1) := by decide +kernel
theorem dX7_joined_40 : decode cX7_joined 40 = .ok (.getfield 50, 3) := by decide +kernel
theorem dX7_joined_43 : decode cX7_joined 43 = .ok (.getfield 149, 3) := by decide +kernel
theorem dX7_joined_46 : decode cX7_joined 46 = .ok (.isub, 1) := by decide +kernel
theorem dX7_joined_47 : decode cX7_joined 47 = .ok (.ireturn, 1) := by decide +kernel
theorem dX7_joined_48 : decode cX7_joined 48 = .ok (.aload_n 0, 1) := by decide +kernel
theorem dX7_joined_49 : decode cX7_joined 49 = .ok (.getfield 50, 3) := by decide +kernel
theorem dX7_joined_52 : decode cX7_joined 52 = .ok (.getfield 149, 3) := by decide +kernel
theorem dX7_joined_55 : decode cX7_joined 55 = .ok (.ireturn, 1) := by decide +kernel
theorem dX7_joined_56 : decode cX7_joined 56 = .ok (.iconst (-1), 1) := by decide +kernel
theorem dX7_joined_57 : decode cX7_joined 57 = .ok (.ireturn, 1) := by decide +kernel
theorem dX7_change_0 : decode cX7_change 0 = .ok (.aload_n 0, 1) := by decide +kernel
theorem dX7_change_1 : decode cX7_change 1 = .ok (.invokevirtual 146, 3) := by decide +kernel
theorem dX7_change_4 : decode cX7_change 4 = .ok (.iload_n 1, 1) := by decide +kernel
theorem dX7_change_5 : decode cX7_change 5 = .ok (.ifCond .lt 14, 3) := by decide +kernel
theorem dX7_change_8 : decode cX7_change 8 = .ok (.iload_n 1, 1) := by decide +kernel
theorem dX7_change_9 : decode cX7_change 9 = .ok (.aload_n 0, 1) := by decide +kernel
theorem dX7_change_10 : decode cX7_change 10 = .ok (.getfield 50, 3) := by decide +kernel
theorem dX7_change_13 : decode cX7_change 13 = .ok (.getfield 149, 3) := by decide +kernel
theorem dX7_change_16 : decode cX7_change 16 = .ok (.if_icmp .lt 5, 3) := by decide +kernel
theorem dX7_change_19 : decode cX7_change 19 = .ok (.iconst (-1), 1) := by decide +kernel
theorem dX7_change_20 : decode cX7_change 20 = .ok (.ireturn, 1) := by decide +kernel
theorem dX7_change_21 : decode cX7_change 21 = .ok (.aload_n 0, 1) := by decide +kernel
theorem dX7_change_22 : decode cX7_change 22 = .ok (.getfield 50, 3) := by decide +kernel
theorem dX7_change_25 : decode cX7_change 25 = .ok (.iload_n 1, 1) := by decide +kernel
theorem dX7_change_26 : decode cX7_change 26 = .ok (.invokevirtual 150, 3) := by decide +kernel
theorem dX7_change_29 : decode cX7_change 29 = .ok (.istore_n 3, 1) := by decide +kernel
theorem dX7_change_30 : decode cX7_change 30 = .ok (.aload_n 0, 1) := by decide +kernel
theorem dX7_change_31 : decode cX7_change 31 = .ok (.getfield 50, 3) := by decide +kernel
theorem dX7_change_34 : decode cX7_change 34 = .ok (.iload_n 1, 1) := by decide +kernel
theorem dX7_change_35 : decode cX7_change 35 = .ok (.invokevirtual 153, 3) := by decide +kernel
theorem dX7_change_38 : decode cX7_change 38 = .ok (.istore 4, 2) := by decide +kernel
theorem dX7_change_40 : decode cX7_change 40 = .ok (.iload_n 2, 1) := by decide +kernel
theorem dX7_change_41 : decode cX7_change 41 = .ok (.tableswitch 46 0 2 #[27, 29, 32], 27) := by decide +kernel
theorem dX7_change_68 : decode cX7_change 68 = .ok (.iload_n 3, 1) := by decide +kernel
theorem dX7_change_69 : decode cX7_change 69 = .ok (.ireturn, 1) := by decide +kernel
theorem dX7_change_70 : decode cX7_change 70 = .ok (.iload 4, 2) := by decide +kernel
theorem dX7_change_72 : decode cX7_change 72 = .ok (.ireturn, 1) := by decide +kernel
theorem dX7_change_73 : decode cX7_change 73 = .ok (.aload_n 0, 1) := by decide +kernel
theorem dX7_change_74 : decode cX7_change 74 = .ok (.getfield 10, 3) := by decide +kernel
theorem dX7_change_77 : decode cX7_change 77 = .ok (.iload_n 3, 1) := by decide +kernel
theorem dX7_change_78 : decode cX7_change 78 = .ok (.iload 4, 2) := by decide +kernel
theorem dX7_change_80 : decode cX7_change 80 = .ok (.invokevirtual 97, 3) := by decide +kernel
theorem dX7_change_83 : decode cX7_change 83 = .ok (.invokestatic 156, 3) := by decide +kernel
theorem dX7_change_86 : decode cX7_change 86 = .ok (.ireturn, 1) := by decide +kernel
theorem dX7_change_87 : decode cX7_change 87 = .ok (.iconst (-1), 1) := by decide +kernel
theorem dX7_change_88 : decode cX7_change 88 = .ok (.ireturn, 1) := by decide +kernel
theorem dX7_join_0 : decode cX7_join 0 = .ok (.aload_n 0, 1) := by decide +kernel
theorem dX7_join_1 : decode cX7_join 1 = .ok (.invokevirtual 146, 3) := by decide +kernel
theorem dX7_join_4 : decode cX7_join 4 = .ok (.aload_n 0, 1) := by decide +kernel
theorem dX7_join_5 : decode cX7_join 5 = .ok (.getfield 50, 3) := by decide +kernel
theorem dX7_join_8 : decode cX7_join 8 = .ok (.getfield 149, 3) := by decide +kernel
theorem dX7_join_11 : decode cX7_join 11 = .ok (.istore_n 1, 1) := by decide +kernel
theorem dX7_join_12 : decode cX7_join 12 = .ok (.iconst 0, 1) := by decide +kernel
theorem dX7_join_13 : decode cX7_join 13 = .ok (.istore_n 2, 1) := by decide +kernel
theorem dX7_join_14 : decode cX7_join 14 = .ok (.iload_n 2, 1) := by decide +kernel
theorem dX7_join_15 : decode cX7_join 15 = .ok (.iload_n 1, 1) := by decide +kernel
theorem dX7_join_16 : decode cX7_join 16 = .ok (.if_icmp .ge 51, 3) := by decide +kernel
theorem dX7_join_19 : decode cX7_join 19 = .ok (.aload_n 0, 1) := by decide +kernel
theorem dX7_join_20 : decode cX7_join 20 = .ok (.getfield 50, 3) := by decide +kernel
theorem dX7_join_23 : decode cX7_join 23 = .ok (.iload_n 2, 1) := by decide +kernel
theorem dX7_join_24 : decode cX7_join 24 = .ok (.invokevirtual 150, 3) := by decide +kernel
theorem dX7_join_27 : decode cX7_join 27 = .ok (.istore_n 3, 1) := by decide +kernel
theorem dX7_join_28 : decode cX7_join 28 = .ok (.aload_n 0, 1) := by decide +kernel
theorem dX7_join_29 : decode cX7_join 29 = .ok (.getfield 50, 3) := by decide +kernel
theorem dX7_join_32 : decode cX7_join 32 = .ok (.iload_n 2, 1) := by decide +kernel
theorem dX7_join_33 : decode cX7_join 33 = .ok (.invokevirtual 153, 3) := by decide +kernel
theorem dX7_join_36 : decode cX7_join 36 = .ok (.istore 4, 2) := by decide +kernel
theorem dX7_join_38 : decode cX7_join 38 = .ok (.aload_n 0, 1) := by decide +kernel
theorem dX7_join_39 : decode cX7_join 39 = .ok (.getfield 10, 3) := by decide +kernel
theorem dX7_join_42 : decode cX7_join 42 = .ok (.iload_n 3, 1) := by decide +kernel
theorem dX7_join_43 : decode cX7_join 43 = .ok (.iload 4, 2) := by decide +kernel
theorem dX7_join_45 : decode cX7_join 45 = .ok (.aload_n 0, 1) := by decide +kernel
theorem dX7_join_46 : decode cX7_join 46 = .ok (.getfield 10, 3) := by decide +kernel
theorem dX7_join_49 : decode cX7_join 49 = .ok (.iload_n 3, 1) := by decide +kernel
theorem dX7_join_50 : decode cX7_join 50 = .ok (.iload 4, 2) := by decide +kernel
theorem dX7_join_52 : decode cX7_join 52 = .ok (.invokevirtual 97, 3) := by decide +kernel
theorem dX7_join_55 : decode cX7_join 55 = .ok (.invokestatic 156, 3) := by decide +kernel
theorem dX7_join_58 : decode cX7_join 58 = .ok (.invokevirtual 90, 3) := by decide +kernel
theorem dX7_join_61 : decode cX7_join 61 = .ok (.iinc 2 1, 3) := by decide +kernel
theorem dX7_join_64 : decode cX7_join 64 = .ok (.goto (-50), 3) := by decide +kernel
theorem dX7_join_67 : decode cX7_join 67 = .ok (.aload_n 0, 1) := by decide +kernel
theorem dX7_join_68 : decode cX7_join 68 = .ok (.invokevirtual 94, 3) := by decide +kernel
theorem dX7_join_71 : decode cX7_join 71 = .ok (.iload_n 1, 1) := by decide +kernel
theorem dX7_join_72 : decode cX7_join 72 = .ok (.ireturn, 1) := by decide +kernel
theorem dX7_feed_0 : decode cX7_feed 0 = .ok (.aload_n 0, 1) := by decide +kernel
theorem dX7_feed_1 : decode cX7_feed 1 = .ok (.getfield 57, 3) := by decide +kernel
theorem dX7_feed_4 : decode cX7_feed 4 = .ok (.getfield 159, 3) := by decide +kernel
theorem dX7_feed_7 : decode cX7_feed 7 = .ok (.bipush 20, 2) := by decide +kernel
theorem dX7_feed_9 : decode cX7_feed 9 = .ok (.iadd, 1) := by decide +kernel
theorem dX7_feed_10 : decode cX7_feed 10 = .ok (.sipush 200, 3) := by decide +kernel
theorem dX7_feed_13 : decode cX7_feed 13 = .ok (.if_icmp .le 5, 3) := by decide +kernel
theorem dX7_feed_16 : decode cX7_feed 16 = .ok (.iconst (-1), 1) := by decide +kernel
theorem dX7_feed_17 : decode cX7_feed 17 = .ok (.ireturn, 1) := by decide +kernel
theorem dX7_feed_18 : decode cX7_feed 18 = .ok (.aload_n 0, 1) := by decide +kernel
theorem dX7_feed_19 : decode cX7_feed 19 = .ok (.getfield 57, 3) := by decide +kernel
theorem dX7_feed_22 : decode cX7_feed 22 = .ok (.iload_n 1, 1) := by decide +kernel
theorem dX7_feed_23 : decode cX7_feed 23 = .ok (.invokevirtual 162, 3) := by decide +kernel
theorem dX7_feed_26 : decode cX7_feed 26 = .ok (.aload_n 0, 1) := by decide +kernel
theorem dX7_feed_27 : decode cX7_feed 27 = .ok (.getfield 57, 3) := by decide +kernel
theorem dX7_feed_30 : decode cX7_feed 30 = .ok (.iload_n 2, 1) := by decide +kernel
theorem dX7_feed_31 : decode cX7_feed 31 = .ok (.invokevirtual 162, 3) := by decide +kernel
theorem dX7_feed_34 : decode cX7_feed 34 = .ok (.aload_n 0, 1) := by decide +kernel
theorem dX7_feed_35 : decode cX7_feed 35 = .ok (.getfield 57, 3) := by decide +kernel
theorem dX7_feed_38 : decode cX7_feed 38 = .ok (.iload_n 3, 1) := by decide +kernel
theorem dX7_feed_39 : decode cX7_feed 39 = .ok (.invokevirtual 162, 3) := by decide +kernel
theorem dX7_feed_42 : decode cX7_feed 42 = .ok (.aload_n 0, 1) := by decide +kernel
theorem dX7_feed_43 : decode cX7_feed 43 = .ok (.getfield 57, 3) := by decide +kernel
theorem dX7_feed_46 : decode cX7_feed 46 = .ok (.iload 4, 2) := by decide +kernel
theorem dX7_feed_48 : decode cX7_feed 48 = .ok (.invokevirtual 162, 3) := by decide +kernel
theorem dX7_feed_51 : decode cX7_feed 51 = .ok (.aload_n 0, 1) := by decide +kernel
theorem dX7_feed_52 : decode cX7_feed 52 = .ok (.getfield 57, 3) := by decide +kernel
theorem dX7_feed_55 : decode cX7_feed 55 = .ok (.iload 5, 2) := by decide +kernel
theorem dX7_feed_57 : decode cX7_feed 57 = .ok (.invokevirtual 162, 3) := by decide +kernel
theorem dX7_feed_60 : decode cX7_feed 60 = .ok (.aload_n 0, 1) := by decide +kernel
theorem dX7_feed_61 : decode cX7_feed 61 = .ok (.getfield 57, 3) := by decide +kernel
theorem dX7_feed_64 : decode cX7_feed 64 = .ok (.getfield 159, 3) := by decide +kernel
theorem dX7_feed_67 : decode cX7_feed 67 = .ok (.ireturn, 1) := by decide +kernel
theorem dX7_end_0 : decode cX7_end 0 = .ok (.iload_n 1, 1) := by decide +kernel
theorem dX7_end_1 : decode cX7_end 1 = .ok (.ifCond .lt 14, 3) := by decide +kernel
theorem dX7_end_4 : decode cX7_end 4 = .ok (.iload_n 1, 1) := by decide +kernel
theorem dX7_end_5 : decode cX7_end 5 = .ok (.aload_n 0, 1) := by decide +kernel
theorem dX7_end_6 : decode cX7_end 6 = .ok (.getfield 57, 3) := by decide +kernel
theorem dX7_end_9 : decode cX7_end 9 = .ok (.getfield 159, 3) := by decide +kernel
theorem dX7_end_12 : decode cX7_end 12 = .ok (.if_icmp .le 5, 3) := by decide +kernel
theorem dX7_end_15 : decode cX7_end 15 = .ok (.iconst (-1), 1) := by decide +kernel
theorem dX7_end_16 : decode cX7_end 16 = .ok (.ireturn, 1) := by decide +kernel
theorem dX7_end_17 : decode cX7_end 17 = .ok (.aload_n 0, 1) := by decide +kernel
theorem dX7_end_18 : decode cX7_end 18 = .ok (.getfield 57, 3) := by decide +kernel
theorem dX7_end_21 : decode cX7_end 21 = .ok (.iload_n 1, 1) := by decide +kernel
theorem dX7_end_22 : decode cX7_end 22 = .ok (.putfield 159, 3) := by decide +kernel
theorem dX7_end_25 : decode cX7_end 25 = .ok (.iload_n 1, 1) := by decide +kernel
theorem dX7_end_26 : decode cX7_end 26 = .ok (.ireturn, 1) := by decide +kernel
theorem dX7_draw_0 : decode cX7_draw 0 = .ok (.aload_n 0, 1) := by decide +kernel
theorem dX7_draw_1 : decode cX7_draw 1 = .ok (.getfield 66, 3) := by decide +kernel
theorem dX7_draw_4 : decode cX7_draw 4 = .ok (.aload_n 0, 1) := by decide +kernel
theorem dX7_draw_5 : decode cX7_draw 5 = .ok (.getfield 29, 3) := by decide +kernel
theorem dX7_draw_8 : decode cX7_draw 8 = .ok (.invokevirtual 166, 3) := by decide +kernel
theorem dX7_draw_11 : decode cX7_draw 11 = .ok (.istore_n 1, 1) := by decide +kernel
theorem dX7_draw_12 : decode cX7_draw 12 = .ok (.aload_n 0, 1) := by decide +kernel
theorem dX7_draw_13 : decode cX7_draw 13 = .ok (.getfield 57, 3) := by decide +kernel
theorem dX7_draw_16 : decode cX7_draw 16 = .ok (.iconst 0, 1) := by decide +kernel
theorem dX7_draw_17 : decode cX7_draw 17 = .ok (.putfield 159, 3) := by decide +kernel
theorem dX7_draw_20 : decode cX7_draw 20 = .ok (.iload_n 1, 1) := by decide +kernel
theorem dX7_draw_21 : decode cX7_draw 21 = .ok (.ifCond .ne 5, 3) := by decide +kernel
theorem dX7_draw_24 : decode cX7_draw 24 = .ok (.iconst (-1), 1) := by decide +kernel
theorem dX7_draw_25 : decode cX7_draw 25 = .ok (.ireturn, 1) := by decide +kernel
theorem dX7_draw_26 : decode cX7_draw 26 = .ok (.aload_n 0, 1) := by decide +kernel
theorem dX7_draw_27 : decode cX7_draw 27 = .ok (.invokevirtual 170, 3) := by decide +kernel
theorem dX7_draw_30 : decode cX7_draw 30 = .ok (.aload_n 0, 1) := by decide +kernel
theorem dX7_draw_31 : decode cX7_draw 31 = .ok (.getfield 10, 3) := by decide +kernel
theorem dX7_draw_34 : decode cX7_draw 34 = .ok (.getfield 133, 3) := by decide +kernel
theorem dX7_draw_37 : decode cX7_draw 37 = .ok (.aload_n 0, 1) := by decide +kernel
theorem dX7_draw_38 : decode cX7_draw 38 = .ok (.getfield 10, 3) := by decide +kernel
theorem dX7_draw_41 : decode cX7_draw 41 = .ok (.getfield 136, 3) := by decide +kernel
theorem dX7_draw_44 : decode cX7_draw 44 = .ok (.imul, 1) := by decide +kernel
theorem dX7_draw_45 : decode cX7_draw 45 = .ok (.ireturn, 1) := by decide +kernel
theorem dX7_back_0 : decode cX7_back 0 = .ok (.iload_n 1, 1) := by decide +kernel
theorem dX7_back_1 : decode cX7_back 1 = .ok (.invokestatic 173, 3) := by decide +kernel
theorem dX7_back_4 : decode cX7_back 4 = .ok (.ifCond .eq 10, 3) := by decide +kernel
theorem dX7_back_7 : decode cX7_back 7 = .ok (.iload_n 2, 1) := by decide +kernel
theorem dX7_back_8 : decode cX7_back 8 = .ok (.invokestatic 173, 3) := by decide +kernel
theorem dX7_back_11 : decode cX7_back 11 = .ok (.ifCond .ne 5, 3) := by decide +kernel
theorem dX7_back_14 : decode cX7_back 14 = .ok (.iconst (-1), 1) := by decide +kernel
theorem dX7_back_15 : decode cX7_back 15 = .ok (.ireturn, 1) := by decide +kernel
theorem dX7_back_16 : decode cX7_back 16 = .ok (.aload_n 0, 1) := by decide +kernel
theorem dX7_back_17 : decode cX7_back 17 = .ok (.getfield 29, 3) := by decide +kernel
theorem dX7_back_20 : decode cX7_back 20 = .ok (.iload_n 1, 1) := by decide +kernel
theorem dX7_back_21 : decode cX7_back 21 = .ok (.iload_n 2, 1) := by decide +kernel
theorem dX7_back_22 : decode cX7_back 22 = .ok (.invokevirtual 25, 3) := by decide +kernel
theorem dX7_back_25 : decode cX7_back 25 = .ok (.aload_n 0, 1) := by decide +kernel
theorem dX7_back_26 : decode cX7_back 26 = .ok (.getfield 29, 3) := by decide +kernel
theorem dX7_back_29 : decode cX7_back 29 = .ok (.iload_n 3, 1) := by decide +kernel
theorem dX7_back_30 : decode cX7_back 30 = .ok (.iload 4, 2) := by decide +kernel
theorem dX7_back_32 : decode cX7_back 32 = .ok (.invokevirtual 176, 3) := by decide +kernel
theorem dX7_back_35 : decode cX7_back 35 = .ok (.ifCond .ne 5, 3) := by decide +kernel
theorem dX7_back_38 : decode cX7_back 38 = .ok (.iconst (-1), 1) := by decide +kernel
theorem dX7_back_39 : decode cX7_back 39 = .ok (.ireturn, 1) := by decide +kernel
theorem dX7_back_40 : decode cX7_back 40 = .ok (.aload_n 0, 1) := by decide +kernel
theorem dX7_back_41 : decode cX7_back 41 = .ok (.getfield 75, 3) := by decide +kernel
theorem dX7_back_44 : decode cX7_back 44 = .ok (.aload_n 0, 1) := by decide +kernel
theorem dX7_back_45 : decode cX7_back 45 = .ok (.getfield 29, 3) := by decide +kernel
theorem dX7_back_48 : decode cX7_back 48 = .ok (.iload_n 3, 1) := by decide +kernel
theorem dX7_back_49 : decode cX7_back 49 = .ok (.iload 4, 2) := by decide +kernel
theorem dX7_back_51 : decode cX7_back 51 = .ok (.invokevirtual 179, 3) := by decide +kernel
theorem dX7_back_54 : decode cX7_back 54 = .ok (.istore 5, 2) := by decide +kernel
theorem dX7_back_56 : decode cX7_back 56 = .ok (.aload_n 0, 1) := by decide +kernel
theorem dX7_back_57 : decode cX7_back 57 = .ok (.getfield 57, 3) := by decide +kernel
theorem dX7_back_60 : decode cX7_back 60 = .ok (.iconst 0, 1) := by decide +kernel
theorem dX7_back_61 : decode cX7_back 61 = .ok (.putfield 159, 3) := by decide +kernel
theorem dX7_back_64 : decode cX7_back 64 = .ok (.iload 5, 2) := by decide +kernel
theorem dX7_back_66 : decode cX7_back 66 = .ok (.ifCond .ne 5, 3) := by decide +kernel
theorem dX7_back_69 : decode cX7_back 69 = .ok (.iconst (-1), 1) := by decide +kernel
theorem dX7_back_70 : decode cX7_back 70 = .ok (.ireturn, 1) := by decide +kernel
theorem dX7_back_71 : decode cX7_back 71 = .ok (.aload_n 0, 1) := by decide +kernel
theorem dX7_back_72 : decode cX7_back 72 = .ok (.invokevirtual 170, 3) := by decide +kernel
theorem dX7_back_75 : decode cX7_back 75 = .ok (.aload_n 0, 1) := by decide +kernel
theorem dX7_back_76 : decode cX7_back 76 = .ok (.getfield 75, 3) := by decide +kernel
theorem dX7_back_79 : decode cX7_back 79 = .ok (.getfield 182, 3) := by decide +kernel
theorem dX7_back_82 : decode cX7_back 82 = .ok (.ireturn, 1) := by decide +kernel
theorem dX7_fault_0 : decode cX7_fault 0 = .ok (.aload_n 0, 1) := by decide +kernel
theorem dX7_fault_1 : decode cX7_fault 1 = .ok (.getfield 57, 3) := by decide +kernel
theorem dX7_fault_4 : decode cX7_fault 4 = .ok (.getfield 185, 3) := by decide +kernel
theorem dX7_fault_7 : decode cX7_fault 7 = .ok (.ifCond .ne 5, 3) := by decide +kernel
theorem dX7_fault_10 : decode cX7_fault 10 = .ok (.iconst (-1), 1) := by decide +kernel
theorem dX7_fault_11 : decode cX7_fault 11 = .ok (.ireturn, 1) := by decide +kernel
theorem dX7_fault_12 : decode cX7_fault 12 = .ok (.iload_n 1, 1) := by decide +kernel
theorem dX7_fault_13 : decode cX7_fault 13 = .ok (.lookupswitch 43 #[(0, 27), (1, 35)], 27) := by decide +kernel
theorem dX7_fault_40 : decode cX7_fault 40 = .ok (.aload_n 0, 1) := by decide +kernel
theorem dX7_fault_41 : decode cX7_fault 41 = .ok (.getfield 57, 3) := by decide +kernel
theorem dX7_fault_44 : decode cX7_fault 44 = .ok (.getfield 188, 3) := by decide +kernel
theorem dX7_fault_47 : decode cX7_fault 47 = .ok (.ireturn, 1) := by decide +kernel
theorem dX7_fault_48 : decode cX7_fault 48 = .ok (.aload_n 0, 1) := by decide +kernel
theorem dX7_fault_49 : decode cX7_fault 49 = .ok (.getfield 57, 3) := by decide +kernel
theorem dX7_fault_52 : decode cX7_fault 52 = .ok (.getfield 191, 3) := by decide +kernel
theorem dX7_fault_55 : decode cX7_fault 55 = .ok (.ireturn, 1) := by decide +kernel
theorem dX7_fault_56 : decode cX7_fault 56 = .ok (.iconst (-1), 1) := by decide +kernel
theorem dX7_fault_57 : decode cX7_fault 57 = .ok (.ireturn, 1) := by decide +kernel
theorem dX7_keep_0 : decode cX7_keep 0 = .ok (.iload_n 1, 1) := by decide +kernel
theorem dX7_keep_1 : decode cX7_keep 1 = .ok (.ifCond .lt 9, 3) := by decide +kernel
theorem dX7_keep_4 : decode cX7_keep 4 = .ok (.iload_n 1, 1) := by decide +kernel
theorem dX7_keep_5 : decode cX7_keep 5 = .ok (.bipush 8, 2) := by decide +kernel
theorem dX7_keep_7 : decode cX7_keep 7 = .ok (.if_icmp .lt 5, 3) := by decide +kernel
theorem dX7_keep_10 : decode cX7_keep 10 = .ok (.iconst 0, 1) := by decide +kernel
theorem dX7_keep_11 : decode cX7_keep 11 = .ok (.ireturn, 1) := by decide +kernel
theorem dX7_keep_12 : decode cX7_keep 12 = .ok (.aload_n 0, 1) := by decide +kernel
theorem dX7_keep_13 : decode cX7_keep 13 = .ok (.getfield 36, 3) := by decide +kernel
theorem dX7_keep_16 : decode cX7_keep 16 = .ok (.iload_n 1, 1) := by decide +kernel
theorem dX7_keep_17 : decode cX7_keep 17 = .ok (.aaload, 1) := by decide +kernel
theorem dX7_keep_18 : decode cX7_keep 18 = .ok (.ifnonnull 16, 3) := by decide +kernel
theorem dX7_keep_21 : decode cX7_keep 21 = .ok (.aload_n 0, 1) := by decide +kernel
theorem dX7_keep_22 : decode cX7_keep 22 = .ok (.getfield 36, 3) := by decide +kernel
theorem dX7_keep_25 : decode cX7_keep 25 = .ok (.iload_n 1, 1) := by decide +kernel
theorem dX7_keep_26 : decode cX7_keep 26 = .ok (.new 7, 3) := by decide +kernel
theorem dX7_keep_29 : decode cX7_keep 29 = .ok (.dup, 1) := by decide +kernel
theorem dX7_keep_30 : decode cX7_keep 30 = .ok (.invokespecial 9, 3) := by decide +kernel
theorem dX7_keep_33 : decode cX7_keep 33 = .ok (.aastore, 1) := by decide +kernel
theorem dX7_keep_34 : decode cX7_keep 34 = .ok (.aload_n 0, 1) := by decide +kernel
theorem dX7_keep_35 : decode cX7_keep 35 = .ok (.getfield 36, 3) := by decide +kernel
theorem dX7_keep_38 : decode cX7_keep 38 = .ok (.iload_n 1, 1) := by decide +kernel
theorem dX7_keep_39 : decode cX7_keep 39 = .ok (.aaload, 1) := by decide +kernel
theorem dX7_keep_40 : decode cX7_keep 40 = .ok (.aload_n 0, 1) := by decide +kernel
theorem dX7_keep_41 : decode cX7_keep 41 = .ok (.getfield 10, 3) := by decide +kernel
theorem dX7_keep_44 : decode cX7_keep 44 = .ok (.invokevirtual 194, 3) := by decide +kernel
theorem dX7_keep_47 : decode cX7_keep 47 = .ok (.iconst 1, 1) := by decide +kernel
theorem dX7_keep_48 : decode cX7_keep 48 = .ok (.ireturn, 1) := by decide +kernel
theorem dX7_like_0 : decode cX7_like 0 = .ok (.iload_n 1, 1) := by decide +kernel
theorem dX7_like_1 : decode cX7_like 1 = .ok (.ifCond .lt 18, 3) := by decide +kernel
theorem dX7_like_4 : decode cX7_like 4 = .ok (.iload_n 1, 1) := by decide +kernel
theorem dX7_like_5 : decode cX7_like 5 = .ok (.bipush 8, 2) := by decide +kernel
theorem dX7_like_7 : decode cX7_like 7 = .ok (.if_icmp .ge 12, 3) := by decide +kernel
theorem dX7_like_10 : decode cX7_like 10 = .ok (.iload_n 2, 1) := by decide +kernel
theorem dX7_like_11 : decode cX7_like 11 = .ok (.ifCond .lt 8, 3) := by decide +kernel
theorem dX7_like_14 : decode cX7_like 14 = .ok (.iload_n 2, 1) := by decide +kernel
theorem dX7_like_15 : decode cX7_like 15 = .ok (.iconst 1, 1) := by decide +kernel
theorem dX7_like_16 : decode cX7_like 16 = .ok (.if_icmp .le 5, 3) := by decide +kernel
theorem dX7_like_19 : decode cX7_like 19 = .ok (.iconst (-1), 1) := by decide +kernel
theorem dX7_like_20 : decode cX7_like 20 = .ok (.ireturn, 1) := by decide +kernel
theorem dX7_like_21 : decode cX7_like 21 = .ok (.aload_n 0, 1) := by decide +kernel
theorem dX7_like_22 : decode cX7_like 22 = .ok (.getfield 36, 3) := by decide +kernel
theorem dX7_like_25 : decode cX7_like 25 = .ok (.iload_n 1, 1) := by decide +kernel
theorem dX7_like_26 : decode cX7_like 26 = .ok (.aaload, 1) := by decide +kernel
theorem dX7_like_27 : decode cX7_like 27 = .ok (.astore_n 3, 1) := by decide +kernel
theorem dX7_like_28 : decode cX7_like 28 = .ok (.aload_n 3, 1) := by decide +kernel
theorem dX7_like_29 : decode cX7_like 29 = .ok (.ifnonnull 5, 3) := by decide +kernel
theorem dX7_like_32 : decode cX7_like 32 = .ok (.iconst (-1), 1) := by decide +kernel
theorem dX7_like_33 : decode cX7_like 33 = .ok (.ireturn, 1) := by decide +kernel
theorem dX7_like_34 : decode cX7_like 34 = .ok (.iload_n 2, 1) := by decide +kernel
theorem dX7_like_35 : decode cX7_like 35 = .ok (.ifCond .ne 14, 3) := by decide +kernel
theorem dX7_like_38 : decode cX7_like 38 = .ok (.aload_n 3, 1) := by decide +kernel
theorem dX7_like_39 : decode cX7_like 39 = .ok (.aload_n 0, 1) := by decide +kernel
theorem dX7_like_40 : decode cX7_like 40 = .ok (.getfield 10, 3) := by decide +kernel
theorem dX7_like_43 : decode cX7_like 43 = .ok (.invokevirtual 198, 3) := by decide +kernel
theorem dX7_like_46 : decode cX7_like 46 = .ok (.goto 16, 3) := by decide +kernel
theorem dX7_like_49 : decode cX7_like 49 = .ok (.aload_n 0, 1) := by decide +kernel
theorem dX7_like_50 : decode cX7_like 50 = .ok (.aload_n 3, 1) := by decide +kernel
theorem dX7_like_51 : decode cX7_like 51 = .ok (.invokevirtual 201, 3) := by decide +kernel
theorem dX7_like_54 : decode cX7_like 54 = .ok (.ifCond .le 7, 3) := by decide +kernel
theorem dX7_like_57 : decode cX7_like 57 = .ok (.iconst 1, 1) := by decide +kernel
theorem dX7_like_58 : decode cX7_like 58 = .ok (.goto 4, 3) := by decide +kernel
theorem dX7_like_61 : decode cX7_like 61 = .ok (.iconst 0, 1) := by decide +kernel
theorem dX7_like_62 : decode cX7_like 62 = .ok (.istore 4, 2) := by decide +kernel
theorem dX7_like_64 : decode cX7_like 64 = .ok (.iload 4, 2) := by decide +kernel
theorem dX7_like_66 : decode cX7_like 66 = .ok (.ifCond .eq 7, 3) := by decide +kernel
theorem dX7_like_69 : decode cX7_like 69 = .ok (.iconst 1, 1) := by decide +kernel
theorem dX7_like_70 : decode cX7_like 70 = .ok (.goto 4, 3) := by decide +kernel
theorem dX7_like_73 : decode cX7_like 73 = .ok (.iconst 0, 1) := by decide +kernel
theorem dX7_like_74 : decode cX7_like 74 = .ok (.ireturn, 1) := by decide +kernel
theorem dX7_alike_0 : decode cX7_alike 0 = .ok (.aload_n 0, 1) := by decide +kernel
theorem dX7_alike_1 : decode cX7_alike 1 = .ok (.aload_n 0, 1) := by decide +kernel
theorem dX7_alike_2 : decode cX7_alike 2 = .ok (.getfield 10, 3) := by decide +kernel
theorem dX7_alike_5 : decode cX7_alike 5 = .ok (.invokevirtual 201, 3) := by decide +kernel
theorem dX7_alike_8 : decode cX7_alike 8 = .ok (.ireturn, 1) := by decide +kernel
theorem dX7_about_0 : decode cX7_about 0 = .ok (.iload_n 1, 1) := by decide +kernel
theorem dX7_about_1 : decode cX7_about 1 = .ok (.tableswitch 147 0 8 #[51, 59, 67, 103, 112, 121, 126, 131, 139], 51) := by decide +kernel
theorem dX7_about_52 : decode cX7_about 52 = .ok (.aload_n 0, 1) := by decide +kernel
theorem dX7_about_53 : decode cX7_about 53 = .ok (.getfield 10, 3) := by decide +kernel
theorem dX7_about_56 : decode cX7_about 56 = .ok (.getfield 133, 3) := by decide +kernel
theorem dX7_about_59 : decode cX7_about 59 = .ok (.ireturn, 1) := by decide +kernel
theorem dX7_about_60 : decode cX7_about 60 = .ok (.aload_n 0, 1) := by decide +kernel
theorem dX7_about_61 : decode cX7_about 61 = .ok (.getfield 10, 3) := by decide +kernel
theorem dX7_about_64 : decode cX7_about 64 = .ok (.getfield 136, 3) := by decide +kernel
theorem dX7_about_67 : decode cX7_about 67 = .ok (.ireturn, 1) := by decide +kernel
theorem dX7_about_68 : decode cX7_about 68 = .ok (.aload_n 0, 1) := by decide +kernel
theorem dX7_about_69 : decode cX7_about 69 = .ok (.getfield 10, 3) := by decide +kernel
theorem dX7_about_72 : decode cX7_about 72 = .ok (.getfield 133, 3) := by decide +kernel
theorem dX7_about_75 : decode cX7_about 75 = .ok (.aload_n 0, 1) := by decide +kernel
theorem dX7_about_76 : decode cX7_about 76 = .ok (.getfield 10, 3) := by decide +kernel
theorem dX7_about_79 : decode cX7_about 79 = .ok (.getfield 136, 3) := by decide +kernel
theorem dX7_about_82 : decode cX7_about 82 = .ok (.iconst 1, 1) := by decide +kernel
theorem dX7_about_83 : decode cX7_about 83 = .ok (.isub, 1) := by decide +kernel
theorem dX7_about_84 : decode cX7_about 84 = .ok (.imul, 1) := by decide +kernel
theorem dX7_about_85 : decode cX7_about 85 = .ok (.aload_n 0, 1) := by decide +kernel
theorem dX7_about_86 : decode cX7_about 86 = .ok (.getfield 10, 3) := by decide +kernel
theorem dX7_about_89 : decode cX7_about 89 = .ok (.getfield 136, 3) := by decide +kernel
theorem dX7_about_92 : decode cX7_about 92 = .ok (.aload_n 0, 1) := by decide +kernel
theorem dX7_about_93 : decode cX7_about 93 = .ok (.getfield 10, 3) := by decide +kernel
theorem dX7_about_96 : decode cX7_about 96 = .ok (.getfield 133, 3) := by decide +kernel
theorem dX7_about_99 : decode cX7_about 99 = .ok (.iconst 1, 1) := by decide +kernel
theorem dX7_about_100 : decode cX7_about 100 = .ok (.isub, 1) := by decide +kernel
theorem dX7_about_101 : decode cX7_about 101 = .ok (.imul, 1) := by decide +kernel
theorem dX7_about_102 : decode cX7_about 102 = .ok (.iadd, 1) := by decide +kernel
theorem dX7_about_103 : decode cX7_about 103 = .ok (.ireturn, 1) := by decide +kernel
theorem dX7_about_104 : decode cX7_about 104 = .ok (.aload_n 0, 1) := by decide +kernel
theorem dX7_about_105 : decode cX7_about 105 = .ok (.getfield 10, 3) := by decide +kernel
theorem dX7_about_108 : decode cX7_about 108 = .ok (.iconst 1, 1) := by decide +kernel
theorem dX7_about_109 : decode cX7_about 109 = .ok (.invokevirtual 205, 3) := by decide +kernel
theorem dX7_about_112 : decode cX7_about 112 = .ok (.ireturn, 1) := by decide +kernel
theorem dX7_about_113 : decode cX7_about 113 = .ok (.aload_n 0, 1) := by decide +kernel
theorem dX7_about_114 : decode cX7_about 114 = .ok (.getfield 10, 3) := by decide +kernel
theorem dX7_about_117 : decode cX7_about 117 = .ok (.iconst 2, 1) := by decide +kernel
theorem dX7_about_118 : decode cX7_about 118 = .ok (.invokevirtual 205, 3) := by decide +kernel
theorem dX7_about_121 : decode cX7_about 121 = .ok (.ireturn, 1) := by decide +kernel
theorem dX7_about_122 : decode cX7_about 122 = .ok (.aload_n 0, 1) := by decide +kernel
theorem dX7_about_123 : decode cX7_about 123 = .ok (.invokevirtual 208, 3) := by decide +kernel
theorem dX7_about_126 : decode cX7_about 126 = .ok (.ireturn, 1) := by decide +kernel
theorem dX7_about_127 : decode cX7_about 127 = .ok (.aload_n 0, 1) := by decide +kernel
theorem dX7_about_128 : decode cX7_about 128 = .ok (.invokevirtual 212, 3) := by decide +kernel
theorem dX7_about_131 : decode cX7_about 131 = .ok (.ireturn, 1) := by decide +kernel
theorem dX7_about_132 : decode cX7_about 132 = .ok (.aload_n 0, 1) := by decide +kernel
theorem dX7_about_133 : decode cX7_about 133 = .ok (.getfield 57, 3) := by decide +kernel
theorem dX7_about_136 : decode cX7_about 136 = .ok (.getfield 159, 3) := by decide +kernel
theorem dX7_about_139 : decode cX7_about 139 = .ok (.ireturn, 1) := by decide +kernel
theorem dX7_about_140 : decode cX7_about 140 = .ok (.aload_n 0, 1) := by decide +kernel
theorem dX7_about_141 : decode cX7_about 141 = .ok (.getfield 10, 3) := by decide +kernel
theorem dX7_about_144 : decode cX7_about 144 = .ok (.invokevirtual 215, 3) := by decide +kernel
theorem dX7_about_147 : decode cX7_about 147 = .ok (.ireturn, 1) := by decide +kernel
theorem dX7_about_148 : decode cX7_about 148 = .ok (.iconst (-1), 1) := by decide +kernel
theorem dX7_about_149 : decode cX7_about 149 = .ok (.ireturn, 1) := by decide +kernel
theorem dX7_isDots_0 : decode cX7_isDots 0 = .ok (.iload_n 0, 1) := by decide +kernel
theorem dX7_isDots_1 : decode cX7_isDots 1 = .ok (.iconst 1, 1) := by decide +kernel
theorem dX7_isDots_2 : decode cX7_isDots 2 = .ok (.if_icmp .lt 13, 3) := by decide +kernel
theorem dX7_isDots_5 : decode cX7_isDots 5 = .ok (.iload_n 0, 1) := by decide +kernel
theorem dX7_isDots_6 : decode cX7_isDots 6 = .ok (.bipush 8, 2) := by decide +kernel
theorem dX7_isDots_8 : decode cX7_isDots 8 = .ok (.if_icmp .gt 7, 3) := by decide +kernel
theorem dX7_isDots_11 : decode cX7_isDots 11 = .ok (.iconst 1, 1) := by decide +kernel
theorem dX7_isDots_12 : decode cX7_isDots 12 = .ok (.goto 4, 3) := by decide +kernel
theorem dX7_isDots_15 : decode cX7_isDots 15 = .ok (.iconst 0, 1) := by decide +kernel
theorem dX7_isDots_16 : decode cX7_isDots 16 = .ok (.ireturn, 1) := by decide +kernel
theorem dX7_placeOf_0 : decode cX7_placeOf 0 = .ok (.bipush 8, 2) := by decide +kernel
theorem dX7_placeOf_2 : decode cX7_placeOf 2 = .ok (.iload_n 1, 1) := by decide +kernel
theorem dX7_placeOf_3 : decode cX7_placeOf 3 = .ok (.imul, 1) := by decide +kernel
theorem dX7_placeOf_4 : decode cX7_placeOf 4 = .ok (.iload_n 0, 1) := by decide +kernel
theorem dX7_placeOf_5 : decode cX7_placeOf 5 = .ok (.iconst 2, 1) := by decide +kernel
theorem dX7_placeOf_6 : decode cX7_placeOf 6 = .ok (.idiv, 1) := by decide +kernel
theorem dX7_placeOf_7 : decode cX7_placeOf 7 = .ok (.iadd, 1) := by decide +kernel
theorem dX7_placeOf_8 : decode cX7_placeOf 8 = .ok (.ireturn, 1) := by decide +kernel
theorem dX7_lowerOther_0 : decode cX7_lowerOther 0 = .ok (.iload_n 0, 1) := by decide +kernel
theorem dX7_lowerOther_1 : decode cX7_lowerOther 1 = .ok (.ifCond .ne 7, 3) := by decide +kernel
theorem dX7_lowerOther_4 : decode cX7_lowerOther 4 = .ok (.iconst 1, 1) := by decide +kernel
theorem dX7_lowerOther_5 : decode cX7_lowerOther 5 = .ok (.goto 4, 3) := by decide +kernel
theorem dX7_lowerOther_8 : decode cX7_lowerOther 8 = .ok (.iconst 0, 1) := by decide +kernel
theorem dX7_lowerOther_9 : decode cX7_lowerOther 9 = .ok (.ireturn, 1) := by decide +kernel
theorem dX7_forgetLines_0 : decode cX7_forgetLines 0 = .ok (.aload_n 0, 1) := by decide +kernel
theorem dX7_forgetLines_1 : decode cX7_forgetLines 1 = .ok (.iconst 0, 1) := by decide +kernel
theorem dX7_forgetLines_2 : decode cX7_forgetLines 2 = .ok (.putfield 79, 3) := by decide +kernel
theorem dX7_forgetLines_5 : decode cX7_forgetLines 5 = .ok (.aload_n 0, 1) := by decide +kernel
theorem dX7_forgetLines_6 : decode cX7_forgetLines 6 = .ok (.iconst 0, 1) := by decide +kernel
theorem dX7_forgetLines_7 : decode cX7_forgetLines 7 = .ok (.putfield 83, 3) := by decide +kernel
theorem dX7_forgetLines_10 : decode cX7_forgetLines 10 = .ok (.return_, 1) := by decide +kernel
theorem dX7_knowLines_0 : decode cX7_knowLines 0 = .ok (.aload_n 0, 1) := by decide +kernel
theorem dX7_knowLines_1 : decode cX7_knowLines 1 = .ok (.getfield 79, 3) := by decide +kernel
theorem dX7_knowLines_4 : decode cX7_knowLines 4 = .ok (.ifCond .ne 19, 3) := by decide +kernel
theorem dX7_knowLines_7 : decode cX7_knowLines 7 = .ok (.aload_n 0, 1) := by decide +kernel
theorem dX7_knowLines_8 : decode cX7_knowLines 8 = .ok (.getfield 43, 3) := by decide +kernel
theorem dX7_knowLines_11 : decode cX7_knowLines 11 = .ok (.aload_n 0, 1) := by decide +kernel
theorem dX7_knowLines_12 : decode cX7_knowLines 12 = .ok (.getfield 10, 3) := by decide +kernel
theorem dX7_knowLines_15 : decode cX7_knowLines 15 = .ok (.invokevirtual 218, 3) := by decide +kernel
theorem dX7_knowLines_18 : decode cX7_knowLines 18 = .ok (.aload_n 0, 1) := by decide +kernel
theorem dX7_knowLines_19 : decode cX7_knowLines 19 = .ok (.iconst 1, 1) := by decide +kernel
theorem dX7_knowLines_20 : decode cX7_knowLines 20 = .ok (.putfield 79, 3) := by decide +kernel
theorem dX7_knowLines_23 : decode cX7_knowLines 23 = .ok (.return_, 1) := by decide +kernel
theorem dX7_knowJoin_0 : decode cX7_knowJoin 0 = .ok (.aload_n 0, 1) := by decide +kernel
theorem dX7_knowJoin_1 : decode cX7_knowJoin 1 = .ok (.invokevirtual 103, 3) := by decide +kernel
theorem dX7_knowJoin_4 : decode cX7_knowJoin 4 = .ok (.aload_n 0, 1) := by decide +kernel
theorem dX7_knowJoin_5 : decode cX7_knowJoin 5 = .ok (.getfield 83, 3) := by decide +kernel
theorem dX7_knowJoin_8 : decode cX7_knowJoin 8 = .ok (.ifCond .ne 27, 3) := by decide +kernel
theorem dX7_knowJoin_11 : decode cX7_knowJoin 11 = .ok (.aload_n 0, 1) := by decide +kernel
theorem dX7_knowJoin_12 : decode cX7_knowJoin 12 = .ok (.getfield 50, 3) := by decide +kernel
theorem dX7_knowJoin_15 : decode cX7_knowJoin 15 = .ok (.aload_n 0, 1) := by decide +kernel
theorem dX7_knowJoin_16 : decode cX7_knowJoin 16 = .ok (.getfield 10, 3) := by decide +kernel
theorem dX7_knowJoin_19 : decode cX7_knowJoin 19 = .ok (.aload_n 0, 1) := by decide +kernel
theorem dX7_knowJoin_20 : decode cX7_knowJoin 20 = .ok (.getfield 32, 3) := by decide +kernel
theorem dX7_knowJoin_23 : decode cX7_knowJoin 23 = .ok (.aload_n 0, 1) := by decide +kernel
theorem dX7_knowJoin_24 : decode cX7_knowJoin 24 = .ok (.getfield 43, 3) := by decide +kernel
theorem dX7_knowJoin_27 : decode cX7_knowJoin 27 = .ok (.invokevirtual 221, 3) := by decide +kernel
theorem dX7_knowJoin_30 : decode cX7_knowJoin 30 = .ok (.aload_n 0, 1) := by decide +kernel
theorem dX7_knowJoin_31 : decode cX7_knowJoin 31 = .ok (.iconst 1, 1) := by decide +kernel
theorem dX7_knowJoin_32 : decode cX7_knowJoin 32 = .ok (.putfield 83, 3) := by decide +kernel
theorem dX7_knowJoin_35 : decode cX7_knowJoin 35 = .ok (.return_, 1) := by decide +kernel
theorem dX7_takeSpare_0 : decode cX7_takeSpare 0 = .ok (.aload_n 0, 1) := by decide +kernel
theorem dX7_takeSpare_1 : decode cX7_takeSpare 1 = .ok (.getfield 10, 3) := by decide +kernel
theorem dX7_takeSpare_4 : decode cX7_takeSpare 4 = .ok (.aload_n 0, 1) := by decide +kernel
theorem dX7_takeSpare_5 : decode cX7_takeSpare 5 = .ok (.getfield 29, 3) := by decide +kernel
theorem dX7_takeSpare_8 : decode cX7_takeSpare 8 = .ok (.invokevirtual 194, 3) := by decide +kernel
theorem dX7_takeSpare_11 : decode cX7_takeSpare 11 = .ok (.aload_n 0, 1) := by decide +kernel
theorem dX7_takeSpare_12 : decode cX7_takeSpare 12 = .ok (.getfield 32, 3) := by decide +kernel
theorem dX7_takeSpare_15 : decode cX7_takeSpare 15 = .ok (.iconst 0, 1) := by decide +kernel
theorem dX7_takeSpare_16 : decode cX7_takeSpare 16 = .ok (.invokestatic 225, 3) := by decide +kernel
theorem dX7_takeSpare_19 : decode cX7_takeSpare 19 = .ok (.aload_n 0, 1) := by decide +kernel
theorem dX7_takeSpare_20 : decode cX7_takeSpare 20 = .ok (.invokevirtual 94, 3) := by decide +kernel
theorem dX7_takeSpare_23 : decode cX7_takeSpare 23 = .ok (.return_, 1) := by decide +kernel
theorem dX7_squaresRound_0 : decode cX7_squaresRound 0 = .ok (.iconst 2, 1) := by decide +kernel
theorem dX7_squaresRound_1 : decode cX7_squaresRound 1 = .ok (.aload_n 0, 1) := by decide +kernel
theorem dX7_squaresRound_2 : decode cX7_squaresRound 2 = .ok (.getfield 10, 3) := by decide +kernel
theorem dX7_squaresRound_5 : decode cX7_squaresRound 5 = .ok (.getfield 133, 3) := by decide +kernel
theorem dX7_squaresRound_8 : decode cX7_squaresRound 8 = .ok (.imul, 1) := by decide +kernel
theorem dX7_squaresRound_9 : decode cX7_squaresRound 9 = .ok (.istore 4, 2) := by decide +kernel
theorem dX7_squaresRound_11 : decode cX7_squaresRound 11 = .ok (.iload 4, 2) := by decide +kernel
theorem dX7_squaresRound_13 : decode cX7_squaresRound 13 = .ok (.iload_n 3, 1) := by decide +kernel
theorem dX7_squaresRound_14 : decode cX7_squaresRound 14 = .ok (.imul, 1) := by decide +kernel
theorem dX7_squaresRound_15 : decode cX7_squaresRound 15 = .ok (.iload_n 2, 1) := by decide +kernel
theorem dX7_squaresRound_16 : decode cX7_squaresRound 16 = .ok (.iadd, 1) := by decide +kernel
theorem dX7_squaresRound_17 : decode cX7_squaresRound 17 = .ok (.istore 5, 2) := by decide +kernel
theorem dX7_squaresRound_19 : decode cX7_squaresRound 19 = .ok (.iconst 0, 1) := by decide +kernel
theorem dX7_squaresRound_20 : decode cX7_squaresRound 20 = .ok (.istore 6, 2) := by decide +kernel
theorem dX7_squaresRound_22 : decode cX7_squaresRound 22 = .ok (.iload 6, 2) := by decide +kernel
theorem dX7_squaresRound_24 : decode cX7_squaresRound 24 = .ok (.aload_n 0, 1) := by decide +kernel
theorem dX7_squaresRound_25 : decode cX7_squaresRound 25 = .ok (.getfield 43, 3) := by decide +kernel
theorem dX7_squaresRound_28 : decode cX7_squaresRound 28 = .ok (.iload 5, 2) := by decide +kernel
theorem dX7_squaresRound_30 : decode cX7_squaresRound 30 = .ok (.invokevirtual 114, 3) := by decide +kernel
theorem dX7_squaresRound_33 : decode cX7_squaresRound 33 = .ok (.iload_n 1, 1) := by decide +kernel
theorem dX7_squaresRound_34 : decode cX7_squaresRound 34 = .ok (.if_icmp .ne 7, 3) := by decide +kernel
theorem dX7_squaresRound_37 : decode cX7_squaresRound 37 = .ok (.iconst 1, 1) := by decide +kernel
theorem dX7_squaresRound_38 : decode cX7_squaresRound 38 = .ok (.goto 4, 3) := by decide +kernel
theorem dX7_squaresRound_41 : decode cX7_squaresRound 41 = .ok (.iconst 0, 1) := by decide +kernel
theorem dX7_squaresRound_42 : decode cX7_squaresRound 42 = .ok (.iadd, 1) := by decide +kernel
theorem dX7_squaresRound_43 : decode cX7_squaresRound 43 = .ok (.istore 6, 2) := by decide +kernel
theorem dX7_squaresRound_45 : decode cX7_squaresRound 45 = .ok (.iload 6, 2) := by decide +kernel
theorem dX7_squaresRound_47 : decode cX7_squaresRound 47 = .ok (.aload_n 0, 1) := by decide +kernel
theorem dX7_squaresRound_48 : decode cX7_squaresRound 48 = .ok (.getfield 43, 3) := by decide +kernel
theorem dX7_squaresRound_51 : decode cX7_squaresRound 51 = .ok (.iload 5, 2) := by decide +kernel
theorem dX7_squaresRound_53 : decode cX7_squaresRound 53 = .ok (.iconst 1, 1) := by decide +kernel
theorem dX7_squaresRound_54 : decode cX7_squaresRound 54 = .ok (.isub, 1) := by decide +kernel
theorem dX7_squaresRound_55 : decode cX7_squaresRound 55 = .ok (.invokevirtual 114, 3) := by decide +kernel
theorem dX7_squaresRound_58 : decode cX7_squaresRound 58 = .ok (.iload_n 1, 1) := by decide +kernel
theorem dX7_squaresRound_59 : decode cX7_squaresRound 59 = .ok (.if_icmp .ne 7, 3) := by decide +kernel
theorem dX7_squaresRound_62 : decode cX7_squaresRound 62 = .ok (.iconst 1, 1) := by decide +kernel
theorem dX7_squaresRound_63 : decode cX7_squaresRound 63 = .ok (.goto 4, 3) := by decide +kernel
theorem dX7_squaresRound_66 : decode cX7_squaresRound 66 = .ok (.iconst 0, 1) := by decide +kernel
theorem dX7_squaresRound_67 : decode cX7_squaresRound 67 = .ok (.iadd, 1) := by decide +kernel
theorem dX7_squaresRound_68 : decode cX7_squaresRound 68 = .ok (.istore 6, 2) := by decide +kernel
theorem dX7_squaresRound_70 : decode cX7_squaresRound 70 = .ok (.iload 6, 2) := by decide +kernel
theorem dX7_squaresRound_72 : decode cX7_squaresRound 72 = .ok (.aload_n 0, 1) := by decide +kernel
theorem dX7_squaresRound_73 : decode cX7_squaresRound 73 = .ok (.getfield 43, 3) := by decide +kernel
theorem dX7_squaresRound_76 : decode cX7_squaresRound 76 = .ok (.iload 5, 2) := by decide +kernel
theorem dX7_squaresRound_78 : decode cX7_squaresRound 78 = .ok (.iload 4, 2) := by decide +kernel
theorem dX7_squaresRound_80 : decode cX7_squaresRound 80 = .ok (.isub, 1) := by decide +kernel
theorem dX7_squaresRound_81 : decode cX7_squaresRound 81 = .ok (.invokevirtual 114, 3) := by decide +kernel
theorem dX7_squaresRound_84 : decode cX7_squaresRound 84 = .ok (.iload_n 1, 1) := by decide +kernel
theorem dX7_squaresRound_85 : decode cX7_squaresRound 85 = .ok (.if_icmp .ne 7, 3) := by decide +kernel
theorem dX7_squaresRound_88 : decode cX7_squaresRound 88 = .ok (.iconst 1, 1) := by decide +kernel
theorem dX7_squaresRound_89 : decode cX7_squaresRound 89 = .ok (.goto 4, 3) := by decide +kernel
theorem dX7_squaresRound_92 : decode cX7_squaresRound 92 = .ok (.iconst 0, 1) := by decide +kernel
theorem dX7_squaresRound_93 : decode cX7_squaresRound 93 = .ok (.iadd, 1) := by decide +kernel
theorem dX7_squaresRound_94 : decode cX7_squaresRound 94 = .ok (.istore 6, 2) := by decide +kernel
theorem dX7_squaresRound_96 : decode cX7_squaresRound 96 = .ok (.iload 6, 2) := by decide +kernel
theorem dX7_squaresRound_98 : decode cX7_squaresRound 98 = .ok (.aload_n 0, 1) := by decide +kernel
theorem dX7_squaresRound_99 : decode cX7_squaresRound 99 = .ok (.getfield 43, 3) := by decide +kernel
theorem dX7_squaresRound_102 : decode cX7_squaresRound 102 = .ok (.iload 5, 2) := by decide +kernel
theorem dX7_squaresRound_104 : decode cX7_squaresRound 104 = .ok (.iload 4, 2) := by decide +kernel
theorem dX7_squaresRound_106 : decode cX7_squaresRound 106 = .ok (.isub, 1) := by decide +kernel
theorem dX7_squaresRound_107 : decode cX7_squaresRound 107 = .ok (.iconst 1, 1) := by decide +kernel
theorem dX7_squaresRound_108 : decode cX7_squaresRound 108 = .ok (.isub, 1) := by decide +kernel
theorem dX7_squaresRound_109 : decode cX7_squaresRound 109 = .ok (.invokevirtual 114, 3) := by decide +kernel
theorem dX7_squaresRound_112 : decode cX7_squaresRound 112 = .ok (.iload_n 1, 1) := by decide +kernel
theorem dX7_squaresRound_113 : decode cX7_squaresRound 113 = .ok (.if_icmp .ne 7, 3) := by decide +kernel
theorem dX7_squaresRound_116 : decode cX7_squaresRound 116 = .ok (.iconst 1, 1) := by decide +kernel
theorem dX7_squaresRound_117 : decode cX7_squaresRound 117 = .ok (.goto 4, 3) := by decide +kernel
theorem dX7_squaresRound_120 : decode cX7_squaresRound 120 = .ok (.iconst 0, 1) := by decide +kernel
theorem dX7_squaresRound_121 : decode cX7_squaresRound 121 = .ok (.iadd, 1) := by decide +kernel
theorem dX7_squaresRound_122 : decode cX7_squaresRound 122 = .ok (.istore 6, 2) := by decide +kernel
theorem dX7_squaresRound_124 : decode cX7_squaresRound 124 = .ok (.iload 6, 2) := by decide +kernel
theorem dX7_squaresRound_126 : decode cX7_squaresRound 126 = .ok (.ireturn, 1) := by decide +kernel
theorem dX7_dotsHeld_0 : decode cX7_dotsHeld 0 = .ok (.iconst 0, 1) := by decide +kernel
theorem dX7_dotsHeld_1 : decode cX7_dotsHeld 1 = .ok (.istore_n 3, 1) := by decide +kernel
theorem dX7_dotsHeld_2 : decode cX7_dotsHeld 2 = .ok (.iconst 0, 1) := by decide +kernel
theorem dX7_dotsHeld_3 : decode cX7_dotsHeld 3 = .ok (.istore 4, 2) := by decide +kernel
theorem dX7_dotsHeld_5 : decode cX7_dotsHeld 5 = .ok (.iload 4, 2) := by decide +kernel
theorem dX7_dotsHeld_7 : decode cX7_dotsHeld 7 = .ok (.aload_n 0, 1) := by decide +kernel
theorem dX7_dotsHeld_8 : decode cX7_dotsHeld 8 = .ok (.getfield 10, 3) := by decide +kernel
theorem dX7_dotsHeld_11 : decode cX7_dotsHeld 11 = .ok (.getfield 136, 3) := by decide +kernel
theorem dX7_dotsHeld_14 : decode cX7_dotsHeld 14 = .ok (.if_icmp .ge 54, 3) := by decide +kernel
theorem dX7_dotsHeld_17 : decode cX7_dotsHeld 17 = .ok (.iconst 0, 1) := by decide +kernel
theorem dX7_dotsHeld_18 : decode cX7_dotsHeld 18 = .ok (.istore 5, 2) := by decide +kernel
theorem dX7_dotsHeld_20 : decode cX7_dotsHeld 20 = .ok (.iload 5, 2) := by decide +kernel
theorem dX7_dotsHeld_22 : decode cX7_dotsHeld 22 = .ok (.aload_n 0, 1) := by decide +kernel
theorem dX7_dotsHeld_23 : decode cX7_dotsHeld 23 = .ok (.getfield 10, 3) := by decide +kernel
theorem dX7_dotsHeld_26 : decode cX7_dotsHeld 26 = .ok (.getfield 133, 3) := by decide +kernel
theorem dX7_dotsHeld_29 : decode cX7_dotsHeld 29 = .ok (.if_icmp .ge 33, 3) := by decide +kernel
theorem dX7_dotsHeld_32 : decode cX7_dotsHeld 32 = .ok (.aload_n 0, 1) := by decide +kernel
theorem dX7_dotsHeld_33 : decode cX7_dotsHeld 33 = .ok (.iload_n 1, 1) := by decide +kernel
theorem dX7_dotsHeld_34 : decode cX7_dotsHeld 34 = .ok (.iconst 2, 1) := by decide +kernel
theorem dX7_dotsHeld_35 : decode cX7_dotsHeld 35 = .ok (.iload 5, 2) := by decide +kernel
theorem dX7_dotsHeld_37 : decode cX7_dotsHeld 37 = .ok (.imul, 1) := by decide +kernel
theorem dX7_dotsHeld_38 : decode cX7_dotsHeld 38 = .ok (.iconst 1, 1) := by decide +kernel
theorem dX7_dotsHeld_39 : decode cX7_dotsHeld 39 = .ok (.iadd, 1) := by decide +kernel
theorem dX7_dotsHeld_40 : decode cX7_dotsHeld 40 = .ok (.iconst 2, 1) := by decide +kernel
theorem dX7_dotsHeld_41 : decode cX7_dotsHeld 41 = .ok (.iload 4, 2) := by decide +kernel
theorem dX7_dotsHeld_43 : decode cX7_dotsHeld 43 = .ok (.imul, 1) := by decide +kernel
theorem dX7_dotsHeld_44 : decode cX7_dotsHeld 44 = .ok (.iconst 1, 1) := by decide +kernel
theorem dX7_dotsHeld_45 : decode cX7_dotsHeld 45 = .ok (.iadd, 1) := by decide +kernel
theorem dX7_dotsHeld_46 : decode cX7_dotsHeld 46 = .ok (.invokevirtual 139, 3) := by decide +kernel
theorem dX7_dotsHeld_49 : decode cX7_dotsHeld 49 = .ok (.iload_n 2, 1) := by decide +kernel
theorem dX7_dotsHeld_50 : decode cX7_dotsHeld 50 = .ok (.if_icmp .lt 6, 3) := by decide +kernel
theorem dX7_dotsHeld_53 : decode cX7_dotsHeld 53 = .ok (.iinc 3 1, 3) := by decide +kernel
theorem dX7_dotsHeld_56 : decode cX7_dotsHeld 56 = .ok (.iinc 5 1, 3) := by decide +kernel
theorem dX7_dotsHeld_59 : decode cX7_dotsHeld 59 = .ok (.goto (-39), 3) := by decide +kernel
theorem dX7_dotsHeld_62 : decode cX7_dotsHeld 62 = .ok (.iinc 4 1, 3) := by decide +kernel
theorem dX7_dotsHeld_65 : decode cX7_dotsHeld 65 = .ok (.goto (-60), 3) := by decide +kernel
theorem dX7_dotsHeld_68 : decode cX7_dotsHeld 68 = .ok (.iload_n 3, 1) := by decide +kernel
theorem dX7_dotsHeld_69 : decode cX7_dotsHeld 69 = .ok (.ireturn, 1) := by decide +kernel
theorem dX7_pointsMetTwice_0 : decode cX7_pointsMetTwice 0 = .ok (.iconst 0, 1) := by decide +kernel
theorem dX7_pointsMetTwice_1 : decode cX7_pointsMetTwice 1 = .ok (.istore_n 2, 1) := by decide +kernel
theorem dX7_pointsMetTwice_2 : decode cX7_pointsMetTwice 2 = .ok (.iconst 1, 1) := by decide +kernel
theorem dX7_pointsMetTwice_3 : decode cX7_pointsMetTwice 3 = .ok (.istore_n 3, 1) := by decide +kernel
theorem dX7_pointsMetTwice_4 : decode cX7_pointsMetTwice 4 = .ok (.iload_n 3, 1) := by decide +kernel
theorem dX7_pointsMetTwice_5 : decode cX7_pointsMetTwice 5 = .ok (.iconst 2, 1) := by decide +kernel
theorem dX7_pointsMetTwice_6 : decode cX7_pointsMetTwice 6 = .ok (.aload_n 0, 1) := by decide +kernel
theorem dX7_pointsMetTwice_7 : decode cX7_pointsMetTwice 7 = .ok (.getfield 10, 3) := by decide +kernel
theorem dX7_pointsMetTwice_10 : decode cX7_pointsMetTwice 10 = .ok (.getfield 136, 3) := by decide +kernel
theorem dX7_pointsMetTwice_13 : decode cX7_pointsMetTwice 13 = .ok (.imul, 1) := by decide +kernel
theorem dX7_pointsMetTwice_14 : decode cX7_pointsMetTwice 14 = .ok (.if_icmp .ge 51, 3) := by decide +kernel
theorem dX7_pointsMetTwice_17 : decode cX7_pointsMetTwice 17 = .ok (.iconst 1, 1) := by decide +kernel
theorem dX7_pointsMetTwice_18 : decode cX7_pointsMetTwice 18 = .ok (.iload_n 3, 1) := by decide +kernel
theorem dX7_pointsMetTwice_19 : decode cX7_pointsMetTwice 19 = .ok (.iconst 1, 1) := by decide +kernel
theorem dX7_pointsMetTwice_20 : decode cX7_pointsMetTwice 20 = .ok (.iand, 1) := by decide +kernel
theorem dX7_pointsMetTwice_21 : decode cX7_pointsMetTwice 21 = .ok (.iadd, 1) := by decide +kernel
theorem dX7_pointsMetTwice_22 : decode cX7_pointsMetTwice 22 = .ok (.istore 4, 2) := by decide +kernel
theorem dX7_pointsMetTwice_24 : decode cX7_pointsMetTwice 24 = .ok (.iload 4, 2) := by decide +kernel
theorem dX7_pointsMetTwice_26 : decode cX7_pointsMetTwice 26 = .ok (.iconst 2, 1) := by decide +kernel
theorem dX7_pointsMetTwice_27 : decode cX7_pointsMetTwice 27 = .ok (.aload_n 0, 1) := by decide +kernel
theorem dX7_pointsMetTwice_28 : decode cX7_pointsMetTwice 28 = .ok (.getfield 10, 3) := by decide +kernel
theorem dX7_pointsMetTwice_31 : decode cX7_pointsMetTwice 31 = .ok (.getfield 133, 3) := by decide +kernel
theorem dX7_pointsMetTwice_34 : decode cX7_pointsMetTwice 34 = .ok (.imul, 1) := by decide +kernel
theorem dX7_pointsMetTwice_35 : decode cX7_pointsMetTwice 35 = .ok (.if_icmp .ge 24, 3) := by decide +kernel
theorem dX7_pointsMetTwice_38 : decode cX7_pointsMetTwice 38 = .ok (.aload_n 0, 1) := by decide +kernel
theorem dX7_pointsMetTwice_39 : decode cX7_pointsMetTwice 39 = .ok (.iload_n 1, 1) := by decide +kernel
theorem dX7_pointsMetTwice_40 : decode cX7_pointsMetTwice 40 = .ok (.iload 4, 2) := by decide +kernel
theorem dX7_pointsMetTwice_42 : decode cX7_pointsMetTwice 42 = .ok (.iload_n 3, 1) := by decide +kernel
theorem dX7_pointsMetTwice_43 : decode cX7_pointsMetTwice 43 = .ok (.invokevirtual 139, 3) := by decide +kernel
theorem dX7_pointsMetTwice_46 : decode cX7_pointsMetTwice 46 = .ok (.iconst 4, 1) := by decide +kernel
theorem dX7_pointsMetTwice_47 : decode cX7_pointsMetTwice 47 = .ok (.if_icmp .ne 6, 3) := by decide +kernel
theorem dX7_pointsMetTwice_50 : decode cX7_pointsMetTwice 50 = .ok (.iinc 2 1, 3) := by decide +kernel
theorem dX7_pointsMetTwice_53 : decode cX7_pointsMetTwice 53 = .ok (.iinc 4 2, 3) := by decide +kernel
theorem dX7_pointsMetTwice_56 : decode cX7_pointsMetTwice 56 = .ok (.goto (-32), 3) := by decide +kernel
theorem dX7_pointsMetTwice_59 : decode cX7_pointsMetTwice 59 = .ok (.iinc 3 1, 3) := by decide +kernel
theorem dX7_pointsMetTwice_62 : decode cX7_pointsMetTwice 62 = .ok (.goto (-58), 3) := by decide +kernel
theorem dX7_pointsMetTwice_65 : decode cX7_pointsMetTwice 65 = .ok (.iload_n 2, 1) := by decide +kernel
theorem dX7_pointsMetTwice_66 : decode cX7_pointsMetTwice 66 = .ok (.ireturn, 1) := by decide +kernel
theorem dX7_waysFrom_0 : decode cX7_waysFrom 0 = .ok (.iconst 0, 1) := by decide +kernel
theorem dX7_waysFrom_1 : decode cX7_waysFrom 1 = .ok (.istore_n 2, 1) := by decide +kernel
theorem dX7_waysFrom_2 : decode cX7_waysFrom 2 = .ok (.iconst 0, 1) := by decide +kernel
theorem dX7_waysFrom_3 : decode cX7_waysFrom 3 = .ok (.istore_n 3, 1) := by decide +kernel
theorem dX7_waysFrom_4 : decode cX7_waysFrom 4 = .ok (.iload_n 3, 1) := by decide +kernel
theorem dX7_waysFrom_5 : decode cX7_waysFrom 5 = .ok (.iconst 4, 1) := by decide +kernel
theorem dX7_waysFrom_6 : decode cX7_waysFrom 6 = .ok (.if_icmp .ge 73, 3) := by decide +kernel
theorem dX7_waysFrom_9 : decode cX7_waysFrom 9 = .ok (.aload_n 0, 1) := by decide +kernel
theorem dX7_waysFrom_10 : decode cX7_waysFrom 10 = .ok (.getfield 29, 3) := by decide +kernel
theorem dX7_waysFrom_13 : decode cX7_waysFrom 13 = .ok (.aload_n 1, 1) := by decide +kernel
theorem dX7_waysFrom_14 : decode cX7_waysFrom 14 = .ok (.iload_n 3, 1) := by decide +kernel
theorem dX7_waysFrom_15 : decode cX7_waysFrom 15 = .ok (.iconst 0, 1) := by decide +kernel
theorem dX7_waysFrom_16 : decode cX7_waysFrom 16 = .ok (.invokevirtual 231, 3) := by decide +kernel
theorem dX7_waysFrom_19 : decode cX7_waysFrom 19 = .ok (.iload_n 2, 1) := by decide +kernel
theorem dX7_waysFrom_20 : decode cX7_waysFrom 20 = .ok (.aload_n 0, 1) := by decide +kernel
theorem dX7_waysFrom_21 : decode cX7_waysFrom 21 = .ok (.getfield 29, 3) := by decide +kernel
theorem dX7_waysFrom_24 : decode cX7_waysFrom 24 = .ok (.aload_n 0, 1) := by decide +kernel
theorem dX7_waysFrom_25 : decode cX7_waysFrom 25 = .ok (.getfield 10, 3) := by decide +kernel
theorem dX7_waysFrom_28 : decode cX7_waysFrom 28 = .ok (.invokevirtual 198, 3) := by decide +kernel
theorem dX7_waysFrom_31 : decode cX7_waysFrom 31 = .ok (.ifCond .eq 7, 3) := by decide +kernel
theorem dX7_waysFrom_34 : decode cX7_waysFrom 34 = .ok (.iconst 1, 1) := by decide +kernel
theorem dX7_waysFrom_35 : decode cX7_waysFrom 35 = .ok (.goto 4, 3) := by decide +kernel
theorem dX7_waysFrom_38 : decode cX7_waysFrom 38 = .ok (.iconst 0, 1) := by decide +kernel
theorem dX7_waysFrom_39 : decode cX7_waysFrom 39 = .ok (.iadd, 1) := by decide +kernel
theorem dX7_waysFrom_40 : decode cX7_waysFrom 40 = .ok (.istore_n 2, 1) := by decide +kernel
theorem dX7_waysFrom_41 : decode cX7_waysFrom 41 = .ok (.aload_n 0, 1) := by decide +kernel
theorem dX7_waysFrom_42 : decode cX7_waysFrom 42 = .ok (.getfield 29, 3) := by decide +kernel
theorem dX7_waysFrom_45 : decode cX7_waysFrom 45 = .ok (.aload_n 1, 1) := by decide +kernel
theorem dX7_waysFrom_46 : decode cX7_waysFrom 46 = .ok (.iload_n 3, 1) := by decide +kernel
theorem dX7_waysFrom_47 : decode cX7_waysFrom 47 = .ok (.iconst 1, 1) := by decide +kernel
theorem dX7_waysFrom_48 : decode cX7_waysFrom 48 = .ok (.invokevirtual 231, 3) := by decide +kernel
theorem dX7_waysFrom_51 : decode cX7_waysFrom 51 = .ok (.iload_n 2, 1) := by decide +kernel
theorem dX7_waysFrom_52 : decode cX7_waysFrom 52 = .ok (.aload_n 0, 1) := by decide +kernel
theorem dX7_waysFrom_53 : decode cX7_waysFrom 53 = .ok (.getfield 29, 3) := by decide +kernel
theorem dX7_waysFrom_56 : decode cX7_waysFrom 56 = .ok (.aload_n 0, 1) := by decide +kernel
theorem dX7_waysFrom_57 : decode cX7_waysFrom 57 = .ok (.getfield 10, 3) := by decide +kernel
theorem dX7_waysFrom_60 : decode cX7_waysFrom 60 = .ok (.invokevirtual 198, 3) := by decide +kernel
theorem dX7_waysFrom_63 : decode cX7_waysFrom 63 = .ok (.ifCond .eq 7, 3) := by decide +kernel
theorem dX7_waysFrom_66 : decode cX7_waysFrom 66 = .ok (.iconst 1, 1) := by decide +kernel
theorem dX7_waysFrom_67 : decode cX7_waysFrom 67 = .ok (.goto 4, 3) := by decide +kernel
theorem dX7_waysFrom_70 : decode cX7_waysFrom 70 = .ok (.iconst 0, 1) := by decide +kernel
theorem dX7_waysFrom_71 : decode cX7_waysFrom 71 = .ok (.iadd, 1) := by decide +kernel
theorem dX7_waysFrom_72 : decode cX7_waysFrom 72 = .ok (.istore_n 2, 1) := by decide +kernel
theorem dX7_waysFrom_73 : decode cX7_waysFrom 73 = .ok (.iinc 3 1, 3) := by decide +kernel
theorem dX7_waysFrom_76 : decode cX7_waysFrom 76 = .ok (.goto (-72), 3) := by decide +kernel
theorem dX7_waysFrom_79 : decode cX7_waysFrom 79 = .ok (.iload_n 2, 1) := by decide +kernel
theorem dX7_waysFrom_80 : decode cX7_waysFrom 80 = .ok (.ireturn, 1) := by decide +kernel
theorem dX7_pinCount_0 : decode cX7_pinCount 0 = .ok (.iconst 0, 1) := by decide +kernel
theorem dX7_pinCount_1 : decode cX7_pinCount 1 = .ok (.istore_n 1, 1) := by decide +kernel
theorem dX7_pinCount_2 : decode cX7_pinCount 2 = .ok (.aload_n 0, 1) := by decide +kernel
theorem dX7_pinCount_3 : decode cX7_pinCount 3 = .ok (.getfield 32, 3) := by decide +kernel
theorem dX7_pinCount_6 : decode cX7_pinCount 6 = .ok (.astore_n 2, 1) := by decide +kernel
theorem dX7_pinCount_7 : decode cX7_pinCount 7 = .ok (.aload_n 2, 1) := by decide +kernel
theorem dX7_pinCount_8 : decode cX7_pinCount 8 = .ok (.arraylength, 1) := by decide +kernel
theorem dX7_pinCount_9 : decode cX7_pinCount 9 = .ok (.istore_n 3, 1) := by decide +kernel
theorem dX7_pinCount_10 : decode cX7_pinCount 10 = .ok (.iconst 0, 1) := by decide +kernel
theorem dX7_pinCount_11 : decode cX7_pinCount 11 = .ok (.istore 4, 2) := by decide +kernel
theorem dX7_pinCount_13 : decode cX7_pinCount 13 = .ok (.iload 4, 2) := by decide +kernel
theorem dX7_pinCount_15 : decode cX7_pinCount 15 = .ok (.iload_n 3, 1) := by decide +kernel
theorem dX7_pinCount_16 : decode cX7_pinCount 16 = .ok (.if_icmp .ge 20, 3) := by decide +kernel
theorem dX7_pinCount_19 : decode cX7_pinCount 19 = .ok (.aload_n 2, 1) := by decide +kernel
theorem dX7_pinCount_20 : decode cX7_pinCount 20 = .ok (.iload 4, 2) := by decide +kernel
theorem dX7_pinCount_22 : decode cX7_pinCount 22 = .ok (.iaload, 1) := by decide +kernel
theorem dX7_pinCount_23 : decode cX7_pinCount 23 = .ok (.istore 5, 2) := by decide +kernel
theorem dX7_pinCount_25 : decode cX7_pinCount 25 = .ok (.iload_n 1, 1) := by decide +kernel
theorem dX7_pinCount_26 : decode cX7_pinCount 26 = .ok (.iload 5, 2) := by decide +kernel
theorem dX7_pinCount_28 : decode cX7_pinCount 28 = .ok (.iadd, 1) := by decide +kernel
theorem dX7_pinCount_29 : decode cX7_pinCount 29 = .ok (.istore_n 1, 1) := by decide +kernel
theorem dX7_pinCount_30 : decode cX7_pinCount 30 = .ok (.iinc 4 1, 3) := by decide +kernel
theorem dX7_pinCount_33 : decode cX7_pinCount 33 = .ok (.goto (-20), 3) := by decide +kernel
theorem dX7_pinCount_36 : decode cX7_pinCount 36 = .ok (.iload_n 1, 1) := by decide +kernel
theorem dX7_pinCount_37 : decode cX7_pinCount 37 = .ok (.ireturn, 1) := by decide +kernel
theorem dX7_shelvesUsed_0 : decode cX7_shelvesUsed 0 = .ok (.iconst 0, 1) := by decide +kernel
theorem dX7_shelvesUsed_1 : decode cX7_shelvesUsed 1 = .ok (.istore_n 1, 1) := by decide +kernel
theorem dX7_shelvesUsed_2 : decode cX7_shelvesUsed 2 = .ok (.aload_n 0, 1) := by decide +kernel
theorem dX7_shelvesUsed_3 : decode cX7_shelvesUsed 3 = .ok (.getfield 36, 3) := by decide +kernel
theorem dX7_shelvesUsed_6 : decode cX7_shelvesUsed 6 = .ok (.astore_n 2, 1) := by decide +kernel
theorem dX7_shelvesUsed_7 : decode cX7_shelvesUsed 7 = .ok (.aload_n 2, 1) := by decide +kernel
theorem dX7_shelvesUsed_8 : decode cX7_shelvesUsed 8 = .ok (.arraylength, 1) := by decide +kernel
theorem dX7_shelvesUsed_9 : decode cX7_shelvesUsed 9 = .ok (.istore_n 3, 1) := by decide +kernel
theorem dX7_shelvesUsed_10 : decode cX7_shelvesUsed 10 = .ok (.iconst 0, 1) := by decide +kernel
theorem dX7_shelvesUsed_11 : decode cX7_shelvesUsed 11 = .ok (.istore 4, 2) := by decide +kernel
theorem dX7_shelvesUsed_13 : decode cX7_shelvesUsed 13 = .ok (.iload 4, 2) := by decide +kernel
theorem dX7_shelvesUsed_15 : decode cX7_shelvesUsed 15 = .ok (.iload_n 3, 1) := by decide +kernel
theorem dX7_shelvesUsed_16 : decode cX7_shelvesUsed 16 = .ok (.if_icmp .ge 28, 3) := by decide +kernel
theorem dX7_shelvesUsed_19 : decode cX7_shelvesUsed 19 = .ok (.aload_n 2, 1) := by decide +kernel
theorem dX7_shelvesUsed_20 : decode cX7_shelvesUsed 20 = .ok (.iload 4, 2) := by decide +kernel
theorem dX7_shelvesUsed_22 : decode cX7_shelvesUsed 22 = .ok (.aaload, 1) := by decide +kernel
theorem dX7_shelvesUsed_23 : decode cX7_shelvesUsed 23 = .ok (.astore 5, 2) := by decide +kernel
theorem dX7_shelvesUsed_25 : decode cX7_shelvesUsed 25 = .ok (.iload_n 1, 1) := by decide +kernel
theorem dX7_shelvesUsed_26 : decode cX7_shelvesUsed 26 = .ok (.aload 5, 2) := by decide +kernel
theorem dX7_shelvesUsed_28 : decode cX7_shelvesUsed 28 = .ok (.ifnull 7, 3) := by decide +kernel
theorem dX7_shelvesUsed_31 : decode cX7_shelvesUsed 31 = .ok (.iconst 1, 1) := by decide +kernel
theorem dX7_shelvesUsed_32 : decode cX7_shelvesUsed 32 = .ok (.goto 4, 3) := by decide +kernel
theorem dX7_shelvesUsed_35 : decode cX7_shelvesUsed 35 = .ok (.iconst 0, 1) := by decide +kernel
theorem dX7_shelvesUsed_36 : decode cX7_shelvesUsed 36 = .ok (.iadd, 1) := by decide +kernel
theorem dX7_shelvesUsed_37 : decode cX7_shelvesUsed 37 = .ok (.istore_n 1, 1) := by decide +kernel
theorem dX7_shelvesUsed_38 : decode cX7_shelvesUsed 38 = .ok (.iinc 4 1, 3) := by decide +kernel
theorem dX7_shelvesUsed_41 : decode cX7_shelvesUsed 41 = .ok (.goto (-28), 3) := by decide +kernel
theorem dX7_shelvesUsed_44 : decode cX7_shelvesUsed 44 = .ok (.iload_n 1, 1) := by decide +kernel
theorem dX7_shelvesUsed_45 : decode cX7_shelvesUsed 45 = .ok (.ireturn, 1) := by decide +kernel
theorem dJ9_max_7cf53_0 : decode cJ9_max_7cf53 0 = .ok (.iload_n 0, 1) := by decide +kernel
theorem dJ9_max_7cf53_1 : decode cJ9_max_7cf53 1 = .ok (.iload_n 1, 1) := by decide +kernel
theorem dJ9_max_7cf53_2 : decode cJ9_max_7cf53 2 = .ok (.if_icmp .lt 7, 3) := by decide +kernel
theorem dJ9_max_7cf53_5 : decode cJ9_max_7cf53 5 = .ok (.iload_n 0, 1) := by decide +kernel
theorem dJ9_max_7cf53_6 : decode cJ9_max_7cf53 6 = .ok (.goto 4, 3) := by decide +kernel
theorem dJ9_max_7cf53_9 : decode cJ9_max_7cf53 9 = .ok (.iload_n 1, 1) := by decide +kernel
theorem dJ9_max_7cf53_10 : decode cJ9_max_7cf53 10 = .ok (.ireturn, 1) := by decide +kernel
theorem dJ9_min_7cf53_0 : decode cJ9_min_7cf53 0 = .ok (.iload_n 0, 1) := by decide +kernel
theorem dJ9_min_7cf53_1 : decode cJ9_min_7cf53 1 = .ok (.iload_n 1, 1) := by decide +kernel
theorem dJ9_min_7cf53_2 : decode cJ9_min_7cf53 2 = .ok (.if_icmp .gt 7, 3) := by decide +kernel
theorem dJ9_min_7cf53_5 : decode cJ9_min_7cf53 5 = .ok (.iload_n 0, 1) := by decide +kernel
theorem dJ9_min_7cf53_6 : decode cJ9_min_7cf53 6 = .ok (.goto 4, 3) := by decide +kernel
theorem dJ9_min_7cf53_9 : decode cJ9_min_7cf53 9 = .ok (.iload_n 1, 1) := by decide +kernel
theorem dJ9_min_7cf53_10 : decode cJ9_min_7cf53 10 = .ok (.ireturn, 1) := by decide +kernel
theorem dJ0_length_8abf5_0 : decode cJ0_length_8abf5 0 = .ok (.aload_n 0, 1) := by decide +kernel
theorem dJ0_length_8abf5_1 : decode cJ0_length_8abf5 1 = .ok (.getfield 9, 3) := by decide +kernel
theorem dJ0_length_8abf5_4 : decode cJ0_length_8abf5 4 = .ok (.arraylength, 1) := by decide +kernel
theorem dJ0_length_8abf5_5 : decode cJ0_length_8abf5 5 = .ok (.aload_n 0, 1) := by decide +kernel
theorem dJ0_length_8abf5_6 : decode cJ0_length_8abf5 6 = .ok (.invokevirtual 335, 3) := by decide +kernel
theorem dJ0_length_8abf5_9 : decode cJ0_length_8abf5 9 = .ok (.ishr, 1) := by decide +kernel
theorem dJ0_length_8abf5_10 : decode cJ0_length_8abf5 10 = .ok (.ireturn, 1) := by decide +kernel
theorem dJ0_charAt_5068e_0 : decode cJ0_charAt_5068e 0 = .ok (.aload_n 0, 1) := by decide +kernel
theorem dJ0_charAt_5068e_1 : decode cJ0_charAt_5068e 1 = .ok (.invokevirtual 492, 3) := by decide +kernel
theorem dJ0_charAt_5068e_4 : decode cJ0_charAt_5068e 4 = .ok (.ifCond .eq 12, 3) := by decide +kernel
theorem dJ0_charAt_5068e_7 : decode cJ0_charAt_5068e 7 = .ok (.aload_n 0, 1) := by decide +kernel
theorem dJ0_charAt_5068e_8 : decode cJ0_charAt_5068e 8 = .ok (.getfield 9, 3) := by decide +kernel
theorem dJ0_charAt_5068e_11 : decode cJ0_charAt_5068e 11 = .ok (.iload_n 1, 1) := by decide +kernel
theorem dJ0_charAt_5068e_12 : decode cJ0_charAt_5068e 12 = .ok (.invokestatic 495, 3) := by decide +kernel
theorem dJ0_charAt_5068e_15 : decode cJ0_charAt_5068e 15 = .ok (.ireturn, 1) := by decide +kernel
theorem dJ0_charAt_5068e_16 : decode cJ0_charAt_5068e 16 = .ok (.aload_n 0, 1) := by decide +kernel
theorem dJ0_charAt_5068e_17 : decode cJ0_charAt_5068e 17 = .ok (.getfield 9, 3) := by decide +kernel
theorem dJ0_charAt_5068e_20 : decode cJ0_charAt_5068e 20 = .ok (.iload_n 1, 1) := by decide +kernel
theorem dJ0_charAt_5068e_21 : decode cJ0_charAt_5068e 21 = .ok (.invokestatic 498, 3) := by decide +kernel
theorem dJ0_charAt_5068e_24 : decode cJ0_charAt_5068e 24 = .ok (.ireturn, 1) := by decide +kernel
theorem dJ0_coder_7d493_0 : decode cJ0_coder_7d493 0 = .ok (.getstatic 38, 3) := by decide +kernel
theorem dJ0_coder_7d493_3 : decode cJ0_coder_7d493 3 = .ok (.ifCond .eq 10, 3) := by decide +kernel
theorem dJ0_coder_7d493_6 : decode cJ0_coder_7d493 6 = .ok (.aload_n 0, 1) := by decide +kernel
theorem dJ0_coder_7d493_7 : decode cJ0_coder_7d493 7 = .ok (.getfield 15, 3) := by decide +kernel
theorem dJ0_coder_7d493_10 : decode cJ0_coder_7d493 10 = .ok (.goto 4, 3) := by decide +kernel
theorem dJ0_coder_7d493_13 : decode cJ0_coder_7d493 13 = .ok (.iconst 1, 1) := by decide +kernel
theorem dJ0_coder_7d493_14 : decode cJ0_coder_7d493 14 = .ok (.ireturn, 1) := by decide +kernel
theorem dJ0_isLatin1_aae02_0 : decode cJ0_isLatin1_aae02 0 = .ok (.getstatic 38, 3) := by decide +kernel
theorem dJ0_isLatin1_aae02_3 : decode cJ0_isLatin1_aae02 3 = .ok (.ifCond .eq 14, 3) := by decide +kernel
theorem dJ0_isLatin1_aae02_6 : decode cJ0_isLatin1_aae02 6 = .ok (.aload_n 0, 1) := by decide +kernel
theorem dJ0_isLatin1_aae02_7 : decode cJ0_isLatin1_aae02 7 = .ok (.getfield 15, 3) := by decide +kernel
theorem dJ0_isLatin1_aae02_10 : decode cJ0_isLatin1_aae02 10 = .ok (.ifCond .ne 7, 3) := by decide +kernel
theorem dJ0_isLatin1_aae02_13 : decode cJ0_isLatin1_aae02 13 = .ok (.iconst 1, 1) := by decide +kernel
theorem dJ0_isLatin1_aae02_14 : decode cJ0_isLatin1_aae02 14 = .ok (.goto 4, 3) := by decide +kernel
theorem dJ0_isLatin1_aae02_17 : decode cJ0_isLatin1_aae02 17 = .ok (.iconst 0, 1) := by decide +kernel
theorem dJ0_isLatin1_aae02_18 : decode cJ0_isLatin1_aae02 18 = .ok (.ireturn, 1) := by decide +kernel
theorem dJ0_checkIndex_df160_0 : decode cJ0_checkIndex_df160 0 = .ok (.iload_n 0, 1) := by decide +kernel
theorem dJ0_checkIndex_df160_1 : decode cJ0_checkIndex_df160 1 = .ok (.iload_n 1, 1) := by decide +kernel
theorem dJ0_checkIndex_df160_2 : decode cJ0_checkIndex_df160 2 = .ok (.getstatic 1053, 3) := by decide +kernel
theorem dJ0_checkIndex_df160_5 : decode cJ0_checkIndex_df160 5 = .ok (.invokestatic 1059, 3) := by decide +kernel
theorem dJ0_checkIndex_df160_8 : decode cJ0_checkIndex_df160 8 = .ok (.pop, 1) := by decide +kernel
theorem dJ0_checkIndex_df160_9 : decode cJ0_checkIndex_df160 9 = .ok (.return_, 1) := by decide +kernel
theorem dJ1_charAt_3b067_0 : decode cJ1_charAt_3b067 0 = .ok (.iload_n 1, 1) := by decide +kernel
theorem dJ1_charAt_3b067_1 : decode cJ1_charAt_3b067 1 = .ok (.aload_n 0, 1) := by decide +kernel
theorem dJ1_charAt_3b067_2 : decode cJ1_charAt_3b067 2 = .ok (.arraylength, 1) := by decide +kernel
theorem dJ1_charAt_3b067_3 : decode cJ1_charAt_3b067 3 = .ok (.invokestatic 9, 3) := by decide +kernel
theorem dJ1_charAt_3b067_6 : decode cJ1_charAt_3b067 6 = .ok (.aload_n 0, 1) := by decide +kernel
theorem dJ1_charAt_3b067_7 : decode cJ1_charAt_3b067 7 = .ok (.iload_n 1, 1) := by decide +kernel
theorem dJ1_charAt_3b067_8 : decode cJ1_charAt_3b067 8 = .ok (.baload, 1) := by decide +kernel
theorem dJ1_charAt_3b067_9 : decode cJ1_charAt_3b067 9 = .ok (.sipush 255, 3) := by decide +kernel
theorem dJ1_charAt_3b067_12 : decode cJ1_charAt_3b067 12 = .ok (.iand, 1) := by decide +kernel
theorem dJ1_charAt_3b067_13 : decode cJ1_charAt_3b067 13 = .ok (.i2c, 1) := by decide +kernel
theorem dJ1_charAt_3b067_14 : decode cJ1_charAt_3b067 14 = .ok (.ireturn, 1) := by decide +kernel
theorem dJ2_getChar_3b067_0 : decode cJ2_getChar_3b067 0 = .ok (.getstatic 44, 3) := by decide +kernel
theorem dJ2_getChar_3b067_3 : decode cJ2_getChar_3b067 3 = .ok (.ifCond .ne 25, 3) := by decide +kernel
theorem dJ2_getChar_3b067_6 : decode cJ2_getChar_3b067 6 = .ok (.iload_n 1, 1) := by decide +kernel
theorem dJ2_getChar_3b067_7 : decode cJ2_getChar_3b067 7 = .ok (.ifCond .lt 11, 3) := by decide +kernel
theorem dJ2_getChar_3b067_10 : decode cJ2_getChar_3b067 10 = .ok (.iload_n 1, 1) := by decide +kernel
theorem dJ2_getChar_3b067_11 : decode cJ2_getChar_3b067 11 = .ok (.aload_n 0, 1) := by decide +kernel
theorem dJ2_getChar_3b067_12 : decode cJ2_getChar_3b067 12 = .ok (.invokestatic 48, 3) := by decide +kernel
theorem dJ2_getChar_3b067_15 : decode cJ2_getChar_3b067 15 = .ok (.if_icmp .lt 13, 3) := by decide +kernel
theorem dJ2_getChar_3b067_18 : decode cJ2_getChar_3b067 18 = .ok (.new 52, 3) := by decide +kernel
theorem dJ2_getChar_3b067_21 : decode cJ2_getChar_3b067 21 = .ok (.dup, 1) := by decide +kernel
theorem dJ2_getChar_3b067_22 : decode cJ2_getChar_3b067 22 = .ok (.ldc 54, 2) := by decide +kernel
theorem dJ2_getChar_3b067_24 : decode cJ2_getChar_3b067 24 = .ok (.invokespecial 56, 3) := by decide +kernel
theorem dJ2_getChar_3b067_27 : decode cJ2_getChar_3b067 27 = .ok (.athrow, 1) := by decide +kernel
theorem dJ2_getChar_3b067_28 : decode cJ2_getChar_3b067 28 = .ok (.iload_n 1, 1) := by decide +kernel
theorem dJ2_getChar_3b067_29 : decode cJ2_getChar_3b067 29 = .ok (.iconst 1, 1) := by decide +kernel
theorem dJ2_getChar_3b067_30 : decode cJ2_getChar_3b067 30 = .ok (.ishl, 1) := by decide +kernel
theorem dJ2_getChar_3b067_31 : decode cJ2_getChar_3b067 31 = .ok (.istore_n 1, 1) := by decide +kernel
theorem dJ2_getChar_3b067_32 : decode cJ2_getChar_3b067 32 = .ok (.aload_n 0, 1) := by decide +kernel
theorem dJ2_getChar_3b067_33 : decode cJ2_getChar_3b067 33 = .ok (.iload_n 1, 1) := by decide +kernel
theorem dJ2_getChar_3b067_34 : decode cJ2_getChar_3b067 34 = .ok (.iinc 1 1, 3) := by decide +kernel
theorem dJ2_getChar_3b067_37 : decode cJ2_getChar_3b067 37 = .ok (.baload, 1) := by decide +kernel
theorem dJ2_getChar_3b067_38 : decode cJ2_getChar_3b067 38 = .ok (.sipush 255, 3) := by decide +kernel
theorem dJ2_getChar_3b067_41 : decode cJ2_getChar_3b067 41 = .ok (.iand, 1) := by decide +kernel
theorem dJ2_getChar_3b067_42 : decode cJ2_getChar_3b067 42 = .ok (.getstatic 59, 3) := by decide +kernel
theorem dJ2_getChar_3b067_45 : decode cJ2_getChar_3b067 45 = .ok (.ishl, 1) := by decide +kernel
theorem dJ2_getChar_3b067_46 : decode cJ2_getChar_3b067 46 = .ok (.aload_n 0, 1) := by decide +kernel
theorem dJ2_getChar_3b067_47 : decode cJ2_getChar_3b067 47 = .ok (.iload_n 1, 1) := by decide +kernel
theorem dJ2_getChar_3b067_48 : decode cJ2_getChar_3b067 48 = .ok (.baload, 1) := by decide +kernel
theorem dJ2_getChar_3b067_49 : decode cJ2_getChar_3b067 49 = .ok (.sipush 255, 3) := by decide +kernel
theorem dJ2_getChar_3b067_52 : decode cJ2_getChar_3b067 52 = .ok (.iand, 1) := by decide +kernel
theorem dJ2_getChar_3b067_53 : decode cJ2_getChar_3b067 53 = .ok (.getstatic 63, 3) := by decide +kernel
theorem dJ2_getChar_3b067_56 : decode cJ2_getChar_3b067 56 = .ok (.ishl, 1) := by decide +kernel
theorem dJ2_getChar_3b067_57 : decode cJ2_getChar_3b067 57 = .ok (.ior, 1) := by decide +kernel
theorem dJ2_getChar_3b067_58 : decode cJ2_getChar_3b067 58 = .ok (.i2c, 1) := by decide +kernel
theorem dJ2_getChar_3b067_59 : decode cJ2_getChar_3b067 59 = .ok (.ireturn, 1) := by decide +kernel
theorem dJ2_length_9d52b_0 : decode cJ2_length_9d52b 0 = .ok (.aload_n 0, 1) := by decide +kernel
theorem dJ2_length_9d52b_1 : decode cJ2_length_9d52b 1 = .ok (.arraylength, 1) := by decide +kernel
theorem dJ2_length_9d52b_2 : decode cJ2_length_9d52b 2 = .ok (.iconst 1, 1) := by decide +kernel
theorem dJ2_length_9d52b_3 : decode cJ2_length_9d52b 3 = .ok (.ishr, 1) := by decide +kernel
theorem dJ2_length_9d52b_4 : decode cJ2_length_9d52b 4 = .ok (.ireturn, 1) := by decide +kernel
theorem dJ2_charAt_3b067_0 : decode cJ2_charAt_3b067 0 = .ok (.iload_n 1, 1) := by decide +kernel
theorem dJ2_charAt_3b067_1 : decode cJ2_charAt_3b067 1 = .ok (.aload_n 0, 1) := by decide +kernel
theorem dJ2_charAt_3b067_2 : decode cJ2_charAt_3b067 2 = .ok (.invokestatic 67, 3) := by decide +kernel
theorem dJ2_charAt_3b067_5 : decode cJ2_charAt_3b067 5 = .ok (.aload_n 0, 1) := by decide +kernel
theorem dJ2_charAt_3b067_6 : decode cJ2_charAt_3b067 6 = .ok (.iload_n 1, 1) := by decide +kernel
theorem dJ2_charAt_3b067_7 : decode cJ2_charAt_3b067 7 = .ok (.invokestatic 71, 3) := by decide +kernel
theorem dJ2_charAt_3b067_10 : decode cJ2_charAt_3b067 10 = .ok (.ireturn, 1) := by decide +kernel
theorem dJ2_checkIndex_2214a_0 : decode cJ2_checkIndex_2214a 0 = .ok (.iload_n 0, 1) := by decide +kernel
theorem dJ2_checkIndex_2214a_1 : decode cJ2_checkIndex_2214a 1 = .ok (.aload_n 1, 1) := by decide +kernel
theorem dJ2_checkIndex_2214a_2 : decode cJ2_checkIndex_2214a 2 = .ok (.invokestatic 48, 3) := by decide +kernel
theorem dJ2_checkIndex_2214a_5 : decode cJ2_checkIndex_2214a 5 = .ok (.invokestatic 414, 3) := by decide +kernel
theorem dJ2_checkIndex_2214a_8 : decode cJ2_checkIndex_2214a 8 = .ok (.return_, 1) := by decide +kernel
theorem dJ7_fill_53178_0 : decode cJ7_fill_53178 0 = .ok (.iconst 0, 1) := by decide +kernel
theorem dJ7_fill_53178_1 : decode cJ7_fill_53178 1 = .ok (.istore_n 2, 1) := by decide +kernel
theorem dJ7_fill_53178_2 : decode cJ7_fill_53178 2 = .ok (.aload_n 0, 1) := by decide +kernel
theorem dJ7_fill_53178_3 : decode cJ7_fill_53178 3 = .ok (.arraylength, 1) := by decide +kernel
theorem dJ7_fill_53178_4 : decode cJ7_fill_53178 4 = .ok (.istore_n 3, 1) := by decide +kernel
theorem dJ7_fill_53178_5 : decode cJ7_fill_53178 5 = .ok (.iload_n 2, 1) := by decide +kernel
theorem dJ7_fill_53178_6 : decode cJ7_fill_53178 6 = .ok (.iload_n 3, 1) := by decide +kernel
theorem dJ7_fill_53178_7 : decode cJ7_fill_53178 7 = .ok (.if_icmp .ge 13, 3) := by decide +kernel
theorem dJ7_fill_53178_10 : decode cJ7_fill_53178 10 = .ok (.aload_n 0, 1) := by decide +kernel
theorem dJ7_fill_53178_11 : decode cJ7_fill_53178 11 = .ok (.iload_n 2, 1) := by decide +kernel
theorem dJ7_fill_53178_12 : decode cJ7_fill_53178 12 = .ok (.iload_n 1, 1) := by decide +kernel
theorem dJ7_fill_53178_13 : decode cJ7_fill_53178 13 = .ok (.iastore, 1) := by decide +kernel
theorem dJ7_fill_53178_14 : decode cJ7_fill_53178 14 = .ok (.iinc 2 1, 3) := by decide +kernel
theorem dJ7_fill_53178_17 : decode cJ7_fill_53178 17 = .ok (.goto (-12), 3) := by decide +kernel
theorem dJ7_fill_53178_20 : decode cJ7_fill_53178 20 = .ok (.return_, 1) := by decide +kernel
theorem dJ3_checkIndex_8e157_0 : decode cJ3_checkIndex_8e157 0 = .ok (.iload_n 0, 1) := by decide +kernel
theorem dJ3_checkIndex_8e157_1 : decode cJ3_checkIndex_8e157 1 = .ok (.ifCond .lt 8, 3) := by decide +kernel
theorem dJ3_checkIndex_8e157_4 : decode cJ3_checkIndex_8e157 4 = .ok (.iload_n 0, 1) := by decide +kernel
theorem dJ3_checkIndex_8e157_5 : decode cJ3_checkIndex_8e157 5 = .ok (.iload_n 1, 1) := by decide +kernel
theorem dJ3_checkIndex_8e157_6 : decode cJ3_checkIndex_8e157 6 = .ok (.if_icmp .lt 10, 3) := by decide +kernel
theorem dJ3_checkIndex_8e157_9 : decode cJ3_checkIndex_8e157 9 = .ok (.aload_n 2, 1) := by decide +kernel
theorem dJ3_checkIndex_8e157_10 : decode cJ3_checkIndex_8e157 10 = .ok (.iload_n 0, 1) := by decide +kernel
theorem dJ3_checkIndex_8e157_11 : decode cJ3_checkIndex_8e157 11 = .ok (.iload_n 1, 1) := by decide +kernel
theorem dJ3_checkIndex_8e157_12 : decode cJ3_checkIndex_8e157 12 = .ok (.invokestatic 95, 3) := by decide +kernel
theorem dJ3_checkIndex_8e157_15 : decode cJ3_checkIndex_8e157 15 = .ok (.athrow, 1) := by decide +kernel
theorem dJ3_checkIndex_8e157_16 : decode cJ3_checkIndex_8e157 16 = .ok (.iload_n 0, 1) := by decide +kernel
theorem dJ3_checkIndex_8e157_17 : decode cJ3_checkIndex_8e157 17 = .ok (.ireturn, 1) := by decide +kernel
end
section
theorem dX8_init_0 : decode cX8_init 0 = .ok (.aload_n 0, 1) := by decide +kernel
theorem dX8_init_1 : decode cX8_init 1 = .ok (.invokespecial 1, 3) := by decide +kernel
theorem dX8_init_4 : decode cX8_init 4 = .ok (.aload_n 0, 1) := by decide +kernel
theorem dX8_init_5 : decode cX8_init 5 = .ok (.bipush 20, 2) := by decide +kernel
theorem dX8_init_7 : decode cX8_init 7 = .ok (.newarray .int, 2) := by decide +kernel
theorem dX8_init_9 : decode cX8_init 9 = .ok (.putfield 7, 3) := by decide +kernel
theorem dX8_init_12 : decode cX8_init 12 = .ok (.aload_n 0, 1) := by decide +kernel
theorem dX8_init_13 : decode cX8_init 13 = .ok (.bipush 20, 2) := by decide +kernel
theorem dX8_init_15 : decode cX8_init 15 = .ok (.newarray .int, 2) := by decide +kernel
theorem dX8_init_17 : decode cX8_init 17 = .ok (.putfield 13, 3) := by decide +kernel
theorem dX8_init_20 : decode cX8_init 20 = .ok (.aload_n 0, 1) := by decide +kernel
theorem dX8_init_21 : decode cX8_init 21 = .ok (.sipush 5780, 3) := by decide +kernel
theorem dX8_init_24 : decode cX8_init 24 = .ok (.newarray .byte, 2) := by decide +kernel
theorem dX8_init_26 : decode cX8_init 26 = .ok (.putfield 16, 3) := by decide +kernel
theorem dX8_init_29 : decode cX8_init 29 = .ok (.aload_n 0, 1) := by decide +kernel
theorem dX8_init_30 : decode cX8_init 30 = .ok (.sipush 289, 3) := by decide +kernel
theorem dX8_init_33 : decode cX8_init 33 = .ok (.newarray .boolean, 2) := by decide +kernel
theorem dX8_init_35 : decode cX8_init 35 = .ok (.putfield 20, 3) := by decide +kernel
theorem dX8_init_38 : decode cX8_init 38 = .ok (.aload_n 0, 1) := by decide +kernel
theorem dX8_init_39 : decode cX8_init 39 = .ok (.sipush 256, 3) := by decide +kernel
theorem dX8_init_42 : decode cX8_init 42 = .ok (.newarray .int, 2) := by decide +kernel
theorem dX8_init_44 : decode cX8_init 44 = .ok (.putfield 24, 3) := by decide +kernel
theorem dX8_init_47 : decode cX8_init 47 = .ok (.aload_n 0, 1) := by decide +kernel
theorem dX8_init_48 : decode cX8_init 48 = .ok (.sipush 256, 3) := by decide +kernel
theorem dX8_init_51 : decode cX8_init 51 = .ok (.newarray .int, 2) := by decide +kernel
theorem dX8_init_53 : decode cX8_init 53 = .ok (.putfield 27, 3) := by decide +kernel
theorem dX8_init_56 : decode cX8_init 56 = .ok (.aload_n 0, 1) := by decide +kernel
theorem dX8_init_57 : decode cX8_init 57 = .ok (.sipush 256, 3) := by decide +kernel
theorem dX8_init_60 : decode cX8_init 60 = .ok (.newarray .int, 2) := by decide +kernel
theorem dX8_init_62 : decode cX8_init 62 = .ok (.putfield 30, 3) := by decide +kernel
theorem dX8_init_65 : decode cX8_init 65 = .ok (.aload_n 0, 1) := by decide +kernel
theorem dX8_init_66 : decode cX8_init 66 = .ok (.sipush 257, 3) := by decide +kernel
theorem dX8_init_69 : decode cX8_init 69 = .ok (.newarray .int, 2) := by decide +kernel
theorem dX8_init_71 : decode cX8_init 71 = .ok (.putfield 33, 3) := by decide +kernel
theorem dX8_init_74 : decode cX8_init 74 = .ok (.aload_n 0, 1) := by decide +kernel
theorem dX8_init_75 : decode cX8_init 75 = .ok (.sipush 256, 3) := by decide +kernel
theorem dX8_init_78 : decode cX8_init 78 = .ok (.newarray .int, 2) := by decide +kernel
theorem dX8_init_80 : decode cX8_init 80 = .ok (.putfield 36, 3) := by decide +kernel
theorem dX8_init_83 : decode cX8_init 83 = .ok (.aload_n 0, 1) := by decide +kernel
theorem dX8_init_84 : decode cX8_init 84 = .ok (.sipush 256, 3) := by decide +kernel
theorem dX8_init_87 : decode cX8_init 87 = .ok (.newarray .int, 2) := by decide +kernel
theorem dX8_init_89 : decode cX8_init 89 = .ok (.putfield 39, 3) := by decide +kernel
theorem dX8_init_92 : decode cX8_init 92 = .ok (.aload_n 0, 1) := by decide +kernel
theorem dX8_init_93 : decode cX8_init 93 = .ok (.sipush 200, 3) := by decide +kernel
theorem dX8_init_96 : decode cX8_init 96 = .ok (.newarray .int, 2) := by decide +kernel
theorem dX8_init_98 : decode cX8_init 98 = .ok (.putfield 42, 3) := by decide +kernel
theorem dX8_init_101 : decode cX8_init 101 = .ok (.aload_n 0, 1) := by decide +kernel
theorem dX8_init_102 : decode cX8_init 102 = .ok (.iconst (-1), 1) := by decide +kernel
theorem dX8_init_103 : decode cX8_init 103 = .ok (.putfield 45, 3) := by decide +kernel
theorem dX8_init_106 : decode cX8_init 106 = .ok (.aload_n 0, 1) := by decide +kernel
theorem dX8_init_107 : decode cX8_init 107 = .ok (.iconst (-1), 1) := by decide +kernel
theorem dX8_init_108 : decode cX8_init 108 = .ok (.putfield 49, 3) := by decide +kernel
theorem dX8_init_111 : decode cX8_init 111 = .ok (.aload_n 0, 1) := by decide +kernel
theorem dX8_init_112 : decode cX8_init 112 = .ok (.bipush 8, 2) := by decide +kernel
theorem dX8_init_114 : decode cX8_init 114 = .ok (.newarray .int, 2) := by decide +kernel
theorem dX8_init_116 : decode cX8_init 116 = .ok (.putfield 52, 3) := by decide +kernel
theorem dX8_init_119 : decode cX8_init 119 = .ok (.aload_n 0, 1) := by decide +kernel
theorem dX8_init_120 : decode cX8_init 120 = .ok (.bipush 8, 2) := by decide +kernel
theorem dX8_init_122 : decode cX8_init 122 = .ok (.newarray .int, 2) := by decide +kernel
theorem dX8_init_124 : decode cX8_init 124 = .ok (.putfield 55, 3) := by decide +kernel
theorem dX8_init_127 : decode cX8_init 127 = .ok (.aload_n 0, 1) := by decide +kernel
theorem dX8_init_128 : decode cX8_init 128 = .ok (.bipush 24, 2) := by decide +kernel
theorem dX8_init_130 : decode cX8_init 130 = .ok (.newarray .int, 2) := by decide +kernel
theorem dX8_init_132 : decode cX8_init 132 = .ok (.putfield 58, 3) := by decide +kernel
theorem dX8_init_135 : decode cX8_init 135 = .ok (.aload_n 0, 1) := by decide +kernel
theorem dX8_init_136 : decode cX8_init 136 = .ok (.bipush 8, 2) := by decide +kernel
theorem dX8_init_138 : decode cX8_init 138 = .ok (.newarray .boolean, 2) := by decide +kernel
theorem dX8_init_140 : decode cX8_init 140 = .ok (.putfield 61, 3) := by decide +kernel
theorem dX8_init_143 : decode cX8_init 143 = .ok (.aload_n 0, 1) := by decide +kernel
theorem dX8_init_144 : decode cX8_init 144 = .ok (.sipush 256, 3) := by decide +kernel
theorem dX8_init_147 : decode cX8_init 147 = .ok (.newarray .boolean, 2) := by decide +kernel
theorem dX8_init_149 : decode cX8_init 149 = .ok (.putfield 64, 3) := by decide +kernel
theorem dX8_init_152 : decode cX8_init 152 = .ok (.aload_n 0, 1) := by decide +kernel
theorem dX8_init_153 : decode cX8_init 153 = .ok (.sipush 289, 3) := by decide +kernel
theorem dX8_init_156 : decode cX8_init 156 = .ok (.newarray .boolean, 2) := by decide +kernel
theorem dX8_init_158 : decode cX8_init 158 = .ok (.putfield 67, 3) := by decide +kernel
theorem dX8_init_161 : decode cX8_init 161 = .ok (.aload_n 0, 1) := by decide +kernel
theorem dX8_init_162 : decode cX8_init 162 = .ok (.getfield 7, 3) := by decide +kernel
theorem dX8_init_165 : decode cX8_init 165 = .ok (.iconst 0, 1) := by decide +kernel
theorem dX8_init_166 : decode cX8_init 166 = .ok (.iload_n 1, 1) := by decide +kernel
theorem dX8_init_167 : decode cX8_init 167 = .ok (.iconst 1, 1) := by decide +kernel
theorem dX8_init_168 : decode cX8_init 168 = .ok (.if_icmp .ge 7, 3) := by decide +kernel
theorem dX8_init_171 : decode cX8_init 171 = .ok (.iconst 1, 1) := by decide +kernel
theorem dX8_init_172 : decode cX8_init 172 = .ok (.goto 15, 3) := by decide +kernel
theorem dX8_init_175 : decode cX8_init 175 = .ok (.iload_n 1, 1) := by decide +kernel
theorem dX8_init_176 : decode cX8_init 176 = .ok (.bipush 8, 2) := by decide +kernel
theorem dX8_init_178 : decode cX8_init 178 = .ok (.if_icmp .le 8, 3) := by decide +kernel
theorem dX8_init_181 : decode cX8_init 181 = .ok (.bipush 8, 2) := by decide +kernel
theorem dX8_init_183 : decode cX8_init 183 = .ok (.goto 4, 3) := by decide +kernel
theorem dX8_init_186 : decode cX8_init 186 = .ok (.iload_n 1, 1) := by decide +kernel
theorem dX8_init_187 : decode cX8_init 187 = .ok (.iastore, 1) := by decide +kernel
theorem dX8_init_188 : decode cX8_init 188 = .ok (.aload_n 0, 1) := by decide +kernel
theorem dX8_init_189 : decode cX8_init 189 = .ok (.getfield 13, 3) := by decide +kernel
theorem dX8_init_192 : decode cX8_init 192 = .ok (.iconst 0, 1) := by decide +kernel
theorem dX8_init_193 : decode cX8_init 193 = .ok (.iload_n 2, 1) := by decide +kernel
theorem dX8_init_194 : decode cX8_init 194 = .ok (.iconst 1, 1) := by decide +kernel
theorem dX8_init_195 : decode cX8_init 195 = .ok (.if_icmp .ge 7, 3) := by decide +kernel
theorem dX8_init_198 : decode cX8_init 198 = .ok (.iconst 1, 1) := by decide +kernel
theorem dX8_init_199 : decode cX8_init 199 = .ok (.goto 15, 3) := by decide +kernel
theorem dX8_init_202 : decode cX8_init 202 = .ok (.iload_n 2, 1) := by decide +kernel
theorem dX8_init_203 : decode cX8_init 203 = .ok (.bipush 8, 2) := by decide +kernel
theorem dX8_init_205 : decode cX8_init 205 = .ok (.if_icmp .le 8, 3) := by decide +kernel
theorem dX8_init_208 : decode cX8_init 208 = .ok (.bipush 8, 2) := by decide +kernel
theorem dX8_init_210 : decode cX8_init 210 = .ok (.goto 4, 3) := by decide +kernel
theorem dX8_init_213 : decode cX8_init 213 = .ok (.iload_n 2, 1) := by decide +kernel
theorem dX8_init_214 : decode cX8_init 214 = .ok (.iastore, 1) := by decide +kernel
theorem dX8_init_215 : decode cX8_init 215 = .ok (.return_, 1) := by decide +kernel
theorem dX8_isIn_0 : decode cX8_isIn 0 = .ok (.iload_n 0, 1) := by decide +kernel
theorem dX8_isIn_1 : decode cX8_isIn 1 = .ok (.iload_n 1, 1) := by decide +kernel
theorem dX8_isIn_2 : decode cX8_isIn 2 = .ok (.if_icmp .lt 12, 3) := by decide +kernel
theorem dX8_isIn_5 : decode cX8_isIn 5 = .ok (.iload_n 0, 1) := by decide +kernel
theorem dX8_isIn_6 : decode cX8_isIn 6 = .ok (.iload_n 2, 1) := by decide +kernel
theorem dX8_isIn_7 : decode cX8_isIn 7 = .ok (.if_icmp .gt 7, 3) := by decide +kernel
theorem dX8_isIn_10 : decode cX8_isIn 10 = .ok (.iconst 1, 1) := by decide +kernel
theorem dX8_isIn_11 : decode cX8_isIn 11 = .ok (.goto 4, 3) := by decide +kernel
theorem dX8_isIn_14 : decode cX8_isIn 14 = .ok (.iconst 0, 1) := by decide +kernel
theorem dX8_isIn_15 : decode cX8_isIn 15 = .ok (.ireturn, 1) := by decide +kernel
theorem dX8_cell_0 : decode cX8_cell 0 = .ok (.sipush 289, 3) := by decide +kernel
theorem dX8_cell_3 : decode cX8_cell 3 = .ok (.iload_n 0, 1) := by decide +kernel
theorem dX8_cell_4 : decode cX8_cell 4 = .ok (.imul, 1) := by decide +kernel
theorem dX8_cell_5 : decode cX8_cell 5 = .ok (.bipush 17, 2) := by decide +kernel
theorem dX8_cell_7 : decode cX8_cell 7 = .ok (.iload_n 2, 1) := by decide +kernel
theorem dX8_cell_8 : decode cX8_cell 8 = .ok (.imul, 1) := by decide +kernel
theorem dX8_cell_9 : decode cX8_cell 9 = .ok (.iadd, 1) := by decide +kernel
theorem dX8_cell_10 : decode cX8_cell 10 = .ok (.iload_n 1, 1) := by decide +kernel
theorem dX8_cell_11 : decode cX8_cell 11 = .ok (.iadd, 1) := by decide +kernel
theorem dX8_cell_12 : decode cX8_cell 12 = .ok (.ireturn, 1) := by decide +kernel
theorem dX8_isInner_0 : decode cX8_isInner 0 = .ok (.iload_n 2, 1) := by decide +kernel
theorem dX8_isInner_1 : decode cX8_isInner 1 = .ok (.iconst 1, 1) := by decide +kernel
theorem dX8_isInner_2 : decode cX8_isInner 2 = .ok (.iconst 2, 1) := by decide +kernel
theorem dX8_isInner_3 : decode cX8_isInner 3 = .ok (.aload_n 0, 1) := by decide +kernel
theorem dX8_isInner_4 : decode cX8_isInner 4 = .ok (.getfield 7, 3) := by decide +kernel
theorem dX8_isInner_7 : decode cX8_isInner 7 = .ok (.iload_n 1, 1) := by decide +kernel
theorem dX8_isInner_8 : decode cX8_isInner 8 = .ok (.iaload, 1) := by decide +kernel
theorem dX8_isInner_9 : decode cX8_isInner 9 = .ok (.imul, 1) := by decide +kernel
theorem dX8_isInner_10 : decode cX8_isInner 10 = .ok (.iconst 1, 1) := by decide +kernel
theorem dX8_isInner_11 : decode cX8_isInner 11 = .ok (.isub, 1) := by decide +kernel
theorem dX8_isInner_12 : decode cX8_isInner 12 = .ok (.invokestatic 70, 3) := by decide +kernel
theorem dX8_isInner_15 : decode cX8_isInner 15 = .ok (.ifCond .eq 34, 3) := by decide +kernel
theorem dX8_isInner_18 : decode cX8_isInner 18 = .ok (.iload_n 3, 1) := by decide +kernel
theorem dX8_isInner_19 : decode cX8_isInner 19 = .ok (.iconst 1, 1) := by decide +kernel
theorem dX8_isInner_20 : decode cX8_isInner 20 = .ok (.iconst 2, 1) := by decide +kernel
theorem dX8_isInner_21 : decode cX8_isInner 21 = .ok (.aload_n 0, 1) := by decide +kernel
theorem dX8_isInner_22 : decode cX8_isInner 22 = .ok (.getfield 13, 3) := by decide +kernel
theorem dX8_isInner_25 : decode cX8_isInner 25 = .ok (.iload_n 1, 1) := by decide +kernel
theorem dX8_isInner_26 : decode cX8_isInner 26 = .ok (.iaload, 1) := by decide +kernel
theorem dX8_isInner_27 : decode cX8_isInner 27 = .ok (.imul, 1) := by decide +kernel
theorem dX8_isInner_28 : decode cX8_isInner 28 = .ok (.iconst 1, 1) := by decide +kernel
theorem dX8_isInner_29 : decode cX8_isInner 29 = .ok (.isub, 1) := by decide +kernel
theorem dX8_isInner_30 : decode cX8_isInner 30 = .ok (.invokestatic 70, 3) := by decide +kernel
theorem dX8_isInner_33 : decode cX8_isInner 33 = .ok (.ifCond .eq 16, 3) := by decide +kernel
theorem dX8_isInner_36 : decode cX8_isInner 36 = .ok (.iload_n 2, 1) := by decide +kernel
theorem dX8_isInner_37 : decode cX8_isInner 37 = .ok (.iload_n 3, 1) := by decide +kernel
theorem dX8_isInner_38 : decode cX8_isInner 38 = .ok (.iadd, 1) := by decide +kernel
theorem dX8_isInner_39 : decode cX8_isInner 39 = .ok (.iconst 2, 1) := by decide +kernel
theorem dX8_isInner_40 : decode cX8_isInner 40 = .ok (.irem, 1) := by decide +kernel
theorem dX8_isInner_41 : decode cX8_isInner 41 = .ok (.iconst 1, 1) := by decide +kernel
theorem dX8_isInner_42 : decode cX8_isInner 42 = .ok (.if_icmp .ne 7, 3) := by decide +kernel
theorem dX8_isInner_45 : decode cX8_isInner 45 = .ok (.iconst 1, 1) := by decide +kernel
theorem dX8_isInner_46 : decode cX8_isInner 46 = .ok (.goto 4, 3) := by decide +kernel
theorem dX8_isInner_49 : decode cX8_isInner 49 = .ok (.iconst 0, 1) := by decide +kernel
theorem dX8_isInner_50 : decode cX8_isInner 50 = .ok (.ireturn, 1) := by decide +kernel
theorem dX8_set_0 : decode cX8_set 0 = .ok (.aload_n 0, 1) := by decide +kernel
theorem dX8_set_1 : decode cX8_set 1 = .ok (.iconst 0, 1) := by decide +kernel
theorem dX8_set_2 : decode cX8_set 2 = .ok (.iload_n 1, 1) := by decide +kernel
theorem dX8_set_3 : decode cX8_set 3 = .ok (.iload_n 2, 1) := by decide +kernel
theorem dX8_set_4 : decode cX8_set 4 = .ok (.invokevirtual 74, 3) := by decide +kernel
theorem dX8_set_7 : decode cX8_set 7 = .ok (.ifCond .eq 12, 3) := by decide +kernel
theorem dX8_set_10 : decode cX8_set 10 = .ok (.iload_n 3, 1) := by decide +kernel
theorem dX8_set_11 : decode cX8_set 11 = .ok (.iconst 0, 1) := by decide +kernel
theorem dX8_set_12 : decode cX8_set 12 = .ok (.iconst 2, 1) := by decide +kernel
theorem dX8_set_13 : decode cX8_set 13 = .ok (.invokestatic 70, 3) := by decide +kernel
theorem dX8_set_16 : decode cX8_set 16 = .ok (.ifCond .ne 5, 3) := by decide +kernel
theorem dX8_set_19 : decode cX8_set 19 = .ok (.iconst 0, 1) := by decide +kernel
theorem dX8_set_20 : decode cX8_set 20 = .ok (.ireturn, 1) := by decide +kernel
theorem dX8_set_21 : decode cX8_set 21 = .ok (.aload_n 0, 1) := by decide +kernel
theorem dX8_set_22 : decode cX8_set 22 = .ok (.getfield 16, 3) := by decide +kernel
theorem dX8_set_25 : decode cX8_set 25 = .ok (.iconst 0, 1) := by decide +kernel
theorem dX8_set_26 : decode cX8_set 26 = .ok (.iload_n 1, 1) := by decide +kernel
theorem dX8_set_27 : decode cX8_set 27 = .ok (.iload_n 2, 1) := by decide +kernel
theorem dX8_set_28 : decode cX8_set 28 = .ok (.invokestatic 77, 3) := by decide +kernel
theorem dX8_set_31 : decode cX8_set 31 = .ok (.iload_n 3, 1) := by decide +kernel
theorem dX8_set_32 : decode cX8_set 32 = .ok (.i2b, 1) := by decide +kernel
theorem dX8_set_33 : decode cX8_set 33 = .ok (.bastore, 1) := by decide +kernel
theorem dX8_set_34 : decode cX8_set 34 = .ok (.iconst 1, 1) := by decide +kernel
theorem dX8_set_35 : decode cX8_set 35 = .ok (.ireturn, 1) := by decide +kernel
theorem dX8_mirror_0 : decode cX8_mirror 0 = .ok (.aload_n 0, 1) := by decide +kernel
theorem dX8_mirror_1 : decode cX8_mirror 1 = .ok (.iconst 0, 1) := by decide +kernel
theorem dX8_mirror_2 : decode cX8_mirror 2 = .ok (.iload_n 1, 1) := by decide +kernel
theorem dX8_mirror_3 : decode cX8_mirror 3 = .ok (.iload_n 2, 1) := by decide +kernel
theorem dX8_mirror_4 : decode cX8_mirror 4 = .ok (.invokevirtual 74, 3) := by decide +kernel
theorem dX8_mirror_7 : decode cX8_mirror 7 = .ok (.ifCond .eq 17, 3) := by decide +kernel
theorem dX8_mirror_10 : decode cX8_mirror 10 = .ok (.aload_n 0, 1) := by decide +kernel
theorem dX8_mirror_11 : decode cX8_mirror 11 = .ok (.getfield 16, 3) := by decide +kernel
theorem dX8_mirror_14 : decode cX8_mirror 14 = .ok (.iconst 0, 1) := by decide +kernel
theorem dX8_mirror_15 : decode cX8_mirror 15 = .ok (.iload_n 1, 1) := by decide +kernel
theorem dX8_mirror_16 : decode cX8_mirror 16 = .ok (.iload_n 2, 1) := by decide +kernel
theorem dX8_mirror_17 : decode cX8_mirror 17 = .ok (.invokestatic 77, 3) := by decide +kernel
theorem dX8_mirror_20 : decode cX8_mirror 20 = .ok (.baload, 1) := by decide +kernel
theorem dX8_mirror_21 : decode cX8_mirror 21 = .ok (.goto 4, 3) := by decide +kernel
theorem dX8_mirror_24 : decode cX8_mirror 24 = .ok (.iconst (-1), 1) := by decide +kernel
theorem dX8_mirror_25 : decode cX8_mirror 25 = .ok (.ireturn, 1) := by decide +kernel
theorem dX8_pin_0 : decode cX8_pin 0 = .ok (.aload_n 0, 1) := by decide +kernel
theorem dX8_pin_1 : decode cX8_pin 1 = .ok (.iconst 0, 1) := by decide +kernel
theorem dX8_pin_2 : decode cX8_pin 2 = .ok (.iload_n 1, 1) := by decide +kernel
theorem dX8_pin_3 : decode cX8_pin 3 = .ok (.iload_n 2, 1) := by decide +kernel
theorem dX8_pin_4 : decode cX8_pin 4 = .ok (.invokevirtual 74, 3) := by decide +kernel
theorem dX8_pin_7 : decode cX8_pin 7 = .ok (.ifCond .ne 5, 3) := by decide +kernel
theorem dX8_pin_10 : decode cX8_pin 10 = .ok (.iconst 0, 1) := by decide +kernel
theorem dX8_pin_11 : decode cX8_pin 11 = .ok (.ireturn, 1) := by decide +kernel
theorem dX8_pin_12 : decode cX8_pin 12 = .ok (.aload_n 0, 1) := by decide +kernel
theorem dX8_pin_13 : decode cX8_pin 13 = .ok (.getfield 20, 3) := by decide +kernel
theorem dX8_pin_16 : decode cX8_pin 16 = .ok (.iconst 0, 1) := by decide +kernel
theorem dX8_pin_17 : decode cX8_pin 17 = .ok (.iload_n 1, 1) := by decide +kernel
theorem dX8_pin_18 : decode cX8_pin 18 = .ok (.iload_n 2, 1) := by decide +kernel
theorem dX8_pin_19 : decode cX8_pin 19 = .ok (.invokestatic 77, 3) := by decide +kernel
theorem dX8_pin_22 : decode cX8_pin 22 = .ok (.iload_n 3, 1) := by decide +kernel
theorem dX8_pin_23 : decode cX8_pin 23 = .ok (.bastore, 1) := by decide +kernel
theorem dX8_pin_24 : decode cX8_pin 24 = .ok (.iconst 1, 1) := by decide +kernel
theorem dX8_pin_25 : decode cX8_pin 25 = .ok (.ireturn, 1) := by decide +kernel
theorem dX8_squares_0 : decode cX8_squares 0 = .ok (.iconst 4, 1) := by decide +kernel
theorem dX8_squares_1 : decode cX8_squares 1 = .ok (.aload_n 0, 1) := by decide +kernel
theorem dX8_squares_2 : decode cX8_squares 2 = .ok (.getfield 7, 3) := by decide +kernel
theorem dX8_squares_5 : decode cX8_squares 5 = .ok (.iconst 0, 1) := by decide +kernel
theorem dX8_squares_6 : decode cX8_squares 6 = .ok (.iaload, 1) := by decide +kernel
theorem dX8_squares_7 : decode cX8_squares 7 = .ok (.imul, 1) := by decide +kernel
theorem dX8_squares_8 : decode cX8_squares 8 = .ok (.aload_n 0, 1) := by decide +kernel
theorem dX8_squares_9 : decode cX8_squares 9 = .ok (.getfield 13, 3) := by decide +kernel
theorem dX8_squares_12 : decode cX8_squares 12 = .ok (.iconst 0, 1) := by decide +kernel
theorem dX8_squares_13 : decode cX8_squares 13 = .ok (.iaload, 1) := by decide +kernel
theorem dX8_squares_14 : decode cX8_squares 14 = .ok (.imul, 1) := by decide +kernel
theorem dX8_squares_15 : decode cX8_squares 15 = .ok (.ireturn, 1) := by decide +kernel
theorem dX8_walkAll_0 : decode cX8_walkAll 0 = .ok (.aload_n 0, 1) := by decide +kernel
theorem dX8_walkAll_1 : decode cX8_walkAll 1 = .ok (.invokevirtual 81, 3) := by decide +kernel
theorem dX8_walkAll_4 : decode cX8_walkAll 4 = .ok (.istore_n 1, 1) := by decide +kernel
theorem dX8_walkAll_5 : decode cX8_walkAll 5 = .ok (.iconst 0, 1) := by decide +kernel
theorem dX8_walkAll_6 : decode cX8_walkAll 6 = .ok (.istore_n 2, 1) := by decide +kernel
theorem dX8_walkAll_7 : decode cX8_walkAll 7 = .ok (.iload_n 2, 1) := by decide +kernel
theorem dX8_walkAll_8 : decode cX8_walkAll 8 = .ok (.iload_n 1, 1) := by decide +kernel
theorem dX8_walkAll_9 : decode cX8_walkAll 9 = .ok (.if_icmp .ge 16, 3) := by decide +kernel
theorem dX8_walkAll_12 : decode cX8_walkAll 12 = .ok (.aload_n 0, 1) := by decide +kernel
theorem dX8_walkAll_13 : decode cX8_walkAll 13 = .ok (.getfield 24, 3) := by decide +kernel
theorem dX8_walkAll_16 : decode cX8_walkAll 16 = .ok (.iload_n 2, 1) := by decide +kernel
theorem dX8_walkAll_17 : decode cX8_walkAll 17 = .ok (.iconst (-1), 1) := by decide +kernel
theorem dX8_walkAll_18 : decode cX8_walkAll 18 = .ok (.iastore, 1) := by decide +kernel
theorem dX8_walkAll_19 : decode cX8_walkAll 19 = .ok (.iinc 2 1, 3) := by decide +kernel
theorem dX8_walkAll_22 : decode cX8_walkAll 22 = .ok (.goto (-15), 3) := by decide +kernel
theorem dX8_walkAll_25 : decode cX8_walkAll 25 = .ok (.aload_n 0, 1) := by decide +kernel
theorem dX8_walkAll_26 : decode cX8_walkAll 26 = .ok (.iconst 0, 1) := by decide +kernel
theorem dX8_walkAll_27 : decode cX8_walkAll 27 = .ok (.putfield 85, 3) := by decide +kernel
theorem dX8_walkAll_30 : decode cX8_walkAll 30 = .ok (.iconst 0, 1) := by decide +kernel
theorem dX8_walkAll_31 : decode cX8_walkAll 31 = .ok (.istore_n 2, 1) := by decide +kernel
theorem dX8_walkAll_32 : decode cX8_walkAll 32 = .ok (.iconst 0, 1) := by decide +kernel
theorem dX8_walkAll_33 : decode cX8_walkAll 33 = .ok (.istore_n 3, 1) := by decide +kernel
theorem dX8_walkAll_34 : decode cX8_walkAll 34 = .ok (.iload_n 3, 1) := by decide +kernel
theorem dX8_walkAll_35 : decode cX8_walkAll 35 = .ok (.iload_n 1, 1) := by decide +kernel
theorem dX8_walkAll_36 : decode cX8_walkAll 36 = .ok (.if_icmp .ge 48, 3) := by decide +kernel
theorem dX8_walkAll_39 : decode cX8_walkAll 39 = .ok (.aload_n 0, 1) := by decide +kernel
theorem dX8_walkAll_40 : decode cX8_walkAll 40 = .ok (.getfield 24, 3) := by decide +kernel
theorem dX8_walkAll_43 : decode cX8_walkAll 43 = .ok (.iload_n 3, 1) := by decide +kernel
theorem dX8_walkAll_44 : decode cX8_walkAll 44 = .ok (.iaload, 1) := by decide +kernel
theorem dX8_walkAll_45 : decode cX8_walkAll 45 = .ok (.ifCond .lt 6, 3) := by decide +kernel
theorem dX8_walkAll_48 : decode cX8_walkAll 48 = .ok (.goto 30, 3) := by decide +kernel
theorem dX8_walkAll_51 : decode cX8_walkAll 51 = .ok (.aload_n 0, 1) := by decide +kernel
theorem dX8_walkAll_52 : decode cX8_walkAll 52 = .ok (.getfield 33, 3) := by decide +kernel
theorem dX8_walkAll_55 : decode cX8_walkAll 55 = .ok (.aload_n 0, 1) := by decide +kernel
theorem dX8_walkAll_56 : decode cX8_walkAll 56 = .ok (.getfield 85, 3) := by decide +kernel
theorem dX8_walkAll_59 : decode cX8_walkAll 59 = .ok (.iload_n 2, 1) := by decide +kernel
theorem dX8_walkAll_60 : decode cX8_walkAll 60 = .ok (.iastore, 1) := by decide +kernel
theorem dX8_walkAll_61 : decode cX8_walkAll 61 = .ok (.aload_n 0, 1) := by decide +kernel
theorem dX8_walkAll_62 : decode cX8_walkAll 62 = .ok (.iload_n 3, 1) := by decide +kernel
theorem dX8_walkAll_63 : decode cX8_walkAll 63 = .ok (.iload_n 2, 1) := by decide +kernel
theorem dX8_walkAll_64 : decode cX8_walkAll 64 = .ok (.invokevirtual 88, 3) := by decide +kernel
theorem dX8_walkAll_67 : decode cX8_walkAll 67 = .ok (.istore_n 2, 1) := by decide +kernel
theorem dX8_walkAll_68 : decode cX8_walkAll 68 = .ok (.aload_n 0, 1) := by decide +kernel
theorem dX8_walkAll_69 : decode cX8_walkAll 69 = .ok (.dup, 1) := by decide +kernel
theorem dX8_walkAll_70 : decode cX8_walkAll 70 = .ok (.getfield 85, 3) := by decide +kernel
theorem dX8_walkAll_73 : decode cX8_walkAll 73 = .ok (.iconst 1, 1) := by decide +kernel
theorem dX8_walkAll_74 : decode cX8_walkAll 74 = .ok (.iadd, 1) := by decide +kernel
theorem dX8_walkAll_75 : decode cX8_walkAll 75 = .ok (.putfield 85, 3) := by decide +kernel
theorem dX8_walkAll_78 : decode cX8_walkAll 78 = .ok (.iinc 3 1, 3) := by decide +kernel
theorem dX8_walkAll_81 : decode cX8_walkAll 81 = .ok (.goto (-47), 3) := by decide +kernel
theorem dX8_walkAll_84 : decode cX8_walkAll 84 = .ok (.aload_n 0, 1) := by decide +kernel
theorem dX8_walkAll_85 : decode cX8_walkAll 85 = .ok (.getfield 33, 3) := by decide +kernel
theorem dX8_walkAll_88 : decode cX8_walkAll 88 = .ok (.aload_n 0, 1) := by decide +kernel
theorem dX8_walkAll_89 : decode cX8_walkAll 89 = .ok (.getfield 85, 3) := by decide +kernel
theorem dX8_walkAll_92 : decode cX8_walkAll 92 = .ok (.iload_n 2, 1) := by decide +kernel
theorem dX8_walkAll_93 : decode cX8_walkAll 93 = .ok (.iastore, 1) := by decide +kernel
theorem dX8_walkAll_94 : decode cX8_walkAll 94 = .ok (.return_, 1) := by decide +kernel
theorem dX8_walkOne_0 : decode cX8_walkOne 0 = .ok (.iconst 2, 1) := by decide +kernel
theorem dX8_walkOne_1 : decode cX8_walkOne 1 = .ok (.aload_n 0, 1) := by decide +kernel
theorem dX8_walkOne_2 : decode cX8_walkOne 2 = .ok (.getfield 7, 3) := by decide +kernel
theorem dX8_walkOne_5 : decode cX8_walkOne 5 = .ok (.iconst 0, 1) := by decide +kernel
theorem dX8_walkOne_6 : decode cX8_walkOne 6 = .ok (.iaload, 1) := by decide +kernel
theorem dX8_walkOne_7 : decode cX8_walkOne 7 = .ok (.imul, 1) := by decide +kernel
theorem dX8_walkOne_8 : decode cX8_walkOne 8 = .ok (.istore_n 3, 1) := by decide +kernel
theorem dX8_walkOne_9 : decode cX8_walkOne 9 = .ok (.iload_n 1, 1) := by decide +kernel
theorem dX8_walkOne_10 : decode cX8_walkOne 10 = .ok (.iload_n 3, 1) := by decide +kernel
theorem dX8_walkOne_11 : decode cX8_walkOne 11 = .ok (.irem, 1) := by decide +kernel
theorem dX8_walkOne_12 : decode cX8_walkOne 12 = .ok (.istore 4, 2) := by decide +kernel
theorem dX8_walkOne_14 : decode cX8_walkOne 14 = .ok (.iload_n 1, 1) := by decide +kernel
theorem dX8_walkOne_15 : decode cX8_walkOne 15 = .ok (.iload_n 3, 1) := by decide +kernel
theorem dX8_walkOne_16 : decode cX8_walkOne 16 = .ok (.idiv, 1) := by decide +kernel
theorem dX8_walkOne_17 : decode cX8_walkOne 17 = .ok (.istore 5, 2) := by decide +kernel
theorem dX8_walkOne_19 : decode cX8_walkOne 19 = .ok (.iconst 1, 1) := by decide +kernel
theorem dX8_walkOne_20 : decode cX8_walkOne 20 = .ok (.istore 6, 2) := by decide +kernel
theorem dX8_walkOne_22 : decode cX8_walkOne 22 = .ok (.iload 4, 2) := by decide +kernel
theorem dX8_walkOne_24 : decode cX8_walkOne 24 = .ok (.iload 5, 2) := by decide +kernel
theorem dX8_walkOne_26 : decode cX8_walkOne 26 = .ok (.iadd, 1) := by decide +kernel
theorem dX8_walkOne_27 : decode cX8_walkOne 27 = .ok (.iconst 2, 1) := by decide +kernel
theorem dX8_walkOne_28 : decode cX8_walkOne 28 = .ok (.irem, 1) := by decide +kernel
theorem dX8_walkOne_29 : decode cX8_walkOne 29 = .ok (.iconst 1, 1) := by decide +kernel
theorem dX8_walkOne_30 : decode cX8_walkOne 30 = .ok (.if_icmp .ne 7, 3) := by decide +kernel
theorem dX8_walkOne_33 : decode cX8_walkOne 33 = .ok (.iconst 1, 1) := by decide +kernel
theorem dX8_walkOne_34 : decode cX8_walkOne 34 = .ok (.goto 4, 3) := by decide +kernel
theorem dX8_walkOne_37 : decode cX8_walkOne 37 = .ok (.iconst (-1), 1) := by decide +kernel
theorem dX8_walkOne_38 : decode cX8_walkOne 38 = .ok (.istore 7, 2) := by decide +kernel
theorem dX8_walkOne_40 : decode cX8_walkOne 40 = .ok (.iload 4, 2) := by decide +kernel
theorem dX8_walkOne_42 : decode cX8_walkOne 42 = .ok (.istore 8, 2) := by decide +kernel
theorem dX8_walkOne_44 : decode cX8_walkOne 44 = .ok (.iload 7, 2) := by decide +kernel
theorem dX8_walkOne_46 : decode cX8_walkOne 46 = .ok (.iconst 1, 1) := by decide +kernel
theorem dX8_walkOne_47 : decode cX8_walkOne 47 = .ok (.if_icmp .ne 8, 3) := by decide +kernel
theorem dX8_walkOne_50 : decode cX8_walkOne 50 = .ok (.iload 5, 2) := by decide +kernel
theorem dX8_walkOne_52 : decode cX8_walkOne 52 = .ok (.goto 7, 3) := by decide +kernel
theorem dX8_walkOne_55 : decode cX8_walkOne 55 = .ok (.iload 5, 2) := by decide +kernel
theorem dX8_walkOne_57 : decode cX8_walkOne 57 = .ok (.iconst 1, 1) := by decide +kernel
theorem dX8_walkOne_58 : decode cX8_walkOne 58 = .ok (.iadd, 1) := by decide +kernel
theorem dX8_walkOne_59 : decode cX8_walkOne 59 = .ok (.istore 9, 2) := by decide +kernel
theorem dX8_walkOne_61 : decode cX8_walkOne 61 = .ok (.iload_n 2, 1) := by decide +kernel
theorem dX8_walkOne_62 : decode cX8_walkOne 62 = .ok (.istore 10, 2) := by decide +kernel
theorem dX8_walkOne_64 : decode cX8_walkOne 64 = .ok (.iload_n 1, 1) := by decide +kernel
theorem dX8_walkOne_65 : decode cX8_walkOne 65 = .ok (.istore 11, 2) := by decide +kernel
theorem dX8_walkOne_67 : decode cX8_walkOne 67 = .ok (.iconst 1, 1) := by decide +kernel
theorem dX8_walkOne_68 : decode cX8_walkOne 68 = .ok (.istore 12, 2) := by decide +kernel
theorem dX8_walkOne_70 : decode cX8_walkOne 70 = .ok (.iload 12, 2) := by decide +kernel
theorem dX8_walkOne_72 : decode cX8_walkOne 72 = .ok (.ifCond .ne 9, 3) := by decide +kernel
theorem dX8_walkOne_75 : decode cX8_walkOne 75 = .ok (.iload 11, 2) := by decide +kernel
theorem dX8_walkOne_77 : decode cX8_walkOne 77 = .ok (.iload_n 1, 1) := by decide +kernel
theorem dX8_walkOne_78 : decode cX8_walkOne 78 = .ok (.if_icmp .eq 180, 3) := by decide +kernel
theorem dX8_walkOne_81 : decode cX8_walkOne 81 = .ok (.iconst 0, 1) := by decide +kernel
theorem dX8_walkOne_82 : decode cX8_walkOne 82 = .ok (.istore 12, 2) := by decide +kernel
theorem dX8_walkOne_84 : decode cX8_walkOne 84 = .ok (.aload_n 0, 1) := by decide +kernel
theorem dX8_walkOne_85 : decode cX8_walkOne 85 = .ok (.getfield 24, 3) := by decide +kernel
theorem dX8_walkOne_88 : decode cX8_walkOne 88 = .ok (.iload 11, 2) := by decide +kernel
theorem dX8_walkOne_90 : decode cX8_walkOne 90 = .ok (.aload_n 0, 1) := by decide +kernel
theorem dX8_walkOne_91 : decode cX8_walkOne 91 = .ok (.getfield 85, 3) := by decide +kernel
theorem dX8_walkOne_94 : decode cX8_walkOne 94 = .ok (.iastore, 1) := by decide +kernel
theorem dX8_walkOne_95 : decode cX8_walkOne 95 = .ok (.aload_n 0, 1) := by decide +kernel
theorem dX8_walkOne_96 : decode cX8_walkOne 96 = .ok (.getfield 27, 3) := by decide +kernel
theorem dX8_walkOne_99 : decode cX8_walkOne 99 = .ok (.iload 11, 2) := by decide +kernel
theorem dX8_walkOne_101 : decode cX8_walkOne 101 = .ok (.iload 10, 2) := by decide +kernel
theorem dX8_walkOne_103 : decode cX8_walkOne 103 = .ok (.iload_n 2, 1) := by decide +kernel
theorem dX8_walkOne_104 : decode cX8_walkOne 104 = .ok (.isub, 1) := by decide +kernel
theorem dX8_walkOne_105 : decode cX8_walkOne 105 = .ok (.iastore, 1) := by decide +kernel
theorem dX8_walkOne_106 : decode cX8_walkOne 106 = .ok (.aload_n 0, 1) := by decide +kernel
theorem dX8_walkOne_107 : decode cX8_walkOne 107 = .ok (.getfield 30, 3) := by decide +kernel
theorem dX8_walkOne_110 : decode cX8_walkOne 110 = .ok (.iload 10, 2) := by decide +kernel
theorem dX8_walkOne_112 : decode cX8_walkOne 112 = .ok (.iload 11, 2) := by decide +kernel
theorem dX8_walkOne_114 : decode cX8_walkOne 114 = .ok (.iastore, 1) := by decide +kernel
theorem dX8_walkOne_115 : decode cX8_walkOne 115 = .ok (.iinc 10 1, 3) := by decide +kernel
theorem dX8_walkOne_118 : decode cX8_walkOne 118 = .ok (.iload 8, 2) := by decide +kernel
theorem dX8_walkOne_120 : decode cX8_walkOne 120 = .ok (.iload 6, 2) := by decide +kernel
theorem dX8_walkOne_122 : decode cX8_walkOne 122 = .ok (.iadd, 1) := by decide +kernel
theorem dX8_walkOne_123 : decode cX8_walkOne 123 = .ok (.istore 8, 2) := by decide +kernel
theorem dX8_walkOne_125 : decode cX8_walkOne 125 = .ok (.iload 9, 2) := by decide +kernel
theorem dX8_walkOne_127 : decode cX8_walkOne 127 = .ok (.iload 7, 2) := by decide +kernel
theorem dX8_walkOne_129 : decode cX8_walkOne 129 = .ok (.iadd, 1) := by decide +kernel
theorem dX8_walkOne_130 : decode cX8_walkOne 130 = .ok (.istore 9, 2) := by decide +kernel
theorem dX8_walkOne_132 : decode cX8_walkOne 132 = .ok (.aload_n 0, 1) := by decide +kernel
theorem dX8_walkOne_133 : decode cX8_walkOne 133 = .ok (.getfield 16, 3) := by decide +kernel
theorem dX8_walkOne_136 : decode cX8_walkOne 136 = .ok (.iconst 0, 1) := by decide +kernel
theorem dX8_walkOne_137 : decode cX8_walkOne 137 = .ok (.iload 8, 2) := by decide +kernel
theorem dX8_walkOne_139 : decode cX8_walkOne 139 = .ok (.iload 9, 2) := by decide +kernel
theorem dX8_walkOne_141 : decode cX8_walkOne 141 = .ok (.invokestatic 77, 3) := by decide +kernel
theorem dX8_walkOne_144 : decode cX8_walkOne 144 = .ok (.baload, 1) := by decide +kernel
theorem dX8_walkOne_145 : decode cX8_walkOne 145 = .ok (.istore 13, 2) := by decide +kernel
theorem dX8_walkOne_147 : decode cX8_walkOne 147 = .ok (.iload 8, 2) := by decide +kernel
theorem dX8_walkOne_149 : decode cX8_walkOne 149 = .ok (.ifCond .eq 27, 3) := by decide +kernel
theorem dX8_walkOne_152 : decode cX8_walkOne 152 = .ok (.iload 8, 2) := by decide +kernel
theorem dX8_walkOne_154 : decode cX8_walkOne 154 = .ok (.iload_n 3, 1) := by decide +kernel
theorem dX8_walkOne_155 : decode cX8_walkOne 155 = .ok (.if_icmp .eq 21, 3) := by decide +kernel
theorem dX8_walkOne_158 : decode cX8_walkOne 158 = .ok (.iload 13, 2) := by decide +kernel
theorem dX8_walkOne_160 : decode cX8_walkOne 160 = .ok (.iconst 1, 1) := by decide +kernel
theorem dX8_walkOne_161 : decode cX8_walkOne 161 = .ok (.if_icmp .ne 20, 3) := by decide +kernel
theorem dX8_walkOne_164 : decode cX8_walkOne 164 = .ok (.aload_n 0, 1) := by decide +kernel
theorem dX8_walkOne_165 : decode cX8_walkOne 165 = .ok (.iconst 0, 1) := by decide +kernel
theorem dX8_walkOne_166 : decode cX8_walkOne 166 = .ok (.iload 8, 2) := by decide +kernel
theorem dX8_walkOne_168 : decode cX8_walkOne 168 = .ok (.iload 9, 2) := by decide +kernel
theorem dX8_walkOne_170 : decode cX8_walkOne 170 = .ok (.invokevirtual 74, 3) := by decide +kernel
theorem dX8_walkOne_173 : decode cX8_walkOne 173 = .ok (.ifCond .eq 8, 3) := by decide +kernel
theorem dX8_walkOne_176 : decode cX8_walkOne 176 = .ok (.iload 6, 2) := by decide +kernel
theorem dX8_walkOne_178 : decode cX8_walkOne 178 = .ok (.ineg, 1) := by decide +kernel
theorem dX8_walkOne_179 : decode cX8_walkOne 179 = .ok (.istore 6, 2) := by decide +kernel
theorem dX8_walkOne_181 : decode cX8_walkOne 181 = .ok (.iload 9, 2) := by decide +kernel
theorem dX8_walkOne_183 : decode cX8_walkOne 183 = .ok (.ifCond .eq 34, 3) := by decide +kernel
theorem dX8_walkOne_186 : decode cX8_walkOne 186 = .ok (.iload 9, 2) := by decide +kernel
theorem dX8_walkOne_188 : decode cX8_walkOne 188 = .ok (.iconst 2, 1) := by decide +kernel
theorem dX8_walkOne_189 : decode cX8_walkOne 189 = .ok (.aload_n 0, 1) := by decide +kernel
theorem dX8_walkOne_190 : decode cX8_walkOne 190 = .ok (.getfield 13, 3) := by decide +kernel
theorem dX8_walkOne_193 : decode cX8_walkOne 193 = .ok (.iconst 0, 1) := by decide +kernel
theorem dX8_walkOne_194 : decode cX8_walkOne 194 = .ok (.iaload, 1) := by decide +kernel
theorem dX8_walkOne_195 : decode cX8_walkOne 195 = .ok (.imul, 1) := by decide +kernel
theorem dX8_walkOne_196 : decode cX8_walkOne 196 = .ok (.if_icmp .eq 21, 3) := by decide +kernel
theorem dX8_walkOne_199 : decode cX8_walkOne 199 = .ok (.iload 13, 2) := by decide +kernel
theorem dX8_walkOne_201 : decode cX8_walkOne 201 = .ok (.iconst 2, 1) := by decide +kernel
theorem dX8_walkOne_202 : decode cX8_walkOne 202 = .ok (.if_icmp .ne 20, 3) := by decide +kernel
theorem dX8_walkOne_205 : decode cX8_walkOne 205 = .ok (.aload_n 0, 1) := by decide +kernel
theorem dX8_walkOne_206 : decode cX8_walkOne 206 = .ok (.iconst 0, 1) := by decide +kernel
theorem dX8_walkOne_207 : decode cX8_walkOne 207 = .ok (.iload 8, 2) := by decide +kernel
theorem dX8_walkOne_209 : decode cX8_walkOne 209 = .ok (.iload 9, 2) := by decide +kernel
theorem dX8_walkOne_211 : decode cX8_walkOne 211 = .ok (.invokevirtual 74, 3) := by decide +kernel
theorem dX8_walkOne_214 : decode cX8_walkOne 214 = .ok (.ifCond .eq 8, 3) := by decide +kernel
theorem dX8_walkOne_217 : decode cX8_walkOne 217 = .ok (.iload 7, 2) := by decide +kernel
theorem dX8_walkOne_219 : decode cX8_walkOne 219 = .ok (.ineg, 1) := by decide +kernel
theorem dX8_walkOne_220 : decode cX8_walkOne 220 = .ok (.istore 7, 2) := by decide +kernel
theorem dX8_walkOne_222 : decode cX8_walkOne 222 = .ok (.iload_n 3, 1) := by decide +kernel
theorem dX8_walkOne_223 : decode cX8_walkOne 223 = .ok (.iload 7, 2) := by decide +kernel
theorem dX8_walkOne_225 : decode cX8_walkOne 225 = .ok (.ifCond .le 8, 3) := by decide +kernel
theorem dX8_walkOne_228 : decode cX8_walkOne 228 = .ok (.iload 9, 2) := by decide +kernel
theorem dX8_walkOne_230 : decode cX8_walkOne 230 = .ok (.goto 7, 3) := by decide +kernel
theorem dX8_walkOne_233 : decode cX8_walkOne 233 = .ok (.iload 9, 2) := by decide +kernel
theorem dX8_walkOne_235 : decode cX8_walkOne 235 = .ok (.iconst 1, 1) := by decide +kernel
theorem dX8_walkOne_236 : decode cX8_walkOne 236 = .ok (.isub, 1) := by decide +kernel
theorem dX8_walkOne_237 : decode cX8_walkOne 237 = .ok (.imul, 1) := by decide +kernel
theorem dX8_walkOne_238 : decode cX8_walkOne 238 = .ok (.iload 6, 2) := by decide +kernel
theorem dX8_walkOne_240 : decode cX8_walkOne 240 = .ok (.ifCond .le 8, 3) := by decide +kernel
theorem dX8_walkOne_243 : decode cX8_walkOne 243 = .ok (.iload 8, 2) := by decide +kernel
theorem dX8_walkOne_245 : decode cX8_walkOne 245 = .ok (.goto 7, 3) := by decide +kernel
theorem dX8_walkOne_248 : decode cX8_walkOne 248 = .ok (.iload 8, 2) := by decide +kernel
theorem dX8_walkOne_250 : decode cX8_walkOne 250 = .ok (.iconst 1, 1) := by decide +kernel
theorem dX8_walkOne_251 : decode cX8_walkOne 251 = .ok (.isub, 1) := by decide +kernel
theorem dX8_walkOne_252 : decode cX8_walkOne 252 = .ok (.iadd, 1) := by decide +kernel
theorem dX8_walkOne_253 : decode cX8_walkOne 253 = .ok (.istore 11, 2) := by decide +kernel
theorem dX8_walkOne_255 : decode cX8_walkOne 255 = .ok (.goto (-185), 3) := by decide +kernel
theorem dX8_walkOne_258 : decode cX8_walkOne 258 = .ok (.iload 10, 2) := by decide +kernel
theorem dX8_walkOne_260 : decode cX8_walkOne 260 = .ok (.ireturn, 1) := by decide +kernel
theorem dX8_lines_0 : decode cX8_lines 0 = .ok (.aload_n 0, 1) := by decide +kernel
theorem dX8_lines_1 : decode cX8_lines 1 = .ok (.invokevirtual 92, 3) := by decide +kernel
theorem dX8_lines_4 : decode cX8_lines 4 = .ok (.aload_n 0, 1) := by decide +kernel
theorem dX8_lines_5 : decode cX8_lines 5 = .ok (.getfield 85, 3) := by decide +kernel
theorem dX8_lines_8 : decode cX8_lines 8 = .ok (.ireturn, 1) := by decide +kernel
theorem dX8_isSquare_0 : decode cX8_isSquare 0 = .ok (.iload_n 1, 1) := by decide +kernel
theorem dX8_isSquare_1 : decode cX8_isSquare 1 = .ok (.iconst 0, 1) := by decide +kernel
theorem dX8_isSquare_2 : decode cX8_isSquare 2 = .ok (.aload_n 0, 1) := by decide +kernel
theorem dX8_isSquare_3 : decode cX8_isSquare 3 = .ok (.invokevirtual 81, 3) := by decide +kernel
theorem dX8_isSquare_6 : decode cX8_isSquare 6 = .ok (.iconst 1, 1) := by decide +kernel
theorem dX8_isSquare_7 : decode cX8_isSquare 7 = .ok (.isub, 1) := by decide +kernel
theorem dX8_isSquare_8 : decode cX8_isSquare 8 = .ok (.invokestatic 70, 3) := by decide +kernel
theorem dX8_isSquare_11 : decode cX8_isSquare 11 = .ok (.ireturn, 1) := by decide +kernel
theorem dX8_lineOf_0 : decode cX8_lineOf 0 = .ok (.aload_n 0, 1) := by decide +kernel
theorem dX8_lineOf_1 : decode cX8_lineOf 1 = .ok (.iload_n 1, 1) := by decide +kernel
theorem dX8_lineOf_2 : decode cX8_lineOf 2 = .ok (.invokevirtual 95, 3) := by decide +kernel
theorem dX8_lineOf_5 : decode cX8_lineOf 5 = .ok (.ifCond .ne 5, 3) := by decide +kernel
theorem dX8_lineOf_8 : decode cX8_lineOf 8 = .ok (.iconst (-1), 1) := by decide +kernel
theorem dX8_lineOf_9 : decode cX8_lineOf 9 = .ok (.ireturn, 1) := by decide +kernel
theorem dX8_lineOf_10 : decode cX8_lineOf 10 = .ok (.aload_n 0, 1) := by decide +kernel
theorem dX8_lineOf_11 : decode cX8_lineOf 11 = .ok (.invokevirtual 92, 3) := by decide +kernel
theorem dX8_lineOf_14 : decode cX8_lineOf 14 = .ok (.aload_n 0, 1) := by decide +kernel
theorem dX8_lineOf_15 : decode cX8_lineOf 15 = .ok (.getfield 24, 3) := by decide +kernel
theorem dX8_lineOf_18 : decode cX8_lineOf 18 = .ok (.iload_n 1, 1) := by decide +kernel
theorem dX8_lineOf_19 : decode cX8_lineOf 19 = .ok (.iaload, 1) := by decide +kernel
theorem dX8_lineOf_20 : decode cX8_lineOf 20 = .ok (.ireturn, 1) := by decide +kernel
theorem dX8_held_0 : decode cX8_held 0 = .ok (.iconst 0, 1) := by decide +kernel
theorem dX8_held_1 : decode cX8_held 1 = .ok (.istore 4, 2) := by decide +kernel
theorem dX8_held_3 : decode cX8_held 3 = .ok (.iconst 0, 1) := by decide +kernel
theorem dX8_held_4 : decode cX8_held 4 = .ok (.istore 5, 2) := by decide +kernel
theorem dX8_held_6 : decode cX8_held 6 = .ok (.iload 5, 2) := by decide +kernel
theorem dX8_held_8 : decode cX8_held 8 = .ok (.iconst 4, 1) := by decide +kernel
theorem dX8_held_9 : decode cX8_held 9 = .ok (.if_icmp .ge 54, 3) := by decide +kernel
theorem dX8_held_12 : decode cX8_held 12 = .ok (.iload 4, 2) := by decide +kernel
theorem dX8_held_14 : decode cX8_held 14 = .ok (.aload_n 0, 1) := by decide +kernel
theorem dX8_held_15 : decode cX8_held 15 = .ok (.getfield 24, 3) := by decide +kernel
theorem dX8_held_18 : decode cX8_held 18 = .ok (.iconst 2, 1) := by decide +kernel
theorem dX8_held_19 : decode cX8_held 19 = .ok (.aload_n 0, 1) := by decide +kernel
theorem dX8_held_20 : decode cX8_held 20 = .ok (.getfield 7, 3) := by decide +kernel
theorem dX8_held_23 : decode cX8_held 23 = .ok (.iconst 0, 1) := by decide +kernel
theorem dX8_held_24 : decode cX8_held 24 = .ok (.iaload, 1) := by decide +kernel
theorem dX8_held_25 : decode cX8_held 25 = .ok (.imul, 1) := by decide +kernel
theorem dX8_held_26 : decode cX8_held 26 = .ok (.iconst 2, 1) := by decide +kernel
theorem dX8_held_27 : decode cX8_held 27 = .ok (.iload_n 3, 1) := by decide +kernel
theorem dX8_held_28 : decode cX8_held 28 = .ok (.imul, 1) := by decide +kernel
theorem dX8_held_29 : decode cX8_held 29 = .ok (.iload 5, 2) := by decide +kernel
theorem dX8_held_31 : decode cX8_held 31 = .ok (.iconst 2, 1) := by decide +kernel
theorem dX8_held_32 : decode cX8_held 32 = .ok (.idiv, 1) := by decide +kernel
theorem dX8_held_33 : decode cX8_held 33 = .ok (.iadd, 1) := by decide +kernel
theorem dX8_held_34 : decode cX8_held 34 = .ok (.imul, 1) := by decide +kernel
theorem dX8_held_35 : decode cX8_held 35 = .ok (.iconst 2, 1) := by decide +kernel
theorem dX8_held_36 : decode cX8_held 36 = .ok (.iload_n 2, 1) := by decide +kernel
theorem dX8_held_37 : decode cX8_held 37 = .ok (.imul, 1) := by decide +kernel
theorem dX8_held_38 : decode cX8_held 38 = .ok (.iadd, 1) := by decide +kernel
theorem dX8_held_39 : decode cX8_held 39 = .ok (.iload 5, 2) := by decide +kernel
theorem dX8_held_41 : decode cX8_held 41 = .ok (.iconst 2, 1) := by decide +kernel
theorem dX8_held_42 : decode cX8_held 42 = .ok (.irem, 1) := by decide +kernel
theorem dX8_held_43 : decode cX8_held 43 = .ok (.iadd, 1) := by decide +kernel
theorem dX8_held_44 : decode cX8_held 44 = .ok (.iaload, 1) := by decide +kernel
theorem dX8_held_45 : decode cX8_held 45 = .ok (.iload_n 1, 1) := by decide +kernel
theorem dX8_held_46 : decode cX8_held 46 = .ok (.if_icmp .ne 7, 3) := by decide +kernel
theorem dX8_held_49 : decode cX8_held 49 = .ok (.iconst 1, 1) := by decide +kernel
theorem dX8_held_50 : decode cX8_held 50 = .ok (.goto 4, 3) := by decide +kernel
theorem dX8_held_53 : decode cX8_held 53 = .ok (.iconst 0, 1) := by decide +kernel
theorem dX8_held_54 : decode cX8_held 54 = .ok (.iadd, 1) := by decide +kernel
theorem dX8_held_55 : decode cX8_held 55 = .ok (.istore 4, 2) := by decide +kernel
theorem dX8_held_57 : decode cX8_held 57 = .ok (.iinc 5 1, 3) := by decide +kernel
theorem dX8_held_60 : decode cX8_held 60 = .ok (.goto (-54), 3) := by decide +kernel
theorem dX8_held_63 : decode cX8_held 63 = .ok (.iload 4, 2) := by decide +kernel
theorem dX8_held_65 : decode cX8_held 65 = .ok (.ireturn, 1) := by decide +kernel
theorem dX8_strand_0 : decode cX8_strand 0 = .ok (.iconst 2, 1) := by decide +kernel
theorem dX8_strand_1 : decode cX8_strand 1 = .ok (.aload_n 0, 1) := by decide +kernel
theorem dX8_strand_2 : decode cX8_strand 2 = .ok (.getfield 7, 3) := by decide +kernel
theorem dX8_strand_5 : decode cX8_strand 5 = .ok (.iconst 0, 1) := by decide +kernel
theorem dX8_strand_6 : decode cX8_strand 6 = .ok (.iaload, 1) := by decide +kernel
theorem dX8_strand_7 : decode cX8_strand 7 = .ok (.imul, 1) := by decide +kernel
theorem dX8_strand_8 : decode cX8_strand 8 = .ok (.istore 4, 2) := by decide +kernel
theorem dX8_strand_10 : decode cX8_strand 10 = .ok (.aload_n 0, 1) := by decide +kernel
theorem dX8_strand_11 : decode cX8_strand 11 = .ok (.getfield 16, 3) := by decide +kernel
theorem dX8_strand_14 : decode cX8_strand 14 = .ok (.iconst 0, 1) := by decide +kernel
theorem dX8_strand_15 : decode cX8_strand 15 = .ok (.iload_n 1, 1) := by decide +kernel
theorem dX8_strand_16 : decode cX8_strand 16 = .ok (.iload_n 2, 1) := by decide +kernel
theorem dX8_strand_17 : decode cX8_strand 17 = .ok (.invokestatic 77, 3) := by decide +kernel
theorem dX8_strand_20 : decode cX8_strand 20 = .ok (.baload, 1) := by decide +kernel
theorem dX8_strand_21 : decode cX8_strand 21 = .ok (.istore 5, 2) := by decide +kernel
theorem dX8_strand_23 : decode cX8_strand 23 = .ok (.iload_n 3, 1) := by decide +kernel
theorem dX8_strand_24 : decode cX8_strand 24 = .ok (.ifCond .ne 7, 3) := by decide +kernel
theorem dX8_strand_27 : decode cX8_strand 27 = .ok (.iconst 0, 1) := by decide +kernel
theorem dX8_strand_28 : decode cX8_strand 28 = .ok (.goto 24, 3) := by decide +kernel
theorem dX8_strand_31 : decode cX8_strand 31 = .ok (.iload 5, 2) := by decide +kernel
theorem dX8_strand_33 : decode cX8_strand 33 = .ok (.iconst 1, 1) := by decide +kernel
theorem dX8_strand_34 : decode cX8_strand 34 = .ok (.if_icmp .ne 7, 3) := by decide +kernel
theorem dX8_strand_37 : decode cX8_strand 37 = .ok (.iconst 1, 1) := by decide +kernel
theorem dX8_strand_38 : decode cX8_strand 38 = .ok (.goto 14, 3) := by decide +kernel
theorem dX8_strand_41 : decode cX8_strand 41 = .ok (.iload 5, 2) := by decide +kernel
theorem dX8_strand_43 : decode cX8_strand 43 = .ok (.iconst 2, 1) := by decide +kernel
theorem dX8_strand_44 : decode cX8_strand 44 = .ok (.if_icmp .ne 7, 3) := by decide +kernel
theorem dX8_strand_47 : decode cX8_strand 47 = .ok (.iconst 2, 1) := by decide +kernel
theorem dX8_strand_48 : decode cX8_strand 48 = .ok (.goto 4, 3) := by decide +kernel
theorem dX8_strand_51 : decode cX8_strand 51 = .ok (.iconst 1, 1) := by decide +kernel
theorem dX8_strand_52 : decode cX8_strand 52 = .ok (.istore 6, 2) := by decide +kernel
theorem dX8_strand_54 : decode cX8_strand 54 = .ok (.aload_n 0, 1) := by decide +kernel
theorem dX8_strand_55 : decode cX8_strand 55 = .ok (.getfield 24, 3) := by decide +kernel
theorem dX8_strand_58 : decode cX8_strand 58 = .ok (.iload 4, 2) := by decide +kernel
theorem dX8_strand_60 : decode cX8_strand 60 = .ok (.iload 6, 2) := by decide +kernel
theorem dX8_strand_62 : decode cX8_strand 62 = .ok (.iconst 2, 1) := by decide +kernel
theorem dX8_strand_63 : decode cX8_strand 63 = .ok (.if_icmp .ge 9, 3) := by decide +kernel
theorem dX8_strand_66 : decode cX8_strand 66 = .ok (.iload_n 2, 1) := by decide +kernel
theorem dX8_strand_67 : decode cX8_strand 67 = .ok (.iconst 1, 1) := by decide +kernel
theorem dX8_strand_68 : decode cX8_strand 68 = .ok (.isub, 1) := by decide +kernel
theorem dX8_strand_69 : decode cX8_strand 69 = .ok (.goto 4, 3) := by decide +kernel
theorem dX8_strand_72 : decode cX8_strand 72 = .ok (.iload_n 2, 1) := by decide +kernel
theorem dX8_strand_73 : decode cX8_strand 73 = .ok (.imul, 1) := by decide +kernel
theorem dX8_strand_74 : decode cX8_strand 74 = .ok (.iload 6, 2) := by decide +kernel
theorem dX8_strand_76 : decode cX8_strand 76 = .ok (.iconst 2, 1) := by decide +kernel
theorem dX8_strand_77 : decode cX8_strand 77 = .ok (.irem, 1) := by decide +kernel
theorem dX8_strand_78 : decode cX8_strand 78 = .ok (.ifCond .ne 9, 3) := by decide +kernel
theorem dX8_strand_81 : decode cX8_strand 81 = .ok (.iload_n 1, 1) := by decide +kernel
theorem dX8_strand_82 : decode cX8_strand 82 = .ok (.iconst 1, 1) := by decide +kernel
theorem dX8_strand_83 : decode cX8_strand 83 = .ok (.isub, 1) := by decide +kernel
theorem dX8_strand_84 : decode cX8_strand 84 = .ok (.goto 4, 3) := by decide +kernel
theorem dX8_strand_87 : decode cX8_strand 87 = .ok (.iload_n 1, 1) := by decide +kernel
theorem dX8_strand_88 : decode cX8_strand 88 = .ok (.iadd, 1) := by decide +kernel
theorem dX8_strand_89 : decode cX8_strand 89 = .ok (.iaload, 1) := by decide +kernel
theorem dX8_strand_90 : decode cX8_strand 90 = .ok (.ireturn, 1) := by decide +kernel
theorem dX8_line_0 : decode cX8_line 0 = .ok (.aload_n 0, 1) := by decide +kernel
theorem dX8_line_1 : decode cX8_line 1 = .ok (.invokevirtual 92, 3) := by decide +kernel
theorem dX8_line_4 : decode cX8_line 4 = .ok (.iload_n 1, 1) := by decide +kernel
theorem dX8_line_5 : decode cX8_line 5 = .ok (.iconst 0, 1) := by decide +kernel
theorem dX8_line_6 : decode cX8_line 6 = .ok (.aload_n 0, 1) := by decide +kernel
theorem dX8_line_7 : decode cX8_line 7 = .ok (.getfield 85, 3) := by decide +kernel
theorem dX8_line_10 : decode cX8_line 10 = .ok (.iconst 1, 1) := by decide +kernel
theorem dX8_line_11 : decode cX8_line 11 = .ok (.isub, 1) := by decide +kernel
theorem dX8_line_12 : decode cX8_line 12 = .ok (.invokestatic 70, 3) := by decide +kernel
theorem dX8_line_15 : decode cX8_line 15 = .ok (.ifCond .ne 5, 3) := by decide +kernel
theorem dX8_line_18 : decode cX8_line 18 = .ok (.iconst (-1), 1) := by decide +kernel
theorem dX8_line_19 : decode cX8_line 19 = .ok (.ireturn, 1) := by decide +kernel
theorem dX8_line_20 : decode cX8_line 20 = .ok (.iconst 0, 1) := by decide +kernel
theorem dX8_line_21 : decode cX8_line 21 = .ok (.istore_n 3, 1) := by decide +kernel
theorem dX8_line_22 : decode cX8_line 22 = .ok (.iload_n 2, 1) := by decide +kernel
theorem dX8_line_23 : decode cX8_line 23 = .ok (.tableswitch 213 0 4 #[33, 49, 61, 61, 133], 33) := by decide +kernel
theorem dX8_line_56 : decode cX8_line 56 = .ok (.aload_n 0, 1) := by decide +kernel
theorem dX8_line_57 : decode cX8_line 57 = .ok (.getfield 33, 3) := by decide +kernel
theorem dX8_line_60 : decode cX8_line 60 = .ok (.iload_n 1, 1) := by decide +kernel
theorem dX8_line_61 : decode cX8_line 61 = .ok (.iconst 1, 1) := by decide +kernel
theorem dX8_line_62 : decode cX8_line 62 = .ok (.iadd, 1) := by decide +kernel
theorem dX8_line_63 : decode cX8_line 63 = .ok (.iaload, 1) := by decide +kernel
theorem dX8_line_64 : decode cX8_line 64 = .ok (.aload_n 0, 1) := by decide +kernel
theorem dX8_line_65 : decode cX8_line 65 = .ok (.getfield 33, 3) := by decide +kernel
theorem dX8_line_68 : decode cX8_line 68 = .ok (.iload_n 1, 1) := by decide +kernel
theorem dX8_line_69 : decode cX8_line 69 = .ok (.iaload, 1) := by decide +kernel
theorem dX8_line_70 : decode cX8_line 70 = .ok (.isub, 1) := by decide +kernel
theorem dX8_line_71 : decode cX8_line 71 = .ok (.ireturn, 1) := by decide +kernel
theorem dX8_line_72 : decode cX8_line 72 = .ok (.aload_n 0, 1) := by decide +kernel
theorem dX8_line_73 : decode cX8_line 73 = .ok (.getfield 30, 3) := by decide +kernel
theorem dX8_line_76 : decode cX8_line 76 = .ok (.aload_n 0, 1) := by decide +kernel
theorem dX8_line_77 : decode cX8_line 77 = .ok (.getfield 33, 3) := by decide +kernel
theorem dX8_line_80 : decode cX8_line 80 = .ok (.iload_n 1, 1) := by decide +kernel
theorem dX8_line_81 : decode cX8_line 81 = .ok (.iaload, 1) := by decide +kernel
theorem dX8_line_82 : decode cX8_line 82 = .ok (.iaload, 1) := by decide +kernel
theorem dX8_line_83 : decode cX8_line 83 = .ok (.ireturn, 1) := by decide +kernel
theorem dX8_line_84 : decode cX8_line 84 = .ok (.iconst 0, 1) := by decide +kernel
theorem dX8_line_85 : decode cX8_line 85 = .ok (.istore 4, 2) := by decide +kernel
theorem dX8_line_87 : decode cX8_line 87 = .ok (.iload 4, 2) := by decide +kernel
theorem dX8_line_89 : decode cX8_line 89 = .ok (.aload_n 0, 1) := by decide +kernel
theorem dX8_line_90 : decode cX8_line 90 = .ok (.getfield 7, 3) := by decide +kernel
theorem dX8_line_93 : decode cX8_line 93 = .ok (.iconst 0, 1) := by decide +kernel
theorem dX8_line_94 : decode cX8_line 94 = .ok (.iaload, 1) := by decide +kernel
theorem dX8_line_95 : decode cX8_line 95 = .ok (.if_icmp .ge 59, 3) := by decide +kernel
theorem dX8_line_98 : decode cX8_line 98 = .ok (.iconst 0, 1) := by decide +kernel
theorem dX8_line_99 : decode cX8_line 99 = .ok (.istore 5, 2) := by decide +kernel
theorem dX8_line_101 : decode cX8_line 101 = .ok (.iload 5, 2) := by decide +kernel
theorem dX8_line_103 : decode cX8_line 103 = .ok (.aload_n 0, 1) := by decide +kernel
theorem dX8_line_104 : decode cX8_line 104 = .ok (.getfield 13, 3) := by decide +kernel
theorem dX8_line_107 : decode cX8_line 107 = .ok (.iconst 0, 1) := by decide +kernel
theorem dX8_line_108 : decode cX8_line 108 = .ok (.iaload, 1) := by decide +kernel
theorem dX8_line_109 : decode cX8_line 109 = .ok (.if_icmp .ge 39, 3) := by decide +kernel
theorem dX8_line_112 : decode cX8_line 112 = .ok (.iload_n 3, 1) := by decide +kernel
theorem dX8_line_113 : decode cX8_line 113 = .ok (.aload_n 0, 1) := by decide +kernel
theorem dX8_line_114 : decode cX8_line 114 = .ok (.iload_n 1, 1) := by decide +kernel
theorem dX8_line_115 : decode cX8_line 115 = .ok (.iload 4, 2) := by decide +kernel
theorem dX8_line_117 : decode cX8_line 117 = .ok (.iload 5, 2) := by decide +kernel
theorem dX8_line_119 : decode cX8_line 119 = .ok (.invokevirtual 99, 3) := by decide +kernel
theorem dX8_line_122 : decode cX8_line 122 = .ok (.iload_n 2, 1) := by decide +kernel
theorem dX8_line_123 : decode cX8_line 123 = .ok (.iconst 2, 1) := by decide +kernel
theorem dX8_line_124 : decode cX8_line 124 = .ok (.if_icmp .ne 7, 3) := by decide +kernel
theorem dX8_line_127 : decode cX8_line 127 = .ok (.iconst 4, 1) := by decide +kernel
theorem dX8_line_128 : decode cX8_line 128 = .ok (.goto 4, 3) := by decide +kernel
theorem dX8_line_131 : decode cX8_line 131 = .ok (.iconst 1, 1) := by decide +kernel
theorem dX8_line_132 : decode cX8_line 132 = .ok (.if_icmp .lt 7, 3) := by decide +kernel
theorem dX8_line_135 : decode cX8_line 135 = .ok (.iconst 1, 1) := by decide +kernel
theorem dX8_line_136 : decode cX8_line 136 = .ok (.goto 4, 3) := by decide +kernel
theorem dX8_line_139 : decode cX8_line 139 = .ok (.iconst 0, 1) := by decide +kernel
theorem dX8_line_140 : decode cX8_line 140 = .ok (.iadd, 1) := by decide +kernel
theorem dX8_line_141 : decode cX8_line 141 = .ok (.istore_n 3, 1) := by decide +kernel
theorem dX8_line_142 : decode cX8_line 142 = .ok (.iinc 5 1, 3) := by decide +kernel
theorem dX8_line_145 : decode cX8_line 145 = .ok (.goto (-44), 3) := by decide +kernel
theorem dX8_line_148 : decode cX8_line 148 = .ok (.iinc 4 1, 3) := by decide +kernel
theorem dX8_line_151 : decode cX8_line 151 = .ok (.goto (-64), 3) := by decide +kernel
theorem dX8_line_154 : decode cX8_line 154 = .ok (.iload_n 3, 1) := by decide +kernel
theorem dX8_line_155 : decode cX8_line 155 = .ok (.ireturn, 1) := by decide +kernel
theorem dX8_line_156 : decode cX8_line 156 = .ok (.iconst 0, 1) := by decide +kernel
theorem dX8_line_157 : decode cX8_line 157 = .ok (.istore 4, 2) := by decide +kernel
theorem dX8_line_159 : decode cX8_line 159 = .ok (.iload 4, 2) := by decide +kernel
theorem dX8_line_161 : decode cX8_line 161 = .ok (.bipush 17, 2) := by decide +kernel
theorem dX8_line_163 : decode cX8_line 163 = .ok (.if_icmp .ge 71, 3) := by decide +kernel
theorem dX8_line_166 : decode cX8_line 166 = .ok (.iconst 0, 1) := by decide +kernel
theorem dX8_line_167 : decode cX8_line 167 = .ok (.istore 5, 2) := by decide +kernel
theorem dX8_line_169 : decode cX8_line 169 = .ok (.iload 5, 2) := by decide +kernel
theorem dX8_line_171 : decode cX8_line 171 = .ok (.bipush 17, 2) := by decide +kernel
theorem dX8_line_173 : decode cX8_line 173 = .ok (.if_icmp .ge 55, 3) := by decide +kernel
theorem dX8_line_176 : decode cX8_line 176 = .ok (.iload_n 3, 1) := by decide +kernel
theorem dX8_line_177 : decode cX8_line 177 = .ok (.aload_n 0, 1) := by decide +kernel
theorem dX8_line_178 : decode cX8_line 178 = .ok (.iconst 0, 1) := by decide +kernel
theorem dX8_line_179 : decode cX8_line 179 = .ok (.iload 4, 2) := by decide +kernel
theorem dX8_line_181 : decode cX8_line 181 = .ok (.iload 5, 2) := by decide +kernel
theorem dX8_line_183 : decode cX8_line 183 = .ok (.invokevirtual 74, 3) := by decide +kernel
theorem dX8_line_186 : decode cX8_line 186 = .ok (.ifCond .eq 33, 3) := by decide +kernel
theorem dX8_line_189 : decode cX8_line 189 = .ok (.aload_n 0, 1) := by decide +kernel
theorem dX8_line_190 : decode cX8_line 190 = .ok (.iload 4, 2) := by decide +kernel
theorem dX8_line_192 : decode cX8_line 192 = .ok (.iload 5, 2) := by decide +kernel
theorem dX8_line_194 : decode cX8_line 194 = .ok (.iconst 0, 1) := by decide +kernel
theorem dX8_line_195 : decode cX8_line 195 = .ok (.invokevirtual 102, 3) := by decide +kernel
theorem dX8_line_198 : decode cX8_line 198 = .ok (.iload_n 1, 1) := by decide +kernel
theorem dX8_line_199 : decode cX8_line 199 = .ok (.if_icmp .ne 20, 3) := by decide +kernel
theorem dX8_line_202 : decode cX8_line 202 = .ok (.aload_n 0, 1) := by decide +kernel
theorem dX8_line_203 : decode cX8_line 203 = .ok (.iload 4, 2) := by decide +kernel
theorem dX8_line_205 : decode cX8_line 205 = .ok (.iload 5, 2) := by decide +kernel
theorem dX8_line_207 : decode cX8_line 207 = .ok (.iconst 1, 1) := by decide +kernel
theorem dX8_line_208 : decode cX8_line 208 = .ok (.invokevirtual 102, 3) := by decide +kernel
theorem dX8_line_211 : decode cX8_line 211 = .ok (.iload_n 1, 1) := by decide +kernel
theorem dX8_line_212 : decode cX8_line 212 = .ok (.if_icmp .ne 7, 3) := by decide +kernel
theorem dX8_line_215 : decode cX8_line 215 = .ok (.iconst 1, 1) := by decide +kernel
theorem dX8_line_216 : decode cX8_line 216 = .ok (.goto 4, 3) := by decide +kernel
theorem dX8_line_219 : decode cX8_line 219 = .ok (.iconst 0, 1) := by decide +kernel
theorem dX8_line_220 : decode cX8_line 220 = .ok (.iadd, 1) := by decide +kernel
theorem dX8_line_221 : decode cX8_line 221 = .ok (.istore_n 3, 1) := by decide +kernel
theorem dX8_line_222 : decode cX8_line 222 = .ok (.iinc 5 1, 3) := by decide +kernel
theorem dX8_line_225 : decode cX8_line 225 = .ok (.goto (-56), 3) := by decide +kernel
theorem dX8_line_228 : decode cX8_line 228 = .ok (.iinc 4 1, 3) := by decide +kernel
theorem dX8_line_231 : decode cX8_line 231 = .ok (.goto (-72), 3) := by decide +kernel
theorem dX8_line_234 : decode cX8_line 234 = .ok (.iload_n 3, 1) := by decide +kernel
theorem dX8_line_235 : decode cX8_line 235 = .ok (.ireturn, 1) := by decide +kernel
theorem dX8_line_236 : decode cX8_line 236 = .ok (.iconst (-1), 1) := by decide +kernel
theorem dX8_line_237 : decode cX8_line 237 = .ok (.ireturn, 1) := by decide +kernel
theorem dX8_walk_0 : decode cX8_walk 0 = .ok (.aload_n 0, 1) := by decide +kernel
theorem dX8_walk_1 : decode cX8_walk 1 = .ok (.invokevirtual 92, 3) := by decide +kernel
theorem dX8_walk_4 : decode cX8_walk 4 = .ok (.iload_n 1, 1) := by decide +kernel
theorem dX8_walk_5 : decode cX8_walk 5 = .ok (.iconst 0, 1) := by decide +kernel
theorem dX8_walk_6 : decode cX8_walk 6 = .ok (.aload_n 0, 1) := by decide +kernel
theorem dX8_walk_7 : decode cX8_walk 7 = .ok (.getfield 85, 3) := by decide +kernel
theorem dX8_walk_10 : decode cX8_walk 10 = .ok (.iconst 1, 1) := by decide +kernel
theorem dX8_walk_11 : decode cX8_walk 11 = .ok (.isub, 1) := by decide +kernel
theorem dX8_walk_12 : decode cX8_walk 12 = .ok (.invokestatic 70, 3) := by decide +kernel
theorem dX8_walk_15 : decode cX8_walk 15 = .ok (.ifCond .eq 44, 3) := by decide +kernel
theorem dX8_walk_18 : decode cX8_walk 18 = .ok (.iload_n 2, 1) := by decide +kernel
theorem dX8_walk_19 : decode cX8_walk 19 = .ok (.iconst 0, 1) := by decide +kernel
theorem dX8_walk_20 : decode cX8_walk 20 = .ok (.aload_n 0, 1) := by decide +kernel
theorem dX8_walk_21 : decode cX8_walk 21 = .ok (.getfield 33, 3) := by decide +kernel
theorem dX8_walk_24 : decode cX8_walk 24 = .ok (.iload_n 1, 1) := by decide +kernel
theorem dX8_walk_25 : decode cX8_walk 25 = .ok (.iconst 1, 1) := by decide +kernel
theorem dX8_walk_26 : decode cX8_walk 26 = .ok (.iadd, 1) := by decide +kernel
theorem dX8_walk_27 : decode cX8_walk 27 = .ok (.iaload, 1) := by decide +kernel
theorem dX8_walk_28 : decode cX8_walk 28 = .ok (.aload_n 0, 1) := by decide +kernel
theorem dX8_walk_29 : decode cX8_walk 29 = .ok (.getfield 33, 3) := by decide +kernel
theorem dX8_walk_32 : decode cX8_walk 32 = .ok (.iload_n 1, 1) := by decide +kernel
theorem dX8_walk_33 : decode cX8_walk 33 = .ok (.iaload, 1) := by decide +kernel
theorem dX8_walk_34 : decode cX8_walk 34 = .ok (.isub, 1) := by decide +kernel
theorem dX8_walk_35 : decode cX8_walk 35 = .ok (.iconst 1, 1) := by decide +kernel
theorem dX8_walk_36 : decode cX8_walk 36 = .ok (.isub, 1) := by decide +kernel
theorem dX8_walk_37 : decode cX8_walk 37 = .ok (.invokestatic 70, 3) := by decide +kernel
theorem dX8_walk_40 : decode cX8_walk 40 = .ok (.ifCond .eq 19, 3) := by decide +kernel
theorem dX8_walk_43 : decode cX8_walk 43 = .ok (.aload_n 0, 1) := by decide +kernel
theorem dX8_walk_44 : decode cX8_walk 44 = .ok (.getfield 30, 3) := by decide +kernel
theorem dX8_walk_47 : decode cX8_walk 47 = .ok (.aload_n 0, 1) := by decide +kernel
theorem dX8_walk_48 : decode cX8_walk 48 = .ok (.getfield 33, 3) := by decide +kernel
theorem dX8_walk_51 : decode cX8_walk 51 = .ok (.iload_n 1, 1) := by decide +kernel
theorem dX8_walk_52 : decode cX8_walk 52 = .ok (.iaload, 1) := by decide +kernel
theorem dX8_walk_53 : decode cX8_walk 53 = .ok (.iload_n 2, 1) := by decide +kernel
theorem dX8_walk_54 : decode cX8_walk 54 = .ok (.iadd, 1) := by decide +kernel
theorem dX8_walk_55 : decode cX8_walk 55 = .ok (.iaload, 1) := by decide +kernel
theorem dX8_walk_56 : decode cX8_walk 56 = .ok (.goto 4, 3) := by decide +kernel
theorem dX8_walk_59 : decode cX8_walk 59 = .ok (.iconst (-1), 1) := by decide +kernel
theorem dX8_walk_60 : decode cX8_walk 60 = .ok (.ireturn, 1) := by decide +kernel
theorem dX8_holds_0 : decode cX8_holds 0 = .ok (.aload_n 0, 1) := by decide +kernel
theorem dX8_holds_1 : decode cX8_holds 1 = .ok (.invokevirtual 92, 3) := by decide +kernel
theorem dX8_holds_4 : decode cX8_holds 4 = .ok (.iload_n 1, 1) := by decide +kernel
theorem dX8_holds_5 : decode cX8_holds 5 = .ok (.iconst 0, 1) := by decide +kernel
theorem dX8_holds_6 : decode cX8_holds 6 = .ok (.aload_n 0, 1) := by decide +kernel
theorem dX8_holds_7 : decode cX8_holds 7 = .ok (.getfield 85, 3) := by decide +kernel
theorem dX8_holds_10 : decode cX8_holds 10 = .ok (.iconst 1, 1) := by decide +kernel
theorem dX8_holds_11 : decode cX8_holds 11 = .ok (.isub, 1) := by decide +kernel
theorem dX8_holds_12 : decode cX8_holds 12 = .ok (.invokestatic 70, 3) := by decide +kernel
theorem dX8_holds_15 : decode cX8_holds 15 = .ok (.ifCond .eq 45, 3) := by decide +kernel
theorem dX8_holds_18 : decode cX8_holds 18 = .ok (.iload_n 2, 1) := by decide +kernel
theorem dX8_holds_19 : decode cX8_holds 19 = .ok (.iconst 0, 1) := by decide +kernel
theorem dX8_holds_20 : decode cX8_holds 20 = .ok (.aload_n 0, 1) := by decide +kernel
theorem dX8_holds_21 : decode cX8_holds 21 = .ok (.getfield 7, 3) := by decide +kernel
theorem dX8_holds_24 : decode cX8_holds 24 = .ok (.iconst 0, 1) := by decide +kernel
theorem dX8_holds_25 : decode cX8_holds 25 = .ok (.iaload, 1) := by decide +kernel
theorem dX8_holds_26 : decode cX8_holds 26 = .ok (.iconst 1, 1) := by decide +kernel
theorem dX8_holds_27 : decode cX8_holds 27 = .ok (.isub, 1) := by decide +kernel
theorem dX8_holds_28 : decode cX8_holds 28 = .ok (.invokestatic 70, 3) := by decide +kernel
theorem dX8_holds_31 : decode cX8_holds 31 = .ok (.ifCond .eq 29, 3) := by decide +kernel
theorem dX8_holds_34 : decode cX8_holds 34 = .ok (.iload_n 3, 1) := by decide +kernel
theorem dX8_holds_35 : decode cX8_holds 35 = .ok (.iconst 0, 1) := by decide +kernel
theorem dX8_holds_36 : decode cX8_holds 36 = .ok (.aload_n 0, 1) := by decide +kernel
theorem dX8_holds_37 : decode cX8_holds 37 = .ok (.getfield 13, 3) := by decide +kernel
theorem dX8_holds_40 : decode cX8_holds 40 = .ok (.iconst 0, 1) := by decide +kernel
theorem dX8_holds_41 : decode cX8_holds 41 = .ok (.iaload, 1) := by decide +kernel
theorem dX8_holds_42 : decode cX8_holds 42 = .ok (.iconst 1, 1) := by decide +kernel
theorem dX8_holds_43 : decode cX8_holds 43 = .ok (.isub, 1) := by decide +kernel
theorem dX8_holds_44 : decode cX8_holds 44 = .ok (.invokestatic 70, 3) := by decide +kernel
theorem dX8_holds_47 : decode cX8_holds 47 = .ok (.ifCond .eq 13, 3) := by decide +kernel
theorem dX8_holds_50 : decode cX8_holds 50 = .ok (.aload_n 0, 1) := by decide +kernel
theorem dX8_holds_51 : decode cX8_holds 51 = .ok (.iload_n 1, 1) := by decide +kernel
theorem dX8_holds_52 : decode cX8_holds 52 = .ok (.iload_n 2, 1) := by decide +kernel
theorem dX8_holds_53 : decode cX8_holds 53 = .ok (.iload_n 3, 1) := by decide +kernel
theorem dX8_holds_54 : decode cX8_holds 54 = .ok (.invokevirtual 99, 3) := by decide +kernel
theorem dX8_holds_57 : decode cX8_holds 57 = .ok (.goto 4, 3) := by decide +kernel
theorem dX8_holds_60 : decode cX8_holds 60 = .ok (.iconst (-1), 1) := by decide +kernel
theorem dX8_holds_61 : decode cX8_holds 61 = .ok (.ireturn, 1) := by decide +kernel
theorem dX8_colour_0 : decode cX8_colour 0 = .ok (.aload_n 0, 1) := by decide +kernel
theorem dX8_colour_1 : decode cX8_colour 1 = .ok (.iload_n 1, 1) := by decide +kernel
theorem dX8_colour_2 : decode cX8_colour 2 = .ok (.invokevirtual 95, 3) := by decide +kernel
theorem dX8_colour_5 : decode cX8_colour 5 = .ok (.ifCond .ne 5, 3) := by decide +kernel
theorem dX8_colour_8 : decode cX8_colour 8 = .ok (.iconst (-1), 1) := by decide +kernel
theorem dX8_colour_9 : decode cX8_colour 9 = .ok (.ireturn, 1) := by decide +kernel
theorem dX8_colour_10 : decode cX8_colour 10 = .ok (.aload_n 0, 1) := by decide +kernel
theorem dX8_colour_11 : decode cX8_colour 11 = .ok (.invokevirtual 92, 3) := by decide +kernel
theorem dX8_colour_14 : decode cX8_colour 14 = .ok (.aload_n 0, 1) := by decide +kernel
theorem dX8_colour_15 : decode cX8_colour 15 = .ok (.getfield 27, 3) := by decide +kernel
theorem dX8_colour_18 : decode cX8_colour 18 = .ok (.iload_n 1, 1) := by decide +kernel
theorem dX8_colour_19 : decode cX8_colour 19 = .ok (.iaload, 1) := by decide +kernel
theorem dX8_colour_20 : decode cX8_colour 20 = .ok (.iconst 2, 1) := by decide +kernel
theorem dX8_colour_21 : decode cX8_colour 21 = .ok (.irem, 1) := by decide +kernel
theorem dX8_colour_22 : decode cX8_colour 22 = .ok (.ireturn, 1) := by decide +kernel
theorem dX8_coloured_0 : decode cX8_coloured 0 = .ok (.iload_n 1, 1) := by decide +kernel
theorem dX8_coloured_1 : decode cX8_coloured 1 = .ok (.iconst 0, 1) := by decide +kernel
theorem dX8_coloured_2 : decode cX8_coloured 2 = .ok (.iconst 2, 1) := by decide +kernel
theorem dX8_coloured_3 : decode cX8_coloured 3 = .ok (.iload_n 2, 1) := by decide +kernel
theorem dX8_coloured_4 : decode cX8_coloured 4 = .ok (.ifCond .eq 12, 3) := by decide +kernel
theorem dX8_coloured_7 : decode cX8_coloured 7 = .ok (.aload_n 0, 1) := by decide +kernel
theorem dX8_coloured_8 : decode cX8_coloured 8 = .ok (.getfield 7, 3) := by decide +kernel
theorem dX8_coloured_11 : decode cX8_coloured 11 = .ok (.iconst 0, 1) := by decide +kernel
theorem dX8_coloured_12 : decode cX8_coloured 12 = .ok (.iaload, 1) := by decide +kernel
theorem dX8_coloured_13 : decode cX8_coloured 13 = .ok (.goto 9, 3) := by decide +kernel
theorem dX8_coloured_16 : decode cX8_coloured 16 = .ok (.aload_n 0, 1) := by decide +kernel
theorem dX8_coloured_17 : decode cX8_coloured 17 = .ok (.getfield 13, 3) := by decide +kernel
theorem dX8_coloured_20 : decode cX8_coloured 20 = .ok (.iconst 0, 1) := by decide +kernel
theorem dX8_coloured_21 : decode cX8_coloured 21 = .ok (.iaload, 1) := by decide +kernel
theorem dX8_coloured_22 : decode cX8_coloured 22 = .ok (.imul, 1) := by decide +kernel
theorem dX8_coloured_23 : decode cX8_coloured 23 = .ok (.iconst 1, 1) := by decide +kernel
theorem dX8_coloured_24 : decode cX8_coloured 24 = .ok (.isub, 1) := by decide +kernel
theorem dX8_coloured_25 : decode cX8_coloured 25 = .ok (.invokestatic 70, 3) := by decide +kernel
theorem dX8_coloured_28 : decode cX8_coloured 28 = .ok (.ifCond .ne 5, 3) := by decide +kernel
theorem dX8_coloured_31 : decode cX8_coloured 31 = .ok (.iconst (-1), 1) := by decide +kernel
theorem dX8_coloured_32 : decode cX8_coloured 32 = .ok (.ireturn, 1) := by decide +kernel
theorem dX8_coloured_33 : decode cX8_coloured 33 = .ok (.aload_n 0, 1) := by decide +kernel
theorem dX8_coloured_34 : decode cX8_coloured 34 = .ok (.invokevirtual 92, 3) := by decide +kernel
theorem dX8_coloured_37 : decode cX8_coloured 37 = .ok (.iconst 2, 1) := by decide +kernel
theorem dX8_coloured_38 : decode cX8_coloured 38 = .ok (.aload_n 0, 1) := by decide +kernel
theorem dX8_coloured_39 : decode cX8_coloured 39 = .ok (.getfield 7, 3) := by decide +kernel
theorem dX8_coloured_42 : decode cX8_coloured 42 = .ok (.iconst 0, 1) := by decide +kernel
theorem dX8_coloured_43 : decode cX8_coloured 43 = .ok (.iaload, 1) := by decide +kernel
theorem dX8_coloured_44 : decode cX8_coloured 44 = .ok (.imul, 1) := by decide +kernel
theorem dX8_coloured_45 : decode cX8_coloured 45 = .ok (.istore_n 3, 1) := by decide +kernel
theorem dX8_coloured_46 : decode cX8_coloured 46 = .ok (.iconst 0, 1) := by decide +kernel
theorem dX8_coloured_47 : decode cX8_coloured 47 = .ok (.istore 4, 2) := by decide +kernel
theorem dX8_coloured_49 : decode cX8_coloured 49 = .ok (.iconst 0, 1) := by decide +kernel
theorem dX8_coloured_50 : decode cX8_coloured 50 = .ok (.istore 5, 2) := by decide +kernel
theorem dX8_coloured_52 : decode cX8_coloured 52 = .ok (.iload 5, 2) := by decide +kernel
theorem dX8_coloured_54 : decode cX8_coloured 54 = .ok (.aload_n 0, 1) := by decide +kernel
theorem dX8_coloured_55 : decode cX8_coloured 55 = .ok (.invokevirtual 81, 3) := by decide +kernel
theorem dX8_coloured_58 : decode cX8_coloured 58 = .ok (.if_icmp .ge 46, 3) := by decide +kernel
theorem dX8_coloured_61 : decode cX8_coloured 61 = .ok (.iload 4, 2) := by decide +kernel
theorem dX8_coloured_63 : decode cX8_coloured 63 = .ok (.iload_n 2, 1) := by decide +kernel
theorem dX8_coloured_64 : decode cX8_coloured 64 = .ok (.ifCond .eq 10, 3) := by decide +kernel
theorem dX8_coloured_67 : decode cX8_coloured 67 = .ok (.iload 5, 2) := by decide +kernel
theorem dX8_coloured_69 : decode cX8_coloured 69 = .ok (.iload_n 3, 1) := by decide +kernel
theorem dX8_coloured_70 : decode cX8_coloured 70 = .ok (.irem, 1) := by decide +kernel
theorem dX8_coloured_71 : decode cX8_coloured 71 = .ok (.goto 7, 3) := by decide +kernel
theorem dX8_coloured_74 : decode cX8_coloured 74 = .ok (.iload 5, 2) := by decide +kernel
theorem dX8_coloured_76 : decode cX8_coloured 76 = .ok (.iload_n 3, 1) := by decide +kernel
theorem dX8_coloured_77 : decode cX8_coloured 77 = .ok (.idiv, 1) := by decide +kernel
theorem dX8_coloured_78 : decode cX8_coloured 78 = .ok (.iload_n 1, 1) := by decide +kernel
theorem dX8_coloured_79 : decode cX8_coloured 79 = .ok (.if_icmp .ne 15, 3) := by decide +kernel
theorem dX8_coloured_82 : decode cX8_coloured 82 = .ok (.aload_n 0, 1) := by decide +kernel
theorem dX8_coloured_83 : decode cX8_coloured 83 = .ok (.getfield 27, 3) := by decide +kernel
theorem dX8_coloured_86 : decode cX8_coloured 86 = .ok (.iload 5, 2) := by decide +kernel
theorem dX8_coloured_88 : decode cX8_coloured 88 = .ok (.iaload, 1) := by decide +kernel
theorem dX8_coloured_89 : decode cX8_coloured 89 = .ok (.iconst 2, 1) := by decide +kernel
theorem dX8_coloured_90 : decode cX8_coloured 90 = .ok (.irem, 1) := by decide +kernel
theorem dX8_coloured_91 : decode cX8_coloured 91 = .ok (.goto 4, 3) := by decide +kernel
theorem dX8_coloured_94 : decode cX8_coloured 94 = .ok (.iconst 0, 1) := by decide +kernel
theorem dX8_coloured_95 : decode cX8_coloured 95 = .ok (.iadd, 1) := by decide +kernel
theorem dX8_coloured_96 : decode cX8_coloured 96 = .ok (.istore 4, 2) := by decide +kernel
theorem dX8_coloured_98 : decode cX8_coloured 98 = .ok (.iinc 5 1, 3) := by decide +kernel
theorem dX8_coloured_101 : decode cX8_coloured 101 = .ok (.goto (-49), 3) := by decide +kernel
theorem dX8_coloured_104 : decode cX8_coloured 104 = .ok (.iload 4, 2) := by decide +kernel
theorem dX8_coloured_106 : decode cX8_coloured 106 = .ok (.ireturn, 1) := by decide +kernel
theorem dX8_rootOf_0 : decode cX8_rootOf 0 = .ok (.iload_n 1, 1) := by decide +kernel
theorem dX8_rootOf_1 : decode cX8_rootOf 1 = .ok (.istore_n 2, 1) := by decide +kernel
theorem dX8_rootOf_2 : decode cX8_rootOf 2 = .ok (.aload_n 0, 1) := by decide +kernel
theorem dX8_rootOf_3 : decode cX8_rootOf 3 = .ok (.getfield 36, 3) := by decide +kernel
theorem dX8_rootOf_6 : decode cX8_rootOf 6 = .ok (.iload_n 2, 1) := by decide +kernel
theorem dX8_rootOf_7 : decode cX8_rootOf 7 = .ok (.iaload, 1) := by decide +kernel
theorem dX8_rootOf_8 : decode cX8_rootOf 8 = .ok (.iload_n 2, 1) := by decide +kernel
theorem dX8_rootOf_9 : decode cX8_rootOf 9 = .ok (.if_icmp .eq 13, 3) := by decide +kernel
theorem dX8_rootOf_12 : decode cX8_rootOf 12 = .ok (.aload_n 0, 1) := by decide +kernel
theorem dX8_rootOf_13 : decode cX8_rootOf 13 = .ok (.getfield 36, 3) := by decide +kernel
theorem dX8_rootOf_16 : decode cX8_rootOf 16 = .ok (.iload_n 2, 1) := by decide +kernel
theorem dX8_rootOf_17 : decode cX8_rootOf 17 = .ok (.iaload, 1) := by decide +kernel
theorem dX8_rootOf_18 : decode cX8_rootOf 18 = .ok (.istore_n 2, 1) := by decide +kernel
theorem dX8_rootOf_19 : decode cX8_rootOf 19 = .ok (.goto (-17), 3) := by decide +kernel
theorem dX8_rootOf_22 : decode cX8_rootOf 22 = .ok (.iload_n 2, 1) := by decide +kernel
theorem dX8_rootOf_23 : decode cX8_rootOf 23 = .ok (.ireturn, 1) := by decide +kernel
theorem dX8_find_0 : decode cX8_find 0 = .ok (.aload_n 0, 1) := by decide +kernel
theorem dX8_find_1 : decode cX8_find 1 = .ok (.invokevirtual 92, 3) := by decide +kernel
theorem dX8_find_4 : decode cX8_find 4 = .ok (.iconst 0, 1) := by decide +kernel
theorem dX8_find_5 : decode cX8_find 5 = .ok (.istore_n 1, 1) := by decide +kernel
theorem dX8_find_6 : decode cX8_find 6 = .ok (.iload_n 1, 1) := by decide +kernel
theorem dX8_find_7 : decode cX8_find 7 = .ok (.aload_n 0, 1) := by decide +kernel
theorem dX8_find_8 : decode cX8_find 8 = .ok (.getfield 85, 3) := by decide +kernel
theorem dX8_find_11 : decode cX8_find 11 = .ok (.if_icmp .ge 16, 3) := by decide +kernel
theorem dX8_find_14 : decode cX8_find 14 = .ok (.aload_n 0, 1) := by decide +kernel
theorem dX8_find_15 : decode cX8_find 15 = .ok (.getfield 36, 3) := by decide +kernel
theorem dX8_find_18 : decode cX8_find 18 = .ok (.iload_n 1, 1) := by decide +kernel
theorem dX8_find_19 : decode cX8_find 19 = .ok (.iload_n 1, 1) := by decide +kernel
theorem dX8_find_20 : decode cX8_find 20 = .ok (.iastore, 1) := by decide +kernel
theorem dX8_find_21 : decode cX8_find 21 = .ok (.iinc 1 1, 3) := by decide +kernel
theorem dX8_find_24 : decode cX8_find 24 = .ok (.goto (-18), 3) := by decide +kernel
theorem dX8_find_27 : decode cX8_find 27 = .ok (.aload_n 0, 1) := by decide +kernel
theorem dX8_find_28 : decode cX8_find 28 = .ok (.iconst 0, 1) := by decide +kernel
theorem dX8_find_29 : decode cX8_find 29 = .ok (.putfield 105, 3) := by decide +kernel
theorem dX8_find_32 : decode cX8_find 32 = .ok (.aload_n 0, 1) := by decide +kernel
theorem dX8_find_33 : decode cX8_find 33 = .ok (.aload_n 0, 1) := by decide +kernel
theorem dX8_find_34 : decode cX8_find 34 = .ok (.getfield 85, 3) := by decide +kernel
theorem dX8_find_37 : decode cX8_find 37 = .ok (.putfield 108, 3) := by decide +kernel
theorem dX8_find_40 : decode cX8_find 40 = .ok (.iconst 1, 1) := by decide +kernel
theorem dX8_find_41 : decode cX8_find 41 = .ok (.istore_n 1, 1) := by decide +kernel
theorem dX8_find_42 : decode cX8_find 42 = .ok (.iload_n 1, 1) := by decide +kernel
theorem dX8_find_43 : decode cX8_find 43 = .ok (.iconst 2, 1) := by decide +kernel
theorem dX8_find_44 : decode cX8_find 44 = .ok (.aload_n 0, 1) := by decide +kernel
theorem dX8_find_45 : decode cX8_find 45 = .ok (.getfield 13, 3) := by decide +kernel
theorem dX8_find_48 : decode cX8_find 48 = .ok (.iconst 0, 1) := by decide +kernel
theorem dX8_find_49 : decode cX8_find 49 = .ok (.iaload, 1) := by decide +kernel
theorem dX8_find_50 : decode cX8_find 50 = .ok (.imul, 1) := by decide +kernel
theorem dX8_find_51 : decode cX8_find 51 = .ok (.if_icmp .ge 133, 3) := by decide +kernel
theorem dX8_find_54 : decode cX8_find 54 = .ok (.iconst 1, 1) := by decide +kernel
theorem dX8_find_55 : decode cX8_find 55 = .ok (.istore_n 2, 1) := by decide +kernel
theorem dX8_find_56 : decode cX8_find 56 = .ok (.iload_n 2, 1) := by decide +kernel
theorem dX8_find_57 : decode cX8_find 57 = .ok (.iconst 2, 1) := by decide +kernel
theorem dX8_find_58 : decode cX8_find 58 = .ok (.aload_n 0, 1) := by decide +kernel
theorem dX8_find_59 : decode cX8_find 59 = .ok (.getfield 7, 3) := by decide +kernel
theorem dX8_find_62 : decode cX8_find 62 = .ok (.iconst 0, 1) := by decide +kernel
theorem dX8_find_63 : decode cX8_find 63 = .ok (.iaload, 1) := by decide +kernel
theorem dX8_find_64 : decode cX8_find 64 = .ok (.imul, 1) := by decide +kernel
theorem dX8_find_65 : decode cX8_find 65 = .ok (.if_icmp .ge 113, 3) := by decide +kernel
theorem dX8_find_68 : decode cX8_find 68 = .ok (.aload_n 0, 1) := by decide +kernel
theorem dX8_find_69 : decode cX8_find 69 = .ok (.iconst 0, 1) := by decide +kernel
theorem dX8_find_70 : decode cX8_find 70 = .ok (.iload_n 2, 1) := by decide +kernel
theorem dX8_find_71 : decode cX8_find 71 = .ok (.iload_n 1, 1) := by decide +kernel
theorem dX8_find_72 : decode cX8_find 72 = .ok (.invokevirtual 74, 3) := by decide +kernel
theorem dX8_find_75 : decode cX8_find 75 = .ok (.ifCond .eq 97, 3) := by decide +kernel
theorem dX8_find_78 : decode cX8_find 78 = .ok (.aload_n 0, 1) := by decide +kernel
theorem dX8_find_79 : decode cX8_find 79 = .ok (.getfield 20, 3) := by decide +kernel
theorem dX8_find_82 : decode cX8_find 82 = .ok (.iconst 0, 1) := by decide +kernel
theorem dX8_find_83 : decode cX8_find 83 = .ok (.iload_n 2, 1) := by decide +kernel
theorem dX8_find_84 : decode cX8_find 84 = .ok (.iload_n 1, 1) := by decide +kernel
theorem dX8_find_85 : decode cX8_find 85 = .ok (.invokestatic 77, 3) := by decide +kernel
theorem dX8_find_88 : decode cX8_find 88 = .ok (.baload, 1) := by decide +kernel
theorem dX8_find_89 : decode cX8_find 89 = .ok (.ifCond .eq 6, 3) := by decide +kernel
theorem dX8_find_92 : decode cX8_find 92 = .ok (.goto 80, 3) := by decide +kernel
theorem dX8_find_95 : decode cX8_find 95 = .ok (.aload_n 0, 1) := by decide +kernel
theorem dX8_find_96 : decode cX8_find 96 = .ok (.aload_n 0, 1) := by decide +kernel
theorem dX8_find_97 : decode cX8_find 97 = .ok (.iload_n 2, 1) := by decide +kernel
theorem dX8_find_98 : decode cX8_find 98 = .ok (.iload_n 1, 1) := by decide +kernel
theorem dX8_find_99 : decode cX8_find 99 = .ok (.iconst 0, 1) := by decide +kernel
theorem dX8_find_100 : decode cX8_find 100 = .ok (.invokevirtual 102, 3) := by decide +kernel
theorem dX8_find_103 : decode cX8_find 103 = .ok (.invokevirtual 111, 3) := by decide +kernel
theorem dX8_find_106 : decode cX8_find 106 = .ok (.istore_n 3, 1) := by decide +kernel
theorem dX8_find_107 : decode cX8_find 107 = .ok (.aload_n 0, 1) := by decide +kernel
theorem dX8_find_108 : decode cX8_find 108 = .ok (.aload_n 0, 1) := by decide +kernel
theorem dX8_find_109 : decode cX8_find 109 = .ok (.iload_n 2, 1) := by decide +kernel
theorem dX8_find_110 : decode cX8_find 110 = .ok (.iload_n 1, 1) := by decide +kernel
theorem dX8_find_111 : decode cX8_find 111 = .ok (.iconst 1, 1) := by decide +kernel
theorem dX8_find_112 : decode cX8_find 112 = .ok (.invokevirtual 102, 3) := by decide +kernel
theorem dX8_find_115 : decode cX8_find 115 = .ok (.invokevirtual 111, 3) := by decide +kernel
theorem dX8_find_118 : decode cX8_find 118 = .ok (.istore 4, 2) := by decide +kernel
theorem dX8_find_120 : decode cX8_find 120 = .ok (.iload_n 3, 1) := by decide +kernel
theorem dX8_find_121 : decode cX8_find 121 = .ok (.iload 4, 2) := by decide +kernel
theorem dX8_find_123 : decode cX8_find 123 = .ok (.if_icmp .ne 6, 3) := by decide +kernel
theorem dX8_find_126 : decode cX8_find 126 = .ok (.goto 46, 3) := by decide +kernel
theorem dX8_find_129 : decode cX8_find 129 = .ok (.aload_n 0, 1) := by decide +kernel
theorem dX8_find_130 : decode cX8_find 130 = .ok (.getfield 36, 3) := by decide +kernel
theorem dX8_find_133 : decode cX8_find 133 = .ok (.iload_n 3, 1) := by decide +kernel
theorem dX8_find_134 : decode cX8_find 134 = .ok (.iload 4, 2) := by decide +kernel
theorem dX8_find_136 : decode cX8_find 136 = .ok (.iastore, 1) := by decide +kernel
theorem dX8_find_137 : decode cX8_find 137 = .ok (.aload_n 0, 1) := by decide +kernel
theorem dX8_find_138 : decode cX8_find 138 = .ok (.dup, 1) := by decide +kernel
theorem dX8_find_139 : decode cX8_find 139 = .ok (.getfield 108, 3) := by decide +kernel
theorem dX8_find_142 : decode cX8_find 142 = .ok (.iconst 1, 1) := by decide +kernel
theorem dX8_find_143 : decode cX8_find 143 = .ok (.isub, 1) := by decide +kernel
theorem dX8_find_144 : decode cX8_find 144 = .ok (.putfield 108, 3) := by decide +kernel
theorem dX8_find_147 : decode cX8_find 147 = .ok (.aload_n 0, 1) := by decide +kernel
theorem dX8_find_148 : decode cX8_find 148 = .ok (.getfield 39, 3) := by decide +kernel
theorem dX8_find_151 : decode cX8_find 151 = .ok (.aload_n 0, 1) := by decide +kernel
theorem dX8_find_152 : decode cX8_find 152 = .ok (.getfield 105, 3) := by decide +kernel
theorem dX8_find_155 : decode cX8_find 155 = .ok (.iconst 0, 1) := by decide +kernel
theorem dX8_find_156 : decode cX8_find 156 = .ok (.iload_n 2, 1) := by decide +kernel
theorem dX8_find_157 : decode cX8_find 157 = .ok (.iload_n 1, 1) := by decide +kernel
theorem dX8_find_158 : decode cX8_find 158 = .ok (.invokestatic 77, 3) := by decide +kernel
theorem dX8_find_161 : decode cX8_find 161 = .ok (.iastore, 1) := by decide +kernel
theorem dX8_find_162 : decode cX8_find 162 = .ok (.aload_n 0, 1) := by decide +kernel
theorem dX8_find_163 : decode cX8_find 163 = .ok (.dup, 1) := by decide +kernel
theorem dX8_find_164 : decode cX8_find 164 = .ok (.getfield 105, 3) := by decide +kernel
theorem dX8_find_167 : decode cX8_find 167 = .ok (.iconst 1, 1) := by decide +kernel
theorem dX8_find_168 : decode cX8_find 168 = .ok (.iadd, 1) := by decide +kernel
theorem dX8_find_169 : decode cX8_find 169 = .ok (.putfield 105, 3) := by decide +kernel
theorem dX8_find_172 : decode cX8_find 172 = .ok (.iinc 2 1, 3) := by decide +kernel
theorem dX8_find_175 : decode cX8_find 175 = .ok (.goto (-119), 3) := by decide +kernel
theorem dX8_find_178 : decode cX8_find 178 = .ok (.iinc 1 1, 3) := by decide +kernel
theorem dX8_find_181 : decode cX8_find 181 = .ok (.goto (-139), 3) := by decide +kernel
theorem dX8_find_184 : decode cX8_find 184 = .ok (.return_, 1) := by decide +kernel
theorem dX8_joined_0 : decode cX8_joined 0 = .ok (.aload_n 0, 1) := by decide +kernel
theorem dX8_joined_1 : decode cX8_joined 1 = .ok (.invokevirtual 115, 3) := by decide +kernel
theorem dX8_joined_4 : decode cX8_joined 4 = .ok (.iload_n 1, 1) := by decide +kernel
theorem dX8_joined_5 : decode cX8_joined 5 = .ok (.ifCond .ne 10, 3) := by decide +kernel
theorem dX8_joined_8 : decode cX8_joined 8 = .ok (.aload_n 0, 1) := by decide +kernel
theorem dX8_joined_9 : decode cX8_joined 9 = .ok (.getfield 108, 3) := by decide +kernel
theorem dX8_joined_12 : decode cX8_joined 12 = .ok (.goto 16, 3) := by decide +kernel
theorem dX8_joined_15 : decode cX8_joined 15 = .ok (.iload_n 1, 1) := by decide +kernel
theorem dX8_joined_16 : decode cX8_joined 16 = .ok (.iconst 1, 1) := by decide +kernel
theorem dX8_joined_17 : decode cX8_joined 17 = .ok (.if_icmp .ne 10, 3) := by decide +kernel
theorem dX8_joined_20 : decode cX8_joined 20 = .ok (.aload_n 0, 1) := by decide +kernel
theorem dX8_joined_21 : decode cX8_joined 21 = .ok (.getfield 105, 3) := by decide +kernel
theorem dX8_joined_24 : decode cX8_joined 24 = .ok (.goto 4, 3) := by decide +kernel
theorem dX8_joined_27 : decode cX8_joined 27 = .ok (.iconst (-1), 1) := by decide +kernel
theorem dX8_joined_28 : decode cX8_joined 28 = .ok (.ireturn, 1) := by decide +kernel
theorem dX8_other_0 : decode cX8_other 0 = .ok (.aload_n 0, 1) := by decide +kernel
theorem dX8_other_1 : decode cX8_other 1 = .ok (.getfield 16, 3) := by decide +kernel
theorem dX8_other_4 : decode cX8_other 4 = .ok (.iload_n 1, 1) := by decide +kernel
theorem dX8_other_5 : decode cX8_other 5 = .ok (.baload, 1) := by decide +kernel
theorem dX8_other_6 : decode cX8_other 6 = .ok (.ifCond .ne 7, 3) := by decide +kernel
theorem dX8_other_9 : decode cX8_other 9 = .ok (.iconst 1, 1) := by decide +kernel
theorem dX8_other_10 : decode cX8_other 10 = .ok (.goto 4, 3) := by decide +kernel
theorem dX8_other_13 : decode cX8_other 13 = .ok (.iconst 0, 1) := by decide +kernel
theorem dX8_other_14 : decode cX8_other 14 = .ok (.ireturn, 1) := by decide +kernel
theorem dX8_change_0 : decode cX8_change 0 = .ok (.aload_n 0, 1) := by decide +kernel
theorem dX8_change_1 : decode cX8_change 1 = .ok (.invokevirtual 115, 3) := by decide +kernel
theorem dX8_change_4 : decode cX8_change 4 = .ok (.iload_n 1, 1) := by decide +kernel
theorem dX8_change_5 : decode cX8_change 5 = .ok (.iconst 0, 1) := by decide +kernel
theorem dX8_change_6 : decode cX8_change 6 = .ok (.aload_n 0, 1) := by decide +kernel
theorem dX8_change_7 : decode cX8_change 7 = .ok (.getfield 105, 3) := by decide +kernel
theorem dX8_change_10 : decode cX8_change 10 = .ok (.iconst 1, 1) := by decide +kernel
theorem dX8_change_11 : decode cX8_change 11 = .ok (.isub, 1) := by decide +kernel
theorem dX8_change_12 : decode cX8_change 12 = .ok (.invokestatic 70, 3) := by decide +kernel
theorem dX8_change_15 : decode cX8_change 15 = .ok (.ifCond .ne 5, 3) := by decide +kernel
theorem dX8_change_18 : decode cX8_change 18 = .ok (.iconst (-1), 1) := by decide +kernel
theorem dX8_change_19 : decode cX8_change 19 = .ok (.ireturn, 1) := by decide +kernel
theorem dX8_change_20 : decode cX8_change 20 = .ok (.aload_n 0, 1) := by decide +kernel
theorem dX8_change_21 : decode cX8_change 21 = .ok (.getfield 39, 3) := by decide +kernel
theorem dX8_change_24 : decode cX8_change 24 = .ok (.iload_n 1, 1) := by decide +kernel
theorem dX8_change_25 : decode cX8_change 25 = .ok (.iaload, 1) := by decide +kernel
theorem dX8_change_26 : decode cX8_change 26 = .ok (.istore_n 3, 1) := by decide +kernel
theorem dX8_change_27 : decode cX8_change 27 = .ok (.iload_n 2, 1) := by decide +kernel
theorem dX8_change_28 : decode cX8_change 28 = .ok (.ifCond .ne 10, 3) := by decide +kernel
theorem dX8_change_31 : decode cX8_change 31 = .ok (.iload_n 3, 1) := by decide +kernel
theorem dX8_change_32 : decode cX8_change 32 = .ok (.bipush 17, 2) := by decide +kernel
theorem dX8_change_34 : decode cX8_change 34 = .ok (.irem, 1) := by decide +kernel
theorem dX8_change_35 : decode cX8_change 35 = .ok (.goto 29, 3) := by decide +kernel
theorem dX8_change_38 : decode cX8_change 38 = .ok (.iload_n 2, 1) := by decide +kernel
theorem dX8_change_39 : decode cX8_change 39 = .ok (.iconst 1, 1) := by decide +kernel
theorem dX8_change_40 : decode cX8_change 40 = .ok (.if_icmp .ne 10, 3) := by decide +kernel
theorem dX8_change_43 : decode cX8_change 43 = .ok (.iload_n 3, 1) := by decide +kernel
theorem dX8_change_44 : decode cX8_change 44 = .ok (.bipush 17, 2) := by decide +kernel
theorem dX8_change_46 : decode cX8_change 46 = .ok (.idiv, 1) := by decide +kernel
theorem dX8_change_47 : decode cX8_change 47 = .ok (.goto 17, 3) := by decide +kernel
theorem dX8_change_50 : decode cX8_change 50 = .ok (.iload_n 2, 1) := by decide +kernel
theorem dX8_change_51 : decode cX8_change 51 = .ok (.iconst 2, 1) := by decide +kernel
theorem dX8_change_52 : decode cX8_change 52 = .ok (.if_icmp .ne 11, 3) := by decide +kernel
theorem dX8_change_55 : decode cX8_change 55 = .ok (.aload_n 0, 1) := by decide +kernel
theorem dX8_change_56 : decode cX8_change 56 = .ok (.iload_n 3, 1) := by decide +kernel
theorem dX8_change_57 : decode cX8_change 57 = .ok (.invokevirtual 118, 3) := by decide +kernel
theorem dX8_change_60 : decode cX8_change 60 = .ok (.goto 4, 3) := by decide +kernel
theorem dX8_change_63 : decode cX8_change 63 = .ok (.iconst (-1), 1) := by decide +kernel
theorem dX8_change_64 : decode cX8_change 64 = .ok (.ireturn, 1) := by decide +kernel
theorem dX8_join_0 : decode cX8_join 0 = .ok (.aload_n 0, 1) := by decide +kernel
theorem dX8_join_1 : decode cX8_join 1 = .ok (.invokevirtual 115, 3) := by decide +kernel
theorem dX8_join_4 : decode cX8_join 4 = .ok (.iconst 0, 1) := by decide +kernel
theorem dX8_join_5 : decode cX8_join 5 = .ok (.istore_n 1, 1) := by decide +kernel
theorem dX8_join_6 : decode cX8_join 6 = .ok (.iload_n 1, 1) := by decide +kernel
theorem dX8_join_7 : decode cX8_join 7 = .ok (.aload_n 0, 1) := by decide +kernel
theorem dX8_join_8 : decode cX8_join 8 = .ok (.getfield 105, 3) := by decide +kernel
theorem dX8_join_11 : decode cX8_join 11 = .ok (.if_icmp .ge 31, 3) := by decide +kernel
theorem dX8_join_14 : decode cX8_join 14 = .ok (.aload_n 0, 1) := by decide +kernel
theorem dX8_join_15 : decode cX8_join 15 = .ok (.getfield 16, 3) := by decide +kernel
theorem dX8_join_18 : decode cX8_join 18 = .ok (.aload_n 0, 1) := by decide +kernel
theorem dX8_join_19 : decode cX8_join 19 = .ok (.getfield 39, 3) := by decide +kernel
theorem dX8_join_22 : decode cX8_join 22 = .ok (.iload_n 1, 1) := by decide +kernel
theorem dX8_join_23 : decode cX8_join 23 = .ok (.iaload, 1) := by decide +kernel
theorem dX8_join_24 : decode cX8_join 24 = .ok (.aload_n 0, 1) := by decide +kernel
theorem dX8_join_25 : decode cX8_join 25 = .ok (.aload_n 0, 1) := by decide +kernel
theorem dX8_join_26 : decode cX8_join 26 = .ok (.getfield 39, 3) := by decide +kernel
theorem dX8_join_29 : decode cX8_join 29 = .ok (.iload_n 1, 1) := by decide +kernel
theorem dX8_join_30 : decode cX8_join 30 = .ok (.iaload, 1) := by decide +kernel
theorem dX8_join_31 : decode cX8_join 31 = .ok (.invokevirtual 118, 3) := by decide +kernel
theorem dX8_join_34 : decode cX8_join 34 = .ok (.i2b, 1) := by decide +kernel
theorem dX8_join_35 : decode cX8_join 35 = .ok (.bastore, 1) := by decide +kernel
theorem dX8_join_36 : decode cX8_join 36 = .ok (.iinc 1 1, 3) := by decide +kernel
theorem dX8_join_39 : decode cX8_join 39 = .ok (.goto (-33), 3) := by decide +kernel
theorem dX8_join_42 : decode cX8_join 42 = .ok (.aload_n 0, 1) := by decide +kernel
theorem dX8_join_43 : decode cX8_join 43 = .ok (.getfield 105, 3) := by decide +kernel
theorem dX8_join_46 : decode cX8_join 46 = .ok (.ireturn, 1) := by decide +kernel
theorem dX8_four_0 : decode cX8_four 0 = .ok (.bipush 24, 2) := by decide +kernel
theorem dX8_four_2 : decode cX8_four 2 = .ok (.istore_n 2, 1) := by decide +kernel
theorem dX8_four_3 : decode cX8_four 3 = .ok (.iload_n 2, 1) := by decide +kernel
theorem dX8_four_4 : decode cX8_four 4 = .ok (.ifCond .lt 35, 3) := by decide +kernel
theorem dX8_four_7 : decode cX8_four 7 = .ok (.aload_n 0, 1) := by decide +kernel
theorem dX8_four_8 : decode cX8_four 8 = .ok (.getfield 42, 3) := by decide +kernel
theorem dX8_four_11 : decode cX8_four 11 = .ok (.aload_n 0, 1) := by decide +kernel
theorem dX8_four_12 : decode cX8_four 12 = .ok (.getfield 121, 3) := by decide +kernel
theorem dX8_four_15 : decode cX8_four 15 = .ok (.iload_n 1, 1) := by decide +kernel
theorem dX8_four_16 : decode cX8_four 16 = .ok (.iload_n 2, 1) := by decide +kernel
theorem dX8_four_17 : decode cX8_four 17 = .ok (.ishr, 1) := by decide +kernel
theorem dX8_four_18 : decode cX8_four 18 = .ok (.sipush 255, 3) := by decide +kernel
theorem dX8_four_21 : decode cX8_four 21 = .ok (.iand, 1) := by decide +kernel
theorem dX8_four_22 : decode cX8_four 22 = .ok (.iastore, 1) := by decide +kernel
theorem dX8_four_23 : decode cX8_four 23 = .ok (.aload_n 0, 1) := by decide +kernel
theorem dX8_four_24 : decode cX8_four 24 = .ok (.dup, 1) := by decide +kernel
theorem dX8_four_25 : decode cX8_four 25 = .ok (.getfield 121, 3) := by decide +kernel
theorem dX8_four_28 : decode cX8_four 28 = .ok (.iconst 1, 1) := by decide +kernel
theorem dX8_four_29 : decode cX8_four 29 = .ok (.iadd, 1) := by decide +kernel
theorem dX8_four_30 : decode cX8_four 30 = .ok (.putfield 121, 3) := by decide +kernel
theorem dX8_four_33 : decode cX8_four 33 = .ok (.iinc 2 (-8), 3) := by decide +kernel
theorem dX8_four_36 : decode cX8_four 36 = .ok (.goto (-33), 3) := by decide +kernel
theorem dX8_four_39 : decode cX8_four 39 = .ok (.return_, 1) := by decide +kernel
theorem dX8_feed_0 : decode cX8_feed 0 = .ok (.aload_n 0, 1) := by decide +kernel
theorem dX8_feed_1 : decode cX8_feed 1 = .ok (.getfield 121, 3) := by decide +kernel
theorem dX8_feed_4 : decode cX8_feed 4 = .ok (.bipush 20, 2) := by decide +kernel
theorem dX8_feed_6 : decode cX8_feed 6 = .ok (.iadd, 1) := by decide +kernel
theorem dX8_feed_7 : decode cX8_feed 7 = .ok (.sipush 200, 3) := by decide +kernel
theorem dX8_feed_10 : decode cX8_feed 10 = .ok (.if_icmp .le 5, 3) := by decide +kernel
theorem dX8_feed_13 : decode cX8_feed 13 = .ok (.iconst (-1), 1) := by decide +kernel
theorem dX8_feed_14 : decode cX8_feed 14 = .ok (.ireturn, 1) := by decide +kernel
theorem dX8_feed_15 : decode cX8_feed 15 = .ok (.aload_n 0, 1) := by decide +kernel
theorem dX8_feed_16 : decode cX8_feed 16 = .ok (.iload_n 1, 1) := by decide +kernel
theorem dX8_feed_17 : decode cX8_feed 17 = .ok (.invokevirtual 124, 3) := by decide +kernel
theorem dX8_feed_20 : decode cX8_feed 20 = .ok (.aload_n 0, 1) := by decide +kernel
theorem dX8_feed_21 : decode cX8_feed 21 = .ok (.iload_n 2, 1) := by decide +kernel
theorem dX8_feed_22 : decode cX8_feed 22 = .ok (.invokevirtual 124, 3) := by decide +kernel
theorem dX8_feed_25 : decode cX8_feed 25 = .ok (.aload_n 0, 1) := by decide +kernel
theorem dX8_feed_26 : decode cX8_feed 26 = .ok (.iload_n 3, 1) := by decide +kernel
theorem dX8_feed_27 : decode cX8_feed 27 = .ok (.invokevirtual 124, 3) := by decide +kernel
theorem dX8_feed_30 : decode cX8_feed 30 = .ok (.aload_n 0, 1) := by decide +kernel
theorem dX8_feed_31 : decode cX8_feed 31 = .ok (.iload 4, 2) := by decide +kernel
theorem dX8_feed_33 : decode cX8_feed 33 = .ok (.invokevirtual 124, 3) := by decide +kernel
theorem dX8_feed_36 : decode cX8_feed 36 = .ok (.aload_n 0, 1) := by decide +kernel
theorem dX8_feed_37 : decode cX8_feed 37 = .ok (.iload 5, 2) := by decide +kernel
theorem dX8_feed_39 : decode cX8_feed 39 = .ok (.invokevirtual 124, 3) := by decide +kernel
theorem dX8_feed_42 : decode cX8_feed 42 = .ok (.aload_n 0, 1) := by decide +kernel
theorem dX8_feed_43 : decode cX8_feed 43 = .ok (.getfield 121, 3) := by decide +kernel
theorem dX8_feed_46 : decode cX8_feed 46 = .ok (.ireturn, 1) := by decide +kernel
theorem dX8_end_0 : decode cX8_end 0 = .ok (.iload_n 1, 1) := by decide +kernel
theorem dX8_end_1 : decode cX8_end 1 = .ok (.iconst 0, 1) := by decide +kernel
theorem dX8_end_2 : decode cX8_end 2 = .ok (.aload_n 0, 1) := by decide +kernel
theorem dX8_end_3 : decode cX8_end 3 = .ok (.getfield 121, 3) := by decide +kernel
theorem dX8_end_6 : decode cX8_end 6 = .ok (.invokestatic 70, 3) := by decide +kernel
theorem dX8_end_9 : decode cX8_end 9 = .ok (.ifCond .ne 5, 3) := by decide +kernel
theorem dX8_end_12 : decode cX8_end 12 = .ok (.iconst (-1), 1) := by decide +kernel
theorem dX8_end_13 : decode cX8_end 13 = .ok (.ireturn, 1) := by decide +kernel
theorem dX8_end_14 : decode cX8_end 14 = .ok (.aload_n 0, 1) := by decide +kernel
theorem dX8_end_15 : decode cX8_end 15 = .ok (.iload_n 1, 1) := by decide +kernel
theorem dX8_end_16 : decode cX8_end 16 = .ok (.putfield 121, 3) := by decide +kernel
theorem dX8_end_19 : decode cX8_end 19 = .ok (.iload_n 1, 1) := by decide +kernel
theorem dX8_end_20 : decode cX8_end 20 = .ok (.ireturn, 1) := by decide +kernel
theorem dX8_copy_0 : decode cX8_copy 0 = .ok (.aload_n 0, 1) := by decide +kernel
theorem dX8_copy_1 : decode cX8_copy 1 = .ok (.getfield 7, 3) := by decide +kernel
theorem dX8_copy_4 : decode cX8_copy 4 = .ok (.iload_n 2, 1) := by decide +kernel
theorem dX8_copy_5 : decode cX8_copy 5 = .ok (.aload_n 0, 1) := by decide +kernel
theorem dX8_copy_6 : decode cX8_copy 6 = .ok (.getfield 7, 3) := by decide +kernel
theorem dX8_copy_9 : decode cX8_copy 9 = .ok (.iload_n 1, 1) := by decide +kernel
theorem dX8_copy_10 : decode cX8_copy 10 = .ok (.iaload, 1) := by decide +kernel
theorem dX8_copy_11 : decode cX8_copy 11 = .ok (.iastore, 1) := by decide +kernel
theorem dX8_copy_12 : decode cX8_copy 12 = .ok (.aload_n 0, 1) := by decide +kernel
theorem dX8_copy_13 : decode cX8_copy 13 = .ok (.getfield 13, 3) := by decide +kernel
theorem dX8_copy_16 : decode cX8_copy 16 = .ok (.iload_n 2, 1) := by decide +kernel
theorem dX8_copy_17 : decode cX8_copy 17 = .ok (.aload_n 0, 1) := by decide +kernel
theorem dX8_copy_18 : decode cX8_copy 18 = .ok (.getfield 13, 3) := by decide +kernel
theorem dX8_copy_21 : decode cX8_copy 21 = .ok (.iload_n 1, 1) := by decide +kernel
theorem dX8_copy_22 : decode cX8_copy 22 = .ok (.iaload, 1) := by decide +kernel
theorem dX8_copy_23 : decode cX8_copy 23 = .ok (.iastore, 1) := by decide +kernel
theorem dX8_copy_24 : decode cX8_copy 24 = .ok (.iconst 0, 1) := by decide +kernel
theorem dX8_copy_25 : decode cX8_copy 25 = .ok (.istore_n 3, 1) := by decide +kernel
theorem dX8_copy_26 : decode cX8_copy 26 = .ok (.iload_n 3, 1) := by decide +kernel
theorem dX8_copy_27 : decode cX8_copy 27 = .ok (.sipush 289, 3) := by decide +kernel
theorem dX8_copy_30 : decode cX8_copy 30 = .ok (.if_icmp .ge 33, 3) := by decide +kernel
theorem dX8_copy_33 : decode cX8_copy 33 = .ok (.aload_n 0, 1) := by decide +kernel
theorem dX8_copy_34 : decode cX8_copy 34 = .ok (.getfield 16, 3) := by decide +kernel
theorem dX8_copy_37 : decode cX8_copy 37 = .ok (.sipush 289, 3) := by decide +kernel
theorem dX8_copy_40 : decode cX8_copy 40 = .ok (.iload_n 2, 1) := by decide +kernel
theorem dX8_copy_41 : decode cX8_copy 41 = .ok (.imul, 1) := by decide +kernel
theorem dX8_copy_42 : decode cX8_copy 42 = .ok (.iload_n 3, 1) := by decide +kernel
theorem dX8_copy_43 : decode cX8_copy 43 = .ok (.iadd, 1) := by decide +kernel
theorem dX8_copy_44 : decode cX8_copy 44 = .ok (.aload_n 0, 1) := by decide +kernel
theorem dX8_copy_45 : decode cX8_copy 45 = .ok (.getfield 16, 3) := by decide +kernel
theorem dX8_copy_48 : decode cX8_copy 48 = .ok (.sipush 289, 3) := by decide +kernel
theorem dX8_copy_51 : decode cX8_copy 51 = .ok (.iload_n 1, 1) := by decide +kernel
theorem dX8_copy_52 : decode cX8_copy 52 = .ok (.imul, 1) := by decide +kernel
theorem dX8_copy_53 : decode cX8_copy 53 = .ok (.iload_n 3, 1) := by decide +kernel
theorem dX8_copy_54 : decode cX8_copy 54 = .ok (.iadd, 1) := by decide +kernel
theorem dX8_copy_55 : decode cX8_copy 55 = .ok (.baload, 1) := by decide +kernel
theorem dX8_copy_56 : decode cX8_copy 56 = .ok (.bastore, 1) := by decide +kernel
theorem dX8_copy_57 : decode cX8_copy 57 = .ok (.iinc 3 1, 3) := by decide +kernel
theorem dX8_copy_60 : decode cX8_copy 60 = .ok (.goto (-34), 3) := by decide +kernel
theorem dX8_copy_63 : decode cX8_copy 63 = .ok (.return_, 1) := by decide +kernel
theorem dX8_plain_0 : decode cX8_plain 0 = .ok (.aload_n 0, 1) := by decide +kernel
theorem dX8_plain_1 : decode cX8_plain 1 = .ok (.getfield 7, 3) := by decide +kernel
theorem dX8_plain_4 : decode cX8_plain 4 = .ok (.iload_n 1, 1) := by decide +kernel
theorem dX8_plain_5 : decode cX8_plain 5 = .ok (.iload_n 2, 1) := by decide +kernel
theorem dX8_plain_6 : decode cX8_plain 6 = .ok (.iastore, 1) := by decide +kernel
theorem dX8_plain_7 : decode cX8_plain 7 = .ok (.aload_n 0, 1) := by decide +kernel
theorem dX8_plain_8 : decode cX8_plain 8 = .ok (.getfield 13, 3) := by decide +kernel
theorem dX8_plain_11 : decode cX8_plain 11 = .ok (.iload_n 1, 1) := by decide +kernel
theorem dX8_plain_12 : decode cX8_plain 12 = .ok (.iload_n 3, 1) := by decide +kernel
theorem dX8_plain_13 : decode cX8_plain 13 = .ok (.iastore, 1) := by decide +kernel
theorem dX8_plain_14 : decode cX8_plain 14 = .ok (.iconst 0, 1) := by decide +kernel
theorem dX8_plain_15 : decode cX8_plain 15 = .ok (.istore 4, 2) := by decide +kernel
theorem dX8_plain_17 : decode cX8_plain 17 = .ok (.iload 4, 2) := by decide +kernel
theorem dX8_plain_19 : decode cX8_plain 19 = .ok (.sipush 289, 3) := by decide +kernel
theorem dX8_plain_22 : decode cX8_plain 22 = .ok (.if_icmp .ge 23, 3) := by decide +kernel
theorem dX8_plain_25 : decode cX8_plain 25 = .ok (.aload_n 0, 1) := by decide +kernel
theorem dX8_plain_26 : decode cX8_plain 26 = .ok (.getfield 16, 3) := by decide +kernel
theorem dX8_plain_29 : decode cX8_plain 29 = .ok (.sipush 289, 3) := by decide +kernel
theorem dX8_plain_32 : decode cX8_plain 32 = .ok (.iload_n 1, 1) := by decide +kernel
theorem dX8_plain_33 : decode cX8_plain 33 = .ok (.imul, 1) := by decide +kernel
theorem dX8_plain_34 : decode cX8_plain 34 = .ok (.iload 4, 2) := by decide +kernel
theorem dX8_plain_36 : decode cX8_plain 36 = .ok (.iadd, 1) := by decide +kernel
theorem dX8_plain_37 : decode cX8_plain 37 = .ok (.iconst 0, 1) := by decide +kernel
theorem dX8_plain_38 : decode cX8_plain 38 = .ok (.bastore, 1) := by decide +kernel
theorem dX8_plain_39 : decode cX8_plain 39 = .ok (.iinc 4 1, 3) := by decide +kernel
theorem dX8_plain_42 : decode cX8_plain 42 = .ok (.goto (-25), 3) := by decide +kernel
theorem dX8_plain_45 : decode cX8_plain 45 = .ok (.return_, 1) := by decide +kernel
theorem dX8_lay_0 : decode cX8_lay 0 = .ok (.iconst 0, 1) := by decide +kernel
theorem dX8_lay_1 : decode cX8_lay 1 = .ok (.istore 5, 2) := by decide +kernel
theorem dX8_lay_3 : decode cX8_lay 3 = .ok (.iload 5, 2) := by decide +kernel
theorem dX8_lay_5 : decode cX8_lay 5 = .ok (.iconst 2, 1) := by decide +kernel
theorem dX8_lay_6 : decode cX8_lay 6 = .ok (.aload_n 0, 1) := by decide +kernel
theorem dX8_lay_7 : decode cX8_lay 7 = .ok (.getfield 13, 3) := by decide +kernel
theorem dX8_lay_10 : decode cX8_lay 10 = .ok (.iload_n 1, 1) := by decide +kernel
theorem dX8_lay_11 : decode cX8_lay 11 = .ok (.iaload, 1) := by decide +kernel
theorem dX8_lay_12 : decode cX8_lay 12 = .ok (.imul, 1) := by decide +kernel
theorem dX8_lay_13 : decode cX8_lay 13 = .ok (.if_icmp .gt 78, 3) := by decide +kernel
theorem dX8_lay_16 : decode cX8_lay 16 = .ok (.iconst 0, 1) := by decide +kernel
theorem dX8_lay_17 : decode cX8_lay 17 = .ok (.istore 6, 2) := by decide +kernel
theorem dX8_lay_19 : decode cX8_lay 19 = .ok (.iload 6, 2) := by decide +kernel
theorem dX8_lay_21 : decode cX8_lay 21 = .ok (.iconst 2, 1) := by decide +kernel
theorem dX8_lay_22 : decode cX8_lay 22 = .ok (.aload_n 0, 1) := by decide +kernel
theorem dX8_lay_23 : decode cX8_lay 23 = .ok (.getfield 7, 3) := by decide +kernel
theorem dX8_lay_26 : decode cX8_lay 26 = .ok (.iload_n 1, 1) := by decide +kernel
theorem dX8_lay_27 : decode cX8_lay 27 = .ok (.iaload, 1) := by decide +kernel
theorem dX8_lay_28 : decode cX8_lay 28 = .ok (.imul, 1) := by decide +kernel
theorem dX8_lay_29 : decode cX8_lay 29 = .ok (.if_icmp .gt 56, 3) := by decide +kernel
theorem dX8_lay_32 : decode cX8_lay 32 = .ok (.aload_n 0, 1) := by decide +kernel
theorem dX8_lay_33 : decode cX8_lay 33 = .ok (.getfield 16, 3) := by decide +kernel
theorem dX8_lay_36 : decode cX8_lay 36 = .ok (.iload_n 1, 1) := by decide +kernel
theorem dX8_lay_37 : decode cX8_lay 37 = .ok (.iload 6, 2) := by decide +kernel
theorem dX8_lay_39 : decode cX8_lay 39 = .ok (.iload 5, 2) := by decide +kernel
theorem dX8_lay_41 : decode cX8_lay 41 = .ok (.invokestatic 77, 3) := by decide +kernel
theorem dX8_lay_44 : decode cX8_lay 44 = .ok (.baload, 1) := by decide +kernel
theorem dX8_lay_45 : decode cX8_lay 45 = .ok (.ifCond .eq 34, 3) := by decide +kernel
theorem dX8_lay_48 : decode cX8_lay 48 = .ok (.aload_n 0, 1) := by decide +kernel
theorem dX8_lay_49 : decode cX8_lay 49 = .ok (.getfield 16, 3) := by decide +kernel
theorem dX8_lay_52 : decode cX8_lay 52 = .ok (.iload_n 2, 1) := by decide +kernel
theorem dX8_lay_53 : decode cX8_lay 53 = .ok (.iload 6, 2) := by decide +kernel
theorem dX8_lay_55 : decode cX8_lay 55 = .ok (.iload_n 3, 1) := by decide +kernel
theorem dX8_lay_56 : decode cX8_lay 56 = .ok (.iadd, 1) := by decide +kernel
theorem dX8_lay_57 : decode cX8_lay 57 = .ok (.iload 5, 2) := by decide +kernel
theorem dX8_lay_59 : decode cX8_lay 59 = .ok (.iload 4, 2) := by decide +kernel
theorem dX8_lay_61 : decode cX8_lay 61 = .ok (.iadd, 1) := by decide +kernel
theorem dX8_lay_62 : decode cX8_lay 62 = .ok (.invokestatic 77, 3) := by decide +kernel
theorem dX8_lay_65 : decode cX8_lay 65 = .ok (.aload_n 0, 1) := by decide +kernel
theorem dX8_lay_66 : decode cX8_lay 66 = .ok (.getfield 16, 3) := by decide +kernel
theorem dX8_lay_69 : decode cX8_lay 69 = .ok (.iload_n 1, 1) := by decide +kernel
theorem dX8_lay_70 : decode cX8_lay 70 = .ok (.iload 6, 2) := by decide +kernel
theorem dX8_lay_72 : decode cX8_lay 72 = .ok (.iload 5, 2) := by decide +kernel
theorem dX8_lay_74 : decode cX8_lay 74 = .ok (.invokestatic 77, 3) := by decide +kernel
theorem dX8_lay_77 : decode cX8_lay 77 = .ok (.baload, 1) := by decide +kernel
theorem dX8_lay_78 : decode cX8_lay 78 = .ok (.bastore, 1) := by decide +kernel
theorem dX8_lay_79 : decode cX8_lay 79 = .ok (.iinc 6 1, 3) := by decide +kernel
theorem dX8_lay_82 : decode cX8_lay 82 = .ok (.goto (-63), 3) := by decide +kernel
theorem dX8_lay_85 : decode cX8_lay 85 = .ok (.iinc 5 1, 3) := by decide +kernel
theorem dX8_lay_88 : decode cX8_lay 88 = .ok (.goto (-85), 3) := by decide +kernel
theorem dX8_lay_91 : decode cX8_lay 91 = .ok (.return_, 1) := by decide +kernel
theorem dX8_turn_0 : decode cX8_turn 0 = .ok (.aload_n 0, 1) := by decide +kernel
theorem dX8_turn_1 : decode cX8_turn 1 = .ok (.iload_n 1, 1) := by decide +kernel
theorem dX8_turn_2 : decode cX8_turn 2 = .ok (.bipush 19, 2) := by decide +kernel
theorem dX8_turn_4 : decode cX8_turn 4 = .ok (.invokevirtual 128, 3) := by decide +kernel
theorem dX8_turn_7 : decode cX8_turn 7 = .ok (.aload_n 0, 1) := by decide +kernel
theorem dX8_turn_8 : decode cX8_turn 8 = .ok (.iload_n 1, 1) := by decide +kernel
theorem dX8_turn_9 : decode cX8_turn 9 = .ok (.aload_n 0, 1) := by decide +kernel
theorem dX8_turn_10 : decode cX8_turn 10 = .ok (.getfield 13, 3) := by decide +kernel
theorem dX8_turn_13 : decode cX8_turn 13 = .ok (.bipush 19, 2) := by decide +kernel
theorem dX8_turn_15 : decode cX8_turn 15 = .ok (.iaload, 1) := by decide +kernel
theorem dX8_turn_16 : decode cX8_turn 16 = .ok (.aload_n 0, 1) := by decide +kernel
theorem dX8_turn_17 : decode cX8_turn 17 = .ok (.getfield 7, 3) := by decide +kernel
theorem dX8_turn_20 : decode cX8_turn 20 = .ok (.bipush 19, 2) := by decide +kernel
theorem dX8_turn_22 : decode cX8_turn 22 = .ok (.iaload, 1) := by decide +kernel
theorem dX8_turn_23 : decode cX8_turn 23 = .ok (.invokevirtual 132, 3) := by decide +kernel
theorem dX8_turn_26 : decode cX8_turn 26 = .ok (.iconst 0, 1) := by decide +kernel
theorem dX8_turn_27 : decode cX8_turn 27 = .ok (.istore_n 2, 1) := by decide +kernel
theorem dX8_turn_28 : decode cX8_turn 28 = .ok (.iload_n 2, 1) := by decide +kernel
theorem dX8_turn_29 : decode cX8_turn 29 = .ok (.iconst 2, 1) := by decide +kernel
theorem dX8_turn_30 : decode cX8_turn 30 = .ok (.aload_n 0, 1) := by decide +kernel
theorem dX8_turn_31 : decode cX8_turn 31 = .ok (.getfield 13, 3) := by decide +kernel
theorem dX8_turn_34 : decode cX8_turn 34 = .ok (.bipush 19, 2) := by decide +kernel
theorem dX8_turn_36 : decode cX8_turn 36 = .ok (.iaload, 1) := by decide +kernel
theorem dX8_turn_37 : decode cX8_turn 37 = .ok (.imul, 1) := by decide +kernel
theorem dX8_turn_38 : decode cX8_turn 38 = .ok (.if_icmp .gt 79, 3) := by decide +kernel
theorem dX8_turn_41 : decode cX8_turn 41 = .ok (.iconst 0, 1) := by decide +kernel
theorem dX8_turn_42 : decode cX8_turn 42 = .ok (.istore_n 3, 1) := by decide +kernel
theorem dX8_turn_43 : decode cX8_turn 43 = .ok (.iload_n 3, 1) := by decide +kernel
theorem dX8_turn_44 : decode cX8_turn 44 = .ok (.iconst 2, 1) := by decide +kernel
theorem dX8_turn_45 : decode cX8_turn 45 = .ok (.aload_n 0, 1) := by decide +kernel
theorem dX8_turn_46 : decode cX8_turn 46 = .ok (.getfield 7, 3) := by decide +kernel
theorem dX8_turn_49 : decode cX8_turn 49 = .ok (.bipush 19, 2) := by decide +kernel
theorem dX8_turn_51 : decode cX8_turn 51 = .ok (.iaload, 1) := by decide +kernel
theorem dX8_turn_52 : decode cX8_turn 52 = .ok (.imul, 1) := by decide +kernel
theorem dX8_turn_53 : decode cX8_turn 53 = .ok (.if_icmp .gt 58, 3) := by decide +kernel
theorem dX8_turn_56 : decode cX8_turn 56 = .ok (.aload_n 0, 1) := by decide +kernel
theorem dX8_turn_57 : decode cX8_turn 57 = .ok (.getfield 16, 3) := by decide +kernel
theorem dX8_turn_60 : decode cX8_turn 60 = .ok (.bipush 19, 2) := by decide +kernel
theorem dX8_turn_62 : decode cX8_turn 62 = .ok (.iload_n 3, 1) := by decide +kernel
theorem dX8_turn_63 : decode cX8_turn 63 = .ok (.iload_n 2, 1) := by decide +kernel
theorem dX8_turn_64 : decode cX8_turn 64 = .ok (.invokestatic 77, 3) := by decide +kernel
theorem dX8_turn_67 : decode cX8_turn 67 = .ok (.baload, 1) := by decide +kernel
theorem dX8_turn_68 : decode cX8_turn 68 = .ok (.istore 4, 2) := by decide +kernel
theorem dX8_turn_70 : decode cX8_turn 70 = .ok (.aload_n 0, 1) := by decide +kernel
theorem dX8_turn_71 : decode cX8_turn 71 = .ok (.getfield 16, 3) := by decide +kernel
theorem dX8_turn_74 : decode cX8_turn 74 = .ok (.iload_n 1, 1) := by decide +kernel
theorem dX8_turn_75 : decode cX8_turn 75 = .ok (.iconst 2, 1) := by decide +kernel
theorem dX8_turn_76 : decode cX8_turn 76 = .ok (.aload_n 0, 1) := by decide +kernel
theorem dX8_turn_77 : decode cX8_turn 77 = .ok (.getfield 13, 3) := by decide +kernel
theorem dX8_turn_80 : decode cX8_turn 80 = .ok (.bipush 19, 2) := by decide +kernel
theorem dX8_turn_82 : decode cX8_turn 82 = .ok (.iaload, 1) := by decide +kernel
theorem dX8_turn_83 : decode cX8_turn 83 = .ok (.imul, 1) := by decide +kernel
theorem dX8_turn_84 : decode cX8_turn 84 = .ok (.iload_n 2, 1) := by decide +kernel
theorem dX8_turn_85 : decode cX8_turn 85 = .ok (.isub, 1) := by decide +kernel
theorem dX8_turn_86 : decode cX8_turn 86 = .ok (.iload_n 3, 1) := by decide +kernel
theorem dX8_turn_87 : decode cX8_turn 87 = .ok (.invokestatic 77, 3) := by decide +kernel
theorem dX8_turn_90 : decode cX8_turn 90 = .ok (.iload 4, 2) := by decide +kernel
theorem dX8_turn_92 : decode cX8_turn 92 = .ok (.ifCond .ne 7, 3) := by decide +kernel
theorem dX8_turn_95 : decode cX8_turn 95 = .ok (.iconst 0, 1) := by decide +kernel
theorem dX8_turn_96 : decode cX8_turn 96 = .ok (.goto 7, 3) := by decide +kernel
theorem dX8_turn_99 : decode cX8_turn 99 = .ok (.iconst 3, 1) := by decide +kernel
theorem dX8_turn_100 : decode cX8_turn 100 = .ok (.iload 4, 2) := by decide +kernel
theorem dX8_turn_102 : decode cX8_turn 102 = .ok (.isub, 1) := by decide +kernel
theorem dX8_turn_103 : decode cX8_turn 103 = .ok (.i2b, 1) := by decide +kernel
theorem dX8_turn_104 : decode cX8_turn 104 = .ok (.bastore, 1) := by decide +kernel
theorem dX8_turn_105 : decode cX8_turn 105 = .ok (.iinc 3 1, 3) := by decide +kernel
theorem dX8_turn_108 : decode cX8_turn 108 = .ok (.goto (-65), 3) := by decide +kernel
theorem dX8_turn_111 : decode cX8_turn 111 = .ok (.iinc 2 1, 3) := by decide +kernel
theorem dX8_turn_114 : decode cX8_turn 114 = .ok (.goto (-86), 3) := by decide +kernel
theorem dX8_turn_117 : decode cX8_turn 117 = .ok (.return_, 1) := by decide +kernel
theorem dX8_flip_0 : decode cX8_flip 0 = .ok (.aload_n 0, 1) := by decide +kernel
theorem dX8_flip_1 : decode cX8_flip 1 = .ok (.iload_n 1, 1) := by decide +kernel
theorem dX8_flip_2 : decode cX8_flip 2 = .ok (.bipush 19, 2) := by decide +kernel
theorem dX8_flip_4 : decode cX8_flip 4 = .ok (.invokevirtual 128, 3) := by decide +kernel
theorem dX8_flip_7 : decode cX8_flip 7 = .ok (.iconst 0, 1) := by decide +kernel
theorem dX8_flip_8 : decode cX8_flip 8 = .ok (.istore_n 2, 1) := by decide +kernel
theorem dX8_flip_9 : decode cX8_flip 9 = .ok (.iload_n 2, 1) := by decide +kernel
theorem dX8_flip_10 : decode cX8_flip 10 = .ok (.iconst 2, 1) := by decide +kernel
theorem dX8_flip_11 : decode cX8_flip 11 = .ok (.aload_n 0, 1) := by decide +kernel
theorem dX8_flip_12 : decode cX8_flip 12 = .ok (.getfield 13, 3) := by decide +kernel
theorem dX8_flip_15 : decode cX8_flip 15 = .ok (.bipush 19, 2) := by decide +kernel
theorem dX8_flip_17 : decode cX8_flip 17 = .ok (.iaload, 1) := by decide +kernel
theorem dX8_flip_18 : decode cX8_flip 18 = .ok (.imul, 1) := by decide +kernel
theorem dX8_flip_19 : decode cX8_flip 19 = .ok (.if_icmp .gt 63, 3) := by decide +kernel
theorem dX8_flip_22 : decode cX8_flip 22 = .ok (.iconst 0, 1) := by decide +kernel
theorem dX8_flip_23 : decode cX8_flip 23 = .ok (.istore_n 3, 1) := by decide +kernel
theorem dX8_flip_24 : decode cX8_flip 24 = .ok (.iload_n 3, 1) := by decide +kernel
theorem dX8_flip_25 : decode cX8_flip 25 = .ok (.iconst 2, 1) := by decide +kernel
theorem dX8_flip_26 : decode cX8_flip 26 = .ok (.aload_n 0, 1) := by decide +kernel
theorem dX8_flip_27 : decode cX8_flip 27 = .ok (.getfield 7, 3) := by decide +kernel
theorem dX8_flip_30 : decode cX8_flip 30 = .ok (.bipush 19, 2) := by decide +kernel
theorem dX8_flip_32 : decode cX8_flip 32 = .ok (.iaload, 1) := by decide +kernel
theorem dX8_flip_33 : decode cX8_flip 33 = .ok (.imul, 1) := by decide +kernel
theorem dX8_flip_34 : decode cX8_flip 34 = .ok (.if_icmp .gt 42, 3) := by decide +kernel
theorem dX8_flip_37 : decode cX8_flip 37 = .ok (.aload_n 0, 1) := by decide +kernel
theorem dX8_flip_38 : decode cX8_flip 38 = .ok (.getfield 16, 3) := by decide +kernel
theorem dX8_flip_41 : decode cX8_flip 41 = .ok (.iload_n 1, 1) := by decide +kernel
theorem dX8_flip_42 : decode cX8_flip 42 = .ok (.iconst 2, 1) := by decide +kernel
theorem dX8_flip_43 : decode cX8_flip 43 = .ok (.aload_n 0, 1) := by decide +kernel
theorem dX8_flip_44 : decode cX8_flip 44 = .ok (.getfield 7, 3) := by decide +kernel
theorem dX8_flip_47 : decode cX8_flip 47 = .ok (.bipush 19, 2) := by decide +kernel
theorem dX8_flip_49 : decode cX8_flip 49 = .ok (.iaload, 1) := by decide +kernel
theorem dX8_flip_50 : decode cX8_flip 50 = .ok (.imul, 1) := by decide +kernel
theorem dX8_flip_51 : decode cX8_flip 51 = .ok (.iload_n 3, 1) := by decide +kernel
theorem dX8_flip_52 : decode cX8_flip 52 = .ok (.isub, 1) := by decide +kernel
theorem dX8_flip_53 : decode cX8_flip 53 = .ok (.iload_n 2, 1) := by decide +kernel
theorem dX8_flip_54 : decode cX8_flip 54 = .ok (.invokestatic 77, 3) := by decide +kernel
theorem dX8_flip_57 : decode cX8_flip 57 = .ok (.aload_n 0, 1) := by decide +kernel
theorem dX8_flip_58 : decode cX8_flip 58 = .ok (.getfield 16, 3) := by decide +kernel
theorem dX8_flip_61 : decode cX8_flip 61 = .ok (.bipush 19, 2) := by decide +kernel
theorem dX8_flip_63 : decode cX8_flip 63 = .ok (.iload_n 3, 1) := by decide +kernel
theorem dX8_flip_64 : decode cX8_flip 64 = .ok (.iload_n 2, 1) := by decide +kernel
theorem dX8_flip_65 : decode cX8_flip 65 = .ok (.invokestatic 77, 3) := by decide +kernel
theorem dX8_flip_68 : decode cX8_flip 68 = .ok (.baload, 1) := by decide +kernel
theorem dX8_flip_69 : decode cX8_flip 69 = .ok (.bastore, 1) := by decide +kernel
theorem dX8_flip_70 : decode cX8_flip 70 = .ok (.iinc 3 1, 3) := by decide +kernel
theorem dX8_flip_73 : decode cX8_flip 73 = .ok (.goto (-49), 3) := by decide +kernel
theorem dX8_flip_76 : decode cX8_flip 76 = .ok (.iinc 2 1, 3) := by decide +kernel
theorem dX8_flip_79 : decode cX8_flip 79 = .ok (.goto (-70), 3) := by decide +kernel
theorem dX8_flip_82 : decode cX8_flip 82 = .ok (.return_, 1) := by decide +kernel
theorem dX8_see_0 : decode cX8_see 0 = .ok (.iload_n 1, 1) := by decide +kernel
theorem dX8_see_1 : decode cX8_see 1 = .ok (.aload_n 0, 1) := by decide +kernel
theorem dX8_see_2 : decode cX8_see 2 = .ok (.getfield 121, 3) := by decide +kernel
theorem dX8_see_5 : decode cX8_see 5 = .ok (.if_icmp .ge 12, 3) := by decide +kernel
theorem dX8_see_8 : decode cX8_see 8 = .ok (.aload_n 0, 1) := by decide +kernel
theorem dX8_see_9 : decode cX8_see 9 = .ok (.getfield 42, 3) := by decide +kernel
theorem dX8_see_12 : decode cX8_see 12 = .ok (.iload_n 1, 1) := by decide +kernel
theorem dX8_see_13 : decode cX8_see 13 = .ok (.iaload, 1) := by decide +kernel
theorem dX8_see_14 : decode cX8_see 14 = .ok (.goto 4, 3) := by decide +kernel
theorem dX8_see_17 : decode cX8_see 17 = .ok (.iconst (-1), 1) := by decide +kernel
theorem dX8_see_18 : decode cX8_see 18 = .ok (.ireturn, 1) := by decide +kernel
theorem dX8_isDigit_0 : decode cX8_isDigit 0 = .ok (.iload_n 0, 1) := by decide +kernel
theorem dX8_isDigit_1 : decode cX8_isDigit 1 = .ok (.bipush 48, 2) := by decide +kernel
theorem dX8_isDigit_3 : decode cX8_isDigit 3 = .ok (.bipush 57, 2) := by decide +kernel
theorem dX8_isDigit_5 : decode cX8_isDigit 5 = .ok (.invokestatic 70, 3) := by decide +kernel
theorem dX8_isDigit_8 : decode cX8_isDigit 8 = .ok (.ireturn, 1) := by decide +kernel
theorem dX8_add_0 : decode cX8_add 0 = .ok (.lload_n 0, 1) := by decide +kernel
theorem dX8_add_1 : decode cX8_add 1 = .ok (.bipush 8, 2) := by decide +kernel
theorem dX8_add_3 : decode cX8_add 3 = .ok (.lshl, 1) := by decide +kernel
theorem dX8_add_4 : decode cX8_add 4 = .ok (.iload_n 2, 1) := by decide +kernel
theorem dX8_add_5 : decode cX8_add 5 = .ok (.i2l, 1) := by decide +kernel
theorem dX8_add_6 : decode cX8_add 6 = .ok (.lor, 1) := by decide +kernel
theorem dX8_add_7 : decode cX8_add 7 = .ok (.bipush 8, 2) := by decide +kernel
theorem dX8_add_9 : decode cX8_add 9 = .ok (.lshl, 1) := by decide +kernel
theorem dX8_add_10 : decode cX8_add 10 = .ok (.iload_n 3, 1) := by decide +kernel
theorem dX8_add_11 : decode cX8_add 11 = .ok (.i2l, 1) := by decide +kernel
theorem dX8_add_12 : decode cX8_add 12 = .ok (.lor, 1) := by decide +kernel
theorem dX8_add_13 : decode cX8_add 13 = .ok (.lreturn, 1) := by decide +kernel
theorem dX8_wordOf_0 : decode cX8_wordOf 0 = .ok (.lload_n 0, 1) := by decide +kernel
theorem dX8_wordOf_1 : decode cX8_wordOf 1 = .ok (.ldc2_w 136, 3) := by decide +kernel
theorem dX8_wordOf_4 : decode cX8_wordOf 4 = .ok (.bipush 108, 2) := by decide +kernel
theorem dX8_wordOf_6 : decode cX8_wordOf 6 = .ok (.bipush 97, 2) := by decide +kernel
theorem dX8_wordOf_8 : decode cX8_wordOf 8 = .ok (.invokestatic 138, 3) := by decide +kernel
theorem dX8_wordOf_11 : decode cX8_wordOf 11 = .ok (.bipush 105, 2) := by decide +kernel
theorem dX8_wordOf_13 : decode cX8_wordOf 13 = .ok (.bipush 110, 2) := by decide +kernel
theorem dX8_wordOf_15 : decode cX8_wordOf 15 = .ok (.invokestatic 138, 3) := by decide +kernel
theorem dX8_wordOf_18 : decode cX8_wordOf 18 = .ok (.lcmp, 1) := by decide +kernel
theorem dX8_wordOf_19 : decode cX8_wordOf 19 = .ok (.ifCond .ne 5, 3) := by decide +kernel
theorem dX8_wordOf_22 : decode cX8_wordOf 22 = .ok (.iconst 3, 1) := by decide +kernel
theorem dX8_wordOf_23 : decode cX8_wordOf 23 = .ok (.ireturn, 1) := by decide +kernel
theorem dX8_wordOf_24 : decode cX8_wordOf 24 = .ok (.lload_n 0, 1) := by decide +kernel
theorem dX8_wordOf_25 : decode cX8_wordOf 25 = .ok (.lconst 0, 1) := by decide +kernel
theorem dX8_wordOf_26 : decode cX8_wordOf 26 = .ok (.bipush 107, 2) := by decide +kernel
theorem dX8_wordOf_28 : decode cX8_wordOf 28 = .ok (.bipush 101, 2) := by decide +kernel
theorem dX8_wordOf_30 : decode cX8_wordOf 30 = .ok (.invokestatic 138, 3) := by decide +kernel
theorem dX8_wordOf_33 : decode cX8_wordOf 33 = .ok (.bipush 112, 2) := by decide +kernel
theorem dX8_wordOf_35 : decode cX8_wordOf 35 = .ok (.bipush 116, 2) := by decide +kernel
theorem dX8_wordOf_37 : decode cX8_wordOf 37 = .ok (.invokestatic 138, 3) := by decide +kernel
theorem dX8_wordOf_40 : decode cX8_wordOf 40 = .ok (.lcmp, 1) := by decide +kernel
theorem dX8_wordOf_41 : decode cX8_wordOf 41 = .ok (.ifCond .ne 5, 3) := by decide +kernel
theorem dX8_wordOf_44 : decode cX8_wordOf 44 = .ok (.iconst 4, 1) := by decide +kernel
theorem dX8_wordOf_45 : decode cX8_wordOf 45 = .ok (.ireturn, 1) := by decide +kernel
theorem dX8_wordOf_46 : decode cX8_wordOf 46 = .ok (.lload_n 0, 1) := by decide +kernel
theorem dX8_wordOf_47 : decode cX8_wordOf 47 = .ok (.ldc2_w 142, 3) := by decide +kernel
theorem dX8_wordOf_50 : decode cX8_wordOf 50 = .ok (.bipush 101, 2) := by decide +kernel
theorem dX8_wordOf_52 : decode cX8_wordOf 52 = .ok (.bipush 116, 2) := by decide +kernel
theorem dX8_wordOf_54 : decode cX8_wordOf 54 = .ok (.invokestatic 138, 3) := by decide +kernel
theorem dX8_wordOf_57 : decode cX8_wordOf 57 = .ok (.lcmp, 1) := by decide +kernel
theorem dX8_wordOf_58 : decode cX8_wordOf 58 = .ok (.ifCond .ne 5, 3) := by decide +kernel
theorem dX8_wordOf_61 : decode cX8_wordOf 61 = .ok (.iconst 5, 1) := by decide +kernel
theorem dX8_wordOf_62 : decode cX8_wordOf 62 = .ok (.ireturn, 1) := by decide +kernel
theorem dX8_wordOf_63 : decode cX8_wordOf 63 = .ok (.lload_n 0, 1) := by decide +kernel
theorem dX8_wordOf_64 : decode cX8_wordOf 64 = .ok (.lconst 0, 1) := by decide +kernel
theorem dX8_wordOf_65 : decode cX8_wordOf 65 = .ok (.bipush 116, 2) := by decide +kernel
theorem dX8_wordOf_67 : decode cX8_wordOf 67 = .ok (.bipush 117, 2) := by decide +kernel
theorem dX8_wordOf_69 : decode cX8_wordOf 69 = .ok (.invokestatic 138, 3) := by decide +kernel
theorem dX8_wordOf_72 : decode cX8_wordOf 72 = .ok (.bipush 114, 2) := by decide +kernel
theorem dX8_wordOf_74 : decode cX8_wordOf 74 = .ok (.bipush 110, 2) := by decide +kernel
theorem dX8_wordOf_76 : decode cX8_wordOf 76 = .ok (.invokestatic 138, 3) := by decide +kernel
theorem dX8_wordOf_79 : decode cX8_wordOf 79 = .ok (.lcmp, 1) := by decide +kernel
theorem dX8_wordOf_80 : decode cX8_wordOf 80 = .ok (.ifCond .ne 6, 3) := by decide +kernel
theorem dX8_wordOf_83 : decode cX8_wordOf 83 = .ok (.bipush 6, 2) := by decide +kernel
theorem dX8_wordOf_85 : decode cX8_wordOf 85 = .ok (.ireturn, 1) := by decide +kernel
theorem dX8_wordOf_86 : decode cX8_wordOf 86 = .ok (.lload_n 0, 1) := by decide +kernel
theorem dX8_wordOf_87 : decode cX8_wordOf 87 = .ok (.lconst 0, 1) := by decide +kernel
theorem dX8_wordOf_88 : decode cX8_wordOf 88 = .ok (.bipush 102, 2) := by decide +kernel
theorem dX8_wordOf_90 : decode cX8_wordOf 90 = .ok (.bipush 108, 2) := by decide +kernel
theorem dX8_wordOf_92 : decode cX8_wordOf 92 = .ok (.invokestatic 138, 3) := by decide +kernel
theorem dX8_wordOf_95 : decode cX8_wordOf 95 = .ok (.bipush 105, 2) := by decide +kernel
theorem dX8_wordOf_97 : decode cX8_wordOf 97 = .ok (.bipush 112, 2) := by decide +kernel
theorem dX8_wordOf_99 : decode cX8_wordOf 99 = .ok (.invokestatic 138, 3) := by decide +kernel
theorem dX8_wordOf_102 : decode cX8_wordOf 102 = .ok (.lcmp, 1) := by decide +kernel
theorem dX8_wordOf_103 : decode cX8_wordOf 103 = .ok (.ifCond .ne 6, 3) := by decide +kernel
theorem dX8_wordOf_106 : decode cX8_wordOf 106 = .ok (.bipush 7, 2) := by decide +kernel
theorem dX8_wordOf_108 : decode cX8_wordOf 108 = .ok (.ireturn, 1) := by decide +kernel
theorem dX8_wordOf_109 : decode cX8_wordOf 109 = .ok (.lload_n 0, 1) := by decide +kernel
theorem dX8_wordOf_110 : decode cX8_wordOf 110 = .ok (.ldc2_w 144, 3) := by decide +kernel
theorem dX8_wordOf_113 : decode cX8_wordOf 113 = .ok (.bipush 111, 2) := by decide +kernel
theorem dX8_wordOf_115 : decode cX8_wordOf 115 = .ok (.bipush 119, 2) := by decide +kernel
theorem dX8_wordOf_117 : decode cX8_wordOf 117 = .ok (.invokestatic 138, 3) := by decide +kernel
theorem dX8_wordOf_120 : decode cX8_wordOf 120 = .ok (.lcmp, 1) := by decide +kernel
theorem dX8_wordOf_121 : decode cX8_wordOf 121 = .ok (.ifCond .ne 6, 3) := by decide +kernel
theorem dX8_wordOf_124 : decode cX8_wordOf 124 = .ok (.bipush 8, 2) := by decide +kernel
theorem dX8_wordOf_126 : decode cX8_wordOf 126 = .ok (.ireturn, 1) := by decide +kernel
theorem dX8_wordOf_127 : decode cX8_wordOf 127 = .ok (.lload_n 0, 1) := by decide +kernel
theorem dX8_wordOf_128 : decode cX8_wordOf 128 = .ok (.lconst 0, 1) := by decide +kernel
theorem dX8_wordOf_129 : decode cX8_wordOf 129 = .ok (.bipush 98, 2) := by decide +kernel
theorem dX8_wordOf_131 : decode cX8_wordOf 131 = .ok (.bipush 101, 2) := by decide +kernel
theorem dX8_wordOf_133 : decode cX8_wordOf 133 = .ok (.invokestatic 138, 3) := by decide +kernel
theorem dX8_wordOf_136 : decode cX8_wordOf 136 = .ok (.bipush 115, 2) := by decide +kernel
theorem dX8_wordOf_138 : decode cX8_wordOf 138 = .ok (.bipush 105, 2) := by decide +kernel
theorem dX8_wordOf_140 : decode cX8_wordOf 140 = .ok (.invokestatic 138, 3) := by decide +kernel
theorem dX8_wordOf_143 : decode cX8_wordOf 143 = .ok (.bipush 100, 2) := by decide +kernel
theorem dX8_wordOf_145 : decode cX8_wordOf 145 = .ok (.bipush 101, 2) := by decide +kernel
theorem dX8_wordOf_147 : decode cX8_wordOf 147 = .ok (.invokestatic 138, 3) := by decide +kernel
theorem dX8_wordOf_150 : decode cX8_wordOf 150 = .ok (.lcmp, 1) := by decide +kernel
theorem dX8_wordOf_151 : decode cX8_wordOf 151 = .ok (.ifCond .ne 6, 3) := by decide +kernel
theorem dX8_wordOf_154 : decode cX8_wordOf 154 = .ok (.bipush 9, 2) := by decide +kernel
theorem dX8_wordOf_156 : decode cX8_wordOf 156 = .ok (.ireturn, 1) := by decide +kernel
theorem dX8_wordOf_157 : decode cX8_wordOf 157 = .ok (.lload_n 0, 1) := by decide +kernel
theorem dX8_wordOf_158 : decode cX8_wordOf 158 = .ok (.ldc2_w 146, 3) := by decide +kernel
theorem dX8_wordOf_161 : decode cX8_wordOf 161 = .ok (.bipush 98, 2) := by decide +kernel
theorem dX8_wordOf_163 : decode cX8_wordOf 163 = .ok (.bipush 111, 2) := by decide +kernel
theorem dX8_wordOf_165 : decode cX8_wordOf 165 = .ok (.invokestatic 138, 3) := by decide +kernel
theorem dX8_wordOf_168 : decode cX8_wordOf 168 = .ok (.bipush 118, 2) := by decide +kernel
theorem dX8_wordOf_170 : decode cX8_wordOf 170 = .ok (.bipush 101, 2) := by decide +kernel
theorem dX8_wordOf_172 : decode cX8_wordOf 172 = .ok (.invokestatic 138, 3) := by decide +kernel
theorem dX8_wordOf_175 : decode cX8_wordOf 175 = .ok (.lcmp, 1) := by decide +kernel
theorem dX8_wordOf_176 : decode cX8_wordOf 176 = .ok (.ifCond .ne 6, 3) := by decide +kernel
theorem dX8_wordOf_179 : decode cX8_wordOf 179 = .ok (.bipush 10, 2) := by decide +kernel
theorem dX8_wordOf_181 : decode cX8_wordOf 181 = .ok (.ireturn, 1) := by decide +kernel
theorem dX8_wordOf_182 : decode cX8_wordOf 182 = .ok (.lload_n 0, 1) := by decide +kernel
theorem dX8_wordOf_183 : decode cX8_wordOf 183 = .ok (.lconst 0, 1) := by decide +kernel
theorem dX8_wordOf_184 : decode cX8_wordOf 184 = .ok (.bipush 111, 2) := by decide +kernel
theorem dX8_wordOf_186 : decode cX8_wordOf 186 = .ok (.bipush 118, 2) := by decide +kernel
theorem dX8_wordOf_188 : decode cX8_wordOf 188 = .ok (.invokestatic 138, 3) := by decide +kernel
theorem dX8_wordOf_191 : decode cX8_wordOf 191 = .ok (.bipush 101, 2) := by decide +kernel
theorem dX8_wordOf_193 : decode cX8_wordOf 193 = .ok (.bipush 114, 2) := by decide +kernel
theorem dX8_wordOf_195 : decode cX8_wordOf 195 = .ok (.invokestatic 138, 3) := by decide +kernel
theorem dX8_wordOf_198 : decode cX8_wordOf 198 = .ok (.lcmp, 1) := by decide +kernel
theorem dX8_wordOf_199 : decode cX8_wordOf 199 = .ok (.ifCond .ne 8, 3) := by decide +kernel
theorem dX8_wordOf_202 : decode cX8_wordOf 202 = .ok (.bipush 11, 2) := by decide +kernel
theorem dX8_wordOf_204 : decode cX8_wordOf 204 = .ok (.goto 4, 3) := by decide +kernel
theorem dX8_wordOf_207 : decode cX8_wordOf 207 = .ok (.iconst 2, 1) := by decide +kernel
theorem dX8_wordOf_208 : decode cX8_wordOf 208 = .ok (.ireturn, 1) := by decide +kernel
theorem dX8_nextToken_0 : decode cX8_nextToken 0 = .ok (.aload_n 0, 1) := by decide +kernel
theorem dX8_nextToken_1 : decode cX8_nextToken 1 = .ok (.aload_n 0, 1) := by decide +kernel
theorem dX8_nextToken_2 : decode cX8_nextToken 2 = .ok (.getfield 148, 3) := by decide +kernel
theorem dX8_nextToken_5 : decode cX8_nextToken 5 = .ok (.invokevirtual 151, 3) := by decide +kernel
theorem dX8_nextToken_8 : decode cX8_nextToken 8 = .ok (.bipush 32, 2) := by decide +kernel
theorem dX8_nextToken_10 : decode cX8_nextToken 10 = .ok (.if_icmp .eq 16, 3) := by decide +kernel
theorem dX8_nextToken_13 : decode cX8_nextToken 13 = .ok (.aload_n 0, 1) := by decide +kernel
theorem dX8_nextToken_14 : decode cX8_nextToken 14 = .ok (.aload_n 0, 1) := by decide +kernel
theorem dX8_nextToken_15 : decode cX8_nextToken 15 = .ok (.getfield 148, 3) := by decide +kernel
theorem dX8_nextToken_18 : decode cX8_nextToken 18 = .ok (.invokevirtual 151, 3) := by decide +kernel
theorem dX8_nextToken_21 : decode cX8_nextToken 21 = .ok (.bipush 10, 2) := by decide +kernel
theorem dX8_nextToken_23 : decode cX8_nextToken 23 = .ok (.if_icmp .ne 16, 3) := by decide +kernel
theorem dX8_nextToken_26 : decode cX8_nextToken 26 = .ok (.aload_n 0, 1) := by decide +kernel
theorem dX8_nextToken_27 : decode cX8_nextToken 27 = .ok (.dup, 1) := by decide +kernel
theorem dX8_nextToken_28 : decode cX8_nextToken 28 = .ok (.getfield 148, 3) := by decide +kernel
theorem dX8_nextToken_31 : decode cX8_nextToken 31 = .ok (.iconst 1, 1) := by decide +kernel
theorem dX8_nextToken_32 : decode cX8_nextToken 32 = .ok (.iadd, 1) := by decide +kernel
theorem dX8_nextToken_33 : decode cX8_nextToken 33 = .ok (.putfield 148, 3) := by decide +kernel
theorem dX8_nextToken_36 : decode cX8_nextToken 36 = .ok (.goto (-36), 3) := by decide +kernel
theorem dX8_nextToken_39 : decode cX8_nextToken 39 = .ok (.aload_n 0, 1) := by decide +kernel
theorem dX8_nextToken_40 : decode cX8_nextToken 40 = .ok (.aload_n 0, 1) := by decide +kernel
theorem dX8_nextToken_41 : decode cX8_nextToken 41 = .ok (.getfield 148, 3) := by decide +kernel
theorem dX8_nextToken_44 : decode cX8_nextToken 44 = .ok (.putfield 154, 3) := by decide +kernel
theorem dX8_nextToken_47 : decode cX8_nextToken 47 = .ok (.aload_n 0, 1) := by decide +kernel
theorem dX8_nextToken_48 : decode cX8_nextToken 48 = .ok (.aload_n 0, 1) := by decide +kernel
theorem dX8_nextToken_49 : decode cX8_nextToken 49 = .ok (.getfield 148, 3) := by decide +kernel
theorem dX8_nextToken_52 : decode cX8_nextToken 52 = .ok (.invokevirtual 151, 3) := by decide +kernel
theorem dX8_nextToken_55 : decode cX8_nextToken 55 = .ok (.istore_n 1, 1) := by decide +kernel
theorem dX8_nextToken_56 : decode cX8_nextToken 56 = .ok (.iload_n 1, 1) := by decide +kernel
theorem dX8_nextToken_57 : decode cX8_nextToken 57 = .ok (.ifCond .ge 11, 3) := by decide +kernel
theorem dX8_nextToken_60 : decode cX8_nextToken 60 = .ok (.aload_n 0, 1) := by decide +kernel
theorem dX8_nextToken_61 : decode cX8_nextToken 61 = .ok (.iconst 0, 1) := by decide +kernel
theorem dX8_nextToken_62 : decode cX8_nextToken 62 = .ok (.putfield 157, 3) := by decide +kernel
theorem dX8_nextToken_65 : decode cX8_nextToken 65 = .ok (.goto 197, 3) := by decide +kernel
theorem dX8_nextToken_68 : decode cX8_nextToken 68 = .ok (.iload_n 1, 1) := by decide +kernel
theorem dX8_nextToken_69 : decode cX8_nextToken 69 = .ok (.invokestatic 160, 3) := by decide +kernel
theorem dX8_nextToken_72 : decode cX8_nextToken 72 = .ok (.ifCond .eq 73, 3) := by decide +kernel
theorem dX8_nextToken_75 : decode cX8_nextToken 75 = .ok (.aload_n 0, 1) := by decide +kernel
theorem dX8_nextToken_76 : decode cX8_nextToken 76 = .ok (.iconst 1, 1) := by decide +kernel
theorem dX8_nextToken_77 : decode cX8_nextToken 77 = .ok (.putfield 157, 3) := by decide +kernel
theorem dX8_nextToken_80 : decode cX8_nextToken 80 = .ok (.aload_n 0, 1) := by decide +kernel
theorem dX8_nextToken_81 : decode cX8_nextToken 81 = .ok (.iconst 0, 1) := by decide +kernel
theorem dX8_nextToken_82 : decode cX8_nextToken 82 = .ok (.putfield 163, 3) := by decide +kernel
theorem dX8_nextToken_85 : decode cX8_nextToken 85 = .ok (.aload_n 0, 1) := by decide +kernel
theorem dX8_nextToken_86 : decode cX8_nextToken 86 = .ok (.aload_n 0, 1) := by decide +kernel
theorem dX8_nextToken_87 : decode cX8_nextToken 87 = .ok (.getfield 148, 3) := by decide +kernel
theorem dX8_nextToken_90 : decode cX8_nextToken 90 = .ok (.invokevirtual 151, 3) := by decide +kernel
theorem dX8_nextToken_93 : decode cX8_nextToken 93 = .ok (.invokestatic 160, 3) := by decide +kernel
theorem dX8_nextToken_96 : decode cX8_nextToken 96 = .ok (.ifCond .eq 166, 3) := by decide +kernel
theorem dX8_nextToken_99 : decode cX8_nextToken 99 = .ok (.aload_n 0, 1) := by decide +kernel
theorem dX8_nextToken_100 : decode cX8_nextToken 100 = .ok (.getfield 163, 3) := by decide +kernel
theorem dX8_nextToken_103 : decode cX8_nextToken 103 = .ok (.sipush 1000, 3) := by decide +kernel
theorem dX8_nextToken_106 : decode cX8_nextToken 106 = .ok (.if_icmp .ge 26, 3) := by decide +kernel
theorem dX8_nextToken_109 : decode cX8_nextToken 109 = .ok (.aload_n 0, 1) := by decide +kernel
theorem dX8_nextToken_110 : decode cX8_nextToken 110 = .ok (.bipush 10, 2) := by decide +kernel
theorem dX8_nextToken_112 : decode cX8_nextToken 112 = .ok (.aload_n 0, 1) := by decide +kernel
theorem dX8_nextToken_113 : decode cX8_nextToken 113 = .ok (.getfield 163, 3) := by decide +kernel
theorem dX8_nextToken_116 : decode cX8_nextToken 116 = .ok (.imul, 1) := by decide +kernel
theorem dX8_nextToken_117 : decode cX8_nextToken 117 = .ok (.aload_n 0, 1) := by decide +kernel
theorem dX8_nextToken_118 : decode cX8_nextToken 118 = .ok (.aload_n 0, 1) := by decide +kernel
theorem dX8_nextToken_119 : decode cX8_nextToken 119 = .ok (.getfield 148, 3) := by decide +kernel
theorem dX8_nextToken_122 : decode cX8_nextToken 122 = .ok (.invokevirtual 151, 3) := by decide +kernel
theorem dX8_nextToken_125 : decode cX8_nextToken 125 = .ok (.iadd, 1) := by decide +kernel
theorem dX8_nextToken_126 : decode cX8_nextToken 126 = .ok (.bipush 48, 2) := by decide +kernel
theorem dX8_nextToken_128 : decode cX8_nextToken 128 = .ok (.isub, 1) := by decide +kernel
theorem dX8_nextToken_129 : decode cX8_nextToken 129 = .ok (.putfield 163, 3) := by decide +kernel
theorem dX8_nextToken_132 : decode cX8_nextToken 132 = .ok (.aload_n 0, 1) := by decide +kernel
theorem dX8_nextToken_133 : decode cX8_nextToken 133 = .ok (.dup, 1) := by decide +kernel
theorem dX8_nextToken_134 : decode cX8_nextToken 134 = .ok (.getfield 148, 3) := by decide +kernel
theorem dX8_nextToken_137 : decode cX8_nextToken 137 = .ok (.iconst 1, 1) := by decide +kernel
theorem dX8_nextToken_138 : decode cX8_nextToken 138 = .ok (.iadd, 1) := by decide +kernel
theorem dX8_nextToken_139 : decode cX8_nextToken 139 = .ok (.putfield 148, 3) := by decide +kernel
theorem dX8_nextToken_142 : decode cX8_nextToken 142 = .ok (.goto (-57), 3) := by decide +kernel
theorem dX8_nextToken_145 : decode cX8_nextToken 145 = .ok (.iload_n 1, 1) := by decide +kernel
theorem dX8_nextToken_146 : decode cX8_nextToken 146 = .ok (.bipush 97, 2) := by decide +kernel
theorem dX8_nextToken_148 : decode cX8_nextToken 148 = .ok (.bipush 122, 2) := by decide +kernel
theorem dX8_nextToken_150 : decode cX8_nextToken 150 = .ok (.invokestatic 70, 3) := by decide +kernel
theorem dX8_nextToken_153 : decode cX8_nextToken 153 = .ok (.ifCond .eq 94, 3) := by decide +kernel
theorem dX8_nextToken_156 : decode cX8_nextToken 156 = .ok (.lconst 0, 1) := by decide +kernel
theorem dX8_nextToken_157 : decode cX8_nextToken 157 = .ok (.lstore_n 2, 1) := by decide +kernel
theorem dX8_nextToken_158 : decode cX8_nextToken 158 = .ok (.aload_n 0, 1) := by decide +kernel
theorem dX8_nextToken_159 : decode cX8_nextToken 159 = .ok (.aload_n 0, 1) := by decide +kernel
theorem dX8_nextToken_160 : decode cX8_nextToken 160 = .ok (.getfield 148, 3) := by decide +kernel
theorem dX8_nextToken_163 : decode cX8_nextToken 163 = .ok (.invokevirtual 151, 3) := by decide +kernel
theorem dX8_nextToken_166 : decode cX8_nextToken 166 = .ok (.bipush 97, 2) := by decide +kernel
theorem dX8_nextToken_168 : decode cX8_nextToken 168 = .ok (.bipush 122, 2) := by decide +kernel
theorem dX8_nextToken_170 : decode cX8_nextToken 170 = .ok (.invokestatic 70, 3) := by decide +kernel
theorem dX8_nextToken_173 : decode cX8_nextToken 173 = .ok (.ifCond .eq 45, 3) := by decide +kernel
theorem dX8_nextToken_176 : decode cX8_nextToken 176 = .ok (.aload_n 0, 1) := by decide +kernel
theorem dX8_nextToken_177 : decode cX8_nextToken 177 = .ok (.getfield 148, 3) := by decide +kernel
theorem dX8_nextToken_180 : decode cX8_nextToken 180 = .ok (.aload_n 0, 1) := by decide +kernel
theorem dX8_nextToken_181 : decode cX8_nextToken 181 = .ok (.getfield 154, 3) := by decide +kernel
theorem dX8_nextToken_184 : decode cX8_nextToken 184 = .ok (.isub, 1) := by decide +kernel
theorem dX8_nextToken_185 : decode cX8_nextToken 185 = .ok (.bipush 7, 2) := by decide +kernel
theorem dX8_nextToken_187 : decode cX8_nextToken 187 = .ok (.if_icmp .ge 18, 3) := by decide +kernel
theorem dX8_nextToken_190 : decode cX8_nextToken 190 = .ok (.lload_n 2, 1) := by decide +kernel
theorem dX8_nextToken_191 : decode cX8_nextToken 191 = .ok (.bipush 8, 2) := by decide +kernel
theorem dX8_nextToken_193 : decode cX8_nextToken 193 = .ok (.lshl, 1) := by decide +kernel
theorem dX8_nextToken_194 : decode cX8_nextToken 194 = .ok (.aload_n 0, 1) := by decide +kernel
theorem dX8_nextToken_195 : decode cX8_nextToken 195 = .ok (.aload_n 0, 1) := by decide +kernel
theorem dX8_nextToken_196 : decode cX8_nextToken 196 = .ok (.getfield 148, 3) := by decide +kernel
theorem dX8_nextToken_199 : decode cX8_nextToken 199 = .ok (.invokevirtual 151, 3) := by decide +kernel
theorem dX8_nextToken_202 : decode cX8_nextToken 202 = .ok (.i2l, 1) := by decide +kernel
theorem dX8_nextToken_203 : decode cX8_nextToken 203 = .ok (.lor, 1) := by decide +kernel
theorem dX8_nextToken_204 : decode cX8_nextToken 204 = .ok (.lstore_n 2, 1) := by decide +kernel
theorem dX8_nextToken_205 : decode cX8_nextToken 205 = .ok (.aload_n 0, 1) := by decide +kernel
theorem dX8_nextToken_206 : decode cX8_nextToken 206 = .ok (.dup, 1) := by decide +kernel
theorem dX8_nextToken_207 : decode cX8_nextToken 207 = .ok (.getfield 148, 3) := by decide +kernel
theorem dX8_nextToken_210 : decode cX8_nextToken 210 = .ok (.iconst 1, 1) := by decide +kernel
theorem dX8_nextToken_211 : decode cX8_nextToken 211 = .ok (.iadd, 1) := by decide +kernel
theorem dX8_nextToken_212 : decode cX8_nextToken 212 = .ok (.putfield 148, 3) := by decide +kernel
theorem dX8_nextToken_215 : decode cX8_nextToken 215 = .ok (.goto (-57), 3) := by decide +kernel
theorem dX8_nextToken_218 : decode cX8_nextToken 218 = .ok (.aload_n 0, 1) := by decide +kernel
theorem dX8_nextToken_219 : decode cX8_nextToken 219 = .ok (.aload_n 0, 1) := by decide +kernel
theorem dX8_nextToken_220 : decode cX8_nextToken 220 = .ok (.getfield 148, 3) := by decide +kernel
theorem dX8_nextToken_223 : decode cX8_nextToken 223 = .ok (.aload_n 0, 1) := by decide +kernel
theorem dX8_nextToken_224 : decode cX8_nextToken 224 = .ok (.getfield 154, 3) := by decide +kernel
theorem dX8_nextToken_227 : decode cX8_nextToken 227 = .ok (.isub, 1) := by decide +kernel
theorem dX8_nextToken_228 : decode cX8_nextToken 228 = .ok (.bipush 6, 2) := by decide +kernel
theorem dX8_nextToken_230 : decode cX8_nextToken 230 = .ok (.if_icmp .le 7, 3) := by decide +kernel
theorem dX8_nextToken_233 : decode cX8_nextToken 233 = .ok (.iconst 2, 1) := by decide +kernel
theorem dX8_nextToken_234 : decode cX8_nextToken 234 = .ok (.goto 7, 3) := by decide +kernel
theorem dX8_nextToken_237 : decode cX8_nextToken 237 = .ok (.lload_n 2, 1) := by decide +kernel
theorem dX8_nextToken_238 : decode cX8_nextToken 238 = .ok (.invokestatic 166, 3) := by decide +kernel
theorem dX8_nextToken_241 : decode cX8_nextToken 241 = .ok (.putfield 157, 3) := by decide +kernel
theorem dX8_nextToken_244 : decode cX8_nextToken 244 = .ok (.goto 18, 3) := by decide +kernel
theorem dX8_nextToken_247 : decode cX8_nextToken 247 = .ok (.aload_n 0, 1) := by decide +kernel
theorem dX8_nextToken_248 : decode cX8_nextToken 248 = .ok (.iconst 2, 1) := by decide +kernel
theorem dX8_nextToken_249 : decode cX8_nextToken 249 = .ok (.putfield 157, 3) := by decide +kernel
theorem dX8_nextToken_252 : decode cX8_nextToken 252 = .ok (.aload_n 0, 1) := by decide +kernel
theorem dX8_nextToken_253 : decode cX8_nextToken 253 = .ok (.dup, 1) := by decide +kernel
theorem dX8_nextToken_254 : decode cX8_nextToken 254 = .ok (.getfield 148, 3) := by decide +kernel
theorem dX8_nextToken_257 : decode cX8_nextToken 257 = .ok (.iconst 1, 1) := by decide +kernel
theorem dX8_nextToken_258 : decode cX8_nextToken 258 = .ok (.iadd, 1) := by decide +kernel
theorem dX8_nextToken_259 : decode cX8_nextToken 259 = .ok (.putfield 148, 3) := by decide +kernel
theorem dX8_nextToken_262 : decode cX8_nextToken 262 = .ok (.return_, 1) := by decide +kernel
theorem dX8_take_0 : decode cX8_take 0 = .ok (.aload_n 0, 1) := by decide +kernel
theorem dX8_take_1 : decode cX8_take 1 = .ok (.getfield 157, 3) := by decide +kernel
theorem dX8_take_4 : decode cX8_take 4 = .ok (.iconst 1, 1) := by decide +kernel
theorem dX8_take_5 : decode cX8_take 5 = .ok (.if_icmp .eq 5, 3) := by decide +kernel
theorem dX8_take_8 : decode cX8_take 8 = .ok (.iconst 1, 1) := by decide +kernel
theorem dX8_take_9 : decode cX8_take 9 = .ok (.ireturn, 1) := by decide +kernel
theorem dX8_take_10 : decode cX8_take 10 = .ok (.aload_n 0, 1) := by decide +kernel
theorem dX8_take_11 : decode cX8_take 11 = .ok (.getfield 163, 3) := by decide +kernel
theorem dX8_take_14 : decode cX8_take 14 = .ok (.iload_n 1, 1) := by decide +kernel
theorem dX8_take_15 : decode cX8_take 15 = .ok (.iload_n 2, 1) := by decide +kernel
theorem dX8_take_16 : decode cX8_take 16 = .ok (.invokestatic 70, 3) := by decide +kernel
theorem dX8_take_19 : decode cX8_take 19 = .ok (.ifCond .ne 5, 3) := by decide +kernel
theorem dX8_take_22 : decode cX8_take 22 = .ok (.iconst 2, 1) := by decide +kernel
theorem dX8_take_23 : decode cX8_take 23 = .ok (.ireturn, 1) := by decide +kernel
theorem dX8_take_24 : decode cX8_take 24 = .ok (.aload_n 0, 1) := by decide +kernel
theorem dX8_take_25 : decode cX8_take 25 = .ok (.invokevirtual 170, 3) := by decide +kernel
theorem dX8_take_28 : decode cX8_take 28 = .ok (.iconst 0, 1) := by decide +kernel
theorem dX8_take_29 : decode cX8_take 29 = .ok (.ireturn, 1) := by decide +kernel
theorem dX8_begin_0 : decode cX8_begin 0 = .ok (.aload_n 0, 1) := by decide +kernel
theorem dX8_begin_1 : decode cX8_begin 1 = .ok (.getfield 157, 3) := by decide +kernel
theorem dX8_begin_4 : decode cX8_begin 4 = .ok (.istore_n 1, 1) := by decide +kernel
theorem dX8_begin_5 : decode cX8_begin 5 = .ok (.iload_n 1, 1) := by decide +kernel
theorem dX8_begin_6 : decode cX8_begin 6 = .ok (.iconst 3, 1) := by decide +kernel
theorem dX8_begin_7 : decode cX8_begin 7 = .ok (.if_icmp .ge 5, 3) := by decide +kernel
theorem dX8_begin_10 : decode cX8_begin 10 = .ok (.iconst 1, 1) := by decide +kernel
theorem dX8_begin_11 : decode cX8_begin 11 = .ok (.ireturn, 1) := by decide +kernel
theorem dX8_begin_12 : decode cX8_begin 12 = .ok (.iload_n 1, 1) := by decide +kernel
theorem dX8_begin_13 : decode cX8_begin 13 = .ok (.iconst 4, 1) := by decide +kernel
theorem dX8_begin_14 : decode cX8_begin 14 = .ok (.if_icmp .le 14, 3) := by decide +kernel
theorem dX8_begin_17 : decode cX8_begin 17 = .ok (.aload_n 0, 1) := by decide +kernel
theorem dX8_begin_18 : decode cX8_begin 18 = .ok (.getfield 173, 3) := by decide +kernel
theorem dX8_begin_21 : decode cX8_begin 21 = .ok (.bipush 8, 2) := by decide +kernel
theorem dX8_begin_23 : decode cX8_begin 23 = .ok (.if_icmp .ne 5, 3) := by decide +kernel
theorem dX8_begin_26 : decode cX8_begin 26 = .ok (.iconst 3, 1) := by decide +kernel
theorem dX8_begin_27 : decode cX8_begin 27 = .ok (.ireturn, 1) := by decide +kernel
theorem dX8_begin_28 : decode cX8_begin 28 = .ok (.aload_n 0, 1) := by decide +kernel
theorem dX8_begin_29 : decode cX8_begin 29 = .ok (.getfield 154, 3) := by decide +kernel
theorem dX8_begin_32 : decode cX8_begin 32 = .ok (.istore_n 2, 1) := by decide +kernel
theorem dX8_begin_33 : decode cX8_begin 33 = .ok (.aload_n 0, 1) := by decide +kernel
theorem dX8_begin_34 : decode cX8_begin 34 = .ok (.invokevirtual 170, 3) := by decide +kernel
theorem dX8_begin_37 : decode cX8_begin 37 = .ok (.iload_n 1, 1) := by decide +kernel
theorem dX8_begin_38 : decode cX8_begin 38 = .ok (.iconst 3, 1) := by decide +kernel
theorem dX8_begin_39 : decode cX8_begin 39 = .ok (.if_icmp .ne 61, 3) := by decide +kernel
theorem dX8_begin_42 : decode cX8_begin 42 = .ok (.aload_n 0, 1) := by decide +kernel
theorem dX8_begin_43 : decode cX8_begin 43 = .ok (.getfield 163, 3) := by decide +kernel
theorem dX8_begin_46 : decode cX8_begin 46 = .ok (.istore_n 3, 1) := by decide +kernel
theorem dX8_begin_47 : decode cX8_begin 47 = .ok (.aload_n 0, 1) := by decide +kernel
theorem dX8_begin_48 : decode cX8_begin 48 = .ok (.iconst 1, 1) := by decide +kernel
theorem dX8_begin_49 : decode cX8_begin 49 = .ok (.bipush 8, 2) := by decide +kernel
theorem dX8_begin_51 : decode cX8_begin 51 = .ok (.invokevirtual 176, 3) := by decide +kernel
theorem dX8_begin_54 : decode cX8_begin 54 = .ok (.istore 4, 2) := by decide +kernel
theorem dX8_begin_56 : decode cX8_begin 56 = .ok (.aload_n 0, 1) := by decide +kernel
theorem dX8_begin_57 : decode cX8_begin 57 = .ok (.getfield 163, 3) := by decide +kernel
theorem dX8_begin_60 : decode cX8_begin 60 = .ok (.istore 5, 2) := by decide +kernel
theorem dX8_begin_62 : decode cX8_begin 62 = .ok (.iload 4, 2) := by decide +kernel
theorem dX8_begin_64 : decode cX8_begin 64 = .ok (.ifCond .ne 12, 3) := by decide +kernel
theorem dX8_begin_67 : decode cX8_begin 67 = .ok (.aload_n 0, 1) := by decide +kernel
theorem dX8_begin_68 : decode cX8_begin 68 = .ok (.iconst 1, 1) := by decide +kernel
theorem dX8_begin_69 : decode cX8_begin 69 = .ok (.bipush 8, 2) := by decide +kernel
theorem dX8_begin_71 : decode cX8_begin 71 = .ok (.invokevirtual 179, 3) := by decide +kernel
theorem dX8_begin_74 : decode cX8_begin 74 = .ok (.istore 4, 2) := by decide +kernel
theorem dX8_begin_76 : decode cX8_begin 76 = .ok (.iload 4, 2) := by decide +kernel
theorem dX8_begin_78 : decode cX8_begin 78 = .ok (.ifCond .eq 6, 3) := by decide +kernel
theorem dX8_begin_81 : decode cX8_begin 81 = .ok (.iload 4, 2) := by decide +kernel
theorem dX8_begin_83 : decode cX8_begin 83 = .ok (.ireturn, 1) := by decide +kernel
theorem dX8_begin_84 : decode cX8_begin 84 = .ok (.aload_n 0, 1) := by decide +kernel
theorem dX8_begin_85 : decode cX8_begin 85 = .ok (.bipush 18, 2) := by decide +kernel
theorem dX8_begin_87 : decode cX8_begin 87 = .ok (.iload_n 3, 1) := by decide +kernel
theorem dX8_begin_88 : decode cX8_begin 88 = .ok (.iload 5, 2) := by decide +kernel
theorem dX8_begin_90 : decode cX8_begin 90 = .ok (.invokevirtual 132, 3) := by decide +kernel
theorem dX8_begin_93 : decode cX8_begin 93 = .ok (.aload_n 0, 1) := by decide +kernel
theorem dX8_begin_94 : decode cX8_begin 94 = .ok (.iconst 1, 1) := by decide +kernel
theorem dX8_begin_95 : decode cX8_begin 95 = .ok (.putfield 182, 3) := by decide +kernel
theorem dX8_begin_98 : decode cX8_begin 98 = .ok (.iconst 0, 1) := by decide +kernel
theorem dX8_begin_99 : decode cX8_begin 99 = .ok (.ireturn, 1) := by decide +kernel
theorem dX8_begin_100 : decode cX8_begin 100 = .ok (.iload_n 1, 1) := by decide +kernel
theorem dX8_begin_101 : decode cX8_begin 101 = .ok (.iconst 4, 1) := by decide +kernel
theorem dX8_begin_102 : decode cX8_begin 102 = .ok (.if_icmp .ne 61, 3) := by decide +kernel
theorem dX8_begin_105 : decode cX8_begin 105 = .ok (.aload_n 0, 1) := by decide +kernel
theorem dX8_begin_106 : decode cX8_begin 106 = .ok (.getfield 157, 3) := by decide +kernel
theorem dX8_begin_109 : decode cX8_begin 109 = .ok (.iconst 1, 1) := by decide +kernel
theorem dX8_begin_110 : decode cX8_begin 110 = .ok (.if_icmp .eq 5, 3) := by decide +kernel
theorem dX8_begin_113 : decode cX8_begin 113 = .ok (.iconst 1, 1) := by decide +kernel
theorem dX8_begin_114 : decode cX8_begin 114 = .ok (.ireturn, 1) := by decide +kernel
theorem dX8_begin_115 : decode cX8_begin 115 = .ok (.aload_n 0, 1) := by decide +kernel
theorem dX8_begin_116 : decode cX8_begin 116 = .ok (.getfield 163, 3) := by decide +kernel
theorem dX8_begin_119 : decode cX8_begin 119 = .ok (.iconst 0, 1) := by decide +kernel
theorem dX8_begin_120 : decode cX8_begin 120 = .ok (.bipush 7, 2) := by decide +kernel
theorem dX8_begin_122 : decode cX8_begin 122 = .ok (.invokestatic 70, 3) := by decide +kernel
theorem dX8_begin_125 : decode cX8_begin 125 = .ok (.ifCond .eq 17, 3) := by decide +kernel
theorem dX8_begin_128 : decode cX8_begin 128 = .ok (.aload_n 0, 1) := by decide +kernel
theorem dX8_begin_129 : decode cX8_begin 129 = .ok (.getfield 7, 3) := by decide +kernel
theorem dX8_begin_132 : decode cX8_begin 132 = .ok (.iconst 1, 1) := by decide +kernel
theorem dX8_begin_133 : decode cX8_begin 133 = .ok (.aload_n 0, 1) := by decide +kernel
theorem dX8_begin_134 : decode cX8_begin 134 = .ok (.getfield 163, 3) := by decide +kernel
theorem dX8_begin_137 : decode cX8_begin 137 = .ok (.iadd, 1) := by decide +kernel
theorem dX8_begin_138 : decode cX8_begin 138 = .ok (.iaload, 1) := by decide +kernel
theorem dX8_begin_139 : decode cX8_begin 139 = .ok (.ifCond .ne 5, 3) := by decide +kernel
theorem dX8_begin_142 : decode cX8_begin 142 = .ok (.iconst 2, 1) := by decide +kernel
theorem dX8_begin_143 : decode cX8_begin 143 = .ok (.ireturn, 1) := by decide +kernel
theorem dX8_begin_144 : decode cX8_begin 144 = .ok (.aload_n 0, 1) := by decide +kernel
theorem dX8_begin_145 : decode cX8_begin 145 = .ok (.iconst 1, 1) := by decide +kernel
theorem dX8_begin_146 : decode cX8_begin 146 = .ok (.aload_n 0, 1) := by decide +kernel
theorem dX8_begin_147 : decode cX8_begin 147 = .ok (.getfield 163, 3) := by decide +kernel
theorem dX8_begin_150 : decode cX8_begin 150 = .ok (.iadd, 1) := by decide +kernel
theorem dX8_begin_151 : decode cX8_begin 151 = .ok (.bipush 18, 2) := by decide +kernel
theorem dX8_begin_153 : decode cX8_begin 153 = .ok (.invokevirtual 128, 3) := by decide +kernel
theorem dX8_begin_156 : decode cX8_begin 156 = .ok (.aload_n 0, 1) := by decide +kernel
theorem dX8_begin_157 : decode cX8_begin 157 = .ok (.iconst 1, 1) := by decide +kernel
theorem dX8_begin_158 : decode cX8_begin 158 = .ok (.putfield 182, 3) := by decide +kernel
theorem dX8_begin_161 : decode cX8_begin 161 = .ok (.iconst 0, 1) := by decide +kernel
theorem dX8_begin_162 : decode cX8_begin 162 = .ok (.ireturn, 1) := by decide +kernel
theorem dX8_begin_163 : decode cX8_begin 163 = .ok (.aload_n 0, 1) := by decide +kernel
theorem dX8_begin_164 : decode cX8_begin 164 = .ok (.getfield 52, 3) := by decide +kernel
theorem dX8_begin_167 : decode cX8_begin 167 = .ok (.aload_n 0, 1) := by decide +kernel
theorem dX8_begin_168 : decode cX8_begin 168 = .ok (.getfield 173, 3) := by decide +kernel
theorem dX8_begin_171 : decode cX8_begin 171 = .ok (.iload_n 1, 1) := by decide +kernel
theorem dX8_begin_172 : decode cX8_begin 172 = .ok (.iastore, 1) := by decide +kernel
theorem dX8_begin_173 : decode cX8_begin 173 = .ok (.aload_n 0, 1) := by decide +kernel
theorem dX8_begin_174 : decode cX8_begin 174 = .ok (.getfield 55, 3) := by decide +kernel
theorem dX8_begin_177 : decode cX8_begin 177 = .ok (.aload_n 0, 1) := by decide +kernel
theorem dX8_begin_178 : decode cX8_begin 178 = .ok (.getfield 173, 3) := by decide +kernel
theorem dX8_begin_181 : decode cX8_begin 181 = .ok (.iload_n 2, 1) := by decide +kernel
theorem dX8_begin_182 : decode cX8_begin 182 = .ok (.iastore, 1) := by decide +kernel
theorem dX8_begin_183 : decode cX8_begin 183 = .ok (.aload_n 0, 1) := by decide +kernel
theorem dX8_begin_184 : decode cX8_begin 184 = .ok (.getfield 61, 3) := by decide +kernel
theorem dX8_begin_187 : decode cX8_begin 187 = .ok (.aload_n 0, 1) := by decide +kernel
theorem dX8_begin_188 : decode cX8_begin 188 = .ok (.getfield 173, 3) := by decide +kernel
theorem dX8_begin_191 : decode cX8_begin 191 = .ok (.iconst 0, 1) := by decide +kernel
theorem dX8_begin_192 : decode cX8_begin 192 = .ok (.bastore, 1) := by decide +kernel
theorem dX8_begin_193 : decode cX8_begin 193 = .ok (.iload_n 1, 1) := by decide +kernel
theorem dX8_begin_194 : decode cX8_begin 194 = .ok (.iconst 5, 1) := by decide +kernel
theorem dX8_begin_195 : decode cX8_begin 195 = .ok (.if_icmp .ne 7, 3) := by decide +kernel
theorem dX8_begin_198 : decode cX8_begin 198 = .ok (.iconst 3, 1) := by decide +kernel
theorem dX8_begin_199 : decode cX8_begin 199 = .ok (.goto 14, 3) := by decide +kernel
theorem dX8_begin_202 : decode cX8_begin 202 = .ok (.iload_n 1, 1) := by decide +kernel
theorem dX8_begin_203 : decode cX8_begin 203 = .ok (.bipush 8, 2) := by decide +kernel
theorem dX8_begin_205 : decode cX8_begin 205 = .ok (.if_icmp .ne 7, 3) := by decide +kernel
theorem dX8_begin_208 : decode cX8_begin 208 = .ok (.iconst 1, 1) := by decide +kernel
theorem dX8_begin_209 : decode cX8_begin 209 = .ok (.goto 4, 3) := by decide +kernel
theorem dX8_begin_212 : decode cX8_begin 212 = .ok (.iconst 0, 1) := by decide +kernel
theorem dX8_begin_213 : decode cX8_begin 213 = .ok (.istore_n 3, 1) := by decide +kernel
theorem dX8_begin_214 : decode cX8_begin 214 = .ok (.iconst 0, 1) := by decide +kernel
theorem dX8_begin_215 : decode cX8_begin 215 = .ok (.istore 4, 2) := by decide +kernel
theorem dX8_begin_217 : decode cX8_begin 217 = .ok (.iload 4, 2) := by decide +kernel
theorem dX8_begin_219 : decode cX8_begin 219 = .ok (.iload_n 3, 1) := by decide +kernel
theorem dX8_begin_220 : decode cX8_begin 220 = .ok (.if_icmp .ge 75, 3) := by decide +kernel
theorem dX8_begin_223 : decode cX8_begin 223 = .ok (.aload_n 0, 1) := by decide +kernel
theorem dX8_begin_224 : decode cX8_begin 224 = .ok (.getfield 58, 3) := by decide +kernel
theorem dX8_begin_227 : decode cX8_begin 227 = .ok (.iconst 3, 1) := by decide +kernel
theorem dX8_begin_228 : decode cX8_begin 228 = .ok (.aload_n 0, 1) := by decide +kernel
theorem dX8_begin_229 : decode cX8_begin 229 = .ok (.getfield 173, 3) := by decide +kernel
theorem dX8_begin_232 : decode cX8_begin 232 = .ok (.imul, 1) := by decide +kernel
theorem dX8_begin_233 : decode cX8_begin 233 = .ok (.iload 4, 2) := by decide +kernel
theorem dX8_begin_235 : decode cX8_begin 235 = .ok (.iadd, 1) := by decide +kernel
theorem dX8_begin_236 : decode cX8_begin 236 = .ok (.aload_n 0, 1) := by decide +kernel
theorem dX8_begin_237 : decode cX8_begin 237 = .ok (.getfield 163, 3) := by decide +kernel
theorem dX8_begin_240 : decode cX8_begin 240 = .ok (.iastore, 1) := by decide +kernel
theorem dX8_begin_241 : decode cX8_begin 241 = .ok (.aload_n 0, 1) := by decide +kernel
theorem dX8_begin_242 : decode cX8_begin 242 = .ok (.iload_n 1, 1) := by decide +kernel
theorem dX8_begin_243 : decode cX8_begin 243 = .ok (.bipush 8, 2) := by decide +kernel
theorem dX8_begin_245 : decode cX8_begin 245 = .ok (.if_icmp .ne 7, 3) := by decide +kernel
theorem dX8_begin_248 : decode cX8_begin 248 = .ok (.iconst 1, 1) := by decide +kernel
theorem dX8_begin_249 : decode cX8_begin 249 = .ok (.goto 4, 3) := by decide +kernel
theorem dX8_begin_252 : decode cX8_begin 252 = .ok (.iconst 0, 1) := by decide +kernel
theorem dX8_begin_253 : decode cX8_begin 253 = .ok (.iload_n 1, 1) := by decide +kernel
theorem dX8_begin_254 : decode cX8_begin 254 = .ok (.bipush 8, 2) := by decide +kernel
theorem dX8_begin_256 : decode cX8_begin 256 = .ok (.if_icmp .ne 8, 3) := by decide +kernel
theorem dX8_begin_259 : decode cX8_begin 259 = .ok (.bipush 8, 2) := by decide +kernel
theorem dX8_begin_261 : decode cX8_begin 261 = .ok (.goto 15, 3) := by decide +kernel
theorem dX8_begin_264 : decode cX8_begin 264 = .ok (.iload 4, 2) := by decide +kernel
theorem dX8_begin_266 : decode cX8_begin 266 = .ok (.iconst 2, 1) := by decide +kernel
theorem dX8_begin_267 : decode cX8_begin 267 = .ok (.if_icmp .ge 8, 3) := by decide +kernel
theorem dX8_begin_270 : decode cX8_begin 270 = .ok (.bipush 16, 2) := by decide +kernel
theorem dX8_begin_272 : decode cX8_begin 272 = .ok (.goto 4, 3) := by decide +kernel
theorem dX8_begin_275 : decode cX8_begin 275 = .ok (.iconst 2, 1) := by decide +kernel
theorem dX8_begin_276 : decode cX8_begin 276 = .ok (.invokevirtual 176, 3) := by decide +kernel
theorem dX8_begin_279 : decode cX8_begin 279 = .ok (.istore 5, 2) := by decide +kernel
theorem dX8_begin_281 : decode cX8_begin 281 = .ok (.iload 5, 2) := by decide +kernel
theorem dX8_begin_283 : decode cX8_begin 283 = .ok (.ifCond .eq 6, 3) := by decide +kernel
theorem dX8_begin_286 : decode cX8_begin 286 = .ok (.iload 5, 2) := by decide +kernel
theorem dX8_begin_288 : decode cX8_begin 288 = .ok (.ireturn, 1) := by decide +kernel
theorem dX8_begin_289 : decode cX8_begin 289 = .ok (.iinc 4 1, 3) := by decide +kernel
theorem dX8_begin_292 : decode cX8_begin 292 = .ok (.goto (-75), 3) := by decide +kernel
theorem dX8_begin_295 : decode cX8_begin 295 = .ok (.aload_n 0, 1) := by decide +kernel
theorem dX8_begin_296 : decode cX8_begin 296 = .ok (.dup, 1) := by decide +kernel
theorem dX8_begin_297 : decode cX8_begin 297 = .ok (.getfield 173, 3) := by decide +kernel
theorem dX8_begin_300 : decode cX8_begin 300 = .ok (.iconst 1, 1) := by decide +kernel
theorem dX8_begin_301 : decode cX8_begin 301 = .ok (.iadd, 1) := by decide +kernel
theorem dX8_begin_302 : decode cX8_begin 302 = .ok (.putfield 173, 3) := by decide +kernel
theorem dX8_begin_305 : decode cX8_begin 305 = .ok (.iconst 0, 1) := by decide +kernel
theorem dX8_begin_306 : decode cX8_begin 306 = .ok (.ireturn, 1) := by decide +kernel
theorem dX8_takeLast_0 : decode cX8_takeLast 0 = .ok (.aload_n 0, 1) := by decide +kernel
theorem dX8_takeLast_1 : decode cX8_takeLast 1 = .ok (.getfield 157, 3) := by decide +kernel
theorem dX8_takeLast_4 : decode cX8_takeLast 4 = .ok (.iconst 1, 1) := by decide +kernel
theorem dX8_takeLast_5 : decode cX8_takeLast 5 = .ok (.if_icmp .eq 7, 3) := by decide +kernel
theorem dX8_takeLast_8 : decode cX8_takeLast 8 = .ok (.iconst 1, 1) := by decide +kernel
theorem dX8_takeLast_9 : decode cX8_takeLast 9 = .ok (.goto 20, 3) := by decide +kernel
theorem dX8_takeLast_12 : decode cX8_takeLast 12 = .ok (.aload_n 0, 1) := by decide +kernel
theorem dX8_takeLast_13 : decode cX8_takeLast 13 = .ok (.getfield 163, 3) := by decide +kernel
theorem dX8_takeLast_16 : decode cX8_takeLast 16 = .ok (.iload_n 1, 1) := by decide +kernel
theorem dX8_takeLast_17 : decode cX8_takeLast 17 = .ok (.iload_n 2, 1) := by decide +kernel
theorem dX8_takeLast_18 : decode cX8_takeLast 18 = .ok (.invokestatic 70, 3) := by decide +kernel
theorem dX8_takeLast_21 : decode cX8_takeLast 21 = .ok (.ifCond .eq 7, 3) := by decide +kernel
theorem dX8_takeLast_24 : decode cX8_takeLast 24 = .ok (.iconst 0, 1) := by decide +kernel
theorem dX8_takeLast_25 : decode cX8_takeLast 25 = .ok (.goto 4, 3) := by decide +kernel
theorem dX8_takeLast_28 : decode cX8_takeLast 28 = .ok (.iconst 2, 1) := by decide +kernel
theorem dX8_takeLast_29 : decode cX8_takeLast 29 = .ok (.ireturn, 1) := by decide +kernel
theorem dX8_close_0 : decode cX8_close 0 = .ok (.aload_n 0, 1) := by decide +kernel
theorem dX8_close_1 : decode cX8_close 1 = .ok (.getfield 182, 3) := by decide +kernel
theorem dX8_close_4 : decode cX8_close 4 = .ok (.ifCond .eq 98, 3) := by decide +kernel
theorem dX8_close_7 : decode cX8_close 7 = .ok (.aload_n 0, 1) := by decide +kernel
theorem dX8_close_8 : decode cX8_close 8 = .ok (.getfield 173, 3) := by decide +kernel
theorem dX8_close_11 : decode cX8_close 11 = .ok (.ifCond .le 91, 3) := by decide +kernel
theorem dX8_close_14 : decode cX8_close 14 = .ok (.aload_n 0, 1) := by decide +kernel
theorem dX8_close_15 : decode cX8_close 15 = .ok (.getfield 173, 3) := by decide +kernel
theorem dX8_close_18 : decode cX8_close 18 = .ok (.iconst 1, 1) := by decide +kernel
theorem dX8_close_19 : decode cX8_close 19 = .ok (.isub, 1) := by decide +kernel
theorem dX8_close_20 : decode cX8_close 20 = .ok (.istore_n 1, 1) := by decide +kernel
theorem dX8_close_21 : decode cX8_close 21 = .ok (.aload_n 0, 1) := by decide +kernel
theorem dX8_close_22 : decode cX8_close 22 = .ok (.getfield 52, 3) := by decide +kernel
theorem dX8_close_25 : decode cX8_close 25 = .ok (.iload_n 1, 1) := by decide +kernel
theorem dX8_close_26 : decode cX8_close 26 = .ok (.iaload, 1) := by decide +kernel
theorem dX8_close_27 : decode cX8_close 27 = .ok (.istore_n 2, 1) := by decide +kernel
theorem dX8_close_28 : decode cX8_close 28 = .ok (.iload_n 2, 1) := by decide +kernel
theorem dX8_close_29 : decode cX8_close 29 = .ok (.bipush 8, 2) := by decide +kernel
theorem dX8_close_31 : decode cX8_close 31 = .ok (.if_icmp .le 37, 3) := by decide +kernel
theorem dX8_close_34 : decode cX8_close 34 = .ok (.aload_n 0, 1) := by decide +kernel
theorem dX8_close_35 : decode cX8_close 35 = .ok (.getfield 61, 3) := by decide +kernel
theorem dX8_close_38 : decode cX8_close 38 = .ok (.iload_n 1, 1) := by decide +kernel
theorem dX8_close_39 : decode cX8_close 39 = .ok (.baload, 1) := by decide +kernel
theorem dX8_close_40 : decode cX8_close 40 = .ok (.ifCond .ne 28, 3) := by decide +kernel
theorem dX8_close_43 : decode cX8_close 43 = .ok (.aload_n 0, 1) := by decide +kernel
theorem dX8_close_44 : decode cX8_close 44 = .ok (.getfield 61, 3) := by decide +kernel
theorem dX8_close_47 : decode cX8_close 47 = .ok (.iload_n 1, 1) := by decide +kernel
theorem dX8_close_48 : decode cX8_close 48 = .ok (.iconst 1, 1) := by decide +kernel
theorem dX8_close_49 : decode cX8_close 49 = .ok (.bastore, 1) := by decide +kernel
theorem dX8_close_50 : decode cX8_close 50 = .ok (.aload_n 0, 1) := by decide +kernel
theorem dX8_close_51 : decode cX8_close 51 = .ok (.bipush 18, 2) := by decide +kernel
theorem dX8_close_53 : decode cX8_close 53 = .ok (.bipush 9, 2) := by decide +kernel
theorem dX8_close_55 : decode cX8_close 55 = .ok (.iload_n 1, 1) := by decide +kernel
theorem dX8_close_56 : decode cX8_close 56 = .ok (.iadd, 1) := by decide +kernel
theorem dX8_close_57 : decode cX8_close 57 = .ok (.invokevirtual 128, 3) := by decide +kernel
theorem dX8_close_60 : decode cX8_close 60 = .ok (.aload_n 0, 1) := by decide +kernel
theorem dX8_close_61 : decode cX8_close 61 = .ok (.iconst 0, 1) := by decide +kernel
theorem dX8_close_62 : decode cX8_close 62 = .ok (.putfield 182, 3) := by decide +kernel
theorem dX8_close_65 : decode cX8_close 65 = .ok (.goto 34, 3) := by decide +kernel
theorem dX8_close_68 : decode cX8_close 68 = .ok (.aload_n 0, 1) := by decide +kernel
theorem dX8_close_69 : decode cX8_close 69 = .ok (.dup, 1) := by decide +kernel
theorem dX8_close_70 : decode cX8_close 70 = .ok (.getfield 173, 3) := by decide +kernel
theorem dX8_close_73 : decode cX8_close 73 = .ok (.iconst 1, 1) := by decide +kernel
theorem dX8_close_74 : decode cX8_close 74 = .ok (.isub, 1) := by decide +kernel
theorem dX8_close_75 : decode cX8_close 75 = .ok (.putfield 173, 3) := by decide +kernel
theorem dX8_close_78 : decode cX8_close 78 = .ok (.aload_n 0, 1) := by decide +kernel
theorem dX8_close_79 : decode cX8_close 79 = .ok (.iload_n 1, 1) := by decide +kernel
theorem dX8_close_80 : decode cX8_close 80 = .ok (.iload_n 2, 1) := by decide +kernel
theorem dX8_close_81 : decode cX8_close 81 = .ok (.invokevirtual 186, 3) := by decide +kernel
theorem dX8_close_84 : decode cX8_close 84 = .ok (.ifCond .ne 15, 3) := by decide +kernel
theorem dX8_close_87 : decode cX8_close 87 = .ok (.aload_n 0, 1) := by decide +kernel
theorem dX8_close_88 : decode cX8_close 88 = .ok (.aload_n 0, 1) := by decide +kernel
theorem dX8_close_89 : decode cX8_close 89 = .ok (.getfield 55, 3) := by decide +kernel
theorem dX8_close_92 : decode cX8_close 92 = .ok (.iload_n 1, 1) := by decide +kernel
theorem dX8_close_93 : decode cX8_close 93 = .ok (.iaload, 1) := by decide +kernel
theorem dX8_close_94 : decode cX8_close 94 = .ok (.putfield 154, 3) := by decide +kernel
theorem dX8_close_97 : decode cX8_close 97 = .ok (.iconst 4, 1) := by decide +kernel
theorem dX8_close_98 : decode cX8_close 98 = .ok (.ireturn, 1) := by decide +kernel
theorem dX8_close_99 : decode cX8_close 99 = .ok (.goto (-99), 3) := by decide +kernel
theorem dX8_close_102 : decode cX8_close 102 = .ok (.iconst 0, 1) := by decide +kernel
theorem dX8_close_103 : decode cX8_close 103 = .ok (.ireturn, 1) := by decide +kernel
theorem dX8_isDone_0 : decode cX8_isDone 0 = .ok (.iload_n 2, 1) := by decide +kernel
theorem dX8_isDone_1 : decode cX8_isDone 1 = .ok (.iconst 5, 1) := by decide +kernel
theorem dX8_isDone_2 : decode cX8_isDone 2 = .ok (.if_icmp .ne 64, 3) := by decide +kernel
theorem dX8_isDone_5 : decode cX8_isDone 5 = .ok (.aload_n 0, 1) := by decide +kernel
theorem dX8_isDone_6 : decode cX8_isDone 6 = .ok (.getfield 58, 3) := by decide +kernel
theorem dX8_isDone_9 : decode cX8_isDone 9 = .ok (.iconst 3, 1) := by decide +kernel
theorem dX8_isDone_10 : decode cX8_isDone 10 = .ok (.iload_n 1, 1) := by decide +kernel
theorem dX8_isDone_11 : decode cX8_isDone 11 = .ok (.imul, 1) := by decide +kernel
theorem dX8_isDone_12 : decode cX8_isDone 12 = .ok (.iaload, 1) := by decide +kernel
theorem dX8_isDone_13 : decode cX8_isDone 13 = .ok (.istore_n 3, 1) := by decide +kernel
theorem dX8_isDone_14 : decode cX8_isDone 14 = .ok (.aload_n 0, 1) := by decide +kernel
theorem dX8_isDone_15 : decode cX8_isDone 15 = .ok (.getfield 58, 3) := by decide +kernel
theorem dX8_isDone_18 : decode cX8_isDone 18 = .ok (.iconst 3, 1) := by decide +kernel
theorem dX8_isDone_19 : decode cX8_isDone 19 = .ok (.iload_n 1, 1) := by decide +kernel
theorem dX8_isDone_20 : decode cX8_isDone 20 = .ok (.imul, 1) := by decide +kernel
theorem dX8_isDone_21 : decode cX8_isDone 21 = .ok (.iconst 1, 1) := by decide +kernel
theorem dX8_isDone_22 : decode cX8_isDone 22 = .ok (.iadd, 1) := by decide +kernel
theorem dX8_isDone_23 : decode cX8_isDone 23 = .ok (.iaload, 1) := by decide +kernel
theorem dX8_isDone_24 : decode cX8_isDone 24 = .ok (.istore 4, 2) := by decide +kernel
theorem dX8_isDone_26 : decode cX8_isDone 26 = .ok (.aload_n 0, 1) := by decide +kernel
theorem dX8_isDone_27 : decode cX8_isDone 27 = .ok (.bipush 18, 2) := by decide +kernel
theorem dX8_isDone_29 : decode cX8_isDone 29 = .ok (.iload_n 3, 1) := by decide +kernel
theorem dX8_isDone_30 : decode cX8_isDone 30 = .ok (.iload 4, 2) := by decide +kernel
theorem dX8_isDone_32 : decode cX8_isDone 32 = .ok (.invokevirtual 74, 3) := by decide +kernel
theorem dX8_isDone_35 : decode cX8_isDone 35 = .ok (.ifCond .ne 5, 3) := by decide +kernel
theorem dX8_isDone_38 : decode cX8_isDone 38 = .ok (.iconst 0, 1) := by decide +kernel
theorem dX8_isDone_39 : decode cX8_isDone 39 = .ok (.ireturn, 1) := by decide +kernel
theorem dX8_isDone_40 : decode cX8_isDone 40 = .ok (.aload_n 0, 1) := by decide +kernel
theorem dX8_isDone_41 : decode cX8_isDone 41 = .ok (.getfield 16, 3) := by decide +kernel
theorem dX8_isDone_44 : decode cX8_isDone 44 = .ok (.bipush 18, 2) := by decide +kernel
theorem dX8_isDone_46 : decode cX8_isDone 46 = .ok (.iload_n 3, 1) := by decide +kernel
theorem dX8_isDone_47 : decode cX8_isDone 47 = .ok (.iload 4, 2) := by decide +kernel
theorem dX8_isDone_49 : decode cX8_isDone 49 = .ok (.invokestatic 77, 3) := by decide +kernel
theorem dX8_isDone_52 : decode cX8_isDone 52 = .ok (.aload_n 0, 1) := by decide +kernel
theorem dX8_isDone_53 : decode cX8_isDone 53 = .ok (.getfield 58, 3) := by decide +kernel
theorem dX8_isDone_56 : decode cX8_isDone 56 = .ok (.iconst 3, 1) := by decide +kernel
theorem dX8_isDone_57 : decode cX8_isDone 57 = .ok (.iload_n 1, 1) := by decide +kernel
theorem dX8_isDone_58 : decode cX8_isDone 58 = .ok (.imul, 1) := by decide +kernel
theorem dX8_isDone_59 : decode cX8_isDone 59 = .ok (.iconst 2, 1) := by decide +kernel
theorem dX8_isDone_60 : decode cX8_isDone 60 = .ok (.iadd, 1) := by decide +kernel
theorem dX8_isDone_61 : decode cX8_isDone 61 = .ok (.iaload, 1) := by decide +kernel
theorem dX8_isDone_62 : decode cX8_isDone 62 = .ok (.i2b, 1) := by decide +kernel
theorem dX8_isDone_63 : decode cX8_isDone 63 = .ok (.bastore, 1) := by decide +kernel
theorem dX8_isDone_64 : decode cX8_isDone 64 = .ok (.iconst 1, 1) := by decide +kernel
theorem dX8_isDone_65 : decode cX8_isDone 65 = .ok (.ireturn, 1) := by decide +kernel
theorem dX8_isDone_66 : decode cX8_isDone 66 = .ok (.iload_n 2, 1) := by decide +kernel
theorem dX8_isDone_67 : decode cX8_isDone 67 = .ok (.bipush 6, 2) := by decide +kernel
theorem dX8_isDone_69 : decode cX8_isDone 69 = .ok (.if_icmp .ne 9, 3) := by decide +kernel
theorem dX8_isDone_72 : decode cX8_isDone 72 = .ok (.aload_n 0, 1) := by decide +kernel
theorem dX8_isDone_73 : decode cX8_isDone 73 = .ok (.bipush 18, 2) := by decide +kernel
theorem dX8_isDone_75 : decode cX8_isDone 75 = .ok (.invokevirtual 190, 3) := by decide +kernel
theorem dX8_isDone_78 : decode cX8_isDone 78 = .ok (.iload_n 2, 1) := by decide +kernel
theorem dX8_isDone_79 : decode cX8_isDone 79 = .ok (.bipush 7, 2) := by decide +kernel
theorem dX8_isDone_81 : decode cX8_isDone 81 = .ok (.if_icmp .ne 9, 3) := by decide +kernel
theorem dX8_isDone_84 : decode cX8_isDone 84 = .ok (.aload_n 0, 1) := by decide +kernel
theorem dX8_isDone_85 : decode cX8_isDone 85 = .ok (.bipush 18, 2) := by decide +kernel
theorem dX8_isDone_87 : decode cX8_isDone 87 = .ok (.invokevirtual 193, 3) := by decide +kernel
theorem dX8_isDone_90 : decode cX8_isDone 90 = .ok (.iload_n 2, 1) := by decide +kernel
theorem dX8_isDone_91 : decode cX8_isDone 91 = .ok (.bipush 8, 2) := by decide +kernel
theorem dX8_isDone_93 : decode cX8_isDone 93 = .ok (.if_icmp .ne 16, 3) := by decide +kernel
theorem dX8_isDone_96 : decode cX8_isDone 96 = .ok (.aload_n 0, 1) := by decide +kernel
theorem dX8_isDone_97 : decode cX8_isDone 97 = .ok (.aload_n 0, 1) := by decide +kernel
theorem dX8_isDone_98 : decode cX8_isDone 98 = .ok (.getfield 58, 3) := by decide +kernel
theorem dX8_isDone_101 : decode cX8_isDone 101 = .ok (.iconst 3, 1) := by decide +kernel
theorem dX8_isDone_102 : decode cX8_isDone 102 = .ok (.iload_n 1, 1) := by decide +kernel
theorem dX8_isDone_103 : decode cX8_isDone 103 = .ok (.imul, 1) := by decide +kernel
theorem dX8_isDone_104 : decode cX8_isDone 104 = .ok (.iaload, 1) := by decide +kernel
theorem dX8_isDone_105 : decode cX8_isDone 105 = .ok (.invokevirtual 196, 3) := by decide +kernel
theorem dX8_isDone_108 : decode cX8_isDone 108 = .ok (.ireturn, 1) := by decide +kernel
theorem dX8_isDone_109 : decode cX8_isDone 109 = .ok (.iload_n 2, 1) := by decide +kernel
theorem dX8_isDone_110 : decode cX8_isDone 110 = .ok (.bipush 9, 2) := by decide +kernel
theorem dX8_isDone_112 : decode cX8_isDone 112 = .ok (.if_icmp .lt 12, 3) := by decide +kernel
theorem dX8_isDone_115 : decode cX8_isDone 115 = .ok (.aload_n 0, 1) := by decide +kernel
theorem dX8_isDone_116 : decode cX8_isDone 116 = .ok (.iload_n 1, 1) := by decide +kernel
theorem dX8_isDone_117 : decode cX8_isDone 117 = .ok (.iload_n 2, 1) := by decide +kernel
theorem dX8_isDone_118 : decode cX8_isDone 118 = .ok (.invokevirtual 199, 3) := by decide +kernel
theorem dX8_isDone_121 : decode cX8_isDone 121 = .ok (.ifCond .eq 7, 3) := by decide +kernel
theorem dX8_isDone_124 : decode cX8_isDone 124 = .ok (.iconst 1, 1) := by decide +kernel
theorem dX8_isDone_125 : decode cX8_isDone 125 = .ok (.goto 4, 3) := by decide +kernel
theorem dX8_isDone_128 : decode cX8_isDone 128 = .ok (.iconst 0, 1) := by decide +kernel
theorem dX8_isDone_129 : decode cX8_isDone 129 = .ok (.ireturn, 1) := by decide +kernel
theorem dX8_isRow_0 : decode cX8_isRow 0 = .ok (.aload_n 0, 1) := by decide +kernel
theorem dX8_isRow_1 : decode cX8_isRow 1 = .ok (.getfield 7, 3) := by decide +kernel
theorem dX8_isRow_4 : decode cX8_isRow 4 = .ok (.bipush 18, 2) := by decide +kernel
theorem dX8_isRow_6 : decode cX8_isRow 6 = .ok (.iaload, 1) := by decide +kernel
theorem dX8_isRow_7 : decode cX8_isRow 7 = .ok (.iload_n 1, 1) := by decide +kernel
theorem dX8_isRow_8 : decode cX8_isRow 8 = .ok (.imul, 1) := by decide +kernel
theorem dX8_isRow_9 : decode cX8_isRow 9 = .ok (.bipush 8, 2) := by decide +kernel
theorem dX8_isRow_11 : decode cX8_isRow 11 = .ok (.if_icmp .le 5, 3) := by decide +kernel
theorem dX8_isRow_14 : decode cX8_isRow 14 = .ok (.iconst 0, 1) := by decide +kernel
theorem dX8_isRow_15 : decode cX8_isRow 15 = .ok (.ireturn, 1) := by decide +kernel
theorem dX8_isRow_16 : decode cX8_isRow 16 = .ok (.aload_n 0, 1) := by decide +kernel
theorem dX8_isRow_17 : decode cX8_isRow 17 = .ok (.bipush 18, 2) := by decide +kernel
theorem dX8_isRow_19 : decode cX8_isRow 19 = .ok (.bipush 19, 2) := by decide +kernel
theorem dX8_isRow_21 : decode cX8_isRow 21 = .ok (.invokevirtual 128, 3) := by decide +kernel
theorem dX8_isRow_24 : decode cX8_isRow 24 = .ok (.aload_n 0, 1) := by decide +kernel
theorem dX8_isRow_25 : decode cX8_isRow 25 = .ok (.bipush 18, 2) := by decide +kernel
theorem dX8_isRow_27 : decode cX8_isRow 27 = .ok (.aload_n 0, 1) := by decide +kernel
theorem dX8_isRow_28 : decode cX8_isRow 28 = .ok (.getfield 7, 3) := by decide +kernel
theorem dX8_isRow_31 : decode cX8_isRow 31 = .ok (.bipush 19, 2) := by decide +kernel
theorem dX8_isRow_33 : decode cX8_isRow 33 = .ok (.iaload, 1) := by decide +kernel
theorem dX8_isRow_34 : decode cX8_isRow 34 = .ok (.iload_n 1, 1) := by decide +kernel
theorem dX8_isRow_35 : decode cX8_isRow 35 = .ok (.imul, 1) := by decide +kernel
theorem dX8_isRow_36 : decode cX8_isRow 36 = .ok (.aload_n 0, 1) := by decide +kernel
theorem dX8_isRow_37 : decode cX8_isRow 37 = .ok (.getfield 13, 3) := by decide +kernel
theorem dX8_isRow_40 : decode cX8_isRow 40 = .ok (.bipush 19, 2) := by decide +kernel
theorem dX8_isRow_42 : decode cX8_isRow 42 = .ok (.iaload, 1) := by decide +kernel
theorem dX8_isRow_43 : decode cX8_isRow 43 = .ok (.invokevirtual 132, 3) := by decide +kernel
theorem dX8_isRow_46 : decode cX8_isRow 46 = .ok (.iconst 0, 1) := by decide +kernel
theorem dX8_isRow_47 : decode cX8_isRow 47 = .ok (.istore_n 2, 1) := by decide +kernel
theorem dX8_isRow_48 : decode cX8_isRow 48 = .ok (.iload_n 2, 1) := by decide +kernel
theorem dX8_isRow_49 : decode cX8_isRow 49 = .ok (.iload_n 1, 1) := by decide +kernel
theorem dX8_isRow_50 : decode cX8_isRow 50 = .ok (.if_icmp .ge 29, 3) := by decide +kernel
theorem dX8_isRow_53 : decode cX8_isRow 53 = .ok (.aload_n 0, 1) := by decide +kernel
theorem dX8_isRow_54 : decode cX8_isRow 54 = .ok (.bipush 19, 2) := by decide +kernel
theorem dX8_isRow_56 : decode cX8_isRow 56 = .ok (.bipush 18, 2) := by decide +kernel
theorem dX8_isRow_58 : decode cX8_isRow 58 = .ok (.iconst 2, 1) := by decide +kernel
theorem dX8_isRow_59 : decode cX8_isRow 59 = .ok (.iload_n 2, 1) := by decide +kernel
theorem dX8_isRow_60 : decode cX8_isRow 60 = .ok (.imul, 1) := by decide +kernel
theorem dX8_isRow_61 : decode cX8_isRow 61 = .ok (.aload_n 0, 1) := by decide +kernel
theorem dX8_isRow_62 : decode cX8_isRow 62 = .ok (.getfield 7, 3) := by decide +kernel
theorem dX8_isRow_65 : decode cX8_isRow 65 = .ok (.bipush 19, 2) := by decide +kernel
theorem dX8_isRow_67 : decode cX8_isRow 67 = .ok (.iaload, 1) := by decide +kernel
theorem dX8_isRow_68 : decode cX8_isRow 68 = .ok (.imul, 1) := by decide +kernel
theorem dX8_isRow_69 : decode cX8_isRow 69 = .ok (.iconst 0, 1) := by decide +kernel
theorem dX8_isRow_70 : decode cX8_isRow 70 = .ok (.invokevirtual 202, 3) := by decide +kernel
theorem dX8_isRow_73 : decode cX8_isRow 73 = .ok (.iinc 2 1, 3) := by decide +kernel
theorem dX8_isRow_76 : decode cX8_isRow 76 = .ok (.goto (-28), 3) := by decide +kernel
theorem dX8_isRow_79 : decode cX8_isRow 79 = .ok (.iconst 1, 1) := by decide +kernel
theorem dX8_isRow_80 : decode cX8_isRow 80 = .ok (.ireturn, 1) := by decide +kernel
theorem dX8_isPut_0 : decode cX8_isPut 0 = .ok (.bipush 9, 2) := by decide +kernel
theorem dX8_isPut_2 : decode cX8_isPut 2 = .ok (.iload_n 1, 1) := by decide +kernel
theorem dX8_isPut_3 : decode cX8_isPut 3 = .ok (.iadd, 1) := by decide +kernel
theorem dX8_isPut_4 : decode cX8_isPut 4 = .ok (.istore_n 3, 1) := by decide +kernel
theorem dX8_isPut_5 : decode cX8_isPut 5 = .ok (.aload_n 0, 1) := by decide +kernel
theorem dX8_isPut_6 : decode cX8_isPut 6 = .ok (.getfield 13, 3) := by decide +kernel
theorem dX8_isPut_9 : decode cX8_isPut 9 = .ok (.iload_n 3, 1) := by decide +kernel
theorem dX8_isPut_10 : decode cX8_isPut 10 = .ok (.iaload, 1) := by decide +kernel
theorem dX8_isPut_11 : decode cX8_isPut 11 = .ok (.aload_n 0, 1) := by decide +kernel
theorem dX8_isPut_12 : decode cX8_isPut 12 = .ok (.getfield 13, 3) := by decide +kernel
theorem dX8_isPut_15 : decode cX8_isPut 15 = .ok (.bipush 18, 2) := by decide +kernel
theorem dX8_isPut_17 : decode cX8_isPut 17 = .ok (.iaload, 1) := by decide +kernel
theorem dX8_isPut_18 : decode cX8_isPut 18 = .ok (.if_icmp .ne 7, 3) := by decide +kernel
theorem dX8_isPut_21 : decode cX8_isPut 21 = .ok (.iconst 1, 1) := by decide +kernel
theorem dX8_isPut_22 : decode cX8_isPut 22 = .ok (.goto 4, 3) := by decide +kernel
theorem dX8_isPut_25 : decode cX8_isPut 25 = .ok (.iconst 0, 1) := by decide +kernel
theorem dX8_isPut_26 : decode cX8_isPut 26 = .ok (.istore 4, 2) := by decide +kernel
theorem dX8_isPut_28 : decode cX8_isPut 28 = .ok (.aload_n 0, 1) := by decide +kernel
theorem dX8_isPut_29 : decode cX8_isPut 29 = .ok (.getfield 7, 3) := by decide +kernel
theorem dX8_isPut_32 : decode cX8_isPut 32 = .ok (.iload_n 3, 1) := by decide +kernel
theorem dX8_isPut_33 : decode cX8_isPut 33 = .ok (.iaload, 1) := by decide +kernel
theorem dX8_isPut_34 : decode cX8_isPut 34 = .ok (.aload_n 0, 1) := by decide +kernel
theorem dX8_isPut_35 : decode cX8_isPut 35 = .ok (.getfield 7, 3) := by decide +kernel
theorem dX8_isPut_38 : decode cX8_isPut 38 = .ok (.bipush 18, 2) := by decide +kernel
theorem dX8_isPut_40 : decode cX8_isPut 40 = .ok (.iaload, 1) := by decide +kernel
theorem dX8_isPut_41 : decode cX8_isPut 41 = .ok (.if_icmp .ne 7, 3) := by decide +kernel
theorem dX8_isPut_44 : decode cX8_isPut 44 = .ok (.iconst 1, 1) := by decide +kernel
theorem dX8_isPut_45 : decode cX8_isPut 45 = .ok (.goto 4, 3) := by decide +kernel
theorem dX8_isPut_48 : decode cX8_isPut 48 = .ok (.iconst 0, 1) := by decide +kernel
theorem dX8_isPut_49 : decode cX8_isPut 49 = .ok (.istore 5, 2) := by decide +kernel
theorem dX8_isPut_51 : decode cX8_isPut 51 = .ok (.iload_n 2, 1) := by decide +kernel
theorem dX8_isPut_52 : decode cX8_isPut 52 = .ok (.bipush 9, 2) := by decide +kernel
theorem dX8_isPut_54 : decode cX8_isPut 54 = .ok (.if_icmp .ne 30, 3) := by decide +kernel
theorem dX8_isPut_57 : decode cX8_isPut 57 = .ok (.iload 4, 2) := by decide +kernel
theorem dX8_isPut_59 : decode cX8_isPut 59 = .ok (.ifCond .eq 68, 3) := by decide +kernel
theorem dX8_isPut_62 : decode cX8_isPut 62 = .ok (.aload_n 0, 1) := by decide +kernel
theorem dX8_isPut_63 : decode cX8_isPut 63 = .ok (.getfield 7, 3) := by decide +kernel
theorem dX8_isPut_66 : decode cX8_isPut 66 = .ok (.iload_n 3, 1) := by decide +kernel
theorem dX8_isPut_67 : decode cX8_isPut 67 = .ok (.iaload, 1) := by decide +kernel
theorem dX8_isPut_68 : decode cX8_isPut 68 = .ok (.aload_n 0, 1) := by decide +kernel
theorem dX8_isPut_69 : decode cX8_isPut 69 = .ok (.getfield 7, 3) := by decide +kernel
theorem dX8_isPut_72 : decode cX8_isPut 72 = .ok (.bipush 18, 2) := by decide +kernel
theorem dX8_isPut_74 : decode cX8_isPut 74 = .ok (.iaload, 1) := by decide +kernel
theorem dX8_isPut_75 : decode cX8_isPut 75 = .ok (.iadd, 1) := by decide +kernel
theorem dX8_isPut_76 : decode cX8_isPut 76 = .ok (.bipush 8, 2) := by decide +kernel
theorem dX8_isPut_78 : decode cX8_isPut 78 = .ok (.if_icmp .le 51, 3) := by decide +kernel
theorem dX8_isPut_81 : decode cX8_isPut 81 = .ok (.goto 46, 3) := by decide +kernel
theorem dX8_isPut_84 : decode cX8_isPut 84 = .ok (.iload_n 2, 1) := by decide +kernel
theorem dX8_isPut_85 : decode cX8_isPut 85 = .ok (.bipush 10, 2) := by decide +kernel
theorem dX8_isPut_87 : decode cX8_isPut 87 = .ok (.if_icmp .ne 30, 3) := by decide +kernel
theorem dX8_isPut_90 : decode cX8_isPut 90 = .ok (.iload 5, 2) := by decide +kernel
theorem dX8_isPut_92 : decode cX8_isPut 92 = .ok (.ifCond .eq 35, 3) := by decide +kernel
theorem dX8_isPut_95 : decode cX8_isPut 95 = .ok (.aload_n 0, 1) := by decide +kernel
theorem dX8_isPut_96 : decode cX8_isPut 96 = .ok (.getfield 13, 3) := by decide +kernel
theorem dX8_isPut_99 : decode cX8_isPut 99 = .ok (.iload_n 3, 1) := by decide +kernel
theorem dX8_isPut_100 : decode cX8_isPut 100 = .ok (.iaload, 1) := by decide +kernel
theorem dX8_isPut_101 : decode cX8_isPut 101 = .ok (.aload_n 0, 1) := by decide +kernel
theorem dX8_isPut_102 : decode cX8_isPut 102 = .ok (.getfield 13, 3) := by decide +kernel
theorem dX8_isPut_105 : decode cX8_isPut 105 = .ok (.bipush 18, 2) := by decide +kernel
theorem dX8_isPut_107 : decode cX8_isPut 107 = .ok (.iaload, 1) := by decide +kernel
theorem dX8_isPut_108 : decode cX8_isPut 108 = .ok (.iadd, 1) := by decide +kernel
theorem dX8_isPut_109 : decode cX8_isPut 109 = .ok (.bipush 8, 2) := by decide +kernel
theorem dX8_isPut_111 : decode cX8_isPut 111 = .ok (.if_icmp .le 18, 3) := by decide +kernel
theorem dX8_isPut_114 : decode cX8_isPut 114 = .ok (.goto 13, 3) := by decide +kernel
theorem dX8_isPut_117 : decode cX8_isPut 117 = .ok (.iload 4, 2) := by decide +kernel
theorem dX8_isPut_119 : decode cX8_isPut 119 = .ok (.ifCond .eq 8, 3) := by decide +kernel
theorem dX8_isPut_122 : decode cX8_isPut 122 = .ok (.iload 5, 2) := by decide +kernel
theorem dX8_isPut_124 : decode cX8_isPut 124 = .ok (.ifCond .ne 5, 3) := by decide +kernel
theorem dX8_isPut_127 : decode cX8_isPut 127 = .ok (.iconst 0, 1) := by decide +kernel
theorem dX8_isPut_128 : decode cX8_isPut 128 = .ok (.ireturn, 1) := by decide +kernel
theorem dX8_isPut_129 : decode cX8_isPut 129 = .ok (.aload_n 0, 1) := by decide +kernel
theorem dX8_isPut_130 : decode cX8_isPut 130 = .ok (.bipush 18, 2) := by decide +kernel
theorem dX8_isPut_132 : decode cX8_isPut 132 = .ok (.bipush 19, 2) := by decide +kernel
theorem dX8_isPut_134 : decode cX8_isPut 134 = .ok (.invokevirtual 128, 3) := by decide +kernel
theorem dX8_isPut_137 : decode cX8_isPut 137 = .ok (.aload_n 0, 1) := by decide +kernel
theorem dX8_isPut_138 : decode cX8_isPut 138 = .ok (.bipush 18, 2) := by decide +kernel
theorem dX8_isPut_140 : decode cX8_isPut 140 = .ok (.iload_n 2, 1) := by decide +kernel
theorem dX8_isPut_141 : decode cX8_isPut 141 = .ok (.bipush 9, 2) := by decide +kernel
theorem dX8_isPut_143 : decode cX8_isPut 143 = .ok (.if_icmp .ne 20, 3) := by decide +kernel
theorem dX8_isPut_146 : decode cX8_isPut 146 = .ok (.aload_n 0, 1) := by decide +kernel
theorem dX8_isPut_147 : decode cX8_isPut 147 = .ok (.getfield 7, 3) := by decide +kernel
theorem dX8_isPut_150 : decode cX8_isPut 150 = .ok (.iload_n 3, 1) := by decide +kernel
theorem dX8_isPut_151 : decode cX8_isPut 151 = .ok (.iaload, 1) := by decide +kernel
theorem dX8_isPut_152 : decode cX8_isPut 152 = .ok (.aload_n 0, 1) := by decide +kernel
theorem dX8_isPut_153 : decode cX8_isPut 153 = .ok (.getfield 7, 3) := by decide +kernel
theorem dX8_isPut_156 : decode cX8_isPut 156 = .ok (.bipush 19, 2) := by decide +kernel
theorem dX8_isPut_158 : decode cX8_isPut 158 = .ok (.iaload, 1) := by decide +kernel
theorem dX8_isPut_159 : decode cX8_isPut 159 = .ok (.iadd, 1) := by decide +kernel
theorem dX8_isPut_160 : decode cX8_isPut 160 = .ok (.goto 9, 3) := by decide +kernel
theorem dX8_isPut_163 : decode cX8_isPut 163 = .ok (.aload_n 0, 1) := by decide +kernel
theorem dX8_isPut_164 : decode cX8_isPut 164 = .ok (.getfield 7, 3) := by decide +kernel
theorem dX8_isPut_167 : decode cX8_isPut 167 = .ok (.iload_n 3, 1) := by decide +kernel
theorem dX8_isPut_168 : decode cX8_isPut 168 = .ok (.iaload, 1) := by decide +kernel
theorem dX8_isPut_169 : decode cX8_isPut 169 = .ok (.iload_n 2, 1) := by decide +kernel
theorem dX8_isPut_170 : decode cX8_isPut 170 = .ok (.bipush 10, 2) := by decide +kernel
theorem dX8_isPut_172 : decode cX8_isPut 172 = .ok (.if_icmp .ne 20, 3) := by decide +kernel
theorem dX8_isPut_175 : decode cX8_isPut 175 = .ok (.aload_n 0, 1) := by decide +kernel
theorem dX8_isPut_176 : decode cX8_isPut 176 = .ok (.getfield 13, 3) := by decide +kernel
theorem dX8_isPut_179 : decode cX8_isPut 179 = .ok (.iload_n 3, 1) := by decide +kernel
theorem dX8_isPut_180 : decode cX8_isPut 180 = .ok (.iaload, 1) := by decide +kernel
theorem dX8_isPut_181 : decode cX8_isPut 181 = .ok (.aload_n 0, 1) := by decide +kernel
theorem dX8_isPut_182 : decode cX8_isPut 182 = .ok (.getfield 13, 3) := by decide +kernel
theorem dX8_isPut_185 : decode cX8_isPut 185 = .ok (.bipush 19, 2) := by decide +kernel
theorem dX8_isPut_187 : decode cX8_isPut 187 = .ok (.iaload, 1) := by decide +kernel
theorem dX8_isPut_188 : decode cX8_isPut 188 = .ok (.iadd, 1) := by decide +kernel
theorem dX8_isPut_189 : decode cX8_isPut 189 = .ok (.goto 9, 3) := by decide +kernel
theorem dX8_isPut_192 : decode cX8_isPut 192 = .ok (.aload_n 0, 1) := by decide +kernel
theorem dX8_isPut_193 : decode cX8_isPut 193 = .ok (.getfield 13, 3) := by decide +kernel
theorem dX8_isPut_196 : decode cX8_isPut 196 = .ok (.iload_n 3, 1) := by decide +kernel
theorem dX8_isPut_197 : decode cX8_isPut 197 = .ok (.iaload, 1) := by decide +kernel
theorem dX8_isPut_198 : decode cX8_isPut 198 = .ok (.invokevirtual 132, 3) := by decide +kernel
theorem dX8_isPut_201 : decode cX8_isPut 201 = .ok (.aload_n 0, 1) := by decide +kernel
theorem dX8_isPut_202 : decode cX8_isPut 202 = .ok (.iload_n 3, 1) := by decide +kernel
theorem dX8_isPut_203 : decode cX8_isPut 203 = .ok (.bipush 18, 2) := by decide +kernel
theorem dX8_isPut_205 : decode cX8_isPut 205 = .ok (.iconst 0, 1) := by decide +kernel
theorem dX8_isPut_206 : decode cX8_isPut 206 = .ok (.iconst 0, 1) := by decide +kernel
theorem dX8_isPut_207 : decode cX8_isPut 207 = .ok (.invokevirtual 202, 3) := by decide +kernel
theorem dX8_isPut_210 : decode cX8_isPut 210 = .ok (.aload_n 0, 1) := by decide +kernel
theorem dX8_isPut_211 : decode cX8_isPut 211 = .ok (.bipush 19, 2) := by decide +kernel
theorem dX8_isPut_213 : decode cX8_isPut 213 = .ok (.bipush 18, 2) := by decide +kernel
theorem dX8_isPut_215 : decode cX8_isPut 215 = .ok (.iload_n 2, 1) := by decide +kernel
theorem dX8_isPut_216 : decode cX8_isPut 216 = .ok (.bipush 9, 2) := by decide +kernel
theorem dX8_isPut_218 : decode cX8_isPut 218 = .ok (.if_icmp .ne 14, 3) := by decide +kernel
theorem dX8_isPut_221 : decode cX8_isPut 221 = .ok (.iconst 2, 1) := by decide +kernel
theorem dX8_isPut_222 : decode cX8_isPut 222 = .ok (.aload_n 0, 1) := by decide +kernel
theorem dX8_isPut_223 : decode cX8_isPut 223 = .ok (.getfield 7, 3) := by decide +kernel
theorem dX8_isPut_226 : decode cX8_isPut 226 = .ok (.iload_n 3, 1) := by decide +kernel
theorem dX8_isPut_227 : decode cX8_isPut 227 = .ok (.iaload, 1) := by decide +kernel
theorem dX8_isPut_228 : decode cX8_isPut 228 = .ok (.imul, 1) := by decide +kernel
theorem dX8_isPut_229 : decode cX8_isPut 229 = .ok (.goto 4, 3) := by decide +kernel
theorem dX8_isPut_232 : decode cX8_isPut 232 = .ok (.iconst 0, 1) := by decide +kernel
theorem dX8_isPut_233 : decode cX8_isPut 233 = .ok (.iload_n 2, 1) := by decide +kernel
theorem dX8_isPut_234 : decode cX8_isPut 234 = .ok (.bipush 10, 2) := by decide +kernel
theorem dX8_isPut_236 : decode cX8_isPut 236 = .ok (.if_icmp .ne 14, 3) := by decide +kernel
theorem dX8_isPut_239 : decode cX8_isPut 239 = .ok (.iconst 2, 1) := by decide +kernel
theorem dX8_isPut_240 : decode cX8_isPut 240 = .ok (.aload_n 0, 1) := by decide +kernel
theorem dX8_isPut_241 : decode cX8_isPut 241 = .ok (.getfield 13, 3) := by decide +kernel
theorem dX8_isPut_244 : decode cX8_isPut 244 = .ok (.iload_n 3, 1) := by decide +kernel
theorem dX8_isPut_245 : decode cX8_isPut 245 = .ok (.iaload, 1) := by decide +kernel
theorem dX8_isPut_246 : decode cX8_isPut 246 = .ok (.imul, 1) := by decide +kernel
theorem dX8_isPut_247 : decode cX8_isPut 247 = .ok (.goto 4, 3) := by decide +kernel
theorem dX8_isPut_250 : decode cX8_isPut 250 = .ok (.iconst 0, 1) := by decide +kernel
theorem dX8_isPut_251 : decode cX8_isPut 251 = .ok (.invokevirtual 202, 3) := by decide +kernel
theorem dX8_isPut_254 : decode cX8_isPut 254 = .ok (.iconst 1, 1) := by decide +kernel
theorem dX8_isPut_255 : decode cX8_isPut 255 = .ok (.ireturn, 1) := by decide +kernel
theorem dX8_read_0 : decode cX8_read 0 = .ok (.aload_n 0, 1) := by decide +kernel
theorem dX8_read_1 : decode cX8_read 1 = .ok (.iconst 0, 1) := by decide +kernel
theorem dX8_read_2 : decode cX8_read 2 = .ok (.putfield 148, 3) := by decide +kernel
theorem dX8_read_5 : decode cX8_read 5 = .ok (.aload_n 0, 1) := by decide +kernel
theorem dX8_read_6 : decode cX8_read 6 = .ok (.iconst 0, 1) := by decide +kernel
theorem dX8_read_7 : decode cX8_read 7 = .ok (.putfield 173, 3) := by decide +kernel
theorem dX8_read_10 : decode cX8_read 10 = .ok (.aload_n 0, 1) := by decide +kernel
theorem dX8_read_11 : decode cX8_read 11 = .ok (.iconst 0, 1) := by decide +kernel
theorem dX8_read_12 : decode cX8_read 12 = .ok (.putfield 182, 3) := by decide +kernel
theorem dX8_read_15 : decode cX8_read 15 = .ok (.aload_n 0, 1) := by decide +kernel
theorem dX8_read_16 : decode cX8_read 16 = .ok (.invokevirtual 170, 3) := by decide +kernel
theorem dX8_read_19 : decode cX8_read 19 = .ok (.aload_n 0, 1) := by decide +kernel
theorem dX8_read_20 : decode cX8_read 20 = .ok (.getfield 182, 3) := by decide +kernel
theorem dX8_read_23 : decode cX8_read 23 = .ok (.ifCond .eq 10, 3) := by decide +kernel
theorem dX8_read_26 : decode cX8_read 26 = .ok (.aload_n 0, 1) := by decide +kernel
theorem dX8_read_27 : decode cX8_read 27 = .ok (.getfield 173, 3) := by decide +kernel
theorem dX8_read_30 : decode cX8_read 30 = .ok (.ifCond .le 46, 3) := by decide +kernel
theorem dX8_read_33 : decode cX8_read 33 = .ok (.aload_n 0, 1) := by decide +kernel
theorem dX8_read_34 : decode cX8_read 34 = .ok (.iconst 0, 1) := by decide +kernel
theorem dX8_read_35 : decode cX8_read 35 = .ok (.putfield 182, 3) := by decide +kernel
theorem dX8_read_38 : decode cX8_read 38 = .ok (.aload_n 0, 1) := by decide +kernel
theorem dX8_read_39 : decode cX8_read 39 = .ok (.invokevirtual 206, 3) := by decide +kernel
theorem dX8_read_42 : decode cX8_read 42 = .ok (.istore_n 1, 1) := by decide +kernel
theorem dX8_read_43 : decode cX8_read 43 = .ok (.iload_n 1, 1) := by decide +kernel
theorem dX8_read_44 : decode cX8_read 44 = .ok (.ifCond .ne 23, 3) := by decide +kernel
theorem dX8_read_47 : decode cX8_read 47 = .ok (.aload_n 0, 1) := by decide +kernel
theorem dX8_read_48 : decode cX8_read 48 = .ok (.getfield 182, 3) := by decide +kernel
theorem dX8_read_51 : decode cX8_read 51 = .ok (.ifCond .eq 16, 3) := by decide +kernel
theorem dX8_read_54 : decode cX8_read 54 = .ok (.aload_n 0, 1) := by decide +kernel
theorem dX8_read_55 : decode cX8_read 55 = .ok (.invokevirtual 209, 3) := by decide +kernel
theorem dX8_read_58 : decode cX8_read 58 = .ok (.istore_n 1, 1) := by decide +kernel
theorem dX8_read_59 : decode cX8_read 59 = .ok (.iload_n 1, 1) := by decide +kernel
theorem dX8_read_60 : decode cX8_read 60 = .ok (.ifCond .ne 7, 3) := by decide +kernel
theorem dX8_read_63 : decode cX8_read 63 = .ok (.aload_n 0, 1) := by decide +kernel
theorem dX8_read_64 : decode cX8_read 64 = .ok (.invokevirtual 170, 3) := by decide +kernel
theorem dX8_read_67 : decode cX8_read 67 = .ok (.iload_n 1, 1) := by decide +kernel
theorem dX8_read_68 : decode cX8_read 68 = .ok (.ifCond .eq 5, 3) := by decide +kernel
theorem dX8_read_71 : decode cX8_read 71 = .ok (.iload_n 1, 1) := by decide +kernel
theorem dX8_read_72 : decode cX8_read 72 = .ok (.ireturn, 1) := by decide +kernel
theorem dX8_read_73 : decode cX8_read 73 = .ok (.goto (-54), 3) := by decide +kernel
theorem dX8_read_76 : decode cX8_read 76 = .ok (.aload_n 0, 1) := by decide +kernel
theorem dX8_read_77 : decode cX8_read 77 = .ok (.getfield 157, 3) := by decide +kernel
theorem dX8_read_80 : decode cX8_read 80 = .ok (.ifCond .ne 7, 3) := by decide +kernel
theorem dX8_read_83 : decode cX8_read 83 = .ok (.iconst 0, 1) := by decide +kernel
theorem dX8_read_84 : decode cX8_read 84 = .ok (.goto 4, 3) := by decide +kernel
theorem dX8_read_87 : decode cX8_read 87 = .ok (.iconst 1, 1) := by decide +kernel
theorem dX8_read_88 : decode cX8_read 88 = .ok (.ireturn, 1) := by decide +kernel
theorem dX8_isTold_0 : decode cX8_isTold 0 = .ok (.aload_n 0, 1) := by decide +kernel
theorem dX8_isTold_1 : decode cX8_isTold 1 = .ok (.iload_n 1, 1) := by decide +kernel
theorem dX8_isTold_2 : decode cX8_isTold 2 = .ok (.putfield 45, 3) := by decide +kernel
theorem dX8_isTold_5 : decode cX8_isTold 5 = .ok (.aload_n 0, 1) := by decide +kernel
theorem dX8_isTold_6 : decode cX8_isTold 6 = .ok (.iload_n 1, 1) := by decide +kernel
theorem dX8_isTold_7 : decode cX8_isTold 7 = .ok (.ifCond .ne 7, 3) := by decide +kernel
theorem dX8_isTold_10 : decode cX8_isTold 10 = .ok (.iconst (-1), 1) := by decide +kernel
theorem dX8_isTold_11 : decode cX8_isTold 11 = .ok (.goto 7, 3) := by decide +kernel
theorem dX8_isTold_14 : decode cX8_isTold 14 = .ok (.aload_n 0, 1) := by decide +kernel
theorem dX8_isTold_15 : decode cX8_isTold 15 = .ok (.getfield 154, 3) := by decide +kernel
theorem dX8_isTold_18 : decode cX8_isTold 18 = .ok (.putfield 49, 3) := by decide +kernel
theorem dX8_isTold_21 : decode cX8_isTold 21 = .ok (.aload_n 0, 1) := by decide +kernel
theorem dX8_isTold_22 : decode cX8_isTold 22 = .ok (.iconst 0, 1) := by decide +kernel
theorem dX8_isTold_23 : decode cX8_isTold 23 = .ok (.putfield 121, 3) := by decide +kernel
theorem dX8_isTold_26 : decode cX8_isTold 26 = .ok (.iload_n 1, 1) := by decide +kernel
theorem dX8_isTold_27 : decode cX8_isTold 27 = .ok (.ifCond .eq 5, 3) := by decide +kernel
theorem dX8_isTold_30 : decode cX8_isTold 30 = .ok (.iconst 0, 1) := by decide +kernel
theorem dX8_isTold_31 : decode cX8_isTold 31 = .ok (.ireturn, 1) := by decide +kernel
theorem dX8_isTold_32 : decode cX8_isTold 32 = .ok (.aload_n 0, 1) := by decide +kernel
theorem dX8_isTold_33 : decode cX8_isTold 33 = .ok (.bipush 18, 2) := by decide +kernel
theorem dX8_isTold_35 : decode cX8_isTold 35 = .ok (.iconst 0, 1) := by decide +kernel
theorem dX8_isTold_36 : decode cX8_isTold 36 = .ok (.invokevirtual 128, 3) := by decide +kernel
theorem dX8_isTold_39 : decode cX8_isTold 39 = .ok (.iconst 0, 1) := by decide +kernel
theorem dX8_isTold_40 : decode cX8_isTold 40 = .ok (.istore_n 2, 1) := by decide +kernel
theorem dX8_isTold_41 : decode cX8_isTold 41 = .ok (.iload_n 2, 1) := by decide +kernel
theorem dX8_isTold_42 : decode cX8_isTold 42 = .ok (.sipush 289, 3) := by decide +kernel
theorem dX8_isTold_45 : decode cX8_isTold 45 = .ok (.if_icmp .ge 16, 3) := by decide +kernel
theorem dX8_isTold_48 : decode cX8_isTold 48 = .ok (.aload_n 0, 1) := by decide +kernel
theorem dX8_isTold_49 : decode cX8_isTold 49 = .ok (.getfield 20, 3) := by decide +kernel
theorem dX8_isTold_52 : decode cX8_isTold 52 = .ok (.iload_n 2, 1) := by decide +kernel
theorem dX8_isTold_53 : decode cX8_isTold 53 = .ok (.iconst 0, 1) := by decide +kernel
theorem dX8_isTold_54 : decode cX8_isTold 54 = .ok (.bastore, 1) := by decide +kernel
theorem dX8_isTold_55 : decode cX8_isTold 55 = .ok (.iinc 2 1, 3) := by decide +kernel
theorem dX8_isTold_58 : decode cX8_isTold 58 = .ok (.goto (-17), 3) := by decide +kernel
theorem dX8_isTold_61 : decode cX8_isTold 61 = .ok (.iconst 1, 1) := by decide +kernel
theorem dX8_isTold_62 : decode cX8_isTold 62 = .ok (.ireturn, 1) := by decide +kernel
theorem dX8_draw_0 : decode cX8_draw 0 = .ok (.aload_n 0, 1) := by decide +kernel
theorem dX8_draw_1 : decode cX8_draw 1 = .ok (.aload_n 0, 1) := by decide +kernel
theorem dX8_draw_2 : decode cX8_draw 2 = .ok (.invokevirtual 212, 3) := by decide +kernel
theorem dX8_draw_5 : decode cX8_draw 5 = .ok (.invokevirtual 215, 3) := by decide +kernel
theorem dX8_draw_8 : decode cX8_draw 8 = .ok (.ifCond .eq 19, 3) := by decide +kernel
theorem dX8_draw_11 : decode cX8_draw 11 = .ok (.aload_n 0, 1) := by decide +kernel
theorem dX8_draw_12 : decode cX8_draw 12 = .ok (.getfield 7, 3) := by decide +kernel
theorem dX8_draw_15 : decode cX8_draw 15 = .ok (.iconst 0, 1) := by decide +kernel
theorem dX8_draw_16 : decode cX8_draw 16 = .ok (.iaload, 1) := by decide +kernel
theorem dX8_draw_17 : decode cX8_draw 17 = .ok (.aload_n 0, 1) := by decide +kernel
theorem dX8_draw_18 : decode cX8_draw 18 = .ok (.getfield 13, 3) := by decide +kernel
theorem dX8_draw_21 : decode cX8_draw 21 = .ok (.iconst 0, 1) := by decide +kernel
theorem dX8_draw_22 : decode cX8_draw 22 = .ok (.iaload, 1) := by decide +kernel
theorem dX8_draw_23 : decode cX8_draw 23 = .ok (.imul, 1) := by decide +kernel
theorem dX8_draw_24 : decode cX8_draw 24 = .ok (.goto 4, 3) := by decide +kernel
theorem dX8_draw_27 : decode cX8_draw 27 = .ok (.iconst (-1), 1) := by decide +kernel
theorem dX8_draw_28 : decode cX8_draw 28 = .ok (.ireturn, 1) := by decide +kernel
theorem dX8_fault_0 : decode cX8_fault 0 = .ok (.iload_n 1, 1) := by decide +kernel
theorem dX8_fault_1 : decode cX8_fault 1 = .ok (.ifCond .ne 10, 3) := by decide +kernel
theorem dX8_fault_4 : decode cX8_fault 4 = .ok (.aload_n 0, 1) := by decide +kernel
theorem dX8_fault_5 : decode cX8_fault 5 = .ok (.getfield 45, 3) := by decide +kernel
theorem dX8_fault_8 : decode cX8_fault 8 = .ok (.goto 16, 3) := by decide +kernel
theorem dX8_fault_11 : decode cX8_fault 11 = .ok (.iload_n 1, 1) := by decide +kernel
theorem dX8_fault_12 : decode cX8_fault 12 = .ok (.iconst 1, 1) := by decide +kernel
theorem dX8_fault_13 : decode cX8_fault 13 = .ok (.if_icmp .ne 10, 3) := by decide +kernel
theorem dX8_fault_16 : decode cX8_fault 16 = .ok (.aload_n 0, 1) := by decide +kernel
theorem dX8_fault_17 : decode cX8_fault 17 = .ok (.getfield 49, 3) := by decide +kernel
theorem dX8_fault_20 : decode cX8_fault 20 = .ok (.goto 4, 3) := by decide +kernel
theorem dX8_fault_23 : decode cX8_fault 23 = .ok (.iconst (-1), 1) := by decide +kernel
theorem dX8_fault_24 : decode cX8_fault 24 = .ok (.ireturn, 1) := by decide +kernel
theorem dX8_bend_0 : decode cX8_bend 0 = .ok (.bipush 17, 2) := by decide +kernel
theorem dX8_bend_2 : decode cX8_bend 2 = .ok (.iload_n 2, 1) := by decide +kernel
theorem dX8_bend_3 : decode cX8_bend 3 = .ok (.imul, 1) := by decide +kernel
theorem dX8_bend_4 : decode cX8_bend 4 = .ok (.iload_n 1, 1) := by decide +kernel
theorem dX8_bend_5 : decode cX8_bend 5 = .ok (.iadd, 1) := by decide +kernel
theorem dX8_bend_6 : decode cX8_bend 6 = .ok (.istore 5, 2) := by decide +kernel
theorem dX8_bend_8 : decode cX8_bend 8 = .ok (.aload_n 0, 1) := by decide +kernel
theorem dX8_bend_9 : decode cX8_bend 9 = .ok (.bipush 18, 2) := by decide +kernel
theorem dX8_bend_11 : decode cX8_bend 11 = .ok (.iload_n 1, 1) := by decide +kernel
theorem dX8_bend_12 : decode cX8_bend 12 = .ok (.iload_n 2, 1) := by decide +kernel
theorem dX8_bend_13 : decode cX8_bend 13 = .ok (.invokevirtual 74, 3) := by decide +kernel
theorem dX8_bend_16 : decode cX8_bend 16 = .ok (.ifCond .eq 13, 3) := by decide +kernel
theorem dX8_bend_19 : decode cX8_bend 19 = .ok (.aload_n 0, 1) := by decide +kernel
theorem dX8_bend_20 : decode cX8_bend 20 = .ok (.getfield 67, 3) := by decide +kernel
theorem dX8_bend_23 : decode cX8_bend 23 = .ok (.iload 5, 2) := by decide +kernel
theorem dX8_bend_25 : decode cX8_bend 25 = .ok (.baload, 1) := by decide +kernel
theorem dX8_bend_26 : decode cX8_bend 26 = .ok (.ifCond .eq 4, 3) := by decide +kernel
theorem dX8_bend_29 : decode cX8_bend 29 = .ok (.return_, 1) := by decide +kernel
theorem dX8_bend_30 : decode cX8_bend 30 = .ok (.aload_n 0, 1) := by decide +kernel
theorem dX8_bend_31 : decode cX8_bend 31 = .ok (.getfield 67, 3) := by decide +kernel
theorem dX8_bend_34 : decode cX8_bend 34 = .ok (.iload 5, 2) := by decide +kernel
theorem dX8_bend_36 : decode cX8_bend 36 = .ok (.iconst 1, 1) := by decide +kernel
theorem dX8_bend_37 : decode cX8_bend 37 = .ok (.bastore, 1) := by decide +kernel
theorem dX8_bend_38 : decode cX8_bend 38 = .ok (.aload_n 0, 1) := by decide +kernel
theorem dX8_bend_39 : decode cX8_bend 39 = .ok (.getfield 16, 3) := by decide +kernel
theorem dX8_bend_42 : decode cX8_bend 42 = .ok (.sipush 5202, 3) := by decide +kernel
theorem dX8_bend_45 : decode cX8_bend 45 = .ok (.iload 5, 2) := by decide +kernel
theorem dX8_bend_47 : decode cX8_bend 47 = .ok (.iadd, 1) := by decide +kernel
theorem dX8_bend_48 : decode cX8_bend 48 = .ok (.iload_n 3, 1) := by decide +kernel
theorem dX8_bend_49 : decode cX8_bend 49 = .ok (.invokestatic 218, 3) := by decide +kernel
theorem dX8_bend_52 : decode cX8_bend 52 = .ok (.iload 4, 2) := by decide +kernel
theorem dX8_bend_54 : decode cX8_bend 54 = .ok (.invokestatic 218, 3) := by decide +kernel
theorem dX8_bend_57 : decode cX8_bend 57 = .ok (.if_icmp .eq 7, 3) := by decide +kernel
theorem dX8_bend_60 : decode cX8_bend 60 = .ok (.iconst 1, 1) := by decide +kernel
theorem dX8_bend_61 : decode cX8_bend 61 = .ok (.goto 20, 3) := by decide +kernel
theorem dX8_bend_64 : decode cX8_bend 64 = .ok (.iload_n 3, 1) := by decide +kernel
theorem dX8_bend_65 : decode cX8_bend 65 = .ok (.invokestatic 221, 3) := by decide +kernel
theorem dX8_bend_68 : decode cX8_bend 68 = .ok (.iload 4, 2) := by decide +kernel
theorem dX8_bend_70 : decode cX8_bend 70 = .ok (.invokestatic 221, 3) := by decide +kernel
theorem dX8_bend_73 : decode cX8_bend 73 = .ok (.if_icmp .eq 7, 3) := by decide +kernel
theorem dX8_bend_76 : decode cX8_bend 76 = .ok (.iconst 2, 1) := by decide +kernel
theorem dX8_bend_77 : decode cX8_bend 77 = .ok (.goto 4, 3) := by decide +kernel
theorem dX8_bend_80 : decode cX8_bend 80 = .ok (.iconst 0, 1) := by decide +kernel
theorem dX8_bend_81 : decode cX8_bend 81 = .ok (.i2b, 1) := by decide +kernel
theorem dX8_bend_82 : decode cX8_bend 82 = .ok (.bastore, 1) := by decide +kernel
theorem dX8_bend_83 : decode cX8_bend 83 = .ok (.aload_n 0, 1) := by decide +kernel
theorem dX8_bend_84 : decode cX8_bend 84 = .ok (.dup, 1) := by decide +kernel
theorem dX8_bend_85 : decode cX8_bend 85 = .ok (.getfield 224, 3) := by decide +kernel
theorem dX8_bend_88 : decode cX8_bend 88 = .ok (.iconst 1, 1) := by decide +kernel
theorem dX8_bend_89 : decode cX8_bend 89 = .ok (.iadd, 1) := by decide +kernel
theorem dX8_bend_90 : decode cX8_bend 90 = .ok (.putfield 224, 3) := by decide +kernel
theorem dX8_bend_93 : decode cX8_bend 93 = .ok (.return_, 1) := by decide +kernel
theorem dX8_dxOf_0 : decode cX8_dxOf 0 = .ok (.iload_n 0, 1) := by decide +kernel
theorem dX8_dxOf_1 : decode cX8_dxOf 1 = .ok (.bipush 97, 2) := by decide +kernel
theorem dX8_dxOf_3 : decode cX8_dxOf 3 = .ok (.if_icmp .eq 9, 3) := by decide +kernel
theorem dX8_dxOf_6 : decode cX8_dxOf 6 = .ok (.iload_n 0, 1) := by decide +kernel
theorem dX8_dxOf_7 : decode cX8_dxOf 7 = .ok (.bipush 100, 2) := by decide +kernel
theorem dX8_dxOf_9 : decode cX8_dxOf 9 = .ok (.if_icmp .ne 7, 3) := by decide +kernel
theorem dX8_dxOf_12 : decode cX8_dxOf 12 = .ok (.iconst 1, 1) := by decide +kernel
theorem dX8_dxOf_13 : decode cX8_dxOf 13 = .ok (.goto 4, 3) := by decide +kernel
theorem dX8_dxOf_16 : decode cX8_dxOf 16 = .ok (.iconst (-1), 1) := by decide +kernel
theorem dX8_dxOf_17 : decode cX8_dxOf 17 = .ok (.ireturn, 1) := by decide +kernel
theorem dX8_dyOf_0 : decode cX8_dyOf 0 = .ok (.iload_n 0, 1) := by decide +kernel
theorem dX8_dyOf_1 : decode cX8_dyOf 1 = .ok (.bipush 97, 2) := by decide +kernel
theorem dX8_dyOf_3 : decode cX8_dyOf 3 = .ok (.if_icmp .eq 9, 3) := by decide +kernel
theorem dX8_dyOf_6 : decode cX8_dyOf 6 = .ok (.iload_n 0, 1) := by decide +kernel
theorem dX8_dyOf_7 : decode cX8_dyOf 7 = .ok (.bipush 98, 2) := by decide +kernel
theorem dX8_dyOf_9 : decode cX8_dyOf 9 = .ok (.if_icmp .ne 7, 3) := by decide +kernel
theorem dX8_dyOf_12 : decode cX8_dyOf 12 = .ok (.iconst 1, 1) := by decide +kernel
theorem dX8_dyOf_13 : decode cX8_dyOf 13 = .ok (.goto 4, 3) := by decide +kernel
theorem dX8_dyOf_16 : decode cX8_dyOf 16 = .ok (.iconst (-1), 1) := by decide +kernel
theorem dX8_dyOf_17 : decode cX8_dyOf 17 = .ok (.ireturn, 1) := by decide +kernel
theorem dX8_walkBack_0 : decode cX8_walkBack 0 = .ok (.iload_n 1, 1) := by decide +kernel
theorem dX8_walkBack_1 : decode cX8_walkBack 1 = .ok (.istore_n 3, 1) := by decide +kernel
theorem dX8_walkBack_2 : decode cX8_walkBack 2 = .ok (.iload_n 2, 1) := by decide +kernel
theorem dX8_walkBack_3 : decode cX8_walkBack 3 = .ok (.istore 4, 2) := by decide +kernel
theorem dX8_walkBack_5 : decode cX8_walkBack 5 = .ok (.iconst 0, 1) := by decide +kernel
theorem dX8_walkBack_6 : decode cX8_walkBack 6 = .ok (.istore 5, 2) := by decide +kernel
theorem dX8_walkBack_8 : decode cX8_walkBack 8 = .ok (.iload 5, 2) := by decide +kernel
theorem dX8_walkBack_10 : decode cX8_walkBack 10 = .ok (.aload_n 0, 1) := by decide +kernel
theorem dX8_walkBack_11 : decode cX8_walkBack 11 = .ok (.getfield 121, 3) := by decide +kernel
theorem dX8_walkBack_14 : decode cX8_walkBack 14 = .ok (.if_icmp .ge 184, 3) := by decide +kernel
theorem dX8_walkBack_17 : decode cX8_walkBack 17 = .ok (.aload_n 0, 1) := by decide +kernel
theorem dX8_walkBack_18 : decode cX8_walkBack 18 = .ok (.getfield 42, 3) := by decide +kernel
theorem dX8_walkBack_21 : decode cX8_walkBack 21 = .ok (.iload 5, 2) := by decide +kernel
theorem dX8_walkBack_23 : decode cX8_walkBack 23 = .ok (.iaload, 1) := by decide +kernel
theorem dX8_walkBack_24 : decode cX8_walkBack 24 = .ok (.istore 6, 2) := by decide +kernel
theorem dX8_walkBack_26 : decode cX8_walkBack 26 = .ok (.aload_n 0, 1) := by decide +kernel
theorem dX8_walkBack_27 : decode cX8_walkBack 27 = .ok (.iload 5, 2) := by decide +kernel
theorem dX8_walkBack_29 : decode cX8_walkBack 29 = .ok (.putfield 154, 3) := by decide +kernel
theorem dX8_walkBack_32 : decode cX8_walkBack 32 = .ok (.iload 6, 2) := by decide +kernel
theorem dX8_walkBack_34 : decode cX8_walkBack 34 = .ok (.bipush 97, 2) := by decide +kernel
theorem dX8_walkBack_36 : decode cX8_walkBack 36 = .ok (.bipush 100, 2) := by decide +kernel
theorem dX8_walkBack_38 : decode cX8_walkBack 38 = .ok (.invokestatic 70, 3) := by decide +kernel
theorem dX8_walkBack_41 : decode cX8_walkBack 41 = .ok (.ifCond .ne 5, 3) := by decide +kernel
theorem dX8_walkBack_44 : decode cX8_walkBack 44 = .ok (.iconst 1, 1) := by decide +kernel
theorem dX8_walkBack_45 : decode cX8_walkBack 45 = .ok (.ireturn, 1) := by decide +kernel
theorem dX8_walkBack_46 : decode cX8_walkBack 46 = .ok (.iload_n 3, 1) := by decide +kernel
theorem dX8_walkBack_47 : decode cX8_walkBack 47 = .ok (.iload 6, 2) := by decide +kernel
theorem dX8_walkBack_49 : decode cX8_walkBack 49 = .ok (.invokestatic 218, 3) := by decide +kernel
theorem dX8_walkBack_52 : decode cX8_walkBack 52 = .ok (.iadd, 1) := by decide +kernel
theorem dX8_walkBack_53 : decode cX8_walkBack 53 = .ok (.istore 7, 2) := by decide +kernel
theorem dX8_walkBack_55 : decode cX8_walkBack 55 = .ok (.iload 4, 2) := by decide +kernel
theorem dX8_walkBack_57 : decode cX8_walkBack 57 = .ok (.iload 6, 2) := by decide +kernel
theorem dX8_walkBack_59 : decode cX8_walkBack 59 = .ok (.invokestatic 221, 3) := by decide +kernel
theorem dX8_walkBack_62 : decode cX8_walkBack 62 = .ok (.iadd, 1) := by decide +kernel
theorem dX8_walkBack_63 : decode cX8_walkBack 63 = .ok (.istore 8, 2) := by decide +kernel
theorem dX8_walkBack_65 : decode cX8_walkBack 65 = .ok (.iload 7, 2) := by decide +kernel
theorem dX8_walkBack_67 : decode cX8_walkBack 67 = .ok (.iconst 0, 1) := by decide +kernel
theorem dX8_walkBack_68 : decode cX8_walkBack 68 = .ok (.iconst 2, 1) := by decide +kernel
theorem dX8_walkBack_69 : decode cX8_walkBack 69 = .ok (.aload_n 0, 1) := by decide +kernel
theorem dX8_walkBack_70 : decode cX8_walkBack 70 = .ok (.getfield 7, 3) := by decide +kernel
theorem dX8_walkBack_73 : decode cX8_walkBack 73 = .ok (.bipush 18, 2) := by decide +kernel
theorem dX8_walkBack_75 : decode cX8_walkBack 75 = .ok (.iaload, 1) := by decide +kernel
theorem dX8_walkBack_76 : decode cX8_walkBack 76 = .ok (.imul, 1) := by decide +kernel
theorem dX8_walkBack_77 : decode cX8_walkBack 77 = .ok (.invokestatic 70, 3) := by decide +kernel
theorem dX8_walkBack_80 : decode cX8_walkBack 80 = .ok (.ifCond .eq 21, 3) := by decide +kernel
theorem dX8_walkBack_83 : decode cX8_walkBack 83 = .ok (.iload 8, 2) := by decide +kernel
theorem dX8_walkBack_85 : decode cX8_walkBack 85 = .ok (.iconst 0, 1) := by decide +kernel
theorem dX8_walkBack_86 : decode cX8_walkBack 86 = .ok (.iconst 2, 1) := by decide +kernel
theorem dX8_walkBack_87 : decode cX8_walkBack 87 = .ok (.aload_n 0, 1) := by decide +kernel
theorem dX8_walkBack_88 : decode cX8_walkBack 88 = .ok (.getfield 13, 3) := by decide +kernel
theorem dX8_walkBack_91 : decode cX8_walkBack 91 = .ok (.bipush 18, 2) := by decide +kernel
theorem dX8_walkBack_93 : decode cX8_walkBack 93 = .ok (.iaload, 1) := by decide +kernel
theorem dX8_walkBack_94 : decode cX8_walkBack 94 = .ok (.imul, 1) := by decide +kernel
theorem dX8_walkBack_95 : decode cX8_walkBack 95 = .ok (.invokestatic 70, 3) := by decide +kernel
theorem dX8_walkBack_98 : decode cX8_walkBack 98 = .ok (.ifCond .ne 5, 3) := by decide +kernel
theorem dX8_walkBack_101 : decode cX8_walkBack 101 = .ok (.iconst 2, 1) := by decide +kernel
theorem dX8_walkBack_102 : decode cX8_walkBack 102 = .ok (.ireturn, 1) := by decide +kernel
theorem dX8_walkBack_103 : decode cX8_walkBack 103 = .ok (.iconst 2, 1) := by decide +kernel
theorem dX8_walkBack_104 : decode cX8_walkBack 104 = .ok (.aload_n 0, 1) := by decide +kernel
theorem dX8_walkBack_105 : decode cX8_walkBack 105 = .ok (.getfield 7, 3) := by decide +kernel
theorem dX8_walkBack_108 : decode cX8_walkBack 108 = .ok (.bipush 18, 2) := by decide +kernel
theorem dX8_walkBack_110 : decode cX8_walkBack 110 = .ok (.iaload, 1) := by decide +kernel
theorem dX8_walkBack_111 : decode cX8_walkBack 111 = .ok (.imul, 1) := by decide +kernel
theorem dX8_walkBack_112 : decode cX8_walkBack 112 = .ok (.iload 8, 2) := by decide +kernel
theorem dX8_walkBack_114 : decode cX8_walkBack 114 = .ok (.iload 4, 2) := by decide +kernel
theorem dX8_walkBack_116 : decode cX8_walkBack 116 = .ok (.if_icmp .ge 8, 3) := by decide +kernel
theorem dX8_walkBack_119 : decode cX8_walkBack 119 = .ok (.iload 8, 2) := by decide +kernel
theorem dX8_walkBack_121 : decode cX8_walkBack 121 = .ok (.goto 5, 3) := by decide +kernel
theorem dX8_walkBack_124 : decode cX8_walkBack 124 = .ok (.iload 4, 2) := by decide +kernel
theorem dX8_walkBack_126 : decode cX8_walkBack 126 = .ok (.imul, 1) := by decide +kernel
theorem dX8_walkBack_127 : decode cX8_walkBack 127 = .ok (.iload 7, 2) := by decide +kernel
theorem dX8_walkBack_129 : decode cX8_walkBack 129 = .ok (.iload_n 3, 1) := by decide +kernel
theorem dX8_walkBack_130 : decode cX8_walkBack 130 = .ok (.if_icmp .ge 8, 3) := by decide +kernel
theorem dX8_walkBack_133 : decode cX8_walkBack 133 = .ok (.iload 7, 2) := by decide +kernel
theorem dX8_walkBack_135 : decode cX8_walkBack 135 = .ok (.goto 4, 3) := by decide +kernel
theorem dX8_walkBack_138 : decode cX8_walkBack 138 = .ok (.iload_n 3, 1) := by decide +kernel
theorem dX8_walkBack_139 : decode cX8_walkBack 139 = .ok (.iadd, 1) := by decide +kernel
theorem dX8_walkBack_140 : decode cX8_walkBack 140 = .ok (.istore 9, 2) := by decide +kernel
theorem dX8_walkBack_142 : decode cX8_walkBack 142 = .ok (.aload_n 0, 1) := by decide +kernel
theorem dX8_walkBack_143 : decode cX8_walkBack 143 = .ok (.getfield 64, 3) := by decide +kernel
theorem dX8_walkBack_146 : decode cX8_walkBack 146 = .ok (.iload 9, 2) := by decide +kernel
theorem dX8_walkBack_148 : decode cX8_walkBack 148 = .ok (.baload, 1) := by decide +kernel
theorem dX8_walkBack_149 : decode cX8_walkBack 149 = .ok (.ifCond .eq 5, 3) := by decide +kernel
theorem dX8_walkBack_152 : decode cX8_walkBack 152 = .ok (.iconst 3, 1) := by decide +kernel
theorem dX8_walkBack_153 : decode cX8_walkBack 153 = .ok (.ireturn, 1) := by decide +kernel
theorem dX8_walkBack_154 : decode cX8_walkBack 154 = .ok (.iload 5, 2) := by decide +kernel
theorem dX8_walkBack_156 : decode cX8_walkBack 156 = .ok (.ifCond .le 21, 3) := by decide +kernel
theorem dX8_walkBack_159 : decode cX8_walkBack 159 = .ok (.aload_n 0, 1) := by decide +kernel
theorem dX8_walkBack_160 : decode cX8_walkBack 160 = .ok (.iload_n 3, 1) := by decide +kernel
theorem dX8_walkBack_161 : decode cX8_walkBack 161 = .ok (.iload 4, 2) := by decide +kernel
theorem dX8_walkBack_163 : decode cX8_walkBack 163 = .ok (.aload_n 0, 1) := by decide +kernel
theorem dX8_walkBack_164 : decode cX8_walkBack 164 = .ok (.getfield 42, 3) := by decide +kernel
theorem dX8_walkBack_167 : decode cX8_walkBack 167 = .ok (.iload 5, 2) := by decide +kernel
theorem dX8_walkBack_169 : decode cX8_walkBack 169 = .ok (.iconst 1, 1) := by decide +kernel
theorem dX8_walkBack_170 : decode cX8_walkBack 170 = .ok (.isub, 1) := by decide +kernel
theorem dX8_walkBack_171 : decode cX8_walkBack 171 = .ok (.iaload, 1) := by decide +kernel
theorem dX8_walkBack_172 : decode cX8_walkBack 172 = .ok (.iload 6, 2) := by decide +kernel
theorem dX8_walkBack_174 : decode cX8_walkBack 174 = .ok (.invokevirtual 227, 3) := by decide +kernel
theorem dX8_walkBack_177 : decode cX8_walkBack 177 = .ok (.aload_n 0, 1) := by decide +kernel
theorem dX8_walkBack_178 : decode cX8_walkBack 178 = .ok (.getfield 64, 3) := by decide +kernel
theorem dX8_walkBack_181 : decode cX8_walkBack 181 = .ok (.iload 9, 2) := by decide +kernel
theorem dX8_walkBack_183 : decode cX8_walkBack 183 = .ok (.iconst 1, 1) := by decide +kernel
theorem dX8_walkBack_184 : decode cX8_walkBack 184 = .ok (.bastore, 1) := by decide +kernel
theorem dX8_walkBack_185 : decode cX8_walkBack 185 = .ok (.iload 7, 2) := by decide +kernel
theorem dX8_walkBack_187 : decode cX8_walkBack 187 = .ok (.istore_n 3, 1) := by decide +kernel
theorem dX8_walkBack_188 : decode cX8_walkBack 188 = .ok (.iload 8, 2) := by decide +kernel
theorem dX8_walkBack_190 : decode cX8_walkBack 190 = .ok (.istore 4, 2) := by decide +kernel
theorem dX8_walkBack_192 : decode cX8_walkBack 192 = .ok (.iinc 5 1, 3) := by decide +kernel
theorem dX8_walkBack_195 : decode cX8_walkBack 195 = .ok (.goto (-187), 3) := by decide +kernel
theorem dX8_walkBack_198 : decode cX8_walkBack 198 = .ok (.aload_n 0, 1) := by decide +kernel
theorem dX8_walkBack_199 : decode cX8_walkBack 199 = .ok (.aload_n 0, 1) := by decide +kernel
theorem dX8_walkBack_200 : decode cX8_walkBack 200 = .ok (.getfield 121, 3) := by decide +kernel
theorem dX8_walkBack_203 : decode cX8_walkBack 203 = .ok (.putfield 154, 3) := by decide +kernel
theorem dX8_walkBack_206 : decode cX8_walkBack 206 = .ok (.aload_n 0, 1) := by decide +kernel
theorem dX8_walkBack_207 : decode cX8_walkBack 207 = .ok (.getfield 121, 3) := by decide +kernel
theorem dX8_walkBack_210 : decode cX8_walkBack 210 = .ok (.ifCond .eq 14, 3) := by decide +kernel
theorem dX8_walkBack_213 : decode cX8_walkBack 213 = .ok (.iload_n 3, 1) := by decide +kernel
theorem dX8_walkBack_214 : decode cX8_walkBack 214 = .ok (.iload_n 1, 1) := by decide +kernel
theorem dX8_walkBack_215 : decode cX8_walkBack 215 = .ok (.if_icmp .ne 9, 3) := by decide +kernel
theorem dX8_walkBack_218 : decode cX8_walkBack 218 = .ok (.iload 4, 2) := by decide +kernel
theorem dX8_walkBack_220 : decode cX8_walkBack 220 = .ok (.iload_n 2, 1) := by decide +kernel
theorem dX8_walkBack_221 : decode cX8_walkBack 221 = .ok (.if_icmp .eq 5, 3) := by decide +kernel
theorem dX8_walkBack_224 : decode cX8_walkBack 224 = .ok (.iconst 4, 1) := by decide +kernel
theorem dX8_walkBack_225 : decode cX8_walkBack 225 = .ok (.ireturn, 1) := by decide +kernel
theorem dX8_walkBack_226 : decode cX8_walkBack 226 = .ok (.aload_n 0, 1) := by decide +kernel
theorem dX8_walkBack_227 : decode cX8_walkBack 227 = .ok (.iload_n 3, 1) := by decide +kernel
theorem dX8_walkBack_228 : decode cX8_walkBack 228 = .ok (.iload 4, 2) := by decide +kernel
theorem dX8_walkBack_230 : decode cX8_walkBack 230 = .ok (.aload_n 0, 1) := by decide +kernel
theorem dX8_walkBack_231 : decode cX8_walkBack 231 = .ok (.getfield 42, 3) := by decide +kernel
theorem dX8_walkBack_234 : decode cX8_walkBack 234 = .ok (.aload_n 0, 1) := by decide +kernel
theorem dX8_walkBack_235 : decode cX8_walkBack 235 = .ok (.getfield 121, 3) := by decide +kernel
theorem dX8_walkBack_238 : decode cX8_walkBack 238 = .ok (.iconst 1, 1) := by decide +kernel
theorem dX8_walkBack_239 : decode cX8_walkBack 239 = .ok (.isub, 1) := by decide +kernel
theorem dX8_walkBack_240 : decode cX8_walkBack 240 = .ok (.iaload, 1) := by decide +kernel
theorem dX8_walkBack_241 : decode cX8_walkBack 241 = .ok (.aload_n 0, 1) := by decide +kernel
theorem dX8_walkBack_242 : decode cX8_walkBack 242 = .ok (.getfield 42, 3) := by decide +kernel
theorem dX8_walkBack_245 : decode cX8_walkBack 245 = .ok (.iconst 0, 1) := by decide +kernel
theorem dX8_walkBack_246 : decode cX8_walkBack 246 = .ok (.iaload, 1) := by decide +kernel
theorem dX8_walkBack_247 : decode cX8_walkBack 247 = .ok (.invokevirtual 227, 3) := by decide +kernel
theorem dX8_walkBack_250 : decode cX8_walkBack 250 = .ok (.iconst 0, 1) := by decide +kernel
theorem dX8_walkBack_251 : decode cX8_walkBack 251 = .ok (.ireturn, 1) := by decide +kernel
theorem dX8_back_0 : decode cX8_back 0 = .ok (.iload_n 1, 1) := by decide +kernel
theorem dX8_back_1 : decode cX8_back 1 = .ok (.iconst 1, 1) := by decide +kernel
theorem dX8_back_2 : decode cX8_back 2 = .ok (.bipush 8, 2) := by decide +kernel
theorem dX8_back_4 : decode cX8_back 4 = .ok (.invokestatic 70, 3) := by decide +kernel
theorem dX8_back_7 : decode cX8_back 7 = .ok (.ifCond .eq 45, 3) := by decide +kernel
theorem dX8_back_10 : decode cX8_back 10 = .ok (.iload_n 2, 1) := by decide +kernel
theorem dX8_back_11 : decode cX8_back 11 = .ok (.iconst 1, 1) := by decide +kernel
theorem dX8_back_12 : decode cX8_back 12 = .ok (.bipush 8, 2) := by decide +kernel
theorem dX8_back_14 : decode cX8_back 14 = .ok (.invokestatic 70, 3) := by decide +kernel
theorem dX8_back_17 : decode cX8_back 17 = .ok (.ifCond .eq 35, 3) := by decide +kernel
theorem dX8_back_20 : decode cX8_back 20 = .ok (.iload_n 3, 1) := by decide +kernel
theorem dX8_back_21 : decode cX8_back 21 = .ok (.iconst 0, 1) := by decide +kernel
theorem dX8_back_22 : decode cX8_back 22 = .ok (.iconst 2, 1) := by decide +kernel
theorem dX8_back_23 : decode cX8_back 23 = .ok (.iload_n 1, 1) := by decide +kernel
theorem dX8_back_24 : decode cX8_back 24 = .ok (.imul, 1) := by decide +kernel
theorem dX8_back_25 : decode cX8_back 25 = .ok (.invokestatic 70, 3) := by decide +kernel
theorem dX8_back_28 : decode cX8_back 28 = .ok (.ifCond .eq 24, 3) := by decide +kernel
theorem dX8_back_31 : decode cX8_back 31 = .ok (.iload 4, 2) := by decide +kernel
theorem dX8_back_33 : decode cX8_back 33 = .ok (.iconst 0, 1) := by decide +kernel
theorem dX8_back_34 : decode cX8_back 34 = .ok (.iconst 2, 1) := by decide +kernel
theorem dX8_back_35 : decode cX8_back 35 = .ok (.iload_n 2, 1) := by decide +kernel
theorem dX8_back_36 : decode cX8_back 36 = .ok (.imul, 1) := by decide +kernel
theorem dX8_back_37 : decode cX8_back 37 = .ok (.invokestatic 70, 3) := by decide +kernel
theorem dX8_back_40 : decode cX8_back 40 = .ok (.ifCond .eq 12, 3) := by decide +kernel
theorem dX8_back_43 : decode cX8_back 43 = .ok (.iload_n 3, 1) := by decide +kernel
theorem dX8_back_44 : decode cX8_back 44 = .ok (.iload 4, 2) := by decide +kernel
theorem dX8_back_46 : decode cX8_back 46 = .ok (.iadd, 1) := by decide +kernel
theorem dX8_back_47 : decode cX8_back 47 = .ok (.iconst 2, 1) := by decide +kernel
theorem dX8_back_48 : decode cX8_back 48 = .ok (.irem, 1) := by decide +kernel
theorem dX8_back_49 : decode cX8_back 49 = .ok (.ifCond .ne 5, 3) := by decide +kernel
theorem dX8_back_52 : decode cX8_back 52 = .ok (.iconst (-1), 1) := by decide +kernel
theorem dX8_back_53 : decode cX8_back 53 = .ok (.ireturn, 1) := by decide +kernel
theorem dX8_back_54 : decode cX8_back 54 = .ok (.aload_n 0, 1) := by decide +kernel
theorem dX8_back_55 : decode cX8_back 55 = .ok (.bipush 18, 2) := by decide +kernel
theorem dX8_back_57 : decode cX8_back 57 = .ok (.iload_n 1, 1) := by decide +kernel
theorem dX8_back_58 : decode cX8_back 58 = .ok (.iload_n 2, 1) := by decide +kernel
theorem dX8_back_59 : decode cX8_back 59 = .ok (.invokevirtual 132, 3) := by decide +kernel
theorem dX8_back_62 : decode cX8_back 62 = .ok (.iconst 0, 1) := by decide +kernel
theorem dX8_back_63 : decode cX8_back 63 = .ok (.istore 5, 2) := by decide +kernel
theorem dX8_back_65 : decode cX8_back 65 = .ok (.iload 5, 2) := by decide +kernel
theorem dX8_back_67 : decode cX8_back 67 = .ok (.sipush 256, 3) := by decide +kernel
theorem dX8_back_70 : decode cX8_back 70 = .ok (.if_icmp .ge 17, 3) := by decide +kernel
theorem dX8_back_73 : decode cX8_back 73 = .ok (.aload_n 0, 1) := by decide +kernel
theorem dX8_back_74 : decode cX8_back 74 = .ok (.getfield 64, 3) := by decide +kernel
theorem dX8_back_77 : decode cX8_back 77 = .ok (.iload 5, 2) := by decide +kernel
theorem dX8_back_79 : decode cX8_back 79 = .ok (.iconst 0, 1) := by decide +kernel
theorem dX8_back_80 : decode cX8_back 80 = .ok (.bastore, 1) := by decide +kernel
theorem dX8_back_81 : decode cX8_back 81 = .ok (.iinc 5 1, 3) := by decide +kernel
theorem dX8_back_84 : decode cX8_back 84 = .ok (.goto (-19), 3) := by decide +kernel
theorem dX8_back_87 : decode cX8_back 87 = .ok (.iconst 0, 1) := by decide +kernel
theorem dX8_back_88 : decode cX8_back 88 = .ok (.istore 5, 2) := by decide +kernel
theorem dX8_back_90 : decode cX8_back 90 = .ok (.iload 5, 2) := by decide +kernel
theorem dX8_back_92 : decode cX8_back 92 = .ok (.sipush 289, 3) := by decide +kernel
theorem dX8_back_95 : decode cX8_back 95 = .ok (.if_icmp .ge 17, 3) := by decide +kernel
theorem dX8_back_98 : decode cX8_back 98 = .ok (.aload_n 0, 1) := by decide +kernel
theorem dX8_back_99 : decode cX8_back 99 = .ok (.getfield 67, 3) := by decide +kernel
theorem dX8_back_102 : decode cX8_back 102 = .ok (.iload 5, 2) := by decide +kernel
theorem dX8_back_104 : decode cX8_back 104 = .ok (.iconst 0, 1) := by decide +kernel
theorem dX8_back_105 : decode cX8_back 105 = .ok (.bastore, 1) := by decide +kernel
theorem dX8_back_106 : decode cX8_back 106 = .ok (.iinc 5 1, 3) := by decide +kernel
theorem dX8_back_109 : decode cX8_back 109 = .ok (.goto (-19), 3) := by decide +kernel
theorem dX8_back_112 : decode cX8_back 112 = .ok (.aload_n 0, 1) := by decide +kernel
theorem dX8_back_113 : decode cX8_back 113 = .ok (.iconst 0, 1) := by decide +kernel
theorem dX8_back_114 : decode cX8_back 114 = .ok (.putfield 224, 3) := by decide +kernel
theorem dX8_back_117 : decode cX8_back 117 = .ok (.aload_n 0, 1) := by decide +kernel
theorem dX8_back_118 : decode cX8_back 118 = .ok (.aload_n 0, 1) := by decide +kernel
theorem dX8_back_119 : decode cX8_back 119 = .ok (.iload_n 3, 1) := by decide +kernel
theorem dX8_back_120 : decode cX8_back 120 = .ok (.iload 4, 2) := by decide +kernel
theorem dX8_back_122 : decode cX8_back 122 = .ok (.invokevirtual 230, 3) := by decide +kernel
theorem dX8_back_125 : decode cX8_back 125 = .ok (.invokevirtual 215, 3) := by decide +kernel
theorem dX8_back_128 : decode cX8_back 128 = .ok (.ifCond .eq 10, 3) := by decide +kernel
theorem dX8_back_131 : decode cX8_back 131 = .ok (.aload_n 0, 1) := by decide +kernel
theorem dX8_back_132 : decode cX8_back 132 = .ok (.getfield 224, 3) := by decide +kernel
theorem dX8_back_135 : decode cX8_back 135 = .ok (.goto 4, 3) := by decide +kernel
theorem dX8_back_138 : decode cX8_back 138 = .ok (.iconst (-1), 1) := by decide +kernel
theorem dX8_back_139 : decode cX8_back 139 = .ok (.ireturn, 1) := by decide +kernel
theorem dX8_keep_0 : decode cX8_keep 0 = .ok (.iload_n 1, 1) := by decide +kernel
theorem dX8_keep_1 : decode cX8_keep 1 = .ok (.iconst 0, 1) := by decide +kernel
theorem dX8_keep_2 : decode cX8_keep 2 = .ok (.bipush 7, 2) := by decide +kernel
theorem dX8_keep_4 : decode cX8_keep 4 = .ok (.invokestatic 70, 3) := by decide +kernel
theorem dX8_keep_7 : decode cX8_keep 7 = .ok (.ifCond .ne 5, 3) := by decide +kernel
theorem dX8_keep_10 : decode cX8_keep 10 = .ok (.iconst 0, 1) := by decide +kernel
theorem dX8_keep_11 : decode cX8_keep 11 = .ok (.ireturn, 1) := by decide +kernel
theorem dX8_keep_12 : decode cX8_keep 12 = .ok (.aload_n 0, 1) := by decide +kernel
theorem dX8_keep_13 : decode cX8_keep 13 = .ok (.iconst 0, 1) := by decide +kernel
theorem dX8_keep_14 : decode cX8_keep 14 = .ok (.iconst 1, 1) := by decide +kernel
theorem dX8_keep_15 : decode cX8_keep 15 = .ok (.iload_n 1, 1) := by decide +kernel
theorem dX8_keep_16 : decode cX8_keep 16 = .ok (.iadd, 1) := by decide +kernel
theorem dX8_keep_17 : decode cX8_keep 17 = .ok (.invokevirtual 128, 3) := by decide +kernel
theorem dX8_keep_20 : decode cX8_keep 20 = .ok (.iconst 1, 1) := by decide +kernel
theorem dX8_keep_21 : decode cX8_keep 21 = .ok (.ireturn, 1) := by decide +kernel
theorem dX8_isSame_0 : decode cX8_isSame 0 = .ok (.aload_n 0, 1) := by decide +kernel
theorem dX8_isSame_1 : decode cX8_isSame 1 = .ok (.getfield 7, 3) := by decide +kernel
theorem dX8_isSame_4 : decode cX8_isSame 4 = .ok (.iload_n 1, 1) := by decide +kernel
theorem dX8_isSame_5 : decode cX8_isSame 5 = .ok (.iaload, 1) := by decide +kernel
theorem dX8_isSame_6 : decode cX8_isSame 6 = .ok (.aload_n 0, 1) := by decide +kernel
theorem dX8_isSame_7 : decode cX8_isSame 7 = .ok (.getfield 7, 3) := by decide +kernel
theorem dX8_isSame_10 : decode cX8_isSame 10 = .ok (.iload_n 2, 1) := by decide +kernel
theorem dX8_isSame_11 : decode cX8_isSame 11 = .ok (.iaload, 1) := by decide +kernel
theorem dX8_isSame_12 : decode cX8_isSame 12 = .ok (.if_icmp .ne 18, 3) := by decide +kernel
theorem dX8_isSame_15 : decode cX8_isSame 15 = .ok (.aload_n 0, 1) := by decide +kernel
theorem dX8_isSame_16 : decode cX8_isSame 16 = .ok (.getfield 13, 3) := by decide +kernel
theorem dX8_isSame_19 : decode cX8_isSame 19 = .ok (.iload_n 1, 1) := by decide +kernel
theorem dX8_isSame_20 : decode cX8_isSame 20 = .ok (.iaload, 1) := by decide +kernel
theorem dX8_isSame_21 : decode cX8_isSame 21 = .ok (.aload_n 0, 1) := by decide +kernel
theorem dX8_isSame_22 : decode cX8_isSame 22 = .ok (.getfield 13, 3) := by decide +kernel
theorem dX8_isSame_25 : decode cX8_isSame 25 = .ok (.iload_n 2, 1) := by decide +kernel
theorem dX8_isSame_26 : decode cX8_isSame 26 = .ok (.iaload, 1) := by decide +kernel
theorem dX8_isSame_27 : decode cX8_isSame 27 = .ok (.if_icmp .eq 5, 3) := by decide +kernel
theorem dX8_isSame_30 : decode cX8_isSame 30 = .ok (.iconst 0, 1) := by decide +kernel
theorem dX8_isSame_31 : decode cX8_isSame 31 = .ok (.ireturn, 1) := by decide +kernel
theorem dX8_isSame_32 : decode cX8_isSame 32 = .ok (.iconst 0, 1) := by decide +kernel
theorem dX8_isSame_33 : decode cX8_isSame 33 = .ok (.istore_n 3, 1) := by decide +kernel
theorem dX8_isSame_34 : decode cX8_isSame 34 = .ok (.iload_n 3, 1) := by decide +kernel
theorem dX8_isSame_35 : decode cX8_isSame 35 = .ok (.sipush 289, 3) := by decide +kernel
theorem dX8_isSame_38 : decode cX8_isSame 38 = .ok (.if_icmp .ge 38, 3) := by decide +kernel
theorem dX8_isSame_41 : decode cX8_isSame 41 = .ok (.aload_n 0, 1) := by decide +kernel
theorem dX8_isSame_42 : decode cX8_isSame 42 = .ok (.getfield 16, 3) := by decide +kernel
theorem dX8_isSame_45 : decode cX8_isSame 45 = .ok (.sipush 289, 3) := by decide +kernel
theorem dX8_isSame_48 : decode cX8_isSame 48 = .ok (.iload_n 1, 1) := by decide +kernel
theorem dX8_isSame_49 : decode cX8_isSame 49 = .ok (.imul, 1) := by decide +kernel
theorem dX8_isSame_50 : decode cX8_isSame 50 = .ok (.iload_n 3, 1) := by decide +kernel
theorem dX8_isSame_51 : decode cX8_isSame 51 = .ok (.iadd, 1) := by decide +kernel
theorem dX8_isSame_52 : decode cX8_isSame 52 = .ok (.baload, 1) := by decide +kernel
theorem dX8_isSame_53 : decode cX8_isSame 53 = .ok (.aload_n 0, 1) := by decide +kernel
theorem dX8_isSame_54 : decode cX8_isSame 54 = .ok (.getfield 16, 3) := by decide +kernel
theorem dX8_isSame_57 : decode cX8_isSame 57 = .ok (.sipush 289, 3) := by decide +kernel
theorem dX8_isSame_60 : decode cX8_isSame 60 = .ok (.iload_n 2, 1) := by decide +kernel
theorem dX8_isSame_61 : decode cX8_isSame 61 = .ok (.imul, 1) := by decide +kernel
theorem dX8_isSame_62 : decode cX8_isSame 62 = .ok (.iload_n 3, 1) := by decide +kernel
theorem dX8_isSame_63 : decode cX8_isSame 63 = .ok (.iadd, 1) := by decide +kernel
theorem dX8_isSame_64 : decode cX8_isSame 64 = .ok (.baload, 1) := by decide +kernel
theorem dX8_isSame_65 : decode cX8_isSame 65 = .ok (.if_icmp .eq 5, 3) := by decide +kernel
theorem dX8_isSame_68 : decode cX8_isSame 68 = .ok (.iconst 0, 1) := by decide +kernel
theorem dX8_isSame_69 : decode cX8_isSame 69 = .ok (.ireturn, 1) := by decide +kernel
theorem dX8_isSame_70 : decode cX8_isSame 70 = .ok (.iinc 3 1, 3) := by decide +kernel
theorem dX8_isSame_73 : decode cX8_isSame 73 = .ok (.goto (-39), 3) := by decide +kernel
theorem dX8_isSame_76 : decode cX8_isSame 76 = .ok (.iconst 1, 1) := by decide +kernel
theorem dX8_isSame_77 : decode cX8_isSame 77 = .ok (.ireturn, 1) := by decide +kernel
theorem dX8_ways_0 : decode cX8_ways 0 = .ok (.iconst 0, 1) := by decide +kernel
theorem dX8_ways_1 : decode cX8_ways 1 = .ok (.istore_n 2, 1) := by decide +kernel
theorem dX8_ways_2 : decode cX8_ways 2 = .ok (.aload_n 0, 1) := by decide +kernel
theorem dX8_ways_3 : decode cX8_ways 3 = .ok (.iconst 0, 1) := by decide +kernel
theorem dX8_ways_4 : decode cX8_ways 4 = .ok (.bipush 18, 2) := by decide +kernel
theorem dX8_ways_6 : decode cX8_ways 6 = .ok (.invokevirtual 128, 3) := by decide +kernel
theorem dX8_ways_9 : decode cX8_ways 9 = .ok (.iconst 0, 1) := by decide +kernel
theorem dX8_ways_10 : decode cX8_ways 10 = .ok (.istore_n 3, 1) := by decide +kernel
theorem dX8_ways_11 : decode cX8_ways 11 = .ok (.iload_n 3, 1) := by decide +kernel
theorem dX8_ways_12 : decode cX8_ways 12 = .ok (.iconst 4, 1) := by decide +kernel
theorem dX8_ways_13 : decode cX8_ways 13 = .ok (.if_icmp .ge 63, 3) := by decide +kernel
theorem dX8_ways_16 : decode cX8_ways 16 = .ok (.iload_n 2, 1) := by decide +kernel
theorem dX8_ways_17 : decode cX8_ways 17 = .ok (.aload_n 0, 1) := by decide +kernel
theorem dX8_ways_18 : decode cX8_ways 18 = .ok (.bipush 18, 2) := by decide +kernel
theorem dX8_ways_20 : decode cX8_ways 20 = .ok (.iload_n 1, 1) := by decide +kernel
theorem dX8_ways_21 : decode cX8_ways 21 = .ok (.invokevirtual 233, 3) := by decide +kernel
theorem dX8_ways_24 : decode cX8_ways 24 = .ok (.ifCond .eq 7, 3) := by decide +kernel
theorem dX8_ways_27 : decode cX8_ways 27 = .ok (.iconst 1, 1) := by decide +kernel
theorem dX8_ways_28 : decode cX8_ways 28 = .ok (.goto 4, 3) := by decide +kernel
theorem dX8_ways_31 : decode cX8_ways 31 = .ok (.iconst 0, 1) := by decide +kernel
theorem dX8_ways_32 : decode cX8_ways 32 = .ok (.iadd, 1) := by decide +kernel
theorem dX8_ways_33 : decode cX8_ways 33 = .ok (.istore_n 2, 1) := by decide +kernel
theorem dX8_ways_34 : decode cX8_ways 34 = .ok (.aload_n 0, 1) := by decide +kernel
theorem dX8_ways_35 : decode cX8_ways 35 = .ok (.bipush 18, 2) := by decide +kernel
theorem dX8_ways_37 : decode cX8_ways 37 = .ok (.invokevirtual 193, 3) := by decide +kernel
theorem dX8_ways_40 : decode cX8_ways 40 = .ok (.iload_n 2, 1) := by decide +kernel
theorem dX8_ways_41 : decode cX8_ways 41 = .ok (.aload_n 0, 1) := by decide +kernel
theorem dX8_ways_42 : decode cX8_ways 42 = .ok (.bipush 18, 2) := by decide +kernel
theorem dX8_ways_44 : decode cX8_ways 44 = .ok (.iload_n 1, 1) := by decide +kernel
theorem dX8_ways_45 : decode cX8_ways 45 = .ok (.invokevirtual 233, 3) := by decide +kernel
theorem dX8_ways_48 : decode cX8_ways 48 = .ok (.ifCond .eq 7, 3) := by decide +kernel
theorem dX8_ways_51 : decode cX8_ways 51 = .ok (.iconst 1, 1) := by decide +kernel
theorem dX8_ways_52 : decode cX8_ways 52 = .ok (.goto 4, 3) := by decide +kernel
theorem dX8_ways_55 : decode cX8_ways 55 = .ok (.iconst 0, 1) := by decide +kernel
theorem dX8_ways_56 : decode cX8_ways 56 = .ok (.iadd, 1) := by decide +kernel
theorem dX8_ways_57 : decode cX8_ways 57 = .ok (.istore_n 2, 1) := by decide +kernel
theorem dX8_ways_58 : decode cX8_ways 58 = .ok (.aload_n 0, 1) := by decide +kernel
theorem dX8_ways_59 : decode cX8_ways 59 = .ok (.bipush 18, 2) := by decide +kernel
theorem dX8_ways_61 : decode cX8_ways 61 = .ok (.invokevirtual 193, 3) := by decide +kernel
theorem dX8_ways_64 : decode cX8_ways 64 = .ok (.aload_n 0, 1) := by decide +kernel
theorem dX8_ways_65 : decode cX8_ways 65 = .ok (.bipush 18, 2) := by decide +kernel
theorem dX8_ways_67 : decode cX8_ways 67 = .ok (.invokevirtual 190, 3) := by decide +kernel
theorem dX8_ways_70 : decode cX8_ways 70 = .ok (.iinc 3 1, 3) := by decide +kernel
theorem dX8_ways_73 : decode cX8_ways 73 = .ok (.goto (-62), 3) := by decide +kernel
theorem dX8_ways_76 : decode cX8_ways 76 = .ok (.iload_n 2, 1) := by decide +kernel
theorem dX8_ways_77 : decode cX8_ways 77 = .ok (.ireturn, 1) := by decide +kernel
theorem dX8_like_0 : decode cX8_like 0 = .ok (.iload_n 1, 1) := by decide +kernel
theorem dX8_like_1 : decode cX8_like 1 = .ok (.iconst 0, 1) := by decide +kernel
theorem dX8_like_2 : decode cX8_like 2 = .ok (.bipush 7, 2) := by decide +kernel
theorem dX8_like_4 : decode cX8_like 4 = .ok (.invokestatic 70, 3) := by decide +kernel
theorem dX8_like_7 : decode cX8_like 7 = .ok (.ifCond .eq 23, 3) := by decide +kernel
theorem dX8_like_10 : decode cX8_like 10 = .ok (.aload_n 0, 1) := by decide +kernel
theorem dX8_like_11 : decode cX8_like 11 = .ok (.getfield 7, 3) := by decide +kernel
theorem dX8_like_14 : decode cX8_like 14 = .ok (.iconst 1, 1) := by decide +kernel
theorem dX8_like_15 : decode cX8_like 15 = .ok (.iload_n 1, 1) := by decide +kernel
theorem dX8_like_16 : decode cX8_like 16 = .ok (.iadd, 1) := by decide +kernel
theorem dX8_like_17 : decode cX8_like 17 = .ok (.iaload, 1) := by decide +kernel
theorem dX8_like_18 : decode cX8_like 18 = .ok (.ifCond .eq 12, 3) := by decide +kernel
theorem dX8_like_21 : decode cX8_like 21 = .ok (.iload_n 2, 1) := by decide +kernel
theorem dX8_like_22 : decode cX8_like 22 = .ok (.iconst 0, 1) := by decide +kernel
theorem dX8_like_23 : decode cX8_like 23 = .ok (.iconst 1, 1) := by decide +kernel
theorem dX8_like_24 : decode cX8_like 24 = .ok (.invokestatic 70, 3) := by decide +kernel
theorem dX8_like_27 : decode cX8_like 27 = .ok (.ifCond .ne 5, 3) := by decide +kernel
theorem dX8_like_30 : decode cX8_like 30 = .ok (.iconst (-1), 1) := by decide +kernel
theorem dX8_like_31 : decode cX8_like 31 = .ok (.ireturn, 1) := by decide +kernel
theorem dX8_like_32 : decode cX8_like 32 = .ok (.iload_n 2, 1) := by decide +kernel
theorem dX8_like_33 : decode cX8_like 33 = .ok (.ifCond .ne 17, 3) := by decide +kernel
theorem dX8_like_36 : decode cX8_like 36 = .ok (.aload_n 0, 1) := by decide +kernel
theorem dX8_like_37 : decode cX8_like 37 = .ok (.iconst 0, 1) := by decide +kernel
theorem dX8_like_38 : decode cX8_like 38 = .ok (.iconst 1, 1) := by decide +kernel
theorem dX8_like_39 : decode cX8_like 39 = .ok (.iload_n 1, 1) := by decide +kernel
theorem dX8_like_40 : decode cX8_like 40 = .ok (.iadd, 1) := by decide +kernel
theorem dX8_like_41 : decode cX8_like 41 = .ok (.invokevirtual 233, 3) := by decide +kernel
theorem dX8_like_44 : decode cX8_like 44 = .ok (.ifCond .eq 20, 3) := by decide +kernel
theorem dX8_like_47 : decode cX8_like 47 = .ok (.goto 13, 3) := by decide +kernel
theorem dX8_like_50 : decode cX8_like 50 = .ok (.aload_n 0, 1) := by decide +kernel
theorem dX8_like_51 : decode cX8_like 51 = .ok (.iconst 1, 1) := by decide +kernel
theorem dX8_like_52 : decode cX8_like 52 = .ok (.iload_n 1, 1) := by decide +kernel
theorem dX8_like_53 : decode cX8_like 53 = .ok (.iadd, 1) := by decide +kernel
theorem dX8_like_54 : decode cX8_like 54 = .ok (.invokevirtual 236, 3) := by decide +kernel
theorem dX8_like_57 : decode cX8_like 57 = .ok (.ifCond .le 7, 3) := by decide +kernel
theorem dX8_like_60 : decode cX8_like 60 = .ok (.iconst 1, 1) := by decide +kernel
theorem dX8_like_61 : decode cX8_like 61 = .ok (.goto 4, 3) := by decide +kernel
theorem dX8_like_64 : decode cX8_like 64 = .ok (.iconst 0, 1) := by decide +kernel
theorem dX8_like_65 : decode cX8_like 65 = .ok (.ireturn, 1) := by decide +kernel
theorem dX8_alike_0 : decode cX8_alike 0 = .ok (.aload_n 0, 1) := by decide +kernel
theorem dX8_alike_1 : decode cX8_alike 1 = .ok (.iconst 0, 1) := by decide +kernel
theorem dX8_alike_2 : decode cX8_alike 2 = .ok (.invokevirtual 236, 3) := by decide +kernel
theorem dX8_alike_5 : decode cX8_alike 5 = .ok (.ireturn, 1) := by decide +kernel
theorem dX8_about_0 : decode cX8_about 0 = .ok (.iconst 0, 1) := by decide +kernel
theorem dX8_about_1 : decode cX8_about 1 = .ok (.istore_n 2, 1) := by decide +kernel
theorem dX8_about_2 : decode cX8_about 2 = .ok (.iconst 0, 1) := by decide +kernel
theorem dX8_about_3 : decode cX8_about 3 = .ok (.istore_n 3, 1) := by decide +kernel
theorem dX8_about_4 : decode cX8_about 4 = .ok (.iload_n 3, 1) := by decide +kernel
theorem dX8_about_5 : decode cX8_about 5 = .ok (.bipush 17, 2) := by decide +kernel
theorem dX8_about_7 : decode cX8_about 7 = .ok (.if_icmp .ge 107, 3) := by decide +kernel
theorem dX8_about_10 : decode cX8_about 10 = .ok (.iload_n 1, 1) := by decide +kernel
theorem dX8_about_11 : decode cX8_about 11 = .ok (.iconst 1, 1) := by decide +kernel
theorem dX8_about_12 : decode cX8_about 12 = .ok (.if_icmp .le 102, 3) := by decide +kernel
theorem dX8_about_15 : decode cX8_about 15 = .ok (.iload_n 1, 1) := by decide +kernel
theorem dX8_about_16 : decode cX8_about 16 = .ok (.bipush 6, 2) := by decide +kernel
theorem dX8_about_18 : decode cX8_about 18 = .ok (.if_icmp .ge 96, 3) := by decide +kernel
theorem dX8_about_21 : decode cX8_about 21 = .ok (.iconst 0, 1) := by decide +kernel
theorem dX8_about_22 : decode cX8_about 22 = .ok (.istore 4, 2) := by decide +kernel
theorem dX8_about_24 : decode cX8_about 24 = .ok (.iload 4, 2) := by decide +kernel
theorem dX8_about_26 : decode cX8_about 26 = .ok (.bipush 17, 2) := by decide +kernel
theorem dX8_about_28 : decode cX8_about 28 = .ok (.if_icmp .ge 80, 3) := by decide +kernel
theorem dX8_about_31 : decode cX8_about 31 = .ok (.aload_n 0, 1) := by decide +kernel
theorem dX8_about_32 : decode cX8_about 32 = .ok (.getfield 16, 3) := by decide +kernel
theorem dX8_about_35 : decode cX8_about 35 = .ok (.iconst 0, 1) := by decide +kernel
theorem dX8_about_36 : decode cX8_about 36 = .ok (.iload 4, 2) := by decide +kernel
theorem dX8_about_38 : decode cX8_about 38 = .ok (.iload_n 3, 1) := by decide +kernel
theorem dX8_about_39 : decode cX8_about 39 = .ok (.invokestatic 77, 3) := by decide +kernel
theorem dX8_about_42 : decode cX8_about 42 = .ok (.baload, 1) := by decide +kernel
theorem dX8_about_43 : decode cX8_about 43 = .ok (.istore 5, 2) := by decide +kernel
theorem dX8_about_45 : decode cX8_about 45 = .ok (.iload_n 2, 1) := by decide +kernel
theorem dX8_about_46 : decode cX8_about 46 = .ok (.aload_n 0, 1) := by decide +kernel
theorem dX8_about_47 : decode cX8_about 47 = .ok (.iconst 0, 1) := by decide +kernel
theorem dX8_about_48 : decode cX8_about 48 = .ok (.iload 4, 2) := by decide +kernel
theorem dX8_about_50 : decode cX8_about 50 = .ok (.iload_n 3, 1) := by decide +kernel
theorem dX8_about_51 : decode cX8_about 51 = .ok (.invokevirtual 74, 3) := by decide +kernel
theorem dX8_about_54 : decode cX8_about 54 = .ok (.ifCond .eq 45, 3) := by decide +kernel
theorem dX8_about_57 : decode cX8_about 57 = .ok (.iload_n 1, 1) := by decide +kernel
theorem dX8_about_58 : decode cX8_about 58 = .ok (.iconst 2, 1) := by decide +kernel
theorem dX8_about_59 : decode cX8_about 59 = .ok (.if_icmp .eq 36, 3) := by decide +kernel
theorem dX8_about_62 : decode cX8_about 62 = .ok (.iload_n 1, 1) := by decide +kernel
theorem dX8_about_63 : decode cX8_about 63 = .ok (.iconst 5, 1) := by decide +kernel
theorem dX8_about_64 : decode cX8_about 64 = .ok (.if_icmp .ne 18, 3) := by decide +kernel
theorem dX8_about_67 : decode cX8_about 67 = .ok (.aload_n 0, 1) := by decide +kernel
theorem dX8_about_68 : decode cX8_about 68 = .ok (.getfield 20, 3) := by decide +kernel
theorem dX8_about_71 : decode cX8_about 71 = .ok (.iconst 0, 1) := by decide +kernel
theorem dX8_about_72 : decode cX8_about 72 = .ok (.iload 4, 2) := by decide +kernel
theorem dX8_about_74 : decode cX8_about 74 = .ok (.iload_n 3, 1) := by decide +kernel
theorem dX8_about_75 : decode cX8_about 75 = .ok (.invokestatic 77, 3) := by decide +kernel
theorem dX8_about_78 : decode cX8_about 78 = .ok (.baload, 1) := by decide +kernel
theorem dX8_about_79 : decode cX8_about 79 = .ok (.ifCond .ne 16, 3) := by decide +kernel
theorem dX8_about_82 : decode cX8_about 82 = .ok (.iload 5, 2) := by decide +kernel
theorem dX8_about_84 : decode cX8_about 84 = .ok (.iload_n 1, 1) := by decide +kernel
theorem dX8_about_85 : decode cX8_about 85 = .ok (.iconst 2, 1) := by decide +kernel
theorem dX8_about_86 : decode cX8_about 86 = .ok (.isub, 1) := by decide +kernel
theorem dX8_about_87 : decode cX8_about 87 = .ok (.if_icmp .ne 12, 3) := by decide +kernel
theorem dX8_about_90 : decode cX8_about 90 = .ok (.iload_n 1, 1) := by decide +kernel
theorem dX8_about_91 : decode cX8_about 91 = .ok (.iconst 5, 1) := by decide +kernel
theorem dX8_about_92 : decode cX8_about 92 = .ok (.if_icmp .ge 7, 3) := by decide +kernel
theorem dX8_about_95 : decode cX8_about 95 = .ok (.iconst 1, 1) := by decide +kernel
theorem dX8_about_96 : decode cX8_about 96 = .ok (.goto 4, 3) := by decide +kernel
theorem dX8_about_99 : decode cX8_about 99 = .ok (.iconst 0, 1) := by decide +kernel
theorem dX8_about_100 : decode cX8_about 100 = .ok (.iadd, 1) := by decide +kernel
theorem dX8_about_101 : decode cX8_about 101 = .ok (.istore_n 2, 1) := by decide +kernel
theorem dX8_about_102 : decode cX8_about 102 = .ok (.iinc 4 1, 3) := by decide +kernel
theorem dX8_about_105 : decode cX8_about 105 = .ok (.goto (-81), 3) := by decide +kernel
theorem dX8_about_108 : decode cX8_about 108 = .ok (.iinc 3 1, 3) := by decide +kernel
theorem dX8_about_111 : decode cX8_about 111 = .ok (.goto (-107), 3) := by decide +kernel
theorem dX8_about_114 : decode cX8_about 114 = .ok (.iconst 1, 1) := by decide +kernel
theorem dX8_about_115 : decode cX8_about 115 = .ok (.istore_n 3, 1) := by decide +kernel
theorem dX8_about_116 : decode cX8_about 116 = .ok (.iload_n 3, 1) := by decide +kernel
theorem dX8_about_117 : decode cX8_about 117 = .ok (.bipush 8, 2) := by decide +kernel
theorem dX8_about_119 : decode cX8_about 119 = .ok (.if_icmp .gt 32, 3) := by decide +kernel
theorem dX8_about_122 : decode cX8_about 122 = .ok (.iload_n 1, 1) := by decide +kernel
theorem dX8_about_123 : decode cX8_about 123 = .ok (.bipush 6, 2) := by decide +kernel
theorem dX8_about_125 : decode cX8_about 125 = .ok (.if_icmp .ne 26, 3) := by decide +kernel
theorem dX8_about_128 : decode cX8_about 128 = .ok (.iload_n 2, 1) := by decide +kernel
theorem dX8_about_129 : decode cX8_about 129 = .ok (.aload_n 0, 1) := by decide +kernel
theorem dX8_about_130 : decode cX8_about 130 = .ok (.getfield 7, 3) := by decide +kernel
theorem dX8_about_133 : decode cX8_about 133 = .ok (.iload_n 3, 1) := by decide +kernel
theorem dX8_about_134 : decode cX8_about 134 = .ok (.iaload, 1) := by decide +kernel
theorem dX8_about_135 : decode cX8_about 135 = .ok (.ifCond .le 7, 3) := by decide +kernel
theorem dX8_about_138 : decode cX8_about 138 = .ok (.iconst 1, 1) := by decide +kernel
theorem dX8_about_139 : decode cX8_about 139 = .ok (.goto 4, 3) := by decide +kernel
theorem dX8_about_142 : decode cX8_about 142 = .ok (.iconst 0, 1) := by decide +kernel
theorem dX8_about_143 : decode cX8_about 143 = .ok (.iadd, 1) := by decide +kernel
theorem dX8_about_144 : decode cX8_about 144 = .ok (.istore_n 2, 1) := by decide +kernel
theorem dX8_about_145 : decode cX8_about 145 = .ok (.iinc 3 1, 3) := by decide +kernel
theorem dX8_about_148 : decode cX8_about 148 = .ok (.goto (-32), 3) := by decide +kernel
theorem dX8_about_151 : decode cX8_about 151 = .ok (.iload_n 1, 1) := by decide +kernel
theorem dX8_about_152 : decode cX8_about 152 = .ok (.ifCond .ne 12, 3) := by decide +kernel
theorem dX8_about_155 : decode cX8_about 155 = .ok (.aload_n 0, 1) := by decide +kernel
theorem dX8_about_156 : decode cX8_about 156 = .ok (.getfield 7, 3) := by decide +kernel
theorem dX8_about_159 : decode cX8_about 159 = .ok (.iconst 0, 1) := by decide +kernel
theorem dX8_about_160 : decode cX8_about 160 = .ok (.iaload, 1) := by decide +kernel
theorem dX8_about_161 : decode cX8_about 161 = .ok (.goto 58, 3) := by decide +kernel
theorem dX8_about_164 : decode cX8_about 164 = .ok (.iload_n 1, 1) := by decide +kernel
theorem dX8_about_165 : decode cX8_about 165 = .ok (.iconst 1, 1) := by decide +kernel
theorem dX8_about_166 : decode cX8_about 166 = .ok (.if_icmp .ne 12, 3) := by decide +kernel
theorem dX8_about_169 : decode cX8_about 169 = .ok (.aload_n 0, 1) := by decide +kernel
theorem dX8_about_170 : decode cX8_about 170 = .ok (.getfield 13, 3) := by decide +kernel
theorem dX8_about_173 : decode cX8_about 173 = .ok (.iconst 0, 1) := by decide +kernel
theorem dX8_about_174 : decode cX8_about 174 = .ok (.iaload, 1) := by decide +kernel
theorem dX8_about_175 : decode cX8_about 175 = .ok (.goto 44, 3) := by decide +kernel
theorem dX8_about_178 : decode cX8_about 178 = .ok (.iload_n 1, 1) := by decide +kernel
theorem dX8_about_179 : decode cX8_about 179 = .ok (.iconst 2, 1) := by decide +kernel
theorem dX8_about_180 : decode cX8_about 180 = .ok (.bipush 6, 2) := by decide +kernel
theorem dX8_about_182 : decode cX8_about 182 = .ok (.invokestatic 70, 3) := by decide +kernel
theorem dX8_about_185 : decode cX8_about 185 = .ok (.ifCond .eq 7, 3) := by decide +kernel
theorem dX8_about_188 : decode cX8_about 188 = .ok (.iload_n 2, 1) := by decide +kernel
theorem dX8_about_189 : decode cX8_about 189 = .ok (.goto 30, 3) := by decide +kernel
theorem dX8_about_192 : decode cX8_about 192 = .ok (.iload_n 1, 1) := by decide +kernel
theorem dX8_about_193 : decode cX8_about 193 = .ok (.bipush 7, 2) := by decide +kernel
theorem dX8_about_195 : decode cX8_about 195 = .ok (.if_icmp .ne 10, 3) := by decide +kernel
theorem dX8_about_198 : decode cX8_about 198 = .ok (.aload_n 0, 1) := by decide +kernel
theorem dX8_about_199 : decode cX8_about 199 = .ok (.getfield 121, 3) := by decide +kernel
theorem dX8_about_202 : decode cX8_about 202 = .ok (.goto 17, 3) := by decide +kernel
theorem dX8_about_205 : decode cX8_about 205 = .ok (.iload_n 1, 1) := by decide +kernel
theorem dX8_about_206 : decode cX8_about 206 = .ok (.bipush 8, 2) := by decide +kernel
theorem dX8_about_208 : decode cX8_about 208 = .ok (.if_icmp .ne 10, 3) := by decide +kernel
theorem dX8_about_211 : decode cX8_about 211 = .ok (.aload_n 0, 1) := by decide +kernel
theorem dX8_about_212 : decode cX8_about 212 = .ok (.invokevirtual 81, 3) := by decide +kernel
theorem dX8_about_215 : decode cX8_about 215 = .ok (.goto 4, 3) := by decide +kernel
theorem dX8_about_218 : decode cX8_about 218 = .ok (.iconst (-1), 1) := by decide +kernel
theorem dX8_about_219 : decode cX8_about 219 = .ok (.ireturn, 1) := by decide +kernel
end
section
theorem dL_cell_0 : decode cL_cell 0 = .ok (.iload_n 1, 1) := by decide +kernel
theorem dL_cell_1 : decode cL_cell 1 = .ok (.aload_n 0, 1) := by decide +kernel
theorem dL_cell_2 : decode cL_cell 2 = .ok (.arraylength, 1) := by decide +kernel
theorem dL_cell_3 : decode cL_cell 3 = .ok (.if_icmp .ge 9, 3) := by decide +kernel
theorem dL_cell_6 : decode cL_cell 6 = .ok (.aload_n 0, 1) := by decide +kernel
theorem dL_cell_7 : decode cL_cell 7 = .ok (.iload_n 1, 1) := by decide +kernel
theorem dL_cell_8 : decode cL_cell 8 = .ok (.iaload, 1) := by decide +kernel
theorem dL_cell_9 : decode cL_cell 9 = .ok (.goto 4, 3) := by decide +kernel
theorem dL_cell_12 : decode cL_cell 12 = .ok (.iconst 0, 1) := by decide +kernel
theorem dL_cell_13 : decode cL_cell 13 = .ok (.ireturn, 1) := by decide +kernel
theorem dL_law_0 : decode cL_law 0 = .ok (.new 7, 3) := by decide +kernel
theorem dL_law_3 : decode cL_law 3 = .ok (.dup, 1) := by decide +kernel
theorem dL_law_4 : decode cL_law 4 = .ok (.aload_n 0, 1) := by decide +kernel
theorem dL_law_5 : decode cL_law 5 = .ok (.iconst 0, 1) := by decide +kernel
theorem dL_law_6 : decode cL_law 6 = .ok (.invokestatic 9, 3) := by decide +kernel
theorem dL_law_9 : decode cL_law 9 = .ok (.aload_n 0, 1) := by decide +kernel
theorem dL_law_10 : decode cL_law 10 = .ok (.iconst 1, 1) := by decide +kernel
theorem dL_law_11 : decode cL_law 11 = .ok (.invokestatic 9, 3) := by decide +kernel
theorem dL_law_14 : decode cL_law 14 = .ok (.invokespecial 15, 3) := by decide +kernel
theorem dL_law_17 : decode cL_law 17 = .ok (.astore_n 1, 1) := by decide +kernel
theorem dL_law_18 : decode cL_law 18 = .ok (.new 18, 3) := by decide +kernel
theorem dL_law_21 : decode cL_law 21 = .ok (.dup, 1) := by decide +kernel
theorem dL_law_22 : decode cL_law 22 = .ok (.aload_n 0, 1) := by decide +kernel
theorem dL_law_23 : decode cL_law 23 = .ok (.iconst 0, 1) := by decide +kernel
theorem dL_law_24 : decode cL_law 24 = .ok (.invokestatic 9, 3) := by decide +kernel
theorem dL_law_27 : decode cL_law 27 = .ok (.aload_n 0, 1) := by decide +kernel
theorem dL_law_28 : decode cL_law 28 = .ok (.iconst 1, 1) := by decide +kernel
theorem dL_law_29 : decode cL_law 29 = .ok (.invokestatic 9, 3) := by decide +kernel
theorem dL_law_32 : decode cL_law 32 = .ok (.invokespecial 20, 3) := by decide +kernel
theorem dL_law_35 : decode cL_law 35 = .ok (.astore_n 2, 1) := by decide +kernel
theorem dL_law_36 : decode cL_law 36 = .ok (.iconst 2, 1) := by decide +kernel
theorem dL_law_37 : decode cL_law 37 = .ok (.istore_n 3, 1) := by decide +kernel
theorem dL_law_38 : decode cL_law 38 = .ok (.iload_n 3, 1) := by decide +kernel
theorem dL_law_39 : decode cL_law 39 = .ok (.aload_n 0, 1) := by decide +kernel
theorem dL_law_40 : decode cL_law 40 = .ok (.arraylength, 1) := by decide +kernel
theorem dL_law_41 : decode cL_law 41 = .ok (.bipush 6, 2) := by decide +kernel
theorem dL_law_43 : decode cL_law 43 = .ok (.isub, 1) := by decide +kernel
theorem dL_law_44 : decode cL_law 44 = .ok (.if_icmp .gt 806, 3) := by decide +kernel
theorem dL_law_47 : decode cL_law 47 = .ok (.aload_n 0, 1) := by decide +kernel
theorem dL_law_48 : decode cL_law 48 = .ok (.iload_n 3, 1) := by decide +kernel
theorem dL_law_49 : decode cL_law 49 = .ok (.iaload, 1) := by decide +kernel
theorem dL_law_50 : decode cL_law 50 = .ok (.bipush 31, 2) := by decide +kernel
theorem dL_law_52 : decode cL_law 52 = .ok (.iand, 1) := by decide +kernel
theorem dL_law_53 : decode cL_law 53 = .ok (.tableswitch 791 0 21 #[103, 146, 179, 238, 251, 274, 307, 340, 383, 406, 455, 478, 511, 524, 587, 610, 623, 676, 699, 722, 755, 768], 103) := by decide +kernel
theorem dL_law_156 : decode cL_law 156 = .ok (.aload_n 1, 1) := by decide +kernel
theorem dL_law_157 : decode cL_law 157 = .ok (.aload_n 0, 1) := by decide +kernel
theorem dL_law_158 : decode cL_law 158 = .ok (.iload_n 3, 1) := by decide +kernel
theorem dL_law_159 : decode cL_law 159 = .ok (.iconst 1, 1) := by decide +kernel
theorem dL_law_160 : decode cL_law 160 = .ok (.iadd, 1) := by decide +kernel
theorem dL_law_161 : decode cL_law 161 = .ok (.iaload, 1) := by decide +kernel
theorem dL_law_162 : decode cL_law 162 = .ok (.aload_n 0, 1) := by decide +kernel
theorem dL_law_163 : decode cL_law 163 = .ok (.iload_n 3, 1) := by decide +kernel
theorem dL_law_164 : decode cL_law 164 = .ok (.iconst 2, 1) := by decide +kernel
theorem dL_law_165 : decode cL_law 165 = .ok (.iadd, 1) := by decide +kernel
theorem dL_law_166 : decode cL_law 166 = .ok (.iaload, 1) := by decide +kernel
theorem dL_law_167 : decode cL_law 167 = .ok (.aload_n 0, 1) := by decide +kernel
theorem dL_law_168 : decode cL_law 168 = .ok (.iload_n 3, 1) := by decide +kernel
theorem dL_law_169 : decode cL_law 169 = .ok (.iconst 3, 1) := by decide +kernel
theorem dL_law_170 : decode cL_law 170 = .ok (.iadd, 1) := by decide +kernel
theorem dL_law_171 : decode cL_law 171 = .ok (.iaload, 1) := by decide +kernel
theorem dL_law_172 : decode cL_law 172 = .ok (.invokevirtual 21, 3) := by decide +kernel
theorem dL_law_175 : decode cL_law 175 = .ok (.aload_n 2, 1) := by decide +kernel
theorem dL_law_176 : decode cL_law 176 = .ok (.aload_n 0, 1) := by decide +kernel
theorem dL_law_177 : decode cL_law 177 = .ok (.iload_n 3, 1) := by decide +kernel
theorem dL_law_178 : decode cL_law 178 = .ok (.iconst 1, 1) := by decide +kernel
theorem dL_law_179 : decode cL_law 179 = .ok (.iadd, 1) := by decide +kernel
theorem dL_law_180 : decode cL_law 180 = .ok (.iaload, 1) := by decide +kernel
theorem dL_law_181 : decode cL_law 181 = .ok (.aload_n 0, 1) := by decide +kernel
theorem dL_law_182 : decode cL_law 182 = .ok (.iload_n 3, 1) := by decide +kernel
theorem dL_law_183 : decode cL_law 183 = .ok (.iconst 2, 1) := by decide +kernel
theorem dL_law_184 : decode cL_law 184 = .ok (.iadd, 1) := by decide +kernel
theorem dL_law_185 : decode cL_law 185 = .ok (.iaload, 1) := by decide +kernel
theorem dL_law_186 : decode cL_law 186 = .ok (.aload_n 0, 1) := by decide +kernel
theorem dL_law_187 : decode cL_law 187 = .ok (.iload_n 3, 1) := by decide +kernel
theorem dL_law_188 : decode cL_law 188 = .ok (.iconst 3, 1) := by decide +kernel
theorem dL_law_189 : decode cL_law 189 = .ok (.iadd, 1) := by decide +kernel
theorem dL_law_190 : decode cL_law 190 = .ok (.iaload, 1) := by decide +kernel
theorem dL_law_191 : decode cL_law 191 = .ok (.invokevirtual 25, 3) := by decide +kernel
theorem dL_law_194 : decode cL_law 194 = .ok (.if_icmp .eq 650, 3) := by decide +kernel
theorem dL_law_197 : decode cL_law 197 = .ok (.iconst 0, 1) := by decide +kernel
theorem dL_law_198 : decode cL_law 198 = .ok (.ireturn, 1) := by decide +kernel
theorem dL_law_199 : decode cL_law 199 = .ok (.aload_n 1, 1) := by decide +kernel
theorem dL_law_200 : decode cL_law 200 = .ok (.aload_n 0, 1) := by decide +kernel
theorem dL_law_201 : decode cL_law 201 = .ok (.iload_n 3, 1) := by decide +kernel
theorem dL_law_202 : decode cL_law 202 = .ok (.iconst 1, 1) := by decide +kernel
theorem dL_law_203 : decode cL_law 203 = .ok (.iadd, 1) := by decide +kernel
theorem dL_law_204 : decode cL_law 204 = .ok (.iaload, 1) := by decide +kernel
theorem dL_law_205 : decode cL_law 205 = .ok (.aload_n 0, 1) := by decide +kernel
theorem dL_law_206 : decode cL_law 206 = .ok (.iload_n 3, 1) := by decide +kernel
theorem dL_law_207 : decode cL_law 207 = .ok (.iconst 2, 1) := by decide +kernel
theorem dL_law_208 : decode cL_law 208 = .ok (.iadd, 1) := by decide +kernel
theorem dL_law_209 : decode cL_law 209 = .ok (.iaload, 1) := by decide +kernel
theorem dL_law_210 : decode cL_law 210 = .ok (.invokevirtual 26, 3) := by decide +kernel
theorem dL_law_213 : decode cL_law 213 = .ok (.aload_n 2, 1) := by decide +kernel
theorem dL_law_214 : decode cL_law 214 = .ok (.aload_n 0, 1) := by decide +kernel
theorem dL_law_215 : decode cL_law 215 = .ok (.iload_n 3, 1) := by decide +kernel
theorem dL_law_216 : decode cL_law 216 = .ok (.iconst 1, 1) := by decide +kernel
theorem dL_law_217 : decode cL_law 217 = .ok (.iadd, 1) := by decide +kernel
theorem dL_law_218 : decode cL_law 218 = .ok (.iaload, 1) := by decide +kernel
theorem dL_law_219 : decode cL_law 219 = .ok (.aload_n 0, 1) := by decide +kernel
theorem dL_law_220 : decode cL_law 220 = .ok (.iload_n 3, 1) := by decide +kernel
theorem dL_law_221 : decode cL_law 221 = .ok (.iconst 2, 1) := by decide +kernel
theorem dL_law_222 : decode cL_law 222 = .ok (.iadd, 1) := by decide +kernel
theorem dL_law_223 : decode cL_law 223 = .ok (.iaload, 1) := by decide +kernel
theorem dL_law_224 : decode cL_law 224 = .ok (.invokevirtual 30, 3) := by decide +kernel
theorem dL_law_227 : decode cL_law 227 = .ok (.if_icmp .eq 617, 3) := by decide +kernel
theorem dL_law_230 : decode cL_law 230 = .ok (.iconst 0, 1) := by decide +kernel
theorem dL_law_231 : decode cL_law 231 = .ok (.ireturn, 1) := by decide +kernel
theorem dL_law_232 : decode cL_law 232 = .ok (.aload_n 1, 1) := by decide +kernel
theorem dL_law_233 : decode cL_law 233 = .ok (.aload_n 0, 1) := by decide +kernel
theorem dL_law_234 : decode cL_law 234 = .ok (.iload_n 3, 1) := by decide +kernel
theorem dL_law_235 : decode cL_law 235 = .ok (.iconst 1, 1) := by decide +kernel
theorem dL_law_236 : decode cL_law 236 = .ok (.iadd, 1) := by decide +kernel
theorem dL_law_237 : decode cL_law 237 = .ok (.iaload, 1) := by decide +kernel
theorem dL_law_238 : decode cL_law 238 = .ok (.aload_n 0, 1) := by decide +kernel
theorem dL_law_239 : decode cL_law 239 = .ok (.iload_n 3, 1) := by decide +kernel
theorem dL_law_240 : decode cL_law 240 = .ok (.iconst 2, 1) := by decide +kernel
theorem dL_law_241 : decode cL_law 241 = .ok (.iadd, 1) := by decide +kernel
theorem dL_law_242 : decode cL_law 242 = .ok (.iaload, 1) := by decide +kernel
theorem dL_law_243 : decode cL_law 243 = .ok (.aload_n 0, 1) := by decide +kernel
theorem dL_law_244 : decode cL_law 244 = .ok (.iload_n 3, 1) := by decide +kernel
theorem dL_law_245 : decode cL_law 245 = .ok (.iconst 3, 1) := by decide +kernel
theorem dL_law_246 : decode cL_law 246 = .ok (.iadd, 1) := by decide +kernel
theorem dL_law_247 : decode cL_law 247 = .ok (.iaload, 1) := by decide +kernel
theorem dL_law_248 : decode cL_law 248 = .ok (.ifCond .eq 7, 3) := by decide +kernel
theorem dL_law_251 : decode cL_law 251 = .ok (.iconst 1, 1) := by decide +kernel
theorem dL_law_252 : decode cL_law 252 = .ok (.goto 4, 3) := by decide +kernel
theorem dL_law_255 : decode cL_law 255 = .ok (.iconst 0, 1) := by decide +kernel
theorem dL_law_256 : decode cL_law 256 = .ok (.invokevirtual 31, 3) := by decide +kernel
theorem dL_law_259 : decode cL_law 259 = .ok (.aload_n 2, 1) := by decide +kernel
theorem dL_law_260 : decode cL_law 260 = .ok (.aload_n 0, 1) := by decide +kernel
theorem dL_law_261 : decode cL_law 261 = .ok (.iload_n 3, 1) := by decide +kernel
theorem dL_law_262 : decode cL_law 262 = .ok (.iconst 1, 1) := by decide +kernel
theorem dL_law_263 : decode cL_law 263 = .ok (.iadd, 1) := by decide +kernel
theorem dL_law_264 : decode cL_law 264 = .ok (.iaload, 1) := by decide +kernel
theorem dL_law_265 : decode cL_law 265 = .ok (.aload_n 0, 1) := by decide +kernel
theorem dL_law_266 : decode cL_law 266 = .ok (.iload_n 3, 1) := by decide +kernel
theorem dL_law_267 : decode cL_law 267 = .ok (.iconst 2, 1) := by decide +kernel
theorem dL_law_268 : decode cL_law 268 = .ok (.iadd, 1) := by decide +kernel
theorem dL_law_269 : decode cL_law 269 = .ok (.iaload, 1) := by decide +kernel
theorem dL_law_270 : decode cL_law 270 = .ok (.aload_n 0, 1) := by decide +kernel
theorem dL_law_271 : decode cL_law 271 = .ok (.iload_n 3, 1) := by decide +kernel
theorem dL_law_272 : decode cL_law 272 = .ok (.iconst 3, 1) := by decide +kernel
theorem dL_law_273 : decode cL_law 273 = .ok (.iadd, 1) := by decide +kernel
theorem dL_law_274 : decode cL_law 274 = .ok (.iaload, 1) := by decide +kernel
theorem dL_law_275 : decode cL_law 275 = .ok (.ifCond .eq 7, 3) := by decide +kernel
theorem dL_law_278 : decode cL_law 278 = .ok (.iconst 1, 1) := by decide +kernel
theorem dL_law_279 : decode cL_law 279 = .ok (.goto 4, 3) := by decide +kernel
theorem dL_law_282 : decode cL_law 282 = .ok (.iconst 0, 1) := by decide +kernel
theorem dL_law_283 : decode cL_law 283 = .ok (.invokevirtual 35, 3) := by decide +kernel
theorem dL_law_286 : decode cL_law 286 = .ok (.if_icmp .eq 558, 3) := by decide +kernel
theorem dL_law_289 : decode cL_law 289 = .ok (.iconst 0, 1) := by decide +kernel
theorem dL_law_290 : decode cL_law 290 = .ok (.ireturn, 1) := by decide +kernel
theorem dL_law_291 : decode cL_law 291 = .ok (.aload_n 1, 1) := by decide +kernel
theorem dL_law_292 : decode cL_law 292 = .ok (.invokevirtual 36, 3) := by decide +kernel
theorem dL_law_295 : decode cL_law 295 = .ok (.aload_n 2, 1) := by decide +kernel
theorem dL_law_296 : decode cL_law 296 = .ok (.invokevirtual 40, 3) := by decide +kernel
theorem dL_law_299 : decode cL_law 299 = .ok (.if_icmp .eq 545, 3) := by decide +kernel
theorem dL_law_302 : decode cL_law 302 = .ok (.iconst 0, 1) := by decide +kernel
theorem dL_law_303 : decode cL_law 303 = .ok (.ireturn, 1) := by decide +kernel
theorem dL_law_304 : decode cL_law 304 = .ok (.aload_n 1, 1) := by decide +kernel
theorem dL_law_305 : decode cL_law 305 = .ok (.aload_n 0, 1) := by decide +kernel
theorem dL_law_306 : decode cL_law 306 = .ok (.iload_n 3, 1) := by decide +kernel
theorem dL_law_307 : decode cL_law 307 = .ok (.iconst 1, 1) := by decide +kernel
theorem dL_law_308 : decode cL_law 308 = .ok (.iadd, 1) := by decide +kernel
theorem dL_law_309 : decode cL_law 309 = .ok (.iaload, 1) := by decide +kernel
theorem dL_law_310 : decode cL_law 310 = .ok (.invokevirtual 41, 3) := by decide +kernel
theorem dL_law_313 : decode cL_law 313 = .ok (.aload_n 2, 1) := by decide +kernel
theorem dL_law_314 : decode cL_law 314 = .ok (.aload_n 0, 1) := by decide +kernel
theorem dL_law_315 : decode cL_law 315 = .ok (.iload_n 3, 1) := by decide +kernel
theorem dL_law_316 : decode cL_law 316 = .ok (.iconst 1, 1) := by decide +kernel
theorem dL_law_317 : decode cL_law 317 = .ok (.iadd, 1) := by decide +kernel
theorem dL_law_318 : decode cL_law 318 = .ok (.iaload, 1) := by decide +kernel
theorem dL_law_319 : decode cL_law 319 = .ok (.invokevirtual 45, 3) := by decide +kernel
theorem dL_law_322 : decode cL_law 322 = .ok (.if_icmp .eq 522, 3) := by decide +kernel
theorem dL_law_325 : decode cL_law 325 = .ok (.iconst 0, 1) := by decide +kernel
theorem dL_law_326 : decode cL_law 326 = .ok (.ireturn, 1) := by decide +kernel
theorem dL_law_327 : decode cL_law 327 = .ok (.aload_n 1, 1) := by decide +kernel
theorem dL_law_328 : decode cL_law 328 = .ok (.aload_n 0, 1) := by decide +kernel
theorem dL_law_329 : decode cL_law 329 = .ok (.iload_n 3, 1) := by decide +kernel
theorem dL_law_330 : decode cL_law 330 = .ok (.iconst 1, 1) := by decide +kernel
theorem dL_law_331 : decode cL_law 331 = .ok (.iadd, 1) := by decide +kernel
theorem dL_law_332 : decode cL_law 332 = .ok (.iaload, 1) := by decide +kernel
theorem dL_law_333 : decode cL_law 333 = .ok (.aload_n 0, 1) := by decide +kernel
theorem dL_law_334 : decode cL_law 334 = .ok (.iload_n 3, 1) := by decide +kernel
theorem dL_law_335 : decode cL_law 335 = .ok (.iconst 2, 1) := by decide +kernel
theorem dL_law_336 : decode cL_law 336 = .ok (.iadd, 1) := by decide +kernel
theorem dL_law_337 : decode cL_law 337 = .ok (.iaload, 1) := by decide +kernel
theorem dL_law_338 : decode cL_law 338 = .ok (.invokevirtual 46, 3) := by decide +kernel
theorem dL_law_341 : decode cL_law 341 = .ok (.aload_n 2, 1) := by decide +kernel
theorem dL_law_342 : decode cL_law 342 = .ok (.aload_n 0, 1) := by decide +kernel
theorem dL_law_343 : decode cL_law 343 = .ok (.iload_n 3, 1) := by decide +kernel
theorem dL_law_344 : decode cL_law 344 = .ok (.iconst 1, 1) := by decide +kernel
theorem dL_law_345 : decode cL_law 345 = .ok (.iadd, 1) := by decide +kernel
theorem dL_law_346 : decode cL_law 346 = .ok (.iaload, 1) := by decide +kernel
theorem dL_law_347 : decode cL_law 347 = .ok (.aload_n 0, 1) := by decide +kernel
theorem dL_law_348 : decode cL_law 348 = .ok (.iload_n 3, 1) := by decide +kernel
theorem dL_law_349 : decode cL_law 349 = .ok (.iconst 2, 1) := by decide +kernel
theorem dL_law_350 : decode cL_law 350 = .ok (.iadd, 1) := by decide +kernel
theorem dL_law_351 : decode cL_law 351 = .ok (.iaload, 1) := by decide +kernel
theorem dL_law_352 : decode cL_law 352 = .ok (.invokevirtual 49, 3) := by decide +kernel
theorem dL_law_355 : decode cL_law 355 = .ok (.if_icmp .eq 489, 3) := by decide +kernel
theorem dL_law_358 : decode cL_law 358 = .ok (.iconst 0, 1) := by decide +kernel
theorem dL_law_359 : decode cL_law 359 = .ok (.ireturn, 1) := by decide +kernel
theorem dL_law_360 : decode cL_law 360 = .ok (.aload_n 1, 1) := by decide +kernel
theorem dL_law_361 : decode cL_law 361 = .ok (.aload_n 0, 1) := by decide +kernel
theorem dL_law_362 : decode cL_law 362 = .ok (.iload_n 3, 1) := by decide +kernel
theorem dL_law_363 : decode cL_law 363 = .ok (.iconst 1, 1) := by decide +kernel
theorem dL_law_364 : decode cL_law 364 = .ok (.iadd, 1) := by decide +kernel
theorem dL_law_365 : decode cL_law 365 = .ok (.iaload, 1) := by decide +kernel
theorem dL_law_366 : decode cL_law 366 = .ok (.aload_n 0, 1) := by decide +kernel
theorem dL_law_367 : decode cL_law 367 = .ok (.iload_n 3, 1) := by decide +kernel
theorem dL_law_368 : decode cL_law 368 = .ok (.iconst 2, 1) := by decide +kernel
theorem dL_law_369 : decode cL_law 369 = .ok (.iadd, 1) := by decide +kernel
theorem dL_law_370 : decode cL_law 370 = .ok (.iaload, 1) := by decide +kernel
theorem dL_law_371 : decode cL_law 371 = .ok (.invokevirtual 50, 3) := by decide +kernel
theorem dL_law_374 : decode cL_law 374 = .ok (.aload_n 2, 1) := by decide +kernel
theorem dL_law_375 : decode cL_law 375 = .ok (.aload_n 0, 1) := by decide +kernel
theorem dL_law_376 : decode cL_law 376 = .ok (.iload_n 3, 1) := by decide +kernel
theorem dL_law_377 : decode cL_law 377 = .ok (.iconst 1, 1) := by decide +kernel
theorem dL_law_378 : decode cL_law 378 = .ok (.iadd, 1) := by decide +kernel
theorem dL_law_379 : decode cL_law 379 = .ok (.iaload, 1) := by decide +kernel
theorem dL_law_380 : decode cL_law 380 = .ok (.aload_n 0, 1) := by decide +kernel
theorem dL_law_381 : decode cL_law 381 = .ok (.iload_n 3, 1) := by decide +kernel
theorem dL_law_382 : decode cL_law 382 = .ok (.iconst 2, 1) := by decide +kernel
theorem dL_law_383 : decode cL_law 383 = .ok (.iadd, 1) := by decide +kernel
theorem dL_law_384 : decode cL_law 384 = .ok (.iaload, 1) := by decide +kernel
theorem dL_law_385 : decode cL_law 385 = .ok (.invokevirtual 53, 3) := by decide +kernel
theorem dL_law_388 : decode cL_law 388 = .ok (.if_icmp .eq 456, 3) := by decide +kernel
theorem dL_law_391 : decode cL_law 391 = .ok (.iconst 0, 1) := by decide +kernel
theorem dL_law_392 : decode cL_law 392 = .ok (.ireturn, 1) := by decide +kernel
theorem dL_law_393 : decode cL_law 393 = .ok (.aload_n 1, 1) := by decide +kernel
theorem dL_law_394 : decode cL_law 394 = .ok (.aload_n 0, 1) := by decide +kernel
theorem dL_law_395 : decode cL_law 395 = .ok (.iload_n 3, 1) := by decide +kernel
theorem dL_law_396 : decode cL_law 396 = .ok (.iconst 1, 1) := by decide +kernel
theorem dL_law_397 : decode cL_law 397 = .ok (.iadd, 1) := by decide +kernel
theorem dL_law_398 : decode cL_law 398 = .ok (.iaload, 1) := by decide +kernel
theorem dL_law_399 : decode cL_law 399 = .ok (.aload_n 0, 1) := by decide +kernel
theorem dL_law_400 : decode cL_law 400 = .ok (.iload_n 3, 1) := by decide +kernel
theorem dL_law_401 : decode cL_law 401 = .ok (.iconst 2, 1) := by decide +kernel
theorem dL_law_402 : decode cL_law 402 = .ok (.iadd, 1) := by decide +kernel
theorem dL_law_403 : decode cL_law 403 = .ok (.iaload, 1) := by decide +kernel
theorem dL_law_404 : decode cL_law 404 = .ok (.aload_n 0, 1) := by decide +kernel
theorem dL_law_405 : decode cL_law 405 = .ok (.iload_n 3, 1) := by decide +kernel
theorem dL_law_406 : decode cL_law 406 = .ok (.iconst 3, 1) := by decide +kernel
theorem dL_law_407 : decode cL_law 407 = .ok (.iadd, 1) := by decide +kernel
theorem dL_law_408 : decode cL_law 408 = .ok (.iaload, 1) := by decide +kernel
theorem dL_law_409 : decode cL_law 409 = .ok (.invokevirtual 54, 3) := by decide +kernel
theorem dL_law_412 : decode cL_law 412 = .ok (.aload_n 2, 1) := by decide +kernel
theorem dL_law_413 : decode cL_law 413 = .ok (.aload_n 0, 1) := by decide +kernel
theorem dL_law_414 : decode cL_law 414 = .ok (.iload_n 3, 1) := by decide +kernel
theorem dL_law_415 : decode cL_law 415 = .ok (.iconst 1, 1) := by decide +kernel
theorem dL_law_416 : decode cL_law 416 = .ok (.iadd, 1) := by decide +kernel
theorem dL_law_417 : decode cL_law 417 = .ok (.iaload, 1) := by decide +kernel
theorem dL_law_418 : decode cL_law 418 = .ok (.aload_n 0, 1) := by decide +kernel
theorem dL_law_419 : decode cL_law 419 = .ok (.iload_n 3, 1) := by decide +kernel
theorem dL_law_420 : decode cL_law 420 = .ok (.iconst 2, 1) := by decide +kernel
theorem dL_law_421 : decode cL_law 421 = .ok (.iadd, 1) := by decide +kernel
theorem dL_law_422 : decode cL_law 422 = .ok (.iaload, 1) := by decide +kernel
theorem dL_law_423 : decode cL_law 423 = .ok (.aload_n 0, 1) := by decide +kernel
theorem dL_law_424 : decode cL_law 424 = .ok (.iload_n 3, 1) := by decide +kernel
theorem dL_law_425 : decode cL_law 425 = .ok (.iconst 3, 1) := by decide +kernel
theorem dL_law_426 : decode cL_law 426 = .ok (.iadd, 1) := by decide +kernel
theorem dL_law_427 : decode cL_law 427 = .ok (.iaload, 1) := by decide +kernel
theorem dL_law_428 : decode cL_law 428 = .ok (.invokevirtual 58, 3) := by decide +kernel
theorem dL_law_431 : decode cL_law 431 = .ok (.if_icmp .eq 413, 3) := by decide +kernel
theorem dL_law_434 : decode cL_law 434 = .ok (.iconst 0, 1) := by decide +kernel
theorem dL_law_435 : decode cL_law 435 = .ok (.ireturn, 1) := by decide +kernel
theorem dL_law_436 : decode cL_law 436 = .ok (.aload_n 1, 1) := by decide +kernel
theorem dL_law_437 : decode cL_law 437 = .ok (.aload_n 0, 1) := by decide +kernel
theorem dL_law_438 : decode cL_law 438 = .ok (.iload_n 3, 1) := by decide +kernel
theorem dL_law_439 : decode cL_law 439 = .ok (.iconst 1, 1) := by decide +kernel
theorem dL_law_440 : decode cL_law 440 = .ok (.iadd, 1) := by decide +kernel
theorem dL_law_441 : decode cL_law 441 = .ok (.iaload, 1) := by decide +kernel
theorem dL_law_442 : decode cL_law 442 = .ok (.invokevirtual 59, 3) := by decide +kernel
theorem dL_law_445 : decode cL_law 445 = .ok (.aload_n 2, 1) := by decide +kernel
theorem dL_law_446 : decode cL_law 446 = .ok (.aload_n 0, 1) := by decide +kernel
theorem dL_law_447 : decode cL_law 447 = .ok (.iload_n 3, 1) := by decide +kernel
theorem dL_law_448 : decode cL_law 448 = .ok (.iconst 1, 1) := by decide +kernel
theorem dL_law_449 : decode cL_law 449 = .ok (.iadd, 1) := by decide +kernel
theorem dL_law_450 : decode cL_law 450 = .ok (.iaload, 1) := by decide +kernel
theorem dL_law_451 : decode cL_law 451 = .ok (.invokevirtual 62, 3) := by decide +kernel
theorem dL_law_454 : decode cL_law 454 = .ok (.if_icmp .eq 390, 3) := by decide +kernel
theorem dL_law_457 : decode cL_law 457 = .ok (.iconst 0, 1) := by decide +kernel
theorem dL_law_458 : decode cL_law 458 = .ok (.ireturn, 1) := by decide +kernel
theorem dL_law_459 : decode cL_law 459 = .ok (.aload_n 1, 1) := by decide +kernel
theorem dL_law_460 : decode cL_law 460 = .ok (.aload_n 0, 1) := by decide +kernel
theorem dL_law_461 : decode cL_law 461 = .ok (.iload_n 3, 1) := by decide +kernel
theorem dL_law_462 : decode cL_law 462 = .ok (.iconst 1, 1) := by decide +kernel
theorem dL_law_463 : decode cL_law 463 = .ok (.iadd, 1) := by decide +kernel
theorem dL_law_464 : decode cL_law 464 = .ok (.iaload, 1) := by decide +kernel
theorem dL_law_465 : decode cL_law 465 = .ok (.aload_n 0, 1) := by decide +kernel
theorem dL_law_466 : decode cL_law 466 = .ok (.iload_n 3, 1) := by decide +kernel
theorem dL_law_467 : decode cL_law 467 = .ok (.iconst 2, 1) := by decide +kernel
theorem dL_law_468 : decode cL_law 468 = .ok (.iadd, 1) := by decide +kernel
theorem dL_law_469 : decode cL_law 469 = .ok (.iaload, 1) := by decide +kernel
theorem dL_law_470 : decode cL_law 470 = .ok (.ifCond .eq 7, 3) := by decide +kernel
theorem dL_law_473 : decode cL_law 473 = .ok (.iconst 1, 1) := by decide +kernel
theorem dL_law_474 : decode cL_law 474 = .ok (.goto 4, 3) := by decide +kernel
theorem dL_law_477 : decode cL_law 477 = .ok (.iconst 0, 1) := by decide +kernel
theorem dL_law_478 : decode cL_law 478 = .ok (.invokevirtual 63, 3) := by decide +kernel
theorem dL_law_481 : decode cL_law 481 = .ok (.aload_n 2, 1) := by decide +kernel
theorem dL_law_482 : decode cL_law 482 = .ok (.aload_n 0, 1) := by decide +kernel
theorem dL_law_483 : decode cL_law 483 = .ok (.iload_n 3, 1) := by decide +kernel
theorem dL_law_484 : decode cL_law 484 = .ok (.iconst 1, 1) := by decide +kernel
theorem dL_law_485 : decode cL_law 485 = .ok (.iadd, 1) := by decide +kernel
theorem dL_law_486 : decode cL_law 486 = .ok (.iaload, 1) := by decide +kernel
theorem dL_law_487 : decode cL_law 487 = .ok (.aload_n 0, 1) := by decide +kernel
theorem dL_law_488 : decode cL_law 488 = .ok (.iload_n 3, 1) := by decide +kernel
theorem dL_law_489 : decode cL_law 489 = .ok (.iconst 2, 1) := by decide +kernel
theorem dL_law_490 : decode cL_law 490 = .ok (.iadd, 1) := by decide +kernel
theorem dL_law_491 : decode cL_law 491 = .ok (.iaload, 1) := by decide +kernel
theorem dL_law_492 : decode cL_law 492 = .ok (.ifCond .eq 7, 3) := by decide +kernel
theorem dL_law_495 : decode cL_law 495 = .ok (.iconst 1, 1) := by decide +kernel
theorem dL_law_496 : decode cL_law 496 = .ok (.goto 4, 3) := by decide +kernel
theorem dL_law_499 : decode cL_law 499 = .ok (.iconst 0, 1) := by decide +kernel
theorem dL_law_500 : decode cL_law 500 = .ok (.invokevirtual 67, 3) := by decide +kernel
theorem dL_law_503 : decode cL_law 503 = .ok (.if_icmp .eq 341, 3) := by decide +kernel
theorem dL_law_506 : decode cL_law 506 = .ok (.iconst 0, 1) := by decide +kernel
theorem dL_law_507 : decode cL_law 507 = .ok (.ireturn, 1) := by decide +kernel
theorem dL_law_508 : decode cL_law 508 = .ok (.aload_n 1, 1) := by decide +kernel
theorem dL_law_509 : decode cL_law 509 = .ok (.aload_n 0, 1) := by decide +kernel
theorem dL_law_510 : decode cL_law 510 = .ok (.iload_n 3, 1) := by decide +kernel
theorem dL_law_511 : decode cL_law 511 = .ok (.iconst 1, 1) := by decide +kernel
theorem dL_law_512 : decode cL_law 512 = .ok (.iadd, 1) := by decide +kernel
theorem dL_law_513 : decode cL_law 513 = .ok (.iaload, 1) := by decide +kernel
theorem dL_law_514 : decode cL_law 514 = .ok (.invokevirtual 68, 3) := by decide +kernel
theorem dL_law_517 : decode cL_law 517 = .ok (.aload_n 2, 1) := by decide +kernel
theorem dL_law_518 : decode cL_law 518 = .ok (.aload_n 0, 1) := by decide +kernel
theorem dL_law_519 : decode cL_law 519 = .ok (.iload_n 3, 1) := by decide +kernel
theorem dL_law_520 : decode cL_law 520 = .ok (.iconst 1, 1) := by decide +kernel
theorem dL_law_521 : decode cL_law 521 = .ok (.iadd, 1) := by decide +kernel
theorem dL_law_522 : decode cL_law 522 = .ok (.iaload, 1) := by decide +kernel
theorem dL_law_523 : decode cL_law 523 = .ok (.invokevirtual 71, 3) := by decide +kernel
theorem dL_law_526 : decode cL_law 526 = .ok (.if_icmp .eq 318, 3) := by decide +kernel
theorem dL_law_529 : decode cL_law 529 = .ok (.iconst 0, 1) := by decide +kernel
theorem dL_law_530 : decode cL_law 530 = .ok (.ireturn, 1) := by decide +kernel
theorem dL_law_531 : decode cL_law 531 = .ok (.aload_n 1, 1) := by decide +kernel
theorem dL_law_532 : decode cL_law 532 = .ok (.aload_n 0, 1) := by decide +kernel
theorem dL_law_533 : decode cL_law 533 = .ok (.iload_n 3, 1) := by decide +kernel
theorem dL_law_534 : decode cL_law 534 = .ok (.iconst 1, 1) := by decide +kernel
theorem dL_law_535 : decode cL_law 535 = .ok (.iadd, 1) := by decide +kernel
theorem dL_law_536 : decode cL_law 536 = .ok (.iaload, 1) := by decide +kernel
theorem dL_law_537 : decode cL_law 537 = .ok (.aload_n 0, 1) := by decide +kernel
theorem dL_law_538 : decode cL_law 538 = .ok (.iload_n 3, 1) := by decide +kernel
theorem dL_law_539 : decode cL_law 539 = .ok (.iconst 2, 1) := by decide +kernel
theorem dL_law_540 : decode cL_law 540 = .ok (.iadd, 1) := by decide +kernel
theorem dL_law_541 : decode cL_law 541 = .ok (.iaload, 1) := by decide +kernel
theorem dL_law_542 : decode cL_law 542 = .ok (.invokevirtual 72, 3) := by decide +kernel
theorem dL_law_545 : decode cL_law 545 = .ok (.aload_n 2, 1) := by decide +kernel
theorem dL_law_546 : decode cL_law 546 = .ok (.aload_n 0, 1) := by decide +kernel
theorem dL_law_547 : decode cL_law 547 = .ok (.iload_n 3, 1) := by decide +kernel
theorem dL_law_548 : decode cL_law 548 = .ok (.iconst 1, 1) := by decide +kernel
theorem dL_law_549 : decode cL_law 549 = .ok (.iadd, 1) := by decide +kernel
theorem dL_law_550 : decode cL_law 550 = .ok (.iaload, 1) := by decide +kernel
theorem dL_law_551 : decode cL_law 551 = .ok (.aload_n 0, 1) := by decide +kernel
theorem dL_law_552 : decode cL_law 552 = .ok (.iload_n 3, 1) := by decide +kernel
theorem dL_law_553 : decode cL_law 553 = .ok (.iconst 2, 1) := by decide +kernel
theorem dL_law_554 : decode cL_law 554 = .ok (.iadd, 1) := by decide +kernel
theorem dL_law_555 : decode cL_law 555 = .ok (.iaload, 1) := by decide +kernel
theorem dL_law_556 : decode cL_law 556 = .ok (.invokevirtual 75, 3) := by decide +kernel
theorem dL_law_559 : decode cL_law 559 = .ok (.if_icmp .eq 285, 3) := by decide +kernel
theorem dL_law_562 : decode cL_law 562 = .ok (.iconst 0, 1) := by decide +kernel
theorem dL_law_563 : decode cL_law 563 = .ok (.ireturn, 1) := by decide +kernel
theorem dL_law_564 : decode cL_law 564 = .ok (.aload_n 1, 1) := by decide +kernel
theorem dL_law_565 : decode cL_law 565 = .ok (.invokevirtual 76, 3) := by decide +kernel
theorem dL_law_568 : decode cL_law 568 = .ok (.aload_n 2, 1) := by decide +kernel
theorem dL_law_569 : decode cL_law 569 = .ok (.invokevirtual 79, 3) := by decide +kernel
theorem dL_law_572 : decode cL_law 572 = .ok (.if_icmp .eq 272, 3) := by decide +kernel
theorem dL_law_575 : decode cL_law 575 = .ok (.iconst 0, 1) := by decide +kernel
theorem dL_law_576 : decode cL_law 576 = .ok (.ireturn, 1) := by decide +kernel
theorem dL_law_577 : decode cL_law 577 = .ok (.aload_n 1, 1) := by decide +kernel
theorem dL_law_578 : decode cL_law 578 = .ok (.aload_n 0, 1) := by decide +kernel
theorem dL_law_579 : decode cL_law 579 = .ok (.iload_n 3, 1) := by decide +kernel
theorem dL_law_580 : decode cL_law 580 = .ok (.iconst 1, 1) := by decide +kernel
theorem dL_law_581 : decode cL_law 581 = .ok (.iadd, 1) := by decide +kernel
theorem dL_law_582 : decode cL_law 582 = .ok (.iaload, 1) := by decide +kernel
theorem dL_law_583 : decode cL_law 583 = .ok (.aload_n 0, 1) := by decide +kernel
theorem dL_law_584 : decode cL_law 584 = .ok (.iload_n 3, 1) := by decide +kernel
theorem dL_law_585 : decode cL_law 585 = .ok (.iconst 2, 1) := by decide +kernel
theorem dL_law_586 : decode cL_law 586 = .ok (.iadd, 1) := by decide +kernel
theorem dL_law_587 : decode cL_law 587 = .ok (.iaload, 1) := by decide +kernel
theorem dL_law_588 : decode cL_law 588 = .ok (.aload_n 0, 1) := by decide +kernel
theorem dL_law_589 : decode cL_law 589 = .ok (.iload_n 3, 1) := by decide +kernel
theorem dL_law_590 : decode cL_law 590 = .ok (.iconst 3, 1) := by decide +kernel
theorem dL_law_591 : decode cL_law 591 = .ok (.iadd, 1) := by decide +kernel
theorem dL_law_592 : decode cL_law 592 = .ok (.iaload, 1) := by decide +kernel
theorem dL_law_593 : decode cL_law 593 = .ok (.aload_n 0, 1) := by decide +kernel
theorem dL_law_594 : decode cL_law 594 = .ok (.iload_n 3, 1) := by decide +kernel
theorem dL_law_595 : decode cL_law 595 = .ok (.iconst 4, 1) := by decide +kernel
theorem dL_law_596 : decode cL_law 596 = .ok (.iadd, 1) := by decide +kernel
theorem dL_law_597 : decode cL_law 597 = .ok (.iaload, 1) := by decide +kernel
theorem dL_law_598 : decode cL_law 598 = .ok (.aload_n 0, 1) := by decide +kernel
theorem dL_law_599 : decode cL_law 599 = .ok (.iload_n 3, 1) := by decide +kernel
theorem dL_law_600 : decode cL_law 600 = .ok (.iconst 5, 1) := by decide +kernel
theorem dL_law_601 : decode cL_law 601 = .ok (.iadd, 1) := by decide +kernel
theorem dL_law_602 : decode cL_law 602 = .ok (.iaload, 1) := by decide +kernel
theorem dL_law_603 : decode cL_law 603 = .ok (.invokevirtual 80, 3) := by decide +kernel
theorem dL_law_606 : decode cL_law 606 = .ok (.aload_n 2, 1) := by decide +kernel
theorem dL_law_607 : decode cL_law 607 = .ok (.aload_n 0, 1) := by decide +kernel
theorem dL_law_608 : decode cL_law 608 = .ok (.iload_n 3, 1) := by decide +kernel
theorem dL_law_609 : decode cL_law 609 = .ok (.iconst 1, 1) := by decide +kernel
theorem dL_law_610 : decode cL_law 610 = .ok (.iadd, 1) := by decide +kernel
theorem dL_law_611 : decode cL_law 611 = .ok (.iaload, 1) := by decide +kernel
theorem dL_law_612 : decode cL_law 612 = .ok (.aload_n 0, 1) := by decide +kernel
theorem dL_law_613 : decode cL_law 613 = .ok (.iload_n 3, 1) := by decide +kernel
theorem dL_law_614 : decode cL_law 614 = .ok (.iconst 2, 1) := by decide +kernel
theorem dL_law_615 : decode cL_law 615 = .ok (.iadd, 1) := by decide +kernel
theorem dL_law_616 : decode cL_law 616 = .ok (.iaload, 1) := by decide +kernel
theorem dL_law_617 : decode cL_law 617 = .ok (.aload_n 0, 1) := by decide +kernel
theorem dL_law_618 : decode cL_law 618 = .ok (.iload_n 3, 1) := by decide +kernel
theorem dL_law_619 : decode cL_law 619 = .ok (.iconst 3, 1) := by decide +kernel
theorem dL_law_620 : decode cL_law 620 = .ok (.iadd, 1) := by decide +kernel
theorem dL_law_621 : decode cL_law 621 = .ok (.iaload, 1) := by decide +kernel
theorem dL_law_622 : decode cL_law 622 = .ok (.aload_n 0, 1) := by decide +kernel
theorem dL_law_623 : decode cL_law 623 = .ok (.iload_n 3, 1) := by decide +kernel
theorem dL_law_624 : decode cL_law 624 = .ok (.iconst 4, 1) := by decide +kernel
theorem dL_law_625 : decode cL_law 625 = .ok (.iadd, 1) := by decide +kernel
theorem dL_law_626 : decode cL_law 626 = .ok (.iaload, 1) := by decide +kernel
theorem dL_law_627 : decode cL_law 627 = .ok (.aload_n 0, 1) := by decide +kernel
theorem dL_law_628 : decode cL_law 628 = .ok (.iload_n 3, 1) := by decide +kernel
theorem dL_law_629 : decode cL_law 629 = .ok (.iconst 5, 1) := by decide +kernel
theorem dL_law_630 : decode cL_law 630 = .ok (.iadd, 1) := by decide +kernel
theorem dL_law_631 : decode cL_law 631 = .ok (.iaload, 1) := by decide +kernel
theorem dL_law_632 : decode cL_law 632 = .ok (.invokevirtual 84, 3) := by decide +kernel
theorem dL_law_635 : decode cL_law 635 = .ok (.if_icmp .eq 209, 3) := by decide +kernel
theorem dL_law_638 : decode cL_law 638 = .ok (.iconst 0, 1) := by decide +kernel
theorem dL_law_639 : decode cL_law 639 = .ok (.ireturn, 1) := by decide +kernel
theorem dL_law_640 : decode cL_law 640 = .ok (.aload_n 1, 1) := by decide +kernel
theorem dL_law_641 : decode cL_law 641 = .ok (.aload_n 0, 1) := by decide +kernel
theorem dL_law_642 : decode cL_law 642 = .ok (.iload_n 3, 1) := by decide +kernel
theorem dL_law_643 : decode cL_law 643 = .ok (.iconst 1, 1) := by decide +kernel
theorem dL_law_644 : decode cL_law 644 = .ok (.iadd, 1) := by decide +kernel
theorem dL_law_645 : decode cL_law 645 = .ok (.iaload, 1) := by decide +kernel
theorem dL_law_646 : decode cL_law 646 = .ok (.invokevirtual 85, 3) := by decide +kernel
theorem dL_law_649 : decode cL_law 649 = .ok (.aload_n 2, 1) := by decide +kernel
theorem dL_law_650 : decode cL_law 650 = .ok (.aload_n 0, 1) := by decide +kernel
theorem dL_law_651 : decode cL_law 651 = .ok (.iload_n 3, 1) := by decide +kernel
theorem dL_law_652 : decode cL_law 652 = .ok (.iconst 1, 1) := by decide +kernel
theorem dL_law_653 : decode cL_law 653 = .ok (.iadd, 1) := by decide +kernel
theorem dL_law_654 : decode cL_law 654 = .ok (.iaload, 1) := by decide +kernel
theorem dL_law_655 : decode cL_law 655 = .ok (.invokevirtual 88, 3) := by decide +kernel
theorem dL_law_658 : decode cL_law 658 = .ok (.if_icmp .eq 186, 3) := by decide +kernel
theorem dL_law_661 : decode cL_law 661 = .ok (.iconst 0, 1) := by decide +kernel
theorem dL_law_662 : decode cL_law 662 = .ok (.ireturn, 1) := by decide +kernel
theorem dL_law_663 : decode cL_law 663 = .ok (.aload_n 1, 1) := by decide +kernel
theorem dL_law_664 : decode cL_law 664 = .ok (.invokevirtual 89, 3) := by decide +kernel
theorem dL_law_667 : decode cL_law 667 = .ok (.aload_n 2, 1) := by decide +kernel
theorem dL_law_668 : decode cL_law 668 = .ok (.invokevirtual 92, 3) := by decide +kernel
theorem dL_law_671 : decode cL_law 671 = .ok (.if_icmp .eq 173, 3) := by decide +kernel
theorem dL_law_674 : decode cL_law 674 = .ok (.iconst 0, 1) := by decide +kernel
theorem dL_law_675 : decode cL_law 675 = .ok (.ireturn, 1) := by decide +kernel
theorem dL_law_676 : decode cL_law 676 = .ok (.aload_n 1, 1) := by decide +kernel
theorem dL_law_677 : decode cL_law 677 = .ok (.aload_n 0, 1) := by decide +kernel
theorem dL_law_678 : decode cL_law 678 = .ok (.iload_n 3, 1) := by decide +kernel
theorem dL_law_679 : decode cL_law 679 = .ok (.iconst 1, 1) := by decide +kernel
theorem dL_law_680 : decode cL_law 680 = .ok (.iadd, 1) := by decide +kernel
theorem dL_law_681 : decode cL_law 681 = .ok (.iaload, 1) := by decide +kernel
theorem dL_law_682 : decode cL_law 682 = .ok (.aload_n 0, 1) := by decide +kernel
theorem dL_law_683 : decode cL_law 683 = .ok (.iload_n 3, 1) := by decide +kernel
theorem dL_law_684 : decode cL_law 684 = .ok (.iconst 2, 1) := by decide +kernel
theorem dL_law_685 : decode cL_law 685 = .ok (.iadd, 1) := by decide +kernel
theorem dL_law_686 : decode cL_law 686 = .ok (.iaload, 1) := by decide +kernel
theorem dL_law_687 : decode cL_law 687 = .ok (.aload_n 0, 1) := by decide +kernel
theorem dL_law_688 : decode cL_law 688 = .ok (.iload_n 3, 1) := by decide +kernel
theorem dL_law_689 : decode cL_law 689 = .ok (.iconst 3, 1) := by decide +kernel
theorem dL_law_690 : decode cL_law 690 = .ok (.iadd, 1) := by decide +kernel
theorem dL_law_691 : decode cL_law 691 = .ok (.iaload, 1) := by decide +kernel
theorem dL_law_692 : decode cL_law 692 = .ok (.aload_n 0, 1) := by decide +kernel
theorem dL_law_693 : decode cL_law 693 = .ok (.iload_n 3, 1) := by decide +kernel
theorem dL_law_694 : decode cL_law 694 = .ok (.iconst 4, 1) := by decide +kernel
theorem dL_law_695 : decode cL_law 695 = .ok (.iadd, 1) := by decide +kernel
theorem dL_law_696 : decode cL_law 696 = .ok (.iaload, 1) := by decide +kernel
theorem dL_law_697 : decode cL_law 697 = .ok (.invokevirtual 93, 3) := by decide +kernel
theorem dL_law_700 : decode cL_law 700 = .ok (.aload_n 2, 1) := by decide +kernel
theorem dL_law_701 : decode cL_law 701 = .ok (.aload_n 0, 1) := by decide +kernel
theorem dL_law_702 : decode cL_law 702 = .ok (.iload_n 3, 1) := by decide +kernel
theorem dL_law_703 : decode cL_law 703 = .ok (.iconst 1, 1) := by decide +kernel
theorem dL_law_704 : decode cL_law 704 = .ok (.iadd, 1) := by decide +kernel
theorem dL_law_705 : decode cL_law 705 = .ok (.iaload, 1) := by decide +kernel
theorem dL_law_706 : decode cL_law 706 = .ok (.aload_n 0, 1) := by decide +kernel
theorem dL_law_707 : decode cL_law 707 = .ok (.iload_n 3, 1) := by decide +kernel
theorem dL_law_708 : decode cL_law 708 = .ok (.iconst 2, 1) := by decide +kernel
theorem dL_law_709 : decode cL_law 709 = .ok (.iadd, 1) := by decide +kernel
theorem dL_law_710 : decode cL_law 710 = .ok (.iaload, 1) := by decide +kernel
theorem dL_law_711 : decode cL_law 711 = .ok (.aload_n 0, 1) := by decide +kernel
theorem dL_law_712 : decode cL_law 712 = .ok (.iload_n 3, 1) := by decide +kernel
theorem dL_law_713 : decode cL_law 713 = .ok (.iconst 3, 1) := by decide +kernel
theorem dL_law_714 : decode cL_law 714 = .ok (.iadd, 1) := by decide +kernel
theorem dL_law_715 : decode cL_law 715 = .ok (.iaload, 1) := by decide +kernel
theorem dL_law_716 : decode cL_law 716 = .ok (.aload_n 0, 1) := by decide +kernel
theorem dL_law_717 : decode cL_law 717 = .ok (.iload_n 3, 1) := by decide +kernel
theorem dL_law_718 : decode cL_law 718 = .ok (.iconst 4, 1) := by decide +kernel
theorem dL_law_719 : decode cL_law 719 = .ok (.iadd, 1) := by decide +kernel
theorem dL_law_720 : decode cL_law 720 = .ok (.iaload, 1) := by decide +kernel
theorem dL_law_721 : decode cL_law 721 = .ok (.invokevirtual 97, 3) := by decide +kernel
theorem dL_law_724 : decode cL_law 724 = .ok (.if_icmp .eq 120, 3) := by decide +kernel
theorem dL_law_727 : decode cL_law 727 = .ok (.iconst 0, 1) := by decide +kernel
theorem dL_law_728 : decode cL_law 728 = .ok (.ireturn, 1) := by decide +kernel
theorem dL_law_729 : decode cL_law 729 = .ok (.aload_n 1, 1) := by decide +kernel
theorem dL_law_730 : decode cL_law 730 = .ok (.aload_n 0, 1) := by decide +kernel
theorem dL_law_731 : decode cL_law 731 = .ok (.iload_n 3, 1) := by decide +kernel
theorem dL_law_732 : decode cL_law 732 = .ok (.iconst 1, 1) := by decide +kernel
theorem dL_law_733 : decode cL_law 733 = .ok (.iadd, 1) := by decide +kernel
theorem dL_law_734 : decode cL_law 734 = .ok (.iaload, 1) := by decide +kernel
theorem dL_law_735 : decode cL_law 735 = .ok (.invokevirtual 98, 3) := by decide +kernel
theorem dL_law_738 : decode cL_law 738 = .ok (.aload_n 2, 1) := by decide +kernel
theorem dL_law_739 : decode cL_law 739 = .ok (.aload_n 0, 1) := by decide +kernel
theorem dL_law_740 : decode cL_law 740 = .ok (.iload_n 3, 1) := by decide +kernel
theorem dL_law_741 : decode cL_law 741 = .ok (.iconst 1, 1) := by decide +kernel
theorem dL_law_742 : decode cL_law 742 = .ok (.iadd, 1) := by decide +kernel
theorem dL_law_743 : decode cL_law 743 = .ok (.iaload, 1) := by decide +kernel
theorem dL_law_744 : decode cL_law 744 = .ok (.invokevirtual 101, 3) := by decide +kernel
theorem dL_law_747 : decode cL_law 747 = .ok (.if_icmp .eq 97, 3) := by decide +kernel
theorem dL_law_750 : decode cL_law 750 = .ok (.iconst 0, 1) := by decide +kernel
theorem dL_law_751 : decode cL_law 751 = .ok (.ireturn, 1) := by decide +kernel
theorem dL_law_752 : decode cL_law 752 = .ok (.aload_n 1, 1) := by decide +kernel
theorem dL_law_753 : decode cL_law 753 = .ok (.aload_n 0, 1) := by decide +kernel
theorem dL_law_754 : decode cL_law 754 = .ok (.iload_n 3, 1) := by decide +kernel
theorem dL_law_755 : decode cL_law 755 = .ok (.iconst 1, 1) := by decide +kernel
theorem dL_law_756 : decode cL_law 756 = .ok (.iadd, 1) := by decide +kernel
theorem dL_law_757 : decode cL_law 757 = .ok (.iaload, 1) := by decide +kernel
theorem dL_law_758 : decode cL_law 758 = .ok (.invokevirtual 102, 3) := by decide +kernel
theorem dL_law_761 : decode cL_law 761 = .ok (.aload_n 2, 1) := by decide +kernel
theorem dL_law_762 : decode cL_law 762 = .ok (.aload_n 0, 1) := by decide +kernel
theorem dL_law_763 : decode cL_law 763 = .ok (.iload_n 3, 1) := by decide +kernel
theorem dL_law_764 : decode cL_law 764 = .ok (.iconst 1, 1) := by decide +kernel
theorem dL_law_765 : decode cL_law 765 = .ok (.iadd, 1) := by decide +kernel
theorem dL_law_766 : decode cL_law 766 = .ok (.iaload, 1) := by decide +kernel
theorem dL_law_767 : decode cL_law 767 = .ok (.invokevirtual 106, 3) := by decide +kernel
theorem dL_law_770 : decode cL_law 770 = .ok (.if_icmp .eq 74, 3) := by decide +kernel
theorem dL_law_773 : decode cL_law 773 = .ok (.iconst 0, 1) := by decide +kernel
theorem dL_law_774 : decode cL_law 774 = .ok (.ireturn, 1) := by decide +kernel
theorem dL_law_775 : decode cL_law 775 = .ok (.aload_n 1, 1) := by decide +kernel
theorem dL_law_776 : decode cL_law 776 = .ok (.aload_n 0, 1) := by decide +kernel
theorem dL_law_777 : decode cL_law 777 = .ok (.iload_n 3, 1) := by decide +kernel
theorem dL_law_778 : decode cL_law 778 = .ok (.iconst 1, 1) := by decide +kernel
theorem dL_law_779 : decode cL_law 779 = .ok (.iadd, 1) := by decide +kernel
theorem dL_law_780 : decode cL_law 780 = .ok (.iaload, 1) := by decide +kernel
theorem dL_law_781 : decode cL_law 781 = .ok (.aload_n 0, 1) := by decide +kernel
theorem dL_law_782 : decode cL_law 782 = .ok (.iload_n 3, 1) := by decide +kernel
theorem dL_law_783 : decode cL_law 783 = .ok (.iconst 2, 1) := by decide +kernel
theorem dL_law_784 : decode cL_law 784 = .ok (.iadd, 1) := by decide +kernel
theorem dL_law_785 : decode cL_law 785 = .ok (.iaload, 1) := by decide +kernel
theorem dL_law_786 : decode cL_law 786 = .ok (.invokevirtual 107, 3) := by decide +kernel
theorem dL_law_789 : decode cL_law 789 = .ok (.aload_n 2, 1) := by decide +kernel
theorem dL_law_790 : decode cL_law 790 = .ok (.aload_n 0, 1) := by decide +kernel
theorem dL_law_791 : decode cL_law 791 = .ok (.iload_n 3, 1) := by decide +kernel
theorem dL_law_792 : decode cL_law 792 = .ok (.iconst 1, 1) := by decide +kernel
theorem dL_law_793 : decode cL_law 793 = .ok (.iadd, 1) := by decide +kernel
theorem dL_law_794 : decode cL_law 794 = .ok (.iaload, 1) := by decide +kernel
theorem dL_law_795 : decode cL_law 795 = .ok (.aload_n 0, 1) := by decide +kernel
theorem dL_law_796 : decode cL_law 796 = .ok (.iload_n 3, 1) := by decide +kernel
theorem dL_law_797 : decode cL_law 797 = .ok (.iconst 2, 1) := by decide +kernel
theorem dL_law_798 : decode cL_law 798 = .ok (.iadd, 1) := by decide +kernel
theorem dL_law_799 : decode cL_law 799 = .ok (.iaload, 1) := by decide +kernel
theorem dL_law_800 : decode cL_law 800 = .ok (.invokevirtual 110, 3) := by decide +kernel
theorem dL_law_803 : decode cL_law 803 = .ok (.if_icmp .eq 41, 3) := by decide +kernel
theorem dL_law_806 : decode cL_law 806 = .ok (.iconst 0, 1) := by decide +kernel
theorem dL_law_807 : decode cL_law 807 = .ok (.ireturn, 1) := by decide +kernel
theorem dL_law_808 : decode cL_law 808 = .ok (.aload_n 1, 1) := by decide +kernel
theorem dL_law_809 : decode cL_law 809 = .ok (.invokevirtual 111, 3) := by decide +kernel
theorem dL_law_812 : decode cL_law 812 = .ok (.aload_n 2, 1) := by decide +kernel
theorem dL_law_813 : decode cL_law 813 = .ok (.invokevirtual 114, 3) := by decide +kernel
theorem dL_law_816 : decode cL_law 816 = .ok (.if_icmp .eq 28, 3) := by decide +kernel
theorem dL_law_819 : decode cL_law 819 = .ok (.iconst 0, 1) := by decide +kernel
theorem dL_law_820 : decode cL_law 820 = .ok (.ireturn, 1) := by decide +kernel
theorem dL_law_821 : decode cL_law 821 = .ok (.aload_n 1, 1) := by decide +kernel
theorem dL_law_822 : decode cL_law 822 = .ok (.aload_n 0, 1) := by decide +kernel
theorem dL_law_823 : decode cL_law 823 = .ok (.iload_n 3, 1) := by decide +kernel
theorem dL_law_824 : decode cL_law 824 = .ok (.iconst 1, 1) := by decide +kernel
theorem dL_law_825 : decode cL_law 825 = .ok (.iadd, 1) := by decide +kernel
theorem dL_law_826 : decode cL_law 826 = .ok (.iaload, 1) := by decide +kernel
theorem dL_law_827 : decode cL_law 827 = .ok (.invokevirtual 115, 3) := by decide +kernel
theorem dL_law_830 : decode cL_law 830 = .ok (.aload_n 2, 1) := by decide +kernel
theorem dL_law_831 : decode cL_law 831 = .ok (.aload_n 0, 1) := by decide +kernel
theorem dL_law_832 : decode cL_law 832 = .ok (.iload_n 3, 1) := by decide +kernel
theorem dL_law_833 : decode cL_law 833 = .ok (.iconst 1, 1) := by decide +kernel
theorem dL_law_834 : decode cL_law 834 = .ok (.iadd, 1) := by decide +kernel
theorem dL_law_835 : decode cL_law 835 = .ok (.iaload, 1) := by decide +kernel
theorem dL_law_836 : decode cL_law 836 = .ok (.invokevirtual 118, 3) := by decide +kernel
theorem dL_law_839 : decode cL_law 839 = .ok (.if_icmp .eq 5, 3) := by decide +kernel
theorem dL_law_842 : decode cL_law 842 = .ok (.iconst 0, 1) := by decide +kernel
theorem dL_law_843 : decode cL_law 843 = .ok (.ireturn, 1) := by decide +kernel
theorem dL_law_844 : decode cL_law 844 = .ok (.iinc 3 6, 3) := by decide +kernel
theorem dL_law_847 : decode cL_law 847 = .ok (.goto (-809), 3) := by decide +kernel
theorem dL_law_850 : decode cL_law 850 = .ok (.iconst 1, 1) := by decide +kernel
theorem dL_law_851 : decode cL_law 851 = .ok (.ireturn, 1) := by decide +kernel
end
section
/-! THE JUDGEMENT. The cells that the law has made since its start are numbered 0, 1, 2 ..; a number stands for the cell at that distance from the heap's old end. A world: how many cells, the kind of each (an array of numbers with its type and length, an array of references with its length, an object with the number of its kind in vwCl), the references (by cell and place), the numbers (by cell and place). -/
abbrev am_Kd : Type := (Nat × Nat) ⊕ (Nat ⊕ Nat)
abbrev am_S : Type := Nat × (Nat → am_Kd) × (Nat → Nat → Option Nat)
abbrev am_I : Type := Nat → Nat → Int32
/-- what a run has fixed: the heap's old end, the numbers of the kinds and slots, the array kinds, the places of the text constants and of their bytes -/
abbrev am_G : Type := Nat × va_G × (Nat → ClassId) × (Nat → Nat) × (Nat → Nat)
/-- a method: its name, the number of its owner, its bytes, what it returns, how many places its frame has -/
abbrev am_Y : Type := MethodName × Nat × ByteArray × Option FieldType × Nat
def am_B : Nat := 1000000
def am_ad (g : am_G) (k : Nat) : Nat := if k < am_B then g.1 + k else if k < 2 * am_B then g.2.2.2.1 (k - am_B) else g.2.2.2.2 (k - 2 * am_B)
def am_v (g : am_G) : Value → Value
  | .ref k => .ref (am_ad g k)
  | .int x => .int x
  | .long x => .long x
  | .null => .null
  | .float x => .float x
  | .double x => .double x
  | .retAddr x => .retAddr x
theorem am_v_cat (g : am_G) (v : Value) : (am_v g v).category = v.category := by cases v <;> rfl
def am_R (c : Nat) : String := match c with
  | 0 => RX0
  | 1 => RX1
  | 2 => RX2
  | 3 => RX3
  | 4 => RX4
  | 5 => RX5
  | 6 => RX6
  | 7 => RX7
  | 8 => RX8
  | 9 => RL
  | 10 => RJ7
  | 11 => RJ0
  | 12 => RJ1
  | 13 => RJ3
  | _ => RJ9
def am_T (c : Nat) : u_T := match c with
  | 0 => TX0
  | 1 => TX1
  | 2 => TX2
  | 3 => TX3
  | 4 => TX4
  | 5 => TX5
  | 6 => TX6
  | 7 => TX7
  | _ => TX8
def am_ty (c : Nat) : Nat → FieldType := match c with
  | 0 => tyX0
  | 1 => tyX1
  | 2 => tyX2
  | 3 => tyX3
  | 4 => tyX4
  | 5 => tyX5
  | 6 => tyX6
  | 7 => tyX7
  | _ => tyX8
def am_n (c : Nat) : Nat := match c with
  | 0 => 3
  | 1 => 4
  | 2 => 5
  | 3 => 5
  | 4 => 5
  | 5 => 5
  | 6 => 6
  | 7 => 11
  | _ => 30
theorem am_cl {c : Nat} (h : c < 9) : vwCl[c]? = some (am_R c, am_T c, am_n c) := by
  rcases (show c = 0 ∨ c = 1 ∨ c = 2 ∨ c = 3 ∨ c = 4 ∨ c = 5 ∨ c = 6 ∨ c = 7 ∨ c = 8 by omega) with rfl | rfl | rfl | rfl | rfl | rfl | rfl | rfl | rfl <;> rfl
theorem am_tyok {c : Nat} (h : c < 9) : ∀ k, k < am_n c → parseFieldDescriptor (am_T c k).2.2.1 = some (am_ty c k) := by
  rcases (show c = 0 ∨ c = 1 ∨ c = 2 ∨ c = 3 ∨ c = 4 ∨ c = 5 ∨ c = 6 ∨ c = 7 ∨ c = 8 by omega) with rfl | rfl | rfl | rfl | rfl | rfl | rfl | rfl | rfl
  · exact tyX0_ok
  · exact tyX1_ok
  · exact tyX2_ok
  · exact tyX3_ok
  · exact tyX4_ok
  · exact tyX5_ok
  · exact tyX6_ok
  · exact tyX7_ok
  · exact tyX8_ok
theorem am_nmok {c : Nat} (h : c < 9) : ∀ a, a < am_n c → ∀ b, b < am_n c → a ≠ b → (am_T c a).2.1 ≠ (am_T c b).2.1 := by
  rcases (show c = 0 ∨ c = 1 ∨ c = 2 ∨ c = 3 ∨ c = 4 ∨ c = 5 ∨ c = 6 ∨ c = 7 ∨ c = 8 by omega) with rfl | rfl | rfl | rfl | rfl | rfl | rfl | rfl | rfl
  · exact nmX0
  · exact nmX1
  · exact nmX2
  · exact nmX3
  · exact nmX4
  · exact nmX5
  · exact nmX6
  · exact nmX7
  · exact nmX8
/-- the words that every method is given -/
def am_gw : List Cond := lw_tbl.filter goodWord
theorem am_gwm {w : Cond} (h : w ∈ lw_tbl) (hg : goodWord w = true) : w ∈ am_gw := List.mem_filter.mpr ⟨h, hg⟩
theorem am_gwt {w : Cond} (h : w ∈ am_gw) : w ∈ lw_tbl := (List.mem_filter.mp h).1
theorem am_good {w : Cond} (h : w ∈ am_gw) : w ∈ am_gw ∧ ((w.onTables && w.keeps) = true ∨ ∃ ty, w = .arrayClass ty) := ⟨h, good_of_word (List.mem_filter.mp h).2⟩
set_option maxRecDepth 100000 in
theorem am_lays : ∀ c, c < 9 → ∀ w ∈ u_ws (am_R c) (am_T c) (am_n c), w ∈ am_gw := by
  intro c hc
  rcases (show c = 0 ∨ c = 1 ∨ c = 2 ∨ c = 3 ∨ c = 4 ∨ c = 5 ∨ c = 6 ∨ c = 7 ∨ c = 8 by omega) with rfl | rfl | rfl | rfl | rfl | rfl | rfl | rfl | rfl <;> decide +kernel
def am_nw : List (Nat × Nat × MethodName) := [(7, 9, yX0_init), (0, 22, yX7_isDots), (7, 42, yX2_init), (7, 49, yX1_init), (7, 56, yX3_init), (4, 33, yX0_init), (0, 40, yX7_placeOf), (1, 33, yX7_placeOf), (6, 89, yX7_placeOf)]
def am_isR : FieldType → Bool
  | .object _ => true
  | .array _ => true
  | _ => false
def am_fv (S : am_S) (I : am_I) (a c k : Nat) : Value := if am_isR (am_ty c k) = true then va_rf (S.2.2 a k) else .int (I a k)
def am_A (g : am_G) : Nat → Prop := fun q => g.1 ≤ q
/-- a cell of the world, in the heap -/
def am_at (g : am_G) (S : am_S) (I : am_I) (H : Heap) (a : Nat) : Prop := match S.2.1 a with
  | .inl (t, n) => H[am_ad g a]? = some (arrV (g.2.2.1 t) n (fun j => .int (I a j)))
  | .inr (.inl n) => H[am_ad g a]? = some (arrV (g.2.2.1 3) n (fun j => am_v g (va_rf (S.2.2 a j))))
  | .inr (.inr c) => c < 9 ∧ t_OB (am_ad g a) (g.2.1.1 c) (am_n c) (g.2.1.2 c) H (fun k => am_v g (am_fv S I a c k))
def am_H (g : am_G) (S : am_S) (I : am_I) (H : Heap) : Prop := H.size = g.1 + S.1 ∧ S.1 ≤ am_B ∧ ∀ a, a < S.1 → am_at g S I H a
def am_tys (g : am_G) : List (ClassId × FieldType) := [(g.2.2.1 0, .int), (g.2.2.1 1, .byte), (g.2.2.1 2, .boolean), (g.2.2.1 3, .object RX0)]
def am_len : List Nat := [5, 3, 4, 4, 6, 5, 4, 3, 4]
def am_byt : List (List Int32) := [[112, 108, 97, 105, 110], [115, 101, 116], [116, 117, 114, 110], [102, 108, 105, 112], [98, 101, 115, 105, 100, 101], [97, 98, 111, 118, 101], [111, 118, 101, 114], [114, 111, 119], [107, 101, 112, 116]]
def am_six : List Nat := [57, 63, 65, 67, 69, 71, 73, 75, 77]
def am_stx : List String := ["plain", "set", "turn", "flip", "beside", "above", "over", "row", "kept"]
/-- the text constants and the statics that their methods read -/
def am_Str (g : am_G) (s : State) : Prop :=
  vk_S 9 am_len am_byt g.2.2.2.1 g.2.2.2.2 (am_A g) s s.heap ∧ (∀ i, i < 9 → vk_R RX5 (am_six.getD i 0) (am_stx.getD i "") (g.2.2.2.1 i) s) ∧
  va_Z "java/lang/String" "COMPACT_STRINGS" "Z" (.int 1) (am_A g) s s.heap ∧ va_Z "jdk/internal/util/Preconditions" "SIOOBE_FORMATTER" "Ljava/util/function/BiFunction;" (.ref (g.2.2.2.2 9)) (am_A g) s s.heap
/-- what a method's start has of the tables -/
def am_Wd (g : am_G) (s : State) : Prop :=
  va_K g.2.1 vwCl (am_tys g) s ∧ (∀ q ∈ am_nw, va_Nw (.methodLinkNest (am_R q.1) q.2.1 q.2.2 RX7) s) ∧ am_Str g s ∧ g.1 ≤ s.heap.size ∧ va_AO RX0 s
theorem am_Wd.moved {g : am_G} {s U : State} {H : Heap} {locs : List Loc} (hW : s.WarmedH U.vm) (hU : U.heap = H) (hS : va_S (am_A g) s.heap H locs) (h : am_Wd g s) : am_Wd g U := by
  obtain ⟨h1, h2, ⟨h3, h4, h5, h6⟩, h7, h8⟩ := h
  subst hU
  exact ⟨h1.moved hW.alike, fun q hq => (h2 q hq).warmM hW, ⟨(h3.kept hS.2.1).moved hW.alike, fun i hi => (h4 i hi).warm hW, (h5.kept hS.2.1).moved hW.alike, (h6.kept hS.2.1).moved hW.alike⟩, Nat.le_trans h7 hS.1, h8.moved hW.alike⟩
theorem am_Wd.blind {g : am_G} {U : State} (f : JFrame) (mk : MethodId) (a : Array Value) (h : am_Wd g U) : am_Wd g (U.calling f mk a) := by
  obtain ⟨h1, h2, ⟨h3, h4, h5, h6⟩, h7, h8⟩ := h
  exact ⟨va_K.moved (u := U) (U := U.calling f mk a) (Vm.Alike.refl U.vm) h1, fun q hq => va_Nw.same rfl (u := U) (U := U.calling f mk a) rfl (h2 q hq), ⟨vk_S.moved (u := U) (U := U.calling f mk a) (Vm.Alike.refl U.vm) h3, fun i hi => vk_R.same (u := U) (U := U.calling f mk a) rfl (h4 i hi), va_Z.moved (u := U) (U := U.calling f mk a) (Vm.Alike.refl U.vm) h5, va_Z.moved (u := U) (U := U.calling f mk a) (Vm.Alike.refl U.vm) h6⟩, h7, va_AO.moved (u := U) (U := U.calling f mk a) (Vm.Alike.refl U.vm) h8⟩
/-- a method's start and end -/
def am_Pc (g : am_G) (as : List Value) (S : am_S) (I : am_I) : Array Value → State → Prop := fun v U => v = (as.map (am_v g)).toArray ∧ am_Wd g U ∧ am_H g S I U.heap
def am_Qc (g : am_G) (Q : Option Value → am_S → am_I → Prop) : Array Value → State → Outcome → State → Prop := fun _ st o t =>
  (∃ (r : Option Value) (S' : am_S) (I' : am_I), o = .returned (r.map (am_v g)) ∧ Q r S' I' ∧ am_H g S' I' t.heap) ∧ va_F (am_A g) st t
theorem am_Pc.blind (g : am_G) (as : List Value) (S : am_S) (I : am_I) : FrameBlind (am_Pc g as S I) := fun _ _ f mk h => ⟨h.1, h.2.1.blind f mk _, h.2.2⟩
def am_rm (d : Nat) (b : Nat × Nat) : Room := { frames := d, cells := b.1, slots := b.2, locals := 60 * d }
/-- a method's contract: with these arguments in this world it returns, and Q holds of its answer and of the world behind it -/
def am_Mt (d : Nat) (Y : am_Y) (b : Nat × Nat) (as : List Value) (S : am_S) (I : am_I) (Q : Option Value → am_S → am_I → Prop) : Prop :=
  ∀ (g : am_G) (l : Launch), Met l Y.1 (.code Y.1 Y.2.2.1 Y.2.2.2.2 Y.2.2.2.1 :: am_gw) (am_rm d b) (am_Pc g as S I) (am_Qc g Q) b.1 b.2 (am_A g)
/-- the frame's places -/
def am_L (g : am_G) (cl : Array Slot) (nL : Nat) (ls : List (Option Value)) : Prop :=
  ls.length = nL ∧ ∃ lv : List (Nat × Value), lv_has cl nL lv ∧ ∀ (i : Nat) (v : Value), ls[i]? = some (some v) → (i, am_v g v) ∈ lv
theorem am_L.at {g : am_G} {cl : Array Slot} {nL : Nat} {ls : List (Option Value)} (h : am_L g cl nL ls) {i : Nat} {v : Value} (hv : ls[i]? = some (some v)) : cl[i]? = some (.val (am_v g v)) := by
  obtain ⟨_, lv, h1, h2⟩ := h
  exact h1.2.2 _ (h2 i v hv)
theorem am_L.size {g : am_G} {cl : Array Slot} {nL : Nat} {ls : List (Option Value)} (h : am_L g cl nL ls) : cl.size = nL := by
  obtain ⟨_, lv, h1, h2⟩ := h
  exact h1.1
/-- fewer known places -/
theorem am_L.sub {g : am_G} {cl : Array Slot} {nL : Nat} {ls ls' : List (Option Value)} (h : am_L g cl nL ls) (hl : ls'.length = ls.length) (hs : ∀ (i : Nat) (v : Value), ls'[i]? = some (some v) → ls[i]? = some (some v)) : am_L g cl nL ls' := by
  obtain ⟨h0, lv, h1, h2⟩ := h
  exact ⟨hl.trans h0, lv, h1, fun i v hv => h2 i v (hs i v hv)⟩
/-- what holds in a frame -/
def am_Cx (d : Nat) (Y : am_Y) (b : Nat × Nat) (g : am_G) (p : Program) (R : Room) (s : State) (m : MethodId) (args : Array Value) (meth : Method) (c : Code) (H : Heap) (locs : List Loc) (cells slots mc ms : Nat) (S : am_S) (I : am_I) : Prop :=
  CallFix p m c Y.2.2.1 Y.2.2.2.2 s args am_gw (am_R Y.2.1) ∧ (meth.sig.returnType = Y.2.2.2.1 ∧ meth.locks = false ∧ meth.name = Y.1.name) ∧
  (d ≤ R.frames ∧ 60 * d ≤ R.locals ∧ mc ≤ R.cells ∧ ms ≤ R.slots) ∧ (cells + b.1 = mc ∧ slots + b.2 = ms) ∧ am_Wd g s ∧ va_S (am_A g) s.heap H locs ∧ am_H g S I H
def am_Rn (d : Nat) (Y : am_Y) (b : Nat × Nat) (pc : Nat) (ls : List (Option Value)) (st : List Value) (S : am_S) (I : am_I) (Q : Option Value → am_S → am_I → Prop) : Prop :=
  ∀ (g : am_G) (p : Program) (l : Launch) (e : Env) (R : Room) (s : State) (m : MethodId) (args : Array Value) (below : List Frame) (meth : Method) (c : Code) (H : Heap) (locs : List Loc) (cells slots mc ms : Nat) (cl : Array Slot),
    am_Cx d Y b g p R s m args meth c H locs cells slots mc ms S I → am_L g cl Y.2.2.2.2 ls →
    W p l e R s m args below meth c H locs cells slots (MQ below (am_Qc g Q) args s mc ms (am_A g)) (F0 m pc cl (st.map (am_v g)))
/-- the places at a method's start -/
def am_ent : List Value → List (Option Value)
  | [] => []
  | v :: r => if v.category = 2 then some v :: none :: am_ent r else some v :: am_ent r
theorem am_ent_len (g : am_G) : ∀ as : List Value, (lg_sl (as.map (am_v g))).length = (am_ent as).length := by
  intro as
  induction as with
  | nil => rfl
  | cons v r ih =>
    by_cases h : v.category = 2
    · simp only [List.map_cons, lg_sl, List.flatMap_cons, am_v_cat, h, if_true, am_ent] at ih ⊢
      simp only [List.length_append, List.length_cons, List.length_nil, ih]
      omega
    · simp only [List.map_cons, lg_sl, List.flatMap_cons, am_v_cat, h, if_false, am_ent] at ih ⊢
      simp only [List.length_append, List.length_cons, List.length_nil, ih]
      omega
theorem am_ent_in (g : am_G) : ∀ (as : List Value) (n i : Nat) (v : Value), (am_ent as)[i]? = some (some v) → (n + i, am_v g v) ∈ lv_args n (as.map (am_v g)) := by
  intro as
  induction as with
  | nil => intro n i v h; simp [am_ent] at h
  | cons w r ih =>
    intro n i v h
    by_cases hc : w.category = 2
    · simp only [am_ent, hc, if_true] at h
      simp only [List.map_cons, lv_args, am_v_cat, hc, if_true]
      match i, h with
      | 0, h => simp at h; subst h; exact List.mem_cons_self
      | 1, h => simp at h
      | i + 2, h =>
        have h' : (am_ent r)[i]? = some (some v) := by simpa using h
        have := ih (n + 2) i v h'
        exact List.mem_cons_of_mem _ (by rw [show n + (i + 2) = n + 2 + i by omega]; exact this)
    · simp only [am_ent, hc, if_false] at h
      simp only [List.map_cons, lv_args, am_v_cat, hc, if_false]
      match i, h with
      | 0, h => simp at h; subst h; exact List.mem_cons_self
      | i + 1, h =>
        have h' : (am_ent r)[i]? = some (some v) := by simpa using h
        have := ih (n + 1) i v h'
        exact List.mem_cons_of_mem _ (by rw [show n + (i + 1) = n + 1 + i by omega]; exact this)
/-- a contract out of the walk from the method's first row -/
theorem am_mt {d : Nat} {Y : am_Y} {b : Nat × Nat} {as : List Value} {ls : List (Option Value)} {S : am_S} {I : am_I} {Q : Option Value → am_S → am_I → Prop} (hy : plainName Y.1.cls = true ∧ Y.1.cls = am_R Y.2.1) (hl : (am_ent as).length ≤ Y.2.2.2.2) (hls : am_ent as ++ List.replicate (Y.2.2.2.2 - (am_ent as).length) none = ls)
    (h : am_Rn d Y b 0 ls [] S I Q) : am_Mt d Y b as S I Q := by
  intro g l
  refine Met.ofW (cc := Y.2.2.1) (maxL := Y.2.2.2.2) (ret := Y.2.2.2.1) hy.1 rfl ?_
  intro p e s m args below meth c s₁ B hml hv
  obtain ⟨rfl, hW, hH⟩ := hv
  have hts := atoms_spec (ws := .code Y.1 Y.2.2.1 Y.2.2.2.2 Y.2.2.2.1 :: am_gw) B.pre
  have hown : s.vm.findClass (am_R Y.2.1) = some m.cls := by rw [← hy.2]; exact findClass_of_methodNamed B.named
  rw [lg_entry_eq]
  refine h g p l e _ s m _ below meth c s.heap [] 0 0 b.1 b.2 _ ⟨⟨B.exec, B.bytes, hml, hown, fun w hw => hts w (List.mem_cons_of_mem _ hw)⟩, ⟨B.returns, B.notSynchronized, (name_of_methodNamed B.named B.method).1⟩, ⟨Nat.le_refl _, Nat.le_refl _, Nat.le_refl _, Nat.le_refl _⟩, ⟨Nat.zero_add _, Nat.zero_add _⟩, hW, va_S.rf, hH⟩ ⟨?_, _, lv_entry (as.map (am_v g)) (by rw [am_ent_len]; exact hl), ?_⟩
  · rw [← hls]
    simp
    omega
  · intro i v hv
    rw [← hls] at hv
    have hv' : (am_ent as)[i]? = some (some v) := by
      by_cases hi : i < (am_ent as).length
      · rwa [List.getElem?_append_left hi] at hv
      · rw [List.getElem?_append_right (by omega)] at hv
        exact absurd (List.eq_of_mem_replicate (List.mem_of_getElem? hv)) (by simp)
    have := am_ent_in g as 0 i v hv'
    rwa [Nat.zero_add] at this
end
section
section AMROWS
variable {d : Nat} {Y : am_Y} {b : Nat × Nat} {pc : Nat} {ls : List (Option Value)} {st : List Value} {S : am_S} {I : am_I} {Q : Option Value → am_S → am_I → Prop}
theorem rn_iconst {n : Int} {v : Int32} (hdg : decode Y.2.2.1 pc = .ok (.iconst n, 1)) (hv : Int32.ofInt n = v) (k : am_Rn d Y b (pc + 1) ls (.int v :: st) S I Q) : am_Rn d Y b pc ls (st) S I Q := by
  intro g p l e R s m args below meth c H locs cells slots mc ms cl C L
  exact lv_iconst C.1.1 C.1.2.1 hdg hv (k g p l e R s m args below meth c H locs cells slots mc ms cl C L)
theorem rn_bipush {n : Int} {v : Int32} (hdg : decode Y.2.2.1 pc = .ok (.bipush n, 2)) (hv : (Int8.ofInt n).toInt32 = v) (k : am_Rn d Y b (pc + 2) ls (.int v :: st) S I Q) : am_Rn d Y b pc ls (st) S I Q := by
  intro g p l e R s m args below meth c H locs cells slots mc ms cl C L
  exact lv_bipush C.1.1 C.1.2.1 hdg hv (k g p l e R s m args below meth c H locs cells slots mc ms cl C L)
theorem rn_sipush {n : Int} {v : Int32} (hdg : decode Y.2.2.1 pc = .ok (.sipush n, 3)) (hv : (Int16.ofInt n).toInt32 = v) (k : am_Rn d Y b (pc + 3) ls (.int v :: st) S I Q) : am_Rn d Y b pc ls (st) S I Q := by
  intro g p l e R s m args below meth c H locs cells slots mc ms cl C L
  exact lv_sipush C.1.1 C.1.2.1 hdg hv (k g p l e R s m args below meth c H locs cells slots mc ms cl C L)
theorem rn_lconst {n : Fin 2} {v : Int64} (hdg : decode Y.2.2.1 pc = .ok (.lconst n, 1)) (hv : Int64.ofNat (n : Nat) = v) (k : am_Rn d Y b (pc + 1) ls (.long v :: st) S I Q) : am_Rn d Y b pc ls (st) S I Q := by
  intro g p l e R s m args below meth c H locs cells slots mc ms cl C L
  exact lv_lconst C.1.1 C.1.2.1 hdg hv (k g p l e R s m args below meth c H locs cells slots mc ms cl C L)
theorem rn_iload_n {n : Fin 4} {i : Nat} {x : Int32} (hdg : decode Y.2.2.1 pc = .ok (.iload_n n, 1)) (hi : (n : Nat) = i) (hl : ls[i]? = some (some (.int x))) (k : am_Rn d Y b (pc + 1) ls (.int x :: st) S I Q) : am_Rn d Y b pc ls (st) S I Q := by
  intro g p l e R s m args below meth c H locs cells slots mc ms cl C L
  exact lv_iload_n C.1.1 C.1.2.1 hdg hi (L.at hl) (k g p l e R s m args below meth c H locs cells slots mc ms cl C L)
theorem rn_iload {i : Nat} {x : Int32} (hdg : decode Y.2.2.1 pc = .ok (.iload i, 2)) (hl : ls[i]? = some (some (.int x))) (k : am_Rn d Y b (pc + 2) ls (.int x :: st) S I Q) : am_Rn d Y b pc ls (st) S I Q := by
  intro g p l e R s m args below meth c H locs cells slots mc ms cl C L
  exact lv_iload C.1.1 C.1.2.1 hdg (L.at hl) (k g p l e R s m args below meth c H locs cells slots mc ms cl C L)
theorem rn_lload_n {n : Fin 4} {i : Nat} {x : Int64} (hdg : decode Y.2.2.1 pc = .ok (.lload_n n, 1)) (hi : (n : Nat) = i) (hl : ls[i]? = some (some (.long x))) (k : am_Rn d Y b (pc + 1) ls (.long x :: st) S I Q) : am_Rn d Y b pc ls (st) S I Q := by
  intro g p l e R s m args below meth c H locs cells slots mc ms cl C L
  exact lv_lload_n C.1.1 C.1.2.1 hdg hi (L.at hl) (k g p l e R s m args below meth c H locs cells slots mc ms cl C L)
theorem rn_aload_n {n : Fin 4} {i : Nat} {x : Nat} (hdg : decode Y.2.2.1 pc = .ok (.aload_n n, 1)) (hi : (n : Nat) = i) (hl : ls[i]? = some (some (.ref x))) (k : am_Rn d Y b (pc + 1) ls (.ref x :: st) S I Q) : am_Rn d Y b pc ls (st) S I Q := by
  intro g p l e R s m args below meth c H locs cells slots mc ms cl C L
  exact lv_aload_n C.1.1 C.1.2.1 hdg hi (L.at hl) (k g p l e R s m args below meth c H locs cells slots mc ms cl C L)
theorem rn_aload {i : Nat} {x : Nat} (hdg : decode Y.2.2.1 pc = .ok (.aload i, 2)) (hl : ls[i]? = some (some (.ref x))) (k : am_Rn d Y b (pc + 2) ls (.ref x :: st) S I Q) : am_Rn d Y b pc ls (st) S I Q := by
  intro g p l e R s m args below meth c H locs cells slots mc ms cl C L
  exact lv_aload C.1.1 C.1.2.1 hdg (L.at hl) (k g p l e R s m args below meth c H locs cells slots mc ms cl C L)
theorem rn_aload_nN {n : Fin 4} {i : Nat} (hdg : decode Y.2.2.1 pc = .ok (.aload_n n, 1)) (hi : (n : Nat) = i) (hl : ls[i]? = some (some .null)) (k : am_Rn d Y b (pc + 1) ls (.null :: st) S I Q) : am_Rn d Y b pc ls (st) S I Q := by
  intro g p l e R s m args below meth c H locs cells slots mc ms cl C L
  exact lv_aload_nN C.1.1 C.1.2.1 hdg hi (L.at hl) (k g p l e R s m args below meth c H locs cells slots mc ms cl C L)
theorem rn_iadd {x y : Int32} (hdg : decode Y.2.2.1 pc = .ok (.iadd, 1)) (k : am_Rn d Y b (pc + 1) ls (.int (x + y) :: st) S I Q) : am_Rn d Y b pc ls (.int y :: .int x :: st) S I Q := by
  intro g p l e R s m args below meth c H locs cells slots mc ms cl C L
  exact lv_iadd C.1.1 C.1.2.1 hdg (k g p l e R s m args below meth c H locs cells slots mc ms cl C L)
theorem rn_isub {x y : Int32} (hdg : decode Y.2.2.1 pc = .ok (.isub, 1)) (k : am_Rn d Y b (pc + 1) ls (.int (x - y) :: st) S I Q) : am_Rn d Y b pc ls (.int y :: .int x :: st) S I Q := by
  intro g p l e R s m args below meth c H locs cells slots mc ms cl C L
  exact lv_isub C.1.1 C.1.2.1 hdg (k g p l e R s m args below meth c H locs cells slots mc ms cl C L)
theorem rn_imul {x y : Int32} (hdg : decode Y.2.2.1 pc = .ok (.imul, 1)) (k : am_Rn d Y b (pc + 1) ls (.int (x * y) :: st) S I Q) : am_Rn d Y b pc ls (.int y :: .int x :: st) S I Q := by
  intro g p l e R s m args below meth c H locs cells slots mc ms cl C L
  exact lv_imul C.1.1 C.1.2.1 hdg (k g p l e R s m args below meth c H locs cells slots mc ms cl C L)
theorem rn_iand {x y : Int32} (hdg : decode Y.2.2.1 pc = .ok (.iand, 1)) (k : am_Rn d Y b (pc + 1) ls (.int (x &&& y) :: st) S I Q) : am_Rn d Y b pc ls (.int y :: .int x :: st) S I Q := by
  intro g p l e R s m args below meth c H locs cells slots mc ms cl C L
  exact lv_iand C.1.1 C.1.2.1 hdg (k g p l e R s m args below meth c H locs cells slots mc ms cl C L)
theorem rn_idiv {x y : Int32} (hdg : decode Y.2.2.1 pc = .ok (.idiv, 1)) (hne : ¬ y = 0) (k : am_Rn d Y b (pc + 1) ls (.int (x / y) :: st) S I Q) : am_Rn d Y b pc ls (.int y :: .int x :: st) S I Q := by
  intro g p l e R s m args below meth c H locs cells slots mc ms cl C L
  exact lv_idiv C.1.1 C.1.2.1 hdg hne (k g p l e R s m args below meth c H locs cells slots mc ms cl C L)
theorem rn_irem {x y : Int32} (hdg : decode Y.2.2.1 pc = .ok (.irem, 1)) (hne : ¬ y = 0) (k : am_Rn d Y b (pc + 1) ls (.int (x - x / y * y) :: st) S I Q) : am_Rn d Y b pc ls (.int y :: .int x :: st) S I Q := by
  intro g p l e R s m args below meth c H locs cells slots mc ms cl C L
  exact lv_irem C.1.1 C.1.2.1 hdg hne (k g p l e R s m args below meth c H locs cells slots mc ms cl C L)
theorem rn_ineg {x : Int32} (hdg : decode Y.2.2.1 pc = .ok (.ineg, 1)) (k : am_Rn d Y b (pc + 1) ls (.int (-x) :: st) S I Q) : am_Rn d Y b pc ls (.int x :: st) S I Q := by
  intro g p l e R s m args below meth c H locs cells slots mc ms cl C L
  exact lv_ineg C.1.1 C.1.2.1 hdg (k g p l e R s m args below meth c H locs cells slots mc ms cl C L)
theorem rn_ishr {x y : Int32} (hdg : decode Y.2.2.1 pc = .ok (.ishr, 1)) (k : am_Rn d Y b (pc + 1) ls (.int (x >>> (y &&& 31)) :: st) S I Q) : am_Rn d Y b pc ls (.int y :: .int x :: st) S I Q := by
  intro g p l e R s m args below meth c H locs cells slots mc ms cl C L
  exact lv_ishr C.1.1 C.1.2.1 hdg (k g p l e R s m args below meth c H locs cells slots mc ms cl C L)
theorem rn_iushr {x y v : Int32} (hdg : decode Y.2.2.1 pc = .ok (.iushr, 1)) (hv : (x.toUInt32 >>> (y.toUInt32 &&& Int32.toUInt32 31)).toInt32 = v) (k : am_Rn d Y b (pc + 1) ls (.int v :: st) S I Q) : am_Rn d Y b pc ls (.int y :: .int x :: st) S I Q := by
  intro g p l e R s m args below meth c H locs cells slots mc ms cl C L
  exact lv_iushr C.1.1 C.1.2.1 hdg hv (k g p l e R s m args below meth c H locs cells slots mc ms cl C L)
theorem rn_i2l {x : Int32} (hdg : decode Y.2.2.1 pc = .ok (.i2l, 1)) (k : am_Rn d Y b (pc + 1) ls (.long x.toInt64 :: st) S I Q) : am_Rn d Y b pc ls (.int x :: st) S I Q := by
  intro g p l e R s m args below meth c H locs cells slots mc ms cl C L
  exact lv_i2l C.1.1 C.1.2.1 hdg rfl (k g p l e R s m args below meth c H locs cells slots mc ms cl C L)
theorem rn_i2b {x : Int32} (hdg : decode Y.2.2.1 pc = .ok (.i2b, 1)) (k : am_Rn d Y b (pc + 1) ls (.int x.toInt8.toInt32 :: st) S I Q) : am_Rn d Y b pc ls (.int x :: st) S I Q := by
  intro g p l e R s m args below meth c H locs cells slots mc ms cl C L
  exact lv_i2b C.1.1 C.1.2.1 hdg rfl (k g p l e R s m args below meth c H locs cells slots mc ms cl C L)
theorem rn_lshl {x : Int64} {y : Int32} (hdg : decode Y.2.2.1 pc = .ok (.lshl, 1)) (k : am_Rn d Y b (pc + 1) ls (.long (x <<< (y.toInt64 &&& 63)) :: st) S I Q) : am_Rn d Y b pc ls (.int y :: .long x :: st) S I Q := by
  intro g p l e R s m args below meth c H locs cells slots mc ms cl C L
  exact lv_lshl C.1.1 C.1.2.1 hdg rfl (k g p l e R s m args below meth c H locs cells slots mc ms cl C L)
theorem rn_lor {x y : Int64} (hdg : decode Y.2.2.1 pc = .ok (.lor, 1)) (k : am_Rn d Y b (pc + 1) ls (.long (x ||| y) :: st) S I Q) : am_Rn d Y b pc ls (.long y :: .long x :: st) S I Q := by
  intro g p l e R s m args below meth c H locs cells slots mc ms cl C L
  exact lv_lor C.1.1 C.1.2.1 hdg (k g p l e R s m args below meth c H locs cells slots mc ms cl C L)
theorem rn_lcmp {x y : Int64} (hdg : decode Y.2.2.1 pc = .ok (.lcmp, 1)) (k : am_Rn d Y b (pc + 1) ls (.int (lg_cmp x y) :: st) S I Q) : am_Rn d Y b pc ls (.long y :: .long x :: st) S I Q := by
  intro g p l e R s m args below meth c H locs cells slots mc ms cl C L
  exact W.lcmp C.1.1 C.1.2.1 hdg (k g p l e R s m args below meth c H locs cells slots mc ms cl C L)
theorem rn_dup {v : Value} (hdg : decode Y.2.2.1 pc = .ok (.dup, 1)) (hv : v.category = 1) (k : am_Rn d Y b (pc + 1) ls (v :: v :: st) S I Q) : am_Rn d Y b pc ls (v :: st) S I Q := by
  intro g p l e R s m args below meth c H locs cells slots mc ms cl C L
  exact lv_dup C.1.1 C.1.2.1 hdg ((am_v_cat g v).trans hv) (k g p l e R s m args below meth c H locs cells slots mc ms cl C L)
theorem rn_pop {v : Value} (hdg : decode Y.2.2.1 pc = .ok (.pop, 1)) (hv : v.category = 1) (k : am_Rn d Y b (pc + 1) ls (st) S I Q) : am_Rn d Y b pc ls (v :: st) S I Q := by
  intro g p l e R s m args below meth c H locs cells slots mc ms cl C L
  exact lv_pop C.1.1 C.1.2.1 hdg ((am_v_cat g v).trans hv) (k g p l e R s m args below meth c H locs cells slots mc ms cl C L)
theorem rn_ldc2 {i : Nat} {v : Int64} (hdg : decode Y.2.2.1 pc = .ok (.ldc2_w i, 3)) (hw : Jvm.Cond.constantLong (am_R Y.2.1) i v ∈ am_gw) (k : am_Rn d Y b (pc + 3) ls (.long v :: st) S I Q) : am_Rn d Y b pc ls (st) S I Q := by
  intro g p l e R s m args below meth c H locs cells slots mc ms cl C L
  exact lv_ldc2 C.1.1 C.1.2.1 C.1.2.2.2.1 (C.1.2.2.2.2 _ hw) hdg (k g p l e R s m args below meth c H locs cells slots mc ms cl C L)
theorem am_c1 {g : am_G} {ls : List (Option Value)} {lv : List (Nat × Value)} {i : Nat} {x : Value} (h2 : ∀ (j : Nat) (v : Value), ls[j]? = some (some v) → (j, am_v g v) ∈ lv) (hc : ∀ (j : Nat) (v : Value), j + 1 = i → ls[j]? = some (some v) → v.category = 1) :
    ∀ (j : Nat) (v : Value), (ls.set i (some x))[j]? = some (some v) → (j, am_v g v) ∈ (i, am_v g x) :: lv.filter (fun q => !(q.1 == i) && !(q.1 + 1 == i && q.2.category == 2)) := by
  intro j v hv
  by_cases hj : j = i
  · subst hj
    rw [List.getElem?_set] at hv
    simp only [if_true] at hv
    split at hv
    · simp only [Option.some.injEq] at hv
      subst hv
      exact List.mem_cons_self
    · cases hv
  · rw [List.getElem?_set_ne (fun h => hj h.symm)] at hv
    refine List.mem_cons_of_mem _ (List.mem_filter.mpr ⟨h2 j v hv, ?_⟩)
    have h1 : (j == i) = false := by simpa using hj
    by_cases hji : j + 1 = i
    · have hcv := hc j v hji hv
      simp [h1, am_v_cat, hcv]
    · have h3 : (j + 1 == i) = false := by simpa using hji
      simp [h1, h3]
/-- the place before i holds no wide value -/
def am_ok1 (ls : List (Option Value)) (i : Nat) : Bool := match i with
  | 0 => true
  | j + 1 => match ls[j]? with
    | some (some v) => v.category == 1
    | _ => true
theorem am_ok1_spec {ls : List (Option Value)} {i : Nat} (h : am_ok1 ls i = true) : ∀ (j : Nat) (v : Value), j + 1 = i → ls[j]? = some (some v) → v.category = 1 := by
  intro j v hj hv
  subst hj
  simp only [am_ok1, hv] at h
  simpa using h
theorem rn_istore_n {i : Nat} {ls' : List (Option Value)} {n : Fin 4} {x : Int32} (hdg : decode Y.2.2.1 pc = .ok (.istore_n n, 1)) (hi : (n : Nat) = i) (hn : i < Y.2.2.2.2) (hc : am_ok1 ls i = true) (hs : ls.set i (some (.int x)) = ls') (k : am_Rn d Y b (pc + 1) ls' st S I Q) : am_Rn d Y b pc ls (.int x :: st) S I Q := by
  intro g p l e R s m args below meth c H locs cells slots mc ms cl C L
  obtain ⟨h0, lv, h1, h2⟩ := L
  subst hs
  exact lv_istore_n C.1.1 C.1.2.1 hdg hi h1 hn rfl (fun cl' h' => k g p l e R s m args below meth c H locs cells slots mc ms cl' C ⟨by simpa using h0, _, h', am_c1 h2 (am_ok1_spec hc)⟩)
theorem rn_istore {i : Nat} {ls' : List (Option Value)} {x : Int32} (hdg : decode Y.2.2.1 pc = .ok (.istore i, 2)) (hn : i < Y.2.2.2.2) (hc : am_ok1 ls i = true) (hs : ls.set i (some (.int x)) = ls') (k : am_Rn d Y b (pc + 2) ls' st S I Q) : am_Rn d Y b pc ls (.int x :: st) S I Q := by
  intro g p l e R s m args below meth c H locs cells slots mc ms cl C L
  obtain ⟨h0, lv, h1, h2⟩ := L
  subst hs
  exact lv_istore C.1.1 C.1.2.1 hdg h1 hn rfl (fun cl' h' => k g p l e R s m args below meth c H locs cells slots mc ms cl' C ⟨by simpa using h0, _, h', am_c1 h2 (am_ok1_spec hc)⟩)
theorem rn_astore_n {i : Nat} {ls' : List (Option Value)} {n : Fin 4} {x : Nat} (hdg : decode Y.2.2.1 pc = .ok (.astore_n n, 1)) (hi : (n : Nat) = i) (hn : i < Y.2.2.2.2) (hc : am_ok1 ls i = true) (hs : ls.set i (some (.ref x)) = ls') (k : am_Rn d Y b (pc + 1) ls' st S I Q) : am_Rn d Y b pc ls (.ref x :: st) S I Q := by
  intro g p l e R s m args below meth c H locs cells slots mc ms cl C L
  obtain ⟨h0, lv, h1, h2⟩ := L
  subst hs
  exact lv_astore_n C.1.1 C.1.2.1 hdg hi h1 hn rfl (fun cl' h' => k g p l e R s m args below meth c H locs cells slots mc ms cl' C ⟨by simpa using h0, _, h', am_c1 h2 (am_ok1_spec hc)⟩)
theorem rn_astore {i : Nat} {ls' : List (Option Value)} {x : Nat} (hdg : decode Y.2.2.1 pc = .ok (.astore i, 2)) (hn : i < Y.2.2.2.2) (hc : am_ok1 ls i = true) (hs : ls.set i (some (.ref x)) = ls') (k : am_Rn d Y b (pc + 2) ls' st S I Q) : am_Rn d Y b pc ls (.ref x :: st) S I Q := by
  intro g p l e R s m args below meth c H locs cells slots mc ms cl C L
  obtain ⟨h0, lv, h1, h2⟩ := L
  subst hs
  exact lv_astore C.1.1 C.1.2.1 hdg h1 hn rfl (fun cl' h' => k g p l e R s m args below meth c H locs cells slots mc ms cl' C ⟨by simpa using h0, _, h', am_c1 h2 (am_ok1_spec hc)⟩)
theorem rn_astore_nN {i : Nat} {ls' : List (Option Value)} {n : Fin 4} (hdg : decode Y.2.2.1 pc = .ok (.astore_n n, 1)) (hi : (n : Nat) = i) (hn : i < Y.2.2.2.2) (hc : am_ok1 ls i = true) (hs : ls.set i (some (.null)) = ls') (k : am_Rn d Y b (pc + 1) ls' st S I Q) : am_Rn d Y b pc ls (.null :: st) S I Q := by
  intro g p l e R s m args below meth c H locs cells slots mc ms cl C L
  obtain ⟨h0, lv, h1, h2⟩ := L
  subst hs
  exact lv_astore_nN C.1.1 C.1.2.1 hdg hi h1 hn rfl (fun cl' h' => k g p l e R s m args below meth c H locs cells slots mc ms cl' C ⟨by simpa using h0, _, h', am_c1 h2 (am_ok1_spec hc)⟩)
theorem rn_iinc {i : Nat} {n : Int} {x v : Int32} {ls' : List (Option Value)} (hdg : decode Y.2.2.1 pc = .ok (.iinc i n, 3)) (hl : ls[i]? = some (some (.int x))) (hv : x + Int32.ofInt n = v) (hn : i < Y.2.2.2.2) (hc : am_ok1 ls i = true) (hs : ls.set i (some (.int v)) = ls') (k : am_Rn d Y b (pc + 3) ls' st S I Q) : am_Rn d Y b pc ls st S I Q := by
  intro g p l e R s m args below meth c H locs cells slots mc ms cl C L
  obtain ⟨h0, lv, h1, h2⟩ := L
  subst hs
  obtain ⟨q, hq⟩ := List.getElem?_of_mem (h2 i _ hl)
  exact lv_iinc C.1.1 C.1.2.1 hdg h1 hq hv hn rfl (fun cl' h' => k g p l e R s m args below meth c H locs cells slots mc ms cl' C ⟨by simpa using h0, _, h', am_c1 (x := .int v) h2 (am_ok1_spec hc)⟩)
theorem rn_lstore_n {n : Fin 4} {i : Nat} {x : Int64} {ls' : List (Option Value)} (hdg : decode Y.2.2.1 pc = .ok (.lstore_n n, 1)) (hi : (n : Nat) = i) (hn : i + 1 < Y.2.2.2.2) (hc : am_ok1 ls i = true) (hs : (ls.set i (some (.long x))).set (i + 1) none = ls') (k : am_Rn d Y b (pc + 1) ls' st S I Q) : am_Rn d Y b pc ls (.long x :: st) S I Q := by
  intro g p l e R s m args below meth c H locs cells slots mc ms cl C L
  obtain ⟨h0, lv, h1, h2⟩ := L
  subst hs
  refine lv_lstore_n C.1.1 C.1.2.1 hdg hi h1 hn rfl (fun cl' h' => k g p l e R s m args below meth c H locs cells slots mc ms cl' C ⟨by simpa using h0, _, h', ?_⟩)
  intro j v hv
  by_cases hj : j = i + 1
  · subst hj
    rw [List.getElem?_set] at hv
    simp only [if_true] at hv
    split at hv <;> cases hv
  · rw [List.getElem?_set_ne (fun h => hj h.symm)] at hv
    have := am_c1 (x := .long x) h2 (am_ok1_spec hc) j v hv
    rcases List.mem_cons.mp this with h | h
    · rw [h]; exact List.mem_cons_self
    · obtain ⟨h3, h4⟩ := List.mem_filter.mp h
      refine List.mem_cons_of_mem _ (List.mem_filter.mpr ⟨h3, ?_⟩)
      have h5 : (j == i + 1) = false := by simpa using hj
      simp only [h5, Bool.not_false, Bool.true_and]
      exact h4
end AMROWS
end
section
section AMB
variable {d : Nat} {Y : am_Y} {b : Nat × Nat} {pc : Nat} {ls : List (Option Value)} {st : List Value} {S : am_S} {I : am_I} {Q : Option Value → am_S → am_I → Prop}
theorem rn_goto {off : Int} {tgt : Nat} (hdg : decode Y.2.2.1 pc = .ok (.goto off, 3)) (ht : (pc : Int) + off = (tgt : Int)) (k : am_Rn d Y b tgt ls st S I Q) : am_Rn d Y b pc ls st S I Q := by
  intro g p l e R s m args below meth c H locs cells slots mc ms cl C L
  exact lv_goto C.1.1 C.1.2.1 hdg ht (k g p l e R s m args below meth c H locs cells slots mc ms cl C L)
theorem rn_if_eq {x : Int32} {off : Int} {tgt : Nat} (hdg : decode Y.2.2.1 pc = .ok (.ifCond .eq off, 3)) (ht : (pc : Int) + off = (tgt : Int)) (kt : x = 0 → am_Rn d Y b tgt ls st S I Q) (kf : ¬ x = 0 → am_Rn d Y b (pc + 3) ls st S I Q) : am_Rn d Y b pc ls (.int x :: st) S I Q := by
  intro g p l e R s m args below meth c H locs cells slots mc ms cl C L
  exact lv_if_eq C.1.1 C.1.2.1 hdg ht (fun h => kt h g p l e R s m args below meth c H locs cells slots mc ms cl C L) (fun h => kf h g p l e R s m args below meth c H locs cells slots mc ms cl C L)
theorem rn_if_ne {x : Int32} {off : Int} {tgt : Nat} (hdg : decode Y.2.2.1 pc = .ok (.ifCond .ne off, 3)) (ht : (pc : Int) + off = (tgt : Int)) (kt : ¬ x = 0 → am_Rn d Y b tgt ls st S I Q) (kf : x = 0 → am_Rn d Y b (pc + 3) ls st S I Q) : am_Rn d Y b pc ls (.int x :: st) S I Q := by
  intro g p l e R s m args below meth c H locs cells slots mc ms cl C L
  exact lv_if_ne C.1.1 C.1.2.1 hdg ht (fun h => kt h g p l e R s m args below meth c H locs cells slots mc ms cl C L) (fun h => kf h g p l e R s m args below meth c H locs cells slots mc ms cl C L)
theorem rn_if_lt {x : Int32} {off : Int} {tgt : Nat} (hdg : decode Y.2.2.1 pc = .ok (.ifCond .lt off, 3)) (ht : (pc : Int) + off = (tgt : Int)) (kt : x < 0 → am_Rn d Y b tgt ls st S I Q) (kf : ¬ x < 0 → am_Rn d Y b (pc + 3) ls st S I Q) : am_Rn d Y b pc ls (.int x :: st) S I Q := by
  intro g p l e R s m args below meth c H locs cells slots mc ms cl C L
  exact lv_if_lt C.1.1 C.1.2.1 hdg ht (fun h => kt h g p l e R s m args below meth c H locs cells slots mc ms cl C L) (fun h => kf h g p l e R s m args below meth c H locs cells slots mc ms cl C L)
theorem rn_if_ge {x : Int32} {off : Int} {tgt : Nat} (hdg : decode Y.2.2.1 pc = .ok (.ifCond .ge off, 3)) (ht : (pc : Int) + off = (tgt : Int)) (kt : 0 ≤ x → am_Rn d Y b tgt ls st S I Q) (kf : ¬ 0 ≤ x → am_Rn d Y b (pc + 3) ls st S I Q) : am_Rn d Y b pc ls (.int x :: st) S I Q := by
  intro g p l e R s m args below meth c H locs cells slots mc ms cl C L
  exact lv_if_ge C.1.1 C.1.2.1 hdg ht (fun h => kt h g p l e R s m args below meth c H locs cells slots mc ms cl C L) (fun h => kf h g p l e R s m args below meth c H locs cells slots mc ms cl C L)
theorem rn_if_gt {x : Int32} {off : Int} {tgt : Nat} (hdg : decode Y.2.2.1 pc = .ok (.ifCond .gt off, 3)) (ht : (pc : Int) + off = (tgt : Int)) (kt : 0 < x → am_Rn d Y b tgt ls st S I Q) (kf : ¬ 0 < x → am_Rn d Y b (pc + 3) ls st S I Q) : am_Rn d Y b pc ls (.int x :: st) S I Q := by
  intro g p l e R s m args below meth c H locs cells slots mc ms cl C L
  exact lv_if_gt C.1.1 C.1.2.1 hdg ht (fun h => kt h g p l e R s m args below meth c H locs cells slots mc ms cl C L) (fun h => kf h g p l e R s m args below meth c H locs cells slots mc ms cl C L)
theorem rn_if_le {x : Int32} {off : Int} {tgt : Nat} (hdg : decode Y.2.2.1 pc = .ok (.ifCond .le off, 3)) (ht : (pc : Int) + off = (tgt : Int)) (kt : x ≤ 0 → am_Rn d Y b tgt ls st S I Q) (kf : ¬ x ≤ 0 → am_Rn d Y b (pc + 3) ls st S I Q) : am_Rn d Y b pc ls (.int x :: st) S I Q := by
  intro g p l e R s m args below meth c H locs cells slots mc ms cl C L
  exact lv_if_le C.1.1 C.1.2.1 hdg ht (fun h => kt h g p l e R s m args below meth c H locs cells slots mc ms cl C L) (fun h => kf h g p l e R s m args below meth c H locs cells slots mc ms cl C L)
theorem rn_icmp_eq {x y : Int32} {off : Int} {tgt : Nat} (hdg : decode Y.2.2.1 pc = .ok (.if_icmp .eq off, 3)) (ht : (pc : Int) + off = (tgt : Int)) (kt : x = y → am_Rn d Y b tgt ls st S I Q) (kf : ¬ x = y → am_Rn d Y b (pc + 3) ls st S I Q) : am_Rn d Y b pc ls (.int y :: .int x :: st) S I Q := by
  intro g p l e R s m args below meth c H locs cells slots mc ms cl C L
  exact lv_icmp_eq C.1.1 C.1.2.1 hdg ht (fun h => kt h g p l e R s m args below meth c H locs cells slots mc ms cl C L) (fun h => kf h g p l e R s m args below meth c H locs cells slots mc ms cl C L)
theorem rn_icmp_ne {x y : Int32} {off : Int} {tgt : Nat} (hdg : decode Y.2.2.1 pc = .ok (.if_icmp .ne off, 3)) (ht : (pc : Int) + off = (tgt : Int)) (kt : ¬ x = y → am_Rn d Y b tgt ls st S I Q) (kf : x = y → am_Rn d Y b (pc + 3) ls st S I Q) : am_Rn d Y b pc ls (.int y :: .int x :: st) S I Q := by
  intro g p l e R s m args below meth c H locs cells slots mc ms cl C L
  exact lv_icmp_ne C.1.1 C.1.2.1 hdg ht (fun h => kt h g p l e R s m args below meth c H locs cells slots mc ms cl C L) (fun h => kf h g p l e R s m args below meth c H locs cells slots mc ms cl C L)
theorem rn_icmp_lt {x y : Int32} {off : Int} {tgt : Nat} (hdg : decode Y.2.2.1 pc = .ok (.if_icmp .lt off, 3)) (ht : (pc : Int) + off = (tgt : Int)) (kt : x < y → am_Rn d Y b tgt ls st S I Q) (kf : ¬ x < y → am_Rn d Y b (pc + 3) ls st S I Q) : am_Rn d Y b pc ls (.int y :: .int x :: st) S I Q := by
  intro g p l e R s m args below meth c H locs cells slots mc ms cl C L
  exact lv_icmp_lt C.1.1 C.1.2.1 hdg ht (fun h => kt h g p l e R s m args below meth c H locs cells slots mc ms cl C L) (fun h => kf h g p l e R s m args below meth c H locs cells slots mc ms cl C L)
theorem rn_icmp_ge {x y : Int32} {off : Int} {tgt : Nat} (hdg : decode Y.2.2.1 pc = .ok (.if_icmp .ge off, 3)) (ht : (pc : Int) + off = (tgt : Int)) (kt : y ≤ x → am_Rn d Y b tgt ls st S I Q) (kf : ¬ y ≤ x → am_Rn d Y b (pc + 3) ls st S I Q) : am_Rn d Y b pc ls (.int y :: .int x :: st) S I Q := by
  intro g p l e R s m args below meth c H locs cells slots mc ms cl C L
  exact lv_icmp_ge C.1.1 C.1.2.1 hdg ht (fun h => kt h g p l e R s m args below meth c H locs cells slots mc ms cl C L) (fun h => kf h g p l e R s m args below meth c H locs cells slots mc ms cl C L)
theorem rn_icmp_gt {x y : Int32} {off : Int} {tgt : Nat} (hdg : decode Y.2.2.1 pc = .ok (.if_icmp .gt off, 3)) (ht : (pc : Int) + off = (tgt : Int)) (kt : y < x → am_Rn d Y b tgt ls st S I Q) (kf : ¬ y < x → am_Rn d Y b (pc + 3) ls st S I Q) : am_Rn d Y b pc ls (.int y :: .int x :: st) S I Q := by
  intro g p l e R s m args below meth c H locs cells slots mc ms cl C L
  exact lv_icmp_gt C.1.1 C.1.2.1 hdg ht (fun h => kt h g p l e R s m args below meth c H locs cells slots mc ms cl C L) (fun h => kf h g p l e R s m args below meth c H locs cells slots mc ms cl C L)
theorem rn_icmp_le {x y : Int32} {off : Int} {tgt : Nat} (hdg : decode Y.2.2.1 pc = .ok (.if_icmp .le off, 3)) (ht : (pc : Int) + off = (tgt : Int)) (kt : x ≤ y → am_Rn d Y b tgt ls st S I Q) (kf : ¬ x ≤ y → am_Rn d Y b (pc + 3) ls st S I Q) : am_Rn d Y b pc ls (.int y :: .int x :: st) S I Q := by
  intro g p l e R s m args below meth c H locs cells slots mc ms cl C L
  exact lv_icmp_le C.1.1 C.1.2.1 hdg ht (fun h => kt h g p l e R s m args below meth c H locs cells slots mc ms cl C L) (fun h => kf h g p l e R s m args below meth c H locs cells slots mc ms cl C L)
theorem rn_ifnull {a : Nat} {off : Int} (hdg : decode Y.2.2.1 pc = .ok (.ifnull off, 3)) (k : am_Rn d Y b (pc + 3) ls st S I Q) : am_Rn d Y b pc ls (.ref a :: st) S I Q := by
  intro g p l e R s m args below meth c H locs cells slots mc ms cl C L
  exact lv_ifnull C.1.1 C.1.2.1 hdg (k g p l e R s m args below meth c H locs cells slots mc ms cl C L)
theorem rn_ifnullN {off : Int} {tgt : Nat} (hdg : decode Y.2.2.1 pc = .ok (.ifnull off, 3)) (ht : (pc : Int) + off = (tgt : Int)) (k : am_Rn d Y b tgt ls st S I Q) : am_Rn d Y b pc ls (.null :: st) S I Q := by
  intro g p l e R s m args below meth c H locs cells slots mc ms cl C L
  exact lv_ifnullN C.1.1 C.1.2.1 hdg ht (k g p l e R s m args below meth c H locs cells slots mc ms cl C L)
theorem rn_ifnonnull {a : Nat} {off : Int} {tgt : Nat} (hdg : decode Y.2.2.1 pc = .ok (.ifnonnull off, 3)) (ht : (pc : Int) + off = (tgt : Int)) (k : am_Rn d Y b tgt ls st S I Q) : am_Rn d Y b pc ls (.ref a :: st) S I Q := by
  intro g p l e R s m args below meth c H locs cells slots mc ms cl C L
  exact lv_ifnonnull C.1.1 C.1.2.1 hdg ht (k g p l e R s m args below meth c H locs cells slots mc ms cl C L)
theorem rn_ifnonnullN {off : Int} (hdg : decode Y.2.2.1 pc = .ok (.ifnonnull off, 3)) (k : am_Rn d Y b (pc + 3) ls st S I Q) : am_Rn d Y b pc ls (.null :: st) S I Q := by
  intro g p l e R s m args below meth c H locs cells slots mc ms cl C L
  exact lv_ifnonnullN C.1.1 C.1.2.1 hdg (k g p l e R s m args below meth c H locs cells slots mc ms cl C L)
theorem rn_tableIn {dflt lo hi : Int} {offs : Array Int} {len : Nat} {x : Int32} {off : Int} {tgt : Nat} (hdg : decode Y.2.2.1 pc = .ok (.tableswitch dflt lo hi offs, len)) (h1 : ¬ x.toInt < lo) (h2 : ¬ hi < x.toInt) (ho : offs[(x.toInt - lo).toNat]? = some off) (ht : (pc : Int) + off = (tgt : Int)) (k : am_Rn d Y b tgt ls st S I Q) : am_Rn d Y b pc ls (.int x :: st) S I Q := by
  intro g p l e R s m args below meth c H locs cells slots mc ms cl C L
  exact lv_tableIn C.1.1 C.1.2.1 hdg h1 h2 ho ht (k g p l e R s m args below meth c H locs cells slots mc ms cl C L)
theorem rn_tableOut {dflt lo hi : Int} {offs : Array Int} {len : Nat} {x : Int32} {tgt : Nat} (hdg : decode Y.2.2.1 pc = .ok (.tableswitch dflt lo hi offs, len)) (h : x.toInt < lo ∨ hi < x.toInt) (ht : (pc : Int) + dflt = (tgt : Int)) (k : am_Rn d Y b tgt ls st S I Q) : am_Rn d Y b pc ls (.int x :: st) S I Q := by
  intro g p l e R s m args below meth c H locs cells slots mc ms cl C L
  exact lv_tableOut C.1.1 C.1.2.1 hdg h ht (k g p l e R s m args below meth c H locs cells slots mc ms cl C L)
theorem rn_lookup {dflt : Int} {ps : Array (Int × Int)} {len : Nat} {x : Int32} {off : Int} {tgt : Nat} (hdg : decode Y.2.2.1 pc = .ok (.lookupswitch dflt ps, len)) (hp : (ps.toList.zip (ps.toList.drop 1)).all (fun (a, next) => a.1 < next.1) = true) (ho : Op.lookupswitch.offset ps.toList dflt x.toInt = off) (ht : (pc : Int) + off = (tgt : Int)) (k : am_Rn d Y b tgt ls st S I Q) : am_Rn d Y b pc ls (.int x :: st) S I Q := by
  intro g p l e R s m args below meth c H locs cells slots mc ms cl C L
  exact lv_lookup C.1.1 C.1.2.1 hdg hp ho ht (k g p l e R s m args below meth c H locs cells slots mc ms cl C L)
/-! the ends -/
theorem rn_ireturn {v : Int32} {ty : FieldType} (hdg : decode Y.2.2.1 pc = .ok (.ireturn, 1)) (hr : Y.2.2.2.1 = some ty) (hn : narrow ty (.int v) = .int v) (hq : Q (some (.int v)) S I) : am_Rn d Y b pc ls [.int v] S I Q := by
  intro g p l e R s m args below meth c H locs cells slots mc ms cl C L
  obtain ⟨hF, hM, hR, hB, hW, hS, hH⟩ := C
  refine W.widen (k := mc) (n := ms) (by omega) (by omega) ?_
  exact W.zret hF.1 hF.2.1 (hM.1.trans hr) hn (fun t ht hv => ⟨⟨some (.int v), S, I, rfl, hq, by rw [ht]; exact hH⟩, hS.F ht⟩) hS.2.2 hdg hM.2.1
theorem rn_lreturn {v : Int64} (hdg : decode Y.2.2.1 pc = .ok (.lreturn, 1)) (hr : Y.2.2.2.1 = some .long) (hq : Q (some (.long v)) S I) : am_Rn d Y b pc ls [.long v] S I Q := by
  intro g p l e R s m args below meth c H locs cells slots mc ms cl C L
  obtain ⟨hF, hM, hR, hB, hW, hS, hH⟩ := C
  refine W.widen (k := mc) (n := ms) (by omega) (by omega) ?_
  exact W.lret hF.1 hF.2.1 (hM.1.trans hr) (fun t ht hv => ⟨⟨some (.long v), S, I, rfl, hq, by rw [ht]; exact hH⟩, hS.F ht⟩) hS.2.2 hdg hM.2.1
theorem rn_return (hdg : decode Y.2.2.1 pc = .ok (.return_, 1)) (hr : Y.2.2.2.1 = none) (hq : Q none S I) : am_Rn d Y b pc ls [] S I Q := by
  intro g p l e R s m args below meth c H locs cells slots mc ms cl C L
  obtain ⟨hF, hM, hR, hB, hW, hS, hH⟩ := C
  refine W.widen (k := mc) (n := ms) (by omega) (by omega) ?_
  exact W.vret hF.1 hF.2.1 (hM.1.trans hr) (fun t ht hv => ⟨⟨none, S, I, rfl, hq, by rw [ht]; exact hH⟩, hS.F ht⟩) hS.2.2 hdg hM.2.1
/-! cells of the world -/
theorem am_ad_lt {g : am_G} {a : Nat} (h : a < am_B) : am_ad g a = g.1 + a := if_pos h
theorem am_ad_ne {g : am_G} {a q : Nat} (h : a < am_B) (hq : q < am_B) (hn : a ≠ q) : am_ad g a ≠ am_ad g q := by
  rw [am_ad_lt h, am_ad_lt hq]
  omega
theorem am_at.keep {g : am_G} {S' : am_S} {I' : am_I} {H H' : Heap} {a : Nat} (hH : H'[am_ad g a]? = H[am_ad g a]?) (hK : S'.2.1 a = S.2.1 a) (hG : ∀ j, S'.2.2 a j = S.2.2 a j) (hI : ∀ j, I' a j = I a j) (h : am_at g S I H a) : am_at g S' I' H' a := by
  unfold am_at at h ⊢
  rw [hK]
  have e1 : (fun j => Value.int (I' a j)) = fun j => Value.int (I a j) := by funext j; rw [hI]
  have e2 : (fun j => am_v g (va_rf (S'.2.2 a j))) = fun j => am_v g (va_rf (S.2.2 a j)) := by funext j; rw [hG]
  have e3 : ∀ c, (fun k => am_v g (am_fv S' I' a c k)) = fun k => am_v g (am_fv S I a c k) := by intro c; funext k; simp only [am_fv, hG, hI]
  split at h
  · rw [hH, e1]; exact h
  · rw [hH, e2]; exact h
  · rw [e3]; exact ⟨h.1, h.2.kept hH⟩
def am_fd (o i c k : Nat) : Prop := Cond.fieldLink (am_R o) i (am_R c) (am_T c k).2.1 (am_T c k).2.2.1 ∈ am_gw ∧ (am_T c k).1 = am_R c ∧ c < 9 ∧ k < am_n c
theorem am_obj {g : am_G} {H : Heap} {a c : Nat} (hH : am_H g S I H) (ha : a < S.1) (hk : S.2.1 a = .inr (.inr c)) : c < 9 ∧ t_OB (am_ad g a) (g.2.1.1 c) (am_n c) (g.2.1.2 c) H (fun k => am_v g (am_fv S I a c k)) := by
  have h := hH.2.2 a ha
  unfold am_at at h
  rw [hk] at h
  exact h
theorem am_arr {g : am_G} {H : Heap} {a t n : Nat} (hH : am_H g S I H) (ha : a < S.1) (hk : S.2.1 a = .inl (t, n)) : H[am_ad g a]? = some (arrV (g.2.2.1 t) n (fun j => .int (I a j))) := by
  have h := hH.2.2 a ha
  unfold am_at at h
  rw [hk] at h
  exact h
theorem am_arq {g : am_G} {H : Heap} {a n : Nat} (hH : am_H g S I H) (ha : a < S.1) (hk : S.2.1 a = .inr (.inl n)) : H[am_ad g a]? = some (arrV (g.2.2.1 3) n (fun j => am_v g (va_rf (S.2.2 a j)))) := by
  have h := hH.2.2 a ha
  unfold am_at at h
  rw [hk] at h
  exact h
/-- a field is read -/
theorem rn_getV {i a c k : Nat} (hdg : decode Y.2.2.1 pc = .ok (.getfield i, 3)) (hf : am_fd Y.2.1 i c k) (ha : a < S.1) (hk : S.2.1 a = .inr (.inr c)) (kk : am_Rn d Y b (pc + 3) ls (am_fv S I a c k :: st) S I Q) : am_Rn d Y b pc ls (.ref a :: st) S I Q := by
  intro g p l e R s m args below meth c0 H locs cells slots mc ms cl C L
  obtain ⟨hF, hM, hR, hB, hW, hS, hH⟩ := id C
  obtain ⟨h9, hO⟩ := am_obj hH ha hk
  have hP : va_P g.2.1 vwCl [(am_ad g a, .inr (c, (List.range (am_n c)).map (fun j => am_v g (am_fv S I a c j))))] H := by
    intro q x hq
    have hz : q < 1 := (List.getElem?_eq_some_iff.mp hq).1
    rw [show q = 0 by omega] at hq
    cases hq
    exact ⟨_, am_cl h9, hO.to (fun j hj => by simp [vp_V, hj])⟩
  exact va_get (C := am_R c) (T := am_T c) (N := am_n c) (ci := c) (ref := am_R c) hF.1 hF.2.1 hF.2.2.2.2 (am_lays c h9) hF.2.2.2.1 hW.1 hP 0 rfl (am_cl h9) k hf.2.2.2 (hF.2.2.2.2 _ hf.1) (fun x h => by rw [← hf.2.1]; exact h) (v := am_v g (am_fv S I a c k)) (by simp [hf.2.2.2]) hdg (kk g p l e R s m args below meth c0 H locs cells slots mc ms cl C L)
theorem rn_getI {i a c k : Nat} (hdg : decode Y.2.2.1 pc = .ok (.getfield i, 3)) (hf : am_fd Y.2.1 i c k) (ha : a < S.1) (hk : S.2.1 a = .inr (.inr c)) (ht : am_isR (am_ty c k) = false) (kk : am_Rn d Y b (pc + 3) ls (.int (I a k) :: st) S I Q) : am_Rn d Y b pc ls (.ref a :: st) S I Q := by
  refine rn_getV hdg hf ha hk ?_
  have e : am_fv S I a c k = .int (I a k) := by simp [am_fv, ht]
  rw [e]
  exact kk
theorem rn_getR {i a c k r : Nat} (hdg : decode Y.2.2.1 pc = .ok (.getfield i, 3)) (hf : am_fd Y.2.1 i c k) (ha : a < S.1) (hk : S.2.1 a = .inr (.inr c)) (ht : am_isR (am_ty c k) = true) (hr : S.2.2 a k = some r) (kk : am_Rn d Y b (pc + 3) ls (.ref r :: st) S I Q) : am_Rn d Y b pc ls (.ref a :: st) S I Q := by
  refine rn_getV hdg hf ha hk ?_
  have e : am_fv S I a c k = .ref r := by simp [am_fv, ht, hr, va_rf]
  rw [e]
  exact kk
/-- one number, one reference is changed -/
def am_up {α : Type} (f : Nat → Nat → α) (a k : Nat) (v : α) : Nat → Nat → α := va_up f a (va_up (f a) k v)
theorem am_up_at {α : Type} (f : Nat → Nat → α) (a k : Nat) (v : α) : am_up f a k v a k = v := by simp [am_up, va_up]
theorem am_up_k {α : Type} (f : Nat → Nat → α) {a k j : Nat} (v : α) (h : j ≠ k) : am_up f a k v a j = f a j := by simp [am_up, va_up, h]
theorem am_up_a {α : Type} (f : Nat → Nat → α) {a k q : Nat} (v : α) (h : q ≠ a) : am_up f a k v q = f q := by simp [am_up, va_up, h]
theorem am_up_row {α : Type} (f : Nat → Nat → α) (a k : Nat) (v : α) : am_up f a k v a = va_up (f a) k v := by simp [am_up, va_up]
/-- a field is written -/
theorem rn_putV {i a c k : Nat} {v : Value} {S' : am_S} {I' : am_I} (hdg : decode Y.2.2.1 pc = .ok (.putfield i, 3)) (hf : am_fd Y.2.1 i c k) (ha : a < S.1) (hk : S.2.1 a = .inr (.inr c)) (hfin : (am_T c k).2.2.2 = false ∨ (Y.1.name = "<init>" ∧ c = Y.2.1)) (hn : ∀ g, narrow (am_ty c k) (am_v g v) = am_v g v) (hfit : ∀ g, fits (am_ty c k) (am_v g v) = true)
    (hz : S'.1 = S.1) (hK : S'.2.1 = S.2.1) (hG : ∀ q, q ≠ a → ∀ j, S'.2.2 q j = S.2.2 q j) (hI : ∀ q, q ≠ a → ∀ j, I' q j = I q j) (hv : ∀ j, j < am_n c → am_fv S' I' a c j = updV (am_fv S I a c) k v j)
    (kk : am_Rn d Y b (pc + 3) ls st S' I' Q) : am_Rn d Y b pc ls (v :: .ref a :: st) S I Q := by
  intro g p l e R s m args below meth c0 H locs cells slots mc ms cl C L
  obtain ⟨hF, hM, hR, hB, hW, hS, hH⟩ := id C
  obtain ⟨h9, cell, q1, q2, q3, q4⟩ := am_obj hH ha hk
  have hap := va_apart (own := am_R Y.2.1) hF.2.2.2.2 (am_lays c h9) (am_ty c) (am_tyok h9) (am_nmok h9) hW.1 (am_cl h9)
  obtain ⟨hSl, hfc, kC, hkC, hkind⟩ := hW.1.1 c _ (am_cl h9)
  obtain ⟨cf, kf, fi, f, hi, hsl⟩ := hSl k hf.2.2.2
  have hlay := hF.2.2.2.2 _ (am_lays c h9 _ (u_in_lay hf.2.2.2))
  have hst := (u_facts hfc hkC (u_lays hF.2.2.2.2 (am_lays c h9) hf.2.2.2) hi).1
  have hi' : s.fieldFound? (am_R c) (am_T c k).2.1 (am_T c k).2.2.1 = some (cf, kf, fi, f) := by rw [← hf.2.1]; exact hi
  have fin : ∀ H' : Heap, H'[am_ad g a]? = some (cell.setSlot f.slot (am_v g v)) → H'.size = H.size → (∀ q, q ≠ am_ad g a → H'[q]? = H[q]?) → W p l e R s m args below meth c0 H' (locs ++ [⟨am_ad g a, f.slot⟩]) cells slots (MQ below (am_Qc g Q) args s mc ms (am_A g)) (F0 m (pc + 3) cl (st.map (am_v g))) := by
    intro H' e1 e2 e3
    have haB : a < am_B := Nat.lt_of_lt_of_le ha hH.2.1
    refine kk g p l e R s m args below meth c0 H' _ cells slots mc ms cl ⟨hF, hM, hR, hB, hW, ?_, ?_⟩ L
    · exact hS.put e2 e3 (show g.1 ≤ am_ad g a by rw [am_ad_lt haB]; omega)
    · refine ⟨by rw [e2, hz]; exact hH.1, by rw [hz]; exact hH.2.1, fun q hq => ?_⟩
      rw [hz] at hq
      have hqB : q < am_B := Nat.lt_of_lt_of_le hq hH.2.1
      by_cases hqa : q = a
      · subst hqa
        unfold am_at
        rw [hK, hk]
        refine ⟨h9, ?_⟩
        rw [hsl] at e1
        refine t_OB.to (V := updV (fun j => am_v g (am_fv S I q c j)) k (am_v g v)) ⟨_, e1, q2, q3, t_set q4 hap hf.2.2.2 (am_v g v)⟩ (fun j hj => ?_)
        rw [hv j hj]
        by_cases hjk : j = k
        · subst hjk; simp [updV]
        · simp [updV, hjk]
      · exact am_at.keep (e3 _ (am_ad_ne hqB haB hqa)) (by rw [hK]) (hG q hqa) (hI q hqa) (hH.2.2 q hq)
  by_cases hfn : (am_T c k).2.2.2 = false
  · unfold u_lay at hlay
    rw [if_neg (by rw [hfn]; decide)] at hlay
    have h6 := u_store hfc hkC hkind hlay hi (am_tyok h9 k hf.2.2.2) (hn g) (hfit g)
    exact W.putK hF.1 hF.2.1 (f := f) ⟨hF.2.2.2.1, hF.2.2.2.2 _ hf.1, ⟨_, _, _, hi'⟩, hst⟩ (by rw [q2]; exact h6) q1 q3 (by rw [hsl]; exact k2_hasslot (q4 k hf.2.2.2)) rfl rfl hdg fin
  · have hin := (hfin.resolve_left hfn).1
    have hco := (hfin.resolve_left hfn).2
    have h6 := u_fits hfc hkC hkind (u_lays hF.2.2.2.2 (am_lays c h9) hf.2.2.2) hi (am_tyok h9 k hf.2.2.2) (hn g) (hfit g)
    have hcf : m.cls = cf := by
      have h7 : (am_T c k).2.2.2 = true := by simpa using hfn
      unfold u_lay at hlay
      rw [if_pos h7] at hlay
      rw [hf.2.1] at hlay hi
      exact laid_decl (by rw [hco]; exact hF.2.2.2.1) hlay hi
    exact W.putFinK hF.1 hF.2.1 hF.2.2.2.1 (hF.2.2.2.2 _ hf.1) hi' hst hcf (hM.2.2.trans hin) (by rw [q2]; exact h6) q1 q3 (by rw [hsl]; exact k2_hasslot (q4 k hf.2.2.2)) rfl rfl hdg fin
theorem rn_putI {i a c k : Nat} {v : Int32} (hdg : decode Y.2.2.1 pc = .ok (.putfield i, 3)) (hf : am_fd Y.2.1 i c k) (ha : a < S.1) (hk : S.2.1 a = .inr (.inr c)) (hfin : (am_T c k).2.2.2 = false) (ht : am_isR (am_ty c k) = false) (hn : narrow (am_ty c k) (.int v) = .int v) (hfit : fits (am_ty c k) (.int v) = true)
    (kk : am_Rn d Y b (pc + 3) ls st S (am_up I a k v) Q) : am_Rn d Y b pc ls (.int v :: .ref a :: st) S I Q := by
  refine rn_putV (S' := S) hdg hf ha hk (Or.inl hfin) (fun _ => hn) (fun _ => hfit) rfl rfl (fun _ _ _ => rfl) (fun q hq j => by rw [am_up_a I v hq]) (fun j hj => ?_) kk
  by_cases hjk : j = k
  · subst hjk
    simp [am_fv, ht, updV, am_up_at]
  · simp only [am_fv, updV, hjk, if_false, am_up_k I v hjk]
theorem rn_putR {i a c k r : Nat} (hdg : decode Y.2.2.1 pc = .ok (.putfield i, 3)) (hf : am_fd Y.2.1 i c k) (ha : a < S.1) (hk : S.2.1 a = .inr (.inr c)) (hfin : (am_T c k).2.2.2 = false ∨ (Y.1.name = "<init>" ∧ c = Y.2.1)) (ht : am_isR (am_ty c k) = true)
    (kk : am_Rn d Y b (pc + 3) ls st (S.1, S.2.1, am_up S.2.2 a k (some r)) I Q) : am_Rn d Y b pc ls (.ref r :: .ref a :: st) S I Q := by
  refine rn_putV (S' := (S.1, S.2.1, am_up S.2.2 a k (some r))) hdg hf ha hk hfin (fun g => ?_) (fun g => ?_) rfl rfl (fun q hq j => by show am_up S.2.2 a k (some r) q j = _; rw [am_up_a S.2.2 _ hq]) (fun _ _ _ => rfl) (fun j hj => ?_) kk
  · revert ht; cases am_ty c k <;> simp [am_isR, am_v, narrow]
  · revert ht; cases am_ty c k <;> simp [am_isR, am_v, fits]
  · by_cases hjk : j = k
    · subst hjk
      simp [am_fv, ht, updV, am_up_at, va_rf]
    · simp only [am_fv, updV, hjk, if_false, am_up_k S.2.2 _ hjk]
end AMB
end
section
section AMC
variable {d : Nat} {Y : am_Y} {b : Nat × Nat} {pc : Nat} {ls : List (Option Value)} {st : List Value} {S : am_S} {I : am_I} {Q : Option Value → am_S → am_I → Prop}
theorem am_ina {g : am_G} {H : Heap} {a : Nat} (hH : am_H g S I H) (ha : a < S.1) : am_A g (am_ad g a) := by
  show g.1 ≤ am_ad g a
  rw [am_ad_lt (Nat.lt_of_lt_of_le ha hH.2.1)]
  omega
/-! arrays of numbers -/
theorem am_ao {g : am_G} {s : State} (hW : am_Wd g s) : ArrOfT s (g.2.2.1 0) .int ∧ ArrOfT s (g.2.2.1 1) .byte ∧ ArrOfT s (g.2.2.1 2) .boolean ∧ ArrOfT s (g.2.2.1 3) (.object RX0) := ⟨(hW.1.2 0 _ rfl).1, (hW.1.2 1 _ rfl).1, (hW.1.2 2 _ rfl).1, (hW.1.2 3 _ rfl).1⟩
theorem rn_iaload {a n : Nat} {i : Int32} (hdg : decode Y.2.2.1 pc = .ok (.iaload, 1)) (ha : a < S.1) (hk : S.2.1 a = .inl (0, n)) (hin : vp_in i n) (kk : am_Rn d Y b (pc + 1) ls (.int (I a i.toNatClampNeg) :: st) S I Q) : am_Rn d Y b pc ls (.int i :: .ref a :: st) S I Q := by
  intro g p l e R s m args below meth c H locs cells slots mc ms cl C L
  obtain ⟨hF, hM, hR, hB, hW, hS, hH⟩ := id C
  refine W.iald hF.1 hF.2.1 (am_arr hH ha hk) ((am_ao hW).1 n _) (fun q => by cases q) (by rw [arrV_size]; exact hin) (v := .int (I a i.toNatClampNeg)) (arrV_read _ _ (Nat.not_le.mp fun q => hin (Or.inr q))) rfl rfl hdg ?_
  exact kk g p l e R s m args below meth c H locs cells slots mc ms cl C L
theorem rn_baload {a t n : Nat} {i : Int32} (hdg : decode Y.2.2.1 pc = .ok (.baload, 1)) (ha : a < S.1) (hk : S.2.1 a = .inl (t, n)) (ht : t = 1 ∨ t = 2) (hin : vp_in i n) (kk : am_Rn d Y b (pc + 1) ls (.int (I a i.toNatClampNeg) :: st) S I Q) : am_Rn d Y b pc ls (.int i :: .ref a :: st) S I Q := by
  intro g p l e R s m args below meth c H locs cells slots mc ms cl C L
  obtain ⟨hF, hM, hR, hB, hW, hS, hH⟩ := id C
  rcases ht with rfl | rfl
  · refine W.bald hF.1 hF.2.1 (am_arr hH ha hk) ((am_ao hW).2.1 n _) (fun q => by cases q) (by rw [arrV_size]; exact hin) (v := .int (I a i.toNatClampNeg)) (arrV_read _ _ (Nat.not_le.mp fun q => hin (Or.inr q))) rfl rfl hdg ?_
    exact kk g p l e R s m args below meth c H locs cells slots mc ms cl C L
  · refine W.zald hF.1 hF.2.1 (am_arr hH ha hk) ((am_ao hW).2.2.1 n _) (fun q => by cases q) (by rw [arrV_size]; exact hin) (v := .int (I a i.toNatClampNeg)) (arrV_read _ _ (Nat.not_le.mp fun q => hin (Or.inr q))) rfl rfl hdg ?_
    exact kk g p l e R s m args below meth c H locs cells slots mc ms cl C L
/-- the world behind a store into an array -/
theorem am_stH {g : am_G} {H H' : Heap} {a t n k : Nat} {x : Int32} (hH : am_H g S I H) (ha : a < S.1) (hk : S.2.1 a = .inl (t, n)) (e1 : H'[am_ad g a]? = some ((arrV (g.2.2.1 t) n (fun j => .int (I a j))).setSlot k (.int x))) (e2 : H'.size = H.size) (e3 : ∀ q, q ≠ am_ad g a → H'[q]? = H[q]?) : am_H g S (am_up I a k x) H' := by
  have haB : a < am_B := Nat.lt_of_lt_of_le ha hH.2.1
  refine ⟨by rw [e2]; exact hH.1, hH.2.1, fun q hq => ?_⟩
  have hqB : q < am_B := Nat.lt_of_lt_of_le hq hH.2.1
  by_cases hqa : q = a
  · subst hqa
    unfold am_at
    rw [hk]
    show H'[am_ad g q]? = _
    rw [e1, arrV_store]
    congr 2
    funext j
    by_cases hj : j = k
    · subst hj; simp [updV, am_up_at]
    · simp [updV, hj, am_up_k I x hj]
  · exact am_at.keep (e3 _ (am_ad_ne hqB haB hqa)) rfl (fun _ => rfl) (fun j => by rw [am_up_a I x hqa]) (hH.2.2 q hq)
theorem rn_iastore {a n : Nat} {i x : Int32} (hdg : decode Y.2.2.1 pc = .ok (.iastore, 1)) (ha : a < S.1) (hk : S.2.1 a = .inl (0, n)) (hin : vp_in i n) (kk : am_Rn d Y b (pc + 1) ls st S (am_up I a i.toNatClampNeg x) Q) : am_Rn d Y b pc ls (.int x :: .int i :: .ref a :: st) S I Q := by
  intro g p l e R s m args below meth c H locs cells slots mc ms cl C L
  obtain ⟨hF, hM, hR, hB, hW, hS, hH⟩ := id C
  refine W.iast hF.1 hF.2.1 (am_arr hH ha hk) ((am_ao hW).1 n _) (fun q => by cases q) (by rw [arrV_size]; exact hin) rfl rfl hdg fun H' e1 e2 e3 => ?_
  exact kk g p l e R s m args below meth c H' _ cells slots mc ms cl ⟨hF, hM, hR, hB, hW, hS.put e2 e3 (am_ina hH ha), am_stH hH ha hk e1 e2 e3⟩ L
theorem rn_bastore {a n : Nat} {i x : Int32} (hdg : decode Y.2.2.1 pc = .ok (.bastore, 1)) (ha : a < S.1) (hk : S.2.1 a = .inl (1, n)) (hin : vp_in i n) (kk : am_Rn d Y b (pc + 1) ls st S (am_up I a i.toNatClampNeg x.toInt8.toInt32) Q) : am_Rn d Y b pc ls (.int x :: .int i :: .ref a :: st) S I Q := by
  intro g p l e R s m args below meth c H locs cells slots mc ms cl C L
  obtain ⟨hF, hM, hR, hB, hW, hS, hH⟩ := id C
  refine W.bast hF.1 hF.2.1 (am_arr hH ha hk) ((am_ao hW).2.1 n _) (fun q => by cases q) (by rw [arrV_size]; exact hin) rfl rfl hdg fun H' e1 e2 e3 => ?_
  exact kk g p l e R s m args below meth c H' _ cells slots mc ms cl ⟨hF, hM, hR, hB, hW, hS.put e2 e3 (am_ina hH ha), am_stH hH ha hk e1 e2 e3⟩ L
theorem rn_zastore {a n : Nat} {i x : Int32} (hdg : decode Y.2.2.1 pc = .ok (.bastore, 1)) (ha : a < S.1) (hk : S.2.1 a = .inl (2, n)) (hin : vp_in i n) (hx : narrow .boolean (.int x) = .int x) (kk : am_Rn d Y b (pc + 1) ls st S (am_up I a i.toNatClampNeg x) Q) : am_Rn d Y b pc ls (.int x :: .int i :: .ref a :: st) S I Q := by
  intro g p l e R s m args below meth c H locs cells slots mc ms cl C L
  obtain ⟨hF, hM, hR, hB, hW, hS, hH⟩ := id C
  refine W.zast hF.1 hF.2.1 (am_arr hH ha hk) ((am_ao hW).2.2.1 n _) (fun q => by cases q) (by rw [arrV_size]; exact hin) rfl rfl hdg fun H' e1 e2 e3 => ?_
  rw [hx] at e1
  exact kk g p l e R s m args below meth c H' _ cells slots mc ms cl ⟨hF, hM, hR, hB, hW, hS.put e2 e3 (am_ina hH ha), am_stH hH ha hk e1 e2 e3⟩ L
theorem rn_alen {a t n : Nat} (hdg : decode Y.2.2.1 pc = .ok (.arraylength, 1)) (ha : a < S.1) (hk : S.2.1 a = .inl (t, n)) (ht : t < 3) (kk : am_Rn d Y b (pc + 1) ls (.int (nI n) :: st) S I Q) : am_Rn d Y b pc ls (.ref a :: st) S I Q := by
  intro g p l e R s m args below meth c H locs cells slots mc ms cl C L
  obtain ⟨hF, hM, hR, hB, hW, hS, hH⟩ := id C
  have hz : (arrV (g.2.2.1 t) n (fun j => Value.int (I a j))).slots.size.toInt32 = nI n := by rw [arrV_size]; rfl
  have fin := kk g p l e R s m args below meth c H locs cells slots mc ms cl C L
  rcases (show t = 0 ∨ t = 1 ∨ t = 2 by omega) with rfl | rfl | rfl
  · exact W.alen hF.1 hF.2.1 (am_arr hH ha hk) ((am_ao hW).1 n _) hz rfl rfl hdg fin
  · exact W.alen hF.1 hF.2.1 (am_arr hH ha hk) ((am_ao hW).2.1 n _) hz rfl rfl hdg fin
  · exact W.alen hF.1 hF.2.1 (am_arr hH ha hk) ((am_ao hW).2.2.1 n _) hz rfl rfl hdg fin
theorem rn_alenq {a n : Nat} (hdg : decode Y.2.2.1 pc = .ok (.arraylength, 1)) (ha : a < S.1) (hk : S.2.1 a = .inr (.inl n)) (kk : am_Rn d Y b (pc + 1) ls (.int (nI n) :: st) S I Q) : am_Rn d Y b pc ls (.ref a :: st) S I Q := by
  intro g p l e R s m args below meth c H locs cells slots mc ms cl C L
  obtain ⟨hF, hM, hR, hB, hW, hS, hH⟩ := id C
  exact W.alen hF.1 hF.2.1 (am_arq hH ha hk) ((am_ao hW).2.2.2 n _) (by rw [arrV_size]; rfl) rfl rfl hdg (kk g p l e R s m args below meth c H locs cells slots mc ms cl C L)
theorem rn_aaload {a n : Nat} {i : Int32} (hdg : decode Y.2.2.1 pc = .ok (.aaload, 1)) (ha : a < S.1) (hk : S.2.1 a = .inr (.inl n)) (hin : vp_in i n) (kk : am_Rn d Y b (pc + 1) ls (va_rf (S.2.2 a i.toNatClampNeg) :: st) S I Q) : am_Rn d Y b pc ls (.int i :: .ref a :: st) S I Q := by
  intro g p l e R s m args below meth c H locs cells slots mc ms cl C L
  obtain ⟨hF, hM, hR, hB, hW, hS, hH⟩ := id C
  refine W.aald hF.1 hF.2.1 (am_arq hH ha hk) ((am_ao hW).2.2.2 n _) rfl (fun q => by cases q) (by rw [arrV_size]; exact hin) (v := am_v g (va_rf (S.2.2 a i.toNatClampNeg))) (arrV_read _ _ (Nat.not_le.mp fun q => hin (Or.inr q))) rfl rfl hdg ?_
  exact kk g p l e R s m args below meth c H locs cells slots mc ms cl C L
theorem rn_aastore {a n v : Nat} {i : Int32} (hdg : decode Y.2.2.1 pc = .ok (.aastore, 1)) (ha : a < S.1) (hk : S.2.1 a = .inr (.inl n)) (hv : v < S.1) (hkv : S.2.1 v = .inr (.inr 0)) (hin : vp_in i n) (kk : am_Rn d Y b (pc + 1) ls st (S.1, S.2.1, am_up S.2.2 a i.toNatClampNeg (some v)) I Q) : am_Rn d Y b pc ls (.ref v :: .int i :: .ref a :: st) S I Q := by
  intro g p l e R s m args below meth c H locs cells slots mc ms cl C L
  obtain ⟨hF, hM, hR, hB, hW, hS, hH⟩ := id C
  have haB : a < am_B := Nat.lt_of_lt_of_le ha hH.2.1
  have hlt : i.toNatClampNeg < n := Nat.not_le.mp fun q => hin (Or.inr q)
  have h0 : ¬ i < 0 := fun q => hin (Or.inl q)
  obtain ⟨-, cellV, g1, g2, g3, -⟩ := am_obj hH hv hkv
  have hcls := (hW.1.1 0 _ (am_cl (by omega))).2
  obtain ⟨kA, comp, k1, k2, k3, -⟩ := (hW.1.2 3 _ rfl).2
  have hcomp : comp = g.2.1.1 0 := Option.some.inj (k3.symm.trans hcls.1)
  subst hcomp
  obtain ⟨kC, hkC, -⟩ := hcls.2
  refine W.aast hF.1 hF.2.1 (am_arq hH ha hk) (fun q h => by cases h) (fun h => by cases h) k1 k2 rfl hkC ⟨h0, by rw [arrV_size]; exact hlt⟩ g1 (fun q h => by rw [g3] at h; cases h) (by rw [g2]; exact hkC) (by rw [g2]; exact va_assign hcls) rfl rfl hdg fun H' e1 e2 e3 => ?_
  refine kk g p l e R s m args below meth c H' _ cells slots mc ms cl ⟨hF, hM, hR, hB, hW, hS.put e2 e3 (am_ina hH ha), by rw [e2]; exact hH.1, hH.2.1, fun q hq => ?_⟩ L
  have hqB : q < am_B := Nat.lt_of_lt_of_le hq hH.2.1
  by_cases hqa : q = a
  · subst hqa
    unfold am_at
    simp only [hk]
    rw [e1, arrV_store]
    congr 2
    funext j
    by_cases hj : j = i.toNatClampNeg
    · subst hj; simp [updV, am_up_at, va_rf, am_v]
    · simp [updV, hj, am_up_k S.2.2 _ hj]
  · exact am_at.keep (S := S) (e3 _ (am_ad_ne hqB haB hqa)) rfl (fun j => by show am_up S.2.2 a _ _ q j = _; rw [am_up_a S.2.2 _ hqa]) (fun j => rfl) (hH.2.2 q hq)
/-! cells that are made -/
theorem am_dv {c k : Nat} (hc : c < 9) (hk : k < am_n c) : defaultValue (am_ty c k) = if am_isR (am_ty c k) = true then .null else .int 0 := by
  revert hk
  revert k
  rcases (show c = 0 ∨ c = 1 ∨ c = 2 ∨ c = 3 ∨ c = 4 ∨ c = 5 ∨ c = 6 ∨ c = 7 ∨ c = 8 by omega) with rfl | rfl | rfl | rfl | rfl | rfl | rfl | rfl | rfl <;> decide +kernel
theorem rn_new {i c : Nat} (hdg : decode Y.2.2.1 pc = .ok (.new i, 3)) (hc : c < 9) (hw : Cond.classLink (am_R Y.2.1) i (am_R c) ∈ am_gw ∧ Cond.instantiable (am_R c) (am_n c) ∈ am_gw ∧ Cond.initialized (am_R c) ∈ am_gw) (hB1 : S.1 < am_B) (hb : 1 ≤ b.1 ∧ am_n c ≤ b.2)
    (kk : am_Rn d Y (b.1 - 1, b.2 - am_n c) (pc + 3) ls (.ref S.1 :: st) (S.1 + 1, va_up S.2.1 S.1 (.inr (.inr c)), va_up S.2.2 S.1 (fun _ => none)) (va_up I S.1 (fun _ => 0)) Q) : am_Rn d Y b pc ls st S I Q := by
  intro g p l e R s m args below meth c0 H locs cells slots mc ms cl C L
  obtain ⟨hF, hM, hR, hB, hW, hS, hH⟩ := id C
  have hKn := hW.1.1 c _ (am_cl hc)
  have hsz : H.size = am_ad g S.1 := by rw [am_ad_lt hB1]; exact hH.1
  refine W.newcK hF.1 hF.2.1 hF.2.2.2.1 (hF.2.2.2.2 _ hw.1) (hF.2.2.2.2 _ hw.2.1) (hF.2.2.2.2 _ hw.2.2) rfl hdg (by omega) (by omega) hKn.2.1 hsz fun H1 kC hkC e1 z1 o1 => ?_
  refine kk g p l e R s m args below meth c0 H1 locs (cells + 1) (slots + am_n c) mc ms cl ⟨hF, hM, hR, ⟨by dsimp only; omega, by dsimp only; omega⟩, hW, ⟨Nat.le_trans hS.1 (by omega), fun x h1 h2 => (o1 x (by have := hS.1; omega)).trans (hS.2.1 x h1 h2), hS.2.2⟩, ?_, ?_, fun q hq => ?_⟩ L
  · show H1.size = g.1 + (S.1 + 1)
    rw [z1, am_ad_lt hB1]; omega
  · show S.1 + 1 ≤ am_B
    omega
  · have hq' : q < S.1 + 1 := hq
    by_cases hqa : q = S.1
    · subst hqa
      have hkk : (va_up S.2.1 S.1 (.inr (.inr c)) : Nat → am_Kd) S.1 = .inr (.inr c) := by simp [va_up]
      unfold am_at
      simp only [hkk]
      refine ⟨hc, (u_born (am_ty c) hF.2.2.2.2 (am_lays c hc) hKn hkC e1 (am_tyok hc)).to (fun k hk => ?_)⟩
      rw [am_dv hc hk]
      simp only [am_fv, va_up, if_true]
      split <;> rfl
    · have hqB : q < am_B := by omega
      have hlt : q < S.1 := by omega
      exact am_at.keep (o1 _ (by rw [am_ad_lt hB1, am_ad_lt hqB]; omega)) (by simp [va_up, hqa]) (fun j => by simp [va_up, hqa]) (fun j => by simp [va_up, hqa]) (hH.2.2 q hlt)
end AMC
end
section
section AMD
variable {d : Nat} {Y : am_Y} {b : Nat × Nat} {pc : Nat} {ls : List (Option Value)} {st : List Value} {S : am_S} {I : am_I} {Q : Option Value → am_S → am_I → Prop}
theorem am_at.grow {g : am_G} {H H1 : Heap} {K0 : am_Kd} {G0 : Nat → Option Nat} {I0 : Nat → Int32} (hB1 : S.1 < am_B) (hH : am_H g S I H) (hS : H1.size = H.size + 1) (o1 : ∀ q, q < H.size → H1[q]? = H[q]?) (hn : am_at g (S.1 + 1, va_up S.2.1 S.1 K0, va_up S.2.2 S.1 G0) (va_up I S.1 I0) H1 S.1) :
    am_H g (S.1 + 1, va_up S.2.1 S.1 K0, va_up S.2.2 S.1 G0) (va_up I S.1 I0) H1 := by
  refine ⟨?_, ?_, fun q hq => ?_⟩
  · show H1.size = g.1 + (S.1 + 1)
    rw [hS, hH.1]; omega
  · show S.1 + 1 ≤ am_B
    omega
  · have hq' : q < S.1 + 1 := hq
    by_cases hqa : q = S.1
    · subst hqa; exact hn
    · have hqB : q < am_B := by omega
      have hlt : q < S.1 := by omega
      exact am_at.keep (o1 _ (by rw [hH.1, am_ad_lt hqB]; omega)) (by simp [va_up, hqa]) (fun j => by simp [va_up, hqa]) (fun j => by simp [va_up, hqa]) (hH.2.2 q hlt)
def am_at3 (t : Nat) : ArrayType := match t with
  | 0 => .int
  | 1 => .byte
  | _ => .boolean
theorem rn_newarray {t N : Nat} {n : Int32} (ht : t < 3) (hdg : decode Y.2.2.1 pc = .ok (.newarray (am_at3 t), 2)) (hw : Cond.arrayClass (newarray.typeOf (am_at3 t)) ∈ am_gw) (hn : ¬ n < 0) (hN : n.toNatClampNeg = N) (hs : N ≤ 100000) (hB1 : S.1 < am_B) (hb : 1 ≤ b.1 ∧ N ≤ b.2)
    (kk : am_Rn d Y (b.1 - 1, b.2 - N) (pc + 2) ls (.ref S.1 :: st) (S.1 + 1, va_up S.2.1 S.1 (.inl (t, N)), va_up S.2.2 S.1 (fun _ => none)) (va_up I S.1 (fun _ => 0)) Q) : am_Rn d Y b pc ls (.int n :: st) S I Q := by
  intro g p l e R s m args below meth c0 H locs cells slots mc ms cl C L
  obtain ⟨hF, hM, hR, hB, hW, hS, hH⟩ := id C
  have hsz : H.size = am_ad g S.1 := by rw [am_ad_lt hB1]; exact hH.1
  have hcb : N * componentBytes (newarray.typeOf (am_at3 t)) ≤ 536870912 := by
    have : componentBytes (newarray.typeOf (am_at3 t)) ≤ 4 := by
      rcases (show t = 0 ∨ t = 1 ∨ t = 2 by omega) with rfl | rfl | rfl <;> decide
    exact Nat.le_trans (Nat.mul_le_mul hs this) (by decide)
  refine va_newaK hF.1 hF.2.1 (hF.2.2.2.2 _ hw) rfl hdg rfl hn hN hcb (by omega) (by omega) hsz fun H1 cA e1 z1 o1 _ hfc => ?_
  have hcA : cA = g.2.2.1 t := by
    rcases (show t = 0 ∨ t = 1 ∨ t = 2 by omega) with rfl | rfl | rfl
    · exact Option.some.inj (hfc.symm.trans (hW.1.2 0 _ rfl).2)
    · exact Option.some.inj (hfc.symm.trans (hW.1.2 1 _ rfl).2)
    · exact Option.some.inj (hfc.symm.trans (hW.1.2 2 _ rfl).2)
  subst hcA
  have z2 : H1.size = H.size + 1 := by rw [z1, hsz]
  have o2 : ∀ q, q < H.size → H1[q]? = H[q]? := fun q hq => o1 q (by rw [← hsz]; exact hq)
  refine kk g p l e R s m args below meth c0 H1 locs (cells + 1) (slots + N) mc ms cl ⟨hF, hM, hR, ⟨by dsimp only; omega, by dsimp only; omega⟩, hW, ⟨Nat.le_trans hS.1 (by omega), fun x h1 h2 => (o2 x (Nat.lt_of_lt_of_le h1 hS.1)).trans (hS.2.1 x h1 h2), hS.2.2⟩, am_at.grow hB1 hH z2 o2 ?_⟩ L
  have hkk : (va_up S.2.1 S.1 (.inl (t, N)) : Nat → am_Kd) S.1 = .inl (t, N) := by simp [va_up]
  unfold am_at
  simp only [hkk]
  rw [e1]
  have : defaultValue (newarray.typeOf (am_at3 t)) = .int 0 := by
    rcases (show t = 0 ∨ t = 1 ∨ t = 2 by omega) with rfl | rfl | rfl <;> rfl
  rw [this]
  simp [va_up]
theorem rn_anewarray {i N : Nat} {n : Int32} (hdg : decode Y.2.2.1 pc = .ok (.anewarray i, 3)) (hw : Cond.classLink (am_R Y.2.1) i RX0 ∈ am_gw) (hn : ¬ n < 0) (hN : n.toNatClampNeg = N) (hs : N ≤ 100000) (hB1 : S.1 < am_B) (hb : 1 ≤ b.1 ∧ N ≤ b.2)
    (kk : am_Rn d Y (b.1 - 1, b.2 - N) (pc + 3) ls (.ref S.1 :: st) (S.1 + 1, va_up S.2.1 S.1 (.inr (.inl N)), va_up S.2.2 S.1 (fun _ => none)) (va_up I S.1 (fun _ => 0)) Q) : am_Rn d Y b pc ls (.int n :: st) S I Q := by
  intro g p l e R s m args below meth c0 H locs cells slots mc ms cl C L
  obtain ⟨hF, hM, hR, hB, hW, hS, hH⟩ := id C
  have hsz : H.size = am_ad g S.1 := by rw [am_ad_lt hB1]; exact hH.1
  refine W.anew hF.1 hF.2.1 hF.2.2.2.1 (hF.2.2.2.2 _ hw) (va_AO.use hW.2.2.2.2) rfl hdg rfl hn (by omega) (by omega) (by omega) fun cA kA comp hfc hkA hkind hcomp => ?_
  obtain ⟨kA', comp', k1, k2, k3, k4⟩ := (hW.1.2 3 _ rfl).2
  have hcA : cA = g.2.2.1 3 := Option.some.inj (hfc.symm.trans k4)
  subst hcA
  have z2 : (H.push { cls := g.2.2.1 3, slots := Array.replicate n.toNatClampNeg .null, vm := .none }).size = H.size + 1 := by simp
  have o2 : ∀ q, q < H.size → (H.push { cls := g.2.2.1 3, slots := Array.replicate n.toNatClampNeg .null, vm := .none })[q]? = H[q]? := fun q hq => by rw [Array.getElem?_push, if_neg (Nat.ne_of_lt hq)]
  rw [hN] at z2 o2 ⊢
  have hgo := kk g p l e R s m args below meth c0 (H.push { cls := g.2.2.1 3, slots := Array.replicate N .null, vm := .none }) locs (cells + 1) (slots + N) mc ms cl ⟨hF, hM, hR, ⟨by dsimp only; omega, by dsimp only; omega⟩, hW, ⟨Nat.le_trans hS.1 (by rw [z2]; omega), fun x h1 h2 => (o2 x (Nat.lt_of_lt_of_le h1 hS.1)).trans (hS.2.1 x h1 h2), hS.2.2⟩, am_at.grow hB1 hH z2 o2 (by
    have hkk : (va_up S.2.1 S.1 (.inr (.inl N)) : Nat → am_Kd) S.1 = .inr (.inl N) := by simp [va_up]
    unfold am_at
    simp only [hkk]
    rw [← hsz, Array.getElem?_push, if_pos rfl, arrV_new]
    simp [va_up, va_rf, am_v])⟩ L
  rw [hsz]
  exact hgo
/-! calls -/
/-- behind a call -/
theorem am_after {p : Program} {l : Launch} {e : Env} {R : Room} {s : State} {m : MethodId} {args a : Array Value} {below : List Frame} {meth : Method} {c : Code} {H : Heap} {locs : List Loc} {cells slots mc ms : Nat} {QQ : State → Prop} {cl : Array Slot} {st0 rest : List Value} {g : am_G} {Q' : Option Value → am_S → am_I → Prop}
    (hr : va_Run p l e R s m args below meth c H locs cells slots mc ms (F0 m pc cl st0) rest (am_Qc g Q' a) (am_A g)) (hS : va_S (am_A g) s.heap H locs)
    (kk : ∀ (r : Option Value) (S' : am_S) (I' : am_I) (H1 : Heap) (locs1 : List Loc), Q' r S' I' → am_H g S' I' H1 → va_S (am_A g) s.heap H1 locs1 → W p l e R s m args below meth c H1 locs1 (cells + mc) (slots + ms) QQ (F0 m (pc + 3) cl ((r.map (am_v g)).toList ++ rest))) : W p l e R s m args below meth c H locs cells slots QQ (F0 m pc cl st0) := by
  intro T hT X
  obtain ⟨v, st₀, t, T', L, h0, X', hL, e1, e2, ⟨⟨r, S', I', hv, hp, hb⟩, hz, hk⟩, stp⟩ := hr T hT X
  cases hv
  rw [h0] at hz hk
  obtain ⟨t2, a1, b1⟩ := kk r S' I' T'.heap (locs ++ L) hp (by rw [e1]; exact hb)
    ⟨Nat.le_trans hS.1 (by rw [e1]; exact hz), fun q h1 h2 => by rw [e1, hk q (Nat.lt_of_lt_of_le h1 hS.1) h2]; exact hS.2.1 q h1 h2, fun q hq => by
      rcases List.mem_append.mp hq with h | h
      · exact hS.2.2 q h
      · exact hL q h⟩ T' rfl X'
  exact ⟨t2, stp t2 a1, b1⟩
/-- what a call's row of the pool says: the callee's code, its owner ready, how many it takes -/
def am_cb (Z : am_Y) (n : Nat) : Prop := Cond.code Z.1 Z.2.2.1 Z.2.2.2.2 Z.2.2.2.1 ∈ am_gw ∧ Cond.initialized Z.1.cls ∈ am_gw ∧ (Z.1.cls ≠ "java/lang/invoke/MethodHandle" ∧ Z.1.cls ≠ "java/lang/invoke/VarHandle" ∧ (parseMethodDescriptor Z.1.desc).map (fun d => d.parameters.length) = some n) ∧ Z.2.2.2.2 ≤ 41
def am_cS (o i : Nat) (Z : am_Y) (n : Nat) : Prop := am_cb Z n ∧ Cond.methodLink (am_R o) i Z.1 ∈ am_gw ∧ Cond.static Z.1 ∈ am_gw
def am_cV (o i : Nat) (Z : am_Y) (n : Nat) : Prop := am_cb Z n ∧ Cond.methodLink (am_R o) i Z.1 ∈ am_gw ∧ Cond.instanceMethod Z.1 ∈ am_gw ∧ Cond.selects Z.1.cls Z.1 Z.1 ∈ am_gw ∧ Z.1.cls = am_R Z.2.1 ∧ Z.2.1 < 9
def am_cI (o i : Nat) (Z : am_Y) (n : Nat) : Prop := am_cb Z n ∧ Cond.methodLink (am_R o) i Z.1 ∈ am_gw ∧ Cond.instanceMethod Z.1 ∈ am_gw ∧ Z.1.name = "<init>" ∧ Z.2.2.2.1 = none
def am_cSN (o i : Nat) (Z : am_Y) (n : Nat) : Prop := am_cb Z n ∧ (o, i, Z.1) ∈ am_nw ∧ Cond.static Z.1 ∈ am_gw
def am_cIN (o i : Nat) (Z : am_Y) (n : Nat) : Prop := am_cb Z n ∧ (o, i, Z.1) ∈ am_nw ∧ Cond.instanceMethod Z.1 ∈ am_gw ∧ Z.1.name = "<init>" ∧ Z.2.2.2.1 = none
theorem am_gin {Z : am_Y} {n : Nat} (h : am_cb Z n) : GoodIn am_gw (.code Z.1 Z.2.2.1 Z.2.2.2.2 Z.2.2.2.1 :: am_gw) := fun w hw => by
  rcases List.mem_cons.mp hw with rfl | hw
  · exact am_good h.1
  · exact am_good hw
theorem am_pre {g : am_G} {s : State} {H : Heap} {locs : List Loc} {as : List Value} (hW : am_Wd g s) (hS : va_S (am_A g) s.heap H locs) (hH : am_H g S I H) : ∀ U : State, U.heap = H → s.WarmedH U.vm → am_Pc g as S I (as.map (am_v g)).toArray U := fun U hU hv => ⟨rfl, hW.moved hv hU hS, by rw [hU]; exact hH⟩
theorem am_cat (g : am_G) (st : List Value) : ((st.map (am_v g)).map fun v => v.category) = st.map fun v => v.category := by
  rw [List.map_map]
  congr 1
  funext v
  exact am_v_cat g v
variable {Z : am_Y} {d' n i : Nat} {b' : Nat × Nat} {as stk : List Value} {Q' : Option Value → am_S → am_I → Prop}
theorem rn_callS (hdg : decode Y.2.2.1 pc = .ok (.invokestatic i, 3)) (hc : am_cS Y.2.1 i Z n) (hM : am_Mt d' Z b' as S I Q') (hd : d' < d) (hb : b'.1 ≤ b.1 ∧ b'.2 ≤ b.2) (hn : as.length = n) (hs : as.reverse ++ st = stk) (hr : (st.map fun v => v.category).sum ≤ 8)
    (kk : ∀ r S' I', Q' r S' I' → am_Rn d Y (b.1 - b'.1, b.2 - b'.2) (pc + 3) ls (r.toList ++ st) S' I' Q) : am_Rn d Y b pc ls stk S I Q := by
  intro g p l e R s m args below meth c H locs cells slots mc ms cl C L
  obtain ⟨hF, hMm, hR, hB, hW, hS, hH⟩ := id C
  have cw := callB_of (R := R) (rm := am_rm d' b') (mc := b'.1) (ms := b'.2) n hF.2.2.2.2 (am_gin hc.1) rfl rfl rfl (hF.2.2.2.2 _ hc.1.2.1) (hF.2.2.2.2 _ hc.2.1) hc.1.2.2.1 ⟨by show d' + 1 ≤ _; omega, by have := hc.1.2.2.2; show 8 + (Z.2.2.2.2 + 11) + 60 * d' ≤ _; omega⟩
  refine am_after (va_runS (As := as.map (am_v g)) (rest := st.map (am_v g)) hF (hM g l) ⟨cw, hF.2.2.2.2 _ hc.2.2⟩ ⟨am_Pc.blind g as S I, am_pre hW hS hH⟩ rfl (by simpa using hn) L.size (by rw [← hs]; simp) (lv_room (by rw [am_cat]; exact hr)) hdg ⟨by omega, by omega⟩) hS (fun r S' I' H1 locs1 hq hH1 hS1 => ?_)
  have := kk r S' I' hq g p l e R s m args below meth c H1 locs1 (cells + b'.1) (slots + b'.2) mc ms cl ⟨hF, hMm, hR, ⟨by dsimp only; omega, by dsimp only; omega⟩, hW, hS1, hH1⟩ L
  cases r <;> exact this
theorem rn_callSN (hdg : decode Y.2.2.1 pc = .ok (.invokestatic i, 3)) (hc : am_cSN Y.2.1 i Z n) (hM : am_Mt d' Z b' as S I Q') (hd : d' < d) (hb : b'.1 ≤ b.1 ∧ b'.2 ≤ b.2) (hn : as.length = n) (hs : as.reverse ++ st = stk) (hr : (st.map fun v => v.category).sum ≤ 8)
    (kk : ∀ r S' I', Q' r S' I' → am_Rn d Y (b.1 - b'.1, b.2 - b'.2) (pc + 3) ls (r.toList ++ st) S' I' Q) : am_Rn d Y b pc ls stk S I Q := by
  intro g p l e R s m args below meth c H locs cells slots mc ms cl C L
  obtain ⟨hF, hMm, hR, hB, hW, hS, hH⟩ := id C
  have cw := va_cnB (R := R) (rm := am_rm d' b') (mc := b'.1) (ms := b'.2) n hF.2.2.2.2 (am_gin hc.1) rfl rfl rfl (hW.2.1 _ hc.2.1) (hF.2.2.2.2 _ hc.1.2.1) hc.1.2.2.1 ⟨by show d' + 1 ≤ _; omega, by have := hc.1.2.2.2; show 8 + (Z.2.2.2.2 + 11) + 60 * d' ≤ _; omega⟩
  refine am_after (va_runSN (As := as.map (am_v g)) (rest := st.map (am_v g)) hF (hM g l) ⟨cw, hF.2.2.2.2 _ hc.2.2, trivial⟩ ⟨am_Pc.blind g as S I, am_pre hW hS hH⟩ rfl (by simpa using hn) L.size (by rw [← hs]; simp) (lv_room (by rw [am_cat]; exact hr)) hdg ⟨by omega, by omega⟩) hS (fun r S' I' H1 locs1 hq hH1 hS1 => ?_)
  have := kk r S' I' hq g p l e R s m args below meth c H1 locs1 (cells + b'.1) (slots + b'.2) mc ms cl ⟨hF, hMm, hR, ⟨by dsimp only; omega, by dsimp only; omega⟩, hW, hS1, hH1⟩ L
  cases r <;> exact this
theorem rn_callV {a : Nat} (hdg : decode Y.2.2.1 pc = .ok (.invokevirtual i, 3)) (hc : am_cV Y.2.1 i Z n) (hM : am_Mt d' Z b' (.ref a :: as) S I Q') (hd : d' < d) (hb : b'.1 ≤ b.1 ∧ b'.2 ≤ b.2) (ha : a < S.1) (hk : S.2.1 a = .inr (.inr Z.2.1)) (hn : as.length = n) (hs : as.reverse ++ .ref a :: st = stk) (hr : (st.map fun v => v.category).sum ≤ 8)
    (kk : ∀ r S' I', Q' r S' I' → am_Rn d Y (b.1 - b'.1, b.2 - b'.2) (pc + 3) ls (r.toList ++ st) S' I' Q) : am_Rn d Y b pc ls stk S I Q := by
  intro g p l e R s m args below meth c H locs cells slots mc ms cl C L
  obtain ⟨hF, hMm, hR, hB, hW, hS, hH⟩ := id C
  have cw := callB_of (R := R) (rm := am_rm d' b') (mc := b'.1) (ms := b'.2) n hF.2.2.2.2 (am_gin hc.1) rfl rfl rfl (hF.2.2.2.2 _ hc.1.2.1) (hF.2.2.2.2 _ hc.2.1) hc.1.2.2.1 ⟨by show d' + 1 ≤ _; omega, by have := hc.1.2.2.2; show 8 + (Z.2.2.2.2 + 11) + 60 * d' ≤ _; omega⟩
  obtain ⟨-, cell, q1, q2, q3, -⟩ := am_obj hH ha hk
  have hfc := (hW.1.1 Z.2.1 _ (am_cl hc.2.2.2.2.2)).2.1
  refine am_after (va_runV (b := am_ad g a) (C := Z.1.cls) (As := as.map (am_v g)) (rest := st.map (am_v g)) hF (hM g l) ⟨cw, hF.2.2.2.2 _ hc.2.2.1, hF.2.2.2.2 _ hc.2.2.2.1⟩ ⟨am_Pc.blind g (.ref a :: as) S I, ⟨cell, q1, by rw [q3]; rfl, by rw [hc.2.2.2.2.1, q2]; exact hfc⟩, am_pre (as := .ref a :: as) hW hS hH⟩ rfl (by simpa using hn) L.size (by rw [← hs]; simp [am_v]) (lv_room (by rw [am_cat]; exact hr)) hdg ⟨by omega, by omega⟩) hS (fun r S' I' H1 locs1 hq hH1 hS1 => ?_)
  have := kk r S' I' hq g p l e R s m args below meth c H1 locs1 (cells + b'.1) (slots + b'.2) mc ms cl ⟨hF, hMm, hR, ⟨by dsimp only; omega, by dsimp only; omega⟩, hW, hS1, hH1⟩ L
  cases r <;> exact this
theorem rn_callI {a : Nat} (hdg : decode Y.2.2.1 pc = .ok (.invokespecial i, 3)) (hc : am_cI Y.2.1 i Z n) (hM : am_Mt d' Z b' (.ref a :: as) S I Q') (hd : d' < d) (hb : b'.1 ≤ b.1 ∧ b'.2 ≤ b.2) (hn : as.length = n) (hs : as.reverse ++ .ref a :: st = stk) (hr : (st.map fun v => v.category).sum ≤ 8)
    (kk : ∀ r S' I', Q' r S' I' → am_Rn d Y (b.1 - b'.1, b.2 - b'.2) (pc + 3) ls (r.toList ++ st) S' I' Q) : am_Rn d Y b pc ls stk S I Q := by
  intro g p l e R s m args below meth c H locs cells slots mc ms cl C L
  obtain ⟨hF, hMm, hR, hB, hW, hS, hH⟩ := id C
  have hMg := hM g l
  have hgi := am_gin hc.1
  have hcb := hc.1
  rw [hc.2.2.2.2] at hMg hgi
  have cw := cwI (R := R) (rm := am_rm d' b') (mc := b'.1) (ms := b'.2) n hF.2.2.2.2 hgi rfl rfl rfl (hF.2.2.2.2 _ hc.1.2.1) (hF.2.2.2.2 _ hc.2.1) (hF.2.2.2.2 _ hc.2.2.1) hc.2.2.2.1 hc.1.2.2.1 ⟨by show d' + 1 ≤ _; omega, by have := hc.1.2.2.2; show 8 + (Z.2.2.2.2 + 11) + 60 * d' ≤ _; omega⟩
  refine am_after (va_runI (b := am_ad g a) (As := as.map (am_v g)) (rest := st.map (am_v g)) hF hMg cw ⟨am_Pc.blind g (.ref a :: as) S I, am_pre (as := .ref a :: as) hW hS hH⟩ rfl (by simpa using hn) L.size (by rw [← hs]; simp [am_v]) (lv_room (by rw [am_cat]; exact hr)) hdg ⟨by omega, by omega⟩) hS (fun r S' I' H1 locs1 hq hH1 hS1 => ?_)
  have := kk r S' I' hq g p l e R s m args below meth c H1 locs1 (cells + b'.1) (slots + b'.2) mc ms cl ⟨hF, hMm, hR, ⟨by dsimp only; omega, by dsimp only; omega⟩, hW, hS1, hH1⟩ L
  cases r <;> exact this
theorem rn_callIN {a : Nat} (hdg : decode Y.2.2.1 pc = .ok (.invokespecial i, 3)) (hc : am_cIN Y.2.1 i Z n) (hM : am_Mt d' Z b' (.ref a :: as) S I Q') (hd : d' < d) (hb : b'.1 ≤ b.1 ∧ b'.2 ≤ b.2) (hn : as.length = n) (hs : as.reverse ++ .ref a :: st = stk) (hr : (st.map fun v => v.category).sum ≤ 8)
    (kk : ∀ r S' I', Q' r S' I' → am_Rn d Y (b.1 - b'.1, b.2 - b'.2) (pc + 3) ls (r.toList ++ st) S' I' Q) : am_Rn d Y b pc ls stk S I Q := by
  intro g p l e R s m args below meth c H locs cells slots mc ms cl C L
  obtain ⟨hF, hMm, hR, hB, hW, hS, hH⟩ := id C
  have hMg := hM g l
  have hgi := am_gin hc.1
  rw [hc.2.2.2.2] at hMg hgi
  have cw := va_cnB (R := R) (rm := am_rm d' b') (mc := b'.1) (ms := b'.2) n hF.2.2.2.2 hgi rfl rfl rfl (hW.2.1 _ hc.2.1) (hF.2.2.2.2 _ hc.1.2.1) hc.1.2.2.1 ⟨by show d' + 1 ≤ _; omega, by have := hc.1.2.2.2; show 8 + (Z.2.2.2.2 + 11) + 60 * d' ≤ _; omega⟩
  refine am_after (va_runIN (b := am_ad g a) (As := as.map (am_v g)) (rest := st.map (am_v g)) hF hMg ⟨cw, hc.2.2.2.1, hF.2.2.2.2 _ hc.2.2.1⟩ ⟨am_Pc.blind g (.ref a :: as) S I, am_pre (as := .ref a :: as) hW hS hH⟩ rfl (by simpa using hn) L.size (by rw [← hs]; simp [am_v]) (lv_room (by rw [am_cat]; exact hr)) hdg ⟨by omega, by omega⟩) hS (fun r S' I' H1 locs1 hq hH1 hS1 => ?_)
  have := kk r S' I' hq g p l e R s m args below meth c H1 locs1 (cells + b'.1) (slots + b'.2) mc ms cl ⟨hF, hMm, hR, ⟨by dsimp only; omega, by dsimp only; omega⟩, hW, hS1, hH1⟩ L
  cases r <;> exact this
/-- Object's own start -/
theorem rn_objInit {a : Nat} (hdg : decode Y.2.2.1 pc = .ok (.invokespecial i, 3)) (hw : Cond.methodLink (am_R Y.2.1) i Lib.objectInit ∈ am_gw ∧ Cond.instanceMethod Lib.objectInit ∈ am_gw ∧ Cond.code Lib.objectInit ⟨#[0xb1]⟩ 1 none ∈ am_gw) (hd : 1 ≤ d) (hr : (st.map fun v => v.category).sum ≤ 8) (kk : am_Rn d Y b (pc + 3) ls st S I Q) : am_Rn d Y b pc ls (.ref a :: st) S I Q := by
  intro g p l e R s m args below meth c H locs cells slots mc ms cl C L
  obtain ⟨hF, hMm, hR, hB, hW, hS, hH⟩ := id C
  refine W.objInit hF.1 hF.2.1 hF.2.2.2.1 (hF.2.2.2.2 _ hw.1) (hF.2.2.2.2 _ hw.2.1) (hF.2.2.2.2 _ hw.2.2) rfl (by rw [hF.2.2.1]; exact L.size) rfl hdg (by omega) ?_ ?_
  · have h1 := lv_room (m := m) (pc := pc) (ls := cl) (rest := st) (st := st.map (am_v g)) (by rw [am_cat]; exact hr)
    have h2 : 60 ≤ R.locals := by omega
    exact Nat.le_trans (Nat.add_le_add_right h1 12) (by omega)
  · exact kk g p l e R s m args below meth c H locs cells slots mc ms cl C L
theorem rn_max {x y : Int32} (hdg : decode Y.2.2.1 pc = .ok (.invokestatic i, 3)) (hw : Cond.methodLink (am_R Y.2.1) i Lib.Math.max.name ∈ am_gw ∧ Cond.static Lib.Math.max.name ∈ am_gw ∧ Cond.initialized "java/lang/Math" ∈ am_gw ∧ Cond.code Lib.Math.max.name Lib.Math.max.code 2 (some .int) ∈ am_gw) (hd : 1 ≤ d) (hr : (st.map fun v => v.category).sum ≤ 8) (kk : am_Rn d Y b (pc + 3) ls (.int (if x < y then y else x) :: st) S I Q) : am_Rn d Y b pc ls (.int y :: .int x :: st) S I Q := by
  intro g p l e R s m args below meth c H locs cells slots mc ms cl C L
  obtain ⟨hF, hMm, hR, hB, hW, hS, hH⟩ := id C
  exact va_mmax hF.1 hF.2.1 (by rw [hF.2.2.1]; exact L.size.symm) hF.2.2.2.1 (hF.2.2.2.2 _ hw.1) (hF.2.2.2.2 _ hw.2.1) (hF.2.2.2.2 _ hw.2.2.1) (hF.2.2.2.2 _ hw.2.2.2) (by omega) (by rw [am_cat]; omega) (by omega) (by omega) hdg (kk g p l e R s m args below meth c H locs cells slots mc ms cl C L)
theorem rn_min {x y : Int32} (hdg : decode Y.2.2.1 pc = .ok (.invokestatic i, 3)) (hw : Cond.methodLink (am_R Y.2.1) i Lib.Math.min.name ∈ am_gw ∧ Cond.static Lib.Math.min.name ∈ am_gw ∧ Cond.initialized "java/lang/Math" ∈ am_gw ∧ Cond.code Lib.Math.min.name Lib.Math.min.code 2 (some .int) ∈ am_gw) (hd : 1 ≤ d) (hr : (st.map fun v => v.category).sum ≤ 8) (kk : am_Rn d Y b (pc + 3) ls (.int (if y < x then y else x) :: st) S I Q) : am_Rn d Y b pc ls (.int y :: .int x :: st) S I Q := by
  intro g p l e R s m args below meth c H locs cells slots mc ms cl C L
  obtain ⟨hF, hMm, hR, hB, hW, hS, hH⟩ := id C
  exact va_mmin hF.1 hF.2.1 (by rw [hF.2.2.1]; exact L.size.symm) hF.2.2.2.1 (hF.2.2.2.2 _ hw.1) (hF.2.2.2.2 _ hw.2.1) (hF.2.2.2.2 _ hw.2.2.1) (hF.2.2.2.2 _ hw.2.2.2) (by omega) (by rw [am_cat]; omega) (by omega) (by omega) hdg (kk g p l e R s m args below meth c H locs cells slots mc ms cl C L)
end AMD
end
section
section AME
variable {d : Nat} {Y : am_Y} {b : Nat × Nat} {pc : Nat} {ls : List (Option Value)} {st : List Value} {S : am_S} {I : am_I} {Q : Option Value → am_S → am_I → Prop}
/-- a row of numbers is copied -/
theorem rn_copy {i a0 a n0 n1 : Nat} {sp dp n : Int32} (hdg : decode Y.2.2.1 pc = .ok (.invokestatic i, 3)) (hw : Cond.methodLink (am_R Y.2.1) i arraycopyName ∈ am_gw ∧ Cond.native arraycopyName ∈ am_gw ∧ Cond.static arraycopyName ∈ am_gw ∧ Cond.initialized "java/lang/System" ∈ am_gw)
    (ha0 : a0 < S.1) (ha : a < S.1) (hk0 : S.2.1 a0 = .inl (0, n0)) (hk : S.2.1 a = .inl (0, n1)) (h1 : ¬ sp < 0) (h2 : ¬ dp < 0) (h3 : ¬ n < 0) (h4 : sp.toNatClampNeg + n.toNatClampNeg ≤ n0) (h5 : dp.toNatClampNeg + n.toNatClampNeg ≤ n1) (hd : 1 ≤ d) (hr : (st.map fun v => v.category).sum ≤ 8)
    (kk : am_Rn d Y b (pc + 3) ls st S (va_up I a (va_cpy (I a0) (I a) sp.toNatClampNeg dp.toNatClampNeg n.toNatClampNeg)) Q) : am_Rn d Y b pc ls (.int n :: .int dp :: .ref a :: .int sp :: .ref a0 :: st) S I Q := by
  intro g p l e R s m args below meth c H locs cells slots mc ms cl C L
  obtain ⟨hF, hMm, hR, hB, hW, hS, hH⟩ := id C
  have haB : a < am_B := Nat.lt_of_lt_of_le ha hH.2.1
  have nn : ∀ z : Int32, ¬ z < 0 → z.toInt = (z.toNatClampNeg : Int) := by
    intro z hz
    have hz0 : (0 : Int) ≤ z.toInt := by
      have := Int32.not_lt.mp hz
      simpa using Int32.le_iff_toInt_le.mp this
    show z.toInt = ((z.toInt.toNat : Nat) : Int)
    omega
  intro T hT X
  have hc0 := am_arr hH ha0 hk0
  have hc1 := am_arr hH ha hk
  obtain ⟨-, k0, hq0, cm0, hkk0⟩ := (am_ao hW).1 n0 (fun j => .int (I a0 j))
  obtain ⟨-, k1, hq1, cm1, hkk1⟩ := (am_ao hW).1 n1 (fun j => .int (I a j))
  obtain ⟨vm', X', step⟩ := X.arraycopy hF.1 hF.2.2.2.1 (hF.2.2.2.2 _ hw.1) (hF.2.2.2.2 _ hw.2.1) (hF.2.2.2.2 _ hw.2.2.1) (hF.2.2.2.2 _ hw.2.2.2) (src := am_ad g a0) (dst := am_ad g a) (cs := arrV (g.2.2.1 0) n0 (fun j => .int (I a0 j))) (cd := arrV (g.2.2.1 0) n1 (fun j => .int (I a j))) (srcPos := sp) (destPos := dp) (n := n) (by rw [hT]; exact hc0) (by rw [hT]; exact hc1)
    (fun _ h => by cases h) (fun _ h => by cases h) (fun h => by cases h) (fun h => by cases h) hq0 hq1 hkk0 hkk1 (by simp [refKind]) h1 h2 h3
    (by rw [nn sp h1, nn n h3, arrV_size]; omega)
    (by rw [nn dp h2, nn n h3, arrV_size]; omega)
    (fun vm₁ _ j hj => by
      have e : (arrV (g.2.2.1 0) n0 (fun j => Value.int (I a0 j))).slots.getD (sp.toNatClampNeg + j) .null = .int (I a0 (sp.toNatClampNeg + j)) := by
        rw [Array.getD_eq_getD_getElem?, arrV_read _ _ (by omega)]
        rfl
      refine ⟨?_, ?_⟩
      · rw [e]; rfl
      · rw [e]; exact trivial)
    (g := F0 m pc cl ((.int n :: .int dp :: .ref a :: .int sp :: .ref a0 :: st).map (am_v g))) rfl (by rw [hF.2.2.1]; exact L.size) (rest := st.map (am_v g)) rfl (by rw [hF.2.1]; exact hdg) (by omega) (by
      have h1 := lv_room (m := m) (pc := pc) (ls := cl) (rest := st) (st := st.map (am_v g)) (by rw [am_cat]; exact hr)
      have h2 : 60 ≤ R.locals := by omega
      have h3 : nativeFrameWords "java/lang/System" "arraycopy" 5 + 11 ≤ 52 := by decide +kernel
      exact Nat.le_trans (Nat.add_le_add h1 h3) (by omega))
  have e1 : copied (arrV (g.2.2.1 0) n0 (fun j => Value.int (I a0 j))) (arrV (g.2.2.1 0) n1 (fun j => Value.int (I a j))) sp dp n = arrV (g.2.2.1 0) n1 (fun j => .int (va_cpy (I a0) (I a) sp.toNatClampNeg dp.toNatClampNeg n.toNatClampNeg j)) := va_copied (fun z => .int z) (g.2.2.1 0) (g.2.2.1 0) (I a0) (I a) h4
  rw [e1] at X' step
  have hl : am_ad g a < H.size := (Array.getElem?_eq_some_iff.mp hc1).1
  have hheap : ((T.setVm vm').setCell (am_ad g a) (arrV (g.2.2.1 0) n1 (fun j => .int (va_cpy (I a0) (I a) sp.toNatClampNeg dp.toNatClampNeg n.toNatClampNeg j)))).heap = H.setIfInBounds (am_ad g a) (arrV (g.2.2.1 0) n1 (fun j => .int (va_cpy (I a0) (I a) sp.toNatClampNeg dp.toNatClampNeg n.toNatClampNeg j))) := by rw [← hT]; rfl
  have oq : ∀ q : Nat, q ≠ am_ad g a → (H.setIfInBounds (am_ad g a) (arrV (g.2.2.1 0) n1 (fun j => Value.int (va_cpy (I a0) (I a) sp.toNatClampNeg dp.toNatClampNeg n.toNatClampNeg j))))[q]? = H[q]? := fun q hq => by simp [Array.getElem?_setIfInBounds, Ne.symm hq]
  obtain ⟨t, a1, b1⟩ := kk g p l e R s m args below meth c _ _ cells slots mc ms cl ⟨hF, hMm, hR, hB, hW, ⟨by simp; exact hS.1, fun q g1 g2 => by
      rw [oq q (fun e => g2 (by rw [e]; exact am_ina hH ha))]
      exact hS.2.1 q g1 g2, fun q hq => by
      rcases List.mem_append.mp hq with h | h
      · exact hS.2.2 q h
      · obtain ⟨z, -, hz⟩ := List.mem_map.mp h
        rw [← hz]
        exact am_ina hH ha⟩, by simp; exact hH.1, hH.2.1, fun q hq => by
      have hqB : q < am_B := Nat.lt_of_lt_of_le hq hH.2.1
      by_cases hqa : q = a
      · subst hqa
        unfold am_at
        rw [hk]
        show (H.setIfInBounds (am_ad g q) _)[am_ad g q]? = _
        simp [Array.getElem?_setIfInBounds, hl, va_up]
      · exact am_at.keep (oq _ (am_ad_ne hqB haB hqa)) rfl (fun _ => rfl) (fun j => by simp [va_up, hqa]) (hH.2.2 q hq)⟩ L _ hheap X'
  exact ⟨t, step t a1, b1⟩
/-! text constants: number i of them is am_B + i, its bytes are 2 am_B + i -/
theorem am_adK {g : am_G} {i : Nat} (h : i < 9) : am_ad g (am_B + i) = g.2.2.2.1 i := by
  unfold am_ad
  rw [if_neg (by omega), if_pos (by simp only [am_B]; omega), Nat.add_sub_cancel_left]
theorem am_adV {g : am_G} {i : Nat} : am_ad g (2 * am_B + i) = g.2.2.2.2 i := by
  unfold am_ad
  rw [if_neg (by simp only [am_B]; omega), if_neg (by omega), Nat.add_sub_cancel_left]
theorem rn_ldcS {i : Nat} (hi : i < 9) (hY : Y.2.1 = 5) (hdg : decode Y.2.2.1 pc = .ok (.ldc (am_six.getD i 0), 2)) (kk : am_Rn d Y b (pc + 2) ls (.ref (am_B + i) :: st) S I Q) : am_Rn d Y b pc ls st S I Q := by
  intro g p l e R s m args below meth c H locs cells slots mc ms cl C L
  obtain ⟨hF, hMm, hR, hB, hW, hS, hH⟩ := id C
  have h := kk g p l e R s m args below meth c H locs cells slots mc ms cl C L
  refine va_ldcS (own := RX5) hF.1 hF.2.1 (by have := hF.2.2.2.1; rw [hY] at this; exact this) (hW.2.2.1.2.1 i hi) hdg ?_
  rw [← am_adK (g := g) hi]
  exact h
theorem rn_strValue {i j : Nat} (hi : i < 9) (hdg : decode Y.2.2.1 pc = .ok (.getfield j, 3)) (hw : Cond.fieldLink (am_R Y.2.1) j "java/lang/String" "value" "[B" ∈ am_gw) (kk : am_Rn d Y b (pc + 3) ls (.ref (2 * am_B + i) :: st) S I Q) : am_Rn d Y b pc ls (.ref (am_B + i) :: st) S I Q := by
  intro g p l e R s m args below meth c H locs cells slots mc ms cl C L
  obtain ⟨hF, hMm, hR, hB, hW, hS, hH⟩ := id C
  have h := kk g p l e R s m args below meth c H locs cells slots mc ms cl C L
  have h2 : am_v g (.ref (2 * am_B + i)) = .ref (g.2.2.2.2 i) := by show Value.ref _ = _; rw [am_adV]
  have h1 : am_v g (.ref (am_B + i)) = .ref (g.2.2.2.1 i) := by show Value.ref _ = _; rw [am_adK hi]
  rw [List.map_cons, h2] at h
  rw [List.map_cons, h1]
  exact vk_getf hF.1 hF.2.1 (hW.2.2.1.1.1 i hi).2.2.1 hS hF.2.2.2.1 (hF.2.2.2.2 _ hw) (fun x h => h) hdg h
theorem rn_strCoder {i j : Nat} (hi : i < 9) (hdg : decode Y.2.2.1 pc = .ok (.getfield j, 3)) (hw : Cond.fieldLink (am_R Y.2.1) j "java/lang/String" "coder" "B" ∈ am_gw) (kk : am_Rn d Y b (pc + 3) ls (.int 0 :: st) S I Q) : am_Rn d Y b pc ls (.ref (am_B + i) :: st) S I Q := by
  intro g p l e R s m args below meth c H locs cells slots mc ms cl C L
  obtain ⟨hF, hMm, hR, hB, hW, hS, hH⟩ := id C
  have h := kk g p l e R s m args below meth c H locs cells slots mc ms cl C L
  have h1 : am_v g (.ref (am_B + i)) = .ref (g.2.2.2.1 i) := by show Value.ref _ = _; rw [am_adK hi]
  rw [List.map_cons, h1]
  exact vk_getf hF.1 hF.2.1 (hW.2.2.1.1.1 i hi).2.1 hS hF.2.2.2.1 (hF.2.2.2.2 _ hw) (fun x h => h) hdg h
theorem rn_strCompact {j : Nat} (hdg : decode Y.2.2.1 pc = .ok (.getstatic j, 3)) (hw : Cond.fieldLink (am_R Y.2.1) j "java/lang/String" "COMPACT_STRINGS" "Z" ∈ am_gw) (kk : am_Rn d Y b (pc + 3) ls (.int 1 :: st) S I Q) : am_Rn d Y b pc ls st S I Q := by
  intro g p l e R s m args below meth c H locs cells slots mc ms cl C L
  obtain ⟨hF, hMm, hR, hB, hW, hS, hH⟩ := id C
  exact va_gets hF.1 hF.2.1 hW.2.2.1.2.2.1 hS hF.2.2.2.1 (hF.2.2.2.2 _ hw) (fun x h => h) hdg (kk g p l e R s m args below meth c H locs cells slots mc ms cl C L)
theorem rn_strForm {j : Nat} (hdg : decode Y.2.2.1 pc = .ok (.getstatic j, 3)) (hw : Cond.fieldLink (am_R Y.2.1) j "jdk/internal/util/Preconditions" "SIOOBE_FORMATTER" "Ljava/util/function/BiFunction;" ∈ am_gw) (kk : am_Rn d Y b (pc + 3) ls (.ref (2 * am_B + 9) :: st) S I Q) : am_Rn d Y b pc ls st S I Q := by
  intro g p l e R s m args below meth c H locs cells slots mc ms cl C L
  obtain ⟨hF, hMm, hR, hB, hW, hS, hH⟩ := id C
  have h := kk g p l e R s m args below meth c H locs cells slots mc ms cl C L
  have h2 : am_v g (.ref (2 * am_B + 9)) = .ref (g.2.2.2.2 9) := by show Value.ref _ = _; rw [am_adV]
  rw [List.map_cons, h2] at h
  exact va_gets hF.1 hF.2.1 hW.2.2.1.2.2.2 hS hF.2.2.2.1 (hF.2.2.2.2 _ hw) (fun x h => h) hdg h
theorem rn_strAlen {i : Nat} (hi : i < 9) (hdg : decode Y.2.2.1 pc = .ok (.arraylength, 1)) (kk : am_Rn d Y b (pc + 1) ls (.int (nI (am_len.getD i 0)) :: st) S I Q) : am_Rn d Y b pc ls (.ref (2 * am_B + i) :: st) S I Q := by
  intro g p l e R s m args below meth c H locs cells slots mc ms cl C L
  obtain ⟨hF, hMm, hR, hB, hW, hS, hH⟩ := id C
  have h := kk g p l e R s m args below meth c H locs cells slots mc ms cl C L
  have h2 : am_v g (.ref (2 * am_B + i)) = .ref (g.2.2.2.2 i) := by show Value.ref _ = _; rw [am_adV]
  rw [List.map_cons, h2]
  exact va_tlen hF.1 hF.2.1 (hW.2.2.1.1.1 i hi).2.2.2 hS rfl hdg h
theorem rn_strByte {i : Nat} {x : Int32} (hi : i < 9) (hx : vp_in x (am_len.getD i 0)) (hdg : decode Y.2.2.1 pc = .ok (.baload, 1)) (kk : am_Rn d Y b (pc + 1) ls (.int ((am_byt.getD i []).getD x.toNatClampNeg 0) :: st) S I Q) : am_Rn d Y b pc ls (.int x :: .ref (2 * am_B + i) :: st) S I Q := by
  intro g p l e R s m args below meth c H locs cells slots mc ms cl C L
  obtain ⟨hF, hMm, hR, hB, hW, hS, hH⟩ := id C
  have h := kk g p l e R s m args below meth c H locs cells slots mc ms cl C L
  have h2 : am_v g (.ref (2 * am_B + i)) = .ref (g.2.2.2.2 i) := by show Value.ref _ = _; rw [am_adV]
  rw [List.map_cons, List.map_cons, h2]
  exact va_tb hF.1 hF.2.1 (hW.2.2.1.1.1 i hi).2.2.2 hS hx rfl hdg h
theorem rn_i2c {x v : Int32} (hdg : decode Y.2.2.1 pc = .ok (.i2c, 1)) (hv : (x.toUInt32 % 65536).toInt32 = v) (k : am_Rn d Y b (pc + 1) ls (.int v :: st) S I Q) : am_Rn d Y b pc ls (.int x :: st) S I Q := by
  intro g p l e R s m args below meth c H locs cells slots mc ms cl C L
  exact lv_i2c C.1.1 C.1.2.1 hdg hv (k g p l e R s m args below meth c H locs cells slots mc ms cl C L)
variable {Z : am_Y} {d' n i : Nat} {b' : Nat × Nat} {as stk : List Value} {Q' : Option Value → am_S → am_I → Prop}
def am_cT (o i : Nat) (Z : am_Y) (n : Nat) : Prop := am_cb Z n ∧ Cond.methodLink (am_R o) i Z.1 ∈ am_gw ∧ Cond.instanceMethod Z.1 ∈ am_gw ∧ Cond.selects "java/lang/String" Z.1 Z.1 ∈ am_gw
/-- a method of a text constant -/
theorem rn_callT {j : Nat} (hj : j < 9) (hdg : decode Y.2.2.1 pc = .ok (.invokevirtual i, 3)) (hc : am_cT Y.2.1 i Z n) (hM : am_Mt d' Z b' (.ref (am_B + j) :: as) S I Q') (hd : d' < d) (hb : b'.1 ≤ b.1 ∧ b'.2 ≤ b.2) (hn : as.length = n) (hs : as.reverse ++ .ref (am_B + j) :: st = stk) (hr : (st.map fun v => v.category).sum ≤ 8)
    (kk : ∀ r S' I', Q' r S' I' → am_Rn d Y (b.1 - b'.1, b.2 - b'.2) (pc + 3) ls (r.toList ++ st) S' I' Q) : am_Rn d Y b pc ls stk S I Q := by
  intro g p l e R s m args below meth c H locs cells slots mc ms cl C L
  obtain ⟨hF, hMm, hR, hB, hW, hS, hH⟩ := id C
  have cw := callB_of (R := R) (rm := am_rm d' b') (mc := b'.1) (ms := b'.2) n hF.2.2.2.2 (am_gin hc.1) rfl rfl rfl (hF.2.2.2.2 _ hc.1.2.1) (hF.2.2.2.2 _ hc.2.1) hc.1.2.2.1 ⟨by show d' + 1 ≤ _; omega, by have := hc.1.2.2.2; show 8 + (Z.2.2.2.2 + 11) + 60 * d' ≤ _; omega⟩
  refine am_after (va_runV (b := am_ad g (am_B + j)) (C := "java/lang/String") (As := as.map (am_v g)) (rest := st.map (am_v g)) hF (hM g l) ⟨cw, hF.2.2.2.2 _ hc.2.2.1, hF.2.2.2.2 _ hc.2.2.2⟩ ⟨am_Pc.blind g (.ref (am_B + j) :: as) S I, by rw [am_adK hj]; exact vk_recv hW.2.2.1.1 hj hS, am_pre (as := .ref (am_B + j) :: as) hW hS hH⟩ rfl (by simpa using hn) L.size (by rw [← hs]; simp [am_v]) (lv_room (by rw [am_cat]; exact hr)) hdg ⟨by omega, by omega⟩) hS (fun r S' I' H1 locs1 hq hH1 hS1 => ?_)
  have := kk r S' I' hq g p l e R s m args below meth c H1 locs1 (cells + b'.1) (slots + b'.2) mc ms cl ⟨hF, hMm, hR, ⟨by dsimp only; omega, by dsimp only; omega⟩, hW, hS1, hH1⟩ L
  cases r <;> exact this
end AME
end
section
abbrev Y_X7_init : am_Y := (yX7_init, 7, cX7_init, none, 3)
abbrev Y_X0_init : am_Y := (yX0_init, 0, cX0_init, none, 1)
abbrev Y_J9_max_7cf53 : am_Y := (yJ9_max_7cf53, 14, cJ9_max_7cf53, some .int, 2)
abbrev Y_J9_min_7cf53 : am_Y := (yJ9_min_7cf53, 14, cJ9_min_7cf53, some .int, 2)
abbrev Y_X0_clear : am_Y := (yX0_clear, 0, cX0_clear, none, 3)
abbrev Y_X7_isDots : am_Y := (yX7_isDots, 7, cX7_isDots, some .boolean, 1)
abbrev Y_J7_fill_53178 : am_Y := (yJ7_fill_53178, 10, cJ7_fill_53178, none, 4)
abbrev Y_X2_init : am_Y := (yX2_init, 2, cX2_init, none, 1)
abbrev Y_X1_init : am_Y := (yX1_init, 1, cX1_init, none, 1)
abbrev Y_X3_init : am_Y := (yX3_init, 3, cX3_init, none, 1)
abbrev Y_X4_init : am_Y := (yX4_init, 4, cX4_init, none, 4)
abbrev Y_X5_init : am_Y := (yX5_init, 5, cX5_init, none, 2)
abbrev Y_X6_init : am_Y := (yX6_init, 6, cX6_init, none, 2)
abbrev Y_X7_set : am_Y := (yX7_set, 7, cX7_set, some .boolean, 4)
abbrev Y_X0_isInner : am_Y := (yX0_isInner, 0, cX0_isInner, some .boolean, 3)
abbrev Y_X0_put : am_Y := (yX0_put, 0, cX0_put, none, 4)
abbrev Y_X7_placeOf : am_Y := (yX7_placeOf, 7, cX7_placeOf, some .int, 2)
abbrev Y_X7_forgetLines : am_Y := (yX7_forgetLines, 7, cX7_forgetLines, none, 1)
abbrev Y_X7_mirror : am_Y := (yX7_mirror, 7, cX7_mirror, some .int, 3)
abbrev Y_X0_mirrorAt : am_Y := (yX0_mirrorAt, 0, cX0_mirrorAt, some .int, 3)
abbrev Y_X7_pin : am_Y := (yX7_pin, 7, cX7_pin, some .boolean, 4)
abbrev Y_X7_lines : am_Y := (yX7_lines, 7, cX7_lines, some .int, 1)
abbrev Y_X7_knowLines : am_Y := (yX7_knowLines, 7, cX7_knowLines, none, 1)
abbrev Y_X2_findAll : am_Y := (yX2_findAll, 2, cX2_findAll, none, 4)
abbrev Y_X2_lineThrough : am_Y := (yX2_lineThrough, 2, cX2_lineThrough, some .int, 2)
abbrev Y_X2_follow : am_Y := (yX2_follow, 2, cX2_follow, none, 15)
abbrev Y_X0_isSquare : am_Y := (yX0_isSquare, 0, cX0_isSquare, some .boolean, 2)
abbrev Y_X0_squareCount : am_Y := (yX0_squareCount, 0, cX0_squareCount, some .int, 1)
abbrev Y_X7_lineOf : am_Y := (yX7_lineOf, 7, cX7_lineOf, some .int, 2)
abbrev Y_X7_line : am_Y := (yX7_line, 7, cX7_line, some .int, 3)
abbrev Y_X2_isLine : am_Y := (yX2_isLine, 2, cX2_isLine, some .boolean, 2)
abbrev Y_X2_lengthOf : am_Y := (yX2_lengthOf, 2, cX2_lengthOf, some .int, 2)
abbrev Y_X2_squareOf : am_Y := (yX2_squareOf, 2, cX2_squareOf, some .int, 3)
abbrev Y_X7_dotsHeld : am_Y := (yX7_dotsHeld, 7, cX7_dotsHeld, some .int, 6)
abbrev Y_X7_squaresRound : am_Y := (yX7_squaresRound, 7, cX7_squaresRound, some .int, 7)
abbrev Y_X7_pointsMetTwice : am_Y := (yX7_pointsMetTwice, 7, cX7_pointsMetTwice, some .int, 5)
abbrev Y_X7_walk : am_Y := (yX7_walk, 7, cX7_walk, some .int, 3)
abbrev Y_X7_holds : am_Y := (yX7_holds, 7, cX7_holds, some .int, 4)
abbrev Y_X7_colour : am_Y := (yX7_colour, 7, cX7_colour, some .int, 2)
abbrev Y_X2_placeInWalk : am_Y := (yX2_placeInWalk, 2, cX2_placeInWalk, some .int, 2)
abbrev Y_X7_coloured : am_Y := (yX7_coloured, 7, cX7_coloured, some .int, 10)
abbrev Y_X7_joined : am_Y := (yX7_joined, 7, cX7_joined, some .int, 2)
abbrev Y_X7_knowJoin : am_Y := (yX7_knowJoin, 7, cX7_knowJoin, none, 1)
abbrev Y_X1_choose : am_Y := (yX1_choose, 1, cX1_choose, none, 6)
abbrev Y_X1_tryPoint : am_Y := (yX1_tryPoint, 1, cX1_tryPoint, none, 12)
abbrev Y_X1_unite : am_Y := (yX1_unite, 1, cX1_unite, none, 4)
abbrev Y_X7_change : am_Y := (yX7_change, 7, cX7_change, some .int, 5)
abbrev Y_X1_columnOf : am_Y := (yX1_columnOf, 1, cX1_columnOf, some .int, 2)
abbrev Y_X1_rowOf : am_Y := (yX1_rowOf, 1, cX1_rowOf, some .int, 2)
abbrev Y_X7_lowerOther : am_Y := (yX7_lowerOther, 7, cX7_lowerOther, some .int, 1)
abbrev Y_X7_join : am_Y := (yX7_join, 7, cX7_join, some .int, 5)
abbrev Y_X7_feed : am_Y := (yX7_feed, 7, cX7_feed, some .int, 6)
abbrev Y_X3_add : am_Y := (yX3_add, 3, cX3_add, none, 3)
abbrev Y_X7_end : am_Y := (yX7_end, 7, cX7_end, some .int, 2)
abbrev Y_X7_draw : am_Y := (yX7_draw, 7, cX7_draw, some .int, 2)
abbrev Y_X4_readInto : am_Y := (yX4_readInto, 4, cX4_readInto, some .boolean, 2)
abbrev Y_X3_beginReading : am_Y := (yX3_beginReading, 3, cX3_beginReading, none, 1)
abbrev Y_X5_rewind : am_Y := (yX5_rewind, 5, cX5_rewind, none, 1)
abbrev Y_X4_readOne : am_Y := (yX4_readOne, 4, cX4_readOne, some .boolean, 5)
abbrev Y_X5_advance : am_Y := (yX5_advance, 5, cX5_advance, none, 1)
abbrev Y_X3_byteAt : am_Y := (yX3_byteAt, 3, cX3_byteAt, some .int, 2)
abbrev Y_X5_isBlank : am_Y := (yX5_isBlank, 5, cX5_isBlank, some .boolean, 1)
abbrev Y_X5_isDigit : am_Y := (yX5_isDigit, 5, cX5_isDigit, some .boolean, 1)
abbrev Y_X5_takeNumber : am_Y := (yX5_takeNumber, 5, cX5_takeNumber, none, 1)
abbrev Y_X5_isLetter : am_Y := (yX5_isLetter, 5, cX5_isLetter, some .boolean, 1)
abbrev Y_X5_wordFound : am_Y := (yX5_wordFound, 5, cX5_wordFound, some .int, 1)
abbrev Y_X5_spells : am_Y := (yX5_spells, 5, cX5_spells, some .boolean, 3)
abbrev Y_J0_length_8abf5 : am_Y := (yJ0_length_8abf5, 11, cJ0_length_8abf5, some .int, 1)
abbrev Y_J0_coder_7d493 : am_Y := (yJ0_coder_7d493, 11, cJ0_coder_7d493, some .byte, 1)
abbrev Y_J0_charAt_5068e : am_Y := (yJ0_charAt_5068e, 11, cJ0_charAt_5068e, some .char, 2)
abbrev Y_J0_isLatin1_aae02 : am_Y := (yJ0_isLatin1_aae02, 11, cJ0_isLatin1_aae02, some .boolean, 1)
abbrev Y_J1_charAt_3b067 : am_Y := (yJ1_charAt_3b067, 12, cJ1_charAt_3b067, some .char, 2)
abbrev Y_J0_checkIndex_df160 : am_Y := (yJ0_checkIndex_df160, 11, cJ0_checkIndex_df160, none, 2)
abbrev Y_J3_checkIndex_8e157 : am_Y := (yJ3_checkIndex_8e157, 13, cJ3_checkIndex_8e157, some .int, 3)
abbrev Y_X3_fail : am_Y := (yX3_fail, 3, cX3_fail, some .boolean, 3)
abbrev Y_X4_readPlain : am_Y := (yX4_readPlain, 4, cX4_readPlain, some .boolean, 4)
abbrev Y_X4_readNumber : am_Y := (yX4_readNumber, 4, cX4_readNumber, some .int, 4)
abbrev Y_X4_readKept : am_Y := (yX4_readKept, 4, cX4_readKept, some .boolean, 4)
abbrev Y_X0_copy : am_Y := (yX0_copy, 0, cX0_copy, none, 2)
abbrev Y_X4_readSet : am_Y := (yX4_readSet, 4, cX4_readSet, some .boolean, 7)
abbrev Y_X4_readRow : am_Y := (yX4_readRow, 4, cX4_readRow, some .boolean, 6)
abbrev Y_X0_growBeside : am_Y := (yX0_growBeside, 0, cX0_growBeside, some .boolean, 3)
abbrev Y_X0_layMirrors : am_Y := (yX0_layMirrors, 0, cX0_layMirrors, none, 7)
abbrev Y_X4_readTurned : am_Y := (yX4_readTurned, 4, cX4_readTurned, some .boolean, 4)
abbrev Y_X0_takeTurned : am_Y := (yX0_takeTurned, 0, cX0_takeTurned, none, 11)
abbrev Y_X0_turnedColumn : am_Y := (yX0_turnedColumn, 0, cX0_turnedColumn, some .int, 4)
abbrev Y_X0_turnedRow : am_Y := (yX0_turnedRow, 0, cX0_turnedRow, some .int, 4)
abbrev Y_X4_readPair : am_Y := (yX4_readPair, 4, cX4_readPair, some .boolean, 8)
abbrev Y_X0_growBelow : am_Y := (yX0_growBelow, 0, cX0_growBelow, some .boolean, 3)
abbrev Y_X0_coverWith : am_Y := (yX0_coverWith, 0, cX0_coverWith, some .boolean, 2)
abbrev Y_X7_takeSpare : am_Y := (yX7_takeSpare, 7, cX7_takeSpare, none, 1)
abbrev Y_X7_back : am_Y := (yX7_back, 7, cX7_back, some .int, 6)
abbrev Y_X0_isPoint : am_Y := (yX0_isPoint, 0, cX0_isPoint, some .boolean, 3)
abbrev Y_X6_readInto : am_Y := (yX6_readInto, 6, cX6_readInto, some .boolean, 11)
abbrev Y_X6_rightOf : am_Y := (yX6_rightOf, 6, cX6_rightOf, some .int, 1)
abbrev Y_X6_downOf : am_Y := (yX6_downOf, 6, cX6_downOf, some .int, 1)
abbrev Y_X6_tellPoint : am_Y := (yX6_tellPoint, 6, cX6_tellPoint, none, 7)
abbrev Y_X7_fault : am_Y := (yX7_fault, 7, cX7_fault, some .int, 2)
abbrev Y_X7_keep : am_Y := (yX7_keep, 7, cX7_keep, some .boolean, 2)
abbrev Y_X7_like : am_Y := (yX7_like, 7, cX7_like, some .int, 5)
abbrev Y_X0_isSameAs : am_Y := (yX0_isSameAs, 0, cX0_isSameAs, some .boolean, 3)
abbrev Y_X7_waysFrom : am_Y := (yX7_waysFrom, 7, cX7_waysFrom, some .int, 4)
abbrev Y_X7_alike : am_Y := (yX7_alike, 7, cX7_alike, some .int, 1)
abbrev Y_X7_about : am_Y := (yX7_about, 7, cX7_about, some .int, 2)
abbrev Y_X0_countOf : am_Y := (yX0_countOf, 0, cX0_countOf, some .int, 7)
abbrev Y_X7_pinCount : am_Y := (yX7_pinCount, 7, cX7_pinCount, some .int, 6)
abbrev Y_X7_shelvesUsed : am_Y := (yX7_shelvesUsed, 7, cX7_shelvesUsed, some .int, 6)
abbrev Y_L_cell : am_Y := (yL_cell, 9, cL_cell, some .int, 2)
abbrev Y_X8_init : am_Y := (yX8_init, 8, cX8_init, none, 3)
abbrev Y_X8_set : am_Y := (yX8_set, 8, cX8_set, some .boolean, 4)
abbrev Y_X8_isInner : am_Y := (yX8_isInner, 8, cX8_isInner, some .boolean, 4)
abbrev Y_X8_isIn : am_Y := (yX8_isIn, 8, cX8_isIn, some .boolean, 3)
abbrev Y_X8_cell : am_Y := (yX8_cell, 8, cX8_cell, some .int, 3)
abbrev Y_X8_mirror : am_Y := (yX8_mirror, 8, cX8_mirror, some .int, 3)
abbrev Y_X8_pin : am_Y := (yX8_pin, 8, cX8_pin, some .boolean, 4)
abbrev Y_X8_lines : am_Y := (yX8_lines, 8, cX8_lines, some .int, 1)
abbrev Y_X8_walkAll : am_Y := (yX8_walkAll, 8, cX8_walkAll, none, 4)
abbrev Y_X8_squares : am_Y := (yX8_squares, 8, cX8_squares, some .int, 1)
abbrev Y_X8_walkOne : am_Y := (yX8_walkOne, 8, cX8_walkOne, some .int, 14)
abbrev Y_X8_lineOf : am_Y := (yX8_lineOf, 8, cX8_lineOf, some .int, 2)
abbrev Y_X8_isSquare : am_Y := (yX8_isSquare, 8, cX8_isSquare, some .boolean, 2)
abbrev Y_X8_line : am_Y := (yX8_line, 8, cX8_line, some .int, 6)
abbrev Y_X8_held : am_Y := (yX8_held, 8, cX8_held, some .int, 6)
abbrev Y_X8_strand : am_Y := (yX8_strand, 8, cX8_strand, some .int, 7)
abbrev Y_X8_walk : am_Y := (yX8_walk, 8, cX8_walk, some .int, 3)
abbrev Y_X8_holds : am_Y := (yX8_holds, 8, cX8_holds, some .int, 4)
abbrev Y_X8_colour : am_Y := (yX8_colour, 8, cX8_colour, some .int, 2)
abbrev Y_X8_coloured : am_Y := (yX8_coloured, 8, cX8_coloured, some .int, 6)
abbrev Y_X8_joined : am_Y := (yX8_joined, 8, cX8_joined, some .int, 2)
abbrev Y_X8_find : am_Y := (yX8_find, 8, cX8_find, none, 5)
abbrev Y_X8_rootOf : am_Y := (yX8_rootOf, 8, cX8_rootOf, some .int, 3)
abbrev Y_X8_change : am_Y := (yX8_change, 8, cX8_change, some .int, 4)
abbrev Y_X8_other : am_Y := (yX8_other, 8, cX8_other, some .int, 2)
abbrev Y_X8_join : am_Y := (yX8_join, 8, cX8_join, some .int, 2)
abbrev Y_X8_feed : am_Y := (yX8_feed, 8, cX8_feed, some .int, 6)
abbrev Y_X8_four : am_Y := (yX8_four, 8, cX8_four, none, 3)
abbrev Y_X8_end : am_Y := (yX8_end, 8, cX8_end, some .int, 2)
abbrev Y_X8_draw : am_Y := (yX8_draw, 8, cX8_draw, some .int, 1)
abbrev Y_X8_read : am_Y := (yX8_read, 8, cX8_read, some .int, 2)
abbrev Y_X8_nextToken : am_Y := (yX8_nextToken, 8, cX8_nextToken, none, 4)
abbrev Y_X8_see : am_Y := (yX8_see, 8, cX8_see, some .int, 2)
abbrev Y_X8_isDigit : am_Y := (yX8_isDigit, 8, cX8_isDigit, some .boolean, 1)
abbrev Y_X8_wordOf : am_Y := (yX8_wordOf, 8, cX8_wordOf, some .int, 2)
abbrev Y_X8_add : am_Y := (yX8_add, 8, cX8_add, some .long, 4)
abbrev Y_X8_begin : am_Y := (yX8_begin, 8, cX8_begin, some .int, 6)
abbrev Y_X8_take : am_Y := (yX8_take, 8, cX8_take, some .int, 3)
abbrev Y_X8_takeLast : am_Y := (yX8_takeLast, 8, cX8_takeLast, some .int, 3)
abbrev Y_X8_plain : am_Y := (yX8_plain, 8, cX8_plain, none, 5)
abbrev Y_X8_copy : am_Y := (yX8_copy, 8, cX8_copy, none, 4)
abbrev Y_X8_close : am_Y := (yX8_close, 8, cX8_close, some .int, 3)
abbrev Y_X8_isDone : am_Y := (yX8_isDone, 8, cX8_isDone, some .boolean, 5)
abbrev Y_X8_turn : am_Y := (yX8_turn, 8, cX8_turn, none, 5)
abbrev Y_X8_flip : am_Y := (yX8_flip, 8, cX8_flip, none, 4)
abbrev Y_X8_isRow : am_Y := (yX8_isRow, 8, cX8_isRow, some .boolean, 3)
abbrev Y_X8_lay : am_Y := (yX8_lay, 8, cX8_lay, none, 7)
abbrev Y_X8_isPut : am_Y := (yX8_isPut, 8, cX8_isPut, some .boolean, 6)
abbrev Y_X8_isTold : am_Y := (yX8_isTold, 8, cX8_isTold, some .boolean, 3)
abbrev Y_X8_fault : am_Y := (yX8_fault, 8, cX8_fault, some .int, 2)
abbrev Y_X8_back : am_Y := (yX8_back, 8, cX8_back, some .int, 6)
abbrev Y_X8_walkBack : am_Y := (yX8_walkBack, 8, cX8_walkBack, some .int, 10)
abbrev Y_X8_dxOf : am_Y := (yX8_dxOf, 8, cX8_dxOf, some .int, 1)
abbrev Y_X8_dyOf : am_Y := (yX8_dyOf, 8, cX8_dyOf, some .int, 1)
abbrev Y_X8_bend : am_Y := (yX8_bend, 8, cX8_bend, none, 6)
abbrev Y_X8_keep : am_Y := (yX8_keep, 8, cX8_keep, some .boolean, 2)
abbrev Y_X8_like : am_Y := (yX8_like, 8, cX8_like, some .int, 3)
abbrev Y_X8_isSame : am_Y := (yX8_isSame, 8, cX8_isSame, some .boolean, 4)
abbrev Y_X8_ways : am_Y := (yX8_ways, 8, cX8_ways, some .int, 4)
abbrev Y_X8_alike : am_Y := (yX8_alike, 8, cX8_alike, some .int, 1)
abbrev Y_X8_about : am_Y := (yX8_about, 8, cX8_about, some .int, 6)
-- the callees
theorem cb_X7_init : am_cb Y_X7_init 2 := ⟨am_gwm (List.mem_of_getElem? (i := 77) (by decide +kernel)) (by decide +kernel), am_gwm (List.mem_of_getElem? (i := 57) (by decide +kernel)) (by decide +kernel), ⟨by decide +kernel, by decide +kernel, by decide +kernel⟩, by decide⟩
theorem cb_X0_init : am_cb Y_X0_init 0 := ⟨am_gwm (List.mem_of_getElem? (i := 85) (by decide +kernel)) (by decide +kernel), am_gwm (List.mem_of_getElem? (i := 58) (by decide +kernel)) (by decide +kernel), ⟨by decide +kernel, by decide +kernel, by decide +kernel⟩, by decide⟩
theorem cb_J9_max_7cf53 : am_cb Y_J9_max_7cf53 2 := ⟨am_gwm (List.mem_of_getElem? (i := 107) (by decide +kernel)) (by decide +kernel), am_gwm (List.mem_of_getElem? (i := 59) (by decide +kernel)) (by decide +kernel), ⟨by decide +kernel, by decide +kernel, by decide +kernel⟩, by decide⟩
theorem cb_J9_min_7cf53 : am_cb Y_J9_min_7cf53 2 := ⟨am_gwm (List.mem_of_getElem? (i := 110) (by decide +kernel)) (by decide +kernel), am_gwm (List.mem_of_getElem? (i := 59) (by decide +kernel)) (by decide +kernel), ⟨by decide +kernel, by decide +kernel, by decide +kernel⟩, by decide⟩
theorem cb_X0_clear : am_cb Y_X0_clear 2 := ⟨am_gwm (List.mem_of_getElem? (i := 114) (by decide +kernel)) (by decide +kernel), am_gwm (List.mem_of_getElem? (i := 58) (by decide +kernel)) (by decide +kernel), ⟨by decide +kernel, by decide +kernel, by decide +kernel⟩, by decide⟩
theorem cb_X7_isDots : am_cb Y_X7_isDots 1 := ⟨am_gwm (List.mem_of_getElem? (i := 117) (by decide +kernel)) (by decide +kernel), am_gwm (List.mem_of_getElem? (i := 57) (by decide +kernel)) (by decide +kernel), ⟨by decide +kernel, by decide +kernel, by decide +kernel⟩, by decide⟩
theorem cb_J7_fill_53178 : am_cb Y_J7_fill_53178 2 := ⟨am_gwm (List.mem_of_getElem? (i := 120) (by decide +kernel)) (by decide +kernel), am_gwm (List.mem_of_getElem? (i := 60) (by decide +kernel)) (by decide +kernel), ⟨by decide +kernel, by decide +kernel, by decide +kernel⟩, by decide⟩
theorem cb_X2_init : am_cb Y_X2_init 0 := ⟨am_gwm (List.mem_of_getElem? (i := 126) (by decide +kernel)) (by decide +kernel), am_gwm (List.mem_of_getElem? (i := 61) (by decide +kernel)) (by decide +kernel), ⟨by decide +kernel, by decide +kernel, by decide +kernel⟩, by decide⟩
theorem cb_X1_init : am_cb Y_X1_init 0 := ⟨am_gwm (List.mem_of_getElem? (i := 149) (by decide +kernel)) (by decide +kernel), am_gwm (List.mem_of_getElem? (i := 62) (by decide +kernel)) (by decide +kernel), ⟨by decide +kernel, by decide +kernel, by decide +kernel⟩, by decide⟩
theorem cb_X3_init : am_cb Y_X3_init 0 := ⟨am_gwm (List.mem_of_getElem? (i := 169) (by decide +kernel)) (by decide +kernel), am_gwm (List.mem_of_getElem? (i := 63) (by decide +kernel)) (by decide +kernel), ⟨by decide +kernel, by decide +kernel, by decide +kernel⟩, by decide⟩
theorem cb_X4_init : am_cb Y_X4_init 2 := ⟨am_gwm (List.mem_of_getElem? (i := 197) (by decide +kernel)) (by decide +kernel), am_gwm (List.mem_of_getElem? (i := 64) (by decide +kernel)) (by decide +kernel), ⟨by decide +kernel, by decide +kernel, by decide +kernel⟩, by decide⟩
theorem cb_X5_init : am_cb Y_X5_init 1 := ⟨am_gwm (List.mem_of_getElem? (i := 203) (by decide +kernel)) (by decide +kernel), am_gwm (List.mem_of_getElem? (i := 65) (by decide +kernel)) (by decide +kernel), ⟨by decide +kernel, by decide +kernel, by decide +kernel⟩, by decide⟩
theorem cb_X6_init : am_cb Y_X6_init 1 := ⟨am_gwm (List.mem_of_getElem? (i := 246) (by decide +kernel)) (by decide +kernel), am_gwm (List.mem_of_getElem? (i := 66) (by decide +kernel)) (by decide +kernel), ⟨by decide +kernel, by decide +kernel, by decide +kernel⟩, by decide⟩
theorem cb_X7_set : am_cb Y_X7_set 3 := ⟨am_gwm (List.mem_of_getElem? (i := 305) (by decide +kernel)) (by decide +kernel), am_gwm (List.mem_of_getElem? (i := 57) (by decide +kernel)) (by decide +kernel), ⟨by decide +kernel, by decide +kernel, by decide +kernel⟩, by decide⟩
theorem cb_X0_isInner : am_cb Y_X0_isInner 2 := ⟨am_gwm (List.mem_of_getElem? (i := 309) (by decide +kernel)) (by decide +kernel), am_gwm (List.mem_of_getElem? (i := 58) (by decide +kernel)) (by decide +kernel), ⟨by decide +kernel, by decide +kernel, by decide +kernel⟩, by decide⟩
theorem cb_X0_put : am_cb Y_X0_put 3 := ⟨am_gwm (List.mem_of_getElem? (i := 313) (by decide +kernel)) (by decide +kernel), am_gwm (List.mem_of_getElem? (i := 58) (by decide +kernel)) (by decide +kernel), ⟨by decide +kernel, by decide +kernel, by decide +kernel⟩, by decide⟩
theorem cb_X7_placeOf : am_cb Y_X7_placeOf 2 := ⟨am_gwm (List.mem_of_getElem? (i := 317) (by decide +kernel)) (by decide +kernel), am_gwm (List.mem_of_getElem? (i := 57) (by decide +kernel)) (by decide +kernel), ⟨by decide +kernel, by decide +kernel, by decide +kernel⟩, by decide⟩
theorem cb_X7_forgetLines : am_cb Y_X7_forgetLines 0 := ⟨am_gwm (List.mem_of_getElem? (i := 321) (by decide +kernel)) (by decide +kernel), am_gwm (List.mem_of_getElem? (i := 57) (by decide +kernel)) (by decide +kernel), ⟨by decide +kernel, by decide +kernel, by decide +kernel⟩, by decide⟩
theorem cb_X7_mirror : am_cb Y_X7_mirror 2 := ⟨am_gwm (List.mem_of_getElem? (i := 325) (by decide +kernel)) (by decide +kernel), am_gwm (List.mem_of_getElem? (i := 57) (by decide +kernel)) (by decide +kernel), ⟨by decide +kernel, by decide +kernel, by decide +kernel⟩, by decide⟩
theorem cb_X0_mirrorAt : am_cb Y_X0_mirrorAt 2 := ⟨am_gwm (List.mem_of_getElem? (i := 329) (by decide +kernel)) (by decide +kernel), am_gwm (List.mem_of_getElem? (i := 58) (by decide +kernel)) (by decide +kernel), ⟨by decide +kernel, by decide +kernel, by decide +kernel⟩, by decide⟩
theorem cb_X7_pin : am_cb Y_X7_pin 3 := ⟨am_gwm (List.mem_of_getElem? (i := 333) (by decide +kernel)) (by decide +kernel), am_gwm (List.mem_of_getElem? (i := 57) (by decide +kernel)) (by decide +kernel), ⟨by decide +kernel, by decide +kernel, by decide +kernel⟩, by decide⟩
theorem cb_X7_lines : am_cb Y_X7_lines 0 := ⟨am_gwm (List.mem_of_getElem? (i := 338) (by decide +kernel)) (by decide +kernel), am_gwm (List.mem_of_getElem? (i := 57) (by decide +kernel)) (by decide +kernel), ⟨by decide +kernel, by decide +kernel, by decide +kernel⟩, by decide⟩
theorem cb_X7_knowLines : am_cb Y_X7_knowLines 0 := ⟨am_gwm (List.mem_of_getElem? (i := 342) (by decide +kernel)) (by decide +kernel), am_gwm (List.mem_of_getElem? (i := 57) (by decide +kernel)) (by decide +kernel), ⟨by decide +kernel, by decide +kernel, by decide +kernel⟩, by decide⟩
theorem cb_X2_findAll : am_cb Y_X2_findAll 1 := ⟨am_gwm (List.mem_of_getElem? (i := 346) (by decide +kernel)) (by decide +kernel), am_gwm (List.mem_of_getElem? (i := 61) (by decide +kernel)) (by decide +kernel), ⟨by decide +kernel, by decide +kernel, by decide +kernel⟩, by decide⟩
theorem cb_X2_lineThrough : am_cb Y_X2_lineThrough 1 := ⟨am_gwm (List.mem_of_getElem? (i := 351) (by decide +kernel)) (by decide +kernel), am_gwm (List.mem_of_getElem? (i := 61) (by decide +kernel)) (by decide +kernel), ⟨by decide +kernel, by decide +kernel, by decide +kernel⟩, by decide⟩
theorem cb_X2_follow : am_cb Y_X2_follow 3 := ⟨am_gwm (List.mem_of_getElem? (i := 355) (by decide +kernel)) (by decide +kernel), am_gwm (List.mem_of_getElem? (i := 61) (by decide +kernel)) (by decide +kernel), ⟨by decide +kernel, by decide +kernel, by decide +kernel⟩, by decide⟩
theorem cb_X0_isSquare : am_cb Y_X0_isSquare 1 := ⟨am_gwm (List.mem_of_getElem? (i := 359) (by decide +kernel)) (by decide +kernel), am_gwm (List.mem_of_getElem? (i := 58) (by decide +kernel)) (by decide +kernel), ⟨by decide +kernel, by decide +kernel, by decide +kernel⟩, by decide⟩
theorem cb_X0_squareCount : am_cb Y_X0_squareCount 0 := ⟨am_gwm (List.mem_of_getElem? (i := 363) (by decide +kernel)) (by decide +kernel), am_gwm (List.mem_of_getElem? (i := 58) (by decide +kernel)) (by decide +kernel), ⟨by decide +kernel, by decide +kernel, by decide +kernel⟩, by decide⟩
theorem cb_X7_lineOf : am_cb Y_X7_lineOf 1 := ⟨am_gwm (List.mem_of_getElem? (i := 368) (by decide +kernel)) (by decide +kernel), am_gwm (List.mem_of_getElem? (i := 57) (by decide +kernel)) (by decide +kernel), ⟨by decide +kernel, by decide +kernel, by decide +kernel⟩, by decide⟩
theorem cb_X7_line : am_cb Y_X7_line 2 := ⟨am_gwm (List.mem_of_getElem? (i := 374) (by decide +kernel)) (by decide +kernel), am_gwm (List.mem_of_getElem? (i := 57) (by decide +kernel)) (by decide +kernel), ⟨by decide +kernel, by decide +kernel, by decide +kernel⟩, by decide⟩
theorem cb_X2_isLine : am_cb Y_X2_isLine 1 := ⟨am_gwm (List.mem_of_getElem? (i := 378) (by decide +kernel)) (by decide +kernel), am_gwm (List.mem_of_getElem? (i := 61) (by decide +kernel)) (by decide +kernel), ⟨by decide +kernel, by decide +kernel, by decide +kernel⟩, by decide⟩
theorem cb_X2_lengthOf : am_cb Y_X2_lengthOf 1 := ⟨am_gwm (List.mem_of_getElem? (i := 382) (by decide +kernel)) (by decide +kernel), am_gwm (List.mem_of_getElem? (i := 61) (by decide +kernel)) (by decide +kernel), ⟨by decide +kernel, by decide +kernel, by decide +kernel⟩, by decide⟩
theorem cb_X2_squareOf : am_cb Y_X2_squareOf 2 := ⟨am_gwm (List.mem_of_getElem? (i := 387) (by decide +kernel)) (by decide +kernel), am_gwm (List.mem_of_getElem? (i := 61) (by decide +kernel)) (by decide +kernel), ⟨by decide +kernel, by decide +kernel, by decide +kernel⟩, by decide⟩
theorem cb_X7_dotsHeld : am_cb Y_X7_dotsHeld 2 := ⟨am_gwm (List.mem_of_getElem? (i := 392) (by decide +kernel)) (by decide +kernel), am_gwm (List.mem_of_getElem? (i := 57) (by decide +kernel)) (by decide +kernel), ⟨by decide +kernel, by decide +kernel, by decide +kernel⟩, by decide⟩
theorem cb_X7_squaresRound : am_cb Y_X7_squaresRound 3 := ⟨am_gwm (List.mem_of_getElem? (i := 396) (by decide +kernel)) (by decide +kernel), am_gwm (List.mem_of_getElem? (i := 57) (by decide +kernel)) (by decide +kernel), ⟨by decide +kernel, by decide +kernel, by decide +kernel⟩, by decide⟩
theorem cb_X7_pointsMetTwice : am_cb Y_X7_pointsMetTwice 1 := ⟨am_gwm (List.mem_of_getElem? (i := 400) (by decide +kernel)) (by decide +kernel), am_gwm (List.mem_of_getElem? (i := 57) (by decide +kernel)) (by decide +kernel), ⟨by decide +kernel, by decide +kernel, by decide +kernel⟩, by decide⟩
theorem cb_X7_walk : am_cb Y_X7_walk 2 := ⟨am_gwm (List.mem_of_getElem? (i := 404) (by decide +kernel)) (by decide +kernel), am_gwm (List.mem_of_getElem? (i := 57) (by decide +kernel)) (by decide +kernel), ⟨by decide +kernel, by decide +kernel, by decide +kernel⟩, by decide⟩
theorem cb_X7_holds : am_cb Y_X7_holds 3 := ⟨am_gwm (List.mem_of_getElem? (i := 408) (by decide +kernel)) (by decide +kernel), am_gwm (List.mem_of_getElem? (i := 57) (by decide +kernel)) (by decide +kernel), ⟨by decide +kernel, by decide +kernel, by decide +kernel⟩, by decide⟩
theorem cb_X7_colour : am_cb Y_X7_colour 1 := ⟨am_gwm (List.mem_of_getElem? (i := 412) (by decide +kernel)) (by decide +kernel), am_gwm (List.mem_of_getElem? (i := 57) (by decide +kernel)) (by decide +kernel), ⟨by decide +kernel, by decide +kernel, by decide +kernel⟩, by decide⟩
theorem cb_X2_placeInWalk : am_cb Y_X2_placeInWalk 1 := ⟨am_gwm (List.mem_of_getElem? (i := 416) (by decide +kernel)) (by decide +kernel), am_gwm (List.mem_of_getElem? (i := 61) (by decide +kernel)) (by decide +kernel), ⟨by decide +kernel, by decide +kernel, by decide +kernel⟩, by decide⟩
theorem cb_X7_coloured : am_cb Y_X7_coloured 2 := ⟨am_gwm (List.mem_of_getElem? (i := 420) (by decide +kernel)) (by decide +kernel), am_gwm (List.mem_of_getElem? (i := 57) (by decide +kernel)) (by decide +kernel), ⟨by decide +kernel, by decide +kernel, by decide +kernel⟩, by decide⟩
theorem cb_X7_joined : am_cb Y_X7_joined 1 := ⟨am_gwm (List.mem_of_getElem? (i := 424) (by decide +kernel)) (by decide +kernel), am_gwm (List.mem_of_getElem? (i := 57) (by decide +kernel)) (by decide +kernel), ⟨by decide +kernel, by decide +kernel, by decide +kernel⟩, by decide⟩
theorem cb_X7_knowJoin : am_cb Y_X7_knowJoin 0 := ⟨am_gwm (List.mem_of_getElem? (i := 428) (by decide +kernel)) (by decide +kernel), am_gwm (List.mem_of_getElem? (i := 57) (by decide +kernel)) (by decide +kernel), ⟨by decide +kernel, by decide +kernel, by decide +kernel⟩, by decide⟩
theorem cb_X1_choose : am_cb Y_X1_choose 3 := ⟨am_gwm (List.mem_of_getElem? (i := 432) (by decide +kernel)) (by decide +kernel), am_gwm (List.mem_of_getElem? (i := 62) (by decide +kernel)) (by decide +kernel), ⟨by decide +kernel, by decide +kernel, by decide +kernel⟩, by decide⟩
theorem cb_X1_tryPoint : am_cb Y_X1_tryPoint 4 := ⟨am_gwm (List.mem_of_getElem? (i := 437) (by decide +kernel)) (by decide +kernel), am_gwm (List.mem_of_getElem? (i := 62) (by decide +kernel)) (by decide +kernel), ⟨by decide +kernel, by decide +kernel, by decide +kernel⟩, by decide⟩
theorem cb_X1_unite : am_cb Y_X1_unite 2 := ⟨am_gwm (List.mem_of_getElem? (i := 443) (by decide +kernel)) (by decide +kernel), am_gwm (List.mem_of_getElem? (i := 62) (by decide +kernel)) (by decide +kernel), ⟨by decide +kernel, by decide +kernel, by decide +kernel⟩, by decide⟩
theorem cb_X7_change : am_cb Y_X7_change 2 := ⟨am_gwm (List.mem_of_getElem? (i := 447) (by decide +kernel)) (by decide +kernel), am_gwm (List.mem_of_getElem? (i := 57) (by decide +kernel)) (by decide +kernel), ⟨by decide +kernel, by decide +kernel, by decide +kernel⟩, by decide⟩
theorem cb_X1_columnOf : am_cb Y_X1_columnOf 1 := ⟨am_gwm (List.mem_of_getElem? (i := 451) (by decide +kernel)) (by decide +kernel), am_gwm (List.mem_of_getElem? (i := 62) (by decide +kernel)) (by decide +kernel), ⟨by decide +kernel, by decide +kernel, by decide +kernel⟩, by decide⟩
theorem cb_X1_rowOf : am_cb Y_X1_rowOf 1 := ⟨am_gwm (List.mem_of_getElem? (i := 455) (by decide +kernel)) (by decide +kernel), am_gwm (List.mem_of_getElem? (i := 62) (by decide +kernel)) (by decide +kernel), ⟨by decide +kernel, by decide +kernel, by decide +kernel⟩, by decide⟩
theorem cb_X7_lowerOther : am_cb Y_X7_lowerOther 1 := ⟨am_gwm (List.mem_of_getElem? (i := 458) (by decide +kernel)) (by decide +kernel), am_gwm (List.mem_of_getElem? (i := 57) (by decide +kernel)) (by decide +kernel), ⟨by decide +kernel, by decide +kernel, by decide +kernel⟩, by decide⟩
theorem cb_X7_join : am_cb Y_X7_join 0 := ⟨am_gwm (List.mem_of_getElem? (i := 462) (by decide +kernel)) (by decide +kernel), am_gwm (List.mem_of_getElem? (i := 57) (by decide +kernel)) (by decide +kernel), ⟨by decide +kernel, by decide +kernel, by decide +kernel⟩, by decide⟩
theorem cb_X7_feed : am_cb Y_X7_feed 5 := ⟨am_gwm (List.mem_of_getElem? (i := 466) (by decide +kernel)) (by decide +kernel), am_gwm (List.mem_of_getElem? (i := 57) (by decide +kernel)) (by decide +kernel), ⟨by decide +kernel, by decide +kernel, by decide +kernel⟩, by decide⟩
theorem cb_X3_add : am_cb Y_X3_add 1 := ⟨am_gwm (List.mem_of_getElem? (i := 470) (by decide +kernel)) (by decide +kernel), am_gwm (List.mem_of_getElem? (i := 63) (by decide +kernel)) (by decide +kernel), ⟨by decide +kernel, by decide +kernel, by decide +kernel⟩, by decide⟩
theorem cb_X7_end : am_cb Y_X7_end 1 := ⟨am_gwm (List.mem_of_getElem? (i := 474) (by decide +kernel)) (by decide +kernel), am_gwm (List.mem_of_getElem? (i := 57) (by decide +kernel)) (by decide +kernel), ⟨by decide +kernel, by decide +kernel, by decide +kernel⟩, by decide⟩
theorem cb_X7_draw : am_cb Y_X7_draw 0 := ⟨am_gwm (List.mem_of_getElem? (i := 478) (by decide +kernel)) (by decide +kernel), am_gwm (List.mem_of_getElem? (i := 57) (by decide +kernel)) (by decide +kernel), ⟨by decide +kernel, by decide +kernel, by decide +kernel⟩, by decide⟩
theorem cb_X4_readInto : am_cb Y_X4_readInto 1 := ⟨am_gwm (List.mem_of_getElem? (i := 482) (by decide +kernel)) (by decide +kernel), am_gwm (List.mem_of_getElem? (i := 64) (by decide +kernel)) (by decide +kernel), ⟨by decide +kernel, by decide +kernel, by decide +kernel⟩, by decide⟩
theorem cb_X3_beginReading : am_cb Y_X3_beginReading 0 := ⟨am_gwm (List.mem_of_getElem? (i := 486) (by decide +kernel)) (by decide +kernel), am_gwm (List.mem_of_getElem? (i := 63) (by decide +kernel)) (by decide +kernel), ⟨by decide +kernel, by decide +kernel, by decide +kernel⟩, by decide⟩
theorem cb_X5_rewind : am_cb Y_X5_rewind 0 := ⟨am_gwm (List.mem_of_getElem? (i := 490) (by decide +kernel)) (by decide +kernel), am_gwm (List.mem_of_getElem? (i := 65) (by decide +kernel)) (by decide +kernel), ⟨by decide +kernel, by decide +kernel, by decide +kernel⟩, by decide⟩
theorem cb_X4_readOne : am_cb Y_X4_readOne 2 := ⟨am_gwm (List.mem_of_getElem? (i := 494) (by decide +kernel)) (by decide +kernel), am_gwm (List.mem_of_getElem? (i := 64) (by decide +kernel)) (by decide +kernel), ⟨by decide +kernel, by decide +kernel, by decide +kernel⟩, by decide⟩
theorem cb_X5_advance : am_cb Y_X5_advance 0 := ⟨am_gwm (List.mem_of_getElem? (i := 498) (by decide +kernel)) (by decide +kernel), am_gwm (List.mem_of_getElem? (i := 65) (by decide +kernel)) (by decide +kernel), ⟨by decide +kernel, by decide +kernel, by decide +kernel⟩, by decide⟩
theorem cb_X3_byteAt : am_cb Y_X3_byteAt 1 := ⟨am_gwm (List.mem_of_getElem? (i := 502) (by decide +kernel)) (by decide +kernel), am_gwm (List.mem_of_getElem? (i := 63) (by decide +kernel)) (by decide +kernel), ⟨by decide +kernel, by decide +kernel, by decide +kernel⟩, by decide⟩
theorem cb_X5_isBlank : am_cb Y_X5_isBlank 1 := ⟨am_gwm (List.mem_of_getElem? (i := 505) (by decide +kernel)) (by decide +kernel), am_gwm (List.mem_of_getElem? (i := 65) (by decide +kernel)) (by decide +kernel), ⟨by decide +kernel, by decide +kernel, by decide +kernel⟩, by decide⟩
theorem cb_X5_isDigit : am_cb Y_X5_isDigit 1 := ⟨am_gwm (List.mem_of_getElem? (i := 508) (by decide +kernel)) (by decide +kernel), am_gwm (List.mem_of_getElem? (i := 65) (by decide +kernel)) (by decide +kernel), ⟨by decide +kernel, by decide +kernel, by decide +kernel⟩, by decide⟩
theorem cb_X5_takeNumber : am_cb Y_X5_takeNumber 0 := ⟨am_gwm (List.mem_of_getElem? (i := 512) (by decide +kernel)) (by decide +kernel), am_gwm (List.mem_of_getElem? (i := 65) (by decide +kernel)) (by decide +kernel), ⟨by decide +kernel, by decide +kernel, by decide +kernel⟩, by decide⟩
theorem cb_X5_isLetter : am_cb Y_X5_isLetter 1 := ⟨am_gwm (List.mem_of_getElem? (i := 516) (by decide +kernel)) (by decide +kernel), am_gwm (List.mem_of_getElem? (i := 65) (by decide +kernel)) (by decide +kernel), ⟨by decide +kernel, by decide +kernel, by decide +kernel⟩, by decide⟩
theorem cb_X5_wordFound : am_cb Y_X5_wordFound 0 := ⟨am_gwm (List.mem_of_getElem? (i := 520) (by decide +kernel)) (by decide +kernel), am_gwm (List.mem_of_getElem? (i := 65) (by decide +kernel)) (by decide +kernel), ⟨by decide +kernel, by decide +kernel, by decide +kernel⟩, by decide⟩
theorem cb_X5_spells : am_cb Y_X5_spells 1 := ⟨am_gwm (List.mem_of_getElem? (i := 525) (by decide +kernel)) (by decide +kernel), am_gwm (List.mem_of_getElem? (i := 65) (by decide +kernel)) (by decide +kernel), ⟨by decide +kernel, by decide +kernel, by decide +kernel⟩, by decide⟩
theorem cb_J0_length_8abf5 : am_cb Y_J0_length_8abf5 0 := ⟨am_gwm (List.mem_of_getElem? (i := 529) (by decide +kernel)) (by decide +kernel), am_gwm (List.mem_of_getElem? (i := 68) (by decide +kernel)) (by decide +kernel), ⟨by decide +kernel, by decide +kernel, by decide +kernel⟩, by decide⟩
theorem cb_J0_coder_7d493 : am_cb Y_J0_coder_7d493 0 := ⟨am_gwm (List.mem_of_getElem? (i := 533) (by decide +kernel)) (by decide +kernel), am_gwm (List.mem_of_getElem? (i := 68) (by decide +kernel)) (by decide +kernel), ⟨by decide +kernel, by decide +kernel, by decide +kernel⟩, by decide⟩
theorem cb_J0_charAt_5068e : am_cb Y_J0_charAt_5068e 1 := ⟨am_gwm (List.mem_of_getElem? (i := 539) (by decide +kernel)) (by decide +kernel), am_gwm (List.mem_of_getElem? (i := 68) (by decide +kernel)) (by decide +kernel), ⟨by decide +kernel, by decide +kernel, by decide +kernel⟩, by decide⟩
theorem cb_J0_isLatin1_aae02 : am_cb Y_J0_isLatin1_aae02 0 := ⟨am_gwm (List.mem_of_getElem? (i := 543) (by decide +kernel)) (by decide +kernel), am_gwm (List.mem_of_getElem? (i := 68) (by decide +kernel)) (by decide +kernel), ⟨by decide +kernel, by decide +kernel, by decide +kernel⟩, by decide⟩
theorem cb_J1_charAt_3b067 : am_cb Y_J1_charAt_3b067 2 := ⟨am_gwm (List.mem_of_getElem? (i := 546) (by decide +kernel)) (by decide +kernel), am_gwm (List.mem_of_getElem? (i := 69) (by decide +kernel)) (by decide +kernel), ⟨by decide +kernel, by decide +kernel, by decide +kernel⟩, by decide⟩
theorem cb_J0_checkIndex_df160 : am_cb Y_J0_checkIndex_df160 2 := ⟨am_gwm (List.mem_of_getElem? (i := 549) (by decide +kernel)) (by decide +kernel), am_gwm (List.mem_of_getElem? (i := 68) (by decide +kernel)) (by decide +kernel), ⟨by decide +kernel, by decide +kernel, by decide +kernel⟩, by decide⟩
theorem cb_J3_checkIndex_8e157 : am_cb Y_J3_checkIndex_8e157 3 := ⟨am_gwm (List.mem_of_getElem? (i := 554) (by decide +kernel)) (by decide +kernel), am_gwm (List.mem_of_getElem? (i := 70) (by decide +kernel)) (by decide +kernel), ⟨by decide +kernel, by decide +kernel, by decide +kernel⟩, by decide⟩
theorem cb_X3_fail : am_cb Y_X3_fail 2 := ⟨am_gwm (List.mem_of_getElem? (i := 585) (by decide +kernel)) (by decide +kernel), am_gwm (List.mem_of_getElem? (i := 63) (by decide +kernel)) (by decide +kernel), ⟨by decide +kernel, by decide +kernel, by decide +kernel⟩, by decide⟩
theorem cb_X4_readPlain : am_cb Y_X4_readPlain 1 := ⟨am_gwm (List.mem_of_getElem? (i := 589) (by decide +kernel)) (by decide +kernel), am_gwm (List.mem_of_getElem? (i := 64) (by decide +kernel)) (by decide +kernel), ⟨by decide +kernel, by decide +kernel, by decide +kernel⟩, by decide⟩
theorem cb_X4_readNumber : am_cb Y_X4_readNumber 2 := ⟨am_gwm (List.mem_of_getElem? (i := 593) (by decide +kernel)) (by decide +kernel), am_gwm (List.mem_of_getElem? (i := 64) (by decide +kernel)) (by decide +kernel), ⟨by decide +kernel, by decide +kernel, by decide +kernel⟩, by decide⟩
theorem cb_X4_readKept : am_cb Y_X4_readKept 1 := ⟨am_gwm (List.mem_of_getElem? (i := 598) (by decide +kernel)) (by decide +kernel), am_gwm (List.mem_of_getElem? (i := 64) (by decide +kernel)) (by decide +kernel), ⟨by decide +kernel, by decide +kernel, by decide +kernel⟩, by decide⟩
theorem cb_X0_copy : am_cb Y_X0_copy 1 := ⟨am_gwm (List.mem_of_getElem? (i := 602) (by decide +kernel)) (by decide +kernel), am_gwm (List.mem_of_getElem? (i := 58) (by decide +kernel)) (by decide +kernel), ⟨by decide +kernel, by decide +kernel, by decide +kernel⟩, by decide⟩
theorem cb_X4_readSet : am_cb Y_X4_readSet 3 := ⟨am_gwm (List.mem_of_getElem? (i := 609) (by decide +kernel)) (by decide +kernel), am_gwm (List.mem_of_getElem? (i := 64) (by decide +kernel)) (by decide +kernel), ⟨by decide +kernel, by decide +kernel, by decide +kernel⟩, by decide⟩
theorem cb_X4_readRow : am_cb Y_X4_readRow 3 := ⟨am_gwm (List.mem_of_getElem? (i := 615) (by decide +kernel)) (by decide +kernel), am_gwm (List.mem_of_getElem? (i := 64) (by decide +kernel)) (by decide +kernel), ⟨by decide +kernel, by decide +kernel, by decide +kernel⟩, by decide⟩
theorem cb_X0_growBeside : am_cb Y_X0_growBeside 1 := ⟨am_gwm (List.mem_of_getElem? (i := 619) (by decide +kernel)) (by decide +kernel), am_gwm (List.mem_of_getElem? (i := 58) (by decide +kernel)) (by decide +kernel), ⟨by decide +kernel, by decide +kernel, by decide +kernel⟩, by decide⟩
theorem cb_X0_layMirrors : am_cb Y_X0_layMirrors 3 := ⟨am_gwm (List.mem_of_getElem? (i := 623) (by decide +kernel)) (by decide +kernel), am_gwm (List.mem_of_getElem? (i := 58) (by decide +kernel)) (by decide +kernel), ⟨by decide +kernel, by decide +kernel, by decide +kernel⟩, by decide⟩
theorem cb_X4_readTurned : am_cb Y_X4_readTurned 3 := ⟨am_gwm (List.mem_of_getElem? (i := 629) (by decide +kernel)) (by decide +kernel), am_gwm (List.mem_of_getElem? (i := 64) (by decide +kernel)) (by decide +kernel), ⟨by decide +kernel, by decide +kernel, by decide +kernel⟩, by decide⟩
theorem cb_X0_takeTurned : am_cb Y_X0_takeTurned 3 := ⟨am_gwm (List.mem_of_getElem? (i := 633) (by decide +kernel)) (by decide +kernel), am_gwm (List.mem_of_getElem? (i := 58) (by decide +kernel)) (by decide +kernel), ⟨by decide +kernel, by decide +kernel, by decide +kernel⟩, by decide⟩
theorem cb_X0_turnedColumn : am_cb Y_X0_turnedColumn 4 := ⟨am_gwm (List.mem_of_getElem? (i := 637) (by decide +kernel)) (by decide +kernel), am_gwm (List.mem_of_getElem? (i := 58) (by decide +kernel)) (by decide +kernel), ⟨by decide +kernel, by decide +kernel, by decide +kernel⟩, by decide⟩
theorem cb_X0_turnedRow : am_cb Y_X0_turnedRow 4 := ⟨am_gwm (List.mem_of_getElem? (i := 640) (by decide +kernel)) (by decide +kernel), am_gwm (List.mem_of_getElem? (i := 58) (by decide +kernel)) (by decide +kernel), ⟨by decide +kernel, by decide +kernel, by decide +kernel⟩, by decide⟩
theorem cb_X4_readPair : am_cb Y_X4_readPair 4 := ⟨am_gwm (List.mem_of_getElem? (i := 644) (by decide +kernel)) (by decide +kernel), am_gwm (List.mem_of_getElem? (i := 64) (by decide +kernel)) (by decide +kernel), ⟨by decide +kernel, by decide +kernel, by decide +kernel⟩, by decide⟩
theorem cb_X0_growBelow : am_cb Y_X0_growBelow 1 := ⟨am_gwm (List.mem_of_getElem? (i := 648) (by decide +kernel)) (by decide +kernel), am_gwm (List.mem_of_getElem? (i := 58) (by decide +kernel)) (by decide +kernel), ⟨by decide +kernel, by decide +kernel, by decide +kernel⟩, by decide⟩
theorem cb_X0_coverWith : am_cb Y_X0_coverWith 1 := ⟨am_gwm (List.mem_of_getElem? (i := 652) (by decide +kernel)) (by decide +kernel), am_gwm (List.mem_of_getElem? (i := 58) (by decide +kernel)) (by decide +kernel), ⟨by decide +kernel, by decide +kernel, by decide +kernel⟩, by decide⟩
theorem cb_X7_takeSpare : am_cb Y_X7_takeSpare 0 := ⟨am_gwm (List.mem_of_getElem? (i := 656) (by decide +kernel)) (by decide +kernel), am_gwm (List.mem_of_getElem? (i := 57) (by decide +kernel)) (by decide +kernel), ⟨by decide +kernel, by decide +kernel, by decide +kernel⟩, by decide⟩
theorem cb_X7_back : am_cb Y_X7_back 4 := ⟨am_gwm (List.mem_of_getElem? (i := 663) (by decide +kernel)) (by decide +kernel), am_gwm (List.mem_of_getElem? (i := 57) (by decide +kernel)) (by decide +kernel), ⟨by decide +kernel, by decide +kernel, by decide +kernel⟩, by decide⟩
theorem cb_X0_isPoint : am_cb Y_X0_isPoint 2 := ⟨am_gwm (List.mem_of_getElem? (i := 668) (by decide +kernel)) (by decide +kernel), am_gwm (List.mem_of_getElem? (i := 58) (by decide +kernel)) (by decide +kernel), ⟨by decide +kernel, by decide +kernel, by decide +kernel⟩, by decide⟩
theorem cb_X6_readInto : am_cb Y_X6_readInto 3 := ⟨am_gwm (List.mem_of_getElem? (i := 672) (by decide +kernel)) (by decide +kernel), am_gwm (List.mem_of_getElem? (i := 66) (by decide +kernel)) (by decide +kernel), ⟨by decide +kernel, by decide +kernel, by decide +kernel⟩, by decide⟩
theorem cb_X6_rightOf : am_cb Y_X6_rightOf 1 := ⟨am_gwm (List.mem_of_getElem? (i := 679) (by decide +kernel)) (by decide +kernel), am_gwm (List.mem_of_getElem? (i := 66) (by decide +kernel)) (by decide +kernel), ⟨by decide +kernel, by decide +kernel, by decide +kernel⟩, by decide⟩
theorem cb_X6_downOf : am_cb Y_X6_downOf 1 := ⟨am_gwm (List.mem_of_getElem? (i := 682) (by decide +kernel)) (by decide +kernel), am_gwm (List.mem_of_getElem? (i := 66) (by decide +kernel)) (by decide +kernel), ⟨by decide +kernel, by decide +kernel, by decide +kernel⟩, by decide⟩
theorem cb_X6_tellPoint : am_cb Y_X6_tellPoint 4 := ⟨am_gwm (List.mem_of_getElem? (i := 689) (by decide +kernel)) (by decide +kernel), am_gwm (List.mem_of_getElem? (i := 66) (by decide +kernel)) (by decide +kernel), ⟨by decide +kernel, by decide +kernel, by decide +kernel⟩, by decide⟩
theorem cb_X7_fault : am_cb Y_X7_fault 1 := ⟨am_gwm (List.mem_of_getElem? (i := 696) (by decide +kernel)) (by decide +kernel), am_gwm (List.mem_of_getElem? (i := 57) (by decide +kernel)) (by decide +kernel), ⟨by decide +kernel, by decide +kernel, by decide +kernel⟩, by decide⟩
theorem cb_X7_keep : am_cb Y_X7_keep 1 := ⟨am_gwm (List.mem_of_getElem? (i := 700) (by decide +kernel)) (by decide +kernel), am_gwm (List.mem_of_getElem? (i := 57) (by decide +kernel)) (by decide +kernel), ⟨by decide +kernel, by decide +kernel, by decide +kernel⟩, by decide⟩
theorem cb_X7_like : am_cb Y_X7_like 2 := ⟨am_gwm (List.mem_of_getElem? (i := 704) (by decide +kernel)) (by decide +kernel), am_gwm (List.mem_of_getElem? (i := 57) (by decide +kernel)) (by decide +kernel), ⟨by decide +kernel, by decide +kernel, by decide +kernel⟩, by decide⟩
theorem cb_X0_isSameAs : am_cb Y_X0_isSameAs 1 := ⟨am_gwm (List.mem_of_getElem? (i := 708) (by decide +kernel)) (by decide +kernel), am_gwm (List.mem_of_getElem? (i := 58) (by decide +kernel)) (by decide +kernel), ⟨by decide +kernel, by decide +kernel, by decide +kernel⟩, by decide⟩
theorem cb_X7_waysFrom : am_cb Y_X7_waysFrom 1 := ⟨am_gwm (List.mem_of_getElem? (i := 712) (by decide +kernel)) (by decide +kernel), am_gwm (List.mem_of_getElem? (i := 57) (by decide +kernel)) (by decide +kernel), ⟨by decide +kernel, by decide +kernel, by decide +kernel⟩, by decide⟩
theorem cb_X7_alike : am_cb Y_X7_alike 0 := ⟨am_gwm (List.mem_of_getElem? (i := 717) (by decide +kernel)) (by decide +kernel), am_gwm (List.mem_of_getElem? (i := 57) (by decide +kernel)) (by decide +kernel), ⟨by decide +kernel, by decide +kernel, by decide +kernel⟩, by decide⟩
theorem cb_X7_about : am_cb Y_X7_about 1 := ⟨am_gwm (List.mem_of_getElem? (i := 721) (by decide +kernel)) (by decide +kernel), am_gwm (List.mem_of_getElem? (i := 57) (by decide +kernel)) (by decide +kernel), ⟨by decide +kernel, by decide +kernel, by decide +kernel⟩, by decide⟩
theorem cb_X0_countOf : am_cb Y_X0_countOf 1 := ⟨am_gwm (List.mem_of_getElem? (i := 725) (by decide +kernel)) (by decide +kernel), am_gwm (List.mem_of_getElem? (i := 58) (by decide +kernel)) (by decide +kernel), ⟨by decide +kernel, by decide +kernel, by decide +kernel⟩, by decide⟩
theorem cb_X7_pinCount : am_cb Y_X7_pinCount 0 := ⟨am_gwm (List.mem_of_getElem? (i := 729) (by decide +kernel)) (by decide +kernel), am_gwm (List.mem_of_getElem? (i := 57) (by decide +kernel)) (by decide +kernel), ⟨by decide +kernel, by decide +kernel, by decide +kernel⟩, by decide⟩
theorem cb_X7_shelvesUsed : am_cb Y_X7_shelvesUsed 0 := ⟨am_gwm (List.mem_of_getElem? (i := 733) (by decide +kernel)) (by decide +kernel), am_gwm (List.mem_of_getElem? (i := 57) (by decide +kernel)) (by decide +kernel), ⟨by decide +kernel, by decide +kernel, by decide +kernel⟩, by decide⟩
theorem cb_L_cell : am_cb Y_L_cell 2 := ⟨am_gwm (List.mem_of_getElem? (i := 737) (by decide +kernel)) (by decide +kernel), am_gwm (List.mem_of_getElem? (i := 56) (by decide +kernel)) (by decide +kernel), ⟨by decide +kernel, by decide +kernel, by decide +kernel⟩, by decide⟩
theorem cb_X8_init : am_cb Y_X8_init 2 := ⟨am_gwm (List.mem_of_getElem? (i := 742) (by decide +kernel)) (by decide +kernel), am_gwm (List.mem_of_getElem? (i := 67) (by decide +kernel)) (by decide +kernel), ⟨by decide +kernel, by decide +kernel, by decide +kernel⟩, by decide⟩
theorem cb_X8_set : am_cb Y_X8_set 3 := ⟨am_gwm (List.mem_of_getElem? (i := 839) (by decide +kernel)) (by decide +kernel), am_gwm (List.mem_of_getElem? (i := 67) (by decide +kernel)) (by decide +kernel), ⟨by decide +kernel, by decide +kernel, by decide +kernel⟩, by decide⟩
theorem cb_X8_isInner : am_cb Y_X8_isInner 3 := ⟨am_gwm (List.mem_of_getElem? (i := 843) (by decide +kernel)) (by decide +kernel), am_gwm (List.mem_of_getElem? (i := 67) (by decide +kernel)) (by decide +kernel), ⟨by decide +kernel, by decide +kernel, by decide +kernel⟩, by decide⟩
theorem cb_X8_isIn : am_cb Y_X8_isIn 3 := ⟨am_gwm (List.mem_of_getElem? (i := 846) (by decide +kernel)) (by decide +kernel), am_gwm (List.mem_of_getElem? (i := 67) (by decide +kernel)) (by decide +kernel), ⟨by decide +kernel, by decide +kernel, by decide +kernel⟩, by decide⟩
theorem cb_X8_cell : am_cb Y_X8_cell 3 := ⟨am_gwm (List.mem_of_getElem? (i := 849) (by decide +kernel)) (by decide +kernel), am_gwm (List.mem_of_getElem? (i := 67) (by decide +kernel)) (by decide +kernel), ⟨by decide +kernel, by decide +kernel, by decide +kernel⟩, by decide⟩
theorem cb_X8_mirror : am_cb Y_X8_mirror 2 := ⟨am_gwm (List.mem_of_getElem? (i := 853) (by decide +kernel)) (by decide +kernel), am_gwm (List.mem_of_getElem? (i := 67) (by decide +kernel)) (by decide +kernel), ⟨by decide +kernel, by decide +kernel, by decide +kernel⟩, by decide⟩
theorem cb_X8_pin : am_cb Y_X8_pin 3 := ⟨am_gwm (List.mem_of_getElem? (i := 857) (by decide +kernel)) (by decide +kernel), am_gwm (List.mem_of_getElem? (i := 67) (by decide +kernel)) (by decide +kernel), ⟨by decide +kernel, by decide +kernel, by decide +kernel⟩, by decide⟩
theorem cb_X8_lines : am_cb Y_X8_lines 0 := ⟨am_gwm (List.mem_of_getElem? (i := 861) (by decide +kernel)) (by decide +kernel), am_gwm (List.mem_of_getElem? (i := 67) (by decide +kernel)) (by decide +kernel), ⟨by decide +kernel, by decide +kernel, by decide +kernel⟩, by decide⟩
theorem cb_X8_walkAll : am_cb Y_X8_walkAll 0 := ⟨am_gwm (List.mem_of_getElem? (i := 865) (by decide +kernel)) (by decide +kernel), am_gwm (List.mem_of_getElem? (i := 67) (by decide +kernel)) (by decide +kernel), ⟨by decide +kernel, by decide +kernel, by decide +kernel⟩, by decide⟩
theorem cb_X8_squares : am_cb Y_X8_squares 0 := ⟨am_gwm (List.mem_of_getElem? (i := 869) (by decide +kernel)) (by decide +kernel), am_gwm (List.mem_of_getElem? (i := 67) (by decide +kernel)) (by decide +kernel), ⟨by decide +kernel, by decide +kernel, by decide +kernel⟩, by decide⟩
theorem cb_X8_walkOne : am_cb Y_X8_walkOne 2 := ⟨am_gwm (List.mem_of_getElem? (i := 873) (by decide +kernel)) (by decide +kernel), am_gwm (List.mem_of_getElem? (i := 67) (by decide +kernel)) (by decide +kernel), ⟨by decide +kernel, by decide +kernel, by decide +kernel⟩, by decide⟩
theorem cb_X8_lineOf : am_cb Y_X8_lineOf 1 := ⟨am_gwm (List.mem_of_getElem? (i := 877) (by decide +kernel)) (by decide +kernel), am_gwm (List.mem_of_getElem? (i := 67) (by decide +kernel)) (by decide +kernel), ⟨by decide +kernel, by decide +kernel, by decide +kernel⟩, by decide⟩
theorem cb_X8_isSquare : am_cb Y_X8_isSquare 1 := ⟨am_gwm (List.mem_of_getElem? (i := 881) (by decide +kernel)) (by decide +kernel), am_gwm (List.mem_of_getElem? (i := 67) (by decide +kernel)) (by decide +kernel), ⟨by decide +kernel, by decide +kernel, by decide +kernel⟩, by decide⟩
theorem cb_X8_line : am_cb Y_X8_line 2 := ⟨am_gwm (List.mem_of_getElem? (i := 885) (by decide +kernel)) (by decide +kernel), am_gwm (List.mem_of_getElem? (i := 67) (by decide +kernel)) (by decide +kernel), ⟨by decide +kernel, by decide +kernel, by decide +kernel⟩, by decide⟩
theorem cb_X8_held : am_cb Y_X8_held 3 := ⟨am_gwm (List.mem_of_getElem? (i := 889) (by decide +kernel)) (by decide +kernel), am_gwm (List.mem_of_getElem? (i := 67) (by decide +kernel)) (by decide +kernel), ⟨by decide +kernel, by decide +kernel, by decide +kernel⟩, by decide⟩
theorem cb_X8_strand : am_cb Y_X8_strand 3 := ⟨am_gwm (List.mem_of_getElem? (i := 893) (by decide +kernel)) (by decide +kernel), am_gwm (List.mem_of_getElem? (i := 67) (by decide +kernel)) (by decide +kernel), ⟨by decide +kernel, by decide +kernel, by decide +kernel⟩, by decide⟩
theorem cb_X8_walk : am_cb Y_X8_walk 2 := ⟨am_gwm (List.mem_of_getElem? (i := 897) (by decide +kernel)) (by decide +kernel), am_gwm (List.mem_of_getElem? (i := 67) (by decide +kernel)) (by decide +kernel), ⟨by decide +kernel, by decide +kernel, by decide +kernel⟩, by decide⟩
theorem cb_X8_holds : am_cb Y_X8_holds 3 := ⟨am_gwm (List.mem_of_getElem? (i := 901) (by decide +kernel)) (by decide +kernel), am_gwm (List.mem_of_getElem? (i := 67) (by decide +kernel)) (by decide +kernel), ⟨by decide +kernel, by decide +kernel, by decide +kernel⟩, by decide⟩
theorem cb_X8_colour : am_cb Y_X8_colour 1 := ⟨am_gwm (List.mem_of_getElem? (i := 905) (by decide +kernel)) (by decide +kernel), am_gwm (List.mem_of_getElem? (i := 67) (by decide +kernel)) (by decide +kernel), ⟨by decide +kernel, by decide +kernel, by decide +kernel⟩, by decide⟩
theorem cb_X8_coloured : am_cb Y_X8_coloured 2 := ⟨am_gwm (List.mem_of_getElem? (i := 909) (by decide +kernel)) (by decide +kernel), am_gwm (List.mem_of_getElem? (i := 67) (by decide +kernel)) (by decide +kernel), ⟨by decide +kernel, by decide +kernel, by decide +kernel⟩, by decide⟩
theorem cb_X8_joined : am_cb Y_X8_joined 1 := ⟨am_gwm (List.mem_of_getElem? (i := 913) (by decide +kernel)) (by decide +kernel), am_gwm (List.mem_of_getElem? (i := 67) (by decide +kernel)) (by decide +kernel), ⟨by decide +kernel, by decide +kernel, by decide +kernel⟩, by decide⟩
theorem cb_X8_find : am_cb Y_X8_find 0 := ⟨am_gwm (List.mem_of_getElem? (i := 917) (by decide +kernel)) (by decide +kernel), am_gwm (List.mem_of_getElem? (i := 67) (by decide +kernel)) (by decide +kernel), ⟨by decide +kernel, by decide +kernel, by decide +kernel⟩, by decide⟩
theorem cb_X8_rootOf : am_cb Y_X8_rootOf 1 := ⟨am_gwm (List.mem_of_getElem? (i := 921) (by decide +kernel)) (by decide +kernel), am_gwm (List.mem_of_getElem? (i := 67) (by decide +kernel)) (by decide +kernel), ⟨by decide +kernel, by decide +kernel, by decide +kernel⟩, by decide⟩
theorem cb_X8_change : am_cb Y_X8_change 2 := ⟨am_gwm (List.mem_of_getElem? (i := 925) (by decide +kernel)) (by decide +kernel), am_gwm (List.mem_of_getElem? (i := 67) (by decide +kernel)) (by decide +kernel), ⟨by decide +kernel, by decide +kernel, by decide +kernel⟩, by decide⟩
theorem cb_X8_other : am_cb Y_X8_other 1 := ⟨am_gwm (List.mem_of_getElem? (i := 929) (by decide +kernel)) (by decide +kernel), am_gwm (List.mem_of_getElem? (i := 67) (by decide +kernel)) (by decide +kernel), ⟨by decide +kernel, by decide +kernel, by decide +kernel⟩, by decide⟩
theorem cb_X8_join : am_cb Y_X8_join 0 := ⟨am_gwm (List.mem_of_getElem? (i := 933) (by decide +kernel)) (by decide +kernel), am_gwm (List.mem_of_getElem? (i := 67) (by decide +kernel)) (by decide +kernel), ⟨by decide +kernel, by decide +kernel, by decide +kernel⟩, by decide⟩
theorem cb_X8_feed : am_cb Y_X8_feed 5 := ⟨am_gwm (List.mem_of_getElem? (i := 937) (by decide +kernel)) (by decide +kernel), am_gwm (List.mem_of_getElem? (i := 67) (by decide +kernel)) (by decide +kernel), ⟨by decide +kernel, by decide +kernel, by decide +kernel⟩, by decide⟩
theorem cb_X8_four : am_cb Y_X8_four 1 := ⟨am_gwm (List.mem_of_getElem? (i := 941) (by decide +kernel)) (by decide +kernel), am_gwm (List.mem_of_getElem? (i := 67) (by decide +kernel)) (by decide +kernel), ⟨by decide +kernel, by decide +kernel, by decide +kernel⟩, by decide⟩
theorem cb_X8_end : am_cb Y_X8_end 1 := ⟨am_gwm (List.mem_of_getElem? (i := 945) (by decide +kernel)) (by decide +kernel), am_gwm (List.mem_of_getElem? (i := 67) (by decide +kernel)) (by decide +kernel), ⟨by decide +kernel, by decide +kernel, by decide +kernel⟩, by decide⟩
theorem cb_X8_draw : am_cb Y_X8_draw 0 := ⟨am_gwm (List.mem_of_getElem? (i := 949) (by decide +kernel)) (by decide +kernel), am_gwm (List.mem_of_getElem? (i := 67) (by decide +kernel)) (by decide +kernel), ⟨by decide +kernel, by decide +kernel, by decide +kernel⟩, by decide⟩
theorem cb_X8_read : am_cb Y_X8_read 0 := ⟨am_gwm (List.mem_of_getElem? (i := 953) (by decide +kernel)) (by decide +kernel), am_gwm (List.mem_of_getElem? (i := 67) (by decide +kernel)) (by decide +kernel), ⟨by decide +kernel, by decide +kernel, by decide +kernel⟩, by decide⟩
theorem cb_X8_nextToken : am_cb Y_X8_nextToken 0 := ⟨am_gwm (List.mem_of_getElem? (i := 957) (by decide +kernel)) (by decide +kernel), am_gwm (List.mem_of_getElem? (i := 67) (by decide +kernel)) (by decide +kernel), ⟨by decide +kernel, by decide +kernel, by decide +kernel⟩, by decide⟩
theorem cb_X8_see : am_cb Y_X8_see 1 := ⟨am_gwm (List.mem_of_getElem? (i := 961) (by decide +kernel)) (by decide +kernel), am_gwm (List.mem_of_getElem? (i := 67) (by decide +kernel)) (by decide +kernel), ⟨by decide +kernel, by decide +kernel, by decide +kernel⟩, by decide⟩
theorem cb_X8_isDigit : am_cb Y_X8_isDigit 1 := ⟨am_gwm (List.mem_of_getElem? (i := 964) (by decide +kernel)) (by decide +kernel), am_gwm (List.mem_of_getElem? (i := 67) (by decide +kernel)) (by decide +kernel), ⟨by decide +kernel, by decide +kernel, by decide +kernel⟩, by decide⟩
theorem cb_X8_wordOf : am_cb Y_X8_wordOf 1 := ⟨am_gwm (List.mem_of_getElem? (i := 967) (by decide +kernel)) (by decide +kernel), am_gwm (List.mem_of_getElem? (i := 67) (by decide +kernel)) (by decide +kernel), ⟨by decide +kernel, by decide +kernel, by decide +kernel⟩, by decide⟩
theorem cb_X8_add : am_cb Y_X8_add 3 := ⟨am_gwm (List.mem_of_getElem? (i := 971) (by decide +kernel)) (by decide +kernel), am_gwm (List.mem_of_getElem? (i := 67) (by decide +kernel)) (by decide +kernel), ⟨by decide +kernel, by decide +kernel, by decide +kernel⟩, by decide⟩
theorem cb_X8_begin : am_cb Y_X8_begin 0 := ⟨am_gwm (List.mem_of_getElem? (i := 978) (by decide +kernel)) (by decide +kernel), am_gwm (List.mem_of_getElem? (i := 67) (by decide +kernel)) (by decide +kernel), ⟨by decide +kernel, by decide +kernel, by decide +kernel⟩, by decide⟩
theorem cb_X8_take : am_cb Y_X8_take 2 := ⟨am_gwm (List.mem_of_getElem? (i := 982) (by decide +kernel)) (by decide +kernel), am_gwm (List.mem_of_getElem? (i := 67) (by decide +kernel)) (by decide +kernel), ⟨by decide +kernel, by decide +kernel, by decide +kernel⟩, by decide⟩
theorem cb_X8_takeLast : am_cb Y_X8_takeLast 2 := ⟨am_gwm (List.mem_of_getElem? (i := 986) (by decide +kernel)) (by decide +kernel), am_gwm (List.mem_of_getElem? (i := 67) (by decide +kernel)) (by decide +kernel), ⟨by decide +kernel, by decide +kernel, by decide +kernel⟩, by decide⟩
theorem cb_X8_plain : am_cb Y_X8_plain 3 := ⟨am_gwm (List.mem_of_getElem? (i := 990) (by decide +kernel)) (by decide +kernel), am_gwm (List.mem_of_getElem? (i := 67) (by decide +kernel)) (by decide +kernel), ⟨by decide +kernel, by decide +kernel, by decide +kernel⟩, by decide⟩
theorem cb_X8_copy : am_cb Y_X8_copy 2 := ⟨am_gwm (List.mem_of_getElem? (i := 994) (by decide +kernel)) (by decide +kernel), am_gwm (List.mem_of_getElem? (i := 67) (by decide +kernel)) (by decide +kernel), ⟨by decide +kernel, by decide +kernel, by decide +kernel⟩, by decide⟩
theorem cb_X8_close : am_cb Y_X8_close 0 := ⟨am_gwm (List.mem_of_getElem? (i := 998) (by decide +kernel)) (by decide +kernel), am_gwm (List.mem_of_getElem? (i := 67) (by decide +kernel)) (by decide +kernel), ⟨by decide +kernel, by decide +kernel, by decide +kernel⟩, by decide⟩
theorem cb_X8_isDone : am_cb Y_X8_isDone 2 := ⟨am_gwm (List.mem_of_getElem? (i := 1002) (by decide +kernel)) (by decide +kernel), am_gwm (List.mem_of_getElem? (i := 67) (by decide +kernel)) (by decide +kernel), ⟨by decide +kernel, by decide +kernel, by decide +kernel⟩, by decide⟩
theorem cb_X8_turn : am_cb Y_X8_turn 1 := ⟨am_gwm (List.mem_of_getElem? (i := 1006) (by decide +kernel)) (by decide +kernel), am_gwm (List.mem_of_getElem? (i := 67) (by decide +kernel)) (by decide +kernel), ⟨by decide +kernel, by decide +kernel, by decide +kernel⟩, by decide⟩
theorem cb_X8_flip : am_cb Y_X8_flip 1 := ⟨am_gwm (List.mem_of_getElem? (i := 1010) (by decide +kernel)) (by decide +kernel), am_gwm (List.mem_of_getElem? (i := 67) (by decide +kernel)) (by decide +kernel), ⟨by decide +kernel, by decide +kernel, by decide +kernel⟩, by decide⟩
theorem cb_X8_isRow : am_cb Y_X8_isRow 1 := ⟨am_gwm (List.mem_of_getElem? (i := 1014) (by decide +kernel)) (by decide +kernel), am_gwm (List.mem_of_getElem? (i := 67) (by decide +kernel)) (by decide +kernel), ⟨by decide +kernel, by decide +kernel, by decide +kernel⟩, by decide⟩
theorem cb_X8_lay : am_cb Y_X8_lay 4 := ⟨am_gwm (List.mem_of_getElem? (i := 1018) (by decide +kernel)) (by decide +kernel), am_gwm (List.mem_of_getElem? (i := 67) (by decide +kernel)) (by decide +kernel), ⟨by decide +kernel, by decide +kernel, by decide +kernel⟩, by decide⟩
theorem cb_X8_isPut : am_cb Y_X8_isPut 2 := ⟨am_gwm (List.mem_of_getElem? (i := 1022) (by decide +kernel)) (by decide +kernel), am_gwm (List.mem_of_getElem? (i := 67) (by decide +kernel)) (by decide +kernel), ⟨by decide +kernel, by decide +kernel, by decide +kernel⟩, by decide⟩
theorem cb_X8_isTold : am_cb Y_X8_isTold 1 := ⟨am_gwm (List.mem_of_getElem? (i := 1026) (by decide +kernel)) (by decide +kernel), am_gwm (List.mem_of_getElem? (i := 67) (by decide +kernel)) (by decide +kernel), ⟨by decide +kernel, by decide +kernel, by decide +kernel⟩, by decide⟩
theorem cb_X8_fault : am_cb Y_X8_fault 1 := ⟨am_gwm (List.mem_of_getElem? (i := 1030) (by decide +kernel)) (by decide +kernel), am_gwm (List.mem_of_getElem? (i := 67) (by decide +kernel)) (by decide +kernel), ⟨by decide +kernel, by decide +kernel, by decide +kernel⟩, by decide⟩
theorem cb_X8_back : am_cb Y_X8_back 4 := ⟨am_gwm (List.mem_of_getElem? (i := 1034) (by decide +kernel)) (by decide +kernel), am_gwm (List.mem_of_getElem? (i := 67) (by decide +kernel)) (by decide +kernel), ⟨by decide +kernel, by decide +kernel, by decide +kernel⟩, by decide⟩
theorem cb_X8_walkBack : am_cb Y_X8_walkBack 2 := ⟨am_gwm (List.mem_of_getElem? (i := 1038) (by decide +kernel)) (by decide +kernel), am_gwm (List.mem_of_getElem? (i := 67) (by decide +kernel)) (by decide +kernel), ⟨by decide +kernel, by decide +kernel, by decide +kernel⟩, by decide⟩
theorem cb_X8_dxOf : am_cb Y_X8_dxOf 1 := ⟨am_gwm (List.mem_of_getElem? (i := 1041) (by decide +kernel)) (by decide +kernel), am_gwm (List.mem_of_getElem? (i := 67) (by decide +kernel)) (by decide +kernel), ⟨by decide +kernel, by decide +kernel, by decide +kernel⟩, by decide⟩
theorem cb_X8_dyOf : am_cb Y_X8_dyOf 1 := ⟨am_gwm (List.mem_of_getElem? (i := 1044) (by decide +kernel)) (by decide +kernel), am_gwm (List.mem_of_getElem? (i := 67) (by decide +kernel)) (by decide +kernel), ⟨by decide +kernel, by decide +kernel, by decide +kernel⟩, by decide⟩
theorem cb_X8_bend : am_cb Y_X8_bend 4 := ⟨am_gwm (List.mem_of_getElem? (i := 1048) (by decide +kernel)) (by decide +kernel), am_gwm (List.mem_of_getElem? (i := 67) (by decide +kernel)) (by decide +kernel), ⟨by decide +kernel, by decide +kernel, by decide +kernel⟩, by decide⟩
theorem cb_X8_keep : am_cb Y_X8_keep 1 := ⟨am_gwm (List.mem_of_getElem? (i := 1052) (by decide +kernel)) (by decide +kernel), am_gwm (List.mem_of_getElem? (i := 67) (by decide +kernel)) (by decide +kernel), ⟨by decide +kernel, by decide +kernel, by decide +kernel⟩, by decide⟩
theorem cb_X8_like : am_cb Y_X8_like 2 := ⟨am_gwm (List.mem_of_getElem? (i := 1056) (by decide +kernel)) (by decide +kernel), am_gwm (List.mem_of_getElem? (i := 67) (by decide +kernel)) (by decide +kernel), ⟨by decide +kernel, by decide +kernel, by decide +kernel⟩, by decide⟩
theorem cb_X8_isSame : am_cb Y_X8_isSame 2 := ⟨am_gwm (List.mem_of_getElem? (i := 1060) (by decide +kernel)) (by decide +kernel), am_gwm (List.mem_of_getElem? (i := 67) (by decide +kernel)) (by decide +kernel), ⟨by decide +kernel, by decide +kernel, by decide +kernel⟩, by decide⟩
theorem cb_X8_ways : am_cb Y_X8_ways 1 := ⟨am_gwm (List.mem_of_getElem? (i := 1064) (by decide +kernel)) (by decide +kernel), am_gwm (List.mem_of_getElem? (i := 67) (by decide +kernel)) (by decide +kernel), ⟨by decide +kernel, by decide +kernel, by decide +kernel⟩, by decide⟩
theorem cb_X8_alike : am_cb Y_X8_alike 0 := ⟨am_gwm (List.mem_of_getElem? (i := 1068) (by decide +kernel)) (by decide +kernel), am_gwm (List.mem_of_getElem? (i := 67) (by decide +kernel)) (by decide +kernel), ⟨by decide +kernel, by decide +kernel, by decide +kernel⟩, by decide⟩
theorem cb_X8_about : am_cb Y_X8_about 1 := ⟨am_gwm (List.mem_of_getElem? (i := 1072) (by decide +kernel)) (by decide +kernel), am_gwm (List.mem_of_getElem? (i := 67) (by decide +kernel)) (by decide +kernel), ⟨by decide +kernel, by decide +kernel, by decide +kernel⟩, by decide⟩
-- the fields
theorem fd_0_9 : am_fd 0 9 0 0 := ⟨am_gwm (List.mem_of_getElem? (i := 87) (by decide +kernel)) (by decide +kernel), by decide +kernel, by decide, by decide⟩
theorem fd_2_39 : am_fd 2 39 0 0 := ⟨am_gwm (List.mem_of_getElem? (i := 88) (by decide +kernel)) (by decide +kernel), by decide +kernel, by decide, by decide⟩
theorem fd_1_30 : am_fd 1 30 0 0 := ⟨am_gwm (List.mem_of_getElem? (i := 89) (by decide +kernel)) (by decide +kernel), by decide +kernel, by decide, by decide⟩
theorem fd_6_59 : am_fd 6 59 0 0 := ⟨am_gwm (List.mem_of_getElem? (i := 90) (by decide +kernel)) (by decide +kernel), by decide +kernel, by decide, by decide⟩
theorem fd_7_133 : am_fd 7 133 0 0 := ⟨am_gwm (List.mem_of_getElem? (i := 91) (by decide +kernel)) (by decide +kernel), by decide +kernel, by decide, by decide⟩
theorem fd_0_15 : am_fd 0 15 0 1 := ⟨am_gwm (List.mem_of_getElem? (i := 92) (by decide +kernel)) (by decide +kernel), by decide +kernel, by decide, by decide⟩
theorem fd_2_34 : am_fd 2 34 0 1 := ⟨am_gwm (List.mem_of_getElem? (i := 93) (by decide +kernel)) (by decide +kernel), by decide +kernel, by decide, by decide⟩
theorem fd_1_25 : am_fd 1 25 0 1 := ⟨am_gwm (List.mem_of_getElem? (i := 94) (by decide +kernel)) (by decide +kernel), by decide +kernel, by decide, by decide⟩
theorem fd_7_136 : am_fd 7 136 0 1 := ⟨am_gwm (List.mem_of_getElem? (i := 95) (by decide +kernel)) (by decide +kernel), by decide +kernel, by decide, by decide⟩
theorem fd_0_18 : am_fd 0 18 0 2 := ⟨am_gwm (List.mem_of_getElem? (i := 96) (by decide +kernel)) (by decide +kernel), by decide +kernel, by decide, by decide⟩
theorem fd_2_30 : am_fd 2 30 2 0 := ⟨am_gwm (List.mem_of_getElem? (i := 128) (by decide +kernel)) (by decide +kernel), by decide +kernel, by decide, by decide⟩
theorem fd_7_106 : am_fd 7 106 2 0 := ⟨am_gwm (List.mem_of_getElem? (i := 129) (by decide +kernel)) (by decide +kernel), by decide +kernel, by decide, by decide⟩
theorem fd_2_9 : am_fd 2 9 2 1 := ⟨am_gwm (List.mem_of_getElem? (i := 130) (by decide +kernel)) (by decide +kernel), by decide +kernel, by decide, by decide⟩
theorem fd_2_15 : am_fd 2 15 2 2 := ⟨am_gwm (List.mem_of_getElem? (i := 131) (by decide +kernel)) (by decide +kernel), by decide +kernel, by decide, by decide⟩
theorem fd_2_18 : am_fd 2 18 2 3 := ⟨am_gwm (List.mem_of_getElem? (i := 132) (by decide +kernel)) (by decide +kernel), by decide +kernel, by decide, by decide⟩
theorem fd_2_21 : am_fd 2 21 2 4 := ⟨am_gwm (List.mem_of_getElem? (i := 133) (by decide +kernel)) (by decide +kernel), by decide +kernel, by decide, by decide⟩
theorem fd_1_21 : am_fd 1 21 1 0 := ⟨am_gwm (List.mem_of_getElem? (i := 151) (by decide +kernel)) (by decide +kernel), by decide +kernel, by decide, by decide⟩
theorem fd_7_149 : am_fd 7 149 1 0 := ⟨am_gwm (List.mem_of_getElem? (i := 152) (by decide +kernel)) (by decide +kernel), by decide +kernel, by decide, by decide⟩
theorem fd_1_9 : am_fd 1 9 1 1 := ⟨am_gwm (List.mem_of_getElem? (i := 153) (by decide +kernel)) (by decide +kernel), by decide +kernel, by decide, by decide⟩
theorem fd_1_15 : am_fd 1 15 1 2 := ⟨am_gwm (List.mem_of_getElem? (i := 154) (by decide +kernel)) (by decide +kernel), by decide +kernel, by decide, by decide⟩
theorem fd_1_18 : am_fd 1 18 1 3 := ⟨am_gwm (List.mem_of_getElem? (i := 155) (by decide +kernel)) (by decide +kernel), by decide +kernel, by decide, by decide⟩
theorem fd_3_19 : am_fd 3 19 3 0 := ⟨am_gwm (List.mem_of_getElem? (i := 171) (by decide +kernel)) (by decide +kernel), by decide +kernel, by decide, by decide⟩
theorem fd_6_37 : am_fd 6 37 3 0 := ⟨am_gwm (List.mem_of_getElem? (i := 172) (by decide +kernel)) (by decide +kernel), by decide +kernel, by decide, by decide⟩
theorem fd_5_19 : am_fd 5 19 3 0 := ⟨am_gwm (List.mem_of_getElem? (i := 173) (by decide +kernel)) (by decide +kernel), by decide +kernel, by decide, by decide⟩
theorem fd_7_159 : am_fd 7 159 3 0 := ⟨am_gwm (List.mem_of_getElem? (i := 174) (by decide +kernel)) (by decide +kernel), by decide +kernel, by decide, by decide⟩
theorem fd_3_22 : am_fd 3 22 3 1 := ⟨am_gwm (List.mem_of_getElem? (i := 175) (by decide +kernel)) (by decide +kernel), by decide +kernel, by decide, by decide⟩
theorem fd_7_185 : am_fd 7 185 3 1 := ⟨am_gwm (List.mem_of_getElem? (i := 176) (by decide +kernel)) (by decide +kernel), by decide +kernel, by decide, by decide⟩
theorem fd_3_26 : am_fd 3 26 3 2 := ⟨am_gwm (List.mem_of_getElem? (i := 177) (by decide +kernel)) (by decide +kernel), by decide +kernel, by decide, by decide⟩
theorem fd_7_188 : am_fd 7 188 3 2 := ⟨am_gwm (List.mem_of_getElem? (i := 178) (by decide +kernel)) (by decide +kernel), by decide +kernel, by decide, by decide⟩
theorem fd_3_9 : am_fd 3 9 3 3 := ⟨am_gwm (List.mem_of_getElem? (i := 179) (by decide +kernel)) (by decide +kernel), by decide +kernel, by decide, by decide⟩
theorem fd_7_191 : am_fd 7 191 3 3 := ⟨am_gwm (List.mem_of_getElem? (i := 180) (by decide +kernel)) (by decide +kernel), by decide +kernel, by decide, by decide⟩
theorem fd_3_15 : am_fd 3 15 3 4 := ⟨am_gwm (List.mem_of_getElem? (i := 181) (by decide +kernel)) (by decide +kernel), by decide +kernel, by decide, by decide⟩
theorem fd_4_57 : am_fd 4 57 5 0 := ⟨am_gwm (List.mem_of_getElem? (i := 205) (by decide +kernel)) (by decide +kernel), by decide +kernel, by decide, by decide⟩
theorem fd_5_32 : am_fd 5 32 5 0 := ⟨am_gwm (List.mem_of_getElem? (i := 206) (by decide +kernel)) (by decide +kernel), by decide +kernel, by decide, by decide⟩
theorem fd_5_35 : am_fd 5 35 5 1 := ⟨am_gwm (List.mem_of_getElem? (i := 207) (by decide +kernel)) (by decide +kernel), by decide +kernel, by decide, by decide⟩
theorem fd_4_121 : am_fd 4 121 5 1 := ⟨am_gwm (List.mem_of_getElem? (i := 208) (by decide +kernel)) (by decide +kernel), by decide +kernel, by decide, by decide⟩
theorem fd_4_53 : am_fd 4 53 5 2 := ⟨am_gwm (List.mem_of_getElem? (i := 209) (by decide +kernel)) (by decide +kernel), by decide +kernel, by decide, by decide⟩
theorem fd_5_38 : am_fd 5 38 5 2 := ⟨am_gwm (List.mem_of_getElem? (i := 210) (by decide +kernel)) (by decide +kernel), by decide +kernel, by decide, by decide⟩
theorem fd_5_9 : am_fd 5 9 5 3 := ⟨am_gwm (List.mem_of_getElem? (i := 211) (by decide +kernel)) (by decide +kernel), by decide +kernel, by decide, by decide⟩
theorem fd_5_15 : am_fd 5 15 5 4 := ⟨am_gwm (List.mem_of_getElem? (i := 212) (by decide +kernel)) (by decide +kernel), by decide +kernel, by decide, by decide⟩
theorem fd_4_9 : am_fd 4 9 4 0 := ⟨am_gwm (List.mem_of_getElem? (i := 226) (by decide +kernel)) (by decide +kernel), by decide +kernel, by decide, by decide⟩
theorem fd_4_24 : am_fd 4 24 4 1 := ⟨am_gwm (List.mem_of_getElem? (i := 227) (by decide +kernel)) (by decide +kernel), by decide +kernel, by decide, by decide⟩
theorem fd_4_15 : am_fd 4 15 4 2 := ⟨am_gwm (List.mem_of_getElem? (i := 228) (by decide +kernel)) (by decide +kernel), by decide +kernel, by decide, by decide⟩
theorem fd_4_30 : am_fd 4 30 4 3 := ⟨am_gwm (List.mem_of_getElem? (i := 229) (by decide +kernel)) (by decide +kernel), by decide +kernel, by decide, by decide⟩
theorem fd_4_34 : am_fd 4 34 4 4 := ⟨am_gwm (List.mem_of_getElem? (i := 230) (by decide +kernel)) (by decide +kernel), by decide +kernel, by decide, by decide⟩
theorem fd_6_33 : am_fd 6 33 6 0 := ⟨am_gwm (List.mem_of_getElem? (i := 248) (by decide +kernel)) (by decide +kernel), by decide +kernel, by decide, by decide⟩
theorem fd_7_182 : am_fd 7 182 6 0 := ⟨am_gwm (List.mem_of_getElem? (i := 249) (by decide +kernel)) (by decide +kernel), by decide +kernel, by decide, by decide⟩
theorem fd_6_18 : am_fd 6 18 6 1 := ⟨am_gwm (List.mem_of_getElem? (i := 250) (by decide +kernel)) (by decide +kernel), by decide +kernel, by decide, by decide⟩
theorem fd_6_9 : am_fd 6 9 6 2 := ⟨am_gwm (List.mem_of_getElem? (i := 251) (by decide +kernel)) (by decide +kernel), by decide +kernel, by decide, by decide⟩
theorem fd_6_15 : am_fd 6 15 6 3 := ⟨am_gwm (List.mem_of_getElem? (i := 252) (by decide +kernel)) (by decide +kernel), by decide +kernel, by decide, by decide⟩
theorem fd_6_76 : am_fd 6 76 6 4 := ⟨am_gwm (List.mem_of_getElem? (i := 253) (by decide +kernel)) (by decide +kernel), by decide +kernel, by decide, by decide⟩
theorem fd_6_79 : am_fd 6 79 6 5 := ⟨am_gwm (List.mem_of_getElem? (i := 254) (by decide +kernel)) (by decide +kernel), by decide +kernel, by decide, by decide⟩
theorem fd_7_10 : am_fd 7 10 7 0 := ⟨am_gwm (List.mem_of_getElem? (i := 268) (by decide +kernel)) (by decide +kernel), by decide +kernel, by decide, by decide⟩
theorem fd_7_29 : am_fd 7 29 7 1 := ⟨am_gwm (List.mem_of_getElem? (i := 269) (by decide +kernel)) (by decide +kernel), by decide +kernel, by decide, by decide⟩
theorem fd_7_32 : am_fd 7 32 7 2 := ⟨am_gwm (List.mem_of_getElem? (i := 270) (by decide +kernel)) (by decide +kernel), by decide +kernel, by decide, by decide⟩
theorem fd_7_36 : am_fd 7 36 7 3 := ⟨am_gwm (List.mem_of_getElem? (i := 271) (by decide +kernel)) (by decide +kernel), by decide +kernel, by decide, by decide⟩
theorem fd_7_43 : am_fd 7 43 7 4 := ⟨am_gwm (List.mem_of_getElem? (i := 272) (by decide +kernel)) (by decide +kernel), by decide +kernel, by decide, by decide⟩
theorem fd_7_50 : am_fd 7 50 7 5 := ⟨am_gwm (List.mem_of_getElem? (i := 273) (by decide +kernel)) (by decide +kernel), by decide +kernel, by decide, by decide⟩
theorem fd_7_57 : am_fd 7 57 7 6 := ⟨am_gwm (List.mem_of_getElem? (i := 274) (by decide +kernel)) (by decide +kernel), by decide +kernel, by decide, by decide⟩
theorem fd_7_66 : am_fd 7 66 7 7 := ⟨am_gwm (List.mem_of_getElem? (i := 275) (by decide +kernel)) (by decide +kernel), by decide +kernel, by decide, by decide⟩
theorem fd_7_75 : am_fd 7 75 7 8 := ⟨am_gwm (List.mem_of_getElem? (i := 276) (by decide +kernel)) (by decide +kernel), by decide +kernel, by decide, by decide⟩
theorem fd_7_79 : am_fd 7 79 7 9 := ⟨am_gwm (List.mem_of_getElem? (i := 277) (by decide +kernel)) (by decide +kernel), by decide +kernel, by decide, by decide⟩
theorem fd_7_83 : am_fd 7 83 7 10 := ⟨am_gwm (List.mem_of_getElem? (i := 278) (by decide +kernel)) (by decide +kernel), by decide +kernel, by decide, by decide⟩
theorem fd_8_7 : am_fd 8 7 8 0 := ⟨am_gwm (List.mem_of_getElem? (i := 744) (by decide +kernel)) (by decide +kernel), by decide +kernel, by decide, by decide⟩
theorem fd_8_13 : am_fd 8 13 8 1 := ⟨am_gwm (List.mem_of_getElem? (i := 745) (by decide +kernel)) (by decide +kernel), by decide +kernel, by decide, by decide⟩
theorem fd_8_16 : am_fd 8 16 8 2 := ⟨am_gwm (List.mem_of_getElem? (i := 746) (by decide +kernel)) (by decide +kernel), by decide +kernel, by decide, by decide⟩
theorem fd_8_20 : am_fd 8 20 8 3 := ⟨am_gwm (List.mem_of_getElem? (i := 747) (by decide +kernel)) (by decide +kernel), by decide +kernel, by decide, by decide⟩
theorem fd_8_85 : am_fd 8 85 8 4 := ⟨am_gwm (List.mem_of_getElem? (i := 748) (by decide +kernel)) (by decide +kernel), by decide +kernel, by decide, by decide⟩
theorem fd_8_24 : am_fd 8 24 8 5 := ⟨am_gwm (List.mem_of_getElem? (i := 749) (by decide +kernel)) (by decide +kernel), by decide +kernel, by decide, by decide⟩
theorem fd_8_27 : am_fd 8 27 8 6 := ⟨am_gwm (List.mem_of_getElem? (i := 750) (by decide +kernel)) (by decide +kernel), by decide +kernel, by decide, by decide⟩
theorem fd_8_30 : am_fd 8 30 8 7 := ⟨am_gwm (List.mem_of_getElem? (i := 751) (by decide +kernel)) (by decide +kernel), by decide +kernel, by decide, by decide⟩
theorem fd_8_33 : am_fd 8 33 8 8 := ⟨am_gwm (List.mem_of_getElem? (i := 752) (by decide +kernel)) (by decide +kernel), by decide +kernel, by decide, by decide⟩
theorem fd_8_36 : am_fd 8 36 8 9 := ⟨am_gwm (List.mem_of_getElem? (i := 753) (by decide +kernel)) (by decide +kernel), by decide +kernel, by decide, by decide⟩
theorem fd_8_105 : am_fd 8 105 8 10 := ⟨am_gwm (List.mem_of_getElem? (i := 754) (by decide +kernel)) (by decide +kernel), by decide +kernel, by decide, by decide⟩
theorem fd_8_108 : am_fd 8 108 8 11 := ⟨am_gwm (List.mem_of_getElem? (i := 755) (by decide +kernel)) (by decide +kernel), by decide +kernel, by decide, by decide⟩
theorem fd_8_39 : am_fd 8 39 8 12 := ⟨am_gwm (List.mem_of_getElem? (i := 756) (by decide +kernel)) (by decide +kernel), by decide +kernel, by decide, by decide⟩
theorem fd_8_42 : am_fd 8 42 8 13 := ⟨am_gwm (List.mem_of_getElem? (i := 757) (by decide +kernel)) (by decide +kernel), by decide +kernel, by decide, by decide⟩
theorem fd_8_121 : am_fd 8 121 8 14 := ⟨am_gwm (List.mem_of_getElem? (i := 758) (by decide +kernel)) (by decide +kernel), by decide +kernel, by decide, by decide⟩
theorem fd_8_45 : am_fd 8 45 8 15 := ⟨am_gwm (List.mem_of_getElem? (i := 759) (by decide +kernel)) (by decide +kernel), by decide +kernel, by decide, by decide⟩
theorem fd_8_49 : am_fd 8 49 8 16 := ⟨am_gwm (List.mem_of_getElem? (i := 760) (by decide +kernel)) (by decide +kernel), by decide +kernel, by decide, by decide⟩
theorem fd_8_148 : am_fd 8 148 8 17 := ⟨am_gwm (List.mem_of_getElem? (i := 761) (by decide +kernel)) (by decide +kernel), by decide +kernel, by decide, by decide⟩
theorem fd_8_154 : am_fd 8 154 8 18 := ⟨am_gwm (List.mem_of_getElem? (i := 762) (by decide +kernel)) (by decide +kernel), by decide +kernel, by decide, by decide⟩
theorem fd_8_157 : am_fd 8 157 8 19 := ⟨am_gwm (List.mem_of_getElem? (i := 763) (by decide +kernel)) (by decide +kernel), by decide +kernel, by decide, by decide⟩
theorem fd_8_163 : am_fd 8 163 8 20 := ⟨am_gwm (List.mem_of_getElem? (i := 764) (by decide +kernel)) (by decide +kernel), by decide +kernel, by decide, by decide⟩
theorem fd_8_173 : am_fd 8 173 8 21 := ⟨am_gwm (List.mem_of_getElem? (i := 765) (by decide +kernel)) (by decide +kernel), by decide +kernel, by decide, by decide⟩
theorem fd_8_52 : am_fd 8 52 8 22 := ⟨am_gwm (List.mem_of_getElem? (i := 766) (by decide +kernel)) (by decide +kernel), by decide +kernel, by decide, by decide⟩
theorem fd_8_55 : am_fd 8 55 8 23 := ⟨am_gwm (List.mem_of_getElem? (i := 767) (by decide +kernel)) (by decide +kernel), by decide +kernel, by decide, by decide⟩
theorem fd_8_58 : am_fd 8 58 8 24 := ⟨am_gwm (List.mem_of_getElem? (i := 768) (by decide +kernel)) (by decide +kernel), by decide +kernel, by decide, by decide⟩
theorem fd_8_61 : am_fd 8 61 8 25 := ⟨am_gwm (List.mem_of_getElem? (i := 769) (by decide +kernel)) (by decide +kernel), by decide +kernel, by decide, by decide⟩
theorem fd_8_182 : am_fd 8 182 8 26 := ⟨am_gwm (List.mem_of_getElem? (i := 770) (by decide +kernel)) (by decide +kernel), by decide +kernel, by decide, by decide⟩
theorem fd_8_64 : am_fd 8 64 8 27 := ⟨am_gwm (List.mem_of_getElem? (i := 771) (by decide +kernel)) (by decide +kernel), by decide +kernel, by decide, by decide⟩
theorem fd_8_67 : am_fd 8 67 8 28 := ⟨am_gwm (List.mem_of_getElem? (i := 772) (by decide +kernel)) (by decide +kernel), by decide +kernel, by decide, by decide⟩
theorem fd_8_224 : am_fd 8 224 8 29 := ⟨am_gwm (List.mem_of_getElem? (i := 773) (by decide +kernel)) (by decide +kernel), by decide +kernel, by decide, by decide⟩
-- the calls
theorem cf_9_15 : am_cI 9 15 Y_X7_init 2 := ⟨cb_X7_init, am_gwm (List.mem_of_getElem? (i := 75) (by decide +kernel)) (by decide +kernel), am_gwm (List.mem_of_getElem? (i := 76) (by decide +kernel)) (by decide +kernel), rfl, rfl⟩
theorem cf_7_9 : am_cIN 7 9 Y_X0_init 0 := ⟨cb_X0_init, by decide +kernel, am_gwm (List.mem_of_getElem? (i := 84) (by decide +kernel)) (by decide +kernel), rfl, rfl⟩
theorem cf_7_16 : am_cS 7 16 Y_J9_max_7cf53 2 := ⟨cb_J9_max_7cf53, am_gwm (List.mem_of_getElem? (i := 105) (by decide +kernel)) (by decide +kernel), am_gwm (List.mem_of_getElem? (i := 106) (by decide +kernel)) (by decide +kernel)⟩
theorem cf_7_22 : am_cS 7 22 Y_J9_min_7cf53 2 := ⟨cb_J9_min_7cf53, am_gwm (List.mem_of_getElem? (i := 108) (by decide +kernel)) (by decide +kernel), am_gwm (List.mem_of_getElem? (i := 109) (by decide +kernel)) (by decide +kernel)⟩
theorem cf_7_25 : am_cV 7 25 Y_X0_clear 2 := ⟨cb_X0_clear, am_gwm (List.mem_of_getElem? (i := 111) (by decide +kernel)) (by decide +kernel), am_gwm (List.mem_of_getElem? (i := 112) (by decide +kernel)) (by decide +kernel), am_gwm (List.mem_of_getElem? (i := 113) (by decide +kernel)) (by decide +kernel), rfl, by decide⟩
theorem cf_0_22 : am_cSN 0 22 Y_X7_isDots 1 := ⟨cb_X7_isDots, by decide +kernel, am_gwm (List.mem_of_getElem? (i := 116) (by decide +kernel)) (by decide +kernel)⟩
theorem cf_0_26 : am_cS 0 26 Y_J7_fill_53178 2 := ⟨cb_J7_fill_53178, am_gwm (List.mem_of_getElem? (i := 118) (by decide +kernel)) (by decide +kernel), am_gwm (List.mem_of_getElem? (i := 119) (by decide +kernel)) (by decide +kernel)⟩
theorem cf_7_42 : am_cIN 7 42 Y_X2_init 0 := ⟨cb_X2_init, by decide +kernel, am_gwm (List.mem_of_getElem? (i := 125) (by decide +kernel)) (by decide +kernel), rfl, rfl⟩
theorem cf_7_49 : am_cIN 7 49 Y_X1_init 0 := ⟨cb_X1_init, by decide +kernel, am_gwm (List.mem_of_getElem? (i := 148) (by decide +kernel)) (by decide +kernel), rfl, rfl⟩
theorem cf_7_56 : am_cIN 7 56 Y_X3_init 0 := ⟨cb_X3_init, by decide +kernel, am_gwm (List.mem_of_getElem? (i := 168) (by decide +kernel)) (by decide +kernel), rfl, rfl⟩
theorem cf_7_63 : am_cI 7 63 Y_X4_init 2 := ⟨cb_X4_init, am_gwm (List.mem_of_getElem? (i := 195) (by decide +kernel)) (by decide +kernel), am_gwm (List.mem_of_getElem? (i := 196) (by decide +kernel)) (by decide +kernel), rfl, rfl⟩
theorem cf_4_21 : am_cI 4 21 Y_X5_init 1 := ⟨cb_X5_init, am_gwm (List.mem_of_getElem? (i := 201) (by decide +kernel)) (by decide +kernel), am_gwm (List.mem_of_getElem? (i := 202) (by decide +kernel)) (by decide +kernel), rfl, rfl⟩
theorem cf_4_33 : am_cIN 4 33 Y_X0_init 0 := ⟨cb_X0_init, by decide +kernel, am_gwm (List.mem_of_getElem? (i := 84) (by decide +kernel)) (by decide +kernel), rfl, rfl⟩
theorem cf_7_72 : am_cI 7 72 Y_X6_init 1 := ⟨cb_X6_init, am_gwm (List.mem_of_getElem? (i := 244) (by decide +kernel)) (by decide +kernel), am_gwm (List.mem_of_getElem? (i := 245) (by decide +kernel)) (by decide +kernel), rfl, rfl⟩
theorem cf_9_21 : am_cV 9 21 Y_X7_set 3 := ⟨cb_X7_set, am_gwm (List.mem_of_getElem? (i := 302) (by decide +kernel)) (by decide +kernel), am_gwm (List.mem_of_getElem? (i := 303) (by decide +kernel)) (by decide +kernel), am_gwm (List.mem_of_getElem? (i := 304) (by decide +kernel)) (by decide +kernel), rfl, by decide⟩
theorem cf_7_86 : am_cV 7 86 Y_X0_isInner 2 := ⟨cb_X0_isInner, am_gwm (List.mem_of_getElem? (i := 306) (by decide +kernel)) (by decide +kernel), am_gwm (List.mem_of_getElem? (i := 307) (by decide +kernel)) (by decide +kernel), am_gwm (List.mem_of_getElem? (i := 308) (by decide +kernel)) (by decide +kernel), rfl, by decide⟩
theorem cf_7_90 : am_cV 7 90 Y_X0_put 3 := ⟨cb_X0_put, am_gwm (List.mem_of_getElem? (i := 310) (by decide +kernel)) (by decide +kernel), am_gwm (List.mem_of_getElem? (i := 311) (by decide +kernel)) (by decide +kernel), am_gwm (List.mem_of_getElem? (i := 312) (by decide +kernel)) (by decide +kernel), rfl, by decide⟩
theorem cf_0_36 : am_cV 0 36 Y_X0_isInner 2 := ⟨cb_X0_isInner, am_gwm (List.mem_of_getElem? (i := 314) (by decide +kernel)) (by decide +kernel), am_gwm (List.mem_of_getElem? (i := 307) (by decide +kernel)) (by decide +kernel), am_gwm (List.mem_of_getElem? (i := 308) (by decide +kernel)) (by decide +kernel), rfl, by decide⟩
theorem cf_0_40 : am_cSN 0 40 Y_X7_placeOf 2 := ⟨cb_X7_placeOf, by decide +kernel, am_gwm (List.mem_of_getElem? (i := 316) (by decide +kernel)) (by decide +kernel)⟩
theorem cf_7_94 : am_cV 7 94 Y_X7_forgetLines 0 := ⟨cb_X7_forgetLines, am_gwm (List.mem_of_getElem? (i := 318) (by decide +kernel)) (by decide +kernel), am_gwm (List.mem_of_getElem? (i := 320) (by decide +kernel)) (by decide +kernel), am_gwm (List.mem_of_getElem? (i := 0) (by decide +kernel)) (by decide +kernel), rfl, by decide⟩
theorem cf_9_26 : am_cV 9 26 Y_X7_mirror 2 := ⟨cb_X7_mirror, am_gwm (List.mem_of_getElem? (i := 322) (by decide +kernel)) (by decide +kernel), am_gwm (List.mem_of_getElem? (i := 323) (by decide +kernel)) (by decide +kernel), am_gwm (List.mem_of_getElem? (i := 324) (by decide +kernel)) (by decide +kernel), rfl, by decide⟩
theorem cf_7_97 : am_cV 7 97 Y_X0_mirrorAt 2 := ⟨cb_X0_mirrorAt, am_gwm (List.mem_of_getElem? (i := 326) (by decide +kernel)) (by decide +kernel), am_gwm (List.mem_of_getElem? (i := 327) (by decide +kernel)) (by decide +kernel), am_gwm (List.mem_of_getElem? (i := 328) (by decide +kernel)) (by decide +kernel), rfl, by decide⟩
theorem cf_9_31 : am_cV 9 31 Y_X7_pin 3 := ⟨cb_X7_pin, am_gwm (List.mem_of_getElem? (i := 330) (by decide +kernel)) (by decide +kernel), am_gwm (List.mem_of_getElem? (i := 331) (by decide +kernel)) (by decide +kernel), am_gwm (List.mem_of_getElem? (i := 332) (by decide +kernel)) (by decide +kernel), rfl, by decide⟩
theorem cf_7_100 : am_cS 7 100 Y_X7_placeOf 2 := ⟨cb_X7_placeOf, am_gwm (List.mem_of_getElem? (i := 334) (by decide +kernel)) (by decide +kernel), am_gwm (List.mem_of_getElem? (i := 316) (by decide +kernel)) (by decide +kernel)⟩
theorem cf_9_36 : am_cV 9 36 Y_X7_lines 0 := ⟨cb_X7_lines, am_gwm (List.mem_of_getElem? (i := 335) (by decide +kernel)) (by decide +kernel), am_gwm (List.mem_of_getElem? (i := 336) (by decide +kernel)) (by decide +kernel), am_gwm (List.mem_of_getElem? (i := 337) (by decide +kernel)) (by decide +kernel), rfl, by decide⟩
theorem cf_7_103 : am_cV 7 103 Y_X7_knowLines 0 := ⟨cb_X7_knowLines, am_gwm (List.mem_of_getElem? (i := 339) (by decide +kernel)) (by decide +kernel), am_gwm (List.mem_of_getElem? (i := 341) (by decide +kernel)) (by decide +kernel), am_gwm (List.mem_of_getElem? (i := 1) (by decide +kernel)) (by decide +kernel), rfl, by decide⟩
theorem cf_7_218 : am_cV 7 218 Y_X2_findAll 1 := ⟨cb_X2_findAll, am_gwm (List.mem_of_getElem? (i := 343) (by decide +kernel)) (by decide +kernel), am_gwm (List.mem_of_getElem? (i := 344) (by decide +kernel)) (by decide +kernel), am_gwm (List.mem_of_getElem? (i := 345) (by decide +kernel)) (by decide +kernel), rfl, by decide⟩
theorem cf_2_24 : am_cS 2 24 Y_J7_fill_53178 2 := ⟨cb_J7_fill_53178, am_gwm (List.mem_of_getElem? (i := 347) (by decide +kernel)) (by decide +kernel), am_gwm (List.mem_of_getElem? (i := 119) (by decide +kernel)) (by decide +kernel)⟩
theorem cf_2_42 : am_cV 2 42 Y_X2_lineThrough 1 := ⟨cb_X2_lineThrough, am_gwm (List.mem_of_getElem? (i := 348) (by decide +kernel)) (by decide +kernel), am_gwm (List.mem_of_getElem? (i := 349) (by decide +kernel)) (by decide +kernel), am_gwm (List.mem_of_getElem? (i := 350) (by decide +kernel)) (by decide +kernel), rfl, by decide⟩
theorem cf_2_46 : am_cV 2 46 Y_X2_follow 3 := ⟨cb_X2_follow, am_gwm (List.mem_of_getElem? (i := 352) (by decide +kernel)) (by decide +kernel), am_gwm (List.mem_of_getElem? (i := 354) (by decide +kernel)) (by decide +kernel), am_gwm (List.mem_of_getElem? (i := 2) (by decide +kernel)) (by decide +kernel), rfl, by decide⟩
theorem cf_2_50 : am_cV 2 50 Y_X0_isSquare 1 := ⟨cb_X0_isSquare, am_gwm (List.mem_of_getElem? (i := 356) (by decide +kernel)) (by decide +kernel), am_gwm (List.mem_of_getElem? (i := 357) (by decide +kernel)) (by decide +kernel), am_gwm (List.mem_of_getElem? (i := 358) (by decide +kernel)) (by decide +kernel), rfl, by decide⟩
theorem cf_0_32 : am_cV 0 32 Y_X0_squareCount 0 := ⟨cb_X0_squareCount, am_gwm (List.mem_of_getElem? (i := 360) (by decide +kernel)) (by decide +kernel), am_gwm (List.mem_of_getElem? (i := 361) (by decide +kernel)) (by decide +kernel), am_gwm (List.mem_of_getElem? (i := 362) (by decide +kernel)) (by decide +kernel), rfl, by decide⟩
theorem cf_2_54 : am_cV 2 54 Y_X0_mirrorAt 2 := ⟨cb_X0_mirrorAt, am_gwm (List.mem_of_getElem? (i := 364) (by decide +kernel)) (by decide +kernel), am_gwm (List.mem_of_getElem? (i := 327) (by decide +kernel)) (by decide +kernel), am_gwm (List.mem_of_getElem? (i := 328) (by decide +kernel)) (by decide +kernel), rfl, by decide⟩
theorem cf_9_41 : am_cV 9 41 Y_X7_lineOf 1 := ⟨cb_X7_lineOf, am_gwm (List.mem_of_getElem? (i := 365) (by decide +kernel)) (by decide +kernel), am_gwm (List.mem_of_getElem? (i := 366) (by decide +kernel)) (by decide +kernel), am_gwm (List.mem_of_getElem? (i := 367) (by decide +kernel)) (by decide +kernel), rfl, by decide⟩
theorem cf_7_110 : am_cV 7 110 Y_X0_isSquare 1 := ⟨cb_X0_isSquare, am_gwm (List.mem_of_getElem? (i := 369) (by decide +kernel)) (by decide +kernel), am_gwm (List.mem_of_getElem? (i := 357) (by decide +kernel)) (by decide +kernel), am_gwm (List.mem_of_getElem? (i := 358) (by decide +kernel)) (by decide +kernel), rfl, by decide⟩
theorem cf_7_114 : am_cV 7 114 Y_X2_lineThrough 1 := ⟨cb_X2_lineThrough, am_gwm (List.mem_of_getElem? (i := 370) (by decide +kernel)) (by decide +kernel), am_gwm (List.mem_of_getElem? (i := 349) (by decide +kernel)) (by decide +kernel), am_gwm (List.mem_of_getElem? (i := 350) (by decide +kernel)) (by decide +kernel), rfl, by decide⟩
theorem cf_9_46 : am_cV 9 46 Y_X7_line 2 := ⟨cb_X7_line, am_gwm (List.mem_of_getElem? (i := 371) (by decide +kernel)) (by decide +kernel), am_gwm (List.mem_of_getElem? (i := 372) (by decide +kernel)) (by decide +kernel), am_gwm (List.mem_of_getElem? (i := 373) (by decide +kernel)) (by decide +kernel), rfl, by decide⟩
theorem cf_7_118 : am_cV 7 118 Y_X2_isLine 1 := ⟨cb_X2_isLine, am_gwm (List.mem_of_getElem? (i := 375) (by decide +kernel)) (by decide +kernel), am_gwm (List.mem_of_getElem? (i := 376) (by decide +kernel)) (by decide +kernel), am_gwm (List.mem_of_getElem? (i := 377) (by decide +kernel)) (by decide +kernel), rfl, by decide⟩
theorem cf_7_121 : am_cV 7 121 Y_X2_lengthOf 1 := ⟨cb_X2_lengthOf, am_gwm (List.mem_of_getElem? (i := 379) (by decide +kernel)) (by decide +kernel), am_gwm (List.mem_of_getElem? (i := 380) (by decide +kernel)) (by decide +kernel), am_gwm (List.mem_of_getElem? (i := 381) (by decide +kernel)) (by decide +kernel), rfl, by decide⟩
theorem cf_2_58 : am_cV 2 58 Y_X2_isLine 1 := ⟨cb_X2_isLine, am_gwm (List.mem_of_getElem? (i := 383) (by decide +kernel)) (by decide +kernel), am_gwm (List.mem_of_getElem? (i := 376) (by decide +kernel)) (by decide +kernel), am_gwm (List.mem_of_getElem? (i := 377) (by decide +kernel)) (by decide +kernel), rfl, by decide⟩
theorem cf_7_124 : am_cV 7 124 Y_X2_squareOf 2 := ⟨cb_X2_squareOf, am_gwm (List.mem_of_getElem? (i := 384) (by decide +kernel)) (by decide +kernel), am_gwm (List.mem_of_getElem? (i := 385) (by decide +kernel)) (by decide +kernel), am_gwm (List.mem_of_getElem? (i := 386) (by decide +kernel)) (by decide +kernel), rfl, by decide⟩
theorem cf_2_61 : am_cV 2 61 Y_X2_lengthOf 1 := ⟨cb_X2_lengthOf, am_gwm (List.mem_of_getElem? (i := 388) (by decide +kernel)) (by decide +kernel), am_gwm (List.mem_of_getElem? (i := 380) (by decide +kernel)) (by decide +kernel), am_gwm (List.mem_of_getElem? (i := 381) (by decide +kernel)) (by decide +kernel), rfl, by decide⟩
theorem cf_7_127 : am_cV 7 127 Y_X7_dotsHeld 2 := ⟨cb_X7_dotsHeld, am_gwm (List.mem_of_getElem? (i := 389) (by decide +kernel)) (by decide +kernel), am_gwm (List.mem_of_getElem? (i := 391) (by decide +kernel)) (by decide +kernel), am_gwm (List.mem_of_getElem? (i := 3) (by decide +kernel)) (by decide +kernel), rfl, by decide⟩
theorem cf_7_139 : am_cV 7 139 Y_X7_squaresRound 3 := ⟨cb_X7_squaresRound, am_gwm (List.mem_of_getElem? (i := 393) (by decide +kernel)) (by decide +kernel), am_gwm (List.mem_of_getElem? (i := 395) (by decide +kernel)) (by decide +kernel), am_gwm (List.mem_of_getElem? (i := 4) (by decide +kernel)) (by decide +kernel), rfl, by decide⟩
theorem cf_7_130 : am_cV 7 130 Y_X7_pointsMetTwice 1 := ⟨cb_X7_pointsMetTwice, am_gwm (List.mem_of_getElem? (i := 397) (by decide +kernel)) (by decide +kernel), am_gwm (List.mem_of_getElem? (i := 399) (by decide +kernel)) (by decide +kernel), am_gwm (List.mem_of_getElem? (i := 5) (by decide +kernel)) (by decide +kernel), rfl, by decide⟩
theorem cf_9_50 : am_cV 9 50 Y_X7_walk 2 := ⟨cb_X7_walk, am_gwm (List.mem_of_getElem? (i := 401) (by decide +kernel)) (by decide +kernel), am_gwm (List.mem_of_getElem? (i := 402) (by decide +kernel)) (by decide +kernel), am_gwm (List.mem_of_getElem? (i := 403) (by decide +kernel)) (by decide +kernel), rfl, by decide⟩
theorem cf_9_54 : am_cV 9 54 Y_X7_holds 3 := ⟨cb_X7_holds, am_gwm (List.mem_of_getElem? (i := 405) (by decide +kernel)) (by decide +kernel), am_gwm (List.mem_of_getElem? (i := 406) (by decide +kernel)) (by decide +kernel), am_gwm (List.mem_of_getElem? (i := 407) (by decide +kernel)) (by decide +kernel), rfl, by decide⟩
theorem cf_9_59 : am_cV 9 59 Y_X7_colour 1 := ⟨cb_X7_colour, am_gwm (List.mem_of_getElem? (i := 409) (by decide +kernel)) (by decide +kernel), am_gwm (List.mem_of_getElem? (i := 410) (by decide +kernel)) (by decide +kernel), am_gwm (List.mem_of_getElem? (i := 411) (by decide +kernel)) (by decide +kernel), rfl, by decide⟩
theorem cf_7_143 : am_cV 7 143 Y_X2_placeInWalk 1 := ⟨cb_X2_placeInWalk, am_gwm (List.mem_of_getElem? (i := 413) (by decide +kernel)) (by decide +kernel), am_gwm (List.mem_of_getElem? (i := 414) (by decide +kernel)) (by decide +kernel), am_gwm (List.mem_of_getElem? (i := 415) (by decide +kernel)) (by decide +kernel), rfl, by decide⟩
theorem cf_9_63 : am_cV 9 63 Y_X7_coloured 2 := ⟨cb_X7_coloured, am_gwm (List.mem_of_getElem? (i := 417) (by decide +kernel)) (by decide +kernel), am_gwm (List.mem_of_getElem? (i := 418) (by decide +kernel)) (by decide +kernel), am_gwm (List.mem_of_getElem? (i := 419) (by decide +kernel)) (by decide +kernel), rfl, by decide⟩
theorem cf_9_68 : am_cV 9 68 Y_X7_joined 1 := ⟨cb_X7_joined, am_gwm (List.mem_of_getElem? (i := 421) (by decide +kernel)) (by decide +kernel), am_gwm (List.mem_of_getElem? (i := 422) (by decide +kernel)) (by decide +kernel), am_gwm (List.mem_of_getElem? (i := 423) (by decide +kernel)) (by decide +kernel), rfl, by decide⟩
theorem cf_7_146 : am_cV 7 146 Y_X7_knowJoin 0 := ⟨cb_X7_knowJoin, am_gwm (List.mem_of_getElem? (i := 425) (by decide +kernel)) (by decide +kernel), am_gwm (List.mem_of_getElem? (i := 427) (by decide +kernel)) (by decide +kernel), am_gwm (List.mem_of_getElem? (i := 6) (by decide +kernel)) (by decide +kernel), rfl, by decide⟩
theorem cf_7_221 : am_cV 7 221 Y_X1_choose 3 := ⟨cb_X1_choose, am_gwm (List.mem_of_getElem? (i := 429) (by decide +kernel)) (by decide +kernel), am_gwm (List.mem_of_getElem? (i := 430) (by decide +kernel)) (by decide +kernel), am_gwm (List.mem_of_getElem? (i := 431) (by decide +kernel)) (by decide +kernel), rfl, by decide⟩
theorem cf_1_33 : am_cSN 1 33 Y_X7_placeOf 2 := ⟨cb_X7_placeOf, by decide +kernel, am_gwm (List.mem_of_getElem? (i := 316) (by decide +kernel)) (by decide +kernel)⟩
theorem cf_1_37 : am_cV 1 37 Y_X1_tryPoint 4 := ⟨cb_X1_tryPoint, am_gwm (List.mem_of_getElem? (i := 434) (by decide +kernel)) (by decide +kernel), am_gwm (List.mem_of_getElem? (i := 436) (by decide +kernel)) (by decide +kernel), am_gwm (List.mem_of_getElem? (i := 7) (by decide +kernel)) (by decide +kernel), rfl, by decide⟩
theorem cf_1_41 : am_cV 1 41 Y_X0_mirrorAt 2 := ⟨cb_X0_mirrorAt, am_gwm (List.mem_of_getElem? (i := 438) (by decide +kernel)) (by decide +kernel), am_gwm (List.mem_of_getElem? (i := 327) (by decide +kernel)) (by decide +kernel), am_gwm (List.mem_of_getElem? (i := 328) (by decide +kernel)) (by decide +kernel), rfl, by decide⟩
theorem cf_1_44 : am_cV 1 44 Y_X2_lineThrough 1 := ⟨cb_X2_lineThrough, am_gwm (List.mem_of_getElem? (i := 439) (by decide +kernel)) (by decide +kernel), am_gwm (List.mem_of_getElem? (i := 349) (by decide +kernel)) (by decide +kernel), am_gwm (List.mem_of_getElem? (i := 350) (by decide +kernel)) (by decide +kernel), rfl, by decide⟩
theorem cf_1_50 : am_cV 1 50 Y_X1_unite 2 := ⟨cb_X1_unite, am_gwm (List.mem_of_getElem? (i := 440) (by decide +kernel)) (by decide +kernel), am_gwm (List.mem_of_getElem? (i := 442) (by decide +kernel)) (by decide +kernel), am_gwm (List.mem_of_getElem? (i := 8) (by decide +kernel)) (by decide +kernel), rfl, by decide⟩
theorem cf_9_72 : am_cV 9 72 Y_X7_change 2 := ⟨cb_X7_change, am_gwm (List.mem_of_getElem? (i := 444) (by decide +kernel)) (by decide +kernel), am_gwm (List.mem_of_getElem? (i := 445) (by decide +kernel)) (by decide +kernel), am_gwm (List.mem_of_getElem? (i := 446) (by decide +kernel)) (by decide +kernel), rfl, by decide⟩
theorem cf_7_150 : am_cV 7 150 Y_X1_columnOf 1 := ⟨cb_X1_columnOf, am_gwm (List.mem_of_getElem? (i := 448) (by decide +kernel)) (by decide +kernel), am_gwm (List.mem_of_getElem? (i := 449) (by decide +kernel)) (by decide +kernel), am_gwm (List.mem_of_getElem? (i := 450) (by decide +kernel)) (by decide +kernel), rfl, by decide⟩
theorem cf_7_153 : am_cV 7 153 Y_X1_rowOf 1 := ⟨cb_X1_rowOf, am_gwm (List.mem_of_getElem? (i := 452) (by decide +kernel)) (by decide +kernel), am_gwm (List.mem_of_getElem? (i := 453) (by decide +kernel)) (by decide +kernel), am_gwm (List.mem_of_getElem? (i := 454) (by decide +kernel)) (by decide +kernel), rfl, by decide⟩
theorem cf_7_156 : am_cS 7 156 Y_X7_lowerOther 1 := ⟨cb_X7_lowerOther, am_gwm (List.mem_of_getElem? (i := 456) (by decide +kernel)) (by decide +kernel), am_gwm (List.mem_of_getElem? (i := 457) (by decide +kernel)) (by decide +kernel)⟩
theorem cf_9_76 : am_cV 9 76 Y_X7_join 0 := ⟨cb_X7_join, am_gwm (List.mem_of_getElem? (i := 459) (by decide +kernel)) (by decide +kernel), am_gwm (List.mem_of_getElem? (i := 460) (by decide +kernel)) (by decide +kernel), am_gwm (List.mem_of_getElem? (i := 461) (by decide +kernel)) (by decide +kernel), rfl, by decide⟩
theorem cf_9_80 : am_cV 9 80 Y_X7_feed 5 := ⟨cb_X7_feed, am_gwm (List.mem_of_getElem? (i := 463) (by decide +kernel)) (by decide +kernel), am_gwm (List.mem_of_getElem? (i := 464) (by decide +kernel)) (by decide +kernel), am_gwm (List.mem_of_getElem? (i := 465) (by decide +kernel)) (by decide +kernel), rfl, by decide⟩
theorem cf_7_162 : am_cV 7 162 Y_X3_add 1 := ⟨cb_X3_add, am_gwm (List.mem_of_getElem? (i := 467) (by decide +kernel)) (by decide +kernel), am_gwm (List.mem_of_getElem? (i := 468) (by decide +kernel)) (by decide +kernel), am_gwm (List.mem_of_getElem? (i := 469) (by decide +kernel)) (by decide +kernel), rfl, by decide⟩
theorem cf_9_85 : am_cV 9 85 Y_X7_end 1 := ⟨cb_X7_end, am_gwm (List.mem_of_getElem? (i := 471) (by decide +kernel)) (by decide +kernel), am_gwm (List.mem_of_getElem? (i := 472) (by decide +kernel)) (by decide +kernel), am_gwm (List.mem_of_getElem? (i := 473) (by decide +kernel)) (by decide +kernel), rfl, by decide⟩
theorem cf_9_89 : am_cV 9 89 Y_X7_draw 0 := ⟨cb_X7_draw, am_gwm (List.mem_of_getElem? (i := 475) (by decide +kernel)) (by decide +kernel), am_gwm (List.mem_of_getElem? (i := 476) (by decide +kernel)) (by decide +kernel), am_gwm (List.mem_of_getElem? (i := 477) (by decide +kernel)) (by decide +kernel), rfl, by decide⟩
theorem cf_7_166 : am_cV 7 166 Y_X4_readInto 1 := ⟨cb_X4_readInto, am_gwm (List.mem_of_getElem? (i := 479) (by decide +kernel)) (by decide +kernel), am_gwm (List.mem_of_getElem? (i := 480) (by decide +kernel)) (by decide +kernel), am_gwm (List.mem_of_getElem? (i := 481) (by decide +kernel)) (by decide +kernel), rfl, by decide⟩
theorem cf_4_38 : am_cV 4 38 Y_X3_beginReading 0 := ⟨cb_X3_beginReading, am_gwm (List.mem_of_getElem? (i := 483) (by decide +kernel)) (by decide +kernel), am_gwm (List.mem_of_getElem? (i := 484) (by decide +kernel)) (by decide +kernel), am_gwm (List.mem_of_getElem? (i := 485) (by decide +kernel)) (by decide +kernel), rfl, by decide⟩
theorem cf_4_43 : am_cV 4 43 Y_X5_rewind 0 := ⟨cb_X5_rewind, am_gwm (List.mem_of_getElem? (i := 487) (by decide +kernel)) (by decide +kernel), am_gwm (List.mem_of_getElem? (i := 488) (by decide +kernel)) (by decide +kernel), am_gwm (List.mem_of_getElem? (i := 489) (by decide +kernel)) (by decide +kernel), rfl, by decide⟩
theorem cf_4_46 : am_cV 4 46 Y_X4_readOne 2 := ⟨cb_X4_readOne, am_gwm (List.mem_of_getElem? (i := 491) (by decide +kernel)) (by decide +kernel), am_gwm (List.mem_of_getElem? (i := 493) (by decide +kernel)) (by decide +kernel), am_gwm (List.mem_of_getElem? (i := 9) (by decide +kernel)) (by decide +kernel), rfl, by decide⟩
theorem cf_4_50 : am_cV 4 50 Y_X5_advance 0 := ⟨cb_X5_advance, am_gwm (List.mem_of_getElem? (i := 495) (by decide +kernel)) (by decide +kernel), am_gwm (List.mem_of_getElem? (i := 496) (by decide +kernel)) (by decide +kernel), am_gwm (List.mem_of_getElem? (i := 497) (by decide +kernel)) (by decide +kernel), rfl, by decide⟩
theorem cf_5_24 : am_cV 5 24 Y_X3_byteAt 1 := ⟨cb_X3_byteAt, am_gwm (List.mem_of_getElem? (i := 499) (by decide +kernel)) (by decide +kernel), am_gwm (List.mem_of_getElem? (i := 500) (by decide +kernel)) (by decide +kernel), am_gwm (List.mem_of_getElem? (i := 501) (by decide +kernel)) (by decide +kernel), rfl, by decide⟩
theorem cf_5_28 : am_cS 5 28 Y_X5_isBlank 1 := ⟨cb_X5_isBlank, am_gwm (List.mem_of_getElem? (i := 503) (by decide +kernel)) (by decide +kernel), am_gwm (List.mem_of_getElem? (i := 504) (by decide +kernel)) (by decide +kernel)⟩
theorem cf_5_42 : am_cS 5 42 Y_X5_isDigit 1 := ⟨cb_X5_isDigit, am_gwm (List.mem_of_getElem? (i := 506) (by decide +kernel)) (by decide +kernel), am_gwm (List.mem_of_getElem? (i := 507) (by decide +kernel)) (by decide +kernel)⟩
theorem cf_5_45 : am_cV 5 45 Y_X5_takeNumber 0 := ⟨cb_X5_takeNumber, am_gwm (List.mem_of_getElem? (i := 509) (by decide +kernel)) (by decide +kernel), am_gwm (List.mem_of_getElem? (i := 511) (by decide +kernel)) (by decide +kernel), am_gwm (List.mem_of_getElem? (i := 10) (by decide +kernel)) (by decide +kernel), rfl, by decide⟩
theorem cf_5_51 : am_cS 5 51 Y_J9_min_7cf53 2 := ⟨cb_J9_min_7cf53, am_gwm (List.mem_of_getElem? (i := 513) (by decide +kernel)) (by decide +kernel), am_gwm (List.mem_of_getElem? (i := 109) (by decide +kernel)) (by decide +kernel)⟩
theorem cf_5_48 : am_cS 5 48 Y_X5_isLetter 1 := ⟨cb_X5_isLetter, am_gwm (List.mem_of_getElem? (i := 514) (by decide +kernel)) (by decide +kernel), am_gwm (List.mem_of_getElem? (i := 515) (by decide +kernel)) (by decide +kernel)⟩
theorem cf_4_68 : am_cV 4 68 Y_X5_wordFound 0 := ⟨cb_X5_wordFound, am_gwm (List.mem_of_getElem? (i := 517) (by decide +kernel)) (by decide +kernel), am_gwm (List.mem_of_getElem? (i := 518) (by decide +kernel)) (by decide +kernel), am_gwm (List.mem_of_getElem? (i := 519) (by decide +kernel)) (by decide +kernel), rfl, by decide⟩
theorem cf_5_59 : am_cV 5 59 Y_X5_spells 1 := ⟨cb_X5_spells, am_gwm (List.mem_of_getElem? (i := 522) (by decide +kernel)) (by decide +kernel), am_gwm (List.mem_of_getElem? (i := 524) (by decide +kernel)) (by decide +kernel), am_gwm (List.mem_of_getElem? (i := 11) (by decide +kernel)) (by decide +kernel), rfl, by decide⟩
theorem cf_5_79 : am_cT 5 79 Y_J0_length_8abf5 0 := ⟨cb_J0_length_8abf5, am_gwm (List.mem_of_getElem? (i := 526) (by decide +kernel)) (by decide +kernel), am_gwm (List.mem_of_getElem? (i := 527) (by decide +kernel)) (by decide +kernel), am_gwm (List.mem_of_getElem? (i := 528) (by decide +kernel)) (by decide +kernel)⟩
theorem cf_11_335 : am_cT 11 335 Y_J0_coder_7d493 0 := ⟨cb_J0_coder_7d493, am_gwm (List.mem_of_getElem? (i := 530) (by decide +kernel)) (by decide +kernel), am_gwm (List.mem_of_getElem? (i := 531) (by decide +kernel)) (by decide +kernel), am_gwm (List.mem_of_getElem? (i := 532) (by decide +kernel)) (by decide +kernel)⟩
theorem cf_5_84 : am_cT 5 84 Y_J0_charAt_5068e 1 := ⟨cb_J0_charAt_5068e, am_gwm (List.mem_of_getElem? (i := 536) (by decide +kernel)) (by decide +kernel), am_gwm (List.mem_of_getElem? (i := 537) (by decide +kernel)) (by decide +kernel), am_gwm (List.mem_of_getElem? (i := 538) (by decide +kernel)) (by decide +kernel)⟩
theorem cf_11_492 : am_cT 11 492 Y_J0_isLatin1_aae02 0 := ⟨cb_J0_isLatin1_aae02, am_gwm (List.mem_of_getElem? (i := 540) (by decide +kernel)) (by decide +kernel), am_gwm (List.mem_of_getElem? (i := 541) (by decide +kernel)) (by decide +kernel), am_gwm (List.mem_of_getElem? (i := 542) (by decide +kernel)) (by decide +kernel)⟩
theorem cf_11_495 : am_cS 11 495 Y_J1_charAt_3b067 2 := ⟨cb_J1_charAt_3b067, am_gwm (List.mem_of_getElem? (i := 544) (by decide +kernel)) (by decide +kernel), am_gwm (List.mem_of_getElem? (i := 545) (by decide +kernel)) (by decide +kernel)⟩
theorem cf_12_9 : am_cS 12 9 Y_J0_checkIndex_df160 2 := ⟨cb_J0_checkIndex_df160, am_gwm (List.mem_of_getElem? (i := 547) (by decide +kernel)) (by decide +kernel), am_gwm (List.mem_of_getElem? (i := 548) (by decide +kernel)) (by decide +kernel)⟩
theorem cf_11_1059 : am_cS 11 1059 Y_J3_checkIndex_8e157 3 := ⟨cb_J3_checkIndex_8e157, am_gwm (List.mem_of_getElem? (i := 552) (by decide +kernel)) (by decide +kernel), am_gwm (List.mem_of_getElem? (i := 553) (by decide +kernel)) (by decide +kernel)⟩
theorem cf_4_61 : am_cV 4 61 Y_X3_fail 2 := ⟨cb_X3_fail, am_gwm (List.mem_of_getElem? (i := 582) (by decide +kernel)) (by decide +kernel), am_gwm (List.mem_of_getElem? (i := 583) (by decide +kernel)) (by decide +kernel), am_gwm (List.mem_of_getElem? (i := 584) (by decide +kernel)) (by decide +kernel), rfl, by decide⟩
theorem cf_4_72 : am_cV 4 72 Y_X4_readPlain 1 := ⟨cb_X4_readPlain, am_gwm (List.mem_of_getElem? (i := 586) (by decide +kernel)) (by decide +kernel), am_gwm (List.mem_of_getElem? (i := 588) (by decide +kernel)) (by decide +kernel), am_gwm (List.mem_of_getElem? (i := 12) (by decide +kernel)) (by decide +kernel), rfl, by decide⟩
theorem cf_4_93 : am_cV 4 93 Y_X4_readNumber 2 := ⟨cb_X4_readNumber, am_gwm (List.mem_of_getElem? (i := 590) (by decide +kernel)) (by decide +kernel), am_gwm (List.mem_of_getElem? (i := 592) (by decide +kernel)) (by decide +kernel), am_gwm (List.mem_of_getElem? (i := 13) (by decide +kernel)) (by decide +kernel), rfl, by decide⟩
theorem cf_4_97 : am_cV 4 97 Y_X0_clear 2 := ⟨cb_X0_clear, am_gwm (List.mem_of_getElem? (i := 594) (by decide +kernel)) (by decide +kernel), am_gwm (List.mem_of_getElem? (i := 112) (by decide +kernel)) (by decide +kernel), am_gwm (List.mem_of_getElem? (i := 113) (by decide +kernel)) (by decide +kernel), rfl, by decide⟩
theorem cf_4_76 : am_cV 4 76 Y_X4_readKept 1 := ⟨cb_X4_readKept, am_gwm (List.mem_of_getElem? (i := 595) (by decide +kernel)) (by decide +kernel), am_gwm (List.mem_of_getElem? (i := 597) (by decide +kernel)) (by decide +kernel), am_gwm (List.mem_of_getElem? (i := 14) (by decide +kernel)) (by decide +kernel), rfl, by decide⟩
theorem cf_4_64 : am_cV 4 64 Y_X0_copy 1 := ⟨cb_X0_copy, am_gwm (List.mem_of_getElem? (i := 599) (by decide +kernel)) (by decide +kernel), am_gwm (List.mem_of_getElem? (i := 600) (by decide +kernel)) (by decide +kernel), am_gwm (List.mem_of_getElem? (i := 601) (by decide +kernel)) (by decide +kernel), rfl, by decide⟩
theorem cf_4_79 : am_cV 4 79 Y_X4_readSet 3 := ⟨cb_X4_readSet, am_gwm (List.mem_of_getElem? (i := 606) (by decide +kernel)) (by decide +kernel), am_gwm (List.mem_of_getElem? (i := 608) (by decide +kernel)) (by decide +kernel), am_gwm (List.mem_of_getElem? (i := 15) (by decide +kernel)) (by decide +kernel), rfl, by decide⟩
theorem cf_4_101 : am_cV 4 101 Y_X0_isInner 2 := ⟨cb_X0_isInner, am_gwm (List.mem_of_getElem? (i := 610) (by decide +kernel)) (by decide +kernel), am_gwm (List.mem_of_getElem? (i := 307) (by decide +kernel)) (by decide +kernel), am_gwm (List.mem_of_getElem? (i := 308) (by decide +kernel)) (by decide +kernel), rfl, by decide⟩
theorem cf_4_104 : am_cV 4 104 Y_X0_put 3 := ⟨cb_X0_put, am_gwm (List.mem_of_getElem? (i := 611) (by decide +kernel)) (by decide +kernel), am_gwm (List.mem_of_getElem? (i := 311) (by decide +kernel)) (by decide +kernel), am_gwm (List.mem_of_getElem? (i := 312) (by decide +kernel)) (by decide +kernel), rfl, by decide⟩
theorem cf_4_83 : am_cV 4 83 Y_X4_readRow 3 := ⟨cb_X4_readRow, am_gwm (List.mem_of_getElem? (i := 612) (by decide +kernel)) (by decide +kernel), am_gwm (List.mem_of_getElem? (i := 614) (by decide +kernel)) (by decide +kernel), am_gwm (List.mem_of_getElem? (i := 16) (by decide +kernel)) (by decide +kernel), rfl, by decide⟩
theorem cf_4_108 : am_cV 4 108 Y_X0_growBeside 1 := ⟨cb_X0_growBeside, am_gwm (List.mem_of_getElem? (i := 616) (by decide +kernel)) (by decide +kernel), am_gwm (List.mem_of_getElem? (i := 617) (by decide +kernel)) (by decide +kernel), am_gwm (List.mem_of_getElem? (i := 618) (by decide +kernel)) (by decide +kernel), rfl, by decide⟩
theorem cf_0_68 : am_cV 0 68 Y_X0_layMirrors 3 := ⟨cb_X0_layMirrors, am_gwm (List.mem_of_getElem? (i := 620) (by decide +kernel)) (by decide +kernel), am_gwm (List.mem_of_getElem? (i := 622) (by decide +kernel)) (by decide +kernel), am_gwm (List.mem_of_getElem? (i := 17) (by decide +kernel)) (by decide +kernel), rfl, by decide⟩
theorem cf_0_54 : am_cV 0 54 Y_X0_mirrorAt 2 := ⟨cb_X0_mirrorAt, am_gwm (List.mem_of_getElem? (i := 624) (by decide +kernel)) (by decide +kernel), am_gwm (List.mem_of_getElem? (i := 327) (by decide +kernel)) (by decide +kernel), am_gwm (List.mem_of_getElem? (i := 328) (by decide +kernel)) (by decide +kernel), rfl, by decide⟩
theorem cf_0_64 : am_cV 0 64 Y_X0_put 3 := ⟨cb_X0_put, am_gwm (List.mem_of_getElem? (i := 625) (by decide +kernel)) (by decide +kernel), am_gwm (List.mem_of_getElem? (i := 311) (by decide +kernel)) (by decide +kernel), am_gwm (List.mem_of_getElem? (i := 312) (by decide +kernel)) (by decide +kernel), rfl, by decide⟩
theorem cf_4_86 : am_cV 4 86 Y_X4_readTurned 3 := ⟨cb_X4_readTurned, am_gwm (List.mem_of_getElem? (i := 626) (by decide +kernel)) (by decide +kernel), am_gwm (List.mem_of_getElem? (i := 628) (by decide +kernel)) (by decide +kernel), am_gwm (List.mem_of_getElem? (i := 18) (by decide +kernel)) (by decide +kernel), rfl, by decide⟩
theorem cf_4_111 : am_cV 4 111 Y_X0_takeTurned 3 := ⟨cb_X0_takeTurned, am_gwm (List.mem_of_getElem? (i := 630) (by decide +kernel)) (by decide +kernel), am_gwm (List.mem_of_getElem? (i := 631) (by decide +kernel)) (by decide +kernel), am_gwm (List.mem_of_getElem? (i := 632) (by decide +kernel)) (by decide +kernel), rfl, by decide⟩
theorem cf_0_50 : am_cV 0 50 Y_X0_clear 2 := ⟨cb_X0_clear, am_gwm (List.mem_of_getElem? (i := 634) (by decide +kernel)) (by decide +kernel), am_gwm (List.mem_of_getElem? (i := 112) (by decide +kernel)) (by decide +kernel), am_gwm (List.mem_of_getElem? (i := 113) (by decide +kernel)) (by decide +kernel), rfl, by decide⟩
theorem cf_0_57 : am_cS 0 57 Y_X0_turnedColumn 4 := ⟨cb_X0_turnedColumn, am_gwm (List.mem_of_getElem? (i := 635) (by decide +kernel)) (by decide +kernel), am_gwm (List.mem_of_getElem? (i := 636) (by decide +kernel)) (by decide +kernel)⟩
theorem cf_0_61 : am_cS 0 61 Y_X0_turnedRow 4 := ⟨cb_X0_turnedRow, am_gwm (List.mem_of_getElem? (i := 638) (by decide +kernel)) (by decide +kernel), am_gwm (List.mem_of_getElem? (i := 639) (by decide +kernel)) (by decide +kernel)⟩
theorem cf_4_89 : am_cV 4 89 Y_X4_readPair 4 := ⟨cb_X4_readPair, am_gwm (List.mem_of_getElem? (i := 641) (by decide +kernel)) (by decide +kernel), am_gwm (List.mem_of_getElem? (i := 643) (by decide +kernel)) (by decide +kernel), am_gwm (List.mem_of_getElem? (i := 19) (by decide +kernel)) (by decide +kernel), rfl, by decide⟩
theorem cf_4_115 : am_cV 4 115 Y_X0_growBelow 1 := ⟨cb_X0_growBelow, am_gwm (List.mem_of_getElem? (i := 645) (by decide +kernel)) (by decide +kernel), am_gwm (List.mem_of_getElem? (i := 646) (by decide +kernel)) (by decide +kernel), am_gwm (List.mem_of_getElem? (i := 647) (by decide +kernel)) (by decide +kernel), rfl, by decide⟩
theorem cf_4_118 : am_cV 4 118 Y_X0_coverWith 1 := ⟨cb_X0_coverWith, am_gwm (List.mem_of_getElem? (i := 649) (by decide +kernel)) (by decide +kernel), am_gwm (List.mem_of_getElem? (i := 650) (by decide +kernel)) (by decide +kernel), am_gwm (List.mem_of_getElem? (i := 651) (by decide +kernel)) (by decide +kernel), rfl, by decide⟩
theorem cf_7_170 : am_cV 7 170 Y_X7_takeSpare 0 := ⟨cb_X7_takeSpare, am_gwm (List.mem_of_getElem? (i := 653) (by decide +kernel)) (by decide +kernel), am_gwm (List.mem_of_getElem? (i := 655) (by decide +kernel)) (by decide +kernel), am_gwm (List.mem_of_getElem? (i := 20) (by decide +kernel)) (by decide +kernel), rfl, by decide⟩
theorem cf_7_194 : am_cV 7 194 Y_X0_copy 1 := ⟨cb_X0_copy, am_gwm (List.mem_of_getElem? (i := 657) (by decide +kernel)) (by decide +kernel), am_gwm (List.mem_of_getElem? (i := 600) (by decide +kernel)) (by decide +kernel), am_gwm (List.mem_of_getElem? (i := 601) (by decide +kernel)) (by decide +kernel), rfl, by decide⟩
theorem cf_7_225 : am_cS 7 225 Y_J7_fill_53178 2 := ⟨cb_J7_fill_53178, am_gwm (List.mem_of_getElem? (i := 658) (by decide +kernel)) (by decide +kernel), am_gwm (List.mem_of_getElem? (i := 119) (by decide +kernel)) (by decide +kernel)⟩
theorem cf_9_93 : am_cV 9 93 Y_X7_back 4 := ⟨cb_X7_back, am_gwm (List.mem_of_getElem? (i := 660) (by decide +kernel)) (by decide +kernel), am_gwm (List.mem_of_getElem? (i := 661) (by decide +kernel)) (by decide +kernel), am_gwm (List.mem_of_getElem? (i := 662) (by decide +kernel)) (by decide +kernel), rfl, by decide⟩
theorem cf_7_173 : am_cS 7 173 Y_X7_isDots 1 := ⟨cb_X7_isDots, am_gwm (List.mem_of_getElem? (i := 664) (by decide +kernel)) (by decide +kernel), am_gwm (List.mem_of_getElem? (i := 116) (by decide +kernel)) (by decide +kernel)⟩
theorem cf_7_176 : am_cV 7 176 Y_X0_isPoint 2 := ⟨cb_X0_isPoint, am_gwm (List.mem_of_getElem? (i := 665) (by decide +kernel)) (by decide +kernel), am_gwm (List.mem_of_getElem? (i := 666) (by decide +kernel)) (by decide +kernel), am_gwm (List.mem_of_getElem? (i := 667) (by decide +kernel)) (by decide +kernel), rfl, by decide⟩
theorem cf_7_179 : am_cV 7 179 Y_X6_readInto 3 := ⟨cb_X6_readInto, am_gwm (List.mem_of_getElem? (i := 669) (by decide +kernel)) (by decide +kernel), am_gwm (List.mem_of_getElem? (i := 670) (by decide +kernel)) (by decide +kernel), am_gwm (List.mem_of_getElem? (i := 671) (by decide +kernel)) (by decide +kernel), rfl, by decide⟩
theorem cf_6_22 : am_cV 6 22 Y_X3_beginReading 0 := ⟨cb_X3_beginReading, am_gwm (List.mem_of_getElem? (i := 673) (by decide +kernel)) (by decide +kernel), am_gwm (List.mem_of_getElem? (i := 484) (by decide +kernel)) (by decide +kernel), am_gwm (List.mem_of_getElem? (i := 485) (by decide +kernel)) (by decide +kernel), rfl, by decide⟩
theorem cf_6_27 : am_cS 6 27 Y_J7_fill_53178 2 := ⟨cb_J7_fill_53178, am_gwm (List.mem_of_getElem? (i := 674) (by decide +kernel)) (by decide +kernel), am_gwm (List.mem_of_getElem? (i := 119) (by decide +kernel)) (by decide +kernel)⟩
theorem cf_6_40 : am_cV 6 40 Y_X3_byteAt 1 := ⟨cb_X3_byteAt, am_gwm (List.mem_of_getElem? (i := 675) (by decide +kernel)) (by decide +kernel), am_gwm (List.mem_of_getElem? (i := 500) (by decide +kernel)) (by decide +kernel), am_gwm (List.mem_of_getElem? (i := 501) (by decide +kernel)) (by decide +kernel), rfl, by decide⟩
theorem cf_6_44 : am_cV 6 44 Y_X3_fail 2 := ⟨cb_X3_fail, am_gwm (List.mem_of_getElem? (i := 676) (by decide +kernel)) (by decide +kernel), am_gwm (List.mem_of_getElem? (i := 583) (by decide +kernel)) (by decide +kernel), am_gwm (List.mem_of_getElem? (i := 584) (by decide +kernel)) (by decide +kernel), rfl, by decide⟩
theorem cf_6_48 : am_cS 6 48 Y_X6_rightOf 1 := ⟨cb_X6_rightOf, am_gwm (List.mem_of_getElem? (i := 677) (by decide +kernel)) (by decide +kernel), am_gwm (List.mem_of_getElem? (i := 678) (by decide +kernel)) (by decide +kernel)⟩
theorem cf_6_51 : am_cS 6 51 Y_X6_downOf 1 := ⟨cb_X6_downOf, am_gwm (List.mem_of_getElem? (i := 680) (by decide +kernel)) (by decide +kernel), am_gwm (List.mem_of_getElem? (i := 681) (by decide +kernel)) (by decide +kernel)⟩
theorem cf_6_54 : am_cV 6 54 Y_X0_isPoint 2 := ⟨cb_X0_isPoint, am_gwm (List.mem_of_getElem? (i := 683) (by decide +kernel)) (by decide +kernel), am_gwm (List.mem_of_getElem? (i := 666) (by decide +kernel)) (by decide +kernel), am_gwm (List.mem_of_getElem? (i := 667) (by decide +kernel)) (by decide +kernel), rfl, by decide⟩
theorem cf_6_62 : am_cS 6 62 Y_J9_min_7cf53 2 := ⟨cb_J9_min_7cf53, am_gwm (List.mem_of_getElem? (i := 684) (by decide +kernel)) (by decide +kernel), am_gwm (List.mem_of_getElem? (i := 109) (by decide +kernel)) (by decide +kernel)⟩
theorem cf_6_68 : am_cV 6 68 Y_X0_isSquare 1 := ⟨cb_X0_isSquare, am_gwm (List.mem_of_getElem? (i := 685) (by decide +kernel)) (by decide +kernel), am_gwm (List.mem_of_getElem? (i := 357) (by decide +kernel)) (by decide +kernel), am_gwm (List.mem_of_getElem? (i := 358) (by decide +kernel)) (by decide +kernel), rfl, by decide⟩
theorem cf_6_72 : am_cV 6 72 Y_X6_tellPoint 4 := ⟨cb_X6_tellPoint, am_gwm (List.mem_of_getElem? (i := 686) (by decide +kernel)) (by decide +kernel), am_gwm (List.mem_of_getElem? (i := 688) (by decide +kernel)) (by decide +kernel), am_gwm (List.mem_of_getElem? (i := 21) (by decide +kernel)) (by decide +kernel), rfl, by decide⟩
theorem cf_6_82 : am_cV 6 82 Y_X0_isInner 2 := ⟨cb_X0_isInner, am_gwm (List.mem_of_getElem? (i := 690) (by decide +kernel)) (by decide +kernel), am_gwm (List.mem_of_getElem? (i := 307) (by decide +kernel)) (by decide +kernel), am_gwm (List.mem_of_getElem? (i := 308) (by decide +kernel)) (by decide +kernel), rfl, by decide⟩
theorem cf_6_85 : am_cV 6 85 Y_X0_put 3 := ⟨cb_X0_put, am_gwm (List.mem_of_getElem? (i := 691) (by decide +kernel)) (by decide +kernel), am_gwm (List.mem_of_getElem? (i := 311) (by decide +kernel)) (by decide +kernel), am_gwm (List.mem_of_getElem? (i := 312) (by decide +kernel)) (by decide +kernel), rfl, by decide⟩
theorem cf_6_89 : am_cSN 6 89 Y_X7_placeOf 2 := ⟨cb_X7_placeOf, by decide +kernel, am_gwm (List.mem_of_getElem? (i := 316) (by decide +kernel)) (by decide +kernel)⟩
theorem cf_9_98 : am_cV 9 98 Y_X7_fault 1 := ⟨cb_X7_fault, am_gwm (List.mem_of_getElem? (i := 693) (by decide +kernel)) (by decide +kernel), am_gwm (List.mem_of_getElem? (i := 694) (by decide +kernel)) (by decide +kernel), am_gwm (List.mem_of_getElem? (i := 695) (by decide +kernel)) (by decide +kernel), rfl, by decide⟩
theorem cf_9_102 : am_cV 9 102 Y_X7_keep 1 := ⟨cb_X7_keep, am_gwm (List.mem_of_getElem? (i := 697) (by decide +kernel)) (by decide +kernel), am_gwm (List.mem_of_getElem? (i := 698) (by decide +kernel)) (by decide +kernel), am_gwm (List.mem_of_getElem? (i := 699) (by decide +kernel)) (by decide +kernel), rfl, by decide⟩
theorem cf_9_107 : am_cV 9 107 Y_X7_like 2 := ⟨cb_X7_like, am_gwm (List.mem_of_getElem? (i := 701) (by decide +kernel)) (by decide +kernel), am_gwm (List.mem_of_getElem? (i := 702) (by decide +kernel)) (by decide +kernel), am_gwm (List.mem_of_getElem? (i := 703) (by decide +kernel)) (by decide +kernel), rfl, by decide⟩
theorem cf_7_198 : am_cV 7 198 Y_X0_isSameAs 1 := ⟨cb_X0_isSameAs, am_gwm (List.mem_of_getElem? (i := 705) (by decide +kernel)) (by decide +kernel), am_gwm (List.mem_of_getElem? (i := 706) (by decide +kernel)) (by decide +kernel), am_gwm (List.mem_of_getElem? (i := 707) (by decide +kernel)) (by decide +kernel), rfl, by decide⟩
theorem cf_7_201 : am_cV 7 201 Y_X7_waysFrom 1 := ⟨cb_X7_waysFrom, am_gwm (List.mem_of_getElem? (i := 709) (by decide +kernel)) (by decide +kernel), am_gwm (List.mem_of_getElem? (i := 711) (by decide +kernel)) (by decide +kernel), am_gwm (List.mem_of_getElem? (i := 22) (by decide +kernel)) (by decide +kernel), rfl, by decide⟩
theorem cf_7_231 : am_cV 7 231 Y_X0_takeTurned 3 := ⟨cb_X0_takeTurned, am_gwm (List.mem_of_getElem? (i := 713) (by decide +kernel)) (by decide +kernel), am_gwm (List.mem_of_getElem? (i := 631) (by decide +kernel)) (by decide +kernel), am_gwm (List.mem_of_getElem? (i := 632) (by decide +kernel)) (by decide +kernel), rfl, by decide⟩
theorem cf_9_111 : am_cV 9 111 Y_X7_alike 0 := ⟨cb_X7_alike, am_gwm (List.mem_of_getElem? (i := 714) (by decide +kernel)) (by decide +kernel), am_gwm (List.mem_of_getElem? (i := 715) (by decide +kernel)) (by decide +kernel), am_gwm (List.mem_of_getElem? (i := 716) (by decide +kernel)) (by decide +kernel), rfl, by decide⟩
theorem cf_9_115 : am_cV 9 115 Y_X7_about 1 := ⟨cb_X7_about, am_gwm (List.mem_of_getElem? (i := 718) (by decide +kernel)) (by decide +kernel), am_gwm (List.mem_of_getElem? (i := 719) (by decide +kernel)) (by decide +kernel), am_gwm (List.mem_of_getElem? (i := 720) (by decide +kernel)) (by decide +kernel), rfl, by decide⟩
theorem cf_7_205 : am_cV 7 205 Y_X0_countOf 1 := ⟨cb_X0_countOf, am_gwm (List.mem_of_getElem? (i := 722) (by decide +kernel)) (by decide +kernel), am_gwm (List.mem_of_getElem? (i := 723) (by decide +kernel)) (by decide +kernel), am_gwm (List.mem_of_getElem? (i := 724) (by decide +kernel)) (by decide +kernel), rfl, by decide⟩
theorem cf_7_208 : am_cV 7 208 Y_X7_pinCount 0 := ⟨cb_X7_pinCount, am_gwm (List.mem_of_getElem? (i := 726) (by decide +kernel)) (by decide +kernel), am_gwm (List.mem_of_getElem? (i := 728) (by decide +kernel)) (by decide +kernel), am_gwm (List.mem_of_getElem? (i := 23) (by decide +kernel)) (by decide +kernel), rfl, by decide⟩
theorem cf_7_212 : am_cV 7 212 Y_X7_shelvesUsed 0 := ⟨cb_X7_shelvesUsed, am_gwm (List.mem_of_getElem? (i := 730) (by decide +kernel)) (by decide +kernel), am_gwm (List.mem_of_getElem? (i := 732) (by decide +kernel)) (by decide +kernel), am_gwm (List.mem_of_getElem? (i := 24) (by decide +kernel)) (by decide +kernel), rfl, by decide⟩
theorem cf_7_215 : am_cV 7 215 Y_X0_squareCount 0 := ⟨cb_X0_squareCount, am_gwm (List.mem_of_getElem? (i := 734) (by decide +kernel)) (by decide +kernel), am_gwm (List.mem_of_getElem? (i := 361) (by decide +kernel)) (by decide +kernel), am_gwm (List.mem_of_getElem? (i := 362) (by decide +kernel)) (by decide +kernel), rfl, by decide⟩
theorem cf_9_9 : am_cS 9 9 Y_L_cell 2 := ⟨cb_L_cell, am_gwm (List.mem_of_getElem? (i := 735) (by decide +kernel)) (by decide +kernel), am_gwm (List.mem_of_getElem? (i := 736) (by decide +kernel)) (by decide +kernel)⟩
theorem cf_9_20 : am_cI 9 20 Y_X8_init 2 := ⟨cb_X8_init, am_gwm (List.mem_of_getElem? (i := 740) (by decide +kernel)) (by decide +kernel), am_gwm (List.mem_of_getElem? (i := 741) (by decide +kernel)) (by decide +kernel), rfl, rfl⟩
theorem cf_9_25 : am_cV 9 25 Y_X8_set 3 := ⟨cb_X8_set, am_gwm (List.mem_of_getElem? (i := 836) (by decide +kernel)) (by decide +kernel), am_gwm (List.mem_of_getElem? (i := 837) (by decide +kernel)) (by decide +kernel), am_gwm (List.mem_of_getElem? (i := 838) (by decide +kernel)) (by decide +kernel), rfl, by decide⟩
theorem cf_8_74 : am_cV 8 74 Y_X8_isInner 3 := ⟨cb_X8_isInner, am_gwm (List.mem_of_getElem? (i := 840) (by decide +kernel)) (by decide +kernel), am_gwm (List.mem_of_getElem? (i := 842) (by decide +kernel)) (by decide +kernel), am_gwm (List.mem_of_getElem? (i := 25) (by decide +kernel)) (by decide +kernel), rfl, by decide⟩
theorem cf_8_70 : am_cS 8 70 Y_X8_isIn 3 := ⟨cb_X8_isIn, am_gwm (List.mem_of_getElem? (i := 844) (by decide +kernel)) (by decide +kernel), am_gwm (List.mem_of_getElem? (i := 845) (by decide +kernel)) (by decide +kernel)⟩
theorem cf_8_77 : am_cS 8 77 Y_X8_cell 3 := ⟨cb_X8_cell, am_gwm (List.mem_of_getElem? (i := 847) (by decide +kernel)) (by decide +kernel), am_gwm (List.mem_of_getElem? (i := 848) (by decide +kernel)) (by decide +kernel)⟩
theorem cf_9_30 : am_cV 9 30 Y_X8_mirror 2 := ⟨cb_X8_mirror, am_gwm (List.mem_of_getElem? (i := 850) (by decide +kernel)) (by decide +kernel), am_gwm (List.mem_of_getElem? (i := 851) (by decide +kernel)) (by decide +kernel), am_gwm (List.mem_of_getElem? (i := 852) (by decide +kernel)) (by decide +kernel), rfl, by decide⟩
theorem cf_9_35 : am_cV 9 35 Y_X8_pin 3 := ⟨cb_X8_pin, am_gwm (List.mem_of_getElem? (i := 854) (by decide +kernel)) (by decide +kernel), am_gwm (List.mem_of_getElem? (i := 855) (by decide +kernel)) (by decide +kernel), am_gwm (List.mem_of_getElem? (i := 856) (by decide +kernel)) (by decide +kernel), rfl, by decide⟩
theorem cf_9_40 : am_cV 9 40 Y_X8_lines 0 := ⟨cb_X8_lines, am_gwm (List.mem_of_getElem? (i := 858) (by decide +kernel)) (by decide +kernel), am_gwm (List.mem_of_getElem? (i := 859) (by decide +kernel)) (by decide +kernel), am_gwm (List.mem_of_getElem? (i := 860) (by decide +kernel)) (by decide +kernel), rfl, by decide⟩
theorem cf_8_92 : am_cV 8 92 Y_X8_walkAll 0 := ⟨cb_X8_walkAll, am_gwm (List.mem_of_getElem? (i := 862) (by decide +kernel)) (by decide +kernel), am_gwm (List.mem_of_getElem? (i := 864) (by decide +kernel)) (by decide +kernel), am_gwm (List.mem_of_getElem? (i := 26) (by decide +kernel)) (by decide +kernel), rfl, by decide⟩
theorem cf_8_81 : am_cV 8 81 Y_X8_squares 0 := ⟨cb_X8_squares, am_gwm (List.mem_of_getElem? (i := 866) (by decide +kernel)) (by decide +kernel), am_gwm (List.mem_of_getElem? (i := 868) (by decide +kernel)) (by decide +kernel), am_gwm (List.mem_of_getElem? (i := 27) (by decide +kernel)) (by decide +kernel), rfl, by decide⟩
theorem cf_8_88 : am_cV 8 88 Y_X8_walkOne 2 := ⟨cb_X8_walkOne, am_gwm (List.mem_of_getElem? (i := 870) (by decide +kernel)) (by decide +kernel), am_gwm (List.mem_of_getElem? (i := 872) (by decide +kernel)) (by decide +kernel), am_gwm (List.mem_of_getElem? (i := 28) (by decide +kernel)) (by decide +kernel), rfl, by decide⟩
theorem cf_9_45 : am_cV 9 45 Y_X8_lineOf 1 := ⟨cb_X8_lineOf, am_gwm (List.mem_of_getElem? (i := 874) (by decide +kernel)) (by decide +kernel), am_gwm (List.mem_of_getElem? (i := 875) (by decide +kernel)) (by decide +kernel), am_gwm (List.mem_of_getElem? (i := 876) (by decide +kernel)) (by decide +kernel), rfl, by decide⟩
theorem cf_8_95 : am_cV 8 95 Y_X8_isSquare 1 := ⟨cb_X8_isSquare, am_gwm (List.mem_of_getElem? (i := 878) (by decide +kernel)) (by decide +kernel), am_gwm (List.mem_of_getElem? (i := 880) (by decide +kernel)) (by decide +kernel), am_gwm (List.mem_of_getElem? (i := 29) (by decide +kernel)) (by decide +kernel), rfl, by decide⟩
theorem cf_9_49 : am_cV 9 49 Y_X8_line 2 := ⟨cb_X8_line, am_gwm (List.mem_of_getElem? (i := 882) (by decide +kernel)) (by decide +kernel), am_gwm (List.mem_of_getElem? (i := 883) (by decide +kernel)) (by decide +kernel), am_gwm (List.mem_of_getElem? (i := 884) (by decide +kernel)) (by decide +kernel), rfl, by decide⟩
theorem cf_8_99 : am_cV 8 99 Y_X8_held 3 := ⟨cb_X8_held, am_gwm (List.mem_of_getElem? (i := 886) (by decide +kernel)) (by decide +kernel), am_gwm (List.mem_of_getElem? (i := 888) (by decide +kernel)) (by decide +kernel), am_gwm (List.mem_of_getElem? (i := 30) (by decide +kernel)) (by decide +kernel), rfl, by decide⟩
theorem cf_8_102 : am_cV 8 102 Y_X8_strand 3 := ⟨cb_X8_strand, am_gwm (List.mem_of_getElem? (i := 890) (by decide +kernel)) (by decide +kernel), am_gwm (List.mem_of_getElem? (i := 892) (by decide +kernel)) (by decide +kernel), am_gwm (List.mem_of_getElem? (i := 31) (by decide +kernel)) (by decide +kernel), rfl, by decide⟩
theorem cf_9_53 : am_cV 9 53 Y_X8_walk 2 := ⟨cb_X8_walk, am_gwm (List.mem_of_getElem? (i := 894) (by decide +kernel)) (by decide +kernel), am_gwm (List.mem_of_getElem? (i := 895) (by decide +kernel)) (by decide +kernel), am_gwm (List.mem_of_getElem? (i := 896) (by decide +kernel)) (by decide +kernel), rfl, by decide⟩
theorem cf_9_58 : am_cV 9 58 Y_X8_holds 3 := ⟨cb_X8_holds, am_gwm (List.mem_of_getElem? (i := 898) (by decide +kernel)) (by decide +kernel), am_gwm (List.mem_of_getElem? (i := 899) (by decide +kernel)) (by decide +kernel), am_gwm (List.mem_of_getElem? (i := 900) (by decide +kernel)) (by decide +kernel), rfl, by decide⟩
theorem cf_9_62 : am_cV 9 62 Y_X8_colour 1 := ⟨cb_X8_colour, am_gwm (List.mem_of_getElem? (i := 902) (by decide +kernel)) (by decide +kernel), am_gwm (List.mem_of_getElem? (i := 903) (by decide +kernel)) (by decide +kernel), am_gwm (List.mem_of_getElem? (i := 904) (by decide +kernel)) (by decide +kernel), rfl, by decide⟩
theorem cf_9_67 : am_cV 9 67 Y_X8_coloured 2 := ⟨cb_X8_coloured, am_gwm (List.mem_of_getElem? (i := 906) (by decide +kernel)) (by decide +kernel), am_gwm (List.mem_of_getElem? (i := 907) (by decide +kernel)) (by decide +kernel), am_gwm (List.mem_of_getElem? (i := 908) (by decide +kernel)) (by decide +kernel), rfl, by decide⟩
theorem cf_9_71 : am_cV 9 71 Y_X8_joined 1 := ⟨cb_X8_joined, am_gwm (List.mem_of_getElem? (i := 910) (by decide +kernel)) (by decide +kernel), am_gwm (List.mem_of_getElem? (i := 911) (by decide +kernel)) (by decide +kernel), am_gwm (List.mem_of_getElem? (i := 912) (by decide +kernel)) (by decide +kernel), rfl, by decide⟩
theorem cf_8_115 : am_cV 8 115 Y_X8_find 0 := ⟨cb_X8_find, am_gwm (List.mem_of_getElem? (i := 914) (by decide +kernel)) (by decide +kernel), am_gwm (List.mem_of_getElem? (i := 916) (by decide +kernel)) (by decide +kernel), am_gwm (List.mem_of_getElem? (i := 32) (by decide +kernel)) (by decide +kernel), rfl, by decide⟩
theorem cf_8_111 : am_cV 8 111 Y_X8_rootOf 1 := ⟨cb_X8_rootOf, am_gwm (List.mem_of_getElem? (i := 918) (by decide +kernel)) (by decide +kernel), am_gwm (List.mem_of_getElem? (i := 920) (by decide +kernel)) (by decide +kernel), am_gwm (List.mem_of_getElem? (i := 33) (by decide +kernel)) (by decide +kernel), rfl, by decide⟩
theorem cf_9_75 : am_cV 9 75 Y_X8_change 2 := ⟨cb_X8_change, am_gwm (List.mem_of_getElem? (i := 922) (by decide +kernel)) (by decide +kernel), am_gwm (List.mem_of_getElem? (i := 923) (by decide +kernel)) (by decide +kernel), am_gwm (List.mem_of_getElem? (i := 924) (by decide +kernel)) (by decide +kernel), rfl, by decide⟩
theorem cf_8_118 : am_cV 8 118 Y_X8_other 1 := ⟨cb_X8_other, am_gwm (List.mem_of_getElem? (i := 926) (by decide +kernel)) (by decide +kernel), am_gwm (List.mem_of_getElem? (i := 928) (by decide +kernel)) (by decide +kernel), am_gwm (List.mem_of_getElem? (i := 34) (by decide +kernel)) (by decide +kernel), rfl, by decide⟩
theorem cf_9_79 : am_cV 9 79 Y_X8_join 0 := ⟨cb_X8_join, am_gwm (List.mem_of_getElem? (i := 930) (by decide +kernel)) (by decide +kernel), am_gwm (List.mem_of_getElem? (i := 931) (by decide +kernel)) (by decide +kernel), am_gwm (List.mem_of_getElem? (i := 932) (by decide +kernel)) (by decide +kernel), rfl, by decide⟩
theorem cf_9_84 : am_cV 9 84 Y_X8_feed 5 := ⟨cb_X8_feed, am_gwm (List.mem_of_getElem? (i := 934) (by decide +kernel)) (by decide +kernel), am_gwm (List.mem_of_getElem? (i := 935) (by decide +kernel)) (by decide +kernel), am_gwm (List.mem_of_getElem? (i := 936) (by decide +kernel)) (by decide +kernel), rfl, by decide⟩
theorem cf_8_124 : am_cV 8 124 Y_X8_four 1 := ⟨cb_X8_four, am_gwm (List.mem_of_getElem? (i := 938) (by decide +kernel)) (by decide +kernel), am_gwm (List.mem_of_getElem? (i := 940) (by decide +kernel)) (by decide +kernel), am_gwm (List.mem_of_getElem? (i := 35) (by decide +kernel)) (by decide +kernel), rfl, by decide⟩
theorem cf_9_88 : am_cV 9 88 Y_X8_end 1 := ⟨cb_X8_end, am_gwm (List.mem_of_getElem? (i := 942) (by decide +kernel)) (by decide +kernel), am_gwm (List.mem_of_getElem? (i := 943) (by decide +kernel)) (by decide +kernel), am_gwm (List.mem_of_getElem? (i := 944) (by decide +kernel)) (by decide +kernel), rfl, by decide⟩
theorem cf_9_92 : am_cV 9 92 Y_X8_draw 0 := ⟨cb_X8_draw, am_gwm (List.mem_of_getElem? (i := 946) (by decide +kernel)) (by decide +kernel), am_gwm (List.mem_of_getElem? (i := 947) (by decide +kernel)) (by decide +kernel), am_gwm (List.mem_of_getElem? (i := 948) (by decide +kernel)) (by decide +kernel), rfl, by decide⟩
theorem cf_8_212 : am_cV 8 212 Y_X8_read 0 := ⟨cb_X8_read, am_gwm (List.mem_of_getElem? (i := 950) (by decide +kernel)) (by decide +kernel), am_gwm (List.mem_of_getElem? (i := 952) (by decide +kernel)) (by decide +kernel), am_gwm (List.mem_of_getElem? (i := 36) (by decide +kernel)) (by decide +kernel), rfl, by decide⟩
theorem cf_8_170 : am_cV 8 170 Y_X8_nextToken 0 := ⟨cb_X8_nextToken, am_gwm (List.mem_of_getElem? (i := 954) (by decide +kernel)) (by decide +kernel), am_gwm (List.mem_of_getElem? (i := 956) (by decide +kernel)) (by decide +kernel), am_gwm (List.mem_of_getElem? (i := 37) (by decide +kernel)) (by decide +kernel), rfl, by decide⟩
theorem cf_8_151 : am_cV 8 151 Y_X8_see 1 := ⟨cb_X8_see, am_gwm (List.mem_of_getElem? (i := 958) (by decide +kernel)) (by decide +kernel), am_gwm (List.mem_of_getElem? (i := 960) (by decide +kernel)) (by decide +kernel), am_gwm (List.mem_of_getElem? (i := 38) (by decide +kernel)) (by decide +kernel), rfl, by decide⟩
theorem cf_8_160 : am_cS 8 160 Y_X8_isDigit 1 := ⟨cb_X8_isDigit, am_gwm (List.mem_of_getElem? (i := 962) (by decide +kernel)) (by decide +kernel), am_gwm (List.mem_of_getElem? (i := 963) (by decide +kernel)) (by decide +kernel)⟩
theorem cf_8_166 : am_cS 8 166 Y_X8_wordOf 1 := ⟨cb_X8_wordOf, am_gwm (List.mem_of_getElem? (i := 965) (by decide +kernel)) (by decide +kernel), am_gwm (List.mem_of_getElem? (i := 966) (by decide +kernel)) (by decide +kernel)⟩
theorem cf_8_138 : am_cS 8 138 Y_X8_add 3 := ⟨cb_X8_add, am_gwm (List.mem_of_getElem? (i := 969) (by decide +kernel)) (by decide +kernel), am_gwm (List.mem_of_getElem? (i := 970) (by decide +kernel)) (by decide +kernel)⟩
theorem cf_8_206 : am_cV 8 206 Y_X8_begin 0 := ⟨cb_X8_begin, am_gwm (List.mem_of_getElem? (i := 975) (by decide +kernel)) (by decide +kernel), am_gwm (List.mem_of_getElem? (i := 977) (by decide +kernel)) (by decide +kernel), am_gwm (List.mem_of_getElem? (i := 39) (by decide +kernel)) (by decide +kernel), rfl, by decide⟩
theorem cf_8_176 : am_cV 8 176 Y_X8_take 2 := ⟨cb_X8_take, am_gwm (List.mem_of_getElem? (i := 979) (by decide +kernel)) (by decide +kernel), am_gwm (List.mem_of_getElem? (i := 981) (by decide +kernel)) (by decide +kernel), am_gwm (List.mem_of_getElem? (i := 40) (by decide +kernel)) (by decide +kernel), rfl, by decide⟩
theorem cf_8_179 : am_cV 8 179 Y_X8_takeLast 2 := ⟨cb_X8_takeLast, am_gwm (List.mem_of_getElem? (i := 983) (by decide +kernel)) (by decide +kernel), am_gwm (List.mem_of_getElem? (i := 985) (by decide +kernel)) (by decide +kernel), am_gwm (List.mem_of_getElem? (i := 41) (by decide +kernel)) (by decide +kernel), rfl, by decide⟩
theorem cf_8_132 : am_cV 8 132 Y_X8_plain 3 := ⟨cb_X8_plain, am_gwm (List.mem_of_getElem? (i := 987) (by decide +kernel)) (by decide +kernel), am_gwm (List.mem_of_getElem? (i := 989) (by decide +kernel)) (by decide +kernel), am_gwm (List.mem_of_getElem? (i := 42) (by decide +kernel)) (by decide +kernel), rfl, by decide⟩
theorem cf_8_128 : am_cV 8 128 Y_X8_copy 2 := ⟨cb_X8_copy, am_gwm (List.mem_of_getElem? (i := 991) (by decide +kernel)) (by decide +kernel), am_gwm (List.mem_of_getElem? (i := 993) (by decide +kernel)) (by decide +kernel), am_gwm (List.mem_of_getElem? (i := 43) (by decide +kernel)) (by decide +kernel), rfl, by decide⟩
theorem cf_8_209 : am_cV 8 209 Y_X8_close 0 := ⟨cb_X8_close, am_gwm (List.mem_of_getElem? (i := 995) (by decide +kernel)) (by decide +kernel), am_gwm (List.mem_of_getElem? (i := 997) (by decide +kernel)) (by decide +kernel), am_gwm (List.mem_of_getElem? (i := 44) (by decide +kernel)) (by decide +kernel), rfl, by decide⟩
theorem cf_8_186 : am_cV 8 186 Y_X8_isDone 2 := ⟨cb_X8_isDone, am_gwm (List.mem_of_getElem? (i := 999) (by decide +kernel)) (by decide +kernel), am_gwm (List.mem_of_getElem? (i := 1001) (by decide +kernel)) (by decide +kernel), am_gwm (List.mem_of_getElem? (i := 45) (by decide +kernel)) (by decide +kernel), rfl, by decide⟩
theorem cf_8_190 : am_cV 8 190 Y_X8_turn 1 := ⟨cb_X8_turn, am_gwm (List.mem_of_getElem? (i := 1003) (by decide +kernel)) (by decide +kernel), am_gwm (List.mem_of_getElem? (i := 1005) (by decide +kernel)) (by decide +kernel), am_gwm (List.mem_of_getElem? (i := 46) (by decide +kernel)) (by decide +kernel), rfl, by decide⟩
theorem cf_8_193 : am_cV 8 193 Y_X8_flip 1 := ⟨cb_X8_flip, am_gwm (List.mem_of_getElem? (i := 1007) (by decide +kernel)) (by decide +kernel), am_gwm (List.mem_of_getElem? (i := 1009) (by decide +kernel)) (by decide +kernel), am_gwm (List.mem_of_getElem? (i := 47) (by decide +kernel)) (by decide +kernel), rfl, by decide⟩
theorem cf_8_196 : am_cV 8 196 Y_X8_isRow 1 := ⟨cb_X8_isRow, am_gwm (List.mem_of_getElem? (i := 1011) (by decide +kernel)) (by decide +kernel), am_gwm (List.mem_of_getElem? (i := 1013) (by decide +kernel)) (by decide +kernel), am_gwm (List.mem_of_getElem? (i := 48) (by decide +kernel)) (by decide +kernel), rfl, by decide⟩
theorem cf_8_202 : am_cV 8 202 Y_X8_lay 4 := ⟨cb_X8_lay, am_gwm (List.mem_of_getElem? (i := 1015) (by decide +kernel)) (by decide +kernel), am_gwm (List.mem_of_getElem? (i := 1017) (by decide +kernel)) (by decide +kernel), am_gwm (List.mem_of_getElem? (i := 49) (by decide +kernel)) (by decide +kernel), rfl, by decide⟩
theorem cf_8_199 : am_cV 8 199 Y_X8_isPut 2 := ⟨cb_X8_isPut, am_gwm (List.mem_of_getElem? (i := 1019) (by decide +kernel)) (by decide +kernel), am_gwm (List.mem_of_getElem? (i := 1021) (by decide +kernel)) (by decide +kernel), am_gwm (List.mem_of_getElem? (i := 50) (by decide +kernel)) (by decide +kernel), rfl, by decide⟩
theorem cf_8_215 : am_cV 8 215 Y_X8_isTold 1 := ⟨cb_X8_isTold, am_gwm (List.mem_of_getElem? (i := 1023) (by decide +kernel)) (by decide +kernel), am_gwm (List.mem_of_getElem? (i := 1025) (by decide +kernel)) (by decide +kernel), am_gwm (List.mem_of_getElem? (i := 51) (by decide +kernel)) (by decide +kernel), rfl, by decide⟩
theorem cf_9_101 : am_cV 9 101 Y_X8_fault 1 := ⟨cb_X8_fault, am_gwm (List.mem_of_getElem? (i := 1027) (by decide +kernel)) (by decide +kernel), am_gwm (List.mem_of_getElem? (i := 1028) (by decide +kernel)) (by decide +kernel), am_gwm (List.mem_of_getElem? (i := 1029) (by decide +kernel)) (by decide +kernel), rfl, by decide⟩
theorem cf_9_97 : am_cV 9 97 Y_X8_back 4 := ⟨cb_X8_back, am_gwm (List.mem_of_getElem? (i := 1031) (by decide +kernel)) (by decide +kernel), am_gwm (List.mem_of_getElem? (i := 1032) (by decide +kernel)) (by decide +kernel), am_gwm (List.mem_of_getElem? (i := 1033) (by decide +kernel)) (by decide +kernel), rfl, by decide⟩
theorem cf_8_230 : am_cV 8 230 Y_X8_walkBack 2 := ⟨cb_X8_walkBack, am_gwm (List.mem_of_getElem? (i := 1035) (by decide +kernel)) (by decide +kernel), am_gwm (List.mem_of_getElem? (i := 1037) (by decide +kernel)) (by decide +kernel), am_gwm (List.mem_of_getElem? (i := 52) (by decide +kernel)) (by decide +kernel), rfl, by decide⟩
theorem cf_8_218 : am_cS 8 218 Y_X8_dxOf 1 := ⟨cb_X8_dxOf, am_gwm (List.mem_of_getElem? (i := 1039) (by decide +kernel)) (by decide +kernel), am_gwm (List.mem_of_getElem? (i := 1040) (by decide +kernel)) (by decide +kernel)⟩
theorem cf_8_221 : am_cS 8 221 Y_X8_dyOf 1 := ⟨cb_X8_dyOf, am_gwm (List.mem_of_getElem? (i := 1042) (by decide +kernel)) (by decide +kernel), am_gwm (List.mem_of_getElem? (i := 1043) (by decide +kernel)) (by decide +kernel)⟩
theorem cf_8_227 : am_cV 8 227 Y_X8_bend 4 := ⟨cb_X8_bend, am_gwm (List.mem_of_getElem? (i := 1045) (by decide +kernel)) (by decide +kernel), am_gwm (List.mem_of_getElem? (i := 1047) (by decide +kernel)) (by decide +kernel), am_gwm (List.mem_of_getElem? (i := 53) (by decide +kernel)) (by decide +kernel), rfl, by decide⟩
theorem cf_9_106 : am_cV 9 106 Y_X8_keep 1 := ⟨cb_X8_keep, am_gwm (List.mem_of_getElem? (i := 1049) (by decide +kernel)) (by decide +kernel), am_gwm (List.mem_of_getElem? (i := 1050) (by decide +kernel)) (by decide +kernel), am_gwm (List.mem_of_getElem? (i := 1051) (by decide +kernel)) (by decide +kernel), rfl, by decide⟩
theorem cf_9_110 : am_cV 9 110 Y_X8_like 2 := ⟨cb_X8_like, am_gwm (List.mem_of_getElem? (i := 1053) (by decide +kernel)) (by decide +kernel), am_gwm (List.mem_of_getElem? (i := 1054) (by decide +kernel)) (by decide +kernel), am_gwm (List.mem_of_getElem? (i := 1055) (by decide +kernel)) (by decide +kernel), rfl, by decide⟩
theorem cf_8_233 : am_cV 8 233 Y_X8_isSame 2 := ⟨cb_X8_isSame, am_gwm (List.mem_of_getElem? (i := 1057) (by decide +kernel)) (by decide +kernel), am_gwm (List.mem_of_getElem? (i := 1059) (by decide +kernel)) (by decide +kernel), am_gwm (List.mem_of_getElem? (i := 54) (by decide +kernel)) (by decide +kernel), rfl, by decide⟩
theorem cf_8_236 : am_cV 8 236 Y_X8_ways 1 := ⟨cb_X8_ways, am_gwm (List.mem_of_getElem? (i := 1061) (by decide +kernel)) (by decide +kernel), am_gwm (List.mem_of_getElem? (i := 1063) (by decide +kernel)) (by decide +kernel), am_gwm (List.mem_of_getElem? (i := 55) (by decide +kernel)) (by decide +kernel), rfl, by decide⟩
theorem cf_9_114 : am_cV 9 114 Y_X8_alike 0 := ⟨cb_X8_alike, am_gwm (List.mem_of_getElem? (i := 1065) (by decide +kernel)) (by decide +kernel), am_gwm (List.mem_of_getElem? (i := 1066) (by decide +kernel)) (by decide +kernel), am_gwm (List.mem_of_getElem? (i := 1067) (by decide +kernel)) (by decide +kernel), rfl, by decide⟩
theorem cf_9_118 : am_cV 9 118 Y_X8_about 1 := ⟨cb_X8_about, am_gwm (List.mem_of_getElem? (i := 1069) (by decide +kernel)) (by decide +kernel), am_gwm (List.mem_of_getElem? (i := 1070) (by decide +kernel)) (by decide +kernel), am_gwm (List.mem_of_getElem? (i := 1071) (by decide +kernel)) (by decide +kernel), rfl, by decide⟩
-- what is made
theorem nw_9_7 : Cond.classLink (am_R 9) 7 (am_R 7) ∈ am_gw ∧ Cond.instantiable (am_R 7) (am_n 7) ∈ am_gw ∧ Cond.initialized (am_R 7) ∈ am_gw := ⟨am_gwm (List.mem_of_getElem? (i := 73) (by decide +kernel)) (by decide +kernel), am_gwm (List.mem_of_getElem? (i := 74) (by decide +kernel)) (by decide +kernel), am_gwm (List.mem_of_getElem? (i := 57) (by decide +kernel)) (by decide +kernel)⟩
theorem nw_7_7 : Cond.classLink (am_R 7) 7 (am_R 0) ∈ am_gw ∧ Cond.instantiable (am_R 0) (am_n 0) ∈ am_gw ∧ Cond.initialized (am_R 0) ∈ am_gw := ⟨am_gwm (List.mem_of_getElem? (i := 81) (by decide +kernel)) (by decide +kernel), am_gwm (List.mem_of_getElem? (i := 82) (by decide +kernel)) (by decide +kernel), am_gwm (List.mem_of_getElem? (i := 58) (by decide +kernel)) (by decide +kernel)⟩
theorem na_7_7 : Cond.classLink (am_R 7) 7 RX0 ∈ am_gw := nw_7_7.1
theorem nw_7_40 : Cond.classLink (am_R 7) 40 (am_R 2) ∈ am_gw ∧ Cond.instantiable (am_R 2) (am_n 2) ∈ am_gw ∧ Cond.initialized (am_R 2) ∈ am_gw := ⟨am_gwm (List.mem_of_getElem? (i := 122) (by decide +kernel)) (by decide +kernel), am_gwm (List.mem_of_getElem? (i := 123) (by decide +kernel)) (by decide +kernel), am_gwm (List.mem_of_getElem? (i := 61) (by decide +kernel)) (by decide +kernel)⟩
theorem nw_7_47 : Cond.classLink (am_R 7) 47 (am_R 1) ∈ am_gw ∧ Cond.instantiable (am_R 1) (am_n 1) ∈ am_gw ∧ Cond.initialized (am_R 1) ∈ am_gw := ⟨am_gwm (List.mem_of_getElem? (i := 145) (by decide +kernel)) (by decide +kernel), am_gwm (List.mem_of_getElem? (i := 146) (by decide +kernel)) (by decide +kernel), am_gwm (List.mem_of_getElem? (i := 62) (by decide +kernel)) (by decide +kernel)⟩
theorem nw_7_54 : Cond.classLink (am_R 7) 54 (am_R 3) ∈ am_gw ∧ Cond.instantiable (am_R 3) (am_n 3) ∈ am_gw ∧ Cond.initialized (am_R 3) ∈ am_gw := ⟨am_gwm (List.mem_of_getElem? (i := 165) (by decide +kernel)) (by decide +kernel), am_gwm (List.mem_of_getElem? (i := 166) (by decide +kernel)) (by decide +kernel), am_gwm (List.mem_of_getElem? (i := 63) (by decide +kernel)) (by decide +kernel)⟩
theorem nw_7_61 : Cond.classLink (am_R 7) 61 (am_R 4) ∈ am_gw ∧ Cond.instantiable (am_R 4) (am_n 4) ∈ am_gw ∧ Cond.initialized (am_R 4) ∈ am_gw := ⟨am_gwm (List.mem_of_getElem? (i := 193) (by decide +kernel)) (by decide +kernel), am_gwm (List.mem_of_getElem? (i := 194) (by decide +kernel)) (by decide +kernel), am_gwm (List.mem_of_getElem? (i := 64) (by decide +kernel)) (by decide +kernel)⟩
theorem nw_4_19 : Cond.classLink (am_R 4) 19 (am_R 5) ∈ am_gw ∧ Cond.instantiable (am_R 5) (am_n 5) ∈ am_gw ∧ Cond.initialized (am_R 5) ∈ am_gw := ⟨am_gwm (List.mem_of_getElem? (i := 199) (by decide +kernel)) (by decide +kernel), am_gwm (List.mem_of_getElem? (i := 200) (by decide +kernel)) (by decide +kernel), am_gwm (List.mem_of_getElem? (i := 65) (by decide +kernel)) (by decide +kernel)⟩
theorem nw_4_28 : Cond.classLink (am_R 4) 28 (am_R 0) ∈ am_gw ∧ Cond.instantiable (am_R 0) (am_n 0) ∈ am_gw ∧ Cond.initialized (am_R 0) ∈ am_gw := ⟨am_gwm (List.mem_of_getElem? (i := 224) (by decide +kernel)) (by decide +kernel), am_gwm (List.mem_of_getElem? (i := 82) (by decide +kernel)) (by decide +kernel), am_gwm (List.mem_of_getElem? (i := 58) (by decide +kernel)) (by decide +kernel)⟩
theorem na_4_28 : Cond.classLink (am_R 4) 28 RX0 ∈ am_gw := nw_4_28.1
theorem nw_7_70 : Cond.classLink (am_R 7) 70 (am_R 6) ∈ am_gw ∧ Cond.instantiable (am_R 6) (am_n 6) ∈ am_gw ∧ Cond.initialized (am_R 6) ∈ am_gw := ⟨am_gwm (List.mem_of_getElem? (i := 242) (by decide +kernel)) (by decide +kernel), am_gwm (List.mem_of_getElem? (i := 243) (by decide +kernel)) (by decide +kernel), am_gwm (List.mem_of_getElem? (i := 66) (by decide +kernel)) (by decide +kernel)⟩
theorem nw_9_18 : Cond.classLink (am_R 9) 18 (am_R 8) ∈ am_gw ∧ Cond.instantiable (am_R 8) (am_n 8) ∈ am_gw ∧ Cond.initialized (am_R 8) ∈ am_gw := ⟨am_gwm (List.mem_of_getElem? (i := 738) (by decide +kernel)) (by decide +kernel), am_gwm (List.mem_of_getElem? (i := 739) (by decide +kernel)) (by decide +kernel), am_gwm (List.mem_of_getElem? (i := 67) (by decide +kernel)) (by decide +kernel)⟩
theorem ac_0 : Cond.arrayClass (newarray.typeOf (am_at3 0)) ∈ am_gw := am_gwm (List.mem_of_getElem? (i := 104) (by decide +kernel)) (by decide +kernel)
theorem ac_1 : Cond.arrayClass (newarray.typeOf (am_at3 1)) ∈ am_gw := am_gwm (List.mem_of_getElem? (i := 659) (by decide +kernel)) (by decide +kernel)
theorem ac_2 : Cond.arrayClass (newarray.typeOf (am_at3 2)) ∈ am_gw := am_gwm (List.mem_of_getElem? (i := 835) (by decide +kernel)) (by decide +kernel)
theorem oi_7_1 : Cond.methodLink (am_R 7) 1 Lib.objectInit ∈ am_gw ∧ Cond.instanceMethod Lib.objectInit ∈ am_gw ∧ Cond.code Lib.objectInit ⟨#[0xb1]⟩ 1 none ∈ am_gw := ⟨am_gwm (List.mem_of_getElem? (i := 78) (by decide +kernel)) (by decide +kernel), am_gwm (List.mem_of_getElem? (i := 79) (by decide +kernel)) (by decide +kernel), am_gwm (List.mem_of_getElem? (i := 80) (by decide +kernel)) (by decide +kernel)⟩
theorem oi_0_3 : Cond.methodLink (am_R 0) 3 Lib.objectInit ∈ am_gw ∧ Cond.instanceMethod Lib.objectInit ∈ am_gw ∧ Cond.code Lib.objectInit ⟨#[0xb1]⟩ 1 none ∈ am_gw := ⟨am_gwm (List.mem_of_getElem? (i := 86) (by decide +kernel)) (by decide +kernel), am_gwm (List.mem_of_getElem? (i := 79) (by decide +kernel)) (by decide +kernel), am_gwm (List.mem_of_getElem? (i := 80) (by decide +kernel)) (by decide +kernel)⟩
theorem ma_7_16 : Cond.methodLink (am_R 7) 16 Lib.Math.max.name ∈ am_gw ∧ Cond.static Lib.Math.max.name ∈ am_gw ∧ Cond.initialized "java/lang/Math" ∈ am_gw ∧ Cond.code Lib.Math.max.name Lib.Math.max.code 2 (some .int) ∈ am_gw := ⟨am_gwm (List.mem_of_getElem? (i := 105) (by decide +kernel)) (by decide +kernel), am_gwm (List.mem_of_getElem? (i := 106) (by decide +kernel)) (by decide +kernel), am_gwm (List.mem_of_getElem? (i := 59) (by decide +kernel)) (by decide +kernel), am_gwm (List.mem_of_getElem? (i := 107) (by decide +kernel)) (by decide +kernel)⟩
theorem ma_7_22 : Cond.methodLink (am_R 7) 22 Lib.Math.min.name ∈ am_gw ∧ Cond.static Lib.Math.min.name ∈ am_gw ∧ Cond.initialized "java/lang/Math" ∈ am_gw ∧ Cond.code Lib.Math.min.name Lib.Math.min.code 2 (some .int) ∈ am_gw := ⟨am_gwm (List.mem_of_getElem? (i := 108) (by decide +kernel)) (by decide +kernel), am_gwm (List.mem_of_getElem? (i := 109) (by decide +kernel)) (by decide +kernel), am_gwm (List.mem_of_getElem? (i := 59) (by decide +kernel)) (by decide +kernel), am_gwm (List.mem_of_getElem? (i := 110) (by decide +kernel)) (by decide +kernel)⟩
theorem oi_2_3 : Cond.methodLink (am_R 2) 3 Lib.objectInit ∈ am_gw ∧ Cond.instanceMethod Lib.objectInit ∈ am_gw ∧ Cond.code Lib.objectInit ⟨#[0xb1]⟩ 1 none ∈ am_gw := ⟨am_gwm (List.mem_of_getElem? (i := 127) (by decide +kernel)) (by decide +kernel), am_gwm (List.mem_of_getElem? (i := 79) (by decide +kernel)) (by decide +kernel), am_gwm (List.mem_of_getElem? (i := 80) (by decide +kernel)) (by decide +kernel)⟩
theorem oi_1_3 : Cond.methodLink (am_R 1) 3 Lib.objectInit ∈ am_gw ∧ Cond.instanceMethod Lib.objectInit ∈ am_gw ∧ Cond.code Lib.objectInit ⟨#[0xb1]⟩ 1 none ∈ am_gw := ⟨am_gwm (List.mem_of_getElem? (i := 150) (by decide +kernel)) (by decide +kernel), am_gwm (List.mem_of_getElem? (i := 79) (by decide +kernel)) (by decide +kernel), am_gwm (List.mem_of_getElem? (i := 80) (by decide +kernel)) (by decide +kernel)⟩
theorem oi_3_3 : Cond.methodLink (am_R 3) 3 Lib.objectInit ∈ am_gw ∧ Cond.instanceMethod Lib.objectInit ∈ am_gw ∧ Cond.code Lib.objectInit ⟨#[0xb1]⟩ 1 none ∈ am_gw := ⟨am_gwm (List.mem_of_getElem? (i := 170) (by decide +kernel)) (by decide +kernel), am_gwm (List.mem_of_getElem? (i := 79) (by decide +kernel)) (by decide +kernel), am_gwm (List.mem_of_getElem? (i := 80) (by decide +kernel)) (by decide +kernel)⟩
theorem oi_4_3 : Cond.methodLink (am_R 4) 3 Lib.objectInit ∈ am_gw ∧ Cond.instanceMethod Lib.objectInit ∈ am_gw ∧ Cond.code Lib.objectInit ⟨#[0xb1]⟩ 1 none ∈ am_gw := ⟨am_gwm (List.mem_of_getElem? (i := 198) (by decide +kernel)) (by decide +kernel), am_gwm (List.mem_of_getElem? (i := 79) (by decide +kernel)) (by decide +kernel), am_gwm (List.mem_of_getElem? (i := 80) (by decide +kernel)) (by decide +kernel)⟩
theorem oi_5_3 : Cond.methodLink (am_R 5) 3 Lib.objectInit ∈ am_gw ∧ Cond.instanceMethod Lib.objectInit ∈ am_gw ∧ Cond.code Lib.objectInit ⟨#[0xb1]⟩ 1 none ∈ am_gw := ⟨am_gwm (List.mem_of_getElem? (i := 204) (by decide +kernel)) (by decide +kernel), am_gwm (List.mem_of_getElem? (i := 79) (by decide +kernel)) (by decide +kernel), am_gwm (List.mem_of_getElem? (i := 80) (by decide +kernel)) (by decide +kernel)⟩
theorem oi_6_3 : Cond.methodLink (am_R 6) 3 Lib.objectInit ∈ am_gw ∧ Cond.instanceMethod Lib.objectInit ∈ am_gw ∧ Cond.code Lib.objectInit ⟨#[0xb1]⟩ 1 none ∈ am_gw := ⟨am_gwm (List.mem_of_getElem? (i := 247) (by decide +kernel)) (by decide +kernel), am_gwm (List.mem_of_getElem? (i := 79) (by decide +kernel)) (by decide +kernel), am_gwm (List.mem_of_getElem? (i := 80) (by decide +kernel)) (by decide +kernel)⟩
theorem ma_5_51 : Cond.methodLink (am_R 5) 51 Lib.Math.min.name ∈ am_gw ∧ Cond.static Lib.Math.min.name ∈ am_gw ∧ Cond.initialized "java/lang/Math" ∈ am_gw ∧ Cond.code Lib.Math.min.name Lib.Math.min.code 2 (some .int) ∈ am_gw := ⟨am_gwm (List.mem_of_getElem? (i := 513) (by decide +kernel)) (by decide +kernel), am_gwm (List.mem_of_getElem? (i := 109) (by decide +kernel)) (by decide +kernel), am_gwm (List.mem_of_getElem? (i := 59) (by decide +kernel)) (by decide +kernel), am_gwm (List.mem_of_getElem? (i := 110) (by decide +kernel)) (by decide +kernel)⟩
theorem fl_11_38 : Cond.fieldLink (am_R 11) 38 "java/lang/String" "COMPACT_STRINGS" "Z" ∈ am_gw := am_gwm (List.mem_of_getElem? (i := 534) (by decide +kernel)) (by decide +kernel)
theorem fl_11_1053 : Cond.fieldLink (am_R 11) 1053 "jdk/internal/util/Preconditions" "SIOOBE_FORMATTER" "Ljava/util/function/BiFunction;" ∈ am_gw := am_gwm (List.mem_of_getElem? (i := 550) (by decide +kernel)) (by decide +kernel)
theorem ay_0_44 : Cond.methodLink (am_R 0) 44 arraycopyName ∈ am_gw ∧ Cond.native arraycopyName ∈ am_gw ∧ Cond.static arraycopyName ∈ am_gw ∧ Cond.initialized "java/lang/System" ∈ am_gw := ⟨am_gwm (List.mem_of_getElem? (i := 603) (by decide +kernel)) (by decide +kernel), am_gwm (List.mem_of_getElem? (i := 605) (by decide +kernel)) (by decide +kernel), am_gwm (List.mem_of_getElem? (i := 604) (by decide +kernel)) (by decide +kernel), am_gwm (List.mem_of_getElem? (i := 72) (by decide +kernel)) (by decide +kernel)⟩
theorem ma_6_62 : Cond.methodLink (am_R 6) 62 Lib.Math.min.name ∈ am_gw ∧ Cond.static Lib.Math.min.name ∈ am_gw ∧ Cond.initialized "java/lang/Math" ∈ am_gw ∧ Cond.code Lib.Math.min.name Lib.Math.min.code 2 (some .int) ∈ am_gw := ⟨am_gwm (List.mem_of_getElem? (i := 684) (by decide +kernel)) (by decide +kernel), am_gwm (List.mem_of_getElem? (i := 109) (by decide +kernel)) (by decide +kernel), am_gwm (List.mem_of_getElem? (i := 59) (by decide +kernel)) (by decide +kernel), am_gwm (List.mem_of_getElem? (i := 110) (by decide +kernel)) (by decide +kernel)⟩
theorem oi_8_1 : Cond.methodLink (am_R 8) 1 Lib.objectInit ∈ am_gw ∧ Cond.instanceMethod Lib.objectInit ∈ am_gw ∧ Cond.code Lib.objectInit ⟨#[0xb1]⟩ 1 none ∈ am_gw := ⟨am_gwm (List.mem_of_getElem? (i := 743) (by decide +kernel)) (by decide +kernel), am_gwm (List.mem_of_getElem? (i := 79) (by decide +kernel)) (by decide +kernel), am_gwm (List.mem_of_getElem? (i := 80) (by decide +kernel)) (by decide +kernel)⟩
theorem kl_8_136 : Jvm.Cond.constantLong (am_R 8) 136 112 ∈ am_gw := am_gwm (List.mem_of_getElem? (i := 968) (by decide +kernel)) (by decide +kernel)
theorem kl_8_142 : Jvm.Cond.constantLong (am_R 8) 142 115 ∈ am_gw := am_gwm (List.mem_of_getElem? (i := 972) (by decide +kernel)) (by decide +kernel)
theorem kl_8_144 : Jvm.Cond.constantLong (am_R 8) 144 114 ∈ am_gw := am_gwm (List.mem_of_getElem? (i := 973) (by decide +kernel)) (by decide +kernel)
theorem kl_8_146 : Jvm.Cond.constantLong (am_R 8) 146 97 ∈ am_gw := am_gwm (List.mem_of_getElem? (i := 974) (by decide +kernel)) (by decide +kernel)
theorem fl_11_9 : Cond.fieldLink (am_R 11) 9 "java/lang/String" "value" "[B" ∈ am_gw := am_gwm (List.mem_of_getElem? (i := 1073) (by decide +kernel)) (by decide +kernel)
theorem fl_11_15 : Cond.fieldLink (am_R 11) 15 "java/lang/String" "coder" "B" ∈ am_gw := am_gwm (List.mem_of_getElem? (i := 1074) (by decide +kernel)) (by decide +kernel)
end
section
section AMF
variable {d : Nat} {Y : am_Y} {b : Nat × Nat} {pc : Nat} {ls : List (Option Value)} {st : List Value} {S : am_S} {I : am_I} {Q : Option Value → am_S → am_I → Prop}
/-- the top under another spelling -/
theorem rn_top {x y : Int32} (h : x = y) (k : am_Rn d Y b pc ls (.int y :: st) S I Q) : am_Rn d Y b pc ls (.int x :: st) S I Q := h ▸ k
theorem rn_topv {x y : Value} (h : x = y) (k : am_Rn d Y b pc ls (y :: st) S I Q) : am_Rn d Y b pc ls (x :: st) S I Q := h ▸ k
theorem rn_I {I' : am_I} (h : I = I') (k : am_Rn d Y b pc ls st S I' Q) : am_Rn d Y b pc ls st S I Q := h ▸ k
/-- fewer known places -/
theorem rn_ls {ls' : List (Option Value)} (hl : ls'.length = ls.length) (hs : ∀ (i : Nat) (v : Value), ls'[i]? = some (some v) → ls[i]? = some (some v)) (k : am_Rn d Y b pc ls' st S I Q) : am_Rn d Y b pc ls st S I Q := by
  intro g p l e R s m args below meth c H locs cells slots mc ms cl C L
  exact k g p l e R s m args below meth c H locs cells slots mc ms cl C (L.sub hl hs)
/-- another end -/
theorem rn_imp {Q' : Option Value → am_S → am_I → Prop} (h : ∀ r S' I', Q' r S' I' → Q r S' I') (k : am_Rn d Y b pc ls st S I Q') : am_Rn d Y b pc ls st S I Q := by
  intro g p l e R s m args below meth c H locs cells slots mc ms cl C L T hT X
  obtain ⟨t, h1, o, h2, h3, ⟨⟨r, S', I', q1, q2, q3⟩, q4⟩, h5⟩ := k g p l e R s m args below meth c H locs cells slots mc ms cl C L T hT X
  exact ⟨t, h1, o, h2, h3, ⟨⟨r, S', I', q1, h r S' I' q2, q3⟩, q4⟩, h5⟩
theorem rn_icmp_eqN {x y : Nat} {off : Int} {tgt : Nat} (hdg : decode Y.2.2.1 pc = .ok (.if_icmp .eq off, 3)) (ht : (pc : Int) + off = (tgt : Int)) (hx : x < 2 ^ 31) (hy : y < 2 ^ 31) (kt : x = y → am_Rn d Y b tgt ls st S I Q) (kf : x ≠ y → am_Rn d Y b (pc + 3) ls st S I Q) : am_Rn d Y b pc ls (.int (nI y) :: .int (nI x) :: st) S I Q :=
  rn_icmp_eq hdg ht (fun h => kt ((nI_eq hx hy).mp h)) (fun h => kf (fun q => h ((nI_eq hx hy).mpr q)))
theorem rn_icmp_neN {x y : Nat} {off : Int} {tgt : Nat} (hdg : decode Y.2.2.1 pc = .ok (.if_icmp .ne off, 3)) (ht : (pc : Int) + off = (tgt : Int)) (hx : x < 2 ^ 31) (hy : y < 2 ^ 31) (kt : x ≠ y → am_Rn d Y b tgt ls st S I Q) (kf : x = y → am_Rn d Y b (pc + 3) ls st S I Q) : am_Rn d Y b pc ls (.int (nI y) :: .int (nI x) :: st) S I Q :=
  rn_icmp_ne hdg ht (fun h => kt (fun q => h ((nI_eq hx hy).mpr q))) (fun h => kf ((nI_eq hx hy).mp h))
theorem rn_icmp_ltN {x y : Nat} {off : Int} {tgt : Nat} (hdg : decode Y.2.2.1 pc = .ok (.if_icmp .lt off, 3)) (ht : (pc : Int) + off = (tgt : Int)) (hx : x < 2 ^ 31) (hy : y < 2 ^ 31) (kt : x < y → am_Rn d Y b tgt ls st S I Q) (kf : y ≤ x → am_Rn d Y b (pc + 3) ls st S I Q) : am_Rn d Y b pc ls (.int (nI y) :: .int (nI x) :: st) S I Q :=
  rn_icmp_lt hdg ht (fun h => kt ((nI_ltI hx hy).mp h)) (fun h => kf (Nat.not_lt.mp fun q => h ((nI_ltI hx hy).mpr q)))
theorem rn_icmp_geN {x y : Nat} {off : Int} {tgt : Nat} (hdg : decode Y.2.2.1 pc = .ok (.if_icmp .ge off, 3)) (ht : (pc : Int) + off = (tgt : Int)) (hx : x < 2 ^ 31) (hy : y < 2 ^ 31) (kt : y ≤ x → am_Rn d Y b tgt ls st S I Q) (kf : x < y → am_Rn d Y b (pc + 3) ls st S I Q) : am_Rn d Y b pc ls (.int (nI y) :: .int (nI x) :: st) S I Q :=
  rn_icmp_ge hdg ht (fun h => kt ((nI_leI hy hx).mp h)) (fun h => kf (Nat.not_le.mp fun q => h ((nI_leI hy hx).mpr q)))
theorem rn_icmp_gtN {x y : Nat} {off : Int} {tgt : Nat} (hdg : decode Y.2.2.1 pc = .ok (.if_icmp .gt off, 3)) (ht : (pc : Int) + off = (tgt : Int)) (hx : x < 2 ^ 31) (hy : y < 2 ^ 31) (kt : y < x → am_Rn d Y b tgt ls st S I Q) (kf : x ≤ y → am_Rn d Y b (pc + 3) ls st S I Q) : am_Rn d Y b pc ls (.int (nI y) :: .int (nI x) :: st) S I Q :=
  rn_icmp_gt hdg ht (fun h => kt ((nI_ltI hy hx).mp h)) (fun h => kf (Nat.not_lt.mp fun q => h ((nI_ltI hy hx).mpr q)))
theorem rn_icmp_leN {x y : Nat} {off : Int} {tgt : Nat} (hdg : decode Y.2.2.1 pc = .ok (.if_icmp .le off, 3)) (ht : (pc : Int) + off = (tgt : Int)) (hx : x < 2 ^ 31) (hy : y < 2 ^ 31) (kt : x ≤ y → am_Rn d Y b tgt ls st S I Q) (kf : y < x → am_Rn d Y b (pc + 3) ls st S I Q) : am_Rn d Y b pc ls (.int (nI y) :: .int (nI x) :: st) S I Q :=
  rn_icmp_le hdg ht (fun h => kt ((nI_leI hx hy).mp h)) (fun h => kf (Nat.not_le.mp fun q => h ((nI_leI hx hy).mpr q)))
theorem rn_if_eqN {x : Nat} {off : Int} {tgt : Nat} (hdg : decode Y.2.2.1 pc = .ok (.ifCond .eq off, 3)) (ht : (pc : Int) + off = (tgt : Int)) (hx : x < 2 ^ 31) (kt : x = 0 → am_Rn d Y b tgt ls st S I Q) (kf : x ≠ 0 → am_Rn d Y b (pc + 3) ls st S I Q) : am_Rn d Y b pc ls (.int (nI x) :: st) S I Q :=
  rn_if_eq hdg ht (fun h => kt ((nI_eq hx (by decide)).mp (h.trans nI_0.symm))) (fun h => kf (fun q => h (by rw [q]; exact nI_0)))
theorem rn_if_neN {x : Nat} {off : Int} {tgt : Nat} (hdg : decode Y.2.2.1 pc = .ok (.ifCond .ne off, 3)) (ht : (pc : Int) + off = (tgt : Int)) (hx : x < 2 ^ 31) (kt : x ≠ 0 → am_Rn d Y b tgt ls st S I Q) (kf : x = 0 → am_Rn d Y b (pc + 3) ls st S I Q) : am_Rn d Y b pc ls (.int (nI x) :: st) S I Q :=
  rn_if_ne hdg ht (fun h => kt (fun q => h (by rw [q]; exact nI_0))) (fun h => kf ((nI_eq hx (by decide)).mp (h.trans nI_0.symm)))
theorem rn_if_ltN {x : Nat} {off : Int} (hdg : decode Y.2.2.1 pc = .ok (.ifCond .lt off, 3)) (hx : x < 2 ^ 31) {tgt : Nat} (ht : (pc : Int) + off = (tgt : Int)) (kf : am_Rn d Y b (pc + 3) ls st S I Q) : am_Rn d Y b pc ls (.int (nI x) :: st) S I Q :=
  rn_if_lt hdg ht (fun h => absurd h (nI_pos hx)) (fun _ => kf)
theorem rn_if_geN {x : Nat} {off : Int} {tgt : Nat} (hdg : decode Y.2.2.1 pc = .ok (.ifCond .ge off, 3)) (ht : (pc : Int) + off = (tgt : Int)) (hx : x < 2 ^ 31) (kt : am_Rn d Y b tgt ls st S I Q) : am_Rn d Y b pc ls (.int (nI x) :: st) S I Q :=
  rn_if_ge hdg ht (fun _ => kt) (fun h => absurd (nI_pos' hx) h)
theorem rn_if_leN {x : Nat} {off : Int} {tgt : Nat} (hdg : decode Y.2.2.1 pc = .ok (.ifCond .le off, 3)) (ht : (pc : Int) + off = (tgt : Int)) (hx : x < 2 ^ 31) (kt : x = 0 → am_Rn d Y b tgt ls st S I Q) (kf : 0 < x → am_Rn d Y b (pc + 3) ls st S I Q) : am_Rn d Y b pc ls (.int (nI x) :: st) S I Q :=
  rn_if_le hdg ht (fun h => kt (by rw [← nI_0, nI_leI hx (by decide)] at h; omega)) (fun h => kf (by rw [← nI_0, nI_leI hx (by decide)] at h; omega))
theorem rn_if_gtN {x : Nat} {off : Int} {tgt : Nat} (hdg : decode Y.2.2.1 pc = .ok (.ifCond .gt off, 3)) (ht : (pc : Int) + off = (tgt : Int)) (hx : x < 2 ^ 31) (kt : 0 < x → am_Rn d Y b tgt ls st S I Q) (kf : x = 0 → am_Rn d Y b (pc + 3) ls st S I Q) : am_Rn d Y b pc ls (.int (nI x) :: st) S I Q :=
  rn_if_gt hdg ht (fun h => kt (by rw [← nI_0, nI_ltI (by decide) hx] at h; omega)) (fun h => kf (by rw [← nI_0, nI_ltI (by decide) hx] at h; omega))
theorem rn_ialoadN {a n e : Nat} (hdg : decode Y.2.2.1 pc = .ok (.iaload, 1)) (ha : a < S.1) (hk : S.2.1 a = .inl (0, n)) (hn : n < 2 ^ 31) (he : e < n) (kk : am_Rn d Y b (pc + 1) ls (.int (I a e) :: st) S I Q) : am_Rn d Y b pc ls (.int (nI e) :: .ref a :: st) S I Q :=
  rn_iaload hdg ha hk (vp_in_nI he hn) (by rw [nI_clamp (Nat.lt_trans he hn)]; exact kk)
theorem rn_baloadN {a t n e : Nat} (hdg : decode Y.2.2.1 pc = .ok (.baload, 1)) (ha : a < S.1) (hk : S.2.1 a = .inl (t, n)) (ht : t = 1 ∨ t = 2) (hn : n < 2 ^ 31) (he : e < n) (kk : am_Rn d Y b (pc + 1) ls (.int (I a e) :: st) S I Q) : am_Rn d Y b pc ls (.int (nI e) :: .ref a :: st) S I Q :=
  rn_baload hdg ha hk ht (vp_in_nI he hn) (by rw [nI_clamp (Nat.lt_trans he hn)]; exact kk)
theorem rn_iastoreN {a n e : Nat} {x : Int32} (hdg : decode Y.2.2.1 pc = .ok (.iastore, 1)) (ha : a < S.1) (hk : S.2.1 a = .inl (0, n)) (hn : n < 2 ^ 31) (he : e < n) (kk : am_Rn d Y b (pc + 1) ls st S (am_up I a e x) Q) : am_Rn d Y b pc ls (.int x :: .int (nI e) :: .ref a :: st) S I Q :=
  rn_iastore hdg ha hk (vp_in_nI he hn) (by rw [nI_clamp (Nat.lt_trans he hn)]; exact kk)
theorem rn_bastoreN {a n e : Nat} {x : Int32} (hdg : decode Y.2.2.1 pc = .ok (.bastore, 1)) (ha : a < S.1) (hk : S.2.1 a = .inl (1, n)) (hn : n < 2 ^ 31) (he : e < n) (kk : am_Rn d Y b (pc + 1) ls st S (am_up I a e x.toInt8.toInt32) Q) : am_Rn d Y b pc ls (.int x :: .int (nI e) :: .ref a :: st) S I Q :=
  rn_bastore hdg ha hk (vp_in_nI he hn) (by rw [nI_clamp (Nat.lt_trans he hn)]; exact kk)
theorem rn_zastoreN {a n e : Nat} {x : Int32} (hdg : decode Y.2.2.1 pc = .ok (.bastore, 1)) (ha : a < S.1) (hk : S.2.1 a = .inl (2, n)) (hn : n < 2 ^ 31) (he : e < n) (hx : narrow .boolean (.int x) = .int x) (kk : am_Rn d Y b (pc + 1) ls st S (am_up I a e x) Q) : am_Rn d Y b pc ls (.int x :: .int (nI e) :: .ref a :: st) S I Q :=
  rn_zastore hdg ha hk (vp_in_nI he hn) hx (by rw [nI_clamp (Nat.lt_trans he hn)]; exact kk)
theorem rn_aaloadN {a n e : Nat} (hdg : decode Y.2.2.1 pc = .ok (.aaload, 1)) (ha : a < S.1) (hk : S.2.1 a = .inr (.inl n)) (hn : n < 2 ^ 31) (he : e < n) (kk : am_Rn d Y b (pc + 1) ls (va_rf (S.2.2 a e) :: st) S I Q) : am_Rn d Y b pc ls (.int (nI e) :: .ref a :: st) S I Q :=
  rn_aaload hdg ha hk (vp_in_nI he hn) (by rw [nI_clamp (Nat.lt_trans he hn)]; exact kk)
/-- a truth as the machine has it -/
def am_b (c : Bool) : Int32 := if c = true then 1 else 0
theorem am_b_t {c : Bool} (h : c = true) : am_b c = 1 := by simp [am_b, h]
theorem am_b_f {c : Bool} (h : c = false) : am_b c = 0 := by simp [am_b, h]
theorem am_b_n (c : Bool) : narrow .boolean (.int (am_b c)) = .int (am_b c) := by cases c <;> decide
theorem am_b_fit (c : Bool) : fits .boolean (.int (am_b c)) = true := by cases c <;> decide
theorem am_b_0 {c : Bool} : am_b c = 0 ↔ c = false := by cases c <;> simp [am_b] <;> decide
theorem am_b_1 {c : Bool} : ¬ am_b c = 0 ↔ c = true := by cases c <;> simp [am_b] <;> decide
theorem rn_if_eqB {c : Bool} {off : Int} {tgt : Nat} (hdg : decode Y.2.2.1 pc = .ok (.ifCond .eq off, 3)) (ht : (pc : Int) + off = (tgt : Int)) (kt : c = false → am_Rn d Y b tgt ls st S I Q) (kf : c = true → am_Rn d Y b (pc + 3) ls st S I Q) : am_Rn d Y b pc ls (.int (am_b c) :: st) S I Q :=
  rn_if_eq hdg ht (fun h => kt (am_b_0.mp h)) (fun h => kf (am_b_1.mp h))
theorem rn_if_neB {c : Bool} {off : Int} {tgt : Nat} (hdg : decode Y.2.2.1 pc = .ok (.ifCond .ne off, 3)) (ht : (pc : Int) + off = (tgt : Int)) (kt : c = true → am_Rn d Y b tgt ls st S I Q) (kf : c = false → am_Rn d Y b (pc + 3) ls st S I Q) : am_Rn d Y b pc ls (.int (am_b c) :: st) S I Q :=
  rn_if_ne hdg ht (fun h => kt (am_b_1.mp h)) (fun h => kf (am_b_0.mp h))
end AMF
section AMG2
variable {d : Nat} {Y : am_Y} {b : Nat × Nat} {pc : Nat} {ls : List (Option Value)} {st : List Value} {S S0 : am_S} {I I0 : am_I} {Q : Option Value → am_S → am_I → Prop} {Z : am_Y} {d' n i a : Nat} {as stk : List Value} {Q' : Option Value → am_S → am_I → Prop} {r0 : Option Value}
/-- the answer and the world behind, told outright -/
def am_q (r0 : Option Value) (S0 : am_S) (I0 : am_I) : Option Value → am_S → am_I → Prop := fun r S' I' => r = r0 ∧ S' = S0 ∧ I' = I0
theorem rn_callSq (hdg : decode Y.2.2.1 pc = .ok (.invokestatic i, 3)) (hc : am_cS Y.2.1 i Z n) (hM : am_Mt d' Z (0, 0) as S I (am_q r0 S0 I0)) (hd : d' < d) (hn : as.length = n) (hs : as.reverse ++ st = stk) (hr : (st.map fun v => v.category).sum ≤ 8) (kk : am_Rn d Y b (pc + 3) ls (r0.toList ++ st) S0 I0 Q) : am_Rn d Y b pc ls stk S I Q :=
  rn_callS hdg hc hM hd ⟨Nat.zero_le _, Nat.zero_le _⟩ hn hs hr (fun r S' I' h => by obtain ⟨rfl, rfl, rfl⟩ := h; exact kk)
theorem rn_callSNq (hdg : decode Y.2.2.1 pc = .ok (.invokestatic i, 3)) (hc : am_cSN Y.2.1 i Z n) (hM : am_Mt d' Z (0, 0) as S I (am_q r0 S0 I0)) (hd : d' < d) (hn : as.length = n) (hs : as.reverse ++ st = stk) (hr : (st.map fun v => v.category).sum ≤ 8) (kk : am_Rn d Y b (pc + 3) ls (r0.toList ++ st) S0 I0 Q) : am_Rn d Y b pc ls stk S I Q :=
  rn_callSN hdg hc hM hd ⟨Nat.zero_le _, Nat.zero_le _⟩ hn hs hr (fun r S' I' h => by obtain ⟨rfl, rfl, rfl⟩ := h; exact kk)
theorem rn_callVq (hdg : decode Y.2.2.1 pc = .ok (.invokevirtual i, 3)) (hc : am_cV Y.2.1 i Z n) (hM : am_Mt d' Z (0, 0) (.ref a :: as) S I (am_q r0 S0 I0)) (hd : d' < d) (ha : a < S.1) (hk : S.2.1 a = .inr (.inr Z.2.1)) (hn : as.length = n) (hs : as.reverse ++ .ref a :: st = stk) (hr : (st.map fun v => v.category).sum ≤ 8) (kk : am_Rn d Y b (pc + 3) ls (r0.toList ++ st) S0 I0 Q) : am_Rn d Y b pc ls stk S I Q :=
  rn_callV hdg hc hM hd ⟨Nat.zero_le _, Nat.zero_le _⟩ ha hk hn hs hr (fun r S' I' h => by obtain ⟨rfl, rfl, rfl⟩ := h; exact kk)
theorem rn_callTq {j : Nat} (hj : j < 9) (hdg : decode Y.2.2.1 pc = .ok (.invokevirtual i, 3)) (hc : am_cT Y.2.1 i Z n) (hM : am_Mt d' Z (0, 0) (.ref (am_B + j) :: as) S I (am_q r0 S0 I0)) (hd : d' < d) (hn : as.length = n) (hs : as.reverse ++ .ref (am_B + j) :: st = stk) (hr : (st.map fun v => v.category).sum ≤ 8) (kk : am_Rn d Y b (pc + 3) ls (r0.toList ++ st) S0 I0 Q) : am_Rn d Y b pc ls stk S I Q :=
  rn_callT hj hdg hc hM hd ⟨Nat.zero_le _, Nat.zero_le _⟩ hn hs hr (fun r S' I' h => by obtain ⟨rfl, rfl, rfl⟩ := h; exact kk)
theorem rn_callV0 (hdg : decode Y.2.2.1 pc = .ok (.invokevirtual i, 3)) (hc : am_cV Y.2.1 i Z n) (hM : am_Mt d' Z (0, 0) (.ref a :: as) S I Q') (hd : d' < d) (ha : a < S.1) (hk : S.2.1 a = .inr (.inr Z.2.1)) (hn : as.length = n) (hs : as.reverse ++ .ref a :: st = stk) (hr : (st.map fun v => v.category).sum ≤ 8) (kk : ∀ r S' I', Q' r S' I' → am_Rn d Y b (pc + 3) ls (r.toList ++ st) S' I' Q) : am_Rn d Y b pc ls stk S I Q :=
  rn_callV hdg hc hM hd ⟨Nat.zero_le _, Nat.zero_le _⟩ ha hk hn hs hr kk
theorem am_Mt.imp {Y : am_Y} {d : Nat} {Q Q' : Option Value → am_S → am_I → Prop} {b : Nat × Nat} (h : am_Mt d Y b as S I Q) (hQ : Q = Q') : am_Mt d Y b as S I Q' := hQ ▸ h
end AMG2
end
section
/-! numbers -/
theorem z_le {x y : Int32} : x ≤ y ↔ x.toInt ≤ y.toInt := Int32.le_iff_toInt_le
theorem z_lt {x y : Int32} : x < y ↔ x.toInt < y.toInt := Int32.lt_iff_toInt_lt
theorem z_eq {x y : Int32} : x = y ↔ x.toInt = y.toInt := ⟨fun h => by rw [h], fun h => Int32.toInt_inj.mp h⟩
theorem z_0 : (0 : Int32).toInt = 0 := rfl
theorem z_1 : (1 : Int32).toInt = 1 := rfl
theorem z_2 : (2 : Int32).toInt = 2 := rfl
theorem z_m1 : (-1 : Int32).toInt = -1 := by decide
theorem z_tn (x : Int32) : x.toInt % 2 = ((x.toBitVec.toNat % 2 : Nat) : Int) := by
  have h : x.toInt = x.toBitVec.toInt := rfl
  rw [h, BitVec.toInt_eq_toNat_cond]
  split <;> omega
theorem z_and1 (x : Int32) : x &&& 1 = nI (x.toInt % 2).toNat := by
  rw [pk_and x (m := 1) 1 (by decide), z_tn]
  rfl
theorem z_par (x y : Int32) : (x + y).toInt % 2 = (x.toInt + y.toInt) % 2 := by
  rw [Int32.toInt_add]
  have h : ∀ z : Int, (z.bmod (2 ^ 32)) % 2 = z % 2 := by
    intro z
    rw [Int.bmod_def]
    split <;> omega
  exact h _
theorem z_pand (x y : Int32) : (x + y) &&& 1 = nI ((x.toInt + y.toInt) % 2).toNat := by rw [z_and1, z_par]
/-- a number that isn't below 0 -/
theorem z_nat {x : Int32} (h : 0 ≤ x.toInt) : x = nI x.toInt.toNat := by
  apply Int32.toInt_inj.mp
  have := Int32.toInt_lt x
  rw [nI_toInt (by omega)]
  omega
theorem z_nI {n : Nat} (h : n < 2147483648) : (nI n).toInt = (n : Int) := nI_toInt h
/-! the points of a drawing -/
def pInner (w h : Nat) (i j : Int32) : Bool := decide (0 < i.toInt ∧ i.toInt < 2 * w ∧ 0 < j.toInt ∧ j.toInt < 2 * h ∧ (i.toInt + j.toInt) % 2 = 1)
def pPoint (w h : Nat) (i j : Int32) : Bool := decide (0 ≤ i.toInt ∧ i.toInt ≤ 2 * w ∧ 0 ≤ j.toInt ∧ j.toInt ≤ 2 * h ∧ (i.toInt + j.toInt) % 2 = 1)
/-- by natural numbers -/
def nInner (w h i j : Nat) : Bool := decide (0 < i ∧ i < 2 * w ∧ 0 < j ∧ j < 2 * h ∧ (i + j) % 2 = 1)
theorem pInner_nI {w h i j : Nat} (hi : i < 2147483648) (hj : j < 2147483648) : pInner w h (nI i) (nI j) = nInner w h i j := by
  unfold pInner nInner
  rw [z_nI hi, z_nI hj]
  congr 1
  apply propext
  constructor <;> intro hh <;> omega
theorem pInner_ex {w h : Nat} {i j : Int32} (hh : pInner w h i j = true) : ∃ a c : Nat, i = nI a ∧ j = nI c ∧ 0 < a ∧ a < 2 * w ∧ 0 < c ∧ c < 2 * h ∧ (a + c) % 2 = 1 := by
  have hp := of_decide_eq_true hh
  refine ⟨i.toInt.toNat, j.toInt.toNat, z_nat (by omega), z_nat (by omega), ?_⟩
  omega
theorem z_par1 {x y : Int32} (h : (x + y) &&& 1 = nI 1) : (x.toInt + y.toInt) % 2 = 1 := by
  rw [z_pand, nI_eq (by omega) (by decide)] at h
  omega
theorem z_par0 {x y : Int32} (h : ¬ (x + y) &&& 1 = nI 1) : ¬ (x.toInt + y.toInt) % 2 = 1 := by
  intro h2
  apply h
  rw [z_pand, h2]
  rfl
/-- a size that can be -/
def okSz (w : Nat) : Prop := 1 ≤ w ∧ w ≤ 8
/-! loops -/
theorem am_loop {P : Nat → Prop} (n : Nat) (h : ∀ k, k ≤ n → (k < n → P (k + 1)) → P k) : ∀ k, k ≤ n → P k := by
  have key : ∀ m k, n - k = m → k ≤ n → P k := by
    intro m
    induction m with
    | zero => intro k hm hk; exact h k hk (fun hl => absurd hl (by omega))
    | succ m ih => intro k hm hk; exact h k hk (fun hl => ih (k + 1) (by omega) (by omega))
  exact fun k hk => key (n - k) k rfl hk
theorem am_wf {σ : Type} {P : σ → Prop} (μ : σ → Nat) (h : ∀ s, (∀ s', μ s' < μ s → P s') → P s) : ∀ s, P s := by
  have key : ∀ m s, μ s < m → P s := by
    intro m
    induction m with
    | zero => intro s hs; exact absurd hs (by omega)
    | succ m ih => intro s hs; exact h s (fun s' h' => ih s' (by omega))
  exact fun s => key (μ s + 1) s (by omega)
/-! drawings of the class: the object a, its row q; M tells the mirror at an inner point -/
def am_dr (S : am_S) (a q : Nat) : Prop := a < S.1 ∧ S.2.1 a = .inr (.inr 0) ∧ S.2.2 a 2 = some q ∧ q < S.1 ∧ S.2.1 q = .inl (0, 128)
theorem am_dr.ne {S : am_S} {a q : Nat} (h : am_dr S a q) : a ≠ q := by
  intro e
  have h1 := h.2.1
  have h2 := h.2.2.2.2
  rw [e, h2] at h1
  cases h1
def am_fl (n : Nat) (v : Int32) (f : Nat → Int32) : Nat → Int32 := fun j => if j < n then v else f j
theorem am_fl_step (I : am_I) (r k n : Nat) (v : Int32) : am_up (va_up I r (am_fl k v (I r))) r k v = va_up I r (am_fl (k + 1) v (I r)) := by
  funext b j
  by_cases hb : b = r
  · subst hb
    by_cases hj : j = k
    · subst hj; simp [am_up, va_up, am_fl]
    · by_cases h2 : j < k
      · simp [am_up, va_up, am_fl, hj, h2, Nat.lt_succ_of_lt h2]
      · have h3 : ¬ j < k + 1 := by omega
        simp [am_up, va_up, am_fl, hj, h2, h3]
  · simp [am_up, va_up, hb]
theorem am_fl_0 (I : am_I) (r : Nat) (v : Int32) : I = va_up I r (am_fl 0 v (I r)) := by
  funext b j
  by_cases hb : b = r
  · subst hb; simp [va_up, am_fl]
  · simp [va_up, hb]
theorem rn_copyN {d : Nat} {Y : am_Y} {b : Nat × Nat} {pc : Nat} {ls : List (Option Value)} {st : List Value} {S : am_S} {I : am_I} {Q : Option Value → am_S → am_I → Prop} {i a0 a n0 n1 sp dp n : Nat} (hdg : decode Y.2.2.1 pc = .ok (.invokestatic i, 3)) (hw : Cond.methodLink (am_R Y.2.1) i arraycopyName ∈ am_gw ∧ Cond.native arraycopyName ∈ am_gw ∧ Cond.static arraycopyName ∈ am_gw ∧ Cond.initialized "java/lang/System" ∈ am_gw)
    (ha0 : a0 < S.1) (ha : a < S.1) (hk0 : S.2.1 a0 = .inl (0, n0)) (hk : S.2.1 a = .inl (0, n1)) (h1 : sp < 2147483648) (h2 : dp < 2147483648) (h3 : n < 2147483648) (h4 : sp + n ≤ n0) (h5 : dp + n ≤ n1) (hd : 1 ≤ d) (hr : (st.map fun v => v.category).sum ≤ 8)
    (kk : am_Rn d Y b (pc + 3) ls st S (va_up I a (va_cpy (I a0) (I a) sp dp n)) Q) : am_Rn d Y b pc ls (.int (nI n) :: .int (nI dp) :: .ref a :: .int (nI sp) :: .ref a0 :: st) S I Q :=
  rn_copy hdg hw ha0 ha hk0 hk (nI_pos h1) (nI_pos h2) (nI_pos h3) (by rw [nI_clamp h1, nI_clamp h3]; exact h4) (by rw [nI_clamp h2, nI_clamp h3]; exact h5) hd hr (by rw [nI_clamp h1, nI_clamp h2, nI_clamp h3]; exact kk)
/-- how often a value stands among the first n -/
def cntV (f : Nat → Int32) (v : Int32) : Nat → Nat
  | 0 => 0
  | n + 1 => cntV f v n + (if f n = v then 1 else 0)
theorem cntV_le (f : Nat → Int32) (v : Int32) (n : Nat) : cntV f v n ≤ n := by
  induction n with
  | zero => exact Nat.le_refl _
  | succ n ih =>
    simp only [cntV]
    split <;> omega
/-- a drawing's object and row are changed -/
def dr_sz (I : am_I) (a w h : Nat) : am_I := am_up (am_up I a 0 (nI w)) a 1 (nI h)
def dr_clr (I : am_I) (a q w h : Nat) : am_I := va_up (dr_sz I a w h) q (am_fl 128 (nI 0) (dr_sz I a w h q))
def dr_cpy (I : am_I) (a q a0 q0 w h : Nat) : am_I := va_up (dr_sz I a w h) q (va_cpy (dr_sz I a w h q0) (dr_sz I a w h q) 0 0 128)
theorem dr_sz_o (I : am_I) {a w h b : Nat} (hb : b ≠ a) : dr_sz I a w h b = I b := by simp [dr_sz, am_up, va_up, hb]
theorem dr_clr_o (I : am_I) {a q w h b : Nat} (hb : b ≠ a) (hq : b ≠ q) : dr_clr I a q w h b = I b := by simp [dr_clr, va_up, hq, dr_sz_o I hb]
theorem dr_clr_w (I : am_I) {a q w h : Nat} (hn : a ≠ q) : dr_clr I a q w h a 0 = nI w ∧ dr_clr I a q w h a 1 = nI h := by simp [dr_clr, va_up, hn, dr_sz, am_up]
theorem dr_clr_r (I : am_I) {a q w h p : Nat} (hp : p < 128) : dr_clr I a q w h q p = nI 0 := by simp [dr_clr, va_up, am_fl, hp]
theorem dr_cpy_o (I : am_I) {a q a0 q0 w h b : Nat} (hb : b ≠ a) (hq : b ≠ q) : dr_cpy I a q a0 q0 w h b = I b := by simp [dr_cpy, va_up, hq, dr_sz_o I hb]
theorem dr_cpy_w (I : am_I) {a q a0 q0 w h : Nat} (hn : a ≠ q) : dr_cpy I a q a0 q0 w h a 0 = nI w ∧ dr_cpy I a q a0 q0 w h a 1 = nI h := by simp [dr_cpy, va_up, hn, dr_sz, am_up]
theorem dr_cpy_r (I : am_I) {a q a0 q0 w h p : Nat} (hq : q0 ≠ a) (hp : p < 128) : dr_cpy I a q a0 q0 w h q p = I q0 p := by simp [dr_cpy, va_up, va_cpy, hp, dr_sz_o I hq]
/-- a truth as a bit -/
noncomputable def pb (P : Prop) : Bool := @decide P (Classical.propDecidable P)
theorem pb_t {P : Prop} (h : P) : pb P = true := @decide_eq_true P (Classical.propDecidable P) h
theorem pb_f {P : Prop} (h : ¬ P) : pb P = false := @decide_eq_false P (Classical.propDecidable P) h
theorem pb_of {P : Prop} (h : pb P = true) : P := @of_decide_eq_true P (Classical.propDecidable P) h
theorem pb_no {P : Prop} (h : pb P = false) : ¬ P := @of_decide_eq_false P (Classical.propDecidable P) h
theorem pb_congr {P R : Prop} (h : P ↔ R) : pb P = pb R := by rw [propext h]
theorem pb_dec (P : Prop) [hP : Decidable P] : pb P = decide P := by
  by_cases h : P
  · rw [pb_t h, decide_eq_true h]
  · rw [pb_f h, decide_eq_false h]
end
section
set_option maxHeartbeats 4000000 in
set_option maxRecDepth 100000 in
theorem c_X7_isDots (S : am_S) (I : am_I) (x : Int32) : am_Mt 0 Y_X7_isDots (0, 0) [.int x] S I (am_q (some (.int (am_b (decide (1 ≤ x.toInt ∧ x.toInt ≤ 8))))) S I) := by
  have e1 := z_nI (n := 1) (by decide)
  have e8 := z_nI (n := 8) (by decide)
  refine am_mt ⟨by decide +kernel, rfl⟩ (Nat.le_of_ble_eq_true rfl) rfl ?_
  refine rn_iload_n dX7_isDots_0 rfl rfl ?_
  refine rn_iconst (v := nI 1) dX7_isDots_1 (by decide) ?_
  refine rn_icmp_lt (tgt := 15) dX7_isDots_2 (by decide) (fun c_2 => ?_) (fun c_2 => ?_)
  · refine rn_iconst (v := nI 0) dX7_isDots_15 (by decide) ?_
    refine rn_ireturn dX7_isDots_16 rfl (by decide) ?_
    exact ⟨by rw [am_b_f (decide_eq_false (by simp only [z_le, z_lt, e1, e8] at *; omega))]; rfl, rfl, rfl⟩
  · refine rn_iload_n dX7_isDots_5 rfl rfl ?_
    refine rn_bipush (v := nI 8) dX7_isDots_6 (by decide) ?_
    refine rn_icmp_gt (tgt := 15) dX7_isDots_8 (by decide) (fun c_8 => ?_) (fun c_8 => ?_)
    · refine rn_iconst (v := nI 0) dX7_isDots_15 (by decide) ?_
      refine rn_ireturn dX7_isDots_16 rfl (by decide) ?_
      exact ⟨by rw [am_b_f (decide_eq_false (by simp only [z_le, z_lt, e1, e8] at *; omega))]; rfl, rfl, rfl⟩
    · refine rn_iconst (v := nI 1) dX7_isDots_11 (by decide) ?_
      refine rn_goto (tgt := 16) dX7_isDots_12 (by decide) ?_
      refine rn_ireturn dX7_isDots_16 rfl (by decide) ?_
      exact ⟨by rw [am_b_t (decide_eq_true (by simp only [z_le, z_lt, e1, e8] at *; omega))]; rfl, rfl, rfl⟩
set_option maxHeartbeats 4000000 in
set_option maxRecDepth 100000 in
theorem c_X7_placeOf (S : am_S) (I : am_I) {i j : Nat} (hi : i < 2147483648) : am_Mt 0 Y_X7_placeOf (0, 0) [.int (nI i), .int (nI j)] S I (am_q (some (.int (nI (8 * j + i / 2)))) S I) := by
  refine am_mt ⟨by decide +kernel, rfl⟩ (Nat.le_of_ble_eq_true rfl) rfl ?_
  refine rn_bipush (v := nI 8) dX7_placeOf_0 (by decide) ?_
  refine rn_iload_n dX7_placeOf_2 rfl rfl ?_
  refine rn_imul dX7_placeOf_3 ?_
  refine rn_top (pk_mul _ _) ?_
  refine rn_iload_n dX7_placeOf_4 rfl rfl ?_
  refine rn_iconst (v := nI 2) dX7_placeOf_5 (by decide) ?_
  refine rn_idiv dX7_placeOf_6 (by decide) ?_
  refine rn_top (pk_div (by omega) (by omega) (by omega)) ?_
  refine rn_iadd dX7_placeOf_7 ?_
  refine rn_top (nI_add _ _) ?_
  refine rn_ireturn dX7_placeOf_8 rfl (vp_nar_int _) ?_
  exact ⟨rfl, rfl, rfl⟩
set_option maxHeartbeats 4000000 in
set_option maxRecDepth 100000 in
theorem c_J7_fill (S : am_S) (I : am_I) {r n : Nat} (v : Int32) (hr : r < S.1) (hk : S.2.1 r = .inl (0, n)) (hn : n < 2147483648) : am_Mt 0 Y_J7_fill_53178 (0, 0) [.ref r, .int v] S I (am_q none S (va_up I r (am_fl n v (I r)))) := by
  have L : ∀ k, k ≤ n → am_Rn 0 Y_J7_fill_53178 (0, 0) 5 [some (.ref r), some (.int v), some (.int (nI k)), some (.int (nI n))] [] S (va_up I r (am_fl k v (I r))) (am_q none S (va_up I r (am_fl n v (I r)))) := by
    refine am_loop n (fun k hkn ih => ?_)
    refine rn_iload_n dJ7_fill_53178_5 rfl rfl ?_
    refine rn_iload_n dJ7_fill_53178_6 rfl rfl ?_
    refine rn_icmp_geN (tgt := 20) dJ7_fill_53178_7 (by decide) (by omega) (by omega) (fun c_7 => ?_) (fun c_7 => ?_)
    · refine rn_return dJ7_fill_53178_20 rfl ?_
      obtain rfl : k = n := by omega
      exact ⟨rfl, rfl, rfl⟩
    · refine rn_aload_n dJ7_fill_53178_10 rfl rfl ?_
      refine rn_iload_n dJ7_fill_53178_11 rfl rfl ?_
      refine rn_iload_n dJ7_fill_53178_12 rfl rfl ?_
      refine rn_iastoreN dJ7_fill_53178_13 hr hk (by omega) c_7 ?_
      refine rn_iinc (v := nI (k + 1)) (ls' := [some (.ref r), some (.int v), some (.int (nI (k + 1))), some (.int (nI n))]) dJ7_fill_53178_14 rfl (nI_add _ 1) (by decide) rfl rfl ?_
      refine rn_goto (tgt := 5) dJ7_fill_53178_17 (by decide) ?_
      refine rn_I (am_fl_step I r k n v) ?_
      exact ih c_7
  refine am_mt ⟨by decide +kernel, rfl⟩ (Nat.le_of_ble_eq_true rfl) rfl ?_
  refine rn_iconst (v := nI 0) dJ7_fill_53178_0 (by decide) ?_
  refine rn_istore_n (ls' := [some (.ref r), some (.int v), some (.int (nI 0)), none]) dJ7_fill_53178_1 rfl (by decide) rfl rfl ?_
  refine rn_aload_n dJ7_fill_53178_2 rfl rfl ?_
  refine rn_alen dJ7_fill_53178_3 hr hk (by decide) ?_
  refine rn_istore_n (ls' := [some (.ref r), some (.int v), some (.int (nI 0)), some (.int (nI n))]) dJ7_fill_53178_4 rfl (by decide) rfl rfl ?_
  refine rn_I (am_fl_0 I r v) ?_
  exact L 0 (Nat.zero_le _)
set_option maxHeartbeats 4000000 in
set_option maxRecDepth 100000 in
theorem c_X0_isInner {S : am_S} {I : am_I} {a q w h : Nat} (hd : am_dr S a q) (hw : I a 0 = nI w) (hh : I a 1 = nI h) (w8 : w ≤ 8) (h8 : h ≤ 8) (i j : Int32) : am_Mt 0 Y_X0_isInner (0, 0) [.ref a, .int i, .int j] S I (am_q (some (.int (am_b (pInner w h i j)))) S I) := by
  have e0 := z_nI (n := 0) (by decide)
  have e2w := z_nI (n := 2 * w) (by omega)
  have e2h := z_nI (n := 2 * h) (by omega)
  refine am_mt ⟨by decide +kernel, rfl⟩ (Nat.le_of_ble_eq_true rfl) rfl ?_
  refine rn_iload_n dX0_isInner_0 rfl rfl ?_
  refine rn_if_le (tgt := 41) dX0_isInner_1 (by decide) (fun c_1 => ?_) (fun c_1 => ?_)
  · refine rn_iconst (v := nI 0) dX0_isInner_41 (by decide) ?_
    refine rn_ireturn dX0_isInner_42 rfl (by decide) ?_
    exact ⟨by rw [show pInner w h i j = false from decide_eq_false (by first | (have hp := z_par0 ‹¬ (i + j) &&& nI 1 = nI 1›; omega) | (simp only [z_le, z_lt, z_0, e2w, e2h] at *; omega))]; rfl, rfl, rfl⟩
  · refine rn_iload_n dX0_isInner_4 rfl rfl ?_
    refine rn_iconst (v := nI 2) dX0_isInner_5 (by decide) ?_
    refine rn_aload_n dX0_isInner_6 rfl rfl ?_
    refine rn_getI dX0_isInner_7 fd_0_9 hd.1 hd.2.1 rfl ?_
    refine rn_top (y := nI w) (hw) ?_
    refine rn_imul dX0_isInner_10 ?_
    refine rn_top (pk_mul _ _) ?_
    refine rn_icmp_ge (tgt := 41) dX0_isInner_11 (by decide) (fun c_11 => ?_) (fun c_11 => ?_)
    · refine rn_iconst (v := nI 0) dX0_isInner_41 (by decide) ?_
      refine rn_ireturn dX0_isInner_42 rfl (by decide) ?_
      exact ⟨by rw [show pInner w h i j = false from decide_eq_false (by first | (have hp := z_par0 ‹¬ (i + j) &&& nI 1 = nI 1›; omega) | (simp only [z_le, z_lt, z_0, e2w, e2h] at *; omega))]; rfl, rfl, rfl⟩
    · refine rn_iload_n dX0_isInner_14 rfl rfl ?_
      refine rn_if_le (tgt := 41) dX0_isInner_15 (by decide) (fun c_15 => ?_) (fun c_15 => ?_)
      · refine rn_iconst (v := nI 0) dX0_isInner_41 (by decide) ?_
        refine rn_ireturn dX0_isInner_42 rfl (by decide) ?_
        exact ⟨by rw [show pInner w h i j = false from decide_eq_false (by first | (have hp := z_par0 ‹¬ (i + j) &&& nI 1 = nI 1›; omega) | (simp only [z_le, z_lt, z_0, e2w, e2h] at *; omega))]; rfl, rfl, rfl⟩
      · refine rn_iload_n dX0_isInner_18 rfl rfl ?_
        refine rn_iconst (v := nI 2) dX0_isInner_19 (by decide) ?_
        refine rn_aload_n dX0_isInner_20 rfl rfl ?_
        refine rn_getI dX0_isInner_21 fd_0_15 hd.1 hd.2.1 rfl ?_
        refine rn_top (y := nI h) (hh) ?_
        refine rn_imul dX0_isInner_24 ?_
        refine rn_top (pk_mul _ _) ?_
        refine rn_icmp_ge (tgt := 41) dX0_isInner_25 (by decide) (fun c_25 => ?_) (fun c_25 => ?_)
        · refine rn_iconst (v := nI 0) dX0_isInner_41 (by decide) ?_
          refine rn_ireturn dX0_isInner_42 rfl (by decide) ?_
          exact ⟨by rw [show pInner w h i j = false from decide_eq_false (by first | (have hp := z_par0 ‹¬ (i + j) &&& nI 1 = nI 1›; omega) | (simp only [z_le, z_lt, z_0, e2w, e2h] at *; omega))]; rfl, rfl, rfl⟩
        · refine rn_iload_n dX0_isInner_28 rfl rfl ?_
          refine rn_iload_n dX0_isInner_29 rfl rfl ?_
          refine rn_iadd dX0_isInner_30 ?_
          refine rn_iconst (v := nI 1) dX0_isInner_31 (by decide) ?_
          refine rn_iand dX0_isInner_32 ?_
          refine rn_iconst (v := nI 1) dX0_isInner_33 (by decide) ?_
          refine rn_icmp_ne (tgt := 41) dX0_isInner_34 (by decide) (fun c_34 => ?_) (fun c_34 => ?_)
          · refine rn_iconst (v := nI 0) dX0_isInner_41 (by decide) ?_
            refine rn_ireturn dX0_isInner_42 rfl (by decide) ?_
            exact ⟨by rw [show pInner w h i j = false from decide_eq_false (by first | (have hp := z_par0 ‹¬ (i + j) &&& nI 1 = nI 1›; omega) | (simp only [z_le, z_lt, z_0, e2w, e2h] at *; omega))]; rfl, rfl, rfl⟩
          · refine rn_iconst (v := nI 1) dX0_isInner_37 (by decide) ?_
            refine rn_goto (tgt := 42) dX0_isInner_38 (by decide) ?_
            refine rn_ireturn dX0_isInner_42 rfl (by decide) ?_
            have hp := z_par1 ‹(i + j) &&& nI 1 = nI 1›
            exact ⟨by rw [show pInner w h i j = true from decide_eq_true (by simp only [z_le, z_lt, z_0, e2w, e2h] at *; omega)]; rfl, rfl, rfl⟩
set_option maxHeartbeats 4000000 in
set_option maxRecDepth 100000 in
theorem c_X0_isPoint {S : am_S} {I : am_I} {a q w h : Nat} (hd : am_dr S a q) (hw : I a 0 = nI w) (hh : I a 1 = nI h) (w8 : w ≤ 8) (h8 : h ≤ 8) (i j : Int32) : am_Mt 0 Y_X0_isPoint (0, 0) [.ref a, .int i, .int j] S I (am_q (some (.int (am_b (pPoint w h i j)))) S I) := by
  have e0 := z_nI (n := 0) (by decide)
  have e2w := z_nI (n := 2 * w) (by omega)
  have e2h := z_nI (n := 2 * h) (by omega)
  refine am_mt ⟨by decide +kernel, rfl⟩ (Nat.le_of_ble_eq_true rfl) rfl ?_
  refine rn_iload_n dX0_isPoint_0 rfl rfl ?_
  refine rn_if_lt (tgt := 41) dX0_isPoint_1 (by decide) (fun c_1 => ?_) (fun c_1 => ?_)
  · refine rn_iconst (v := nI 0) dX0_isPoint_41 (by decide) ?_
    refine rn_ireturn dX0_isPoint_42 rfl (by decide) ?_
    exact ⟨by rw [show pPoint w h i j = false from decide_eq_false (by first | (have hp := z_par0 ‹¬ (i + j) &&& nI 1 = nI 1›; omega) | (simp only [z_le, z_lt, z_0, e2w, e2h] at *; omega))]; rfl, rfl, rfl⟩
  · refine rn_iload_n dX0_isPoint_4 rfl rfl ?_
    refine rn_iconst (v := nI 2) dX0_isPoint_5 (by decide) ?_
    refine rn_aload_n dX0_isPoint_6 rfl rfl ?_
    refine rn_getI dX0_isPoint_7 fd_0_9 hd.1 hd.2.1 rfl ?_
    refine rn_top (y := nI w) (hw) ?_
    refine rn_imul dX0_isPoint_10 ?_
    refine rn_top (pk_mul _ _) ?_
    refine rn_icmp_gt (tgt := 41) dX0_isPoint_11 (by decide) (fun c_11 => ?_) (fun c_11 => ?_)
    · refine rn_iconst (v := nI 0) dX0_isPoint_41 (by decide) ?_
      refine rn_ireturn dX0_isPoint_42 rfl (by decide) ?_
      exact ⟨by rw [show pPoint w h i j = false from decide_eq_false (by first | (have hp := z_par0 ‹¬ (i + j) &&& nI 1 = nI 1›; omega) | (simp only [z_le, z_lt, z_0, e2w, e2h] at *; omega))]; rfl, rfl, rfl⟩
    · refine rn_iload_n dX0_isPoint_14 rfl rfl ?_
      refine rn_if_lt (tgt := 41) dX0_isPoint_15 (by decide) (fun c_15 => ?_) (fun c_15 => ?_)
      · refine rn_iconst (v := nI 0) dX0_isPoint_41 (by decide) ?_
        refine rn_ireturn dX0_isPoint_42 rfl (by decide) ?_
        exact ⟨by rw [show pPoint w h i j = false from decide_eq_false (by first | (have hp := z_par0 ‹¬ (i + j) &&& nI 1 = nI 1›; omega) | (simp only [z_le, z_lt, z_0, e2w, e2h] at *; omega))]; rfl, rfl, rfl⟩
      · refine rn_iload_n dX0_isPoint_18 rfl rfl ?_
        refine rn_iconst (v := nI 2) dX0_isPoint_19 (by decide) ?_
        refine rn_aload_n dX0_isPoint_20 rfl rfl ?_
        refine rn_getI dX0_isPoint_21 fd_0_15 hd.1 hd.2.1 rfl ?_
        refine rn_top (y := nI h) (hh) ?_
        refine rn_imul dX0_isPoint_24 ?_
        refine rn_top (pk_mul _ _) ?_
        refine rn_icmp_gt (tgt := 41) dX0_isPoint_25 (by decide) (fun c_25 => ?_) (fun c_25 => ?_)
        · refine rn_iconst (v := nI 0) dX0_isPoint_41 (by decide) ?_
          refine rn_ireturn dX0_isPoint_42 rfl (by decide) ?_
          exact ⟨by rw [show pPoint w h i j = false from decide_eq_false (by first | (have hp := z_par0 ‹¬ (i + j) &&& nI 1 = nI 1›; omega) | (simp only [z_le, z_lt, z_0, e2w, e2h] at *; omega))]; rfl, rfl, rfl⟩
        · refine rn_iload_n dX0_isPoint_28 rfl rfl ?_
          refine rn_iload_n dX0_isPoint_29 rfl rfl ?_
          refine rn_iadd dX0_isPoint_30 ?_
          refine rn_iconst (v := nI 1) dX0_isPoint_31 (by decide) ?_
          refine rn_iand dX0_isPoint_32 ?_
          refine rn_iconst (v := nI 1) dX0_isPoint_33 (by decide) ?_
          refine rn_icmp_ne (tgt := 41) dX0_isPoint_34 (by decide) (fun c_34 => ?_) (fun c_34 => ?_)
          · refine rn_iconst (v := nI 0) dX0_isPoint_41 (by decide) ?_
            refine rn_ireturn dX0_isPoint_42 rfl (by decide) ?_
            exact ⟨by rw [show pPoint w h i j = false from decide_eq_false (by first | (have hp := z_par0 ‹¬ (i + j) &&& nI 1 = nI 1›; omega) | (simp only [z_le, z_lt, z_0, e2w, e2h] at *; omega))]; rfl, rfl, rfl⟩
          · refine rn_iconst (v := nI 1) dX0_isPoint_37 (by decide) ?_
            refine rn_goto (tgt := 42) dX0_isPoint_38 (by decide) ?_
            refine rn_ireturn dX0_isPoint_42 rfl (by decide) ?_
            have hp := z_par1 ‹(i + j) &&& nI 1 = nI 1›
            exact ⟨by rw [show pPoint w h i j = true from decide_eq_true (by simp only [z_le, z_lt, z_0, e2w, e2h] at *; omega)]; rfl, rfl, rfl⟩
set_option maxHeartbeats 4000000 in
set_option maxRecDepth 100000 in
theorem c_X0_squareCount {S : am_S} {I : am_I} {a q w h : Nat} (hd : am_dr S a q) (hw : I a 0 = nI w) (hh : I a 1 = nI h) (w8 : w ≤ 8) (h8 : h ≤ 8) : am_Mt 0 Y_X0_squareCount (0, 0) [.ref a] S I (am_q (some (.int (nI (4 * w * h)))) S I) := by
  refine am_mt ⟨by decide +kernel, rfl⟩ (Nat.le_of_ble_eq_true rfl) rfl ?_
  refine rn_iconst (v := nI 4) dX0_squareCount_0 (by decide) ?_
  refine rn_aload_n dX0_squareCount_1 rfl rfl ?_
  refine rn_getI dX0_squareCount_2 fd_0_9 hd.1 hd.2.1 rfl ?_
  refine rn_top (y := nI w) (hw) ?_
  refine rn_imul dX0_squareCount_5 ?_
  refine rn_top (pk_mul _ _) ?_
  refine rn_aload_n dX0_squareCount_6 rfl rfl ?_
  refine rn_getI dX0_squareCount_7 fd_0_15 hd.1 hd.2.1 rfl ?_
  refine rn_top (y := nI h) (hh) ?_
  refine rn_imul dX0_squareCount_10 ?_
  refine rn_top (pk_mul _ _) ?_
  refine rn_ireturn dX0_squareCount_11 rfl (vp_nar_int _) ?_
  exact ⟨rfl, rfl, rfl⟩
set_option maxHeartbeats 4000000 in
set_option maxRecDepth 100000 in
theorem c_X0_isSquare {S : am_S} {I : am_I} {a q w h : Nat} (hd : am_dr S a q) (hw : I a 0 = nI w) (hh : I a 1 = nI h) (w8 : w ≤ 8) (h8 : h ≤ 8) (x : Int32) : am_Mt 1 Y_X0_isSquare (0, 0) [.ref a, .int x] S I (am_q (some (.int (am_b (decide (0 ≤ x.toInt ∧ x.toInt < ((4 * w * h : Nat) : Int)))))) S I) := by
  have e0 := z_nI (n := 0) (by decide)
  have hb : 4 * w * h ≤ 256 := Nat.le_trans (Nat.mul_le_mul (Nat.mul_le_mul_left 4 w8) h8) (by decide)
  have e4 := z_nI (n := 4 * w * h) (by omega)
  refine am_mt ⟨by decide +kernel, rfl⟩ (Nat.le_of_ble_eq_true rfl) rfl ?_
  refine rn_iload_n dX0_isSquare_0 rfl rfl ?_
  refine rn_if_lt (tgt := 16) dX0_isSquare_1 (by decide) (fun c_1 => ?_) (fun c_1 => ?_)
  · refine rn_iconst (v := nI 0) dX0_isSquare_16 (by decide) ?_
    refine rn_ireturn dX0_isSquare_17 rfl (by decide) ?_
    exact ⟨by rw [am_b_f (decide_eq_false (by simp only [z_le, z_lt, z_0, e0, e4] at *; omega))]; rfl, rfl, rfl⟩
  · refine rn_iload_n dX0_isSquare_4 rfl rfl ?_
    refine rn_aload_n dX0_isSquare_5 rfl rfl ?_
    refine rn_callVq dX0_isSquare_6 cf_0_32 (c_X0_squareCount hd hw hh w8 h8) (by decide) hd.1 hd.2.1 rfl rfl (Nat.le_of_ble_eq_true rfl) ?_
    refine rn_icmp_ge (tgt := 16) dX0_isSquare_9 (by decide) (fun c_9 => ?_) (fun c_9 => ?_)
    · refine rn_iconst (v := nI 0) dX0_isSquare_16 (by decide) ?_
      refine rn_ireturn dX0_isSquare_17 rfl (by decide) ?_
      exact ⟨by rw [am_b_f (decide_eq_false (by simp only [z_le, z_lt, z_0, e0, e4] at *; omega))]; rfl, rfl, rfl⟩
    · refine rn_iconst (v := nI 1) dX0_isSquare_12 (by decide) ?_
      refine rn_goto (tgt := 17) dX0_isSquare_13 (by decide) ?_
      refine rn_ireturn dX0_isSquare_17 rfl (by decide) ?_
      exact ⟨by rw [am_b_t (decide_eq_true (by simp only [z_le, z_lt, z_0, e0, e4] at *; omega))]; rfl, rfl, rfl⟩
end
section
set_option maxHeartbeats 4000000 in
set_option maxRecDepth 100000 in
theorem c_X0_mirrorAt {S : am_S} {I : am_I} {a q w h : Nat} (hd : am_dr S a q) (hw : I a 0 = nI w) (hh : I a 1 = nI h) (w8 : w ≤ 8) (h8 : h ≤ 8) {i j : Nat} (hin : nInner w h i j = true) : am_Mt 1 Y_X0_mirrorAt (0, 0) [.ref a, .int (nI i), .int (nI j)] S I (am_q (some (.int (I q (8 * j + i / 2)))) S I) := by
  have hb := of_decide_eq_true hin
  refine am_mt ⟨by decide +kernel, rfl⟩ (Nat.le_of_ble_eq_true rfl) rfl ?_
  refine rn_aload_n dX0_mirrorAt_0 rfl rfl ?_
  refine rn_iload_n dX0_mirrorAt_1 rfl rfl ?_
  refine rn_iload_n dX0_mirrorAt_2 rfl rfl ?_
  refine rn_callVq dX0_mirrorAt_3 cf_0_36 (c_X0_isInner hd hw hh w8 h8 _ _) (by decide) hd.1 hd.2.1 rfl rfl (Nat.le_of_ble_eq_true rfl) ?_
  refine rn_if_eqB (tgt := 22) dX0_mirrorAt_6 (by decide) (fun c_6 => ?_) (fun c_6 => ?_)
  · exact absurd c_6 (by rw [pInner_nI (by omega) (by omega), hin]; decide)
  · refine rn_aload_n dX0_mirrorAt_9 rfl rfl ?_
    refine rn_getR (r := q) dX0_mirrorAt_10 fd_0_18 hd.1 hd.2.1 rfl hd.2.2.1 ?_
    refine rn_iload_n dX0_mirrorAt_13 rfl rfl ?_
    refine rn_iload_n dX0_mirrorAt_14 rfl rfl ?_
    refine rn_callSNq dX0_mirrorAt_15 cf_0_40 (c_X7_placeOf S I (by omega)) (by decide) rfl rfl (Nat.le_of_ble_eq_true rfl) ?_
    refine rn_ialoadN dX0_mirrorAt_18 hd.2.2.2.1 hd.2.2.2.2 (by omega) (by omega) ?_
    refine rn_goto (tgt := 23) dX0_mirrorAt_19 (by decide) ?_
    refine rn_ireturn dX0_mirrorAt_23 rfl (vp_nar_int _) ?_
    exact ⟨rfl, rfl, rfl⟩
set_option maxHeartbeats 4000000 in
set_option maxRecDepth 100000 in
theorem c_X0_mirrorAt_out {S : am_S} {I : am_I} {a q w h : Nat} (hd : am_dr S a q) (hw : I a 0 = nI w) (hh : I a 1 = nI h) (w8 : w ≤ 8) (h8 : h ≤ 8) {i j : Int32} (hin : pInner w h i j = false) : am_Mt 1 Y_X0_mirrorAt (0, 0) [.ref a, .int i, .int j] S I (am_q (some (.int (nI 0))) S I) := by
  refine am_mt ⟨by decide +kernel, rfl⟩ (Nat.le_of_ble_eq_true rfl) rfl ?_
  refine rn_aload_n dX0_mirrorAt_0 rfl rfl ?_
  refine rn_iload_n dX0_mirrorAt_1 rfl rfl ?_
  refine rn_iload_n dX0_mirrorAt_2 rfl rfl ?_
  refine rn_callVq dX0_mirrorAt_3 cf_0_36 (c_X0_isInner hd hw hh w8 h8 _ _) (by decide) hd.1 hd.2.1 rfl rfl (Nat.le_of_ble_eq_true rfl) ?_
  refine rn_if_eqB (tgt := 22) dX0_mirrorAt_6 (by decide) (fun c_6 => ?_) (fun c_6 => ?_)
  · refine rn_iconst (v := nI 0) dX0_mirrorAt_22 (by decide) ?_
    refine rn_ireturn dX0_mirrorAt_23 rfl (vp_nar_int _) ?_
    exact ⟨rfl, rfl, rfl⟩
  · exact absurd c_6 (by rw [hin]; decide)
set_option maxHeartbeats 4000000 in
set_option maxRecDepth 100000 in
theorem c_X0_put {S : am_S} {I : am_I} {a q w h : Nat} (hd : am_dr S a q) (hw : I a 0 = nI w) (hh : I a 1 = nI h) (w8 : w ≤ 8) (h8 : h ≤ 8) {i j : Nat} (hin : nInner w h i j = true) (v : Int32) : am_Mt 1 Y_X0_put (0, 0) [.ref a, .int (nI i), .int (nI j), .int v] S I (am_q none S (am_up I q (8 * j + i / 2) v)) := by
  have hb := of_decide_eq_true hin
  refine am_mt ⟨by decide +kernel, rfl⟩ (Nat.le_of_ble_eq_true rfl) rfl ?_
  refine rn_aload_n dX0_put_0 rfl rfl ?_
  refine rn_iload_n dX0_put_1 rfl rfl ?_
  refine rn_iload_n dX0_put_2 rfl rfl ?_
  refine rn_callVq dX0_put_3 cf_0_36 (c_X0_isInner hd hw hh w8 h8 _ _) (by decide) hd.1 hd.2.1 rfl rfl (Nat.le_of_ble_eq_true rfl) ?_
  refine rn_if_eqB (tgt := 20) dX0_put_6 (by decide) (fun c_6 => ?_) (fun c_6 => ?_)
  · exact absurd c_6 (by rw [pInner_nI (by omega) (by omega), hin]; decide)
  · refine rn_aload_n dX0_put_9 rfl rfl ?_
    refine rn_getR (r := q) dX0_put_10 fd_0_18 hd.1 hd.2.1 rfl hd.2.2.1 ?_
    refine rn_iload_n dX0_put_13 rfl rfl ?_
    refine rn_iload_n dX0_put_14 rfl rfl ?_
    refine rn_callSNq dX0_put_15 cf_0_40 (c_X7_placeOf S I (by omega)) (by decide) rfl rfl (Nat.le_of_ble_eq_true rfl) ?_
    refine rn_iload_n dX0_put_18 rfl rfl ?_
    refine rn_iastoreN dX0_put_19 hd.2.2.2.1 hd.2.2.2.2 (by omega) (by omega) ?_
    refine rn_return dX0_put_20 rfl ?_
    exact ⟨rfl, rfl, rfl⟩
set_option maxHeartbeats 4000000 in
set_option maxRecDepth 100000 in
theorem c_X0_clear {S : am_S} {I : am_I} {a q w h : Nat} (hd : am_dr S a q) (w1 : 1 ≤ w) (w8 : w ≤ 8) (h1 : 1 ≤ h) (h8 : h ≤ 8) : am_Mt 1 Y_X0_clear (0, 0) [.ref a, .int (nI w), .int (nI h)] S I (am_q none S (dr_clr I a q w h)) := by
  have ew := z_nI (n := w) (by omega)
  have eh := z_nI (n := h) (by omega)
  refine am_mt ⟨by decide +kernel, rfl⟩ (Nat.le_of_ble_eq_true rfl) rfl ?_
  refine rn_iload_n dX0_clear_0 rfl rfl ?_
  refine rn_callSNq dX0_clear_1 cf_0_22 (c_X7_isDots S I _) (by decide) rfl rfl (Nat.le_of_ble_eq_true rfl) ?_
  refine rn_if_eqB (tgt := 24) dX0_clear_4 (by decide) (fun c_4 => ?_) (fun c_4 => ?_)
  · exact absurd c_4 (by rw [ew]; simp; omega)
  · refine rn_iload_n dX0_clear_7 rfl rfl ?_
    refine rn_callSNq dX0_clear_8 cf_0_22 (c_X7_isDots S I _) (by decide) rfl rfl (Nat.le_of_ble_eq_true rfl) ?_
    refine rn_if_eqB (tgt := 24) dX0_clear_11 (by decide) (fun c_11 => ?_) (fun c_11 => ?_)
    · exact absurd c_11 (by rw [eh]; simp; omega)
    · refine rn_aload_n dX0_clear_14 rfl rfl ?_
      refine rn_iload_n dX0_clear_15 rfl rfl ?_
      refine rn_putI dX0_clear_16 fd_0_9 hd.1 hd.2.1 rfl rfl (vp_nar_int _) rfl ?_
      refine rn_aload_n dX0_clear_19 rfl rfl ?_
      refine rn_iload_n dX0_clear_20 rfl rfl ?_
      refine rn_putI dX0_clear_21 fd_0_15 hd.1 hd.2.1 rfl rfl (vp_nar_int _) rfl ?_
      refine rn_aload_n dX0_clear_24 rfl rfl ?_
      refine rn_getR (r := q) dX0_clear_25 fd_0_18 hd.1 hd.2.1 rfl hd.2.2.1 ?_
      refine rn_iconst (v := nI 0) dX0_clear_28 (by decide) ?_
      refine rn_callSq dX0_clear_29 cf_0_26 (c_J7_fill S (am_up (am_up I a 0 (nI w)) a 1 (nI h)) (nI 0) hd.2.2.2.1 hd.2.2.2.2 (by omega)) (by decide) rfl rfl (Nat.le_of_ble_eq_true rfl) ?_
      refine rn_return dX0_clear_32 rfl ?_
      exact ⟨rfl, rfl, rfl⟩
set_option maxHeartbeats 4000000 in
set_option maxRecDepth 100000 in
theorem c_X0_copy {S : am_S} {I : am_I} {a q a0 q0 w h : Nat} (hd : am_dr S a q) (hd0 : am_dr S a0 q0) (hne : a0 ≠ a) (hw : I a0 0 = nI w) (hh : I a0 1 = nI h) : am_Mt 1 Y_X0_copy (0, 0) [.ref a, .ref a0] S I (am_q none S (dr_cpy I a q a0 q0 w h)) := by
  refine am_mt ⟨by decide +kernel, rfl⟩ (Nat.le_of_ble_eq_true rfl) rfl ?_
  refine rn_aload_n dX0_copy_0 rfl rfl ?_
  refine rn_aload_n dX0_copy_1 rfl rfl ?_
  refine rn_getI dX0_copy_2 fd_0_9 hd0.1 hd0.2.1 rfl ?_
  refine rn_top (y := nI w) (hw) ?_
  refine rn_putI dX0_copy_5 fd_0_9 hd.1 hd.2.1 rfl rfl (vp_nar_int _) rfl ?_
  refine rn_aload_n dX0_copy_8 rfl rfl ?_
  refine rn_aload_n dX0_copy_9 rfl rfl ?_
  refine rn_getI dX0_copy_10 fd_0_15 hd0.1 hd0.2.1 rfl ?_
  refine rn_top (y := nI h) ((by rw [am_up_a _ _ hne]; exact hh)) ?_
  refine rn_putI dX0_copy_13 fd_0_15 hd.1 hd.2.1 rfl rfl (vp_nar_int _) rfl ?_
  refine rn_aload_n dX0_copy_16 rfl rfl ?_
  refine rn_getR (r := q0) dX0_copy_17 fd_0_18 hd0.1 hd0.2.1 rfl hd0.2.2.1 ?_
  refine rn_iconst (v := nI 0) dX0_copy_20 (by decide) ?_
  refine rn_aload_n dX0_copy_21 rfl rfl ?_
  refine rn_getR (r := q) dX0_copy_22 fd_0_18 hd.1 hd.2.1 rfl hd.2.2.1 ?_
  refine rn_iconst (v := nI 0) dX0_copy_25 (by decide) ?_
  refine rn_sipush (v := nI 128) dX0_copy_26 (by decide) ?_
  refine rn_copyN dX0_copy_29 ay_0_44 hd0.2.2.2.1 hd.2.2.2.1 hd0.2.2.2.2 hd.2.2.2.2 (by omega) (by omega) (by omega) (by omega) (by omega) (by decide) (Nat.le_of_ble_eq_true rfl) ?_
  refine rn_return dX0_copy_32 rfl ?_
  exact ⟨rfl, rfl, rfl⟩
set_option maxHeartbeats 4000000 in
set_option maxRecDepth 100000 in
theorem c_X0_isSameAs {S : am_S} {I : am_I} {a q w h : Nat} (hd : am_dr S a q) (hw : I a 0 = nI w) (hh : I a 1 = nI h) (w8 : w ≤ 8) (h8 : h ≤ 8) {a0 q0 w0 h0 : Nat} (hd0 : am_dr S a0 q0) (hw0 : I a0 0 = nI w0) (hh0 : I a0 1 = nI h0) (w08 : w0 ≤ 8) (h08 : h0 ≤ 8) : am_Mt 0 Y_X0_isSameAs (0, 0) [.ref a, .ref a0] S I (am_q (some (.int (am_b (pb (w = w0 ∧ h = h0 ∧ ∀ p, p < 128 → I q p = I q0 p))))) S I) := by
  have L : w = w0 → h = h0 → ∀ k, k ≤ 128 → (∀ p, p < k → I q p = I q0 p) → am_Rn 0 Y_X0_isSameAs (0, 0) 26 [some (.ref a), some (.ref a0), some (.int (nI k))] [] S I (am_q (some (.int (am_b (pb (w = w0 ∧ h = h0 ∧ ∀ p, p < 128 → I q p = I q0 p))))) S I) := by
    intro ew eh
    refine am_loop 128 (fun k hk8 ih hk => ?_)
    refine rn_iload_n dX0_isSameAs_26 rfl rfl ?_
    refine rn_sipush (v := nI 128) dX0_isSameAs_27 (by decide) ?_
    refine rn_icmp_geN (tgt := 56) dX0_isSameAs_30 (by decide) (by omega) (by omega) (fun c_30 => ?_) (fun c_30 => ?_)
    · refine rn_iconst (v := nI 1) dX0_isSameAs_56 (by decide) ?_
      refine rn_ireturn dX0_isSameAs_57 rfl (by decide) ?_
      exact ⟨by rw [am_b_t (pb_t ⟨ew, eh, fun p hp => hk p (by omega)⟩)]; rfl, rfl, rfl⟩
    · refine rn_aload_n dX0_isSameAs_33 rfl rfl ?_
      refine rn_getR (r := q) dX0_isSameAs_34 fd_0_18 hd.1 hd.2.1 rfl hd.2.2.1 ?_
      refine rn_iload_n dX0_isSameAs_37 rfl rfl ?_
      refine rn_ialoadN dX0_isSameAs_38 hd.2.2.2.1 hd.2.2.2.2 (by omega) (by omega) ?_
      refine rn_aload_n dX0_isSameAs_39 rfl rfl ?_
      refine rn_getR (r := q0) dX0_isSameAs_40 fd_0_18 hd0.1 hd0.2.1 rfl hd0.2.2.1 ?_
      refine rn_iload_n dX0_isSameAs_43 rfl rfl ?_
      refine rn_ialoadN dX0_isSameAs_44 hd0.2.2.2.1 hd0.2.2.2.2 (by omega) (by omega) ?_
      refine rn_icmp_eq (tgt := 50) dX0_isSameAs_45 (by decide) (fun c_45 => ?_) (fun c_45 => ?_)
      · refine rn_iinc (v := nI (k + 1)) (ls' := [some (.ref a), some (.ref a0), some (.int (nI (k + 1)))]) dX0_isSameAs_50 rfl (nI_add _ 1) (by decide) rfl rfl ?_
        refine rn_goto (tgt := 26) dX0_isSameAs_53 (by decide) ?_
        exact ih (by omega) (lt_s hk ‹I q k = I q0 k›)
      · refine rn_iconst (v := nI 0) dX0_isSameAs_48 (by decide) ?_
        refine rn_ireturn dX0_isSameAs_49 rfl (by decide) ?_
        exact ⟨by rw [am_b_f (pb_f (fun hh9 => by first | exact (‹w ≠ w0› hh9.1) | exact (‹h ≠ h0› hh9.2.1) | exact (‹¬ I q k = I q0 k› (hh9.2.2 k (by omega)))))]; rfl, rfl, rfl⟩
  refine am_mt ⟨by decide +kernel, rfl⟩ (Nat.le_of_ble_eq_true rfl) rfl ?_
  refine rn_aload_n dX0_isSameAs_0 rfl rfl ?_
  refine rn_getI dX0_isSameAs_1 fd_0_9 hd.1 hd.2.1 rfl ?_
  refine rn_top (y := nI w) (hw) ?_
  refine rn_aload_n dX0_isSameAs_4 rfl rfl ?_
  refine rn_getI dX0_isSameAs_5 fd_0_9 hd0.1 hd0.2.1 rfl ?_
  refine rn_top (y := nI w0) (hw0) ?_
  refine rn_icmp_neN (tgt := 22) dX0_isSameAs_8 (by decide) (by omega) (by omega) (fun c_8 => ?_) (fun c_8 => ?_)
  · refine rn_iconst (v := nI 0) dX0_isSameAs_22 (by decide) ?_
    refine rn_ireturn dX0_isSameAs_23 rfl (by decide) ?_
    exact ⟨by rw [am_b_f (pb_f (fun hh9 => by first | exact (‹w ≠ w0› hh9.1) | exact (‹h ≠ h0› hh9.2.1) | exact (‹¬ I q k = I q0 k› (hh9.2.2 k (by omega)))))]; rfl, rfl, rfl⟩
  · refine rn_aload_n dX0_isSameAs_11 rfl rfl ?_
    refine rn_getI dX0_isSameAs_12 fd_0_15 hd.1 hd.2.1 rfl ?_
    refine rn_top (y := nI h) (hh) ?_
    refine rn_aload_n dX0_isSameAs_15 rfl rfl ?_
    refine rn_getI dX0_isSameAs_16 fd_0_15 hd0.1 hd0.2.1 rfl ?_
    refine rn_top (y := nI h0) (hh0) ?_
    refine rn_icmp_eqN (tgt := 24) dX0_isSameAs_19 (by decide) (by omega) (by omega) (fun c_19 => ?_) (fun c_19 => ?_)
    · refine rn_iconst (v := nI 0) dX0_isSameAs_24 (by decide) ?_
      refine rn_istore_n (ls' := [some (.ref a), some (.ref a0), some (.int (nI 0))]) dX0_isSameAs_25 rfl (by decide) rfl rfl ?_
      exact L ‹w = w0› ‹h = h0› 0 (by omega) (fun p hp => absurd hp (by omega))
    · refine rn_iconst (v := nI 0) dX0_isSameAs_22 (by decide) ?_
      refine rn_ireturn dX0_isSameAs_23 rfl (by decide) ?_
      exact ⟨by rw [am_b_f (pb_f (fun hh9 => by first | exact (‹w ≠ w0› hh9.1) | exact (‹h ≠ h0› hh9.2.1) | exact (‹¬ I q k = I q0 k› (hh9.2.2 k (by omega)))))]; rfl, rfl, rfl⟩
set_option maxHeartbeats 4000000 in
set_option maxRecDepth 100000 in
theorem c_X0_countOf {S : am_S} {I : am_I} {a q : Nat} (hd : am_dr S a q) (v : Int32) : am_Mt 0 Y_X0_countOf (0, 0) [.ref a, .int v] S I (am_q (some (.int (nI (cntV (I q) v 128)))) S I) := by
  have L : ∀ k, k ≤ 128 → am_Rn 0 Y_X0_countOf (0, 0) 14 [some (.ref a), some (.int v), some (.int (nI (cntV (I q) v k))), some (.ref q), some (.int (nI 128)), some (.int (nI k)), none] [] S I (am_q (some (.int (nI (cntV (I q) v 128)))) S I) := by
    refine am_loop 128 (fun k hk8 ih => ?_)
    refine rn_iload dX0_countOf_14 rfl ?_
    refine rn_iload dX0_countOf_16 rfl ?_
    refine rn_icmp_geN (tgt := 47) dX0_countOf_18 (by decide) (by omega) (by omega) (fun c_18 => ?_) (fun c_18 => ?_)
    · refine rn_iload_n dX0_countOf_47 rfl rfl ?_
      refine rn_ireturn dX0_countOf_48 rfl (vp_nar_int _) ?_
      obtain rfl : k = 128 := by omega
      exact ⟨rfl, rfl, rfl⟩
    · refine rn_aload_n dX0_countOf_21 rfl rfl ?_
      refine rn_iload dX0_countOf_22 rfl ?_
      refine rn_ialoadN dX0_countOf_24 hd.2.2.2.1 hd.2.2.2.2 (by omega) (by omega) ?_
      refine rn_istore (ls' := [some (.ref a), some (.int v), some (.int (nI (cntV (I q) v k))), some (.ref q), some (.int (nI 128)), some (.int (nI k)), some (.int (I q k))]) dX0_countOf_25 (by decide) rfl rfl ?_
      refine rn_iload_n dX0_countOf_27 rfl rfl ?_
      refine rn_iload dX0_countOf_28 rfl ?_
      refine rn_iload_n dX0_countOf_30 rfl rfl ?_
      refine rn_icmp_ne (tgt := 38) dX0_countOf_31 (by decide) (fun c_31 => ?_) (fun c_31 => ?_)
      · refine rn_iconst (v := nI 0) dX0_countOf_38 (by decide) ?_
        refine rn_iadd dX0_countOf_39 ?_
        refine rn_top (nI_add _ _) ?_
        refine rn_istore_n (ls' := [some (.ref a), some (.int v), some (.int (nI ((cntV (I q) v k) + 0))), some (.ref q), some (.int (nI 128)), some (.int (nI k)), some (.int (I q k))]) dX0_countOf_40 rfl (by decide) rfl rfl ?_
        refine rn_iinc (v := nI (k + 1)) (ls' := [some (.ref a), some (.int v), some (.int (nI ((cntV (I q) v k) + 0))), some (.ref q), some (.int (nI 128)), some (.int (nI (k + 1))), some (.int (I q k))]) dX0_countOf_41 rfl (nI_add _ 1) (by decide) rfl rfl ?_
        refine rn_goto (tgt := 14) dX0_countOf_44 (by decide) ?_
        refine rn_ls (ls' := [some (.ref a), some (.int v), some (.int (nI ((cntV (I q) v k) + 0))), some (.ref q), some (.int (nI 128)), some (.int (nI (k + 1))), none]) rfl (fun i x h => by rcases i with _ | _ | _ | _ | _ | _ | _ | i <;> first | exact h | (simp at h)) ?_
        rw [show (cntV (I q) v k) + 0 = cntV (I q) v (k + 1) from (by simp [cntV, c_31])]
        exact ih (by omega)
      · refine rn_iconst (v := nI 1) dX0_countOf_34 (by decide) ?_
        refine rn_goto (tgt := 39) dX0_countOf_35 (by decide) ?_
        refine rn_iadd dX0_countOf_39 ?_
        refine rn_top (nI_add _ _) ?_
        refine rn_istore_n (ls' := [some (.ref a), some (.int v), some (.int (nI ((cntV (I q) v k) + 1))), some (.ref q), some (.int (nI 128)), some (.int (nI k)), some (.int (I q k))]) dX0_countOf_40 rfl (by decide) rfl rfl ?_
        refine rn_iinc (v := nI (k + 1)) (ls' := [some (.ref a), some (.int v), some (.int (nI ((cntV (I q) v k) + 1))), some (.ref q), some (.int (nI 128)), some (.int (nI (k + 1))), some (.int (I q k))]) dX0_countOf_41 rfl (nI_add _ 1) (by decide) rfl rfl ?_
        refine rn_goto (tgt := 14) dX0_countOf_44 (by decide) ?_
        refine rn_ls (ls' := [some (.ref a), some (.int v), some (.int (nI ((cntV (I q) v k) + 1))), some (.ref q), some (.int (nI 128)), some (.int (nI (k + 1))), none]) rfl (fun i x h => by rcases i with _ | _ | _ | _ | _ | _ | _ | i <;> first | exact h | (simp at h)) ?_
        rw [show (cntV (I q) v k) + 1 = cntV (I q) v (k + 1) from (by simp [cntV, c_31])]
        exact ih (by omega)
  refine am_mt ⟨by decide +kernel, rfl⟩ (Nat.le_of_ble_eq_true rfl) rfl ?_
  refine rn_iconst (v := nI 0) dX0_countOf_0 (by decide) ?_
  refine rn_istore_n (ls' := [some (.ref a), some (.int v), some (.int (nI 0)), none, none, none, none]) dX0_countOf_1 rfl (by decide) rfl rfl ?_
  refine rn_aload_n dX0_countOf_2 rfl rfl ?_
  refine rn_getR (r := q) dX0_countOf_3 fd_0_18 hd.1 hd.2.1 rfl hd.2.2.1 ?_
  refine rn_astore_n (ls' := [some (.ref a), some (.int v), some (.int (nI 0)), some (.ref q), none, none, none]) dX0_countOf_6 rfl (by decide) rfl rfl ?_
  refine rn_aload_n dX0_countOf_7 rfl rfl ?_
  refine rn_alen dX0_countOf_8 hd.2.2.2.1 hd.2.2.2.2 (by decide) ?_
  refine rn_istore (ls' := [some (.ref a), some (.int v), some (.int (nI 0)), some (.ref q), some (.int (nI 128)), none, none]) dX0_countOf_9 (by decide) rfl rfl ?_
  refine rn_iconst (v := nI 0) dX0_countOf_11 (by decide) ?_
  refine rn_istore (ls' := [some (.ref a), some (.int v), some (.int (nI 0)), some (.ref q), some (.int (nI 128)), some (.int (nI 0)), none]) dX0_countOf_12 (by decide) rfl rfl ?_
  exact L 0 (by omega)
end
