section
-- ===== PART A: goes FIRST, ahead of the names: the tables' words, and 'selects' of the private methods out of them =====
/-- a private method of a class that the tables say can be made, by its rows of tables_1 -/
def lw_okq (q : MethodName × Nat) : Prop := (q.1.cls ≠ "java/lang/invoke/MethodHandle" ∧ q.1.cls ≠ "java/lang/invoke/VarHandle") ∧ Cond.instantiable q.1.cls q.2 ∈ tables_1 ∧ Cond.privateMethod q.1 ∈ tables_1 ∧ Cond.instanceMethod q.1 ∈ tables_1
theorem lw_p0 : lw_okq (⟨"StubHouse$Log", "noteDelete", "(I)V"⟩, 11) := ⟨⟨by decide +kernel, by decide +kernel⟩, List.mem_of_getElem? (i := 195) (by decide +kernel), List.mem_of_getElem? (i := 639) (by decide +kernel), List.mem_of_getElem? (i := 640) (by decide +kernel)⟩
theorem lw_p1 : lw_okq (⟨"StubHouse$Log", "deletePlace", "(I)I"⟩, 11) := ⟨⟨by decide +kernel, by decide +kernel⟩, List.mem_of_getElem? (i := 195) (by decide +kernel), List.mem_of_getElem? (i := 643) (by decide +kernel), List.mem_of_getElem? (i := 644) (by decide +kernel)⟩
theorem lw_p2 : lw_okq (⟨"StubHouse$Log", "forgetDelete", "(I)V"⟩, 11) := ⟨⟨by decide +kernel, by decide +kernel⟩, List.mem_of_getElem? (i := 195) (by decide +kernel), List.mem_of_getElem? (i := 647) (by decide +kernel), List.mem_of_getElem? (i := 648) (by decide +kernel)⟩
theorem lw_p3 : lw_okq (⟨"StubHouse", "mustWriteDelete", "(I)Z"⟩, 11) := ⟨⟨by decide +kernel, by decide +kernel⟩, List.mem_of_getElem? (i := 18) (by decide +kernel), List.mem_of_getElem? (i := 672) (by decide +kernel), List.mem_of_getElem? (i := 673) (by decide +kernel)⟩
theorem lw_p4 : lw_okq (⟨"StubHouse$Tape", "isSegmentAt", "(I)Z"⟩, 10) := ⟨⟨by decide +kernel, by decide +kernel⟩, List.mem_of_getElem? (i := 282) (by decide +kernel), List.mem_of_getElem? (i := 688) (by decide +kernel), List.mem_of_getElem? (i := 689) (by decide +kernel)⟩
theorem lw_p5 : lw_okq (⟨"StubHouse$Tape", "isGivenAt", "(I)Z"⟩, 10) := ⟨⟨by decide +kernel, by decide +kernel⟩, List.mem_of_getElem? (i := 282) (by decide +kernel), List.mem_of_getElem? (i := 700) (by decide +kernel), List.mem_of_getElem? (i := 701) (by decide +kernel)⟩
theorem lw_p6 : lw_okq (⟨"StubHouse$Tape", "note", "(I)V"⟩, 10) := ⟨⟨by decide +kernel, by decide +kernel⟩, List.mem_of_getElem? (i := 282) (by decide +kernel), List.mem_of_getElem? (i := 724) (by decide +kernel), List.mem_of_getElem? (i := 725) (by decide +kernel)⟩
theorem lw_p7 : lw_okq (⟨"StubHouse$Tape", "hasGoodData", "(I)Z"⟩, 10) := ⟨⟨by decide +kernel, by decide +kernel⟩, List.mem_of_getElem? (i := 282) (by decide +kernel), List.mem_of_getElem? (i := 728) (by decide +kernel), List.mem_of_getElem? (i := 729) (by decide +kernel)⟩
theorem lw_p8 : lw_okq (⟨"StubHouse$Changes", "holdFrom", "(LStubHouse$Node;I)V"⟩, 5) := ⟨⟨by decide +kernel, by decide +kernel⟩, List.mem_of_getElem? (i := 242) (by decide +kernel), List.mem_of_getElem? (i := 751) (by decide +kernel), List.mem_of_getElem? (i := 752) (by decide +kernel)⟩
theorem lw_p9 : lw_okq (⟨"StubHouse$Node", "countHome", "(II)V"⟩, 13) := ⟨⟨by decide +kernel, by decide +kernel⟩, List.mem_of_getElem? (i := 33) (by decide +kernel), List.mem_of_getElem? (i := 766) (by decide +kernel), List.mem_of_getElem? (i := 767) (by decide +kernel)⟩
theorem lw_p10 : lw_okq (⟨"StubHouse$Changes", "forgetRecall", "(I)V"⟩, 5) := ⟨⟨by decide +kernel, by decide +kernel⟩, List.mem_of_getElem? (i := 242) (by decide +kernel), List.mem_of_getElem? (i := 770) (by decide +kernel), List.mem_of_getElem? (i := 771) (by decide +kernel)⟩
theorem lw_p11 : lw_okq (⟨"StubHouse$Changes", "recallPlace", "(I)I"⟩, 5) := ⟨⟨by decide +kernel, by decide +kernel⟩, List.mem_of_getElem? (i := 242) (by decide +kernel), List.mem_of_getElem? (i := 774) (by decide +kernel), List.mem_of_getElem? (i := 775) (by decide +kernel)⟩
theorem lw_p12 : lw_okq (⟨"StubHouse", "askedOfStub", "(I)I"⟩, 11) := ⟨⟨by decide +kernel, by decide +kernel⟩, List.mem_of_getElem? (i := 18) (by decide +kernel), List.mem_of_getElem? (i := 814) (by decide +kernel), List.mem_of_getElem? (i := 815) (by decide +kernel)⟩
theorem lw_p13 : lw_okq (⟨"StubHouse$Changes", "rehouse", "(LStubHouse$Node;II)V"⟩, 5) := ⟨⟨by decide +kernel, by decide +kernel⟩, List.mem_of_getElem? (i := 242) (by decide +kernel), List.mem_of_getElem? (i := 834) (by decide +kernel), List.mem_of_getElem? (i := 835) (by decide +kernel)⟩
theorem lw_p14 : lw_okq (⟨"StubHouse$Changes", "renew", "(LStubHouse$Node;)V"⟩, 5) := ⟨⟨by decide +kernel, by decide +kernel⟩, List.mem_of_getElem? (i := 242) (by decide +kernel), List.mem_of_getElem? (i := 863) (by decide +kernel), List.mem_of_getElem? (i := 864) (by decide +kernel)⟩
theorem lw_p15 : lw_okq (⟨"StubHouse", "aboutFile", "(LStubHouse$Node;I)I"⟩, 11) := ⟨⟨by decide +kernel, by decide +kernel⟩, List.mem_of_getElem? (i := 18) (by decide +kernel), List.mem_of_getElem? (i := 891) (by decide +kernel), List.mem_of_getElem? (i := 892) (by decide +kernel)⟩
def lw_privs_1 : List (MethodName × Nat) := [(⟨"StubHouse$Log", "noteDelete", "(I)V"⟩, 11), (⟨"StubHouse$Log", "deletePlace", "(I)I"⟩, 11), (⟨"StubHouse$Log", "forgetDelete", "(I)V"⟩, 11), (⟨"StubHouse", "mustWriteDelete", "(I)Z"⟩, 11), (⟨"StubHouse$Tape", "isSegmentAt", "(I)Z"⟩, 10), (⟨"StubHouse$Tape", "isGivenAt", "(I)Z"⟩, 10), (⟨"StubHouse$Tape", "note", "(I)V"⟩, 10), (⟨"StubHouse$Tape", "hasGoodData", "(I)Z"⟩, 10), (⟨"StubHouse$Changes", "holdFrom", "(LStubHouse$Node;I)V"⟩, 5), (⟨"StubHouse$Node", "countHome", "(II)V"⟩, 13), (⟨"StubHouse$Changes", "forgetRecall", "(I)V"⟩, 5), (⟨"StubHouse$Changes", "recallPlace", "(I)I"⟩, 5), (⟨"StubHouse", "askedOfStub", "(I)I"⟩, 11), (⟨"StubHouse$Changes", "rehouse", "(LStubHouse$Node;II)V"⟩, 5), (⟨"StubHouse$Changes", "renew", "(LStubHouse$Node;)V"⟩, 5), (⟨"StubHouse", "aboutFile", "(LStubHouse$Node;I)I"⟩, 11)]
theorem lw_r1 : ∀ q ∈ lw_privs_1, lw_okq q := List.forall_mem_cons.mpr ⟨lw_p0, List.forall_mem_cons.mpr ⟨lw_p1, List.forall_mem_cons.mpr ⟨lw_p2, List.forall_mem_cons.mpr ⟨lw_p3, List.forall_mem_cons.mpr ⟨lw_p4, List.forall_mem_cons.mpr ⟨lw_p5, List.forall_mem_cons.mpr ⟨lw_p6, List.forall_mem_cons.mpr ⟨lw_p7, List.forall_mem_cons.mpr ⟨lw_p8, List.forall_mem_cons.mpr ⟨lw_p9, List.forall_mem_cons.mpr ⟨lw_p10, List.forall_mem_cons.mpr ⟨lw_p11, List.forall_mem_cons.mpr ⟨lw_p12, List.forall_mem_cons.mpr ⟨lw_p13, List.forall_mem_cons.mpr ⟨lw_p14, List.forall_mem_cons.mpr ⟨lw_p15, fun _ h => absurd h List.not_mem_nil⟩⟩⟩⟩⟩⟩⟩⟩⟩⟩⟩⟩⟩⟩⟩⟩
theorem lw_p16 : lw_okq (⟨"StubHouse", "howItIs", "(LStubHouse$Node;)I"⟩, 11) := ⟨⟨by decide +kernel, by decide +kernel⟩, List.mem_of_getElem? (i := 18) (by decide +kernel), List.mem_of_getElem? (i := 895) (by decide +kernel), List.mem_of_getElem? (i := 896) (by decide +kernel)⟩
theorem lw_p17 : lw_okq (⟨"StubHouse$Log", "undo", "(I)V"⟩, 11) := ⟨⟨by decide +kernel, by decide +kernel⟩, List.mem_of_getElem? (i := 195) (by decide +kernel), List.mem_of_getElem? (i := 937) (by decide +kernel), List.mem_of_getElem? (i := 938) (by decide +kernel)⟩
theorem lw_p18 : lw_okq (⟨"StubHouse$Log", "claimHomes", "()V"⟩, 11) := ⟨⟨by decide +kernel, by decide +kernel⟩, List.mem_of_getElem? (i := 195) (by decide +kernel), List.mem_of_getElem? (i := 941) (by decide +kernel), List.mem_of_getElem? (i := 942) (by decide +kernel)⟩
theorem lw_p19 : lw_okq (⟨"StubHouse", "stopAll", "()V"⟩, 11) := ⟨⟨by decide +kernel, by decide +kernel⟩, List.mem_of_getElem? (i := 18) (by decide +kernel), List.mem_of_getElem? (i := 955) (by decide +kernel), List.mem_of_getElem? (i := 956) (by decide +kernel)⟩
theorem lw_p20 : lw_okq (⟨"StubHouse$Library", "offer", "(II)V"⟩, 9) := ⟨⟨by decide +kernel, by decide +kernel⟩, List.mem_of_getElem? (i := 275) (by decide +kernel), List.mem_of_getElem? (i := 1011) (by decide +kernel), List.mem_of_getElem? (i := 1012) (by decide +kernel)⟩
theorem lw_p21 : lw_okq (⟨"StubHouse$Library", "viewPlace", "(I)I"⟩, 9) := ⟨⟨by decide +kernel, by decide +kernel⟩, List.mem_of_getElem? (i := 275) (by decide +kernel), List.mem_of_getElem? (i := 1015) (by decide +kernel), List.mem_of_getElem? (i := 1016) (by decide +kernel)⟩
theorem lw_p22 : lw_okq (⟨"StubHouse$Library", "viewStamp", "(I)I"⟩, 9) := ⟨⟨by decide +kernel, by decide +kernel⟩, List.mem_of_getElem? (i := 275) (by decide +kernel), List.mem_of_getElem? (i := 1019) (by decide +kernel), List.mem_of_getElem? (i := 1020) (by decide +kernel)⟩
theorem lw_p23 : lw_okq (⟨"StubHouse$Library", "dropDeletes", "()V"⟩, 9) := ⟨⟨by decide +kernel, by decide +kernel⟩, List.mem_of_getElem? (i := 275) (by decide +kernel), List.mem_of_getElem? (i := 1024) (by decide +kernel), List.mem_of_getElem? (i := 1025) (by decide +kernel)⟩
theorem lw_p24 : lw_okq (⟨"StubHouse$Library", "placeInView", "(I)I"⟩, 9) := ⟨⟨by decide +kernel, by decide +kernel⟩, List.mem_of_getElem? (i := 275) (by decide +kernel), List.mem_of_getElem? (i := 1028) (by decide +kernel), List.mem_of_getElem? (i := 1029) (by decide +kernel)⟩
theorem lw_p25 : lw_okq (⟨"StubHouse$Library", "keepInView", "(II)V"⟩, 9) := ⟨⟨by decide +kernel, by decide +kernel⟩, List.mem_of_getElem? (i := 275) (by decide +kernel), List.mem_of_getElem? (i := 1033) (by decide +kernel), List.mem_of_getElem? (i := 1034) (by decide +kernel)⟩
theorem lw_p26 : lw_okq (⟨"StubHouse$Library", "dropClashes", "()V"⟩, 9) := ⟨⟨by decide +kernel, by decide +kernel⟩, List.mem_of_getElem? (i := 275) (by decide +kernel), List.mem_of_getElem? (i := 1037) (by decide +kernel), List.mem_of_getElem? (i := 1038) (by decide +kernel)⟩
theorem lw_p27 : lw_okq (⟨"StubHouse$Library", "sortByStamps", "()V"⟩, 9) := ⟨⟨by decide +kernel, by decide +kernel⟩, List.mem_of_getElem? (i := 275) (by decide +kernel), List.mem_of_getElem? (i := 1041) (by decide +kernel), List.mem_of_getElem? (i := 1042) (by decide +kernel)⟩
theorem lw_p28 : lw_okq (⟨"StubHouse$Library", "clashesWithTaken", "(II)Z"⟩, 9) := ⟨⟨by decide +kernel, by decide +kernel⟩, List.mem_of_getElem? (i := 275) (by decide +kernel), List.mem_of_getElem? (i := 1045) (by decide +kernel), List.mem_of_getElem? (i := 1046) (by decide +kernel)⟩
theorem lw_p29 : lw_okq (⟨"StubHouse$Library", "doPathsClash", "(II)Z"⟩, 9) := ⟨⟨by decide +kernel, by decide +kernel⟩, List.mem_of_getElem? (i := 275) (by decide +kernel), List.mem_of_getElem? (i := 1049) (by decide +kernel), List.mem_of_getElem? (i := 1050) (by decide +kernel)⟩
theorem lw_p30 : lw_okq (⟨"StubHouse$Library", "sortTaken", "(I)V"⟩, 9) := ⟨⟨by decide +kernel, by decide +kernel⟩, List.mem_of_getElem? (i := 275) (by decide +kernel), List.mem_of_getElem? (i := 1059) (by decide +kernel), List.mem_of_getElem? (i := 1060) (by decide +kernel)⟩
theorem lw_p31 : lw_okq (⟨"StubHouse$Library", "restoreFile", "(I)Z"⟩, 9) := ⟨⟨by decide +kernel, by decide +kernel⟩, List.mem_of_getElem? (i := 275) (by decide +kernel), List.mem_of_getElem? (i := 1067) (by decide +kernel), List.mem_of_getElem? (i := 1068) (by decide +kernel)⟩
def lw_privs_2 : List (MethodName × Nat) := [(⟨"StubHouse", "howItIs", "(LStubHouse$Node;)I"⟩, 11), (⟨"StubHouse$Log", "undo", "(I)V"⟩, 11), (⟨"StubHouse$Log", "claimHomes", "()V"⟩, 11), (⟨"StubHouse", "stopAll", "()V"⟩, 11), (⟨"StubHouse$Library", "offer", "(II)V"⟩, 9), (⟨"StubHouse$Library", "viewPlace", "(I)I"⟩, 9), (⟨"StubHouse$Library", "viewStamp", "(I)I"⟩, 9), (⟨"StubHouse$Library", "dropDeletes", "()V"⟩, 9), (⟨"StubHouse$Library", "placeInView", "(I)I"⟩, 9), (⟨"StubHouse$Library", "keepInView", "(II)V"⟩, 9), (⟨"StubHouse$Library", "dropClashes", "()V"⟩, 9), (⟨"StubHouse$Library", "sortByStamps", "()V"⟩, 9), (⟨"StubHouse$Library", "clashesWithTaken", "(II)Z"⟩, 9), (⟨"StubHouse$Library", "doPathsClash", "(II)Z"⟩, 9), (⟨"StubHouse$Library", "sortTaken", "(I)V"⟩, 9), (⟨"StubHouse$Library", "restoreFile", "(I)Z"⟩, 9)]
theorem lw_r2 : ∀ q ∈ lw_privs_2, lw_okq q := List.forall_mem_cons.mpr ⟨lw_p16, List.forall_mem_cons.mpr ⟨lw_p17, List.forall_mem_cons.mpr ⟨lw_p18, List.forall_mem_cons.mpr ⟨lw_p19, List.forall_mem_cons.mpr ⟨lw_p20, List.forall_mem_cons.mpr ⟨lw_p21, List.forall_mem_cons.mpr ⟨lw_p22, List.forall_mem_cons.mpr ⟨lw_p23, List.forall_mem_cons.mpr ⟨lw_p24, List.forall_mem_cons.mpr ⟨lw_p25, List.forall_mem_cons.mpr ⟨lw_p26, List.forall_mem_cons.mpr ⟨lw_p27, List.forall_mem_cons.mpr ⟨lw_p28, List.forall_mem_cons.mpr ⟨lw_p29, List.forall_mem_cons.mpr ⟨lw_p30, List.forall_mem_cons.mpr ⟨lw_p31, fun _ h => absurd h List.not_mem_nil⟩⟩⟩⟩⟩⟩⟩⟩⟩⟩⟩⟩⟩⟩⟩⟩
theorem lw_p32 : lw_okq (⟨"StubHouse$Library", "restoreDirectory", "(IJ)I"⟩, 9) := ⟨⟨by decide +kernel, by decide +kernel⟩, List.mem_of_getElem? (i := 275) (by decide +kernel), List.mem_of_getElem? (i := 1071) (by decide +kernel), List.mem_of_getElem? (i := 1072) (by decide +kernel)⟩
theorem lw_p33 : lw_okq (⟨"StubHouse$Library", "restoreCopies", "(LStubHouse$Node;)V"⟩, 9) := ⟨⟨by decide +kernel, by decide +kernel⟩, List.mem_of_getElem? (i := 275) (by decide +kernel), List.mem_of_getElem? (i := 1085) (by decide +kernel), List.mem_of_getElem? (i := 1086) (by decide +kernel)⟩
theorem lw_p34 : lw_okq (⟨"StubHouse$Library", "passNumbers", "()V"⟩, 9) := ⟨⟨by decide +kernel, by decide +kernel⟩, List.mem_of_getElem? (i := 275) (by decide +kernel), List.mem_of_getElem? (i := 1097) (by decide +kernel), List.mem_of_getElem? (i := 1098) (by decide +kernel)⟩
theorem lw_p35 : lw_okq (⟨"StubHouse$Reader", "firstRecall", "()I"⟩, 17) := ⟨⟨by decide +kernel, by decide +kernel⟩, List.mem_of_getElem? (i := 373) (by decide +kernel), List.mem_of_getElem? (i := 1110) (by decide +kernel), List.mem_of_getElem? (i := 1111) (by decide +kernel)⟩
theorem lw_p36 : lw_okq (⟨"StubHouse$Reader", "counts", "(LStubHouse$Node;)Z"⟩, 17) := ⟨⟨by decide +kernel, by decide +kernel⟩, List.mem_of_getElem? (i := 373) (by decide +kernel), List.mem_of_getElem? (i := 1114) (by decide +kernel), List.mem_of_getElem? (i := 1115) (by decide +kernel)⟩
theorem lw_p37 : lw_okq (⟨"StubHouse$Reader", "nearestRecall", "()I"⟩, 17) := ⟨⟨by decide +kernel, by decide +kernel⟩, List.mem_of_getElem? (i := 373) (by decide +kernel), List.mem_of_getElem? (i := 1123) (by decide +kernel), List.mem_of_getElem? (i := 1124) (by decide +kernel)⟩
theorem lw_p38 : lw_okq (⟨"StubHouse$Reader", "goOnRecalling", "(I)V"⟩, 17) := ⟨⟨by decide +kernel, by decide +kernel⟩, List.mem_of_getElem? (i := 373) (by decide +kernel), List.mem_of_getElem? (i := 1127) (by decide +kernel), List.mem_of_getElem? (i := 1128) (by decide +kernel)⟩
theorem lw_p39 : lw_okq (⟨"StubHouse$Reader", "beginReading", "(II)V"⟩, 17) := ⟨⟨by decide +kernel, by decide +kernel⟩, List.mem_of_getElem? (i := 373) (by decide +kernel), List.mem_of_getElem? (i := 1140) (by decide +kernel), List.mem_of_getElem? (i := 1141) (by decide +kernel)⟩
theorem lw_p40 : lw_okq (⟨"StubHouse$Library", "isCopyOfFile", "(II)Z"⟩, 9) := ⟨⟨by decide +kernel, by decide +kernel⟩, List.mem_of_getElem? (i := 275) (by decide +kernel), List.mem_of_getElem? (i := 1156) (by decide +kernel), List.mem_of_getElem? (i := 1157) (by decide +kernel)⟩
theorem lw_p41 : lw_okq (⟨"StubHouse$Library", "isLatest", "(II)Z"⟩, 9) := ⟨⟨by decide +kernel, by decide +kernel⟩, List.mem_of_getElem? (i := 275) (by decide +kernel), List.mem_of_getElem? (i := 1164) (by decide +kernel), List.mem_of_getElem? (i := 1165) (by decide +kernel)⟩
theorem lw_p42 : lw_okq (⟨"StubHouse$Reader", "goOnReclaiming", "(I)V"⟩, 17) := ⟨⟨by decide +kernel, by decide +kernel⟩, List.mem_of_getElem? (i := 373) (by decide +kernel), List.mem_of_getElem? (i := 1168) (by decide +kernel), List.mem_of_getElem? (i := 1169) (by decide +kernel)⟩
theorem lw_p43 : lw_okq (⟨"StubHouse$Reader", "blankReclaimed", "()V"⟩, 17) := ⟨⟨by decide +kernel, by decide +kernel⟩, List.mem_of_getElem? (i := 373) (by decide +kernel), List.mem_of_getElem? (i := 1174) (by decide +kernel), List.mem_of_getElem? (i := 1175) (by decide +kernel)⟩
theorem lw_p44 : lw_okq (⟨"StubHouse$Reader", "changeTape", "(II)V"⟩, 17) := ⟨⟨by decide +kernel, by decide +kernel⟩, List.mem_of_getElem? (i := 373) (by decide +kernel), List.mem_of_getElem? (i := 1200) (by decide +kernel), List.mem_of_getElem? (i := 1201) (by decide +kernel)⟩
theorem lw_p45 : lw_okq (⟨"StubHouse$Reader", "endRecall", "()V"⟩, 17) := ⟨⟨by decide +kernel, by decide +kernel⟩, List.mem_of_getElem? (i := 373) (by decide +kernel), List.mem_of_getElem? (i := 1226) (by decide +kernel), List.mem_of_getElem? (i := 1227) (by decide +kernel)⟩
theorem lw_p46 : lw_okq (⟨"StubHouse$Reader", "endReclaim", "()V"⟩, 17) := ⟨⟨by decide +kernel, by decide +kernel⟩, List.mem_of_getElem? (i := 373) (by decide +kernel), List.mem_of_getElem? (i := 1245) (by decide +kernel), List.mem_of_getElem? (i := 1246) (by decide +kernel)⟩
theorem lw_p47 : lw_okq (⟨"StubHouse$Writer", "dropFinished", "()V"⟩, 17) := ⟨⟨by decide +kernel, by decide +kernel⟩, List.mem_of_getElem? (i := 460) (by decide +kernel), List.mem_of_getElem? (i := 1256) (by decide +kernel), List.mem_of_getElem? (i := 1257) (by decide +kernel)⟩
def lw_privs_3 : List (MethodName × Nat) := [(⟨"StubHouse$Library", "restoreDirectory", "(IJ)I"⟩, 9), (⟨"StubHouse$Library", "restoreCopies", "(LStubHouse$Node;)V"⟩, 9), (⟨"StubHouse$Library", "passNumbers", "()V"⟩, 9), (⟨"StubHouse$Reader", "firstRecall", "()I"⟩, 17), (⟨"StubHouse$Reader", "counts", "(LStubHouse$Node;)Z"⟩, 17), (⟨"StubHouse$Reader", "nearestRecall", "()I"⟩, 17), (⟨"StubHouse$Reader", "goOnRecalling", "(I)V"⟩, 17), (⟨"StubHouse$Reader", "beginReading", "(II)V"⟩, 17), (⟨"StubHouse$Library", "isCopyOfFile", "(II)Z"⟩, 9), (⟨"StubHouse$Library", "isLatest", "(II)Z"⟩, 9), (⟨"StubHouse$Reader", "goOnReclaiming", "(I)V"⟩, 17), (⟨"StubHouse$Reader", "blankReclaimed", "()V"⟩, 17), (⟨"StubHouse$Reader", "changeTape", "(II)V"⟩, 17), (⟨"StubHouse$Reader", "endRecall", "()V"⟩, 17), (⟨"StubHouse$Reader", "endReclaim", "()V"⟩, 17), (⟨"StubHouse$Writer", "dropFinished", "()V"⟩, 17)]
theorem lw_r3 : ∀ q ∈ lw_privs_3, lw_okq q := List.forall_mem_cons.mpr ⟨lw_p32, List.forall_mem_cons.mpr ⟨lw_p33, List.forall_mem_cons.mpr ⟨lw_p34, List.forall_mem_cons.mpr ⟨lw_p35, List.forall_mem_cons.mpr ⟨lw_p36, List.forall_mem_cons.mpr ⟨lw_p37, List.forall_mem_cons.mpr ⟨lw_p38, List.forall_mem_cons.mpr ⟨lw_p39, List.forall_mem_cons.mpr ⟨lw_p40, List.forall_mem_cons.mpr ⟨lw_p41, List.forall_mem_cons.mpr ⟨lw_p42, List.forall_mem_cons.mpr ⟨lw_p43, List.forall_mem_cons.mpr ⟨lw_p44, List.forall_mem_cons.mpr ⟨lw_p45, List.forall_mem_cons.mpr ⟨lw_p46, List.forall_mem_cons.mpr ⟨lw_p47, fun _ h => absurd h List.not_mem_nil⟩⟩⟩⟩⟩⟩⟩⟩⟩⟩⟩⟩⟩⟩⟩⟩
theorem lw_p48 : lw_okq (⟨"StubHouse$Writer", "goForDelete", "()Z"⟩, 17) := ⟨⟨by decide +kernel, by decide +kernel⟩, List.mem_of_getElem? (i := 460) (by decide +kernel), List.mem_of_getElem? (i := 1265) (by decide +kernel), List.mem_of_getElem? (i := 1266) (by decide +kernel)⟩
theorem lw_p49 : lw_okq (⟨"StubHouse$Writer", "targetFor", "(II)I"⟩, 17) := ⟨⟨by decide +kernel, by decide +kernel⟩, List.mem_of_getElem? (i := 460) (by decide +kernel), List.mem_of_getElem? (i := 1273) (by decide +kernel), List.mem_of_getElem? (i := 1274) (by decide +kernel)⟩
theorem lw_p50 : lw_okq (⟨"StubHouse$Writer", "willDo", "(III)Z"⟩, 17) := ⟨⟨by decide +kernel, by decide +kernel⟩, List.mem_of_getElem? (i := 460) (by decide +kernel), List.mem_of_getElem? (i := 1277) (by decide +kernel), List.mem_of_getElem? (i := 1278) (by decide +kernel)⟩
theorem lw_p51 : lw_okq (⟨"StubHouse$Writer", "isAtEndOf", "(I)Z"⟩, 17) := ⟨⟨by decide +kernel, by decide +kernel⟩, List.mem_of_getElem? (i := 460) (by decide +kernel), List.mem_of_getElem? (i := 1285) (by decide +kernel), List.mem_of_getElem? (i := 1286) (by decide +kernel)⟩
theorem lw_p52 : lw_okq (⟨"StubHouse$Writer", "beginDelete", "(I)V"⟩, 17) := ⟨⟨by decide +kernel, by decide +kernel⟩, List.mem_of_getElem? (i := 460) (by decide +kernel), List.mem_of_getElem? (i := 1295) (by decide +kernel), List.mem_of_getElem? (i := 1296) (by decide +kernel)⟩
theorem lw_p53 : lw_okq (⟨"StubHouse$Writer", "putHead", "(IIII)I"⟩, 17) := ⟨⟨by decide +kernel, by decide +kernel⟩, List.mem_of_getElem? (i := 460) (by decide +kernel), List.mem_of_getElem? (i := 1299) (by decide +kernel), List.mem_of_getElem? (i := 1300) (by decide +kernel)⟩
theorem lw_p54 : lw_okq (⟨"StubHouse$Writer", "putCheck", "(II)I"⟩, 17) := ⟨⟨by decide +kernel, by decide +kernel⟩, List.mem_of_getElem? (i := 460) (by decide +kernel), List.mem_of_getElem? (i := 1306) (by decide +kernel), List.mem_of_getElem? (i := 1307) (by decide +kernel)⟩
theorem lw_p55 : lw_okq (⟨"StubHouse$Writer", "beginWriting", "(III)V"⟩, 17) := ⟨⟨by decide +kernel, by decide +kernel⟩, List.mem_of_getElem? (i := 460) (by decide +kernel), List.mem_of_getElem? (i := 1311) (by decide +kernel), List.mem_of_getElem? (i := 1312) (by decide +kernel)⟩
theorem lw_p56 : lw_okq (⟨"StubHouse$Writer", "goForParcel", "()Z"⟩, 17) := ⟨⟨by decide +kernel, by decide +kernel⟩, List.mem_of_getElem? (i := 460) (by decide +kernel), List.mem_of_getElem? (i := 1318) (by decide +kernel), List.mem_of_getElem? (i := 1319) (by decide +kernel)⟩
theorem lw_p57 : lw_okq (⟨"StubHouse$Writer", "beginParcel", "()V"⟩, 17) := ⟨⟨by decide +kernel, by decide +kernel⟩, List.mem_of_getElem? (i := 460) (by decide +kernel), List.mem_of_getElem? (i := 1327) (by decide +kernel), List.mem_of_getElem? (i := 1328) (by decide +kernel)⟩
theorem lw_p58 : lw_okq (⟨"StubHouse$Writer", "goForFile", "()V"⟩, 17) := ⟨⟨by decide +kernel, by decide +kernel⟩, List.mem_of_getElem? (i := 460) (by decide +kernel), List.mem_of_getElem? (i := 1333) (by decide +kernel), List.mem_of_getElem? (i := 1334) (by decide +kernel)⟩
theorem lw_p59 : lw_okq (⟨"StubHouse$Writer", "beginFile", "(I)V"⟩, 17) := ⟨⟨by decide +kernel, by decide +kernel⟩, List.mem_of_getElem? (i := 460) (by decide +kernel), List.mem_of_getElem? (i := 1338) (by decide +kernel), List.mem_of_getElem? (i := 1339) (by decide +kernel)⟩
theorem lw_p60 : lw_okq (⟨"StubHouse$Writer", "endParcel", "(I)V"⟩, 17) := ⟨⟨by decide +kernel, by decide +kernel⟩, List.mem_of_getElem? (i := 460) (by decide +kernel), List.mem_of_getElem? (i := 1370) (by decide +kernel), List.mem_of_getElem? (i := 1371) (by decide +kernel)⟩
theorem lw_p61 : lw_okq (⟨"StubHouse$Writer", "endFile", "(I)V"⟩, 17) := ⟨⟨by decide +kernel, by decide +kernel⟩, List.mem_of_getElem? (i := 460) (by decide +kernel), List.mem_of_getElem? (i := 1379) (by decide +kernel), List.mem_of_getElem? (i := 1380) (by decide +kernel)⟩
theorem lw_p62 : lw_okq (⟨"StubHouse$Migrator", "modeOf", "(IZ)Z"⟩, 11) := ⟨⟨by decide +kernel, by decide +kernel⟩, List.mem_of_getElem? (i := 509) (by decide +kernel), List.mem_of_getElem? (i := 1392) (by decide +kernel), List.mem_of_getElem? (i := 1393) (by decide +kernel)⟩
theorem lw_p63 : lw_okq (⟨"StubHouse$Migrator", "rankFiles", "(I)V"⟩, 11) := ⟨⟨by decide +kernel, by decide +kernel⟩, List.mem_of_getElem? (i := 509) (by decide +kernel), List.mem_of_getElem? (i := 1396) (by decide +kernel), List.mem_of_getElem? (i := 1397) (by decide +kernel)⟩
def lw_privs_4 : List (MethodName × Nat) := [(⟨"StubHouse$Writer", "goForDelete", "()Z"⟩, 17), (⟨"StubHouse$Writer", "targetFor", "(II)I"⟩, 17), (⟨"StubHouse$Writer", "willDo", "(III)Z"⟩, 17), (⟨"StubHouse$Writer", "isAtEndOf", "(I)Z"⟩, 17), (⟨"StubHouse$Writer", "beginDelete", "(I)V"⟩, 17), (⟨"StubHouse$Writer", "putHead", "(IIII)I"⟩, 17), (⟨"StubHouse$Writer", "putCheck", "(II)I"⟩, 17), (⟨"StubHouse$Writer", "beginWriting", "(III)V"⟩, 17), (⟨"StubHouse$Writer", "goForParcel", "()Z"⟩, 17), (⟨"StubHouse$Writer", "beginParcel", "()V"⟩, 17), (⟨"StubHouse$Writer", "goForFile", "()V"⟩, 17), (⟨"StubHouse$Writer", "beginFile", "(I)V"⟩, 17), (⟨"StubHouse$Writer", "endParcel", "(I)V"⟩, 17), (⟨"StubHouse$Writer", "endFile", "(I)V"⟩, 17), (⟨"StubHouse$Migrator", "modeOf", "(IZ)Z"⟩, 11), (⟨"StubHouse$Migrator", "rankFiles", "(I)V"⟩, 11)]
theorem lw_r4 : ∀ q ∈ lw_privs_4, lw_okq q := List.forall_mem_cons.mpr ⟨lw_p48, List.forall_mem_cons.mpr ⟨lw_p49, List.forall_mem_cons.mpr ⟨lw_p50, List.forall_mem_cons.mpr ⟨lw_p51, List.forall_mem_cons.mpr ⟨lw_p52, List.forall_mem_cons.mpr ⟨lw_p53, List.forall_mem_cons.mpr ⟨lw_p54, List.forall_mem_cons.mpr ⟨lw_p55, List.forall_mem_cons.mpr ⟨lw_p56, List.forall_mem_cons.mpr ⟨lw_p57, List.forall_mem_cons.mpr ⟨lw_p58, List.forall_mem_cons.mpr ⟨lw_p59, List.forall_mem_cons.mpr ⟨lw_p60, List.forall_mem_cons.mpr ⟨lw_p61, List.forall_mem_cons.mpr ⟨lw_p62, List.forall_mem_cons.mpr ⟨lw_p63, fun _ h => absurd h List.not_mem_nil⟩⟩⟩⟩⟩⟩⟩⟩⟩⟩⟩⟩⟩⟩⟩⟩
theorem lw_p64 : lw_okq (⟨"StubHouse$Migrator", "releaseFirst", "()Z"⟩, 11) := ⟨⟨by decide +kernel, by decide +kernel⟩, List.mem_of_getElem? (i := 509) (by decide +kernel), List.mem_of_getElem? (i := 1405) (by decide +kernel), List.mem_of_getElem? (i := 1406) (by decide +kernel)⟩
theorem lw_p65 : lw_okq (⟨"StubHouse$Migrator", "queueFirst", "()V"⟩, 11) := ⟨⟨by decide +kernel, by decide +kernel⟩, List.mem_of_getElem? (i := 509) (by decide +kernel), List.mem_of_getElem? (i := 1414) (by decide +kernel), List.mem_of_getElem? (i := 1415) (by decide +kernel)⟩
theorem lw_p66 : lw_okq (⟨"StubHouse", "toldOfStores", "(I)I"⟩, 11) := ⟨⟨by decide +kernel, by decide +kernel⟩, List.mem_of_getElem? (i := 18) (by decide +kernel), List.mem_of_getElem? (i := 1442) (by decide +kernel), List.mem_of_getElem? (i := 1443) (by decide +kernel)⟩
theorem lw_p67 : lw_okq (⟨"StubHouseModel", "empty", "()V"⟩, 57) := ⟨⟨by decide +kernel, by decide +kernel⟩, List.mem_of_getElem? (i := 1488) (by decide +kernel), List.mem_of_getElem? (i := 1496) (by decide +kernel), List.mem_of_getElem? (i := 1497) (by decide +kernel)⟩
theorem lw_p68 : lw_okq (⟨"StubHouseModel", "copyOut", "()V"⟩, 57) := ⟨⟨by decide +kernel, by decide +kernel⟩, List.mem_of_getElem? (i := 1488) (by decide +kernel), List.mem_of_getElem? (i := 1500) (by decide +kernel), List.mem_of_getElem? (i := 1501) (by decide +kernel)⟩
theorem lw_p69 : lw_okq (⟨"StubHouseModel", "isDirectory", "(I)Z"⟩, 57) := ⟨⟨by decide +kernel, by decide +kernel⟩, List.mem_of_getElem? (i := 1488) (by decide +kernel), List.mem_of_getElem? (i := 1680) (by decide +kernel), List.mem_of_getElem? (i := 1681) (by decide +kernel)⟩
theorem lw_p70 : lw_okq (⟨"StubHouseModel", "at", "(II)I"⟩, 57) := ⟨⟨by decide +kernel, by decide +kernel⟩, List.mem_of_getElem? (i := 1488) (by decide +kernel), List.mem_of_getElem? (i := 1688) (by decide +kernel), List.mem_of_getElem? (i := 1689) (by decide +kernel)⟩
theorem lw_p71 : lw_okq (⟨"StubHouseModel", "look", "(IJ)I"⟩, 57) := ⟨⟨by decide +kernel, by decide +kernel⟩, List.mem_of_getElem? (i := 1488) (by decide +kernel), List.mem_of_getElem? (i := 1700) (by decide +kernel), List.mem_of_getElem? (i := 1701) (by decide +kernel)⟩
theorem lw_p72 : lw_okq (⟨"StubHouseModel", "freeNode", "()I"⟩, 57) := ⟨⟨by decide +kernel, by decide +kernel⟩, List.mem_of_getElem? (i := 1488) (by decide +kernel), List.mem_of_getElem? (i := 1704) (by decide +kernel), List.mem_of_getElem? (i := 1705) (by decide +kernel)⟩
theorem lw_p73 : lw_okq (⟨"StubHouseModel", "depth", "(I)I"⟩, 57) := ⟨⟨by decide +kernel, by decide +kernel⟩, List.mem_of_getElem? (i := 1488) (by decide +kernel), List.mem_of_getElem? (i := 1708) (by decide +kernel), List.mem_of_getElem? (i := 1709) (by decide +kernel)⟩
theorem lw_p74 : lw_okq (⟨"StubHouseModel", "ahead", "()V"⟩, 57) := ⟨⟨by decide +kernel, by decide +kernel⟩, List.mem_of_getElem? (i := 1488) (by decide +kernel), List.mem_of_getElem? (i := 1712) (by decide +kernel), List.mem_of_getElem? (i := 1713) (by decide +kernel)⟩
theorem lw_p75 : lw_okq (⟨"StubHouseModel", "syncAll", "()I"⟩, 57) := ⟨⟨by decide +kernel, by decide +kernel⟩, List.mem_of_getElem? (i := 1488) (by decide +kernel), List.mem_of_getElem? (i := 1716) (by decide +kernel), List.mem_of_getElem? (i := 1717) (by decide +kernel)⟩
theorem lw_p76 : lw_okq (⟨"StubHouseModel", "plant", "(IIIJ)V"⟩, 57) := ⟨⟨by decide +kernel, by decide +kernel⟩, List.mem_of_getElem? (i := 1488) (by decide +kernel), List.mem_of_getElem? (i := 1720) (by decide +kernel), List.mem_of_getElem? (i := 1721) (by decide +kernel)⟩
theorem lw_p77 : lw_okq (⟨"StubHouseModel", "set", "(III)V"⟩, 57) := ⟨⟨by decide +kernel, by decide +kernel⟩, List.mem_of_getElem? (i := 1488) (by decide +kernel), List.mem_of_getElem? (i := 1724) (by decide +kernel), List.mem_of_getElem? (i := 1725) (by decide +kernel)⟩
theorem lw_p78 : lw_okq (⟨"StubHouseModel", "noBlocks", "(I)V"⟩, 57) := ⟨⟨by decide +kernel, by decide +kernel⟩, List.mem_of_getElem? (i := 1488) (by decide +kernel), List.mem_of_getElem? (i := 1728) (by decide +kernel), List.mem_of_getElem? (i := 1729) (by decide +kernel)⟩
theorem lw_p79 : lw_okq (⟨"StubHouseModel", "record", "(I)V"⟩, 57) := ⟨⟨by decide +kernel, by decide +kernel⟩, List.mem_of_getElem? (i := 1488) (by decide +kernel), List.mem_of_getElem? (i := 1732) (by decide +kernel), List.mem_of_getElem? (i := 1733) (by decide +kernel)⟩
def lw_privs_5 : List (MethodName × Nat) := [(⟨"StubHouse$Migrator", "releaseFirst", "()Z"⟩, 11), (⟨"StubHouse$Migrator", "queueFirst", "()V"⟩, 11), (⟨"StubHouse", "toldOfStores", "(I)I"⟩, 11), (⟨"StubHouseModel", "empty", "()V"⟩, 57), (⟨"StubHouseModel", "copyOut", "()V"⟩, 57), (⟨"StubHouseModel", "isDirectory", "(I)Z"⟩, 57), (⟨"StubHouseModel", "at", "(II)I"⟩, 57), (⟨"StubHouseModel", "look", "(IJ)I"⟩, 57), (⟨"StubHouseModel", "freeNode", "()I"⟩, 57), (⟨"StubHouseModel", "depth", "(I)I"⟩, 57), (⟨"StubHouseModel", "ahead", "()V"⟩, 57), (⟨"StubHouseModel", "syncAll", "()I"⟩, 57), (⟨"StubHouseModel", "plant", "(IIIJ)V"⟩, 57), (⟨"StubHouseModel", "set", "(III)V"⟩, 57), (⟨"StubHouseModel", "noBlocks", "(I)V"⟩, 57), (⟨"StubHouseModel", "record", "(I)V"⟩, 57)]
theorem lw_r5 : ∀ q ∈ lw_privs_5, lw_okq q := List.forall_mem_cons.mpr ⟨lw_p64, List.forall_mem_cons.mpr ⟨lw_p65, List.forall_mem_cons.mpr ⟨lw_p66, List.forall_mem_cons.mpr ⟨lw_p67, List.forall_mem_cons.mpr ⟨lw_p68, List.forall_mem_cons.mpr ⟨lw_p69, List.forall_mem_cons.mpr ⟨lw_p70, List.forall_mem_cons.mpr ⟨lw_p71, List.forall_mem_cons.mpr ⟨lw_p72, List.forall_mem_cons.mpr ⟨lw_p73, List.forall_mem_cons.mpr ⟨lw_p74, List.forall_mem_cons.mpr ⟨lw_p75, List.forall_mem_cons.mpr ⟨lw_p76, List.forall_mem_cons.mpr ⟨lw_p77, List.forall_mem_cons.mpr ⟨lw_p78, List.forall_mem_cons.mpr ⟨lw_p79, fun _ h => absurd h List.not_mem_nil⟩⟩⟩⟩⟩⟩⟩⟩⟩⟩⟩⟩⟩⟩⟩⟩
theorem lw_p80 : lw_okq (⟨"StubHouseModel", "hasNodes", "(I)Z"⟩, 57) := ⟨⟨by decide +kernel, by decide +kernel⟩, List.mem_of_getElem? (i := 1488) (by decide +kernel), List.mem_of_getElem? (i := 1744) (by decide +kernel), List.mem_of_getElem? (i := 1745) (by decide +kernel)⟩
theorem lw_p81 : lw_okq (⟨"StubHouseModel", "hold", "(I)V"⟩, 57) := ⟨⟨by decide +kernel, by decide +kernel⟩, List.mem_of_getElem? (i := 1488) (by decide +kernel), List.mem_of_getElem? (i := 1748) (by decide +kernel), List.mem_of_getElem? (i := 1749) (by decide +kernel)⟩
theorem lw_p82 : lw_okq (⟨"StubHouseModel", "isOnTape", "(I)Z"⟩, 57) := ⟨⟨by decide +kernel, by decide +kernel⟩, List.mem_of_getElem? (i := 1488) (by decide +kernel), List.mem_of_getElem? (i := 1752) (by decide +kernel), List.mem_of_getElem? (i := 1753) (by decide +kernel)⟩
theorem lw_p83 : lw_okq (⟨"StubHouseModel", "scanAll", "()V"⟩, 57) := ⟨⟨by decide +kernel, by decide +kernel⟩, List.mem_of_getElem? (i := 1488) (by decide +kernel), List.mem_of_getElem? (i := 1756) (by decide +kernel), List.mem_of_getElem? (i := 1757) (by decide +kernel)⟩
theorem lw_p84 : lw_okq (⟨"StubHouseModel", "scan", "(I)V"⟩, 57) := ⟨⟨by decide +kernel, by decide +kernel⟩, List.mem_of_getElem? (i := 1488) (by decide +kernel), List.mem_of_getElem? (i := 1760) (by decide +kernel), List.mem_of_getElem? (i := 1761) (by decide +kernel)⟩
theorem lw_p85 : lw_okq (⟨"StubHouseModel", "segmentAt", "(II)I"⟩, 57) := ⟨⟨by decide +kernel, by decide +kernel⟩, List.mem_of_getElem? (i := 1488) (by decide +kernel), List.mem_of_getElem? (i := 1764) (by decide +kernel), List.mem_of_getElem? (i := 1765) (by decide +kernel)⟩
theorem lw_p86 : lw_okq (⟨"StubHouseModel", "tapeByte", "(II)I"⟩, 57) := ⟨⟨by decide +kernel, by decide +kernel⟩, List.mem_of_getElem? (i := 1488) (by decide +kernel), List.mem_of_getElem? (i := 1768) (by decide +kernel), List.mem_of_getElem? (i := 1769) (by decide +kernel)⟩
theorem lw_p87 : lw_okq (⟨"StubHouseModel", "number", "(III)I"⟩, 57) := ⟨⟨by decide +kernel, by decide +kernel⟩, List.mem_of_getElem? (i := 1488) (by decide +kernel), List.mem_of_getElem? (i := 1774) (by decide +kernel), List.mem_of_getElem? (i := 1775) (by decide +kernel)⟩
theorem lw_p88 : lw_okq (⟨"StubHouseModel", "check", "(III)I"⟩, 57) := ⟨⟨by decide +kernel, by decide +kernel⟩, List.mem_of_getElem? (i := 1488) (by decide +kernel), List.mem_of_getElem? (i := 1785) (by decide +kernel), List.mem_of_getElem? (i := 1786) (by decide +kernel)⟩
theorem lw_p89 : lw_okq (⟨"StubHouseModel", "seg", "(III)I"⟩, 57) := ⟨⟨by decide +kernel, by decide +kernel⟩, List.mem_of_getElem? (i := 1488) (by decide +kernel), List.mem_of_getElem? (i := 1793) (by decide +kernel), List.mem_of_getElem? (i := 1794) (by decide +kernel)⟩
theorem lw_p90 : lw_okq (⟨"StubHouseModel", "isBeingWritten", "(I)Z"⟩, 57) := ⟨⟨by decide +kernel, by decide +kernel⟩, List.mem_of_getElem? (i := 1488) (by decide +kernel), List.mem_of_getElem? (i := 1797) (by decide +kernel), List.mem_of_getElem? (i := 1798) (by decide +kernel)⟩
theorem lw_p91 : lw_okq (⟨"StubHouseModel", "purge", "()V"⟩, 57) := ⟨⟨by decide +kernel, by decide +kernel⟩, List.mem_of_getElem? (i := 1488) (by decide +kernel), List.mem_of_getElem? (i := 1801) (by decide +kernel), List.mem_of_getElem? (i := 1802) (by decide +kernel)⟩
theorem lw_p92 : lw_okq (⟨"StubHouseModel", "fileOf", "(I)I"⟩, 57) := ⟨⟨by decide +kernel, by decide +kernel⟩, List.mem_of_getElem? (i := 1488) (by decide +kernel), List.mem_of_getElem? (i := 1805) (by decide +kernel), List.mem_of_getElem? (i := 1806) (by decide +kernel)⟩
theorem lw_p93 : lw_okq (⟨"StubHouseModel", "isStub", "(I)Z"⟩, 57) := ⟨⟨by decide +kernel, by decide +kernel⟩, List.mem_of_getElem? (i := 1488) (by decide +kernel), List.mem_of_getElem? (i := 1809) (by decide +kernel), List.mem_of_getElem? (i := 1810) (by decide +kernel)⟩
theorem lw_p94 : lw_okq (⟨"StubHouseModel", "isBelow", "(II)Z"⟩, 57) := ⟨⟨by decide +kernel, by decide +kernel⟩, List.mem_of_getElem? (i := 1488) (by decide +kernel), List.mem_of_getElem? (i := 1817) (by decide +kernel), List.mem_of_getElem? (i := 1818) (by decide +kernel)⟩
theorem lw_p95 : lw_okq (⟨"StubHouseModel", "isFile", "(I)Z"⟩, 57) := ⟨⟨by decide +kernel, by decide +kernel⟩, List.mem_of_getElem? (i := 1488) (by decide +kernel), List.mem_of_getElem? (i := 1835) (by decide +kernel), List.mem_of_getElem? (i := 1836) (by decide +kernel)⟩
def lw_privs_6 : List (MethodName × Nat) := [(⟨"StubHouseModel", "hasNodes", "(I)Z"⟩, 57), (⟨"StubHouseModel", "hold", "(I)V"⟩, 57), (⟨"StubHouseModel", "isOnTape", "(I)Z"⟩, 57), (⟨"StubHouseModel", "scanAll", "()V"⟩, 57), (⟨"StubHouseModel", "scan", "(I)V"⟩, 57), (⟨"StubHouseModel", "segmentAt", "(II)I"⟩, 57), (⟨"StubHouseModel", "tapeByte", "(II)I"⟩, 57), (⟨"StubHouseModel", "number", "(III)I"⟩, 57), (⟨"StubHouseModel", "check", "(III)I"⟩, 57), (⟨"StubHouseModel", "seg", "(III)I"⟩, 57), (⟨"StubHouseModel", "isBeingWritten", "(I)Z"⟩, 57), (⟨"StubHouseModel", "purge", "()V"⟩, 57), (⟨"StubHouseModel", "fileOf", "(I)I"⟩, 57), (⟨"StubHouseModel", "isStub", "(I)Z"⟩, 57), (⟨"StubHouseModel", "isBelow", "(II)Z"⟩, 57), (⟨"StubHouseModel", "isFile", "(I)Z"⟩, 57)]
theorem lw_r6 : ∀ q ∈ lw_privs_6, lw_okq q := List.forall_mem_cons.mpr ⟨lw_p80, List.forall_mem_cons.mpr ⟨lw_p81, List.forall_mem_cons.mpr ⟨lw_p82, List.forall_mem_cons.mpr ⟨lw_p83, List.forall_mem_cons.mpr ⟨lw_p84, List.forall_mem_cons.mpr ⟨lw_p85, List.forall_mem_cons.mpr ⟨lw_p86, List.forall_mem_cons.mpr ⟨lw_p87, List.forall_mem_cons.mpr ⟨lw_p88, List.forall_mem_cons.mpr ⟨lw_p89, List.forall_mem_cons.mpr ⟨lw_p90, List.forall_mem_cons.mpr ⟨lw_p91, List.forall_mem_cons.mpr ⟨lw_p92, List.forall_mem_cons.mpr ⟨lw_p93, List.forall_mem_cons.mpr ⟨lw_p94, List.forall_mem_cons.mpr ⟨lw_p95, fun _ h => absurd h List.not_mem_nil⟩⟩⟩⟩⟩⟩⟩⟩⟩⟩⟩⟩⟩⟩⟩⟩
theorem lw_p96 : lw_okq (⟨"StubHouseModel", "stubbed", "(I)I"⟩, 57) := ⟨⟨by decide +kernel, by decide +kernel⟩, List.mem_of_getElem? (i := 1488) (by decide +kernel), List.mem_of_getElem? (i := 1839) (by decide +kernel), List.mem_of_getElem? (i := 1840) (by decide +kernel)⟩
theorem lw_p97 : lw_okq (⟨"StubHouseModel", "freeIn", "(II)I"⟩, 57) := ⟨⟨by decide +kernel, by decide +kernel⟩, List.mem_of_getElem? (i := 1488) (by decide +kernel), List.mem_of_getElem? (i := 1843) (by decide +kernel), List.mem_of_getElem? (i := 1844) (by decide +kernel)⟩
theorem lw_p98 : lw_okq (⟨"StubHouseModel", "renew", "(II)V"⟩, 57) := ⟨⟨by decide +kernel, by decide +kernel⟩, List.mem_of_getElem? (i := 1488) (by decide +kernel), List.mem_of_getElem? (i := 1847) (by decide +kernel), List.mem_of_getElem? (i := 1848) (by decide +kernel)⟩
theorem lw_p99 : lw_okq (⟨"StubHouseModel", "give", "(II)I"⟩, 57) := ⟨⟨by decide +kernel, by decide +kernel⟩, List.mem_of_getElem? (i := 1488) (by decide +kernel), List.mem_of_getElem? (i := 1851) (by decide +kernel), List.mem_of_getElem? (i := 1852) (by decide +kernel)⟩
theorem lw_p100 : lw_okq (⟨"StubHouseModel", "changed", "(I)V"⟩, 57) := ⟨⟨by decide +kernel, by decide +kernel⟩, List.mem_of_getElem? (i := 1488) (by decide +kernel), List.mem_of_getElem? (i := 1855) (by decide +kernel), List.mem_of_getElem? (i := 1856) (by decide +kernel)⟩
theorem lw_p101 : lw_okq (⟨"StubHouseModel", "blocks", "(I)I"⟩, 57) := ⟨⟨by decide +kernel, by decide +kernel⟩, List.mem_of_getElem? (i := 1488) (by decide +kernel), List.mem_of_getElem? (i := 1859) (by decide +kernel), List.mem_of_getElem? (i := 1860) (by decide +kernel)⟩
theorem lw_p102 : lw_okq (⟨"StubHouseModel", "inStore", "(II)I"⟩, 57) := ⟨⟨by decide +kernel, by decide +kernel⟩, List.mem_of_getElem? (i := 1488) (by decide +kernel), List.mem_of_getElem? (i := 1876) (by decide +kernel), List.mem_of_getElem? (i := 1877) (by decide +kernel)⟩
theorem lw_p103 : lw_okq (⟨"StubHouseModel", "hasCopies", "(I)Z"⟩, 57) := ⟨⟨by decide +kernel, by decide +kernel⟩, List.mem_of_getElem? (i := 1488) (by decide +kernel), List.mem_of_getElem? (i := 1880) (by decide +kernel), List.mem_of_getElem? (i := 1881) (by decide +kernel)⟩
theorem lw_p104 : lw_okq (⟨"StubHouseModel", "stopAll", "()V"⟩, 57) := ⟨⟨by decide +kernel, by decide +kernel⟩, List.mem_of_getElem? (i := 1488) (by decide +kernel), List.mem_of_getElem? (i := 1913) (by decide +kernel), List.mem_of_getElem? (i := 1914) (by decide +kernel)⟩
theorem lw_p105 : lw_okq (⟨"StubHouseModel", "files", "()I"⟩, 57) := ⟨⟨by decide +kernel, by decide +kernel⟩, List.mem_of_getElem? (i := 1488) (by decide +kernel), List.mem_of_getElem? (i := 1921) (by decide +kernel), List.mem_of_getElem? (i := 1922) (by decide +kernel)⟩
theorem lw_p106 : lw_okq (⟨"StubHouseModel", "isLive", "(II)Z"⟩, 57) := ⟨⟨by decide +kernel, by decide +kernel⟩, List.mem_of_getElem? (i := 1488) (by decide +kernel), List.mem_of_getElem? (i := 1930) (by decide +kernel), List.mem_of_getElem? (i := 1931) (by decide +kernel)⟩
theorem lw_p107 : lw_okq (⟨"StubHouseModel", "copyAt", "(III)I"⟩, 57) := ⟨⟨by decide +kernel, by decide +kernel⟩, List.mem_of_getElem? (i := 1488) (by decide +kernel), List.mem_of_getElem? (i := 1934) (by decide +kernel), List.mem_of_getElem? (i := 1935) (by decide +kernel)⟩
theorem lw_p108 : lw_okq (⟨"StubHouseModel", "fits", "(III)I"⟩, 57) := ⟨⟨by decide +kernel, by decide +kernel⟩, List.mem_of_getElem? (i := 1488) (by decide +kernel), List.mem_of_getElem? (i := 1938) (by decide +kernel), List.mem_of_getElem? (i := 1939) (by decide +kernel)⟩
theorem lw_p109 : lw_okq (⟨"StubHouseModel", "noPlace", "(II)Z"⟩, 57) := ⟨⟨by decide +kernel, by decide +kernel⟩, List.mem_of_getElem? (i := 1488) (by decide +kernel), List.mem_of_getElem? (i := 1946) (by decide +kernel), List.mem_of_getElem? (i := 1947) (by decide +kernel)⟩
theorem lw_p110 : lw_okq (⟨"StubHouseModel", "findView", "()V"⟩, 57) := ⟨⟨by decide +kernel, by decide +kernel⟩, List.mem_of_getElem? (i := 1488) (by decide +kernel), List.mem_of_getElem? (i := 1962) (by decide +kernel), List.mem_of_getElem? (i := 1963) (by decide +kernel)⟩
theorem lw_p111 : lw_okq (⟨"StubHouseModel", "isFirst", "(II)Z"⟩, 57) := ⟨⟨by decide +kernel, by decide +kernel⟩, List.mem_of_getElem? (i := 1488) (by decide +kernel), List.mem_of_getElem? (i := 1966) (by decide +kernel), List.mem_of_getElem? (i := 1967) (by decide +kernel)⟩
def lw_privs_7 : List (MethodName × Nat) := [(⟨"StubHouseModel", "stubbed", "(I)I"⟩, 57), (⟨"StubHouseModel", "freeIn", "(II)I"⟩, 57), (⟨"StubHouseModel", "renew", "(II)V"⟩, 57), (⟨"StubHouseModel", "give", "(II)I"⟩, 57), (⟨"StubHouseModel", "changed", "(I)V"⟩, 57), (⟨"StubHouseModel", "blocks", "(I)I"⟩, 57), (⟨"StubHouseModel", "inStore", "(II)I"⟩, 57), (⟨"StubHouseModel", "hasCopies", "(I)Z"⟩, 57), (⟨"StubHouseModel", "stopAll", "()V"⟩, 57), (⟨"StubHouseModel", "files", "()I"⟩, 57), (⟨"StubHouseModel", "isLive", "(II)Z"⟩, 57), (⟨"StubHouseModel", "copyAt", "(III)I"⟩, 57), (⟨"StubHouseModel", "fits", "(III)I"⟩, 57), (⟨"StubHouseModel", "noPlace", "(II)Z"⟩, 57), (⟨"StubHouseModel", "findView", "()V"⟩, 57), (⟨"StubHouseModel", "isFirst", "(II)Z"⟩, 57)]
theorem lw_r7 : ∀ q ∈ lw_privs_7, lw_okq q := List.forall_mem_cons.mpr ⟨lw_p96, List.forall_mem_cons.mpr ⟨lw_p97, List.forall_mem_cons.mpr ⟨lw_p98, List.forall_mem_cons.mpr ⟨lw_p99, List.forall_mem_cons.mpr ⟨lw_p100, List.forall_mem_cons.mpr ⟨lw_p101, List.forall_mem_cons.mpr ⟨lw_p102, List.forall_mem_cons.mpr ⟨lw_p103, List.forall_mem_cons.mpr ⟨lw_p104, List.forall_mem_cons.mpr ⟨lw_p105, List.forall_mem_cons.mpr ⟨lw_p106, List.forall_mem_cons.mpr ⟨lw_p107, List.forall_mem_cons.mpr ⟨lw_p108, List.forall_mem_cons.mpr ⟨lw_p109, List.forall_mem_cons.mpr ⟨lw_p110, List.forall_mem_cons.mpr ⟨lw_p111, fun _ h => absurd h List.not_mem_nil⟩⟩⟩⟩⟩⟩⟩⟩⟩⟩⟩⟩⟩⟩⟩⟩
theorem lw_p112 : lw_okq (⟨"StubHouseModel", "vseg", "(II)I"⟩, 57) := ⟨⟨by decide +kernel, by decide +kernel⟩, List.mem_of_getElem? (i := 1488) (by decide +kernel), List.mem_of_getElem? (i := 1970) (by decide +kernel), List.mem_of_getElem? (i := 1971) (by decide +kernel)⟩
theorem lw_p113 : lw_okq (⟨"StubHouseModel", "isWithin", "(IIII)Z"⟩, 57) := ⟨⟨by decide +kernel, by decide +kernel⟩, List.mem_of_getElem? (i := 1488) (by decide +kernel), List.mem_of_getElem? (i := 1974) (by decide +kernel), List.mem_of_getElem? (i := 1975) (by decide +kernel)⟩
theorem lw_p114 : lw_okq (⟨"StubHouseModel", "rebuildFile", "(II)V"⟩, 57) := ⟨⟨by decide +kernel, by decide +kernel⟩, List.mem_of_getElem? (i := 1488) (by decide +kernel), List.mem_of_getElem? (i := 1982) (by decide +kernel), List.mem_of_getElem? (i := 1983) (by decide +kernel)⟩
theorem lw_p115 : lw_okq (⟨"StubHouseModel", "nameOn", "(II)J"⟩, 57) := ⟨⟨by decide +kernel, by decide +kernel⟩, List.mem_of_getElem? (i := 1488) (by decide +kernel), List.mem_of_getElem? (i := 1986) (by decide +kernel), List.mem_of_getElem? (i := 1987) (by decide +kernel)⟩
theorem lw_p116 : lw_okq (⟨"StubHouseModel", "note", "(III)V"⟩, 57) := ⟨⟨by decide +kernel, by decide +kernel⟩, List.mem_of_getElem? (i := 1488) (by decide +kernel), List.mem_of_getElem? (i := 1990) (by decide +kernel), List.mem_of_getElem? (i := 1991) (by decide +kernel)⟩
theorem lw_p117 : lw_okq (⟨"StubHouseModel", "goOn", "(I)V"⟩, 57) := ⟨⟨by decide +kernel, by decide +kernel⟩, List.mem_of_getElem? (i := 1488) (by decide +kernel), List.mem_of_getElem? (i := 2003) (by decide +kernel), List.mem_of_getElem? (i := 2004) (by decide +kernel)⟩
theorem lw_p118 : lw_okq (⟨"StubHouseModel", "readerBegins", "()V"⟩, 57) := ⟨⟨by decide +kernel, by decide +kernel⟩, List.mem_of_getElem? (i := 1488) (by decide +kernel), List.mem_of_getElem? (i := 2007) (by decide +kernel), List.mem_of_getElem? (i := 2008) (by decide +kernel)⟩
theorem lw_p119 : lw_okq (⟨"StubHouseModel", "hasRoom", "(I)Z"⟩, 57) := ⟨⟨by decide +kernel, by decide +kernel⟩, List.mem_of_getElem? (i := 1488) (by decide +kernel), List.mem_of_getElem? (i := 2011) (by decide +kernel), List.mem_of_getElem? (i := 2012) (by decide +kernel)⟩
theorem lw_p120 : lw_okq (⟨"StubHouseModel", "isNearer", "(II)Z"⟩, 57) := ⟨⟨by decide +kernel, by decide +kernel⟩, List.mem_of_getElem? (i := 1488) (by decide +kernel), List.mem_of_getElem? (i := 2015) (by decide +kernel), List.mem_of_getElem? (i := 2016) (by decide +kernel)⟩
theorem lw_p121 : lw_okq (⟨"StubHouseModel", "wind", "(II)V"⟩, 57) := ⟨⟨by decide +kernel, by decide +kernel⟩, List.mem_of_getElem? (i := 1488) (by decide +kernel), List.mem_of_getElem? (i := 2019) (by decide +kernel), List.mem_of_getElem? (i := 2020) (by decide +kernel)⟩
theorem lw_p122 : lw_okq (⟨"StubHouseModel", "begin", "(III)V"⟩, 57) := ⟨⟨by decide +kernel, by decide +kernel⟩, List.mem_of_getElem? (i := 1488) (by decide +kernel), List.mem_of_getElem? (i := 2023) (by decide +kernel), List.mem_of_getElem? (i := 2024) (by decide +kernel)⟩
theorem lw_p123 : lw_okq (⟨"StubHouseModel", "beginReading", "(III)V"⟩, 57) := ⟨⟨by decide +kernel, by decide +kernel⟩, List.mem_of_getElem? (i := 1488) (by decide +kernel), List.mem_of_getElem? (i := 2027) (by decide +kernel), List.mem_of_getElem? (i := 2028) (by decide +kernel)⟩
theorem lw_p124 : lw_okq (⟨"StubHouseModel", "reclaimOn", "()V"⟩, 57) := ⟨⟨by decide +kernel, by decide +kernel⟩, List.mem_of_getElem? (i := 1488) (by decide +kernel), List.mem_of_getElem? (i := 2031) (by decide +kernel), List.mem_of_getElem? (i := 2032) (by decide +kernel)⟩
theorem lw_p125 : lw_okq (⟨"StubHouseModel", "drop", "(II)V"⟩, 57) := ⟨⟨by decide +kernel, by decide +kernel⟩, List.mem_of_getElem? (i := 1488) (by decide +kernel), List.mem_of_getElem? (i := 2036) (by decide +kernel), List.mem_of_getElem? (i := 2037) (by decide +kernel)⟩
theorem lw_p126 : lw_okq (⟨"StubHouseModel", "mount", "(II)V"⟩, 57) := ⟨⟨by decide +kernel, by decide +kernel⟩, List.mem_of_getElem? (i := 1488) (by decide +kernel), List.mem_of_getElem? (i := 2040) (by decide +kernel), List.mem_of_getElem? (i := 2041) (by decide +kernel)⟩
theorem lw_p127 : lw_okq (⟨"StubHouseModel", "writerBegins", "()V"⟩, 57) := ⟨⟨by decide +kernel, by decide +kernel⟩, List.mem_of_getElem? (i := 1488) (by decide +kernel), List.mem_of_getElem? (i := 2044) (by decide +kernel), List.mem_of_getElem? (i := 2045) (by decide +kernel)⟩
def lw_privs_8 : List (MethodName × Nat) := [(⟨"StubHouseModel", "vseg", "(II)I"⟩, 57), (⟨"StubHouseModel", "isWithin", "(IIII)Z"⟩, 57), (⟨"StubHouseModel", "rebuildFile", "(II)V"⟩, 57), (⟨"StubHouseModel", "nameOn", "(II)J"⟩, 57), (⟨"StubHouseModel", "note", "(III)V"⟩, 57), (⟨"StubHouseModel", "goOn", "(I)V"⟩, 57), (⟨"StubHouseModel", "readerBegins", "()V"⟩, 57), (⟨"StubHouseModel", "hasRoom", "(I)Z"⟩, 57), (⟨"StubHouseModel", "isNearer", "(II)Z"⟩, 57), (⟨"StubHouseModel", "wind", "(II)V"⟩, 57), (⟨"StubHouseModel", "begin", "(III)V"⟩, 57), (⟨"StubHouseModel", "beginReading", "(III)V"⟩, 57), (⟨"StubHouseModel", "reclaimOn", "()V"⟩, 57), (⟨"StubHouseModel", "drop", "(II)V"⟩, 57), (⟨"StubHouseModel", "mount", "(II)V"⟩, 57), (⟨"StubHouseModel", "writerBegins", "()V"⟩, 57)]
theorem lw_r8 : ∀ q ∈ lw_privs_8, lw_okq q := List.forall_mem_cons.mpr ⟨lw_p112, List.forall_mem_cons.mpr ⟨lw_p113, List.forall_mem_cons.mpr ⟨lw_p114, List.forall_mem_cons.mpr ⟨lw_p115, List.forall_mem_cons.mpr ⟨lw_p116, List.forall_mem_cons.mpr ⟨lw_p117, List.forall_mem_cons.mpr ⟨lw_p118, List.forall_mem_cons.mpr ⟨lw_p119, List.forall_mem_cons.mpr ⟨lw_p120, List.forall_mem_cons.mpr ⟨lw_p121, List.forall_mem_cons.mpr ⟨lw_p122, List.forall_mem_cons.mpr ⟨lw_p123, List.forall_mem_cons.mpr ⟨lw_p124, List.forall_mem_cons.mpr ⟨lw_p125, List.forall_mem_cons.mpr ⟨lw_p126, List.forall_mem_cons.mpr ⟨lw_p127, fun _ h => absurd h List.not_mem_nil⟩⟩⟩⟩⟩⟩⟩⟩⟩⟩⟩⟩⟩⟩⟩⟩
theorem lw_p128 : lw_okq (⟨"StubHouseModel", "dropWaiting", "()V"⟩, 57) := ⟨⟨by decide +kernel, by decide +kernel⟩, List.mem_of_getElem? (i := 1488) (by decide +kernel), List.mem_of_getElem? (i := 2048) (by decide +kernel), List.mem_of_getElem? (i := 2049) (by decide +kernel)⟩
theorem lw_p129 : lw_okq (⟨"StubHouseModel", "tapeFor", "(II)I"⟩, 57) := ⟨⟨by decide +kernel, by decide +kernel⟩, List.mem_of_getElem? (i := 1488) (by decide +kernel), List.mem_of_getElem? (i := 2052) (by decide +kernel), List.mem_of_getElem? (i := 2053) (by decide +kernel)⟩
theorem lw_p130 : lw_okq (⟨"StubHouseModel", "willDo", "(III)Z"⟩, 57) := ⟨⟨by decide +kernel, by decide +kernel⟩, List.mem_of_getElem? (i := 1488) (by decide +kernel), List.mem_of_getElem? (i := 2056) (by decide +kernel), List.mem_of_getElem? (i := 2057) (by decide +kernel)⟩
theorem lw_p131 : lw_okq (⟨"StubHouseModel", "hasCopyOn", "(II)Z"⟩, 57) := ⟨⟨by decide +kernel, by decide +kernel⟩, List.mem_of_getElem? (i := 1488) (by decide +kernel), List.mem_of_getElem? (i := 2060) (by decide +kernel), List.mem_of_getElem? (i := 2061) (by decide +kernel)⟩
theorem lw_p132 : lw_okq (⟨"StubHouseModel", "fileOfRead", "()I"⟩, 57) := ⟨⟨by decide +kernel, by decide +kernel⟩, List.mem_of_getElem? (i := 1488) (by decide +kernel), List.mem_of_getElem? (i := 2064) (by decide +kernel), List.mem_of_getElem? (i := 2065) (by decide +kernel)⟩
theorem lw_p133 : lw_okq (⟨"StubHouseModel", "fileSegment", "(I)I"⟩, 57) := ⟨⟨by decide +kernel, by decide +kernel⟩, List.mem_of_getElem? (i := 1488) (by decide +kernel), List.mem_of_getElem? (i := 2068) (by decide +kernel), List.mem_of_getElem? (i := 2069) (by decide +kernel)⟩
theorem lw_p134 : lw_okq (⟨"StubHouseModel", "goWriting", "(III)V"⟩, 57) := ⟨⟨by decide +kernel, by decide +kernel⟩, List.mem_of_getElem? (i := 1488) (by decide +kernel), List.mem_of_getElem? (i := 2072) (by decide +kernel), List.mem_of_getElem? (i := 2073) (by decide +kernel)⟩
theorem lw_p135 : lw_okq (⟨"StubHouseModel", "beginWriting", "(III)V"⟩, 57) := ⟨⟨by decide +kernel, by decide +kernel⟩, List.mem_of_getElem? (i := 1488) (by decide +kernel), List.mem_of_getElem? (i := 2076) (by decide +kernel), List.mem_of_getElem? (i := 2077) (by decide +kernel)⟩
theorem lw_p136 : lw_okq (⟨"StubHouseModel", "put", "(II)V"⟩, 57) := ⟨⟨by decide +kernel, by decide +kernel⟩, List.mem_of_getElem? (i := 1488) (by decide +kernel), List.mem_of_getElem? (i := 2080) (by decide +kernel), List.mem_of_getElem? (i := 2081) (by decide +kernel)⟩
theorem lw_p137 : lw_okq (⟨"StubHouseModel", "outCheck", "(I)I"⟩, 57) := ⟨⟨by decide +kernel, by decide +kernel⟩, List.mem_of_getElem? (i := 1488) (by decide +kernel), List.mem_of_getElem? (i := 2084) (by decide +kernel), List.mem_of_getElem? (i := 2085) (by decide +kernel)⟩
theorem lw_p138 : lw_okq (⟨"StubHouseModel", "putPath", "(I)V"⟩, 57) := ⟨⟨by decide +kernel, by decide +kernel⟩, List.mem_of_getElem? (i := 1488) (by decide +kernel), List.mem_of_getElem? (i := 2088) (by decide +kernel), List.mem_of_getElem? (i := 2089) (by decide +kernel)⟩
theorem lw_p139 : lw_okq (⟨"StubHouseModel", "actDone", "(I)V"⟩, 57) := ⟨⟨by decide +kernel, by decide +kernel⟩, List.mem_of_getElem? (i := 1488) (by decide +kernel), List.mem_of_getElem? (i := 2092) (by decide +kernel), List.mem_of_getElem? (i := 2093) (by decide +kernel)⟩
theorem lw_p140 : lw_okq (⟨"StubHouseModel", "readDone", "()V"⟩, 57) := ⟨⟨by decide +kernel, by decide +kernel⟩, List.mem_of_getElem? (i := 1488) (by decide +kernel), List.mem_of_getElem? (i := 2096) (by decide +kernel), List.mem_of_getElem? (i := 2097) (by decide +kernel)⟩
theorem lw_p141 : lw_okq (⟨"StubHouseModel", "reclaimRead", "(I)V"⟩, 57) := ⟨⟨by decide +kernel, by decide +kernel⟩, List.mem_of_getElem? (i := 1488) (by decide +kernel), List.mem_of_getElem? (i := 2100) (by decide +kernel), List.mem_of_getElem? (i := 2101) (by decide +kernel)⟩
theorem lw_p142 : lw_okq (⟨"StubHouseModel", "waitsToBeRead", "(I)Z"⟩, 57) := ⟨⟨by decide +kernel, by decide +kernel⟩, List.mem_of_getElem? (i := 1488) (by decide +kernel), List.mem_of_getElem? (i := 2104) (by decide +kernel), List.mem_of_getElem? (i := 2105) (by decide +kernel)⟩
theorem lw_p143 : lw_okq (⟨"StubHouseModel", "writeDone", "()V"⟩, 57) := ⟨⟨by decide +kernel, by decide +kernel⟩, List.mem_of_getElem? (i := 1488) (by decide +kernel), List.mem_of_getElem? (i := 2108) (by decide +kernel), List.mem_of_getElem? (i := 2109) (by decide +kernel)⟩
def lw_privs_9 : List (MethodName × Nat) := [(⟨"StubHouseModel", "dropWaiting", "()V"⟩, 57), (⟨"StubHouseModel", "tapeFor", "(II)I"⟩, 57), (⟨"StubHouseModel", "willDo", "(III)Z"⟩, 57), (⟨"StubHouseModel", "hasCopyOn", "(II)Z"⟩, 57), (⟨"StubHouseModel", "fileOfRead", "()I"⟩, 57), (⟨"StubHouseModel", "fileSegment", "(I)I"⟩, 57), (⟨"StubHouseModel", "goWriting", "(III)V"⟩, 57), (⟨"StubHouseModel", "beginWriting", "(III)V"⟩, 57), (⟨"StubHouseModel", "put", "(II)V"⟩, 57), (⟨"StubHouseModel", "outCheck", "(I)I"⟩, 57), (⟨"StubHouseModel", "putPath", "(I)V"⟩, 57), (⟨"StubHouseModel", "actDone", "(I)V"⟩, 57), (⟨"StubHouseModel", "readDone", "()V"⟩, 57), (⟨"StubHouseModel", "reclaimRead", "(I)V"⟩, 57), (⟨"StubHouseModel", "waitsToBeRead", "(I)Z"⟩, 57), (⟨"StubHouseModel", "writeDone", "()V"⟩, 57)]
theorem lw_r9 : ∀ q ∈ lw_privs_9, lw_okq q := List.forall_mem_cons.mpr ⟨lw_p128, List.forall_mem_cons.mpr ⟨lw_p129, List.forall_mem_cons.mpr ⟨lw_p130, List.forall_mem_cons.mpr ⟨lw_p131, List.forall_mem_cons.mpr ⟨lw_p132, List.forall_mem_cons.mpr ⟨lw_p133, List.forall_mem_cons.mpr ⟨lw_p134, List.forall_mem_cons.mpr ⟨lw_p135, List.forall_mem_cons.mpr ⟨lw_p136, List.forall_mem_cons.mpr ⟨lw_p137, List.forall_mem_cons.mpr ⟨lw_p138, List.forall_mem_cons.mpr ⟨lw_p139, List.forall_mem_cons.mpr ⟨lw_p140, List.forall_mem_cons.mpr ⟨lw_p141, List.forall_mem_cons.mpr ⟨lw_p142, List.forall_mem_cons.mpr ⟨lw_p143, fun _ h => absurd h List.not_mem_nil⟩⟩⟩⟩⟩⟩⟩⟩⟩⟩⟩⟩⟩⟩⟩⟩
theorem lw_p144 : lw_okq (⟨"StubHouseModel", "migrate", "()V"⟩, 57) := ⟨⟨by decide +kernel, by decide +kernel⟩, List.mem_of_getElem? (i := 1488) (by decide +kernel), List.mem_of_getElem? (i := 2112) (by decide +kernel), List.mem_of_getElem? (i := 2113) (by decide +kernel)⟩
theorem lw_p145 : lw_okq (⟨"StubHouseModel", "inUse", "(I)I"⟩, 57) := ⟨⟨by decide +kernel, by decide +kernel⟩, List.mem_of_getElem? (i := 1488) (by decide +kernel), List.mem_of_getElem? (i := 2116) (by decide +kernel), List.mem_of_getElem? (i := 2117) (by decide +kernel)⟩
theorem lw_p146 : lw_okq (⟨"StubHouseModel", "nextByRank", "(II)I"⟩, 57) := ⟨⟨by decide +kernel, by decide +kernel⟩, List.mem_of_getElem? (i := 1488) (by decide +kernel), List.mem_of_getElem? (i := 2120) (by decide +kernel), List.mem_of_getElem? (i := 2121) (by decide +kernel)⟩
theorem lw_p147 : lw_okq (⟨"StubHouseModel", "rank", "(I)I"⟩, 57) := ⟨⟨by decide +kernel, by decide +kernel⟩, List.mem_of_getElem? (i := 1488) (by decide +kernel), List.mem_of_getElem? (i := 2124) (by decide +kernel), List.mem_of_getElem? (i := 2125) (by decide +kernel)⟩
theorem lw_p148 : lw_okq (⟨"StubHouseModel", "sink", "(I)V"⟩, 57) := ⟨⟨by decide +kernel, by decide +kernel⟩, List.mem_of_getElem? (i := 1488) (by decide +kernel), List.mem_of_getElem? (i := 2128) (by decide +kernel), List.mem_of_getElem? (i := 2129) (by decide +kernel)⟩
theorem lw_p149 : lw_okq (⟨"StubHouseModel", "releaseOne", "()V"⟩, 57) := ⟨⟨by decide +kernel, by decide +kernel⟩, List.mem_of_getElem? (i := 1488) (by decide +kernel), List.mem_of_getElem? (i := 2132) (by decide +kernel), List.mem_of_getElem? (i := 2133) (by decide +kernel)⟩
theorem lw_p150 : lw_okq (⟨"StubHouseModel", "heldBlocks", "()I"⟩, 57) := ⟨⟨by decide +kernel, by decide +kernel⟩, List.mem_of_getElem? (i := 1488) (by decide +kernel), List.mem_of_getElem? (i := 2145) (by decide +kernel), List.mem_of_getElem? (i := 2146) (by decide +kernel)⟩
theorem lw_p151 : lw_okq (⟨"StubHouseModel", "nodes", "()I"⟩, 57) := ⟨⟨by decide +kernel, by decide +kernel⟩, List.mem_of_getElem? (i := 1488) (by decide +kernel), List.mem_of_getElem? (i := 2149) (by decide +kernel), List.mem_of_getElem? (i := 2150) (by decide +kernel)⟩
def lw_privs_10 : List (MethodName × Nat) := [(⟨"StubHouseModel", "migrate", "()V"⟩, 57), (⟨"StubHouseModel", "inUse", "(I)I"⟩, 57), (⟨"StubHouseModel", "nextByRank", "(II)I"⟩, 57), (⟨"StubHouseModel", "rank", "(I)I"⟩, 57), (⟨"StubHouseModel", "sink", "(I)V"⟩, 57), (⟨"StubHouseModel", "releaseOne", "()V"⟩, 57), (⟨"StubHouseModel", "heldBlocks", "()I"⟩, 57), (⟨"StubHouseModel", "nodes", "()I"⟩, 57)]
theorem lw_r10 : ∀ q ∈ lw_privs_10, lw_okq q := List.forall_mem_cons.mpr ⟨lw_p144, List.forall_mem_cons.mpr ⟨lw_p145, List.forall_mem_cons.mpr ⟨lw_p146, List.forall_mem_cons.mpr ⟨lw_p147, List.forall_mem_cons.mpr ⟨lw_p148, List.forall_mem_cons.mpr ⟨lw_p149, List.forall_mem_cons.mpr ⟨lw_p150, List.forall_mem_cons.mpr ⟨lw_p151, fun _ h => absurd h List.not_mem_nil⟩⟩⟩⟩⟩⟩⟩⟩
def lw_privs : List (MethodName × Nat) := lw_privs_1 ++ (lw_privs_2 ++ (lw_privs_3 ++ (lw_privs_4 ++ (lw_privs_5 ++ (lw_privs_6 ++ (lw_privs_7 ++ (lw_privs_8 ++ (lw_privs_9 ++ (lw_privs_10)))))))))
def lw_tbl : List Cond := k2_sels lw_privs ++ tables_1
theorem lw_privs_ok : ∀ q ∈ lw_privs, lw_okq q := by
  show ∀ q ∈ lw_privs_1 ++ (lw_privs_2 ++ (lw_privs_3 ++ (lw_privs_4 ++ (lw_privs_5 ++ (lw_privs_6 ++ (lw_privs_7 ++ (lw_privs_8 ++ (lw_privs_9 ++ (lw_privs_10))))))))), lw_okq q
  exact List.forall_mem_append.mpr ⟨lw_r1, List.forall_mem_append.mpr ⟨lw_r2, List.forall_mem_append.mpr ⟨lw_r3, List.forall_mem_append.mpr ⟨lw_r4, List.forall_mem_append.mpr ⟨lw_r5, List.forall_mem_append.mpr ⟨lw_r6, List.forall_mem_append.mpr ⟨lw_r7, List.forall_mem_append.mpr ⟨lw_r8, List.forall_mem_append.mpr ⟨lw_r9, lw_r10⟩⟩⟩⟩⟩⟩⟩⟩⟩
-- ===== end of PART A; then your names; then what follows =====
end
section
def RX0 : String := "StubHouse$Changes"
def TX0 : u_T := fun k => match k with
  | 0 => ("StubHouse$Changes", "tree", "LStubHouse$Tree;", true)
  | 1 => ("StubHouse$Changes", "stores", "LStubHouse$Stores;", true)
  | 2 => ("StubHouse$Changes", "log", "LStubHouse$Log;", true)
  | 3 => ("StubHouse$Changes", "recalls", "[I", true)
  | _ => ("StubHouse$Changes", "recallCount", "I", false)
def tyX0 : Nat → FieldType := fun k => match k with
  | 0 => .object "StubHouse$Tree"
  | 1 => .object "StubHouse$Stores"
  | 2 => .object "StubHouse$Log"
  | 3 => .array .int
  | _ => .int
theorem nmX0 : ∀ a, a < 5 → ∀ b, b < 5 → a ≠ b → (TX0 a).2.1 ≠ (TX0 b).2.1 := by decide +kernel
theorem tyX0_ok : ∀ k, k < 5 → parseFieldDescriptor (TX0 k).2.2.1 = some (tyX0 k) := by decide +kernel
def RX1 : String := "StubHouse$Drive"
def TX1 : u_T := fun k => match k with
  | _ => ("", "", "", false)
def tyX1 : Nat → FieldType := fun k => match k with
  | _ => .int
theorem nmX1 : ∀ a, a < 0 → ∀ b, b < 0 → a ≠ b → (TX1 a).2.1 ≠ (TX1 b).2.1 := by decide +kernel
theorem tyX1_ok : ∀ k, k < 0 → parseFieldDescriptor (TX1 k).2.2.1 = some (tyX1 k) := by decide +kernel
def RX2 : String := "StubHouse$Library"
def TX2 : u_T := fun k => match k with
  | 0 => ("StubHouse$Library", "tree", "LStubHouse$Tree;", true)
  | 1 => ("StubHouse$Library", "tapes", "[LStubHouse$Tape;", true)
  | 2 => ("StubHouse$Library", "nextStamp", "I", false)
  | 3 => ("StubHouse$Library", "viewed", "Z", false)
  | 4 => ("StubHouse$Library", "viewCount", "I", false)
  | 5 => ("StubHouse$Library", "viewId", "[I", true)
  | 6 => ("StubHouse$Library", "viewTape", "[I", true)
  | 7 => ("StubHouse$Library", "viewIndex", "[I", true)
  | _ => ("StubHouse$Library", "order", "[I", true)
def tyX2 : Nat → FieldType := fun k => match k with
  | 0 => .object "StubHouse$Tree"
  | 1 => .array (.object "StubHouse$Tape")
  | 2 => .int
  | 3 => .boolean
  | 4 => .int
  | 5 => .array .int
  | 6 => .array .int
  | 7 => .array .int
  | _ => .array .int
theorem nmX2 : ∀ a, a < 9 → ∀ b, b < 9 → a ≠ b → (TX2 a).2.1 ≠ (TX2 b).2.1 := by decide +kernel
theorem tyX2_ok : ∀ k, k < 9 → parseFieldDescriptor (TX2 k).2.2.1 = some (tyX2 k) := by decide +kernel
def RX3 : String := "StubHouse$Log"
def TX3 : u_T := fun k => match k with
  | 0 => ("StubHouse$Log", "tree", "LStubHouse$Tree;", true)
  | 1 => ("StubHouse$Log", "stores", "LStubHouse$Stores;", true)
  | 2 => ("StubHouse$Log", "before", "[LStubHouse$Node;", true)
  | 3 => ("StubHouse$Log", "nodeOf", "[I", true)
  | 4 => ("StubHouse$Log", "lengthOf", "[I", true)
  | 5 => ("StubHouse$Log", "deleteOf", "[I", true)
  | 6 => ("StubHouse$Log", "count", "I", false)
  | 7 => ("StubHouse$Log", "bytes", "I", false)
  | 8 => ("StubHouse$Log", "deleteId", "[I", true)
  | 9 => ("StubHouse$Log", "deleteKept", "[Z", true)
  | _ => ("StubHouse$Log", "deletes", "I", false)
def tyX3 : Nat → FieldType := fun k => match k with
  | 0 => .object "StubHouse$Tree"
  | 1 => .object "StubHouse$Stores"
  | 2 => .array (.object "StubHouse$Node")
  | 3 => .array .int
  | 4 => .array .int
  | 5 => .array .int
  | 6 => .int
  | 7 => .int
  | 8 => .array .int
  | 9 => .array .boolean
  | _ => .int
theorem nmX3 : ∀ a, a < 11 → ∀ b, b < 11 → a ≠ b → (TX3 a).2.1 ≠ (TX3 b).2.1 := by decide +kernel
theorem tyX3_ok : ∀ k, k < 11 → parseFieldDescriptor (TX3 k).2.2.1 = some (tyX3 k) := by decide +kernel
def RX4 : String := "StubHouse$Migrator"
def TX4 : u_T := fun k => match k with
  | 0 => ("StubHouse$Migrator", "changes", "LStubHouse$Changes;", true)
  | 1 => ("StubHouse$Migrator", "writer", "LStubHouse$Writer;", true)
  | 2 => ("StubHouse$Migrator", "tree", "LStubHouse$Tree;", true)
  | 3 => ("StubHouse$Migrator", "stores", "LStubHouse$Stores;", true)
  | 4 => ("StubHouse$Migrator", "high", "[I", true)
  | 5 => ("StubHouse$Migrator", "low", "[I", true)
  | 6 => ("StubHouse$Migrator", "fastMode", "Z", false)
  | 7 => ("StubHouse$Migrator", "slowMode", "Z", false)
  | 8 => ("StubHouse$Migrator", "ranked", "[I", true)
  | 9 => ("StubHouse$Migrator", "ranks", "[I", true)
  | _ => ("StubHouse$Migrator", "rankedCount", "I", false)
def tyX4 : Nat → FieldType := fun k => match k with
  | 0 => .object "StubHouse$Changes"
  | 1 => .object "StubHouse$Writer"
  | 2 => .object "StubHouse$Tree"
  | 3 => .object "StubHouse$Stores"
  | 4 => .array .int
  | 5 => .array .int
  | 6 => .boolean
  | 7 => .boolean
  | 8 => .array .int
  | 9 => .array .int
  | _ => .int
theorem nmX4 : ∀ a, a < 11 → ∀ b, b < 11 → a ≠ b → (TX4 a).2.1 ≠ (TX4 b).2.1 := by decide +kernel
theorem tyX4_ok : ∀ k, k < 11 → parseFieldDescriptor (TX4 k).2.2.1 = some (tyX4 k) := by decide +kernel
def RX5 : String := "StubHouse$Node"
def TX5 : u_T := fun k => match k with
  | 0 => ("StubHouse$Node", "kind", "I", false)
  | 1 => ("StubHouse$Node", "over", "I", false)
  | 2 => ("StubHouse$Node", "title", "J", false)
  | 3 => ("StubHouse$Node", "id", "I", false)
  | 4 => ("StubHouse$Node", "size", "I", false)
  | 5 => ("StubHouse$Node", "version", "I", false)
  | 6 => ("StubHouse$Node", "touch", "I", false)
  | 7 => ("StubHouse$Node", "copyCount", "I", false)
  | 8 => ("StubHouse$Node", "copyTape", "[I", true)
  | 9 => ("StubHouse$Node", "copyPlace", "[I", true)
  | 10 => ("StubHouse$Node", "home", "[I", true)
  | 11 => ("StubHouse$Node", "inFast", "I", false)
  | _ => ("StubHouse$Node", "inSlow", "I", false)
def tyX5 : Nat → FieldType := fun k => match k with
  | 0 => .int
  | 1 => .int
  | 2 => .long
  | 3 => .int
  | 4 => .int
  | 5 => .int
  | 6 => .int
  | 7 => .int
  | 8 => .array .int
  | 9 => .array .int
  | 10 => .array .int
  | 11 => .int
  | _ => .int
theorem nmX5 : ∀ a, a < 13 → ∀ b, b < 13 → a ≠ b → (TX5 a).2.1 ≠ (TX5 b).2.1 := by decide +kernel
theorem tyX5_ok : ∀ k, k < 13 → parseFieldDescriptor (TX5 k).2.2.1 = some (tyX5 k) := by decide +kernel
def RX6 : String := "StubHouse$Reader"
def TX6 : u_T := fun k => match k with
  | 0 => ("StubHouse$Drive", "mounted", "I", false)
  | 1 => ("StubHouse$Drive", "head", "I", false)
  | 2 => ("StubHouse$Drive", "act", "I", false)
  | 3 => ("StubHouse$Drive", "left", "I", false)
  | 4 => ("StubHouse$Drive", "goal", "I", false)
  | 5 => ("StubHouse$Reader", "library", "LStubHouse$Library;", true)
  | 6 => ("StubHouse$Reader", "changes", "LStubHouse$Changes;", true)
  | 7 => ("StubHouse$Reader", "wants", "I", false)
  | 8 => ("StubHouse$Reader", "readNode", "I", false)
  | 9 => ("StubHouse$Reader", "readId", "I", false)
  | 10 => ("StubHouse$Reader", "readPlace", "I", false)
  | 11 => ("StubHouse$Reader", "readEnd", "I", false)
  | 12 => ("StubHouse$Reader", "reclaimed", "I", false)
  | 13 => ("StubHouse$Reader", "from", "I", false)
  | 14 => ("StubHouse$Reader", "parcel", "[B", true)
  | 15 => ("StubHouse$Reader", "parcelLength", "I", false)
  | _ => ("StubHouse$Reader", "parcelPlace", "I", false)
def tyX6 : Nat → FieldType := fun k => match k with
  | 0 => .int
  | 1 => .int
  | 2 => .int
  | 3 => .int
  | 4 => .int
  | 5 => .object "StubHouse$Library"
  | 6 => .object "StubHouse$Changes"
  | 7 => .int
  | 8 => .int
  | 9 => .int
  | 10 => .int
  | 11 => .int
  | 12 => .int
  | 13 => .int
  | 14 => .array .byte
  | 15 => .int
  | _ => .int
theorem nmX6 : ∀ a, a < 17 → ∀ b, b < 17 → a ≠ b → (TX6 a).2.1 ≠ (TX6 b).2.1 := by decide +kernel
theorem tyX6_ok : ∀ k, k < 17 → parseFieldDescriptor (TX6 k).2.2.1 = some (tyX6 k) := by decide +kernel
def RX7 : String := "StubHouse$Stores"
def TX7 : u_T := fun k => match k with
  | 0 => ("StubHouse$Stores", "bytes", "[B", true)
  | 1 => ("StubHouse$Stores", "state", "[I", true)
  | 2 => ("StubHouse$Stores", "free", "[I", true)
  | 3 => ("StubHouse$Stores", "used", "[I", true)
  | _ => ("StubHouse$Stores", "heldCount", "I", false)
def tyX7 : Nat → FieldType := fun k => match k with
  | 0 => .array .byte
  | 1 => .array .int
  | 2 => .array .int
  | 3 => .array .int
  | _ => .int
theorem nmX7 : ∀ a, a < 5 → ∀ b, b < 5 → a ≠ b → (TX7 a).2.1 ≠ (TX7 b).2.1 := by decide +kernel
theorem tyX7_ok : ∀ k, k < 5 → parseFieldDescriptor (TX7 k).2.2.1 = some (tyX7 k) := by decide +kernel
def RX8 : String := "StubHouse$Tape"
def TX8 : u_T := fun k => match k with
  | 0 => ("StubHouse$Tape", "bytes", "[B", true)
  | 1 => ("StubHouse$Tape", "length", "I", false)
  | 2 => ("StubHouse$Tape", "generation", "I", false)
  | 3 => ("StubHouse$Tape", "scannedTo", "I", false)
  | 4 => ("StubHouse$Tape", "hasGaps", "Z", false)
  | 5 => ("StubHouse$Tape", "found", "I", false)
  | 6 => ("StubHouse$Tape", "places", "[I", true)
  | 7 => ("StubHouse$Tape", "ids", "[I", true)
  | 8 => ("StubHouse$Tape", "stamps", "[I", true)
  | _ => ("StubHouse$Tape", "good", "[Z", true)
def tyX8 : Nat → FieldType := fun k => match k with
  | 0 => .array .byte
  | 1 => .int
  | 2 => .int
  | 3 => .int
  | 4 => .boolean
  | 5 => .int
  | 6 => .array .int
  | 7 => .array .int
  | 8 => .array .int
  | _ => .array .boolean
theorem nmX8 : ∀ a, a < 10 → ∀ b, b < 10 → a ≠ b → (TX8 a).2.1 ≠ (TX8 b).2.1 := by decide +kernel
theorem tyX8_ok : ∀ k, k < 10 → parseFieldDescriptor (TX8 k).2.2.1 = some (tyX8 k) := by decide +kernel
def RX9 : String := "StubHouse$Tree"
def TX9 : u_T := fun k => match k with
  | 0 => ("StubHouse$Tree", "nodes", "[LStubHouse$Node;", true)
  | 1 => ("StubHouse$Tree", "time", "I", false)
  | 2 => ("StubHouse$Tree", "nextId", "I", false)
  | 3 => ("StubHouse$Tree", "nextVersion", "I", false)
  | _ => ("StubHouse$Tree", "copiesWanted", "I", false)
def tyX9 : Nat → FieldType := fun k => match k with
  | 0 => .array (.object "StubHouse$Node")
  | 1 => .int
  | 2 => .int
  | 3 => .int
  | _ => .int
theorem nmX9 : ∀ a, a < 5 → ∀ b, b < 5 → a ≠ b → (TX9 a).2.1 ≠ (TX9 b).2.1 := by decide +kernel
theorem tyX9_ok : ∀ k, k < 5 → parseFieldDescriptor (TX9 k).2.2.1 = some (tyX9 k) := by decide +kernel
def RX10 : String := "StubHouse$Writer"
def TX10 : u_T := fun k => match k with
  | 0 => ("StubHouse$Drive", "mounted", "I", false)
  | 1 => ("StubHouse$Drive", "head", "I", false)
  | 2 => ("StubHouse$Drive", "act", "I", false)
  | 3 => ("StubHouse$Drive", "left", "I", false)
  | 4 => ("StubHouse$Drive", "goal", "I", false)
  | 5 => ("StubHouse$Writer", "library", "LStubHouse$Library;", true)
  | 6 => ("StubHouse$Writer", "changes", "LStubHouse$Changes;", true)
  | 7 => ("StubHouse$Writer", "reader", "LStubHouse$Reader;", true)
  | 8 => ("StubHouse$Writer", "queueNode", "[I", true)
  | 9 => ("StubHouse$Writer", "queueId", "[I", true)
  | 10 => ("StubHouse$Writer", "queued", "I", false)
  | 11 => ("StubHouse$Writer", "buffer", "[B", true)
  | 12 => ("StubHouse$Writer", "bufferLength", "I", false)
  | 13 => ("StubHouse$Writer", "task", "I", false)
  | 14 => ("StubHouse$Writer", "taskNode", "I", false)
  | 15 => ("StubHouse$Writer", "taskId", "I", false)
  | _ => ("StubHouse$Writer", "taskVersion", "I", false)
def tyX10 : Nat → FieldType := fun k => match k with
  | 0 => .int
  | 1 => .int
  | 2 => .int
  | 3 => .int
  | 4 => .int
  | 5 => .object "StubHouse$Library"
  | 6 => .object "StubHouse$Changes"
  | 7 => .object "StubHouse$Reader"
  | 8 => .array .int
  | 9 => .array .int
  | 10 => .int
  | 11 => .array .byte
  | 12 => .int
  | 13 => .int
  | 14 => .int
  | 15 => .int
  | _ => .int
theorem nmX10 : ∀ a, a < 17 → ∀ b, b < 17 → a ≠ b → (TX10 a).2.1 ≠ (TX10 b).2.1 := by decide +kernel
theorem tyX10_ok : ∀ k, k < 17 → parseFieldDescriptor (TX10 k).2.2.1 = some (tyX10 k) := by decide +kernel
def RX11 : String := "StubHouse"
def TX11 : u_T := fun k => match k with
  | 0 => ("StubHouse", "tree", "LStubHouse$Tree;", true)
  | 1 => ("StubHouse", "stores", "LStubHouse$Stores;", true)
  | 2 => ("StubHouse", "log", "LStubHouse$Log;", true)
  | 3 => ("StubHouse", "changes", "LStubHouse$Changes;", true)
  | 4 => ("StubHouse", "library", "LStubHouse$Library;", true)
  | 5 => ("StubHouse", "reader", "LStubHouse$Reader;", true)
  | 6 => ("StubHouse", "writer", "LStubHouse$Writer;", true)
  | 7 => ("StubHouse", "migrator", "LStubHouse$Migrator;", true)
  | 8 => ("StubHouse", "hand", "[B", true)
  | 9 => ("StubHouse", "handCount", "I", false)
  | _ => ("StubHouse", "lost", "Z", false)
def tyX11 : Nat → FieldType := fun k => match k with
  | 0 => .object "StubHouse$Tree"
  | 1 => .object "StubHouse$Stores"
  | 2 => .object "StubHouse$Log"
  | 3 => .object "StubHouse$Changes"
  | 4 => .object "StubHouse$Library"
  | 5 => .object "StubHouse$Reader"
  | 6 => .object "StubHouse$Writer"
  | 7 => .object "StubHouse$Migrator"
  | 8 => .array .byte
  | 9 => .int
  | _ => .boolean
theorem nmX11 : ∀ a, a < 11 → ∀ b, b < 11 → a ≠ b → (TX11 a).2.1 ≠ (TX11 b).2.1 := by decide +kernel
theorem tyX11_ok : ∀ k, k < 11 → parseFieldDescriptor (TX11 k).2.2.1 = some (tyX11 k) := by decide +kernel
def RX12 : String := "StubHouseModel"
def TX12 : u_T := fun k => match k with
  | 0 => ("StubHouseModel", "thrown", "I", false)
  | 1 => ("StubHouseModel", "now", "[I", true)
  | 2 => ("StubHouseModel", "names", "[J", true)
  | 3 => ("StubHouseModel", "touch", "[I", true)
  | 4 => ("StubHouseModel", "copied", "[I", true)
  | 5 => ("StubHouseModel", "copiedNames", "[J", true)
  | 6 => ("StubHouseModel", "recordBytes", "[I", true)
  | 7 => ("StubHouseModel", "records", "I", false)
  | 8 => ("StubHouseModel", "use", "[I", true)
  | 9 => ("StubHouseModel", "bytes", "[B", true)
  | 10 => ("StubHouseModel", "isKept", "[Z", true)
  | 11 => ("StubHouseModel", "time", "I", false)
  | 12 => ("StubHouseModel", "nextId", "I", false)
  | 13 => ("StubHouseModel", "nextStamp", "I", false)
  | 14 => ("StubHouseModel", "nextVersion", "I", false)
  | 15 => ("StubHouseModel", "isLost", "Z", false)
  | 16 => ("StubHouseModel", "hand", "[B", true)
  | 17 => ("StubHouseModel", "handSize", "I", false)
  | 18 => ("StubHouseModel", "wanted", "I", false)
  | 19 => ("StubHouseModel", "high", "[I", true)
  | 20 => ("StubHouseModel", "low", "[I", true)
  | 21 => ("StubHouseModel", "tapes", "[B", true)
  | 22 => ("StubHouseModel", "length", "[I", true)
  | 23 => ("StubHouseModel", "generation", "[I", true)
  | 24 => ("StubHouseModel", "segments", "[I", true)
  | 25 => ("StubHouseModel", "found", "[I", true)
  | 26 => ("StubHouseModel", "isScanned", "[Z", true)
  | 27 => ("StubHouseModel", "viewTape", "[I", true)
  | 28 => ("StubHouseModel", "viewSegment", "[I", true)
  | 29 => ("StubHouseModel", "views", "I", false)
  | 30 => ("StubHouseModel", "tapeIn", "[I", true)
  | 31 => ("StubHouseModel", "head", "[I", true)
  | 32 => ("StubHouseModel", "act", "[I", true)
  | 33 => ("StubHouseModel", "toGo", "[I", true)
  | 34 => ("StubHouseModel", "goal", "[I", true)
  | 35 => ("StubHouseModel", "recall", "[I", true)
  | 36 => ("StubHouseModel", "recalls", "I", false)
  | 37 => ("StubHouseModel", "waiting", "[I", true)
  | 38 => ("StubHouseModel", "waits", "I", false)
  | 39 => ("StubHouseModel", "reclaiming", "I", false)
  | 40 => ("StubHouseModel", "readId", "I", false)
  | 41 => ("StubHouseModel", "readPlace", "I", false)
  | 42 => ("StubHouseModel", "lastRead", "I", false)
  | 43 => ("StubHouseModel", "hasRead", "Z", false)
  | 44 => ("StubHouseModel", "readBytes", "[B", true)
  | 45 => ("StubHouseModel", "readSize", "I", false)
  | 46 => ("StubHouseModel", "readSort", "I", false)
  | 47 => ("StubHouseModel", "readOf", "I", false)
  | 48 => ("StubHouseModel", "readFrom", "I", false)
  | 49 => ("StubHouseModel", "writes", "I", false)
  | 50 => ("StubHouseModel", "out", "[B", true)
  | 51 => ("StubHouseModel", "outSize", "I", false)
  | 52 => ("StubHouseModel", "outSort", "I", false)
  | 53 => ("StubHouseModel", "outId", "I", false)
  | 54 => ("StubHouseModel", "outVersion", "I", false)
  | 55 => ("StubHouseModel", "wants", "Z", false)
  | _ => ("StubHouseModel", "isOn", "[Z", true)
def tyX12 : Nat → FieldType := fun k => match k with
  | 0 => .int
  | 1 => .array .int
  | 2 => .array .long
  | 3 => .array .int
  | 4 => .array .int
  | 5 => .array .long
  | 6 => .array .int
  | 7 => .int
  | 8 => .array .int
  | 9 => .array .byte
  | 10 => .array .boolean
  | 11 => .int
  | 12 => .int
  | 13 => .int
  | 14 => .int
  | 15 => .boolean
  | 16 => .array .byte
  | 17 => .int
  | 18 => .int
  | 19 => .array .int
  | 20 => .array .int
  | 21 => .array .byte
  | 22 => .array .int
  | 23 => .array .int
  | 24 => .array .int
  | 25 => .array .int
  | 26 => .array .boolean
  | 27 => .array .int
  | 28 => .array .int
  | 29 => .int
  | 30 => .array .int
  | 31 => .array .int
  | 32 => .array .int
  | 33 => .array .int
  | 34 => .array .int
  | 35 => .array .int
  | 36 => .int
  | 37 => .array .int
  | 38 => .int
  | 39 => .int
  | 40 => .int
  | 41 => .int
  | 42 => .int
  | 43 => .boolean
  | 44 => .array .byte
  | 45 => .int
  | 46 => .int
  | 47 => .int
  | 48 => .int
  | 49 => .int
  | 50 => .array .byte
  | 51 => .int
  | 52 => .int
  | 53 => .int
  | 54 => .int
  | 55 => .boolean
  | _ => .array .boolean
theorem nmX12 : ∀ a, a < 57 → ∀ b, b < 57 → a ≠ b → (TX12 a).2.1 ≠ (TX12 b).2.1 := by decide +kernel
theorem tyX12_ok : ∀ k, k < 57 → parseFieldDescriptor (TX12 k).2.2.1 = some (tyX12 k) := by decide +kernel
abbrev vwCl : List vw_C := [(RX0, TX0, 5), (RX2, TX2, 9), (RX3, TX3, 11), (RX4, TX4, 11), (RX5, TX5, 13), (RX6, TX6, 17), (RX7, TX7, 5), (RX8, TX8, 10), (RX9, TX9, 5), (RX10, TX10, 17), (RX11, TX11, 11), (RX12, TX12, 57)]
end
section
/-! An abstract run of bytecode, by computation. A number n codes a value: n % 8 its sort, n / 8 its payload.
0 int, 1 long, 2 null (payload 0) or the script (payload 1), 3 a cell of the world by its place, 4 an unknown int that has a name, 5 the same as a long, 6 any int, 7 a long (payload 0: any) -/
abbrev zxLV : Type := List (Nat × Nat)
abbrev zxCE : Type := Nat × Nat × List Nat × List (Nat × Nat)
abbrev zxHP : Type := Nat × List (List zxCE)
abbrev zxST : Type := List (Nat × Nat × Nat)
abbrev zxKT : Type := Nat → zxLV → List Nat → zxHP → zxST → Nat → Nat → Bool
abbrev zxHD : Type := Nat → Nat → Nat → List Nat → zxLV → List Nat → zxHP → zxST → Nat → Nat → zxKT → Bool
noncomputable def zx_N {α : Type} (d : α) (l : List α) : Nat → α := List.rec (motive := fun _ => Nat → α) (fun _ => d) (fun x _ ih i => Nat.rec (motive := fun _ => α) x (fun j _ => ih j) i) l
noncomputable def zx_F {β : Type} (n : Nat) (k : Nat → β) : β := Nat.rec (motive := fun _ => β) (k 0) (fun j _ => k (Nat.succ j)) n
noncomputable def zx_S {α β : Type} (l : List α) : Nat → α → (List α → β) → β := List.rec (motive := fun _ => Nat → α → (List α → β) → β) (fun _ _ k => k []) (fun x xs ih i v k => Nat.rec (motive := fun _ => β) (k (v :: xs)) (fun j _ => ih j v (fun r => k (x :: r))) i) l
noncomputable def zx_P {α β : Type} (l : List α) (v : α) : (List α → β) → β := List.rec (motive := fun _ => (List α → β) → β) (fun k => k [v]) (fun x _ ih k => ih (fun r => k (x :: r))) l
noncomputable def zx_A (l : List (Nat × Nat)) (d i : Nat) : Nat := List.rec (motive := fun _ => Nat) d (fun q _ ih => match q with | (a, v) => cond (Nat.beq a i) v ih) l
noncomputable def zx_Z {α : Type} (l : List α) : Nat := List.rec (motive := fun _ => Nat) 0 (fun _ _ ih => Nat.succ ih) l
def zx_i (c : Nat) : Bool := Nat.beq (c % 8) 0 || (Nat.beq (c % 8) 4 || Nat.beq (c % 8) 6)
def zx_2 (c : Nat) : Bool := Nat.beq (c % 8) 1 || (Nat.beq (c % 8) 5 || Nat.beq (c % 8) 7)
def zx_r (c : Nat) : Bool := Nat.beq (c % 8) 3 || Nat.beq c 10
def zx_drop (wide : Bool) (i : Nat) (q : Nat × Nat) : Bool := match q with | (a, v) => Nat.beq a i || ((Nat.beq (Nat.succ a) i && zx_2 v) || (wide && Nat.beq a (Nat.succ i)))
noncomputable def zx_L {β : Type} (wide : Bool) (i : Nat) (l : zxLV) : (zxLV → β) → β := List.rec (motive := fun _ => (zxLV → β) → β) (fun k => k []) (fun q _ ih k => cond (zx_drop wide i q) (ih k) (ih (fun r => k (q :: r)))) l
noncomputable def zx_G (h : zxHP) (k : Nat) : zxCE := match h with | (_, cs) => zx_N (0, 0, [], []) (zx_N [] cs (k / 32)) (k % 32)
noncomputable def zx_H {β : Type} (h : zxHP) (k : Nat) (E : zxCE) (kk : zxHP → β) : β := match h with | (n, cs) => zx_S (zx_N [] cs (k / 32)) (k % 32) E (fun ch => zx_S cs (k / 32) ch (fun cs2 => kk (n, cs2)))
/-- a new cell behind the last one -/
noncomputable def zx_B (h : zxHP) (E : zxCE) (kk : Nat → zxHP → Bool) : Bool := match h with | (n, cs) => zx_F (Nat.succ n) (fun n1 => cond (Nat.beq (n % 32) 0) (cond (Nat.beq (zx_Z cs) (n / 32)) (zx_P cs [E] (fun cs2 => kk n (n1, cs2))) false)
  (cond (Nat.beq (zx_Z (zx_N [] cs (n / 32))) (n % 32) && Nat.blt (n / 32) (zx_Z cs)) (zx_P (zx_N [] cs (n / 32)) E (fun ch => zx_S cs (n / 32) ch (fun cs2 => kk n (n1, cs2)))) false))
/-- what is known of a named number: its least and its greatest, moved by 2 ^ 31 -/
noncomputable def zx_V {β : Type} (st : zxST) (id : Nat) (kk : Nat → Nat → β) : β := List.rec (motive := fun _ => β) (kk 0 4294967295) (fun q _ ih => match q with | (a, lo, hi) => cond (Nat.beq a id) (kk lo hi) ih) st
def zx_u (p : Nat) : Nat := (p + 2147483648) % 4294967296
noncomputable def zx_M {β : Type} (c : Nat) (st : zxST) (kk : Nat → β) : β := cond (Nat.beq (c % 8) 4) (zx_V st (c / 8) (fun lo hi => cond (Nat.beq lo hi && Nat.blt (c / 8) 300) (zx_F (8 * zx_u lo) kk) (kk c))) (kk c)
noncomputable def zx_R (n : Nat) (f : Nat → Bool) : Bool := Nat.rec (motive := fun _ => Bool) true (fun j ih => and (f j) ih) n
noncomputable def zx_C (c : Nat) (st : zxST) (kk : Nat → zxST → Bool) : Bool := cond (Nat.beq (c % 8) 4) (zx_F (c / 8) (fun id => zx_V st id (fun lo hi => cond (Nat.ble (hi - lo) 64 && (Nat.ble lo hi && Nat.blt id 300)) (zx_R (Nat.succ (hi - lo)) (fun j => zx_F (lo + j) (fun v => zx_F (8 * zx_u v) (fun cv => kk cv ((id, v, v) :: st))))) (kk c st)))) (kk c st)
noncomputable def zx_X (st : zxST) (id b : Nat) (kk : Nat → zxST → Bool) : Bool := zx_V st id (fun lo hi => and (cond (Nat.blt lo b) (zx_F (cond (Nat.blt hi b) hi (b - 1)) (fun h1 => kk 0 ((id, lo, h1) :: st))) true) (and (cond (Nat.ble lo b && Nat.ble b hi) (kk 1 ((id, b, b) :: st)) true) (cond (Nat.blt b hi) (zx_F (cond (Nat.blt b lo) lo (Nat.succ b)) (fun l1 => kk 2 ((id, l1, hi) :: st))) true)))
def zx_ord (p q : Nat) : Nat := cond (Nat.blt p q) 0 (cond (Nat.beq p q) 1 2)
/-- two named numbers, which is the greater: a name of its own for that -/
noncomputable def zx_Y (st : zxST) (i j : Nat) (kk : Nat → zxST → Bool) : Bool := cond (Nat.beq i j) (kk 1 st) (cond (Nat.blt i 16 && Nat.blt j 16) (zx_F (300 + 16 * i + j) (fun id => zx_V st id (fun lo hi => and (cond (Nat.ble lo 0) (kk 0 ((id, 0, 0) :: st)) true) (and (cond (Nat.ble lo 1 && Nat.ble 1 hi) (kk 1 ((id, 1, 1) :: st)) true) (cond (Nat.ble 2 hi) (kk 2 ((id, 2, 2) :: st)) true))))) false)
noncomputable def zx_K (x y : Nat) (st : zxST) (kk : Nat → zxST → Bool) : Bool := zx_M x st (fun x => zx_M y st (fun y =>
  cond (Nat.beq (x % 8) 0) (cond (Nat.beq (y % 8) 0) (kk (zx_ord (zx_u (x / 8)) (zx_u (y / 8))) st) (cond (Nat.beq (y % 8) 4 && Nat.blt (y / 8) 300) (zx_F (y / 8) (fun id => zx_F (zx_u (x / 8)) (fun b => zx_X st id b (fun o s => kk (2 - o) s)))) false))
    (cond (Nat.beq (x % 8) 4 && Nat.blt (x / 8) 300) (cond (Nat.beq (y % 8) 0) (zx_F (x / 8) (fun id => zx_F (zx_u (y / 8)) (fun b => zx_X st id b kk))) (cond (Nat.beq (y % 8) 4) (zx_F (x / 8) (fun i => zx_F (y / 8) (fun j => zx_Y st i j kk))) false)) false)))
def zx_T (b o : Nat) : Bool := Nat.beq (b / cond (Nat.beq o 0) 1 (cond (Nat.beq o 1) 2 4) % 2) 1
-- one instruction each
def zh_push : zxHD := fun a _ nxt _ lv stk hp st u w k => k nxt lv (a :: stk) hp st u w
noncomputable def zh_iload : zxHD := fun a _ nxt _ lv stk hp st u w k => zx_F (zx_A lv 74 a) (fun c => cond (zx_i c) (k nxt lv (c :: stk) hp st u w) false)
noncomputable def zh_lload : zxHD := fun a _ nxt _ lv stk hp st u w k => zx_F (zx_A lv 74 a) (fun c => cond (zx_2 c) (k nxt lv (c :: stk) hp st u w) false)
noncomputable def zh_aload : zxHD := fun a _ nxt _ lv stk hp st u w k => zx_F (zx_A lv 74 a) (fun c => cond (zx_r c) (k nxt lv (c :: stk) hp st u w) false)
noncomputable def zh_istore : zxHD := fun a b nxt _ lv stk hp st u w k => match stk with | c :: r => cond (zx_i c && Nat.blt a b) (zx_L false a lv (fun l => k nxt ((a, c) :: l) r hp st u w)) false | _ => false
noncomputable def zh_lstore : zxHD := fun a b nxt _ lv stk hp st u w k => match stk with | c :: r => cond (zx_2 c && Nat.blt (Nat.succ a) b) (zx_L true a lv (fun l => k nxt ((a, c) :: l) r hp st u w)) false | _ => false
noncomputable def zh_astore : zxHD := fun a b nxt _ lv stk hp st u w k => match stk with | c :: r => cond (zx_r c && Nat.blt a b) (zx_L false a lv (fun l => k nxt ((a, c) :: l) r hp st u w)) false | _ => false
/-- iinc: a the place, b the number of locals, d = [the number that is added, as an int's payload] -/
noncomputable def zh_iinc : zxHD := fun a b nxt d lv stk hp st u w k => match d with | [n] => zx_F (zx_A lv 74 a) (fun c => cond (zx_i c && Nat.blt a b) (zx_F (cond (Nat.beq (c % 8) 0) (8 * ((c / 8 + n) % 4294967296)) 6) (fun v => zx_L false a lv (fun l => k nxt ((a, v) :: l) stk hp st u w))) false) | _ => false
noncomputable def zh_iadd : zxHD := fun _ _ nxt _ lv stk hp st u w k => match stk with | y :: x :: r => zx_C y st (fun y s1 => zx_C x s1 (fun x s2 => cond (zx_i x && zx_i y) (zx_F (cond (Nat.beq x 0) y (cond (Nat.beq y 0) x (cond (Nat.beq (x % 8) 0 && Nat.beq (y % 8) 0) (8 * ((x / 8 + y / 8) % 4294967296)) 6))) (fun v => k nxt lv (v :: r) hp s2 u w)) false)) | _ => false
noncomputable def zh_isub : zxHD := fun _ _ nxt _ lv stk hp st u w k => match stk with | y :: x :: r => zx_C y st (fun y s1 => zx_C x s1 (fun x s2 => cond (zx_i x && zx_i y) (zx_F (cond (Nat.beq (x % 8) 0 && Nat.beq (y % 8) 0) (8 * ((x / 8 + (4294967296 - y / 8 % 4294967296)) % 4294967296)) 6) (fun v => k nxt lv (v :: r) hp s2 u w)) false)) | _ => false
noncomputable def zh_imul : zxHD := fun _ _ nxt _ lv stk hp st u w k => match stk with | y :: x :: r => zx_C y st (fun y s1 => zx_C x s1 (fun x s2 => cond (zx_i x && zx_i y) (zx_F (cond (Nat.beq (x % 8) 0 && Nat.beq (y % 8) 0) (8 * ((x / 8 * (y / 8)) % 4294967296)) 6) (fun v => k nxt lv (v :: r) hp s2 u w)) false)) | _ => false
/-- iand with 31 alone: each of the 32 answers -/
noncomputable def zh_iand : zxHD := fun _ _ nxt _ lv stk hp st u w k => match stk with | y :: x :: r => cond (Nat.beq y 248 && zx_i x) (zx_R 32 (fun j => zx_F (8 * j) (fun v => k nxt lv (v :: r) hp st u w))) false | _ => false
noncomputable def zh_i2b : zxHD := fun _ _ nxt _ lv stk hp st u w k => match stk with | c :: r => cond (zx_i c) (zx_M c st (fun c => zx_F (cond (Nat.beq (c % 8) 0) (8 * cond (Nat.blt (c / 8 % 256) 128) (c / 8 % 256) (c / 8 % 256 + 4294967040)) 6) (fun v => k nxt lv (v :: r) hp st u w))) false | _ => false
noncomputable def zh_i2l : zxHD := fun _ _ nxt _ lv stk hp st u w k => match stk with | c :: r => cond (zx_i c) (zx_M c st (fun c => zx_F (cond (Nat.beq (c % 8) 0) (8 * cond (Nat.blt (c / 8 % 4294967296) 2147483648) (c / 8 % 4294967296) (c / 8 % 4294967296 + 18446744069414584320) + 1) (cond (Nat.beq (c % 8) 4) (Nat.succ c) 7)) (fun v => k nxt lv (v :: r) hp st u w))) false | _ => false
noncomputable def zh_l2i : zxHD := fun _ _ nxt _ lv stk hp st u w k => match stk with | c :: r => cond (zx_2 c) (zx_F (cond (Nat.beq (c % 8) 1) (8 * (c / 8 % 4294967296)) 6) (fun v => k nxt lv (v :: r) hp st u w)) false | _ => false
noncomputable def zh_lshl : zxHD := fun _ _ nxt _ lv stk hp st u w k => match stk with | y :: x :: r => cond (zx_2 x && zx_i y) (zx_F (cond (Nat.beq (x % 8) 5 && (Nat.beq y 256 && Nat.blt (x / 8) 100)) (8 * (100 + x / 8) + 7) 7) (fun v => k nxt lv (v :: r) hp st u w)) false | _ => false
noncomputable def zh_lushr : zxHD := fun _ _ nxt _ lv stk hp st u w k => match stk with | y :: x :: r => cond (zx_2 x && zx_i y) (k nxt lv (7 :: r) hp st u w) false | _ => false
noncomputable def zh_land : zxHD := fun _ _ nxt _ lv stk hp st u w k => match stk with | y :: x :: r => cond (zx_2 x && zx_2 y) (zx_F (cond (Nat.beq (x % 8) 5 && (Nat.beq y 34359738361 && Nat.blt (x / 8) 100)) (8 * (200 + x / 8) + 7) 7) (fun v => k nxt lv (v :: r) hp st u w)) false | _ => false
noncomputable def zh_lor : zxHD := fun _ _ nxt _ lv stk hp st u w k => match stk with | y :: x :: r => cond (zx_2 x && zx_2 y) (zx_F (cond (Nat.beq (x % 8) 7 && (Nat.beq (y % 8) 7 && (Nat.ble 100 (x / 8) && (Nat.blt (x / 8) 108 && (Nat.ble 200 (y / 8) && Nat.blt (y / 8) 208))))) (8 * (1000 + 8 * (x / 8 - 100) + (y / 8 - 200)) + 7) 7) (fun v => k nxt lv (v :: r) hp st u w)) false | _ => false
def zx_w (p : Nat) : Nat := (p + 9223372036854775808) % 18446744073709551616
def zx_sm (p : Nat) : Bool := Nat.blt p 2147483648 || (Nat.ble 18446744071562067968 p && Nat.blt p 18446744073709551616)
def zx_lb (p : Nat) : Nat := (p + 2147483648) % 18446744073709551616
noncomputable def zh_lcmp : zxHD := fun _ _ nxt _ lv stk hp st u w k => match stk with
  | y :: x :: r => cond (Nat.beq (x % 8) 1) (cond (Nat.beq (y % 8) 1) (zx_F (8 * cond (Nat.blt (zx_w (x / 8)) (zx_w (y / 8))) 4294967295 (cond (Nat.beq (zx_w (x / 8)) (zx_w (y / 8))) 0 1)) (fun v => k nxt lv (v :: r) hp st u w)) (cond (Nat.beq (y % 8) 5 && (Nat.blt (y / 8) 300 && Nat.blt (x / 8) 2147483648)) (zx_F (y / 8) (fun id => zx_F (x / 8 + 2147483648) (fun b => zx_X st id b (fun o s => zx_F (8 * cond (Nat.beq (2 - o) 0) 4294967295 (2 - o - 1)) (fun v => k nxt lv (v :: r) hp s u w))))) false))
      (cond (Nat.beq (x % 8) 5 && Nat.blt (x / 8) 300) (cond (Nat.beq (y % 8) 1 && zx_sm (y / 8)) (zx_F (x / 8) (fun id => zx_F (zx_lb (y / 8)) (fun b => zx_X st id b (fun o s => zx_F (8 * cond (Nat.beq o 0) 4294967295 (o - 1)) (fun v => k nxt lv (v :: r) hp s u w)))))
        (cond (Nat.beq (y % 8) 5) (zx_F (x / 8) (fun i => zx_F (y / 8) (fun j => zx_Y st i j (fun o s => zx_F (8 * cond (Nat.beq o 0) 4294967295 (o - 1)) (fun v => k nxt lv (v :: r) hp s u w))))) false)) false)
  | _ => false
noncomputable def zh_icmp : zxHD := fun a b nxt _ lv stk hp st u w k => match stk with | y :: x :: r => cond (zx_i x && zx_i y) (zx_K x y st (fun o s => cond (zx_T b o) (k a lv r hp s u w) (k nxt lv r hp s u w))) false | _ => false
noncomputable def zh_if : zxHD := fun a b nxt _ lv stk hp st u w k => match stk with | x :: r => cond (zx_i x) (zx_K x 0 st (fun o s => cond (zx_T b o) (k a lv r hp s u w) (k nxt lv r hp s u w))) false | _ => false
def zh_goto : zxHD := fun a _ _ _ lv stk hp st u w k => k a lv stk hp st u w
noncomputable def zx_W (d : List Nat) (dflt id : Nat) (kk : Nat → zxST → Bool) : Nat → zxST → Bool := List.rec (motive := fun _ => Nat → zxST → Bool) (fun _ s => kk dflt s) (fun t _ ih b s => zx_X s id b (fun o s2 => cond (Nat.beq o 0) (kk dflt s2) (cond (Nat.beq o 1) (kk t s2) (zx_F (Nat.succ b) (fun b2 => ih b2 s2))))) d
/-- tableswitch: a the default's place, b its least number moved by 2 ^ 31, d the places -/
noncomputable def zh_switch : zxHD := fun a b _ d lv stk hp st u w k => match stk with
  | c :: r => zx_M c st (fun c => cond (Nat.beq (c % 8) 0) (zx_F (cond (Nat.blt (zx_u (c / 8)) b) a (zx_N a d (zx_u (c / 8) - b))) (fun t => k t lv r hp st u w)) (cond (Nat.beq (c % 8) 4 && Nat.blt (c / 8) 300) (zx_F (c / 8) (fun id => zx_W d a id (fun t s => k t lv r hp s u w) b st)) false))
  | _ => false
noncomputable def zh_dup : zxHD := fun _ _ nxt _ lv stk hp st u w k => match stk with | c :: r => cond (zx_2 c) false (k nxt lv (c :: c :: r) hp st u w) | _ => false
noncomputable def zh_pop : zxHD := fun _ _ nxt _ lv stk hp st u w k => match stk with | c :: r => cond (zx_2 c) false (k nxt lv r hp st u w) | _ => false
noncomputable def zh_dupx1 : zxHD := fun _ _ nxt _ lv stk hp st u w k => match stk with | c :: e :: r => cond (zx_2 c || zx_2 e) false (k nxt lv (c :: e :: c :: r) hp st u w) | _ => false
noncomputable def zh_alen : zxHD := fun _ _ nxt _ lv stk hp st u w k => match stk with | c :: r => cond (Nat.beq (c % 8) 3) (match zx_G hp (c / 8) with | (t, n, _, _) => cond (Nat.blt 0 t && Nat.blt t 16) (zx_F (8 * n) (fun v => k nxt lv (v :: r) hp st u w)) false) false | _ => false
noncomputable def zx_mem (t : Nat) (d : List Nat) : Bool := List.rec (motive := fun _ => Bool) false (fun x _ ih => cond (Nat.beq x t) true ih) d
/-- getfield: a the pool's number, b the slot, d the sorts of objects that are meant -/
noncomputable def zh_get : zxHD := fun _ b nxt d lv stk hp st u w k => match stk with | c :: r => cond (Nat.beq (c % 8) 3) (match zx_G hp (c / 8) with | (t, _, fs, _) => cond (zx_mem t d) (zx_F (zx_N 74 fs b) (fun v => cond (Nat.beq v 74) false (k nxt lv (v :: r) hp st u w))) false) false | _ => false
/-- what may be put into a field: 0 an int, 1 a boolean, 2 a long, 3 a reference -/
def zx_fit (ty v : Nat) : Bool := cond (Nat.beq ty 0) (zx_i v) (cond (Nat.beq ty 1) (Nat.beq v 0 || Nat.beq v 8) (cond (Nat.beq ty 2) (zx_2 v) (Nat.beq (v % 8) 3)))
/-- putfield: a the pool's number, b the slot and 64 times the field's sort, d the sorts of objects -/
noncomputable def zh_put : zxHD := fun _ b nxt d lv stk hp st u w k => match stk with
  | v :: c :: r => cond (Nat.beq (c % 8) 3) (zx_F (c / 8) (fun q => match zx_G hp q with | (t, n, fs, es) => cond (zx_mem t d) (zx_M v st (fun v => cond (zx_fit (b / 64 % 4) v && Nat.blt (b % 64) (zx_Z fs)) (zx_S fs (b % 64) v (fun fs2 => zx_H hp q (t, n, fs2, es) (fun hp2 => k nxt lv r hp2 st u w))) false)) false)) false
  | _ => false
/-- a load from an array of the sort a -/
noncomputable def zh_ald : zxHD := fun a _ nxt _ lv stk hp st u w k => match stk with
  | i :: c :: r => zx_C i st (fun i s => cond (Nat.beq (i % 8) 0 && Nat.beq (c % 8) 3) (match zx_G hp (c / 8) with | (t, n, fs, es) => cond (Nat.beq t a && Nat.blt (i / 8) n) (zx_F (zx_A es (zx_N 74 fs 0) (i / 8)) (fun v => k nxt lv (v :: r) hp s u w)) false) false)
  | _ => false
/-- what a store makes of a number in an array of the sort a -/
def zx_nar (a v : Nat) : Nat := cond (Nat.beq a 2) (cond (Nat.beq (v % 8) 0) (8 * cond (Nat.blt (v / 8 % 256) 128) (v / 8 % 256) (v / 8 % 256 + 4294967040)) 6) (cond (Nat.beq a 3) (cond (Nat.beq (v % 8) 0) (8 * (v / 8 % 2)) 6) v)
def zx_el (a v : Nat) : Bool := cond (Nat.blt a 4) (zx_i v) (zx_2 v)
/-- a store into an array of the sort a (ints, longs) -/
noncomputable def zh_ast : zxHD := fun a _ nxt _ lv stk hp st u w k => match stk with
  | v :: i :: c :: r => zx_C i st (fun i s => cond (Nat.beq (i % 8) 0 && (Nat.beq (c % 8) 3 && zx_el a v)) (zx_F (c / 8) (fun q => match zx_G hp q with | (t, n, fs, es) => cond (Nat.beq t a && Nat.blt (i / 8) n) (zx_F (i / 8) (fun j => zx_F (zx_nar a v) (fun v => cond (Nat.beq (zx_A es (zx_N 74 fs 0) j) v) (k nxt lv r hp s u w) (zx_H hp q (t, n, fs, (j, v) :: es) (fun hp2 => k nxt lv r hp2 s u w))))) false)) false)
  | _ => false
/-- a store into an array of references of the sort a: b the sort of the object -/
noncomputable def zh_astq : zxHD := fun a b nxt _ lv stk hp st u w k => match stk with
  | v :: i :: c :: r => zx_C i st (fun i s => cond (Nat.beq (i % 8) 0 && (Nat.beq (c % 8) 3 && Nat.beq (v % 8) 3)) (match zx_G hp (v / 8) with | (tv, _, _, _) => cond (Nat.beq tv b) (zx_F (c / 8) (fun q => match zx_G hp q with | (t, n, fs, es) => cond (Nat.beq t a && Nat.blt (i / 8) n) (zx_F (i / 8) (fun j => zx_H hp q (t, n, fs, (j, v) :: es) (fun hp2 => k nxt lv r hp2 s u w))) false)) false) false)
  | _ => false
/-- new: b the class's number, d the fields as they begin -/
noncomputable def zh_new : zxHD := fun _ b nxt d lv stk hp st u w k => zx_F (16 + b) (fun t => zx_B hp (t, 0, d, []) (fun q hp2 => zx_F (8 * q + 3) (fun v => zx_F (Nat.succ u) (fun u2 => zx_F (w + zx_Z d) (fun w2 => k nxt lv (v :: stk) hp2 st u2 w2)))))
/-- newarray, anewarray: b the sort, d = [what it begins with] -/
noncomputable def zh_newa : zxHD := fun _ b nxt d lv stk hp st u w k => match stk with
  | c :: r => cond (Nat.beq (c % 8) 0 && Nat.blt (c / 8) 1000000) (zx_F (c / 8) (fun n => zx_B hp (b, n, d, []) (fun q hp2 => zx_F (8 * q + 3) (fun v => zx_F (Nat.succ u) (fun u2 => zx_F (w + n) (fun w2 => k nxt lv (v :: r) hp2 st u2 w2)))))) false
  | _ => false
/-- arraycopy of a whole int array into another of its length -/
noncomputable def zh_copy : zxHD := fun _ _ nxt _ lv stk hp st u w k => match stk with
  | n :: dp :: c :: sp :: e :: r => cond (Nat.beq dp 0 && (Nat.beq sp 0 && (Nat.beq (n % 8) 0 && (Nat.beq (c % 8) 3 && (Nat.beq (e % 8) 3 && Nat.ble (zx_Z r) 0))))) (zx_F (c / 8) (fun q => match zx_G hp q with | (t, m, _, _) => match zx_G hp (e / 8) with | (t2, m2, fs2, es2) => cond (Nat.beq t 1 && (Nat.beq t2 1 && (Nat.beq m (n / 8) && Nat.beq m2 (n / 8)))) (zx_H hp q (t, m, fs2, es2) (fun hp2 => k nxt lv r hp2 st u w)) false)) false
  | _ => false
end
section
theorem zx_F_eq {β : Type} (n : Nat) (k : Nat → β) : zx_F n k = k n := by cases n <;> rfl
theorem zx_N_eq {α : Type} (d : α) : ∀ (l : List α) (i : Nat), zx_N d l i = (l[i]?).getD d
  | [], i => by simp [zx_N]
  | x :: l, 0 => rfl
  | x :: l, i + 1 => by
    have := zx_N_eq d l i
    simp only [List.getElem?_cons_succ]
    rw [← this]; rfl
theorem zx_S_eq {α β : Type} : ∀ (l : List α) (i : Nat) (v : α) (k : List α → β), zx_S l i v k = k (l.set i v)
  | [], i, v, k => by simp [zx_S]
  | x :: l, 0, v, k => rfl
  | x :: l, i + 1, v, k => (zx_S_eq l i v (fun r => k (x :: r))).trans rfl
theorem zx_P_eq {α β : Type} : ∀ (l : List α) (v : α) (k : List α → β), zx_P l v k = k (l ++ [v])
  | [], v, k => rfl
  | x :: l, v, k => (zx_P_eq l v (fun r => k (x :: r))).trans rfl
theorem zx_Z_eq {α : Type} : ∀ (l : List α), zx_Z l = l.length
  | [] => rfl
  | x :: l => by rw [List.length_cons, ← zx_Z_eq l]; rfl
theorem zx_A_cons (q : Nat × Nat) (l : List (Nat × Nat)) (d i : Nat) : zx_A (q :: l) d i = if q.1 = i then q.2 else zx_A l d i := by
  show cond (Nat.beq q.1 i) q.2 (zx_A l d i) = _
  by_cases h : q.1 = i
  · rw [if_pos h]; subst h; rw [Nat.beq_refl]; rfl
  · rw [if_neg h]
    have : Nat.beq q.1 i = false := by
      cases hb : Nat.beq q.1 i with
      | false => rfl
      | true => exact absurd (Nat.eq_of_beq_eq_true hb) h
    rw [this]; rfl
theorem zx_L_eq {β : Type} (wd : Bool) (i : Nat) : ∀ (l : zxLV) (k : zxLV → β), zx_L wd i l k = k (l.filter (fun q => !(zx_drop wd i q)))
  | [], k => rfl
  | q :: l, k => by
    show cond (zx_drop wd i q) (zx_L wd i l k) (zx_L wd i l (fun r => k (q :: r))) = _
    rw [zx_L_eq wd i l, zx_L_eq wd i l, List.filter_cons]
    cases zx_drop wd i q <;> rfl
theorem zx_beq {a b : Nat} : Nat.beq a b = true ↔ a = b := ⟨Nat.eq_of_beq_eq_true, fun h => by subst h; exact Nat.beq_refl a⟩
theorem zx_blt {a b : Nat} : Nat.blt a b = true ↔ a < b := ⟨fun h => Nat.le_of_ble_eq_true h, fun h => Nat.ble_eq_true_of_le h⟩
theorem zx_ble {a b : Nat} : Nat.ble a b = true ↔ a ≤ b := ⟨Nat.le_of_ble_eq_true, Nat.ble_eq_true_of_le⟩
theorem zx_nbeq {a b : Nat} : Nat.beq a b = false ↔ ¬ a = b := by
  rw [← zx_beq, Bool.not_eq_true]
theorem zx_nblt {a b : Nat} : Nat.blt a b = false ↔ ¬ a < b := by
  rw [← zx_blt, Bool.not_eq_true]
theorem zx_nble {a b : Nat} : Nat.ble a b = false ↔ ¬ a ≤ b := by
  rw [← zx_ble, Bool.not_eq_true]
theorem zx_c1 {c a : Bool} (h : cond c a false = true) : c = true ∧ a = true := by
  cases c with
  | false => cases h
  | true => exact ⟨rfl, h⟩
theorem zx_c0 {c a : Bool} (h : cond c false a = true) : c = false ∧ a = true := by
  cases c with
  | false => exact ⟨rfl, h⟩
  | true => cases h
theorem zx_ct {c a b : Bool} (h : cond c a b = true) : (c = true ∧ a = true) ∨ (c = false ∧ b = true) := by
  cases c with
  | false => exact Or.inr ⟨rfl, h⟩
  | true => exact Or.inl ⟨rfl, h⟩
theorem zx_an {a b : Bool} (h : and a b = true) : a = true ∧ b = true := by cases a <;> cases b <;> simp_all
theorem zx_R_ok {f : Nat → Bool} : ∀ {n : Nat}, zx_R n f = true → ∀ j, j < n → f j = true
  | 0, _, j, hj => absurd hj (Nat.not_lt_zero j)
  | n + 1, h, j, hj => by
    obtain ⟨h1, h2⟩ := zx_an h
    rcases Nat.lt_succ_iff_lt_or_eq.mp hj with h3 | h3
    · exact zx_R_ok h2 j h3
    · subst h3; exact h1
-- ints, moved by 2 ^ 31
def zr_b (x : Int32) : Nat := (x.toInt + 2147483648).toNat
theorem zr_b_toInt (x : Int32) : (zr_b x : Int) = x.toInt + 2147483648 := by
  have h1 := Int32.le_toInt x
  unfold zr_b
  omega
theorem zr_b_lt (x : Int32) : zr_b x < 4294967296 := by
  have h1 := zr_b_toInt x
  have h2 := Int32.toInt_lt x
  omega
theorem zr_nI_toInt (p : Nat) : (nI p).toInt = (p : Int).bmod 4294967296 := by
  show (Int32.ofNat p).toInt = _
  rw [Int32.toInt_ofNat']
theorem zr_b_nI (p : Nat) : zr_b (nI p) = zx_u p := by
  have h1 := zr_b_toInt (nI p)
  rw [zr_nI_toInt] at h1
  unfold zx_u
  rw [Int.bmod_def] at h1
  omega
theorem zr_b_inj {x y : Int32} (h : zr_b x = zr_b y) : x = y := by
  have h1 := zr_b_toInt x
  have h2 := zr_b_toInt y
  apply Int32.toInt_inj.mp
  omega
theorem zr_u_u (p : Nat) : zx_u (zx_u p) = p % 4294967296 := by unfold zx_u; omega
theorem zr_nI_u (x : Int32) : nI (zx_u (zr_b x)) = x := by
  apply zr_b_inj
  rw [zr_b_nI, zr_u_u]
  exact Nat.mod_eq_of_lt (zr_b_lt x)
theorem zr_lt {x y : Int32} : x < y ↔ zr_b x < zr_b y := by
  have h1 := zr_b_toInt x
  have h2 := zr_b_toInt y
  rw [Int32.lt_iff_toInt_lt]
  omega
theorem zr_le {x y : Int32} : x ≤ y ↔ zr_b x ≤ zr_b y := by
  have h1 := zr_b_toInt x
  have h2 := zr_b_toInt y
  rw [Int32.le_iff_toInt_le]
  omega
theorem zr_eq {x y : Int32} : x = y ↔ zr_b x = zr_b y := ⟨fun h => by rw [h], zr_b_inj⟩
theorem zr_nI_mod (p : Nat) : nI (p % 4294967296) = nI p := by
  apply zr_b_inj
  rw [zr_b_nI, zr_b_nI]
  unfold zx_u; omega
theorem zx_ord_0 {p q : Nat} : zx_ord p q = 0 ↔ p < q := by
  unfold zx_ord
  by_cases h : p < q
  · simp [zx_blt.mpr h, h]
  · rw [zx_nblt.mpr h]
    by_cases h2 : p = q
    · simp [zx_beq.mpr h2, h]
    · simp [zx_nbeq.mpr h2, h]
theorem zx_ord_1 {p q : Nat} : zx_ord p q = 1 ↔ p = q := by
  unfold zx_ord
  by_cases h : p < q
  · simp [zx_blt.mpr h]; omega
  · rw [zx_nblt.mpr h]
    by_cases h2 : p = q
    · simp [zx_beq.mpr h2, h2]
    · simp [zx_nbeq.mpr h2, h2]
theorem zx_ord_2 {p q : Nat} : zx_ord p q = 2 ↔ q < p := by
  unfold zx_ord
  by_cases h : p < q
  · simp [zx_blt.mpr h]; omega
  · rw [zx_nblt.mpr h]
    by_cases h2 : p = q
    · simp [zx_beq.mpr h2, h2]
    · simp [zx_nbeq.mpr h2]; omega
theorem zx_ord_le (p q : Nat) : zx_ord p q ≤ 2 := by
  unfold zx_ord
  cases Nat.blt p q <;> cases Nat.beq p q <;> simp
theorem zx_ord_sw (p q : Nat) : 2 - zx_ord p q = zx_ord q p := by
  rcases Nat.lt_trichotomy p q with h | h | h
  · rw [zx_ord_0.mpr h, zx_ord_2.mpr h]
  · rw [zx_ord_1.mpr h, zx_ord_1.mpr h.symm]
  · rw [zx_ord_2.mpr h, zx_ord_0.mpr h]
theorem zn_byte (p : Nat) : (nI p).toInt8.toInt32 = nI (cond (Nat.blt (p % 256) 128) (p % 256) (p % 256 + 4294967040)) := by
  apply Int32.toInt_inj.mp
  rw [zr_nI_toInt, Int8.toInt_toInt32, Int32.toInt_toInt8, zr_nI_toInt]
  by_cases h : p % 256 < 128
  · rw [zx_blt.mpr h]; simp only [cond_true, Int.bmod_def]; omega
  · rw [zx_nblt.mpr h]; simp only [cond_false, Int.bmod_def]; omega
theorem zn_lN_toInt (p : Nat) : (lN p).toInt = (p : Int).bmod 18446744073709551616 := by
  show (Int64.ofNat p).toInt = _
  rw [Int64.toInt_ofNat']
theorem zn_i2l (p : Nat) : (nI p).toInt64 = lN (cond (Nat.blt (p % 4294967296) 2147483648) (p % 4294967296) (p % 4294967296 + 18446744069414584320)) := by
  apply Int64.toInt_inj.mp
  rw [zn_lN_toInt, Int32.toInt_toInt64, zr_nI_toInt]
  by_cases h : p % 4294967296 < 2147483648
  · rw [zx_blt.mpr h]; simp only [cond_true, Int.bmod_def]; omega
  · rw [zx_nblt.mpr h]; simp only [cond_false, Int.bmod_def]; omega
end
section
/-- the script's cell, and the cells that were there as the frame began -/
abbrev zxBB : Type := Nat × List Nat
-- names: a byte is a sign; a name is signs and behind them 0
def zr_sign (c : Nat) : Bool := (Nat.ble 97 c && Nat.ble c 122) || (Nat.ble 48 c && Nat.ble c 57)
def zr_nmN (n : Nat) : Bool := !(Nat.beq n 0) && (List.range 8).all (fun i => Nat.beq (n / 256 ^ i) 0 || zr_sign (n / 256 ^ i % 256))
def zr_nm (x : Int64) : Bool := zr_nmN x.toBitVec.toNat
def zr_hi (σ : Nat → Int32) (i : Nat) : Int64 := (σ i).toInt64 <<< ((nI 32).toInt64 &&& 63)
def zr_lo (σ : Nat → Int32) (j : Nat) : Int64 := (σ j).toInt64 &&& lN 4294967295
def zr_l (σ : Nat → Int32) (n : Nat) : Int64 := if n < 200 then zr_hi σ (n - 100) else if n < 1000 then zr_lo σ (n - 200) else zr_hi σ ((n - 1000) / 8) ||| zr_lo σ ((n - 1000) % 8)
/-- the int that a name stands for -/
def zr_d (σ : Nat → Int32) (id : Nat) : Int32 := if id < 100 then σ id else if zr_nm (zr_l σ (1000 + (id - 100))) = true then 1 else 0
/-- the number that the bounds speak of -/
def zr_n (σ : Nat → Int32) (id : Nat) : Nat := if id < 300 then zr_b (zr_d σ id) else zx_ord (zr_b (σ ((id - 300) / 16))) (zr_b (σ ((id - 300) % 16)))
def zr (σ : Nat → Int32) (b : zxBB) (as : List Nat) (n : Nat) (v : Value) : Prop :=
  if n % 8 = 0 then v = .int (nI (n / 8)) else if n % 8 = 1 then v = .long (lN (n / 8)) else if n % 8 = 2 then (n = 2 ∧ v = .null) ∨ (n = 10 ∧ v = .ref b.1)
  else if n % 8 = 3 then ∃ q, as[n / 8]? = some q ∧ v = .ref q else if n % 8 = 4 then v = .int (zr_d σ (n / 8)) else if n % 8 = 5 then v = .long (zr_d σ (n / 8)).toInt64
  else if n % 8 = 6 then ∃ x, v = .int x else ∃ x, v = .long x ∧ (n / 8 ≠ 0 → x = zr_l σ (n / 8))
def zr_in (σ : Nat → Int32) (st : zxST) : Prop := ∀ q ∈ st, q.2.1 ≤ zr_n σ q.1 ∧ zr_n σ q.1 ≤ q.2.2
section ZR
variable {σ : Nat → Int32} {b : zxBB} {as : List Nat} {n : Nat} {v : Value}
theorem zr_0 (h : n % 8 = 0) : zr σ b as n v ↔ v = .int (nI (n / 8)) := by unfold zr; rw [if_pos h]
theorem zr_1 (h : n % 8 = 1) : zr σ b as n v ↔ v = .long (lN (n / 8)) := by unfold zr; rw [if_neg (by omega), if_pos h]
theorem zr_2' (h : n % 8 = 2) : zr σ b as n v ↔ ((n = 2 ∧ v = .null) ∨ (n = 10 ∧ v = .ref b.1)) := by unfold zr; rw [if_neg (by omega), if_neg (by omega), if_pos h]
theorem zr_3 (h : n % 8 = 3) : zr σ b as n v ↔ ∃ q, as[n / 8]? = some q ∧ v = .ref q := by unfold zr; rw [if_neg (by omega), if_neg (by omega), if_neg (by omega), if_pos h]
theorem zr_4 (h : n % 8 = 4) : zr σ b as n v ↔ v = .int (zr_d σ (n / 8)) := by unfold zr; rw [if_neg (by omega), if_neg (by omega), if_neg (by omega), if_neg (by omega), if_pos h]
theorem zr_5 (h : n % 8 = 5) : zr σ b as n v ↔ v = .long (zr_d σ (n / 8)).toInt64 := by unfold zr; rw [if_neg (by omega), if_neg (by omega), if_neg (by omega), if_neg (by omega), if_neg (by omega), if_pos h]
theorem zr_6 (h : n % 8 = 6) : zr σ b as n v ↔ ∃ x, v = .int x := by unfold zr; rw [if_neg (by omega), if_neg (by omega), if_neg (by omega), if_neg (by omega), if_neg (by omega), if_neg (by omega), if_pos h]
theorem zr_7 (h : n % 8 = 7) : zr σ b as n v ↔ ∃ x, v = .long x ∧ (n / 8 ≠ 0 → x = zr_l σ (n / 8)) := by unfold zr; rw [if_neg (by omega), if_neg (by omega), if_neg (by omega), if_neg (by omega), if_neg (by omega), if_neg (by omega), if_neg (by omega)]
theorem zx_i_iff (n : Nat) : zx_i n = true ↔ n % 8 = 0 ∨ n % 8 = 4 ∨ n % 8 = 6 := by unfold zx_i; simp only [Bool.or_eq_true, zx_beq]
theorem zx_2_iff (n : Nat) : zx_2 n = true ↔ n % 8 = 1 ∨ n % 8 = 5 ∨ n % 8 = 7 := by unfold zx_2; simp only [Bool.or_eq_true, zx_beq]
theorem zx_r_iff (n : Nat) : zx_r n = true ↔ n % 8 = 3 ∨ n = 10 := by unfold zx_r; simp only [Bool.or_eq_true, zx_beq]
theorem zr_int (hi : zx_i n = true) (h : zr σ b as n v) : ∃ x, v = .int x := by
  rcases (zx_i_iff n).mp hi with e | e | e
  · exact ⟨_, (zr_0 e).mp h⟩
  · exact ⟨_, (zr_4 e).mp h⟩
  · exact (zr_6 e).mp h
theorem zr_long (hi : zx_2 n = true) (h : zr σ b as n v) : ∃ x, v = .long x := by
  rcases (zx_2_iff n).mp hi with e | e | e
  · exact ⟨_, (zr_1 e).mp h⟩
  · exact ⟨_, (zr_5 e).mp h⟩
  · obtain ⟨x, h1, -⟩ := (zr_7 e).mp h; exact ⟨x, h1⟩
theorem zr_ref (hi : zx_r n = true) (h : zr σ b as n v) : ∃ q, v = .ref q := by
  rcases (zx_r_iff n).mp hi with e | e
  · obtain ⟨q, -, h1⟩ := (zr_3 e).mp h; exact ⟨q, h1⟩
  · subst e
    rcases (zr_2' rfl).mp h with ⟨h1, -⟩ | ⟨-, h1⟩
    · exact absurd h1 (by decide)
    · exact ⟨b.1, h1⟩
theorem zr_cat (h : zr σ b as n v) : (v.category == 2) = zx_2 n := by
  have h8 : n % 8 < 8 := Nat.mod_lt _ (by decide)
  by_cases h2 : zx_2 n = true
  · obtain ⟨x, rfl⟩ := zr_long h2 h
    rw [h2]; rfl
  · have h3 : zx_2 n = false := Bool.not_eq_true _ ▸ h2
    rw [h3]
    have hq : ¬ (n % 8 = 1 ∨ n % 8 = 5 ∨ n % 8 = 7) := fun q => h2 ((zx_2_iff n).mpr q)
    by_cases hi : zx_i n = true
    · obtain ⟨x, rfl⟩ := zr_int hi h; rfl
    · have hj : ¬ (n % 8 = 0 ∨ n % 8 = 4 ∨ n % 8 = 6) := fun q => hi ((zx_i_iff n).mpr q)
      by_cases h4 : n % 8 = 3
      · obtain ⟨q, -, rfl⟩ := (zr_3 h4).mp h; rfl
      · have h5 : n % 8 = 2 := by omega
        rcases (zr_2' h5).mp h with ⟨-, rfl⟩ | ⟨-, rfl⟩ <;> rfl
theorem zr_cat1 (hi : zx_2 n = false) (h : zr σ b as n v) : v.category = 1 := by
  have h1 := zr_cat h
  rw [hi] at h1
  rcases lv_cat v with h2 | h2
  · exact h2
  · rw [h2] at h1; cases h1
theorem zr_mono (e : List Nat) (h : zr σ b as n v) : zr σ b (as ++ e) n v := by
  by_cases h3 : n % 8 = 3
  · obtain ⟨q, h1, h2⟩ := (zr_3 h3).mp h
    refine (zr_3 h3).mpr ⟨q, ?_, h2⟩
    rw [List.getElem?_append_left (List.getElem?_eq_some_iff.mp h1).1]; exact h1
  · unfold zr at h ⊢
    rw [if_neg h3] at h ⊢
    exact h
end ZR
theorem zr_n_lt (σ : Nat → Int32) (id : Nat) : zr_n σ id ≤ 4294967295 := by
  unfold zr_n
  split
  · have := zr_b_lt (zr_d σ id); omega
  · have := zx_ord_le (zr_b (σ ((id - 300) / 16))) (zr_b (σ ((id - 300) % 16))); omega
theorem zr_n_s {σ : Nat → Int32} {id : Nat} (h : id < 300) : zr_n σ id = zr_b (zr_d σ id) := by unfold zr_n; rw [if_pos h]
theorem zr_in_cons {σ : Nat → Int32} {st : zxST} {id lo hi : Nat} (h : zr_in σ st) (h1 : lo ≤ zr_n σ id) (h2 : zr_n σ id ≤ hi) : zr_in σ ((id, lo, hi) :: st) := by
  intro q hq
  rcases List.mem_cons.mp hq with e | e
  · subst e; exact ⟨h1, h2⟩
  · exact h q e
theorem zx_V_ok {β : Type} (id : Nat) (kk : Nat → Nat → β) : ∀ st : zxST, ∃ lo hi, zx_V st id kk = kk lo hi ∧ ∀ σ, zr_in σ st → lo ≤ zr_n σ id ∧ zr_n σ id ≤ hi
  | [] => ⟨0, 4294967295, rfl, fun σ _ => ⟨Nat.zero_le _, zr_n_lt σ id⟩⟩
  | (a, lo, hi) :: st => by
    have e : zx_V ((a, lo, hi) :: st) id kk = cond (Nat.beq a id) (kk lo hi) (zx_V st id kk) := rfl
    by_cases h : a = id
    · refine ⟨lo, hi, ?_, fun σ hσ => ?_⟩
      · rw [e, zx_beq.mpr h]; rfl
      · subst h; exact hσ _ List.mem_cons_self
    · obtain ⟨lo2, hi2, e2, h2⟩ := zx_V_ok id kk st
      refine ⟨lo2, hi2, ?_, fun σ hσ => h2 σ (fun q hq => hσ q (List.mem_cons_of_mem _ hq))⟩
      rw [e, zx_nbeq.mpr h]; exact e2
theorem zx_M_ok {β : Type} (c : Nat) (st : zxST) (kk : Nat → β) : ∃ c', zx_M c st kk = kk c' ∧ (zx_i c = true → zx_i c' = true) ∧ (zx_i c = false → c' = c) ∧ ∀ σ b as v, zr_in σ st → zr σ b as c v → zr σ b as c' v := by
  unfold zx_M
  cases h4 : Nat.beq (c % 8) 4 with
  | false => exact ⟨c, rfl, id, fun _ => rfl, fun _ _ _ _ _ h => h⟩
  | true =>
    have h4' := zx_beq.mp h4
    obtain ⟨lo, hi, e, hb⟩ := zx_V_ok (c / 8) (fun lo hi => cond (Nat.beq lo hi && Nat.blt (c / 8) 300) (zx_F (8 * zx_u lo) kk) (kk c)) st
    show ∃ c', zx_V st (c / 8) (fun lo hi => cond (Nat.beq lo hi && Nat.blt (c / 8) 300) (zx_F (8 * zx_u lo) kk) (kk c)) = kk c' ∧ _
    rw [e]
    cases hl : (Nat.beq lo hi && Nat.blt (c / 8) 300) with
    | false => exact ⟨c, rfl, id, fun _ => rfl, fun _ _ _ _ _ h => h⟩
    | true =>
      obtain ⟨h1, h2⟩ := zx_an hl
      have h1 := zx_beq.mp h1
      have h2 := zx_blt.mp h2
      simp only [cond_true, zx_F_eq]
      refine ⟨8 * zx_u lo, rfl, fun _ => (zx_i_iff _).mpr (Or.inl (by omega)), fun hf => ?_, fun σ b as v hσ hv => ?_⟩
      · exact absurd ((zx_i_iff c).mpr (Or.inr (Or.inl h4'))) (by rw [hf]; decide)
      · have hv := (zr_4 h4').mp hv
        have g1 := (hb σ hσ).1
        have g2 := (hb σ hσ).2
        have g3 : zr_n σ (c / 8) = lo := Nat.le_antisymm (h1 ▸ g2) g1
        rw [zr_n_s h2] at g3
        refine (zr_0 (by omega)).mpr ?_
        rw [hv, Nat.mul_div_cancel_left _ (by decide), ← g3, zr_nI_u]
theorem zx_C_ok {c : Nat} {st : zxST} {kk : Nat → zxST → Bool} (h : zx_C c st kk = true) {σ : Nat → Int32} (hσ : zr_in σ st) : ∃ c' st', kk c' st' = true ∧ zr_in σ st' ∧ ∀ b as v, zr σ b as c v → zr σ b as c' v := by
  unfold zx_C at h
  rcases zx_ct h with ⟨h4, h⟩ | ⟨-, h⟩
  · have h4' := zx_beq.mp h4
    rw [zx_F_eq] at h
    obtain ⟨lo, hi, e, hb⟩ := zx_V_ok (c / 8) (fun lo hi => cond (Nat.ble (hi - lo) 64 && (Nat.ble lo hi && Nat.blt (c / 8) 300)) (zx_R (Nat.succ (hi - lo)) (fun j => zx_F (lo + j) (fun v => zx_F (8 * zx_u v) (fun cv => kk cv ((c / 8, v, v) :: st))))) (kk c st)) st
    rw [e] at h
    rcases zx_ct h with ⟨h5, h⟩ | ⟨-, h⟩
    · obtain ⟨-, h5⟩ := zx_an h5
      obtain ⟨h5, h6⟩ := zx_an h5
      have h6 := zx_blt.mp h6
      obtain ⟨g1, g2⟩ := hb σ hσ
      have h := zx_R_ok h (zr_n σ (c / 8) - lo) (by omega)
      rw [zx_F_eq, zx_F_eq] at h
      have e3 : lo + (zr_n σ (c / 8) - lo) = zr_n σ (c / 8) := by omega
      rw [e3] at h
      refine ⟨_, _, h, zr_in_cons hσ (Nat.le_refl _) (Nat.le_refl _), fun b as v hv => ?_⟩
      have hv := (zr_4 h4').mp hv
      refine (zr_0 (by omega)).mpr ?_
      rw [hv, Nat.mul_div_cancel_left _ (by decide), zr_n_s h6, zr_nI_u]
    · exact ⟨c, st, h, hσ, fun _ _ _ h => h⟩
  · exact ⟨c, st, h, hσ, fun _ _ _ h => h⟩
theorem zx_X_ok {st : zxST} {id b : Nat} {kk : Nat → zxST → Bool} (h : zx_X st id b kk = true) {σ : Nat → Int32} (hσ : zr_in σ st) : ∃ st', kk (zx_ord (zr_n σ id) b) st' = true ∧ zr_in σ st' := by
  unfold zx_X at h
  obtain ⟨lo, hi, e, hb⟩ := zx_V_ok id (fun lo hi => and (cond (Nat.blt lo b) (zx_F (cond (Nat.blt hi b) hi (b - 1)) (fun h1 => kk 0 ((id, lo, h1) :: st))) true) (and (cond (Nat.ble lo b && Nat.ble b hi) (kk 1 ((id, b, b) :: st)) true) (cond (Nat.blt b hi) (zx_F (cond (Nat.blt b lo) lo (Nat.succ b)) (fun l1 => kk 2 ((id, l1, hi) :: st))) true))) st
  rw [e] at h
  obtain ⟨g1, g2⟩ := hb σ hσ
  obtain ⟨h1, h⟩ := zx_an h
  obtain ⟨h2, h3⟩ := zx_an h
  rcases Nat.lt_trichotomy (zr_n σ id) b with c1 | c1 | c1
  · rw [zx_blt.mpr (by omega : lo < b)] at h1
    have h1 : zx_F (cond (Nat.blt hi b) hi (b - 1)) (fun h1 => kk 0 ((id, lo, h1) :: st)) = true := h1
    rw [zx_F_eq] at h1
    rw [zx_ord_0.mpr c1]
    refine ⟨_, h1, zr_in_cons hσ g1 ?_⟩
    cases Nat.blt hi b
    · show _ ≤ b - 1; omega
    · exact g2
  · rw [zx_ble.mpr (by omega : lo ≤ b), zx_ble.mpr (by omega : b ≤ hi)] at h2
    rw [zx_ord_1.mpr c1]
    exact ⟨_, h2, zr_in_cons hσ (by omega) (by omega)⟩
  · rw [zx_blt.mpr (by omega : b < hi)] at h3
    have h3 : zx_F (cond (Nat.blt b lo) lo (Nat.succ b)) (fun l1 => kk 2 ((id, l1, hi) :: st)) = true := h3
    rw [zx_F_eq] at h3
    rw [zx_ord_2.mpr c1]
    refine ⟨_, h3, zr_in_cons hσ ?_ g2⟩
    cases Nat.blt b lo
    · show b + 1 ≤ _; omega
    · exact g1
theorem zx_Y_ok {st : zxST} {i j : Nat} {kk : Nat → zxST → Bool} (h : zx_Y st i j kk = true) {σ : Nat → Int32} (hσ : zr_in σ st) : ∃ st', kk (zx_ord (zr_b (zr_d σ i)) (zr_b (zr_d σ j))) st' = true ∧ zr_in σ st' := by
  unfold zx_Y at h
  rcases zx_ct h with ⟨h1, h2⟩ | ⟨-, h⟩
  · have h1 := zx_beq.mp h1
    rw [h1, zx_ord_1.mpr rfl]
    exact ⟨st, h2, hσ⟩
  · obtain ⟨h1, h⟩ := zx_c1 h
    obtain ⟨h1, h2⟩ := zx_an h1
    have h1 := zx_blt.mp h1
    have h2 := zx_blt.mp h2
    rw [zx_F_eq] at h
    obtain ⟨lo, hi, e, hb⟩ := zx_V_ok (300 + 16 * i + j) (fun lo hi => and (cond (Nat.ble lo 0) (kk 0 ((300 + 16 * i + j, 0, 0) :: st)) true) (and (cond (Nat.ble lo 1 && Nat.ble 1 hi) (kk 1 ((300 + 16 * i + j, 1, 1) :: st)) true) (cond (Nat.ble 2 hi) (kk 2 ((300 + 16 * i + j, 2, 2) :: st)) true))) st
    rw [e] at h
    obtain ⟨g1, g2⟩ := hb σ hσ
    have en : zr_n σ (300 + 16 * i + j) = zx_ord (zr_b (zr_d σ i)) (zr_b (zr_d σ j)) := by
      unfold zr_n
      rw [if_neg (by omega), show (300 + 16 * i + j - 300) / 16 = i by omega, show (300 + 16 * i + j - 300) % 16 = j by omega]
      unfold zr_d
      rw [if_pos (by omega), if_pos (by omega)]
    rw [en] at g1 g2
    have hle := zx_ord_le (zr_b (zr_d σ i)) (zr_b (zr_d σ j))
    obtain ⟨k0, h⟩ := zx_an h
    obtain ⟨k1, k2⟩ := zx_an h
    generalize zx_ord (zr_b (zr_d σ i)) (zr_b (zr_d σ j)) = o at en g1 g2 hle ⊢
    rcases (show o = 0 ∨ o = 1 ∨ o = 2 by omega) with c1 | c1 | c1
    · subst c1
      rw [zx_ble.mpr (by omega : lo ≤ 0)] at k0
      exact ⟨_, k0, zr_in_cons hσ (by omega) (by omega)⟩
    · subst c1
      rw [zx_ble.mpr (by omega : lo ≤ 1), zx_ble.mpr (by omega : 1 ≤ hi)] at k1
      exact ⟨_, k1, zr_in_cons hσ (by omega) (by omega)⟩
    · subst c1
      rw [zx_ble.mpr (by omega : 2 ≤ hi)] at k2
      exact ⟨_, k2, zr_in_cons hσ (by omega) (by omega)⟩
theorem zx_K_ok {x y : Nat} {st : zxST} {kk : Nat → zxST → Bool} (h : zx_K x y st kk = true) {σ : Nat → Int32} {b : zxBB} {as : List Nat} {vx vy : Int32} (hσ : zr_in σ st) (hx : zr σ b as x (.int vx)) (hy : zr σ b as y (.int vy)) : ∃ st', kk (zx_ord (zr_b vx) (zr_b vy)) st' = true ∧ zr_in σ st' := by
  unfold zx_K at h
  obtain ⟨x', e1, -, -, m1⟩ := zx_M_ok x st (fun x => zx_M y st (fun y =>
  cond (Nat.beq (x % 8) 0) (cond (Nat.beq (y % 8) 0) (kk (zx_ord (zx_u (x / 8)) (zx_u (y / 8))) st) (cond (Nat.beq (y % 8) 4 && Nat.blt (y / 8) 300) (zx_F (y / 8) (fun id => zx_F (zx_u (x / 8)) (fun b => zx_X st id b (fun o s => kk (2 - o) s)))) false))
    (cond (Nat.beq (x % 8) 4 && Nat.blt (x / 8) 300) (cond (Nat.beq (y % 8) 0) (zx_F (x / 8) (fun id => zx_F (zx_u (y / 8)) (fun b => zx_X st id b kk))) (cond (Nat.beq (y % 8) 4) (zx_F (x / 8) (fun i => zx_F (y / 8) (fun j => zx_Y st i j kk))) false)) false)))
  rw [e1] at h
  have hx := m1 σ b as _ hσ hx
  obtain ⟨y', e2, -, -, m2⟩ := zx_M_ok y st (fun y =>
  cond (Nat.beq (x' % 8) 0) (cond (Nat.beq (y % 8) 0) (kk (zx_ord (zx_u (x' / 8)) (zx_u (y / 8))) st) (cond (Nat.beq (y % 8) 4 && Nat.blt (y / 8) 300) (zx_F (y / 8) (fun id => zx_F (zx_u (x' / 8)) (fun b => zx_X st id b (fun o s => kk (2 - o) s)))) false))
    (cond (Nat.beq (x' % 8) 4 && Nat.blt (x' / 8) 300) (cond (Nat.beq (y % 8) 0) (zx_F (x' / 8) (fun id => zx_F (zx_u (y / 8)) (fun b => zx_X st id b kk))) (cond (Nat.beq (y % 8) 4) (zx_F (x' / 8) (fun i => zx_F (y / 8) (fun j => zx_Y st i j kk))) false)) false))
  rw [e2] at h
  have hy := m2 σ b as _ hσ hy
  rcases zx_ct h with ⟨a1, h⟩ | ⟨-, h⟩
  · have a1 := zx_beq.mp a1
    have hx : vx = nI (x' / 8) := Value.int.inj ((zr_0 a1).mp hx)
    rcases zx_ct h with ⟨a2, h⟩ | ⟨-, h⟩
    · have a2 := zx_beq.mp a2
      have hy : vy = nI (y' / 8) := Value.int.inj ((zr_0 a2).mp hy)
      rw [hx, hy, zr_b_nI, zr_b_nI]
      exact ⟨st, h, hσ⟩
    · obtain ⟨a2, h⟩ := zx_c1 h
      obtain ⟨a2, a3⟩ := zx_an a2
      have a2 := zx_beq.mp a2
      have a3 := zx_blt.mp a3
      have hy : vy = zr_d σ (y' / 8) := Value.int.inj ((zr_4 a2).mp hy)
      rw [zx_F_eq, zx_F_eq] at h
      obtain ⟨st', h, hσ'⟩ := zx_X_ok h hσ
      rw [zx_ord_sw, zr_n_s a3, ← zr_b_nI, ← hx, ← hy] at h
      exact ⟨st', h, hσ'⟩
  · obtain ⟨a1, h⟩ := zx_c1 h
    obtain ⟨a1, a3⟩ := zx_an a1
    have a1 := zx_beq.mp a1
    have a3 := zx_blt.mp a3
    have hx : vx = zr_d σ (x' / 8) := Value.int.inj ((zr_4 a1).mp hx)
    rcases zx_ct h with ⟨a2, h⟩ | ⟨-, h⟩
    · have a2 := zx_beq.mp a2
      have hy : vy = nI (y' / 8) := Value.int.inj ((zr_0 a2).mp hy)
      rw [zx_F_eq, zx_F_eq] at h
      obtain ⟨st', h, hσ'⟩ := zx_X_ok h hσ
      rw [zr_n_s a3, ← zr_b_nI, ← hx, ← hy] at h
      exact ⟨st', h, hσ'⟩
    · obtain ⟨a2, h⟩ := zx_c1 h
      have a2 := zx_beq.mp a2
      have hy : vy = zr_d σ (y' / 8) := Value.int.inj ((zr_4 a2).mp hy)
      rw [zx_F_eq, zx_F_eq] at h
      obtain ⟨st', h, hσ'⟩ := zx_Y_ok h hσ
      rw [← hx, ← hy] at h
      exact ⟨st', h, hσ'⟩
end
section
def zr_2 {α β : Type} (R : α → β → Prop) : List α → List β → Prop
  | [], [] => True
  | a :: l, b :: l' => R a b ∧ zr_2 R l l'
  | _, _ => False
section Z2
variable {α β : Type} {R R' : α → β → Prop}
theorem zr_2_get : ∀ {l : List α} {l' : List β} {i : Nat} {a : α}, zr_2 R l l' → l[i]? = some a → ∃ b, l'[i]? = some b ∧ R a b
  | [], [], i, a, _, h => by simp at h
  | x :: l, y :: l', 0, a, h, h1 => by
    simp only [List.getElem?_cons_zero, Option.some.injEq] at h1
    subst h1; exact ⟨y, rfl, h.1⟩
  | x :: l, y :: l', i + 1, a, h, h1 => by
    simp only [List.getElem?_cons_succ] at h1 ⊢
    exact zr_2_get h.2 h1
  | [], _ :: _, _, _, h, _ => h.elim
  | _ :: _, [], _, _, h, _ => h.elim
theorem zr_2_set {a : α} {b : β} (hab : R a b) : ∀ {l : List α} {l' : List β} {i : Nat}, zr_2 R l l' → zr_2 R (l.set i a) (l'.set i b)
  | [], [], i, h => by simp [zr_2]
  | x :: l, y :: l', 0, h => ⟨hab, h.2⟩
  | x :: l, y :: l', i + 1, h => ⟨h.1, zr_2_set hab h.2⟩
  | [], _ :: _, _, h => h.elim
  | _ :: _, [], _, h => h.elim
theorem zr_2_len : ∀ {l : List α} {l' : List β}, zr_2 R l l' → l.length = l'.length
  | [], [], _ => rfl
  | x :: l, y :: l', h => by rw [List.length_cons, List.length_cons, zr_2_len h.2]
  | [], _ :: _, h => h.elim
  | _ :: _, [], h => h.elim
theorem zr_2_mono (hr : ∀ a b, R a b → R' a b) : ∀ {l : List α} {l' : List β}, zr_2 R l l' → zr_2 R' l l'
  | [], [], _ => trivial
  | x :: l, y :: l', h => ⟨hr _ _ h.1, zr_2_mono hr h.2⟩
  | [], _ :: _, h => h.elim
  | _ :: _, [], h => h.elim
theorem zr_2_app : ∀ {l1 l2 : List α} {l1' l2' : List β}, zr_2 R l1 l1' → zr_2 R l2 l2' → zr_2 R (l1 ++ l2) (l1' ++ l2')
  | [], _, [], _, _, h => h
  | x :: l, _, y :: l', _, h, h2 => ⟨h.1, zr_2_app h.2 h2⟩
  | [], _, _ :: _, _, h, _ => h.elim
  | _ :: _, _, [], _, h, _ => h.elim
theorem zr_2_split : ∀ {l1 l2 : List α} {vs : List β}, zr_2 R (l1 ++ l2) vs → ∃ v1 v2, vs = v1 ++ v2 ∧ zr_2 R l1 v1 ∧ zr_2 R l2 v2
  | [], l2, vs, h => ⟨[], vs, rfl, trivial, h⟩
  | x :: l, l2, y :: vs, h => by
    obtain ⟨v1, v2, e, h1, h2⟩ := zr_2_split h.2
    exact ⟨y :: v1, v2, by rw [e]; rfl, ⟨h.1, h1⟩, h2⟩
  | _ :: _, _, [], h => h.elim
theorem zr_2_rev : ∀ {l : List α} {l' : List β}, zr_2 R l l' → zr_2 R l.reverse l'.reverse
  | [], [], _ => trivial
  | x :: l, y :: l', h => by
    rw [List.reverse_cons, List.reverse_cons]
    exact zr_2_app (zr_2_rev h.2) ⟨h.1, trivial⟩
  | [], _ :: _, h => h.elim
  | _ :: _, [], h => h.elim
end Z2
def zr_ty (t : Nat) : FieldType := if t = 1 then .int else if t = 2 then .byte else if t = 3 then .boolean else if t = 4 then .long else if t = 5 then .object "StubHouse$Node" else .object "StubHouse$Tape"
noncomputable def zr_c (E : zxCE) (j : Nat) : Nat := zx_A E.2.2.2 (zx_N 74 E.2.2.1 0) j
def zr_E (σ : Nat → Int32) (b : zxBB) (as : List Nat) (tys : List (ClassId × FieldType)) (E : zxCE) (e : va_E) : Prop :=
  (16 ≤ E.1 ∧ ∃ fs : List Value, e = .inr (E.1 - 16, fs) ∧ zr_2 (zr σ b as) E.2.2.1 fs) ∨
  (E.1 < 16 ∧ 0 < E.1 ∧ E.2.1 < 2147483648 ∧ ∃ (cA : ClassId) (t0 : Nat), tys[t0]? = some (cA, zr_ty E.1) ∧
    ((E.1 < 4 ∧ ∃ f : Nat → Int32, e = .inl (cA, E.2.1, .inl f) ∧ ∀ j, j < E.2.1 → zr σ b as (zr_c E j) (.int (f j))) ∨
     (E.1 = 4 ∧ ∃ f : Nat → Int64, e = .inl (cA, E.2.1, .inr (.inl f)) ∧ ∀ j, j < E.2.1 → zr σ b as (zr_c E j) (.long (f j))) ∨
     (4 < E.1 ∧ ∃ f : Nat → Option Nat, e = .inl (cA, E.2.1, .inr (.inr (.inr (.inr f)))) ∧ ∀ j, j < E.2.1 → zr σ b as (zr_c E j) (va_rf (f j)))))
theorem zr_E_mono {σ : Nat → Int32} {b : zxBB} {as : List Nat} {tys : List (ClassId × FieldType)} {E : zxCE} {e : va_E} (e1 : List Nat) (e2 : List (ClassId × FieldType)) (h : zr_E σ b as tys E e) : zr_E σ b (as ++ e1) (tys ++ e2) E e := by
  rcases h with ⟨h1, fs, h2, h3⟩ | ⟨h1, h2, h3, cA, t0, h4, h5⟩
  · exact Or.inl ⟨h1, fs, h2, zr_2_mono (fun _ _ h => zr_mono e1 h) h3⟩
  · refine Or.inr ⟨h1, h2, h3, cA, t0, ?_, ?_⟩
    · rw [List.getElem?_append_left (List.getElem?_eq_some_iff.mp h4).1]; exact h4
    · rcases h5 with ⟨a, f, c, d⟩ | ⟨a, f, c, d⟩ | ⟨a, f, c, d⟩
      · exact Or.inl ⟨a, f, c, fun j hj => zr_mono e1 (d j hj)⟩
      · exact Or.inr (Or.inl ⟨a, f, c, fun j hj => zr_mono e1 (d j hj)⟩)
      · exact Or.inr (Or.inr ⟨a, f, c, fun j hj => zr_mono e1 (d j hj)⟩)
def zr_W (σ : Nat → Int32) (b : zxBB) (as : List Nat) (tys : List (ClassId × FieldType)) (hp : zxHP) (ws : va_W) : Prop :=
  as.length = hp.1 ∧ ws.length = hp.1 ∧ (∀ k, k < hp.1 → ∃ (q : Nat) (e : va_E), as[k]? = some q ∧ ws[k]? = some (q, e) ∧ zr_E σ b as tys (zx_G hp k) e) ∧ b.2 <+: as
theorem zr_W_get {σ : Nat → Int32} {b : zxBB} {as : List Nat} {tys : List (ClassId × FieldType)} {hp : zxHP} {ws : va_W} (h : zr_W σ b as tys hp ws) {k q : Nat} (hk : as[k]? = some q) : ∃ e, ws[k]? = some (q, e) ∧ zr_E σ b as tys (zx_G hp k) e := by
  have hl : k < hp.1 := by rw [← h.1]; exact (List.getElem?_eq_some_iff.mp hk).1
  obtain ⟨q', e, h1, h2, h3⟩ := h.2.2.1 k hl
  rw [hk] at h1
  cases h1
  exact ⟨e, h2, h3⟩
theorem zx_G_eq (n : Nat) (cs : List (List zxCE)) (k : Nat) : zx_G (n, cs) k = (((cs[k / 32]?).getD [])[k % 32]?).getD (0, 0, [], []) := by
  show zx_N (0, 0, [], []) (zx_N [] cs (k / 32)) (k % 32) = _
  rw [zx_N_eq, zx_N_eq]
theorem zx_H_ok {β : Type} (hp : zxHP) (k : Nat) (E : zxCE) (kk : zxHP → β) (hE : (zx_G hp k).1 ≠ 0) : ∃ hp', zx_H hp k E kk = kk hp' ∧ hp'.1 = hp.1 ∧ ∀ j, zx_G hp' j = if j = k then E else zx_G hp j := by
  obtain ⟨n, cs⟩ := hp
  rw [zx_G_eq] at hE
  have h1 : k / 32 < cs.length := by
    apply Nat.lt_of_not_le
    intro q
    rw [List.getElem?_eq_none q] at hE
    simp at hE
  have h2 : k % 32 < ((cs[k / 32]?).getD []).length := by
    apply Nat.lt_of_not_le
    intro q
    rw [List.getElem?_eq_none q] at hE
    simp at hE
  refine ⟨(n, cs.set (k / 32) (((cs[k / 32]?).getD []).set (k % 32) E)), ?_, rfl, fun j => ?_⟩
  · show zx_S (zx_N [] cs (k / 32)) (k % 32) E (fun ch => zx_S cs (k / 32) ch (fun cs2 => kk (n, cs2))) = _
    rw [zx_S_eq, zx_S_eq, zx_N_eq]
  · rw [zx_G_eq, zx_G_eq]
    by_cases hj : j = k
    · rw [if_pos hj]
      subst hj
      rw [List.getElem?_set_self h1]
      simp only [Option.getD_some]
      rw [List.getElem?_set_self h2]
      rfl
    · rw [if_neg hj]
      by_cases hd : j / 32 = k / 32
      · have hm : j % 32 ≠ k % 32 := by omega
        rw [hd, List.getElem?_set_self h1]
        simp only [Option.getD_some]
        rw [List.getElem?_set_ne (Ne.symm hm)]
      · rw [List.getElem?_set_ne (Ne.symm hd)]
theorem zx_B_ok {hp : zxHP} {E : zxCE} {kk : Nat → zxHP → Bool} (h : zx_B hp E kk = true) : ∃ hp', kk hp.1 hp' = true ∧ hp'.1 = hp.1 + 1 ∧ zx_G hp' hp.1 = E ∧ ∀ j, j < hp.1 → zx_G hp' j = zx_G hp j := by
  obtain ⟨n, cs⟩ := hp
  have h : zx_F (Nat.succ n) (fun n1 => cond (Nat.beq (n % 32) 0) (cond (Nat.beq (zx_Z cs) (n / 32)) (zx_P cs [E] (fun cs2 => kk n (n1, cs2))) false)
    (cond (Nat.beq (zx_Z (zx_N [] cs (n / 32))) (n % 32) && Nat.blt (n / 32) (zx_Z cs)) (zx_P (zx_N [] cs (n / 32)) E (fun ch => zx_S cs (n / 32) ch (fun cs2 => kk n (n1, cs2)))) false)) = true := h
  rw [zx_F_eq] at h
  rcases zx_ct h with ⟨h0, h1⟩ | ⟨h0, h1⟩
  · have h0 := zx_beq.mp h0
    obtain ⟨h2, h3⟩ := zx_c1 h1
    have h2 := zx_beq.mp h2
    rw [zx_Z_eq] at h2
    rw [zx_P_eq] at h3
    refine ⟨_, h3, rfl, ?_, fun j hj => ?_⟩
    · rw [zx_G_eq, List.getElem?_append_right (by simp only; omega)]
      simp only
      rw [h2, h0]; simp
    · simp only at hj
      rw [zx_G_eq, zx_G_eq, List.getElem?_append_left (by omega)]
  · have h0 := zx_nbeq.mp h0
    obtain ⟨h2, h3⟩ := zx_c1 h1
    obtain ⟨h2, h4⟩ := zx_an h2
    have h2 := zx_beq.mp h2
    have h4 := zx_blt.mp h4
    rw [zx_Z_eq, zx_N_eq] at h2
    rw [zx_Z_eq] at h4
    rw [zx_P_eq, zx_S_eq, zx_N_eq] at h3
    refine ⟨_, h3, rfl, ?_, fun j hj => ?_⟩
    · rw [zx_G_eq, List.getElem?_set_self h4]
      simp only [Option.getD_some]
      rw [List.getElem?_append_right (by omega)]
      rw [h2]; simp
    · simp only at hj
      rw [zx_G_eq, zx_G_eq]
      by_cases hd : j / 32 = n / 32
      · rw [hd, List.getElem?_set_self h4]
        simp only [Option.getD_some]
        rw [List.getElem?_append_left (by omega)]
      · rw [List.getElem?_set_ne (Ne.symm hd)]
theorem zr_W_set {σ : Nat → Int32} {b : zxBB} {as : List Nat} {tys : List (ClassId × FieldType)} {hp hp' : zxHP} {ws : va_W} (h : zr_W σ b as tys hp ws) {k q : Nat} (hk : as[k]? = some q) {E : zxCE} {e : va_E} (h1 : hp'.1 = hp.1) (h2 : ∀ j, zx_G hp' j = if j = k then E else zx_G hp j) (hE : zr_E σ b as tys E e) : zr_W σ b as tys hp' (ws.set k (q, e)) := by
  refine ⟨by rw [h1]; exact h.1, by rw [h1, List.length_set]; exact h.2.1, fun j hj => ?_, h.2.2.2⟩
  rw [h1] at hj
  obtain ⟨q', e', g1, g2, g3⟩ := h.2.2.1 j hj
  rw [h2 j]
  by_cases hjk : j = k
  · rw [if_pos hjk]
    subst hjk
    refine ⟨q, e, hk, ?_, hE⟩
    rw [List.getElem?_set_self (by rw [h.2.1]; exact hj)]
  · rw [if_neg hjk]
    refine ⟨q', e', g1, ?_, g3⟩
    rw [List.getElem?_set_ne (Ne.symm hjk)]; exact g2
theorem zr_W_push {σ : Nat → Int32} {b : zxBB} {as : List Nat} {tys : List (ClassId × FieldType)} {hp hp' : zxHP} {ws : va_W} (h : zr_W σ b as tys hp ws) {q : Nat} {E : zxCE} {e : va_E} (t2 : List (ClassId × FieldType)) (h1 : hp'.1 = hp.1 + 1) (h2 : zx_G hp' hp.1 = E) (h3 : ∀ j, j < hp.1 → zx_G hp' j = zx_G hp j) (hE : zr_E σ b (as ++ [q]) (tys ++ t2) E e) : zr_W σ b (as ++ [q]) (tys ++ t2) hp' (ws ++ [(q, e)]) := by
  refine ⟨by rw [h1, List.length_append, h.1]; rfl, by rw [h1, List.length_append, h.2.1]; rfl, fun j hj => ?_, List.IsPrefix.trans h.2.2.2 (List.prefix_append as [q])⟩
  by_cases hl : j < hp.1
  · obtain ⟨q', e', g1, g2, g3⟩ := h.2.2.1 j hl
    refine ⟨q', e', ?_, ?_, ?_⟩
    · rw [List.getElem?_append_left (by rw [h.1]; exact hl)]; exact g1
    · rw [List.getElem?_append_left (by rw [h.2.1]; exact hl)]; exact g2
    · rw [h3 j hl]; exact zr_E_mono [q] t2 g3
  · have hj : j = hp.1 := by omega
    subst hj
    refine ⟨q, e, ?_, ?_, by rw [h2]; exact hE⟩
    · rw [List.getElem?_append_right (by rw [h.1]; exact Nat.le_refl _), h.1]; simp
    · rw [List.getElem?_append_right (by rw [h.2.1]; exact Nat.le_refl _), h.2.1]; simp
def zr_LV (σ : Nat → Int32) (b : zxBB) (as : List Nat) (lv : zxLV) (lv' : List (Nat × Value)) : Prop := zr_2 (fun q q' => q.1 = q'.1 ∧ zr σ b as q.2 q'.2) lv lv'
theorem zr_LV_get {σ : Nat → Int32} {b : zxBB} {as : List Nat} {a c : Nat} (hc : c ≠ 74) : ∀ {lv : zxLV} {lv' : List (Nat × Value)}, zr_LV σ b as lv lv' → zx_A lv 74 a = c → ∃ v, (a, v) ∈ lv' ∧ zr σ b as c v
  | [], [], _, h => absurd h.symm hc
  | x :: l, y :: l', h, h1 => by
    rw [zx_A_cons] at h1
    by_cases hx : x.1 = a
    · rw [if_pos hx] at h1
      refine ⟨y.2, ?_, by rw [← h1]; exact h.1.2⟩
      rw [← hx, h.1.1]; exact List.mem_cons_self
    · rw [if_neg hx] at h1
      obtain ⟨v, g1, g2⟩ := zr_LV_get hc h.2 h1
      exact ⟨v, List.mem_cons_of_mem _ g1, g2⟩
  | [], _ :: _, h, _ => h.elim
  | _ :: _, [], h, _ => h.elim
theorem zr_LV_fil {σ : Nat → Int32} {b : zxBB} {as : List Nat} {wd : Bool} {i : Nat} {P : Nat × Value → Bool} (hP : ∀ (a c : Nat) (v : Value), zr σ b as c v → P (a, v) = !(zx_drop wd i (a, c))) : ∀ {lv : zxLV} {lv' : List (Nat × Value)}, zr_LV σ b as lv lv' → zr_LV σ b as (lv.filter (fun q => !(zx_drop wd i q))) (lv'.filter P)
  | [], [], _ => trivial
  | (a, c) :: l, (a', v) :: l', h => by
    have e := hP a c v h.1.2
    have ea : a = a' := h.1.1
    subst ea
    rw [List.filter_cons, List.filter_cons, e]
    cases zx_drop wd i (a, c)
    · exact ⟨h.1, zr_LV_fil hP h.2⟩
    · exact zr_LV_fil hP h.2
  | [], _ :: _, h => h.elim
  | _ :: _, [], h => h.elim
theorem zx_eqb (a i : Nat) : (a == i) = Nat.beq a i := by rw [Bool.eq_iff_iff, zx_beq, beq_iff_eq]
theorem zr_P1 {σ : Nat → Int32} {b : zxBB} {as : List Nat} (i : Nat) (a c : Nat) (v : Value) (h : zr σ b as c v) : (fun q : Nat × Value => !(q.1 == i) && !(q.1 + 1 == i && q.2.category == 2)) (a, v) = !(zx_drop false i (a, c)) := by
  show (!(a == i) && !(a + 1 == i && v.category == 2)) = !(Nat.beq a i || ((Nat.beq (Nat.succ a) i && zx_2 c) || (false && Nat.beq a (Nat.succ i))))
  rw [zr_cat h]
  have e1 : (a == i) = Nat.beq a i := zx_eqb a i
  have e2 : (a + 1 == i) = Nat.beq (Nat.succ a) i := zx_eqb (a + 1) i
  rw [e1, e2]
  cases Nat.beq a i <;> cases Nat.beq (Nat.succ a) i <;> cases zx_2 c <;> rfl
theorem zr_P2 {σ : Nat → Int32} {b : zxBB} {as : List Nat} (i : Nat) (a c : Nat) (v : Value) (h : zr σ b as c v) : (fun q : Nat × Value => !(q.1 == i) && (!(q.1 == i + 1) && !(q.1 + 1 == i && q.2.category == 2))) (a, v) = !(zx_drop true i (a, c)) := by
  show (!(a == i) && (!(a == i + 1) && !(a + 1 == i && v.category == 2))) = !(Nat.beq a i || ((Nat.beq (Nat.succ a) i && zx_2 c) || (true && Nat.beq a (Nat.succ i))))
  rw [zr_cat h]
  have e1 : (a == i) = Nat.beq a i := zx_eqb a i
  have e2 : (a + 1 == i) = Nat.beq (Nat.succ a) i := zx_eqb (a + 1) i
  have e3 : (a == i + 1) = Nat.beq a (Nat.succ i) := zx_eqb a (i + 1)
  rw [e1, e2, e3]
  cases Nat.beq a i <;> cases Nat.beq (Nat.succ a) i <;> cases zx_2 c <;> cases Nat.beq a (Nat.succ i) <;> rfl
def zr_HP (G : va_G) (σ : Nat → Int32) (b : zxBB) (s : State) (A : Nat → Prop) (as : List Nat) (hp : zxHP) (H : Heap) : Prop :=
  ∃ (tys : List (ClassId × FieldType)) (ws : va_W), va_K G vwCl tys s ∧ zr_W σ b as tys hp ws ∧ va_P G vwCl ws H ∧ va_D A ws
/-- the machine's state is as the abstract one says -/
def zr_R (G : va_G) (σ : Nat → Int32) (b : zxBB) (A : Nat → Prop) (nL : Nat) (s : State) (H : Heap) (locs : List Loc) (ls : Array Slot) (vs : List Value) (lv : zxLV) (stk : List Nat) (hp : zxHP) (st : zxST) : Prop :=
  zr_in σ st ∧ va_S A s.heap H locs ∧ ∃ as, zr_HP G σ b s A as hp H ∧ (∃ lv', lv_has ls nL lv' ∧ zr_LV σ b as lv lv') ∧ zr_2 (zr σ b as) stk vs
def zr_KK (p : Program) (l : Launch) (e : Env) (R : Room) (s : State) (m : MethodId) (args : Array Value) (below : List Frame) (meth : Method) (c : Code) (Q : State → Prop) (G : va_G) (σ : Nat → Int32) (b : zxBB) (A : Nat → Prop) (nL : Nat) (k : zxKT) : Prop :=
  ∀ (pc : Nat) (lv : zxLV) (stk : List Nat) (hp : zxHP) (st : zxST) (u w : Nat) (H : Heap) (locs : List Loc) (ls : Array Slot) (vs : List Value), k pc lv stk hp st u w = true → zr_R G σ b A nL s H locs ls vs lv stk hp st → W p l e R s m args below meth c H locs u w Q (F0 m pc ls vs)
end
section
theorem zr_any {σ : Nat → Int32} {b : zxBB} {as : List Nat} {x : Int32} : zr σ b as 6 (.int x) := (zr_6 rfl).mpr ⟨x, rfl⟩
theorem zr_anyl {σ : Nat → Int32} {b : zxBB} {as : List Nat} {x : Int64} : zr σ b as 7 (.long x) := (zr_7 rfl).mpr ⟨x, rfl, fun h => absurd rfl h⟩
section ZO
variable {p : Program} {l : Launch} {e : Env} {R : Room} {s : State} {m : MethodId} {args : Array Value} {below : List Frame} {meth : Method} {c : Code} {Q : State → Prop} {cc : ByteArray} {nL : Nat} {G : va_G} {σ : Nat → Int32} {b : zxBB} {A : Nat → Prop} {pc a a2 nxt : Nat} {d : List Nat} {lv : zxLV} {stk : List Nat} {hp : zxHP} {st : zxST} {u w : Nat} {k : zxKT} {H : Heap} {locs : List Loc} {ls : Array Slot} {vs : List Value}
theorem zo_push {v : Value} (h : zh_push a a2 nxt d lv stk hp st u w k = true) (r : zr_R G σ b A nL s H locs ls vs lv stk hp st) (kk : zr_KK p l e R s m args below meth c Q G σ b A nL k) (hv : ∀ as, zr σ b as a v)
    (kW : W p l e R s m args below meth c H locs u w Q (F0 m nxt ls (v :: vs)) → W p l e R s m args below meth c H locs u w Q (F0 m pc ls vs)) : W p l e R s m args below meth c H locs u w Q (F0 m pc ls vs) := by
  obtain ⟨hσ, hS, as, hH, hL, hV⟩ := r
  exact kW (kk _ _ _ _ _ _ _ _ _ _ _ h ⟨hσ, hS, as, hH, hL, hv as, hV⟩)
theorem zo_iload (h : zh_iload a a2 nxt d lv stk hp st u w k = true) (r : zr_R G σ b A nL s H locs ls vs lv stk hp st) (kk : zr_KK p l e R s m args below meth c Q G σ b A nL k)
    (kW : ∀ x : Int32, ls[a]? = some (.val (.int x)) → W p l e R s m args below meth c H locs u w Q (F0 m nxt ls (.int x :: vs)) → W p l e R s m args below meth c H locs u w Q (F0 m pc ls vs)) : W p l e R s m args below meth c H locs u w Q (F0 m pc ls vs) := by
  obtain ⟨hσ, hS, as, hH, ⟨lv', hl, hL⟩, hV⟩ := r
  unfold zh_iload at h
  rw [zx_F_eq] at h
  obtain ⟨h1, h2⟩ := zx_c1 h
  obtain ⟨v, g1, g2⟩ := zr_LV_get (fun q => by rw [q] at h1; exact absurd h1 (by decide)) hL (rfl : zx_A lv 74 a = zx_A lv 74 a)
  obtain ⟨x, rfl⟩ := zr_int h1 g2
  exact kW x (hl.2.2 _ g1) (kk _ _ _ _ _ _ _ _ _ _ _ h2 ⟨hσ, hS, as, hH, ⟨lv', hl, hL⟩, g2, hV⟩)
theorem zo_lload (h : zh_lload a a2 nxt d lv stk hp st u w k = true) (r : zr_R G σ b A nL s H locs ls vs lv stk hp st) (kk : zr_KK p l e R s m args below meth c Q G σ b A nL k)
    (kW : ∀ x : Int64, ls[a]? = some (.val (.long x)) → W p l e R s m args below meth c H locs u w Q (F0 m nxt ls (.long x :: vs)) → W p l e R s m args below meth c H locs u w Q (F0 m pc ls vs)) : W p l e R s m args below meth c H locs u w Q (F0 m pc ls vs) := by
  obtain ⟨hσ, hS, as, hH, ⟨lv', hl, hL⟩, hV⟩ := r
  unfold zh_lload at h
  rw [zx_F_eq] at h
  obtain ⟨h1, h2⟩ := zx_c1 h
  obtain ⟨v, g1, g2⟩ := zr_LV_get (fun q => by rw [q] at h1; exact absurd h1 (by decide)) hL (rfl : zx_A lv 74 a = zx_A lv 74 a)
  obtain ⟨x, rfl⟩ := zr_long h1 g2
  exact kW x (hl.2.2 _ g1) (kk _ _ _ _ _ _ _ _ _ _ _ h2 ⟨hσ, hS, as, hH, ⟨lv', hl, hL⟩, g2, hV⟩)
theorem zo_aload (h : zh_aload a a2 nxt d lv stk hp st u w k = true) (r : zr_R G σ b A nL s H locs ls vs lv stk hp st) (kk : zr_KK p l e R s m args below meth c Q G σ b A nL k)
    (kW : ∀ x : Nat, ls[a]? = some (.val (.ref x)) → W p l e R s m args below meth c H locs u w Q (F0 m nxt ls (.ref x :: vs)) → W p l e R s m args below meth c H locs u w Q (F0 m pc ls vs)) : W p l e R s m args below meth c H locs u w Q (F0 m pc ls vs) := by
  obtain ⟨hσ, hS, as, hH, ⟨lv', hl, hL⟩, hV⟩ := r
  unfold zh_aload at h
  rw [zx_F_eq] at h
  obtain ⟨h1, h2⟩ := zx_c1 h
  obtain ⟨v, g1, g2⟩ := zr_LV_get (fun q => by rw [q] at h1; exact absurd h1 (by decide)) hL (rfl : zx_A lv 74 a = zx_A lv 74 a)
  obtain ⟨x, rfl⟩ := zr_ref h1 g2
  exact kW x (hl.2.2 _ g1) (kk _ _ _ _ _ _ _ _ _ _ _ h2 ⟨hσ, hS, as, hH, ⟨lv', hl, hL⟩, g2, hV⟩)
theorem zo_istore (ha2 : a2 = nL) (h : zh_istore a a2 nxt d lv stk hp st u w k = true) (r : zr_R G σ b A nL s H locs ls vs lv stk hp st) (kk : zr_KK p l e R s m args below meth c Q G σ b A nL k)
    (kW : ∀ (x : Int32) (vs' : List Value) (lv' : List (Nat × Value)), vs = .int x :: vs' → lv_has ls nL lv' → a < nL → (∀ ls' : Array Slot, lv_has ls' nL ((a, Value.int x) :: lv'.filter (fun q => !(q.1 == a) && !(q.1 + 1 == a && q.2.category == 2))) → W p l e R s m args below meth c H locs u w Q (F0 m nxt ls' vs')) → W p l e R s m args below meth c H locs u w Q (F0 m pc ls vs)) : W p l e R s m args below meth c H locs u w Q (F0 m pc ls vs) := by
  obtain ⟨hσ, hS, as, hH, ⟨lv', hl, hL⟩, hV⟩ := r
  rcases stk with _ | ⟨x, rr⟩
  · exact absurd h Bool.false_ne_true
  rcases vs with _ | ⟨v, vr⟩
  · exact hV.elim
  obtain ⟨h1, h2⟩ := zx_c1 (show cond (zx_i x && Nat.blt a a2) (zx_L false a lv (fun l => k nxt ((a, x) :: l) rr hp st u w)) false = true from h)
  obtain ⟨h1, h3⟩ := zx_an h1
  have h3 := zx_blt.mp h3
  rw [zx_L_eq] at h2
  obtain ⟨xv, rfl⟩ := zr_int h1 hV.1
  refine kW xv vr lv' rfl hl (ha2 ▸ h3) (fun ls' hl' => kk _ _ _ _ _ _ _ _ _ _ _ h2 ⟨hσ, hS, as, hH, ⟨_, hl', ?_⟩, hV.2⟩)
  exact ⟨⟨rfl, hV.1⟩, zr_LV_fil (zr_P1 a) hL⟩
theorem zo_astore (ha2 : a2 = nL) (h : zh_astore a a2 nxt d lv stk hp st u w k = true) (r : zr_R G σ b A nL s H locs ls vs lv stk hp st) (kk : zr_KK p l e R s m args below meth c Q G σ b A nL k)
    (kW : ∀ (x : Nat) (vs' : List Value) (lv' : List (Nat × Value)), vs = .ref x :: vs' → lv_has ls nL lv' → a < nL → (∀ ls' : Array Slot, lv_has ls' nL ((a, Value.ref x) :: lv'.filter (fun q => !(q.1 == a) && !(q.1 + 1 == a && q.2.category == 2))) → W p l e R s m args below meth c H locs u w Q (F0 m nxt ls' vs')) → W p l e R s m args below meth c H locs u w Q (F0 m pc ls vs)) : W p l e R s m args below meth c H locs u w Q (F0 m pc ls vs) := by
  obtain ⟨hσ, hS, as, hH, ⟨lv', hl, hL⟩, hV⟩ := r
  rcases stk with _ | ⟨x, rr⟩
  · exact absurd h Bool.false_ne_true
  rcases vs with _ | ⟨v, vr⟩
  · exact hV.elim
  obtain ⟨h1, h2⟩ := zx_c1 (show cond (zx_r x && Nat.blt a a2) (zx_L false a lv (fun l => k nxt ((a, x) :: l) rr hp st u w)) false = true from h)
  obtain ⟨h1, h3⟩ := zx_an h1
  have h3 := zx_blt.mp h3
  rw [zx_L_eq] at h2
  obtain ⟨xv, rfl⟩ := zr_ref h1 hV.1
  refine kW xv vr lv' rfl hl (ha2 ▸ h3) (fun ls' hl' => kk _ _ _ _ _ _ _ _ _ _ _ h2 ⟨hσ, hS, as, hH, ⟨_, hl', ?_⟩, hV.2⟩)
  exact ⟨⟨rfl, hV.1⟩, zr_LV_fil (zr_P1 a) hL⟩
theorem zo_iinc {n : Nat} {z : Int} (hz : Int32.ofInt z = nI n) (hx : p.tables.exec = Jvm.exec) (hb : c.code = cc) (hdg : decode cc pc = .ok (.iinc a z, 3)) (ha2 : a2 = nL) (hn : nxt = pc + 3) (h : zh_iinc a a2 nxt [n] lv stk hp st u w k = true) (r : zr_R G σ b A nL s H locs ls vs lv stk hp st) (kk : zr_KK p l e R s m args below meth c Q G σ b A nL k) : W p l e R s m args below meth c H locs u w Q (F0 m pc ls vs) := by
  obtain ⟨hσ, hS, as, hH, ⟨lv', hl, hL⟩, hV⟩ := r
  have h : zx_F (zx_A lv 74 a) (fun c => cond (zx_i c && Nat.blt a a2) (zx_F (cond (Nat.beq (c % 8) 0) (8 * ((c / 8 + n) % 4294967296)) 6) (fun v => zx_L false a lv (fun l => k nxt ((a, v) :: l) stk hp st u w))) false) = true := h
  rw [zx_F_eq] at h
  obtain ⟨h1, h2⟩ := zx_c1 h
  obtain ⟨h1, h3⟩ := zx_an h1
  have h3 := zx_blt.mp h3
  obtain ⟨v, g1, g2⟩ := zr_LV_get (fun q => by rw [q] at h1; exact absurd h1 (by decide)) hL (rfl : zx_A lv 74 a = zx_A lv 74 a)
  obtain ⟨x, rfl⟩ := zr_int h1 g2
  rw [zx_F_eq, zx_L_eq] at h2
  obtain ⟨kq, g3⟩ := List.getElem?_of_mem g1
  refine lv_iinc (k := kq) hx hb hdg hl g3 rfl (ha2 ▸ h3) rfl (fun ls' hl' => hn ▸ kk _ _ _ _ _ _ _ _ _ _ _ h2 ⟨hσ, hS, as, hH, ⟨_, hl', ?_⟩, hV⟩)
  refine ⟨⟨rfl, ?_⟩, zr_LV_fil (zr_P1 a) hL⟩
  show zr σ b as (cond (Nat.beq (zx_A lv 74 a % 8) 0) (8 * ((zx_A lv 74 a / 8 + n) % 4294967296)) 6) (.int (x + Int32.ofInt z))
  generalize zx_A lv 74 a = q at g2
  cases hq : Nat.beq (q % 8) 0 with
  | false => exact zr_any
  | true =>
    have hx := Value.int.inj ((zr_0 (zx_beq.mp hq)).mp g2)
    refine (zr_0 (by show (8 * ((q / 8 + n) % 4294967296)) % 8 = 0; omega)).mpr ?_
    show Value.int (x + Int32.ofInt z) = .int (nI (8 * ((q / 8 + n) % 4294967296) / 8))
    rw [Nat.mul_div_cancel_left _ (by decide), zr_nI_mod, hx, hz, nI_add]
theorem zo_iadd (hx : p.tables.exec = Jvm.exec) (hb : c.code = cc) (hdg : decode cc pc = .ok (.iadd, 1)) (hn : nxt = pc + 1) (h : zh_iadd a a2 nxt d lv stk hp st u w k = true) (r : zr_R G σ b A nL s H locs ls vs lv stk hp st) (kk : zr_KK p l e R s m args below meth c Q G σ b A nL k) : W p l e R s m args below meth c H locs u w Q (F0 m pc ls vs) := by
  obtain ⟨hσ, hS, as, hH, hL, hV⟩ := r
  rcases stk with _ | ⟨y, _ | ⟨x, rr⟩⟩
  · exact absurd h Bool.false_ne_true
  · exact absurd h Bool.false_ne_true
  rcases vs with _ | ⟨vy, _ | ⟨vx, vr⟩⟩
  · exact hV.elim
  · exact hV.2.elim
  obtain ⟨hy, hx1, hr⟩ := hV
  obtain ⟨y', s1, h, hσ, my⟩ := zx_C_ok (show zx_C y st (fun y s1 => zx_C x s1 (fun x s2 => cond (zx_i x && zx_i y) (zx_F (cond (Nat.beq x 0) y (cond (Nat.beq y 0) x (cond (Nat.beq (x % 8) 0 && Nat.beq (y % 8) 0) (8 * ((x / 8 + y / 8) % 4294967296)) 6))) (fun v => k nxt lv (v :: rr) hp s2 u w)) false)) = true from h) hσ
  obtain ⟨x', s2, h, hσ, mx⟩ := zx_C_ok h hσ
  have hy := my _ _ _ hy
  have hx1 := mx _ _ _ hx1
  obtain ⟨h1, h⟩ := zx_c1 h
  obtain ⟨h1, h2⟩ := zx_an h1
  obtain ⟨x, rfl⟩ := zr_int h1 hx1
  obtain ⟨y, rfl⟩ := zr_int h2 hy
  rw [zx_F_eq] at h
  refine lv_iadd hx hb hdg (hn ▸ kk _ _ _ _ _ _ _ _ _ _ _ h ⟨hσ, hS, as, hH, hL, ?_, hr⟩)
  cases q1 : Nat.beq x' 0 with
  | true =>
    have := zx_beq.mp q1; subst this
    have e := Value.int.inj ((zr_0 rfl).mp hx1)
    show zr σ b as y' _
    rw [show x + y = y by rw [e]; show nI 0 + y = y; rw [nI_0]; exact Int32.zero_add y]
    exact hy
  | false =>
    cases q2 : Nat.beq y' 0 with
    | true =>
      have := zx_beq.mp q2; subst this
      have e := Value.int.inj ((zr_0 rfl).mp hy)
      show zr σ b as x' _
      rw [show x + y = x by rw [e]; show x + nI 0 = x; rw [nI_0]; exact Int32.add_zero x]
      exact hx1
    | false =>
      cases q3 : (Nat.beq (x' % 8) 0 && Nat.beq (y' % 8) 0) with
      | false => exact zr_any
      | true =>
        obtain ⟨q3, q4⟩ := zx_an q3
        have e1 := Value.int.inj ((zr_0 (zx_beq.mp q3)).mp hx1)
        have e2 := Value.int.inj ((zr_0 (zx_beq.mp q4)).mp hy)
        show zr σ b as (8 * ((x' / 8 + y' / 8) % 4294967296)) _
        refine (zr_0 (by omega)).mpr ?_
        rw [Nat.mul_div_cancel_left _ (by decide), zr_nI_mod, e1, e2, nI_add]
theorem zo_isub (hx : p.tables.exec = Jvm.exec) (hb : c.code = cc) (hdg : decode cc pc = .ok (.isub, 1)) (hn : nxt = pc + 1) (h : zh_isub a a2 nxt d lv stk hp st u w k = true) (r : zr_R G σ b A nL s H locs ls vs lv stk hp st) (kk : zr_KK p l e R s m args below meth c Q G σ b A nL k) : W p l e R s m args below meth c H locs u w Q (F0 m pc ls vs) := by
  obtain ⟨hσ, hS, as, hH, hL, hV⟩ := r
  rcases stk with _ | ⟨y, _ | ⟨x, rr⟩⟩
  · exact absurd h Bool.false_ne_true
  · exact absurd h Bool.false_ne_true
  rcases vs with _ | ⟨vy, _ | ⟨vx, vr⟩⟩
  · exact hV.elim
  · exact hV.2.elim
  obtain ⟨hy, hx1, hr⟩ := hV
  obtain ⟨y', s1, h, hσ, my⟩ := zx_C_ok (show zx_C y st (fun y s1 => zx_C x s1 (fun x s2 => cond (zx_i x && zx_i y) (zx_F (cond (Nat.beq (x % 8) 0 && Nat.beq (y % 8) 0) (8 * ((x / 8 + (4294967296 - y / 8 % 4294967296)) % 4294967296)) 6) (fun v => k nxt lv (v :: rr) hp s2 u w)) false)) = true from h) hσ
  obtain ⟨x', s2, h, hσ, mx⟩ := zx_C_ok h hσ
  have hy := my _ _ _ hy
  have hx1 := mx _ _ _ hx1
  obtain ⟨h1, h⟩ := zx_c1 h
  obtain ⟨h1, h2⟩ := zx_an h1
  obtain ⟨x, rfl⟩ := zr_int h1 hx1
  obtain ⟨y, rfl⟩ := zr_int h2 hy
  rw [zx_F_eq] at h
  refine lv_isub hx hb hdg (hn ▸ kk _ _ _ _ _ _ _ _ _ _ _ h ⟨hσ, hS, as, hH, hL, ?_, hr⟩)
  cases q3 : (Nat.beq (x' % 8) 0 && Nat.beq (y' % 8) 0) with
  | false => exact zr_any
  | true =>
    obtain ⟨q3, q4⟩ := zx_an q3
    have e1 := Value.int.inj ((zr_0 (zx_beq.mp q3)).mp hx1)
    have e2 := Value.int.inj ((zr_0 (zx_beq.mp q4)).mp hy)
    show zr σ b as (8 * ((x' / 8 + (4294967296 - y' / 8 % 4294967296)) % 4294967296)) _
    refine (zr_0 (by omega)).mpr ?_
    rw [Nat.mul_div_cancel_left _ (by decide), zr_nI_mod, e1, e2, ← zr_nI_mod (y' / 8), ← nI_add, ← pk_sub (Nat.le_of_lt (Nat.mod_lt _ (by decide)))]
    rw [show nI 4294967296 = 0 by decide, Int32.zero_sub, ← Int32.sub_eq_add_neg]
theorem zo_imul (hx : p.tables.exec = Jvm.exec) (hb : c.code = cc) (hdg : decode cc pc = .ok (.imul, 1)) (hn : nxt = pc + 1) (h : zh_imul a a2 nxt d lv stk hp st u w k = true) (r : zr_R G σ b A nL s H locs ls vs lv stk hp st) (kk : zr_KK p l e R s m args below meth c Q G σ b A nL k) : W p l e R s m args below meth c H locs u w Q (F0 m pc ls vs) := by
  obtain ⟨hσ, hS, as, hH, hL, hV⟩ := r
  rcases stk with _ | ⟨y, _ | ⟨x, rr⟩⟩
  · exact absurd h Bool.false_ne_true
  · exact absurd h Bool.false_ne_true
  rcases vs with _ | ⟨vy, _ | ⟨vx, vr⟩⟩
  · exact hV.elim
  · exact hV.2.elim
  obtain ⟨hy, hx1, hr⟩ := hV
  obtain ⟨y', s1, h, hσ, my⟩ := zx_C_ok (show zx_C y st (fun y s1 => zx_C x s1 (fun x s2 => cond (zx_i x && zx_i y) (zx_F (cond (Nat.beq (x % 8) 0 && Nat.beq (y % 8) 0) (8 * ((x / 8 * (y / 8)) % 4294967296)) 6) (fun v => k nxt lv (v :: rr) hp s2 u w)) false)) = true from h) hσ
  obtain ⟨x', s2, h, hσ, mx⟩ := zx_C_ok h hσ
  have hy := my _ _ _ hy
  have hx1 := mx _ _ _ hx1
  obtain ⟨h1, h⟩ := zx_c1 h
  obtain ⟨h1, h2⟩ := zx_an h1
  obtain ⟨x, rfl⟩ := zr_int h1 hx1
  obtain ⟨y, rfl⟩ := zr_int h2 hy
  rw [zx_F_eq] at h
  refine lv_imul hx hb hdg (hn ▸ kk _ _ _ _ _ _ _ _ _ _ _ h ⟨hσ, hS, as, hH, hL, ?_, hr⟩)
  cases q3 : (Nat.beq (x' % 8) 0 && Nat.beq (y' % 8) 0) with
  | false => exact zr_any
  | true =>
    obtain ⟨q3, q4⟩ := zx_an q3
    have e1 := Value.int.inj ((zr_0 (zx_beq.mp q3)).mp hx1)
    have e2 := Value.int.inj ((zr_0 (zx_beq.mp q4)).mp hy)
    show zr σ b as (8 * ((x' / 8 * (y' / 8)) % 4294967296)) _
    refine (zr_0 (by omega)).mpr ?_
    rw [Nat.mul_div_cancel_left _ (by decide), zr_nI_mod, e1, e2, pk_mul]
end ZO
end
section
theorem zr_l_hi {σ : Nat → Int32} {i : Nat} (h : i < 100) : zr_l σ (100 + i) = zr_hi σ i := by
  unfold zr_l
  rw [if_pos (by omega), show 100 + i - 100 = i by omega]
theorem zr_l_lo {σ : Nat → Int32} {i : Nat} (h : i < 100) : zr_l σ (200 + i) = zr_lo σ i := by
  unfold zr_l
  rw [if_neg (by omega), if_pos (by omega), show 200 + i - 200 = i by omega]
theorem zr_l_pair {σ : Nat → Int32} {i j : Nat} (h : j < 8) : zr_l σ (1000 + 8 * i + j) = zr_hi σ i ||| zr_lo σ j := by
  unfold zr_l
  rw [if_neg (by omega), if_neg (by omega), show (1000 + 8 * i + j - 1000) / 8 = i by omega, show (1000 + 8 * i + j - 1000) % 8 = j by omega]
theorem zr_d_s {σ : Nat → Int32} {i : Nat} (h : i < 100) : zr_d σ i = σ i := by unfold zr_d; rw [if_pos h]
section ZO2
variable {p : Program} {l : Launch} {e : Env} {R : Room} {s : State} {m : MethodId} {args : Array Value} {below : List Frame} {meth : Method} {c : Code} {Q : State → Prop} {cc : ByteArray} {nL : Nat} {G : va_G} {σ : Nat → Int32} {b : zxBB} {A : Nat → Prop} {pc a a2 nxt : Nat} {d : List Nat} {lv : zxLV} {stk : List Nat} {hp : zxHP} {st : zxST} {u w : Nat} {k : zxKT} {H : Heap} {locs : List Loc} {ls : Array Slot} {vs : List Value}
theorem zo_iand (hx : p.tables.exec = Jvm.exec) (hb : c.code = cc) (hdg : decode cc pc = .ok (.iand, 1)) (hn : nxt = pc + 1) (h : zh_iand a a2 nxt d lv stk hp st u w k = true) (r : zr_R G σ b A nL s H locs ls vs lv stk hp st) (kk : zr_KK p l e R s m args below meth c Q G σ b A nL k) : W p l e R s m args below meth c H locs u w Q (F0 m pc ls vs) := by
  obtain ⟨hσ, hS, as, hH, hL, hV⟩ := r
  rcases stk with _ | ⟨y, _ | ⟨x, rr⟩⟩
  · exact absurd h Bool.false_ne_true
  · exact absurd h Bool.false_ne_true
  rcases vs with _ | ⟨vy, _ | ⟨vx, vr⟩⟩
  · exact hV.elim
  · exact hV.2.elim
  obtain ⟨hy, hx1, hr⟩ := hV
  obtain ⟨h1, h⟩ := zx_c1 (show cond (Nat.beq y 248 && zx_i x) (zx_R 32 (fun j => zx_F (8 * j) (fun v => k nxt lv (v :: rr) hp st u w))) false = true from h)
  obtain ⟨h1, h2⟩ := zx_an h1
  rw [zx_beq.mp h1] at hy
  have hy := (zr_0 rfl).mp hy
  subst hy
  obtain ⟨x, rfl⟩ := zr_int h2 hx1
  obtain ⟨j, hj, e1⟩ := pk_andE x (m := nI (248 / 8)) 5 (by decide)
  have h := zx_R_ok h j hj
  rw [zx_F_eq] at h
  refine lv_iand hx hb hdg (hn ▸ kk _ _ _ _ _ _ _ _ _ _ _ h ⟨hσ, hS, as, hH, hL, ?_, hr⟩)
  refine (zr_0 (by omega)).mpr ?_
  rw [e1, Nat.mul_div_cancel_left _ (by decide)]
theorem zo_i2b (hx : p.tables.exec = Jvm.exec) (hb : c.code = cc) (hdg : decode cc pc = .ok (.i2b, 1)) (hn : nxt = pc + 1) (h : zh_i2b a a2 nxt d lv stk hp st u w k = true) (r : zr_R G σ b A nL s H locs ls vs lv stk hp st) (kk : zr_KK p l e R s m args below meth c Q G σ b A nL k) : W p l e R s m args below meth c H locs u w Q (F0 m pc ls vs) := by
  obtain ⟨hσ, hS, as, hH, hL, hV⟩ := r
  rcases stk with _ | ⟨x, rr⟩
  · exact absurd h Bool.false_ne_true
  rcases vs with _ | ⟨vx, vr⟩
  · exact hV.elim
  obtain ⟨hx1, hr⟩ := hV
  obtain ⟨h1, h⟩ := zx_c1 (show cond (zx_i x) (zx_M x st (fun c => zx_F (cond (Nat.beq (c % 8) 0) (8 * cond (Nat.blt (c / 8 % 256) 128) (c / 8 % 256) (c / 8 % 256 + 4294967040)) 6) (fun v => k nxt lv (v :: rr) hp st u w))) false = true from h)
  obtain ⟨x', e1, -, -, m1⟩ := zx_M_ok x st (fun c => zx_F (cond (Nat.beq (c % 8) 0) (8 * cond (Nat.blt (c / 8 % 256) 128) (c / 8 % 256) (c / 8 % 256 + 4294967040)) 6) (fun v => k nxt lv (v :: rr) hp st u w))
  rw [e1, zx_F_eq] at h
  obtain ⟨xv, rfl⟩ := zr_int h1 hx1
  have hx1 := m1 σ b as _ hσ hx1
  refine lv_i2b hx hb hdg rfl (hn ▸ kk _ _ _ _ _ _ _ _ _ _ _ h ⟨hσ, hS, as, hH, hL, ?_, hr⟩)
  cases q3 : Nat.beq (x' % 8) 0 with
  | false => exact zr_any
  | true =>
    have e1 := Value.int.inj ((zr_0 (zx_beq.mp q3)).mp hx1)
    show zr σ b as (8 * cond (Nat.blt (x' / 8 % 256) 128) (x' / 8 % 256) (x' / 8 % 256 + 4294967040)) _
    refine (zr_0 (by omega)).mpr ?_
    rw [Nat.mul_div_cancel_left _ (by decide), e1, zn_byte]
theorem zo_i2l (hx : p.tables.exec = Jvm.exec) (hb : c.code = cc) (hdg : decode cc pc = .ok (.i2l, 1)) (hn : nxt = pc + 1) (h : zh_i2l a a2 nxt d lv stk hp st u w k = true) (r : zr_R G σ b A nL s H locs ls vs lv stk hp st) (kk : zr_KK p l e R s m args below meth c Q G σ b A nL k) : W p l e R s m args below meth c H locs u w Q (F0 m pc ls vs) := by
  obtain ⟨hσ, hS, as, hH, hL, hV⟩ := r
  rcases stk with _ | ⟨x, rr⟩
  · exact absurd h Bool.false_ne_true
  rcases vs with _ | ⟨vx, vr⟩
  · exact hV.elim
  obtain ⟨hx1, hr⟩ := hV
  obtain ⟨h1, h⟩ := zx_c1 (show cond (zx_i x) (zx_M x st (fun c => zx_F (cond (Nat.beq (c % 8) 0) (8 * cond (Nat.blt (c / 8 % 4294967296) 2147483648) (c / 8 % 4294967296) (c / 8 % 4294967296 + 18446744069414584320) + 1) (cond (Nat.beq (c % 8) 4) (Nat.succ c) 7)) (fun v => k nxt lv (v :: rr) hp st u w))) false = true from h)
  obtain ⟨x', e1, -, -, m1⟩ := zx_M_ok x st (fun c => zx_F (cond (Nat.beq (c % 8) 0) (8 * cond (Nat.blt (c / 8 % 4294967296) 2147483648) (c / 8 % 4294967296) (c / 8 % 4294967296 + 18446744069414584320) + 1) (cond (Nat.beq (c % 8) 4) (Nat.succ c) 7)) (fun v => k nxt lv (v :: rr) hp st u w))
  rw [e1, zx_F_eq] at h
  obtain ⟨xv, rfl⟩ := zr_int h1 hx1
  have hx1 := m1 σ b as _ hσ hx1
  refine lv_i2l hx hb hdg rfl (hn ▸ kk _ _ _ _ _ _ _ _ _ _ _ h ⟨hσ, hS, as, hH, hL, ?_, hr⟩)
  cases q3 : Nat.beq (x' % 8) 0 with
  | false =>
    cases q4 : Nat.beq (x' % 8) 4 with
    | false => exact zr_anyl
    | true =>
      have q4 := zx_beq.mp q4
      have e1 := Value.int.inj ((zr_4 q4).mp hx1)
      show zr σ b as (Nat.succ x') _
      refine (zr_5 (by omega)).mpr ?_
      rw [e1, show Nat.succ x' / 8 = x' / 8 by omega]
  | true =>
    have e1 := Value.int.inj ((zr_0 (zx_beq.mp q3)).mp hx1)
    show zr σ b as (8 * cond (Nat.blt (x' / 8 % 4294967296) 2147483648) (x' / 8 % 4294967296) (x' / 8 % 4294967296 + 18446744069414584320) + 1) _
    refine (zr_1 (by omega)).mpr ?_
    rw [e1, zn_i2l]
    congr 2
    generalize cond (Nat.blt (x' / 8 % 4294967296) 2147483648) (x' / 8 % 4294967296) (x' / 8 % 4294967296 + 18446744069414584320) = z
    omega
theorem zo_l2i (hx : p.tables.exec = Jvm.exec) (hb : c.code = cc) (hdg : decode cc pc = .ok (.l2i, 1)) (hn : nxt = pc + 1) (h : zh_l2i a a2 nxt d lv stk hp st u w k = true) (r : zr_R G σ b A nL s H locs ls vs lv stk hp st) (kk : zr_KK p l e R s m args below meth c Q G σ b A nL k) : W p l e R s m args below meth c H locs u w Q (F0 m pc ls vs) := by
  obtain ⟨hσ, hS, as, hH, hL, hV⟩ := r
  rcases stk with _ | ⟨x, rr⟩
  · exact absurd h Bool.false_ne_true
  rcases vs with _ | ⟨vx, vr⟩
  · exact hV.elim
  obtain ⟨hx1, hr⟩ := hV
  obtain ⟨h1, h⟩ := zx_c1 (show cond (zx_2 x) (zx_F (cond (Nat.beq (x % 8) 1) (8 * (x / 8 % 4294967296)) 6) (fun v => k nxt lv (v :: rr) hp st u w)) false = true from h)
  rw [zx_F_eq] at h
  obtain ⟨xv, rfl⟩ := zr_long h1 hx1
  refine lv_l2i hx hb hdg rfl (hn ▸ kk _ _ _ _ _ _ _ _ _ _ _ h ⟨hσ, hS, as, hH, hL, ?_, hr⟩)
  cases q3 : Nat.beq (x % 8) 1 with
  | false => exact zr_any
  | true =>
    have e1 := Value.long.inj ((zr_1 (zx_beq.mp q3)).mp hx1)
    show zr σ b as (8 * (x / 8 % 4294967296)) _
    refine (zr_0 (by omega)).mpr ?_
    rw [e1, lN_i, Nat.mul_div_cancel_left _ (by decide), zr_nI_mod]
theorem zo_lshl (hx : p.tables.exec = Jvm.exec) (hb : c.code = cc) (hdg : decode cc pc = .ok (.lshl, 1)) (hn : nxt = pc + 1) (h : zh_lshl a a2 nxt d lv stk hp st u w k = true) (r : zr_R G σ b A nL s H locs ls vs lv stk hp st) (kk : zr_KK p l e R s m args below meth c Q G σ b A nL k) : W p l e R s m args below meth c H locs u w Q (F0 m pc ls vs) := by
  obtain ⟨hσ, hS, as, hH, hL, hV⟩ := r
  rcases stk with _ | ⟨y, _ | ⟨x, rr⟩⟩
  · exact absurd h Bool.false_ne_true
  · exact absurd h Bool.false_ne_true
  rcases vs with _ | ⟨vy, _ | ⟨vx, vr⟩⟩
  · exact hV.elim
  · exact hV.2.elim
  obtain ⟨hy, hx1, hr⟩ := hV
  obtain ⟨h1, h⟩ := zx_c1 (show cond (zx_2 x && zx_i y) (zx_F (cond (Nat.beq (x % 8) 5 && (Nat.beq y 256 && Nat.blt (x / 8) 100)) (8 * (100 + x / 8) + 7) 7) (fun v => k nxt lv (v :: rr) hp st u w)) false = true from h)
  obtain ⟨h1, h2⟩ := zx_an h1
  obtain ⟨xv, rfl⟩ := zr_long h1 hx1
  obtain ⟨yv, rfl⟩ := zr_int h2 hy
  rw [zx_F_eq] at h
  refine lv_lshl hx hb hdg rfl (hn ▸ kk _ _ _ _ _ _ _ _ _ _ _ h ⟨hσ, hS, as, hH, hL, ?_, hr⟩)
  cases q3 : (Nat.beq (x % 8) 5 && (Nat.beq y 256 && Nat.blt (x / 8) 100)) with
  | false => exact zr_anyl
  | true =>
    obtain ⟨q3, q4⟩ := zx_an q3
    obtain ⟨q4, q5⟩ := zx_an q4
    have q5 := zx_blt.mp q5
    rw [zx_beq.mp q4] at hy
    have e1 := Value.long.inj ((zr_5 (zx_beq.mp q3)).mp hx1)
    have e2 := Value.int.inj ((zr_0 rfl).mp hy)
    show zr σ b as (8 * (100 + x / 8) + 7) _
    refine (zr_7 (by omega)).mpr ⟨_, rfl, fun _ => ?_⟩
    rw [show (8 * (100 + x / 8) + 7) / 8 = 100 + x / 8 by omega, e1, e2, zr_l_hi q5, zr_d_s q5]
    rfl
theorem zo_lushr (hx : p.tables.exec = Jvm.exec) (hb : c.code = cc) (hdg : decode cc pc = .ok (.lushr, 1)) (hn : nxt = pc + 1) (h : zh_lushr a a2 nxt d lv stk hp st u w k = true) (r : zr_R G σ b A nL s H locs ls vs lv stk hp st) (kk : zr_KK p l e R s m args below meth c Q G σ b A nL k) : W p l e R s m args below meth c H locs u w Q (F0 m pc ls vs) := by
  obtain ⟨hσ, hS, as, hH, hL, hV⟩ := r
  rcases stk with _ | ⟨y, _ | ⟨x, rr⟩⟩
  · exact absurd h Bool.false_ne_true
  · exact absurd h Bool.false_ne_true
  rcases vs with _ | ⟨vy, _ | ⟨vx, vr⟩⟩
  · exact hV.elim
  · exact hV.2.elim
  obtain ⟨hy, hx1, hr⟩ := hV
  obtain ⟨h1, h⟩ := zx_c1 (show cond (zx_2 x && zx_i y) (k nxt lv (7 :: rr) hp st u w) false = true from h)
  obtain ⟨h1, h2⟩ := zx_an h1
  obtain ⟨xv, rfl⟩ := zr_long h1 hx1
  obtain ⟨yv, rfl⟩ := zr_int h2 hy
  exact lv_lushr hx hb hdg rfl (hn ▸ kk _ _ _ _ _ _ _ _ _ _ _ h ⟨hσ, hS, as, hH, hL, zr_anyl, hr⟩)
theorem zo_land (hx : p.tables.exec = Jvm.exec) (hb : c.code = cc) (hdg : decode cc pc = .ok (.land, 1)) (hn : nxt = pc + 1) (h : zh_land a a2 nxt d lv stk hp st u w k = true) (r : zr_R G σ b A nL s H locs ls vs lv stk hp st) (kk : zr_KK p l e R s m args below meth c Q G σ b A nL k) : W p l e R s m args below meth c H locs u w Q (F0 m pc ls vs) := by
  obtain ⟨hσ, hS, as, hH, hL, hV⟩ := r
  rcases stk with _ | ⟨y, _ | ⟨x, rr⟩⟩
  · exact absurd h Bool.false_ne_true
  · exact absurd h Bool.false_ne_true
  rcases vs with _ | ⟨vy, _ | ⟨vx, vr⟩⟩
  · exact hV.elim
  · exact hV.2.elim
  obtain ⟨hy, hx1, hr⟩ := hV
  obtain ⟨h1, h⟩ := zx_c1 (show cond (zx_2 x && zx_2 y) (zx_F (cond (Nat.beq (x % 8) 5 && (Nat.beq y 34359738361 && Nat.blt (x / 8) 100)) (8 * (200 + x / 8) + 7) 7) (fun v => k nxt lv (v :: rr) hp st u w)) false = true from h)
  obtain ⟨h1, h2⟩ := zx_an h1
  obtain ⟨xv, rfl⟩ := zr_long h1 hx1
  obtain ⟨yv, rfl⟩ := zr_long h2 hy
  rw [zx_F_eq] at h
  refine lv_land hx hb hdg (hn ▸ kk _ _ _ _ _ _ _ _ _ _ _ h ⟨hσ, hS, as, hH, hL, ?_, hr⟩)
  cases q3 : (Nat.beq (x % 8) 5 && (Nat.beq y 34359738361 && Nat.blt (x / 8) 100)) with
  | false => exact zr_anyl
  | true =>
    obtain ⟨q3, q4⟩ := zx_an q3
    obtain ⟨q4, q5⟩ := zx_an q4
    have q4 := zx_beq.mp q4
    have q5 := zx_blt.mp q5
    have q3 := zx_beq.mp q3
    rw [q4] at hy
    have e1 := Value.long.inj ((zr_5 q3).mp hx1)
    have e2 := Value.long.inj ((zr_1 (by decide)).mp hy)
    show zr σ b as (8 * (200 + x / 8) + 7) _
    refine (zr_7 (by omega)).mpr ⟨_, rfl, fun _ => ?_⟩
    rw [show (8 * (200 + x / 8) + 7) / 8 = 200 + x / 8 by omega, e1, e2, zr_l_lo q5, zr_d_s q5]
    rfl
set_option maxRecDepth 20000 in
theorem zo_lor (hx : p.tables.exec = Jvm.exec) (hb : c.code = cc) (hdg : decode cc pc = .ok (.lor, 1)) (hn : nxt = pc + 1) (h : zh_lor a a2 nxt d lv stk hp st u w k = true) (r : zr_R G σ b A nL s H locs ls vs lv stk hp st) (kk : zr_KK p l e R s m args below meth c Q G σ b A nL k) : W p l e R s m args below meth c H locs u w Q (F0 m pc ls vs) := by
  obtain ⟨hσ, hS, as, hH, hL, hV⟩ := r
  rcases stk with _ | ⟨y, _ | ⟨x, rr⟩⟩
  · exact absurd h Bool.false_ne_true
  · exact absurd h Bool.false_ne_true
  rcases vs with _ | ⟨vy, _ | ⟨vx, vr⟩⟩
  · exact hV.elim
  · exact hV.2.elim
  obtain ⟨hy, hx1, hr⟩ := hV
  obtain ⟨h1, h⟩ := zx_c1 (show cond (zx_2 x && zx_2 y) (zx_F (cond (Nat.beq (x % 8) 7 && (Nat.beq (y % 8) 7 && (Nat.ble 100 (x / 8) && (Nat.blt (x / 8) 108 && (Nat.ble 200 (y / 8) && Nat.blt (y / 8) 208))))) (8 * (1000 + 8 * (x / 8 - 100) + (y / 8 - 200)) + 7) 7) (fun v => k nxt lv (v :: rr) hp st u w)) false = true from h)
  obtain ⟨h1, h2⟩ := zx_an h1
  obtain ⟨xv, rfl⟩ := zr_long h1 hx1
  obtain ⟨yv, rfl⟩ := zr_long h2 hy
  rw [zx_F_eq] at h
  refine lv_lor hx hb hdg (hn ▸ kk _ _ _ _ _ _ _ _ _ _ _ h ⟨hσ, hS, as, hH, hL, ?_, hr⟩)
  cases q3 : (Nat.beq (x % 8) 7 && (Nat.beq (y % 8) 7 && (Nat.ble 100 (x / 8) && (Nat.blt (x / 8) 108 && (Nat.ble 200 (y / 8) && Nat.blt (y / 8) 208))))) with
  | false => exact zr_anyl
  | true =>
    have q := zx_an q3
    have q1 := q.1
    have q := zx_an q.2
    have q2 := q.1
    have q := zx_an q.2
    have q3 := q.1
    have q := zx_an q.2
    have q4 := q.1
    have q := zx_an q.2
    have q5 := q.1
    have q6 := q.2
    have q1 := zx_beq.mp q1
    have q2 := zx_beq.mp q2
    have q3 := zx_ble.mp q3
    have q4 := zx_blt.mp q4
    have q5 := zx_ble.mp q5
    have q6 := zx_blt.mp q6
    obtain ⟨x1, e1, f1⟩ := (zr_7 q1).mp hx1
    obtain ⟨y1, e2, f2⟩ := (zr_7 q2).mp hy
    cases e1
    cases e2
    have f1 := f1 (by omega)
    have f2 := f2 (by omega)
    show zr σ b as (8 * (1000 + 8 * (x / 8 - 100) + (y / 8 - 200)) + 7) _
    refine (zr_7 (by omega)).mpr ⟨_, rfl, fun _ => ?_⟩
    rw [show (8 * (1000 + 8 * (x / 8 - 100) + (y / 8 - 200)) + 7) / 8 = 1000 + 8 * (x / 8 - 100) + (y / 8 - 200) by omega, f1, f2, zr_l_pair (by omega)]
    rw [show zr_l σ (x / 8) = zr_hi σ (x / 8 - 100) by rw [← zr_l_hi (by omega), show 100 + (x / 8 - 100) = x / 8 by omega]]
    rw [show zr_l σ (y / 8) = zr_lo σ (y / 8 - 200) by rw [← zr_l_lo (by omega), show 200 + (y / 8 - 200) = y / 8 by omega]]
theorem zo_dup (hx : p.tables.exec = Jvm.exec) (hb : c.code = cc) (hdg : decode cc pc = .ok (.dup, 1)) (hn : nxt = pc + 1) (h : zh_dup a a2 nxt d lv stk hp st u w k = true) (r : zr_R G σ b A nL s H locs ls vs lv stk hp st) (kk : zr_KK p l e R s m args below meth c Q G σ b A nL k) : W p l e R s m args below meth c H locs u w Q (F0 m pc ls vs) := by
  obtain ⟨hσ, hS, as, hH, hL, hV⟩ := r
  rcases stk with _ | ⟨x, rr⟩
  · exact absurd h Bool.false_ne_true
  rcases vs with _ | ⟨vx, vr⟩
  · exact hV.elim
  obtain ⟨h1, h⟩ := zx_c0 (show cond (zx_2 x) false (k nxt lv (x :: x :: rr) hp st u w) = true from h)
  exact lv_dup hx hb hdg (zr_cat1 h1 hV.1) (hn ▸ kk _ _ _ _ _ _ _ _ _ _ _ h ⟨hσ, hS, as, hH, hL, hV.1, hV⟩)
theorem zo_pop (hx : p.tables.exec = Jvm.exec) (hb : c.code = cc) (hdg : decode cc pc = .ok (.pop, 1)) (hn : nxt = pc + 1) (h : zh_pop a a2 nxt d lv stk hp st u w k = true) (r : zr_R G σ b A nL s H locs ls vs lv stk hp st) (kk : zr_KK p l e R s m args below meth c Q G σ b A nL k) : W p l e R s m args below meth c H locs u w Q (F0 m pc ls vs) := by
  obtain ⟨hσ, hS, as, hH, hL, hV⟩ := r
  rcases stk with _ | ⟨x, rr⟩
  · exact absurd h Bool.false_ne_true
  rcases vs with _ | ⟨vx, vr⟩
  · exact hV.elim
  obtain ⟨h1, h⟩ := zx_c0 (show cond (zx_2 x) false (k nxt lv rr hp st u w) = true from h)
  exact lv_pop hx hb hdg (zr_cat1 h1 hV.1) (hn ▸ kk _ _ _ _ _ _ _ _ _ _ _ h ⟨hσ, hS, as, hH, hL, hV.2⟩)
theorem zo_dupx1 (hx : p.tables.exec = Jvm.exec) (hb : c.code = cc) (hdg : decode cc pc = .ok (.dup_x1, 1)) (hn : nxt = pc + 1) (h : zh_dupx1 a a2 nxt d lv stk hp st u w k = true) (r : zr_R G σ b A nL s H locs ls vs lv stk hp st) (kk : zr_KK p l e R s m args below meth c Q G σ b A nL k) : W p l e R s m args below meth c H locs u w Q (F0 m pc ls vs) := by
  obtain ⟨hσ, hS, as, hH, hL, hV⟩ := r
  rcases stk with _ | ⟨y, _ | ⟨x, rr⟩⟩
  · exact absurd h Bool.false_ne_true
  · exact absurd h Bool.false_ne_true
  rcases vs with _ | ⟨vy, _ | ⟨vx, vr⟩⟩
  · exact hV.elim
  · exact hV.2.elim
  obtain ⟨hy, hx1, hr⟩ := hV
  obtain ⟨h1, h⟩ := zx_c0 (show cond (zx_2 y || zx_2 x) false (k nxt lv (y :: x :: y :: rr) hp st u w) = true from h)
  have h1 := Bool.or_eq_false_iff.mp h1
  exact lv_dup_x1 hx hb hdg (zr_cat1 h1.1 hy) (zr_cat1 h1.2 hx1) (hn ▸ kk _ _ _ _ _ _ _ _ _ _ _ h ⟨hσ, hS, as, hH, hL, hy, hx1, hy, hr⟩)
theorem zo_goto {off : Int} (hx : p.tables.exec = Jvm.exec) (hb : c.code = cc) (hdg : decode cc pc = .ok (.goto off, 3)) (ht : (pc : Int) + off = (a : Int)) (h : zh_goto a a2 nxt d lv stk hp st u w k = true) (r : zr_R G σ b A nL s H locs ls vs lv stk hp st) (kk : zr_KK p l e R s m args below meth c Q G σ b A nL k) : W p l e R s m args below meth c H locs u w Q (F0 m pc ls vs) :=
  lv_goto hx hb hdg ht (kk _ _ _ _ _ _ _ _ _ _ _ h r)
end ZO2
end
section
theorem zt_1 {p q : Nat} : zx_T 1 (zx_ord p q) = true ↔ p < q := by
  rcases Nat.lt_trichotomy p q with h | h | h
  · rw [zx_ord_0.mpr h]; exact ⟨fun _ => h, fun _ => by decide⟩
  · rw [zx_ord_1.mpr h]; exact ⟨fun g => absurd g (by decide), fun g => absurd g (by omega)⟩
  · rw [zx_ord_2.mpr h]; exact ⟨fun g => absurd g (by decide), fun g => absurd g (by omega)⟩
theorem zt_2 {p q : Nat} : zx_T 2 (zx_ord p q) = true ↔ p = q := by
  rcases Nat.lt_trichotomy p q with h | h | h
  · rw [zx_ord_0.mpr h]; exact ⟨fun g => absurd g (by decide), fun g => absurd g (by omega)⟩
  · rw [zx_ord_1.mpr h]; exact ⟨fun _ => h, fun _ => by decide⟩
  · rw [zx_ord_2.mpr h]; exact ⟨fun g => absurd g (by decide), fun g => absurd g (by omega)⟩
theorem zt_3 {p q : Nat} : zx_T 3 (zx_ord p q) = true ↔ p ≤ q := by
  rcases Nat.lt_trichotomy p q with h | h | h
  · rw [zx_ord_0.mpr h]; exact ⟨fun _ => by omega, fun _ => by decide⟩
  · rw [zx_ord_1.mpr h]; exact ⟨fun _ => by omega, fun _ => by decide⟩
  · rw [zx_ord_2.mpr h]; exact ⟨fun g => absurd g (by decide), fun g => absurd g (by omega)⟩
theorem zt_4 {p q : Nat} : zx_T 4 (zx_ord p q) = true ↔ q < p := by
  rcases Nat.lt_trichotomy p q with h | h | h
  · rw [zx_ord_0.mpr h]; exact ⟨fun g => absurd g (by decide), fun g => absurd g (by omega)⟩
  · rw [zx_ord_1.mpr h]; exact ⟨fun g => absurd g (by decide), fun g => absurd g (by omega)⟩
  · rw [zx_ord_2.mpr h]; exact ⟨fun _ => h, fun _ => by decide⟩
theorem zt_5 {p q : Nat} : zx_T 5 (zx_ord p q) = true ↔ ¬ p = q := by
  rcases Nat.lt_trichotomy p q with h | h | h
  · rw [zx_ord_0.mpr h]; exact ⟨fun _ => by omega, fun _ => by decide⟩
  · rw [zx_ord_1.mpr h]; exact ⟨fun g => absurd g (by decide), fun g => absurd h g⟩
  · rw [zx_ord_2.mpr h]; exact ⟨fun _ => by omega, fun _ => by decide⟩
theorem zt_6 {p q : Nat} : zx_T 6 (zx_ord p q) = true ↔ q ≤ p := by
  rcases Nat.lt_trichotomy p q with h | h | h
  · rw [zx_ord_0.mpr h]; exact ⟨fun g => absurd g (by decide), fun g => absurd g (by omega)⟩
  · rw [zx_ord_1.mpr h]; exact ⟨fun _ => by omega, fun _ => by decide⟩
  · rw [zx_ord_2.mpr h]; exact ⟨fun _ => by omega, fun _ => by decide⟩
theorem zx_cT {c a b : Bool} {P : Prop} (hc : c = true ↔ P) (h : cond c a b = true) : (P → a = true) ∧ (¬ P → b = true) := by
  cases c with
  | true => exact ⟨fun _ => h, fun g => absurd (hc.mp rfl) g⟩
  | false => exact ⟨fun g => absurd (hc.mpr g) Bool.false_ne_true, fun _ => h⟩
def zx_cd (b : Nat) : ClassFile.Cond := if b = 2 then .eq else if b = 5 then .ne else if b = 1 then .lt else if b = 6 then .ge else if b = 4 then .gt else .le
theorem zn_cmp {x y : Int64} {p q : Nat} (h : x.toInt < y.toInt ↔ p < q) (h2 : x.toInt = y.toInt ↔ p = q) : lg_cmp x y = nI (cond (Nat.beq (zx_ord p q) 0) 4294967295 (zx_ord p q - 1)) := by
  rcases Nat.lt_trichotomy p q with g | g | g
  · rw [zx_ord_0.mpr g]
    have h3 := h.mpr g
    have a1 : ¬ y < x := by rw [Int64.lt_iff_toInt_lt]; omega
    have a2 : ¬ x = y := fun q => by rw [q] at h3; omega
    simp [lg_cmp, a1, a2]
    decide
  · rw [zx_ord_1.mpr g]
    have h3 : x = y := Int64.toInt_inj.mp (h2.mpr g)
    subst h3
    simp [lg_cmp]
    decide
  · rw [zx_ord_2.mpr g]
    have h3 : y.toInt < x.toInt := by
      rcases Int.lt_trichotomy x.toInt y.toInt with c | c | c
      · exact absurd (h.mp c) (by omega)
      · exact absurd (h2.mp c) (by omega)
      · exact c
    have a1 : y < x := by rw [Int64.lt_iff_toInt_lt]; exact h3
    simp [lg_cmp, a1]
    decide
section ZB
variable {p : Program} {l : Launch} {e : Env} {R : Room} {s : State} {m : MethodId} {args : Array Value} {below : List Frame} {meth : Method} {c : Code} {Q : State → Prop} {cc : ByteArray} {nL : Nat} {G : va_G} {σ : Nat → Int32} {b : zxBB} {A : Nat → Prop} {pc a a2 nxt : Nat} {d : List Nat} {lv : zxLV} {stk : List Nat} {hp : zxHP} {st : zxST} {u w : Nat} {k : zxKT} {H : Heap} {locs : List Loc} {ls : Array Slot} {vs : List Value}
theorem zo_icmp {off : Int} (hx : p.tables.exec = Jvm.exec) (hb : c.code = cc) (hdg : decode cc pc = .ok (.if_icmp (zx_cd a2) off, 3)) (ha2 : 1 ≤ a2 ∧ a2 ≤ 6) (ht : (pc : Int) + off = (a : Int)) (hn : nxt = pc + 3) (h : zh_icmp a a2 nxt d lv stk hp st u w k = true) (r : zr_R G σ b A nL s H locs ls vs lv stk hp st) (kk : zr_KK p l e R s m args below meth c Q G σ b A nL k) : W p l e R s m args below meth c H locs u w Q (F0 m pc ls vs) := by
  obtain ⟨hσ, hS, as, hH, hL, hV⟩ := r
  rcases stk with _ | ⟨y, _ | ⟨x, rr⟩⟩
  · exact absurd h Bool.false_ne_true
  · exact absurd h Bool.false_ne_true
  rcases vs with _ | ⟨vy, _ | ⟨vx, vr⟩⟩
  · exact hV.elim
  · exact hV.2.elim
  obtain ⟨hy, hx1, hr⟩ := hV
  have h : (zx_i x && zx_i y) = true ∧ zx_K x y st (fun o s => cond (zx_T a2 o) (k a lv rr hp s u w) (k nxt lv rr hp s u w)) = true := zx_c1 h
  obtain ⟨h1, h⟩ := h
  obtain ⟨h1, h2⟩ := zx_an h1
  obtain ⟨xv, rfl⟩ := zr_int h1 hx1
  obtain ⟨yv, rfl⟩ := zr_int h2 hy
  obtain ⟨s2, h, hσ2⟩ := zx_K_ok h hσ hx1 hy
  have kt : k a lv rr hp s2 u w = true → W p l e R s m args below meth c H locs u w Q (F0 m a ls vr) := fun q => kk _ _ _ _ _ _ _ _ _ _ _ q ⟨hσ2, hS, as, hH, hL, hr⟩
  have kf : k nxt lv rr hp s2 u w = true → W p l e R s m args below meth c H locs u w Q (F0 m (pc + 3) ls vr) := fun q => hn ▸ kk _ _ _ _ _ _ _ _ _ _ _ q ⟨hσ2, hS, as, hH, hL, hr⟩
  rcases (show a2 = 1 ∨ a2 = 2 ∨ a2 = 3 ∨ a2 = 4 ∨ a2 = 5 ∨ a2 = 6 by omega) with q | q | q | q | q | q
  · rw [q] at hdg h
    obtain ⟨g1, g2⟩ := zx_cT (zt_1.trans zr_lt.symm) h
    exact lv_icmp_lt hx hb hdg ht (fun hc => kt (g1 hc)) (fun hc => kf (g2 hc))
  · rw [q] at hdg h
    obtain ⟨g1, g2⟩ := zx_cT (zt_2.trans zr_eq.symm) h
    exact lv_icmp_eq hx hb hdg ht (fun hc => kt (g1 hc)) (fun hc => kf (g2 hc))
  · rw [q] at hdg h
    obtain ⟨g1, g2⟩ := zx_cT (zt_3.trans zr_le.symm) h
    exact lv_icmp_le hx hb hdg ht (fun hc => kt (g1 hc)) (fun hc => kf (g2 hc))
  · rw [q] at hdg h
    obtain ⟨g1, g2⟩ := zx_cT (zt_4.trans zr_lt.symm) h
    exact lv_icmp_gt hx hb hdg ht (fun hc => kt (g1 hc)) (fun hc => kf (g2 hc))
  · rw [q] at hdg h
    obtain ⟨g1, g2⟩ := zx_cT (zt_5.trans (not_congr zr_eq.symm)) h
    exact lv_icmp_ne hx hb hdg ht (fun hc => kt (g1 hc)) (fun hc => kf (g2 (fun q => q hc)))
  · rw [q] at hdg h
    obtain ⟨g1, g2⟩ := zx_cT (zt_6.trans zr_le.symm) h
    exact lv_icmp_ge hx hb hdg ht (fun hc => kt (g1 hc)) (fun hc => kf (g2 hc))
theorem zo_if {off : Int} (hx : p.tables.exec = Jvm.exec) (hb : c.code = cc) (hdg : decode cc pc = .ok (.ifCond (zx_cd a2) off, 3)) (ha2 : 1 ≤ a2 ∧ a2 ≤ 6) (ht : (pc : Int) + off = (a : Int)) (hn : nxt = pc + 3) (h : zh_if a a2 nxt d lv stk hp st u w k = true) (r : zr_R G σ b A nL s H locs ls vs lv stk hp st) (kk : zr_KK p l e R s m args below meth c Q G σ b A nL k) : W p l e R s m args below meth c H locs u w Q (F0 m pc ls vs) := by
  obtain ⟨hσ, hS, as, hH, hL, hV⟩ := r
  rcases stk with _ | ⟨x, rr⟩
  · exact absurd h Bool.false_ne_true
  rcases vs with _ | ⟨vx, vr⟩
  · exact hV.elim
  obtain ⟨hx1, hr⟩ := hV
  have h : zx_i x = true ∧ zx_K x 0 st (fun o s => cond (zx_T a2 o) (k a lv rr hp s u w) (k nxt lv rr hp s u w)) = true := zx_c1 h
  obtain ⟨h1, h⟩ := h
  obtain ⟨xv, rfl⟩ := zr_int h1 hx1
  have hy : zr σ b as 0 (.int (0 : Int32)) := (zr_0 rfl).mpr (by rw [← nI_0])
  obtain ⟨s2, h, hσ2⟩ := zx_K_ok h hσ hx1 hy
  have kt : k a lv rr hp s2 u w = true → W p l e R s m args below meth c H locs u w Q (F0 m a ls vr) := fun q => kk _ _ _ _ _ _ _ _ _ _ _ q ⟨hσ2, hS, as, hH, hL, hr⟩
  have kf : k nxt lv rr hp s2 u w = true → W p l e R s m args below meth c H locs u w Q (F0 m (pc + 3) ls vr) := fun q => hn ▸ kk _ _ _ _ _ _ _ _ _ _ _ q ⟨hσ2, hS, as, hH, hL, hr⟩
  rcases (show a2 = 1 ∨ a2 = 2 ∨ a2 = 3 ∨ a2 = 4 ∨ a2 = 5 ∨ a2 = 6 by omega) with q | q | q | q | q | q
  · rw [q] at hdg h
    obtain ⟨g1, g2⟩ := zx_cT (zt_1.trans zr_lt.symm) h
    exact lv_if_lt hx hb hdg ht (fun hc => kt (g1 hc)) (fun hc => kf (g2 hc))
  · rw [q] at hdg h
    obtain ⟨g1, g2⟩ := zx_cT (zt_2.trans zr_eq.symm) h
    exact lv_if_eq hx hb hdg ht (fun hc => kt (g1 hc)) (fun hc => kf (g2 hc))
  · rw [q] at hdg h
    obtain ⟨g1, g2⟩ := zx_cT (zt_3.trans zr_le.symm) h
    exact lv_if_le hx hb hdg ht (fun hc => kt (g1 hc)) (fun hc => kf (g2 hc))
  · rw [q] at hdg h
    obtain ⟨g1, g2⟩ := zx_cT (zt_4.trans zr_lt.symm) h
    exact lv_if_gt hx hb hdg ht (fun hc => kt (g1 hc)) (fun hc => kf (g2 hc))
  · rw [q] at hdg h
    obtain ⟨g1, g2⟩ := zx_cT (zt_5.trans (not_congr zr_eq.symm)) h
    exact lv_if_ne hx hb hdg ht (fun hc => kt (g1 hc)) (fun hc => kf (g2 (fun q => q hc)))
  · rw [q] at hdg h
    obtain ⟨g1, g2⟩ := zx_cT (zt_6.trans zr_le.symm) h
    exact lv_if_ge hx hb hdg ht (fun hc => kt (g1 hc)) (fun hc => kf (g2 hc))
theorem zn_w (p : Nat) : (zx_w p : Int) = (lN p).toInt + 9223372036854775808 := by
  rw [zn_lN_toInt]
  unfold zx_w
  rw [Int.bmod_def]
  omega
theorem zx_sm_ok {p : Nat} (h : zx_sm p = true) : (lN p).toInt = ((zx_lb p : Nat) : Int) - 2147483648 := by
  have hw := zn_w p
  unfold zx_w at hw
  unfold zx_lb
  rcases Bool.or_eq_true_iff.mp h with g | g
  · have g := zx_blt.mp g
    omega
  · have g1 := zx_ble.mp (zx_an g).1
    have g2 := zx_blt.mp (zx_an g).2
    omega
set_option maxRecDepth 20000 in
theorem zo_lcmp (hx : p.tables.exec = Jvm.exec) (hb : c.code = cc) (hdg : decode cc pc = .ok (.lcmp, 1)) (hn : nxt = pc + 1) (h : zh_lcmp a a2 nxt d lv stk hp st u w k = true) (r : zr_R G σ b A nL s H locs ls vs lv stk hp st) (kk : zr_KK p l e R s m args below meth c Q G σ b A nL k) : W p l e R s m args below meth c H locs u w Q (F0 m pc ls vs) := by
  obtain ⟨hσ, hS, as, hH, hL, hV⟩ := r
  rcases stk with _ | ⟨y, _ | ⟨x, rr⟩⟩
  · exact absurd h Bool.false_ne_true
  · exact absurd h Bool.false_ne_true
  rcases vs with _ | ⟨vy, _ | ⟨vx, vr⟩⟩
  · exact hV.elim
  · exact hV.2.elim
  obtain ⟨hy, hx1, hr⟩ := hV
  rcases zx_ct h with ⟨h1, h2⟩ | ⟨-, h2⟩
  · have e1 := (zr_1 (zx_beq.mp h1)).mp hx1
    rcases zx_ct h2 with ⟨h3, h4⟩ | ⟨-, h4⟩
    · have e2 := (zr_1 (zx_beq.mp h3)).mp hy
      subst e1
      subst e2
      rw [zx_F_eq] at h4
      refine W.lcmp hx hb hdg (hn ▸ kk _ _ _ _ _ _ _ _ _ _ _ h4 ⟨hσ, hS, as, hH, hL, ?_, hr⟩)
      have w1 := zn_w (x / 8)
      have w2 := zn_w (y / 8)
      rw [zn_cmp (p := zx_w (x / 8)) (q := zx_w (y / 8)) (by omega) (by omega)]
      generalize zx_w (x / 8) = P
      generalize zx_w (y / 8) = Q2
      have hz : (cond (Nat.blt P Q2) 4294967295 (cond (Nat.beq P Q2) 0 1)) = cond (Nat.beq (zx_ord P Q2) 0) 4294967295 (zx_ord P Q2 - 1) := by
        unfold zx_ord
        cases Nat.blt P Q2 <;> cases Nat.beq P Q2 <;> rfl
      rw [hz]
      refine (zr_0 (by omega)).mpr ?_
      rw [Nat.mul_div_cancel_left _ (by decide)]
    · obtain ⟨h3, h4⟩ := zx_c1 h4
      have g1 := zx_an h3
      have g2 := zx_an g1.2
      have h5 := zx_blt.mp g2.1
      have h8 := zx_blt.mp g2.2
      have e2 := (zr_5 (zx_beq.mp g1.1)).mp hy
      subst e1
      subst e2
      rw [zx_F_eq, zx_F_eq] at h4
      obtain ⟨s2, h7, hσ2⟩ := zx_X_ok h4 hσ
      rw [zx_F_eq, zx_ord_sw] at h7
      refine W.lcmp hx hb hdg (hn ▸ kk _ _ _ _ _ _ _ _ _ _ _ h7 ⟨hσ2, hS, as, hH, hL, ?_, hr⟩)
      have w1 := zr_b_toInt (zr_d σ (y / 8))
      have w2 : (lN (x / 8)).toInt = ((x / 8 : Nat) : Int) := lN_toInt h8
      have w3 := Int32.toInt_toInt64 (zr_d σ (y / 8))
      rw [zr_n_s h5]
      rw [zn_cmp (p := x / 8 + 2147483648) (q := zr_b (zr_d σ (y / 8))) (by rw [w2, w3]; omega) (by rw [w2, w3]; omega)]
      refine (zr_0 (by omega)).mpr ?_
      rw [Nat.mul_div_cancel_left _ (by decide)]
  · obtain ⟨h3, h4⟩ := zx_c1 h2
    obtain ⟨h3, h5⟩ := zx_an h3
    have h5 := zx_blt.mp h5
    have e1 := (zr_5 (zx_beq.mp h3)).mp hx1
    subst e1
    rcases zx_ct h4 with ⟨h6, h7⟩ | ⟨-, h7⟩
    · obtain ⟨h6, h8⟩ := zx_an h6
      have h8 := zx_sm_ok h8
      have e2 := (zr_1 (zx_beq.mp h6)).mp hy
      subst e2
      rw [zx_F_eq, zx_F_eq] at h7
      obtain ⟨s2, h7, hσ2⟩ := zx_X_ok h7 hσ
      rw [zx_F_eq] at h7
      refine W.lcmp hx hb hdg (hn ▸ kk _ _ _ _ _ _ _ _ _ _ _ h7 ⟨hσ2, hS, as, hH, hL, ?_, hr⟩)
      have w1 := zr_b_toInt (zr_d σ (x / 8))
      have w2 : (lN (y / 8)).toInt = ((zx_lb (y / 8) : Nat) : Int) - 2147483648 := h8
      have w3 := Int32.toInt_toInt64 (zr_d σ (x / 8))
      rw [zr_n_s h5]
      rw [zn_cmp (p := zr_b (zr_d σ (x / 8))) (q := zx_lb (y / 8)) (by rw [w2, w3]; omega) (by rw [w2, w3]; omega)]
      refine (zr_0 (by omega)).mpr ?_
      rw [Nat.mul_div_cancel_left _ (by decide)]
    · obtain ⟨h6, h7⟩ := zx_c1 h7
      have e2 := (zr_5 (zx_beq.mp h6)).mp hy
      subst e2
      rw [zx_F_eq, zx_F_eq] at h7
      obtain ⟨s2, h7, hσ2⟩ := zx_Y_ok h7 hσ
      rw [zx_F_eq] at h7
      refine W.lcmp hx hb hdg (hn ▸ kk _ _ _ _ _ _ _ _ _ _ _ h7 ⟨hσ2, hS, as, hH, hL, ?_, hr⟩)
      have w1 := zr_b_toInt (zr_d σ (x / 8))
      have w2 := zr_b_toInt (zr_d σ (y / 8))
      have w3 := Int32.toInt_toInt64 (zr_d σ (x / 8))
      have w4 := Int32.toInt_toInt64 (zr_d σ (y / 8))
      rw [zn_cmp (p := zr_b (zr_d σ (x / 8))) (q := zr_b (zr_d σ (y / 8))) (by rw [w3, w4]; omega) (by rw [w3, w4]; omega)]
      refine (zr_0 (by omega)).mpr ?_
      rw [Nat.mul_div_cancel_left _ (by decide)]
theorem zx_W_ok {dflt id : Nat} {kk : Nat → zxST → Bool} : ∀ {d : List Nat} {b : Nat} {st : zxST}, zx_W d dflt id kk b st = true → zr_in σ st → ∃ st', kk (if zr_n σ id < b then dflt else zx_N dflt d (zr_n σ id - b)) st' = true ∧ zr_in σ st'
  | [], b, st, h, hσ => by
    refine ⟨st, ?_, hσ⟩
    rw [show (if zr_n σ id < b then dflt else zx_N dflt [] (zr_n σ id - b)) = dflt by split <;> rfl]
    exact h
  | t :: ts, b, st, h, hσ => by
    obtain ⟨s2, h, hσ2⟩ := zx_X_ok (show zx_X st id b (fun o s2 => cond (Nat.beq o 0) (kk dflt s2) (cond (Nat.beq o 1) (kk t s2) (zx_F (Nat.succ b) (fun b2 => zx_W ts dflt id kk b2 s2)))) = true from h) hσ
    rcases Nat.lt_trichotomy (zr_n σ id) b with g | g | g
    · rw [zx_ord_0.mpr g] at h
      rw [if_pos g]
      exact ⟨s2, h, hσ2⟩
    · rw [zx_ord_1.mpr g] at h
      rw [if_neg (by omega), show zr_n σ id - b = 0 by omega]
      exact ⟨s2, h, hσ2⟩
    · rw [zx_ord_2.mpr g] at h
      have h : zx_F (Nat.succ b) (fun b2 => zx_W ts dflt id kk b2 s2) = true := h
      rw [zx_F_eq] at h
      obtain ⟨s3, h, hσ3⟩ := zx_W_ok h hσ2
      rw [if_neg (by omega)] at h
      rw [if_neg (by omega), show zr_n σ id - b = (zr_n σ id - Nat.succ b) + 1 by omega]
      exact ⟨s3, h, hσ3⟩
theorem zo_switchW {x : Int32} {len t : Nat} (hx : p.tables.exec = Jvm.exec) (hb : c.code = cc) (hdg : decode cc pc = .ok (.tableswitch ((a : Int) - pc) ((a2 : Int) - 2147483648) ((a2 : Int) - 2147483648 + d.length - 1) (d.map (fun t : Nat => (t : Int) - (pc : Int))).toArray, len))
    (ht : t = if zr_b x < a2 then a else zx_N a d (zr_b x - a2)) (kW : W p l e R s m args below meth c H locs u w Q (F0 m t ls vs)) : W p l e R s m args below meth c H locs u w Q (F0 m pc ls (.int x :: vs)) := by
  have hz := zr_b_toInt x
  by_cases h1 : zr_b x < a2
  · rw [if_pos h1] at ht
    subst ht
    exact lv_tableOut hx hb hdg (Or.inl (by omega)) (by omega) kW
  · rw [if_neg h1, zx_N_eq] at ht
    by_cases h2 : zr_b x - a2 < d.length
    · rw [List.getElem?_eq_getElem h2] at ht
      refine lv_tableIn hx hb hdg (by omega) (by omega) (off := (d[zr_b x - a2] : Int) - pc) ?_ (by rw [ht]; simp only [Option.getD_some]; omega) kW
      rw [show (x.toInt - ((a2 : Int) - 2147483648)).toNat = zr_b x - a2 by omega]
      simp [h2]
    · rw [List.getElem?_eq_none (by omega)] at ht
      have ht : t = a := ht
      subst ht
      exact lv_tableOut hx hb hdg (Or.inr (by omega)) (by omega) kW
theorem zo_switch {len : Nat} (hx : p.tables.exec = Jvm.exec) (hb : c.code = cc) (hdg : decode cc pc = .ok (.tableswitch ((a : Int) - pc) ((a2 : Int) - 2147483648) ((a2 : Int) - 2147483648 + d.length - 1) (d.map (fun t : Nat => (t : Int) - (pc : Int))).toArray, len)) (h : zh_switch a a2 nxt d lv stk hp st u w k = true) (r : zr_R G σ b A nL s H locs ls vs lv stk hp st) (kk : zr_KK p l e R s m args below meth c Q G σ b A nL k) : W p l e R s m args below meth c H locs u w Q (F0 m pc ls vs) := by
  obtain ⟨hσ, hS, as, hH, hL, hV⟩ := r
  rcases stk with _ | ⟨x, rr⟩
  · exact absurd h Bool.false_ne_true
  rcases vs with _ | ⟨vx, vr⟩
  · exact hV.elim
  obtain ⟨hx1, hr⟩ := hV
  obtain ⟨x', e1, -, -, m1⟩ := zx_M_ok x st (fun c => cond (Nat.beq (c % 8) 0) (zx_F (cond (Nat.blt (zx_u (c / 8)) a2) a (zx_N a d (zx_u (c / 8) - a2))) (fun t => k t lv rr hp st u w)) (cond (Nat.beq (c % 8) 4 && Nat.blt (c / 8) 300) (zx_F (c / 8) (fun id => zx_W d a id (fun t s => k t lv rr hp s u w) a2 st)) false))
  have h := e1.symm.trans (show zx_M x st (fun c => cond (Nat.beq (c % 8) 0) (zx_F (cond (Nat.blt (zx_u (c / 8)) a2) a (zx_N a d (zx_u (c / 8) - a2))) (fun t => k t lv rr hp st u w)) (cond (Nat.beq (c % 8) 4 && Nat.blt (c / 8) 300) (zx_F (c / 8) (fun id => zx_W d a id (fun t s => k t lv rr hp s u w) a2 st)) false)) = true from h)
  have hx1 := m1 σ b as _ hσ hx1
  rcases zx_ct h with ⟨h1, h⟩ | ⟨-, h⟩
  · have e2 := (zr_0 (zx_beq.mp h1)).mp hx1
    subst e2
    rw [zx_F_eq] at h
    refine zo_switchW hx hb hdg ?_ (kk _ _ _ _ _ _ _ _ _ _ _ h ⟨hσ, hS, as, hH, hL, hr⟩)
    rw [zr_b_nI]
    by_cases g : zx_u (x' / 8) < a2
    · rw [zx_blt.mpr g, if_pos g]; rfl
    · rw [zx_nblt.mpr g, if_neg g]; rfl
  · obtain ⟨h1, h⟩ := zx_c1 h
    obtain ⟨h1, h2⟩ := zx_an h1
    have h2 := zx_blt.mp h2
    have e2 := (zr_4 (zx_beq.mp h1)).mp hx1
    subst e2
    rw [zx_F_eq] at h
    obtain ⟨s2, h, hσ2⟩ := zx_W_ok h hσ
    rw [zr_n_s h2] at h
    exact zo_switchW hx hb hdg rfl (kk _ _ _ _ _ _ _ _ _ _ _ h ⟨hσ2, hS, as, hH, hL, hr⟩)
end ZB
end
section
/-- the tables' words that outlast a call -/
def zk_T : List Cond := lw_tbl.filter goodWord
theorem zk_mem {w : Cond} (h : w ∈ lw_tbl) (hg : goodWord w = true) : w ∈ zk_T := List.mem_filter.mpr ⟨h, hg⟩
theorem zk_good {big ws : List Cond} (hb : ∀ w ∈ zk_T, w ∈ big) (h : ∀ w ∈ ws, w ∈ zk_T) : GoodIn big ws := fun w hw => ⟨hb w (h w hw), good_of_word (List.mem_filter.mp (h w hw)).2⟩
/-- what every class of the worlds brings -/
def zk_C : Prop := ∀ (ci : Nat) (C : String) (T : u_T) (N : Nat), vwCl[ci]? = some (C, T, N) → (∀ w ∈ u_ws C T N, w ∈ zk_T) ∧ ∃ ty0 : Nat → FieldType, (∀ k, k < N → parseFieldDescriptor (T k).2.2.1 = some (ty0 k)) ∧ (∀ a, a < N → ∀ b, b < N → a ≠ b → (T a).2.1 ≠ (T b).2.1)
/-- getfield's row -/
def zk_get (own : String) (a b : Nat) (d : List Nat) : Prop := ∀ t ∈ d, 16 ≤ t ∧ ∃ (C : String) (T : u_T) (N : Nat) (ref : String), vwCl[t - 16]? = some (C, T, N) ∧ b < N ∧ Cond.fieldLink own a ref (T b).2.1 (T b).2.2.1 ∈ zk_T ∧ ((T b).1 = ref ∨ Cond.sameField ref (T b).1 (T b).2.1 (T b).2.2.1 ∈ zk_T)
def zk_sort (sort : Nat) (ty : FieldType) : Prop := (sort = 0 ∧ ty = .int) ∨ (sort = 1 ∧ ty = .boolean) ∨ (sort = 2 ∧ ty = .long) ∨ (sort = 3 ∧ ((∃ n, ty = .object n) ∨ ∃ t, ty = .array t))
def zk_put (fin : Bool) (own : String) (a b : Nat) (d : List Nat) : Prop := ∀ t ∈ d, 16 ≤ t ∧ ∃ (C : String) (T : u_T) (N : Nat) (ref : String), vwCl[t - 16]? = some (C, T, N) ∧ b % 64 < N ∧ Cond.fieldLink own a ref (T (b % 64)).2.1 (T (b % 64)).2.2.1 ∈ zk_T ∧ ((T (b % 64)).1 = ref ∨ Cond.sameField ref (T (b % 64)).1 (T (b % 64)).2.1 (T (b % 64)).2.2.1 ∈ zk_T) ∧ (T (b % 64)).2.2.2 = fin ∧ (fin = true → (T (b % 64)).1 = own) ∧ ∃ ty, parseFieldDescriptor (T (b % 64)).2.2.1 = some ty ∧ zk_sort (b / 64 % 4) ty
theorem zx_mem_ok {t : Nat} : ∀ {d : List Nat}, zx_mem t d = true → t ∈ d
  | [], h => absurd h Bool.false_ne_true
  | x :: l, h => by
    rcases zx_ct (show cond (Nat.beq x t) true (zx_mem t l) = true from h) with ⟨h1, -⟩ | ⟨-, h1⟩
    · rw [zx_beq.mp h1]; exact List.mem_cons_self
    · exact List.mem_cons_of_mem _ (zx_mem_ok h1)
theorem zx_N_some {α : Type} {d : α} {l : List α} {i : Nat} {v : α} (h : zx_N d l i = v) (hv : v ≠ d) : l[i]? = some v := by
  rw [zx_N_eq] at h
  cases hl : l[i]? with
  | none => rw [hl] at h; exact absurd h.symm hv
  | some x => rw [hl] at h; rw [← h]; rfl
theorem zk_fit {σ : Nat → Int32} {b : zxBB} {as : List Nat} {sort n : Nat} {v : Value} {ty : FieldType} (hs : zk_sort sort ty) (hf : zx_fit sort n = true) (hv : zr σ b as n v) : narrow ty v = v ∧ fits ty v = true := by
  rcases hs with ⟨rfl, rfl⟩ | ⟨rfl, rfl⟩ | ⟨rfl, rfl⟩ | ⟨rfl, h⟩
  · obtain ⟨x, rfl⟩ := zr_int (show zx_i n = true from hf) hv
    exact ⟨vp_nar_int x, rfl⟩
  · have hf : (Nat.beq n 0 || Nat.beq n 8) = true := hf
    rcases Bool.or_eq_true_iff.mp hf with q | q
    · rw [zx_beq.mp q] at hv
      have hv := (zr_0 rfl).mp hv
      subst hv
      exact ⟨by decide, by decide⟩
    · rw [zx_beq.mp q] at hv
      have hv := (zr_0 rfl).mp hv
      subst hv
      exact ⟨by decide, by decide⟩
  · obtain ⟨x, rfl⟩ := zr_long (show zx_2 n = true from hf) hv
    exact ⟨rfl, rfl⟩
  · obtain ⟨q, -, rfl⟩ := (zr_3 (zx_beq.mp (show Nat.beq (n % 8) 3 = true from hf))).mp hv
    rcases h with ⟨x, rfl⟩ | ⟨x, rfl⟩ <;> exact ⟨rfl, rfl⟩
theorem zr_c_cons (t n : Nat) (fs : List Nat) (es : List (Nat × Nat)) (j v i : Nat) : zr_c (t, n, fs, (j, v) :: es) i = if j = i then v else zr_c (t, n, fs, es) i := by
  unfold zr_c
  exact zx_A_cons (j, v) es _ i
section ZH
variable {p : Program} {l : Launch} {e : Env} {R : Room} {s : State} {m : MethodId} {args : Array Value} {below : List Frame} {meth : Method} {c : Code} {Q : State → Prop} {cc : ByteArray} {nL : Nat} {G : va_G} {σ : Nat → Int32} {b : zxBB} {A : Nat → Prop} {pc a a2 nxt : Nat} {d : List Nat} {lv : zxLV} {stk : List Nat} {hp : zxHP} {st : zxST} {u w : Nat} {k : zxKT} {H : Heap} {locs : List Loc} {ls : Array Slot} {vs : List Value} {own : String}
theorem zo_get (hC : zk_C) (hx : p.tables.exec = Jvm.exec) (hb : c.code = cc) (hts : ∀ w ∈ zk_T, w.before args s = true) (hown : s.vm.findClass own = some m.cls) (hg : zk_get own a a2 d) (hdg : decode cc pc = .ok (.getfield a, 3)) (hn : nxt = pc + 3) (h : zh_get a a2 nxt d lv stk hp st u w k = true) (r : zr_R G σ b A nL s H locs ls vs lv stk hp st) (kk : zr_KK p l e R s m args below meth c Q G σ b A nL k) : W p l e R s m args below meth c H locs u w Q (F0 m pc ls vs) := by
  obtain ⟨hσ, hS, as, ⟨tys, ws, hK, hW, hP, hD⟩, hL, hV⟩ := r
  rcases stk with _ | ⟨x, rr⟩
  · exact absurd h Bool.false_ne_true
  rcases vs with _ | ⟨vx, vr⟩
  · exact hV.elim
  obtain ⟨hx1, hr⟩ := hV
  obtain ⟨h1, h⟩ := zx_c1 (show cond (Nat.beq (x % 8) 3) (match zx_G hp (x / 8) with | (t, _, fs, _) => cond (zx_mem t d) (zx_F (zx_N 74 fs a2) (fun v => cond (Nat.beq v 74) false (k nxt lv (v :: rr) hp st u w))) false) false = true from h)
  obtain ⟨q, hq, rfl⟩ := (zr_3 (zx_beq.mp h1)).mp hx1
  obtain ⟨e0, he, hE⟩ := zr_W_get hW hq
  generalize zx_G hp (x / 8) = E at h hE
  obtain ⟨t, n0, fs, es⟩ := E
  obtain ⟨h2, h⟩ := zx_c1 (show cond (zx_mem t d) (zx_F (zx_N 74 fs a2) (fun v => cond (Nat.beq v 74) false (k nxt lv (v :: rr) hp st u w))) false = true from h)
  rw [zx_F_eq] at h
  obtain ⟨h3, h⟩ := zx_c0 h
  have h3 := zx_nbeq.mp h3
  obtain ⟨ht, C, T, N, ref, hcl, hk, hlink, hsame⟩ := hg t (zx_mem_ok h2)
  rcases hE with ⟨-, fs', rfl, hfs⟩ | ⟨hlt, -⟩
  · obtain ⟨v, g1, g2⟩ := zr_2_get hfs (zx_N_some rfl h3)
    refine va_get hx hb hts (hC _ _ _ _ hcl).1 hown hK hP (x / 8) he hcl a2 hk (hts _ hlink) ?_ g1 hdg (hn ▸ kk _ _ _ _ _ _ _ _ _ _ _ h ⟨hσ, hS, as, ⟨tys, ws, hK, hW, hP, hD⟩, hL, g2, hr⟩)
    rcases hsame with hs | hs
    · rw [hs]; exact fun _ h9 => h9
    · exact fun y hy => u_same (hts _ hs) y hy
  · exact absurd ht (Nat.not_le.mpr hlt)
theorem zo_put (hC : zk_C) (hx : p.tables.exec = Jvm.exec) (hb : c.code = cc) (hts : ∀ w ∈ zk_T, w.before args s = true) (hown : s.vm.findClass own = some m.cls) {fin : Bool} (hin : fin = true → meth.name = "<init>") (hg : zk_put fin own a a2 d) (hdg : decode cc pc = .ok (.putfield a, 3)) (hn : nxt = pc + 3) (h : zh_put a a2 nxt d lv stk hp st u w k = true) (r : zr_R G σ b A nL s H locs ls vs lv stk hp st) (kk : zr_KK p l e R s m args below meth c Q G σ b A nL k) : W p l e R s m args below meth c H locs u w Q (F0 m pc ls vs) := by
  obtain ⟨hσ, hS, as, ⟨tys, ws, hK, hW, hP, hD⟩, hL, hV⟩ := r
  rcases stk with _ | ⟨y, _ | ⟨x, rr⟩⟩
  · exact absurd h Bool.false_ne_true
  · exact absurd h Bool.false_ne_true
  rcases vs with _ | ⟨vy, _ | ⟨vx, vr⟩⟩
  · exact hV.elim
  · exact hV.2.elim
  obtain ⟨hy, hx1, hr⟩ := hV
  obtain ⟨h1, h⟩ := zx_c1 (show cond (Nat.beq (x % 8) 3) (zx_F (x / 8) (fun q => match zx_G hp q with | (t, n, fs, es) => cond (zx_mem t d) (zx_M y st (fun v => cond (zx_fit (a2 / 64 % 4) v && Nat.blt (a2 % 64) (zx_Z fs)) (zx_S fs (a2 % 64) v (fun fs2 => zx_H hp q (t, n, fs2, es) (fun hp2 => k nxt lv rr hp2 st u w))) false)) false)) false = true from h)
  rw [zx_F_eq] at h
  obtain ⟨q, hq, rfl⟩ := (zr_3 (zx_beq.mp h1)).mp hx1
  obtain ⟨e0, he, hE⟩ := zr_W_get hW hq
  have hne : (zx_G hp (x / 8)).1 ≠ 0 := by
    rcases hE with ⟨g, -⟩ | ⟨-, g, -⟩ <;> omega
  have hGE : zx_G hp (x / 8) = zx_G hp (x / 8) := rfl
  generalize hGd : zx_G hp (x / 8) = E at h hE
  obtain ⟨t, n0, fs, es⟩ := E
  obtain ⟨h2, h⟩ := zx_c1 (show cond (zx_mem t d) (zx_M y st (fun v => cond (zx_fit (a2 / 64 % 4) v && Nat.blt (a2 % 64) (zx_Z fs)) (zx_S fs (a2 % 64) v (fun fs2 => zx_H hp (x / 8) (t, n0, fs2, es) (fun hp2 => k nxt lv rr hp2 st u w))) false)) false = true from h)
  obtain ⟨y', e1, -, -, m1⟩ := zx_M_ok y st (fun v => cond (zx_fit (a2 / 64 % 4) v && Nat.blt (a2 % 64) (zx_Z fs)) (zx_S fs (a2 % 64) v (fun fs2 => zx_H hp (x / 8) (t, n0, fs2, es) (fun hp2 => k nxt lv rr hp2 st u w))) false)
  rw [e1] at h
  have hy := m1 σ b as _ hσ hy
  obtain ⟨h3, h⟩ := zx_c1 h
  obtain ⟨h3, h4⟩ := zx_an h3
  have h4 := zx_blt.mp h4
  rw [zx_Z_eq] at h4
  rw [zx_S_eq] at h
  obtain ⟨hp', e2, z1, z2⟩ := zx_H_ok hp (x / 8) (t, n0, fs.set (a2 % 64) y', es) (fun hp2 => k nxt lv rr hp2 st u w) hne
  rw [e2] at h
  obtain ⟨ht, C, T, N, ref, hcl, hk, hlink, hsame, hfin, hdecl, ty, hd, hsort⟩ := hg t (zx_mem_ok h2)
  obtain ⟨hn1, hf1⟩ := zk_fit hsort h3 hy
  obtain ⟨hin1, ty0, hty, hnm⟩ := hC _ _ _ _ hcl
  have hsm : ∀ y, s.fieldFound? (T (a2 % 64)).1 (T (a2 % 64)).2.1 (T (a2 % 64)).2.2.1 = some y → s.fieldFound? ref (T (a2 % 64)).2.1 (T (a2 % 64)).2.2.1 = some y := by
    rcases hsame with hs | hs
    · rw [hs]; exact fun _ h9 => h9
    · exact fun y hy => u_same (hts _ hs) y hy
  rcases hE with ⟨-, fs', rfl, hfs⟩ | ⟨hlt, -⟩
  · have hlen : a2 % 64 < fs'.length := by rw [← zr_2_len hfs]; exact h4
    have fin' : ∀ (H1 : Heap) (locs1 : List Loc), va_P G vwCl (ws.set (x / 8) (q, .inr (t - 16, fs'.set (a2 % 64) vy))) H1 → va_D A (ws.set (x / 8) (q, .inr (t - 16, fs'.set (a2 % 64) vy))) → va_S A s.heap H1 locs1 → W p l e R s m args below meth c H1 locs1 u w Q (F0 m (pc + 3) ls vr) := by
      intro H1 locs1 hP1 hD1 hS1
      refine hn ▸ kk _ _ _ _ _ _ _ _ _ _ _ h ⟨hσ, hS1, as, ⟨tys, _, hK, zr_W_set hW hq z1 z2 (Or.inl ⟨ht, _, rfl, zr_2_set hy hfs⟩), hP1, hD1⟩, hL, hr⟩
    cases fin with
    | false => exact va_put hx hb hts hin1 ty0 hty hnm hown hK hP hD hS (x / 8) he hcl (a2 % 64) hk (hts _ hlink) hsm hfin hd hn1 hf1 hlen hdg fin'
    | true => exact va_putF hx hb hts hin1 ty0 hty hnm hown hK hP hD hS (x / 8) he hcl (a2 % 64) hk (hts _ hlink) hsm hfin (hin rfl) (hdecl rfl) hd hn1 hf1 hlen hdg fin'
  · exact absurd ht (Nat.not_le.mpr hlt)
theorem zo_alen (hx : p.tables.exec = Jvm.exec) (hb : c.code = cc) (hdg : decode cc pc = .ok (.arraylength, 1)) (hn : nxt = pc + 1) (h : zh_alen a a2 nxt d lv stk hp st u w k = true) (r : zr_R G σ b A nL s H locs ls vs lv stk hp st) (kk : zr_KK p l e R s m args below meth c Q G σ b A nL k) : W p l e R s m args below meth c H locs u w Q (F0 m pc ls vs) := by
  obtain ⟨hσ, hS, as, ⟨tys, ws, hK, hW, hP, hD⟩, hL, hV⟩ := r
  rcases stk with _ | ⟨x, rr⟩
  · exact absurd h Bool.false_ne_true
  rcases vs with _ | ⟨vx, vr⟩
  · exact hV.elim
  obtain ⟨hx1, hr⟩ := hV
  obtain ⟨h1, h⟩ := zx_c1 (show cond (Nat.beq (x % 8) 3) (match zx_G hp (x / 8) with | (t, n, _, _) => cond (Nat.blt 0 t && Nat.blt t 16) (zx_F (8 * n) (fun v => k nxt lv (v :: rr) hp st u w)) false) false = true from h)
  obtain ⟨q, hq, rfl⟩ := (zr_3 (zx_beq.mp h1)).mp hx1
  obtain ⟨e0, he, hE⟩ := zr_W_get hW hq
  generalize zx_G hp (x / 8) = E at h hE
  obtain ⟨t, n0, fs, es⟩ := E
  obtain ⟨h2, h⟩ := zx_c1 (show cond (Nat.blt 0 t && Nat.blt t 16) (zx_F (8 * n0) (fun v => k nxt lv (v :: rr) hp st u w)) false = true from h)
  obtain ⟨-, h2⟩ := zx_an h2
  have h2 := zx_blt.mp h2
  rw [zx_F_eq] at h
  rcases hE with ⟨g, -⟩ | ⟨-, -, -, cA, t0, h4, h5⟩
  · exact absurd g (Nat.not_le.mpr h2)
  · have hz : zr σ b as (8 * n0) (.int (nI n0)) := (zr_0 (by omega)).mpr (by rw [Nat.mul_div_cancel_left _ (by decide)])
    have kk2 : W p l e R s m args below meth c H locs u w Q (F0 m (pc + 1) ls (.int (nI n0) :: vr)) := hn ▸ kk _ _ _ _ _ _ _ _ _ _ _ h ⟨hσ, hS, as, ⟨tys, ws, hK, hW, hP, hD⟩, hL, hz, hr⟩
    rcases h5 with ⟨-, f, rfl, -⟩ | ⟨-, f, rfl, -⟩ | ⟨-, f, rfl, -⟩
    · exact va_alen hx hb hK hP (x / 8) t0 he h4 rfl hdg kk2
    · exact va_alen hx hb hK hP (x / 8) t0 he h4 rfl hdg kk2
    · exact va_alen hx hb hK hP (x / 8) t0 he h4 rfl hdg kk2
/-- a load from an array: what the row of the machine must give -/
theorem zo_ald (ha16 : a < 16) (h : zh_ald a a2 nxt d lv stk hp st u w k = true) (r : zr_R G σ b A nL s H locs ls vs lv stk hp st) (kk : zr_KK p l e R s m args below meth c Q G σ b A nL k)
    (kW : ∀ (tys : List (ClassId × FieldType)) (ws : va_W) (q0 q i n : Nat) (e0 : va_E) (vr : List Value) (cA : ClassId) (t0 : Nat), va_K G vwCl tys s → va_P G vwCl ws H → ws[q0]? = some (q, e0) → tys[t0]? = some (cA, zr_ty a) → vs = .int (nI i) :: .ref q :: vr → vp_in (nI i) n → (nI i).toNatClampNeg = i →
      ((a < 4 ∧ ∃ f : Nat → Int32, e0 = .inl (cA, n, .inl f) ∧ (W p l e R s m args below meth c H locs u w Q (F0 m nxt ls (.int (f i) :: vr)))) ∨ (a = 4 ∧ ∃ f : Nat → Int64, e0 = .inl (cA, n, .inr (.inl f)) ∧ (W p l e R s m args below meth c H locs u w Q (F0 m nxt ls (.long (f i) :: vr)))) ∨ (4 < a ∧ ∃ f : Nat → Option Nat, e0 = .inl (cA, n, .inr (.inr (.inr (.inr f)))) ∧ (W p l e R s m args below meth c H locs u w Q (F0 m nxt ls (va_rf (f i) :: vr))))) → W p l e R s m args below meth c H locs u w Q (F0 m pc ls vs)) : W p l e R s m args below meth c H locs u w Q (F0 m pc ls vs) := by
  obtain ⟨hσ, hS, as, ⟨tys, ws, hK, hW, hP, hD⟩, hL, hV⟩ := r
  rcases stk with _ | ⟨y, _ | ⟨x, rr⟩⟩
  · exact absurd h Bool.false_ne_true
  · exact absurd h Bool.false_ne_true
  rcases vs with _ | ⟨vy, _ | ⟨vx, vr⟩⟩
  · exact hV.elim
  · exact hV.2.elim
  obtain ⟨hy, hx1, hr⟩ := hV
  obtain ⟨y', s1, h, hσ, my⟩ := zx_C_ok (show zx_C y st (fun i s => cond (Nat.beq (i % 8) 0 && Nat.beq (x % 8) 3) (match zx_G hp (x / 8) with | (t, n, fs, es) => cond (Nat.beq t a && Nat.blt (i / 8) n) (zx_F (zx_A es (zx_N 74 fs 0) (i / 8)) (fun v => k nxt lv (v :: rr) hp s u w)) false) false) = true from h) hσ
  have hy := my _ _ _ hy
  obtain ⟨h1, h⟩ := zx_c1 h
  obtain ⟨h1, h2⟩ := zx_an h1
  have hy := (zr_0 (zx_beq.mp h1)).mp hy
  subst hy
  obtain ⟨q, hq, rfl⟩ := (zr_3 (zx_beq.mp h2)).mp hx1
  obtain ⟨e0, he, hE⟩ := zr_W_get hW hq
  generalize zx_G hp (x / 8) = E at h hE
  obtain ⟨t, n0, fs, es⟩ := E
  obtain ⟨h3, h6⟩ := zx_c1 (show cond (Nat.beq t a && Nat.blt (y' / 8) n0) (zx_F (zx_A es (zx_N 74 fs 0) (y' / 8)) (fun v => k nxt lv (v :: rr) hp s1 u w)) false = true from h)
  obtain ⟨h3, h4⟩ := zx_an h3
  have h3 := zx_beq.mp h3
  have h4 := zx_blt.mp h4
  clear h
  subst h3
  rw [zx_F_eq] at h6
  rcases hE with ⟨g, fs', rfl, -⟩ | ⟨-, -, h31, cA, t0, ht, h5⟩
  · exact absurd g (Nat.not_le.mpr ha16)
  · have hin : vp_in (nI (y' / 8)) n0 := vp_in_nI h4 h31
    have hcl : (nI (y' / 8)).toNatClampNeg = y' / 8 := nI_clamp (Nat.lt_trans h4 h31)
    refine kW tys ws (x / 8) q (y' / 8) n0 e0 vr cA t0 hK hP he ht rfl hin hcl ?_
    rcases h5 with ⟨g, f, e1, hf⟩ | ⟨g, f, e1, hf⟩ | ⟨g, f, e1, hf⟩
    · exact Or.inl ⟨g, f, e1, kk _ _ _ _ _ _ _ _ _ _ _ h6 ⟨hσ, hS, as, ⟨tys, ws, hK, hW, hP, hD⟩, hL, hf _ h4, hr⟩⟩
    · exact Or.inr (Or.inl ⟨g, f, e1, kk _ _ _ _ _ _ _ _ _ _ _ h6 ⟨hσ, hS, as, ⟨tys, ws, hK, hW, hP, hD⟩, hL, hf _ h4, hr⟩⟩)
    · exact Or.inr (Or.inr ⟨g, f, e1, kk _ _ _ _ _ _ _ _ _ _ _ h6 ⟨hσ, hS, as, ⟨tys, ws, hK, hW, hP, hD⟩, hL, hf _ h4, hr⟩⟩)
theorem zo_iald (hx : p.tables.exec = Jvm.exec) (hb : c.code = cc) (ha : a = 1) (hdg : decode cc pc = .ok (.iaload, 1)) (hn : nxt = pc + 1) (h : zh_ald a a2 nxt d lv stk hp st u w k = true) (r : zr_R G σ b A nL s H locs ls vs lv stk hp st) (kk : zr_KK p l e R s m args below meth c Q G σ b A nL k) : W p l e R s m args below meth c H locs u w Q (F0 m pc ls vs) := by
  subst ha
  refine zo_ald (by decide) h r kk fun tys ws q0 q i n e0 vr cA t0 hK hP he ht ev hin hcl h5 => ?_
  subst ev
  rcases h5 with ⟨-, f, rfl, kw⟩ | ⟨g, -⟩ | ⟨g, -⟩
  · exact va_iald hx hb hK hP q0 t0 he ht hin hdg (by rw [hcl]; exact hn ▸ kw)
  · exact absurd g (by decide)
  · exact absurd g (by decide)
theorem zo_bald (hx : p.tables.exec = Jvm.exec) (hb : c.code = cc) (ha : a = 2) (hdg : decode cc pc = .ok (.baload, 1)) (hn : nxt = pc + 1) (h : zh_ald a a2 nxt d lv stk hp st u w k = true) (r : zr_R G σ b A nL s H locs ls vs lv stk hp st) (kk : zr_KK p l e R s m args below meth c Q G σ b A nL k) : W p l e R s m args below meth c H locs u w Q (F0 m pc ls vs) := by
  subst ha
  refine zo_ald (by decide) h r kk fun tys ws q0 q i n e0 vr cA t0 hK hP he ht ev hin hcl h5 => ?_
  subst ev
  rcases h5 with ⟨-, f, rfl, kw⟩ | ⟨g, -⟩ | ⟨g, -⟩
  · exact va_bald hx hb hK hP q0 t0 he ht hin hdg (by rw [hcl]; exact hn ▸ kw)
  · exact absurd g (by decide)
  · exact absurd g (by decide)
theorem zo_zald (hx : p.tables.exec = Jvm.exec) (hb : c.code = cc) (ha : a = 3) (hdg : decode cc pc = .ok (.baload, 1)) (hn : nxt = pc + 1) (h : zh_ald a a2 nxt d lv stk hp st u w k = true) (r : zr_R G σ b A nL s H locs ls vs lv stk hp st) (kk : zr_KK p l e R s m args below meth c Q G σ b A nL k) : W p l e R s m args below meth c H locs u w Q (F0 m pc ls vs) := by
  subst ha
  refine zo_ald (by decide) h r kk fun tys ws q0 q i n e0 vr cA t0 hK hP he ht ev hin hcl h5 => ?_
  subst ev
  rcases h5 with ⟨-, f, rfl, kw⟩ | ⟨g, -⟩ | ⟨g, -⟩
  · exact va_zald hx hb hK hP q0 t0 he ht hin hdg (by rw [hcl]; exact hn ▸ kw)
  · exact absurd g (by decide)
  · exact absurd g (by decide)
theorem zo_lald (hx : p.tables.exec = Jvm.exec) (hb : c.code = cc) (ha : a = 4) (hdg : decode cc pc = .ok (.laload, 1)) (hn : nxt = pc + 1) (h : zh_ald a a2 nxt d lv stk hp st u w k = true) (r : zr_R G σ b A nL s H locs ls vs lv stk hp st) (kk : zr_KK p l e R s m args below meth c Q G σ b A nL k) : W p l e R s m args below meth c H locs u w Q (F0 m pc ls vs) := by
  subst ha
  refine zo_ald (by decide) h r kk fun tys ws q0 q i n e0 vr cA t0 hK hP he ht ev hin hcl h5 => ?_
  subst ev
  rcases h5 with ⟨g, -⟩ | ⟨-, f, rfl, kw⟩ | ⟨g, -⟩
  · exact absurd g (by decide)
  · exact va_lald hx hb hK hP q0 t0 he ht hin hdg (by rw [hcl]; exact hn ▸ kw)
  · exact absurd g (by decide)
theorem zr_ty_q {t : Nat} (h : 4 < t) : ∃ C, zr_ty t = .object C := by
  unfold zr_ty
  rw [if_neg (by omega), if_neg (by omega), if_neg (by omega), if_neg (by omega)]
  split
  · exact ⟨_, rfl⟩
  · exact ⟨_, rfl⟩
theorem zo_aald (hx : p.tables.exec = Jvm.exec) (hb : c.code = cc) (ha : 4 < a ∧ a < 16) (hdg : decode cc pc = .ok (.aaload, 1)) (hn : nxt = pc + 1) (h : zh_ald a a2 nxt d lv stk hp st u w k = true) (r : zr_R G σ b A nL s H locs ls vs lv stk hp st) (kk : zr_KK p l e R s m args below meth c Q G σ b A nL k) : W p l e R s m args below meth c H locs u w Q (F0 m pc ls vs) := by
  refine zo_ald ha.2 h r kk fun tys ws q0 q i n e0 vr cA t0 hK hP he ht ev hin hcl h5 => ?_
  subst ev
  rcases h5 with ⟨g, -⟩ | ⟨g, -⟩ | ⟨-, f, rfl, kw⟩
  · exact absurd g (by omega)
  · exact absurd g (by omega)
  · obtain ⟨C, hC⟩ := zr_ty_q ha.1
    rw [hC] at ht
    exact va_aldq hx hb hK hP q0 t0 he ht hin hdg (by rw [hcl]; exact hn ▸ kw)
end ZH
end
section
theorem zr_W_same {σ : Nat → Int32} {b : zxBB} {as : List Nat} {tys : List (ClassId × FieldType)} {hp : zxHP} {ws : va_W} (h : zr_W σ b as tys hp ws) {k q : Nat} (hk : as[k]? = some q) {e : va_E} (hE : zr_E σ b as tys (zx_G hp k) e) : zr_W σ b as tys hp (ws.set k (q, e)) :=
  zr_W_set h hk rfl (fun j => by
    by_cases hj : j = k
    · rw [if_pos hj, hj]
    · rw [if_neg hj]) hE
theorem zn_z : ∀ p : Nat, vp_nar .boolean (nI p) = nI (p % 2) := by
  intro p
  have h2 := pk_and (nI p) (m := 1) 1 (by decide)
  have h3 : (nI p).toBitVec.toNat % 2 ^ 1 = p % 2 := by
    rw [← zr_nI_mod p, pk_tn (Nat.mod_lt _ (by decide))]
    omega
  rw [h3] at h2
  unfold vp_nar
  simp only [narrow]
  exact h2
section ZS
variable {p : Program} {l : Launch} {e : Env} {R : Room} {s : State} {m : MethodId} {args : Array Value} {below : List Frame} {meth : Method} {c : Code} {Q : State → Prop} {cc : ByteArray} {nL : Nat} {G : va_G} {σ : Nat → Int32} {b : zxBB} {A : Nat → Prop} {pc a a2 nxt : Nat} {d : List Nat} {lv : zxLV} {stk : List Nat} {hp : zxHP} {st : zxST} {u w : Nat} {k : zxKT} {H : Heap} {locs : List Loc} {ls : Array Slot} {vs : List Value} {own : String}
/-- a store into an array of ints or longs: what the row of the machine must give -/
theorem zo_ast (ha16 : a < 5) (h : zh_ast a a2 nxt d lv stk hp st u w k = true) (r : zr_R G σ b A nL s H locs ls vs lv stk hp st) (kk : zr_KK p l e R s m args below meth c Q G σ b A nL k)
    (kW : ∀ (tys : List (ClassId × FieldType)) (ws : va_W) (q0 q i n v : Nat) (e0 : va_E) (vr : List Value) (cA : ClassId) (t0 : Nat) (as : List Nat), va_K G vwCl tys s → va_P G vwCl ws H → va_D A ws → va_S A s.heap H locs → ws[q0]? = some (q, e0) → tys[t0]? = some (cA, zr_ty a) → vp_in (nI i) n → (nI i).toNatClampNeg = i →
      ((a < 4 ∧ ∃ (x : Int32) (f : Nat → Int32), vs = .int x :: .int (nI i) :: .ref q :: vr ∧ zr σ b as v (.int x) ∧ e0 = .inl (cA, n, .inl f) ∧ ∀ (x' : Int32) (H1 : Heap) (locs1 : List Loc), zr σ b as (zx_nar a v) (.int x') → va_P G vwCl (ws.set q0 (q, .inl (cA, n, .inl (upd f i x')))) H1 → va_D A (ws.set q0 (q, .inl (cA, n, .inl (upd f i x')))) → va_S A s.heap H1 locs1 → W p l e R s m args below meth c H1 locs1 u w Q (F0 m nxt ls vr)) ∨
       (a = 4 ∧ ∃ (x : Int64) (f : Nat → Int64), vs = .long x :: .int (nI i) :: .ref q :: vr ∧ e0 = .inl (cA, n, .inr (.inl f)) ∧ ∀ (H1 : Heap) (locs1 : List Loc), va_P G vwCl (ws.set q0 (q, .inl (cA, n, .inr (.inl (vp_updL f i x))))) H1 → va_D A (ws.set q0 (q, .inl (cA, n, .inr (.inl (vp_updL f i x))))) → va_S A s.heap H1 locs1 → W p l e R s m args below meth c H1 locs1 u w Q (F0 m nxt ls vr))) → W p l e R s m args below meth c H locs u w Q (F0 m pc ls vs)) : W p l e R s m args below meth c H locs u w Q (F0 m pc ls vs) := by
  obtain ⟨hσ, hS, as, ⟨tys, ws, hK, hW, hP, hD⟩, hL, hV⟩ := r
  rcases stk with _ | ⟨z, _ | ⟨y, _ | ⟨x, rr⟩⟩⟩
  · exact absurd h Bool.false_ne_true
  · exact absurd h Bool.false_ne_true
  · exact absurd h Bool.false_ne_true
  rcases vs with _ | ⟨vz, _ | ⟨vy, _ | ⟨vx, vr⟩⟩⟩
  · exact hV.elim
  · exact hV.2.elim
  · exact hV.2.2.elim
  obtain ⟨hz, hy, hx1, hr⟩ := hV
  obtain ⟨y', s1, h, hσ, my⟩ := zx_C_ok (show zx_C y st (fun i s => cond (Nat.beq (i % 8) 0 && (Nat.beq (x % 8) 3 && zx_el a z)) (zx_F (x / 8) (fun q => match zx_G hp q with | (t, n, fs, es) => cond (Nat.beq t a && Nat.blt (i / 8) n) (zx_F (i / 8) (fun j => zx_F (zx_nar a z) (fun v => cond (Nat.beq (zx_A es (zx_N 74 fs 0) j) v) (k nxt lv rr hp s u w) (zx_H hp q (t, n, fs, (j, v) :: es) (fun hp2 => k nxt lv rr hp2 s u w))))) false)) false) = true from h) hσ
  have hy := my _ _ _ hy
  obtain ⟨h1, h⟩ := zx_c1 h
  obtain ⟨h1, h2⟩ := zx_an h1
  obtain ⟨h2, h2e⟩ := zx_an h2
  have hy := (zr_0 (zx_beq.mp h1)).mp hy
  subst hy
  obtain ⟨q, hq, rfl⟩ := (zr_3 (zx_beq.mp h2)).mp hx1
  rw [zx_F_eq] at h
  obtain ⟨e0, he, hE⟩ := zr_W_get hW hq
  have hne : (zx_G hp (x / 8)).1 ≠ 0 := by
    rcases hE with ⟨g, -⟩ | ⟨-, g, -⟩ <;> omega
  generalize hGd : zx_G hp (x / 8) = E at h hE
  obtain ⟨t, n0, fs, es⟩ := E
  obtain ⟨h3, h6⟩ := zx_c1 (show cond (Nat.beq t a && Nat.blt (y' / 8) n0) (zx_F (y' / 8) (fun j => zx_F (zx_nar a z) (fun v => cond (Nat.beq (zx_A es (zx_N 74 fs 0) j) v) (k nxt lv rr hp s1 u w) (zx_H hp (x / 8) (t, n0, fs, (j, v) :: es) (fun hp2 => k nxt lv rr hp2 s1 u w))))) false = true from h)
  obtain ⟨h3, h4⟩ := zx_an h3
  have h3 := zx_beq.mp h3
  have h4 := zx_blt.mp h4
  clear h
  subst h3
  rw [zx_F_eq, zx_F_eq] at h6
  have fin : ∀ (e1 : va_E) (H1 : Heap) (locs1 : List Loc), (∀ v, v = zx_nar t z → zr_c (t, n0, fs, es) (y' / 8) = v → zr_E σ b as tys (t, n0, fs, es) e1) → (∀ v, v = zx_nar t z → zr_E σ b as tys (t, n0, fs, (y' / 8, v) :: es) e1) → va_P G vwCl (ws.set (x / 8) (q, e1)) H1 → va_D A (ws.set (x / 8) (q, e1)) → va_S A s.heap H1 locs1 → W p l e R s m args below meth c H1 locs1 u w Q (F0 m nxt ls vr) := by
    intro e1 H1 locs1 k1 k2 hP1 hD1 hS1
    rcases zx_ct h6 with ⟨g1, g2⟩ | ⟨-, g2⟩
    · refine kk _ _ _ _ _ _ _ _ _ _ _ g2 ⟨hσ, hS1, as, ⟨tys, _, hK, zr_W_same hW hq ?_, hP1, hD1⟩, hL, hr⟩
      rw [hGd]
      exact k1 _ rfl (zx_beq.mp g1)
    · obtain ⟨hp', e2, z1, z2⟩ := zx_H_ok hp (x / 8) (t, n0, fs, (y' / 8, zx_nar t z) :: es) (fun hp2 => k nxt lv rr hp2 s1 u w) hne
      rw [e2] at g2
      exact kk _ _ _ _ _ _ _ _ _ _ _ g2 ⟨hσ, hS1, as, ⟨tys, _, hK, zr_W_set hW hq z1 z2 (k2 _ rfl), hP1, hD1⟩, hL, hr⟩
  rcases hE with ⟨g, fs', rfl, -⟩ | ⟨g16, g0, h31, cA, t0, ht, h5⟩
  · exact absurd (show 16 ≤ t from g) (by omega)
  · have hin : vp_in (nI (y' / 8)) n0 := vp_in_nI h4 h31
    have hcl : (nI (y' / 8)).toNatClampNeg = y' / 8 := nI_clamp (Nat.lt_trans h4 h31)
    refine kW tys ws (x / 8) q (y' / 8) n0 z e0 vr cA t0 as hK hP hD hS he ht hin hcl ?_
    rcases h5 with ⟨g, f, e1, hf⟩ | ⟨g, f, e1, hf⟩ | ⟨g, -⟩
    · obtain ⟨xz, rfl⟩ := zr_int (show zx_i z = true from by unfold zx_el at h2e; rw [zx_blt.mpr g] at h2e; exact h2e) hz
      refine Or.inl ⟨g, xz, f, rfl, hz, e1, fun x' H1 locs1 hx' hP1 hD1 hS1 => fin _ H1 locs1 (fun v ev hv => ?_) (fun v ev => ?_) hP1 hD1 hS1⟩
      · refine Or.inr ⟨g16, g0, h31, cA, t0, ht, Or.inl ⟨g, _, rfl, fun j hj => ?_⟩⟩
        by_cases hjq : j = y' / 8
        · rw [hjq, hv, ev]; unfold upd; rw [if_pos rfl]; exact hx'
        · unfold upd; rw [if_neg hjq]; exact hf j hj
      · refine Or.inr ⟨g16, g0, h31, cA, t0, ht, Or.inl ⟨g, _, rfl, fun j hj => ?_⟩⟩
        rw [zr_c_cons]
        by_cases hjq : j = y' / 8
        · rw [hjq, if_pos rfl, ev]; unfold upd; rw [if_pos rfl]; exact hx'
        · rw [if_neg (Ne.symm hjq)]; unfold upd; rw [if_neg hjq]; exact hf j hj
    · have g4 : t = 4 := g
      obtain ⟨xz, rfl⟩ := zr_long (show zx_2 z = true from by unfold zx_el at h2e; rw [zx_nblt.mpr (by omega)] at h2e; exact h2e) hz
      have hnar : zx_nar t z = z := by rw [g4]; rfl
      refine Or.inr ⟨g, xz, f, rfl, e1, fun H1 locs1 hP1 hD1 hS1 => fin _ H1 locs1 (fun v ev hv => ?_) (fun v ev => ?_) hP1 hD1 hS1⟩
      · refine Or.inr ⟨g16, g0, h31, cA, t0, ht, Or.inr (Or.inl ⟨g, _, rfl, fun j hj => ?_⟩)⟩
        by_cases hjq : j = y' / 8
        · rw [hjq, hv, ev, hnar]; unfold vp_updL; rw [if_pos rfl]; exact hz
        · unfold vp_updL; rw [if_neg hjq]; exact hf j hj
      · refine Or.inr ⟨g16, g0, h31, cA, t0, ht, Or.inr (Or.inl ⟨g, _, rfl, fun j hj => ?_⟩)⟩
        rw [zr_c_cons]
        by_cases hjq : j = y' / 8
        · rw [hjq, if_pos rfl, ev, hnar]; unfold vp_updL; rw [if_pos rfl]; exact hz
        · rw [if_neg (Ne.symm hjq)]; unfold vp_updL; rw [if_neg hjq]; exact hf j hj
    · exact absurd (show 4 < t from g) (by omega)
theorem zo_iast (hx : p.tables.exec = Jvm.exec) (hb : c.code = cc) (ha : a = 1) (hdg : decode cc pc = .ok (.iastore, 1)) (hn : nxt = pc + 1) (h : zh_ast a a2 nxt d lv stk hp st u w k = true) (r : zr_R G σ b A nL s H locs ls vs lv stk hp st) (kk : zr_KK p l e R s m args below meth c Q G σ b A nL k) : W p l e R s m args below meth c H locs u w Q (F0 m pc ls vs) := by
  subst ha
  refine zo_ast (by decide) h r kk fun tys ws q0 q i n v e0 vr cA t0 as hK hP hD hS he ht hin hcl h5 => ?_
  rcases h5 with ⟨-, x, f, rfl, hv, rfl, kw⟩ | ⟨g, -⟩
  · refine va_iast hx hb hK hP hD hS q0 t0 he ht hin hdg fun H1 locs1 hP1 hD1 hS1 => hn ▸ kw x H1 locs1 hv ?_ ?_ hS1
    · rw [hcl] at hP1; exact hP1
    · rw [hcl] at hD1; exact hD1
  · exact absurd g (by decide)
theorem zo_bast (hx : p.tables.exec = Jvm.exec) (hb : c.code = cc) (ha : a = 2) (hdg : decode cc pc = .ok (.bastore, 1)) (hn : nxt = pc + 1) (h : zh_ast a a2 nxt d lv stk hp st u w k = true) (r : zr_R G σ b A nL s H locs ls vs lv stk hp st) (kk : zr_KK p l e R s m args below meth c Q G σ b A nL k) : W p l e R s m args below meth c H locs u w Q (F0 m pc ls vs) := by
  subst ha
  refine zo_ast (by decide) h r kk fun tys ws q0 q i n v e0 vr cA t0 as hK hP hD hS he ht hin hcl h5 => ?_
  rcases h5 with ⟨-, x, f, rfl, hv, rfl, kw⟩ | ⟨g, -⟩
  · refine va_bast hx hb hK hP hD hS q0 t0 he ht hin hdg fun H1 locs1 hP1 hD1 hS1 => hn ▸ kw (vp_nar .byte x) H1 locs1 ?_ ?_ ?_ hS1
    · show zr σ b as (cond (Nat.beq (v % 8) 0) (8 * cond (Nat.blt (v / 8 % 256) 128) (v / 8 % 256) (v / 8 % 256 + 4294967040)) 6) _
      cases hq : Nat.beq (v % 8) 0 with
      | false => exact zr_any
      | true =>
        have hx := Value.int.inj ((zr_0 (zx_beq.mp hq)).mp hv)
        refine (zr_0 (by show (8 * _) % 8 = 0; omega)).mpr ?_
        rw [vp_nar_byte, hx, zn_byte]
        show _ = Value.int (nI (8 * _ / 8))
        rw [Nat.mul_div_cancel_left _ (by decide)]
    · rw [hcl] at hP1; exact hP1
    · rw [hcl] at hD1; exact hD1
  · exact absurd g (by decide)
theorem zo_zast (hx : p.tables.exec = Jvm.exec) (hb : c.code = cc) (ha : a = 3) (hdg : decode cc pc = .ok (.bastore, 1)) (hn : nxt = pc + 1) (h : zh_ast a a2 nxt d lv stk hp st u w k = true) (r : zr_R G σ b A nL s H locs ls vs lv stk hp st) (kk : zr_KK p l e R s m args below meth c Q G σ b A nL k) : W p l e R s m args below meth c H locs u w Q (F0 m pc ls vs) := by
  subst ha
  refine zo_ast (by decide) h r kk fun tys ws q0 q i n v e0 vr cA t0 as hK hP hD hS he ht hin hcl h5 => ?_
  rcases h5 with ⟨-, x, f, rfl, hv, rfl, kw⟩ | ⟨g, -⟩
  · refine va_zast hx hb hK hP hD hS q0 t0 he ht hin hdg fun H1 locs1 hP1 hD1 hS1 => hn ▸ kw (vp_nar .boolean x) H1 locs1 ?_ ?_ ?_ hS1
    · show zr σ b as (cond (Nat.beq (v % 8) 0) (8 * (v / 8 % 2)) 6) _
      cases hq : Nat.beq (v % 8) 0 with
      | false => exact zr_any
      | true =>
        have hx := Value.int.inj ((zr_0 (zx_beq.mp hq)).mp hv)
        refine (zr_0 (by show (8 * _) % 8 = 0; omega)).mpr ?_
        rw [hx, zn_z]
        show _ = Value.int (nI (8 * (v / 8 % 2) / 8))
        rw [Nat.mul_div_cancel_left _ (by decide)]
    · rw [hcl] at hP1; exact hP1
    · rw [hcl] at hD1; exact hD1
  · exact absurd g (by decide)
theorem zo_last (hx : p.tables.exec = Jvm.exec) (hb : c.code = cc) (ha : a = 4) (hdg : decode cc pc = .ok (.lastore, 1)) (hn : nxt = pc + 1) (h : zh_ast a a2 nxt d lv stk hp st u w k = true) (r : zr_R G σ b A nL s H locs ls vs lv stk hp st) (kk : zr_KK p l e R s m args below meth c Q G σ b A nL k) : W p l e R s m args below meth c H locs u w Q (F0 m pc ls vs) := by
  subst ha
  refine zo_ast (by decide) h r kk fun tys ws q0 q i n v e0 vr cA t0 as hK hP hD hS he ht hin hcl h5 => ?_
  rcases h5 with ⟨g, -⟩ | ⟨-, x, f, rfl, rfl, kw⟩
  · exact absurd g (by decide)
  · refine va_last hx hb hK hP hD hS q0 t0 he ht hin hdg fun H1 locs1 hP1 hD1 hS1 => hn ▸ kw H1 locs1 ?_ ?_ hS1
    · rw [hcl] at hP1; exact hP1
    · rw [hcl] at hD1; exact hD1
end ZS
end
section
def zk_df (c : Nat) : Option Value := if c = 0 then some (.int 0) else if c = 1 then some (.long 0) else if c = 2 then some .null else none
theorem zk_df_ok {σ : Nat → Int32} {b : zxBB} {as : List Nat} {c : Nat} {v : Value} (h : zk_df c = some v) : zr σ b as c v := by
  unfold zk_df at h
  split at h
  · next h0 => subst h0; cases h; exact (zr_0 rfl).mpr (by rw [← nI_0])
  · split at h
    · next h0 => subst h0; cases h; exact (zr_1 rfl).mpr rfl
    · split at h
      · next h0 => subst h0; cases h; exact (zr_2' rfl).mpr (Or.inl ⟨rfl, rfl⟩)
      · cases h
theorem zk_df_all {σ : Nat → Int32} {b : zxBB} {as : List Nat} : ∀ {d : List Nat}, (∀ c ∈ d, (zk_df c).isSome = true) → zr_2 (zr σ b as) d (d.map (fun c => (zk_df c).getD .null))
  | [], _ => trivial
  | c :: d, h => by
    refine ⟨?_, zk_df_all (fun c hc => h c (List.mem_cons_of_mem _ hc))⟩
    have h1 := h c List.mem_cons_self
    cases hq : zk_df c with
    | none => rw [hq] at h1; cases h1
    | some v => show zr σ b as c ((zk_df c).getD .null); rw [hq]; exact zk_df_ok hq
/-- new's row -/
def zk_new (own : String) (a ci : Nat) (d : List Nat) : Prop := ∃ (C : String) (T : u_T) (N : Nat), vwCl[ci]? = some (C, T, N) ∧ Cond.classLink own a C ∈ zk_T ∧ Cond.instantiable C N ∈ zk_T ∧ Cond.initialized C ∈ zk_T ∧ d.length = N ∧ (∀ c ∈ d, (zk_df c).isSome = true) ∧ ∀ j, j < N → (parseFieldDescriptor (T j).2.2.1).map defaultValue = some ((zk_df (d.getD j 0)).getD .null)
def zk_at (b : Nat) : ArrayType := if b = 1 then .int else if b = 2 then .byte else if b = 3 then .boolean else .long
section ZM
variable {p : Program} {l : Launch} {e : Env} {R : Room} {s : State} {m : MethodId} {args : Array Value} {below : List Frame} {meth : Method} {c : Code} {Q : State → Prop} {cc : ByteArray} {nL : Nat} {G : va_G} {σ : Nat → Int32} {b : zxBB} {A : Nat → Prop} {pc a a2 nxt : Nat} {d : List Nat} {lv : zxLV} {stk : List Nat} {hp : zxHP} {st : zxST} {u w : Nat} {k : zxKT} {H : Heap} {locs : List Loc} {ls : Array Slot} {vs : List Value} {own : String}
theorem zo_astq (hx : p.tables.exec = Jvm.exec) (hb : c.code = cc) (ha : (a = 5 ∧ a2 = 20) ∨ (a = 6 ∧ a2 = 23)) (hdg : decode cc pc = .ok (.aastore, 1)) (hn : nxt = pc + 1) (h : zh_astq a a2 nxt d lv stk hp st u w k = true) (r : zr_R G σ b A nL s H locs ls vs lv stk hp st) (kk : zr_KK p l e R s m args below meth c Q G σ b A nL k) : W p l e R s m args below meth c H locs u w Q (F0 m pc ls vs) := by
  obtain ⟨hσ, hS, as, ⟨tys, ws, hK, hW, hP, hD⟩, hL, hV⟩ := r
  rcases stk with _ | ⟨z, _ | ⟨y, _ | ⟨x, rr⟩⟩⟩
  · exact absurd h Bool.false_ne_true
  · exact absurd h Bool.false_ne_true
  · exact absurd h Bool.false_ne_true
  rcases vs with _ | ⟨vz, _ | ⟨vy, _ | ⟨vx, vr⟩⟩⟩
  · exact hV.elim
  · exact hV.2.elim
  · exact hV.2.2.elim
  obtain ⟨hz, hy, hx1, hr⟩ := hV
  obtain ⟨y', s1, h, hσ, my⟩ := zx_C_ok (show zx_C y st (fun i s => cond (Nat.beq (i % 8) 0 && (Nat.beq (x % 8) 3 && Nat.beq (z % 8) 3)) (match zx_G hp (z / 8) with | (tv, _, _, _) => cond (Nat.beq tv a2) (zx_F (x / 8) (fun q => match zx_G hp q with | (t, n, fs, es) => cond (Nat.beq t a && Nat.blt (i / 8) n) (zx_F (i / 8) (fun j => zx_H hp q (t, n, fs, (j, z) :: es) (fun hp2 => k nxt lv rr hp2 s u w))) false)) false) false) = true from h) hσ
  have hy := my _ _ _ hy
  obtain ⟨h1, h⟩ := zx_c1 h
  obtain ⟨h1, h2⟩ := zx_an h1
  obtain ⟨h2, h2e⟩ := zx_an h2
  have hy := (zr_0 (zx_beq.mp h1)).mp hy
  subst hy
  obtain ⟨q, hq, rfl⟩ := (zr_3 (zx_beq.mp h2)).mp hx1
  obtain ⟨qz, hqz, rfl⟩ := (zr_3 (zx_beq.mp h2e)).mp hz
  obtain ⟨ez, hez, hEz⟩ := zr_W_get hW hqz
  generalize hGz : zx_G hp (z / 8) = Ez at h hEz
  obtain ⟨tz, nz, fz, esz⟩ := Ez
  obtain ⟨h7, h⟩ := zx_c1 (show cond (Nat.beq tz a2) (zx_F (x / 8) (fun q => match zx_G hp q with | (t, n, fs, es) => cond (Nat.beq t a && Nat.blt (y' / 8) n) (zx_F (y' / 8) (fun j => zx_H hp q (t, n, fs, (j, z) :: es) (fun hp2 => k nxt lv rr hp2 s1 u w))) false)) false = true from h)
  have h7 := zx_beq.mp h7
  rw [zx_F_eq] at h
  obtain ⟨e0, he, hE⟩ := zr_W_get hW hq
  have hne : (zx_G hp (x / 8)).1 ≠ 0 := by
    rcases hE with ⟨g, -⟩ | ⟨-, g, -⟩ <;> omega
  generalize hGd : zx_G hp (x / 8) = E at h hE
  obtain ⟨t, n0, fs, es⟩ := E
  obtain ⟨h3, h6⟩ := zx_c1 (show cond (Nat.beq t a && Nat.blt (y' / 8) n0) (zx_F (y' / 8) (fun j => zx_H hp (x / 8) (t, n0, fs, (j, z) :: es) (fun hp2 => k nxt lv rr hp2 s1 u w))) false = true from h)
  obtain ⟨h3, h4⟩ := zx_an h3
  have h3 := zx_beq.mp h3
  have h4 := zx_blt.mp h4
  rw [zx_F_eq] at h6
  obtain ⟨hp', e2, z1, z2⟩ := zx_H_ok hp (x / 8) (t, n0, fs, (y' / 8, z) :: es) (fun hp2 => k nxt lv rr hp2 s1 u w) hne
  rw [e2] at h6
  have ht16 : t < 16 ∧ 4 < t := by rcases ha with ⟨g, -⟩ | ⟨g, -⟩ <;> omega
  have htz : 16 ≤ tz := by rcases ha with ⟨-, g⟩ | ⟨-, g⟩ <;> omega
  rcases hEz with ⟨-, fz', rfl, -⟩ | ⟨g, -⟩
  · rcases hE with ⟨g, -⟩ | ⟨g16, g0, h31, cA, t0, ht, h5⟩
    · exact absurd (show 16 ≤ t from g) (by omega)
    · rcases h5 with ⟨g, -⟩ | ⟨g, -⟩ | ⟨g, f, rfl, hf⟩
      · exact absurd (show t < 4 from g) (by omega)
      · exact absurd (show t = 4 from g) (by omega)
      · have hin : vp_in (nI (y' / 8)) n0 := vp_in_nI h4 h31
        have hcl : (nI (y' / 8)).toNatClampNeg = y' / 8 := nI_clamp (Nat.lt_trans h4 h31)
        have hcc : ∃ r : vw_C, vwCl[tz - 16]? = some r ∧ zr_ty t = .object r.1 := by
          rcases ha with ⟨g1, g2⟩ | ⟨g1, g2⟩
          · rw [h3, g1, h7, g2]; exact ⟨_, rfl, rfl⟩
          · rw [h3, g1, h7, g2]; exact ⟨_, rfl, rfl⟩
        obtain ⟨r, hr1, hr2⟩ := hcc
        have ht : tys[t0]? = some (cA, zr_ty t) := ht
        rw [hr2] at ht
        refine va_astq hx hb hK hP hD hS (x / 8) t0 (z / 8) (tz - 16) he ht hez hr1 hin hdg fun H1 locs1 hP1 hD1 hS1 => ?_
        rw [hcl] at hP1 hD1
        refine hn ▸ kk _ _ _ _ _ _ _ _ _ _ _ h6 ⟨hσ, hS1, as, ⟨tys, _, hK, zr_W_set hW hq z1 z2 ?_, hP1, hD1⟩, hL, hr⟩
        refine Or.inr ⟨g16, g0, h31, cA, t0, by rw [hr2]; exact ht, Or.inr (Or.inr ⟨g, _, rfl, fun j hj => ?_⟩)⟩
        rw [zr_c_cons]
        by_cases hjq : j = y' / 8
        · rw [hjq, if_pos rfl]; unfold va_up; rw [if_pos rfl]; exact hz
        · rw [if_neg (Ne.symm hjq)]; unfold va_up; rw [if_neg hjq]; exact hf j hj
  · exact absurd htz (Nat.not_le.mpr g)
theorem zo_new (hC : zk_C) (hx : p.tables.exec = Jvm.exec) (hb : c.code = cc) (hts : ∀ w ∈ zk_T, w.before args s = true) (hown : s.vm.findClass own = some m.cls) (hA : ∀ q, s.heap.size ≤ q → A q) (hg : zk_new own a a2 d) (hdg : decode cc pc = .ok (.new a, 3)) (hn : nxt = pc + 3) (hk : ∀ pc lv stk hp st u w, k pc lv stk hp st u w = true → u ≤ R.cells ∧ w ≤ R.slots) (h : zh_new a a2 nxt d lv stk hp st u w k = true) (r : zr_R G σ b A nL s H locs ls vs lv stk hp st) (kk : zr_KK p l e R s m args below meth c Q G σ b A nL k) : W p l e R s m args below meth c H locs u w Q (F0 m pc ls vs) := by
  obtain ⟨hσ, hS, as, ⟨tys, ws, hK, hW, hP, hD⟩, ⟨lv', hl, hL⟩, hV⟩ := r
  unfold zh_new at h
  rw [zx_F_eq] at h
  obtain ⟨hp', h, z1, z2, z3⟩ := zx_B_ok h
  rw [zx_F_eq, zx_F_eq, zx_F_eq, zx_Z_eq] at h
  obtain ⟨C, T, N, hcl, hlink, hins, hini, hlen, hdf, hdv⟩ := hg
  obtain ⟨hin1, ty0, hty, hnm⟩ := hC _ _ _ _ hcl
  obtain ⟨hu, hw⟩ := hk _ _ _ _ _ _ _ h
  rw [hlen] at h hw
  refine va_new (fs := d.map (fun c => (zk_df c).getD .null)) hx hb hts hin1 ty0 hty hown (hts _ hlink) (hts _ hins) (hts _ hini) hK hP hD hS hA hcl (fun j hj => ?_) hu hw hdg fun q H1 hP1 hD1 hS1 => ?_
  · have h1 := hdv j hj
    rw [hty j hj] at h1
    have h1 := Option.some.inj h1
    rw [h1]
    unfold vp_V
    have hjd : j < d.length := by rw [hlen]; exact hj
    rw [List.getD_eq_getElem?_getD, List.getD_eq_getElem?_getD, List.getElem?_map, List.getElem?_eq_getElem hjd]
    rfl
  · refine hn ▸ kk _ _ _ _ _ _ _ _ _ _ _ h ⟨hσ, hS1, as ++ [q], ⟨tys, _, hK, ?_, hP1, hD1⟩, ⟨lv', hl, zr_2_mono (fun _ _ h => ⟨h.1, zr_mono [q] h.2⟩) hL⟩, ?_, zr_2_mono (fun _ _ h => zr_mono [q] h) hV⟩
    · have hw2 := zr_W_push (q := q) (E := (16 + a2, 0, d, [])) (e := .inr (a2, d.map (fun c => (zk_df c).getD .null))) hW [] z1 z2 z3 (Or.inl ⟨Nat.le_add_right 16 a2, _, by rw [show (16 + a2, 0, d, ([] : List (Nat × Nat))).1 - 16 = a2 from by show 16 + a2 - 16 = a2; omega], zk_df_all hdf⟩)
      rw [List.append_nil] at hw2
      exact hw2
    · refine (zr_3 (by omega)).mpr ⟨q, ?_, rfl⟩
      rw [show (8 * hp.1 + 3) / 8 = hp.1 by omega, List.getElem?_append_right (by rw [hW.1]; exact Nat.le_refl _), hW.1]
      simp
/-- the arrays of numbers -/
theorem zo_newa (hx : p.tables.exec = Jvm.exec) (hb : c.code = cc) (hA : ∀ q, s.heap.size ≤ q → A q) (ha2 : (a2 < 4 ∧ 0 < a2 ∧ d = [0]) ∨ (a2 = 4 ∧ d = [1])) (harr : (Cond.arrayClass (zr_ty a2)).before args s = true) (hdg : decode cc pc = .ok (.newarray (zk_at a2), 2)) (hn : nxt = pc + 2) (hk : ∀ pc lv stk hp st u w, k pc lv stk hp st u w = true → u ≤ R.cells ∧ w ≤ R.slots) (h : zh_newa a a2 nxt d lv stk hp st u w k = true) (r : zr_R G σ b A nL s H locs ls vs lv stk hp st) (kk : zr_KK p l e R s m args below meth c Q G σ b A nL k) : W p l e R s m args below meth c H locs u w Q (F0 m pc ls vs) := by
  obtain ⟨hσ, hS, as, ⟨tys, ws, hK, hW, hP, hD⟩, ⟨lv', hl, hL⟩, hV⟩ := r
  rcases stk with _ | ⟨x, rr⟩
  · exact absurd h Bool.false_ne_true
  rcases vs with _ | ⟨vx, vr⟩
  · exact hV.elim
  obtain ⟨hx1, hr⟩ := hV
  obtain ⟨h1, h⟩ := zx_c1 (show cond (Nat.beq (x % 8) 0 && Nat.blt (x / 8) 1000000) (zx_F (x / 8) (fun n => zx_B hp (a2, n, d, []) (fun q hp2 => zx_F (8 * q + 3) (fun v => zx_F (Nat.succ u) (fun u2 => zx_F (w + n) (fun w2 => k nxt lv (v :: rr) hp2 st u2 w2)))))) false = true from h)
  obtain ⟨h1, h2⟩ := zx_an h1
  have h2 := zx_blt.mp h2
  have hx1 := (zr_0 (zx_beq.mp h1)).mp hx1
  subst hx1
  rw [zx_F_eq] at h
  obtain ⟨hp', h, z1, z2, z3⟩ := zx_B_ok h
  rw [zx_F_eq, zx_F_eq, zx_F_eq] at h
  obtain ⟨hu, hw⟩ := hk _ _ _ _ _ _ _ h
  have hb31 : x / 8 < 2 ^ 31 := by omega
  have hpush : ∀ (q : Nat) (cA : ClassId) (H1 : Heap) (e1 : va_E), va_K G vwCl (tys ++ [(cA, zr_ty a2)]) s → va_P G vwCl (ws ++ [(q, e1)]) H1 → va_D A (ws ++ [(q, e1)]) → va_S A s.heap H1 locs → zr_E σ b (as ++ [q]) (tys ++ [(cA, zr_ty a2)]) (a2, x / 8, d, []) e1 → W p l e R s m args below meth c H1 locs (u + 1) (w + x / 8) Q (F0 m (pc + 2) ls (.ref q :: vr)) := by
    intro q cA H1 e1 hK1 hP1 hD1 hS1 hE1
    refine hn ▸ kk _ _ _ _ _ _ _ _ _ _ _ h ⟨hσ, hS1, as ++ [q], ⟨_, _, hK1, zr_W_push hW _ z1 z2 z3 hE1, hP1, hD1⟩, ⟨lv', hl, zr_2_mono (fun _ _ h => ⟨h.1, zr_mono [q] h.2⟩) hL⟩, ?_, zr_2_mono (fun _ _ h => zr_mono [q] h) hr⟩
    refine (zr_3 (by omega)).mpr ⟨q, ?_, rfl⟩
    rw [show (8 * hp.1 + 3) / 8 = hp.1 by omega, List.getElem?_append_right (by rw [hW.1]; exact Nat.le_refl _), hW.1]
    simp
  have hty0 : ∀ cA : ClassId, (tys ++ [(cA, zr_ty a2)])[tys.length]? = some (cA, zr_ty a2) := fun cA => by
    rw [List.getElem?_append_right (Nat.le_refl _)]; simp
  have hn0 : ¬ nI (x / 8) < 0 := nI_pos hb31
  have hN : (nI (x / 8)).toNatClampNeg = x / 8 := nI_clamp hb31
  rcases ha2 with ⟨g1, g0, rfl⟩ | ⟨rfl, rfl⟩
  · have hz : ∀ (q j : Nat), zr σ b (as ++ [q]) (zr_c (a2, x / 8, [0], []) j) (.int (0 : Int32)) := fun q j => by rw [show zr_c (a2, x / 8, [0], []) j = 0 from rfl]; exact (zr_0 rfl).mpr (by rw [← nI_0])
    rcases (show a2 = 1 ∨ a2 = 2 ∨ a2 = 3 by omega) with rfl | rfl | rfl
    · exact va_newa (a0 := (x / 8, .inl (fun _ => 0))) hx hb (atype := .int) harr rfl hK hP hD hS hA (fun _ => rfl) hn0 hN (by show x / 8 * 4 ≤ _; omega) hu hw hdg fun q cA H1 hK1 hP1 hD1 hS1 => hpush q cA H1 _ hK1 hP1 hD1 hS1 (Or.inr ⟨(show 1 < 16 by decide), (show 0 < 1 by decide), by show x / 8 < _; omega, cA, _, hty0 cA, Or.inl ⟨(show 1 < 4 by decide), _, rfl, fun j _ => hz q j⟩⟩)
    · exact va_newa (a0 := (x / 8, .inl (fun _ => 0))) hx hb (atype := .byte) harr rfl hK hP hD hS hA (fun _ => rfl) hn0 hN (by show x / 8 * 1 ≤ _; omega) hu hw hdg fun q cA H1 hK1 hP1 hD1 hS1 => hpush q cA H1 _ hK1 hP1 hD1 hS1 (Or.inr ⟨(show 2 < 16 by decide), (show 0 < 2 by decide), by show x / 8 < _; omega, cA, _, hty0 cA, Or.inl ⟨(show 2 < 4 by decide), _, rfl, fun j _ => hz q j⟩⟩)
    · exact va_newa (a0 := (x / 8, .inl (fun _ => 0))) hx hb (atype := .boolean) harr rfl hK hP hD hS hA (fun _ => rfl) hn0 hN (by show x / 8 * 1 ≤ _; omega) hu hw hdg fun q cA H1 hK1 hP1 hD1 hS1 => hpush q cA H1 _ hK1 hP1 hD1 hS1 (Or.inr ⟨(show 3 < 16 by decide), (show 0 < 3 by decide), by show x / 8 < _; omega, cA, _, hty0 cA, Or.inl ⟨(show 3 < 4 by decide), _, rfl, fun j _ => hz q j⟩⟩)
  · have hz : ∀ (q j : Nat), zr σ b (as ++ [q]) (zr_c (4, x / 8, [1], []) j) (.long (0 : Int64)) := fun q j => by rw [show zr_c (4, x / 8, [1], []) j = 1 from rfl]; exact (zr_1 rfl).mpr rfl
    exact va_newa (a0 := (x / 8, .inr (.inl (fun _ => 0)))) hx hb (atype := .long) harr rfl hK hP hD hS hA (fun _ => rfl) hn0 hN (by show x / 8 * 8 ≤ _; omega) hu hw hdg fun q cA H1 hK1 hP1 hD1 hS1 => hpush q cA H1 _ hK1 hP1 hD1 hS1 (Or.inr ⟨(show 4 < 16 by decide), (show 0 < 4 by decide), by show x / 8 < _; omega, cA, _, hty0 cA, Or.inr (Or.inl ⟨rfl, _, rfl, fun j _ => hz q j⟩)⟩)
theorem zo_newq (hx : p.tables.exec = Jvm.exec) (hb : c.code = cc) (hts : ∀ w ∈ zk_T, w.before args s = true) (hown : s.vm.findClass own = some m.cls) (hA : ∀ q, s.heap.size ≤ q → A q) {C : String} (hC : zr_ty a2 = .object C) (ha2 : 4 < a2 ∧ a2 < 16) (hd : d = [2]) (hcl : Cond.classLink own a C ∈ zk_T) (hov : va_AO C s) (hdg : decode cc pc = .ok (.anewarray a, 3)) (hn : nxt = pc + 3) (hk : ∀ pc lv stk hp st u w, k pc lv stk hp st u w = true → u ≤ R.cells ∧ w ≤ R.slots) (h : zh_newa a a2 nxt d lv stk hp st u w k = true) (r : zr_R G σ b A nL s H locs ls vs lv stk hp st) (kk : zr_KK p l e R s m args below meth c Q G σ b A nL k) : W p l e R s m args below meth c H locs u w Q (F0 m pc ls vs) := by
  obtain ⟨hσ, hS, as, ⟨tys, ws, hK, hW, hP, hD⟩, ⟨lv', hl, hL⟩, hV⟩ := r
  rcases stk with _ | ⟨x, rr⟩
  · exact absurd h Bool.false_ne_true
  rcases vs with _ | ⟨vx, vr⟩
  · exact hV.elim
  obtain ⟨hx1, hr⟩ := hV
  obtain ⟨h1, h⟩ := zx_c1 (show cond (Nat.beq (x % 8) 0 && Nat.blt (x / 8) 1000000) (zx_F (x / 8) (fun n => zx_B hp (a2, n, d, []) (fun q hp2 => zx_F (8 * q + 3) (fun v => zx_F (Nat.succ u) (fun u2 => zx_F (w + n) (fun w2 => k nxt lv (v :: rr) hp2 st u2 w2)))))) false = true from h)
  obtain ⟨h1, h2⟩ := zx_an h1
  have h2 := zx_blt.mp h2
  have hx1 := (zr_0 (zx_beq.mp h1)).mp hx1
  subst hx1
  rw [zx_F_eq] at h
  obtain ⟨hp', h, z1, z2, z3⟩ := zx_B_ok h
  rw [zx_F_eq, zx_F_eq, zx_F_eq] at h
  obtain ⟨hu, hw⟩ := hk _ _ _ _ _ _ _ h
  have hb31 : x / 8 < 2 ^ 31 := by omega
  refine va_newq hx hb hown (hts _ hcl) hov hK hP hD hS hA (nI_pos hb31) (nI_clamp hb31) (by omega) hu hw hdg fun q cA H1 hK1 hP1 hD1 hS1 => ?_
  have hE1 : zr_E σ b (as ++ [q]) (tys ++ [(cA, .object C)]) (a2, x / 8, d, []) (.inl (cA, x / 8, .inr (.inr (.inr (.inr (fun _ => none)))))) := by
    refine Or.inr ⟨ha2.2, Nat.lt_trans (by decide) ha2.1, by show x / 8 < _; omega, cA, tys.length, ?_, Or.inr (Or.inr ⟨ha2.1, _, rfl, fun j _ => ?_⟩)⟩
    · rw [List.getElem?_append_right (Nat.le_refl _)]; simp [hC]
    · rw [hd]; exact (zr_2' rfl).mpr (Or.inl ⟨rfl, rfl⟩)
  refine hn ▸ kk _ _ _ _ _ _ _ _ _ _ _ h ⟨hσ, hS1, as ++ [q], ⟨_, _, hK1, zr_W_push hW _ z1 z2 z3 hE1, hP1, hD1⟩, ⟨lv', hl, zr_2_mono (fun _ _ h => ⟨h.1, zr_mono [q] h.2⟩) hL⟩, ?_, zr_2_mono (fun _ _ h => zr_mono [q] h) hr⟩
  refine (zr_3 (by omega)).mpr ⟨q, ?_, rfl⟩
  rw [show (8 * hp.1 + 3) / 8 = hp.1 by omega, List.getElem?_append_right (by rw [hW.1]; exact Nat.le_refl _), hW.1]
  simp
theorem zo_copy (hx : p.tables.exec = Jvm.exec) (hb : c.code = cc) (hml : c.maxLocals = nL) (hts : ∀ w ∈ zk_T, w.before args s = true) (hown : s.vm.findClass own = some m.cls) (hlink : Cond.methodLink own a arraycopyName ∈ zk_T) (hnat : Cond.native arraycopyName ∈ zk_T) (hstat : Cond.static arraycopyName ∈ zk_T) (hini : Cond.initialized "java/lang/System" ∈ zk_T) (hfr : 1 ≤ R.frames) (hlo : 60 ≤ R.locals) (hdg : decode cc pc = .ok (.invokestatic a, 3)) (hn : nxt = pc + 3) (h : zh_copy a a2 nxt d lv stk hp st u w k = true) (r : zr_R G σ b A nL s H locs ls vs lv stk hp st) (kk : zr_KK p l e R s m args below meth c Q G σ b A nL k) : W p l e R s m args below meth c H locs u w Q (F0 m pc ls vs) := by
  obtain ⟨hσ, hS, as, ⟨tys, ws, hK, hW, hP, hD⟩, ⟨lv', hl, hL⟩, hV⟩ := r
  rcases stk with _ | ⟨n, _ | ⟨dp, _ | ⟨x, _ | ⟨sp, _ | ⟨y, rr⟩⟩⟩⟩⟩
  · exact absurd h Bool.false_ne_true
  · exact absurd h Bool.false_ne_true
  · exact absurd h Bool.false_ne_true
  · exact absurd h Bool.false_ne_true
  · exact absurd h Bool.false_ne_true
  rcases vs with _ | ⟨vn, _ | ⟨vdp, _ | ⟨vx, _ | ⟨vsp, _ | ⟨vy, vr⟩⟩⟩⟩⟩
  · exact hV.elim
  · exact hV.2.elim
  · exact hV.2.2.elim
  · exact hV.2.2.2.elim
  · exact hV.2.2.2.2.elim
  obtain ⟨hvn, hvdp, hvx, hvsp, hvy, hr⟩ := hV
  obtain ⟨h1, h⟩ := zx_c1 (show cond (Nat.beq dp 0 && (Nat.beq sp 0 && (Nat.beq (n % 8) 0 && (Nat.beq (x % 8) 3 && (Nat.beq (y % 8) 3 && Nat.ble (zx_Z rr) 0))))) (zx_F (x / 8) (fun q => match zx_G hp q with | (t, m, _, _) => match zx_G hp (y / 8) with | (t2, m2, fs2, es2) => cond (Nat.beq t 1 && (Nat.beq t2 1 && (Nat.beq m (n / 8) && Nat.beq m2 (n / 8)))) (zx_H hp q (t, m, fs2, es2) (fun hp2 => k nxt lv rr hp2 st u w)) false)) false = true from h)
  have q1 := zx_an h1
  have q2 := zx_an q1.2
  have q3 := zx_an q2.2
  have q4 := zx_an q3.2
  have q5 := zx_an q4.2
  rw [zx_beq.mp q1.1] at hvdp
  rw [zx_beq.mp q2.1] at hvsp
  have hvdp := (zr_0 rfl).mp hvdp
  have hvsp := (zr_0 rfl).mp hvsp
  have hvn := (zr_0 (zx_beq.mp q3.1)).mp hvn
  obtain ⟨ax, hax, rfl⟩ := (zr_3 (zx_beq.mp q4.1)).mp hvx
  obtain ⟨ay, hay, rfl⟩ := (zr_3 (zx_beq.mp q5.1)).mp hvy
  subst hvdp
  subst hvsp
  subst hvn
  have hrl : vr = [] := by
    have := zx_ble.mp q5.2
    rw [zx_Z_eq, zr_2_len hr] at this
    exact List.eq_nil_of_length_eq_zero (by omega)
  subst hrl
  rw [zx_F_eq] at h
  obtain ⟨e1, he1, hE1⟩ := zr_W_get hW hax
  obtain ⟨e2, he2, hE2⟩ := zr_W_get hW hay
  have hne : (zx_G hp (x / 8)).1 ≠ 0 := by
    rcases hE1 with ⟨g, -⟩ | ⟨-, g, -⟩ <;> omega
  generalize hG1 : zx_G hp (x / 8) = E1 at h hE1
  generalize hG2 : zx_G hp (y / 8) = E2 at h hE2
  obtain ⟨t1, m1, f1, s1⟩ := E1
  obtain ⟨t2, m2, f2, s2⟩ := E2
  obtain ⟨h2, h⟩ := zx_c1 (show cond (Nat.beq t1 1 && (Nat.beq t2 1 && (Nat.beq m1 (n / 8) && Nat.beq m2 (n / 8)))) (zx_H hp (x / 8) (t1, m1, f2, s2) (fun hp2 => k nxt lv rr hp2 st u w)) false = true from h)
  have g1 := zx_an h2
  have g2 := zx_an g1.2
  have g3 := zx_an g2.2
  have ht1 := zx_beq.mp g1.1
  have ht2 := zx_beq.mp g2.1
  have hm1 := zx_beq.mp g3.1
  have hm2 := zx_beq.mp g3.2
  obtain ⟨hp', e3, z1, z2⟩ := zx_H_ok hp (x / 8) (t1, m1, f2, s2) (fun hp2 => k nxt lv rr hp2 st u w) hne
  rw [e3] at h
  rcases hE1 with ⟨g, -⟩ | ⟨-, -, hb1, cA1, tt1, hty1, h5⟩
  · exact absurd (show 16 ≤ t1 from g) (by omega)
  rcases hE2 with ⟨g, -⟩ | ⟨-, -, hb2, cA2, tt2, hty2, h6⟩
  · exact absurd (show 16 ≤ t2 from g) (by omega)
  rcases h5 with ⟨-, ff1, rfl, hf1⟩ | ⟨g, -⟩ | ⟨g, -⟩
  · rcases h6 with ⟨-, ff2, rfl, hf2⟩ | ⟨g, -⟩ | ⟨g, -⟩
    · have hb31 : n / 8 < 2 ^ 31 := by
        have hb1 : m1 < 2147483648 := hb1
        omega
      have hN : (nI (n / 8)).toNatClampNeg = n / 8 := nI_clamp hb31
      have h00 : (nI (0 / 8)).toNatClampNeg = 0 := nI_clamp (by decide)
      have hty1 : tys[tt1]? = some (cA1, .int) := by rw [show zr_ty (t1, m1, f1, s1).1 = .int from by show zr_ty t1 = .int; rw [ht1]; rfl] at hty1; exact hty1
      have hty2 : tys[tt2]? = some (cA2, .int) := by rw [show zr_ty (t2, m2, f2, s2).1 = .int from by show zr_ty t2 = .int; rw [ht2]; rfl] at hty2; exact hty2
      refine va_copyi hx hb (by rw [hml]; exact hl.1.symm) hown (hts _ hlink) (hts _ hnat) (hts _ hstat) (hts _ hini) hK hP hD hS (y / 8) (x / 8) tt2 tt1 he2 he1 hty2 hty1 rfl (nI_pos (by decide)) (nI_pos (by decide)) (nI_pos hb31) ?_ ?_ (fun _ _ => rfl) hfr (by show 0 + _ ≤ R.locals; exact Nat.le_trans (by decide) hlo) hdg fun H1 locs1 hP1 hD1 hS1 => ?_
      · rw [h00, hN]; show 0 + n / 8 ≤ m2; omega
      · rw [h00, hN]; show 0 + n / 8 ≤ m1; omega
      · rw [h00, hN] at hP1 hD1
        refine hn ▸ kk _ _ _ _ _ _ _ _ _ _ _ h ⟨hσ, hS1, as, ⟨tys, _, hK, zr_W_set hW hax z1 z2 ?_, hP1, hD1⟩, ⟨lv', hl, hL⟩, hr⟩
        refine Or.inr ⟨by show t1 < 16; omega, by show 0 < t1; omega, hb1, cA1, tt1, by rw [hty1]; show _ = some (cA1, zr_ty t1); rw [ht1]; rfl, Or.inl ⟨by show t1 < 4; omega, _, rfl, fun j hj => ?_⟩⟩
        have hj : j < m1 := hj
        rw [pk_cpy_in (by omega) (by omega)]
        have hq := hf2 j (by show j < m2; omega)
        rw [show 0 + (j - 0) = j by omega]
        exact hq
    · exact absurd (show t2 = 4 from g) (by omega)
    · exact absurd (show 4 < t2 from g) (by omega)
  · exact absurd (show t1 = 4 from g) (by omega)
  · exact absurd (show 4 < t1 from g) (by omega)
end ZM
end
section
/-- the tables' words that a call must bring along by itself -/
def zk_N (U : State) : Prop := va_Nw (.methodLinkNest "StubHouse$Library" 38 ⟨"StubHouse$Tape", "<init>", "()V"⟩ "StubHouse") U ∧ va_Nw (.methodLinkNest "StubHouse$Reader" 3 ⟨"StubHouse$Drive", "<init>", "()V"⟩ "StubHouse") U ∧ va_Nw (.methodLinkNest "StubHouse$Writer" 3 ⟨"StubHouse$Drive", "<init>", "()V"⟩ "StubHouse") U ∧ va_AO "StubHouse$Node" U ∧ va_AO "StubHouse$Tape" U
/-- what a frame of the method y has -/
def zk_Cx (p : Program) (s : State) (m : MethodId) (args : Array Value) (meth : Method) (c : Code) (A : Nat → Prop) (y : MethodName) (cc : ByteArray) (nL : Nat) : Prop :=
  p.tables.exec = Jvm.exec ∧ c.code = cc ∧ c.maxLocals = nL ∧ s.vm.findClass y.cls = some m.cls ∧ (∀ w ∈ zk_T, w.before args s = true) ∧ (y.name = "<init>" → meth.name = "<init>") ∧ (∀ q, s.heap.size ≤ q → A q) ∧ zk_N s
abbrev zkPT : Type := MethodName → ByteArray → Nat → Nat → Nat → Nat → Nat → List Nat → Prop
/-- an instruction of the engine is one of the machine, where its row says what P says -/
def zk_HO (hd : zxHD) (P : zkPT) : Prop := ∀ (p : Program) (l : Launch) (e : Env) (R : Room) (s : State) (m : MethodId) (args : Array Value) (below : List Frame) (meth : Method) (c : Code) (Q : State → Prop) (cc : ByteArray) (nL : Nat) (G : va_G) (σ : Nat → Int32) (b : zxBB) (A : Nat → Prop) (y : MethodName) (pc a a2 nxt : Nat) (d : List Nat) (lv : zxLV) (stk : List Nat) (hp : zxHP) (st : zxST) (u w : Nat) (k : zxKT) (H : Heap) (locs : List Loc) (ls : Array Slot) (vs : List Value),
  zk_Cx p s m args meth c A y cc nL → P y cc nL pc a a2 nxt d → (∀ pc lv stk hp st u w, k pc lv stk hp st u w = true → u ≤ R.cells ∧ w ≤ R.slots) → hd a a2 nxt d lv stk hp st u w k = true → zr_R G σ b A nL s H locs ls vs lv stk hp st → zr_KK p l e R s m args below meth c Q G σ b A nL k → W p l e R s m args below meth c H locs u w Q (F0 m pc ls vs)
/-- the same of a piece of code that may call -/
def zk_HP (hd : zxHD) (P : zkPT) : Prop := ∀ (p : Program) (l : Launch) (e : Env) (R : Room) (s : State) (m : MethodId) (args : Array Value) (below : List Frame) (meth : Method) (c : Code) (Q : State → Prop) (cc : ByteArray) (nL : Nat) (G : va_G) (σ : Nat → Int32) (b : zxBB) (A : Nat → Prop) (y : MethodName) (pc a a2 nxt : Nat) (d : List Nat) (lv : zxLV) (stk : List Nat) (hp : zxHP) (st : zxST) (u w : Nat) (k : zxKT) (H : Heap) (locs : List Loc) (ls : Array Slot) (vs : List Value),
  1 ≤ R.frames → 60 ≤ R.locals → u ≤ R.cells → w ≤ R.slots → zk_Cx p s m args meth c A y cc nL → P y cc nL pc a a2 nxt d → (∀ pc lv stk hp st u w, k pc lv stk hp st u w = true → u ≤ R.cells ∧ w ≤ R.slots) → hd a a2 nxt d lv stk hp st u w k = true → zr_R G σ b A nL s H locs ls vs lv stk hp st → zr_KK p l e R s m args below meth c Q G σ b A nL k → W p l e R s m args below meth c H locs u w Q (F0 m pc ls vs)
theorem zk_HP_of {hd : zxHD} {P : zkPT} (h : zk_HO hd P) : zk_HP hd P := fun p l e R s m args below meth c Q cc nL G σ b A y pc a a2 nxt d lv stk hp st u w k H locs ls vs _ _ _ _ => h p l e R s m args below meth c Q cc nL G σ b A y pc a a2 nxt d lv stk hp st u w k H locs ls vs
def zx_sI (n : Nat) : Int := if n < 2147483648 then (n : Int) else (n : Int) - 4294967296
theorem zx_sI_ok (n : Nat) (h : n < 4294967296) : Int32.ofInt (zx_sI n) = nI n := by
  apply Int32.toInt_inj.mp
  rw [zr_nI_toInt, Int32.toInt_ofInt]
  show (zx_sI n).bmod 4294967296 = (n : Int).bmod 4294967296
  unfold zx_sI
  split
  · rfl
  · simp only [Int.bmod_def]
    omega
theorem zx_f4 {a : Nat} (h : a < 4) : ((Fin.ofNat 4 a : Fin 4) : Nat) = a := Nat.mod_eq_of_lt h
def zp_aload_n : zkPT := fun _ cc _ pc a _ nxt _ => a < 4 ∧ decode cc pc = .ok (.aload_n (Fin.ofNat 4 a), 1) ∧ nxt = pc + 1
def zp_iload_n : zkPT := fun _ cc _ pc a _ nxt _ => a < 4 ∧ decode cc pc = .ok (.iload_n (Fin.ofNat 4 a), 1) ∧ nxt = pc + 1
def zp_lload_n : zkPT := fun _ cc _ pc a _ nxt _ => a < 4 ∧ decode cc pc = .ok (.lload_n (Fin.ofNat 4 a), 1) ∧ nxt = pc + 1
def zp_aload : zkPT := fun _ cc _ pc a _ nxt _ => decode cc pc = .ok (.aload a, 2) ∧ nxt = pc + 2
def zp_iload : zkPT := fun _ cc _ pc a _ nxt _ => decode cc pc = .ok (.iload a, 2) ∧ nxt = pc + 2
def zp_lload : zkPT := fun _ cc _ pc a _ nxt _ => decode cc pc = .ok (.lload a, 2) ∧ nxt = pc + 2
def zp_istore_n : zkPT := fun _ cc nL pc a b nxt _ => a < 4 ∧ decode cc pc = .ok (.istore_n (Fin.ofNat 4 a), 1) ∧ nxt = pc + 1 ∧ b = nL
def zp_istore : zkPT := fun _ cc nL pc a b nxt _ => decode cc pc = .ok (.istore a, 2) ∧ nxt = pc + 2 ∧ b = nL
def zp_astore_n : zkPT := fun _ cc nL pc a b nxt _ => a < 4 ∧ decode cc pc = .ok (.astore_n (Fin.ofNat 4 a), 1) ∧ nxt = pc + 1 ∧ b = nL
def zp_astore : zkPT := fun _ cc nL pc a b nxt _ => decode cc pc = .ok (.astore a, 2) ∧ nxt = pc + 2 ∧ b = nL
def zp_get : zkPT := fun y cc _ pc a b nxt d => zk_get y.cls (a % 65536) b d ∧ decode cc pc = .ok (.getfield (a % 65536), 3) ∧ nxt = pc + 3
def zp_put : zkPT := fun y cc _ pc a b nxt d => zk_put false y.cls (a % 65536) b d ∧ decode cc pc = .ok (.putfield (a % 65536), 3) ∧ nxt = pc + 3
def zp_putF : zkPT := fun y cc _ pc a b nxt d => zk_put true y.cls (a % 65536) b d ∧ y.name = "<init>" ∧ decode cc pc = .ok (.putfield (a % 65536), 3) ∧ nxt = pc + 3
def zp_iconst : zkPT := fun _ cc _ pc a _ nxt _ => a % 8 = 0 ∧ a / 8 < 4294967296 ∧ decode cc pc = .ok (.iconst (zx_sI (a / 8)), 1) ∧ nxt = pc + 1
def zp_bipush : zkPT := fun _ cc _ pc a _ nxt _ => a % 8 = 0 ∧ (Int8.ofInt (zx_sI (a / 8))).toInt32 = nI (a / 8) ∧ decode cc pc = .ok (.bipush (zx_sI (a / 8)), 2) ∧ nxt = pc + 2
def zp_sipush : zkPT := fun _ cc _ pc a _ nxt _ => a % 8 = 0 ∧ (Int16.ofInt (zx_sI (a / 8))).toInt32 = nI (a / 8) ∧ decode cc pc = .ok (.sipush (zx_sI (a / 8)), 3) ∧ nxt = pc + 3
def zp_lconst : zkPT := fun _ cc _ pc a _ nxt _ => a % 8 = 1 ∧ a / 8 < 2 ∧ decode cc pc = .ok (.lconst (Fin.ofNat 2 (a / 8)), 1) ∧ nxt = pc + 1
def zp_ldc : zkPT := fun y cc _ pc a b nxt _ => a % 8 = 0 ∧ Cond.constant y.cls (b % 65536) (nI (a / 8)) ∈ zk_T ∧ decode cc pc = .ok (.ldc (b % 65536), 2) ∧ nxt = pc + 2
def zp_ldc2 : zkPT := fun y cc _ pc a b nxt _ => a % 8 = 1 ∧ Cond.constantLong y.cls (b % 65536) (lN (a / 8)) ∈ zk_T ∧ decode cc pc = .ok (.ldc2_w (b % 65536), 3) ∧ nxt = pc + 3
def zp_op (I : Instr) : zkPT := fun _ cc _ pc _ _ nxt _ => decode cc pc = .ok (I, 1) ∧ nxt = pc + 1
def zp_iinc : zkPT := fun _ cc nL pc a b nxt d => ∃ n, d = [n] ∧ n < 4294967296 ∧ decode cc pc = .ok (.iinc a (zx_sI n), 3) ∧ nxt = pc + 3 ∧ b = nL
def zp_icmp : zkPT := fun _ cc _ pc a b nxt _ => (1 ≤ b ∧ b ≤ 6) ∧ decode cc pc = .ok (.if_icmp (zx_cd b) ((a : Int) - (pc : Int)), 3) ∧ nxt = pc + 3
def zp_if : zkPT := fun _ cc _ pc a b nxt _ => (1 ≤ b ∧ b ≤ 6) ∧ decode cc pc = .ok (.ifCond (zx_cd b) ((a : Int) - (pc : Int)), 3) ∧ nxt = pc + 3
def zp_goto : zkPT := fun _ cc _ pc a _ _ _ => decode cc pc = .ok (.goto ((a : Int) - (pc : Int)), 3)
def zp_switch : zkPT := fun _ cc _ pc a b nxt d => decode cc pc = .ok (.tableswitch ((a : Int) - pc) ((b : Int) - 2147483648) ((b : Int) - 2147483648 + d.length - 1) (d.map (fun t : Nat => (t : Int) - (pc : Int))).toArray, nxt - pc)
def zp_arr (kd : Nat) (I : Instr) : zkPT := fun _ cc _ pc a _ nxt _ => a = kd ∧ decode cc pc = .ok (I, 1) ∧ nxt = pc + 1
def zp_aald : zkPT := fun _ cc _ pc a _ nxt _ => (4 < a ∧ a < 16) ∧ decode cc pc = .ok (.aaload, 1) ∧ nxt = pc + 1
def zp_astq : zkPT := fun _ cc _ pc a b nxt _ => ((a = 5 ∧ b = 20) ∨ (a = 6 ∧ b = 23)) ∧ decode cc pc = .ok (.aastore, 1) ∧ nxt = pc + 1
def zp_new : zkPT := fun y cc _ pc a b nxt d => zk_new y.cls (a % 65536) b d ∧ decode cc pc = .ok (.new (a % 65536), 3) ∧ nxt = pc + 3
def zp_newa : zkPT := fun _ cc _ pc _ b nxt d => ((b < 4 ∧ 0 < b ∧ d = [0]) ∨ (b = 4 ∧ d = [1])) ∧ Cond.arrayClass (zr_ty b) ∈ zk_T ∧ decode cc pc = .ok (.newarray (zk_at b), 2) ∧ nxt = pc + 2
def zp_newq : zkPT := fun y cc _ pc a b nxt d => ((b = 5 ∧ Cond.classLink y.cls (a % 65536) "StubHouse$Node" ∈ zk_T) ∨ (b = 6 ∧ Cond.classLink y.cls (a % 65536) "StubHouse$Tape" ∈ zk_T)) ∧ d = [2] ∧ decode cc pc = .ok (.anewarray (a % 65536), 3) ∧ nxt = pc + 3
theorem zk_1 : zk_HO zh_aload zp_aload_n := by
  intro p l e R s m args below meth c Q cc nL G σ b A y pc a a2 nxt d lv stk hp st u w k H locs ls vs ⟨hx, hb, hml, hown, hts, hnm, hA, hN⟩ ⟨h1, h2, h3⟩ hk h r kk
  exact zo_aload h r kk (fun x hl kw => lv_aload_n hx hb h2 (zx_f4 h1) hl (h3 ▸ kw))
theorem zk_2 : zk_HO zh_iload zp_iload_n := by
  intro p l e R s m args below meth c Q cc nL G σ b A y pc a a2 nxt d lv stk hp st u w k H locs ls vs ⟨hx, hb, hml, hown, hts, hnm, hA, hN⟩ ⟨h1, h2, h3⟩ hk h r kk
  exact zo_iload h r kk (fun x hl kw => lv_iload_n hx hb h2 (zx_f4 h1) hl (h3 ▸ kw))
theorem zk_3 : zk_HO zh_lload zp_lload_n := by
  intro p l e R s m args below meth c Q cc nL G σ b A y pc a a2 nxt d lv stk hp st u w k H locs ls vs ⟨hx, hb, hml, hown, hts, hnm, hA, hN⟩ ⟨h1, h2, h3⟩ hk h r kk
  exact zo_lload h r kk (fun x hl kw => lv_lload_n hx hb h2 (zx_f4 h1) hl (h3 ▸ kw))
theorem zk_4 : zk_HO zh_aload zp_aload := by
  intro p l e R s m args below meth c Q cc nL G σ b A y pc a a2 nxt d lv stk hp st u w k H locs ls vs ⟨hx, hb, hml, hown, hts, hnm, hA, hN⟩ ⟨h2, h3⟩ hk h r kk
  exact zo_aload h r kk (fun x hl kw => lv_aload hx hb h2 hl (h3 ▸ kw))
theorem zk_5 : zk_HO zh_iload zp_iload := by
  intro p l e R s m args below meth c Q cc nL G σ b A y pc a a2 nxt d lv stk hp st u w k H locs ls vs ⟨hx, hb, hml, hown, hts, hnm, hA, hN⟩ ⟨h2, h3⟩ hk h r kk
  exact zo_iload h r kk (fun x hl kw => lv_iload hx hb h2 hl (h3 ▸ kw))
theorem zk_6 : zk_HO zh_lload zp_lload := by
  intro p l e R s m args below meth c Q cc nL G σ b A y pc a a2 nxt d lv stk hp st u w k H locs ls vs ⟨hx, hb, hml, hown, hts, hnm, hA, hN⟩ ⟨h2, h3⟩ hk h r kk
  exact zo_lload h r kk (fun x hl kw => lv_lload hx hb h2 hl (h3 ▸ kw))
theorem zk_7 : zk_HO zh_istore zp_istore_n := by
  intro p l e R s m args below meth c Q cc nL G σ b A y pc a a2 nxt d lv stk hp st u w k H locs ls vs ⟨hx, hb, hml, hown, hts, hnm, hA, hN⟩ ⟨h1, h2, h3, h4⟩ hk h r kk
  exact zo_istore h4 h r kk (fun x vs' lv' ev hl ha kw => ev ▸ lv_istore_n hx hb h2 (zx_f4 h1) hl ha rfl (fun ls' hl' => h3 ▸ kw ls' hl'))
theorem zk_8 : zk_HO zh_istore zp_istore := by
  intro p l e R s m args below meth c Q cc nL G σ b A y pc a a2 nxt d lv stk hp st u w k H locs ls vs ⟨hx, hb, hml, hown, hts, hnm, hA, hN⟩ ⟨h2, h3, h4⟩ hk h r kk
  exact zo_istore h4 h r kk (fun x vs' lv' ev hl ha kw => ev ▸ lv_istore hx hb h2 hl ha rfl (fun ls' hl' => h3 ▸ kw ls' hl'))
theorem zk_9 : zk_HO zh_astore zp_astore_n := by
  intro p l e R s m args below meth c Q cc nL G σ b A y pc a a2 nxt d lv stk hp st u w k H locs ls vs ⟨hx, hb, hml, hown, hts, hnm, hA, hN⟩ ⟨h1, h2, h3, h4⟩ hk h r kk
  exact zo_astore h4 h r kk (fun x vs' lv' ev hl ha kw => ev ▸ lv_astore_n hx hb h2 (zx_f4 h1) hl ha rfl (fun ls' hl' => h3 ▸ kw ls' hl'))
theorem zk_10 : zk_HO zh_astore zp_astore := by
  intro p l e R s m args below meth c Q cc nL G σ b A y pc a a2 nxt d lv stk hp st u w k H locs ls vs ⟨hx, hb, hml, hown, hts, hnm, hA, hN⟩ ⟨h2, h3, h4⟩ hk h r kk
  exact zo_astore h4 h r kk (fun x vs' lv' ev hl ha kw => ev ▸ lv_astore hx hb h2 hl ha rfl (fun ls' hl' => h3 ▸ kw ls' hl'))
theorem zh_get_a (a a' b nxt : Nat) (d : List Nat) (lv : zxLV) (stk : List Nat) (hp : zxHP) (st : zxST) (u w : Nat) (k : zxKT) : zh_get a b nxt d lv stk hp st u w k = zh_get a' b nxt d lv stk hp st u w k := rfl
theorem zh_put_a (a a' b nxt : Nat) (d : List Nat) (lv : zxLV) (stk : List Nat) (hp : zxHP) (st : zxST) (u w : Nat) (k : zxKT) : zh_put a b nxt d lv stk hp st u w k = zh_put a' b nxt d lv stk hp st u w k := rfl
theorem zh_new_a (a a' b nxt : Nat) (d : List Nat) (lv : zxLV) (stk : List Nat) (hp : zxHP) (st : zxST) (u w : Nat) (k : zxKT) : zh_new a b nxt d lv stk hp st u w k = zh_new a' b nxt d lv stk hp st u w k := rfl
theorem zh_newa_a (a a' b nxt : Nat) (d : List Nat) (lv : zxLV) (stk : List Nat) (hp : zxHP) (st : zxST) (u w : Nat) (k : zxKT) : zh_newa a b nxt d lv stk hp st u w k = zh_newa a' b nxt d lv stk hp st u w k := rfl
theorem zk_11 (hC : zk_C) : zk_HO zh_get zp_get := by
  intro p l e R s m args below meth c Q cc nL G σ b A y pc a a2 nxt d lv stk hp st u w k H locs ls vs ⟨hx, hb, hml, hown, hts, hnm, hA, hN⟩ ⟨h1, h2, h3⟩ hk h r kk
  exact zo_get hC hx hb hts hown h1 h2 h3 ((zh_get_a a (a % 65536) a2 nxt d lv stk hp st u w k).symm.trans h) r kk
theorem zk_12 (hC : zk_C) : zk_HO zh_put zp_put := by
  intro p l e R s m args below meth c Q cc nL G σ b A y pc a a2 nxt d lv stk hp st u w k H locs ls vs ⟨hx, hb, hml, hown, hts, hnm, hA, hN⟩ ⟨h1, h2, h3⟩ hk h r kk
  exact zo_put hC hx hb hts hown (fun q => absurd q Bool.false_ne_true) h1 h2 h3 ((zh_put_a a (a % 65536) a2 nxt d lv stk hp st u w k).symm.trans h) r kk
theorem zk_13 (hC : zk_C) : zk_HO zh_put zp_putF := by
  intro p l e R s m args below meth c Q cc nL G σ b A y pc a a2 nxt d lv stk hp st u w k H locs ls vs ⟨hx, hb, hml, hown, hts, hnm, hA, hN⟩ ⟨h1, h0, h2, h3⟩ hk h r kk
  exact zo_put hC hx hb hts hown (fun _ => hnm h0) h1 h2 h3 ((zh_put_a a (a % 65536) a2 nxt d lv stk hp st u w k).symm.trans h) r kk
theorem zk_14 : zk_HO zh_push zp_iconst := by
  intro p l e R s m args below meth c Q cc nL G σ b A y pc a a2 nxt d lv stk hp st u w k H locs ls vs ⟨hx, hb, hml, hown, hts, hnm, hA, hN⟩ ⟨h0, h1, h2, h3⟩ hk h r kk
  exact zo_push h r kk (fun as => (zr_0 h0).mpr rfl) (fun kw => lv_iconst hx hb h2 (zx_sI_ok _ h1) (h3 ▸ kw))
theorem zk_15 : zk_HO zh_push zp_bipush := by
  intro p l e R s m args below meth c Q cc nL G σ b A y pc a a2 nxt d lv stk hp st u w k H locs ls vs ⟨hx, hb, hml, hown, hts, hnm, hA, hN⟩ ⟨h0, h1, h2, h3⟩ hk h r kk
  exact zo_push h r kk (fun as => (zr_0 h0).mpr rfl) (fun kw => lv_bipush hx hb h2 h1 (h3 ▸ kw))
theorem zk_16 : zk_HO zh_push zp_sipush := by
  intro p l e R s m args below meth c Q cc nL G σ b A y pc a a2 nxt d lv stk hp st u w k H locs ls vs ⟨hx, hb, hml, hown, hts, hnm, hA, hN⟩ ⟨h0, h1, h2, h3⟩ hk h r kk
  exact zo_push h r kk (fun as => (zr_0 h0).mpr rfl) (fun kw => lv_sipush hx hb h2 h1 (h3 ▸ kw))
theorem zk_17 : zk_HO zh_push zp_lconst := by
  intro p l e R s m args below meth c Q cc nL G σ b A y pc a a2 nxt d lv stk hp st u w k H locs ls vs ⟨hx, hb, hml, hown, hts, hnm, hA, hN⟩ ⟨h0, h1, h2, h3⟩ hk h r kk
  exact zo_push h r kk (fun as => (zr_1 h0).mpr rfl) (fun kw => lv_lconst hx hb h2 (by show Int64.ofNat ((a / 8) % 2) = Int64.ofNat (a / 8); rw [Nat.mod_eq_of_lt h1]) (h3 ▸ kw))
theorem zk_18 : zk_HO zh_push zp_ldc := by
  intro p l e R s m args below meth c Q cc nL G σ b A y pc a a2 nxt d lv stk hp st u w k H locs ls vs ⟨hx, hb, hml, hown, hts, hnm, hA, hN⟩ ⟨h0, h1, h2, h3⟩ hk h r kk
  exact zo_push h r kk (fun as => (zr_0 h0).mpr rfl) (fun kw => lv_ldc hx hb hown (hts _ h1) h2 (h3 ▸ kw))
theorem zk_19 : zk_HO zh_push zp_ldc2 := by
  intro p l e R s m args below meth c Q cc nL G σ b A y pc a a2 nxt d lv stk hp st u w k H locs ls vs ⟨hx, hb, hml, hown, hts, hnm, hA, hN⟩ ⟨h0, h1, h2, h3⟩ hk h r kk
  exact zo_push h r kk (fun as => (zr_1 h0).mpr rfl) (fun kw => lv_ldc2 hx hb hown (hts _ h1) h2 (h3 ▸ kw))
theorem zk_20 : zk_HO zh_iinc zp_iinc := by
  intro p l e R s m args below meth c Q cc nL G σ b A y pc a a2 nxt d lv stk hp st u w k H locs ls vs ⟨hx, hb, hml, hown, hts, hnm, hA, hN⟩ ⟨n, h0, h1, h2, h3, h4⟩ hk h r kk
  subst h0
  exact zo_iinc (zx_sI_ok n h1) hx hb h2 h4 h3 h r kk
theorem zk_iadd : zk_HO zh_iadd (zp_op .iadd) := by
  intro p l e R s m args below meth c Q cc nL G σ b A y pc a a2 nxt d lv stk hp st u w k H locs ls vs ⟨hx, hb, hml, hown, hts, hnm, hA, hN⟩ ⟨h1, h2⟩ hk h r kk
  exact zo_iadd hx hb h1 h2 h r kk
theorem zk_isub : zk_HO zh_isub (zp_op .isub) := by
  intro p l e R s m args below meth c Q cc nL G σ b A y pc a a2 nxt d lv stk hp st u w k H locs ls vs ⟨hx, hb, hml, hown, hts, hnm, hA, hN⟩ ⟨h1, h2⟩ hk h r kk
  exact zo_isub hx hb h1 h2 h r kk
theorem zk_imul : zk_HO zh_imul (zp_op .imul) := by
  intro p l e R s m args below meth c Q cc nL G σ b A y pc a a2 nxt d lv stk hp st u w k H locs ls vs ⟨hx, hb, hml, hown, hts, hnm, hA, hN⟩ ⟨h1, h2⟩ hk h r kk
  exact zo_imul hx hb h1 h2 h r kk
theorem zk_iand : zk_HO zh_iand (zp_op .iand) := by
  intro p l e R s m args below meth c Q cc nL G σ b A y pc a a2 nxt d lv stk hp st u w k H locs ls vs ⟨hx, hb, hml, hown, hts, hnm, hA, hN⟩ ⟨h1, h2⟩ hk h r kk
  exact zo_iand hx hb h1 h2 h r kk
theorem zk_i2b : zk_HO zh_i2b (zp_op .i2b) := by
  intro p l e R s m args below meth c Q cc nL G σ b A y pc a a2 nxt d lv stk hp st u w k H locs ls vs ⟨hx, hb, hml, hown, hts, hnm, hA, hN⟩ ⟨h1, h2⟩ hk h r kk
  exact zo_i2b hx hb h1 h2 h r kk
theorem zk_i2l : zk_HO zh_i2l (zp_op .i2l) := by
  intro p l e R s m args below meth c Q cc nL G σ b A y pc a a2 nxt d lv stk hp st u w k H locs ls vs ⟨hx, hb, hml, hown, hts, hnm, hA, hN⟩ ⟨h1, h2⟩ hk h r kk
  exact zo_i2l hx hb h1 h2 h r kk
theorem zk_l2i : zk_HO zh_l2i (zp_op .l2i) := by
  intro p l e R s m args below meth c Q cc nL G σ b A y pc a a2 nxt d lv stk hp st u w k H locs ls vs ⟨hx, hb, hml, hown, hts, hnm, hA, hN⟩ ⟨h1, h2⟩ hk h r kk
  exact zo_l2i hx hb h1 h2 h r kk
theorem zk_lshl : zk_HO zh_lshl (zp_op .lshl) := by
  intro p l e R s m args below meth c Q cc nL G σ b A y pc a a2 nxt d lv stk hp st u w k H locs ls vs ⟨hx, hb, hml, hown, hts, hnm, hA, hN⟩ ⟨h1, h2⟩ hk h r kk
  exact zo_lshl hx hb h1 h2 h r kk
theorem zk_lushr : zk_HO zh_lushr (zp_op .lushr) := by
  intro p l e R s m args below meth c Q cc nL G σ b A y pc a a2 nxt d lv stk hp st u w k H locs ls vs ⟨hx, hb, hml, hown, hts, hnm, hA, hN⟩ ⟨h1, h2⟩ hk h r kk
  exact zo_lushr hx hb h1 h2 h r kk
theorem zk_land : zk_HO zh_land (zp_op .land) := by
  intro p l e R s m args below meth c Q cc nL G σ b A y pc a a2 nxt d lv stk hp st u w k H locs ls vs ⟨hx, hb, hml, hown, hts, hnm, hA, hN⟩ ⟨h1, h2⟩ hk h r kk
  exact zo_land hx hb h1 h2 h r kk
theorem zk_lor : zk_HO zh_lor (zp_op .lor) := by
  intro p l e R s m args below meth c Q cc nL G σ b A y pc a a2 nxt d lv stk hp st u w k H locs ls vs ⟨hx, hb, hml, hown, hts, hnm, hA, hN⟩ ⟨h1, h2⟩ hk h r kk
  exact zo_lor hx hb h1 h2 h r kk
theorem zk_lcmp : zk_HO zh_lcmp (zp_op .lcmp) := by
  intro p l e R s m args below meth c Q cc nL G σ b A y pc a a2 nxt d lv stk hp st u w k H locs ls vs ⟨hx, hb, hml, hown, hts, hnm, hA, hN⟩ ⟨h1, h2⟩ hk h r kk
  exact zo_lcmp hx hb h1 h2 h r kk
theorem zk_dup : zk_HO zh_dup (zp_op .dup) := by
  intro p l e R s m args below meth c Q cc nL G σ b A y pc a a2 nxt d lv stk hp st u w k H locs ls vs ⟨hx, hb, hml, hown, hts, hnm, hA, hN⟩ ⟨h1, h2⟩ hk h r kk
  exact zo_dup hx hb h1 h2 h r kk
theorem zk_pop : zk_HO zh_pop (zp_op .pop) := by
  intro p l e R s m args below meth c Q cc nL G σ b A y pc a a2 nxt d lv stk hp st u w k H locs ls vs ⟨hx, hb, hml, hown, hts, hnm, hA, hN⟩ ⟨h1, h2⟩ hk h r kk
  exact zo_pop hx hb h1 h2 h r kk
theorem zk_dupx1 : zk_HO zh_dupx1 (zp_op .dup_x1) := by
  intro p l e R s m args below meth c Q cc nL G σ b A y pc a a2 nxt d lv stk hp st u w k H locs ls vs ⟨hx, hb, hml, hown, hts, hnm, hA, hN⟩ ⟨h1, h2⟩ hk h r kk
  exact zo_dupx1 hx hb h1 h2 h r kk
theorem zk_alen : zk_HO zh_alen (zp_op .arraylength) := by
  intro p l e R s m args below meth c Q cc nL G σ b A y pc a a2 nxt d lv stk hp st u w k H locs ls vs ⟨hx, hb, hml, hown, hts, hnm, hA, hN⟩ ⟨h1, h2⟩ hk h r kk
  exact zo_alen hx hb h1 h2 h r kk
theorem zk_iald : zk_HO zh_ald (zp_arr 1 .iaload) := by
  intro p l e R s m args below meth c Q cc nL G σ b A y pc a a2 nxt d lv stk hp st u w k H locs ls vs ⟨hx, hb, hml, hown, hts, hnm, hA, hN⟩ ⟨h0, h1, h2⟩ hk h r kk
  exact zo_iald hx hb h0 h1 h2 h r kk
theorem zk_bald : zk_HO zh_ald (zp_arr 2 .baload) := by
  intro p l e R s m args below meth c Q cc nL G σ b A y pc a a2 nxt d lv stk hp st u w k H locs ls vs ⟨hx, hb, hml, hown, hts, hnm, hA, hN⟩ ⟨h0, h1, h2⟩ hk h r kk
  exact zo_bald hx hb h0 h1 h2 h r kk
theorem zk_zald : zk_HO zh_ald (zp_arr 3 .baload) := by
  intro p l e R s m args below meth c Q cc nL G σ b A y pc a a2 nxt d lv stk hp st u w k H locs ls vs ⟨hx, hb, hml, hown, hts, hnm, hA, hN⟩ ⟨h0, h1, h2⟩ hk h r kk
  exact zo_zald hx hb h0 h1 h2 h r kk
theorem zk_lald : zk_HO zh_ald (zp_arr 4 .laload) := by
  intro p l e R s m args below meth c Q cc nL G σ b A y pc a a2 nxt d lv stk hp st u w k H locs ls vs ⟨hx, hb, hml, hown, hts, hnm, hA, hN⟩ ⟨h0, h1, h2⟩ hk h r kk
  exact zo_lald hx hb h0 h1 h2 h r kk
theorem zk_iast : zk_HO zh_ast (zp_arr 1 .iastore) := by
  intro p l e R s m args below meth c Q cc nL G σ b A y pc a a2 nxt d lv stk hp st u w k H locs ls vs ⟨hx, hb, hml, hown, hts, hnm, hA, hN⟩ ⟨h0, h1, h2⟩ hk h r kk
  exact zo_iast hx hb h0 h1 h2 h r kk
theorem zk_bast : zk_HO zh_ast (zp_arr 2 .bastore) := by
  intro p l e R s m args below meth c Q cc nL G σ b A y pc a a2 nxt d lv stk hp st u w k H locs ls vs ⟨hx, hb, hml, hown, hts, hnm, hA, hN⟩ ⟨h0, h1, h2⟩ hk h r kk
  exact zo_bast hx hb h0 h1 h2 h r kk
theorem zk_zast : zk_HO zh_ast (zp_arr 3 .bastore) := by
  intro p l e R s m args below meth c Q cc nL G σ b A y pc a a2 nxt d lv stk hp st u w k H locs ls vs ⟨hx, hb, hml, hown, hts, hnm, hA, hN⟩ ⟨h0, h1, h2⟩ hk h r kk
  exact zo_zast hx hb h0 h1 h2 h r kk
theorem zk_last : zk_HO zh_ast (zp_arr 4 .lastore) := by
  intro p l e R s m args below meth c Q cc nL G σ b A y pc a a2 nxt d lv stk hp st u w k H locs ls vs ⟨hx, hb, hml, hown, hts, hnm, hA, hN⟩ ⟨h0, h1, h2⟩ hk h r kk
  exact zo_last hx hb h0 h1 h2 h r kk
theorem zk_aald : zk_HO zh_ald zp_aald := by
  intro p l e R s m args below meth c Q cc nL G σ b A y pc a a2 nxt d lv stk hp st u w k H locs ls vs ⟨hx, hb, hml, hown, hts, hnm, hA, hN⟩ ⟨h0, h1, h2⟩ hk h r kk
  exact zo_aald hx hb h0 h1 h2 h r kk
theorem zk_astq : zk_HO zh_astq zp_astq := by
  intro p l e R s m args below meth c Q cc nL G σ b A y pc a a2 nxt d lv stk hp st u w k H locs ls vs ⟨hx, hb, hml, hown, hts, hnm, hA, hN⟩ ⟨h0, h1, h2⟩ hk h r kk
  exact zo_astq hx hb h0 h1 h2 h r kk
theorem zk_icmp : zk_HO zh_icmp zp_icmp := by
  intro p l e R s m args below meth c Q cc nL G σ b A y pc a a2 nxt d lv stk hp st u w k H locs ls vs ⟨hx, hb, hml, hown, hts, hnm, hA, hN⟩ ⟨h0, h1, h2⟩ hk h r kk
  exact zo_icmp hx hb h1 h0 (by omega) h2 h r kk
theorem zk_if : zk_HO zh_if zp_if := by
  intro p l e R s m args below meth c Q cc nL G σ b A y pc a a2 nxt d lv stk hp st u w k H locs ls vs ⟨hx, hb, hml, hown, hts, hnm, hA, hN⟩ ⟨h0, h1, h2⟩ hk h r kk
  exact zo_if hx hb h1 h0 (by omega) h2 h r kk
theorem zk_goto : zk_HO zh_goto zp_goto := by
  intro p l e R s m args below meth c Q cc nL G σ b A y pc a a2 nxt d lv stk hp st u w k H locs ls vs ⟨hx, hb, hml, hown, hts, hnm, hA, hN⟩ h1 hk h r kk
  exact zo_goto hx hb h1 (by omega) h r kk
theorem zk_switch : zk_HO zh_switch zp_switch := by
  intro p l e R s m args below meth c Q cc nL G σ b A y pc a a2 nxt d lv stk hp st u w k H locs ls vs ⟨hx, hb, hml, hown, hts, hnm, hA, hN⟩ h1 hk h r kk
  exact zo_switch hx hb h1 h r kk
theorem zk_newo (hC : zk_C) : zk_HO zh_new zp_new := by
  intro p l e R s m args below meth c Q cc nL G σ b A y pc a a2 nxt d lv stk hp st u w k H locs ls vs ⟨hx, hb, hml, hown, hts, hnm, hA, hN⟩ ⟨h1, h2, h3⟩ hk h r kk
  exact zo_new hC hx hb hts hown hA h1 h2 h3 hk ((zh_new_a a (a % 65536) a2 nxt d lv stk hp st u w k).symm.trans h) r kk
theorem zk_newa : zk_HO zh_newa zp_newa := by
  intro p l e R s m args below meth c Q cc nL G σ b A y pc a a2 nxt d lv stk hp st u w k H locs ls vs ⟨hx, hb, hml, hown, hts, hnm, hA, hN⟩ ⟨h1, h2, h3, h4⟩ hk h r kk
  exact zo_newa hx hb hA h1 (hts _ h2) h3 h4 hk h r kk
theorem zk_newq : zk_HO zh_newa zp_newq := by
  intro p l e R s m args below meth c Q cc nL G σ b A y pc a a2 nxt d lv stk hp st u w k H locs ls vs ⟨hx, hb, hml, hown, hts, hnm, hA, hN⟩ ⟨h1, h2, h3, h4⟩ hk h r kk
  have h := (zh_newa_a a (a % 65536) a2 nxt d lv stk hp st u w k).symm.trans h
  rcases h1 with ⟨rfl, h1⟩ | ⟨rfl, h1⟩
  · exact zo_newq hx hb hts hown hA rfl (by decide) h2 h1 hN.2.2.2.1 h3 h4 hk h r kk
  · exact zo_newq hx hb hts hown hA rfl (by decide) h2 h1 hN.2.2.2.2 h3 h4 hk h r kk
noncomputable def zx_hands : List zxHD := [zh_aload, zh_iload, zh_get, zh_push, zh_iload, zh_iadd, zh_icmp, zh_if, zh_ald, zh_goto, zh_iinc, zh_push, zh_push, zh_istore, zh_istore, zh_put, zh_ast, zh_imul, zh_ald, zh_isub, zh_i2l, zh_lcmp, zh_lload, zh_lload, zh_push, zh_push, zh_dup, zh_pop, zh_dupx1, zh_aload, zh_astore, zh_astore, zh_ald, zh_ald, zh_ast, zh_ast, zh_ald, zh_ast, zh_astq, zh_i2b, zh_l2i, zh_lshl, zh_lushr, zh_land, zh_lor, zh_iand, zh_switch, zh_new, zh_newa, zh_newa, zh_alen, zh_push, zh_put]
def zk_props : List zkPT := [zp_aload_n, zp_iload_n, zp_get, zp_iconst, zp_iload, zp_op .iadd, zp_icmp, zp_if, zp_arr 1 .iaload, zp_goto, zp_iinc, zp_bipush, zp_sipush, zp_istore_n, zp_istore, zp_put, zp_arr 1 .iastore, zp_op .imul, zp_aald, zp_op .isub, zp_op .i2l, zp_op .lcmp, zp_lload_n, zp_lload, zp_ldc2, zp_lconst, zp_op .dup, zp_op .pop, zp_op .dup_x1, zp_aload, zp_astore_n, zp_astore, zp_arr 2 .baload, zp_arr 3 .baload, zp_arr 2 .bastore, zp_arr 3 .bastore, zp_arr 4 .laload, zp_arr 4 .lastore, zp_astq, zp_op .i2b, zp_op .l2i, zp_op .lshl, zp_op .lushr, zp_op .land, zp_op .lor, zp_op .iand, zp_switch, zp_new, zp_newa, zp_newq, zp_op .arraylength, zp_ldc, zp_putF]
theorem zk_hands (hC : zk_C) : zr_2 zk_HO zx_hands zk_props := ⟨zk_1, zk_2, (zk_11 hC), zk_14, zk_5, zk_iadd, zk_icmp, zk_if, zk_iald, zk_goto, zk_20, zk_15, zk_16, zk_7, zk_8, (zk_12 hC), zk_iast, zk_imul, zk_aald, zk_isub, zk_i2l, zk_lcmp, zk_3, zk_6, zk_19, zk_17, zk_dup, zk_pop, zk_dupx1, zk_4, zk_9, zk_10, zk_bald, zk_zald, zk_bast, zk_zast, zk_lald, zk_last, zk_astq, zk_i2b, zk_l2i, zk_lshl, zk_lushr, zk_land, zk_lor, zk_iand, zk_switch, (zk_newo hC), zk_newa, zk_newq, zk_alen, zk_18, (zk_13 hC), trivial⟩
end
section
abbrev zxRow : Type := Nat × Nat × Nat × Nat × List Nat
abbrev zxTB : Type := List (List zxRow)
abbrev zxMS : Type := List (zxTB × Nat × Nat × Nat)
abbrev zxKL : Type := Nat → zxHP → zxST → Bool
abbrev zxRT : Type := Nat → zxTB → Nat → Nat → Nat → Nat → Nat → Nat → zxKL → zxKT → zxKT
noncomputable def zx_row (tb : zxTB) (pc : Nat) : zxRow := zx_N (999, 0, 0, 0, []) (zx_N [] tb (pc / 16)) (pc % 16)
noncomputable def zx_take (n : Nat) : List Nat → List Nat → (List Nat → List Nat → Bool) → Bool := Nat.rec (motive := fun _ => List Nat → List Nat → (List Nat → List Nat → Bool) → Bool) (fun stk acc k => k acc stk) (fun _ ih stk acc k => match stk with | c :: r => ih r (c :: acc) k | [] => false) n
noncomputable def zx_args (l : List Nat) : Nat → (zxLV → Bool) → Bool := List.rec (motive := fun _ => Nat → (zxLV → Bool) → Bool) (fun _ k => k []) (fun c _ ih i k => zx_F (cond (zx_2 c) (i + 2) (i + 1)) (fun j => ih j (fun r => k ((i, c) :: r)))) l
noncomputable def zx_cat (l : List Nat) : Nat := List.rec (motive := fun _ => Nat) 0 (fun c _ ih => cond (zx_2 c) (ih + 2) (ih + 1)) l
def zh_fail : zxHD := fun _ _ _ _ _ _ _ _ _ _ _ => false
/-- a call of the method b: its frame by ih, then on with kc -/
noncomputable def zx_call (ms : zxMS) (ih : zxRT) (fr lo cu cw b : Nat) (args rest : List Nat) (hp : zxHP) (st : zxST) (u w : Nat) (kc : List Nat → zxHP → zxST → Nat → Nat → Bool) : Bool :=
  match zx_N ([], 0, 0, 0) ms b with
  | (tb2, mL, bu, bw) => cond (Nat.blt b (zx_Z ms) && (Nat.ble 1 fr && (Nat.ble (19 + mL) lo && (Nat.ble (zx_cat args) mL && Nat.ble (zx_cat rest) 8))))
      (zx_F (fr - 1) (fun fr2 => zx_F (lo - (19 + mL)) (fun lo2 => zx_args args 0 (fun lv2 => zx_F (u + bu) (fun u2 => zx_F (w + bw) (fun w2 => cond (Nat.ble u2 cu && Nat.ble w2 cw)
        (ih b tb2 fr2 lo2 bu bw 0 99999 (fun c hp2 st2 => cond (Nat.beq c 75) (kc rest hp2 st2 u2 w2) (kc (c :: rest) hp2 st2 u2 w2)) (fun _ _ _ _ _ _ _ => false) 0 lv2 [] hp st 0 0) false)))))) false
def zx_hn (h : zxHP) : Nat := match h with | (n, _) => n
/-- no name in a heap -/
def zx_cl (c : Nat) : Bool := Nat.blt (c % 8) 4 || Nat.beq c 6
def zx_clean (h : zxHP) : Bool := match h with | (_, cs) => cs.all (fun ch => ch.all (fun E => match E with | (_, _, fs, es) => fs.all zx_cl && es.all (fun q => match q with | (_, v) => zx_cl v)))
def zx_de1 : DecidableEq (List Nat × List (Nat × Nat)) := fun a b => @instDecidableEqProd _ _ inferInstance inferInstance a b
def zx_de2 : DecidableEq (Nat × List Nat × List (Nat × Nat)) := fun a b => @instDecidableEqProd _ _ inferInstance zx_de1 a b
def zx_de3 : DecidableEq zxCE := fun a b => @instDecidableEqProd _ _ inferInstance zx_de2 a b
def zx_de4 : DecidableEq (List (List zxCE)) := fun a b => @instDecidableEqList _ (@instDecidableEqList _ zx_de3) a b
def zx_de5 : DecidableEq zxHP := fun a b => @instDecidableEqProd _ _ inferInstance zx_de4 a b
def zx_bk (c x1 nxt u w : Nat) (hp2 : zxHP) : zxKT := fun pc2 lv2 stk2 hp3 _ u2 w2 => and (Nat.beq pc2 nxt) (and (decide (lv2 = ([(2, 788), (0, c), (1, x1)] : List (Nat × Nat)))) (and (decide (stk2 = ([] : List Nat))) (and (@decide (hp3 = hp2) (zx_de5 hp3 hp2)) (and (Nat.beq u2 u) (Nat.beq w2 w)))))
theorem zx_bk_ok {c x1 nxt u w pc2 u2 w2 : Nat} {hp2 hp3 : zxHP} {lv2 : zxLV} {stk2 : List Nat} {st : zxST} (h : zx_bk c x1 nxt u w hp2 pc2 lv2 stk2 hp3 st u2 w2 = true) : pc2 = nxt ∧ lv2 = [(2, 788), (0, c), (1, x1)] ∧ stk2 = [] ∧ hp3 = hp2 ∧ u2 = u ∧ w2 = w := by
  obtain ⟨h1, h⟩ := Bool.and_eq_true_iff.mp (show and _ _ = true from h)
  obtain ⟨h2, h⟩ := Bool.and_eq_true_iff.mp h
  obtain ⟨h3, h⟩ := Bool.and_eq_true_iff.mp h
  obtain ⟨h4, h⟩ := Bool.and_eq_true_iff.mp h
  obtain ⟨h5, h6⟩ := Bool.and_eq_true_iff.mp h
  exact ⟨Nat.eq_of_beq_eq_true h1, of_decide_eq_true h2, of_decide_eq_true h3, @of_decide_eq_true _ (zx_de5 hp3 hp2) h4, Nat.eq_of_beq_eq_true h5, Nat.eq_of_beq_eq_true h6⟩
/-- calls, ends, the script, a loop that changes one number alone (80) -/
noncomputable def zx_spec (ms : zxMS) (ih : zxRT) (y : Nat) (tb : zxTB) (fr lo cu cw sc sp : Nat) (kl : zxKL) (ks : zxKT) (op a b nxt : Nat) (d : List Nat) (lv : zxLV) (stk : List Nat) (hp : zxHP) (st : zxST) (u w : Nat) : Bool :=
  cond (Nat.beq op 70) (match d with | [n, t] => zx_take n stk [] (fun args rest => match args with | c :: _ => cond (Nat.beq (c % 8) 3) (match zx_G hp (c / 8) with | (t2, _, _, _) => cond (Nat.beq t2 t) (zx_call ms ih fr lo cu cw b args rest hp st u w (fun stk2 hp2 st2 u2 w2 => ih y tb fr lo cu cw sc sp kl ks nxt lv stk2 hp2 st2 u2 w2)) false) false | [] => false) | _ => false)
  (cond (Nat.beq op 73) (match d with | [n] => zx_take n stk [] (fun args rest => zx_call ms ih fr lo cu cw b args rest hp st u w (fun stk2 hp2 st2 u2 w2 => ih y tb fr lo cu cw sc sp kl ks nxt lv stk2 hp2 st2 u2 w2)) | _ => false)
  (cond (Nat.beq op 64) (match stk with | [c] => cond (zx_i c) (zx_M c st (fun c => kl c hp st)) false | _ => false)
  (cond (Nat.beq op 65) (match stk with | [c] => cond (zx_i c) (zx_M c st (fun c => cond (Nat.beq c 0 || Nat.beq c 8) (kl c hp st) false)) false | _ => false)
  (cond (Nat.beq op 67) (match stk with | [] => kl 75 hp st | _ => false)
  (cond (Nat.beq op 66) (match stk with | [c] => cond (zx_2 c) (kl c hp st) false | _ => false)
  (cond (Nat.beq op 71 || Nat.beq op 72) (match d with | [n] => zx_take n stk [] (fun args rest => match args with | c :: _ => cond (Nat.beq (c % 8) 3) (zx_call ms ih fr lo cu cw b args rest hp st u w (fun stk2 hp2 st2 u2 w2 => ih y tb fr lo cu cw sc sp kl ks nxt lv stk2 hp2 st2 u2 w2)) false | [] => false) | _ => false)
  (cond (Nat.beq op 74) (match d with | [n, t, t'] => zx_take n stk [] (fun args rest => match args with | c :: _ => cond (Nat.beq (c % 8) 3) (match zx_G hp (c / 8) with | (t2, _, _, _) => cond (Nat.beq t2 t || Nat.beq t2 t') (zx_call ms ih fr lo cu cw b args rest hp st u w (fun stk2 hp2 st2 u2 w2 => ih y tb fr lo cu cw sc sp kl ks nxt lv stk2 hp2 st2 u2 w2)) false) false | [] => false) | _ => false)
  (cond (Nat.beq op 75) (match stk with | c :: r => cond (Nat.beq (c % 8) 3 && (Nat.ble 1 fr && (Nat.ble 60 lo && Nat.ble (zx_cat r) 8))) (ih y tb fr lo cu cw sc sp kl ks nxt lv r hp st u w) false | [] => false)
  (cond (Nat.beq op 76) (cond (Nat.ble 1 fr && Nat.ble 60 lo) (zh_copy a b nxt d lv stk hp st u w (fun pc lv stk hp st u w => cond (Nat.ble u cu && Nat.ble w cw) (ih y tb fr lo cu cw sc sp kl ks pc lv stk hp st u w) false)) false)
  (cond (Nat.beq op 77) (match stk with | c :: r => cond (Nat.beq (c % 8) 7 && (Nat.ble 1000 (c / 8) && (Nat.blt (c / 8) 1064 && (Nat.ble 2 fr && (Nat.ble 60 lo && Nat.ble (zx_cat r) 8))))) (zx_F (c / 8 - 900) (fun id => zx_V st id (fun lw hg => cond (Nat.ble 2147483648 lw && Nat.ble hg 2147483649) (zx_F (8 * id + 4) (fun v => ih y tb fr lo cu cw sc sp kl ks nxt lv (v :: r) hp st u w)) (zx_F (8 * id + 4) (fun v => ih y tb fr lo cu cw sc sp kl ks nxt lv (v :: r) hp ((id, 2147483648, 2147483649) :: st) u w))))) false | [] => false)
  (cond (Nat.beq op 78) (match stk with | i :: c :: r => cond (Nat.beq c 10 && (Nat.beq (i % 8) 0 && Nat.blt (Nat.succ (i / 8)) sc)) (zx_F (i + 4) (fun v => ih y tb fr lo cu cw sc sp kl ks nxt lv (v :: r) hp st u w)) false | _ => false)
  (cond (Nat.beq op 79) (match stk with | c :: r => cond (Nat.beq c 10 && Nat.blt 0 sc) (zx_F (8 * (sc - 1)) (fun v => ih y tb fr lo cu cw sc sp kl ks nxt lv (v :: r) hp st u w)) false | _ => false)
  (cond (Nat.beq op 80) (match d with | [kc, slot] => (match stk with | [] => zx_F (zx_A lv 74 1) (fun x1 => zx_F (zx_A lv 74 0) (fun c => cond (Nat.beq (x1 % 8) 4 && (Nat.blt (x1 / 8) 98 && (Nat.beq (c % 8) 3 && (Nat.beq (zx_A lv 74 2) 0 && st.all (fun q => Nat.blt q.1 98))))) (match zx_G hp kc with | (t, n, fs, es) => cond (Nat.blt kc (zx_hn hp) && (Nat.ble 16 t && (zx_i (zx_N 74 fs slot) && Nat.blt slot (zx_Z fs)))) (zx_S fs slot 6 (fun fs2 => zx_H hp kc (t, n, fs2, es) (fun hp2 => and (zx_clean hp2) (and (ih y tb fr lo cu cw sc nxt (fun _ _ _ => false) (zx_bk c x1 nxt u w hp2) b [(2, 788), (0, c), (1, x1)] [] hp2 st u w) (ih y tb fr lo cu cw sc sp kl ks a [(2, 6), (0, c), (1, x1)] [] hp2 st u w))))) false) false)) | _ => false) | _ => false)
  false)))))))))))))
noncomputable def zx_body (ms : zxMS) (pr : List zxHD) (ih : zxRT) : zxRT := fun y tb fr lo cu cw sc sp kl ks pc lv stk hp st u w =>
  cond (Nat.beq pc sp) (ks pc lv stk hp st u w)
  (match zx_row tb pc with
   | (op, a, b, nxt, d) => cond (Nat.blt op 55) (zx_N zh_fail zx_hands op a b nxt d lv stk hp st u w (fun pc lv stk hp st u w => cond (Nat.ble u cu && Nat.ble w cw) (ih y tb fr lo cu cw sc sp kl ks pc lv stk hp st u w) false))
      (cond (Nat.blt op 64) (cond (Nat.ble 1 fr && Nat.ble 60 lo) (zx_N zh_fail pr (op - 55) a b nxt d lv stk hp st u w (fun pc lv stk hp st u w => cond (Nat.ble u cu && Nat.ble w cw) (ih y tb fr lo cu cw sc sp kl ks pc lv stk hp st u w) false)) false)
        (zx_spec ms ih y tb fr lo cu cw sc sp kl ks op a b nxt d lv stk hp st u w)))
noncomputable def zx_run (ms : zxMS) (pr : List zxHD) (fuel : Nat) : zxRT := Nat.rec (motive := fun _ => zxRT) (fun _ _ _ _ _ _ _ _ _ _ _ _ _ _ _ _ _ => false) (fun _ ih => zx_body ms pr ih) fuel
theorem zx_take_ok {k : List Nat → List Nat → Bool} : ∀ {n : Nat} {stk acc : List Nat}, zx_take n stk acc k = true → ∃ pre rest, stk = pre ++ rest ∧ pre.length = n ∧ k (pre.reverse ++ acc) rest = true
  | 0, stk, acc, h => ⟨[], stk, rfl, rfl, h⟩
  | n + 1, [], acc, h => absurd h Bool.false_ne_true
  | n + 1, c :: r, acc, h => by
    obtain ⟨pre, rest, h1, h2, h3⟩ := zx_take_ok (n := n) (stk := r) (acc := c :: acc) h
    refine ⟨c :: pre, rest, by rw [h1]; rfl, by rw [List.length_cons, h2], ?_⟩
    rw [List.reverse_cons, List.append_assoc]
    exact h3
def zx_argl : Nat → List Nat → zxLV
  | _, [] => []
  | i, c :: l => (i, c) :: zx_argl (cond (zx_2 c) (i + 2) (i + 1)) l
theorem zx_args_eq : ∀ (l : List Nat) (i : Nat) (k : zxLV → Bool), zx_args l i k = k (zx_argl i l)
  | [], i, k => rfl
  | c :: l, i, k => by
    show zx_F (cond (zx_2 c) (i + 2) (i + 1)) (fun j => zx_args l j (fun r => k ((i, c) :: r))) = _
    rw [zx_F_eq, zx_args_eq l]
    rfl
theorem zx_argl_ok {σ : Nat → Int32} {b : zxBB} {as : List Nat} : ∀ {l : List Nat} {vs : List Value} (i : Nat), zr_2 (zr σ b as) l vs → zr_LV σ b as (zx_argl i l) (lv_args i vs)
  | [], [], i, _ => trivial
  | c :: l, v :: vs, i, h => by
    refine ⟨⟨rfl, h.1⟩, ?_⟩
    have e : (cond (zx_2 c) (i + 2) (i + 1)) = if v.category = 2 then i + 2 else i + 1 := by
      have h1 := zr_cat h.1
      cases h2 : zx_2 c with
      | true => rw [h2] at h1; rw [if_pos (beq_iff_eq.mp h1)]; rfl
      | false => rw [h2] at h1; rw [if_neg (fun q => by rw [q] at h1; exact absurd h1 (by decide))]; rfl
    rw [← e]
    exact zx_argl_ok _ h.2
  | [], _ :: _, _, h => h.elim
  | _ :: _, [], _, h => h.elim
theorem zx_cat_sum {σ : Nat → Int32} {b : zxBB} {as : List Nat} : ∀ {l : List Nat} {vs : List Value}, zr_2 (zr σ b as) l vs → (vs.map fun v => v.category).sum = zx_cat l
  | [], [], _ => rfl
  | c :: l, v :: vs, h => by
    show _ = cond (zx_2 c) (zx_cat l + 2) (zx_cat l + 1)
    rw [List.map_cons, List.sum_cons, zx_cat_sum h.2]
    have h1 := zr_cat h.1
    cases h2 : zx_2 c with
    | true => rw [h2] at h1; rw [beq_iff_eq.mp h1]; exact Nat.add_comm _ _
    | false =>
      rw [zr_cat1 h2 h.1]; exact Nat.add_comm _ _
  | [], _ :: _, h => h.elim
  | _ :: _, [], h => h.elim
theorem zx_cat_sl {σ : Nat → Int32} {b : zxBB} {as : List Nat} : ∀ {l : List Nat} {vs : List Value}, zr_2 (zr σ b as) l vs → (lg_sl vs).length = zx_cat l
  | [], [], _ => rfl
  | c :: l, v :: vs, h => by
    show _ = cond (zx_2 c) (zx_cat l + 2) (zx_cat l + 1)
    have ih := zx_cat_sl h.2
    unfold lg_sl at ih ⊢
    rw [List.flatMap_cons, List.length_append, ih]
    have h1 := zr_cat h.1
    cases h2 : zx_2 c with
    | true => rw [h2] at h1; rw [if_pos (beq_iff_eq.mp h1)]; exact Nat.add_comm _ _
    | false => rw [if_neg (by rw [zr_cat1 h2 h.1]; decide)]; exact Nat.add_comm _ _
  | [], _ :: _, h => h.elim
  | _ :: _, [], h => h.elim
theorem zr_bb {σ : Nat → Int32} {b1 b2 : zxBB} (h : b1.1 = b2.1) : zr σ b1 = zr σ b2 := by
  funext as n v
  unfold zr
  rw [h]
theorem zr_W_bb {σ : Nat → Int32} {b1 b2 : zxBB} {as : List Nat} {tys : List (ClassId × FieldType)} {hp : zxHP} {ws : va_W} (h : b1.1 = b2.1) (hp2 : b2.2 <+: as) (hW : zr_W σ b1 as tys hp ws) : zr_W σ b2 as tys hp ws := by
  refine ⟨hW.1, hW.2.1, fun k hk => ?_, hp2⟩
  obtain ⟨q, e, h1, h2, h3⟩ := hW.2.2.1 k hk
  refine ⟨q, e, h1, h2, ?_⟩
  unfold zr_E at h3 ⊢
  rw [zr_bb h] at h3
  exact h3
/-- the cells that a call may change -/
def zk_fr (as : List Nat) (sz : Nat) : Nat → Prop := fun q => q ∈ as ∨ sz ≤ q
def zk_Pre (G : va_G) (σ : Nat → Int32) (b : Nat) (as : List Nat) (hp : zxHP) (sz : Nat) : State → Prop := fun U => U.heap.size = sz ∧ zr_HP G σ (b, as) U (fun _ => True) as hp U.heap ∧ zk_N U
def zk_res (σ : Nat → Int32) (b : zxBB) (as : List Nat) (c : Nat) (v : Option Value) : Prop := (c = 75 ∧ v = none) ∨ (c ≠ 75 ∧ ∃ x, v = some x ∧ zr σ b as c x)
def zk_Post (G : va_G) (σ : Nat → Int32) (b : Nat) (as : List Nat) (sz : Nat) (kl : zxKL) : Array Value → State → Outcome → State → Prop := fun _ st0 oc t =>
  (∃ (c : Nat) (v : Option Value) (hp2 : zxHP) (st2 : zxST) (as2 : List Nat), kl c hp2 st2 = true ∧ oc = .returned v ∧ zk_res σ (b, as) as2 c v ∧ zr_in σ st2 ∧ zr_HP G σ (b, as) t (zk_fr as sz) as2 hp2 t.heap) ∧ va_F (zk_fr as sz) st0 t
theorem zr_HP_moved {G : va_G} {σ : Nat → Int32} {b : zxBB} {u U : State} {A : Nat → Prop} {as : List Nat} {hp : zxHP} {H : Heap} (hvm : u.vm.Alike U.vm) (h : zr_HP G σ b u A as hp H) : zr_HP G σ b U A as hp H := by
  obtain ⟨tys, ws, hK, h⟩ := h
  exact ⟨tys, ws, va_K.moved hvm hK, h⟩
theorem zk_N_warm {s U : State} (hW : s.WarmedH U.vm) (h : zk_N s) : zk_N U :=
  ⟨va_Nw.warmM hW h.1, va_Nw.warmM hW h.2.1, va_Nw.warmM hW h.2.2.1, va_AO.moved hW.alike h.2.2.2.1, va_AO.moved hW.alike h.2.2.2.2⟩
theorem zk_N_same {u U : State} (hv : u.vm = U.vm) (h : zk_N u) : zk_N U :=
  ⟨va_Nw.same rfl hv h.1, va_Nw.same rfl hv h.2.1, va_Nw.same rfl hv h.2.2.1, va_AO.moved (by rw [hv]; exact Vm.Alike.refl _) h.2.2.2.1, va_AO.moved (by rw [hv]; exact Vm.Alike.refl _) h.2.2.2.2⟩
theorem zk_blind (G : va_G) (σ : Nat → Int32) (b : Nat) (as : List Nat) (hp : zxHP) (sz : Nat) (av : List Value) : FrameBlind (va_Pc av (zk_Pre G σ b as hp sz)) := by
  intro a U g mk ⟨h0, h1, h2, h3⟩
  exact ⟨h0, h1, zr_HP_moved (Vm.Alike.refl U.vm) h2, zk_N_same (u := U) rfl h3⟩
section ZC
variable {p : Program} {l : Launch} {e : Env} {R : Room} {s : State} {m : MethodId} {args : Array Value} {below : List Frame} {meth : Method} {c : Code} {Q : State → Prop} {G : va_G} {σ : Nat → Int32} {b : zxBB} {A : Nat → Prop} {hp : zxHP} {st : zxST} {u w : Nat} {H : Heap} {locs : List Loc} {ls : Array Slot}
/-- behind a call -/
theorem zx_after {as : List Nat} {kl : zxKL} {bu bw pc : Nat} {vs0 restv : List Value} {ar : Array Value} (hr : va_Run p l e R s m args below meth c H locs u w bu bw (F0 m pc ls vs0) restv (zk_Post G σ b.1 as H.size kl ar) (zk_fr as H.size)) (hS : va_S A s.heap H locs) (hf : ∀ q, zk_fr as H.size q → A q)
    (kk : ∀ (r : Nat) (v : Option Value) (hp2 : zxHP) (st2 : zxST) (as2 : List Nat) (H1 : Heap) (locs1 : List Loc), kl r hp2 st2 = true → zk_res σ (b.1, as) as2 r v → zr_in σ st2 → zr_HP G σ (b.1, as) s A as2 hp2 H1 → va_S A s.heap H1 locs1 → W p l e R s m args below meth c H1 locs1 (u + bu) (w + bw) Q (F0 m (pc + 3) ls (v.toList ++ restv))) : W p l e R s m args below meth c H locs u w Q (F0 m pc ls vs0) := by
  intro T hT X
  obtain ⟨v, st₀, t, T', L, h0, X', hL, e1, e2, ⟨⟨r, v', hp2, st2, as2, k1, k2, k3, k4, k5⟩, hz, hk⟩, stp⟩ := hr T hT X
  cases k2
  rw [h0] at hz hk
  have hvm : s.vm.Alike t.vm := by rw [← e2]; exact X'.warmed.alike
  obtain ⟨tys, ws, hK, hW, hP, hD⟩ := k5
  obtain ⟨t2, a1, b1⟩ := kk r v hp2 st2 as2 T'.heap (locs ++ L) k1 k3 k4 ⟨tys, ws, va_K.moved hvm.symm hK, hW, by rw [e1]; exact hP, hD.weaken (fun _ q _ h => hf q.1 h)⟩
    ⟨Nat.le_trans hS.1 (by rw [e1]; exact hz), fun q h1 h2 => by rw [e1, hk q (Nat.lt_of_lt_of_le h1 hS.1) (fun z => h2 (hf q z))]; exact hS.2.1 q h1 h2, fun q hq => by
      rcases List.mem_append.mp hq with h | h
      · exact hS.2.2 q h
      · exact hf _ (hL q h)⟩ T' rfl X'
  exact ⟨t2, stp t2 a1, b1⟩
end ZC
end
section
abbrev zkMS : Type := List (MethodName × ByteArray × Nat × Option FieldType)
def zk_meth (y : MethodName) (cc : ByteArray) (mL : Nat) (ret : Option FieldType) : Prop := Cond.code y cc mL ret ∈ zk_T ∧ plainName y.cls = true ∧ Cond.initialized y.cls ∈ zk_T ∧ y.cls ≠ "java/lang/invoke/MethodHandle" ∧ y.cls ≠ "java/lang/invoke/VarHandle"
/-- a name's check: what the two methods of that name answer -/
def zk_nm (y : MethodName) (cc : ByteArray) (mL : Nat) : Prop := ∀ (l : Launch) (x : Int64), Met l y (Cond.code y cc mL (some .boolean) :: zk_T) { frames := 1, cells := 0, slots := 0, locals := 30 } (va_Pc [.long x] (fun _ => True)) (fun _ st0 oc t => oc = .returned (some (.int (if zr_nm x = true then 1 else 0))) ∧ t.heap = st0.heap) 0 0 (fun _ => False)
/-- what a row must be -/
def zk_ro (ms2 : zkMS) (Ps : List zkPT) (y : MethodName) (cc : ByteArray) (mL : Nat) (ret : Option FieldType) (pc : Nat) (r : zxRow) : Prop :=
  (r.1 < 55 → zx_N (fun _ _ _ _ _ _ _ _ => False) zk_props r.1 y cc mL pc r.2.1 r.2.2.1 r.2.2.2.1 r.2.2.2.2) ∧
  (55 ≤ r.1 → r.1 < 64 → zx_N (fun _ _ _ _ _ _ _ _ => False) Ps (r.1 - 55) y cc mL pc r.2.1 r.2.2.1 r.2.2.2.1 r.2.2.2.2) ∧
  (r.1 = 64 → decode cc pc = .ok (.ireturn, 1) ∧ ret = some .int) ∧ (r.1 = 65 → decode cc pc = .ok (.ireturn, 1) ∧ ret = some .boolean) ∧ (r.1 = 66 → decode cc pc = .ok (.lreturn, 1) ∧ ret = some .long) ∧ (r.1 = 67 → decode cc pc = .ok (.return_, 1) ∧ ret = none) ∧
  (70 ≤ r.1 → r.1 ≤ 74 → r.2.2.2.1 = pc + 3 ∧ ∃ (y2 : MethodName) (cc2 : ByteArray) (mL2 : Nat) (ret2 : Option FieldType) (n : Nat), ms2[r.2.2.1]? = some (y2, cc2, mL2, ret2) ∧ zk_meth y2 cc2 mL2 ret2 ∧ (parseMethodDescriptor y2.desc).map (fun q => q.parameters.length) = some n ∧
    ((r.1 = 70 ∧ ∃ t q, r.2.2.2.2 = [n + 1, t] ∧ 16 ≤ t ∧ vwCl[t - 16]? = some q ∧ q.1 = y2.cls ∧ Cond.methodLink y.cls (r.2.1 % 65536) y2 ∈ zk_T ∧ Cond.instanceMethod y2 ∈ zk_T ∧ Cond.selects y2.cls y2 y2 ∈ zk_T ∧ decode cc pc = .ok (.invokevirtual (r.2.1 % 65536), 3)) ∨
     (r.1 = 71 ∧ r.2.2.2.2 = [n + 1] ∧ y2.name = "<init>" ∧ ret2 = none ∧ Cond.methodLink y.cls (r.2.1 % 65536) y2 ∈ zk_T ∧ Cond.instanceMethod y2 ∈ zk_T ∧ decode cc pc = .ok (.invokespecial (r.2.1 % 65536), 3)) ∨
     (r.1 = 72 ∧ r.2.2.2.2 = [n + 1] ∧ y2.name = "<init>" ∧ ret2 = none ∧ (∀ U, zk_N U → va_Nw (.methodLinkNest y.cls (r.2.1 % 65536) y2 "StubHouse") U) ∧ Cond.instanceMethod y2 ∈ zk_T ∧ decode cc pc = .ok (.invokespecial (r.2.1 % 65536), 3)) ∨
     (r.1 = 73 ∧ r.2.2.2.2 = [n] ∧ Cond.methodLink y.cls (r.2.1 % 65536) y2 ∈ zk_T ∧ Cond.static y2 ∈ zk_T ∧ decode cc pc = .ok (.invokestatic (r.2.1 % 65536), 3)) ∨
     (r.1 = 74 ∧ ∃ (t t' : Nat) (q q' : vw_C) (x : MethodName), r.2.2.2.2 = [n + 1, t, t'] ∧ 16 ≤ t ∧ 16 ≤ t' ∧ vwCl[t - 16]? = some q ∧ vwCl[t' - 16]? = some q' ∧ y2 = ⟨y2.cls, x.name, x.desc⟩ ∧ Cond.methodLink y.cls (r.2.1 % 65536) x ∈ zk_T ∧ Cond.sameMethod x.cls y2.cls x.name x.desc ∈ zk_T ∧ Cond.selects q.1 x y2 ∈ zk_T ∧ Cond.selects q'.1 x y2 ∈ zk_T ∧ Cond.instanceMethod y2 ∈ zk_T ∧ decode cc pc = .ok (.invokevirtual (r.2.1 % 65536), 3)))) ∧
  (r.1 = 75 → r.2.2.2.1 = pc + 3 ∧ Cond.methodLink y.cls (r.2.1 % 65536) Lib.objectInit ∈ zk_T ∧ Cond.instanceMethod Lib.objectInit ∈ zk_T ∧ Cond.code Lib.objectInit ⟨#[0xb1]⟩ 1 none ∈ zk_T ∧ decode cc pc = .ok (.invokespecial (r.2.1 % 65536), 3)) ∧
  (r.1 = 76 → r.2.2.2.1 = pc + 3 ∧ r.2.1 < 65536 ∧ Cond.methodLink y.cls r.2.1 arraycopyName ∈ zk_T ∧ Cond.native arraycopyName ∈ zk_T ∧ Cond.static arraycopyName ∈ zk_T ∧ Cond.initialized "java/lang/System" ∈ zk_T ∧ decode cc pc = .ok (.invokestatic r.2.1, 3)) ∧
  (r.1 = 77 → r.2.2.2.1 = pc + 3 ∧ ∃ (y2 : MethodName) (cc2 : ByteArray) (mL2 : Nat), mL2 ≤ 8 ∧ zk_nm y2 cc2 mL2 ∧ zk_meth y2 cc2 mL2 (some .boolean) ∧ (parseMethodDescriptor y2.desc).map (fun q => q.parameters.length) = some 1 ∧ Cond.methodLink y.cls (r.2.1 % 65536) y2 ∈ zk_T ∧ Cond.static y2 ∈ zk_T ∧ decode cc pc = .ok (.invokestatic (r.2.1 % 65536), 3)) ∧
  (r.1 = 78 → r.2.2.2.1 = pc + 1 ∧ decode cc pc = .ok (.iaload, 1)) ∧ (r.1 = 79 → r.2.2.2.1 = pc + 1 ∧ decode cc pc = .ok (.arraylength, 1)) ∧
  (r.1 = 80 → mL = 3 ∧ r.2.2.1 = pc + 5 ∧ decode cc pc = .ok (.iload_n 2, 1) ∧ decode cc (pc + 1) = .ok (.iload_n 1, 1) ∧ decode cc (pc + 2) = .ok (.if_icmp .ge ((r.2.1 : Int) - ((pc + 2 : Nat) : Int)), 3) ∧ decode cc r.2.2.2.1 = .ok (.iinc 2 1, 3) ∧ decode cc (r.2.2.2.1 + 3) = .ok (.goto ((pc : Int) - ((r.2.2.2.1 + 3 : Nat) : Int)), 3))
def zk_MS (ms : zxMS) (ms2 : zkMS) (Ps : List zkPT) : Prop := ∀ (i : Nat) (tb : zxTB) (mL bu bw : Nat), ms[i]? = some (tb, mL, bu, bw) → ∃ (y : MethodName) (cc : ByteArray) (ret : Option FieldType), ms2[i]? = some (y, cc, mL, ret) ∧ zk_meth y cc mL ret ∧ ∀ pc, zk_ro ms2 Ps y cc mL ret pc (zx_row tb pc)
/-- how a frame ends -/
def zk_ret (p : Program) (l : Launch) (e : Env) (R : Room) (s : State) (m : MethodId) (args : Array Value) (below : List Frame) (meth : Method) (c : Code) (Q : State → Prop) (G : va_G) (σ : Nat → Int32) (b : zxBB) (A : Nat → Prop) (cc : ByteArray) (ret : Option FieldType) (cu cw : Nat) (kl : zxKL) : Prop :=
  ∀ (r : Nat) (hp : zxHP) (st : zxST) (u w pc : Nat) (ls : Array Slot) (vs : List Value) (H : Heap) (locs : List Loc) (as : List Nat), kl r hp st = true → u ≤ cu → w ≤ cw → zr_in σ st → va_S A s.heap H locs → zr_HP G σ b s A as hp H →
    ((r = 75 ∧ vs = [] ∧ ret = none ∧ decode cc pc = .ok (.return_, 1)) ∨ (r ≠ 75 ∧ ∃ x, vs = [.int x] ∧ zr σ b as r (.int x) ∧ (∃ ty, ret = some ty ∧ narrow ty (.int x) = .int x) ∧ decode cc pc = .ok (.ireturn, 1)) ∨ (r ≠ 75 ∧ ∃ x, vs = [.long x] ∧ zr σ b as r (.long x) ∧ ret = some .long ∧ decode cc pc = .ok (.lreturn, 1))) →
    W p l e R s m args below meth c H locs u w Q (F0 m pc ls vs)
def zk_scr (s : State) (σ : Nat → Int32) (b : zxBB) (A : Nat → Prop) (sc : Nat) : Prop := sc ≠ 0 → ∃ (L : Nat) (xs : Nat → Int32), sc = L + 1 ∧ L ≤ 90 ∧ va_X b.1 L xs s s.heap ∧ b.1 < s.heap.size ∧ ¬ A b.1 ∧ ∀ i, i < L → σ i = xs i
def zk_IH (ms : zxMS) (ms2 : zkMS) (pr : List zxHD) (Ps : List zkPT) (l : Launch) (G : va_G) (σ : Nat → Int32) (n : Nat) : Prop :=
  ∀ (p : Program) (e : Env) (R : Room) (s : State) (m : MethodId) (args : Array Value) (below : List Frame) (meth : Method) (c : Code) (Q : State → Prop) (b : zxBB) (A : Nat → Prop) (i : Nat) (y : MethodName) (cc : ByteArray) (mL : Nat) (ret : Option FieldType) (tb : zxTB) (fr lo cu cw sc sp : Nat) (kl : zxKL) (ks : zxKT) (pc : Nat) (lv : zxLV) (stk : List Nat) (hp : zxHP) (st : zxST) (u w : Nat) (H : Heap) (locs : List Loc) (ls : Array Slot) (vs : List Value),
    zx_run ms pr n i tb fr lo cu cw sc sp kl ks pc lv stk hp st u w = true → (∀ pc, zk_ro ms2 Ps y cc mL ret pc (zx_row tb pc)) → zk_Cx p s m args meth c A y cc mL → (R.frames = fr ∧ R.locals = lo ∧ R.cells = cu ∧ R.slots = cw) → u ≤ cu → w ≤ cw → zk_scr s σ b A sc → zk_ret p l e R s m args below meth c Q G σ b A cc ret cu cw kl → zr_KK p l e R s m args below meth c Q G σ b A mL ks → zr_R G σ b A mL s H locs ls vs lv stk hp st → W p l e R s m args below meth c H locs u w Q (F0 m pc ls vs)
theorem zr_as_in {σ : Nat → Int32} {b : zxBB} {as : List Nat} {tys : List (ClassId × FieldType)} {hp : zxHP} {ws : va_W} (hW : zr_W σ b as tys hp ws) {k : Nat} {q : Nat × va_E} (h : ws[k]? = some q) : q.1 ∈ as := by
  have hk : k < hp.1 := by rw [← hW.2.1]; exact (List.getElem?_eq_some_iff.mp h).1
  obtain ⟨q', e, h1, h2, -⟩ := hW.2.2.1 k hk
  rw [h] at h2
  cases h2
  exact List.mem_of_getElem? h1
theorem zr_as_A {σ : Nat → Int32} {b : zxBB} {as : List Nat} {tys : List (ClassId × FieldType)} {hp : zxHP} {ws : va_W} {A : Nat → Prop} (hW : zr_W σ b as tys hp ws) (hD : va_D A ws) {q : Nat} (h : q ∈ as) : A q := by
  obtain ⟨k, hk⟩ := List.getElem?_of_mem h
  obtain ⟨e, he, -⟩ := zr_W_get hW hk
  exact hD.2 k _ he
theorem zx_met {ms : zxMS} {ms2 : zkMS} {pr : List zxHD} {Ps : List zkPT} {l : Launch} {G : va_G} {σ : Nat → Int32} {n : Nat} (ihn : zk_IH ms ms2 pr Ps l G σ n) {i : Nat} {y : MethodName} {cc : ByteArray} {mL : Nat} {ret : Option FieldType} {tb : zxTB} (hme : zk_meth y cc mL ret) (hro : ∀ pc, zk_ro ms2 Ps y cc mL ret pc (zx_row tb pc))
    {fr lo bu bw : Nat} {kl : zxKL} {cargs : List Nat} {hp : zxHP} {st : zxST} (h : zx_run ms pr n i tb fr lo bu bw 0 99999 kl (fun _ _ _ _ _ _ _ => false) 0 (zx_argl 0 cargs) [] hp st 0 0 = true) (hσ : zr_in σ st) (hcat : zx_cat cargs ≤ mL) {b sz : Nat} {as : List Nat} {av : List Value} (hav : zr_2 (zr σ (b, as) as) cargs av) :
    Met l y (Cond.code y cc mL ret :: zk_T) { frames := fr, cells := bu, slots := bw, locals := lo } (va_Pc av (zk_Pre G σ b as hp sz)) (zk_Post G σ b as sz kl) bu bw (zk_fr as sz) := by
  refine Met.ofW (cc := cc) (maxL := mL) (ret := ret) hme.2.1 rfl ?_
  intro p e s m args below meth c s₁ B hml hv
  obtain ⟨rfl, hsz, ⟨tys, ws, hK, hW, hP, hD⟩, hN⟩ := hv
  have hx := B.exec
  have hb := B.bytes
  have hr := B.returns
  have hts := atoms_spec (ws := Cond.code y cc mL ret :: zk_T) B.pre
  have hown : s.vm.findClass y.cls = some m.cls := findClass_of_methodNamed B.named
  have hlocks : meth.locks = false := B.notSynchronized
  have hnm : meth.name = y.name := (name_of_methodNamed B.named B.method).1
  subst hsz
  have hl := lv_entry av (n := mL) (by rw [zx_cat_sl hav]; exact hcat)
  rw [lg_entry_eq]
  generalize (lg_sl av ++ List.replicate (mL - (lg_sl av).length) Slot.unset).toArray = ls at hl ⊢
  refine ihn p e _ s m _ below meth c _ (b, as) (zk_fr as s.heap.size) i y cc mL ret tb fr lo bu bw 0 99999 kl _ 0 (zx_argl 0 cargs) [] hp st 0 0 s.heap [] ls [] h hro ⟨hx, hb, hml, hown, fun w hw => hts w (List.mem_cons_of_mem _ hw), fun q => hnm.trans q, fun q hq => Or.inr hq, hN⟩ ⟨rfl, rfl, rfl, rfl⟩ (Nat.zero_le _) (Nat.zero_le _) (fun q => absurd rfl q) ?_ (fun _ _ _ _ _ _ _ _ _ _ _ q => absurd q Bool.false_ne_true) ⟨hσ, va_S.rf, as, ⟨tys, ws, hK, hW, hP, hD.weaken (fun k q hq _ => Or.inl (zr_as_in hW hq))⟩, ⟨lv_args 0 av, hl, zx_argl_ok 0 hav⟩, trivial⟩
  intro r hp2 st2 u w pc ls2 vs H locs as2 hk hu hw hσ2 hS2 hHP hend
  refine W.widen (k := bu) (n := bw) hu hw ?_
  have hq : ∀ (v : Option Value), zk_res σ (b, as) as2 r v → ∀ t : State, t.heap = H → s.WarmedH t.vm → zk_Post G σ b as s.heap.size kl av.toArray s (.returned v) t := fun v hv t ht hwm =>
    ⟨⟨r, v, hp2, st2, as2, hk, rfl, hv, hσ2, by rw [ht]; exact zr_HP_moved hwm.alike hHP⟩, hS2.F ht⟩
  rcases hend with ⟨rfl, rfl, rfl, hd⟩ | ⟨hne, x, rfl, hv, ⟨ty, rfl, hn⟩, hd⟩ | ⟨hne, x, rfl, hv, rfl, hd⟩
  · exact W.vret hx hb hr (hq none (Or.inl ⟨rfl, rfl⟩)) hS2.2.2 hd
  · exact W.zret hx hb hr hn (hq (some (.int x)) (Or.inr ⟨hne, _, rfl, hv⟩)) hS2.2.2 hd
  · exact W.lret hx hb hr (hq (some (.long x)) (Or.inr ⟨hne, _, rfl, hv⟩)) hS2.2.2 hd
section ZD
variable {ms : zxMS} {ms2 : zkMS} {pr : List zxHD} {Ps : List zkPT} {n : Nat} {p : Program} {l : Launch} {e : Env} {R : Room} {s : State} {m : MethodId} {args : Array Value} {below : List Frame} {meth : Method} {c : Code} {Q : State → Prop} {G : va_G} {σ : Nat → Int32} {b : zxBB} {A : Nat → Prop} {i : Nat} {y : MethodName} {cc : ByteArray} {mL : Nat} {ret : Option FieldType} {tb : zxTB} {fr lo cu cw sc sp : Nat} {kl : zxKL} {ks : zxKT} {pc nxt : Nat} {lv : zxLV} {hp : zxHP} {st : zxST} {u w : Nat} {H : Heap} {locs : List Loc} {ls : Array Slot} {vs : List Value}
/-- a call, whatever its kind -/
theorem zx_do (ihn : zk_IH ms ms2 pr Ps l G σ n) (hM : zk_MS ms ms2 Ps) {bn : Nat} {cargs crest : List Nat} {av vrest : List Value} {as : List Nat}
    (h : zx_call ms (zx_run ms pr n) fr lo cu cw bn cargs crest hp st u w (fun stk2 hp2 st2 u2 w2 => zx_run ms pr n i tb fr lo cu cw sc sp kl ks nxt lv stk2 hp2 st2 u2 w2) = true) (hro : ∀ pc, zk_ro ms2 Ps y cc mL ret pc (zx_row tb pc)) (hCx : zk_Cx p s m args meth c A y cc mL) (hR : R.frames = fr ∧ R.locals = lo ∧ R.cells = cu ∧ R.slots = cw) (hsc : zk_scr s σ b A sc) (hret : zk_ret p l e R s m args below meth c Q G σ b A cc ret cu cw kl) (hks : zr_KK p l e R s m args below meth c Q G σ b A mL ks)
    (hσ : zr_in σ st) (hS : va_S A s.heap H locs) (hHP : zr_HP G σ b s A as hp H) (hL : ∃ lv', lv_has ls mL lv' ∧ zr_LV σ b as lv lv') (hrest : zr_2 (zr σ b as) crest vrest) (hav : zr_2 (zr σ b as) cargs av) (hn : nxt = pc + 3)
    (run : ∀ (y2 : MethodName) (cc2 : ByteArray) (mL2 : Nat) (ret2 : Option FieldType) (bu bw : Nat) (rm : Room) (Qc : Array Value → State → Outcome → State → Prop), ms2[bn]? = some (y2, cc2, mL2, ret2) → Met l y2 (Cond.code y2 cc2 mL2 ret2 :: zk_T) rm (va_Pc av (zk_Pre G σ b.1 as hp H.size)) Qc bu bw (zk_fr as H.size) → rm.cells = bu → rm.slots = bw → rm.frames + 1 ≤ R.frames → 8 + (mL2 + 11) + rm.locals ≤ R.locals → u + bu ≤ R.cells → w + bw ≤ R.slots → (vrest.map fun v => v.category).sum ≤ 8 → FrameBlind (va_Pc av (zk_Pre G σ b.1 as hp H.size)) → (∀ U : State, U.heap = H → s.WarmedH U.vm → va_Pc av (zk_Pre G σ b.1 as hp H.size) av.toArray U) → va_Run p l e R s m args below meth c H locs u w bu bw (F0 m pc ls vs) vrest (Qc av.toArray) (zk_fr as H.size)) : W p l e R s m args below meth c H locs u w Q (F0 m pc ls vs) := by
  unfold zx_call at h
  rw [zx_N_eq] at h
  have hg : Nat.blt bn (zx_Z ms) = true := by
    generalize (ms[bn]?).getD ([], 0, 0, 0) = M0 at h
    obtain ⟨tb2, mL2, bu, bw⟩ := M0
    exact (zx_an (zx_c1 h).1).1
  have hg := zx_blt.mp hg
  rw [zx_Z_eq] at hg
  have hmi : ms[bn]? = some ms[bn] := List.getElem?_eq_getElem hg
  rw [hmi] at h
  generalize ms[bn] = M0 at h hmi
  obtain ⟨tb2, mL2, bu, bw⟩ := M0
  obtain ⟨h1, h⟩ := zx_c1 (show cond (Nat.blt bn (zx_Z ms) && (Nat.ble 1 fr && (Nat.ble (19 + mL2) lo && (Nat.ble (zx_cat cargs) mL2 && Nat.ble (zx_cat crest) 8))))
      (zx_F (fr - 1) (fun fr2 => zx_F (lo - (19 + mL2)) (fun lo2 => zx_args cargs 0 (fun lv2 => zx_F (u + bu) (fun u2 => zx_F (w + bw) (fun w2 => cond (Nat.ble u2 cu && Nat.ble w2 cw)
        (zx_run ms pr n bn tb2 fr2 lo2 bu bw 0 99999 (fun c hp2 st2 => cond (Nat.beq c 75) (zx_run ms pr n i tb fr lo cu cw sc sp kl ks nxt lv crest hp2 st2 u2 w2) (zx_run ms pr n i tb fr lo cu cw sc sp kl ks nxt lv (c :: crest) hp2 st2 u2 w2)) (fun _ _ _ _ _ _ _ => false) 0 lv2 [] hp st 0 0) false)))))) false = true from h)
  have g1 := zx_an (zx_an h1).2
  have g2 := zx_an g1.2
  have g3 := zx_an g2.2
  have q1 := zx_ble.mp g1.1
  have q2 := zx_ble.mp g2.1
  have q3 := zx_ble.mp g3.1
  have q4 := zx_ble.mp g3.2
  rw [zx_F_eq, zx_F_eq, zx_args_eq, zx_F_eq, zx_F_eq] at h
  obtain ⟨h5, h⟩ := zx_c1 h
  have q5 := zx_ble.mp (zx_an h5).1
  have q6 := zx_ble.mp (zx_an h5).2
  obtain ⟨y2, cc2, ret2, hms2, hme2, hro2⟩ := hM bn tb2 mL2 bu bw hmi
  obtain ⟨tys, ws, hK, hW, hP, hD⟩ := hHP
  have hbb : zr σ (b.1, as) = zr σ b := zr_bb rfl
  have hav2 : zr_2 (zr σ (b.1, as) as) cargs av := by rw [hbb]; exact hav
  have hmet := zx_met (sz := H.size) (b := b.1) ihn hme2 hro2 h hσ q3 hav2
  have hW2 : zr_W σ (b.1, as) as tys hp ws := zr_W_bb (b1 := b) rfl (List.prefix_refl as) hW
  obtain ⟨hR1, hR2, hR3, hR4⟩ := hR
  have hrun := run y2 cc2 mL2 ret2 bu bw _ _ hms2 hmet rfl rfl (by show fr - 1 + 1 ≤ R.frames; omega) (by show 8 + (mL2 + 11) + (lo - (19 + mL2)) ≤ R.locals; omega) (by omega) (by omega) (by rw [zx_cat_sum hrest]; exact q4) (zk_blind G σ b.1 as hp H.size av)
    (fun U hU hWm => ⟨rfl, by rw [hU], ⟨tys, ws, va_K.moved hWm.alike hK, hW2, by rw [hU]; exact hP, hD.weaken (fun _ _ _ _ => trivial)⟩, zk_N_warm hWm hCx.2.2.2.2.2.2.2⟩)
  have hA := hCx.2.2.2.2.2.2.1
  refine zx_after hrun hS (fun q hq => ?_) ?_
  · rcases hq with hq | hq
    · exact zr_as_A hW hD hq
    · exact hA q (Nat.le_trans hS.1 hq)
  intro r v hp2 st2 as2 H1 locs1 hk hres hσ2 ⟨tys2, ws2, hK2, hW3, hP2, hD2⟩ hS2
  obtain ⟨ext, rfl⟩ := hW3.2.2.2
  have hW4 : zr_W σ b (as ++ ext) tys2 hp2 ws2 := zr_W_bb (b1 := (b.1, as)) rfl (List.IsPrefix.trans hW.2.2.2 (List.prefix_append as ext)) hW3
  obtain ⟨lv', hl, hLv⟩ := hL
  have hL2 : ∃ lv', lv_has ls mL lv' ∧ zr_LV σ b (as ++ ext) lv lv' := ⟨lv', hl, zr_2_mono (fun _ _ q => ⟨q.1, zr_mono ext q.2⟩) hLv⟩
  have hrest2 : zr_2 (zr σ b (as ++ ext)) crest vrest := zr_2_mono (fun _ _ q => zr_mono ext q) hrest
  rcases hres with ⟨rfl, rfl⟩ | ⟨hne, x, rfl, hv⟩
  · have hk : zx_run ms pr n i tb fr lo cu cw sc sp kl ks nxt lv crest hp2 st2 (u + bu) (w + bw) = true := hk
    exact hn ▸ ihn p e R s m args below meth c Q b A i y cc mL ret tb fr lo cu cw sc sp kl ks nxt lv crest hp2 st2 (u + bu) (w + bw) H1 locs1 ls vrest hk hro hCx ⟨hR1, hR2, hR3, hR4⟩ q5 q6 hsc hret hks ⟨hσ2, hS2, as ++ ext, ⟨tys2, ws2, hK2, hW4, hP2, hD2⟩, hL2, hrest2⟩
  · rw [zx_nbeq.mpr hne] at hk
    have hk : zx_run ms pr n i tb fr lo cu cw sc sp kl ks nxt lv (r :: crest) hp2 st2 (u + bu) (w + bw) = true := hk
    have hbb2 : zr σ (b.1, as) = zr σ b := zr_bb rfl
    rw [hbb2] at hv
    exact hn ▸ ihn p e R s m args below meth c Q b A i y cc mL ret tb fr lo cu cw sc sp kl ks nxt lv (r :: crest) hp2 st2 (u + bu) (w + bw) H1 locs1 ls (x :: vrest) hk hro hCx ⟨hR1, hR2, hR3, hR4⟩ q5 q6 hsc hret hks ⟨hσ2, hS2, as ++ ext, ⟨tys2, ws2, hK2, hW4, hP2, hD2⟩, hL2, hv, hrest2⟩
theorem zx_cl_zr {σ σ' : Nat → Int32} {b : zxBB} {as : List Nat} {n : Nat} {v : Value} (h : zx_cl n = true) (hz : zr σ b as n v) : zr σ' b as n v := by
  rcases Bool.or_eq_true_iff.mp h with g | g
  · have g := zx_blt.mp g
    rcases (show n % 8 = 0 ∨ n % 8 = 1 ∨ n % 8 = 2 ∨ n % 8 = 3 by omega) with e | e | e | e
    · exact (zr_0 e).mpr ((zr_0 e).mp hz)
    · exact (zr_1 e).mpr ((zr_1 e).mp hz)
    · exact (zr_2' e).mpr ((zr_2' e).mp hz)
    · exact (zr_3 e).mpr ((zr_3 e).mp hz)
  · have g := zx_beq.mp g
    subst g
    exact (zr_6 rfl).mpr ((zr_6 rfl).mp hz)
theorem zx_cl_2 {σ σ' : Nat → Int32} {b : zxBB} {as : List Nat} : ∀ {l : List Nat} {vs : List Value}, (∀ c ∈ l, zx_cl c = true) → zr_2 (zr σ b as) l vs → zr_2 (zr σ' b as) l vs
  | [], [], _, _ => trivial
  | c :: l, v :: vs, h, hz => ⟨zx_cl_zr (h c List.mem_cons_self) hz.1, zx_cl_2 (fun c hc => h c (List.mem_cons_of_mem _ hc)) hz.2⟩
  | [], _ :: _, _, h => h.elim
  | _ :: _, [], _, h => h.elim
theorem zx_cl_A {d j : Nat} (hd : zx_cl d = true) : ∀ {l : List (Nat × Nat)}, (∀ q ∈ l, zx_cl q.2 = true) → zx_cl (zx_A l d j) = true
  | [], _ => hd
  | q :: l, h => by
    rw [zx_A_cons]
    split
    · exact h q List.mem_cons_self
    · exact zx_cl_A hd (fun q hq => h q (List.mem_cons_of_mem _ hq))
theorem zx_clean_W {σ σ' : Nat → Int32} {b : zxBB} {as : List Nat} {tys : List (ClassId × FieldType)} {hp : zxHP} {ws : va_W} (hc : zx_clean hp = true) (hW : zr_W σ b as tys hp ws) : zr_W σ' b as tys hp ws := by
  refine ⟨hW.1, hW.2.1, fun k hk => ?_, hW.2.2.2⟩
  obtain ⟨q, e, h1, h2, h3⟩ := hW.2.2.1 k hk
  refine ⟨q, e, h1, h2, ?_⟩
  have hcl : (∀ c ∈ (zx_G hp k).2.2.1, zx_cl c = true) ∧ ∀ q ∈ (zx_G hp k).2.2.2, zx_cl q.2 = true := by
    obtain ⟨n, cs⟩ := hp
    rw [zx_G_eq]
    cases ha : cs[k / 32]? with
    | none => simp
    | some ch =>
      simp only [Option.getD_some]
      cases hb : ch[k % 32]? with
      | none => simp
      | some E =>
        obtain ⟨t, n0, fs, es⟩ := E
        simp only [Option.getD_some]
        have g1 := List.all_eq_true.mp (show cs.all _ = true from hc) ch (List.mem_of_getElem? ha)
        have g2 := List.all_eq_true.mp g1 _ (List.mem_of_getElem? hb)
        obtain ⟨g3, g4⟩ := zx_an g2
        exact ⟨fun c hc => List.all_eq_true.mp g3 c hc, fun q hq => List.all_eq_true.mp g4 q hq⟩
  generalize zx_G hp k = E at h3 hcl
  have hA : ∀ j, zx_cl (zx_N 74 E.2.2.1 0) = true → zx_cl (zr_c E j) = true := fun j hd => zx_cl_A hd hcl.2
  have hd : zx_cl (zx_N 74 E.2.2.1 0) = true := by
    rw [zx_N_eq]
    cases hq : E.2.2.1[0]? with
    | none => rfl
    | some c => exact hcl.1 c (List.mem_of_getElem? hq)
  rcases h3 with ⟨g1, fs, g2, g3⟩ | ⟨g1, g2, g3, cA, t0, g4, g5⟩
  · exact Or.inl ⟨g1, fs, g2, zx_cl_2 hcl.1 g3⟩
  · refine Or.inr ⟨g1, g2, g3, cA, t0, g4, ?_⟩
    rcases g5 with ⟨k1, f, k2, k3⟩ | ⟨k1, f, k2, k3⟩ | ⟨k1, f, k2, k3⟩
    · exact Or.inl ⟨k1, f, k2, fun j hj => zx_cl_zr (hA j hd) (k3 j hj)⟩
    · exact Or.inr (Or.inl ⟨k1, f, k2, fun j hj => zx_cl_zr (hA j hd) (k3 j hj)⟩)
    · exact Or.inr (Or.inr ⟨k1, f, k2, fun j hj => zx_cl_zr (hA j hd) (k3 j hj)⟩)
/-- the loop, from the machine's side -/
theorem zx_loop (ihn : ∀ σ, zk_IH ms ms2 pr Ps l G σ n) (hro : ∀ pc, zk_ro ms2 Ps y cc 3 ret pc (zx_row tb pc)) (hCx : zk_Cx p s m args meth c A y cc 3) (hR : R.frames = fr ∧ R.locals = lo ∧ R.cells = cu ∧ R.slots = cw) (hu : u ≤ cu) (hw : w ≤ cw) (hsc : zk_scr s σ b A sc) (hret : zk_ret p l e R s m args below meth c Q G σ b A cc ret cu cw kl) (hks : zr_KK p l e R s m args below meth c Q G σ b A 3 ks) (hσ : zr_in σ st) (hst : ∀ q ∈ st, q.1 < 98) {a b2 x1 c0 : Nat} {hp2 : zxHP} {X : Int32} (hx4 : x1 % 8 = 4) (hx98 : x1 / 8 < 98) (hc3 : c0 % 8 = 3) (hcl : zx_clean hp2 = true)
    (hbody : zx_run ms pr n i tb fr lo cu cw sc nxt (fun _ _ _ => false) (zx_bk c0 x1 nxt u w hp2) b2 [(2, 788), (0, c0), (1, x1)] [] hp2 st u w = true) (hexit : zx_run ms pr n i tb fr lo cu cw sc sp kl ks a [(2, 6), (0, c0), (1, x1)] [] hp2 st u w = true)
    (hb2 : b2 = pc + 5) (d1 : decode cc pc = .ok (.iload_n 2, 1)) (d2 : decode cc (pc + 1) = .ok (.iload_n 1, 1)) (d3 : decode cc (pc + 2) = .ok (.if_icmp .ge ((a : Int) - ((pc + 2 : Nat) : Int)), 3)) (d4 : decode cc nxt = .ok (.iinc 2 1, 3)) (d5 : decode cc (nxt + 3) = .ok (.goto ((pc : Int) - ((nxt + 3 : Nat) : Int)), 3)) :
    ∀ (k : Nat) (i0 : Int32) (q : Nat) (H : Heap) (locs : List Loc) (ls : Array Slot) (as : List Nat), X.toInt - i0.toInt ≤ k → va_S A s.heap H locs → zr_HP G σ b s A as hp2 H → lv_has ls 3 [(2, .int i0), (0, .ref q), (1, .int X)] → zr σ b as c0 (.ref q) → zr σ b as x1 (.int X) → W p l e R s m args below meth c H locs u w Q (F0 m pc ls []) := by
  obtain ⟨hx, hb, -⟩ := id hCx
  intro k
  induction k with
  | zero =>
    intro i0 q H locs ls as hk hS hHP hl z0 z1
    refine lv_iload_n hx hb (k := 2) d1 rfl (lv_at hl 0 rfl) ?_
    refine lv_iload_n hx hb (k := 1) d2 rfl (lv_at hl 2 rfl) ?_
    refine lv_icmp_ge (tgt := a) hx hb d3 (by omega) (fun _ => ?_) (fun g => ?_)
    · exact ihn σ p e R s m args below meth c Q b A i y cc 3 ret tb fr lo cu cw sc sp kl ks a _ _ _ _ u w H locs ls [] hexit hro hCx hR hu hw hsc hret hks ⟨hσ, hS, as, hHP, ⟨_, hl, ⟨rfl, (zr_6 rfl).mpr ⟨i0, rfl⟩⟩, ⟨rfl, z0⟩, ⟨rfl, z1⟩, trivial⟩, trivial⟩
    · exfalso
      apply g
      rw [Int32.le_iff_toInt_le]
      omega
  | succ k ih =>
    intro i0 q H locs ls as hk hS hHP hl z0 z1
    refine lv_iload_n hx hb (k := 2) d1 rfl (lv_at hl 0 rfl) ?_
    refine lv_iload_n hx hb (k := 1) d2 rfl (lv_at hl 2 rfl) ?_
    refine lv_icmp_ge (tgt := a) hx hb d3 (by omega) (fun _ => ?_) (fun g => ?_)
    · exact ihn σ p e R s m args below meth c Q b A i y cc 3 ret tb fr lo cu cw sc sp kl ks a _ _ _ _ u w H locs ls [] hexit hro hCx hR hu hw hsc hret hks ⟨hσ, hS, as, hHP, ⟨_, hl, ⟨rfl, (zr_6 rfl).mpr ⟨i0, rfl⟩⟩, ⟨rfl, z0⟩, ⟨rfl, z1⟩, trivial⟩, trivial⟩
    · have hlt : i0.toInt < X.toInt := by
        rw [Int32.le_iff_toInt_le] at g
        omega
      have hst1 : (i0 + 1).toInt = i0.toInt + 1 := by
        have h1 := Int32.toInt_lt X
        have h2 := Int32.le_toInt i0
        rw [Int32.toInt_add]
        show (i0.toInt + 1).bmod 4294967296 = _
        rw [Int.bmod_def]
        omega
      have hσn : ∀ id, id < 98 → zr_n (fun j => if j = 98 then i0 else σ j) id = zr_n σ id := by
        intro id hid
        rw [zr_n_s (by omega), zr_n_s (by omega)]
        unfold zr_d
        rw [if_pos (by omega), if_pos (by omega)]
        show zr_b (if id = 98 then i0 else σ id) = zr_b (σ id)
        rw [if_neg (by omega)]
      have hσd : zr_d (fun j => if j = 98 then i0 else σ j) (x1 / 8) = zr_d σ (x1 / 8) := by
        unfold zr_d
        rw [if_pos (by omega), if_pos (by omega)]
        show (if x1 / 8 = 98 then i0 else σ (x1 / 8)) = σ (x1 / 8)
        rw [if_neg (by omega)]
      have hX1 := (zr_4 hx4).mp z1
      have hbb : W p l e R s m args below meth c H locs u w Q (F0 m b2 ls []) := by
        obtain ⟨tys, ws, hK, hW, hP, hD⟩ := hHP
        refine ihn (fun j => if j = 98 then i0 else σ j) p e R s m args below meth c Q b A i y cc 3 ret tb fr lo cu cw sc nxt (fun _ _ _ => false) _ b2 _ _ _ _ u w H locs ls [] hbody hro hCx hR hu hw ?_ (fun _ _ _ _ _ _ _ _ _ _ _ q => absurd q Bool.false_ne_true) ?_ ⟨?_, hS, as, ⟨tys, ws, hK, zx_clean_W hcl hW, hP, hD⟩, ⟨_, hl, ⟨rfl, ?_⟩, ⟨rfl, ?_⟩, ⟨rfl, ?_⟩, trivial⟩, trivial⟩
        · intro hs
          obtain ⟨L, xs, e1, e2, e3, e4, e5, e6⟩ := hsc hs
          exact ⟨L, xs, e1, e2, e3, e4, e5, fun j hj => by
            show (if j = 98 then i0 else σ j) = _
            rw [if_neg (by omega)]
            exact e6 j hj⟩
        · intro pc2 lv2 stk2 hp3 st2 u2 w2 H2 locs2 ls2 vs2 hks2 r2
          obtain ⟨f0, f1, f2, f3, f4, f5⟩ := zx_bk_ok hks2
          subst f0
          subst f1
          subst f2
          subst f3
          subst f4
          subst f5
          obtain ⟨hσ2, hS2, as2, ⟨tys2, ws2, hK2, hW2, hP2, hD2⟩, ⟨lv', hl', hLv⟩, hV2⟩ := r2
          rcases vs2 with _ | ⟨vv, vr⟩
          · rcases lv' with _ | ⟨⟨j2, v2⟩, _ | ⟨⟨j0, v0⟩, _ | ⟨⟨j1, v1⟩, _ | ⟨xx, lr⟩⟩⟩⟩
            · exact hLv.elim
            · exact hLv.2.elim
            · exact hLv.2.2.elim
            · obtain ⟨⟨e2, y2⟩, ⟨e0, y0⟩, ⟨e1, y1⟩, -⟩ := hLv
              dsimp only at e2 e0 e1 y2 y0 y1
              subst e2
              subst e0
              subst e1
              have y2 := (zr_4 rfl).mp y2
              rw [show zr_d (fun j => if j = 98 then i0 else σ j) (788 / 8) = i0 from by unfold zr_d; rw [if_pos (by decide)]; exact if_pos rfl] at y2
              subst y2
              obtain ⟨qq, k1, rfl⟩ := (zr_3 hc3).mp y0
              have y1 := (zr_4 hx4).mp y1
              rw [hσd, ← Value.int.inj hX1] at y1
              subst y1
              refine lv_iinc (k := 0) (v := i0 + 1) (lv' := [(2, .int (i0 + 1)), (0, .ref qq), (1, .int X)]) (n := 1) hx hb d4 hl' rfl rfl (by decide) rfl (fun ls3 hl3 => ?_)
              refine lv_goto (tgt := pc) hx hb d5 (by omega) ?_
              exact ih (i0 + 1) qq H2 locs2 ls3 as2 (by omega) hS2 ⟨tys2, ws2, hK2, zx_clean_W hcl hW2, hP2, hD2⟩ hl3 ((zr_3 hc3).mpr ⟨qq, k1, rfl⟩) ((zr_4 hx4).mpr hX1)
            · exact hLv.2.2.2.elim
          · exact hV2.elim
        · intro q hq
          rw [hσn q.1 (hst q hq)]
          exact hσ q hq
        · refine (zr_4 rfl).mpr ?_
          unfold zr_d
          rw [if_pos (by decide)]
          show Value.int i0 = Value.int (if 98 = 98 then i0 else σ 98)
          rw [if_pos rfl]
        · obtain ⟨qq, k1, k2⟩ := (zr_3 hc3).mp z0
          exact (zr_3 hc3).mpr ⟨qq, k1, k2⟩
        · refine (zr_4 hx4).mpr ?_
          rw [hσd]; exact hX1
      rw [hb2] at hbb
      exact hbb
end ZD
end
section
theorem zr_2_N {α β : Type} {R : α → β → Prop} {d : α} {d' : β} (hd : R d d') : ∀ {l : List α} {l' : List β}, zr_2 R l l' → ∀ i, R (zx_N d l i) (zx_N d' l' i)
  | [], [], _, i => hd
  | x :: l, y :: l', h, 0 => h.1
  | x :: l, y :: l', h, i + 1 => zr_2_N hd h.2 i
  | [], _ :: _, h, _ => h.elim
  | _ :: _, [], h, _ => h.elim
theorem zk_fail : zk_HO zh_fail (fun _ _ _ _ _ _ _ _ => False) := by
  intro p l e R s m args below meth c Q cc nL G σ b A y pc a a2 nxt d lv stk hp st u w k H locs ls vs _ hf
  exact hf.elim
set_option maxRecDepth 20000 in
set_option maxHeartbeats 2000000 in
theorem zx_ok {ms : zxMS} {ms2 : zkMS} {pr : List zxHD} {Ps : List zkPT} (hC : zk_C) (hM : zk_MS ms ms2 Ps) (hPs : zr_2 zk_HP pr Ps) (l : Launch) (G : va_G) : ∀ (n : Nat) (σ : Nat → Int32), zk_IH ms ms2 pr Ps l G σ n
  | 0, σ => fun _ _ _ _ _ _ _ _ _ _ _ _ _ _ _ _ _ _ _ _ _ _ _ _ _ _ _ _ _ _ _ _ _ _ _ _ _ h => absurd h Bool.false_ne_true
  | n + 1, σ => by
    have ihn := zx_ok hC hM hPs l G n σ
    have ihs := zx_ok hC hM hPs l G n
    intro p e R s m args below meth c Q b A i y cc mL ret tb fr lo cu cw sc sp kl ks pc lv stk hp st u w H locs ls vs h hro hCx hR hu hw hsc hret hks r
    have h : zx_body ms pr (zx_run ms pr n) i tb fr lo cu cw sc sp kl ks pc lv stk hp st u w = true := h
    unfold zx_body at h
    rcases zx_ct h with ⟨-, h⟩ | ⟨-, h⟩
    · exact hks _ _ _ _ _ _ _ _ _ _ _ h r
    have hrw := hro pc
    generalize zx_row tb pc = row at h hrw
    obtain ⟨op, a, b2, nxt, d⟩ := row
    obtain ⟨r1, r2, r64, r65, r66, r67, rc, r75, r76, r77, r78, r79, r80⟩ := hrw
    dsimp only at r1 r2 r64 r65 r66 r67 rc r75 r76 r77 r78 r79 r80
    have kk : zr_KK p l e R s m args below meth c Q G σ b A mL (fun pc lv stk hp st u w => cond (Nat.ble u cu && Nat.ble w cw) (zx_run ms pr n i tb fr lo cu cw sc sp kl ks pc lv stk hp st u w) false) := by
      intro pc lv stk hp st u w H locs ls vs hk r
      obtain ⟨h1, hk⟩ := zx_c1 hk
      exact ihn p e R s m args below meth c Q b A i y cc mL ret tb fr lo cu cw sc sp kl ks pc lv stk hp st u w H locs ls vs hk hro hCx hR (zx_ble.mp (zx_an h1).1) (zx_ble.mp (zx_an h1).2) hsc hret hks r
    have hkb : ∀ pc lv stk hp st u w, (fun pc lv stk hp st u w => cond (Nat.ble u cu && Nat.ble w cw) (zx_run ms pr n i tb fr lo cu cw sc sp kl ks pc lv stk hp st u w) false) pc lv stk hp st u w = true → u ≤ R.cells ∧ w ≤ R.slots := by
      intro pc lv stk hp st u w hk
      obtain ⟨h1, -⟩ := zx_c1 hk
      rw [hR.2.2.1, hR.2.2.2]
      exact ⟨zx_ble.mp (zx_an h1).1, zx_ble.mp (zx_an h1).2⟩
    have go : ∀ (pc2 : Nat) (stk2 : List Nat) (st2 : zxST) (vs2 : List Value), zx_run ms pr n i tb fr lo cu cw sc sp kl ks pc2 lv stk2 hp st2 u w = true → zr_R G σ b A mL s H locs ls vs2 lv stk2 hp st2 → W p l e R s m args below meth c H locs u w Q (F0 m pc2 ls vs2) := fun pc2 stk2 st2 vs2 hk r2 =>
      ihn p e R s m args below meth c Q b A i y cc mL ret tb fr lo cu cw sc sp kl ks pc2 lv stk2 hp st2 u w H locs ls vs2 hk hro hCx hR hu hw hsc hret hks r2
    have h : cond (Nat.blt op 55) (zx_N zh_fail zx_hands op a b2 nxt d lv stk hp st u w (fun pc lv stk hp st u w => cond (Nat.ble u cu && Nat.ble w cw) (zx_run ms pr n i tb fr lo cu cw sc sp kl ks pc lv stk hp st u w) false))
      (cond (Nat.blt op 64) (cond (Nat.ble 1 fr && Nat.ble 60 lo) (zx_N zh_fail pr (op - 55) a b2 nxt d lv stk hp st u w (fun pc lv stk hp st u w => cond (Nat.ble u cu && Nat.ble w cw) (zx_run ms pr n i tb fr lo cu cw sc sp kl ks pc lv stk hp st u w) false)) false)
        (zx_spec ms (zx_run ms pr n) i tb fr lo cu cw sc sp kl ks op a b2 nxt d lv stk hp st u w)) = true := h
    rcases zx_ct h with ⟨h1, h⟩ | ⟨h1, h⟩
    · exact zr_2_N zk_fail (zk_hands hC) op p l e R s m args below meth c Q cc mL G σ b A y pc a b2 nxt d lv stk hp st u w _ H locs ls vs hCx (r1 (zx_blt.mp h1)) hkb h r kk
    have h55 := zx_nblt.mp h1
    rcases zx_ct h with ⟨h1, h⟩ | ⟨-, h⟩
    · obtain ⟨hfl, h⟩ := zx_c1 h
      obtain ⟨hf1, hf2⟩ := zx_an hfl
      exact zr_2_N (zk_HP_of zk_fail) hPs (op - 55) p l e R s m args below meth c Q cc mL G σ b A y pc a b2 nxt d lv stk hp st u w _ H locs ls vs (by rw [hR.1]; exact zx_ble.mp hf1) (by rw [hR.2.1]; exact zx_ble.mp hf2) (by rw [hR.2.2.1]; exact hu) (by rw [hR.2.2.2]; exact hw) hCx (r2 (by omega) (zx_blt.mp h1)) hkb h r kk
    obtain ⟨hx, hb, hml, hown, hts, hnm, hA, hN⟩ := id hCx
    obtain ⟨hσ, hS, as, hHP, ⟨lv', hl, hL⟩, hV⟩ := id r
    unfold zx_spec at h
    rcases zx_ct h with ⟨ho, h⟩ | ⟨-, h⟩
    · -- 70: invokevirtual
      have ho := zx_beq.mp ho
      obtain ⟨hn, y2, cc2, mL2, ret2, n2, hms, hme, hpar, alt⟩ := rc (by omega) (by omega)
      rcases alt with ⟨-, t, q, rfl, ht16, hvw, hq1, hlink, hinst, hsel, hdec⟩ | ⟨e, -⟩ | ⟨e, -⟩ | ⟨e, -⟩ | ⟨e, -⟩
      · obtain ⟨pre, rest, rfl, hlen, h⟩ := zx_take_ok (show zx_take (n2 + 1) stk [] _ = true from h)
        rw [List.append_nil] at h
        obtain ⟨vpre, vrest, rfl, hpre, hrest⟩ := zr_2_split hV
        have hav := zr_2_rev hpre
        have hlv : vpre.length = n2 + 1 := by rw [← zr_2_len hpre]; exact hlen
        generalize hca : pre.reverse = cargs at h hav
        rcases cargs with _ | ⟨c0, ctl⟩
        · exact absurd h Bool.false_ne_true
        obtain ⟨h3, h⟩ := zx_c1 h
        generalize hva : vpre.reverse = av at hav
        rcases av with _ | ⟨v0, As⟩
        · exact hav.elim
        obtain ⟨qa, hqa, rfl⟩ := (zr_3 (zx_beq.mp h3)).mp hav.1
        obtain ⟨tys, ws, hK, hW, hP, hD⟩ := id hHP
        obtain ⟨e0, he, hE⟩ := zr_W_get hW hqa
        generalize zx_G hp (c0 / 8) = E at h hE
        obtain ⟨t2, n0, fs, es⟩ := E
        obtain ⟨h4, h⟩ := zx_c1 h
        have h4 := zx_beq.mp h4
        have hvp : vpre = As.reverse ++ [.ref qa] := by rw [← List.reverse_reverse vpre, hva, List.reverse_cons]
        have hAl : As.length = n2 := by
          have : (Value.ref qa :: As).length = n2 + 1 := by rw [← hva, List.length_reverse]; exact hlv
          exact Nat.succ.inj this
        refine zx_do ihn hM h hro hCx hR hsc hret hks hσ hS hHP ⟨lv', hl, hL⟩ hrest hav hn ?_
        intro y3 cc3 mL3 ret3 bu bw rm Qc hms3 hmet e1 e2 e3 e4 e5 e6 e7 hbl hpc
        rw [hms] at hms3
        cases hms3
        have hcw : CallW R s args y.cls y2.cls (a % 65536) y2 cc2 mL2 ret2 (Cond.code y2 cc2 mL2 ret2 :: zk_T) rm bu bw n2 := ⟨callB_of n2 hts (zk_good (fun w h => h) (fun w hw => by rcases List.mem_cons.mp hw with rfl | hw; exact hme.1; exact hw)) rfl e1 e2 (hts _ hme.2.2.1) (hts _ hlink) ⟨hme.2.2.2.1, hme.2.2.2.2, hpar⟩ ⟨e3, e4⟩, hts _ hinst, hts _ hsel⟩
        rcases hE with ⟨g16, fs', rfl, -⟩ | ⟨g16, -⟩
        · exact va_runV ⟨hx, hb, hml, hown, hts⟩ hmet hcw ⟨hbl, hq1 ▸ va_recv hK hP (ci := t2 - 16) (q0 := c0 / 8) (by rw [h4]; exact hvw) he, hpc⟩ rfl hAl hl.1 (by rw [hvp]; simp) (lv_room e7) hdec ⟨e5, e6⟩
        · exact absurd (show t2 < 16 from g16) (by omega)
      · exact absurd (ho.symm.trans e) (by decide)
      · exact absurd (ho.symm.trans e) (by decide)
      · exact absurd (ho.symm.trans e) (by decide)
      · exact absurd (ho.symm.trans e) (by decide)
    rcases zx_ct h with ⟨ho, h⟩ | ⟨-, h⟩
    · -- 73: invokestatic
      have ho := zx_beq.mp ho
      obtain ⟨hn, y2, cc2, mL2, ret2, n2, hms, hme, hpar, alt⟩ := rc (by omega) (by omega)
      rcases alt with ⟨e, -⟩ | ⟨e, -⟩ | ⟨e, -⟩ | ⟨-, rfl, hlink, hstat, hdec⟩ | ⟨e, -⟩
      · exact absurd (ho.symm.trans e) (by decide)
      · exact absurd (ho.symm.trans e) (by decide)
      · exact absurd (ho.symm.trans e) (by decide)
      · obtain ⟨pre, rest, rfl, hlen, h⟩ := zx_take_ok (show zx_take n2 stk [] _ = true from h)
        rw [List.append_nil] at h
        obtain ⟨vpre, vrest, rfl, hpre, hrest⟩ := zr_2_split hV
        have hav := zr_2_rev hpre
        have hlv : vpre.length = n2 := by rw [← zr_2_len hpre]; exact hlen
        refine zx_do ihn hM h hro hCx hR hsc hret hks hσ hS hHP ⟨lv', hl, hL⟩ hrest hav hn ?_
        intro y3 cc3 mL3 ret3 bu bw rm Qc hms3 hmet e1 e2 e3 e4 e5 e6 e7 hbl hpc
        rw [hms] at hms3
        cases hms3
        exact va_runS ⟨hx, hb, hml, hown, hts⟩ hmet ⟨callB_of n2 hts (zk_good (fun w h => h) (fun w hw => by rcases List.mem_cons.mp hw with rfl | hw; exact hme.1; exact hw)) rfl e1 e2 (hts _ hme.2.2.1) (hts _ hlink) ⟨hme.2.2.2.1, hme.2.2.2.2, hpar⟩ ⟨e3, e4⟩, hts _ hstat⟩ ⟨hbl, hpc⟩ rfl (by rw [List.length_reverse]; exact hlv) hl.1 (by rw [List.reverse_reverse]) (lv_room e7) hdec ⟨e5, e6⟩
      · exact absurd (ho.symm.trans e) (by decide)
    rcases zx_ct h with ⟨ho, h⟩ | ⟨-, h⟩
    · -- 64: ireturn
      obtain ⟨hdec, hrt⟩ := r64 (zx_beq.mp ho)
      rcases stk with _ | ⟨x, _ | ⟨x2, rr⟩⟩
      · exact absurd h Bool.false_ne_true
      · rcases vs with _ | ⟨vx, _ | ⟨vx2, vr⟩⟩
        · exact hV.elim
        · obtain ⟨h3, h⟩ := zx_c1 h
          obtain ⟨xv, rfl⟩ := zr_int h3 hV.1
          obtain ⟨x', e1, hi, -, m1⟩ := zx_M_ok x st (fun c => kl c hp st)
          have h := e1.symm.trans h
          have hi := (zx_i_iff x').mp (hi h3)
          exact hret x' hp st u w pc ls _ H locs as h hu hw hσ hS hHP (Or.inr (Or.inl ⟨by omega, xv, rfl, m1 σ b as _ hσ hV.1, ⟨_, hrt, vp_nar_int xv⟩, hdec⟩))
        · exact hV.2.elim
      · exact absurd h Bool.false_ne_true
    rcases zx_ct h with ⟨ho, h⟩ | ⟨-, h⟩
    · -- 65: ireturn of a boolean
      obtain ⟨hdec, hrt⟩ := r65 (zx_beq.mp ho)
      rcases stk with _ | ⟨x, _ | ⟨x2, rr⟩⟩
      · exact absurd h Bool.false_ne_true
      · rcases vs with _ | ⟨vx, _ | ⟨vx2, vr⟩⟩
        · exact hV.elim
        · obtain ⟨h3, h⟩ := zx_c1 h
          obtain ⟨xv, rfl⟩ := zr_int h3 hV.1
          obtain ⟨x', e1, hi, -, m1⟩ := zx_M_ok x st (fun c => cond (Nat.beq c 0 || Nat.beq c 8) (kl c hp st) false)
          have h := e1.symm.trans h
          obtain ⟨h4, h⟩ := zx_c1 h
          have hi := (zx_i_iff x').mp (hi h3)
          have hv := m1 σ b as _ hσ hV.1
          have hfit := zk_fit (sort := 1) (ty := .boolean) (Or.inr (Or.inl ⟨rfl, rfl⟩)) (show zx_fit 1 x' = true from h4) hv
          exact hret x' hp st u w pc ls _ H locs as h hu hw hσ hS hHP (Or.inr (Or.inl ⟨by omega, xv, rfl, hv, ⟨_, hrt, hfit.1⟩, hdec⟩))
        · exact hV.2.elim
      · exact absurd h Bool.false_ne_true
    rcases zx_ct h with ⟨ho, h⟩ | ⟨-, h⟩
    · -- 67: return
      obtain ⟨hdec, hrt⟩ := r67 (zx_beq.mp ho)
      rcases stk with _ | ⟨x, rr⟩
      · rcases vs with _ | ⟨vx, vr⟩
        · exact hret 75 hp st u w pc ls _ H locs as h hu hw hσ hS hHP (Or.inl ⟨rfl, rfl, hrt, hdec⟩)
        · exact hV.elim
      · exact absurd h Bool.false_ne_true
    rcases zx_ct h with ⟨ho, h⟩ | ⟨-, h⟩
    · -- 66: lreturn
      obtain ⟨hdec, hrt⟩ := r66 (zx_beq.mp ho)
      rcases stk with _ | ⟨x, _ | ⟨x2, rr⟩⟩
      · exact absurd h Bool.false_ne_true
      · rcases vs with _ | ⟨vx, _ | ⟨vx2, vr⟩⟩
        · exact hV.elim
        · obtain ⟨h3, h⟩ := zx_c1 h
          obtain ⟨xv, rfl⟩ := zr_long h3 hV.1
          have hi := (zx_2_iff x).mp h3
          exact hret x hp st u w pc ls _ H locs as h hu hw hσ hS hHP (Or.inr (Or.inr ⟨by omega, xv, rfl, hV.1, hrt, hdec⟩))
        · exact hV.2.elim
      · exact absurd h Bool.false_ne_true
    rcases zx_ct h with ⟨ho, h⟩ | ⟨-, h⟩
    · -- 71, 72: constructors
      have ho : op = 71 ∨ op = 72 := (Bool.or_eq_true_iff.mp ho).imp zx_beq.mp zx_beq.mp
      obtain ⟨hn, y2, cc2, mL2, ret2, n2, hms, hme, hpar, alt⟩ := rc (by omega) (by omega)
      have hcom : d = [n2 + 1] ∧ y2.name = "<init>" ∧ ret2 = none ∧ (Cond.methodLink y.cls (a % 65536) y2 ∈ zk_T ∨ va_Nw (.methodLinkNest y.cls (a % 65536) y2 "StubHouse") s) ∧ Cond.instanceMethod y2 ∈ zk_T ∧ decode cc pc = .ok (.invokespecial (a % 65536), 3) := by
        rcases alt with ⟨e, -⟩ | ⟨-, k1, k2, k3, k4, k5, k6⟩ | ⟨-, k1, k2, k3, k4, k5, k6⟩ | ⟨e, -⟩ | ⟨e, -⟩
        · omega
        · exact ⟨k1, k2, k3, Or.inl k4, k5, k6⟩
        · exact ⟨k1, k2, k3, Or.inr (k4 s hN), k5, k6⟩
        · omega
        · omega
      obtain ⟨rfl, hini, rfl, hlk, hinst, hdec⟩ := hcom
      obtain ⟨pre, rest, rfl, hlen, h⟩ := zx_take_ok (show zx_take (n2 + 1) stk [] _ = true from h)
      rw [List.append_nil] at h
      obtain ⟨vpre, vrest, rfl, hpre, hrest⟩ := zr_2_split hV
      have hav := zr_2_rev hpre
      have hlv : vpre.length = n2 + 1 := by rw [← zr_2_len hpre]; exact hlen
      generalize hca : pre.reverse = cargs at h hav
      rcases cargs with _ | ⟨c0, ctl⟩
      · exact absurd h Bool.false_ne_true
      obtain ⟨h3, h⟩ := zx_c1 h
      generalize hva : vpre.reverse = av at hav
      rcases av with _ | ⟨v0, As⟩
      · exact hav.elim
      obtain ⟨qa, hqa, rfl⟩ := (zr_3 (zx_beq.mp h3)).mp hav.1
      have hvp : vpre = As.reverse ++ [.ref qa] := by rw [← List.reverse_reverse vpre, hva, List.reverse_cons]
      have hAl : As.length = n2 := by
        have : (Value.ref qa :: As).length = n2 + 1 := by rw [← hva, List.length_reverse]; exact hlv
        exact Nat.succ.inj this
      refine zx_do ihn hM h hro hCx hR hsc hret hks hσ hS hHP ⟨lv', hl, hL⟩ hrest hav hn ?_
      intro y3 cc3 mL3 ret3 bu bw rm Qc hms3 hmet e1 e2 e3 e4 e5 e6 e7 hbl hpc
      rw [hms] at hms3
      cases hms3
      have hG : GoodIn zk_T (Cond.code y2 cc2 mL2 none :: zk_T) := zk_good (fun w h => h) (fun w hw => by rcases List.mem_cons.mp hw with rfl | hw; exact hme.1; exact hw)
      rcases hlk with hlink | hlink
      · exact va_runI ⟨hx, hb, hml, hown, hts⟩ hmet ⟨callB_of n2 hts hG rfl e1 e2 (hts _ hme.2.2.1) (hts _ hlink) ⟨hme.2.2.2.1, hme.2.2.2.2, hpar⟩ ⟨e3, e4⟩, hini, hts _ hinst⟩ ⟨hbl, hpc⟩ rfl hAl hl.1 (by rw [hvp]; simp) (lv_room e7) hdec ⟨e5, e6⟩
      · exact va_runIN ⟨hx, hb, hml, hown, hts⟩ hmet ⟨va_cnB n2 hts hG rfl e1 e2 hlink (hts _ hme.2.2.1) ⟨hme.2.2.2.1, hme.2.2.2.2, hpar⟩ ⟨e3, e4⟩, hini, hts _ hinst⟩ ⟨hbl, hpc⟩ rfl hAl hl.1 (by rw [hvp]; simp) (lv_room e7) hdec ⟨e5, e6⟩
    rcases zx_ct h with ⟨ho, h⟩ | ⟨-, h⟩
    · -- 74: an inherited method
      have ho := zx_beq.mp ho
      obtain ⟨hn, y2, cc2, mL2, ret2, n2, hms, hme, hpar, alt⟩ := rc (by omega) (by omega)
      rcases alt with ⟨e, -⟩ | ⟨e, -⟩ | ⟨e, -⟩ | ⟨e, -⟩ | ⟨-, t, t', q, q', x, rfl, ht16, ht16', hvw, hvw', hy2, hlink, hsame, hsel, hsel', hinst, hdec⟩
      · exact absurd (ho.symm.trans e) (by decide)
      · exact absurd (ho.symm.trans e) (by decide)
      · exact absurd (ho.symm.trans e) (by decide)
      · exact absurd (ho.symm.trans e) (by decide)
      · obtain ⟨pre, rest, rfl, hlen, h⟩ := zx_take_ok (show zx_take (n2 + 1) stk [] _ = true from h)
        rw [List.append_nil] at h
        obtain ⟨vpre, vrest, rfl, hpre, hrest⟩ := zr_2_split hV
        have hav := zr_2_rev hpre
        have hlv : vpre.length = n2 + 1 := by rw [← zr_2_len hpre]; exact hlen
        generalize hca : pre.reverse = cargs at h hav
        rcases cargs with _ | ⟨c0, ctl⟩
        · exact absurd h Bool.false_ne_true
        obtain ⟨h3, h⟩ := zx_c1 h
        generalize hva : vpre.reverse = av at hav
        rcases av with _ | ⟨v0, As⟩
        · exact hav.elim
        obtain ⟨qa, hqa, rfl⟩ := (zr_3 (zx_beq.mp h3)).mp hav.1
        obtain ⟨tys, ws, hK, hW, hP, hD⟩ := id hHP
        obtain ⟨e0, he, hE⟩ := zr_W_get hW hqa
        generalize zx_G hp (c0 / 8) = E at h hE
        obtain ⟨t2, n0, fs, es⟩ := E
        obtain ⟨h4, h⟩ := zx_c1 h
        have h4 : ∃ qq : vw_C, 16 ≤ t2 ∧ vwCl[t2 - 16]? = some qq ∧ Cond.selects qq.1 x y2 ∈ zk_T := by
          rcases Bool.or_eq_true_iff.mp h4 with g | g
          · rw [zx_beq.mp g]; exact ⟨q, ht16, hvw, hsel⟩
          · rw [zx_beq.mp g]; exact ⟨q', ht16', hvw', hsel'⟩
        obtain ⟨qq, ht2, hvq, hsq⟩ := h4
        have hdx : y2.desc = x.desc := by rw [hy2]
        have hvp : vpre = As.reverse ++ [.ref qa] := by rw [← List.reverse_reverse vpre, hva, List.reverse_cons]
        have hAl : As.length = n2 := by
          have : (Value.ref qa :: As).length = n2 + 1 := by rw [← hva, List.length_reverse]; exact hlv
          exact Nat.succ.inj this
        refine zx_do ihn hM h hro hCx hR hsc hret hks hσ hS hHP ⟨lv', hl, hL⟩ hrest hav hn ?_
        intro y3 cc3 mL3 ret3 bu bw rm Qc hms3 hmet e1 e2 e3 e4 e5 e6 e7 hbl hpc
        rw [hms] at hms3
        cases hms3
        have hin : ∀ w ∈ va_wsU y.cls (a % 65536) qq.1 y2.cls x y2 (Cond.code y2 cc2 mL2 ret2 :: zk_T), w ∈ zk_T := by
          intro w hw
          simp only [va_wsU, List.cons_append, List.nil_append, List.mem_cons] at hw
          rcases hw with rfl | rfl | rfl | rfl | rfl | rfl | hw
          · exact hlink
          · exact hsame
          · exact hsq
          · exact hinst
          · exact hme.2.2.1
          · exact hme.1
          · exact hw
        have hcw := va_cwU (R := R) (rm := rm) (mc := bu) (ms := bw) n2 hts (zk_good (fun w h => h) hin) rfl e1 e2 hy2 ⟨hme.2.2.2.1, hme.2.2.2.2, hdx ▸ hpar⟩ ⟨e3, e4⟩
        rcases hE with ⟨g16, fs', rfl, -⟩ | ⟨g16, -⟩
        · exact va_runU ⟨hx, hb, hml, hown, hts⟩ hmet hcw ⟨hbl, va_recv hK hP (ci := t2 - 16) (q0 := c0 / 8) hvq he, hpc⟩ rfl hAl hl.1 (by rw [hvp]; simp) (lv_room e7) hdec ⟨e5, e6⟩
        · exact absurd (show t2 < 16 from g16) (by omega)
    rcases zx_ct h with ⟨ho, h⟩ | ⟨-, h⟩
    · -- 75: Object's constructor
      obtain ⟨hn, hlink, hinst, hcode, hdec⟩ := r75 (zx_beq.mp ho)
      rcases stk with _ | ⟨x, rr⟩
      · exact absurd h Bool.false_ne_true
      rcases vs with _ | ⟨vx, vr⟩
      · exact hV.elim
      obtain ⟨h3, h⟩ := zx_c1 h
      have g1 := zx_an h3
      have g2 := zx_an g1.2
      have g3 := zx_an g2.2
      obtain ⟨qa, hqa, rfl⟩ := (zr_3 (zx_beq.mp g1.1)).mp hV.1
      have q1 := zx_ble.mp g2.1
      have q2 := zx_ble.mp g3.1
      have q3 := zx_ble.mp g3.2
      refine W.objInit hx hb hown (hts _ hlink) (hts _ hinst) (hts _ hcode) rfl (by rw [hml]; exact hl.1) rfl hdec (by rw [hR.1]; exact q1) ?_ ?_
      · have := lv_room (m := m) (pc := pc) (ls := ls) (rest := Value.ref qa :: vr) (show (vr.map fun v => v.category).sum ≤ 8 by rw [zx_cat_sum hV.2]; exact q3)
        rw [hR.2.1]
        omega
      · exact W.eq (g2 := F0 m nxt ls vr) (by rw [hn]) (go nxt rr st vr h ⟨hσ, hS, as, hHP, ⟨lv', hl, hL⟩, hV.2⟩)
    rcases zx_ct h with ⟨ho, h⟩ | ⟨-, h⟩
    · -- 76: arraycopy
      obtain ⟨hn, ha, hlink, hnat, hstat, hini, hdec⟩ := r76 (zx_beq.mp ho)
      obtain ⟨h3, h⟩ := zx_c1 h
      obtain ⟨q1, q2⟩ := zx_an h3
      exact zo_copy hx hb hml hts hown hlink hnat hstat hini (by rw [hR.1]; exact zx_ble.mp q1) (by rw [hR.2.1]; exact zx_ble.mp q2) hdec hn h r kk
    rcases zx_ct h with ⟨ho, h⟩ | ⟨-, h⟩
    · -- 77: a name's check
      obtain ⟨hn, y2, cc2, mL2, hm8, hnmk, hme, hpar, hlink, hstat, hdec⟩ := r77 (zx_beq.mp ho)
      rcases stk with _ | ⟨x, rr⟩
      · exact absurd h Bool.false_ne_true
      rcases vs with _ | ⟨vx, vr⟩
      · exact hV.elim
      obtain ⟨h3, h⟩ := zx_c1 h
      have g1 := zx_an h3
      have g2 := zx_an g1.2
      have g3 := zx_an g2.2
      have g4 := zx_an g3.2
      have g5 := zx_an g4.2
      have q0 := zx_beq.mp g1.1
      have q1 := zx_ble.mp g2.1
      have q2 := zx_blt.mp g3.1
      have q3 := zx_ble.mp g4.1
      have q4 := zx_ble.mp g5.1
      have q5 := zx_ble.mp g5.2
      obtain ⟨xv, rfl, hxv⟩ := (zr_7 q0).mp hV.1
      have hxv := hxv (by omega)
      have hrun := va_runS (l := l) (e := e) (below := below) (meth := meth) (H := H) (locs := locs) (cells := u) (slots := w) (rest := vr) (As := [.long xv]) (g := F0 m pc ls (.long xv :: vr)) (R := R) ⟨hx, hb, hml, hown, hts⟩ (hnmk l xv) ⟨callB_of 1 hts (zk_good (fun w h => h) (fun w hw => by rcases List.mem_cons.mp hw with rfl | hw; exact hme.1; exact hw)) rfl rfl rfl (hts _ hme.2.2.1) (hts _ hlink) ⟨hme.2.2.2.1, hme.2.2.2.2, hpar⟩ ⟨by rw [hR.1]; exact q3, by rw [hR.2.1]; show 8 + (mL2 + 11) + 30 ≤ lo; omega⟩, hts _ hstat⟩ ⟨fun _ _ _ _ q => q, fun _ _ _ => ⟨rfl, trivial⟩⟩ rfl rfl hl.1 rfl (lv_room (by rw [zx_cat_sum hV.2]; exact q5)) hdec ⟨by rw [hR.2.2.1]; exact hu, by rw [hR.2.2.2]; exact hw⟩
      intro T hT X
      obtain ⟨v, st₀, t, T', L, h0, X', hLL, e1, e2, ⟨k1, k2⟩, stp⟩ := hrun T hT X
      cases k1
      have hLn : L = [] := by
        rcases L with _ | ⟨x0, L⟩
        · rfl
        · exact (hLL x0 List.mem_cons_self).elim
      subst hLn
      rw [List.append_nil] at X'
      rw [zx_F_eq] at h
      have hid : x / 8 - 900 < 300 := by omega
      have hdv : zr_d σ (x / 8 - 900) = if zr_nm xv = true then 1 else 0 := by
        unfold zr_d
        rw [if_neg (by omega), show 1000 + (x / 8 - 900 - 100) = x / 8 by omega, hxv]
      have hbn : 2147483648 ≤ zr_n σ (x / 8 - 900) ∧ zr_n σ (x / 8 - 900) ≤ 2147483649 := by
        rw [zr_n_s hid, hdv]
        split
        · exact ⟨by decide, by decide⟩
        · exact ⟨by decide, by decide⟩
      have hzv : zr σ b as (8 * (x / 8 - 900) + 4) (.int (if zr_nm xv = true then 1 else 0)) := by
        have e8 : (8 * (x / 8 - 900) + 4) / 8 = x / 8 - 900 := by omega
        have e4 : (8 * (x / 8 - 900) + 4) % 8 = 4 := by omega
        refine (zr_4 e4).mpr ?_
        rw [e8, hdv]
      obtain ⟨lw, hg, e3, -⟩ := zx_V_ok (x / 8 - 900) (fun lw hg => cond (Nat.ble 2147483648 lw && Nat.ble hg 2147483649) (zx_F (8 * (x / 8 - 900) + 4) (fun v => zx_run ms pr n i tb fr lo cu cw sc sp kl ks nxt lv (v :: rr) hp st u w)) (zx_F (8 * (x / 8 - 900) + 4) (fun v => zx_run ms pr n i tb fr lo cu cw sc sp kl ks nxt lv (v :: rr) hp ((x / 8 - 900, 2147483648, 2147483649) :: st) u w))) st
      rw [e3] at h
      have hgo : W p l e R s m args below meth c H locs u w Q (F0 m nxt ls (.int (if zr_nm xv = true then 1 else 0) :: vr)) := by
        rcases zx_ct h with ⟨-, h⟩ | ⟨-, h⟩
        · rw [zx_F_eq] at h
          exact go nxt _ st _ h ⟨hσ, hS, as, hHP, ⟨lv', hl, hL⟩, hzv, hV.2⟩
        · rw [zx_F_eq] at h
          exact go nxt _ _ _ h ⟨zr_in_cons hσ hbn.1 hbn.2, hS, as, hHP, ⟨lv', hl, hL⟩, hzv, hV.2⟩
      obtain ⟨t2, a1, b1⟩ := hgo T' (by rw [e1, k2, h0]) X'
      exact ⟨t2, stp t2 (by rw [hn] at a1; exact a1), b1⟩
    rcases zx_ct h with ⟨ho, h⟩ | ⟨-, h⟩
    · -- 78: the script's ints
      obtain ⟨hn, hdec⟩ := r78 (zx_beq.mp ho)
      rcases stk with _ | ⟨x, _ | ⟨x2, rr⟩⟩
      · exact absurd h Bool.false_ne_true
      · exact absurd h Bool.false_ne_true
      rcases vs with _ | ⟨vx, _ | ⟨vx2, vr⟩⟩
      · exact hV.elim
      · exact hV.2.elim
      obtain ⟨h3, h⟩ := zx_c1 h
      have g1 := zx_an h3
      have g2 := zx_an g1.2
      have q0 := zx_beq.mp g1.1
      have q1 := zx_beq.mp g2.1
      have q2 := zx_blt.mp g2.2
      obtain ⟨L, xs, rfl, hL99, hX, hbl, hbA, hxs⟩ := hsc (by omega)
      obtain ⟨hv1, hv2, hv3⟩ := hV
      have hv1 := (zr_0 q1).mp hv1
      subst hv1
      rw [q0] at hv2
      rcases (zr_2' rfl).mp hv2 with ⟨q, -⟩ | ⟨-, rfl⟩
      · exact absurd q (by decide)
      rw [zx_F_eq] at h
      have hlt : x / 8 < L := by omega
      refine va_sld hx hb hX hbl hbA hS (vp_in_nI hlt (by omega)) hdec (hn ▸ go nxt _ st _ h ⟨hσ, hS, as, hHP, ⟨lv', hl, hL⟩, ?_, hv3⟩)
      refine (zr_4 (by omega)).mpr ?_
      rw [nI_clamp (by omega), ← hxs _ hlt, show (x + 4) / 8 = x / 8 by omega, zr_d_s (by omega)]
    rcases zx_ct h with ⟨ho, h⟩ | ⟨-, h⟩
    · -- 79: the script's length
      obtain ⟨hn, hdec⟩ := r79 (zx_beq.mp ho)
      rcases stk with _ | ⟨x, rr⟩
      · exact absurd h Bool.false_ne_true
      rcases vs with _ | ⟨vx, vr⟩
      · exact hV.elim
      obtain ⟨h3, h⟩ := zx_c1 h
      have g1 := zx_an h3
      have q0 := zx_beq.mp g1.1
      have q2 := zx_blt.mp g1.2
      obtain ⟨L, xs, rfl, hL99, hX, hbl, hbA, hxs⟩ := hsc (by omega)
      obtain ⟨hv2, hv3⟩ := hV
      rw [q0] at hv2
      rcases (zr_2' rfl).mp hv2 with ⟨q, -⟩ | ⟨-, rfl⟩
      · exact absurd q (by decide)
      rw [zx_F_eq] at h
      refine va_slen hx hb hX hbl hbA hS hdec (hn ▸ go nxt _ st _ h ⟨hσ, hS, as, hHP, ⟨lv', hl, hL⟩, ?_, hv3⟩)
      refine (zr_0 (by omega)).mpr ?_
      rw [Nat.mul_div_cancel_left _ (by decide)]
      rfl
    rcases zx_ct h with ⟨ho, h⟩ | ⟨-, h⟩
    · -- 80: a loop that changes one number alone
      obtain ⟨rfl, hb2, d1, d2, d3, d4, d5⟩ := r80 (zx_beq.mp ho)
      rcases d with _ | ⟨kc, _ | ⟨slot, _ | ⟨d3', d'⟩⟩⟩
      · exact absurd h Bool.false_ne_true
      · exact absurd h Bool.false_ne_true
      · rcases stk with _ | ⟨x, rr⟩
        · rcases vs with _ | ⟨vx, vr⟩
          · have h : zx_F (zx_A lv 74 1) (fun x1 => zx_F (zx_A lv 74 0) (fun c => cond (Nat.beq (x1 % 8) 4 && (Nat.blt (x1 / 8) 98 && (Nat.beq (c % 8) 3 && (Nat.beq (zx_A lv 74 2) 0 && st.all (fun q => Nat.blt q.1 98))))) (match zx_G hp kc with | (t, n0, fs, es) => cond (Nat.blt kc (zx_hn hp) && (Nat.ble 16 t && (zx_i (zx_N 74 fs slot) && Nat.blt slot (zx_Z fs)))) (zx_S fs slot 6 (fun fs2 => zx_H hp kc (t, n0, fs2, es) (fun hp2 => and (zx_clean hp2) (and (zx_run ms pr n i tb fr lo cu cw sc nxt (fun _ _ _ => false) (zx_bk c x1 nxt u w hp2) b2 [(2, 788), (0, c), (1, x1)] [] hp2 st u w) (zx_run ms pr n i tb fr lo cu cw sc sp kl ks a [(2, 6), (0, c), (1, x1)] [] hp2 st u w))))) false) false)) = true := h
            rw [zx_F_eq, zx_F_eq] at h
            obtain ⟨g, h⟩ := zx_c1 h
            have a1 := zx_an g
            have a2 := zx_an a1.2
            have a3 := zx_an a2.2
            have a4 := zx_an a3.2
            have g1 := zx_beq.mp a1.1
            have g2 := zx_blt.mp a2.1
            have g3 := zx_beq.mp a3.1
            have g4 := zx_beq.mp a4.1
            have g5 : ∀ q ∈ st, q.1 < 98 := fun q hq => zx_blt.mp (List.all_eq_true.mp a4.2 q hq)
            obtain ⟨v1, m1, z1⟩ := zr_LV_get (fun q => by rw [q] at g1; exact absurd g1 (by decide)) hL (rfl : zx_A lv 74 1 = _)
            obtain ⟨v0, m0, z0⟩ := zr_LV_get (fun q => by rw [q] at g3; exact absurd g3 (by decide)) hL (rfl : zx_A lv 74 0 = _)
            obtain ⟨v2, m2, z2⟩ := zr_LV_get (by decide) hL g4
            obtain ⟨qa, hqa, rfl⟩ := (zr_3 g3).mp z0
            obtain ⟨X, hXe⟩ : ∃ X, v1 = .int X := ⟨_, (zr_4 g1).mp z1⟩
            subst hXe
            have z2 := (zr_0 rfl).mp z2
            obtain ⟨tys, ws, hK, hW, hP, hD⟩ := hHP
            have hkc : kc < hp.1 := by
              generalize zx_G hp kc = E at h
              obtain ⟨t, n0, fs, es⟩ := E
              obtain ⟨g, -⟩ := zx_c1 h
              exact zx_blt.mp (zx_an g).1
            obtain ⟨qk, ek, hqk, hek, hEk⟩ := hW.2.2.1 kc hkc
            have hne : (zx_G hp kc).1 ≠ 0 := by
              rcases hEk with ⟨g, -⟩ | ⟨-, g, -⟩ <;> omega
            generalize hGd : zx_G hp kc = E at h hEk
            obtain ⟨t, n0, fs, es⟩ := E
            obtain ⟨g, h⟩ := zx_c1 h
            have c1 := zx_an g
            have c2 := zx_an c1.2
            have c3 := zx_an c2.2
            have b1 := zx_ble.mp c2.1
            have b2' := c3.1
            rw [zx_S_eq] at h
            obtain ⟨hp', e3, zz2, zz3⟩ := zx_H_ok hp kc (t, n0, fs.set slot 6, es) (fun hp2 => and (zx_clean hp2) (and (zx_run ms pr n i tb fr lo cu cw sc nxt (fun _ _ _ => false) (zx_bk (zx_A lv 74 0) (zx_A lv 74 1) nxt u w hp2) b2 [(2, 788), (0, zx_A lv 74 0), (1, zx_A lv 74 1)] [] hp2 st u w) (zx_run ms pr n i tb fr lo cu cw sc sp kl ks a [(2, 6), (0, zx_A lv 74 0), (1, zx_A lv 74 1)] [] hp2 st u w))) hne
            rw [e3] at h
            obtain ⟨hcl, h⟩ := zx_an h
            obtain ⟨hbody, hexit⟩ := zx_an h
            rcases hEk with ⟨-, fs', rfl, hfs⟩ | ⟨g, -⟩
            · have hW2 : zr_W σ b as tys hp' ws := by
                have hslot := zx_N_some (rfl : zx_N 74 fs slot = _) (fun q => by rw [q] at b2'; exact absurd b2' (by decide))
                obtain ⟨vv, f1, f2⟩ := zr_2_get hfs hslot
                obtain ⟨xv, rfl⟩ := zr_int b2' f2
                have hfs2 : zr_2 (zr σ b as) (fs.set slot 6) fs' := by
                  have h6 : zr σ b as 6 (.int xv) := zr_any
                  have hs := zr_2_set (i := slot) h6 hfs
                  rw [show fs'.set slot (.int xv) = fs' from by
                    apply List.ext_getElem?
                    intro j
                    by_cases hj : slot = j
                    · subst hj
                      rw [List.getElem?_set_self (List.getElem?_eq_some_iff.mp f1).1, f1]
                    · rw [List.getElem?_set_ne hj]] at hs
                  exact hs
                have hw2 := zr_W_set (e := .inr (t - 16, fs')) hW hqk zz2 zz3 (Or.inl ⟨b1, fs', rfl, hfs2⟩)
                rw [show ws.set kc (qk, .inr (t - 16, fs')) = ws from by
                  apply List.ext_getElem?
                  intro j
                  by_cases hj : kc = j
                  · subst hj
                    rw [List.getElem?_set_self (List.getElem?_eq_some_iff.mp hek).1, hek]
                  · rw [List.getElem?_set_ne hj]] at hw2
                exact hw2
              have hl3 : lv_has ls 3 [(2, .int (nI 0)), (0, .ref qa), (1, .int X)] := by
                refine ⟨hl.1, hl.2.1, fun q hq => ?_⟩
                simp only [List.mem_cons, List.not_mem_nil, or_false] at hq
                rcases hq with rfl | rfl | rfl
                · have := hl.2.2 _ m2; rw [z2] at this; exact this
                · exact hl.2.2 _ m0
                · exact hl.2.2 _ m1
              exact zx_loop ihs hro hCx hR hu hw hsc hret hks hσ g5 g1 g2 g3 hcl hbody hexit hb2 d1 d2 d3 d4 d5 (X.toInt - (nI 0).toInt).toNat (nI 0) qa H locs ls as (by omega) hS ⟨tys, ws, hK, hW2, hP, hD⟩ hl3 z0 z1
            · exact absurd (show t < 16 from g) (by omega)
          · exact hV.elim
        · exact absurd h Bool.false_ne_true
      · exact absurd h Bool.false_ne_true
    · exact absurd h Bool.false_ne_true
end
section
/-- the tables by pieces: a word's place is 400 times its piece and its place there -/
def zk_tab : List (List Cond) := [tables_1_1, tables_1_2, tables_1_3, tables_1_4, tables_1_5, tables_1_6, tables_1_7, tables_1_8, tables_1_9, k2_sels lw_privs_1, k2_sels lw_privs_2, k2_sels lw_privs_3, k2_sels lw_privs_4, k2_sels lw_privs_5, k2_sels lw_privs_6, k2_sels lw_privs_7, k2_sels lw_privs_8, k2_sels lw_privs_9, k2_sels lw_privs_10]
theorem zk_tab_in : ∀ l ∈ zk_tab, ∀ w ∈ l, w ∈ lw_tbl := by
  intro l hl w hw
  have e : lw_tbl = k2_sels (lw_privs_1 ++ (lw_privs_2 ++ (lw_privs_3 ++ (lw_privs_4 ++ (lw_privs_5 ++ (lw_privs_6 ++ (lw_privs_7 ++ (lw_privs_8 ++ (lw_privs_9 ++ lw_privs_10))))))))) ++ (tables_1_1 ++ (tables_1_2 ++ (tables_1_3 ++ (tables_1_4 ++ (tables_1_5 ++ (tables_1_6 ++ (tables_1_7 ++ (tables_1_8 ++ tables_1_9)))))))) := rfl
  rw [e]
  unfold k2_sels
  simp only [List.map_append, List.mem_append]
  simp only [zk_tab, k2_sels, List.mem_cons, List.not_mem_nil, or_false] at hl
  rcases hl with rfl | rfl | rfl | rfl | rfl | rfl | rfl | rfl | rfl | rfl | rfl | rfl | rfl | rfl | rfl | rfl | rfl | rfl | rfl <;> simp only [hw, true_or, or_true]
noncomputable def zk_h (n : Nat) : Cond := zx_N Cond.tt (zx_N [] zk_tab (n / 400)) (n % 400)
def zk_is (w : Cond) : Bool := match w with | .tt => false | _ => true
theorem zk_h_in {n : Nat} {w : Cond} (h : zk_h n = w) (ht : zk_is w = true) (hg : goodWord w = true) : w ∈ zk_T := by
  refine zk_mem ?_ hg
  have hne : w ≠ Cond.tt := fun q => by rw [q] at ht; exact absurd ht (by decide)
  have h1 := zx_N_some h hne
  have hl : zx_N [] zk_tab (n / 400) ≠ [] := fun q => by rw [q] at h1; simp at h1
  have h2 := zx_N_some (rfl : zx_N [] zk_tab (n / 400) = _) hl
  exact zk_tab_in _ (List.mem_of_getElem? h2) _ (List.mem_of_getElem? h1)
theorem zk_h_eq {n : Nat} {w : Cond} (h : decide (zk_h n = w) = true) (ht : zk_is w = true) (hg : goodWord w = true) : w ∈ zk_T := zk_h_in (of_decide_eq_true h) ht hg
abbrev zkCK : Type := MethodName → ByteArray → Nat → Nat → Nat → Nat → Nat → List Nat → Bool
def zk_CO (ck : zkCK) (P : zkPT) : Prop := ∀ y cc nL pc a b nxt d, ck y cc nL pc a b nxt d = true → P y cc nL pc a b nxt d
noncomputable def zc_get : zkCK := fun y cc _ pc a b nxt d => d.all (fun t => Nat.ble 16 t && (match vwCl[t - 16]? with
    | some (_, T, N) => Nat.blt b N && (match zk_h (a / 65536 % 65536) with
      | .fieldLink o i r n ds => decide (o = y.cls ∧ i = a % 65536 ∧ n = (T b).2.1 ∧ ds = (T b).2.2.1) && (decide ((T b).1 = r) || decide (zk_h (a / 4294967296) = .sameField r (T b).1 (T b).2.1 (T b).2.2.1))
      | _ => false)
    | none => false)) && decide (decode cc pc = .ok (.getfield (a % 65536), 3) ∧ nxt = pc + 3)
theorem zc_get_ok : zk_CO zc_get zp_get := by
  intro y cc nL pc a b nxt d h
  obtain ⟨h1, h2⟩ := zx_an h
  obtain ⟨h3, h4⟩ := of_decide_eq_true h2
  refine ⟨fun t ht => ?_, h3, h4⟩
  have h5 := List.all_eq_true.mp h1 t ht
  obtain ⟨h6, h7⟩ := zx_an h5
  refine ⟨zx_ble.mp h6, ?_⟩
  cases hv : vwCl[t - 16]? with
  | none => rw [hv] at h7; exact absurd h7 Bool.false_ne_true
  | some q =>
    obtain ⟨C, T, N⟩ := q
    rw [hv] at h7
    obtain ⟨h8, h9⟩ := zx_an h7
    cases hw : zk_h (a / 65536 % 65536) with
    | fieldLink o i r n ds =>
      rw [hw] at h9
      obtain ⟨g1, g2⟩ := zx_an h9
      obtain ⟨rfl, rfl, rfl, rfl⟩ := of_decide_eq_true g1
      refine ⟨C, T, N, r, rfl, zx_blt.mp h8, zk_h_in hw rfl rfl, ?_⟩
      rcases Bool.or_eq_true_iff.mp g2 with q | q
      · exact Or.inl (of_decide_eq_true q)
      · exact Or.inr (zk_h_eq q rfl rfl)
    | _ => rw [hw] at h9; exact absurd h9 Bool.false_ne_true
def zk_sortB (sort : Nat) (ty : FieldType) : Bool := match ty with | .int => Nat.beq sort 0 | .boolean => Nat.beq sort 1 | .long => Nat.beq sort 2 | .object _ => Nat.beq sort 3 | .array _ => Nat.beq sort 3 | _ => false
theorem zk_sortB_ok {sort : Nat} {ty : FieldType} (h : zk_sortB sort ty = true) : zk_sort sort ty := by
  cases ty with
  | int => exact Or.inl ⟨zx_beq.mp h, rfl⟩
  | boolean => exact Or.inr (Or.inl ⟨zx_beq.mp h, rfl⟩)
  | long => exact Or.inr (Or.inr (Or.inl ⟨zx_beq.mp h, rfl⟩))
  | object n => exact Or.inr (Or.inr (Or.inr ⟨zx_beq.mp h, Or.inl ⟨n, rfl⟩⟩))
  | array t => exact Or.inr (Or.inr (Or.inr ⟨zx_beq.mp h, Or.inr ⟨t, rfl⟩⟩))
  | _ => exact absurd h Bool.false_ne_true
noncomputable def zc_putG (fin : Bool) : zkCK := fun y cc _ pc a b nxt d => d.all (fun t => Nat.ble 16 t && (match vwCl[t - 16]? with
    | some (_, T, N) => Nat.blt (b % 64) N && ((match zk_h (a / 65536 % 65536) with
      | .fieldLink o i r n ds => decide (o = y.cls ∧ i = a % 65536 ∧ n = (T (b % 64)).2.1 ∧ ds = (T (b % 64)).2.2.1) && (decide ((T (b % 64)).1 = r) || decide (zk_h (a / 4294967296) = .sameField r (T (b % 64)).1 (T (b % 64)).2.1 (T (b % 64)).2.2.1))
      | _ => false) && (decide ((T (b % 64)).2.2.2 = fin) && ((!fin || decide ((T (b % 64)).1 = y.cls)) && (match parseFieldDescriptor (T (b % 64)).2.2.1 with | some ty => zk_sortB (b / 64 % 4) ty | none => false))))
    | none => false)) && (decide (decode cc pc = .ok (.putfield (a % 65536), 3) ∧ nxt = pc + 3) && (!fin || decide (y.name = "<init>")))
theorem zc_putG_ok (fin : Bool) {y : MethodName} {cc : ByteArray} {nL pc a b nxt : Nat} {d : List Nat} (h : zc_putG fin y cc nL pc a b nxt d = true) : zk_put fin y.cls (a % 65536) b d ∧ (fin = true → y.name = "<init>") ∧ decode cc pc = .ok (.putfield (a % 65536), 3) ∧ nxt = pc + 3 := by
  obtain ⟨h1, h2⟩ := zx_an h
  obtain ⟨h2, h2f⟩ := zx_an h2
  obtain ⟨h3, h4⟩ := of_decide_eq_true h2
  refine ⟨fun t ht => ?_, fun q => ?_, h3, h4⟩
  · have h5 := List.all_eq_true.mp h1 t ht
    obtain ⟨h6, h7⟩ := zx_an h5
    refine ⟨zx_ble.mp h6, ?_⟩
    cases hv : vwCl[t - 16]? with
    | none => rw [hv] at h7; exact absurd h7 Bool.false_ne_true
    | some q =>
      obtain ⟨C, T, N⟩ := q
      rw [hv] at h7
      obtain ⟨h8, h9⟩ := zx_an h7
      obtain ⟨h9, k1⟩ := zx_an h9
      obtain ⟨k1, k2⟩ := zx_an k1
      obtain ⟨k2, k3⟩ := zx_an k2
      cases hw : zk_h (a / 65536 % 65536) with
      | fieldLink o i r n ds =>
        rw [hw] at h9
        obtain ⟨g1, g2⟩ := zx_an h9
        obtain ⟨rfl, rfl, rfl, rfl⟩ := of_decide_eq_true g1
        refine ⟨C, T, N, r, rfl, zx_blt.mp h8, zk_h_in hw rfl rfl, ?_, of_decide_eq_true k1, fun q => ?_, ?_⟩
        · rcases Bool.or_eq_true_iff.mp g2 with q | q
          · exact Or.inl (of_decide_eq_true q)
          · exact Or.inr (zk_h_eq q rfl rfl)
        · rw [q] at k2; exact of_decide_eq_true k2
        · cases hty : parseFieldDescriptor (T (b % 64)).2.2.1 with
          | none => rw [hty] at k3; exact absurd k3 Bool.false_ne_true
          | some ty => rw [hty] at k3; exact ⟨ty, rfl, zk_sortB_ok k3⟩
      | _ => rw [hw] at h9; exact absurd h9 Bool.false_ne_true
  · rw [q] at h2f; exact of_decide_eq_true h2f
noncomputable def zc_new : zkCK := fun y cc _ pc a b nxt d => (match vwCl[b]? with
    | some (C, T, N) => decide (zk_h (a / 65536 % 65536) = .classLink y.cls (a % 65536) C) && (decide (zk_h (a / 4294967296 % 65536) = .instantiable C N) && (decide (zk_h (a / 281474976710656) = .initialized C) && (decide (d.length = N) && (d.all (fun c => (zk_df c).isSome) && (List.range N).all (fun j => decide ((parseFieldDescriptor (T j).2.2.1).map defaultValue = some ((zk_df (d.getD j 0)).getD .null)))))))
    | none => false) && decide (decode cc pc = .ok (.new (a % 65536), 3) ∧ nxt = pc + 3)
theorem zc_new_ok : zk_CO zc_new zp_new := by
  intro y cc nL pc a b nxt d h
  obtain ⟨h1, h2⟩ := zx_an h
  obtain ⟨h3, h4⟩ := of_decide_eq_true h2
  refine ⟨?_, h3, h4⟩
  cases hv : vwCl[b]? with
  | none => rw [hv] at h1; exact absurd h1 Bool.false_ne_true
  | some q =>
    obtain ⟨C, T, N⟩ := q
    rw [hv] at h1
    obtain ⟨g1, h1⟩ := zx_an h1
    obtain ⟨g2, h1⟩ := zx_an h1
    obtain ⟨g3, h1⟩ := zx_an h1
    obtain ⟨g4, h1⟩ := zx_an h1
    obtain ⟨g5, g6⟩ := zx_an h1
    exact ⟨C, T, N, hv, zk_h_eq g1 rfl rfl, zk_h_eq g2 rfl rfl, zk_h_eq g3 rfl rfl, of_decide_eq_true g4, fun c hc => List.all_eq_true.mp g5 c hc, fun j hj => of_decide_eq_true (List.all_eq_true.mp g6 j (List.mem_range.mpr hj))⟩
noncomputable def zc_ldc : zkCK := fun y cc _ pc a b nxt _ => decide (zk_h (b / 65536) = .constant y.cls (b % 65536) (nI (a / 8))) && decide (a % 8 = 0 ∧ decode cc pc = .ok (.ldc (b % 65536), 2) ∧ nxt = pc + 2)
theorem zc_ldc_ok : zk_CO zc_ldc zp_ldc := by
  intro y cc nL pc a b nxt d h
  obtain ⟨h1, h2⟩ := zx_an h
  obtain ⟨h3, h4⟩ := of_decide_eq_true h2
  exact ⟨h3, zk_h_eq h1 rfl rfl, h4⟩
noncomputable def zc_ldc2 : zkCK := fun y cc _ pc a b nxt _ => decide (zk_h (b / 65536) = .constantLong y.cls (b % 65536) (lN (a / 8))) && decide (a % 8 = 1 ∧ decode cc pc = .ok (.ldc2_w (b % 65536), 3) ∧ nxt = pc + 3)
theorem zc_ldc2_ok : zk_CO zc_ldc2 zp_ldc2 := by
  intro y cc nL pc a b nxt d h
  obtain ⟨h1, h2⟩ := zx_an h
  obtain ⟨h3, h4⟩ := of_decide_eq_true h2
  exact ⟨h3, zk_h_eq h1 rfl rfl, h4⟩
noncomputable def zc_newa : zkCK := fun _ cc _ pc a b nxt d => decide (zk_h (a / 65536) = .arrayClass (zr_ty b)) && decide (((b < 4 ∧ 0 < b ∧ d = [0]) ∨ (b = 4 ∧ d = [1])) ∧ decode cc pc = .ok (.newarray (zk_at b), 2) ∧ nxt = pc + 2)
theorem zc_newa_ok : zk_CO zc_newa zp_newa := by
  intro y cc nL pc a b nxt d h
  obtain ⟨h1, h2⟩ := zx_an h
  obtain ⟨h3, h4⟩ := of_decide_eq_true h2
  exact ⟨h3, zk_h_eq h1 rfl rfl, h4⟩
noncomputable def zc_newq : zkCK := fun y cc _ pc a b nxt d => ((Nat.beq b 5 && decide (zk_h (a / 65536) = .classLink y.cls (a % 65536) "StubHouse$Node")) || (Nat.beq b 6 && decide (zk_h (a / 65536) = .classLink y.cls (a % 65536) "StubHouse$Tape"))) && decide (d = [2] ∧ decode cc pc = .ok (.anewarray (a % 65536), 3) ∧ nxt = pc + 3)
theorem zc_newq_ok : zk_CO zc_newq zp_newq := by
  intro y cc nL pc a b nxt d h
  obtain ⟨h1, h2⟩ := zx_an h
  obtain ⟨h3, h4⟩ := of_decide_eq_true h2
  refine ⟨?_, h3, h4⟩
  rcases Bool.or_eq_true_iff.mp h1 with q | q
  · obtain ⟨q1, q2⟩ := zx_an q
    exact Or.inl ⟨zx_beq.mp q1, zk_h_eq q2 rfl rfl⟩
  · obtain ⟨q1, q2⟩ := zx_an q
    exact Or.inr ⟨zx_beq.mp q1, zk_h_eq q2 rfl rfl⟩
def zc_aload_n : zkCK := fun _ cc nL pc a b nxt d => decide (a < 4 ∧ decode cc pc = .ok (.aload_n (Fin.ofNat 4 a), 1) ∧ nxt = pc + 1)
theorem zc_aload_n_ok : zk_CO zc_aload_n zp_aload_n := by
  intro y cc nL pc a b nxt d h
  unfold zc_aload_n at h
  have h := of_decide_eq_true h
  exact h
def zc_iload_n : zkCK := fun _ cc nL pc a b nxt d => decide (a < 4 ∧ decode cc pc = .ok (.iload_n (Fin.ofNat 4 a), 1) ∧ nxt = pc + 1)
theorem zc_iload_n_ok : zk_CO zc_iload_n zp_iload_n := by
  intro y cc nL pc a b nxt d h
  unfold zc_iload_n at h
  have h := of_decide_eq_true h
  exact h
def zc_lload_n : zkCK := fun _ cc nL pc a b nxt d => decide (a < 4 ∧ decode cc pc = .ok (.lload_n (Fin.ofNat 4 a), 1) ∧ nxt = pc + 1)
theorem zc_lload_n_ok : zk_CO zc_lload_n zp_lload_n := by
  intro y cc nL pc a b nxt d h
  unfold zc_lload_n at h
  have h := of_decide_eq_true h
  exact h
def zc_aload : zkCK := fun _ cc nL pc a b nxt d => decide (decode cc pc = .ok (.aload a, 2) ∧ nxt = pc + 2)
theorem zc_aload_ok : zk_CO zc_aload zp_aload := by
  intro y cc nL pc a b nxt d h
  unfold zc_aload at h
  have h := of_decide_eq_true h
  exact h
def zc_iload : zkCK := fun _ cc nL pc a b nxt d => decide (decode cc pc = .ok (.iload a, 2) ∧ nxt = pc + 2)
theorem zc_iload_ok : zk_CO zc_iload zp_iload := by
  intro y cc nL pc a b nxt d h
  unfold zc_iload at h
  have h := of_decide_eq_true h
  exact h
def zc_lload : zkCK := fun _ cc nL pc a b nxt d => decide (decode cc pc = .ok (.lload a, 2) ∧ nxt = pc + 2)
theorem zc_lload_ok : zk_CO zc_lload zp_lload := by
  intro y cc nL pc a b nxt d h
  unfold zc_lload at h
  have h := of_decide_eq_true h
  exact h
def zc_istore_n : zkCK := fun _ cc nL pc a b nxt d => decide (a < 4 ∧ decode cc pc = .ok (.istore_n (Fin.ofNat 4 a), 1) ∧ nxt = pc + 1 ∧ b = nL)
theorem zc_istore_n_ok : zk_CO zc_istore_n zp_istore_n := by
  intro y cc nL pc a b nxt d h
  unfold zc_istore_n at h
  have h := of_decide_eq_true h
  exact h
def zc_istore : zkCK := fun _ cc nL pc a b nxt d => decide (decode cc pc = .ok (.istore a, 2) ∧ nxt = pc + 2 ∧ b = nL)
theorem zc_istore_ok : zk_CO zc_istore zp_istore := by
  intro y cc nL pc a b nxt d h
  unfold zc_istore at h
  have h := of_decide_eq_true h
  exact h
def zc_astore_n : zkCK := fun _ cc nL pc a b nxt d => decide (a < 4 ∧ decode cc pc = .ok (.astore_n (Fin.ofNat 4 a), 1) ∧ nxt = pc + 1 ∧ b = nL)
theorem zc_astore_n_ok : zk_CO zc_astore_n zp_astore_n := by
  intro y cc nL pc a b nxt d h
  unfold zc_astore_n at h
  have h := of_decide_eq_true h
  exact h
def zc_astore : zkCK := fun _ cc nL pc a b nxt d => decide (decode cc pc = .ok (.astore a, 2) ∧ nxt = pc + 2 ∧ b = nL)
theorem zc_astore_ok : zk_CO zc_astore zp_astore := by
  intro y cc nL pc a b nxt d h
  unfold zc_astore at h
  have h := of_decide_eq_true h
  exact h
def zc_iconst : zkCK := fun _ cc nL pc a b nxt d => decide (a % 8 = 0 ∧ a / 8 < 4294967296 ∧ decode cc pc = .ok (.iconst (zx_sI (a / 8)), 1) ∧ nxt = pc + 1)
theorem zc_iconst_ok : zk_CO zc_iconst zp_iconst := by
  intro y cc nL pc a b nxt d h
  unfold zc_iconst at h
  have h := of_decide_eq_true h
  exact h
def zc_bipush : zkCK := fun _ cc nL pc a b nxt d => decide (a % 8 = 0 ∧ (Int8.ofInt (zx_sI (a / 8))).toInt32 = nI (a / 8) ∧ decode cc pc = .ok (.bipush (zx_sI (a / 8)), 2) ∧ nxt = pc + 2)
theorem zc_bipush_ok : zk_CO zc_bipush zp_bipush := by
  intro y cc nL pc a b nxt d h
  unfold zc_bipush at h
  have h := of_decide_eq_true h
  exact h
def zc_sipush : zkCK := fun _ cc nL pc a b nxt d => decide (a % 8 = 0 ∧ (Int16.ofInt (zx_sI (a / 8))).toInt32 = nI (a / 8) ∧ decode cc pc = .ok (.sipush (zx_sI (a / 8)), 3) ∧ nxt = pc + 3)
theorem zc_sipush_ok : zk_CO zc_sipush zp_sipush := by
  intro y cc nL pc a b nxt d h
  unfold zc_sipush at h
  have h := of_decide_eq_true h
  exact h
def zc_lconst : zkCK := fun _ cc nL pc a b nxt d => decide (a % 8 = 1 ∧ a / 8 < 2 ∧ decode cc pc = .ok (.lconst (Fin.ofNat 2 (a / 8)), 1) ∧ nxt = pc + 1)
theorem zc_lconst_ok : zk_CO zc_lconst zp_lconst := by
  intro y cc nL pc a b nxt d h
  unfold zc_lconst at h
  have h := of_decide_eq_true h
  exact h
def zc_icmp : zkCK := fun _ cc nL pc a b nxt d => decide ((1 ≤ b ∧ b ≤ 6) ∧ decode cc pc = .ok (.if_icmp (zx_cd b) ((a : Int) - (pc : Int)), 3) ∧ nxt = pc + 3)
theorem zc_icmp_ok : zk_CO zc_icmp zp_icmp := by
  intro y cc nL pc a b nxt d h
  unfold zc_icmp at h
  have h := of_decide_eq_true h
  exact h
def zc_if : zkCK := fun _ cc nL pc a b nxt d => decide ((1 ≤ b ∧ b ≤ 6) ∧ decode cc pc = .ok (.ifCond (zx_cd b) ((a : Int) - (pc : Int)), 3) ∧ nxt = pc + 3)
theorem zc_if_ok : zk_CO zc_if zp_if := by
  intro y cc nL pc a b nxt d h
  unfold zc_if at h
  have h := of_decide_eq_true h
  exact h
def zc_goto : zkCK := fun _ cc nL pc a b nxt d => decide (decode cc pc = .ok (.goto ((a : Int) - (pc : Int)), 3))
theorem zc_goto_ok : zk_CO zc_goto zp_goto := by
  intro y cc nL pc a b nxt d h
  unfold zc_goto at h
  have h := of_decide_eq_true h
  exact h
def zc_switch : zkCK := fun _ cc nL pc a b nxt d => decide (decode cc pc = .ok (.tableswitch ((a : Int) - pc) ((b : Int) - 2147483648) ((b : Int) - 2147483648 + d.length - 1) (d.map (fun t : Nat => (t : Int) - (pc : Int))).toArray, nxt - pc))
theorem zc_switch_ok : zk_CO zc_switch zp_switch := by
  intro y cc nL pc a b nxt d h
  unfold zc_switch at h
  have h := of_decide_eq_true h
  exact h
def zc_aald : zkCK := fun _ cc nL pc a b nxt d => decide ((4 < a ∧ a < 16) ∧ decode cc pc = .ok (.aaload, 1) ∧ nxt = pc + 1)
theorem zc_aald_ok : zk_CO zc_aald zp_aald := by
  intro y cc nL pc a b nxt d h
  unfold zc_aald at h
  have h := of_decide_eq_true h
  exact h
def zc_astq : zkCK := fun _ cc nL pc a b nxt d => decide (((a = 5 ∧ b = 20) ∨ (a = 6 ∧ b = 23)) ∧ decode cc pc = .ok (.aastore, 1) ∧ nxt = pc + 1)
theorem zc_astq_ok : zk_CO zc_astq zp_astq := by
  intro y cc nL pc a b nxt d h
  unfold zc_astq at h
  have h := of_decide_eq_true h
  exact h
def zc_op (I : Instr) : zkCK := fun _ cc _ pc _ _ nxt _ => decide (decode cc pc = .ok (I, 1) ∧ nxt = pc + 1)
theorem zc_op_ok (I : Instr) : zk_CO (zc_op I) (zp_op I) := by
  intro y cc nL pc a b nxt d h
  unfold zc_op at h
  have h := of_decide_eq_true h
  exact h
def zc_arr (kd : Nat) (I : Instr) : zkCK := fun _ cc _ pc a _ nxt _ => decide (a = kd ∧ decode cc pc = .ok (I, 1) ∧ nxt = pc + 1)
theorem zc_arr_ok (kd : Nat) (I : Instr) : zk_CO (zc_arr kd I) (zp_arr kd I) := by
  intro y cc nL pc a b nxt d h
  unfold zc_arr at h
  have h := of_decide_eq_true h
  exact h
def zc_iinc : zkCK := fun _ cc nL pc a b nxt d => match d with | [n] => decide (n < 4294967296 ∧ decode cc pc = .ok (.iinc a (zx_sI n), 3) ∧ nxt = pc + 3 ∧ b = nL) | _ => false
theorem zc_iinc_ok : zk_CO zc_iinc zp_iinc := by
  intro y cc nL pc a b nxt d h
  rcases d with _ | ⟨n, _ | ⟨n2, d⟩⟩
  · exact absurd h Bool.false_ne_true
  · exact ⟨n, rfl, of_decide_eq_true h⟩
  · exact absurd h Bool.false_ne_true
theorem zc_put_ok : zk_CO (zc_putG false) zp_put := fun _ _ _ _ _ _ _ _ h => ⟨(zc_putG_ok false h).1, (zc_putG_ok false h).2.2⟩
theorem zc_putF_ok : zk_CO (zc_putG true) zp_putF := fun _ _ _ _ _ _ _ _ h => ⟨(zc_putG_ok true h).1, (zc_putG_ok true h).2.1 rfl, (zc_putG_ok true h).2.2⟩
noncomputable def zc_props : List zkCK := [zc_aload_n, zc_iload_n, zc_get, zc_iconst, zc_iload, (zc_op .iadd), zc_icmp, zc_if, (zc_arr 1 .iaload), zc_goto, zc_iinc, zc_bipush, zc_sipush, zc_istore_n, zc_istore, (zc_putG false), (zc_arr 1 .iastore), (zc_op .imul), zc_aald, (zc_op .isub), (zc_op .i2l), (zc_op .lcmp), zc_lload_n, zc_lload, zc_ldc2, zc_lconst, (zc_op .dup), (zc_op .pop), (zc_op .dup_x1), zc_aload, zc_astore_n, zc_astore, (zc_arr 2 .baload), (zc_arr 3 .baload), (zc_arr 2 .bastore), (zc_arr 3 .bastore), (zc_arr 4 .laload), (zc_arr 4 .lastore), zc_astq, (zc_op .i2b), (zc_op .l2i), (zc_op .lshl), (zc_op .lushr), (zc_op .land), (zc_op .lor), (zc_op .iand), zc_switch, zc_new, zc_newa, zc_newq, (zc_op .arraylength), zc_ldc, (zc_putG true)]
theorem zc_props_ok : zr_2 zk_CO zc_props zk_props := ⟨zc_aload_n_ok, zc_iload_n_ok, zc_get_ok, zc_iconst_ok, zc_iload_ok, (zc_op_ok .iadd), zc_icmp_ok, zc_if_ok, (zc_arr_ok 1 .iaload), zc_goto_ok, zc_iinc_ok, zc_bipush_ok, zc_sipush_ok, zc_istore_n_ok, zc_istore_ok, zc_put_ok, (zc_arr_ok 1 .iastore), (zc_op_ok .imul), zc_aald_ok, (zc_op_ok .isub), (zc_op_ok .i2l), (zc_op_ok .lcmp), zc_lload_n_ok, zc_lload_ok, zc_ldc2_ok, zc_lconst_ok, (zc_op_ok .dup), (zc_op_ok .pop), (zc_op_ok .dup_x1), zc_aload_ok, zc_astore_n_ok, zc_astore_ok, (zc_arr_ok 2 .baload), (zc_arr_ok 3 .baload), (zc_arr_ok 2 .bastore), (zc_arr_ok 3 .bastore), (zc_arr_ok 4 .laload), (zc_arr_ok 4 .lastore), zc_astq_ok, (zc_op_ok .i2b), (zc_op_ok .l2i), (zc_op_ok .lshl), (zc_op_ok .lushr), (zc_op_ok .land), (zc_op_ok .lor), (zc_op_ok .iand), zc_switch_ok, zc_new_ok, zc_newa_ok, zc_newq_ok, (zc_op_ok .arraylength), zc_ldc_ok, zc_putF_ok, trivial⟩
end
section
/-- places of a method's words: its code, its class's 'initialized', 'instanceMethod' or 'static', 'selects' -/
abbrev zkMH : Type := List (Nat × Nat × Nat × Nat)
noncomputable def zc_meth (q : MethodName × ByteArray × Nat × Option FieldType) (h : Nat × Nat × Nat × Nat) : Bool := match q, h with
  | (y, cc, mL, ret), (h1, h2, _, _) => decide (zk_h h1 = .code y cc mL ret) && (decide (zk_h h2 = .initialized y.cls) && decide (plainName y.cls = true ∧ y.cls ≠ "java/lang/invoke/MethodHandle" ∧ y.cls ≠ "java/lang/invoke/VarHandle"))
theorem zc_meth_ok {y : MethodName} {cc : ByteArray} {mL : Nat} {ret : Option FieldType} {h : Nat × Nat × Nat × Nat} (hc : zc_meth (y, cc, mL, ret) h = true) : zk_meth y cc mL ret := by
  obtain ⟨h1, h2, h3, h4⟩ := h
  obtain ⟨g1, g⟩ := zx_an hc
  obtain ⟨g2, g3⟩ := zx_an g
  obtain ⟨k1, k2, k3⟩ := of_decide_eq_true g3
  exact ⟨zk_h_eq g1 rfl rfl, k1, zk_h_eq g2 rfl rfl, k2, k3⟩
/-- a call's row -/
noncomputable def zc_call (ms2 : zkMS) (mh : zkMH) (y : MethodName) (cc : ByteArray) (pc op a b nxt : Nat) (d : List Nat) : Bool :=
  match ms2[b]?, mh[b]? with
  | some (y2, _, _, ret2), some (_, _, h3, h4) => Nat.beq nxt (pc + 3) && (match (parseMethodDescriptor y2.desc).map (fun q => q.parameters.length) with
    | some n => cond (Nat.beq op 70) (match d with | [m, t] => Nat.beq m (n + 1) && (Nat.ble 16 t && (match vwCl[t - 16]? with | some (C, _, _) => decide (C = y2.cls) && (decide (zk_h (a / 65536) = .methodLink y.cls (a % 65536) y2) && (decide (zk_h h3 = .instanceMethod y2) && (decide (zk_h h4 = .selects y2.cls y2 y2) && decide (decode cc pc = .ok (.invokevirtual (a % 65536), 3))))) | none => false)) | _ => false)
        (cond (Nat.beq op 71) (decide (d = [n + 1] ∧ y2.name = "<init>" ∧ ret2 = none ∧ decode cc pc = .ok (.invokespecial (a % 65536), 3)) && (decide (zk_h (a / 65536) = .methodLink y.cls (a % 65536) y2) && decide (zk_h h3 = .instanceMethod y2)))
        (cond (Nat.beq op 72) (decide (d = [n + 1] ∧ y2.name = "<init>" ∧ ret2 = none ∧ decode cc pc = .ok (.invokespecial (a % 65536), 3)) && (decide (zk_h h3 = .instanceMethod y2) && (decide (y.cls = "StubHouse$Library" ∧ a % 65536 = 38 ∧ y2 = ⟨"StubHouse$Tape", "<init>", "()V"⟩) || (decide (y.cls = "StubHouse$Reader" ∧ a % 65536 = 3 ∧ y2 = ⟨"StubHouse$Drive", "<init>", "()V"⟩) || decide (y.cls = "StubHouse$Writer" ∧ a % 65536 = 3 ∧ y2 = ⟨"StubHouse$Drive", "<init>", "()V"⟩)))))
        (cond (Nat.beq op 73) (decide (d = [n] ∧ decode cc pc = .ok (.invokestatic (a % 65536), 3)) && (decide (zk_h (a / 65536) = .methodLink y.cls (a % 65536) y2) && decide (zk_h h3 = .static y2)))
        (match d with | [m, t, t'] => Nat.beq m (n + 1) && (Nat.ble 16 t && (Nat.ble 16 t' && (match zk_h (a / 65536 % 65536) with | .methodLink o i x => decide (o = y.cls ∧ i = a % 65536 ∧ y2 = ⟨y2.cls, x.name, x.desc⟩) && (decide (zk_h (a / 4294967296 % 65536) = .sameMethod x.cls y2.cls x.name x.desc) && (decide (zk_h h3 = .instanceMethod y2) && (decide (decode cc pc = .ok (.invokevirtual (a % 65536), 3)) && (match vwCl[t - 16]?, vwCl[t' - 16]? with | some (C, _, _), some (C', _, _) => decide (zk_h (a / 281474976710656 % 65536) = .selects C x y2) && decide (zk_h (a / 18446744073709551616) = .selects C' x y2) | _, _ => false)))) | _ => false))) | _ => false))))
    | none => false)
  | _, _ => false
theorem zc_call_ok {ms2 : zkMS} {mh : zkMH} (hall : ∀ (i : Nat) (y : MethodName) (cc : ByteArray) (mL : Nat) (ret : Option FieldType), ms2[i]? = some (y, cc, mL, ret) → zk_meth y cc mL ret) {Ps : List zkPT} {y : MethodName} {cc : ByteArray} {pc op a b nxt : Nat} {d : List Nat} (ho : 70 ≤ op ∧ op ≤ 74) (h : zc_call ms2 mh y cc pc op a b nxt d = true) :
    nxt = pc + 3 ∧ ∃ (y2 : MethodName) (cc2 : ByteArray) (mL2 : Nat) (ret2 : Option FieldType) (n : Nat), ms2[b]? = some (y2, cc2, mL2, ret2) ∧ zk_meth y2 cc2 mL2 ret2 ∧ (parseMethodDescriptor y2.desc).map (fun q => q.parameters.length) = some n ∧
    ((op = 70 ∧ ∃ t q, d = [n + 1, t] ∧ 16 ≤ t ∧ vwCl[t - 16]? = some q ∧ q.1 = y2.cls ∧ Cond.methodLink y.cls (a % 65536) y2 ∈ zk_T ∧ Cond.instanceMethod y2 ∈ zk_T ∧ Cond.selects y2.cls y2 y2 ∈ zk_T ∧ decode cc pc = .ok (.invokevirtual (a % 65536), 3)) ∨
     (op = 71 ∧ d = [n + 1] ∧ y2.name = "<init>" ∧ ret2 = none ∧ Cond.methodLink y.cls (a % 65536) y2 ∈ zk_T ∧ Cond.instanceMethod y2 ∈ zk_T ∧ decode cc pc = .ok (.invokespecial (a % 65536), 3)) ∨
     (op = 72 ∧ d = [n + 1] ∧ y2.name = "<init>" ∧ ret2 = none ∧ (∀ U, zk_N U → va_Nw (.methodLinkNest y.cls (a % 65536) y2 "StubHouse") U) ∧ Cond.instanceMethod y2 ∈ zk_T ∧ decode cc pc = .ok (.invokespecial (a % 65536), 3)) ∨
     (op = 73 ∧ d = [n] ∧ Cond.methodLink y.cls (a % 65536) y2 ∈ zk_T ∧ Cond.static y2 ∈ zk_T ∧ decode cc pc = .ok (.invokestatic (a % 65536), 3)) ∨
     (op = 74 ∧ ∃ (t t' : Nat) (q q' : vw_C) (x : MethodName), d = [n + 1, t, t'] ∧ 16 ≤ t ∧ 16 ≤ t' ∧ vwCl[t - 16]? = some q ∧ vwCl[t' - 16]? = some q' ∧ y2 = ⟨y2.cls, x.name, x.desc⟩ ∧ Cond.methodLink y.cls (a % 65536) x ∈ zk_T ∧ Cond.sameMethod x.cls y2.cls x.name x.desc ∈ zk_T ∧ Cond.selects q.1 x y2 ∈ zk_T ∧ Cond.selects q'.1 x y2 ∈ zk_T ∧ Cond.instanceMethod y2 ∈ zk_T ∧ decode cc pc = .ok (.invokevirtual (a % 65536), 3))) := by
  unfold zc_call at h
  cases hm : ms2[b]? with
  | none => rw [hm] at h; exact absurd h Bool.false_ne_true
  | some q =>
    obtain ⟨y2, cc2, mL2, ret2⟩ := q
    cases hh : mh[b]? with
    | none => rw [hm, hh] at h; exact absurd h Bool.false_ne_true
    | some q2 =>
      obtain ⟨h1, h2, h3, h4⟩ := q2
      rw [hm, hh] at h
      obtain ⟨g1, g⟩ := zx_an h
      cases hp : (parseMethodDescriptor y2.desc).map (fun q => q.parameters.length) with
      | none => simp only [hp] at g; exact absurd g Bool.false_ne_true
      | some n =>
        simp only [hp] at g
        refine ⟨zx_beq.mp g1, y2, cc2, mL2, ret2, n, rfl, hall b y2 cc2 mL2 ret2 hm, hp, ?_⟩
        rcases zx_ct g with ⟨o, g⟩ | ⟨o0, g⟩
        · rcases d with _ | ⟨m, _ | ⟨t, _ | ⟨t2, d⟩⟩⟩
          · exact absurd g Bool.false_ne_true
          · exact absurd g Bool.false_ne_true
          · obtain ⟨k1, g⟩ := zx_an g
            obtain ⟨k2, g⟩ := zx_an g
            cases hv : vwCl[t - 16]? with
            | none => simp only [hv] at g; exact absurd g Bool.false_ne_true
            | some C =>
              obtain ⟨C, T, N⟩ := C
              simp only [hv] at g
              obtain ⟨k3, g⟩ := zx_an g
              obtain ⟨k4, g⟩ := zx_an g
              obtain ⟨k5, g⟩ := zx_an g
              obtain ⟨k6, k7⟩ := zx_an g
              exact Or.inl ⟨zx_beq.mp o, t, (C, T, N), by rw [zx_beq.mp k1], zx_ble.mp k2, hv, of_decide_eq_true k3, zk_h_eq k4 rfl rfl, zk_h_eq k5 rfl rfl, zk_h_eq k6 rfl rfl, of_decide_eq_true k7⟩
          · exact absurd g Bool.false_ne_true
        · rcases zx_ct g with ⟨o, g⟩ | ⟨o1, g⟩
          · obtain ⟨k1, g⟩ := zx_an g
            obtain ⟨k2, k3⟩ := zx_an g
            obtain ⟨e1, e2, e3, e4⟩ := of_decide_eq_true k1
            exact Or.inr (Or.inl ⟨zx_beq.mp o, e1, e2, e3, zk_h_eq k2 rfl rfl, zk_h_eq k3 rfl rfl, e4⟩)
          · rcases zx_ct g with ⟨o, g⟩ | ⟨o2, g⟩
            · obtain ⟨k1, g⟩ := zx_an g
              obtain ⟨k2, k3⟩ := zx_an g
              obtain ⟨e1, e2, e3, e4⟩ := of_decide_eq_true k1
              refine Or.inr (Or.inr (Or.inl ⟨zx_beq.mp o, e1, e2, e3, fun U hU => ?_, zk_h_eq k2 rfl rfl, e4⟩))
              rcases Bool.or_eq_true_iff.mp k3 with q | q
              · obtain ⟨f1, f2, f3⟩ := of_decide_eq_true q
                rw [f1, f2, f3]; exact hU.1
              · rcases Bool.or_eq_true_iff.mp q with q | q
                · obtain ⟨f1, f2, f3⟩ := of_decide_eq_true q
                  rw [f1, f2, f3]; exact hU.2.1
                · obtain ⟨f1, f2, f3⟩ := of_decide_eq_true q
                  rw [f1, f2, f3]; exact hU.2.2.1
            · rcases zx_ct g with ⟨o, g⟩ | ⟨o3, g⟩
              · obtain ⟨k1, g⟩ := zx_an g
                obtain ⟨k2, k3⟩ := zx_an g
                obtain ⟨e1, e2⟩ := of_decide_eq_true k1
                exact Or.inr (Or.inr (Or.inr (Or.inl ⟨zx_beq.mp o, e1, zk_h_eq k2 rfl rfl, zk_h_eq k3 rfl rfl, e2⟩)))
              · have o0 := zx_nbeq.mp o0
                have o1 := zx_nbeq.mp o1
                have o2 := zx_nbeq.mp o2
                have o3 := zx_nbeq.mp o3
                rcases d with _ | ⟨m, _ | ⟨t, _ | ⟨t2, _ | ⟨t3, d⟩⟩⟩⟩
                · exact absurd g Bool.false_ne_true
                · exact absurd g Bool.false_ne_true
                · exact absurd g Bool.false_ne_true
                · obtain ⟨k1, g⟩ := zx_an g
                  obtain ⟨k2, g⟩ := zx_an g
                  obtain ⟨k2', g⟩ := zx_an g
                  cases hw : zk_h (a / 65536 % 65536) with
                  | methodLink o i x =>
                    simp only [hw] at g
                    obtain ⟨k4, g⟩ := zx_an g
                    obtain ⟨k5, g⟩ := zx_an g
                    obtain ⟨k6, g⟩ := zx_an g
                    obtain ⟨k7, g⟩ := zx_an g
                    obtain ⟨e1, e2, e3⟩ := of_decide_eq_true k4
                    cases hv : vwCl[t - 16]? with
                    | none => simp only [hv] at g; exact absurd g Bool.false_ne_true
                    | some C =>
                      cases hv2 : vwCl[t2 - 16]? with
                      | none => simp only [hv, hv2] at g; exact absurd g Bool.false_ne_true
                      | some C' =>
                        obtain ⟨C, T, N⟩ := C
                        obtain ⟨C', T', N'⟩ := C'
                        simp only [hv, hv2] at g
                        obtain ⟨k8, k9⟩ := zx_an g
                        have hmem := zk_h_in hw rfl rfl
                        rw [e1, e2] at hmem
                        exact Or.inr (Or.inr (Or.inr (Or.inr ⟨by omega, t, t2, (C, T, N), (C', T', N'), x, by rw [zx_beq.mp k1], zx_ble.mp k2, zx_ble.mp k2', hv, hv2, e3, hmem, zk_h_eq k5 rfl rfl, zk_h_eq k8 rfl rfl, zk_h_eq k9 rfl rfl, zk_h_eq k6 rfl rfl, of_decide_eq_true k7⟩)))
                  | _ => simp only [hw] at g; exact absurd g Bool.false_ne_true
                · exact absurd g Bool.false_ne_true
/-- a row's check; nm the two methods that check names, by their numbers among nms -/
noncomputable def zc_ro (ms2 : zkMS) (mh : zkMH) (Cs : List zkCK) (nms : List (MethodName × ByteArray × Nat)) (y : MethodName) (cc : ByteArray) (mL : Nat) (ret : Option FieldType) (pc : Nat) (r : zxRow) : Bool := match r with
  | (op, a, b, nxt, d) => cond (Nat.blt op 55) (zx_N (fun _ _ _ _ _ _ _ _ => false) zc_props op y cc mL pc a b nxt d)
    (cond (Nat.blt op 64) (zx_N (fun _ _ _ _ _ _ _ _ => false) Cs (op - 55) y cc mL pc a b nxt d)
    (cond (Nat.blt op 68) (cond (Nat.beq op 64) (decide (decode cc pc = .ok (.ireturn, 1) ∧ ret = some .int)) (cond (Nat.beq op 65) (decide (decode cc pc = .ok (.ireturn, 1) ∧ ret = some .boolean)) (cond (Nat.beq op 66) (decide (decode cc pc = .ok (.lreturn, 1) ∧ ret = some .long)) (decide (decode cc pc = .ok (.return_, 1) ∧ ret = none)))))
    (cond (Nat.blt op 70) false
    (cond (Nat.blt op 75) (zc_call ms2 mh y cc pc op a b nxt d)
    (cond (Nat.beq op 75) (decide (nxt = pc + 3 ∧ decode cc pc = .ok (.invokespecial (a % 65536), 3)) && (decide (zk_h (a / 65536) = .methodLink y.cls (a % 65536) Lib.objectInit) && (decide (zk_h 23 = .instanceMethod Lib.objectInit) && decide (zk_h 24 = .code Lib.objectInit ⟨#[0xb1]⟩ 1 none))))
    (cond (Nat.beq op 76) (decide (nxt = pc + 3 ∧ a < 65536 ∧ decode cc pc = .ok (.invokestatic a, 3)) && (decide (zk_h (b % 65536) = .methodLink y.cls a arraycopyName) && (decide (zk_h (b / 65536 % 65536) = .native arraycopyName) && (decide (zk_h (b / 4294967296 % 65536) = .static arraycopyName) && decide (zk_h (b / 281474976710656) = .initialized "java/lang/System")))))
    (cond (Nat.beq op 77) (match nms[b]? with
      | some (y2, cc2, mL2) => decide (nxt = pc + 3 ∧ mL2 ≤ 8 ∧ (parseMethodDescriptor y2.desc).map (fun q => q.parameters.length) = some 1 ∧ decode cc pc = .ok (.invokestatic (a % 65536), 3)) && (decide (zk_h (a / 65536) = .methodLink y.cls (a % 65536) y2) && (match d with | [h1, h2, h3] => decide (zk_h h3 = .static y2) && zc_meth (y2, cc2, mL2, some .boolean) (h1, h2, 0, 0) | _ => false))
      | none => false)
    (cond (Nat.beq op 78) (decide (nxt = pc + 1 ∧ decode cc pc = .ok (.iaload, 1)))
    (cond (Nat.beq op 79) (decide (nxt = pc + 1 ∧ decode cc pc = .ok (.arraylength, 1))) (cond (Nat.beq op 80) (decide (mL = 3 ∧ b = pc + 5 ∧ decode cc pc = .ok (.iload_n 2, 1) ∧ decode cc (pc + 1) = .ok (.iload_n 1, 1) ∧ decode cc (pc + 2) = .ok (.if_icmp .ge ((a : Int) - ((pc + 2 : Nat) : Int)), 3) ∧ decode cc nxt = .ok (.iinc 2 1, 3) ∧ decode cc (nxt + 3) = .ok (.goto ((pc : Int) - ((nxt + 3 : Nat) : Int)), 3))) true))))))))))
theorem zc_ro_ok {ms2 : zkMS} {mh : zkMH} {Cs : List zkCK} {Ps : List zkPT} {nms : List (MethodName × ByteArray × Nat)} (hall : ∀ (i : Nat) (y : MethodName) (cc : ByteArray) (mL : Nat) (ret : Option FieldType), ms2[i]? = some (y, cc, mL, ret) → zk_meth y cc mL ret) (hCs : zr_2 zk_CO Cs Ps) (hnms : ∀ (i : Nat) (y : MethodName) (cc : ByteArray) (mL : Nat), nms[i]? = some (y, cc, mL) → zk_nm y cc mL)
    {y : MethodName} {cc : ByteArray} {mL : Nat} {ret : Option FieldType} {pc : Nat} {r : zxRow} (h : zc_ro ms2 mh Cs nms y cc mL ret pc r = true) : zk_ro ms2 Ps y cc mL ret pc r := by
  obtain ⟨op, a, b, nxt, d⟩ := r
  have hfail : zk_CO (fun _ _ _ _ _ _ _ _ => false) (fun _ _ _ _ _ _ _ _ => False) := fun _ _ _ _ _ _ _ _ q => absurd q Bool.false_ne_true
  unfold zk_ro
  dsimp only
  rcases zx_ct h with ⟨o, h⟩ | ⟨o55, h⟩
  · have o := zx_blt.mp o
    exact ⟨fun _ => zr_2_N hfail zc_props_ok op y cc mL pc a b nxt d h, by omega, by omega, by omega, by omega, by omega, by omega, by omega, by omega, by omega, by omega, by omega, by omega⟩
  have o55 := zx_nblt.mp o55
  rcases zx_ct h with ⟨o, h⟩ | ⟨o64, h⟩
  · have o := zx_blt.mp o
    exact ⟨by omega, fun _ _ => zr_2_N hfail hCs (op - 55) y cc mL pc a b nxt d h, by omega, by omega, by omega, by omega, by omega, by omega, by omega, by omega, by omega, by omega, by omega⟩
  have o64 := zx_nblt.mp o64
  rcases zx_ct h with ⟨o, h⟩ | ⟨o68, h⟩
  · have o := zx_blt.mp o
    rcases zx_ct h with ⟨p1, h⟩ | ⟨p1, h⟩
    · have p1 := zx_beq.mp p1
      exact ⟨by omega, by omega, fun _ => of_decide_eq_true h, by omega, by omega, by omega, by omega, by omega, by omega, by omega, by omega, by omega, by omega⟩
    have p1 := zx_nbeq.mp p1
    rcases zx_ct h with ⟨p2, h⟩ | ⟨p2, h⟩
    · have p2 := zx_beq.mp p2
      exact ⟨by omega, by omega, by omega, fun _ => of_decide_eq_true h, by omega, by omega, by omega, by omega, by omega, by omega, by omega, by omega, by omega⟩
    have p2 := zx_nbeq.mp p2
    rcases zx_ct h with ⟨p3, h⟩ | ⟨p3, h⟩
    · have p3 := zx_beq.mp p3
      exact ⟨by omega, by omega, by omega, by omega, fun _ => of_decide_eq_true h, by omega, by omega, by omega, by omega, by omega, by omega, by omega, by omega⟩
    have p3 := zx_nbeq.mp p3
    exact ⟨by omega, by omega, by omega, by omega, by omega, fun _ => of_decide_eq_true h, by omega, by omega, by omega, by omega, by omega, by omega, by omega⟩
  have o68 := zx_nblt.mp o68
  obtain ⟨o70, h⟩ := zx_c0 h
  have o70 := zx_nblt.mp o70
  rcases zx_ct h with ⟨o, h⟩ | ⟨o75, h⟩
  · have o := zx_blt.mp o
    exact ⟨by omega, by omega, by omega, by omega, by omega, by omega, fun _ _ => zc_call_ok (Ps := Ps) hall ⟨by omega, by omega⟩ h, by omega, by omega, by omega, by omega, by omega, by omega⟩
  have o75 := zx_nblt.mp o75
  rcases zx_ct h with ⟨o, h⟩ | ⟨n75, h⟩
  · have o := zx_beq.mp o
    refine ⟨by omega, by omega, by omega, by omega, by omega, by omega, by omega, fun _ => ?_, by omega, by omega, by omega, by omega, by omega⟩
    obtain ⟨k1, g⟩ := zx_an h
    obtain ⟨k2, g⟩ := zx_an g
    obtain ⟨k3, k4⟩ := zx_an g
    obtain ⟨e1, e2⟩ := of_decide_eq_true k1
    exact ⟨e1, zk_h_eq k2 rfl rfl, zk_h_eq k3 rfl rfl, zk_h_eq k4 rfl rfl, e2⟩
  have n75 := zx_nbeq.mp n75
  rcases zx_ct h with ⟨o, h⟩ | ⟨n76, h⟩
  · have o := zx_beq.mp o
    refine ⟨by omega, by omega, by omega, by omega, by omega, by omega, by omega, by omega, fun _ => ?_, by omega, by omega, by omega, by omega⟩
    obtain ⟨k1, g⟩ := zx_an h
    obtain ⟨k2, g⟩ := zx_an g
    obtain ⟨k3, g⟩ := zx_an g
    obtain ⟨k4, k5⟩ := zx_an g
    obtain ⟨e1, e2, e3⟩ := of_decide_eq_true k1
    exact ⟨e1, e2, zk_h_eq k2 rfl rfl, zk_h_eq k3 rfl rfl, zk_h_eq k4 rfl rfl, zk_h_eq k5 rfl rfl, e3⟩
  have n76 := zx_nbeq.mp n76
  rcases zx_ct h with ⟨o, h⟩ | ⟨n77, h⟩
  · have o := zx_beq.mp o
    refine ⟨by omega, by omega, by omega, by omega, by omega, by omega, by omega, by omega, by omega, fun _ => ?_, by omega, by omega, by omega⟩
    cases hm : nms[b]? with
    | none => rw [hm] at h; exact absurd h Bool.false_ne_true
    | some q =>
      obtain ⟨y2, cc2, mL2⟩ := q
      rw [hm] at h
      obtain ⟨k1, g⟩ := zx_an h
      obtain ⟨k2, g⟩ := zx_an g
      obtain ⟨e1, e2, e3, e4⟩ := of_decide_eq_true k1
      rcases d with _ | ⟨d1, _ | ⟨d2, _ | ⟨d3, _ | ⟨d4, d⟩⟩⟩⟩
      · exact absurd g Bool.false_ne_true
      · exact absurd g Bool.false_ne_true
      · exact absurd g Bool.false_ne_true
      · obtain ⟨k3, k4⟩ := zx_an g
        exact ⟨e1, y2, cc2, mL2, e2, hnms b y2 cc2 mL2 hm, zc_meth_ok k4, e3, zk_h_eq k2 rfl rfl, zk_h_eq k3 rfl rfl, e4⟩
      · exact absurd g Bool.false_ne_true
  have n77 := zx_nbeq.mp n77
  rcases zx_ct h with ⟨o, h⟩ | ⟨n78, h⟩
  · have o := zx_beq.mp o
    exact ⟨by omega, by omega, by omega, by omega, by omega, by omega, by omega, by omega, by omega, by omega, fun _ => of_decide_eq_true h, by omega, by omega⟩
  have n78 := zx_nbeq.mp n78
  rcases zx_ct h with ⟨o, h⟩ | ⟨n79, h⟩
  · have o := zx_beq.mp o
    exact ⟨by omega, by omega, by omega, by omega, by omega, by omega, by omega, by omega, by omega, by omega, by omega, fun _ => of_decide_eq_true h, by omega⟩
  rcases zx_ct h with ⟨o, h⟩ | ⟨n80, h⟩
  · have o := zx_beq.mp o
    exact ⟨by omega, by omega, by omega, by omega, by omega, by omega, by omega, by omega, by omega, by omega, by omega, by omega, fun _ => of_decide_eq_true h⟩
  have n80 := zx_nbeq.mp n80
  have n79 := zx_nbeq.mp n79
  exact ⟨by omega, by omega, by omega, by omega, by omega, by omega, by omega, by omega, by omega, by omega, by omega, by omega, by omega⟩
/-- all rows of a method -/
noncomputable def zc_all (ms2 : zkMS) (mh : zkMH) (Cs : List zkCK) (nms : List (MethodName × ByteArray × Nat)) (y : MethodName) (cc : ByteArray) (mL : Nat) (ret : Option FieldType) (tb : zxTB) : Bool := (List.range (16 * tb.length)).all (fun pc => zc_ro ms2 mh Cs nms y cc mL ret pc (zx_row tb pc))
theorem zc_all_ok {ms2 : zkMS} {mh : zkMH} {Cs : List zkCK} {Ps : List zkPT} {nms : List (MethodName × ByteArray × Nat)} (hall : ∀ (i : Nat) (y : MethodName) (cc : ByteArray) (mL : Nat) (ret : Option FieldType), ms2[i]? = some (y, cc, mL, ret) → zk_meth y cc mL ret) (hCs : zr_2 zk_CO Cs Ps) (hnms : ∀ (i : Nat) (y : MethodName) (cc : ByteArray) (mL : Nat), nms[i]? = some (y, cc, mL) → zk_nm y cc mL)
    {y : MethodName} {cc : ByteArray} {mL : Nat} {ret : Option FieldType} {tb : zxTB} (h : zc_all ms2 mh Cs nms y cc mL ret tb = true) : ∀ pc, zk_ro ms2 Ps y cc mL ret pc (zx_row tb pc) := by
  intro pc
  by_cases hp : pc < 16 * tb.length
  · exact zc_ro_ok hall hCs hnms (List.all_eq_true.mp h pc (List.mem_range.mpr hp))
  · have e : zx_row tb pc = (999, 0, 0, 0, []) := by
      unfold zx_row
      rw [zx_N_eq, zx_N_eq, List.getElem?_eq_none (l := tb) (by omega)]
      rfl
    rw [e]
    unfold zk_ro
    dsimp only
    exact ⟨by omega, by omega, by omega, by omega, by omega, by omega, by omega, by omega, by omega, by omega, by omega, by omega, by omega⟩
end
section
def ztb_0 : zxTB := [[(0, 0, 0, 1, []), (2, 161480717, 1, 4, [27]), (999, 0, 0, 0, []), (999, 0, 0, 0, []), (11, 336, 0, 6, []), (999, 0, 0, 0, []), (1, 1, 0, 7, []), (17, 0, 0, 8, []), (1, 2, 0, 9, []), (5, 0, 0, 10, []), (8, 1, 0, 11, []), (64, 0, 0, 12, [])]]
def ztb_1 : zxTB := [[(22, 0, 0, 1, []), (22, 2, 0, 2, []), (21, 0, 0, 3, []), (7, 17, 1, 6, []), (999, 0, 0, 0, []), (999, 0, 0, 0, []), (22, 0, 0, 7, []), (23, 4, 0, 9, []), (999, 0, 0, 0, []), (21, 0, 0, 10, []), (7, 17, 4, 13, []), (999, 0, 0, 0, []), (999, 0, 0, 0, []), (3, 8, 0, 14, []), (9, 18, 0, 17, []), (999, 0, 0, 0, [])], [(999, 0, 0, 0, []), (3, 0, 0, 18, []), (65, 0, 0, 19, [])]]
def ztb_2 : zxTB := [[(3, 0, 0, 1, []), (13, 2, 4, 2, []), (0, 0, 0, 3, []), (50, 0, 0, 4, []), (13, 3, 4, 5, []), (55, 0, 0, 20, []), (999, 0, 0, 0, []), (999, 0, 0, 0, []), (999, 0, 0, 0, []), (999, 0, 0, 0, []), (999, 0, 0, 0, []), (999, 0, 0, 0, []), (999, 0, 0, 0, []), (999, 0, 0, 0, []), (999, 0, 0, 0, []), (999, 0, 0, 0, [])], [(999, 0, 0, 0, []), (999, 0, 0, 0, []), (999, 0, 0, 0, []), (999, 0, 0, 0, []), (67, 0, 0, 21, [])]]
def ztb_3 : zxTB := [[(1, 1, 0, 1, []), (20, 0, 0, 2, []), (25, 1, 0, 3, []), (24, 473, 183697545, 6, []), (999, 0, 0, 0, []), (999, 0, 0, 0, []), (73, 183763083, 1, 9, [3]), (999, 0, 0, 0, []), (999, 0, 0, 0, []), (7, 26, 2, 12, []), (999, 0, 0, 0, []), (999, 0, 0, 0, []), (0, 0, 0, 13, []), (1, 1, 0, 14, []), (3, 0, 0, 15, []), (70, 183959695, 0, 18, [3, 27])], [(999, 0, 0, 0, []), (999, 0, 0, 0, []), (3, 16, 0, 19, []), (6, 26, 5, 22, []), (999, 0, 0, 0, []), (999, 0, 0, 0, []), (999, 0, 0, 0, []), (999, 0, 0, 0, []), (999, 0, 0, 0, []), (999, 0, 0, 0, []), (3, 0, 0, 27, []), (65, 0, 0, 28, [])]]
def ztb_4 : zxTB := [[(0, 0, 0, 1, []), (75, 2424835, 0, 4, []), (999, 0, 0, 0, []), (999, 0, 0, 0, []), (0, 0, 0, 5, []), (3, 16, 0, 6, []), (48, 8650752, 1, 8, [0]), (999, 0, 0, 0, []), (52, 5570569, 200, 11, [20]), (999, 0, 0, 0, []), (999, 0, 0, 0, []), (0, 0, 0, 12, []), (3, 16, 0, 13, []), (48, 8650752, 1, 15, [0]), (999, 0, 0, 0, []), (52, 5832719, 201, 18, [20])], [(999, 0, 0, 0, []), (999, 0, 0, 0, []), (0, 0, 0, 19, []), (11, 256, 0, 21, []), (999, 0, 0, 0, []), (48, 8650752, 1, 23, [0]), (999, 0, 0, 0, []), (52, 6094866, 202, 26, [20]), (999, 0, 0, 0, []), (999, 0, 0, 0, []), (0, 0, 0, 27, []), (2, 6094866, 10, 30, [20]), (999, 0, 0, 0, []), (999, 0, 0, 0, []), (3, 34359738360, 0, 31, []), (73, 2490389, 2, 34, [2])], [(999, 0, 0, 0, []), (999, 0, 0, 0, []), (67, 0, 0, 35, [])]]
def ztb_5 : zxTB := [[(1, 1, 0, 1, []), (20, 0, 0, 2, []), (25, 1, 0, 3, []), (24, 473, 183697545, 6, []), (999, 0, 0, 0, []), (999, 0, 0, 0, []), (73, 183763083, 1, 9, [3]), (999, 0, 0, 0, []), (999, 0, 0, 0, []), (7, 26, 2, 12, []), (999, 0, 0, 0, []), (999, 0, 0, 0, []), (0, 0, 0, 13, []), (1, 1, 0, 14, []), (3, 0, 0, 15, []), (70, 183959695, 0, 18, [3, 27])], [(999, 0, 0, 0, []), (999, 0, 0, 0, []), (3, 8, 0, 19, []), (6, 26, 5, 22, []), (999, 0, 0, 0, []), (999, 0, 0, 0, []), (3, 8, 0, 23, []), (9, 27, 0, 26, []), (999, 0, 0, 0, []), (999, 0, 0, 0, []), (3, 0, 0, 27, []), (65, 0, 0, 28, [])]]
def ztb_6 : zxTB := [[(0, 0, 0, 1, []), (2, 161480717, 1, 4, [27]), (999, 0, 0, 0, []), (999, 0, 0, 0, []), (11, 336, 0, 6, []), (999, 0, 0, 0, []), (1, 1, 0, 7, []), (17, 0, 0, 8, []), (1, 2, 0, 9, []), (5, 0, 0, 10, []), (1, 3, 0, 11, []), (16, 1, 0, 12, []), (67, 0, 0, 13, [])]]
def ztb_7 : zxTB := [[(0, 0, 0, 1, []), (3, 0, 0, 2, []), (15, 161415169, 0, 5, [27]), (999, 0, 0, 0, []), (999, 0, 0, 0, []), (0, 0, 0, 6, []), (2, 162398376, 15, 9, [27]), (999, 0, 0, 0, []), (999, 0, 0, 0, []), (7, 15, 2, 12, []), (999, 0, 0, 0, []), (999, 0, 0, 0, []), (999, 0, 0, 0, []), (999, 0, 0, 0, []), (999, 0, 0, 0, []), (0, 0, 0, 16, [])], [(1, 1, 0, 17, []), (70, 172949676, 5, 20, [2, 27]), (999, 0, 0, 0, []), (999, 0, 0, 0, []), (7, 30, 2, 23, []), (999, 0, 0, 0, []), (999, 0, 0, 0, []), (22, 2, 0, 24, []), (77, 184221872, 1, 27, [2813, 14, 2812]), (999, 0, 0, 0, []), (999, 0, 0, 0, []), (7, 32, 5, 30, []), (999, 0, 0, 0, []), (999, 0, 0, 0, []), (3, 34359738360, 0, 31, []), (64, 0, 0, 32, [])], [(0, 0, 0, 33, []), (1, 1, 0, 34, []), (22, 2, 0, 35, []), (70, 184746164, 60, 38, [3, 27]), (999, 0, 0, 0, []), (999, 0, 0, 0, []), (7, 44, 1, 41, []), (999, 0, 0, 0, []), (999, 0, 0, 0, []), (999, 0, 0, 0, []), (999, 0, 0, 0, []), (999, 0, 0, 0, []), (0, 0, 0, 45, []), (70, 185008312, 87, 48, [1, 27]), (999, 0, 0, 0, []), (999, 0, 0, 0, [])], [(14, 5, 6, 50, []), (999, 0, 0, 0, []), (4, 5, 0, 52, []), (999, 0, 0, 0, []), (7, 64, 1, 55, []), (999, 0, 0, 0, []), (999, 0, 0, 0, []), (0, 0, 0, 56, []), (1, 1, 0, 57, []), (70, 185270459, 61, 60, [2, 27]), (999, 0, 0, 0, []), (999, 0, 0, 0, []), (3, 40, 0, 61, []), (6, 67, 5, 64, []), (999, 0, 0, 0, []), (999, 0, 0, 0, [])], [(999, 0, 0, 0, []), (999, 0, 0, 0, []), (999, 0, 0, 0, []), (0, 0, 0, 68, []), (70, 185532607, 88, 71, [1, 27]), (999, 0, 0, 0, []), (999, 0, 0, 0, []), (0, 0, 0, 72, []), (4, 5, 0, 74, []), (999, 0, 0, 0, []), (4, 4, 0, 76, []), (999, 0, 0, 0, []), (7, 83, 2, 79, []), (999, 0, 0, 0, []), (999, 0, 0, 0, []), (3, 8, 0, 80, [])], [(9, 84, 0, 83, []), (999, 0, 0, 0, []), (999, 0, 0, 0, []), (3, 16, 0, 84, []), (1, 1, 0, 85, []), (22, 2, 0, 86, []), (70, 186056898, 90, 89, [5, 27]), (999, 0, 0, 0, []), (999, 0, 0, 0, []), (4, 4, 0, 91, []), (999, 0, 0, 0, []), (7, 136, 5, 94, []), (999, 0, 0, 0, []), (999, 0, 0, 0, []), (0, 0, 0, 95, []), (4, 5, 0, 97, [])], [(999, 0, 0, 0, []), (3, 16, 0, 98, []), (0, 0, 0, 99, []), (2, 162201645, 12, 102, [27]), (999, 0, 0, 0, []), (999, 0, 0, 0, []), (70, 186319005, 6, 105, [4, 27]), (999, 0, 0, 0, []), (999, 0, 0, 0, []), (0, 0, 0, 106, []), (26, 0, 0, 107, []), (2, 162201645, 12, 110, [27]), (999, 0, 0, 0, []), (999, 0, 0, 0, []), (3, 8, 0, 111, []), (5, 0, 0, 112, [])], [(15, 162201645, 12, 115, [27]), (999, 0, 0, 0, []), (999, 0, 0, 0, []), (0, 0, 0, 116, []), (4, 5, 0, 118, []), (999, 0, 0, 0, []), (3, 32, 0, 119, []), (0, 0, 0, 120, []), (2, 162332723, 14, 123, [27]), (999, 0, 0, 0, []), (999, 0, 0, 0, []), (70, 186319005, 6, 126, [4, 27]), (999, 0, 0, 0, []), (999, 0, 0, 0, []), (0, 0, 0, 127, []), (26, 0, 0, 128, [])], [(2, 162332723, 14, 131, [27]), (999, 0, 0, 0, []), (999, 0, 0, 0, []), (3, 8, 0, 132, []), (5, 0, 0, 133, []), (15, 162332723, 14, 136, [27]), (999, 0, 0, 0, []), (999, 0, 0, 0, []), (0, 0, 0, 137, []), (11, 128, 0, 139, []), (999, 0, 0, 0, []), (70, 186843334, 92, 142, [2, 27]), (999, 0, 0, 0, []), (999, 0, 0, 0, []), (4, 5, 0, 144, []), (999, 0, 0, 0, [])], [(64, 0, 0, 145, [])]]
def ztb_8 : zxTB := [[(0, 0, 0, 1, []), (3, 0, 0, 2, []), (15, 161415169, 0, 5, [27]), (999, 0, 0, 0, []), (999, 0, 0, 0, []), (0, 0, 0, 6, []), (2, 162398376, 15, 9, [27]), (999, 0, 0, 0, []), (999, 0, 0, 0, []), (7, 15, 2, 12, []), (999, 0, 0, 0, []), (999, 0, 0, 0, []), (999, 0, 0, 0, []), (999, 0, 0, 0, []), (999, 0, 0, 0, []), (1, 1, 0, 16, [])], [(20, 0, 0, 17, []), (25, 1, 0, 18, []), (24, 473, 183697545, 21, []), (999, 0, 0, 0, []), (999, 0, 0, 0, []), (73, 183763083, 1, 24, [3]), (999, 0, 0, 0, []), (999, 0, 0, 0, []), (7, 39, 2, 27, []), (999, 0, 0, 0, []), (999, 0, 0, 0, []), (1, 2, 0, 28, []), (20, 0, 0, 29, []), (25, 1, 0, 30, []), (24, 81, 196215039, 33, []), (999, 0, 0, 0, [])], [(999, 0, 0, 0, []), (73, 183763083, 1, 36, [3]), (999, 0, 0, 0, []), (999, 0, 0, 0, []), (7, 41, 5, 39, []), (999, 0, 0, 0, []), (999, 0, 0, 0, []), (3, 34359738360, 0, 40, []), (64, 0, 0, 41, []), (0, 0, 0, 42, []), (1, 1, 0, 43, []), (3, 0, 0, 44, []), (70, 183959695, 0, 47, [3, 27]), (999, 0, 0, 0, []), (999, 0, 0, 0, []), (13, 3, 4, 48, [])], [(1, 2, 0, 49, []), (7, 54, 5, 52, []), (999, 0, 0, 0, []), (999, 0, 0, 0, []), (1, 3, 0, 53, []), (64, 0, 0, 54, []), (1, 3, 0, 55, []), (7, 68, 2, 58, []), (999, 0, 0, 0, []), (999, 0, 0, 0, []), (1, 3, 0, 59, []), (3, 8, 0, 60, []), (6, 70, 5, 63, []), (999, 0, 0, 0, []), (999, 0, 0, 0, []), (1, 2, 0, 64, [])], [(3, 16, 0, 65, []), (6, 70, 3, 68, []), (999, 0, 0, 0, []), (999, 0, 0, 0, []), (3, 34359738360, 0, 69, []), (64, 0, 0, 70, []), (1, 2, 0, 71, []), (46, 191, 2147483649, 120, [120, 136, 142, 149, 156, 163, 170, 177, 184]), (999, 0, 0, 0, []), (999, 0, 0, 0, []), (999, 0, 0, 0, []), (999, 0, 0, 0, []), (999, 0, 0, 0, []), (999, 0, 0, 0, []), (999, 0, 0, 0, []), (999, 0, 0, 0, [])], [(999, 0, 0, 0, []), (999, 0, 0, 0, []), (999, 0, 0, 0, []), (999, 0, 0, 0, []), (999, 0, 0, 0, []), (999, 0, 0, 0, []), (999, 0, 0, 0, []), (999, 0, 0, 0, []), (999, 0, 0, 0, []), (999, 0, 0, 0, []), (999, 0, 0, 0, []), (999, 0, 0, 0, []), (999, 0, 0, 0, []), (999, 0, 0, 0, []), (999, 0, 0, 0, []), (999, 0, 0, 0, [])], [(999, 0, 0, 0, []), (999, 0, 0, 0, []), (999, 0, 0, 0, []), (999, 0, 0, 0, []), (999, 0, 0, 0, []), (999, 0, 0, 0, []), (999, 0, 0, 0, []), (999, 0, 0, 0, []), (999, 0, 0, 0, []), (999, 0, 0, 0, []), (999, 0, 0, 0, []), (999, 0, 0, 0, []), (999, 0, 0, 0, []), (999, 0, 0, 0, []), (999, 0, 0, 0, []), (999, 0, 0, 0, [])], [(999, 0, 0, 0, []), (999, 0, 0, 0, []), (999, 0, 0, 0, []), (999, 0, 0, 0, []), (999, 0, 0, 0, []), (999, 0, 0, 0, []), (999, 0, 0, 0, []), (999, 0, 0, 0, []), (1, 1, 0, 121, []), (7, 129, 5, 124, []), (999, 0, 0, 0, []), (999, 0, 0, 0, []), (11, 34359738352, 0, 126, []), (999, 0, 0, 0, []), (9, 135, 0, 129, []), (999, 0, 0, 0, [])], [(999, 0, 0, 0, []), (999, 0, 0, 0, []), (999, 0, 0, 0, []), (999, 0, 0, 0, []), (999, 0, 0, 0, []), (999, 0, 0, 0, []), (999, 0, 0, 0, []), (64, 0, 0, 136, []), (0, 0, 0, 137, []), (1, 1, 0, 138, []), (70, 185270459, 61, 141, [2, 27]), (999, 0, 0, 0, []), (999, 0, 0, 0, []), (64, 0, 0, 142, [])]]
def ztb_9 : zxTB := [[(0, 0, 0, 1, []), (2, 29884431, 3, 4, [23]), (999, 0, 0, 0, []), (999, 0, 0, 0, []), (0, 0, 0, 5, []), (2, 29622326, 1, 8, [23]), (999, 0, 0, 0, []), (999, 0, 0, 0, []), (6, 82, 6, 11, []), (999, 0, 0, 0, []), (999, 0, 0, 0, []), (999, 0, 0, 0, []), (999, 0, 0, 0, []), (999, 0, 0, 0, []), (999, 0, 0, 0, []), (999, 0, 0, 0, [])], [(999, 0, 0, 0, []), (999, 0, 0, 0, []), (999, 0, 0, 0, []), (999, 0, 0, 0, []), (999, 0, 0, 0, []), (999, 0, 0, 0, []), (999, 0, 0, 0, []), (999, 0, 0, 0, []), (999, 0, 0, 0, []), (999, 0, 0, 0, []), (999, 0, 0, 0, []), (999, 0, 0, 0, []), (999, 0, 0, 0, []), (999, 0, 0, 0, []), (999, 0, 0, 0, []), (999, 0, 0, 0, [])], [(999, 0, 0, 0, []), (999, 0, 0, 0, []), (999, 0, 0, 0, []), (999, 0, 0, 0, []), (999, 0, 0, 0, []), (999, 0, 0, 0, []), (999, 0, 0, 0, []), (999, 0, 0, 0, []), (999, 0, 0, 0, []), (999, 0, 0, 0, []), (999, 0, 0, 0, []), (999, 0, 0, 0, []), (999, 0, 0, 0, []), (999, 0, 0, 0, []), (999, 0, 0, 0, []), (999, 0, 0, 0, [])], [(999, 0, 0, 0, []), (999, 0, 0, 0, []), (999, 0, 0, 0, []), (999, 0, 0, 0, []), (999, 0, 0, 0, []), (999, 0, 0, 0, []), (999, 0, 0, 0, []), (999, 0, 0, 0, []), (999, 0, 0, 0, []), (999, 0, 0, 0, []), (999, 0, 0, 0, []), (999, 0, 0, 0, []), (999, 0, 0, 0, []), (999, 0, 0, 0, []), (999, 0, 0, 0, []), (999, 0, 0, 0, [])], [(999, 0, 0, 0, []), (999, 0, 0, 0, []), (999, 0, 0, 0, []), (999, 0, 0, 0, []), (999, 0, 0, 0, []), (999, 0, 0, 0, []), (999, 0, 0, 0, []), (999, 0, 0, 0, []), (999, 0, 0, 0, []), (999, 0, 0, 0, []), (999, 0, 0, 0, []), (999, 0, 0, 0, []), (999, 0, 0, 0, []), (999, 0, 0, 0, []), (999, 0, 0, 0, []), (999, 0, 0, 0, [])], [(999, 0, 0, 0, []), (999, 0, 0, 0, []), (67, 0, 0, 83, [])]]
def ztb_10 : zxTB := [[(0, 0, 0, 1, []), (2, 163119186, 26, 4, [27]), (999, 0, 0, 0, []), (999, 0, 0, 0, []), (1, 1, 0, 5, []), (33, 3, 0, 6, []), (7, 10, 2, 9, []), (999, 0, 0, 0, []), (999, 0, 0, 0, []), (999, 0, 0, 0, []), (0, 0, 0, 11, []), (2, 163119186, 26, 14, [27]), (999, 0, 0, 0, []), (999, 0, 0, 0, []), (1, 1, 0, 15, []), (3, 8, 0, 16, [])], [(35, 3, 0, 17, []), (3, 0, 0, 18, []), (13, 2, 10, 19, []), (11, 64, 0, 21, []), (999, 0, 0, 0, []), (13, 3, 10, 22, []), (1, 3, 0, 23, []), (0, 0, 0, 24, []), (2, 162857030, 22, 27, [27]), (999, 0, 0, 0, []), (999, 0, 0, 0, []), (1, 1, 0, 28, []), (8, 1, 0, 29, []), (6, 269, 6, 32, []), (999, 0, 0, 0, []), (999, 0, 0, 0, [])], [(999, 0, 0, 0, []), (999, 0, 0, 0, []), (999, 0, 0, 0, []), (999, 0, 0, 0, []), (999, 0, 0, 0, []), (999, 0, 0, 0, []), (999, 0, 0, 0, []), (999, 0, 0, 0, []), (999, 0, 0, 0, []), (999, 0, 0, 0, []), (999, 0, 0, 0, []), (999, 0, 0, 0, []), (999, 0, 0, 0, []), (999, 0, 0, 0, []), (999, 0, 0, 0, []), (999, 0, 0, 0, [])], [(999, 0, 0, 0, []), (999, 0, 0, 0, []), (999, 0, 0, 0, []), (999, 0, 0, 0, []), (999, 0, 0, 0, []), (999, 0, 0, 0, []), (999, 0, 0, 0, []), (999, 0, 0, 0, []), (999, 0, 0, 0, []), (999, 0, 0, 0, []), (999, 0, 0, 0, []), (999, 0, 0, 0, []), (999, 0, 0, 0, []), (999, 0, 0, 0, []), (999, 0, 0, 0, []), (999, 0, 0, 0, [])], [(999, 0, 0, 0, []), (999, 0, 0, 0, []), (999, 0, 0, 0, []), (999, 0, 0, 0, []), (999, 0, 0, 0, []), (999, 0, 0, 0, []), (999, 0, 0, 0, []), (999, 0, 0, 0, []), (999, 0, 0, 0, []), (999, 0, 0, 0, []), (999, 0, 0, 0, []), (999, 0, 0, 0, []), (999, 0, 0, 0, []), (999, 0, 0, 0, []), (999, 0, 0, 0, []), (999, 0, 0, 0, [])], [(999, 0, 0, 0, []), (999, 0, 0, 0, []), (999, 0, 0, 0, []), (999, 0, 0, 0, []), (999, 0, 0, 0, []), (999, 0, 0, 0, []), (999, 0, 0, 0, []), (999, 0, 0, 0, []), (999, 0, 0, 0, []), (999, 0, 0, 0, []), (999, 0, 0, 0, []), (999, 0, 0, 0, []), (999, 0, 0, 0, []), (999, 0, 0, 0, []), (999, 0, 0, 0, []), (999, 0, 0, 0, [])], [(999, 0, 0, 0, []), (999, 0, 0, 0, []), (999, 0, 0, 0, []), (999, 0, 0, 0, []), (999, 0, 0, 0, []), (999, 0, 0, 0, []), (999, 0, 0, 0, []), (999, 0, 0, 0, []), (999, 0, 0, 0, []), (999, 0, 0, 0, []), (999, 0, 0, 0, []), (999, 0, 0, 0, []), (999, 0, 0, 0, []), (999, 0, 0, 0, []), (999, 0, 0, 0, []), (999, 0, 0, 0, [])], [(999, 0, 0, 0, []), (999, 0, 0, 0, []), (999, 0, 0, 0, []), (999, 0, 0, 0, []), (999, 0, 0, 0, []), (999, 0, 0, 0, []), (999, 0, 0, 0, []), (999, 0, 0, 0, []), (999, 0, 0, 0, []), (999, 0, 0, 0, []), (999, 0, 0, 0, []), (999, 0, 0, 0, []), (999, 0, 0, 0, []), (999, 0, 0, 0, []), (999, 0, 0, 0, []), (999, 0, 0, 0, [])], [(999, 0, 0, 0, []), (999, 0, 0, 0, []), (999, 0, 0, 0, []), (999, 0, 0, 0, []), (999, 0, 0, 0, []), (999, 0, 0, 0, []), (999, 0, 0, 0, []), (999, 0, 0, 0, []), (999, 0, 0, 0, []), (999, 0, 0, 0, []), (999, 0, 0, 0, []), (999, 0, 0, 0, []), (999, 0, 0, 0, []), (999, 0, 0, 0, []), (999, 0, 0, 0, []), (999, 0, 0, 0, [])], [(999, 0, 0, 0, []), (999, 0, 0, 0, []), (999, 0, 0, 0, []), (999, 0, 0, 0, []), (999, 0, 0, 0, []), (999, 0, 0, 0, []), (999, 0, 0, 0, []), (999, 0, 0, 0, []), (999, 0, 0, 0, []), (999, 0, 0, 0, []), (999, 0, 0, 0, []), (999, 0, 0, 0, []), (999, 0, 0, 0, []), (999, 0, 0, 0, []), (999, 0, 0, 0, []), (999, 0, 0, 0, [])], [(999, 0, 0, 0, []), (999, 0, 0, 0, []), (999, 0, 0, 0, []), (999, 0, 0, 0, []), (999, 0, 0, 0, []), (999, 0, 0, 0, []), (999, 0, 0, 0, []), (999, 0, 0, 0, []), (999, 0, 0, 0, []), (999, 0, 0, 0, []), (999, 0, 0, 0, []), (999, 0, 0, 0, []), (999, 0, 0, 0, []), (999, 0, 0, 0, []), (999, 0, 0, 0, []), (999, 0, 0, 0, [])], [(999, 0, 0, 0, []), (999, 0, 0, 0, []), (999, 0, 0, 0, []), (999, 0, 0, 0, []), (999, 0, 0, 0, []), (999, 0, 0, 0, []), (999, 0, 0, 0, []), (999, 0, 0, 0, []), (999, 0, 0, 0, []), (999, 0, 0, 0, []), (999, 0, 0, 0, []), (999, 0, 0, 0, []), (999, 0, 0, 0, []), (999, 0, 0, 0, []), (999, 0, 0, 0, []), (999, 0, 0, 0, [])], [(999, 0, 0, 0, []), (999, 0, 0, 0, []), (999, 0, 0, 0, []), (999, 0, 0, 0, []), (999, 0, 0, 0, []), (999, 0, 0, 0, []), (999, 0, 0, 0, []), (999, 0, 0, 0, []), (999, 0, 0, 0, []), (999, 0, 0, 0, []), (999, 0, 0, 0, []), (999, 0, 0, 0, []), (999, 0, 0, 0, []), (999, 0, 0, 0, []), (999, 0, 0, 0, []), (999, 0, 0, 0, [])], [(999, 0, 0, 0, []), (999, 0, 0, 0, []), (999, 0, 0, 0, []), (999, 0, 0, 0, []), (999, 0, 0, 0, []), (999, 0, 0, 0, []), (999, 0, 0, 0, []), (999, 0, 0, 0, []), (999, 0, 0, 0, []), (999, 0, 0, 0, []), (999, 0, 0, 0, []), (999, 0, 0, 0, []), (999, 0, 0, 0, []), (999, 0, 0, 0, []), (999, 0, 0, 0, []), (999, 0, 0, 0, [])], [(999, 0, 0, 0, []), (999, 0, 0, 0, []), (999, 0, 0, 0, []), (999, 0, 0, 0, []), (999, 0, 0, 0, []), (999, 0, 0, 0, []), (999, 0, 0, 0, []), (999, 0, 0, 0, []), (999, 0, 0, 0, []), (999, 0, 0, 0, []), (999, 0, 0, 0, []), (999, 0, 0, 0, []), (999, 0, 0, 0, []), (999, 0, 0, 0, []), (999, 0, 0, 0, []), (999, 0, 0, 0, [])], [(999, 0, 0, 0, []), (999, 0, 0, 0, []), (999, 0, 0, 0, []), (999, 0, 0, 0, []), (999, 0, 0, 0, []), (999, 0, 0, 0, []), (999, 0, 0, 0, []), (999, 0, 0, 0, []), (999, 0, 0, 0, []), (999, 0, 0, 0, []), (999, 0, 0, 0, []), (999, 0, 0, 0, []), (999, 0, 0, 0, []), (999, 0, 0, 0, []), (999, 0, 0, 0, []), (999, 0, 0, 0, [])], [(999, 0, 0, 0, []), (999, 0, 0, 0, []), (999, 0, 0, 0, []), (999, 0, 0, 0, []), (999, 0, 0, 0, []), (999, 0, 0, 0, []), (999, 0, 0, 0, []), (999, 0, 0, 0, []), (999, 0, 0, 0, []), (999, 0, 0, 0, []), (999, 0, 0, 0, []), (999, 0, 0, 0, []), (999, 0, 0, 0, []), (0, 0, 0, 270, []), (2, 163053647, 25, 273, [27]), (999, 0, 0, 0, [])], [(999, 0, 0, 0, []), (1, 1, 0, 274, []), (1, 2, 0, 275, []), (16, 1, 0, 276, []), (67, 0, 0, 277, [])]]
def ztb_11 : zxTB := [[(0, 0, 0, 1, []), (3, 0, 0, 2, []), (15, 161415169, 0, 5, [27]), (999, 0, 0, 0, []), (999, 0, 0, 0, []), (0, 0, 0, 6, []), (2, 162398376, 15, 9, [27]), (999, 0, 0, 0, []), (999, 0, 0, 0, []), (7, 15, 2, 12, []), (999, 0, 0, 0, []), (999, 0, 0, 0, []), (999, 0, 0, 0, []), (999, 0, 0, 0, []), (999, 0, 0, 0, []), (0, 0, 0, 16, [])], [(1, 1, 0, 17, []), (70, 172949676, 5, 20, [2, 27]), (999, 0, 0, 0, []), (999, 0, 0, 0, []), (7, 32, 2, 23, []), (999, 0, 0, 0, []), (999, 0, 0, 0, []), (0, 0, 0, 24, []), (1, 1, 0, 25, []), (22, 2, 0, 26, []), (70, 184746164, 60, 29, [3, 27]), (999, 0, 0, 0, []), (999, 0, 0, 0, []), (9, 33, 0, 32, []), (999, 0, 0, 0, []), (999, 0, 0, 0, [])], [(3, 34359738360, 0, 33, []), (64, 0, 0, 34, [])]]
def ztb_12 : zxTB := [[(0, 0, 0, 1, []), (3, 0, 0, 2, []), (15, 161415169, 0, 5, [27]), (999, 0, 0, 0, []), (999, 0, 0, 0, []), (0, 0, 0, 6, []), (2, 162398376, 15, 9, [27]), (999, 0, 0, 0, []), (999, 0, 0, 0, []), (7, 15, 2, 12, []), (999, 0, 0, 0, []), (999, 0, 0, 0, []), (999, 0, 0, 0, []), (999, 0, 0, 0, []), (999, 0, 0, 0, []), (1, 1, 0, 16, [])], [(20, 0, 0, 17, []), (25, 9, 0, 18, []), (24, 473, 183697545, 21, []), (999, 0, 0, 0, []), (999, 0, 0, 0, []), (73, 183763083, 1, 24, [3]), (999, 0, 0, 0, []), (999, 0, 0, 0, []), (7, 36, 2, 27, []), (999, 0, 0, 0, []), (999, 0, 0, 0, []), (0, 0, 0, 28, []), (1, 1, 0, 29, []), (3, 0, 0, 30, []), (70, 183959695, 0, 33, [3, 27]), (999, 0, 0, 0, [])], [(999, 0, 0, 0, []), (7, 38, 5, 36, []), (999, 0, 0, 0, []), (999, 0, 0, 0, []), (3, 34359738360, 0, 37, []), (64, 0, 0, 38, [])]]
def ztb_13 : zxTB := [[(0, 0, 0, 1, []), (3, 0, 0, 2, []), (15, 161415169, 0, 5, [27]), (999, 0, 0, 0, []), (999, 0, 0, 0, []), (0, 0, 0, 6, []), (2, 162398376, 15, 9, [27]), (999, 0, 0, 0, []), (999, 0, 0, 0, []), (7, 15, 2, 12, []), (999, 0, 0, 0, []), (999, 0, 0, 0, []), (999, 0, 0, 0, []), (999, 0, 0, 0, []), (999, 0, 0, 0, []), (1, 1, 0, 16, [])], [(20, 0, 0, 17, []), (25, 9, 0, 18, []), (24, 473, 183697545, 21, []), (999, 0, 0, 0, []), (999, 0, 0, 0, []), (73, 183763083, 1, 24, [3]), (999, 0, 0, 0, []), (999, 0, 0, 0, []), (7, 51, 2, 27, []), (999, 0, 0, 0, []), (999, 0, 0, 0, []), (0, 0, 0, 28, []), (1, 1, 0, 29, []), (3, 0, 0, 30, []), (70, 183959695, 0, 33, [3, 27]), (999, 0, 0, 0, [])], [(999, 0, 0, 0, []), (7, 51, 2, 36, []), (999, 0, 0, 0, []), (999, 0, 0, 0, []), (999, 0, 0, 0, []), (999, 0, 0, 0, []), (999, 0, 0, 0, []), (999, 0, 0, 0, []), (999, 0, 0, 0, []), (999, 0, 0, 0, []), (999, 0, 0, 0, []), (999, 0, 0, 0, []), (999, 0, 0, 0, []), (999, 0, 0, 0, []), (999, 0, 0, 0, []), (999, 0, 0, 0, [])], [(999, 0, 0, 0, []), (999, 0, 0, 0, []), (999, 0, 0, 0, []), (3, 34359738360, 0, 52, []), (64, 0, 0, 53, [])]]
def ztb_14 : zxTB := [[(0, 0, 0, 1, []), (3, 0, 0, 2, []), (15, 161415169, 0, 5, [27]), (999, 0, 0, 0, []), (999, 0, 0, 0, []), (0, 0, 0, 6, []), (2, 162398376, 15, 9, [27]), (999, 0, 0, 0, []), (999, 0, 0, 0, []), (7, 15, 2, 12, []), (999, 0, 0, 0, []), (999, 0, 0, 0, []), (999, 0, 0, 0, []), (999, 0, 0, 0, []), (999, 0, 0, 0, []), (0, 0, 0, 16, [])], [(1, 1, 0, 17, []), (70, 193593580, 3, 20, [2, 27]), (999, 0, 0, 0, []), (999, 0, 0, 0, []), (7, 46, 2, 23, []), (999, 0, 0, 0, []), (999, 0, 0, 0, []), (999, 0, 0, 0, []), (999, 0, 0, 0, []), (999, 0, 0, 0, []), (999, 0, 0, 0, []), (999, 0, 0, 0, []), (999, 0, 0, 0, []), (999, 0, 0, 0, []), (999, 0, 0, 0, []), (999, 0, 0, 0, [])], [(999, 0, 0, 0, []), (999, 0, 0, 0, []), (999, 0, 0, 0, []), (999, 0, 0, 0, []), (999, 0, 0, 0, []), (999, 0, 0, 0, []), (999, 0, 0, 0, []), (999, 0, 0, 0, []), (999, 0, 0, 0, []), (999, 0, 0, 0, []), (999, 0, 0, 0, []), (999, 0, 0, 0, []), (999, 0, 0, 0, []), (999, 0, 0, 0, []), (3, 34359738360, 0, 47, []), (64, 0, 0, 48, [])]]
def ztb_15 : zxTB := [[(0, 0, 0, 1, []), (3, 0, 0, 2, []), (15, 161415169, 0, 5, [27]), (999, 0, 0, 0, []), (999, 0, 0, 0, []), (0, 0, 0, 6, []), (2, 162398376, 15, 9, [27]), (999, 0, 0, 0, []), (999, 0, 0, 0, []), (7, 15, 2, 12, []), (999, 0, 0, 0, []), (999, 0, 0, 0, []), (999, 0, 0, 0, []), (999, 0, 0, 0, []), (999, 0, 0, 0, []), (0, 0, 0, 16, [])], [(1, 1, 0, 17, []), (70, 193593580, 3, 20, [2, 27]), (999, 0, 0, 0, []), (999, 0, 0, 0, []), (7, 39, 2, 23, []), (999, 0, 0, 0, []), (999, 0, 0, 0, []), (999, 0, 0, 0, []), (999, 0, 0, 0, []), (999, 0, 0, 0, []), (999, 0, 0, 0, []), (999, 0, 0, 0, []), (999, 0, 0, 0, []), (999, 0, 0, 0, []), (999, 0, 0, 0, []), (999, 0, 0, 0, [])], [(999, 0, 0, 0, []), (999, 0, 0, 0, []), (999, 0, 0, 0, []), (999, 0, 0, 0, []), (999, 0, 0, 0, []), (999, 0, 0, 0, []), (999, 0, 0, 0, []), (3, 34359738360, 0, 40, []), (64, 0, 0, 41, [])]]
def ztb_16 : zxTB := [[(0, 0, 0, 1, []), (3, 0, 0, 2, []), (15, 161415169, 0, 5, [27]), (999, 0, 0, 0, []), (999, 0, 0, 0, []), (0, 0, 0, 6, []), (2, 162398376, 15, 9, [27]), (999, 0, 0, 0, []), (999, 0, 0, 0, []), (7, 15, 2, 12, []), (999, 0, 0, 0, []), (999, 0, 0, 0, []), (999, 0, 0, 0, []), (999, 0, 0, 0, []), (999, 0, 0, 0, []), (0, 0, 0, 16, [])], [(1, 1, 0, 17, []), (70, 193593580, 3, 20, [2, 27]), (999, 0, 0, 0, []), (999, 0, 0, 0, []), (7, 41, 2, 23, []), (999, 0, 0, 0, []), (999, 0, 0, 0, []), (999, 0, 0, 0, []), (999, 0, 0, 0, []), (999, 0, 0, 0, []), (999, 0, 0, 0, []), (999, 0, 0, 0, []), (999, 0, 0, 0, []), (999, 0, 0, 0, []), (999, 0, 0, 0, []), (999, 0, 0, 0, [])], [(999, 0, 0, 0, []), (999, 0, 0, 0, []), (999, 0, 0, 0, []), (999, 0, 0, 0, []), (999, 0, 0, 0, []), (999, 0, 0, 0, []), (999, 0, 0, 0, []), (999, 0, 0, 0, []), (999, 0, 0, 0, []), (3, 34359738360, 0, 42, []), (64, 0, 0, 43, [])]]
def ztb_17 : zxTB := [[(0, 0, 0, 1, []), (3, 0, 0, 2, []), (15, 161415169, 0, 5, [27]), (999, 0, 0, 0, []), (999, 0, 0, 0, []), (0, 0, 0, 6, []), (2, 162398376, 15, 9, [27]), (999, 0, 0, 0, []), (999, 0, 0, 0, []), (7, 33, 5, 12, []), (999, 0, 0, 0, []), (999, 0, 0, 0, []), (1, 1, 0, 13, []), (20, 0, 0, 14, []), (25, 9, 0, 15, []), (24, 473, 183697545, 18, [])], [(999, 0, 0, 0, []), (999, 0, 0, 0, []), (73, 183763083, 1, 21, [3]), (999, 0, 0, 0, []), (999, 0, 0, 0, []), (7, 33, 2, 24, []), (999, 0, 0, 0, []), (999, 0, 0, 0, []), (0, 0, 0, 25, []), (1, 1, 0, 26, []), (3, 0, 0, 27, []), (70, 183959695, 0, 30, [3, 27]), (999, 0, 0, 0, []), (999, 0, 0, 0, []), (7, 37, 5, 33, []), (999, 0, 0, 0, [])], [(999, 0, 0, 0, []), (25, 1, 0, 34, []), (9, 43, 0, 37, []), (999, 0, 0, 0, []), (999, 0, 0, 0, []), (999, 0, 0, 0, []), (999, 0, 0, 0, []), (999, 0, 0, 0, []), (999, 0, 0, 0, []), (999, 0, 0, 0, []), (999, 0, 0, 0, []), (66, 0, 0, 44, [])]]
def ztb_18 : zxTB := [[(0, 0, 0, 1, []), (3, 0, 0, 2, []), (15, 161415169, 0, 5, [27]), (999, 0, 0, 0, []), (999, 0, 0, 0, []), (0, 0, 0, 6, []), (2, 162398376, 15, 9, [27]), (999, 0, 0, 0, []), (999, 0, 0, 0, []), (7, 15, 2, 12, []), (999, 0, 0, 0, []), (999, 0, 0, 0, []), (999, 0, 0, 0, []), (999, 0, 0, 0, []), (999, 0, 0, 0, []), (0, 0, 0, 16, [])], [(1, 1, 0, 17, []), (70, 193593580, 3, 20, [2, 27]), (999, 0, 0, 0, []), (999, 0, 0, 0, []), (7, 40, 2, 23, []), (999, 0, 0, 0, []), (999, 0, 0, 0, []), (999, 0, 0, 0, []), (999, 0, 0, 0, []), (999, 0, 0, 0, []), (999, 0, 0, 0, []), (999, 0, 0, 0, []), (999, 0, 0, 0, []), (999, 0, 0, 0, []), (999, 0, 0, 0, []), (999, 0, 0, 0, [])], [(999, 0, 0, 0, []), (999, 0, 0, 0, []), (999, 0, 0, 0, []), (999, 0, 0, 0, []), (999, 0, 0, 0, []), (999, 0, 0, 0, []), (999, 0, 0, 0, []), (999, 0, 0, 0, []), (3, 34359738360, 0, 41, []), (64, 0, 0, 42, [])]]
def ztb_19 : zxTB := [[(0, 0, 0, 1, []), (3, 0, 0, 2, []), (15, 161415169, 0, 5, [27]), (999, 0, 0, 0, []), (999, 0, 0, 0, []), (0, 0, 0, 6, []), (2, 162398376, 15, 9, [27]), (999, 0, 0, 0, []), (999, 0, 0, 0, []), (7, 15, 2, 12, []), (999, 0, 0, 0, []), (999, 0, 0, 0, []), (999, 0, 0, 0, []), (999, 0, 0, 0, []), (999, 0, 0, 0, []), (0, 0, 0, 16, [])], [(1, 1, 0, 17, []), (70, 193593580, 3, 20, [2, 27]), (999, 0, 0, 0, []), (999, 0, 0, 0, []), (7, 43, 2, 23, []), (999, 0, 0, 0, []), (999, 0, 0, 0, []), (999, 0, 0, 0, []), (999, 0, 0, 0, []), (999, 0, 0, 0, []), (999, 0, 0, 0, []), (999, 0, 0, 0, []), (999, 0, 0, 0, []), (999, 0, 0, 0, []), (999, 0, 0, 0, []), (999, 0, 0, 0, [])], [(999, 0, 0, 0, []), (999, 0, 0, 0, []), (999, 0, 0, 0, []), (999, 0, 0, 0, []), (999, 0, 0, 0, []), (999, 0, 0, 0, []), (999, 0, 0, 0, []), (999, 0, 0, 0, []), (999, 0, 0, 0, []), (999, 0, 0, 0, []), (999, 0, 0, 0, []), (3, 34359738360, 0, 44, []), (64, 0, 0, 45, [])]]
def ztb_20 : zxTB := [[(0, 0, 0, 1, []), (3, 0, 0, 2, []), (15, 2752539, 0, 5, [20]), (999, 0, 0, 0, []), (999, 0, 0, 0, []), (0, 0, 0, 6, []), (3, 0, 0, 7, []), (15, 3080223, 1, 10, [20]), (999, 0, 0, 0, []), (999, 0, 0, 0, []), (0, 0, 0, 11, []), (25, 1, 0, 12, []), (15, 3407906, 130, 15, [20]), (999, 0, 0, 0, []), (999, 0, 0, 0, []), (0, 0, 0, 16, [])], [(3, 0, 0, 17, []), (15, 3735590, 3, 20, [20]), (999, 0, 0, 0, []), (999, 0, 0, 0, []), (0, 0, 0, 21, []), (3, 0, 0, 22, []), (15, 4128809, 4, 25, [20]), (999, 0, 0, 0, []), (999, 0, 0, 0, []), (0, 0, 0, 26, []), (3, 0, 0, 27, []), (15, 4522028, 5, 30, [20]), (999, 0, 0, 0, []), (999, 0, 0, 0, []), (0, 0, 0, 31, []), (3, 0, 0, 32, [])], [(15, 4849711, 6, 35, [20]), (999, 0, 0, 0, []), (999, 0, 0, 0, []), (0, 0, 0, 36, []), (3, 0, 0, 37, []), (15, 5177394, 7, 40, [20]), (999, 0, 0, 0, []), (999, 0, 0, 0, []), (0, 0, 0, 41, []), (2, 6094866, 10, 44, [20]), (999, 0, 0, 0, []), (999, 0, 0, 0, []), (3, 34359738360, 0, 45, []), (73, 2490389, 2, 48, [2]), (999, 0, 0, 0, []), (999, 0, 0, 0, [])], [(0, 0, 0, 49, []), (3, 0, 0, 50, []), (15, 6422581, 11, 53, [20]), (999, 0, 0, 0, []), (999, 0, 0, 0, []), (0, 0, 0, 54, []), (3, 0, 0, 55, []), (15, 6619192, 12, 58, [20]), (999, 0, 0, 0, []), (999, 0, 0, 0, []), (67, 0, 0, 59, [])]]
def ztb_21 : zxTB := [[(0, 0, 0, 1, []), (3, 0, 0, 2, []), (15, 161415169, 0, 5, [27]), (999, 0, 0, 0, []), (999, 0, 0, 0, []), (1, 1, 0, 6, []), (20, 0, 0, 7, []), (25, 1, 0, 8, []), (24, 41, 189530401, 11, []), (999, 0, 0, 0, []), (999, 0, 0, 0, []), (73, 183763083, 1, 14, [3]), (999, 0, 0, 0, []), (999, 0, 0, 0, []), (7, 33, 2, 17, []), (999, 0, 0, 0, [])], [(999, 0, 0, 0, []), (1, 2, 0, 18, []), (7, 33, 1, 21, []), (999, 0, 0, 0, []), (999, 0, 0, 0, []), (1, 3, 0, 22, []), (20, 0, 0, 23, []), (25, 1, 0, 24, []), (24, 65, 192938204, 27, []), (999, 0, 0, 0, []), (999, 0, 0, 0, []), (73, 183763083, 1, 30, [3]), (999, 0, 0, 0, []), (999, 0, 0, 0, []), (7, 35, 5, 33, []), (999, 0, 0, 0, [])], [(999, 0, 0, 0, []), (3, 34359738360, 0, 34, []), (64, 0, 0, 35, []), (0, 0, 0, 36, []), (1, 1, 0, 37, []), (70, 188678450, 10, 40, [2, 27]), (999, 0, 0, 0, []), (999, 0, 0, 0, []), (1, 2, 0, 41, []), (0, 0, 0, 42, []), (2, 163053647, 25, 45, [27]), (999, 0, 0, 0, []), (999, 0, 0, 0, []), (1, 1, 0, 46, []), (8, 1, 0, 47, []), (6, 53, 1, 50, [])], [(999, 0, 0, 0, []), (999, 0, 0, 0, []), (11, 34359738352, 0, 52, []), (999, 0, 0, 0, []), (64, 0, 0, 53, [])]]
def ztb_22 : zxTB := [[(0, 0, 0, 1, []), (3, 0, 0, 2, []), (15, 161415169, 0, 5, [27]), (999, 0, 0, 0, []), (999, 0, 0, 0, []), (1, 1, 0, 6, []), (20, 0, 0, 7, []), (25, 1, 0, 8, []), (24, 41, 189530401, 11, []), (999, 0, 0, 0, []), (999, 0, 0, 0, []), (73, 183763083, 1, 14, [3]), (999, 0, 0, 0, []), (999, 0, 0, 0, []), (7, 29, 2, 17, []), (999, 0, 0, 0, [])], [(999, 0, 0, 0, []), (1, 2, 0, 18, []), (20, 0, 0, 19, []), (25, 1, 0, 20, []), (24, 33, 210239809, 23, []), (999, 0, 0, 0, []), (999, 0, 0, 0, []), (73, 183763083, 1, 26, [3]), (999, 0, 0, 0, []), (999, 0, 0, 0, []), (7, 31, 5, 29, []), (999, 0, 0, 0, []), (999, 0, 0, 0, []), (3, 34359738360, 0, 30, []), (64, 0, 0, 31, []), (0, 0, 0, 32, [])], [(1, 1, 0, 33, []), (70, 188678450, 10, 36, [2, 27]), (999, 0, 0, 0, []), (999, 0, 0, 0, []), (3, 0, 0, 37, []), (13, 3, 5, 38, []), (3, 0, 0, 39, []), (14, 4, 5, 41, []), (999, 0, 0, 0, []), (4, 4, 0, 43, []), (999, 0, 0, 0, []), (0, 0, 0, 44, []), (2, 163053647, 25, 47, [27]), (999, 0, 0, 0, []), (999, 0, 0, 0, []), (1, 1, 0, 48, [])], [(8, 1, 0, 49, []), (6, 106, 6, 52, []), (999, 0, 0, 0, []), (999, 0, 0, 0, []), (999, 0, 0, 0, []), (999, 0, 0, 0, []), (999, 0, 0, 0, []), (999, 0, 0, 0, []), (999, 0, 0, 0, []), (999, 0, 0, 0, []), (999, 0, 0, 0, []), (999, 0, 0, 0, []), (999, 0, 0, 0, []), (999, 0, 0, 0, []), (999, 0, 0, 0, []), (999, 0, 0, 0, [])], [(999, 0, 0, 0, []), (999, 0, 0, 0, []), (999, 0, 0, 0, []), (999, 0, 0, 0, []), (999, 0, 0, 0, []), (999, 0, 0, 0, []), (999, 0, 0, 0, []), (999, 0, 0, 0, []), (999, 0, 0, 0, []), (999, 0, 0, 0, []), (999, 0, 0, 0, []), (999, 0, 0, 0, []), (999, 0, 0, 0, []), (999, 0, 0, 0, []), (999, 0, 0, 0, []), (999, 0, 0, 0, [])], [(999, 0, 0, 0, []), (999, 0, 0, 0, []), (999, 0, 0, 0, []), (999, 0, 0, 0, []), (999, 0, 0, 0, []), (999, 0, 0, 0, []), (999, 0, 0, 0, []), (999, 0, 0, 0, []), (999, 0, 0, 0, []), (999, 0, 0, 0, []), (999, 0, 0, 0, []), (999, 0, 0, 0, []), (999, 0, 0, 0, []), (999, 0, 0, 0, []), (999, 0, 0, 0, []), (999, 0, 0, 0, [])], [(999, 0, 0, 0, []), (999, 0, 0, 0, []), (999, 0, 0, 0, []), (999, 0, 0, 0, []), (999, 0, 0, 0, []), (999, 0, 0, 0, []), (999, 0, 0, 0, []), (999, 0, 0, 0, []), (999, 0, 0, 0, []), (999, 0, 0, 0, []), (1, 2, 0, 107, []), (7, 119, 5, 110, []), (999, 0, 0, 0, []), (999, 0, 0, 0, []), (0, 0, 0, 111, []), (2, 162857030, 22, 114, [27])], [(999, 0, 0, 0, []), (999, 0, 0, 0, []), (1, 1, 0, 115, []), (8, 1, 0, 116, []), (9, 148, 0, 119, []), (999, 0, 0, 0, []), (999, 0, 0, 0, []), (1, 2, 0, 120, []), (3, 8, 0, 121, []), (6, 133, 5, 124, []), (999, 0, 0, 0, []), (999, 0, 0, 0, []), (0, 0, 0, 125, []), (2, 162922569, 23, 128, [27]), (999, 0, 0, 0, []), (999, 0, 0, 0, [])], [(1, 1, 0, 129, []), (8, 1, 0, 130, []), (9, 148, 0, 133, []), (999, 0, 0, 0, []), (999, 0, 0, 0, []), (1, 2, 0, 134, []), (3, 16, 0, 135, []), (6, 147, 5, 138, []), (999, 0, 0, 0, []), (999, 0, 0, 0, []), (0, 0, 0, 139, []), (2, 163053647, 25, 142, [27]), (999, 0, 0, 0, []), (999, 0, 0, 0, []), (1, 1, 0, 143, []), (8, 1, 0, 144, [])], [(9, 148, 0, 147, []), (999, 0, 0, 0, []), (999, 0, 0, 0, []), (1, 3, 0, 148, []), (64, 0, 0, 149, [])]]
def ztb_23 : zxTB := [[(1, 1, 0, 1, []), (20, 0, 0, 2, []), (25, 1, 0, 3, []), (24, 41, 189530401, 6, []), (999, 0, 0, 0, []), (999, 0, 0, 0, []), (73, 183763083, 1, 9, [3]), (999, 0, 0, 0, []), (999, 0, 0, 0, []), (7, 30, 2, 12, []), (999, 0, 0, 0, []), (999, 0, 0, 0, []), (1, 2, 0, 13, []), (20, 0, 0, 14, []), (25, 1, 0, 15, []), (0, 0, 0, 16, [])], [(2, 162857030, 22, 19, [27]), (999, 0, 0, 0, []), (999, 0, 0, 0, []), (1, 1, 0, 20, []), (8, 1, 0, 21, []), (3, 8, 0, 22, []), (19, 0, 0, 23, []), (20, 0, 0, 24, []), (73, 183763083, 1, 27, [3]), (999, 0, 0, 0, []), (999, 0, 0, 0, []), (7, 34, 5, 30, []), (999, 0, 0, 0, []), (999, 0, 0, 0, []), (3, 8, 0, 31, []), (9, 35, 0, 34, [])], [(999, 0, 0, 0, []), (999, 0, 0, 0, []), (999, 0, 0, 0, []), (65, 0, 0, 36, [])]]
def ztb_24 : zxTB := [[(0, 0, 0, 1, []), (3, 0, 0, 2, []), (15, 161415169, 0, 5, [27]), (999, 0, 0, 0, []), (999, 0, 0, 0, []), (1, 1, 0, 6, []), (20, 0, 0, 7, []), (25, 1, 0, 8, []), (25, 9, 0, 9, []), (73, 183763083, 1, 12, [3]), (999, 0, 0, 0, []), (999, 0, 0, 0, []), (7, 48, 2, 15, []), (999, 0, 0, 0, []), (999, 0, 0, 0, []), (1, 2, 0, 16, [])], [(20, 0, 0, 17, []), (25, 1, 0, 18, []), (1, 1, 0, 19, []), (7, 28, 5, 22, []), (999, 0, 0, 0, []), (999, 0, 0, 0, []), (24, 385, 184615065, 25, []), (999, 0, 0, 0, []), (999, 0, 0, 0, []), (9, 31, 0, 28, []), (999, 0, 0, 0, []), (999, 0, 0, 0, []), (24, 1281, 197853447, 31, []), (999, 0, 0, 0, []), (999, 0, 0, 0, []), (73, 183763083, 1, 34, [3])], [(999, 0, 0, 0, []), (999, 0, 0, 0, []), (7, 48, 2, 37, []), (999, 0, 0, 0, []), (999, 0, 0, 0, []), (1, 3, 0, 38, []), (20, 0, 0, 39, []), (25, 1, 0, 40, []), (1, 2, 0, 41, []), (20, 0, 0, 42, []), (73, 183763083, 1, 45, [3]), (999, 0, 0, 0, []), (999, 0, 0, 0, []), (7, 50, 5, 48, []), (999, 0, 0, 0, []), (999, 0, 0, 0, [])], [(3, 34359738360, 0, 49, []), (64, 0, 0, 50, []), (0, 0, 0, 51, []), (2, 162660412, 19, 54, [27]), (999, 0, 0, 0, []), (999, 0, 0, 0, []), (1, 1, 0, 55, []), (8, 1, 0, 56, []), (14, 4, 5, 58, []), (999, 0, 0, 0, []), (0, 0, 0, 59, []), (2, 162660412, 19, 62, [27]), (999, 0, 0, 0, []), (999, 0, 0, 0, []), (1, 1, 0, 63, []), (1, 2, 0, 64, [])], [(16, 1, 0, 65, []), (0, 0, 0, 66, []), (2, 162725951, 20, 69, [27]), (999, 0, 0, 0, []), (999, 0, 0, 0, []), (1, 1, 0, 70, []), (1, 3, 0, 71, []), (16, 1, 0, 72, []), (4, 4, 0, 74, []), (999, 0, 0, 0, []), (64, 0, 0, 75, [])]]
def ztb_25 : zxTB := [[(0, 0, 0, 1, []), (3, 0, 0, 2, []), (15, 161415169, 0, 5, [27]), (999, 0, 0, 0, []), (999, 0, 0, 0, []), (1, 1, 0, 6, []), (20, 0, 0, 7, []), (25, 1, 0, 8, []), (24, 153, 224330225, 11, []), (999, 0, 0, 0, []), (999, 0, 0, 0, []), (73, 183763083, 1, 14, [3]), (999, 0, 0, 0, []), (999, 0, 0, 0, []), (7, 19, 5, 17, []), (999, 0, 0, 0, [])], [(999, 0, 0, 0, []), (3, 34359738360, 0, 18, []), (64, 0, 0, 19, []), (0, 0, 0, 20, []), (2, 162398376, 15, 23, [27]), (999, 0, 0, 0, []), (999, 0, 0, 0, []), (7, 58, 2, 26, []), (999, 0, 0, 0, []), (999, 0, 0, 0, []), (999, 0, 0, 0, []), (999, 0, 0, 0, []), (999, 0, 0, 0, []), (999, 0, 0, 0, []), (999, 0, 0, 0, []), (999, 0, 0, 0, [])], [(999, 0, 0, 0, []), (999, 0, 0, 0, []), (999, 0, 0, 0, []), (999, 0, 0, 0, []), (999, 0, 0, 0, []), (999, 0, 0, 0, []), (999, 0, 0, 0, []), (999, 0, 0, 0, []), (999, 0, 0, 0, []), (999, 0, 0, 0, []), (999, 0, 0, 0, []), (999, 0, 0, 0, []), (999, 0, 0, 0, []), (999, 0, 0, 0, []), (999, 0, 0, 0, []), (999, 0, 0, 0, [])], [(999, 0, 0, 0, []), (999, 0, 0, 0, []), (999, 0, 0, 0, []), (999, 0, 0, 0, []), (999, 0, 0, 0, []), (999, 0, 0, 0, []), (999, 0, 0, 0, []), (999, 0, 0, 0, []), (999, 0, 0, 0, []), (999, 0, 0, 0, []), (3, 0, 0, 59, []), (13, 2, 4, 60, []), (3, 0, 0, 61, []), (13, 3, 4, 62, []), (1, 3, 0, 63, []), (0, 0, 0, 64, [])], [(2, 161874047, 7, 67, [27]), (999, 0, 0, 0, []), (999, 0, 0, 0, []), (6, 85, 6, 70, []), (999, 0, 0, 0, []), (999, 0, 0, 0, []), (999, 0, 0, 0, []), (999, 0, 0, 0, []), (999, 0, 0, 0, []), (999, 0, 0, 0, []), (999, 0, 0, 0, []), (999, 0, 0, 0, []), (999, 0, 0, 0, []), (999, 0, 0, 0, []), (999, 0, 0, 0, []), (999, 0, 0, 0, [])], [(999, 0, 0, 0, []), (999, 0, 0, 0, []), (999, 0, 0, 0, []), (999, 0, 0, 0, []), (999, 0, 0, 0, []), (1, 1, 0, 86, []), (46, 314, 2147483648, 180, [180, 185, 191, 197, 202, 210, 220, 225, 230, 239, 244, 246, 261, 276, 281, 294, 299, 304, 314, 309]), (999, 0, 0, 0, []), (999, 0, 0, 0, []), (999, 0, 0, 0, []), (999, 0, 0, 0, []), (999, 0, 0, 0, []), (999, 0, 0, 0, []), (999, 0, 0, 0, []), (999, 0, 0, 0, []), (999, 0, 0, 0, [])], [(999, 0, 0, 0, []), (999, 0, 0, 0, []), (999, 0, 0, 0, []), (999, 0, 0, 0, []), (999, 0, 0, 0, []), (999, 0, 0, 0, []), (999, 0, 0, 0, []), (999, 0, 0, 0, []), (999, 0, 0, 0, []), (999, 0, 0, 0, []), (999, 0, 0, 0, []), (999, 0, 0, 0, []), (999, 0, 0, 0, []), (999, 0, 0, 0, []), (999, 0, 0, 0, []), (999, 0, 0, 0, [])], [(999, 0, 0, 0, []), (999, 0, 0, 0, []), (999, 0, 0, 0, []), (999, 0, 0, 0, []), (999, 0, 0, 0, []), (999, 0, 0, 0, []), (999, 0, 0, 0, []), (999, 0, 0, 0, []), (999, 0, 0, 0, []), (999, 0, 0, 0, []), (999, 0, 0, 0, []), (999, 0, 0, 0, []), (999, 0, 0, 0, []), (999, 0, 0, 0, []), (999, 0, 0, 0, []), (999, 0, 0, 0, [])], [(999, 0, 0, 0, []), (999, 0, 0, 0, []), (999, 0, 0, 0, []), (999, 0, 0, 0, []), (999, 0, 0, 0, []), (999, 0, 0, 0, []), (999, 0, 0, 0, []), (999, 0, 0, 0, []), (999, 0, 0, 0, []), (999, 0, 0, 0, []), (999, 0, 0, 0, []), (999, 0, 0, 0, []), (999, 0, 0, 0, []), (999, 0, 0, 0, []), (999, 0, 0, 0, []), (999, 0, 0, 0, [])], [(999, 0, 0, 0, []), (999, 0, 0, 0, []), (999, 0, 0, 0, []), (999, 0, 0, 0, []), (999, 0, 0, 0, []), (999, 0, 0, 0, []), (999, 0, 0, 0, []), (999, 0, 0, 0, []), (999, 0, 0, 0, []), (999, 0, 0, 0, []), (999, 0, 0, 0, []), (999, 0, 0, 0, []), (999, 0, 0, 0, []), (999, 0, 0, 0, []), (999, 0, 0, 0, []), (999, 0, 0, 0, [])], [(999, 0, 0, 0, []), (999, 0, 0, 0, []), (999, 0, 0, 0, []), (999, 0, 0, 0, []), (999, 0, 0, 0, []), (999, 0, 0, 0, []), (999, 0, 0, 0, []), (999, 0, 0, 0, []), (999, 0, 0, 0, []), (999, 0, 0, 0, []), (999, 0, 0, 0, []), (999, 0, 0, 0, []), (999, 0, 0, 0, []), (999, 0, 0, 0, []), (999, 0, 0, 0, []), (999, 0, 0, 0, [])], [(999, 0, 0, 0, []), (999, 0, 0, 0, []), (999, 0, 0, 0, []), (999, 0, 0, 0, []), (0, 0, 0, 181, []), (2, 162136229, 11, 184, [27]), (999, 0, 0, 0, []), (999, 0, 0, 0, []), (64, 0, 0, 185, []), (0, 0, 0, 186, []), (3, 0, 0, 187, []), (70, 222495197, 36, 190, [2, 27]), (999, 0, 0, 0, []), (999, 0, 0, 0, []), (64, 0, 0, 191, []), (0, 0, 0, 192, [])], [(3, 8, 0, 193, []), (70, 222495197, 36, 196, [2, 27]), (999, 0, 0, 0, []), (999, 0, 0, 0, []), (64, 0, 0, 197, []), (0, 0, 0, 198, []), (70, 224395763, 148, 201, [1, 27]), (999, 0, 0, 0, []), (999, 0, 0, 0, []), (64, 0, 0, 202, []), (0, 0, 0, 203, []), (3, 0, 0, 204, []), (11, 384, 0, 206, []), (999, 0, 0, 0, []), (70, 194117874, 105, 209, [3, 27]), (999, 0, 0, 0, [])], [(999, 0, 0, 0, []), (64, 0, 0, 210, []), (0, 0, 0, 211, []), (11, 384, 0, 213, []), (999, 0, 0, 0, []), (12, 1664, 0, 216, []), (999, 0, 0, 0, []), (999, 0, 0, 0, []), (70, 194117874, 105, 219, [3, 27]), (999, 0, 0, 0, []), (999, 0, 0, 0, []), (64, 0, 0, 220, []), (0, 0, 0, 221, []), (2, 163774697, 36, 224, [27]), (999, 0, 0, 0, []), (999, 0, 0, 0, [])], [(64, 0, 0, 225, []), (0, 0, 0, 226, []), (2, 163905803, 38, 229, [27]), (999, 0, 0, 0, []), (999, 0, 0, 0, []), (64, 0, 0, 230, []), (0, 0, 0, 231, []), (2, 161480717, 1, 234, [27]), (999, 0, 0, 0, []), (999, 0, 0, 0, []), (12, 20160, 0, 237, []), (999, 0, 0, 0, []), (999, 0, 0, 0, []), (8, 1, 0, 238, []), (64, 0, 0, 239, []), (0, 0, 0, 240, [])], [(2, 161874047, 7, 243, [27]), (999, 0, 0, 0, []), (999, 0, 0, 0, []), (64, 0, 0, 244, []), (1, 2, 0, 245, []), (64, 0, 0, 246, []), (0, 0, 0, 247, []), (2, 165019769, 56, 250, [27]), (999, 0, 0, 0, []), (999, 0, 0, 0, []), (3, 0, 0, 251, []), (33, 3, 0, 252, []), (7, 259, 2, 255, []), (999, 0, 0, 0, []), (999, 0, 0, 0, []), (999, 0, 0, 0, [])], [(999, 0, 0, 0, []), (999, 0, 0, 0, []), (999, 0, 0, 0, []), (3, 0, 0, 260, []), (64, 0, 0, 261, []), (0, 0, 0, 262, []), (2, 165019769, 56, 265, [27]), (999, 0, 0, 0, []), (999, 0, 0, 0, []), (3, 8, 0, 266, []), (33, 3, 0, 267, []), (7, 274, 2, 270, []), (999, 0, 0, 0, []), (999, 0, 0, 0, []), (999, 0, 0, 0, []), (999, 0, 0, 0, [])], [(999, 0, 0, 0, []), (999, 0, 0, 0, []), (3, 0, 0, 275, []), (64, 0, 0, 276, []), (0, 0, 0, 277, []), (2, 163971184, 39, 280, [27]), (999, 0, 0, 0, []), (999, 0, 0, 0, []), (64, 0, 0, 281, []), (0, 0, 0, 282, []), (2, 162398376, 15, 285, [27]), (999, 0, 0, 0, []), (999, 0, 0, 0, []), (7, 292, 2, 288, []), (999, 0, 0, 0, []), (999, 0, 0, 0, [])], [(999, 0, 0, 0, []), (999, 0, 0, 0, []), (999, 0, 0, 0, []), (999, 0, 0, 0, []), (3, 0, 0, 293, []), (64, 0, 0, 294, []), (0, 0, 0, 295, []), (2, 162529502, 17, 298, [27]), (999, 0, 0, 0, []), (999, 0, 0, 0, []), (64, 0, 0, 299, []), (0, 0, 0, 300, []), (2, 162201645, 12, 303, [27]), (999, 0, 0, 0, []), (999, 0, 0, 0, []), (64, 0, 0, 304, [])], [(0, 0, 0, 305, []), (2, 162267184, 13, 308, [27]), (999, 0, 0, 0, []), (999, 0, 0, 0, []), (64, 0, 0, 309, []), (0, 0, 0, 310, []), (2, 162332723, 14, 313, [27]), (999, 0, 0, 0, []), (999, 0, 0, 0, []), (64, 0, 0, 314, []), (0, 0, 0, 315, []), (70, 224657910, 149, 318, [1, 27]), (999, 0, 0, 0, []), (999, 0, 0, 0, []), (64, 0, 0, 319, [])]]
def ztb_26 : zxTB := [[(3, 0, 0, 1, []), (13, 1, 2, 2, []), (1, 1, 0, 3, []), (11, 48, 0, 5, []), (999, 0, 0, 0, []), (6, 23, 6, 8, []), (999, 0, 0, 0, []), (999, 0, 0, 0, []), (0, 0, 0, 9, []), (2, 32505867, 1, 12, [17]), (999, 0, 0, 0, []), (999, 0, 0, 0, []), (1, 1, 0, 13, []), (18, 6, 0, 14, []), (70, 65732682, 9, 17, [1, 23]), (999, 0, 0, 0, [])], [(999, 0, 0, 0, []), (10, 1, 2, 20, [1]), (999, 0, 0, 0, []), (999, 0, 0, 0, []), (9, 2, 0, 23, []), (999, 0, 0, 0, []), (999, 0, 0, 0, []), (67, 0, 0, 24, [])]]
def ztb_27 : zxTB := [[(0, 0, 0, 1, []), (3, 0, 0, 2, []), (15, 161415169, 0, 5, [27]), (999, 0, 0, 0, []), (999, 0, 0, 0, []), (0, 0, 0, 6, []), (1, 1, 0, 7, []), (1, 2, 0, 8, []), (70, 211353926, 23, 11, [3, 27]), (999, 0, 0, 0, []), (999, 0, 0, 0, []), (7, 18, 2, 14, []), (999, 0, 0, 0, []), (999, 0, 0, 0, []), (3, 34359738360, 0, 15, []), (9, 24, 0, 18, [])], [(999, 0, 0, 0, []), (999, 0, 0, 0, []), (999, 0, 0, 0, []), (999, 0, 0, 0, []), (999, 0, 0, 0, []), (999, 0, 0, 0, []), (999, 0, 0, 0, []), (999, 0, 0, 0, []), (64, 0, 0, 25, [])]]
def ztb_28 : zxTB := [[(0, 0, 0, 1, []), (3, 0, 0, 2, []), (15, 161415169, 0, 5, [27]), (999, 0, 0, 0, []), (999, 0, 0, 0, []), (0, 0, 0, 6, []), (1, 1, 0, 7, []), (1, 2, 0, 8, []), (70, 211353926, 23, 11, [3, 27]), (999, 0, 0, 0, []), (999, 0, 0, 0, []), (7, 26, 5, 14, []), (999, 0, 0, 0, []), (999, 0, 0, 0, []), (999, 0, 0, 0, []), (999, 0, 0, 0, [])], [(999, 0, 0, 0, []), (999, 0, 0, 0, []), (999, 0, 0, 0, []), (999, 0, 0, 0, []), (999, 0, 0, 0, []), (999, 0, 0, 0, []), (999, 0, 0, 0, []), (999, 0, 0, 0, []), (999, 0, 0, 0, []), (999, 0, 0, 0, []), (3, 34359738360, 0, 27, []), (64, 0, 0, 28, [])]]
def ztb_29 : zxTB := [[(1, 1, 0, 1, []), (7, 26, 1, 4, []), (999, 0, 0, 0, []), (999, 0, 0, 0, []), (1, 1, 0, 5, []), (11, 480, 0, 7, []), (999, 0, 0, 0, []), (6, 26, 6, 10, []), (999, 0, 0, 0, []), (999, 0, 0, 0, []), (0, 0, 0, 11, []), (2, 8716299, 0, 14, [24]), (999, 0, 0, 0, []), (999, 0, 0, 0, []), (1, 1, 0, 15, []), (18, 5, 0, 16, [])], [(2, 2687004, 0, 19, [20]), (999, 0, 0, 0, []), (999, 0, 0, 0, []), (7, 26, 2, 22, []), (999, 0, 0, 0, []), (999, 0, 0, 0, []), (3, 8, 0, 23, []), (9, 27, 0, 26, []), (999, 0, 0, 0, []), (999, 0, 0, 0, []), (3, 0, 0, 27, []), (65, 0, 0, 28, [])]]
def ztb_30 : zxTB := [[(0, 0, 0, 1, []), (3, 0, 0, 2, []), (15, 161415169, 0, 5, [27]), (999, 0, 0, 0, []), (999, 0, 0, 0, []), (1, 1, 0, 6, []), (3, 34359738360, 0, 7, []), (6, 31, 1, 10, []), (999, 0, 0, 0, []), (999, 0, 0, 0, []), (1, 2, 0, 11, []), (20, 0, 0, 12, []), (25, 1, 0, 13, []), (24, 33, 210239809, 16, []), (999, 0, 0, 0, []), (999, 0, 0, 0, [])], [(73, 183763083, 1, 19, [3]), (999, 0, 0, 0, []), (999, 0, 0, 0, []), (7, 31, 2, 22, []), (999, 0, 0, 0, []), (999, 0, 0, 0, []), (1, 1, 0, 23, []), (3, 34359738360, 0, 24, []), (6, 33, 5, 27, []), (999, 0, 0, 0, []), (999, 0, 0, 0, []), (1, 2, 0, 28, []), (7, 33, 2, 31, []), (999, 0, 0, 0, []), (999, 0, 0, 0, []), (3, 34359738360, 0, 32, [])], [(64, 0, 0, 33, []), (0, 0, 0, 34, []), (70, 212402518, 38, 37, [1, 27]), (999, 0, 0, 0, []), (999, 0, 0, 0, []), (1, 1, 0, 38, []), (3, 34359738360, 0, 39, []), (6, 47, 5, 42, []), (999, 0, 0, 0, []), (999, 0, 0, 0, []), (0, 0, 0, 43, []), (2, 163316041, 29, 46, [27]), (999, 0, 0, 0, []), (999, 0, 0, 0, []), (64, 0, 0, 47, []), (1, 1, 0, 48, [])], [(0, 0, 0, 49, []), (2, 163316041, 29, 52, [27]), (999, 0, 0, 0, []), (999, 0, 0, 0, []), (6, 58, 1, 55, []), (999, 0, 0, 0, []), (999, 0, 0, 0, []), (11, 34359738352, 0, 57, []), (999, 0, 0, 0, []), (64, 0, 0, 58, [])]]
def ztb_31 : zxTB := [[(0, 0, 0, 1, []), (3, 0, 0, 2, []), (15, 161415169, 0, 5, [27]), (999, 0, 0, 0, []), (999, 0, 0, 0, []), (1, 1, 0, 6, []), (20, 0, 0, 7, []), (25, 1, 0, 8, []), (25, 9, 0, 9, []), (73, 183763083, 1, 12, [3]), (999, 0, 0, 0, []), (999, 0, 0, 0, []), (7, 17, 5, 15, []), (999, 0, 0, 0, []), (999, 0, 0, 0, []), (3, 34359738360, 0, 16, [])], [(64, 0, 0, 17, []), (1, 2, 0, 18, []), (46, 102, 2147483648, 48, [48, 55, 75, 82]), (999, 0, 0, 0, []), (999, 0, 0, 0, []), (999, 0, 0, 0, []), (999, 0, 0, 0, []), (999, 0, 0, 0, []), (999, 0, 0, 0, []), (999, 0, 0, 0, []), (999, 0, 0, 0, []), (999, 0, 0, 0, []), (999, 0, 0, 0, []), (999, 0, 0, 0, []), (999, 0, 0, 0, []), (999, 0, 0, 0, [])], [(999, 0, 0, 0, []), (999, 0, 0, 0, []), (999, 0, 0, 0, []), (999, 0, 0, 0, []), (999, 0, 0, 0, []), (999, 0, 0, 0, []), (999, 0, 0, 0, []), (999, 0, 0, 0, []), (999, 0, 0, 0, []), (999, 0, 0, 0, []), (999, 0, 0, 0, []), (999, 0, 0, 0, []), (999, 0, 0, 0, []), (999, 0, 0, 0, []), (999, 0, 0, 0, []), (999, 0, 0, 0, [])], [(0, 0, 0, 49, []), (2, 163381339, 30, 52, [27]), (999, 0, 0, 0, []), (999, 0, 0, 0, []), (1, 1, 0, 53, []), (8, 1, 0, 54, []), (64, 0, 0, 55, []), (0, 0, 0, 56, []), (2, 163381339, 30, 59, [27]), (999, 0, 0, 0, []), (999, 0, 0, 0, []), (1, 1, 0, 60, []), (8, 1, 0, 61, []), (7, 68, 6, 64, []), (999, 0, 0, 0, []), (999, 0, 0, 0, [])], [(3, 0, 0, 65, []), (9, 74, 0, 68, []), (999, 0, 0, 0, []), (999, 0, 0, 0, []), (999, 0, 0, 0, []), (999, 0, 0, 0, []), (999, 0, 0, 0, []), (999, 0, 0, 0, []), (999, 0, 0, 0, []), (999, 0, 0, 0, []), (64, 0, 0, 75, []), (0, 0, 0, 76, []), (2, 163512417, 32, 79, [27]), (999, 0, 0, 0, []), (999, 0, 0, 0, []), (1, 1, 0, 80, [])], [(8, 1, 0, 81, []), (64, 0, 0, 82, []), (0, 0, 0, 83, []), (2, 163512417, 32, 86, [27]), (999, 0, 0, 0, []), (999, 0, 0, 0, []), (1, 1, 0, 87, []), (8, 1, 0, 88, []), (7, 95, 5, 91, []), (999, 0, 0, 0, []), (999, 0, 0, 0, []), (3, 0, 0, 92, []), (9, 101, 0, 95, []), (999, 0, 0, 0, []), (999, 0, 0, 0, []), (999, 0, 0, 0, [])], [(999, 0, 0, 0, []), (999, 0, 0, 0, []), (999, 0, 0, 0, []), (999, 0, 0, 0, []), (999, 0, 0, 0, []), (64, 0, 0, 102, []), (3, 34359738360, 0, 103, []), (64, 0, 0, 104, [])]]
def ztb_32 : zxTB := [[(0, 0, 0, 1, []), (3, 0, 0, 2, []), (15, 161415169, 0, 5, [27]), (999, 0, 0, 0, []), (999, 0, 0, 0, []), (1, 1, 0, 6, []), (20, 0, 0, 7, []), (25, 9, 0, 8, []), (24, 65, 192938204, 11, []), (999, 0, 0, 0, []), (999, 0, 0, 0, []), (73, 183763083, 1, 14, [3]), (999, 0, 0, 0, []), (999, 0, 0, 0, []), (7, 19, 5, 17, []), (999, 0, 0, 0, [])], [(999, 0, 0, 0, []), (3, 34359738360, 0, 18, []), (64, 0, 0, 19, []), (0, 0, 0, 20, []), (2, 162529502, 17, 23, [27]), (999, 0, 0, 0, []), (999, 0, 0, 0, []), (1, 1, 0, 24, []), (5, 0, 0, 25, []), (12, 2048, 0, 28, []), (999, 0, 0, 0, []), (999, 0, 0, 0, []), (6, 34, 3, 31, []), (999, 0, 0, 0, []), (999, 0, 0, 0, []), (999, 0, 0, 0, [])], [(999, 0, 0, 0, []), (999, 0, 0, 0, []), (3, 0, 0, 35, []), (14, 4, 5, 37, []), (999, 0, 0, 0, []), (4, 4, 0, 39, []), (999, 0, 0, 0, []), (1, 1, 0, 40, []), (6, 70, 6, 43, []), (999, 0, 0, 0, []), (999, 0, 0, 0, []), (0, 0, 0, 44, []), (2, 162463798, 16, 47, [27]), (999, 0, 0, 0, []), (999, 0, 0, 0, []), (0, 0, 0, 48, [])], [(2, 162529502, 17, 51, [27]), (999, 0, 0, 0, []), (999, 0, 0, 0, []), (4, 4, 0, 53, []), (999, 0, 0, 0, []), (5, 0, 0, 54, []), (22, 2, 0, 55, []), (11, 64, 0, 57, []), (999, 0, 0, 0, []), (4, 4, 0, 59, []), (999, 0, 0, 0, []), (17, 0, 0, 60, []), (42, 0, 0, 61, []), (40, 0, 0, 62, []), (39, 0, 0, 63, []), (34, 2, 0, 64, [])], [(10, 4, 5, 67, [1]), (999, 0, 0, 0, []), (999, 0, 0, 0, []), (9, 37, 0, 70, []), (999, 0, 0, 0, []), (999, 0, 0, 0, []), (0, 0, 0, 71, []), (0, 0, 0, 72, []), (2, 162529502, 17, 75, [27]), (999, 0, 0, 0, []), (999, 0, 0, 0, []), (1, 1, 0, 76, []), (5, 0, 0, 77, []), (15, 162529502, 17, 80, [27]), (999, 0, 0, 0, []), (999, 0, 0, 0, [])], [(0, 0, 0, 81, []), (2, 162529502, 17, 84, [27]), (999, 0, 0, 0, []), (999, 0, 0, 0, []), (64, 0, 0, 85, [])]]
def ztb_33 : zxTB := [[(0, 0, 0, 1, []), (3, 0, 0, 2, []), (15, 161415169, 0, 5, [27]), (999, 0, 0, 0, []), (999, 0, 0, 0, []), (0, 0, 0, 6, []), (2, 162398376, 15, 9, [27]), (999, 0, 0, 0, []), (999, 0, 0, 0, []), (7, 15, 2, 12, []), (999, 0, 0, 0, []), (999, 0, 0, 0, []), (999, 0, 0, 0, []), (999, 0, 0, 0, []), (999, 0, 0, 0, []), (1, 1, 0, 16, [])], [(20, 0, 0, 17, []), (25, 1, 0, 18, []), (24, 41, 189530401, 21, []), (999, 0, 0, 0, []), (999, 0, 0, 0, []), (73, 183763083, 1, 24, [3]), (999, 0, 0, 0, []), (999, 0, 0, 0, []), (7, 29, 5, 27, []), (999, 0, 0, 0, []), (999, 0, 0, 0, []), (3, 34359738360, 0, 28, []), (64, 0, 0, 29, []), (0, 0, 0, 30, []), (2, 163971184, 39, 33, [27]), (999, 0, 0, 0, [])], [(999, 0, 0, 0, []), (7, 45, 6, 36, []), (999, 0, 0, 0, []), (999, 0, 0, 0, []), (0, 0, 0, 37, []), (2, 162857030, 22, 40, [27]), (999, 0, 0, 0, []), (999, 0, 0, 0, []), (1, 1, 0, 41, []), (8, 1, 0, 42, []), (7, 48, 5, 45, []), (999, 0, 0, 0, []), (999, 0, 0, 0, []), (11, 34359738320, 0, 47, []), (999, 0, 0, 0, []), (64, 0, 0, 48, [])]]
def ztb_34 : zxTB := [[(3, 0, 0, 1, []), (13, 1, 2, 2, []), (56, 0, 0, 36, []), (999, 0, 0, 0, []), (999, 0, 0, 0, []), (999, 0, 0, 0, []), (999, 0, 0, 0, []), (999, 0, 0, 0, []), (999, 0, 0, 0, []), (999, 0, 0, 0, []), (999, 0, 0, 0, []), (999, 0, 0, 0, []), (999, 0, 0, 0, []), (999, 0, 0, 0, []), (999, 0, 0, 0, []), (999, 0, 0, 0, [])], [(999, 0, 0, 0, []), (999, 0, 0, 0, []), (999, 0, 0, 0, []), (999, 0, 0, 0, []), (999, 0, 0, 0, []), (999, 0, 0, 0, []), (999, 0, 0, 0, []), (999, 0, 0, 0, []), (999, 0, 0, 0, []), (999, 0, 0, 0, []), (999, 0, 0, 0, []), (999, 0, 0, 0, []), (999, 0, 0, 0, []), (999, 0, 0, 0, []), (999, 0, 0, 0, []), (999, 0, 0, 0, [])], [(999, 0, 0, 0, []), (999, 0, 0, 0, []), (999, 0, 0, 0, []), (999, 0, 0, 0, []), (3, 0, 0, 37, []), (13, 1, 2, 38, []), (1, 1, 0, 39, []), (11, 480, 0, 41, []), (999, 0, 0, 0, []), (6, 70, 6, 44, []), (999, 0, 0, 0, []), (999, 0, 0, 0, []), (0, 0, 0, 45, []), (2, 161742876, 5, 48, [27]), (999, 0, 0, 0, []), (999, 0, 0, 0, [])], [(11, 480, 0, 50, []), (999, 0, 0, 0, []), (0, 0, 0, 51, []), (2, 161874047, 7, 54, [27]), (999, 0, 0, 0, []), (999, 0, 0, 0, []), (17, 0, 0, 55, []), (1, 1, 0, 56, []), (5, 0, 0, 57, []), (0, 0, 0, 58, []), (2, 161546257, 2, 61, [27]), (999, 0, 0, 0, []), (999, 0, 0, 0, []), (1, 1, 0, 62, []), (36, 4, 0, 63, []), (37, 4, 0, 64, [])], [(10, 1, 2, 67, [1]), (999, 0, 0, 0, []), (999, 0, 0, 0, []), (9, 38, 0, 70, []), (999, 0, 0, 0, []), (999, 0, 0, 0, []), (67, 0, 0, 71, [])]]
def ztb_35 : zxTB := [[(0, 0, 0, 1, []), (3, 0, 0, 2, []), (15, 161415169, 0, 5, [27]), (999, 0, 0, 0, []), (999, 0, 0, 0, []), (1, 1, 0, 6, []), (20, 0, 0, 7, []), (25, 9, 0, 8, []), (24, 4001, 215024105, 11, []), (999, 0, 0, 0, []), (999, 0, 0, 0, []), (73, 183763083, 1, 14, [3]), (999, 0, 0, 0, []), (999, 0, 0, 0, []), (7, 19, 5, 17, []), (999, 0, 0, 0, [])], [(999, 0, 0, 0, []), (3, 34359738360, 0, 18, []), (64, 0, 0, 19, []), (3, 0, 0, 20, []), (13, 2, 3, 21, []), (80, 68, 26, 62, [1111, 11]), (999, 0, 0, 0, []), (999, 0, 0, 0, []), (999, 0, 0, 0, []), (999, 0, 0, 0, []), (0, 0, 0, 27, []), (26, 0, 0, 28, []), (2, 162136229, 11, 31, [27]), (999, 0, 0, 0, []), (999, 0, 0, 0, []), (3, 8, 0, 32, [])], [(5, 0, 0, 33, []), (15, 162136229, 11, 36, [27]), (999, 0, 0, 0, []), (999, 0, 0, 0, []), (0, 0, 0, 37, []), (2, 162398376, 15, 40, [27]), (999, 0, 0, 0, []), (999, 0, 0, 0, []), (7, 62, 5, 43, []), (999, 0, 0, 0, []), (999, 0, 0, 0, []), (0, 0, 0, 44, []), (3, 0, 0, 45, []), (15, 164954497, 119, 48, [27]), (999, 0, 0, 0, []), (999, 0, 0, 0, [])], [(0, 0, 0, 49, []), (3, 8, 0, 50, []), (70, 215089643, 48, 53, [2, 27]), (999, 0, 0, 0, []), (999, 0, 0, 0, []), (0, 0, 0, 54, []), (3, 0, 0, 55, []), (70, 215089643, 48, 58, [2, 27]), (999, 0, 0, 0, []), (999, 0, 0, 0, []), (0, 0, 0, 59, []), (70, 222233070, 98, 62, [1, 27]), (999, 0, 0, 0, []), (999, 0, 0, 0, []), (999, 0, 0, 0, []), (999, 0, 0, 0, [])], [(999, 0, 0, 0, []), (999, 0, 0, 0, []), (999, 0, 0, 0, []), (999, 0, 0, 0, []), (3, 0, 0, 69, []), (64, 0, 0, 70, [])]]
def ztb_36 : zxTB := [[(3, 0, 0, 1, []), (13, 2, 4, 2, []), (3, 8, 0, 3, []), (13, 3, 4, 4, []), (1, 3, 0, 5, []), (11, 480, 0, 7, []), (999, 0, 0, 0, []), (6, 39, 6, 10, []), (999, 0, 0, 0, []), (999, 0, 0, 0, []), (1, 2, 0, 11, []), (0, 0, 0, 12, []), (1, 3, 0, 13, []), (3, 0, 0, 14, []), (70, 183959695, 0, 17, [3, 27]), (999, 0, 0, 0, [])], [(999, 0, 0, 0, []), (3, 16, 0, 18, []), (6, 30, 5, 21, []), (999, 0, 0, 0, []), (999, 0, 0, 0, []), (999, 0, 0, 0, []), (999, 0, 0, 0, []), (999, 0, 0, 0, []), (999, 0, 0, 0, []), (999, 0, 0, 0, []), (999, 0, 0, 0, []), (999, 0, 0, 0, []), (999, 0, 0, 0, []), (999, 0, 0, 0, []), (3, 0, 0, 31, []), (5, 0, 0, 32, [])], [(13, 2, 4, 33, []), (10, 3, 4, 36, [1]), (999, 0, 0, 0, []), (999, 0, 0, 0, []), (9, 4, 0, 39, []), (999, 0, 0, 0, []), (999, 0, 0, 0, []), (1, 2, 0, 40, []), (64, 0, 0, 41, [])]]
def ztb_37 : zxTB := [[(3, 0, 0, 1, []), (13, 1, 2, 2, []), (1, 1, 0, 3, []), (11, 48, 0, 5, []), (999, 0, 0, 0, []), (6, 19, 6, 8, []), (999, 0, 0, 0, []), (999, 0, 0, 0, []), (0, 0, 0, 9, []), (1, 1, 0, 10, []), (70, 188678450, 10, 13, [2, 27]), (999, 0, 0, 0, []), (999, 0, 0, 0, []), (10, 1, 2, 16, [1]), (999, 0, 0, 0, []), (999, 0, 0, 0, [])], [(9, 2, 0, 19, []), (999, 0, 0, 0, []), (999, 0, 0, 0, []), (67, 0, 0, 20, [])]]
def ztb_38 : zxTB := [[(0, 0, 0, 1, []), (70, 188416309, 37, 4, [1, 27]), (999, 0, 0, 0, []), (999, 0, 0, 0, []), (0, 0, 0, 5, []), (3, 0, 0, 6, []), (15, 163316041, 29, 9, [27]), (999, 0, 0, 0, []), (999, 0, 0, 0, []), (3, 0, 0, 10, []), (13, 1, 7, 11, []), (1, 1, 0, 12, []), (11, 48, 0, 14, []), (999, 0, 0, 0, []), (6, 194, 6, 17, []), (999, 0, 0, 0, [])], [(999, 0, 0, 0, []), (3, 0, 0, 18, []), (13, 2, 7, 19, []), (1, 2, 0, 20, []), (0, 0, 0, 21, []), (2, 163053647, 25, 24, [27]), (999, 0, 0, 0, []), (999, 0, 0, 0, []), (1, 1, 0, 25, []), (8, 1, 0, 26, []), (6, 188, 6, 29, []), (999, 0, 0, 0, []), (999, 0, 0, 0, []), (999, 0, 0, 0, []), (999, 0, 0, 0, []), (999, 0, 0, 0, [])], [(999, 0, 0, 0, []), (999, 0, 0, 0, []), (999, 0, 0, 0, []), (999, 0, 0, 0, []), (999, 0, 0, 0, []), (999, 0, 0, 0, []), (999, 0, 0, 0, []), (999, 0, 0, 0, []), (999, 0, 0, 0, []), (999, 0, 0, 0, []), (999, 0, 0, 0, []), (999, 0, 0, 0, []), (999, 0, 0, 0, []), (999, 0, 0, 0, []), (999, 0, 0, 0, []), (999, 0, 0, 0, [])], [(999, 0, 0, 0, []), (999, 0, 0, 0, []), (999, 0, 0, 0, []), (999, 0, 0, 0, []), (999, 0, 0, 0, []), (999, 0, 0, 0, []), (999, 0, 0, 0, []), (999, 0, 0, 0, []), (999, 0, 0, 0, []), (999, 0, 0, 0, []), (999, 0, 0, 0, []), (999, 0, 0, 0, []), (999, 0, 0, 0, []), (999, 0, 0, 0, []), (999, 0, 0, 0, []), (999, 0, 0, 0, [])], [(999, 0, 0, 0, []), (999, 0, 0, 0, []), (999, 0, 0, 0, []), (999, 0, 0, 0, []), (999, 0, 0, 0, []), (999, 0, 0, 0, []), (999, 0, 0, 0, []), (999, 0, 0, 0, []), (999, 0, 0, 0, []), (999, 0, 0, 0, []), (999, 0, 0, 0, []), (999, 0, 0, 0, []), (999, 0, 0, 0, []), (999, 0, 0, 0, []), (999, 0, 0, 0, []), (999, 0, 0, 0, [])], [(999, 0, 0, 0, []), (999, 0, 0, 0, []), (999, 0, 0, 0, []), (999, 0, 0, 0, []), (999, 0, 0, 0, []), (999, 0, 0, 0, []), (999, 0, 0, 0, []), (999, 0, 0, 0, []), (999, 0, 0, 0, []), (999, 0, 0, 0, []), (999, 0, 0, 0, []), (999, 0, 0, 0, []), (999, 0, 0, 0, []), (999, 0, 0, 0, []), (999, 0, 0, 0, []), (999, 0, 0, 0, [])], [(999, 0, 0, 0, []), (999, 0, 0, 0, []), (999, 0, 0, 0, []), (999, 0, 0, 0, []), (999, 0, 0, 0, []), (999, 0, 0, 0, []), (999, 0, 0, 0, []), (999, 0, 0, 0, []), (999, 0, 0, 0, []), (999, 0, 0, 0, []), (999, 0, 0, 0, []), (999, 0, 0, 0, []), (999, 0, 0, 0, []), (999, 0, 0, 0, []), (999, 0, 0, 0, []), (999, 0, 0, 0, [])], [(999, 0, 0, 0, []), (999, 0, 0, 0, []), (999, 0, 0, 0, []), (999, 0, 0, 0, []), (999, 0, 0, 0, []), (999, 0, 0, 0, []), (999, 0, 0, 0, []), (999, 0, 0, 0, []), (999, 0, 0, 0, []), (999, 0, 0, 0, []), (999, 0, 0, 0, []), (999, 0, 0, 0, []), (999, 0, 0, 0, []), (999, 0, 0, 0, []), (999, 0, 0, 0, []), (999, 0, 0, 0, [])], [(999, 0, 0, 0, []), (999, 0, 0, 0, []), (999, 0, 0, 0, []), (999, 0, 0, 0, []), (999, 0, 0, 0, []), (999, 0, 0, 0, []), (999, 0, 0, 0, []), (999, 0, 0, 0, []), (999, 0, 0, 0, []), (999, 0, 0, 0, []), (999, 0, 0, 0, []), (999, 0, 0, 0, []), (999, 0, 0, 0, []), (999, 0, 0, 0, []), (999, 0, 0, 0, []), (999, 0, 0, 0, [])], [(999, 0, 0, 0, []), (999, 0, 0, 0, []), (999, 0, 0, 0, []), (999, 0, 0, 0, []), (999, 0, 0, 0, []), (999, 0, 0, 0, []), (999, 0, 0, 0, []), (999, 0, 0, 0, []), (999, 0, 0, 0, []), (999, 0, 0, 0, []), (999, 0, 0, 0, []), (999, 0, 0, 0, []), (999, 0, 0, 0, []), (999, 0, 0, 0, []), (999, 0, 0, 0, []), (999, 0, 0, 0, [])], [(999, 0, 0, 0, []), (999, 0, 0, 0, []), (999, 0, 0, 0, []), (999, 0, 0, 0, []), (999, 0, 0, 0, []), (999, 0, 0, 0, []), (999, 0, 0, 0, []), (999, 0, 0, 0, []), (999, 0, 0, 0, []), (999, 0, 0, 0, []), (999, 0, 0, 0, []), (999, 0, 0, 0, []), (999, 0, 0, 0, []), (999, 0, 0, 0, []), (999, 0, 0, 0, []), (999, 0, 0, 0, [])], [(999, 0, 0, 0, []), (999, 0, 0, 0, []), (999, 0, 0, 0, []), (999, 0, 0, 0, []), (999, 0, 0, 0, []), (999, 0, 0, 0, []), (999, 0, 0, 0, []), (999, 0, 0, 0, []), (999, 0, 0, 0, []), (999, 0, 0, 0, []), (999, 0, 0, 0, []), (999, 0, 0, 0, []), (10, 1, 7, 191, [1]), (999, 0, 0, 0, []), (999, 0, 0, 0, []), (9, 11, 0, 194, [])], [(999, 0, 0, 0, []), (999, 0, 0, 0, []), (3, 0, 0, 195, []), (13, 1, 7, 196, []), (3, 0, 0, 197, []), (13, 2, 7, 198, []), (1, 2, 0, 199, []), (0, 0, 0, 200, []), (2, 163316041, 29, 203, [27]), (999, 0, 0, 0, []), (999, 0, 0, 0, []), (6, 328, 6, 206, []), (999, 0, 0, 0, []), (999, 0, 0, 0, []), (999, 0, 0, 0, []), (999, 0, 0, 0, [])], [(999, 0, 0, 0, []), (999, 0, 0, 0, []), (999, 0, 0, 0, []), (999, 0, 0, 0, []), (999, 0, 0, 0, []), (999, 0, 0, 0, []), (999, 0, 0, 0, []), (999, 0, 0, 0, []), (999, 0, 0, 0, []), (999, 0, 0, 0, []), (999, 0, 0, 0, []), (999, 0, 0, 0, []), (999, 0, 0, 0, []), (999, 0, 0, 0, []), (999, 0, 0, 0, []), (999, 0, 0, 0, [])], [(999, 0, 0, 0, []), (999, 0, 0, 0, []), (999, 0, 0, 0, []), (999, 0, 0, 0, []), (999, 0, 0, 0, []), (999, 0, 0, 0, []), (999, 0, 0, 0, []), (999, 0, 0, 0, []), (999, 0, 0, 0, []), (999, 0, 0, 0, []), (999, 0, 0, 0, []), (999, 0, 0, 0, []), (999, 0, 0, 0, []), (999, 0, 0, 0, []), (999, 0, 0, 0, []), (999, 0, 0, 0, [])], [(999, 0, 0, 0, []), (999, 0, 0, 0, []), (999, 0, 0, 0, []), (999, 0, 0, 0, []), (999, 0, 0, 0, []), (999, 0, 0, 0, []), (999, 0, 0, 0, []), (999, 0, 0, 0, []), (999, 0, 0, 0, []), (999, 0, 0, 0, []), (999, 0, 0, 0, []), (999, 0, 0, 0, []), (999, 0, 0, 0, []), (999, 0, 0, 0, []), (999, 0, 0, 0, []), (999, 0, 0, 0, [])], [(999, 0, 0, 0, []), (999, 0, 0, 0, []), (999, 0, 0, 0, []), (999, 0, 0, 0, []), (999, 0, 0, 0, []), (999, 0, 0, 0, []), (999, 0, 0, 0, []), (999, 0, 0, 0, []), (999, 0, 0, 0, []), (999, 0, 0, 0, []), (999, 0, 0, 0, []), (999, 0, 0, 0, []), (999, 0, 0, 0, []), (999, 0, 0, 0, []), (999, 0, 0, 0, []), (999, 0, 0, 0, [])], [(999, 0, 0, 0, []), (999, 0, 0, 0, []), (999, 0, 0, 0, []), (999, 0, 0, 0, []), (999, 0, 0, 0, []), (999, 0, 0, 0, []), (999, 0, 0, 0, []), (999, 0, 0, 0, []), (999, 0, 0, 0, []), (999, 0, 0, 0, []), (999, 0, 0, 0, []), (999, 0, 0, 0, []), (999, 0, 0, 0, []), (999, 0, 0, 0, []), (999, 0, 0, 0, []), (999, 0, 0, 0, [])], [(999, 0, 0, 0, []), (999, 0, 0, 0, []), (999, 0, 0, 0, []), (999, 0, 0, 0, []), (999, 0, 0, 0, []), (999, 0, 0, 0, []), (999, 0, 0, 0, []), (999, 0, 0, 0, []), (999, 0, 0, 0, []), (999, 0, 0, 0, []), (999, 0, 0, 0, []), (999, 0, 0, 0, []), (999, 0, 0, 0, []), (999, 0, 0, 0, []), (999, 0, 0, 0, []), (999, 0, 0, 0, [])], [(999, 0, 0, 0, []), (999, 0, 0, 0, []), (999, 0, 0, 0, []), (999, 0, 0, 0, []), (999, 0, 0, 0, []), (999, 0, 0, 0, []), (999, 0, 0, 0, []), (999, 0, 0, 0, []), (999, 0, 0, 0, []), (999, 0, 0, 0, []), (999, 0, 0, 0, []), (999, 0, 0, 0, []), (999, 0, 0, 0, []), (999, 0, 0, 0, []), (999, 0, 0, 0, []), (999, 0, 0, 0, [])], [(999, 0, 0, 0, []), (999, 0, 0, 0, []), (999, 0, 0, 0, []), (999, 0, 0, 0, []), (999, 0, 0, 0, []), (999, 0, 0, 0, []), (999, 0, 0, 0, []), (999, 0, 0, 0, []), (0, 0, 0, 329, []), (1, 1, 0, 330, []), (15, 163316041, 29, 333, [27]), (999, 0, 0, 0, []), (999, 0, 0, 0, []), (3, 8, 0, 334, []), (13, 2, 7, 335, []), (1, 2, 0, 336, [])], [(0, 0, 0, 337, []), (2, 163316041, 29, 340, [27]), (999, 0, 0, 0, []), (999, 0, 0, 0, []), (6, 447, 6, 343, []), (999, 0, 0, 0, []), (999, 0, 0, 0, []), (999, 0, 0, 0, []), (999, 0, 0, 0, []), (999, 0, 0, 0, []), (999, 0, 0, 0, []), (999, 0, 0, 0, []), (999, 0, 0, 0, []), (999, 0, 0, 0, []), (999, 0, 0, 0, []), (999, 0, 0, 0, [])], [(999, 0, 0, 0, []), (999, 0, 0, 0, []), (999, 0, 0, 0, []), (999, 0, 0, 0, []), (999, 0, 0, 0, []), (999, 0, 0, 0, []), (999, 0, 0, 0, []), (999, 0, 0, 0, []), (999, 0, 0, 0, []), (999, 0, 0, 0, []), (999, 0, 0, 0, []), (999, 0, 0, 0, []), (999, 0, 0, 0, []), (999, 0, 0, 0, []), (999, 0, 0, 0, []), (999, 0, 0, 0, [])], [(999, 0, 0, 0, []), (999, 0, 0, 0, []), (999, 0, 0, 0, []), (999, 0, 0, 0, []), (999, 0, 0, 0, []), (999, 0, 0, 0, []), (999, 0, 0, 0, []), (999, 0, 0, 0, []), (999, 0, 0, 0, []), (999, 0, 0, 0, []), (999, 0, 0, 0, []), (999, 0, 0, 0, []), (999, 0, 0, 0, []), (999, 0, 0, 0, []), (999, 0, 0, 0, []), (999, 0, 0, 0, [])], [(999, 0, 0, 0, []), (999, 0, 0, 0, []), (999, 0, 0, 0, []), (999, 0, 0, 0, []), (999, 0, 0, 0, []), (999, 0, 0, 0, []), (999, 0, 0, 0, []), (999, 0, 0, 0, []), (999, 0, 0, 0, []), (999, 0, 0, 0, []), (999, 0, 0, 0, []), (999, 0, 0, 0, []), (999, 0, 0, 0, []), (999, 0, 0, 0, []), (999, 0, 0, 0, []), (999, 0, 0, 0, [])], [(999, 0, 0, 0, []), (999, 0, 0, 0, []), (999, 0, 0, 0, []), (999, 0, 0, 0, []), (999, 0, 0, 0, []), (999, 0, 0, 0, []), (999, 0, 0, 0, []), (999, 0, 0, 0, []), (999, 0, 0, 0, []), (999, 0, 0, 0, []), (999, 0, 0, 0, []), (999, 0, 0, 0, []), (999, 0, 0, 0, []), (999, 0, 0, 0, []), (999, 0, 0, 0, []), (999, 0, 0, 0, [])], [(999, 0, 0, 0, []), (999, 0, 0, 0, []), (999, 0, 0, 0, []), (999, 0, 0, 0, []), (999, 0, 0, 0, []), (999, 0, 0, 0, []), (999, 0, 0, 0, []), (999, 0, 0, 0, []), (999, 0, 0, 0, []), (999, 0, 0, 0, []), (999, 0, 0, 0, []), (999, 0, 0, 0, []), (999, 0, 0, 0, []), (999, 0, 0, 0, []), (999, 0, 0, 0, []), (999, 0, 0, 0, [])], [(999, 0, 0, 0, []), (999, 0, 0, 0, []), (999, 0, 0, 0, []), (999, 0, 0, 0, []), (999, 0, 0, 0, []), (999, 0, 0, 0, []), (999, 0, 0, 0, []), (999, 0, 0, 0, []), (999, 0, 0, 0, []), (999, 0, 0, 0, []), (999, 0, 0, 0, []), (999, 0, 0, 0, []), (999, 0, 0, 0, []), (999, 0, 0, 0, []), (999, 0, 0, 0, []), (67, 0, 0, 448, [])]]
def ztb_39 : zxTB := [[(0, 0, 0, 1, []), (75, 29229059, 0, 4, []), (999, 0, 0, 0, []), (999, 0, 0, 0, []), (0, 0, 0, 5, []), (12, 48000, 0, 8, []), (999, 0, 0, 0, []), (999, 0, 0, 0, []), (48, 8585216, 2, 10, [0]), (999, 0, 0, 0, []), (52, 29294601, 192, 13, [23]), (999, 0, 0, 0, []), (999, 0, 0, 0, []), (0, 0, 0, 14, []), (11, 64, 0, 16, []), (999, 0, 0, 0, [])], [(15, 29884431, 3, 19, [23]), (999, 0, 0, 0, []), (999, 0, 0, 0, []), (0, 0, 0, 20, []), (12, 2280, 0, 23, []), (999, 0, 0, 0, []), (999, 0, 0, 0, []), (48, 8650752, 1, 25, [0]), (999, 0, 0, 0, []), (52, 30212115, 198, 28, [23]), (999, 0, 0, 0, []), (999, 0, 0, 0, []), (0, 0, 0, 29, []), (12, 2280, 0, 32, []), (999, 0, 0, 0, []), (999, 0, 0, 0, [])], [(48, 8650752, 1, 34, [0]), (999, 0, 0, 0, []), (52, 30474263, 199, 37, [23]), (999, 0, 0, 0, []), (999, 0, 0, 0, []), (0, 0, 0, 38, []), (12, 2280, 0, 41, []), (999, 0, 0, 0, []), (999, 0, 0, 0, []), (48, 8650752, 1, 43, [0]), (999, 0, 0, 0, []), (52, 30670874, 200, 46, [23]), (999, 0, 0, 0, []), (999, 0, 0, 0, []), (0, 0, 0, 47, []), (12, 2280, 0, 50, [])], [(999, 0, 0, 0, []), (999, 0, 0, 0, []), (48, 26214400, 3, 52, [0]), (999, 0, 0, 0, []), (52, 30867485, 201, 55, [23]), (999, 0, 0, 0, []), (999, 0, 0, 0, []), (67, 0, 0, 56, [])]]
def ztb_40 : zxTB := [[(3, 8, 0, 1, []), (13, 1, 2, 2, []), (1, 1, 0, 3, []), (11, 480, 0, 5, []), (999, 0, 0, 0, []), (6, 28, 6, 8, []), (999, 0, 0, 0, []), (999, 0, 0, 0, []), (0, 0, 0, 9, []), (2, 8716299, 0, 12, [24]), (999, 0, 0, 0, []), (999, 0, 0, 0, []), (1, 1, 0, 13, []), (18, 5, 0, 14, []), (2, 2687004, 0, 17, [20]), (999, 0, 0, 0, [])], [(999, 0, 0, 0, []), (7, 22, 5, 20, []), (999, 0, 0, 0, []), (999, 0, 0, 0, []), (1, 1, 0, 21, []), (64, 0, 0, 22, [])]]
def ztb_41 : zxTB := [[(0, 0, 0, 1, []), (3, 34359738360, 0, 2, []), (15, 36700169, 0, 5, [21, 25]), (999, 0, 0, 0, []), (999, 0, 0, 0, []), (0, 0, 0, 6, []), (3, 0, 0, 7, []), (3, 0, 0, 8, []), (3, 0, 0, 9, []), (74, 29736604909922280800274, 42, 12, [4, 21, 25]), (999, 0, 0, 0, []), (999, 0, 0, 0, []), (0, 0, 0, 13, []), (3, 0, 0, 14, []), (15, 37224463, 1, 17, [21, 25]), (999, 0, 0, 0, [])], [(999, 0, 0, 0, []), (67, 0, 0, 18, [])]]
def ztb_42 : zxTB := [[(0, 0, 0, 1, []), (1, 1, 0, 2, []), (15, 37748764, 2, 5, [21, 25]), (999, 0, 0, 0, []), (999, 0, 0, 0, []), (0, 0, 0, 6, []), (1, 2, 0, 7, []), (15, 38076447, 3, 10, [21, 25]), (999, 0, 0, 0, []), (999, 0, 0, 0, []), (0, 0, 0, 11, []), (1, 3, 0, 12, []), (15, 38207522, 4, 15, [21, 25]), (999, 0, 0, 0, []), (999, 0, 0, 0, []), (67, 0, 0, 16, [])]]
def ztb_43 : zxTB := [[(0, 0, 0, 1, []), (2, 37748764, 2, 4, [21, 25]), (999, 0, 0, 0, []), (999, 0, 0, 0, []), (7, 9, 5, 7, []), (999, 0, 0, 0, []), (999, 0, 0, 0, []), (3, 0, 0, 8, []), (65, 0, 0, 9, [])]]
def ztb_44 : zxTB := [[(0, 0, 0, 1, []), (2, 54853675, 3, 4, [19]), (999, 0, 0, 0, []), (999, 0, 0, 0, []), (2, 11731022, 3, 7, [22]), (999, 0, 0, 0, []), (999, 0, 0, 0, []), (1, 1, 0, 8, []), (8, 1, 0, 9, []), (0, 0, 0, 10, []), (2, 54919177, 4, 13, [19]), (999, 0, 0, 0, []), (999, 0, 0, 0, []), (1, 1, 0, 14, []), (8, 1, 0, 15, []), (6, 20, 3, 18, [])], [(999, 0, 0, 0, []), (999, 0, 0, 0, []), (999, 0, 0, 0, []), (999, 0, 0, 0, []), (1, 2, 0, 21, []), (7, 46, 2, 24, []), (999, 0, 0, 0, []), (999, 0, 0, 0, []), (999, 0, 0, 0, []), (999, 0, 0, 0, []), (999, 0, 0, 0, []), (999, 0, 0, 0, []), (999, 0, 0, 0, []), (999, 0, 0, 0, []), (999, 0, 0, 0, []), (999, 0, 0, 0, [])], [(999, 0, 0, 0, []), (999, 0, 0, 0, []), (999, 0, 0, 0, []), (999, 0, 0, 0, []), (999, 0, 0, 0, []), (999, 0, 0, 0, []), (999, 0, 0, 0, []), (999, 0, 0, 0, []), (999, 0, 0, 0, []), (999, 0, 0, 0, []), (999, 0, 0, 0, []), (999, 0, 0, 0, []), (999, 0, 0, 0, []), (999, 0, 0, 0, []), (3, 0, 0, 47, []), (65, 0, 0, 48, [])]]
def ztb_45 : zxTB := [[(3, 0, 0, 1, []), (13, 1, 3, 2, []), (3, 0, 0, 3, []), (13, 2, 3, 4, []), (1, 2, 0, 5, []), (0, 0, 0, 6, []), (2, 30081075, 5, 9, [23]), (999, 0, 0, 0, []), (999, 0, 0, 0, []), (6, 30, 6, 12, []), (999, 0, 0, 0, []), (999, 0, 0, 0, []), (999, 0, 0, 0, []), (999, 0, 0, 0, []), (999, 0, 0, 0, []), (999, 0, 0, 0, [])], [(999, 0, 0, 0, []), (999, 0, 0, 0, []), (999, 0, 0, 0, []), (999, 0, 0, 0, []), (999, 0, 0, 0, []), (999, 0, 0, 0, []), (999, 0, 0, 0, []), (999, 0, 0, 0, []), (999, 0, 0, 0, []), (999, 0, 0, 0, []), (999, 0, 0, 0, []), (999, 0, 0, 0, []), (999, 0, 0, 0, []), (999, 0, 0, 0, []), (1, 1, 0, 31, []), (64, 0, 0, 32, [])]]
def ztb_46 : zxTB := [[(3, 0, 0, 1, []), (13, 2, 4, 2, []), (3, 0, 0, 3, []), (13, 3, 4, 4, []), (1, 3, 0, 5, []), (0, 0, 0, 6, []), (2, 32505867, 1, 9, [17]), (999, 0, 0, 0, []), (999, 0, 0, 0, []), (1, 1, 0, 10, []), (18, 6, 0, 11, []), (2, 30015565, 5, 14, [23]), (999, 0, 0, 0, []), (999, 0, 0, 0, []), (6, 35, 6, 17, []), (999, 0, 0, 0, [])], [(999, 0, 0, 0, []), (999, 0, 0, 0, []), (999, 0, 0, 0, []), (999, 0, 0, 0, []), (999, 0, 0, 0, []), (999, 0, 0, 0, []), (999, 0, 0, 0, []), (999, 0, 0, 0, []), (999, 0, 0, 0, []), (999, 0, 0, 0, []), (999, 0, 0, 0, []), (999, 0, 0, 0, []), (999, 0, 0, 0, []), (999, 0, 0, 0, []), (999, 0, 0, 0, []), (999, 0, 0, 0, [])], [(999, 0, 0, 0, []), (999, 0, 0, 0, []), (999, 0, 0, 0, []), (1, 2, 0, 36, []), (64, 0, 0, 37, [])]]
def ztb_47 : zxTB := [[(3, 0, 0, 1, []), (13, 1, 4, 2, []), (3, 0, 0, 3, []), (13, 2, 4, 4, []), (1, 2, 0, 5, []), (0, 0, 0, 6, []), (2, 163774697, 36, 9, [27]), (999, 0, 0, 0, []), (999, 0, 0, 0, []), (6, 77, 6, 12, []), (999, 0, 0, 0, []), (999, 0, 0, 0, []), (999, 0, 0, 0, []), (999, 0, 0, 0, []), (999, 0, 0, 0, []), (999, 0, 0, 0, [])], [(999, 0, 0, 0, []), (999, 0, 0, 0, []), (999, 0, 0, 0, []), (999, 0, 0, 0, []), (999, 0, 0, 0, []), (999, 0, 0, 0, []), (999, 0, 0, 0, []), (999, 0, 0, 0, []), (999, 0, 0, 0, []), (999, 0, 0, 0, []), (999, 0, 0, 0, []), (999, 0, 0, 0, []), (999, 0, 0, 0, []), (999, 0, 0, 0, []), (999, 0, 0, 0, []), (999, 0, 0, 0, [])], [(999, 0, 0, 0, []), (999, 0, 0, 0, []), (999, 0, 0, 0, []), (999, 0, 0, 0, []), (999, 0, 0, 0, []), (999, 0, 0, 0, []), (999, 0, 0, 0, []), (999, 0, 0, 0, []), (999, 0, 0, 0, []), (999, 0, 0, 0, []), (999, 0, 0, 0, []), (999, 0, 0, 0, []), (999, 0, 0, 0, []), (999, 0, 0, 0, []), (999, 0, 0, 0, []), (999, 0, 0, 0, [])], [(999, 0, 0, 0, []), (999, 0, 0, 0, []), (999, 0, 0, 0, []), (999, 0, 0, 0, []), (999, 0, 0, 0, []), (999, 0, 0, 0, []), (999, 0, 0, 0, []), (999, 0, 0, 0, []), (999, 0, 0, 0, []), (999, 0, 0, 0, []), (999, 0, 0, 0, []), (999, 0, 0, 0, []), (999, 0, 0, 0, []), (999, 0, 0, 0, []), (999, 0, 0, 0, []), (999, 0, 0, 0, [])], [(999, 0, 0, 0, []), (999, 0, 0, 0, []), (999, 0, 0, 0, []), (999, 0, 0, 0, []), (999, 0, 0, 0, []), (999, 0, 0, 0, []), (999, 0, 0, 0, []), (999, 0, 0, 0, []), (999, 0, 0, 0, []), (999, 0, 0, 0, []), (999, 0, 0, 0, []), (999, 0, 0, 0, []), (999, 0, 0, 0, []), (0, 0, 0, 78, []), (1, 1, 0, 79, []), (15, 163774697, 36, 82, [27])], [(999, 0, 0, 0, []), (999, 0, 0, 0, []), (67, 0, 0, 83, [])]]
def ztb_48 : zxTB := [[(0, 0, 0, 1, []), (2, 163512417, 32, 4, [27]), (999, 0, 0, 0, []), (999, 0, 0, 0, []), (1, 1, 0, 5, []), (8, 1, 0, 6, []), (7, 29, 5, 9, []), (999, 0, 0, 0, []), (999, 0, 0, 0, []), (1, 1, 0, 10, []), (3, 8, 0, 11, []), (6, 21, 5, 14, []), (999, 0, 0, 0, []), (999, 0, 0, 0, []), (0, 0, 0, 15, []), (70, 215351761, 95, 18, [1, 27])], [(999, 0, 0, 0, []), (999, 0, 0, 0, []), (9, 25, 0, 21, []), (999, 0, 0, 0, []), (999, 0, 0, 0, []), (0, 0, 0, 22, []), (70, 217776596, 96, 25, [1, 27]), (999, 0, 0, 0, []), (999, 0, 0, 0, []), (0, 0, 0, 26, []), (70, 191365333, 47, 29, [1, 27]), (999, 0, 0, 0, []), (999, 0, 0, 0, []), (0, 0, 0, 30, []), (2, 163512417, 32, 33, [27]), (999, 0, 0, 0, [])], [(999, 0, 0, 0, []), (1, 1, 0, 34, []), (8, 1, 0, 35, []), (7, 62, 2, 38, []), (999, 0, 0, 0, []), (999, 0, 0, 0, []), (999, 0, 0, 0, []), (999, 0, 0, 0, []), (999, 0, 0, 0, []), (999, 0, 0, 0, []), (999, 0, 0, 0, []), (999, 0, 0, 0, []), (999, 0, 0, 0, []), (999, 0, 0, 0, []), (999, 0, 0, 0, []), (999, 0, 0, 0, [])], [(999, 0, 0, 0, []), (999, 0, 0, 0, []), (999, 0, 0, 0, []), (999, 0, 0, 0, []), (999, 0, 0, 0, []), (999, 0, 0, 0, []), (999, 0, 0, 0, []), (999, 0, 0, 0, []), (999, 0, 0, 0, []), (999, 0, 0, 0, []), (999, 0, 0, 0, []), (999, 0, 0, 0, []), (999, 0, 0, 0, []), (999, 0, 0, 0, []), (67, 0, 0, 63, [])]]
def ztb_49 : zxTB := [[(0, 0, 0, 1, []), (1, 1, 0, 2, []), (70, 59899940, 29, 5, [2, 24]), (999, 0, 0, 0, []), (999, 0, 0, 0, []), (7, 25, 2, 8, []), (999, 0, 0, 0, []), (999, 0, 0, 0, []), (0, 0, 0, 9, []), (2, 8716299, 0, 12, [24]), (999, 0, 0, 0, []), (999, 0, 0, 0, []), (1, 1, 0, 13, []), (18, 5, 0, 14, []), (2, 2687004, 0, 17, [20]), (999, 0, 0, 0, [])], [(999, 0, 0, 0, []), (3, 16, 0, 18, []), (6, 25, 5, 21, []), (999, 0, 0, 0, []), (999, 0, 0, 0, []), (999, 0, 0, 0, []), (999, 0, 0, 0, []), (999, 0, 0, 0, []), (999, 0, 0, 0, []), (3, 0, 0, 26, []), (65, 0, 0, 27, [])]]
def ztb_50 : zxTB := [[(0, 0, 0, 1, []), (3, 0, 0, 2, []), (15, 161415169, 0, 5, [27]), (999, 0, 0, 0, []), (999, 0, 0, 0, []), (1, 1, 0, 6, []), (20, 0, 0, 7, []), (25, 9, 0, 8, []), (24, 2049, 193265889, 11, []), (999, 0, 0, 0, []), (999, 0, 0, 0, []), (73, 183763083, 1, 14, [3]), (999, 0, 0, 0, []), (999, 0, 0, 0, []), (7, 19, 5, 17, []), (999, 0, 0, 0, [])], [(999, 0, 0, 0, []), (3, 34359738360, 0, 18, []), (64, 0, 0, 19, []), (0, 0, 0, 20, []), (2, 162529502, 17, 23, [27]), (999, 0, 0, 0, []), (999, 0, 0, 0, []), (1, 1, 0, 24, []), (5, 0, 0, 25, []), (12, 2048, 0, 28, []), (999, 0, 0, 0, []), (999, 0, 0, 0, []), (6, 34, 3, 31, []), (999, 0, 0, 0, []), (999, 0, 0, 0, []), (999, 0, 0, 0, [])], [(999, 0, 0, 0, []), (999, 0, 0, 0, []), (3, 0, 0, 35, []), (13, 3, 4, 36, []), (1, 3, 0, 37, []), (1, 1, 0, 38, []), (6, 62, 6, 41, []), (999, 0, 0, 0, []), (999, 0, 0, 0, []), (0, 0, 0, 42, []), (2, 162463798, 16, 45, [27]), (999, 0, 0, 0, []), (999, 0, 0, 0, []), (0, 0, 0, 46, []), (2, 162529502, 17, 49, [27]), (999, 0, 0, 0, [])], [(999, 0, 0, 0, []), (1, 3, 0, 50, []), (5, 0, 0, 51, []), (1, 2, 0, 52, []), (1, 3, 0, 53, []), (5, 0, 0, 54, []), (39, 0, 0, 55, []), (34, 2, 0, 56, []), (10, 3, 4, 59, [1]), (999, 0, 0, 0, []), (999, 0, 0, 0, []), (9, 36, 0, 62, []), (999, 0, 0, 0, []), (999, 0, 0, 0, []), (0, 0, 0, 63, []), (0, 0, 0, 64, [])], [(2, 162529502, 17, 67, [27]), (999, 0, 0, 0, []), (999, 0, 0, 0, []), (1, 1, 0, 68, []), (5, 0, 0, 69, []), (15, 162529502, 17, 72, [27]), (999, 0, 0, 0, []), (999, 0, 0, 0, []), (0, 0, 0, 73, []), (2, 162529502, 17, 76, [27]), (999, 0, 0, 0, []), (999, 0, 0, 0, []), (64, 0, 0, 77, [])]]
def ztb_51 : zxTB := [[(0, 0, 0, 1, []), (1, 1, 0, 2, []), (70, 59899940, 29, 5, [2, 24]), (999, 0, 0, 0, []), (999, 0, 0, 0, []), (7, 25, 2, 8, []), (999, 0, 0, 0, []), (999, 0, 0, 0, []), (0, 0, 0, 9, []), (2, 8716299, 0, 12, [24]), (999, 0, 0, 0, []), (999, 0, 0, 0, []), (1, 1, 0, 13, []), (18, 5, 0, 14, []), (2, 2687004, 0, 17, [20]), (999, 0, 0, 0, [])], [(999, 0, 0, 0, []), (3, 8, 0, 18, []), (6, 25, 5, 21, []), (999, 0, 0, 0, []), (999, 0, 0, 0, []), (3, 8, 0, 22, []), (9, 26, 0, 25, []), (999, 0, 0, 0, []), (999, 0, 0, 0, []), (3, 0, 0, 26, []), (65, 0, 0, 27, [])]]
def ztb_52 : zxTB := [[(3, 8, 0, 1, []), (14, 4, 6, 3, []), (999, 0, 0, 0, []), (4, 4, 0, 5, []), (999, 0, 0, 0, []), (11, 480, 0, 7, []), (999, 0, 0, 0, []), (6, 55, 6, 10, []), (999, 0, 0, 0, []), (999, 0, 0, 0, []), (0, 0, 0, 11, []), (2, 8716299, 0, 14, [24]), (999, 0, 0, 0, []), (999, 0, 0, 0, []), (4, 4, 0, 16, []), (999, 0, 0, 0, [])], [(18, 5, 0, 17, []), (31, 5, 6, 19, []), (999, 0, 0, 0, []), (29, 5, 0, 21, []), (999, 0, 0, 0, []), (2, 2687004, 0, 24, [20]), (999, 0, 0, 0, []), (999, 0, 0, 0, []), (7, 49, 2, 27, []), (999, 0, 0, 0, []), (999, 0, 0, 0, []), (999, 0, 0, 0, []), (999, 0, 0, 0, []), (999, 0, 0, 0, []), (999, 0, 0, 0, []), (999, 0, 0, 0, [])], [(999, 0, 0, 0, []), (999, 0, 0, 0, []), (999, 0, 0, 0, []), (999, 0, 0, 0, []), (999, 0, 0, 0, []), (999, 0, 0, 0, []), (999, 0, 0, 0, []), (999, 0, 0, 0, []), (999, 0, 0, 0, []), (999, 0, 0, 0, []), (999, 0, 0, 0, []), (999, 0, 0, 0, []), (999, 0, 0, 0, []), (999, 0, 0, 0, []), (999, 0, 0, 0, []), (999, 0, 0, 0, [])], [(999, 0, 0, 0, []), (10, 4, 6, 52, [1]), (999, 0, 0, 0, []), (999, 0, 0, 0, []), (9, 3, 0, 55, []), (999, 0, 0, 0, []), (999, 0, 0, 0, []), (3, 34359738360, 0, 56, []), (64, 0, 0, 57, [])]]
def ztb_53 : zxTB := [[(3, 0, 0, 1, []), (13, 2, 4, 2, []), (1, 1, 0, 3, []), (13, 3, 4, 4, []), (1, 3, 0, 5, []), (7, 30, 3, 8, []), (999, 0, 0, 0, []), (999, 0, 0, 0, []), (999, 0, 0, 0, []), (999, 0, 0, 0, []), (999, 0, 0, 0, []), (999, 0, 0, 0, []), (999, 0, 0, 0, []), (999, 0, 0, 0, []), (999, 0, 0, 0, []), (999, 0, 0, 0, [])], [(999, 0, 0, 0, []), (999, 0, 0, 0, []), (999, 0, 0, 0, []), (999, 0, 0, 0, []), (999, 0, 0, 0, []), (999, 0, 0, 0, []), (999, 0, 0, 0, []), (999, 0, 0, 0, []), (999, 0, 0, 0, []), (999, 0, 0, 0, []), (999, 0, 0, 0, []), (999, 0, 0, 0, []), (999, 0, 0, 0, []), (999, 0, 0, 0, []), (1, 2, 0, 31, []), (64, 0, 0, 32, [])]]
def ztb_54 : zxTB := [[(0, 0, 0, 1, []), (2, 32964657, 3, 4, [17]), (999, 0, 0, 0, []), (999, 0, 0, 0, []), (7, 8, 2, 7, []), (999, 0, 0, 0, []), (999, 0, 0, 0, []), (999, 0, 0, 0, []), (0, 0, 0, 9, []), (3, 0, 0, 10, []), (15, 33030285, 4, 13, [17]), (999, 0, 0, 0, []), (999, 0, 0, 0, []), (3, 0, 0, 14, []), (13, 1, 3, 15, []), (1, 1, 0, 16, [])], [(11, 48, 0, 18, []), (999, 0, 0, 0, []), (6, 68, 6, 21, []), (999, 0, 0, 0, []), (999, 0, 0, 0, []), (3, 0, 0, 22, []), (13, 2, 3, 23, []), (1, 2, 0, 24, []), (0, 0, 0, 25, []), (2, 32505867, 1, 28, [17]), (999, 0, 0, 0, []), (999, 0, 0, 0, []), (1, 1, 0, 29, []), (18, 6, 0, 30, []), (2, 30015565, 5, 33, [23]), (999, 0, 0, 0, [])], [(999, 0, 0, 0, []), (6, 62, 6, 36, []), (999, 0, 0, 0, []), (999, 0, 0, 0, []), (999, 0, 0, 0, []), (999, 0, 0, 0, []), (999, 0, 0, 0, []), (999, 0, 0, 0, []), (999, 0, 0, 0, []), (999, 0, 0, 0, []), (999, 0, 0, 0, []), (999, 0, 0, 0, []), (999, 0, 0, 0, []), (999, 0, 0, 0, []), (999, 0, 0, 0, []), (999, 0, 0, 0, [])], [(999, 0, 0, 0, []), (999, 0, 0, 0, []), (999, 0, 0, 0, []), (999, 0, 0, 0, []), (999, 0, 0, 0, []), (999, 0, 0, 0, []), (999, 0, 0, 0, []), (999, 0, 0, 0, []), (999, 0, 0, 0, []), (999, 0, 0, 0, []), (999, 0, 0, 0, []), (999, 0, 0, 0, []), (999, 0, 0, 0, []), (999, 0, 0, 0, []), (10, 1, 3, 65, [1]), (999, 0, 0, 0, [])], [(999, 0, 0, 0, []), (9, 15, 0, 68, []), (999, 0, 0, 0, []), (999, 0, 0, 0, []), (0, 0, 0, 69, []), (70, 108986516, 55, 72, [1, 17]), (999, 0, 0, 0, []), (999, 0, 0, 0, []), (0, 0, 0, 73, []), (70, 109838487, 56, 76, [1, 17]), (999, 0, 0, 0, []), (999, 0, 0, 0, []), (0, 0, 0, 77, []), (3, 8, 0, 78, []), (15, 32964657, 67, 81, [17]), (999, 0, 0, 0, [])], [(999, 0, 0, 0, []), (67, 0, 0, 82, [])]]
def ztb_55 : zxTB := [[(3, 0, 0, 1, []), (13, 1, 3, 2, []), (3, 0, 0, 3, []), (13, 2, 3, 4, []), (1, 2, 0, 5, []), (0, 0, 0, 6, []), (2, 33030285, 4, 9, [17]), (999, 0, 0, 0, []), (999, 0, 0, 0, []), (6, 50, 6, 12, []), (999, 0, 0, 0, []), (999, 0, 0, 0, []), (999, 0, 0, 0, []), (999, 0, 0, 0, []), (999, 0, 0, 0, []), (999, 0, 0, 0, [])], [(999, 0, 0, 0, []), (999, 0, 0, 0, []), (999, 0, 0, 0, []), (999, 0, 0, 0, []), (999, 0, 0, 0, []), (999, 0, 0, 0, []), (999, 0, 0, 0, []), (999, 0, 0, 0, []), (999, 0, 0, 0, []), (999, 0, 0, 0, []), (999, 0, 0, 0, []), (999, 0, 0, 0, []), (999, 0, 0, 0, []), (999, 0, 0, 0, []), (999, 0, 0, 0, []), (999, 0, 0, 0, [])], [(999, 0, 0, 0, []), (999, 0, 0, 0, []), (999, 0, 0, 0, []), (999, 0, 0, 0, []), (999, 0, 0, 0, []), (999, 0, 0, 0, []), (999, 0, 0, 0, []), (999, 0, 0, 0, []), (999, 0, 0, 0, []), (999, 0, 0, 0, []), (999, 0, 0, 0, []), (999, 0, 0, 0, []), (999, 0, 0, 0, []), (999, 0, 0, 0, []), (999, 0, 0, 0, []), (999, 0, 0, 0, [])], [(999, 0, 0, 0, []), (999, 0, 0, 0, []), (0, 0, 0, 51, []), (1, 1, 0, 52, []), (15, 33030285, 4, 55, [17]), (999, 0, 0, 0, []), (999, 0, 0, 0, []), (67, 0, 0, 56, [])]]
def ztb_56 : zxTB := [[(0, 0, 0, 1, []), (70, 110100646, 57, 4, [1, 17]), (999, 0, 0, 0, []), (999, 0, 0, 0, []), (3, 0, 0, 5, []), (13, 1, 4, 6, []), (3, 0, 0, 7, []), (13, 2, 4, 8, []), (1, 2, 0, 9, []), (0, 0, 0, 10, []), (2, 33030285, 4, 13, [17]), (999, 0, 0, 0, []), (999, 0, 0, 0, []), (6, 48, 6, 16, []), (999, 0, 0, 0, []), (999, 0, 0, 0, [])], [(999, 0, 0, 0, []), (999, 0, 0, 0, []), (999, 0, 0, 0, []), (999, 0, 0, 0, []), (999, 0, 0, 0, []), (999, 0, 0, 0, []), (999, 0, 0, 0, []), (999, 0, 0, 0, []), (999, 0, 0, 0, []), (999, 0, 0, 0, []), (999, 0, 0, 0, []), (999, 0, 0, 0, []), (999, 0, 0, 0, []), (999, 0, 0, 0, []), (999, 0, 0, 0, []), (999, 0, 0, 0, [])], [(999, 0, 0, 0, []), (999, 0, 0, 0, []), (999, 0, 0, 0, []), (999, 0, 0, 0, []), (999, 0, 0, 0, []), (999, 0, 0, 0, []), (999, 0, 0, 0, []), (999, 0, 0, 0, []), (999, 0, 0, 0, []), (999, 0, 0, 0, []), (999, 0, 0, 0, []), (999, 0, 0, 0, []), (999, 0, 0, 0, []), (999, 0, 0, 0, []), (999, 0, 0, 0, []), (999, 0, 0, 0, [])], [(0, 0, 0, 49, []), (1, 1, 0, 50, []), (70, 111280300, 58, 53, [2, 17]), (999, 0, 0, 0, []), (999, 0, 0, 0, []), (3, 0, 0, 54, []), (13, 2, 4, 55, []), (1, 2, 0, 56, []), (1, 1, 0, 57, []), (6, 77, 6, 60, []), (999, 0, 0, 0, []), (999, 0, 0, 0, []), (999, 0, 0, 0, []), (999, 0, 0, 0, []), (999, 0, 0, 0, []), (999, 0, 0, 0, [])], [(999, 0, 0, 0, []), (999, 0, 0, 0, []), (999, 0, 0, 0, []), (999, 0, 0, 0, []), (999, 0, 0, 0, []), (999, 0, 0, 0, []), (999, 0, 0, 0, []), (999, 0, 0, 0, []), (999, 0, 0, 0, []), (999, 0, 0, 0, []), (999, 0, 0, 0, []), (999, 0, 0, 0, []), (999, 0, 0, 0, []), (0, 0, 0, 78, []), (1, 1, 0, 79, []), (15, 33030285, 4, 82, [17])], [(999, 0, 0, 0, []), (999, 0, 0, 0, []), (67, 0, 0, 83, [])]]
def ztb_57 : zxTB := [[(3, 0, 0, 1, []), (13, 1, 4, 2, []), (1, 1, 0, 3, []), (0, 0, 0, 4, []), (2, 33030285, 4, 7, [17]), (999, 0, 0, 0, []), (999, 0, 0, 0, []), (6, 71, 6, 10, []), (999, 0, 0, 0, []), (999, 0, 0, 0, []), (999, 0, 0, 0, []), (999, 0, 0, 0, []), (999, 0, 0, 0, []), (999, 0, 0, 0, []), (999, 0, 0, 0, []), (999, 0, 0, 0, [])], [(999, 0, 0, 0, []), (999, 0, 0, 0, []), (999, 0, 0, 0, []), (999, 0, 0, 0, []), (999, 0, 0, 0, []), (999, 0, 0, 0, []), (999, 0, 0, 0, []), (999, 0, 0, 0, []), (999, 0, 0, 0, []), (999, 0, 0, 0, []), (999, 0, 0, 0, []), (999, 0, 0, 0, []), (999, 0, 0, 0, []), (999, 0, 0, 0, []), (999, 0, 0, 0, []), (999, 0, 0, 0, [])], [(999, 0, 0, 0, []), (999, 0, 0, 0, []), (999, 0, 0, 0, []), (999, 0, 0, 0, []), (999, 0, 0, 0, []), (999, 0, 0, 0, []), (999, 0, 0, 0, []), (999, 0, 0, 0, []), (999, 0, 0, 0, []), (999, 0, 0, 0, []), (999, 0, 0, 0, []), (999, 0, 0, 0, []), (999, 0, 0, 0, []), (999, 0, 0, 0, []), (999, 0, 0, 0, []), (999, 0, 0, 0, [])], [(999, 0, 0, 0, []), (999, 0, 0, 0, []), (999, 0, 0, 0, []), (999, 0, 0, 0, []), (999, 0, 0, 0, []), (999, 0, 0, 0, []), (999, 0, 0, 0, []), (999, 0, 0, 0, []), (999, 0, 0, 0, []), (999, 0, 0, 0, []), (999, 0, 0, 0, []), (999, 0, 0, 0, []), (999, 0, 0, 0, []), (999, 0, 0, 0, []), (999, 0, 0, 0, []), (999, 0, 0, 0, [])], [(999, 0, 0, 0, []), (999, 0, 0, 0, []), (999, 0, 0, 0, []), (999, 0, 0, 0, []), (999, 0, 0, 0, []), (999, 0, 0, 0, []), (999, 0, 0, 0, []), (67, 0, 0, 72, [])]]
def ztb_58 : zxTB := [[(3, 8, 0, 1, []), (13, 2, 5, 2, []), (1, 2, 0, 3, []), (1, 1, 0, 4, []), (6, 71, 6, 7, []), (999, 0, 0, 0, []), (999, 0, 0, 0, []), (999, 0, 0, 0, []), (999, 0, 0, 0, []), (999, 0, 0, 0, []), (999, 0, 0, 0, []), (999, 0, 0, 0, []), (999, 0, 0, 0, []), (999, 0, 0, 0, []), (999, 0, 0, 0, []), (999, 0, 0, 0, [])], [(999, 0, 0, 0, []), (999, 0, 0, 0, []), (999, 0, 0, 0, []), (999, 0, 0, 0, []), (999, 0, 0, 0, []), (999, 0, 0, 0, []), (999, 0, 0, 0, []), (999, 0, 0, 0, []), (999, 0, 0, 0, []), (999, 0, 0, 0, []), (999, 0, 0, 0, []), (999, 0, 0, 0, []), (999, 0, 0, 0, []), (999, 0, 0, 0, []), (999, 0, 0, 0, []), (999, 0, 0, 0, [])], [(999, 0, 0, 0, []), (999, 0, 0, 0, []), (999, 0, 0, 0, []), (999, 0, 0, 0, []), (999, 0, 0, 0, []), (999, 0, 0, 0, []), (999, 0, 0, 0, []), (999, 0, 0, 0, []), (999, 0, 0, 0, []), (999, 0, 0, 0, []), (999, 0, 0, 0, []), (999, 0, 0, 0, []), (999, 0, 0, 0, []), (999, 0, 0, 0, []), (999, 0, 0, 0, []), (999, 0, 0, 0, [])], [(999, 0, 0, 0, []), (999, 0, 0, 0, []), (999, 0, 0, 0, []), (999, 0, 0, 0, []), (999, 0, 0, 0, []), (999, 0, 0, 0, []), (999, 0, 0, 0, []), (999, 0, 0, 0, []), (999, 0, 0, 0, []), (999, 0, 0, 0, []), (999, 0, 0, 0, []), (999, 0, 0, 0, []), (999, 0, 0, 0, []), (999, 0, 0, 0, []), (999, 0, 0, 0, []), (999, 0, 0, 0, [])], [(999, 0, 0, 0, []), (999, 0, 0, 0, []), (999, 0, 0, 0, []), (999, 0, 0, 0, []), (999, 0, 0, 0, []), (999, 0, 0, 0, []), (999, 0, 0, 0, []), (67, 0, 0, 72, [])]]
def ztb_59 : zxTB := [[(1, 1, 0, 1, []), (3, 8, 0, 2, []), (6, 12, 1, 5, []), (999, 0, 0, 0, []), (999, 0, 0, 0, []), (1, 1, 0, 6, []), (12, 4000, 0, 9, []), (999, 0, 0, 0, []), (999, 0, 0, 0, []), (6, 14, 3, 12, []), (999, 0, 0, 0, []), (999, 0, 0, 0, []), (3, 34359738360, 0, 13, []), (64, 0, 0, 14, []), (3, 0, 0, 15, []), (13, 2, 3, 16, [])], [(80, 147, 21, 141, [2, 1]), (999, 0, 0, 0, []), (999, 0, 0, 0, []), (999, 0, 0, 0, []), (999, 0, 0, 0, []), (0, 0, 0, 22, []), (2, 57147408, 0, 25, [26]), (999, 0, 0, 0, []), (999, 0, 0, 0, []), (26, 0, 0, 26, []), (2, 9371835, 1, 29, [24]), (999, 0, 0, 0, []), (999, 0, 0, 0, []), (3, 8, 0, 30, []), (5, 0, 0, 31, []), (15, 9371835, 1, 34, [24])], [(999, 0, 0, 0, []), (999, 0, 0, 0, []), (0, 0, 0, 35, []), (2, 57802833, 10, 38, [26]), (999, 0, 0, 0, []), (999, 0, 0, 0, []), (7, 44, 2, 41, []), (999, 0, 0, 0, []), (999, 0, 0, 0, []), (999, 0, 0, 0, []), (999, 0, 0, 0, []), (999, 0, 0, 0, []), (0, 0, 0, 45, []), (2, 57409586, 4, 48, [26]), (999, 0, 0, 0, []), (999, 0, 0, 0, [])], [(70, 65470589, 26, 51, [1, 17]), (999, 0, 0, 0, []), (999, 0, 0, 0, []), (0, 0, 0, 52, []), (2, 57475131, 5, 55, [26]), (999, 0, 0, 0, []), (999, 0, 0, 0, []), (3, 34359738360, 0, 56, []), (15, 35717402, 7, 59, [21]), (999, 0, 0, 0, []), (999, 0, 0, 0, []), (0, 0, 0, 60, []), (2, 57475131, 5, 63, [26]), (999, 0, 0, 0, []), (999, 0, 0, 0, []), (2, 2482528911645, 2, 66, [21])], [(999, 0, 0, 0, []), (999, 0, 0, 0, []), (7, 83, 5, 69, []), (999, 0, 0, 0, []), (999, 0, 0, 0, []), (0, 0, 0, 70, []), (2, 57475131, 5, 73, [26]), (999, 0, 0, 0, []), (999, 0, 0, 0, []), (0, 0, 0, 74, []), (2, 57540676, 6, 77, [26]), (999, 0, 0, 0, []), (999, 0, 0, 0, []), (2, 2422398648608, 0, 80, [25]), (999, 0, 0, 0, []), (999, 0, 0, 0, [])], [(70, 114360611, 76, 83, [2, 21]), (999, 0, 0, 0, []), (999, 0, 0, 0, []), (0, 0, 0, 84, []), (2, 57475131, 5, 87, [26]), (999, 0, 0, 0, []), (999, 0, 0, 0, []), (74, 37226097565907663388966, 43, 90, [1, 21, 21]), (999, 0, 0, 0, []), (999, 0, 0, 0, []), (7, 100, 2, 93, []), (999, 0, 0, 0, []), (999, 0, 0, 0, []), (999, 0, 0, 0, []), (999, 0, 0, 0, []), (999, 0, 0, 0, [])], [(999, 0, 0, 0, []), (999, 0, 0, 0, []), (999, 0, 0, 0, []), (999, 0, 0, 0, []), (0, 0, 0, 101, []), (2, 57540676, 6, 104, [26]), (999, 0, 0, 0, []), (999, 0, 0, 0, []), (2, 2469644140844, 2, 107, [25]), (999, 0, 0, 0, []), (999, 0, 0, 0, []), (7, 117, 5, 110, []), (999, 0, 0, 0, []), (999, 0, 0, 0, []), (0, 0, 0, 111, []), (2, 57540676, 6, 114, [26])], [(999, 0, 0, 0, []), (999, 0, 0, 0, []), (70, 134414637, 79, 117, [1, 25]), (999, 0, 0, 0, []), (999, 0, 0, 0, []), (0, 0, 0, 118, []), (2, 57540676, 6, 121, [26]), (999, 0, 0, 0, []), (999, 0, 0, 0, []), (74, 39642657913352508080431, 43, 124, [1, 25, 25]), (999, 0, 0, 0, []), (999, 0, 0, 0, []), (7, 134, 2, 127, []), (999, 0, 0, 0, []), (999, 0, 0, 0, []), (999, 0, 0, 0, [])], [(999, 0, 0, 0, []), (999, 0, 0, 0, []), (999, 0, 0, 0, []), (999, 0, 0, 0, []), (999, 0, 0, 0, []), (999, 0, 0, 0, []), (0, 0, 0, 135, []), (2, 57606221, 7, 138, [26]), (999, 0, 0, 0, []), (999, 0, 0, 0, []), (70, 143327537, 85, 141, [1, 19]), (999, 0, 0, 0, []), (999, 0, 0, 0, []), (999, 0, 0, 0, []), (999, 0, 0, 0, []), (999, 0, 0, 0, [])], [(999, 0, 0, 0, []), (999, 0, 0, 0, []), (999, 0, 0, 0, []), (3, 0, 0, 148, []), (64, 0, 0, 149, [])]]
def ztb_60 : zxTB := [[(3, 8, 0, 1, []), (14, 4, 5, 3, []), (999, 0, 0, 0, []), (4, 4, 0, 5, []), (999, 0, 0, 0, []), (11, 480, 0, 7, []), (999, 0, 0, 0, []), (6, 52, 6, 10, []), (999, 0, 0, 0, []), (999, 0, 0, 0, []), (0, 0, 0, 11, []), (4, 4, 0, 13, []), (999, 0, 0, 0, []), (3, 0, 0, 14, []), (70, 183959695, 0, 17, [3, 27]), (999, 0, 0, 0, [])], [(999, 0, 0, 0, []), (7, 46, 2, 20, []), (999, 0, 0, 0, []), (999, 0, 0, 0, []), (999, 0, 0, 0, []), (999, 0, 0, 0, []), (999, 0, 0, 0, []), (999, 0, 0, 0, []), (999, 0, 0, 0, []), (999, 0, 0, 0, []), (999, 0, 0, 0, []), (999, 0, 0, 0, []), (999, 0, 0, 0, []), (999, 0, 0, 0, []), (999, 0, 0, 0, []), (999, 0, 0, 0, [])], [(999, 0, 0, 0, []), (999, 0, 0, 0, []), (999, 0, 0, 0, []), (999, 0, 0, 0, []), (999, 0, 0, 0, []), (999, 0, 0, 0, []), (999, 0, 0, 0, []), (999, 0, 0, 0, []), (999, 0, 0, 0, []), (999, 0, 0, 0, []), (999, 0, 0, 0, []), (999, 0, 0, 0, []), (999, 0, 0, 0, []), (999, 0, 0, 0, []), (10, 4, 5, 49, [1]), (999, 0, 0, 0, [])], [(999, 0, 0, 0, []), (9, 3, 0, 52, []), (999, 0, 0, 0, []), (999, 0, 0, 0, []), (11, 34359738352, 0, 54, []), (999, 0, 0, 0, []), (64, 0, 0, 55, [])]]
def ztb_61 : zxTB := [[(3, 0, 0, 1, []), (13, 2, 4, 2, []), (1, 1, 0, 3, []), (13, 3, 4, 4, []), (1, 3, 0, 5, []), (7, 21, 3, 8, []), (999, 0, 0, 0, []), (999, 0, 0, 0, []), (999, 0, 0, 0, []), (999, 0, 0, 0, []), (999, 0, 0, 0, []), (999, 0, 0, 0, []), (999, 0, 0, 0, []), (999, 0, 0, 0, []), (999, 0, 0, 0, []), (999, 0, 0, 0, [])], [(999, 0, 0, 0, []), (999, 0, 0, 0, []), (999, 0, 0, 0, []), (999, 0, 0, 0, []), (999, 0, 0, 0, []), (1, 2, 0, 22, []), (64, 0, 0, 23, [])]]
def ztb_62 : zxTB := [[(0, 0, 0, 1, []), (3, 0, 0, 2, []), (15, 161415169, 0, 5, [27]), (999, 0, 0, 0, []), (999, 0, 0, 0, []), (1, 1, 0, 6, []), (20, 0, 0, 7, []), (25, 9, 0, 8, []), (24, 17, 189464841, 11, []), (999, 0, 0, 0, []), (999, 0, 0, 0, []), (73, 183763083, 1, 14, [3]), (999, 0, 0, 0, []), (999, 0, 0, 0, []), (7, 19, 5, 17, []), (999, 0, 0, 0, [])], [(999, 0, 0, 0, []), (3, 34359738360, 0, 18, []), (64, 0, 0, 19, []), (0, 0, 0, 20, []), (2, 162594873, 18, 23, [27]), (999, 0, 0, 0, []), (999, 0, 0, 0, []), (13, 2, 3, 24, []), (0, 0, 0, 25, []), (1, 1, 0, 26, []), (15, 162594873, 18, 29, [27]), (999, 0, 0, 0, []), (999, 0, 0, 0, []), (1, 2, 0, 30, []), (64, 0, 0, 31, [])]]
def ztb_63 : zxTB := [[(0, 0, 0, 1, []), (2, 57802833, 10, 4, [26]), (999, 0, 0, 0, []), (999, 0, 0, 0, []), (7, 10, 2, 7, []), (999, 0, 0, 0, []), (999, 0, 0, 0, []), (999, 0, 0, 0, []), (999, 0, 0, 0, []), (999, 0, 0, 0, []), (0, 0, 0, 11, []), (2, 57147408, 0, 14, [26]), (999, 0, 0, 0, []), (999, 0, 0, 0, []), (1, 1, 0, 15, []), (70, 59637845, 51, 18, [2, 24])], [(999, 0, 0, 0, []), (999, 0, 0, 0, []), (7, 28, 2, 21, []), (999, 0, 0, 0, []), (999, 0, 0, 0, []), (22, 2, 0, 22, []), (77, 60162137, 0, 25, [920, 2, 919]), (999, 0, 0, 0, []), (999, 0, 0, 0, []), (7, 30, 5, 28, []), (999, 0, 0, 0, []), (999, 0, 0, 0, []), (3, 34359738360, 0, 29, []), (64, 0, 0, 30, []), (0, 0, 0, 31, []), (2, 57147408, 0, 34, [26])], [(999, 0, 0, 0, []), (999, 0, 0, 0, []), (1, 1, 0, 35, []), (22, 2, 0, 36, []), (70, 60424285, 52, 39, [3, 24]), (999, 0, 0, 0, []), (999, 0, 0, 0, []), (7, 45, 1, 42, []), (999, 0, 0, 0, []), (999, 0, 0, 0, []), (999, 0, 0, 0, []), (999, 0, 0, 0, []), (999, 0, 0, 0, []), (0, 0, 0, 46, []), (2, 57147408, 0, 49, [26]), (999, 0, 0, 0, [])], [(999, 0, 0, 0, []), (70, 60686433, 40, 52, [1, 24]), (999, 0, 0, 0, []), (999, 0, 0, 0, []), (7, 67, 1, 55, []), (999, 0, 0, 0, []), (999, 0, 0, 0, []), (0, 0, 0, 56, []), (2, 57147408, 0, 59, [26]), (999, 0, 0, 0, []), (999, 0, 0, 0, []), (1, 1, 0, 60, []), (70, 60948581, 53, 63, [2, 24]), (999, 0, 0, 0, []), (999, 0, 0, 0, []), (3, 40, 0, 64, [])], [(6, 70, 1, 67, []), (999, 0, 0, 0, []), (999, 0, 0, 0, []), (999, 0, 0, 0, []), (999, 0, 0, 0, []), (999, 0, 0, 0, []), (0, 0, 0, 71, []), (2, 57344041, 3, 74, [26]), (999, 0, 0, 0, []), (999, 0, 0, 0, []), (1, 1, 0, 75, []), (22, 2, 0, 76, []), (4, 4, 0, 78, []), (999, 0, 0, 0, []), (70, 61210729, 64, 81, [4, 16]), (999, 0, 0, 0, [])], [(999, 0, 0, 0, []), (64, 0, 0, 82, [])]]
def ztb_64 : zxTB := [[(0, 0, 0, 1, []), (2, 26673167, 0, 4, [16]), (999, 0, 0, 0, []), (999, 0, 0, 0, []), (70, 61472795, 40, 7, [1, 24]), (999, 0, 0, 0, []), (999, 0, 0, 0, []), (14, 5, 6, 9, []), (999, 0, 0, 0, []), (4, 5, 0, 11, []), (999, 0, 0, 0, []), (7, 17, 6, 14, []), (999, 0, 0, 0, []), (999, 0, 0, 0, []), (999, 0, 0, 0, []), (999, 0, 0, 0, [])], [(999, 0, 0, 0, []), (0, 0, 0, 18, []), (2, 27197463, 2, 21, [16]), (999, 0, 0, 0, []), (999, 0, 0, 0, []), (4, 5, 0, 23, []), (999, 0, 0, 0, []), (11, 128, 0, 25, []), (999, 0, 0, 0, []), (3, 0, 0, 26, []), (70, 61538337, 65, 29, [4, 18]), (999, 0, 0, 0, []), (999, 0, 0, 0, []), (0, 0, 0, 30, []), (2, 26673167, 0, 33, [16]), (999, 0, 0, 0, [])], [(999, 0, 0, 0, []), (4, 5, 0, 35, []), (999, 0, 0, 0, []), (1, 1, 0, 36, []), (22, 2, 0, 37, []), (4, 4, 0, 39, []), (999, 0, 0, 0, []), (7, 46, 2, 42, []), (999, 0, 0, 0, []), (999, 0, 0, 0, []), (3, 8, 0, 43, []), (9, 47, 0, 46, []), (999, 0, 0, 0, []), (999, 0, 0, 0, []), (3, 16, 0, 47, []), (70, 63569959, 69, 50, [5, 24])], [(999, 0, 0, 0, []), (999, 0, 0, 0, []), (4, 4, 0, 52, []), (999, 0, 0, 0, []), (7, 109, 5, 55, []), (999, 0, 0, 0, []), (999, 0, 0, 0, []), (0, 0, 0, 56, []), (2, 26673167, 0, 59, [16]), (999, 0, 0, 0, []), (999, 0, 0, 0, []), (2, 8781867, 0, 62, [24]), (999, 0, 0, 0, []), (999, 0, 0, 0, []), (4, 5, 0, 64, []), (999, 0, 0, 0, [])], [(18, 5, 0, 65, []), (0, 0, 0, 66, []), (2, 26673167, 0, 69, [16]), (999, 0, 0, 0, []), (999, 0, 0, 0, []), (26, 0, 0, 70, []), (2, 9568303, 2, 73, [24]), (999, 0, 0, 0, []), (999, 0, 0, 0, []), (28, 0, 0, 74, []), (3, 8, 0, 75, []), (5, 0, 0, 76, []), (15, 9568303, 2, 79, [24]), (999, 0, 0, 0, []), (999, 0, 0, 0, []), (15, 3801139, 3, 82, [20])], [(999, 0, 0, 0, []), (999, 0, 0, 0, []), (0, 0, 0, 83, []), (2, 26673167, 0, 86, [16]), (999, 0, 0, 0, []), (999, 0, 0, 0, []), (2, 8781867, 0, 89, [24]), (999, 0, 0, 0, []), (999, 0, 0, 0, []), (4, 5, 0, 91, []), (999, 0, 0, 0, []), (18, 5, 0, 92, []), (0, 0, 0, 93, []), (2, 26673167, 0, 96, [16]), (999, 0, 0, 0, []), (999, 0, 0, 0, [])], [(26, 0, 0, 97, []), (2, 9830456, 3, 100, [24]), (999, 0, 0, 0, []), (999, 0, 0, 0, []), (28, 0, 0, 101, []), (3, 8, 0, 102, []), (5, 0, 0, 103, []), (15, 9830456, 3, 106, [24]), (999, 0, 0, 0, []), (999, 0, 0, 0, []), (15, 4587579, 5, 109, [20]), (999, 0, 0, 0, []), (999, 0, 0, 0, []), (4, 5, 0, 111, []), (999, 0, 0, 0, []), (64, 0, 0, 112, [])]]
def ztb_65 : zxTB := [[(0, 0, 0, 1, []), (2, 13631531, 6, 4, [18]), (999, 0, 0, 0, []), (999, 0, 0, 0, []), (12, 1600, 0, 7, []), (999, 0, 0, 0, []), (999, 0, 0, 0, []), (6, 15, 1, 10, []), (999, 0, 0, 0, []), (999, 0, 0, 0, []), (999, 0, 0, 0, []), (999, 0, 0, 0, []), (999, 0, 0, 0, []), (999, 0, 0, 0, []), (999, 0, 0, 0, []), (1, 1, 0, 16, [])], [(7, 40, 1, 19, []), (999, 0, 0, 0, []), (999, 0, 0, 0, []), (0, 0, 0, 20, []), (2, 13369355, 2, 23, [18]), (999, 0, 0, 0, []), (999, 0, 0, 0, []), (0, 0, 0, 24, []), (2, 13631531, 6, 27, [18]), (999, 0, 0, 0, []), (999, 0, 0, 0, []), (18, 5, 0, 28, []), (0, 0, 0, 29, []), (2, 13238306, 0, 32, [18]), (999, 0, 0, 0, []), (999, 0, 0, 0, [])], [(2, 8847417, 0, 35, [24]), (999, 0, 0, 0, []), (999, 0, 0, 0, []), (1, 1, 0, 36, []), (18, 5, 0, 37, []), (70, 62324798, 68, 40, [2, 20]), (999, 0, 0, 0, []), (999, 0, 0, 0, []), (0, 0, 0, 41, []), (2, 13434897, 3, 44, [18]), (999, 0, 0, 0, []), (999, 0, 0, 0, []), (0, 0, 0, 45, []), (2, 13631531, 6, 48, [18]), (999, 0, 0, 0, []), (999, 0, 0, 0, [])], [(1, 1, 0, 49, []), (16, 1, 0, 50, []), (0, 0, 0, 51, []), (2, 13500437, 4, 54, [18]), (999, 0, 0, 0, []), (999, 0, 0, 0, []), (0, 0, 0, 55, []), (2, 13631531, 6, 58, [18]), (999, 0, 0, 0, []), (999, 0, 0, 0, []), (1, 2, 0, 59, []), (16, 1, 0, 60, []), (0, 0, 0, 61, []), (2, 13565976, 5, 64, [18]), (999, 0, 0, 0, []), (999, 0, 0, 0, [])], [(0, 0, 0, 65, []), (2, 13631531, 6, 68, [18]), (999, 0, 0, 0, []), (999, 0, 0, 0, []), (1, 3, 0, 69, []), (16, 1, 0, 70, []), (0, 0, 0, 71, []), (26, 0, 0, 72, []), (2, 13631531, 6, 75, [18]), (999, 0, 0, 0, []), (999, 0, 0, 0, []), (3, 8, 0, 76, []), (5, 0, 0, 77, []), (15, 13631531, 6, 80, [18]), (999, 0, 0, 0, []), (999, 0, 0, 0, [])], [(0, 0, 0, 81, []), (26, 0, 0, 82, []), (2, 13762607, 7, 85, [18]), (999, 0, 0, 0, []), (999, 0, 0, 0, []), (1, 2, 0, 86, []), (5, 0, 0, 87, []), (15, 13762607, 7, 90, [18]), (999, 0, 0, 0, []), (999, 0, 0, 0, []), (1, 3, 0, 91, []), (7, 99, 3, 94, []), (999, 0, 0, 0, []), (999, 0, 0, 0, []), (999, 0, 0, 0, []), (999, 0, 0, 0, [])], [(999, 0, 0, 0, []), (999, 0, 0, 0, []), (999, 0, 0, 0, []), (1, 3, 0, 100, []), (7, 109, 6, 103, []), (999, 0, 0, 0, []), (999, 0, 0, 0, []), (999, 0, 0, 0, []), (999, 0, 0, 0, []), (999, 0, 0, 0, []), (999, 0, 0, 0, []), (999, 0, 0, 0, []), (999, 0, 0, 0, []), (67, 0, 0, 110, [])]]
def ztb_66 : zxTB := [[(0, 0, 0, 1, []), (2, 13631531, 6, 4, [18]), (999, 0, 0, 0, []), (999, 0, 0, 0, []), (13, 1, 3, 5, []), (0, 0, 0, 6, []), (3, 0, 0, 7, []), (15, 13631531, 6, 10, [18]), (999, 0, 0, 0, []), (999, 0, 0, 0, []), (0, 0, 0, 11, []), (3, 0, 0, 12, []), (15, 13762607, 7, 15, [18]), (999, 0, 0, 0, []), (999, 0, 0, 0, []), (3, 0, 0, 16, [])], [(13, 2, 3, 17, []), (1, 2, 0, 18, []), (0, 0, 0, 19, []), (2, 14024754, 10, 22, [18]), (999, 0, 0, 0, []), (999, 0, 0, 0, []), (6, 38, 6, 25, []), (999, 0, 0, 0, []), (999, 0, 0, 0, []), (999, 0, 0, 0, []), (999, 0, 0, 0, []), (999, 0, 0, 0, []), (999, 0, 0, 0, []), (999, 0, 0, 0, []), (999, 0, 0, 0, []), (999, 0, 0, 0, [])], [(999, 0, 0, 0, []), (999, 0, 0, 0, []), (999, 0, 0, 0, []), (999, 0, 0, 0, []), (999, 0, 0, 0, []), (999, 0, 0, 0, []), (0, 0, 0, 39, []), (2, 13303846, 1, 42, [18]), (999, 0, 0, 0, []), (999, 0, 0, 0, []), (70, 62062665, 67, 45, [1, 22]), (999, 0, 0, 0, []), (999, 0, 0, 0, []), (1, 1, 0, 46, []), (64, 0, 0, 47, [])]]
def ztb_67 : zxTB := [[(3, 0, 0, 1, []), (13, 1, 2, 2, []), (1, 1, 0, 3, []), (12, 1664, 0, 6, []), (999, 0, 0, 0, []), (999, 0, 0, 0, []), (6, 69, 6, 9, []), (999, 0, 0, 0, []), (999, 0, 0, 0, []), (0, 0, 0, 10, []), (2, 11862052, 4, 13, [22]), (999, 0, 0, 0, []), (999, 0, 0, 0, []), (7, 69, 3, 16, []), (999, 0, 0, 0, []), (999, 0, 0, 0, [])], [(999, 0, 0, 0, []), (999, 0, 0, 0, []), (999, 0, 0, 0, []), (999, 0, 0, 0, []), (999, 0, 0, 0, []), (999, 0, 0, 0, []), (999, 0, 0, 0, []), (999, 0, 0, 0, []), (999, 0, 0, 0, []), (999, 0, 0, 0, []), (999, 0, 0, 0, []), (999, 0, 0, 0, []), (999, 0, 0, 0, []), (999, 0, 0, 0, []), (999, 0, 0, 0, []), (999, 0, 0, 0, [])], [(999, 0, 0, 0, []), (999, 0, 0, 0, []), (999, 0, 0, 0, []), (999, 0, 0, 0, []), (999, 0, 0, 0, []), (999, 0, 0, 0, []), (999, 0, 0, 0, []), (999, 0, 0, 0, []), (999, 0, 0, 0, []), (999, 0, 0, 0, []), (999, 0, 0, 0, []), (999, 0, 0, 0, []), (999, 0, 0, 0, []), (999, 0, 0, 0, []), (999, 0, 0, 0, []), (999, 0, 0, 0, [])], [(999, 0, 0, 0, []), (999, 0, 0, 0, []), (999, 0, 0, 0, []), (999, 0, 0, 0, []), (999, 0, 0, 0, []), (999, 0, 0, 0, []), (999, 0, 0, 0, []), (999, 0, 0, 0, []), (999, 0, 0, 0, []), (999, 0, 0, 0, []), (999, 0, 0, 0, []), (999, 0, 0, 0, []), (999, 0, 0, 0, []), (999, 0, 0, 0, []), (999, 0, 0, 0, []), (999, 0, 0, 0, [])], [(999, 0, 0, 0, []), (999, 0, 0, 0, []), (999, 0, 0, 0, []), (999, 0, 0, 0, []), (999, 0, 0, 0, []), (67, 0, 0, 70, [])]]
def ztb_68 : zxTB := [[(0, 0, 0, 1, []), (0, 1, 0, 2, []), (2, 2752539, 0, 5, [20]), (999, 0, 0, 0, []), (999, 0, 0, 0, []), (15, 2752539, 0, 8, [20]), (999, 0, 0, 0, []), (999, 0, 0, 0, []), (0, 0, 0, 9, []), (0, 1, 0, 10, []), (2, 3080223, 1, 13, [20]), (999, 0, 0, 0, []), (999, 0, 0, 0, []), (15, 3080223, 1, 16, [20]), (999, 0, 0, 0, []), (999, 0, 0, 0, [])], [(0, 0, 0, 17, []), (0, 1, 0, 18, []), (2, 3407906, 2, 21, [20]), (999, 0, 0, 0, []), (999, 0, 0, 0, []), (15, 3407906, 130, 24, [20]), (999, 0, 0, 0, []), (999, 0, 0, 0, []), (0, 0, 0, 25, []), (0, 1, 0, 26, []), (2, 3735590, 3, 29, [20]), (999, 0, 0, 0, []), (999, 0, 0, 0, []), (15, 3735590, 3, 32, [20]), (999, 0, 0, 0, []), (999, 0, 0, 0, [])], [(0, 0, 0, 33, []), (0, 1, 0, 34, []), (2, 4128809, 4, 37, [20]), (999, 0, 0, 0, []), (999, 0, 0, 0, []), (15, 4128809, 4, 40, [20]), (999, 0, 0, 0, []), (999, 0, 0, 0, []), (0, 0, 0, 41, []), (0, 1, 0, 42, []), (2, 4522028, 5, 45, [20]), (999, 0, 0, 0, []), (999, 0, 0, 0, []), (15, 4522028, 5, 48, [20]), (999, 0, 0, 0, []), (999, 0, 0, 0, [])], [(0, 0, 0, 49, []), (0, 1, 0, 50, []), (2, 4849711, 6, 53, [20]), (999, 0, 0, 0, []), (999, 0, 0, 0, []), (15, 4849711, 6, 56, [20]), (999, 0, 0, 0, []), (999, 0, 0, 0, []), (0, 0, 0, 57, []), (0, 1, 0, 58, []), (2, 5177394, 7, 61, [20]), (999, 0, 0, 0, []), (999, 0, 0, 0, []), (15, 5177394, 7, 64, [20]), (999, 0, 0, 0, []), (999, 0, 0, 0, [])], [(0, 1, 0, 65, []), (2, 5570569, 8, 68, [20]), (999, 0, 0, 0, []), (999, 0, 0, 0, []), (3, 0, 0, 69, []), (0, 0, 0, 70, []), (2, 5570569, 8, 73, [20]), (999, 0, 0, 0, []), (999, 0, 0, 0, []), (3, 0, 0, 74, []), (3, 16, 0, 75, []), (76, 59, 4226230702113723, 78, []), (999, 0, 0, 0, []), (999, 0, 0, 0, []), (0, 1, 0, 79, []), (2, 5832719, 9, 82, [20])], [(999, 0, 0, 0, []), (999, 0, 0, 0, []), (3, 0, 0, 83, []), (0, 0, 0, 84, []), (2, 5832719, 9, 87, [20]), (999, 0, 0, 0, []), (999, 0, 0, 0, []), (3, 0, 0, 88, []), (3, 16, 0, 89, []), (76, 59, 4226230702113723, 92, []), (999, 0, 0, 0, []), (999, 0, 0, 0, []), (0, 1, 0, 93, []), (2, 6094866, 10, 96, [20]), (999, 0, 0, 0, []), (999, 0, 0, 0, [])], [(3, 0, 0, 97, []), (0, 0, 0, 98, []), (2, 6094866, 10, 101, [20]), (999, 0, 0, 0, []), (999, 0, 0, 0, []), (3, 0, 0, 102, []), (11, 256, 0, 104, []), (999, 0, 0, 0, []), (76, 59, 4226230702113723, 107, []), (999, 0, 0, 0, []), (999, 0, 0, 0, []), (0, 0, 0, 108, []), (0, 1, 0, 109, []), (2, 6422581, 11, 112, [20]), (999, 0, 0, 0, []), (999, 0, 0, 0, [])], [(15, 6422581, 11, 115, [20]), (999, 0, 0, 0, []), (999, 0, 0, 0, []), (0, 0, 0, 116, []), (0, 1, 0, 117, []), (2, 6619192, 12, 120, [20]), (999, 0, 0, 0, []), (999, 0, 0, 0, []), (15, 6619192, 12, 123, [20]), (999, 0, 0, 0, []), (999, 0, 0, 0, []), (67, 0, 0, 124, [])]]
def ztb_69 : zxTB := [[(0, 0, 0, 1, []), (2, 8716299, 0, 4, [24]), (999, 0, 0, 0, []), (999, 0, 0, 0, []), (1, 1, 0, 5, []), (18, 5, 0, 6, []), (31, 6, 7, 8, []), (999, 0, 0, 0, []), (29, 6, 0, 10, []), (999, 0, 0, 0, []), (70, 63832095, 20, 13, [1, 20]), (999, 0, 0, 0, []), (999, 0, 0, 0, []), (29, 6, 0, 15, []), (999, 0, 0, 0, []), (4, 5, 0, 17, [])], [(999, 0, 0, 0, []), (15, 2687004, 0, 20, [20]), (999, 0, 0, 0, []), (999, 0, 0, 0, []), (29, 6, 0, 22, []), (999, 0, 0, 0, []), (1, 2, 0, 23, []), (15, 3211304, 1, 26, [20]), (999, 0, 0, 0, []), (999, 0, 0, 0, []), (29, 6, 0, 28, []), (999, 0, 0, 0, []), (22, 3, 0, 29, []), (15, 3538987, 130, 32, [20]), (999, 0, 0, 0, []), (999, 0, 0, 0, [])], [(29, 6, 0, 34, []), (999, 0, 0, 0, []), (0, 0, 0, 35, []), (2, 9437251, 1, 38, [24]), (999, 0, 0, 0, []), (999, 0, 0, 0, []), (15, 5111878, 6, 41, [20]), (999, 0, 0, 0, []), (999, 0, 0, 0, []), (67, 0, 0, 42, [])]]
def ztb_70 : zxTB := [[(0, 0, 0, 1, []), (2, 11337743, 1, 4, [22]), (999, 0, 0, 0, []), (999, 0, 0, 0, []), (3, 0, 0, 5, []), (73, 93585448, 2, 8, [2]), (999, 0, 0, 0, []), (999, 0, 0, 0, []), (0, 0, 0, 9, []), (2, 11403283, 2, 12, [22]), (999, 0, 0, 0, []), (999, 0, 0, 0, []), (3, 0, 0, 13, []), (11, 384, 0, 15, []), (999, 0, 0, 0, []), (16, 1, 0, 16, [])], [(0, 0, 0, 17, []), (2, 11403283, 2, 20, [22]), (999, 0, 0, 0, []), (999, 0, 0, 0, []), (3, 8, 0, 21, []), (12, 1280, 0, 24, []), (999, 0, 0, 0, []), (999, 0, 0, 0, []), (16, 1, 0, 25, []), (0, 0, 0, 26, []), (2, 11665430, 3, 29, [22]), (999, 0, 0, 0, []), (999, 0, 0, 0, []), (3, 0, 0, 30, []), (3, 0, 0, 31, []), (16, 1, 0, 32, [])], [(0, 0, 0, 33, []), (2, 11665430, 3, 36, [22]), (999, 0, 0, 0, []), (999, 0, 0, 0, []), (3, 8, 0, 37, []), (3, 0, 0, 38, []), (16, 1, 0, 39, []), (0, 0, 0, 40, []), (3, 0, 0, 41, []), (15, 11862052, 4, 44, [22]), (999, 0, 0, 0, []), (999, 0, 0, 0, []), (67, 0, 0, 45, [])]]
def ztb_71 : zxTB := [[(0, 0, 0, 1, []), (2, 57475131, 5, 4, [26]), (999, 0, 0, 0, []), (999, 0, 0, 0, []), (70, 94241026, 72, 7, [1, 21]), (999, 0, 0, 0, []), (999, 0, 0, 0, []), (0, 0, 0, 8, []), (2, 57540676, 6, 11, [26]), (999, 0, 0, 0, []), (999, 0, 0, 0, []), (70, 105775365, 73, 14, [1, 25]), (999, 0, 0, 0, []), (999, 0, 0, 0, []), (0, 0, 0, 15, []), (2, 57606221, 7, 18, [26])], [(999, 0, 0, 0, []), (999, 0, 0, 0, []), (70, 106234118, 74, 21, [1, 19]), (999, 0, 0, 0, []), (999, 0, 0, 0, []), (0, 0, 0, 22, []), (2, 57344041, 3, 25, [26]), (999, 0, 0, 0, []), (999, 0, 0, 0, []), (3, 0, 0, 26, []), (15, 27656455, 4, 29, [16]), (999, 0, 0, 0, []), (999, 0, 0, 0, []), (67, 0, 0, 30, [])]]
def ztb_72 : zxTB := [[(0, 0, 0, 1, []), (74, 29607476012526388510753, 41, 4, [1, 21, 21]), (999, 0, 0, 0, []), (999, 0, 0, 0, []), (0, 0, 0, 5, []), (3, 34359738360, 0, 6, []), (15, 35586057, 7, 9, [21]), (999, 0, 0, 0, []), (999, 0, 0, 0, []), (0, 0, 0, 10, []), (3, 34359738360, 0, 11, []), (15, 36044818, 12, 14, [21]), (999, 0, 0, 0, []), (999, 0, 0, 0, []), (0, 0, 0, 15, []), (3, 0, 0, 16, [])], [(15, 36438052, 15, 19, [21]), (999, 0, 0, 0, []), (999, 0, 0, 0, []), (67, 0, 0, 20, [])]]
def ztb_73 : zxTB := [[(0, 0, 0, 1, []), (74, 29884181395825402970146, 41, 4, [1, 25, 25]), (999, 0, 0, 0, []), (999, 0, 0, 0, []), (0, 0, 0, 5, []), (3, 0, 0, 6, []), (15, 41287717, 10, 9, [25]), (999, 0, 0, 0, []), (999, 0, 0, 0, []), (67, 0, 0, 10, [])]]
def ztb_74 : zxTB := [[(0, 0, 0, 1, []), (3, 0, 0, 2, []), (15, 55181356, 70, 5, [19]), (999, 0, 0, 0, []), (999, 0, 0, 0, []), (0, 0, 0, 6, []), (3, 0, 0, 7, []), (15, 55312432, 71, 10, [19]), (999, 0, 0, 0, []), (999, 0, 0, 0, []), (67, 0, 0, 11, [])]]
def ztb_75 : zxTB := [[(3, 0, 0, 1, []), (13, 2, 4, 2, []), (3, 0, 0, 3, []), (13, 3, 4, 4, []), (1, 3, 0, 5, []), (11, 480, 0, 7, []), (999, 0, 0, 0, []), (6, 32, 6, 10, []), (999, 0, 0, 0, []), (999, 0, 0, 0, []), (0, 0, 0, 11, []), (2, 8716299, 0, 14, [24]), (999, 0, 0, 0, []), (999, 0, 0, 0, []), (1, 3, 0, 15, []), (18, 5, 0, 16, [])], [(2, 2687004, 0, 19, [20]), (999, 0, 0, 0, []), (999, 0, 0, 0, []), (1, 1, 0, 20, []), (6, 26, 5, 23, []), (999, 0, 0, 0, []), (999, 0, 0, 0, []), (10, 2, 4, 26, [1]), (999, 0, 0, 0, []), (999, 0, 0, 0, []), (10, 3, 4, 29, [1]), (999, 0, 0, 0, []), (999, 0, 0, 0, []), (9, 4, 0, 32, []), (999, 0, 0, 0, []), (999, 0, 0, 0, [])], [(1, 2, 0, 33, []), (64, 0, 0, 34, [])]]
def ztb_76 : zxTB := [[(3, 34359738360, 0, 1, []), (13, 2, 5, 2, []), (0, 0, 0, 3, []), (70, 114622506, 77, 6, [1, 21]), (999, 0, 0, 0, []), (999, 0, 0, 0, []), (13, 3, 5, 7, []), (1, 3, 0, 8, []), (7, 34, 1, 11, []), (999, 0, 0, 0, []), (999, 0, 0, 0, []), (999, 0, 0, 0, []), (999, 0, 0, 0, []), (999, 0, 0, 0, []), (999, 0, 0, 0, []), (999, 0, 0, 0, [])], [(999, 0, 0, 0, []), (999, 0, 0, 0, []), (999, 0, 0, 0, []), (999, 0, 0, 0, []), (999, 0, 0, 0, []), (999, 0, 0, 0, []), (999, 0, 0, 0, []), (999, 0, 0, 0, []), (999, 0, 0, 0, []), (999, 0, 0, 0, []), (999, 0, 0, 0, []), (999, 0, 0, 0, []), (999, 0, 0, 0, []), (999, 0, 0, 0, []), (999, 0, 0, 0, []), (999, 0, 0, 0, [])], [(999, 0, 0, 0, []), (999, 0, 0, 0, []), (0, 0, 0, 35, []), (2, 36044818, 12, 38, [21]), (999, 0, 0, 0, []), (999, 0, 0, 0, []), (7, 100, 1, 41, []), (999, 0, 0, 0, []), (999, 0, 0, 0, []), (999, 0, 0, 0, []), (999, 0, 0, 0, []), (999, 0, 0, 0, []), (999, 0, 0, 0, []), (999, 0, 0, 0, []), (999, 0, 0, 0, []), (999, 0, 0, 0, [])], [(999, 0, 0, 0, []), (999, 0, 0, 0, []), (999, 0, 0, 0, []), (999, 0, 0, 0, []), (999, 0, 0, 0, []), (999, 0, 0, 0, []), (999, 0, 0, 0, []), (999, 0, 0, 0, []), (999, 0, 0, 0, []), (999, 0, 0, 0, []), (999, 0, 0, 0, []), (999, 0, 0, 0, []), (999, 0, 0, 0, []), (999, 0, 0, 0, []), (999, 0, 0, 0, []), (999, 0, 0, 0, [])], [(999, 0, 0, 0, []), (999, 0, 0, 0, []), (999, 0, 0, 0, []), (999, 0, 0, 0, []), (999, 0, 0, 0, []), (999, 0, 0, 0, []), (999, 0, 0, 0, []), (999, 0, 0, 0, []), (999, 0, 0, 0, []), (999, 0, 0, 0, []), (999, 0, 0, 0, []), (999, 0, 0, 0, []), (999, 0, 0, 0, []), (999, 0, 0, 0, []), (999, 0, 0, 0, []), (999, 0, 0, 0, [])], [(999, 0, 0, 0, []), (999, 0, 0, 0, []), (999, 0, 0, 0, []), (999, 0, 0, 0, []), (999, 0, 0, 0, []), (999, 0, 0, 0, []), (999, 0, 0, 0, []), (999, 0, 0, 0, []), (999, 0, 0, 0, []), (999, 0, 0, 0, []), (999, 0, 0, 0, []), (999, 0, 0, 0, []), (999, 0, 0, 0, []), (999, 0, 0, 0, []), (999, 0, 0, 0, []), (999, 0, 0, 0, [])], [(999, 0, 0, 0, []), (999, 0, 0, 0, []), (999, 0, 0, 0, []), (999, 0, 0, 0, []), (0, 0, 0, 101, []), (1, 2, 0, 102, []), (1, 1, 0, 103, []), (70, 120520772, 78, 106, [3, 21]), (999, 0, 0, 0, []), (999, 0, 0, 0, []), (67, 0, 0, 107, [])]]
def ztb_77 : zxTB := [[(3, 0, 0, 1, []), (13, 1, 3, 2, []), (1, 1, 0, 3, []), (0, 0, 0, 4, []), (2, 35520541, 6, 7, [21]), (999, 0, 0, 0, []), (999, 0, 0, 0, []), (2, 27525212, 4, 10, [16]), (999, 0, 0, 0, []), (999, 0, 0, 0, []), (6, 55, 6, 13, []), (999, 0, 0, 0, []), (999, 0, 0, 0, []), (999, 0, 0, 0, []), (999, 0, 0, 0, []), (999, 0, 0, 0, [])], [(999, 0, 0, 0, []), (999, 0, 0, 0, []), (999, 0, 0, 0, []), (999, 0, 0, 0, []), (999, 0, 0, 0, []), (999, 0, 0, 0, []), (999, 0, 0, 0, []), (999, 0, 0, 0, []), (999, 0, 0, 0, []), (999, 0, 0, 0, []), (999, 0, 0, 0, []), (999, 0, 0, 0, []), (999, 0, 0, 0, []), (999, 0, 0, 0, []), (999, 0, 0, 0, []), (999, 0, 0, 0, [])], [(999, 0, 0, 0, []), (999, 0, 0, 0, []), (999, 0, 0, 0, []), (999, 0, 0, 0, []), (999, 0, 0, 0, []), (999, 0, 0, 0, []), (999, 0, 0, 0, []), (999, 0, 0, 0, []), (999, 0, 0, 0, []), (999, 0, 0, 0, []), (999, 0, 0, 0, []), (999, 0, 0, 0, []), (999, 0, 0, 0, []), (999, 0, 0, 0, []), (999, 0, 0, 0, []), (999, 0, 0, 0, [])], [(999, 0, 0, 0, []), (999, 0, 0, 0, []), (999, 0, 0, 0, []), (999, 0, 0, 0, []), (999, 0, 0, 0, []), (999, 0, 0, 0, []), (999, 0, 0, 0, []), (3, 34359738360, 0, 56, []), (64, 0, 0, 57, [])]]
def ztb_78 : zxTB := [[(1, 1, 0, 1, []), (7, 29, 6, 4, []), (999, 0, 0, 0, []), (999, 0, 0, 0, []), (0, 0, 0, 5, []), (2, 2413808386101, 0, 8, [21]), (999, 0, 0, 0, []), (999, 0, 0, 0, []), (7, 61, 1, 11, []), (999, 0, 0, 0, []), (999, 0, 0, 0, []), (999, 0, 0, 0, []), (999, 0, 0, 0, []), (999, 0, 0, 0, []), (999, 0, 0, 0, []), (999, 0, 0, 0, [])], [(999, 0, 0, 0, []), (999, 0, 0, 0, []), (999, 0, 0, 0, []), (999, 0, 0, 0, []), (999, 0, 0, 0, []), (999, 0, 0, 0, []), (999, 0, 0, 0, []), (999, 0, 0, 0, []), (999, 0, 0, 0, []), (999, 0, 0, 0, []), (999, 0, 0, 0, []), (999, 0, 0, 0, []), (999, 0, 0, 0, []), (999, 0, 0, 0, []), (999, 0, 0, 0, []), (999, 0, 0, 0, [])], [(999, 0, 0, 0, []), (999, 0, 0, 0, []), (999, 0, 0, 0, []), (999, 0, 0, 0, []), (999, 0, 0, 0, []), (999, 0, 0, 0, []), (999, 0, 0, 0, []), (999, 0, 0, 0, []), (999, 0, 0, 0, []), (999, 0, 0, 0, []), (999, 0, 0, 0, []), (999, 0, 0, 0, []), (999, 0, 0, 0, []), (999, 0, 0, 0, []), (999, 0, 0, 0, []), (999, 0, 0, 0, [])], [(999, 0, 0, 0, []), (999, 0, 0, 0, []), (999, 0, 0, 0, []), (999, 0, 0, 0, []), (999, 0, 0, 0, []), (999, 0, 0, 0, []), (999, 0, 0, 0, []), (999, 0, 0, 0, []), (999, 0, 0, 0, []), (999, 0, 0, 0, []), (999, 0, 0, 0, []), (999, 0, 0, 0, []), (999, 0, 0, 0, []), (67, 0, 0, 62, [])]]
def ztb_79 : zxTB := [[(0, 0, 0, 1, []), (70, 134676558, 80, 4, [1, 25]), (999, 0, 0, 0, []), (999, 0, 0, 0, []), (0, 0, 0, 5, []), (2, 2422398451793, 0, 8, [25]), (999, 0, 0, 0, []), (999, 0, 0, 0, []), (7, 30, 1, 11, []), (999, 0, 0, 0, []), (999, 0, 0, 0, []), (999, 0, 0, 0, []), (999, 0, 0, 0, []), (999, 0, 0, 0, []), (999, 0, 0, 0, []), (999, 0, 0, 0, [])], [(999, 0, 0, 0, []), (999, 0, 0, 0, []), (999, 0, 0, 0, []), (999, 0, 0, 0, []), (999, 0, 0, 0, []), (999, 0, 0, 0, []), (999, 0, 0, 0, []), (999, 0, 0, 0, []), (999, 0, 0, 0, []), (999, 0, 0, 0, []), (999, 0, 0, 0, []), (999, 0, 0, 0, []), (999, 0, 0, 0, []), (999, 0, 0, 0, []), (0, 0, 0, 31, []), (70, 135266396, 81, 34, [1, 25])], [(999, 0, 0, 0, []), (999, 0, 0, 0, []), (7, 44, 5, 37, []), (999, 0, 0, 0, []), (999, 0, 0, 0, []), (0, 0, 0, 38, []), (70, 138739807, 83, 41, [1, 25]), (999, 0, 0, 0, []), (999, 0, 0, 0, []), (7, 45, 2, 44, []), (999, 0, 0, 0, []), (999, 0, 0, 0, []), (999, 0, 0, 0, []), (0, 0, 0, 46, []), (70, 139722850, 84, 49, [1, 25]), (999, 0, 0, 0, [])], [(999, 0, 0, 0, []), (67, 0, 0, 50, [])]]
def ztb_80 : zxTB := [[(3, 0, 0, 1, []), (13, 1, 5, 2, []), (3, 0, 0, 3, []), (13, 2, 5, 4, []), (1, 2, 0, 5, []), (0, 0, 0, 6, []), (2, 41287717, 10, 9, [25]), (999, 0, 0, 0, []), (999, 0, 0, 0, []), (6, 124, 6, 12, []), (999, 0, 0, 0, []), (999, 0, 0, 0, []), (999, 0, 0, 0, []), (999, 0, 0, 0, []), (999, 0, 0, 0, []), (999, 0, 0, 0, [])], [(999, 0, 0, 0, []), (999, 0, 0, 0, []), (999, 0, 0, 0, []), (999, 0, 0, 0, []), (999, 0, 0, 0, []), (999, 0, 0, 0, []), (999, 0, 0, 0, []), (999, 0, 0, 0, []), (999, 0, 0, 0, []), (999, 0, 0, 0, []), (999, 0, 0, 0, []), (999, 0, 0, 0, []), (999, 0, 0, 0, []), (999, 0, 0, 0, []), (999, 0, 0, 0, []), (999, 0, 0, 0, [])], [(999, 0, 0, 0, []), (999, 0, 0, 0, []), (999, 0, 0, 0, []), (999, 0, 0, 0, []), (999, 0, 0, 0, []), (999, 0, 0, 0, []), (999, 0, 0, 0, []), (999, 0, 0, 0, []), (999, 0, 0, 0, []), (999, 0, 0, 0, []), (999, 0, 0, 0, []), (999, 0, 0, 0, []), (999, 0, 0, 0, []), (999, 0, 0, 0, []), (999, 0, 0, 0, []), (999, 0, 0, 0, [])], [(999, 0, 0, 0, []), (999, 0, 0, 0, []), (999, 0, 0, 0, []), (999, 0, 0, 0, []), (999, 0, 0, 0, []), (999, 0, 0, 0, []), (999, 0, 0, 0, []), (999, 0, 0, 0, []), (999, 0, 0, 0, []), (999, 0, 0, 0, []), (999, 0, 0, 0, []), (999, 0, 0, 0, []), (999, 0, 0, 0, []), (999, 0, 0, 0, []), (999, 0, 0, 0, []), (999, 0, 0, 0, [])], [(999, 0, 0, 0, []), (999, 0, 0, 0, []), (999, 0, 0, 0, []), (999, 0, 0, 0, []), (999, 0, 0, 0, []), (999, 0, 0, 0, []), (999, 0, 0, 0, []), (999, 0, 0, 0, []), (999, 0, 0, 0, []), (999, 0, 0, 0, []), (999, 0, 0, 0, []), (999, 0, 0, 0, []), (999, 0, 0, 0, []), (999, 0, 0, 0, []), (999, 0, 0, 0, []), (999, 0, 0, 0, [])], [(999, 0, 0, 0, []), (999, 0, 0, 0, []), (999, 0, 0, 0, []), (999, 0, 0, 0, []), (999, 0, 0, 0, []), (999, 0, 0, 0, []), (999, 0, 0, 0, []), (999, 0, 0, 0, []), (999, 0, 0, 0, []), (999, 0, 0, 0, []), (999, 0, 0, 0, []), (999, 0, 0, 0, []), (999, 0, 0, 0, []), (999, 0, 0, 0, []), (999, 0, 0, 0, []), (999, 0, 0, 0, [])], [(999, 0, 0, 0, []), (999, 0, 0, 0, []), (999, 0, 0, 0, []), (999, 0, 0, 0, []), (999, 0, 0, 0, []), (999, 0, 0, 0, []), (999, 0, 0, 0, []), (999, 0, 0, 0, []), (999, 0, 0, 0, []), (999, 0, 0, 0, []), (999, 0, 0, 0, []), (999, 0, 0, 0, []), (999, 0, 0, 0, []), (999, 0, 0, 0, []), (999, 0, 0, 0, []), (999, 0, 0, 0, [])], [(999, 0, 0, 0, []), (999, 0, 0, 0, []), (999, 0, 0, 0, []), (999, 0, 0, 0, []), (999, 0, 0, 0, []), (999, 0, 0, 0, []), (999, 0, 0, 0, []), (999, 0, 0, 0, []), (999, 0, 0, 0, []), (999, 0, 0, 0, []), (999, 0, 0, 0, []), (999, 0, 0, 0, []), (0, 0, 0, 125, []), (1, 1, 0, 126, []), (15, 41287717, 10, 129, [25]), (999, 0, 0, 0, [])], [(999, 0, 0, 0, []), (67, 0, 0, 130, [])]]
def ztb_81 : zxTB := [[(0, 0, 0, 1, []), (2, 41025562, 6, 4, [25]), (999, 0, 0, 0, []), (999, 0, 0, 0, []), (2, 27263077, 2, 7, [16]), (999, 0, 0, 0, []), (999, 0, 0, 0, []), (70, 135528553, 82, 10, [1, 18]), (999, 0, 0, 0, []), (999, 0, 0, 0, []), (13, 1, 3, 11, []), (1, 1, 0, 12, []), (7, 17, 5, 15, []), (999, 0, 0, 0, []), (999, 0, 0, 0, []), (3, 0, 0, 16, [])], [(65, 0, 0, 17, [])]]
def ztb_82 : zxTB := [[(3, 0, 0, 1, []), (13, 1, 2, 2, []), (1, 1, 0, 3, []), (0, 0, 0, 4, []), (2, 14024754, 10, 7, [18]), (999, 0, 0, 0, []), (999, 0, 0, 0, []), (6, 32, 6, 10, []), (999, 0, 0, 0, []), (999, 0, 0, 0, []), (999, 0, 0, 0, []), (999, 0, 0, 0, []), (999, 0, 0, 0, []), (999, 0, 0, 0, []), (999, 0, 0, 0, []), (999, 0, 0, 0, [])], [(999, 0, 0, 0, []), (999, 0, 0, 0, []), (999, 0, 0, 0, []), (999, 0, 0, 0, []), (999, 0, 0, 0, []), (999, 0, 0, 0, []), (999, 0, 0, 0, []), (999, 0, 0, 0, []), (999, 0, 0, 0, []), (999, 0, 0, 0, []), (999, 0, 0, 0, []), (999, 0, 0, 0, []), (999, 0, 0, 0, []), (999, 0, 0, 0, []), (999, 0, 0, 0, []), (999, 0, 0, 0, [])], [(3, 0, 0, 33, []), (64, 0, 0, 34, [])]]
def ztb_83 : zxTB := [[(0, 0, 0, 1, []), (2, 41091102, 7, 4, [25]), (999, 0, 0, 0, []), (999, 0, 0, 0, []), (2, 36503675, 15, 7, [21]), (999, 0, 0, 0, []), (999, 0, 0, 0, []), (7, 12, 5, 10, []), (999, 0, 0, 0, []), (999, 0, 0, 0, []), (3, 0, 0, 11, []), (65, 0, 0, 12, [])]]
def ztb_84 : zxTB := [[(3, 0, 0, 1, []), (13, 1, 5, 2, []), (1, 1, 0, 3, []), (0, 0, 0, 4, []), (2, 41287717, 10, 7, [25]), (999, 0, 0, 0, []), (999, 0, 0, 0, []), (6, 85, 6, 10, []), (999, 0, 0, 0, []), (999, 0, 0, 0, []), (999, 0, 0, 0, []), (999, 0, 0, 0, []), (999, 0, 0, 0, []), (999, 0, 0, 0, []), (999, 0, 0, 0, []), (999, 0, 0, 0, [])], [(999, 0, 0, 0, []), (999, 0, 0, 0, []), (999, 0, 0, 0, []), (999, 0, 0, 0, []), (999, 0, 0, 0, []), (999, 0, 0, 0, []), (999, 0, 0, 0, []), (999, 0, 0, 0, []), (999, 0, 0, 0, []), (999, 0, 0, 0, []), (999, 0, 0, 0, []), (999, 0, 0, 0, []), (999, 0, 0, 0, []), (999, 0, 0, 0, []), (999, 0, 0, 0, []), (999, 0, 0, 0, [])], [(999, 0, 0, 0, []), (999, 0, 0, 0, []), (999, 0, 0, 0, []), (999, 0, 0, 0, []), (999, 0, 0, 0, []), (999, 0, 0, 0, []), (999, 0, 0, 0, []), (999, 0, 0, 0, []), (999, 0, 0, 0, []), (999, 0, 0, 0, []), (999, 0, 0, 0, []), (999, 0, 0, 0, []), (999, 0, 0, 0, []), (999, 0, 0, 0, []), (999, 0, 0, 0, []), (999, 0, 0, 0, [])], [(999, 0, 0, 0, []), (999, 0, 0, 0, []), (999, 0, 0, 0, []), (999, 0, 0, 0, []), (999, 0, 0, 0, []), (999, 0, 0, 0, []), (999, 0, 0, 0, []), (999, 0, 0, 0, []), (999, 0, 0, 0, []), (999, 0, 0, 0, []), (999, 0, 0, 0, []), (999, 0, 0, 0, []), (999, 0, 0, 0, []), (999, 0, 0, 0, []), (999, 0, 0, 0, []), (999, 0, 0, 0, [])], [(999, 0, 0, 0, []), (999, 0, 0, 0, []), (999, 0, 0, 0, []), (999, 0, 0, 0, []), (999, 0, 0, 0, []), (999, 0, 0, 0, []), (999, 0, 0, 0, []), (999, 0, 0, 0, []), (999, 0, 0, 0, []), (999, 0, 0, 0, []), (999, 0, 0, 0, []), (999, 0, 0, 0, []), (999, 0, 0, 0, []), (999, 0, 0, 0, []), (999, 0, 0, 0, []), (999, 0, 0, 0, [])], [(999, 0, 0, 0, []), (999, 0, 0, 0, []), (999, 0, 0, 0, []), (999, 0, 0, 0, []), (999, 0, 0, 0, []), (67, 0, 0, 86, [])]]
def ztb_85 : zxTB := [[(0, 0, 0, 1, []), (0, 0, 0, 2, []), (3, 0, 0, 3, []), (0, 0, 0, 4, []), (2, 55181356, 6, 7, [19]), (999, 0, 0, 0, []), (999, 0, 0, 0, []), (70, 143589427, 44, 10, [3, 19]), (999, 0, 0, 0, []), (999, 0, 0, 0, []), (15, 55181356, 70, 13, [19]), (999, 0, 0, 0, []), (999, 0, 0, 0, []), (0, 0, 0, 14, []), (0, 0, 0, 15, []), (3, 8, 0, 16, [])], [(0, 0, 0, 17, []), (2, 55312432, 7, 20, [19]), (999, 0, 0, 0, []), (999, 0, 0, 0, []), (70, 143589427, 44, 23, [3, 19]), (999, 0, 0, 0, []), (999, 0, 0, 0, []), (15, 55312432, 71, 26, [19]), (999, 0, 0, 0, []), (999, 0, 0, 0, []), (0, 0, 0, 27, []), (2, 55181356, 6, 30, [19]), (999, 0, 0, 0, []), (999, 0, 0, 0, []), (7, 73, 2, 33, []), (999, 0, 0, 0, [])], [(999, 0, 0, 0, []), (999, 0, 0, 0, []), (999, 0, 0, 0, []), (999, 0, 0, 0, []), (999, 0, 0, 0, []), (999, 0, 0, 0, []), (999, 0, 0, 0, []), (999, 0, 0, 0, []), (999, 0, 0, 0, []), (999, 0, 0, 0, []), (999, 0, 0, 0, []), (999, 0, 0, 0, []), (999, 0, 0, 0, []), (999, 0, 0, 0, []), (999, 0, 0, 0, []), (999, 0, 0, 0, [])], [(999, 0, 0, 0, []), (999, 0, 0, 0, []), (999, 0, 0, 0, []), (999, 0, 0, 0, []), (999, 0, 0, 0, []), (999, 0, 0, 0, []), (999, 0, 0, 0, []), (999, 0, 0, 0, []), (999, 0, 0, 0, []), (999, 0, 0, 0, []), (999, 0, 0, 0, []), (999, 0, 0, 0, []), (999, 0, 0, 0, []), (999, 0, 0, 0, []), (999, 0, 0, 0, []), (999, 0, 0, 0, [])], [(999, 0, 0, 0, []), (999, 0, 0, 0, []), (999, 0, 0, 0, []), (999, 0, 0, 0, []), (999, 0, 0, 0, []), (999, 0, 0, 0, []), (999, 0, 0, 0, []), (999, 0, 0, 0, []), (999, 0, 0, 0, []), (0, 0, 0, 74, []), (2, 55312432, 7, 77, [19]), (999, 0, 0, 0, []), (999, 0, 0, 0, []), (7, 96, 2, 80, []), (999, 0, 0, 0, []), (999, 0, 0, 0, [])], [(999, 0, 0, 0, []), (999, 0, 0, 0, []), (999, 0, 0, 0, []), (999, 0, 0, 0, []), (999, 0, 0, 0, []), (999, 0, 0, 0, []), (999, 0, 0, 0, []), (999, 0, 0, 0, []), (999, 0, 0, 0, []), (999, 0, 0, 0, []), (999, 0, 0, 0, []), (999, 0, 0, 0, []), (999, 0, 0, 0, []), (999, 0, 0, 0, []), (999, 0, 0, 0, []), (999, 0, 0, 0, [])], [(67, 0, 0, 97, [])]]
def ztb_86 : zxTB := [[(1, 1, 0, 1, []), (46, 70, 2147483649, 32, [32, 42, 52, 60]), (999, 0, 0, 0, []), (999, 0, 0, 0, []), (999, 0, 0, 0, []), (999, 0, 0, 0, []), (999, 0, 0, 0, []), (999, 0, 0, 0, []), (999, 0, 0, 0, []), (999, 0, 0, 0, []), (999, 0, 0, 0, []), (999, 0, 0, 0, []), (999, 0, 0, 0, []), (999, 0, 0, 0, []), (999, 0, 0, 0, []), (999, 0, 0, 0, [])], [(999, 0, 0, 0, []), (999, 0, 0, 0, []), (999, 0, 0, 0, []), (999, 0, 0, 0, []), (999, 0, 0, 0, []), (999, 0, 0, 0, []), (999, 0, 0, 0, []), (999, 0, 0, 0, []), (999, 0, 0, 0, []), (999, 0, 0, 0, []), (999, 0, 0, 0, []), (999, 0, 0, 0, []), (999, 0, 0, 0, []), (999, 0, 0, 0, []), (999, 0, 0, 0, []), (999, 0, 0, 0, [])], [(0, 0, 0, 33, []), (2, 57212951, 1, 36, [26]), (999, 0, 0, 0, []), (999, 0, 0, 0, []), (2, 11796842, 3, 39, [22]), (999, 0, 0, 0, []), (999, 0, 0, 0, []), (3, 0, 0, 40, []), (8, 1, 0, 41, []), (64, 0, 0, 42, []), (0, 0, 0, 43, []), (2, 57212951, 1, 46, [26]), (999, 0, 0, 0, []), (999, 0, 0, 0, []), (2, 11796842, 3, 49, [22]), (999, 0, 0, 0, [])], [(999, 0, 0, 0, []), (3, 8, 0, 50, []), (8, 1, 0, 51, []), (64, 0, 0, 52, []), (0, 0, 0, 53, []), (2, 57212951, 1, 56, [26]), (999, 0, 0, 0, []), (999, 0, 0, 0, []), (2, 11927917, 4, 59, [22]), (999, 0, 0, 0, []), (999, 0, 0, 0, []), (64, 0, 0, 60, []), (0, 0, 0, 61, []), (2, 57212951, 1, 64, [26]), (999, 0, 0, 0, []), (999, 0, 0, 0, [])], [(2, 11534504, 2, 67, [22]), (999, 0, 0, 0, []), (999, 0, 0, 0, []), (3, 0, 0, 68, []), (8, 1, 0, 69, []), (64, 0, 0, 70, []), (0, 0, 0, 71, []), (2, 57212951, 1, 74, [26]), (999, 0, 0, 0, []), (999, 0, 0, 0, []), (2, 11534504, 2, 77, [22]), (999, 0, 0, 0, []), (999, 0, 0, 0, []), (3, 8, 0, 78, []), (8, 1, 0, 79, []), (64, 0, 0, 80, [])]]
def ztb_87 : zxTB := [[(3, 8, 0, 1, []), (13, 1, 2, 2, []), (1, 1, 0, 3, []), (11, 480, 0, 5, []), (999, 0, 0, 0, []), (6, 25, 6, 8, []), (999, 0, 0, 0, []), (999, 0, 0, 0, []), (0, 0, 0, 9, []), (1, 1, 0, 10, []), (3, 0, 0, 11, []), (70, 183959695, 0, 14, [3, 27]), (999, 0, 0, 0, []), (999, 0, 0, 0, []), (7, 19, 5, 17, []), (999, 0, 0, 0, [])], [(999, 0, 0, 0, []), (1, 1, 0, 18, []), (64, 0, 0, 19, [])]]
def ztb_88 : zxTB := [[(0, 0, 0, 1, []), (2, 161874047, 7, 4, [27]), (999, 0, 0, 0, []), (999, 0, 0, 0, []), (12, 1600, 0, 7, []), (999, 0, 0, 0, []), (999, 0, 0, 0, []), (6, 15, 5, 10, []), (999, 0, 0, 0, []), (999, 0, 0, 0, []), (999, 0, 0, 0, []), (999, 0, 0, 0, []), (999, 0, 0, 0, []), (999, 0, 0, 0, []), (999, 0, 0, 0, []), (67, 0, 0, 16, [])]]
def ztb_89 : zxTB := [[(0, 0, 0, 1, []), (2, 161874047, 7, 4, [27]), (999, 0, 0, 0, []), (999, 0, 0, 0, []), (13, 1, 3, 5, []), (0, 0, 0, 6, []), (3, 0, 0, 7, []), (15, 161874047, 7, 10, [27]), (999, 0, 0, 0, []), (999, 0, 0, 0, []), (0, 0, 0, 11, []), (70, 161153154, 34, 14, [1, 27]), (999, 0, 0, 0, []), (999, 0, 0, 0, []), (3, 0, 0, 15, []), (13, 2, 3, 16, [])], [(1, 2, 0, 17, []), (12, 1664, 0, 20, []), (999, 0, 0, 0, []), (999, 0, 0, 0, []), (6, 55, 6, 23, []), (999, 0, 0, 0, []), (999, 0, 0, 0, []), (0, 0, 0, 24, []), (2, 161939490, 8, 27, [27]), (999, 0, 0, 0, []), (999, 0, 0, 0, []), (1, 2, 0, 28, []), (0, 0, 0, 29, []), (2, 161939490, 8, 32, [27]), (999, 0, 0, 0, []), (999, 0, 0, 0, [])], [(1, 2, 0, 33, []), (8, 1, 0, 34, []), (3, 16, 0, 35, []), (6, 42, 5, 38, []), (999, 0, 0, 0, []), (999, 0, 0, 0, []), (999, 0, 0, 0, []), (999, 0, 0, 0, []), (999, 0, 0, 0, []), (999, 0, 0, 0, []), (0, 0, 0, 43, []), (2, 161939490, 8, 46, [27]), (999, 0, 0, 0, []), (999, 0, 0, 0, []), (1, 2, 0, 47, []), (8, 1, 0, 48, [])], [(16, 1, 0, 49, []), (10, 2, 3, 52, [1]), (999, 0, 0, 0, []), (999, 0, 0, 0, []), (9, 16, 0, 55, []), (999, 0, 0, 0, []), (999, 0, 0, 0, []), (3, 0, 0, 56, []), (13, 2, 3, 57, []), (1, 2, 0, 58, []), (11, 320, 0, 60, []), (999, 0, 0, 0, []), (6, 76, 6, 63, []), (999, 0, 0, 0, []), (999, 0, 0, 0, []), (0, 0, 0, 64, [])], [(2, 162070569, 10, 67, [27]), (999, 0, 0, 0, []), (999, 0, 0, 0, []), (1, 2, 0, 68, []), (3, 8, 0, 69, []), (35, 3, 0, 70, []), (10, 2, 3, 73, [1]), (999, 0, 0, 0, []), (999, 0, 0, 0, []), (9, 57, 0, 76, []), (999, 0, 0, 0, []), (999, 0, 0, 0, []), (1, 1, 0, 77, []), (64, 0, 0, 78, [])]]
def ztb_90 : zxTB := [[(3, 0, 0, 1, []), (14, 6, 7, 3, []), (999, 0, 0, 0, []), (4, 6, 0, 5, []), (999, 0, 0, 0, []), (11, 336, 0, 7, []), (999, 0, 0, 0, []), (6, 24, 6, 10, []), (999, 0, 0, 0, []), (999, 0, 0, 0, []), (0, 0, 0, 11, []), (1, 1, 0, 12, []), (4, 6, 0, 14, []), (999, 0, 0, 0, []), (3, 0, 0, 15, []), (70, 186319005, 6, 18, [4, 27])], [(999, 0, 0, 0, []), (999, 0, 0, 0, []), (10, 6, 7, 21, [1]), (999, 0, 0, 0, []), (999, 0, 0, 0, []), (9, 3, 0, 24, []), (999, 0, 0, 0, []), (999, 0, 0, 0, []), (0, 0, 0, 25, []), (1, 1, 0, 26, []), (3, 0, 0, 27, []), (1, 2, 0, 28, []), (70, 186319005, 6, 31, [4, 27]), (999, 0, 0, 0, []), (999, 0, 0, 0, []), (0, 0, 0, 32, [])], [(1, 1, 0, 33, []), (3, 8, 0, 34, []), (1, 3, 0, 35, []), (70, 186319005, 6, 38, [4, 27]), (999, 0, 0, 0, []), (999, 0, 0, 0, []), (0, 0, 0, 39, []), (1, 1, 0, 40, []), (70, 186581153, 91, 43, [2, 27]), (999, 0, 0, 0, []), (999, 0, 0, 0, []), (0, 0, 0, 44, []), (2, 161546257, 2, 47, [27]), (999, 0, 0, 0, []), (999, 0, 0, 0, []), (1, 1, 0, 48, [])], [(23, 4, 0, 50, []), (999, 0, 0, 0, []), (37, 4, 0, 51, []), (0, 0, 0, 52, []), (2, 161611797, 3, 55, [27]), (999, 0, 0, 0, []), (999, 0, 0, 0, []), (1, 1, 0, 56, []), (0, 0, 0, 57, []), (2, 162136229, 11, 60, [27]), (999, 0, 0, 0, []), (999, 0, 0, 0, []), (16, 1, 0, 61, []), (67, 0, 0, 62, [])]]
def ztb_91 : zxTB := [[(3, 0, 0, 1, []), (13, 2, 3, 2, []), (1, 2, 0, 3, []), (11, 256, 0, 5, []), (999, 0, 0, 0, []), (6, 24, 6, 8, []), (999, 0, 0, 0, []), (999, 0, 0, 0, []), (0, 0, 0, 9, []), (1, 1, 0, 10, []), (11, 80, 0, 12, []), (999, 0, 0, 0, []), (1, 2, 0, 13, []), (5, 0, 0, 14, []), (3, 34359738360, 0, 15, []), (70, 186319005, 6, 18, [4, 27])], [(999, 0, 0, 0, []), (999, 0, 0, 0, []), (10, 2, 3, 21, [1]), (999, 0, 0, 0, []), (999, 0, 0, 0, []), (9, 2, 0, 24, []), (999, 0, 0, 0, []), (999, 0, 0, 0, []), (67, 0, 0, 25, [])]]
def ztb_92 : zxTB := [[(0, 0, 0, 1, []), (2, 161808415, 6, 4, [27]), (999, 0, 0, 0, []), (999, 0, 0, 0, []), (0, 0, 0, 5, []), (2, 161874047, 7, 8, [27]), (999, 0, 0, 0, []), (999, 0, 0, 0, []), (1, 1, 0, 9, []), (16, 1, 0, 10, []), (0, 0, 0, 11, []), (26, 0, 0, 12, []), (2, 161874047, 7, 15, [27]), (999, 0, 0, 0, []), (999, 0, 0, 0, []), (3, 8, 0, 16, [])], [(5, 0, 0, 17, []), (15, 161874047, 7, 20, [27]), (999, 0, 0, 0, []), (999, 0, 0, 0, []), (0, 0, 0, 21, []), (70, 161153154, 34, 24, [1, 27]), (999, 0, 0, 0, []), (999, 0, 0, 0, []), (67, 0, 0, 25, [])]]
def ztb_93 : zxTB := [[(0, 0, 0, 1, []), (3, 0, 0, 2, []), (15, 161415169, 0, 5, [27]), (999, 0, 0, 0, []), (999, 0, 0, 0, []), (0, 0, 0, 6, []), (2, 162398376, 15, 9, [27]), (999, 0, 0, 0, []), (999, 0, 0, 0, []), (7, 15, 2, 12, []), (999, 0, 0, 0, []), (999, 0, 0, 0, []), (999, 0, 0, 0, []), (999, 0, 0, 0, []), (999, 0, 0, 0, []), (1, 1, 0, 16, [])], [(7, 21, 6, 19, []), (999, 0, 0, 0, []), (999, 0, 0, 0, []), (3, 34359738360, 0, 20, []), (64, 0, 0, 21, []), (3, 0, 0, 22, []), (13, 2, 6, 23, []), (1, 1, 0, 24, []), (13, 3, 6, 25, []), (1, 2, 0, 26, []), (0, 0, 0, 27, []), (2, 161874047, 7, 30, [27]), (999, 0, 0, 0, []), (999, 0, 0, 0, []), (6, 58, 6, 33, []), (999, 0, 0, 0, [])], [(999, 0, 0, 0, []), (999, 0, 0, 0, []), (999, 0, 0, 0, []), (999, 0, 0, 0, []), (999, 0, 0, 0, []), (999, 0, 0, 0, []), (999, 0, 0, 0, []), (999, 0, 0, 0, []), (999, 0, 0, 0, []), (999, 0, 0, 0, []), (999, 0, 0, 0, []), (999, 0, 0, 0, []), (999, 0, 0, 0, []), (999, 0, 0, 0, []), (999, 0, 0, 0, []), (999, 0, 0, 0, [])], [(999, 0, 0, 0, []), (999, 0, 0, 0, []), (999, 0, 0, 0, []), (999, 0, 0, 0, []), (999, 0, 0, 0, []), (999, 0, 0, 0, []), (999, 0, 0, 0, []), (999, 0, 0, 0, []), (999, 0, 0, 0, []), (999, 0, 0, 0, []), (3, 0, 0, 59, []), (14, 4, 6, 61, []), (999, 0, 0, 0, []), (57, 0, 0, 95, []), (999, 0, 0, 0, []), (999, 0, 0, 0, [])], [(999, 0, 0, 0, []), (999, 0, 0, 0, []), (999, 0, 0, 0, []), (999, 0, 0, 0, []), (999, 0, 0, 0, []), (999, 0, 0, 0, []), (999, 0, 0, 0, []), (999, 0, 0, 0, []), (999, 0, 0, 0, []), (999, 0, 0, 0, []), (999, 0, 0, 0, []), (999, 0, 0, 0, []), (999, 0, 0, 0, []), (999, 0, 0, 0, []), (999, 0, 0, 0, []), (999, 0, 0, 0, [])], [(999, 0, 0, 0, []), (999, 0, 0, 0, []), (999, 0, 0, 0, []), (999, 0, 0, 0, []), (999, 0, 0, 0, []), (999, 0, 0, 0, []), (999, 0, 0, 0, []), (999, 0, 0, 0, []), (999, 0, 0, 0, []), (999, 0, 0, 0, []), (999, 0, 0, 0, []), (999, 0, 0, 0, []), (999, 0, 0, 0, []), (999, 0, 0, 0, []), (999, 0, 0, 0, []), (3, 0, 0, 96, [])], [(14, 4, 6, 98, []), (999, 0, 0, 0, []), (4, 4, 0, 100, []), (999, 0, 0, 0, []), (11, 480, 0, 102, []), (999, 0, 0, 0, []), (6, 141, 6, 105, []), (999, 0, 0, 0, []), (999, 0, 0, 0, []), (0, 0, 0, 106, []), (2, 161546257, 2, 109, [27]), (999, 0, 0, 0, []), (999, 0, 0, 0, []), (4, 4, 0, 111, []), (999, 0, 0, 0, []), (0, 0, 0, 112, [])], [(2, 161742876, 5, 115, [27]), (999, 0, 0, 0, []), (999, 0, 0, 0, []), (11, 480, 0, 117, []), (999, 0, 0, 0, []), (1, 2, 0, 118, []), (17, 0, 0, 119, []), (4, 4, 0, 121, []), (999, 0, 0, 0, []), (5, 0, 0, 122, []), (36, 4, 0, 123, []), (37, 4, 0, 124, []), (0, 0, 0, 125, []), (2, 161611797, 3, 128, [27]), (999, 0, 0, 0, []), (999, 0, 0, 0, [])], [(4, 4, 0, 130, []), (999, 0, 0, 0, []), (0, 0, 0, 131, []), (2, 162136229, 11, 134, [27]), (999, 0, 0, 0, []), (999, 0, 0, 0, []), (16, 1, 0, 135, []), (10, 4, 6, 138, [1]), (999, 0, 0, 0, []), (999, 0, 0, 0, []), (9, 98, 0, 141, []), (999, 0, 0, 0, []), (999, 0, 0, 0, []), (3, 0, 0, 142, []), (14, 4, 6, 144, []), (999, 0, 0, 0, [])], [(4, 4, 0, 146, []), (999, 0, 0, 0, []), (12, 1664, 0, 149, []), (999, 0, 0, 0, []), (999, 0, 0, 0, []), (6, 166, 6, 152, []), (999, 0, 0, 0, []), (999, 0, 0, 0, []), (0, 0, 0, 153, []), (2, 161939490, 8, 156, [27]), (999, 0, 0, 0, []), (999, 0, 0, 0, []), (4, 4, 0, 158, []), (999, 0, 0, 0, []), (3, 0, 0, 159, []), (16, 1, 0, 160, [])], [(10, 4, 6, 163, [1]), (999, 0, 0, 0, []), (999, 0, 0, 0, []), (9, 144, 0, 166, []), (999, 0, 0, 0, []), (999, 0, 0, 0, []), (3, 8, 0, 167, []), (14, 4, 6, 169, []), (999, 0, 0, 0, []), (4, 4, 0, 171, []), (999, 0, 0, 0, []), (11, 480, 0, 173, []), (999, 0, 0, 0, []), (6, 240, 6, 176, []), (999, 0, 0, 0, []), (999, 0, 0, 0, [])], [(3, 0, 0, 177, []), (14, 5, 6, 179, []), (999, 0, 0, 0, []), (4, 5, 0, 181, []), (999, 0, 0, 0, []), (11, 256, 0, 183, []), (999, 0, 0, 0, []), (6, 234, 6, 186, []), (999, 0, 0, 0, []), (999, 0, 0, 0, []), (0, 0, 0, 187, []), (4, 4, 0, 189, []), (999, 0, 0, 0, []), (3, 0, 0, 190, []), (70, 183959695, 0, 193, [3, 27]), (999, 0, 0, 0, [])], [(999, 0, 0, 0, []), (3, 16, 0, 194, []), (6, 234, 5, 197, []), (999, 0, 0, 0, []), (999, 0, 0, 0, []), (999, 0, 0, 0, []), (999, 0, 0, 0, []), (999, 0, 0, 0, []), (999, 0, 0, 0, []), (999, 0, 0, 0, []), (999, 0, 0, 0, []), (999, 0, 0, 0, []), (999, 0, 0, 0, []), (999, 0, 0, 0, []), (999, 0, 0, 0, []), (999, 0, 0, 0, [])], [(999, 0, 0, 0, []), (999, 0, 0, 0, []), (999, 0, 0, 0, []), (999, 0, 0, 0, []), (999, 0, 0, 0, []), (999, 0, 0, 0, []), (999, 0, 0, 0, []), (999, 0, 0, 0, []), (999, 0, 0, 0, []), (999, 0, 0, 0, []), (999, 0, 0, 0, []), (999, 0, 0, 0, []), (999, 0, 0, 0, []), (999, 0, 0, 0, []), (999, 0, 0, 0, []), (999, 0, 0, 0, [])], [(999, 0, 0, 0, []), (999, 0, 0, 0, []), (999, 0, 0, 0, []), (999, 0, 0, 0, []), (999, 0, 0, 0, []), (999, 0, 0, 0, []), (999, 0, 0, 0, []), (999, 0, 0, 0, []), (999, 0, 0, 0, []), (999, 0, 0, 0, []), (10, 4, 6, 237, [1]), (999, 0, 0, 0, []), (999, 0, 0, 0, []), (9, 169, 0, 240, []), (999, 0, 0, 0, []), (999, 0, 0, 0, [])], [(0, 0, 0, 241, []), (70, 185794693, 89, 244, [1, 27]), (999, 0, 0, 0, []), (999, 0, 0, 0, []), (14, 4, 6, 246, []), (999, 0, 0, 0, []), (0, 0, 0, 247, []), (70, 198705425, 94, 250, [1, 27]), (999, 0, 0, 0, []), (999, 0, 0, 0, []), (1, 2, 0, 251, []), (64, 0, 0, 252, [])]]
def ztb_94 : zxTB := [[(3, 0, 0, 1, []), (13, 1, 2, 2, []), (1, 1, 0, 3, []), (3, 16, 0, 4, []), (6, 42, 6, 7, []), (999, 0, 0, 0, []), (999, 0, 0, 0, []), (0, 0, 0, 8, []), (2, 163381339, 30, 11, [27]), (999, 0, 0, 0, []), (999, 0, 0, 0, []), (1, 1, 0, 12, []), (11, 34359738352, 0, 14, []), (999, 0, 0, 0, []), (16, 1, 0, 15, []), (0, 0, 0, 16, [])], [(2, 163446878, 31, 19, [27]), (999, 0, 0, 0, []), (999, 0, 0, 0, []), (1, 1, 0, 20, []), (3, 0, 0, 21, []), (16, 1, 0, 22, []), (0, 0, 0, 23, []), (2, 163512417, 32, 26, [27]), (999, 0, 0, 0, []), (999, 0, 0, 0, []), (1, 1, 0, 27, []), (3, 0, 0, 28, []), (16, 1, 0, 29, []), (0, 0, 0, 30, []), (2, 163577956, 33, 33, [27]), (999, 0, 0, 0, [])], [(999, 0, 0, 0, []), (1, 1, 0, 34, []), (3, 0, 0, 35, []), (16, 1, 0, 36, []), (10, 1, 2, 39, [1]), (999, 0, 0, 0, []), (999, 0, 0, 0, []), (9, 2, 0, 42, []), (999, 0, 0, 0, []), (999, 0, 0, 0, []), (0, 0, 0, 43, []), (3, 0, 0, 44, []), (15, 163774697, 36, 47, [27]), (999, 0, 0, 0, []), (999, 0, 0, 0, []), (0, 0, 0, 48, [])], [(3, 0, 0, 49, []), (15, 163905803, 38, 52, [27]), (999, 0, 0, 0, []), (999, 0, 0, 0, []), (0, 0, 0, 53, []), (11, 34359738352, 0, 55, []), (999, 0, 0, 0, []), (15, 163971184, 39, 58, [27]), (999, 0, 0, 0, []), (999, 0, 0, 0, []), (0, 0, 0, 59, []), (3, 0, 0, 60, []), (15, 164233486, 107, 63, [27]), (999, 0, 0, 0, []), (999, 0, 0, 0, []), (0, 0, 0, 64, [])], [(2, 165019769, 56, 67, [27]), (999, 0, 0, 0, []), (999, 0, 0, 0, []), (3, 0, 0, 68, []), (3, 0, 0, 69, []), (35, 3, 0, 70, []), (0, 0, 0, 71, []), (2, 165019769, 56, 74, [27]), (999, 0, 0, 0, []), (999, 0, 0, 0, []), (3, 8, 0, 75, []), (3, 0, 0, 76, []), (35, 3, 0, 77, []), (67, 0, 0, 78, [])]]
def ztb_95 : zxTB := [[(11, 34359738352, 0, 2, []), (999, 0, 0, 0, []), (13, 1, 6, 3, []), (11, 34359738352, 0, 5, []), (999, 0, 0, 0, []), (13, 2, 6, 6, []), (0, 0, 0, 7, []), (2, 163381339, 30, 10, [27]), (999, 0, 0, 0, []), (999, 0, 0, 0, []), (3, 8, 0, 11, []), (8, 1, 0, 12, []), (13, 3, 6, 13, []), (3, 0, 0, 14, []), (14, 4, 6, 16, []), (999, 0, 0, 0, [])], [(4, 4, 0, 18, []), (999, 0, 0, 0, []), (0, 0, 0, 19, []), (2, 163774697, 36, 22, [27]), (999, 0, 0, 0, []), (999, 0, 0, 0, []), (6, 115, 6, 25, []), (999, 0, 0, 0, []), (999, 0, 0, 0, []), (999, 0, 0, 0, []), (999, 0, 0, 0, []), (999, 0, 0, 0, []), (999, 0, 0, 0, []), (999, 0, 0, 0, []), (999, 0, 0, 0, []), (999, 0, 0, 0, [])], [(999, 0, 0, 0, []), (999, 0, 0, 0, []), (999, 0, 0, 0, []), (999, 0, 0, 0, []), (999, 0, 0, 0, []), (999, 0, 0, 0, []), (999, 0, 0, 0, []), (999, 0, 0, 0, []), (999, 0, 0, 0, []), (999, 0, 0, 0, []), (999, 0, 0, 0, []), (999, 0, 0, 0, []), (999, 0, 0, 0, []), (999, 0, 0, 0, []), (999, 0, 0, 0, []), (999, 0, 0, 0, [])], [(999, 0, 0, 0, []), (999, 0, 0, 0, []), (999, 0, 0, 0, []), (999, 0, 0, 0, []), (999, 0, 0, 0, []), (999, 0, 0, 0, []), (999, 0, 0, 0, []), (999, 0, 0, 0, []), (999, 0, 0, 0, []), (999, 0, 0, 0, []), (999, 0, 0, 0, []), (999, 0, 0, 0, []), (999, 0, 0, 0, []), (999, 0, 0, 0, []), (999, 0, 0, 0, []), (999, 0, 0, 0, [])], [(999, 0, 0, 0, []), (999, 0, 0, 0, []), (999, 0, 0, 0, []), (999, 0, 0, 0, []), (999, 0, 0, 0, []), (999, 0, 0, 0, []), (999, 0, 0, 0, []), (999, 0, 0, 0, []), (999, 0, 0, 0, []), (999, 0, 0, 0, []), (999, 0, 0, 0, []), (999, 0, 0, 0, []), (999, 0, 0, 0, []), (999, 0, 0, 0, []), (999, 0, 0, 0, []), (999, 0, 0, 0, [])], [(999, 0, 0, 0, []), (999, 0, 0, 0, []), (999, 0, 0, 0, []), (999, 0, 0, 0, []), (999, 0, 0, 0, []), (999, 0, 0, 0, []), (999, 0, 0, 0, []), (999, 0, 0, 0, []), (999, 0, 0, 0, []), (999, 0, 0, 0, []), (999, 0, 0, 0, []), (999, 0, 0, 0, []), (999, 0, 0, 0, []), (999, 0, 0, 0, []), (999, 0, 0, 0, []), (999, 0, 0, 0, [])], [(999, 0, 0, 0, []), (999, 0, 0, 0, []), (999, 0, 0, 0, []), (999, 0, 0, 0, []), (999, 0, 0, 0, []), (999, 0, 0, 0, []), (999, 0, 0, 0, []), (999, 0, 0, 0, []), (999, 0, 0, 0, []), (999, 0, 0, 0, []), (999, 0, 0, 0, []), (999, 0, 0, 0, []), (999, 0, 0, 0, []), (999, 0, 0, 0, []), (999, 0, 0, 0, []), (999, 0, 0, 0, [])], [(999, 0, 0, 0, []), (999, 0, 0, 0, []), (999, 0, 0, 0, []), (1, 1, 0, 116, []), (7, 168, 1, 119, []), (999, 0, 0, 0, []), (999, 0, 0, 0, []), (999, 0, 0, 0, []), (999, 0, 0, 0, []), (999, 0, 0, 0, []), (999, 0, 0, 0, []), (999, 0, 0, 0, []), (999, 0, 0, 0, []), (999, 0, 0, 0, []), (999, 0, 0, 0, []), (999, 0, 0, 0, [])], [(999, 0, 0, 0, []), (999, 0, 0, 0, []), (999, 0, 0, 0, []), (999, 0, 0, 0, []), (999, 0, 0, 0, []), (999, 0, 0, 0, []), (999, 0, 0, 0, []), (999, 0, 0, 0, []), (999, 0, 0, 0, []), (999, 0, 0, 0, []), (999, 0, 0, 0, []), (999, 0, 0, 0, []), (999, 0, 0, 0, []), (999, 0, 0, 0, []), (999, 0, 0, 0, []), (999, 0, 0, 0, [])], [(999, 0, 0, 0, []), (999, 0, 0, 0, []), (999, 0, 0, 0, []), (999, 0, 0, 0, []), (999, 0, 0, 0, []), (999, 0, 0, 0, []), (999, 0, 0, 0, []), (999, 0, 0, 0, []), (999, 0, 0, 0, []), (999, 0, 0, 0, []), (999, 0, 0, 0, []), (999, 0, 0, 0, []), (999, 0, 0, 0, []), (999, 0, 0, 0, []), (999, 0, 0, 0, []), (999, 0, 0, 0, [])], [(999, 0, 0, 0, []), (999, 0, 0, 0, []), (999, 0, 0, 0, []), (999, 0, 0, 0, []), (999, 0, 0, 0, []), (999, 0, 0, 0, []), (999, 0, 0, 0, []), (999, 0, 0, 0, []), (1, 2, 0, 169, []), (14, 4, 6, 171, []), (999, 0, 0, 0, []), (4, 4, 0, 173, []), (999, 0, 0, 0, []), (7, 207, 6, 176, []), (999, 0, 0, 0, []), (999, 0, 0, 0, [])], [(0, 0, 0, 177, []), (2, 163971184, 39, 180, [27]), (999, 0, 0, 0, []), (999, 0, 0, 0, []), (7, 207, 1, 183, []), (999, 0, 0, 0, []), (999, 0, 0, 0, []), (999, 0, 0, 0, []), (999, 0, 0, 0, []), (999, 0, 0, 0, []), (999, 0, 0, 0, []), (999, 0, 0, 0, []), (999, 0, 0, 0, []), (999, 0, 0, 0, []), (999, 0, 0, 0, []), (999, 0, 0, 0, [])], [(999, 0, 0, 0, []), (999, 0, 0, 0, []), (999, 0, 0, 0, []), (999, 0, 0, 0, []), (999, 0, 0, 0, []), (999, 0, 0, 0, []), (999, 0, 0, 0, []), (999, 0, 0, 0, []), (999, 0, 0, 0, []), (999, 0, 0, 0, []), (999, 0, 0, 0, []), (999, 0, 0, 0, []), (999, 0, 0, 0, []), (999, 0, 0, 0, []), (999, 0, 0, 0, []), (4, 4, 0, 209, [])], [(999, 0, 0, 0, []), (7, 255, 1, 212, []), (999, 0, 0, 0, []), (999, 0, 0, 0, []), (999, 0, 0, 0, []), (999, 0, 0, 0, []), (999, 0, 0, 0, []), (999, 0, 0, 0, []), (999, 0, 0, 0, []), (999, 0, 0, 0, []), (999, 0, 0, 0, []), (999, 0, 0, 0, []), (999, 0, 0, 0, []), (999, 0, 0, 0, []), (999, 0, 0, 0, []), (999, 0, 0, 0, [])], [(999, 0, 0, 0, []), (999, 0, 0, 0, []), (999, 0, 0, 0, []), (999, 0, 0, 0, []), (999, 0, 0, 0, []), (999, 0, 0, 0, []), (999, 0, 0, 0, []), (999, 0, 0, 0, []), (999, 0, 0, 0, []), (999, 0, 0, 0, []), (999, 0, 0, 0, []), (999, 0, 0, 0, []), (999, 0, 0, 0, []), (999, 0, 0, 0, []), (999, 0, 0, 0, []), (999, 0, 0, 0, [])], [(999, 0, 0, 0, []), (999, 0, 0, 0, []), (999, 0, 0, 0, []), (999, 0, 0, 0, []), (999, 0, 0, 0, []), (999, 0, 0, 0, []), (999, 0, 0, 0, []), (999, 0, 0, 0, []), (999, 0, 0, 0, []), (999, 0, 0, 0, []), (999, 0, 0, 0, []), (999, 0, 0, 0, []), (999, 0, 0, 0, []), (999, 0, 0, 0, []), (999, 0, 0, 0, []), (1, 3, 0, 256, [])], [(7, 274, 1, 259, []), (999, 0, 0, 0, []), (999, 0, 0, 0, []), (999, 0, 0, 0, []), (999, 0, 0, 0, []), (999, 0, 0, 0, []), (999, 0, 0, 0, []), (999, 0, 0, 0, []), (999, 0, 0, 0, []), (999, 0, 0, 0, []), (999, 0, 0, 0, []), (999, 0, 0, 0, []), (999, 0, 0, 0, []), (999, 0, 0, 0, []), (999, 0, 0, 0, []), (999, 0, 0, 0, [])], [(999, 0, 0, 0, []), (999, 0, 0, 0, []), (67, 0, 0, 275, [])]]
def ztb_96 : zxTB := [[(0, 0, 0, 1, []), (70, 218038695, 97, 4, [1, 27]), (999, 0, 0, 0, []), (999, 0, 0, 0, []), (0, 0, 0, 5, []), (2, 164954497, 55, 8, [27]), (999, 0, 0, 0, []), (999, 0, 0, 0, []), (7, 19, 2, 11, []), (999, 0, 0, 0, []), (999, 0, 0, 0, []), (999, 0, 0, 0, []), (999, 0, 0, 0, []), (999, 0, 0, 0, []), (999, 0, 0, 0, []), (999, 0, 0, 0, [])], [(999, 0, 0, 0, []), (999, 0, 0, 0, []), (999, 0, 0, 0, []), (11, 34359738352, 0, 21, []), (999, 0, 0, 0, []), (13, 1, 9, 22, []), (11, 34359738352, 0, 24, []), (999, 0, 0, 0, []), (13, 2, 9, 25, []), (11, 34359738352, 0, 27, []), (999, 0, 0, 0, []), (13, 3, 9, 28, []), (3, 0, 0, 29, []), (14, 4, 9, 31, []), (999, 0, 0, 0, []), (3, 8, 0, 32, [])], [(14, 5, 9, 34, []), (999, 0, 0, 0, []), (4, 5, 0, 36, []), (999, 0, 0, 0, []), (7, 163, 2, 39, []), (999, 0, 0, 0, []), (999, 0, 0, 0, []), (1, 3, 0, 40, []), (7, 163, 6, 43, []), (999, 0, 0, 0, []), (999, 0, 0, 0, []), (11, 34359738352, 0, 45, []), (999, 0, 0, 0, []), (14, 6, 9, 47, []), (999, 0, 0, 0, []), (3, 0, 0, 48, [])], [(14, 7, 9, 50, []), (999, 0, 0, 0, []), (4, 7, 0, 52, []), (999, 0, 0, 0, []), (0, 0, 0, 53, []), (2, 161480717, 1, 56, [27]), (999, 0, 0, 0, []), (999, 0, 0, 0, []), (12, 20160, 0, 59, []), (999, 0, 0, 0, []), (999, 0, 0, 0, []), (8, 1, 0, 60, []), (6, 120, 6, 63, []), (999, 0, 0, 0, []), (999, 0, 0, 0, []), (999, 0, 0, 0, [])], [(999, 0, 0, 0, []), (999, 0, 0, 0, []), (999, 0, 0, 0, []), (999, 0, 0, 0, []), (999, 0, 0, 0, []), (999, 0, 0, 0, []), (999, 0, 0, 0, []), (999, 0, 0, 0, []), (999, 0, 0, 0, []), (999, 0, 0, 0, []), (999, 0, 0, 0, []), (999, 0, 0, 0, []), (999, 0, 0, 0, []), (999, 0, 0, 0, []), (999, 0, 0, 0, []), (999, 0, 0, 0, [])], [(999, 0, 0, 0, []), (999, 0, 0, 0, []), (999, 0, 0, 0, []), (999, 0, 0, 0, []), (999, 0, 0, 0, []), (999, 0, 0, 0, []), (999, 0, 0, 0, []), (999, 0, 0, 0, []), (999, 0, 0, 0, []), (999, 0, 0, 0, []), (999, 0, 0, 0, []), (999, 0, 0, 0, []), (999, 0, 0, 0, []), (999, 0, 0, 0, []), (999, 0, 0, 0, []), (999, 0, 0, 0, [])], [(999, 0, 0, 0, []), (999, 0, 0, 0, []), (999, 0, 0, 0, []), (999, 0, 0, 0, []), (999, 0, 0, 0, []), (999, 0, 0, 0, []), (999, 0, 0, 0, []), (999, 0, 0, 0, []), (999, 0, 0, 0, []), (999, 0, 0, 0, []), (999, 0, 0, 0, []), (999, 0, 0, 0, []), (999, 0, 0, 0, []), (999, 0, 0, 0, []), (999, 0, 0, 0, []), (999, 0, 0, 0, [])], [(999, 0, 0, 0, []), (999, 0, 0, 0, []), (999, 0, 0, 0, []), (999, 0, 0, 0, []), (999, 0, 0, 0, []), (999, 0, 0, 0, []), (999, 0, 0, 0, []), (999, 0, 0, 0, []), (4, 6, 0, 122, []), (999, 0, 0, 0, []), (7, 129, 1, 125, []), (999, 0, 0, 0, []), (999, 0, 0, 0, []), (999, 0, 0, 0, []), (999, 0, 0, 0, []), (999, 0, 0, 0, [])], [(999, 0, 0, 0, []), (3, 0, 0, 130, []), (14, 5, 9, 132, []), (999, 0, 0, 0, []), (4, 6, 0, 134, []), (999, 0, 0, 0, []), (14, 4, 9, 136, []), (999, 0, 0, 0, []), (4, 5, 0, 138, []), (999, 0, 0, 0, []), (7, 152, 2, 141, []), (999, 0, 0, 0, []), (999, 0, 0, 0, []), (999, 0, 0, 0, []), (999, 0, 0, 0, []), (999, 0, 0, 0, [])], [(999, 0, 0, 0, []), (999, 0, 0, 0, []), (999, 0, 0, 0, []), (999, 0, 0, 0, []), (999, 0, 0, 0, []), (999, 0, 0, 0, []), (999, 0, 0, 0, []), (999, 0, 0, 0, []), (11, 34359738352, 0, 154, []), (999, 0, 0, 0, []), (13, 3, 9, 155, []), (4, 4, 0, 157, []), (999, 0, 0, 0, []), (13, 2, 9, 158, []), (3, 0, 0, 159, []), (13, 1, 9, 160, [])], [(9, 34, 0, 163, []), (999, 0, 0, 0, []), (999, 0, 0, 0, []), (1, 3, 0, 164, []), (7, 194, 6, 167, []), (999, 0, 0, 0, []), (999, 0, 0, 0, []), (0, 0, 0, 168, []), (2, 164233486, 43, 171, [27]), (999, 0, 0, 0, []), (999, 0, 0, 0, []), (7, 194, 2, 174, []), (999, 0, 0, 0, []), (999, 0, 0, 0, []), (999, 0, 0, 0, []), (999, 0, 0, 0, [])], [(999, 0, 0, 0, []), (999, 0, 0, 0, []), (999, 0, 0, 0, []), (999, 0, 0, 0, []), (999, 0, 0, 0, []), (999, 0, 0, 0, []), (999, 0, 0, 0, []), (999, 0, 0, 0, []), (999, 0, 0, 0, []), (999, 0, 0, 0, []), (999, 0, 0, 0, []), (999, 0, 0, 0, []), (999, 0, 0, 0, []), (999, 0, 0, 0, []), (999, 0, 0, 0, []), (999, 0, 0, 0, [])], [(999, 0, 0, 0, []), (999, 0, 0, 0, []), (3, 0, 0, 195, []), (14, 6, 9, 197, []), (999, 0, 0, 0, []), (4, 6, 0, 199, []), (999, 0, 0, 0, []), (0, 0, 0, 200, []), (2, 163905803, 38, 203, [27]), (999, 0, 0, 0, []), (999, 0, 0, 0, []), (6, 252, 6, 206, []), (999, 0, 0, 0, []), (999, 0, 0, 0, []), (999, 0, 0, 0, []), (999, 0, 0, 0, [])], [(999, 0, 0, 0, []), (999, 0, 0, 0, []), (999, 0, 0, 0, []), (999, 0, 0, 0, []), (999, 0, 0, 0, []), (999, 0, 0, 0, []), (999, 0, 0, 0, []), (999, 0, 0, 0, []), (999, 0, 0, 0, []), (999, 0, 0, 0, []), (999, 0, 0, 0, []), (999, 0, 0, 0, []), (999, 0, 0, 0, []), (999, 0, 0, 0, []), (999, 0, 0, 0, []), (999, 0, 0, 0, [])], [(999, 0, 0, 0, []), (999, 0, 0, 0, []), (999, 0, 0, 0, []), (999, 0, 0, 0, []), (999, 0, 0, 0, []), (999, 0, 0, 0, []), (999, 0, 0, 0, []), (999, 0, 0, 0, []), (999, 0, 0, 0, []), (999, 0, 0, 0, []), (999, 0, 0, 0, []), (999, 0, 0, 0, []), (999, 0, 0, 0, []), (999, 0, 0, 0, []), (999, 0, 0, 0, []), (999, 0, 0, 0, [])], [(999, 0, 0, 0, []), (999, 0, 0, 0, []), (999, 0, 0, 0, []), (999, 0, 0, 0, []), (999, 0, 0, 0, []), (999, 0, 0, 0, []), (999, 0, 0, 0, []), (999, 0, 0, 0, []), (999, 0, 0, 0, []), (999, 0, 0, 0, []), (999, 0, 0, 0, []), (999, 0, 0, 0, []), (1, 3, 0, 253, []), (7, 263, 1, 256, []), (999, 0, 0, 0, []), (999, 0, 0, 0, [])], [(999, 0, 0, 0, []), (999, 0, 0, 0, []), (999, 0, 0, 0, []), (999, 0, 0, 0, []), (999, 0, 0, 0, []), (999, 0, 0, 0, []), (999, 0, 0, 0, []), (67, 0, 0, 264, [])]]
def ztb_97 : zxTB := [[(3, 0, 0, 1, []), (13, 1, 4, 2, []), (3, 0, 0, 3, []), (13, 2, 4, 4, []), (1, 2, 0, 5, []), (0, 0, 0, 6, []), (2, 163905803, 38, 9, [27]), (999, 0, 0, 0, []), (999, 0, 0, 0, []), (6, 73, 6, 12, []), (999, 0, 0, 0, []), (999, 0, 0, 0, []), (999, 0, 0, 0, []), (999, 0, 0, 0, []), (999, 0, 0, 0, []), (999, 0, 0, 0, [])], [(999, 0, 0, 0, []), (999, 0, 0, 0, []), (999, 0, 0, 0, []), (999, 0, 0, 0, []), (999, 0, 0, 0, []), (999, 0, 0, 0, []), (999, 0, 0, 0, []), (999, 0, 0, 0, []), (999, 0, 0, 0, []), (999, 0, 0, 0, []), (999, 0, 0, 0, []), (999, 0, 0, 0, []), (999, 0, 0, 0, []), (999, 0, 0, 0, []), (999, 0, 0, 0, []), (999, 0, 0, 0, [])], [(999, 0, 0, 0, []), (999, 0, 0, 0, []), (999, 0, 0, 0, []), (999, 0, 0, 0, []), (999, 0, 0, 0, []), (999, 0, 0, 0, []), (999, 0, 0, 0, []), (999, 0, 0, 0, []), (999, 0, 0, 0, []), (999, 0, 0, 0, []), (999, 0, 0, 0, []), (999, 0, 0, 0, []), (999, 0, 0, 0, []), (999, 0, 0, 0, []), (999, 0, 0, 0, []), (999, 0, 0, 0, [])], [(999, 0, 0, 0, []), (999, 0, 0, 0, []), (999, 0, 0, 0, []), (999, 0, 0, 0, []), (999, 0, 0, 0, []), (999, 0, 0, 0, []), (999, 0, 0, 0, []), (999, 0, 0, 0, []), (999, 0, 0, 0, []), (999, 0, 0, 0, []), (999, 0, 0, 0, []), (999, 0, 0, 0, []), (999, 0, 0, 0, []), (999, 0, 0, 0, []), (999, 0, 0, 0, []), (999, 0, 0, 0, [])], [(999, 0, 0, 0, []), (999, 0, 0, 0, []), (999, 0, 0, 0, []), (999, 0, 0, 0, []), (999, 0, 0, 0, []), (999, 0, 0, 0, []), (999, 0, 0, 0, []), (999, 0, 0, 0, []), (999, 0, 0, 0, []), (0, 0, 0, 74, []), (1, 1, 0, 75, []), (15, 163905803, 38, 78, [27]), (999, 0, 0, 0, []), (999, 0, 0, 0, []), (67, 0, 0, 79, [])]]
def ztb_98 : zxTB := [[(3, 0, 0, 1, []), (13, 1, 3, 2, []), (1, 1, 0, 3, []), (3, 16, 0, 4, []), (6, 59, 6, 7, []), (999, 0, 0, 0, []), (999, 0, 0, 0, []), (0, 0, 0, 8, []), (1, 1, 0, 9, []), (70, 222495197, 36, 12, [2, 27]), (999, 0, 0, 0, []), (999, 0, 0, 0, []), (13, 2, 3, 13, []), (0, 0, 0, 14, []), (2, 165019769, 56, 17, [27]), (999, 0, 0, 0, [])], [(999, 0, 0, 0, []), (1, 1, 0, 18, []), (1, 2, 0, 19, []), (0, 0, 0, 20, []), (2, 162660412, 19, 23, [27]), (999, 0, 0, 0, []), (999, 0, 0, 0, []), (1, 1, 0, 24, []), (8, 1, 0, 25, []), (6, 47, 4, 28, []), (999, 0, 0, 0, []), (999, 0, 0, 0, []), (1, 2, 0, 29, []), (0, 0, 0, 30, []), (2, 162725951, 20, 33, [27]), (999, 0, 0, 0, [])], [(999, 0, 0, 0, []), (1, 1, 0, 34, []), (8, 1, 0, 35, []), (6, 51, 3, 38, []), (999, 0, 0, 0, []), (999, 0, 0, 0, []), (999, 0, 0, 0, []), (999, 0, 0, 0, []), (999, 0, 0, 0, []), (999, 0, 0, 0, []), (999, 0, 0, 0, []), (999, 0, 0, 0, []), (999, 0, 0, 0, []), (999, 0, 0, 0, []), (999, 0, 0, 0, []), (999, 0, 0, 0, [])], [(999, 0, 0, 0, []), (999, 0, 0, 0, []), (999, 0, 0, 0, []), (3, 0, 0, 52, []), (35, 3, 0, 53, []), (10, 1, 3, 56, [1]), (999, 0, 0, 0, []), (999, 0, 0, 0, []), (9, 2, 0, 59, []), (999, 0, 0, 0, []), (999, 0, 0, 0, []), (0, 0, 0, 60, []), (2, 165019769, 56, 63, [27]), (999, 0, 0, 0, []), (999, 0, 0, 0, []), (3, 0, 0, 64, [])], [(33, 3, 0, 65, []), (7, 110, 2, 68, []), (999, 0, 0, 0, []), (999, 0, 0, 0, []), (999, 0, 0, 0, []), (999, 0, 0, 0, []), (999, 0, 0, 0, []), (999, 0, 0, 0, []), (999, 0, 0, 0, []), (999, 0, 0, 0, []), (999, 0, 0, 0, []), (999, 0, 0, 0, []), (999, 0, 0, 0, []), (999, 0, 0, 0, []), (999, 0, 0, 0, []), (999, 0, 0, 0, [])], [(999, 0, 0, 0, []), (999, 0, 0, 0, []), (999, 0, 0, 0, []), (999, 0, 0, 0, []), (999, 0, 0, 0, []), (999, 0, 0, 0, []), (999, 0, 0, 0, []), (999, 0, 0, 0, []), (999, 0, 0, 0, []), (999, 0, 0, 0, []), (999, 0, 0, 0, []), (999, 0, 0, 0, []), (999, 0, 0, 0, []), (999, 0, 0, 0, []), (999, 0, 0, 0, []), (999, 0, 0, 0, [])], [(999, 0, 0, 0, []), (999, 0, 0, 0, []), (999, 0, 0, 0, []), (999, 0, 0, 0, []), (999, 0, 0, 0, []), (999, 0, 0, 0, []), (999, 0, 0, 0, []), (999, 0, 0, 0, []), (999, 0, 0, 0, []), (999, 0, 0, 0, []), (999, 0, 0, 0, []), (999, 0, 0, 0, []), (999, 0, 0, 0, []), (999, 0, 0, 0, []), (0, 0, 0, 111, []), (2, 165019769, 56, 114, [27])], [(999, 0, 0, 0, []), (999, 0, 0, 0, []), (3, 8, 0, 115, []), (33, 3, 0, 116, []), (7, 123, 2, 119, []), (999, 0, 0, 0, []), (999, 0, 0, 0, []), (999, 0, 0, 0, []), (999, 0, 0, 0, []), (999, 0, 0, 0, []), (999, 0, 0, 0, []), (67, 0, 0, 124, [])]]
def ztb_99 : zxTB := [[(0, 0, 0, 1, []), (75, 35389443, 0, 4, []), (999, 0, 0, 0, []), (999, 0, 0, 0, []), (0, 0, 0, 5, []), (3, 34359738360, 0, 6, []), (15, 36700169, 0, 9, [21, 25]), (999, 0, 0, 0, []), (999, 0, 0, 0, []), (67, 0, 0, 10, [])]]
def ztb_100 : zxTB := [[(3, 0, 0, 1, []), (13, 2, 5, 2, []), (1, 1, 0, 3, []), (13, 3, 5, 4, []), (1, 2, 0, 5, []), (0, 0, 0, 6, []), (2, 13631531, 6, 9, [18]), (999, 0, 0, 0, []), (999, 0, 0, 0, []), (6, 37, 6, 12, []), (999, 0, 0, 0, []), (999, 0, 0, 0, []), (999, 0, 0, 0, []), (999, 0, 0, 0, []), (999, 0, 0, 0, []), (999, 0, 0, 0, [])], [(999, 0, 0, 0, []), (999, 0, 0, 0, []), (999, 0, 0, 0, []), (999, 0, 0, 0, []), (999, 0, 0, 0, []), (999, 0, 0, 0, []), (999, 0, 0, 0, []), (999, 0, 0, 0, []), (999, 0, 0, 0, []), (999, 0, 0, 0, []), (999, 0, 0, 0, []), (999, 0, 0, 0, []), (999, 0, 0, 0, []), (999, 0, 0, 0, []), (999, 0, 0, 0, []), (999, 0, 0, 0, [])], [(999, 0, 0, 0, []), (999, 0, 0, 0, []), (999, 0, 0, 0, []), (999, 0, 0, 0, []), (999, 0, 0, 0, []), (0, 0, 0, 38, []), (2, 13631531, 6, 41, [18]), (999, 0, 0, 0, []), (999, 0, 0, 0, []), (3, 8, 0, 42, []), (19, 0, 0, 43, []), (14, 4, 5, 45, []), (999, 0, 0, 0, []), (4, 4, 0, 47, []), (999, 0, 0, 0, []), (1, 2, 0, 48, [])], [(6, 63, 1, 51, []), (999, 0, 0, 0, []), (999, 0, 0, 0, []), (999, 0, 0, 0, []), (999, 0, 0, 0, []), (999, 0, 0, 0, []), (999, 0, 0, 0, []), (999, 0, 0, 0, []), (999, 0, 0, 0, []), (999, 0, 0, 0, []), (999, 0, 0, 0, []), (999, 0, 0, 0, []), (999, 0, 0, 0, []), (999, 0, 0, 0, []), (999, 0, 0, 0, []), (0, 0, 0, 64, [])], [(70, 61800501, 66, 67, [1, 18]), (999, 0, 0, 0, []), (999, 0, 0, 0, []), (27, 0, 0, 68, []), (0, 0, 0, 69, []), (70, 93061205, 101, 72, [1, 18]), (999, 0, 0, 0, []), (999, 0, 0, 0, []), (0, 0, 0, 73, []), (2, 13238306, 0, 76, [18]), (999, 0, 0, 0, []), (999, 0, 0, 0, []), (70, 93716568, 102, 79, [1, 24]), (999, 0, 0, 0, []), (999, 0, 0, 0, []), (1, 2, 0, 80, [])], [(64, 0, 0, 81, [])]]
def ztb_101 : zxTB := [[(0, 0, 0, 1, []), (2, 13303846, 1, 4, [18]), (999, 0, 0, 0, []), (999, 0, 0, 0, []), (70, 93323355, 70, 7, [1, 22]), (999, 0, 0, 0, []), (999, 0, 0, 0, []), (3, 8, 0, 8, []), (13, 1, 3, 9, []), (1, 1, 0, 10, []), (11, 480, 0, 12, []), (999, 0, 0, 0, []), (6, 56, 6, 15, []), (999, 0, 0, 0, []), (999, 0, 0, 0, []), (3, 0, 0, 16, [])], [(13, 2, 3, 17, []), (58, 0, 0, 50, []), (999, 0, 0, 0, []), (999, 0, 0, 0, []), (999, 0, 0, 0, []), (999, 0, 0, 0, []), (999, 0, 0, 0, []), (999, 0, 0, 0, []), (999, 0, 0, 0, []), (999, 0, 0, 0, []), (999, 0, 0, 0, []), (999, 0, 0, 0, []), (999, 0, 0, 0, []), (999, 0, 0, 0, []), (999, 0, 0, 0, []), (999, 0, 0, 0, [])], [(999, 0, 0, 0, []), (999, 0, 0, 0, []), (999, 0, 0, 0, []), (999, 0, 0, 0, []), (999, 0, 0, 0, []), (999, 0, 0, 0, []), (999, 0, 0, 0, []), (999, 0, 0, 0, []), (999, 0, 0, 0, []), (999, 0, 0, 0, []), (999, 0, 0, 0, []), (999, 0, 0, 0, []), (999, 0, 0, 0, []), (999, 0, 0, 0, []), (999, 0, 0, 0, []), (999, 0, 0, 0, [])], [(999, 0, 0, 0, []), (999, 0, 0, 0, []), (10, 1, 3, 53, [1]), (999, 0, 0, 0, []), (999, 0, 0, 0, []), (9, 9, 0, 56, []), (999, 0, 0, 0, []), (999, 0, 0, 0, []), (67, 0, 0, 57, [])]]
def ztb_102 : zxTB := [[(3, 8, 0, 1, []), (13, 1, 2, 2, []), (1, 1, 0, 3, []), (11, 480, 0, 5, []), (999, 0, 0, 0, []), (6, 40, 6, 8, []), (999, 0, 0, 0, []), (999, 0, 0, 0, []), (0, 0, 0, 9, []), (2, 8716299, 0, 12, [24]), (999, 0, 0, 0, []), (999, 0, 0, 0, []), (1, 1, 0, 13, []), (18, 5, 0, 14, []), (2, 2687004, 0, 17, [20]), (999, 0, 0, 0, [])], [(999, 0, 0, 0, []), (3, 16, 0, 18, []), (6, 34, 5, 21, []), (999, 0, 0, 0, []), (999, 0, 0, 0, []), (999, 0, 0, 0, []), (999, 0, 0, 0, []), (999, 0, 0, 0, []), (999, 0, 0, 0, []), (999, 0, 0, 0, []), (999, 0, 0, 0, []), (999, 0, 0, 0, []), (999, 0, 0, 0, []), (999, 0, 0, 0, []), (999, 0, 0, 0, []), (999, 0, 0, 0, [])], [(999, 0, 0, 0, []), (999, 0, 0, 0, []), (10, 1, 2, 37, [1]), (999, 0, 0, 0, []), (999, 0, 0, 0, []), (9, 2, 0, 40, []), (999, 0, 0, 0, []), (999, 0, 0, 0, []), (67, 0, 0, 41, [])]]
def ztb_103 : zxTB := [[(1, 1, 0, 1, []), (7, 31, 1, 4, []), (999, 0, 0, 0, []), (999, 0, 0, 0, []), (1, 1, 0, 5, []), (11, 48, 0, 7, []), (999, 0, 0, 0, []), (6, 31, 6, 10, []), (999, 0, 0, 0, []), (999, 0, 0, 0, []), (1, 2, 0, 11, []), (7, 31, 1, 14, []), (999, 0, 0, 0, []), (999, 0, 0, 0, []), (1, 2, 0, 15, []), (0, 0, 0, 16, [])], [(2, 32505867, 1, 19, [17]), (999, 0, 0, 0, []), (999, 0, 0, 0, []), (1, 1, 0, 20, []), (18, 6, 0, 21, []), (2, 29491239, 1, 24, [23]), (999, 0, 0, 0, []), (999, 0, 0, 0, []), (6, 31, 6, 27, []), (999, 0, 0, 0, []), (999, 0, 0, 0, []), (999, 0, 0, 0, []), (999, 0, 0, 0, []), (999, 0, 0, 0, []), (999, 0, 0, 0, []), (3, 0, 0, 32, [])], [(65, 0, 0, 33, [])]]
def ztb_104 : zxTB := [[(3, 0, 0, 1, []), (13, 1, 2, 2, []), (1, 1, 0, 3, []), (12, 20488, 0, 6, []), (999, 0, 0, 0, []), (999, 0, 0, 0, []), (6, 22, 6, 9, []), (999, 0, 0, 0, []), (999, 0, 0, 0, []), (0, 0, 0, 10, []), (2, 161480717, 1, 13, [27]), (999, 0, 0, 0, []), (999, 0, 0, 0, []), (1, 1, 0, 14, []), (3, 0, 0, 15, []), (16, 1, 0, 16, [])], [(10, 1, 2, 19, [1]), (999, 0, 0, 0, []), (999, 0, 0, 0, []), (9, 2, 0, 22, []), (999, 0, 0, 0, []), (999, 0, 0, 0, []), (0, 0, 0, 23, []), (2, 161480717, 1, 26, [27]), (999, 0, 0, 0, []), (999, 0, 0, 0, []), (3, 0, 0, 27, []), (3, 8, 0, 28, []), (16, 1, 0, 29, []), (0, 0, 0, 30, []), (2, 161480717, 1, 33, [27]), (999, 0, 0, 0, [])], [(999, 0, 0, 0, []), (3, 8, 0, 34, []), (3, 34359738360, 0, 35, []), (16, 1, 0, 36, []), (3, 0, 0, 37, []), (13, 1, 2, 38, []), (1, 1, 0, 39, []), (12, 1664, 0, 42, []), (999, 0, 0, 0, []), (999, 0, 0, 0, []), (6, 58, 6, 45, []), (999, 0, 0, 0, []), (999, 0, 0, 0, []), (0, 0, 0, 46, []), (2, 161939490, 8, 49, [27]), (999, 0, 0, 0, [])], [(999, 0, 0, 0, []), (1, 1, 0, 50, []), (3, 0, 0, 51, []), (16, 1, 0, 52, []), (10, 1, 2, 55, [1]), (999, 0, 0, 0, []), (999, 0, 0, 0, []), (9, 38, 0, 58, []), (999, 0, 0, 0, []), (999, 0, 0, 0, []), (0, 0, 0, 59, []), (3, 0, 0, 60, []), (15, 161874047, 7, 63, [27]), (999, 0, 0, 0, []), (999, 0, 0, 0, []), (0, 0, 0, 64, [])], [(70, 161153154, 34, 67, [1, 27]), (999, 0, 0, 0, []), (999, 0, 0, 0, []), (67, 0, 0, 68, [])]]
def ztb_105 : zxTB := [[(3, 0, 0, 1, []), (13, 3, 5, 2, []), (1, 1, 0, 3, []), (14, 4, 5, 5, []), (999, 0, 0, 0, []), (4, 4, 0, 7, []), (999, 0, 0, 0, []), (1, 2, 0, 8, []), (6, 35, 6, 11, []), (999, 0, 0, 0, []), (999, 0, 0, 0, []), (1, 3, 0, 12, []), (0, 0, 0, 13, []), (2, 161939490, 8, 16, [27]), (999, 0, 0, 0, []), (999, 0, 0, 0, [])], [(4, 4, 0, 18, []), (999, 0, 0, 0, []), (8, 1, 0, 19, []), (7, 26, 5, 22, []), (999, 0, 0, 0, []), (999, 0, 0, 0, []), (3, 8, 0, 23, []), (9, 27, 0, 26, []), (999, 0, 0, 0, []), (999, 0, 0, 0, []), (999, 0, 0, 0, []), (5, 0, 0, 28, []), (13, 3, 5, 29, []), (10, 4, 5, 32, [1]), (999, 0, 0, 0, []), (999, 0, 0, 0, [])], [(9, 5, 0, 35, []), (999, 0, 0, 0, []), (999, 0, 0, 0, []), (1, 3, 0, 36, []), (64, 0, 0, 37, [])]]
def ztb_106 : zxTB := [[(0, 0, 0, 1, []), (75, 1441795, 0, 4, []), (999, 0, 0, 0, []), (999, 0, 0, 0, []), (0, 0, 0, 5, []), (12, 2048, 0, 8, []), (999, 0, 0, 0, []), (999, 0, 0, 0, []), (48, 8585216, 2, 10, [0]), (999, 0, 0, 0, []), (52, 57671689, 200, 13, [26]), (999, 0, 0, 0, []), (999, 0, 0, 0, []), (0, 0, 0, 14, []), (47, 563061624209421, 8, 17, [2, 0, 0, 0, 0]), (999, 0, 0, 0, [])], [(999, 0, 0, 0, []), (26, 0, 0, 18, []), (71, 1769487, 107, 21, [1]), (999, 0, 0, 0, []), (999, 0, 0, 0, []), (52, 57147408, 192, 24, [26]), (999, 0, 0, 0, []), (999, 0, 0, 0, []), (0, 0, 0, 25, []), (47, 1408092153970708, 6, 28, [2, 2, 2, 2, 0]), (999, 0, 0, 0, []), (999, 0, 0, 0, []), (26, 0, 0, 29, []), (71, 11010070, 108, 32, [1]), (999, 0, 0, 0, []), (999, 0, 0, 0, [])], [(52, 57212951, 193, 35, [26]), (999, 0, 0, 0, []), (999, 0, 0, 0, []), (0, 0, 0, 36, []), (47, 1689687391600667, 2, 39, [2, 2, 2, 2, 2, 2, 0, 0, 2, 2, 0]), (999, 0, 0, 0, []), (999, 0, 0, 0, []), (26, 0, 0, 40, []), (0, 0, 0, 41, []), (2, 57147408, 0, 44, [26]), (999, 0, 0, 0, []), (999, 0, 0, 0, []), (0, 0, 0, 45, []), (2, 57212951, 1, 48, [26]), (999, 0, 0, 0, []), (999, 0, 0, 0, [])], [(71, 12845085, 109, 51, [3]), (999, 0, 0, 0, []), (999, 0, 0, 0, []), (52, 57278496, 194, 54, [26]), (999, 0, 0, 0, []), (999, 0, 0, 0, []), (0, 0, 0, 55, []), (47, 1972051440107556, 0, 58, [2, 2, 2, 2, 0]), (999, 0, 0, 0, []), (999, 0, 0, 0, []), (26, 0, 0, 59, []), (0, 0, 0, 60, []), (2, 57147408, 0, 63, [26]), (999, 0, 0, 0, []), (999, 0, 0, 0, []), (0, 0, 0, 64, [])], [(2, 57212951, 1, 67, [26]), (999, 0, 0, 0, []), (999, 0, 0, 0, []), (0, 0, 0, 68, []), (2, 57278496, 2, 71, [26]), (999, 0, 0, 0, []), (999, 0, 0, 0, []), (71, 26411046, 110, 74, [4]), (999, 0, 0, 0, []), (999, 0, 0, 0, []), (52, 57344041, 195, 77, [26]), (999, 0, 0, 0, []), (999, 0, 0, 0, []), (0, 0, 0, 78, []), (47, 2253668152901677, 1, 81, [2, 2, 0, 0, 0, 2, 2, 2, 2]), (999, 0, 0, 0, [])], [(999, 0, 0, 0, []), (26, 0, 0, 82, []), (0, 0, 0, 83, []), (2, 57147408, 0, 86, [26]), (999, 0, 0, 0, []), (999, 0, 0, 0, []), (71, 28573743, 111, 89, [2]), (999, 0, 0, 0, []), (999, 0, 0, 0, []), (52, 57409586, 196, 92, [26]), (999, 0, 0, 0, []), (999, 0, 0, 0, []), (0, 0, 0, 93, []), (47, 3098513996251190, 5, 96, [0, 0, 0, 0, 0, 2, 2, 0, 0, 0, 0, 0, 0, 0, 2, 0, 0]), (999, 0, 0, 0, []), (999, 0, 0, 0, [])], [(26, 0, 0, 97, []), (0, 0, 0, 98, []), (2, 57409586, 4, 101, [26]), (999, 0, 0, 0, []), (999, 0, 0, 0, []), (0, 0, 0, 102, []), (2, 57344041, 3, 105, [26]), (999, 0, 0, 0, []), (999, 0, 0, 0, []), (71, 34996280, 112, 108, [3]), (999, 0, 0, 0, []), (999, 0, 0, 0, []), (52, 57475131, 197, 111, [26]), (999, 0, 0, 0, []), (999, 0, 0, 0, []), (0, 0, 0, 112, [])], [(47, 3380362640818239, 9, 115, [0, 0, 0, 0, 0, 2, 2, 2, 2, 2, 0, 2, 0, 0, 0, 0, 0]), (999, 0, 0, 0, []), (999, 0, 0, 0, []), (26, 0, 0, 116, []), (0, 0, 0, 117, []), (2, 57409586, 4, 120, [26]), (999, 0, 0, 0, []), (999, 0, 0, 0, []), (0, 0, 0, 121, []), (2, 57344041, 3, 124, [26]), (999, 0, 0, 0, []), (999, 0, 0, 0, []), (0, 0, 0, 125, []), (2, 57475131, 5, 128, [26]), (999, 0, 0, 0, []), (999, 0, 0, 0, [])], [(71, 40697921, 113, 131, [4]), (999, 0, 0, 0, []), (999, 0, 0, 0, []), (52, 57540676, 198, 134, [26]), (999, 0, 0, 0, []), (999, 0, 0, 0, []), (0, 0, 0, 135, []), (47, 3662735279390792, 3, 138, [2, 2, 2, 2, 2, 2, 0, 0, 2, 2, 0]), (999, 0, 0, 0, []), (999, 0, 0, 0, []), (26, 0, 0, 139, []), (0, 0, 0, 140, []), (2, 57344041, 3, 143, [26]), (999, 0, 0, 0, []), (999, 0, 0, 0, []), (0, 0, 0, 144, [])], [(2, 57540676, 6, 147, [26]), (999, 0, 0, 0, []), (999, 0, 0, 0, []), (71, 54394954, 114, 150, [3]), (999, 0, 0, 0, []), (999, 0, 0, 0, []), (52, 57606221, 199, 153, [26]), (999, 0, 0, 0, []), (999, 0, 0, 0, []), (67, 0, 0, 154, [])]]
def ztb_107 : zxTB := [[(0, 0, 0, 1, []), (75, 1966083, 0, 4, []), (999, 0, 0, 0, []), (999, 0, 0, 0, []), (0, 0, 0, 5, []), (11, 480, 0, 7, []), (999, 0, 0, 0, []), (49, 2031625, 5, 10, [2]), (999, 0, 0, 0, []), (999, 0, 0, 0, []), (52, 8716299, 192, 13, [24]), (999, 0, 0, 0, []), (999, 0, 0, 0, []), (0, 0, 0, 14, []), (3, 8, 0, 15, []), (15, 9502737, 2, 18, [24])], [(999, 0, 0, 0, []), (999, 0, 0, 0, []), (0, 0, 0, 19, []), (3, 8, 0, 20, []), (15, 9764885, 3, 23, [24]), (999, 0, 0, 0, []), (999, 0, 0, 0, []), (0, 0, 0, 24, []), (3, 8, 0, 25, []), (15, 10027032, 4, 28, [24]), (999, 0, 0, 0, []), (999, 0, 0, 0, []), (3, 0, 0, 29, []), (13, 1, 2, 30, []), (1, 1, 0, 31, []), (11, 480, 0, 33, [])], [(999, 0, 0, 0, []), (6, 55, 6, 36, []), (999, 0, 0, 0, []), (999, 0, 0, 0, []), (0, 0, 0, 37, []), (2, 8716299, 0, 40, [24]), (999, 0, 0, 0, []), (999, 0, 0, 0, []), (1, 1, 0, 41, []), (47, 844566666084361, 4, 44, [0, 0, 1, 0, 0, 0, 0, 0, 2, 2, 2, 0, 0]), (999, 0, 0, 0, []), (999, 0, 0, 0, []), (26, 0, 0, 45, []), (71, 2228251, 4, 48, [1]), (999, 0, 0, 0, []), (999, 0, 0, 0, [])], [(38, 5, 20, 49, []), (10, 1, 2, 52, [1]), (999, 0, 0, 0, []), (999, 0, 0, 0, []), (9, 30, 0, 55, []), (999, 0, 0, 0, []), (999, 0, 0, 0, []), (0, 0, 0, 56, []), (2, 8716299, 0, 59, [24]), (999, 0, 0, 0, []), (999, 0, 0, 0, []), (3, 0, 0, 60, []), (18, 5, 0, 61, []), (3, 8, 0, 62, []), (15, 2687004, 0, 65, [20]), (999, 0, 0, 0, [])], [(999, 0, 0, 0, []), (67, 0, 0, 66, [])]]
def ztb_108 : zxTB := [[(0, 0, 0, 1, []), (75, 11206659, 0, 4, []), (999, 0, 0, 0, []), (999, 0, 0, 0, []), (0, 0, 0, 5, []), (12, 53248, 0, 8, []), (999, 0, 0, 0, []), (999, 0, 0, 0, []), (48, 8585216, 2, 10, [0]), (999, 0, 0, 0, []), (52, 11272201, 192, 13, [22]), (999, 0, 0, 0, []), (999, 0, 0, 0, []), (0, 0, 0, 14, []), (12, 1664, 0, 17, []), (999, 0, 0, 0, [])], [(999, 0, 0, 0, []), (48, 8650752, 1, 19, [0]), (999, 0, 0, 0, []), (52, 11337743, 193, 22, [22]), (999, 0, 0, 0, []), (999, 0, 0, 0, []), (0, 0, 0, 23, []), (3, 16, 0, 24, []), (48, 8650752, 1, 26, [0]), (999, 0, 0, 0, []), (52, 11403283, 194, 29, [22]), (999, 0, 0, 0, []), (999, 0, 0, 0, []), (0, 0, 0, 30, []), (3, 16, 0, 31, []), (48, 8650752, 1, 33, [0])], [(999, 0, 0, 0, []), (52, 11665430, 195, 36, [22]), (999, 0, 0, 0, []), (999, 0, 0, 0, []), (0, 0, 0, 37, []), (2, 11403283, 2, 40, [22]), (999, 0, 0, 0, []), (999, 0, 0, 0, []), (3, 0, 0, 41, []), (11, 384, 0, 43, []), (999, 0, 0, 0, []), (16, 1, 0, 44, []), (0, 0, 0, 45, []), (2, 11403283, 2, 48, [22]), (999, 0, 0, 0, []), (999, 0, 0, 0, [])], [(3, 8, 0, 49, []), (12, 1280, 0, 52, []), (999, 0, 0, 0, []), (999, 0, 0, 0, []), (16, 1, 0, 53, []), (67, 0, 0, 54, [])]]
def ztb_109 : zxTB := [[(0, 0, 0, 1, []), (75, 13041667, 0, 4, []), (999, 0, 0, 0, []), (999, 0, 0, 0, []), (0, 0, 0, 5, []), (12, 1600, 0, 8, []), (999, 0, 0, 0, []), (999, 0, 0, 0, []), (49, 13107209, 5, 11, [2]), (999, 0, 0, 0, []), (999, 0, 0, 0, []), (52, 13369355, 194, 14, [18]), (999, 0, 0, 0, []), (999, 0, 0, 0, []), (0, 0, 0, 15, []), (12, 1600, 0, 18, [])], [(999, 0, 0, 0, []), (999, 0, 0, 0, []), (48, 8650752, 1, 20, [0]), (999, 0, 0, 0, []), (52, 13434897, 195, 23, [18]), (999, 0, 0, 0, []), (999, 0, 0, 0, []), (0, 0, 0, 24, []), (12, 1600, 0, 27, []), (999, 0, 0, 0, []), (999, 0, 0, 0, []), (48, 8650752, 1, 29, [0]), (999, 0, 0, 0, []), (52, 13500437, 196, 32, [18]), (999, 0, 0, 0, []), (999, 0, 0, 0, [])], [(0, 0, 0, 33, []), (12, 1600, 0, 36, []), (999, 0, 0, 0, []), (999, 0, 0, 0, []), (48, 8650752, 1, 38, [0]), (999, 0, 0, 0, []), (52, 13565976, 197, 41, [18]), (999, 0, 0, 0, []), (999, 0, 0, 0, []), (0, 0, 0, 42, []), (11, 320, 0, 44, []), (999, 0, 0, 0, []), (48, 8650752, 1, 46, [0]), (999, 0, 0, 0, []), (52, 13893659, 200, 49, [18]), (999, 0, 0, 0, [])], [(999, 0, 0, 0, []), (0, 0, 0, 50, []), (11, 320, 0, 52, []), (999, 0, 0, 0, []), (48, 26214400, 3, 54, [0]), (999, 0, 0, 0, []), (52, 13959198, 201, 57, [18]), (999, 0, 0, 0, []), (999, 0, 0, 0, []), (0, 0, 0, 58, []), (0, 1, 0, 59, []), (52, 13238306, 192, 62, [18]), (999, 0, 0, 0, []), (999, 0, 0, 0, []), (0, 0, 0, 63, []), (0, 2, 0, 64, [])], [(52, 13303846, 193, 67, [18]), (999, 0, 0, 0, []), (999, 0, 0, 0, []), (3, 0, 0, 68, []), (13, 3, 4, 69, []), (1, 3, 0, 70, []), (12, 1600, 0, 73, []), (999, 0, 0, 0, []), (999, 0, 0, 0, []), (6, 95, 6, 76, []), (999, 0, 0, 0, []), (999, 0, 0, 0, []), (0, 0, 0, 77, []), (2, 13369355, 2, 80, [18]), (999, 0, 0, 0, []), (999, 0, 0, 0, [])], [(1, 3, 0, 81, []), (47, 844566677159945, 4, 84, [0, 0, 1, 0, 0, 0, 0, 0, 2, 2, 2, 0, 0]), (999, 0, 0, 0, []), (999, 0, 0, 0, []), (26, 0, 0, 85, []), (71, 13172778, 4, 88, [1]), (999, 0, 0, 0, []), (999, 0, 0, 0, []), (38, 5, 20, 89, []), (10, 3, 4, 92, [1]), (999, 0, 0, 0, []), (999, 0, 0, 0, []), (9, 69, 0, 95, []), (999, 0, 0, 0, []), (999, 0, 0, 0, []), (67, 0, 0, 96, [])]]
def ztb_110 : zxTB := [[(0, 0, 0, 1, []), (75, 26607619, 0, 4, []), (999, 0, 0, 0, []), (999, 0, 0, 0, []), (0, 0, 0, 5, []), (11, 480, 0, 7, []), (999, 0, 0, 0, []), (48, 8650752, 1, 9, [0]), (999, 0, 0, 0, []), (52, 27394057, 195, 12, [16]), (999, 0, 0, 0, []), (999, 0, 0, 0, []), (0, 0, 0, 13, []), (0, 1, 0, 14, []), (52, 26673167, 192, 17, [16]), (999, 0, 0, 0, [])], [(999, 0, 0, 0, []), (0, 0, 0, 18, []), (0, 2, 0, 19, []), (52, 26935315, 193, 22, [16]), (999, 0, 0, 0, []), (999, 0, 0, 0, []), (0, 0, 0, 23, []), (0, 3, 0, 24, []), (52, 27197463, 194, 27, [16]), (999, 0, 0, 0, []), (999, 0, 0, 0, []), (67, 0, 0, 28, [])]]
def ztb_111 : zxTB := [[(0, 0, 0, 1, []), (75, 28770307, 0, 4, []), (999, 0, 0, 0, []), (999, 0, 0, 0, []), (0, 0, 0, 5, []), (11, 48, 0, 7, []), (999, 0, 0, 0, []), (49, 28835849, 6, 10, [2]), (999, 0, 0, 0, []), (999, 0, 0, 0, []), (52, 32505867, 193, 13, [17]), (999, 0, 0, 0, []), (999, 0, 0, 0, []), (0, 0, 0, 14, []), (3, 8, 0, 15, []), (15, 32768017, 2, 18, [17])], [(999, 0, 0, 0, []), (999, 0, 0, 0, []), (0, 0, 0, 19, []), (12, 13680, 0, 22, []), (999, 0, 0, 0, []), (999, 0, 0, 0, []), (48, 8650752, 1, 24, [0]), (999, 0, 0, 0, []), (52, 33161237, 197, 27, [17]), (999, 0, 0, 0, []), (999, 0, 0, 0, []), (0, 0, 0, 28, []), (12, 13680, 0, 31, []), (999, 0, 0, 0, []), (999, 0, 0, 0, []), (48, 8650752, 1, 33, [0])], [(999, 0, 0, 0, []), (52, 33292313, 198, 36, [17]), (999, 0, 0, 0, []), (999, 0, 0, 0, []), (0, 0, 0, 37, []), (12, 13680, 0, 40, []), (999, 0, 0, 0, []), (999, 0, 0, 0, []), (48, 8650752, 1, 42, [0]), (999, 0, 0, 0, []), (52, 33423388, 199, 45, [17]), (999, 0, 0, 0, []), (999, 0, 0, 0, []), (0, 0, 0, 46, []), (12, 13680, 0, 49, []), (999, 0, 0, 0, [])], [(999, 0, 0, 0, []), (48, 8650752, 1, 51, [0]), (999, 0, 0, 0, []), (52, 33554463, 200, 54, [17]), (999, 0, 0, 0, []), (999, 0, 0, 0, []), (0, 0, 0, 55, []), (0, 1, 0, 56, []), (52, 32440354, 192, 59, [17]), (999, 0, 0, 0, []), (999, 0, 0, 0, []), (3, 0, 0, 60, []), (13, 2, 3, 61, []), (1, 2, 0, 62, []), (11, 48, 0, 64, []), (999, 0, 0, 0, [])], [(6, 86, 6, 67, []), (999, 0, 0, 0, []), (999, 0, 0, 0, []), (0, 0, 0, 68, []), (2, 32505867, 1, 71, [17]), (999, 0, 0, 0, []), (999, 0, 0, 0, []), (1, 2, 0, 72, []), (47, 2535173194776585, 7, 75, [2, 0, 0, 0, 0, 0, 2, 2, 2, 2]), (999, 0, 0, 0, []), (999, 0, 0, 0, []), (26, 0, 0, 76, []), (72, 38, 39, 79, [1]), (999, 0, 0, 0, []), (999, 0, 0, 0, []), (38, 6, 23, 80, [])], [(10, 2, 3, 83, [1]), (999, 0, 0, 0, []), (999, 0, 0, 0, []), (9, 61, 0, 86, []), (999, 0, 0, 0, []), (999, 0, 0, 0, []), (67, 0, 0, 87, [])]]
def ztb_112 : zxTB := [[(0, 0, 0, 1, []), (72, 3, 99, 4, [1]), (999, 0, 0, 0, []), (999, 0, 0, 0, []), (0, 0, 0, 5, []), (3, 34359738360, 0, 6, []), (15, 35586057, 7, 9, [21]), (999, 0, 0, 0, []), (999, 0, 0, 0, []), (0, 0, 0, 10, []), (3, 34359738360, 0, 11, []), (15, 35782671, 8, 14, [21]), (999, 0, 0, 0, []), (999, 0, 0, 0, []), (0, 0, 0, 15, []), (3, 34359738360, 0, 16, [])], [(15, 36044818, 12, 19, [21]), (999, 0, 0, 0, []), (999, 0, 0, 0, []), (0, 0, 0, 20, []), (12, 8712, 0, 23, []), (999, 0, 0, 0, []), (999, 0, 0, 0, []), (48, 8585216, 2, 25, [0]), (999, 0, 0, 0, []), (52, 36306965, 206, 28, [21]), (999, 0, 0, 0, []), (999, 0, 0, 0, []), (0, 0, 0, 29, []), (0, 1, 0, 30, []), (52, 35455001, 197, 33, [21]), (999, 0, 0, 0, [])], [(999, 0, 0, 0, []), (0, 0, 0, 34, []), (0, 2, 0, 35, []), (52, 35520541, 198, 38, [21]), (999, 0, 0, 0, []), (999, 0, 0, 0, []), (67, 0, 0, 39, [])]]
def ztb_113 : zxTB := [[(0, 0, 0, 1, []), (72, 3, 99, 4, [1]), (999, 0, 0, 0, []), (999, 0, 0, 0, []), (0, 0, 0, 5, []), (11, 160, 0, 7, []), (999, 0, 0, 0, []), (48, 8650752, 1, 9, [0]), (999, 0, 0, 0, []), (52, 41156617, 200, 12, [25]), (999, 0, 0, 0, []), (999, 0, 0, 0, []), (0, 0, 0, 13, []), (11, 160, 0, 15, []), (999, 0, 0, 0, []), (48, 8650752, 1, 17, [0])], [(999, 0, 0, 0, []), (52, 41222159, 201, 20, [25]), (999, 0, 0, 0, []), (999, 0, 0, 0, []), (0, 0, 0, 21, []), (12, 8712, 0, 24, []), (999, 0, 0, 0, []), (999, 0, 0, 0, []), (48, 8585216, 2, 26, [0]), (999, 0, 0, 0, []), (52, 41418770, 203, 29, [25]), (999, 0, 0, 0, []), (999, 0, 0, 0, []), (0, 0, 0, 30, []), (0, 1, 0, 31, []), (52, 40960022, 197, 34, [25])], [(999, 0, 0, 0, []), (999, 0, 0, 0, []), (0, 0, 0, 35, []), (0, 2, 0, 36, []), (52, 41025562, 198, 39, [25]), (999, 0, 0, 0, []), (999, 0, 0, 0, []), (0, 0, 0, 40, []), (0, 3, 0, 41, []), (52, 41091102, 199, 44, [25]), (999, 0, 0, 0, []), (999, 0, 0, 0, []), (67, 0, 0, 45, [])]]
def ztb_114 : zxTB := [[(0, 0, 0, 1, []), (75, 54591491, 0, 4, []), (999, 0, 0, 0, []), (999, 0, 0, 0, []), (0, 0, 0, 5, []), (3, 16, 0, 6, []), (48, 8650752, 1, 8, [0]), (999, 0, 0, 0, []), (52, 54919177, 196, 11, [19]), (999, 0, 0, 0, []), (999, 0, 0, 0, []), (0, 0, 0, 12, []), (3, 16, 0, 13, []), (48, 8650752, 1, 15, [0]), (999, 0, 0, 0, []), (52, 55050255, 197, 18, [19])], [(999, 0, 0, 0, []), (999, 0, 0, 0, []), (0, 0, 0, 19, []), (11, 480, 0, 21, []), (999, 0, 0, 0, []), (48, 8650752, 1, 23, [0]), (999, 0, 0, 0, []), (52, 55443474, 200, 26, [19]), (999, 0, 0, 0, []), (999, 0, 0, 0, []), (0, 0, 0, 27, []), (11, 480, 0, 29, []), (999, 0, 0, 0, []), (48, 8650752, 1, 31, [0]), (999, 0, 0, 0, []), (52, 55509013, 201, 34, [19])], [(999, 0, 0, 0, []), (999, 0, 0, 0, []), (0, 0, 0, 35, []), (0, 1, 0, 36, []), (52, 54657048, 192, 39, [19]), (999, 0, 0, 0, []), (999, 0, 0, 0, []), (0, 0, 0, 40, []), (0, 2, 0, 41, []), (52, 54722588, 193, 44, [19]), (999, 0, 0, 0, []), (999, 0, 0, 0, []), (0, 0, 0, 45, []), (0, 1, 0, 46, []), (2, 26738720, 0, 49, [16]), (999, 0, 0, 0, [])], [(999, 0, 0, 0, []), (52, 54788134, 194, 52, [19]), (999, 0, 0, 0, []), (999, 0, 0, 0, []), (0, 0, 0, 53, []), (0, 1, 0, 54, []), (2, 27000871, 1, 57, [16]), (999, 0, 0, 0, []), (999, 0, 0, 0, []), (52, 54853675, 195, 60, [19]), (999, 0, 0, 0, []), (999, 0, 0, 0, []), (0, 0, 0, 61, []), (2, 54919177, 4, 64, [19]), (999, 0, 0, 0, []), (999, 0, 0, 0, [])], [(3, 0, 0, 65, []), (11, 320, 0, 67, []), (999, 0, 0, 0, []), (16, 1, 0, 68, []), (0, 0, 0, 69, []), (2, 55050255, 5, 72, [19]), (999, 0, 0, 0, []), (999, 0, 0, 0, []), (3, 0, 0, 73, []), (11, 240, 0, 75, []), (999, 0, 0, 0, []), (16, 1, 0, 76, []), (0, 0, 0, 77, []), (2, 54919177, 4, 80, [19]), (999, 0, 0, 0, []), (999, 0, 0, 0, [])], [(3, 8, 0, 81, []), (12, 1120, 0, 84, []), (999, 0, 0, 0, []), (999, 0, 0, 0, []), (16, 1, 0, 85, []), (0, 0, 0, 86, []), (2, 55050255, 5, 89, [19]), (999, 0, 0, 0, []), (999, 0, 0, 0, []), (3, 8, 0, 90, []), (11, 800, 0, 92, []), (999, 0, 0, 0, []), (16, 1, 0, 93, []), (67, 0, 0, 94, [])]]
def ztb_115 : zxTB := [[(0, 0, 0, 1, []), (2, 57802833, 10, 4, [26]), (999, 0, 0, 0, []), (999, 0, 0, 0, []), (7, 10, 2, 7, []), (999, 0, 0, 0, []), (999, 0, 0, 0, []), (999, 0, 0, 0, []), (999, 0, 0, 0, []), (999, 0, 0, 0, []), (0, 0, 0, 11, []), (2, 57147408, 0, 14, [26]), (999, 0, 0, 0, []), (999, 0, 0, 0, []), (1, 1, 0, 15, []), (70, 59637845, 51, 18, [2, 24])], [(999, 0, 0, 0, []), (999, 0, 0, 0, []), (7, 23, 5, 21, []), (999, 0, 0, 0, []), (999, 0, 0, 0, []), (3, 34359738360, 0, 22, []), (64, 0, 0, 23, []), (0, 0, 0, 24, []), (2, 57147408, 0, 27, [26]), (999, 0, 0, 0, []), (999, 0, 0, 0, []), (1, 1, 0, 28, []), (22, 2, 0, 29, []), (70, 60424285, 52, 32, [3, 24]), (999, 0, 0, 0, []), (999, 0, 0, 0, [])], [(14, 4, 5, 34, []), (999, 0, 0, 0, []), (4, 4, 0, 36, []), (999, 0, 0, 0, []), (7, 44, 6, 39, []), (999, 0, 0, 0, []), (999, 0, 0, 0, []), (11, 34359738352, 0, 41, []), (999, 0, 0, 0, []), (9, 46, 0, 44, []), (999, 0, 0, 0, []), (999, 0, 0, 0, []), (999, 0, 0, 0, []), (999, 0, 0, 0, []), (64, 0, 0, 47, [])]]
def ztb_116 : zxTB := [[(0, 0, 0, 1, []), (2, 57802833, 10, 4, [26]), (999, 0, 0, 0, []), (999, 0, 0, 0, []), (7, 10, 2, 7, []), (999, 0, 0, 0, []), (999, 0, 0, 0, []), (999, 0, 0, 0, []), (999, 0, 0, 0, []), (999, 0, 0, 0, []), (1, 1, 0, 11, []), (7, 25, 2, 14, []), (999, 0, 0, 0, []), (999, 0, 0, 0, []), (0, 0, 0, 15, []), (2, 57147408, 0, 18, [26])], [(999, 0, 0, 0, []), (999, 0, 0, 0, []), (1, 1, 0, 19, []), (70, 64618605, 29, 22, [2, 24]), (999, 0, 0, 0, []), (999, 0, 0, 0, []), (7, 27, 5, 25, []), (999, 0, 0, 0, []), (999, 0, 0, 0, []), (3, 34359738360, 0, 26, []), (64, 0, 0, 27, [])]]
def ztb_117 : zxTB := [[(0, 0, 0, 1, []), (2, 57802833, 10, 4, [26]), (999, 0, 0, 0, []), (999, 0, 0, 0, []), (7, 10, 2, 7, []), (999, 0, 0, 0, []), (999, 0, 0, 0, []), (999, 0, 0, 0, []), (999, 0, 0, 0, []), (999, 0, 0, 0, []), (1, 1, 0, 11, []), (7, 43, 2, 14, []), (999, 0, 0, 0, []), (999, 0, 0, 0, []), (0, 0, 0, 15, []), (2, 57147408, 0, 18, [26])], [(999, 0, 0, 0, []), (999, 0, 0, 0, []), (1, 1, 0, 19, []), (70, 64618605, 29, 22, [2, 24]), (999, 0, 0, 0, []), (999, 0, 0, 0, []), (7, 43, 2, 25, []), (999, 0, 0, 0, []), (999, 0, 0, 0, []), (999, 0, 0, 0, []), (999, 0, 0, 0, []), (999, 0, 0, 0, []), (999, 0, 0, 0, []), (999, 0, 0, 0, []), (999, 0, 0, 0, []), (999, 0, 0, 0, [])], [(999, 0, 0, 0, []), (999, 0, 0, 0, []), (999, 0, 0, 0, []), (999, 0, 0, 0, []), (999, 0, 0, 0, []), (999, 0, 0, 0, []), (999, 0, 0, 0, []), (999, 0, 0, 0, []), (999, 0, 0, 0, []), (999, 0, 0, 0, []), (999, 0, 0, 0, []), (3, 34359738360, 0, 44, []), (64, 0, 0, 45, [])]]
def ztb_118 : zxTB := [[(1, 1, 0, 1, []), (3, 8, 0, 2, []), (6, 11, 1, 5, []), (999, 0, 0, 0, []), (999, 0, 0, 0, []), (1, 1, 0, 6, []), (11, 64, 0, 8, []), (999, 0, 0, 0, []), (6, 13, 3, 11, []), (999, 0, 0, 0, []), (999, 0, 0, 0, []), (3, 34359738360, 0, 12, []), (64, 0, 0, 13, []), (1, 1, 0, 14, []), (12, 2048, 0, 17, []), (999, 0, 0, 0, [])], [(999, 0, 0, 0, []), (0, 0, 0, 18, []), (2, 57737371, 9, 21, [26]), (999, 0, 0, 0, []), (999, 0, 0, 0, []), (19, 0, 0, 22, []), (6, 28, 3, 25, []), (999, 0, 0, 0, []), (999, 0, 0, 0, []), (999, 0, 0, 0, []), (999, 0, 0, 0, []), (999, 0, 0, 0, []), (3, 0, 0, 29, []), (14, 4, 5, 31, []), (999, 0, 0, 0, []), (4, 4, 0, 33, [])], [(999, 0, 0, 0, []), (1, 1, 0, 34, []), (6, 64, 6, 37, []), (999, 0, 0, 0, []), (999, 0, 0, 0, []), (0, 0, 0, 38, []), (2, 57671689, 8, 41, [26]), (999, 0, 0, 0, []), (999, 0, 0, 0, []), (0, 0, 0, 42, []), (2, 57737371, 9, 45, [26]), (999, 0, 0, 0, []), (999, 0, 0, 0, []), (4, 4, 0, 47, []), (999, 0, 0, 0, []), (5, 0, 0, 48, [])], [(22, 2, 0, 49, []), (11, 64, 0, 51, []), (999, 0, 0, 0, []), (4, 4, 0, 53, []), (999, 0, 0, 0, []), (17, 0, 0, 54, []), (42, 0, 0, 55, []), (40, 0, 0, 56, []), (39, 0, 0, 57, []), (34, 2, 0, 58, []), (10, 4, 5, 61, [1]), (999, 0, 0, 0, []), (999, 0, 0, 0, []), (9, 31, 0, 64, []), (999, 0, 0, 0, []), (999, 0, 0, 0, [])], [(0, 0, 0, 65, []), (26, 0, 0, 66, []), (2, 57737371, 9, 69, [26]), (999, 0, 0, 0, []), (999, 0, 0, 0, []), (1, 1, 0, 70, []), (5, 0, 0, 71, []), (15, 57737371, 9, 74, [26]), (999, 0, 0, 0, []), (999, 0, 0, 0, []), (0, 0, 0, 75, []), (2, 57737371, 9, 78, [26]), (999, 0, 0, 0, []), (999, 0, 0, 0, []), (64, 0, 0, 79, [])]]
def ztb_119 : zxTB := [[(1, 1, 0, 1, []), (3, 8, 0, 2, []), (6, 12, 1, 5, []), (999, 0, 0, 0, []), (999, 0, 0, 0, []), (1, 1, 0, 6, []), (12, 2048, 0, 9, []), (999, 0, 0, 0, []), (999, 0, 0, 0, []), (6, 14, 3, 12, []), (999, 0, 0, 0, []), (999, 0, 0, 0, []), (3, 34359738360, 0, 13, []), (64, 0, 0, 14, []), (1, 1, 0, 15, []), (12, 2048, 0, 18, [])], [(999, 0, 0, 0, []), (999, 0, 0, 0, []), (0, 0, 0, 19, []), (2, 57737371, 9, 22, [26]), (999, 0, 0, 0, []), (999, 0, 0, 0, []), (19, 0, 0, 23, []), (6, 29, 3, 26, []), (999, 0, 0, 0, []), (999, 0, 0, 0, []), (999, 0, 0, 0, []), (999, 0, 0, 0, []), (999, 0, 0, 0, []), (3, 0, 0, 30, []), (13, 3, 4, 31, []), (59, 0, 0, 57, [])], [(999, 0, 0, 0, []), (999, 0, 0, 0, []), (999, 0, 0, 0, []), (999, 0, 0, 0, []), (999, 0, 0, 0, []), (999, 0, 0, 0, []), (999, 0, 0, 0, []), (999, 0, 0, 0, []), (999, 0, 0, 0, []), (999, 0, 0, 0, []), (999, 0, 0, 0, []), (999, 0, 0, 0, []), (999, 0, 0, 0, []), (999, 0, 0, 0, []), (999, 0, 0, 0, []), (999, 0, 0, 0, [])], [(999, 0, 0, 0, []), (999, 0, 0, 0, []), (999, 0, 0, 0, []), (999, 0, 0, 0, []), (999, 0, 0, 0, []), (999, 0, 0, 0, []), (999, 0, 0, 0, []), (999, 0, 0, 0, []), (999, 0, 0, 0, []), (0, 0, 0, 58, []), (26, 0, 0, 59, []), (2, 57737371, 9, 62, [26]), (999, 0, 0, 0, []), (999, 0, 0, 0, []), (1, 1, 0, 63, []), (5, 0, 0, 64, [])], [(15, 57737371, 9, 67, [26]), (999, 0, 0, 0, []), (999, 0, 0, 0, []), (0, 0, 0, 68, []), (2, 57737371, 9, 71, [26]), (999, 0, 0, 0, []), (999, 0, 0, 0, []), (64, 0, 0, 72, [])]]
def ztb_120 : zxTB := [[(0, 0, 0, 1, []), (2, 57802833, 10, 4, [26]), (999, 0, 0, 0, []), (999, 0, 0, 0, []), (7, 10, 2, 7, []), (999, 0, 0, 0, []), (999, 0, 0, 0, []), (999, 0, 0, 0, []), (999, 0, 0, 0, []), (999, 0, 0, 0, []), (0, 0, 0, 11, []), (2, 57147408, 0, 14, [26]), (999, 0, 0, 0, []), (999, 0, 0, 0, []), (1, 1, 0, 15, []), (70, 65208442, 49, 18, [2, 24])], [(999, 0, 0, 0, []), (999, 0, 0, 0, []), (7, 23, 5, 21, []), (999, 0, 0, 0, []), (999, 0, 0, 0, []), (3, 34359738360, 0, 22, []), (64, 0, 0, 23, [])]]
def ztb_121 : zxTB := [[(0, 0, 0, 1, []), (2, 57802833, 10, 4, [26]), (999, 0, 0, 0, []), (999, 0, 0, 0, []), (7, 10, 2, 7, []), (999, 0, 0, 0, []), (999, 0, 0, 0, []), (999, 0, 0, 0, []), (999, 0, 0, 0, []), (999, 0, 0, 0, []), (0, 0, 0, 11, []), (2, 57147408, 0, 14, [26]), (999, 0, 0, 0, []), (999, 0, 0, 0, []), (1, 1, 0, 15, []), (70, 65208442, 49, 18, [2, 24])], [(999, 0, 0, 0, []), (999, 0, 0, 0, []), (7, 23, 5, 21, []), (999, 0, 0, 0, []), (999, 0, 0, 0, []), (3, 34359738360, 0, 22, []), (64, 0, 0, 23, [])]]
def ztb_122 : zxTB := [[(0, 0, 0, 1, []), (2, 57802833, 10, 4, [26]), (999, 0, 0, 0, []), (999, 0, 0, 0, []), (7, 10, 2, 7, []), (999, 0, 0, 0, []), (999, 0, 0, 0, []), (999, 0, 0, 0, []), (999, 0, 0, 0, []), (999, 0, 0, 0, []), (0, 0, 0, 11, []), (2, 57147408, 0, 14, [26]), (999, 0, 0, 0, []), (999, 0, 0, 0, []), (1, 1, 0, 15, []), (70, 65208442, 49, 18, [2, 24])], [(999, 0, 0, 0, []), (999, 0, 0, 0, []), (7, 23, 5, 21, []), (999, 0, 0, 0, []), (999, 0, 0, 0, []), (3, 34359738360, 0, 22, []), (64, 0, 0, 23, [])]]
def ztb_123 : zxTB := [[(0, 0, 0, 1, []), (2, 57802833, 10, 4, [26]), (999, 0, 0, 0, []), (999, 0, 0, 0, []), (7, 10, 2, 7, []), (999, 0, 0, 0, []), (999, 0, 0, 0, []), (999, 0, 0, 0, []), (999, 0, 0, 0, []), (999, 0, 0, 0, []), (1, 1, 0, 11, []), (7, 30, 1, 14, []), (999, 0, 0, 0, []), (999, 0, 0, 0, []), (1, 1, 0, 15, []), (11, 480, 0, 17, [])], [(999, 0, 0, 0, []), (6, 30, 6, 20, []), (999, 0, 0, 0, []), (999, 0, 0, 0, []), (1, 2, 0, 21, []), (7, 30, 1, 24, []), (999, 0, 0, 0, []), (999, 0, 0, 0, []), (1, 2, 0, 25, []), (11, 80, 0, 27, []), (999, 0, 0, 0, []), (6, 32, 3, 30, []), (999, 0, 0, 0, []), (999, 0, 0, 0, []), (3, 34359738360, 0, 31, []), (64, 0, 0, 32, [])], [(0, 0, 0, 33, []), (2, 57147408, 0, 36, [26]), (999, 0, 0, 0, []), (999, 0, 0, 0, []), (2, 9044096, 0, 39, [24]), (999, 0, 0, 0, []), (999, 0, 0, 0, []), (1, 1, 0, 40, []), (18, 5, 0, 41, []), (30, 3, 4, 42, []), (1, 2, 0, 43, []), (7, 51, 5, 46, []), (999, 0, 0, 0, []), (999, 0, 0, 0, []), (0, 3, 0, 47, []), (2, 3014856, 0, 50, [20])], [(999, 0, 0, 0, []), (999, 0, 0, 0, []), (64, 0, 0, 51, []), (0, 3, 0, 52, []), (2, 3014856, 0, 55, [20]), (999, 0, 0, 0, []), (999, 0, 0, 0, []), (7, 60, 5, 58, []), (999, 0, 0, 0, []), (999, 0, 0, 0, []), (3, 34359738360, 0, 59, []), (64, 0, 0, 60, []), (1, 2, 0, 61, []), (3, 8, 0, 62, []), (6, 79, 5, 65, []), (999, 0, 0, 0, [])], [(999, 0, 0, 0, []), (1, 1, 0, 66, []), (7, 74, 5, 69, []), (999, 0, 0, 0, []), (999, 0, 0, 0, []), (11, 34359738352, 0, 71, []), (999, 0, 0, 0, []), (9, 78, 0, 74, []), (999, 0, 0, 0, []), (999, 0, 0, 0, []), (999, 0, 0, 0, []), (999, 0, 0, 0, []), (999, 0, 0, 0, []), (999, 0, 0, 0, []), (64, 0, 0, 79, []), (1, 2, 0, 80, [])], [(3, 16, 0, 81, []), (6, 93, 5, 84, []), (999, 0, 0, 0, []), (999, 0, 0, 0, []), (0, 0, 0, 85, []), (2, 57147408, 0, 88, [26]), (999, 0, 0, 0, []), (999, 0, 0, 0, []), (1, 1, 0, 89, []), (70, 60948581, 53, 92, [2, 24]), (999, 0, 0, 0, []), (999, 0, 0, 0, []), (64, 0, 0, 93, []), (0, 3, 0, 94, []), (2, 3014856, 0, 97, [20]), (999, 0, 0, 0, [])], [(999, 0, 0, 0, []), (3, 16, 0, 98, []), (6, 110, 5, 101, []), (999, 0, 0, 0, []), (999, 0, 0, 0, []), (999, 0, 0, 0, []), (999, 0, 0, 0, []), (999, 0, 0, 0, []), (999, 0, 0, 0, []), (999, 0, 0, 0, []), (999, 0, 0, 0, []), (999, 0, 0, 0, []), (999, 0, 0, 0, []), (999, 0, 0, 0, []), (3, 34359738360, 0, 111, []), (64, 0, 0, 112, [])]]
def ztb_124 : zxTB := [[(0, 0, 0, 1, []), (2, 57802833, 10, 4, [26]), (999, 0, 0, 0, []), (999, 0, 0, 0, []), (7, 22, 5, 7, []), (999, 0, 0, 0, []), (999, 0, 0, 0, []), (1, 1, 0, 8, []), (7, 22, 2, 11, []), (999, 0, 0, 0, []), (999, 0, 0, 0, []), (0, 0, 0, 12, []), (2, 57147408, 0, 15, [26]), (999, 0, 0, 0, []), (999, 0, 0, 0, []), (1, 1, 0, 16, [])], [(70, 64618605, 29, 19, [2, 24]), (999, 0, 0, 0, []), (999, 0, 0, 0, []), (7, 24, 5, 22, []), (999, 0, 0, 0, []), (999, 0, 0, 0, []), (25, 1, 0, 23, []), (66, 0, 0, 24, [])]]
def ztb_125 : zxTB := [[(0, 0, 0, 1, []), (2, 57802833, 10, 4, [26]), (999, 0, 0, 0, []), (999, 0, 0, 0, []), (7, 10, 2, 7, []), (999, 0, 0, 0, []), (999, 0, 0, 0, []), (999, 0, 0, 0, []), (999, 0, 0, 0, []), (999, 0, 0, 0, []), (0, 0, 0, 11, []), (2, 57147408, 0, 14, [26]), (999, 0, 0, 0, []), (999, 0, 0, 0, []), (1, 1, 0, 15, []), (70, 65208442, 49, 18, [2, 24])], [(999, 0, 0, 0, []), (999, 0, 0, 0, []), (7, 23, 5, 21, []), (999, 0, 0, 0, []), (999, 0, 0, 0, []), (3, 34359738360, 0, 22, []), (64, 0, 0, 23, [])]]
def ztb_126 : zxTB := [[(0, 0, 0, 1, []), (2, 57802833, 10, 4, [26]), (999, 0, 0, 0, []), (999, 0, 0, 0, []), (7, 10, 2, 7, []), (999, 0, 0, 0, []), (999, 0, 0, 0, []), (999, 0, 0, 0, []), (999, 0, 0, 0, []), (999, 0, 0, 0, []), (0, 0, 0, 11, []), (2, 57147408, 0, 14, [26]), (999, 0, 0, 0, []), (999, 0, 0, 0, []), (1, 1, 0, 15, []), (70, 65208442, 49, 18, [2, 24])], [(999, 0, 0, 0, []), (999, 0, 0, 0, []), (7, 39, 2, 21, []), (999, 0, 0, 0, []), (999, 0, 0, 0, []), (999, 0, 0, 0, []), (999, 0, 0, 0, []), (999, 0, 0, 0, []), (999, 0, 0, 0, []), (999, 0, 0, 0, []), (999, 0, 0, 0, []), (999, 0, 0, 0, []), (999, 0, 0, 0, []), (999, 0, 0, 0, []), (999, 0, 0, 0, []), (999, 0, 0, 0, [])], [(999, 0, 0, 0, []), (999, 0, 0, 0, []), (999, 0, 0, 0, []), (999, 0, 0, 0, []), (999, 0, 0, 0, []), (999, 0, 0, 0, []), (999, 0, 0, 0, []), (3, 34359738360, 0, 40, []), (64, 0, 0, 41, [])]]
def ztb_127 : zxTB := [[(1, 1, 0, 1, []), (7, 11, 2, 4, []), (999, 0, 0, 0, []), (999, 0, 0, 0, []), (1, 1, 0, 5, []), (3, 8, 0, 6, []), (6, 11, 2, 9, []), (999, 0, 0, 0, []), (999, 0, 0, 0, []), (3, 34359738360, 0, 10, []), (64, 0, 0, 11, []), (1, 1, 0, 12, []), (7, 20, 5, 15, []), (999, 0, 0, 0, []), (999, 0, 0, 0, []), (11, 384, 0, 17, [])], [(999, 0, 0, 0, []), (9, 23, 0, 20, []), (999, 0, 0, 0, []), (999, 0, 0, 0, []), (12, 1280, 0, 23, []), (999, 0, 0, 0, []), (999, 0, 0, 0, []), (14, 4, 6, 25, []), (999, 0, 0, 0, []), (1, 2, 0, 26, []), (7, 44, 1, 29, []), (999, 0, 0, 0, []), (999, 0, 0, 0, []), (1, 2, 0, 30, []), (4, 4, 0, 32, []), (999, 0, 0, 0, [])], [(6, 44, 4, 35, []), (999, 0, 0, 0, []), (999, 0, 0, 0, []), (1, 3, 0, 36, []), (7, 44, 1, 39, []), (999, 0, 0, 0, []), (999, 0, 0, 0, []), (1, 3, 0, 40, []), (1, 2, 0, 41, []), (6, 46, 3, 44, []), (999, 0, 0, 0, []), (999, 0, 0, 0, []), (3, 34359738360, 0, 45, []), (64, 0, 0, 46, []), (0, 0, 0, 47, []), (2, 57606221, 7, 50, [26])], [(999, 0, 0, 0, []), (999, 0, 0, 0, []), (2, 54984944, 4, 53, [19]), (999, 0, 0, 0, []), (999, 0, 0, 0, []), (1, 1, 0, 54, []), (8, 1, 0, 55, []), (14, 5, 6, 57, []), (999, 0, 0, 0, []), (0, 0, 0, 58, []), (2, 57606221, 7, 61, [26]), (999, 0, 0, 0, []), (999, 0, 0, 0, []), (2, 54984944, 4, 64, [19]), (999, 0, 0, 0, []), (999, 0, 0, 0, [])], [(1, 1, 0, 65, []), (1, 2, 0, 66, []), (16, 1, 0, 67, []), (0, 0, 0, 68, []), (2, 57606221, 7, 71, [26]), (999, 0, 0, 0, []), (999, 0, 0, 0, []), (2, 55116019, 5, 74, [19]), (999, 0, 0, 0, []), (999, 0, 0, 0, []), (1, 1, 0, 75, []), (1, 3, 0, 76, []), (16, 1, 0, 77, []), (4, 5, 0, 79, []), (999, 0, 0, 0, []), (64, 0, 0, 80, [])]]
def ztb_128 : zxTB := [[(1, 1, 0, 1, []), (3, 8, 0, 2, []), (6, 10, 1, 5, []), (999, 0, 0, 0, []), (999, 0, 0, 0, []), (1, 1, 0, 6, []), (3, 16, 0, 7, []), (6, 12, 3, 10, []), (999, 0, 0, 0, []), (999, 0, 0, 0, []), (3, 34359738360, 0, 11, []), (64, 0, 0, 12, []), (0, 0, 0, 13, []), (2, 57147408, 0, 16, [26]), (999, 0, 0, 0, []), (999, 0, 0, 0, [])], [(2, 10092790, 4, 19, [24]), (999, 0, 0, 0, []), (999, 0, 0, 0, []), (13, 2, 3, 20, []), (0, 0, 0, 21, []), (2, 57147408, 0, 24, [26]), (999, 0, 0, 0, []), (999, 0, 0, 0, []), (1, 1, 0, 25, []), (15, 10092790, 4, 28, [24]), (999, 0, 0, 0, []), (999, 0, 0, 0, []), (1, 2, 0, 29, []), (64, 0, 0, 30, [])]]
def ztb_129 : zxTB := [[(0, 0, 0, 1, []), (2, 57802833, 10, 4, [26]), (999, 0, 0, 0, []), (999, 0, 0, 0, []), (7, 12, 2, 7, []), (999, 0, 0, 0, []), (999, 0, 0, 0, []), (999, 0, 0, 0, []), (999, 0, 0, 0, []), (999, 0, 0, 0, []), (999, 0, 0, 0, []), (999, 0, 0, 0, []), (0, 0, 0, 13, []), (2, 57278496, 2, 16, [26]), (999, 0, 0, 0, []), (999, 0, 0, 0, [])], [(70, 92209401, 66, 19, [1, 18]), (999, 0, 0, 0, []), (999, 0, 0, 0, []), (64, 0, 0, 20, [])]]
def ztb_130 : zxTB := [[(0, 0, 0, 1, []), (2, 57802833, 10, 4, [26]), (999, 0, 0, 0, []), (999, 0, 0, 0, []), (7, 10, 2, 7, []), (999, 0, 0, 0, []), (999, 0, 0, 0, []), (999, 0, 0, 0, []), (999, 0, 0, 0, []), (999, 0, 0, 0, []), (1, 1, 0, 11, []), (7, 16, 6, 14, []), (999, 0, 0, 0, []), (999, 0, 0, 0, []), (3, 34359738360, 0, 15, []), (64, 0, 0, 16, [])], [(0, 0, 0, 17, []), (2, 57278496, 2, 20, [26]), (999, 0, 0, 0, []), (999, 0, 0, 0, []), (1, 1, 0, 21, []), (70, 92537084, 100, 24, [2, 18]), (999, 0, 0, 0, []), (999, 0, 0, 0, []), (13, 2, 3, 25, []), (0, 0, 0, 26, []), (70, 93978879, 71, 29, [1, 26]), (999, 0, 0, 0, []), (999, 0, 0, 0, []), (1, 2, 0, 30, []), (64, 0, 0, 31, [])]]
def ztb_131 : zxTB := [[(0, 0, 0, 1, []), (2, 57802833, 10, 4, [26]), (999, 0, 0, 0, []), (999, 0, 0, 0, []), (7, 10, 2, 7, []), (999, 0, 0, 0, []), (999, 0, 0, 0, []), (999, 0, 0, 0, []), (999, 0, 0, 0, []), (999, 0, 0, 0, []), (0, 0, 0, 11, []), (2, 57147408, 0, 14, [26]), (999, 0, 0, 0, []), (999, 0, 0, 0, []), (3, 16, 0, 15, []), (70, 106758410, 75, 18, [2, 24])], [(999, 0, 0, 0, []), (999, 0, 0, 0, []), (13, 1, 2, 19, []), (0, 0, 0, 20, []), (2, 57147408, 0, 23, [26]), (999, 0, 0, 0, []), (999, 0, 0, 0, []), (70, 107020557, 132, 26, [1, 24]), (999, 0, 0, 0, []), (999, 0, 0, 0, []), (0, 0, 0, 27, []), (2, 57278496, 2, 30, [26]), (999, 0, 0, 0, []), (999, 0, 0, 0, []), (70, 107282704, 133, 33, [1, 18]), (999, 0, 0, 0, [])], [(999, 0, 0, 0, []), (0, 0, 0, 34, []), (2, 57212951, 1, 37, [26]), (999, 0, 0, 0, []), (999, 0, 0, 0, []), (70, 107544849, 70, 40, [1, 22]), (999, 0, 0, 0, []), (999, 0, 0, 0, []), (0, 0, 0, 41, []), (70, 93978879, 71, 44, [1, 26]), (999, 0, 0, 0, []), (999, 0, 0, 0, []), (0, 0, 0, 45, []), (3, 8, 0, 46, []), (15, 57802833, 74, 49, [26]), (999, 0, 0, 0, [])], [(999, 0, 0, 0, []), (1, 1, 0, 50, []), (64, 0, 0, 51, [])]]
def ztb_132 : zxTB := [[(3, 8, 0, 1, []), (13, 1, 2, 2, []), (1, 1, 0, 3, []), (11, 480, 0, 5, []), (999, 0, 0, 0, []), (6, 23, 6, 8, []), (999, 0, 0, 0, []), (999, 0, 0, 0, []), (0, 0, 0, 9, []), (2, 8716299, 0, 12, [24]), (999, 0, 0, 0, []), (999, 0, 0, 0, []), (1, 1, 0, 13, []), (18, 5, 0, 14, []), (70, 63832095, 20, 17, [1, 20]), (999, 0, 0, 0, [])], [(999, 0, 0, 0, []), (10, 1, 2, 20, [1]), (999, 0, 0, 0, []), (999, 0, 0, 0, []), (9, 2, 0, 23, []), (999, 0, 0, 0, []), (999, 0, 0, 0, []), (67, 0, 0, 24, [])]]
def ztb_133 : zxTB := [[(0, 0, 0, 1, []), (3, 0, 0, 2, []), (15, 13631531, 6, 5, [18]), (999, 0, 0, 0, []), (999, 0, 0, 0, []), (0, 0, 0, 6, []), (3, 0, 0, 7, []), (15, 13762607, 7, 10, [18]), (999, 0, 0, 0, []), (999, 0, 0, 0, []), (0, 0, 0, 11, []), (3, 0, 0, 12, []), (15, 14024754, 10, 15, [18]), (999, 0, 0, 0, []), (999, 0, 0, 0, []), (67, 0, 0, 16, [])]]
def ztb_134 : zxTB := [[(0, 0, 0, 1, []), (2, 57802833, 10, 4, [26]), (999, 0, 0, 0, []), (999, 0, 0, 0, []), (7, 10, 5, 7, []), (999, 0, 0, 0, []), (999, 0, 0, 0, []), (11, 34359738320, 0, 9, []), (999, 0, 0, 0, []), (64, 0, 0, 10, [])]]
def ztb_135 : zxTB := [[(0, 0, 0, 1, []), (2, 57802833, 10, 4, [26]), (999, 0, 0, 0, []), (999, 0, 0, 0, []), (7, 10, 2, 7, []), (999, 0, 0, 0, []), (999, 0, 0, 0, []), (999, 0, 0, 0, []), (999, 0, 0, 0, []), (999, 0, 0, 0, []), (1, 1, 0, 11, []), (7, 20, 1, 14, []), (999, 0, 0, 0, []), (999, 0, 0, 0, []), (1, 1, 0, 15, []), (11, 48, 0, 17, [])], [(999, 0, 0, 0, []), (6, 22, 1, 20, []), (999, 0, 0, 0, []), (999, 0, 0, 0, []), (3, 34359738360, 0, 21, []), (64, 0, 0, 22, []), (0, 0, 0, 23, []), (2, 57475131, 5, 26, [26]), (999, 0, 0, 0, []), (999, 0, 0, 0, []), (2, 36176180, 12, 29, [21]), (999, 0, 0, 0, []), (999, 0, 0, 0, []), (7, 47, 6, 32, []), (999, 0, 0, 0, []), (999, 0, 0, 0, [])], [(0, 0, 0, 33, []), (2, 57409586, 4, 36, [26]), (999, 0, 0, 0, []), (999, 0, 0, 0, []), (2, 32702775, 1, 39, [17]), (999, 0, 0, 0, []), (999, 0, 0, 0, []), (1, 1, 0, 40, []), (18, 6, 0, 41, []), (2, 29688123, 1, 44, [23]), (999, 0, 0, 0, []), (999, 0, 0, 0, []), (7, 50, 5, 47, []), (999, 0, 0, 0, []), (999, 0, 0, 0, []), (11, 34359738320, 0, 49, [])], [(999, 0, 0, 0, []), (64, 0, 0, 50, [])]]
def ztb_136 : zxTB := [[(1, 1, 0, 1, []), (7, 9, 1, 4, []), (999, 0, 0, 0, []), (999, 0, 0, 0, []), (1, 1, 0, 5, []), (3, 8, 0, 6, []), (6, 11, 3, 9, []), (999, 0, 0, 0, []), (999, 0, 0, 0, []), (3, 34359738360, 0, 10, []), (64, 0, 0, 11, []), (1, 1, 0, 12, []), (7, 22, 5, 15, []), (999, 0, 0, 0, []), (999, 0, 0, 0, []), (0, 0, 0, 16, [])], [(2, 57540676, 6, 19, [26]), (999, 0, 0, 0, []), (999, 0, 0, 0, []), (9, 26, 0, 22, []), (999, 0, 0, 0, []), (999, 0, 0, 0, []), (0, 0, 0, 23, []), (2, 57475131, 5, 26, [26]), (999, 0, 0, 0, []), (999, 0, 0, 0, []), (30, 3, 4, 27, []), (1, 2, 0, 28, []), (46, 92, 2147483648, 60, [60, 77, 82, 87]), (999, 0, 0, 0, []), (999, 0, 0, 0, []), (999, 0, 0, 0, [])], [(999, 0, 0, 0, []), (999, 0, 0, 0, []), (999, 0, 0, 0, []), (999, 0, 0, 0, []), (999, 0, 0, 0, []), (999, 0, 0, 0, []), (999, 0, 0, 0, []), (999, 0, 0, 0, []), (999, 0, 0, 0, []), (999, 0, 0, 0, []), (999, 0, 0, 0, []), (999, 0, 0, 0, []), (999, 0, 0, 0, []), (999, 0, 0, 0, []), (999, 0, 0, 0, []), (999, 0, 0, 0, [])], [(999, 0, 0, 0, []), (999, 0, 0, 0, []), (999, 0, 0, 0, []), (999, 0, 0, 0, []), (999, 0, 0, 0, []), (999, 0, 0, 0, []), (999, 0, 0, 0, []), (999, 0, 0, 0, []), (999, 0, 0, 0, []), (999, 0, 0, 0, []), (999, 0, 0, 0, []), (999, 0, 0, 0, []), (0, 3, 0, 61, []), (2, 37159235, 0, 64, [21, 25]), (999, 0, 0, 0, []), (999, 0, 0, 0, [])], [(7, 72, 6, 67, []), (999, 0, 0, 0, []), (999, 0, 0, 0, []), (11, 34359738352, 0, 69, []), (999, 0, 0, 0, []), (9, 76, 0, 72, []), (999, 0, 0, 0, []), (999, 0, 0, 0, []), (999, 0, 0, 0, []), (999, 0, 0, 0, []), (999, 0, 0, 0, []), (999, 0, 0, 0, []), (64, 0, 0, 77, []), (0, 3, 0, 78, []), (2, 37552454, 1, 81, [21, 25]), (999, 0, 0, 0, [])], [(999, 0, 0, 0, []), (64, 0, 0, 82, []), (0, 3, 0, 83, []), (2, 38011209, 2, 86, [21, 25]), (999, 0, 0, 0, []), (999, 0, 0, 0, []), (64, 0, 0, 87, []), (0, 3, 0, 88, []), (2, 38142282, 3, 91, [21, 25]), (999, 0, 0, 0, []), (999, 0, 0, 0, []), (64, 0, 0, 92, []), (3, 34359738360, 0, 93, []), (64, 0, 0, 94, [])]]
def ztb_137 : zxTB := [[(1, 1, 0, 1, []), (3, 8, 0, 2, []), (6, 27, 1, 5, []), (999, 0, 0, 0, []), (999, 0, 0, 0, []), (1, 1, 0, 6, []), (3, 40, 0, 7, []), (6, 27, 4, 10, []), (999, 0, 0, 0, []), (999, 0, 0, 0, []), (0, 0, 0, 11, []), (2, 57802833, 10, 14, [26]), (999, 0, 0, 0, []), (999, 0, 0, 0, []), (7, 21, 2, 17, []), (999, 0, 0, 0, [])], [(999, 0, 0, 0, []), (999, 0, 0, 0, []), (999, 0, 0, 0, []), (999, 0, 0, 0, []), (999, 0, 0, 0, []), (0, 0, 0, 22, []), (1, 1, 0, 23, []), (70, 157352269, 86, 26, [2, 26]), (999, 0, 0, 0, []), (999, 0, 0, 0, []), (64, 0, 0, 27, []), (1, 1, 0, 28, []), (46, 298, 2147483648, 124, [124, 298, 298, 298, 298, 298, 132, 140, 148, 156, 164, 172, 188, 204, 227, 240, 245, 253, 261, 290]), (999, 0, 0, 0, []), (999, 0, 0, 0, []), (999, 0, 0, 0, [])], [(999, 0, 0, 0, []), (999, 0, 0, 0, []), (999, 0, 0, 0, []), (999, 0, 0, 0, []), (999, 0, 0, 0, []), (999, 0, 0, 0, []), (999, 0, 0, 0, []), (999, 0, 0, 0, []), (999, 0, 0, 0, []), (999, 0, 0, 0, []), (999, 0, 0, 0, []), (999, 0, 0, 0, []), (999, 0, 0, 0, []), (999, 0, 0, 0, []), (999, 0, 0, 0, []), (999, 0, 0, 0, [])], [(999, 0, 0, 0, []), (999, 0, 0, 0, []), (999, 0, 0, 0, []), (999, 0, 0, 0, []), (999, 0, 0, 0, []), (999, 0, 0, 0, []), (999, 0, 0, 0, []), (999, 0, 0, 0, []), (999, 0, 0, 0, []), (999, 0, 0, 0, []), (999, 0, 0, 0, []), (999, 0, 0, 0, []), (999, 0, 0, 0, []), (999, 0, 0, 0, []), (999, 0, 0, 0, []), (999, 0, 0, 0, [])], [(999, 0, 0, 0, []), (999, 0, 0, 0, []), (999, 0, 0, 0, []), (999, 0, 0, 0, []), (999, 0, 0, 0, []), (999, 0, 0, 0, []), (999, 0, 0, 0, []), (999, 0, 0, 0, []), (999, 0, 0, 0, []), (999, 0, 0, 0, []), (999, 0, 0, 0, []), (999, 0, 0, 0, []), (999, 0, 0, 0, []), (999, 0, 0, 0, []), (999, 0, 0, 0, []), (999, 0, 0, 0, [])], [(999, 0, 0, 0, []), (999, 0, 0, 0, []), (999, 0, 0, 0, []), (999, 0, 0, 0, []), (999, 0, 0, 0, []), (999, 0, 0, 0, []), (999, 0, 0, 0, []), (999, 0, 0, 0, []), (999, 0, 0, 0, []), (999, 0, 0, 0, []), (999, 0, 0, 0, []), (999, 0, 0, 0, []), (999, 0, 0, 0, []), (999, 0, 0, 0, []), (999, 0, 0, 0, []), (999, 0, 0, 0, [])], [(999, 0, 0, 0, []), (999, 0, 0, 0, []), (999, 0, 0, 0, []), (999, 0, 0, 0, []), (999, 0, 0, 0, []), (999, 0, 0, 0, []), (999, 0, 0, 0, []), (999, 0, 0, 0, []), (999, 0, 0, 0, []), (999, 0, 0, 0, []), (999, 0, 0, 0, []), (999, 0, 0, 0, []), (999, 0, 0, 0, []), (999, 0, 0, 0, []), (999, 0, 0, 0, []), (999, 0, 0, 0, [])], [(999, 0, 0, 0, []), (999, 0, 0, 0, []), (999, 0, 0, 0, []), (999, 0, 0, 0, []), (999, 0, 0, 0, []), (999, 0, 0, 0, []), (999, 0, 0, 0, []), (999, 0, 0, 0, []), (999, 0, 0, 0, []), (999, 0, 0, 0, []), (999, 0, 0, 0, []), (999, 0, 0, 0, []), (0, 0, 0, 125, []), (2, 57147408, 0, 128, [26]), (999, 0, 0, 0, []), (999, 0, 0, 0, [])], [(2, 9371835, 1, 131, [24]), (999, 0, 0, 0, []), (999, 0, 0, 0, []), (64, 0, 0, 132, []), (0, 0, 0, 133, []), (2, 57344041, 3, 136, [26]), (999, 0, 0, 0, []), (999, 0, 0, 0, []), (2, 27656455, 4, 139, [16]), (999, 0, 0, 0, []), (999, 0, 0, 0, []), (64, 0, 0, 140, []), (0, 0, 0, 141, []), (2, 57540676, 6, 144, [26]), (999, 0, 0, 0, []), (999, 0, 0, 0, [])], [(2, 41353552, 10, 147, [25]), (999, 0, 0, 0, []), (999, 0, 0, 0, []), (64, 0, 0, 148, []), (0, 0, 0, 149, []), (2, 57278496, 2, 152, [26]), (999, 0, 0, 0, []), (999, 0, 0, 0, []), (2, 14156115, 10, 155, [18]), (999, 0, 0, 0, []), (999, 0, 0, 0, []), (64, 0, 0, 156, []), (0, 0, 0, 157, []), (2, 57278496, 2, 160, [26]), (999, 0, 0, 0, []), (999, 0, 0, 0, [])], [(2, 13697366, 6, 163, [18]), (999, 0, 0, 0, []), (999, 0, 0, 0, []), (64, 0, 0, 164, []), (0, 0, 0, 165, []), (2, 57278496, 2, 168, [26]), (999, 0, 0, 0, []), (999, 0, 0, 0, []), (2, 13828440, 7, 171, [18]), (999, 0, 0, 0, []), (999, 0, 0, 0, []), (64, 0, 0, 172, []), (0, 0, 0, 173, []), (2, 57606221, 7, 176, [26]), (999, 0, 0, 0, []), (999, 0, 0, 0, [])], [(2, 55247195, 6, 179, [19]), (999, 0, 0, 0, []), (999, 0, 0, 0, []), (7, 186, 2, 182, []), (999, 0, 0, 0, []), (999, 0, 0, 0, []), (999, 0, 0, 0, []), (999, 0, 0, 0, []), (999, 0, 0, 0, []), (999, 0, 0, 0, []), (3, 0, 0, 187, []), (64, 0, 0, 188, []), (0, 0, 0, 189, []), (2, 57606221, 7, 192, [26]), (999, 0, 0, 0, []), (999, 0, 0, 0, [])], [(2, 55378270, 7, 195, [19]), (999, 0, 0, 0, []), (999, 0, 0, 0, []), (7, 202, 2, 198, []), (999, 0, 0, 0, []), (999, 0, 0, 0, []), (999, 0, 0, 0, []), (999, 0, 0, 0, []), (999, 0, 0, 0, []), (999, 0, 0, 0, []), (3, 0, 0, 203, []), (64, 0, 0, 204, []), (0, 0, 0, 205, []), (2, 57475131, 5, 208, [26]), (999, 0, 0, 0, []), (999, 0, 0, 0, [])], [(2, 36176180, 12, 211, [21]), (999, 0, 0, 0, []), (999, 0, 0, 0, []), (7, 219, 6, 214, []), (999, 0, 0, 0, []), (999, 0, 0, 0, []), (11, 34359738352, 0, 216, []), (999, 0, 0, 0, []), (9, 226, 0, 219, []), (999, 0, 0, 0, []), (999, 0, 0, 0, []), (999, 0, 0, 0, []), (999, 0, 0, 0, []), (999, 0, 0, 0, []), (999, 0, 0, 0, []), (999, 0, 0, 0, [])], [(999, 0, 0, 0, []), (999, 0, 0, 0, []), (64, 0, 0, 227, []), (0, 0, 0, 228, []), (2, 57802833, 10, 231, [26]), (999, 0, 0, 0, []), (999, 0, 0, 0, []), (7, 238, 2, 234, []), (999, 0, 0, 0, []), (999, 0, 0, 0, []), (999, 0, 0, 0, []), (999, 0, 0, 0, []), (999, 0, 0, 0, []), (999, 0, 0, 0, []), (3, 0, 0, 239, []), (64, 0, 0, 240, [])], [(0, 0, 0, 241, []), (2, 57737371, 9, 244, [26]), (999, 0, 0, 0, []), (999, 0, 0, 0, []), (64, 0, 0, 245, []), (0, 0, 0, 246, []), (2, 57147408, 0, 249, [26]), (999, 0, 0, 0, []), (999, 0, 0, 0, []), (2, 9634145, 2, 252, [24]), (999, 0, 0, 0, []), (999, 0, 0, 0, []), (64, 0, 0, 253, []), (0, 0, 0, 254, []), (2, 57409586, 4, 257, [26]), (999, 0, 0, 0, [])], [(999, 0, 0, 0, []), (2, 32899428, 2, 260, [17]), (999, 0, 0, 0, []), (999, 0, 0, 0, []), (64, 0, 0, 261, []), (0, 0, 0, 262, []), (2, 57802833, 10, 265, [26]), (999, 0, 0, 0, []), (999, 0, 0, 0, []), (7, 272, 2, 268, []), (999, 0, 0, 0, []), (999, 0, 0, 0, []), (999, 0, 0, 0, []), (999, 0, 0, 0, []), (999, 0, 0, 0, []), (999, 0, 0, 0, [])], [(0, 0, 0, 273, []), (2, 57147408, 0, 276, [26]), (999, 0, 0, 0, []), (999, 0, 0, 0, []), (3, 16, 0, 277, []), (70, 106758410, 75, 280, [2, 24]), (999, 0, 0, 0, []), (999, 0, 0, 0, []), (0, 0, 0, 281, []), (2, 57147408, 0, 284, [26]), (999, 0, 0, 0, []), (999, 0, 0, 0, []), (3, 8, 0, 285, []), (70, 106758410, 75, 288, [2, 24]), (999, 0, 0, 0, []), (999, 0, 0, 0, [])], [(5, 0, 0, 289, []), (64, 0, 0, 290, []), (0, 0, 0, 291, []), (2, 57147408, 0, 294, [26]), (999, 0, 0, 0, []), (999, 0, 0, 0, []), (2, 9896295, 3, 297, [24]), (999, 0, 0, 0, []), (999, 0, 0, 0, []), (64, 0, 0, 298, []), (3, 34359738360, 0, 299, []), (64, 0, 0, 300, [])]]
def ztb_138 : zxTB := [[(1, 1, 0, 1, []), (7, 10, 1, 4, []), (999, 0, 0, 0, []), (999, 0, 0, 0, []), (1, 1, 0, 5, []), (11, 48, 0, 7, []), (999, 0, 0, 0, []), (6, 12, 1, 10, []), (999, 0, 0, 0, []), (999, 0, 0, 0, []), (3, 34359738360, 0, 11, []), (64, 0, 0, 12, []), (0, 0, 0, 13, []), (2, 57409586, 4, 16, [26]), (999, 0, 0, 0, []), (999, 0, 0, 0, [])], [(70, 65470589, 26, 19, [1, 17]), (999, 0, 0, 0, []), (999, 0, 0, 0, []), (0, 0, 0, 20, []), (2, 57409586, 4, 23, [26]), (999, 0, 0, 0, []), (999, 0, 0, 0, []), (2, 32702775, 1, 26, [17]), (999, 0, 0, 0, []), (999, 0, 0, 0, []), (1, 1, 0, 27, []), (18, 6, 0, 28, []), (30, 3, 4, 29, []), (1, 2, 0, 30, []), (46, 98, 2147483648, 64, [64, 69, 74, 79, 89]), (999, 0, 0, 0, [])], [(999, 0, 0, 0, []), (999, 0, 0, 0, []), (999, 0, 0, 0, []), (999, 0, 0, 0, []), (999, 0, 0, 0, []), (999, 0, 0, 0, []), (999, 0, 0, 0, []), (999, 0, 0, 0, []), (999, 0, 0, 0, []), (999, 0, 0, 0, []), (999, 0, 0, 0, []), (999, 0, 0, 0, []), (999, 0, 0, 0, []), (999, 0, 0, 0, []), (999, 0, 0, 0, []), (999, 0, 0, 0, [])], [(999, 0, 0, 0, []), (999, 0, 0, 0, []), (999, 0, 0, 0, []), (999, 0, 0, 0, []), (999, 0, 0, 0, []), (999, 0, 0, 0, []), (999, 0, 0, 0, []), (999, 0, 0, 0, []), (999, 0, 0, 0, []), (999, 0, 0, 0, []), (999, 0, 0, 0, []), (999, 0, 0, 0, []), (999, 0, 0, 0, []), (999, 0, 0, 0, []), (999, 0, 0, 0, []), (999, 0, 0, 0, [])], [(0, 3, 0, 65, []), (2, 29688123, 1, 68, [23]), (999, 0, 0, 0, []), (999, 0, 0, 0, []), (64, 0, 0, 69, []), (0, 3, 0, 70, []), (2, 29819248, 2, 73, [23]), (999, 0, 0, 0, []), (999, 0, 0, 0, []), (64, 0, 0, 74, []), (0, 3, 0, 75, []), (2, 30146931, 5, 78, [23]), (999, 0, 0, 0, []), (999, 0, 0, 0, []), (64, 0, 0, 79, []), (0, 3, 0, 80, [])], [(2, 30146931, 5, 83, [23]), (999, 0, 0, 0, []), (999, 0, 0, 0, []), (0, 3, 0, 84, []), (70, 157876598, 45, 87, [1, 23]), (999, 0, 0, 0, []), (999, 0, 0, 0, []), (19, 0, 0, 88, []), (64, 0, 0, 89, []), (0, 0, 0, 90, []), (2, 57409586, 4, 93, [26]), (999, 0, 0, 0, []), (999, 0, 0, 0, []), (1, 1, 0, 94, []), (70, 158138745, 46, 97, [2, 17]), (999, 0, 0, 0, [])], [(999, 0, 0, 0, []), (64, 0, 0, 98, []), (3, 34359738360, 0, 99, []), (64, 0, 0, 100, [])]]
def ztb_139 : zxTB := [[(0, 0, 0, 1, []), (2, 57409586, 4, 4, [26]), (999, 0, 0, 0, []), (999, 0, 0, 0, []), (1, 1, 0, 5, []), (1, 2, 0, 6, []), (70, 158663036, 103, 9, [3, 17]), (999, 0, 0, 0, []), (999, 0, 0, 0, []), (7, 14, 5, 12, []), (999, 0, 0, 0, []), (999, 0, 0, 0, []), (3, 34359738360, 0, 13, []), (64, 0, 0, 14, [])]]
def ztb_140 : zxTB := [[(0, 0, 0, 1, []), (2, 57409586, 4, 4, [26]), (999, 0, 0, 0, []), (999, 0, 0, 0, []), (1, 1, 0, 5, []), (1, 2, 0, 6, []), (70, 158663036, 103, 9, [3, 17]), (999, 0, 0, 0, []), (999, 0, 0, 0, []), (7, 24, 2, 12, []), (999, 0, 0, 0, []), (999, 0, 0, 0, []), (999, 0, 0, 0, []), (999, 0, 0, 0, []), (999, 0, 0, 0, []), (999, 0, 0, 0, [])], [(999, 0, 0, 0, []), (999, 0, 0, 0, []), (999, 0, 0, 0, []), (999, 0, 0, 0, []), (999, 0, 0, 0, []), (999, 0, 0, 0, []), (999, 0, 0, 0, []), (999, 0, 0, 0, []), (3, 34359738360, 0, 25, []), (64, 0, 0, 26, [])]]
def ztb_141 : zxTB := [[(1, 1, 0, 1, []), (7, 24, 1, 4, []), (999, 0, 0, 0, []), (999, 0, 0, 0, []), (1, 1, 0, 5, []), (11, 48, 0, 7, []), (999, 0, 0, 0, []), (6, 24, 6, 10, []), (999, 0, 0, 0, []), (999, 0, 0, 0, []), (1, 2, 0, 11, []), (7, 24, 1, 14, []), (999, 0, 0, 0, []), (999, 0, 0, 0, []), (1, 3, 0, 15, []), (7, 24, 1, 18, [])], [(999, 0, 0, 0, []), (999, 0, 0, 0, []), (1, 3, 0, 19, []), (11, 64, 0, 21, []), (999, 0, 0, 0, []), (6, 26, 3, 24, []), (999, 0, 0, 0, []), (999, 0, 0, 0, []), (3, 34359738360, 0, 25, []), (64, 0, 0, 26, []), (0, 0, 0, 27, []), (2, 57409586, 4, 30, [26]), (999, 0, 0, 0, []), (999, 0, 0, 0, []), (70, 65470589, 26, 33, [1, 17]), (999, 0, 0, 0, [])], [(999, 0, 0, 0, []), (0, 0, 0, 34, []), (2, 57409586, 4, 37, [26]), (999, 0, 0, 0, []), (999, 0, 0, 0, []), (2, 32702775, 1, 40, [17]), (999, 0, 0, 0, []), (999, 0, 0, 0, []), (1, 1, 0, 41, []), (18, 6, 0, 42, []), (31, 4, 6, 44, []), (999, 0, 0, 0, []), (1, 2, 0, 45, []), (29, 4, 0, 47, []), (999, 0, 0, 0, []), (2, 30146931, 5, 50, [23])], [(999, 0, 0, 0, []), (999, 0, 0, 0, []), (6, 56, 1, 53, []), (999, 0, 0, 0, []), (999, 0, 0, 0, []), (11, 34359738352, 0, 55, []), (999, 0, 0, 0, []), (64, 0, 0, 56, [])]]
def ztb_142 : zxTB := [[(1, 1, 0, 1, []), (3, 34359738360, 0, 2, []), (6, 23, 1, 5, []), (999, 0, 0, 0, []), (999, 0, 0, 0, []), (1, 2, 0, 6, []), (7, 23, 1, 9, []), (999, 0, 0, 0, []), (999, 0, 0, 0, []), (1, 2, 0, 10, []), (3, 32, 0, 11, []), (6, 23, 4, 14, []), (999, 0, 0, 0, []), (999, 0, 0, 0, []), (1, 1, 0, 15, []), (3, 34359738360, 0, 16, [])], [(6, 25, 5, 19, []), (999, 0, 0, 0, []), (999, 0, 0, 0, []), (1, 2, 0, 20, []), (7, 25, 2, 23, []), (999, 0, 0, 0, []), (999, 0, 0, 0, []), (3, 34359738360, 0, 24, []), (64, 0, 0, 25, []), (0, 0, 0, 26, []), (2, 57409586, 4, 29, [26]), (999, 0, 0, 0, []), (999, 0, 0, 0, []), (70, 65470589, 26, 32, [1, 17]), (999, 0, 0, 0, []), (999, 0, 0, 0, [])], [(0, 0, 0, 33, []), (2, 57409586, 4, 36, [26]), (999, 0, 0, 0, []), (999, 0, 0, 0, []), (70, 107872532, 54, 39, [1, 17]), (999, 0, 0, 0, []), (999, 0, 0, 0, []), (1, 1, 0, 40, []), (3, 34359738360, 0, 41, []), (6, 52, 5, 44, []), (999, 0, 0, 0, []), (999, 0, 0, 0, []), (0, 0, 0, 45, []), (2, 57409586, 4, 48, [26]), (999, 0, 0, 0, []), (999, 0, 0, 0, [])], [(2, 33096097, 4, 51, [17]), (999, 0, 0, 0, []), (999, 0, 0, 0, []), (64, 0, 0, 52, []), (1, 1, 0, 53, []), (0, 0, 0, 54, []), (2, 57409586, 4, 57, [26]), (999, 0, 0, 0, []), (999, 0, 0, 0, []), (2, 33096097, 4, 60, [17]), (999, 0, 0, 0, []), (999, 0, 0, 0, []), (6, 66, 1, 63, []), (999, 0, 0, 0, []), (999, 0, 0, 0, []), (11, 34359738352, 0, 65, [])], [(999, 0, 0, 0, []), (64, 0, 0, 66, [])]]
def ztb_143 : zxTB := [[(0, 0, 0, 1, []), (75, 160694279, 0, 4, []), (999, 0, 0, 0, []), (999, 0, 0, 0, []), (0, 0, 0, 5, []), (12, 20488, 0, 8, []), (999, 0, 0, 0, []), (999, 0, 0, 0, []), (48, 8650752, 1, 10, [0]), (999, 0, 0, 0, []), (52, 161480717, 193, 13, [27]), (999, 0, 0, 0, []), (999, 0, 0, 0, []), (0, 0, 0, 14, []), (11, 480, 0, 16, []), (999, 0, 0, 0, [])], [(48, 172621824, 4, 18, [1]), (999, 0, 0, 0, []), (52, 161546257, 194, 21, [27]), (999, 0, 0, 0, []), (999, 0, 0, 0, []), (0, 0, 0, 22, []), (11, 480, 0, 24, []), (999, 0, 0, 0, []), (48, 8650752, 1, 26, [0]), (999, 0, 0, 0, []), (52, 161611797, 195, 29, [27]), (999, 0, 0, 0, []), (999, 0, 0, 0, []), (0, 0, 0, 30, []), (51, 4118088, 160759832, 32, []), (999, 0, 0, 0, [])], [(48, 8650752, 1, 34, [0]), (999, 0, 0, 0, []), (52, 161677337, 196, 37, [27]), (999, 0, 0, 0, []), (999, 0, 0, 0, []), (0, 0, 0, 38, []), (12, 96480, 0, 41, []), (999, 0, 0, 0, []), (999, 0, 0, 0, []), (48, 172621824, 4, 43, [1]), (999, 0, 0, 0, []), (52, 161742876, 197, 46, [27]), (999, 0, 0, 0, []), (999, 0, 0, 0, []), (0, 0, 0, 47, []), (12, 1600, 0, 50, [])], [(999, 0, 0, 0, []), (999, 0, 0, 0, []), (48, 8650752, 1, 52, [0]), (999, 0, 0, 0, []), (52, 161808415, 198, 55, [27]), (999, 0, 0, 0, []), (999, 0, 0, 0, []), (0, 0, 0, 56, []), (12, 1664, 0, 59, []), (999, 0, 0, 0, []), (999, 0, 0, 0, []), (48, 8650752, 1, 61, [0]), (999, 0, 0, 0, []), (52, 161939490, 200, 64, [27]), (999, 0, 0, 0, []), (999, 0, 0, 0, [])], [(0, 0, 0, 65, []), (12, 53248, 0, 68, []), (999, 0, 0, 0, []), (999, 0, 0, 0, []), (48, 8585216, 2, 70, [0]), (999, 0, 0, 0, []), (52, 162005029, 201, 73, [27]), (999, 0, 0, 0, []), (999, 0, 0, 0, []), (0, 0, 0, 74, []), (11, 320, 0, 76, []), (999, 0, 0, 0, []), (48, 26214400, 3, 78, [0]), (999, 0, 0, 0, []), (52, 162070569, 202, 81, [27]), (999, 0, 0, 0, [])], [(999, 0, 0, 0, []), (0, 0, 0, 82, []), (3, 8, 0, 83, []), (15, 162201645, 12, 86, [27]), (999, 0, 0, 0, []), (999, 0, 0, 0, []), (0, 0, 0, 87, []), (3, 8, 0, 88, []), (15, 162267184, 13, 91, [27]), (999, 0, 0, 0, []), (999, 0, 0, 0, []), (0, 0, 0, 92, []), (3, 8, 0, 93, []), (15, 162332723, 14, 96, [27]), (999, 0, 0, 0, []), (999, 0, 0, 0, [])], [(0, 0, 0, 97, []), (12, 2048, 0, 100, []), (999, 0, 0, 0, []), (999, 0, 0, 0, []), (48, 8585216, 2, 102, [0]), (999, 0, 0, 0, []), (52, 162463798, 208, 105, [27]), (999, 0, 0, 0, []), (999, 0, 0, 0, []), (0, 0, 0, 106, []), (3, 8, 0, 107, []), (15, 162594873, 18, 110, [27]), (999, 0, 0, 0, []), (999, 0, 0, 0, []), (0, 0, 0, 111, []), (3, 16, 0, 112, [])], [(48, 8650752, 1, 114, [0]), (999, 0, 0, 0, []), (26, 0, 0, 115, []), (3, 0, 0, 116, []), (11, 320, 0, 118, []), (999, 0, 0, 0, []), (16, 1, 0, 119, []), (26, 0, 0, 120, []), (3, 8, 0, 121, []), (12, 1120, 0, 124, []), (999, 0, 0, 0, []), (999, 0, 0, 0, []), (16, 1, 0, 125, []), (52, 162660412, 211, 128, [27]), (999, 0, 0, 0, []), (999, 0, 0, 0, [])], [(0, 0, 0, 129, []), (3, 16, 0, 130, []), (48, 8650752, 1, 132, [0]), (999, 0, 0, 0, []), (26, 0, 0, 133, []), (3, 0, 0, 134, []), (11, 240, 0, 136, []), (999, 0, 0, 0, []), (16, 1, 0, 137, []), (26, 0, 0, 138, []), (3, 8, 0, 139, []), (11, 800, 0, 141, []), (999, 0, 0, 0, []), (16, 1, 0, 142, []), (52, 162725951, 212, 145, [27]), (999, 0, 0, 0, [])], [(999, 0, 0, 0, []), (0, 0, 0, 146, []), (51, 288000, 160825410, 148, []), (999, 0, 0, 0, []), (48, 8585216, 2, 150, [0]), (999, 0, 0, 0, []), (52, 162791491, 213, 153, [27]), (999, 0, 0, 0, []), (999, 0, 0, 0, []), (0, 0, 0, 154, []), (11, 48, 0, 156, []), (999, 0, 0, 0, []), (48, 8650752, 1, 158, [0]), (999, 0, 0, 0, []), (52, 162857030, 214, 161, [27]), (999, 0, 0, 0, [])], [(999, 0, 0, 0, []), (0, 0, 0, 162, []), (11, 48, 0, 164, []), (999, 0, 0, 0, []), (48, 8650752, 1, 166, [0]), (999, 0, 0, 0, []), (52, 162922569, 215, 169, [27]), (999, 0, 0, 0, []), (999, 0, 0, 0, []), (0, 0, 0, 170, []), (12, 115200, 0, 173, []), (999, 0, 0, 0, []), (999, 0, 0, 0, []), (48, 8650752, 1, 175, [0]), (999, 0, 0, 0, []), (52, 162988108, 216, 178, [27])], [(999, 0, 0, 0, []), (999, 0, 0, 0, []), (0, 0, 0, 179, []), (11, 48, 0, 181, []), (999, 0, 0, 0, []), (48, 8650752, 1, 183, [0]), (999, 0, 0, 0, []), (52, 163053647, 217, 186, [27]), (999, 0, 0, 0, []), (999, 0, 0, 0, []), (0, 0, 0, 187, []), (11, 48, 0, 189, []), (999, 0, 0, 0, []), (48, 26214400, 3, 191, [0]), (999, 0, 0, 0, []), (52, 163119186, 218, 194, [27])], [(999, 0, 0, 0, []), (999, 0, 0, 0, []), (0, 0, 0, 195, []), (12, 14400, 0, 198, []), (999, 0, 0, 0, []), (999, 0, 0, 0, []), (48, 8650752, 1, 200, [0]), (999, 0, 0, 0, []), (52, 163184725, 219, 203, [27]), (999, 0, 0, 0, []), (999, 0, 0, 0, []), (0, 0, 0, 204, []), (12, 14400, 0, 207, []), (999, 0, 0, 0, []), (999, 0, 0, 0, []), (48, 8650752, 1, 209, [0])], [(999, 0, 0, 0, []), (52, 163250264, 220, 212, [27]), (999, 0, 0, 0, []), (999, 0, 0, 0, []), (0, 0, 0, 213, []), (3, 16, 0, 214, []), (48, 8650752, 1, 216, [0]), (999, 0, 0, 0, []), (26, 0, 0, 217, []), (3, 0, 0, 218, []), (11, 34359738352, 0, 220, []), (999, 0, 0, 0, []), (16, 1, 0, 221, []), (26, 0, 0, 222, []), (3, 8, 0, 223, []), (11, 34359738352, 0, 225, [])], [(999, 0, 0, 0, []), (16, 1, 0, 226, []), (52, 163381339, 222, 229, [27]), (999, 0, 0, 0, []), (999, 0, 0, 0, []), (0, 0, 0, 230, []), (3, 16, 0, 231, []), (48, 8650752, 1, 233, [0]), (999, 0, 0, 0, []), (52, 163446878, 223, 236, [27]), (999, 0, 0, 0, []), (999, 0, 0, 0, []), (0, 0, 0, 237, []), (3, 16, 0, 238, []), (48, 8650752, 1, 240, [0]), (999, 0, 0, 0, [])], [(52, 163512417, 224, 243, [27]), (999, 0, 0, 0, []), (999, 0, 0, 0, []), (0, 0, 0, 244, []), (3, 16, 0, 245, []), (48, 8650752, 1, 247, [0]), (999, 0, 0, 0, []), (52, 163577956, 225, 250, [27]), (999, 0, 0, 0, []), (999, 0, 0, 0, []), (0, 0, 0, 251, []), (3, 16, 0, 252, []), (48, 8650752, 1, 254, [0]), (999, 0, 0, 0, []), (52, 163643495, 226, 257, [27]), (999, 0, 0, 0, [])], [(999, 0, 0, 0, []), (0, 0, 0, 258, []), (11, 480, 0, 260, []), (999, 0, 0, 0, []), (48, 8650752, 1, 262, [0]), (999, 0, 0, 0, []), (52, 163709034, 227, 265, [27]), (999, 0, 0, 0, []), (999, 0, 0, 0, []), (0, 0, 0, 266, []), (11, 160, 0, 268, []), (999, 0, 0, 0, []), (48, 8650752, 1, 270, [0]), (999, 0, 0, 0, []), (52, 163840109, 229, 273, [27]), (999, 0, 0, 0, [])], [(999, 0, 0, 0, []), (0, 0, 0, 274, []), (11, 34359738352, 0, 276, []), (999, 0, 0, 0, []), (15, 163971184, 39, 279, [27]), (999, 0, 0, 0, []), (999, 0, 0, 0, []), (0, 0, 0, 280, []), (12, 9600, 0, 283, []), (999, 0, 0, 0, []), (999, 0, 0, 0, []), (48, 8585216, 2, 285, [0]), (999, 0, 0, 0, []), (52, 164298867, 236, 288, [27]), (999, 0, 0, 0, []), (999, 0, 0, 0, [])], [(0, 0, 0, 289, []), (12, 9600, 0, 292, []), (999, 0, 0, 0, []), (999, 0, 0, 0, []), (48, 8585216, 2, 294, [0]), (999, 0, 0, 0, []), (52, 164692086, 242, 297, [27]), (999, 0, 0, 0, []), (999, 0, 0, 0, []), (0, 0, 0, 298, []), (3, 16, 0, 299, []), (48, 26214400, 3, 301, [0]), (999, 0, 0, 0, []), (52, 165019769, 248, 304, [27]), (999, 0, 0, 0, []), (999, 0, 0, 0, [])], [(0, 0, 0, 305, []), (3, 0, 0, 306, []), (15, 161415169, 0, 309, [27]), (999, 0, 0, 0, []), (999, 0, 0, 0, []), (0, 0, 0, 310, []), (70, 160891004, 104, 313, [1, 27]), (999, 0, 0, 0, []), (999, 0, 0, 0, []), (67, 0, 0, 314, [])]]
def ztb_144 : zxTB := [[(0, 0, 0, 1, []), (3, 0, 0, 2, []), (15, 161415169, 0, 5, [27]), (999, 0, 0, 0, []), (999, 0, 0, 0, []), (0, 0, 0, 6, []), (2, 162398376, 15, 9, [27]), (999, 0, 0, 0, []), (999, 0, 0, 0, []), (7, 17, 2, 12, []), (999, 0, 0, 0, []), (999, 0, 0, 0, []), (999, 0, 0, 0, []), (999, 0, 0, 0, []), (999, 0, 0, 0, []), (999, 0, 0, 0, [])], [(999, 0, 0, 0, []), (0, 0, 0, 18, []), (70, 185794693, 89, 21, [1, 27]), (999, 0, 0, 0, []), (999, 0, 0, 0, []), (64, 0, 0, 22, [])]]
def ztb_145 : zxTB := [[(0, 0, 0, 1, []), (3, 0, 0, 2, []), (15, 161415169, 0, 5, [27]), (999, 0, 0, 0, []), (999, 0, 0, 0, []), (0, 0, 0, 6, []), (2, 162398376, 15, 9, [27]), (999, 0, 0, 0, []), (999, 0, 0, 0, []), (7, 15, 2, 12, []), (999, 0, 0, 0, []), (999, 0, 0, 0, []), (999, 0, 0, 0, []), (999, 0, 0, 0, []), (999, 0, 0, 0, []), (0, 0, 0, 16, [])], [(70, 209715476, 146, 19, [1, 27]), (999, 0, 0, 0, []), (999, 0, 0, 0, []), (13, 1, 2, 20, []), (0, 0, 0, 21, []), (70, 160891004, 104, 24, [1, 27]), (999, 0, 0, 0, []), (999, 0, 0, 0, []), (0, 0, 0, 25, []), (70, 198705425, 94, 28, [1, 27]), (999, 0, 0, 0, []), (999, 0, 0, 0, []), (0, 0, 0, 29, []), (3, 8, 0, 30, []), (15, 162398376, 79, 33, [27]), (999, 0, 0, 0, [])], [(999, 0, 0, 0, []), (1, 1, 0, 34, []), (64, 0, 0, 35, [])]]
def ztb_146 : zxTB := [[(3, 0, 0, 1, []), (13, 1, 3, 2, []), (3, 8, 0, 3, []), (13, 2, 3, 4, []), (1, 2, 0, 5, []), (11, 480, 0, 7, []), (999, 0, 0, 0, []), (6, 34, 6, 10, []), (999, 0, 0, 0, []), (999, 0, 0, 0, []), (1, 1, 0, 11, []), (0, 0, 0, 12, []), (1, 2, 0, 13, []), (3, 0, 0, 14, []), (70, 183959695, 0, 17, [3, 27]), (999, 0, 0, 0, [])], [(999, 0, 0, 0, []), (3, 16, 0, 18, []), (6, 25, 5, 21, []), (999, 0, 0, 0, []), (999, 0, 0, 0, []), (999, 0, 0, 0, []), (999, 0, 0, 0, []), (999, 0, 0, 0, []), (999, 0, 0, 0, []), (3, 0, 0, 26, []), (5, 0, 0, 27, []), (13, 1, 3, 28, []), (10, 2, 3, 31, [1]), (999, 0, 0, 0, []), (999, 0, 0, 0, []), (9, 4, 0, 34, [])], [(999, 0, 0, 0, []), (999, 0, 0, 0, []), (1, 1, 0, 35, []), (64, 0, 0, 36, [])]]
def ztb_147 : zxTB := [[(0, 0, 0, 1, []), (3, 0, 0, 2, []), (15, 161415169, 0, 5, [27]), (999, 0, 0, 0, []), (999, 0, 0, 0, []), (0, 0, 0, 6, []), (2, 162398376, 15, 9, [27]), (999, 0, 0, 0, []), (999, 0, 0, 0, []), (7, 15, 5, 12, []), (999, 0, 0, 0, []), (999, 0, 0, 0, []), (11, 34359738320, 0, 14, []), (999, 0, 0, 0, []), (64, 0, 0, 15, [])]]
def ztb_148 : zxTB := [[(3, 0, 0, 1, []), (13, 1, 3, 2, []), (3, 0, 0, 3, []), (13, 2, 3, 4, []), (1, 2, 0, 5, []), (12, 1664, 0, 8, []), (999, 0, 0, 0, []), (999, 0, 0, 0, []), (6, 35, 6, 11, []), (999, 0, 0, 0, []), (999, 0, 0, 0, []), (1, 1, 0, 12, []), (0, 0, 0, 13, []), (2, 161939490, 8, 16, [27]), (999, 0, 0, 0, []), (999, 0, 0, 0, [])], [(1, 2, 0, 17, []), (8, 1, 0, 18, []), (3, 16, 0, 19, []), (6, 26, 5, 22, []), (999, 0, 0, 0, []), (999, 0, 0, 0, []), (999, 0, 0, 0, []), (999, 0, 0, 0, []), (999, 0, 0, 0, []), (999, 0, 0, 0, []), (3, 0, 0, 27, []), (5, 0, 0, 28, []), (13, 1, 3, 29, []), (10, 2, 3, 32, [1]), (999, 0, 0, 0, []), (999, 0, 0, 0, [])], [(9, 4, 0, 35, []), (999, 0, 0, 0, []), (999, 0, 0, 0, []), (1, 1, 0, 36, []), (64, 0, 0, 37, [])]]
def ztb_149 : zxTB := [[(3, 0, 0, 1, []), (13, 1, 3, 2, []), (3, 0, 0, 3, []), (13, 2, 3, 4, []), (1, 2, 0, 5, []), (11, 480, 0, 7, []), (999, 0, 0, 0, []), (6, 33, 6, 10, []), (999, 0, 0, 0, []), (999, 0, 0, 0, []), (1, 1, 0, 11, []), (0, 0, 0, 12, []), (1, 2, 0, 13, []), (3, 0, 0, 14, []), (70, 183959695, 0, 17, [3, 27]), (999, 0, 0, 0, [])], [(999, 0, 0, 0, []), (7, 24, 2, 20, []), (999, 0, 0, 0, []), (999, 0, 0, 0, []), (3, 8, 0, 21, []), (9, 25, 0, 24, []), (999, 0, 0, 0, []), (999, 0, 0, 0, []), (3, 0, 0, 25, []), (5, 0, 0, 26, []), (13, 1, 3, 27, []), (10, 2, 3, 30, [1]), (999, 0, 0, 0, []), (999, 0, 0, 0, []), (9, 4, 0, 33, []), (999, 0, 0, 0, [])], [(999, 0, 0, 0, []), (1, 1, 0, 34, []), (64, 0, 0, 35, [])]]
def ztb_law : zxTB := [[(47, 281552287236103, 10, 3, [2, 2, 2, 2, 2, 2, 2, 2, 2, 0, 0]), (999, 0, 0, 0, []), (999, 0, 0, 0, []), (26, 0, 0, 4, []), (71, 1245193, 106, 7, [1]), (999, 0, 0, 0, []), (999, 0, 0, 0, []), (30, 1, 4, 8, []), (47, 3951163914256394, 11, 11, [0, 2, 2, 2, 2, 2, 2, 0, 2, 2, 2, 0, 0, 0, 0, 0, 2, 0, 0, 2, 2, 2, 2, 2, 2, 2, 2, 2, 2, 0, 2, 2, 2, 2, 2, 2, 0, 2, 0, 0, 0, 0, 0, 0, 2, 0, 0, 0, 0, 0, 2, 0, 0, 0, 0, 0, 2]), (999, 0, 0, 0, []), (999, 0, 0, 0, []), (26, 0, 0, 12, []), (71, 160497676, 143, 15, [1]), (999, 0, 0, 0, []), (999, 0, 0, 0, []), (30, 2, 4, 16, [])], [(3, 0, 0, 17, []), (13, 3, 4, 18, []), (1, 3, 0, 19, []), (0, 0, 0, 20, []), (79, 0, 0, 21, []), (3, 40, 0, 22, []), (19, 0, 0, 23, []), (6, 1157, 4, 26, []), (999, 0, 0, 0, []), (999, 0, 0, 0, []), (0, 0, 0, 27, []), (1, 3, 0, 28, []), (78, 0, 0, 29, []), (11, 248, 0, 31, []), (999, 0, 0, 0, []), (45, 0, 0, 32, [])], [(46, 1151, 2147483648, 160, [160, 249, 312, 335, 408, 471, 504, 537, 570, 603, 636, 660, 693, 736, 779, 802, 815, 838, 851, 864, 887, 910, 943, 966, 999, 1032, 1075, 1118]), (999, 0, 0, 0, []), (999, 0, 0, 0, []), (999, 0, 0, 0, []), (999, 0, 0, 0, []), (999, 0, 0, 0, []), (999, 0, 0, 0, []), (999, 0, 0, 0, []), (999, 0, 0, 0, []), (999, 0, 0, 0, []), (999, 0, 0, 0, []), (999, 0, 0, 0, []), (999, 0, 0, 0, []), (999, 0, 0, 0, []), (999, 0, 0, 0, []), (999, 0, 0, 0, [])], [(999, 0, 0, 0, []), (999, 0, 0, 0, []), (999, 0, 0, 0, []), (999, 0, 0, 0, []), (999, 0, 0, 0, []), (999, 0, 0, 0, []), (999, 0, 0, 0, []), (999, 0, 0, 0, []), (999, 0, 0, 0, []), (999, 0, 0, 0, []), (999, 0, 0, 0, []), (999, 0, 0, 0, []), (999, 0, 0, 0, []), (999, 0, 0, 0, []), (999, 0, 0, 0, []), (999, 0, 0, 0, [])], [(999, 0, 0, 0, []), (999, 0, 0, 0, []), (999, 0, 0, 0, []), (999, 0, 0, 0, []), (999, 0, 0, 0, []), (999, 0, 0, 0, []), (999, 0, 0, 0, []), (999, 0, 0, 0, []), (999, 0, 0, 0, []), (999, 0, 0, 0, []), (999, 0, 0, 0, []), (999, 0, 0, 0, []), (999, 0, 0, 0, []), (999, 0, 0, 0, []), (999, 0, 0, 0, []), (999, 0, 0, 0, [])], [(999, 0, 0, 0, []), (999, 0, 0, 0, []), (999, 0, 0, 0, []), (999, 0, 0, 0, []), (999, 0, 0, 0, []), (999, 0, 0, 0, []), (999, 0, 0, 0, []), (999, 0, 0, 0, []), (999, 0, 0, 0, []), (999, 0, 0, 0, []), (999, 0, 0, 0, []), (999, 0, 0, 0, []), (999, 0, 0, 0, []), (999, 0, 0, 0, []), (999, 0, 0, 0, []), (999, 0, 0, 0, [])], [(999, 0, 0, 0, []), (999, 0, 0, 0, []), (999, 0, 0, 0, []), (999, 0, 0, 0, []), (999, 0, 0, 0, []), (999, 0, 0, 0, []), (999, 0, 0, 0, []), (999, 0, 0, 0, []), (999, 0, 0, 0, []), (999, 0, 0, 0, []), (999, 0, 0, 0, []), (999, 0, 0, 0, []), (999, 0, 0, 0, []), (999, 0, 0, 0, []), (999, 0, 0, 0, []), (999, 0, 0, 0, [])], [(999, 0, 0, 0, []), (999, 0, 0, 0, []), (999, 0, 0, 0, []), (999, 0, 0, 0, []), (999, 0, 0, 0, []), (999, 0, 0, 0, []), (999, 0, 0, 0, []), (999, 0, 0, 0, []), (999, 0, 0, 0, []), (999, 0, 0, 0, []), (999, 0, 0, 0, []), (999, 0, 0, 0, []), (999, 0, 0, 0, []), (999, 0, 0, 0, []), (999, 0, 0, 0, []), (999, 0, 0, 0, [])], [(999, 0, 0, 0, []), (999, 0, 0, 0, []), (999, 0, 0, 0, []), (999, 0, 0, 0, []), (999, 0, 0, 0, []), (999, 0, 0, 0, []), (999, 0, 0, 0, []), (999, 0, 0, 0, []), (999, 0, 0, 0, []), (999, 0, 0, 0, []), (999, 0, 0, 0, []), (999, 0, 0, 0, []), (999, 0, 0, 0, []), (999, 0, 0, 0, []), (999, 0, 0, 0, []), (999, 0, 0, 0, [])], [(999, 0, 0, 0, []), (999, 0, 0, 0, []), (999, 0, 0, 0, []), (999, 0, 0, 0, []), (999, 0, 0, 0, []), (999, 0, 0, 0, []), (999, 0, 0, 0, []), (999, 0, 0, 0, []), (999, 0, 0, 0, []), (999, 0, 0, 0, []), (999, 0, 0, 0, []), (999, 0, 0, 0, []), (999, 0, 0, 0, []), (999, 0, 0, 0, []), (999, 0, 0, 0, []), (999, 0, 0, 0, [])], [(0, 1, 0, 161, []), (0, 0, 0, 162, []), (1, 3, 0, 163, []), (3, 8, 0, 164, []), (5, 0, 0, 165, []), (78, 0, 0, 166, []), (0, 0, 0, 167, []), (1, 3, 0, 168, []), (3, 16, 0, 169, []), (5, 0, 0, 170, []), (78, 0, 0, 171, []), (20, 0, 0, 172, []), (11, 256, 0, 174, []), (999, 0, 0, 0, []), (41, 0, 0, 175, []), (0, 0, 0, 176, [])], [(1, 3, 0, 177, []), (3, 24, 0, 178, []), (5, 0, 0, 179, []), (78, 0, 0, 180, []), (20, 0, 0, 181, []), (24, 34359738361, 224919565, 184, []), (999, 0, 0, 0, []), (999, 0, 0, 0, []), (43, 0, 0, 185, []), (44, 0, 0, 186, []), (0, 0, 0, 187, []), (1, 3, 0, 188, []), (3, 32, 0, 189, []), (5, 0, 0, 190, []), (78, 0, 0, 191, []), (7, 198, 2, 194, [])], [(999, 0, 0, 0, []), (999, 0, 0, 0, []), (3, 8, 0, 195, []), (9, 199, 0, 198, []), (999, 0, 0, 0, []), (999, 0, 0, 0, []), (3, 0, 0, 199, []), (70, 59375631, 63, 202, [4, 26]), (999, 0, 0, 0, []), (999, 0, 0, 0, []), (0, 2, 0, 203, []), (0, 0, 0, 204, []), (1, 3, 0, 205, []), (3, 8, 0, 206, []), (5, 0, 0, 207, []), (78, 0, 0, 208, [])], [(0, 0, 0, 209, []), (1, 3, 0, 210, []), (3, 16, 0, 211, []), (5, 0, 0, 212, []), (78, 0, 0, 213, []), (20, 0, 0, 214, []), (11, 256, 0, 216, []), (999, 0, 0, 0, []), (41, 0, 0, 217, []), (0, 0, 0, 218, []), (1, 3, 0, 219, []), (3, 24, 0, 220, []), (5, 0, 0, 221, []), (78, 0, 0, 222, []), (20, 0, 0, 223, []), (24, 34359738361, 224919565, 226, [])], [(999, 0, 0, 0, []), (999, 0, 0, 0, []), (43, 0, 0, 227, []), (44, 0, 0, 228, []), (0, 0, 0, 229, []), (1, 3, 0, 230, []), (3, 32, 0, 231, []), (5, 0, 0, 232, []), (78, 0, 0, 233, []), (7, 240, 2, 236, []), (999, 0, 0, 0, []), (999, 0, 0, 0, []), (3, 8, 0, 237, []), (9, 241, 0, 240, []), (999, 0, 0, 0, []), (999, 0, 0, 0, [])], [(3, 0, 0, 241, []), (70, 172687379, 7, 244, [4, 27]), (999, 0, 0, 0, []), (999, 0, 0, 0, []), (6, 1151, 2, 247, []), (999, 0, 0, 0, []), (999, 0, 0, 0, []), (999, 0, 0, 0, []), (999, 0, 0, 0, []), (0, 1, 0, 250, []), (0, 0, 0, 251, []), (1, 3, 0, 252, []), (3, 8, 0, 253, []), (5, 0, 0, 254, []), (78, 0, 0, 255, []), (0, 0, 0, 256, [])], [(1, 3, 0, 257, []), (3, 16, 0, 258, []), (5, 0, 0, 259, []), (78, 0, 0, 260, []), (20, 0, 0, 261, []), (11, 256, 0, 263, []), (999, 0, 0, 0, []), (41, 0, 0, 264, []), (0, 0, 0, 265, []), (1, 3, 0, 266, []), (3, 24, 0, 267, []), (5, 0, 0, 268, []), (78, 0, 0, 269, []), (20, 0, 0, 270, []), (24, 34359738361, 224919565, 273, []), (999, 0, 0, 0, [])], [(999, 0, 0, 0, []), (43, 0, 0, 274, []), (44, 0, 0, 275, []), (70, 64094228, 115, 278, [3, 26]), (999, 0, 0, 0, []), (999, 0, 0, 0, []), (0, 2, 0, 279, []), (0, 0, 0, 280, []), (1, 3, 0, 281, []), (3, 8, 0, 282, []), (5, 0, 0, 283, []), (78, 0, 0, 284, []), (0, 0, 0, 285, []), (1, 3, 0, 286, []), (3, 16, 0, 287, []), (5, 0, 0, 288, [])], [(78, 0, 0, 289, []), (20, 0, 0, 290, []), (11, 256, 0, 292, []), (999, 0, 0, 0, []), (41, 0, 0, 293, []), (0, 0, 0, 294, []), (1, 3, 0, 295, []), (3, 24, 0, 296, []), (5, 0, 0, 297, []), (78, 0, 0, 298, []), (20, 0, 0, 299, []), (24, 34359738361, 224919565, 302, []), (999, 0, 0, 0, []), (999, 0, 0, 0, []), (43, 0, 0, 303, []), (44, 0, 0, 304, [])], [(70, 187105304, 11, 307, [3, 27]), (999, 0, 0, 0, []), (999, 0, 0, 0, []), (6, 1151, 2, 310, []), (999, 0, 0, 0, []), (999, 0, 0, 0, []), (999, 0, 0, 0, []), (999, 0, 0, 0, []), (0, 1, 0, 313, []), (0, 0, 0, 314, []), (1, 3, 0, 315, []), (3, 8, 0, 316, []), (5, 0, 0, 317, []), (78, 0, 0, 318, []), (70, 64356377, 116, 321, [2, 26]), (999, 0, 0, 0, [])], [(999, 0, 0, 0, []), (0, 2, 0, 322, []), (0, 0, 0, 323, []), (1, 3, 0, 324, []), (3, 8, 0, 325, []), (5, 0, 0, 326, []), (78, 0, 0, 327, []), (70, 187367453, 12, 330, [2, 27]), (999, 0, 0, 0, []), (999, 0, 0, 0, []), (6, 1151, 2, 333, []), (999, 0, 0, 0, []), (999, 0, 0, 0, []), (999, 0, 0, 0, []), (999, 0, 0, 0, []), (0, 1, 0, 336, [])], [(0, 0, 0, 337, []), (1, 3, 0, 338, []), (3, 8, 0, 339, []), (5, 0, 0, 340, []), (78, 0, 0, 341, []), (0, 0, 0, 342, []), (1, 3, 0, 343, []), (3, 16, 0, 344, []), (5, 0, 0, 345, []), (78, 0, 0, 346, []), (0, 0, 0, 347, []), (1, 3, 0, 348, []), (3, 24, 0, 349, []), (5, 0, 0, 350, []), (78, 0, 0, 351, []), (20, 0, 0, 352, [])], [(11, 256, 0, 354, []), (999, 0, 0, 0, []), (41, 0, 0, 355, []), (0, 0, 0, 356, []), (1, 3, 0, 357, []), (3, 32, 0, 358, []), (5, 0, 0, 359, []), (78, 0, 0, 360, []), (20, 0, 0, 361, []), (24, 34359738361, 224919565, 364, []), (999, 0, 0, 0, []), (999, 0, 0, 0, []), (43, 0, 0, 365, []), (44, 0, 0, 366, []), (70, 82444318, 117, 369, [4, 26]), (999, 0, 0, 0, [])], [(999, 0, 0, 0, []), (0, 2, 0, 370, []), (0, 0, 0, 371, []), (1, 3, 0, 372, []), (3, 8, 0, 373, []), (5, 0, 0, 374, []), (78, 0, 0, 375, []), (0, 0, 0, 376, []), (1, 3, 0, 377, []), (3, 16, 0, 378, []), (5, 0, 0, 379, []), (78, 0, 0, 380, []), (0, 0, 0, 381, []), (1, 3, 0, 382, []), (3, 24, 0, 383, []), (5, 0, 0, 384, [])], [(78, 0, 0, 385, []), (20, 0, 0, 386, []), (11, 256, 0, 388, []), (999, 0, 0, 0, []), (41, 0, 0, 389, []), (0, 0, 0, 390, []), (1, 3, 0, 391, []), (3, 32, 0, 392, []), (5, 0, 0, 393, []), (78, 0, 0, 394, []), (20, 0, 0, 395, []), (24, 34359738361, 224919565, 398, []), (999, 0, 0, 0, []), (999, 0, 0, 0, []), (43, 0, 0, 399, []), (44, 0, 0, 400, [])], [(70, 192151586, 13, 403, [4, 27]), (999, 0, 0, 0, []), (999, 0, 0, 0, []), (6, 1151, 2, 406, []), (999, 0, 0, 0, []), (999, 0, 0, 0, []), (999, 0, 0, 0, []), (999, 0, 0, 0, []), (0, 1, 0, 409, []), (0, 0, 0, 410, []), (1, 3, 0, 411, []), (3, 8, 0, 412, []), (5, 0, 0, 413, []), (78, 0, 0, 414, []), (0, 0, 0, 415, []), (1, 3, 0, 416, [])], [(3, 16, 0, 417, []), (5, 0, 0, 418, []), (78, 0, 0, 419, []), (20, 0, 0, 420, []), (11, 256, 0, 422, []), (999, 0, 0, 0, []), (41, 0, 0, 423, []), (0, 0, 0, 424, []), (1, 3, 0, 425, []), (3, 24, 0, 426, []), (5, 0, 0, 427, []), (78, 0, 0, 428, []), (20, 0, 0, 429, []), (24, 34359738361, 224919565, 432, []), (999, 0, 0, 0, []), (999, 0, 0, 0, [])], [(43, 0, 0, 433, []), (44, 0, 0, 434, []), (70, 83689507, 118, 437, [3, 26]), (999, 0, 0, 0, []), (999, 0, 0, 0, []), (0, 2, 0, 438, []), (0, 0, 0, 439, []), (1, 3, 0, 440, []), (3, 8, 0, 441, []), (5, 0, 0, 442, []), (78, 0, 0, 443, []), (0, 0, 0, 444, []), (1, 3, 0, 445, []), (3, 16, 0, 446, []), (5, 0, 0, 447, []), (78, 0, 0, 448, [])], [(20, 0, 0, 449, []), (11, 256, 0, 451, []), (999, 0, 0, 0, []), (41, 0, 0, 452, []), (0, 0, 0, 453, []), (1, 3, 0, 454, []), (3, 24, 0, 455, []), (5, 0, 0, 456, []), (78, 0, 0, 457, []), (20, 0, 0, 458, []), (24, 34359738361, 224919565, 461, []), (999, 0, 0, 0, []), (999, 0, 0, 0, []), (43, 0, 0, 462, []), (44, 0, 0, 463, []), (70, 192675878, 32, 466, [3, 27])], [(999, 0, 0, 0, []), (999, 0, 0, 0, []), (6, 1151, 2, 469, []), (999, 0, 0, 0, []), (999, 0, 0, 0, []), (999, 0, 0, 0, []), (999, 0, 0, 0, []), (0, 1, 0, 472, []), (0, 0, 0, 473, []), (1, 3, 0, 474, []), (3, 8, 0, 475, []), (5, 0, 0, 476, []), (78, 0, 0, 477, []), (0, 0, 0, 478, []), (1, 3, 0, 479, []), (3, 16, 0, 480, [])], [(5, 0, 0, 481, []), (78, 0, 0, 482, []), (70, 83951655, 119, 485, [3, 26]), (999, 0, 0, 0, []), (999, 0, 0, 0, []), (0, 2, 0, 486, []), (0, 0, 0, 487, []), (1, 3, 0, 488, []), (3, 8, 0, 489, []), (5, 0, 0, 490, []), (78, 0, 0, 491, []), (0, 0, 0, 492, []), (1, 3, 0, 493, []), (3, 16, 0, 494, []), (5, 0, 0, 495, []), (78, 0, 0, 496, [])], [(70, 193003563, 50, 499, [3, 27]), (999, 0, 0, 0, []), (999, 0, 0, 0, []), (6, 1151, 2, 502, []), (999, 0, 0, 0, []), (999, 0, 0, 0, []), (999, 0, 0, 0, []), (999, 0, 0, 0, []), (0, 1, 0, 505, []), (0, 0, 0, 506, []), (1, 3, 0, 507, []), (3, 8, 0, 508, []), (5, 0, 0, 509, []), (78, 0, 0, 510, []), (0, 0, 0, 511, []), (1, 3, 0, 512, [])], [(3, 16, 0, 513, []), (5, 0, 0, 514, []), (78, 0, 0, 515, []), (70, 84213804, 120, 518, [3, 26]), (999, 0, 0, 0, []), (999, 0, 0, 0, []), (0, 2, 0, 519, []), (0, 0, 0, 520, []), (1, 3, 0, 521, []), (3, 8, 0, 522, []), (5, 0, 0, 523, []), (78, 0, 0, 524, []), (0, 0, 0, 525, []), (1, 3, 0, 526, []), (3, 16, 0, 527, []), (5, 0, 0, 528, [])], [(78, 0, 0, 529, []), (70, 193331247, 14, 532, [3, 27]), (999, 0, 0, 0, []), (999, 0, 0, 0, []), (6, 1151, 2, 535, []), (999, 0, 0, 0, []), (999, 0, 0, 0, []), (999, 0, 0, 0, []), (999, 0, 0, 0, []), (0, 1, 0, 538, []), (0, 0, 0, 539, []), (1, 3, 0, 540, []), (3, 8, 0, 541, []), (5, 0, 0, 542, []), (78, 0, 0, 543, []), (0, 0, 0, 544, [])], [(1, 3, 0, 545, []), (3, 16, 0, 546, []), (5, 0, 0, 547, []), (78, 0, 0, 548, []), (70, 88211504, 121, 551, [3, 26]), (999, 0, 0, 0, []), (999, 0, 0, 0, []), (0, 2, 0, 552, []), (0, 0, 0, 553, []), (1, 3, 0, 554, []), (3, 8, 0, 555, []), (5, 0, 0, 556, []), (78, 0, 0, 557, []), (0, 0, 0, 558, []), (1, 3, 0, 559, []), (3, 16, 0, 560, [])], [(5, 0, 0, 561, []), (78, 0, 0, 562, []), (70, 195428403, 15, 565, [3, 27]), (999, 0, 0, 0, []), (999, 0, 0, 0, []), (6, 1151, 2, 568, []), (999, 0, 0, 0, []), (999, 0, 0, 0, []), (999, 0, 0, 0, []), (999, 0, 0, 0, []), (0, 1, 0, 571, []), (0, 0, 0, 572, []), (1, 3, 0, 573, []), (3, 8, 0, 574, []), (5, 0, 0, 575, []), (78, 0, 0, 576, [])], [(0, 0, 0, 577, []), (1, 3, 0, 578, []), (3, 16, 0, 579, []), (5, 0, 0, 580, []), (78, 0, 0, 581, []), (70, 88997940, 122, 584, [3, 26]), (999, 0, 0, 0, []), (999, 0, 0, 0, []), (0, 2, 0, 585, []), (0, 0, 0, 586, []), (1, 3, 0, 587, []), (3, 8, 0, 588, []), (5, 0, 0, 589, []), (78, 0, 0, 590, []), (0, 0, 0, 591, []), (1, 3, 0, 592, [])], [(3, 16, 0, 593, []), (5, 0, 0, 594, []), (78, 0, 0, 595, []), (70, 195690551, 16, 598, [3, 27]), (999, 0, 0, 0, []), (999, 0, 0, 0, []), (6, 1151, 2, 601, []), (999, 0, 0, 0, []), (999, 0, 0, 0, []), (999, 0, 0, 0, []), (999, 0, 0, 0, []), (0, 1, 0, 604, []), (0, 0, 0, 605, []), (1, 3, 0, 606, []), (3, 8, 0, 607, []), (5, 0, 0, 608, [])], [(78, 0, 0, 609, []), (0, 0, 0, 610, []), (1, 3, 0, 611, []), (3, 16, 0, 612, []), (5, 0, 0, 613, []), (78, 0, 0, 614, []), (70, 89522232, 123, 617, [3, 26]), (999, 0, 0, 0, []), (999, 0, 0, 0, []), (0, 2, 0, 618, []), (0, 0, 0, 619, []), (1, 3, 0, 620, []), (3, 8, 0, 621, []), (5, 0, 0, 622, []), (78, 0, 0, 623, []), (0, 0, 0, 624, [])], [(1, 3, 0, 625, []), (3, 16, 0, 626, []), (5, 0, 0, 627, []), (78, 0, 0, 628, []), (70, 195952699, 8, 631, [3, 27]), (999, 0, 0, 0, []), (999, 0, 0, 0, []), (6, 1151, 2, 634, []), (999, 0, 0, 0, []), (999, 0, 0, 0, []), (999, 0, 0, 0, []), (999, 0, 0, 0, []), (0, 1, 0, 637, []), (0, 0, 0, 638, []), (1, 3, 0, 639, []), (3, 8, 0, 640, [])], [(5, 0, 0, 641, []), (78, 0, 0, 642, []), (70, 90570812, 124, 645, [2, 26]), (999, 0, 0, 0, []), (999, 0, 0, 0, []), (0, 2, 0, 646, []), (0, 0, 0, 647, []), (1, 3, 0, 648, []), (3, 8, 0, 649, []), (5, 0, 0, 650, []), (78, 0, 0, 651, []), (70, 196804672, 17, 654, [2, 27]), (999, 0, 0, 0, []), (999, 0, 0, 0, []), (21, 0, 0, 655, []), (7, 1151, 2, 658, [])], [(999, 0, 0, 0, []), (999, 0, 0, 0, []), (999, 0, 0, 0, []), (999, 0, 0, 0, []), (0, 1, 0, 661, []), (0, 0, 0, 662, []), (1, 3, 0, 663, []), (3, 8, 0, 664, []), (5, 0, 0, 665, []), (78, 0, 0, 666, []), (0, 0, 0, 667, []), (1, 3, 0, 668, []), (3, 16, 0, 669, []), (5, 0, 0, 670, []), (78, 0, 0, 671, []), (70, 90832961, 125, 674, [3, 26])], [(999, 0, 0, 0, []), (999, 0, 0, 0, []), (0, 2, 0, 675, []), (0, 0, 0, 676, []), (1, 3, 0, 677, []), (3, 8, 0, 678, []), (5, 0, 0, 679, []), (78, 0, 0, 680, []), (0, 0, 0, 681, []), (1, 3, 0, 682, []), (3, 16, 0, 683, []), (5, 0, 0, 684, []), (78, 0, 0, 685, []), (70, 197066820, 18, 688, [3, 27]), (999, 0, 0, 0, []), (999, 0, 0, 0, [])], [(6, 1151, 2, 691, []), (999, 0, 0, 0, []), (999, 0, 0, 0, []), (999, 0, 0, 0, []), (999, 0, 0, 0, []), (0, 1, 0, 694, []), (0, 0, 0, 695, []), (1, 3, 0, 696, []), (3, 8, 0, 697, []), (5, 0, 0, 698, []), (78, 0, 0, 699, []), (0, 0, 0, 700, []), (1, 3, 0, 701, []), (3, 16, 0, 702, []), (5, 0, 0, 703, []), (78, 0, 0, 704, [])], [(0, 0, 0, 705, []), (1, 3, 0, 706, []), (3, 24, 0, 707, []), (5, 0, 0, 708, []), (78, 0, 0, 709, []), (70, 91160645, 126, 712, [4, 26]), (999, 0, 0, 0, []), (999, 0, 0, 0, []), (0, 2, 0, 713, []), (0, 0, 0, 714, []), (1, 3, 0, 715, []), (3, 8, 0, 716, []), (5, 0, 0, 717, []), (78, 0, 0, 718, []), (0, 0, 0, 719, []), (1, 3, 0, 720, [])], [(3, 16, 0, 721, []), (5, 0, 0, 722, []), (78, 0, 0, 723, []), (0, 0, 0, 724, []), (1, 3, 0, 725, []), (3, 24, 0, 726, []), (5, 0, 0, 727, []), (78, 0, 0, 728, []), (70, 197328969, 19, 731, [4, 27]), (999, 0, 0, 0, []), (999, 0, 0, 0, []), (6, 1151, 2, 734, []), (999, 0, 0, 0, []), (999, 0, 0, 0, []), (999, 0, 0, 0, []), (999, 0, 0, 0, [])], [(0, 1, 0, 737, []), (0, 0, 0, 738, []), (1, 3, 0, 739, []), (3, 8, 0, 740, []), (5, 0, 0, 741, []), (78, 0, 0, 742, []), (0, 0, 0, 743, []), (1, 3, 0, 744, []), (3, 16, 0, 745, []), (5, 0, 0, 746, []), (78, 0, 0, 747, []), (0, 0, 0, 748, []), (1, 3, 0, 749, []), (3, 24, 0, 750, []), (5, 0, 0, 751, []), (78, 0, 0, 752, [])], [(70, 91422794, 127, 755, [4, 26]), (999, 0, 0, 0, []), (999, 0, 0, 0, []), (0, 2, 0, 756, []), (0, 0, 0, 757, []), (1, 3, 0, 758, []), (3, 8, 0, 759, []), (5, 0, 0, 760, []), (78, 0, 0, 761, []), (0, 0, 0, 762, []), (1, 3, 0, 763, []), (3, 16, 0, 764, []), (5, 0, 0, 765, []), (78, 0, 0, 766, []), (0, 0, 0, 767, []), (1, 3, 0, 768, [])], [(3, 24, 0, 769, []), (5, 0, 0, 770, []), (78, 0, 0, 771, []), (70, 197591117, 24, 774, [4, 27]), (999, 0, 0, 0, []), (999, 0, 0, 0, []), (6, 1151, 2, 777, []), (999, 0, 0, 0, []), (999, 0, 0, 0, []), (999, 0, 0, 0, []), (999, 0, 0, 0, []), (0, 1, 0, 780, []), (0, 0, 0, 781, []), (1, 3, 0, 782, []), (3, 8, 0, 783, []), (5, 0, 0, 784, [])], [(78, 0, 0, 785, []), (70, 91684942, 128, 788, [2, 26]), (999, 0, 0, 0, []), (999, 0, 0, 0, []), (0, 2, 0, 789, []), (0, 0, 0, 790, []), (1, 3, 0, 791, []), (3, 8, 0, 792, []), (5, 0, 0, 793, []), (78, 0, 0, 794, []), (70, 197918801, 62, 797, [2, 27]), (999, 0, 0, 0, []), (999, 0, 0, 0, []), (6, 1151, 2, 800, []), (999, 0, 0, 0, []), (999, 0, 0, 0, [])], [(999, 0, 0, 0, []), (999, 0, 0, 0, []), (0, 1, 0, 803, []), (70, 91947090, 129, 806, [1, 26]), (999, 0, 0, 0, []), (999, 0, 0, 0, []), (0, 2, 0, 807, []), (70, 198180950, 144, 810, [1, 27]), (999, 0, 0, 0, []), (999, 0, 0, 0, []), (6, 1151, 2, 813, []), (999, 0, 0, 0, []), (999, 0, 0, 0, []), (999, 0, 0, 0, []), (999, 0, 0, 0, []), (0, 1, 0, 816, [])], [(0, 0, 0, 817, []), (1, 3, 0, 818, []), (3, 8, 0, 819, []), (5, 0, 0, 820, []), (78, 0, 0, 821, []), (70, 92274775, 130, 824, [2, 26]), (999, 0, 0, 0, []), (999, 0, 0, 0, []), (0, 2, 0, 825, []), (0, 0, 0, 826, []), (1, 3, 0, 827, []), (3, 8, 0, 828, []), (5, 0, 0, 829, []), (78, 0, 0, 830, []), (70, 198443098, 93, 833, [2, 27]), (999, 0, 0, 0, [])], [(999, 0, 0, 0, []), (6, 1151, 2, 836, []), (999, 0, 0, 0, []), (999, 0, 0, 0, []), (999, 0, 0, 0, []), (999, 0, 0, 0, []), (0, 1, 0, 839, []), (70, 106496091, 131, 842, [1, 26]), (999, 0, 0, 0, []), (999, 0, 0, 0, []), (0, 2, 0, 843, []), (70, 198967390, 145, 846, [1, 27]), (999, 0, 0, 0, []), (999, 0, 0, 0, []), (6, 1151, 2, 849, []), (999, 0, 0, 0, [])], [(999, 0, 0, 0, []), (999, 0, 0, 0, []), (999, 0, 0, 0, []), (0, 1, 0, 852, []), (70, 107610207, 134, 855, [1, 26]), (999, 0, 0, 0, []), (999, 0, 0, 0, []), (0, 2, 0, 856, []), (70, 213450850, 147, 859, [1, 27]), (999, 0, 0, 0, []), (999, 0, 0, 0, []), (6, 1151, 2, 862, []), (999, 0, 0, 0, []), (999, 0, 0, 0, []), (999, 0, 0, 0, []), (999, 0, 0, 0, [])], [(0, 1, 0, 865, []), (0, 0, 0, 866, []), (1, 3, 0, 867, []), (3, 8, 0, 868, []), (5, 0, 0, 869, []), (78, 0, 0, 870, []), (70, 114098275, 59, 873, [2, 26]), (999, 0, 0, 0, []), (999, 0, 0, 0, []), (0, 2, 0, 874, []), (0, 0, 0, 875, []), (1, 3, 0, 876, []), (3, 8, 0, 877, []), (5, 0, 0, 878, []), (78, 0, 0, 879, []), (70, 214761574, 35, 882, [2, 27])], [(999, 0, 0, 0, []), (999, 0, 0, 0, []), (6, 1151, 2, 885, []), (999, 0, 0, 0, []), (999, 0, 0, 0, []), (999, 0, 0, 0, []), (999, 0, 0, 0, []), (0, 1, 0, 888, []), (0, 0, 0, 889, []), (1, 3, 0, 890, []), (3, 8, 0, 891, []), (5, 0, 0, 892, []), (78, 0, 0, 893, []), (70, 145817703, 135, 896, [2, 26]), (999, 0, 0, 0, []), (999, 0, 0, 0, [])], [(0, 2, 0, 897, []), (0, 0, 0, 898, []), (1, 3, 0, 899, []), (3, 8, 0, 900, []), (5, 0, 0, 901, []), (78, 0, 0, 902, []), (70, 214499434, 33, 905, [2, 27]), (999, 0, 0, 0, []), (999, 0, 0, 0, []), (6, 1151, 2, 908, []), (999, 0, 0, 0, []), (999, 0, 0, 0, []), (999, 0, 0, 0, []), (999, 0, 0, 0, []), (0, 1, 0, 911, []), (0, 0, 0, 912, [])], [(1, 3, 0, 913, []), (3, 8, 0, 914, []), (5, 0, 0, 915, []), (78, 0, 0, 916, []), (0, 0, 0, 917, []), (1, 3, 0, 918, []), (3, 16, 0, 919, []), (5, 0, 0, 920, []), (78, 0, 0, 921, []), (70, 146341995, 136, 924, [3, 26]), (999, 0, 0, 0, []), (999, 0, 0, 0, []), (0, 2, 0, 925, []), (0, 0, 0, 926, []), (1, 3, 0, 927, []), (3, 8, 0, 928, [])], [(5, 0, 0, 929, []), (78, 0, 0, 930, []), (0, 0, 0, 931, []), (1, 3, 0, 932, []), (3, 16, 0, 933, []), (5, 0, 0, 934, []), (78, 0, 0, 935, []), (70, 223805550, 31, 938, [3, 27]), (999, 0, 0, 0, []), (999, 0, 0, 0, []), (6, 1151, 2, 941, []), (999, 0, 0, 0, []), (999, 0, 0, 0, []), (999, 0, 0, 0, []), (999, 0, 0, 0, []), (0, 1, 0, 944, [])], [(0, 0, 0, 945, []), (1, 3, 0, 946, []), (3, 8, 0, 947, []), (5, 0, 0, 948, []), (78, 0, 0, 949, []), (70, 146604143, 137, 952, [2, 26]), (999, 0, 0, 0, []), (999, 0, 0, 0, []), (0, 2, 0, 953, []), (0, 0, 0, 954, []), (1, 3, 0, 955, []), (3, 8, 0, 956, []), (5, 0, 0, 957, []), (78, 0, 0, 958, []), (70, 224067698, 25, 961, [2, 27]), (999, 0, 0, 0, [])], [(999, 0, 0, 0, []), (6, 1151, 2, 964, []), (999, 0, 0, 0, []), (999, 0, 0, 0, []), (999, 0, 0, 0, []), (999, 0, 0, 0, []), (0, 1, 0, 967, []), (0, 0, 0, 968, []), (1, 3, 0, 969, []), (3, 8, 0, 970, []), (5, 0, 0, 971, []), (78, 0, 0, 972, []), (0, 0, 0, 973, []), (1, 3, 0, 974, []), (3, 16, 0, 975, []), (5, 0, 0, 976, [])], [(78, 0, 0, 977, []), (70, 157614195, 138, 980, [3, 26]), (999, 0, 0, 0, []), (999, 0, 0, 0, []), (0, 2, 0, 981, []), (0, 0, 0, 982, []), (1, 3, 0, 983, []), (3, 8, 0, 984, []), (5, 0, 0, 985, []), (78, 0, 0, 986, []), (0, 0, 0, 987, []), (1, 3, 0, 988, []), (3, 16, 0, 989, []), (5, 0, 0, 990, []), (78, 0, 0, 991, []), (70, 209977462, 22, 994, [3, 27])], [(999, 0, 0, 0, []), (999, 0, 0, 0, []), (6, 1151, 2, 997, []), (999, 0, 0, 0, []), (999, 0, 0, 0, []), (999, 0, 0, 0, []), (999, 0, 0, 0, []), (0, 1, 0, 1000, []), (0, 0, 0, 1001, []), (1, 3, 0, 1002, []), (3, 8, 0, 1003, []), (5, 0, 0, 1004, []), (78, 0, 0, 1005, []), (0, 0, 0, 1006, []), (1, 3, 0, 1007, []), (3, 16, 0, 1008, [])], [(5, 0, 0, 1009, []), (78, 0, 0, 1010, []), (70, 158400631, 139, 1013, [3, 26]), (999, 0, 0, 0, []), (999, 0, 0, 0, []), (0, 2, 0, 1014, []), (0, 0, 0, 1015, []), (1, 3, 0, 1016, []), (3, 8, 0, 1017, []), (5, 0, 0, 1018, []), (78, 0, 0, 1019, []), (0, 0, 0, 1020, []), (1, 3, 0, 1021, []), (3, 16, 0, 1022, []), (5, 0, 0, 1023, []), (78, 0, 0, 1024, [])], [(70, 211091578, 27, 1027, [3, 27]), (999, 0, 0, 0, []), (999, 0, 0, 0, []), (6, 1151, 2, 1030, []), (999, 0, 0, 0, []), (999, 0, 0, 0, []), (999, 0, 0, 0, []), (999, 0, 0, 0, []), (0, 1, 0, 1033, []), (0, 0, 0, 1034, []), (1, 3, 0, 1035, []), (3, 8, 0, 1036, []), (5, 0, 0, 1037, []), (78, 0, 0, 1038, []), (0, 0, 0, 1039, []), (1, 3, 0, 1040, [])], [(3, 16, 0, 1041, []), (5, 0, 0, 1042, []), (78, 0, 0, 1043, []), (0, 0, 0, 1044, []), (1, 3, 0, 1045, []), (3, 24, 0, 1046, []), (5, 0, 0, 1047, []), (78, 0, 0, 1048, []), (70, 158990459, 140, 1051, [4, 26]), (999, 0, 0, 0, []), (999, 0, 0, 0, []), (0, 2, 0, 1052, []), (0, 0, 0, 1053, []), (1, 3, 0, 1054, []), (3, 8, 0, 1055, []), (5, 0, 0, 1056, [])], [(78, 0, 0, 1057, []), (0, 0, 0, 1058, []), (1, 3, 0, 1059, []), (3, 16, 0, 1060, []), (5, 0, 0, 1061, []), (78, 0, 0, 1062, []), (0, 0, 0, 1063, []), (1, 3, 0, 1064, []), (3, 24, 0, 1065, []), (5, 0, 0, 1066, []), (78, 0, 0, 1067, []), (70, 211615870, 28, 1070, [4, 27]), (999, 0, 0, 0, []), (999, 0, 0, 0, []), (6, 1151, 2, 1073, []), (999, 0, 0, 0, [])], [(999, 0, 0, 0, []), (999, 0, 0, 0, []), (999, 0, 0, 0, []), (0, 1, 0, 1076, []), (0, 0, 0, 1077, []), (1, 3, 0, 1078, []), (3, 8, 0, 1079, []), (5, 0, 0, 1080, []), (78, 0, 0, 1081, []), (0, 0, 0, 1082, []), (1, 3, 0, 1083, []), (3, 16, 0, 1084, []), (5, 0, 0, 1085, []), (78, 0, 0, 1086, []), (0, 0, 0, 1087, []), (1, 3, 0, 1088, [])], [(3, 24, 0, 1089, []), (5, 0, 0, 1090, []), (78, 0, 0, 1091, []), (70, 159514751, 141, 1094, [4, 26]), (999, 0, 0, 0, []), (999, 0, 0, 0, []), (0, 2, 0, 1095, []), (0, 0, 0, 1096, []), (1, 3, 0, 1097, []), (3, 8, 0, 1098, []), (5, 0, 0, 1099, []), (78, 0, 0, 1100, []), (0, 0, 0, 1101, []), (1, 3, 0, 1102, []), (3, 16, 0, 1103, []), (5, 0, 0, 1104, [])], [(78, 0, 0, 1105, []), (0, 0, 0, 1106, []), (1, 3, 0, 1107, []), (3, 24, 0, 1108, []), (5, 0, 0, 1109, []), (78, 0, 0, 1110, []), (70, 211878018, 21, 1113, [4, 27]), (999, 0, 0, 0, []), (999, 0, 0, 0, []), (6, 1151, 2, 1116, []), (999, 0, 0, 0, []), (999, 0, 0, 0, []), (999, 0, 0, 0, []), (999, 0, 0, 0, []), (0, 1, 0, 1119, []), (0, 0, 0, 1120, [])], [(1, 3, 0, 1121, []), (3, 8, 0, 1122, []), (5, 0, 0, 1123, []), (78, 0, 0, 1124, []), (0, 0, 0, 1125, []), (1, 3, 0, 1126, []), (3, 16, 0, 1127, []), (5, 0, 0, 1128, []), (78, 0, 0, 1129, []), (70, 160104579, 142, 1132, [3, 26]), (999, 0, 0, 0, []), (999, 0, 0, 0, []), (0, 2, 0, 1133, []), (0, 0, 0, 1134, []), (1, 3, 0, 1135, []), (3, 8, 0, 1136, [])], [(5, 0, 0, 1137, []), (78, 0, 0, 1138, []), (0, 0, 0, 1139, []), (1, 3, 0, 1140, []), (3, 16, 0, 1141, []), (5, 0, 0, 1142, []), (78, 0, 0, 1143, []), (70, 212140166, 30, 1146, [3, 27]), (999, 0, 0, 0, []), (999, 0, 0, 0, []), (6, 1151, 2, 1149, []), (999, 0, 0, 0, []), (999, 0, 0, 0, []), (999, 0, 0, 0, []), (999, 0, 0, 0, []), (10, 3, 4, 1154, [5])], [(999, 0, 0, 0, []), (999, 0, 0, 0, []), (9, 18, 0, 1157, []), (999, 0, 0, 0, []), (999, 0, 0, 0, []), (3, 8, 0, 1158, []), (65, 0, 0, 1159, [])]]
def zx_ms : zxMS := [(ztb_0, 3, 0, 0), (ztb_1, 6, 0, 0), (ztb_2, 4, 0, 0), (ztb_3, 2, 0, 0), (ztb_4, 1, 3, 36), (ztb_5, 2, 0, 0), (ztb_6, 4, 0, 0), (ztb_7, 6, 0, 0), (ztb_8, 4, 0, 0), (ztb_9, 1, 0, 0), (ztb_10, 10, 0, 0), (ztb_11, 4, 0, 0), (ztb_12, 4, 0, 0), (ztb_13, 8, 0, 0), (ztb_14, 8, 0, 0), (ztb_15, 7, 0, 0), (ztb_16, 4, 0, 0), (ztb_17, 2, 0, 0), (ztb_18, 4, 0, 0), (ztb_19, 4, 0, 0), (ztb_20, 1, 0, 0), (ztb_21, 4, 0, 0), (ztb_22, 5, 0, 0), (ztb_23, 3, 0, 0), (ztb_24, 5, 0, 0), (ztb_25, 4, 0, 0), (ztb_26, 2, 0, 0), (ztb_27, 3, 0, 0), (ztb_28, 4, 0, 0), (ztb_29, 2, 0, 0), (ztb_30, 3, 0, 0), (ztb_31, 3, 0, 0), (ztb_32, 5, 0, 0), (ztb_33, 2, 0, 0), (ztb_34, 2, 0, 0), (ztb_35, 3, 0, 0), (ztb_36, 4, 0, 0), (ztb_37, 2, 0, 0), (ztb_38, 7, 0, 0), (ztb_39, 1, 5, 7140), (ztb_40, 2, 0, 0), (ztb_41, 1, 0, 0), (ztb_42, 4, 0, 0), (ztb_43, 2, 0, 0), (ztb_44, 3, 0, 0), (ztb_45, 3, 0, 0), (ztb_46, 4, 0, 0), (ztb_47, 4, 0, 0), (ztb_48, 2, 0, 0), (ztb_49, 2, 0, 0), (ztb_50, 4, 0, 0), (ztb_51, 2, 0, 0), (ztb_52, 6, 0, 0), (ztb_53, 4, 0, 0), (ztb_54, 3, 0, 0), (ztb_55, 3, 0, 0), (ztb_56, 4, 0, 0), (ztb_57, 4, 0, 0), (ztb_58, 5, 0, 0), (ztb_59, 3, 0, 0), (ztb_60, 5, 0, 0), (ztb_61, 4, 0, 0), (ztb_62, 3, 0, 0), (ztb_63, 5, 0, 0), (ztb_64, 6, 0, 0), (ztb_65, 4, 0, 0), (ztb_66, 3, 0, 0), (ztb_67, 2, 0, 0), (ztb_68, 2, 0, 0), (ztb_69, 7, 0, 0), (ztb_70, 1, 0, 0), (ztb_71, 1, 0, 0), (ztb_72, 1, 0, 0), (ztb_73, 1, 0, 0), (ztb_74, 1, 0, 0), (ztb_75, 4, 0, 0), (ztb_76, 5, 0, 0), (ztb_77, 3, 0, 0), (ztb_78, 3, 0, 0), (ztb_79, 1, 0, 0), (ztb_80, 5, 0, 0), (ztb_81, 3, 0, 0), (ztb_82, 2, 0, 0), (ztb_83, 3, 0, 0), (ztb_84, 5, 0, 0), (ztb_85, 1, 0, 0), (ztb_86, 2, 0, 0), (ztb_87, 2, 0, 0), (ztb_88, 2, 0, 0), (ztb_89, 3, 0, 0), (ztb_90, 7, 0, 0), (ztb_91, 3, 0, 0), (ztb_92, 2, 0, 0), (ztb_93, 6, 0, 0), (ztb_94, 2, 0, 0), (ztb_95, 6, 0, 0), (ztb_96, 9, 0, 0), (ztb_97, 4, 0, 0), (ztb_98, 3, 0, 0), (ztb_99, 1, 0, 0), (ztb_100, 5, 0, 0), (ztb_101, 3, 0, 0), (ztb_102, 2, 0, 0), (ztb_103, 3, 0, 0), (ztb_104, 2, 0, 0), (ztb_105, 5, 0, 0), (ztb_106, 1, 1110, 73032), (ztb_107, 2, 241, 3000), (ztb_108, 1, 4, 6868), (ztb_109, 4, 806, 10680), (ztb_110, 4, 1, 60), (ztb_111, 3, 41, 49746), (ztb_112, 3, 1, 1089), (ztb_113, 4, 3, 1129), (ztb_114, 3, 4, 124), (ztb_115, 5, 0, 0), (ztb_116, 2, 0, 0), (ztb_117, 6, 0, 0), (ztb_118, 5, 0, 0), (ztb_119, 4, 0, 0), (ztb_120, 5, 0, 0), (ztb_121, 5, 0, 0), (ztb_122, 4, 0, 0), (ztb_123, 4, 0, 0), (ztb_124, 2, 0, 0), (ztb_125, 5, 0, 0), (ztb_126, 5, 0, 0), (ztb_127, 6, 0, 0), (ztb_128, 3, 0, 0), (ztb_129, 1, 0, 0), (ztb_130, 3, 0, 0), (ztb_131, 2, 0, 0), (ztb_132, 2, 0, 0), (ztb_133, 1, 0, 0), (ztb_134, 1, 0, 0), (ztb_135, 2, 0, 0), (ztb_136, 4, 0, 0), (ztb_137, 2, 0, 0), (ztb_138, 4, 0, 0), (ztb_139, 3, 0, 0), (ztb_140, 4, 0, 0), (ztb_141, 6, 0, 0), (ztb_142, 5, 0, 0), (ztb_143, 1, 30, 593382), (ztb_144, 1, 0, 0), (ztb_145, 2, 0, 0), (ztb_146, 3, 0, 0), (ztb_147, 3, 0, 0), (ztb_148, 3, 0, 0), (ztb_149, 3, 0, 0)]
def zk_ms2 : zkMS := [(⟨"StubHouseModel", "at", "(II)I"⟩, prog_14_method_5_code, 3, (some .int)), (⟨"StubHouseModel", "in", "(JJJ)Z"⟩, prog_14_method_2_code, 6, (some .boolean)), (⟨"java/util/Arrays", "fill", "([II)V"⟩, prog_17_method_103_code, 4, none), (⟨"StubHouseModel", "isFile", "(I)Z"⟩, prog_14_method_11_code, 2, (some .boolean)), (⟨"StubHouse$Node", "<init>", "()V"⟩, prog_7_method_1_code, 1, none), (⟨"StubHouseModel", "isDirectory", "(I)Z"⟩, prog_14_method_12_code, 2, (some .boolean)), (⟨"StubHouseModel", "set", "(III)V"⟩, prog_14_method_6_code, 4, none), (⟨"StubHouseModel", "make", "(IJZ)I"⟩, prog_14_method_23_code, 6, (some .int)), (⟨"StubHouseModel", "about", "(II)I"⟩, prog_14_method_41_code, 4, (some .int)), (⟨"StubHouse$Tape", "scan", "()V"⟩, prog_10_method_15_code, 1, none), (⟨"StubHouseModel", "scan", "(I)V"⟩, prog_14_method_60_code, 10, none), (⟨"StubHouseModel", "find", "(IJ)I"⟩, prog_14_method_24_code, 4, (some .int)), (⟨"StubHouseModel", "remove", "(I)I"⟩, prog_14_method_27_code, 4, (some .int)), (⟨"StubHouseModel", "move", "(IIJ)I"⟩, prog_14_method_29_code, 8, (some .int)), (⟨"StubHouseModel", "write", "(II)I"⟩, prog_14_method_37_code, 8, (some .int)), (⟨"StubHouseModel", "cut", "(II)I"⟩, prog_14_method_38_code, 7, (some .int)), (⟨"StubHouseModel", "read", "(II)I"⟩, prog_14_method_39_code, 4, (some .int)), (⟨"StubHouseModel", "name", "(I)J"⟩, prog_14_method_42_code, 2, (some .long)), (⟨"StubHouseModel", "block", "(II)I"⟩, prog_14_method_43_code, 4, (some .int)), (⟨"StubHouseModel", "copy", "(III)I"⟩, prog_14_method_44_code, 4, (some .int)), (⟨"StubHouse$Node", "clear", "()V"⟩, prog_7_method_2_code, 1, none), (⟨"StubHouseModel", "segment", "(III)I"⟩, prog_14_method_70_code, 4, (some .int)), (⟨"StubHouseModel", "tape", "(II)I"⟩, prog_14_method_66_code, 5, (some .int)), (⟨"StubHouseModel", "noPlace", "(II)Z"⟩, prog_14_method_67_code, 3, (some .boolean)), (⟨"StubHouseModel", "marks", "(III)I"⟩, prog_14_method_45_code, 5, (some .int)), (⟨"StubHouseModel", "told", "(I)I"⟩, prog_14_method_120_code, 4, (some .int)), (⟨"StubHouse$Library", "scanAll", "()V"⟩, prog_4_method_6_code, 2, none), (⟨"StubHouseModel", "byteOf", "(II)I"⟩, prog_14_method_68_code, 3, (some .int)), (⟨"StubHouseModel", "spoil", "(III)I"⟩, prog_14_method_69_code, 4, (some .int)), (⟨"StubHouse$Tree", "isThere", "(I)Z"⟩, prog_11_method_4_code, 2, (some .boolean)), (⟨"StubHouseModel", "view", "(II)I"⟩, prog_14_method_75_code, 3, (some .int)), (⟨"StubHouseModel", "drive", "(II)I"⟩, prog_14_method_117_code, 3, (some .int)), (⟨"StubHouseModel", "feed", "(IJ)I"⟩, prog_14_method_30_code, 5, (some .int)), (⟨"StubHouseModel", "reclaim", "(I)I"⟩, prog_14_method_94_code, 2, (some .int)), (⟨"StubHouseModel", "copyOut", "()V"⟩, prog_14_method_7_code, 2, none), (⟨"StubHouseModel", "step", "(I)I"⟩, prog_14_method_116_code, 3, (some .int)), (⟨"StubHouseModel", "inUse", "(I)I"⟩, prog_14_method_110_code, 4, (some .int)), (⟨"StubHouseModel", "scanAll", "()V"⟩, prog_14_method_61_code, 2, none), (⟨"StubHouseModel", "findView", "()V"⟩, prog_14_method_74_code, 7, none), (⟨"StubHouse$Tape", "<init>", "()V"⟩, prog_10_method_1_code, 1, none), (⟨"StubHouse$Tree", "leastAbsent", "()I"⟩, prog_11_method_9_code, 2, (some .int)), (⟨"StubHouse$Drive", "takeOff", "()V"⟩, prog_3_method_8_code, 1, none), (⟨"StubHouse$Drive", "begin", "(III)V"⟩, prog_3_method_6_code, 4, none), (⟨"StubHouse$Drive", "spend", "()Z"⟩, prog_3_method_7_code, 2, (some .boolean)), (⟨"StubHouse$Migrator", "modeOf", "(IZ)Z"⟩, prog_6_method_4_code, 3, (some .boolean)), (⟨"StubHouse$Tape", "countGood", "()I"⟩, prog_10_method_13_code, 3, (some .int)), (⟨"StubHouse$Library", "countLive", "(I)I"⟩, prog_4_method_12_code, 4, (some .int)), (⟨"StubHouseModel", "purge", "()V"⟩, prog_14_method_82_code, 4, none), (⟨"StubHouseModel", "goOn", "(I)V"⟩, prog_14_method_109_code, 2, none), (⟨"StubHouse$Tree", "isFile", "(I)Z"⟩, prog_11_method_6_code, 2, (some .boolean)), (⟨"StubHouseModel", "fill", "(II)I"⟩, prog_14_method_31_code, 4, (some .int)), (⟨"StubHouse$Tree", "isDirectory", "(I)Z"⟩, prog_11_method_5_code, 2, (some .boolean)), (⟨"StubHouse$Tree", "seek", "(IJ)I"⟩, prog_11_method_8_code, 6, (some .int)), (⟨"StubHouse$Tree", "depthOf", "(I)I"⟩, prog_11_method_10_code, 4, (some .int)), (⟨"StubHouse$Library", "lookOver", "()V"⟩, prog_4_method_14_code, 3, none), (⟨"StubHouse$Library", "dropDeletes", "()V"⟩, prog_4_method_19_code, 3, none), (⟨"StubHouse$Library", "dropClashes", "()V"⟩, prog_4_method_21_code, 4, none), (⟨"StubHouse$Library", "sortByStamps", "()V"⟩, prog_4_method_22_code, 4, none), (⟨"StubHouse$Library", "sortTaken", "(I)V"⟩, prog_4_method_23_code, 5, none), (⟨"StubHouse", "step", "(I)I"⟩, prog_1_method_26_code, 3, (some .int)), (⟨"StubHouseModel", "look", "(IJ)I"⟩, prog_14_method_15_code, 5, (some .int)), (⟨"StubHouseModel", "depth", "(I)I"⟩, prog_14_method_14_code, 4, (some .int)), (⟨"StubHouseModel", "copies", "(I)I"⟩, prog_14_method_46_code, 3, (some .int)), (⟨"StubHouse", "make", "(IJZ)I"⟩, prog_1_method_2_code, 5, (some .int)), (⟨"StubHouse$Changes", "create", "(IJZ)I"⟩, prog_2_method_2_code, 6, (some .int)), (⟨"StubHouse$Log", "add", "(III)V"⟩, prog_5_method_3_code, 4, none), (⟨"StubHouse$Log", "keepAll", "()I"⟩, prog_5_method_4_code, 3, (some .int)), (⟨"StubHouse$Stores", "freeHeld", "()V"⟩, prog_9_method_8_code, 2, none), (⟨"StubHouse$Node", "become", "(LStubHouse$Node;)V"⟩, prog_7_method_3_code, 2, none), (⟨"StubHouse$Tree", "settle", "(IIJI)V"⟩, prog_11_method_16_code, 7, none), (⟨"StubHouse$Stores", "freeAll", "()V"⟩, prog_9_method_9_code, 1, none), (⟨"StubHouse", "stopAll", "()V"⟩, prog_1_method_23_code, 1, none), (⟨"StubHouse$Reader", "stop", "()V"⟩, prog_8_method_2_code, 1, none), (⟨"StubHouse$Writer", "stop", "()V"⟩, prog_12_method_2_code, 1, none), (⟨"StubHouse$Migrator", "stop", "()V"⟩, prog_6_method_2_code, 1, none), (⟨"StubHouse$Tree", "count", "(I)I"⟩, prog_11_method_7_code, 4, (some .int)), (⟨"StubHouse$Reader", "choose", "(I)V"⟩, prog_8_method_4_code, 5, none), (⟨"StubHouse$Reader", "firstRecall", "()I"⟩, prog_8_method_6_code, 3, (some .int)), (⟨"StubHouse$Reader", "changeTape", "(II)V"⟩, prog_8_method_12_code, 3, none), (⟨"StubHouse$Writer", "choose", "()V"⟩, prog_12_method_7_code, 1, none), (⟨"StubHouse$Writer", "dropFinished", "()V"⟩, prog_12_method_6_code, 5, none), (⟨"StubHouse$Writer", "goForDelete", "()Z"⟩, prog_12_method_8_code, 3, (some .boolean)), (⟨"StubHouse$Log", "firstKeptDelete", "()I"⟩, prog_5_method_8_code, 2, (some .int)), (⟨"StubHouse$Writer", "goForParcel", "()Z"⟩, prog_12_method_9_code, 3, (some .boolean)), (⟨"StubHouse$Writer", "goForFile", "()V"⟩, prog_12_method_10_code, 5, none), (⟨"StubHouse$Migrator", "work", "()V"⟩, prog_6_method_3_code, 1, none), (⟨"StubHouse", "toldOfStores", "(I)I"⟩, prog_1_method_30_code, 2, (some .int)), (⟨"StubHouseModel", "freeNode", "()I"⟩, prog_14_method_16_code, 2, (some .int)), (⟨"StubHouseModel", "ahead", "()V"⟩, prog_14_method_9_code, 2, none), (⟨"StubHouseModel", "syncAll", "()I"⟩, prog_14_method_8_code, 3, (some .int)), (⟨"StubHouseModel", "plant", "(IIIJ)V"⟩, prog_14_method_22_code, 7, none), (⟨"StubHouseModel", "noBlocks", "(I)V"⟩, prog_14_method_21_code, 3, none), (⟨"StubHouseModel", "record", "(I)V"⟩, prog_14_method_10_code, 2, none), (⟨"StubHouseModel", "crash", "(I)I"⟩, prog_14_method_49_code, 6, (some .int)), (⟨"StubHouseModel", "stopAll", "()V"⟩, prog_14_method_48_code, 2, none), (⟨"StubHouseModel", "readerBegins", "()V"⟩, prog_14_method_89_code, 6, none), (⟨"StubHouseModel", "writerBegins", "()V"⟩, prog_14_method_101_code, 9, none), (⟨"StubHouseModel", "dropWaiting", "()V"⟩, prog_14_method_100_code, 4, none), (⟨"StubHouseModel", "migrate", "()V"⟩, prog_14_method_113_code, 3, none), (⟨"StubHouse$Drive", "<init>", "()V"⟩, prog_3_method_1_code, 1, none), (⟨"StubHouse$Log", "undoBehind", "(I)I"⟩, prog_5_method_9_code, 5, (some .int)), (⟨"StubHouse$Log", "claimHomes", "()V"⟩, prog_5_method_11_code, 3, none), (⟨"StubHouse$Tree", "touchAll", "()V"⟩, prog_11_method_17_code, 2, none), (⟨"StubHouse$Library", "hasByte", "(II)Z"⟩, prog_4_method_2_code, 3, (some .boolean)), (⟨"StubHouseModel", "empty", "()V"⟩, prog_14_method_4_code, 2, none), (⟨"StubHouseModel", "freeIn", "(II)I"⟩, prog_14_method_32_code, 5, (some .int)), (⟨"StubHouse", "<init>", "()V"⟩, prog_1_method_1_code, 1, none), (⟨"StubHouse$Tree", "<init>", "()V"⟩, prog_11_method_1_code, 2, none), (⟨"StubHouse$Stores", "<init>", "()V"⟩, prog_9_method_1_code, 1, none), (⟨"StubHouse$Log", "<init>", "(LStubHouse$Tree;LStubHouse$Stores;)V"⟩, prog_5_method_1_code, 4, none), (⟨"StubHouse$Changes", "<init>", "(LStubHouse$Tree;LStubHouse$Stores;LStubHouse$Log;)V"⟩, prog_2_method_1_code, 4, none), (⟨"StubHouse$Library", "<init>", "(LStubHouse$Tree;)V"⟩, prog_4_method_1_code, 3, none), (⟨"StubHouse$Reader", "<init>", "(LStubHouse$Library;LStubHouse$Changes;)V"⟩, prog_8_method_1_code, 3, none), (⟨"StubHouse$Writer", "<init>", "(LStubHouse$Library;LStubHouse$Changes;LStubHouse$Reader;)V"⟩, prog_12_method_1_code, 4, none), (⟨"StubHouse$Migrator", "<init>", "(LStubHouse$Changes;LStubHouse$Writer;)V"⟩, prog_6_method_1_code, 3, none), (⟨"StubHouse", "find", "(IJ)I"⟩, prog_1_method_3_code, 5, (some .int)), (⟨"StubHouse", "remove", "(I)I"⟩, prog_1_method_4_code, 2, (some .int)), (⟨"StubHouse", "move", "(IIJ)I"⟩, prog_1_method_6_code, 6, (some .int)), (⟨"StubHouse", "feed", "(IJ)I"⟩, prog_1_method_7_code, 5, (some .int)), (⟨"StubHouse", "fill", "(II)I"⟩, prog_1_method_8_code, 4, (some .int)), (⟨"StubHouse", "write", "(II)I"⟩, prog_1_method_9_code, 5, (some .int)), (⟨"StubHouse", "cut", "(II)I"⟩, prog_1_method_11_code, 5, (some .int)), (⟨"StubHouse", "read", "(II)I"⟩, prog_1_method_12_code, 4, (some .int)), (⟨"StubHouse", "about", "(II)I"⟩, prog_1_method_13_code, 4, (some .int)), (⟨"StubHouse", "name", "(I)J"⟩, prog_1_method_16_code, 2, (some .long)), (⟨"StubHouse", "block", "(II)I"⟩, prog_1_method_17_code, 5, (some .int)), (⟨"StubHouse", "copy", "(III)I"⟩, prog_1_method_18_code, 5, (some .int)), (⟨"StubHouse", "marks", "(III)I"⟩, prog_1_method_19_code, 6, (some .int)), (⟨"StubHouse", "copies", "(I)I"⟩, prog_1_method_20_code, 3, (some .int)), (⟨"StubHouse", "sync", "()I"⟩, prog_1_method_21_code, 1, (some .int)), (⟨"StubHouse", "crash", "(I)I"⟩, prog_1_method_22_code, 3, (some .int)), (⟨"StubHouse", "lose", "()I"⟩, prog_1_method_24_code, 2, (some .int)), (⟨"StubHouse$Tree", "clear", "()V"⟩, prog_11_method_2_code, 2, none), (⟨"StubHouse$Log", "clear", "()V"⟩, prog_5_method_2_code, 1, none), (⟨"StubHouse", "rebuild", "()I"⟩, prog_1_method_25_code, 1, (some .int)), (⟨"StubHouse", "reclaim", "(I)I"⟩, prog_1_method_27_code, 2, (some .int)), (⟨"StubHouse", "drive", "(II)I"⟩, prog_1_method_28_code, 4, (some .int)), (⟨"StubHouse", "told", "(I)I"⟩, prog_1_method_29_code, 2, (some .int)), (⟨"StubHouse", "tape", "(II)I"⟩, prog_1_method_31_code, 4, (some .int)), (⟨"StubHouse", "byteOf", "(II)I"⟩, prog_1_method_32_code, 3, (some .int)), (⟨"StubHouse", "spoil", "(III)I"⟩, prog_1_method_33_code, 4, (some .int)), (⟨"StubHouse", "segment", "(III)I"⟩, prog_1_method_34_code, 6, (some .int)), (⟨"StubHouse", "view", "(II)I"⟩, prog_1_method_35_code, 5, (some .int)), (⟨"StubHouseModel", "<init>", "()V"⟩, prog_14_method_3_code, 1, none), (⟨"StubHouseModel", "sync", "()I"⟩, prog_14_method_47_code, 1, (some .int)), (⟨"StubHouseModel", "lose", "()I"⟩, prog_14_method_51_code, 2, (some .int)), (⟨"StubHouseModel", "files", "()I"⟩, prog_14_method_50_code, 3, (some .int)), (⟨"StubHouseModel", "rebuild", "()I"⟩, prog_14_method_77_code, 3, (some .int)), (⟨"StubHouseModel", "heldBlocks", "()I"⟩, prog_14_method_118_code, 3, (some .int)), (⟨"StubHouseModel", "nodes", "()I"⟩, prog_14_method_119_code, 3, (some .int))]
def zk_mh : zkMH := [(2810, 14, 2809, 5206), (2806, 14, 2805, 0), (40, 4, 39, 0), (2957, 14, 2956, 5615), (36, 3, 35, 0), (2802, 14, 2801, 5205), (2846, 14, 2845, 5213), (2638, 14, 2636, 2637), (2993, 14, 2991, 2992), (1006, 9, 1004, 1005), (2882, 14, 2881, 5604), (2858, 14, 2856, 2857), (2862, 14, 2860, 2861), (2935, 14, 2933, 2934), (2953, 14, 2951, 2952), (2985, 14, 2983, 2984), (2989, 14, 2987, 2988), (3006, 14, 3004, 3005), (3010, 14, 3008, 3009), (3014, 14, 3012, 3013), (977, 3, 975, 976), (3236, 14, 3234, 3235), (3207, 14, 3205, 3206), (3228, 14, 3227, 6013), (3018, 14, 3016, 3017), (3422, 14, 3420, 3421), (1002, 8, 1000, 1001), (3224, 14, 3222, 3223), (3232, 14, 3230, 3231), (917, 2, 915, 916), (3240, 14, 3238, 3239), (3418, 14, 3416, 3417), (2943, 14, 2941, 2942), (3276, 14, 3274, 3275), (2462, 14, 2461, 5204), (3280, 14, 3278, 3279), (3398, 14, 3397, 7201), (2878, 14, 2877, 5603), (3244, 14, 3243, 6014), (445, 9, 444, 0), (929, 2, 927, 928), (1607, 10, 1606, 0), (1613, 10, 1609, 0), (2020, 10, 2019, 0), (2194, 13, 2193, 4814), (2412, 9, 2410, 2411), (2416, 8, 2414, 2415), (2923, 14, 2922, 5611), (3285, 14, 3284, 6405), (998, 2, 996, 997), (2948, 14, 2946, 2947), (913, 2, 911, 912), (925, 2, 923, 924), (933, 2, 931, 932), (1649, 8, 1647, 1648), (1666, 8, 1665, 4007), (1679, 8, 1678, 4010), (1683, 8, 1682, 4011), (1701, 8, 1700, 4014), (1744, 1, 1742, 1743), (2822, 14, 2821, 5207), (2830, 14, 2829, 5209), (3023, 14, 3021, 3022), (909, 1, 907, 908), (937, 7, 935, 936), (942, 6, 940, 941), (946, 6, 944, 945), (950, 5, 948, 949), (954, 3, 952, 953), (973, 2, 971, 972), (1427, 5, 1425, 1426), (1437, 1, 1436, 4003), (1601, 11, 1439, 1600), (1617, 12, 1615, 1616), (1624, 13, 1622, 1623), (1632, 2, 1630, 1631), (1748, 11, 1746, 1747), (1752, 11, 1751, 4403), (2002, 11, 2001, 4412), (2054, 12, 2052, 2053), (2058, 12, 2057, 4415), (2067, 12, 2066, 4800), (2071, 6, 2069, 2070), (2120, 12, 2119, 4808), (2135, 12, 2134, 4810), (2190, 13, 2188, 2189), (2404, 1, 2403, 5202), (2826, 14, 2825, 5208), (2834, 14, 2833, 5210), (2838, 14, 2837, 5211), (2842, 14, 2841, 5212), (2850, 14, 2849, 5214), (2854, 14, 2853, 5215), (3031, 14, 3029, 3030), (3035, 14, 3034, 6008), (3289, 14, 3288, 6406), (3326, 14, 3325, 6415), (3330, 14, 3329, 6800), (3394, 14, 3393, 7200), (539, 10, 538, 0), (1415, 6, 1413, 1414), (1423, 6, 1422, 4002), (1433, 2, 1431, 1432), (2424, 8, 2422, 2423), (2458, 14, 2457, 5203), (2965, 14, 2964, 6001), (21, 1, 20, 0), (29, 2, 28, 0), (170, 5, 169, 0), (198, 6, 197, 0), (405, 7, 404, 0), (438, 8, 437, 0), (536, 11, 535, 0), (623, 12, 622, 0), (832, 13, 831, 0), (981, 1, 979, 980), (985, 1, 983, 984), (1261, 1, 1259, 1260), (1280, 1, 1278, 1279), (1284, 1, 1282, 1283), (1288, 1, 1286, 1287), (1349, 1, 1347, 1348), (1361, 1, 1359, 1360), (1369, 1, 1367, 1368), (1385, 1, 1383, 1384), (1389, 1, 1387, 1388), (1394, 1, 1392, 1393), (1398, 1, 1396, 1397), (1402, 1, 1400, 1401), (1406, 1, 1404, 1405), (1411, 1, 1409, 1410), (1628, 1, 1626, 1627), (1636, 2, 1634, 1635), (1640, 6, 1638, 1639), (1645, 1, 1643, 1644), (2228, 1, 2226, 2227), (2236, 1, 2234, 2235), (2400, 1, 2238, 2239), (2408, 1, 2406, 2407), (2420, 1, 2418, 2419), (2429, 1, 2427, 2428), (2437, 1, 2435, 2436), (2446, 1, 2444, 2445), (2451, 14, 2450, 0), (3027, 14, 3025, 3026), (3039, 14, 3037, 3038), (3203, 14, 3202, 6009), (3260, 14, 3258, 3259), (3427, 14, 3426, 7206), (3431, 14, 3430, 7207)]
def zk_nms : List (MethodName × ByteArray × Nat) := [(⟨"StubHouse$Tree", "isName", "(J)Z"⟩, prog_11_method_3_code, 8), (⟨"StubHouseModel", "isName", "(J)Z"⟩, prog_14_method_13_code, 7)]
end
section
/-- java.util.Arrays.fill's loop as one instruction: at 5, with i = 0; on at 20 -/
noncomputable def zq_fill : zxHD := fun _ _ nxt _ lv stk hp st u w k => match stk with
  | [] => zx_F (zx_A lv 74 0) (fun c => zx_F (zx_A lv 74 1) (fun v => cond (Nat.beq (c % 8) 3 && (zx_i v && Nat.beq (zx_A lv 74 2) 0)) (zx_F (c / 8) (fun q => match zx_G hp q with | (t, n, _, _) => cond (Nat.beq t 1 && Nat.beq (zx_A lv 74 3) (8 * n)) (zx_H hp q (1, n, [v], []) (fun hp2 => zx_F (8 * n) (fun nv => k nxt [(2, nv), (0, c), (1, v), (3, nv)] [] hp2 st u w))) false)) false))
  | _ => false
def zq_Pfill : zkPT := fun _ cc nL pc _ _ nxt _ => cc = prog_17_method_103_code ∧ nL = 4 ∧ pc = 5 ∧ nxt = 20
section ZQ0
variable {p : Program} {l : Launch} {e : Env} {R : Room} {s : State} {m : MethodId} {args : Array Value} {below : List Frame} {meth : Method} {c : Code} {Q : State → Prop} {G : va_G} {A : Nat → Prop} {u w : Nat}
theorem zq_fill_loop (hx : p.tables.exec = Jvm.exec) (hb : c.code = prog_17_method_103_code) {tys : List (ClassId × FieldType)} {ws : va_W} {K q n t0 : Nat} {cA : ClassId} {x : Int32} (hK : va_K G vwCl tys s) (hn : n < 2147483648) (ht : tys[t0]? = some (cA, .int)) (hlen : K < ws.length)
    (kk : ∀ (g : Nat → Int32) (H : Heap) (locs : List Loc) (ls : Array Slot), (∀ j, j < n → g j = x) → va_P G vwCl (ws.set K (q, .inl (cA, n, .inl g))) H → va_D A (ws.set K (q, .inl (cA, n, .inl g))) → va_S A s.heap H locs → lv_has ls 4 [(2, .int (nI n)), (0, .ref q), (1, .int x), (3, .int (nI n))] → W p l e R s m args below meth c H locs u w Q (F0 m 20 ls [])) :
    ∀ (k i : Nat) (g : Nat → Int32) (H : Heap) (locs : List Loc) (ls : Array Slot), i + k = n → (∀ j, j < i → g j = x) → va_P G vwCl (ws.set K (q, .inl (cA, n, .inl g))) H → va_D A (ws.set K (q, .inl (cA, n, .inl g))) → va_S A s.heap H locs → lv_has ls 4 [(2, .int (nI i)), (0, .ref q), (1, .int x), (3, .int (nI n))] → W p l e R s m args below meth c H locs u w Q (F0 m 5 ls []) := by
  intro k
  induction k with
  | zero =>
    intro i g H locs ls hi hg hP hD hS hl
    have hi : i = n := hi
    subst hi
    refine lv_iload_n hx hb (k := 2) (by decide +kernel) rfl (lv_at hl 0 rfl) ?_
    refine lv_iload_n hx hb (k := 3) (by decide +kernel) rfl (lv_at hl 3 rfl) ?_
    refine lv_icmp_ge (tgt := 20) (off := 13) hx hb (by decide +kernel) (by decide) (fun _ => ?_) (fun q => absurd (Int32.le_refl _) q)
    exact kk g H locs ls hg hP hD hS hl
  | succ k ih =>
    intro i g H locs ls hi hg hP hD hS hl
    have hin : i < n := by omega
    refine lv_iload_n hx hb (k := 2) (by decide +kernel) rfl (lv_at hl 0 rfl) ?_
    refine lv_iload_n hx hb (k := 3) (by decide +kernel) rfl (lv_at hl 3 rfl) ?_
    refine lv_icmp_ge (tgt := 20) (off := 13) hx hb (by decide +kernel) (by decide) (fun q => absurd q (nI_ge hin (by omega))) (fun _ => ?_)
    refine lv_aload_n hx hb (k := 0) (by decide +kernel) rfl (lv_at hl 1 rfl) ?_
    refine lv_iload_n hx hb (k := 2) (by decide +kernel) rfl (lv_at hl 0 rfl) ?_
    refine lv_iload_n hx hb (k := 1) (by decide +kernel) rfl (lv_at hl 2 rfl) ?_
    refine va_iast hx hb hK hP hD hS K t0 (List.getElem?_set_self hlen) ht (vp_in_nI hin (by omega)) (by decide +kernel) (fun H locs hP hD hS => ?_)
    rw [List.set_set, nI_clamp (by omega)] at hP hD
    refine lv_iinc (k := 0) (v := nI (i + 1)) (lv' := [(2, .int (nI (i + 1))), (0, .ref q), (1, .int x), (3, .int (nI n))]) (n := 1) hx hb (by decide +kernel) hl rfl (nI_1 i) (by decide) rfl (fun ls hl => ?_)
    refine lv_goto (tgt := 5) (off := -12) hx hb (by decide +kernel) (by decide) ?_
    refine ih (i + 1) _ H locs ls (by omega) (fun j hj => ?_) hP hD hS hl
    unfold upd
    by_cases hji : j = i
    · rw [if_pos hji]
    · rw [if_neg hji]; exact hg j (by omega)
end ZQ0
theorem zq_fill_ok : zk_HO zq_fill zq_Pfill := by
  intro p l e R s m args below meth c Q cc nL G σ b A y pc a a2 nxt d lv stk hp st u w k H locs ls vs ⟨hx, hb, hml, hown, hts, hnm, hA, hN⟩ ⟨h1, h2, h3, h4⟩ hk h r kk
  subst h1
  subst h2
  subst h3
  subst h4
  obtain ⟨hσ, hS, as, ⟨tys, ws, hK, hW, hP, hD⟩, ⟨lv', hl, hL⟩, hV⟩ := r
  rcases stk with _ | ⟨x, rr⟩
  · rcases vs with _ | ⟨vx, vr⟩
    · have h : zx_F (zx_A lv 74 0) (fun c => zx_F (zx_A lv 74 1) (fun v => cond (Nat.beq (c % 8) 3 && (zx_i v && Nat.beq (zx_A lv 74 2) 0)) (zx_F (c / 8) (fun q => match zx_G hp q with | (t, n, _, _) => cond (Nat.beq t 1 && Nat.beq (zx_A lv 74 3) (8 * n)) (zx_H hp q (1, n, [v], []) (fun hp2 => zx_F (8 * n) (fun nv => k 20 [(2, nv), (0, c), (1, v), (3, nv)] [] hp2 st u w))) false)) false)) = true := h
      rw [zx_F_eq, zx_F_eq] at h
      obtain ⟨g, h⟩ := zx_c1 h
      rw [zx_F_eq] at h
      have g1 := zx_an g
      have g2 := zx_an g1.2
      have q0 := zx_beq.mp g1.1
      have q2 := zx_beq.mp g2.2
      obtain ⟨v0, m0, z0⟩ := zr_LV_get (fun q => by rw [q] at q0; exact absurd q0 (by decide)) hL (rfl : zx_A lv 74 0 = _)
      obtain ⟨v1, m1, z1⟩ := zr_LV_get (fun q => by rw [q] at g2; exact absurd g2.1 (by decide)) hL (rfl : zx_A lv 74 1 = _)
      obtain ⟨v2, m2, z2⟩ := zr_LV_get (by decide) hL q2
      obtain ⟨qa, hqa, rfl⟩ := (zr_3 q0).mp z0
      obtain ⟨x, rfl⟩ := zr_int g2.1 z1
      have z2 := (zr_0 rfl).mp z2
      obtain ⟨e0, he, hE⟩ := zr_W_get hW hqa
      have hne : (zx_G hp (zx_A lv 74 0 / 8)).1 ≠ 0 := by
        rcases hE with ⟨g, -⟩ | ⟨-, g, -⟩ <;> omega
      generalize hGd : zx_G hp (zx_A lv 74 0 / 8) = E at h hE
      obtain ⟨t, n, fs, es⟩ := E
      obtain ⟨g3, h6⟩ := zx_c1 (show cond (Nat.beq t 1 && Nat.beq (zx_A lv 74 3) (8 * n)) (zx_H hp (zx_A lv 74 0 / 8) (1, n, [zx_A lv 74 1], []) (fun hp2 => zx_F (8 * n) (fun nv => k 20 [(2, nv), (0, zx_A lv 74 0), (1, zx_A lv 74 1), (3, nv)] [] hp2 st u w))) false = true from h)
      obtain ⟨ht1, q3⟩ := zx_an g3
      have ht1 := zx_beq.mp ht1
      have q3 := zx_beq.mp q3
      clear h
      subst ht1
      obtain ⟨v3, m3, z3⟩ := zr_LV_get (by omega) hL q3
      have z3 := (zr_0 (by omega)).mp z3
      rw [Nat.mul_div_cancel_left _ (by decide)] at z3
      obtain ⟨hp', e2, y1, y2⟩ := zx_H_ok hp (zx_A lv 74 0 / 8) (1, n, [zx_A lv 74 1], []) (fun hp2 => zx_F (8 * n) (fun nv => k 20 [(2, nv), (0, zx_A lv 74 0), (1, zx_A lv 74 1), (3, nv)] [] hp2 st u w)) hne
      rw [e2, zx_F_eq] at h6
      rcases hE with ⟨g, -⟩ | ⟨-, -, hn31, cA, t0, hty, h5⟩
      · exact absurd (show 16 ≤ 1 from g) (by decide)
      rcases h5 with ⟨-, f, rfl, hf⟩ | ⟨g, -⟩ | ⟨g, -⟩
      · have hn31 : n < 2147483648 := hn31
        have hl4 : lv_has ls 4 [(2, .int (nI 0)), (0, .ref qa), (1, .int x), (3, .int (nI n))] := by
          refine ⟨hl.1, hl.2.1, fun q hq => ?_⟩
          simp only [List.mem_cons, List.not_mem_nil, or_false] at hq
          rcases hq with rfl | rfl | rfl | rfl
          · have := hl.2.2 _ m2; rw [z2] at this; exact this
          · exact hl.2.2 _ m0
          · exact hl.2.2 _ m1
          · have := hl.2.2 _ m3; rw [z3] at this; exact this
        have hset : ws.set (zx_A lv 74 0 / 8) (qa, .inl (cA, n, .inl f)) = ws := by
          apply List.ext_getElem?
          intro j
          by_cases hj : zx_A lv 74 0 / 8 = j
          · subst hj
            rw [List.getElem?_set_self (List.getElem?_eq_some_iff.mp he).1, he]
          · rw [List.getElem?_set_ne hj]
        refine zq_fill_loop hx hb (K := zx_A lv 74 0 / 8) (q := qa) (n := n) (cA := cA) (t0 := t0) (x := x) (ws := ws) hK hn31 hty (List.getElem?_eq_some_iff.mp he).1 ?_ n 0 f H locs ls (Nat.zero_add n) (fun j hj => absurd hj (Nat.not_lt_zero j)) (by rw [hset]; exact hP) (by rw [hset]; exact hD) hS hl4
        intro g H1 locs1 ls1 hg hP1 hD1 hS1 hl1
        refine kk _ _ _ _ _ _ _ _ _ _ _ h6 ⟨hσ, hS1, as, ⟨tys, _, hK, zr_W_set hW hqa y1 y2 ?_, hP1, hD1⟩, ⟨_, hl1, ?_⟩, trivial⟩
        · refine Or.inr ⟨show 1 < 16 by decide, show 0 < 1 by decide, hn31, cA, t0, hty, Or.inl ⟨show 1 < 4 by decide, g, rfl, fun j hj => ?_⟩⟩
          rw [hg j hj]
          exact z1
        · refine ⟨⟨rfl, ?_⟩, ⟨rfl, z0⟩, ⟨rfl, z1⟩, ⟨rfl, ?_⟩, trivial⟩
          · exact (zr_0 (by omega)).mpr (by rw [Nat.mul_div_cancel_left _ (by decide)])
          · exact (zr_0 (by omega)).mpr (by rw [Nat.mul_div_cancel_left _ (by decide)])
      · exact absurd (show 1 = 4 from g) (by decide)
      · exact absurd (show 4 < 1 from g) (by decide)
    · exact hV.elim
  · exact absurd h Bool.false_ne_true
end
section
section ZQ
variable {σ : Nat → Int32} {b : zxBB} {as : List Nat} {tys : List (ClassId × FieldType)} {hp : zxHP} {ws : va_W}
theorem zq_obj (hW : zr_W σ b as tys hp ws) {k q t n : Nat} {fs : List Nat} {es : List (Nat × Nat)} (hq : as[k]? = some q) (hG : zx_G hp k = (t, n, fs, es)) (ht : 16 ≤ t) : ∃ fs', ws[k]? = some (q, .inr (t - 16, fs')) ∧ zr_2 (zr σ b as) fs fs' := by
  obtain ⟨e0, he, hE⟩ := zr_W_get hW hq
  rw [hG] at hE
  rcases hE with ⟨-, fs', rfl, h⟩ | ⟨g, -⟩
  · exact ⟨fs', he, h⟩
  · exact absurd ht (Nat.not_le.mpr g)
theorem zq_ints (hW : zr_W σ b as tys hp ws) {k q t n : Nat} {fs : List Nat} {es : List (Nat × Nat)} (hq : as[k]? = some q) (hG : zx_G hp k = (t, n, fs, es)) (ht : t < 4) (h0 : 0 < t) : ∃ (cA : ClassId) (t0 : Nat) (f : Nat → Int32), ws[k]? = some (q, .inl (cA, n, .inl f)) ∧ tys[t0]? = some (cA, zr_ty t) ∧ n < 2147483648 ∧ ∀ j, j < n → zr σ b as (zr_c (t, n, fs, es) j) (.int (f j)) := by
  obtain ⟨e0, he, hE⟩ := zr_W_get hW hq
  rw [hG] at hE
  rcases hE with ⟨g, -⟩ | ⟨-, -, h31, cA, t0, hty, h5⟩
  · exact absurd (show 16 ≤ t from g) (by omega)
  · rcases h5 with ⟨-, f, rfl, hf⟩ | ⟨g, -⟩ | ⟨g, -⟩
    · exact ⟨cA, t0, f, he, hty, h31, hf⟩
    · exact absurd (show t = 4 from g) (by omega)
    · exact absurd (show 4 < t from g) (by omega)
theorem zq_same {k q : Nat} {x : va_E} (he : ws[k]? = some (q, x)) : ws.set k (q, x) = ws := by
  apply List.ext_getElem?
  intro j
  by_cases hj : k = j
  · subst hj
    rw [List.getElem?_set_self (List.getElem?_eq_some_iff.mp he).1, he]
  · rw [List.getElem?_set_ne hj]
end ZQ
/-- the entries of one row, moved up by off, ahead of those of another that lie beside them -/
noncomputable def zq_up (off : Nat) (tl : List (Nat × Nat)) (l : List (Nat × Nat)) : (List (Nat × Nat) → Bool) → Bool := List.rec (motive := fun _ => (List (Nat × Nat) → Bool) → Bool) (fun k => k tl) (fun q _ ih k => match q with | (i, v) => cond (Nat.blt i 2561) (zx_F (i + off) (fun j => ih (fun r => k ((j, v) :: r)))) (ih k)) l
noncomputable def zq_out (off : Nat) (l : List (Nat × Nat)) : (List (Nat × Nat) → Bool) → Bool := List.rec (motive := fun _ => (List (Nat × Nat) → Bool) → Bool) (fun k => k []) (fun q _ ih k => match q with | (i, v) => cond (Nat.ble off i && Nat.blt i (off + 2561)) (ih k) (ih (fun r => k ((i, v) :: r)))) l
noncomputable def zq_dn (off : Nat) (l : List (Nat × Nat)) : (List (Nat × Nat) → Bool) → Bool := List.rec (motive := fun _ => (List (Nat × Nat) → Bool) → Bool) (fun k => k []) (fun q _ ih k => match q with | (i, v) => cond (Nat.ble off i) (zx_F (i - off) (fun j => ih (fun r => k ((j, v) :: r)))) (ih k)) l
theorem zq_out_ok (off : Nat) : ∀ (l : List (Nat × Nat)) (k : List (Nat × Nat) → Bool), ∃ r, zq_out off l k = k r ∧ ∀ j, zx_A r 0 j = if off ≤ j ∧ j < off + 2561 then 0 else zx_A l 0 j
  | [], k => ⟨[], rfl, fun j => by split <;> rfl⟩
  | (i, v) :: l, k => by
    have e : zq_out off ((i, v) :: l) k = cond (Nat.ble off i && Nat.blt i (off + 2561)) (zq_out off l k) (zq_out off l (fun r => k ((i, v) :: r))) := rfl
    cases hc : (Nat.ble off i && Nat.blt i (off + 2561)) with
    | true =>
      obtain ⟨r, h1, h2⟩ := zq_out_ok off l k
      refine ⟨r, by rw [e, hc]; exact h1, fun j => ?_⟩
      rw [h2, zx_A_cons]
      obtain ⟨g1, g2⟩ := zx_an hc
      have g1 := zx_ble.mp g1
      have g2 := zx_blt.mp g2
      split
      · rfl
      · rw [if_neg (by show ¬ i = j; omega)]
    | false =>
      obtain ⟨r, h1, h2⟩ := zq_out_ok off l (fun r => k ((i, v) :: r))
      refine ⟨(i, v) :: r, by rw [e, hc]; exact h1, fun j => ?_⟩
      rw [zx_A_cons, zx_A_cons, h2]
      have hn : ¬ (off ≤ i ∧ i < off + 2561) := fun q => by rw [zx_ble.mpr q.1, zx_blt.mpr q.2] at hc; cases hc
      by_cases hij : i = j
      · subst hij
        simp only [if_true, if_neg hn]
      · simp only [if_neg hij]
theorem zq_up_ok (off : Nat) (tl : List (Nat × Nat)) (htl : ∀ j, off ≤ j → j < off + 2561 → zx_A tl 0 j = 0) : ∀ (l : List (Nat × Nat)) (k : List (Nat × Nat) → Bool), ∃ r, zq_up off tl l k = k r ∧ ∀ j, zx_A r 0 j = if off ≤ j ∧ j < off + 2561 then zx_A l 0 (j - off) else zx_A tl 0 j
  | [], k => ⟨tl, rfl, fun j => by
    split
    · next h => exact htl j h.1 h.2
    · rfl⟩
  | (i, v) :: l, k => by
    have e : zq_up off tl ((i, v) :: l) k = cond (Nat.blt i 2561) (zx_F (i + off) (fun j => zq_up off tl l (fun r => k ((j, v) :: r)))) (zq_up off tl l k) := rfl
    cases hc : Nat.blt i 2561 with
    | true =>
      have g1 := zx_blt.mp hc
      obtain ⟨r, h1, h2⟩ := zq_up_ok off tl htl l (fun r => k ((i + off, v) :: r))
      refine ⟨(i + off, v) :: r, by rw [e, hc, cond_true, zx_F_eq]; exact h1, fun j => ?_⟩
      rw [zx_A_cons, zx_A_cons, h2]
      by_cases hj : off ≤ j ∧ j < off + 2561
      · rw [if_pos hj, if_pos hj]
        by_cases hij : i + off = j
        · rw [if_pos hij, if_pos (by show i = j - off; omega)]
        · rw [if_neg hij, if_neg (by show ¬ i = j - off; omega)]
      · rw [if_neg hj, if_neg hj, if_neg (by show ¬ i + off = j; omega)]
    | false =>
      have g1 := zx_nblt.mp hc
      obtain ⟨r, h1, h2⟩ := zq_up_ok off tl htl l k
      refine ⟨r, by rw [e, hc]; exact h1, fun j => ?_⟩
      rw [h2, zx_A_cons]
      by_cases hj : off ≤ j ∧ j < off + 2561
      · rw [if_pos hj, if_pos hj, if_neg (by show ¬ i = j - off; omega)]
      · rw [if_neg hj, if_neg hj]
theorem zq_dn_ok (off : Nat) : ∀ (l : List (Nat × Nat)) (k : List (Nat × Nat) → Bool), ∃ r, zq_dn off l k = k r ∧ ∀ j, zx_A r 0 j = zx_A l 0 (j + off)
  | [], k => ⟨[], rfl, fun j => rfl⟩
  | (i, v) :: l, k => by
    have e : zq_dn off ((i, v) :: l) k = cond (Nat.ble off i) (zx_F (i - off) (fun j => zq_dn off l (fun r => k ((j, v) :: r)))) (zq_dn off l k) := rfl
    cases hc : Nat.ble off i with
    | true =>
      have g1 := zx_ble.mp hc
      obtain ⟨r, h1, h2⟩ := zq_dn_ok off l (fun r => k ((i - off, v) :: r))
      refine ⟨(i - off, v) :: r, by rw [e, hc, cond_true, zx_F_eq]; exact h1, fun j => ?_⟩
      rw [zx_A_cons, zx_A_cons, h2]
      by_cases hij : i - off = j
      · rw [if_pos hij, if_pos (by show i = j + off; omega)]
      · rw [if_neg hij, if_neg (by show ¬ i = j + off; omega)]
    | false =>
      have g1 := zx_nble.mp hc
      obtain ⟨r, h1, h2⟩ := zq_dn_ok off l k
      refine ⟨r, by rw [e, hc]; exact h1, fun j => ?_⟩
      rw [h2, zx_A_cons, if_neg (by show ¬ i = j + off; omega)]
/-- StubHouseModel.copyOut's first loop as one instruction: at 2, on at 36 -/
noncomputable def zq_copy : zxHD := fun _ _ nxt _ lv stk hp st u w k => match stk with
  | [] => zx_F (zx_A lv 74 0) (fun c => cond (Nat.beq (c % 8) 3 && Nat.beq (zx_A lv 74 1) 0) (match zx_G hp (c / 8) with | (t, _, fs, _) => cond (Nat.beq t 27) (zx_F (zx_N 74 fs 4) (fun cp => zx_F (zx_N 74 fs 1) (fun nw => zx_F (zx_N 74 fs 7) (fun rc => cond (Nat.beq (cp % 8) 3 && (Nat.beq (nw % 8) 3 && (Nat.beq (rc % 8) 0 && (Nat.ble (rc / 8) 200 && (cond (Nat.beq (cp / 8) (nw / 8)) false (cond (Nat.beq (cp / 8) (c / 8)) false true)))))) (zx_F (cp / 8) (fun kc => match zx_G hp kc with | (t1, n1, f1, e1) => match zx_G hp (nw / 8) with | (t2, n2, f2, e2) => cond (Nat.beq t1 1 && (Nat.beq n1 514761 && (Nat.beq t2 1 && (Nat.beq n2 2561 && (Nat.beq (zx_N 74 f1 0) 0 && Nat.beq (zx_N 74 f2 0) 0))))) (zx_F (2561 * (rc / 8)) (fun off => zq_out off e1 (fun tl => zq_up off tl e2 (fun es => zx_H hp kc (1, 514761, [0], es) (fun hp2 => k nxt [(1, 20488), (0, c)] [] hp2 st u w))))) false)) false)))) false) false)
  | _ => false
def zq_Pcopy : zkPT := fun y cc nL pc _ _ nxt _ => y.cls = "StubHouseModel" ∧ cc = prog_14_method_7_code ∧ nL = 2 ∧ pc = 2 ∧ nxt = 36
section ZQ1
variable {p : Program} {l : Launch} {e : Env} {R : Room} {s : State} {m : MethodId} {args : Array Value} {below : List Frame} {meth : Method} {c : Code} {Q : State → Prop} {G : va_G} {A : Nat → Prop} {u w : Nat}
theorem zq_copy_loop (hC : zk_C) (hx : p.tables.exec = Jvm.exec) (hb : c.code = prog_14_method_7_code) (hts : ∀ w ∈ zk_T, w.before args s = true) (hown : s.vm.findClass "StubHouseModel" = some m.cls) {tys : List (ClassId × FieldType)} {ws : va_W} {km kc kn qm qc qn tc tn rec : Nat} {cC cN : ClassId} {fm : List Value} {f g0 : Nat → Int32} (hK : va_K G vwCl tys s)
    (hem : ws[km]? = some (qm, .inr (11, fm))) (h4 : fm[4]? = some (.ref qc)) (h1 : fm[1]? = some (.ref qn)) (h7 : fm[7]? = some (.int (nI rec))) (hrec : rec ≤ 200) (hen : ws[kn]? = some (qn, .inl (cN, 2561, .inl f))) (htn : tys[tn]? = some (cN, .int)) (htc : tys[tc]? = some (cC, .int)) (hlen : kc < ws.length) (hkm : kc ≠ km) (hkn : kc ≠ kn)
    (kk : ∀ (g : Nat → Int32) (H : Heap) (locs : List Loc) (ls : Array Slot), (∀ j, g j = if 2561 * rec ≤ j ∧ j < 2561 * rec + 2561 then f (j - 2561 * rec) else g0 j) → va_P G vwCl (ws.set kc (qc, .inl (cC, 514761, .inl g))) H → va_D A (ws.set kc (qc, .inl (cC, 514761, .inl g))) → va_S A s.heap H locs → lv_has ls 2 [(1, .int (nI 2561)), (0, .ref qm)] → W p l e R s m args below meth c H locs u w Q (F0 m 36 ls [])) :
    ∀ (k i : Nat) (g : Nat → Int32) (H : Heap) (locs : List Loc) (ls : Array Slot), i + k = 2561 → (∀ j, g j = if 2561 * rec ≤ j ∧ j < 2561 * rec + i then f (j - 2561 * rec) else g0 j) → va_P G vwCl (ws.set kc (qc, .inl (cC, 514761, .inl g))) H → va_D A (ws.set kc (qc, .inl (cC, 514761, .inl g))) → va_S A s.heap H locs → lv_has ls 2 [(1, .int (nI i)), (0, .ref qm)] → W p l e R s m args below meth c H locs u w Q (F0 m 2 ls []) := by
  have hin := (hC 11 _ _ _ rfl).1
  intro k
  induction k with
  | zero =>
    intro i g H locs ls hi hg hP hD hS hl
    have hi : i = 2561 := hi
    subst hi
    refine lv_iload_n hx hb (k := 1) (by decide +kernel) rfl (lv_at hl 0 rfl) ?_
    refine lv_sipush (v := nI 2561) (n := 2561) hx hb (by decide +kernel) (by decide) ?_
    refine lv_icmp_ge (tgt := 36) (off := 30) hx hb (by decide +kernel) (by decide) (fun _ => ?_) (fun q => absurd (Int32.le_refl _) q)
    exact kk g H locs ls hg hP hD hS hl
  | succ k ih =>
    intro i g H locs ls hi hg hP hD hS hl
    have hin2 : i < 2561 := by omega
    have hem2 : (ws.set kc (qc, .inl (cC, 514761, .inl g)))[km]? = some (qm, .inr (11, fm)) := by rw [List.getElem?_set_ne hkm]; exact hem
    have hen2 : (ws.set kc (qc, .inl (cC, 514761, .inl g)))[kn]? = some (qn, .inl (cN, 2561, .inl f)) := by rw [List.getElem?_set_ne hkn]; exact hen
    refine lv_iload_n hx hb (k := 1) (by decide +kernel) rfl (lv_at hl 0 rfl) ?_
    refine lv_sipush (v := nI 2561) (n := 2561) hx hb (by decide +kernel) (by decide) ?_
    refine lv_icmp_ge (tgt := 36) (off := 30) hx hb (by decide +kernel) (by decide) (fun q => absurd q (nI_ge hin2 (by decide))) (fun _ => ?_)
    refine lv_aload_n hx hb (k := 0) (by decide +kernel) rfl (lv_at hl 1 rfl) ?_
    refine va_get (ref := "StubHouseModel") hx hb hts hin hown hK hP km hem2 rfl 4 (by decide) (hts (.fieldLink "StubHouseModel" 25 "StubHouseModel" "copied" "[I") (zk_h_eq (n := 2467) (by decide +kernel) rfl rfl)) (fun _ h9 => h9) h4 (by decide +kernel) ?_
    refine lv_sipush (v := nI 2561) (n := 2561) hx hb (by decide +kernel) (by decide) ?_
    refine lv_aload_n hx hb (k := 0) (by decide +kernel) rfl (lv_at hl 1 rfl) ?_
    refine va_get (ref := "StubHouseModel") hx hb hts hin hown hK hP km hem2 rfl 7 (by decide) (hts (.fieldLink "StubHouseModel" 127 "StubHouseModel" "records" "I") (zk_h_eq (n := 2470) (by decide +kernel) rfl rfl)) (fun _ h9 => h9) h7 (by decide +kernel) ?_
    refine lv_imul hx hb (by decide +kernel) ?_
    refine lv_iload_n hx hb (k := 1) (by decide +kernel) rfl (lv_at hl 0 rfl) ?_
    refine lv_iadd hx hb (by decide +kernel) ?_
    rw [pk_mul, nI_add]
    refine lv_aload_n hx hb (k := 0) (by decide +kernel) rfl (lv_at hl 1 rfl) ?_
    refine va_get (ref := "StubHouseModel") hx hb hts hin hown hK hP km hem2 rfl 1 (by decide) (hts (.fieldLink "StubHouseModel" 13 "StubHouseModel" "now" "[I") (zk_h_eq (n := 2464) (by decide +kernel) rfl rfl)) (fun _ h9 => h9) h1 (by decide +kernel) ?_
    refine lv_iload_n hx hb (k := 1) (by decide +kernel) rfl (lv_at hl 0 rfl) ?_
    refine va_iald hx hb hK hP kn tn hen2 htn (vp_in_nI hin2 (by decide)) (by decide +kernel) ?_
    rw [nI_clamp (by omega : i < 2 ^ 31)]
    refine va_iast hx hb hK hP hD hS kc tc (List.getElem?_set_self hlen) htc (vp_in_nI (by omega) (by decide)) (by decide +kernel) (fun H locs hP hD hS => ?_)
    rw [List.set_set, nI_clamp (by omega : 2561 * rec + i < 2 ^ 31)] at hP hD
    refine lv_iinc (k := 0) (v := nI (i + 1)) (lv' := [(1, .int (nI (i + 1))), (0, .ref qm)]) (n := 1) hx hb (by decide +kernel) hl rfl (nI_1 i) (by decide) rfl (fun ls hl => ?_)
    refine lv_goto (tgt := 2) (off := -31) hx hb (by decide +kernel) (by decide) ?_
    refine ih (i + 1) _ H locs ls (by omega) (fun j => ?_) hP hD hS hl
    unfold upd
    by_cases hj : j = 2561 * rec + i
    · rw [if_pos hj, if_pos (by omega), show j - 2561 * rec = i by omega]
    · rw [if_neg hj, hg j]
      by_cases hq : 2561 * rec ≤ j ∧ j < 2561 * rec + i
      · rw [if_pos hq, if_pos (by omega)]
      · rw [if_neg hq, if_neg (by omega)]
end ZQ1
theorem zq_copy_ok (hC : zk_C) : zk_HO zq_copy zq_Pcopy := by
  intro p l e R s m args below meth c Q cc nL G σ b A y pc a a2 nxt d lv stk hp st u w k H locs ls vs ⟨hx, hb, hml, hown, hts, hnm, hA, hN⟩ ⟨hy, h1, h2, h3, h4⟩ hk h r kk
  subst h1
  subst h2
  subst h3
  subst h4
  rw [hy] at hown
  obtain ⟨hσ, hS, as, ⟨tys, ws, hK, hW, hP, hD⟩, ⟨lv', hl, hL⟩, hV⟩ := r
  rcases stk with _ | ⟨x, rr⟩
  · rcases vs with _ | ⟨vx, vr⟩
    · unfold zq_copy at h
      rw [zx_F_eq] at h
      obtain ⟨g, h⟩ := zx_c1 h
      obtain ⟨g1, g2⟩ := zx_an g
      have g1 := zx_beq.mp g1
      have g2 := zx_beq.mp g2
      obtain ⟨v0, m0, z0⟩ := zr_LV_get (fun q => by rw [q] at g1; exact absurd g1 (by decide)) hL (rfl : zx_A lv 74 0 = _)
      obtain ⟨v1, m1, z1⟩ := zr_LV_get (by decide) hL g2
      obtain ⟨qm, hqm, rfl⟩ := (zr_3 g1).mp z0
      have z1 := (zr_0 rfl).mp z1
      generalize hGm : zx_G hp (zx_A lv 74 0 / 8) = E at h
      obtain ⟨t, n, fs, es0⟩ := E
      obtain ⟨gt, h⟩ := zx_c1 h
      have gt := zx_beq.mp gt
      rw [zx_F_eq, zx_F_eq, zx_F_eq] at h
      obtain ⟨g, h⟩ := zx_c1 h
      have a1 := zx_an g
      have a2 := zx_an a1.2
      have a3 := zx_an a2.2
      have a4 := zx_an a3.2
      have a5 := zx_c0 a4.2
      have a6 := zx_c0 a5.2
      have b1 := zx_beq.mp a1.1
      have b2 := zx_beq.mp a2.1
      have b3 := zx_beq.mp a3.1
      have b4 := zx_ble.mp a4.1
      have b5 := zx_nbeq.mp a5.1
      have b6 := zx_nbeq.mp a6.1
      rw [zx_F_eq] at h
      obtain ⟨fm, hem, hfm⟩ := zq_obj hW hqm hGm (by omega)
      rw [gt] at hem
      obtain ⟨w4, hw4, y4⟩ := zr_2_get hfm (zx_N_some (rfl : zx_N 74 fs 4 = _) (by omega))
      obtain ⟨w1, hw1, y1⟩ := zr_2_get hfm (zx_N_some (rfl : zx_N 74 fs 1 = _) (by omega))
      obtain ⟨w7, hw7, y7⟩ := zr_2_get hfm (zx_N_some (rfl : zx_N 74 fs 7 = _) (by omega))
      obtain ⟨qc, hqc, rfl⟩ := (zr_3 b1).mp y4
      obtain ⟨qn, hqn, rfl⟩ := (zr_3 b2).mp y1
      have y7 := (zr_0 b3).mp y7
      subst y7
      generalize hGc : zx_G hp (zx_N 74 fs 4 / 8) = Ec at h
      generalize hGn : zx_G hp (zx_N 74 fs 1 / 8) = En at h
      obtain ⟨t1, n1, f1, e1⟩ := Ec
      obtain ⟨t2, n2, f2, e2⟩ := En
      obtain ⟨g, h⟩ := zx_c1 h
      have d1 := zx_an g
      have d2 := zx_an d1.2
      have d3 := zx_an d2.2
      have d4 := zx_an d3.2
      have d5 := zx_an d4.2
      have c1 := zx_beq.mp d1.1
      have c2 := zx_beq.mp d2.1
      have c3 := zx_beq.mp d3.1
      have c4 := zx_beq.mp d4.1
      have c5 := zx_beq.mp d5.1
      have c6 := zx_beq.mp d5.2
      rw [zx_F_eq] at h
      obtain ⟨tl, k1, htl⟩ := zq_out_ok (2561 * (zx_N 74 fs 7 / 8)) e1 (fun tl => zq_up (2561 * (zx_N 74 fs 7 / 8)) tl e2 (fun es => zx_H hp (zx_N 74 fs 4 / 8) (1, 514761, [0], es) (fun hp2 => k 36 [(1, 20488), (0, zx_A lv 74 0)] [] hp2 st u w)))
      rw [k1] at h
      obtain ⟨es, k2, hes⟩ := zq_up_ok (2561 * (zx_N 74 fs 7 / 8)) tl (fun j q1 q2 => by rw [htl, if_pos ⟨q1, q2⟩]) e2 (fun es => zx_H hp (zx_N 74 fs 4 / 8) (1, 514761, [0], es) (fun hp2 => k 36 [(1, 20488), (0, zx_A lv 74 0)] [] hp2 st u w))
      rw [k2] at h
      obtain ⟨cC, tc, gc, hec, htc, -, hfc⟩ := zq_ints hW hqc hGc (by omega) (by omega)
      obtain ⟨cN, tn, fn, hen, htn, -, hfn⟩ := zq_ints hW hqn hGn (by omega) (by omega)
      obtain ⟨hp', e3, z2, z3⟩ := zx_H_ok hp (zx_N 74 fs 4 / 8) (1, 514761, [0], es) (fun hp2 => k 36 [(1, 20488), (0, zx_A lv 74 0)] [] hp2 st u w) (by rw [hGc]; show t1 ≠ 0; omega)
      rw [e3] at h
      have hty1 : zr_ty t1 = .int := by rw [c1]; rfl
      have hty2 : zr_ty t2 = .int := by rw [c3]; rfl
      rw [hty1] at htc
      rw [hty2] at htn
      rw [c2] at hec
      rw [c4] at hen
      have hl2 : lv_has ls 2 [(1, .int (nI 0)), (0, .ref qm)] := by
        refine ⟨hl.1, hl.2.1, fun q hq => ?_⟩
        simp only [List.mem_cons, List.not_mem_nil, or_false] at hq
        rcases hq with rfl | rfl
        · have := hl.2.2 _ m1; rw [z1] at this; exact this
        · exact hl.2.2 _ m0
      refine zq_copy_loop (g0 := gc) (rec := zx_N 74 fs 7 / 8) hC hx hb hts hown hK hem hw4 hw1 hw7 b4 hen htn htc (List.getElem?_eq_some_iff.mp hec).1 b6 b5 ?_ 2561 0 gc H locs ls rfl (fun j => by rw [if_neg (by omega)]) (by rw [zq_same hec]; exact hP) (by rw [zq_same hec]; exact hD) hS hl2
      intro g H1 locs1 ls1 hg hP1 hD1 hS1 hl1
      refine kk _ _ _ _ _ _ _ _ _ _ _ h ⟨hσ, hS1, as, ⟨tys, _, hK, zr_W_set hW hqc z2 z3 ?_, hP1, hD1⟩, ⟨_, hl1, ⟨rfl, (zr_0 rfl).mpr rfl⟩, ⟨rfl, z0⟩, trivial⟩, trivial⟩
      refine Or.inr ⟨show 1 < 16 by decide, show 0 < 1 by decide, show 514761 < 2147483648 by decide, cC, tc, htc, Or.inl ⟨show 1 < 4 by decide, g, rfl, fun j hj => ?_⟩⟩
      have hj : j < 514761 := hj
      show zr σ b as (zx_A es 0 j) (.int (g j))
      rw [hes j, hg j]
      by_cases hq : 2561 * (zx_N 74 fs 7 / 8) ≤ j ∧ j < 2561 * (zx_N 74 fs 7 / 8) + 2561
      · rw [if_pos hq, if_pos hq]
        have := hfn (j - 2561 * (zx_N 74 fs 7 / 8)) (by rw [c4]; omega)
        rw [show zr_c (t2, n2, f2, e2) (j - 2561 * (zx_N 74 fs 7 / 8)) = zx_A e2 0 (j - 2561 * (zx_N 74 fs 7 / 8)) from by show zx_A e2 (zx_N 74 f2 0) _ = _; rw [c6]] at this
        exact this
      · rw [if_neg hq, if_neg hq, htl j, if_neg hq]
        have := hfc j (by rw [c2]; exact hj)
        rw [show zr_c (t1, n1, f1, e1) j = zx_A e1 0 j from by show zx_A e1 (zx_N 74 f1 0) _ = _; rw [c5]] at this
        exact this
    · exact hV.elim
  · exact absurd h Bool.false_ne_true
end
section
/-- StubHouseModel.crash's loop over all numbers as one instruction: at 61, on at 95 -/
noncomputable def zq_back : zxHD := fun _ _ nxt _ lv stk hp st u w k => match stk with
  | [] => zx_F (zx_A lv 74 0) (fun c => zx_F (zx_A lv 74 1) (fun x1 => zx_F (zx_A lv 74 2) (fun rc => zx_F (zx_A lv 74 3) (fun x3 => cond (Nat.beq (c % 8) 3 && (Nat.beq (zx_A lv 74 4) 0 && (zx_i x1 && (zx_i x3 && (Nat.beq (rc % 8) 0 && Nat.ble (rc / 8) 200))))) (match zx_G hp (c / 8) with | (t, _, fs, _) => cond (Nat.beq t 27) (zx_F (zx_N 74 fs 4) (fun cp => zx_F (zx_N 74 fs 1) (fun nw => cond (Nat.beq (cp % 8) 3 && (Nat.beq (nw % 8) 3 && (cond (Nat.beq (nw / 8) (cp / 8)) false (cond (Nat.beq (nw / 8) (c / 8)) false true)))) (zx_F (nw / 8) (fun kn => match zx_G hp (cp / 8) with | (t1, n1, f1, e1) => match zx_G hp kn with | (t2, n2, _, _) => cond (Nat.beq t1 1 && (Nat.beq n1 514761 && (Nat.beq t2 1 && (Nat.beq n2 2561 && Nat.beq (zx_N 74 f1 0) 0)))) (zx_F (2561 * (rc / 8)) (fun off => zq_dn off e1 (fun es => zx_H hp kn (1, 2561, [0], es) (fun hp2 => k nxt [(4, 20488), (0, c), (1, x1), (2, rc), (3, x3)] [] hp2 st u w)))) false)) false))) false) false))))
  | _ => false
def zq_Pback : zkPT := fun y cc nL pc _ _ nxt _ => y.cls = "StubHouseModel" ∧ cc = prog_14_method_49_code ∧ nL = 6 ∧ pc = 61 ∧ nxt = 95
section ZQ3
variable {p : Program} {l : Launch} {e : Env} {R : Room} {s : State} {m : MethodId} {args : Array Value} {below : List Frame} {meth : Method} {c : Code} {Q : State → Prop} {G : va_G} {A : Nat → Prop} {u w : Nat}
theorem zq_back_loop (hC : zk_C) (hx : p.tables.exec = Jvm.exec) (hb : c.code = prog_14_method_49_code) (hts : ∀ w ∈ zk_T, w.before args s = true) (hown : s.vm.findClass "StubHouseModel" = some m.cls) {tys : List (ClassId × FieldType)} {ws : va_W} {km kc kn qm qc qn tc tn rec : Nat} {cC cN : ClassId} {fm : List Value} {f g0 : Nat → Int32} {x1 x3 : Int32} (hK : va_K G vwCl tys s)
    (hem : ws[km]? = some (qm, .inr (11, fm))) (h4 : fm[4]? = some (.ref qc)) (h1 : fm[1]? = some (.ref qn)) (hrec : rec ≤ 200) (hec : ws[kc]? = some (qc, .inl (cC, 514761, .inl f))) (htn : tys[tn]? = some (cN, .int)) (htc : tys[tc]? = some (cC, .int)) (hlen : kn < ws.length) (hkm : kn ≠ km) (hkc : kn ≠ kc)
    (kk : ∀ (g : Nat → Int32) (H : Heap) (locs : List Loc) (ls : Array Slot), (∀ j, j < 2561 → g j = f (2561 * rec + j)) → va_P G vwCl (ws.set kn (qn, .inl (cN, 2561, .inl g))) H → va_D A (ws.set kn (qn, .inl (cN, 2561, .inl g))) → va_S A s.heap H locs → lv_has ls 6 [(4, .int (nI 2561)), (0, .ref qm), (1, .int x1), (2, .int (nI rec)), (3, .int x3)] → W p l e R s m args below meth c H locs u w Q (F0 m 95 ls [])) :
    ∀ (k i : Nat) (g : Nat → Int32) (H : Heap) (locs : List Loc) (ls : Array Slot), i + k = 2561 → (∀ j, j < i → g j = f (2561 * rec + j)) → va_P G vwCl (ws.set kn (qn, .inl (cN, 2561, .inl g))) H → va_D A (ws.set kn (qn, .inl (cN, 2561, .inl g))) → va_S A s.heap H locs → lv_has ls 6 [(4, .int (nI i)), (0, .ref qm), (1, .int x1), (2, .int (nI rec)), (3, .int x3)] → W p l e R s m args below meth c H locs u w Q (F0 m 61 ls []) := by
  have hin := (hC 11 _ _ _ rfl).1
  intro k
  induction k with
  | zero =>
    intro i g H locs ls hi hg hP hD hS hl
    have hi : i = 2561 := hi
    subst hi
    refine lv_iload hx hb (by decide +kernel) (lv_at hl 0 rfl) ?_
    refine lv_sipush (v := nI 2561) (n := 2561) hx hb (by decide +kernel) (by decide) ?_
    refine lv_icmp_ge (tgt := 95) (off := 29) hx hb (by decide +kernel) (by decide) (fun _ => ?_) (fun q => absurd (Int32.le_refl _) q)
    exact kk g H locs ls hg hP hD hS hl
  | succ k ih =>
    intro i g H locs ls hi hg hP hD hS hl
    have hin2 : i < 2561 := by omega
    have hem2 : (ws.set kn (qn, .inl (cN, 2561, .inl g)))[km]? = some (qm, .inr (11, fm)) := by rw [List.getElem?_set_ne hkm]; exact hem
    have hec2 : (ws.set kn (qn, .inl (cN, 2561, .inl g)))[kc]? = some (qc, .inl (cC, 514761, .inl f)) := by rw [List.getElem?_set_ne hkc]; exact hec
    refine lv_iload hx hb (by decide +kernel) (lv_at hl 0 rfl) ?_
    refine lv_sipush (v := nI 2561) (n := 2561) hx hb (by decide +kernel) (by decide) ?_
    refine lv_icmp_ge (tgt := 95) (off := 29) hx hb (by decide +kernel) (by decide) (fun q => absurd q (nI_ge hin2 (by decide))) (fun _ => ?_)
    refine lv_aload_n hx hb (k := 0) (by decide +kernel) rfl (lv_at hl 1 rfl) ?_
    refine va_get (ref := "StubHouseModel") hx hb hts hin hown hK hP km hem2 rfl 1 (by decide) (hts (.fieldLink "StubHouseModel" 13 "StubHouseModel" "now" "[I") (zk_h_eq (n := 2464) (by decide +kernel) rfl rfl)) (fun _ h9 => h9) h1 (by decide +kernel) ?_
    refine lv_iload hx hb (by decide +kernel) (lv_at hl 0 rfl) ?_
    refine lv_aload_n hx hb (k := 0) (by decide +kernel) rfl (lv_at hl 1 rfl) ?_
    refine va_get (ref := "StubHouseModel") hx hb hts hin hown hK hP km hem2 rfl 4 (by decide) (hts (.fieldLink "StubHouseModel" 25 "StubHouseModel" "copied" "[I") (zk_h_eq (n := 2467) (by decide +kernel) rfl rfl)) (fun _ h9 => h9) h4 (by decide +kernel) ?_
    refine lv_sipush (v := nI 2561) (n := 2561) hx hb (by decide +kernel) (by decide) ?_
    refine lv_iload_n hx hb (k := 2) (by decide +kernel) rfl (lv_at hl 3 rfl) ?_
    refine lv_imul hx hb (by decide +kernel) ?_
    refine lv_iload hx hb (by decide +kernel) (lv_at hl 0 rfl) ?_
    refine lv_iadd hx hb (by decide +kernel) ?_
    rw [pk_mul, nI_add]
    refine va_iald hx hb hK hP kc tc hec2 htc (vp_in_nI (by omega) (by decide)) (by decide +kernel) ?_
    rw [nI_clamp (by omega : 2561 * rec + i < 2 ^ 31)]
    refine va_iast hx hb hK hP hD hS kn tn (List.getElem?_set_self hlen) htn (vp_in_nI hin2 (by decide)) (by decide +kernel) (fun H locs hP hD hS => ?_)
    rw [List.set_set, nI_clamp (by omega : i < 2 ^ 31)] at hP hD
    refine lv_iinc (k := 0) (v := nI (i + 1)) (lv' := [(4, .int (nI (i + 1))), (0, .ref qm), (1, .int x1), (2, .int (nI rec)), (3, .int x3)]) (n := 1) hx hb (by decide +kernel) hl rfl (nI_1 i) (by decide) rfl (fun ls hl => ?_)
    refine lv_goto (tgt := 61) (off := -31) hx hb (by decide +kernel) (by decide) ?_
    refine ih (i + 1) _ H locs ls (by omega) (fun j hj => ?_) hP hD hS hl
    unfold upd
    by_cases hji : j = i
    · rw [if_pos hji, hji]
    · rw [if_neg hji]; exact hg j (by omega)
end ZQ3
theorem zq_back_ok (hC : zk_C) : zk_HO zq_back zq_Pback := by
  intro p l e R s m args below meth c Q cc nL G σ b A y pc a a2 nxt d lv stk hp st u w k H locs ls vs ⟨hx, hb, hml, hown, hts, hnm, hA, hN⟩ ⟨hy, h1, h2, h3, h4⟩ hk h r kk
  subst h1
  subst h2
  subst h3
  subst h4
  rw [hy] at hown
  obtain ⟨hσ, hS, as, ⟨tys, ws, hK, hW, hP, hD⟩, ⟨lv', hl, hL⟩, hV⟩ := r
  rcases stk with _ | ⟨x, rr⟩
  · rcases vs with _ | ⟨vx, vr⟩
    · unfold zq_back at h
      rw [zx_F_eq, zx_F_eq, zx_F_eq, zx_F_eq] at h
      obtain ⟨g, h⟩ := zx_c1 h
      have a1 := zx_an g
      have a2 := zx_an a1.2
      have a3 := zx_an a2.2
      have a4 := zx_an a3.2
      have a5 := zx_an a4.2
      have g1 := zx_beq.mp a1.1
      have g2 := zx_beq.mp a2.1
      have g3 := a3.1
      have g4 := a4.1
      have g5 := zx_beq.mp a5.1
      have g6 := zx_ble.mp a5.2
      obtain ⟨v0, m0, z0⟩ := zr_LV_get (fun q => by rw [q] at g1; exact absurd g1 (by decide)) hL (rfl : zx_A lv 74 0 = _)
      obtain ⟨v4, m4, z4⟩ := zr_LV_get (by decide) hL g2
      obtain ⟨v1, m1, z1⟩ := zr_LV_get (fun q => by rw [q] at g3; exact absurd g3 (by decide)) hL (rfl : zx_A lv 74 1 = _)
      obtain ⟨v3, m3, z3⟩ := zr_LV_get (fun q => by rw [q] at g4; exact absurd g4 (by decide)) hL (rfl : zx_A lv 74 3 = _)
      obtain ⟨v2, m2, z2⟩ := zr_LV_get (fun q => by rw [q] at g5; exact absurd g5 (by decide)) hL (rfl : zx_A lv 74 2 = _)
      obtain ⟨qm, hqm, rfl⟩ := (zr_3 g1).mp z0
      have z4 := (zr_0 rfl).mp z4
      obtain ⟨x1, rfl⟩ := zr_int g3 z1
      obtain ⟨x3, rfl⟩ := zr_int g4 z3
      have z2' := (zr_0 g5).mp z2
      generalize hGm : zx_G hp (zx_A lv 74 0 / 8) = E at h
      obtain ⟨t, n, fs, es0⟩ := E
      obtain ⟨gt, h⟩ := zx_c1 h
      have gt := zx_beq.mp gt
      rw [zx_F_eq, zx_F_eq] at h
      obtain ⟨g, h⟩ := zx_c1 h
      have c1 := zx_an g
      have c2 := zx_an c1.2
      have c3 := zx_c0 c2.2
      have c4 := zx_c0 c3.2
      have b1 := zx_beq.mp c1.1
      have b2 := zx_beq.mp c2.1
      have b5 := zx_nbeq.mp c3.1
      have b6 := zx_nbeq.mp c4.1
      rw [zx_F_eq] at h
      obtain ⟨fm, hem, hfm⟩ := zq_obj hW hqm hGm (by omega)
      rw [gt] at hem
      obtain ⟨w4, hw4, y4⟩ := zr_2_get hfm (zx_N_some (rfl : zx_N 74 fs 4 = _) (by omega))
      obtain ⟨w1, hw1, y1⟩ := zr_2_get hfm (zx_N_some (rfl : zx_N 74 fs 1 = _) (by omega))
      obtain ⟨qc, hqc, rfl⟩ := (zr_3 b1).mp y4
      obtain ⟨qn, hqn, rfl⟩ := (zr_3 b2).mp y1
      generalize hGc : zx_G hp (zx_N 74 fs 4 / 8) = Ec at h
      generalize hGn : zx_G hp (zx_N 74 fs 1 / 8) = En at h
      obtain ⟨t1, n1, f1, e1⟩ := Ec
      obtain ⟨t2, n2, f2, e2⟩ := En
      obtain ⟨g, h⟩ := zx_c1 h
      have d1 := zx_an g
      have d2 := zx_an d1.2
      have d3 := zx_an d2.2
      have d4 := zx_an d3.2
      have c1 := zx_beq.mp d1.1
      have c2 := zx_beq.mp d2.1
      have c3 := zx_beq.mp d3.1
      have c4 := zx_beq.mp d4.1
      have c5 := zx_beq.mp d4.2
      rw [zx_F_eq] at h
      obtain ⟨es, k2, hes⟩ := zq_dn_ok (2561 * (zx_A lv 74 2 / 8)) e1 (fun es => zx_H hp (zx_N 74 fs 1 / 8) (1, 2561, [0], es) (fun hp2 => k 95 [(4, 20488), (0, zx_A lv 74 0), (1, zx_A lv 74 1), (2, zx_A lv 74 2), (3, zx_A lv 74 3)] [] hp2 st u w))
      rw [k2] at h
      obtain ⟨cC, tc, gc, hec, htc, -, hfc⟩ := zq_ints hW hqc hGc (by omega) (by omega)
      obtain ⟨cN, tn, fn, hen, htn, -, hfn⟩ := zq_ints hW hqn hGn (by omega) (by omega)
      obtain ⟨hp', e3, zz2, zz3⟩ := zx_H_ok hp (zx_N 74 fs 1 / 8) (1, 2561, [0], es) (fun hp2 => k 95 [(4, 20488), (0, zx_A lv 74 0), (1, zx_A lv 74 1), (2, zx_A lv 74 2), (3, zx_A lv 74 3)] [] hp2 st u w) (by rw [hGn]; show t2 ≠ 0; omega)
      rw [e3] at h
      have hty1 : zr_ty t1 = .int := by rw [c1]; rfl
      have hty2 : zr_ty t2 = .int := by rw [c3]; rfl
      rw [hty1] at htc
      rw [hty2] at htn
      rw [c2] at hec
      rw [c4] at hen
      have hl2 : lv_has ls 6 [(4, .int (nI 0)), (0, .ref qm), (1, .int x1), (2, .int (nI (zx_A lv 74 2 / 8))), (3, .int x3)] := by
        refine ⟨hl.1, hl.2.1, fun q hq => ?_⟩
        simp only [List.mem_cons, List.not_mem_nil, or_false] at hq
        rcases hq with rfl | rfl | rfl | rfl | rfl
        · have := hl.2.2 _ m4; rw [z4] at this; exact this
        · exact hl.2.2 _ m0
        · exact hl.2.2 _ m1
        · have := hl.2.2 _ m2; rw [z2'] at this; exact this
        · exact hl.2.2 _ m3
      refine zq_back_loop (g0 := fn) (rec := zx_A lv 74 2 / 8) hC hx hb hts hown hK hem hw4 hw1 g6 hec htn htc (List.getElem?_eq_some_iff.mp hen).1 b6 b5 ?_ 2561 0 fn H locs ls rfl (fun j hj => absurd hj (Nat.not_lt_zero j)) (by rw [zq_same hen]; exact hP) (by rw [zq_same hen]; exact hD) hS hl2
      intro g H1 locs1 ls1 hg hP1 hD1 hS1 hl1
      refine kk _ _ _ _ _ _ _ _ _ _ _ h ⟨hσ, hS1, as, ⟨tys, _, hK, zr_W_set hW hqn zz2 zz3 ?_, hP1, hD1⟩, ⟨_, hl1, ⟨rfl, (zr_0 rfl).mpr rfl⟩, ⟨rfl, z0⟩, ⟨rfl, z1⟩, ⟨rfl, z2' ▸ z2⟩, ⟨rfl, z3⟩, trivial⟩, trivial⟩
      refine Or.inr ⟨show 1 < 16 by decide, show 0 < 1 by decide, show 2561 < 2147483648 by decide, cN, tn, htn, Or.inl ⟨show 1 < 4 by decide, g, rfl, fun j hj => ?_⟩⟩
      have hj : j < 2561 := hj
      show zr σ b as (zx_A es 0 j) (.int (g j))
      rw [hes j, hg j hj]
      have := hfc (2561 * (zx_A lv 74 2 / 8) + j) (by rw [c2]; omega)
      rw [show zr_c (t1, n1, f1, e1) (2561 * (zx_A lv 74 2 / 8) + j) = zx_A e1 0 (2561 * (zx_A lv 74 2 / 8) + j) from by show zx_A e1 (zx_N 74 f1 0) _ = _; rw [c5]] at this
      rw [Nat.add_comm j]
      exact this
    · exact hV.elim
  · exact absurd h Bool.false_ne_true
end
section
section ZQ4
variable {p : Program} {l : Launch} {e : Env} {R : Room} {s : State} {m : MethodId} {args : Array Value} {below : List Frame} {meth : Method} {c : Code} {Q : State → Prop} {G : va_G} {A : Nat → Prop} {u w : Nat} {H : Heap} {locs : List Loc} {ls : Array Slot}
/-- a call that changes nothing -/
theorem zq_quiet {pc : Nat} {v0 : Option Value} {vs0 rest : List Value} (hr : va_Run p l e R s m args below meth c H locs u w 0 0 (F0 m pc ls vs0) rest (fun st0 oc t => oc = .returned v0 ∧ t.heap = st0.heap) (fun _ => False)) (kk : W p l e R s m args below meth c H locs u w Q (F0 m (pc + 3) ls (v0.toList ++ rest))) : W p l e R s m args below meth c H locs u w Q (F0 m pc ls vs0) := by
  intro T hT X
  obtain ⟨v, st₀, t, T', L, h0, X', hLL, e1, e2, ⟨k1, k2⟩, stp⟩ := hr T hT X
  cases k1
  have hLn : L = [] := by
    rcases L with _ | ⟨x0, L⟩
    · rfl
    · exact (hLL x0 List.mem_cons_self).elim
  subst hLn
  rw [List.append_nil] at X'
  obtain ⟨t2, a1, b1⟩ := kk T' (by rw [e1, k2, h0]) X'
  exact ⟨t2, stp t2 a1, b1⟩
/-- Stores.claim of a number below 0 -/
theorem zq_claim_met (l : Launch) (q : Nat) (x : Int32) (hx0 : x < 0) : Met l ⟨"StubHouse$Stores", "claim", "(I)V"⟩ (Cond.code ⟨"StubHouse$Stores", "claim", "(I)V"⟩ prog_9_method_6_code 2 none :: zk_T) { frames := 0, cells := 0, slots := 0, locals := 0 } (va_Pc [.ref q, .int x] (fun _ => True)) (fun _ st0 oc t => oc = .returned none ∧ t.heap = st0.heap) 0 0 (fun _ => False) := by
  refine Met.ofW (cc := prog_9_method_6_code) (maxL := 2) (ret := none) (by decide) rfl ?_
  intro p e s m args below meth c s₁ B hml hv
  obtain ⟨rfl, -⟩ := hv
  have hx := B.exec
  have hb := B.bytes
  have hr := B.returns
  have hlocks : meth.locks = false := B.notSynchronized
  have hl := lv_entry ([.ref q, .int x]) (n := 2) (Nat.le_of_ble_eq_true rfl)
  rw [lg_entry_eq]
  generalize (lg_sl ([.ref q, .int x]) ++ List.replicate (2 - (lg_sl ([.ref q, .int x])).length) Slot.unset).toArray = ls at hl ⊢
  have hl : lv_has ls 2 [(0, .ref q), (1, .int x)] := hl
  refine lv_iload_n hx hb (k := 1) (by decide +kernel) rfl (lv_at hl 1 rfl) ?_
  refine lv_if_lt (tgt := 20) (off := 19) hx hb (by decide +kernel) (by decide) (fun _ => ?_) (fun q => absurd hx0 q)
  exact W.vret hx hb hr (fun t ht _ => ⟨rfl, ht⟩) (fun q h => by cases h) (by decide +kernel)
theorem zq_claim_loop (hC : zk_C) (hx : p.tables.exec = Jvm.exec) (hb : c.code = prog_5_method_11_code) (hml : c.maxLocals = 3) (hts : ∀ w ∈ zk_T, w.before args s = true) (hown : s.vm.findClass "StubHouse$Log" = some m.cls) (hfr : 1 ≤ R.frames) (hlo : 60 ≤ R.locals) (hu : u ≤ R.cells) (hw : w ≤ R.slots) {tys : List (ClassId × FieldType)} {ws : va_W} {kl ks kt ka kn kh ql qs qt qa qn qh ta th n : Nat} {cA cH : ClassId} {fl fst ft fn : List Value} {fa : Nat → Option Nat} {fh : Nat → Int32} (hK : va_K G vwCl tys s) (hP : va_P G vwCl ws H) (hD : va_D A ws) (hS : va_S A s.heap H locs)
    (hel : ws[kl]? = some (ql, .inr (2, fl))) (h1 : fl[1]? = some (.ref qs)) (h0 : fl[0]? = some (.ref qt)) (hes : ws[ks]? = some (qs, .inr (6, fst))) (het : ws[kt]? = some (qt, .inr (8, ft))) (ht0 : ft[0]? = some (.ref qa)) (hea : ws[ka]? = some (qa, .inl (cA, 60, .inr (.inr (.inr (.inr fa)))))) (hta : tys[ta]? = some (cA, .object "StubHouse$Node")) (hn : n < 60) (hfa : fa n = some qn) (hen : ws[kn]? = some (qn, .inr (4, fn))) (hn10 : fn[10]? = some (.ref qh)) (heh : ws[kh]? = some (qh, .inl (cH, 32, .inl fh))) (hth : tys[th]? = some (cH, .int)) (hfh : ∀ j, j < 32 → fh j < 0)
    (kk : ∀ ls : Array Slot, lv_has ls 3 [(2, .int (nI 32)), (0, .ref ql), (1, .int (nI n))] → W p l e R s m args below meth c H locs u w Q (F0 m 50 ls [])) :
    ∀ (k i : Nat) (ls : Array Slot), i + k = 32 → lv_has ls 3 [(2, .int (nI i)), (0, .ref ql), (1, .int (nI n))] → W p l e R s m args below meth c H locs u w Q (F0 m 17 ls []) := by
  have hinL := (hC 2 _ _ _ rfl).1
  have hinT := (hC 8 _ _ _ rfl).1
  have hinN := (hC 4 _ _ _ rfl).1
  intro k
  induction k with
  | zero =>
    intro i ls hi hl
    have hi : i = 32 := hi
    subst hi
    refine lv_iload_n hx hb (k := 2) (by decide +kernel) rfl (lv_at hl 0 rfl) ?_
    refine lv_bipush (v := nI 32) (n := 32) hx hb (by decide +kernel) (by decide) ?_
    refine lv_icmp_ge (tgt := 50) (off := 30) hx hb (by decide +kernel) (by decide) (fun _ => ?_) (fun q => absurd (Int32.le_refl _) q)
    exact kk ls hl
  | succ k ih =>
    intro i ls hi hl
    have hin2 : i < 32 := by omega
    refine lv_iload_n hx hb (k := 2) (by decide +kernel) rfl (lv_at hl 0 rfl) ?_
    refine lv_bipush (v := nI 32) (n := 32) hx hb (by decide +kernel) (by decide) ?_
    refine lv_icmp_ge (tgt := 50) (off := 30) hx hb (by decide +kernel) (by decide) (fun q => absurd q (nI_ge hin2 (by decide))) (fun _ => ?_)
    refine lv_aload_n hx hb (k := 0) (by decide +kernel) rfl (lv_at hl 1 rfl) ?_
    refine va_get (ref := "StubHouse$Log") hx hb hts hinL hown hK hP kl hel rfl 1 (by decide) (hts (.fieldLink "StubHouse$Log" 38 "StubHouse$Log" "stores" "LStubHouse$Stores;") (zk_h_eq (n := 203) (by decide +kernel) rfl rfl)) (fun _ h9 => h9) h1 (by decide +kernel) ?_
    refine lv_aload_n hx hb (k := 0) (by decide +kernel) rfl (lv_at hl 1 rfl) ?_
    refine va_get (ref := "StubHouse$Log") hx hb hts hinL hown hK hP kl hel rfl 0 (by decide) (hts (.fieldLink "StubHouse$Log" 34 "StubHouse$Log" "tree" "LStubHouse$Tree;") (zk_h_eq (n := 202) (by decide +kernel) rfl rfl)) (fun _ h9 => h9) h0 (by decide +kernel) ?_
    refine va_get (ref := "StubHouse$Tree") hx hb hts hinT hown hK hP kt het rfl 0 (by decide) (hts (.fieldLink "StubHouse$Log" 57 "StubHouse$Tree" "nodes" "[LStubHouse$Node;") (zk_h_eq (n := 135) (by decide +kernel) rfl rfl)) (fun _ h9 => h9) ht0 (by decide +kernel) ?_
    refine lv_iload_n hx hb (k := 1) (by decide +kernel) rfl (lv_at hl 2 rfl) ?_
    refine va_aldq hx hb hK hP ka ta hea hta (vp_in_nI hn (by decide)) (by decide +kernel) ?_
    rw [nI_clamp (by omega : n < 2 ^ 31), hfa]
    refine va_get (ref := "StubHouse$Node") hx hb hts hinN hown hK hP kn hen rfl 10 (by decide) (hts (.fieldLink "StubHouse$Log" 94 "StubHouse$Node" "home" "[I") (zk_h_eq (n := 95) (by decide +kernel) rfl rfl)) (fun _ h9 => h9) hn10 (by decide +kernel) ?_
    refine lv_iload_n hx hb (k := 2) (by decide +kernel) rfl (lv_at hl 0 rfl) ?_
    refine va_iald hx hb hK hP kh th heh hth (vp_in_nI hin2 (by decide)) (by decide +kernel) ?_
    rw [nI_clamp (by omega : i < 2 ^ 31)]
    refine zq_quiet (v0 := none) (rest := []) (va_runV (As := [.int (fh i)]) (C := "StubHouse$Stores") (index := 97) ⟨hx, hb, hml, hown, hts⟩ (zq_claim_met l qs (fh i) (hfh i hin2)) (bytes := prog_9_method_6_code) (maxL := 2) (ret := none) (n := 1) ⟨callB_of 1 hts (zk_good (fun w h => h) (fun w hw => by rcases List.mem_cons.mp hw with rfl | hw; exact zk_h_eq (n := 1328) (by decide +kernel) rfl rfl; exact hw)) rfl rfl rfl (hts _ (zk_h_eq (n := 5) (by decide +kernel) rfl rfl)) (hts _ (zk_h_eq (n := 1429) (by decide +kernel) rfl rfl)) (by decide +kernel) ⟨hfr, Nat.le_trans (by decide) hlo⟩, hts _ (zk_h_eq (n := 1326) (by decide +kernel) rfl rfl), hts _ (zk_h_eq (n := 1327) (by decide +kernel) rfl rfl)⟩ ⟨fun _ _ _ _ q => q, va_recv hK hP (ci := 6) (q0 := ks) rfl hes, fun _ _ _ => ⟨rfl, trivial⟩⟩ rfl rfl hl.1 rfl (lv_room (by decide)) (show decode prog_5_method_11_code 41 = .ok (.invokevirtual 97, 3) by decide +kernel) ⟨hu, hw⟩) ?_
    refine lv_iinc (k := 0) (v := nI (i + 1)) (lv' := [(2, .int (nI (i + 1))), (0, .ref ql), (1, .int (nI n))]) (n := 1) hx hb (by decide +kernel) hl rfl (nI_1 i) (by decide) rfl (fun ls hl => ?_)
    refine lv_goto (tgt := 17) (off := -30) hx hb (by decide +kernel) (by decide) ?_
    exact ih (i + 1) ls (by omega) hl
end ZQ4
/-- Log.claimHomes' inner loop, where a node has no blocks, as one instruction: at 17, on at 50 -/
noncomputable def zq_claim : zxHD := fun _ _ nxt _ lv stk hp st u w k => match stk with
  | [] => zx_F (zx_A lv 74 0) (fun c => zx_F (zx_A lv 74 1) (fun nc => cond (Nat.beq (c % 8) 3 && (Nat.beq (zx_A lv 74 2) 0 && (Nat.beq (nc % 8) 0 && Nat.blt (nc / 8) 60))) (match zx_G hp (c / 8) with | (t, _, fs, _) => cond (Nat.beq t 18) (zx_F (zx_N 74 fs 1) (fun sr => zx_F (zx_N 74 fs 0) (fun tr => cond (Nat.beq (sr % 8) 3 && Nat.beq (tr % 8) 3) (match zx_G hp (sr / 8) with | (t1, _, _, _) => match zx_G hp (tr / 8) with | (t2, _, f2, _) => cond (Nat.beq t1 22 && Nat.beq t2 24) (zx_F (zx_N 74 f2 0) (fun ar => cond (Nat.beq (ar % 8) 3) (match zx_G hp (ar / 8) with | (t3, n3, f3, e3) => cond (Nat.beq t3 5 && Nat.beq n3 60) (zx_F (zx_A e3 (zx_N 74 f3 0) (nc / 8)) (fun nr => cond (Nat.beq (nr % 8) 3) (match zx_G hp (nr / 8) with | (t4, _, f4, _) => cond (Nat.beq t4 20) (zx_F (zx_N 74 f4 10) (fun hr => cond (Nat.beq (hr % 8) 3) (match zx_G hp (hr / 8) with | (t5, n5, f5, e5) => cond (Nat.beq t5 1 && (Nat.beq n5 32 && (Nat.beq (zx_N 74 f5 0) 34359738360 && Nat.beq (zx_Z e5) 0))) (k nxt [(2, 256), (0, c), (1, nc)] [] hp st u w) false) false)) false) false)) false) false)) false) false))) false) false))
  | _ => false
def zq_Pclaim : zkPT := fun y cc nL pc _ _ nxt _ => y.cls = "StubHouse$Log" ∧ cc = prog_5_method_11_code ∧ nL = 3 ∧ pc = 17 ∧ nxt = 50
theorem zq_refs {σ : Nat → Int32} {b : zxBB} {as : List Nat} {tys : List (ClassId × FieldType)} {hp : zxHP} {ws : va_W} (hW : zr_W σ b as tys hp ws) {k q t n : Nat} {fs : List Nat} {es : List (Nat × Nat)} (hq : as[k]? = some q) (hG : zx_G hp k = (t, n, fs, es)) (ht : t < 16) (h0 : 4 < t) : ∃ (cA : ClassId) (t0 : Nat) (f : Nat → Option Nat), ws[k]? = some (q, .inl (cA, n, .inr (.inr (.inr (.inr f))))) ∧ tys[t0]? = some (cA, zr_ty t) ∧ ∀ j, j < n → zr σ b as (zr_c (t, n, fs, es) j) (va_rf (f j)) := by
  obtain ⟨e0, he, hE⟩ := zr_W_get hW hq
  rw [hG] at hE
  rcases hE with ⟨g, -⟩ | ⟨-, -, h31, cA, t0, hty, h5⟩
  · exact absurd (show 16 ≤ t from g) (by omega)
  · rcases h5 with ⟨g, -⟩ | ⟨g, -⟩ | ⟨-, f, rfl, hf⟩
    · exact absurd (show t < 4 from g) (by omega)
    · exact absurd (show t = 4 from g) (by omega)
    · exact ⟨cA, t0, f, he, hty, hf⟩
set_option maxRecDepth 20000 in
theorem zq_claim_ok (hC : zk_C) : zk_HP zq_claim zq_Pclaim := by
  intro p l e R s m args below meth c Q cc nL G σ b A y pc a a2 nxt d lv stk hp st u w k H locs ls vs hfr hlo hu hw ⟨hx, hb, hml, hown, hts, hnm, hA, hN⟩ ⟨hy, h1, h2, h3, h4⟩ hk h r kk
  subst h1
  subst h2
  subst h3
  subst h4
  rw [hy] at hown
  obtain ⟨hσ, hS, as, ⟨tys, ws, hK, hW, hP, hD⟩, ⟨lv', hl, hL⟩, hV⟩ := r
  rcases stk with _ | ⟨x, rr⟩
  · rcases vs with _ | ⟨vx, vr⟩
    · unfold zq_claim at h
      rw [zx_F_eq, zx_F_eq] at h
      obtain ⟨g, h⟩ := zx_c1 h
      have a1 := zx_an g
      have a2 := zx_an a1.2
      have a3 := zx_an a2.2
      have g1 := zx_beq.mp a1.1
      have g2 := zx_beq.mp a2.1
      have g3 := zx_beq.mp a3.1
      have g4 := zx_blt.mp a3.2
      obtain ⟨v0, m0, z0⟩ := zr_LV_get (fun q => by rw [q] at g1; exact absurd g1 (by decide)) hL (rfl : zx_A lv 74 0 = _)
      obtain ⟨v2, m2, z2⟩ := zr_LV_get (by decide) hL g2
      obtain ⟨v1, m1, z1⟩ := zr_LV_get (fun q => by rw [q] at g3; exact absurd g3 (by decide)) hL (rfl : zx_A lv 74 1 = _)
      obtain ⟨ql, hql, rfl⟩ := (zr_3 g1).mp z0
      have z2 := (zr_0 rfl).mp z2
      have z1' := (zr_0 g3).mp z1
      generalize hGm : zx_G hp (zx_A lv 74 0 / 8) = E at h
      obtain ⟨t, n, fs, es0⟩ := E
      obtain ⟨gt, h⟩ := zx_c1 h
      have gt := zx_beq.mp gt
      rw [zx_F_eq, zx_F_eq] at h
      obtain ⟨g, h⟩ := zx_c1 h
      obtain ⟨b1, b2⟩ := zx_an g
      have b1 := zx_beq.mp b1
      have b2 := zx_beq.mp b2
      obtain ⟨fl, hel, hfl⟩ := zq_obj hW hql hGm (by omega)
      obtain ⟨w1, hw1, y1⟩ := zr_2_get hfl (zx_N_some (rfl : zx_N 74 fs 1 = _) (by omega))
      obtain ⟨w0, hw0, y0⟩ := zr_2_get hfl (zx_N_some (rfl : zx_N 74 fs 0 = _) (by omega))
      obtain ⟨qs, hqs, rfl⟩ := (zr_3 b1).mp y1
      obtain ⟨qt, hqt, rfl⟩ := (zr_3 b2).mp y0
      generalize hGs : zx_G hp (zx_N 74 fs 1 / 8) = Es at h
      generalize hGt : zx_G hp (zx_N 74 fs 0 / 8) = Et at h
      obtain ⟨t1, n1, f1, e1⟩ := Es
      obtain ⟨t2, n2, f2, e2⟩ := Et
      obtain ⟨g, h⟩ := zx_c1 h
      obtain ⟨c1, c2⟩ := zx_an g
      have c1 := zx_beq.mp c1
      have c2 := zx_beq.mp c2
      rw [zx_F_eq] at h
      obtain ⟨b3, h⟩ := zx_c1 h
      have b3 := zx_beq.mp b3
      obtain ⟨fst, hes, -⟩ := zq_obj hW hqs hGs (by omega)
      obtain ⟨ft, het, hft⟩ := zq_obj hW hqt hGt (by omega)
      obtain ⟨wa, hwa, ya⟩ := zr_2_get hft (zx_N_some (rfl : zx_N 74 f2 0 = _) (by omega))
      obtain ⟨qa, hqa, rfl⟩ := (zr_3 b3).mp ya
      generalize hGa : zx_G hp (zx_N 74 f2 0 / 8) = Ea at h
      obtain ⟨t3, n3, f3, e3⟩ := Ea
      obtain ⟨g, h⟩ := zx_c1 h
      obtain ⟨c3, c4⟩ := zx_an g
      have c3 := zx_beq.mp c3
      have c4 := zx_beq.mp c4
      rw [zx_F_eq] at h
      obtain ⟨b4, h⟩ := zx_c1 h
      have b4 := zx_beq.mp b4
      obtain ⟨cA, ta, fa, hea, hta, hfa⟩ := zq_refs hW hqa hGa (by omega) (by omega)
      have hfan := hfa (zx_A lv 74 1 / 8) (by omega)
      obtain ⟨qn, hqn, eqn⟩ := (zr_3 b4).mp hfan
      have hfq : fa (zx_A lv 74 1 / 8) = some qn := by
        cases hq : fa (zx_A lv 74 1 / 8) with
        | none => rw [hq] at eqn; cases eqn
        | some z => rw [hq] at eqn; cases eqn; rfl
      generalize hGn : zx_G hp (zx_A e3 (zx_N 74 f3 0) (zx_A lv 74 1 / 8) / 8) = En at h
      obtain ⟨t4, n4, f4, e4⟩ := En
      obtain ⟨c5, h⟩ := zx_c1 h
      have c5 := zx_beq.mp c5
      rw [zx_F_eq] at h
      obtain ⟨b5, h⟩ := zx_c1 h
      have b5 := zx_beq.mp b5
      obtain ⟨fn, hen, hfn⟩ := zq_obj hW hqn hGn (by omega)
      obtain ⟨wh, hwh, yh⟩ := zr_2_get hfn (zx_N_some (rfl : zx_N 74 f4 10 = _) (by omega))
      obtain ⟨qh, hqh, rfl⟩ := (zr_3 b5).mp yh
      generalize hGh : zx_G hp (zx_N 74 f4 10 / 8) = Eh at h
      obtain ⟨t5, n5, f5, e5⟩ := Eh
      obtain ⟨g, h⟩ := zx_c1 h
      have d1 := zx_an g
      have d2 := zx_an d1.2
      have d3 := zx_an d2.2
      have c6 := zx_beq.mp d1.1
      have c7 := zx_beq.mp d2.1
      have c8 := zx_beq.mp d3.1
      have c9 := zx_beq.mp d3.2
      rw [zx_Z_eq] at c9
      have c9 := List.eq_nil_of_length_eq_zero c9
      obtain ⟨cH, th, fh, heh, hth, -, hfh⟩ := zq_ints hW hqh hGh (by omega) (by omega)
      have hl2 : lv_has ls 3 [(2, .int (nI 0)), (0, .ref ql), (1, .int (nI (zx_A lv 74 1 / 8)))] := by
        refine ⟨hl.1, hl.2.1, fun q hq => ?_⟩
        simp only [List.mem_cons, List.not_mem_nil, or_false] at hq
        rcases hq with rfl | rfl | rfl
        · have := hl.2.2 _ m2; rw [z2] at this; exact this
        · exact hl.2.2 _ m0
        · have := hl.2.2 _ m1; rw [z1'] at this; exact this
      rw [gt] at hel
      rw [c1] at hes
      rw [c2] at het
      rw [c5] at hen
      rw [c4] at hea
      rw [c7] at heh
      rw [show zr_ty t3 = .object "StubHouse$Node" from by rw [c3]; rfl] at hta
      rw [show zr_ty t5 = .int from by rw [c6]; rfl] at hth
      refine zq_claim_loop hC hx hb hml hts hown hfr hlo hu hw hK hP hD hS hel hw1 hw0 hes het hwa hea hta g4 hfq hen hwh heh hth (fun j hj => ?_) ?_ 32 0 ls rfl hl2
      · have := hfh j (by rw [c7]; exact hj)
        rw [show zr_c (t5, n5, f5, e5) j = 34359738360 from by show zx_A e5 (zx_N 74 f5 0) j = _; rw [c8, c9]; rfl] at this
        have := Value.int.inj ((zr_0 (by decide)).mp this)
        rw [this]
        decide
      · intro ls1 hl1
        exact kk _ _ _ _ _ _ _ _ _ _ _ h ⟨hσ, hS, as, ⟨tys, ws, hK, hW, hP, hD⟩, ⟨_, hl1, ⟨rfl, (zr_0 rfl).mpr rfl⟩, ⟨rfl, z0⟩, ⟨rfl, z1' ▸ z1⟩, trivial⟩, trivial⟩
    · exact hV.elim
  · exact absurd h Bool.false_ne_true
end
section
/-- StubHouse.fill's loop as one instruction: at 31, on at 57; n is a named number from 0 to 256, no byte is at hand -/
noncomputable def zq_hand : zxHD := fun _ _ nxt _ lv stk hp st u w k => match stk with
  | [] => zx_F (zx_A lv 74 0) (fun c => zx_F (zx_A lv 74 1) (fun x1 => zx_F (zx_A lv 74 2) (fun x2 => cond (Nat.beq (c % 8) 3 && (Nat.beq (zx_A lv 74 3) 0 && (zx_i x2 && (Nat.beq (x1 % 8) 4 && Nat.blt (x1 / 8) 300)))) (zx_V st (x1 / 8) (fun lw hg => cond (Nat.ble 2147483648 lw && Nat.ble hg 2147483904) (match zx_G hp (c / 8) with | (t, _, fs, _) => cond (Nat.beq t 26) (zx_F (zx_N 74 fs 8) (fun hr => cond (Nat.beq (hr % 8) 3 && (Nat.beq (zx_N 74 fs 9) 0 && (cond (Nat.beq (hr / 8) (c / 8)) false true))) (zx_F (hr / 8) (fun kh => match zx_G hp kh with | (t1, n1, _, _) => cond (Nat.beq t1 2 && Nat.beq n1 256) (zx_H hp kh (2, 256, [6], []) (fun hp2 => k nxt [(3, x1), (0, c), (1, x1), (2, x2)] [] hp2 st u w)) false)) false)) false) false)) false)))
  | _ => false
def zq_Phand : zkPT := fun y cc nL pc _ _ nxt _ => y.cls = "StubHouse" ∧ cc = prog_1_method_8_code ∧ nL = 4 ∧ pc = 31 ∧ nxt = 57
section ZQ5
variable {p : Program} {l : Launch} {e : Env} {R : Room} {s : State} {m : MethodId} {args : Array Value} {below : List Frame} {meth : Method} {c : Code} {Q : State → Prop} {G : va_G} {A : Nat → Prop} {u w : Nat}
theorem zq_hand_loop (hC : zk_C) (hx : p.tables.exec = Jvm.exec) (hb : c.code = prog_1_method_8_code) (hts : ∀ w ∈ zk_T, w.before args s = true) (hown : s.vm.findClass "StubHouse" = some m.cls) {tys : List (ClassId × FieldType)} {ws : va_W} {km kh qm qh th nn : Nat} {cH : ClassId} {fm : List Value} {x2 : Int32} (hK : va_K G vwCl tys s)
    (hem : ws[km]? = some (qm, .inr (10, fm))) (h8 : fm[8]? = some (.ref qh)) (h9 : fm[9]? = some (.int (nI 0))) (hnn : nn ≤ 256) (hth : tys[th]? = some (cH, .byte)) (hlen : kh < ws.length) (hkm : kh ≠ km)
    (kk : ∀ (g : Nat → Int32) (H : Heap) (locs : List Loc) (ls : Array Slot), va_P G vwCl (ws.set kh (qh, .inl (cH, 256, .inl g))) H → va_D A (ws.set kh (qh, .inl (cH, 256, .inl g))) → va_S A s.heap H locs → lv_has ls 4 [(3, .int (nI nn)), (0, .ref qm), (1, .int (nI nn)), (2, .int x2)] → W p l e R s m args below meth c H locs u w Q (F0 m 57 ls [])) :
    ∀ (k i : Nat) (g : Nat → Int32) (H : Heap) (locs : List Loc) (ls : Array Slot), i + k = nn → va_P G vwCl (ws.set kh (qh, .inl (cH, 256, .inl g))) H → va_D A (ws.set kh (qh, .inl (cH, 256, .inl g))) → va_S A s.heap H locs → lv_has ls 4 [(3, .int (nI i)), (0, .ref qm), (1, .int (nI nn)), (2, .int x2)] → W p l e R s m args below meth c H locs u w Q (F0 m 31 ls []) := by
  have hin := (hC 10 _ _ _ rfl).1
  intro k
  induction k with
  | zero =>
    intro i g H locs ls hi hP hD hS hl
    have hi : i = nn := hi
    subst hi
    refine lv_iload_n hx hb (k := 3) (by decide +kernel) rfl (lv_at hl 0 rfl) ?_
    refine lv_iload_n hx hb (k := 1) (by decide +kernel) rfl (lv_at hl 2 rfl) ?_
    refine lv_icmp_ge (tgt := 57) (off := 24) hx hb (by decide +kernel) (by decide) (fun _ => ?_) (fun q => absurd (Int32.le_refl _) q)
    exact kk g H locs ls hP hD hS hl
  | succ k ih =>
    intro i g H locs ls hi hP hD hS hl
    have hin2 : i < nn := by omega
    have hem2 : (ws.set kh (qh, .inl (cH, 256, .inl g)))[km]? = some (qm, .inr (10, fm)) := by rw [List.getElem?_set_ne hkm]; exact hem
    refine lv_iload_n hx hb (k := 3) (by decide +kernel) rfl (lv_at hl 0 rfl) ?_
    refine lv_iload_n hx hb (k := 1) (by decide +kernel) rfl (lv_at hl 2 rfl) ?_
    refine lv_icmp_ge (tgt := 57) (off := 24) hx hb (by decide +kernel) (by decide) (fun q => absurd q (nI_ge hin2 (by omega))) (fun _ => ?_)
    refine lv_aload_n hx hb (k := 0) (by decide +kernel) rfl (lv_at hl 1 rfl) ?_
    refine va_get (ref := "StubHouse") hx hb hts hin hown hK hP km hem2 rfl 8 (by decide) (hts (.fieldLink "StubHouse" 9 "StubHouse" "hand" "[B") (zk_h_eq (n := 880) (by decide +kernel) rfl rfl)) (fun _ h9 => h9) h8 (by decide +kernel) ?_
    refine lv_aload_n hx hb (k := 0) (by decide +kernel) rfl (lv_at hl 1 rfl) ?_
    refine va_get (ref := "StubHouse") hx hb hts hin hown hK hP km hem2 rfl 9 (by decide) (hts (.fieldLink "StubHouse" 155 "StubHouse" "handCount" "I") (zk_h_eq (n := 881) (by decide +kernel) rfl rfl)) (fun _ h9 => h9) h9 (by decide +kernel) ?_
    refine lv_iload_n hx hb (k := 3) (by decide +kernel) rfl (lv_at hl 0 rfl) ?_
    refine lv_iadd hx hb (by decide +kernel) ?_
    rw [nI_add, Nat.zero_add]
    refine lv_iload_n hx hb (k := 2) (by decide +kernel) rfl (lv_at hl 3 rfl) ?_
    refine lv_iload_n hx hb (k := 3) (by decide +kernel) rfl (lv_at hl 0 rfl) ?_
    refine lv_iadd hx hb (by decide +kernel) ?_
    refine lv_i2b hx hb (by decide +kernel) rfl ?_
    refine va_bast hx hb hK hP hD hS kh th (List.getElem?_set_self hlen) hth (vp_in_nI (by omega) (by decide)) (by decide +kernel) (fun H locs hP hD hS => ?_)
    rw [List.set_set] at hP hD
    refine lv_iinc (k := 0) (v := nI (i + 1)) (lv' := [(3, .int (nI (i + 1))), (0, .ref qm), (1, .int (nI nn)), (2, .int x2)]) (n := 1) hx hb (by decide +kernel) hl rfl (nI_1 i) (by decide) rfl (fun ls hl => ?_)
    refine lv_goto (tgt := 31) (off := -23) hx hb (by decide +kernel) (by decide) ?_
    exact ih (i + 1) _ H locs ls (by omega) hP hD hS hl
end ZQ5
set_option maxRecDepth 20000 in
theorem zq_hand_ok (hC : zk_C) : zk_HO zq_hand zq_Phand := by
  intro p l e R s m args below meth c Q cc nL G σ b A y pc a a2 nxt d lv stk hp st u w k H locs ls vs ⟨hx, hb, hml, hown, hts, hnm, hA, hN⟩ ⟨hy, h1, h2, h3, h4⟩ hk h r kk
  subst h1
  subst h2
  subst h3
  subst h4
  rw [hy] at hown
  obtain ⟨hσ, hS, as, ⟨tys, ws, hK, hW, hP, hD⟩, ⟨lv', hl, hL⟩, hV⟩ := r
  rcases stk with _ | ⟨x, rr⟩
  · rcases vs with _ | ⟨vx, vr⟩
    · unfold zq_hand at h
      rw [zx_F_eq, zx_F_eq, zx_F_eq] at h
      obtain ⟨g, h⟩ := zx_c1 h
      have a1 := zx_an g
      have a2 := zx_an a1.2
      have a3 := zx_an a2.2
      have a4 := zx_an a3.2
      have g1 := zx_beq.mp a1.1
      have g2 := zx_beq.mp a2.1
      have g3 := a3.1
      have g4 := zx_beq.mp a4.1
      have g5 := zx_blt.mp a4.2
      obtain ⟨v0, m0, z0⟩ := zr_LV_get (fun q => by rw [q] at g1; exact absurd g1 (by decide)) hL (rfl : zx_A lv 74 0 = _)
      obtain ⟨v3, m3, z3⟩ := zr_LV_get (by decide) hL g2
      obtain ⟨v2, m2, z2⟩ := zr_LV_get (fun q => by rw [q] at g3; exact absurd g3 (by decide)) hL (rfl : zx_A lv 74 2 = _)
      obtain ⟨v1, m1, z1⟩ := zr_LV_get (fun q => by rw [q] at g4; exact absurd g4 (by decide)) hL (rfl : zx_A lv 74 1 = _)
      obtain ⟨qm, hqm, rfl⟩ := (zr_3 g1).mp z0
      have z3 := (zr_0 rfl).mp z3
      obtain ⟨x2, rfl⟩ := zr_int g3 z2
      have z1' := (zr_4 g4).mp z1
      obtain ⟨lw, hg, e1, hb1⟩ := zx_V_ok (zx_A lv 74 1 / 8) (fun lw hg => cond (Nat.ble 2147483648 lw && Nat.ble hg 2147483904) (match zx_G hp (zx_A lv 74 0 / 8) with | (t, _, fs, _) => cond (Nat.beq t 26) (zx_F (zx_N 74 fs 8) (fun hr => cond (Nat.beq (hr % 8) 3 && (Nat.beq (zx_N 74 fs 9) 0 && (cond (Nat.beq (hr / 8) (zx_A lv 74 0 / 8)) false true))) (zx_F (hr / 8) (fun kh => match zx_G hp kh with | (t1, n1, _, _) => cond (Nat.beq t1 2 && Nat.beq n1 256) (zx_H hp kh (2, 256, [6], []) (fun hp2 => k 57 [(3, zx_A lv 74 1), (0, zx_A lv 74 0), (1, zx_A lv 74 1), (2, zx_A lv 74 2)] [] hp2 st u w)) false)) false)) false) false) st
      have h := e1.symm.trans h
      obtain ⟨g, h⟩ := zx_c1 h
      obtain ⟨g6, g7⟩ := zx_an g
      have g6 := zx_ble.mp g6
      have g7 := zx_ble.mp g7
      have hbn := hb1 σ hσ
      rw [zr_n_s g5] at hbn
      generalize hGm : zx_G hp (zx_A lv 74 0 / 8) = E at h
      obtain ⟨t, n, fs, es0⟩ := E
      obtain ⟨gt, h⟩ := zx_c1 h
      have gt := zx_beq.mp gt
      rw [zx_F_eq] at h
      obtain ⟨g, h⟩ := zx_c1 h
      have c1 := zx_an g
      have c2 := zx_an c1.2
      have c3 := zx_c0 c2.2
      have b1 := zx_beq.mp c1.1
      have b2 := zx_beq.mp c2.1
      have b3 := zx_nbeq.mp c3.1
      rw [zx_F_eq] at h
      obtain ⟨fm, hem, hfm⟩ := zq_obj hW hqm hGm (by omega)
      rw [gt] at hem
      obtain ⟨w8, hw8, y8⟩ := zr_2_get hfm (zx_N_some (rfl : zx_N 74 fs 8 = _) (by omega))
      obtain ⟨w9, hw9, y9⟩ := zr_2_get hfm (zx_N_some (rfl : zx_N 74 fs 9 = _) (by omega))
      obtain ⟨qh, hqh, rfl⟩ := (zr_3 b1).mp y8
      rw [b2] at y9
      have y9 := (zr_0 rfl).mp y9
      subst y9
      generalize hGh : zx_G hp (zx_N 74 fs 8 / 8) = Eh at h
      obtain ⟨t1, n1, f1, e1⟩ := Eh
      obtain ⟨g, h⟩ := zx_c1 h
      obtain ⟨c4, c5⟩ := zx_an g
      have c4 := zx_beq.mp c4
      have c5 := zx_beq.mp c5
      obtain ⟨cH, th, fh, heh, hth, -, hfh⟩ := zq_ints hW hqh hGh (by omega) (by omega)
      obtain ⟨hp', e3, zz2, zz3⟩ := zx_H_ok hp (zx_N 74 fs 8 / 8) (2, 256, [6], []) (fun hp2 => k 57 [(3, zx_A lv 74 1), (0, zx_A lv 74 0), (1, zx_A lv 74 1), (2, zx_A lv 74 2)] [] hp2 st u w) (by rw [hGh]; show t1 ≠ 0; omega)
      rw [e3] at h
      rw [show zr_ty t1 = .byte from by rw [c4]; rfl] at hth
      rw [c5] at heh
      have hnn : ∃ nn, nn ≤ 256 ∧ zr_d σ (zx_A lv 74 1 / 8) = nI nn := by
        refine ⟨zr_b (zr_d σ (zx_A lv 74 1 / 8)) - 2147483648, by omega, ?_⟩
        apply zr_b_inj
        rw [zr_b_nI]
        unfold zx_u
        omega
      obtain ⟨nn, hn256, hnv⟩ := hnn
      rw [hnv] at z1'
      subst z1'
      have hl2 : lv_has ls 4 [(3, .int (nI 0)), (0, .ref qm), (1, .int (nI nn)), (2, .int x2)] := by
        refine ⟨hl.1, hl.2.1, fun q hq => ?_⟩
        simp only [List.mem_cons, List.not_mem_nil, or_false] at hq
        rcases hq with rfl | rfl | rfl | rfl
        · have := hl.2.2 _ m3; rw [z3] at this; exact this
        · exact hl.2.2 _ m0
        · exact hl.2.2 _ m1
        · exact hl.2.2 _ m2
      refine zq_hand_loop (nn := nn) hC hx hb hts hown hK hem hw8 hw9 hn256 hth (List.getElem?_eq_some_iff.mp heh).1 b3 ?_ nn 0 fh H locs ls (Nat.zero_add nn) (by rw [zq_same heh]; exact hP) (by rw [zq_same heh]; exact hD) hS hl2
      intro g H1 locs1 ls1 hP1 hD1 hS1 hl1
      refine kk _ _ _ _ _ _ _ _ _ _ _ h ⟨hσ, hS1, as, ⟨tys, _, hK, zr_W_set hW hqh zz2 zz3 ?_, hP1, hD1⟩, ⟨_, hl1, ⟨rfl, z1⟩, ⟨rfl, z0⟩, ⟨rfl, z1⟩, ⟨rfl, z2⟩, trivial⟩, trivial⟩
      exact Or.inr ⟨show 2 < 16 by decide, show 0 < 2 by decide, show 256 < 2147483648 by decide, cH, th, hth, Or.inl ⟨show 2 < 4 by decide, g, rfl, fun j _ => zr_any⟩⟩
    · exact hV.elim
  · exact absurd h Bool.false_ne_true
end
section
/-! the loops that are one instruction each, in a list, with the checks of their rows -/
noncomputable def zx_pr : List zxHD := [zq_fill, zq_copy, zq_back, zq_claim, zq_hand]
def zk_Ps : List zkPT := [zq_Pfill, zq_Pcopy, zq_Pback, zq_Pclaim, zq_Phand]
theorem zk_Ps_ok (hC : zk_C) : zr_2 zk_HP zx_pr zk_Ps := ⟨zk_HP_of zq_fill_ok, zk_HP_of (zq_copy_ok hC), zk_HP_of (zq_back_ok hC), zq_claim_ok hC, zk_HP_of (zq_hand_ok hC), trivial⟩
def zc_Pfill : zkCK := fun _ cc nL pc _ _ nxt _ => decide (cc = prog_17_method_103_code) && decide (nL = 4 ∧ pc = 5 ∧ nxt = 20)
def zc_Pcopy : zkCK := fun y cc nL pc _ _ nxt _ => decide (y.cls = "StubHouseModel") && (decide (cc = prog_14_method_7_code) && decide (nL = 2 ∧ pc = 2 ∧ nxt = 36))
def zc_Pback : zkCK := fun y cc nL pc _ _ nxt _ => decide (y.cls = "StubHouseModel") && (decide (cc = prog_14_method_49_code) && decide (nL = 6 ∧ pc = 61 ∧ nxt = 95))
def zc_Pclaim : zkCK := fun y cc nL pc _ _ nxt _ => decide (y.cls = "StubHouse$Log") && (decide (cc = prog_5_method_11_code) && decide (nL = 3 ∧ pc = 17 ∧ nxt = 50))
def zc_Phand : zkCK := fun y cc nL pc _ _ nxt _ => decide (y.cls = "StubHouse") && (decide (cc = prog_1_method_8_code) && decide (nL = 4 ∧ pc = 31 ∧ nxt = 57))
def zk_Cs : List zkCK := [zc_Pfill, zc_Pcopy, zc_Pback, zc_Pclaim, zc_Phand]
theorem zk_Cs_ok : zr_2 zk_CO zk_Cs zk_Ps := by
  refine ⟨?_, ?_, ?_, ?_, ?_, trivial⟩
  · intro y cc nL pc a b nxt d h
    obtain ⟨h1, h2⟩ := zx_an h
    exact ⟨of_decide_eq_true h1, of_decide_eq_true h2⟩
  all_goals
    intro y cc nL pc a b nxt d h
    obtain ⟨h0, h⟩ := zx_an h
    obtain ⟨h1, h2⟩ := zx_an h
    exact ⟨of_decide_eq_true h0, of_decide_eq_true h1, of_decide_eq_true h2⟩
end
section
/-! the rows of the tables, checked -/
set_option maxRecDepth 20000 in
theorem zm_0 : zc_meth (⟨"StubHouseModel", "at", "(II)I"⟩, prog_14_method_5_code, 3, (some .int)) (2810, 14, 2809, 5206) = true := by decide +kernel
set_option maxRecDepth 20000 in
theorem za_0 : zc_all zk_ms2 zk_mh zk_Cs zk_nms ⟨"StubHouseModel", "at", "(II)I"⟩ prog_14_method_5_code 3 (some .int) ztb_0 = true := by decide +kernel
set_option maxRecDepth 20000 in
theorem zm_1 : zc_meth (⟨"StubHouseModel", "in", "(JJJ)Z"⟩, prog_14_method_2_code, 6, (some .boolean)) (2806, 14, 2805, 0) = true := by decide +kernel
set_option maxRecDepth 20000 in
theorem za_1 : zc_all zk_ms2 zk_mh zk_Cs zk_nms ⟨"StubHouseModel", "in", "(JJJ)Z"⟩ prog_14_method_2_code 6 (some .boolean) ztb_1 = true := by decide +kernel
set_option maxRecDepth 20000 in
theorem zm_2 : zc_meth (⟨"java/util/Arrays", "fill", "([II)V"⟩, prog_17_method_103_code, 4, none) (40, 4, 39, 0) = true := by decide +kernel
set_option maxRecDepth 20000 in
theorem za_2 : zc_all zk_ms2 zk_mh zk_Cs zk_nms ⟨"java/util/Arrays", "fill", "([II)V"⟩ prog_17_method_103_code 4 none ztb_2 = true := by decide +kernel
set_option maxRecDepth 20000 in
theorem zm_3 : zc_meth (⟨"StubHouseModel", "isFile", "(I)Z"⟩, prog_14_method_11_code, 2, (some .boolean)) (2957, 14, 2956, 5615) = true := by decide +kernel
set_option maxRecDepth 20000 in
theorem za_3 : zc_all zk_ms2 zk_mh zk_Cs zk_nms ⟨"StubHouseModel", "isFile", "(I)Z"⟩ prog_14_method_11_code 2 (some .boolean) ztb_3 = true := by decide +kernel
set_option maxRecDepth 20000 in
theorem zm_4 : zc_meth (⟨"StubHouse$Node", "<init>", "()V"⟩, prog_7_method_1_code, 1, none) (36, 3, 35, 0) = true := by decide +kernel
set_option maxRecDepth 20000 in
theorem za_4 : zc_all zk_ms2 zk_mh zk_Cs zk_nms ⟨"StubHouse$Node", "<init>", "()V"⟩ prog_7_method_1_code 1 none ztb_4 = true := by decide +kernel
set_option maxRecDepth 20000 in
theorem zm_5 : zc_meth (⟨"StubHouseModel", "isDirectory", "(I)Z"⟩, prog_14_method_12_code, 2, (some .boolean)) (2802, 14, 2801, 5205) = true := by decide +kernel
set_option maxRecDepth 20000 in
theorem za_5 : zc_all zk_ms2 zk_mh zk_Cs zk_nms ⟨"StubHouseModel", "isDirectory", "(I)Z"⟩ prog_14_method_12_code 2 (some .boolean) ztb_5 = true := by decide +kernel
set_option maxRecDepth 20000 in
theorem zm_6 : zc_meth (⟨"StubHouseModel", "set", "(III)V"⟩, prog_14_method_6_code, 4, none) (2846, 14, 2845, 5213) = true := by decide +kernel
set_option maxRecDepth 20000 in
theorem za_6 : zc_all zk_ms2 zk_mh zk_Cs zk_nms ⟨"StubHouseModel", "set", "(III)V"⟩ prog_14_method_6_code 4 none ztb_6 = true := by decide +kernel
set_option maxRecDepth 20000 in
theorem zm_7 : zc_meth (⟨"StubHouseModel", "make", "(IJZ)I"⟩, prog_14_method_23_code, 6, (some .int)) (2638, 14, 2636, 2637) = true := by decide +kernel
set_option maxRecDepth 20000 in
theorem za_7 : zc_all zk_ms2 zk_mh zk_Cs zk_nms ⟨"StubHouseModel", "make", "(IJZ)I"⟩ prog_14_method_23_code 6 (some .int) ztb_7 = true := by decide +kernel
set_option maxRecDepth 20000 in
theorem zm_8 : zc_meth (⟨"StubHouseModel", "about", "(II)I"⟩, prog_14_method_41_code, 4, (some .int)) (2993, 14, 2991, 2992) = true := by decide +kernel
set_option maxRecDepth 20000 in
theorem za_8 : zc_all zk_ms2 zk_mh zk_Cs zk_nms ⟨"StubHouseModel", "about", "(II)I"⟩ prog_14_method_41_code 4 (some .int) ztb_8 = true := by decide +kernel
set_option maxRecDepth 20000 in
theorem zm_9 : zc_meth (⟨"StubHouse$Tape", "scan", "()V"⟩, prog_10_method_15_code, 1, none) (1006, 9, 1004, 1005) = true := by decide +kernel
set_option maxRecDepth 20000 in
theorem za_9 : zc_all zk_ms2 zk_mh zk_Cs zk_nms ⟨"StubHouse$Tape", "scan", "()V"⟩ prog_10_method_15_code 1 none ztb_9 = true := by decide +kernel
set_option maxRecDepth 20000 in
theorem zm_10 : zc_meth (⟨"StubHouseModel", "scan", "(I)V"⟩, prog_14_method_60_code, 10, none) (2882, 14, 2881, 5604) = true := by decide +kernel
set_option maxRecDepth 20000 in
theorem za_10 : zc_all zk_ms2 zk_mh zk_Cs zk_nms ⟨"StubHouseModel", "scan", "(I)V"⟩ prog_14_method_60_code 10 none ztb_10 = true := by decide +kernel
set_option maxRecDepth 20000 in
theorem zm_11 : zc_meth (⟨"StubHouseModel", "find", "(IJ)I"⟩, prog_14_method_24_code, 4, (some .int)) (2858, 14, 2856, 2857) = true := by decide +kernel
set_option maxRecDepth 20000 in
theorem za_11 : zc_all zk_ms2 zk_mh zk_Cs zk_nms ⟨"StubHouseModel", "find", "(IJ)I"⟩ prog_14_method_24_code 4 (some .int) ztb_11 = true := by decide +kernel
set_option maxRecDepth 20000 in
theorem zm_12 : zc_meth (⟨"StubHouseModel", "remove", "(I)I"⟩, prog_14_method_27_code, 4, (some .int)) (2862, 14, 2860, 2861) = true := by decide +kernel
set_option maxRecDepth 20000 in
theorem za_12 : zc_all zk_ms2 zk_mh zk_Cs zk_nms ⟨"StubHouseModel", "remove", "(I)I"⟩ prog_14_method_27_code 4 (some .int) ztb_12 = true := by decide +kernel
set_option maxRecDepth 20000 in
theorem zm_13 : zc_meth (⟨"StubHouseModel", "move", "(IIJ)I"⟩, prog_14_method_29_code, 8, (some .int)) (2935, 14, 2933, 2934) = true := by decide +kernel
set_option maxRecDepth 20000 in
theorem za_13 : zc_all zk_ms2 zk_mh zk_Cs zk_nms ⟨"StubHouseModel", "move", "(IIJ)I"⟩ prog_14_method_29_code 8 (some .int) ztb_13 = true := by decide +kernel
set_option maxRecDepth 20000 in
theorem zm_14 : zc_meth (⟨"StubHouseModel", "write", "(II)I"⟩, prog_14_method_37_code, 8, (some .int)) (2953, 14, 2951, 2952) = true := by decide +kernel
set_option maxRecDepth 20000 in
theorem za_14 : zc_all zk_ms2 zk_mh zk_Cs zk_nms ⟨"StubHouseModel", "write", "(II)I"⟩ prog_14_method_37_code 8 (some .int) ztb_14 = true := by decide +kernel
set_option maxRecDepth 20000 in
theorem zm_15 : zc_meth (⟨"StubHouseModel", "cut", "(II)I"⟩, prog_14_method_38_code, 7, (some .int)) (2985, 14, 2983, 2984) = true := by decide +kernel
set_option maxRecDepth 20000 in
theorem za_15 : zc_all zk_ms2 zk_mh zk_Cs zk_nms ⟨"StubHouseModel", "cut", "(II)I"⟩ prog_14_method_38_code 7 (some .int) ztb_15 = true := by decide +kernel
set_option maxRecDepth 20000 in
theorem zm_16 : zc_meth (⟨"StubHouseModel", "read", "(II)I"⟩, prog_14_method_39_code, 4, (some .int)) (2989, 14, 2987, 2988) = true := by decide +kernel
set_option maxRecDepth 20000 in
theorem za_16 : zc_all zk_ms2 zk_mh zk_Cs zk_nms ⟨"StubHouseModel", "read", "(II)I"⟩ prog_14_method_39_code 4 (some .int) ztb_16 = true := by decide +kernel
set_option maxRecDepth 20000 in
theorem zm_17 : zc_meth (⟨"StubHouseModel", "name", "(I)J"⟩, prog_14_method_42_code, 2, (some .long)) (3006, 14, 3004, 3005) = true := by decide +kernel
set_option maxRecDepth 20000 in
theorem za_17 : zc_all zk_ms2 zk_mh zk_Cs zk_nms ⟨"StubHouseModel", "name", "(I)J"⟩ prog_14_method_42_code 2 (some .long) ztb_17 = true := by decide +kernel
set_option maxRecDepth 20000 in
theorem zm_18 : zc_meth (⟨"StubHouseModel", "block", "(II)I"⟩, prog_14_method_43_code, 4, (some .int)) (3010, 14, 3008, 3009) = true := by decide +kernel
set_option maxRecDepth 20000 in
theorem za_18 : zc_all zk_ms2 zk_mh zk_Cs zk_nms ⟨"StubHouseModel", "block", "(II)I"⟩ prog_14_method_43_code 4 (some .int) ztb_18 = true := by decide +kernel
set_option maxRecDepth 20000 in
theorem zm_19 : zc_meth (⟨"StubHouseModel", "copy", "(III)I"⟩, prog_14_method_44_code, 4, (some .int)) (3014, 14, 3012, 3013) = true := by decide +kernel
set_option maxRecDepth 20000 in
theorem za_19 : zc_all zk_ms2 zk_mh zk_Cs zk_nms ⟨"StubHouseModel", "copy", "(III)I"⟩ prog_14_method_44_code 4 (some .int) ztb_19 = true := by decide +kernel
set_option maxRecDepth 20000 in
theorem zm_20 : zc_meth (⟨"StubHouse$Node", "clear", "()V"⟩, prog_7_method_2_code, 1, none) (977, 3, 975, 976) = true := by decide +kernel
set_option maxRecDepth 20000 in
theorem za_20 : zc_all zk_ms2 zk_mh zk_Cs zk_nms ⟨"StubHouse$Node", "clear", "()V"⟩ prog_7_method_2_code 1 none ztb_20 = true := by decide +kernel
set_option maxRecDepth 20000 in
theorem zm_21 : zc_meth (⟨"StubHouseModel", "segment", "(III)I"⟩, prog_14_method_70_code, 4, (some .int)) (3236, 14, 3234, 3235) = true := by decide +kernel
set_option maxRecDepth 20000 in
theorem za_21 : zc_all zk_ms2 zk_mh zk_Cs zk_nms ⟨"StubHouseModel", "segment", "(III)I"⟩ prog_14_method_70_code 4 (some .int) ztb_21 = true := by decide +kernel
set_option maxRecDepth 20000 in
theorem zm_22 : zc_meth (⟨"StubHouseModel", "tape", "(II)I"⟩, prog_14_method_66_code, 5, (some .int)) (3207, 14, 3205, 3206) = true := by decide +kernel
set_option maxRecDepth 20000 in
theorem za_22 : zc_all zk_ms2 zk_mh zk_Cs zk_nms ⟨"StubHouseModel", "tape", "(II)I"⟩ prog_14_method_66_code 5 (some .int) ztb_22 = true := by decide +kernel
set_option maxRecDepth 20000 in
theorem zm_23 : zc_meth (⟨"StubHouseModel", "noPlace", "(II)Z"⟩, prog_14_method_67_code, 3, (some .boolean)) (3228, 14, 3227, 6013) = true := by decide +kernel
set_option maxRecDepth 20000 in
theorem za_23 : zc_all zk_ms2 zk_mh zk_Cs zk_nms ⟨"StubHouseModel", "noPlace", "(II)Z"⟩ prog_14_method_67_code 3 (some .boolean) ztb_23 = true := by decide +kernel
set_option maxRecDepth 20000 in
theorem zm_24 : zc_meth (⟨"StubHouseModel", "marks", "(III)I"⟩, prog_14_method_45_code, 5, (some .int)) (3018, 14, 3016, 3017) = true := by decide +kernel
set_option maxRecDepth 20000 in
theorem za_24 : zc_all zk_ms2 zk_mh zk_Cs zk_nms ⟨"StubHouseModel", "marks", "(III)I"⟩ prog_14_method_45_code 5 (some .int) ztb_24 = true := by decide +kernel
set_option maxRecDepth 20000 in
theorem zm_25 : zc_meth (⟨"StubHouseModel", "told", "(I)I"⟩, prog_14_method_120_code, 4, (some .int)) (3422, 14, 3420, 3421) = true := by decide +kernel
set_option maxRecDepth 20000 in
theorem za_25 : zc_all zk_ms2 zk_mh zk_Cs zk_nms ⟨"StubHouseModel", "told", "(I)I"⟩ prog_14_method_120_code 4 (some .int) ztb_25 = true := by decide +kernel
set_option maxRecDepth 20000 in
theorem zm_26 : zc_meth (⟨"StubHouse$Library", "scanAll", "()V"⟩, prog_4_method_6_code, 2, none) (1002, 8, 1000, 1001) = true := by decide +kernel
set_option maxRecDepth 20000 in
theorem za_26 : zc_all zk_ms2 zk_mh zk_Cs zk_nms ⟨"StubHouse$Library", "scanAll", "()V"⟩ prog_4_method_6_code 2 none ztb_26 = true := by decide +kernel
set_option maxRecDepth 20000 in
theorem zm_27 : zc_meth (⟨"StubHouseModel", "byteOf", "(II)I"⟩, prog_14_method_68_code, 3, (some .int)) (3224, 14, 3222, 3223) = true := by decide +kernel
set_option maxRecDepth 20000 in
theorem za_27 : zc_all zk_ms2 zk_mh zk_Cs zk_nms ⟨"StubHouseModel", "byteOf", "(II)I"⟩ prog_14_method_68_code 3 (some .int) ztb_27 = true := by decide +kernel
set_option maxRecDepth 20000 in
theorem zm_28 : zc_meth (⟨"StubHouseModel", "spoil", "(III)I"⟩, prog_14_method_69_code, 4, (some .int)) (3232, 14, 3230, 3231) = true := by decide +kernel
set_option maxRecDepth 20000 in
theorem za_28 : zc_all zk_ms2 zk_mh zk_Cs zk_nms ⟨"StubHouseModel", "spoil", "(III)I"⟩ prog_14_method_69_code 4 (some .int) ztb_28 = true := by decide +kernel
set_option maxRecDepth 20000 in
theorem zm_29 : zc_meth (⟨"StubHouse$Tree", "isThere", "(I)Z"⟩, prog_11_method_4_code, 2, (some .boolean)) (917, 2, 915, 916) = true := by decide +kernel
set_option maxRecDepth 20000 in
theorem za_29 : zc_all zk_ms2 zk_mh zk_Cs zk_nms ⟨"StubHouse$Tree", "isThere", "(I)Z"⟩ prog_11_method_4_code 2 (some .boolean) ztb_29 = true := by decide +kernel
set_option maxRecDepth 20000 in
theorem zm_30 : zc_meth (⟨"StubHouseModel", "view", "(II)I"⟩, prog_14_method_75_code, 3, (some .int)) (3240, 14, 3238, 3239) = true := by decide +kernel
set_option maxRecDepth 20000 in
theorem za_30 : zc_all zk_ms2 zk_mh zk_Cs zk_nms ⟨"StubHouseModel", "view", "(II)I"⟩ prog_14_method_75_code 3 (some .int) ztb_30 = true := by decide +kernel
set_option maxRecDepth 20000 in
theorem zm_31 : zc_meth (⟨"StubHouseModel", "drive", "(II)I"⟩, prog_14_method_117_code, 3, (some .int)) (3418, 14, 3416, 3417) = true := by decide +kernel
set_option maxRecDepth 20000 in
theorem za_31 : zc_all zk_ms2 zk_mh zk_Cs zk_nms ⟨"StubHouseModel", "drive", "(II)I"⟩ prog_14_method_117_code 3 (some .int) ztb_31 = true := by decide +kernel
set_option maxRecDepth 20000 in
theorem zm_32 : zc_meth (⟨"StubHouseModel", "feed", "(IJ)I"⟩, prog_14_method_30_code, 5, (some .int)) (2943, 14, 2941, 2942) = true := by decide +kernel
set_option maxRecDepth 20000 in
theorem za_32 : zc_all zk_ms2 zk_mh zk_Cs zk_nms ⟨"StubHouseModel", "feed", "(IJ)I"⟩ prog_14_method_30_code 5 (some .int) ztb_32 = true := by decide +kernel
set_option maxRecDepth 20000 in
theorem zm_33 : zc_meth (⟨"StubHouseModel", "reclaim", "(I)I"⟩, prog_14_method_94_code, 2, (some .int)) (3276, 14, 3274, 3275) = true := by decide +kernel
set_option maxRecDepth 20000 in
theorem za_33 : zc_all zk_ms2 zk_mh zk_Cs zk_nms ⟨"StubHouseModel", "reclaim", "(I)I"⟩ prog_14_method_94_code 2 (some .int) ztb_33 = true := by decide +kernel
set_option maxRecDepth 20000 in
theorem zm_34 : zc_meth (⟨"StubHouseModel", "copyOut", "()V"⟩, prog_14_method_7_code, 2, none) (2462, 14, 2461, 5204) = true := by decide +kernel
set_option maxRecDepth 20000 in
theorem za_34 : zc_all zk_ms2 zk_mh zk_Cs zk_nms ⟨"StubHouseModel", "copyOut", "()V"⟩ prog_14_method_7_code 2 none ztb_34 = true := by decide +kernel
set_option maxRecDepth 20000 in
theorem zm_35 : zc_meth (⟨"StubHouseModel", "step", "(I)I"⟩, prog_14_method_116_code, 3, (some .int)) (3280, 14, 3278, 3279) = true := by decide +kernel
set_option maxRecDepth 20000 in
theorem za_35 : zc_all zk_ms2 zk_mh zk_Cs zk_nms ⟨"StubHouseModel", "step", "(I)I"⟩ prog_14_method_116_code 3 (some .int) ztb_35 = true := by decide +kernel
set_option maxRecDepth 20000 in
theorem zm_36 : zc_meth (⟨"StubHouseModel", "inUse", "(I)I"⟩, prog_14_method_110_code, 4, (some .int)) (3398, 14, 3397, 7201) = true := by decide +kernel
set_option maxRecDepth 20000 in
theorem za_36 : zc_all zk_ms2 zk_mh zk_Cs zk_nms ⟨"StubHouseModel", "inUse", "(I)I"⟩ prog_14_method_110_code 4 (some .int) ztb_36 = true := by decide +kernel
set_option maxRecDepth 20000 in
theorem zm_37 : zc_meth (⟨"StubHouseModel", "scanAll", "()V"⟩, prog_14_method_61_code, 2, none) (2878, 14, 2877, 5603) = true := by decide +kernel
set_option maxRecDepth 20000 in
theorem za_37 : zc_all zk_ms2 zk_mh zk_Cs zk_nms ⟨"StubHouseModel", "scanAll", "()V"⟩ prog_14_method_61_code 2 none ztb_37 = true := by decide +kernel
set_option maxRecDepth 20000 in
theorem zm_38 : zc_meth (⟨"StubHouseModel", "findView", "()V"⟩, prog_14_method_74_code, 7, none) (3244, 14, 3243, 6014) = true := by decide +kernel
set_option maxRecDepth 20000 in
theorem za_38 : zc_all zk_ms2 zk_mh zk_Cs zk_nms ⟨"StubHouseModel", "findView", "()V"⟩ prog_14_method_74_code 7 none ztb_38 = true := by decide +kernel
set_option maxRecDepth 20000 in
theorem zm_39 : zc_meth (⟨"StubHouse$Tape", "<init>", "()V"⟩, prog_10_method_1_code, 1, none) (445, 9, 444, 0) = true := by decide +kernel
set_option maxRecDepth 20000 in
theorem za_39 : zc_all zk_ms2 zk_mh zk_Cs zk_nms ⟨"StubHouse$Tape", "<init>", "()V"⟩ prog_10_method_1_code 1 none ztb_39 = true := by decide +kernel
set_option maxRecDepth 20000 in
theorem zm_40 : zc_meth (⟨"StubHouse$Tree", "leastAbsent", "()I"⟩, prog_11_method_9_code, 2, (some .int)) (929, 2, 927, 928) = true := by decide +kernel
set_option maxRecDepth 20000 in
theorem za_40 : zc_all zk_ms2 zk_mh zk_Cs zk_nms ⟨"StubHouse$Tree", "leastAbsent", "()I"⟩ prog_11_method_9_code 2 (some .int) ztb_40 = true := by decide +kernel
set_option maxRecDepth 20000 in
theorem zm_41 : zc_meth (⟨"StubHouse$Drive", "takeOff", "()V"⟩, prog_3_method_8_code, 1, none) (1607, 10, 1606, 0) = true := by decide +kernel
set_option maxRecDepth 20000 in
theorem za_41 : zc_all zk_ms2 zk_mh zk_Cs zk_nms ⟨"StubHouse$Drive", "takeOff", "()V"⟩ prog_3_method_8_code 1 none ztb_41 = true := by decide +kernel
set_option maxRecDepth 20000 in
theorem zm_42 : zc_meth (⟨"StubHouse$Drive", "begin", "(III)V"⟩, prog_3_method_6_code, 4, none) (1613, 10, 1609, 0) = true := by decide +kernel
set_option maxRecDepth 20000 in
theorem za_42 : zc_all zk_ms2 zk_mh zk_Cs zk_nms ⟨"StubHouse$Drive", "begin", "(III)V"⟩ prog_3_method_6_code 4 none ztb_42 = true := by decide +kernel
set_option maxRecDepth 20000 in
theorem zm_43 : zc_meth (⟨"StubHouse$Drive", "spend", "()Z"⟩, prog_3_method_7_code, 2, (some .boolean)) (2020, 10, 2019, 0) = true := by decide +kernel
set_option maxRecDepth 20000 in
theorem za_43 : zc_all zk_ms2 zk_mh zk_Cs zk_nms ⟨"StubHouse$Drive", "spend", "()Z"⟩ prog_3_method_7_code 2 (some .boolean) ztb_43 = true := by decide +kernel
set_option maxRecDepth 20000 in
theorem zm_44 : zc_meth (⟨"StubHouse$Migrator", "modeOf", "(IZ)Z"⟩, prog_6_method_4_code, 3, (some .boolean)) (2194, 13, 2193, 4814) = true := by decide +kernel
set_option maxRecDepth 20000 in
theorem za_44 : zc_all zk_ms2 zk_mh zk_Cs zk_nms ⟨"StubHouse$Migrator", "modeOf", "(IZ)Z"⟩ prog_6_method_4_code 3 (some .boolean) ztb_44 = true := by decide +kernel
set_option maxRecDepth 20000 in
theorem zm_45 : zc_meth (⟨"StubHouse$Tape", "countGood", "()I"⟩, prog_10_method_13_code, 3, (some .int)) (2412, 9, 2410, 2411) = true := by decide +kernel
set_option maxRecDepth 20000 in
theorem za_45 : zc_all zk_ms2 zk_mh zk_Cs zk_nms ⟨"StubHouse$Tape", "countGood", "()I"⟩ prog_10_method_13_code 3 (some .int) ztb_45 = true := by decide +kernel
set_option maxRecDepth 20000 in
theorem zm_46 : zc_meth (⟨"StubHouse$Library", "countLive", "(I)I"⟩, prog_4_method_12_code, 4, (some .int)) (2416, 8, 2414, 2415) = true := by decide +kernel
set_option maxRecDepth 20000 in
theorem za_46 : zc_all zk_ms2 zk_mh zk_Cs zk_nms ⟨"StubHouse$Library", "countLive", "(I)I"⟩ prog_4_method_12_code 4 (some .int) ztb_46 = true := by decide +kernel
set_option maxRecDepth 20000 in
theorem zm_47 : zc_meth (⟨"StubHouseModel", "purge", "()V"⟩, prog_14_method_82_code, 4, none) (2923, 14, 2922, 5611) = true := by decide +kernel
set_option maxRecDepth 20000 in
theorem za_47 : zc_all zk_ms2 zk_mh zk_Cs zk_nms ⟨"StubHouseModel", "purge", "()V"⟩ prog_14_method_82_code 4 none ztb_47 = true := by decide +kernel
set_option maxRecDepth 20000 in
theorem zm_48 : zc_meth (⟨"StubHouseModel", "goOn", "(I)V"⟩, prog_14_method_109_code, 2, none) (3285, 14, 3284, 6405) = true := by decide +kernel
set_option maxRecDepth 20000 in
theorem za_48 : zc_all zk_ms2 zk_mh zk_Cs zk_nms ⟨"StubHouseModel", "goOn", "(I)V"⟩ prog_14_method_109_code 2 none ztb_48 = true := by decide +kernel
set_option maxRecDepth 20000 in
theorem zm_49 : zc_meth (⟨"StubHouse$Tree", "isFile", "(I)Z"⟩, prog_11_method_6_code, 2, (some .boolean)) (998, 2, 996, 997) = true := by decide +kernel
set_option maxRecDepth 20000 in
theorem za_49 : zc_all zk_ms2 zk_mh zk_Cs zk_nms ⟨"StubHouse$Tree", "isFile", "(I)Z"⟩ prog_11_method_6_code 2 (some .boolean) ztb_49 = true := by decide +kernel
end
section
/-! the rows of the tables, checked -/
set_option maxRecDepth 20000 in
theorem zm_50 : zc_meth (⟨"StubHouseModel", "fill", "(II)I"⟩, prog_14_method_31_code, 4, (some .int)) (2948, 14, 2946, 2947) = true := by decide +kernel
set_option maxRecDepth 20000 in
theorem za_50 : zc_all zk_ms2 zk_mh zk_Cs zk_nms ⟨"StubHouseModel", "fill", "(II)I"⟩ prog_14_method_31_code 4 (some .int) ztb_50 = true := by decide +kernel
set_option maxRecDepth 20000 in
theorem zm_51 : zc_meth (⟨"StubHouse$Tree", "isDirectory", "(I)Z"⟩, prog_11_method_5_code, 2, (some .boolean)) (913, 2, 911, 912) = true := by decide +kernel
set_option maxRecDepth 20000 in
theorem za_51 : zc_all zk_ms2 zk_mh zk_Cs zk_nms ⟨"StubHouse$Tree", "isDirectory", "(I)Z"⟩ prog_11_method_5_code 2 (some .boolean) ztb_51 = true := by decide +kernel
set_option maxRecDepth 20000 in
theorem zm_52 : zc_meth (⟨"StubHouse$Tree", "seek", "(IJ)I"⟩, prog_11_method_8_code, 6, (some .int)) (925, 2, 923, 924) = true := by decide +kernel
set_option maxRecDepth 20000 in
theorem za_52 : zc_all zk_ms2 zk_mh zk_Cs zk_nms ⟨"StubHouse$Tree", "seek", "(IJ)I"⟩ prog_11_method_8_code 6 (some .int) ztb_52 = true := by decide +kernel
set_option maxRecDepth 20000 in
theorem zm_53 : zc_meth (⟨"StubHouse$Tree", "depthOf", "(I)I"⟩, prog_11_method_10_code, 4, (some .int)) (933, 2, 931, 932) = true := by decide +kernel
set_option maxRecDepth 20000 in
theorem za_53 : zc_all zk_ms2 zk_mh zk_Cs zk_nms ⟨"StubHouse$Tree", "depthOf", "(I)I"⟩ prog_11_method_10_code 4 (some .int) ztb_53 = true := by decide +kernel
set_option maxRecDepth 20000 in
theorem zm_54 : zc_meth (⟨"StubHouse$Library", "lookOver", "()V"⟩, prog_4_method_14_code, 3, none) (1649, 8, 1647, 1648) = true := by decide +kernel
set_option maxRecDepth 20000 in
theorem za_54 : zc_all zk_ms2 zk_mh zk_Cs zk_nms ⟨"StubHouse$Library", "lookOver", "()V"⟩ prog_4_method_14_code 3 none ztb_54 = true := by decide +kernel
set_option maxRecDepth 20000 in
theorem zm_55 : zc_meth (⟨"StubHouse$Library", "dropDeletes", "()V"⟩, prog_4_method_19_code, 3, none) (1666, 8, 1665, 4007) = true := by decide +kernel
set_option maxRecDepth 20000 in
theorem za_55 : zc_all zk_ms2 zk_mh zk_Cs zk_nms ⟨"StubHouse$Library", "dropDeletes", "()V"⟩ prog_4_method_19_code 3 none ztb_55 = true := by decide +kernel
set_option maxRecDepth 20000 in
theorem zm_56 : zc_meth (⟨"StubHouse$Library", "dropClashes", "()V"⟩, prog_4_method_21_code, 4, none) (1679, 8, 1678, 4010) = true := by decide +kernel
set_option maxRecDepth 20000 in
theorem za_56 : zc_all zk_ms2 zk_mh zk_Cs zk_nms ⟨"StubHouse$Library", "dropClashes", "()V"⟩ prog_4_method_21_code 4 none ztb_56 = true := by decide +kernel
set_option maxRecDepth 20000 in
theorem zm_57 : zc_meth (⟨"StubHouse$Library", "sortByStamps", "()V"⟩, prog_4_method_22_code, 4, none) (1683, 8, 1682, 4011) = true := by decide +kernel
set_option maxRecDepth 20000 in
theorem za_57 : zc_all zk_ms2 zk_mh zk_Cs zk_nms ⟨"StubHouse$Library", "sortByStamps", "()V"⟩ prog_4_method_22_code 4 none ztb_57 = true := by decide +kernel
set_option maxRecDepth 20000 in
theorem zm_58 : zc_meth (⟨"StubHouse$Library", "sortTaken", "(I)V"⟩, prog_4_method_23_code, 5, none) (1701, 8, 1700, 4014) = true := by decide +kernel
set_option maxRecDepth 20000 in
theorem za_58 : zc_all zk_ms2 zk_mh zk_Cs zk_nms ⟨"StubHouse$Library", "sortTaken", "(I)V"⟩ prog_4_method_23_code 5 none ztb_58 = true := by decide +kernel
set_option maxRecDepth 20000 in
theorem zm_59 : zc_meth (⟨"StubHouse", "step", "(I)I"⟩, prog_1_method_26_code, 3, (some .int)) (1744, 1, 1742, 1743) = true := by decide +kernel
set_option maxRecDepth 20000 in
theorem za_59 : zc_all zk_ms2 zk_mh zk_Cs zk_nms ⟨"StubHouse", "step", "(I)I"⟩ prog_1_method_26_code 3 (some .int) ztb_59 = true := by decide +kernel
set_option maxRecDepth 20000 in
theorem zm_60 : zc_meth (⟨"StubHouseModel", "look", "(IJ)I"⟩, prog_14_method_15_code, 5, (some .int)) (2822, 14, 2821, 5207) = true := by decide +kernel
set_option maxRecDepth 20000 in
theorem za_60 : zc_all zk_ms2 zk_mh zk_Cs zk_nms ⟨"StubHouseModel", "look", "(IJ)I"⟩ prog_14_method_15_code 5 (some .int) ztb_60 = true := by decide +kernel
set_option maxRecDepth 20000 in
theorem zm_61 : zc_meth (⟨"StubHouseModel", "depth", "(I)I"⟩, prog_14_method_14_code, 4, (some .int)) (2830, 14, 2829, 5209) = true := by decide +kernel
set_option maxRecDepth 20000 in
theorem za_61 : zc_all zk_ms2 zk_mh zk_Cs zk_nms ⟨"StubHouseModel", "depth", "(I)I"⟩ prog_14_method_14_code 4 (some .int) ztb_61 = true := by decide +kernel
set_option maxRecDepth 20000 in
theorem zm_62 : zc_meth (⟨"StubHouseModel", "copies", "(I)I"⟩, prog_14_method_46_code, 3, (some .int)) (3023, 14, 3021, 3022) = true := by decide +kernel
set_option maxRecDepth 20000 in
theorem za_62 : zc_all zk_ms2 zk_mh zk_Cs zk_nms ⟨"StubHouseModel", "copies", "(I)I"⟩ prog_14_method_46_code 3 (some .int) ztb_62 = true := by decide +kernel
set_option maxRecDepth 20000 in
theorem zm_63 : zc_meth (⟨"StubHouse", "make", "(IJZ)I"⟩, prog_1_method_2_code, 5, (some .int)) (909, 1, 907, 908) = true := by decide +kernel
set_option maxRecDepth 20000 in
theorem za_63 : zc_all zk_ms2 zk_mh zk_Cs zk_nms ⟨"StubHouse", "make", "(IJZ)I"⟩ prog_1_method_2_code 5 (some .int) ztb_63 = true := by decide +kernel
set_option maxRecDepth 20000 in
theorem zm_64 : zc_meth (⟨"StubHouse$Changes", "create", "(IJZ)I"⟩, prog_2_method_2_code, 6, (some .int)) (937, 7, 935, 936) = true := by decide +kernel
set_option maxRecDepth 20000 in
theorem za_64 : zc_all zk_ms2 zk_mh zk_Cs zk_nms ⟨"StubHouse$Changes", "create", "(IJZ)I"⟩ prog_2_method_2_code 6 (some .int) ztb_64 = true := by decide +kernel
set_option maxRecDepth 20000 in
theorem zm_65 : zc_meth (⟨"StubHouse$Log", "add", "(III)V"⟩, prog_5_method_3_code, 4, none) (942, 6, 940, 941) = true := by decide +kernel
set_option maxRecDepth 20000 in
theorem za_65 : zc_all zk_ms2 zk_mh zk_Cs zk_nms ⟨"StubHouse$Log", "add", "(III)V"⟩ prog_5_method_3_code 4 none ztb_65 = true := by decide +kernel
set_option maxRecDepth 20000 in
theorem zm_66 : zc_meth (⟨"StubHouse$Log", "keepAll", "()I"⟩, prog_5_method_4_code, 3, (some .int)) (946, 6, 944, 945) = true := by decide +kernel
set_option maxRecDepth 20000 in
theorem za_66 : zc_all zk_ms2 zk_mh zk_Cs zk_nms ⟨"StubHouse$Log", "keepAll", "()I"⟩ prog_5_method_4_code 3 (some .int) ztb_66 = true := by decide +kernel
set_option maxRecDepth 20000 in
theorem zm_67 : zc_meth (⟨"StubHouse$Stores", "freeHeld", "()V"⟩, prog_9_method_8_code, 2, none) (950, 5, 948, 949) = true := by decide +kernel
set_option maxRecDepth 20000 in
theorem za_67 : zc_all zk_ms2 zk_mh zk_Cs zk_nms ⟨"StubHouse$Stores", "freeHeld", "()V"⟩ prog_9_method_8_code 2 none ztb_67 = true := by decide +kernel
set_option maxRecDepth 20000 in
theorem zm_68 : zc_meth (⟨"StubHouse$Node", "become", "(LStubHouse$Node;)V"⟩, prog_7_method_3_code, 2, none) (954, 3, 952, 953) = true := by decide +kernel
set_option maxRecDepth 20000 in
theorem za_68 : zc_all zk_ms2 zk_mh zk_Cs zk_nms ⟨"StubHouse$Node", "become", "(LStubHouse$Node;)V"⟩ prog_7_method_3_code 2 none ztb_68 = true := by decide +kernel
set_option maxRecDepth 20000 in
theorem zm_69 : zc_meth (⟨"StubHouse$Tree", "settle", "(IIJI)V"⟩, prog_11_method_16_code, 7, none) (973, 2, 971, 972) = true := by decide +kernel
set_option maxRecDepth 20000 in
theorem za_69 : zc_all zk_ms2 zk_mh zk_Cs zk_nms ⟨"StubHouse$Tree", "settle", "(IIJI)V"⟩ prog_11_method_16_code 7 none ztb_69 = true := by decide +kernel
set_option maxRecDepth 20000 in
theorem zm_70 : zc_meth (⟨"StubHouse$Stores", "freeAll", "()V"⟩, prog_9_method_9_code, 1, none) (1427, 5, 1425, 1426) = true := by decide +kernel
set_option maxRecDepth 20000 in
theorem za_70 : zc_all zk_ms2 zk_mh zk_Cs zk_nms ⟨"StubHouse$Stores", "freeAll", "()V"⟩ prog_9_method_9_code 1 none ztb_70 = true := by decide +kernel
set_option maxRecDepth 20000 in
theorem zm_71 : zc_meth (⟨"StubHouse", "stopAll", "()V"⟩, prog_1_method_23_code, 1, none) (1437, 1, 1436, 4003) = true := by decide +kernel
set_option maxRecDepth 20000 in
theorem za_71 : zc_all zk_ms2 zk_mh zk_Cs zk_nms ⟨"StubHouse", "stopAll", "()V"⟩ prog_1_method_23_code 1 none ztb_71 = true := by decide +kernel
set_option maxRecDepth 20000 in
theorem zm_72 : zc_meth (⟨"StubHouse$Reader", "stop", "()V"⟩, prog_8_method_2_code, 1, none) (1601, 11, 1439, 1600) = true := by decide +kernel
set_option maxRecDepth 20000 in
theorem za_72 : zc_all zk_ms2 zk_mh zk_Cs zk_nms ⟨"StubHouse$Reader", "stop", "()V"⟩ prog_8_method_2_code 1 none ztb_72 = true := by decide +kernel
set_option maxRecDepth 20000 in
theorem zm_73 : zc_meth (⟨"StubHouse$Writer", "stop", "()V"⟩, prog_12_method_2_code, 1, none) (1617, 12, 1615, 1616) = true := by decide +kernel
set_option maxRecDepth 20000 in
theorem za_73 : zc_all zk_ms2 zk_mh zk_Cs zk_nms ⟨"StubHouse$Writer", "stop", "()V"⟩ prog_12_method_2_code 1 none ztb_73 = true := by decide +kernel
set_option maxRecDepth 20000 in
theorem zm_74 : zc_meth (⟨"StubHouse$Migrator", "stop", "()V"⟩, prog_6_method_2_code, 1, none) (1624, 13, 1622, 1623) = true := by decide +kernel
set_option maxRecDepth 20000 in
theorem za_74 : zc_all zk_ms2 zk_mh zk_Cs zk_nms ⟨"StubHouse$Migrator", "stop", "()V"⟩ prog_6_method_2_code 1 none ztb_74 = true := by decide +kernel
set_option maxRecDepth 20000 in
theorem zm_75 : zc_meth (⟨"StubHouse$Tree", "count", "(I)I"⟩, prog_11_method_7_code, 4, (some .int)) (1632, 2, 1630, 1631) = true := by decide +kernel
set_option maxRecDepth 20000 in
theorem za_75 : zc_all zk_ms2 zk_mh zk_Cs zk_nms ⟨"StubHouse$Tree", "count", "(I)I"⟩ prog_11_method_7_code 4 (some .int) ztb_75 = true := by decide +kernel
set_option maxRecDepth 20000 in
theorem zm_76 : zc_meth (⟨"StubHouse$Reader", "choose", "(I)V"⟩, prog_8_method_4_code, 5, none) (1748, 11, 1746, 1747) = true := by decide +kernel
set_option maxRecDepth 20000 in
theorem za_76 : zc_all zk_ms2 zk_mh zk_Cs zk_nms ⟨"StubHouse$Reader", "choose", "(I)V"⟩ prog_8_method_4_code 5 none ztb_76 = true := by decide +kernel
set_option maxRecDepth 20000 in
theorem zm_77 : zc_meth (⟨"StubHouse$Reader", "firstRecall", "()I"⟩, prog_8_method_6_code, 3, (some .int)) (1752, 11, 1751, 4403) = true := by decide +kernel
set_option maxRecDepth 20000 in
theorem za_77 : zc_all zk_ms2 zk_mh zk_Cs zk_nms ⟨"StubHouse$Reader", "firstRecall", "()I"⟩ prog_8_method_6_code 3 (some .int) ztb_77 = true := by decide +kernel
set_option maxRecDepth 20000 in
theorem zm_78 : zc_meth (⟨"StubHouse$Reader", "changeTape", "(II)V"⟩, prog_8_method_12_code, 3, none) (2002, 11, 2001, 4412) = true := by decide +kernel
set_option maxRecDepth 20000 in
theorem za_78 : zc_all zk_ms2 zk_mh zk_Cs zk_nms ⟨"StubHouse$Reader", "changeTape", "(II)V"⟩ prog_8_method_12_code 3 none ztb_78 = true := by decide +kernel
set_option maxRecDepth 20000 in
theorem zm_79 : zc_meth (⟨"StubHouse$Writer", "choose", "()V"⟩, prog_12_method_7_code, 1, none) (2054, 12, 2052, 2053) = true := by decide +kernel
set_option maxRecDepth 20000 in
theorem za_79 : zc_all zk_ms2 zk_mh zk_Cs zk_nms ⟨"StubHouse$Writer", "choose", "()V"⟩ prog_12_method_7_code 1 none ztb_79 = true := by decide +kernel
set_option maxRecDepth 20000 in
theorem zm_80 : zc_meth (⟨"StubHouse$Writer", "dropFinished", "()V"⟩, prog_12_method_6_code, 5, none) (2058, 12, 2057, 4415) = true := by decide +kernel
set_option maxRecDepth 20000 in
theorem za_80 : zc_all zk_ms2 zk_mh zk_Cs zk_nms ⟨"StubHouse$Writer", "dropFinished", "()V"⟩ prog_12_method_6_code 5 none ztb_80 = true := by decide +kernel
set_option maxRecDepth 20000 in
theorem zm_81 : zc_meth (⟨"StubHouse$Writer", "goForDelete", "()Z"⟩, prog_12_method_8_code, 3, (some .boolean)) (2067, 12, 2066, 4800) = true := by decide +kernel
set_option maxRecDepth 20000 in
theorem za_81 : zc_all zk_ms2 zk_mh zk_Cs zk_nms ⟨"StubHouse$Writer", "goForDelete", "()Z"⟩ prog_12_method_8_code 3 (some .boolean) ztb_81 = true := by decide +kernel
set_option maxRecDepth 20000 in
theorem zm_82 : zc_meth (⟨"StubHouse$Log", "firstKeptDelete", "()I"⟩, prog_5_method_8_code, 2, (some .int)) (2071, 6, 2069, 2070) = true := by decide +kernel
set_option maxRecDepth 20000 in
theorem za_82 : zc_all zk_ms2 zk_mh zk_Cs zk_nms ⟨"StubHouse$Log", "firstKeptDelete", "()I"⟩ prog_5_method_8_code 2 (some .int) ztb_82 = true := by decide +kernel
set_option maxRecDepth 20000 in
theorem zm_83 : zc_meth (⟨"StubHouse$Writer", "goForParcel", "()Z"⟩, prog_12_method_9_code, 3, (some .boolean)) (2120, 12, 2119, 4808) = true := by decide +kernel
set_option maxRecDepth 20000 in
theorem za_83 : zc_all zk_ms2 zk_mh zk_Cs zk_nms ⟨"StubHouse$Writer", "goForParcel", "()Z"⟩ prog_12_method_9_code 3 (some .boolean) ztb_83 = true := by decide +kernel
set_option maxRecDepth 20000 in
theorem zm_84 : zc_meth (⟨"StubHouse$Writer", "goForFile", "()V"⟩, prog_12_method_10_code, 5, none) (2135, 12, 2134, 4810) = true := by decide +kernel
set_option maxRecDepth 20000 in
theorem za_84 : zc_all zk_ms2 zk_mh zk_Cs zk_nms ⟨"StubHouse$Writer", "goForFile", "()V"⟩ prog_12_method_10_code 5 none ztb_84 = true := by decide +kernel
set_option maxRecDepth 20000 in
theorem zm_85 : zc_meth (⟨"StubHouse$Migrator", "work", "()V"⟩, prog_6_method_3_code, 1, none) (2190, 13, 2188, 2189) = true := by decide +kernel
set_option maxRecDepth 20000 in
theorem za_85 : zc_all zk_ms2 zk_mh zk_Cs zk_nms ⟨"StubHouse$Migrator", "work", "()V"⟩ prog_6_method_3_code 1 none ztb_85 = true := by decide +kernel
set_option maxRecDepth 20000 in
theorem zm_86 : zc_meth (⟨"StubHouse", "toldOfStores", "(I)I"⟩, prog_1_method_30_code, 2, (some .int)) (2404, 1, 2403, 5202) = true := by decide +kernel
set_option maxRecDepth 20000 in
theorem za_86 : zc_all zk_ms2 zk_mh zk_Cs zk_nms ⟨"StubHouse", "toldOfStores", "(I)I"⟩ prog_1_method_30_code 2 (some .int) ztb_86 = true := by decide +kernel
set_option maxRecDepth 20000 in
theorem zm_87 : zc_meth (⟨"StubHouseModel", "freeNode", "()I"⟩, prog_14_method_16_code, 2, (some .int)) (2826, 14, 2825, 5208) = true := by decide +kernel
set_option maxRecDepth 20000 in
theorem za_87 : zc_all zk_ms2 zk_mh zk_Cs zk_nms ⟨"StubHouseModel", "freeNode", "()I"⟩ prog_14_method_16_code 2 (some .int) ztb_87 = true := by decide +kernel
set_option maxRecDepth 20000 in
theorem zm_88 : zc_meth (⟨"StubHouseModel", "ahead", "()V"⟩, prog_14_method_9_code, 2, none) (2834, 14, 2833, 5210) = true := by decide +kernel
set_option maxRecDepth 20000 in
theorem za_88 : zc_all zk_ms2 zk_mh zk_Cs zk_nms ⟨"StubHouseModel", "ahead", "()V"⟩ prog_14_method_9_code 2 none ztb_88 = true := by decide +kernel
set_option maxRecDepth 20000 in
theorem zm_89 : zc_meth (⟨"StubHouseModel", "syncAll", "()I"⟩, prog_14_method_8_code, 3, (some .int)) (2838, 14, 2837, 5211) = true := by decide +kernel
set_option maxRecDepth 20000 in
theorem za_89 : zc_all zk_ms2 zk_mh zk_Cs zk_nms ⟨"StubHouseModel", "syncAll", "()I"⟩ prog_14_method_8_code 3 (some .int) ztb_89 = true := by decide +kernel
set_option maxRecDepth 20000 in
theorem zm_90 : zc_meth (⟨"StubHouseModel", "plant", "(IIIJ)V"⟩, prog_14_method_22_code, 7, none) (2842, 14, 2841, 5212) = true := by decide +kernel
set_option maxRecDepth 20000 in
theorem za_90 : zc_all zk_ms2 zk_mh zk_Cs zk_nms ⟨"StubHouseModel", "plant", "(IIIJ)V"⟩ prog_14_method_22_code 7 none ztb_90 = true := by decide +kernel
set_option maxRecDepth 20000 in
theorem zm_91 : zc_meth (⟨"StubHouseModel", "noBlocks", "(I)V"⟩, prog_14_method_21_code, 3, none) (2850, 14, 2849, 5214) = true := by decide +kernel
set_option maxRecDepth 20000 in
theorem za_91 : zc_all zk_ms2 zk_mh zk_Cs zk_nms ⟨"StubHouseModel", "noBlocks", "(I)V"⟩ prog_14_method_21_code 3 none ztb_91 = true := by decide +kernel
set_option maxRecDepth 20000 in
theorem zm_92 : zc_meth (⟨"StubHouseModel", "record", "(I)V"⟩, prog_14_method_10_code, 2, none) (2854, 14, 2853, 5215) = true := by decide +kernel
set_option maxRecDepth 20000 in
theorem za_92 : zc_all zk_ms2 zk_mh zk_Cs zk_nms ⟨"StubHouseModel", "record", "(I)V"⟩ prog_14_method_10_code 2 none ztb_92 = true := by decide +kernel
set_option maxRecDepth 20000 in
theorem zm_93 : zc_meth (⟨"StubHouseModel", "crash", "(I)I"⟩, prog_14_method_49_code, 6, (some .int)) (3031, 14, 3029, 3030) = true := by decide +kernel
set_option maxRecDepth 20000 in
theorem za_93 : zc_all zk_ms2 zk_mh zk_Cs zk_nms ⟨"StubHouseModel", "crash", "(I)I"⟩ prog_14_method_49_code 6 (some .int) ztb_93 = true := by decide +kernel
set_option maxRecDepth 20000 in
theorem zm_94 : zc_meth (⟨"StubHouseModel", "stopAll", "()V"⟩, prog_14_method_48_code, 2, none) (3035, 14, 3034, 6008) = true := by decide +kernel
set_option maxRecDepth 20000 in
theorem za_94 : zc_all zk_ms2 zk_mh zk_Cs zk_nms ⟨"StubHouseModel", "stopAll", "()V"⟩ prog_14_method_48_code 2 none ztb_94 = true := by decide +kernel
set_option maxRecDepth 20000 in
theorem zm_95 : zc_meth (⟨"StubHouseModel", "readerBegins", "()V"⟩, prog_14_method_89_code, 6, none) (3289, 14, 3288, 6406) = true := by decide +kernel
set_option maxRecDepth 20000 in
theorem za_95 : zc_all zk_ms2 zk_mh zk_Cs zk_nms ⟨"StubHouseModel", "readerBegins", "()V"⟩ prog_14_method_89_code 6 none ztb_95 = true := by decide +kernel
set_option maxRecDepth 20000 in
theorem zm_96 : zc_meth (⟨"StubHouseModel", "writerBegins", "()V"⟩, prog_14_method_101_code, 9, none) (3326, 14, 3325, 6415) = true := by decide +kernel
set_option maxRecDepth 20000 in
theorem za_96 : zc_all zk_ms2 zk_mh zk_Cs zk_nms ⟨"StubHouseModel", "writerBegins", "()V"⟩ prog_14_method_101_code 9 none ztb_96 = true := by decide +kernel
set_option maxRecDepth 20000 in
theorem zm_97 : zc_meth (⟨"StubHouseModel", "dropWaiting", "()V"⟩, prog_14_method_100_code, 4, none) (3330, 14, 3329, 6800) = true := by decide +kernel
set_option maxRecDepth 20000 in
theorem za_97 : zc_all zk_ms2 zk_mh zk_Cs zk_nms ⟨"StubHouseModel", "dropWaiting", "()V"⟩ prog_14_method_100_code 4 none ztb_97 = true := by decide +kernel
set_option maxRecDepth 20000 in
theorem zm_98 : zc_meth (⟨"StubHouseModel", "migrate", "()V"⟩, prog_14_method_113_code, 3, none) (3394, 14, 3393, 7200) = true := by decide +kernel
set_option maxRecDepth 20000 in
theorem za_98 : zc_all zk_ms2 zk_mh zk_Cs zk_nms ⟨"StubHouseModel", "migrate", "()V"⟩ prog_14_method_113_code 3 none ztb_98 = true := by decide +kernel
set_option maxRecDepth 20000 in
theorem zm_99 : zc_meth (⟨"StubHouse$Drive", "<init>", "()V"⟩, prog_3_method_1_code, 1, none) (539, 10, 538, 0) = true := by decide +kernel
set_option maxRecDepth 20000 in
theorem za_99 : zc_all zk_ms2 zk_mh zk_Cs zk_nms ⟨"StubHouse$Drive", "<init>", "()V"⟩ prog_3_method_1_code 1 none ztb_99 = true := by decide +kernel
end
section
/-! the rows of the tables, checked -/
set_option maxRecDepth 20000 in
theorem zm_100 : zc_meth (⟨"StubHouse$Log", "undoBehind", "(I)I"⟩, prog_5_method_9_code, 5, (some .int)) (1415, 6, 1413, 1414) = true := by decide +kernel
set_option maxRecDepth 20000 in
theorem za_100 : zc_all zk_ms2 zk_mh zk_Cs zk_nms ⟨"StubHouse$Log", "undoBehind", "(I)I"⟩ prog_5_method_9_code 5 (some .int) ztb_100 = true := by decide +kernel
set_option maxRecDepth 20000 in
theorem zm_101 : zc_meth (⟨"StubHouse$Log", "claimHomes", "()V"⟩, prog_5_method_11_code, 3, none) (1423, 6, 1422, 4002) = true := by decide +kernel
set_option maxRecDepth 20000 in
theorem za_101 : zc_all zk_ms2 zk_mh zk_Cs zk_nms ⟨"StubHouse$Log", "claimHomes", "()V"⟩ prog_5_method_11_code 3 none ztb_101 = true := by decide +kernel
set_option maxRecDepth 20000 in
theorem zm_102 : zc_meth (⟨"StubHouse$Tree", "touchAll", "()V"⟩, prog_11_method_17_code, 2, none) (1433, 2, 1431, 1432) = true := by decide +kernel
set_option maxRecDepth 20000 in
theorem za_102 : zc_all zk_ms2 zk_mh zk_Cs zk_nms ⟨"StubHouse$Tree", "touchAll", "()V"⟩ prog_11_method_17_code 2 none ztb_102 = true := by decide +kernel
set_option maxRecDepth 20000 in
theorem zm_103 : zc_meth (⟨"StubHouse$Library", "hasByte", "(II)Z"⟩, prog_4_method_2_code, 3, (some .boolean)) (2424, 8, 2422, 2423) = true := by decide +kernel
set_option maxRecDepth 20000 in
theorem za_103 : zc_all zk_ms2 zk_mh zk_Cs zk_nms ⟨"StubHouse$Library", "hasByte", "(II)Z"⟩ prog_4_method_2_code 3 (some .boolean) ztb_103 = true := by decide +kernel
set_option maxRecDepth 20000 in
theorem zm_104 : zc_meth (⟨"StubHouseModel", "empty", "()V"⟩, prog_14_method_4_code, 2, none) (2458, 14, 2457, 5203) = true := by decide +kernel
set_option maxRecDepth 20000 in
theorem za_104 : zc_all zk_ms2 zk_mh zk_Cs zk_nms ⟨"StubHouseModel", "empty", "()V"⟩ prog_14_method_4_code 2 none ztb_104 = true := by decide +kernel
set_option maxRecDepth 20000 in
theorem zm_105 : zc_meth (⟨"StubHouseModel", "freeIn", "(II)I"⟩, prog_14_method_32_code, 5, (some .int)) (2965, 14, 2964, 6001) = true := by decide +kernel
set_option maxRecDepth 20000 in
theorem za_105 : zc_all zk_ms2 zk_mh zk_Cs zk_nms ⟨"StubHouseModel", "freeIn", "(II)I"⟩ prog_14_method_32_code 5 (some .int) ztb_105 = true := by decide +kernel
set_option maxRecDepth 20000 in
theorem zm_106 : zc_meth (⟨"StubHouse", "<init>", "()V"⟩, prog_1_method_1_code, 1, none) (21, 1, 20, 0) = true := by decide +kernel
set_option maxRecDepth 20000 in
theorem za_106 : zc_all zk_ms2 zk_mh zk_Cs zk_nms ⟨"StubHouse", "<init>", "()V"⟩ prog_1_method_1_code 1 none ztb_106 = true := by decide +kernel
set_option maxRecDepth 20000 in
theorem zm_107 : zc_meth (⟨"StubHouse$Tree", "<init>", "()V"⟩, prog_11_method_1_code, 2, none) (29, 2, 28, 0) = true := by decide +kernel
set_option maxRecDepth 20000 in
theorem za_107 : zc_all zk_ms2 zk_mh zk_Cs zk_nms ⟨"StubHouse$Tree", "<init>", "()V"⟩ prog_11_method_1_code 2 none ztb_107 = true := by decide +kernel
set_option maxRecDepth 20000 in
theorem zm_108 : zc_meth (⟨"StubHouse$Stores", "<init>", "()V"⟩, prog_9_method_1_code, 1, none) (170, 5, 169, 0) = true := by decide +kernel
set_option maxRecDepth 20000 in
theorem za_108 : zc_all zk_ms2 zk_mh zk_Cs zk_nms ⟨"StubHouse$Stores", "<init>", "()V"⟩ prog_9_method_1_code 1 none ztb_108 = true := by decide +kernel
set_option maxRecDepth 20000 in
theorem zm_109 : zc_meth (⟨"StubHouse$Log", "<init>", "(LStubHouse$Tree;LStubHouse$Stores;)V"⟩, prog_5_method_1_code, 4, none) (198, 6, 197, 0) = true := by decide +kernel
set_option maxRecDepth 20000 in
theorem za_109 : zc_all zk_ms2 zk_mh zk_Cs zk_nms ⟨"StubHouse$Log", "<init>", "(LStubHouse$Tree;LStubHouse$Stores;)V"⟩ prog_5_method_1_code 4 none ztb_109 = true := by decide +kernel
set_option maxRecDepth 20000 in
theorem zm_110 : zc_meth (⟨"StubHouse$Changes", "<init>", "(LStubHouse$Tree;LStubHouse$Stores;LStubHouse$Log;)V"⟩, prog_2_method_1_code, 4, none) (405, 7, 404, 0) = true := by decide +kernel
set_option maxRecDepth 20000 in
theorem za_110 : zc_all zk_ms2 zk_mh zk_Cs zk_nms ⟨"StubHouse$Changes", "<init>", "(LStubHouse$Tree;LStubHouse$Stores;LStubHouse$Log;)V"⟩ prog_2_method_1_code 4 none ztb_110 = true := by decide +kernel
set_option maxRecDepth 20000 in
theorem zm_111 : zc_meth (⟨"StubHouse$Library", "<init>", "(LStubHouse$Tree;)V"⟩, prog_4_method_1_code, 3, none) (438, 8, 437, 0) = true := by decide +kernel
set_option maxRecDepth 20000 in
theorem za_111 : zc_all zk_ms2 zk_mh zk_Cs zk_nms ⟨"StubHouse$Library", "<init>", "(LStubHouse$Tree;)V"⟩ prog_4_method_1_code 3 none ztb_111 = true := by decide +kernel
set_option maxRecDepth 20000 in
theorem zm_112 : zc_meth (⟨"StubHouse$Reader", "<init>", "(LStubHouse$Library;LStubHouse$Changes;)V"⟩, prog_8_method_1_code, 3, none) (536, 11, 535, 0) = true := by decide +kernel
set_option maxRecDepth 20000 in
theorem za_112 : zc_all zk_ms2 zk_mh zk_Cs zk_nms ⟨"StubHouse$Reader", "<init>", "(LStubHouse$Library;LStubHouse$Changes;)V"⟩ prog_8_method_1_code 3 none ztb_112 = true := by decide +kernel
set_option maxRecDepth 20000 in
theorem zm_113 : zc_meth (⟨"StubHouse$Writer", "<init>", "(LStubHouse$Library;LStubHouse$Changes;LStubHouse$Reader;)V"⟩, prog_12_method_1_code, 4, none) (623, 12, 622, 0) = true := by decide +kernel
set_option maxRecDepth 20000 in
theorem za_113 : zc_all zk_ms2 zk_mh zk_Cs zk_nms ⟨"StubHouse$Writer", "<init>", "(LStubHouse$Library;LStubHouse$Changes;LStubHouse$Reader;)V"⟩ prog_12_method_1_code 4 none ztb_113 = true := by decide +kernel
set_option maxRecDepth 20000 in
theorem zm_114 : zc_meth (⟨"StubHouse$Migrator", "<init>", "(LStubHouse$Changes;LStubHouse$Writer;)V"⟩, prog_6_method_1_code, 3, none) (832, 13, 831, 0) = true := by decide +kernel
set_option maxRecDepth 20000 in
theorem za_114 : zc_all zk_ms2 zk_mh zk_Cs zk_nms ⟨"StubHouse$Migrator", "<init>", "(LStubHouse$Changes;LStubHouse$Writer;)V"⟩ prog_6_method_1_code 3 none ztb_114 = true := by decide +kernel
set_option maxRecDepth 20000 in
theorem zm_115 : zc_meth (⟨"StubHouse", "find", "(IJ)I"⟩, prog_1_method_3_code, 5, (some .int)) (981, 1, 979, 980) = true := by decide +kernel
set_option maxRecDepth 20000 in
theorem za_115 : zc_all zk_ms2 zk_mh zk_Cs zk_nms ⟨"StubHouse", "find", "(IJ)I"⟩ prog_1_method_3_code 5 (some .int) ztb_115 = true := by decide +kernel
set_option maxRecDepth 20000 in
theorem zm_116 : zc_meth (⟨"StubHouse", "remove", "(I)I"⟩, prog_1_method_4_code, 2, (some .int)) (985, 1, 983, 984) = true := by decide +kernel
set_option maxRecDepth 20000 in
theorem za_116 : zc_all zk_ms2 zk_mh zk_Cs zk_nms ⟨"StubHouse", "remove", "(I)I"⟩ prog_1_method_4_code 2 (some .int) ztb_116 = true := by decide +kernel
set_option maxRecDepth 20000 in
theorem zm_117 : zc_meth (⟨"StubHouse", "move", "(IIJ)I"⟩, prog_1_method_6_code, 6, (some .int)) (1261, 1, 1259, 1260) = true := by decide +kernel
set_option maxRecDepth 20000 in
theorem za_117 : zc_all zk_ms2 zk_mh zk_Cs zk_nms ⟨"StubHouse", "move", "(IIJ)I"⟩ prog_1_method_6_code 6 (some .int) ztb_117 = true := by decide +kernel
set_option maxRecDepth 20000 in
theorem zm_118 : zc_meth (⟨"StubHouse", "feed", "(IJ)I"⟩, prog_1_method_7_code, 5, (some .int)) (1280, 1, 1278, 1279) = true := by decide +kernel
set_option maxRecDepth 20000 in
theorem za_118 : zc_all zk_ms2 zk_mh zk_Cs zk_nms ⟨"StubHouse", "feed", "(IJ)I"⟩ prog_1_method_7_code 5 (some .int) ztb_118 = true := by decide +kernel
set_option maxRecDepth 20000 in
theorem zm_119 : zc_meth (⟨"StubHouse", "fill", "(II)I"⟩, prog_1_method_8_code, 4, (some .int)) (1284, 1, 1282, 1283) = true := by decide +kernel
set_option maxRecDepth 20000 in
theorem za_119 : zc_all zk_ms2 zk_mh zk_Cs zk_nms ⟨"StubHouse", "fill", "(II)I"⟩ prog_1_method_8_code 4 (some .int) ztb_119 = true := by decide +kernel
set_option maxRecDepth 20000 in
theorem zm_120 : zc_meth (⟨"StubHouse", "write", "(II)I"⟩, prog_1_method_9_code, 5, (some .int)) (1288, 1, 1286, 1287) = true := by decide +kernel
set_option maxRecDepth 20000 in
theorem za_120 : zc_all zk_ms2 zk_mh zk_Cs zk_nms ⟨"StubHouse", "write", "(II)I"⟩ prog_1_method_9_code 5 (some .int) ztb_120 = true := by decide +kernel
set_option maxRecDepth 20000 in
theorem zm_121 : zc_meth (⟨"StubHouse", "cut", "(II)I"⟩, prog_1_method_11_code, 5, (some .int)) (1349, 1, 1347, 1348) = true := by decide +kernel
set_option maxRecDepth 20000 in
theorem za_121 : zc_all zk_ms2 zk_mh zk_Cs zk_nms ⟨"StubHouse", "cut", "(II)I"⟩ prog_1_method_11_code 5 (some .int) ztb_121 = true := by decide +kernel
set_option maxRecDepth 20000 in
theorem zm_122 : zc_meth (⟨"StubHouse", "read", "(II)I"⟩, prog_1_method_12_code, 4, (some .int)) (1361, 1, 1359, 1360) = true := by decide +kernel
set_option maxRecDepth 20000 in
theorem za_122 : zc_all zk_ms2 zk_mh zk_Cs zk_nms ⟨"StubHouse", "read", "(II)I"⟩ prog_1_method_12_code 4 (some .int) ztb_122 = true := by decide +kernel
set_option maxRecDepth 20000 in
theorem zm_123 : zc_meth (⟨"StubHouse", "about", "(II)I"⟩, prog_1_method_13_code, 4, (some .int)) (1369, 1, 1367, 1368) = true := by decide +kernel
set_option maxRecDepth 20000 in
theorem za_123 : zc_all zk_ms2 zk_mh zk_Cs zk_nms ⟨"StubHouse", "about", "(II)I"⟩ prog_1_method_13_code 4 (some .int) ztb_123 = true := by decide +kernel
set_option maxRecDepth 20000 in
theorem zm_124 : zc_meth (⟨"StubHouse", "name", "(I)J"⟩, prog_1_method_16_code, 2, (some .long)) (1385, 1, 1383, 1384) = true := by decide +kernel
set_option maxRecDepth 20000 in
theorem za_124 : zc_all zk_ms2 zk_mh zk_Cs zk_nms ⟨"StubHouse", "name", "(I)J"⟩ prog_1_method_16_code 2 (some .long) ztb_124 = true := by decide +kernel
set_option maxRecDepth 20000 in
theorem zm_125 : zc_meth (⟨"StubHouse", "block", "(II)I"⟩, prog_1_method_17_code, 5, (some .int)) (1389, 1, 1387, 1388) = true := by decide +kernel
set_option maxRecDepth 20000 in
theorem za_125 : zc_all zk_ms2 zk_mh zk_Cs zk_nms ⟨"StubHouse", "block", "(II)I"⟩ prog_1_method_17_code 5 (some .int) ztb_125 = true := by decide +kernel
set_option maxRecDepth 20000 in
theorem zm_126 : zc_meth (⟨"StubHouse", "copy", "(III)I"⟩, prog_1_method_18_code, 5, (some .int)) (1394, 1, 1392, 1393) = true := by decide +kernel
set_option maxRecDepth 20000 in
theorem za_126 : zc_all zk_ms2 zk_mh zk_Cs zk_nms ⟨"StubHouse", "copy", "(III)I"⟩ prog_1_method_18_code 5 (some .int) ztb_126 = true := by decide +kernel
set_option maxRecDepth 20000 in
theorem zm_127 : zc_meth (⟨"StubHouse", "marks", "(III)I"⟩, prog_1_method_19_code, 6, (some .int)) (1398, 1, 1396, 1397) = true := by decide +kernel
set_option maxRecDepth 20000 in
theorem za_127 : zc_all zk_ms2 zk_mh zk_Cs zk_nms ⟨"StubHouse", "marks", "(III)I"⟩ prog_1_method_19_code 6 (some .int) ztb_127 = true := by decide +kernel
set_option maxRecDepth 20000 in
theorem zm_128 : zc_meth (⟨"StubHouse", "copies", "(I)I"⟩, prog_1_method_20_code, 3, (some .int)) (1402, 1, 1400, 1401) = true := by decide +kernel
set_option maxRecDepth 20000 in
theorem za_128 : zc_all zk_ms2 zk_mh zk_Cs zk_nms ⟨"StubHouse", "copies", "(I)I"⟩ prog_1_method_20_code 3 (some .int) ztb_128 = true := by decide +kernel
set_option maxRecDepth 20000 in
theorem zm_129 : zc_meth (⟨"StubHouse", "sync", "()I"⟩, prog_1_method_21_code, 1, (some .int)) (1406, 1, 1404, 1405) = true := by decide +kernel
set_option maxRecDepth 20000 in
theorem za_129 : zc_all zk_ms2 zk_mh zk_Cs zk_nms ⟨"StubHouse", "sync", "()I"⟩ prog_1_method_21_code 1 (some .int) ztb_129 = true := by decide +kernel
set_option maxRecDepth 20000 in
theorem zm_130 : zc_meth (⟨"StubHouse", "crash", "(I)I"⟩, prog_1_method_22_code, 3, (some .int)) (1411, 1, 1409, 1410) = true := by decide +kernel
set_option maxRecDepth 20000 in
theorem za_130 : zc_all zk_ms2 zk_mh zk_Cs zk_nms ⟨"StubHouse", "crash", "(I)I"⟩ prog_1_method_22_code 3 (some .int) ztb_130 = true := by decide +kernel
set_option maxRecDepth 20000 in
theorem zm_131 : zc_meth (⟨"StubHouse", "lose", "()I"⟩, prog_1_method_24_code, 2, (some .int)) (1628, 1, 1626, 1627) = true := by decide +kernel
set_option maxRecDepth 20000 in
theorem za_131 : zc_all zk_ms2 zk_mh zk_Cs zk_nms ⟨"StubHouse", "lose", "()I"⟩ prog_1_method_24_code 2 (some .int) ztb_131 = true := by decide +kernel
set_option maxRecDepth 20000 in
theorem zm_132 : zc_meth (⟨"StubHouse$Tree", "clear", "()V"⟩, prog_11_method_2_code, 2, none) (1636, 2, 1634, 1635) = true := by decide +kernel
set_option maxRecDepth 20000 in
theorem za_132 : zc_all zk_ms2 zk_mh zk_Cs zk_nms ⟨"StubHouse$Tree", "clear", "()V"⟩ prog_11_method_2_code 2 none ztb_132 = true := by decide +kernel
set_option maxRecDepth 20000 in
theorem zm_133 : zc_meth (⟨"StubHouse$Log", "clear", "()V"⟩, prog_5_method_2_code, 1, none) (1640, 6, 1638, 1639) = true := by decide +kernel
set_option maxRecDepth 20000 in
theorem za_133 : zc_all zk_ms2 zk_mh zk_Cs zk_nms ⟨"StubHouse$Log", "clear", "()V"⟩ prog_5_method_2_code 1 none ztb_133 = true := by decide +kernel
set_option maxRecDepth 20000 in
theorem zm_134 : zc_meth (⟨"StubHouse", "rebuild", "()I"⟩, prog_1_method_25_code, 1, (some .int)) (1645, 1, 1643, 1644) = true := by decide +kernel
set_option maxRecDepth 20000 in
theorem za_134 : zc_all zk_ms2 zk_mh zk_Cs zk_nms ⟨"StubHouse", "rebuild", "()I"⟩ prog_1_method_25_code 1 (some .int) ztb_134 = true := by decide +kernel
set_option maxRecDepth 20000 in
theorem zm_135 : zc_meth (⟨"StubHouse", "reclaim", "(I)I"⟩, prog_1_method_27_code, 2, (some .int)) (2228, 1, 2226, 2227) = true := by decide +kernel
set_option maxRecDepth 20000 in
theorem za_135 : zc_all zk_ms2 zk_mh zk_Cs zk_nms ⟨"StubHouse", "reclaim", "(I)I"⟩ prog_1_method_27_code 2 (some .int) ztb_135 = true := by decide +kernel
set_option maxRecDepth 20000 in
theorem zm_136 : zc_meth (⟨"StubHouse", "drive", "(II)I"⟩, prog_1_method_28_code, 4, (some .int)) (2236, 1, 2234, 2235) = true := by decide +kernel
set_option maxRecDepth 20000 in
theorem za_136 : zc_all zk_ms2 zk_mh zk_Cs zk_nms ⟨"StubHouse", "drive", "(II)I"⟩ prog_1_method_28_code 4 (some .int) ztb_136 = true := by decide +kernel
set_option maxRecDepth 20000 in
theorem zm_137 : zc_meth (⟨"StubHouse", "told", "(I)I"⟩, prog_1_method_29_code, 2, (some .int)) (2400, 1, 2238, 2239) = true := by decide +kernel
set_option maxRecDepth 20000 in
theorem za_137 : zc_all zk_ms2 zk_mh zk_Cs zk_nms ⟨"StubHouse", "told", "(I)I"⟩ prog_1_method_29_code 2 (some .int) ztb_137 = true := by decide +kernel
set_option maxRecDepth 20000 in
theorem zm_138 : zc_meth (⟨"StubHouse", "tape", "(II)I"⟩, prog_1_method_31_code, 4, (some .int)) (2408, 1, 2406, 2407) = true := by decide +kernel
set_option maxRecDepth 20000 in
theorem za_138 : zc_all zk_ms2 zk_mh zk_Cs zk_nms ⟨"StubHouse", "tape", "(II)I"⟩ prog_1_method_31_code 4 (some .int) ztb_138 = true := by decide +kernel
set_option maxRecDepth 20000 in
theorem zm_139 : zc_meth (⟨"StubHouse", "byteOf", "(II)I"⟩, prog_1_method_32_code, 3, (some .int)) (2420, 1, 2418, 2419) = true := by decide +kernel
set_option maxRecDepth 20000 in
theorem za_139 : zc_all zk_ms2 zk_mh zk_Cs zk_nms ⟨"StubHouse", "byteOf", "(II)I"⟩ prog_1_method_32_code 3 (some .int) ztb_139 = true := by decide +kernel
set_option maxRecDepth 20000 in
theorem zm_140 : zc_meth (⟨"StubHouse", "spoil", "(III)I"⟩, prog_1_method_33_code, 4, (some .int)) (2429, 1, 2427, 2428) = true := by decide +kernel
set_option maxRecDepth 20000 in
theorem za_140 : zc_all zk_ms2 zk_mh zk_Cs zk_nms ⟨"StubHouse", "spoil", "(III)I"⟩ prog_1_method_33_code 4 (some .int) ztb_140 = true := by decide +kernel
set_option maxRecDepth 20000 in
theorem zm_141 : zc_meth (⟨"StubHouse", "segment", "(III)I"⟩, prog_1_method_34_code, 6, (some .int)) (2437, 1, 2435, 2436) = true := by decide +kernel
set_option maxRecDepth 20000 in
theorem za_141 : zc_all zk_ms2 zk_mh zk_Cs zk_nms ⟨"StubHouse", "segment", "(III)I"⟩ prog_1_method_34_code 6 (some .int) ztb_141 = true := by decide +kernel
set_option maxRecDepth 20000 in
theorem zm_142 : zc_meth (⟨"StubHouse", "view", "(II)I"⟩, prog_1_method_35_code, 5, (some .int)) (2446, 1, 2444, 2445) = true := by decide +kernel
set_option maxRecDepth 20000 in
theorem za_142 : zc_all zk_ms2 zk_mh zk_Cs zk_nms ⟨"StubHouse", "view", "(II)I"⟩ prog_1_method_35_code 5 (some .int) ztb_142 = true := by decide +kernel
set_option maxRecDepth 20000 in
theorem zm_143 : zc_meth (⟨"StubHouseModel", "<init>", "()V"⟩, prog_14_method_3_code, 1, none) (2451, 14, 2450, 0) = true := by decide +kernel
set_option maxRecDepth 20000 in
theorem za_143 : zc_all zk_ms2 zk_mh zk_Cs zk_nms ⟨"StubHouseModel", "<init>", "()V"⟩ prog_14_method_3_code 1 none ztb_143 = true := by decide +kernel
set_option maxRecDepth 20000 in
theorem zm_144 : zc_meth (⟨"StubHouseModel", "sync", "()I"⟩, prog_14_method_47_code, 1, (some .int)) (3027, 14, 3025, 3026) = true := by decide +kernel
set_option maxRecDepth 20000 in
theorem za_144 : zc_all zk_ms2 zk_mh zk_Cs zk_nms ⟨"StubHouseModel", "sync", "()I"⟩ prog_14_method_47_code 1 (some .int) ztb_144 = true := by decide +kernel
set_option maxRecDepth 20000 in
theorem zm_145 : zc_meth (⟨"StubHouseModel", "lose", "()I"⟩, prog_14_method_51_code, 2, (some .int)) (3039, 14, 3037, 3038) = true := by decide +kernel
set_option maxRecDepth 20000 in
theorem za_145 : zc_all zk_ms2 zk_mh zk_Cs zk_nms ⟨"StubHouseModel", "lose", "()I"⟩ prog_14_method_51_code 2 (some .int) ztb_145 = true := by decide +kernel
set_option maxRecDepth 20000 in
theorem zm_146 : zc_meth (⟨"StubHouseModel", "files", "()I"⟩, prog_14_method_50_code, 3, (some .int)) (3203, 14, 3202, 6009) = true := by decide +kernel
set_option maxRecDepth 20000 in
theorem za_146 : zc_all zk_ms2 zk_mh zk_Cs zk_nms ⟨"StubHouseModel", "files", "()I"⟩ prog_14_method_50_code 3 (some .int) ztb_146 = true := by decide +kernel
set_option maxRecDepth 20000 in
theorem zm_147 : zc_meth (⟨"StubHouseModel", "rebuild", "()I"⟩, prog_14_method_77_code, 3, (some .int)) (3260, 14, 3258, 3259) = true := by decide +kernel
set_option maxRecDepth 20000 in
theorem za_147 : zc_all zk_ms2 zk_mh zk_Cs zk_nms ⟨"StubHouseModel", "rebuild", "()I"⟩ prog_14_method_77_code 3 (some .int) ztb_147 = true := by decide +kernel
set_option maxRecDepth 20000 in
theorem zm_148 : zc_meth (⟨"StubHouseModel", "heldBlocks", "()I"⟩, prog_14_method_118_code, 3, (some .int)) (3427, 14, 3426, 7206) = true := by decide +kernel
set_option maxRecDepth 20000 in
theorem za_148 : zc_all zk_ms2 zk_mh zk_Cs zk_nms ⟨"StubHouseModel", "heldBlocks", "()I"⟩ prog_14_method_118_code 3 (some .int) ztb_148 = true := by decide +kernel
set_option maxRecDepth 20000 in
theorem zm_149 : zc_meth (⟨"StubHouseModel", "nodes", "()I"⟩, prog_14_method_119_code, 3, (some .int)) (3431, 14, 3430, 7207) = true := by decide +kernel
set_option maxRecDepth 20000 in
theorem za_149 : zc_all zk_ms2 zk_mh zk_Cs zk_nms ⟨"StubHouseModel", "nodes", "()I"⟩ prog_14_method_119_code 3 (some .int) ztb_149 = true := by decide +kernel
end
section
/-! the rows of the law, checked -/
noncomputable def zc_rng (ms2 : zkMS) (mh : zkMH) (Cs : List zkCK) (nms : List (MethodName × ByteArray × Nat)) (y : MethodName) (cc : ByteArray) (mL : Nat) (ret : Option FieldType) (tb : zxTB) (k n : Nat) : Bool := (List.range n).all (fun j => zc_ro ms2 mh Cs nms y cc mL ret (k + j) (zx_row tb (k + j)))
theorem zc_rng_in {ms2 : zkMS} {mh : zkMH} {Cs : List zkCK} {nms : List (MethodName × ByteArray × Nat)} {y : MethodName} {cc : ByteArray} {mL : Nat} {ret : Option FieldType} {tb : zxTB} {k n : Nat} (h : zc_rng ms2 mh Cs nms y cc mL ret tb k n = true) (pc : Nat) (h1 : k ≤ pc) (h2 : pc < k + n) : zc_ro ms2 mh Cs nms y cc mL ret pc (zx_row tb pc) = true := by
  have := List.all_eq_true.mp h (pc - k) (List.mem_range.mpr (by omega))
  rw [show k + (pc - k) = pc by omega] at this
  exact this
set_option maxRecDepth 20000 in
theorem zl_0 : zc_rng zk_ms2 zk_mh zk_Cs zk_nms ⟨"StubHouseLaw", "law", "([I)Z"⟩ code 4 (some .boolean) ztb_law 0 73 = true := by decide +kernel
set_option maxRecDepth 20000 in
theorem zl_1 : zc_rng zk_ms2 zk_mh zk_Cs zk_nms ⟨"StubHouseLaw", "law", "([I)Z"⟩ code 4 (some .boolean) ztb_law 73 73 = true := by decide +kernel
set_option maxRecDepth 20000 in
theorem zl_2 : zc_rng zk_ms2 zk_mh zk_Cs zk_nms ⟨"StubHouseLaw", "law", "([I)Z"⟩ code 4 (some .boolean) ztb_law 146 73 = true := by decide +kernel
set_option maxRecDepth 20000 in
theorem zl_3 : zc_rng zk_ms2 zk_mh zk_Cs zk_nms ⟨"StubHouseLaw", "law", "([I)Z"⟩ code 4 (some .boolean) ztb_law 219 73 = true := by decide +kernel
set_option maxRecDepth 20000 in
theorem zl_4 : zc_rng zk_ms2 zk_mh zk_Cs zk_nms ⟨"StubHouseLaw", "law", "([I)Z"⟩ code 4 (some .boolean) ztb_law 292 73 = true := by decide +kernel
set_option maxRecDepth 20000 in
theorem zl_5 : zc_rng zk_ms2 zk_mh zk_Cs zk_nms ⟨"StubHouseLaw", "law", "([I)Z"⟩ code 4 (some .boolean) ztb_law 365 73 = true := by decide +kernel
set_option maxRecDepth 20000 in
theorem zl_6 : zc_rng zk_ms2 zk_mh zk_Cs zk_nms ⟨"StubHouseLaw", "law", "([I)Z"⟩ code 4 (some .boolean) ztb_law 438 73 = true := by decide +kernel
set_option maxRecDepth 20000 in
theorem zl_7 : zc_rng zk_ms2 zk_mh zk_Cs zk_nms ⟨"StubHouseLaw", "law", "([I)Z"⟩ code 4 (some .boolean) ztb_law 511 73 = true := by decide +kernel
end
section
/-! the rows of the law, checked -/
set_option maxRecDepth 20000 in
theorem zl_8 : zc_rng zk_ms2 zk_mh zk_Cs zk_nms ⟨"StubHouseLaw", "law", "([I)Z"⟩ code 4 (some .boolean) ztb_law 584 73 = true := by decide +kernel
set_option maxRecDepth 20000 in
theorem zl_9 : zc_rng zk_ms2 zk_mh zk_Cs zk_nms ⟨"StubHouseLaw", "law", "([I)Z"⟩ code 4 (some .boolean) ztb_law 657 73 = true := by decide +kernel
set_option maxRecDepth 20000 in
theorem zl_10 : zc_rng zk_ms2 zk_mh zk_Cs zk_nms ⟨"StubHouseLaw", "law", "([I)Z"⟩ code 4 (some .boolean) ztb_law 730 73 = true := by decide +kernel
set_option maxRecDepth 20000 in
theorem zl_11 : zc_rng zk_ms2 zk_mh zk_Cs zk_nms ⟨"StubHouseLaw", "law", "([I)Z"⟩ code 4 (some .boolean) ztb_law 803 73 = true := by decide +kernel
set_option maxRecDepth 20000 in
theorem zl_12 : zc_rng zk_ms2 zk_mh zk_Cs zk_nms ⟨"StubHouseLaw", "law", "([I)Z"⟩ code 4 (some .boolean) ztb_law 876 73 = true := by decide +kernel
set_option maxRecDepth 20000 in
theorem zl_13 : zc_rng zk_ms2 zk_mh zk_Cs zk_nms ⟨"StubHouseLaw", "law", "([I)Z"⟩ code 4 (some .boolean) ztb_law 949 73 = true := by decide +kernel
set_option maxRecDepth 20000 in
theorem zl_14 : zc_rng zk_ms2 zk_mh zk_Cs zk_nms ⟨"StubHouseLaw", "law", "([I)Z"⟩ code 4 (some .boolean) ztb_law 1022 73 = true := by decide +kernel
set_option maxRecDepth 20000 in
theorem zl_15 : zc_rng zk_ms2 zk_mh zk_Cs zk_nms ⟨"StubHouseLaw", "law", "([I)Z"⟩ code 4 (some .boolean) ztb_law 1095 73 = true := by decide +kernel
end
section
/-! all methods of the table -/
def zk_one (q : zxTB × Nat × Nat × Nat) (q2 : MethodName × ByteArray × Nat × Option FieldType) : Prop := q.2.1 = q2.2.2.1 ∧ zk_meth q2.1 q2.2.1 q2.2.2.1 q2.2.2.2 ∧ ∀ pc, zk_ro zk_ms2 zk_Ps q2.1 q2.2.1 q2.2.2.1 q2.2.2.2 pc (zx_row q.1 pc)
def zk_all {α : Type} (P : α → Prop) : List α → Prop
  | [] => True
  | x :: l => P x ∧ zk_all P l
theorem zk_all_get {α : Type} {P : α → Prop} : ∀ {l : List α} (i : Nat) {x : α}, zk_all P l → l[i]? = some x → P x
  | [], i, x, _, h => by cases h
  | y :: l, 0, x, h, e => by cases e; exact h.1
  | y :: l, i + 1, x, h, e => zk_all_get i h.2 e
theorem zr_2_getL {α β : Type} {R : α → β → Prop} : ∀ {l : List α} {l' : List β} (i : Nat) {x : α}, zr_2 R l l' → l[i]? = some x → ∃ y, l'[i]? = some y ∧ R x y
  | [], [], i, x, _, h => by cases h
  | y :: l, z :: l', 0, x, h, e => by cases e; exact ⟨z, rfl, h.1⟩
  | y :: l, z :: l', i + 1, x, h, e => zr_2_getL i h.2 e
  | [], _ :: _, _, _, h, _ => h.elim
  | _ :: _, [], _, _, h, _ => h.elim
theorem za_law : zc_all zk_ms2 zk_mh zk_Cs zk_nms ⟨"StubHouseLaw", "law", "([I)Z"⟩ code 4 (some .boolean) ztb_law = true := by
  refine List.all_eq_true.mpr (fun pc hpc => ?_)
  have hpc : pc < 16 * ztb_law.length := List.mem_range.mp hpc
  have hpc : pc < 1168 := hpc
  by_cases g0 : pc < 73
  · exact zc_rng_in zl_0 pc (by omega) (by omega)
  by_cases g1 : pc < 146
  · exact zc_rng_in zl_1 pc (by omega) (by omega)
  by_cases g2 : pc < 219
  · exact zc_rng_in zl_2 pc (by omega) (by omega)
  by_cases g3 : pc < 292
  · exact zc_rng_in zl_3 pc (by omega) (by omega)
  by_cases g4 : pc < 365
  · exact zc_rng_in zl_4 pc (by omega) (by omega)
  by_cases g5 : pc < 438
  · exact zc_rng_in zl_5 pc (by omega) (by omega)
  by_cases g6 : pc < 511
  · exact zc_rng_in zl_6 pc (by omega) (by omega)
  by_cases g7 : pc < 584
  · exact zc_rng_in zl_7 pc (by omega) (by omega)
  by_cases g8 : pc < 657
  · exact zc_rng_in zl_8 pc (by omega) (by omega)
  by_cases g9 : pc < 730
  · exact zc_rng_in zl_9 pc (by omega) (by omega)
  by_cases g10 : pc < 803
  · exact zc_rng_in zl_10 pc (by omega) (by omega)
  by_cases g11 : pc < 876
  · exact zc_rng_in zl_11 pc (by omega) (by omega)
  by_cases g12 : pc < 949
  · exact zc_rng_in zl_12 pc (by omega) (by omega)
  by_cases g13 : pc < 1022
  · exact zc_rng_in zl_13 pc (by omega) (by omega)
  by_cases g14 : pc < 1095
  · exact zc_rng_in zl_14 pc (by omega) (by omega)
  by_cases g15 : pc < 1168
  · exact zc_rng_in zl_15 pc (by omega) (by omega)
  omega
set_option maxRecDepth 20000 in
theorem zk_hall0 : zk_all (fun q : MethodName × ByteArray × Nat × Option FieldType => zk_meth q.1 q.2.1 q.2.2.1 q.2.2.2) zk_ms2 := ⟨zc_meth_ok zm_0, zc_meth_ok zm_1, zc_meth_ok zm_2, zc_meth_ok zm_3, zc_meth_ok zm_4, zc_meth_ok zm_5, zc_meth_ok zm_6, zc_meth_ok zm_7, zc_meth_ok zm_8, zc_meth_ok zm_9, zc_meth_ok zm_10, zc_meth_ok zm_11, zc_meth_ok zm_12, zc_meth_ok zm_13, zc_meth_ok zm_14, zc_meth_ok zm_15, zc_meth_ok zm_16, zc_meth_ok zm_17, zc_meth_ok zm_18, zc_meth_ok zm_19, zc_meth_ok zm_20, zc_meth_ok zm_21, zc_meth_ok zm_22, zc_meth_ok zm_23, zc_meth_ok zm_24, zc_meth_ok zm_25, zc_meth_ok zm_26, zc_meth_ok zm_27, zc_meth_ok zm_28, zc_meth_ok zm_29, zc_meth_ok zm_30, zc_meth_ok zm_31, zc_meth_ok zm_32, zc_meth_ok zm_33, zc_meth_ok zm_34, zc_meth_ok zm_35, zc_meth_ok zm_36, zc_meth_ok zm_37, zc_meth_ok zm_38, zc_meth_ok zm_39, zc_meth_ok zm_40, zc_meth_ok zm_41, zc_meth_ok zm_42, zc_meth_ok zm_43, zc_meth_ok zm_44, zc_meth_ok zm_45, zc_meth_ok zm_46, zc_meth_ok zm_47, zc_meth_ok zm_48, zc_meth_ok zm_49, zc_meth_ok zm_50, zc_meth_ok zm_51, zc_meth_ok zm_52, zc_meth_ok zm_53, zc_meth_ok zm_54, zc_meth_ok zm_55, zc_meth_ok zm_56, zc_meth_ok zm_57, zc_meth_ok zm_58, zc_meth_ok zm_59, zc_meth_ok zm_60, zc_meth_ok zm_61, zc_meth_ok zm_62, zc_meth_ok zm_63, zc_meth_ok zm_64, zc_meth_ok zm_65, zc_meth_ok zm_66, zc_meth_ok zm_67, zc_meth_ok zm_68, zc_meth_ok zm_69, zc_meth_ok zm_70, zc_meth_ok zm_71, zc_meth_ok zm_72, zc_meth_ok zm_73, zc_meth_ok zm_74, zc_meth_ok zm_75, zc_meth_ok zm_76, zc_meth_ok zm_77, zc_meth_ok zm_78, zc_meth_ok zm_79, zc_meth_ok zm_80, zc_meth_ok zm_81, zc_meth_ok zm_82, zc_meth_ok zm_83, zc_meth_ok zm_84, zc_meth_ok zm_85, zc_meth_ok zm_86, zc_meth_ok zm_87, zc_meth_ok zm_88, zc_meth_ok zm_89, zc_meth_ok zm_90, zc_meth_ok zm_91, zc_meth_ok zm_92, zc_meth_ok zm_93, zc_meth_ok zm_94, zc_meth_ok zm_95, zc_meth_ok zm_96, zc_meth_ok zm_97, zc_meth_ok zm_98, zc_meth_ok zm_99, zc_meth_ok zm_100, zc_meth_ok zm_101, zc_meth_ok zm_102, zc_meth_ok zm_103, zc_meth_ok zm_104, zc_meth_ok zm_105, zc_meth_ok zm_106, zc_meth_ok zm_107, zc_meth_ok zm_108, zc_meth_ok zm_109, zc_meth_ok zm_110, zc_meth_ok zm_111, zc_meth_ok zm_112, zc_meth_ok zm_113, zc_meth_ok zm_114, zc_meth_ok zm_115, zc_meth_ok zm_116, zc_meth_ok zm_117, zc_meth_ok zm_118, zc_meth_ok zm_119, zc_meth_ok zm_120, zc_meth_ok zm_121, zc_meth_ok zm_122, zc_meth_ok zm_123, zc_meth_ok zm_124, zc_meth_ok zm_125, zc_meth_ok zm_126, zc_meth_ok zm_127, zc_meth_ok zm_128, zc_meth_ok zm_129, zc_meth_ok zm_130, zc_meth_ok zm_131, zc_meth_ok zm_132, zc_meth_ok zm_133, zc_meth_ok zm_134, zc_meth_ok zm_135, zc_meth_ok zm_136, zc_meth_ok zm_137, zc_meth_ok zm_138, zc_meth_ok zm_139, zc_meth_ok zm_140, zc_meth_ok zm_141, zc_meth_ok zm_142, zc_meth_ok zm_143, zc_meth_ok zm_144, zc_meth_ok zm_145, zc_meth_ok zm_146, zc_meth_ok zm_147, zc_meth_ok zm_148, zc_meth_ok zm_149, trivial⟩
theorem zk_hall : ∀ (i : Nat) (y : MethodName) (cc : ByteArray) (mL : Nat) (ret : Option FieldType), zk_ms2[i]? = some (y, cc, mL, ret) → zk_meth y cc mL ret := fun i _ _ _ _ h => zk_all_get (P := fun q : MethodName × ByteArray × Nat × Option FieldType => zk_meth q.1 q.2.1 q.2.2.1 q.2.2.2) i zk_hall0 h
theorem zk_one_of {tb : zxTB} {mL bu bw : Nat} {y : MethodName} {cc : ByteArray} {ret : Option FieldType} {h : Nat × Nat × Nat × Nat} (hnm : ∀ (i : Nat) (y : MethodName) (cc : ByteArray) (mL : Nat), zk_nms[i]? = some (y, cc, mL) → zk_nm y cc mL) (h1 : zc_meth (y, cc, mL, ret) h = true) (h2 : zc_all zk_ms2 zk_mh zk_Cs zk_nms y cc mL ret tb = true) : zk_one (tb, mL, bu, bw) (y, cc, mL, ret) := ⟨rfl, zc_meth_ok h1, zc_all_ok zk_hall zk_Cs_ok hnm h2⟩
set_option maxRecDepth 20000 in
theorem zk_ones (hnm : ∀ (i : Nat) (y : MethodName) (cc : ByteArray) (mL : Nat), zk_nms[i]? = some (y, cc, mL) → zk_nm y cc mL) : zr_2 zk_one zx_ms zk_ms2 := ⟨zk_one_of hnm zm_0 za_0, zk_one_of hnm zm_1 za_1, zk_one_of hnm zm_2 za_2, zk_one_of hnm zm_3 za_3, zk_one_of hnm zm_4 za_4, zk_one_of hnm zm_5 za_5, zk_one_of hnm zm_6 za_6, zk_one_of hnm zm_7 za_7, zk_one_of hnm zm_8 za_8, zk_one_of hnm zm_9 za_9, zk_one_of hnm zm_10 za_10, zk_one_of hnm zm_11 za_11, zk_one_of hnm zm_12 za_12, zk_one_of hnm zm_13 za_13, zk_one_of hnm zm_14 za_14, zk_one_of hnm zm_15 za_15, zk_one_of hnm zm_16 za_16, zk_one_of hnm zm_17 za_17, zk_one_of hnm zm_18 za_18, zk_one_of hnm zm_19 za_19, zk_one_of hnm zm_20 za_20, zk_one_of hnm zm_21 za_21, zk_one_of hnm zm_22 za_22, zk_one_of hnm zm_23 za_23, zk_one_of hnm zm_24 za_24, zk_one_of hnm zm_25 za_25, zk_one_of hnm zm_26 za_26, zk_one_of hnm zm_27 za_27, zk_one_of hnm zm_28 za_28, zk_one_of hnm zm_29 za_29, zk_one_of hnm zm_30 za_30, zk_one_of hnm zm_31 za_31, zk_one_of hnm zm_32 za_32, zk_one_of hnm zm_33 za_33, zk_one_of hnm zm_34 za_34, zk_one_of hnm zm_35 za_35, zk_one_of hnm zm_36 za_36, zk_one_of hnm zm_37 za_37, zk_one_of hnm zm_38 za_38, zk_one_of hnm zm_39 za_39, zk_one_of hnm zm_40 za_40, zk_one_of hnm zm_41 za_41, zk_one_of hnm zm_42 za_42, zk_one_of hnm zm_43 za_43, zk_one_of hnm zm_44 za_44, zk_one_of hnm zm_45 za_45, zk_one_of hnm zm_46 za_46, zk_one_of hnm zm_47 za_47, zk_one_of hnm zm_48 za_48, zk_one_of hnm zm_49 za_49, zk_one_of hnm zm_50 za_50, zk_one_of hnm zm_51 za_51, zk_one_of hnm zm_52 za_52, zk_one_of hnm zm_53 za_53, zk_one_of hnm zm_54 za_54, zk_one_of hnm zm_55 za_55, zk_one_of hnm zm_56 za_56, zk_one_of hnm zm_57 za_57, zk_one_of hnm zm_58 za_58, zk_one_of hnm zm_59 za_59, zk_one_of hnm zm_60 za_60, zk_one_of hnm zm_61 za_61, zk_one_of hnm zm_62 za_62, zk_one_of hnm zm_63 za_63, zk_one_of hnm zm_64 za_64, zk_one_of hnm zm_65 za_65, zk_one_of hnm zm_66 za_66, zk_one_of hnm zm_67 za_67, zk_one_of hnm zm_68 za_68, zk_one_of hnm zm_69 za_69, zk_one_of hnm zm_70 za_70, zk_one_of hnm zm_71 za_71, zk_one_of hnm zm_72 za_72, zk_one_of hnm zm_73 za_73, zk_one_of hnm zm_74 za_74, zk_one_of hnm zm_75 za_75, zk_one_of hnm zm_76 za_76, zk_one_of hnm zm_77 za_77, zk_one_of hnm zm_78 za_78, zk_one_of hnm zm_79 za_79, zk_one_of hnm zm_80 za_80, zk_one_of hnm zm_81 za_81, zk_one_of hnm zm_82 za_82, zk_one_of hnm zm_83 za_83, zk_one_of hnm zm_84 za_84, zk_one_of hnm zm_85 za_85, zk_one_of hnm zm_86 za_86, zk_one_of hnm zm_87 za_87, zk_one_of hnm zm_88 za_88, zk_one_of hnm zm_89 za_89, zk_one_of hnm zm_90 za_90, zk_one_of hnm zm_91 za_91, zk_one_of hnm zm_92 za_92, zk_one_of hnm zm_93 za_93, zk_one_of hnm zm_94 za_94, zk_one_of hnm zm_95 za_95, zk_one_of hnm zm_96 za_96, zk_one_of hnm zm_97 za_97, zk_one_of hnm zm_98 za_98, zk_one_of hnm zm_99 za_99, zk_one_of hnm zm_100 za_100, zk_one_of hnm zm_101 za_101, zk_one_of hnm zm_102 za_102, zk_one_of hnm zm_103 za_103, zk_one_of hnm zm_104 za_104, zk_one_of hnm zm_105 za_105, zk_one_of hnm zm_106 za_106, zk_one_of hnm zm_107 za_107, zk_one_of hnm zm_108 za_108, zk_one_of hnm zm_109 za_109, zk_one_of hnm zm_110 za_110, zk_one_of hnm zm_111 za_111, zk_one_of hnm zm_112 za_112, zk_one_of hnm zm_113 za_113, zk_one_of hnm zm_114 za_114, zk_one_of hnm zm_115 za_115, zk_one_of hnm zm_116 za_116, zk_one_of hnm zm_117 za_117, zk_one_of hnm zm_118 za_118, zk_one_of hnm zm_119 za_119, zk_one_of hnm zm_120 za_120, zk_one_of hnm zm_121 za_121, zk_one_of hnm zm_122 za_122, zk_one_of hnm zm_123 za_123, zk_one_of hnm zm_124 za_124, zk_one_of hnm zm_125 za_125, zk_one_of hnm zm_126 za_126, zk_one_of hnm zm_127 za_127, zk_one_of hnm zm_128 za_128, zk_one_of hnm zm_129 za_129, zk_one_of hnm zm_130 za_130, zk_one_of hnm zm_131 za_131, zk_one_of hnm zm_132 za_132, zk_one_of hnm zm_133 za_133, zk_one_of hnm zm_134 za_134, zk_one_of hnm zm_135 za_135, zk_one_of hnm zm_136 za_136, zk_one_of hnm zm_137 za_137, zk_one_of hnm zm_138 za_138, zk_one_of hnm zm_139 za_139, zk_one_of hnm zm_140 za_140, zk_one_of hnm zm_141 za_141, zk_one_of hnm zm_142 za_142, zk_one_of hnm zm_143 za_143, zk_one_of hnm zm_144 za_144, zk_one_of hnm zm_145 za_145, zk_one_of hnm zm_146 za_146, zk_one_of hnm zm_147 za_147, zk_one_of hnm zm_148 za_148, zk_one_of hnm zm_149 za_149, trivial⟩
theorem zk_MS_ok (hnm : ∀ (i : Nat) (y : MethodName) (cc : ByteArray) (mL : Nat), zk_nms[i]? = some (y, cc, mL) → zk_nm y cc mL) : zk_MS zx_ms zk_ms2 zk_Ps := by
  intro i tb mL bu bw h
  obtain ⟨⟨y, cc, mL2, ret⟩, e, h1, h2, h3⟩ := zr_2_getL i (zk_ones hnm) h
  have h1 : mL = mL2 := h1
  subst h1
  exact ⟨y, cc, ret, e, h2, h3⟩
theorem zk_law_ro (hnm : ∀ (i : Nat) (y : MethodName) (cc : ByteArray) (mL : Nat), zk_nms[i]? = some (y, cc, mL) → zk_nm y cc mL) : ∀ pc, zk_ro zk_ms2 zk_Ps ⟨"StubHouseLaw", "law", "([I)Z"⟩ code 4 (some .boolean) pc (zx_row ztb_law pc) := zc_all_ok zk_hall zk_Cs_ok hnm za_law
end
section
/-! the heap behind the law's entry -/
def zx_h0_0 : List zxCE := [(26, 0, [19, 1955, 1995, 8451, 8467, 8803, 8819, 8851, 11, 0, 0], []), (2, 256, [0], []), (24, 0, [27, 0, 8, 8, 8], []), (5, 60, [2], [(59, 1923), (58, 1891), (57, 1859), (56, 1827), (55, 1795), (54, 1763), (53, 1731), (52, 1699), (51, 1667), (50, 1635), (49, 1603), (48, 1571), (47, 1539), (46, 1507), (45, 1475), (44, 1443), (43, 1411), (42, 1379), (41, 1347), (40, 1315), (39, 1283), (38, 1251), (37, 1219), (36, 1187), (35, 1155), (34, 1123), (33, 1091), (32, 1059), (31, 1027), (30, 995), (29, 963), (28, 931), (27, 899), (26, 867), (25, 835), (24, 803), (23, 771), (22, 739), (21, 707), (20, 675), (19, 643), (18, 611), (17, 579), (16, 547), (15, 515), (14, 483), (13, 451), (12, 419), (11, 387), (10, 355), (9, 323), (8, 291), (7, 259), (6, 227), (5, 195), (4, 163), (3, 131), (2, 99), (1, 67), (0, 35)]), (20, 0, [8, 0, 1, 0, 0, 0, 0, 0, 43, 51, 59, 0, 0], []), (1, 2, [0], []), (1, 2, [0], []), (1, 32, [34359738360], []), (20, 0, [0, 0, 1, 0, 0, 0, 0, 0, 75, 83, 91, 0, 0], []), (1, 2, [0], []), (1, 2, [0], []), (1, 32, [34359738360], []), (20, 0, [0, 0, 1, 0, 0, 0, 0, 0, 107, 115, 123, 0, 0], []), (1, 2, [0], []), (1, 2, [0], []), (1, 32, [34359738360], []), (20, 0, [0, 0, 1, 0, 0, 0, 0, 0, 139, 147, 155, 0, 0], []), (1, 2, [0], []), (1, 2, [0], []), (1, 32, [34359738360], []), (20, 0, [0, 0, 1, 0, 0, 0, 0, 0, 171, 179, 187, 0, 0], []), (1, 2, [0], []), (1, 2, [0], []), (1, 32, [34359738360], []), (20, 0, [0, 0, 1, 0, 0, 0, 0, 0, 203, 211, 219, 0, 0], []), (1, 2, [0], []), (1, 2, [0], []), (1, 32, [34359738360], []), (20, 0, [0, 0, 1, 0, 0, 0, 0, 0, 235, 243, 251, 0, 0], []), (1, 2, [0], []), (1, 2, [0], []), (1, 32, [34359738360], [])]
def zx_h0_1 : List zxCE := [(20, 0, [0, 0, 1, 0, 0, 0, 0, 0, 267, 275, 283, 0, 0], []), (1, 2, [0], []), (1, 2, [0], []), (1, 32, [34359738360], []), (20, 0, [0, 0, 1, 0, 0, 0, 0, 0, 299, 307, 315, 0, 0], []), (1, 2, [0], []), (1, 2, [0], []), (1, 32, [34359738360], []), (20, 0, [0, 0, 1, 0, 0, 0, 0, 0, 331, 339, 347, 0, 0], []), (1, 2, [0], []), (1, 2, [0], []), (1, 32, [34359738360], []), (20, 0, [0, 0, 1, 0, 0, 0, 0, 0, 363, 371, 379, 0, 0], []), (1, 2, [0], []), (1, 2, [0], []), (1, 32, [34359738360], []), (20, 0, [0, 0, 1, 0, 0, 0, 0, 0, 395, 403, 411, 0, 0], []), (1, 2, [0], []), (1, 2, [0], []), (1, 32, [34359738360], []), (20, 0, [0, 0, 1, 0, 0, 0, 0, 0, 427, 435, 443, 0, 0], []), (1, 2, [0], []), (1, 2, [0], []), (1, 32, [34359738360], []), (20, 0, [0, 0, 1, 0, 0, 0, 0, 0, 459, 467, 475, 0, 0], []), (1, 2, [0], []), (1, 2, [0], []), (1, 32, [34359738360], []), (20, 0, [0, 0, 1, 0, 0, 0, 0, 0, 491, 499, 507, 0, 0], []), (1, 2, [0], []), (1, 2, [0], []), (1, 32, [34359738360], [])]
def zx_h0_2 : List zxCE := [(20, 0, [0, 0, 1, 0, 0, 0, 0, 0, 523, 531, 539, 0, 0], []), (1, 2, [0], []), (1, 2, [0], []), (1, 32, [34359738360], []), (20, 0, [0, 0, 1, 0, 0, 0, 0, 0, 555, 563, 571, 0, 0], []), (1, 2, [0], []), (1, 2, [0], []), (1, 32, [34359738360], []), (20, 0, [0, 0, 1, 0, 0, 0, 0, 0, 587, 595, 603, 0, 0], []), (1, 2, [0], []), (1, 2, [0], []), (1, 32, [34359738360], []), (20, 0, [0, 0, 1, 0, 0, 0, 0, 0, 619, 627, 635, 0, 0], []), (1, 2, [0], []), (1, 2, [0], []), (1, 32, [34359738360], []), (20, 0, [0, 0, 1, 0, 0, 0, 0, 0, 651, 659, 667, 0, 0], []), (1, 2, [0], []), (1, 2, [0], []), (1, 32, [34359738360], []), (20, 0, [0, 0, 1, 0, 0, 0, 0, 0, 683, 691, 699, 0, 0], []), (1, 2, [0], []), (1, 2, [0], []), (1, 32, [34359738360], []), (20, 0, [0, 0, 1, 0, 0, 0, 0, 0, 715, 723, 731, 0, 0], []), (1, 2, [0], []), (1, 2, [0], []), (1, 32, [34359738360], []), (20, 0, [0, 0, 1, 0, 0, 0, 0, 0, 747, 755, 763, 0, 0], []), (1, 2, [0], []), (1, 2, [0], []), (1, 32, [34359738360], [])]
def zx_h0_3 : List zxCE := [(20, 0, [0, 0, 1, 0, 0, 0, 0, 0, 779, 787, 795, 0, 0], []), (1, 2, [0], []), (1, 2, [0], []), (1, 32, [34359738360], []), (20, 0, [0, 0, 1, 0, 0, 0, 0, 0, 811, 819, 827, 0, 0], []), (1, 2, [0], []), (1, 2, [0], []), (1, 32, [34359738360], []), (20, 0, [0, 0, 1, 0, 0, 0, 0, 0, 843, 851, 859, 0, 0], []), (1, 2, [0], []), (1, 2, [0], []), (1, 32, [34359738360], []), (20, 0, [0, 0, 1, 0, 0, 0, 0, 0, 875, 883, 891, 0, 0], []), (1, 2, [0], []), (1, 2, [0], []), (1, 32, [34359738360], []), (20, 0, [0, 0, 1, 0, 0, 0, 0, 0, 907, 915, 923, 0, 0], []), (1, 2, [0], []), (1, 2, [0], []), (1, 32, [34359738360], []), (20, 0, [0, 0, 1, 0, 0, 0, 0, 0, 939, 947, 955, 0, 0], []), (1, 2, [0], []), (1, 2, [0], []), (1, 32, [34359738360], []), (20, 0, [0, 0, 1, 0, 0, 0, 0, 0, 971, 979, 987, 0, 0], []), (1, 2, [0], []), (1, 2, [0], []), (1, 32, [34359738360], []), (20, 0, [0, 0, 1, 0, 0, 0, 0, 0, 1003, 1011, 1019, 0, 0], []), (1, 2, [0], []), (1, 2, [0], []), (1, 32, [34359738360], [])]
def zx_h0_4 : List zxCE := [(20, 0, [0, 0, 1, 0, 0, 0, 0, 0, 1035, 1043, 1051, 0, 0], []), (1, 2, [0], []), (1, 2, [0], []), (1, 32, [34359738360], []), (20, 0, [0, 0, 1, 0, 0, 0, 0, 0, 1067, 1075, 1083, 0, 0], []), (1, 2, [0], []), (1, 2, [0], []), (1, 32, [34359738360], []), (20, 0, [0, 0, 1, 0, 0, 0, 0, 0, 1099, 1107, 1115, 0, 0], []), (1, 2, [0], []), (1, 2, [0], []), (1, 32, [34359738360], []), (20, 0, [0, 0, 1, 0, 0, 0, 0, 0, 1131, 1139, 1147, 0, 0], []), (1, 2, [0], []), (1, 2, [0], []), (1, 32, [34359738360], []), (20, 0, [0, 0, 1, 0, 0, 0, 0, 0, 1163, 1171, 1179, 0, 0], []), (1, 2, [0], []), (1, 2, [0], []), (1, 32, [34359738360], []), (20, 0, [0, 0, 1, 0, 0, 0, 0, 0, 1195, 1203, 1211, 0, 0], []), (1, 2, [0], []), (1, 2, [0], []), (1, 32, [34359738360], []), (20, 0, [0, 0, 1, 0, 0, 0, 0, 0, 1227, 1235, 1243, 0, 0], []), (1, 2, [0], []), (1, 2, [0], []), (1, 32, [34359738360], []), (20, 0, [0, 0, 1, 0, 0, 0, 0, 0, 1259, 1267, 1275, 0, 0], []), (1, 2, [0], []), (1, 2, [0], []), (1, 32, [34359738360], [])]
def zx_h0_5 : List zxCE := [(20, 0, [0, 0, 1, 0, 0, 0, 0, 0, 1291, 1299, 1307, 0, 0], []), (1, 2, [0], []), (1, 2, [0], []), (1, 32, [34359738360], []), (20, 0, [0, 0, 1, 0, 0, 0, 0, 0, 1323, 1331, 1339, 0, 0], []), (1, 2, [0], []), (1, 2, [0], []), (1, 32, [34359738360], []), (20, 0, [0, 0, 1, 0, 0, 0, 0, 0, 1355, 1363, 1371, 0, 0], []), (1, 2, [0], []), (1, 2, [0], []), (1, 32, [34359738360], []), (20, 0, [0, 0, 1, 0, 0, 0, 0, 0, 1387, 1395, 1403, 0, 0], []), (1, 2, [0], []), (1, 2, [0], []), (1, 32, [34359738360], []), (20, 0, [0, 0, 1, 0, 0, 0, 0, 0, 1419, 1427, 1435, 0, 0], []), (1, 2, [0], []), (1, 2, [0], []), (1, 32, [34359738360], []), (20, 0, [0, 0, 1, 0, 0, 0, 0, 0, 1451, 1459, 1467, 0, 0], []), (1, 2, [0], []), (1, 2, [0], []), (1, 32, [34359738360], []), (20, 0, [0, 0, 1, 0, 0, 0, 0, 0, 1483, 1491, 1499, 0, 0], []), (1, 2, [0], []), (1, 2, [0], []), (1, 32, [34359738360], []), (20, 0, [0, 0, 1, 0, 0, 0, 0, 0, 1515, 1523, 1531, 0, 0], []), (1, 2, [0], []), (1, 2, [0], []), (1, 32, [34359738360], [])]
def zx_h0_6 : List zxCE := [(20, 0, [0, 0, 1, 0, 0, 0, 0, 0, 1547, 1555, 1563, 0, 0], []), (1, 2, [0], []), (1, 2, [0], []), (1, 32, [34359738360], []), (20, 0, [0, 0, 1, 0, 0, 0, 0, 0, 1579, 1587, 1595, 0, 0], []), (1, 2, [0], []), (1, 2, [0], []), (1, 32, [34359738360], []), (20, 0, [0, 0, 1, 0, 0, 0, 0, 0, 1611, 1619, 1627, 0, 0], []), (1, 2, [0], []), (1, 2, [0], []), (1, 32, [34359738360], []), (20, 0, [0, 0, 1, 0, 0, 0, 0, 0, 1643, 1651, 1659, 0, 0], []), (1, 2, [0], []), (1, 2, [0], []), (1, 32, [34359738360], []), (20, 0, [0, 0, 1, 0, 0, 0, 0, 0, 1675, 1683, 1691, 0, 0], []), (1, 2, [0], []), (1, 2, [0], []), (1, 32, [34359738360], []), (20, 0, [0, 0, 1, 0, 0, 0, 0, 0, 1707, 1715, 1723, 0, 0], []), (1, 2, [0], []), (1, 2, [0], []), (1, 32, [34359738360], []), (20, 0, [0, 0, 1, 0, 0, 0, 0, 0, 1739, 1747, 1755, 0, 0], []), (1, 2, [0], []), (1, 2, [0], []), (1, 32, [34359738360], []), (20, 0, [0, 0, 1, 0, 0, 0, 0, 0, 1771, 1779, 1787, 0, 0], []), (1, 2, [0], []), (1, 2, [0], []), (1, 32, [34359738360], [])]
def zx_h0_7 : List zxCE := [(20, 0, [0, 0, 1, 0, 0, 0, 0, 0, 1803, 1811, 1819, 0, 0], []), (1, 2, [0], []), (1, 2, [0], []), (1, 32, [34359738360], []), (20, 0, [0, 0, 1, 0, 0, 0, 0, 0, 1835, 1843, 1851, 0, 0], []), (1, 2, [0], []), (1, 2, [0], []), (1, 32, [34359738360], []), (20, 0, [0, 0, 1, 0, 0, 0, 0, 0, 1867, 1875, 1883, 0, 0], []), (1, 2, [0], []), (1, 2, [0], []), (1, 32, [34359738360], []), (20, 0, [0, 0, 1, 0, 0, 0, 0, 0, 1899, 1907, 1915, 0, 0], []), (1, 2, [0], []), (1, 2, [0], []), (1, 32, [34359738360], []), (20, 0, [0, 0, 1, 0, 0, 0, 0, 0, 1931, 1939, 1947, 0, 0], []), (1, 2, [0], []), (1, 2, [0], []), (1, 32, [34359738360], []), (22, 0, [1963, 1971, 1979, 1987, 0], []), (2, 6656, [0], []), (1, 208, [0], []), (1, 2, [0], [(1, 1280), (0, 384)]), (1, 2, [0], []), (18, 0, [19, 1955, 2003, 2011, 2019, 2027, 0, 0, 2035, 2043, 0], []), (5, 200, [2], [(199, 8419), (198, 8387), (197, 8355), (196, 8323), (195, 8291), (194, 8259), (193, 8227), (192, 8195), (191, 8163), (190, 8131), (189, 8099), (188, 8067), (187, 8035), (186, 8003), (185, 7971), (184, 7939), (183, 7907), (182, 7875), (181, 7843), (180, 7811), (179, 7779), (178, 7747), (177, 7715), (176, 7683), (175, 7651), (174, 7619), (173, 7587), (172, 7555), (171, 7523), (170, 7491), (169, 7459), (168, 7427), (167, 7395), (166, 7363), (165, 7331), (164, 7299), (163, 7267), (162, 7235), (161, 7203), (160, 7171), (159, 7139), (158, 7107), (157, 7075), (156, 7043), (155, 7011), (154, 6979), (153, 6947), (152, 6915), (151, 6883), (150, 6851), (149, 6819), (148, 6787), (147, 6755), (146, 6723), (145, 6691), (144, 6659), (143, 6627), (142, 6595), (141, 6563), (140, 6531), (139, 6499), (138, 6467), (137, 6435), (136, 6403), (135, 6371), (134, 6339), (133, 6307), (132, 6275), (131, 6243), (130, 6211), (129, 6179), (128, 6147), (127, 6115), (126, 6083), (125, 6051), (124, 6019), (123, 5987), (122, 5955), (121, 5923), (120, 5891), (119, 5859), (118, 5827), (117, 5795), (116, 5763), (115, 5731), (114, 5699), (113, 5667), (112, 5635), (111, 5603), (110, 5571), (109, 5539), (108, 5507), (107, 5475), (106, 5443), (105, 5411), (104, 5379), (103, 5347), (102, 5315), (101, 5283), (100, 5251), (99, 5219), (98, 5187), (97, 5155), (96, 5123), (95, 5091), (94, 5059), (93, 5027), (92, 4995), (91, 4963), (90, 4931), (89, 4899), (88, 4867), (87, 4835), (86, 4803), (85, 4771), (84, 4739), (83, 4707), (82, 4675), (81, 4643), (80, 4611), (79, 4579), (78, 4547), (77, 4515), (76, 4483), (75, 4451), (74, 4419), (73, 4387), (72, 4355), (71, 4323), (70, 4291), (69, 4259), (68, 4227), (67, 4195), (66, 4163), (65, 4131), (64, 4099), (63, 4067), (62, 4035), (61, 4003), (60, 3971), (59, 3939), (58, 3907), (57, 3875), (56, 3843), (55, 3811), (54, 3779), (53, 3747), (52, 3715), (51, 3683), (50, 3651), (49, 3619), (48, 3587), (47, 3555), (46, 3523), (45, 3491), (44, 3459), (43, 3427), (42, 3395), (41, 3363), (40, 3331), (39, 3299), (38, 3267), (37, 3235), (36, 3203), (35, 3171), (34, 3139), (33, 3107), (32, 3075), (31, 3043), (30, 3011), (29, 2979), (28, 2947), (27, 2915), (26, 2883), (25, 2851), (24, 2819), (23, 2787), (22, 2755), (21, 2723), (20, 2691), (19, 2659), (18, 2627), (17, 2595), (16, 2563), (15, 2531), (14, 2499), (13, 2467), (12, 2435), (11, 2403), (10, 2371), (9, 2339), (8, 2307), (7, 2275), (6, 2243), (5, 2211), (4, 2179), (3, 2147), (2, 2115), (1, 2083), (0, 2051)]), (1, 200, [0], []), (1, 200, [0], []), (1, 200, [0], []), (1, 40, [0], []), (3, 40, [0], [])]
def zx_h0_8 : List zxCE := [(20, 0, [0, 0, 1, 0, 0, 0, 0, 0, 2059, 2067, 2075, 0, 0], []), (1, 2, [0], []), (1, 2, [0], []), (1, 32, [34359738360], []), (20, 0, [0, 0, 1, 0, 0, 0, 0, 0, 2091, 2099, 2107, 0, 0], []), (1, 2, [0], []), (1, 2, [0], []), (1, 32, [34359738360], []), (20, 0, [0, 0, 1, 0, 0, 0, 0, 0, 2123, 2131, 2139, 0, 0], []), (1, 2, [0], []), (1, 2, [0], []), (1, 32, [34359738360], []), (20, 0, [0, 0, 1, 0, 0, 0, 0, 0, 2155, 2163, 2171, 0, 0], []), (1, 2, [0], []), (1, 2, [0], []), (1, 32, [34359738360], []), (20, 0, [0, 0, 1, 0, 0, 0, 0, 0, 2187, 2195, 2203, 0, 0], []), (1, 2, [0], []), (1, 2, [0], []), (1, 32, [34359738360], []), (20, 0, [0, 0, 1, 0, 0, 0, 0, 0, 2219, 2227, 2235, 0, 0], []), (1, 2, [0], []), (1, 2, [0], []), (1, 32, [34359738360], []), (20, 0, [0, 0, 1, 0, 0, 0, 0, 0, 2251, 2259, 2267, 0, 0], []), (1, 2, [0], []), (1, 2, [0], []), (1, 32, [34359738360], []), (20, 0, [0, 0, 1, 0, 0, 0, 0, 0, 2283, 2291, 2299, 0, 0], []), (1, 2, [0], []), (1, 2, [0], []), (1, 32, [34359738360], [])]
def zx_h0_9 : List zxCE := [(20, 0, [0, 0, 1, 0, 0, 0, 0, 0, 2315, 2323, 2331, 0, 0], []), (1, 2, [0], []), (1, 2, [0], []), (1, 32, [34359738360], []), (20, 0, [0, 0, 1, 0, 0, 0, 0, 0, 2347, 2355, 2363, 0, 0], []), (1, 2, [0], []), (1, 2, [0], []), (1, 32, [34359738360], []), (20, 0, [0, 0, 1, 0, 0, 0, 0, 0, 2379, 2387, 2395, 0, 0], []), (1, 2, [0], []), (1, 2, [0], []), (1, 32, [34359738360], []), (20, 0, [0, 0, 1, 0, 0, 0, 0, 0, 2411, 2419, 2427, 0, 0], []), (1, 2, [0], []), (1, 2, [0], []), (1, 32, [34359738360], []), (20, 0, [0, 0, 1, 0, 0, 0, 0, 0, 2443, 2451, 2459, 0, 0], []), (1, 2, [0], []), (1, 2, [0], []), (1, 32, [34359738360], []), (20, 0, [0, 0, 1, 0, 0, 0, 0, 0, 2475, 2483, 2491, 0, 0], []), (1, 2, [0], []), (1, 2, [0], []), (1, 32, [34359738360], []), (20, 0, [0, 0, 1, 0, 0, 0, 0, 0, 2507, 2515, 2523, 0, 0], []), (1, 2, [0], []), (1, 2, [0], []), (1, 32, [34359738360], []), (20, 0, [0, 0, 1, 0, 0, 0, 0, 0, 2539, 2547, 2555, 0, 0], []), (1, 2, [0], []), (1, 2, [0], []), (1, 32, [34359738360], [])]
def zx_h0_10 : List zxCE := [(20, 0, [0, 0, 1, 0, 0, 0, 0, 0, 2571, 2579, 2587, 0, 0], []), (1, 2, [0], []), (1, 2, [0], []), (1, 32, [34359738360], []), (20, 0, [0, 0, 1, 0, 0, 0, 0, 0, 2603, 2611, 2619, 0, 0], []), (1, 2, [0], []), (1, 2, [0], []), (1, 32, [34359738360], []), (20, 0, [0, 0, 1, 0, 0, 0, 0, 0, 2635, 2643, 2651, 0, 0], []), (1, 2, [0], []), (1, 2, [0], []), (1, 32, [34359738360], []), (20, 0, [0, 0, 1, 0, 0, 0, 0, 0, 2667, 2675, 2683, 0, 0], []), (1, 2, [0], []), (1, 2, [0], []), (1, 32, [34359738360], []), (20, 0, [0, 0, 1, 0, 0, 0, 0, 0, 2699, 2707, 2715, 0, 0], []), (1, 2, [0], []), (1, 2, [0], []), (1, 32, [34359738360], []), (20, 0, [0, 0, 1, 0, 0, 0, 0, 0, 2731, 2739, 2747, 0, 0], []), (1, 2, [0], []), (1, 2, [0], []), (1, 32, [34359738360], []), (20, 0, [0, 0, 1, 0, 0, 0, 0, 0, 2763, 2771, 2779, 0, 0], []), (1, 2, [0], []), (1, 2, [0], []), (1, 32, [34359738360], []), (20, 0, [0, 0, 1, 0, 0, 0, 0, 0, 2795, 2803, 2811, 0, 0], []), (1, 2, [0], []), (1, 2, [0], []), (1, 32, [34359738360], [])]
def zx_h0_11 : List zxCE := [(20, 0, [0, 0, 1, 0, 0, 0, 0, 0, 2827, 2835, 2843, 0, 0], []), (1, 2, [0], []), (1, 2, [0], []), (1, 32, [34359738360], []), (20, 0, [0, 0, 1, 0, 0, 0, 0, 0, 2859, 2867, 2875, 0, 0], []), (1, 2, [0], []), (1, 2, [0], []), (1, 32, [34359738360], []), (20, 0, [0, 0, 1, 0, 0, 0, 0, 0, 2891, 2899, 2907, 0, 0], []), (1, 2, [0], []), (1, 2, [0], []), (1, 32, [34359738360], []), (20, 0, [0, 0, 1, 0, 0, 0, 0, 0, 2923, 2931, 2939, 0, 0], []), (1, 2, [0], []), (1, 2, [0], []), (1, 32, [34359738360], []), (20, 0, [0, 0, 1, 0, 0, 0, 0, 0, 2955, 2963, 2971, 0, 0], []), (1, 2, [0], []), (1, 2, [0], []), (1, 32, [34359738360], []), (20, 0, [0, 0, 1, 0, 0, 0, 0, 0, 2987, 2995, 3003, 0, 0], []), (1, 2, [0], []), (1, 2, [0], []), (1, 32, [34359738360], []), (20, 0, [0, 0, 1, 0, 0, 0, 0, 0, 3019, 3027, 3035, 0, 0], []), (1, 2, [0], []), (1, 2, [0], []), (1, 32, [34359738360], []), (20, 0, [0, 0, 1, 0, 0, 0, 0, 0, 3051, 3059, 3067, 0, 0], []), (1, 2, [0], []), (1, 2, [0], []), (1, 32, [34359738360], [])]
def zx_h0_12 : List zxCE := [(20, 0, [0, 0, 1, 0, 0, 0, 0, 0, 3083, 3091, 3099, 0, 0], []), (1, 2, [0], []), (1, 2, [0], []), (1, 32, [34359738360], []), (20, 0, [0, 0, 1, 0, 0, 0, 0, 0, 3115, 3123, 3131, 0, 0], []), (1, 2, [0], []), (1, 2, [0], []), (1, 32, [34359738360], []), (20, 0, [0, 0, 1, 0, 0, 0, 0, 0, 3147, 3155, 3163, 0, 0], []), (1, 2, [0], []), (1, 2, [0], []), (1, 32, [34359738360], []), (20, 0, [0, 0, 1, 0, 0, 0, 0, 0, 3179, 3187, 3195, 0, 0], []), (1, 2, [0], []), (1, 2, [0], []), (1, 32, [34359738360], []), (20, 0, [0, 0, 1, 0, 0, 0, 0, 0, 3211, 3219, 3227, 0, 0], []), (1, 2, [0], []), (1, 2, [0], []), (1, 32, [34359738360], []), (20, 0, [0, 0, 1, 0, 0, 0, 0, 0, 3243, 3251, 3259, 0, 0], []), (1, 2, [0], []), (1, 2, [0], []), (1, 32, [34359738360], []), (20, 0, [0, 0, 1, 0, 0, 0, 0, 0, 3275, 3283, 3291, 0, 0], []), (1, 2, [0], []), (1, 2, [0], []), (1, 32, [34359738360], []), (20, 0, [0, 0, 1, 0, 0, 0, 0, 0, 3307, 3315, 3323, 0, 0], []), (1, 2, [0], []), (1, 2, [0], []), (1, 32, [34359738360], [])]
def zx_h0_13 : List zxCE := [(20, 0, [0, 0, 1, 0, 0, 0, 0, 0, 3339, 3347, 3355, 0, 0], []), (1, 2, [0], []), (1, 2, [0], []), (1, 32, [34359738360], []), (20, 0, [0, 0, 1, 0, 0, 0, 0, 0, 3371, 3379, 3387, 0, 0], []), (1, 2, [0], []), (1, 2, [0], []), (1, 32, [34359738360], []), (20, 0, [0, 0, 1, 0, 0, 0, 0, 0, 3403, 3411, 3419, 0, 0], []), (1, 2, [0], []), (1, 2, [0], []), (1, 32, [34359738360], []), (20, 0, [0, 0, 1, 0, 0, 0, 0, 0, 3435, 3443, 3451, 0, 0], []), (1, 2, [0], []), (1, 2, [0], []), (1, 32, [34359738360], []), (20, 0, [0, 0, 1, 0, 0, 0, 0, 0, 3467, 3475, 3483, 0, 0], []), (1, 2, [0], []), (1, 2, [0], []), (1, 32, [34359738360], []), (20, 0, [0, 0, 1, 0, 0, 0, 0, 0, 3499, 3507, 3515, 0, 0], []), (1, 2, [0], []), (1, 2, [0], []), (1, 32, [34359738360], []), (20, 0, [0, 0, 1, 0, 0, 0, 0, 0, 3531, 3539, 3547, 0, 0], []), (1, 2, [0], []), (1, 2, [0], []), (1, 32, [34359738360], []), (20, 0, [0, 0, 1, 0, 0, 0, 0, 0, 3563, 3571, 3579, 0, 0], []), (1, 2, [0], []), (1, 2, [0], []), (1, 32, [34359738360], [])]
def zx_h0_14 : List zxCE := [(20, 0, [0, 0, 1, 0, 0, 0, 0, 0, 3595, 3603, 3611, 0, 0], []), (1, 2, [0], []), (1, 2, [0], []), (1, 32, [34359738360], []), (20, 0, [0, 0, 1, 0, 0, 0, 0, 0, 3627, 3635, 3643, 0, 0], []), (1, 2, [0], []), (1, 2, [0], []), (1, 32, [34359738360], []), (20, 0, [0, 0, 1, 0, 0, 0, 0, 0, 3659, 3667, 3675, 0, 0], []), (1, 2, [0], []), (1, 2, [0], []), (1, 32, [34359738360], []), (20, 0, [0, 0, 1, 0, 0, 0, 0, 0, 3691, 3699, 3707, 0, 0], []), (1, 2, [0], []), (1, 2, [0], []), (1, 32, [34359738360], []), (20, 0, [0, 0, 1, 0, 0, 0, 0, 0, 3723, 3731, 3739, 0, 0], []), (1, 2, [0], []), (1, 2, [0], []), (1, 32, [34359738360], []), (20, 0, [0, 0, 1, 0, 0, 0, 0, 0, 3755, 3763, 3771, 0, 0], []), (1, 2, [0], []), (1, 2, [0], []), (1, 32, [34359738360], []), (20, 0, [0, 0, 1, 0, 0, 0, 0, 0, 3787, 3795, 3803, 0, 0], []), (1, 2, [0], []), (1, 2, [0], []), (1, 32, [34359738360], []), (20, 0, [0, 0, 1, 0, 0, 0, 0, 0, 3819, 3827, 3835, 0, 0], []), (1, 2, [0], []), (1, 2, [0], []), (1, 32, [34359738360], [])]
def zx_h0_15 : List zxCE := [(20, 0, [0, 0, 1, 0, 0, 0, 0, 0, 3851, 3859, 3867, 0, 0], []), (1, 2, [0], []), (1, 2, [0], []), (1, 32, [34359738360], []), (20, 0, [0, 0, 1, 0, 0, 0, 0, 0, 3883, 3891, 3899, 0, 0], []), (1, 2, [0], []), (1, 2, [0], []), (1, 32, [34359738360], []), (20, 0, [0, 0, 1, 0, 0, 0, 0, 0, 3915, 3923, 3931, 0, 0], []), (1, 2, [0], []), (1, 2, [0], []), (1, 32, [34359738360], []), (20, 0, [0, 0, 1, 0, 0, 0, 0, 0, 3947, 3955, 3963, 0, 0], []), (1, 2, [0], []), (1, 2, [0], []), (1, 32, [34359738360], []), (20, 0, [0, 0, 1, 0, 0, 0, 0, 0, 3979, 3987, 3995, 0, 0], []), (1, 2, [0], []), (1, 2, [0], []), (1, 32, [34359738360], []), (20, 0, [0, 0, 1, 0, 0, 0, 0, 0, 4011, 4019, 4027, 0, 0], []), (1, 2, [0], []), (1, 2, [0], []), (1, 32, [34359738360], []), (20, 0, [0, 0, 1, 0, 0, 0, 0, 0, 4043, 4051, 4059, 0, 0], []), (1, 2, [0], []), (1, 2, [0], []), (1, 32, [34359738360], []), (20, 0, [0, 0, 1, 0, 0, 0, 0, 0, 4075, 4083, 4091, 0, 0], []), (1, 2, [0], []), (1, 2, [0], []), (1, 32, [34359738360], [])]
def zx_h0_16 : List zxCE := [(20, 0, [0, 0, 1, 0, 0, 0, 0, 0, 4107, 4115, 4123, 0, 0], []), (1, 2, [0], []), (1, 2, [0], []), (1, 32, [34359738360], []), (20, 0, [0, 0, 1, 0, 0, 0, 0, 0, 4139, 4147, 4155, 0, 0], []), (1, 2, [0], []), (1, 2, [0], []), (1, 32, [34359738360], []), (20, 0, [0, 0, 1, 0, 0, 0, 0, 0, 4171, 4179, 4187, 0, 0], []), (1, 2, [0], []), (1, 2, [0], []), (1, 32, [34359738360], []), (20, 0, [0, 0, 1, 0, 0, 0, 0, 0, 4203, 4211, 4219, 0, 0], []), (1, 2, [0], []), (1, 2, [0], []), (1, 32, [34359738360], []), (20, 0, [0, 0, 1, 0, 0, 0, 0, 0, 4235, 4243, 4251, 0, 0], []), (1, 2, [0], []), (1, 2, [0], []), (1, 32, [34359738360], []), (20, 0, [0, 0, 1, 0, 0, 0, 0, 0, 4267, 4275, 4283, 0, 0], []), (1, 2, [0], []), (1, 2, [0], []), (1, 32, [34359738360], []), (20, 0, [0, 0, 1, 0, 0, 0, 0, 0, 4299, 4307, 4315, 0, 0], []), (1, 2, [0], []), (1, 2, [0], []), (1, 32, [34359738360], []), (20, 0, [0, 0, 1, 0, 0, 0, 0, 0, 4331, 4339, 4347, 0, 0], []), (1, 2, [0], []), (1, 2, [0], []), (1, 32, [34359738360], [])]
def zx_h0_17 : List zxCE := [(20, 0, [0, 0, 1, 0, 0, 0, 0, 0, 4363, 4371, 4379, 0, 0], []), (1, 2, [0], []), (1, 2, [0], []), (1, 32, [34359738360], []), (20, 0, [0, 0, 1, 0, 0, 0, 0, 0, 4395, 4403, 4411, 0, 0], []), (1, 2, [0], []), (1, 2, [0], []), (1, 32, [34359738360], []), (20, 0, [0, 0, 1, 0, 0, 0, 0, 0, 4427, 4435, 4443, 0, 0], []), (1, 2, [0], []), (1, 2, [0], []), (1, 32, [34359738360], []), (20, 0, [0, 0, 1, 0, 0, 0, 0, 0, 4459, 4467, 4475, 0, 0], []), (1, 2, [0], []), (1, 2, [0], []), (1, 32, [34359738360], []), (20, 0, [0, 0, 1, 0, 0, 0, 0, 0, 4491, 4499, 4507, 0, 0], []), (1, 2, [0], []), (1, 2, [0], []), (1, 32, [34359738360], []), (20, 0, [0, 0, 1, 0, 0, 0, 0, 0, 4523, 4531, 4539, 0, 0], []), (1, 2, [0], []), (1, 2, [0], []), (1, 32, [34359738360], []), (20, 0, [0, 0, 1, 0, 0, 0, 0, 0, 4555, 4563, 4571, 0, 0], []), (1, 2, [0], []), (1, 2, [0], []), (1, 32, [34359738360], []), (20, 0, [0, 0, 1, 0, 0, 0, 0, 0, 4587, 4595, 4603, 0, 0], []), (1, 2, [0], []), (1, 2, [0], []), (1, 32, [34359738360], [])]
def zx_h0_18 : List zxCE := [(20, 0, [0, 0, 1, 0, 0, 0, 0, 0, 4619, 4627, 4635, 0, 0], []), (1, 2, [0], []), (1, 2, [0], []), (1, 32, [34359738360], []), (20, 0, [0, 0, 1, 0, 0, 0, 0, 0, 4651, 4659, 4667, 0, 0], []), (1, 2, [0], []), (1, 2, [0], []), (1, 32, [34359738360], []), (20, 0, [0, 0, 1, 0, 0, 0, 0, 0, 4683, 4691, 4699, 0, 0], []), (1, 2, [0], []), (1, 2, [0], []), (1, 32, [34359738360], []), (20, 0, [0, 0, 1, 0, 0, 0, 0, 0, 4715, 4723, 4731, 0, 0], []), (1, 2, [0], []), (1, 2, [0], []), (1, 32, [34359738360], []), (20, 0, [0, 0, 1, 0, 0, 0, 0, 0, 4747, 4755, 4763, 0, 0], []), (1, 2, [0], []), (1, 2, [0], []), (1, 32, [34359738360], []), (20, 0, [0, 0, 1, 0, 0, 0, 0, 0, 4779, 4787, 4795, 0, 0], []), (1, 2, [0], []), (1, 2, [0], []), (1, 32, [34359738360], []), (20, 0, [0, 0, 1, 0, 0, 0, 0, 0, 4811, 4819, 4827, 0, 0], []), (1, 2, [0], []), (1, 2, [0], []), (1, 32, [34359738360], []), (20, 0, [0, 0, 1, 0, 0, 0, 0, 0, 4843, 4851, 4859, 0, 0], []), (1, 2, [0], []), (1, 2, [0], []), (1, 32, [34359738360], [])]
def zx_h0_19 : List zxCE := [(20, 0, [0, 0, 1, 0, 0, 0, 0, 0, 4875, 4883, 4891, 0, 0], []), (1, 2, [0], []), (1, 2, [0], []), (1, 32, [34359738360], []), (20, 0, [0, 0, 1, 0, 0, 0, 0, 0, 4907, 4915, 4923, 0, 0], []), (1, 2, [0], []), (1, 2, [0], []), (1, 32, [34359738360], []), (20, 0, [0, 0, 1, 0, 0, 0, 0, 0, 4939, 4947, 4955, 0, 0], []), (1, 2, [0], []), (1, 2, [0], []), (1, 32, [34359738360], []), (20, 0, [0, 0, 1, 0, 0, 0, 0, 0, 4971, 4979, 4987, 0, 0], []), (1, 2, [0], []), (1, 2, [0], []), (1, 32, [34359738360], []), (20, 0, [0, 0, 1, 0, 0, 0, 0, 0, 5003, 5011, 5019, 0, 0], []), (1, 2, [0], []), (1, 2, [0], []), (1, 32, [34359738360], []), (20, 0, [0, 0, 1, 0, 0, 0, 0, 0, 5035, 5043, 5051, 0, 0], []), (1, 2, [0], []), (1, 2, [0], []), (1, 32, [34359738360], []), (20, 0, [0, 0, 1, 0, 0, 0, 0, 0, 5067, 5075, 5083, 0, 0], []), (1, 2, [0], []), (1, 2, [0], []), (1, 32, [34359738360], []), (20, 0, [0, 0, 1, 0, 0, 0, 0, 0, 5099, 5107, 5115, 0, 0], []), (1, 2, [0], []), (1, 2, [0], []), (1, 32, [34359738360], [])]
def zx_h0_20 : List zxCE := [(20, 0, [0, 0, 1, 0, 0, 0, 0, 0, 5131, 5139, 5147, 0, 0], []), (1, 2, [0], []), (1, 2, [0], []), (1, 32, [34359738360], []), (20, 0, [0, 0, 1, 0, 0, 0, 0, 0, 5163, 5171, 5179, 0, 0], []), (1, 2, [0], []), (1, 2, [0], []), (1, 32, [34359738360], []), (20, 0, [0, 0, 1, 0, 0, 0, 0, 0, 5195, 5203, 5211, 0, 0], []), (1, 2, [0], []), (1, 2, [0], []), (1, 32, [34359738360], []), (20, 0, [0, 0, 1, 0, 0, 0, 0, 0, 5227, 5235, 5243, 0, 0], []), (1, 2, [0], []), (1, 2, [0], []), (1, 32, [34359738360], []), (20, 0, [0, 0, 1, 0, 0, 0, 0, 0, 5259, 5267, 5275, 0, 0], []), (1, 2, [0], []), (1, 2, [0], []), (1, 32, [34359738360], []), (20, 0, [0, 0, 1, 0, 0, 0, 0, 0, 5291, 5299, 5307, 0, 0], []), (1, 2, [0], []), (1, 2, [0], []), (1, 32, [34359738360], []), (20, 0, [0, 0, 1, 0, 0, 0, 0, 0, 5323, 5331, 5339, 0, 0], []), (1, 2, [0], []), (1, 2, [0], []), (1, 32, [34359738360], []), (20, 0, [0, 0, 1, 0, 0, 0, 0, 0, 5355, 5363, 5371, 0, 0], []), (1, 2, [0], []), (1, 2, [0], []), (1, 32, [34359738360], [])]
def zx_h0_21 : List zxCE := [(20, 0, [0, 0, 1, 0, 0, 0, 0, 0, 5387, 5395, 5403, 0, 0], []), (1, 2, [0], []), (1, 2, [0], []), (1, 32, [34359738360], []), (20, 0, [0, 0, 1, 0, 0, 0, 0, 0, 5419, 5427, 5435, 0, 0], []), (1, 2, [0], []), (1, 2, [0], []), (1, 32, [34359738360], []), (20, 0, [0, 0, 1, 0, 0, 0, 0, 0, 5451, 5459, 5467, 0, 0], []), (1, 2, [0], []), (1, 2, [0], []), (1, 32, [34359738360], []), (20, 0, [0, 0, 1, 0, 0, 0, 0, 0, 5483, 5491, 5499, 0, 0], []), (1, 2, [0], []), (1, 2, [0], []), (1, 32, [34359738360], []), (20, 0, [0, 0, 1, 0, 0, 0, 0, 0, 5515, 5523, 5531, 0, 0], []), (1, 2, [0], []), (1, 2, [0], []), (1, 32, [34359738360], []), (20, 0, [0, 0, 1, 0, 0, 0, 0, 0, 5547, 5555, 5563, 0, 0], []), (1, 2, [0], []), (1, 2, [0], []), (1, 32, [34359738360], []), (20, 0, [0, 0, 1, 0, 0, 0, 0, 0, 5579, 5587, 5595, 0, 0], []), (1, 2, [0], []), (1, 2, [0], []), (1, 32, [34359738360], []), (20, 0, [0, 0, 1, 0, 0, 0, 0, 0, 5611, 5619, 5627, 0, 0], []), (1, 2, [0], []), (1, 2, [0], []), (1, 32, [34359738360], [])]
def zx_h0_22 : List zxCE := [(20, 0, [0, 0, 1, 0, 0, 0, 0, 0, 5643, 5651, 5659, 0, 0], []), (1, 2, [0], []), (1, 2, [0], []), (1, 32, [34359738360], []), (20, 0, [0, 0, 1, 0, 0, 0, 0, 0, 5675, 5683, 5691, 0, 0], []), (1, 2, [0], []), (1, 2, [0], []), (1, 32, [34359738360], []), (20, 0, [0, 0, 1, 0, 0, 0, 0, 0, 5707, 5715, 5723, 0, 0], []), (1, 2, [0], []), (1, 2, [0], []), (1, 32, [34359738360], []), (20, 0, [0, 0, 1, 0, 0, 0, 0, 0, 5739, 5747, 5755, 0, 0], []), (1, 2, [0], []), (1, 2, [0], []), (1, 32, [34359738360], []), (20, 0, [0, 0, 1, 0, 0, 0, 0, 0, 5771, 5779, 5787, 0, 0], []), (1, 2, [0], []), (1, 2, [0], []), (1, 32, [34359738360], []), (20, 0, [0, 0, 1, 0, 0, 0, 0, 0, 5803, 5811, 5819, 0, 0], []), (1, 2, [0], []), (1, 2, [0], []), (1, 32, [34359738360], []), (20, 0, [0, 0, 1, 0, 0, 0, 0, 0, 5835, 5843, 5851, 0, 0], []), (1, 2, [0], []), (1, 2, [0], []), (1, 32, [34359738360], []), (20, 0, [0, 0, 1, 0, 0, 0, 0, 0, 5867, 5875, 5883, 0, 0], []), (1, 2, [0], []), (1, 2, [0], []), (1, 32, [34359738360], [])]
def zx_h0_23 : List zxCE := [(20, 0, [0, 0, 1, 0, 0, 0, 0, 0, 5899, 5907, 5915, 0, 0], []), (1, 2, [0], []), (1, 2, [0], []), (1, 32, [34359738360], []), (20, 0, [0, 0, 1, 0, 0, 0, 0, 0, 5931, 5939, 5947, 0, 0], []), (1, 2, [0], []), (1, 2, [0], []), (1, 32, [34359738360], []), (20, 0, [0, 0, 1, 0, 0, 0, 0, 0, 5963, 5971, 5979, 0, 0], []), (1, 2, [0], []), (1, 2, [0], []), (1, 32, [34359738360], []), (20, 0, [0, 0, 1, 0, 0, 0, 0, 0, 5995, 6003, 6011, 0, 0], []), (1, 2, [0], []), (1, 2, [0], []), (1, 32, [34359738360], []), (20, 0, [0, 0, 1, 0, 0, 0, 0, 0, 6027, 6035, 6043, 0, 0], []), (1, 2, [0], []), (1, 2, [0], []), (1, 32, [34359738360], []), (20, 0, [0, 0, 1, 0, 0, 0, 0, 0, 6059, 6067, 6075, 0, 0], []), (1, 2, [0], []), (1, 2, [0], []), (1, 32, [34359738360], []), (20, 0, [0, 0, 1, 0, 0, 0, 0, 0, 6091, 6099, 6107, 0, 0], []), (1, 2, [0], []), (1, 2, [0], []), (1, 32, [34359738360], []), (20, 0, [0, 0, 1, 0, 0, 0, 0, 0, 6123, 6131, 6139, 0, 0], []), (1, 2, [0], []), (1, 2, [0], []), (1, 32, [34359738360], [])]
def zx_h0_24 : List zxCE := [(20, 0, [0, 0, 1, 0, 0, 0, 0, 0, 6155, 6163, 6171, 0, 0], []), (1, 2, [0], []), (1, 2, [0], []), (1, 32, [34359738360], []), (20, 0, [0, 0, 1, 0, 0, 0, 0, 0, 6187, 6195, 6203, 0, 0], []), (1, 2, [0], []), (1, 2, [0], []), (1, 32, [34359738360], []), (20, 0, [0, 0, 1, 0, 0, 0, 0, 0, 6219, 6227, 6235, 0, 0], []), (1, 2, [0], []), (1, 2, [0], []), (1, 32, [34359738360], []), (20, 0, [0, 0, 1, 0, 0, 0, 0, 0, 6251, 6259, 6267, 0, 0], []), (1, 2, [0], []), (1, 2, [0], []), (1, 32, [34359738360], []), (20, 0, [0, 0, 1, 0, 0, 0, 0, 0, 6283, 6291, 6299, 0, 0], []), (1, 2, [0], []), (1, 2, [0], []), (1, 32, [34359738360], []), (20, 0, [0, 0, 1, 0, 0, 0, 0, 0, 6315, 6323, 6331, 0, 0], []), (1, 2, [0], []), (1, 2, [0], []), (1, 32, [34359738360], []), (20, 0, [0, 0, 1, 0, 0, 0, 0, 0, 6347, 6355, 6363, 0, 0], []), (1, 2, [0], []), (1, 2, [0], []), (1, 32, [34359738360], []), (20, 0, [0, 0, 1, 0, 0, 0, 0, 0, 6379, 6387, 6395, 0, 0], []), (1, 2, [0], []), (1, 2, [0], []), (1, 32, [34359738360], [])]
def zx_h0_25 : List zxCE := [(20, 0, [0, 0, 1, 0, 0, 0, 0, 0, 6411, 6419, 6427, 0, 0], []), (1, 2, [0], []), (1, 2, [0], []), (1, 32, [34359738360], []), (20, 0, [0, 0, 1, 0, 0, 0, 0, 0, 6443, 6451, 6459, 0, 0], []), (1, 2, [0], []), (1, 2, [0], []), (1, 32, [34359738360], []), (20, 0, [0, 0, 1, 0, 0, 0, 0, 0, 6475, 6483, 6491, 0, 0], []), (1, 2, [0], []), (1, 2, [0], []), (1, 32, [34359738360], []), (20, 0, [0, 0, 1, 0, 0, 0, 0, 0, 6507, 6515, 6523, 0, 0], []), (1, 2, [0], []), (1, 2, [0], []), (1, 32, [34359738360], []), (20, 0, [0, 0, 1, 0, 0, 0, 0, 0, 6539, 6547, 6555, 0, 0], []), (1, 2, [0], []), (1, 2, [0], []), (1, 32, [34359738360], []), (20, 0, [0, 0, 1, 0, 0, 0, 0, 0, 6571, 6579, 6587, 0, 0], []), (1, 2, [0], []), (1, 2, [0], []), (1, 32, [34359738360], []), (20, 0, [0, 0, 1, 0, 0, 0, 0, 0, 6603, 6611, 6619, 0, 0], []), (1, 2, [0], []), (1, 2, [0], []), (1, 32, [34359738360], []), (20, 0, [0, 0, 1, 0, 0, 0, 0, 0, 6635, 6643, 6651, 0, 0], []), (1, 2, [0], []), (1, 2, [0], []), (1, 32, [34359738360], [])]
def zx_h0_26 : List zxCE := [(20, 0, [0, 0, 1, 0, 0, 0, 0, 0, 6667, 6675, 6683, 0, 0], []), (1, 2, [0], []), (1, 2, [0], []), (1, 32, [34359738360], []), (20, 0, [0, 0, 1, 0, 0, 0, 0, 0, 6699, 6707, 6715, 0, 0], []), (1, 2, [0], []), (1, 2, [0], []), (1, 32, [34359738360], []), (20, 0, [0, 0, 1, 0, 0, 0, 0, 0, 6731, 6739, 6747, 0, 0], []), (1, 2, [0], []), (1, 2, [0], []), (1, 32, [34359738360], []), (20, 0, [0, 0, 1, 0, 0, 0, 0, 0, 6763, 6771, 6779, 0, 0], []), (1, 2, [0], []), (1, 2, [0], []), (1, 32, [34359738360], []), (20, 0, [0, 0, 1, 0, 0, 0, 0, 0, 6795, 6803, 6811, 0, 0], []), (1, 2, [0], []), (1, 2, [0], []), (1, 32, [34359738360], []), (20, 0, [0, 0, 1, 0, 0, 0, 0, 0, 6827, 6835, 6843, 0, 0], []), (1, 2, [0], []), (1, 2, [0], []), (1, 32, [34359738360], []), (20, 0, [0, 0, 1, 0, 0, 0, 0, 0, 6859, 6867, 6875, 0, 0], []), (1, 2, [0], []), (1, 2, [0], []), (1, 32, [34359738360], []), (20, 0, [0, 0, 1, 0, 0, 0, 0, 0, 6891, 6899, 6907, 0, 0], []), (1, 2, [0], []), (1, 2, [0], []), (1, 32, [34359738360], [])]
def zx_h0_27 : List zxCE := [(20, 0, [0, 0, 1, 0, 0, 0, 0, 0, 6923, 6931, 6939, 0, 0], []), (1, 2, [0], []), (1, 2, [0], []), (1, 32, [34359738360], []), (20, 0, [0, 0, 1, 0, 0, 0, 0, 0, 6955, 6963, 6971, 0, 0], []), (1, 2, [0], []), (1, 2, [0], []), (1, 32, [34359738360], []), (20, 0, [0, 0, 1, 0, 0, 0, 0, 0, 6987, 6995, 7003, 0, 0], []), (1, 2, [0], []), (1, 2, [0], []), (1, 32, [34359738360], []), (20, 0, [0, 0, 1, 0, 0, 0, 0, 0, 7019, 7027, 7035, 0, 0], []), (1, 2, [0], []), (1, 2, [0], []), (1, 32, [34359738360], []), (20, 0, [0, 0, 1, 0, 0, 0, 0, 0, 7051, 7059, 7067, 0, 0], []), (1, 2, [0], []), (1, 2, [0], []), (1, 32, [34359738360], []), (20, 0, [0, 0, 1, 0, 0, 0, 0, 0, 7083, 7091, 7099, 0, 0], []), (1, 2, [0], []), (1, 2, [0], []), (1, 32, [34359738360], []), (20, 0, [0, 0, 1, 0, 0, 0, 0, 0, 7115, 7123, 7131, 0, 0], []), (1, 2, [0], []), (1, 2, [0], []), (1, 32, [34359738360], []), (20, 0, [0, 0, 1, 0, 0, 0, 0, 0, 7147, 7155, 7163, 0, 0], []), (1, 2, [0], []), (1, 2, [0], []), (1, 32, [34359738360], [])]
def zx_h0_28 : List zxCE := [(20, 0, [0, 0, 1, 0, 0, 0, 0, 0, 7179, 7187, 7195, 0, 0], []), (1, 2, [0], []), (1, 2, [0], []), (1, 32, [34359738360], []), (20, 0, [0, 0, 1, 0, 0, 0, 0, 0, 7211, 7219, 7227, 0, 0], []), (1, 2, [0], []), (1, 2, [0], []), (1, 32, [34359738360], []), (20, 0, [0, 0, 1, 0, 0, 0, 0, 0, 7243, 7251, 7259, 0, 0], []), (1, 2, [0], []), (1, 2, [0], []), (1, 32, [34359738360], []), (20, 0, [0, 0, 1, 0, 0, 0, 0, 0, 7275, 7283, 7291, 0, 0], []), (1, 2, [0], []), (1, 2, [0], []), (1, 32, [34359738360], []), (20, 0, [0, 0, 1, 0, 0, 0, 0, 0, 7307, 7315, 7323, 0, 0], []), (1, 2, [0], []), (1, 2, [0], []), (1, 32, [34359738360], []), (20, 0, [0, 0, 1, 0, 0, 0, 0, 0, 7339, 7347, 7355, 0, 0], []), (1, 2, [0], []), (1, 2, [0], []), (1, 32, [34359738360], []), (20, 0, [0, 0, 1, 0, 0, 0, 0, 0, 7371, 7379, 7387, 0, 0], []), (1, 2, [0], []), (1, 2, [0], []), (1, 32, [34359738360], []), (20, 0, [0, 0, 1, 0, 0, 0, 0, 0, 7403, 7411, 7419, 0, 0], []), (1, 2, [0], []), (1, 2, [0], []), (1, 32, [34359738360], [])]
def zx_h0_29 : List zxCE := [(20, 0, [0, 0, 1, 0, 0, 0, 0, 0, 7435, 7443, 7451, 0, 0], []), (1, 2, [0], []), (1, 2, [0], []), (1, 32, [34359738360], []), (20, 0, [0, 0, 1, 0, 0, 0, 0, 0, 7467, 7475, 7483, 0, 0], []), (1, 2, [0], []), (1, 2, [0], []), (1, 32, [34359738360], []), (20, 0, [0, 0, 1, 0, 0, 0, 0, 0, 7499, 7507, 7515, 0, 0], []), (1, 2, [0], []), (1, 2, [0], []), (1, 32, [34359738360], []), (20, 0, [0, 0, 1, 0, 0, 0, 0, 0, 7531, 7539, 7547, 0, 0], []), (1, 2, [0], []), (1, 2, [0], []), (1, 32, [34359738360], []), (20, 0, [0, 0, 1, 0, 0, 0, 0, 0, 7563, 7571, 7579, 0, 0], []), (1, 2, [0], []), (1, 2, [0], []), (1, 32, [34359738360], []), (20, 0, [0, 0, 1, 0, 0, 0, 0, 0, 7595, 7603, 7611, 0, 0], []), (1, 2, [0], []), (1, 2, [0], []), (1, 32, [34359738360], []), (20, 0, [0, 0, 1, 0, 0, 0, 0, 0, 7627, 7635, 7643, 0, 0], []), (1, 2, [0], []), (1, 2, [0], []), (1, 32, [34359738360], []), (20, 0, [0, 0, 1, 0, 0, 0, 0, 0, 7659, 7667, 7675, 0, 0], []), (1, 2, [0], []), (1, 2, [0], []), (1, 32, [34359738360], [])]
def zx_h0_30 : List zxCE := [(20, 0, [0, 0, 1, 0, 0, 0, 0, 0, 7691, 7699, 7707, 0, 0], []), (1, 2, [0], []), (1, 2, [0], []), (1, 32, [34359738360], []), (20, 0, [0, 0, 1, 0, 0, 0, 0, 0, 7723, 7731, 7739, 0, 0], []), (1, 2, [0], []), (1, 2, [0], []), (1, 32, [34359738360], []), (20, 0, [0, 0, 1, 0, 0, 0, 0, 0, 7755, 7763, 7771, 0, 0], []), (1, 2, [0], []), (1, 2, [0], []), (1, 32, [34359738360], []), (20, 0, [0, 0, 1, 0, 0, 0, 0, 0, 7787, 7795, 7803, 0, 0], []), (1, 2, [0], []), (1, 2, [0], []), (1, 32, [34359738360], []), (20, 0, [0, 0, 1, 0, 0, 0, 0, 0, 7819, 7827, 7835, 0, 0], []), (1, 2, [0], []), (1, 2, [0], []), (1, 32, [34359738360], []), (20, 0, [0, 0, 1, 0, 0, 0, 0, 0, 7851, 7859, 7867, 0, 0], []), (1, 2, [0], []), (1, 2, [0], []), (1, 32, [34359738360], []), (20, 0, [0, 0, 1, 0, 0, 0, 0, 0, 7883, 7891, 7899, 0, 0], []), (1, 2, [0], []), (1, 2, [0], []), (1, 32, [34359738360], []), (20, 0, [0, 0, 1, 0, 0, 0, 0, 0, 7915, 7923, 7931, 0, 0], []), (1, 2, [0], []), (1, 2, [0], []), (1, 32, [34359738360], [])]
def zx_h0_31 : List zxCE := [(20, 0, [0, 0, 1, 0, 0, 0, 0, 0, 7947, 7955, 7963, 0, 0], []), (1, 2, [0], []), (1, 2, [0], []), (1, 32, [34359738360], []), (20, 0, [0, 0, 1, 0, 0, 0, 0, 0, 7979, 7987, 7995, 0, 0], []), (1, 2, [0], []), (1, 2, [0], []), (1, 32, [34359738360], []), (20, 0, [0, 0, 1, 0, 0, 0, 0, 0, 8011, 8019, 8027, 0, 0], []), (1, 2, [0], []), (1, 2, [0], []), (1, 32, [34359738360], []), (20, 0, [0, 0, 1, 0, 0, 0, 0, 0, 8043, 8051, 8059, 0, 0], []), (1, 2, [0], []), (1, 2, [0], []), (1, 32, [34359738360], []), (20, 0, [0, 0, 1, 0, 0, 0, 0, 0, 8075, 8083, 8091, 0, 0], []), (1, 2, [0], []), (1, 2, [0], []), (1, 32, [34359738360], []), (20, 0, [0, 0, 1, 0, 0, 0, 0, 0, 8107, 8115, 8123, 0, 0], []), (1, 2, [0], []), (1, 2, [0], []), (1, 32, [34359738360], []), (20, 0, [0, 0, 1, 0, 0, 0, 0, 0, 8139, 8147, 8155, 0, 0], []), (1, 2, [0], []), (1, 2, [0], []), (1, 32, [34359738360], []), (20, 0, [0, 0, 1, 0, 0, 0, 0, 0, 8171, 8179, 8187, 0, 0], []), (1, 2, [0], []), (1, 2, [0], []), (1, 32, [34359738360], [])]
def zx_h0_32 : List zxCE := [(20, 0, [0, 0, 1, 0, 0, 0, 0, 0, 8203, 8211, 8219, 0, 0], []), (1, 2, [0], []), (1, 2, [0], []), (1, 32, [34359738360], []), (20, 0, [0, 0, 1, 0, 0, 0, 0, 0, 8235, 8243, 8251, 0, 0], []), (1, 2, [0], []), (1, 2, [0], []), (1, 32, [34359738360], []), (20, 0, [0, 0, 1, 0, 0, 0, 0, 0, 8267, 8275, 8283, 0, 0], []), (1, 2, [0], []), (1, 2, [0], []), (1, 32, [34359738360], []), (20, 0, [0, 0, 1, 0, 0, 0, 0, 0, 8299, 8307, 8315, 0, 0], []), (1, 2, [0], []), (1, 2, [0], []), (1, 32, [34359738360], []), (20, 0, [0, 0, 1, 0, 0, 0, 0, 0, 8331, 8339, 8347, 0, 0], []), (1, 2, [0], []), (1, 2, [0], []), (1, 32, [34359738360], []), (20, 0, [0, 0, 1, 0, 0, 0, 0, 0, 8363, 8371, 8379, 0, 0], []), (1, 2, [0], []), (1, 2, [0], []), (1, 32, [34359738360], []), (20, 0, [0, 0, 1, 0, 0, 0, 0, 0, 8395, 8403, 8411, 0, 0], []), (1, 2, [0], []), (1, 2, [0], []), (1, 32, [34359738360], []), (20, 0, [0, 0, 1, 0, 0, 0, 0, 0, 8427, 8435, 8443, 0, 0], []), (1, 2, [0], []), (1, 2, [0], []), (1, 32, [34359738360], [])]
def zx_h0_33 : List zxCE := [(16, 0, [19, 1955, 1995, 8459, 0], []), (1, 60, [0], []), (17, 0, [19, 8475, 8, 0, 0, 8483, 8491, 8499, 8507], []), (6, 6, [2], [(5, 8755), (4, 8707), (3, 8659), (2, 8611), (1, 8563), (0, 8515)]), (1, 1710, [0], []), (1, 1710, [0], []), (1, 1710, [0], []), (1, 1710, [0], []), (23, 0, [8523, 0, 0, 64, 0, 0, 8531, 8539, 8547, 8555], []), (2, 6000, [0], []), (1, 285, [0], []), (1, 285, [0], []), (1, 285, [0], []), (3, 285, [0], []), (23, 0, [8571, 0, 0, 64, 0, 0, 8579, 8587, 8595, 8603], []), (2, 6000, [0], []), (1, 285, [0], []), (1, 285, [0], []), (1, 285, [0], []), (3, 285, [0], []), (23, 0, [8619, 0, 0, 64, 0, 0, 8627, 8635, 8643, 8651], []), (2, 6000, [0], []), (1, 285, [0], []), (1, 285, [0], []), (1, 285, [0], []), (3, 285, [0], []), (23, 0, [8667, 0, 0, 64, 0, 0, 8675, 8683, 8691, 8699], []), (2, 6000, [0], []), (1, 285, [0], []), (1, 285, [0], []), (1, 285, [0], []), (3, 285, [0], [])]
def zx_h0_34 : List zxCE := [(23, 0, [8715, 0, 0, 64, 0, 0, 8723, 8731, 8739, 8747], []), (2, 6000, [0], []), (1, 285, [0], []), (1, 285, [0], []), (1, 285, [0], []), (3, 285, [0], []), (23, 0, [8763, 0, 0, 64, 0, 0, 8771, 8779, 8787, 8795], []), (2, 6000, [0], []), (1, 285, [0], []), (1, 285, [0], []), (1, 285, [0], []), (3, 285, [0], []), (21, 0, [34359738360, 0, 0, 0, 0, 8467, 8451, 34359738360, 34359738360, 0, 0, 0, 34359738360, 0, 8811, 0, 0], []), (2, 1089, [0], []), (25, 0, [34359738360, 0, 0, 0, 0, 8467, 8451, 8803, 8827, 8835, 0, 8843, 0, 0, 0, 0, 0], []), (1, 20, [0], []), (1, 20, [0], []), (2, 1089, [0], []), (19, 0, [8451, 8819, 19, 1955, 8859, 8867, 0, 0, 8875, 8883, 0], []), (1, 2, [0], [(1, 1120), (0, 320)]), (1, 2, [0], [(1, 800), (0, 240)]), (1, 60, [0], []), (1, 60, [0], []), (27, 0, [0, 8899, 8907, 8915, 8923, 8931, 8939, 0, 8947, 8955, 8963, 0, 8, 8, 8, 0, 8971, 0, 8, 8979, 8987, 8995, 9003, 9011, 9019, 9027, 9035, 9043, 9051, 0, 9059, 9067, 9075, 9083, 9091, 9099, 0, 9107, 0, 34359738352, 0, 0, 0, 0, 9115, 0, 0, 0, 0, 0, 9123, 0, 0, 0, 0, 0, 9131], []), (1, 2561, [0], [(1, 34359738360), (0, 8)]), (4, 60, [1], []), (1, 60, [0], []), (1, 514761, [0], [(1, 34359738360), (0, 8)]), (4, 12060, [1], []), (1, 200, [0], []), (1, 208, [0], []), (2, 6656, [0], [])]
def zx_h0_35 : List zxCE := [(3, 40, [0], []), (2, 256, [0], []), (1, 2, [0], [(1, 1120), (0, 320)]), (1, 2, [0], [(1, 800), (0, 240)]), (2, 36000, [0], []), (1, 6, [0], []), (1, 6, [0], []), (1, 14400, [0], []), (1, 6, [0], []), (3, 6, [0], []), (1, 1800, [0], []), (1, 1800, [0], []), (1, 2, [0], [(1, 34359738352), (0, 34359738352)]), (1, 2, [0], []), (1, 2, [0], []), (1, 2, [0], []), (1, 2, [0], []), (1, 60, [0], []), (1, 20, [0], []), (2, 1200, [0], []), (2, 1200, [0], []), (3, 2, [0], [])]
def zx_h0 : zxHP := (1142, [zx_h0_0, zx_h0_1, zx_h0_2, zx_h0_3, zx_h0_4, zx_h0_5, zx_h0_6, zx_h0_7, zx_h0_8, zx_h0_9, zx_h0_10, zx_h0_11, zx_h0_12, zx_h0_13, zx_h0_14, zx_h0_15, zx_h0_16, zx_h0_17, zx_h0_18, zx_h0_19, zx_h0_20, zx_h0_21, zx_h0_22, zx_h0_23, zx_h0_24, zx_h0_25, zx_h0_26, zx_h0_27, zx_h0_28, zx_h0_29, zx_h0_30, zx_h0_31, zx_h0_32, zx_h0_33, zx_h0_34, zx_h0_35])
abbrev zx_lv0 : zxLV := [(3, 0), (2, 8891), (1, 3), (0, 10)]
def zx_kl : zxKL := fun c _ _ => Nat.beq c 8
def zx_nil {α : Type} (l : List α) : Bool := match l with | [] => true | _ :: _ => false
def zx_k18 : zxKT := fun pc lv stk hp st u w => and (Nat.beq pc 18) (and (decide (lv = zx_lv0)) (and (zx_nil stk) (and (@decide (hp = zx_h0) (zx_de5 hp zx_h0)) (and (zx_nil st) (and (Nat.ble u 1142) (Nat.ble w 666482))))))
def zx_k32 : zxKT := fun pc lv stk hp st u w => and (Nat.beq pc 32) (and (decide (lv = zx_lv0)) (and (match stk with | [c] => Nat.beq (c % 8) 0 && Nat.blt (c / 8) 32 | _ => false) (and (@decide (hp = zx_h0) (zx_de5 hp zx_h0)) (and (zx_nil st) (and (Nat.ble u 1142) (Nat.ble w 666482))))))
def zx_kn : zxKT := fun _ _ _ _ _ _ _ => false
end
section
/-! the runs -/
set_option maxRecDepth 20000 in
theorem zv_l0 : zx_run zx_ms zx_pr 200000 9999 ztb_law 13 554 600000 7302250 1 99999 zx_kl zx_kn 18 zx_lv0 [] zx_h0 [] 1142 666482 = true := by decide +kernel
set_option maxRecDepth 20000 in
theorem zv_l1 : zx_run zx_ms zx_pr 200000 9999 ztb_law 13 554 600000 7302250 2 99999 zx_kl zx_kn 18 zx_lv0 [] zx_h0 [] 1142 666482 = true := by decide +kernel
set_option maxRecDepth 20000 in
theorem zv_l2 : zx_run zx_ms zx_pr 200000 9999 ztb_law 13 554 600000 7302250 3 99999 zx_kl zx_kn 18 zx_lv0 [] zx_h0 [] 1142 666482 = true := by decide +kernel
set_option maxRecDepth 20000 in
theorem zv_l3 : zx_run zx_ms zx_pr 200000 9999 ztb_law 13 554 600000 7302250 4 99999 zx_kl zx_kn 18 zx_lv0 [] zx_h0 [] 1142 666482 = true := by decide +kernel
set_option maxRecDepth 20000 in
theorem zv_l4 : zx_run zx_ms zx_pr 200000 9999 ztb_law 13 554 600000 7302250 5 99999 zx_kl zx_kn 18 zx_lv0 [] zx_h0 [] 1142 666482 = true := by decide +kernel
set_option maxRecDepth 20000 in
theorem zv_18 : zx_run zx_ms zx_pr 200000 9999 ztb_law 13 554 600000 7302250 6 32 zx_kl zx_k32 18 zx_lv0 [] zx_h0 [] 1142 666482 = true := by decide +kernel
set_option maxRecDepth 20000 in
theorem zv_c14 : zx_run zx_ms zx_pr 200000 9999 ztb_law 13 554 600000 7302250 6 99999 zx_kl zx_kn 32 zx_lv0 [112] zx_h0 [] 1142 666482 = true := by decide +kernel
set_option maxRecDepth 20000 in
theorem zv_c18 : zx_run zx_ms zx_pr 200000 9999 ztb_law 13 554 600000 7302250 6 99999 zx_kl zx_kn 32 zx_lv0 [144] zx_h0 [] 1142 666482 = true := by decide +kernel
set_option maxRecDepth 20000 in
theorem zv_c20 : zx_run zx_ms zx_pr 200000 9999 ztb_law 13 554 600000 7302250 6 99999 zx_kl zx_kn 32 zx_lv0 [160] zx_h0 [] 1142 666482 = true := by decide +kernel
set_option maxRecDepth 20000 in
theorem zv_c21 : zx_run zx_ms zx_pr 200000 9999 ztb_law 13 554 600000 7302250 6 99999 zx_kl zx_kn 32 zx_lv0 [168] zx_h0 [] 1142 666482 = true := by decide +kernel
end
section
/-! the run from the entry -/
set_option maxRecDepth 20000 in
theorem zv_e : zx_run zx_ms zx_pr 200000 9999 ztb_law 13 554 600000 7302250 0 18 zx_kl zx_k18 0 [(0, 10)] [] (0, []) [] 0 0 = true := by decide +kernel
end
section
/-! the runs -/
set_option maxRecDepth 20000 in
theorem zv_c17 : zx_run zx_ms zx_pr 200000 9999 ztb_law 13 554 600000 7302250 6 99999 zx_kl zx_kn 32 zx_lv0 [136] zx_h0 [] 1142 666482 = true := by decide +kernel
set_option maxRecDepth 20000 in
theorem zv_c8 : zx_run zx_ms zx_pr 200000 9999 ztb_law 13 554 600000 7302250 6 99999 zx_kl zx_kn 32 zx_lv0 [64] zx_h0 [] 1142 666482 = true := by decide +kernel
set_option maxRecDepth 20000 in
theorem zv_c2 : zx_run zx_ms zx_pr 200000 9999 ztb_law 13 554 600000 7302250 6 99999 zx_kl zx_kn 32 zx_lv0 [16] zx_h0 [] 1142 666482 = true := by decide +kernel
set_option maxRecDepth 20000 in
theorem zv_c28 : zx_run zx_ms zx_pr 200000 9999 ztb_law 13 554 600000 7302250 6 99999 zx_kl zx_kn 32 zx_lv0 [224] zx_h0 [] 1142 666482 = true := by decide +kernel
set_option maxRecDepth 20000 in
theorem zv_c29 : zx_run zx_ms zx_pr 200000 9999 ztb_law 13 554 600000 7302250 6 99999 zx_kl zx_kn 32 zx_lv0 [232] zx_h0 [] 1142 666482 = true := by decide +kernel
set_option maxRecDepth 20000 in
theorem zv_c30 : zx_run zx_ms zx_pr 200000 9999 ztb_law 13 554 600000 7302250 6 99999 zx_kl zx_kn 32 zx_lv0 [240] zx_h0 [] 1142 666482 = true := by decide +kernel
set_option maxRecDepth 20000 in
theorem zv_c31 : zx_run zx_ms zx_pr 200000 9999 ztb_law 13 554 600000 7302250 6 99999 zx_kl zx_kn 32 zx_lv0 [248] zx_h0 [] 1142 666482 = true := by decide +kernel
end
section
/-! the runs -/
set_option maxRecDepth 20000 in
theorem zv_c0 : zx_run zx_ms zx_pr 200000 9999 ztb_law 13 554 600000 7302250 6 99999 zx_kl zx_kn 32 zx_lv0 [0] zx_h0 [] 1142 666482 = true := by decide +kernel
set_option maxRecDepth 20000 in
theorem zv_c7 : zx_run zx_ms zx_pr 200000 9999 ztb_law 13 554 600000 7302250 6 99999 zx_kl zx_kn 32 zx_lv0 [56] zx_h0 [] 1142 666482 = true := by decide +kernel
set_option maxRecDepth 20000 in
theorem zv_c27 : zx_run zx_ms zx_pr 200000 9999 ztb_law 13 554 600000 7302250 6 99999 zx_kl zx_kn 32 zx_lv0 [216] zx_h0 [] 1142 666482 = true := by decide +kernel
set_option maxRecDepth 20000 in
theorem zv_c24 : zx_run zx_ms zx_pr 200000 9999 ztb_law 13 554 600000 7302250 6 99999 zx_kl zx_kn 32 zx_lv0 [192] zx_h0 [] 1142 666482 = true := by decide +kernel
end
section
/-! the runs -/
set_option maxRecDepth 20000 in
theorem zv_c16 : zx_run zx_ms zx_pr 200000 9999 ztb_law 13 554 600000 7302250 6 99999 zx_kl zx_kn 32 zx_lv0 [128] zx_h0 [] 1142 666482 = true := by decide +kernel
set_option maxRecDepth 20000 in
theorem zv_c1 : zx_run zx_ms zx_pr 200000 9999 ztb_law 13 554 600000 7302250 6 99999 zx_kl zx_kn 32 zx_lv0 [8] zx_h0 [] 1142 666482 = true := by decide +kernel
set_option maxRecDepth 20000 in
theorem zv_c3 : zx_run zx_ms zx_pr 200000 9999 ztb_law 13 554 600000 7302250 6 99999 zx_kl zx_kn 32 zx_lv0 [24] zx_h0 [] 1142 666482 = true := by decide +kernel
set_option maxRecDepth 20000 in
theorem zv_c11 : zx_run zx_ms zx_pr 200000 9999 ztb_law 13 554 600000 7302250 6 99999 zx_kl zx_kn 32 zx_lv0 [88] zx_h0 [] 1142 666482 = true := by decide +kernel
set_option maxRecDepth 20000 in
theorem zv_c13 : zx_run zx_ms zx_pr 200000 9999 ztb_law 13 554 600000 7302250 6 99999 zx_kl zx_kn 32 zx_lv0 [104] zx_h0 [] 1142 666482 = true := by decide +kernel
end
section
/-! the runs -/
set_option maxRecDepth 20000 in
theorem zv_c9 : zx_run zx_ms zx_pr 200000 9999 ztb_law 13 554 600000 7302250 6 99999 zx_kl zx_kn 32 zx_lv0 [72] zx_h0 [] 1142 666482 = true := by decide +kernel
set_option maxRecDepth 20000 in
theorem zv_c19 : zx_run zx_ms zx_pr 200000 9999 ztb_law 13 554 600000 7302250 6 99999 zx_kl zx_kn 32 zx_lv0 [152] zx_h0 [] 1142 666482 = true := by decide +kernel
set_option maxRecDepth 20000 in
theorem zv_c15 : zx_run zx_ms zx_pr 200000 9999 ztb_law 13 554 600000 7302250 6 99999 zx_kl zx_kn 32 zx_lv0 [120] zx_h0 [] 1142 666482 = true := by decide +kernel
set_option maxRecDepth 20000 in
theorem zv_c12 : zx_run zx_ms zx_pr 200000 9999 ztb_law 13 554 600000 7302250 6 99999 zx_kl zx_kn 32 zx_lv0 [96] zx_h0 [] 1142 666482 = true := by decide +kernel
set_option maxRecDepth 20000 in
theorem zv_c23 : zx_run zx_ms zx_pr 200000 9999 ztb_law 13 554 600000 7302250 6 99999 zx_kl zx_kn 32 zx_lv0 [184] zx_h0 [] 1142 666482 = true := by decide +kernel
set_option maxRecDepth 20000 in
theorem zv_c25 : zx_run zx_ms zx_pr 200000 9999 ztb_law 13 554 600000 7302250 6 99999 zx_kl zx_kn 32 zx_lv0 [200] zx_h0 [] 1142 666482 = true := by decide +kernel
end
section
/-! the runs -/
set_option maxRecDepth 20000 in
theorem zv_c5 : zx_run zx_ms zx_pr 200000 9999 ztb_law 13 554 600000 7302250 6 99999 zx_kl zx_kn 32 zx_lv0 [40] zx_h0 [] 1142 666482 = true := by decide +kernel
set_option maxRecDepth 20000 in
theorem zv_c22 : zx_run zx_ms zx_pr 200000 9999 ztb_law 13 554 600000 7302250 6 99999 zx_kl zx_kn 32 zx_lv0 [176] zx_h0 [] 1142 666482 = true := by decide +kernel
set_option maxRecDepth 20000 in
theorem zv_c26 : zx_run zx_ms zx_pr 200000 9999 ztb_law 13 554 600000 7302250 6 99999 zx_kl zx_kn 32 zx_lv0 [208] zx_h0 [] 1142 666482 = true := by decide +kernel
set_option maxRecDepth 20000 in
theorem zv_c6 : zx_run zx_ms zx_pr 200000 9999 ztb_law 13 554 600000 7302250 6 99999 zx_kl zx_kn 32 zx_lv0 [48] zx_h0 [] 1142 666482 = true := by decide +kernel
set_option maxRecDepth 20000 in
theorem zv_c10 : zx_run zx_ms zx_pr 200000 9999 ztb_law 13 554 600000 7302250 6 99999 zx_kl zx_kn 32 zx_lv0 [80] zx_h0 [] 1142 666482 = true := by decide +kernel
set_option maxRecDepth 20000 in
theorem zv_c4 : zx_run zx_ms zx_pr 200000 9999 ztb_law 13 554 600000 7302250 6 99999 zx_kl zx_kn 32 zx_lv0 [32] zx_h0 [] 1142 666482 = true := by decide +kernel
end
section
/-! the two checks of a name -/
theorem zn_of (x : Int64) : x = lN x.toBitVec.toNat := by
  apply Int64.toBitVec_inj.mp
  show x.toBitVec = BitVec.ofNat 64 x.toBitVec.toNat
  exact (BitVec.ofNat_toNat 64 x.toBitVec ▸ by simp)
theorem zn_63 : ∀ t, t < 64 → ((nI t).toInt64.toUInt64 &&& Int64.toUInt64 63) = UInt64.ofNat t := by decide +kernel
theorem zn_shr {k t : Nat} (hk : k < 2 ^ 64) (ht : t < 64) : ((lN k).toUInt64 >>> ((nI t).toInt64.toUInt64 &&& Int64.toUInt64 63)).toInt64 = lN (k / 2 ^ t) := by
  rw [zn_63 t ht]
  have e1 : (lN k).toUInt64 = UInt64.ofNat k := rfl
  have e2 : UInt64.ofNat k >>> UInt64.ofNat t = UInt64.ofNat (k / 2 ^ t) := by
    apply UInt64.toNat_inj.mp
    have h3 : k / 2 ^ t < 2 ^ 64 := Nat.lt_of_le_of_lt (Nat.div_le_self _ _) hk
    rw [UInt64.toNat_shiftRight, UInt64.toNat_ofNat', UInt64.toNat_ofNat', UInt64.toNat_ofNat', Nat.mod_eq_of_lt hk, Nat.mod_eq_of_lt h3, Nat.mod_eq_of_lt (show t < 2 ^ 64 by omega), Nat.mod_eq_of_lt ht, Nat.shiftRight_eq_div_pow]
  rw [e1, e2]
  rfl
theorem zn_and (k : Nat) : lN k &&& lN 255 = lN (k % 256) := by
  apply Int64.toBitVec_inj.mp
  rw [Int64.toBitVec_and]
  apply BitVec.eq_of_toNat_eq
  rw [BitVec.toNat_and]
  show (k % 2 ^ 64) &&& (255 % 2 ^ 64) = (k % 256) % 2 ^ 64
  have h := Nat.and_two_pow_sub_one_eq_mod (k % 2 ^ 64) 8
  have h : (k % 2 ^ 64) &&& 255 = k % 2 ^ 64 % 256 := h
  rw [show 255 % 2 ^ 64 = 255 from rfl, h]
  omega
theorem zn_0 {k : Nat} (hk : k < 2 ^ 64) : lN k = 0 ↔ k = 0 := by
  constructor
  · intro h
    have h2 : (lN k).toBitVec.toNat = (0 : Int64).toBitVec.toNat := by rw [h]
    have h3 : k % 2 ^ 64 = 0 := h2
    omega
  · intro h; rw [h]; rfl
theorem zn_256 (i : Nat) : 2 ^ (8 * i) = 256 ^ i := by
  rw [Nat.pow_mul]
theorem zn_div (n i : Nat) : n / 256 ^ i / 256 = n / 256 ^ (i + 1) := by
  rw [Nat.div_div_eq_div_mul, Nat.pow_succ]
theorem zn_zero {n : Nat} (hn : n < 2 ^ 64) : ∀ (k j : Nat), j + k = 8 → (∀ t, j ≤ t → t < 8 → n / 256 ^ t % 256 = 0) → n / 256 ^ j = 0
  | 0, j, hj, _ => by
    have hj : j = 8 := hj
    subst hj
    exact Nat.div_eq_of_lt hn
  | k + 1, j, hj, h => by
    have h1 := zn_zero hn k (j + 1) (by omega) (fun t h2 h3 => h t (by omega) h3)
    have h2 := h j (Nat.le_refl j) (by omega)
    rw [← zn_div] at h1
    omega
theorem zn_mono {n e i : Nat} (hei : e ≤ i) (h : n / 256 ^ e = 0) : n / 256 ^ i = 0 := by
  have h1 : n / 256 ^ i ≤ n / 256 ^ e := Nat.div_le_div_left (Nat.pow_le_pow_right (by decide) hei) (Nat.pow_pos (by decide))
  rw [h] at h1
  exact Nat.le_zero.mp h1
theorem zn_true {n : Nat} (h0 : n ≠ 0) (h : ∀ j, j < 8 → n / 256 ^ j = 0 ∨ zr_sign (n / 256 ^ j % 256) = true) : zr_nmN n = true := by
  unfold zr_nmN
  rw [zx_nbeq.mpr h0]
  refine List.all_eq_true.mpr (fun j hj => ?_)
  rcases h j (List.mem_range.mp hj) with g | g
  · rw [g]; rfl
  · rw [g]; exact Bool.or_true _
theorem zn_false {n j : Nat} (hj : j < 8) (h1 : n / 256 ^ j ≠ 0) (h2 : zr_sign (n / 256 ^ j % 256) = false) : zr_nmN n = false := by
  apply Bool.eq_false_iff.mpr
  intro h
  have h := (Bool.and_eq_true_iff.mp h).2
  have h := List.all_eq_true.mp h j (List.mem_range.mpr hj)
  rw [zx_nbeq.mpr h1, h2] at h
  exact absurd h (by decide)
theorem zn_sign (c : Nat) : zr_sign c = true ↔ (97 ≤ c ∧ c ≤ 122) ∨ (48 ≤ c ∧ c ≤ 57) := by
  unfold zr_sign
  simp only [Bool.or_eq_true, Bool.and_eq_true, zx_ble]
theorem zn_nsign {c : Nat} (h : ¬ ((97 ≤ c ∧ c ≤ 122) ∨ (48 ≤ c ∧ c ≤ 57))) : zr_sign c = false := Bool.eq_false_iff.mpr (fun q => h ((zn_sign c).mp q))
section ZN
variable {p : Program} {l : Launch} {e : Env} {R : Room} {s : State} {m : MethodId} {args : Array Value} {below : List Frame} {meth : Method} {c : Code} {Q : State → Prop} {u w : Nat} {H : Heap} {locs : List Loc}
theorem zn_tree_a (hx : p.tables.exec = Jvm.exec) (hb : c.code = prog_11_method_3_code) {k i : Nat} {r x : Int64} (hk : k < 256) {ls : Array Slot} (hl : lv_has ls 8 [(5, .int (nI k)), (4, .int (nI i)), (2, .long r), (0, .long x)])
    (kk : ∀ ls : Array Slot, lv_has ls 8 [(6, .int (nI (if 97 ≤ k ∧ k ≤ 122 then 1 else 0))), (5, .int (nI k)), (4, .int (nI i)), (2, .long r), (0, .long x)] → W p l e R s m args below meth c H locs u w Q (F0 m 55 ls [])) : W p l e R s m args below meth c H locs u w Q (F0 m 34 ls []) := by
  have K0 : ¬ (97 ≤ k ∧ k ≤ 122) → W p l e R s m args below meth c H locs u w Q (F0 m 52 ls []) := fun g => by
    refine lv_iconst (v := nI 0) (n := 0) hx hb (by decide +kernel) (by decide) ?_
    refine lv_istore (lv' := [(6, .int (nI 0)), (5, .int (nI k)), (4, .int (nI i)), (2, .long r), (0, .long x)]) hx hb (by decide +kernel) hl (by decide) rfl (fun ls hl => ?_)
    exact kk ls (by rw [if_neg g]; exact hl)
  refine lv_iload hx hb (by decide +kernel) (lv_at hl 0 rfl) ?_
  refine lv_bipush (v := nI 97) (n := 97) hx hb (by decide +kernel) (by decide) ?_
  refine lv_icmp_lt (tgt := 52) (off := 14) hx hb (by decide +kernel) (by decide) (fun g => ?_) (fun g => ?_)
  · have g := (nI_ltI (by omega) (by omega)).mp g
    exact K0 (by omega)
  have g1 : 97 ≤ k := by
    have := mt (nI_ltI (by omega) (by omega)).mpr g
    omega
  refine lv_iload hx hb (by decide +kernel) (lv_at hl 0 rfl) ?_
  refine lv_bipush (v := nI 122) (n := 122) hx hb (by decide +kernel) (by decide) ?_
  refine lv_icmp_gt (tgt := 52) (off := 7) hx hb (by decide +kernel) (by decide) (fun g => ?_) (fun g => ?_)
  · have g := (nI_ltI (by omega) (by omega)).mp g
    exact K0 (by omega)
  have g2 : k ≤ 122 := by
    have := mt (nI_ltI (by omega) (by omega)).mpr g
    omega
  refine lv_iconst (v := nI 1) (n := 1) hx hb (by decide +kernel) (by decide) ?_
  refine lv_goto (tgt := 53) (off := 4) hx hb (by decide +kernel) (by decide) ?_
  refine lv_istore (lv' := [(6, .int (nI 1)), (5, .int (nI k)), (4, .int (nI i)), (2, .long r), (0, .long x)]) hx hb (by decide +kernel) hl (by decide) rfl (fun ls hl => ?_)
  exact kk ls (by rw [if_pos ⟨g1, g2⟩]; exact hl)
theorem zn_tree_b (hx : p.tables.exec = Jvm.exec) (hb : c.code = prog_11_method_3_code) {k i f : Nat} {r x : Int64} (hk : k < 256) {ls : Array Slot} (hl : lv_has ls 8 [(6, .int (nI f)), (5, .int (nI k)), (4, .int (nI i)), (2, .long r), (0, .long x)])
    (kk : ∀ ls : Array Slot, lv_has ls 8 [(7, .int (nI (if 48 ≤ k ∧ k ≤ 57 then 1 else 0))), (6, .int (nI f)), (5, .int (nI k)), (4, .int (nI i)), (2, .long r), (0, .long x)] → W p l e R s m args below meth c H locs u w Q (F0 m 76 ls [])) : W p l e R s m args below meth c H locs u w Q (F0 m 55 ls []) := by
  have K0 : ¬ (48 ≤ k ∧ k ≤ 57) → W p l e R s m args below meth c H locs u w Q (F0 m 73 ls []) := fun g => by
    refine lv_iconst (v := nI 0) (n := 0) hx hb (by decide +kernel) (by decide) ?_
    refine lv_istore (lv' := [(7, .int (nI 0)), (6, .int (nI f)), (5, .int (nI k)), (4, .int (nI i)), (2, .long r), (0, .long x)]) hx hb (by decide +kernel) hl (by decide) rfl (fun ls hl => ?_)
    exact kk ls (by rw [if_neg g]; exact hl)
  refine lv_iload hx hb (by decide +kernel) (lv_at hl 1 rfl) ?_
  refine lv_bipush (v := nI 48) (n := 48) hx hb (by decide +kernel) (by decide) ?_
  refine lv_icmp_lt (tgt := 73) (off := 14) hx hb (by decide +kernel) (by decide) (fun g => ?_) (fun g => ?_)
  · have g := (nI_ltI (by omega) (by omega)).mp g
    exact K0 (by omega)
  have g1 : 48 ≤ k := by
    have := mt (nI_ltI (by omega) (by omega)).mpr g
    omega
  refine lv_iload hx hb (by decide +kernel) (lv_at hl 1 rfl) ?_
  refine lv_bipush (v := nI 57) (n := 57) hx hb (by decide +kernel) (by decide) ?_
  refine lv_icmp_gt (tgt := 73) (off := 7) hx hb (by decide +kernel) (by decide) (fun g => ?_) (fun g => ?_)
  · have g := (nI_ltI (by omega) (by omega)).mp g
    exact K0 (by omega)
  have g2 : k ≤ 57 := by
    have := mt (nI_ltI (by omega) (by omega)).mpr g
    omega
  refine lv_iconst (v := nI 1) (n := 1) hx hb (by decide +kernel) (by decide) ?_
  refine lv_goto (tgt := 74) (off := 4) hx hb (by decide +kernel) (by decide) ?_
  refine lv_istore (lv' := [(7, .int (nI 1)), (6, .int (nI f)), (5, .int (nI k)), (4, .int (nI i)), (2, .long r), (0, .long x)]) hx hb (by decide +kernel) hl (by decide) rfl (fun ls hl => ?_)
  exact kk ls (by rw [if_pos ⟨g1, g2⟩]; exact hl)
theorem zn_tree_loop (hx : p.tables.exec = Jvm.exec) (hb : c.code = prog_11_method_3_code) (hts : ∀ w ∈ zk_T, w.before args s = true) (hown : s.vm.findClass "StubHouse$Tree" = some m.cls) {n : Nat} (hn : n < 2 ^ 64) (hn0 : n ≠ 0) {x : Int64} (k1 : zr_nmN n = true → ∀ ls : Array Slot, W p l e R s m args below meth c H locs u w Q (F0 m 99 ls [])) (k0 : zr_nmN n = false → ∀ ls : Array Slot, W p l e R s m args below meth c H locs u w Q (F0 m 86 ls [])) :
    ∀ (k i : Nat) (ls : Array Slot), i + k = 8 → (∀ j, j < i → zr_sign (n / 256 ^ j % 256) = true) → lv_has ls 8 [(4, .int (nI i)), (2, .long (lN (n / 256 ^ i))), (0, .long x)] → W p l e R s m args below meth c H locs u w Q (F0 m 13 ls []) := by
  intro k
  induction k with
  | zero =>
    intro i ls hi hs hl
    have hi : i = 8 := hi
    subst hi
    refine lv_iload hx hb (by decide +kernel) (lv_at hl 0 rfl) ?_
    refine lv_bipush (v := nI 8) (n := 8) hx hb (by decide +kernel) (by decide) ?_
    refine lv_icmp_ge (tgt := 99) (off := 82) hx hb (by decide +kernel) (by decide) (fun _ => ?_) (fun q => absurd (Int32.le_refl _) q)
    exact k1 (zn_true hn0 (fun j hj => Or.inr (hs j hj))) ls
  | succ k ih =>
    intro i ls hi hs hl
    have hin : i < 8 := by omega
    have hr : n / 256 ^ i < 2 ^ 64 := Nat.lt_of_le_of_lt (Nat.div_le_self _ _) hn
    refine lv_iload hx hb (by decide +kernel) (lv_at hl 0 rfl) ?_
    refine lv_bipush (v := nI 8) (n := 8) hx hb (by decide +kernel) (by decide) ?_
    refine lv_icmp_ge (tgt := 99) (off := 82) hx hb (by decide +kernel) (by decide) (fun q => absurd q (nI_ge hin (by decide))) (fun _ => ?_)
    refine lv_lload_n hx hb (k := 2) (by decide +kernel) rfl (lv_at hl 1 rfl) ?_
    refine lv_lconst (v := 0) (n := 0) hx hb (by decide +kernel) (by decide) ?_
    refine W.lcmp hx hb (by decide +kernel) ?_
    refine lv_if_eq (tgt := 99) (off := 76) hx hb (by decide +kernel) (by decide) (fun g => ?_) (fun g => ?_)
    · have g := (zn_0 hr).mp ((lg_cmp_eq _ _).mp g)
      refine k1 (zn_true hn0 (fun j hj => ?_)) ls
      by_cases hji : j < i
      · exact Or.inr (hs j hji)
      · exact Or.inl (zn_mono (by omega) g)
    have hr0 : n / 256 ^ i ≠ 0 := fun q => g ((lg_cmp_eq _ _).mpr ((zn_0 hr).mpr q))
    refine lv_lload_n hx hb (k := 2) (by decide +kernel) rfl (lv_at hl 1 rfl) ?_
    refine lv_ldc2 (own := "StubHouse$Tree") (index := 34) (v := lN 255) hx hb hown (hts _ (zk_h_eq (n := 921) (by decide +kernel) rfl rfl)) (by decide +kernel) ?_
    refine lv_land hx hb (by decide +kernel) ?_
    rw [zn_and]
    refine lv_l2i (v := nI (n / 256 ^ i % 256)) hx hb (by decide +kernel) (lN_i _) ?_
    refine lv_istore (lv' := [(5, .int (nI (n / 256 ^ i % 256))), (4, .int (nI i)), (2, .long (lN (n / 256 ^ i))), (0, .long x)]) hx hb (by decide +kernel) hl (by decide) rfl (fun ls hl => ?_)
    have hc : n / 256 ^ i % 256 < 256 := Nat.mod_lt _ (by decide)
    refine zn_tree_a hx hb hc hl (fun ls hl => ?_)
    refine zn_tree_b hx hb hc hl (fun ls hl => ?_)
    have K88 : zr_sign (n / 256 ^ i % 256) = true → W p l e R s m args below meth c H locs u w Q (F0 m 88 ls []) := fun hsg => by
      refine lv_lload_n hx hb (k := 2) (by decide +kernel) rfl (lv_at hl 4 rfl) ?_
      refine lv_bipush (v := nI 8) (n := 8) hx hb (by decide +kernel) (by decide) ?_
      refine lv_lushr (v := lN (n / 256 ^ (i + 1))) hx hb (by decide +kernel) (by rw [zn_shr hr (by decide), ← zn_div]) ?_
      refine lv_lstore_n (k := 2) (lv' := [(2, .long (lN (n / 256 ^ (i + 1)))), (7, .int (nI (if 48 ≤ n / 256 ^ i % 256 ∧ n / 256 ^ i % 256 ≤ 57 then 1 else 0))), (6, .int (nI (if 97 ≤ n / 256 ^ i % 256 ∧ n / 256 ^ i % 256 ≤ 122 then 1 else 0))), (5, .int (nI (n / 256 ^ i % 256))), (4, .int (nI i)), (0, .long x)]) hx hb (by decide +kernel) rfl hl (by decide) rfl (fun ls hl => ?_)
      refine lv_iinc (k := 4) (v := nI (i + 1)) (lv' := [(4, .int (nI (i + 1))), (2, .long (lN (n / 256 ^ (i + 1)))), (7, .int (nI (if 48 ≤ n / 256 ^ i % 256 ∧ n / 256 ^ i % 256 ≤ 57 then 1 else 0))), (6, .int (nI (if 97 ≤ n / 256 ^ i % 256 ∧ n / 256 ^ i % 256 ≤ 122 then 1 else 0))), (5, .int (nI (n / 256 ^ i % 256))), (0, .long x)]) (n := 1) hx hb (by decide +kernel) hl rfl (nI_1 i) (by decide) rfl (fun ls hl => ?_)
      refine lv_goto (tgt := 13) (off := -83) hx hb (by decide +kernel) (by decide) ?_
      refine ih (i + 1) ls (by omega) (fun j hj => ?_) (lv_sub hl [0, 1, 5] rfl)
      by_cases hji : j = i
      · rw [hji]; exact hsg
      · exact hs j (by omega)
    refine lv_iload hx hb (by decide +kernel) (lv_at hl 1 rfl) ?_
    refine lv_if_ne (tgt := 88) (off := 10) hx hb (by decide +kernel) (by decide) (fun g => ?_) (fun g1 => ?_)
    · refine K88 ((zn_sign _).mpr (Or.inl ?_))
      by_cases h9 : 97 ≤ n / 256 ^ i % 256 ∧ n / 256 ^ i % 256 ≤ 122
      · exact h9
      · rw [if_neg h9] at g; exact absurd nI_0 g
    refine lv_iload hx hb (by decide +kernel) (lv_at hl 0 rfl) ?_
    refine lv_if_ne (tgt := 88) (off := 5) hx hb (by decide +kernel) (by decide) (fun g => ?_) (fun g2 => ?_)
    · refine K88 ((zn_sign _).mpr (Or.inr ?_))
      by_cases h9 : 48 ≤ n / 256 ^ i % 256 ∧ n / 256 ^ i % 256 ≤ 57
      · exact h9
      · rw [if_neg h9] at g; exact absurd nI_0 g
    refine k0 (zn_false hin hr0 (zn_nsign ?_)) ls
    rintro (h9 | h9)
    · rw [if_pos h9] at g1; exact absurd g1 (by decide)
    · rw [if_pos h9] at g2; exact absurd g2 (by decide)
end ZN
theorem zn_tree : zk_nm ⟨"StubHouse$Tree", "isName", "(J)Z"⟩ prog_11_method_3_code 8 := by
  intro l x
  refine Met.ofW (cc := prog_11_method_3_code) (maxL := 8) (ret := some .boolean) (by decide) rfl ?_
  intro p e s m args below meth c s₁ B hml hv
  obtain ⟨rfl, -⟩ := hv
  have hx := B.exec
  have hb := B.bytes
  have hr := B.returns
  have hts := atoms_spec (ws := Cond.code ⟨"StubHouse$Tree", "isName", "(J)Z"⟩ prog_11_method_3_code 8 (some .boolean) :: zk_T) B.pre
  have hown : s.vm.findClass "StubHouse$Tree" = some m.cls := findClass_of_methodNamed B.named
  have hlocks : meth.locks = false := B.notSynchronized
  have hl := lv_entry ([.long x]) (n := 8) (Nat.le_of_ble_eq_true rfl)
  rw [lg_entry_eq]
  generalize (lg_sl ([.long x]) ++ List.replicate (8 - (lg_sl ([.long x])).length) Slot.unset).toArray = ls at hl ⊢
  have hl : lv_has ls 8 [(0, .long x)] := hl
  have hn : x.toBitVec.toNat < 2 ^ 64 := x.toBitVec.isLt
  have hq : ∀ (v : Int32), v = (if zr_nm x = true then 1 else 0) → ∀ t : State, t.heap = s.heap → s.WarmedH t.vm → (fun (_ : Array Value) (st0 : State) (oc : Outcome) (t : State) => oc = .returned (some (.int (if zr_nm x = true then 1 else 0))) ∧ t.heap = st0.heap) ([Value.long x] : List Value).toArray s (.returned (some (.int v))) t := fun v hv t ht _ => ⟨by rw [hv], ht⟩
  have k1 : zr_nm x = true → ∀ ls : Array Slot, W p l e { frames := 1, cells := 0, slots := 0, locals := 30 } s m ([Value.long x] : List Value).toArray below meth c s.heap [] 0 0 (MQ below (fun _ st0 oc t => oc = .returned (some (.int (if zr_nm x = true then 1 else 0))) ∧ t.heap = st0.heap) ([Value.long x] : List Value).toArray s 0 0 (fun _ => False)) (F0 m 99 ls []) := fun h ls => by
    refine lv_iconst (v := 1) (n := 1) hx hb (by decide +kernel) (by decide) ?_
    exact W.zret hx hb hr (by decide) (hq 1 (by rw [if_pos h])) (fun q h => by cases h) (by decide +kernel)
  have k0 : ∀ pc, decode prog_11_method_3_code pc = .ok (.iconst 0, 1) → decode prog_11_method_3_code (pc + 1) = .ok (.ireturn, 1) → zr_nm x = false → ∀ ls : Array Slot, W p l e { frames := 1, cells := 0, slots := 0, locals := 30 } s m ([Value.long x] : List Value).toArray below meth c s.heap [] 0 0 (MQ below (fun _ st0 oc t => oc = .returned (some (.int (if zr_nm x = true then 1 else 0))) ∧ t.heap = st0.heap) ([Value.long x] : List Value).toArray s 0 0 (fun _ => False)) (F0 m pc ls []) := fun pc d1 d2 h ls => by
    refine lv_iconst (v := 0) (n := 0) hx hb d1 (by decide) ?_
    exact W.zret hx hb hr (by decide) (hq 0 (by rw [if_neg (by rw [h]; decide)])) (fun q h => by cases h) d2
  refine lv_lload_n hx hb (k := 0) (by decide +kernel) rfl (lv_at hl 0 rfl) ?_
  refine lv_lconst (v := 0) (n := 0) hx hb (by decide +kernel) (by decide) ?_
  refine W.lcmp hx hb (by decide +kernel) ?_
  refine lv_if_ne (tgt := 8) (off := 5) hx hb (by decide +kernel) (by decide) (fun g => ?_) (fun g => ?_)
  · have hn0 : x.toBitVec.toNat ≠ 0 := fun q => g ((lg_cmp_eq _ _).mpr (by rw [zn_of x, q]; rfl))
    refine lv_lload_n hx hb (k := 0) (by decide +kernel) rfl (lv_at hl 0 rfl) ?_
    refine lv_lstore_n (k := 2) (lv' := [(2, .long x), (0, .long x)]) hx hb (by decide +kernel) rfl hl (by decide) rfl (fun ls hl => ?_)
    refine lv_iconst (v := nI 0) (n := 0) hx hb (by decide +kernel) (by decide) ?_
    refine lv_istore (lv' := [(4, .int (nI 0)), (2, .long x), (0, .long x)]) hx hb (by decide +kernel) hl (by decide) rfl (fun ls hl => ?_)
    refine zn_tree_loop hx hb (fun w hw => hts w (List.mem_cons_of_mem _ hw)) hown hn hn0 k1 (k0 86 (by decide +kernel) (by decide +kernel)) 8 0 ls rfl (fun j hj => absurd hj (Nat.not_lt_zero j)) ?_ (x := x)
    rw [Nat.pow_zero, Nat.div_one, ← zn_of x]
    exact hl
  · have g := (lg_cmp_eq x 0).mp g
    refine k0 6 (by decide +kernel) (by decide +kernel) ?_ ls
    rw [g]; decide
end
section
/-! the reference's check of a name -/
theorem zn_in (l : Launch) (x a b : Int64) : Met l ⟨"StubHouseModel", "in", "(JJJ)Z"⟩ (Cond.code ⟨"StubHouseModel", "in", "(JJJ)Z"⟩ prog_14_method_2_code 6 (some .boolean) :: zk_T) { frames := 0, cells := 0, slots := 0, locals := 0 } (va_Pc [.long x, .long a, .long b] (fun _ => True)) (fun _ st0 oc t => oc = .returned (some (.int (if a ≤ x ∧ x ≤ b then 1 else 0))) ∧ t.heap = st0.heap) 0 0 (fun _ => False) := by
  refine Met.ofW (cc := prog_14_method_2_code) (maxL := 6) (ret := some .boolean) (by decide) rfl ?_
  intro p e s m args below meth c s₁ B hml hv
  obtain ⟨rfl, -⟩ := hv
  have hx := B.exec
  have hb := B.bytes
  have hr := B.returns
  have hlocks : meth.locks = false := B.notSynchronized
  have hl := lv_entry ([.long x, .long a, .long b]) (n := 6) (Nat.le_of_ble_eq_true rfl)
  rw [lg_entry_eq]
  generalize (lg_sl ([.long x, .long a, .long b]) ++ List.replicate (6 - (lg_sl ([.long x, .long a, .long b])).length) Slot.unset).toArray = ls at hl ⊢
  have hl : lv_has ls 6 [(0, .long x), (2, .long a), (4, .long b)] := hl
  have K0 : ¬ (a ≤ x ∧ x ≤ b) → W p l e { frames := 0, cells := 0, slots := 0, locals := 0 } s m ([Value.long x, .long a, .long b] : List Value).toArray below meth c s.heap [] 0 0 (MQ below (fun _ st0 oc t => oc = .returned (some (.int (if a ≤ x ∧ x ≤ b then 1 else 0))) ∧ t.heap = st0.heap) ([Value.long x, .long a, .long b] : List Value).toArray s 0 0 (fun _ => False)) (F0 m 17 ls []) := fun g => by
    refine lv_iconst (v := 0) (n := 0) hx hb (by decide +kernel) (by decide) ?_
    exact W.zret hx hb hr (by decide) (fun t ht _ => ⟨by rw [if_neg g], ht⟩) (fun q h => by cases h) (by decide +kernel)
  refine lv_lload_n hx hb (k := 0) (by decide +kernel) rfl (lv_at hl 0 rfl) ?_
  refine lv_lload_n hx hb (k := 2) (by decide +kernel) rfl (lv_at hl 1 rfl) ?_
  refine W.lcmp hx hb (by decide +kernel) ?_
  refine lv_if_lt (tgt := 17) (off := 14) hx hb (by decide +kernel) (by decide) (fun g => ?_) (fun g => ?_)
  · have g := (lg_cmp_lt _ _).mp g
    exact K0 (fun q => absurd q.1 (Int64.not_le.mpr g))
  have g1 : a ≤ x := Int64.not_lt.mp (fun q => g ((lg_cmp_lt _ _).mpr q))
  refine lv_lload_n hx hb (k := 0) (by decide +kernel) rfl (lv_at hl 0 rfl) ?_
  refine lv_lload hx hb (by decide +kernel) (lv_at hl 2 rfl) ?_
  refine W.lcmp hx hb (by decide +kernel) ?_
  refine lv_if_gt (tgt := 17) (off := 7) hx hb (by decide +kernel) (by decide) (fun g => ?_) (fun g => ?_)
  · have g := (lg_cmp_gt _ _).mp g
    exact K0 (fun q => absurd q.2 (Int64.not_le.mpr g))
  have g2 : x ≤ b := Int64.not_lt.mp (fun q => g ((lg_cmp_gt _ _).mpr q))
  refine lv_iconst (v := 1) (n := 1) hx hb (by decide +kernel) (by decide) ?_
  refine lv_goto (tgt := 18) (off := 4) hx hb (by decide +kernel) (by decide) ?_
  exact W.zret hx hb hr (by decide) (fun t ht _ => ⟨by rw [if_pos ⟨g1, g2⟩], ht⟩) (fun q h => by cases h) (by decide +kernel)
theorem zn_lle {a b : Nat} (ha : a < 256) (hb : b < 256) : lN a ≤ lN b ↔ a ≤ b := lN_le (by omega) (by omega)
section ZN2
variable {p : Program} {l : Launch} {e : Env} {R : Room} {s : State} {m : MethodId} {args : Array Value} {below : List Frame} {meth : Method} {c : Code} {Q : State → Prop} {u w : Nat} {H : Heap} {locs : List Loc}
theorem zn_call (hx : p.tables.exec = Jvm.exec) (hb : c.code = prog_14_method_13_code) (hml : c.maxLocals = 7) (hts : ∀ w ∈ zk_T, w.before args s = true) (hown : s.vm.findClass "StubHouseModel" = some m.cls) (hfr : 1 ≤ R.frames) (hlo : 30 ≤ R.locals) (hu : u ≤ R.cells) (hw : w ≤ R.slots) {k a2 b2 pc : Nat} (hk : k < 256) (ha : a2 < 256) (hb2 : b2 < 256) (hd : decode prog_14_method_13_code pc = .ok (.invokestatic 139, 3)) {ls : Array Slot} (hs : ls.size = 7)
    (kk : W p l e R s m args below meth c H locs u w Q (F0 m (pc + 3) ls [.int (nI (if a2 ≤ k ∧ k ≤ b2 then 1 else 0))])) : W p l e R s m args below meth c H locs u w Q (F0 m pc ls [.long (lN b2), .long (lN a2), .long (lN k)]) := by
  refine zq_quiet (v0 := some (.int (if lN a2 ≤ lN k ∧ lN k ≤ lN b2 then 1 else 0))) (rest := []) (va_runS (l := l) (e := e) (below := below) (meth := meth) (H := H) (locs := locs) (cells := u) (slots := w) (rest := []) (g := F0 m pc ls [.long (lN b2), .long (lN a2), .long (lN k)]) (R := R) (As := [.long (lN k), .long (lN a2), .long (lN b2)]) ⟨hx, hb, hml, hown, hts⟩ (zn_in l (lN k) (lN a2) (lN b2)) ⟨callB_of 3 hts (zk_good (fun w h => h) (fun w hw => by rcases List.mem_cons.mp hw with rfl | hw; exact zk_h_eq (n := 2806) (by decide +kernel) rfl rfl; exact hw)) rfl rfl rfl (hts _ (zk_h_eq (n := 14) (by decide +kernel) rfl rfl)) (hts _ (zk_h_eq (n := 2804) (by decide +kernel) rfl rfl)) (by decide +kernel) ⟨hfr, Nat.le_trans (by decide) hlo⟩, hts _ (zk_h_eq (n := 2805) (by decide +kernel) rfl rfl)⟩ ⟨fun _ _ _ _ q => q, fun _ _ _ => ⟨rfl, trivial⟩⟩ rfl rfl hs rfl (lv_room (by decide)) hd ⟨hu, hw⟩) ?_
  have e1 : (if lN a2 ≤ lN k ∧ lN k ≤ lN b2 then (1 : Int32) else 0) = nI (if a2 ≤ k ∧ k ≤ b2 then 1 else 0) := by
    by_cases h9 : a2 ≤ k ∧ k ≤ b2
    · rw [if_pos h9, if_pos ⟨(zn_lle ha hk).mpr h9.1, (zn_lle hk hb2).mpr h9.2⟩]; rfl
    · rw [if_neg h9, if_neg (fun q => h9 ⟨(zn_lle ha hk).mp q.1, (zn_lle hk hb2).mp q.2⟩)]; rfl
  rw [e1]
  exact kk
/-- is the byte a sign: at 28, on at 65 -/
theorem zn_m_a (hx : p.tables.exec = Jvm.exec) (hb : c.code = prog_14_method_13_code) (hml : c.maxLocals = 7) (hts : ∀ w ∈ zk_T, w.before args s = true) (hown : s.vm.findClass "StubHouseModel" = some m.cls) (hfr : 1 ≤ R.frames) (hlo : 30 ≤ R.locals) (hu : u ≤ R.cells) (hw : w ≤ R.slots) {k i ok en : Nat} {x : Int64} (hk : k < 256) {ls : Array Slot} (hl : lv_has ls 7 [(5, .int (nI k)), (4, .int (nI i)), (3, .int (nI ok)), (2, .int (nI en)), (0, .long x)])
    (kk : ∀ ls : Array Slot, lv_has ls 7 [(6, .int (nI (if zr_sign k = true then 1 else 0))), (5, .int (nI k)), (4, .int (nI i)), (3, .int (nI ok)), (2, .int (nI en)), (0, .long x)] → W p l e R s m args below meth c H locs u w Q (F0 m 65 ls [])) : W p l e R s m args below meth c H locs u w Q (F0 m 28 ls []) := by
  have K1 : zr_sign k = true → W p l e R s m args below meth c H locs u w Q (F0 m 58 ls []) := fun g => by
    refine lv_iconst (v := nI 1) (n := 1) hx hb (by decide +kernel) (by decide) ?_
    refine lv_goto (tgt := 63) (off := 4) hx hb (by decide +kernel) (by decide) ?_
    refine lv_istore (lv' := [(6, .int (nI 1)), (5, .int (nI k)), (4, .int (nI i)), (3, .int (nI ok)), (2, .int (nI en)), (0, .long x)]) hx hb (by decide +kernel) hl (by decide) rfl (fun ls hl => ?_)
    exact kk ls (by rw [if_pos g]; exact hl)
  refine lv_iload hx hb (by decide +kernel) (lv_at hl 0 rfl) ?_
  refine lv_i2l (v := lN k) hx hb (by decide +kernel) (nI_l (by omega)) ?_
  refine lv_ldc2 (own := "StubHouseModel") (index := 149) (v := lN 97) hx hb hown (hts _ (zk_h_eq (n := 2815) (by decide +kernel) rfl rfl)) (by decide +kernel) ?_
  refine lv_ldc2 (own := "StubHouseModel") (index := 151) (v := lN 122) hx hb hown (hts _ (zk_h_eq (n := 2816) (by decide +kernel) rfl rfl)) (by decide +kernel) ?_
  refine zn_call hx hb hml hts hown hfr hlo hu hw hk (by decide) (by decide) (by decide +kernel) hl.1 ?_
  refine lv_if_ne (tgt := 58) (off := 18) hx hb (by decide +kernel) (by decide) (fun g => ?_) (fun g1 => ?_)
  · refine K1 ((zn_sign _).mpr (Or.inl ?_))
    by_cases h9 : 97 ≤ k ∧ k ≤ 122
    · exact h9
    · rw [if_neg h9] at g; exact absurd nI_0 g
  refine lv_iload hx hb (by decide +kernel) (lv_at hl 0 rfl) ?_
  refine lv_i2l (v := lN k) hx hb (by decide +kernel) (nI_l (by omega)) ?_
  refine lv_ldc2 (own := "StubHouseModel") (index := 153) (v := lN 48) hx hb hown (hts _ (zk_h_eq (n := 2817) (by decide +kernel) rfl rfl)) (by decide +kernel) ?_
  refine lv_ldc2 (own := "StubHouseModel") (index := 155) (v := lN 57) hx hb hown (hts _ (zk_h_eq (n := 2818) (by decide +kernel) rfl rfl)) (by decide +kernel) ?_
  refine zn_call hx hb hml hts hown hfr hlo hu hw hk (by decide) (by decide) (by decide +kernel) hl.1 ?_
  refine lv_if_eq (tgt := 62) (off := 7) hx hb (by decide +kernel) (by decide) (fun g2 => ?_) (fun g => ?_)
  · have hns : zr_sign k = false := zn_nsign (by
      rintro (h9 | h9)
      · rw [if_pos h9] at g1; exact absurd g1 (by decide)
      · rw [if_pos h9] at g2; exact absurd g2 (by decide))
    refine lv_iconst (v := nI 0) (n := 0) hx hb (by decide +kernel) (by decide) ?_
    refine lv_istore (lv' := [(6, .int (nI 0)), (5, .int (nI k)), (4, .int (nI i)), (3, .int (nI ok)), (2, .int (nI en)), (0, .long x)]) hx hb (by decide +kernel) hl (by decide) rfl (fun ls hl => ?_)
    exact kk ls (by rw [if_neg (by rw [hns]; decide)]; exact hl)
  · refine K1 ((zn_sign _).mpr (Or.inr ?_))
    by_cases h9 : 48 ≤ k ∧ k ≤ 57
    · exact h9
    · rw [if_neg h9] at g; exact absurd nI_0 g
/-- is it still a name: at 65, on at 94 -/
theorem zn_m_b (hx : p.tables.exec = Jvm.exec) (hb : c.code = prog_14_method_13_code) {k i ok en f : Nat} {x : Int64} (hk : k < 256) (hi : i < 256) (hen : en < 256) (hok : ok < 2) (hf : f < 2) {ls : Array Slot} (hl : lv_has ls 7 [(6, .int (nI f)), (5, .int (nI k)), (4, .int (nI i)), (3, .int (nI ok)), (2, .int (nI en)), (0, .long x)])
    (kk : ∀ ls : Array Slot, lv_has ls 7 [(3, .int (nI (if ok = 1 ∧ ((f = 1 ∧ en = i) ∨ (f = 0 ∧ k = 0)) then 1 else 0))), (6, .int (nI f)), (5, .int (nI k)), (4, .int (nI i)), (2, .int (nI en)), (0, .long x)] → W p l e R s m args below meth c H locs u w Q (F0 m 94 ls [])) : W p l e R s m args below meth c H locs u w Q (F0 m 65 ls []) := by
  have K0 : ¬ (ok = 1 ∧ ((f = 1 ∧ en = i) ∨ (f = 0 ∧ k = 0))) → W p l e R s m args below meth c H locs u w Q (F0 m 92 ls []) := fun g => by
    refine lv_iconst (v := nI 0) (n := 0) hx hb (by decide +kernel) (by decide) ?_
    refine lv_istore_n (k := 3) (lv' := [(3, .int (nI 0)), (6, .int (nI f)), (5, .int (nI k)), (4, .int (nI i)), (2, .int (nI en)), (0, .long x)]) hx hb (by decide +kernel) rfl hl (by decide) rfl (fun ls hl => ?_)
    exact kk ls (by rw [if_neg g]; exact hl)
  have K1 : (ok = 1 ∧ ((f = 1 ∧ en = i) ∨ (f = 0 ∧ k = 0))) → W p l e R s m args below meth c H locs u w Q (F0 m 88 ls []) := fun g => by
    refine lv_iconst (v := nI 1) (n := 1) hx hb (by decide +kernel) (by decide) ?_
    refine lv_goto (tgt := 93) (off := 4) hx hb (by decide +kernel) (by decide) ?_
    refine lv_istore_n (k := 3) (lv' := [(3, .int (nI 1)), (6, .int (nI f)), (5, .int (nI k)), (4, .int (nI i)), (2, .int (nI en)), (0, .long x)]) hx hb (by decide +kernel) rfl hl (by decide) rfl (fun ls hl => ?_)
    exact kk ls (by rw [if_pos g]; exact hl)
  refine lv_iload_n hx hb (k := 3) (by decide +kernel) rfl (lv_at hl 3 rfl) ?_
  refine lv_if_eq (tgt := 92) (off := 26) hx hb (by decide +kernel) (by decide) (fun g => ?_) (fun g => ?_)
  · have g : ok = 0 := by
      by_cases h9 : ok = 0
      · exact h9
      · exact absurd g (nI_ne0 (by omega) (by omega))
    exact K0 (by omega)
  have h1 : ok = 1 := by
    by_cases h9 : ok = 0
    · rw [h9] at g; exact absurd nI_0 g
    · omega
  refine lv_iload hx hb (by decide +kernel) (lv_at hl 0 rfl) ?_
  refine lv_if_eq (tgt := 83) (off := 12) hx hb (by decide +kernel) (by decide) (fun g => ?_) (fun g => ?_)
  · have g : f = 0 := by
      by_cases h9 : f = 0
      · exact h9
      · exact absurd g (nI_ne0 (by omega) (by omega))
    refine lv_iload hx hb (by decide +kernel) (lv_at hl 1 rfl) ?_
    refine lv_if_ne (tgt := 92) (off := 7) hx hb (by decide +kernel) (by decide) (fun g2 => ?_) (fun g2 => ?_)
    · have g2 : k ≠ 0 := fun q => by rw [q] at g2; exact g2 nI_0
      exact K0 (by omega)
    · have g2 : k = 0 := by
        by_cases h9 : k = 0
        · exact h9
        · exact absurd g2 (nI_ne0 (by omega) (by omega))
      exact K1 (by omega)
  have h2 : f = 1 := by
    by_cases h9 : f = 0
    · rw [h9] at g; exact absurd nI_0 g
    · omega
  refine lv_iload_n hx hb (k := 2) (by decide +kernel) rfl (lv_at hl 4 rfl) ?_
  refine lv_iload hx hb (by decide +kernel) (lv_at hl 2 rfl) ?_
  refine lv_icmp_ne (tgt := 92) (off := 15) hx hb (by decide +kernel) (by decide) (fun g2 => ?_) (fun g2 => ?_)
  · have g2 : en ≠ i := fun q => by rw [q] at g2; exact g2 rfl
    exact K0 (by omega)
  · have g2 : en = i := by
      exact (nI_eq (by omega) (by omega)).mp g2
    refine lv_goto (tgt := 88) (off := 8) hx hb (by decide +kernel) (by decide) ?_
    exact K1 (by omega)
/-- the end's new place: at 94, on at 108 -/
theorem zn_m_c (hx : p.tables.exec = Jvm.exec) (hb : c.code = prog_14_method_13_code) {k i ok en f : Nat} {x : Int64} (hf : f < 2) {ls : Array Slot} (hl : lv_has ls 7 [(3, .int (nI ok)), (6, .int (nI f)), (5, .int (nI k)), (4, .int (nI i)), (2, .int (nI en)), (0, .long x)])
    (kk : ∀ ls : Array Slot, lv_has ls 7 [(2, .int (nI (if f = 1 then i + 1 else en))), (3, .int (nI ok)), (6, .int (nI f)), (5, .int (nI k)), (4, .int (nI i)), (0, .long x)] → W p l e R s m args below meth c H locs u w Q (F0 m 108 ls [])) : W p l e R s m args below meth c H locs u w Q (F0 m 94 ls []) := by
  refine lv_iload hx hb (by decide +kernel) (lv_at hl 1 rfl) ?_
  refine lv_if_eq (tgt := 106) (off := 10) hx hb (by decide +kernel) (by decide) (fun g => ?_) (fun g => ?_)
  · have g : f ≠ 1 := fun q => by rw [q] at g; exact absurd g (by decide)
    refine lv_iload_n hx hb (k := 2) (by decide +kernel) rfl (lv_at hl 4 rfl) ?_
    refine lv_istore_n (k := 2) (lv' := [(2, .int (nI en)), (3, .int (nI ok)), (6, .int (nI f)), (5, .int (nI k)), (4, .int (nI i)), (0, .long x)]) hx hb (by decide +kernel) rfl hl (by decide) rfl (fun ls hl => ?_)
    exact kk ls (by rw [if_neg g]; exact hl)
  · have g : f = 1 := by
      by_cases h9 : f = 0
      · rw [h9] at g; exact absurd nI_0 g
      · omega
    refine lv_iload hx hb (by decide +kernel) (lv_at hl 3 rfl) ?_
    refine lv_iconst (v := 1) (n := 1) hx hb (by decide +kernel) (by decide) ?_
    refine lv_iadd hx hb (by decide +kernel) ?_
    rw [nI_1]
    refine lv_goto (tgt := 107) (off := 4) hx hb (by decide +kernel) (by decide) ?_
    refine lv_istore_n (k := 2) (lv' := [(2, .int (nI (i + 1))), (3, .int (nI ok)), (6, .int (nI f)), (5, .int (nI k)), (4, .int (nI i)), (0, .long x)]) hx hb (by decide +kernel) rfl hl (by decide) rfl (fun ls hl => ?_)
    exact kk ls (by rw [if_pos g]; exact hl)
/-- what holds of end and ok behind i bytes -/
def zn_I (n i en ok : Nat) : Prop := en ≤ i ∧ ok < 2 ∧ (ok = 1 → (∀ j, j < en → zr_sign (n / 256 ^ j % 256) = true) ∧ ∀ j, en ≤ j → j < i → n / 256 ^ j % 256 = 0) ∧ (ok = 0 → zr_nmN n = false)
theorem zn_I_step {n i en ok : Nat} (hi : i < 8) (h : zn_I n i en ok) : zn_I n (i + 1) (if (if zr_sign (n / 256 ^ i % 256) = true then 1 else 0) = 1 then i + 1 else en) (if ok = 1 ∧ (((if zr_sign (n / 256 ^ i % 256) = true then 1 else 0) = 1 ∧ en = i) ∨ ((if zr_sign (n / 256 ^ i % 256) = true then 1 else 0) = 0 ∧ n / 256 ^ i % 256 = 0)) then 1 else 0) := by
  obtain ⟨h1, h2, h3, h4⟩ := h
  cases hs : zr_sign (n / 256 ^ i % 256) with
  | true =>
    simp only [if_true, true_and, Nat.one_ne_zero, false_and, or_false]
    refine ⟨Nat.le_refl _, by split <;> decide, fun q => ?_, fun q => ?_⟩
    · by_cases g : ok = 1 ∧ en = i
      · obtain ⟨g1, g2⟩ := g
        refine ⟨fun j hj => ?_, fun j q1 q2 => absurd q2 (by omega)⟩
        by_cases hji : j = i
        · rw [hji]; exact hs
        · exact (h3 g1).1 j (by omega)
      · rw [if_neg g] at q; exact absurd q (by decide)
    · by_cases g : ok = 1 ∧ en = i
      · rw [if_pos g] at q; exact absurd q (by decide)
      · by_cases g1 : ok = 1
        · have hlt : en < i := by omega
          have hz := (h3 g1).2 en (Nat.le_refl _) hlt
          refine zn_false (j := en) (by omega) (fun q2 => ?_) (by rw [hz]; rfl)
          have := zn_mono (Nat.le_of_lt hlt) q2
          rw [this] at hs
          exact absurd hs (by decide)
        · exact h4 (by omega)
  | false =>
    simp only [Bool.false_eq_true, if_false, false_and, true_and, false_or, Nat.zero_ne_one]
    refine ⟨by omega, by split <;> decide, fun q => ?_, fun q => ?_⟩
    · by_cases g : ok = 1 ∧ n / 256 ^ i % 256 = 0
      · obtain ⟨g1, g2⟩ := g
        refine ⟨(h3 g1).1, fun j q1 q2 => ?_⟩
        by_cases hji : j = i
        · rw [hji]; exact g2
        · exact (h3 g1).2 j q1 (by omega)
      · rw [if_neg g] at q; exact absurd q (by decide)
    · by_cases g : ok = 1 ∧ n / 256 ^ i % 256 = 0
      · rw [if_pos g] at q; exact absurd q (by decide)
      · by_cases g1 : ok = 1
        · have hz : n / 256 ^ i % 256 ≠ 0 := fun q => g ⟨g1, q⟩
          refine zn_false (j := i) hi (fun q2 => ?_) hs
          rw [q2] at hz
          exact hz rfl
        · exact h4 (by omega)
theorem zn_I_end {n en ok : Nat} (hn : n < 2 ^ 64) (h : zn_I n 8 en ok) : zr_nmN n = true ↔ ok = 1 ∧ 0 < en := by
  obtain ⟨h1, h2, h3, h4⟩ := h
  constructor
  · intro h
    have hok : ok = 1 := by
      by_cases g : ok = 0
      · rw [h4 g] at h; exact absurd h (by decide)
      · omega
    refine ⟨hok, ?_⟩
    rcases Nat.eq_zero_or_pos en with g | g
    · exfalso
      have hz := zn_zero hn 8 0 rfl (fun t _ ht => (h3 hok).2 t (by omega) ht)
      rw [Nat.pow_zero, Nat.div_one] at hz
      rw [hz] at h
      exact absurd h (by decide)
    · exact g
  · rintro ⟨hok, hen⟩
    refine zn_true (fun q => ?_) (fun j hj => ?_)
    · have := (h3 hok).1 0 hen
      rw [q] at this
      exact absurd this (by decide)
    · by_cases g : j < en
      · exact Or.inr ((h3 hok).1 j g)
      · exact Or.inl (zn_zero hn (8 - j) j (by omega) (fun t q1 q2 => (h3 hok).2 t (by omega) q2))
theorem zn_m_loop (hx : p.tables.exec = Jvm.exec) (hb : c.code = prog_14_method_13_code) (hml : c.maxLocals = 7) (hts : ∀ w ∈ zk_T, w.before args s = true) (hown : s.vm.findClass "StubHouseModel" = some m.cls) (hfr : 1 ≤ R.frames) (hlo : 30 ≤ R.locals) (hu : u ≤ R.cells) (hw : w ≤ R.slots) {n : Nat} (hn : n < 2 ^ 64)
    (kk : ∀ (v : Nat) (ls : Array Slot), v = (if zr_nmN n = true then 1 else 0) → W p l e R s m args below meth c H locs u w Q (F0 m 127 ls [.int (nI v)])) :
    ∀ (k i en ok : Nat) (ls : Array Slot), i + k = 8 → zn_I n i en ok → lv_has ls 7 [(4, .int (nI i)), (3, .int (nI ok)), (2, .int (nI en)), (0, .long (lN n))] → W p l e R s m args below meth c H locs u w Q (F0 m 7 ls []) := by
  intro k
  induction k with
  | zero =>
    intro i en ok ls hi hI hl
    have hi : i = 8 := hi
    subst hi
    have hE := zn_I_end hn hI
    obtain ⟨i1, i2, -, -⟩ := hI
    have K0 : ¬ (ok = 1 ∧ 0 < en) → W p l e R s m args below meth c H locs u w Q (F0 m 126 ls []) := fun g => by
      refine lv_iconst (v := nI 0) (n := 0) hx hb (by decide +kernel) (by decide) ?_
      exact kk 0 ls (by rw [if_neg (mt hE.mp g)])
    refine lv_iload hx hb (by decide +kernel) (lv_at hl 0 rfl) ?_
    refine lv_bipush (v := nI 8) (n := 8) hx hb (by decide +kernel) (by decide) ?_
    refine lv_icmp_ge (tgt := 114) (off := 103) hx hb (by decide +kernel) (by decide) (fun _ => ?_) (fun q => absurd (Int32.le_refl _) q)
    refine lv_iload_n hx hb (k := 3) (by decide +kernel) rfl (lv_at hl 1 rfl) ?_
    refine lv_if_eq (tgt := 126) (off := 11) hx hb (by decide +kernel) (by decide) (fun g => ?_) (fun g => ?_)
    · refine K0 (fun q => ?_)
      rw [q.1] at g; exact absurd g (by decide)
    have h1 : ok = 1 := by
      by_cases h9 : ok = 0
      · rw [h9] at g; exact absurd nI_0 g
      · omega
    refine lv_iload_n hx hb (k := 2) (by decide +kernel) rfl (lv_at hl 2 rfl) ?_
    refine lv_if_le (tgt := 126) (off := 7) hx hb (by decide +kernel) (by decide) (fun g => ?_) (fun g => ?_)
    · exact K0 (fun q => absurd g (nI_nle q.2 (by omega)))
    have h2 : 0 < en := by
      rcases Nat.eq_zero_or_pos en with h9 | h9
      · rw [h9] at g; exact absurd (by decide) g
      · exact h9
    refine lv_iconst (v := nI 1) (n := 1) hx hb (by decide +kernel) (by decide) ?_
    refine lv_goto (tgt := 127) (off := 4) hx hb (by decide +kernel) (by decide) ?_
    exact kk 1 ls (by rw [if_pos (hE.mpr ⟨h1, h2⟩)])
  | succ k ih =>
    intro i en ok ls hi hI hl
    have hin : i < 8 := by omega
    have hst := zn_I_step hin hI
    obtain ⟨i1, i2, -, -⟩ := hI
    refine lv_iload hx hb (by decide +kernel) (lv_at hl 0 rfl) ?_
    refine lv_bipush (v := nI 8) (n := 8) hx hb (by decide +kernel) (by decide) ?_
    refine lv_icmp_ge (tgt := 114) (off := 103) hx hb (by decide +kernel) (by decide) (fun q => absurd q (nI_ge hin (by decide))) (fun _ => ?_)
    refine lv_lload_n hx hb (k := 0) (by decide +kernel) rfl (lv_at hl 3 rfl) ?_
    refine lv_bipush (v := nI 8) (n := 8) hx hb (by decide +kernel) (by decide) ?_
    refine lv_iload hx hb (by decide +kernel) (lv_at hl 0 rfl) ?_
    refine lv_imul hx hb (by decide +kernel) ?_
    rw [show nI 8 * nI i = nI (8 * i) from (Int32.ofNat_mul 8 i).symm]
    refine lv_lushr (v := lN (n / 256 ^ i)) hx hb (by decide +kernel) (by rw [zn_shr hn (by omega), zn_256]) ?_
    refine lv_ldc2 (own := "StubHouseModel") (index := 147) (v := lN 255) hx hb hown (hts _ (zk_h_eq (n := 2814) (by decide +kernel) rfl rfl)) (by decide +kernel) ?_
    refine lv_land hx hb (by decide +kernel) ?_
    rw [zn_and]
    refine lv_l2i (v := nI (n / 256 ^ i % 256)) hx hb (by decide +kernel) (lN_i _) ?_
    have hc : n / 256 ^ i % 256 < 256 := Nat.mod_lt _ (by decide)
    generalize n / 256 ^ i % 256 = cb at hst hc ⊢
    refine lv_istore (lv' := [(5, .int (nI cb)), (4, .int (nI i)), (3, .int (nI ok)), (2, .int (nI en)), (0, .long (lN n))]) hx hb (by decide +kernel) hl (by decide) rfl (fun ls hl => ?_)
    refine zn_m_a hx hb hml hts hown hfr hlo hu hw hc hl (fun ls hl => ?_)
    have hf : (if zr_sign cb = true then 1 else 0) < 2 := by split <;> decide
    generalize (if zr_sign cb = true then 1 else 0) = f at hf hst hl
    refine zn_m_b hx hb hc (by omega) (by omega) i2 hf hl (fun ls hl => ?_)
    generalize (if ok = 1 ∧ (f = 1 ∧ en = i ∨ f = 0 ∧ cb = 0) then 1 else 0) = ok2 at hst hl
    refine zn_m_c hx hb hf hl (fun ls hl => ?_)
    generalize (if f = 1 then i + 1 else en) = en2 at hst hl
    refine lv_iinc (k := 4) (v := nI (i + 1)) (lv' := [(4, .int (nI (i + 1))), (2, .int (nI en2)), (3, .int (nI ok2)), (6, .int (nI f)), (5, .int (nI cb)), (0, .long (lN n))]) (n := 1) hx hb (by decide +kernel) hl rfl (nI_1 i) (by decide) rfl (fun ls hl => ?_)
    refine lv_goto (tgt := 7) (off := -104) hx hb (by decide +kernel) (by decide) ?_
    exact ih (i + 1) en2 ok2 ls (by omega) hst (lv_sub hl [0, 2, 1, 5] rfl)
end ZN2
theorem zn_model : zk_nm ⟨"StubHouseModel", "isName", "(J)Z"⟩ prog_14_method_13_code 7 := by
  intro l x
  refine Met.ofW (cc := prog_14_method_13_code) (maxL := 7) (ret := some .boolean) (by decide) rfl ?_
  intro p e s m args below meth c s₁ B hml hv
  obtain ⟨rfl, -⟩ := hv
  have hx := B.exec
  have hb := B.bytes
  have hr := B.returns
  have hts := atoms_spec (ws := Cond.code ⟨"StubHouseModel", "isName", "(J)Z"⟩ prog_14_method_13_code 7 (some .boolean) :: zk_T) B.pre
  have hown : s.vm.findClass "StubHouseModel" = some m.cls := findClass_of_methodNamed B.named
  have hlocks : meth.locks = false := B.notSynchronized
  have hl := lv_entry ([.long x]) (n := 7) (Nat.le_of_ble_eq_true rfl)
  rw [lg_entry_eq]
  generalize (lg_sl ([.long x]) ++ List.replicate (7 - (lg_sl ([.long x])).length) Slot.unset).toArray = ls at hl ⊢
  have hl : lv_has ls 7 [(0, .long x)] := hl
  have hn : x.toBitVec.toNat < 2 ^ 64 := x.toBitVec.isLt
  refine lv_iconst (v := nI 0) (n := 0) hx hb (by decide +kernel) (by decide) ?_
  refine lv_istore_n (k := 2) (lv' := [(2, .int (nI 0)), (0, .long x)]) hx hb (by decide +kernel) rfl hl (by decide) rfl (fun ls hl => ?_)
  refine lv_iconst (v := nI 1) (n := 1) hx hb (by decide +kernel) (by decide) ?_
  refine lv_istore_n (k := 3) (lv' := [(3, .int (nI 1)), (2, .int (nI 0)), (0, .long x)]) hx hb (by decide +kernel) rfl hl (by decide) rfl (fun ls hl => ?_)
  refine lv_iconst (v := nI 0) (n := 0) hx hb (by decide +kernel) (by decide) ?_
  refine lv_istore (lv' := [(4, .int (nI 0)), (3, .int (nI 1)), (2, .int (nI 0)), (0, .long x)]) hx hb (by decide +kernel) hl (by decide) rfl (fun ls hl => ?_)
  refine zn_m_loop hx hb hml (fun w hw => hts w (List.mem_cons_of_mem _ hw)) hown (by decide) (by decide) (by decide) (by decide) hn ?_ 8 0 0 1 ls rfl ⟨by decide, by decide, fun _ => ⟨fun j hj => absurd hj (Nat.not_lt_zero j), fun j _ hj => absurd hj (Nat.not_lt_zero j)⟩, fun q => absurd q (by decide)⟩ (by rw [← zn_of x]; exact hl)
  intro v ls hv
  refine W.zret hx hb hr ?_ (fun t ht _ => ⟨?_, ht⟩) (fun q h => by cases h) (by decide +kernel)
  · rw [hv]; split <;> decide
  · show Outcome.returned (some (Value.int (nI v))) = Outcome.returned (some (Value.int (if zr_nmN x.toBitVec.toNat = true then 1 else 0)))
    rw [hv]; split <;> rfl
theorem zn_all : ∀ (i : Nat) (y : MethodName) (cc : ByteArray) (mL : Nat), zk_nms[i]? = some (y, cc, mL) → zk_nm y cc mL := by
  intro i y cc mL h
  match i, h with
  | 0, h => cases h; exact zn_tree
  | 1, h => cases h; exact zn_model
  | i + 2, h => simp [zk_nms] at h
end
section
/-! the classes of the worlds -/
noncomputable def zc_cls (C : String) (T : u_T) (N : Nat) (hs : List Nat) : Bool := (List.range N).all (fun k => decide (zk_h (hs.getD k 0) = u_lay C T k))
theorem zc_cls_ok {C : String} {T : u_T} {N : Nat} {hs : List Nat} (h : zc_cls C T N hs = true) : ∀ w ∈ u_ws C T N, w ∈ zk_T := by
  intro w hw
  obtain ⟨k, hk, rfl⟩ := List.mem_map.mp hw
  have h1 := of_decide_eq_true (List.all_eq_true.mp h k hk)
  refine zk_h_in h1 ?_ ?_
  · unfold u_lay; split <;> rfl
  · unfold u_lay; split <;> rfl
theorem zk_h_tbl {n : Nat} {w : Cond} (h : decide (zk_h n = w) = true) (ht : zk_is w = true) : w ∈ lw_tbl := by
  have h := of_decide_eq_true h
  have hne : w ≠ Cond.tt := fun q => by rw [q] at ht; exact absurd ht (by decide)
  have h1 := zx_N_some h hne
  have hl : zx_N [] zk_tab (n / 400) ≠ [] := fun q => by rw [q] at h1; simp at h1
  have h2 := zx_N_some (rfl : zx_N [] zk_tab (n / 400) = _) hl
  exact zk_tab_in _ (List.mem_of_getElem? h2) _ (List.mem_of_getElem? h1)
set_option maxRecDepth 20000 in
theorem zc_X0 : zc_cls RX0 TX0 5 [423, 425, 427, 429, 431] = true := by decide +kernel
set_option maxRecDepth 20000 in
theorem zc_X2 : zc_cls RX2 TX2 9 [513, 515, 517, 519, 521, 523, 525, 527, 529] = true := by decide +kernel
set_option maxRecDepth 20000 in
theorem zc_X3 : zc_cls RX3 TX3 11 [217, 219, 221, 223, 225, 227, 229, 231, 233, 235, 237] = true := by decide +kernel
set_option maxRecDepth 20000 in
theorem zc_X4 : zc_cls RX4 TX4 11 [849, 851, 853, 855, 857, 859, 861, 863, 865, 867, 869] = true := by decide +kernel
set_option maxRecDepth 20000 in
theorem zc_X5 : zc_cls RX5 TX5 13 [104, 106, 108, 110, 112, 114, 116, 118, 120, 122, 124, 126, 128] = true := by decide +kernel
set_option maxRecDepth 20000 in
theorem zc_X6 : zc_cls RX6 TX6 17 [608, 610, 612, 614, 616, 584, 586, 588, 590, 592, 594, 596, 598, 600, 602, 604, 606] = true := by decide +kernel
set_option maxRecDepth 20000 in
theorem zc_X7 : zc_cls RX7 TX7 5 [183, 185, 187, 189, 191] = true := by decide +kernel
set_option maxRecDepth 20000 in
theorem zc_X8 : zc_cls RX8 TX8 10 [474, 476, 478, 480, 482, 484, 486, 488, 490, 492] = true := by decide +kernel
set_option maxRecDepth 20000 in
theorem zc_X9 : zc_cls RX9 TX9 5 [155, 157, 159, 161, 163] = true := by decide +kernel
set_option maxRecDepth 20000 in
theorem zc_X10 : zc_cls RX10 TX10 17 [822, 823, 824, 825, 826, 638, 800, 802, 804, 806, 808, 810, 812, 814, 816, 818, 820] = true := by decide +kernel
set_option maxRecDepth 20000 in
theorem zc_X11 : zc_cls RX11 TX11 11 [883, 885, 887, 889, 891, 893, 895, 897, 899, 901, 903] = true := by decide +kernel
set_option maxRecDepth 20000 in
theorem zc_X12 : zc_cls RX12 TX12 57 [2519, 2521, 2523, 2525, 2527, 2529, 2531, 2533, 2535, 2537, 2539, 2541, 2543, 2545, 2547, 2549, 2551, 2553, 2555, 2557, 2559, 2561, 2563, 2565, 2567, 2569, 2571, 2573, 2575, 2577, 2579, 2581, 2583, 2585, 2587, 2589, 2591, 2593, 2595, 2597, 2599, 2601, 2603, 2605, 2607, 2609, 2611, 2613, 2615, 2617, 2619, 2621, 2623, 2625, 2627, 2629, 2631] = true := by decide +kernel
theorem zk_C_ok : zk_C := by
  intro ci C T N h
  match ci, h with
  | 0, h => cases h; exact ⟨zc_cls_ok zc_X0, tyX0, tyX0_ok, nmX0⟩
  | 1, h => cases h; exact ⟨zc_cls_ok zc_X2, tyX2, tyX2_ok, nmX2⟩
  | 2, h => cases h; exact ⟨zc_cls_ok zc_X3, tyX3, tyX3_ok, nmX3⟩
  | 3, h => cases h; exact ⟨zc_cls_ok zc_X4, tyX4, tyX4_ok, nmX4⟩
  | 4, h => cases h; exact ⟨zc_cls_ok zc_X5, tyX5, tyX5_ok, nmX5⟩
  | 5, h => cases h; exact ⟨zc_cls_ok zc_X6, tyX6, tyX6_ok, nmX6⟩
  | 6, h => cases h; exact ⟨zc_cls_ok zc_X7, tyX7, tyX7_ok, nmX7⟩
  | 7, h => cases h; exact ⟨zc_cls_ok zc_X8, tyX8, tyX8_ok, nmX8⟩
  | 8, h => cases h; exact ⟨zc_cls_ok zc_X9, tyX9, tyX9_ok, nmX9⟩
  | 9, h => cases h; exact ⟨zc_cls_ok zc_X10, tyX10, tyX10_ok, nmX10⟩
  | 10, h => cases h; exact ⟨zc_cls_ok zc_X11, tyX11, tyX11_ok, nmX11⟩
  | 11, h => cases h; exact ⟨zc_cls_ok zc_X12, tyX12, tyX12_ok, nmX12⟩
  | i + 12, h => simp [vwCl] at h
theorem zk_inst : ∀ (ci : Nat) (q : vw_C), vwCl[ci]? = some q → ∃ n, Cond.instantiable q.1 n ∈ lw_tbl := by
  intro ci q h
  match ci, h with
  | 0, h => cases h; exact ⟨5, zk_h_tbl (n := 402) (by decide +kernel) rfl⟩
  | 1, h => cases h; exact ⟨9, zk_h_tbl (n := 435) (by decide +kernel) rfl⟩
  | 2, h => cases h; exact ⟨11, zk_h_tbl (n := 195) (by decide +kernel) rfl⟩
  | 3, h => cases h; exact ⟨11, zk_h_tbl (n := 829) (by decide +kernel) rfl⟩
  | 4, h => cases h; exact ⟨13, zk_h_tbl (n := 33) (by decide +kernel) rfl⟩
  | 5, h => cases h; exact ⟨17, zk_h_tbl (n := 533) (by decide +kernel) rfl⟩
  | 6, h => cases h; exact ⟨5, zk_h_tbl (n := 167) (by decide +kernel) rfl⟩
  | 7, h => cases h; exact ⟨10, zk_h_tbl (n := 442) (by decide +kernel) rfl⟩
  | 8, h => cases h; exact ⟨5, zk_h_tbl (n := 26) (by decide +kernel) rfl⟩
  | 9, h => cases h; exact ⟨17, zk_h_tbl (n := 620) (by decide +kernel) rfl⟩
  | 10, h => cases h; exact ⟨11, zk_h_tbl (n := 18) (by decide +kernel) rfl⟩
  | 11, h => cases h; exact ⟨57, zk_h_tbl (n := 2448) (by decide +kernel) rfl⟩
  | i + 12, h => simp [vwCl] at h
theorem zk_N_of {a : Array Value} {s : State} (hts : ∀ w ∈ lw_tbl, w.before a s = true) : zk_N s := ⟨va_Nw.of rfl (hts _ (zk_h_tbl (n := 443) (by decide +kernel) rfl)), va_Nw.of rfl (hts _ (zk_h_tbl (n := 537) (by decide +kernel) rfl)), va_Nw.of rfl (hts _ (zk_h_tbl (n := 624) (by decide +kernel) rfl)), va_AO.of (hts _ (zk_h_tbl (n := 32) (by decide +kernel) rfl)), va_AO.of (hts _ (zk_h_tbl (n := 441) (by decide +kernel) rfl))⟩
theorem zk_G_of {a : Array Value} {s : State} (hts : ∀ w ∈ lw_tbl, w.before a s = true) : ∃ G : va_G, va_K G vwCl [] s := by
  have hex : ∀ c : Nat, ∃ (cC : ClassId) (iS : Nat → Nat), ∀ q : vw_C, vwCl[c]? = some q → u_Kn s q.1 q.2.1 q.2.2 cC iS := by
    intro c
    cases hc : vwCl[c]? with
    | none => exact ⟨0, fun _ => 0, fun q h => by cases h⟩
    | some q =>
      obtain ⟨n, hn⟩ := zk_inst c q hc
      obtain ⟨C, T, N⟩ := q
      obtain ⟨cC, iS, h⟩ := u_known (C := C) (T := T) (N := N) (n := n) hts (fun w hw => (List.mem_filter.mp ((zk_C_ok c C T N hc).1 w hw)).1) (hts _ hn)
      exact ⟨cC, iS, fun q hq => by cases hq; exact h⟩
  refine ⟨(fun c => Classical.choose (hex c), fun c => Classical.choose (Classical.choose_spec (hex c))), fun c q hq => ?_, fun k q h => by simp at h⟩
  exact Classical.choose_spec (Classical.choose_spec (hex c)) q hq
end
section
/-! THE CLAIM OUT OF ONE WALK OF THE LAW'S BODY. Your part is whole_start (and what it stands on); all else here is the same for every law, but numbers. -/
def R_law : String := "StubHouseLaw"
def lw_P (b : Addr) (xs : List Int32) (args : Array Value) (s : State) : Prop := args = #[.ref b] ∧ s.IntsAt b xs ∧ xs.length ≤ 5 ∧ (Jvm.Cond.and given_1 narrow_1).before args s = true
def lw_Q (_ : Array Value) (s : State) (o : Outcome) (t : State) : Prop := o = .returned (some (.int 1)) ∧ Framed s o t [] 600000 7302250
def lw_Z (below : List Frame) (a : Array Value) (s : State) : State → Prop := fun t => ∃ o, t.status = .running ∧ Ended t below o ∧ lw_Q a s o t
/-- the law's own end, with 1 on the stack, nothing written that was there before, its room as the claim has it -/
theorem lw_ret {p : Program} {l : Launch} {e : Env} {s : State} {m : MethodId} {below : List Frame} {meth : Method} {c : Code} {b : Nat} (hx : p.tables.exec = Jvm.exec) (hb : c.code = code) (hr : meth.sig.returnType = ret) (hlocks : meth.locks = false) {pc : Nat} {H : Heap} {ls : Array Slot} (hdg : decode code pc = .ok (.ireturn, 1)) : W p l e room_1 s m #[Value.ref b] below meth c H [] 600000 7302250 (lw_Z below #[Value.ref b] s) (F0 m pc ls [.int 1]) := by
  intro T hT X
  obtain ⟨fs, hret, hrun, hended, hW, hframe⟩ := X.leave (v := some (.int 1)) (hlocks := hlocks) (fun h => by rw [hr] at h; cases h)
  have hmeth' : T.vm.method? m = some meth := X.method'
  refine ⟨T.setFrames fs, ?_, .returned (some (.int 1)), hrun, hended, rfl, ⟨_, rfl⟩, hW, hframe⟩
  jvm_step X.here [X.here.top, hx, hb, hdg, hmeth', hr, ret, narrow_b1]
  (try refine ⟨rfl, ?_⟩); (try refine ⟨rfl, ?_⟩)
  first | (intro acts; rw [hret _ acts rfl rfl rfl]) | rw [hret _ _ rfl rfl rfl]
  exact Steps.refl _
/-- what holds at the law's entry: the machine, the code, the tables' words (any of lw_tbl by 'hts w (by decide +kernel)'), the script of L ints xs at the cell b, what the Statement gives of the start (any of its parts by flat_of_before) -/
def lw_At (p : Program) (s : State) (m : MethodId) (meth : Method) (c : Code) (b L : Nat) (xs : Nat → Int32) : Prop :=
  p.tables.exec = Jvm.exec ∧ c.code = code ∧ meth.sig.returnType = ret ∧ c.maxLocals = 4 ∧ s.vm.findClass R_law = some m.cls ∧ (∀ w ∈ lw_tbl, w.before #[Value.ref b] s = true) ∧ va_X b L xs s s.heap ∧ b < s.heap.size ∧ meth.locks = false ∧ (Jvm.Cond.and given_1 narrow_1).before #[Value.ref b] s = true
theorem zx_k18_ok {pc u w : Nat} {lv : zxLV} {stk : List Nat} {hp : zxHP} {st : zxST} (h : zx_k18 pc lv stk hp st u w = true) : pc = 18 ∧ lv = zx_lv0 ∧ stk = [] ∧ hp = zx_h0 ∧ st = [] ∧ u ≤ 1142 ∧ w ≤ 666482 := by
  obtain ⟨h1, h⟩ := Bool.and_eq_true_iff.mp (show and _ _ = true from h)
  obtain ⟨h2, h⟩ := Bool.and_eq_true_iff.mp h
  obtain ⟨h3, h⟩ := Bool.and_eq_true_iff.mp h
  obtain ⟨h4, h⟩ := Bool.and_eq_true_iff.mp h
  obtain ⟨h5, h⟩ := Bool.and_eq_true_iff.mp h
  obtain ⟨h6, h7⟩ := Bool.and_eq_true_iff.mp h
  refine ⟨Nat.eq_of_beq_eq_true h1, of_decide_eq_true h2, ?_, @of_decide_eq_true _ (zx_de5 hp zx_h0) h4, ?_, Nat.le_of_ble_eq_true h6, Nat.le_of_ble_eq_true h7⟩
  · rcases stk with _ | ⟨x, r⟩
    · rfl
    · exact absurd h3 Bool.false_ne_true
  · rcases st with _ | ⟨x, r⟩
    · rfl
    · exact absurd h5 Bool.false_ne_true
theorem zx_k32_ok {pc u w : Nat} {lv : zxLV} {stk : List Nat} {hp : zxHP} {st : zxST} (h : zx_k32 pc lv stk hp st u w = true) : pc = 32 ∧ lv = zx_lv0 ∧ (∃ k, k < 32 ∧ stk = [8 * k]) ∧ hp = zx_h0 ∧ st = [] ∧ u ≤ 1142 ∧ w ≤ 666482 := by
  obtain ⟨h1, h⟩ := Bool.and_eq_true_iff.mp (show and _ _ = true from h)
  obtain ⟨h2, h⟩ := Bool.and_eq_true_iff.mp h
  obtain ⟨h3, h⟩ := Bool.and_eq_true_iff.mp h
  obtain ⟨h4, h⟩ := Bool.and_eq_true_iff.mp h
  obtain ⟨h5, h⟩ := Bool.and_eq_true_iff.mp h
  obtain ⟨h6, h7⟩ := Bool.and_eq_true_iff.mp h
  refine ⟨Nat.eq_of_beq_eq_true h1, of_decide_eq_true h2, ?_, @of_decide_eq_true _ (zx_de5 hp zx_h0) h4, ?_, Nat.le_of_ble_eq_true h6, Nat.le_of_ble_eq_true h7⟩
  · rcases stk with _ | ⟨x, _ | ⟨x2, r⟩⟩
    · exact absurd h3 Bool.false_ne_true
    · obtain ⟨g1, g2⟩ := zx_an h3
      have g1 := zx_beq.mp g1
      have g2 := zx_blt.mp g2
      exact ⟨x / 8, g2, by rw [show 8 * (x / 8) = x by omega]⟩
    · exact absurd h3 Bool.false_ne_true
  · rcases st with _ | ⟨x, r⟩
    · rfl
    · exact absurd h5 Bool.false_ne_true
theorem zv_case (k : Nat) (hk : k < 32) : zx_run zx_ms zx_pr 200000 9999 ztb_law 13 554 600000 7302250 6 99999 zx_kl zx_kn 32 zx_lv0 [8 * k] zx_h0 [] 1142 666482 = true := by
  match k, hk with
  | 0, _ => exact zv_c0
  | 1, _ => exact zv_c1
  | 2, _ => exact zv_c2
  | 3, _ => exact zv_c3
  | 4, _ => exact zv_c4
  | 5, _ => exact zv_c5
  | 6, _ => exact zv_c6
  | 7, _ => exact zv_c7
  | 8, _ => exact zv_c8
  | 9, _ => exact zv_c9
  | 10, _ => exact zv_c10
  | 11, _ => exact zv_c11
  | 12, _ => exact zv_c12
  | 13, _ => exact zv_c13
  | 14, _ => exact zv_c14
  | 15, _ => exact zv_c15
  | 16, _ => exact zv_c16
  | 17, _ => exact zv_c17
  | 18, _ => exact zv_c18
  | 19, _ => exact zv_c19
  | 20, _ => exact zv_c20
  | 21, _ => exact zv_c21
  | 22, _ => exact zv_c22
  | 23, _ => exact zv_c23
  | 24, _ => exact zv_c24
  | 25, _ => exact zv_c25
  | 26, _ => exact zv_c26
  | 27, _ => exact zv_c27
  | 28, _ => exact zv_c28
  | 29, _ => exact zv_c29
  | 30, _ => exact zv_c30
  | 31, _ => exact zv_c31
  | k + 32, h => exact absurd h (by omega)
theorem zv_len (k : Nat) (hk : k < 5) : zx_run zx_ms zx_pr 200000 9999 ztb_law 13 554 600000 7302250 (k + 1) 99999 zx_kl zx_kn 18 zx_lv0 [] zx_h0 [] 1142 666482 = true := by
  match k, hk with
  | 0, _ => exact zv_l0
  | 1, _ => exact zv_l1
  | 2, _ => exact zv_l2
  | 3, _ => exact zv_l3
  | 4, _ => exact zv_l4
  | k + 5, h => exact absurd h (by omega)
/-- from the entry, for every script of at most 5 ints, the law comes to its end with true -/
theorem whole_start {p : Program} {e : Env} {s : State} {m : MethodId} {below : List Frame} {meth : Method} {c : Code} (l : Launch) {b L : Nat} {xs : Nat → Int32} (hL : L ≤ 5) (C0 : lw_At p s m meth c b L xs) : W p l e room_1 s m #[Value.ref b] below meth c s.heap [] 0 0 (lw_Z below #[Value.ref b] s) (entryFrame m ([Value.ref b] : List Value).toArray 4) := by
  obtain ⟨hx, hb, hr, hml, hown, hts, hX, hbl, hlocks, hgv⟩ := id C0
  obtain ⟨G, hK⟩ := zk_G_of hts
  have hP : va_P G vwCl [] s.heap := fun k q h => by simp at h
  have hD : va_D (fun q : Nat => s.heap.size ≤ q) [] := ⟨fun i j p q h => by simp at h, fun k q h => by simp at h⟩
  have hbA : ¬ (fun q : Nat => s.heap.size ≤ q) b := Nat.not_le.mpr hbl
  have hl := lv_entry ([.ref b]) (n := 4) (Nat.le_of_ble_eq_true rfl)
  rw [lg_entry_eq]
  generalize (lg_sl ([.ref b]) ++ List.replicate (4 - (lg_sl ([.ref b])).length) Slot.unset).toArray = ls at hl ⊢
  have hl : lv_has ls 4 [(0, .ref b)] := hl
  have IH := zx_ok zk_C_ok (zk_MS_ok zn_all) (zk_Ps_ok zk_C_ok) l G 200000 xs
  have hro := zk_law_ro zn_all
  have hCx : zk_Cx p s m #[Value.ref b] meth c (fun q : Nat => s.heap.size ≤ q) ⟨"StubHouseLaw", "law", "([I)Z"⟩ code 4 := ⟨hx, hb, hml, hown, fun w hw => hts w (List.mem_filter.mp hw).1, fun q => absurd q (by decide), fun _ h => h, zk_N_of hts⟩
  have hR : room_1.frames = 13 ∧ room_1.locals = 554 ∧ room_1.cells = 600000 ∧ room_1.slots = 7302250 := ⟨rfl, rfl, rfl, rfl⟩
  have hret : zk_ret p l e room_1 s m #[Value.ref b] below meth c (lw_Z below #[Value.ref b] s) G xs (b, []) (fun q : Nat => s.heap.size ≤ q) code (some .boolean) 600000 7302250 zx_kl := by
    intro r hp st u w pc ls vs H locs as hk hu hw hσ hS hHP hend
    have hk : r = 8 := Nat.eq_of_beq_eq_true hk
    subst hk
    rcases hend with ⟨q, -⟩ | ⟨-, x, rfl, hv, -, hd⟩ | ⟨-, x, rfl, hv, -⟩
    · exact absurd q (by decide)
    · have hv := (zr_0 rfl).mp hv
      rw [hv]
      exact va_forget hS.2.2 (W.widen (k := 600000) (n := 7302250) hu hw (lw_ret hx hb hr hlocks hd))
    · have hv := (zr_0 rfl).mp hv
      cases hv
  have hkn : zr_KK p l e room_1 s m #[Value.ref b] below meth c (lw_Z below #[Value.ref b] s) G xs (b, []) (fun q : Nat => s.heap.size ≤ q) 4 zx_kn := fun _ _ _ _ _ _ _ _ _ _ _ q => absurd q Bool.false_ne_true
  have hscr : zk_scr s xs (b, []) (fun q : Nat => s.heap.size ≤ q) (L + 1) := fun _ => ⟨L, xs, rfl, by omega, hX, hbl, hbA, fun _ _ => rfl⟩
  refine IH p e room_1 s m #[Value.ref b] below meth c (lw_Z below #[Value.ref b] s) (b, []) (fun q : Nat => s.heap.size ≤ q) 9999 ⟨"StubHouseLaw", "law", "([I)Z"⟩ code 4 (some .boolean) ztb_law 13 554 600000 7302250 0 18 zx_kl zx_k18 0 [(0, 10)] [] (0, []) [] 0 0 s.heap [] ls [] zv_e hro hCx hR (Nat.zero_le _) (Nat.zero_le _) (fun q => absurd rfl q) hret ?_ ⟨fun q h => (List.not_mem_nil h).elim, va_S.rf, [], ⟨[], [], hK, ⟨rfl, rfl, fun k hk => absurd hk (Nat.not_lt_zero k), List.prefix_refl []⟩, hP, hD⟩, ⟨_, hl, ⟨rfl, (zr_2' rfl).mpr (Or.inr ⟨rfl, rfl⟩)⟩, trivial⟩, trivial⟩
  intro pc lv stk hp st u w H locs ls vs hk rr
  obtain ⟨e1, e2, e3, e4, e5, e6, e7⟩ := zx_k18_ok hk
  subst e1
  subst e2
  subst e3
  subst e4
  subst e5
  refine W.widen (k := 1142) (n := 666482) e6 e7 ?_
  by_cases hL5 : L < 5
  · exact IH p e room_1 s m #[Value.ref b] below meth c (lw_Z below #[Value.ref b] s) (b, []) (fun q : Nat => s.heap.size ≤ q) 9999 ⟨"StubHouseLaw", "law", "([I)Z"⟩ code 4 (some .boolean) ztb_law 13 554 600000 7302250 (L + 1) 99999 zx_kl zx_kn 18 zx_lv0 [] zx_h0 [] 1142 666482 H locs ls vs (zv_len L hL5) hro hCx hR (by decide) (by decide) hscr hret hkn rr
  have hL6 : L + 1 = 6 := by omega
  rw [hL6] at hscr
  refine IH p e room_1 s m #[Value.ref b] below meth c (lw_Z below #[Value.ref b] s) (b, []) (fun q : Nat => s.heap.size ≤ q) 9999 ⟨"StubHouseLaw", "law", "([I)Z"⟩ code 4 (some .boolean) ztb_law 13 554 600000 7302250 6 32 zx_kl zx_k32 18 zx_lv0 [] zx_h0 [] 1142 666482 H locs ls vs zv_18 hro hCx hR (by decide) (by decide) hscr hret ?_ rr
  intro pc lv stk hp st u w H locs ls vs hk rr
  obtain ⟨e1, e2, ⟨k, hk32, e3⟩, e4, e5, e6, e7⟩ := zx_k32_ok hk
  subst e1
  subst e2
  subst e3
  subst e4
  subst e5
  refine W.widen (k := 1142) (n := 666482) e6 e7 ?_
  exact IH p e room_1 s m #[Value.ref b] below meth c (lw_Z below #[Value.ref b] s) (b, []) (fun q : Nat => s.heap.size ≤ q) 9999 ⟨"StubHouseLaw", "law", "([I)Z"⟩ code 4 (some .boolean) ztb_law 13 554 600000 7302250 6 99999 zx_kl zx_kn 32 zx_lv0 [8 * k] zx_h0 [] 1142 666482 H locs ls vs (zv_case k hk32) hro hCx hR (by decide) (by decide) hscr hret hkn rr
set_option maxHeartbeats 4000000 in
theorem lw_walk (l : Launch) (b : Addr) (xs : List Int32) : MetFree l x (headSpec (Jvm.Cond.code x code maxLocals ret :: tables_1) room_1) (lw_P b xs) (fun _ _ _ _ _ => True) lw_Q := by
  refine MetFree.of_bodyS (code := code) (maxLocals := maxLocals) (ret := ret) (by decide) ?_ ?_
  · intro args s m h hn
    obtain ⟨meth, c, h1, h2, h3, h4, h5, h6, -, -⟩ := Cond.code_spec hn (atoms_spec (ws := Jvm.Cond.code x code maxLocals ret :: tables_1) h _ List.mem_cons_self)
    exact ⟨meth, c, h1, h2, h3, h4, h5, h6⟩
  · intro p e s m args below meth c s₁ B hml0 hP _
    obtain ⟨rfl, hx, hbd, hgv⟩ := hP
    obtain ⟨scr, harrAt, hlist, hof, hsmall⟩ := hx
    obtain ⟨hcb, hkn, -, -⟩ := State.arrayAt?_spec harrAt
    have hown : s.vm.findClass R_law = some m.cls := findClass_of_methodNamed B.named
    have hts0 : ∀ c ∈ (Jvm.Cond.code x code maxLocals ret :: tables_1), c.before #[Value.ref b] s = true := atoms_spec (ws := Jvm.Cond.code x code maxLocals ret :: tables_1) B.pre
    have hts : ∀ w ∈ lw_tbl, w.before #[Value.ref b] s = true := k2_hts_sels lw_privs (fun w hw => hts0 w (List.mem_cons_of_mem _ hw)) lw_privs_ok
    have hml : c.maxLocals = 4 := B.maxLocals_eq (hts0 _ List.mem_cons_self)
    have X₀ : Stand p l e room_1 s m #[Value.ref b] below meth c s₁ [] 0 0 := Stand.of_body B
    have hh0 : s₁.heap = s.heap := by rw [B.state]; rfl
    have hsz : scr.slots.size = xs.length := by rw [← Array.length_toList, hlist, List.length_map]
    have hval : ∀ j : Nat, j < xs.length → scr.slots[j]? = some (.int (xs.getD j 0)) := fun j hj => by
      rw [← Array.getElem?_toList, hlist]
      simp [hj]
    have hbl : b < s.heap.size := (Array.getElem?_eq_some_iff.mp hcb).1
    have hX : va_X b xs.length (fun j => xs.getD j 0) s s.heap := ⟨scr, hcb, hof, hkn, hsz, hval⟩
    have K : W p l e room_1 s m #[Value.ref b] below meth c s₁.heap [] 0 0 (lw_Z below #[Value.ref b] s) (entryFrame m ([Value.ref b] : List Value).toArray 4) := by
      rw [hh0]
      exact whole_start l hbd ⟨B.exec, B.bytes, B.returns, hml, hown, hts, hX, hbl, B.notSynchronized, hgv⟩
    obtain ⟨t, a1, o, b1, b2, b3⟩ := K s₁ rfl X₀
    exact ⟨t, o, a1, b1, b2, b3⟩
theorem lw_pre_spec {args : Array Value} {s : State} (h : (Jvm.Cond.and given_1 narrow_1).before args s = true) (hr : rest_1_c.before args s = true) : ∃ (b : Addr) (xs : List Int32), lw_P b xs args s := by
  have hs := flat_of_before _ h
  have hq := flat_of_before _ hr
  have hc : (Cond.count 1).before args s = true := hs _ (by decide +kernel)
  have harr : (Cond.arrayOf (.arg 0) .int).before args s = true := hs _ (by decide +kernel)
  have hle : (Cond.le (.length (.arg 0)) (.int 5)).before args s = true := hs _ (by decide +kernel)
  have hlen : (Cond.isInt (.length (.arg 0))).before args s = true := hq _ (by decide +kernel)
  have hall : (Cond.all (.arg 0) (.isInt (.elem (.arg 0) (.index 0)))).before args s = true := hq _ (by decide +kernel)
  obtain ⟨b, xs, hb, hx⟩ := State.ints_of_pre rfl harr hlen hall
  have hsm : xs.length < 2 ^ 31 := hx.choose_spec.2.2.2
  have hev : (Term.length (.arg 0)).eval args s none [] s = some (.int xs.length.toInt32) := hx.length_eval hb
  have hv := Cond.le_ints hev (show (Term.int 5).eval args s none [] s = some (.int 5) from rfl)
  have hd : xs.length.toInt32 ≤ 5 := by
    simpa [Cond.before, Cond.holds, hv] using hle
  have hN : xs.length ≤ 5 := (Int32.ofNat_le_ofNat hsm (by decide)).mp (show Int32.ofNat xs.length ≤ Int32.ofNat 5 from hd)
  exact ⟨b, xs, Cond.one_arg hc (show args[0]? = some (.ref b) from hb), hx, hN, h⟩
theorem lw_comes (l : Launch) : Comes l x (Jvm.Cond.code x code maxLocals ret :: tables_1) room_1 (fun tb e args s => Calls_1 tb e args s ∧ rest_1 tb e args s ∧ Pre_1 tb e args s)
    (fun _ _ args s o t => lw_Q args s o t) := by
  intro p e ha hc hk s m args below hf hfit hheap happ hpre
  obtain ⟨b, xs, hP⟩ := lw_pre_spec hpre.2.2 hpre.2.1
  obtain ⟨k, o, h1, h2, h3, hQ⟩ := lw_walk l b xs p e ha hc hk s m args below hf ((Spec.applies_iff_loose hf).mp happ).1 hP trivial
  exact ⟨k, o, h1, h2, h3, hQ⟩
theorem lw_frame {s t : State} {o : Outcome} {args : Array Value} (h : Framed s o t [] 600000 7302250) :
    Framed s o t (fieldLocs frame_1_writes args s ++ arrayLocs frame_1_arrays args s ++ staticLocs frame_1_statics s) 600000 7302250 := h
theorem lw_limb (L : Cond) (hL : ∀ (args : Array Value) (s t : State), L.after args s (.returned (some (.int 1))) t = true) :
    ArmFor flags0 classFile x code maxLocals ret World_1 tables_1 room_1 Calls_1 rest_1 Pre_1
      (fun tb e a s o t => postC L tb e a s o t ∧ Framed s o t (fieldLocs frame_1_writes a s ++ arrayLocs frame_1_arrays a s ++ staticLocs frame_1_statics s) 600000 7302250) := by
  intro l _ _ _ p e ha hc hk s m args below hf hfit hheap happ hpre
  obtain ⟨k, o, h1, h2, h3, rfl, hF⟩ := lw_comes l p e ha hc hk s m args below hf hfit hheap happ hpre
  exact ⟨k, _, h1, h2, h3, hL args s _, lw_frame hF⟩
theorem i_vc : Claimed_1_1 ∧ Claimed_1_2 := ⟨lw_limb limb_1_1 (fun args s t => by simp [limb_1_1, Cond.after, Cond.holds, Cond.value]), lw_limb limb_1_2 (fun args s t => Cond.after_iff.mpr (by
  first | (rw [show limb_1_2 = Cond.eq .result (.int 1) from rfl, Cond.eq_ints (x := 1) (y := 1) rfl rfl]; simp; done) | (simp [limb_1_2, Cond.value, Term.eval]; done)))⟩
end
