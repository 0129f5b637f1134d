section
-- ===== PART A: goes FIRST, ahead of the names: the tables' words, and 'selects' of the private methods out of them =====
/-- a private method of a class that the tables say can be made, by its rows of tables_1 -/
def lw_okq (q : MethodName × Nat) : Prop := (q.1.cls ≠ "java/lang/invoke/MethodHandle" ∧ q.1.cls ≠ "java/lang/invoke/VarHandle") ∧ Cond.instantiable q.1.cls q.2 ∈ tables_1 ∧ Cond.privateMethod q.1 ∈ tables_1 ∧ Cond.instanceMethod q.1 ∈ tables_1
theorem lw_p0 : lw_okq (⟨"StubHouse$Log", "noteDelete", "(I)V"⟩, 11) := ⟨⟨by decide +kernel, by decide +kernel⟩, List.mem_of_getElem? (i := 195) (by decide +kernel), List.mem_of_getElem? (i := 639) (by decide +kernel), List.mem_of_getElem? (i := 640) (by decide +kernel)⟩
theorem lw_p1 : lw_okq (⟨"StubHouse$Log", "deletePlace", "(I)I"⟩, 11) := ⟨⟨by decide +kernel, by decide +kernel⟩, List.mem_of_getElem? (i := 195) (by decide +kernel), List.mem_of_getElem? (i := 643) (by decide +kernel), List.mem_of_getElem? (i := 644) (by decide +kernel)⟩
theorem lw_p2 : lw_okq (⟨"StubHouse$Log", "forgetDelete", "(I)V"⟩, 11) := ⟨⟨by decide +kernel, by decide +kernel⟩, List.mem_of_getElem? (i := 195) (by decide +kernel), List.mem_of_getElem? (i := 647) (by decide +kernel), List.mem_of_getElem? (i := 648) (by decide +kernel)⟩
theorem lw_p3 : lw_okq (⟨"StubHouse", "mustWriteDelete", "(I)Z"⟩, 11) := ⟨⟨by decide +kernel, by decide +kernel⟩, List.mem_of_getElem? (i := 18) (by decide +kernel), List.mem_of_getElem? (i := 672) (by decide +kernel), List.mem_of_getElem? (i := 673) (by decide +kernel)⟩
theorem lw_p4 : lw_okq (⟨"StubHouse$Tape", "isSegmentAt", "(I)Z"⟩, 10) := ⟨⟨by decide +kernel, by decide +kernel⟩, List.mem_of_getElem? (i := 282) (by decide +kernel), List.mem_of_getElem? (i := 688) (by decide +kernel), List.mem_of_getElem? (i := 689) (by decide +kernel)⟩
theorem lw_p5 : lw_okq (⟨"StubHouse$Tape", "isGivenAt", "(I)Z"⟩, 10) := ⟨⟨by decide +kernel, by decide +kernel⟩, List.mem_of_getElem? (i := 282) (by decide +kernel), List.mem_of_getElem? (i := 700) (by decide +kernel), List.mem_of_getElem? (i := 701) (by decide +kernel)⟩
theorem lw_p6 : lw_okq (⟨"StubHouse$Tape", "note", "(I)V"⟩, 10) := ⟨⟨by decide +kernel, by decide +kernel⟩, List.mem_of_getElem? (i := 282) (by decide +kernel), List.mem_of_getElem? (i := 724) (by decide +kernel), List.mem_of_getElem? (i := 725) (by decide +kernel)⟩
theorem lw_p7 : lw_okq (⟨"StubHouse$Tape", "hasGoodData", "(I)Z"⟩, 10) := ⟨⟨by decide +kernel, by decide +kernel⟩, List.mem_of_getElem? (i := 282) (by decide +kernel), List.mem_of_getElem? (i := 728) (by decide +kernel), List.mem_of_getElem? (i := 729) (by decide +kernel)⟩
theorem lw_p8 : lw_okq (⟨"StubHouse$Changes", "holdFrom", "(LStubHouse$Node;I)V"⟩, 5) := ⟨⟨by decide +kernel, by decide +kernel⟩, List.mem_of_getElem? (i := 242) (by decide +kernel), List.mem_of_getElem? (i := 751) (by decide +kernel), List.mem_of_getElem? (i := 752) (by decide +kernel)⟩
theorem lw_p9 : lw_okq (⟨"StubHouse$Node", "countHome", "(II)V"⟩, 13) := ⟨⟨by decide +kernel, by decide +kernel⟩, List.mem_of_getElem? (i := 33) (by decide +kernel), List.mem_of_getElem? (i := 766) (by decide +kernel), List.mem_of_getElem? (i := 767) (by decide +kernel)⟩
theorem lw_p10 : lw_okq (⟨"StubHouse$Changes", "forgetRecall", "(I)V"⟩, 5) := ⟨⟨by decide +kernel, by decide +kernel⟩, List.mem_of_getElem? (i := 242) (by decide +kernel), List.mem_of_getElem? (i := 770) (by decide +kernel), List.mem_of_getElem? (i := 771) (by decide +kernel)⟩
theorem lw_p11 : lw_okq (⟨"StubHouse$Changes", "recallPlace", "(I)I"⟩, 5) := ⟨⟨by decide +kernel, by decide +kernel⟩, List.mem_of_getElem? (i := 242) (by decide +kernel), List.mem_of_getElem? (i := 774) (by decide +kernel), List.mem_of_getElem? (i := 775) (by decide +kernel)⟩
theorem lw_p12 : lw_okq (⟨"StubHouse", "askedOfStub", "(I)I"⟩, 11) := ⟨⟨by decide +kernel, by decide +kernel⟩, List.mem_of_getElem? (i := 18) (by decide +kernel), List.mem_of_getElem? (i := 814) (by decide +kernel), List.mem_of_getElem? (i := 815) (by decide +kernel)⟩
theorem lw_p13 : lw_okq (⟨"StubHouse$Changes", "rehouse", "(LStubHouse$Node;II)V"⟩, 5) := ⟨⟨by decide +kernel, by decide +kernel⟩, List.mem_of_getElem? (i := 242) (by decide +kernel), List.mem_of_getElem? (i := 834) (by decide +kernel), List.mem_of_getElem? (i := 835) (by decide +kernel)⟩
theorem lw_p14 : lw_okq (⟨"StubHouse$Changes", "renew", "(LStubHouse$Node;)V"⟩, 5) := ⟨⟨by decide +kernel, by decide +kernel⟩, List.mem_of_getElem? (i := 242) (by decide +kernel), List.mem_of_getElem? (i := 863) (by decide +kernel), List.mem_of_getElem? (i := 864) (by decide +kernel)⟩
theorem lw_p15 : lw_okq (⟨"StubHouse", "aboutFile", "(LStubHouse$Node;I)I"⟩, 11) := ⟨⟨by decide +kernel, by decide +kernel⟩, List.mem_of_getElem? (i := 18) (by decide +kernel), List.mem_of_getElem? (i := 891) (by decide +kernel), List.mem_of_getElem? (i := 892) (by decide +kernel)⟩
def lw_privs_1 : List (MethodName × Nat) := [(⟨"StubHouse$Log", "noteDelete", "(I)V"⟩, 11), (⟨"StubHouse$Log", "deletePlace", "(I)I"⟩, 11), (⟨"StubHouse$Log", "forgetDelete", "(I)V"⟩, 11), (⟨"StubHouse", "mustWriteDelete", "(I)Z"⟩, 11), (⟨"StubHouse$Tape", "isSegmentAt", "(I)Z"⟩, 10), (⟨"StubHouse$Tape", "isGivenAt", "(I)Z"⟩, 10), (⟨"StubHouse$Tape", "note", "(I)V"⟩, 10), (⟨"StubHouse$Tape", "hasGoodData", "(I)Z"⟩, 10), (⟨"StubHouse$Changes", "holdFrom", "(LStubHouse$Node;I)V"⟩, 5), (⟨"StubHouse$Node", "countHome", "(II)V"⟩, 13), (⟨"StubHouse$Changes", "forgetRecall", "(I)V"⟩, 5), (⟨"StubHouse$Changes", "recallPlace", "(I)I"⟩, 5), (⟨"StubHouse", "askedOfStub", "(I)I"⟩, 11), (⟨"StubHouse$Changes", "rehouse", "(LStubHouse$Node;II)V"⟩, 5), (⟨"StubHouse$Changes", "renew", "(LStubHouse$Node;)V"⟩, 5), (⟨"StubHouse", "aboutFile", "(LStubHouse$Node;I)I"⟩, 11)]
theorem lw_r1 : ∀ q ∈ lw_privs_1, lw_okq q := List.forall_mem_cons.mpr ⟨lw_p0, List.forall_mem_cons.mpr ⟨lw_p1, List.forall_mem_cons.mpr ⟨lw_p2, List.forall_mem_cons.mpr ⟨lw_p3, List.forall_mem_cons.mpr ⟨lw_p4, List.forall_mem_cons.mpr ⟨lw_p5, List.forall_mem_cons.mpr ⟨lw_p6, List.forall_mem_cons.mpr ⟨lw_p7, List.forall_mem_cons.mpr ⟨lw_p8, List.forall_mem_cons.mpr ⟨lw_p9, List.forall_mem_cons.mpr ⟨lw_p10, List.forall_mem_cons.mpr ⟨lw_p11, List.forall_mem_cons.mpr ⟨lw_p12, List.forall_mem_cons.mpr ⟨lw_p13, List.forall_mem_cons.mpr ⟨lw_p14, List.forall_mem_cons.mpr ⟨lw_p15, fun _ h => absurd h List.not_mem_nil⟩⟩⟩⟩⟩⟩⟩⟩⟩⟩⟩⟩⟩⟩⟩⟩
theorem lw_p16 : lw_okq (⟨"StubHouse", "howItIs", "(LStubHouse$Node;)I"⟩, 11) := ⟨⟨by decide +kernel, by decide +kernel⟩, List.mem_of_getElem? (i := 18) (by decide +kernel), List.mem_of_getElem? (i := 895) (by decide +kernel), List.mem_of_getElem? (i := 896) (by decide +kernel)⟩
theorem lw_p17 : lw_okq (⟨"StubHouse$Log", "undo", "(I)V"⟩, 11) := ⟨⟨by decide +kernel, by decide +kernel⟩, List.mem_of_getElem? (i := 195) (by decide +kernel), List.mem_of_getElem? (i := 937) (by decide +kernel), List.mem_of_getElem? (i := 938) (by decide +kernel)⟩
theorem lw_p18 : lw_okq (⟨"StubHouse$Log", "claimHomes", "()V"⟩, 11) := ⟨⟨by decide +kernel, by decide +kernel⟩, List.mem_of_getElem? (i := 195) (by decide +kernel), List.mem_of_getElem? (i := 941) (by decide +kernel), List.mem_of_getElem? (i := 942) (by decide +kernel)⟩
theorem lw_p19 : lw_okq (⟨"StubHouse", "stopAll", "()V"⟩, 11) := ⟨⟨by decide +kernel, by decide +kernel⟩, List.mem_of_getElem? (i := 18) (by decide +kernel), List.mem_of_getElem? (i := 955) (by decide +kernel), List.mem_of_getElem? (i := 956) (by decide +kernel)⟩
theorem lw_p20 : lw_okq (⟨"StubHouse$Library", "offer", "(II)V"⟩, 9) := ⟨⟨by decide +kernel, by decide +kernel⟩, List.mem_of_getElem? (i := 275) (by decide +kernel), List.mem_of_getElem? (i := 1011) (by decide +kernel), List.mem_of_getElem? (i := 1012) (by decide +kernel)⟩
theorem lw_p21 : lw_okq (⟨"StubHouse$Library", "viewPlace", "(I)I"⟩, 9) := ⟨⟨by decide +kernel, by decide +kernel⟩, List.mem_of_getElem? (i := 275) (by decide +kernel), List.mem_of_getElem? (i := 1015) (by decide +kernel), List.mem_of_getElem? (i := 1016) (by decide +kernel)⟩
theorem lw_p22 : lw_okq (⟨"StubHouse$Library", "viewStamp", "(I)I"⟩, 9) := ⟨⟨by decide +kernel, by decide +kernel⟩, List.mem_of_getElem? (i := 275) (by decide +kernel), List.mem_of_getElem? (i := 1019) (by decide +kernel), List.mem_of_getElem? (i := 1020) (by decide +kernel)⟩
theorem lw_p23 : lw_okq (⟨"StubHouse$Library", "dropDeletes", "()V"⟩, 9) := ⟨⟨by decide +kernel, by decide +kernel⟩, List.mem_of_getElem? (i := 275) (by decide +kernel), List.mem_of_getElem? (i := 1024) (by decide +kernel), List.mem_of_getElem? (i := 1025) (by decide +kernel)⟩
theorem lw_p24 : lw_okq (⟨"StubHouse$Library", "placeInView", "(I)I"⟩, 9) := ⟨⟨by decide +kernel, by decide +kernel⟩, List.mem_of_getElem? (i := 275) (by decide +kernel), List.mem_of_getElem? (i := 1028) (by decide +kernel), List.mem_of_getElem? (i := 1029) (by decide +kernel)⟩
theorem lw_p25 : lw_okq (⟨"StubHouse$Library", "keepInView", "(II)V"⟩, 9) := ⟨⟨by decide +kernel, by decide +kernel⟩, List.mem_of_getElem? (i := 275) (by decide +kernel), List.mem_of_getElem? (i := 1033) (by decide +kernel), List.mem_of_getElem? (i := 1034) (by decide +kernel)⟩
theorem lw_p26 : lw_okq (⟨"StubHouse$Library", "dropClashes", "()V"⟩, 9) := ⟨⟨by decide +kernel, by decide +kernel⟩, List.mem_of_getElem? (i := 275) (by decide +kernel), List.mem_of_getElem? (i := 1037) (by decide +kernel), List.mem_of_getElem? (i := 1038) (by decide +kernel)⟩
theorem lw_p27 : lw_okq (⟨"StubHouse$Library", "sortByStamps", "()V"⟩, 9) := ⟨⟨by decide +kernel, by decide +kernel⟩, List.mem_of_getElem? (i := 275) (by decide +kernel), List.mem_of_getElem? (i := 1041) (by decide +kernel), List.mem_of_getElem? (i := 1042) (by decide +kernel)⟩
theorem lw_p28 : lw_okq (⟨"StubHouse$Library", "clashesWithTaken", "(II)Z"⟩, 9) := ⟨⟨by decide +kernel, by decide +kernel⟩, List.mem_of_getElem? (i := 275) (by decide +kernel), List.mem_of_getElem? (i := 1045) (by decide +kernel), List.mem_of_getElem? (i := 1046) (by decide +kernel)⟩
theorem lw_p29 : lw_okq (⟨"StubHouse$Library", "doPathsClash", "(II)Z"⟩, 9) := ⟨⟨by decide +kernel, by decide +kernel⟩, List.mem_of_getElem? (i := 275) (by decide +kernel), List.mem_of_getElem? (i := 1049) (by decide +kernel), List.mem_of_getElem? (i := 1050) (by decide +kernel)⟩
theorem lw_p30 : lw_okq (⟨"StubHouse$Library", "sortTaken", "(I)V"⟩, 9) := ⟨⟨by decide +kernel, by decide +kernel⟩, List.mem_of_getElem? (i := 275) (by decide +kernel), List.mem_of_getElem? (i := 1059) (by decide +kernel), List.mem_of_getElem? (i := 1060) (by decide +kernel)⟩
theorem lw_p31 : lw_okq (⟨"StubHouse$Library", "restoreFile", "(I)Z"⟩, 9) := ⟨⟨by decide +kernel, by decide +kernel⟩, List.mem_of_getElem? (i := 275) (by decide +kernel), List.mem_of_getElem? (i := 1067) (by decide +kernel), List.mem_of_getElem? (i := 1068) (by decide +kernel)⟩
def lw_privs_2 : List (MethodName × Nat) := [(⟨"StubHouse", "howItIs", "(LStubHouse$Node;)I"⟩, 11), (⟨"StubHouse$Log", "undo", "(I)V"⟩, 11), (⟨"StubHouse$Log", "claimHomes", "()V"⟩, 11), (⟨"StubHouse", "stopAll", "()V"⟩, 11), (⟨"StubHouse$Library", "offer", "(II)V"⟩, 9), (⟨"StubHouse$Library", "viewPlace", "(I)I"⟩, 9), (⟨"StubHouse$Library", "viewStamp", "(I)I"⟩, 9), (⟨"StubHouse$Library", "dropDeletes", "()V"⟩, 9), (⟨"StubHouse$Library", "placeInView", "(I)I"⟩, 9), (⟨"StubHouse$Library", "keepInView", "(II)V"⟩, 9), (⟨"StubHouse$Library", "dropClashes", "()V"⟩, 9), (⟨"StubHouse$Library", "sortByStamps", "()V"⟩, 9), (⟨"StubHouse$Library", "clashesWithTaken", "(II)Z"⟩, 9), (⟨"StubHouse$Library", "doPathsClash", "(II)Z"⟩, 9), (⟨"StubHouse$Library", "sortTaken", "(I)V"⟩, 9), (⟨"StubHouse$Library", "restoreFile", "(I)Z"⟩, 9)]
theorem lw_r2 : ∀ q ∈ lw_privs_2, lw_okq q := List.forall_mem_cons.mpr ⟨lw_p16, List.forall_mem_cons.mpr ⟨lw_p17, List.forall_mem_cons.mpr ⟨lw_p18, List.forall_mem_cons.mpr ⟨lw_p19, List.forall_mem_cons.mpr ⟨lw_p20, List.forall_mem_cons.mpr ⟨lw_p21, List.forall_mem_cons.mpr ⟨lw_p22, List.forall_mem_cons.mpr ⟨lw_p23, List.forall_mem_cons.mpr ⟨lw_p24, List.forall_mem_cons.mpr ⟨lw_p25, List.forall_mem_cons.mpr ⟨lw_p26, List.forall_mem_cons.mpr ⟨lw_p27, List.forall_mem_cons.mpr ⟨lw_p28, List.forall_mem_cons.mpr ⟨lw_p29, List.forall_mem_cons.mpr ⟨lw_p30, List.forall_mem_cons.mpr ⟨lw_p31, fun _ h => absurd h List.not_mem_nil⟩⟩⟩⟩⟩⟩⟩⟩⟩⟩⟩⟩⟩⟩⟩⟩
theorem lw_p32 : lw_okq (⟨"StubHouse$Library", "restoreDirectory", "(IJ)I"⟩, 9) := ⟨⟨by decide +kernel, by decide +kernel⟩, List.mem_of_getElem? (i := 275) (by decide +kernel), List.mem_of_getElem? (i := 1071) (by decide +kernel), List.mem_of_getElem? (i := 1072) (by decide +kernel)⟩
theorem lw_p33 : lw_okq (⟨"StubHouse$Library", "restoreCopies", "(LStubHouse$Node;)V"⟩, 9) := ⟨⟨by decide +kernel, by decide +kernel⟩, List.mem_of_getElem? (i := 275) (by decide +kernel), List.mem_of_getElem? (i := 1085) (by decide +kernel), List.mem_of_getElem? (i := 1086) (by decide +kernel)⟩
theorem lw_p34 : lw_okq (⟨"StubHouse$Library", "passNumbers", "()V"⟩, 9) := ⟨⟨by decide +kernel, by decide +kernel⟩, List.mem_of_getElem? (i := 275) (by decide +kernel), List.mem_of_getElem? (i := 1097) (by decide +kernel), List.mem_of_getElem? (i := 1098) (by decide +kernel)⟩
theorem lw_p35 : lw_okq (⟨"StubHouse$Reader", "firstRecall", "()I"⟩, 17) := ⟨⟨by decide +kernel, by decide +kernel⟩, List.mem_of_getElem? (i := 373) (by decide +kernel), List.mem_of_getElem? (i := 1110) (by decide +kernel), List.mem_of_getElem? (i := 1111) (by decide +kernel)⟩
theorem lw_p36 : lw_okq (⟨"StubHouse$Reader", "counts", "(LStubHouse$Node;)Z"⟩, 17) := ⟨⟨by decide +kernel, by decide +kernel⟩, List.mem_of_getElem? (i := 373) (by decide +kernel), List.mem_of_getElem? (i := 1114) (by decide +kernel), List.mem_of_getElem? (i := 1115) (by decide +kernel)⟩
theorem lw_p37 : lw_okq (⟨"StubHouse$Reader", "nearestRecall", "()I"⟩, 17) := ⟨⟨by decide +kernel, by decide +kernel⟩, List.mem_of_getElem? (i := 373) (by decide +kernel), List.mem_of_getElem? (i := 1123) (by decide +kernel), List.mem_of_getElem? (i := 1124) (by decide +kernel)⟩
theorem lw_p38 : lw_okq (⟨"StubHouse$Reader", "goOnRecalling", "(I)V"⟩, 17) := ⟨⟨by decide +kernel, by decide +kernel⟩, List.mem_of_getElem? (i := 373) (by decide +kernel), List.mem_of_getElem? (i := 1127) (by decide +kernel), List.mem_of_getElem? (i := 1128) (by decide +kernel)⟩
theorem lw_p39 : lw_okq (⟨"StubHouse$Reader", "beginReading", "(II)V"⟩, 17) := ⟨⟨by decide +kernel, by decide +kernel⟩, List.mem_of_getElem? (i := 373) (by decide +kernel), List.mem_of_getElem? (i := 1140) (by decide +kernel), List.mem_of_getElem? (i := 1141) (by decide +kernel)⟩
theorem lw_p40 : lw_okq (⟨"StubHouse$Library", "isCopyOfFile", "(II)Z"⟩, 9) := ⟨⟨by decide +kernel, by decide +kernel⟩, List.mem_of_getElem? (i := 275) (by decide +kernel), List.mem_of_getElem? (i := 1156) (by decide +kernel), List.mem_of_getElem? (i := 1157) (by decide +kernel)⟩
theorem lw_p41 : lw_okq (⟨"StubHouse$Library", "isLatest", "(II)Z"⟩, 9) := ⟨⟨by decide +kernel, by decide +kernel⟩, List.mem_of_getElem? (i := 275) (by decide +kernel), List.mem_of_getElem? (i := 1164) (by decide +kernel), List.mem_of_getElem? (i := 1165) (by decide +kernel)⟩
theorem lw_p42 : lw_okq (⟨"StubHouse$Reader", "goOnReclaiming", "(I)V"⟩, 17) := ⟨⟨by decide +kernel, by decide +kernel⟩, List.mem_of_getElem? (i := 373) (by decide +kernel), List.mem_of_getElem? (i := 1168) (by decide +kernel), List.mem_of_getElem? (i := 1169) (by decide +kernel)⟩
theorem lw_p43 : lw_okq (⟨"StubHouse$Reader", "blankReclaimed", "()V"⟩, 17) := ⟨⟨by decide +kernel, by decide +kernel⟩, List.mem_of_getElem? (i := 373) (by decide +kernel), List.mem_of_getElem? (i := 1174) (by decide +kernel), List.mem_of_getElem? (i := 1175) (by decide +kernel)⟩
theorem lw_p44 : lw_okq (⟨"StubHouse$Reader", "changeTape", "(II)V"⟩, 17) := ⟨⟨by decide +kernel, by decide +kernel⟩, List.mem_of_getElem? (i := 373) (by decide +kernel), List.mem_of_getElem? (i := 1200) (by decide +kernel), List.mem_of_getElem? (i := 1201) (by decide +kernel)⟩
theorem lw_p45 : lw_okq (⟨"StubHouse$Reader", "endRecall", "()V"⟩, 17) := ⟨⟨by decide +kernel, by decide +kernel⟩, List.mem_of_getElem? (i := 373) (by decide +kernel), List.mem_of_getElem? (i := 1226) (by decide +kernel), List.mem_of_getElem? (i := 1227) (by decide +kernel)⟩
theorem lw_p46 : lw_okq (⟨"StubHouse$Reader", "endReclaim", "()V"⟩, 17) := ⟨⟨by decide +kernel, by decide +kernel⟩, List.mem_of_getElem? (i := 373) (by decide +kernel), List.mem_of_getElem? (i := 1245) (by decide +kernel), List.mem_of_getElem? (i := 1246) (by decide +kernel)⟩
theorem lw_p47 : lw_okq (⟨"StubHouse$Writer", "dropFinished", "()V"⟩, 17) := ⟨⟨by decide +kernel, by decide +kernel⟩, List.mem_of_getElem? (i := 460) (by decide +kernel), List.mem_of_getElem? (i := 1256) (by decide +kernel), List.mem_of_getElem? (i := 1257) (by decide +kernel)⟩
def lw_privs_3 : List (MethodName × Nat) := [(⟨"StubHouse$Library", "restoreDirectory", "(IJ)I"⟩, 9), (⟨"StubHouse$Library", "restoreCopies", "(LStubHouse$Node;)V"⟩, 9), (⟨"StubHouse$Library", "passNumbers", "()V"⟩, 9), (⟨"StubHouse$Reader", "firstRecall", "()I"⟩, 17), (⟨"StubHouse$Reader", "counts", "(LStubHouse$Node;)Z"⟩, 17), (⟨"StubHouse$Reader", "nearestRecall", "()I"⟩, 17), (⟨"StubHouse$Reader", "goOnRecalling", "(I)V"⟩, 17), (⟨"StubHouse$Reader", "beginReading", "(II)V"⟩, 17), (⟨"StubHouse$Library", "isCopyOfFile", "(II)Z"⟩, 9), (⟨"StubHouse$Library", "isLatest", "(II)Z"⟩, 9), (⟨"StubHouse$Reader", "goOnReclaiming", "(I)V"⟩, 17), (⟨"StubHouse$Reader", "blankReclaimed", "()V"⟩, 17), (⟨"StubHouse$Reader", "changeTape", "(II)V"⟩, 17), (⟨"StubHouse$Reader", "endRecall", "()V"⟩, 17), (⟨"StubHouse$Reader", "endReclaim", "()V"⟩, 17), (⟨"StubHouse$Writer", "dropFinished", "()V"⟩, 17)]
theorem lw_r3 : ∀ q ∈ lw_privs_3, lw_okq q := List.forall_mem_cons.mpr ⟨lw_p32, List.forall_mem_cons.mpr ⟨lw_p33, List.forall_mem_cons.mpr ⟨lw_p34, List.forall_mem_cons.mpr ⟨lw_p35, List.forall_mem_cons.mpr ⟨lw_p36, List.forall_mem_cons.mpr ⟨lw_p37, List.forall_mem_cons.mpr ⟨lw_p38, List.forall_mem_cons.mpr ⟨lw_p39, List.forall_mem_cons.mpr ⟨lw_p40, List.forall_mem_cons.mpr ⟨lw_p41, List.forall_mem_cons.mpr ⟨lw_p42, List.forall_mem_cons.mpr ⟨lw_p43, List.forall_mem_cons.mpr ⟨lw_p44, List.forall_mem_cons.mpr ⟨lw_p45, List.forall_mem_cons.mpr ⟨lw_p46, List.forall_mem_cons.mpr ⟨lw_p47, fun _ h => absurd h List.not_mem_nil⟩⟩⟩⟩⟩⟩⟩⟩⟩⟩⟩⟩⟩⟩⟩⟩
theorem lw_p48 : lw_okq (⟨"StubHouse$Writer", "goForDelete", "()Z"⟩, 17) := ⟨⟨by decide +kernel, by decide +kernel⟩, List.mem_of_getElem? (i := 460) (by decide +kernel), List.mem_of_getElem? (i := 1265) (by decide +kernel), List.mem_of_getElem? (i := 1266) (by decide +kernel)⟩
theorem lw_p49 : lw_okq (⟨"StubHouse$Writer", "targetFor", "(II)I"⟩, 17) := ⟨⟨by decide +kernel, by decide +kernel⟩, List.mem_of_getElem? (i := 460) (by decide +kernel), List.mem_of_getElem? (i := 1273) (by decide +kernel), List.mem_of_getElem? (i := 1274) (by decide +kernel)⟩
theorem lw_p50 : lw_okq (⟨"StubHouse$Writer", "willDo", "(III)Z"⟩, 17) := ⟨⟨by decide +kernel, by decide +kernel⟩, List.mem_of_getElem? (i := 460) (by decide +kernel), List.mem_of_getElem? (i := 1277) (by decide +kernel), List.mem_of_getElem? (i := 1278) (by decide +kernel)⟩
theorem lw_p51 : lw_okq (⟨"StubHouse$Writer", "isAtEndOf", "(I)Z"⟩, 17) := ⟨⟨by decide +kernel, by decide +kernel⟩, List.mem_of_getElem? (i := 460) (by decide +kernel), List.mem_of_getElem? (i := 1285) (by decide +kernel), List.mem_of_getElem? (i := 1286) (by decide +kernel)⟩
theorem lw_p52 : lw_okq (⟨"StubHouse$Writer", "beginDelete", "(I)V"⟩, 17) := ⟨⟨by decide +kernel, by decide +kernel⟩, List.mem_of_getElem? (i := 460) (by decide +kernel), List.mem_of_getElem? (i := 1295) (by decide +kernel), List.mem_of_getElem? (i := 1296) (by decide +kernel)⟩
theorem lw_p53 : lw_okq (⟨"StubHouse$Writer", "putHead", "(IIII)I"⟩, 17) := ⟨⟨by decide +kernel, by decide +kernel⟩, List.mem_of_getElem? (i := 460) (by decide +kernel), List.mem_of_getElem? (i := 1299) (by decide +kernel), List.mem_of_getElem? (i := 1300) (by decide +kernel)⟩
theorem lw_p54 : lw_okq (⟨"StubHouse$Writer", "putCheck", "(II)I"⟩, 17) := ⟨⟨by decide +kernel, by decide +kernel⟩, List.mem_of_getElem? (i := 460) (by decide +kernel), List.mem_of_getElem? (i := 1306) (by decide +kernel), List.mem_of_getElem? (i := 1307) (by decide +kernel)⟩
theorem lw_p55 : lw_okq (⟨"StubHouse$Writer", "beginWriting", "(III)V"⟩, 17) := ⟨⟨by decide +kernel, by decide +kernel⟩, List.mem_of_getElem? (i := 460) (by decide +kernel), List.mem_of_getElem? (i := 1311) (by decide +kernel), List.mem_of_getElem? (i := 1312) (by decide +kernel)⟩
theorem lw_p56 : lw_okq (⟨"StubHouse$Writer", "goForParcel", "()Z"⟩, 17) := ⟨⟨by decide +kernel, by decide +kernel⟩, List.mem_of_getElem? (i := 460) (by decide +kernel), List.mem_of_getElem? (i := 1318) (by decide +kernel), List.mem_of_getElem? (i := 1319) (by decide +kernel)⟩
theorem lw_p57 : lw_okq (⟨"StubHouse$Writer", "beginParcel", "()V"⟩, 17) := ⟨⟨by decide +kernel, by decide +kernel⟩, List.mem_of_getElem? (i := 460) (by decide +kernel), List.mem_of_getElem? (i := 1327) (by decide +kernel), List.mem_of_getElem? (i := 1328) (by decide +kernel)⟩
theorem lw_p58 : lw_okq (⟨"StubHouse$Writer", "goForFile", "()V"⟩, 17) := ⟨⟨by decide +kernel, by decide +kernel⟩, List.mem_of_getElem? (i := 460) (by decide +kernel), List.mem_of_getElem? (i := 1333) (by decide +kernel), List.mem_of_getElem? (i := 1334) (by decide +kernel)⟩
theorem lw_p59 : lw_okq (⟨"StubHouse$Writer", "beginFile", "(I)V"⟩, 17) := ⟨⟨by decide +kernel, by decide +kernel⟩, List.mem_of_getElem? (i := 460) (by decide +kernel), List.mem_of_getElem? (i := 1338) (by decide +kernel), List.mem_of_getElem? (i := 1339) (by decide +kernel)⟩
theorem lw_p60 : lw_okq (⟨"StubHouse$Writer", "endParcel", "(I)V"⟩, 17) := ⟨⟨by decide +kernel, by decide +kernel⟩, List.mem_of_getElem? (i := 460) (by decide +kernel), List.mem_of_getElem? (i := 1370) (by decide +kernel), List.mem_of_getElem? (i := 1371) (by decide +kernel)⟩
theorem lw_p61 : lw_okq (⟨"StubHouse$Writer", "endFile", "(I)V"⟩, 17) := ⟨⟨by decide +kernel, by decide +kernel⟩, List.mem_of_getElem? (i := 460) (by decide +kernel), List.mem_of_getElem? (i := 1379) (by decide +kernel), List.mem_of_getElem? (i := 1380) (by decide +kernel)⟩
theorem lw_p62 : lw_okq (⟨"StubHouse$Migrator", "modeOf", "(IZ)Z"⟩, 11) := ⟨⟨by decide +kernel, by decide +kernel⟩, List.mem_of_getElem? (i := 509) (by decide +kernel), List.mem_of_getElem? (i := 1392) (by decide +kernel), List.mem_of_getElem? (i := 1393) (by decide +kernel)⟩
theorem lw_p63 : lw_okq (⟨"StubHouse$Migrator", "rankFiles", "(I)V"⟩, 11) := ⟨⟨by decide +kernel, by decide +kernel⟩, List.mem_of_getElem? (i := 509) (by decide +kernel), List.mem_of_getElem? (i := 1396) (by decide +kernel), List.mem_of_getElem? (i := 1397) (by decide +kernel)⟩
def lw_privs_4 : List (MethodName × Nat) := [(⟨"StubHouse$Writer", "goForDelete", "()Z"⟩, 17), (⟨"StubHouse$Writer", "targetFor", "(II)I"⟩, 17), (⟨"StubHouse$Writer", "willDo", "(III)Z"⟩, 17), (⟨"StubHouse$Writer", "isAtEndOf", "(I)Z"⟩, 17), (⟨"StubHouse$Writer", "beginDelete", "(I)V"⟩, 17), (⟨"StubHouse$Writer", "putHead", "(IIII)I"⟩, 17), (⟨"StubHouse$Writer", "putCheck", "(II)I"⟩, 17), (⟨"StubHouse$Writer", "beginWriting", "(III)V"⟩, 17), (⟨"StubHouse$Writer", "goForParcel", "()Z"⟩, 17), (⟨"StubHouse$Writer", "beginParcel", "()V"⟩, 17), (⟨"StubHouse$Writer", "goForFile", "()V"⟩, 17), (⟨"StubHouse$Writer", "beginFile", "(I)V"⟩, 17), (⟨"StubHouse$Writer", "endParcel", "(I)V"⟩, 17), (⟨"StubHouse$Writer", "endFile", "(I)V"⟩, 17), (⟨"StubHouse$Migrator", "modeOf", "(IZ)Z"⟩, 11), (⟨"StubHouse$Migrator", "rankFiles", "(I)V"⟩, 11)]
theorem lw_r4 : ∀ q ∈ lw_privs_4, lw_okq q := List.forall_mem_cons.mpr ⟨lw_p48, List.forall_mem_cons.mpr ⟨lw_p49, List.forall_mem_cons.mpr ⟨lw_p50, List.forall_mem_cons.mpr ⟨lw_p51, List.forall_mem_cons.mpr ⟨lw_p52, List.forall_mem_cons.mpr ⟨lw_p53, List.forall_mem_cons.mpr ⟨lw_p54, List.forall_mem_cons.mpr ⟨lw_p55, List.forall_mem_cons.mpr ⟨lw_p56, List.forall_mem_cons.mpr ⟨lw_p57, List.forall_mem_cons.mpr ⟨lw_p58, List.forall_mem_cons.mpr ⟨lw_p59, List.forall_mem_cons.mpr ⟨lw_p60, List.forall_mem_cons.mpr ⟨lw_p61, List.forall_mem_cons.mpr ⟨lw_p62, List.forall_mem_cons.mpr ⟨lw_p63, fun _ h => absurd h List.not_mem_nil⟩⟩⟩⟩⟩⟩⟩⟩⟩⟩⟩⟩⟩⟩⟩⟩
theorem lw_p64 : lw_okq (⟨"StubHouse$Migrator", "releaseFirst", "()Z"⟩, 11) := ⟨⟨by decide +kernel, by decide +kernel⟩, List.mem_of_getElem? (i := 509) (by decide +kernel), List.mem_of_getElem? (i := 1405) (by decide +kernel), List.mem_of_getElem? (i := 1406) (by decide +kernel)⟩
theorem lw_p65 : lw_okq (⟨"StubHouse$Migrator", "queueFirst", "()V"⟩, 11) := ⟨⟨by decide +kernel, by decide +kernel⟩, List.mem_of_getElem? (i := 509) (by decide +kernel), List.mem_of_getElem? (i := 1414) (by decide +kernel), List.mem_of_getElem? (i := 1415) (by decide +kernel)⟩
theorem lw_p66 : lw_okq (⟨"StubHouse", "toldOfStores", "(I)I"⟩, 11) := ⟨⟨by decide +kernel, by decide +kernel⟩, List.mem_of_getElem? (i := 18) (by decide +kernel), List.mem_of_getElem? (i := 1442) (by decide +kernel), List.mem_of_getElem? (i := 1443) (by decide +kernel)⟩
theorem lw_p67 : lw_okq (⟨"StubHouseModel", "empty", "()V"⟩, 57) := ⟨⟨by decide +kernel, by decide +kernel⟩, List.mem_of_getElem? (i := 1488) (by decide +kernel), List.mem_of_getElem? (i := 1496) (by decide +kernel), List.mem_of_getElem? (i := 1497) (by decide +kernel)⟩
theorem lw_p68 : lw_okq (⟨"StubHouseModel", "copyOut", "()V"⟩, 57) := ⟨⟨by decide +kernel, by decide +kernel⟩, List.mem_of_getElem? (i := 1488) (by decide +kernel), List.mem_of_getElem? (i := 1500) (by decide +kernel), List.mem_of_getElem? (i := 1501) (by decide +kernel)⟩
theorem lw_p69 : lw_okq (⟨"StubHouseModel", "isDirectory", "(I)Z"⟩, 57) := ⟨⟨by decide +kernel, by decide +kernel⟩, List.mem_of_getElem? (i := 1488) (by decide +kernel), List.mem_of_getElem? (i := 1680) (by decide +kernel), List.mem_of_getElem? (i := 1681) (by decide +kernel)⟩
theorem lw_p70 : lw_okq (⟨"StubHouseModel", "at", "(II)I"⟩, 57) := ⟨⟨by decide +kernel, by decide +kernel⟩, List.mem_of_getElem? (i := 1488) (by decide +kernel), List.mem_of_getElem? (i := 1688) (by decide +kernel), List.mem_of_getElem? (i := 1689) (by decide +kernel)⟩
theorem lw_p71 : lw_okq (⟨"StubHouseModel", "look", "(IJ)I"⟩, 57) := ⟨⟨by decide +kernel, by decide +kernel⟩, List.mem_of_getElem? (i := 1488) (by decide +kernel), List.mem_of_getElem? (i := 1700) (by decide +kernel), List.mem_of_getElem? (i := 1701) (by decide +kernel)⟩
theorem lw_p72 : lw_okq (⟨"StubHouseModel", "freeNode", "()I"⟩, 57) := ⟨⟨by decide +kernel, by decide +kernel⟩, List.mem_of_getElem? (i := 1488) (by decide +kernel), List.mem_of_getElem? (i := 1704) (by decide +kernel), List.mem_of_getElem? (i := 1705) (by decide +kernel)⟩
theorem lw_p73 : lw_okq (⟨"StubHouseModel", "depth", "(I)I"⟩, 57) := ⟨⟨by decide +kernel, by decide +kernel⟩, List.mem_of_getElem? (i := 1488) (by decide +kernel), List.mem_of_getElem? (i := 1708) (by decide +kernel), List.mem_of_getElem? (i := 1709) (by decide +kernel)⟩
theorem lw_p74 : lw_okq (⟨"StubHouseModel", "ahead", "()V"⟩, 57) := ⟨⟨by decide +kernel, by decide +kernel⟩, List.mem_of_getElem? (i := 1488) (by decide +kernel), List.mem_of_getElem? (i := 1712) (by decide +kernel), List.mem_of_getElem? (i := 1713) (by decide +kernel)⟩
theorem lw_p75 : lw_okq (⟨"StubHouseModel", "syncAll", "()I"⟩, 57) := ⟨⟨by decide +kernel, by decide +kernel⟩, List.mem_of_getElem? (i := 1488) (by decide +kernel), List.mem_of_getElem? (i := 1716) (by decide +kernel), List.mem_of_getElem? (i := 1717) (by decide +kernel)⟩
theorem lw_p76 : lw_okq (⟨"StubHouseModel", "plant", "(IIIJ)V"⟩, 57) := ⟨⟨by decide +kernel, by decide +kernel⟩, List.mem_of_getElem? (i := 1488) (by decide +kernel), List.mem_of_getElem? (i := 1720) (by decide +kernel), List.mem_of_getElem? (i := 1721) (by decide +kernel)⟩
theorem lw_p77 : lw_okq (⟨"StubHouseModel", "set", "(III)V"⟩, 57) := ⟨⟨by decide +kernel, by decide +kernel⟩, List.mem_of_getElem? (i := 1488) (by decide +kernel), List.mem_of_getElem? (i := 1724) (by decide +kernel), List.mem_of_getElem? (i := 1725) (by decide +kernel)⟩
theorem lw_p78 : lw_okq (⟨"StubHouseModel", "noBlocks", "(I)V"⟩, 57) := ⟨⟨by decide +kernel, by decide +kernel⟩, List.mem_of_getElem? (i := 1488) (by decide +kernel), List.mem_of_getElem? (i := 1728) (by decide +kernel), List.mem_of_getElem? (i := 1729) (by decide +kernel)⟩
theorem lw_p79 : lw_okq (⟨"StubHouseModel", "record", "(I)V"⟩, 57) := ⟨⟨by decide +kernel, by decide +kernel⟩, List.mem_of_getElem? (i := 1488) (by decide +kernel), List.mem_of_getElem? (i := 1732) (by decide +kernel), List.mem_of_getElem? (i := 1733) (by decide +kernel)⟩
def lw_privs_5 : List (MethodName × Nat) := [(⟨"StubHouse$Migrator", "releaseFirst", "()Z"⟩, 11), (⟨"StubHouse$Migrator", "queueFirst", "()V"⟩, 11), (⟨"StubHouse", "toldOfStores", "(I)I"⟩, 11), (⟨"StubHouseModel", "empty", "()V"⟩, 57), (⟨"StubHouseModel", "copyOut", "()V"⟩, 57), (⟨"StubHouseModel", "isDirectory", "(I)Z"⟩, 57), (⟨"StubHouseModel", "at", "(II)I"⟩, 57), (⟨"StubHouseModel", "look", "(IJ)I"⟩, 57), (⟨"StubHouseModel", "freeNode", "()I"⟩, 57), (⟨"StubHouseModel", "depth", "(I)I"⟩, 57), (⟨"StubHouseModel", "ahead", "()V"⟩, 57), (⟨"StubHouseModel", "syncAll", "()I"⟩, 57), (⟨"StubHouseModel", "plant", "(IIIJ)V"⟩, 57), (⟨"StubHouseModel", "set", "(III)V"⟩, 57), (⟨"StubHouseModel", "noBlocks", "(I)V"⟩, 57), (⟨"StubHouseModel", "record", "(I)V"⟩, 57)]
theorem lw_r5 : ∀ q ∈ lw_privs_5, lw_okq q := List.forall_mem_cons.mpr ⟨lw_p64, List.forall_mem_cons.mpr ⟨lw_p65, List.forall_mem_cons.mpr ⟨lw_p66, List.forall_mem_cons.mpr ⟨lw_p67, List.forall_mem_cons.mpr ⟨lw_p68, List.forall_mem_cons.mpr ⟨lw_p69, List.forall_mem_cons.mpr ⟨lw_p70, List.forall_mem_cons.mpr ⟨lw_p71, List.forall_mem_cons.mpr ⟨lw_p72, List.forall_mem_cons.mpr ⟨lw_p73, List.forall_mem_cons.mpr ⟨lw_p74, List.forall_mem_cons.mpr ⟨lw_p75, List.forall_mem_cons.mpr ⟨lw_p76, List.forall_mem_cons.mpr ⟨lw_p77, List.forall_mem_cons.mpr ⟨lw_p78, List.forall_mem_cons.mpr ⟨lw_p79, fun _ h => absurd h List.not_mem_nil⟩⟩⟩⟩⟩⟩⟩⟩⟩⟩⟩⟩⟩⟩⟩⟩
theorem lw_p80 : lw_okq (⟨"StubHouseModel", "hasNodes", "(I)Z"⟩, 57) := ⟨⟨by decide +kernel, by decide +kernel⟩, List.mem_of_getElem? (i := 1488) (by decide +kernel), List.mem_of_getElem? (i := 1744) (by decide +kernel), List.mem_of_getElem? (i := 1745) (by decide +kernel)⟩
theorem lw_p81 : lw_okq (⟨"StubHouseModel", "hold", "(I)V"⟩, 57) := ⟨⟨by decide +kernel, by decide +kernel⟩, List.mem_of_getElem? (i := 1488) (by decide +kernel), List.mem_of_getElem? (i := 1748) (by decide +kernel), List.mem_of_getElem? (i := 1749) (by decide +kernel)⟩
theorem lw_p82 : lw_okq (⟨"StubHouseModel", "isOnTape", "(I)Z"⟩, 57) := ⟨⟨by decide +kernel, by decide +kernel⟩, List.mem_of_getElem? (i := 1488) (by decide +kernel), List.mem_of_getElem? (i := 1752) (by decide +kernel), List.mem_of_getElem? (i := 1753) (by decide +kernel)⟩
theorem lw_p83 : lw_okq (⟨"StubHouseModel", "scanAll", "()V"⟩, 57) := ⟨⟨by decide +kernel, by decide +kernel⟩, List.mem_of_getElem? (i := 1488) (by decide +kernel), List.mem_of_getElem? (i := 1756) (by decide +kernel), List.mem_of_getElem? (i := 1757) (by decide +kernel)⟩
theorem lw_p84 : lw_okq (⟨"StubHouseModel", "scan", "(I)V"⟩, 57) := ⟨⟨by decide +kernel, by decide +kernel⟩, List.mem_of_getElem? (i := 1488) (by decide +kernel), List.mem_of_getElem? (i := 1760) (by decide +kernel), List.mem_of_getElem? (i := 1761) (by decide +kernel)⟩
theorem lw_p85 : lw_okq (⟨"StubHouseModel", "segmentAt", "(II)I"⟩, 57) := ⟨⟨by decide +kernel, by decide +kernel⟩, List.mem_of_getElem? (i := 1488) (by decide +kernel), List.mem_of_getElem? (i := 1764) (by decide +kernel), List.mem_of_getElem? (i := 1765) (by decide +kernel)⟩
theorem lw_p86 : lw_okq (⟨"StubHouseModel", "tapeByte", "(II)I"⟩, 57) := ⟨⟨by decide +kernel, by decide +kernel⟩, List.mem_of_getElem? (i := 1488) (by decide +kernel), List.mem_of_getElem? (i := 1768) (by decide +kernel), List.mem_of_getElem? (i := 1769) (by decide +kernel)⟩
theorem lw_p87 : lw_okq (⟨"StubHouseModel", "number", "(III)I"⟩, 57) := ⟨⟨by decide +kernel, by decide +kernel⟩, List.mem_of_getElem? (i := 1488) (by decide +kernel), List.mem_of_getElem? (i := 1774) (by decide +kernel), List.mem_of_getElem? (i := 1775) (by decide +kernel)⟩
theorem lw_p88 : lw_okq (⟨"StubHouseModel", "check", "(III)I"⟩, 57) := ⟨⟨by decide +kernel, by decide +kernel⟩, List.mem_of_getElem? (i := 1488) (by decide +kernel), List.mem_of_getElem? (i := 1785) (by decide +kernel), List.mem_of_getElem? (i := 1786) (by decide +kernel)⟩
theorem lw_p89 : lw_okq (⟨"StubHouseModel", "seg", "(III)I"⟩, 57) := ⟨⟨by decide +kernel, by decide +kernel⟩, List.mem_of_getElem? (i := 1488) (by decide +kernel), List.mem_of_getElem? (i := 1793) (by decide +kernel), List.mem_of_getElem? (i := 1794) (by decide +kernel)⟩
theorem lw_p90 : lw_okq (⟨"StubHouseModel", "isBeingWritten", "(I)Z"⟩, 57) := ⟨⟨by decide +kernel, by decide +kernel⟩, List.mem_of_getElem? (i := 1488) (by decide +kernel), List.mem_of_getElem? (i := 1797) (by decide +kernel), List.mem_of_getElem? (i := 1798) (by decide +kernel)⟩
theorem lw_p91 : lw_okq (⟨"StubHouseModel", "purge", "()V"⟩, 57) := ⟨⟨by decide +kernel, by decide +kernel⟩, List.mem_of_getElem? (i := 1488) (by decide +kernel), List.mem_of_getElem? (i := 1801) (by decide +kernel), List.mem_of_getElem? (i := 1802) (by decide +kernel)⟩
theorem lw_p92 : lw_okq (⟨"StubHouseModel", "fileOf", "(I)I"⟩, 57) := ⟨⟨by decide +kernel, by decide +kernel⟩, List.mem_of_getElem? (i := 1488) (by decide +kernel), List.mem_of_getElem? (i := 1805) (by decide +kernel), List.mem_of_getElem? (i := 1806) (by decide +kernel)⟩
theorem lw_p93 : lw_okq (⟨"StubHouseModel", "isStub", "(I)Z"⟩, 57) := ⟨⟨by decide +kernel, by decide +kernel⟩, List.mem_of_getElem? (i := 1488) (by decide +kernel), List.mem_of_getElem? (i := 1809) (by decide +kernel), List.mem_of_getElem? (i := 1810) (by decide +kernel)⟩
theorem lw_p94 : lw_okq (⟨"StubHouseModel", "isBelow", "(II)Z"⟩, 57) := ⟨⟨by decide +kernel, by decide +kernel⟩, List.mem_of_getElem? (i := 1488) (by decide +kernel), List.mem_of_getElem? (i := 1817) (by decide +kernel), List.mem_of_getElem? (i := 1818) (by decide +kernel)⟩
theorem lw_p95 : lw_okq (⟨"StubHouseModel", "isFile", "(I)Z"⟩, 57) := ⟨⟨by decide +kernel, by decide +kernel⟩, List.mem_of_getElem? (i := 1488) (by decide +kernel), List.mem_of_getElem? (i := 1835) (by decide +kernel), List.mem_of_getElem? (i := 1836) (by decide +kernel)⟩
def lw_privs_6 : List (MethodName × Nat) := [(⟨"StubHouseModel", "hasNodes", "(I)Z"⟩, 57), (⟨"StubHouseModel", "hold", "(I)V"⟩, 57), (⟨"StubHouseModel", "isOnTape", "(I)Z"⟩, 57), (⟨"StubHouseModel", "scanAll", "()V"⟩, 57), (⟨"StubHouseModel", "scan", "(I)V"⟩, 57), (⟨"StubHouseModel", "segmentAt", "(II)I"⟩, 57), (⟨"StubHouseModel", "tapeByte", "(II)I"⟩, 57), (⟨"StubHouseModel", "number", "(III)I"⟩, 57), (⟨"StubHouseModel", "check", "(III)I"⟩, 57), (⟨"StubHouseModel", "seg", "(III)I"⟩, 57), (⟨"StubHouseModel", "isBeingWritten", "(I)Z"⟩, 57), (⟨"StubHouseModel", "purge", "()V"⟩, 57), (⟨"StubHouseModel", "fileOf", "(I)I"⟩, 57), (⟨"StubHouseModel", "isStub", "(I)Z"⟩, 57), (⟨"StubHouseModel", "isBelow", "(II)Z"⟩, 57), (⟨"StubHouseModel", "isFile", "(I)Z"⟩, 57)]
theorem lw_r6 : ∀ q ∈ lw_privs_6, lw_okq q := List.forall_mem_cons.mpr ⟨lw_p80, List.forall_mem_cons.mpr ⟨lw_p81, List.forall_mem_cons.mpr ⟨lw_p82, List.forall_mem_cons.mpr ⟨lw_p83, List.forall_mem_cons.mpr ⟨lw_p84, List.forall_mem_cons.mpr ⟨lw_p85, List.forall_mem_cons.mpr ⟨lw_p86, List.forall_mem_cons.mpr ⟨lw_p87, List.forall_mem_cons.mpr ⟨lw_p88, List.forall_mem_cons.mpr ⟨lw_p89, List.forall_mem_cons.mpr ⟨lw_p90, List.forall_mem_cons.mpr ⟨lw_p91, List.forall_mem_cons.mpr ⟨lw_p92, List.forall_mem_cons.mpr ⟨lw_p93, List.forall_mem_cons.mpr ⟨lw_p94, List.forall_mem_cons.mpr ⟨lw_p95, fun _ h => absurd h List.not_mem_nil⟩⟩⟩⟩⟩⟩⟩⟩⟩⟩⟩⟩⟩⟩⟩⟩
theorem lw_p96 : lw_okq (⟨"StubHouseModel", "stubbed", "(I)I"⟩, 57) := ⟨⟨by decide +kernel, by decide +kernel⟩, List.mem_of_getElem? (i := 1488) (by decide +kernel), List.mem_of_getElem? (i := 1839) (by decide +kernel), List.mem_of_getElem? (i := 1840) (by decide +kernel)⟩
theorem lw_p97 : lw_okq (⟨"StubHouseModel", "freeIn", "(II)I"⟩, 57) := ⟨⟨by decide +kernel, by decide +kernel⟩, List.mem_of_getElem? (i := 1488) (by decide +kernel), List.mem_of_getElem? (i := 1843) (by decide +kernel), List.mem_of_getElem? (i := 1844) (by decide +kernel)⟩
theorem lw_p98 : lw_okq (⟨"StubHouseModel", "renew", "(II)V"⟩, 57) := ⟨⟨by decide +kernel, by decide +kernel⟩, List.mem_of_getElem? (i := 1488) (by decide +kernel), List.mem_of_getElem? (i := 1847) (by decide +kernel), List.mem_of_getElem? (i := 1848) (by decide +kernel)⟩
theorem lw_p99 : lw_okq (⟨"StubHouseModel", "give", "(II)I"⟩, 57) := ⟨⟨by decide +kernel, by decide +kernel⟩, List.mem_of_getElem? (i := 1488) (by decide +kernel), List.mem_of_getElem? (i := 1851) (by decide +kernel), List.mem_of_getElem? (i := 1852) (by decide +kernel)⟩
theorem lw_p100 : lw_okq (⟨"StubHouseModel", "changed", "(I)V"⟩, 57) := ⟨⟨by decide +kernel, by decide +kernel⟩, List.mem_of_getElem? (i := 1488) (by decide +kernel), List.mem_of_getElem? (i := 1855) (by decide +kernel), List.mem_of_getElem? (i := 1856) (by decide +kernel)⟩
theorem lw_p101 : lw_okq (⟨"StubHouseModel", "blocks", "(I)I"⟩, 57) := ⟨⟨by decide +kernel, by decide +kernel⟩, List.mem_of_getElem? (i := 1488) (by decide +kernel), List.mem_of_getElem? (i := 1859) (by decide +kernel), List.mem_of_getElem? (i := 1860) (by decide +kernel)⟩
theorem lw_p102 : lw_okq (⟨"StubHouseModel", "inStore", "(II)I"⟩, 57) := ⟨⟨by decide +kernel, by decide +kernel⟩, List.mem_of_getElem? (i := 1488) (by decide +kernel), List.mem_of_getElem? (i := 1876) (by decide +kernel), List.mem_of_getElem? (i := 1877) (by decide +kernel)⟩
theorem lw_p103 : lw_okq (⟨"StubHouseModel", "hasCopies", "(I)Z"⟩, 57) := ⟨⟨by decide +kernel, by decide +kernel⟩, List.mem_of_getElem? (i := 1488) (by decide +kernel), List.mem_of_getElem? (i := 1880) (by decide +kernel), List.mem_of_getElem? (i := 1881) (by decide +kernel)⟩
theorem lw_p104 : lw_okq (⟨"StubHouseModel", "stopAll", "()V"⟩, 57) := ⟨⟨by decide +kernel, by decide +kernel⟩, List.mem_of_getElem? (i := 1488) (by decide +kernel), List.mem_of_getElem? (i := 1913) (by decide +kernel), List.mem_of_getElem? (i := 1914) (by decide +kernel)⟩
theorem lw_p105 : lw_okq (⟨"StubHouseModel", "files", "()I"⟩, 57) := ⟨⟨by decide +kernel, by decide +kernel⟩, List.mem_of_getElem? (i := 1488) (by decide +kernel), List.mem_of_getElem? (i := 1921) (by decide +kernel), List.mem_of_getElem? (i := 1922) (by decide +kernel)⟩
theorem lw_p106 : lw_okq (⟨"StubHouseModel", "isLive", "(II)Z"⟩, 57) := ⟨⟨by decide +kernel, by decide +kernel⟩, List.mem_of_getElem? (i := 1488) (by decide +kernel), List.mem_of_getElem? (i := 1930) (by decide +kernel), List.mem_of_getElem? (i := 1931) (by decide +kernel)⟩
theorem lw_p107 : lw_okq (⟨"StubHouseModel", "copyAt", "(III)I"⟩, 57) := ⟨⟨by decide +kernel, by decide +kernel⟩, List.mem_of_getElem? (i := 1488) (by decide +kernel), List.mem_of_getElem? (i := 1934) (by decide +kernel), List.mem_of_getElem? (i := 1935) (by decide +kernel)⟩
theorem lw_p108 : lw_okq (⟨"StubHouseModel", "fits", "(III)I"⟩, 57) := ⟨⟨by decide +kernel, by decide +kernel⟩, List.mem_of_getElem? (i := 1488) (by decide +kernel), List.mem_of_getElem? (i := 1938) (by decide +kernel), List.mem_of_getElem? (i := 1939) (by decide +kernel)⟩
theorem lw_p109 : lw_okq (⟨"StubHouseModel", "noPlace", "(II)Z"⟩, 57) := ⟨⟨by decide +kernel, by decide +kernel⟩, List.mem_of_getElem? (i := 1488) (by decide +kernel), List.mem_of_getElem? (i := 1946) (by decide +kernel), List.mem_of_getElem? (i := 1947) (by decide +kernel)⟩
theorem lw_p110 : lw_okq (⟨"StubHouseModel", "findView", "()V"⟩, 57) := ⟨⟨by decide +kernel, by decide +kernel⟩, List.mem_of_getElem? (i := 1488) (by decide +kernel), List.mem_of_getElem? (i := 1962) (by decide +kernel), List.mem_of_getElem? (i := 1963) (by decide +kernel)⟩
theorem lw_p111 : lw_okq (⟨"StubHouseModel", "isFirst", "(II)Z"⟩, 57) := ⟨⟨by decide +kernel, by decide +kernel⟩, List.mem_of_getElem? (i := 1488) (by decide +kernel), List.mem_of_getElem? (i := 1966) (by decide +kernel), List.mem_of_getElem? (i := 1967) (by decide +kernel)⟩
def lw_privs_7 : List (MethodName × Nat) := [(⟨"StubHouseModel", "stubbed", "(I)I"⟩, 57), (⟨"StubHouseModel", "freeIn", "(II)I"⟩, 57), (⟨"StubHouseModel", "renew", "(II)V"⟩, 57), (⟨"StubHouseModel", "give", "(II)I"⟩, 57), (⟨"StubHouseModel", "changed", "(I)V"⟩, 57), (⟨"StubHouseModel", "blocks", "(I)I"⟩, 57), (⟨"StubHouseModel", "inStore", "(II)I"⟩, 57), (⟨"StubHouseModel", "hasCopies", "(I)Z"⟩, 57), (⟨"StubHouseModel", "stopAll", "()V"⟩, 57), (⟨"StubHouseModel", "files", "()I"⟩, 57), (⟨"StubHouseModel", "isLive", "(II)Z"⟩, 57), (⟨"StubHouseModel", "copyAt", "(III)I"⟩, 57), (⟨"StubHouseModel", "fits", "(III)I"⟩, 57), (⟨"StubHouseModel", "noPlace", "(II)Z"⟩, 57), (⟨"StubHouseModel", "findView", "()V"⟩, 57), (⟨"StubHouseModel", "isFirst", "(II)Z"⟩, 57)]
theorem lw_r7 : ∀ q ∈ lw_privs_7, lw_okq q := List.forall_mem_cons.mpr ⟨lw_p96, List.forall_mem_cons.mpr ⟨lw_p97, List.forall_mem_cons.mpr ⟨lw_p98, List.forall_mem_cons.mpr ⟨lw_p99, List.forall_mem_cons.mpr ⟨lw_p100, List.forall_mem_cons.mpr ⟨lw_p101, List.forall_mem_cons.mpr ⟨lw_p102, List.forall_mem_cons.mpr ⟨lw_p103, List.forall_mem_cons.mpr ⟨lw_p104, List.forall_mem_cons.mpr ⟨lw_p105, List.forall_mem_cons.mpr ⟨lw_p106, List.forall_mem_cons.mpr ⟨lw_p107, List.forall_mem_cons.mpr ⟨lw_p108, List.forall_mem_cons.mpr ⟨lw_p109, List.forall_mem_cons.mpr ⟨lw_p110, List.forall_mem_cons.mpr ⟨lw_p111, fun _ h => absurd h List.not_mem_nil⟩⟩⟩⟩⟩⟩⟩⟩⟩⟩⟩⟩⟩⟩⟩⟩
theorem lw_p112 : lw_okq (⟨"StubHouseModel", "vseg", "(II)I"⟩, 57) := ⟨⟨by decide +kernel, by decide +kernel⟩, List.mem_of_getElem? (i := 1488) (by decide +kernel), List.mem_of_getElem? (i := 1970) (by decide +kernel), List.mem_of_getElem? (i := 1971) (by decide +kernel)⟩
theorem lw_p113 : lw_okq (⟨"StubHouseModel", "isWithin", "(IIII)Z"⟩, 57) := ⟨⟨by decide +kernel, by decide +kernel⟩, List.mem_of_getElem? (i := 1488) (by decide +kernel), List.mem_of_getElem? (i := 1974) (by decide +kernel), List.mem_of_getElem? (i := 1975) (by decide +kernel)⟩
theorem lw_p114 : lw_okq (⟨"StubHouseModel", "rebuildFile", "(II)V"⟩, 57) := ⟨⟨by decide +kernel, by decide +kernel⟩, List.mem_of_getElem? (i := 1488) (by decide +kernel), List.mem_of_getElem? (i := 1982) (by decide +kernel), List.mem_of_getElem? (i := 1983) (by decide +kernel)⟩
theorem lw_p115 : lw_okq (⟨"StubHouseModel", "nameOn", "(II)J"⟩, 57) := ⟨⟨by decide +kernel, by decide +kernel⟩, List.mem_of_getElem? (i := 1488) (by decide +kernel), List.mem_of_getElem? (i := 1986) (by decide +kernel), List.mem_of_getElem? (i := 1987) (by decide +kernel)⟩
theorem lw_p116 : lw_okq (⟨"StubHouseModel", "note", "(III)V"⟩, 57) := ⟨⟨by decide +kernel, by decide +kernel⟩, List.mem_of_getElem? (i := 1488) (by decide +kernel), List.mem_of_getElem? (i := 1990) (by decide +kernel), List.mem_of_getElem? (i := 1991) (by decide +kernel)⟩
theorem lw_p117 : lw_okq (⟨"StubHouseModel", "goOn", "(I)V"⟩, 57) := ⟨⟨by decide +kernel, by decide +kernel⟩, List.mem_of_getElem? (i := 1488) (by decide +kernel), List.mem_of_getElem? (i := 2003) (by decide +kernel), List.mem_of_getElem? (i := 2004) (by decide +kernel)⟩
theorem lw_p118 : lw_okq (⟨"StubHouseModel", "readerBegins", "()V"⟩, 57) := ⟨⟨by decide +kernel, by decide +kernel⟩, List.mem_of_getElem? (i := 1488) (by decide +kernel), List.mem_of_getElem? (i := 2007) (by decide +kernel), List.mem_of_getElem? (i := 2008) (by decide +kernel)⟩
theorem lw_p119 : lw_okq (⟨"StubHouseModel", "hasRoom", "(I)Z"⟩, 57) := ⟨⟨by decide +kernel, by decide +kernel⟩, List.mem_of_getElem? (i := 1488) (by decide +kernel), List.mem_of_getElem? (i := 2011) (by decide +kernel), List.mem_of_getElem? (i := 2012) (by decide +kernel)⟩
theorem lw_p120 : lw_okq (⟨"StubHouseModel", "isNearer", "(II)Z"⟩, 57) := ⟨⟨by decide +kernel, by decide +kernel⟩, List.mem_of_getElem? (i := 1488) (by decide +kernel), List.mem_of_getElem? (i := 2015) (by decide +kernel), List.mem_of_getElem? (i := 2016) (by decide +kernel)⟩
theorem lw_p121 : lw_okq (⟨"StubHouseModel", "wind", "(II)V"⟩, 57) := ⟨⟨by decide +kernel, by decide +kernel⟩, List.mem_of_getElem? (i := 1488) (by decide +kernel), List.mem_of_getElem? (i := 2019) (by decide +kernel), List.mem_of_getElem? (i := 2020) (by decide +kernel)⟩
theorem lw_p122 : lw_okq (⟨"StubHouseModel", "begin", "(III)V"⟩, 57) := ⟨⟨by decide +kernel, by decide +kernel⟩, List.mem_of_getElem? (i := 1488) (by decide +kernel), List.mem_of_getElem? (i := 2023) (by decide +kernel), List.mem_of_getElem? (i := 2024) (by decide +kernel)⟩
theorem lw_p123 : lw_okq (⟨"StubHouseModel", "beginReading", "(III)V"⟩, 57) := ⟨⟨by decide +kernel, by decide +kernel⟩, List.mem_of_getElem? (i := 1488) (by decide +kernel), List.mem_of_getElem? (i := 2027) (by decide +kernel), List.mem_of_getElem? (i := 2028) (by decide +kernel)⟩
theorem lw_p124 : lw_okq (⟨"StubHouseModel", "reclaimOn", "()V"⟩, 57) := ⟨⟨by decide +kernel, by decide +kernel⟩, List.mem_of_getElem? (i := 1488) (by decide +kernel), List.mem_of_getElem? (i := 2031) (by decide +kernel), List.mem_of_getElem? (i := 2032) (by decide +kernel)⟩
theorem lw_p125 : lw_okq (⟨"StubHouseModel", "drop", "(II)V"⟩, 57) := ⟨⟨by decide +kernel, by decide +kernel⟩, List.mem_of_getElem? (i := 1488) (by decide +kernel), List.mem_of_getElem? (i := 2036) (by decide +kernel), List.mem_of_getElem? (i := 2037) (by decide +kernel)⟩
theorem lw_p126 : lw_okq (⟨"StubHouseModel", "mount", "(II)V"⟩, 57) := ⟨⟨by decide +kernel, by decide +kernel⟩, List.mem_of_getElem? (i := 1488) (by decide +kernel), List.mem_of_getElem? (i := 2040) (by decide +kernel), List.mem_of_getElem? (i := 2041) (by decide +kernel)⟩
theorem lw_p127 : lw_okq (⟨"StubHouseModel", "writerBegins", "()V"⟩, 57) := ⟨⟨by decide +kernel, by decide +kernel⟩, List.mem_of_getElem? (i := 1488) (by decide +kernel), List.mem_of_getElem? (i := 2044) (by decide +kernel), List.mem_of_getElem? (i := 2045) (by decide +kernel)⟩
def lw_privs_8 : List (MethodName × Nat) := [(⟨"StubHouseModel", "vseg", "(II)I"⟩, 57), (⟨"StubHouseModel", "isWithin", "(IIII)Z"⟩, 57), (⟨"StubHouseModel", "rebuildFile", "(II)V"⟩, 57), (⟨"StubHouseModel", "nameOn", "(II)J"⟩, 57), (⟨"StubHouseModel", "note", "(III)V"⟩, 57), (⟨"StubHouseModel", "goOn", "(I)V"⟩, 57), (⟨"StubHouseModel", "readerBegins", "()V"⟩, 57), (⟨"StubHouseModel", "hasRoom", "(I)Z"⟩, 57), (⟨"StubHouseModel", "isNearer", "(II)Z"⟩, 57), (⟨"StubHouseModel", "wind", "(II)V"⟩, 57), (⟨"StubHouseModel", "begin", "(III)V"⟩, 57), (⟨"StubHouseModel", "beginReading", "(III)V"⟩, 57), (⟨"StubHouseModel", "reclaimOn", "()V"⟩, 57), (⟨"StubHouseModel", "drop", "(II)V"⟩, 57), (⟨"StubHouseModel", "mount", "(II)V"⟩, 57), (⟨"StubHouseModel", "writerBegins", "()V"⟩, 57)]
theorem lw_r8 : ∀ q ∈ lw_privs_8, lw_okq q := List.forall_mem_cons.mpr ⟨lw_p112, List.forall_mem_cons.mpr ⟨lw_p113, List.forall_mem_cons.mpr ⟨lw_p114, List.forall_mem_cons.mpr ⟨lw_p115, List.forall_mem_cons.mpr ⟨lw_p116, List.forall_mem_cons.mpr ⟨lw_p117, List.forall_mem_cons.mpr ⟨lw_p118, List.forall_mem_cons.mpr ⟨lw_p119, List.forall_mem_cons.mpr ⟨lw_p120, List.forall_mem_cons.mpr ⟨lw_p121, List.forall_mem_cons.mpr ⟨lw_p122, List.forall_mem_cons.mpr ⟨lw_p123, List.forall_mem_cons.mpr ⟨lw_p124, List.forall_mem_cons.mpr ⟨lw_p125, List.forall_mem_cons.mpr ⟨lw_p126, List.forall_mem_cons.mpr ⟨lw_p127, fun _ h => absurd h List.not_mem_nil⟩⟩⟩⟩⟩⟩⟩⟩⟩⟩⟩⟩⟩⟩⟩⟩
theorem lw_p128 : lw_okq (⟨"StubHouseModel", "dropWaiting", "()V"⟩, 57) := ⟨⟨by decide +kernel, by decide +kernel⟩, List.mem_of_getElem? (i := 1488) (by decide +kernel), List.mem_of_getElem? (i := 2048) (by decide +kernel), List.mem_of_getElem? (i := 2049) (by decide +kernel)⟩
theorem lw_p129 : lw_okq (⟨"StubHouseModel", "tapeFor", "(II)I"⟩, 57) := ⟨⟨by decide +kernel, by decide +kernel⟩, List.mem_of_getElem? (i := 1488) (by decide +kernel), List.mem_of_getElem? (i := 2052) (by decide +kernel), List.mem_of_getElem? (i := 2053) (by decide +kernel)⟩
theorem lw_p130 : lw_okq (⟨"StubHouseModel", "willDo", "(III)Z"⟩, 57) := ⟨⟨by decide +kernel, by decide +kernel⟩, List.mem_of_getElem? (i := 1488) (by decide +kernel), List.mem_of_getElem? (i := 2056) (by decide +kernel), List.mem_of_getElem? (i := 2057) (by decide +kernel)⟩
theorem lw_p131 : lw_okq (⟨"StubHouseModel", "hasCopyOn", "(II)Z"⟩, 57) := ⟨⟨by decide +kernel, by decide +kernel⟩, List.mem_of_getElem? (i := 1488) (by decide +kernel), List.mem_of_getElem? (i := 2060) (by decide +kernel), List.mem_of_getElem? (i := 2061) (by decide +kernel)⟩
theorem lw_p132 : lw_okq (⟨"StubHouseModel", "fileOfRead", "()I"⟩, 57) := ⟨⟨by decide +kernel, by decide +kernel⟩, List.mem_of_getElem? (i := 1488) (by decide +kernel), List.mem_of_getElem? (i := 2064) (by decide +kernel), List.mem_of_getElem? (i := 2065) (by decide +kernel)⟩
theorem lw_p133 : lw_okq (⟨"StubHouseModel", "fileSegment", "(I)I"⟩, 57) := ⟨⟨by decide +kernel, by decide +kernel⟩, List.mem_of_getElem? (i := 1488) (by decide +kernel), List.mem_of_getElem? (i := 2068) (by decide +kernel), List.mem_of_getElem? (i := 2069) (by decide +kernel)⟩
theorem lw_p134 : lw_okq (⟨"StubHouseModel", "goWriting", "(III)V"⟩, 57) := ⟨⟨by decide +kernel, by decide +kernel⟩, List.mem_of_getElem? (i := 1488) (by decide +kernel), List.mem_of_getElem? (i := 2072) (by decide +kernel), List.mem_of_getElem? (i := 2073) (by decide +kernel)⟩
theorem lw_p135 : lw_okq (⟨"StubHouseModel", "beginWriting", "(III)V"⟩, 57) := ⟨⟨by decide +kernel, by decide +kernel⟩, List.mem_of_getElem? (i := 1488) (by decide +kernel), List.mem_of_getElem? (i := 2076) (by decide +kernel), List.mem_of_getElem? (i := 2077) (by decide +kernel)⟩
theorem lw_p136 : lw_okq (⟨"StubHouseModel", "put", "(II)V"⟩, 57) := ⟨⟨by decide +kernel, by decide +kernel⟩, List.mem_of_getElem? (i := 1488) (by decide +kernel), List.mem_of_getElem? (i := 2080) (by decide +kernel), List.mem_of_getElem? (i := 2081) (by decide +kernel)⟩
theorem lw_p137 : lw_okq (⟨"StubHouseModel", "outCheck", "(I)I"⟩, 57) := ⟨⟨by decide +kernel, by decide +kernel⟩, List.mem_of_getElem? (i := 1488) (by decide +kernel), List.mem_of_getElem? (i := 2084) (by decide +kernel), List.mem_of_getElem? (i := 2085) (by decide +kernel)⟩
theorem lw_p138 : lw_okq (⟨"StubHouseModel", "putPath", "(I)V"⟩, 57) := ⟨⟨by decide +kernel, by decide +kernel⟩, List.mem_of_getElem? (i := 1488) (by decide +kernel), List.mem_of_getElem? (i := 2088) (by decide +kernel), List.mem_of_getElem? (i := 2089) (by decide +kernel)⟩
theorem lw_p139 : lw_okq (⟨"StubHouseModel", "actDone", "(I)V"⟩, 57) := ⟨⟨by decide +kernel, by decide +kernel⟩, List.mem_of_getElem? (i := 1488) (by decide +kernel), List.mem_of_getElem? (i := 2092) (by decide +kernel), List.mem_of_getElem? (i := 2093) (by decide +kernel)⟩
theorem lw_p140 : lw_okq (⟨"StubHouseModel", "readDone", "()V"⟩, 57) := ⟨⟨by decide +kernel, by decide +kernel⟩, List.mem_of_getElem? (i := 1488) (by decide +kernel), List.mem_of_getElem? (i := 2096) (by decide +kernel), List.mem_of_getElem? (i := 2097) (by decide +kernel)⟩
theorem lw_p141 : lw_okq (⟨"StubHouseModel", "reclaimRead", "(I)V"⟩, 57) := ⟨⟨by decide +kernel, by decide +kernel⟩, List.mem_of_getElem? (i := 1488) (by decide +kernel), List.mem_of_getElem? (i := 2100) (by decide +kernel), List.mem_of_getElem? (i := 2101) (by decide +kernel)⟩
theorem lw_p142 : lw_okq (⟨"StubHouseModel", "waitsToBeRead", "(I)Z"⟩, 57) := ⟨⟨by decide +kernel, by decide +kernel⟩, List.mem_of_getElem? (i := 1488) (by decide +kernel), List.mem_of_getElem? (i := 2104) (by decide +kernel), List.mem_of_getElem? (i := 2105) (by decide +kernel)⟩
theorem lw_p143 : lw_okq (⟨"StubHouseModel", "writeDone", "()V"⟩, 57) := ⟨⟨by decide +kernel, by decide +kernel⟩, List.mem_of_getElem? (i := 1488) (by decide +kernel), List.mem_of_getElem? (i := 2108) (by decide +kernel), List.mem_of_getElem? (i := 2109) (by decide +kernel)⟩
def lw_privs_9 : List (MethodName × Nat) := [(⟨"StubHouseModel", "dropWaiting", "()V"⟩, 57), (⟨"StubHouseModel", "tapeFor", "(II)I"⟩, 57), (⟨"StubHouseModel", "willDo", "(III)Z"⟩, 57), (⟨"StubHouseModel", "hasCopyOn", "(II)Z"⟩, 57), (⟨"StubHouseModel", "fileOfRead", "()I"⟩, 57), (⟨"StubHouseModel", "fileSegment", "(I)I"⟩, 57), (⟨"StubHouseModel", "goWriting", "(III)V"⟩, 57), (⟨"StubHouseModel", "beginWriting", "(III)V"⟩, 57), (⟨"StubHouseModel", "put", "(II)V"⟩, 57), (⟨"StubHouseModel", "outCheck", "(I)I"⟩, 57), (⟨"StubHouseModel", "putPath", "(I)V"⟩, 57), (⟨"StubHouseModel", "actDone", "(I)V"⟩, 57), (⟨"StubHouseModel", "readDone", "()V"⟩, 57), (⟨"StubHouseModel", "reclaimRead", "(I)V"⟩, 57), (⟨"StubHouseModel", "waitsToBeRead", "(I)Z"⟩, 57), (⟨"StubHouseModel", "writeDone", "()V"⟩, 57)]
theorem lw_r9 : ∀ q ∈ lw_privs_9, lw_okq q := List.forall_mem_cons.mpr ⟨lw_p128, List.forall_mem_cons.mpr ⟨lw_p129, List.forall_mem_cons.mpr ⟨lw_p130, List.forall_mem_cons.mpr ⟨lw_p131, List.forall_mem_cons.mpr ⟨lw_p132, List.forall_mem_cons.mpr ⟨lw_p133, List.forall_mem_cons.mpr ⟨lw_p134, List.forall_mem_cons.mpr ⟨lw_p135, List.forall_mem_cons.mpr ⟨lw_p136, List.forall_mem_cons.mpr ⟨lw_p137, List.forall_mem_cons.mpr ⟨lw_p138, List.forall_mem_cons.mpr ⟨lw_p139, List.forall_mem_cons.mpr ⟨lw_p140, List.forall_mem_cons.mpr ⟨lw_p141, List.forall_mem_cons.mpr ⟨lw_p142, List.forall_mem_cons.mpr ⟨lw_p143, fun _ h => absurd h List.not_mem_nil⟩⟩⟩⟩⟩⟩⟩⟩⟩⟩⟩⟩⟩⟩⟩⟩
theorem lw_p144 : lw_okq (⟨"StubHouseModel", "migrate", "()V"⟩, 57) := ⟨⟨by decide +kernel, by decide +kernel⟩, List.mem_of_getElem? (i := 1488) (by decide +kernel), List.mem_of_getElem? (i := 2112) (by decide +kernel), List.mem_of_getElem? (i := 2113) (by decide +kernel)⟩
theorem lw_p145 : lw_okq (⟨"StubHouseModel", "inUse", "(I)I"⟩, 57) := ⟨⟨by decide +kernel, by decide +kernel⟩, List.mem_of_getElem? (i := 1488) (by decide +kernel), List.mem_of_getElem? (i := 2116) (by decide +kernel), List.mem_of_getElem? (i := 2117) (by decide +kernel)⟩
theorem lw_p146 : lw_okq (⟨"StubHouseModel", "nextByRank", "(II)I"⟩, 57) := ⟨⟨by decide +kernel, by decide +kernel⟩, List.mem_of_getElem? (i := 1488) (by decide +kernel), List.mem_of_getElem? (i := 2120) (by decide +kernel), List.mem_of_getElem? (i := 2121) (by decide +kernel)⟩
theorem lw_p147 : lw_okq (⟨"StubHouseModel", "rank", "(I)I"⟩, 57) := ⟨⟨by decide +kernel, by decide +kernel⟩, List.mem_of_getElem? (i := 1488) (by decide +kernel), List.mem_of_getElem? (i := 2124) (by decide +kernel), List.mem_of_getElem? (i := 2125) (by decide +kernel)⟩
theorem lw_p148 : lw_okq (⟨"StubHouseModel", "sink", "(I)V"⟩, 57) := ⟨⟨by decide +kernel, by decide +kernel⟩, List.mem_of_getElem? (i := 1488) (by decide +kernel), List.mem_of_getElem? (i := 2128) (by decide +kernel), List.mem_of_getElem? (i := 2129) (by decide +kernel)⟩
theorem lw_p149 : lw_okq (⟨"StubHouseModel", "releaseOne", "()V"⟩, 57) := ⟨⟨by decide +kernel, by decide +kernel⟩, List.mem_of_getElem? (i := 1488) (by decide +kernel), List.mem_of_getElem? (i := 2132) (by decide +kernel), List.mem_of_getElem? (i := 2133) (by decide +kernel)⟩
theorem lw_p150 : lw_okq (⟨"StubHouseModel", "heldBlocks", "()I"⟩, 57) := ⟨⟨by decide +kernel, by decide +kernel⟩, List.mem_of_getElem? (i := 1488) (by decide +kernel), List.mem_of_getElem? (i := 2145) (by decide +kernel), List.mem_of_getElem? (i := 2146) (by decide +kernel)⟩
theorem lw_p151 : lw_okq (⟨"StubHouseModel", "nodes", "()I"⟩, 57) := ⟨⟨by decide +kernel, by decide +kernel⟩, List.mem_of_getElem? (i := 1488) (by decide +kernel), List.mem_of_getElem? (i := 2149) (by decide +kernel), List.mem_of_getElem? (i := 2150) (by decide +kernel)⟩
def lw_privs_10 : List (MethodName × Nat) := [(⟨"StubHouseModel", "migrate", "()V"⟩, 57), (⟨"StubHouseModel", "inUse", "(I)I"⟩, 57), (⟨"StubHouseModel", "nextByRank", "(II)I"⟩, 57), (⟨"StubHouseModel", "rank", "(I)I"⟩, 57), (⟨"StubHouseModel", "sink", "(I)V"⟩, 57), (⟨"StubHouseModel", "releaseOne", "()V"⟩, 57), (⟨"StubHouseModel", "heldBlocks", "()I"⟩, 57), (⟨"StubHouseModel", "nodes", "()I"⟩, 57)]
theorem lw_r10 : ∀ q ∈ lw_privs_10, lw_okq q := List.forall_mem_cons.mpr ⟨lw_p144, List.forall_mem_cons.mpr ⟨lw_p145, List.forall_mem_cons.mpr ⟨lw_p146, List.forall_mem_cons.mpr ⟨lw_p147, List.forall_mem_cons.mpr ⟨lw_p148, List.forall_mem_cons.mpr ⟨lw_p149, List.forall_mem_cons.mpr ⟨lw_p150, List.forall_mem_cons.mpr ⟨lw_p151, fun _ h => absurd h List.not_mem_nil⟩⟩⟩⟩⟩⟩⟩⟩
def lw_privs : List (MethodName × Nat) := lw_privs_1 ++ (lw_privs_2 ++ (lw_privs_3 ++ (lw_privs_4 ++ (lw_privs_5 ++ (lw_privs_6 ++ (lw_privs_7 ++ (lw_privs_8 ++ (lw_privs_9 ++ (lw_privs_10)))))))))
def lw_tbl : List Cond := k2_sels lw_privs ++ tables_1
theorem lw_privs_ok : ∀ q ∈ lw_privs, lw_okq q := by
  show ∀ q ∈ lw_privs_1 ++ (lw_privs_2 ++ (lw_privs_3 ++ (lw_privs_4 ++ (lw_privs_5 ++ (lw_privs_6 ++ (lw_privs_7 ++ (lw_privs_8 ++ (lw_privs_9 ++ (lw_privs_10))))))))), lw_okq q
  exact List.forall_mem_append.mpr ⟨lw_r1, List.forall_mem_append.mpr ⟨lw_r2, List.forall_mem_append.mpr ⟨lw_r3, List.forall_mem_append.mpr ⟨lw_r4, List.forall_mem_append.mpr ⟨lw_r5, List.forall_mem_append.mpr ⟨lw_r6, List.forall_mem_append.mpr ⟨lw_r7, List.forall_mem_append.mpr ⟨lw_r8, List.forall_mem_append.mpr ⟨lw_r9, lw_r10⟩⟩⟩⟩⟩⟩⟩⟩⟩
-- ===== end of PART A; then your names; then what follows =====
end
section
def RX0 : String := "StubHouse$Changes"
def TX0 : u_T := fun k => match k with
  | 0 => ("StubHouse$Changes", "tree", "LStubHouse$Tree;", true)
  | 1 => ("StubHouse$Changes", "stores", "LStubHouse$Stores;", true)
  | 2 => ("StubHouse$Changes", "log", "LStubHouse$Log;", true)
  | 3 => ("StubHouse$Changes", "recalls", "[I", true)
  | _ => ("StubHouse$Changes", "recallCount", "I", false)
def tyX0 : Nat → FieldType := fun k => match k with
  | 0 => .object "StubHouse$Tree"
  | 1 => .object "StubHouse$Stores"
  | 2 => .object "StubHouse$Log"
  | 3 => .array .int
  | _ => .int
theorem nmX0 : ∀ a, a < 5 → ∀ b, b < 5 → a ≠ b → (TX0 a).2.1 ≠ (TX0 b).2.1 := by decide +kernel
theorem tyX0_ok : ∀ k, k < 5 → parseFieldDescriptor (TX0 k).2.2.1 = some (tyX0 k) := by decide +kernel
def RX1 : String := "StubHouse$Drive"
def TX1 : u_T := fun k => match k with
  | _ => ("", "", "", false)
def tyX1 : Nat → FieldType := fun k => match k with
  | _ => .int
theorem nmX1 : ∀ a, a < 0 → ∀ b, b < 0 → a ≠ b → (TX1 a).2.1 ≠ (TX1 b).2.1 := by decide +kernel
theorem tyX1_ok : ∀ k, k < 0 → parseFieldDescriptor (TX1 k).2.2.1 = some (tyX1 k) := by decide +kernel
def RX2 : String := "StubHouse$Library"
def TX2 : u_T := fun k => match k with
  | 0 => ("StubHouse$Library", "tree", "LStubHouse$Tree;", true)
  | 1 => ("StubHouse$Library", "tapes", "[LStubHouse$Tape;", true)
  | 2 => ("StubHouse$Library", "nextStamp", "I", false)
  | 3 => ("StubHouse$Library", "viewed", "Z", false)
  | 4 => ("StubHouse$Library", "viewCount", "I", false)
  | 5 => ("StubHouse$Library", "viewId", "[I", true)
  | 6 => ("StubHouse$Library", "viewTape", "[I", true)
  | 7 => ("StubHouse$Library", "viewIndex", "[I", true)
  | _ => ("StubHouse$Library", "order", "[I", true)
def tyX2 : Nat → FieldType := fun k => match k with
  | 0 => .object "StubHouse$Tree"
  | 1 => .array (.object "StubHouse$Tape")
  | 2 => .int
  | 3 => .boolean
  | 4 => .int
  | 5 => .array .int
  | 6 => .array .int
  | 7 => .array .int
  | _ => .array .int
theorem nmX2 : ∀ a, a < 9 → ∀ b, b < 9 → a ≠ b → (TX2 a).2.1 ≠ (TX2 b).2.1 := by decide +kernel
theorem tyX2_ok : ∀ k, k < 9 → parseFieldDescriptor (TX2 k).2.2.1 = some (tyX2 k) := by decide +kernel
def RX3 : String := "StubHouse$Log"
def TX3 : u_T := fun k => match k with
  | 0 => ("StubHouse$Log", "tree", "LStubHouse$Tree;", true)
  | 1 => ("StubHouse$Log", "stores", "LStubHouse$Stores;", true)
  | 2 => ("StubHouse$Log", "before", "[LStubHouse$Node;", true)
  | 3 => ("StubHouse$Log", "nodeOf", "[I", true)
  | 4 => ("StubHouse$Log", "lengthOf", "[I", true)
  | 5 => ("StubHouse$Log", "deleteOf", "[I", true)
  | 6 => ("StubHouse$Log", "count", "I", false)
  | 7 => ("StubHouse$Log", "bytes", "I", false)
  | 8 => ("StubHouse$Log", "deleteId", "[I", true)
  | 9 => ("StubHouse$Log", "deleteKept", "[Z", true)
  | _ => ("StubHouse$Log", "deletes", "I", false)
def tyX3 : Nat → FieldType := fun k => match k with
  | 0 => .object "StubHouse$Tree"
  | 1 => .object "StubHouse$Stores"
  | 2 => .array (.object "StubHouse$Node")
  | 3 => .array .int
  | 4 => .array .int
  | 5 => .array .int
  | 6 => .int
  | 7 => .int
  | 8 => .array .int
  | 9 => .array .boolean
  | _ => .int
theorem nmX3 : ∀ a, a < 11 → ∀ b, b < 11 → a ≠ b → (TX3 a).2.1 ≠ (TX3 b).2.1 := by decide +kernel
theorem tyX3_ok : ∀ k, k < 11 → parseFieldDescriptor (TX3 k).2.2.1 = some (tyX3 k) := by decide +kernel
def RX4 : String := "StubHouse$Migrator"
def TX4 : u_T := fun k => match k with
  | 0 => ("StubHouse$Migrator", "changes", "LStubHouse$Changes;", true)
  | 1 => ("StubHouse$Migrator", "writer", "LStubHouse$Writer;", true)
  | 2 => ("StubHouse$Migrator", "tree", "LStubHouse$Tree;", true)
  | 3 => ("StubHouse$Migrator", "stores", "LStubHouse$Stores;", true)
  | 4 => ("StubHouse$Migrator", "high", "[I", true)
  | 5 => ("StubHouse$Migrator", "low", "[I", true)
  | 6 => ("StubHouse$Migrator", "fastMode", "Z", false)
  | 7 => ("StubHouse$Migrator", "slowMode", "Z", false)
  | 8 => ("StubHouse$Migrator", "ranked", "[I", true)
  | 9 => ("StubHouse$Migrator", "ranks", "[I", true)
  | _ => ("StubHouse$Migrator", "rankedCount", "I", false)
def tyX4 : Nat → FieldType := fun k => match k with
  | 0 => .object "StubHouse$Changes"
  | 1 => .object "StubHouse$Writer"
  | 2 => .object "StubHouse$Tree"
  | 3 => .object "StubHouse$Stores"
  | 4 => .array .int
  | 5 => .array .int
  | 6 => .boolean
  | 7 => .boolean
  | 8 => .array .int
  | 9 => .array .int
  | _ => .int
theorem nmX4 : ∀ a, a < 11 → ∀ b, b < 11 → a ≠ b → (TX4 a).2.1 ≠ (TX4 b).2.1 := by decide +kernel
theorem tyX4_ok : ∀ k, k < 11 → parseFieldDescriptor (TX4 k).2.2.1 = some (tyX4 k) := by decide +kernel
def RX5 : String := "StubHouse$Node"
def TX5 : u_T := fun k => match k with
  | 0 => ("StubHouse$Node", "kind", "I", false)
  | 1 => ("StubHouse$Node", "over", "I", false)
  | 2 => ("StubHouse$Node", "title", "J", false)
  | 3 => ("StubHouse$Node", "id", "I", false)
  | 4 => ("StubHouse$Node", "size", "I", false)
  | 5 => ("StubHouse$Node", "version", "I", false)
  | 6 => ("StubHouse$Node", "touch", "I", false)
  | 7 => ("StubHouse$Node", "copyCount", "I", false)
  | 8 => ("StubHouse$Node", "copyTape", "[I", true)
  | 9 => ("StubHouse$Node", "copyPlace", "[I", true)
  | 10 => ("StubHouse$Node", "home", "[I", true)
  | 11 => ("StubHouse$Node", "inFast", "I", false)
  | _ => ("StubHouse$Node", "inSlow", "I", false)
def tyX5 : Nat → FieldType := fun k => match k with
  | 0 => .int
  | 1 => .int
  | 2 => .long
  | 3 => .int
  | 4 => .int
  | 5 => .int
  | 6 => .int
  | 7 => .int
  | 8 => .array .int
  | 9 => .array .int
  | 10 => .array .int
  | 11 => .int
  | _ => .int
theorem nmX5 : ∀ a, a < 13 → ∀ b, b < 13 → a ≠ b → (TX5 a).2.1 ≠ (TX5 b).2.1 := by decide +kernel
theorem tyX5_ok : ∀ k, k < 13 → parseFieldDescriptor (TX5 k).2.2.1 = some (tyX5 k) := by decide +kernel
def RX6 : String := "StubHouse$Reader"
def TX6 : u_T := fun k => match k with
  | 0 => ("StubHouse$Drive", "mounted", "I", false)
  | 1 => ("StubHouse$Drive", "head", "I", false)
  | 2 => ("StubHouse$Drive", "act", "I", false)
  | 3 => ("StubHouse$Drive", "left", "I", false)
  | 4 => ("StubHouse$Drive", "goal", "I", false)
  | 5 => ("StubHouse$Reader", "library", "LStubHouse$Library;", true)
  | 6 => ("StubHouse$Reader", "changes", "LStubHouse$Changes;", true)
  | 7 => ("StubHouse$Reader", "wants", "I", false)
  | 8 => ("StubHouse$Reader", "readNode", "I", false)
  | 9 => ("StubHouse$Reader", "readId", "I", false)
  | 10 => ("StubHouse$Reader", "readPlace", "I", false)
  | 11 => ("StubHouse$Reader", "readEnd", "I", false)
  | 12 => ("StubHouse$Reader", "reclaimed", "I", false)
  | 13 => ("StubHouse$Reader", "from", "I", false)
  | 14 => ("StubHouse$Reader", "parcel", "[B", true)
  | 15 => ("StubHouse$Reader", "parcelLength", "I", false)
  | _ => ("StubHouse$Reader", "parcelPlace", "I", false)
def tyX6 : Nat → FieldType := fun k => match k with
  | 0 => .int
  | 1 => .int
  | 2 => .int
  | 3 => .int
  | 4 => .int
  | 5 => .object "StubHouse$Library"
  | 6 => .object "StubHouse$Changes"
  | 7 => .int
  | 8 => .int
  | 9 => .int
  | 10 => .int
  | 11 => .int
  | 12 => .int
  | 13 => .int
  | 14 => .array .byte
  | 15 => .int
  | _ => .int
theorem nmX6 : ∀ a, a < 17 → ∀ b, b < 17 → a ≠ b → (TX6 a).2.1 ≠ (TX6 b).2.1 := by decide +kernel
theorem tyX6_ok : ∀ k, k < 17 → parseFieldDescriptor (TX6 k).2.2.1 = some (tyX6 k) := by decide +kernel
def RX7 : String := "StubHouse$Stores"
def TX7 : u_T := fun k => match k with
  | 0 => ("StubHouse$Stores", "bytes", "[B", true)
  | 1 => ("StubHouse$Stores", "state", "[I", true)
  | 2 => ("StubHouse$Stores", "free", "[I", true)
  | 3 => ("StubHouse$Stores", "used", "[I", true)
  | _ => ("StubHouse$Stores", "heldCount", "I", false)
def tyX7 : Nat → FieldType := fun k => match k with
  | 0 => .array .byte
  | 1 => .array .int
  | 2 => .array .int
  | 3 => .array .int
  | _ => .int
theorem nmX7 : ∀ a, a < 5 → ∀ b, b < 5 → a ≠ b → (TX7 a).2.1 ≠ (TX7 b).2.1 := by decide +kernel
theorem tyX7_ok : ∀ k, k < 5 → parseFieldDescriptor (TX7 k).2.2.1 = some (tyX7 k) := by decide +kernel
def RX8 : String := "StubHouse$Tape"
def TX8 : u_T := fun k => match k with
  | 0 => ("StubHouse$Tape", "bytes", "[B", true)
  | 1 => ("StubHouse$Tape", "length", "I", false)
  | 2 => ("StubHouse$Tape", "generation", "I", false)
  | 3 => ("StubHouse$Tape", "scannedTo", "I", false)
  | 4 => ("StubHouse$Tape", "hasGaps", "Z", false)
  | 5 => ("StubHouse$Tape", "found", "I", false)
  | 6 => ("StubHouse$Tape", "places", "[I", true)
  | 7 => ("StubHouse$Tape", "ids", "[I", true)
  | 8 => ("StubHouse$Tape", "stamps", "[I", true)
  | _ => ("StubHouse$Tape", "good", "[Z", true)
def tyX8 : Nat → FieldType := fun k => match k with
  | 0 => .array .byte
  | 1 => .int
  | 2 => .int
  | 3 => .int
  | 4 => .boolean
  | 5 => .int
  | 6 => .array .int
  | 7 => .array .int
  | 8 => .array .int
  | _ => .array .boolean
theorem nmX8 : ∀ a, a < 10 → ∀ b, b < 10 → a ≠ b → (TX8 a).2.1 ≠ (TX8 b).2.1 := by decide +kernel
theorem tyX8_ok : ∀ k, k < 10 → parseFieldDescriptor (TX8 k).2.2.1 = some (tyX8 k) := by decide +kernel
def RX9 : String := "StubHouse$Tree"
def TX9 : u_T := fun k => match k with
  | 0 => ("StubHouse$Tree", "nodes", "[LStubHouse$Node;", true)
  | 1 => ("StubHouse$Tree", "time", "I", false)
  | 2 => ("StubHouse$Tree", "nextId", "I", false)
  | 3 => ("StubHouse$Tree", "nextVersion", "I", false)
  | _ => ("StubHouse$Tree", "copiesWanted", "I", false)
def tyX9 : Nat → FieldType := fun k => match k with
  | 0 => .array (.object "StubHouse$Node")
  | 1 => .int
  | 2 => .int
  | 3 => .int
  | _ => .int
theorem nmX9 : ∀ a, a < 5 → ∀ b, b < 5 → a ≠ b → (TX9 a).2.1 ≠ (TX9 b).2.1 := by decide +kernel
theorem tyX9_ok : ∀ k, k < 5 → parseFieldDescriptor (TX9 k).2.2.1 = some (tyX9 k) := by decide +kernel
def RX10 : String := "StubHouse$Writer"
def TX10 : u_T := fun k => match k with
  | 0 => ("StubHouse$Drive", "mounted", "I", false)
  | 1 => ("StubHouse$Drive", "head", "I", false)
  | 2 => ("StubHouse$Drive", "act", "I", false)
  | 3 => ("StubHouse$Drive", "left", "I", false)
  | 4 => ("StubHouse$Drive", "goal", "I", false)
  | 5 => ("StubHouse$Writer", "library", "LStubHouse$Library;", true)
  | 6 => ("StubHouse$Writer", "changes", "LStubHouse$Changes;", true)
  | 7 => ("StubHouse$Writer", "reader", "LStubHouse$Reader;", true)
  | 8 => ("StubHouse$Writer", "queueNode", "[I", true)
  | 9 => ("StubHouse$Writer", "queueId", "[I", true)
  | 10 => ("StubHouse$Writer", "queued", "I", false)
  | 11 => ("StubHouse$Writer", "buffer", "[B", true)
  | 12 => ("StubHouse$Writer", "bufferLength", "I", false)
  | 13 => ("StubHouse$Writer", "task", "I", false)
  | 14 => ("StubHouse$Writer", "taskNode", "I", false)
  | 15 => ("StubHouse$Writer", "taskId", "I", false)
  | _ => ("StubHouse$Writer", "taskVersion", "I", false)
def tyX10 : Nat → FieldType := fun k => match k with
  | 0 => .int
  | 1 => .int
  | 2 => .int
  | 3 => .int
  | 4 => .int
  | 5 => .object "StubHouse$Library"
  | 6 => .object "StubHouse$Changes"
  | 7 => .object "StubHouse$Reader"
  | 8 => .array .int
  | 9 => .array .int
  | 10 => .int
  | 11 => .array .byte
  | 12 => .int
  | 13 => .int
  | 14 => .int
  | 15 => .int
  | _ => .int
theorem nmX10 : ∀ a, a < 17 → ∀ b, b < 17 → a ≠ b → (TX10 a).2.1 ≠ (TX10 b).2.1 := by decide +kernel
theorem tyX10_ok : ∀ k, k < 17 → parseFieldDescriptor (TX10 k).2.2.1 = some (tyX10 k) := by decide +kernel
def RX11 : String := "StubHouse"
def TX11 : u_T := fun k => match k with
  | 0 => ("StubHouse", "tree", "LStubHouse$Tree;", true)
  | 1 => ("StubHouse", "stores", "LStubHouse$Stores;", true)
  | 2 => ("StubHouse", "log", "LStubHouse$Log;", true)
  | 3 => ("StubHouse", "changes", "LStubHouse$Changes;", true)
  | 4 => ("StubHouse", "library", "LStubHouse$Library;", true)
  | 5 => ("StubHouse", "reader", "LStubHouse$Reader;", true)
  | 6 => ("StubHouse", "writer", "LStubHouse$Writer;", true)
  | 7 => ("StubHouse", "migrator", "LStubHouse$Migrator;", true)
  | 8 => ("StubHouse", "hand", "[B", true)
  | 9 => ("StubHouse", "handCount", "I", false)
  | _ => ("StubHouse", "lost", "Z", false)
def tyX11 : Nat → FieldType := fun k => match k with
  | 0 => .object "StubHouse$Tree"
  | 1 => .object "StubHouse$Stores"
  | 2 => .object "StubHouse$Log"
  | 3 => .object "StubHouse$Changes"
  | 4 => .object "StubHouse$Library"
  | 5 => .object "StubHouse$Reader"
  | 6 => .object "StubHouse$Writer"
  | 7 => .object "StubHouse$Migrator"
  | 8 => .array .byte
  | 9 => .int
  | _ => .boolean
theorem nmX11 : ∀ a, a < 11 → ∀ b, b < 11 → a ≠ b → (TX11 a).2.1 ≠ (TX11 b).2.1 := by decide +kernel
theorem tyX11_ok : ∀ k, k < 11 → parseFieldDescriptor (TX11 k).2.2.1 = some (tyX11 k) := by decide +kernel
def RX12 : String := "StubHouseModel"
def TX12 : u_T := fun k => match k with
  | 0 => ("StubHouseModel", "thrown", "I", false)
  | 1 => ("StubHouseModel", "now", "[I", true)
  | 2 => ("StubHouseModel", "names", "[J", true)
  | 3 => ("StubHouseModel", "touch", "[I", true)
  | 4 => ("StubHouseModel", "copied", "[I", true)
  | 5 => ("StubHouseModel", "copiedNames", "[J", true)
  | 6 => ("StubHouseModel", "recordBytes", "[I", true)
  | 7 => ("StubHouseModel", "records", "I", false)
  | 8 => ("StubHouseModel", "use", "[I", true)
  | 9 => ("StubHouseModel", "bytes", "[B", true)
  | 10 => ("StubHouseModel", "isKept", "[Z", true)
  | 11 => ("StubHouseModel", "time", "I", false)
  | 12 => ("StubHouseModel", "nextId", "I", false)
  | 13 => ("StubHouseModel", "nextStamp", "I", false)
  | 14 => ("StubHouseModel", "nextVersion", "I", false)
  | 15 => ("StubHouseModel", "isLost", "Z", false)
  | 16 => ("StubHouseModel", "hand", "[B", true)
  | 17 => ("StubHouseModel", "handSize", "I", false)
  | 18 => ("StubHouseModel", "wanted", "I", false)
  | 19 => ("StubHouseModel", "high", "[I", true)
  | 20 => ("StubHouseModel", "low", "[I", true)
  | 21 => ("StubHouseModel", "tapes", "[B", true)
  | 22 => ("StubHouseModel", "length", "[I", true)
  | 23 => ("StubHouseModel", "generation", "[I", true)
  | 24 => ("StubHouseModel", "segments", "[I", true)
  | 25 => ("StubHouseModel", "found", "[I", true)
  | 26 => ("StubHouseModel", "isScanned", "[Z", true)
  | 27 => ("StubHouseModel", "viewTape", "[I", true)
  | 28 => ("StubHouseModel", "viewSegment", "[I", true)
  | 29 => ("StubHouseModel", "views", "I", false)
  | 30 => ("StubHouseModel", "tapeIn", "[I", true)
  | 31 => ("StubHouseModel", "head", "[I", true)
  | 32 => ("StubHouseModel", "act", "[I", true)
  | 33 => ("StubHouseModel", "toGo", "[I", true)
  | 34 => ("StubHouseModel", "goal", "[I", true)
  | 35 => ("StubHouseModel", "recall", "[I", true)
  | 36 => ("StubHouseModel", "recalls", "I", false)
  | 37 => ("StubHouseModel", "waiting", "[I", true)
  | 38 => ("StubHouseModel", "waits", "I", false)
  | 39 => ("StubHouseModel", "reclaiming", "I", false)
  | 40 => ("StubHouseModel", "readId", "I", false)
  | 41 => ("StubHouseModel", "readPlace", "I", false)
  | 42 => ("StubHouseModel", "lastRead", "I", false)
  | 43 => ("StubHouseModel", "hasRead", "Z", false)
  | 44 => ("StubHouseModel", "readBytes", "[B", true)
  | 45 => ("StubHouseModel", "readSize", "I", false)
  | 46 => ("StubHouseModel", "readSort", "I", false)
  | 47 => ("StubHouseModel", "readOf", "I", false)
  | 48 => ("StubHouseModel", "readFrom", "I", false)
  | 49 => ("StubHouseModel", "writes", "I", false)
  | 50 => ("StubHouseModel", "out", "[B", true)
  | 51 => ("StubHouseModel", "outSize", "I", false)
  | 52 => ("StubHouseModel", "outSort", "I", false)
  | 53 => ("StubHouseModel", "outId", "I", false)
  | 54 => ("StubHouseModel", "outVersion", "I", false)
  | 55 => ("StubHouseModel", "wants", "Z", false)
  | _ => ("StubHouseModel", "isOn", "[Z", true)
def tyX12 : Nat → FieldType := fun k => match k with
  | 0 => .int
  | 1 => .array .int
  | 2 => .array .long
  | 3 => .array .int
  | 4 => .array .int
  | 5 => .array .long
  | 6 => .array .int
  | 7 => .int
  | 8 => .array .int
  | 9 => .array .byte
  | 10 => .array .boolean
  | 11 => .int
  | 12 => .int
  | 13 => .int
  | 14 => .int
  | 15 => .boolean
  | 16 => .array .byte
  | 17 => .int
  | 18 => .int
  | 19 => .array .int
  | 20 => .array .int
  | 21 => .array .byte
  | 22 => .array .int
  | 23 => .array .int
  | 24 => .array .int
  | 25 => .array .int
  | 26 => .array .boolean
  | 27 => .array .int
  | 28 => .array .int
  | 29 => .int
  | 30 => .array .int
  | 31 => .array .int
  | 32 => .array .int
  | 33 => .array .int
  | 34 => .array .int
  | 35 => .array .int
  | 36 => .int
  | 37 => .array .int
  | 38 => .int
  | 39 => .int
  | 40 => .int
  | 41 => .int
  | 42 => .int
  | 43 => .boolean
  | 44 => .array .byte
  | 45 => .int
  | 46 => .int
  | 47 => .int
  | 48 => .int
  | 49 => .int
  | 50 => .array .byte
  | 51 => .int
  | 52 => .int
  | 53 => .int
  | 54 => .int
  | 55 => .boolean
  | _ => .array .boolean
theorem nmX12 : ∀ a, a < 57 → ∀ b, b < 57 → a ≠ b → (TX12 a).2.1 ≠ (TX12 b).2.1 := by decide +kernel
theorem tyX12_ok : ∀ k, k < 57 → parseFieldDescriptor (TX12 k).2.2.1 = some (tyX12 k) := by decide +kernel
abbrev vwCl : List vw_C := [(RX0, TX0, 5), (RX2, TX2, 9), (RX3, TX3, 11), (RX4, TX4, 11), (RX5, TX5, 13), (RX6, TX6, 17), (RX7, TX7, 5), (RX8, TX8, 10), (RX9, TX9, 5), (RX10, TX10, 17), (RX11, TX11, 11), (RX12, TX12, 57)]
end
section
/-! An abstract run of bytecode, by computation. A number n codes a value: n % 8 its sort, n / 8 its payload.
0 int, 1 long, 2 null (payload 0) or the script (payload 1), 3 a cell of the world by its place, 4 an unknown int that has a name, 5 the same as a long, 6 any int, 7 a long (payload 0: any) -/
abbrev zxLV : Type := List (Nat × Nat)
abbrev zxCE : Type := Nat × Nat × List Nat × List (Nat × Nat)
abbrev zxHP : Type := Nat × List (List zxCE)
abbrev zxST : Type := List (Nat × Nat × Nat)
abbrev zxKT : Type := Nat → zxLV → List Nat → zxHP → zxST → Nat → Nat → Bool
abbrev zxHD : Type := Nat → Nat → Nat → List Nat → zxLV → List Nat → zxHP → zxST → Nat → Nat → zxKT → Bool
noncomputable def zx_N {α : Type} (d : α) (l : List α) : Nat → α := List.rec (motive := fun _ => Nat → α) (fun _ => d) (fun x _ ih i => Nat.rec (motive := fun _ => α) x (fun j _ => ih j) i) l
noncomputable def zx_F {β : Type} (n : Nat) (k : Nat → β) : β := Nat.rec (motive := fun _ => β) (k 0) (fun j _ => k (Nat.succ j)) n
noncomputable def zx_S {α β : Type} (l : List α) : Nat → α → (List α → β) → β := List.rec (motive := fun _ => Nat → α → (List α → β) → β) (fun _ _ k => k []) (fun x xs ih i v k => Nat.rec (motive := fun _ => β) (k (v :: xs)) (fun j _ => ih j v (fun r => k (x :: r))) i) l
noncomputable def zx_P {α β : Type} (l : List α) (v : α) : (List α → β) → β := List.rec (motive := fun _ => (List α → β) → β) (fun k => k [v]) (fun x _ ih k => ih (fun r => k (x :: r))) l
noncomputable def zx_A (l : List (Nat × Nat)) (d i : Nat) : Nat := List.rec (motive := fun _ => Nat) d (fun q _ ih => match q with | (a, v) => cond (Nat.beq a i) v ih) l
noncomputable def zx_Z {α : Type} (l : List α) : Nat := List.rec (motive := fun _ => Nat) 0 (fun _ _ ih => Nat.succ ih) l
def zx_i (c : Nat) : Bool := Nat.beq (c % 8) 0 || (Nat.beq (c % 8) 4 || Nat.beq (c % 8) 6)
def zx_2 (c : Nat) : Bool := Nat.beq (c % 8) 1 || (Nat.beq (c % 8) 5 || Nat.beq (c % 8) 7)
def zx_r (c : Nat) : Bool := Nat.beq (c % 8) 3 || Nat.beq c 10
def zx_drop (wide : Bool) (i : Nat) (q : Nat × Nat) : Bool := match q with | (a, v) => Nat.beq a i || ((Nat.beq (Nat.succ a) i && zx_2 v) || (wide && Nat.beq a (Nat.succ i)))
noncomputable def zx_L {β : Type} (wide : Bool) (i : Nat) (l : zxLV) : (zxLV → β) → β := List.rec (motive := fun _ => (zxLV → β) → β) (fun k => k []) (fun q _ ih k => cond (zx_drop wide i q) (ih k) (ih (fun r => k (q :: r)))) l
noncomputable def zx_G (h : zxHP) (k : Nat) : zxCE := match h with | (_, cs) => zx_N (0, 0, [], []) (zx_N [] cs (k / 32)) (k % 32)
noncomputable def zx_H {β : Type} (h : zxHP) (k : Nat) (E : zxCE) (kk : zxHP → β) : β := match h with | (n, cs) => zx_S (zx_N [] cs (k / 32)) (k % 32) E (fun ch => zx_S cs (k / 32) ch (fun cs2 => kk (n, cs2)))
/-- a new cell behind the last one -/
noncomputable def zx_B (h : zxHP) (E : zxCE) (kk : Nat → zxHP → Bool) : Bool := match h with | (n, cs) => zx_F (Nat.succ n) (fun n1 => cond (Nat.beq (n % 32) 0) (cond (Nat.beq (zx_Z cs) (n / 32)) (zx_P cs [E] (fun cs2 => kk n (n1, cs2))) false)
  (cond (Nat.beq (zx_Z (zx_N [] cs (n / 32))) (n % 32) && Nat.blt (n / 32) (zx_Z cs)) (zx_P (zx_N [] cs (n / 32)) E (fun ch => zx_S cs (n / 32) ch (fun cs2 => kk n (n1, cs2)))) false))
/-- what is known of a named number: its least and its greatest, moved by 2 ^ 31 -/
noncomputable def zx_V {β : Type} (st : zxST) (id : Nat) (kk : Nat → Nat → β) : β := List.rec (motive := fun _ => β) (kk 0 4294967295) (fun q _ ih => match q with | (a, lo, hi) => cond (Nat.beq a id) (kk lo hi) ih) st
def zx_u (p : Nat) : Nat := (p + 2147483648) % 4294967296
noncomputable def zx_M {β : Type} (c : Nat) (st : zxST) (kk : Nat → β) : β := cond (Nat.beq (c % 8) 4) (zx_V st (c / 8) (fun lo hi => cond (Nat.beq lo hi && Nat.blt (c / 8) 300) (zx_F (8 * zx_u lo) kk) (kk c))) (kk c)
noncomputable def zx_R (n : Nat) (f : Nat → Bool) : Bool := Nat.rec (motive := fun _ => Bool) true (fun j ih => and (f j) ih) n
noncomputable def zx_C (c : Nat) (st : zxST) (kk : Nat → zxST → Bool) : Bool := cond (Nat.beq (c % 8) 4) (zx_F (c / 8) (fun id => zx_V st id (fun lo hi => cond (Nat.ble (hi - lo) 64 && (Nat.ble lo hi && Nat.blt id 300)) (zx_R (Nat.succ (hi - lo)) (fun j => zx_F (lo + j) (fun v => zx_F (8 * zx_u v) (fun cv => kk cv ((id, v, v) :: st))))) (kk c st)))) (kk c st)
noncomputable def zx_X (st : zxST) (id b : Nat) (kk : Nat → zxST → Bool) : Bool := zx_V st id (fun lo hi => and (cond (Nat.blt lo b) (zx_F (cond (Nat.blt hi b) hi (b - 1)) (fun h1 => kk 0 ((id, lo, h1) :: st))) true) (and (cond (Nat.ble lo b && Nat.ble b hi) (kk 1 ((id, b, b) :: st)) true) (cond (Nat.blt b hi) (zx_F (cond (Nat.blt b lo) lo (Nat.succ b)) (fun l1 => kk 2 ((id, l1, hi) :: st))) true)))
def zx_ord (p q : Nat) : Nat := cond (Nat.blt p q) 0 (cond (Nat.beq p q) 1 2)
/-- two named numbers, which is the greater: a name of its own for that -/
noncomputable def zx_Y (st : zxST) (i j : Nat) (kk : Nat → zxST → Bool) : Bool := cond (Nat.beq i j) (kk 1 st) (cond (Nat.blt i 16 && Nat.blt j 16) (zx_F (300 + 16 * i + j) (fun id => zx_V st id (fun lo hi => and (cond (Nat.ble lo 0) (kk 0 ((id, 0, 0) :: st)) true) (and (cond (Nat.ble lo 1 && Nat.ble 1 hi) (kk 1 ((id, 1, 1) :: st)) true) (cond (Nat.ble 2 hi) (kk 2 ((id, 2, 2) :: st)) true))))) false)
noncomputable def zx_K (x y : Nat) (st : zxST) (kk : Nat → zxST → Bool) : Bool := zx_M x st (fun x => zx_M y st (fun y =>
  cond (Nat.beq (x % 8) 0) (cond (Nat.beq (y % 8) 0) (kk (zx_ord (zx_u (x / 8)) (zx_u (y / 8))) st) (cond (Nat.beq (y % 8) 4 && Nat.blt (y / 8) 300) (zx_F (y / 8) (fun id => zx_F (zx_u (x / 8)) (fun b => zx_X st id b (fun o s => kk (2 - o) s)))) false))
    (cond (Nat.beq (x % 8) 4 && Nat.blt (x / 8) 300) (cond (Nat.beq (y % 8) 0) (zx_F (x / 8) (fun id => zx_F (zx_u (y / 8)) (fun b => zx_X st id b kk))) (cond (Nat.beq (y % 8) 4) (zx_F (x / 8) (fun i => zx_F (y / 8) (fun j => zx_Y st i j kk))) false)) false)))
def zx_T (b o : Nat) : Bool := Nat.beq (b / cond (Nat.beq o 0) 1 (cond (Nat.beq o 1) 2 4) % 2) 1
-- one instruction each
def zh_push : zxHD := fun a _ nxt _ lv stk hp st u w k => k nxt lv (a :: stk) hp st u w
noncomputable def zh_iload : zxHD := fun a _ nxt _ lv stk hp st u w k => zx_F (zx_A lv 74 a) (fun c => cond (zx_i c) (k nxt lv (c :: stk) hp st u w) false)
noncomputable def zh_lload : zxHD := fun a _ nxt _ lv stk hp st u w k => zx_F (zx_A lv 74 a) (fun c => cond (zx_2 c) (k nxt lv (c :: stk) hp st u w) false)
noncomputable def zh_aload : zxHD := fun a _ nxt _ lv stk hp st u w k => zx_F (zx_A lv 74 a) (fun c => cond (zx_r c) (k nxt lv (c :: stk) hp st u w) false)
noncomputable def zh_istore : zxHD := fun a b nxt _ lv stk hp st u w k => match stk with | c :: r => cond (zx_i c && Nat.blt a b) (zx_L false a lv (fun l => k nxt ((a, c) :: l) r hp st u w)) false | _ => false
noncomputable def zh_lstore : zxHD := fun a b nxt _ lv stk hp st u w k => match stk with | c :: r => cond (zx_2 c && Nat.blt (Nat.succ a) b) (zx_L true a lv (fun l => k nxt ((a, c) :: l) r hp st u w)) false | _ => false
noncomputable def zh_astore : zxHD := fun a b nxt _ lv stk hp st u w k => match stk with | c :: r => cond (zx_r c && Nat.blt a b) (zx_L false a lv (fun l => k nxt ((a, c) :: l) r hp st u w)) false | _ => false
/-- iinc: a the place, b the number of locals, d = [the number that is added, as an int's payload] -/
noncomputable def zh_iinc : zxHD := fun a b nxt d lv stk hp st u w k => match d with | [n] => zx_F (zx_A lv 74 a) (fun c => cond (zx_i c && Nat.blt a b) (zx_F (cond (Nat.beq (c % 8) 0) (8 * ((c / 8 + n) % 4294967296)) 6) (fun v => zx_L false a lv (fun l => k nxt ((a, v) :: l) stk hp st u w))) false) | _ => false
noncomputable def zh_iadd : zxHD := fun _ _ nxt _ lv stk hp st u w k => match stk with | y :: x :: r => zx_C y st (fun y s1 => zx_C x s1 (fun x s2 => cond (zx_i x && zx_i y) (zx_F (cond (Nat.beq x 0) y (cond (Nat.beq y 0) x (cond (Nat.beq (x % 8) 0 && Nat.beq (y % 8) 0) (8 * ((x / 8 + y / 8) % 4294967296)) 6))) (fun v => k nxt lv (v :: r) hp s2 u w)) false)) | _ => false
noncomputable def zh_isub : zxHD := fun _ _ nxt _ lv stk hp st u w k => match stk with | y :: x :: r => zx_C y st (fun y s1 => zx_C x s1 (fun x s2 => cond (zx_i x && zx_i y) (zx_F (cond (Nat.beq (x % 8) 0 && Nat.beq (y % 8) 0) (8 * ((x / 8 + (4294967296 - y / 8 % 4294967296)) % 4294967296)) 6) (fun v => k nxt lv (v :: r) hp s2 u w)) false)) | _ => false
noncomputable def zh_imul : zxHD := fun _ _ nxt _ lv stk hp st u w k => match stk with | y :: x :: r => zx_C y st (fun y s1 => zx_C x s1 (fun x s2 => cond (zx_i x && zx_i y) (zx_F (cond (Nat.beq (x % 8) 0 && Nat.beq (y % 8) 0) (8 * ((x / 8 * (y / 8)) % 4294967296)) 6) (fun v => k nxt lv (v :: r) hp s2 u w)) false)) | _ => false
/-- iand with 31 alone: each of the 32 answers -/
noncomputable def zh_iand : zxHD := fun _ _ nxt _ lv stk hp st u w k => match stk with | y :: x :: r => cond (Nat.beq y 248 && zx_i x) (zx_R 32 (fun j => zx_F (8 * j) (fun v => k nxt lv (v :: r) hp st u w))) false | _ => false
noncomputable def zh_i2b : zxHD := fun _ _ nxt _ lv stk hp st u w k => match stk with | c :: r => cond (zx_i c) (zx_M c st (fun c => zx_F (cond (Nat.beq (c % 8) 0) (8 * cond (Nat.blt (c / 8 % 256) 128) (c / 8 % 256) (c / 8 % 256 + 4294967040)) 6) (fun v => k nxt lv (v :: r) hp st u w))) false | _ => false
noncomputable def zh_i2l : zxHD := fun _ _ nxt _ lv stk hp st u w k => match stk with | c :: r => cond (zx_i c) (zx_M c st (fun c => zx_F (cond (Nat.beq (c % 8) 0) (8 * cond (Nat.blt (c / 8 % 4294967296) 2147483648) (c / 8 % 4294967296) (c / 8 % 4294967296 + 18446744069414584320) + 1) (cond (Nat.beq (c % 8) 4) (Nat.succ c) 7)) (fun v => k nxt lv (v :: r) hp st u w))) false | _ => false
noncomputable def zh_l2i : zxHD := fun _ _ nxt _ lv stk hp st u w k => match stk with | c :: r => cond (zx_2 c) (zx_F (cond (Nat.beq (c % 8) 1) (8 * (c / 8 % 4294967296)) 6) (fun v => k nxt lv (v :: r) hp st u w)) false | _ => false
noncomputable def zh_lshl : zxHD := fun _ _ nxt _ lv stk hp st u w k => match stk with | y :: x :: r => cond (zx_2 x && zx_i y) (zx_F (cond (Nat.beq (x % 8) 5 && (Nat.beq y 256 && Nat.blt (x / 8) 100)) (8 * (100 + x / 8) + 7) 7) (fun v => k nxt lv (v :: r) hp st u w)) false | _ => false
noncomputable def zh_lushr : zxHD := fun _ _ nxt _ lv stk hp st u w k => match stk with | y :: x :: r => cond (zx_2 x && zx_i y) (k nxt lv (7 :: r) hp st u w) false | _ => false
noncomputable def zh_land : zxHD := fun _ _ nxt _ lv stk hp st u w k => match stk with | y :: x :: r => cond (zx_2 x && zx_2 y) (zx_F (cond (Nat.beq (x % 8) 5 && (Nat.beq y 34359738361 && Nat.blt (x / 8) 100)) (8 * (200 + x / 8) + 7) 7) (fun v => k nxt lv (v :: r) hp st u w)) false | _ => false
noncomputable def zh_lor : zxHD := fun _ _ nxt _ lv stk hp st u w k => match stk with | y :: x :: r => cond (zx_2 x && zx_2 y) (zx_F (cond (Nat.beq (x % 8) 7 && (Nat.beq (y % 8) 7 && (Nat.ble 100 (x / 8) && (Nat.blt (x / 8) 108 && (Nat.ble 200 (y / 8) && Nat.blt (y / 8) 208))))) (8 * (1000 + 8 * (x / 8 - 100) + (y / 8 - 200)) + 7) 7) (fun v => k nxt lv (v :: r) hp st u w)) false | _ => false
def zx_w (p : Nat) : Nat := (p + 9223372036854775808) % 18446744073709551616
def zx_sm (p : Nat) : Bool := Nat.blt p 2147483648 || (Nat.ble 18446744071562067968 p && Nat.blt p 18446744073709551616)
def zx_lb (p : Nat) : Nat := (p + 2147483648) % 18446744073709551616
noncomputable def zh_lcmp : zxHD := fun _ _ nxt _ lv stk hp st u w k => match stk with
  | y :: x :: r => cond (Nat.beq (x % 8) 1) (cond (Nat.beq (y % 8) 1) (zx_F (8 * cond (Nat.blt (zx_w (x / 8)) (zx_w (y / 8))) 4294967295 (cond (Nat.beq (zx_w (x / 8)) (zx_w (y / 8))) 0 1)) (fun v => k nxt lv (v :: r) hp st u w)) (cond (Nat.beq (y % 8) 5 && (Nat.blt (y / 8) 300 && Nat.blt (x / 8) 2147483648)) (zx_F (y / 8) (fun id => zx_F (x / 8 + 2147483648) (fun b => zx_X st id b (fun o s => zx_F (8 * cond (Nat.beq (2 - o) 0) 4294967295 (2 - o - 1)) (fun v => k nxt lv (v :: r) hp s u w))))) false))
      (cond (Nat.beq (x % 8) 5 && Nat.blt (x / 8) 300) (cond (Nat.beq (y % 8) 1 && zx_sm (y / 8)) (zx_F (x / 8) (fun id => zx_F (zx_lb (y / 8)) (fun b => zx_X st id b (fun o s => zx_F (8 * cond (Nat.beq o 0) 4294967295 (o - 1)) (fun v => k nxt lv (v :: r) hp s u w)))))
        (cond (Nat.beq (y % 8) 5) (zx_F (x / 8) (fun i => zx_F (y / 8) (fun j => zx_Y st i j (fun o s => zx_F (8 * cond (Nat.beq o 0) 4294967295 (o - 1)) (fun v => k nxt lv (v :: r) hp s u w))))) false)) false)
  | _ => false
noncomputable def zh_icmp : zxHD := fun a b nxt _ lv stk hp st u w k => match stk with | y :: x :: r => cond (zx_i x && zx_i y) (zx_K x y st (fun o s => cond (zx_T b o) (k a lv r hp s u w) (k nxt lv r hp s u w))) false | _ => false
noncomputable def zh_if : zxHD := fun a b nxt _ lv stk hp st u w k => match stk with | x :: r => cond (zx_i x) (zx_K x 0 st (fun o s => cond (zx_T b o) (k a lv r hp s u w) (k nxt lv r hp s u w))) false | _ => false
def zh_goto : zxHD := fun a _ _ _ lv stk hp st u w k => k a lv stk hp st u w
noncomputable def zx_W (d : List Nat) (dflt id : Nat) (kk : Nat → zxST → Bool) : Nat → zxST → Bool := List.rec (motive := fun _ => Nat → zxST → Bool) (fun _ s => kk dflt s) (fun t _ ih b s => zx_X s id b (fun o s2 => cond (Nat.beq o 0) (kk dflt s2) (cond (Nat.beq o 1) (kk t s2) (zx_F (Nat.succ b) (fun b2 => ih b2 s2))))) d
/-- tableswitch: a the default's place, b its least number moved by 2 ^ 31, d the places -/
noncomputable def zh_switch : zxHD := fun a b _ d lv stk hp st u w k => match stk with
  | c :: r => zx_M c st (fun c => cond (Nat.beq (c % 8) 0) (zx_F (cond (Nat.blt (zx_u (c / 8)) b) a (zx_N a d (zx_u (c / 8) - b))) (fun t => k t lv r hp st u w)) (cond (Nat.beq (c % 8) 4 && Nat.blt (c / 8) 300) (zx_F (c / 8) (fun id => zx_W d a id (fun t s => k t lv r hp s u w) b st)) false))
  | _ => false
noncomputable def zh_dup : zxHD := fun _ _ nxt _ lv stk hp st u w k => match stk with | c :: r => cond (zx_2 c) false (k nxt lv (c :: c :: r) hp st u w) | _ => false
noncomputable def zh_pop : zxHD := fun _ _ nxt _ lv stk hp st u w k => match stk with | c :: r => cond (zx_2 c) false (k nxt lv r hp st u w) | _ => false
noncomputable def zh_dupx1 : zxHD := fun _ _ nxt _ lv stk hp st u w k => match stk with | c :: e :: r => cond (zx_2 c || zx_2 e) false (k nxt lv (c :: e :: c :: r) hp st u w) | _ => false
noncomputable def zh_alen : zxHD := fun _ _ nxt _ lv stk hp st u w k => match stk with | c :: r => cond (Nat.beq (c % 8) 3) (match zx_G hp (c / 8) with | (t, n, _, _) => cond (Nat.blt 0 t && Nat.blt t 16) (zx_F (8 * n) (fun v => k nxt lv (v :: r) hp st u w)) false) false | _ => false
noncomputable def zx_mem (t : Nat) (d : List Nat) : Bool := List.rec (motive := fun _ => Bool) false (fun x _ ih => cond (Nat.beq x t) true ih) d
/-- getfield: a the pool's number, b the slot, d the sorts of objects that are meant -/
noncomputable def zh_get : zxHD := fun _ b nxt d lv stk hp st u w k => match stk with | c :: r => cond (Nat.beq (c % 8) 3) (match zx_G hp (c / 8) with | (t, _, fs, _) => cond (zx_mem t d) (zx_F (zx_N 74 fs b) (fun v => cond (Nat.beq v 74) false (k nxt lv (v :: r) hp st u w))) false) false | _ => false
/-- what may be put into a field: 0 an int, 1 a boolean, 2 a long, 3 a reference -/
def zx_fit (ty v : Nat) : Bool := cond (Nat.beq ty 0) (zx_i v) (cond (Nat.beq ty 1) (Nat.beq v 0 || Nat.beq v 8) (cond (Nat.beq ty 2) (zx_2 v) (Nat.beq (v % 8) 3)))
/-- putfield: a the pool's number, b the slot and 64 times the field's sort, d the sorts of objects -/
noncomputable def zh_put : zxHD := fun _ b nxt d lv stk hp st u w k => match stk with
  | v :: c :: r => cond (Nat.beq (c % 8) 3) (zx_F (c / 8) (fun q => match zx_G hp q with | (t, n, fs, es) => cond (zx_mem t d) (zx_M v st (fun v => cond (zx_fit (b / 64 % 4) v && Nat.blt (b % 64) (zx_Z fs)) (zx_S fs (b % 64) v (fun fs2 => zx_H hp q (t, n, fs2, es) (fun hp2 => k nxt lv r hp2 st u w))) false)) false)) false
  | _ => false
/-- a load from an array of the sort a -/
noncomputable def zh_ald : zxHD := fun a _ nxt _ lv stk hp st u w k => match stk with
  | i :: c :: r => zx_C i st (fun i s => cond (Nat.beq (i % 8) 0 && Nat.beq (c % 8) 3) (match zx_G hp (c / 8) with | (t, n, fs, es) => cond (Nat.beq t a && Nat.blt (i / 8) n) (zx_F (zx_A es (zx_N 74 fs 0) (i / 8)) (fun v => k nxt lv (v :: r) hp s u w)) false) false)
  | _ => false
/-- what a store makes of a number in an array of the sort a -/
def zx_nar (a v : Nat) : Nat := cond (Nat.beq a 2) (cond (Nat.beq (v % 8) 0) (8 * cond (Nat.blt (v / 8 % 256) 128) (v / 8 % 256) (v / 8 % 256 + 4294967040)) 6) (cond (Nat.beq a 3) (cond (Nat.beq (v % 8) 0) (8 * (v / 8 % 2)) 6) v)
def zx_el (a v : Nat) : Bool := cond (Nat.blt a 4) (zx_i v) (zx_2 v)
/-- a store into an array of the sort a (ints, longs) -/
noncomputable def zh_ast : zxHD := fun a _ nxt _ lv stk hp st u w k => match stk with
  | v :: i :: c :: r => zx_C i st (fun i s => cond (Nat.beq (i % 8) 0 && (Nat.beq (c % 8) 3 && zx_el a v)) (zx_F (c / 8) (fun q => match zx_G hp q with | (t, n, fs, es) => cond (Nat.beq t a && Nat.blt (i / 8) n) (zx_F (i / 8) (fun j => zx_F (zx_nar a v) (fun v => cond (Nat.beq (zx_A es (zx_N 74 fs 0) j) v) (k nxt lv r hp s u w) (zx_H hp q (t, n, fs, (j, v) :: es) (fun hp2 => k nxt lv r hp2 s u w))))) false)) false)
  | _ => false
/-- a store into an array of references of the sort a: b the sort of the object -/
noncomputable def zh_astq : zxHD := fun a b nxt _ lv stk hp st u w k => match stk with
  | v :: i :: c :: r => zx_C i st (fun i s => cond (Nat.beq (i % 8) 0 && (Nat.beq (c % 8) 3 && Nat.beq (v % 8) 3)) (match zx_G hp (v / 8) with | (tv, _, _, _) => cond (Nat.beq tv b) (zx_F (c / 8) (fun q => match zx_G hp q with | (t, n, fs, es) => cond (Nat.beq t a && Nat.blt (i / 8) n) (zx_F (i / 8) (fun j => zx_H hp q (t, n, fs, (j, v) :: es) (fun hp2 => k nxt lv r hp2 s u w))) false)) false) false)
  | _ => false
/-- new: b the class's number, d the fields as they begin -/
noncomputable def zh_new : zxHD := fun _ b nxt d lv stk hp st u w k => zx_F (16 + b) (fun t => zx_B hp (t, 0, d, []) (fun q hp2 => zx_F (8 * q + 3) (fun v => zx_F (Nat.succ u) (fun u2 => zx_F (w + zx_Z d) (fun w2 => k nxt lv (v :: stk) hp2 st u2 w2)))))
/-- newarray, anewarray: b the sort, d = [what it begins with] -/
noncomputable def zh_newa : zxHD := fun _ b nxt d lv stk hp st u w k => match stk with
  | c :: r => cond (Nat.beq (c % 8) 0 && Nat.blt (c / 8) 1000000) (zx_F (c / 8) (fun n => zx_B hp (b, n, d, []) (fun q hp2 => zx_F (8 * q + 3) (fun v => zx_F (Nat.succ u) (fun u2 => zx_F (w + n) (fun w2 => k nxt lv (v :: r) hp2 st u2 w2)))))) false
  | _ => false
/-- arraycopy of a whole int array into another of its length -/
noncomputable def zh_copy : zxHD := fun _ _ nxt _ lv stk hp st u w k => match stk with
  | n :: dp :: c :: sp :: e :: r => cond (Nat.beq dp 0 && (Nat.beq sp 0 && (Nat.beq (n % 8) 0 && (Nat.beq (c % 8) 3 && (Nat.beq (e % 8) 3 && Nat.ble (zx_Z r) 0))))) (zx_F (c / 8) (fun q => match zx_G hp q with | (t, m, _, _) => match zx_G hp (e / 8) with | (t2, m2, fs2, es2) => cond (Nat.beq t 1 && (Nat.beq t2 1 && (Nat.beq m (n / 8) && Nat.beq m2 (n / 8)))) (zx_H hp q (t, m, fs2, es2) (fun hp2 => k nxt lv r hp2 st u w)) false)) false
  | _ => false
end
section
theorem zx_F_eq {β : Type} (n : Nat) (k : Nat → β) : zx_F n k = k n := by cases n <;> rfl
theorem zx_N_eq {α : Type} (d : α) : ∀ (l : List α) (i : Nat), zx_N d l i = (l[i]?).getD d
  | [], i => by simp [zx_N]
  | x :: l, 0 => rfl
  | x :: l, i + 1 => by
    have := zx_N_eq d l i
    simp only [List.getElem?_cons_succ]
    rw [← this]; rfl
theorem zx_S_eq {α β : Type} : ∀ (l : List α) (i : Nat) (v : α) (k : List α → β), zx_S l i v k = k (l.set i v)
  | [], i, v, k => by simp [zx_S]
  | x :: l, 0, v, k => rfl
  | x :: l, i + 1, v, k => (zx_S_eq l i v (fun r => k (x :: r))).trans rfl
theorem zx_P_eq {α β : Type} : ∀ (l : List α) (v : α) (k : List α → β), zx_P l v k = k (l ++ [v])
  | [], v, k => rfl
  | x :: l, v, k => (zx_P_eq l v (fun r => k (x :: r))).trans rfl
theorem zx_Z_eq {α : Type} : ∀ (l : List α), zx_Z l = l.length
  | [] => rfl
  | x :: l => by rw [List.length_cons, ← zx_Z_eq l]; rfl
theorem zx_A_cons (q : Nat × Nat) (l : List (Nat × Nat)) (d i : Nat) : zx_A (q :: l) d i = if q.1 = i then q.2 else zx_A l d i := by
  show cond (Nat.beq q.1 i) q.2 (zx_A l d i) = _
  by_cases h : q.1 = i
  · rw [if_pos h]; subst h; rw [Nat.beq_refl]; rfl
  · rw [if_neg h]
    have : Nat.beq q.1 i = false := by
      cases hb : Nat.beq q.1 i with
      | false => rfl
      | true => exact absurd (Nat.eq_of_beq_eq_true hb) h
    rw [this]; rfl
theorem zx_L_eq {β : Type} (wd : Bool) (i : Nat) : ∀ (l : zxLV) (k : zxLV → β), zx_L wd i l k = k (l.filter (fun q => !(zx_drop wd i q)))
  | [], k => rfl
  | q :: l, k => by
    show cond (zx_drop wd i q) (zx_L wd i l k) (zx_L wd i l (fun r => k (q :: r))) = _
    rw [zx_L_eq wd i l, zx_L_eq wd i l, List.filter_cons]
    cases zx_drop wd i q <;> rfl
theorem zx_beq {a b : Nat} : Nat.beq a b = true ↔ a = b := ⟨Nat.eq_of_beq_eq_true, fun h => by subst h; exact Nat.beq_refl a⟩
theorem zx_blt {a b : Nat} : Nat.blt a b = true ↔ a < b := ⟨fun h => Nat.le_of_ble_eq_true h, fun h => Nat.ble_eq_true_of_le h⟩
theorem zx_ble {a b : Nat} : Nat.ble a b = true ↔ a ≤ b := ⟨Nat.le_of_ble_eq_true, Nat.ble_eq_true_of_le⟩
theorem zx_nbeq {a b : Nat} : Nat.beq a b = false ↔ ¬ a = b := by
  rw [← zx_beq, Bool.not_eq_true]
theorem zx_nblt {a b : Nat} : Nat.blt a b = false ↔ ¬ a < b := by
  rw [← zx_blt, Bool.not_eq_true]
theorem zx_nble {a b : Nat} : Nat.ble a b = false ↔ ¬ a ≤ b := by
  rw [← zx_ble, Bool.not_eq_true]
theorem zx_c1 {c a : Bool} (h : cond c a false = true) : c = true ∧ a = true := by
  cases c with
  | false => cases h
  | true => exact ⟨rfl, h⟩
theorem zx_c0 {c a : Bool} (h : cond c false a = true) : c = false ∧ a = true := by
  cases c with
  | false => exact ⟨rfl, h⟩
  | true => cases h
theorem zx_ct {c a b : Bool} (h : cond c a b = true) : (c = true ∧ a = true) ∨ (c = false ∧ b = true) := by
  cases c with
  | false => exact Or.inr ⟨rfl, h⟩
  | true => exact Or.inl ⟨rfl, h⟩
theorem zx_an {a b : Bool} (h : and a b = true) : a = true ∧ b = true := by cases a <;> cases b <;> simp_all
theorem zx_R_ok {f : Nat → Bool} : ∀ {n : Nat}, zx_R n f = true → ∀ j, j < n → f j = true
  | 0, _, j, hj => absurd hj (Nat.not_lt_zero j)
  | n + 1, h, j, hj => by
    obtain ⟨h1, h2⟩ := zx_an h
    rcases Nat.lt_succ_iff_lt_or_eq.mp hj with h3 | h3
    · exact zx_R_ok h2 j h3
    · subst h3; exact h1
-- ints, moved by 2 ^ 31
def zr_b (x : Int32) : Nat := (x.toInt + 2147483648).toNat
theorem zr_b_toInt (x : Int32) : (zr_b x : Int) = x.toInt + 2147483648 := by
  have h1 := Int32.le_toInt x
  unfold zr_b
  omega
theorem zr_b_lt (x : Int32) : zr_b x < 4294967296 := by
  have h1 := zr_b_toInt x
  have h2 := Int32.toInt_lt x
  omega
theorem zr_nI_toInt (p : Nat) : (nI p).toInt = (p : Int).bmod 4294967296 := by
  show (Int32.ofNat p).toInt = _
  rw [Int32.toInt_ofNat']
theorem zr_b_nI (p : Nat) : zr_b (nI p) = zx_u p := by
  have h1 := zr_b_toInt (nI p)
  rw [zr_nI_toInt] at h1
  unfold zx_u
  rw [Int.bmod_def] at h1
  omega
theorem zr_b_inj {x y : Int32} (h : zr_b x = zr_b y) : x = y := by
  have h1 := zr_b_toInt x
  have h2 := zr_b_toInt y
  apply Int32.toInt_inj.mp
  omega
theorem zr_u_u (p : Nat) : zx_u (zx_u p) = p % 4294967296 := by unfold zx_u; omega
theorem zr_nI_u (x : Int32) : nI (zx_u (zr_b x)) = x := by
  apply zr_b_inj
  rw [zr_b_nI, zr_u_u]
  exact Nat.mod_eq_of_lt (zr_b_lt x)
theorem zr_lt {x y : Int32} : x < y ↔ zr_b x < zr_b y := by
  have h1 := zr_b_toInt x
  have h2 := zr_b_toInt y
  rw [Int32.lt_iff_toInt_lt]
  omega
theorem zr_le {x y : Int32} : x ≤ y ↔ zr_b x ≤ zr_b y := by
  have h1 := zr_b_toInt x
  have h2 := zr_b_toInt y
  rw [Int32.le_iff_toInt_le]
  omega
theorem zr_eq {x y : Int32} : x = y ↔ zr_b x = zr_b y := ⟨fun h => by rw [h], zr_b_inj⟩
theorem zr_nI_mod (p : Nat) : nI (p % 4294967296) = nI p := by
  apply zr_b_inj
  rw [zr_b_nI, zr_b_nI]
  unfold zx_u; omega
theorem zx_ord_0 {p q : Nat} : zx_ord p q = 0 ↔ p < q := by
  unfold zx_ord
  by_cases h : p < q
  · simp [zx_blt.mpr h, h]
  · rw [zx_nblt.mpr h]
    by_cases h2 : p = q
    · simp [zx_beq.mpr h2, h]
    · simp [zx_nbeq.mpr h2, h]
theorem zx_ord_1 {p q : Nat} : zx_ord p q = 1 ↔ p = q := by
  unfold zx_ord
  by_cases h : p < q
  · simp [zx_blt.mpr h]; omega
  · rw [zx_nblt.mpr h]
    by_cases h2 : p = q
    · simp [zx_beq.mpr h2, h2]
    · simp [zx_nbeq.mpr h2, h2]
theorem zx_ord_2 {p q : Nat} : zx_ord p q = 2 ↔ q < p := by
  unfold zx_ord
  by_cases h : p < q
  · simp [zx_blt.mpr h]; omega
  · rw [zx_nblt.mpr h]
    by_cases h2 : p = q
    · simp [zx_beq.mpr h2, h2]
    · simp [zx_nbeq.mpr h2]; omega
theorem zx_ord_le (p q : Nat) : zx_ord p q ≤ 2 := by
  unfold zx_ord
  cases Nat.blt p q <;> cases Nat.beq p q <;> simp
theorem zx_ord_sw (p q : Nat) : 2 - zx_ord p q = zx_ord q p := by
  rcases Nat.lt_trichotomy p q with h | h | h
  · rw [zx_ord_0.mpr h, zx_ord_2.mpr h]
  · rw [zx_ord_1.mpr h, zx_ord_1.mpr h.symm]
  · rw [zx_ord_2.mpr h, zx_ord_0.mpr h]
theorem zn_byte (p : Nat) : (nI p).toInt8.toInt32 = nI (cond (Nat.blt (p % 256) 128) (p % 256) (p % 256 + 4294967040)) := by
  apply Int32.toInt_inj.mp
  rw [zr_nI_toInt, Int8.toInt_toInt32, Int32.toInt_toInt8, zr_nI_toInt]
  by_cases h : p % 256 < 128
  · rw [zx_blt.mpr h]; simp only [cond_true, Int.bmod_def]; omega
  · rw [zx_nblt.mpr h]; simp only [cond_false, Int.bmod_def]; omega
theorem zn_lN_toInt (p : Nat) : (lN p).toInt = (p : Int).bmod 18446744073709551616 := by
  show (Int64.ofNat p).toInt = _
  rw [Int64.toInt_ofNat']
theorem zn_i2l (p : Nat) : (nI p).toInt64 = lN (cond (Nat.blt (p % 4294967296) 2147483648) (p % 4294967296) (p % 4294967296 + 18446744069414584320)) := by
  apply Int64.toInt_inj.mp
  rw [zn_lN_toInt, Int32.toInt_toInt64, zr_nI_toInt]
  by_cases h : p % 4294967296 < 2147483648
  · rw [zx_blt.mpr h]; simp only [cond_true, Int.bmod_def]; omega
  · rw [zx_nblt.mpr h]; simp only [cond_false, Int.bmod_def]; omega
end
section
/-- the script's cell, and the cells that were there as the frame began -/
abbrev zxBB : Type := Nat × List Nat
-- names: a byte is a sign; a name is signs and behind them 0
def zr_sign (c : Nat) : Bool := (Nat.ble 97 c && Nat.ble c 122) || (Nat.ble 48 c && Nat.ble c 57)
def zr_nmN (n : Nat) : Bool := !(Nat.beq n 0) && (List.range 8).all (fun i => Nat.beq (n / 256 ^ i) 0 || zr_sign (n / 256 ^ i % 256))
def zr_nm (x : Int64) : Bool := zr_nmN x.toBitVec.toNat
def zr_hi (σ : Nat → Int32) (i : Nat) : Int64 := (σ i).toInt64 <<< ((nI 32).toInt64 &&& 63)
def zr_lo (σ : Nat → Int32) (j : Nat) : Int64 := (σ j).toInt64 &&& lN 4294967295
def zr_l (σ : Nat → Int32) (n : Nat) : Int64 := if n < 200 then zr_hi σ (n - 100) else if n < 1000 then zr_lo σ (n - 200) else zr_hi σ ((n - 1000) / 8) ||| zr_lo σ ((n - 1000) % 8)
/-- the int that a name stands for -/
def zr_d (σ : Nat → Int32) (id : Nat) : Int32 := if id < 100 then σ id else if zr_nm (zr_l σ (1000 + (id - 100))) = true then 1 else 0
/-- the number that the bounds speak of -/
def zr_n (σ : Nat → Int32) (id : Nat) : Nat := if id < 300 then zr_b (zr_d σ id) else zx_ord (zr_b (σ ((id - 300) / 16))) (zr_b (σ ((id - 300) % 16)))
def zr (σ : Nat → Int32) (b : zxBB) (as : List Nat) (n : Nat) (v : Value) : Prop :=
  if n % 8 = 0 then v = .int (nI (n / 8)) else if n % 8 = 1 then v = .long (lN (n / 8)) else if n % 8 = 2 then (n = 2 ∧ v = .null) ∨ (n = 10 ∧ v = .ref b.1)
  else if n % 8 = 3 then ∃ q, as[n / 8]? = some q ∧ v = .ref q else if n % 8 = 4 then v = .int (zr_d σ (n / 8)) else if n % 8 = 5 then v = .long (zr_d σ (n / 8)).toInt64
  else if n % 8 = 6 then ∃ x, v = .int x else ∃ x, v = .long x ∧ (n / 8 ≠ 0 → x = zr_l σ (n / 8))
def zr_in (σ : Nat → Int32) (st : zxST) : Prop := ∀ q ∈ st, q.2.1 ≤ zr_n σ q.1 ∧ zr_n σ q.1 ≤ q.2.2
section ZR
variable {σ : Nat → Int32} {b : zxBB} {as : List Nat} {n : Nat} {v : Value}
theorem zr_0 (h : n % 8 = 0) : zr σ b as n v ↔ v = .int (nI (n / 8)) := by unfold zr; rw [if_pos h]
theorem zr_1 (h : n % 8 = 1) : zr σ b as n v ↔ v = .long (lN (n / 8)) := by unfold zr; rw [if_neg (by omega), if_pos h]
theorem zr_2' (h : n % 8 = 2) : zr σ b as n v ↔ ((n = 2 ∧ v = .null) ∨ (n = 10 ∧ v = .ref b.1)) := by unfold zr; rw [if_neg (by omega), if_neg (by omega), if_pos h]
theorem zr_3 (h : n % 8 = 3) : zr σ b as n v ↔ ∃ q, as[n / 8]? = some q ∧ v = .ref q := by unfold zr; rw [if_neg (by omega), if_neg (by omega), if_neg (by omega), if_pos h]
theorem zr_4 (h : n % 8 = 4) : zr σ b as n v ↔ v = .int (zr_d σ (n / 8)) := by unfold zr; rw [if_neg (by omega), if_neg (by omega), if_neg (by omega), if_neg (by omega), if_pos h]
theorem zr_5 (h : n % 8 = 5) : zr σ b as n v ↔ v = .long (zr_d σ (n / 8)).toInt64 := by unfold zr; rw [if_neg (by omega), if_neg (by omega), if_neg (by omega), if_neg (by omega), if_neg (by omega), if_pos h]
theorem zr_6 (h : n % 8 = 6) : zr σ b as n v ↔ ∃ x, v = .int x := by unfold zr; rw [if_neg (by omega), if_neg (by omega), if_neg (by omega), if_neg (by omega), if_neg (by omega), if_neg (by omega), if_pos h]
theorem zr_7 (h : n % 8 = 7) : zr σ b as n v ↔ ∃ x, v = .long x ∧ (n / 8 ≠ 0 → x = zr_l σ (n / 8)) := by unfold zr; rw [if_neg (by omega), if_neg (by omega), if_neg (by omega), if_neg (by omega), if_neg (by omega), if_neg (by omega), if_neg (by omega)]
theorem zx_i_iff (n : Nat) : zx_i n = true ↔ n % 8 = 0 ∨ n % 8 = 4 ∨ n % 8 = 6 := by unfold zx_i; simp only [Bool.or_eq_true, zx_beq]
theorem zx_2_iff (n : Nat) : zx_2 n = true ↔ n % 8 = 1 ∨ n % 8 = 5 ∨ n % 8 = 7 := by unfold zx_2; simp only [Bool.or_eq_true, zx_beq]
theorem zx_r_iff (n : Nat) : zx_r n = true ↔ n % 8 = 3 ∨ n = 10 := by unfold zx_r; simp only [Bool.or_eq_true, zx_beq]
theorem zr_int (hi : zx_i n = true) (h : zr σ b as n v) : ∃ x, v = .int x := by
  rcases (zx_i_iff n).mp hi with e | e | e
  · exact ⟨_, (zr_0 e).mp h⟩
  · exact ⟨_, (zr_4 e).mp h⟩
  · exact (zr_6 e).mp h
theorem zr_long (hi : zx_2 n = true) (h : zr σ b as n v) : ∃ x, v = .long x := by
  rcases (zx_2_iff n).mp hi with e | e | e
  · exact ⟨_, (zr_1 e).mp h⟩
  · exact ⟨_, (zr_5 e).mp h⟩
  · obtain ⟨x, h1, -⟩ := (zr_7 e).mp h; exact ⟨x, h1⟩
theorem zr_ref (hi : zx_r n = true) (h : zr σ b as n v) : ∃ q, v = .ref q := by
  rcases (zx_r_iff n).mp hi with e | e
  · obtain ⟨q, -, h1⟩ := (zr_3 e).mp h; exact ⟨q, h1⟩
  · subst e
    rcases (zr_2' rfl).mp h with ⟨h1, -⟩ | ⟨-, h1⟩
    · exact absurd h1 (by decide)
    · exact ⟨b.1, h1⟩
theorem zr_cat (h : zr σ b as n v) : (v.category == 2) = zx_2 n := by
  have h8 : n % 8 < 8 := Nat.mod_lt _ (by decide)
  by_cases h2 : zx_2 n = true
  · obtain ⟨x, rfl⟩ := zr_long h2 h
    rw [h2]; rfl
  · have h3 : zx_2 n = false := Bool.not_eq_true _ ▸ h2
    rw [h3]
    have hq : ¬ (n % 8 = 1 ∨ n % 8 = 5 ∨ n % 8 = 7) := fun q => h2 ((zx_2_iff n).mpr q)
    by_cases hi : zx_i n = true
    · obtain ⟨x, rfl⟩ := zr_int hi h; rfl
    · have hj : ¬ (n % 8 = 0 ∨ n % 8 = 4 ∨ n % 8 = 6) := fun q => hi ((zx_i_iff n).mpr q)
      by_cases h4 : n % 8 = 3
      · obtain ⟨q, -, rfl⟩ := (zr_3 h4).mp h; rfl
      · have h5 : n % 8 = 2 := by omega
        rcases (zr_2' h5).mp h with ⟨-, rfl⟩ | ⟨-, rfl⟩ <;> rfl
theorem zr_cat1 (hi : zx_2 n = false) (h : zr σ b as n v) : v.category = 1 := by
  have h1 := zr_cat h
  rw [hi] at h1
  rcases lv_cat v with h2 | h2
  · exact h2
  · rw [h2] at h1; cases h1
theorem zr_mono (e : List Nat) (h : zr σ b as n v) : zr σ b (as ++ e) n v := by
  by_cases h3 : n % 8 = 3
  · obtain ⟨q, h1, h2⟩ := (zr_3 h3).mp h
    refine (zr_3 h3).mpr ⟨q, ?_, h2⟩
    rw [List.getElem?_append_left (List.getElem?_eq_some_iff.mp h1).1]; exact h1
  · unfold zr at h ⊢
    rw [if_neg h3] at h ⊢
    exact h
end ZR
theorem zr_n_lt (σ : Nat → Int32) (id : Nat) : zr_n σ id ≤ 4294967295 := by
  unfold zr_n
  split
  · have := zr_b_lt (zr_d σ id); omega
  · have := zx_ord_le (zr_b (σ ((id - 300) / 16))) (zr_b (σ ((id - 300) % 16))); omega
theorem zr_n_s {σ : Nat → Int32} {id : Nat} (h : id < 300) : zr_n σ id = zr_b (zr_d σ id) := by unfold zr_n; rw [if_pos h]
theorem zr_in_cons {σ : Nat → Int32} {st : zxST} {id lo hi : Nat} (h : zr_in σ st) (h1 : lo ≤ zr_n σ id) (h2 : zr_n σ id ≤ hi) : zr_in σ ((id, lo, hi) :: st) := by
  intro q hq
  rcases List.mem_cons.mp hq with e | e
  · subst e; exact ⟨h1, h2⟩
  · exact h q e
theorem zx_V_ok {β : Type} (id : Nat) (kk : Nat → Nat → β) : ∀ st : zxST, ∃ lo hi, zx_V st id kk = kk lo hi ∧ ∀ σ, zr_in σ st → lo ≤ zr_n σ id ∧ zr_n σ id ≤ hi
  | [] => ⟨0, 4294967295, rfl, fun σ _ => ⟨Nat.zero_le _, zr_n_lt σ id⟩⟩
  | (a, lo, hi) :: st => by
    have e : zx_V ((a, lo, hi) :: st) id kk = cond (Nat.beq a id) (kk lo hi) (zx_V st id kk) := rfl
    by_cases h : a = id
    · refine ⟨lo, hi, ?_, fun σ hσ => ?_⟩
      · rw [e, zx_beq.mpr h]; rfl
      · subst h; exact hσ _ List.mem_cons_self
    · obtain ⟨lo2, hi2, e2, h2⟩ := zx_V_ok id kk st
      refine ⟨lo2, hi2, ?_, fun σ hσ => h2 σ (fun q hq => hσ q (List.mem_cons_of_mem _ hq))⟩
      rw [e, zx_nbeq.mpr h]; exact e2
theorem zx_M_ok {β : Type} (c : Nat) (st : zxST) (kk : Nat → β) : ∃ c', zx_M c st kk = kk c' ∧ (zx_i c = true → zx_i c' = true) ∧ (zx_i c = false → c' = c) ∧ ∀ σ b as v, zr_in σ st → zr σ b as c v → zr σ b as c' v := by
  unfold zx_M
  cases h4 : Nat.beq (c % 8) 4 with
  | false => exact ⟨c, rfl, id, fun _ => rfl, fun _ _ _ _ _ h => h⟩
  | true =>
    have h4' := zx_beq.mp h4
    obtain ⟨lo, hi, e, hb⟩ := zx_V_ok (c / 8) (fun lo hi => cond (Nat.beq lo hi && Nat.blt (c / 8) 300) (zx_F (8 * zx_u lo) kk) (kk c)) st
    show ∃ c', zx_V st (c / 8) (fun lo hi => cond (Nat.beq lo hi && Nat.blt (c / 8) 300) (zx_F (8 * zx_u lo) kk) (kk c)) = kk c' ∧ _
    rw [e]
    cases hl : (Nat.beq lo hi && Nat.blt (c / 8) 300) with
    | false => exact ⟨c, rfl, id, fun _ => rfl, fun _ _ _ _ _ h => h⟩
    | true =>
      obtain ⟨h1, h2⟩ := zx_an hl
      have h1 := zx_beq.mp h1
      have h2 := zx_blt.mp h2
      simp only [cond_true, zx_F_eq]
      refine ⟨8 * zx_u lo, rfl, fun _ => (zx_i_iff _).mpr (Or.inl (by omega)), fun hf => ?_, fun σ b as v hσ hv => ?_⟩
      · exact absurd ((zx_i_iff c).mpr (Or.inr (Or.inl h4'))) (by rw [hf]; decide)
      · have hv := (zr_4 h4').mp hv
        have g1 := (hb σ hσ).1
        have g2 := (hb σ hσ).2
        have g3 : zr_n σ (c / 8) = lo := Nat.le_antisymm (h1 ▸ g2) g1
        rw [zr_n_s h2] at g3
        refine (zr_0 (by omega)).mpr ?_
        rw [hv, Nat.mul_div_cancel_left _ (by decide), ← g3, zr_nI_u]
theorem zx_C_ok {c : Nat} {st : zxST} {kk : Nat → zxST → Bool} (h : zx_C c st kk = true) {σ : Nat → Int32} (hσ : zr_in σ st) : ∃ c' st', kk c' st' = true ∧ zr_in σ st' ∧ ∀ b as v, zr σ b as c v → zr σ b as c' v := by
  unfold zx_C at h
  rcases zx_ct h with ⟨h4, h⟩ | ⟨-, h⟩
  · have h4' := zx_beq.mp h4
    rw [zx_F_eq] at h
    obtain ⟨lo, hi, e, hb⟩ := zx_V_ok (c / 8) (fun lo hi => cond (Nat.ble (hi - lo) 64 && (Nat.ble lo hi && Nat.blt (c / 8) 300)) (zx_R (Nat.succ (hi - lo)) (fun j => zx_F (lo + j) (fun v => zx_F (8 * zx_u v) (fun cv => kk cv ((c / 8, v, v) :: st))))) (kk c st)) st
    rw [e] at h
    rcases zx_ct h with ⟨h5, h⟩ | ⟨-, h⟩
    · obtain ⟨-, h5⟩ := zx_an h5
      obtain ⟨h5, h6⟩ := zx_an h5
      have h6 := zx_blt.mp h6
      obtain ⟨g1, g2⟩ := hb σ hσ
      have h := zx_R_ok h (zr_n σ (c / 8) - lo) (by omega)
      rw [zx_F_eq, zx_F_eq] at h
      have e3 : lo + (zr_n σ (c / 8) - lo) = zr_n σ (c / 8) := by omega
      rw [e3] at h
      refine ⟨_, _, h, zr_in_cons hσ (Nat.le_refl _) (Nat.le_refl _), fun b as v hv => ?_⟩
      have hv := (zr_4 h4').mp hv
      refine (zr_0 (by omega)).mpr ?_
      rw [hv, Nat.mul_div_cancel_left _ (by decide), zr_n_s h6, zr_nI_u]
    · exact ⟨c, st, h, hσ, fun _ _ _ h => h⟩
  · exact ⟨c, st, h, hσ, fun _ _ _ h => h⟩
theorem zx_X_ok {st : zxST} {id b : Nat} {kk : Nat → zxST → Bool} (h : zx_X st id b kk = true) {σ : Nat → Int32} (hσ : zr_in σ st) : ∃ st', kk (zx_ord (zr_n σ id) b) st' = true ∧ zr_in σ st' := by
  unfold zx_X at h
  obtain ⟨lo, hi, e, hb⟩ := zx_V_ok id (fun lo hi => and (cond (Nat.blt lo b) (zx_F (cond (Nat.blt hi b) hi (b - 1)) (fun h1 => kk 0 ((id, lo, h1) :: st))) true) (and (cond (Nat.ble lo b && Nat.ble b hi) (kk 1 ((id, b, b) :: st)) true) (cond (Nat.blt b hi) (zx_F (cond (Nat.blt b lo) lo (Nat.succ b)) (fun l1 => kk 2 ((id, l1, hi) :: st))) true))) st
  rw [e] at h
  obtain ⟨g1, g2⟩ := hb σ hσ
  obtain ⟨h1, h⟩ := zx_an h
  obtain ⟨h2, h3⟩ := zx_an h
  rcases Nat.lt_trichotomy (zr_n σ id) b with c1 | c1 | c1
  · rw [zx_blt.mpr (by omega : lo < b)] at h1
    have h1 : zx_F (cond (Nat.blt hi b) hi (b - 1)) (fun h1 => kk 0 ((id, lo, h1) :: st)) = true := h1
    rw [zx_F_eq] at h1
    rw [zx_ord_0.mpr c1]
    refine ⟨_, h1, zr_in_cons hσ g1 ?_⟩
    cases Nat.blt hi b
    · show _ ≤ b - 1; omega
    · exact g2
  · rw [zx_ble.mpr (by omega : lo ≤ b), zx_ble.mpr (by omega : b ≤ hi)] at h2
    rw [zx_ord_1.mpr c1]
    exact ⟨_, h2, zr_in_cons hσ (by omega) (by omega)⟩
  · rw [zx_blt.mpr (by omega : b < hi)] at h3
    have h3 : zx_F (cond (Nat.blt b lo) lo (Nat.succ b)) (fun l1 => kk 2 ((id, l1, hi) :: st)) = true := h3
    rw [zx_F_eq] at h3
    rw [zx_ord_2.mpr c1]
    refine ⟨_, h3, zr_in_cons hσ ?_ g2⟩
    cases Nat.blt b lo
    · show b + 1 ≤ _; omega
    · exact g1
theorem zx_Y_ok {st : zxST} {i j : Nat} {kk : Nat → zxST → Bool} (h : zx_Y st i j kk = true) {σ : Nat → Int32} (hσ : zr_in σ st) : ∃ st', kk (zx_ord (zr_b (zr_d σ i)) (zr_b (zr_d σ j))) st' = true ∧ zr_in σ st' := by
  unfold zx_Y at h
  rcases zx_ct h with ⟨h1, h2⟩ | ⟨-, h⟩
  · have h1 := zx_beq.mp h1
    rw [h1, zx_ord_1.mpr rfl]
    exact ⟨st, h2, hσ⟩
  · obtain ⟨h1, h⟩ := zx_c1 h
    obtain ⟨h1, h2⟩ := zx_an h1
    have h1 := zx_blt.mp h1
    have h2 := zx_blt.mp h2
    rw [zx_F_eq] at h
    obtain ⟨lo, hi, e, hb⟩ := zx_V_ok (300 + 16 * i + j) (fun lo hi => and (cond (Nat.ble lo 0) (kk 0 ((300 + 16 * i + j, 0, 0) :: st)) true) (and (cond (Nat.ble lo 1 && Nat.ble 1 hi) (kk 1 ((300 + 16 * i + j, 1, 1) :: st)) true) (cond (Nat.ble 2 hi) (kk 2 ((300 + 16 * i + j, 2, 2) :: st)) true))) st
    rw [e] at h
    obtain ⟨g1, g2⟩ := hb σ hσ
    have en : zr_n σ (300 + 16 * i + j) = zx_ord (zr_b (zr_d σ i)) (zr_b (zr_d σ j)) := by
      unfold zr_n
      rw [if_neg (by omega), show (300 + 16 * i + j - 300) / 16 = i by omega, show (300 + 16 * i + j - 300) % 16 = j by omega]
      unfold zr_d
      rw [if_pos (by omega), if_pos (by omega)]
    rw [en] at g1 g2
    have hle := zx_ord_le (zr_b (zr_d σ i)) (zr_b (zr_d σ j))
    obtain ⟨k0, h⟩ := zx_an h
    obtain ⟨k1, k2⟩ := zx_an h
    generalize zx_ord (zr_b (zr_d σ i)) (zr_b (zr_d σ j)) = o at en g1 g2 hle ⊢
    rcases (show o = 0 ∨ o = 1 ∨ o = 2 by omega) with c1 | c1 | c1
    · subst c1
      rw [zx_ble.mpr (by omega : lo ≤ 0)] at k0
      exact ⟨_, k0, zr_in_cons hσ (by omega) (by omega)⟩
    · subst c1
      rw [zx_ble.mpr (by omega : lo ≤ 1), zx_ble.mpr (by omega : 1 ≤ hi)] at k1
      exact ⟨_, k1, zr_in_cons hσ (by omega) (by omega)⟩
    · subst c1
      rw [zx_ble.mpr (by omega : 2 ≤ hi)] at k2
      exact ⟨_, k2, zr_in_cons hσ (by omega) (by omega)⟩
theorem zx_K_ok {x y : Nat} {st : zxST} {kk : Nat → zxST → Bool} (h : zx_K x y st kk = true) {σ : Nat → Int32} {b : zxBB} {as : List Nat} {vx vy : Int32} (hσ : zr_in σ st) (hx : zr σ b as x (.int vx)) (hy : zr σ b as y (.int vy)) : ∃ st', kk (zx_ord (zr_b vx) (zr_b vy)) st' = true ∧ zr_in σ st' := by
  unfold zx_K at h
  obtain ⟨x', e1, -, -, m1⟩ := zx_M_ok x st (fun x => zx_M y st (fun y =>
  cond (Nat.beq (x % 8) 0) (cond (Nat.beq (y % 8) 0) (kk (zx_ord (zx_u (x / 8)) (zx_u (y / 8))) st) (cond (Nat.beq (y % 8) 4 && Nat.blt (y / 8) 300) (zx_F (y / 8) (fun id => zx_F (zx_u (x / 8)) (fun b => zx_X st id b (fun o s => kk (2 - o) s)))) false))
    (cond (Nat.beq (x % 8) 4 && Nat.blt (x / 8) 300) (cond (Nat.beq (y % 8) 0) (zx_F (x / 8) (fun id => zx_F (zx_u (y / 8)) (fun b => zx_X st id b kk))) (cond (Nat.beq (y % 8) 4) (zx_F (x / 8) (fun i => zx_F (y / 8) (fun j => zx_Y st i j kk))) false)) false)))
  rw [e1] at h
  have hx := m1 σ b as _ hσ hx
  obtain ⟨y', e2, -, -, m2⟩ := zx_M_ok y st (fun y =>
  cond (Nat.beq (x' % 8) 0) (cond (Nat.beq (y % 8) 0) (kk (zx_ord (zx_u (x' / 8)) (zx_u (y / 8))) st) (cond (Nat.beq (y % 8) 4 && Nat.blt (y / 8) 300) (zx_F (y / 8) (fun id => zx_F (zx_u (x' / 8)) (fun b => zx_X st id b (fun o s => kk (2 - o) s)))) false))
    (cond (Nat.beq (x' % 8) 4 && Nat.blt (x' / 8) 300) (cond (Nat.beq (y % 8) 0) (zx_F (x' / 8) (fun id => zx_F (zx_u (y / 8)) (fun b => zx_X st id b kk))) (cond (Nat.beq (y % 8) 4) (zx_F (x' / 8) (fun i => zx_F (y / 8) (fun j => zx_Y st i j kk))) false)) false))
  rw [e2] at h
  have hy := m2 σ b as _ hσ hy
  rcases zx_ct h with ⟨a1, h⟩ | ⟨-, h⟩
  · have a1 := zx_beq.mp a1
    have hx : vx = nI (x' / 8) := Value.int.inj ((zr_0 a1).mp hx)
    rcases zx_ct h with ⟨a2, h⟩ | ⟨-, h⟩
    · have a2 := zx_beq.mp a2
      have hy : vy = nI (y' / 8) := Value.int.inj ((zr_0 a2).mp hy)
      rw [hx, hy, zr_b_nI, zr_b_nI]
      exact ⟨st, h, hσ⟩
    · obtain ⟨a2, h⟩ := zx_c1 h
      obtain ⟨a2, a3⟩ := zx_an a2
      have a2 := zx_beq.mp a2
      have a3 := zx_blt.mp a3
      have hy : vy = zr_d σ (y' / 8) := Value.int.inj ((zr_4 a2).mp hy)
      rw [zx_F_eq, zx_F_eq] at h
      obtain ⟨st', h, hσ'⟩ := zx_X_ok h hσ
      rw [zx_ord_sw, zr_n_s a3, ← zr_b_nI, ← hx, ← hy] at h
      exact ⟨st', h, hσ'⟩
  · obtain ⟨a1, h⟩ := zx_c1 h
    obtain ⟨a1, a3⟩ := zx_an a1
    have a1 := zx_beq.mp a1
    have a3 := zx_blt.mp a3
    have hx : vx = zr_d σ (x' / 8) := Value.int.inj ((zr_4 a1).mp hx)
    rcases zx_ct h with ⟨a2, h⟩ | ⟨-, h⟩
    · have a2 := zx_beq.mp a2
      have hy : vy = nI (y' / 8) := Value.int.inj ((zr_0 a2).mp hy)
      rw [zx_F_eq, zx_F_eq] at h
      obtain ⟨st', h, hσ'⟩ := zx_X_ok h hσ
      rw [zr_n_s a3, ← zr_b_nI, ← hx, ← hy] at h
      exact ⟨st', h, hσ'⟩
    · obtain ⟨a2, h⟩ := zx_c1 h
      have a2 := zx_beq.mp a2
      have hy : vy = zr_d σ (y' / 8) := Value.int.inj ((zr_4 a2).mp hy)
      rw [zx_F_eq, zx_F_eq] at h
      obtain ⟨st', h, hσ'⟩ := zx_Y_ok h hσ
      rw [← hx, ← hy] at h
      exact ⟨st', h, hσ'⟩
end
section
def zr_2 {α β : Type} (R : α → β → Prop) : List α → List β → Prop
  | [], [] => True
  | a :: l, b :: l' => R a b ∧ zr_2 R l l'
  | _, _ => False
section Z2
variable {α β : Type} {R R' : α → β → Prop}
theorem zr_2_get : ∀ {l : List α} {l' : List β} {i : Nat} {a : α}, zr_2 R l l' → l[i]? = some a → ∃ b, l'[i]? = some b ∧ R a b
  | [], [], i, a, _, h => by simp at h
  | x :: l, y :: l', 0, a, h, h1 => by
    simp only [List.getElem?_cons_zero, Option.some.injEq] at h1
    subst h1; exact ⟨y, rfl, h.1⟩
  | x :: l, y :: l', i + 1, a, h, h1 => by
    simp only [List.getElem?_cons_succ] at h1 ⊢
    exact zr_2_get h.2 h1
  | [], _ :: _, _, _, h, _ => h.elim
  | _ :: _, [], _, _, h, _ => h.elim
theorem zr_2_set {a : α} {b : β} (hab : R a b) : ∀ {l : List α} {l' : List β} {i : Nat}, zr_2 R l l' → zr_2 R (l.set i a) (l'.set i b)
  | [], [], i, h => by simp [zr_2]
  | x :: l, y :: l', 0, h => ⟨hab, h.2⟩
  | x :: l, y :: l', i + 1, h => ⟨h.1, zr_2_set hab h.2⟩
  | [], _ :: _, _, h => h.elim
  | _ :: _, [], _, h => h.elim
theorem zr_2_len : ∀ {l : List α} {l' : List β}, zr_2 R l l' → l.length = l'.length
  | [], [], _ => rfl
  | x :: l, y :: l', h => by rw [List.length_cons, List.length_cons, zr_2_len h.2]
  | [], _ :: _, h => h.elim
  | _ :: _, [], h => h.elim
theorem zr_2_mono (hr : ∀ a b, R a b → R' a b) : ∀ {l : List α} {l' : List β}, zr_2 R l l' → zr_2 R' l l'
  | [], [], _ => trivial
  | x :: l, y :: l', h => ⟨hr _ _ h.1, zr_2_mono hr h.2⟩
  | [], _ :: _, h => h.elim
  | _ :: _, [], h => h.elim
theorem zr_2_app : ∀ {l1 l2 : List α} {l1' l2' : List β}, zr_2 R l1 l1' → zr_2 R l2 l2' → zr_2 R (l1 ++ l2) (l1' ++ l2')
  | [], _, [], _, _, h => h
  | x :: l, _, y :: l', _, h, h2 => ⟨h.1, zr_2_app h.2 h2⟩
  | [], _, _ :: _, _, h, _ => h.elim
  | _ :: _, _, [], _, h, _ => h.elim
theorem zr_2_split : ∀ {l1 l2 : List α} {vs : List β}, zr_2 R (l1 ++ l2) vs → ∃ v1 v2, vs = v1 ++ v2 ∧ zr_2 R l1 v1 ∧ zr_2 R l2 v2
  | [], l2, vs, h => ⟨[], vs, rfl, trivial, h⟩
  | x :: l, l2, y :: vs, h => by
    obtain ⟨v1, v2, e, h1, h2⟩ := zr_2_split h.2
    exact ⟨y :: v1, v2, by rw [e]; rfl, ⟨h.1, h1⟩, h2⟩
  | _ :: _, _, [], h => h.elim
theorem zr_2_rev : ∀ {l : List α} {l' : List β}, zr_2 R l l' → zr_2 R l.reverse l'.reverse
  | [], [], _ => trivial
  | x :: l, y :: l', h => by
    rw [List.reverse_cons, List.reverse_cons]
    exact zr_2_app (zr_2_rev h.2) ⟨h.1, trivial⟩
  | [], _ :: _, h => h.elim
  | _ :: _, [], h => h.elim
end Z2
def zr_ty (t : Nat) : FieldType := if t = 1 then .int else if t = 2 then .byte else if t = 3 then .boolean else if t = 4 then .long else if t = 5 then .object "StubHouse$Node" else .object "StubHouse$Tape"
noncomputable def zr_c (E : zxCE) (j : Nat) : Nat := zx_A E.2.2.2 (zx_N 74 E.2.2.1 0) j
def zr_E (σ : Nat → Int32) (b : zxBB) (as : List Nat) (tys : List (ClassId × FieldType)) (E : zxCE) (e : va_E) : Prop :=
  (16 ≤ E.1 ∧ ∃ fs : List Value, e = .inr (E.1 - 16, fs) ∧ zr_2 (zr σ b as) E.2.2.1 fs) ∨
  (E.1 < 16 ∧ 0 < E.1 ∧ E.2.1 < 2147483648 ∧ ∃ (cA : ClassId) (t0 : Nat), tys[t0]? = some (cA, zr_ty E.1) ∧
    ((E.1 < 4 ∧ ∃ f : Nat → Int32, e = .inl (cA, E.2.1, .inl f) ∧ ∀ j, j < E.2.1 → zr σ b as (zr_c E j) (.int (f j))) ∨
     (E.1 = 4 ∧ ∃ f : Nat → Int64, e = .inl (cA, E.2.1, .inr (.inl f)) ∧ ∀ j, j < E.2.1 → zr σ b as (zr_c E j) (.long (f j))) ∨
     (4 < E.1 ∧ ∃ f : Nat → Option Nat, e = .inl (cA, E.2.1, .inr (.inr (.inr (.inr f)))) ∧ ∀ j, j < E.2.1 → zr σ b as (zr_c E j) (va_rf (f j)))))
theorem zr_E_mono {σ : Nat → Int32} {b : zxBB} {as : List Nat} {tys : List (ClassId × FieldType)} {E : zxCE} {e : va_E} (e1 : List Nat) (e2 : List (ClassId × FieldType)) (h : zr_E σ b as tys E e) : zr_E σ b (as ++ e1) (tys ++ e2) E e := by
  rcases h with ⟨h1, fs, h2, h3⟩ | ⟨h1, h2, h3, cA, t0, h4, h5⟩
  · exact Or.inl ⟨h1, fs, h2, zr_2_mono (fun _ _ h => zr_mono e1 h) h3⟩
  · refine Or.inr ⟨h1, h2, h3, cA, t0, ?_, ?_⟩
    · rw [List.getElem?_append_left (List.getElem?_eq_some_iff.mp h4).1]; exact h4
    · rcases h5 with ⟨a, f, c, d⟩ | ⟨a, f, c, d⟩ | ⟨a, f, c, d⟩
      · exact Or.inl ⟨a, f, c, fun j hj => zr_mono e1 (d j hj)⟩
      · exact Or.inr (Or.inl ⟨a, f, c, fun j hj => zr_mono e1 (d j hj)⟩)
      · exact Or.inr (Or.inr ⟨a, f, c, fun j hj => zr_mono e1 (d j hj)⟩)
def zr_W (σ : Nat → Int32) (b : zxBB) (as : List Nat) (tys : List (ClassId × FieldType)) (hp : zxHP) (ws : va_W) : Prop :=
  as.length = hp.1 ∧ ws.length = hp.1 ∧ (∀ k, k < hp.1 → ∃ (q : Nat) (e : va_E), as[k]? = some q ∧ ws[k]? = some (q, e) ∧ zr_E σ b as tys (zx_G hp k) e) ∧ b.2 <+: as
theorem zr_W_get {σ : Nat → Int32} {b : zxBB} {as : List Nat} {tys : List (ClassId × FieldType)} {hp : zxHP} {ws : va_W} (h : zr_W σ b as tys hp ws) {k q : Nat} (hk : as[k]? = some q) : ∃ e, ws[k]? = some (q, e) ∧ zr_E σ b as tys (zx_G hp k) e := by
  have hl : k < hp.1 := by rw [← h.1]; exact (List.getElem?_eq_some_iff.mp hk).1
  obtain ⟨q', e, h1, h2, h3⟩ := h.2.2.1 k hl
  rw [hk] at h1
  cases h1
  exact ⟨e, h2, h3⟩
theorem zx_G_eq (n : Nat) (cs : List (List zxCE)) (k : Nat) : zx_G (n, cs) k = (((cs[k / 32]?).getD [])[k % 32]?).getD (0, 0, [], []) := by
  show zx_N (0, 0, [], []) (zx_N [] cs (k / 32)) (k % 32) = _
  rw [zx_N_eq, zx_N_eq]
theorem zx_H_ok {β : Type} (hp : zxHP) (k : Nat) (E : zxCE) (kk : zxHP → β) (hE : (zx_G hp k).1 ≠ 0) : ∃ hp', zx_H hp k E kk = kk hp' ∧ hp'.1 = hp.1 ∧ ∀ j, zx_G hp' j = if j = k then E else zx_G hp j := by
  obtain ⟨n, cs⟩ := hp
  rw [zx_G_eq] at hE
  have h1 : k / 32 < cs.length := by
    apply Nat.lt_of_not_le
    intro q
    rw [List.getElem?_eq_none q] at hE
    simp at hE
  have h2 : k % 32 < ((cs[k / 32]?).getD []).length := by
    apply Nat.lt_of_not_le
    intro q
    rw [List.getElem?_eq_none q] at hE
    simp at hE
  refine ⟨(n, cs.set (k / 32) (((cs[k / 32]?).getD []).set (k % 32) E)), ?_, rfl, fun j => ?_⟩
  · show zx_S (zx_N [] cs (k / 32)) (k % 32) E (fun ch => zx_S cs (k / 32) ch (fun cs2 => kk (n, cs2))) = _
    rw [zx_S_eq, zx_S_eq, zx_N_eq]
  · rw [zx_G_eq, zx_G_eq]
    by_cases hj : j = k
    · rw [if_pos hj]
      subst hj
      rw [List.getElem?_set_self h1]
      simp only [Option.getD_some]
      rw [List.getElem?_set_self h2]
      rfl
    · rw [if_neg hj]
      by_cases hd : j / 32 = k / 32
      · have hm : j % 32 ≠ k % 32 := by omega
        rw [hd, List.getElem?_set_self h1]
        simp only [Option.getD_some]
        rw [List.getElem?_set_ne (Ne.symm hm)]
      · rw [List.getElem?_set_ne (Ne.symm hd)]
theorem zx_B_ok {hp : zxHP} {E : zxCE} {kk : Nat → zxHP → Bool} (h : zx_B hp E kk = true) : ∃ hp', kk hp.1 hp' = true ∧ hp'.1 = hp.1 + 1 ∧ zx_G hp' hp.1 = E ∧ ∀ j, j < hp.1 → zx_G hp' j = zx_G hp j := by
  obtain ⟨n, cs⟩ := hp
  have h : zx_F (Nat.succ n) (fun n1 => cond (Nat.beq (n % 32) 0) (cond (Nat.beq (zx_Z cs) (n / 32)) (zx_P cs [E] (fun cs2 => kk n (n1, cs2))) false)
    (cond (Nat.beq (zx_Z (zx_N [] cs (n / 32))) (n % 32) && Nat.blt (n / 32) (zx_Z cs)) (zx_P (zx_N [] cs (n / 32)) E (fun ch => zx_S cs (n / 32) ch (fun cs2 => kk n (n1, cs2)))) false)) = true := h
  rw [zx_F_eq] at h
  rcases zx_ct h with ⟨h0, h1⟩ | ⟨h0, h1⟩
  · have h0 := zx_beq.mp h0
    obtain ⟨h2, h3⟩ := zx_c1 h1
    have h2 := zx_beq.mp h2
    rw [zx_Z_eq] at h2
    rw [zx_P_eq] at h3
    refine ⟨_, h3, rfl, ?_, fun j hj => ?_⟩
    · rw [zx_G_eq, List.getElem?_append_right (by simp only; omega)]
      simp only
      rw [h2, h0]; simp
    · simp only at hj
      rw [zx_G_eq, zx_G_eq, List.getElem?_append_left (by omega)]
  · have h0 := zx_nbeq.mp h0
    obtain ⟨h2, h3⟩ := zx_c1 h1
    obtain ⟨h2, h4⟩ := zx_an h2
    have h2 := zx_beq.mp h2
    have h4 := zx_blt.mp h4
    rw [zx_Z_eq, zx_N_eq] at h2
    rw [zx_Z_eq] at h4
    rw [zx_P_eq, zx_S_eq, zx_N_eq] at h3
    refine ⟨_, h3, rfl, ?_, fun j hj => ?_⟩
    · rw [zx_G_eq, List.getElem?_set_self h4]
      simp only [Option.getD_some]
      rw [List.getElem?_append_right (by omega)]
      rw [h2]; simp
    · simp only at hj
      rw [zx_G_eq, zx_G_eq]
      by_cases hd : j / 32 = n / 32
      · rw [hd, List.getElem?_set_self h4]
        simp only [Option.getD_some]
        rw [List.getElem?_append_left (by omega)]
      · rw [List.getElem?_set_ne (Ne.symm hd)]
theorem zr_W_set {σ : Nat → Int32} {b : zxBB} {as : List Nat} {tys : List (ClassId × FieldType)} {hp hp' : zxHP} {ws : va_W} (h : zr_W σ b as tys hp ws) {k q : Nat} (hk : as[k]? = some q) {E : zxCE} {e : va_E} (h1 : hp'.1 = hp.1) (h2 : ∀ j, zx_G hp' j = if j = k then E else zx_G hp j) (hE : zr_E σ b as tys E e) : zr_W σ b as tys hp' (ws.set k (q, e)) := by
  refine ⟨by rw [h1]; exact h.1, by rw [h1, List.length_set]; exact h.2.1, fun j hj => ?_, h.2.2.2⟩
  rw [h1] at hj
  obtain ⟨q', e', g1, g2, g3⟩ := h.2.2.1 j hj
  rw [h2 j]
  by_cases hjk : j = k
  · rw [if_pos hjk]
    subst hjk
    refine ⟨q, e, hk, ?_, hE⟩
    rw [List.getElem?_set_self (by rw [h.2.1]; exact hj)]
  · rw [if_neg hjk]
    refine ⟨q', e', g1, ?_, g3⟩
    rw [List.getElem?_set_ne (Ne.symm hjk)]; exact g2
theorem zr_W_push {σ : Nat → Int32} {b : zxBB} {as : List Nat} {tys : List (ClassId × FieldType)} {hp hp' : zxHP} {ws : va_W} (h : zr_W σ b as tys hp ws) {q : Nat} {E : zxCE} {e : va_E} (t2 : List (ClassId × FieldType)) (h1 : hp'.1 = hp.1 + 1) (h2 : zx_G hp' hp.1 = E) (h3 : ∀ j, j < hp.1 → zx_G hp' j = zx_G hp j) (hE : zr_E σ b (as ++ [q]) (tys ++ t2) E e) : zr_W σ b (as ++ [q]) (tys ++ t2) hp' (ws ++ [(q, e)]) := by
  refine ⟨by rw [h1, List.length_append, h.1]; rfl, by rw [h1, List.length_append, h.2.1]; rfl, fun j hj => ?_, List.IsPrefix.trans h.2.2.2 (List.prefix_append as [q])⟩
  by_cases hl : j < hp.1
  · obtain ⟨q', e', g1, g2, g3⟩ := h.2.2.1 j hl
    refine ⟨q', e', ?_, ?_, ?_⟩
    · rw [List.getElem?_append_left (by rw [h.1]; exact hl)]; exact g1
    · rw [List.getElem?_append_left (by rw [h.2.1]; exact hl)]; exact g2
    · rw [h3 j hl]; exact zr_E_mono [q] t2 g3
  · have hj : j = hp.1 := by omega
    subst hj
    refine ⟨q, e, ?_, ?_, by rw [h2]; exact hE⟩
    · rw [List.getElem?_append_right (by rw [h.1]; exact Nat.le_refl _), h.1]; simp
    · rw [List.getElem?_append_right (by rw [h.2.1]; exact Nat.le_refl _), h.2.1]; simp
def zr_LV (σ : Nat → Int32) (b : zxBB) (as : List Nat) (lv : zxLV) (lv' : List (Nat × Value)) : Prop := zr_2 (fun q q' => q.1 = q'.1 ∧ zr σ b as q.2 q'.2) lv lv'
theorem zr_LV_get {σ : Nat → Int32} {b : zxBB} {as : List Nat} {a c : Nat} (hc : c ≠ 74) : ∀ {lv : zxLV} {lv' : List (Nat × Value)}, zr_LV σ b as lv lv' → zx_A lv 74 a = c → ∃ v, (a, v) ∈ lv' ∧ zr σ b as c v
  | [], [], _, h => absurd h.symm hc
  | x :: l, y :: l', h, h1 => by
    rw [zx_A_cons] at h1
    by_cases hx : x.1 = a
    · rw [if_pos hx] at h1
      refine ⟨y.2, ?_, by rw [← h1]; exact h.1.2⟩
      rw [← hx, h.1.1]; exact List.mem_cons_self
    · rw [if_neg hx] at h1
      obtain ⟨v, g1, g2⟩ := zr_LV_get hc h.2 h1
      exact ⟨v, List.mem_cons_of_mem _ g1, g2⟩
  | [], _ :: _, h, _ => h.elim
  | _ :: _, [], h, _ => h.elim
theorem zr_LV_fil {σ : Nat → Int32} {b : zxBB} {as : List Nat} {wd : Bool} {i : Nat} {P : Nat × Value → Bool} (hP : ∀ (a c : Nat) (v : Value), zr σ b as c v → P (a, v) = !(zx_drop wd i (a, c))) : ∀ {lv : zxLV} {lv' : List (Nat × Value)}, zr_LV σ b as lv lv' → zr_LV σ b as (lv.filter (fun q => !(zx_drop wd i q))) (lv'.filter P)
  | [], [], _ => trivial
  | (a, c) :: l, (a', v) :: l', h => by
    have e := hP a c v h.1.2
    have ea : a = a' := h.1.1
    subst ea
    rw [List.filter_cons, List.filter_cons, e]
    cases zx_drop wd i (a, c)
    · exact ⟨h.1, zr_LV_fil hP h.2⟩
    · exact zr_LV_fil hP h.2
  | [], _ :: _, h => h.elim
  | _ :: _, [], h => h.elim
theorem zx_eqb (a i : Nat) : (a == i) = Nat.beq a i := by rw [Bool.eq_iff_iff, zx_beq, beq_iff_eq]
theorem zr_P1 {σ : Nat → Int32} {b : zxBB} {as : List Nat} (i : Nat) (a c : Nat) (v : Value) (h : zr σ b as c v) : (fun q : Nat × Value => !(q.1 == i) && !(q.1 + 1 == i && q.2.category == 2)) (a, v) = !(zx_drop false i (a, c)) := by
  show (!(a == i) && !(a + 1 == i && v.category == 2)) = !(Nat.beq a i || ((Nat.beq (Nat.succ a) i && zx_2 c) || (false && Nat.beq a (Nat.succ i))))
  rw [zr_cat h]
  have e1 : (a == i) = Nat.beq a i := zx_eqb a i
  have e2 : (a + 1 == i) = Nat.beq (Nat.succ a) i := zx_eqb (a + 1) i
  rw [e1, e2]
  cases Nat.beq a i <;> cases Nat.beq (Nat.succ a) i <;> cases zx_2 c <;> rfl
theorem zr_P2 {σ : Nat → Int32} {b : zxBB} {as : List Nat} (i : Nat) (a c : Nat) (v : Value) (h : zr σ b as c v) : (fun q : Nat × Value => !(q.1 == i) && (!(q.1 == i + 1) && !(q.1 + 1 == i && q.2.category == 2))) (a, v) = !(zx_drop true i (a, c)) := by
  show (!(a == i) && (!(a == i + 1) && !(a + 1 == i && v.category == 2))) = !(Nat.beq a i || ((Nat.beq (Nat.succ a) i && zx_2 c) || (true && Nat.beq a (Nat.succ i))))
  rw [zr_cat h]
  have e1 : (a == i) = Nat.beq a i := zx_eqb a i
  have e2 : (a + 1 == i) = Nat.beq (Nat.succ a) i := zx_eqb (a + 1) i
  have e3 : (a == i + 1) = Nat.beq a (Nat.succ i) := zx_eqb a (i + 1)
  rw [e1, e2, e3]
  cases Nat.beq a i <;> cases Nat.beq (Nat.succ a) i <;> cases zx_2 c <;> cases Nat.beq a (Nat.succ i) <;> rfl
def zr_HP (G : va_G) (σ : Nat → Int32) (b : zxBB) (s : State) (A : Nat → Prop) (as : List Nat) (hp : zxHP) (H : Heap) : Prop :=
  ∃ (tys : List (ClassId × FieldType)) (ws : va_W), va_K G vwCl tys s ∧ zr_W σ b as tys hp ws ∧ va_P G vwCl ws H ∧ va_D A ws
/-- the machine's state is as the abstract one says -/
def zr_R (G : va_G) (σ : Nat → Int32) (b : zxBB) (A : Nat → Prop) (nL : Nat) (s : State) (H : Heap) (locs : List Loc) (ls : Array Slot) (vs : List Value) (lv : zxLV) (stk : List Nat) (hp : zxHP) (st : zxST) : Prop :=
  zr_in σ st ∧ va_S A s.heap H locs ∧ ∃ as, zr_HP G σ b s A as hp H ∧ (∃ lv', lv_has ls nL lv' ∧ zr_LV σ b as lv lv') ∧ zr_2 (zr σ b as) stk vs
def zr_KK (p : Program) (l : Launch) (e : Env) (R : Room) (s : State) (m : MethodId) (args : Array Value) (below : List Frame) (meth : Method) (c : Code) (Q : State → Prop) (G : va_G) (σ : Nat → Int32) (b : zxBB) (A : Nat → Prop) (nL : Nat) (k : zxKT) : Prop :=
  ∀ (pc : Nat) (lv : zxLV) (stk : List Nat) (hp : zxHP) (st : zxST) (u w : Nat) (H : Heap) (locs : List Loc) (ls : Array Slot) (vs : List Value), k pc lv stk hp st u w = true → zr_R G σ b A nL s H locs ls vs lv stk hp st → W p l e R s m args below meth c H locs u w Q (F0 m pc ls vs)
end
section
theorem zr_any {σ : Nat → Int32} {b : zxBB} {as : List Nat} {x : Int32} : zr σ b as 6 (.int x) := (zr_6 rfl).mpr ⟨x, rfl⟩
theorem zr_anyl {σ : Nat → Int32} {b : zxBB} {as : List Nat} {x : Int64} : zr σ b as 7 (.long x) := (zr_7 rfl).mpr ⟨x, rfl, fun h => absurd rfl h⟩
section ZO
variable {p : Program} {l : Launch} {e : Env} {R : Room} {s : State} {m : MethodId} {args : Array Value} {below : List Frame} {meth : Method} {c : Code} {Q : State → Prop} {cc : ByteArray} {nL : Nat} {G : va_G} {σ : Nat → Int32} {b : zxBB} {A : Nat → Prop} {pc a a2 nxt : Nat} {d : List Nat} {lv : zxLV} {stk : List Nat} {hp : zxHP} {st : zxST} {u w : Nat} {k : zxKT} {H : Heap} {locs : List Loc} {ls : Array Slot} {vs : List Value}
theorem zo_push {v : Value} (h : zh_push a a2 nxt d lv stk hp st u w k = true) (r : zr_R G σ b A nL s H locs ls vs lv stk hp st) (kk : zr_KK p l e R s m args below meth c Q G σ b A nL k) (hv : ∀ as, zr σ b as a v)
    (kW : W p l e R s m args below meth c H locs u w Q (F0 m nxt ls (v :: vs)) → W p l e R s m args below meth c H locs u w Q (F0 m pc ls vs)) : W p l e R s m args below meth c H locs u w Q (F0 m pc ls vs) := by
  obtain ⟨hσ, hS, as, hH, hL, hV⟩ := r
  exact kW (kk _ _ _ _ _ _ _ _ _ _ _ h ⟨hσ, hS, as, hH, hL, hv as, hV⟩)
theorem zo_iload (h : zh_iload a a2 nxt d lv stk hp st u w k = true) (r : zr_R G σ b A nL s H locs ls vs lv stk hp st) (kk : zr_KK p l e R s m args below meth c Q G σ b A nL k)
    (kW : ∀ x : Int32, ls[a]? = some (.val (.int x)) → W p l e R s m args below meth c H locs u w Q (F0 m nxt ls (.int x :: vs)) → W p l e R s m args below meth c H locs u w Q (F0 m pc ls vs)) : W p l e R s m args below meth c H locs u w Q (F0 m pc ls vs) := by
  obtain ⟨hσ, hS, as, hH, ⟨lv', hl, hL⟩, hV⟩ := r
  unfold zh_iload at h
  rw [zx_F_eq] at h
  obtain ⟨h1, h2⟩ := zx_c1 h
  obtain ⟨v, g1, g2⟩ := zr_LV_get (fun q => by rw [q] at h1; exact absurd h1 (by decide)) hL (rfl : zx_A lv 74 a = zx_A lv 74 a)
  obtain ⟨x, rfl⟩ := zr_int h1 g2
  exact kW x (hl.2.2 _ g1) (kk _ _ _ _ _ _ _ _ _ _ _ h2 ⟨hσ, hS, as, hH, ⟨lv', hl, hL⟩, g2, hV⟩)
theorem zo_lload (h : zh_lload a a2 nxt d lv stk hp st u w k = true) (r : zr_R G σ b A nL s H locs ls vs lv stk hp st) (kk : zr_KK p l e R s m args below meth c Q G σ b A nL k)
    (kW : ∀ x : Int64, ls[a]? = some (.val (.long x)) → W p l e R s m args below meth c H locs u w Q (F0 m nxt ls (.long x :: vs)) → W p l e R s m args below meth c H locs u w Q (F0 m pc ls vs)) : W p l e R s m args below meth c H locs u w Q (F0 m pc ls vs) := by
  obtain ⟨hσ, hS, as, hH, ⟨lv', hl, hL⟩, hV⟩ := r
  unfold zh_lload at h
  rw [zx_F_eq] at h
  obtain ⟨h1, h2⟩ := zx_c1 h
  obtain ⟨v, g1, g2⟩ := zr_LV_get (fun q => by rw [q] at h1; exact absurd h1 (by decide)) hL (rfl : zx_A lv 74 a = zx_A lv 74 a)
  obtain ⟨x, rfl⟩ := zr_long h1 g2
  exact kW x (hl.2.2 _ g1) (kk _ _ _ _ _ _ _ _ _ _ _ h2 ⟨hσ, hS, as, hH, ⟨lv', hl, hL⟩, g2, hV⟩)
theorem zo_aload (h : zh_aload a a2 nxt d lv stk hp st u w k = true) (r : zr_R G σ b A nL s H locs ls vs lv stk hp st) (kk : zr_KK p l e R s m args below meth c Q G σ b A nL k)
    (kW : ∀ x : Nat, ls[a]? = some (.val (.ref x)) → W p l e R s m args below meth c H locs u w Q (F0 m nxt ls (.ref x :: vs)) → W p l e R s m args below meth c H locs u w Q (F0 m pc ls vs)) : W p l e R s m args below meth c H locs u w Q (F0 m pc ls vs) := by
  obtain ⟨hσ, hS, as, hH, ⟨lv', hl, hL⟩, hV⟩ := r
  unfold zh_aload at h
  rw [zx_F_eq] at h
  obtain ⟨h1, h2⟩ := zx_c1 h
  obtain ⟨v, g1, g2⟩ := zr_LV_get (fun q => by rw [q] at h1; exact absurd h1 (by decide)) hL (rfl : zx_A lv 74 a = zx_A lv 74 a)
  obtain ⟨x, rfl⟩ := zr_ref h1 g2
  exact kW x (hl.2.2 _ g1) (kk _ _ _ _ _ _ _ _ _ _ _ h2 ⟨hσ, hS, as, hH, ⟨lv', hl, hL⟩, g2, hV⟩)
theorem zo_istore (ha2 : a2 = nL) (h : zh_istore a a2 nxt d lv stk hp st u w k = true) (r : zr_R G σ b A nL s H locs ls vs lv stk hp st) (kk : zr_KK p l e R s m args below meth c Q G σ b A nL k)
    (kW : ∀ (x : Int32) (vs' : List Value) (lv' : List (Nat × Value)), vs = .int x :: vs' → lv_has ls nL lv' → a < nL → (∀ ls' : Array Slot, lv_has ls' nL ((a, Value.int x) :: lv'.filter (fun q => !(q.1 == a) && !(q.1 + 1 == a && q.2.category == 2))) → W p l e R s m args below meth c H locs u w Q (F0 m nxt ls' vs')) → W p l e R s m args below meth c H locs u w Q (F0 m pc ls vs)) : W p l e R s m args below meth c H locs u w Q (F0 m pc ls vs) := by
  obtain ⟨hσ, hS, as, hH, ⟨lv', hl, hL⟩, hV⟩ := r
  rcases stk with _ | ⟨x, rr⟩
  · exact absurd h Bool.false_ne_true
  rcases vs with _ | ⟨v, vr⟩
  · exact hV.elim
  obtain ⟨h1, h2⟩ := zx_c1 (show cond (zx_i x && Nat.blt a a2) (zx_L false a lv (fun l => k nxt ((a, x) :: l) rr hp st u w)) false = true from h)
  obtain ⟨h1, h3⟩ := zx_an h1
  have h3 := zx_blt.mp h3
  rw [zx_L_eq] at h2
  obtain ⟨xv, rfl⟩ := zr_int h1 hV.1
  refine kW xv vr lv' rfl hl (ha2 ▸ h3) (fun ls' hl' => kk _ _ _ _ _ _ _ _ _ _ _ h2 ⟨hσ, hS, as, hH, ⟨_, hl', ?_⟩, hV.2⟩)
  exact ⟨⟨rfl, hV.1⟩, zr_LV_fil (zr_P1 a) hL⟩
theorem zo_astore (ha2 : a2 = nL) (h : zh_astore a a2 nxt d lv stk hp st u w k = true) (r : zr_R G σ b A nL s H locs ls vs lv stk hp st) (kk : zr_KK p l e R s m args below meth c Q G σ b A nL k)
    (kW : ∀ (x : Nat) (vs' : List Value) (lv' : List (Nat × Value)), vs = .ref x :: vs' → lv_has ls nL lv' → a < nL → (∀ ls' : Array Slot, lv_has ls' nL ((a, Value.ref x) :: lv'.filter (fun q => !(q.1 == a) && !(q.1 + 1 == a && q.2.category == 2))) → W p l e R s m args below meth c H locs u w Q (F0 m nxt ls' vs')) → W p l e R s m args below meth c H locs u w Q (F0 m pc ls vs)) : W p l e R s m args below meth c H locs u w Q (F0 m pc ls vs) := by
  obtain ⟨hσ, hS, as, hH, ⟨lv', hl, hL⟩, hV⟩ := r
  rcases stk with _ | ⟨x, rr⟩
  · exact absurd h Bool.false_ne_true
  rcases vs with _ | ⟨v, vr⟩
  · exact hV.elim
  obtain ⟨h1, h2⟩ := zx_c1 (show cond (zx_r x && Nat.blt a a2) (zx_L false a lv (fun l => k nxt ((a, x) :: l) rr hp st u w)) false = true from h)
  obtain ⟨h1, h3⟩ := zx_an h1
  have h3 := zx_blt.mp h3
  rw [zx_L_eq] at h2
  obtain ⟨xv, rfl⟩ := zr_ref h1 hV.1
  refine kW xv vr lv' rfl hl (ha2 ▸ h3) (fun ls' hl' => kk _ _ _ _ _ _ _ _ _ _ _ h2 ⟨hσ, hS, as, hH, ⟨_, hl', ?_⟩, hV.2⟩)
  exact ⟨⟨rfl, hV.1⟩, zr_LV_fil (zr_P1 a) hL⟩
theorem zo_iinc {n : Nat} {z : Int} (hz : Int32.ofInt z = nI n) (hx : p.tables.exec = Jvm.exec) (hb : c.code = cc) (hdg : decode cc pc = .ok (.iinc a z, 3)) (ha2 : a2 = nL) (hn : nxt = pc + 3) (h : zh_iinc a a2 nxt [n] lv stk hp st u w k = true) (r : zr_R G σ b A nL s H locs ls vs lv stk hp st) (kk : zr_KK p l e R s m args below meth c Q G σ b A nL k) : W p l e R s m args below meth c H locs u w Q (F0 m pc ls vs) := by
  obtain ⟨hσ, hS, as, hH, ⟨lv', hl, hL⟩, hV⟩ := r
  have h : zx_F (zx_A lv 74 a) (fun c => cond (zx_i c && Nat.blt a a2) (zx_F (cond (Nat.beq (c % 8) 0) (8 * ((c / 8 + n) % 4294967296)) 6) (fun v => zx_L false a lv (fun l => k nxt ((a, v) :: l) stk hp st u w))) false) = true := h
  rw [zx_F_eq] at h
  obtain ⟨h1, h2⟩ := zx_c1 h
  obtain ⟨h1, h3⟩ := zx_an h1
  have h3 := zx_blt.mp h3
  obtain ⟨v, g1, g2⟩ := zr_LV_get (fun q => by rw [q] at h1; exact absurd h1 (by decide)) hL (rfl : zx_A lv 74 a = zx_A lv 74 a)
  obtain ⟨x, rfl⟩ := zr_int h1 g2
  rw [zx_F_eq, zx_L_eq] at h2
  obtain ⟨kq, g3⟩ := List.getElem?_of_mem g1
  refine lv_iinc (k := kq) hx hb hdg hl g3 rfl (ha2 ▸ h3) rfl (fun ls' hl' => hn ▸ kk _ _ _ _ _ _ _ _ _ _ _ h2 ⟨hσ, hS, as, hH, ⟨_, hl', ?_⟩, hV⟩)
  refine ⟨⟨rfl, ?_⟩, zr_LV_fil (zr_P1 a) hL⟩
  show zr σ b as (cond (Nat.beq (zx_A lv 74 a % 8) 0) (8 * ((zx_A lv 74 a / 8 + n) % 4294967296)) 6) (.int (x + Int32.ofInt z))
  generalize zx_A lv 74 a = q at g2
  cases hq : Nat.beq (q % 8) 0 with
  | false => exact zr_any
  | true =>
    have hx := Value.int.inj ((zr_0 (zx_beq.mp hq)).mp g2)
    refine (zr_0 (by show (8 * ((q / 8 + n) % 4294967296)) % 8 = 0; omega)).mpr ?_
    show Value.int (x + Int32.ofInt z) = .int (nI (8 * ((q / 8 + n) % 4294967296) / 8))
    rw [Nat.mul_div_cancel_left _ (by decide), zr_nI_mod, hx, hz, nI_add]
theorem zo_iadd (hx : p.tables.exec = Jvm.exec) (hb : c.code = cc) (hdg : decode cc pc = .ok (.iadd, 1)) (hn : nxt = pc + 1) (h : zh_iadd a a2 nxt d lv stk hp st u w k = true) (r : zr_R G σ b A nL s H locs ls vs lv stk hp st) (kk : zr_KK p l e R s m args below meth c Q G σ b A nL k) : W p l e R s m args below meth c H locs u w Q (F0 m pc ls vs) := by
  obtain ⟨hσ, hS, as, hH, hL, hV⟩ := r
  rcases stk with _ | ⟨y, _ | ⟨x, rr⟩⟩
  · exact absurd h Bool.false_ne_true
  · exact absurd h Bool.false_ne_true
  rcases vs with _ | ⟨vy, _ | ⟨vx, vr⟩⟩
  · exact hV.elim
  · exact hV.2.elim
  obtain ⟨hy, hx1, hr⟩ := hV
  obtain ⟨y', s1, h, hσ, my⟩ := zx_C_ok (show zx_C y st (fun y s1 => zx_C x s1 (fun x s2 => cond (zx_i x && zx_i y) (zx_F (cond (Nat.beq x 0) y (cond (Nat.beq y 0) x (cond (Nat.beq (x % 8) 0 && Nat.beq (y % 8) 0) (8 * ((x / 8 + y / 8) % 4294967296)) 6))) (fun v => k nxt lv (v :: rr) hp s2 u w)) false)) = true from h) hσ
  obtain ⟨x', s2, h, hσ, mx⟩ := zx_C_ok h hσ
  have hy := my _ _ _ hy
  have hx1 := mx _ _ _ hx1
  obtain ⟨h1, h⟩ := zx_c1 h
  obtain ⟨h1, h2⟩ := zx_an h1
  obtain ⟨x, rfl⟩ := zr_int h1 hx1
  obtain ⟨y, rfl⟩ := zr_int h2 hy
  rw [zx_F_eq] at h
  refine lv_iadd hx hb hdg (hn ▸ kk _ _ _ _ _ _ _ _ _ _ _ h ⟨hσ, hS, as, hH, hL, ?_, hr⟩)
  cases q1 : Nat.beq x' 0 with
  | true =>
    have := zx_beq.mp q1; subst this
    have e := Value.int.inj ((zr_0 rfl).mp hx1)
    show zr σ b as y' _
    rw [show x + y = y by rw [e]; show nI 0 + y = y; rw [nI_0]; exact Int32.zero_add y]
    exact hy
  | false =>
    cases q2 : Nat.beq y' 0 with
    | true =>
      have := zx_beq.mp q2; subst this
      have e := Value.int.inj ((zr_0 rfl).mp hy)
      show zr σ b as x' _
      rw [show x + y = x by rw [e]; show x + nI 0 = x; rw [nI_0]; exact Int32.add_zero x]
      exact hx1
    | false =>
      cases q3 : (Nat.beq (x' % 8) 0 && Nat.beq (y' % 8) 0) with
      | false => exact zr_any
      | true =>
        obtain ⟨q3, q4⟩ := zx_an q3
        have e1 := Value.int.inj ((zr_0 (zx_beq.mp q3)).mp hx1)
        have e2 := Value.int.inj ((zr_0 (zx_beq.mp q4)).mp hy)
        show zr σ b as (8 * ((x' / 8 + y' / 8) % 4294967296)) _
        refine (zr_0 (by omega)).mpr ?_
        rw [Nat.mul_div_cancel_left _ (by decide), zr_nI_mod, e1, e2, nI_add]
theorem zo_isub (hx : p.tables.exec = Jvm.exec) (hb : c.code = cc) (hdg : decode cc pc = .ok (.isub, 1)) (hn : nxt = pc + 1) (h : zh_isub a a2 nxt d lv stk hp st u w k = true) (r : zr_R G σ b A nL s H locs ls vs lv stk hp st) (kk : zr_KK p l e R s m args below meth c Q G σ b A nL k) : W p l e R s m args below meth c H locs u w Q (F0 m pc ls vs) := by
  obtain ⟨hσ, hS, as, hH, hL, hV⟩ := r
  rcases stk with _ | ⟨y, _ | ⟨x, rr⟩⟩
  · exact absurd h Bool.false_ne_true
  · exact absurd h Bool.false_ne_true
  rcases vs with _ | ⟨vy, _ | ⟨vx, vr⟩⟩
  · exact hV.elim
  · exact hV.2.elim
  obtain ⟨hy, hx1, hr⟩ := hV
  obtain ⟨y', s1, h, hσ, my⟩ := zx_C_ok (show zx_C y st (fun y s1 => zx_C x s1 (fun x s2 => cond (zx_i x && zx_i y) (zx_F (cond (Nat.beq (x % 8) 0 && Nat.beq (y % 8) 0) (8 * ((x / 8 + (4294967296 - y / 8 % 4294967296)) % 4294967296)) 6) (fun v => k nxt lv (v :: rr) hp s2 u w)) false)) = true from h) hσ
  obtain ⟨x', s2, h, hσ, mx⟩ := zx_C_ok h hσ
  have hy := my _ _ _ hy
  have hx1 := mx _ _ _ hx1
  obtain ⟨h1, h⟩ := zx_c1 h
  obtain ⟨h1, h2⟩ := zx_an h1
  obtain ⟨x, rfl⟩ := zr_int h1 hx1
  obtain ⟨y, rfl⟩ := zr_int h2 hy
  rw [zx_F_eq] at h
  refine lv_isub hx hb hdg (hn ▸ kk _ _ _ _ _ _ _ _ _ _ _ h ⟨hσ, hS, as, hH, hL, ?_, hr⟩)
  cases q3 : (Nat.beq (x' % 8) 0 && Nat.beq (y' % 8) 0) with
  | false => exact zr_any
  | true =>
    obtain ⟨q3, q4⟩ := zx_an q3
    have e1 := Value.int.inj ((zr_0 (zx_beq.mp q3)).mp hx1)
    have e2 := Value.int.inj ((zr_0 (zx_beq.mp q4)).mp hy)
    show zr σ b as (8 * ((x' / 8 + (4294967296 - y' / 8 % 4294967296)) % 4294967296)) _
    refine (zr_0 (by omega)).mpr ?_
    rw [Nat.mul_div_cancel_left _ (by decide), zr_nI_mod, e1, e2, ← zr_nI_mod (y' / 8), ← nI_add, ← pk_sub (Nat.le_of_lt (Nat.mod_lt _ (by decide)))]
    rw [show nI 4294967296 = 0 by decide, Int32.zero_sub, ← Int32.sub_eq_add_neg]
theorem zo_imul (hx : p.tables.exec = Jvm.exec) (hb : c.code = cc) (hdg : decode cc pc = .ok (.imul, 1)) (hn : nxt = pc + 1) (h : zh_imul a a2 nxt d lv stk hp st u w k = true) (r : zr_R G σ b A nL s H locs ls vs lv stk hp st) (kk : zr_KK p l e R s m args below meth c Q G σ b A nL k) : W p l e R s m args below meth c H locs u w Q (F0 m pc ls vs) := by
  obtain ⟨hσ, hS, as, hH, hL, hV⟩ := r
  rcases stk with _ | ⟨y, _ | ⟨x, rr⟩⟩
  · exact absurd h Bool.false_ne_true
  · exact absurd h Bool.false_ne_true
  rcases vs with _ | ⟨vy, _ | ⟨vx, vr⟩⟩
  · exact hV.elim
  · exact hV.2.elim
  obtain ⟨hy, hx1, hr⟩ := hV
  obtain ⟨y', s1, h, hσ, my⟩ := zx_C_ok (show zx_C y st (fun y s1 => zx_C x s1 (fun x s2 => cond (zx_i x && zx_i y) (zx_F (cond (Nat.beq (x % 8) 0 && Nat.beq (y % 8) 0) (8 * ((x / 8 * (y / 8)) % 4294967296)) 6) (fun v => k nxt lv (v :: rr) hp s2 u w)) false)) = true from h) hσ
  obtain ⟨x', s2, h, hσ, mx⟩ := zx_C_ok h hσ
  have hy := my _ _ _ hy
  have hx1 := mx _ _ _ hx1
  obtain ⟨h1, h⟩ := zx_c1 h
  obtain ⟨h1, h2⟩ := zx_an h1
  obtain ⟨x, rfl⟩ := zr_int h1 hx1
  obtain ⟨y, rfl⟩ := zr_int h2 hy
  rw [zx_F_eq] at h
  refine lv_imul hx hb hdg (hn ▸ kk _ _ _ _ _ _ _ _ _ _ _ h ⟨hσ, hS, as, hH, hL, ?_, hr⟩)
  cases q3 : (Nat.beq (x' % 8) 0 && Nat.beq (y' % 8) 0) with
  | false => exact zr_any
  | true =>
    obtain ⟨q3, q4⟩ := zx_an q3
    have e1 := Value.int.inj ((zr_0 (zx_beq.mp q3)).mp hx1)
    have e2 := Value.int.inj ((zr_0 (zx_beq.mp q4)).mp hy)
    show zr σ b as (8 * ((x' / 8 * (y' / 8)) % 4294967296)) _
    refine (zr_0 (by omega)).mpr ?_
    rw [Nat.mul_div_cancel_left _ (by decide), zr_nI_mod, e1, e2, pk_mul]
end ZO
end
section
theorem zr_l_hi {σ : Nat → Int32} {i : Nat} (h : i < 100) : zr_l σ (100 + i) = zr_hi σ i := by
  unfold zr_l
  rw [if_pos (by omega), show 100 + i - 100 = i by omega]
theorem zr_l_lo {σ : Nat → Int32} {i : Nat} (h : i < 100) : zr_l σ (200 + i) = zr_lo σ i := by
  unfold zr_l
  rw [if_neg (by omega), if_pos (by omega), show 200 + i - 200 = i by omega]
theorem zr_l_pair {σ : Nat → Int32} {i j : Nat} (h : j < 8) : zr_l σ (1000 + 8 * i + j) = zr_hi σ i ||| zr_lo σ j := by
  unfold zr_l
  rw [if_neg (by omega), if_neg (by omega), show (1000 + 8 * i + j - 1000) / 8 = i by omega, show (1000 + 8 * i + j - 1000) % 8 = j by omega]
theorem zr_d_s {σ : Nat → Int32} {i : Nat} (h : i < 100) : zr_d σ i = σ i := by unfold zr_d; rw [if_pos h]
section ZO2
variable {p : Program} {l : Launch} {e : Env} {R : Room} {s : State} {m : MethodId} {args : Array Value} {below : List Frame} {meth : Method} {c : Code} {Q : State → Prop} {cc : ByteArray} {nL : Nat} {G : va_G} {σ : Nat → Int32} {b : zxBB} {A : Nat → Prop} {pc a a2 nxt : Nat} {d : List Nat} {lv : zxLV} {stk : List Nat} {hp : zxHP} {st : zxST} {u w : Nat} {k : zxKT} {H : Heap} {locs : List Loc} {ls : Array Slot} {vs : List Value}
theorem zo_iand (hx : p.tables.exec = Jvm.exec) (hb : c.code = cc) (hdg : decode cc pc = .ok (.iand, 1)) (hn : nxt = pc + 1) (h : zh_iand a a2 nxt d lv stk hp st u w k = true) (r : zr_R G σ b A nL s H locs ls vs lv stk hp st) (kk : zr_KK p l e R s m args below meth c Q G σ b A nL k) : W p l e R s m args below meth c H locs u w Q (F0 m pc ls vs) := by
  obtain ⟨hσ, hS, as, hH, hL, hV⟩ := r
  rcases stk with _ | ⟨y, _ | ⟨x, rr⟩⟩
  · exact absurd h Bool.false_ne_true
  · exact absurd h Bool.false_ne_true
  rcases vs with _ | ⟨vy, _ | ⟨vx, vr⟩⟩
  · exact hV.elim
  · exact hV.2.elim
  obtain ⟨hy, hx1, hr⟩ := hV
  obtain ⟨h1, h⟩ := zx_c1 (show cond (Nat.beq y 248 && zx_i x) (zx_R 32 (fun j => zx_F (8 * j) (fun v => k nxt lv (v :: rr) hp st u w))) false = true from h)
  obtain ⟨h1, h2⟩ := zx_an h1
  rw [zx_beq.mp h1] at hy
  have hy := (zr_0 rfl).mp hy
  subst hy
  obtain ⟨x, rfl⟩ := zr_int h2 hx1
  obtain ⟨j, hj, e1⟩ := pk_andE x (m := nI (248 / 8)) 5 (by decide)
  have h := zx_R_ok h j hj
  rw [zx_F_eq] at h
  refine lv_iand hx hb hdg (hn ▸ kk _ _ _ _ _ _ _ _ _ _ _ h ⟨hσ, hS, as, hH, hL, ?_, hr⟩)
  refine (zr_0 (by omega)).mpr ?_
  rw [e1, Nat.mul_div_cancel_left _ (by decide)]
theorem zo_i2b (hx : p.tables.exec = Jvm.exec) (hb : c.code = cc) (hdg : decode cc pc = .ok (.i2b, 1)) (hn : nxt = pc + 1) (h : zh_i2b a a2 nxt d lv stk hp st u w k = true) (r : zr_R G σ b A nL s H locs ls vs lv stk hp st) (kk : zr_KK p l e R s m args below meth c Q G σ b A nL k) : W p l e R s m args below meth c H locs u w Q (F0 m pc ls vs) := by
  obtain ⟨hσ, hS, as, hH, hL, hV⟩ := r
  rcases stk with _ | ⟨x, rr⟩
  · exact absurd h Bool.false_ne_true
  rcases vs with _ | ⟨vx, vr⟩
  · exact hV.elim
  obtain ⟨hx1, hr⟩ := hV
  obtain ⟨h1, h⟩ := zx_c1 (show cond (zx_i x) (zx_M x st (fun c => zx_F (cond (Nat.beq (c % 8) 0) (8 * cond (Nat.blt (c / 8 % 256) 128) (c / 8 % 256) (c / 8 % 256 + 4294967040)) 6) (fun v => k nxt lv (v :: rr) hp st u w))) false = true from h)
  obtain ⟨x', e1, -, -, m1⟩ := zx_M_ok x st (fun c => zx_F (cond (Nat.beq (c % 8) 0) (8 * cond (Nat.blt (c / 8 % 256) 128) (c / 8 % 256) (c / 8 % 256 + 4294967040)) 6) (fun v => k nxt lv (v :: rr) hp st u w))
  rw [e1, zx_F_eq] at h
  obtain ⟨xv, rfl⟩ := zr_int h1 hx1
  have hx1 := m1 σ b as _ hσ hx1
  refine lv_i2b hx hb hdg rfl (hn ▸ kk _ _ _ _ _ _ _ _ _ _ _ h ⟨hσ, hS, as, hH, hL, ?_, hr⟩)
  cases q3 : Nat.beq (x' % 8) 0 with
  | false => exact zr_any
  | true =>
    have e1 := Value.int.inj ((zr_0 (zx_beq.mp q3)).mp hx1)
    show zr σ b as (8 * cond (Nat.blt (x' / 8 % 256) 128) (x' / 8 % 256) (x' / 8 % 256 + 4294967040)) _
    refine (zr_0 (by omega)).mpr ?_
    rw [Nat.mul_div_cancel_left _ (by decide), e1, zn_byte]
theorem zo_i2l (hx : p.tables.exec = Jvm.exec) (hb : c.code = cc) (hdg : decode cc pc = .ok (.i2l, 1)) (hn : nxt = pc + 1) (h : zh_i2l a a2 nxt d lv stk hp st u w k = true) (r : zr_R G σ b A nL s H locs ls vs lv stk hp st) (kk : zr_KK p l e R s m args below meth c Q G σ b A nL k) : W p l e R s m args below meth c H locs u w Q (F0 m pc ls vs) := by
  obtain ⟨hσ, hS, as, hH, hL, hV⟩ := r
  rcases stk with _ | ⟨x, rr⟩
  · exact absurd h Bool.false_ne_true
  rcases vs with _ | ⟨vx, vr⟩
  · exact hV.elim
  obtain ⟨hx1, hr⟩ := hV
  obtain ⟨h1, h⟩ := zx_c1 (show cond (zx_i x) (zx_M x st (fun c => zx_F (cond (Nat.beq (c % 8) 0) (8 * cond (Nat.blt (c / 8 % 4294967296) 2147483648) (c / 8 % 4294967296) (c / 8 % 4294967296 + 18446744069414584320) + 1) (cond (Nat.beq (c % 8) 4) (Nat.succ c) 7)) (fun v => k nxt lv (v :: rr) hp st u w))) false = true from h)
  obtain ⟨x', e1, -, -, m1⟩ := zx_M_ok x st (fun c => zx_F (cond (Nat.beq (c % 8) 0) (8 * cond (Nat.blt (c / 8 % 4294967296) 2147483648) (c / 8 % 4294967296) (c / 8 % 4294967296 + 18446744069414584320) + 1) (cond (Nat.beq (c % 8) 4) (Nat.succ c) 7)) (fun v => k nxt lv (v :: rr) hp st u w))
  rw [e1, zx_F_eq] at h
  obtain ⟨xv, rfl⟩ := zr_int h1 hx1
  have hx1 := m1 σ b as _ hσ hx1
  refine lv_i2l hx hb hdg rfl (hn ▸ kk _ _ _ _ _ _ _ _ _ _ _ h ⟨hσ, hS, as, hH, hL, ?_, hr⟩)
  cases q3 : Nat.beq (x' % 8) 0 with
  | false =>
    cases q4 : Nat.beq (x' % 8) 4 with
    | false => exact zr_anyl
    | true =>
      have q4 := zx_beq.mp q4
      have e1 := Value.int.inj ((zr_4 q4).mp hx1)
      show zr σ b as (Nat.succ x') _
      refine (zr_5 (by omega)).mpr ?_
      rw [e1, show Nat.succ x' / 8 = x' / 8 by omega]
  | true =>
    have e1 := Value.int.inj ((zr_0 (zx_beq.mp q3)).mp hx1)
    show zr σ b as (8 * cond (Nat.blt (x' / 8 % 4294967296) 2147483648) (x' / 8 % 4294967296) (x' / 8 % 4294967296 + 18446744069414584320) + 1) _
    refine (zr_1 (by omega)).mpr ?_
    rw [e1, zn_i2l]
    congr 2
    generalize cond (Nat.blt (x' / 8 % 4294967296) 2147483648) (x' / 8 % 4294967296) (x' / 8 % 4294967296 + 18446744069414584320) = z
    omega
theorem zo_l2i (hx : p.tables.exec = Jvm.exec) (hb : c.code = cc) (hdg : decode cc pc = .ok (.l2i, 1)) (hn : nxt = pc + 1) (h : zh_l2i a a2 nxt d lv stk hp st u w k = true) (r : zr_R G σ b A nL s H locs ls vs lv stk hp st) (kk : zr_KK p l e R s m args below meth c Q G σ b A nL k) : W p l e R s m args below meth c H locs u w Q (F0 m pc ls vs) := by
  obtain ⟨hσ, hS, as, hH, hL, hV⟩ := r
  rcases stk with _ | ⟨x, rr⟩
  · exact absurd h Bool.false_ne_true
  rcases vs with _ | ⟨vx, vr⟩
  · exact hV.elim
  obtain ⟨hx1, hr⟩ := hV
  obtain ⟨h1, h⟩ := zx_c1 (show cond (zx_2 x) (zx_F (cond (Nat.beq (x % 8) 1) (8 * (x / 8 % 4294967296)) 6) (fun v => k nxt lv (v :: rr) hp st u w)) false = true from h)
  rw [zx_F_eq] at h
  obtain ⟨xv, rfl⟩ := zr_long h1 hx1
  refine lv_l2i hx hb hdg rfl (hn ▸ kk _ _ _ _ _ _ _ _ _ _ _ h ⟨hσ, hS, as, hH, hL, ?_, hr⟩)
  cases q3 : Nat.beq (x % 8) 1 with
  | false => exact zr_any
  | true =>
    have e1 := Value.long.inj ((zr_1 (zx_beq.mp q3)).mp hx1)
    show zr σ b as (8 * (x / 8 % 4294967296)) _
    refine (zr_0 (by omega)).mpr ?_
    rw [e1, lN_i, Nat.mul_div_cancel_left _ (by decide), zr_nI_mod]
theorem zo_lshl (hx : p.tables.exec = Jvm.exec) (hb : c.code = cc) (hdg : decode cc pc = .ok (.lshl, 1)) (hn : nxt = pc + 1) (h : zh_lshl a a2 nxt d lv stk hp st u w k = true) (r : zr_R G σ b A nL s H locs ls vs lv stk hp st) (kk : zr_KK p l e R s m args below meth c Q G σ b A nL k) : W p l e R s m args below meth c H locs u w Q (F0 m pc ls vs) := by
  obtain ⟨hσ, hS, as, hH, hL, hV⟩ := r
  rcases stk with _ | ⟨y, _ | ⟨x, rr⟩⟩
  · exact absurd h Bool.false_ne_true
  · exact absurd h Bool.false_ne_true
  rcases vs with _ | ⟨vy, _ | ⟨vx, vr⟩⟩
  · exact hV.elim
  · exact hV.2.elim
  obtain ⟨hy, hx1, hr⟩ := hV
  obtain ⟨h1, h⟩ := zx_c1 (show cond (zx_2 x && zx_i y) (zx_F (cond (Nat.beq (x % 8) 5 && (Nat.beq y 256 && Nat.blt (x / 8) 100)) (8 * (100 + x / 8) + 7) 7) (fun v => k nxt lv (v :: rr) hp st u w)) false = true from h)
  obtain ⟨h1, h2⟩ := zx_an h1
  obtain ⟨xv, rfl⟩ := zr_long h1 hx1
  obtain ⟨yv, rfl⟩ := zr_int h2 hy
  rw [zx_F_eq] at h
  refine lv_lshl hx hb hdg rfl (hn ▸ kk _ _ _ _ _ _ _ _ _ _ _ h ⟨hσ, hS, as, hH, hL, ?_, hr⟩)
  cases q3 : (Nat.beq (x % 8) 5 && (Nat.beq y 256 && Nat.blt (x / 8) 100)) with
  | false => exact zr_anyl
  | true =>
    obtain ⟨q3, q4⟩ := zx_an q3
    obtain ⟨q4, q5⟩ := zx_an q4
    have q5 := zx_blt.mp q5
    rw [zx_beq.mp q4] at hy
    have e1 := Value.long.inj ((zr_5 (zx_beq.mp q3)).mp hx1)
    have e2 := Value.int.inj ((zr_0 rfl).mp hy)
    show zr σ b as (8 * (100 + x / 8) + 7) _
    refine (zr_7 (by omega)).mpr ⟨_, rfl, fun _ => ?_⟩
    rw [show (8 * (100 + x / 8) + 7) / 8 = 100 + x / 8 by omega, e1, e2, zr_l_hi q5, zr_d_s q5]
    rfl
theorem zo_lushr (hx : p.tables.exec = Jvm.exec) (hb : c.code = cc) (hdg : decode cc pc = .ok (.lushr, 1)) (hn : nxt = pc + 1) (h : zh_lushr a a2 nxt d lv stk hp st u w k = true) (r : zr_R G σ b A nL s H locs ls vs lv stk hp st) (kk : zr_KK p l e R s m args below meth c Q G σ b A nL k) : W p l e R s m args below meth c H locs u w Q (F0 m pc ls vs) := by
  obtain ⟨hσ, hS, as, hH, hL, hV⟩ := r
  rcases stk with _ | ⟨y, _ | ⟨x, rr⟩⟩
  · exact absurd h Bool.false_ne_true
  · exact absurd h Bool.false_ne_true
  rcases vs with _ | ⟨vy, _ | ⟨vx, vr⟩⟩
  · exact hV.elim
  · exact hV.2.elim
  obtain ⟨hy, hx1, hr⟩ := hV
  obtain ⟨h1, h⟩ := zx_c1 (show cond (zx_2 x && zx_i y) (k nxt lv (7 :: rr) hp st u w) false = true from h)
  obtain ⟨h1, h2⟩ := zx_an h1
  obtain ⟨xv, rfl⟩ := zr_long h1 hx1
  obtain ⟨yv, rfl⟩ := zr_int h2 hy
  exact lv_lushr hx hb hdg rfl (hn ▸ kk _ _ _ _ _ _ _ _ _ _ _ h ⟨hσ, hS, as, hH, hL, zr_anyl, hr⟩)
theorem zo_land (hx : p.tables.exec = Jvm.exec) (hb : c.code = cc) (hdg : decode cc pc = .ok (.land, 1)) (hn : nxt = pc + 1) (h : zh_land a a2 nxt d lv stk hp st u w k = true) (r : zr_R G σ b A nL s H locs ls vs lv stk hp st) (kk : zr_KK p l e R s m args below meth c Q G σ b A nL k) : W p l e R s m args below meth c H locs u w Q (F0 m pc ls vs) := by
  obtain ⟨hσ, hS, as, hH, hL, hV⟩ := r
  rcases stk with _ | ⟨y, _ | ⟨x, rr⟩⟩
  · exact absurd h Bool.false_ne_true
  · exact absurd h Bool.false_ne_true
  rcases vs with _ | ⟨vy, _ | ⟨vx, vr⟩⟩
  · exact hV.elim
  · exact hV.2.elim
  obtain ⟨hy, hx1, hr⟩ := hV
  obtain ⟨h1, h⟩ := zx_c1 (show cond (zx_2 x && zx_2 y) (zx_F (cond (Nat.beq (x % 8) 5 && (Nat.beq y 34359738361 && Nat.blt (x / 8) 100)) (8 * (200 + x / 8) + 7) 7) (fun v => k nxt lv (v :: rr) hp st u w)) false = true from h)
  obtain ⟨h1, h2⟩ := zx_an h1
  obtain ⟨xv, rfl⟩ := zr_long h1 hx1
  obtain ⟨yv, rfl⟩ := zr_long h2 hy
  rw [zx_F_eq] at h
  refine lv_land hx hb hdg (hn ▸ kk _ _ _ _ _ _ _ _ _ _ _ h ⟨hσ, hS, as, hH, hL, ?_, hr⟩)
  cases q3 : (Nat.beq (x % 8) 5 && (Nat.beq y 34359738361 && Nat.blt (x / 8) 100)) with
  | false => exact zr_anyl
  | true =>
    obtain ⟨q3, q4⟩ := zx_an q3
    obtain ⟨q4, q5⟩ := zx_an q4
    have q4 := zx_beq.mp q4
    have q5 := zx_blt.mp q5
    have q3 := zx_beq.mp q3
    rw [q4] at hy
    have e1 := Value.long.inj ((zr_5 q3).mp hx1)
    have e2 := Value.long.inj ((zr_1 (by decide)).mp hy)
    show zr σ b as (8 * (200 + x / 8) + 7) _
    refine (zr_7 (by omega)).mpr ⟨_, rfl, fun _ => ?_⟩
    rw [show (8 * (200 + x / 8) + 7) / 8 = 200 + x / 8 by omega, e1, e2, zr_l_lo q5, zr_d_s q5]
    rfl
set_option maxRecDepth 20000 in
theorem zo_lor (hx : p.tables.exec = Jvm.exec) (hb : c.code = cc) (hdg : decode cc pc = .ok (.lor, 1)) (hn : nxt = pc + 1) (h : zh_lor a a2 nxt d lv stk hp st u w k = true) (r : zr_R G σ b A nL s H locs ls vs lv stk hp st) (kk : zr_KK p l e R s m args below meth c Q G σ b A nL k) : W p l e R s m args below meth c H locs u w Q (F0 m pc ls vs) := by
  obtain ⟨hσ, hS, as, hH, hL, hV⟩ := r
  rcases stk with _ | ⟨y, _ | ⟨x, rr⟩⟩
  · exact absurd h Bool.false_ne_true
  · exact absurd h Bool.false_ne_true
  rcases vs with _ | ⟨vy, _ | ⟨vx, vr⟩⟩
  · exact hV.elim
  · exact hV.2.elim
  obtain ⟨hy, hx1, hr⟩ := hV
  obtain ⟨h1, h⟩ := zx_c1 (show cond (zx_2 x && zx_2 y) (zx_F (cond (Nat.beq (x % 8) 7 && (Nat.beq (y % 8) 7 && (Nat.ble 100 (x / 8) && (Nat.blt (x / 8) 108 && (Nat.ble 200 (y / 8) && Nat.blt (y / 8) 208))))) (8 * (1000 + 8 * (x / 8 - 100) + (y / 8 - 200)) + 7) 7) (fun v => k nxt lv (v :: rr) hp st u w)) false = true from h)
  obtain ⟨h1, h2⟩ := zx_an h1
  obtain ⟨xv, rfl⟩ := zr_long h1 hx1
  obtain ⟨yv, rfl⟩ := zr_long h2 hy
  rw [zx_F_eq] at h
  refine lv_lor hx hb hdg (hn ▸ kk _ _ _ _ _ _ _ _ _ _ _ h ⟨hσ, hS, as, hH, hL, ?_, hr⟩)
  cases q3 : (Nat.beq (x % 8) 7 && (Nat.beq (y % 8) 7 && (Nat.ble 100 (x / 8) && (Nat.blt (x / 8) 108 && (Nat.ble 200 (y / 8) && Nat.blt (y / 8) 208))))) with
  | false => exact zr_anyl
  | true =>
    have q := zx_an q3
    have q1 := q.1
    have q := zx_an q.2
    have q2 := q.1
    have q := zx_an q.2
    have q3 := q.1
    have q := zx_an q.2
    have q4 := q.1
    have q := zx_an q.2
    have q5 := q.1
    have q6 := q.2
    have q1 := zx_beq.mp q1
    have q2 := zx_beq.mp q2
    have q3 := zx_ble.mp q3
    have q4 := zx_blt.mp q4
    have q5 := zx_ble.mp q5
    have q6 := zx_blt.mp q6
    obtain ⟨x1, e1, f1⟩ := (zr_7 q1).mp hx1
    obtain ⟨y1, e2, f2⟩ := (zr_7 q2).mp hy
    cases e1
    cases e2
    have f1 := f1 (by omega)
    have f2 := f2 (by omega)
    show zr σ b as (8 * (1000 + 8 * (x / 8 - 100) + (y / 8 - 200)) + 7) _
    refine (zr_7 (by omega)).mpr ⟨_, rfl, fun _ => ?_⟩
    rw [show (8 * (1000 + 8 * (x / 8 - 100) + (y / 8 - 200)) + 7) / 8 = 1000 + 8 * (x / 8 - 100) + (y / 8 - 200) by omega, f1, f2, zr_l_pair (by omega)]
    rw [show zr_l σ (x / 8) = zr_hi σ (x / 8 - 100) by rw [← zr_l_hi (by omega), show 100 + (x / 8 - 100) = x / 8 by omega]]
    rw [show zr_l σ (y / 8) = zr_lo σ (y / 8 - 200) by rw [← zr_l_lo (by omega), show 200 + (y / 8 - 200) = y / 8 by omega]]
theorem zo_dup (hx : p.tables.exec = Jvm.exec) (hb : c.code = cc) (hdg : decode cc pc = .ok (.dup, 1)) (hn : nxt = pc + 1) (h : zh_dup a a2 nxt d lv stk hp st u w k = true) (r : zr_R G σ b A nL s H locs ls vs lv stk hp st) (kk : zr_KK p l e R s m args below meth c Q G σ b A nL k) : W p l e R s m args below meth c H locs u w Q (F0 m pc ls vs) := by
  obtain ⟨hσ, hS, as, hH, hL, hV⟩ := r
  rcases stk with _ | ⟨x, rr⟩
  · exact absurd h Bool.false_ne_true
  rcases vs with _ | ⟨vx, vr⟩
  · exact hV.elim
  obtain ⟨h1, h⟩ := zx_c0 (show cond (zx_2 x) false (k nxt lv (x :: x :: rr) hp st u w) = true from h)
  exact lv_dup hx hb hdg (zr_cat1 h1 hV.1) (hn ▸ kk _ _ _ _ _ _ _ _ _ _ _ h ⟨hσ, hS, as, hH, hL, hV.1, hV⟩)
theorem zo_pop (hx : p.tables.exec = Jvm.exec) (hb : c.code = cc) (hdg : decode cc pc = .ok (.pop, 1)) (hn : nxt = pc + 1) (h : zh_pop a a2 nxt d lv stk hp st u w k = true) (r : zr_R G σ b A nL s H locs ls vs lv stk hp st) (kk : zr_KK p l e R s m args below meth c Q G σ b A nL k) : W p l e R s m args below meth c H locs u w Q (F0 m pc ls vs) := by
  obtain ⟨hσ, hS, as, hH, hL, hV⟩ := r
  rcases stk with _ | ⟨x, rr⟩
  · exact absurd h Bool.false_ne_true
  rcases vs with _ | ⟨vx, vr⟩
  · exact hV.elim
  obtain ⟨h1, h⟩ := zx_c0 (show cond (zx_2 x) false (k nxt lv rr hp st u w) = true from h)
  exact lv_pop hx hb hdg (zr_cat1 h1 hV.1) (hn ▸ kk _ _ _ _ _ _ _ _ _ _ _ h ⟨hσ, hS, as, hH, hL, hV.2⟩)
theorem zo_dupx1 (hx : p.tables.exec = Jvm.exec) (hb : c.code = cc) (hdg : decode cc pc = .ok (.dup_x1, 1)) (hn : nxt = pc + 1) (h : zh_dupx1 a a2 nxt d lv stk hp st u w k = true) (r : zr_R G σ b A nL s H locs ls vs lv stk hp st) (kk : zr_KK p l e R s m args below meth c Q G σ b A nL k) : W p l e R s m args below meth c H locs u w Q (F0 m pc ls vs) := by
  obtain ⟨hσ, hS, as, hH, hL, hV⟩ := r
  rcases stk with _ | ⟨y, _ | ⟨x, rr⟩⟩
  · exact absurd h Bool.false_ne_true
  · exact absurd h Bool.false_ne_true
  rcases vs with _ | ⟨vy, _ | ⟨vx, vr⟩⟩
  · exact hV.elim
  · exact hV.2.elim
  obtain ⟨hy, hx1, hr⟩ := hV
  obtain ⟨h1, h⟩ := zx_c0 (show cond (zx_2 y || zx_2 x) false (k nxt lv (y :: x :: y :: rr) hp st u w) = true from h)
  have h1 := Bool.or_eq_false_iff.mp h1
  exact lv_dup_x1 hx hb hdg (zr_cat1 h1.1 hy) (zr_cat1 h1.2 hx1) (hn ▸ kk _ _ _ _ _ _ _ _ _ _ _ h ⟨hσ, hS, as, hH, hL, hy, hx1, hy, hr⟩)
theorem zo_goto {off : Int} (hx : p.tables.exec = Jvm.exec) (hb : c.code = cc) (hdg : decode cc pc = .ok (.goto off, 3)) (ht : (pc : Int) + off = (a : Int)) (h : zh_goto a a2 nxt d lv stk hp st u w k = true) (r : zr_R G σ b A nL s H locs ls vs lv stk hp st) (kk : zr_KK p l e R s m args below meth c Q G σ b A nL k) : W p l e R s m args below meth c H locs u w Q (F0 m pc ls vs) :=
  lv_goto hx hb hdg ht (kk _ _ _ _ _ _ _ _ _ _ _ h r)
end ZO2
end
section
theorem zt_1 {p q : Nat} : zx_T 1 (zx_ord p q) = true ↔ p < q := by
  rcases Nat.lt_trichotomy p q with h | h | h
  · rw [zx_ord_0.mpr h]; exact ⟨fun _ => h, fun _ => by decide⟩
  · rw [zx_ord_1.mpr h]; exact ⟨fun g => absurd g (by decide), fun g => absurd g (by omega)⟩
  · rw [zx_ord_2.mpr h]; exact ⟨fun g => absurd g (by decide), fun g => absurd g (by omega)⟩
theorem zt_2 {p q : Nat} : zx_T 2 (zx_ord p q) = true ↔ p = q := by
  rcases Nat.lt_trichotomy p q with h | h | h
  · rw [zx_ord_0.mpr h]; exact ⟨fun g => absurd g (by decide), fun g => absurd g (by omega)⟩
  · rw [zx_ord_1.mpr h]; exact ⟨fun _ => h, fun _ => by decide⟩
  · rw [zx_ord_2.mpr h]; exact ⟨fun g => absurd g (by decide), fun g => absurd g (by omega)⟩
theorem zt_3 {p q : Nat} : zx_T 3 (zx_ord p q) = true ↔ p ≤ q := by
  rcases Nat.lt_trichotomy p q with h | h | h
  · rw [zx_ord_0.mpr h]; exact ⟨fun _ => by omega, fun _ => by decide⟩
  · rw [zx_ord_1.mpr h]; exact ⟨fun _ => by omega, fun _ => by decide⟩
  · rw [zx_ord_2.mpr h]; exact ⟨fun g => absurd g (by decide), fun g => absurd g (by omega)⟩
theorem zt_4 {p q : Nat} : zx_T 4 (zx_ord p q) = true ↔ q < p := by
  rcases Nat.lt_trichotomy p q with h | h | h
  · rw [zx_ord_0.mpr h]; exact ⟨fun g => absurd g (by decide), fun g => absurd g (by omega)⟩
  · rw [zx_ord_1.mpr h]; exact ⟨fun g => absurd g (by decide), fun g => absurd g (by omega)⟩
  · rw [zx_ord_2.mpr h]; exact ⟨fun _ => h, fun _ => by decide⟩
theorem zt_5 {p q : Nat} : zx_T 5 (zx_ord p q) = true ↔ ¬ p = q := by
  rcases Nat.lt_trichotomy p q with h | h | h
  · rw [zx_ord_0.mpr h]; exact ⟨fun _ => by omega, fun _ => by decide⟩
  · rw [zx_ord_1.mpr h]; exact ⟨fun g => absurd g (by decide), fun g => absurd h g⟩
  · rw [zx_ord_2.mpr h]; exact ⟨fun _ => by omega, fun _ => by decide⟩
theorem zt_6 {p q : Nat} : zx_T 6 (zx_ord p q) = true ↔ q ≤ p := by
  rcases Nat.lt_trichotomy p q with h | h | h
  · rw [zx_ord_0.mpr h]; exact ⟨fun g => absurd g (by decide), fun g => absurd g (by omega)⟩
  · rw [zx_ord_1.mpr h]; exact ⟨fun _ => by omega, fun _ => by decide⟩
  · rw [zx_ord_2.mpr h]; exact ⟨fun _ => by omega, fun _ => by decide⟩
theorem zx_cT {c a b : Bool} {P : Prop} (hc : c = true ↔ P) (h : cond c a b = true) : (P → a = true) ∧ (¬ P → b = true) := by
  cases c with
  | true => exact ⟨fun _ => h, fun g => absurd (hc.mp rfl) g⟩
  | false => exact ⟨fun g => absurd (hc.mpr g) Bool.false_ne_true, fun _ => h⟩
def zx_cd (b : Nat) : ClassFile.Cond := if b = 2 then .eq else if b = 5 then .ne else if b = 1 then .lt else if b = 6 then .ge else if b = 4 then .gt else .le
theorem zn_cmp {x y : Int64} {p q : Nat} (h : x.toInt < y.toInt ↔ p < q) (h2 : x.toInt = y.toInt ↔ p = q) : lg_cmp x y = nI (cond (Nat.beq (zx_ord p q) 0) 4294967295 (zx_ord p q - 1)) := by
  rcases Nat.lt_trichotomy p q with g | g | g
  · rw [zx_ord_0.mpr g]
    have h3 := h.mpr g
    have a1 : ¬ y < x := by rw [Int64.lt_iff_toInt_lt]; omega
    have a2 : ¬ x = y := fun q => by rw [q] at h3; omega
    simp [lg_cmp, a1, a2]
    decide
  · rw [zx_ord_1.mpr g]
    have h3 : x = y := Int64.toInt_inj.mp (h2.mpr g)
    subst h3
    simp [lg_cmp]
    decide
  · rw [zx_ord_2.mpr g]
    have h3 : y.toInt < x.toInt := by
      rcases Int.lt_trichotomy x.toInt y.toInt with c | c | c
      · exact absurd (h.mp c) (by omega)
      · exact absurd (h2.mp c) (by omega)
      · exact c
    have a1 : y < x := by rw [Int64.lt_iff_toInt_lt]; exact h3
    simp [lg_cmp, a1]
    decide
section ZB
variable {p : Program} {l : Launch} {e : Env} {R : Room} {s : State} {m : MethodId} {args : Array Value} {below : List Frame} {meth : Method} {c : Code} {Q : State → Prop} {cc : ByteArray} {nL : Nat} {G : va_G} {σ : Nat → Int32} {b : zxBB} {A : Nat → Prop} {pc a a2 nxt : Nat} {d : List Nat} {lv : zxLV} {stk : List Nat} {hp : zxHP} {st : zxST} {u w : Nat} {k : zxKT} {H : Heap} {locs : List Loc} {ls : Array Slot} {vs : List Value}
theorem zo_icmp {off : Int} (hx : p.tables.exec = Jvm.exec) (hb : c.code = cc) (hdg : decode cc pc = .ok (.if_icmp (zx_cd a2) off, 3)) (ha2 : 1 ≤ a2 ∧ a2 ≤ 6) (ht : (pc : Int) + off = (a : Int)) (hn : nxt = pc + 3) (h : zh_icmp a a2 nxt d lv stk hp st u w k = true) (r : zr_R G σ b A nL s H locs ls vs lv stk hp st) (kk : zr_KK p l e R s m args below meth c Q G σ b A nL k) : W p l e R s m args below meth c H locs u w Q (F0 m pc ls vs) := by
  obtain ⟨hσ, hS, as, hH, hL, hV⟩ := r
  rcases stk with _ | ⟨y, _ | ⟨x, rr⟩⟩
  · exact absurd h Bool.false_ne_true
  · exact absurd h Bool.false_ne_true
  rcases vs with _ | ⟨vy, _ | ⟨vx, vr⟩⟩
  · exact hV.elim
  · exact hV.2.elim
  obtain ⟨hy, hx1, hr⟩ := hV
  have h : (zx_i x && zx_i y) = true ∧ zx_K x y st (fun o s => cond (zx_T a2 o) (k a lv rr hp s u w) (k nxt lv rr hp s u w)) = true := zx_c1 h
  obtain ⟨h1, h⟩ := h
  obtain ⟨h1, h2⟩ := zx_an h1
  obtain ⟨xv, rfl⟩ := zr_int h1 hx1
  obtain ⟨yv, rfl⟩ := zr_int h2 hy
  obtain ⟨s2, h, hσ2⟩ := zx_K_ok h hσ hx1 hy
  have kt : k a lv rr hp s2 u w = true → W p l e R s m args below meth c H locs u w Q (F0 m a ls vr) := fun q => kk _ _ _ _ _ _ _ _ _ _ _ q ⟨hσ2, hS, as, hH, hL, hr⟩
  have kf : k nxt lv rr hp s2 u w = true → W p l e R s m args below meth c H locs u w Q (F0 m (pc + 3) ls vr) := fun q => hn ▸ kk _ _ _ _ _ _ _ _ _ _ _ q ⟨hσ2, hS, as, hH, hL, hr⟩
  rcases (show a2 = 1 ∨ a2 = 2 ∨ a2 = 3 ∨ a2 = 4 ∨ a2 = 5 ∨ a2 = 6 by omega) with q | q | q | q | q | q
  · rw [q] at hdg h
    obtain ⟨g1, g2⟩ := zx_cT (zt_1.trans zr_lt.symm) h
    exact lv_icmp_lt hx hb hdg ht (fun hc => kt (g1 hc)) (fun hc => kf (g2 hc))
  · rw [q] at hdg h
    obtain ⟨g1, g2⟩ := zx_cT (zt_2.trans zr_eq.symm) h
    exact lv_icmp_eq hx hb hdg ht (fun hc => kt (g1 hc)) (fun hc => kf (g2 hc))
  · rw [q] at hdg h
    obtain ⟨g1, g2⟩ := zx_cT (zt_3.trans zr_le.symm) h
    exact lv_icmp_le hx hb hdg ht (fun hc => kt (g1 hc)) (fun hc => kf (g2 hc))
  · rw [q] at hdg h
    obtain ⟨g1, g2⟩ := zx_cT (zt_4.trans zr_lt.symm) h
    exact lv_icmp_gt hx hb hdg ht (fun hc => kt (g1 hc)) (fun hc => kf (g2 hc))
  · rw [q] at hdg h
    obtain ⟨g1, g2⟩ := zx_cT (zt_5.trans (not_congr zr_eq.symm)) h
    exact lv_icmp_ne hx hb hdg ht (fun hc => kt (g1 hc)) (fun hc => kf (g2 (fun q => q hc)))
  · rw [q] at hdg h
    obtain ⟨g1, g2⟩ := zx_cT (zt_6.trans zr_le.symm) h
    exact lv_icmp_ge hx hb hdg ht (fun hc => kt (g1 hc)) (fun hc => kf (g2 hc))
theorem zo_if {off : Int} (hx : p.tables.exec = Jvm.exec) (hb : c.code = cc) (hdg : decode cc pc = .ok (.ifCond (zx_cd a2) off, 3)) (ha2 : 1 ≤ a2 ∧ a2 ≤ 6) (ht : (pc : Int) + off = (a : Int)) (hn : nxt = pc + 3) (h : zh_if a a2 nxt d lv stk hp st u w k = true) (r : zr_R G σ b A nL s H locs ls vs lv stk hp st) (kk : zr_KK p l e R s m args below meth c Q G σ b A nL k) : W p l e R s m args below meth c H locs u w Q (F0 m pc ls vs) := by
  obtain ⟨hσ, hS, as, hH, hL, hV⟩ := r
  rcases stk with _ | ⟨x, rr⟩
  · exact absurd h Bool.false_ne_true
  rcases vs with _ | ⟨vx, vr⟩
  · exact hV.elim
  obtain ⟨hx1, hr⟩ := hV
  have h : zx_i x = true ∧ zx_K x 0 st (fun o s => cond (zx_T a2 o) (k a lv rr hp s u w) (k nxt lv rr hp s u w)) = true := zx_c1 h
  obtain ⟨h1, h⟩ := h
  obtain ⟨xv, rfl⟩ := zr_int h1 hx1
  have hy : zr σ b as 0 (.int (0 : Int32)) := (zr_0 rfl).mpr (by rw [← nI_0])
  obtain ⟨s2, h, hσ2⟩ := zx_K_ok h hσ hx1 hy
  have kt : k a lv rr hp s2 u w = true → W p l e R s m args below meth c H locs u w Q (F0 m a ls vr) := fun q => kk _ _ _ _ _ _ _ _ _ _ _ q ⟨hσ2, hS, as, hH, hL, hr⟩
  have kf : k nxt lv rr hp s2 u w = true → W p l e R s m args below meth c H locs u w Q (F0 m (pc + 3) ls vr) := fun q => hn ▸ kk _ _ _ _ _ _ _ _ _ _ _ q ⟨hσ2, hS, as, hH, hL, hr⟩
  rcases (show a2 = 1 ∨ a2 = 2 ∨ a2 = 3 ∨ a2 = 4 ∨ a2 = 5 ∨ a2 = 6 by omega) with q | q | q | q | q | q
  · rw [q] at hdg h
    obtain ⟨g1, g2⟩ := zx_cT (zt_1.trans zr_lt.symm) h
    exact lv_if_lt hx hb hdg ht (fun hc => kt (g1 hc)) (fun hc => kf (g2 hc))
  · rw [q] at hdg h
    obtain ⟨g1, g2⟩ := zx_cT (zt_2.trans zr_eq.symm) h
    exact lv_if_eq hx hb hdg ht (fun hc => kt (g1 hc)) (fun hc => kf (g2 hc))
  · rw [q] at hdg h
    obtain ⟨g1, g2⟩ := zx_cT (zt_3.trans zr_le.symm) h
    exact lv_if_le hx hb hdg ht (fun hc => kt (g1 hc)) (fun hc => kf (g2 hc))
  · rw [q] at hdg h
    obtain ⟨g1, g2⟩ := zx_cT (zt_4.trans zr_lt.symm) h
    exact lv_if_gt hx hb hdg ht (fun hc => kt (g1 hc)) (fun hc => kf (g2 hc))
  · rw [q] at hdg h
    obtain ⟨g1, g2⟩ := zx_cT (zt_5.trans (not_congr zr_eq.symm)) h
    exact lv_if_ne hx hb hdg ht (fun hc => kt (g1 hc)) (fun hc => kf (g2 (fun q => q hc)))
  · rw [q] at hdg h
    obtain ⟨g1, g2⟩ := zx_cT (zt_6.trans zr_le.symm) h
    exact lv_if_ge hx hb hdg ht (fun hc => kt (g1 hc)) (fun hc => kf (g2 hc))
theorem zn_w (p : Nat) : (zx_w p : Int) = (lN p).toInt + 9223372036854775808 := by
  rw [zn_lN_toInt]
  unfold zx_w
  rw [Int.bmod_def]
  omega
theorem zx_sm_ok {p : Nat} (h : zx_sm p = true) : (lN p).toInt = ((zx_lb p : Nat) : Int) - 2147483648 := by
  have hw := zn_w p
  unfold zx_w at hw
  unfold zx_lb
  rcases Bool.or_eq_true_iff.mp h with g | g
  · have g := zx_blt.mp g
    omega
  · have g1 := zx_ble.mp (zx_an g).1
    have g2 := zx_blt.mp (zx_an g).2
    omega
set_option maxRecDepth 20000 in
theorem zo_lcmp (hx : p.tables.exec = Jvm.exec) (hb : c.code = cc) (hdg : decode cc pc = .ok (.lcmp, 1)) (hn : nxt = pc + 1) (h : zh_lcmp a a2 nxt d lv stk hp st u w k = true) (r : zr_R G σ b A nL s H locs ls vs lv stk hp st) (kk : zr_KK p l e R s m args below meth c Q G σ b A nL k) : W p l e R s m args below meth c H locs u w Q (F0 m pc ls vs) := by
  obtain ⟨hσ, hS, as, hH, hL, hV⟩ := r
  rcases stk with _ | ⟨y, _ | ⟨x, rr⟩⟩
  · exact absurd h Bool.false_ne_true
  · exact absurd h Bool.false_ne_true
  rcases vs with _ | ⟨vy, _ | ⟨vx, vr⟩⟩
  · exact hV.elim
  · exact hV.2.elim
  obtain ⟨hy, hx1, hr⟩ := hV
  rcases zx_ct h with ⟨h1, h2⟩ | ⟨-, h2⟩
  · have e1 := (zr_1 (zx_beq.mp h1)).mp hx1
    rcases zx_ct h2 with ⟨h3, h4⟩ | ⟨-, h4⟩
    · have e2 := (zr_1 (zx_beq.mp h3)).mp hy
      subst e1
      subst e2
      rw [zx_F_eq] at h4
      refine W.lcmp hx hb hdg (hn ▸ kk _ _ _ _ _ _ _ _ _ _ _ h4 ⟨hσ, hS, as, hH, hL, ?_, hr⟩)
      have w1 := zn_w (x / 8)
      have w2 := zn_w (y / 8)
      rw [zn_cmp (p := zx_w (x / 8)) (q := zx_w (y / 8)) (by omega) (by omega)]
      generalize zx_w (x / 8) = P
      generalize zx_w (y / 8) = Q2
      have hz : (cond (Nat.blt P Q2) 4294967295 (cond (Nat.beq P Q2) 0 1)) = cond (Nat.beq (zx_ord P Q2) 0) 4294967295 (zx_ord P Q2 - 1) := by
        unfold zx_ord
        cases Nat.blt P Q2 <;> cases Nat.beq P Q2 <;> rfl
      rw [hz]
      refine (zr_0 (by omega)).mpr ?_
      rw [Nat.mul_div_cancel_left _ (by decide)]
    · obtain ⟨h3, h4⟩ := zx_c1 h4
      have g1 := zx_an h3
      have g2 := zx_an g1.2
      have h5 := zx_blt.mp g2.1
      have h8 := zx_blt.mp g2.2
      have e2 := (zr_5 (zx_beq.mp g1.1)).mp hy
      subst e1
      subst e2
      rw [zx_F_eq, zx_F_eq] at h4
      obtain ⟨s2, h7, hσ2⟩ := zx_X_ok h4 hσ
      rw [zx_F_eq, zx_ord_sw] at h7
      refine W.lcmp hx hb hdg (hn ▸ kk _ _ _ _ _ _ _ _ _ _ _ h7 ⟨hσ2, hS, as, hH, hL, ?_, hr⟩)
      have w1 := zr_b_toInt (zr_d σ (y / 8))
      have w2 : (lN (x / 8)).toInt = ((x / 8 : Nat) : Int) := lN_toInt h8
      have w3 := Int32.toInt_toInt64 (zr_d σ (y / 8))
      rw [zr_n_s h5]
      rw [zn_cmp (p := x / 8 + 2147483648) (q := zr_b (zr_d σ (y / 8))) (by rw [w2, w3]; omega) (by rw [w2, w3]; omega)]
      refine (zr_0 (by omega)).mpr ?_
      rw [Nat.mul_div_cancel_left _ (by decide)]
  · obtain ⟨h3, h4⟩ := zx_c1 h2
    obtain ⟨h3, h5⟩ := zx_an h3
    have h5 := zx_blt.mp h5
    have e1 := (zr_5 (zx_beq.mp h3)).mp hx1
    subst e1
    rcases zx_ct h4 with ⟨h6, h7⟩ | ⟨-, h7⟩
    · obtain ⟨h6, h8⟩ := zx_an h6
      have h8 := zx_sm_ok h8
      have e2 := (zr_1 (zx_beq.mp h6)).mp hy
      subst e2
      rw [zx_F_eq, zx_F_eq] at h7
      obtain ⟨s2, h7, hσ2⟩ := zx_X_ok h7 hσ
      rw [zx_F_eq] at h7
      refine W.lcmp hx hb hdg (hn ▸ kk _ _ _ _ _ _ _ _ _ _ _ h7 ⟨hσ2, hS, as, hH, hL, ?_, hr⟩)
      have w1 := zr_b_toInt (zr_d σ (x / 8))
      have w2 : (lN (y / 8)).toInt = ((zx_lb (y / 8) : Nat) : Int) - 2147483648 := h8
      have w3 := Int32.toInt_toInt64 (zr_d σ (x / 8))
      rw [zr_n_s h5]
      rw [zn_cmp (p := zr_b (zr_d σ (x / 8))) (q := zx_lb (y / 8)) (by rw [w2, w3]; omega) (by rw [w2, w3]; omega)]
      refine (zr_0 (by omega)).mpr ?_
      rw [Nat.mul_div_cancel_left _ (by decide)]
    · obtain ⟨h6, h7⟩ := zx_c1 h7
      have e2 := (zr_5 (zx_beq.mp h6)).mp hy
      subst e2
      rw [zx_F_eq, zx_F_eq] at h7
      obtain ⟨s2, h7, hσ2⟩ := zx_Y_ok h7 hσ
      rw [zx_F_eq] at h7
      refine W.lcmp hx hb hdg (hn ▸ kk _ _ _ _ _ _ _ _ _ _ _ h7 ⟨hσ2, hS, as, hH, hL, ?_, hr⟩)
      have w1 := zr_b_toInt (zr_d σ (x / 8))
      have w2 := zr_b_toInt (zr_d σ (y / 8))
      have w3 := Int32.toInt_toInt64 (zr_d σ (x / 8))
      have w4 := Int32.toInt_toInt64 (zr_d σ (y / 8))
      rw [zn_cmp (p := zr_b (zr_d σ (x / 8))) (q := zr_b (zr_d σ (y / 8))) (by rw [w3, w4]; omega) (by rw [w3, w4]; omega)]
      refine (zr_0 (by omega)).mpr ?_
      rw [Nat.mul_div_cancel_left _ (by decide)]
theorem zx_W_ok {dflt id : Nat} {kk : Nat → zxST → Bool} : ∀ {d : List Nat} {b : Nat} {st : zxST}, zx_W d dflt id kk b st = true → zr_in σ st → ∃ st', kk (if zr_n σ id < b then dflt else zx_N dflt d (zr_n σ id - b)) st' = true ∧ zr_in σ st'
  | [], b, st, h, hσ => by
    refine ⟨st, ?_, hσ⟩
    rw [show (if zr_n σ id < b then dflt else zx_N dflt [] (zr_n σ id - b)) = dflt by split <;> rfl]
    exact h
  | t :: ts, b, st, h, hσ => by
    obtain ⟨s2, h, hσ2⟩ := zx_X_ok (show zx_X st id b (fun o s2 => cond (Nat.beq o 0) (kk dflt s2) (cond (Nat.beq o 1) (kk t s2) (zx_F (Nat.succ b) (fun b2 => zx_W ts dflt id kk b2 s2)))) = true from h) hσ
    rcases Nat.lt_trichotomy (zr_n σ id) b with g | g | g
    · rw [zx_ord_0.mpr g] at h
      rw [if_pos g]
      exact ⟨s2, h, hσ2⟩
    · rw [zx_ord_1.mpr g] at h
      rw [if_neg (by omega), show zr_n σ id - b = 0 by omega]
      exact ⟨s2, h, hσ2⟩
    · rw [zx_ord_2.mpr g] at h
      have h : zx_F (Nat.succ b) (fun b2 => zx_W ts dflt id kk b2 s2) = true := h
      rw [zx_F_eq] at h
      obtain ⟨s3, h, hσ3⟩ := zx_W_ok h hσ2
      rw [if_neg (by omega)] at h
      rw [if_neg (by omega), show zr_n σ id - b = (zr_n σ id - Nat.succ b) + 1 by omega]
      exact ⟨s3, h, hσ3⟩
theorem zo_switchW {x : Int32} {len t : Nat} (hx : p.tables.exec = Jvm.exec) (hb : c.code = cc) (hdg : decode cc pc = .ok (.tableswitch ((a : Int) - pc) ((a2 : Int) - 2147483648) ((a2 : Int) - 2147483648 + d.length - 1) (d.map (fun t : Nat => (t : Int) - (pc : Int))).toArray, len))
    (ht : t = if zr_b x < a2 then a else zx_N a d (zr_b x - a2)) (kW : W p l e R s m args below meth c H locs u w Q (F0 m t ls vs)) : W p l e R s m args below meth c H locs u w Q (F0 m pc ls (.int x :: vs)) := by
  have hz := zr_b_toInt x
  by_cases h1 : zr_b x < a2
  · rw [if_pos h1] at ht
    subst ht
    exact lv_tableOut hx hb hdg (Or.inl (by omega)) (by omega) kW
  · rw [if_neg h1, zx_N_eq] at ht
    by_cases h2 : zr_b x - a2 < d.length
    · rw [List.getElem?_eq_getElem h2] at ht
      refine lv_tableIn hx hb hdg (by omega) (by omega) (off := (d[zr_b x - a2] : Int) - pc) ?_ (by rw [ht]; simp only [Option.getD_some]; omega) kW
      rw [show (x.toInt - ((a2 : Int) - 2147483648)).toNat = zr_b x - a2 by omega]
      simp [h2]
    · rw [List.getElem?_eq_none (by omega)] at ht
      have ht : t = a := ht
      subst ht
      exact lv_tableOut hx hb hdg (Or.inr (by omega)) (by omega) kW
theorem zo_switch {len : Nat} (hx : p.tables.exec = Jvm.exec) (hb : c.code = cc) (hdg : decode cc pc = .ok (.tableswitch ((a : Int) - pc) ((a2 : Int) - 2147483648) ((a2 : Int) - 2147483648 + d.length - 1) (d.map (fun t : Nat => (t : Int) - (pc : Int))).toArray, len)) (h : zh_switch a a2 nxt d lv stk hp st u w k = true) (r : zr_R G σ b A nL s H locs ls vs lv stk hp st) (kk : zr_KK p l e R s m args below meth c Q G σ b A nL k) : W p l e R s m args below meth c H locs u w Q (F0 m pc ls vs) := by
  obtain ⟨hσ, hS, as, hH, hL, hV⟩ := r
  rcases stk with _ | ⟨x, rr⟩
  · exact absurd h Bool.false_ne_true
  rcases vs with _ | ⟨vx, vr⟩
  · exact hV.elim
  obtain ⟨hx1, hr⟩ := hV
  obtain ⟨x', e1, -, -, m1⟩ := zx_M_ok x st (fun c => cond (Nat.beq (c % 8) 0) (zx_F (cond (Nat.blt (zx_u (c / 8)) a2) a (zx_N a d (zx_u (c / 8) - a2))) (fun t => k t lv rr hp st u w)) (cond (Nat.beq (c % 8) 4 && Nat.blt (c / 8) 300) (zx_F (c / 8) (fun id => zx_W d a id (fun t s => k t lv rr hp s u w) a2 st)) false))
  have h := e1.symm.trans (show zx_M x st (fun c => cond (Nat.beq (c % 8) 0) (zx_F (cond (Nat.blt (zx_u (c / 8)) a2) a (zx_N a d (zx_u (c / 8) - a2))) (fun t => k t lv rr hp st u w)) (cond (Nat.beq (c % 8) 4 && Nat.blt (c / 8) 300) (zx_F (c / 8) (fun id => zx_W d a id (fun t s => k t lv rr hp s u w) a2 st)) false)) = true from h)
  have hx1 := m1 σ b as _ hσ hx1
  rcases zx_ct h with ⟨h1, h⟩ | ⟨-, h⟩
  · have e2 := (zr_0 (zx_beq.mp h1)).mp hx1
    subst e2
    rw [zx_F_eq] at h
    refine zo_switchW hx hb hdg ?_ (kk _ _ _ _ _ _ _ _ _ _ _ h ⟨hσ, hS, as, hH, hL, hr⟩)
    rw [zr_b_nI]
    by_cases g : zx_u (x' / 8) < a2
    · rw [zx_blt.mpr g, if_pos g]; rfl
    · rw [zx_nblt.mpr g, if_neg g]; rfl
  · obtain ⟨h1, h⟩ := zx_c1 h
    obtain ⟨h1, h2⟩ := zx_an h1
    have h2 := zx_blt.mp h2
    have e2 := (zr_4 (zx_beq.mp h1)).mp hx1
    subst e2
    rw [zx_F_eq] at h
    obtain ⟨s2, h, hσ2⟩ := zx_W_ok h hσ
    rw [zr_n_s h2] at h
    exact zo_switchW hx hb hdg rfl (kk _ _ _ _ _ _ _ _ _ _ _ h ⟨hσ2, hS, as, hH, hL, hr⟩)
end ZB
end
