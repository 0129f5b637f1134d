/-! the rows of the tables, checked -/
set_option maxRecDepth 20000 in
theorem zm_50 : zc_meth (⟨"StubHouseModel", "fill", "(II)I"⟩, prog_14_method_31_code, 4, (some .int)) (2948, 14, 2946, 2947) = true := by decide +kernel
set_option maxRecDepth 20000 in
theorem za_50 : zc_all zk_ms2 zk_mh zk_Cs zk_nms ⟨"StubHouseModel", "fill", "(II)I"⟩ prog_14_method_31_code 4 (some .int) ztb_50 = true := by decide +kernel
set_option maxRecDepth 20000 in
theorem zm_51 : zc_meth (⟨"StubHouse$Tree", "isDirectory", "(I)Z"⟩, prog_11_method_5_code, 2, (some .boolean)) (913, 2, 911, 912) = true := by decide +kernel
set_option maxRecDepth 20000 in
theorem za_51 : zc_all zk_ms2 zk_mh zk_Cs zk_nms ⟨"StubHouse$Tree", "isDirectory", "(I)Z"⟩ prog_11_method_5_code 2 (some .boolean) ztb_51 = true := by decide +kernel
set_option maxRecDepth 20000 in
theorem zm_52 : zc_meth (⟨"StubHouse$Tree", "seek", "(IJ)I"⟩, prog_11_method_8_code, 6, (some .int)) (925, 2, 923, 924) = true := by decide +kernel
set_option maxRecDepth 20000 in
theorem za_52 : zc_all zk_ms2 zk_mh zk_Cs zk_nms ⟨"StubHouse$Tree", "seek", "(IJ)I"⟩ prog_11_method_8_code 6 (some .int) ztb_52 = true := by decide +kernel
set_option maxRecDepth 20000 in
theorem zm_53 : zc_meth (⟨"StubHouse$Tree", "depthOf", "(I)I"⟩, prog_11_method_10_code, 4, (some .int)) (933, 2, 931, 932) = true := by decide +kernel
set_option maxRecDepth 20000 in
theorem za_53 : zc_all zk_ms2 zk_mh zk_Cs zk_nms ⟨"StubHouse$Tree", "depthOf", "(I)I"⟩ prog_11_method_10_code 4 (some .int) ztb_53 = true := by decide +kernel
set_option maxRecDepth 20000 in
theorem zm_54 : zc_meth (⟨"StubHouse$Library", "lookOver", "()V"⟩, prog_4_method_14_code, 3, none) (1649, 8, 1647, 1648) = true := by decide +kernel
set_option maxRecDepth 20000 in
theorem za_54 : zc_all zk_ms2 zk_mh zk_Cs zk_nms ⟨"StubHouse$Library", "lookOver", "()V"⟩ prog_4_method_14_code 3 none ztb_54 = true := by decide +kernel
set_option maxRecDepth 20000 in
theorem zm_55 : zc_meth (⟨"StubHouse$Library", "dropDeletes", "()V"⟩, prog_4_method_19_code, 3, none) (1666, 8, 1665, 4007) = true := by decide +kernel
set_option maxRecDepth 20000 in
theorem za_55 : zc_all zk_ms2 zk_mh zk_Cs zk_nms ⟨"StubHouse$Library", "dropDeletes", "()V"⟩ prog_4_method_19_code 3 none ztb_55 = true := by decide +kernel
set_option maxRecDepth 20000 in
theorem zm_56 : zc_meth (⟨"StubHouse$Library", "dropClashes", "()V"⟩, prog_4_method_21_code, 4, none) (1679, 8, 1678, 4010) = true := by decide +kernel
set_option maxRecDepth 20000 in
theorem za_56 : zc_all zk_ms2 zk_mh zk_Cs zk_nms ⟨"StubHouse$Library", "dropClashes", "()V"⟩ prog_4_method_21_code 4 none ztb_56 = true := by decide +kernel
set_option maxRecDepth 20000 in
theorem zm_57 : zc_meth (⟨"StubHouse$Library", "sortByStamps", "()V"⟩, prog_4_method_22_code, 4, none) (1683, 8, 1682, 4011) = true := by decide +kernel
set_option maxRecDepth 20000 in
theorem za_57 : zc_all zk_ms2 zk_mh zk_Cs zk_nms ⟨"StubHouse$Library", "sortByStamps", "()V"⟩ prog_4_method_22_code 4 none ztb_57 = true := by decide +kernel
set_option maxRecDepth 20000 in
theorem zm_58 : zc_meth (⟨"StubHouse$Library", "sortTaken", "(I)V"⟩, prog_4_method_23_code, 5, none) (1701, 8, 1700, 4014) = true := by decide +kernel
set_option maxRecDepth 20000 in
theorem za_58 : zc_all zk_ms2 zk_mh zk_Cs zk_nms ⟨"StubHouse$Library", "sortTaken", "(I)V"⟩ prog_4_method_23_code 5 none ztb_58 = true := by decide +kernel
set_option maxRecDepth 20000 in
theorem zm_59 : zc_meth (⟨"StubHouse", "step", "(I)I"⟩, prog_1_method_26_code, 3, (some .int)) (1744, 1, 1742, 1743) = true := by decide +kernel
set_option maxRecDepth 20000 in
theorem za_59 : zc_all zk_ms2 zk_mh zk_Cs zk_nms ⟨"StubHouse", "step", "(I)I"⟩ prog_1_method_26_code 3 (some .int) ztb_59 = true := by decide +kernel
set_option maxRecDepth 20000 in
theorem zm_60 : zc_meth (⟨"StubHouseModel", "look", "(IJ)I"⟩, prog_14_method_15_code, 5, (some .int)) (2822, 14, 2821, 5207) = true := by decide +kernel
set_option maxRecDepth 20000 in
theorem za_60 : zc_all zk_ms2 zk_mh zk_Cs zk_nms ⟨"StubHouseModel", "look", "(IJ)I"⟩ prog_14_method_15_code 5 (some .int) ztb_60 = true := by decide +kernel
set_option maxRecDepth 20000 in
theorem zm_61 : zc_meth (⟨"StubHouseModel", "depth", "(I)I"⟩, prog_14_method_14_code, 4, (some .int)) (2830, 14, 2829, 5209) = true := by decide +kernel
set_option maxRecDepth 20000 in
theorem za_61 : zc_all zk_ms2 zk_mh zk_Cs zk_nms ⟨"StubHouseModel", "depth", "(I)I"⟩ prog_14_method_14_code 4 (some .int) ztb_61 = true := by decide +kernel
set_option maxRecDepth 20000 in
theorem zm_62 : zc_meth (⟨"StubHouseModel", "copies", "(I)I"⟩, prog_14_method_46_code, 3, (some .int)) (3023, 14, 3021, 3022) = true := by decide +kernel
set_option maxRecDepth 20000 in
theorem za_62 : zc_all zk_ms2 zk_mh zk_Cs zk_nms ⟨"StubHouseModel", "copies", "(I)I"⟩ prog_14_method_46_code 3 (some .int) ztb_62 = true := by decide +kernel
set_option maxRecDepth 20000 in
theorem zm_63 : zc_meth (⟨"StubHouse", "make", "(IJZ)I"⟩, prog_1_method_2_code, 5, (some .int)) (909, 1, 907, 908) = true := by decide +kernel
set_option maxRecDepth 20000 in
theorem za_63 : zc_all zk_ms2 zk_mh zk_Cs zk_nms ⟨"StubHouse", "make", "(IJZ)I"⟩ prog_1_method_2_code 5 (some .int) ztb_63 = true := by decide +kernel
set_option maxRecDepth 20000 in
theorem zm_64 : zc_meth (⟨"StubHouse$Changes", "create", "(IJZ)I"⟩, prog_2_method_2_code, 6, (some .int)) (937, 7, 935, 936) = true := by decide +kernel
set_option maxRecDepth 20000 in
theorem za_64 : zc_all zk_ms2 zk_mh zk_Cs zk_nms ⟨"StubHouse$Changes", "create", "(IJZ)I"⟩ prog_2_method_2_code 6 (some .int) ztb_64 = true := by decide +kernel
set_option maxRecDepth 20000 in
theorem zm_65 : zc_meth (⟨"StubHouse$Log", "add", "(III)V"⟩, prog_5_method_3_code, 4, none) (942, 6, 940, 941) = true := by decide +kernel
set_option maxRecDepth 20000 in
theorem za_65 : zc_all zk_ms2 zk_mh zk_Cs zk_nms ⟨"StubHouse$Log", "add", "(III)V"⟩ prog_5_method_3_code 4 none ztb_65 = true := by decide +kernel
set_option maxRecDepth 20000 in
theorem zm_66 : zc_meth (⟨"StubHouse$Log", "keepAll", "()I"⟩, prog_5_method_4_code, 3, (some .int)) (946, 6, 944, 945) = true := by decide +kernel
set_option maxRecDepth 20000 in
theorem za_66 : zc_all zk_ms2 zk_mh zk_Cs zk_nms ⟨"StubHouse$Log", "keepAll", "()I"⟩ prog_5_method_4_code 3 (some .int) ztb_66 = true := by decide +kernel
set_option maxRecDepth 20000 in
theorem zm_67 : zc_meth (⟨"StubHouse$Stores", "freeHeld", "()V"⟩, prog_9_method_8_code, 2, none) (950, 5, 948, 949) = true := by decide +kernel
set_option maxRecDepth 20000 in
theorem za_67 : zc_all zk_ms2 zk_mh zk_Cs zk_nms ⟨"StubHouse$Stores", "freeHeld", "()V"⟩ prog_9_method_8_code 2 none ztb_67 = true := by decide +kernel
set_option maxRecDepth 20000 in
theorem zm_68 : zc_meth (⟨"StubHouse$Node", "become", "(LStubHouse$Node;)V"⟩, prog_7_method_3_code, 2, none) (954, 3, 952, 953) = true := by decide +kernel
set_option maxRecDepth 20000 in
theorem za_68 : zc_all zk_ms2 zk_mh zk_Cs zk_nms ⟨"StubHouse$Node", "become", "(LStubHouse$Node;)V"⟩ prog_7_method_3_code 2 none ztb_68 = true := by decide +kernel
set_option maxRecDepth 20000 in
theorem zm_69 : zc_meth (⟨"StubHouse$Tree", "settle", "(IIJI)V"⟩, prog_11_method_16_code, 7, none) (973, 2, 971, 972) = true := by decide +kernel
set_option maxRecDepth 20000 in
theorem za_69 : zc_all zk_ms2 zk_mh zk_Cs zk_nms ⟨"StubHouse$Tree", "settle", "(IIJI)V"⟩ prog_11_method_16_code 7 none ztb_69 = true := by decide +kernel
set_option maxRecDepth 20000 in
theorem zm_70 : zc_meth (⟨"StubHouse$Stores", "freeAll", "()V"⟩, prog_9_method_9_code, 1, none) (1427, 5, 1425, 1426) = true := by decide +kernel
set_option maxRecDepth 20000 in
theorem za_70 : zc_all zk_ms2 zk_mh zk_Cs zk_nms ⟨"StubHouse$Stores", "freeAll", "()V"⟩ prog_9_method_9_code 1 none ztb_70 = true := by decide +kernel
set_option maxRecDepth 20000 in
theorem zm_71 : zc_meth (⟨"StubHouse", "stopAll", "()V"⟩, prog_1_method_23_code, 1, none) (1437, 1, 1436, 4003) = true := by decide +kernel
set_option maxRecDepth 20000 in
theorem za_71 : zc_all zk_ms2 zk_mh zk_Cs zk_nms ⟨"StubHouse", "stopAll", "()V"⟩ prog_1_method_23_code 1 none ztb_71 = true := by decide +kernel
set_option maxRecDepth 20000 in
theorem zm_72 : zc_meth (⟨"StubHouse$Reader", "stop", "()V"⟩, prog_8_method_2_code, 1, none) (1601, 11, 1439, 1600) = true := by decide +kernel
set_option maxRecDepth 20000 in
theorem za_72 : zc_all zk_ms2 zk_mh zk_Cs zk_nms ⟨"StubHouse$Reader", "stop", "()V"⟩ prog_8_method_2_code 1 none ztb_72 = true := by decide +kernel
set_option maxRecDepth 20000 in
theorem zm_73 : zc_meth (⟨"StubHouse$Writer", "stop", "()V"⟩, prog_12_method_2_code, 1, none) (1617, 12, 1615, 1616) = true := by decide +kernel
set_option maxRecDepth 20000 in
theorem za_73 : zc_all zk_ms2 zk_mh zk_Cs zk_nms ⟨"StubHouse$Writer", "stop", "()V"⟩ prog_12_method_2_code 1 none ztb_73 = true := by decide +kernel
set_option maxRecDepth 20000 in
theorem zm_74 : zc_meth (⟨"StubHouse$Migrator", "stop", "()V"⟩, prog_6_method_2_code, 1, none) (1624, 13, 1622, 1623) = true := by decide +kernel
set_option maxRecDepth 20000 in
theorem za_74 : zc_all zk_ms2 zk_mh zk_Cs zk_nms ⟨"StubHouse$Migrator", "stop", "()V"⟩ prog_6_method_2_code 1 none ztb_74 = true := by decide +kernel
set_option maxRecDepth 20000 in
theorem zm_75 : zc_meth (⟨"StubHouse$Tree", "count", "(I)I"⟩, prog_11_method_7_code, 4, (some .int)) (1632, 2, 1630, 1631) = true := by decide +kernel
set_option maxRecDepth 20000 in
theorem za_75 : zc_all zk_ms2 zk_mh zk_Cs zk_nms ⟨"StubHouse$Tree", "count", "(I)I"⟩ prog_11_method_7_code 4 (some .int) ztb_75 = true := by decide +kernel
set_option maxRecDepth 20000 in
theorem zm_76 : zc_meth (⟨"StubHouse$Reader", "choose", "(I)V"⟩, prog_8_method_4_code, 5, none) (1748, 11, 1746, 1747) = true := by decide +kernel
set_option maxRecDepth 20000 in
theorem za_76 : zc_all zk_ms2 zk_mh zk_Cs zk_nms ⟨"StubHouse$Reader", "choose", "(I)V"⟩ prog_8_method_4_code 5 none ztb_76 = true := by decide +kernel
set_option maxRecDepth 20000 in
theorem zm_77 : zc_meth (⟨"StubHouse$Reader", "firstRecall", "()I"⟩, prog_8_method_6_code, 3, (some .int)) (1752, 11, 1751, 4403) = true := by decide +kernel
set_option maxRecDepth 20000 in
theorem za_77 : zc_all zk_ms2 zk_mh zk_Cs zk_nms ⟨"StubHouse$Reader", "firstRecall", "()I"⟩ prog_8_method_6_code 3 (some .int) ztb_77 = true := by decide +kernel
set_option maxRecDepth 20000 in
theorem zm_78 : zc_meth (⟨"StubHouse$Reader", "changeTape", "(II)V"⟩, prog_8_method_12_code, 3, none) (2002, 11, 2001, 4412) = true := by decide +kernel
set_option maxRecDepth 20000 in
theorem za_78 : zc_all zk_ms2 zk_mh zk_Cs zk_nms ⟨"StubHouse$Reader", "changeTape", "(II)V"⟩ prog_8_method_12_code 3 none ztb_78 = true := by decide +kernel
set_option maxRecDepth 20000 in
theorem zm_79 : zc_meth (⟨"StubHouse$Writer", "choose", "()V"⟩, prog_12_method_7_code, 1, none) (2054, 12, 2052, 2053) = true := by decide +kernel
set_option maxRecDepth 20000 in
theorem za_79 : zc_all zk_ms2 zk_mh zk_Cs zk_nms ⟨"StubHouse$Writer", "choose", "()V"⟩ prog_12_method_7_code 1 none ztb_79 = true := by decide +kernel
set_option maxRecDepth 20000 in
theorem zm_80 : zc_meth (⟨"StubHouse$Writer", "dropFinished", "()V"⟩, prog_12_method_6_code, 5, none) (2058, 12, 2057, 4415) = true := by decide +kernel
set_option maxRecDepth 20000 in
theorem za_80 : zc_all zk_ms2 zk_mh zk_Cs zk_nms ⟨"StubHouse$Writer", "dropFinished", "()V"⟩ prog_12_method_6_code 5 none ztb_80 = true := by decide +kernel
set_option maxRecDepth 20000 in
theorem zm_81 : zc_meth (⟨"StubHouse$Writer", "goForDelete", "()Z"⟩, prog_12_method_8_code, 3, (some .boolean)) (2067, 12, 2066, 4800) = true := by decide +kernel
set_option maxRecDepth 20000 in
theorem za_81 : zc_all zk_ms2 zk_mh zk_Cs zk_nms ⟨"StubHouse$Writer", "goForDelete", "()Z"⟩ prog_12_method_8_code 3 (some .boolean) ztb_81 = true := by decide +kernel
set_option maxRecDepth 20000 in
theorem zm_82 : zc_meth (⟨"StubHouse$Log", "firstKeptDelete", "()I"⟩, prog_5_method_8_code, 2, (some .int)) (2071, 6, 2069, 2070) = true := by decide +kernel
set_option maxRecDepth 20000 in
theorem za_82 : zc_all zk_ms2 zk_mh zk_Cs zk_nms ⟨"StubHouse$Log", "firstKeptDelete", "()I"⟩ prog_5_method_8_code 2 (some .int) ztb_82 = true := by decide +kernel
set_option maxRecDepth 20000 in
theorem zm_83 : zc_meth (⟨"StubHouse$Writer", "goForParcel", "()Z"⟩, prog_12_method_9_code, 3, (some .boolean)) (2120, 12, 2119, 4808) = true := by decide +kernel
set_option maxRecDepth 20000 in
theorem za_83 : zc_all zk_ms2 zk_mh zk_Cs zk_nms ⟨"StubHouse$Writer", "goForParcel", "()Z"⟩ prog_12_method_9_code 3 (some .boolean) ztb_83 = true := by decide +kernel
set_option maxRecDepth 20000 in
theorem zm_84 : zc_meth (⟨"StubHouse$Writer", "goForFile", "()V"⟩, prog_12_method_10_code, 5, none) (2135, 12, 2134, 4810) = true := by decide +kernel
set_option maxRecDepth 20000 in
theorem za_84 : zc_all zk_ms2 zk_mh zk_Cs zk_nms ⟨"StubHouse$Writer", "goForFile", "()V"⟩ prog_12_method_10_code 5 none ztb_84 = true := by decide +kernel
set_option maxRecDepth 20000 in
theorem zm_85 : zc_meth (⟨"StubHouse$Migrator", "work", "()V"⟩, prog_6_method_3_code, 1, none) (2190, 13, 2188, 2189) = true := by decide +kernel
set_option maxRecDepth 20000 in
theorem za_85 : zc_all zk_ms2 zk_mh zk_Cs zk_nms ⟨"StubHouse$Migrator", "work", "()V"⟩ prog_6_method_3_code 1 none ztb_85 = true := by decide +kernel
set_option maxRecDepth 20000 in
theorem zm_86 : zc_meth (⟨"StubHouse", "toldOfStores", "(I)I"⟩, prog_1_method_30_code, 2, (some .int)) (2404, 1, 2403, 5202) = true := by decide +kernel
set_option maxRecDepth 20000 in
theorem za_86 : zc_all zk_ms2 zk_mh zk_Cs zk_nms ⟨"StubHouse", "toldOfStores", "(I)I"⟩ prog_1_method_30_code 2 (some .int) ztb_86 = true := by decide +kernel
set_option maxRecDepth 20000 in
theorem zm_87 : zc_meth (⟨"StubHouseModel", "freeNode", "()I"⟩, prog_14_method_16_code, 2, (some .int)) (2826, 14, 2825, 5208) = true := by decide +kernel
set_option maxRecDepth 20000 in
theorem za_87 : zc_all zk_ms2 zk_mh zk_Cs zk_nms ⟨"StubHouseModel", "freeNode", "()I"⟩ prog_14_method_16_code 2 (some .int) ztb_87 = true := by decide +kernel
set_option maxRecDepth 20000 in
theorem zm_88 : zc_meth (⟨"StubHouseModel", "ahead", "()V"⟩, prog_14_method_9_code, 2, none) (2834, 14, 2833, 5210) = true := by decide +kernel
set_option maxRecDepth 20000 in
theorem za_88 : zc_all zk_ms2 zk_mh zk_Cs zk_nms ⟨"StubHouseModel", "ahead", "()V"⟩ prog_14_method_9_code 2 none ztb_88 = true := by decide +kernel
set_option maxRecDepth 20000 in
theorem zm_89 : zc_meth (⟨"StubHouseModel", "syncAll", "()I"⟩, prog_14_method_8_code, 3, (some .int)) (2838, 14, 2837, 5211) = true := by decide +kernel
set_option maxRecDepth 20000 in
theorem za_89 : zc_all zk_ms2 zk_mh zk_Cs zk_nms ⟨"StubHouseModel", "syncAll", "()I"⟩ prog_14_method_8_code 3 (some .int) ztb_89 = true := by decide +kernel
set_option maxRecDepth 20000 in
theorem zm_90 : zc_meth (⟨"StubHouseModel", "plant", "(IIIJ)V"⟩, prog_14_method_22_code, 7, none) (2842, 14, 2841, 5212) = true := by decide +kernel
set_option maxRecDepth 20000 in
theorem za_90 : zc_all zk_ms2 zk_mh zk_Cs zk_nms ⟨"StubHouseModel", "plant", "(IIIJ)V"⟩ prog_14_method_22_code 7 none ztb_90 = true := by decide +kernel
set_option maxRecDepth 20000 in
theorem zm_91 : zc_meth (⟨"StubHouseModel", "noBlocks", "(I)V"⟩, prog_14_method_21_code, 3, none) (2850, 14, 2849, 5214) = true := by decide +kernel
set_option maxRecDepth 20000 in
theorem za_91 : zc_all zk_ms2 zk_mh zk_Cs zk_nms ⟨"StubHouseModel", "noBlocks", "(I)V"⟩ prog_14_method_21_code 3 none ztb_91 = true := by decide +kernel
set_option maxRecDepth 20000 in
theorem zm_92 : zc_meth (⟨"StubHouseModel", "record", "(I)V"⟩, prog_14_method_10_code, 2, none) (2854, 14, 2853, 5215) = true := by decide +kernel
set_option maxRecDepth 20000 in
theorem za_92 : zc_all zk_ms2 zk_mh zk_Cs zk_nms ⟨"StubHouseModel", "record", "(I)V"⟩ prog_14_method_10_code 2 none ztb_92 = true := by decide +kernel
set_option maxRecDepth 20000 in
theorem zm_93 : zc_meth (⟨"StubHouseModel", "crash", "(I)I"⟩, prog_14_method_49_code, 6, (some .int)) (3031, 14, 3029, 3030) = true := by decide +kernel
set_option maxRecDepth 20000 in
theorem za_93 : zc_all zk_ms2 zk_mh zk_Cs zk_nms ⟨"StubHouseModel", "crash", "(I)I"⟩ prog_14_method_49_code 6 (some .int) ztb_93 = true := by decide +kernel
set_option maxRecDepth 20000 in
theorem zm_94 : zc_meth (⟨"StubHouseModel", "stopAll", "()V"⟩, prog_14_method_48_code, 2, none) (3035, 14, 3034, 6008) = true := by decide +kernel
set_option maxRecDepth 20000 in
theorem za_94 : zc_all zk_ms2 zk_mh zk_Cs zk_nms ⟨"StubHouseModel", "stopAll", "()V"⟩ prog_14_method_48_code 2 none ztb_94 = true := by decide +kernel
set_option maxRecDepth 20000 in
theorem zm_95 : zc_meth (⟨"StubHouseModel", "readerBegins", "()V"⟩, prog_14_method_89_code, 6, none) (3289, 14, 3288, 6406) = true := by decide +kernel
set_option maxRecDepth 20000 in
theorem za_95 : zc_all zk_ms2 zk_mh zk_Cs zk_nms ⟨"StubHouseModel", "readerBegins", "()V"⟩ prog_14_method_89_code 6 none ztb_95 = true := by decide +kernel
set_option maxRecDepth 20000 in
theorem zm_96 : zc_meth (⟨"StubHouseModel", "writerBegins", "()V"⟩, prog_14_method_101_code, 9, none) (3326, 14, 3325, 6415) = true := by decide +kernel
set_option maxRecDepth 20000 in
theorem za_96 : zc_all zk_ms2 zk_mh zk_Cs zk_nms ⟨"StubHouseModel", "writerBegins", "()V"⟩ prog_14_method_101_code 9 none ztb_96 = true := by decide +kernel
set_option maxRecDepth 20000 in
theorem zm_97 : zc_meth (⟨"StubHouseModel", "dropWaiting", "()V"⟩, prog_14_method_100_code, 4, none) (3330, 14, 3329, 6800) = true := by decide +kernel
set_option maxRecDepth 20000 in
theorem za_97 : zc_all zk_ms2 zk_mh zk_Cs zk_nms ⟨"StubHouseModel", "dropWaiting", "()V"⟩ prog_14_method_100_code 4 none ztb_97 = true := by decide +kernel
set_option maxRecDepth 20000 in
theorem zm_98 : zc_meth (⟨"StubHouseModel", "migrate", "()V"⟩, prog_14_method_113_code, 3, none) (3394, 14, 3393, 7200) = true := by decide +kernel
set_option maxRecDepth 20000 in
theorem za_98 : zc_all zk_ms2 zk_mh zk_Cs zk_nms ⟨"StubHouseModel", "migrate", "()V"⟩ prog_14_method_113_code 3 none ztb_98 = true := by decide +kernel
set_option maxRecDepth 20000 in
theorem zm_99 : zc_meth (⟨"StubHouse$Drive", "<init>", "()V"⟩, prog_3_method_1_code, 1, none) (539, 10, 538, 0) = true := by decide +kernel
set_option maxRecDepth 20000 in
theorem za_99 : zc_all zk_ms2 zk_mh zk_Cs zk_nms ⟨"StubHouse$Drive", "<init>", "()V"⟩ prog_3_method_1_code 1 none ztb_99 = true := by decide +kernel
