/-! the rows of the tables, checked -/
set_option maxRecDepth 20000 in
theorem zm_0 : zc_meth (⟨"StubHouseModel", "at", "(II)I"⟩, prog_14_method_5_code, 3, (some .int)) (2810, 14, 2809, 5206) = true := by decide +kernel
set_option maxRecDepth 20000 in
theorem za_0 : zc_all zk_ms2 zk_mh zk_Cs zk_nms ⟨"StubHouseModel", "at", "(II)I"⟩ prog_14_method_5_code 3 (some .int) ztb_0 = true := by decide +kernel
set_option maxRecDepth 20000 in
theorem zm_1 : zc_meth (⟨"StubHouseModel", "in", "(JJJ)Z"⟩, prog_14_method_2_code, 6, (some .boolean)) (2806, 14, 2805, 0) = true := by decide +kernel
set_option maxRecDepth 20000 in
theorem za_1 : zc_all zk_ms2 zk_mh zk_Cs zk_nms ⟨"StubHouseModel", "in", "(JJJ)Z"⟩ prog_14_method_2_code 6 (some .boolean) ztb_1 = true := by decide +kernel
set_option maxRecDepth 20000 in
theorem zm_2 : zc_meth (⟨"java/util/Arrays", "fill", "([II)V"⟩, prog_17_method_103_code, 4, none) (40, 4, 39, 0) = true := by decide +kernel
set_option maxRecDepth 20000 in
theorem za_2 : zc_all zk_ms2 zk_mh zk_Cs zk_nms ⟨"java/util/Arrays", "fill", "([II)V"⟩ prog_17_method_103_code 4 none ztb_2 = true := by decide +kernel
set_option maxRecDepth 20000 in
theorem zm_3 : zc_meth (⟨"StubHouseModel", "isFile", "(I)Z"⟩, prog_14_method_11_code, 2, (some .boolean)) (2957, 14, 2956, 5615) = true := by decide +kernel
set_option maxRecDepth 20000 in
theorem za_3 : zc_all zk_ms2 zk_mh zk_Cs zk_nms ⟨"StubHouseModel", "isFile", "(I)Z"⟩ prog_14_method_11_code 2 (some .boolean) ztb_3 = true := by decide +kernel
set_option maxRecDepth 20000 in
theorem zm_4 : zc_meth (⟨"StubHouse$Node", "<init>", "()V"⟩, prog_7_method_1_code, 1, none) (36, 3, 35, 0) = true := by decide +kernel
set_option maxRecDepth 20000 in
theorem za_4 : zc_all zk_ms2 zk_mh zk_Cs zk_nms ⟨"StubHouse$Node", "<init>", "()V"⟩ prog_7_method_1_code 1 none ztb_4 = true := by decide +kernel
set_option maxRecDepth 20000 in
theorem zm_5 : zc_meth (⟨"StubHouseModel", "isDirectory", "(I)Z"⟩, prog_14_method_12_code, 2, (some .boolean)) (2802, 14, 2801, 5205) = true := by decide +kernel
set_option maxRecDepth 20000 in
theorem za_5 : zc_all zk_ms2 zk_mh zk_Cs zk_nms ⟨"StubHouseModel", "isDirectory", "(I)Z"⟩ prog_14_method_12_code 2 (some .boolean) ztb_5 = true := by decide +kernel
set_option maxRecDepth 20000 in
theorem zm_6 : zc_meth (⟨"StubHouseModel", "set", "(III)V"⟩, prog_14_method_6_code, 4, none) (2846, 14, 2845, 5213) = true := by decide +kernel
set_option maxRecDepth 20000 in
theorem za_6 : zc_all zk_ms2 zk_mh zk_Cs zk_nms ⟨"StubHouseModel", "set", "(III)V"⟩ prog_14_method_6_code 4 none ztb_6 = true := by decide +kernel
set_option maxRecDepth 20000 in
theorem zm_7 : zc_meth (⟨"StubHouseModel", "make", "(IJZ)I"⟩, prog_14_method_23_code, 6, (some .int)) (2638, 14, 2636, 2637) = true := by decide +kernel
set_option maxRecDepth 20000 in
theorem za_7 : zc_all zk_ms2 zk_mh zk_Cs zk_nms ⟨"StubHouseModel", "make", "(IJZ)I"⟩ prog_14_method_23_code 6 (some .int) ztb_7 = true := by decide +kernel
set_option maxRecDepth 20000 in
theorem zm_8 : zc_meth (⟨"StubHouseModel", "about", "(II)I"⟩, prog_14_method_41_code, 4, (some .int)) (2993, 14, 2991, 2992) = true := by decide +kernel
set_option maxRecDepth 20000 in
theorem za_8 : zc_all zk_ms2 zk_mh zk_Cs zk_nms ⟨"StubHouseModel", "about", "(II)I"⟩ prog_14_method_41_code 4 (some .int) ztb_8 = true := by decide +kernel
set_option maxRecDepth 20000 in
theorem zm_9 : zc_meth (⟨"StubHouse$Tape", "scan", "()V"⟩, prog_10_method_15_code, 1, none) (1006, 9, 1004, 1005) = true := by decide +kernel
set_option maxRecDepth 20000 in
theorem za_9 : zc_all zk_ms2 zk_mh zk_Cs zk_nms ⟨"StubHouse$Tape", "scan", "()V"⟩ prog_10_method_15_code 1 none ztb_9 = true := by decide +kernel
set_option maxRecDepth 20000 in
theorem zm_10 : zc_meth (⟨"StubHouseModel", "scan", "(I)V"⟩, prog_14_method_60_code, 10, none) (2882, 14, 2881, 5604) = true := by decide +kernel
set_option maxRecDepth 20000 in
theorem za_10 : zc_all zk_ms2 zk_mh zk_Cs zk_nms ⟨"StubHouseModel", "scan", "(I)V"⟩ prog_14_method_60_code 10 none ztb_10 = true := by decide +kernel
set_option maxRecDepth 20000 in
theorem zm_11 : zc_meth (⟨"StubHouseModel", "find", "(IJ)I"⟩, prog_14_method_24_code, 4, (some .int)) (2858, 14, 2856, 2857) = true := by decide +kernel
set_option maxRecDepth 20000 in
theorem za_11 : zc_all zk_ms2 zk_mh zk_Cs zk_nms ⟨"StubHouseModel", "find", "(IJ)I"⟩ prog_14_method_24_code 4 (some .int) ztb_11 = true := by decide +kernel
set_option maxRecDepth 20000 in
theorem zm_12 : zc_meth (⟨"StubHouseModel", "remove", "(I)I"⟩, prog_14_method_27_code, 4, (some .int)) (2862, 14, 2860, 2861) = true := by decide +kernel
set_option maxRecDepth 20000 in
theorem za_12 : zc_all zk_ms2 zk_mh zk_Cs zk_nms ⟨"StubHouseModel", "remove", "(I)I"⟩ prog_14_method_27_code 4 (some .int) ztb_12 = true := by decide +kernel
set_option maxRecDepth 20000 in
theorem zm_13 : zc_meth (⟨"StubHouseModel", "move", "(IIJ)I"⟩, prog_14_method_29_code, 8, (some .int)) (2935, 14, 2933, 2934) = true := by decide +kernel
set_option maxRecDepth 20000 in
theorem za_13 : zc_all zk_ms2 zk_mh zk_Cs zk_nms ⟨"StubHouseModel", "move", "(IIJ)I"⟩ prog_14_method_29_code 8 (some .int) ztb_13 = true := by decide +kernel
set_option maxRecDepth 20000 in
theorem zm_14 : zc_meth (⟨"StubHouseModel", "write", "(II)I"⟩, prog_14_method_37_code, 8, (some .int)) (2953, 14, 2951, 2952) = true := by decide +kernel
set_option maxRecDepth 20000 in
theorem za_14 : zc_all zk_ms2 zk_mh zk_Cs zk_nms ⟨"StubHouseModel", "write", "(II)I"⟩ prog_14_method_37_code 8 (some .int) ztb_14 = true := by decide +kernel
set_option maxRecDepth 20000 in
theorem zm_15 : zc_meth (⟨"StubHouseModel", "cut", "(II)I"⟩, prog_14_method_38_code, 7, (some .int)) (2985, 14, 2983, 2984) = true := by decide +kernel
set_option maxRecDepth 20000 in
theorem za_15 : zc_all zk_ms2 zk_mh zk_Cs zk_nms ⟨"StubHouseModel", "cut", "(II)I"⟩ prog_14_method_38_code 7 (some .int) ztb_15 = true := by decide +kernel
set_option maxRecDepth 20000 in
theorem zm_16 : zc_meth (⟨"StubHouseModel", "read", "(II)I"⟩, prog_14_method_39_code, 4, (some .int)) (2989, 14, 2987, 2988) = true := by decide +kernel
set_option maxRecDepth 20000 in
theorem za_16 : zc_all zk_ms2 zk_mh zk_Cs zk_nms ⟨"StubHouseModel", "read", "(II)I"⟩ prog_14_method_39_code 4 (some .int) ztb_16 = true := by decide +kernel
set_option maxRecDepth 20000 in
theorem zm_17 : zc_meth (⟨"StubHouseModel", "name", "(I)J"⟩, prog_14_method_42_code, 2, (some .long)) (3006, 14, 3004, 3005) = true := by decide +kernel
set_option maxRecDepth 20000 in
theorem za_17 : zc_all zk_ms2 zk_mh zk_Cs zk_nms ⟨"StubHouseModel", "name", "(I)J"⟩ prog_14_method_42_code 2 (some .long) ztb_17 = true := by decide +kernel
set_option maxRecDepth 20000 in
theorem zm_18 : zc_meth (⟨"StubHouseModel", "block", "(II)I"⟩, prog_14_method_43_code, 4, (some .int)) (3010, 14, 3008, 3009) = true := by decide +kernel
set_option maxRecDepth 20000 in
theorem za_18 : zc_all zk_ms2 zk_mh zk_Cs zk_nms ⟨"StubHouseModel", "block", "(II)I"⟩ prog_14_method_43_code 4 (some .int) ztb_18 = true := by decide +kernel
set_option maxRecDepth 20000 in
theorem zm_19 : zc_meth (⟨"StubHouseModel", "copy", "(III)I"⟩, prog_14_method_44_code, 4, (some .int)) (3014, 14, 3012, 3013) = true := by decide +kernel
set_option maxRecDepth 20000 in
theorem za_19 : zc_all zk_ms2 zk_mh zk_Cs zk_nms ⟨"StubHouseModel", "copy", "(III)I"⟩ prog_14_method_44_code 4 (some .int) ztb_19 = true := by decide +kernel
set_option maxRecDepth 20000 in
theorem zm_20 : zc_meth (⟨"StubHouse$Node", "clear", "()V"⟩, prog_7_method_2_code, 1, none) (977, 3, 975, 976) = true := by decide +kernel
set_option maxRecDepth 20000 in
theorem za_20 : zc_all zk_ms2 zk_mh zk_Cs zk_nms ⟨"StubHouse$Node", "clear", "()V"⟩ prog_7_method_2_code 1 none ztb_20 = true := by decide +kernel
set_option maxRecDepth 20000 in
theorem zm_21 : zc_meth (⟨"StubHouseModel", "segment", "(III)I"⟩, prog_14_method_70_code, 4, (some .int)) (3236, 14, 3234, 3235) = true := by decide +kernel
set_option maxRecDepth 20000 in
theorem za_21 : zc_all zk_ms2 zk_mh zk_Cs zk_nms ⟨"StubHouseModel", "segment", "(III)I"⟩ prog_14_method_70_code 4 (some .int) ztb_21 = true := by decide +kernel
set_option maxRecDepth 20000 in
theorem zm_22 : zc_meth (⟨"StubHouseModel", "tape", "(II)I"⟩, prog_14_method_66_code, 5, (some .int)) (3207, 14, 3205, 3206) = true := by decide +kernel
set_option maxRecDepth 20000 in
theorem za_22 : zc_all zk_ms2 zk_mh zk_Cs zk_nms ⟨"StubHouseModel", "tape", "(II)I"⟩ prog_14_method_66_code 5 (some .int) ztb_22 = true := by decide +kernel
set_option maxRecDepth 20000 in
theorem zm_23 : zc_meth (⟨"StubHouseModel", "noPlace", "(II)Z"⟩, prog_14_method_67_code, 3, (some .boolean)) (3228, 14, 3227, 6013) = true := by decide +kernel
set_option maxRecDepth 20000 in
theorem za_23 : zc_all zk_ms2 zk_mh zk_Cs zk_nms ⟨"StubHouseModel", "noPlace", "(II)Z"⟩ prog_14_method_67_code 3 (some .boolean) ztb_23 = true := by decide +kernel
set_option maxRecDepth 20000 in
theorem zm_24 : zc_meth (⟨"StubHouseModel", "marks", "(III)I"⟩, prog_14_method_45_code, 5, (some .int)) (3018, 14, 3016, 3017) = true := by decide +kernel
set_option maxRecDepth 20000 in
theorem za_24 : zc_all zk_ms2 zk_mh zk_Cs zk_nms ⟨"StubHouseModel", "marks", "(III)I"⟩ prog_14_method_45_code 5 (some .int) ztb_24 = true := by decide +kernel
set_option maxRecDepth 20000 in
theorem zm_25 : zc_meth (⟨"StubHouseModel", "told", "(I)I"⟩, prog_14_method_120_code, 4, (some .int)) (3422, 14, 3420, 3421) = true := by decide +kernel
set_option maxRecDepth 20000 in
theorem za_25 : zc_all zk_ms2 zk_mh zk_Cs zk_nms ⟨"StubHouseModel", "told", "(I)I"⟩ prog_14_method_120_code 4 (some .int) ztb_25 = true := by decide +kernel
set_option maxRecDepth 20000 in
theorem zm_26 : zc_meth (⟨"StubHouse$Library", "scanAll", "()V"⟩, prog_4_method_6_code, 2, none) (1002, 8, 1000, 1001) = true := by decide +kernel
set_option maxRecDepth 20000 in
theorem za_26 : zc_all zk_ms2 zk_mh zk_Cs zk_nms ⟨"StubHouse$Library", "scanAll", "()V"⟩ prog_4_method_6_code 2 none ztb_26 = true := by decide +kernel
set_option maxRecDepth 20000 in
theorem zm_27 : zc_meth (⟨"StubHouseModel", "byteOf", "(II)I"⟩, prog_14_method_68_code, 3, (some .int)) (3224, 14, 3222, 3223) = true := by decide +kernel
set_option maxRecDepth 20000 in
theorem za_27 : zc_all zk_ms2 zk_mh zk_Cs zk_nms ⟨"StubHouseModel", "byteOf", "(II)I"⟩ prog_14_method_68_code 3 (some .int) ztb_27 = true := by decide +kernel
set_option maxRecDepth 20000 in
theorem zm_28 : zc_meth (⟨"StubHouseModel", "spoil", "(III)I"⟩, prog_14_method_69_code, 4, (some .int)) (3232, 14, 3230, 3231) = true := by decide +kernel
set_option maxRecDepth 20000 in
theorem za_28 : zc_all zk_ms2 zk_mh zk_Cs zk_nms ⟨"StubHouseModel", "spoil", "(III)I"⟩ prog_14_method_69_code 4 (some .int) ztb_28 = true := by decide +kernel
set_option maxRecDepth 20000 in
theorem zm_29 : zc_meth (⟨"StubHouse$Tree", "isThere", "(I)Z"⟩, prog_11_method_4_code, 2, (some .boolean)) (917, 2, 915, 916) = true := by decide +kernel
set_option maxRecDepth 20000 in
theorem za_29 : zc_all zk_ms2 zk_mh zk_Cs zk_nms ⟨"StubHouse$Tree", "isThere", "(I)Z"⟩ prog_11_method_4_code 2 (some .boolean) ztb_29 = true := by decide +kernel
set_option maxRecDepth 20000 in
theorem zm_30 : zc_meth (⟨"StubHouseModel", "view", "(II)I"⟩, prog_14_method_75_code, 3, (some .int)) (3240, 14, 3238, 3239) = true := by decide +kernel
set_option maxRecDepth 20000 in
theorem za_30 : zc_all zk_ms2 zk_mh zk_Cs zk_nms ⟨"StubHouseModel", "view", "(II)I"⟩ prog_14_method_75_code 3 (some .int) ztb_30 = true := by decide +kernel
set_option maxRecDepth 20000 in
theorem zm_31 : zc_meth (⟨"StubHouseModel", "drive", "(II)I"⟩, prog_14_method_117_code, 3, (some .int)) (3418, 14, 3416, 3417) = true := by decide +kernel
set_option maxRecDepth 20000 in
theorem za_31 : zc_all zk_ms2 zk_mh zk_Cs zk_nms ⟨"StubHouseModel", "drive", "(II)I"⟩ prog_14_method_117_code 3 (some .int) ztb_31 = true := by decide +kernel
set_option maxRecDepth 20000 in
theorem zm_32 : zc_meth (⟨"StubHouseModel", "feed", "(IJ)I"⟩, prog_14_method_30_code, 5, (some .int)) (2943, 14, 2941, 2942) = true := by decide +kernel
set_option maxRecDepth 20000 in
theorem za_32 : zc_all zk_ms2 zk_mh zk_Cs zk_nms ⟨"StubHouseModel", "feed", "(IJ)I"⟩ prog_14_method_30_code 5 (some .int) ztb_32 = true := by decide +kernel
set_option maxRecDepth 20000 in
theorem zm_33 : zc_meth (⟨"StubHouseModel", "reclaim", "(I)I"⟩, prog_14_method_94_code, 2, (some .int)) (3276, 14, 3274, 3275) = true := by decide +kernel
set_option maxRecDepth 20000 in
theorem za_33 : zc_all zk_ms2 zk_mh zk_Cs zk_nms ⟨"StubHouseModel", "reclaim", "(I)I"⟩ prog_14_method_94_code 2 (some .int) ztb_33 = true := by decide +kernel
set_option maxRecDepth 20000 in
theorem zm_34 : zc_meth (⟨"StubHouseModel", "copyOut", "()V"⟩, prog_14_method_7_code, 2, none) (2462, 14, 2461, 5204) = true := by decide +kernel
set_option maxRecDepth 20000 in
theorem za_34 : zc_all zk_ms2 zk_mh zk_Cs zk_nms ⟨"StubHouseModel", "copyOut", "()V"⟩ prog_14_method_7_code 2 none ztb_34 = true := by decide +kernel
set_option maxRecDepth 20000 in
theorem zm_35 : zc_meth (⟨"StubHouseModel", "step", "(I)I"⟩, prog_14_method_116_code, 3, (some .int)) (3280, 14, 3278, 3279) = true := by decide +kernel
set_option maxRecDepth 20000 in
theorem za_35 : zc_all zk_ms2 zk_mh zk_Cs zk_nms ⟨"StubHouseModel", "step", "(I)I"⟩ prog_14_method_116_code 3 (some .int) ztb_35 = true := by decide +kernel
set_option maxRecDepth 20000 in
theorem zm_36 : zc_meth (⟨"StubHouseModel", "inUse", "(I)I"⟩, prog_14_method_110_code, 4, (some .int)) (3398, 14, 3397, 7201) = true := by decide +kernel
set_option maxRecDepth 20000 in
theorem za_36 : zc_all zk_ms2 zk_mh zk_Cs zk_nms ⟨"StubHouseModel", "inUse", "(I)I"⟩ prog_14_method_110_code 4 (some .int) ztb_36 = true := by decide +kernel
set_option maxRecDepth 20000 in
theorem zm_37 : zc_meth (⟨"StubHouseModel", "scanAll", "()V"⟩, prog_14_method_61_code, 2, none) (2878, 14, 2877, 5603) = true := by decide +kernel
set_option maxRecDepth 20000 in
theorem za_37 : zc_all zk_ms2 zk_mh zk_Cs zk_nms ⟨"StubHouseModel", "scanAll", "()V"⟩ prog_14_method_61_code 2 none ztb_37 = true := by decide +kernel
set_option maxRecDepth 20000 in
theorem zm_38 : zc_meth (⟨"StubHouseModel", "findView", "()V"⟩, prog_14_method_74_code, 7, none) (3244, 14, 3243, 6014) = true := by decide +kernel
set_option maxRecDepth 20000 in
theorem za_38 : zc_all zk_ms2 zk_mh zk_Cs zk_nms ⟨"StubHouseModel", "findView", "()V"⟩ prog_14_method_74_code 7 none ztb_38 = true := by decide +kernel
set_option maxRecDepth 20000 in
theorem zm_39 : zc_meth (⟨"StubHouse$Tape", "<init>", "()V"⟩, prog_10_method_1_code, 1, none) (445, 9, 444, 0) = true := by decide +kernel
set_option maxRecDepth 20000 in
theorem za_39 : zc_all zk_ms2 zk_mh zk_Cs zk_nms ⟨"StubHouse$Tape", "<init>", "()V"⟩ prog_10_method_1_code 1 none ztb_39 = true := by decide +kernel
set_option maxRecDepth 20000 in
theorem zm_40 : zc_meth (⟨"StubHouse$Tree", "leastAbsent", "()I"⟩, prog_11_method_9_code, 2, (some .int)) (929, 2, 927, 928) = true := by decide +kernel
set_option maxRecDepth 20000 in
theorem za_40 : zc_all zk_ms2 zk_mh zk_Cs zk_nms ⟨"StubHouse$Tree", "leastAbsent", "()I"⟩ prog_11_method_9_code 2 (some .int) ztb_40 = true := by decide +kernel
set_option maxRecDepth 20000 in
theorem zm_41 : zc_meth (⟨"StubHouse$Drive", "takeOff", "()V"⟩, prog_3_method_8_code, 1, none) (1607, 10, 1606, 0) = true := by decide +kernel
set_option maxRecDepth 20000 in
theorem za_41 : zc_all zk_ms2 zk_mh zk_Cs zk_nms ⟨"StubHouse$Drive", "takeOff", "()V"⟩ prog_3_method_8_code 1 none ztb_41 = true := by decide +kernel
set_option maxRecDepth 20000 in
theorem zm_42 : zc_meth (⟨"StubHouse$Drive", "begin", "(III)V"⟩, prog_3_method_6_code, 4, none) (1613, 10, 1609, 0) = true := by decide +kernel
set_option maxRecDepth 20000 in
theorem za_42 : zc_all zk_ms2 zk_mh zk_Cs zk_nms ⟨"StubHouse$Drive", "begin", "(III)V"⟩ prog_3_method_6_code 4 none ztb_42 = true := by decide +kernel
set_option maxRecDepth 20000 in
theorem zm_43 : zc_meth (⟨"StubHouse$Drive", "spend", "()Z"⟩, prog_3_method_7_code, 2, (some .boolean)) (2020, 10, 2019, 0) = true := by decide +kernel
set_option maxRecDepth 20000 in
theorem za_43 : zc_all zk_ms2 zk_mh zk_Cs zk_nms ⟨"StubHouse$Drive", "spend", "()Z"⟩ prog_3_method_7_code 2 (some .boolean) ztb_43 = true := by decide +kernel
set_option maxRecDepth 20000 in
theorem zm_44 : zc_meth (⟨"StubHouse$Migrator", "modeOf", "(IZ)Z"⟩, prog_6_method_4_code, 3, (some .boolean)) (2194, 13, 2193, 4814) = true := by decide +kernel
set_option maxRecDepth 20000 in
theorem za_44 : zc_all zk_ms2 zk_mh zk_Cs zk_nms ⟨"StubHouse$Migrator", "modeOf", "(IZ)Z"⟩ prog_6_method_4_code 3 (some .boolean) ztb_44 = true := by decide +kernel
set_option maxRecDepth 20000 in
theorem zm_45 : zc_meth (⟨"StubHouse$Tape", "countGood", "()I"⟩, prog_10_method_13_code, 3, (some .int)) (2412, 9, 2410, 2411) = true := by decide +kernel
set_option maxRecDepth 20000 in
theorem za_45 : zc_all zk_ms2 zk_mh zk_Cs zk_nms ⟨"StubHouse$Tape", "countGood", "()I"⟩ prog_10_method_13_code 3 (some .int) ztb_45 = true := by decide +kernel
set_option maxRecDepth 20000 in
theorem zm_46 : zc_meth (⟨"StubHouse$Library", "countLive", "(I)I"⟩, prog_4_method_12_code, 4, (some .int)) (2416, 8, 2414, 2415) = true := by decide +kernel
set_option maxRecDepth 20000 in
theorem za_46 : zc_all zk_ms2 zk_mh zk_Cs zk_nms ⟨"StubHouse$Library", "countLive", "(I)I"⟩ prog_4_method_12_code 4 (some .int) ztb_46 = true := by decide +kernel
set_option maxRecDepth 20000 in
theorem zm_47 : zc_meth (⟨"StubHouseModel", "purge", "()V"⟩, prog_14_method_82_code, 4, none) (2923, 14, 2922, 5611) = true := by decide +kernel
set_option maxRecDepth 20000 in
theorem za_47 : zc_all zk_ms2 zk_mh zk_Cs zk_nms ⟨"StubHouseModel", "purge", "()V"⟩ prog_14_method_82_code 4 none ztb_47 = true := by decide +kernel
set_option maxRecDepth 20000 in
theorem zm_48 : zc_meth (⟨"StubHouseModel", "goOn", "(I)V"⟩, prog_14_method_109_code, 2, none) (3285, 14, 3284, 6405) = true := by decide +kernel
set_option maxRecDepth 20000 in
theorem za_48 : zc_all zk_ms2 zk_mh zk_Cs zk_nms ⟨"StubHouseModel", "goOn", "(I)V"⟩ prog_14_method_109_code 2 none ztb_48 = true := by decide +kernel
set_option maxRecDepth 20000 in
theorem zm_49 : zc_meth (⟨"StubHouse$Tree", "isFile", "(I)Z"⟩, prog_11_method_6_code, 2, (some .boolean)) (998, 2, 996, 997) = true := by decide +kernel
set_option maxRecDepth 20000 in
theorem za_49 : zc_all zk_ms2 zk_mh zk_Cs zk_nms ⟨"StubHouse$Tree", "isFile", "(I)Z"⟩ prog_11_method_6_code 2 (some .boolean) ztb_49 = true := by decide +kernel
