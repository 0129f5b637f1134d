/-! the rows of the tables, checked -/
set_option maxRecDepth 20000 in
theorem zm_100 : zc_meth (⟨"StubHouse$Log", "undoBehind", "(I)I"⟩, prog_5_method_9_code, 5, (some .int)) (1415, 6, 1413, 1414) = true := by decide +kernel
set_option maxRecDepth 20000 in
theorem za_100 : zc_all zk_ms2 zk_mh zk_Cs zk_nms ⟨"StubHouse$Log", "undoBehind", "(I)I"⟩ prog_5_method_9_code 5 (some .int) ztb_100 = true := by decide +kernel
set_option maxRecDepth 20000 in
theorem zm_101 : zc_meth (⟨"StubHouse$Log", "claimHomes", "()V"⟩, prog_5_method_11_code, 3, none) (1423, 6, 1422, 4002) = true := by decide +kernel
set_option maxRecDepth 20000 in
theorem za_101 : zc_all zk_ms2 zk_mh zk_Cs zk_nms ⟨"StubHouse$Log", "claimHomes", "()V"⟩ prog_5_method_11_code 3 none ztb_101 = true := by decide +kernel
set_option maxRecDepth 20000 in
theorem zm_102 : zc_meth (⟨"StubHouse$Tree", "touchAll", "()V"⟩, prog_11_method_17_code, 2, none) (1433, 2, 1431, 1432) = true := by decide +kernel
set_option maxRecDepth 20000 in
theorem za_102 : zc_all zk_ms2 zk_mh zk_Cs zk_nms ⟨"StubHouse$Tree", "touchAll", "()V"⟩ prog_11_method_17_code 2 none ztb_102 = true := by decide +kernel
set_option maxRecDepth 20000 in
theorem zm_103 : zc_meth (⟨"StubHouse$Library", "hasByte", "(II)Z"⟩, prog_4_method_2_code, 3, (some .boolean)) (2424, 8, 2422, 2423) = true := by decide +kernel
set_option maxRecDepth 20000 in
theorem za_103 : zc_all zk_ms2 zk_mh zk_Cs zk_nms ⟨"StubHouse$Library", "hasByte", "(II)Z"⟩ prog_4_method_2_code 3 (some .boolean) ztb_103 = true := by decide +kernel
set_option maxRecDepth 20000 in
theorem zm_104 : zc_meth (⟨"StubHouseModel", "empty", "()V"⟩, prog_14_method_4_code, 2, none) (2458, 14, 2457, 5203) = true := by decide +kernel
set_option maxRecDepth 20000 in
theorem za_104 : zc_all zk_ms2 zk_mh zk_Cs zk_nms ⟨"StubHouseModel", "empty", "()V"⟩ prog_14_method_4_code 2 none ztb_104 = true := by decide +kernel
set_option maxRecDepth 20000 in
theorem zm_105 : zc_meth (⟨"StubHouseModel", "freeIn", "(II)I"⟩, prog_14_method_32_code, 5, (some .int)) (2965, 14, 2964, 6001) = true := by decide +kernel
set_option maxRecDepth 20000 in
theorem za_105 : zc_all zk_ms2 zk_mh zk_Cs zk_nms ⟨"StubHouseModel", "freeIn", "(II)I"⟩ prog_14_method_32_code 5 (some .int) ztb_105 = true := by decide +kernel
set_option maxRecDepth 20000 in
theorem zm_106 : zc_meth (⟨"StubHouse", "<init>", "()V"⟩, prog_1_method_1_code, 1, none) (21, 1, 20, 0) = true := by decide +kernel
set_option maxRecDepth 20000 in
theorem za_106 : zc_all zk_ms2 zk_mh zk_Cs zk_nms ⟨"StubHouse", "<init>", "()V"⟩ prog_1_method_1_code 1 none ztb_106 = true := by decide +kernel
set_option maxRecDepth 20000 in
theorem zm_107 : zc_meth (⟨"StubHouse$Tree", "<init>", "()V"⟩, prog_11_method_1_code, 2, none) (29, 2, 28, 0) = true := by decide +kernel
set_option maxRecDepth 20000 in
theorem za_107 : zc_all zk_ms2 zk_mh zk_Cs zk_nms ⟨"StubHouse$Tree", "<init>", "()V"⟩ prog_11_method_1_code 2 none ztb_107 = true := by decide +kernel
set_option maxRecDepth 20000 in
theorem zm_108 : zc_meth (⟨"StubHouse$Stores", "<init>", "()V"⟩, prog_9_method_1_code, 1, none) (170, 5, 169, 0) = true := by decide +kernel
set_option maxRecDepth 20000 in
theorem za_108 : zc_all zk_ms2 zk_mh zk_Cs zk_nms ⟨"StubHouse$Stores", "<init>", "()V"⟩ prog_9_method_1_code 1 none ztb_108 = true := by decide +kernel
set_option maxRecDepth 20000 in
theorem zm_109 : zc_meth (⟨"StubHouse$Log", "<init>", "(LStubHouse$Tree;LStubHouse$Stores;)V"⟩, prog_5_method_1_code, 4, none) (198, 6, 197, 0) = true := by decide +kernel
set_option maxRecDepth 20000 in
theorem za_109 : zc_all zk_ms2 zk_mh zk_Cs zk_nms ⟨"StubHouse$Log", "<init>", "(LStubHouse$Tree;LStubHouse$Stores;)V"⟩ prog_5_method_1_code 4 none ztb_109 = true := by decide +kernel
set_option maxRecDepth 20000 in
theorem zm_110 : zc_meth (⟨"StubHouse$Changes", "<init>", "(LStubHouse$Tree;LStubHouse$Stores;LStubHouse$Log;)V"⟩, prog_2_method_1_code, 4, none) (405, 7, 404, 0) = true := by decide +kernel
set_option maxRecDepth 20000 in
theorem za_110 : zc_all zk_ms2 zk_mh zk_Cs zk_nms ⟨"StubHouse$Changes", "<init>", "(LStubHouse$Tree;LStubHouse$Stores;LStubHouse$Log;)V"⟩ prog_2_method_1_code 4 none ztb_110 = true := by decide +kernel
set_option maxRecDepth 20000 in
theorem zm_111 : zc_meth (⟨"StubHouse$Library", "<init>", "(LStubHouse$Tree;)V"⟩, prog_4_method_1_code, 3, none) (438, 8, 437, 0) = true := by decide +kernel
set_option maxRecDepth 20000 in
theorem za_111 : zc_all zk_ms2 zk_mh zk_Cs zk_nms ⟨"StubHouse$Library", "<init>", "(LStubHouse$Tree;)V"⟩ prog_4_method_1_code 3 none ztb_111 = true := by decide +kernel
set_option maxRecDepth 20000 in
theorem zm_112 : zc_meth (⟨"StubHouse$Reader", "<init>", "(LStubHouse$Library;LStubHouse$Changes;)V"⟩, prog_8_method_1_code, 3, none) (536, 11, 535, 0) = true := by decide +kernel
set_option maxRecDepth 20000 in
theorem za_112 : zc_all zk_ms2 zk_mh zk_Cs zk_nms ⟨"StubHouse$Reader", "<init>", "(LStubHouse$Library;LStubHouse$Changes;)V"⟩ prog_8_method_1_code 3 none ztb_112 = true := by decide +kernel
set_option maxRecDepth 20000 in
theorem zm_113 : zc_meth (⟨"StubHouse$Writer", "<init>", "(LStubHouse$Library;LStubHouse$Changes;LStubHouse$Reader;)V"⟩, prog_12_method_1_code, 4, none) (623, 12, 622, 0) = true := by decide +kernel
set_option maxRecDepth 20000 in
theorem za_113 : zc_all zk_ms2 zk_mh zk_Cs zk_nms ⟨"StubHouse$Writer", "<init>", "(LStubHouse$Library;LStubHouse$Changes;LStubHouse$Reader;)V"⟩ prog_12_method_1_code 4 none ztb_113 = true := by decide +kernel
set_option maxRecDepth 20000 in
theorem zm_114 : zc_meth (⟨"StubHouse$Migrator", "<init>", "(LStubHouse$Changes;LStubHouse$Writer;)V"⟩, prog_6_method_1_code, 3, none) (832, 13, 831, 0) = true := by decide +kernel
set_option maxRecDepth 20000 in
theorem za_114 : zc_all zk_ms2 zk_mh zk_Cs zk_nms ⟨"StubHouse$Migrator", "<init>", "(LStubHouse$Changes;LStubHouse$Writer;)V"⟩ prog_6_method_1_code 3 none ztb_114 = true := by decide +kernel
set_option maxRecDepth 20000 in
theorem zm_115 : zc_meth (⟨"StubHouse", "find", "(IJ)I"⟩, prog_1_method_3_code, 5, (some .int)) (981, 1, 979, 980) = true := by decide +kernel
set_option maxRecDepth 20000 in
theorem za_115 : zc_all zk_ms2 zk_mh zk_Cs zk_nms ⟨"StubHouse", "find", "(IJ)I"⟩ prog_1_method_3_code 5 (some .int) ztb_115 = true := by decide +kernel
set_option maxRecDepth 20000 in
theorem zm_116 : zc_meth (⟨"StubHouse", "remove", "(I)I"⟩, prog_1_method_4_code, 2, (some .int)) (985, 1, 983, 984) = true := by decide +kernel
set_option maxRecDepth 20000 in
theorem za_116 : zc_all zk_ms2 zk_mh zk_Cs zk_nms ⟨"StubHouse", "remove", "(I)I"⟩ prog_1_method_4_code 2 (some .int) ztb_116 = true := by decide +kernel
set_option maxRecDepth 20000 in
theorem zm_117 : zc_meth (⟨"StubHouse", "move", "(IIJ)I"⟩, prog_1_method_6_code, 6, (some .int)) (1261, 1, 1259, 1260) = true := by decide +kernel
set_option maxRecDepth 20000 in
theorem za_117 : zc_all zk_ms2 zk_mh zk_Cs zk_nms ⟨"StubHouse", "move", "(IIJ)I"⟩ prog_1_method_6_code 6 (some .int) ztb_117 = true := by decide +kernel
set_option maxRecDepth 20000 in
theorem zm_118 : zc_meth (⟨"StubHouse", "feed", "(IJ)I"⟩, prog_1_method_7_code, 5, (some .int)) (1280, 1, 1278, 1279) = true := by decide +kernel
set_option maxRecDepth 20000 in
theorem za_118 : zc_all zk_ms2 zk_mh zk_Cs zk_nms ⟨"StubHouse", "feed", "(IJ)I"⟩ prog_1_method_7_code 5 (some .int) ztb_118 = true := by decide +kernel
set_option maxRecDepth 20000 in
theorem zm_119 : zc_meth (⟨"StubHouse", "fill", "(II)I"⟩, prog_1_method_8_code, 4, (some .int)) (1284, 1, 1282, 1283) = true := by decide +kernel
set_option maxRecDepth 20000 in
theorem za_119 : zc_all zk_ms2 zk_mh zk_Cs zk_nms ⟨"StubHouse", "fill", "(II)I"⟩ prog_1_method_8_code 4 (some .int) ztb_119 = true := by decide +kernel
set_option maxRecDepth 20000 in
theorem zm_120 : zc_meth (⟨"StubHouse", "write", "(II)I"⟩, prog_1_method_9_code, 5, (some .int)) (1288, 1, 1286, 1287) = true := by decide +kernel
set_option maxRecDepth 20000 in
theorem za_120 : zc_all zk_ms2 zk_mh zk_Cs zk_nms ⟨"StubHouse", "write", "(II)I"⟩ prog_1_method_9_code 5 (some .int) ztb_120 = true := by decide +kernel
set_option maxRecDepth 20000 in
theorem zm_121 : zc_meth (⟨"StubHouse", "cut", "(II)I"⟩, prog_1_method_11_code, 5, (some .int)) (1349, 1, 1347, 1348) = true := by decide +kernel
set_option maxRecDepth 20000 in
theorem za_121 : zc_all zk_ms2 zk_mh zk_Cs zk_nms ⟨"StubHouse", "cut", "(II)I"⟩ prog_1_method_11_code 5 (some .int) ztb_121 = true := by decide +kernel
set_option maxRecDepth 20000 in
theorem zm_122 : zc_meth (⟨"StubHouse", "read", "(II)I"⟩, prog_1_method_12_code, 4, (some .int)) (1361, 1, 1359, 1360) = true := by decide +kernel
set_option maxRecDepth 20000 in
theorem za_122 : zc_all zk_ms2 zk_mh zk_Cs zk_nms ⟨"StubHouse", "read", "(II)I"⟩ prog_1_method_12_code 4 (some .int) ztb_122 = true := by decide +kernel
set_option maxRecDepth 20000 in
theorem zm_123 : zc_meth (⟨"StubHouse", "about", "(II)I"⟩, prog_1_method_13_code, 4, (some .int)) (1369, 1, 1367, 1368) = true := by decide +kernel
set_option maxRecDepth 20000 in
theorem za_123 : zc_all zk_ms2 zk_mh zk_Cs zk_nms ⟨"StubHouse", "about", "(II)I"⟩ prog_1_method_13_code 4 (some .int) ztb_123 = true := by decide +kernel
set_option maxRecDepth 20000 in
theorem zm_124 : zc_meth (⟨"StubHouse", "name", "(I)J"⟩, prog_1_method_16_code, 2, (some .long)) (1385, 1, 1383, 1384) = true := by decide +kernel
set_option maxRecDepth 20000 in
theorem za_124 : zc_all zk_ms2 zk_mh zk_Cs zk_nms ⟨"StubHouse", "name", "(I)J"⟩ prog_1_method_16_code 2 (some .long) ztb_124 = true := by decide +kernel
set_option maxRecDepth 20000 in
theorem zm_125 : zc_meth (⟨"StubHouse", "block", "(II)I"⟩, prog_1_method_17_code, 5, (some .int)) (1389, 1, 1387, 1388) = true := by decide +kernel
set_option maxRecDepth 20000 in
theorem za_125 : zc_all zk_ms2 zk_mh zk_Cs zk_nms ⟨"StubHouse", "block", "(II)I"⟩ prog_1_method_17_code 5 (some .int) ztb_125 = true := by decide +kernel
set_option maxRecDepth 20000 in
theorem zm_126 : zc_meth (⟨"StubHouse", "copy", "(III)I"⟩, prog_1_method_18_code, 5, (some .int)) (1394, 1, 1392, 1393) = true := by decide +kernel
set_option maxRecDepth 20000 in
theorem za_126 : zc_all zk_ms2 zk_mh zk_Cs zk_nms ⟨"StubHouse", "copy", "(III)I"⟩ prog_1_method_18_code 5 (some .int) ztb_126 = true := by decide +kernel
set_option maxRecDepth 20000 in
theorem zm_127 : zc_meth (⟨"StubHouse", "marks", "(III)I"⟩, prog_1_method_19_code, 6, (some .int)) (1398, 1, 1396, 1397) = true := by decide +kernel
set_option maxRecDepth 20000 in
theorem za_127 : zc_all zk_ms2 zk_mh zk_Cs zk_nms ⟨"StubHouse", "marks", "(III)I"⟩ prog_1_method_19_code 6 (some .int) ztb_127 = true := by decide +kernel
set_option maxRecDepth 20000 in
theorem zm_128 : zc_meth (⟨"StubHouse", "copies", "(I)I"⟩, prog_1_method_20_code, 3, (some .int)) (1402, 1, 1400, 1401) = true := by decide +kernel
set_option maxRecDepth 20000 in
theorem za_128 : zc_all zk_ms2 zk_mh zk_Cs zk_nms ⟨"StubHouse", "copies", "(I)I"⟩ prog_1_method_20_code 3 (some .int) ztb_128 = true := by decide +kernel
set_option maxRecDepth 20000 in
theorem zm_129 : zc_meth (⟨"StubHouse", "sync", "()I"⟩, prog_1_method_21_code, 1, (some .int)) (1406, 1, 1404, 1405) = true := by decide +kernel
set_option maxRecDepth 20000 in
theorem za_129 : zc_all zk_ms2 zk_mh zk_Cs zk_nms ⟨"StubHouse", "sync", "()I"⟩ prog_1_method_21_code 1 (some .int) ztb_129 = true := by decide +kernel
set_option maxRecDepth 20000 in
theorem zm_130 : zc_meth (⟨"StubHouse", "crash", "(I)I"⟩, prog_1_method_22_code, 3, (some .int)) (1411, 1, 1409, 1410) = true := by decide +kernel
set_option maxRecDepth 20000 in
theorem za_130 : zc_all zk_ms2 zk_mh zk_Cs zk_nms ⟨"StubHouse", "crash", "(I)I"⟩ prog_1_method_22_code 3 (some .int) ztb_130 = true := by decide +kernel
set_option maxRecDepth 20000 in
theorem zm_131 : zc_meth (⟨"StubHouse", "lose", "()I"⟩, prog_1_method_24_code, 2, (some .int)) (1628, 1, 1626, 1627) = true := by decide +kernel
set_option maxRecDepth 20000 in
theorem za_131 : zc_all zk_ms2 zk_mh zk_Cs zk_nms ⟨"StubHouse", "lose", "()I"⟩ prog_1_method_24_code 2 (some .int) ztb_131 = true := by decide +kernel
set_option maxRecDepth 20000 in
theorem zm_132 : zc_meth (⟨"StubHouse$Tree", "clear", "()V"⟩, prog_11_method_2_code, 2, none) (1636, 2, 1634, 1635) = true := by decide +kernel
set_option maxRecDepth 20000 in
theorem za_132 : zc_all zk_ms2 zk_mh zk_Cs zk_nms ⟨"StubHouse$Tree", "clear", "()V"⟩ prog_11_method_2_code 2 none ztb_132 = true := by decide +kernel
set_option maxRecDepth 20000 in
theorem zm_133 : zc_meth (⟨"StubHouse$Log", "clear", "()V"⟩, prog_5_method_2_code, 1, none) (1640, 6, 1638, 1639) = true := by decide +kernel
set_option maxRecDepth 20000 in
theorem za_133 : zc_all zk_ms2 zk_mh zk_Cs zk_nms ⟨"StubHouse$Log", "clear", "()V"⟩ prog_5_method_2_code 1 none ztb_133 = true := by decide +kernel
set_option maxRecDepth 20000 in
theorem zm_134 : zc_meth (⟨"StubHouse", "rebuild", "()I"⟩, prog_1_method_25_code, 1, (some .int)) (1645, 1, 1643, 1644) = true := by decide +kernel
set_option maxRecDepth 20000 in
theorem za_134 : zc_all zk_ms2 zk_mh zk_Cs zk_nms ⟨"StubHouse", "rebuild", "()I"⟩ prog_1_method_25_code 1 (some .int) ztb_134 = true := by decide +kernel
set_option maxRecDepth 20000 in
theorem zm_135 : zc_meth (⟨"StubHouse", "reclaim", "(I)I"⟩, prog_1_method_27_code, 2, (some .int)) (2228, 1, 2226, 2227) = true := by decide +kernel
set_option maxRecDepth 20000 in
theorem za_135 : zc_all zk_ms2 zk_mh zk_Cs zk_nms ⟨"StubHouse", "reclaim", "(I)I"⟩ prog_1_method_27_code 2 (some .int) ztb_135 = true := by decide +kernel
set_option maxRecDepth 20000 in
theorem zm_136 : zc_meth (⟨"StubHouse", "drive", "(II)I"⟩, prog_1_method_28_code, 4, (some .int)) (2236, 1, 2234, 2235) = true := by decide +kernel
set_option maxRecDepth 20000 in
theorem za_136 : zc_all zk_ms2 zk_mh zk_Cs zk_nms ⟨"StubHouse", "drive", "(II)I"⟩ prog_1_method_28_code 4 (some .int) ztb_136 = true := by decide +kernel
set_option maxRecDepth 20000 in
theorem zm_137 : zc_meth (⟨"StubHouse", "told", "(I)I"⟩, prog_1_method_29_code, 2, (some .int)) (2400, 1, 2238, 2239) = true := by decide +kernel
set_option maxRecDepth 20000 in
theorem za_137 : zc_all zk_ms2 zk_mh zk_Cs zk_nms ⟨"StubHouse", "told", "(I)I"⟩ prog_1_method_29_code 2 (some .int) ztb_137 = true := by decide +kernel
set_option maxRecDepth 20000 in
theorem zm_138 : zc_meth (⟨"StubHouse", "tape", "(II)I"⟩, prog_1_method_31_code, 4, (some .int)) (2408, 1, 2406, 2407) = true := by decide +kernel
set_option maxRecDepth 20000 in
theorem za_138 : zc_all zk_ms2 zk_mh zk_Cs zk_nms ⟨"StubHouse", "tape", "(II)I"⟩ prog_1_method_31_code 4 (some .int) ztb_138 = true := by decide +kernel
set_option maxRecDepth 20000 in
theorem zm_139 : zc_meth (⟨"StubHouse", "byteOf", "(II)I"⟩, prog_1_method_32_code, 3, (some .int)) (2420, 1, 2418, 2419) = true := by decide +kernel
set_option maxRecDepth 20000 in
theorem za_139 : zc_all zk_ms2 zk_mh zk_Cs zk_nms ⟨"StubHouse", "byteOf", "(II)I"⟩ prog_1_method_32_code 3 (some .int) ztb_139 = true := by decide +kernel
set_option maxRecDepth 20000 in
theorem zm_140 : zc_meth (⟨"StubHouse", "spoil", "(III)I"⟩, prog_1_method_33_code, 4, (some .int)) (2429, 1, 2427, 2428) = true := by decide +kernel
set_option maxRecDepth 20000 in
theorem za_140 : zc_all zk_ms2 zk_mh zk_Cs zk_nms ⟨"StubHouse", "spoil", "(III)I"⟩ prog_1_method_33_code 4 (some .int) ztb_140 = true := by decide +kernel
set_option maxRecDepth 20000 in
theorem zm_141 : zc_meth (⟨"StubHouse", "segment", "(III)I"⟩, prog_1_method_34_code, 6, (some .int)) (2437, 1, 2435, 2436) = true := by decide +kernel
set_option maxRecDepth 20000 in
theorem za_141 : zc_all zk_ms2 zk_mh zk_Cs zk_nms ⟨"StubHouse", "segment", "(III)I"⟩ prog_1_method_34_code 6 (some .int) ztb_141 = true := by decide +kernel
set_option maxRecDepth 20000 in
theorem zm_142 : zc_meth (⟨"StubHouse", "view", "(II)I"⟩, prog_1_method_35_code, 5, (some .int)) (2446, 1, 2444, 2445) = true := by decide +kernel
set_option maxRecDepth 20000 in
theorem za_142 : zc_all zk_ms2 zk_mh zk_Cs zk_nms ⟨"StubHouse", "view", "(II)I"⟩ prog_1_method_35_code 5 (some .int) ztb_142 = true := by decide +kernel
set_option maxRecDepth 20000 in
theorem zm_143 : zc_meth (⟨"StubHouseModel", "<init>", "()V"⟩, prog_14_method_3_code, 1, none) (2451, 14, 2450, 0) = true := by decide +kernel
set_option maxRecDepth 20000 in
theorem za_143 : zc_all zk_ms2 zk_mh zk_Cs zk_nms ⟨"StubHouseModel", "<init>", "()V"⟩ prog_14_method_3_code 1 none ztb_143 = true := by decide +kernel
set_option maxRecDepth 20000 in
theorem zm_144 : zc_meth (⟨"StubHouseModel", "sync", "()I"⟩, prog_14_method_47_code, 1, (some .int)) (3027, 14, 3025, 3026) = true := by decide +kernel
set_option maxRecDepth 20000 in
theorem za_144 : zc_all zk_ms2 zk_mh zk_Cs zk_nms ⟨"StubHouseModel", "sync", "()I"⟩ prog_14_method_47_code 1 (some .int) ztb_144 = true := by decide +kernel
set_option maxRecDepth 20000 in
theorem zm_145 : zc_meth (⟨"StubHouseModel", "lose", "()I"⟩, prog_14_method_51_code, 2, (some .int)) (3039, 14, 3037, 3038) = true := by decide +kernel
set_option maxRecDepth 20000 in
theorem za_145 : zc_all zk_ms2 zk_mh zk_Cs zk_nms ⟨"StubHouseModel", "lose", "()I"⟩ prog_14_method_51_code 2 (some .int) ztb_145 = true := by decide +kernel
set_option maxRecDepth 20000 in
theorem zm_146 : zc_meth (⟨"StubHouseModel", "files", "()I"⟩, prog_14_method_50_code, 3, (some .int)) (3203, 14, 3202, 6009) = true := by decide +kernel
set_option maxRecDepth 20000 in
theorem za_146 : zc_all zk_ms2 zk_mh zk_Cs zk_nms ⟨"StubHouseModel", "files", "()I"⟩ prog_14_method_50_code 3 (some .int) ztb_146 = true := by decide +kernel
set_option maxRecDepth 20000 in
theorem zm_147 : zc_meth (⟨"StubHouseModel", "rebuild", "()I"⟩, prog_14_method_77_code, 3, (some .int)) (3260, 14, 3258, 3259) = true := by decide +kernel
set_option maxRecDepth 20000 in
theorem za_147 : zc_all zk_ms2 zk_mh zk_Cs zk_nms ⟨"StubHouseModel", "rebuild", "()I"⟩ prog_14_method_77_code 3 (some .int) ztb_147 = true := by decide +kernel
set_option maxRecDepth 20000 in
theorem zm_148 : zc_meth (⟨"StubHouseModel", "heldBlocks", "()I"⟩, prog_14_method_118_code, 3, (some .int)) (3427, 14, 3426, 7206) = true := by decide +kernel
set_option maxRecDepth 20000 in
theorem za_148 : zc_all zk_ms2 zk_mh zk_Cs zk_nms ⟨"StubHouseModel", "heldBlocks", "()I"⟩ prog_14_method_118_code 3 (some .int) ztb_148 = true := by decide +kernel
set_option maxRecDepth 20000 in
theorem zm_149 : zc_meth (⟨"StubHouseModel", "nodes", "()I"⟩, prog_14_method_119_code, 3, (some .int)) (3431, 14, 3430, 7207) = true := by decide +kernel
set_option maxRecDepth 20000 in
theorem za_149 : zc_all zk_ms2 zk_mh zk_Cs zk_nms ⟨"StubHouseModel", "nodes", "()I"⟩ prog_14_method_119_code 3 (some .int) ztb_149 = true := by decide +kernel
