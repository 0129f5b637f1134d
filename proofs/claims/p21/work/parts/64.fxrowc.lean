/-! the rows of the tables, checked -/
set_option maxRecDepth 20000 in
theorem fxm_106 : zc_meth (⟨"StubHouseModel", "give", "(II)I"⟩, prog_14_method_33_code, 4, (some .int)) (2973, 14, 2972, 6003) = true := by decide +kernel
set_option maxRecDepth 20000 in
theorem fxa_106 : zc_all fx_ms2 fx_mh fx_Cs fx_nms ⟨"StubHouseModel", "give", "(II)I"⟩ prog_14_method_33_code 4 (some .int) fxt_106 = true := by decide +kernel
set_option maxRecDepth 20000 in
theorem fxb_106 : fx_all90 ⟨"StubHouseModel", "give", "(II)I"⟩ prog_14_method_33_code fxt_106 = true := by decide +kernel
set_option maxRecDepth 20000 in
theorem fxm_107 : zc_meth (⟨"StubHouseModel", "renew", "(II)V"⟩, prog_14_method_34_code, 6, none) (2969, 14, 2968, 6002) = true := by decide +kernel
set_option maxRecDepth 20000 in
theorem fxa_107 : zc_all fx_ms2 fx_mh fx_Cs fx_nms ⟨"StubHouseModel", "renew", "(II)V"⟩ prog_14_method_34_code 6 none fxt_107 = true := by decide +kernel
set_option maxRecDepth 20000 in
theorem fxb_107 : fx_all90 ⟨"StubHouseModel", "renew", "(II)V"⟩ prog_14_method_34_code fxt_107 = true := by decide +kernel
set_option maxRecDepth 20000 in
theorem fxm_108 : zc_meth (⟨"StubHouseModel", "changed", "(I)V"⟩, prog_14_method_36_code, 3, none) (2977, 14, 2976, 6004) = true := by decide +kernel
set_option maxRecDepth 20000 in
theorem fxa_108 : zc_all fx_ms2 fx_mh fx_Cs fx_nms ⟨"StubHouseModel", "changed", "(I)V"⟩ prog_14_method_36_code 3 none fxt_108 = true := by decide +kernel
set_option maxRecDepth 20000 in
theorem fxb_108 : fx_all90 ⟨"StubHouseModel", "changed", "(I)V"⟩ prog_14_method_36_code fxt_108 = true := by decide +kernel
set_option maxRecDepth 20000 in
theorem fxm_109 : zc_meth (⟨"StubHouseModel", "blocks", "(I)I"⟩, prog_14_method_18_code, 2, (some .int)) (2981, 14, 2980, 6005) = true := by decide +kernel
set_option maxRecDepth 20000 in
theorem fxa_109 : zc_all fx_ms2 fx_mh fx_Cs fx_nms ⟨"StubHouseModel", "blocks", "(I)I"⟩ prog_14_method_18_code 2 (some .int) fxt_109 = true := by decide +kernel
set_option maxRecDepth 20000 in
theorem fxb_109 : fx_all90 ⟨"StubHouseModel", "blocks", "(I)I"⟩ prog_14_method_18_code fxt_109 = true := by decide +kernel
set_option maxRecDepth 20000 in
theorem fxm_110 : zc_meth (⟨"StubHouseModel", "write", "(II)I"⟩, prog_14_method_37_code, 8, (some .int)) (2953, 14, 2951, 2952) = true := by decide +kernel
set_option maxRecDepth 20000 in
theorem fxa_110 : zc_all fx_ms2 fx_mh fx_Cs fx_nms ⟨"StubHouseModel", "write", "(II)I"⟩ prog_14_method_37_code 8 (some .int) fxt_110 = true := by decide +kernel
set_option maxRecDepth 20000 in
theorem fxb_110 : fx_all90 ⟨"StubHouseModel", "write", "(II)I"⟩ prog_14_method_37_code fxt_110 = true := by decide +kernel
set_option maxRecDepth 20000 in
theorem fxm_111 : zc_meth (⟨"StubHouse$Node", "blocks", "()I"⟩, prog_7_method_4_code, 1, (some .int)) (1357, 3, 1355, 1356) = true := by decide +kernel
set_option maxRecDepth 20000 in
theorem fxa_111 : zc_all fx_ms2 fx_mh fx_Cs fx_nms ⟨"StubHouse$Node", "blocks", "()I"⟩ prog_7_method_4_code 1 (some .int) fxt_111 = true := by decide +kernel
set_option maxRecDepth 20000 in
theorem fxb_111 : fx_all90 ⟨"StubHouse$Node", "blocks", "()I"⟩ prog_7_method_4_code fxt_111 = true := by decide +kernel
set_option maxRecDepth 20000 in
theorem fxm_112 : zc_meth (⟨"StubHouse$Changes", "shorten", "(II)V"⟩, prog_2_method_6_code, 5, none) (1353, 7, 1351, 1352) = true := by decide +kernel
set_option maxRecDepth 20000 in
theorem fxa_112 : zc_all fx_ms2 fx_mh fx_Cs fx_nms ⟨"StubHouse$Changes", "shorten", "(II)V"⟩ prog_2_method_6_code 5 none fxt_112 = true := by decide +kernel
set_option maxRecDepth 20000 in
theorem fxb_112 : fx_all90 ⟨"StubHouse$Changes", "shorten", "(II)V"⟩ prog_2_method_6_code fxt_112 = true := by decide +kernel
set_option maxRecDepth 20000 in
theorem fxm_113 : zc_meth (⟨"StubHouse", "cut", "(II)I"⟩, prog_1_method_11_code, 5, (some .int)) (1349, 1, 1347, 1348) = true := by decide +kernel
set_option maxRecDepth 20000 in
theorem fxa_113 : zc_all fx_ms2 fx_mh fx_Cs fx_nms ⟨"StubHouse", "cut", "(II)I"⟩ prog_1_method_11_code 5 (some .int) fxt_113 = true := by decide +kernel
set_option maxRecDepth 20000 in
theorem fxb_113 : fx_all90 ⟨"StubHouse", "cut", "(II)I"⟩ prog_1_method_11_code fxt_113 = true := by decide +kernel
set_option maxRecDepth 20000 in
theorem fxm_114 : zc_meth (⟨"StubHouseModel", "cut", "(II)I"⟩, prog_14_method_38_code, 7, (some .int)) (2985, 14, 2983, 2984) = true := by decide +kernel
set_option maxRecDepth 20000 in
theorem fxa_114 : zc_all fx_ms2 fx_mh fx_Cs fx_nms ⟨"StubHouseModel", "cut", "(II)I"⟩ prog_14_method_38_code 7 (some .int) fxt_114 = true := by decide +kernel
set_option maxRecDepth 20000 in
theorem fxb_114 : fx_all90 ⟨"StubHouseModel", "cut", "(II)I"⟩ prog_14_method_38_code fxt_114 = true := by decide +kernel
set_option maxRecDepth 20000 in
theorem fxm_115 : zc_meth (⟨"StubHouse$Stores", "byteAt", "(II)I"⟩, prog_9_method_10_code, 3, (some .int)) (1365, 5, 1363, 1364) = true := by decide +kernel
set_option maxRecDepth 20000 in
theorem fxa_115 : zc_all fx_ms2 fx_mh fx_Cs fx_nms ⟨"StubHouse$Stores", "byteAt", "(II)I"⟩ prog_9_method_10_code 3 (some .int) fxt_115 = true := by decide +kernel
set_option maxRecDepth 20000 in
theorem fxb_115 : fx_all90 ⟨"StubHouse$Stores", "byteAt", "(II)I"⟩ prog_9_method_10_code fxt_115 = true := by decide +kernel
set_option maxRecDepth 20000 in
theorem fxm_116 : zc_meth (⟨"StubHouse", "read", "(II)I"⟩, prog_1_method_12_code, 4, (some .int)) (1361, 1, 1359, 1360) = true := by decide +kernel
set_option maxRecDepth 20000 in
theorem fxa_116 : zc_all fx_ms2 fx_mh fx_Cs fx_nms ⟨"StubHouse", "read", "(II)I"⟩ prog_1_method_12_code 4 (some .int) fxt_116 = true := by decide +kernel
set_option maxRecDepth 20000 in
theorem fxb_116 : fx_all90 ⟨"StubHouse", "read", "(II)I"⟩ prog_1_method_12_code fxt_116 = true := by decide +kernel
set_option maxRecDepth 20000 in
theorem fxm_117 : zc_meth (⟨"StubHouseModel", "read", "(II)I"⟩, prog_14_method_39_code, 4, (some .int)) (2989, 14, 2987, 2988) = true := by decide +kernel
set_option maxRecDepth 20000 in
theorem fxa_117 : zc_all fx_ms2 fx_mh fx_Cs fx_nms ⟨"StubHouseModel", "read", "(II)I"⟩ prog_14_method_39_code 4 (some .int) fxt_117 = true := by decide +kernel
set_option maxRecDepth 20000 in
theorem fxb_117 : fx_all90 ⟨"StubHouseModel", "read", "(II)I"⟩ prog_14_method_39_code fxt_117 = true := by decide +kernel
set_option maxRecDepth 20000 in
theorem fxm_118 : zc_meth (⟨"StubHouse$Tree", "hasItsCopies", "(LStubHouse$Node;)Z"⟩, prog_11_method_14_code, 2, (some .boolean)) (1381, 2, 1379, 1380) = true := by decide +kernel
set_option maxRecDepth 20000 in
theorem fxa_118 : zc_all fx_ms2 fx_mh fx_Cs fx_nms ⟨"StubHouse$Tree", "hasItsCopies", "(LStubHouse$Node;)Z"⟩ prog_11_method_14_code 2 (some .boolean) fxt_118 = true := by decide +kernel
set_option maxRecDepth 20000 in
theorem fxb_118 : fx_all90 ⟨"StubHouse$Tree", "hasItsCopies", "(LStubHouse$Node;)Z"⟩ prog_11_method_14_code fxt_118 = true := by decide +kernel
set_option maxRecDepth 20000 in
theorem fxm_119 : zc_meth (⟨"StubHouse", "howItIs", "(LStubHouse$Node;)I"⟩, prog_1_method_15_code, 2, (some .int)) (1377, 1, 1376, 4000) = true := by decide +kernel
set_option maxRecDepth 20000 in
theorem fxa_119 : zc_all fx_ms2 fx_mh fx_Cs fx_nms ⟨"StubHouse", "howItIs", "(LStubHouse$Node;)I"⟩ prog_1_method_15_code 2 (some .int) fxt_119 = true := by decide +kernel
set_option maxRecDepth 20000 in
theorem fxb_119 : fx_all90 ⟨"StubHouse", "howItIs", "(LStubHouse$Node;)I"⟩ prog_1_method_15_code fxt_119 = true := by decide +kernel
set_option maxRecDepth 20000 in
theorem fxm_120 : zc_meth (⟨"StubHouse", "aboutFile", "(LStubHouse$Node;I)I"⟩, prog_1_method_14_code, 3, (some .int)) (1373, 1, 1372, 3615) = true := by decide +kernel
set_option maxRecDepth 20000 in
theorem fxa_120 : zc_all fx_ms2 fx_mh fx_Cs fx_nms ⟨"StubHouse", "aboutFile", "(LStubHouse$Node;I)I"⟩ prog_1_method_14_code 3 (some .int) fxt_120 = true := by decide +kernel
set_option maxRecDepth 20000 in
theorem fxb_120 : fx_all90 ⟨"StubHouse", "aboutFile", "(LStubHouse$Node;I)I"⟩ prog_1_method_14_code fxt_120 = true := by decide +kernel
set_option maxRecDepth 20000 in
theorem fxm_121 : zc_meth (⟨"StubHouse", "about", "(II)I"⟩, prog_1_method_13_code, 4, (some .int)) (1369, 1, 1367, 1368) = true := by decide +kernel
set_option maxRecDepth 20000 in
theorem fxa_121 : zc_all fx_ms2 fx_mh fx_Cs fx_nms ⟨"StubHouse", "about", "(II)I"⟩ prog_1_method_13_code 4 (some .int) fxt_121 = true := by decide +kernel
set_option maxRecDepth 20000 in
theorem fxb_121 : fx_all90 ⟨"StubHouse", "about", "(II)I"⟩ prog_1_method_13_code fxt_121 = true := by decide +kernel
set_option maxRecDepth 20000 in
theorem fxm_122 : zc_meth (⟨"StubHouseModel", "inStore", "(II)I"⟩, prog_14_method_40_code, 6, (some .int)) (2998, 14, 2997, 6006) = true := by decide +kernel
set_option maxRecDepth 20000 in
theorem fxa_122 : zc_all fx_ms2 fx_mh fx_Cs fx_nms ⟨"StubHouseModel", "inStore", "(II)I"⟩ prog_14_method_40_code 6 (some .int) fxt_122 = true := by decide +kernel
set_option maxRecDepth 20000 in
theorem fxb_122 : fx_all90 ⟨"StubHouseModel", "inStore", "(II)I"⟩ prog_14_method_40_code fxt_122 = true := by decide +kernel
set_option maxRecDepth 20000 in
theorem fxm_123 : zc_meth (⟨"StubHouseModel", "hasCopies", "(I)Z"⟩, prog_14_method_20_code, 2, (some .boolean)) (3002, 14, 3001, 6007) = true := by decide +kernel
set_option maxRecDepth 20000 in
theorem fxa_123 : zc_all fx_ms2 fx_mh fx_Cs fx_nms ⟨"StubHouseModel", "hasCopies", "(I)Z"⟩ prog_14_method_20_code 2 (some .boolean) fxt_123 = true := by decide +kernel
set_option maxRecDepth 20000 in
theorem fxb_123 : fx_all90 ⟨"StubHouseModel", "hasCopies", "(I)Z"⟩ prog_14_method_20_code fxt_123 = true := by decide +kernel
set_option maxRecDepth 20000 in
theorem fxm_124 : zc_meth (⟨"StubHouseModel", "about", "(II)I"⟩, prog_14_method_41_code, 4, (some .int)) (2993, 14, 2991, 2992) = true := by decide +kernel
set_option maxRecDepth 20000 in
theorem fxa_124 : zc_all fx_ms2 fx_mh fx_Cs fx_nms ⟨"StubHouseModel", "about", "(II)I"⟩ prog_14_method_41_code 4 (some .int) fxt_124 = true := by decide +kernel
set_option maxRecDepth 20000 in
theorem fxb_124 : fx_all90 ⟨"StubHouseModel", "about", "(II)I"⟩ prog_14_method_41_code fxt_124 = true := by decide +kernel
set_option maxRecDepth 20000 in
theorem fxm_125 : zc_meth (⟨"StubHouse", "name", "(I)J"⟩, prog_1_method_16_code, 2, (some .long)) (1385, 1, 1383, 1384) = true := by decide +kernel
set_option maxRecDepth 20000 in
theorem fxa_125 : zc_all fx_ms2 fx_mh fx_Cs fx_nms ⟨"StubHouse", "name", "(I)J"⟩ prog_1_method_16_code 2 (some .long) fxt_125 = true := by decide +kernel
set_option maxRecDepth 20000 in
theorem fxb_125 : fx_all90 ⟨"StubHouse", "name", "(I)J"⟩ prog_1_method_16_code fxt_125 = true := by decide +kernel
set_option maxRecDepth 20000 in
theorem fxm_126 : zc_meth (⟨"StubHouseModel", "name", "(I)J"⟩, prog_14_method_42_code, 2, (some .long)) (3006, 14, 3004, 3005) = true := by decide +kernel
set_option maxRecDepth 20000 in
theorem fxa_126 : zc_all fx_ms2 fx_mh fx_Cs fx_nms ⟨"StubHouseModel", "name", "(I)J"⟩ prog_14_method_42_code 2 (some .long) fxt_126 = true := by decide +kernel
set_option maxRecDepth 20000 in
theorem fxb_126 : fx_all90 ⟨"StubHouseModel", "name", "(I)J"⟩ prog_14_method_42_code fxt_126 = true := by decide +kernel
set_option maxRecDepth 20000 in
theorem fxm_127 : zc_meth (⟨"StubHouse", "block", "(II)I"⟩, prog_1_method_17_code, 5, (some .int)) (1389, 1, 1387, 1388) = true := by decide +kernel
set_option maxRecDepth 20000 in
theorem fxa_127 : zc_all fx_ms2 fx_mh fx_Cs fx_nms ⟨"StubHouse", "block", "(II)I"⟩ prog_1_method_17_code 5 (some .int) fxt_127 = true := by decide +kernel
set_option maxRecDepth 20000 in
theorem fxb_127 : fx_all90 ⟨"StubHouse", "block", "(II)I"⟩ prog_1_method_17_code fxt_127 = true := by decide +kernel
set_option maxRecDepth 20000 in
theorem fxm_128 : zc_meth (⟨"StubHouseModel", "block", "(II)I"⟩, prog_14_method_43_code, 4, (some .int)) (3010, 14, 3008, 3009) = true := by decide +kernel
set_option maxRecDepth 20000 in
theorem fxa_128 : zc_all fx_ms2 fx_mh fx_Cs fx_nms ⟨"StubHouseModel", "block", "(II)I"⟩ prog_14_method_43_code 4 (some .int) fxt_128 = true := by decide +kernel
set_option maxRecDepth 20000 in
theorem fxb_128 : fx_all90 ⟨"StubHouseModel", "block", "(II)I"⟩ prog_14_method_43_code fxt_128 = true := by decide +kernel
set_option maxRecDepth 20000 in
theorem fxm_129 : zc_meth (⟨"StubHouse", "copy", "(III)I"⟩, prog_1_method_18_code, 5, (some .int)) (1394, 1, 1392, 1393) = true := by decide +kernel
set_option maxRecDepth 20000 in
theorem fxa_129 : zc_all fx_ms2 fx_mh fx_Cs fx_nms ⟨"StubHouse", "copy", "(III)I"⟩ prog_1_method_18_code 5 (some .int) fxt_129 = true := by decide +kernel
set_option maxRecDepth 20000 in
theorem fxb_129 : fx_all90 ⟨"StubHouse", "copy", "(III)I"⟩ prog_1_method_18_code fxt_129 = true := by decide +kernel
set_option maxRecDepth 20000 in
theorem fxm_130 : zc_meth (⟨"StubHouseModel", "copy", "(III)I"⟩, prog_14_method_44_code, 4, (some .int)) (3014, 14, 3012, 3013) = true := by decide +kernel
set_option maxRecDepth 20000 in
theorem fxa_130 : zc_all fx_ms2 fx_mh fx_Cs fx_nms ⟨"StubHouseModel", "copy", "(III)I"⟩ prog_14_method_44_code 4 (some .int) fxt_130 = true := by decide +kernel
set_option maxRecDepth 20000 in
theorem fxb_130 : fx_all90 ⟨"StubHouseModel", "copy", "(III)I"⟩ prog_14_method_44_code fxt_130 = true := by decide +kernel
set_option maxRecDepth 20000 in
theorem fxm_131 : zc_meth (⟨"StubHouse", "marks", "(III)I"⟩, prog_1_method_19_code, 6, (some .int)) (1398, 1, 1396, 1397) = true := by decide +kernel
set_option maxRecDepth 20000 in
theorem fxa_131 : zc_all fx_ms2 fx_mh fx_Cs fx_nms ⟨"StubHouse", "marks", "(III)I"⟩ prog_1_method_19_code 6 (some .int) fxt_131 = true := by decide +kernel
set_option maxRecDepth 20000 in
theorem fxb_131 : fx_all90 ⟨"StubHouse", "marks", "(III)I"⟩ prog_1_method_19_code fxt_131 = true := by decide +kernel
set_option maxRecDepth 20000 in
theorem fxm_132 : zc_meth (⟨"StubHouseModel", "marks", "(III)I"⟩, prog_14_method_45_code, 5, (some .int)) (3018, 14, 3016, 3017) = true := by decide +kernel
set_option maxRecDepth 20000 in
theorem fxa_132 : zc_all fx_ms2 fx_mh fx_Cs fx_nms ⟨"StubHouseModel", "marks", "(III)I"⟩ prog_14_method_45_code 5 (some .int) fxt_132 = true := by decide +kernel
set_option maxRecDepth 20000 in
theorem fxb_132 : fx_all90 ⟨"StubHouseModel", "marks", "(III)I"⟩ prog_14_method_45_code fxt_132 = true := by decide +kernel
set_option maxRecDepth 20000 in
theorem fxm_133 : zc_meth (⟨"StubHouse", "copies", "(I)I"⟩, prog_1_method_20_code, 3, (some .int)) (1402, 1, 1400, 1401) = true := by decide +kernel
set_option maxRecDepth 20000 in
theorem fxa_133 : zc_all fx_ms2 fx_mh fx_Cs fx_nms ⟨"StubHouse", "copies", "(I)I"⟩ prog_1_method_20_code 3 (some .int) fxt_133 = true := by decide +kernel
set_option maxRecDepth 20000 in
theorem fxb_133 : fx_all90 ⟨"StubHouse", "copies", "(I)I"⟩ prog_1_method_20_code fxt_133 = true := by decide +kernel
set_option maxRecDepth 20000 in
theorem fxm_134 : zc_meth (⟨"StubHouseModel", "copies", "(I)I"⟩, prog_14_method_46_code, 3, (some .int)) (3023, 14, 3021, 3022) = true := by decide +kernel
set_option maxRecDepth 20000 in
theorem fxa_134 : zc_all fx_ms2 fx_mh fx_Cs fx_nms ⟨"StubHouseModel", "copies", "(I)I"⟩ prog_14_method_46_code 3 (some .int) fxt_134 = true := by decide +kernel
set_option maxRecDepth 20000 in
theorem fxb_134 : fx_all90 ⟨"StubHouseModel", "copies", "(I)I"⟩ prog_14_method_46_code fxt_134 = true := by decide +kernel
set_option maxRecDepth 20000 in
theorem fxm_135 : zc_meth (⟨"StubHouse", "sync", "()I"⟩, prog_1_method_21_code, 1, (some .int)) (1406, 1, 1404, 1405) = true := by decide +kernel
set_option maxRecDepth 20000 in
theorem fxa_135 : zc_all fx_ms2 fx_mh fx_Cs fx_nms ⟨"StubHouse", "sync", "()I"⟩ prog_1_method_21_code 1 (some .int) fxt_135 = true := by decide +kernel
set_option maxRecDepth 20000 in
theorem fxb_135 : fx_all90 ⟨"StubHouse", "sync", "()I"⟩ prog_1_method_21_code fxt_135 = true := by decide +kernel
set_option maxRecDepth 20000 in
theorem fxm_136 : zc_meth (⟨"StubHouseModel", "sync", "()I"⟩, prog_14_method_47_code, 1, (some .int)) (3027, 14, 3025, 3026) = true := by decide +kernel
set_option maxRecDepth 20000 in
theorem fxa_136 : zc_all fx_ms2 fx_mh fx_Cs fx_nms ⟨"StubHouseModel", "sync", "()I"⟩ prog_14_method_47_code 1 (some .int) fxt_136 = true := by decide +kernel
set_option maxRecDepth 20000 in
theorem fxb_136 : fx_all90 ⟨"StubHouseModel", "sync", "()I"⟩ prog_14_method_47_code fxt_136 = true := by decide +kernel
set_option maxRecDepth 20000 in
theorem fxm_137 : zc_meth (⟨"StubHouse$Log", "undo", "(I)V"⟩, prog_5_method_10_code, 2, none) (1419, 6, 1418, 4001) = true := by decide +kernel
set_option maxRecDepth 20000 in
theorem fxa_137 : zc_all fx_ms2 fx_mh fx_Cs fx_nms ⟨"StubHouse$Log", "undo", "(I)V"⟩ prog_5_method_10_code 2 none fxt_137 = true := by decide +kernel
set_option maxRecDepth 20000 in
theorem fxb_137 : fx_all90 ⟨"StubHouse$Log", "undo", "(I)V"⟩ prog_5_method_10_code fxt_137 = true := by decide +kernel
set_option maxRecDepth 20000 in
theorem fxm_138 : zc_meth (⟨"StubHouse$Stores", "freeAll", "()V"⟩, prog_9_method_9_code, 1, none) (1427, 5, 1425, 1426) = true := by decide +kernel
set_option maxRecDepth 20000 in
theorem fxa_138 : zc_all fx_ms2 fx_mh fx_Cs fx_nms ⟨"StubHouse$Stores", "freeAll", "()V"⟩ prog_9_method_9_code 1 none fxt_138 = true := by decide +kernel
set_option maxRecDepth 20000 in
theorem fxb_138 : fx_all90 ⟨"StubHouse$Stores", "freeAll", "()V"⟩ prog_9_method_9_code fxt_138 = true := by decide +kernel
set_option maxRecDepth 20000 in
theorem fxm_139 : zc_meth (⟨"StubHouse$Log", "claimHomes", "()V"⟩, prog_5_method_11_code, 3, none) (1423, 6, 1422, 4002) = true := by decide +kernel
set_option maxRecDepth 20000 in
theorem fxa_139 : zc_all fx_ms2 fx_mh fx_Cs fx_nms ⟨"StubHouse$Log", "claimHomes", "()V"⟩ prog_5_method_11_code 3 none fxt_139 = true := by decide +kernel
set_option maxRecDepth 20000 in
theorem fxb_139 : fx_all90 ⟨"StubHouse$Log", "claimHomes", "()V"⟩ prog_5_method_11_code fxt_139 = true := by decide +kernel
set_option maxRecDepth 20000 in
theorem fxm_140 : zc_meth (⟨"StubHouse$Tree", "touchAll", "()V"⟩, prog_11_method_17_code, 2, none) (1433, 2, 1431, 1432) = true := by decide +kernel
set_option maxRecDepth 20000 in
theorem fxa_140 : zc_all fx_ms2 fx_mh fx_Cs fx_nms ⟨"StubHouse$Tree", "touchAll", "()V"⟩ prog_11_method_17_code 2 none fxt_140 = true := by decide +kernel
set_option maxRecDepth 20000 in
theorem fxb_140 : fx_all90 ⟨"StubHouse$Tree", "touchAll", "()V"⟩ prog_11_method_17_code fxt_140 = true := by decide +kernel
set_option maxRecDepth 20000 in
theorem fxm_141 : zc_meth (⟨"StubHouse$Log", "undoBehind", "(I)I"⟩, prog_5_method_9_code, 5, (some .int)) (1415, 6, 1413, 1414) = true := by decide +kernel
set_option maxRecDepth 20000 in
theorem fxa_141 : zc_all fx_ms2 fx_mh fx_Cs fx_nms ⟨"StubHouse$Log", "undoBehind", "(I)I"⟩ prog_5_method_9_code 5 (some .int) fxt_141 = true := by decide +kernel
set_option maxRecDepth 20000 in
theorem fxb_141 : fx_all90 ⟨"StubHouse$Log", "undoBehind", "(I)I"⟩ prog_5_method_9_code fxt_141 = true := by decide +kernel
set_option maxRecDepth 20000 in
theorem fxm_142 : zc_meth (⟨"StubHouse$Drive", "begin", "(III)V"⟩, prog_3_method_6_code, 4, none) (1613, 10, 1609, 0) = true := by decide +kernel
set_option maxRecDepth 20000 in
theorem fxa_142 : zc_all fx_ms2 fx_mh fx_Cs fx_nms ⟨"StubHouse$Drive", "begin", "(III)V"⟩ prog_3_method_6_code 4 none fxt_142 = true := by decide +kernel
set_option maxRecDepth 20000 in
theorem fxb_142 : fx_all90 ⟨"StubHouse$Drive", "begin", "(III)V"⟩ prog_3_method_6_code fxt_142 = true := by decide +kernel
set_option maxRecDepth 20000 in
theorem fxm_143 : zc_meth (⟨"StubHouse$Drive", "takeOff", "()V"⟩, prog_3_method_8_code, 1, none) (1607, 10, 1606, 0) = true := by decide +kernel
set_option maxRecDepth 20000 in
theorem fxa_143 : zc_all fx_ms2 fx_mh fx_Cs fx_nms ⟨"StubHouse$Drive", "takeOff", "()V"⟩ prog_3_method_8_code 1 none fxt_143 = true := by decide +kernel
set_option maxRecDepth 20000 in
theorem fxb_143 : fx_all90 ⟨"StubHouse$Drive", "takeOff", "()V"⟩ prog_3_method_8_code fxt_143 = true := by decide +kernel
set_option maxRecDepth 20000 in
theorem fxm_144 : zc_meth (⟨"StubHouse$Reader", "stop", "()V"⟩, prog_8_method_2_code, 1, none) (1601, 11, 1439, 1600) = true := by decide +kernel
set_option maxRecDepth 20000 in
theorem fxa_144 : zc_all fx_ms2 fx_mh fx_Cs fx_nms ⟨"StubHouse$Reader", "stop", "()V"⟩ prog_8_method_2_code 1 none fxt_144 = true := by decide +kernel
set_option maxRecDepth 20000 in
theorem fxb_144 : fx_all90 ⟨"StubHouse$Reader", "stop", "()V"⟩ prog_8_method_2_code fxt_144 = true := by decide +kernel
set_option maxRecDepth 20000 in
theorem fxm_145 : zc_meth (⟨"StubHouse$Writer", "stop", "()V"⟩, prog_12_method_2_code, 1, none) (1617, 12, 1615, 1616) = true := by decide +kernel
set_option maxRecDepth 20000 in
theorem fxa_145 : zc_all fx_ms2 fx_mh fx_Cs fx_nms ⟨"StubHouse$Writer", "stop", "()V"⟩ prog_12_method_2_code 1 none fxt_145 = true := by decide +kernel
set_option maxRecDepth 20000 in
theorem fxb_145 : fx_all90 ⟨"StubHouse$Writer", "stop", "()V"⟩ prog_12_method_2_code fxt_145 = true := by decide +kernel
set_option maxRecDepth 20000 in
theorem fxm_146 : zc_meth (⟨"StubHouse$Migrator", "stop", "()V"⟩, prog_6_method_2_code, 1, none) (1624, 13, 1622, 1623) = true := by decide +kernel
set_option maxRecDepth 20000 in
theorem fxa_146 : zc_all fx_ms2 fx_mh fx_Cs fx_nms ⟨"StubHouse$Migrator", "stop", "()V"⟩ prog_6_method_2_code 1 none fxt_146 = true := by decide +kernel
set_option maxRecDepth 20000 in
theorem fxb_146 : fx_all90 ⟨"StubHouse$Migrator", "stop", "()V"⟩ prog_6_method_2_code fxt_146 = true := by decide +kernel
set_option maxRecDepth 20000 in
theorem fxm_147 : zc_meth (⟨"StubHouse", "stopAll", "()V"⟩, prog_1_method_23_code, 1, none) (1437, 1, 1436, 4003) = true := by decide +kernel
set_option maxRecDepth 20000 in
theorem fxa_147 : zc_all fx_ms2 fx_mh fx_Cs fx_nms ⟨"StubHouse", "stopAll", "()V"⟩ prog_1_method_23_code 1 none fxt_147 = true := by decide +kernel
set_option maxRecDepth 20000 in
theorem fxb_147 : fx_all90 ⟨"StubHouse", "stopAll", "()V"⟩ prog_1_method_23_code fxt_147 = true := by decide +kernel
set_option maxRecDepth 20000 in
theorem fxm_148 : zc_meth (⟨"StubHouse", "crash", "(I)I"⟩, prog_1_method_22_code, 3, (some .int)) (1411, 1, 1409, 1410) = true := by decide +kernel
set_option maxRecDepth 20000 in
theorem fxa_148 : zc_all fx_ms2 fx_mh fx_Cs fx_nms ⟨"StubHouse", "crash", "(I)I"⟩ prog_1_method_22_code 3 (some .int) fxt_148 = true := by decide +kernel
set_option maxRecDepth 20000 in
theorem fxb_148 : fx_all90 ⟨"StubHouse", "crash", "(I)I"⟩ prog_1_method_22_code fxt_148 = true := by decide +kernel
set_option maxRecDepth 20000 in
theorem fxm_149 : zc_meth (⟨"StubHouseModel", "stopAll", "()V"⟩, prog_14_method_48_code, 2, none) (3035, 14, 3034, 6008) = true := by decide +kernel
set_option maxRecDepth 20000 in
theorem fxa_149 : zc_all fx_ms2 fx_mh fx_Cs fx_nms ⟨"StubHouseModel", "stopAll", "()V"⟩ prog_14_method_48_code 2 none fxt_149 = true := by decide +kernel
set_option maxRecDepth 20000 in
theorem fxb_149 : fx_all90 ⟨"StubHouseModel", "stopAll", "()V"⟩ prog_14_method_48_code fxt_149 = true := by decide +kernel
set_option maxRecDepth 20000 in
theorem fxm_150 : zc_meth (⟨"StubHouseModel", "crash", "(I)I"⟩, prog_14_method_49_code, 6, (some .int)) (3031, 14, 3029, 3030) = true := by decide +kernel
set_option maxRecDepth 20000 in
theorem fxa_150 : zc_all fx_ms2 fx_mh fx_Cs fx_nms ⟨"StubHouseModel", "crash", "(I)I"⟩ prog_14_method_49_code 6 (some .int) fxt_150 = true := by decide +kernel
set_option maxRecDepth 20000 in
theorem fxb_150 : fx_all90 ⟨"StubHouseModel", "crash", "(I)I"⟩ prog_14_method_49_code fxt_150 = true := by decide +kernel
set_option maxRecDepth 20000 in
theorem fxm_151 : zc_meth (⟨"StubHouse$Tree", "count", "(I)I"⟩, prog_11_method_7_code, 4, (some .int)) (1632, 2, 1630, 1631) = true := by decide +kernel
set_option maxRecDepth 20000 in
theorem fxa_151 : zc_all fx_ms2 fx_mh fx_Cs fx_nms ⟨"StubHouse$Tree", "count", "(I)I"⟩ prog_11_method_7_code 4 (some .int) fxt_151 = true := by decide +kernel
set_option maxRecDepth 20000 in
theorem fxb_151 : fx_all90 ⟨"StubHouse$Tree", "count", "(I)I"⟩ prog_11_method_7_code fxt_151 = true := by decide +kernel
set_option maxRecDepth 20000 in
theorem fxm_152 : zc_meth (⟨"StubHouse$Tree", "clear", "()V"⟩, prog_11_method_2_code, 2, none) (1636, 2, 1634, 1635) = true := by decide +kernel
set_option maxRecDepth 20000 in
theorem fxa_152 : zc_all fx_ms2 fx_mh fx_Cs fx_nms ⟨"StubHouse$Tree", "clear", "()V"⟩ prog_11_method_2_code 2 none fxt_152 = true := by decide +kernel
set_option maxRecDepth 20000 in
theorem fxb_152 : fx_all90 ⟨"StubHouse$Tree", "clear", "()V"⟩ prog_11_method_2_code fxt_152 = true := by decide +kernel
set_option maxRecDepth 20000 in
theorem fxm_153 : zc_meth (⟨"StubHouse$Log", "clear", "()V"⟩, prog_5_method_2_code, 1, none) (1640, 6, 1638, 1639) = true := by decide +kernel
set_option maxRecDepth 20000 in
theorem fxa_153 : zc_all fx_ms2 fx_mh fx_Cs fx_nms ⟨"StubHouse$Log", "clear", "()V"⟩ prog_5_method_2_code 1 none fxt_153 = true := by decide +kernel
set_option maxRecDepth 20000 in
theorem fxb_153 : fx_all90 ⟨"StubHouse$Log", "clear", "()V"⟩ prog_5_method_2_code fxt_153 = true := by decide +kernel
set_option maxRecDepth 20000 in
theorem fxm_154 : zc_meth (⟨"StubHouse", "lose", "()I"⟩, prog_1_method_24_code, 2, (some .int)) (1628, 1, 1626, 1627) = true := by decide +kernel
set_option maxRecDepth 20000 in
theorem fxa_154 : zc_all fx_ms2 fx_mh fx_Cs fx_nms ⟨"StubHouse", "lose", "()I"⟩ prog_1_method_24_code 2 (some .int) fxt_154 = true := by decide +kernel
set_option maxRecDepth 20000 in
theorem fxb_154 : fx_all90 ⟨"StubHouse", "lose", "()I"⟩ prog_1_method_24_code fxt_154 = true := by decide +kernel
set_option maxRecDepth 20000 in
theorem fxm_155 : zc_meth (⟨"StubHouseModel", "files", "()I"⟩, prog_14_method_50_code, 3, (some .int)) (3203, 14, 3202, 6009) = true := by decide +kernel
set_option maxRecDepth 20000 in
theorem fxa_155 : zc_all fx_ms2 fx_mh fx_Cs fx_nms ⟨"StubHouseModel", "files", "()I"⟩ prog_14_method_50_code 3 (some .int) fxt_155 = true := by decide +kernel
set_option maxRecDepth 20000 in
theorem fxb_155 : fx_all90 ⟨"StubHouseModel", "files", "()I"⟩ prog_14_method_50_code fxt_155 = true := by decide +kernel
set_option maxRecDepth 20000 in
theorem fxm_156 : zc_meth (⟨"StubHouseModel", "empty", "()V"⟩, prog_14_method_4_code, 2, none) (2458, 14, 2457, 5203) = true := by decide +kernel
set_option maxRecDepth 20000 in
theorem fxa_156 : zc_all fx_ms2 fx_mh fx_Cs fx_nms ⟨"StubHouseModel", "empty", "()V"⟩ prog_14_method_4_code 2 none fxt_156 = true := by decide +kernel
set_option maxRecDepth 20000 in
theorem fxb_156 : fx_all90 ⟨"StubHouseModel", "empty", "()V"⟩ prog_14_method_4_code fxt_156 = true := by decide +kernel
set_option maxRecDepth 20000 in
theorem fxm_157 : zc_meth (⟨"StubHouseModel", "lose", "()I"⟩, prog_14_method_51_code, 2, (some .int)) (3039, 14, 3037, 3038) = true := by decide +kernel
set_option maxRecDepth 20000 in
theorem fxa_157 : zc_all fx_ms2 fx_mh fx_Cs fx_nms ⟨"StubHouseModel", "lose", "()I"⟩ prog_14_method_51_code 2 (some .int) fxt_157 = true := by decide +kernel
set_option maxRecDepth 20000 in
theorem fxb_157 : fx_all90 ⟨"StubHouseModel", "lose", "()I"⟩ prog_14_method_51_code fxt_157 = true := by decide +kernel
set_option maxRecDepth 20000 in
theorem fxm_158 : zc_meth (⟨"StubHouse$Library", "viewPlace", "(I)I"⟩, prog_4_method_16_code, 6, (some .int)) (1657, 8, 1656, 4005) = true := by decide +kernel
set_option maxRecDepth 20000 in
theorem fxa_158 : zc_all fx_ms2 fx_mh fx_Cs fx_nms ⟨"StubHouse$Library", "viewPlace", "(I)I"⟩ prog_4_method_16_code 6 (some .int) fxt_158 = true := by decide +kernel
set_option maxRecDepth 20000 in
theorem fxb_158 : fx_all90 ⟨"StubHouse$Library", "viewPlace", "(I)I"⟩ prog_4_method_16_code fxt_158 = true := by decide +kernel
