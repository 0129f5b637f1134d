/-! the rows of the tables, checked -/
set_option maxRecDepth 20000 in
theorem fxm_53 : zc_meth (⟨"StubHouse$Stores", "hold", "(I)V"⟩, prog_9_method_7_code, 2, none) (1237, 5, 1235, 1236) = true := by decide +kernel
set_option maxRecDepth 20000 in
theorem fxa_53 : zc_all fx_ms2 fx_mh fx_Cs fx_nms ⟨"StubHouse$Stores", "hold", "(I)V"⟩ prog_9_method_7_code 2 none fxt_53 = true := by decide +kernel
set_option maxRecDepth 20000 in
theorem fxb_53 : fx_all90 ⟨"StubHouse$Stores", "hold", "(I)V"⟩ prog_9_method_7_code fxt_53 = true := by decide +kernel
set_option maxRecDepth 20000 in
theorem fxm_54 : zc_meth (⟨"StubHouse$Node", "countHome", "(II)V"⟩, prog_7_method_7_code, 3, none) (1248, 3, 1247, 3609) = true := by decide +kernel
set_option maxRecDepth 20000 in
theorem fxa_54 : zc_all fx_ms2 fx_mh fx_Cs fx_nms ⟨"StubHouse$Node", "countHome", "(II)V"⟩ prog_7_method_7_code 3 none fxt_54 = true := by decide +kernel
set_option maxRecDepth 20000 in
theorem fxb_54 : fx_all90 ⟨"StubHouse$Node", "countHome", "(II)V"⟩ prog_7_method_7_code fxt_54 = true := by decide +kernel
set_option maxRecDepth 20000 in
theorem fxm_55 : zc_meth (⟨"StubHouse$Node", "setHome", "(II)V"⟩, prog_7_method_6_code, 3, none) (1244, 3, 1242, 1243) = true := by decide +kernel
set_option maxRecDepth 20000 in
theorem fxa_55 : zc_all fx_ms2 fx_mh fx_Cs fx_nms ⟨"StubHouse$Node", "setHome", "(II)V"⟩ prog_7_method_6_code 3 none fxt_55 = true := by decide +kernel
set_option maxRecDepth 20000 in
theorem fxb_55 : fx_all90 ⟨"StubHouse$Node", "setHome", "(II)V"⟩ prog_7_method_6_code fxt_55 = true := by decide +kernel
set_option maxRecDepth 20000 in
theorem fxm_56 : zc_meth (⟨"StubHouse$Changes", "holdFrom", "(LStubHouse$Node;I)V"⟩, prog_2_method_9_code, 4, none) (1233, 7, 1232, 3608) = true := by decide +kernel
set_option maxRecDepth 20000 in
theorem fxa_56 : zc_all fx_ms2 fx_mh fx_Cs fx_nms ⟨"StubHouse$Changes", "holdFrom", "(LStubHouse$Node;I)V"⟩ prog_2_method_9_code 4 none fxt_56 = true := by decide +kernel
set_option maxRecDepth 20000 in
theorem fxb_56 : fx_all90 ⟨"StubHouse$Changes", "holdFrom", "(LStubHouse$Node;I)V"⟩ prog_2_method_9_code fxt_56 = true := by decide +kernel
set_option maxRecDepth 20000 in
theorem fxm_57 : zc_meth (⟨"StubHouse$Changes", "recallPlace", "(I)I"⟩, prog_2_method_19_code, 3, (some .int)) (1256, 7, 1255, 3611) = true := by decide +kernel
set_option maxRecDepth 20000 in
theorem fxa_57 : zc_all fx_ms2 fx_mh fx_Cs fx_nms ⟨"StubHouse$Changes", "recallPlace", "(I)I"⟩ prog_2_method_19_code 3 (some .int) fxt_57 = true := by decide +kernel
set_option maxRecDepth 20000 in
theorem fxb_57 : fx_all90 ⟨"StubHouse$Changes", "recallPlace", "(I)I"⟩ prog_2_method_19_code fxt_57 = true := by decide +kernel
set_option maxRecDepth 20000 in
theorem fxm_58 : zc_meth (⟨"StubHouse$Changes", "forgetRecall", "(I)V"⟩, prog_2_method_22_code, 4, none) (1252, 7, 1251, 3610) = true := by decide +kernel
set_option maxRecDepth 20000 in
theorem fxa_58 : zc_all fx_ms2 fx_mh fx_Cs fx_nms ⟨"StubHouse$Changes", "forgetRecall", "(I)V"⟩ prog_2_method_22_code 4 none fxt_58 = true := by decide +kernel
set_option maxRecDepth 20000 in
theorem fxb_58 : fx_all90 ⟨"StubHouse$Changes", "forgetRecall", "(I)V"⟩ prog_2_method_22_code fxt_58 = true := by decide +kernel
set_option maxRecDepth 20000 in
theorem fxm_59 : zc_meth (⟨"StubHouse$Changes", "erase", "(IZ)V"⟩, prog_2_method_3_code, 5, none) (1229, 7, 1227, 1228) = true := by decide +kernel
set_option maxRecDepth 20000 in
theorem fxa_59 : zc_all fx_ms2 fx_mh fx_Cs fx_nms ⟨"StubHouse$Changes", "erase", "(IZ)V"⟩ prog_2_method_3_code 5 none fxt_59 = true := by decide +kernel
set_option maxRecDepth 20000 in
theorem fxb_59 : fx_all90 ⟨"StubHouse$Changes", "erase", "(IZ)V"⟩ prog_2_method_3_code fxt_59 = true := by decide +kernel
set_option maxRecDepth 20000 in
theorem fxm_60 : zc_meth (⟨"StubHouse", "remove", "(I)I"⟩, prog_1_method_4_code, 2, (some .int)) (985, 1, 983, 984) = true := by decide +kernel
set_option maxRecDepth 20000 in
theorem fxa_60 : zc_all fx_ms2 fx_mh fx_Cs fx_nms ⟨"StubHouse", "remove", "(I)I"⟩ prog_1_method_4_code 2 (some .int) fxt_60 = true := by decide +kernel
set_option maxRecDepth 20000 in
theorem fxb_60 : fx_all90 ⟨"StubHouse", "remove", "(I)I"⟩ prog_1_method_4_code fxt_60 = true := by decide +kernel
set_option maxRecDepth 20000 in
theorem fxm_61 : zc_meth (⟨"StubHouseModel", "hasNodes", "(I)Z"⟩, prog_14_method_25_code, 3, (some .boolean)) (2866, 14, 2865, 5600) = true := by decide +kernel
set_option maxRecDepth 20000 in
theorem fxa_61 : zc_all fx_ms2 fx_mh fx_Cs fx_nms ⟨"StubHouseModel", "hasNodes", "(I)Z"⟩ prog_14_method_25_code 3 (some .boolean) fxt_61 = true := by decide +kernel
set_option maxRecDepth 20000 in
theorem fxb_61 : fx_all90 ⟨"StubHouseModel", "hasNodes", "(I)Z"⟩ prog_14_method_25_code fxt_61 = true := by decide +kernel
set_option maxRecDepth 20000 in
theorem fxm_62 : zc_meth (⟨"StubHouseModel", "hold", "(I)V"⟩, prog_14_method_26_code, 3, none) (2870, 14, 2869, 5601) = true := by decide +kernel
set_option maxRecDepth 20000 in
theorem fxa_62 : zc_all fx_ms2 fx_mh fx_Cs fx_nms ⟨"StubHouseModel", "hold", "(I)V"⟩ prog_14_method_26_code 3 none fxt_62 = true := by decide +kernel
set_option maxRecDepth 20000 in
theorem fxb_62 : fx_all90 ⟨"StubHouseModel", "hold", "(I)V"⟩ prog_14_method_26_code fxt_62 = true := by decide +kernel
set_option maxRecDepth 20000 in
theorem fxm_63 : zc_meth (⟨"StubHouseModel", "tapeByte", "(II)I"⟩, prog_14_method_52_code, 3, (some .int)) (2890, 14, 2889, 5606) = true := by decide +kernel
set_option maxRecDepth 20000 in
theorem fxa_63 : zc_all fx_ms2 fx_mh fx_Cs fx_nms ⟨"StubHouseModel", "tapeByte", "(II)I"⟩ prog_14_method_52_code 3 (some .int) fxt_63 = true := by decide +kernel
set_option maxRecDepth 20000 in
theorem fxb_63 : fx_all90 ⟨"StubHouseModel", "tapeByte", "(II)I"⟩ prog_14_method_52_code fxt_63 = true := by decide +kernel
set_option maxRecDepth 20000 in
theorem fxm_64 : zc_meth (⟨"StubHouseModel", "number", "(III)I"⟩, prog_14_method_55_code, 6, (some .int)) (2896, 14, 2895, 5607) = true := by decide +kernel
set_option maxRecDepth 20000 in
theorem fxa_64 : zc_all fx_ms2 fx_mh fx_Cs fx_nms ⟨"StubHouseModel", "number", "(III)I"⟩ prog_14_method_55_code 6 (some .int) fxt_64 = true := by decide +kernel
set_option maxRecDepth 20000 in
theorem fxb_64 : fx_all90 ⟨"StubHouseModel", "number", "(III)I"⟩ prog_14_method_55_code fxt_64 = true := by decide +kernel
set_option maxRecDepth 20000 in
theorem fxm_65 : zc_meth (⟨"StubHouseModel", "headSize", "(I)I"⟩, prog_14_method_57_code, 1, (some .int)) (2900, 14, 2899, 0) = true := by decide +kernel
set_option maxRecDepth 20000 in
theorem fxa_65 : zc_all fx_ms2 fx_mh fx_Cs fx_nms ⟨"StubHouseModel", "headSize", "(I)I"⟩ prog_14_method_57_code 1 (some .int) fxt_65 = true := by decide +kernel
set_option maxRecDepth 20000 in
theorem fxb_65 : fx_all90 ⟨"StubHouseModel", "headSize", "(I)I"⟩ prog_14_method_57_code fxt_65 = true := by decide +kernel
set_option maxRecDepth 20000 in
theorem fxm_66 : zc_meth (⟨"StubHouseModel", "wholeSize", "(III)I"⟩, prog_14_method_58_code, 3, (some .int)) (2903, 14, 2902, 0) = true := by decide +kernel
set_option maxRecDepth 20000 in
theorem fxa_66 : zc_all fx_ms2 fx_mh fx_Cs fx_nms ⟨"StubHouseModel", "wholeSize", "(III)I"⟩ prog_14_method_58_code 3 (some .int) fxt_66 = true := by decide +kernel
set_option maxRecDepth 20000 in
theorem fxb_66 : fx_all90 ⟨"StubHouseModel", "wholeSize", "(III)I"⟩ prog_14_method_58_code fxt_66 = true := by decide +kernel
set_option maxRecDepth 20000 in
theorem fxm_67 : zc_meth (⟨"StubHouseModel", "mixed", "(II)I"⟩, prog_14_method_53_code, 3, (some .int)) (2910, 14, 2909, 0) = true := by decide +kernel
set_option maxRecDepth 20000 in
theorem fxa_67 : zc_all fx_ms2 fx_mh fx_Cs fx_nms ⟨"StubHouseModel", "mixed", "(II)I"⟩ prog_14_method_53_code 3 (some .int) fxt_67 = true := by decide +kernel
set_option maxRecDepth 20000 in
theorem fxb_67 : fx_all90 ⟨"StubHouseModel", "mixed", "(II)I"⟩ prog_14_method_53_code fxt_67 = true := by decide +kernel
set_option maxRecDepth 20000 in
theorem fxm_68 : zc_meth (⟨"StubHouseModel", "check", "(III)I"⟩, prog_14_method_54_code, 6, (some .int)) (2907, 14, 2906, 5608) = true := by decide +kernel
set_option maxRecDepth 20000 in
theorem fxa_68 : zc_all fx_ms2 fx_mh fx_Cs fx_nms ⟨"StubHouseModel", "check", "(III)I"⟩ prog_14_method_54_code 6 (some .int) fxt_68 = true := by decide +kernel
set_option maxRecDepth 20000 in
theorem fxb_68 : fx_all90 ⟨"StubHouseModel", "check", "(III)I"⟩ prog_14_method_54_code fxt_68 = true := by decide +kernel
set_option maxRecDepth 20000 in
theorem fxm_69 : zc_meth (⟨"StubHouseModel", "segmentAt", "(II)I"⟩, prog_14_method_59_code, 9, (some .int)) (2886, 14, 2885, 5605) = true := by decide +kernel
set_option maxRecDepth 20000 in
theorem fxa_69 : zc_all fx_ms2 fx_mh fx_Cs fx_nms ⟨"StubHouseModel", "segmentAt", "(II)I"⟩ prog_14_method_59_code 9 (some .int) fxt_69 = true := by decide +kernel
set_option maxRecDepth 20000 in
theorem fxb_69 : fx_all90 ⟨"StubHouseModel", "segmentAt", "(II)I"⟩ prog_14_method_59_code fxt_69 = true := by decide +kernel
set_option maxRecDepth 20000 in
theorem fxm_70 : zc_meth (⟨"StubHouseModel", "scan", "(I)V"⟩, prog_14_method_60_code, 10, none) (2882, 14, 2881, 5604) = true := by decide +kernel
set_option maxRecDepth 20000 in
theorem fxa_70 : zc_all fx_ms2 fx_mh fx_Cs fx_nms ⟨"StubHouseModel", "scan", "(I)V"⟩ prog_14_method_60_code 10 none fxt_70 = true := by decide +kernel
set_option maxRecDepth 20000 in
theorem fxb_70 : fx_all90 ⟨"StubHouseModel", "scan", "(I)V"⟩ prog_14_method_60_code fxt_70 = true := by decide +kernel
set_option maxRecDepth 20000 in
theorem fxm_71 : zc_meth (⟨"StubHouseModel", "scanAll", "()V"⟩, prog_14_method_61_code, 2, none) (2878, 14, 2877, 5603) = true := by decide +kernel
set_option maxRecDepth 20000 in
theorem fxa_71 : zc_all fx_ms2 fx_mh fx_Cs fx_nms ⟨"StubHouseModel", "scanAll", "()V"⟩ prog_14_method_61_code 2 none fxt_71 = true := by decide +kernel
set_option maxRecDepth 20000 in
theorem fxb_71 : fx_all90 ⟨"StubHouseModel", "scanAll", "()V"⟩ prog_14_method_61_code fxt_71 = true := by decide +kernel
set_option maxRecDepth 20000 in
theorem fxm_72 : zc_meth (⟨"StubHouseModel", "seg", "(III)I"⟩, prog_14_method_56_code, 4, (some .int)) (2915, 14, 2914, 5609) = true := by decide +kernel
set_option maxRecDepth 20000 in
theorem fxa_72 : zc_all fx_ms2 fx_mh fx_Cs fx_nms ⟨"StubHouseModel", "seg", "(III)I"⟩ prog_14_method_56_code 4 (some .int) fxt_72 = true := by decide +kernel
set_option maxRecDepth 20000 in
theorem fxb_72 : fx_all90 ⟨"StubHouseModel", "seg", "(III)I"⟩ prog_14_method_56_code fxt_72 = true := by decide +kernel
set_option maxRecDepth 20000 in
theorem fxm_73 : zc_meth (⟨"StubHouseModel", "isOnTape", "(I)Z"⟩, prog_14_method_62_code, 4, (some .boolean)) (2874, 14, 2873, 5602) = true := by decide +kernel
set_option maxRecDepth 20000 in
theorem fxa_73 : zc_all fx_ms2 fx_mh fx_Cs fx_nms ⟨"StubHouseModel", "isOnTape", "(I)Z"⟩ prog_14_method_62_code 4 (some .boolean) fxt_73 = true := by decide +kernel
set_option maxRecDepth 20000 in
theorem fxb_73 : fx_all90 ⟨"StubHouseModel", "isOnTape", "(I)Z"⟩ prog_14_method_62_code fxt_73 = true := by decide +kernel
set_option maxRecDepth 20000 in
theorem fxm_74 : zc_meth (⟨"StubHouseModel", "isBeingWritten", "(I)Z"⟩, prog_14_method_81_code, 2, (some .boolean)) (2919, 14, 2918, 5610) = true := by decide +kernel
set_option maxRecDepth 20000 in
theorem fxa_74 : zc_all fx_ms2 fx_mh fx_Cs fx_nms ⟨"StubHouseModel", "isBeingWritten", "(I)Z"⟩ prog_14_method_81_code 2 (some .boolean) fxt_74 = true := by decide +kernel
set_option maxRecDepth 20000 in
theorem fxb_74 : fx_all90 ⟨"StubHouseModel", "isBeingWritten", "(I)Z"⟩ prog_14_method_81_code fxt_74 = true := by decide +kernel
set_option maxRecDepth 20000 in
theorem fxm_75 : zc_meth (⟨"StubHouseModel", "fileOf", "(I)I"⟩, prog_14_method_17_code, 3, (some .int)) (2927, 14, 2926, 5612) = true := by decide +kernel
set_option maxRecDepth 20000 in
theorem fxa_75 : zc_all fx_ms2 fx_mh fx_Cs fx_nms ⟨"StubHouseModel", "fileOf", "(I)I"⟩ prog_14_method_17_code 3 (some .int) fxt_75 = true := by decide +kernel
set_option maxRecDepth 20000 in
theorem fxb_75 : fx_all90 ⟨"StubHouseModel", "fileOf", "(I)I"⟩ prog_14_method_17_code fxt_75 = true := by decide +kernel
set_option maxRecDepth 20000 in
theorem fxm_76 : zc_meth (⟨"StubHouseModel", "isStub", "(I)Z"⟩, prog_14_method_19_code, 2, (some .boolean)) (2931, 14, 2930, 5613) = true := by decide +kernel
set_option maxRecDepth 20000 in
theorem fxa_76 : zc_all fx_ms2 fx_mh fx_Cs fx_nms ⟨"StubHouseModel", "isStub", "(I)Z"⟩ prog_14_method_19_code 2 (some .boolean) fxt_76 = true := by decide +kernel
set_option maxRecDepth 20000 in
theorem fxb_76 : fx_all90 ⟨"StubHouseModel", "isStub", "(I)Z"⟩ prog_14_method_19_code fxt_76 = true := by decide +kernel
set_option maxRecDepth 20000 in
theorem fxm_77 : zc_meth (⟨"StubHouseModel", "purge", "()V"⟩, prog_14_method_82_code, 4, none) (2923, 14, 2922, 5611) = true := by decide +kernel
set_option maxRecDepth 20000 in
theorem fxa_77 : zc_all fx_ms2 fx_mh fx_Cs fx_nms ⟨"StubHouseModel", "purge", "()V"⟩ prog_14_method_82_code 4 none fxt_77 = true := by decide +kernel
set_option maxRecDepth 20000 in
theorem fxb_77 : fx_all90 ⟨"StubHouseModel", "purge", "()V"⟩ prog_14_method_82_code fxt_77 = true := by decide +kernel
set_option maxRecDepth 20000 in
theorem fxm_78 : zc_meth (⟨"StubHouseModel", "remove", "(I)I"⟩, prog_14_method_27_code, 4, (some .int)) (2862, 14, 2860, 2861) = true := by decide +kernel
set_option maxRecDepth 20000 in
theorem fxa_78 : zc_all fx_ms2 fx_mh fx_Cs fx_nms ⟨"StubHouseModel", "remove", "(I)I"⟩ prog_14_method_27_code 4 (some .int) fxt_78 = true := by decide +kernel
set_option maxRecDepth 20000 in
theorem fxb_78 : fx_all90 ⟨"StubHouseModel", "remove", "(I)I"⟩ prog_14_method_27_code fxt_78 = true := by decide +kernel
set_option maxRecDepth 20000 in
theorem fxm_79 : zc_meth (⟨"StubHouse$Tree", "isWithin", "(II)Z"⟩, prog_11_method_11_code, 5, (some .boolean)) (1265, 2, 1263, 1264) = true := by decide +kernel
set_option maxRecDepth 20000 in
theorem fxa_79 : zc_all fx_ms2 fx_mh fx_Cs fx_nms ⟨"StubHouse$Tree", "isWithin", "(II)Z"⟩ prog_11_method_11_code 5 (some .boolean) fxt_79 = true := by decide +kernel
set_option maxRecDepth 20000 in
theorem fxb_79 : fx_all90 ⟨"StubHouse$Tree", "isWithin", "(II)Z"⟩ prog_11_method_11_code fxt_79 = true := by decide +kernel
set_option maxRecDepth 20000 in
theorem fxm_80 : zc_meth (⟨"StubHouse$Tree", "heightOf", "(I)I"⟩, prog_11_method_12_code, 5, (some .int)) (1269, 2, 1267, 1268) = true := by decide +kernel
set_option maxRecDepth 20000 in
theorem fxa_80 : zc_all fx_ms2 fx_mh fx_Cs fx_nms ⟨"StubHouse$Tree", "heightOf", "(I)I"⟩ prog_11_method_12_code 5 (some .int) fxt_80 = true := by decide +kernel
set_option maxRecDepth 20000 in
theorem fxb_80 : fx_all90 ⟨"StubHouse$Tree", "heightOf", "(I)I"⟩ prog_11_method_12_code fxt_80 = true := by decide +kernel
set_option maxRecDepth 20000 in
theorem fxm_81 : zc_meth (⟨"StubHouse$Changes", "rename", "(IIJ)V"⟩, prog_2_method_4_code, 5, none) (1276, 7, 1274, 1275) = true := by decide +kernel
set_option maxRecDepth 20000 in
theorem fxa_81 : zc_all fx_ms2 fx_mh fx_Cs fx_nms ⟨"StubHouse$Changes", "rename", "(IIJ)V"⟩ prog_2_method_4_code 5 none fxt_81 = true := by decide +kernel
set_option maxRecDepth 20000 in
theorem fxb_81 : fx_all90 ⟨"StubHouse$Changes", "rename", "(IIJ)V"⟩ prog_2_method_4_code fxt_81 = true := by decide +kernel
set_option maxRecDepth 20000 in
theorem fxm_82 : zc_meth (⟨"StubHouse", "move", "(IIJ)I"⟩, prog_1_method_6_code, 6, (some .int)) (1261, 1, 1259, 1260) = true := by decide +kernel
set_option maxRecDepth 20000 in
theorem fxa_82 : zc_all fx_ms2 fx_mh fx_Cs fx_nms ⟨"StubHouse", "move", "(IIJ)I"⟩ prog_1_method_6_code 6 (some .int) fxt_82 = true := by decide +kernel
set_option maxRecDepth 20000 in
theorem fxb_82 : fx_all90 ⟨"StubHouse", "move", "(IIJ)I"⟩ prog_1_method_6_code fxt_82 = true := by decide +kernel
set_option maxRecDepth 20000 in
theorem fxm_83 : zc_meth (⟨"StubHouseModel", "isBelow", "(II)Z"⟩, prog_14_method_28_code, 4, (some .boolean)) (2939, 14, 2938, 5614) = true := by decide +kernel
set_option maxRecDepth 20000 in
theorem fxa_83 : zc_all fx_ms2 fx_mh fx_Cs fx_nms ⟨"StubHouseModel", "isBelow", "(II)Z"⟩ prog_14_method_28_code 4 (some .boolean) fxt_83 = true := by decide +kernel
set_option maxRecDepth 20000 in
theorem fxb_83 : fx_all90 ⟨"StubHouseModel", "isBelow", "(II)Z"⟩ prog_14_method_28_code fxt_83 = true := by decide +kernel
set_option maxRecDepth 20000 in
theorem fxm_84 : zc_meth (⟨"StubHouseModel", "move", "(IIJ)I"⟩, prog_14_method_29_code, 8, (some .int)) (2935, 14, 2933, 2934) = true := by decide +kernel
set_option maxRecDepth 20000 in
theorem fxa_84 : zc_all fx_ms2 fx_mh fx_Cs fx_nms ⟨"StubHouseModel", "move", "(IIJ)I"⟩ prog_14_method_29_code 8 (some .int) fxt_84 = true := by decide +kernel
set_option maxRecDepth 20000 in
theorem fxb_84 : fx_all90 ⟨"StubHouseModel", "move", "(IIJ)I"⟩ prog_14_method_29_code fxt_84 = true := by decide +kernel
set_option maxRecDepth 20000 in
theorem fxm_85 : zc_meth (⟨"StubHouse", "feed", "(IJ)I"⟩, prog_1_method_7_code, 5, (some .int)) (1280, 1, 1278, 1279) = true := by decide +kernel
set_option maxRecDepth 20000 in
theorem fxa_85 : zc_all fx_ms2 fx_mh fx_Cs fx_nms ⟨"StubHouse", "feed", "(IJ)I"⟩ prog_1_method_7_code 5 (some .int) fxt_85 = true := by decide +kernel
set_option maxRecDepth 20000 in
theorem fxb_85 : fx_all90 ⟨"StubHouse", "feed", "(IJ)I"⟩ prog_1_method_7_code fxt_85 = true := by decide +kernel
set_option maxRecDepth 20000 in
theorem fxm_86 : zc_meth (⟨"StubHouseModel", "feed", "(IJ)I"⟩, prog_14_method_30_code, 5, (some .int)) (2943, 14, 2941, 2942) = true := by decide +kernel
set_option maxRecDepth 20000 in
theorem fxa_86 : zc_all fx_ms2 fx_mh fx_Cs fx_nms ⟨"StubHouseModel", "feed", "(IJ)I"⟩ prog_14_method_30_code 5 (some .int) fxt_86 = true := by decide +kernel
set_option maxRecDepth 20000 in
theorem fxb_86 : fx_all90 ⟨"StubHouseModel", "feed", "(IJ)I"⟩ prog_14_method_30_code fxt_86 = true := by decide +kernel
set_option maxRecDepth 20000 in
theorem fxm_87 : zc_meth (⟨"StubHouse", "fill", "(II)I"⟩, prog_1_method_8_code, 4, (some .int)) (1284, 1, 1282, 1283) = true := by decide +kernel
set_option maxRecDepth 20000 in
theorem fxa_87 : zc_all fx_ms2 fx_mh fx_Cs fx_nms ⟨"StubHouse", "fill", "(II)I"⟩ prog_1_method_8_code 4 (some .int) fxt_87 = true := by decide +kernel
set_option maxRecDepth 20000 in
theorem fxb_87 : fx_all90 ⟨"StubHouse", "fill", "(II)I"⟩ prog_1_method_8_code fxt_87 = true := by decide +kernel
set_option maxRecDepth 20000 in
theorem fxm_88 : zc_meth (⟨"StubHouseModel", "fill", "(II)I"⟩, prog_14_method_31_code, 4, (some .int)) (2948, 14, 2946, 2947) = true := by decide +kernel
set_option maxRecDepth 20000 in
theorem fxa_88 : zc_all fx_ms2 fx_mh fx_Cs fx_nms ⟨"StubHouseModel", "fill", "(II)I"⟩ prog_14_method_31_code 4 (some .int) fxt_88 = true := by decide +kernel
set_option maxRecDepth 20000 in
theorem fxb_88 : fx_all90 ⟨"StubHouseModel", "fill", "(II)I"⟩ prog_14_method_31_code fxt_88 = true := by decide +kernel
set_option maxRecDepth 20000 in
theorem fxm_89 : zc_meth (⟨"StubHouse$Node", "isStub", "()Z"⟩, prog_7_method_5_code, 1, (some .boolean)) (1292, 3, 1290, 1291) = true := by decide +kernel
set_option maxRecDepth 20000 in
theorem fxa_89 : zc_all fx_ms2 fx_mh fx_Cs fx_nms ⟨"StubHouse$Node", "isStub", "()Z"⟩ prog_7_method_5_code 1 (some .boolean) fxt_89 = true := by decide +kernel
set_option maxRecDepth 20000 in
theorem fxb_89 : fx_all90 ⟨"StubHouse$Node", "isStub", "()Z"⟩ prog_7_method_5_code fxt_89 = true := by decide +kernel
set_option maxRecDepth 20000 in
theorem fxm_90 : zc_meth (⟨"StubHouse$Changes", "isRecalled", "(I)Z"⟩, prog_2_method_20_code, 2, (some .boolean)) (1304, 7, 1302, 1303) = true := by decide +kernel
set_option maxRecDepth 20000 in
theorem fxa_90 : zc_all fx_ms2 fx_mh fx_Cs fx_nms ⟨"StubHouse$Changes", "isRecalled", "(I)Z"⟩ prog_2_method_20_code 2 (some .boolean) fxt_90 = true := by decide +kernel
set_option maxRecDepth 20000 in
theorem fxb_90 : fx_all90 ⟨"StubHouse$Changes", "isRecalled", "(I)Z"⟩ prog_2_method_20_code fxt_90 = true := by decide +kernel
set_option maxRecDepth 20000 in
theorem fxm_91 : zc_meth (⟨"StubHouse$Changes", "askRecall", "(I)V"⟩, prog_2_method_21_code, 2, none) (1300, 7, 1298, 1299) = true := by decide +kernel
set_option maxRecDepth 20000 in
theorem fxa_91 : zc_all fx_ms2 fx_mh fx_Cs fx_nms ⟨"StubHouse$Changes", "askRecall", "(I)V"⟩ prog_2_method_21_code 2 none fxt_91 = true := by decide +kernel
set_option maxRecDepth 20000 in
theorem fxb_91 : fx_all90 ⟨"StubHouse$Changes", "askRecall", "(I)V"⟩ prog_2_method_21_code fxt_91 = true := by decide +kernel
set_option maxRecDepth 20000 in
theorem fxm_92 : zc_meth (⟨"StubHouse", "askedOfStub", "(I)I"⟩, prog_1_method_10_code, 2, (some .int)) (1296, 1, 1295, 3612) = true := by decide +kernel
set_option maxRecDepth 20000 in
theorem fxa_92 : zc_all fx_ms2 fx_mh fx_Cs fx_nms ⟨"StubHouse", "askedOfStub", "(I)I"⟩ prog_1_method_10_code 2 (some .int) fxt_92 = true := by decide +kernel
set_option maxRecDepth 20000 in
theorem fxb_92 : fx_all90 ⟨"StubHouse", "askedOfStub", "(I)I"⟩ prog_1_method_10_code fxt_92 = true := by decide +kernel
set_option maxRecDepth 20000 in
theorem fxm_93 : zc_meth (⟨"StubHouse$Changes", "lengthWith", "(I)I"⟩, prog_2_method_7_code, 1, (some .int)) (1312, 7, 1311, 0) = true := by decide +kernel
set_option maxRecDepth 20000 in
theorem fxa_93 : zc_all fx_ms2 fx_mh fx_Cs fx_nms ⟨"StubHouse$Changes", "lengthWith", "(I)I"⟩ prog_2_method_7_code 1 (some .int) fxt_93 = true := by decide +kernel
set_option maxRecDepth 20000 in
theorem fxb_93 : fx_all90 ⟨"StubHouse$Changes", "lengthWith", "(I)I"⟩ prog_2_method_7_code fxt_93 = true := by decide +kernel
set_option maxRecDepth 20000 in
theorem fxm_94 : zc_meth (⟨"StubHouse$Stores", "claim", "(I)V"⟩, prog_9_method_6_code, 2, none) (1328, 5, 1326, 1327) = true := by decide +kernel
set_option maxRecDepth 20000 in
theorem fxa_94 : zc_all fx_ms2 fx_mh fx_Cs fx_nms ⟨"StubHouse$Stores", "claim", "(I)V"⟩ prog_9_method_6_code 2 none fxt_94 = true := by decide +kernel
set_option maxRecDepth 20000 in
theorem fxb_94 : fx_all90 ⟨"StubHouse$Stores", "claim", "(I)V"⟩ prog_9_method_6_code fxt_94 = true := by decide +kernel
set_option maxRecDepth 20000 in
theorem fxm_95 : zc_meth (⟨"StubHouse$Stores", "giveOf", "(I)I"⟩, prog_9_method_4_code, 4, (some .int)) (1324, 5, 1322, 1323) = true := by decide +kernel
set_option maxRecDepth 20000 in
theorem fxa_95 : zc_all fx_ms2 fx_mh fx_Cs fx_nms ⟨"StubHouse$Stores", "giveOf", "(I)I"⟩ prog_9_method_4_code 4 (some .int) fxt_95 = true := by decide +kernel
set_option maxRecDepth 20000 in
theorem fxb_95 : fx_all90 ⟨"StubHouse$Stores", "giveOf", "(I)I"⟩ prog_9_method_4_code fxt_95 = true := by decide +kernel
set_option maxRecDepth 20000 in
theorem fxm_96 : zc_meth (⟨"StubHouse$Stores", "giveAny", "()I"⟩, prog_9_method_5_code, 2, (some .int)) (1320, 5, 1318, 1319) = true := by decide +kernel
set_option maxRecDepth 20000 in
theorem fxa_96 : zc_all fx_ms2 fx_mh fx_Cs fx_nms ⟨"StubHouse$Stores", "giveAny", "()I"⟩ prog_9_method_5_code 2 (some .int) fxt_96 = true := by decide +kernel
set_option maxRecDepth 20000 in
theorem fxb_96 : fx_all90 ⟨"StubHouse$Stores", "giveAny", "()I"⟩ prog_9_method_5_code fxt_96 = true := by decide +kernel
set_option maxRecDepth 20000 in
theorem fxm_97 : zc_meth (⟨"StubHouse$Stores", "put", "([BIIII)V"⟩, prog_9_method_11_code, 6, none) (1336, 5, 1334, 1335) = true := by decide +kernel
set_option maxRecDepth 20000 in
theorem fxa_97 : zc_all fx_ms2 fx_mh fx_Cs fx_nms ⟨"StubHouse$Stores", "put", "([BIIII)V"⟩ prog_9_method_11_code 6 none fxt_97 = true := by decide +kernel
set_option maxRecDepth 20000 in
theorem fxb_97 : fx_all90 ⟨"StubHouse$Stores", "put", "([BIIII)V"⟩ prog_9_method_11_code fxt_97 = true := by decide +kernel
set_option maxRecDepth 20000 in
theorem fxm_98 : zc_meth (⟨"StubHouse$Stores", "putBlock", "(III)V"⟩, prog_9_method_12_code, 6, none) (1332, 5, 1330, 1331) = true := by decide +kernel
set_option maxRecDepth 20000 in
theorem fxa_98 : zc_all fx_ms2 fx_mh fx_Cs fx_nms ⟨"StubHouse$Stores", "putBlock", "(III)V"⟩ prog_9_method_12_code 6 none fxt_98 = true := by decide +kernel
set_option maxRecDepth 20000 in
theorem fxb_98 : fx_all90 ⟨"StubHouse$Stores", "putBlock", "(III)V"⟩ prog_9_method_12_code fxt_98 = true := by decide +kernel
set_option maxRecDepth 20000 in
theorem fxm_99 : zc_meth (⟨"StubHouse$Changes", "rehouse", "(LStubHouse$Node;II)V"⟩, prog_2_method_8_code, 6, none) (1316, 7, 1315, 3613) = true := by decide +kernel
set_option maxRecDepth 20000 in
theorem fxa_99 : zc_all fx_ms2 fx_mh fx_Cs fx_nms ⟨"StubHouse$Changes", "rehouse", "(LStubHouse$Node;II)V"⟩ prog_2_method_8_code 6 none fxt_99 = true := by decide +kernel
set_option maxRecDepth 20000 in
theorem fxb_99 : fx_all90 ⟨"StubHouse$Changes", "rehouse", "(LStubHouse$Node;II)V"⟩ prog_2_method_8_code fxt_99 = true := by decide +kernel
set_option maxRecDepth 20000 in
theorem fxm_100 : zc_meth (⟨"StubHouse$Changes", "renew", "(LStubHouse$Node;)V"⟩, prog_2_method_10_code, 2, none) (1345, 7, 1344, 3614) = true := by decide +kernel
set_option maxRecDepth 20000 in
theorem fxa_100 : zc_all fx_ms2 fx_mh fx_Cs fx_nms ⟨"StubHouse$Changes", "renew", "(LStubHouse$Node;)V"⟩ prog_2_method_10_code 2 none fxt_100 = true := by decide +kernel
set_option maxRecDepth 20000 in
theorem fxb_100 : fx_all90 ⟨"StubHouse$Changes", "renew", "(LStubHouse$Node;)V"⟩ prog_2_method_10_code fxt_100 = true := by decide +kernel
set_option maxRecDepth 20000 in
theorem fxm_101 : zc_meth (⟨"StubHouse$Changes", "overwrite", "(II[BI)V"⟩, prog_2_method_5_code, 11, none) (1308, 7, 1306, 1307) = true := by decide +kernel
set_option maxRecDepth 20000 in
theorem fxa_101 : zc_all fx_ms2 fx_mh fx_Cs fx_nms ⟨"StubHouse$Changes", "overwrite", "(II[BI)V"⟩ prog_2_method_5_code 11 none fxt_101 = true := by decide +kernel
set_option maxRecDepth 20000 in
theorem fxb_101 : fx_all90 ⟨"StubHouse$Changes", "overwrite", "(II[BI)V"⟩ prog_2_method_5_code fxt_101 = true := by decide +kernel
set_option maxRecDepth 20000 in
theorem fxm_102 : zc_meth (⟨"StubHouse", "write", "(II)I"⟩, prog_1_method_9_code, 5, (some .int)) (1288, 1, 1286, 1287) = true := by decide +kernel
set_option maxRecDepth 20000 in
theorem fxa_102 : zc_all fx_ms2 fx_mh fx_Cs fx_nms ⟨"StubHouse", "write", "(II)I"⟩ prog_1_method_9_code 5 (some .int) fxt_102 = true := by decide +kernel
set_option maxRecDepth 20000 in
theorem fxb_102 : fx_all90 ⟨"StubHouse", "write", "(II)I"⟩ prog_1_method_9_code fxt_102 = true := by decide +kernel
set_option maxRecDepth 20000 in
theorem fxm_103 : zc_meth (⟨"StubHouseModel", "isFile", "(I)Z"⟩, prog_14_method_11_code, 2, (some .boolean)) (2957, 14, 2956, 5615) = true := by decide +kernel
set_option maxRecDepth 20000 in
theorem fxa_103 : zc_all fx_ms2 fx_mh fx_Cs fx_nms ⟨"StubHouseModel", "isFile", "(I)Z"⟩ prog_14_method_11_code 2 (some .boolean) fxt_103 = true := by decide +kernel
set_option maxRecDepth 20000 in
theorem fxb_103 : fx_all90 ⟨"StubHouseModel", "isFile", "(I)Z"⟩ prog_14_method_11_code fxt_103 = true := by decide +kernel
set_option maxRecDepth 20000 in
theorem fxm_104 : zc_meth (⟨"StubHouseModel", "stubbed", "(I)I"⟩, prog_14_method_35_code, 4, (some .int)) (2961, 14, 2960, 6000) = true := by decide +kernel
set_option maxRecDepth 20000 in
theorem fxa_104 : zc_all fx_ms2 fx_mh fx_Cs fx_nms ⟨"StubHouseModel", "stubbed", "(I)I"⟩ prog_14_method_35_code 4 (some .int) fxt_104 = true := by decide +kernel
set_option maxRecDepth 20000 in
theorem fxb_104 : fx_all90 ⟨"StubHouseModel", "stubbed", "(I)I"⟩ prog_14_method_35_code fxt_104 = true := by decide +kernel
set_option maxRecDepth 20000 in
theorem fxm_105 : zc_meth (⟨"StubHouseModel", "freeIn", "(II)I"⟩, prog_14_method_32_code, 5, (some .int)) (2965, 14, 2964, 6001) = true := by decide +kernel
set_option maxRecDepth 20000 in
theorem fxa_105 : zc_all fx_ms2 fx_mh fx_Cs fx_nms ⟨"StubHouseModel", "freeIn", "(II)I"⟩ prog_14_method_32_code 5 (some .int) fxt_105 = true := by decide +kernel
set_option maxRecDepth 20000 in
theorem fxb_105 : fx_all90 ⟨"StubHouseModel", "freeIn", "(II)I"⟩ prog_14_method_32_code fxt_105 = true := by decide +kernel
