/-! the rows of the tables, checked -/
set_option maxRecDepth 20000 in
theorem fxm_159 : zc_meth (⟨"StubHouse$Library", "viewStamp", "(I)I"⟩, prog_4_method_17_code, 2, (some .int)) (1661, 8, 1660, 4006) = true := by decide +kernel
set_option maxRecDepth 20000 in
theorem fxa_159 : zc_all fx_ms2 fx_mh fx_Cs fx_nms ⟨"StubHouse$Library", "viewStamp", "(I)I"⟩ prog_4_method_17_code 2 (some .int) fxt_159 = true := by decide +kernel
set_option maxRecDepth 20000 in
theorem fxb_159 : fx_all90 ⟨"StubHouse$Library", "viewStamp", "(I)I"⟩ prog_4_method_17_code fxt_159 = true := by decide +kernel
set_option maxRecDepth 20000 in
theorem fxm_160 : zc_meth (⟨"StubHouse$Library", "offer", "(II)V"⟩, prog_4_method_15_code, 5, none) (1653, 8, 1652, 4004) = true := by decide +kernel
set_option maxRecDepth 20000 in
theorem fxa_160 : zc_all fx_ms2 fx_mh fx_Cs fx_nms ⟨"StubHouse$Library", "offer", "(II)V"⟩ prog_4_method_15_code 5 none fxt_160 = true := by decide +kernel
set_option maxRecDepth 20000 in
theorem fxb_160 : fx_all90 ⟨"StubHouse$Library", "offer", "(II)V"⟩ prog_4_method_15_code fxt_160 = true := by decide +kernel
set_option maxRecDepth 20000 in
theorem fxm_161 : zc_meth (⟨"StubHouse$Library", "placeInView", "(I)I"⟩, prog_4_method_18_code, 2, (some .int)) (1670, 8, 1669, 4008) = true := by decide +kernel
set_option maxRecDepth 20000 in
theorem fxa_161 : zc_all fx_ms2 fx_mh fx_Cs fx_nms ⟨"StubHouse$Library", "placeInView", "(I)I"⟩ prog_4_method_18_code 2 (some .int) fxt_161 = true := by decide +kernel
set_option maxRecDepth 20000 in
theorem fxb_161 : fx_all90 ⟨"StubHouse$Library", "placeInView", "(I)I"⟩ prog_4_method_18_code fxt_161 = true := by decide +kernel
set_option maxRecDepth 20000 in
theorem fxm_162 : zc_meth (⟨"StubHouse$Library", "keepInView", "(II)V"⟩, prog_4_method_20_code, 3, none) (1675, 8, 1674, 4009) = true := by decide +kernel
set_option maxRecDepth 20000 in
theorem fxa_162 : zc_all fx_ms2 fx_mh fx_Cs fx_nms ⟨"StubHouse$Library", "keepInView", "(II)V"⟩ prog_4_method_20_code 3 none fxt_162 = true := by decide +kernel
set_option maxRecDepth 20000 in
theorem fxb_162 : fx_all90 ⟨"StubHouse$Library", "keepInView", "(II)V"⟩ prog_4_method_20_code fxt_162 = true := by decide +kernel
set_option maxRecDepth 20000 in
theorem fxm_163 : zc_meth (⟨"StubHouse$Library", "dropDeletes", "()V"⟩, prog_4_method_19_code, 3, none) (1666, 8, 1665, 4007) = true := by decide +kernel
set_option maxRecDepth 20000 in
theorem fxa_163 : zc_all fx_ms2 fx_mh fx_Cs fx_nms ⟨"StubHouse$Library", "dropDeletes", "()V"⟩ prog_4_method_19_code 3 none fxt_163 = true := by decide +kernel
set_option maxRecDepth 20000 in
theorem fxb_163 : fx_all90 ⟨"StubHouse$Library", "dropDeletes", "()V"⟩ prog_4_method_19_code fxt_163 = true := by decide +kernel
set_option maxRecDepth 20000 in
theorem fxm_164 : zc_meth (⟨"StubHouse$Library", "sortByStamps", "()V"⟩, prog_4_method_22_code, 4, none) (1683, 8, 1682, 4011) = true := by decide +kernel
set_option maxRecDepth 20000 in
theorem fxa_164 : zc_all fx_ms2 fx_mh fx_Cs fx_nms ⟨"StubHouse$Library", "sortByStamps", "()V"⟩ prog_4_method_22_code 4 none fxt_164 = true := by decide +kernel
set_option maxRecDepth 20000 in
theorem fxb_164 : fx_all90 ⟨"StubHouse$Library", "sortByStamps", "()V"⟩ prog_4_method_22_code fxt_164 = true := by decide +kernel
set_option maxRecDepth 20000 in
theorem fxm_165 : zc_meth (⟨"StubHouse$Tape", "titleAt", "(II)J"⟩, prog_10_method_12_code, 6, (some .long)) (1697, 9, 1695, 1696) = true := by decide +kernel
set_option maxRecDepth 20000 in
theorem fxa_165 : zc_all fx_ms2 fx_mh fx_Cs fx_nms ⟨"StubHouse$Tape", "titleAt", "(II)J"⟩ prog_10_method_12_code 6 (some .long) fxt_165 = true := by decide +kernel
set_option maxRecDepth 20000 in
theorem fxb_165 : fx_all90 ⟨"StubHouse$Tape", "titleAt", "(II)J"⟩ prog_10_method_12_code fxt_165 = true := by decide +kernel
set_option maxRecDepth 20000 in
theorem fxm_166 : zc_meth (⟨"StubHouse$Library", "doPathsClash", "(II)Z"⟩, prog_4_method_25_code, 9, (some .boolean)) (1691, 8, 1690, 4013) = true := by decide +kernel
set_option maxRecDepth 20000 in
theorem fxa_166 : zc_all fx_ms2 fx_mh fx_Cs fx_nms ⟨"StubHouse$Library", "doPathsClash", "(II)Z"⟩ prog_4_method_25_code 9 (some .boolean) fxt_166 = true := by decide +kernel
set_option maxRecDepth 20000 in
theorem fxb_166 : fx_all90 ⟨"StubHouse$Library", "doPathsClash", "(II)Z"⟩ prog_4_method_25_code fxt_166 = true := by decide +kernel
set_option maxRecDepth 20000 in
theorem fxm_167 : zc_meth (⟨"StubHouse$Library", "clashesWithTaken", "(II)Z"⟩, prog_4_method_24_code, 4, (some .boolean)) (1687, 8, 1686, 4012) = true := by decide +kernel
set_option maxRecDepth 20000 in
theorem fxa_167 : zc_all fx_ms2 fx_mh fx_Cs fx_nms ⟨"StubHouse$Library", "clashesWithTaken", "(II)Z"⟩ prog_4_method_24_code 4 (some .boolean) fxt_167 = true := by decide +kernel
set_option maxRecDepth 20000 in
theorem fxb_167 : fx_all90 ⟨"StubHouse$Library", "clashesWithTaken", "(II)Z"⟩ prog_4_method_24_code fxt_167 = true := by decide +kernel
set_option maxRecDepth 20000 in
theorem fxm_168 : zc_meth (⟨"StubHouse$Library", "sortTaken", "(I)V"⟩, prog_4_method_23_code, 5, none) (1701, 8, 1700, 4014) = true := by decide +kernel
set_option maxRecDepth 20000 in
theorem fxa_168 : zc_all fx_ms2 fx_mh fx_Cs fx_nms ⟨"StubHouse$Library", "sortTaken", "(I)V"⟩ prog_4_method_23_code 5 none fxt_168 = true := by decide +kernel
set_option maxRecDepth 20000 in
theorem fxb_168 : fx_all90 ⟨"StubHouse$Library", "sortTaken", "(I)V"⟩ prog_4_method_23_code fxt_168 = true := by decide +kernel
set_option maxRecDepth 20000 in
theorem fxm_169 : zc_meth (⟨"StubHouse$Library", "dropClashes", "()V"⟩, prog_4_method_21_code, 4, none) (1679, 8, 1678, 4010) = true := by decide +kernel
set_option maxRecDepth 20000 in
theorem fxa_169 : zc_all fx_ms2 fx_mh fx_Cs fx_nms ⟨"StubHouse$Library", "dropClashes", "()V"⟩ prog_4_method_21_code 4 none fxt_169 = true := by decide +kernel
set_option maxRecDepth 20000 in
theorem fxb_169 : fx_all90 ⟨"StubHouse$Library", "dropClashes", "()V"⟩ prog_4_method_21_code fxt_169 = true := by decide +kernel
set_option maxRecDepth 20000 in
theorem fxm_170 : zc_meth (⟨"StubHouse$Library", "lookOver", "()V"⟩, prog_4_method_14_code, 3, none) (1649, 8, 1647, 1648) = true := by decide +kernel
set_option maxRecDepth 20000 in
theorem fxa_170 : zc_all fx_ms2 fx_mh fx_Cs fx_nms ⟨"StubHouse$Library", "lookOver", "()V"⟩ prog_4_method_14_code 3 none fxt_170 = true := by decide +kernel
set_option maxRecDepth 20000 in
theorem fxb_170 : fx_all90 ⟨"StubHouse$Library", "lookOver", "()V"⟩ prog_4_method_14_code fxt_170 = true := by decide +kernel
set_option maxRecDepth 20000 in
theorem fxm_171 : zc_meth (⟨"StubHouse$Library", "restoreDirectory", "(IJ)I"⟩, prog_4_method_28_code, 5, (some .int)) (1713, 8, 1712, 4400) = true := by decide +kernel
set_option maxRecDepth 20000 in
theorem fxa_171 : zc_all fx_ms2 fx_mh fx_Cs fx_nms ⟨"StubHouse$Library", "restoreDirectory", "(IJ)I"⟩ prog_4_method_28_code 5 (some .int) fxt_171 = true := by decide +kernel
set_option maxRecDepth 20000 in
theorem fxb_171 : fx_all90 ⟨"StubHouse$Library", "restoreDirectory", "(IJ)I"⟩ prog_4_method_28_code fxt_171 = true := by decide +kernel
set_option maxRecDepth 20000 in
theorem fxm_172 : zc_meth (⟨"StubHouse$Tape", "versionAt", "(I)I"⟩, prog_10_method_7_code, 2, (some .int)) (1722, 9, 1720, 1721) = true := by decide +kernel
set_option maxRecDepth 20000 in
theorem fxa_172 : zc_all fx_ms2 fx_mh fx_Cs fx_nms ⟨"StubHouse$Tape", "versionAt", "(I)I"⟩ prog_10_method_7_code 2 (some .int) fxt_172 = true := by decide +kernel
set_option maxRecDepth 20000 in
theorem fxb_172 : fx_all90 ⟨"StubHouse$Tape", "versionAt", "(I)I"⟩ prog_10_method_7_code fxt_172 = true := by decide +kernel
set_option maxRecDepth 20000 in
theorem fxm_173 : zc_meth (⟨"StubHouse$Library", "fits", "(IILStubHouse$Node;)Z"⟩, prog_4_method_8_code, 6, (some .boolean)) (1731, 8, 1729, 1730) = true := by decide +kernel
set_option maxRecDepth 20000 in
theorem fxa_173 : zc_all fx_ms2 fx_mh fx_Cs fx_nms ⟨"StubHouse$Library", "fits", "(IILStubHouse$Node;)Z"⟩ prog_4_method_8_code 6 (some .boolean) fxt_173 = true := by decide +kernel
set_option maxRecDepth 20000 in
theorem fxb_173 : fx_all90 ⟨"StubHouse$Library", "fits", "(IILStubHouse$Node;)Z"⟩ prog_4_method_8_code fxt_173 = true := by decide +kernel
set_option maxRecDepth 20000 in
theorem fxm_174 : zc_meth (⟨"StubHouse$Node", "addCopy", "(II)V"⟩, prog_7_method_10_code, 3, none) (1735, 3, 1733, 1734) = true := by decide +kernel
set_option maxRecDepth 20000 in
theorem fxa_174 : zc_all fx_ms2 fx_mh fx_Cs fx_nms ⟨"StubHouse$Node", "addCopy", "(II)V"⟩ prog_7_method_10_code 3 none fxt_174 = true := by decide +kernel
set_option maxRecDepth 20000 in
theorem fxb_174 : fx_all90 ⟨"StubHouse$Node", "addCopy", "(II)V"⟩ prog_7_method_10_code fxt_174 = true := by decide +kernel
set_option maxRecDepth 20000 in
theorem fxm_175 : zc_meth (⟨"StubHouse$Library", "restoreCopies", "(LStubHouse$Node;)V"⟩, prog_4_method_29_code, 4, none) (1727, 8, 1726, 4401) = true := by decide +kernel
set_option maxRecDepth 20000 in
theorem fxa_175 : zc_all fx_ms2 fx_mh fx_Cs fx_nms ⟨"StubHouse$Library", "restoreCopies", "(LStubHouse$Node;)V"⟩ prog_4_method_29_code 4 none fxt_175 = true := by decide +kernel
set_option maxRecDepth 20000 in
theorem fxb_175 : fx_all90 ⟨"StubHouse$Library", "restoreCopies", "(LStubHouse$Node;)V"⟩ prog_4_method_29_code fxt_175 = true := by decide +kernel
set_option maxRecDepth 20000 in
theorem fxm_176 : zc_meth (⟨"StubHouse$Library", "restoreFile", "(I)Z"⟩, prog_4_method_27_code, 10, (some .boolean)) (1709, 8, 1708, 4015) = true := by decide +kernel
set_option maxRecDepth 20000 in
theorem fxa_176 : zc_all fx_ms2 fx_mh fx_Cs fx_nms ⟨"StubHouse$Library", "restoreFile", "(I)Z"⟩ prog_4_method_27_code 10 (some .boolean) fxt_176 = true := by decide +kernel
set_option maxRecDepth 20000 in
theorem fxb_176 : fx_all90 ⟨"StubHouse$Library", "restoreFile", "(I)Z"⟩ prog_4_method_27_code fxt_176 = true := by decide +kernel
set_option maxRecDepth 20000 in
theorem fxm_177 : zc_meth (⟨"StubHouse$Library", "passNumbers", "()V"⟩, prog_4_method_30_code, 4, none) (1739, 8, 1738, 4402) = true := by decide +kernel
set_option maxRecDepth 20000 in
theorem fxa_177 : zc_all fx_ms2 fx_mh fx_Cs fx_nms ⟨"StubHouse$Library", "passNumbers", "()V"⟩ prog_4_method_30_code 4 none fxt_177 = true := by decide +kernel
set_option maxRecDepth 20000 in
theorem fxb_177 : fx_all90 ⟨"StubHouse$Library", "passNumbers", "()V"⟩ prog_4_method_30_code fxt_177 = true := by decide +kernel
set_option maxRecDepth 20000 in
theorem fxm_178 : zc_meth (⟨"StubHouse$Library", "restoreTree", "()I"⟩, prog_4_method_26_code, 3, (some .int)) (1705, 8, 1703, 1704) = true := by decide +kernel
set_option maxRecDepth 20000 in
theorem fxa_178 : zc_all fx_ms2 fx_mh fx_Cs fx_nms ⟨"StubHouse$Library", "restoreTree", "()I"⟩ prog_4_method_26_code 3 (some .int) fxt_178 = true := by decide +kernel
set_option maxRecDepth 20000 in
theorem fxb_178 : fx_all90 ⟨"StubHouse$Library", "restoreTree", "()I"⟩ prog_4_method_26_code fxt_178 = true := by decide +kernel
set_option maxRecDepth 20000 in
theorem fxm_179 : zc_meth (⟨"StubHouse", "rebuild", "()I"⟩, prog_1_method_25_code, 1, (some .int)) (1645, 1, 1643, 1644) = true := by decide +kernel
set_option maxRecDepth 20000 in
theorem fxa_179 : zc_all fx_ms2 fx_mh fx_Cs fx_nms ⟨"StubHouse", "rebuild", "()I"⟩ prog_1_method_25_code 1 (some .int) fxt_179 = true := by decide +kernel
set_option maxRecDepth 20000 in
theorem fxb_179 : fx_all90 ⟨"StubHouse", "rebuild", "()I"⟩ prog_1_method_25_code fxt_179 = true := by decide +kernel
set_option maxRecDepth 20000 in
theorem fxm_180 : zc_meth (⟨"StubHouseModel", "isFirst", "(II)Z"⟩, prog_14_method_72_code, 6, (some .boolean)) (3248, 14, 3247, 6015) = true := by decide +kernel
set_option maxRecDepth 20000 in
theorem fxa_180 : zc_all fx_ms2 fx_mh fx_Cs fx_nms ⟨"StubHouseModel", "isFirst", "(II)Z"⟩ prog_14_method_72_code 6 (some .boolean) fxt_180 = true := by decide +kernel
set_option maxRecDepth 20000 in
theorem fxb_180 : fx_all90 ⟨"StubHouseModel", "isFirst", "(II)Z"⟩ prog_14_method_72_code fxt_180 = true := by decide +kernel
set_option maxRecDepth 20000 in
theorem fxm_181 : zc_meth (⟨"StubHouseModel", "vseg", "(II)I"⟩, prog_14_method_71_code, 3, (some .int)) (3252, 14, 3251, 6400) = true := by decide +kernel
set_option maxRecDepth 20000 in
theorem fxa_181 : zc_all fx_ms2 fx_mh fx_Cs fx_nms ⟨"StubHouseModel", "vseg", "(II)I"⟩ prog_14_method_71_code 3 (some .int) fxt_181 = true := by decide +kernel
set_option maxRecDepth 20000 in
theorem fxb_181 : fx_all90 ⟨"StubHouseModel", "vseg", "(II)I"⟩ prog_14_method_71_code fxt_181 = true := by decide +kernel
set_option maxRecDepth 20000 in
theorem fxm_182 : zc_meth (⟨"StubHouseModel", "isWithin", "(IIII)Z"⟩, prog_14_method_73_code, 8, (some .boolean)) (3256, 14, 3255, 6401) = true := by decide +kernel
set_option maxRecDepth 20000 in
theorem fxa_182 : zc_all fx_ms2 fx_mh fx_Cs fx_nms ⟨"StubHouseModel", "isWithin", "(IIII)Z"⟩ prog_14_method_73_code 8 (some .boolean) fxt_182 = true := by decide +kernel
set_option maxRecDepth 20000 in
theorem fxb_182 : fx_all90 ⟨"StubHouseModel", "isWithin", "(IIII)Z"⟩ prog_14_method_73_code fxt_182 = true := by decide +kernel
set_option maxRecDepth 20000 in
theorem fxm_183 : zc_meth (⟨"StubHouseModel", "findView", "()V"⟩, prog_14_method_74_code, 7, none) (3244, 14, 3243, 6014) = true := by decide +kernel
set_option maxRecDepth 20000 in
theorem fxa_183 : zc_all fx_ms2 fx_mh fx_Cs fx_nms ⟨"StubHouseModel", "findView", "()V"⟩ prog_14_method_74_code 7 none fxt_183 = true := by decide +kernel
set_option maxRecDepth 20000 in
theorem fxb_183 : fx_all90 ⟨"StubHouseModel", "findView", "()V"⟩ prog_14_method_74_code fxt_183 = true := by decide +kernel
set_option maxRecDepth 20000 in
theorem fxm_184 : zc_meth (⟨"StubHouseModel", "nameOn", "(II)J"⟩, prog_14_method_76_code, 6, (some .long)) (3268, 14, 3267, 6403) = true := by decide +kernel
set_option maxRecDepth 20000 in
theorem fxa_184 : zc_all fx_ms2 fx_mh fx_Cs fx_nms ⟨"StubHouseModel", "nameOn", "(II)J"⟩ prog_14_method_76_code 6 (some .long) fxt_184 = true := by decide +kernel
set_option maxRecDepth 20000 in
theorem fxb_184 : fx_all90 ⟨"StubHouseModel", "nameOn", "(II)J"⟩ prog_14_method_76_code fxt_184 = true := by decide +kernel
set_option maxRecDepth 20000 in
theorem fxm_185 : zc_meth (⟨"StubHouseModel", "fits", "(III)I"⟩, prog_14_method_63_code, 6, (some .int)) (3220, 14, 3219, 6012) = true := by decide +kernel
set_option maxRecDepth 20000 in
theorem fxa_185 : zc_all fx_ms2 fx_mh fx_Cs fx_nms ⟨"StubHouseModel", "fits", "(III)I"⟩ prog_14_method_63_code 6 (some .int) fxt_185 = true := by decide +kernel
set_option maxRecDepth 20000 in
theorem fxb_185 : fx_all90 ⟨"StubHouseModel", "fits", "(III)I"⟩ prog_14_method_63_code fxt_185 = true := by decide +kernel
set_option maxRecDepth 20000 in
theorem fxm_186 : zc_meth (⟨"StubHouseModel", "note", "(III)V"⟩, prog_14_method_79_code, 5, none) (3272, 14, 3271, 6404) = true := by decide +kernel
set_option maxRecDepth 20000 in
theorem fxa_186 : zc_all fx_ms2 fx_mh fx_Cs fx_nms ⟨"StubHouseModel", "note", "(III)V"⟩ prog_14_method_79_code 5 none fxt_186 = true := by decide +kernel
set_option maxRecDepth 20000 in
theorem fxb_186 : fx_all90 ⟨"StubHouseModel", "note", "(III)V"⟩ prog_14_method_79_code fxt_186 = true := by decide +kernel
set_option maxRecDepth 20000 in
theorem fxm_187 : zc_meth (⟨"StubHouseModel", "rebuildFile", "(II)V"⟩, prog_14_method_78_code, 12, none) (3264, 14, 3263, 6402) = true := by decide +kernel
set_option maxRecDepth 20000 in
theorem fxa_187 : zc_all fx_ms2 fx_mh fx_Cs fx_nms ⟨"StubHouseModel", "rebuildFile", "(II)V"⟩ prog_14_method_78_code 12 none fxt_187 = true := by decide +kernel
set_option maxRecDepth 20000 in
theorem fxb_187 : fx_all90 ⟨"StubHouseModel", "rebuildFile", "(II)V"⟩ prog_14_method_78_code fxt_187 = true := by decide +kernel
set_option maxRecDepth 20000 in
theorem fxm_188 : zc_meth (⟨"StubHouseModel", "rebuild", "()I"⟩, prog_14_method_77_code, 3, (some .int)) (3260, 14, 3258, 3259) = true := by decide +kernel
set_option maxRecDepth 20000 in
theorem fxa_188 : zc_all fx_ms2 fx_mh fx_Cs fx_nms ⟨"StubHouseModel", "rebuild", "()I"⟩ prog_14_method_77_code 3 (some .int) fxt_188 = true := by decide +kernel
set_option maxRecDepth 20000 in
theorem fxb_188 : fx_all90 ⟨"StubHouseModel", "rebuild", "()I"⟩ prog_14_method_77_code fxt_188 = true := by decide +kernel
set_option maxRecDepth 20000 in
theorem fxm_189 : zc_meth (⟨"StubHouse$Stores", "hasRoomFor", "(I)Z"⟩, prog_9_method_3_code, 2, (some .boolean)) (1761, 5, 1759, 1760) = true := by decide +kernel
set_option maxRecDepth 20000 in
theorem fxa_189 : zc_all fx_ms2 fx_mh fx_Cs fx_nms ⟨"StubHouse$Stores", "hasRoomFor", "(I)Z"⟩ prog_9_method_3_code 2 (some .boolean) fxt_189 = true := by decide +kernel
set_option maxRecDepth 20000 in
theorem fxb_189 : fx_all90 ⟨"StubHouse$Stores", "hasRoomFor", "(I)Z"⟩ prog_9_method_3_code fxt_189 = true := by decide +kernel
set_option maxRecDepth 20000 in
theorem fxm_190 : zc_meth (⟨"StubHouse$Reader", "counts", "(LStubHouse$Node;)Z"⟩, prog_8_method_5_code, 2, (some .boolean)) (1756, 11, 1755, 4404) = true := by decide +kernel
set_option maxRecDepth 20000 in
theorem fxa_190 : zc_all fx_ms2 fx_mh fx_Cs fx_nms ⟨"StubHouse$Reader", "counts", "(LStubHouse$Node;)Z"⟩ prog_8_method_5_code 2 (some .boolean) fxt_190 = true := by decide +kernel
set_option maxRecDepth 20000 in
theorem fxb_190 : fx_all90 ⟨"StubHouse$Reader", "counts", "(LStubHouse$Node;)Z"⟩ prog_8_method_5_code fxt_190 = true := by decide +kernel
set_option maxRecDepth 20000 in
theorem fxm_191 : zc_meth (⟨"StubHouse$Reader", "firstRecall", "()I"⟩, prog_8_method_6_code, 3, (some .int)) (1752, 11, 1751, 4403) = true := by decide +kernel
set_option maxRecDepth 20000 in
theorem fxa_191 : zc_all fx_ms2 fx_mh fx_Cs fx_nms ⟨"StubHouse$Reader", "firstRecall", "()I"⟩ prog_8_method_6_code 3 (some .int) fxt_191 = true := by decide +kernel
set_option maxRecDepth 20000 in
theorem fxb_191 : fx_all90 ⟨"StubHouse$Reader", "firstRecall", "()I"⟩ prog_8_method_6_code fxt_191 = true := by decide +kernel
set_option maxRecDepth 20000 in
theorem fxm_192 : zc_meth (⟨"StubHouse$Reader", "nearestRecall", "()I"⟩, prog_8_method_7_code, 8, (some .int)) (1765, 11, 1764, 4405) = true := by decide +kernel
set_option maxRecDepth 20000 in
theorem fxa_192 : zc_all fx_ms2 fx_mh fx_Cs fx_nms ⟨"StubHouse$Reader", "nearestRecall", "()I"⟩ prog_8_method_7_code 8 (some .int) fxt_192 = true := by decide +kernel
set_option maxRecDepth 20000 in
theorem fxb_192 : fx_all90 ⟨"StubHouse$Reader", "nearestRecall", "()I"⟩ prog_8_method_7_code fxt_192 = true := by decide +kernel
set_option maxRecDepth 20000 in
theorem fxm_193 : zc_meth (⟨"StubHouse$Drive", "beginWinding", "(I)V"⟩, prog_3_method_5_code, 2, none) (1775, 10, 1774, 0) = true := by decide +kernel
set_option maxRecDepth 20000 in
theorem fxa_193 : zc_all fx_ms2 fx_mh fx_Cs fx_nms ⟨"StubHouse$Drive", "beginWinding", "(I)V"⟩ prog_3_method_5_code 2 none fxt_193 = true := by decide +kernel
set_option maxRecDepth 20000 in
theorem fxb_193 : fx_all90 ⟨"StubHouse$Drive", "beginWinding", "(I)V"⟩ prog_3_method_5_code fxt_193 = true := by decide +kernel
set_option maxRecDepth 20000 in
theorem fxm_194 : zc_meth (⟨"StubHouse$Reader", "beginReading", "(II)V"⟩, prog_8_method_9_code, 3, none) (1782, 11, 1781, 4407) = true := by decide +kernel
set_option maxRecDepth 20000 in
theorem fxa_194 : zc_all fx_ms2 fx_mh fx_Cs fx_nms ⟨"StubHouse$Reader", "beginReading", "(II)V"⟩ prog_8_method_9_code 3 none fxt_194 = true := by decide +kernel
set_option maxRecDepth 20000 in
theorem fxb_194 : fx_all90 ⟨"StubHouse$Reader", "beginReading", "(II)V"⟩ prog_8_method_9_code fxt_194 = true := by decide +kernel
set_option maxRecDepth 20000 in
theorem fxm_195 : zc_meth (⟨"StubHouse$Reader", "goOnRecalling", "(I)V"⟩, prog_8_method_8_code, 4, none) (1769, 11, 1768, 4406) = true := by decide +kernel
set_option maxRecDepth 20000 in
theorem fxa_195 : zc_all fx_ms2 fx_mh fx_Cs fx_nms ⟨"StubHouse$Reader", "goOnRecalling", "(I)V"⟩ prog_8_method_8_code 4 none fxt_195 = true := by decide +kernel
set_option maxRecDepth 20000 in
theorem fxb_195 : fx_all90 ⟨"StubHouse$Reader", "goOnRecalling", "(I)V"⟩ prog_8_method_8_code fxt_195 = true := by decide +kernel
set_option maxRecDepth 20000 in
theorem fxm_196 : zc_meth (⟨"StubHouse$Node", "copyAt", "(II)I"⟩, prog_7_method_9_code, 4, (some .int)) (1802, 3, 1800, 1801) = true := by decide +kernel
set_option maxRecDepth 20000 in
theorem fxa_196 : zc_all fx_ms2 fx_mh fx_Cs fx_nms ⟨"StubHouse$Node", "copyAt", "(II)I"⟩ prog_7_method_9_code 4 (some .int) fxt_196 = true := by decide +kernel
set_option maxRecDepth 20000 in
theorem fxb_196 : fx_all90 ⟨"StubHouse$Node", "copyAt", "(II)I"⟩ prog_7_method_9_code fxt_196 = true := by decide +kernel
set_option maxRecDepth 20000 in
theorem fxm_197 : zc_meth (⟨"StubHouse$Library", "isCopyOfFile", "(II)Z"⟩, prog_4_method_10_code, 6, (some .boolean)) (1798, 8, 1797, 4408) = true := by decide +kernel
set_option maxRecDepth 20000 in
theorem fxa_197 : zc_all fx_ms2 fx_mh fx_Cs fx_nms ⟨"StubHouse$Library", "isCopyOfFile", "(II)Z"⟩ prog_4_method_10_code 6 (some .boolean) fxt_197 = true := by decide +kernel
set_option maxRecDepth 20000 in
theorem fxb_197 : fx_all90 ⟨"StubHouse$Library", "isCopyOfFile", "(II)Z"⟩ prog_4_method_10_code fxt_197 = true := by decide +kernel
set_option maxRecDepth 20000 in
theorem fxm_198 : zc_meth (⟨"StubHouse$Library", "isLatest", "(II)Z"⟩, prog_4_method_11_code, 9, (some .boolean)) (1806, 8, 1805, 4409) = true := by decide +kernel
set_option maxRecDepth 20000 in
theorem fxa_198 : zc_all fx_ms2 fx_mh fx_Cs fx_nms ⟨"StubHouse$Library", "isLatest", "(II)Z"⟩ prog_4_method_11_code 9 (some .boolean) fxt_198 = true := by decide +kernel
set_option maxRecDepth 20000 in
theorem fxb_198 : fx_all90 ⟨"StubHouse$Library", "isLatest", "(II)Z"⟩ prog_4_method_11_code fxt_198 = true := by decide +kernel
set_option maxRecDepth 20000 in
theorem fxm_199 : zc_meth (⟨"StubHouse$Library", "isLive", "(II)Z"⟩, prog_4_method_9_code, 3, (some .boolean)) (1794, 8, 1792, 1793) = true := by decide +kernel
set_option maxRecDepth 20000 in
theorem fxa_199 : zc_all fx_ms2 fx_mh fx_Cs fx_nms ⟨"StubHouse$Library", "isLive", "(II)Z"⟩ prog_4_method_9_code 3 (some .boolean) fxt_199 = true := by decide +kernel
set_option maxRecDepth 20000 in
theorem fxb_199 : fx_all90 ⟨"StubHouse$Library", "isLive", "(II)Z"⟩ prog_4_method_9_code fxt_199 = true := by decide +kernel
set_option maxRecDepth 20000 in
theorem fxm_200 : zc_meth (⟨"StubHouse$Library", "nextLive", "(II)I"⟩, prog_4_method_13_code, 4, (some .int)) (1790, 8, 1788, 1789) = true := by decide +kernel
set_option maxRecDepth 20000 in
theorem fxa_200 : zc_all fx_ms2 fx_mh fx_Cs fx_nms ⟨"StubHouse$Library", "nextLive", "(II)I"⟩ prog_4_method_13_code 4 (some .int) fxt_200 = true := by decide +kernel
set_option maxRecDepth 20000 in
theorem fxb_200 : fx_all90 ⟨"StubHouse$Library", "nextLive", "(II)I"⟩ prog_4_method_13_code fxt_200 = true := by decide +kernel
set_option maxRecDepth 20000 in
theorem fxm_201 : zc_meth (⟨"StubHouse$Reader", "goOnReclaiming", "(I)V"⟩, prog_8_method_10_code, 4, none) (1810, 11, 1809, 4410) = true := by decide +kernel
set_option maxRecDepth 20000 in
theorem fxa_201 : zc_all fx_ms2 fx_mh fx_Cs fx_nms ⟨"StubHouse$Reader", "goOnReclaiming", "(I)V"⟩ prog_8_method_10_code 4 none fxt_201 = true := by decide +kernel
set_option maxRecDepth 20000 in
theorem fxb_201 : fx_all90 ⟨"StubHouse$Reader", "goOnReclaiming", "(I)V"⟩ prog_8_method_10_code fxt_201 = true := by decide +kernel
set_option maxRecDepth 20000 in
theorem fxm_202 : zc_meth (⟨"StubHouse$Tape", "forgetScan", "()V"⟩, prog_10_method_20_code, 1, none) (1826, 9, 1824, 1825) = true := by decide +kernel
set_option maxRecDepth 20000 in
theorem fxa_202 : zc_all fx_ms2 fx_mh fx_Cs fx_nms ⟨"StubHouse$Tape", "forgetScan", "()V"⟩ prog_10_method_20_code 1 none fxt_202 = true := by decide +kernel
set_option maxRecDepth 20000 in
theorem fxb_202 : fx_all90 ⟨"StubHouse$Tape", "forgetScan", "()V"⟩ prog_10_method_20_code fxt_202 = true := by decide +kernel
set_option maxRecDepth 20000 in
theorem fxm_203 : zc_meth (⟨"StubHouse$Library", "wipe", "(I)V"⟩, prog_4_method_4_code, 2, none) (1821, 8, 1819, 1820) = true := by decide +kernel
set_option maxRecDepth 20000 in
theorem fxa_203 : zc_all fx_ms2 fx_mh fx_Cs fx_nms ⟨"StubHouse$Library", "wipe", "(I)V"⟩ prog_4_method_4_code 2 none fxt_203 = true := by decide +kernel
set_option maxRecDepth 20000 in
theorem fxb_203 : fx_all90 ⟨"StubHouse$Library", "wipe", "(I)V"⟩ prog_4_method_4_code fxt_203 = true := by decide +kernel
set_option maxRecDepth 20000 in
theorem fxm_204 : zc_meth (⟨"StubHouse$Node", "takeCopy", "(I)V"⟩, prog_7_method_11_code, 3, none) (1838, 3, 1836, 1837) = true := by decide +kernel
set_option maxRecDepth 20000 in
theorem fxa_204 : zc_all fx_ms2 fx_mh fx_Cs fx_nms ⟨"StubHouse$Node", "takeCopy", "(I)V"⟩ prog_7_method_11_code 3 none fxt_204 = true := by decide +kernel
set_option maxRecDepth 20000 in
theorem fxb_204 : fx_all90 ⟨"StubHouse$Node", "takeCopy", "(I)V"⟩ prog_7_method_11_code fxt_204 = true := by decide +kernel
set_option maxRecDepth 20000 in
theorem fxm_205 : zc_meth (⟨"StubHouse$Changes", "dropCopy", "(II)V"⟩, prog_2_method_16_code, 3, none) (1834, 7, 1832, 1833) = true := by decide +kernel
set_option maxRecDepth 20000 in
theorem fxa_205 : zc_all fx_ms2 fx_mh fx_Cs fx_nms ⟨"StubHouse$Changes", "dropCopy", "(II)V"⟩ prog_2_method_16_code 3 none fxt_205 = true := by decide +kernel
set_option maxRecDepth 20000 in
theorem fxb_205 : fx_all90 ⟨"StubHouse$Changes", "dropCopy", "(II)V"⟩ prog_2_method_16_code fxt_205 = true := by decide +kernel
set_option maxRecDepth 20000 in
theorem fxm_206 : zc_meth (⟨"StubHouse$Changes", "dropCopiesOn", "(I)V"⟩, prog_2_method_17_code, 5, none) (1830, 7, 1828, 1829) = true := by decide +kernel
set_option maxRecDepth 20000 in
theorem fxa_206 : zc_all fx_ms2 fx_mh fx_Cs fx_nms ⟨"StubHouse$Changes", "dropCopiesOn", "(I)V"⟩ prog_2_method_17_code 5 none fxt_206 = true := by decide +kernel
set_option maxRecDepth 20000 in
theorem fxb_206 : fx_all90 ⟨"StubHouse$Changes", "dropCopiesOn", "(I)V"⟩ prog_2_method_17_code fxt_206 = true := by decide +kernel
set_option maxRecDepth 20000 in
theorem fxm_207 : zc_meth (⟨"StubHouse$Reader", "blankReclaimed", "()V"⟩, prog_8_method_11_code, 2, none) (1816, 11, 1815, 4411) = true := by decide +kernel
set_option maxRecDepth 20000 in
theorem fxa_207 : zc_all fx_ms2 fx_mh fx_Cs fx_nms ⟨"StubHouse$Reader", "blankReclaimed", "()V"⟩ prog_8_method_11_code 2 none fxt_207 = true := by decide +kernel
set_option maxRecDepth 20000 in
theorem fxb_207 : fx_all90 ⟨"StubHouse$Reader", "blankReclaimed", "()V"⟩ prog_8_method_11_code fxt_207 = true := by decide +kernel
set_option maxRecDepth 20000 in
theorem fxm_208 : zc_meth (⟨"StubHouse$Drive", "beginUnmounting", "()V"⟩, prog_3_method_4_code, 1, none) (2008, 10, 2007, 0) = true := by decide +kernel
set_option maxRecDepth 20000 in
theorem fxa_208 : zc_all fx_ms2 fx_mh fx_Cs fx_nms ⟨"StubHouse$Drive", "beginUnmounting", "()V"⟩ prog_3_method_4_code 1 none fxt_208 = true := by decide +kernel
set_option maxRecDepth 20000 in
theorem fxb_208 : fx_all90 ⟨"StubHouse$Drive", "beginUnmounting", "()V"⟩ prog_3_method_4_code fxt_208 = true := by decide +kernel
set_option maxRecDepth 20000 in
theorem fxm_209 : zc_meth (⟨"StubHouse$Drive", "beginMounting", "(I)V"⟩, prog_3_method_3_code, 2, none) (2014, 10, 2013, 0) = true := by decide +kernel
set_option maxRecDepth 20000 in
theorem fxa_209 : zc_all fx_ms2 fx_mh fx_Cs fx_nms ⟨"StubHouse$Drive", "beginMounting", "(I)V"⟩ prog_3_method_3_code 2 none fxt_209 = true := by decide +kernel
set_option maxRecDepth 20000 in
theorem fxb_209 : fx_all90 ⟨"StubHouse$Drive", "beginMounting", "(I)V"⟩ prog_3_method_3_code fxt_209 = true := by decide +kernel
set_option maxRecDepth 20000 in
theorem fxm_210 : zc_meth (⟨"StubHouse$Reader", "changeTape", "(II)V"⟩, prog_8_method_12_code, 3, none) (2002, 11, 2001, 4412) = true := by decide +kernel
set_option maxRecDepth 20000 in
theorem fxa_210 : zc_all fx_ms2 fx_mh fx_Cs fx_nms ⟨"StubHouse$Reader", "changeTape", "(II)V"⟩ prog_8_method_12_code 3 none fxt_210 = true := by decide +kernel
set_option maxRecDepth 20000 in
theorem fxb_210 : fx_all90 ⟨"StubHouse$Reader", "changeTape", "(II)V"⟩ prog_8_method_12_code fxt_210 = true := by decide +kernel
set_option maxRecDepth 20000 in
theorem fxm_211 : zc_meth (⟨"StubHouse$Reader", "choose", "(I)V"⟩, prog_8_method_4_code, 5, none) (1748, 11, 1746, 1747) = true := by decide +kernel
set_option maxRecDepth 20000 in
theorem fxa_211 : zc_all fx_ms2 fx_mh fx_Cs fx_nms ⟨"StubHouse$Reader", "choose", "(I)V"⟩ prog_8_method_4_code 5 none fxt_211 = true := by decide +kernel
set_option maxRecDepth 20000 in
theorem fxb_211 : fx_all90 ⟨"StubHouse$Reader", "choose", "(I)V"⟩ prog_8_method_4_code fxt_211 = true := by decide +kernel
