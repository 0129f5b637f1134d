/-! the rows of the tables, checked -/
set_option maxRecDepth 20000 in
theorem fxm_212 : zc_meth (⟨"StubHouse$Drive", "spend", "()Z"⟩, prog_3_method_7_code, 2, (some .boolean)) (2020, 10, 2019, 0) = true := by decide +kernel
set_option maxRecDepth 20000 in
theorem fxa_212 : zc_all fx_ms2 fx_mh fx_Cs fx_nms ⟨"StubHouse$Drive", "spend", "()Z"⟩ prog_3_method_7_code 2 (some .boolean) fxt_212 = true := by decide +kernel
set_option maxRecDepth 20000 in
theorem fxb_212 : fx_all90 ⟨"StubHouse$Drive", "spend", "()Z"⟩ prog_3_method_7_code fxt_212 = true := by decide +kernel
set_option maxRecDepth 20000 in
theorem fxm_213 : zc_meth (⟨"StubHouse$Tape", "indexAt", "(I)I"⟩, prog_10_method_14_code, 3, (some .int)) (2035, 9, 2033, 2034) = true := by decide +kernel
set_option maxRecDepth 20000 in
theorem fxa_213 : zc_all fx_ms2 fx_mh fx_Cs fx_nms ⟨"StubHouse$Tape", "indexAt", "(I)I"⟩ prog_10_method_14_code 3 (some .int) fxt_213 = true := by decide +kernel
set_option maxRecDepth 20000 in
theorem fxb_213 : fx_all90 ⟨"StubHouse$Tape", "indexAt", "(I)I"⟩ prog_10_method_14_code fxt_213 = true := by decide +kernel
set_option maxRecDepth 20000 in
theorem fxm_214 : zc_meth (⟨"StubHouse$Changes", "recall", "(I[BI)V"⟩, prog_2_method_11_code, 9, none) (2042, 7, 2040, 2041) = true := by decide +kernel
set_option maxRecDepth 20000 in
theorem fxa_214 : zc_all fx_ms2 fx_mh fx_Cs fx_nms ⟨"StubHouse$Changes", "recall", "(I[BI)V"⟩ prog_2_method_11_code 9 none fxt_214 = true := by decide +kernel
set_option maxRecDepth 20000 in
theorem fxb_214 : fx_all90 ⟨"StubHouse$Changes", "recall", "(I[BI)V"⟩ prog_2_method_11_code fxt_214 = true := by decide +kernel
set_option maxRecDepth 20000 in
theorem fxm_215 : zc_meth (⟨"StubHouse$Reader", "endRecall", "()V"⟩, prog_8_method_14_code, 4, none) (2028, 11, 2027, 4413) = true := by decide +kernel
set_option maxRecDepth 20000 in
theorem fxa_215 : zc_all fx_ms2 fx_mh fx_Cs fx_nms ⟨"StubHouse$Reader", "endRecall", "()V"⟩ prog_8_method_14_code 4 none fxt_215 = true := by decide +kernel
set_option maxRecDepth 20000 in
theorem fxb_215 : fx_all90 ⟨"StubHouse$Reader", "endRecall", "()V"⟩ prog_8_method_14_code fxt_215 = true := by decide +kernel
set_option maxRecDepth 20000 in
theorem fxm_216 : zc_meth (⟨"StubHouse$Reader", "endReclaim", "()V"⟩, prog_8_method_15_code, 2, none) (2047, 11, 2046, 4414) = true := by decide +kernel
set_option maxRecDepth 20000 in
theorem fxa_216 : zc_all fx_ms2 fx_mh fx_Cs fx_nms ⟨"StubHouse$Reader", "endReclaim", "()V"⟩ prog_8_method_15_code 2 none fxt_216 = true := by decide +kernel
set_option maxRecDepth 20000 in
theorem fxb_216 : fx_all90 ⟨"StubHouse$Reader", "endReclaim", "()V"⟩ prog_8_method_15_code fxt_216 = true := by decide +kernel
set_option maxRecDepth 20000 in
theorem fxm_217 : zc_meth (⟨"StubHouse$Reader", "finish", "()V"⟩, prog_8_method_13_code, 1, none) (2024, 11, 2022, 2023) = true := by decide +kernel
set_option maxRecDepth 20000 in
theorem fxa_217 : zc_all fx_ms2 fx_mh fx_Cs fx_nms ⟨"StubHouse$Reader", "finish", "()V"⟩ prog_8_method_13_code 1 none fxt_217 = true := by decide +kernel
set_option maxRecDepth 20000 in
theorem fxb_217 : fx_all90 ⟨"StubHouse$Reader", "finish", "()V"⟩ prog_8_method_13_code fxt_217 = true := by decide +kernel
set_option maxRecDepth 20000 in
theorem fxm_218 : zc_meth (⟨"StubHouse$Writer", "dropFinished", "()V"⟩, prog_12_method_6_code, 5, none) (2058, 12, 2057, 4415) = true := by decide +kernel
set_option maxRecDepth 20000 in
theorem fxa_218 : zc_all fx_ms2 fx_mh fx_Cs fx_nms ⟨"StubHouse$Writer", "dropFinished", "()V"⟩ prog_12_method_6_code 5 none fxt_218 = true := by decide +kernel
set_option maxRecDepth 20000 in
theorem fxb_218 : fx_all90 ⟨"StubHouse$Writer", "dropFinished", "()V"⟩ prog_12_method_6_code fxt_218 = true := by decide +kernel
set_option maxRecDepth 20000 in
theorem fxm_219 : zc_meth (⟨"StubHouse$Log", "firstKeptDelete", "()I"⟩, prog_5_method_8_code, 2, (some .int)) (2071, 6, 2069, 2070) = true := by decide +kernel
set_option maxRecDepth 20000 in
theorem fxa_219 : zc_all fx_ms2 fx_mh fx_Cs fx_nms ⟨"StubHouse$Log", "firstKeptDelete", "()I"⟩ prog_5_method_8_code 2 (some .int) fxt_219 = true := by decide +kernel
set_option maxRecDepth 20000 in
theorem fxb_219 : fx_all90 ⟨"StubHouse$Log", "firstKeptDelete", "()I"⟩ prog_5_method_8_code fxt_219 = true := by decide +kernel
set_option maxRecDepth 20000 in
theorem fxm_220 : zc_meth (⟨"StubHouse$Node", "hasCopyOn", "(I)Z"⟩, prog_7_method_8_code, 3, (some .boolean)) (2083, 3, 2081, 2082) = true := by decide +kernel
set_option maxRecDepth 20000 in
theorem fxa_220 : zc_all fx_ms2 fx_mh fx_Cs fx_nms ⟨"StubHouse$Node", "hasCopyOn", "(I)Z"⟩ prog_7_method_8_code 3 (some .boolean) fxt_220 = true := by decide +kernel
set_option maxRecDepth 20000 in
theorem fxb_220 : fx_all90 ⟨"StubHouse$Node", "hasCopyOn", "(I)Z"⟩ prog_7_method_8_code fxt_220 = true := by decide +kernel
set_option maxRecDepth 20000 in
theorem fxm_221 : zc_meth (⟨"StubHouse$Writer", "willDo", "(III)Z"⟩, prog_12_method_11_code, 5, (some .boolean)) (2079, 12, 2078, 4802) = true := by decide +kernel
set_option maxRecDepth 20000 in
theorem fxa_221 : zc_all fx_ms2 fx_mh fx_Cs fx_nms ⟨"StubHouse$Writer", "willDo", "(III)Z"⟩ prog_12_method_11_code 5 (some .boolean) fxt_221 = true := by decide +kernel
set_option maxRecDepth 20000 in
theorem fxb_221 : fx_all90 ⟨"StubHouse$Writer", "willDo", "(III)Z"⟩ prog_12_method_11_code fxt_221 = true := by decide +kernel
set_option maxRecDepth 20000 in
theorem fxm_222 : zc_meth (⟨"StubHouse$Writer", "targetFor", "(II)I"⟩, prog_12_method_12_code, 4, (some .int)) (2075, 12, 2074, 4801) = true := by decide +kernel
set_option maxRecDepth 20000 in
theorem fxa_222 : zc_all fx_ms2 fx_mh fx_Cs fx_nms ⟨"StubHouse$Writer", "targetFor", "(II)I"⟩ prog_12_method_12_code 4 (some .int) fxt_222 = true := by decide +kernel
set_option maxRecDepth 20000 in
theorem fxb_222 : fx_all90 ⟨"StubHouse$Writer", "targetFor", "(II)I"⟩ prog_12_method_12_code fxt_222 = true := by decide +kernel
set_option maxRecDepth 20000 in
theorem fxm_223 : zc_meth (⟨"StubHouse$Writer", "isAtEndOf", "(I)Z"⟩, prog_12_method_13_code, 3, (some .boolean)) (2087, 12, 2086, 4803) = true := by decide +kernel
set_option maxRecDepth 20000 in
theorem fxa_223 : zc_all fx_ms2 fx_mh fx_Cs fx_nms ⟨"StubHouse$Writer", "isAtEndOf", "(I)Z"⟩ prog_12_method_13_code 3 (some .boolean) fxt_223 = true := by decide +kernel
set_option maxRecDepth 20000 in
theorem fxb_223 : fx_all90 ⟨"StubHouse$Writer", "isAtEndOf", "(I)Z"⟩ prog_12_method_13_code fxt_223 = true := by decide +kernel
set_option maxRecDepth 20000 in
theorem fxm_224 : zc_meth (⟨"StubHouse$Tape", "putNumber", "([BIIJ)I"⟩, prog_10_method_4_code, 6, (some .int)) (2104, 9, 2103, 0) = true := by decide +kernel
set_option maxRecDepth 20000 in
theorem fxa_224 : zc_all fx_ms2 fx_mh fx_Cs fx_nms ⟨"StubHouse$Tape", "putNumber", "([BIIJ)I"⟩ prog_10_method_4_code 6 (some .int) fxt_224 = true := by decide +kernel
set_option maxRecDepth 20000 in
theorem fxb_224 : fx_all90 ⟨"StubHouse$Tape", "putNumber", "([BIIJ)I"⟩ prog_10_method_4_code fxt_224 = true := by decide +kernel
set_option maxRecDepth 20000 in
theorem fxm_225 : zc_meth (⟨"StubHouse$Writer", "putHead", "(IIII)I"⟩, prog_12_method_15_code, 5, (some .int)) (2101, 12, 2100, 4805) = true := by decide +kernel
set_option maxRecDepth 20000 in
theorem fxa_225 : zc_all fx_ms2 fx_mh fx_Cs fx_nms ⟨"StubHouse$Writer", "putHead", "(IIII)I"⟩ prog_12_method_15_code 5 (some .int) fxt_225 = true := by decide +kernel
set_option maxRecDepth 20000 in
theorem fxb_225 : fx_all90 ⟨"StubHouse$Writer", "putHead", "(IIII)I"⟩ prog_12_method_15_code fxt_225 = true := by decide +kernel
set_option maxRecDepth 20000 in
theorem fxm_226 : zc_meth (⟨"StubHouse$Writer", "putCheck", "(II)I"⟩, prog_12_method_16_code, 3, (some .int)) (2108, 12, 2107, 4806) = true := by decide +kernel
set_option maxRecDepth 20000 in
theorem fxa_226 : zc_all fx_ms2 fx_mh fx_Cs fx_nms ⟨"StubHouse$Writer", "putCheck", "(II)I"⟩ prog_12_method_16_code 3 (some .int) fxt_226 = true := by decide +kernel
set_option maxRecDepth 20000 in
theorem fxb_226 : fx_all90 ⟨"StubHouse$Writer", "putCheck", "(II)I"⟩ prog_12_method_16_code fxt_226 = true := by decide +kernel
set_option maxRecDepth 20000 in
theorem fxm_227 : zc_meth (⟨"StubHouse$Writer", "beginWriting", "(III)V"⟩, prog_12_method_14_code, 6, none) (2113, 12, 2112, 4807) = true := by decide +kernel
set_option maxRecDepth 20000 in
theorem fxa_227 : zc_all fx_ms2 fx_mh fx_Cs fx_nms ⟨"StubHouse$Writer", "beginWriting", "(III)V"⟩ prog_12_method_14_code 6 none fxt_227 = true := by decide +kernel
set_option maxRecDepth 20000 in
theorem fxb_227 : fx_all90 ⟨"StubHouse$Writer", "beginWriting", "(III)V"⟩ prog_12_method_14_code fxt_227 = true := by decide +kernel
set_option maxRecDepth 20000 in
theorem fxm_228 : zc_meth (⟨"StubHouse$Writer", "beginDelete", "(I)V"⟩, prog_12_method_17_code, 3, none) (2097, 12, 2096, 4804) = true := by decide +kernel
set_option maxRecDepth 20000 in
theorem fxa_228 : zc_all fx_ms2 fx_mh fx_Cs fx_nms ⟨"StubHouse$Writer", "beginDelete", "(I)V"⟩ prog_12_method_17_code 3 none fxt_228 = true := by decide +kernel
set_option maxRecDepth 20000 in
theorem fxb_228 : fx_all90 ⟨"StubHouse$Writer", "beginDelete", "(I)V"⟩ prog_12_method_17_code fxt_228 = true := by decide +kernel
set_option maxRecDepth 20000 in
theorem fxm_229 : zc_meth (⟨"StubHouse$Writer", "goForDelete", "()Z"⟩, prog_12_method_8_code, 3, (some .boolean)) (2067, 12, 2066, 4800) = true := by decide +kernel
set_option maxRecDepth 20000 in
theorem fxa_229 : zc_all fx_ms2 fx_mh fx_Cs fx_nms ⟨"StubHouse$Writer", "goForDelete", "()Z"⟩ prog_12_method_8_code 3 (some .boolean) fxt_229 = true := by decide +kernel
set_option maxRecDepth 20000 in
theorem fxb_229 : fx_all90 ⟨"StubHouse$Writer", "goForDelete", "()Z"⟩ prog_12_method_8_code fxt_229 = true := by decide +kernel
set_option maxRecDepth 20000 in
theorem fxm_230 : zc_meth (⟨"StubHouse$Tree", "ownerOf", "(II)I"⟩, prog_11_method_15_code, 4, (some .int)) (2124, 2, 2122, 2123) = true := by decide +kernel
set_option maxRecDepth 20000 in
theorem fxa_230 : zc_all fx_ms2 fx_mh fx_Cs fx_nms ⟨"StubHouse$Tree", "ownerOf", "(II)I"⟩ prog_11_method_15_code 4 (some .int) fxt_230 = true := by decide +kernel
set_option maxRecDepth 20000 in
theorem fxb_230 : fx_all90 ⟨"StubHouse$Tree", "ownerOf", "(II)I"⟩ prog_11_method_15_code fxt_230 = true := by decide +kernel
set_option maxRecDepth 20000 in
theorem fxm_231 : zc_meth (⟨"StubHouse$Writer", "beginParcel", "()V"⟩, prog_12_method_18_code, 1, none) (2129, 12, 2128, 4809) = true := by decide +kernel
set_option maxRecDepth 20000 in
theorem fxa_231 : zc_all fx_ms2 fx_mh fx_Cs fx_nms ⟨"StubHouse$Writer", "beginParcel", "()V"⟩ prog_12_method_18_code 1 none fxt_231 = true := by decide +kernel
set_option maxRecDepth 20000 in
theorem fxb_231 : fx_all90 ⟨"StubHouse$Writer", "beginParcel", "()V"⟩ prog_12_method_18_code fxt_231 = true := by decide +kernel
set_option maxRecDepth 20000 in
theorem fxm_232 : zc_meth (⟨"StubHouse$Writer", "goForParcel", "()Z"⟩, prog_12_method_9_code, 3, (some .boolean)) (2120, 12, 2119, 4808) = true := by decide +kernel
set_option maxRecDepth 20000 in
theorem fxa_232 : zc_all fx_ms2 fx_mh fx_Cs fx_nms ⟨"StubHouse$Writer", "goForParcel", "()Z"⟩ prog_12_method_9_code 3 (some .boolean) fxt_232 = true := by decide +kernel
set_option maxRecDepth 20000 in
theorem fxb_232 : fx_all90 ⟨"StubHouse$Writer", "goForParcel", "()Z"⟩ prog_12_method_9_code fxt_232 = true := by decide +kernel
set_option maxRecDepth 20000 in
theorem fxm_233 : zc_meth (⟨"StubHouse$Stores", "takeOut", "(I[BII)V"⟩, prog_9_method_13_code, 5, none) (2146, 5, 2144, 2145) = true := by decide +kernel
set_option maxRecDepth 20000 in
theorem fxa_233 : zc_all fx_ms2 fx_mh fx_Cs fx_nms ⟨"StubHouse$Stores", "takeOut", "(I[BII)V"⟩ prog_9_method_13_code 5 none fxt_233 = true := by decide +kernel
set_option maxRecDepth 20000 in
theorem fxb_233 : fx_all90 ⟨"StubHouse$Stores", "takeOut", "(I[BII)V"⟩ prog_9_method_13_code fxt_233 = true := by decide +kernel
set_option maxRecDepth 20000 in
theorem fxm_234 : zc_meth (⟨"StubHouse$Writer", "beginFile", "(I)V"⟩, prog_12_method_19_code, 10, none) (2140, 12, 2139, 4811) = true := by decide +kernel
set_option maxRecDepth 20000 in
theorem fxa_234 : zc_all fx_ms2 fx_mh fx_Cs fx_nms ⟨"StubHouse$Writer", "beginFile", "(I)V"⟩ prog_12_method_19_code 10 none fxt_234 = true := by decide +kernel
set_option maxRecDepth 20000 in
theorem fxb_234 : fx_all90 ⟨"StubHouse$Writer", "beginFile", "(I)V"⟩ prog_12_method_19_code fxt_234 = true := by decide +kernel
set_option maxRecDepth 20000 in
theorem fxm_235 : zc_meth (⟨"StubHouse$Writer", "goForFile", "()V"⟩, prog_12_method_10_code, 5, none) (2135, 12, 2134, 4810) = true := by decide +kernel
set_option maxRecDepth 20000 in
theorem fxa_235 : zc_all fx_ms2 fx_mh fx_Cs fx_nms ⟨"StubHouse$Writer", "goForFile", "()V"⟩ prog_12_method_10_code 5 none fxt_235 = true := by decide +kernel
set_option maxRecDepth 20000 in
theorem fxb_235 : fx_all90 ⟨"StubHouse$Writer", "goForFile", "()V"⟩ prog_12_method_10_code fxt_235 = true := by decide +kernel
set_option maxRecDepth 20000 in
theorem fxm_236 : zc_meth (⟨"StubHouse$Writer", "choose", "()V"⟩, prog_12_method_7_code, 1, none) (2054, 12, 2052, 2053) = true := by decide +kernel
set_option maxRecDepth 20000 in
theorem fxa_236 : zc_all fx_ms2 fx_mh fx_Cs fx_nms ⟨"StubHouse$Writer", "choose", "()V"⟩ prog_12_method_7_code 1 none fxt_236 = true := by decide +kernel
set_option maxRecDepth 20000 in
theorem fxb_236 : fx_all90 ⟨"StubHouse$Writer", "choose", "()V"⟩ prog_12_method_7_code fxt_236 = true := by decide +kernel
set_option maxRecDepth 20000 in
theorem fxm_237 : zc_meth (⟨"StubHouse$Tape", "noteGrowth", "()V"⟩, prog_10_method_21_code, 1, none) (2163, 9, 2161, 2162) = true := by decide +kernel
set_option maxRecDepth 20000 in
theorem fxa_237 : zc_all fx_ms2 fx_mh fx_Cs fx_nms ⟨"StubHouse$Tape", "noteGrowth", "()V"⟩ prog_10_method_21_code 1 none fxt_237 = true := by decide +kernel
set_option maxRecDepth 20000 in
theorem fxb_237 : fx_all90 ⟨"StubHouse$Tape", "noteGrowth", "()V"⟩ prog_10_method_21_code fxt_237 = true := by decide +kernel
set_option maxRecDepth 20000 in
theorem fxm_238 : zc_meth (⟨"StubHouse$Library", "append", "(I[BI)I"⟩, prog_4_method_5_code, 6, (some .int)) (2157, 8, 2155, 2156) = true := by decide +kernel
set_option maxRecDepth 20000 in
theorem fxa_238 : zc_all fx_ms2 fx_mh fx_Cs fx_nms ⟨"StubHouse$Library", "append", "(I[BI)I"⟩ prog_4_method_5_code 6 (some .int) fxt_238 = true := by decide +kernel
set_option maxRecDepth 20000 in
theorem fxb_238 : fx_all90 ⟨"StubHouse$Library", "append", "(I[BI)I"⟩ prog_4_method_5_code fxt_238 = true := by decide +kernel
set_option maxRecDepth 20000 in
theorem fxm_239 : zc_meth (⟨"StubHouse$Changes", "noteDeleteWritten", "(I)V"⟩, prog_2_method_18_code, 2, none) (2168, 7, 2166, 2167) = true := by decide +kernel
set_option maxRecDepth 20000 in
theorem fxa_239 : zc_all fx_ms2 fx_mh fx_Cs fx_nms ⟨"StubHouse$Changes", "noteDeleteWritten", "(I)V"⟩ prog_2_method_18_code 2 none fxt_239 = true := by decide +kernel
set_option maxRecDepth 20000 in
theorem fxb_239 : fx_all90 ⟨"StubHouse$Changes", "noteDeleteWritten", "(I)V"⟩ prog_2_method_18_code fxt_239 = true := by decide +kernel
set_option maxRecDepth 20000 in
theorem fxm_240 : zc_meth (⟨"StubHouse$Changes", "putCopy", "(IIII)V"⟩, prog_2_method_15_code, 5, none) (2177, 7, 2175, 2176) = true := by decide +kernel
set_option maxRecDepth 20000 in
theorem fxa_240 : zc_all fx_ms2 fx_mh fx_Cs fx_nms ⟨"StubHouse$Changes", "putCopy", "(IIII)V"⟩ prog_2_method_15_code 5 none fxt_240 = true := by decide +kernel
set_option maxRecDepth 20000 in
theorem fxb_240 : fx_all90 ⟨"StubHouse$Changes", "putCopy", "(IIII)V"⟩ prog_2_method_15_code fxt_240 = true := by decide +kernel
set_option maxRecDepth 20000 in
theorem fxm_241 : zc_meth (⟨"StubHouse$Writer", "endParcel", "(I)V"⟩, prog_12_method_21_code, 4, none) (2172, 12, 2171, 4812) = true := by decide +kernel
set_option maxRecDepth 20000 in
theorem fxa_241 : zc_all fx_ms2 fx_mh fx_Cs fx_nms ⟨"StubHouse$Writer", "endParcel", "(I)V"⟩ prog_12_method_21_code 4 none fxt_241 = true := by decide +kernel
set_option maxRecDepth 20000 in
theorem fxb_241 : fx_all90 ⟨"StubHouse$Writer", "endParcel", "(I)V"⟩ prog_12_method_21_code fxt_241 = true := by decide +kernel
set_option maxRecDepth 20000 in
theorem fxm_242 : zc_meth (⟨"StubHouse$Changes", "noteCopy", "(III)V"⟩, prog_2_method_14_code, 4, none) (2185, 7, 2183, 2184) = true := by decide +kernel
set_option maxRecDepth 20000 in
theorem fxa_242 : zc_all fx_ms2 fx_mh fx_Cs fx_nms ⟨"StubHouse$Changes", "noteCopy", "(III)V"⟩ prog_2_method_14_code 4 none fxt_242 = true := by decide +kernel
set_option maxRecDepth 20000 in
theorem fxb_242 : fx_all90 ⟨"StubHouse$Changes", "noteCopy", "(III)V"⟩ prog_2_method_14_code fxt_242 = true := by decide +kernel
set_option maxRecDepth 20000 in
theorem fxm_243 : zc_meth (⟨"StubHouse$Writer", "endFile", "(I)V"⟩, prog_12_method_22_code, 4, none) (2181, 12, 2180, 4813) = true := by decide +kernel
set_option maxRecDepth 20000 in
theorem fxa_243 : zc_all fx_ms2 fx_mh fx_Cs fx_nms ⟨"StubHouse$Writer", "endFile", "(I)V"⟩ prog_12_method_22_code 4 none fxt_243 = true := by decide +kernel
set_option maxRecDepth 20000 in
theorem fxb_243 : fx_all90 ⟨"StubHouse$Writer", "endFile", "(I)V"⟩ prog_12_method_22_code fxt_243 = true := by decide +kernel
set_option maxRecDepth 20000 in
theorem fxm_244 : zc_meth (⟨"StubHouse$Writer", "finish", "()V"⟩, prog_12_method_20_code, 2, none) (2153, 12, 2151, 2152) = true := by decide +kernel
set_option maxRecDepth 20000 in
theorem fxa_244 : zc_all fx_ms2 fx_mh fx_Cs fx_nms ⟨"StubHouse$Writer", "finish", "()V"⟩ prog_12_method_20_code 2 none fxt_244 = true := by decide +kernel
set_option maxRecDepth 20000 in
theorem fxb_244 : fx_all90 ⟨"StubHouse$Writer", "finish", "()V"⟩ prog_12_method_20_code fxt_244 = true := by decide +kernel
set_option maxRecDepth 20000 in
theorem fxm_245 : zc_meth (⟨"StubHouse$Migrator", "modeOf", "(IZ)Z"⟩, prog_6_method_4_code, 3, (some .boolean)) (2194, 13, 2193, 4814) = true := by decide +kernel
set_option maxRecDepth 20000 in
theorem fxa_245 : zc_all fx_ms2 fx_mh fx_Cs fx_nms ⟨"StubHouse$Migrator", "modeOf", "(IZ)Z"⟩ prog_6_method_4_code 3 (some .boolean) fxt_245 = true := by decide +kernel
set_option maxRecDepth 20000 in
theorem fxb_245 : fx_all90 ⟨"StubHouse$Migrator", "modeOf", "(IZ)Z"⟩ prog_6_method_4_code fxt_245 = true := by decide +kernel
set_option maxRecDepth 20000 in
theorem fxm_246 : zc_meth (⟨"StubHouse$Migrator", "rankFiles", "(I)V"⟩, prog_6_method_5_code, 6, none) (2198, 13, 2197, 4815) = true := by decide +kernel
set_option maxRecDepth 20000 in
theorem fxa_246 : zc_all fx_ms2 fx_mh fx_Cs fx_nms ⟨"StubHouse$Migrator", "rankFiles", "(I)V"⟩ prog_6_method_5_code 6 none fxt_246 = true := by decide +kernel
set_option maxRecDepth 20000 in
theorem fxb_246 : fx_all90 ⟨"StubHouse$Migrator", "rankFiles", "(I)V"⟩ prog_6_method_5_code fxt_246 = true := by decide +kernel
set_option maxRecDepth 20000 in
theorem fxm_247 : zc_meth (⟨"StubHouse$Changes", "sink", "(I)V"⟩, prog_2_method_12_code, 6, none) (2203, 7, 2201, 2202) = true := by decide +kernel
set_option maxRecDepth 20000 in
theorem fxa_247 : zc_all fx_ms2 fx_mh fx_Cs fx_nms ⟨"StubHouse$Changes", "sink", "(I)V"⟩ prog_2_method_12_code 6 none fxt_247 = true := by decide +kernel
set_option maxRecDepth 20000 in
theorem fxb_247 : fx_all90 ⟨"StubHouse$Changes", "sink", "(I)V"⟩ prog_2_method_12_code fxt_247 = true := by decide +kernel
set_option maxRecDepth 20000 in
theorem fxm_248 : zc_meth (⟨"StubHouse$Changes", "release", "(I)V"⟩, prog_2_method_13_code, 2, none) (2212, 7, 2210, 2211) = true := by decide +kernel
set_option maxRecDepth 20000 in
theorem fxa_248 : zc_all fx_ms2 fx_mh fx_Cs fx_nms ⟨"StubHouse$Changes", "release", "(I)V"⟩ prog_2_method_13_code 2 none fxt_248 = true := by decide +kernel
set_option maxRecDepth 20000 in
theorem fxb_248 : fx_all90 ⟨"StubHouse$Changes", "release", "(I)V"⟩ prog_2_method_13_code fxt_248 = true := by decide +kernel
set_option maxRecDepth 20000 in
theorem fxm_249 : zc_meth (⟨"StubHouse$Migrator", "releaseFirst", "()Z"⟩, prog_6_method_6_code, 2, (some .boolean)) (2207, 13, 2206, 5200) = true := by decide +kernel
set_option maxRecDepth 20000 in
theorem fxa_249 : zc_all fx_ms2 fx_mh fx_Cs fx_nms ⟨"StubHouse$Migrator", "releaseFirst", "()Z"⟩ prog_6_method_6_code 2 (some .boolean) fxt_249 = true := by decide +kernel
set_option maxRecDepth 20000 in
theorem fxb_249 : fx_all90 ⟨"StubHouse$Migrator", "releaseFirst", "()Z"⟩ prog_6_method_6_code fxt_249 = true := by decide +kernel
set_option maxRecDepth 20000 in
theorem fxm_250 : zc_meth (⟨"StubHouse$Writer", "isQueued", "(I)Z"⟩, prog_12_method_4_code, 3, (some .boolean)) (2220, 12, 2218, 2219) = true := by decide +kernel
set_option maxRecDepth 20000 in
theorem fxa_250 : zc_all fx_ms2 fx_mh fx_Cs fx_nms ⟨"StubHouse$Writer", "isQueued", "(I)Z"⟩ prog_12_method_4_code 3 (some .boolean) fxt_250 = true := by decide +kernel
set_option maxRecDepth 20000 in
theorem fxb_250 : fx_all90 ⟨"StubHouse$Writer", "isQueued", "(I)Z"⟩ prog_12_method_4_code fxt_250 = true := by decide +kernel
set_option maxRecDepth 20000 in
theorem fxm_251 : zc_meth (⟨"StubHouse$Writer", "enqueue", "(I)V"⟩, prog_12_method_5_code, 2, none) (2224, 12, 2222, 2223) = true := by decide +kernel
set_option maxRecDepth 20000 in
theorem fxa_251 : zc_all fx_ms2 fx_mh fx_Cs fx_nms ⟨"StubHouse$Writer", "enqueue", "(I)V"⟩ prog_12_method_5_code 2 none fxt_251 = true := by decide +kernel
set_option maxRecDepth 20000 in
theorem fxb_251 : fx_all90 ⟨"StubHouse$Writer", "enqueue", "(I)V"⟩ prog_12_method_5_code fxt_251 = true := by decide +kernel
set_option maxRecDepth 20000 in
theorem fxm_252 : zc_meth (⟨"StubHouse$Migrator", "queueFirst", "()V"⟩, prog_6_method_7_code, 3, none) (2216, 13, 2215, 5201) = true := by decide +kernel
set_option maxRecDepth 20000 in
theorem fxa_252 : zc_all fx_ms2 fx_mh fx_Cs fx_nms ⟨"StubHouse$Migrator", "queueFirst", "()V"⟩ prog_6_method_7_code 3 none fxt_252 = true := by decide +kernel
set_option maxRecDepth 20000 in
theorem fxb_252 : fx_all90 ⟨"StubHouse$Migrator", "queueFirst", "()V"⟩ prog_6_method_7_code fxt_252 = true := by decide +kernel
set_option maxRecDepth 20000 in
theorem fxm_253 : zc_meth (⟨"StubHouse$Migrator", "work", "()V"⟩, prog_6_method_3_code, 1, none) (2190, 13, 2188, 2189) = true := by decide +kernel
set_option maxRecDepth 20000 in
theorem fxa_253 : zc_all fx_ms2 fx_mh fx_Cs fx_nms ⟨"StubHouse$Migrator", "work", "()V"⟩ prog_6_method_3_code 1 none fxt_253 = true := by decide +kernel
set_option maxRecDepth 20000 in
theorem fxb_253 : fx_all90 ⟨"StubHouse$Migrator", "work", "()V"⟩ prog_6_method_3_code fxt_253 = true := by decide +kernel
set_option maxRecDepth 20000 in
theorem fxm_254 : zc_meth (⟨"StubHouse", "step", "(I)I"⟩, prog_1_method_26_code, 3, (some .int)) (1744, 1, 1742, 1743) = true := by decide +kernel
set_option maxRecDepth 20000 in
theorem fxa_254 : zc_all fx_ms2 fx_mh fx_Cs fx_nms ⟨"StubHouse", "step", "(I)I"⟩ prog_1_method_26_code 3 (some .int) fxt_254 = true := by decide +kernel
set_option maxRecDepth 20000 in
theorem fxb_254 : fx_all90 ⟨"StubHouse", "step", "(I)I"⟩ prog_1_method_26_code fxt_254 = true := by decide +kernel
set_option maxRecDepth 20000 in
theorem fxm_255 : zc_meth (⟨"StubHouseModel", "hasRoom", "(I)Z"⟩, prog_14_method_84_code, 3, (some .boolean)) (3293, 14, 3292, 6407) = true := by decide +kernel
set_option maxRecDepth 20000 in
theorem fxa_255 : zc_all fx_ms2 fx_mh fx_Cs fx_nms ⟨"StubHouseModel", "hasRoom", "(I)Z"⟩ prog_14_method_84_code 3 (some .boolean) fxt_255 = true := by decide +kernel
set_option maxRecDepth 20000 in
theorem fxb_255 : fx_all90 ⟨"StubHouseModel", "hasRoom", "(I)Z"⟩ prog_14_method_84_code fxt_255 = true := by decide +kernel
set_option maxRecDepth 20000 in
theorem fxm_256 : zc_meth (⟨"StubHouseModel", "isNearer", "(II)Z"⟩, prog_14_method_90_code, 5, (some .boolean)) (3297, 14, 3296, 6408) = true := by decide +kernel
set_option maxRecDepth 20000 in
theorem fxa_256 : zc_all fx_ms2 fx_mh fx_Cs fx_nms ⟨"StubHouseModel", "isNearer", "(II)Z"⟩ prog_14_method_90_code 5 (some .boolean) fxt_256 = true := by decide +kernel
set_option maxRecDepth 20000 in
theorem fxb_256 : fx_all90 ⟨"StubHouseModel", "isNearer", "(II)Z"⟩ prog_14_method_90_code fxt_256 = true := by decide +kernel
set_option maxRecDepth 20000 in
theorem fxm_257 : zc_meth (⟨"StubHouseModel", "begin", "(III)V"⟩, prog_14_method_85_code, 4, none) (3305, 14, 3304, 6410) = true := by decide +kernel
set_option maxRecDepth 20000 in
theorem fxa_257 : zc_all fx_ms2 fx_mh fx_Cs fx_nms ⟨"StubHouseModel", "begin", "(III)V"⟩ prog_14_method_85_code 4 none fxt_257 = true := by decide +kernel
set_option maxRecDepth 20000 in
theorem fxb_257 : fx_all90 ⟨"StubHouseModel", "begin", "(III)V"⟩ prog_14_method_85_code fxt_257 = true := by decide +kernel
set_option maxRecDepth 20000 in
theorem fxm_258 : zc_meth (⟨"StubHouseModel", "wind", "(II)V"⟩, prog_14_method_87_code, 4, none) (3301, 14, 3300, 6409) = true := by decide +kernel
set_option maxRecDepth 20000 in
theorem fxa_258 : zc_all fx_ms2 fx_mh fx_Cs fx_nms ⟨"StubHouseModel", "wind", "(II)V"⟩ prog_14_method_87_code 4 none fxt_258 = true := by decide +kernel
set_option maxRecDepth 20000 in
theorem fxb_258 : fx_all90 ⟨"StubHouseModel", "wind", "(II)V"⟩ prog_14_method_87_code fxt_258 = true := by decide +kernel
set_option maxRecDepth 20000 in
theorem fxm_259 : zc_meth (⟨"StubHouseModel", "beginReading", "(III)V"⟩, prog_14_method_88_code, 4, none) (3309, 14, 3308, 6411) = true := by decide +kernel
set_option maxRecDepth 20000 in
theorem fxa_259 : zc_all fx_ms2 fx_mh fx_Cs fx_nms ⟨"StubHouseModel", "beginReading", "(III)V"⟩ prog_14_method_88_code 4 none fxt_259 = true := by decide +kernel
set_option maxRecDepth 20000 in
theorem fxb_259 : fx_all90 ⟨"StubHouseModel", "beginReading", "(III)V"⟩ prog_14_method_88_code fxt_259 = true := by decide +kernel
set_option maxRecDepth 20000 in
theorem fxm_260 : zc_meth (⟨"StubHouseModel", "copyAt", "(III)I"⟩, prog_14_method_64_code, 5, (some .int)) (3216, 14, 3215, 6011) = true := by decide +kernel
set_option maxRecDepth 20000 in
theorem fxa_260 : zc_all fx_ms2 fx_mh fx_Cs fx_nms ⟨"StubHouseModel", "copyAt", "(III)I"⟩ prog_14_method_64_code 5 (some .int) fxt_260 = true := by decide +kernel
set_option maxRecDepth 20000 in
theorem fxb_260 : fx_all90 ⟨"StubHouseModel", "copyAt", "(III)I"⟩ prog_14_method_64_code fxt_260 = true := by decide +kernel
set_option maxRecDepth 20000 in
theorem fxm_261 : zc_meth (⟨"StubHouseModel", "isLive", "(II)Z"⟩, prog_14_method_65_code, 9, (some .boolean)) (3212, 14, 3211, 6010) = true := by decide +kernel
set_option maxRecDepth 20000 in
theorem fxa_261 : zc_all fx_ms2 fx_mh fx_Cs fx_nms ⟨"StubHouseModel", "isLive", "(II)Z"⟩ prog_14_method_65_code 9 (some .boolean) fxt_261 = true := by decide +kernel
set_option maxRecDepth 20000 in
theorem fxb_261 : fx_all90 ⟨"StubHouseModel", "isLive", "(II)Z"⟩ prog_14_method_65_code fxt_261 = true := by decide +kernel
set_option maxRecDepth 20000 in
theorem fxm_262 : zc_meth (⟨"StubHouseModel", "drop", "(II)V"⟩, prog_14_method_80_code, 3, none) (3318, 14, 3317, 6413) = true := by decide +kernel
set_option maxRecDepth 20000 in
theorem fxa_262 : zc_all fx_ms2 fx_mh fx_Cs fx_nms ⟨"StubHouseModel", "drop", "(II)V"⟩ prog_14_method_80_code 3 none fxt_262 = true := by decide +kernel
set_option maxRecDepth 20000 in
theorem fxb_262 : fx_all90 ⟨"StubHouseModel", "drop", "(II)V"⟩ prog_14_method_80_code fxt_262 = true := by decide +kernel
set_option maxRecDepth 20000 in
theorem fxm_263 : zc_meth (⟨"StubHouseModel", "reclaimOn", "()V"⟩, prog_14_method_91_code, 5, none) (3313, 14, 3312, 6412) = true := by decide +kernel
set_option maxRecDepth 20000 in
theorem fxa_263 : zc_all fx_ms2 fx_mh fx_Cs fx_nms ⟨"StubHouseModel", "reclaimOn", "()V"⟩ prog_14_method_91_code 5 none fxt_263 = true := by decide +kernel
set_option maxRecDepth 20000 in
theorem fxb_263 : fx_all90 ⟨"StubHouseModel", "reclaimOn", "()V"⟩ prog_14_method_91_code fxt_263 = true := by decide +kernel
set_option maxRecDepth 20000 in
theorem fxm_264 : zc_meth (⟨"StubHouseModel", "mount", "(II)V"⟩, prog_14_method_86_code, 3, none) (3322, 14, 3321, 6414) = true := by decide +kernel
set_option maxRecDepth 20000 in
theorem fxa_264 : zc_all fx_ms2 fx_mh fx_Cs fx_nms ⟨"StubHouseModel", "mount", "(II)V"⟩ prog_14_method_86_code 3 none fxt_264 = true := by decide +kernel
set_option maxRecDepth 20000 in
theorem fxb_264 : fx_all90 ⟨"StubHouseModel", "mount", "(II)V"⟩ prog_14_method_86_code fxt_264 = true := by decide +kernel
