/-! the rows of the tables, checked -/
set_option maxRecDepth 20000 in
theorem fxm_265 : zc_meth (⟨"StubHouseModel", "readerBegins", "()V"⟩, prog_14_method_89_code, 6, none) (3289, 14, 3288, 6406) = true := by decide +kernel
set_option maxRecDepth 20000 in
theorem fxa_265 : zc_all fx_ms2 fx_mh fx_Cs fx_nms ⟨"StubHouseModel", "readerBegins", "()V"⟩ prog_14_method_89_code 6 none fxt_265 = true := by decide +kernel
set_option maxRecDepth 20000 in
theorem fxb_265 : fx_all90 ⟨"StubHouseModel", "readerBegins", "()V"⟩ prog_14_method_89_code fxt_265 = true := by decide +kernel
set_option maxRecDepth 20000 in
theorem fxm_266 : zc_meth (⟨"StubHouseModel", "dropWaiting", "()V"⟩, prog_14_method_100_code, 4, none) (3330, 14, 3329, 6800) = true := by decide +kernel
set_option maxRecDepth 20000 in
theorem fxa_266 : zc_all fx_ms2 fx_mh fx_Cs fx_nms ⟨"StubHouseModel", "dropWaiting", "()V"⟩ prog_14_method_100_code 4 none fxt_266 = true := by decide +kernel
set_option maxRecDepth 20000 in
theorem fxb_266 : fx_all90 ⟨"StubHouseModel", "dropWaiting", "()V"⟩ prog_14_method_100_code fxt_266 = true := by decide +kernel
set_option maxRecDepth 20000 in
theorem fxm_267 : zc_meth (⟨"StubHouseModel", "hasCopyOn", "(II)Z"⟩, prog_14_method_96_code, 4, (some .boolean)) (3342, 14, 3341, 6803) = true := by decide +kernel
set_option maxRecDepth 20000 in
theorem fxa_267 : zc_all fx_ms2 fx_mh fx_Cs fx_nms ⟨"StubHouseModel", "hasCopyOn", "(II)Z"⟩ prog_14_method_96_code 4 (some .boolean) fxt_267 = true := by decide +kernel
set_option maxRecDepth 20000 in
theorem fxb_267 : fx_all90 ⟨"StubHouseModel", "hasCopyOn", "(II)Z"⟩ prog_14_method_96_code fxt_267 = true := by decide +kernel
set_option maxRecDepth 20000 in
theorem fxm_268 : zc_meth (⟨"StubHouseModel", "willDo", "(III)Z"⟩, prog_14_method_97_code, 5, (some .boolean)) (3338, 14, 3337, 6802) = true := by decide +kernel
set_option maxRecDepth 20000 in
theorem fxa_268 : zc_all fx_ms2 fx_mh fx_Cs fx_nms ⟨"StubHouseModel", "willDo", "(III)Z"⟩ prog_14_method_97_code 5 (some .boolean) fxt_268 = true := by decide +kernel
set_option maxRecDepth 20000 in
theorem fxb_268 : fx_all90 ⟨"StubHouseModel", "willDo", "(III)Z"⟩ prog_14_method_97_code fxt_268 = true := by decide +kernel
set_option maxRecDepth 20000 in
theorem fxm_269 : zc_meth (⟨"StubHouseModel", "tapeFor", "(II)I"⟩, prog_14_method_98_code, 5, (some .int)) (3334, 14, 3333, 6801) = true := by decide +kernel
set_option maxRecDepth 20000 in
theorem fxa_269 : zc_all fx_ms2 fx_mh fx_Cs fx_nms ⟨"StubHouseModel", "tapeFor", "(II)I"⟩ prog_14_method_98_code 5 (some .int) fxt_269 = true := by decide +kernel
set_option maxRecDepth 20000 in
theorem fxb_269 : fx_all90 ⟨"StubHouseModel", "tapeFor", "(II)I"⟩ prog_14_method_98_code fxt_269 = true := by decide +kernel
set_option maxRecDepth 20000 in
theorem fxm_270 : zc_meth (⟨"StubHouseModel", "fileOfRead", "()I"⟩, prog_14_method_95_code, 2, (some .int)) (3346, 14, 3345, 6804) = true := by decide +kernel
set_option maxRecDepth 20000 in
theorem fxa_270 : zc_all fx_ms2 fx_mh fx_Cs fx_nms ⟨"StubHouseModel", "fileOfRead", "()I"⟩ prog_14_method_95_code 2 (some .int) fxt_270 = true := by decide +kernel
set_option maxRecDepth 20000 in
theorem fxb_270 : fx_all90 ⟨"StubHouseModel", "fileOfRead", "()I"⟩ prog_14_method_95_code fxt_270 = true := by decide +kernel
set_option maxRecDepth 20000 in
theorem fxm_271 : zc_meth (⟨"StubHouseModel", "fileSegment", "(I)I"⟩, prog_14_method_99_code, 2, (some .int)) (3350, 14, 3349, 6805) = true := by decide +kernel
set_option maxRecDepth 20000 in
theorem fxa_271 : zc_all fx_ms2 fx_mh fx_Cs fx_nms ⟨"StubHouseModel", "fileSegment", "(I)I"⟩ prog_14_method_99_code 2 (some .int) fxt_271 = true := by decide +kernel
set_option maxRecDepth 20000 in
theorem fxb_271 : fx_all90 ⟨"StubHouseModel", "fileSegment", "(I)I"⟩ prog_14_method_99_code fxt_271 = true := by decide +kernel
set_option maxRecDepth 20000 in
theorem fxm_272 : zc_meth (⟨"StubHouseModel", "put", "(II)V"⟩, prog_14_method_103_code, 4, none) (3362, 14, 3361, 6808) = true := by decide +kernel
set_option maxRecDepth 20000 in
theorem fxa_272 : zc_all fx_ms2 fx_mh fx_Cs fx_nms ⟨"StubHouseModel", "put", "(II)V"⟩ prog_14_method_103_code 4 none fxt_272 = true := by decide +kernel
set_option maxRecDepth 20000 in
theorem fxb_272 : fx_all90 ⟨"StubHouseModel", "put", "(II)V"⟩ prog_14_method_103_code fxt_272 = true := by decide +kernel
set_option maxRecDepth 20000 in
theorem fxm_273 : zc_meth (⟨"StubHouseModel", "outCheck", "(I)I"⟩, prog_14_method_104_code, 4, (some .int)) (3366, 14, 3365, 6809) = true := by decide +kernel
set_option maxRecDepth 20000 in
theorem fxa_273 : zc_all fx_ms2 fx_mh fx_Cs fx_nms ⟨"StubHouseModel", "outCheck", "(I)I"⟩ prog_14_method_104_code 4 (some .int) fxt_273 = true := by decide +kernel
set_option maxRecDepth 20000 in
theorem fxb_273 : fx_all90 ⟨"StubHouseModel", "outCheck", "(I)I"⟩ prog_14_method_104_code fxt_273 = true := by decide +kernel
set_option maxRecDepth 20000 in
theorem fxm_274 : zc_meth (⟨"StubHouseModel", "putPath", "(I)V"⟩, prog_14_method_106_code, 6, none) (3370, 14, 3369, 6810) = true := by decide +kernel
set_option maxRecDepth 20000 in
theorem fxa_274 : zc_all fx_ms2 fx_mh fx_Cs fx_nms ⟨"StubHouseModel", "putPath", "(I)V"⟩ prog_14_method_106_code 6 none fxt_274 = true := by decide +kernel
set_option maxRecDepth 20000 in
theorem fxb_274 : fx_all90 ⟨"StubHouseModel", "putPath", "(I)V"⟩ prog_14_method_106_code fxt_274 = true := by decide +kernel
set_option maxRecDepth 20000 in
theorem fxm_275 : zc_meth (⟨"StubHouseModel", "beginWriting", "(III)V"⟩, prog_14_method_105_code, 9, none) (3358, 14, 3357, 6807) = true := by decide +kernel
set_option maxRecDepth 20000 in
theorem fxa_275 : zc_all fx_ms2 fx_mh fx_Cs fx_nms ⟨"StubHouseModel", "beginWriting", "(III)V"⟩ prog_14_method_105_code 9 none fxt_275 = true := by decide +kernel
set_option maxRecDepth 20000 in
theorem fxb_275 : fx_all90 ⟨"StubHouseModel", "beginWriting", "(III)V"⟩ prog_14_method_105_code fxt_275 = true := by decide +kernel
set_option maxRecDepth 20000 in
theorem fxm_276 : zc_meth (⟨"StubHouseModel", "goWriting", "(III)V"⟩, prog_14_method_102_code, 5, none) (3354, 14, 3353, 6806) = true := by decide +kernel
set_option maxRecDepth 20000 in
theorem fxa_276 : zc_all fx_ms2 fx_mh fx_Cs fx_nms ⟨"StubHouseModel", "goWriting", "(III)V"⟩ prog_14_method_102_code 5 none fxt_276 = true := by decide +kernel
set_option maxRecDepth 20000 in
theorem fxb_276 : fx_all90 ⟨"StubHouseModel", "goWriting", "(III)V"⟩ prog_14_method_102_code fxt_276 = true := by decide +kernel
set_option maxRecDepth 20000 in
theorem fxm_277 : zc_meth (⟨"StubHouseModel", "writerBegins", "()V"⟩, prog_14_method_101_code, 9, none) (3326, 14, 3325, 6415) = true := by decide +kernel
set_option maxRecDepth 20000 in
theorem fxa_277 : zc_all fx_ms2 fx_mh fx_Cs fx_nms ⟨"StubHouseModel", "writerBegins", "()V"⟩ prog_14_method_101_code 9 none fxt_277 = true := by decide +kernel
set_option maxRecDepth 20000 in
theorem fxb_277 : fx_all90 ⟨"StubHouseModel", "writerBegins", "()V"⟩ prog_14_method_101_code fxt_277 = true := by decide +kernel
set_option maxRecDepth 20000 in
theorem fxm_278 : zc_meth (⟨"StubHouseModel", "reclaimRead", "(I)V"⟩, prog_14_method_93_code, 4, none) (3382, 14, 3381, 6813) = true := by decide +kernel
set_option maxRecDepth 20000 in
theorem fxa_278 : zc_all fx_ms2 fx_mh fx_Cs fx_nms ⟨"StubHouseModel", "reclaimRead", "(I)V"⟩ prog_14_method_93_code 4 none fxt_278 = true := by decide +kernel
set_option maxRecDepth 20000 in
theorem fxb_278 : fx_all90 ⟨"StubHouseModel", "reclaimRead", "(I)V"⟩ prog_14_method_93_code fxt_278 = true := by decide +kernel
set_option maxRecDepth 20000 in
theorem fxm_279 : zc_meth (⟨"StubHouseModel", "waitsToBeRead", "(I)Z"⟩, prog_14_method_83_code, 3, (some .boolean)) (3386, 14, 3385, 6814) = true := by decide +kernel
set_option maxRecDepth 20000 in
theorem fxa_279 : zc_all fx_ms2 fx_mh fx_Cs fx_nms ⟨"StubHouseModel", "waitsToBeRead", "(I)Z"⟩ prog_14_method_83_code 3 (some .boolean) fxt_279 = true := by decide +kernel
set_option maxRecDepth 20000 in
theorem fxb_279 : fx_all90 ⟨"StubHouseModel", "waitsToBeRead", "(I)Z"⟩ prog_14_method_83_code fxt_279 = true := by decide +kernel
set_option maxRecDepth 20000 in
theorem fxm_280 : zc_meth (⟨"StubHouseModel", "readDone", "()V"⟩, prog_14_method_92_code, 11, none) (3378, 14, 3377, 6812) = true := by decide +kernel
set_option maxRecDepth 20000 in
theorem fxa_280 : zc_all fx_ms2 fx_mh fx_Cs fx_nms ⟨"StubHouseModel", "readDone", "()V"⟩ prog_14_method_92_code 11 none fxt_280 = true := by decide +kernel
set_option maxRecDepth 20000 in
theorem fxb_280 : fx_all90 ⟨"StubHouseModel", "readDone", "()V"⟩ prog_14_method_92_code fxt_280 = true := by decide +kernel
set_option maxRecDepth 20000 in
theorem fxm_281 : zc_meth (⟨"StubHouseModel", "writeDone", "()V"⟩, prog_14_method_107_code, 6, none) (3390, 14, 3389, 6815) = true := by decide +kernel
set_option maxRecDepth 20000 in
theorem fxa_281 : zc_all fx_ms2 fx_mh fx_Cs fx_nms ⟨"StubHouseModel", "writeDone", "()V"⟩ prog_14_method_107_code 6 none fxt_281 = true := by decide +kernel
set_option maxRecDepth 20000 in
theorem fxb_281 : fx_all90 ⟨"StubHouseModel", "writeDone", "()V"⟩ prog_14_method_107_code fxt_281 = true := by decide +kernel
set_option maxRecDepth 20000 in
theorem fxm_282 : zc_meth (⟨"StubHouseModel", "actDone", "(I)V"⟩, prog_14_method_108_code, 3, none) (3374, 14, 3373, 6811) = true := by decide +kernel
set_option maxRecDepth 20000 in
theorem fxa_282 : zc_all fx_ms2 fx_mh fx_Cs fx_nms ⟨"StubHouseModel", "actDone", "(I)V"⟩ prog_14_method_108_code 3 none fxt_282 = true := by decide +kernel
set_option maxRecDepth 20000 in
theorem fxb_282 : fx_all90 ⟨"StubHouseModel", "actDone", "(I)V"⟩ prog_14_method_108_code fxt_282 = true := by decide +kernel
set_option maxRecDepth 20000 in
theorem fxm_283 : zc_meth (⟨"StubHouseModel", "goOn", "(I)V"⟩, prog_14_method_109_code, 2, none) (3285, 14, 3284, 6405) = true := by decide +kernel
set_option maxRecDepth 20000 in
theorem fxa_283 : zc_all fx_ms2 fx_mh fx_Cs fx_nms ⟨"StubHouseModel", "goOn", "(I)V"⟩ prog_14_method_109_code 2 none fxt_283 = true := by decide +kernel
set_option maxRecDepth 20000 in
theorem fxb_283 : fx_all90 ⟨"StubHouseModel", "goOn", "(I)V"⟩ prog_14_method_109_code fxt_283 = true := by decide +kernel
set_option maxRecDepth 20000 in
theorem fxm_284 : zc_meth (⟨"StubHouseModel", "inUse", "(I)I"⟩, prog_14_method_110_code, 4, (some .int)) (3398, 14, 3397, 7201) = true := by decide +kernel
set_option maxRecDepth 20000 in
theorem fxa_284 : zc_all fx_ms2 fx_mh fx_Cs fx_nms ⟨"StubHouseModel", "inUse", "(I)I"⟩ prog_14_method_110_code 4 (some .int) fxt_284 = true := by decide +kernel
set_option maxRecDepth 20000 in
theorem fxb_284 : fx_all90 ⟨"StubHouseModel", "inUse", "(I)I"⟩ prog_14_method_110_code fxt_284 = true := by decide +kernel
set_option maxRecDepth 20000 in
theorem fxm_285 : zc_meth (⟨"StubHouseModel", "rank", "(I)I"⟩, prog_14_method_111_code, 2, (some .int)) (3406, 14, 3405, 7203) = true := by decide +kernel
set_option maxRecDepth 20000 in
theorem fxa_285 : zc_all fx_ms2 fx_mh fx_Cs fx_nms ⟨"StubHouseModel", "rank", "(I)I"⟩ prog_14_method_111_code 2 (some .int) fxt_285 = true := by decide +kernel
set_option maxRecDepth 20000 in
theorem fxb_285 : fx_all90 ⟨"StubHouseModel", "rank", "(I)I"⟩ prog_14_method_111_code fxt_285 = true := by decide +kernel
set_option maxRecDepth 20000 in
theorem fxm_286 : zc_meth (⟨"StubHouseModel", "nextByRank", "(II)I"⟩, prog_14_method_112_code, 6, (some .int)) (3402, 14, 3401, 7202) = true := by decide +kernel
set_option maxRecDepth 20000 in
theorem fxa_286 : zc_all fx_ms2 fx_mh fx_Cs fx_nms ⟨"StubHouseModel", "nextByRank", "(II)I"⟩ prog_14_method_112_code 6 (some .int) fxt_286 = true := by decide +kernel
set_option maxRecDepth 20000 in
theorem fxb_286 : fx_all90 ⟨"StubHouseModel", "nextByRank", "(II)I"⟩ prog_14_method_112_code fxt_286 = true := by decide +kernel
set_option maxRecDepth 20000 in
theorem fxm_287 : zc_meth (⟨"StubHouseModel", "sink", "(I)V"⟩, prog_14_method_114_code, 6, none) (3410, 14, 3409, 7204) = true := by decide +kernel
set_option maxRecDepth 20000 in
theorem fxa_287 : zc_all fx_ms2 fx_mh fx_Cs fx_nms ⟨"StubHouseModel", "sink", "(I)V"⟩ prog_14_method_114_code 6 none fxt_287 = true := by decide +kernel
set_option maxRecDepth 20000 in
theorem fxb_287 : fx_all90 ⟨"StubHouseModel", "sink", "(I)V"⟩ prog_14_method_114_code fxt_287 = true := by decide +kernel
set_option maxRecDepth 20000 in
theorem fxm_288 : zc_meth (⟨"StubHouseModel", "releaseOne", "()V"⟩, prog_14_method_115_code, 5, none) (3414, 14, 3413, 7205) = true := by decide +kernel
set_option maxRecDepth 20000 in
theorem fxa_288 : zc_all fx_ms2 fx_mh fx_Cs fx_nms ⟨"StubHouseModel", "releaseOne", "()V"⟩ prog_14_method_115_code 5 none fxt_288 = true := by decide +kernel
set_option maxRecDepth 20000 in
theorem fxb_288 : fx_all90 ⟨"StubHouseModel", "releaseOne", "()V"⟩ prog_14_method_115_code fxt_288 = true := by decide +kernel
set_option maxRecDepth 20000 in
theorem fxm_289 : zc_meth (⟨"StubHouseModel", "migrate", "()V"⟩, prog_14_method_113_code, 3, none) (3394, 14, 3393, 7200) = true := by decide +kernel
set_option maxRecDepth 20000 in
theorem fxa_289 : zc_all fx_ms2 fx_mh fx_Cs fx_nms ⟨"StubHouseModel", "migrate", "()V"⟩ prog_14_method_113_code 3 none fxt_289 = true := by decide +kernel
set_option maxRecDepth 20000 in
theorem fxb_289 : fx_all90 ⟨"StubHouseModel", "migrate", "()V"⟩ prog_14_method_113_code fxt_289 = true := by decide +kernel
set_option maxRecDepth 20000 in
theorem fxm_290 : zc_meth (⟨"StubHouseModel", "step", "(I)I"⟩, prog_14_method_116_code, 3, (some .int)) (3280, 14, 3278, 3279) = true := by decide +kernel
set_option maxRecDepth 20000 in
theorem fxa_290 : zc_all fx_ms2 fx_mh fx_Cs fx_nms ⟨"StubHouseModel", "step", "(I)I"⟩ prog_14_method_116_code 3 (some .int) fxt_290 = true := by decide +kernel
set_option maxRecDepth 20000 in
theorem fxb_290 : fx_all90 ⟨"StubHouseModel", "step", "(I)I"⟩ prog_14_method_116_code fxt_290 = true := by decide +kernel
set_option maxRecDepth 20000 in
theorem fxm_291 : zc_meth (⟨"StubHouse$Reader", "beginReclaim", "(I)V"⟩, prog_8_method_3_code, 2, none) (2232, 11, 2230, 2231) = true := by decide +kernel
set_option maxRecDepth 20000 in
theorem fxa_291 : zc_all fx_ms2 fx_mh fx_Cs fx_nms ⟨"StubHouse$Reader", "beginReclaim", "(I)V"⟩ prog_8_method_3_code 2 none fxt_291 = true := by decide +kernel
set_option maxRecDepth 20000 in
theorem fxb_291 : fx_all90 ⟨"StubHouse$Reader", "beginReclaim", "(I)V"⟩ prog_8_method_3_code fxt_291 = true := by decide +kernel
set_option maxRecDepth 20000 in
theorem fxm_292 : zc_meth (⟨"StubHouse", "reclaim", "(I)I"⟩, prog_1_method_27_code, 2, (some .int)) (2228, 1, 2226, 2227) = true := by decide +kernel
set_option maxRecDepth 20000 in
theorem fxa_292 : zc_all fx_ms2 fx_mh fx_Cs fx_nms ⟨"StubHouse", "reclaim", "(I)I"⟩ prog_1_method_27_code 2 (some .int) fxt_292 = true := by decide +kernel
set_option maxRecDepth 20000 in
theorem fxb_292 : fx_all90 ⟨"StubHouse", "reclaim", "(I)I"⟩ prog_1_method_27_code fxt_292 = true := by decide +kernel
set_option maxRecDepth 20000 in
theorem fxm_293 : zc_meth (⟨"StubHouseModel", "reclaim", "(I)I"⟩, prog_14_method_94_code, 2, (some .int)) (3276, 14, 3274, 3275) = true := by decide +kernel
set_option maxRecDepth 20000 in
theorem fxa_293 : zc_all fx_ms2 fx_mh fx_Cs fx_nms ⟨"StubHouseModel", "reclaim", "(I)I"⟩ prog_14_method_94_code 2 (some .int) fxt_293 = true := by decide +kernel
set_option maxRecDepth 20000 in
theorem fxb_293 : fx_all90 ⟨"StubHouseModel", "reclaim", "(I)I"⟩ prog_14_method_94_code fxt_293 = true := by decide +kernel
set_option maxRecDepth 20000 in
theorem fxm_294 : zc_meth (⟨"StubHouse", "drive", "(II)I"⟩, prog_1_method_28_code, 4, (some .int)) (2236, 1, 2234, 2235) = true := by decide +kernel
set_option maxRecDepth 20000 in
theorem fxa_294 : zc_all fx_ms2 fx_mh fx_Cs fx_nms ⟨"StubHouse", "drive", "(II)I"⟩ prog_1_method_28_code 4 (some .int) fxt_294 = true := by decide +kernel
set_option maxRecDepth 20000 in
theorem fxb_294 : fx_all90 ⟨"StubHouse", "drive", "(II)I"⟩ prog_1_method_28_code fxt_294 = true := by decide +kernel
set_option maxRecDepth 20000 in
theorem fxm_295 : zc_meth (⟨"StubHouseModel", "drive", "(II)I"⟩, prog_14_method_117_code, 3, (some .int)) (3418, 14, 3416, 3417) = true := by decide +kernel
set_option maxRecDepth 20000 in
theorem fxa_295 : zc_all fx_ms2 fx_mh fx_Cs fx_nms ⟨"StubHouseModel", "drive", "(II)I"⟩ prog_14_method_117_code 3 (some .int) fxt_295 = true := by decide +kernel
set_option maxRecDepth 20000 in
theorem fxb_295 : fx_all90 ⟨"StubHouseModel", "drive", "(II)I"⟩ prog_14_method_117_code fxt_295 = true := by decide +kernel
set_option maxRecDepth 20000 in
theorem fxm_296 : zc_meth (⟨"StubHouse", "toldOfStores", "(I)I"⟩, prog_1_method_30_code, 2, (some .int)) (2404, 1, 2403, 5202) = true := by decide +kernel
set_option maxRecDepth 20000 in
theorem fxa_296 : zc_all fx_ms2 fx_mh fx_Cs fx_nms ⟨"StubHouse", "toldOfStores", "(I)I"⟩ prog_1_method_30_code 2 (some .int) fxt_296 = true := by decide +kernel
set_option maxRecDepth 20000 in
theorem fxb_296 : fx_all90 ⟨"StubHouse", "toldOfStores", "(I)I"⟩ prog_1_method_30_code fxt_296 = true := by decide +kernel
set_option maxRecDepth 20000 in
theorem fxm_297 : zc_meth (⟨"StubHouse", "told", "(I)I"⟩, prog_1_method_29_code, 2, (some .int)) (2400, 1, 2238, 2239) = true := by decide +kernel
set_option maxRecDepth 20000 in
theorem fxa_297 : zc_all fx_ms2 fx_mh fx_Cs fx_nms ⟨"StubHouse", "told", "(I)I"⟩ prog_1_method_29_code 2 (some .int) fxt_297 = true := by decide +kernel
set_option maxRecDepth 20000 in
theorem fxb_297 : fx_all90 ⟨"StubHouse", "told", "(I)I"⟩ prog_1_method_29_code fxt_297 = true := by decide +kernel
set_option maxRecDepth 20000 in
theorem fxm_298 : zc_meth (⟨"StubHouseModel", "heldBlocks", "()I"⟩, prog_14_method_118_code, 3, (some .int)) (3427, 14, 3426, 7206) = true := by decide +kernel
set_option maxRecDepth 20000 in
theorem fxa_298 : zc_all fx_ms2 fx_mh fx_Cs fx_nms ⟨"StubHouseModel", "heldBlocks", "()I"⟩ prog_14_method_118_code 3 (some .int) fxt_298 = true := by decide +kernel
set_option maxRecDepth 20000 in
theorem fxb_298 : fx_all90 ⟨"StubHouseModel", "heldBlocks", "()I"⟩ prog_14_method_118_code fxt_298 = true := by decide +kernel
set_option maxRecDepth 20000 in
theorem fxm_299 : zc_meth (⟨"StubHouseModel", "nodes", "()I"⟩, prog_14_method_119_code, 3, (some .int)) (3431, 14, 3430, 7207) = true := by decide +kernel
set_option maxRecDepth 20000 in
theorem fxa_299 : zc_all fx_ms2 fx_mh fx_Cs fx_nms ⟨"StubHouseModel", "nodes", "()I"⟩ prog_14_method_119_code 3 (some .int) fxt_299 = true := by decide +kernel
set_option maxRecDepth 20000 in
theorem fxb_299 : fx_all90 ⟨"StubHouseModel", "nodes", "()I"⟩ prog_14_method_119_code fxt_299 = true := by decide +kernel
set_option maxRecDepth 20000 in
theorem fxm_300 : zc_meth (⟨"StubHouseModel", "told", "(I)I"⟩, prog_14_method_120_code, 4, (some .int)) (3422, 14, 3420, 3421) = true := by decide +kernel
set_option maxRecDepth 20000 in
theorem fxa_300 : zc_all fx_ms2 fx_mh fx_Cs fx_nms ⟨"StubHouseModel", "told", "(I)I"⟩ prog_14_method_120_code 4 (some .int) fxt_300 = true := by decide +kernel
set_option maxRecDepth 20000 in
theorem fxb_300 : fx_all90 ⟨"StubHouseModel", "told", "(I)I"⟩ prog_14_method_120_code fxt_300 = true := by decide +kernel
set_option maxRecDepth 20000 in
theorem fxm_301 : zc_meth (⟨"StubHouse$Tape", "countGood", "()I"⟩, prog_10_method_13_code, 3, (some .int)) (2412, 9, 2410, 2411) = true := by decide +kernel
set_option maxRecDepth 20000 in
theorem fxa_301 : zc_all fx_ms2 fx_mh fx_Cs fx_nms ⟨"StubHouse$Tape", "countGood", "()I"⟩ prog_10_method_13_code 3 (some .int) fxt_301 = true := by decide +kernel
set_option maxRecDepth 20000 in
theorem fxb_301 : fx_all90 ⟨"StubHouse$Tape", "countGood", "()I"⟩ prog_10_method_13_code fxt_301 = true := by decide +kernel
set_option maxRecDepth 20000 in
theorem fxm_302 : zc_meth (⟨"StubHouse$Library", "countLive", "(I)I"⟩, prog_4_method_12_code, 4, (some .int)) (2416, 8, 2414, 2415) = true := by decide +kernel
set_option maxRecDepth 20000 in
theorem fxa_302 : zc_all fx_ms2 fx_mh fx_Cs fx_nms ⟨"StubHouse$Library", "countLive", "(I)I"⟩ prog_4_method_12_code 4 (some .int) fxt_302 = true := by decide +kernel
set_option maxRecDepth 20000 in
theorem fxb_302 : fx_all90 ⟨"StubHouse$Library", "countLive", "(I)I"⟩ prog_4_method_12_code fxt_302 = true := by decide +kernel
set_option maxRecDepth 20000 in
theorem fxm_303 : zc_meth (⟨"StubHouse", "tape", "(II)I"⟩, prog_1_method_31_code, 4, (some .int)) (2408, 1, 2406, 2407) = true := by decide +kernel
set_option maxRecDepth 20000 in
theorem fxa_303 : zc_all fx_ms2 fx_mh fx_Cs fx_nms ⟨"StubHouse", "tape", "(II)I"⟩ prog_1_method_31_code 4 (some .int) fxt_303 = true := by decide +kernel
set_option maxRecDepth 20000 in
theorem fxb_303 : fx_all90 ⟨"StubHouse", "tape", "(II)I"⟩ prog_1_method_31_code fxt_303 = true := by decide +kernel
set_option maxRecDepth 20000 in
theorem fxm_304 : zc_meth (⟨"StubHouseModel", "tape", "(II)I"⟩, prog_14_method_66_code, 5, (some .int)) (3207, 14, 3205, 3206) = true := by decide +kernel
set_option maxRecDepth 20000 in
theorem fxa_304 : zc_all fx_ms2 fx_mh fx_Cs fx_nms ⟨"StubHouseModel", "tape", "(II)I"⟩ prog_14_method_66_code 5 (some .int) fxt_304 = true := by decide +kernel
set_option maxRecDepth 20000 in
theorem fxb_304 : fx_all90 ⟨"StubHouseModel", "tape", "(II)I"⟩ prog_14_method_66_code fxt_304 = true := by decide +kernel
set_option maxRecDepth 20000 in
theorem fxm_305 : zc_meth (⟨"StubHouse$Library", "hasByte", "(II)Z"⟩, prog_4_method_2_code, 3, (some .boolean)) (2424, 8, 2422, 2423) = true := by decide +kernel
set_option maxRecDepth 20000 in
theorem fxa_305 : zc_all fx_ms2 fx_mh fx_Cs fx_nms ⟨"StubHouse$Library", "hasByte", "(II)Z"⟩ prog_4_method_2_code 3 (some .boolean) fxt_305 = true := by decide +kernel
set_option maxRecDepth 20000 in
theorem fxb_305 : fx_all90 ⟨"StubHouse$Library", "hasByte", "(II)Z"⟩ prog_4_method_2_code fxt_305 = true := by decide +kernel
set_option maxRecDepth 20000 in
theorem fxm_306 : zc_meth (⟨"StubHouse", "byteOf", "(II)I"⟩, prog_1_method_32_code, 3, (some .int)) (2420, 1, 2418, 2419) = true := by decide +kernel
set_option maxRecDepth 20000 in
theorem fxa_306 : zc_all fx_ms2 fx_mh fx_Cs fx_nms ⟨"StubHouse", "byteOf", "(II)I"⟩ prog_1_method_32_code 3 (some .int) fxt_306 = true := by decide +kernel
set_option maxRecDepth 20000 in
theorem fxb_306 : fx_all90 ⟨"StubHouse", "byteOf", "(II)I"⟩ prog_1_method_32_code fxt_306 = true := by decide +kernel
set_option maxRecDepth 20000 in
theorem fxm_307 : zc_meth (⟨"StubHouseModel", "noPlace", "(II)Z"⟩, prog_14_method_67_code, 3, (some .boolean)) (3228, 14, 3227, 6013) = true := by decide +kernel
set_option maxRecDepth 20000 in
theorem fxa_307 : zc_all fx_ms2 fx_mh fx_Cs fx_nms ⟨"StubHouseModel", "noPlace", "(II)Z"⟩ prog_14_method_67_code 3 (some .boolean) fxt_307 = true := by decide +kernel
set_option maxRecDepth 20000 in
theorem fxb_307 : fx_all90 ⟨"StubHouseModel", "noPlace", "(II)Z"⟩ prog_14_method_67_code fxt_307 = true := by decide +kernel
set_option maxRecDepth 20000 in
theorem fxm_308 : zc_meth (⟨"StubHouseModel", "byteOf", "(II)I"⟩, prog_14_method_68_code, 3, (some .int)) (3224, 14, 3222, 3223) = true := by decide +kernel
set_option maxRecDepth 20000 in
theorem fxa_308 : zc_all fx_ms2 fx_mh fx_Cs fx_nms ⟨"StubHouseModel", "byteOf", "(II)I"⟩ prog_14_method_68_code 3 (some .int) fxt_308 = true := by decide +kernel
set_option maxRecDepth 20000 in
theorem fxb_308 : fx_all90 ⟨"StubHouseModel", "byteOf", "(II)I"⟩ prog_14_method_68_code fxt_308 = true := by decide +kernel
set_option maxRecDepth 20000 in
theorem fxm_309 : zc_meth (⟨"StubHouse$Library", "turnBits", "(III)V"⟩, prog_4_method_3_code, 4, none) (2433, 8, 2431, 2432) = true := by decide +kernel
set_option maxRecDepth 20000 in
theorem fxa_309 : zc_all fx_ms2 fx_mh fx_Cs fx_nms ⟨"StubHouse$Library", "turnBits", "(III)V"⟩ prog_4_method_3_code 4 none fxt_309 = true := by decide +kernel
set_option maxRecDepth 20000 in
theorem fxb_309 : fx_all90 ⟨"StubHouse$Library", "turnBits", "(III)V"⟩ prog_4_method_3_code fxt_309 = true := by decide +kernel
set_option maxRecDepth 20000 in
theorem fxm_310 : zc_meth (⟨"StubHouse", "spoil", "(III)I"⟩, prog_1_method_33_code, 4, (some .int)) (2429, 1, 2427, 2428) = true := by decide +kernel
set_option maxRecDepth 20000 in
theorem fxa_310 : zc_all fx_ms2 fx_mh fx_Cs fx_nms ⟨"StubHouse", "spoil", "(III)I"⟩ prog_1_method_33_code 4 (some .int) fxt_310 = true := by decide +kernel
set_option maxRecDepth 20000 in
theorem fxb_310 : fx_all90 ⟨"StubHouse", "spoil", "(III)I"⟩ prog_1_method_33_code fxt_310 = true := by decide +kernel
set_option maxRecDepth 20000 in
theorem fxm_311 : zc_meth (⟨"StubHouseModel", "spoil", "(III)I"⟩, prog_14_method_69_code, 4, (some .int)) (3232, 14, 3230, 3231) = true := by decide +kernel
set_option maxRecDepth 20000 in
theorem fxa_311 : zc_all fx_ms2 fx_mh fx_Cs fx_nms ⟨"StubHouseModel", "spoil", "(III)I"⟩ prog_14_method_69_code 4 (some .int) fxt_311 = true := by decide +kernel
set_option maxRecDepth 20000 in
theorem fxb_311 : fx_all90 ⟨"StubHouseModel", "spoil", "(III)I"⟩ prog_14_method_69_code fxt_311 = true := by decide +kernel
set_option maxRecDepth 20000 in
theorem fxm_312 : zc_meth (⟨"StubHouse", "segment", "(III)I"⟩, prog_1_method_34_code, 6, (some .int)) (2437, 1, 2435, 2436) = true := by decide +kernel
set_option maxRecDepth 20000 in
theorem fxa_312 : zc_all fx_ms2 fx_mh fx_Cs fx_nms ⟨"StubHouse", "segment", "(III)I"⟩ prog_1_method_34_code 6 (some .int) fxt_312 = true := by decide +kernel
set_option maxRecDepth 20000 in
theorem fxb_312 : fx_all90 ⟨"StubHouse", "segment", "(III)I"⟩ prog_1_method_34_code fxt_312 = true := by decide +kernel
set_option maxRecDepth 20000 in
theorem fxm_313 : zc_meth (⟨"StubHouseModel", "segment", "(III)I"⟩, prog_14_method_70_code, 4, (some .int)) (3236, 14, 3234, 3235) = true := by decide +kernel
set_option maxRecDepth 20000 in
theorem fxa_313 : zc_all fx_ms2 fx_mh fx_Cs fx_nms ⟨"StubHouseModel", "segment", "(III)I"⟩ prog_14_method_70_code 4 (some .int) fxt_313 = true := by decide +kernel
set_option maxRecDepth 20000 in
theorem fxb_313 : fx_all90 ⟨"StubHouseModel", "segment", "(III)I"⟩ prog_14_method_70_code fxt_313 = true := by decide +kernel
set_option maxRecDepth 20000 in
theorem fxm_314 : zc_meth (⟨"StubHouse", "view", "(II)I"⟩, prog_1_method_35_code, 5, (some .int)) (2446, 1, 2444, 2445) = true := by decide +kernel
set_option maxRecDepth 20000 in
theorem fxa_314 : zc_all fx_ms2 fx_mh fx_Cs fx_nms ⟨"StubHouse", "view", "(II)I"⟩ prog_1_method_35_code 5 (some .int) fxt_314 = true := by decide +kernel
set_option maxRecDepth 20000 in
theorem fxb_314 : fx_all90 ⟨"StubHouse", "view", "(II)I"⟩ prog_1_method_35_code fxt_314 = true := by decide +kernel
set_option maxRecDepth 20000 in
theorem fxm_315 : zc_meth (⟨"StubHouseModel", "view", "(II)I"⟩, prog_14_method_75_code, 3, (some .int)) (3240, 14, 3238, 3239) = true := by decide +kernel
set_option maxRecDepth 20000 in
theorem fxa_315 : zc_all fx_ms2 fx_mh fx_Cs fx_nms ⟨"StubHouseModel", "view", "(II)I"⟩ prog_14_method_75_code 3 (some .int) fxt_315 = true := by decide +kernel
set_option maxRecDepth 20000 in
theorem fxb_315 : fx_all90 ⟨"StubHouseModel", "view", "(II)I"⟩ prog_14_method_75_code fxt_315 = true := by decide +kernel
