/-! the rows of the tables, checked -/
def fxk_bin : zkCK := fun _ cc _ pc a _ nxt _ => decide (((a = 0 ∧ decode cc pc = .ok (.ishl, 1)) ∨ (a = 1 ∧ decode cc pc = .ok (.iushr, 1)) ∨ (a = 2 ∧ decode cc pc = .ok (.ior, 1)) ∨ (a = 3 ∧ decode cc pc = .ok (.ixor, 1))) ∧ nxt = pc + 1)
def fxk_lstore_n : zkCK := fun _ cc nL pc a b nxt _ => decide (a < 4 ∧ decode cc pc = .ok (.lstore_n (Fin.ofNat 4 a), 1) ∧ nxt = pc + 1 ∧ b = nL)
def fxk_lstore : zkCK := fun _ cc nL pc a b nxt _ => decide (decode cc pc = .ok (.lstore a, 2) ∧ nxt = pc + 2 ∧ b = nL)
noncomputable def fxk_ldcw : zkCK := fun y cc _ pc a b nxt _ => decide (zk_h (b / 65536) = .constant y.cls (b % 65536) (nI (a / 8))) && decide (a % 8 = 0 ∧ decode cc pc = .ok (.ldc_w (b % 65536), 3) ∧ nxt = pc + 3)
noncomputable def fx_Cs : List zkCK := [zc_op .idiv, zc_op .irem, fxk_bin, zc_op .ineg, zc_op .dup2, fxk_lstore_n, fxk_lstore, fxk_ldcw, zc_op .pop2]
theorem fx_Cs_ok : zr_2 zk_CO fx_Cs fx_Ps := by
  refine ⟨zc_op_ok _, zc_op_ok _, ?_, zc_op_ok _, zc_op_ok _, ?_, ?_, ?_, zc_op_ok _, trivial⟩
  · intro y cc nL pc a b nxt d h
    unfold fxk_bin at h
    have h := of_decide_eq_true h
    exact h
  · intro y cc nL pc a b nxt d h
    unfold fxk_lstore_n at h
    have h := of_decide_eq_true h
    exact h
  · intro y cc nL pc a b nxt d h
    unfold fxk_lstore at h
    have h := of_decide_eq_true h
    exact h
  · intro y cc nL pc a b nxt d h
    obtain ⟨h1, h2⟩ := zx_an h
    obtain ⟨h3, h4⟩ := of_decide_eq_true h2
    exact ⟨h3, zk_h_eq h1 rfl rfl, h4⟩
set_option maxRecDepth 20000 in
theorem fxm_0 : zc_meth (⟨"StubHouse$Tree", "isThere", "(I)Z"⟩, prog_11_method_4_code, 2, (some .boolean)) (917, 2, 915, 916) = true := by decide +kernel
set_option maxRecDepth 20000 in
theorem fxa_0 : zc_all fx_ms2 fx_mh fx_Cs fx_nms ⟨"StubHouse$Tree", "isThere", "(I)Z"⟩ prog_11_method_4_code 2 (some .boolean) fxt_0 = true := by decide +kernel
set_option maxRecDepth 20000 in
theorem fxb_0 : fx_all90 ⟨"StubHouse$Tree", "isThere", "(I)Z"⟩ prog_11_method_4_code fxt_0 = true := by decide +kernel
set_option maxRecDepth 20000 in
theorem fxm_1 : zc_meth (⟨"StubHouse$Tree", "isDirectory", "(I)Z"⟩, prog_11_method_5_code, 2, (some .boolean)) (913, 2, 911, 912) = true := by decide +kernel
set_option maxRecDepth 20000 in
theorem fxa_1 : zc_all fx_ms2 fx_mh fx_Cs fx_nms ⟨"StubHouse$Tree", "isDirectory", "(I)Z"⟩ prog_11_method_5_code 2 (some .boolean) fxt_1 = true := by decide +kernel
set_option maxRecDepth 20000 in
theorem fxb_1 : fx_all90 ⟨"StubHouse$Tree", "isDirectory", "(I)Z"⟩ prog_11_method_5_code fxt_1 = true := by decide +kernel
set_option maxRecDepth 20000 in
theorem fxm_2 : zc_meth (⟨"StubHouse$Tree", "seek", "(IJ)I"⟩, prog_11_method_8_code, 6, (some .int)) (925, 2, 923, 924) = true := by decide +kernel
set_option maxRecDepth 20000 in
theorem fxa_2 : zc_all fx_ms2 fx_mh fx_Cs fx_nms ⟨"StubHouse$Tree", "seek", "(IJ)I"⟩ prog_11_method_8_code 6 (some .int) fxt_2 = true := by decide +kernel
set_option maxRecDepth 20000 in
theorem fxb_2 : fx_all90 ⟨"StubHouse$Tree", "seek", "(IJ)I"⟩ prog_11_method_8_code fxt_2 = true := by decide +kernel
set_option maxRecDepth 20000 in
theorem fxm_3 : zc_meth (⟨"StubHouse$Tree", "leastAbsent", "()I"⟩, prog_11_method_9_code, 2, (some .int)) (929, 2, 927, 928) = true := by decide +kernel
set_option maxRecDepth 20000 in
theorem fxa_3 : zc_all fx_ms2 fx_mh fx_Cs fx_nms ⟨"StubHouse$Tree", "leastAbsent", "()I"⟩ prog_11_method_9_code 2 (some .int) fxt_3 = true := by decide +kernel
set_option maxRecDepth 20000 in
theorem fxb_3 : fx_all90 ⟨"StubHouse$Tree", "leastAbsent", "()I"⟩ prog_11_method_9_code fxt_3 = true := by decide +kernel
set_option maxRecDepth 20000 in
theorem fxm_4 : zc_meth (⟨"StubHouse$Tree", "depthOf", "(I)I"⟩, prog_11_method_10_code, 4, (some .int)) (933, 2, 931, 932) = true := by decide +kernel
set_option maxRecDepth 20000 in
theorem fxa_4 : zc_all fx_ms2 fx_mh fx_Cs fx_nms ⟨"StubHouse$Tree", "depthOf", "(I)I"⟩ prog_11_method_10_code 4 (some .int) fxt_4 = true := by decide +kernel
set_option maxRecDepth 20000 in
theorem fxb_4 : fx_all90 ⟨"StubHouse$Tree", "depthOf", "(I)I"⟩ prog_11_method_10_code fxt_4 = true := by decide +kernel
set_option maxRecDepth 20000 in
theorem fxm_5 : zc_meth (⟨"StubHouse$Stores", "freeHeld", "()V"⟩, prog_9_method_8_code, 2, none) (950, 5, 948, 949) = true := by decide +kernel
set_option maxRecDepth 20000 in
theorem fxa_5 : zc_all fx_ms2 fx_mh fx_Cs fx_nms ⟨"StubHouse$Stores", "freeHeld", "()V"⟩ prog_9_method_8_code 2 none fxt_5 = true := by decide +kernel
set_option maxRecDepth 20000 in
theorem fxb_5 : fx_all90 ⟨"StubHouse$Stores", "freeHeld", "()V"⟩ prog_9_method_8_code fxt_5 = true := by decide +kernel
set_option maxRecDepth 20000 in
theorem fxm_6 : zc_meth (⟨"StubHouse$Log", "keepAll", "()I"⟩, prog_5_method_4_code, 3, (some .int)) (946, 6, 944, 945) = true := by decide +kernel
set_option maxRecDepth 20000 in
theorem fxa_6 : zc_all fx_ms2 fx_mh fx_Cs fx_nms ⟨"StubHouse$Log", "keepAll", "()I"⟩ prog_5_method_4_code 3 (some .int) fxt_6 = true := by decide +kernel
set_option maxRecDepth 20000 in
theorem fxb_6 : fx_all90 ⟨"StubHouse$Log", "keepAll", "()I"⟩ prog_5_method_4_code fxt_6 = true := by decide +kernel
set_option maxRecDepth 20000 in
theorem fxm_7 : zc_meth (⟨"StubHouse$Node", "become", "(LStubHouse$Node;)V"⟩, prog_7_method_3_code, 2, none) (954, 3, 952, 953) = true := by decide +kernel
set_option maxRecDepth 20000 in
theorem fxa_7 : zc_all fx_ms2 fx_mh fx_Cs fx_nms ⟨"StubHouse$Node", "become", "(LStubHouse$Node;)V"⟩ prog_7_method_3_code 2 none fxt_7 = true := by decide +kernel
set_option maxRecDepth 20000 in
theorem fxb_7 : fx_all90 ⟨"StubHouse$Node", "become", "(LStubHouse$Node;)V"⟩ prog_7_method_3_code fxt_7 = true := by decide +kernel
set_option maxRecDepth 20000 in
theorem fxm_8 : zc_meth (⟨"StubHouse$Log", "deletePlace", "(I)I"⟩, prog_5_method_5_code, 3, (some .int)) (965, 6, 964, 3601) = true := by decide +kernel
set_option maxRecDepth 20000 in
theorem fxa_8 : zc_all fx_ms2 fx_mh fx_Cs fx_nms ⟨"StubHouse$Log", "deletePlace", "(I)I"⟩ prog_5_method_5_code 3 (some .int) fxt_8 = true := by decide +kernel
set_option maxRecDepth 20000 in
theorem fxb_8 : fx_all90 ⟨"StubHouse$Log", "deletePlace", "(I)I"⟩ prog_5_method_5_code fxt_8 = true := by decide +kernel
set_option maxRecDepth 20000 in
theorem fxm_9 : zc_meth (⟨"StubHouse$Log", "noteDelete", "(I)V"⟩, prog_5_method_6_code, 4, none) (961, 6, 960, 3600) = true := by decide +kernel
set_option maxRecDepth 20000 in
theorem fxa_9 : zc_all fx_ms2 fx_mh fx_Cs fx_nms ⟨"StubHouse$Log", "noteDelete", "(I)V"⟩ prog_5_method_6_code 4 none fxt_9 = true := by decide +kernel
set_option maxRecDepth 20000 in
theorem fxb_9 : fx_all90 ⟨"StubHouse$Log", "noteDelete", "(I)V"⟩ prog_5_method_6_code fxt_9 = true := by decide +kernel
set_option maxRecDepth 20000 in
theorem fxm_10 : zc_meth (⟨"StubHouse$Log", "forgetDelete", "(I)V"⟩, prog_5_method_7_code, 4, none) (969, 6, 968, 3602) = true := by decide +kernel
set_option maxRecDepth 20000 in
theorem fxa_10 : zc_all fx_ms2 fx_mh fx_Cs fx_nms ⟨"StubHouse$Log", "forgetDelete", "(I)V"⟩ prog_5_method_7_code 4 none fxt_10 = true := by decide +kernel
set_option maxRecDepth 20000 in
theorem fxb_10 : fx_all90 ⟨"StubHouse$Log", "forgetDelete", "(I)V"⟩ prog_5_method_7_code fxt_10 = true := by decide +kernel
set_option maxRecDepth 20000 in
theorem fxm_11 : zc_meth (⟨"StubHouse$Log", "add", "(III)V"⟩, prog_5_method_3_code, 4, none) (942, 6, 940, 941) = true := by decide +kernel
set_option maxRecDepth 20000 in
theorem fxa_11 : zc_all fx_ms2 fx_mh fx_Cs fx_nms ⟨"StubHouse$Log", "add", "(III)V"⟩ prog_5_method_3_code 4 none fxt_11 = true := by decide +kernel
set_option maxRecDepth 20000 in
theorem fxb_11 : fx_all90 ⟨"StubHouse$Log", "add", "(III)V"⟩ prog_5_method_3_code fxt_11 = true := by decide +kernel
set_option maxRecDepth 20000 in
theorem fxm_12 : zc_meth (⟨"java/util/Arrays", "fill", "([II)V"⟩, prog_17_method_103_code, 4, none) (40, 4, 39, 0) = true := by decide +kernel
set_option maxRecDepth 20000 in
theorem fxa_12 : zc_all fx_ms2 fx_mh fx_Cs fx_nms ⟨"java/util/Arrays", "fill", "([II)V"⟩ prog_17_method_103_code 4 none fxt_12 = true := by decide +kernel
set_option maxRecDepth 20000 in
theorem fxb_12 : fx_all90 ⟨"java/util/Arrays", "fill", "([II)V"⟩ prog_17_method_103_code fxt_12 = true := by decide +kernel
set_option maxRecDepth 20000 in
theorem fxm_13 : zc_meth (⟨"StubHouse$Node", "clear", "()V"⟩, prog_7_method_2_code, 1, none) (977, 3, 975, 976) = true := by decide +kernel
set_option maxRecDepth 20000 in
theorem fxa_13 : zc_all fx_ms2 fx_mh fx_Cs fx_nms ⟨"StubHouse$Node", "clear", "()V"⟩ prog_7_method_2_code 1 none fxt_13 = true := by decide +kernel
set_option maxRecDepth 20000 in
theorem fxb_13 : fx_all90 ⟨"StubHouse$Node", "clear", "()V"⟩ prog_7_method_2_code fxt_13 = true := by decide +kernel
set_option maxRecDepth 20000 in
theorem fxm_14 : zc_meth (⟨"StubHouse$Tree", "settle", "(IIJI)V"⟩, prog_11_method_16_code, 7, none) (973, 2, 971, 972) = true := by decide +kernel
set_option maxRecDepth 20000 in
theorem fxa_14 : zc_all fx_ms2 fx_mh fx_Cs fx_nms ⟨"StubHouse$Tree", "settle", "(IIJI)V"⟩ prog_11_method_16_code 7 none fxt_14 = true := by decide +kernel
set_option maxRecDepth 20000 in
theorem fxb_14 : fx_all90 ⟨"StubHouse$Tree", "settle", "(IIJI)V"⟩ prog_11_method_16_code fxt_14 = true := by decide +kernel
set_option maxRecDepth 20000 in
theorem fxm_15 : zc_meth (⟨"StubHouse$Changes", "create", "(IJZ)I"⟩, prog_2_method_2_code, 6, (some .int)) (937, 7, 935, 936) = true := by decide +kernel
set_option maxRecDepth 20000 in
theorem fxa_15 : zc_all fx_ms2 fx_mh fx_Cs fx_nms ⟨"StubHouse$Changes", "create", "(IJZ)I"⟩ prog_2_method_2_code 6 (some .int) fxt_15 = true := by decide +kernel
set_option maxRecDepth 20000 in
theorem fxb_15 : fx_all90 ⟨"StubHouse$Changes", "create", "(IJZ)I"⟩ prog_2_method_2_code fxt_15 = true := by decide +kernel
set_option maxRecDepth 20000 in
theorem fxm_16 : zc_meth (⟨"StubHouse", "make", "(IJZ)I"⟩, prog_1_method_2_code, 5, (some .int)) (909, 1, 907, 908) = true := by decide +kernel
set_option maxRecDepth 20000 in
theorem fxa_16 : zc_all fx_ms2 fx_mh fx_Cs fx_nms ⟨"StubHouse", "make", "(IJZ)I"⟩ prog_1_method_2_code 5 (some .int) fxt_16 = true := by decide +kernel
set_option maxRecDepth 20000 in
theorem fxb_16 : fx_all90 ⟨"StubHouse", "make", "(IJZ)I"⟩ prog_1_method_2_code fxt_16 = true := by decide +kernel
set_option maxRecDepth 20000 in
theorem fxm_17 : zc_meth (⟨"StubHouseModel", "in", "(JJJ)Z"⟩, prog_14_method_2_code, 6, (some .boolean)) (2806, 14, 2805, 0) = true := by decide +kernel
set_option maxRecDepth 20000 in
theorem fxa_17 : zc_all fx_ms2 fx_mh fx_Cs fx_nms ⟨"StubHouseModel", "in", "(JJJ)Z"⟩ prog_14_method_2_code 6 (some .boolean) fxt_17 = true := by decide +kernel
set_option maxRecDepth 20000 in
theorem fxb_17 : fx_all90 ⟨"StubHouseModel", "in", "(JJJ)Z"⟩ prog_14_method_2_code fxt_17 = true := by decide +kernel
set_option maxRecDepth 20000 in
theorem fxm_18 : zc_meth (⟨"StubHouseModel", "at", "(II)I"⟩, prog_14_method_5_code, 3, (some .int)) (2810, 14, 2809, 5206) = true := by decide +kernel
set_option maxRecDepth 20000 in
theorem fxa_18 : zc_all fx_ms2 fx_mh fx_Cs fx_nms ⟨"StubHouseModel", "at", "(II)I"⟩ prog_14_method_5_code 3 (some .int) fxt_18 = true := by decide +kernel
set_option maxRecDepth 20000 in
theorem fxb_18 : fx_all90 ⟨"StubHouseModel", "at", "(II)I"⟩ prog_14_method_5_code fxt_18 = true := by decide +kernel
set_option maxRecDepth 20000 in
theorem fxm_19 : zc_meth (⟨"StubHouseModel", "isDirectory", "(I)Z"⟩, prog_14_method_12_code, 2, (some .boolean)) (2802, 14, 2801, 5205) = true := by decide +kernel
set_option maxRecDepth 20000 in
theorem fxa_19 : zc_all fx_ms2 fx_mh fx_Cs fx_nms ⟨"StubHouseModel", "isDirectory", "(I)Z"⟩ prog_14_method_12_code 2 (some .boolean) fxt_19 = true := by decide +kernel
set_option maxRecDepth 20000 in
theorem fxb_19 : fx_all90 ⟨"StubHouseModel", "isDirectory", "(I)Z"⟩ prog_14_method_12_code fxt_19 = true := by decide +kernel
set_option maxRecDepth 20000 in
theorem fxm_20 : zc_meth (⟨"StubHouseModel", "look", "(IJ)I"⟩, prog_14_method_15_code, 5, (some .int)) (2822, 14, 2821, 5207) = true := by decide +kernel
set_option maxRecDepth 20000 in
theorem fxa_20 : zc_all fx_ms2 fx_mh fx_Cs fx_nms ⟨"StubHouseModel", "look", "(IJ)I"⟩ prog_14_method_15_code 5 (some .int) fxt_20 = true := by decide +kernel
set_option maxRecDepth 20000 in
theorem fxb_20 : fx_all90 ⟨"StubHouseModel", "look", "(IJ)I"⟩ prog_14_method_15_code fxt_20 = true := by decide +kernel
set_option maxRecDepth 20000 in
theorem fxm_21 : zc_meth (⟨"StubHouseModel", "freeNode", "()I"⟩, prog_14_method_16_code, 2, (some .int)) (2826, 14, 2825, 5208) = true := by decide +kernel
set_option maxRecDepth 20000 in
theorem fxa_21 : zc_all fx_ms2 fx_mh fx_Cs fx_nms ⟨"StubHouseModel", "freeNode", "()I"⟩ prog_14_method_16_code 2 (some .int) fxt_21 = true := by decide +kernel
set_option maxRecDepth 20000 in
theorem fxb_21 : fx_all90 ⟨"StubHouseModel", "freeNode", "()I"⟩ prog_14_method_16_code fxt_21 = true := by decide +kernel
set_option maxRecDepth 20000 in
theorem fxm_22 : zc_meth (⟨"StubHouseModel", "depth", "(I)I"⟩, prog_14_method_14_code, 4, (some .int)) (2830, 14, 2829, 5209) = true := by decide +kernel
set_option maxRecDepth 20000 in
theorem fxa_22 : zc_all fx_ms2 fx_mh fx_Cs fx_nms ⟨"StubHouseModel", "depth", "(I)I"⟩ prog_14_method_14_code 4 (some .int) fxt_22 = true := by decide +kernel
set_option maxRecDepth 20000 in
theorem fxb_22 : fx_all90 ⟨"StubHouseModel", "depth", "(I)I"⟩ prog_14_method_14_code fxt_22 = true := by decide +kernel
set_option maxRecDepth 20000 in
theorem fxm_23 : zc_meth (⟨"StubHouseModel", "copyOut", "()V"⟩, prog_14_method_7_code, 2, none) (2462, 14, 2461, 5204) = true := by decide +kernel
set_option maxRecDepth 20000 in
theorem fxa_23 : zc_all fx_ms2 fx_mh fx_Cs fx_nms ⟨"StubHouseModel", "copyOut", "()V"⟩ prog_14_method_7_code 2 none fxt_23 = true := by decide +kernel
set_option maxRecDepth 20000 in
theorem fxb_23 : fx_all90 ⟨"StubHouseModel", "copyOut", "()V"⟩ prog_14_method_7_code fxt_23 = true := by decide +kernel
set_option maxRecDepth 20000 in
theorem fxm_24 : zc_meth (⟨"StubHouseModel", "syncAll", "()I"⟩, prog_14_method_8_code, 3, (some .int)) (2838, 14, 2837, 5211) = true := by decide +kernel
set_option maxRecDepth 20000 in
theorem fxa_24 : zc_all fx_ms2 fx_mh fx_Cs fx_nms ⟨"StubHouseModel", "syncAll", "()I"⟩ prog_14_method_8_code 3 (some .int) fxt_24 = true := by decide +kernel
set_option maxRecDepth 20000 in
theorem fxb_24 : fx_all90 ⟨"StubHouseModel", "syncAll", "()I"⟩ prog_14_method_8_code fxt_24 = true := by decide +kernel
set_option maxRecDepth 20000 in
theorem fxm_25 : zc_meth (⟨"StubHouseModel", "ahead", "()V"⟩, prog_14_method_9_code, 2, none) (2834, 14, 2833, 5210) = true := by decide +kernel
set_option maxRecDepth 20000 in
theorem fxa_25 : zc_all fx_ms2 fx_mh fx_Cs fx_nms ⟨"StubHouseModel", "ahead", "()V"⟩ prog_14_method_9_code 2 none fxt_25 = true := by decide +kernel
set_option maxRecDepth 20000 in
theorem fxb_25 : fx_all90 ⟨"StubHouseModel", "ahead", "()V"⟩ prog_14_method_9_code fxt_25 = true := by decide +kernel
set_option maxRecDepth 20000 in
theorem fxm_26 : zc_meth (⟨"StubHouseModel", "set", "(III)V"⟩, prog_14_method_6_code, 4, none) (2846, 14, 2845, 5213) = true := by decide +kernel
set_option maxRecDepth 20000 in
theorem fxa_26 : zc_all fx_ms2 fx_mh fx_Cs fx_nms ⟨"StubHouseModel", "set", "(III)V"⟩ prog_14_method_6_code 4 none fxt_26 = true := by decide +kernel
set_option maxRecDepth 20000 in
theorem fxb_26 : fx_all90 ⟨"StubHouseModel", "set", "(III)V"⟩ prog_14_method_6_code fxt_26 = true := by decide +kernel
set_option maxRecDepth 20000 in
theorem fxm_27 : zc_meth (⟨"StubHouseModel", "noBlocks", "(I)V"⟩, prog_14_method_21_code, 3, none) (2850, 14, 2849, 5214) = true := by decide +kernel
set_option maxRecDepth 20000 in
theorem fxa_27 : zc_all fx_ms2 fx_mh fx_Cs fx_nms ⟨"StubHouseModel", "noBlocks", "(I)V"⟩ prog_14_method_21_code 3 none fxt_27 = true := by decide +kernel
set_option maxRecDepth 20000 in
theorem fxb_27 : fx_all90 ⟨"StubHouseModel", "noBlocks", "(I)V"⟩ prog_14_method_21_code fxt_27 = true := by decide +kernel
set_option maxRecDepth 20000 in
theorem fxm_28 : zc_meth (⟨"StubHouseModel", "plant", "(IIIJ)V"⟩, prog_14_method_22_code, 7, none) (2842, 14, 2841, 5212) = true := by decide +kernel
set_option maxRecDepth 20000 in
theorem fxa_28 : zc_all fx_ms2 fx_mh fx_Cs fx_nms ⟨"StubHouseModel", "plant", "(IIIJ)V"⟩ prog_14_method_22_code 7 none fxt_28 = true := by decide +kernel
set_option maxRecDepth 20000 in
theorem fxb_28 : fx_all90 ⟨"StubHouseModel", "plant", "(IIIJ)V"⟩ prog_14_method_22_code fxt_28 = true := by decide +kernel
set_option maxRecDepth 20000 in
theorem fxm_29 : zc_meth (⟨"StubHouseModel", "record", "(I)V"⟩, prog_14_method_10_code, 2, none) (2854, 14, 2853, 5215) = true := by decide +kernel
set_option maxRecDepth 20000 in
theorem fxa_29 : zc_all fx_ms2 fx_mh fx_Cs fx_nms ⟨"StubHouseModel", "record", "(I)V"⟩ prog_14_method_10_code 2 none fxt_29 = true := by decide +kernel
set_option maxRecDepth 20000 in
theorem fxb_29 : fx_all90 ⟨"StubHouseModel", "record", "(I)V"⟩ prog_14_method_10_code fxt_29 = true := by decide +kernel
set_option maxRecDepth 20000 in
theorem fxm_30 : zc_meth (⟨"StubHouseModel", "make", "(IJZ)I"⟩, prog_14_method_23_code, 6, (some .int)) (2638, 14, 2636, 2637) = true := by decide +kernel
set_option maxRecDepth 20000 in
theorem fxa_30 : zc_all fx_ms2 fx_mh fx_Cs fx_nms ⟨"StubHouseModel", "make", "(IJZ)I"⟩ prog_14_method_23_code 6 (some .int) fxt_30 = true := by decide +kernel
set_option maxRecDepth 20000 in
theorem fxb_30 : fx_all90 ⟨"StubHouseModel", "make", "(IJZ)I"⟩ prog_14_method_23_code fxt_30 = true := by decide +kernel
set_option maxRecDepth 20000 in
theorem fxm_31 : zc_meth (⟨"StubHouse", "find", "(IJ)I"⟩, prog_1_method_3_code, 5, (some .int)) (981, 1, 979, 980) = true := by decide +kernel
set_option maxRecDepth 20000 in
theorem fxa_31 : zc_all fx_ms2 fx_mh fx_Cs fx_nms ⟨"StubHouse", "find", "(IJ)I"⟩ prog_1_method_3_code 5 (some .int) fxt_31 = true := by decide +kernel
set_option maxRecDepth 20000 in
theorem fxb_31 : fx_all90 ⟨"StubHouse", "find", "(IJ)I"⟩ prog_1_method_3_code fxt_31 = true := by decide +kernel
set_option maxRecDepth 20000 in
theorem fxm_32 : zc_meth (⟨"StubHouseModel", "find", "(IJ)I"⟩, prog_14_method_24_code, 4, (some .int)) (2858, 14, 2856, 2857) = true := by decide +kernel
set_option maxRecDepth 20000 in
theorem fxa_32 : zc_all fx_ms2 fx_mh fx_Cs fx_nms ⟨"StubHouseModel", "find", "(IJ)I"⟩ prog_14_method_24_code 4 (some .int) fxt_32 = true := by decide +kernel
set_option maxRecDepth 20000 in
theorem fxb_32 : fx_all90 ⟨"StubHouseModel", "find", "(IJ)I"⟩ prog_14_method_24_code fxt_32 = true := by decide +kernel
set_option maxRecDepth 20000 in
theorem fxm_33 : zc_meth (⟨"StubHouse$Tree", "hasNodes", "(I)Z"⟩, prog_11_method_13_code, 3, (some .boolean)) (990, 2, 988, 989) = true := by decide +kernel
set_option maxRecDepth 20000 in
theorem fxa_33 : zc_all fx_ms2 fx_mh fx_Cs fx_nms ⟨"StubHouse$Tree", "hasNodes", "(I)Z"⟩ prog_11_method_13_code 3 (some .boolean) fxt_33 = true := by decide +kernel
set_option maxRecDepth 20000 in
theorem fxb_33 : fx_all90 ⟨"StubHouse$Tree", "hasNodes", "(I)Z"⟩ prog_11_method_13_code fxt_33 = true := by decide +kernel
set_option maxRecDepth 20000 in
theorem fxm_34 : zc_meth (⟨"StubHouse$Tree", "isFile", "(I)Z"⟩, prog_11_method_6_code, 2, (some .boolean)) (998, 2, 996, 997) = true := by decide +kernel
set_option maxRecDepth 20000 in
theorem fxa_34 : zc_all fx_ms2 fx_mh fx_Cs fx_nms ⟨"StubHouse$Tree", "isFile", "(I)Z"⟩ prog_11_method_6_code 2 (some .boolean) fxt_34 = true := by decide +kernel
set_option maxRecDepth 20000 in
theorem fxb_34 : fx_all90 ⟨"StubHouse$Tree", "isFile", "(I)Z"⟩ prog_11_method_6_code fxt_34 = true := by decide +kernel
set_option maxRecDepth 20000 in
theorem fxm_35 : zc_meth (⟨"StubHouse$Tape", "byteAt", "(I)I"⟩, prog_10_method_5_code, 2, (some .int)) (1014, 9, 1012, 1013) = true := by decide +kernel
set_option maxRecDepth 20000 in
theorem fxa_35 : zc_all fx_ms2 fx_mh fx_Cs fx_nms ⟨"StubHouse$Tape", "byteAt", "(I)I"⟩ prog_10_method_5_code 2 (some .int) fxt_35 = true := by decide +kernel
set_option maxRecDepth 20000 in
theorem fxb_35 : fx_all90 ⟨"StubHouse$Tape", "byteAt", "(I)I"⟩ prog_10_method_5_code fxt_35 = true := by decide +kernel
set_option maxRecDepth 20000 in
theorem fxm_36 : zc_meth (⟨"StubHouse$Tape", "sortAt", "(I)I"⟩, prog_10_method_6_code, 2, (some .int)) (1018, 9, 1016, 1017) = true := by decide +kernel
set_option maxRecDepth 20000 in
theorem fxa_36 : zc_all fx_ms2 fx_mh fx_Cs fx_nms ⟨"StubHouse$Tape", "sortAt", "(I)I"⟩ prog_10_method_6_code 2 (some .int) fxt_36 = true := by decide +kernel
set_option maxRecDepth 20000 in
theorem fxb_36 : fx_all90 ⟨"StubHouse$Tape", "sortAt", "(I)I"⟩ prog_10_method_6_code fxt_36 = true := by decide +kernel
set_option maxRecDepth 20000 in
theorem fxm_37 : zc_meth (⟨"StubHouse$Tape", "numberAt", "([BII)I"⟩, prog_10_method_3_code, 5, (some .int)) (1025, 9, 1024, 0) = true := by decide +kernel
set_option maxRecDepth 20000 in
theorem fxa_37 : zc_all fx_ms2 fx_mh fx_Cs fx_nms ⟨"StubHouse$Tape", "numberAt", "([BII)I"⟩ prog_10_method_3_code 5 (some .int) fxt_37 = true := by decide +kernel
set_option maxRecDepth 20000 in
theorem fxb_37 : fx_all90 ⟨"StubHouse$Tape", "numberAt", "([BII)I"⟩ prog_10_method_3_code fxt_37 = true := by decide +kernel
set_option maxRecDepth 20000 in
theorem fxm_38 : zc_meth (⟨"StubHouse$Tape", "isGivenAt", "(I)Z"⟩, prog_10_method_19_code, 3, (some .boolean)) (1022, 9, 1021, 3605) = true := by decide +kernel
set_option maxRecDepth 20000 in
theorem fxa_38 : zc_all fx_ms2 fx_mh fx_Cs fx_nms ⟨"StubHouse$Tape", "isGivenAt", "(I)Z"⟩ prog_10_method_19_code 3 (some .boolean) fxt_38 = true := by decide +kernel
set_option maxRecDepth 20000 in
theorem fxb_38 : fx_all90 ⟨"StubHouse$Tape", "isGivenAt", "(I)Z"⟩ prog_10_method_19_code fxt_38 = true := by decide +kernel
set_option maxRecDepth 20000 in
theorem fxm_39 : zc_meth (⟨"StubHouse$Tape", "depthAt", "(I)I"⟩, prog_10_method_8_code, 2, (some .int)) (1030, 9, 1028, 1029) = true := by decide +kernel
set_option maxRecDepth 20000 in
theorem fxa_39 : zc_all fx_ms2 fx_mh fx_Cs fx_nms ⟨"StubHouse$Tape", "depthAt", "(I)I"⟩ prog_10_method_8_code 2 (some .int) fxt_39 = true := by decide +kernel
set_option maxRecDepth 20000 in
theorem fxb_39 : fx_all90 ⟨"StubHouse$Tape", "depthAt", "(I)I"⟩ prog_10_method_8_code fxt_39 = true := by decide +kernel
set_option maxRecDepth 20000 in
theorem fxm_40 : zc_meth (⟨"StubHouse$Tape", "sizeAt", "(I)I"⟩, prog_10_method_9_code, 2, (some .int)) (1034, 9, 1032, 1033) = true := by decide +kernel
set_option maxRecDepth 20000 in
theorem fxa_40 : zc_all fx_ms2 fx_mh fx_Cs fx_nms ⟨"StubHouse$Tape", "sizeAt", "(I)I"⟩ prog_10_method_9_code 2 (some .int) fxt_40 = true := by decide +kernel
set_option maxRecDepth 20000 in
theorem fxb_40 : fx_all90 ⟨"StubHouse$Tape", "sizeAt", "(I)I"⟩ prog_10_method_9_code fxt_40 = true := by decide +kernel
set_option maxRecDepth 20000 in
theorem fxm_41 : zc_meth (⟨"StubHouse$Tape", "wholeLength", "(I)I"⟩, prog_10_method_11_code, 3, (some .int)) (1038, 9, 1036, 1037) = true := by decide +kernel
set_option maxRecDepth 20000 in
theorem fxa_41 : zc_all fx_ms2 fx_mh fx_Cs fx_nms ⟨"StubHouse$Tape", "wholeLength", "(I)I"⟩ prog_10_method_11_code 3 (some .int) fxt_41 = true := by decide +kernel
set_option maxRecDepth 20000 in
theorem fxb_41 : fx_all90 ⟨"StubHouse$Tape", "wholeLength", "(I)I"⟩ prog_10_method_11_code fxt_41 = true := by decide +kernel
set_option maxRecDepth 20000 in
theorem fxm_42 : zc_meth (⟨"StubHouse$Tape", "checkOf", "([BII)I"⟩, prog_10_method_2_code, 5, (some .int)) (1201, 9, 1200, 0) = true := by decide +kernel
set_option maxRecDepth 20000 in
theorem fxa_42 : zc_all fx_ms2 fx_mh fx_Cs fx_nms ⟨"StubHouse$Tape", "checkOf", "([BII)I"⟩ prog_10_method_2_code 5 (some .int) fxt_42 = true := by decide +kernel
set_option maxRecDepth 20000 in
theorem fxb_42 : fx_all90 ⟨"StubHouse$Tape", "checkOf", "([BII)I"⟩ prog_10_method_2_code fxt_42 = true := by decide +kernel
set_option maxRecDepth 20000 in
theorem fxm_43 : zc_meth (⟨"StubHouse$Tape", "isSegmentAt", "(I)Z"⟩, prog_10_method_18_code, 6, (some .boolean)) (1010, 9, 1009, 3604) = true := by decide +kernel
set_option maxRecDepth 20000 in
theorem fxa_43 : zc_all fx_ms2 fx_mh fx_Cs fx_nms ⟨"StubHouse$Tape", "isSegmentAt", "(I)Z"⟩ prog_10_method_18_code 6 (some .boolean) fxt_43 = true := by decide +kernel
set_option maxRecDepth 20000 in
theorem fxb_43 : fx_all90 ⟨"StubHouse$Tape", "isSegmentAt", "(I)Z"⟩ prog_10_method_18_code fxt_43 = true := by decide +kernel
set_option maxRecDepth 20000 in
theorem fxm_44 : zc_meth (⟨"StubHouse$Tape", "dataPlace", "(I)I"⟩, prog_10_method_10_code, 2, (some .int)) (1214, 9, 1212, 1213) = true := by decide +kernel
set_option maxRecDepth 20000 in
theorem fxa_44 : zc_all fx_ms2 fx_mh fx_Cs fx_nms ⟨"StubHouse$Tape", "dataPlace", "(I)I"⟩ prog_10_method_10_code 2 (some .int) fxt_44 = true := by decide +kernel
set_option maxRecDepth 20000 in
theorem fxb_44 : fx_all90 ⟨"StubHouse$Tape", "dataPlace", "(I)I"⟩ prog_10_method_10_code fxt_44 = true := by decide +kernel
set_option maxRecDepth 20000 in
theorem fxm_45 : zc_meth (⟨"StubHouse$Tape", "hasGoodData", "(I)Z"⟩, prog_10_method_17_code, 4, (some .boolean)) (1210, 9, 1209, 3607) = true := by decide +kernel
set_option maxRecDepth 20000 in
theorem fxa_45 : zc_all fx_ms2 fx_mh fx_Cs fx_nms ⟨"StubHouse$Tape", "hasGoodData", "(I)Z"⟩ prog_10_method_17_code 4 (some .boolean) fxt_45 = true := by decide +kernel
set_option maxRecDepth 20000 in
theorem fxb_45 : fx_all90 ⟨"StubHouse$Tape", "hasGoodData", "(I)Z"⟩ prog_10_method_17_code fxt_45 = true := by decide +kernel
set_option maxRecDepth 20000 in
theorem fxm_46 : zc_meth (⟨"StubHouse$Tape", "note", "(I)V"⟩, prog_10_method_16_code, 2, none) (1206, 9, 1205, 3606) = true := by decide +kernel
set_option maxRecDepth 20000 in
theorem fxa_46 : zc_all fx_ms2 fx_mh fx_Cs fx_nms ⟨"StubHouse$Tape", "note", "(I)V"⟩ prog_10_method_16_code 2 none fxt_46 = true := by decide +kernel
set_option maxRecDepth 20000 in
theorem fxb_46 : fx_all90 ⟨"StubHouse$Tape", "note", "(I)V"⟩ prog_10_method_16_code fxt_46 = true := by decide +kernel
set_option maxRecDepth 20000 in
theorem fxm_47 : zc_meth (⟨"StubHouse$Tape", "scan", "()V"⟩, prog_10_method_15_code, 1, none) (1006, 9, 1004, 1005) = true := by decide +kernel
set_option maxRecDepth 20000 in
theorem fxa_47 : zc_all fx_ms2 fx_mh fx_Cs fx_nms ⟨"StubHouse$Tape", "scan", "()V"⟩ prog_10_method_15_code 1 none fxt_47 = true := by decide +kernel
set_option maxRecDepth 20000 in
theorem fxb_47 : fx_all90 ⟨"StubHouse$Tape", "scan", "()V"⟩ prog_10_method_15_code fxt_47 = true := by decide +kernel
set_option maxRecDepth 20000 in
theorem fxm_48 : zc_meth (⟨"StubHouse$Library", "scanAll", "()V"⟩, prog_4_method_6_code, 2, none) (1002, 8, 1000, 1001) = true := by decide +kernel
set_option maxRecDepth 20000 in
theorem fxa_48 : zc_all fx_ms2 fx_mh fx_Cs fx_nms ⟨"StubHouse$Library", "scanAll", "()V"⟩ prog_4_method_6_code 2 none fxt_48 = true := by decide +kernel
set_option maxRecDepth 20000 in
theorem fxb_48 : fx_all90 ⟨"StubHouse$Library", "scanAll", "()V"⟩ prog_4_method_6_code fxt_48 = true := by decide +kernel
set_option maxRecDepth 20000 in
theorem fxm_49 : zc_meth (⟨"StubHouse$Library", "isFound", "(I)Z"⟩, prog_4_method_7_code, 4, (some .boolean)) (1221, 8, 1219, 1220) = true := by decide +kernel
set_option maxRecDepth 20000 in
theorem fxa_49 : zc_all fx_ms2 fx_mh fx_Cs fx_nms ⟨"StubHouse$Library", "isFound", "(I)Z"⟩ prog_4_method_7_code 4 (some .boolean) fxt_49 = true := by decide +kernel
set_option maxRecDepth 20000 in
theorem fxb_49 : fx_all90 ⟨"StubHouse$Library", "isFound", "(I)Z"⟩ prog_4_method_7_code fxt_49 = true := by decide +kernel
set_option maxRecDepth 20000 in
theorem fxm_50 : zc_meth (⟨"StubHouse$Writer", "isWriting", "(I)Z"⟩, prog_12_method_3_code, 2, (some .boolean)) (1225, 12, 1223, 1224) = true := by decide +kernel
set_option maxRecDepth 20000 in
theorem fxa_50 : zc_all fx_ms2 fx_mh fx_Cs fx_nms ⟨"StubHouse$Writer", "isWriting", "(I)Z"⟩ prog_12_method_3_code 2 (some .boolean) fxt_50 = true := by decide +kernel
set_option maxRecDepth 20000 in
theorem fxb_50 : fx_all90 ⟨"StubHouse$Writer", "isWriting", "(I)Z"⟩ prog_12_method_3_code fxt_50 = true := by decide +kernel
set_option maxRecDepth 20000 in
theorem fxm_51 : zc_meth (⟨"StubHouse", "mustWriteDelete", "(I)Z"⟩, prog_1_method_5_code, 3, (some .boolean)) (994, 1, 993, 3603) = true := by decide +kernel
set_option maxRecDepth 20000 in
theorem fxa_51 : zc_all fx_ms2 fx_mh fx_Cs fx_nms ⟨"StubHouse", "mustWriteDelete", "(I)Z"⟩ prog_1_method_5_code 3 (some .boolean) fxt_51 = true := by decide +kernel
set_option maxRecDepth 20000 in
theorem fxb_51 : fx_all90 ⟨"StubHouse", "mustWriteDelete", "(I)Z"⟩ prog_1_method_5_code fxt_51 = true := by decide +kernel
set_option maxRecDepth 20000 in
theorem fxm_52 : zc_meth (⟨"StubHouse$Stores", "storeOf", "(I)I"⟩, prog_9_method_2_code, 1, (some .int)) (1240, 5, 1239, 0) = true := by decide +kernel
set_option maxRecDepth 20000 in
theorem fxa_52 : zc_all fx_ms2 fx_mh fx_Cs fx_nms ⟨"StubHouse$Stores", "storeOf", "(I)I"⟩ prog_9_method_2_code 1 (some .int) fxt_52 = true := by decide +kernel
set_option maxRecDepth 20000 in
theorem fxb_52 : fx_all90 ⟨"StubHouse$Stores", "storeOf", "(I)I"⟩ prog_9_method_2_code fxt_52 = true := by decide +kernel
