/-! the rows of the law, checked -/
set_option maxRecDepth 20000 in
theorem zl_8 : zc_rng zk_ms2 zk_mh zk_Cs zk_nms ⟨"StubHouseLaw", "law", "([I)Z"⟩ code 4 (some .boolean) ztb_law 584 73 = true := by decide +kernel
set_option maxRecDepth 20000 in
theorem zl_9 : zc_rng zk_ms2 zk_mh zk_Cs zk_nms ⟨"StubHouseLaw", "law", "([I)Z"⟩ code 4 (some .boolean) ztb_law 657 73 = true := by decide +kernel
set_option maxRecDepth 20000 in
theorem zl_10 : zc_rng zk_ms2 zk_mh zk_Cs zk_nms ⟨"StubHouseLaw", "law", "([I)Z"⟩ code 4 (some .boolean) ztb_law 730 73 = true := by decide +kernel
set_option maxRecDepth 20000 in
theorem zl_11 : zc_rng zk_ms2 zk_mh zk_Cs zk_nms ⟨"StubHouseLaw", "law", "([I)Z"⟩ code 4 (some .boolean) ztb_law 803 73 = true := by decide +kernel
set_option maxRecDepth 20000 in
theorem zl_12 : zc_rng zk_ms2 zk_mh zk_Cs zk_nms ⟨"StubHouseLaw", "law", "([I)Z"⟩ code 4 (some .boolean) ztb_law 876 73 = true := by decide +kernel
set_option maxRecDepth 20000 in
theorem zl_13 : zc_rng zk_ms2 zk_mh zk_Cs zk_nms ⟨"StubHouseLaw", "law", "([I)Z"⟩ code 4 (some .boolean) ztb_law 949 73 = true := by decide +kernel
set_option maxRecDepth 20000 in
theorem zl_14 : zc_rng zk_ms2 zk_mh zk_Cs zk_nms ⟨"StubHouseLaw", "law", "([I)Z"⟩ code 4 (some .boolean) ztb_law 1022 73 = true := by decide +kernel
set_option maxRecDepth 20000 in
theorem zl_15 : zc_rng zk_ms2 zk_mh zk_Cs zk_nms ⟨"StubHouseLaw", "law", "([I)Z"⟩ code 4 (some .boolean) ztb_law 1095 73 = true := by decide +kernel
