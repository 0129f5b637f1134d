/-! the rows of the law, checked -/
noncomputable def zc_rng (ms2 : zkMS) (mh : zkMH) (Cs : List zkCK) (nms : List (MethodName × ByteArray × Nat)) (y : MethodName) (cc : ByteArray) (mL : Nat) (ret : Option FieldType) (tb : zxTB) (k n : Nat) : Bool := (List.range n).all (fun j => zc_ro ms2 mh Cs nms y cc mL ret (k + j) (zx_row tb (k + j)))
theorem zc_rng_in {ms2 : zkMS} {mh : zkMH} {Cs : List zkCK} {nms : List (MethodName × ByteArray × Nat)} {y : MethodName} {cc : ByteArray} {mL : Nat} {ret : Option FieldType} {tb : zxTB} {k n : Nat} (h : zc_rng ms2 mh Cs nms y cc mL ret tb k n = true) (pc : Nat) (h1 : k ≤ pc) (h2 : pc < k + n) : zc_ro ms2 mh Cs nms y cc mL ret pc (zx_row tb pc) = true := by
  have := List.all_eq_true.mp h (pc - k) (List.mem_range.mpr (by omega))
  rw [show k + (pc - k) = pc by omega] at this
  exact this
set_option maxRecDepth 20000 in
theorem zl_0 : zc_rng zk_ms2 zk_mh zk_Cs zk_nms ⟨"StubHouseLaw", "law", "([I)Z"⟩ code 4 (some .boolean) ztb_law 0 73 = true := by decide +kernel
set_option maxRecDepth 20000 in
theorem zl_1 : zc_rng zk_ms2 zk_mh zk_Cs zk_nms ⟨"StubHouseLaw", "law", "([I)Z"⟩ code 4 (some .boolean) ztb_law 73 73 = true := by decide +kernel
set_option maxRecDepth 20000 in
theorem zl_2 : zc_rng zk_ms2 zk_mh zk_Cs zk_nms ⟨"StubHouseLaw", "law", "([I)Z"⟩ code 4 (some .boolean) ztb_law 146 73 = true := by decide +kernel
set_option maxRecDepth 20000 in
theorem zl_3 : zc_rng zk_ms2 zk_mh zk_Cs zk_nms ⟨"StubHouseLaw", "law", "([I)Z"⟩ code 4 (some .boolean) ztb_law 219 73 = true := by decide +kernel
set_option maxRecDepth 20000 in
theorem zl_4 : zc_rng zk_ms2 zk_mh zk_Cs zk_nms ⟨"StubHouseLaw", "law", "([I)Z"⟩ code 4 (some .boolean) ztb_law 292 73 = true := by decide +kernel
set_option maxRecDepth 20000 in
theorem zl_5 : zc_rng zk_ms2 zk_mh zk_Cs zk_nms ⟨"StubHouseLaw", "law", "([I)Z"⟩ code 4 (some .boolean) ztb_law 365 73 = true := by decide +kernel
set_option maxRecDepth 20000 in
theorem zl_6 : zc_rng zk_ms2 zk_mh zk_Cs zk_nms ⟨"StubHouseLaw", "law", "([I)Z"⟩ code 4 (some .boolean) ztb_law 438 73 = true := by decide +kernel
set_option maxRecDepth 20000 in
theorem zl_7 : zc_rng zk_ms2 zk_mh zk_Cs zk_nms ⟨"StubHouseLaw", "law", "([I)Z"⟩ code 4 (some .boolean) ztb_law 511 73 = true := by decide +kernel
