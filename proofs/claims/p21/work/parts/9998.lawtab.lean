/-! the rows of the law, checked -/
noncomputable def zc_rng (ms2 : zkMS) (mh : zkMH) (Cs : List zkCK) (nms : List (MethodName × ByteArray × Nat)) (y : MethodName) (cc : ByteArray) (mL : Nat) (ret : Option FieldType) (tb : zxTB) (k n : Nat) : Bool := (List.range n).all (fun j => zc_ro ms2 mh Cs nms y cc mL ret (k + j) (zx_row tb (k + j)))
theorem zc_rng_in {ms2 : zkMS} {mh : zkMH} {Cs : List zkCK} {nms : List (MethodName × ByteArray × Nat)} {y : MethodName} {cc : ByteArray} {mL : Nat} {ret : Option FieldType} {tb : zxTB} {k n : Nat} (h : zc_rng ms2 mh Cs nms y cc mL ret tb k n = true) (pc : Nat) (h1 : k ≤ pc) (h2 : pc < k + n) : zc_ro ms2 mh Cs nms y cc mL ret pc (zx_row tb pc) = true := by
  have := List.all_eq_true.mp h (pc - k) (List.mem_range.mpr (by omega))
  rw [show k + (pc - k) = pc by omega] at this
  exact this
set_option maxRecDepth 20000 in
theorem fl_0 : zc_rng fx_ms2 fx_mh fx_Cs fx_nms ⟨"StubHouseLaw", "law", "([I)Z"⟩ code 4 (some .boolean) fxt_316 0 73 = true := by decide +kernel
set_option maxRecDepth 20000 in
theorem fl_1 : zc_rng fx_ms2 fx_mh fx_Cs fx_nms ⟨"StubHouseLaw", "law", "([I)Z"⟩ code 4 (some .boolean) fxt_316 73 73 = true := by decide +kernel
set_option maxRecDepth 20000 in
theorem fl_2 : zc_rng fx_ms2 fx_mh fx_Cs fx_nms ⟨"StubHouseLaw", "law", "([I)Z"⟩ code 4 (some .boolean) fxt_316 146 73 = true := by decide +kernel
set_option maxRecDepth 20000 in
theorem fl_3 : zc_rng fx_ms2 fx_mh fx_Cs fx_nms ⟨"StubHouseLaw", "law", "([I)Z"⟩ code 4 (some .boolean) fxt_316 219 73 = true := by decide +kernel
set_option maxRecDepth 20000 in
theorem fl_4 : zc_rng fx_ms2 fx_mh fx_Cs fx_nms ⟨"StubHouseLaw", "law", "([I)Z"⟩ code 4 (some .boolean) fxt_316 292 73 = true := by decide +kernel
set_option maxRecDepth 20000 in
theorem fl_5 : zc_rng fx_ms2 fx_mh fx_Cs fx_nms ⟨"StubHouseLaw", "law", "([I)Z"⟩ code 4 (some .boolean) fxt_316 365 73 = true := by decide +kernel
set_option maxRecDepth 20000 in
theorem fl_6 : zc_rng fx_ms2 fx_mh fx_Cs fx_nms ⟨"StubHouseLaw", "law", "([I)Z"⟩ code 4 (some .boolean) fxt_316 438 73 = true := by decide +kernel
set_option maxRecDepth 20000 in
theorem fl_7 : zc_rng fx_ms2 fx_mh fx_Cs fx_nms ⟨"StubHouseLaw", "law", "([I)Z"⟩ code 4 (some .boolean) fxt_316 511 73 = true := by decide +kernel
set_option maxRecDepth 20000 in
theorem fl_8 : zc_rng fx_ms2 fx_mh fx_Cs fx_nms ⟨"StubHouseLaw", "law", "([I)Z"⟩ code 4 (some .boolean) fxt_316 584 73 = true := by decide +kernel
set_option maxRecDepth 20000 in
theorem fl_9 : zc_rng fx_ms2 fx_mh fx_Cs fx_nms ⟨"StubHouseLaw", "law", "([I)Z"⟩ code 4 (some .boolean) fxt_316 657 73 = true := by decide +kernel
set_option maxRecDepth 20000 in
theorem fl_10 : zc_rng fx_ms2 fx_mh fx_Cs fx_nms ⟨"StubHouseLaw", "law", "([I)Z"⟩ code 4 (some .boolean) fxt_316 730 73 = true := by decide +kernel
set_option maxRecDepth 20000 in
theorem fl_11 : zc_rng fx_ms2 fx_mh fx_Cs fx_nms ⟨"StubHouseLaw", "law", "([I)Z"⟩ code 4 (some .boolean) fxt_316 803 73 = true := by decide +kernel
set_option maxRecDepth 20000 in
theorem fl_12 : zc_rng fx_ms2 fx_mh fx_Cs fx_nms ⟨"StubHouseLaw", "law", "([I)Z"⟩ code 4 (some .boolean) fxt_316 876 73 = true := by decide +kernel
set_option maxRecDepth 20000 in
theorem fl_13 : zc_rng fx_ms2 fx_mh fx_Cs fx_nms ⟨"StubHouseLaw", "law", "([I)Z"⟩ code 4 (some .boolean) fxt_316 949 73 = true := by decide +kernel
set_option maxRecDepth 20000 in
theorem fl_14 : zc_rng fx_ms2 fx_mh fx_Cs fx_nms ⟨"StubHouseLaw", "law", "([I)Z"⟩ code 4 (some .boolean) fxt_316 1022 73 = true := by decide +kernel
set_option maxRecDepth 20000 in
theorem fl_15 : zc_rng fx_ms2 fx_mh fx_Cs fx_nms ⟨"StubHouseLaw", "law", "([I)Z"⟩ code 4 (some .boolean) fxt_316 1095 73 = true := by decide +kernel
theorem fl_len : fxt_316.length = 73 := by decide +kernel
theorem fl_law : zc_all fx_ms2 fx_mh fx_Cs fx_nms ⟨"StubHouseLaw", "law", "([I)Z"⟩ code 4 (some .boolean) fxt_316 = true := by
  refine List.all_eq_true.mpr (fun pc hpc => ?_)
  have hpc : pc < 16 * fxt_316.length := List.mem_range.mp hpc
  rw [fl_len] at hpc
  by_cases g0 : pc < 73
  · exact zc_rng_in fl_0 pc (by omega) (by omega)
  by_cases g1 : pc < 146
  · exact zc_rng_in fl_1 pc (by omega) (by omega)
  by_cases g2 : pc < 219
  · exact zc_rng_in fl_2 pc (by omega) (by omega)
  by_cases g3 : pc < 292
  · exact zc_rng_in fl_3 pc (by omega) (by omega)
  by_cases g4 : pc < 365
  · exact zc_rng_in fl_4 pc (by omega) (by omega)
  by_cases g5 : pc < 438
  · exact zc_rng_in fl_5 pc (by omega) (by omega)
  by_cases g6 : pc < 511
  · exact zc_rng_in fl_6 pc (by omega) (by omega)
  by_cases g7 : pc < 584
  · exact zc_rng_in fl_7 pc (by omega) (by omega)
  by_cases g8 : pc < 657
  · exact zc_rng_in fl_8 pc (by omega) (by omega)
  by_cases g9 : pc < 730
  · exact zc_rng_in fl_9 pc (by omega) (by omega)
  by_cases g10 : pc < 803
  · exact zc_rng_in fl_10 pc (by omega) (by omega)
  by_cases g11 : pc < 876
  · exact zc_rng_in fl_11 pc (by omega) (by omega)
  by_cases g12 : pc < 949
  · exact zc_rng_in fl_12 pc (by omega) (by omega)
  by_cases g13 : pc < 1022
  · exact zc_rng_in fl_13 pc (by omega) (by omega)
  by_cases g14 : pc < 1095
  · exact zc_rng_in fl_14 pc (by omega) (by omega)
  by_cases g15 : pc < 1168
  · exact zc_rng_in fl_15 pc (by omega) (by omega)
  omega
theorem fl_ro : ∀ pc, zk_ro fx_ms2 fx_Ps ⟨"StubHouseLaw", "law", "([I)Z"⟩ code 4 (some .boolean) pc (zx_row fxt_316 pc) := zc_all_ok fx_hall fx_Cs_ok fx_nm_all fl_law
def fl_op (n : Nat) : Bool := Nat.blt n 71 || (Nat.beq n 78 || (Nat.beq n 79 || Nat.beq n 999))
set_option maxRecDepth 20000 in
theorem fl_ops : (List.range (16 * 73)).all (fun pc => fl_op (zx_row fxt_316 pc).1) = true := by decide +kernel
theorem fl_hop (pc : Nat) : (zx_row fxt_316 pc).1 < 71 ∨ (zx_row fxt_316 pc).1 = 78 ∨ (zx_row fxt_316 pc).1 = 79 ∨ (zx_row fxt_316 pc).1 = 999 := by
  by_cases hp : pc < 16 * 73
  · have h := List.all_eq_true.mp fl_ops pc (List.mem_range.mpr hp)
    rcases Bool.or_eq_true_iff.mp h with h | h
    · exact Or.inl (zx_blt.mp h)
    rcases Bool.or_eq_true_iff.mp h with h | h
    · exact Or.inr (Or.inl (zx_beq.mp h))
    rcases Bool.or_eq_true_iff.mp h with h | h
    · exact Or.inr (Or.inr (Or.inl (zx_beq.mp h)))
    · exact Or.inr (Or.inr (Or.inr (zx_beq.mp h)))
  · have e : zx_row fxt_316 pc = (999, 0, 0, 0, []) := by
      unfold zx_row
      have e1 : zx_N [] fxt_316 (pc / 16) = [] := by
        rw [zx_N_eq, List.getElem?_eq_none (by rw [fl_len]; omega)]; rfl
      rw [e1]; rfl
    rw [e]
    exact Or.inr (Or.inr (Or.inr rfl))
