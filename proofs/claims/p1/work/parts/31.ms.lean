/-! all methods of the table -/
def zk_one (q : zxTB × Nat × Nat × Nat) (q2 : MethodName × ByteArray × Nat × Option FieldType) : Prop := q.2.1 = q2.2.2.1 ∧ zk_meth q2.1 q2.2.1 q2.2.2.1 q2.2.2.2 ∧ ∀ pc, zk_ro zk_ms2 zk_Ps q2.1 q2.2.1 q2.2.2.1 q2.2.2.2 pc (zx_row q.1 pc)
def zk_all {α : Type} (P : α → Prop) : List α → Prop
  | [] => True
  | x :: l => P x ∧ zk_all P l
theorem zk_all_get {α : Type} {P : α → Prop} : ∀ {l : List α} (i : Nat) {x : α}, zk_all P l → l[i]? = some x → P x
  | [], i, x, _, h => by cases h
  | y :: l, 0, x, h, e => by cases e; exact h.1
  | y :: l, i + 1, x, h, e => zk_all_get i h.2 e
theorem zr_2_getL {α β : Type} {R : α → β → Prop} : ∀ {l : List α} {l' : List β} (i : Nat) {x : α}, zr_2 R l l' → l[i]? = some x → ∃ y, l'[i]? = some y ∧ R x y
  | [], [], i, x, _, h => by cases h
  | y :: l, z :: l', 0, x, h, e => by cases e; exact ⟨z, rfl, h.1⟩
  | y :: l, z :: l', i + 1, x, h, e => zr_2_getL i h.2 e
  | [], _ :: _, _, _, h, _ => h.elim
  | _ :: _, [], _, _, h, _ => h.elim
theorem za_law : zc_all zk_ms2 zk_mh zk_Cs zk_nms ⟨"StubHouseLaw", "law", "([I)Z"⟩ code 4 (some .boolean) ztb_law = true := by
  refine List.all_eq_true.mpr (fun pc hpc => ?_)
  have hpc : pc < 16 * ztb_law.length := List.mem_range.mp hpc
  have hpc : pc < 1168 := hpc
  by_cases g0 : pc < 73
  · exact zc_rng_in zl_0 pc (by omega) (by omega)
  by_cases g1 : pc < 146
  · exact zc_rng_in zl_1 pc (by omega) (by omega)
  by_cases g2 : pc < 219
  · exact zc_rng_in zl_2 pc (by omega) (by omega)
  by_cases g3 : pc < 292
  · exact zc_rng_in zl_3 pc (by omega) (by omega)
  by_cases g4 : pc < 365
  · exact zc_rng_in zl_4 pc (by omega) (by omega)
  by_cases g5 : pc < 438
  · exact zc_rng_in zl_5 pc (by omega) (by omega)
  by_cases g6 : pc < 511
  · exact zc_rng_in zl_6 pc (by omega) (by omega)
  by_cases g7 : pc < 584
  · exact zc_rng_in zl_7 pc (by omega) (by omega)
  by_cases g8 : pc < 657
  · exact zc_rng_in zl_8 pc (by omega) (by omega)
  by_cases g9 : pc < 730
  · exact zc_rng_in zl_9 pc (by omega) (by omega)
  by_cases g10 : pc < 803
  · exact zc_rng_in zl_10 pc (by omega) (by omega)
  by_cases g11 : pc < 876
  · exact zc_rng_in zl_11 pc (by omega) (by omega)
  by_cases g12 : pc < 949
  · exact zc_rng_in zl_12 pc (by omega) (by omega)
  by_cases g13 : pc < 1022
  · exact zc_rng_in zl_13 pc (by omega) (by omega)
  by_cases g14 : pc < 1095
  · exact zc_rng_in zl_14 pc (by omega) (by omega)
  by_cases g15 : pc < 1168
  · exact zc_rng_in zl_15 pc (by omega) (by omega)
  omega
set_option maxRecDepth 20000 in
theorem zk_hall0 : zk_all (fun q : MethodName × ByteArray × Nat × Option FieldType => zk_meth q.1 q.2.1 q.2.2.1 q.2.2.2) zk_ms2 := ⟨zc_meth_ok zm_0, zc_meth_ok zm_1, zc_meth_ok zm_2, zc_meth_ok zm_3, zc_meth_ok zm_4, zc_meth_ok zm_5, zc_meth_ok zm_6, zc_meth_ok zm_7, zc_meth_ok zm_8, zc_meth_ok zm_9, zc_meth_ok zm_10, zc_meth_ok zm_11, zc_meth_ok zm_12, zc_meth_ok zm_13, zc_meth_ok zm_14, zc_meth_ok zm_15, zc_meth_ok zm_16, zc_meth_ok zm_17, zc_meth_ok zm_18, zc_meth_ok zm_19, zc_meth_ok zm_20, zc_meth_ok zm_21, zc_meth_ok zm_22, zc_meth_ok zm_23, zc_meth_ok zm_24, zc_meth_ok zm_25, zc_meth_ok zm_26, zc_meth_ok zm_27, zc_meth_ok zm_28, zc_meth_ok zm_29, zc_meth_ok zm_30, zc_meth_ok zm_31, zc_meth_ok zm_32, zc_meth_ok zm_33, zc_meth_ok zm_34, zc_meth_ok zm_35, zc_meth_ok zm_36, zc_meth_ok zm_37, zc_meth_ok zm_38, zc_meth_ok zm_39, zc_meth_ok zm_40, zc_meth_ok zm_41, zc_meth_ok zm_42, zc_meth_ok zm_43, zc_meth_ok zm_44, zc_meth_ok zm_45, zc_meth_ok zm_46, zc_meth_ok zm_47, zc_meth_ok zm_48, zc_meth_ok zm_49, zc_meth_ok zm_50, zc_meth_ok zm_51, zc_meth_ok zm_52, zc_meth_ok zm_53, zc_meth_ok zm_54, zc_meth_ok zm_55, zc_meth_ok zm_56, zc_meth_ok zm_57, zc_meth_ok zm_58, zc_meth_ok zm_59, zc_meth_ok zm_60, zc_meth_ok zm_61, zc_meth_ok zm_62, zc_meth_ok zm_63, zc_meth_ok zm_64, zc_meth_ok zm_65, zc_meth_ok zm_66, zc_meth_ok zm_67, zc_meth_ok zm_68, zc_meth_ok zm_69, zc_meth_ok zm_70, zc_meth_ok zm_71, zc_meth_ok zm_72, zc_meth_ok zm_73, zc_meth_ok zm_74, zc_meth_ok zm_75, zc_meth_ok zm_76, zc_meth_ok zm_77, zc_meth_ok zm_78, zc_meth_ok zm_79, zc_meth_ok zm_80, zc_meth_ok zm_81, zc_meth_ok zm_82, zc_meth_ok zm_83, zc_meth_ok zm_84, zc_meth_ok zm_85, zc_meth_ok zm_86, zc_meth_ok zm_87, zc_meth_ok zm_88, zc_meth_ok zm_89, zc_meth_ok zm_90, zc_meth_ok zm_91, zc_meth_ok zm_92, zc_meth_ok zm_93, zc_meth_ok zm_94, zc_meth_ok zm_95, zc_meth_ok zm_96, zc_meth_ok zm_97, zc_meth_ok zm_98, zc_meth_ok zm_99, zc_meth_ok zm_100, zc_meth_ok zm_101, zc_meth_ok zm_102, zc_meth_ok zm_103, zc_meth_ok zm_104, zc_meth_ok zm_105, zc_meth_ok zm_106, zc_meth_ok zm_107, zc_meth_ok zm_108, zc_meth_ok zm_109, zc_meth_ok zm_110, zc_meth_ok zm_111, zc_meth_ok zm_112, zc_meth_ok zm_113, zc_meth_ok zm_114, zc_meth_ok zm_115, zc_meth_ok zm_116, zc_meth_ok zm_117, zc_meth_ok zm_118, zc_meth_ok zm_119, zc_meth_ok zm_120, zc_meth_ok zm_121, zc_meth_ok zm_122, zc_meth_ok zm_123, zc_meth_ok zm_124, zc_meth_ok zm_125, zc_meth_ok zm_126, zc_meth_ok zm_127, zc_meth_ok zm_128, zc_meth_ok zm_129, zc_meth_ok zm_130, zc_meth_ok zm_131, zc_meth_ok zm_132, zc_meth_ok zm_133, zc_meth_ok zm_134, zc_meth_ok zm_135, zc_meth_ok zm_136, zc_meth_ok zm_137, zc_meth_ok zm_138, zc_meth_ok zm_139, zc_meth_ok zm_140, zc_meth_ok zm_141, zc_meth_ok zm_142, zc_meth_ok zm_143, zc_meth_ok zm_144, zc_meth_ok zm_145, zc_meth_ok zm_146, zc_meth_ok zm_147, zc_meth_ok zm_148, zc_meth_ok zm_149, trivial⟩
theorem zk_hall : ∀ (i : Nat) (y : MethodName) (cc : ByteArray) (mL : Nat) (ret : Option FieldType), zk_ms2[i]? = some (y, cc, mL, ret) → zk_meth y cc mL ret := fun i _ _ _ _ h => zk_all_get (P := fun q : MethodName × ByteArray × Nat × Option FieldType => zk_meth q.1 q.2.1 q.2.2.1 q.2.2.2) i zk_hall0 h
theorem zk_one_of {tb : zxTB} {mL bu bw : Nat} {y : MethodName} {cc : ByteArray} {ret : Option FieldType} {h : Nat × Nat × Nat × Nat} (hnm : ∀ (i : Nat) (y : MethodName) (cc : ByteArray) (mL : Nat), zk_nms[i]? = some (y, cc, mL) → zk_nm y cc mL) (h1 : zc_meth (y, cc, mL, ret) h = true) (h2 : zc_all zk_ms2 zk_mh zk_Cs zk_nms y cc mL ret tb = true) : zk_one (tb, mL, bu, bw) (y, cc, mL, ret) := ⟨rfl, zc_meth_ok h1, zc_all_ok zk_hall zk_Cs_ok hnm h2⟩
set_option maxRecDepth 20000 in
theorem zk_ones (hnm : ∀ (i : Nat) (y : MethodName) (cc : ByteArray) (mL : Nat), zk_nms[i]? = some (y, cc, mL) → zk_nm y cc mL) : zr_2 zk_one zx_ms zk_ms2 := ⟨zk_one_of hnm zm_0 za_0, zk_one_of hnm zm_1 za_1, zk_one_of hnm zm_2 za_2, zk_one_of hnm zm_3 za_3, zk_one_of hnm zm_4 za_4, zk_one_of hnm zm_5 za_5, zk_one_of hnm zm_6 za_6, zk_one_of hnm zm_7 za_7, zk_one_of hnm zm_8 za_8, zk_one_of hnm zm_9 za_9, zk_one_of hnm zm_10 za_10, zk_one_of hnm zm_11 za_11, zk_one_of hnm zm_12 za_12, zk_one_of hnm zm_13 za_13, zk_one_of hnm zm_14 za_14, zk_one_of hnm zm_15 za_15, zk_one_of hnm zm_16 za_16, zk_one_of hnm zm_17 za_17, zk_one_of hnm zm_18 za_18, zk_one_of hnm zm_19 za_19, zk_one_of hnm zm_20 za_20, zk_one_of hnm zm_21 za_21, zk_one_of hnm zm_22 za_22, zk_one_of hnm zm_23 za_23, zk_one_of hnm zm_24 za_24, zk_one_of hnm zm_25 za_25, zk_one_of hnm zm_26 za_26, zk_one_of hnm zm_27 za_27, zk_one_of hnm zm_28 za_28, zk_one_of hnm zm_29 za_29, zk_one_of hnm zm_30 za_30, zk_one_of hnm zm_31 za_31, zk_one_of hnm zm_32 za_32, zk_one_of hnm zm_33 za_33, zk_one_of hnm zm_34 za_34, zk_one_of hnm zm_35 za_35, zk_one_of hnm zm_36 za_36, zk_one_of hnm zm_37 za_37, zk_one_of hnm zm_38 za_38, zk_one_of hnm zm_39 za_39, zk_one_of hnm zm_40 za_40, zk_one_of hnm zm_41 za_41, zk_one_of hnm zm_42 za_42, zk_one_of hnm zm_43 za_43, zk_one_of hnm zm_44 za_44, zk_one_of hnm zm_45 za_45, zk_one_of hnm zm_46 za_46, zk_one_of hnm zm_47 za_47, zk_one_of hnm zm_48 za_48, zk_one_of hnm zm_49 za_49, zk_one_of hnm zm_50 za_50, zk_one_of hnm zm_51 za_51, zk_one_of hnm zm_52 za_52, zk_one_of hnm zm_53 za_53, zk_one_of hnm zm_54 za_54, zk_one_of hnm zm_55 za_55, zk_one_of hnm zm_56 za_56, zk_one_of hnm zm_57 za_57, zk_one_of hnm zm_58 za_58, zk_one_of hnm zm_59 za_59, zk_one_of hnm zm_60 za_60, zk_one_of hnm zm_61 za_61, zk_one_of hnm zm_62 za_62, zk_one_of hnm zm_63 za_63, zk_one_of hnm zm_64 za_64, zk_one_of hnm zm_65 za_65, zk_one_of hnm zm_66 za_66, zk_one_of hnm zm_67 za_67, zk_one_of hnm zm_68 za_68, zk_one_of hnm zm_69 za_69, zk_one_of hnm zm_70 za_70, zk_one_of hnm zm_71 za_71, zk_one_of hnm zm_72 za_72, zk_one_of hnm zm_73 za_73, zk_one_of hnm zm_74 za_74, zk_one_of hnm zm_75 za_75, zk_one_of hnm zm_76 za_76, zk_one_of hnm zm_77 za_77, zk_one_of hnm zm_78 za_78, zk_one_of hnm zm_79 za_79, zk_one_of hnm zm_80 za_80, zk_one_of hnm zm_81 za_81, zk_one_of hnm zm_82 za_82, zk_one_of hnm zm_83 za_83, zk_one_of hnm zm_84 za_84, zk_one_of hnm zm_85 za_85, zk_one_of hnm zm_86 za_86, zk_one_of hnm zm_87 za_87, zk_one_of hnm zm_88 za_88, zk_one_of hnm zm_89 za_89, zk_one_of hnm zm_90 za_90, zk_one_of hnm zm_91 za_91, zk_one_of hnm zm_92 za_92, zk_one_of hnm zm_93 za_93, zk_one_of hnm zm_94 za_94, zk_one_of hnm zm_95 za_95, zk_one_of hnm zm_96 za_96, zk_one_of hnm zm_97 za_97, zk_one_of hnm zm_98 za_98, zk_one_of hnm zm_99 za_99, zk_one_of hnm zm_100 za_100, zk_one_of hnm zm_101 za_101, zk_one_of hnm zm_102 za_102, zk_one_of hnm zm_103 za_103, zk_one_of hnm zm_104 za_104, zk_one_of hnm zm_105 za_105, zk_one_of hnm zm_106 za_106, zk_one_of hnm zm_107 za_107, zk_one_of hnm zm_108 za_108, zk_one_of hnm zm_109 za_109, zk_one_of hnm zm_110 za_110, zk_one_of hnm zm_111 za_111, zk_one_of hnm zm_112 za_112, zk_one_of hnm zm_113 za_113, zk_one_of hnm zm_114 za_114, zk_one_of hnm zm_115 za_115, zk_one_of hnm zm_116 za_116, zk_one_of hnm zm_117 za_117, zk_one_of hnm zm_118 za_118, zk_one_of hnm zm_119 za_119, zk_one_of hnm zm_120 za_120, zk_one_of hnm zm_121 za_121, zk_one_of hnm zm_122 za_122, zk_one_of hnm zm_123 za_123, zk_one_of hnm zm_124 za_124, zk_one_of hnm zm_125 za_125, zk_one_of hnm zm_126 za_126, zk_one_of hnm zm_127 za_127, zk_one_of hnm zm_128 za_128, zk_one_of hnm zm_129 za_129, zk_one_of hnm zm_130 za_130, zk_one_of hnm zm_131 za_131, zk_one_of hnm zm_132 za_132, zk_one_of hnm zm_133 za_133, zk_one_of hnm zm_134 za_134, zk_one_of hnm zm_135 za_135, zk_one_of hnm zm_136 za_136, zk_one_of hnm zm_137 za_137, zk_one_of hnm zm_138 za_138, zk_one_of hnm zm_139 za_139, zk_one_of hnm zm_140 za_140, zk_one_of hnm zm_141 za_141, zk_one_of hnm zm_142 za_142, zk_one_of hnm zm_143 za_143, zk_one_of hnm zm_144 za_144, zk_one_of hnm zm_145 za_145, zk_one_of hnm zm_146 za_146, zk_one_of hnm zm_147 za_147, zk_one_of hnm zm_148 za_148, zk_one_of hnm zm_149 za_149, trivial⟩
theorem zk_MS_ok (hnm : ∀ (i : Nat) (y : MethodName) (cc : ByteArray) (mL : Nat), zk_nms[i]? = some (y, cc, mL) → zk_nm y cc mL) : zk_MS zx_ms zk_ms2 zk_Ps := by
  intro i tb mL bu bw h
  obtain ⟨⟨y, cc, mL2, ret⟩, e, h1, h2, h3⟩ := zr_2_getL i (zk_ones hnm) h
  have h1 : mL = mL2 := h1
  subst h1
  exact ⟨y, cc, ret, e, h2, h3⟩
theorem zk_law_ro (hnm : ∀ (i : Nat) (y : MethodName) (cc : ByteArray) (mL : Nat), zk_nms[i]? = some (y, cc, mL) → zk_nm y cc mL) : ∀ pc, zk_ro zk_ms2 zk_Ps ⟨"StubHouseLaw", "law", "([I)Z"⟩ code 4 (some .boolean) pc (zx_row ztb_law pc) := zc_all_ok zk_hall zk_Cs_ok hnm za_law
