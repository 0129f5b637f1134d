/-! the rows of the constructors' tables, checked -/
set_option maxRecDepth 20000 in
theorem zm_0 : zc_meth (⟨"StubHouse$Node", "<init>", "()V"⟩, prog_7_method_1_code, 1, none) (36, 3, 35, 0) = true := by decide +kernel
set_option maxRecDepth 20000 in
theorem za_0 : zc_all zk_ms2 zk_mh zk_Cs zk_nms ⟨"StubHouse$Node", "<init>", "()V"⟩ prog_7_method_1_code 1 none ztb_0 = true := by decide +kernel
set_option maxRecDepth 20000 in
theorem zm_1 : zc_meth (⟨"java/util/Arrays", "fill", "([II)V"⟩, prog_17_method_103_code, 4, none) (40, 4, 39, 0) = true := by decide +kernel
set_option maxRecDepth 20000 in
theorem za_1 : zc_all zk_ms2 zk_mh zk_Cs zk_nms ⟨"java/util/Arrays", "fill", "([II)V"⟩ prog_17_method_103_code 4 none ztb_1 = true := by decide +kernel
set_option maxRecDepth 20000 in
theorem zm_2 : zc_meth (⟨"StubHouse$Tape", "<init>", "()V"⟩, prog_10_method_1_code, 1, none) (445, 9, 444, 0) = true := by decide +kernel
set_option maxRecDepth 20000 in
theorem za_2 : zc_all zk_ms2 zk_mh zk_Cs zk_nms ⟨"StubHouse$Tape", "<init>", "()V"⟩ prog_10_method_1_code 1 none ztb_2 = true := by decide +kernel
set_option maxRecDepth 20000 in
theorem zm_3 : zc_meth (⟨"StubHouse$Drive", "<init>", "()V"⟩, prog_3_method_1_code, 1, none) (539, 10, 538, 0) = true := by decide +kernel
set_option maxRecDepth 20000 in
theorem za_3 : zc_all zk_ms2 zk_mh zk_Cs zk_nms ⟨"StubHouse$Drive", "<init>", "()V"⟩ prog_3_method_1_code 1 none ztb_3 = true := by decide +kernel
set_option maxRecDepth 20000 in
theorem zm_4 : zc_meth (⟨"StubHouse", "<init>", "()V"⟩, prog_1_method_1_code, 1, none) (21, 1, 20, 0) = true := by decide +kernel
set_option maxRecDepth 20000 in
theorem za_4 : zc_all zk_ms2 zk_mh zk_Cs zk_nms ⟨"StubHouse", "<init>", "()V"⟩ prog_1_method_1_code 1 none ztb_4 = true := by decide +kernel
set_option maxRecDepth 20000 in
theorem zm_5 : zc_meth (⟨"StubHouse$Tree", "<init>", "()V"⟩, prog_11_method_1_code, 2, none) (29, 2, 28, 0) = true := by decide +kernel
set_option maxRecDepth 20000 in
theorem za_5 : zc_all zk_ms2 zk_mh zk_Cs zk_nms ⟨"StubHouse$Tree", "<init>", "()V"⟩ prog_11_method_1_code 2 none ztb_5 = true := by decide +kernel
set_option maxRecDepth 20000 in
theorem zm_6 : zc_meth (⟨"StubHouse$Stores", "<init>", "()V"⟩, prog_9_method_1_code, 1, none) (170, 5, 169, 0) = true := by decide +kernel
set_option maxRecDepth 20000 in
theorem za_6 : zc_all zk_ms2 zk_mh zk_Cs zk_nms ⟨"StubHouse$Stores", "<init>", "()V"⟩ prog_9_method_1_code 1 none ztb_6 = true := by decide +kernel
set_option maxRecDepth 20000 in
theorem zm_7 : zc_meth (⟨"StubHouse$Log", "<init>", "(LStubHouse$Tree;LStubHouse$Stores;)V"⟩, prog_5_method_1_code, 4, none) (198, 6, 197, 0) = true := by decide +kernel
set_option maxRecDepth 20000 in
theorem za_7 : zc_all zk_ms2 zk_mh zk_Cs zk_nms ⟨"StubHouse$Log", "<init>", "(LStubHouse$Tree;LStubHouse$Stores;)V"⟩ prog_5_method_1_code 4 none ztb_7 = true := by decide +kernel
set_option maxRecDepth 20000 in
theorem zm_8 : zc_meth (⟨"StubHouse$Changes", "<init>", "(LStubHouse$Tree;LStubHouse$Stores;LStubHouse$Log;)V"⟩, prog_2_method_1_code, 4, none) (405, 7, 404, 0) = true := by decide +kernel
set_option maxRecDepth 20000 in
theorem za_8 : zc_all zk_ms2 zk_mh zk_Cs zk_nms ⟨"StubHouse$Changes", "<init>", "(LStubHouse$Tree;LStubHouse$Stores;LStubHouse$Log;)V"⟩ prog_2_method_1_code 4 none ztb_8 = true := by decide +kernel
set_option maxRecDepth 20000 in
theorem zm_9 : zc_meth (⟨"StubHouse$Library", "<init>", "(LStubHouse$Tree;)V"⟩, prog_4_method_1_code, 3, none) (438, 8, 437, 0) = true := by decide +kernel
set_option maxRecDepth 20000 in
theorem za_9 : zc_all zk_ms2 zk_mh zk_Cs zk_nms ⟨"StubHouse$Library", "<init>", "(LStubHouse$Tree;)V"⟩ prog_4_method_1_code 3 none ztb_9 = true := by decide +kernel
set_option maxRecDepth 20000 in
theorem zm_10 : zc_meth (⟨"StubHouse$Reader", "<init>", "(LStubHouse$Library;LStubHouse$Changes;)V"⟩, prog_8_method_1_code, 3, none) (536, 11, 535, 0) = true := by decide +kernel
set_option maxRecDepth 20000 in
theorem za_10 : zc_all zk_ms2 zk_mh zk_Cs zk_nms ⟨"StubHouse$Reader", "<init>", "(LStubHouse$Library;LStubHouse$Changes;)V"⟩ prog_8_method_1_code 3 none ztb_10 = true := by decide +kernel
set_option maxRecDepth 20000 in
theorem zm_11 : zc_meth (⟨"StubHouse$Writer", "<init>", "(LStubHouse$Library;LStubHouse$Changes;LStubHouse$Reader;)V"⟩, prog_12_method_1_code, 4, none) (623, 12, 622, 0) = true := by decide +kernel
set_option maxRecDepth 20000 in
theorem za_11 : zc_all zk_ms2 zk_mh zk_Cs zk_nms ⟨"StubHouse$Writer", "<init>", "(LStubHouse$Library;LStubHouse$Changes;LStubHouse$Reader;)V"⟩ prog_12_method_1_code 4 none ztb_11 = true := by decide +kernel
set_option maxRecDepth 20000 in
theorem zm_12 : zc_meth (⟨"StubHouse$Migrator", "<init>", "(LStubHouse$Changes;LStubHouse$Writer;)V"⟩, prog_6_method_1_code, 3, none) (832, 13, 831, 0) = true := by decide +kernel
set_option maxRecDepth 20000 in
theorem za_12 : zc_all zk_ms2 zk_mh zk_Cs zk_nms ⟨"StubHouse$Migrator", "<init>", "(LStubHouse$Changes;LStubHouse$Writer;)V"⟩ prog_6_method_1_code 3 none ztb_12 = true := by decide +kernel
set_option maxRecDepth 20000 in
theorem zm_13 : zc_meth (⟨"StubHouseModel", "<init>", "()V"⟩, prog_14_method_3_code, 1, none) (2451, 14, 2450, 0) = true := by decide +kernel
set_option maxRecDepth 20000 in
theorem za_13 : zc_all zk_ms2 zk_mh zk_Cs zk_nms ⟨"StubHouseModel", "<init>", "()V"⟩ prog_14_method_3_code 1 none ztb_13 = true := by decide +kernel
set_option maxRecDepth 20000 in
theorem zm_14 : zc_meth (⟨"StubHouseModel", "empty", "()V"⟩, prog_14_method_4_code, 2, none) (2458, 14, 2457, 5203) = true := by decide +kernel
set_option maxRecDepth 20000 in
theorem za_14 : zc_all zk_ms2 zk_mh zk_Cs zk_nms ⟨"StubHouseModel", "empty", "()V"⟩ prog_14_method_4_code 2 none ztb_14 = true := by decide +kernel
set_option maxRecDepth 20000 in
theorem zm_15 : zc_meth (⟨"StubHouseModel", "copyOut", "()V"⟩, prog_14_method_7_code, 2, none) (2462, 14, 2461, 5204) = true := by decide +kernel
set_option maxRecDepth 20000 in
theorem za_15 : zc_all zk_ms2 zk_mh zk_Cs zk_nms ⟨"StubHouseModel", "copyOut", "()V"⟩ prog_14_method_7_code 2 none ztb_15 = true := by decide +kernel
set_option maxRecDepth 20000 in
theorem za_law : zc_all zk_ms2 zk_mh zk_Cs zk_nms ⟨"StubHouseLaw", "law", "([I)Z"⟩ code 4 (some .boolean) ztb_law = true := by decide +kernel
def zk_one (q : zxTB × Nat × Nat × Nat) (q2 : MethodName × ByteArray × Nat × Option FieldType) : Prop := q.2.1 = q2.2.2.1 ∧ zk_meth q2.1 q2.2.1 q2.2.2.1 q2.2.2.2 ∧ ∀ pc, zk_ro zk_ms2 zk_Ps q2.1 q2.2.1 q2.2.2.1 q2.2.2.2 pc (zx_row q.1 pc)
def zk_all {α : Type} (P : α → Prop) : List α → Prop
  | [] => True
  | x :: l => P x ∧ zk_all P l
theorem zk_all_get {α : Type} {P : α → Prop} : ∀ {l : List α} (i : Nat) {x : α}, zk_all P l → l[i]? = some x → P x
  | [], i, x, _, h => by cases h
  | y :: l, 0, x, h, e => by cases e; exact h.1
  | y :: l, i + 1, x, h, e => zk_all_get i h.2 e
theorem zr_2_getL {α β : Type} {R : α → β → Prop} : ∀ {l : List α} {l' : List β} (i : Nat) {x : α}, zr_2 R l l' → l[i]? = some x → ∃ y, l'[i]? = some y ∧ R x y
  | [], [], i, x, _, h => by cases h
  | y :: l, z :: l', 0, x, h, e => by cases e; exact ⟨z, rfl, h.1⟩
  | y :: l, z :: l', i + 1, x, h, e => zr_2_getL i h.2 e
  | [], _ :: _, _, _, h, _ => h.elim
  | _ :: _, [], _, _, h, _ => h.elim
theorem zn_all : ∀ (i : Nat) (y : MethodName) (cc : ByteArray) (mL : Nat), zk_nms[i]? = some (y, cc, mL) → zk_nm y cc mL := by
  intro i y cc mL h
  match i, h with
  | 0, h => cases h; exact zn_tree
  | 1, h => cases h; exact zn_model
  | i + 2, h => simp [zk_nms] at h
set_option maxRecDepth 20000 in
theorem zk_hall0 : zk_all (fun q : MethodName × ByteArray × Nat × Option FieldType => zk_meth q.1 q.2.1 q.2.2.1 q.2.2.2) zk_ms2 := ⟨zc_meth_ok zm_0, zc_meth_ok zm_1, zc_meth_ok zm_2, zc_meth_ok zm_3, zc_meth_ok zm_4, zc_meth_ok zm_5, zc_meth_ok zm_6, zc_meth_ok zm_7, zc_meth_ok zm_8, zc_meth_ok zm_9, zc_meth_ok zm_10, zc_meth_ok zm_11, zc_meth_ok zm_12, zc_meth_ok zm_13, zc_meth_ok zm_14, zc_meth_ok zm_15, trivial⟩
theorem zk_hall : ∀ (i : Nat) (y : MethodName) (cc : ByteArray) (mL : Nat) (ret : Option FieldType), zk_ms2[i]? = some (y, cc, mL, ret) → zk_meth y cc mL ret := fun i _ _ _ _ h => zk_all_get (P := fun q : MethodName × ByteArray × Nat × Option FieldType => zk_meth q.1 q.2.1 q.2.2.1 q.2.2.2) i zk_hall0 h
theorem zk_one_of {tb : zxTB} {mL bu bw : Nat} {y : MethodName} {cc : ByteArray} {ret : Option FieldType} {h : Nat × Nat × Nat × Nat} (hnm : ∀ (i : Nat) (y : MethodName) (cc : ByteArray) (mL : Nat), zk_nms[i]? = some (y, cc, mL) → zk_nm y cc mL) (h1 : zc_meth (y, cc, mL, ret) h = true) (h2 : zc_all zk_ms2 zk_mh zk_Cs zk_nms y cc mL ret tb = true) : zk_one (tb, mL, bu, bw) (y, cc, mL, ret) := ⟨rfl, zc_meth_ok h1, zc_all_ok zk_hall zk_Cs_ok hnm h2⟩
set_option maxRecDepth 20000 in
theorem zk_ones (hnm : ∀ (i : Nat) (y : MethodName) (cc : ByteArray) (mL : Nat), zk_nms[i]? = some (y, cc, mL) → zk_nm y cc mL) : zr_2 zk_one zx_ms zk_ms2 := ⟨zk_one_of hnm zm_0 za_0, zk_one_of hnm zm_1 za_1, zk_one_of hnm zm_2 za_2, zk_one_of hnm zm_3 za_3, zk_one_of hnm zm_4 za_4, zk_one_of hnm zm_5 za_5, zk_one_of hnm zm_6 za_6, zk_one_of hnm zm_7 za_7, zk_one_of hnm zm_8 za_8, zk_one_of hnm zm_9 za_9, zk_one_of hnm zm_10 za_10, zk_one_of hnm zm_11 za_11, zk_one_of hnm zm_12 za_12, zk_one_of hnm zm_13 za_13, zk_one_of hnm zm_14 za_14, zk_one_of hnm zm_15 za_15, trivial⟩
theorem zk_MS_ok (hnm : ∀ (i : Nat) (y : MethodName) (cc : ByteArray) (mL : Nat), zk_nms[i]? = some (y, cc, mL) → zk_nm y cc mL) : zk_MS zx_ms zk_ms2 zk_Ps := by
  intro i tb mL bu bw h
  obtain ⟨⟨y, cc, mL2, ret⟩, e, h1, h2, h3⟩ := zr_2_getL i (zk_ones hnm) h
  have h1 : mL = mL2 := h1
  subst h1
  exact ⟨y, cc, ret, e, h2, h3⟩
theorem zk_law_ro (hnm : ∀ (i : Nat) (y : MethodName) (cc : ByteArray) (mL : Nat), zk_nms[i]? = some (y, cc, mL) → zk_nm y cc mL) : ∀ pc, zk_ro zk_ms2 zk_Ps ⟨"StubHouseLaw", "law", "([I)Z"⟩ code 4 (some .boolean) pc (zx_row ztb_law pc) := zc_all_ok zk_hall zk_Cs_ok hnm za_law
