/-- the tables' words that a call must bring along by itself -/
def zk_N (U : State) : Prop := va_Nw (.methodLinkNest "StubHouse$Library" 38 ⟨"StubHouse$Tape", "<init>", "()V"⟩ "StubHouse") U ∧ va_Nw (.methodLinkNest "StubHouse$Reader" 3 ⟨"StubHouse$Drive", "<init>", "()V"⟩ "StubHouse") U ∧ va_Nw (.methodLinkNest "StubHouse$Writer" 3 ⟨"StubHouse$Drive", "<init>", "()V"⟩ "StubHouse") U ∧ va_AO "StubHouse$Node" U ∧ va_AO "StubHouse$Tape" U
/-- what a frame of the method y has -/
def zk_Cx (p : Program) (s : State) (m : MethodId) (args : Array Value) (meth : Method) (c : Code) (A : Nat → Prop) (y : MethodName) (cc : ByteArray) (nL : Nat) : Prop :=
  p.tables.exec = Jvm.exec ∧ c.code = cc ∧ c.maxLocals = nL ∧ s.vm.findClass y.cls = some m.cls ∧ (∀ w ∈ zk_T, w.before args s = true) ∧ (y.name = "<init>" → meth.name = "<init>") ∧ (∀ q, s.heap.size ≤ q → A q) ∧ zk_N s
abbrev zkPT : Type := MethodName → ByteArray → Nat → Nat → Nat → Nat → Nat → List Nat → Prop
/-- an instruction of the engine is one of the machine, where its row says what P says -/
def zk_HO (hd : zxHD) (P : zkPT) : Prop := ∀ (p : Program) (l : Launch) (e : Env) (R : Room) (s : State) (m : MethodId) (args : Array Value) (below : List Frame) (meth : Method) (c : Code) (Q : State → Prop) (cc : ByteArray) (nL : Nat) (G : va_G) (σ : Nat → Int32) (b : zxBB) (A : Nat → Prop) (y : MethodName) (pc a a2 nxt : Nat) (d : List Nat) (lv : zxLV) (stk : List Nat) (hp : zxHP) (st : zxST) (u w : Nat) (k : zxKT) (H : Heap) (locs : List Loc) (ls : Array Slot) (vs : List Value),
  zk_Cx p s m args meth c A y cc nL → P y cc nL pc a a2 nxt d → (∀ pc lv stk hp st u w, k pc lv stk hp st u w = true → u ≤ R.cells ∧ w ≤ R.slots) → hd a a2 nxt d lv stk hp st u w k = true → zr_R G σ b A nL s H locs ls vs lv stk hp st → zr_KK p l e R s m args below meth c Q G σ b A nL k → W p l e R s m args below meth c H locs u w Q (F0 m pc ls vs)
/-- the same of a piece of code that may call -/
def zk_HP (hd : zxHD) (P : zkPT) : Prop := ∀ (p : Program) (l : Launch) (e : Env) (R : Room) (s : State) (m : MethodId) (args : Array Value) (below : List Frame) (meth : Method) (c : Code) (Q : State → Prop) (cc : ByteArray) (nL : Nat) (G : va_G) (σ : Nat → Int32) (b : zxBB) (A : Nat → Prop) (y : MethodName) (pc a a2 nxt : Nat) (d : List Nat) (lv : zxLV) (stk : List Nat) (hp : zxHP) (st : zxST) (u w : Nat) (k : zxKT) (H : Heap) (locs : List Loc) (ls : Array Slot) (vs : List Value),
  1 ≤ R.frames → 60 ≤ R.locals → u ≤ R.cells → w ≤ R.slots → zk_Cx p s m args meth c A y cc nL → P y cc nL pc a a2 nxt d → (∀ pc lv stk hp st u w, k pc lv stk hp st u w = true → u ≤ R.cells ∧ w ≤ R.slots) → hd a a2 nxt d lv stk hp st u w k = true → zr_R G σ b A nL s H locs ls vs lv stk hp st → zr_KK p l e R s m args below meth c Q G σ b A nL k → W p l e R s m args below meth c H locs u w Q (F0 m pc ls vs)
theorem zk_HP_of {hd : zxHD} {P : zkPT} (h : zk_HO hd P) : zk_HP hd P := fun p l e R s m args below meth c Q cc nL G σ b A y pc a a2 nxt d lv stk hp st u w k H locs ls vs _ _ _ _ => h p l e R s m args below meth c Q cc nL G σ b A y pc a a2 nxt d lv stk hp st u w k H locs ls vs
def zx_sI (n : Nat) : Int := if n < 2147483648 then (n : Int) else (n : Int) - 4294967296
theorem zx_sI_ok (n : Nat) (h : n < 4294967296) : Int32.ofInt (zx_sI n) = nI n := by
  apply Int32.toInt_inj.mp
  rw [zr_nI_toInt, Int32.toInt_ofInt]
  show (zx_sI n).bmod 4294967296 = (n : Int).bmod 4294967296
  unfold zx_sI
  split
  · rfl
  · simp only [Int.bmod_def]
    omega
theorem zx_f4 {a : Nat} (h : a < 4) : ((Fin.ofNat 4 a : Fin 4) : Nat) = a := Nat.mod_eq_of_lt h
def zp_aload_n : zkPT := fun _ cc _ pc a _ nxt _ => a < 4 ∧ decode cc pc = .ok (.aload_n (Fin.ofNat 4 a), 1) ∧ nxt = pc + 1
def zp_iload_n : zkPT := fun _ cc _ pc a _ nxt _ => a < 4 ∧ decode cc pc = .ok (.iload_n (Fin.ofNat 4 a), 1) ∧ nxt = pc + 1
def zp_lload_n : zkPT := fun _ cc _ pc a _ nxt _ => a < 4 ∧ decode cc pc = .ok (.lload_n (Fin.ofNat 4 a), 1) ∧ nxt = pc + 1
def zp_aload : zkPT := fun _ cc _ pc a _ nxt _ => decode cc pc = .ok (.aload a, 2) ∧ nxt = pc + 2
def zp_iload : zkPT := fun _ cc _ pc a _ nxt _ => decode cc pc = .ok (.iload a, 2) ∧ nxt = pc + 2
def zp_lload : zkPT := fun _ cc _ pc a _ nxt _ => decode cc pc = .ok (.lload a, 2) ∧ nxt = pc + 2
def zp_istore_n : zkPT := fun _ cc nL pc a b nxt _ => a < 4 ∧ decode cc pc = .ok (.istore_n (Fin.ofNat 4 a), 1) ∧ nxt = pc + 1 ∧ b = nL
def zp_istore : zkPT := fun _ cc nL pc a b nxt _ => decode cc pc = .ok (.istore a, 2) ∧ nxt = pc + 2 ∧ b = nL
def zp_astore_n : zkPT := fun _ cc nL pc a b nxt _ => a < 4 ∧ decode cc pc = .ok (.astore_n (Fin.ofNat 4 a), 1) ∧ nxt = pc + 1 ∧ b = nL
def zp_astore : zkPT := fun _ cc nL pc a b nxt _ => decode cc pc = .ok (.astore a, 2) ∧ nxt = pc + 2 ∧ b = nL
def zp_get : zkPT := fun y cc _ pc a b nxt d => zk_get y.cls (a % 65536) b d ∧ decode cc pc = .ok (.getfield (a % 65536), 3) ∧ nxt = pc + 3
def zp_put : zkPT := fun y cc _ pc a b nxt d => zk_put false y.cls (a % 65536) b d ∧ decode cc pc = .ok (.putfield (a % 65536), 3) ∧ nxt = pc + 3
def zp_putF : zkPT := fun y cc _ pc a b nxt d => zk_put true y.cls (a % 65536) b d ∧ y.name = "<init>" ∧ decode cc pc = .ok (.putfield (a % 65536), 3) ∧ nxt = pc + 3
def zp_iconst : zkPT := fun _ cc _ pc a _ nxt _ => a % 8 = 0 ∧ a / 8 < 4294967296 ∧ decode cc pc = .ok (.iconst (zx_sI (a / 8)), 1) ∧ nxt = pc + 1
def zp_bipush : zkPT := fun _ cc _ pc a _ nxt _ => a % 8 = 0 ∧ (Int8.ofInt (zx_sI (a / 8))).toInt32 = nI (a / 8) ∧ decode cc pc = .ok (.bipush (zx_sI (a / 8)), 2) ∧ nxt = pc + 2
def zp_sipush : zkPT := fun _ cc _ pc a _ nxt _ => a % 8 = 0 ∧ (Int16.ofInt (zx_sI (a / 8))).toInt32 = nI (a / 8) ∧ decode cc pc = .ok (.sipush (zx_sI (a / 8)), 3) ∧ nxt = pc + 3
def zp_lconst : zkPT := fun _ cc _ pc a _ nxt _ => a % 8 = 1 ∧ a / 8 < 2 ∧ decode cc pc = .ok (.lconst (Fin.ofNat 2 (a / 8)), 1) ∧ nxt = pc + 1
def zp_ldc : zkPT := fun y cc _ pc a b nxt _ => a % 8 = 0 ∧ Cond.constant y.cls (b % 65536) (nI (a / 8)) ∈ zk_T ∧ decode cc pc = .ok (.ldc (b % 65536), 2) ∧ nxt = pc + 2
def zp_ldc2 : zkPT := fun y cc _ pc a b nxt _ => a % 8 = 1 ∧ Cond.constantLong y.cls (b % 65536) (lN (a / 8)) ∈ zk_T ∧ decode cc pc = .ok (.ldc2_w (b % 65536), 3) ∧ nxt = pc + 3
def zp_op (I : Instr) : zkPT := fun _ cc _ pc _ _ nxt _ => decode cc pc = .ok (I, 1) ∧ nxt = pc + 1
def zp_iinc : zkPT := fun _ cc nL pc a b nxt d => ∃ n, d = [n] ∧ n < 4294967296 ∧ decode cc pc = .ok (.iinc a (zx_sI n), 3) ∧ nxt = pc + 3 ∧ b = nL
def zp_icmp : zkPT := fun _ cc _ pc a b nxt _ => (1 ≤ b ∧ b ≤ 6) ∧ decode cc pc = .ok (.if_icmp (zx_cd b) ((a : Int) - (pc : Int)), 3) ∧ nxt = pc + 3
def zp_if : zkPT := fun _ cc _ pc a b nxt _ => (1 ≤ b ∧ b ≤ 6) ∧ decode cc pc = .ok (.ifCond (zx_cd b) ((a : Int) - (pc : Int)), 3) ∧ nxt = pc + 3
def zp_goto : zkPT := fun _ cc _ pc a _ _ _ => decode cc pc = .ok (.goto ((a : Int) - (pc : Int)), 3)
def zp_switch : zkPT := fun _ cc _ pc a b nxt d => decode cc pc = .ok (.tableswitch ((a : Int) - pc) ((b : Int) - 2147483648) ((b : Int) - 2147483648 + d.length - 1) (d.map (fun t : Nat => (t : Int) - (pc : Int))).toArray, nxt - pc)
def zp_arr (kd : Nat) (I : Instr) : zkPT := fun _ cc _ pc a _ nxt _ => a = kd ∧ decode cc pc = .ok (I, 1) ∧ nxt = pc + 1
def zp_aald : zkPT := fun _ cc _ pc a _ nxt _ => (4 < a ∧ a < 16) ∧ decode cc pc = .ok (.aaload, 1) ∧ nxt = pc + 1
def zp_astq : zkPT := fun _ cc _ pc a b nxt _ => ((a = 5 ∧ b = 20) ∨ (a = 6 ∧ b = 23)) ∧ decode cc pc = .ok (.aastore, 1) ∧ nxt = pc + 1
def zp_new : zkPT := fun y cc _ pc a b nxt d => zk_new y.cls (a % 65536) b d ∧ decode cc pc = .ok (.new (a % 65536), 3) ∧ nxt = pc + 3
def zp_newa : zkPT := fun _ cc _ pc _ b nxt d => ((b < 4 ∧ 0 < b ∧ d = [0]) ∨ (b = 4 ∧ d = [1])) ∧ Cond.arrayClass (zr_ty b) ∈ zk_T ∧ decode cc pc = .ok (.newarray (zk_at b), 2) ∧ nxt = pc + 2
def zp_newq : zkPT := fun y cc _ pc a b nxt d => ((b = 5 ∧ Cond.classLink y.cls (a % 65536) "StubHouse$Node" ∈ zk_T) ∨ (b = 6 ∧ Cond.classLink y.cls (a % 65536) "StubHouse$Tape" ∈ zk_T)) ∧ d = [2] ∧ decode cc pc = .ok (.anewarray (a % 65536), 3) ∧ nxt = pc + 3
theorem zk_1 : zk_HO zh_aload zp_aload_n := by
  intro p l e R s m args below meth c Q cc nL G σ b A y pc a a2 nxt d lv stk hp st u w k H locs ls vs ⟨hx, hb, hml, hown, hts, hnm, hA, hN⟩ ⟨h1, h2, h3⟩ hk h r kk
  exact zo_aload h r kk (fun x hl kw => lv_aload_n hx hb h2 (zx_f4 h1) hl (h3 ▸ kw))
theorem zk_2 : zk_HO zh_iload zp_iload_n := by
  intro p l e R s m args below meth c Q cc nL G σ b A y pc a a2 nxt d lv stk hp st u w k H locs ls vs ⟨hx, hb, hml, hown, hts, hnm, hA, hN⟩ ⟨h1, h2, h3⟩ hk h r kk
  exact zo_iload h r kk (fun x hl kw => lv_iload_n hx hb h2 (zx_f4 h1) hl (h3 ▸ kw))
theorem zk_3 : zk_HO zh_lload zp_lload_n := by
  intro p l e R s m args below meth c Q cc nL G σ b A y pc a a2 nxt d lv stk hp st u w k H locs ls vs ⟨hx, hb, hml, hown, hts, hnm, hA, hN⟩ ⟨h1, h2, h3⟩ hk h r kk
  exact zo_lload h r kk (fun x hl kw => lv_lload_n hx hb h2 (zx_f4 h1) hl (h3 ▸ kw))
theorem zk_4 : zk_HO zh_aload zp_aload := by
  intro p l e R s m args below meth c Q cc nL G σ b A y pc a a2 nxt d lv stk hp st u w k H locs ls vs ⟨hx, hb, hml, hown, hts, hnm, hA, hN⟩ ⟨h2, h3⟩ hk h r kk
  exact zo_aload h r kk (fun x hl kw => lv_aload hx hb h2 hl (h3 ▸ kw))
theorem zk_5 : zk_HO zh_iload zp_iload := by
  intro p l e R s m args below meth c Q cc nL G σ b A y pc a a2 nxt d lv stk hp st u w k H locs ls vs ⟨hx, hb, hml, hown, hts, hnm, hA, hN⟩ ⟨h2, h3⟩ hk h r kk
  exact zo_iload h r kk (fun x hl kw => lv_iload hx hb h2 hl (h3 ▸ kw))
theorem zk_6 : zk_HO zh_lload zp_lload := by
  intro p l e R s m args below meth c Q cc nL G σ b A y pc a a2 nxt d lv stk hp st u w k H locs ls vs ⟨hx, hb, hml, hown, hts, hnm, hA, hN⟩ ⟨h2, h3⟩ hk h r kk
  exact zo_lload h r kk (fun x hl kw => lv_lload hx hb h2 hl (h3 ▸ kw))
theorem zk_7 : zk_HO zh_istore zp_istore_n := by
  intro p l e R s m args below meth c Q cc nL G σ b A y pc a a2 nxt d lv stk hp st u w k H locs ls vs ⟨hx, hb, hml, hown, hts, hnm, hA, hN⟩ ⟨h1, h2, h3, h4⟩ hk h r kk
  exact zo_istore h4 h r kk (fun x vs' lv' ev hl ha kw => ev ▸ lv_istore_n hx hb h2 (zx_f4 h1) hl ha rfl (fun ls' hl' => h3 ▸ kw ls' hl'))
theorem zk_8 : zk_HO zh_istore zp_istore := by
  intro p l e R s m args below meth c Q cc nL G σ b A y pc a a2 nxt d lv stk hp st u w k H locs ls vs ⟨hx, hb, hml, hown, hts, hnm, hA, hN⟩ ⟨h2, h3, h4⟩ hk h r kk
  exact zo_istore h4 h r kk (fun x vs' lv' ev hl ha kw => ev ▸ lv_istore hx hb h2 hl ha rfl (fun ls' hl' => h3 ▸ kw ls' hl'))
theorem zk_9 : zk_HO zh_astore zp_astore_n := by
  intro p l e R s m args below meth c Q cc nL G σ b A y pc a a2 nxt d lv stk hp st u w k H locs ls vs ⟨hx, hb, hml, hown, hts, hnm, hA, hN⟩ ⟨h1, h2, h3, h4⟩ hk h r kk
  exact zo_astore h4 h r kk (fun x vs' lv' ev hl ha kw => ev ▸ lv_astore_n hx hb h2 (zx_f4 h1) hl ha rfl (fun ls' hl' => h3 ▸ kw ls' hl'))
theorem zk_10 : zk_HO zh_astore zp_astore := by
  intro p l e R s m args below meth c Q cc nL G σ b A y pc a a2 nxt d lv stk hp st u w k H locs ls vs ⟨hx, hb, hml, hown, hts, hnm, hA, hN⟩ ⟨h2, h3, h4⟩ hk h r kk
  exact zo_astore h4 h r kk (fun x vs' lv' ev hl ha kw => ev ▸ lv_astore hx hb h2 hl ha rfl (fun ls' hl' => h3 ▸ kw ls' hl'))
theorem zh_get_a (a a' b nxt : Nat) (d : List Nat) (lv : zxLV) (stk : List Nat) (hp : zxHP) (st : zxST) (u w : Nat) (k : zxKT) : zh_get a b nxt d lv stk hp st u w k = zh_get a' b nxt d lv stk hp st u w k := rfl
theorem zh_put_a (a a' b nxt : Nat) (d : List Nat) (lv : zxLV) (stk : List Nat) (hp : zxHP) (st : zxST) (u w : Nat) (k : zxKT) : zh_put a b nxt d lv stk hp st u w k = zh_put a' b nxt d lv stk hp st u w k := rfl
theorem zh_new_a (a a' b nxt : Nat) (d : List Nat) (lv : zxLV) (stk : List Nat) (hp : zxHP) (st : zxST) (u w : Nat) (k : zxKT) : zh_new a b nxt d lv stk hp st u w k = zh_new a' b nxt d lv stk hp st u w k := rfl
theorem zh_newa_a (a a' b nxt : Nat) (d : List Nat) (lv : zxLV) (stk : List Nat) (hp : zxHP) (st : zxST) (u w : Nat) (k : zxKT) : zh_newa a b nxt d lv stk hp st u w k = zh_newa a' b nxt d lv stk hp st u w k := rfl
theorem zk_11 (hC : zk_C) : zk_HO zh_get zp_get := by
  intro p l e R s m args below meth c Q cc nL G σ b A y pc a a2 nxt d lv stk hp st u w k H locs ls vs ⟨hx, hb, hml, hown, hts, hnm, hA, hN⟩ ⟨h1, h2, h3⟩ hk h r kk
  exact zo_get hC hx hb hts hown h1 h2 h3 ((zh_get_a a (a % 65536) a2 nxt d lv stk hp st u w k).symm.trans h) r kk
theorem zk_12 (hC : zk_C) : zk_HO zh_put zp_put := by
  intro p l e R s m args below meth c Q cc nL G σ b A y pc a a2 nxt d lv stk hp st u w k H locs ls vs ⟨hx, hb, hml, hown, hts, hnm, hA, hN⟩ ⟨h1, h2, h3⟩ hk h r kk
  exact zo_put hC hx hb hts hown (fun q => absurd q Bool.false_ne_true) h1 h2 h3 ((zh_put_a a (a % 65536) a2 nxt d lv stk hp st u w k).symm.trans h) r kk
theorem zk_13 (hC : zk_C) : zk_HO zh_put zp_putF := by
  intro p l e R s m args below meth c Q cc nL G σ b A y pc a a2 nxt d lv stk hp st u w k H locs ls vs ⟨hx, hb, hml, hown, hts, hnm, hA, hN⟩ ⟨h1, h0, h2, h3⟩ hk h r kk
  exact zo_put hC hx hb hts hown (fun _ => hnm h0) h1 h2 h3 ((zh_put_a a (a % 65536) a2 nxt d lv stk hp st u w k).symm.trans h) r kk
theorem zk_14 : zk_HO zh_push zp_iconst := by
  intro p l e R s m args below meth c Q cc nL G σ b A y pc a a2 nxt d lv stk hp st u w k H locs ls vs ⟨hx, hb, hml, hown, hts, hnm, hA, hN⟩ ⟨h0, h1, h2, h3⟩ hk h r kk
  exact zo_push h r kk (fun as => (zr_0 h0).mpr rfl) (fun kw => lv_iconst hx hb h2 (zx_sI_ok _ h1) (h3 ▸ kw))
theorem zk_15 : zk_HO zh_push zp_bipush := by
  intro p l e R s m args below meth c Q cc nL G σ b A y pc a a2 nxt d lv stk hp st u w k H locs ls vs ⟨hx, hb, hml, hown, hts, hnm, hA, hN⟩ ⟨h0, h1, h2, h3⟩ hk h r kk
  exact zo_push h r kk (fun as => (zr_0 h0).mpr rfl) (fun kw => lv_bipush hx hb h2 h1 (h3 ▸ kw))
theorem zk_16 : zk_HO zh_push zp_sipush := by
  intro p l e R s m args below meth c Q cc nL G σ b A y pc a a2 nxt d lv stk hp st u w k H locs ls vs ⟨hx, hb, hml, hown, hts, hnm, hA, hN⟩ ⟨h0, h1, h2, h3⟩ hk h r kk
  exact zo_push h r kk (fun as => (zr_0 h0).mpr rfl) (fun kw => lv_sipush hx hb h2 h1 (h3 ▸ kw))
theorem zk_17 : zk_HO zh_push zp_lconst := by
  intro p l e R s m args below meth c Q cc nL G σ b A y pc a a2 nxt d lv stk hp st u w k H locs ls vs ⟨hx, hb, hml, hown, hts, hnm, hA, hN⟩ ⟨h0, h1, h2, h3⟩ hk h r kk
  exact zo_push h r kk (fun as => (zr_1 h0).mpr rfl) (fun kw => lv_lconst hx hb h2 (by show Int64.ofNat ((a / 8) % 2) = Int64.ofNat (a / 8); rw [Nat.mod_eq_of_lt h1]) (h3 ▸ kw))
theorem zk_18 : zk_HO zh_push zp_ldc := by
  intro p l e R s m args below meth c Q cc nL G σ b A y pc a a2 nxt d lv stk hp st u w k H locs ls vs ⟨hx, hb, hml, hown, hts, hnm, hA, hN⟩ ⟨h0, h1, h2, h3⟩ hk h r kk
  exact zo_push h r kk (fun as => (zr_0 h0).mpr rfl) (fun kw => lv_ldc hx hb hown (hts _ h1) h2 (h3 ▸ kw))
theorem zk_19 : zk_HO zh_push zp_ldc2 := by
  intro p l e R s m args below meth c Q cc nL G σ b A y pc a a2 nxt d lv stk hp st u w k H locs ls vs ⟨hx, hb, hml, hown, hts, hnm, hA, hN⟩ ⟨h0, h1, h2, h3⟩ hk h r kk
  exact zo_push h r kk (fun as => (zr_1 h0).mpr rfl) (fun kw => lv_ldc2 hx hb hown (hts _ h1) h2 (h3 ▸ kw))
theorem zk_20 : zk_HO zh_iinc zp_iinc := by
  intro p l e R s m args below meth c Q cc nL G σ b A y pc a a2 nxt d lv stk hp st u w k H locs ls vs ⟨hx, hb, hml, hown, hts, hnm, hA, hN⟩ ⟨n, h0, h1, h2, h3, h4⟩ hk h r kk
  subst h0
  exact zo_iinc (zx_sI_ok n h1) hx hb h2 h4 h3 h r kk
theorem zk_iadd : zk_HO zh_iadd (zp_op .iadd) := by
  intro p l e R s m args below meth c Q cc nL G σ b A y pc a a2 nxt d lv stk hp st u w k H locs ls vs ⟨hx, hb, hml, hown, hts, hnm, hA, hN⟩ ⟨h1, h2⟩ hk h r kk
  exact zo_iadd hx hb h1 h2 h r kk
theorem zk_isub : zk_HO zh_isub (zp_op .isub) := by
  intro p l e R s m args below meth c Q cc nL G σ b A y pc a a2 nxt d lv stk hp st u w k H locs ls vs ⟨hx, hb, hml, hown, hts, hnm, hA, hN⟩ ⟨h1, h2⟩ hk h r kk
  exact zo_isub hx hb h1 h2 h r kk
theorem zk_imul : zk_HO zh_imul (zp_op .imul) := by
  intro p l e R s m args below meth c Q cc nL G σ b A y pc a a2 nxt d lv stk hp st u w k H locs ls vs ⟨hx, hb, hml, hown, hts, hnm, hA, hN⟩ ⟨h1, h2⟩ hk h r kk
  exact zo_imul hx hb h1 h2 h r kk
theorem zk_iand : zk_HO zh_iand (zp_op .iand) := by
  intro p l e R s m args below meth c Q cc nL G σ b A y pc a a2 nxt d lv stk hp st u w k H locs ls vs ⟨hx, hb, hml, hown, hts, hnm, hA, hN⟩ ⟨h1, h2⟩ hk h r kk
  exact zo_iand hx hb h1 h2 h r kk
theorem zk_i2b : zk_HO zh_i2b (zp_op .i2b) := by
  intro p l e R s m args below meth c Q cc nL G σ b A y pc a a2 nxt d lv stk hp st u w k H locs ls vs ⟨hx, hb, hml, hown, hts, hnm, hA, hN⟩ ⟨h1, h2⟩ hk h r kk
  exact zo_i2b hx hb h1 h2 h r kk
theorem zk_i2l : zk_HO zh_i2l (zp_op .i2l) := by
  intro p l e R s m args below meth c Q cc nL G σ b A y pc a a2 nxt d lv stk hp st u w k H locs ls vs ⟨hx, hb, hml, hown, hts, hnm, hA, hN⟩ ⟨h1, h2⟩ hk h r kk
  exact zo_i2l hx hb h1 h2 h r kk
theorem zk_l2i : zk_HO zh_l2i (zp_op .l2i) := by
  intro p l e R s m args below meth c Q cc nL G σ b A y pc a a2 nxt d lv stk hp st u w k H locs ls vs ⟨hx, hb, hml, hown, hts, hnm, hA, hN⟩ ⟨h1, h2⟩ hk h r kk
  exact zo_l2i hx hb h1 h2 h r kk
theorem zk_lshl : zk_HO zh_lshl (zp_op .lshl) := by
  intro p l e R s m args below meth c Q cc nL G σ b A y pc a a2 nxt d lv stk hp st u w k H locs ls vs ⟨hx, hb, hml, hown, hts, hnm, hA, hN⟩ ⟨h1, h2⟩ hk h r kk
  exact zo_lshl hx hb h1 h2 h r kk
theorem zk_lushr : zk_HO zh_lushr (zp_op .lushr) := by
  intro p l e R s m args below meth c Q cc nL G σ b A y pc a a2 nxt d lv stk hp st u w k H locs ls vs ⟨hx, hb, hml, hown, hts, hnm, hA, hN⟩ ⟨h1, h2⟩ hk h r kk
  exact zo_lushr hx hb h1 h2 h r kk
theorem zk_land : zk_HO zh_land (zp_op .land) := by
  intro p l e R s m args below meth c Q cc nL G σ b A y pc a a2 nxt d lv stk hp st u w k H locs ls vs ⟨hx, hb, hml, hown, hts, hnm, hA, hN⟩ ⟨h1, h2⟩ hk h r kk
  exact zo_land hx hb h1 h2 h r kk
theorem zk_lor : zk_HO zh_lor (zp_op .lor) := by
  intro p l e R s m args below meth c Q cc nL G σ b A y pc a a2 nxt d lv stk hp st u w k H locs ls vs ⟨hx, hb, hml, hown, hts, hnm, hA, hN⟩ ⟨h1, h2⟩ hk h r kk
  exact zo_lor hx hb h1 h2 h r kk
theorem zk_lcmp : zk_HO zh_lcmp (zp_op .lcmp) := by
  intro p l e R s m args below meth c Q cc nL G σ b A y pc a a2 nxt d lv stk hp st u w k H locs ls vs ⟨hx, hb, hml, hown, hts, hnm, hA, hN⟩ ⟨h1, h2⟩ hk h r kk
  exact zo_lcmp hx hb h1 h2 h r kk
theorem zk_dup : zk_HO zh_dup (zp_op .dup) := by
  intro p l e R s m args below meth c Q cc nL G σ b A y pc a a2 nxt d lv stk hp st u w k H locs ls vs ⟨hx, hb, hml, hown, hts, hnm, hA, hN⟩ ⟨h1, h2⟩ hk h r kk
  exact zo_dup hx hb h1 h2 h r kk
theorem zk_pop : zk_HO zh_pop (zp_op .pop) := by
  intro p l e R s m args below meth c Q cc nL G σ b A y pc a a2 nxt d lv stk hp st u w k H locs ls vs ⟨hx, hb, hml, hown, hts, hnm, hA, hN⟩ ⟨h1, h2⟩ hk h r kk
  exact zo_pop hx hb h1 h2 h r kk
theorem zk_dupx1 : zk_HO zh_dupx1 (zp_op .dup_x1) := by
  intro p l e R s m args below meth c Q cc nL G σ b A y pc a a2 nxt d lv stk hp st u w k H locs ls vs ⟨hx, hb, hml, hown, hts, hnm, hA, hN⟩ ⟨h1, h2⟩ hk h r kk
  exact zo_dupx1 hx hb h1 h2 h r kk
theorem zk_alen : zk_HO zh_alen (zp_op .arraylength) := by
  intro p l e R s m args below meth c Q cc nL G σ b A y pc a a2 nxt d lv stk hp st u w k H locs ls vs ⟨hx, hb, hml, hown, hts, hnm, hA, hN⟩ ⟨h1, h2⟩ hk h r kk
  exact zo_alen hx hb h1 h2 h r kk
theorem zk_iald : zk_HO zh_ald (zp_arr 1 .iaload) := by
  intro p l e R s m args below meth c Q cc nL G σ b A y pc a a2 nxt d lv stk hp st u w k H locs ls vs ⟨hx, hb, hml, hown, hts, hnm, hA, hN⟩ ⟨h0, h1, h2⟩ hk h r kk
  exact zo_iald hx hb h0 h1 h2 h r kk
theorem zk_bald : zk_HO zh_ald (zp_arr 2 .baload) := by
  intro p l e R s m args below meth c Q cc nL G σ b A y pc a a2 nxt d lv stk hp st u w k H locs ls vs ⟨hx, hb, hml, hown, hts, hnm, hA, hN⟩ ⟨h0, h1, h2⟩ hk h r kk
  exact zo_bald hx hb h0 h1 h2 h r kk
theorem zk_zald : zk_HO zh_ald (zp_arr 3 .baload) := by
  intro p l e R s m args below meth c Q cc nL G σ b A y pc a a2 nxt d lv stk hp st u w k H locs ls vs ⟨hx, hb, hml, hown, hts, hnm, hA, hN⟩ ⟨h0, h1, h2⟩ hk h r kk
  exact zo_zald hx hb h0 h1 h2 h r kk
theorem zk_lald : zk_HO zh_ald (zp_arr 4 .laload) := by
  intro p l e R s m args below meth c Q cc nL G σ b A y pc a a2 nxt d lv stk hp st u w k H locs ls vs ⟨hx, hb, hml, hown, hts, hnm, hA, hN⟩ ⟨h0, h1, h2⟩ hk h r kk
  exact zo_lald hx hb h0 h1 h2 h r kk
theorem zk_iast : zk_HO zh_ast (zp_arr 1 .iastore) := by
  intro p l e R s m args below meth c Q cc nL G σ b A y pc a a2 nxt d lv stk hp st u w k H locs ls vs ⟨hx, hb, hml, hown, hts, hnm, hA, hN⟩ ⟨h0, h1, h2⟩ hk h r kk
  exact zo_iast hx hb h0 h1 h2 h r kk
theorem zk_bast : zk_HO zh_ast (zp_arr 2 .bastore) := by
  intro p l e R s m args below meth c Q cc nL G σ b A y pc a a2 nxt d lv stk hp st u w k H locs ls vs ⟨hx, hb, hml, hown, hts, hnm, hA, hN⟩ ⟨h0, h1, h2⟩ hk h r kk
  exact zo_bast hx hb h0 h1 h2 h r kk
theorem zk_zast : zk_HO zh_ast (zp_arr 3 .bastore) := by
  intro p l e R s m args below meth c Q cc nL G σ b A y pc a a2 nxt d lv stk hp st u w k H locs ls vs ⟨hx, hb, hml, hown, hts, hnm, hA, hN⟩ ⟨h0, h1, h2⟩ hk h r kk
  exact zo_zast hx hb h0 h1 h2 h r kk
theorem zk_last : zk_HO zh_ast (zp_arr 4 .lastore) := by
  intro p l e R s m args below meth c Q cc nL G σ b A y pc a a2 nxt d lv stk hp st u w k H locs ls vs ⟨hx, hb, hml, hown, hts, hnm, hA, hN⟩ ⟨h0, h1, h2⟩ hk h r kk
  exact zo_last hx hb h0 h1 h2 h r kk
theorem zk_aald : zk_HO zh_ald zp_aald := by
  intro p l e R s m args below meth c Q cc nL G σ b A y pc a a2 nxt d lv stk hp st u w k H locs ls vs ⟨hx, hb, hml, hown, hts, hnm, hA, hN⟩ ⟨h0, h1, h2⟩ hk h r kk
  exact zo_aald hx hb h0 h1 h2 h r kk
theorem zk_astq : zk_HO zh_astq zp_astq := by
  intro p l e R s m args below meth c Q cc nL G σ b A y pc a a2 nxt d lv stk hp st u w k H locs ls vs ⟨hx, hb, hml, hown, hts, hnm, hA, hN⟩ ⟨h0, h1, h2⟩ hk h r kk
  exact zo_astq hx hb h0 h1 h2 h r kk
theorem zk_icmp : zk_HO zh_icmp zp_icmp := by
  intro p l e R s m args below meth c Q cc nL G σ b A y pc a a2 nxt d lv stk hp st u w k H locs ls vs ⟨hx, hb, hml, hown, hts, hnm, hA, hN⟩ ⟨h0, h1, h2⟩ hk h r kk
  exact zo_icmp hx hb h1 h0 (by omega) h2 h r kk
theorem zk_if : zk_HO zh_if zp_if := by
  intro p l e R s m args below meth c Q cc nL G σ b A y pc a a2 nxt d lv stk hp st u w k H locs ls vs ⟨hx, hb, hml, hown, hts, hnm, hA, hN⟩ ⟨h0, h1, h2⟩ hk h r kk
  exact zo_if hx hb h1 h0 (by omega) h2 h r kk
theorem zk_goto : zk_HO zh_goto zp_goto := by
  intro p l e R s m args below meth c Q cc nL G σ b A y pc a a2 nxt d lv stk hp st u w k H locs ls vs ⟨hx, hb, hml, hown, hts, hnm, hA, hN⟩ h1 hk h r kk
  exact zo_goto hx hb h1 (by omega) h r kk
theorem zk_switch : zk_HO zh_switch zp_switch := by
  intro p l e R s m args below meth c Q cc nL G σ b A y pc a a2 nxt d lv stk hp st u w k H locs ls vs ⟨hx, hb, hml, hown, hts, hnm, hA, hN⟩ h1 hk h r kk
  exact zo_switch hx hb h1 h r kk
theorem zk_newo (hC : zk_C) : zk_HO zh_new zp_new := by
  intro p l e R s m args below meth c Q cc nL G σ b A y pc a a2 nxt d lv stk hp st u w k H locs ls vs ⟨hx, hb, hml, hown, hts, hnm, hA, hN⟩ ⟨h1, h2, h3⟩ hk h r kk
  exact zo_new hC hx hb hts hown hA h1 h2 h3 hk ((zh_new_a a (a % 65536) a2 nxt d lv stk hp st u w k).symm.trans h) r kk
theorem zk_newa : zk_HO zh_newa zp_newa := by
  intro p l e R s m args below meth c Q cc nL G σ b A y pc a a2 nxt d lv stk hp st u w k H locs ls vs ⟨hx, hb, hml, hown, hts, hnm, hA, hN⟩ ⟨h1, h2, h3, h4⟩ hk h r kk
  exact zo_newa hx hb hA h1 (hts _ h2) h3 h4 hk h r kk
theorem zk_newq : zk_HO zh_newa zp_newq := by
  intro p l e R s m args below meth c Q cc nL G σ b A y pc a a2 nxt d lv stk hp st u w k H locs ls vs ⟨hx, hb, hml, hown, hts, hnm, hA, hN⟩ ⟨h1, h2, h3, h4⟩ hk h r kk
  have h := (zh_newa_a a (a % 65536) a2 nxt d lv stk hp st u w k).symm.trans h
  rcases h1 with ⟨rfl, h1⟩ | ⟨rfl, h1⟩
  · exact zo_newq hx hb hts hown hA rfl (by decide) h2 h1 hN.2.2.2.1 h3 h4 hk h r kk
  · exact zo_newq hx hb hts hown hA rfl (by decide) h2 h1 hN.2.2.2.2 h3 h4 hk h r kk
noncomputable def zx_hands : List zxHD := [zh_aload, zh_iload, zh_get, zh_push, zh_iload, zh_iadd, zh_icmp, zh_if, zh_ald, zh_goto, zh_iinc, zh_push, zh_push, zh_istore, zh_istore, zh_put, zh_ast, zh_imul, zh_ald, zh_isub, zh_i2l, zh_lcmp, zh_lload, zh_lload, zh_push, zh_push, zh_dup, zh_pop, zh_dupx1, zh_aload, zh_astore, zh_astore, zh_ald, zh_ald, zh_ast, zh_ast, zh_ald, zh_ast, zh_astq, zh_i2b, zh_l2i, zh_lshl, zh_lushr, zh_land, zh_lor, zh_iand, zh_switch, zh_new, zh_newa, zh_newa, zh_alen, zh_push, zh_put]
def zk_props : List zkPT := [zp_aload_n, zp_iload_n, zp_get, zp_iconst, zp_iload, zp_op .iadd, zp_icmp, zp_if, zp_arr 1 .iaload, zp_goto, zp_iinc, zp_bipush, zp_sipush, zp_istore_n, zp_istore, zp_put, zp_arr 1 .iastore, zp_op .imul, zp_aald, zp_op .isub, zp_op .i2l, zp_op .lcmp, zp_lload_n, zp_lload, zp_ldc2, zp_lconst, zp_op .dup, zp_op .pop, zp_op .dup_x1, zp_aload, zp_astore_n, zp_astore, zp_arr 2 .baload, zp_arr 3 .baload, zp_arr 2 .bastore, zp_arr 3 .bastore, zp_arr 4 .laload, zp_arr 4 .lastore, zp_astq, zp_op .i2b, zp_op .l2i, zp_op .lshl, zp_op .lushr, zp_op .land, zp_op .lor, zp_op .iand, zp_switch, zp_new, zp_newa, zp_newq, zp_op .arraylength, zp_ldc, zp_putF]
theorem zk_hands (hC : zk_C) : zr_2 zk_HO zx_hands zk_props := ⟨zk_1, zk_2, (zk_11 hC), zk_14, zk_5, zk_iadd, zk_icmp, zk_if, zk_iald, zk_goto, zk_20, zk_15, zk_16, zk_7, zk_8, (zk_12 hC), zk_iast, zk_imul, zk_aald, zk_isub, zk_i2l, zk_lcmp, zk_3, zk_6, zk_19, zk_17, zk_dup, zk_pop, zk_dupx1, zk_4, zk_9, zk_10, zk_bald, zk_zald, zk_bast, zk_zast, zk_lald, zk_last, zk_astq, zk_i2b, zk_l2i, zk_lshl, zk_lushr, zk_land, zk_lor, zk_iand, zk_switch, (zk_newo hC), zk_newa, zk_newq, zk_alen, zk_18, (zk_13 hC), trivial⟩
