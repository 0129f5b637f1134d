abbrev zkMS : Type := List (MethodName × ByteArray × Nat × Option FieldType)
def zk_meth (y : MethodName) (cc : ByteArray) (mL : Nat) (ret : Option FieldType) : Prop := Cond.code y cc mL ret ∈ zk_T ∧ plainName y.cls = true ∧ Cond.initialized y.cls ∈ zk_T ∧ y.cls ≠ "java/lang/invoke/MethodHandle" ∧ y.cls ≠ "java/lang/invoke/VarHandle"
/-- a name's check: what the two methods of that name answer -/
def zk_nm (y : MethodName) (cc : ByteArray) (mL : Nat) : Prop := ∀ (l : Launch) (x : Int64), Met l y (Cond.code y cc mL (some .boolean) :: zk_T) { frames := 1, cells := 0, slots := 0, locals := 30 } (va_Pc [.long x] (fun _ => True)) (fun _ st0 oc t => oc = .returned (some (.int (if zr_nm x = true then 1 else 0))) ∧ t.heap = st0.heap) 0 0 (fun _ => False)
/-- what a row must be -/
def zk_ro (ms2 : zkMS) (Ps : List zkPT) (y : MethodName) (cc : ByteArray) (mL : Nat) (ret : Option FieldType) (pc : Nat) (r : zxRow) : Prop :=
  (r.1 < 55 → zx_N (fun _ _ _ _ _ _ _ _ => False) zk_props r.1 y cc mL pc r.2.1 r.2.2.1 r.2.2.2.1 r.2.2.2.2) ∧
  (55 ≤ r.1 → r.1 < 64 → zx_N (fun _ _ _ _ _ _ _ _ => False) Ps (r.1 - 55) y cc mL pc r.2.1 r.2.2.1 r.2.2.2.1 r.2.2.2.2) ∧
  (r.1 = 64 → decode cc pc = .ok (.ireturn, 1) ∧ ret = some .int) ∧ (r.1 = 65 → decode cc pc = .ok (.ireturn, 1) ∧ ret = some .boolean) ∧ (r.1 = 66 → decode cc pc = .ok (.lreturn, 1) ∧ ret = some .long) ∧ (r.1 = 67 → decode cc pc = .ok (.return_, 1) ∧ ret = none) ∧
  (70 ≤ r.1 → r.1 ≤ 74 → r.2.2.2.1 = pc + 3 ∧ ∃ (y2 : MethodName) (cc2 : ByteArray) (mL2 : Nat) (ret2 : Option FieldType) (n : Nat), ms2[r.2.2.1]? = some (y2, cc2, mL2, ret2) ∧ zk_meth y2 cc2 mL2 ret2 ∧ (parseMethodDescriptor y2.desc).map (fun q => q.parameters.length) = some n ∧
    ((r.1 = 70 ∧ ∃ t q, r.2.2.2.2 = [n + 1, t] ∧ 16 ≤ t ∧ vwCl[t - 16]? = some q ∧ q.1 = y2.cls ∧ Cond.methodLink y.cls (r.2.1 % 65536) y2 ∈ zk_T ∧ Cond.instanceMethod y2 ∈ zk_T ∧ Cond.selects y2.cls y2 y2 ∈ zk_T ∧ decode cc pc = .ok (.invokevirtual (r.2.1 % 65536), 3)) ∨
     (r.1 = 71 ∧ r.2.2.2.2 = [n + 1] ∧ y2.name = "<init>" ∧ ret2 = none ∧ Cond.methodLink y.cls (r.2.1 % 65536) y2 ∈ zk_T ∧ Cond.instanceMethod y2 ∈ zk_T ∧ decode cc pc = .ok (.invokespecial (r.2.1 % 65536), 3)) ∨
     (r.1 = 72 ∧ r.2.2.2.2 = [n + 1] ∧ y2.name = "<init>" ∧ ret2 = none ∧ (∀ U, zk_N U → va_Nw (.methodLinkNest y.cls (r.2.1 % 65536) y2 "StubHouse") U) ∧ Cond.instanceMethod y2 ∈ zk_T ∧ decode cc pc = .ok (.invokespecial (r.2.1 % 65536), 3)) ∨
     (r.1 = 73 ∧ r.2.2.2.2 = [n] ∧ Cond.methodLink y.cls (r.2.1 % 65536) y2 ∈ zk_T ∧ Cond.static y2 ∈ zk_T ∧ decode cc pc = .ok (.invokestatic (r.2.1 % 65536), 3)) ∨
     (r.1 = 74 ∧ ∃ (t t' : Nat) (q q' : vw_C) (x : MethodName), r.2.2.2.2 = [n + 1, t, t'] ∧ 16 ≤ t ∧ 16 ≤ t' ∧ vwCl[t - 16]? = some q ∧ vwCl[t' - 16]? = some q' ∧ y2 = ⟨y2.cls, x.name, x.desc⟩ ∧ Cond.methodLink y.cls (r.2.1 % 65536) x ∈ zk_T ∧ Cond.sameMethod x.cls y2.cls x.name x.desc ∈ zk_T ∧ Cond.selects q.1 x y2 ∈ zk_T ∧ Cond.selects q'.1 x y2 ∈ zk_T ∧ Cond.instanceMethod y2 ∈ zk_T ∧ decode cc pc = .ok (.invokevirtual (r.2.1 % 65536), 3)))) ∧
  (r.1 = 75 → r.2.2.2.1 = pc + 3 ∧ Cond.methodLink y.cls (r.2.1 % 65536) Lib.objectInit ∈ zk_T ∧ Cond.instanceMethod Lib.objectInit ∈ zk_T ∧ Cond.code Lib.objectInit ⟨#[0xb1]⟩ 1 none ∈ zk_T ∧ decode cc pc = .ok (.invokespecial (r.2.1 % 65536), 3)) ∧
  (r.1 = 76 → r.2.2.2.1 = pc + 3 ∧ r.2.1 < 65536 ∧ Cond.methodLink y.cls r.2.1 arraycopyName ∈ zk_T ∧ Cond.native arraycopyName ∈ zk_T ∧ Cond.static arraycopyName ∈ zk_T ∧ Cond.initialized "java/lang/System" ∈ zk_T ∧ decode cc pc = .ok (.invokestatic r.2.1, 3)) ∧
  (r.1 = 77 → r.2.2.2.1 = pc + 3 ∧ ∃ (y2 : MethodName) (cc2 : ByteArray) (mL2 : Nat), mL2 ≤ 8 ∧ zk_nm y2 cc2 mL2 ∧ zk_meth y2 cc2 mL2 (some .boolean) ∧ (parseMethodDescriptor y2.desc).map (fun q => q.parameters.length) = some 1 ∧ Cond.methodLink y.cls (r.2.1 % 65536) y2 ∈ zk_T ∧ Cond.static y2 ∈ zk_T ∧ decode cc pc = .ok (.invokestatic (r.2.1 % 65536), 3)) ∧
  (r.1 = 78 → r.2.2.2.1 = pc + 1 ∧ decode cc pc = .ok (.iaload, 1)) ∧ (r.1 = 79 → r.2.2.2.1 = pc + 1 ∧ decode cc pc = .ok (.arraylength, 1)) ∧
  (r.1 = 80 → mL = 3 ∧ r.2.2.1 = pc + 5 ∧ decode cc pc = .ok (.iload_n 2, 1) ∧ decode cc (pc + 1) = .ok (.iload_n 1, 1) ∧ decode cc (pc + 2) = .ok (.if_icmp .ge ((r.2.1 : Int) - ((pc + 2 : Nat) : Int)), 3) ∧ decode cc r.2.2.2.1 = .ok (.iinc 2 1, 3) ∧ decode cc (r.2.2.2.1 + 3) = .ok (.goto ((pc : Int) - ((r.2.2.2.1 + 3 : Nat) : Int)), 3))
def zk_MS (ms : zxMS) (ms2 : zkMS) (Ps : List zkPT) : Prop := ∀ (i : Nat) (tb : zxTB) (mL bu bw : Nat), ms[i]? = some (tb, mL, bu, bw) → ∃ (y : MethodName) (cc : ByteArray) (ret : Option FieldType), ms2[i]? = some (y, cc, mL, ret) ∧ zk_meth y cc mL ret ∧ ∀ pc, zk_ro ms2 Ps y cc mL ret pc (zx_row tb pc)
/-- how a frame ends -/
def zk_ret (p : Program) (l : Launch) (e : Env) (R : Room) (s : State) (m : MethodId) (args : Array Value) (below : List Frame) (meth : Method) (c : Code) (Q : State → Prop) (G : va_G) (σ : Nat → Int32) (b : zxBB) (A : Nat → Prop) (cc : ByteArray) (ret : Option FieldType) (cu cw : Nat) (kl : zxKL) : Prop :=
  ∀ (r : Nat) (hp : zxHP) (st : zxST) (u w pc : Nat) (ls : Array Slot) (vs : List Value) (H : Heap) (locs : List Loc) (as : List Nat), kl r hp st = true → u ≤ cu → w ≤ cw → zr_in σ st → va_S A s.heap H locs → zr_HP G σ b s A as hp H →
    ((r = 75 ∧ vs = [] ∧ ret = none ∧ decode cc pc = .ok (.return_, 1)) ∨ (r ≠ 75 ∧ ∃ x, vs = [.int x] ∧ zr σ b as r (.int x) ∧ (∃ ty, ret = some ty ∧ narrow ty (.int x) = .int x) ∧ decode cc pc = .ok (.ireturn, 1)) ∨ (r ≠ 75 ∧ ∃ x, vs = [.long x] ∧ zr σ b as r (.long x) ∧ ret = some .long ∧ decode cc pc = .ok (.lreturn, 1))) →
    W p l e R s m args below meth c H locs u w Q (F0 m pc ls vs)
def zk_scr (s : State) (σ : Nat → Int32) (b : zxBB) (A : Nat → Prop) (sc : Nat) : Prop := sc ≠ 0 → ∃ (L : Nat) (xs : Nat → Int32), sc = L + 1 ∧ L ≤ 90 ∧ va_X b.1 L xs s s.heap ∧ b.1 < s.heap.size ∧ ¬ A b.1 ∧ ∀ i, i < L → σ i = xs i
def zk_IH (ms : zxMS) (ms2 : zkMS) (pr : List zxHD) (Ps : List zkPT) (l : Launch) (G : va_G) (σ : Nat → Int32) (n : Nat) : Prop :=
  ∀ (p : Program) (e : Env) (R : Room) (s : State) (m : MethodId) (args : Array Value) (below : List Frame) (meth : Method) (c : Code) (Q : State → Prop) (b : zxBB) (A : Nat → Prop) (i : Nat) (y : MethodName) (cc : ByteArray) (mL : Nat) (ret : Option FieldType) (tb : zxTB) (fr lo cu cw sc sp : Nat) (kl : zxKL) (ks : zxKT) (pc : Nat) (lv : zxLV) (stk : List Nat) (hp : zxHP) (st : zxST) (u w : Nat) (H : Heap) (locs : List Loc) (ls : Array Slot) (vs : List Value),
    zx_run ms pr n i tb fr lo cu cw sc sp kl ks pc lv stk hp st u w = true → (∀ pc, zk_ro ms2 Ps y cc mL ret pc (zx_row tb pc)) → zk_Cx p s m args meth c A y cc mL → (R.frames = fr ∧ R.locals = lo ∧ R.cells = cu ∧ R.slots = cw) → u ≤ cu → w ≤ cw → zk_scr s σ b A sc → zk_ret p l e R s m args below meth c Q G σ b A cc ret cu cw kl → zr_KK p l e R s m args below meth c Q G σ b A mL ks → zr_R G σ b A mL s H locs ls vs lv stk hp st → W p l e R s m args below meth c H locs u w Q (F0 m pc ls vs)
theorem zr_as_in {σ : Nat → Int32} {b : zxBB} {as : List Nat} {tys : List (ClassId × FieldType)} {hp : zxHP} {ws : va_W} (hW : zr_W σ b as tys hp ws) {k : Nat} {q : Nat × va_E} (h : ws[k]? = some q) : q.1 ∈ as := by
  have hk : k < hp.1 := by rw [← hW.2.1]; exact (List.getElem?_eq_some_iff.mp h).1
  obtain ⟨q', e, h1, h2, -⟩ := hW.2.2.1 k hk
  rw [h] at h2
  cases h2
  exact List.mem_of_getElem? h1
theorem zr_as_A {σ : Nat → Int32} {b : zxBB} {as : List Nat} {tys : List (ClassId × FieldType)} {hp : zxHP} {ws : va_W} {A : Nat → Prop} (hW : zr_W σ b as tys hp ws) (hD : va_D A ws) {q : Nat} (h : q ∈ as) : A q := by
  obtain ⟨k, hk⟩ := List.getElem?_of_mem h
  obtain ⟨e, he, -⟩ := zr_W_get hW hk
  exact hD.2 k _ he
theorem zx_met {ms : zxMS} {ms2 : zkMS} {pr : List zxHD} {Ps : List zkPT} {l : Launch} {G : va_G} {σ : Nat → Int32} {n : Nat} (ihn : zk_IH ms ms2 pr Ps l G σ n) {i : Nat} {y : MethodName} {cc : ByteArray} {mL : Nat} {ret : Option FieldType} {tb : zxTB} (hme : zk_meth y cc mL ret) (hro : ∀ pc, zk_ro ms2 Ps y cc mL ret pc (zx_row tb pc))
    {fr lo bu bw : Nat} {kl : zxKL} {cargs : List Nat} {hp : zxHP} {st : zxST} (h : zx_run ms pr n i tb fr lo bu bw 0 99999 kl (fun _ _ _ _ _ _ _ => false) 0 (zx_argl 0 cargs) [] hp st 0 0 = true) (hσ : zr_in σ st) (hcat : zx_cat cargs ≤ mL) {b sz : Nat} {as : List Nat} {av : List Value} (hav : zr_2 (zr σ (b, as) as) cargs av) :
    Met l y (Cond.code y cc mL ret :: zk_T) { frames := fr, cells := bu, slots := bw, locals := lo } (va_Pc av (zk_Pre G σ b as hp sz)) (zk_Post G σ b as sz kl) bu bw (zk_fr as sz) := by
  refine Met.ofW (cc := cc) (maxL := mL) (ret := ret) hme.2.1 rfl ?_
  intro p e s m args below meth c s₁ B hml hv
  obtain ⟨rfl, hsz, ⟨tys, ws, hK, hW, hP, hD⟩, hN⟩ := hv
  have hx := B.exec
  have hb := B.bytes
  have hr := B.returns
  have hts := atoms_spec (ws := Cond.code y cc mL ret :: zk_T) B.pre
  have hown : s.vm.findClass y.cls = some m.cls := findClass_of_methodNamed B.named
  have hlocks : meth.locks = false := B.notSynchronized
  have hnm : meth.name = y.name := (name_of_methodNamed B.named B.method).1
  subst hsz
  have hl := lv_entry av (n := mL) (by rw [zx_cat_sl hav]; exact hcat)
  rw [lg_entry_eq]
  generalize (lg_sl av ++ List.replicate (mL - (lg_sl av).length) Slot.unset).toArray = ls at hl ⊢
  refine ihn p e _ s m _ below meth c _ (b, as) (zk_fr as s.heap.size) i y cc mL ret tb fr lo bu bw 0 99999 kl _ 0 (zx_argl 0 cargs) [] hp st 0 0 s.heap [] ls [] h hro ⟨hx, hb, hml, hown, fun w hw => hts w (List.mem_cons_of_mem _ hw), fun q => hnm.trans q, fun q hq => Or.inr hq, hN⟩ ⟨rfl, rfl, rfl, rfl⟩ (Nat.zero_le _) (Nat.zero_le _) (fun q => absurd rfl q) ?_ (fun _ _ _ _ _ _ _ _ _ _ _ q => absurd q Bool.false_ne_true) ⟨hσ, va_S.rf, as, ⟨tys, ws, hK, hW, hP, hD.weaken (fun k q hq _ => Or.inl (zr_as_in hW hq))⟩, ⟨lv_args 0 av, hl, zx_argl_ok 0 hav⟩, trivial⟩
  intro r hp2 st2 u w pc ls2 vs H locs as2 hk hu hw hσ2 hS2 hHP hend
  refine W.widen (k := bu) (n := bw) hu hw ?_
  have hq : ∀ (v : Option Value), zk_res σ (b, as) as2 r v → ∀ t : State, t.heap = H → s.WarmedH t.vm → zk_Post G σ b as s.heap.size kl av.toArray s (.returned v) t := fun v hv t ht hwm =>
    ⟨⟨r, v, hp2, st2, as2, hk, rfl, hv, hσ2, by rw [ht]; exact zr_HP_moved hwm.alike hHP⟩, hS2.F ht⟩
  rcases hend with ⟨rfl, rfl, rfl, hd⟩ | ⟨hne, x, rfl, hv, ⟨ty, rfl, hn⟩, hd⟩ | ⟨hne, x, rfl, hv, rfl, hd⟩
  · exact W.vret hx hb hr (hq none (Or.inl ⟨rfl, rfl⟩)) hS2.2.2 hd
  · exact W.zret hx hb hr hn (hq (some (.int x)) (Or.inr ⟨hne, _, rfl, hv⟩)) hS2.2.2 hd
  · exact W.lret hx hb hr (hq (some (.long x)) (Or.inr ⟨hne, _, rfl, hv⟩)) hS2.2.2 hd
section ZD
variable {ms : zxMS} {ms2 : zkMS} {pr : List zxHD} {Ps : List zkPT} {n : Nat} {p : Program} {l : Launch} {e : Env} {R : Room} {s : State} {m : MethodId} {args : Array Value} {below : List Frame} {meth : Method} {c : Code} {Q : State → Prop} {G : va_G} {σ : Nat → Int32} {b : zxBB} {A : Nat → Prop} {i : Nat} {y : MethodName} {cc : ByteArray} {mL : Nat} {ret : Option FieldType} {tb : zxTB} {fr lo cu cw sc sp : Nat} {kl : zxKL} {ks : zxKT} {pc nxt : Nat} {lv : zxLV} {hp : zxHP} {st : zxST} {u w : Nat} {H : Heap} {locs : List Loc} {ls : Array Slot} {vs : List Value}
/-- a call, whatever its kind -/
theorem zx_do (ihn : zk_IH ms ms2 pr Ps l G σ n) (hM : zk_MS ms ms2 Ps) {bn : Nat} {cargs crest : List Nat} {av vrest : List Value} {as : List Nat}
    (h : zx_call ms (zx_run ms pr n) fr lo cu cw bn cargs crest hp st u w (fun stk2 hp2 st2 u2 w2 => zx_run ms pr n i tb fr lo cu cw sc sp kl ks nxt lv stk2 hp2 st2 u2 w2) = true) (hro : ∀ pc, zk_ro ms2 Ps y cc mL ret pc (zx_row tb pc)) (hCx : zk_Cx p s m args meth c A y cc mL) (hR : R.frames = fr ∧ R.locals = lo ∧ R.cells = cu ∧ R.slots = cw) (hsc : zk_scr s σ b A sc) (hret : zk_ret p l e R s m args below meth c Q G σ b A cc ret cu cw kl) (hks : zr_KK p l e R s m args below meth c Q G σ b A mL ks)
    (hσ : zr_in σ st) (hS : va_S A s.heap H locs) (hHP : zr_HP G σ b s A as hp H) (hL : ∃ lv', lv_has ls mL lv' ∧ zr_LV σ b as lv lv') (hrest : zr_2 (zr σ b as) crest vrest) (hav : zr_2 (zr σ b as) cargs av) (hn : nxt = pc + 3)
    (run : ∀ (y2 : MethodName) (cc2 : ByteArray) (mL2 : Nat) (ret2 : Option FieldType) (bu bw : Nat) (rm : Room) (Qc : Array Value → State → Outcome → State → Prop), ms2[bn]? = some (y2, cc2, mL2, ret2) → Met l y2 (Cond.code y2 cc2 mL2 ret2 :: zk_T) rm (va_Pc av (zk_Pre G σ b.1 as hp H.size)) Qc bu bw (zk_fr as H.size) → rm.cells = bu → rm.slots = bw → rm.frames + 1 ≤ R.frames → 8 + (mL2 + 11) + rm.locals ≤ R.locals → u + bu ≤ R.cells → w + bw ≤ R.slots → (vrest.map fun v => v.category).sum ≤ 8 → FrameBlind (va_Pc av (zk_Pre G σ b.1 as hp H.size)) → (∀ U : State, U.heap = H → s.WarmedH U.vm → va_Pc av (zk_Pre G σ b.1 as hp H.size) av.toArray U) → va_Run p l e R s m args below meth c H locs u w bu bw (F0 m pc ls vs) vrest (Qc av.toArray) (zk_fr as H.size)) : W p l e R s m args below meth c H locs u w Q (F0 m pc ls vs) := by
  unfold zx_call at h
  rw [zx_N_eq] at h
  have hg : Nat.blt bn (zx_Z ms) = true := by
    generalize (ms[bn]?).getD ([], 0, 0, 0) = M0 at h
    obtain ⟨tb2, mL2, bu, bw⟩ := M0
    exact (zx_an (zx_c1 h).1).1
  have hg := zx_blt.mp hg
  rw [zx_Z_eq] at hg
  have hmi : ms[bn]? = some ms[bn] := List.getElem?_eq_getElem hg
  rw [hmi] at h
  generalize ms[bn] = M0 at h hmi
  obtain ⟨tb2, mL2, bu, bw⟩ := M0
  obtain ⟨h1, h⟩ := zx_c1 (show cond (Nat.blt bn (zx_Z ms) && (Nat.ble 1 fr && (Nat.ble (19 + mL2) lo && (Nat.ble (zx_cat cargs) mL2 && Nat.ble (zx_cat crest) 8))))
      (zx_F (fr - 1) (fun fr2 => zx_F (lo - (19 + mL2)) (fun lo2 => zx_args cargs 0 (fun lv2 => zx_F (u + bu) (fun u2 => zx_F (w + bw) (fun w2 => cond (Nat.ble u2 cu && Nat.ble w2 cw)
        (zx_run ms pr n bn tb2 fr2 lo2 bu bw 0 99999 (fun c hp2 st2 => cond (Nat.beq c 75) (zx_run ms pr n i tb fr lo cu cw sc sp kl ks nxt lv crest hp2 st2 u2 w2) (zx_run ms pr n i tb fr lo cu cw sc sp kl ks nxt lv (c :: crest) hp2 st2 u2 w2)) (fun _ _ _ _ _ _ _ => false) 0 lv2 [] hp st 0 0) false)))))) false = true from h)
  have g1 := zx_an (zx_an h1).2
  have g2 := zx_an g1.2
  have g3 := zx_an g2.2
  have q1 := zx_ble.mp g1.1
  have q2 := zx_ble.mp g2.1
  have q3 := zx_ble.mp g3.1
  have q4 := zx_ble.mp g3.2
  rw [zx_F_eq, zx_F_eq, zx_args_eq, zx_F_eq, zx_F_eq] at h
  obtain ⟨h5, h⟩ := zx_c1 h
  have q5 := zx_ble.mp (zx_an h5).1
  have q6 := zx_ble.mp (zx_an h5).2
  obtain ⟨y2, cc2, ret2, hms2, hme2, hro2⟩ := hM bn tb2 mL2 bu bw hmi
  obtain ⟨tys, ws, hK, hW, hP, hD⟩ := hHP
  have hbb : zr σ (b.1, as) = zr σ b := zr_bb rfl
  have hav2 : zr_2 (zr σ (b.1, as) as) cargs av := by rw [hbb]; exact hav
  have hmet := zx_met (sz := H.size) (b := b.1) ihn hme2 hro2 h hσ q3 hav2
  have hW2 : zr_W σ (b.1, as) as tys hp ws := zr_W_bb (b1 := b) rfl (List.prefix_refl as) hW
  obtain ⟨hR1, hR2, hR3, hR4⟩ := hR
  have hrun := run y2 cc2 mL2 ret2 bu bw _ _ hms2 hmet rfl rfl (by show fr - 1 + 1 ≤ R.frames; omega) (by show 8 + (mL2 + 11) + (lo - (19 + mL2)) ≤ R.locals; omega) (by omega) (by omega) (by rw [zx_cat_sum hrest]; exact q4) (zk_blind G σ b.1 as hp H.size av)
    (fun U hU hWm => ⟨rfl, by rw [hU], ⟨tys, ws, va_K.moved hWm.alike hK, hW2, by rw [hU]; exact hP, hD.weaken (fun _ _ _ _ => trivial)⟩, zk_N_warm hWm hCx.2.2.2.2.2.2.2⟩)
  have hA := hCx.2.2.2.2.2.2.1
  refine zx_after hrun hS (fun q hq => ?_) ?_
  · rcases hq with hq | hq
    · exact zr_as_A hW hD hq
    · exact hA q (Nat.le_trans hS.1 hq)
  intro r v hp2 st2 as2 H1 locs1 hk hres hσ2 ⟨tys2, ws2, hK2, hW3, hP2, hD2⟩ hS2
  obtain ⟨ext, rfl⟩ := hW3.2.2.2
  have hW4 : zr_W σ b (as ++ ext) tys2 hp2 ws2 := zr_W_bb (b1 := (b.1, as)) rfl (List.IsPrefix.trans hW.2.2.2 (List.prefix_append as ext)) hW3
  obtain ⟨lv', hl, hLv⟩ := hL
  have hL2 : ∃ lv', lv_has ls mL lv' ∧ zr_LV σ b (as ++ ext) lv lv' := ⟨lv', hl, zr_2_mono (fun _ _ q => ⟨q.1, zr_mono ext q.2⟩) hLv⟩
  have hrest2 : zr_2 (zr σ b (as ++ ext)) crest vrest := zr_2_mono (fun _ _ q => zr_mono ext q) hrest
  rcases hres with ⟨rfl, rfl⟩ | ⟨hne, x, rfl, hv⟩
  · have hk : zx_run ms pr n i tb fr lo cu cw sc sp kl ks nxt lv crest hp2 st2 (u + bu) (w + bw) = true := hk
    exact hn ▸ ihn p e R s m args below meth c Q b A i y cc mL ret tb fr lo cu cw sc sp kl ks nxt lv crest hp2 st2 (u + bu) (w + bw) H1 locs1 ls vrest hk hro hCx ⟨hR1, hR2, hR3, hR4⟩ q5 q6 hsc hret hks ⟨hσ2, hS2, as ++ ext, ⟨tys2, ws2, hK2, hW4, hP2, hD2⟩, hL2, hrest2⟩
  · rw [zx_nbeq.mpr hne] at hk
    have hk : zx_run ms pr n i tb fr lo cu cw sc sp kl ks nxt lv (r :: crest) hp2 st2 (u + bu) (w + bw) = true := hk
    have hbb2 : zr σ (b.1, as) = zr σ b := zr_bb rfl
    rw [hbb2] at hv
    exact hn ▸ ihn p e R s m args below meth c Q b A i y cc mL ret tb fr lo cu cw sc sp kl ks nxt lv (r :: crest) hp2 st2 (u + bu) (w + bw) H1 locs1 ls (x :: vrest) hk hro hCx ⟨hR1, hR2, hR3, hR4⟩ q5 q6 hsc hret hks ⟨hσ2, hS2, as ++ ext, ⟨tys2, ws2, hK2, hW4, hP2, hD2⟩, hL2, hv, hrest2⟩
theorem zx_cl_zr {σ σ' : Nat → Int32} {b : zxBB} {as : List Nat} {n : Nat} {v : Value} (h : zx_cl n = true) (hz : zr σ b as n v) : zr σ' b as n v := by
  rcases Bool.or_eq_true_iff.mp h with g | g
  · have g := zx_blt.mp g
    rcases (show n % 8 = 0 ∨ n % 8 = 1 ∨ n % 8 = 2 ∨ n % 8 = 3 by omega) with e | e | e | e
    · exact (zr_0 e).mpr ((zr_0 e).mp hz)
    · exact (zr_1 e).mpr ((zr_1 e).mp hz)
    · exact (zr_2' e).mpr ((zr_2' e).mp hz)
    · exact (zr_3 e).mpr ((zr_3 e).mp hz)
  · have g := zx_beq.mp g
    subst g
    exact (zr_6 rfl).mpr ((zr_6 rfl).mp hz)
theorem zx_cl_2 {σ σ' : Nat → Int32} {b : zxBB} {as : List Nat} : ∀ {l : List Nat} {vs : List Value}, (∀ c ∈ l, zx_cl c = true) → zr_2 (zr σ b as) l vs → zr_2 (zr σ' b as) l vs
  | [], [], _, _ => trivial
  | c :: l, v :: vs, h, hz => ⟨zx_cl_zr (h c List.mem_cons_self) hz.1, zx_cl_2 (fun c hc => h c (List.mem_cons_of_mem _ hc)) hz.2⟩
  | [], _ :: _, _, h => h.elim
  | _ :: _, [], _, h => h.elim
theorem zx_cl_A {d j : Nat} (hd : zx_cl d = true) : ∀ {l : List (Nat × Nat)}, (∀ q ∈ l, zx_cl q.2 = true) → zx_cl (zx_A l d j) = true
  | [], _ => hd
  | q :: l, h => by
    rw [zx_A_cons]
    split
    · exact h q List.mem_cons_self
    · exact zx_cl_A hd (fun q hq => h q (List.mem_cons_of_mem _ hq))
theorem zx_clean_W {σ σ' : Nat → Int32} {b : zxBB} {as : List Nat} {tys : List (ClassId × FieldType)} {hp : zxHP} {ws : va_W} (hc : zx_clean hp = true) (hW : zr_W σ b as tys hp ws) : zr_W σ' b as tys hp ws := by
  refine ⟨hW.1, hW.2.1, fun k hk => ?_, hW.2.2.2⟩
  obtain ⟨q, e, h1, h2, h3⟩ := hW.2.2.1 k hk
  refine ⟨q, e, h1, h2, ?_⟩
  have hcl : (∀ c ∈ (zx_G hp k).2.2.1, zx_cl c = true) ∧ ∀ q ∈ (zx_G hp k).2.2.2, zx_cl q.2 = true := by
    obtain ⟨n, cs⟩ := hp
    rw [zx_G_eq]
    cases ha : cs[k / 32]? with
    | none => simp
    | some ch =>
      simp only [Option.getD_some]
      cases hb : ch[k % 32]? with
      | none => simp
      | some E =>
        obtain ⟨t, n0, fs, es⟩ := E
        simp only [Option.getD_some]
        have g1 := List.all_eq_true.mp (show cs.all _ = true from hc) ch (List.mem_of_getElem? ha)
        have g2 := List.all_eq_true.mp g1 _ (List.mem_of_getElem? hb)
        obtain ⟨g3, g4⟩ := zx_an g2
        exact ⟨fun c hc => List.all_eq_true.mp g3 c hc, fun q hq => List.all_eq_true.mp g4 q hq⟩
  generalize zx_G hp k = E at h3 hcl
  have hA : ∀ j, zx_cl (zx_N 74 E.2.2.1 0) = true → zx_cl (zr_c E j) = true := fun j hd => zx_cl_A hd hcl.2
  have hd : zx_cl (zx_N 74 E.2.2.1 0) = true := by
    rw [zx_N_eq]
    cases hq : E.2.2.1[0]? with
    | none => rfl
    | some c => exact hcl.1 c (List.mem_of_getElem? hq)
  rcases h3 with ⟨g1, fs, g2, g3⟩ | ⟨g1, g2, g3, cA, t0, g4, g5⟩
  · exact Or.inl ⟨g1, fs, g2, zx_cl_2 hcl.1 g3⟩
  · refine Or.inr ⟨g1, g2, g3, cA, t0, g4, ?_⟩
    rcases g5 with ⟨k1, f, k2, k3⟩ | ⟨k1, f, k2, k3⟩ | ⟨k1, f, k2, k3⟩
    · exact Or.inl ⟨k1, f, k2, fun j hj => zx_cl_zr (hA j hd) (k3 j hj)⟩
    · exact Or.inr (Or.inl ⟨k1, f, k2, fun j hj => zx_cl_zr (hA j hd) (k3 j hj)⟩)
    · exact Or.inr (Or.inr ⟨k1, f, k2, fun j hj => zx_cl_zr (hA j hd) (k3 j hj)⟩)
/-- the loop, from the machine's side -/
theorem zx_loop (ihn : ∀ σ, zk_IH ms ms2 pr Ps l G σ n) (hro : ∀ pc, zk_ro ms2 Ps y cc 3 ret pc (zx_row tb pc)) (hCx : zk_Cx p s m args meth c A y cc 3) (hR : R.frames = fr ∧ R.locals = lo ∧ R.cells = cu ∧ R.slots = cw) (hu : u ≤ cu) (hw : w ≤ cw) (hsc : zk_scr s σ b A sc) (hret : zk_ret p l e R s m args below meth c Q G σ b A cc ret cu cw kl) (hks : zr_KK p l e R s m args below meth c Q G σ b A 3 ks) (hσ : zr_in σ st) (hst : ∀ q ∈ st, q.1 < 98) {a b2 x1 c0 : Nat} {hp2 : zxHP} {X : Int32} (hx4 : x1 % 8 = 4) (hx98 : x1 / 8 < 98) (hc3 : c0 % 8 = 3) (hcl : zx_clean hp2 = true)
    (hbody : zx_run ms pr n i tb fr lo cu cw sc nxt (fun _ _ _ => false) (zx_bk c0 x1 nxt u w hp2) b2 [(2, 788), (0, c0), (1, x1)] [] hp2 st u w = true) (hexit : zx_run ms pr n i tb fr lo cu cw sc sp kl ks a [(2, 6), (0, c0), (1, x1)] [] hp2 st u w = true)
    (hb2 : b2 = pc + 5) (d1 : decode cc pc = .ok (.iload_n 2, 1)) (d2 : decode cc (pc + 1) = .ok (.iload_n 1, 1)) (d3 : decode cc (pc + 2) = .ok (.if_icmp .ge ((a : Int) - ((pc + 2 : Nat) : Int)), 3)) (d4 : decode cc nxt = .ok (.iinc 2 1, 3)) (d5 : decode cc (nxt + 3) = .ok (.goto ((pc : Int) - ((nxt + 3 : Nat) : Int)), 3)) :
    ∀ (k : Nat) (i0 : Int32) (q : Nat) (H : Heap) (locs : List Loc) (ls : Array Slot) (as : List Nat), X.toInt - i0.toInt ≤ k → va_S A s.heap H locs → zr_HP G σ b s A as hp2 H → lv_has ls 3 [(2, .int i0), (0, .ref q), (1, .int X)] → zr σ b as c0 (.ref q) → zr σ b as x1 (.int X) → W p l e R s m args below meth c H locs u w Q (F0 m pc ls []) := by
  obtain ⟨hx, hb, -⟩ := id hCx
  intro k
  induction k with
  | zero =>
    intro i0 q H locs ls as hk hS hHP hl z0 z1
    refine lv_iload_n hx hb (k := 2) d1 rfl (lv_at hl 0 rfl) ?_
    refine lv_iload_n hx hb (k := 1) d2 rfl (lv_at hl 2 rfl) ?_
    refine lv_icmp_ge (tgt := a) hx hb d3 (by omega) (fun _ => ?_) (fun g => ?_)
    · exact ihn σ p e R s m args below meth c Q b A i y cc 3 ret tb fr lo cu cw sc sp kl ks a _ _ _ _ u w H locs ls [] hexit hro hCx hR hu hw hsc hret hks ⟨hσ, hS, as, hHP, ⟨_, hl, ⟨rfl, (zr_6 rfl).mpr ⟨i0, rfl⟩⟩, ⟨rfl, z0⟩, ⟨rfl, z1⟩, trivial⟩, trivial⟩
    · exfalso
      apply g
      rw [Int32.le_iff_toInt_le]
      omega
  | succ k ih =>
    intro i0 q H locs ls as hk hS hHP hl z0 z1
    refine lv_iload_n hx hb (k := 2) d1 rfl (lv_at hl 0 rfl) ?_
    refine lv_iload_n hx hb (k := 1) d2 rfl (lv_at hl 2 rfl) ?_
    refine lv_icmp_ge (tgt := a) hx hb d3 (by omega) (fun _ => ?_) (fun g => ?_)
    · exact ihn σ p e R s m args below meth c Q b A i y cc 3 ret tb fr lo cu cw sc sp kl ks a _ _ _ _ u w H locs ls [] hexit hro hCx hR hu hw hsc hret hks ⟨hσ, hS, as, hHP, ⟨_, hl, ⟨rfl, (zr_6 rfl).mpr ⟨i0, rfl⟩⟩, ⟨rfl, z0⟩, ⟨rfl, z1⟩, trivial⟩, trivial⟩
    · have hlt : i0.toInt < X.toInt := by
        rw [Int32.le_iff_toInt_le] at g
        omega
      have hst1 : (i0 + 1).toInt = i0.toInt + 1 := by
        have h1 := Int32.toInt_lt X
        have h2 := Int32.le_toInt i0
        rw [Int32.toInt_add]
        show (i0.toInt + 1).bmod 4294967296 = _
        rw [Int.bmod_def]
        omega
      have hσn : ∀ id, id < 98 → zr_n (fun j => if j = 98 then i0 else σ j) id = zr_n σ id := by
        intro id hid
        rw [zr_n_s (by omega), zr_n_s (by omega)]
        unfold zr_d
        rw [if_pos (by omega), if_pos (by omega)]
        show zr_b (if id = 98 then i0 else σ id) = zr_b (σ id)
        rw [if_neg (by omega)]
      have hσd : zr_d (fun j => if j = 98 then i0 else σ j) (x1 / 8) = zr_d σ (x1 / 8) := by
        unfold zr_d
        rw [if_pos (by omega), if_pos (by omega)]
        show (if x1 / 8 = 98 then i0 else σ (x1 / 8)) = σ (x1 / 8)
        rw [if_neg (by omega)]
      have hX1 := (zr_4 hx4).mp z1
      have hbb : W p l e R s m args below meth c H locs u w Q (F0 m b2 ls []) := by
        obtain ⟨tys, ws, hK, hW, hP, hD⟩ := hHP
        refine ihn (fun j => if j = 98 then i0 else σ j) p e R s m args below meth c Q b A i y cc 3 ret tb fr lo cu cw sc nxt (fun _ _ _ => false) _ b2 _ _ _ _ u w H locs ls [] hbody hro hCx hR hu hw ?_ (fun _ _ _ _ _ _ _ _ _ _ _ q => absurd q Bool.false_ne_true) ?_ ⟨?_, hS, as, ⟨tys, ws, hK, zx_clean_W hcl hW, hP, hD⟩, ⟨_, hl, ⟨rfl, ?_⟩, ⟨rfl, ?_⟩, ⟨rfl, ?_⟩, trivial⟩, trivial⟩
        · intro hs
          obtain ⟨L, xs, e1, e2, e3, e4, e5, e6⟩ := hsc hs
          exact ⟨L, xs, e1, e2, e3, e4, e5, fun j hj => by
            show (if j = 98 then i0 else σ j) = _
            rw [if_neg (by omega)]
            exact e6 j hj⟩
        · intro pc2 lv2 stk2 hp3 st2 u2 w2 H2 locs2 ls2 vs2 hks2 r2
          obtain ⟨f0, f1, f2, f3, f4, f5⟩ := zx_bk_ok hks2
          subst f0
          subst f1
          subst f2
          subst f3
          subst f4
          subst f5
          obtain ⟨hσ2, hS2, as2, ⟨tys2, ws2, hK2, hW2, hP2, hD2⟩, ⟨lv', hl', hLv⟩, hV2⟩ := r2
          rcases vs2 with _ | ⟨vv, vr⟩
          · rcases lv' with _ | ⟨⟨j2, v2⟩, _ | ⟨⟨j0, v0⟩, _ | ⟨⟨j1, v1⟩, _ | ⟨xx, lr⟩⟩⟩⟩
            · exact hLv.elim
            · exact hLv.2.elim
            · exact hLv.2.2.elim
            · obtain ⟨⟨e2, y2⟩, ⟨e0, y0⟩, ⟨e1, y1⟩, -⟩ := hLv
              dsimp only at e2 e0 e1 y2 y0 y1
              subst e2
              subst e0
              subst e1
              have y2 := (zr_4 rfl).mp y2
              rw [show zr_d (fun j => if j = 98 then i0 else σ j) (788 / 8) = i0 from by unfold zr_d; rw [if_pos (by decide)]; exact if_pos rfl] at y2
              subst y2
              obtain ⟨qq, k1, rfl⟩ := (zr_3 hc3).mp y0
              have y1 := (zr_4 hx4).mp y1
              rw [hσd, ← Value.int.inj hX1] at y1
              subst y1
              refine lv_iinc (k := 0) (v := i0 + 1) (lv' := [(2, .int (i0 + 1)), (0, .ref qq), (1, .int X)]) (n := 1) hx hb d4 hl' rfl rfl (by decide) rfl (fun ls3 hl3 => ?_)
              refine lv_goto (tgt := pc) hx hb d5 (by omega) ?_
              exact ih (i0 + 1) qq H2 locs2 ls3 as2 (by omega) hS2 ⟨tys2, ws2, hK2, zx_clean_W hcl hW2, hP2, hD2⟩ hl3 ((zr_3 hc3).mpr ⟨qq, k1, rfl⟩) ((zr_4 hx4).mpr hX1)
            · exact hLv.2.2.2.elim
          · exact hV2.elim
        · intro q hq
          rw [hσn q.1 (hst q hq)]
          exact hσ q hq
        · refine (zr_4 rfl).mpr ?_
          unfold zr_d
          rw [if_pos (by decide)]
          show Value.int i0 = Value.int (if 98 = 98 then i0 else σ 98)
          rw [if_pos rfl]
        · obtain ⟨qq, k1, k2⟩ := (zr_3 hc3).mp z0
          exact (zr_3 hc3).mpr ⟨qq, k1, k2⟩
        · refine (zr_4 hx4).mpr ?_
          rw [hσd]; exact hX1
      rw [hb2] at hbb
      exact hbb
end ZD
