/-! THE CLAIM OUT OF ONE WALK OF THE LAW'S BODY. Your part is whole_start (and what it stands on); all else here is the same for every law, but numbers. -/
def R_law : String := "StubHouseLaw"
def lw_P (b : Addr) (xs : List Int32) (args : Array Value) (s : State) : Prop := args = #[.ref b] ∧ s.IntsAt b xs ∧ xs.length ≤ 5 ∧ (Jvm.Cond.and given_1 narrow_1).before args s = true
def lw_Q (_ : Array Value) (s : State) (o : Outcome) (t : State) : Prop := o = .returned (some (.int 1)) ∧ Framed s o t [] 600000 7302250
def lw_Z (below : List Frame) (a : Array Value) (s : State) : State → Prop := fun t => ∃ o, t.status = .running ∧ Ended t below o ∧ lw_Q a s o t
/-- the law's own end, with 1 on the stack, nothing written that was there before, its room as the claim has it -/
theorem lw_ret {p : Program} {l : Launch} {e : Env} {s : State} {m : MethodId} {below : List Frame} {meth : Method} {c : Code} {b : Nat} (hx : p.tables.exec = Jvm.exec) (hb : c.code = code) (hr : meth.sig.returnType = ret) (hlocks : meth.locks = false) {pc : Nat} {H : Heap} {ls : Array Slot} (hdg : decode code pc = .ok (.ireturn, 1)) : W p l e room_1 s m #[Value.ref b] below meth c H [] 600000 7302250 (lw_Z below #[Value.ref b] s) (F0 m pc ls [.int 1]) := by
  intro T hT X
  obtain ⟨fs, hret, hrun, hended, hW, hframe⟩ := X.leave (v := some (.int 1)) (hlocks := hlocks) (fun h => by rw [hr] at h; cases h)
  have hmeth' : T.vm.method? m = some meth := X.method'
  refine ⟨T.setFrames fs, ?_, .returned (some (.int 1)), hrun, hended, rfl, ⟨_, rfl⟩, hW, hframe⟩
  jvm_step X.here [X.here.top, hx, hb, hdg, hmeth', hr, ret, narrow_b1]
  (try refine ⟨rfl, ?_⟩); (try refine ⟨rfl, ?_⟩)
  first | (intro acts; rw [hret _ acts rfl rfl rfl]) | rw [hret _ _ rfl rfl rfl]
  exact Steps.refl _
/-- what holds at the law's entry: the machine, the code, the tables' words (any of lw_tbl by 'hts w (by decide +kernel)'), the script of L ints xs at the cell b, what the Statement gives of the start (any of its parts by flat_of_before) -/
def lw_At (p : Program) (s : State) (m : MethodId) (meth : Method) (c : Code) (b L : Nat) (xs : Nat → Int32) : Prop :=
  p.tables.exec = Jvm.exec ∧ c.code = code ∧ meth.sig.returnType = ret ∧ c.maxLocals = 4 ∧ s.vm.findClass R_law = some m.cls ∧ (∀ w ∈ lw_tbl, w.before #[Value.ref b] s = true) ∧ va_X b L xs s s.heap ∧ b < s.heap.size ∧ meth.locks = false ∧ (Jvm.Cond.and given_1 narrow_1).before #[Value.ref b] s = true
theorem zx_k18_ok {pc u w : Nat} {lv : zxLV} {stk : List Nat} {hp : zxHP} {st : zxST} (h : zx_k18 pc lv stk hp st u w = true) : pc = 18 ∧ lv = zx_lv0 ∧ stk = [] ∧ hp = zx_h0 ∧ st = [] ∧ u ≤ 1142 ∧ w ≤ 666482 := by
  obtain ⟨h1, h⟩ := Bool.and_eq_true_iff.mp (show and _ _ = true from h)
  obtain ⟨h2, h⟩ := Bool.and_eq_true_iff.mp h
  obtain ⟨h3, h⟩ := Bool.and_eq_true_iff.mp h
  obtain ⟨h4, h⟩ := Bool.and_eq_true_iff.mp h
  obtain ⟨h5, h⟩ := Bool.and_eq_true_iff.mp h
  obtain ⟨h6, h7⟩ := Bool.and_eq_true_iff.mp h
  refine ⟨Nat.eq_of_beq_eq_true h1, of_decide_eq_true h2, ?_, @of_decide_eq_true _ (zx_de5 hp zx_h0) h4, ?_, Nat.le_of_ble_eq_true h6, Nat.le_of_ble_eq_true h7⟩
  · rcases stk with _ | ⟨x, r⟩
    · rfl
    · exact absurd h3 Bool.false_ne_true
  · rcases st with _ | ⟨x, r⟩
    · rfl
    · exact absurd h5 Bool.false_ne_true
theorem zx_k32_ok {pc u w : Nat} {lv : zxLV} {stk : List Nat} {hp : zxHP} {st : zxST} (h : zx_k32 pc lv stk hp st u w = true) : pc = 32 ∧ lv = zx_lv0 ∧ (∃ k, k < 32 ∧ stk = [8 * k]) ∧ hp = zx_h0 ∧ st = [] ∧ u ≤ 1142 ∧ w ≤ 666482 := by
  obtain ⟨h1, h⟩ := Bool.and_eq_true_iff.mp (show and _ _ = true from h)
  obtain ⟨h2, h⟩ := Bool.and_eq_true_iff.mp h
  obtain ⟨h3, h⟩ := Bool.and_eq_true_iff.mp h
  obtain ⟨h4, h⟩ := Bool.and_eq_true_iff.mp h
  obtain ⟨h5, h⟩ := Bool.and_eq_true_iff.mp h
  obtain ⟨h6, h7⟩ := Bool.and_eq_true_iff.mp h
  refine ⟨Nat.eq_of_beq_eq_true h1, of_decide_eq_true h2, ?_, @of_decide_eq_true _ (zx_de5 hp zx_h0) h4, ?_, Nat.le_of_ble_eq_true h6, Nat.le_of_ble_eq_true h7⟩
  · rcases stk with _ | ⟨x, _ | ⟨x2, r⟩⟩
    · exact absurd h3 Bool.false_ne_true
    · obtain ⟨g1, g2⟩ := zx_an h3
      have g1 := zx_beq.mp g1
      have g2 := zx_blt.mp g2
      exact ⟨x / 8, g2, by rw [show 8 * (x / 8) = x by omega]⟩
    · exact absurd h3 Bool.false_ne_true
  · rcases st with _ | ⟨x, r⟩
    · rfl
    · exact absurd h5 Bool.false_ne_true
theorem zv_case (k : Nat) (hk : k < 32) : zx_run zx_ms zx_pr 200000 9999 ztb_law 13 554 600000 7302250 6 99999 zx_kl zx_kn 32 zx_lv0 [8 * k] zx_h0 [] 1142 666482 = true := by
  match k, hk with
  | 0, _ => exact zv_c0
  | 1, _ => exact zv_c1
  | 2, _ => exact zv_c2
  | 3, _ => exact zv_c3
  | 4, _ => exact zv_c4
  | 5, _ => exact zv_c5
  | 6, _ => exact zv_c6
  | 7, _ => exact zv_c7
  | 8, _ => exact zv_c8
  | 9, _ => exact zv_c9
  | 10, _ => exact zv_c10
  | 11, _ => exact zv_c11
  | 12, _ => exact zv_c12
  | 13, _ => exact zv_c13
  | 14, _ => exact zv_c14
  | 15, _ => exact zv_c15
  | 16, _ => exact zv_c16
  | 17, _ => exact zv_c17
  | 18, _ => exact zv_c18
  | 19, _ => exact zv_c19
  | 20, _ => exact zv_c20
  | 21, _ => exact zv_c21
  | 22, _ => exact zv_c22
  | 23, _ => exact zv_c23
  | 24, _ => exact zv_c24
  | 25, _ => exact zv_c25
  | 26, _ => exact zv_c26
  | 27, _ => exact zv_c27
  | 28, _ => exact zv_c28
  | 29, _ => exact zv_c29
  | 30, _ => exact zv_c30
  | 31, _ => exact zv_c31
  | k + 32, h => exact absurd h (by omega)
theorem zv_len (k : Nat) (hk : k < 5) : zx_run zx_ms zx_pr 200000 9999 ztb_law 13 554 600000 7302250 (k + 1) 99999 zx_kl zx_kn 18 zx_lv0 [] zx_h0 [] 1142 666482 = true := by
  match k, hk with
  | 0, _ => exact zv_l0
  | 1, _ => exact zv_l1
  | 2, _ => exact zv_l2
  | 3, _ => exact zv_l3
  | 4, _ => exact zv_l4
  | k + 5, h => exact absurd h (by omega)
/-- from the entry, for every script of at most 5 ints, the law comes to its end with true -/
theorem whole_start {p : Program} {e : Env} {s : State} {m : MethodId} {below : List Frame} {meth : Method} {c : Code} (l : Launch) {b L : Nat} {xs : Nat → Int32} (hL : L ≤ 5) (C0 : lw_At p s m meth c b L xs) : W p l e room_1 s m #[Value.ref b] below meth c s.heap [] 0 0 (lw_Z below #[Value.ref b] s) (entryFrame m ([Value.ref b] : List Value).toArray 4) := by
  obtain ⟨hx, hb, hr, hml, hown, hts, hX, hbl, hlocks, hgv⟩ := id C0
  obtain ⟨G, hK⟩ := zk_G_of hts
  have hP : va_P G vwCl [] s.heap := fun k q h => by simp at h
  have hD : va_D (fun q : Nat => s.heap.size ≤ q) [] := ⟨fun i j p q h => by simp at h, fun k q h => by simp at h⟩
  have hbA : ¬ (fun q : Nat => s.heap.size ≤ q) b := Nat.not_le.mpr hbl
  have hl := lv_entry ([.ref b]) (n := 4) (Nat.le_of_ble_eq_true rfl)
  rw [lg_entry_eq]
  generalize (lg_sl ([.ref b]) ++ List.replicate (4 - (lg_sl ([.ref b])).length) Slot.unset).toArray = ls at hl ⊢
  have hl : lv_has ls 4 [(0, .ref b)] := hl
  have IH := zx_ok zk_C_ok (zk_MS_ok zn_all) (zk_Ps_ok zk_C_ok) l G 200000 xs
  have hro := zk_law_ro zn_all
  have hCx : zk_Cx p s m #[Value.ref b] meth c (fun q : Nat => s.heap.size ≤ q) ⟨"StubHouseLaw", "law", "([I)Z"⟩ code 4 := ⟨hx, hb, hml, hown, fun w hw => hts w (List.mem_filter.mp hw).1, fun q => absurd q (by decide), fun _ h => h, zk_N_of hts⟩
  have hR : room_1.frames = 13 ∧ room_1.locals = 554 ∧ room_1.cells = 600000 ∧ room_1.slots = 7302250 := ⟨rfl, rfl, rfl, rfl⟩
  have hret : zk_ret p l e room_1 s m #[Value.ref b] below meth c (lw_Z below #[Value.ref b] s) G xs (b, []) (fun q : Nat => s.heap.size ≤ q) code (some .boolean) 600000 7302250 zx_kl := by
    intro r hp st u w pc ls vs H locs as hk hu hw hσ hS hHP hend
    have hk : r = 8 := Nat.eq_of_beq_eq_true hk
    subst hk
    rcases hend with ⟨q, -⟩ | ⟨-, x, rfl, hv, -, hd⟩ | ⟨-, x, rfl, hv, -⟩
    · exact absurd q (by decide)
    · have hv := (zr_0 rfl).mp hv
      rw [hv]
      exact va_forget hS.2.2 (W.widen (k := 600000) (n := 7302250) hu hw (lw_ret hx hb hr hlocks hd))
    · have hv := (zr_0 rfl).mp hv
      cases hv
  have hkn : zr_KK p l e room_1 s m #[Value.ref b] below meth c (lw_Z below #[Value.ref b] s) G xs (b, []) (fun q : Nat => s.heap.size ≤ q) 4 zx_kn := fun _ _ _ _ _ _ _ _ _ _ _ q => absurd q Bool.false_ne_true
  have hscr : zk_scr s xs (b, []) (fun q : Nat => s.heap.size ≤ q) (L + 1) := fun _ => ⟨L, xs, rfl, by omega, hX, hbl, hbA, fun _ _ => rfl⟩
  refine IH p e room_1 s m #[Value.ref b] below meth c (lw_Z below #[Value.ref b] s) (b, []) (fun q : Nat => s.heap.size ≤ q) 9999 ⟨"StubHouseLaw", "law", "([I)Z"⟩ code 4 (some .boolean) ztb_law 13 554 600000 7302250 0 18 zx_kl zx_k18 0 [(0, 10)] [] (0, []) [] 0 0 s.heap [] ls [] zv_e hro hCx hR (Nat.zero_le _) (Nat.zero_le _) (fun q => absurd rfl q) hret ?_ ⟨fun q h => (List.not_mem_nil h).elim, va_S.rf, [], ⟨[], [], hK, ⟨rfl, rfl, fun k hk => absurd hk (Nat.not_lt_zero k), List.prefix_refl []⟩, hP, hD⟩, ⟨_, hl, ⟨rfl, (zr_2' rfl).mpr (Or.inr ⟨rfl, rfl⟩)⟩, trivial⟩, trivial⟩
  intro pc lv stk hp st u w H locs ls vs hk rr
  obtain ⟨e1, e2, e3, e4, e5, e6, e7⟩ := zx_k18_ok hk
  subst e1
  subst e2
  subst e3
  subst e4
  subst e5
  refine W.widen (k := 1142) (n := 666482) e6 e7 ?_
  by_cases hL5 : L < 5
  · exact IH p e room_1 s m #[Value.ref b] below meth c (lw_Z below #[Value.ref b] s) (b, []) (fun q : Nat => s.heap.size ≤ q) 9999 ⟨"StubHouseLaw", "law", "([I)Z"⟩ code 4 (some .boolean) ztb_law 13 554 600000 7302250 (L + 1) 99999 zx_kl zx_kn 18 zx_lv0 [] zx_h0 [] 1142 666482 H locs ls vs (zv_len L hL5) hro hCx hR (by decide) (by decide) hscr hret hkn rr
  have hL6 : L + 1 = 6 := by omega
  rw [hL6] at hscr
  refine IH p e room_1 s m #[Value.ref b] below meth c (lw_Z below #[Value.ref b] s) (b, []) (fun q : Nat => s.heap.size ≤ q) 9999 ⟨"StubHouseLaw", "law", "([I)Z"⟩ code 4 (some .boolean) ztb_law 13 554 600000 7302250 6 32 zx_kl zx_k32 18 zx_lv0 [] zx_h0 [] 1142 666482 H locs ls vs zv_18 hro hCx hR (by decide) (by decide) hscr hret ?_ rr
  intro pc lv stk hp st u w H locs ls vs hk rr
  obtain ⟨e1, e2, ⟨k, hk32, e3⟩, e4, e5, e6, e7⟩ := zx_k32_ok hk
  subst e1
  subst e2
  subst e3
  subst e4
  subst e5
  refine W.widen (k := 1142) (n := 666482) e6 e7 ?_
  exact IH p e room_1 s m #[Value.ref b] below meth c (lw_Z below #[Value.ref b] s) (b, []) (fun q : Nat => s.heap.size ≤ q) 9999 ⟨"StubHouseLaw", "law", "([I)Z"⟩ code 4 (some .boolean) ztb_law 13 554 600000 7302250 6 99999 zx_kl zx_kn 32 zx_lv0 [8 * k] zx_h0 [] 1142 666482 H locs ls vs (zv_case k hk32) hro hCx hR (by decide) (by decide) hscr hret hkn rr
set_option maxHeartbeats 4000000 in
theorem lw_walk (l : Launch) (b : Addr) (xs : List Int32) : MetFree l x (headSpec (Jvm.Cond.code x code maxLocals ret :: tables_1) room_1) (lw_P b xs) (fun _ _ _ _ _ => True) lw_Q := by
  refine MetFree.of_bodyS (code := code) (maxLocals := maxLocals) (ret := ret) (by decide) ?_ ?_
  · intro args s m h hn
    obtain ⟨meth, c, h1, h2, h3, h4, h5, h6, -, -⟩ := Cond.code_spec hn (atoms_spec (ws := Jvm.Cond.code x code maxLocals ret :: tables_1) h _ List.mem_cons_self)
    exact ⟨meth, c, h1, h2, h3, h4, h5, h6⟩
  · intro p e s m args below meth c s₁ B hml0 hP _
    obtain ⟨rfl, hx, hbd, hgv⟩ := hP
    obtain ⟨scr, harrAt, hlist, hof, hsmall⟩ := hx
    obtain ⟨hcb, hkn, -, -⟩ := State.arrayAt?_spec harrAt
    have hown : s.vm.findClass R_law = some m.cls := findClass_of_methodNamed B.named
    have hts0 : ∀ c ∈ (Jvm.Cond.code x code maxLocals ret :: tables_1), c.before #[Value.ref b] s = true := atoms_spec (ws := Jvm.Cond.code x code maxLocals ret :: tables_1) B.pre
    have hts : ∀ w ∈ lw_tbl, w.before #[Value.ref b] s = true := k2_hts_sels lw_privs (fun w hw => hts0 w (List.mem_cons_of_mem _ hw)) lw_privs_ok
    have hml : c.maxLocals = 4 := B.maxLocals_eq (hts0 _ List.mem_cons_self)
    have X₀ : Stand p l e room_1 s m #[Value.ref b] below meth c s₁ [] 0 0 := Stand.of_body B
    have hh0 : s₁.heap = s.heap := by rw [B.state]; rfl
    have hsz : scr.slots.size = xs.length := by rw [← Array.length_toList, hlist, List.length_map]
    have hval : ∀ j : Nat, j < xs.length → scr.slots[j]? = some (.int (xs.getD j 0)) := fun j hj => by
      rw [← Array.getElem?_toList, hlist]
      simp [hj]
    have hbl : b < s.heap.size := (Array.getElem?_eq_some_iff.mp hcb).1
    have hX : va_X b xs.length (fun j => xs.getD j 0) s s.heap := ⟨scr, hcb, hof, hkn, hsz, hval⟩
    have K : W p l e room_1 s m #[Value.ref b] below meth c s₁.heap [] 0 0 (lw_Z below #[Value.ref b] s) (entryFrame m ([Value.ref b] : List Value).toArray 4) := by
      rw [hh0]
      exact whole_start l hbd ⟨B.exec, B.bytes, B.returns, hml, hown, hts, hX, hbl, B.notSynchronized, hgv⟩
    obtain ⟨t, a1, o, b1, b2, b3⟩ := K s₁ rfl X₀
    exact ⟨t, o, a1, b1, b2, b3⟩
theorem lw_pre_spec {args : Array Value} {s : State} (h : (Jvm.Cond.and given_1 narrow_1).before args s = true) (hr : rest_1_c.before args s = true) : ∃ (b : Addr) (xs : List Int32), lw_P b xs args s := by
  have hs := flat_of_before _ h
  have hq := flat_of_before _ hr
  have hc : (Cond.count 1).before args s = true := hs _ (by decide +kernel)
  have harr : (Cond.arrayOf (.arg 0) .int).before args s = true := hs _ (by decide +kernel)
  have hle : (Cond.le (.length (.arg 0)) (.int 5)).before args s = true := hs _ (by decide +kernel)
  have hlen : (Cond.isInt (.length (.arg 0))).before args s = true := hq _ (by decide +kernel)
  have hall : (Cond.all (.arg 0) (.isInt (.elem (.arg 0) (.index 0)))).before args s = true := hq _ (by decide +kernel)
  obtain ⟨b, xs, hb, hx⟩ := State.ints_of_pre rfl harr hlen hall
  have hsm : xs.length < 2 ^ 31 := hx.choose_spec.2.2.2
  have hev : (Term.length (.arg 0)).eval args s none [] s = some (.int xs.length.toInt32) := hx.length_eval hb
  have hv := Cond.le_ints hev (show (Term.int 5).eval args s none [] s = some (.int 5) from rfl)
  have hd : xs.length.toInt32 ≤ 5 := by
    simpa [Cond.before, Cond.holds, hv] using hle
  have hN : xs.length ≤ 5 := (Int32.ofNat_le_ofNat hsm (by decide)).mp (show Int32.ofNat xs.length ≤ Int32.ofNat 5 from hd)
  exact ⟨b, xs, Cond.one_arg hc (show args[0]? = some (.ref b) from hb), hx, hN, h⟩
theorem lw_comes (l : Launch) : Comes l x (Jvm.Cond.code x code maxLocals ret :: tables_1) room_1 (fun tb e args s => Calls_1 tb e args s ∧ rest_1 tb e args s ∧ Pre_1 tb e args s)
    (fun _ _ args s o t => lw_Q args s o t) := by
  intro p e ha hc hk s m args below hf hfit hheap happ hpre
  obtain ⟨b, xs, hP⟩ := lw_pre_spec hpre.2.2 hpre.2.1
  obtain ⟨k, o, h1, h2, h3, hQ⟩ := lw_walk l b xs p e ha hc hk s m args below hf ((Spec.applies_iff_loose hf).mp happ).1 hP trivial
  exact ⟨k, o, h1, h2, h3, hQ⟩
theorem lw_frame {s t : State} {o : Outcome} {args : Array Value} (h : Framed s o t [] 600000 7302250) :
    Framed s o t (fieldLocs frame_1_writes args s ++ arrayLocs frame_1_arrays args s ++ staticLocs frame_1_statics s) 600000 7302250 := h
theorem lw_limb (L : Cond) (hL : ∀ (args : Array Value) (s t : State), L.after args s (.returned (some (.int 1))) t = true) :
    ArmFor flags0 classFile x code maxLocals ret World_1 tables_1 room_1 Calls_1 rest_1 Pre_1
      (fun tb e a s o t => postC L tb e a s o t ∧ Framed s o t (fieldLocs frame_1_writes a s ++ arrayLocs frame_1_arrays a s ++ staticLocs frame_1_statics s) 600000 7302250) := by
  intro l _ _ _ p e ha hc hk s m args below hf hfit hheap happ hpre
  obtain ⟨k, o, h1, h2, h3, rfl, hF⟩ := lw_comes l p e ha hc hk s m args below hf hfit hheap happ hpre
  exact ⟨k, _, h1, h2, h3, hL args s _, lw_frame hF⟩
theorem i_vc : Claimed_1_1 ∧ Claimed_1_2 := ⟨lw_limb limb_1_1 (fun args s t => by simp [limb_1_1, Cond.after, Cond.holds, Cond.value]), lw_limb limb_1_2 (fun args s t => Cond.after_iff.mpr (by
  first | (rw [show limb_1_2 = Cond.eq .result (.int 1) from rfl, Cond.eq_ints (x := 1) (y := 1) rfl rfl]; simp; done) | (simp [limb_1_2, Cond.value, Term.eval]; done)))⟩
