/-! THE CLAIM OUT OF ONE WALK OF THE LAW'S BODY. Your part is whole_start (and what it stands on); all else here is the same for every law, but numbers. -/
def R_law : String := "StubHouseLaw"
def lw_P (b : Addr) (xs : List Int32) (args : Array Value) (s : State) : Prop := args = #[.ref b] ∧ s.IntsAt b xs ∧ xs.length ≤ 2560 ∧ (Jvm.Cond.and given_1 narrow_1).before args s = true
def lw_Q (_ : Array Value) (s : State) (o : Outcome) (t : State) : Prop := o = .returned (some (.int 1)) ∧ Framed s o t [] 600000 7302250
def lw_Z (below : List Frame) (a : Array Value) (s : State) : State → Prop := fun t => ∃ o, t.status = .running ∧ Ended t below o ∧ lw_Q a s o t
/-- the law's own end, with 1 on the stack, nothing written that was there before, its room as the claim has it -/
theorem lw_ret {p : Program} {l : Launch} {e : Env} {s : State} {m : MethodId} {below : List Frame} {meth : Method} {c : Code} {b : Nat} (hx : p.tables.exec = Jvm.exec) (hb : c.code = code) (hr : meth.sig.returnType = ret) (hlocks : meth.locks = false) {pc : Nat} {H : Heap} {ls : Array Slot} (hdg : decode code pc = .ok (.ireturn, 1)) : W p l e room_1 s m #[Value.ref b] below meth c H [] 600000 7302250 (lw_Z below #[Value.ref b] s) (F0 m pc ls [.int 1]) := by
  intro T hT X
  obtain ⟨fs, hret, hrun, hended, hW, hframe⟩ := X.leave (v := some (.int 1)) (hlocks := hlocks) (fun h => by rw [hr] at h; cases h)
  have hmeth' : T.vm.method? m = some meth := X.method'
  refine ⟨T.setFrames fs, ?_, .returned (some (.int 1)), hrun, hended, rfl, ⟨_, rfl⟩, hW, hframe⟩
  jvm_step X.here [X.here.top, hx, hb, hdg, hmeth', hr, ret, narrow_b1]
  (try refine ⟨rfl, ?_⟩); (try refine ⟨rfl, ?_⟩)
  first | (intro acts; rw [hret _ acts rfl rfl rfl]) | rw [hret _ _ rfl rfl rfl]
  exact Steps.refl _
/-- what holds at the law's entry: the machine, the code, the tables' words (any of lw_tbl by 'hts w (by decide +kernel)'), the script of L ints xs at the cell b, what the Statement gives of the start (any of its parts by flat_of_before) -/
def lw_At (p : Program) (s : State) (m : MethodId) (meth : Method) (c : Code) (b L : Nat) (xs : Nat → Int32) : Prop :=
  p.tables.exec = Jvm.exec ∧ c.code = code ∧ meth.sig.returnType = ret ∧ c.maxLocals = 4 ∧ s.vm.findClass R_law = some m.cls ∧ (∀ w ∈ lw_tbl, w.before #[Value.ref b] s = true) ∧ va_X b L xs s s.heap ∧ b < s.heap.size ∧ meth.locks = false ∧ (Jvm.Cond.and given_1 narrow_1).before #[Value.ref b] s = true
theorem zx_k18_ok {pc u w : Nat} {lv : zxLV} {stk : List Nat} {hp : zxHP} {st : zxST} (h : zx_k18 pc lv stk hp st u w = true) : pc = 18 ∧ lv = zx_lv0 ∧ stk = [] ∧ hp = zx_h0 ∧ st = [] ∧ u ≤ 1142 ∧ w ≤ 666482 := by
  obtain ⟨h1, h⟩ := Bool.and_eq_true_iff.mp (show and _ _ = true from h)
  obtain ⟨h2, h⟩ := Bool.and_eq_true_iff.mp h
  obtain ⟨h3, h⟩ := Bool.and_eq_true_iff.mp h
  obtain ⟨h4, h⟩ := Bool.and_eq_true_iff.mp h
  obtain ⟨h5, h⟩ := Bool.and_eq_true_iff.mp h
  obtain ⟨h6, h7⟩ := Bool.and_eq_true_iff.mp h
  refine ⟨Nat.eq_of_beq_eq_true h1, of_decide_eq_true h2, ?_, @of_decide_eq_true _ (zx_de5 hp zx_h0) h4, ?_, Nat.le_of_ble_eq_true h6, Nat.le_of_ble_eq_true h7⟩
  · rcases stk with _ | ⟨x, r⟩
    · rfl
    · exact absurd h3 Bool.false_ne_true
  · rcases st with _ | ⟨x, r⟩
    · rfl
    · exact absurd h5 Bool.false_ne_true
theorem e_50 : zx_G zx_h0 (fx_flat 50 0) = (1, 2561, [0], [(1, 34359738360), (0, 8)]) := by rfl
theorem e_53 : zx_G zx_h0 (fx_flat 53 0) = (1, 514761, [0], [(1, 34359738360), (0, 8)]) := by rfl
theorem e_65 : zx_G zx_h0 (fx_flat 65 0) = (1, 14400, [0], []) := by rfl
theorem s0_nw {n : Nat} (k : Nat) : zx_sI (s0_c (1, n, [0], [(1, 34359738360), (0, 8)]) k / 8) = nw0 k := by
  have e : s0_c (1, n, [0], [(1, 34359738360), (0, 8)]) k = if 1 = k then 34359738360 else if 0 = k then 8 else 0 := by
    show zx_A [(1, 34359738360), (0, 8)] 0 k = _
    rw [zx_A_cons, zx_A_cons]; rfl
  rw [e]
  unfold nw0
  by_cases h1 : 1 = k
  · subst h1; decide
  · rw [if_neg h1]
    by_cases h0 : 0 = k
    · subst h0; decide
    · rw [if_neg h0, if_neg (fun q => h0 q.symm), if_neg (fun q => h1 q.symm)]; decide
set_option maxRecDepth 20000 in
theorem S0_32 : ∀ t, t < 6 → S0 32 t 5 ≤ 0 := by decide +kernel
set_option maxRecDepth 20000 in
theorem S0_4 : ∀ m : Nat, m < 60 → 1 ≤ m → S0 4 m 0 = 0 ∧ S0 4 m 1 = 0 := by decide +kernel
set_option maxRecDepth 20000 in
theorem S0_one : (S0 26 0 3 ≠ 1 ∧ S0 4 0 0 = 1 ∧ S0 4 0 1 = 0 ∧ S0 13 0 6 = 0 ∧ S0 0 0 10 ≠ 1 ∧ S0 40 0 2 = 0) ∧ (S0 49 0 7 = 0 ∧ S0 49 0 36 = 0 ∧ S0 49 0 15 = 0 ∧ S0 72 0 0 = 0 ∧ S0 72 0 1 = 0) := by decide +kernel
set_option maxRecDepth 20000 in
theorem LEQ_S0 : LEQ S0 := by
  unfold LEQ
  decide +kernel
theorem INV_S0 : INV S0 := by
  obtain ⟨⟨a1, a2, a3, a4, a5, a6⟩, ⟨b1, b2, b3, b4, b5⟩⟩ := S0_one
  refine INV_0 S0_32 a1 a2 a3 (fun m h1 h2 => S0_4 m h2 h1) a4 a5 a6 (fun k _ => ?_) (fun k _ => ?_) b1 b2 b3 b4 b5 (fun k _ => ?_)
  · show zx_sI (s0_c (zx_G zx_h0 (fx_flat 50 0)) k / 8) = _
    rw [e_50]; exact s0_nw k
  · show zx_sI (s0_c (zx_G zx_h0 (fx_flat 53 0)) k / 8) = _
    rw [e_53]; exact s0_nw k
  · show zx_sI (s0_c (zx_G zx_h0 (fx_flat 65 0)) k / 8) = _
    rw [e_65, show s0_c (1, 14400, [0], []) k = 0 from rfl]; decide
abbrev lw_lv (b : Nat) (i : Int) : fxL := [some (.inr (.inr (1000 + b, 0))), some (.inr (.inr (0, 0))), some (.inr (.inr (49, 0))), some (.inl i)]
section LL
variable {p : Program} {l : Launch} {e : Env} {R : Room} {s : State} {m : MethodId} {args : Array Value} {below : List Frame} {meth : Method} {c : Code} {Q : State → Prop} {G : va_G} {A : Nat → Prop} {as : List Nat} {b LN cu cw : Nat} {xs : Nat → Int32}
/-- the law's loop, from any place of the script on -/
theorem law_loop (hCx : zk_Cx p s m args meth c A ⟨"StubHouseLaw", "law", "([I)Z"⟩ code 4) (hR : R.frames = 13 ∧ R.locals = 552) (hcu : cu ≤ R.cells) (hcw : cw ≤ R.slots) (hX : va_X b LN xs s s.heap) (hbz : b < s.heap.size) (hbA : ¬ A b) (hLN : LN < 2147483648)
    (hret : ∀ (pc : Nat) (ls : Array Slot) (H : Heap) (locs : List Loc), va_S A s.heap H locs → decode code pc = .ok (.ireturn, 1) → W p l e R s m args below meth c H locs cu cw Q (F0 m pc ls [.int 1])) :
    ∀ (n : Nat) (i : Int) (S : fxS), (2147483648 - i).toNat ≤ n → 0 ≤ i → INV S → LEQ S → lw_K p l e R s m args below meth c Q G A as cu cw 18 (lw_lv b i) [] S := by
  intro n
  induction n with
  | zero =>
    intro i S hn hi hI hm H locs ls vs r
    obtain ⟨-, -, ⟨lv', -, hlv⟩, -⟩ := r
    obtain ⟨w, -, -, h1, h2⟩ := hlv 3 (.inl i) rfl
    omega
  | succ n ih =>
    intro i S hn hi hI hm
    by_cases hb : i < 2147483648
    · refine fxL_ok (b := b) (LN := LN) (xs := xs) (cuts := [(18, [0, 1, 2, 3])]) zk_C_ok fl_ro fl_hop hCx hR (by decide) hcu hcw hX hbz hbA hLN hret 400 18 (lw_lv b i) [] S ?_
      refine law_body hI hm ⟨hi, hb⟩ ⟨by omega, by omega⟩ (fun j S' h1 h2 hI' hm' => ?_) (fun S' _ => rfl)
      exact ih j S' (by omega) (by omega) hI' hm'
    · intro H locs ls vs r
      obtain ⟨-, -, ⟨lv', -, hlv⟩, -⟩ := r
      obtain ⟨w, -, -, h1, h2⟩ := hlv 3 (.inl i) rfl
      omega
end LL
theorem lw_lv0 {G : va_G} {σ : Nat → Int32} {A : Nat → Prop} {s : State} {b : Nat} {as : List Nat} {H : Heap} {lv' : List (Nat × Value)} (hHP : zr_HP G σ (b, []) s A as zx_h0 H) (h : zr_LV σ (b, []) as zx_lv0 lv') : ∀ i v, fx_lk (lw_lv b 0) i = some v → ∃ w, (i, w) ∈ lv' ∧ fr_v as v w := by
  obtain ⟨tys, ws, -, hW, -, -⟩ := hHP
  have at0 : ∀ g : Nat, 0 < fx_ct g → ∀ q, as[fx_flat g 0]? = some q → fr_at as (g, 0) = some q := fun g h q hq => by
    unfold fr_at
    rw [if_pos (show (g, 0).2 < fx_ct (g, 0).1 from h)]
    exact hq
  intro i v hv
  match i, hv with
  | 0, hv =>
    cases hv
    obtain ⟨w, k1, k2⟩ := zr_LV_get (c := 10) (by decide) h (a := 0) rfl
    rcases (zr_2' rfl).mp k2 with ⟨q, -⟩ | ⟨-, q⟩
    · exact absurd q (by decide)
    · exact ⟨w, k1, b, fr_at_sc b, q⟩
  | 1, hv =>
    cases hv
    obtain ⟨w, k1, k2⟩ := zr_LV_get (c := 3) (by decide) h (a := 1) rfl
    obtain ⟨q, k3, k4⟩ := (zr_3 rfl).mp k2
    exact ⟨w, k1, q, at0 0 (by decide +kernel) q k3, k4⟩
  | 2, hv =>
    cases hv
    obtain ⟨w, k1, k2⟩ := zr_LV_get (c := 8891) (by decide) h (a := 2) rfl
    obtain ⟨q, k3, k4⟩ := (zr_3 rfl).mp k2
    exact ⟨w, k1, q, at0 49 (by decide +kernel) q k3, k4⟩
  | 3, hv =>
    cases hv
    obtain ⟨w, k1, k2⟩ := zr_LV_get (c := 0) (by decide) h (a := 3) rfl
    exact ⟨w, k1, (zr_0 rfl).mp k2, by decide, by decide⟩
  | i + 4, hv => cases hv
/-- from the entry, for every script of at most 2560 ints, the law comes to its end with true -/
theorem whole_start {p : Program} {e : Env} {s : State} {m : MethodId} {below : List Frame} {meth : Method} {c : Code} (l : Launch) {b L : Nat} {xs : Nat → Int32} (hL : L ≤ 2560) (C0 : lw_At p s m meth c b L xs) : W p l e room_1 s m #[Value.ref b] below meth c s.heap [] 0 0 (lw_Z below #[Value.ref b] s) (entryFrame m ([Value.ref b] : List Value).toArray 4) := by
  obtain ⟨hx, hb, hr, hml, hown, hts, hX, hbl, hlocks, hgv⟩ := id C0
  obtain ⟨G, hK⟩ := zk_G_of hts
  have hP : va_P G vwCl [] s.heap := fun k q h => by simp at h
  have hD : va_D (fun q : Nat => s.heap.size ≤ q) [] := ⟨fun i j p q h => by simp at h, fun k q h => by simp at h⟩
  have hbA : ¬ (fun q : Nat => s.heap.size ≤ q) b := Nat.not_le.mpr hbl
  have hl := lv_entry ([.ref b]) (n := 4) (Nat.le_of_ble_eq_true rfl)
  rw [lg_entry_eq]
  generalize (lg_sl ([.ref b]) ++ List.replicate (4 - (lg_sl ([.ref b])).length) Slot.unset).toArray = ls at hl ⊢
  have hl : lv_has ls 4 [(0, .ref b)] := hl
  have IH := zx_ok zk_C_ok (zk_MS_ok zn_all) (zk_Ps_ok zk_C_ok) l G 200000 xs
  have hro := zk_law_ro zn_all
  have hCx : zk_Cx p s m #[Value.ref b] meth c (fun q : Nat => s.heap.size ≤ q) ⟨"StubHouseLaw", "law", "([I)Z"⟩ code 4 := ⟨hx, hb, hml, hown, fun w hw => hts w (List.mem_filter.mp hw).1, fun q => absurd q (by decide), fun _ h => h, zk_N_of hts⟩
  have hR : room_1.frames = 13 ∧ room_1.locals = 552 ∧ room_1.cells = 600000 ∧ room_1.slots = 7302250 := ⟨rfl, rfl, rfl, rfl⟩
  have hret : zk_ret p l e room_1 s m #[Value.ref b] below meth c (lw_Z below #[Value.ref b] s) G xs (b, []) (fun q : Nat => s.heap.size ≤ q) code (some .boolean) 600000 7302250 zx_kl := by
    intro r hp st u w pc ls vs H locs as hk hu hw hσ hS hHP hend
    have hk : r = 8 := Nat.eq_of_beq_eq_true hk
    subst hk
    rcases hend with ⟨q, -⟩ | ⟨-, x, rfl, hv, -, hd⟩ | ⟨-, x, rfl, hv, -⟩
    · exact absurd q (by decide)
    · have hv := (zr_0 rfl).mp hv
      rw [hv]
      exact va_forget hS.2.2 (W.widen (k := 600000) (n := 7302250) hu hw (lw_ret hx hb hr hlocks hd))
    · have hv := (zr_0 rfl).mp hv
      cases hv
  refine IH p e room_1 s m #[Value.ref b] below meth c (lw_Z below #[Value.ref b] s) (b, []) (fun q : Nat => s.heap.size ≤ q) 9999 ⟨"StubHouseLaw", "law", "([I)Z"⟩ code 4 (some .boolean) ztb_law 13 552 600000 7302250 0 18 zx_kl zx_k18 0 [(0, 10)] [] (0, []) [] 0 0 s.heap [] ls [] zv_e hro hCx hR (Nat.zero_le _) (Nat.zero_le _) (fun q => absurd rfl q) hret ?_ ⟨fun q h => (List.not_mem_nil h).elim, va_S.rf, [], ⟨[], [], hK, ⟨rfl, rfl, fun k hk => absurd hk (Nat.not_lt_zero k), List.prefix_refl []⟩, hP, hD⟩, ⟨_, hl, ⟨rfl, (zr_2' rfl).mpr (Or.inr ⟨rfl, rfl⟩)⟩, trivial⟩, trivial⟩
  intro pc lv stk hp st u w H locs ls vs hk rr
  obtain ⟨e1, e2, e3, e4, e5, e6, e7⟩ := zx_k18_ok hk
  subst e1
  subst e2
  subst e3
  subst e4
  subst e5
  refine W.widen (k := 1142) (n := 666482) e6 e7 ?_
  obtain ⟨-, hS, as, hHP, ⟨lv', hlv, hLV⟩, hV⟩ := rr
  rcases vs with _ | ⟨v, vs⟩
  · refine law_loop (Q := lw_Z below #[Value.ref b] s) (G := G) (as := as) (xs := xs) (LN := L) hCx ⟨rfl, rfl⟩ (by decide) (by decide) hX hbl hbA (by omega) (fun pc ls H locs hS hd => ?_) 2147483648 0 S0 (by omega) (by omega) INV_S0 LEQ_S0 H locs ls [] ⟨hS, s0_HP hHP, ⟨lv', hlv, lw_lv0 hHP hLV⟩, trivial⟩
    exact va_forget hS.2.2 (W.widen (k := 600000) (n := 7302250) (by decide) (by decide) (lw_ret hx hb hr hlocks hd))
  · exact hV.elim
set_option maxHeartbeats 4000000 in
theorem lw_walk (l : Launch) (b : Addr) (xs : List Int32) : MetFree l x (headSpec (Jvm.Cond.code x code maxLocals ret :: tables_1) room_1) (lw_P b xs) (fun _ _ _ _ _ => True) lw_Q := by
  refine MetFree.of_bodyS (code := code) (maxLocals := maxLocals) (ret := ret) (by decide) ?_ ?_
  · intro args s m h hn
    obtain ⟨meth, c, h1, h2, h3, h4, h5, h6, -, -⟩ := Cond.code_spec hn (atoms_spec (ws := Jvm.Cond.code x code maxLocals ret :: tables_1) h _ List.mem_cons_self)
    exact ⟨meth, c, h1, h2, h3, h4, h5, h6⟩
  · intro p e s m args below meth c s₁ B hml0 hP _
    obtain ⟨rfl, hx, hbd, hgv⟩ := hP
    obtain ⟨scr, harrAt, hlist, hof, hsmall⟩ := hx
    obtain ⟨hcb, hkn, -, -⟩ := State.arrayAt?_spec harrAt
    have hown : s.vm.findClass R_law = some m.cls := findClass_of_methodNamed B.named
    have hts0 : ∀ c ∈ (Jvm.Cond.code x code maxLocals ret :: tables_1), c.before #[Value.ref b] s = true := atoms_spec (ws := Jvm.Cond.code x code maxLocals ret :: tables_1) B.pre
    have hts : ∀ w ∈ lw_tbl, w.before #[Value.ref b] s = true := k2_hts_sels lw_privs (fun w hw => hts0 w (List.mem_cons_of_mem _ hw)) lw_privs_ok
    have hml : c.maxLocals = 4 := B.maxLocals_eq (hts0 _ List.mem_cons_self)
    have X₀ : Stand p l e room_1 s m #[Value.ref b] below meth c s₁ [] 0 0 := Stand.of_body B
    have hh0 : s₁.heap = s.heap := by rw [B.state]; rfl
    have hsz : scr.slots.size = xs.length := by rw [← Array.length_toList, hlist, List.length_map]
    have hval : ∀ j : Nat, j < xs.length → scr.slots[j]? = some (.int (xs.getD j 0)) := fun j hj => by
      rw [← Array.getElem?_toList, hlist]
      simp [hj]
    have hbl : b < s.heap.size := (Array.getElem?_eq_some_iff.mp hcb).1
    have hX : va_X b xs.length (fun j => xs.getD j 0) s s.heap := ⟨scr, hcb, hof, hkn, hsz, hval⟩
    have K : W p l e room_1 s m #[Value.ref b] below meth c s₁.heap [] 0 0 (lw_Z below #[Value.ref b] s) (entryFrame m ([Value.ref b] : List Value).toArray 4) := by
      rw [hh0]
      exact whole_start l hbd ⟨B.exec, B.bytes, B.returns, hml, hown, hts, hX, hbl, B.notSynchronized, hgv⟩
    obtain ⟨t, a1, o, b1, b2, b3⟩ := K s₁ rfl X₀
    exact ⟨t, o, a1, b1, b2, b3⟩
theorem lw_pre_spec {args : Array Value} {s : State} (h : (Jvm.Cond.and given_1 narrow_1).before args s = true) (hr : rest_1_c.before args s = true) : ∃ (b : Addr) (xs : List Int32), lw_P b xs args s := by
  have hs := flat_of_before _ h
  have hq := flat_of_before _ hr
  have hc : (Cond.count 1).before args s = true := hs _ (by decide +kernel)
  have harr : (Cond.arrayOf (.arg 0) .int).before args s = true := hs _ (by decide +kernel)
  have hle : (Cond.le (.length (.arg 0)) (.int 2560)).before args s = true := hs _ (by decide +kernel)
  have hlen : (Cond.isInt (.length (.arg 0))).before args s = true := hq _ (by decide +kernel)
  have hall : (Cond.all (.arg 0) (.isInt (.elem (.arg 0) (.index 0)))).before args s = true := hq _ (by decide +kernel)
  obtain ⟨b, xs, hb, hx⟩ := State.ints_of_pre rfl harr hlen hall
  have hsm : xs.length < 2 ^ 31 := hx.choose_spec.2.2.2
  have hev : (Term.length (.arg 0)).eval args s none [] s = some (.int xs.length.toInt32) := hx.length_eval hb
  have hv := Cond.le_ints hev (show (Term.int 2560).eval args s none [] s = some (.int 2560) from rfl)
  have hd : xs.length.toInt32 ≤ 2560 := by
    simpa [Cond.before, Cond.holds, hv] using hle
  have hN : xs.length ≤ 2560 := (Int32.ofNat_le_ofNat hsm (by decide)).mp (show Int32.ofNat xs.length ≤ Int32.ofNat 2560 from hd)
  exact ⟨b, xs, Cond.one_arg hc (show args[0]? = some (.ref b) from hb), hx, hN, h⟩
theorem lw_comes (l : Launch) : Comes l x (Jvm.Cond.code x code maxLocals ret :: tables_1) room_1 (fun tb e args s => Calls_1 tb e args s ∧ rest_1 tb e args s ∧ Pre_1 tb e args s)
    (fun _ _ args s o t => lw_Q args s o t) := by
  intro p e ha hc hk s m args below hf hfit hheap happ hpre
  obtain ⟨b, xs, hP⟩ := lw_pre_spec hpre.2.2 hpre.2.1
  obtain ⟨k, o, h1, h2, h3, hQ⟩ := lw_walk l b xs p e ha hc hk s m args below hf ((Spec.applies_iff_loose hf).mp happ).1 hP trivial
  exact ⟨k, o, h1, h2, h3, hQ⟩
theorem lw_frame {s t : State} {o : Outcome} {args : Array Value} (h : Framed s o t [] 600000 7302250) :
    Framed s o t (fieldLocs frame_1_writes args s ++ arrayLocs frame_1_arrays args s ++ staticLocs frame_1_statics s) 600000 7302250 := h
theorem lw_limb (L : Cond) (hL : ∀ (args : Array Value) (s t : State), L.after args s (.returned (some (.int 1))) t = true) :
    ArmFor flags0 classFile x code maxLocals ret World_1 tables_1 room_1 Calls_1 rest_1 Pre_1
      (fun tb e a s o t => postC L tb e a s o t ∧ Framed s o t (fieldLocs frame_1_writes a s ++ arrayLocs frame_1_arrays a s ++ staticLocs frame_1_statics s) 600000 7302250) := by
  intro l _ _ _ p e ha hc hk s m args below hf hfit hheap happ hpre
  obtain ⟨k, o, h1, h2, h3, rfl, hF⟩ := lw_comes l p e ha hc hk s m args below hf hfit hheap happ hpre
  exact ⟨k, _, h1, h2, h3, hL args s _, lw_frame hF⟩
theorem i_vc : Claimed_1_1 ∧ Claimed_1_2 := ⟨lw_limb limb_1_1 (fun args s t => by simp [limb_1_1, Cond.after, Cond.holds, Cond.value]), lw_limb limb_1_2 (fun args s t => Cond.after_iff.mpr (by
  first | (rw [show limb_1_2 = Cond.eq .result (.int 1) from rfl, Cond.eq_ints (x := 1) (y := 1) rfl rfl]; simp; done) | (simp [limb_1_2, Cond.value, Term.eval]; done)))⟩
