section ZQ4
variable {p : Program} {l : Launch} {e : Env} {R : Room} {s : State} {m : MethodId} {args : Array Value} {below : List Frame} {meth : Method} {c : Code} {Q : State → Prop} {G : va_G} {A : Nat → Prop} {u w : Nat} {H : Heap} {locs : List Loc} {ls : Array Slot}
/-- a call that changes nothing -/
theorem zq_quiet {pc : Nat} {v0 : Option Value} {vs0 rest : List Value} (hr : va_Run p l e R s m args below meth c H locs u w 0 0 (F0 m pc ls vs0) rest (fun st0 oc t => oc = .returned v0 ∧ t.heap = st0.heap) (fun _ => False)) (kk : W p l e R s m args below meth c H locs u w Q (F0 m (pc + 3) ls (v0.toList ++ rest))) : W p l e R s m args below meth c H locs u w Q (F0 m pc ls vs0) := by
  intro T hT X
  obtain ⟨v, st₀, t, T', L, h0, X', hLL, e1, e2, ⟨k1, k2⟩, stp⟩ := hr T hT X
  cases k1
  have hLn : L = [] := by
    rcases L with _ | ⟨x0, L⟩
    · rfl
    · exact (hLL x0 List.mem_cons_self).elim
  subst hLn
  rw [List.append_nil] at X'
  obtain ⟨t2, a1, b1⟩ := kk T' (by rw [e1, k2, h0]) X'
  exact ⟨t2, stp t2 a1, b1⟩
/-- Stores.claim of a number below 0 -/
theorem zq_claim_met (l : Launch) (q : Nat) (x : Int32) (hx0 : x < 0) : Met l ⟨"StubHouse$Stores", "claim", "(I)V"⟩ (Cond.code ⟨"StubHouse$Stores", "claim", "(I)V"⟩ prog_9_method_6_code 2 none :: zk_T) { frames := 0, cells := 0, slots := 0, locals := 0 } (va_Pc [.ref q, .int x] (fun _ => True)) (fun _ st0 oc t => oc = .returned none ∧ t.heap = st0.heap) 0 0 (fun _ => False) := by
  refine Met.ofW (cc := prog_9_method_6_code) (maxL := 2) (ret := none) (by decide) rfl ?_
  intro p e s m args below meth c s₁ B hml hv
  obtain ⟨rfl, -⟩ := hv
  have hx := B.exec
  have hb := B.bytes
  have hr := B.returns
  have hlocks : meth.locks = false := B.notSynchronized
  have hl := lv_entry ([.ref q, .int x]) (n := 2) (Nat.le_of_ble_eq_true rfl)
  rw [lg_entry_eq]
  generalize (lg_sl ([.ref q, .int x]) ++ List.replicate (2 - (lg_sl ([.ref q, .int x])).length) Slot.unset).toArray = ls at hl ⊢
  have hl : lv_has ls 2 [(0, .ref q), (1, .int x)] := hl
  refine lv_iload_n hx hb (k := 1) (by decide +kernel) rfl (lv_at hl 1 rfl) ?_
  refine lv_if_lt (tgt := 20) (off := 19) hx hb (by decide +kernel) (by decide) (fun _ => ?_) (fun q => absurd hx0 q)
  exact W.vret hx hb hr (fun t ht _ => ⟨rfl, ht⟩) (fun q h => by cases h) (by decide +kernel)
theorem zq_claim_loop (hC : zk_C) (hx : p.tables.exec = Jvm.exec) (hb : c.code = prog_5_method_11_code) (hml : c.maxLocals = 3) (hts : ∀ w ∈ zk_T, w.before args s = true) (hown : s.vm.findClass "StubHouse$Log" = some m.cls) (hfr : 1 ≤ R.frames) (hlo : 60 ≤ R.locals) (hu : u ≤ R.cells) (hw : w ≤ R.slots) {tys : List (ClassId × FieldType)} {ws : va_W} {kl ks kt ka kn kh ql qs qt qa qn qh ta th n : Nat} {cA cH : ClassId} {fl fst ft fn : List Value} {fa : Nat → Option Nat} {fh : Nat → Int32} (hK : va_K G vwCl tys s) (hP : va_P G vwCl ws H) (hD : va_D A ws) (hS : va_S A s.heap H locs)
    (hel : ws[kl]? = some (ql, .inr (2, fl))) (h1 : fl[1]? = some (.ref qs)) (h0 : fl[0]? = some (.ref qt)) (hes : ws[ks]? = some (qs, .inr (6, fst))) (het : ws[kt]? = some (qt, .inr (8, ft))) (ht0 : ft[0]? = some (.ref qa)) (hea : ws[ka]? = some (qa, .inl (cA, 60, .inr (.inr (.inr (.inr fa)))))) (hta : tys[ta]? = some (cA, .object "StubHouse$Node")) (hn : n < 60) (hfa : fa n = some qn) (hen : ws[kn]? = some (qn, .inr (4, fn))) (hn10 : fn[10]? = some (.ref qh)) (heh : ws[kh]? = some (qh, .inl (cH, 32, .inl fh))) (hth : tys[th]? = some (cH, .int)) (hfh : ∀ j, j < 32 → fh j < 0)
    (kk : ∀ ls : Array Slot, lv_has ls 3 [(2, .int (nI 32)), (0, .ref ql), (1, .int (nI n))] → W p l e R s m args below meth c H locs u w Q (F0 m 50 ls [])) :
    ∀ (k i : Nat) (ls : Array Slot), i + k = 32 → lv_has ls 3 [(2, .int (nI i)), (0, .ref ql), (1, .int (nI n))] → W p l e R s m args below meth c H locs u w Q (F0 m 17 ls []) := by
  have hinL := (hC 2 _ _ _ rfl).1
  have hinT := (hC 8 _ _ _ rfl).1
  have hinN := (hC 4 _ _ _ rfl).1
  intro k
  induction k with
  | zero =>
    intro i ls hi hl
    have hi : i = 32 := hi
    subst hi
    refine lv_iload_n hx hb (k := 2) (by decide +kernel) rfl (lv_at hl 0 rfl) ?_
    refine lv_bipush (v := nI 32) (n := 32) hx hb (by decide +kernel) (by decide) ?_
    refine lv_icmp_ge (tgt := 50) (off := 30) hx hb (by decide +kernel) (by decide) (fun _ => ?_) (fun q => absurd (Int32.le_refl _) q)
    exact kk ls hl
  | succ k ih =>
    intro i ls hi hl
    have hin2 : i < 32 := by omega
    refine lv_iload_n hx hb (k := 2) (by decide +kernel) rfl (lv_at hl 0 rfl) ?_
    refine lv_bipush (v := nI 32) (n := 32) hx hb (by decide +kernel) (by decide) ?_
    refine lv_icmp_ge (tgt := 50) (off := 30) hx hb (by decide +kernel) (by decide) (fun q => absurd q (nI_ge hin2 (by decide))) (fun _ => ?_)
    refine lv_aload_n hx hb (k := 0) (by decide +kernel) rfl (lv_at hl 1 rfl) ?_
    refine va_get (ref := "StubHouse$Log") hx hb hts hinL hown hK hP kl hel rfl 1 (by decide) (hts (.fieldLink "StubHouse$Log" 38 "StubHouse$Log" "stores" "LStubHouse$Stores;") (zk_h_eq (n := 203) (by decide +kernel) rfl rfl)) (fun _ h9 => h9) h1 (by decide +kernel) ?_
    refine lv_aload_n hx hb (k := 0) (by decide +kernel) rfl (lv_at hl 1 rfl) ?_
    refine va_get (ref := "StubHouse$Log") hx hb hts hinL hown hK hP kl hel rfl 0 (by decide) (hts (.fieldLink "StubHouse$Log" 34 "StubHouse$Log" "tree" "LStubHouse$Tree;") (zk_h_eq (n := 202) (by decide +kernel) rfl rfl)) (fun _ h9 => h9) h0 (by decide +kernel) ?_
    refine va_get (ref := "StubHouse$Tree") hx hb hts hinT hown hK hP kt het rfl 0 (by decide) (hts (.fieldLink "StubHouse$Log" 57 "StubHouse$Tree" "nodes" "[LStubHouse$Node;") (zk_h_eq (n := 135) (by decide +kernel) rfl rfl)) (fun _ h9 => h9) ht0 (by decide +kernel) ?_
    refine lv_iload_n hx hb (k := 1) (by decide +kernel) rfl (lv_at hl 2 rfl) ?_
    refine va_aldq hx hb hK hP ka ta hea hta (vp_in_nI hn (by decide)) (by decide +kernel) ?_
    rw [nI_clamp (by omega : n < 2 ^ 31), hfa]
    refine va_get (ref := "StubHouse$Node") hx hb hts hinN hown hK hP kn hen rfl 10 (by decide) (hts (.fieldLink "StubHouse$Log" 94 "StubHouse$Node" "home" "[I") (zk_h_eq (n := 95) (by decide +kernel) rfl rfl)) (fun _ h9 => h9) hn10 (by decide +kernel) ?_
    refine lv_iload_n hx hb (k := 2) (by decide +kernel) rfl (lv_at hl 0 rfl) ?_
    refine va_iald hx hb hK hP kh th heh hth (vp_in_nI hin2 (by decide)) (by decide +kernel) ?_
    rw [nI_clamp (by omega : i < 2 ^ 31)]
    refine zq_quiet (v0 := none) (rest := []) (va_runV (As := [.int (fh i)]) (C := "StubHouse$Stores") (index := 97) ⟨hx, hb, hml, hown, hts⟩ (zq_claim_met l qs (fh i) (hfh i hin2)) (bytes := prog_9_method_6_code) (maxL := 2) (ret := none) (n := 1) ⟨callB_of 1 hts (zk_good (fun w h => h) (fun w hw => by rcases List.mem_cons.mp hw with rfl | hw; exact zk_h_eq (n := 1328) (by decide +kernel) rfl rfl; exact hw)) rfl rfl rfl (hts _ (zk_h_eq (n := 5) (by decide +kernel) rfl rfl)) (hts _ (zk_h_eq (n := 1429) (by decide +kernel) rfl rfl)) (by decide +kernel) ⟨hfr, Nat.le_trans (by decide) hlo⟩, hts _ (zk_h_eq (n := 1326) (by decide +kernel) rfl rfl), hts _ (zk_h_eq (n := 1327) (by decide +kernel) rfl rfl)⟩ ⟨fun _ _ _ _ q => q, va_recv hK hP (ci := 6) (q0 := ks) rfl hes, fun _ _ _ => ⟨rfl, trivial⟩⟩ rfl rfl hl.1 rfl (lv_room (by decide)) (show decode prog_5_method_11_code 41 = .ok (.invokevirtual 97, 3) by decide +kernel) ⟨hu, hw⟩) ?_
    refine lv_iinc (k := 0) (v := nI (i + 1)) (lv' := [(2, .int (nI (i + 1))), (0, .ref ql), (1, .int (nI n))]) (n := 1) hx hb (by decide +kernel) hl rfl (nI_1 i) (by decide) rfl (fun ls hl => ?_)
    refine lv_goto (tgt := 17) (off := -30) hx hb (by decide +kernel) (by decide) ?_
    exact ih (i + 1) ls (by omega) hl
end ZQ4
/-- Log.claimHomes' inner loop, where a node has no blocks, as one instruction: at 17, on at 50 -/
noncomputable def zq_claim : zxHD := fun _ _ nxt _ lv stk hp st u w k => match stk with
  | [] => zx_F (zx_A lv 74 0) (fun c => zx_F (zx_A lv 74 1) (fun nc => cond (Nat.beq (c % 8) 3 && (Nat.beq (zx_A lv 74 2) 0 && (Nat.beq (nc % 8) 0 && Nat.blt (nc / 8) 60))) (match zx_G hp (c / 8) with | (t, _, fs, _) => cond (Nat.beq t 18) (zx_F (zx_N 74 fs 1) (fun sr => zx_F (zx_N 74 fs 0) (fun tr => cond (Nat.beq (sr % 8) 3 && Nat.beq (tr % 8) 3) (match zx_G hp (sr / 8) with | (t1, _, _, _) => match zx_G hp (tr / 8) with | (t2, _, f2, _) => cond (Nat.beq t1 22 && Nat.beq t2 24) (zx_F (zx_N 74 f2 0) (fun ar => cond (Nat.beq (ar % 8) 3) (match zx_G hp (ar / 8) with | (t3, n3, f3, e3) => cond (Nat.beq t3 5 && Nat.beq n3 60) (zx_F (zx_A e3 (zx_N 74 f3 0) (nc / 8)) (fun nr => cond (Nat.beq (nr % 8) 3) (match zx_G hp (nr / 8) with | (t4, _, f4, _) => cond (Nat.beq t4 20) (zx_F (zx_N 74 f4 10) (fun hr => cond (Nat.beq (hr % 8) 3) (match zx_G hp (hr / 8) with | (t5, n5, f5, e5) => cond (Nat.beq t5 1 && (Nat.beq n5 32 && (Nat.beq (zx_N 74 f5 0) 34359738360 && Nat.beq (zx_Z e5) 0))) (k nxt [(2, 256), (0, c), (1, nc)] [] hp st u w) false) false)) false) false)) false) false)) false) false))) false) false))
  | _ => false
def zq_Pclaim : zkPT := fun y cc nL pc _ _ nxt _ => y.cls = "StubHouse$Log" ∧ cc = prog_5_method_11_code ∧ nL = 3 ∧ pc = 17 ∧ nxt = 50
theorem zq_refs {σ : Nat → Int32} {b : zxBB} {as : List Nat} {tys : List (ClassId × FieldType)} {hp : zxHP} {ws : va_W} (hW : zr_W σ b as tys hp ws) {k q t n : Nat} {fs : List Nat} {es : List (Nat × Nat)} (hq : as[k]? = some q) (hG : zx_G hp k = (t, n, fs, es)) (ht : t < 16) (h0 : 4 < t) : ∃ (cA : ClassId) (t0 : Nat) (f : Nat → Option Nat), ws[k]? = some (q, .inl (cA, n, .inr (.inr (.inr (.inr f))))) ∧ tys[t0]? = some (cA, zr_ty t) ∧ ∀ j, j < n → zr σ b as (zr_c (t, n, fs, es) j) (va_rf (f j)) := by
  obtain ⟨e0, he, hE⟩ := zr_W_get hW hq
  rw [hG] at hE
  rcases hE with ⟨g, -⟩ | ⟨-, -, h31, cA, t0, hty, h5⟩
  · exact absurd (show 16 ≤ t from g) (by omega)
  · rcases h5 with ⟨g, -⟩ | ⟨g, -⟩ | ⟨-, f, rfl, hf⟩
    · exact absurd (show t < 4 from g) (by omega)
    · exact absurd (show t = 4 from g) (by omega)
    · exact ⟨cA, t0, f, he, hty, hf⟩
set_option maxRecDepth 20000 in
theorem zq_claim_ok (hC : zk_C) : zk_HP zq_claim zq_Pclaim := by
  intro p l e R s m args below meth c Q cc nL G σ b A y pc a a2 nxt d lv stk hp st u w k H locs ls vs hfr hlo hu hw ⟨hx, hb, hml, hown, hts, hnm, hA, hN⟩ ⟨hy, h1, h2, h3, h4⟩ hk h r kk
  subst h1
  subst h2
  subst h3
  subst h4
  rw [hy] at hown
  obtain ⟨hσ, hS, as, ⟨tys, ws, hK, hW, hP, hD⟩, ⟨lv', hl, hL⟩, hV⟩ := r
  rcases stk with _ | ⟨x, rr⟩
  · rcases vs with _ | ⟨vx, vr⟩
    · unfold zq_claim at h
      rw [zx_F_eq, zx_F_eq] at h
      obtain ⟨g, h⟩ := zx_c1 h
      have a1 := zx_an g
      have a2 := zx_an a1.2
      have a3 := zx_an a2.2
      have g1 := zx_beq.mp a1.1
      have g2 := zx_beq.mp a2.1
      have g3 := zx_beq.mp a3.1
      have g4 := zx_blt.mp a3.2
      obtain ⟨v0, m0, z0⟩ := zr_LV_get (fun q => by rw [q] at g1; exact absurd g1 (by decide)) hL (rfl : zx_A lv 74 0 = _)
      obtain ⟨v2, m2, z2⟩ := zr_LV_get (by decide) hL g2
      obtain ⟨v1, m1, z1⟩ := zr_LV_get (fun q => by rw [q] at g3; exact absurd g3 (by decide)) hL (rfl : zx_A lv 74 1 = _)
      obtain ⟨ql, hql, rfl⟩ := (zr_3 g1).mp z0
      have z2 := (zr_0 rfl).mp z2
      have z1' := (zr_0 g3).mp z1
      generalize hGm : zx_G hp (zx_A lv 74 0 / 8) = E at h
      obtain ⟨t, n, fs, es0⟩ := E
      obtain ⟨gt, h⟩ := zx_c1 h
      have gt := zx_beq.mp gt
      rw [zx_F_eq, zx_F_eq] at h
      obtain ⟨g, h⟩ := zx_c1 h
      obtain ⟨b1, b2⟩ := zx_an g
      have b1 := zx_beq.mp b1
      have b2 := zx_beq.mp b2
      obtain ⟨fl, hel, hfl⟩ := zq_obj hW hql hGm (by omega)
      obtain ⟨w1, hw1, y1⟩ := zr_2_get hfl (zx_N_some (rfl : zx_N 74 fs 1 = _) (by omega))
      obtain ⟨w0, hw0, y0⟩ := zr_2_get hfl (zx_N_some (rfl : zx_N 74 fs 0 = _) (by omega))
      obtain ⟨qs, hqs, rfl⟩ := (zr_3 b1).mp y1
      obtain ⟨qt, hqt, rfl⟩ := (zr_3 b2).mp y0
      generalize hGs : zx_G hp (zx_N 74 fs 1 / 8) = Es at h
      generalize hGt : zx_G hp (zx_N 74 fs 0 / 8) = Et at h
      obtain ⟨t1, n1, f1, e1⟩ := Es
      obtain ⟨t2, n2, f2, e2⟩ := Et
      obtain ⟨g, h⟩ := zx_c1 h
      obtain ⟨c1, c2⟩ := zx_an g
      have c1 := zx_beq.mp c1
      have c2 := zx_beq.mp c2
      rw [zx_F_eq] at h
      obtain ⟨b3, h⟩ := zx_c1 h
      have b3 := zx_beq.mp b3
      obtain ⟨fst, hes, -⟩ := zq_obj hW hqs hGs (by omega)
      obtain ⟨ft, het, hft⟩ := zq_obj hW hqt hGt (by omega)
      obtain ⟨wa, hwa, ya⟩ := zr_2_get hft (zx_N_some (rfl : zx_N 74 f2 0 = _) (by omega))
      obtain ⟨qa, hqa, rfl⟩ := (zr_3 b3).mp ya
      generalize hGa : zx_G hp (zx_N 74 f2 0 / 8) = Ea at h
      obtain ⟨t3, n3, f3, e3⟩ := Ea
      obtain ⟨g, h⟩ := zx_c1 h
      obtain ⟨c3, c4⟩ := zx_an g
      have c3 := zx_beq.mp c3
      have c4 := zx_beq.mp c4
      rw [zx_F_eq] at h
      obtain ⟨b4, h⟩ := zx_c1 h
      have b4 := zx_beq.mp b4
      obtain ⟨cA, ta, fa, hea, hta, hfa⟩ := zq_refs hW hqa hGa (by omega) (by omega)
      have hfan := hfa (zx_A lv 74 1 / 8) (by omega)
      obtain ⟨qn, hqn, eqn⟩ := (zr_3 b4).mp hfan
      have hfq : fa (zx_A lv 74 1 / 8) = some qn := by
        cases hq : fa (zx_A lv 74 1 / 8) with
        | none => rw [hq] at eqn; cases eqn
        | some z => rw [hq] at eqn; cases eqn; rfl
      generalize hGn : zx_G hp (zx_A e3 (zx_N 74 f3 0) (zx_A lv 74 1 / 8) / 8) = En at h
      obtain ⟨t4, n4, f4, e4⟩ := En
      obtain ⟨c5, h⟩ := zx_c1 h
      have c5 := zx_beq.mp c5
      rw [zx_F_eq] at h
      obtain ⟨b5, h⟩ := zx_c1 h
      have b5 := zx_beq.mp b5
      obtain ⟨fn, hen, hfn⟩ := zq_obj hW hqn hGn (by omega)
      obtain ⟨wh, hwh, yh⟩ := zr_2_get hfn (zx_N_some (rfl : zx_N 74 f4 10 = _) (by omega))
      obtain ⟨qh, hqh, rfl⟩ := (zr_3 b5).mp yh
      generalize hGh : zx_G hp (zx_N 74 f4 10 / 8) = Eh at h
      obtain ⟨t5, n5, f5, e5⟩ := Eh
      obtain ⟨g, h⟩ := zx_c1 h
      have d1 := zx_an g
      have d2 := zx_an d1.2
      have d3 := zx_an d2.2
      have c6 := zx_beq.mp d1.1
      have c7 := zx_beq.mp d2.1
      have c8 := zx_beq.mp d3.1
      have c9 := zx_beq.mp d3.2
      rw [zx_Z_eq] at c9
      have c9 := List.eq_nil_of_length_eq_zero c9
      obtain ⟨cH, th, fh, heh, hth, -, hfh⟩ := zq_ints hW hqh hGh (by omega) (by omega)
      have hl2 : lv_has ls 3 [(2, .int (nI 0)), (0, .ref ql), (1, .int (nI (zx_A lv 74 1 / 8)))] := by
        refine ⟨hl.1, hl.2.1, fun q hq => ?_⟩
        simp only [List.mem_cons, List.not_mem_nil, or_false] at hq
        rcases hq with rfl | rfl | rfl
        · have := hl.2.2 _ m2; rw [z2] at this; exact this
        · exact hl.2.2 _ m0
        · have := hl.2.2 _ m1; rw [z1'] at this; exact this
      rw [gt] at hel
      rw [c1] at hes
      rw [c2] at het
      rw [c5] at hen
      rw [c4] at hea
      rw [c7] at heh
      rw [show zr_ty t3 = .object "StubHouse$Node" from by rw [c3]; rfl] at hta
      rw [show zr_ty t5 = .int from by rw [c6]; rfl] at hth
      refine zq_claim_loop hC hx hb hml hts hown hfr hlo hu hw hK hP hD hS hel hw1 hw0 hes het hwa hea hta g4 hfq hen hwh heh hth (fun j hj => ?_) ?_ 32 0 ls rfl hl2
      · have := hfh j (by rw [c7]; exact hj)
        rw [show zr_c (t5, n5, f5, e5) j = 34359738360 from by show zx_A e5 (zx_N 74 f5 0) j = _; rw [c8, c9]; rfl] at this
        have := Value.int.inj ((zr_0 (by decide)).mp this)
        rw [this]
        decide
      · intro ls1 hl1
        exact kk _ _ _ _ _ _ _ _ _ _ _ h ⟨hσ, hS, as, ⟨tys, ws, hK, hW, hP, hD⟩, ⟨_, hl1, ⟨rfl, (zr_0 rfl).mpr rfl⟩, ⟨rfl, z0⟩, ⟨rfl, z1' ▸ z1⟩, trivial⟩, trivial⟩
    · exact hV.elim
  · exact absurd h Bool.false_ne_true
