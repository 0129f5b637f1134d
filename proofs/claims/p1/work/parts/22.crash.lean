/-- StubHouseModel.crash's loop over all numbers as one instruction: at 61, on at 95 -/
noncomputable def zq_back : zxHD := fun _ _ nxt _ lv stk hp st u w k => match stk with
  | [] => zx_F (zx_A lv 74 0) (fun c => zx_F (zx_A lv 74 1) (fun x1 => zx_F (zx_A lv 74 2) (fun rc => zx_F (zx_A lv 74 3) (fun x3 => cond (Nat.beq (c % 8) 3 && (Nat.beq (zx_A lv 74 4) 0 && (zx_i x1 && (zx_i x3 && (Nat.beq (rc % 8) 0 && Nat.ble (rc / 8) 200))))) (match zx_G hp (c / 8) with | (t, _, fs, _) => cond (Nat.beq t 27) (zx_F (zx_N 74 fs 4) (fun cp => zx_F (zx_N 74 fs 1) (fun nw => cond (Nat.beq (cp % 8) 3 && (Nat.beq (nw % 8) 3 && (cond (Nat.beq (nw / 8) (cp / 8)) false (cond (Nat.beq (nw / 8) (c / 8)) false true)))) (zx_F (nw / 8) (fun kn => match zx_G hp (cp / 8) with | (t1, n1, f1, e1) => match zx_G hp kn with | (t2, n2, _, _) => cond (Nat.beq t1 1 && (Nat.beq n1 514761 && (Nat.beq t2 1 && (Nat.beq n2 2561 && Nat.beq (zx_N 74 f1 0) 0)))) (zx_F (2561 * (rc / 8)) (fun off => zq_dn off e1 (fun es => zx_H hp kn (1, 2561, [0], es) (fun hp2 => k nxt [(4, 20488), (0, c), (1, x1), (2, rc), (3, x3)] [] hp2 st u w)))) false)) false))) false) false))))
  | _ => false
def zq_Pback : zkPT := fun y cc nL pc _ _ nxt _ => y.cls = "StubHouseModel" ∧ cc = prog_14_method_49_code ∧ nL = 6 ∧ pc = 61 ∧ nxt = 95
section ZQ3
variable {p : Program} {l : Launch} {e : Env} {R : Room} {s : State} {m : MethodId} {args : Array Value} {below : List Frame} {meth : Method} {c : Code} {Q : State → Prop} {G : va_G} {A : Nat → Prop} {u w : Nat}
theorem zq_back_loop (hC : zk_C) (hx : p.tables.exec = Jvm.exec) (hb : c.code = prog_14_method_49_code) (hts : ∀ w ∈ zk_T, w.before args s = true) (hown : s.vm.findClass "StubHouseModel" = some m.cls) {tys : List (ClassId × FieldType)} {ws : va_W} {km kc kn qm qc qn tc tn rec : Nat} {cC cN : ClassId} {fm : List Value} {f g0 : Nat → Int32} {x1 x3 : Int32} (hK : va_K G vwCl tys s)
    (hem : ws[km]? = some (qm, .inr (11, fm))) (h4 : fm[4]? = some (.ref qc)) (h1 : fm[1]? = some (.ref qn)) (hrec : rec ≤ 200) (hec : ws[kc]? = some (qc, .inl (cC, 514761, .inl f))) (htn : tys[tn]? = some (cN, .int)) (htc : tys[tc]? = some (cC, .int)) (hlen : kn < ws.length) (hkm : kn ≠ km) (hkc : kn ≠ kc)
    (kk : ∀ (g : Nat → Int32) (H : Heap) (locs : List Loc) (ls : Array Slot), (∀ j, j < 2561 → g j = f (2561 * rec + j)) → va_P G vwCl (ws.set kn (qn, .inl (cN, 2561, .inl g))) H → va_D A (ws.set kn (qn, .inl (cN, 2561, .inl g))) → va_S A s.heap H locs → lv_has ls 6 [(4, .int (nI 2561)), (0, .ref qm), (1, .int x1), (2, .int (nI rec)), (3, .int x3)] → W p l e R s m args below meth c H locs u w Q (F0 m 95 ls [])) :
    ∀ (k i : Nat) (g : Nat → Int32) (H : Heap) (locs : List Loc) (ls : Array Slot), i + k = 2561 → (∀ j, j < i → g j = f (2561 * rec + j)) → va_P G vwCl (ws.set kn (qn, .inl (cN, 2561, .inl g))) H → va_D A (ws.set kn (qn, .inl (cN, 2561, .inl g))) → va_S A s.heap H locs → lv_has ls 6 [(4, .int (nI i)), (0, .ref qm), (1, .int x1), (2, .int (nI rec)), (3, .int x3)] → W p l e R s m args below meth c H locs u w Q (F0 m 61 ls []) := by
  have hin := (hC 11 _ _ _ rfl).1
  intro k
  induction k with
  | zero =>
    intro i g H locs ls hi hg hP hD hS hl
    have hi : i = 2561 := hi
    subst hi
    refine lv_iload hx hb (by decide +kernel) (lv_at hl 0 rfl) ?_
    refine lv_sipush (v := nI 2561) (n := 2561) hx hb (by decide +kernel) (by decide) ?_
    refine lv_icmp_ge (tgt := 95) (off := 29) hx hb (by decide +kernel) (by decide) (fun _ => ?_) (fun q => absurd (Int32.le_refl _) q)
    exact kk g H locs ls hg hP hD hS hl
  | succ k ih =>
    intro i g H locs ls hi hg hP hD hS hl
    have hin2 : i < 2561 := by omega
    have hem2 : (ws.set kn (qn, .inl (cN, 2561, .inl g)))[km]? = some (qm, .inr (11, fm)) := by rw [List.getElem?_set_ne hkm]; exact hem
    have hec2 : (ws.set kn (qn, .inl (cN, 2561, .inl g)))[kc]? = some (qc, .inl (cC, 514761, .inl f)) := by rw [List.getElem?_set_ne hkc]; exact hec
    refine lv_iload hx hb (by decide +kernel) (lv_at hl 0 rfl) ?_
    refine lv_sipush (v := nI 2561) (n := 2561) hx hb (by decide +kernel) (by decide) ?_
    refine lv_icmp_ge (tgt := 95) (off := 29) hx hb (by decide +kernel) (by decide) (fun q => absurd q (nI_ge hin2 (by decide))) (fun _ => ?_)
    refine lv_aload_n hx hb (k := 0) (by decide +kernel) rfl (lv_at hl 1 rfl) ?_
    refine va_get (ref := "StubHouseModel") hx hb hts hin hown hK hP km hem2 rfl 1 (by decide) (hts (.fieldLink "StubHouseModel" 13 "StubHouseModel" "now" "[I") (zk_h_eq (n := 2464) (by decide +kernel) rfl rfl)) (fun _ h9 => h9) h1 (by decide +kernel) ?_
    refine lv_iload hx hb (by decide +kernel) (lv_at hl 0 rfl) ?_
    refine lv_aload_n hx hb (k := 0) (by decide +kernel) rfl (lv_at hl 1 rfl) ?_
    refine va_get (ref := "StubHouseModel") hx hb hts hin hown hK hP km hem2 rfl 4 (by decide) (hts (.fieldLink "StubHouseModel" 25 "StubHouseModel" "copied" "[I") (zk_h_eq (n := 2467) (by decide +kernel) rfl rfl)) (fun _ h9 => h9) h4 (by decide +kernel) ?_
    refine lv_sipush (v := nI 2561) (n := 2561) hx hb (by decide +kernel) (by decide) ?_
    refine lv_iload_n hx hb (k := 2) (by decide +kernel) rfl (lv_at hl 3 rfl) ?_
    refine lv_imul hx hb (by decide +kernel) ?_
    refine lv_iload hx hb (by decide +kernel) (lv_at hl 0 rfl) ?_
    refine lv_iadd hx hb (by decide +kernel) ?_
    rw [pk_mul, nI_add]
    refine va_iald hx hb hK hP kc tc hec2 htc (vp_in_nI (by omega) (by decide)) (by decide +kernel) ?_
    rw [nI_clamp (by omega : 2561 * rec + i < 2 ^ 31)]
    refine va_iast hx hb hK hP hD hS kn tn (List.getElem?_set_self hlen) htn (vp_in_nI hin2 (by decide)) (by decide +kernel) (fun H locs hP hD hS => ?_)
    rw [List.set_set, nI_clamp (by omega : i < 2 ^ 31)] at hP hD
    refine lv_iinc (k := 0) (v := nI (i + 1)) (lv' := [(4, .int (nI (i + 1))), (0, .ref qm), (1, .int x1), (2, .int (nI rec)), (3, .int x3)]) (n := 1) hx hb (by decide +kernel) hl rfl (nI_1 i) (by decide) rfl (fun ls hl => ?_)
    refine lv_goto (tgt := 61) (off := -31) hx hb (by decide +kernel) (by decide) ?_
    refine ih (i + 1) _ H locs ls (by omega) (fun j hj => ?_) hP hD hS hl
    unfold upd
    by_cases hji : j = i
    · rw [if_pos hji, hji]
    · rw [if_neg hji]; exact hg j (by omega)
end ZQ3
theorem zq_back_ok (hC : zk_C) : zk_HO zq_back zq_Pback := by
  intro p l e R s m args below meth c Q cc nL G σ b A y pc a a2 nxt d lv stk hp st u w k H locs ls vs ⟨hx, hb, hml, hown, hts, hnm, hA, hN⟩ ⟨hy, h1, h2, h3, h4⟩ hk h r kk
  subst h1
  subst h2
  subst h3
  subst h4
  rw [hy] at hown
  obtain ⟨hσ, hS, as, ⟨tys, ws, hK, hW, hP, hD⟩, ⟨lv', hl, hL⟩, hV⟩ := r
  rcases stk with _ | ⟨x, rr⟩
  · rcases vs with _ | ⟨vx, vr⟩
    · unfold zq_back at h
      rw [zx_F_eq, zx_F_eq, zx_F_eq, zx_F_eq] at h
      obtain ⟨g, h⟩ := zx_c1 h
      have a1 := zx_an g
      have a2 := zx_an a1.2
      have a3 := zx_an a2.2
      have a4 := zx_an a3.2
      have a5 := zx_an a4.2
      have g1 := zx_beq.mp a1.1
      have g2 := zx_beq.mp a2.1
      have g3 := a3.1
      have g4 := a4.1
      have g5 := zx_beq.mp a5.1
      have g6 := zx_ble.mp a5.2
      obtain ⟨v0, m0, z0⟩ := zr_LV_get (fun q => by rw [q] at g1; exact absurd g1 (by decide)) hL (rfl : zx_A lv 74 0 = _)
      obtain ⟨v4, m4, z4⟩ := zr_LV_get (by decide) hL g2
      obtain ⟨v1, m1, z1⟩ := zr_LV_get (fun q => by rw [q] at g3; exact absurd g3 (by decide)) hL (rfl : zx_A lv 74 1 = _)
      obtain ⟨v3, m3, z3⟩ := zr_LV_get (fun q => by rw [q] at g4; exact absurd g4 (by decide)) hL (rfl : zx_A lv 74 3 = _)
      obtain ⟨v2, m2, z2⟩ := zr_LV_get (fun q => by rw [q] at g5; exact absurd g5 (by decide)) hL (rfl : zx_A lv 74 2 = _)
      obtain ⟨qm, hqm, rfl⟩ := (zr_3 g1).mp z0
      have z4 := (zr_0 rfl).mp z4
      obtain ⟨x1, rfl⟩ := zr_int g3 z1
      obtain ⟨x3, rfl⟩ := zr_int g4 z3
      have z2' := (zr_0 g5).mp z2
      generalize hGm : zx_G hp (zx_A lv 74 0 / 8) = E at h
      obtain ⟨t, n, fs, es0⟩ := E
      obtain ⟨gt, h⟩ := zx_c1 h
      have gt := zx_beq.mp gt
      rw [zx_F_eq, zx_F_eq] at h
      obtain ⟨g, h⟩ := zx_c1 h
      have c1 := zx_an g
      have c2 := zx_an c1.2
      have c3 := zx_c0 c2.2
      have c4 := zx_c0 c3.2
      have b1 := zx_beq.mp c1.1
      have b2 := zx_beq.mp c2.1
      have b5 := zx_nbeq.mp c3.1
      have b6 := zx_nbeq.mp c4.1
      rw [zx_F_eq] at h
      obtain ⟨fm, hem, hfm⟩ := zq_obj hW hqm hGm (by omega)
      rw [gt] at hem
      obtain ⟨w4, hw4, y4⟩ := zr_2_get hfm (zx_N_some (rfl : zx_N 74 fs 4 = _) (by omega))
      obtain ⟨w1, hw1, y1⟩ := zr_2_get hfm (zx_N_some (rfl : zx_N 74 fs 1 = _) (by omega))
      obtain ⟨qc, hqc, rfl⟩ := (zr_3 b1).mp y4
      obtain ⟨qn, hqn, rfl⟩ := (zr_3 b2).mp y1
      generalize hGc : zx_G hp (zx_N 74 fs 4 / 8) = Ec at h
      generalize hGn : zx_G hp (zx_N 74 fs 1 / 8) = En at h
      obtain ⟨t1, n1, f1, e1⟩ := Ec
      obtain ⟨t2, n2, f2, e2⟩ := En
      obtain ⟨g, h⟩ := zx_c1 h
      have d1 := zx_an g
      have d2 := zx_an d1.2
      have d3 := zx_an d2.2
      have d4 := zx_an d3.2
      have c1 := zx_beq.mp d1.1
      have c2 := zx_beq.mp d2.1
      have c3 := zx_beq.mp d3.1
      have c4 := zx_beq.mp d4.1
      have c5 := zx_beq.mp d4.2
      rw [zx_F_eq] at h
      obtain ⟨es, k2, hes⟩ := zq_dn_ok (2561 * (zx_A lv 74 2 / 8)) e1 (fun es => zx_H hp (zx_N 74 fs 1 / 8) (1, 2561, [0], es) (fun hp2 => k 95 [(4, 20488), (0, zx_A lv 74 0), (1, zx_A lv 74 1), (2, zx_A lv 74 2), (3, zx_A lv 74 3)] [] hp2 st u w))
      rw [k2] at h
      obtain ⟨cC, tc, gc, hec, htc, -, hfc⟩ := zq_ints hW hqc hGc (by omega) (by omega)
      obtain ⟨cN, tn, fn, hen, htn, -, hfn⟩ := zq_ints hW hqn hGn (by omega) (by omega)
      obtain ⟨hp', e3, zz2, zz3⟩ := zx_H_ok hp (zx_N 74 fs 1 / 8) (1, 2561, [0], es) (fun hp2 => k 95 [(4, 20488), (0, zx_A lv 74 0), (1, zx_A lv 74 1), (2, zx_A lv 74 2), (3, zx_A lv 74 3)] [] hp2 st u w) (by rw [hGn]; show t2 ≠ 0; omega)
      rw [e3] at h
      have hty1 : zr_ty t1 = .int := by rw [c1]; rfl
      have hty2 : zr_ty t2 = .int := by rw [c3]; rfl
      rw [hty1] at htc
      rw [hty2] at htn
      rw [c2] at hec
      rw [c4] at hen
      have hl2 : lv_has ls 6 [(4, .int (nI 0)), (0, .ref qm), (1, .int x1), (2, .int (nI (zx_A lv 74 2 / 8))), (3, .int x3)] := by
        refine ⟨hl.1, hl.2.1, fun q hq => ?_⟩
        simp only [List.mem_cons, List.not_mem_nil, or_false] at hq
        rcases hq with rfl | rfl | rfl | rfl | rfl
        · have := hl.2.2 _ m4; rw [z4] at this; exact this
        · exact hl.2.2 _ m0
        · exact hl.2.2 _ m1
        · have := hl.2.2 _ m2; rw [z2'] at this; exact this
        · exact hl.2.2 _ m3
      refine zq_back_loop (g0 := fn) (rec := zx_A lv 74 2 / 8) hC hx hb hts hown hK hem hw4 hw1 g6 hec htn htc (List.getElem?_eq_some_iff.mp hen).1 b6 b5 ?_ 2561 0 fn H locs ls rfl (fun j hj => absurd hj (Nat.not_lt_zero j)) (by rw [zq_same hen]; exact hP) (by rw [zq_same hen]; exact hD) hS hl2
      intro g H1 locs1 ls1 hg hP1 hD1 hS1 hl1
      refine kk _ _ _ _ _ _ _ _ _ _ _ h ⟨hσ, hS1, as, ⟨tys, _, hK, zr_W_set hW hqn zz2 zz3 ?_, hP1, hD1⟩, ⟨_, hl1, ⟨rfl, (zr_0 rfl).mpr rfl⟩, ⟨rfl, z0⟩, ⟨rfl, z1⟩, ⟨rfl, z2' ▸ z2⟩, ⟨rfl, z3⟩, trivial⟩, trivial⟩
      refine Or.inr ⟨show 1 < 16 by decide, show 0 < 1 by decide, show 2561 < 2147483648 by decide, cN, tn, htn, Or.inl ⟨show 1 < 4 by decide, g, rfl, fun j hj => ?_⟩⟩
      have hj : j < 2561 := hj
      show zr σ b as (zx_A es 0 j) (.int (g j))
      rw [hes j, hg j hj]
      have := hfc (2561 * (zx_A lv 74 2 / 8) + j) (by rw [c2]; omega)
      rw [show zr_c (t1, n1, f1, e1) (2561 * (zx_A lv 74 2 / 8) + j) = zx_A e1 0 (2561 * (zx_A lv 74 2 / 8) + j) from by show zx_A e1 (zx_N 74 f1 0) _ = _; rw [c5]] at this
      rw [Nat.add_comm j]
      exact this
    · exact hV.elim
  · exact absurd h Bool.false_ne_true
