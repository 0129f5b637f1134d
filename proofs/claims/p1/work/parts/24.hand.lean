/-- StubHouse.fill's loop as one instruction: at 31, on at 57; n is a named number from 0 to 256, no byte is at hand -/
noncomputable def zq_hand : zxHD := fun _ _ nxt _ lv stk hp st u w k => match stk with
  | [] => zx_F (zx_A lv 74 0) (fun c => zx_F (zx_A lv 74 1) (fun x1 => zx_F (zx_A lv 74 2) (fun x2 => cond (Nat.beq (c % 8) 3 && (Nat.beq (zx_A lv 74 3) 0 && (zx_i x2 && (Nat.beq (x1 % 8) 4 && Nat.blt (x1 / 8) 300)))) (zx_V st (x1 / 8) (fun lw hg => cond (Nat.ble 2147483648 lw && Nat.ble hg 2147483904) (match zx_G hp (c / 8) with | (t, _, fs, _) => cond (Nat.beq t 26) (zx_F (zx_N 74 fs 8) (fun hr => cond (Nat.beq (hr % 8) 3 && (Nat.beq (zx_N 74 fs 9) 0 && (cond (Nat.beq (hr / 8) (c / 8)) false true))) (zx_F (hr / 8) (fun kh => match zx_G hp kh with | (t1, n1, _, _) => cond (Nat.beq t1 2 && Nat.beq n1 256) (zx_H hp kh (2, 256, [6], []) (fun hp2 => k nxt [(3, x1), (0, c), (1, x1), (2, x2)] [] hp2 st u w)) false)) false)) false) false)) false)))
  | _ => false
def zq_Phand : zkPT := fun y cc nL pc _ _ nxt _ => y.cls = "StubHouse" ∧ cc = prog_1_method_8_code ∧ nL = 4 ∧ pc = 31 ∧ nxt = 57
section ZQ5
variable {p : Program} {l : Launch} {e : Env} {R : Room} {s : State} {m : MethodId} {args : Array Value} {below : List Frame} {meth : Method} {c : Code} {Q : State → Prop} {G : va_G} {A : Nat → Prop} {u w : Nat}
theorem zq_hand_loop (hC : zk_C) (hx : p.tables.exec = Jvm.exec) (hb : c.code = prog_1_method_8_code) (hts : ∀ w ∈ zk_T, w.before args s = true) (hown : s.vm.findClass "StubHouse" = some m.cls) {tys : List (ClassId × FieldType)} {ws : va_W} {km kh qm qh th nn : Nat} {cH : ClassId} {fm : List Value} {x2 : Int32} (hK : va_K G vwCl tys s)
    (hem : ws[km]? = some (qm, .inr (10, fm))) (h8 : fm[8]? = some (.ref qh)) (h9 : fm[9]? = some (.int (nI 0))) (hnn : nn ≤ 256) (hth : tys[th]? = some (cH, .byte)) (hlen : kh < ws.length) (hkm : kh ≠ km)
    (kk : ∀ (g : Nat → Int32) (H : Heap) (locs : List Loc) (ls : Array Slot), va_P G vwCl (ws.set kh (qh, .inl (cH, 256, .inl g))) H → va_D A (ws.set kh (qh, .inl (cH, 256, .inl g))) → va_S A s.heap H locs → lv_has ls 4 [(3, .int (nI nn)), (0, .ref qm), (1, .int (nI nn)), (2, .int x2)] → W p l e R s m args below meth c H locs u w Q (F0 m 57 ls [])) :
    ∀ (k i : Nat) (g : Nat → Int32) (H : Heap) (locs : List Loc) (ls : Array Slot), i + k = nn → va_P G vwCl (ws.set kh (qh, .inl (cH, 256, .inl g))) H → va_D A (ws.set kh (qh, .inl (cH, 256, .inl g))) → va_S A s.heap H locs → lv_has ls 4 [(3, .int (nI i)), (0, .ref qm), (1, .int (nI nn)), (2, .int x2)] → W p l e R s m args below meth c H locs u w Q (F0 m 31 ls []) := by
  have hin := (hC 10 _ _ _ rfl).1
  intro k
  induction k with
  | zero =>
    intro i g H locs ls hi hP hD hS hl
    have hi : i = nn := hi
    subst hi
    refine lv_iload_n hx hb (k := 3) (by decide +kernel) rfl (lv_at hl 0 rfl) ?_
    refine lv_iload_n hx hb (k := 1) (by decide +kernel) rfl (lv_at hl 2 rfl) ?_
    refine lv_icmp_ge (tgt := 57) (off := 24) hx hb (by decide +kernel) (by decide) (fun _ => ?_) (fun q => absurd (Int32.le_refl _) q)
    exact kk g H locs ls hP hD hS hl
  | succ k ih =>
    intro i g H locs ls hi hP hD hS hl
    have hin2 : i < nn := by omega
    have hem2 : (ws.set kh (qh, .inl (cH, 256, .inl g)))[km]? = some (qm, .inr (10, fm)) := by rw [List.getElem?_set_ne hkm]; exact hem
    refine lv_iload_n hx hb (k := 3) (by decide +kernel) rfl (lv_at hl 0 rfl) ?_
    refine lv_iload_n hx hb (k := 1) (by decide +kernel) rfl (lv_at hl 2 rfl) ?_
    refine lv_icmp_ge (tgt := 57) (off := 24) hx hb (by decide +kernel) (by decide) (fun q => absurd q (nI_ge hin2 (by omega))) (fun _ => ?_)
    refine lv_aload_n hx hb (k := 0) (by decide +kernel) rfl (lv_at hl 1 rfl) ?_
    refine va_get (ref := "StubHouse") hx hb hts hin hown hK hP km hem2 rfl 8 (by decide) (hts (.fieldLink "StubHouse" 9 "StubHouse" "hand" "[B") (zk_h_eq (n := 880) (by decide +kernel) rfl rfl)) (fun _ h9 => h9) h8 (by decide +kernel) ?_
    refine lv_aload_n hx hb (k := 0) (by decide +kernel) rfl (lv_at hl 1 rfl) ?_
    refine va_get (ref := "StubHouse") hx hb hts hin hown hK hP km hem2 rfl 9 (by decide) (hts (.fieldLink "StubHouse" 155 "StubHouse" "handCount" "I") (zk_h_eq (n := 881) (by decide +kernel) rfl rfl)) (fun _ h9 => h9) h9 (by decide +kernel) ?_
    refine lv_iload_n hx hb (k := 3) (by decide +kernel) rfl (lv_at hl 0 rfl) ?_
    refine lv_iadd hx hb (by decide +kernel) ?_
    rw [nI_add, Nat.zero_add]
    refine lv_iload_n hx hb (k := 2) (by decide +kernel) rfl (lv_at hl 3 rfl) ?_
    refine lv_iload_n hx hb (k := 3) (by decide +kernel) rfl (lv_at hl 0 rfl) ?_
    refine lv_iadd hx hb (by decide +kernel) ?_
    refine lv_i2b hx hb (by decide +kernel) rfl ?_
    refine va_bast hx hb hK hP hD hS kh th (List.getElem?_set_self hlen) hth (vp_in_nI (by omega) (by decide)) (by decide +kernel) (fun H locs hP hD hS => ?_)
    rw [List.set_set] at hP hD
    refine lv_iinc (k := 0) (v := nI (i + 1)) (lv' := [(3, .int (nI (i + 1))), (0, .ref qm), (1, .int (nI nn)), (2, .int x2)]) (n := 1) hx hb (by decide +kernel) hl rfl (nI_1 i) (by decide) rfl (fun ls hl => ?_)
    refine lv_goto (tgt := 31) (off := -23) hx hb (by decide +kernel) (by decide) ?_
    exact ih (i + 1) _ H locs ls (by omega) hP hD hS hl
end ZQ5
set_option maxRecDepth 20000 in
theorem zq_hand_ok (hC : zk_C) : zk_HO zq_hand zq_Phand := by
  intro p l e R s m args below meth c Q cc nL G σ b A y pc a a2 nxt d lv stk hp st u w k H locs ls vs ⟨hx, hb, hml, hown, hts, hnm, hA, hN⟩ ⟨hy, h1, h2, h3, h4⟩ hk h r kk
  subst h1
  subst h2
  subst h3
  subst h4
  rw [hy] at hown
  obtain ⟨hσ, hS, as, ⟨tys, ws, hK, hW, hP, hD⟩, ⟨lv', hl, hL⟩, hV⟩ := r
  rcases stk with _ | ⟨x, rr⟩
  · rcases vs with _ | ⟨vx, vr⟩
    · unfold zq_hand at h
      rw [zx_F_eq, zx_F_eq, zx_F_eq] at h
      obtain ⟨g, h⟩ := zx_c1 h
      have a1 := zx_an g
      have a2 := zx_an a1.2
      have a3 := zx_an a2.2
      have a4 := zx_an a3.2
      have g1 := zx_beq.mp a1.1
      have g2 := zx_beq.mp a2.1
      have g3 := a3.1
      have g4 := zx_beq.mp a4.1
      have g5 := zx_blt.mp a4.2
      obtain ⟨v0, m0, z0⟩ := zr_LV_get (fun q => by rw [q] at g1; exact absurd g1 (by decide)) hL (rfl : zx_A lv 74 0 = _)
      obtain ⟨v3, m3, z3⟩ := zr_LV_get (by decide) hL g2
      obtain ⟨v2, m2, z2⟩ := zr_LV_get (fun q => by rw [q] at g3; exact absurd g3 (by decide)) hL (rfl : zx_A lv 74 2 = _)
      obtain ⟨v1, m1, z1⟩ := zr_LV_get (fun q => by rw [q] at g4; exact absurd g4 (by decide)) hL (rfl : zx_A lv 74 1 = _)
      obtain ⟨qm, hqm, rfl⟩ := (zr_3 g1).mp z0
      have z3 := (zr_0 rfl).mp z3
      obtain ⟨x2, rfl⟩ := zr_int g3 z2
      have z1' := (zr_4 g4).mp z1
      obtain ⟨lw, hg, e1, hb1⟩ := zx_V_ok (zx_A lv 74 1 / 8) (fun lw hg => cond (Nat.ble 2147483648 lw && Nat.ble hg 2147483904) (match zx_G hp (zx_A lv 74 0 / 8) with | (t, _, fs, _) => cond (Nat.beq t 26) (zx_F (zx_N 74 fs 8) (fun hr => cond (Nat.beq (hr % 8) 3 && (Nat.beq (zx_N 74 fs 9) 0 && (cond (Nat.beq (hr / 8) (zx_A lv 74 0 / 8)) false true))) (zx_F (hr / 8) (fun kh => match zx_G hp kh with | (t1, n1, _, _) => cond (Nat.beq t1 2 && Nat.beq n1 256) (zx_H hp kh (2, 256, [6], []) (fun hp2 => k 57 [(3, zx_A lv 74 1), (0, zx_A lv 74 0), (1, zx_A lv 74 1), (2, zx_A lv 74 2)] [] hp2 st u w)) false)) false)) false) false) st
      have h := e1.symm.trans h
      obtain ⟨g, h⟩ := zx_c1 h
      obtain ⟨g6, g7⟩ := zx_an g
      have g6 := zx_ble.mp g6
      have g7 := zx_ble.mp g7
      have hbn := hb1 σ hσ
      rw [zr_n_s g5] at hbn
      generalize hGm : zx_G hp (zx_A lv 74 0 / 8) = E at h
      obtain ⟨t, n, fs, es0⟩ := E
      obtain ⟨gt, h⟩ := zx_c1 h
      have gt := zx_beq.mp gt
      rw [zx_F_eq] at h
      obtain ⟨g, h⟩ := zx_c1 h
      have c1 := zx_an g
      have c2 := zx_an c1.2
      have c3 := zx_c0 c2.2
      have b1 := zx_beq.mp c1.1
      have b2 := zx_beq.mp c2.1
      have b3 := zx_nbeq.mp c3.1
      rw [zx_F_eq] at h
      obtain ⟨fm, hem, hfm⟩ := zq_obj hW hqm hGm (by omega)
      rw [gt] at hem
      obtain ⟨w8, hw8, y8⟩ := zr_2_get hfm (zx_N_some (rfl : zx_N 74 fs 8 = _) (by omega))
      obtain ⟨w9, hw9, y9⟩ := zr_2_get hfm (zx_N_some (rfl : zx_N 74 fs 9 = _) (by omega))
      obtain ⟨qh, hqh, rfl⟩ := (zr_3 b1).mp y8
      rw [b2] at y9
      have y9 := (zr_0 rfl).mp y9
      subst y9
      generalize hGh : zx_G hp (zx_N 74 fs 8 / 8) = Eh at h
      obtain ⟨t1, n1, f1, e1⟩ := Eh
      obtain ⟨g, h⟩ := zx_c1 h
      obtain ⟨c4, c5⟩ := zx_an g
      have c4 := zx_beq.mp c4
      have c5 := zx_beq.mp c5
      obtain ⟨cH, th, fh, heh, hth, -, hfh⟩ := zq_ints hW hqh hGh (by omega) (by omega)
      obtain ⟨hp', e3, zz2, zz3⟩ := zx_H_ok hp (zx_N 74 fs 8 / 8) (2, 256, [6], []) (fun hp2 => k 57 [(3, zx_A lv 74 1), (0, zx_A lv 74 0), (1, zx_A lv 74 1), (2, zx_A lv 74 2)] [] hp2 st u w) (by rw [hGh]; show t1 ≠ 0; omega)
      rw [e3] at h
      rw [show zr_ty t1 = .byte from by rw [c4]; rfl] at hth
      rw [c5] at heh
      have hnn : ∃ nn, nn ≤ 256 ∧ zr_d σ (zx_A lv 74 1 / 8) = nI nn := by
        refine ⟨zr_b (zr_d σ (zx_A lv 74 1 / 8)) - 2147483648, by omega, ?_⟩
        apply zr_b_inj
        rw [zr_b_nI]
        unfold zx_u
        omega
      obtain ⟨nn, hn256, hnv⟩ := hnn
      rw [hnv] at z1'
      subst z1'
      have hl2 : lv_has ls 4 [(3, .int (nI 0)), (0, .ref qm), (1, .int (nI nn)), (2, .int x2)] := by
        refine ⟨hl.1, hl.2.1, fun q hq => ?_⟩
        simp only [List.mem_cons, List.not_mem_nil, or_false] at hq
        rcases hq with rfl | rfl | rfl | rfl
        · have := hl.2.2 _ m3; rw [z3] at this; exact this
        · exact hl.2.2 _ m0
        · exact hl.2.2 _ m1
        · exact hl.2.2 _ m2
      refine zq_hand_loop (nn := nn) hC hx hb hts hown hK hem hw8 hw9 hn256 hth (List.getElem?_eq_some_iff.mp heh).1 b3 ?_ nn 0 fh H locs ls (Nat.zero_add nn) (by rw [zq_same heh]; exact hP) (by rw [zq_same heh]; exact hD) hS hl2
      intro g H1 locs1 ls1 hP1 hD1 hS1 hl1
      refine kk _ _ _ _ _ _ _ _ _ _ _ h ⟨hσ, hS1, as, ⟨tys, _, hK, zr_W_set hW hqh zz2 zz3 ?_, hP1, hD1⟩, ⟨_, hl1, ⟨rfl, z1⟩, ⟨rfl, z0⟩, ⟨rfl, z1⟩, ⟨rfl, z2⟩, trivial⟩, trivial⟩
      exact Or.inr ⟨show 2 < 16 by decide, show 0 < 2 by decide, show 256 < 2147483648 by decide, cH, th, hth, Or.inl ⟨show 2 < 4 by decide, g, rfl, fun j _ => zr_any⟩⟩
    · exact hV.elim
  · exact absurd h Bool.false_ne_true
