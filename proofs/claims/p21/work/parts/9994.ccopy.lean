section ZQ
variable {σ : Nat → Int32} {b : zxBB} {as : List Nat} {tys : List (ClassId × FieldType)} {hp : zxHP} {ws : va_W}
theorem zq_obj (hW : zr_W σ b as tys hp ws) {k q t n : Nat} {fs : List Nat} {es : List (Nat × Nat)} (hq : as[k]? = some q) (hG : zx_G hp k = (t, n, fs, es)) (ht : 16 ≤ t) : ∃ fs', ws[k]? = some (q, .inr (t - 16, fs')) ∧ zr_2 (zr σ b as) fs fs' := by
  obtain ⟨e0, he, hE⟩ := zr_W_get hW hq
  rw [hG] at hE
  rcases hE with ⟨-, fs', rfl, h⟩ | ⟨g, -⟩
  · exact ⟨fs', he, h⟩
  · exact absurd ht (Nat.not_le.mpr g)
theorem zq_ints (hW : zr_W σ b as tys hp ws) {k q t n : Nat} {fs : List Nat} {es : List (Nat × Nat)} (hq : as[k]? = some q) (hG : zx_G hp k = (t, n, fs, es)) (ht : t < 4) (h0 : 0 < t) : ∃ (cA : ClassId) (t0 : Nat) (f : Nat → Int32), ws[k]? = some (q, .inl (cA, n, .inl f)) ∧ tys[t0]? = some (cA, zr_ty t) ∧ n < 2147483648 ∧ ∀ j, j < n → zr σ b as (zr_c (t, n, fs, es) j) (.int (f j)) := by
  obtain ⟨e0, he, hE⟩ := zr_W_get hW hq
  rw [hG] at hE
  rcases hE with ⟨g, -⟩ | ⟨-, -, h31, cA, t0, hty, h5⟩
  · exact absurd (show 16 ≤ t from g) (by omega)
  · rcases h5 with ⟨-, f, rfl, hf⟩ | ⟨g, -⟩ | ⟨g, -⟩
    · exact ⟨cA, t0, f, he, hty, h31, hf⟩
    · exact absurd (show t = 4 from g) (by omega)
    · exact absurd (show 4 < t from g) (by omega)
theorem zq_same {k q : Nat} {x : va_E} (he : ws[k]? = some (q, x)) : ws.set k (q, x) = ws := by
  apply List.ext_getElem?
  intro j
  by_cases hj : k = j
  · subst hj
    rw [List.getElem?_set_self (List.getElem?_eq_some_iff.mp he).1, he]
  · rw [List.getElem?_set_ne hj]
end ZQ
/-- the entries of one row, moved up by off, ahead of those of another that lie beside them -/
noncomputable def zq_up (off : Nat) (tl : List (Nat × Nat)) (l : List (Nat × Nat)) : (List (Nat × Nat) → Bool) → Bool := List.rec (motive := fun _ => (List (Nat × Nat) → Bool) → Bool) (fun k => k tl) (fun q _ ih k => match q with | (i, v) => cond (Nat.blt i 2561) (zx_F (i + off) (fun j => ih (fun r => k ((j, v) :: r)))) (ih k)) l
noncomputable def zq_out (off : Nat) (l : List (Nat × Nat)) : (List (Nat × Nat) → Bool) → Bool := List.rec (motive := fun _ => (List (Nat × Nat) → Bool) → Bool) (fun k => k []) (fun q _ ih k => match q with | (i, v) => cond (Nat.ble off i && Nat.blt i (off + 2561)) (ih k) (ih (fun r => k ((i, v) :: r)))) l
noncomputable def zq_dn (off : Nat) (l : List (Nat × Nat)) : (List (Nat × Nat) → Bool) → Bool := List.rec (motive := fun _ => (List (Nat × Nat) → Bool) → Bool) (fun k => k []) (fun q _ ih k => match q with | (i, v) => cond (Nat.ble off i) (zx_F (i - off) (fun j => ih (fun r => k ((j, v) :: r)))) (ih k)) l
theorem zq_out_ok (off : Nat) : ∀ (l : List (Nat × Nat)) (k : List (Nat × Nat) → Bool), ∃ r, zq_out off l k = k r ∧ ∀ j, zx_A r 0 j = if off ≤ j ∧ j < off + 2561 then 0 else zx_A l 0 j
  | [], k => ⟨[], rfl, fun j => by split <;> rfl⟩
  | (i, v) :: l, k => by
    have e : zq_out off ((i, v) :: l) k = cond (Nat.ble off i && Nat.blt i (off + 2561)) (zq_out off l k) (zq_out off l (fun r => k ((i, v) :: r))) := rfl
    cases hc : (Nat.ble off i && Nat.blt i (off + 2561)) with
    | true =>
      obtain ⟨r, h1, h2⟩ := zq_out_ok off l k
      refine ⟨r, by rw [e, hc]; exact h1, fun j => ?_⟩
      rw [h2, zx_A_cons]
      obtain ⟨g1, g2⟩ := zx_an hc
      have g1 := zx_ble.mp g1
      have g2 := zx_blt.mp g2
      split
      · rfl
      · rw [if_neg (by show ¬ i = j; omega)]
    | false =>
      obtain ⟨r, h1, h2⟩ := zq_out_ok off l (fun r => k ((i, v) :: r))
      refine ⟨(i, v) :: r, by rw [e, hc]; exact h1, fun j => ?_⟩
      rw [zx_A_cons, zx_A_cons, h2]
      have hn : ¬ (off ≤ i ∧ i < off + 2561) := fun q => by rw [zx_ble.mpr q.1, zx_blt.mpr q.2] at hc; cases hc
      by_cases hij : i = j
      · subst hij
        simp only [if_true, if_neg hn]
      · simp only [if_neg hij]
theorem zq_up_ok (off : Nat) (tl : List (Nat × Nat)) (htl : ∀ j, off ≤ j → j < off + 2561 → zx_A tl 0 j = 0) : ∀ (l : List (Nat × Nat)) (k : List (Nat × Nat) → Bool), ∃ r, zq_up off tl l k = k r ∧ ∀ j, zx_A r 0 j = if off ≤ j ∧ j < off + 2561 then zx_A l 0 (j - off) else zx_A tl 0 j
  | [], k => ⟨tl, rfl, fun j => by
    split
    · next h => exact htl j h.1 h.2
    · rfl⟩
  | (i, v) :: l, k => by
    have e : zq_up off tl ((i, v) :: l) k = cond (Nat.blt i 2561) (zx_F (i + off) (fun j => zq_up off tl l (fun r => k ((j, v) :: r)))) (zq_up off tl l k) := rfl
    cases hc : Nat.blt i 2561 with
    | true =>
      have g1 := zx_blt.mp hc
      obtain ⟨r, h1, h2⟩ := zq_up_ok off tl htl l (fun r => k ((i + off, v) :: r))
      refine ⟨(i + off, v) :: r, by rw [e, hc, cond_true, zx_F_eq]; exact h1, fun j => ?_⟩
      rw [zx_A_cons, zx_A_cons, h2]
      by_cases hj : off ≤ j ∧ j < off + 2561
      · rw [if_pos hj, if_pos hj]
        by_cases hij : i + off = j
        · rw [if_pos hij, if_pos (by show i = j - off; omega)]
        · rw [if_neg hij, if_neg (by show ¬ i = j - off; omega)]
      · rw [if_neg hj, if_neg hj, if_neg (by show ¬ i + off = j; omega)]
    | false =>
      have g1 := zx_nblt.mp hc
      obtain ⟨r, h1, h2⟩ := zq_up_ok off tl htl l k
      refine ⟨r, by rw [e, hc]; exact h1, fun j => ?_⟩
      rw [h2, zx_A_cons]
      by_cases hj : off ≤ j ∧ j < off + 2561
      · rw [if_pos hj, if_pos hj, if_neg (by show ¬ i = j - off; omega)]
      · rw [if_neg hj, if_neg hj]
theorem zq_dn_ok (off : Nat) : ∀ (l : List (Nat × Nat)) (k : List (Nat × Nat) → Bool), ∃ r, zq_dn off l k = k r ∧ ∀ j, zx_A r 0 j = zx_A l 0 (j + off)
  | [], k => ⟨[], rfl, fun j => rfl⟩
  | (i, v) :: l, k => by
    have e : zq_dn off ((i, v) :: l) k = cond (Nat.ble off i) (zx_F (i - off) (fun j => zq_dn off l (fun r => k ((j, v) :: r)))) (zq_dn off l k) := rfl
    cases hc : Nat.ble off i with
    | true =>
      have g1 := zx_ble.mp hc
      obtain ⟨r, h1, h2⟩ := zq_dn_ok off l (fun r => k ((i - off, v) :: r))
      refine ⟨(i - off, v) :: r, by rw [e, hc, cond_true, zx_F_eq]; exact h1, fun j => ?_⟩
      rw [zx_A_cons, zx_A_cons, h2]
      by_cases hij : i - off = j
      · rw [if_pos hij, if_pos (by show i = j + off; omega)]
      · rw [if_neg hij, if_neg (by show ¬ i = j + off; omega)]
    | false =>
      have g1 := zx_nble.mp hc
      obtain ⟨r, h1, h2⟩ := zq_dn_ok off l k
      refine ⟨r, by rw [e, hc]; exact h1, fun j => ?_⟩
      rw [h2, zx_A_cons, if_neg (by show ¬ i = j + off; omega)]
/-- StubHouseModel.copyOut's first loop as one instruction: at 2, on at 36 -/
noncomputable def zq_copy : zxHD := fun _ _ nxt _ lv stk hp st u w k => match stk with
  | [] => zx_F (zx_A lv 74 0) (fun c => cond (Nat.beq (c % 8) 3 && Nat.beq (zx_A lv 74 1) 0) (match zx_G hp (c / 8) with | (t, _, fs, _) => cond (Nat.beq t 27) (zx_F (zx_N 74 fs 4) (fun cp => zx_F (zx_N 74 fs 1) (fun nw => zx_F (zx_N 74 fs 7) (fun rc => cond (Nat.beq (cp % 8) 3 && (Nat.beq (nw % 8) 3 && (Nat.beq (rc % 8) 0 && (Nat.ble (rc / 8) 200 && (cond (Nat.beq (cp / 8) (nw / 8)) false (cond (Nat.beq (cp / 8) (c / 8)) false true)))))) (zx_F (cp / 8) (fun kc => match zx_G hp kc with | (t1, n1, f1, e1) => match zx_G hp (nw / 8) with | (t2, n2, f2, e2) => cond (Nat.beq t1 1 && (Nat.beq n1 514761 && (Nat.beq t2 1 && (Nat.beq n2 2561 && (Nat.beq (zx_N 74 f1 0) 0 && Nat.beq (zx_N 74 f2 0) 0))))) (zx_F (2561 * (rc / 8)) (fun off => zq_out off e1 (fun tl => zq_up off tl e2 (fun es => zx_H hp kc (1, 514761, [0], es) (fun hp2 => k nxt [(1, 20488), (0, c)] [] hp2 st u w))))) false)) false)))) false) false)
  | _ => false
def zq_Pcopy : zkPT := fun y cc nL pc _ _ nxt _ => y.cls = "StubHouseModel" ∧ cc = prog_14_method_7_code ∧ nL = 2 ∧ pc = 2 ∧ nxt = 36
section ZQ1
variable {p : Program} {l : Launch} {e : Env} {R : Room} {s : State} {m : MethodId} {args : Array Value} {below : List Frame} {meth : Method} {c : Code} {Q : State → Prop} {G : va_G} {A : Nat → Prop} {u w : Nat}
theorem zq_copy_loop (hC : zk_C) (hx : p.tables.exec = Jvm.exec) (hb : c.code = prog_14_method_7_code) (hts : ∀ w ∈ zk_T, w.before args s = true) (hown : s.vm.findClass "StubHouseModel" = some m.cls) {tys : List (ClassId × FieldType)} {ws : va_W} {km kc kn qm qc qn tc tn rec : Nat} {cC cN : ClassId} {fm : List Value} {f g0 : Nat → Int32} (hK : va_K G vwCl tys s)
    (hem : ws[km]? = some (qm, .inr (11, fm))) (h4 : fm[4]? = some (.ref qc)) (h1 : fm[1]? = some (.ref qn)) (h7 : fm[7]? = some (.int (nI rec))) (hrec : rec ≤ 200) (hen : ws[kn]? = some (qn, .inl (cN, 2561, .inl f))) (htn : tys[tn]? = some (cN, .int)) (htc : tys[tc]? = some (cC, .int)) (hlen : kc < ws.length) (hkm : kc ≠ km) (hkn : kc ≠ kn)
    (kk : ∀ (g : Nat → Int32) (H : Heap) (locs : List Loc) (ls : Array Slot), (∀ j, g j = if 2561 * rec ≤ j ∧ j < 2561 * rec + 2561 then f (j - 2561 * rec) else g0 j) → va_P G vwCl (ws.set kc (qc, .inl (cC, 514761, .inl g))) H → va_D A (ws.set kc (qc, .inl (cC, 514761, .inl g))) → va_S A s.heap H locs → lv_has ls 2 [(1, .int (nI 2561)), (0, .ref qm)] → W p l e R s m args below meth c H locs u w Q (F0 m 36 ls [])) :
    ∀ (k i : Nat) (g : Nat → Int32) (H : Heap) (locs : List Loc) (ls : Array Slot), i + k = 2561 → (∀ j, g j = if 2561 * rec ≤ j ∧ j < 2561 * rec + i then f (j - 2561 * rec) else g0 j) → va_P G vwCl (ws.set kc (qc, .inl (cC, 514761, .inl g))) H → va_D A (ws.set kc (qc, .inl (cC, 514761, .inl g))) → va_S A s.heap H locs → lv_has ls 2 [(1, .int (nI i)), (0, .ref qm)] → W p l e R s m args below meth c H locs u w Q (F0 m 2 ls []) := by
  have hin := (hC 11 _ _ _ rfl).1
  intro k
  induction k with
  | zero =>
    intro i g H locs ls hi hg hP hD hS hl
    have hi : i = 2561 := hi
    subst hi
    refine lv_iload_n hx hb (k := 1) (by decide +kernel) rfl (lv_at hl 0 rfl) ?_
    refine lv_sipush (v := nI 2561) (n := 2561) hx hb (by decide +kernel) (by decide) ?_
    refine lv_icmp_ge (tgt := 36) (off := 30) hx hb (by decide +kernel) (by decide) (fun _ => ?_) (fun q => absurd (Int32.le_refl _) q)
    exact kk g H locs ls hg hP hD hS hl
  | succ k ih =>
    intro i g H locs ls hi hg hP hD hS hl
    have hin2 : i < 2561 := by omega
    have hem2 : (ws.set kc (qc, .inl (cC, 514761, .inl g)))[km]? = some (qm, .inr (11, fm)) := by rw [List.getElem?_set_ne hkm]; exact hem
    have hen2 : (ws.set kc (qc, .inl (cC, 514761, .inl g)))[kn]? = some (qn, .inl (cN, 2561, .inl f)) := by rw [List.getElem?_set_ne hkn]; exact hen
    refine lv_iload_n hx hb (k := 1) (by decide +kernel) rfl (lv_at hl 0 rfl) ?_
    refine lv_sipush (v := nI 2561) (n := 2561) hx hb (by decide +kernel) (by decide) ?_
    refine lv_icmp_ge (tgt := 36) (off := 30) hx hb (by decide +kernel) (by decide) (fun q => absurd q (nI_ge hin2 (by decide))) (fun _ => ?_)
    refine lv_aload_n hx hb (k := 0) (by decide +kernel) rfl (lv_at hl 1 rfl) ?_
    refine va_get (ref := "StubHouseModel") hx hb hts hin hown hK hP km hem2 rfl 4 (by decide) (hts (.fieldLink "StubHouseModel" 25 "StubHouseModel" "copied" "[I") (zk_h_eq (n := 2467) (by decide +kernel) rfl rfl)) (fun _ h9 => h9) h4 (by decide +kernel) ?_
    refine lv_sipush (v := nI 2561) (n := 2561) hx hb (by decide +kernel) (by decide) ?_
    refine lv_aload_n hx hb (k := 0) (by decide +kernel) rfl (lv_at hl 1 rfl) ?_
    refine va_get (ref := "StubHouseModel") hx hb hts hin hown hK hP km hem2 rfl 7 (by decide) (hts (.fieldLink "StubHouseModel" 127 "StubHouseModel" "records" "I") (zk_h_eq (n := 2470) (by decide +kernel) rfl rfl)) (fun _ h9 => h9) h7 (by decide +kernel) ?_
    refine lv_imul hx hb (by decide +kernel) ?_
    refine lv_iload_n hx hb (k := 1) (by decide +kernel) rfl (lv_at hl 0 rfl) ?_
    refine lv_iadd hx hb (by decide +kernel) ?_
    rw [pk_mul, nI_add]
    refine lv_aload_n hx hb (k := 0) (by decide +kernel) rfl (lv_at hl 1 rfl) ?_
    refine va_get (ref := "StubHouseModel") hx hb hts hin hown hK hP km hem2 rfl 1 (by decide) (hts (.fieldLink "StubHouseModel" 13 "StubHouseModel" "now" "[I") (zk_h_eq (n := 2464) (by decide +kernel) rfl rfl)) (fun _ h9 => h9) h1 (by decide +kernel) ?_
    refine lv_iload_n hx hb (k := 1) (by decide +kernel) rfl (lv_at hl 0 rfl) ?_
    refine va_iald hx hb hK hP kn tn hen2 htn (vp_in_nI hin2 (by decide)) (by decide +kernel) ?_
    rw [nI_clamp (by omega : i < 2 ^ 31)]
    refine va_iast hx hb hK hP hD hS kc tc (List.getElem?_set_self hlen) htc (vp_in_nI (by omega) (by decide)) (by decide +kernel) (fun H locs hP hD hS => ?_)
    rw [List.set_set, nI_clamp (by omega : 2561 * rec + i < 2 ^ 31)] at hP hD
    refine lv_iinc (k := 0) (v := nI (i + 1)) (lv' := [(1, .int (nI (i + 1))), (0, .ref qm)]) (n := 1) hx hb (by decide +kernel) hl rfl (nI_1 i) (by decide) rfl (fun ls hl => ?_)
    refine lv_goto (tgt := 2) (off := -31) hx hb (by decide +kernel) (by decide) ?_
    refine ih (i + 1) _ H locs ls (by omega) (fun j => ?_) hP hD hS hl
    unfold upd
    by_cases hj : j = 2561 * rec + i
    · rw [if_pos hj, if_pos (by omega), show j - 2561 * rec = i by omega]
    · rw [if_neg hj, hg j]
      by_cases hq : 2561 * rec ≤ j ∧ j < 2561 * rec + i
      · rw [if_pos hq, if_pos (by omega)]
      · rw [if_neg hq, if_neg (by omega)]
end ZQ1
theorem zq_copy_ok (hC : zk_C) : zk_HO zq_copy zq_Pcopy := by
  intro p l e R s m args below meth c Q cc nL G σ b A y pc a a2 nxt d lv stk hp st u w k H locs ls vs ⟨hx, hb, hml, hown, hts, hnm, hA, hN⟩ ⟨hy, h1, h2, h3, h4⟩ hk h r kk
  subst h1
  subst h2
  subst h3
  subst h4
  rw [hy] at hown
  obtain ⟨hσ, hS, as, ⟨tys, ws, hK, hW, hP, hD⟩, ⟨lv', hl, hL⟩, hV⟩ := r
  rcases stk with _ | ⟨x, rr⟩
  · rcases vs with _ | ⟨vx, vr⟩
    · unfold zq_copy at h
      rw [zx_F_eq] at h
      obtain ⟨g, h⟩ := zx_c1 h
      obtain ⟨g1, g2⟩ := zx_an g
      have g1 := zx_beq.mp g1
      have g2 := zx_beq.mp g2
      obtain ⟨v0, m0, z0⟩ := zr_LV_get (fun q => by rw [q] at g1; exact absurd g1 (by decide)) hL (rfl : zx_A lv 74 0 = _)
      obtain ⟨v1, m1, z1⟩ := zr_LV_get (by decide) hL g2
      obtain ⟨qm, hqm, rfl⟩ := (zr_3 g1).mp z0
      have z1 := (zr_0 rfl).mp z1
      generalize hGm : zx_G hp (zx_A lv 74 0 / 8) = E at h
      obtain ⟨t, n, fs, es0⟩ := E
      obtain ⟨gt, h⟩ := zx_c1 h
      have gt := zx_beq.mp gt
      rw [zx_F_eq, zx_F_eq, zx_F_eq] at h
      obtain ⟨g, h⟩ := zx_c1 h
      have a1 := zx_an g
      have a2 := zx_an a1.2
      have a3 := zx_an a2.2
      have a4 := zx_an a3.2
      have a5 := zx_c0 a4.2
      have a6 := zx_c0 a5.2
      have b1 := zx_beq.mp a1.1
      have b2 := zx_beq.mp a2.1
      have b3 := zx_beq.mp a3.1
      have b4 := zx_ble.mp a4.1
      have b5 := zx_nbeq.mp a5.1
      have b6 := zx_nbeq.mp a6.1
      rw [zx_F_eq] at h
      obtain ⟨fm, hem, hfm⟩ := zq_obj hW hqm hGm (by omega)
      rw [gt] at hem
      obtain ⟨w4, hw4, y4⟩ := zr_2_get hfm (zx_N_some (rfl : zx_N 74 fs 4 = _) (by omega))
      obtain ⟨w1, hw1, y1⟩ := zr_2_get hfm (zx_N_some (rfl : zx_N 74 fs 1 = _) (by omega))
      obtain ⟨w7, hw7, y7⟩ := zr_2_get hfm (zx_N_some (rfl : zx_N 74 fs 7 = _) (by omega))
      obtain ⟨qc, hqc, rfl⟩ := (zr_3 b1).mp y4
      obtain ⟨qn, hqn, rfl⟩ := (zr_3 b2).mp y1
      have y7 := (zr_0 b3).mp y7
      subst y7
      generalize hGc : zx_G hp (zx_N 74 fs 4 / 8) = Ec at h
      generalize hGn : zx_G hp (zx_N 74 fs 1 / 8) = En at h
      obtain ⟨t1, n1, f1, e1⟩ := Ec
      obtain ⟨t2, n2, f2, e2⟩ := En
      obtain ⟨g, h⟩ := zx_c1 h
      have d1 := zx_an g
      have d2 := zx_an d1.2
      have d3 := zx_an d2.2
      have d4 := zx_an d3.2
      have d5 := zx_an d4.2
      have c1 := zx_beq.mp d1.1
      have c2 := zx_beq.mp d2.1
      have c3 := zx_beq.mp d3.1
      have c4 := zx_beq.mp d4.1
      have c5 := zx_beq.mp d5.1
      have c6 := zx_beq.mp d5.2
      rw [zx_F_eq] at h
      obtain ⟨tl, k1, htl⟩ := zq_out_ok (2561 * (zx_N 74 fs 7 / 8)) e1 (fun tl => zq_up (2561 * (zx_N 74 fs 7 / 8)) tl e2 (fun es => zx_H hp (zx_N 74 fs 4 / 8) (1, 514761, [0], es) (fun hp2 => k 36 [(1, 20488), (0, zx_A lv 74 0)] [] hp2 st u w)))
      rw [k1] at h
      obtain ⟨es, k2, hes⟩ := zq_up_ok (2561 * (zx_N 74 fs 7 / 8)) tl (fun j q1 q2 => by rw [htl, if_pos ⟨q1, q2⟩]) e2 (fun es => zx_H hp (zx_N 74 fs 4 / 8) (1, 514761, [0], es) (fun hp2 => k 36 [(1, 20488), (0, zx_A lv 74 0)] [] hp2 st u w))
      rw [k2] at h
      obtain ⟨cC, tc, gc, hec, htc, -, hfc⟩ := zq_ints hW hqc hGc (by omega) (by omega)
      obtain ⟨cN, tn, fn, hen, htn, -, hfn⟩ := zq_ints hW hqn hGn (by omega) (by omega)
      obtain ⟨hp', e3, z2, z3⟩ := zx_H_ok hp (zx_N 74 fs 4 / 8) (1, 514761, [0], es) (fun hp2 => k 36 [(1, 20488), (0, zx_A lv 74 0)] [] hp2 st u w) (by rw [hGc]; show t1 ≠ 0; omega)
      rw [e3] at h
      have hty1 : zr_ty t1 = .int := by rw [c1]; rfl
      have hty2 : zr_ty t2 = .int := by rw [c3]; rfl
      rw [hty1] at htc
      rw [hty2] at htn
      rw [c2] at hec
      rw [c4] at hen
      have hl2 : lv_has ls 2 [(1, .int (nI 0)), (0, .ref qm)] := by
        refine ⟨hl.1, hl.2.1, fun q hq => ?_⟩
        simp only [List.mem_cons, List.not_mem_nil, or_false] at hq
        rcases hq with rfl | rfl
        · have := hl.2.2 _ m1; rw [z1] at this; exact this
        · exact hl.2.2 _ m0
      refine zq_copy_loop (g0 := gc) (rec := zx_N 74 fs 7 / 8) hC hx hb hts hown hK hem hw4 hw1 hw7 b4 hen htn htc (List.getElem?_eq_some_iff.mp hec).1 b6 b5 ?_ 2561 0 gc H locs ls rfl (fun j => by rw [if_neg (by omega)]) (by rw [zq_same hec]; exact hP) (by rw [zq_same hec]; exact hD) hS hl2
      intro g H1 locs1 ls1 hg hP1 hD1 hS1 hl1
      refine kk _ _ _ _ _ _ _ _ _ _ _ h ⟨hσ, hS1, as, ⟨tys, _, hK, zr_W_set hW hqc z2 z3 ?_, hP1, hD1⟩, ⟨_, hl1, ⟨rfl, (zr_0 rfl).mpr rfl⟩, ⟨rfl, z0⟩, trivial⟩, trivial⟩
      refine Or.inr ⟨show 1 < 16 by decide, show 0 < 1 by decide, show 514761 < 2147483648 by decide, cC, tc, htc, Or.inl ⟨show 1 < 4 by decide, g, rfl, fun j hj => ?_⟩⟩
      have hj : j < 514761 := hj
      show zr σ b as (zx_A es 0 j) (.int (g j))
      rw [hes j, hg j]
      by_cases hq : 2561 * (zx_N 74 fs 7 / 8) ≤ j ∧ j < 2561 * (zx_N 74 fs 7 / 8) + 2561
      · rw [if_pos hq, if_pos hq]
        have := hfn (j - 2561 * (zx_N 74 fs 7 / 8)) (by rw [c4]; omega)
        rw [show zr_c (t2, n2, f2, e2) (j - 2561 * (zx_N 74 fs 7 / 8)) = zx_A e2 0 (j - 2561 * (zx_N 74 fs 7 / 8)) from by show zx_A e2 (zx_N 74 f2 0) _ = _; rw [c6]] at this
        exact this
      · rw [if_neg hq, if_neg hq, htl j, if_neg hq]
        have := hfc j (by rw [c2]; exact hj)
        rw [show zr_c (t1, n1, f1, e1) j = zx_A e1 0 j from by show zx_A e1 (zx_N 74 f1 0) _ = _; rw [c5]] at this
        exact this
    · exact hV.elim
  · exact absurd h Bool.false_ne_true
