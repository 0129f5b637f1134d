/-! what the second engine computes holds of the machine -/
section C59
variable {cu cw : Nat}
theorem fr_no (P : zkPT) : fr_HO cu cw fh_no P := fun _ _ _ _ _ _ _ _ _ _ _ _ _ _ _ _ _ _ _ _ _ _ _ _ _ _ _ _ _ _ _ _ h _ _ => h.elim
theorem fo_alen : fr_HO cu cw fh_alen (zp_op .arraylength) := by
  intro p l e R s m args below meth c Q cc nL G A as y pc a b nxt d lv stk S k H locs ls vs ⟨hx, hb, hml, hown, hts, hnm, hA, hN⟩ ⟨h1, h2⟩ h ⟨hS, hHP, hL, hV⟩ kk
  rcases stk with _ | ⟨x | x | ⟨g, i⟩, r⟩
  · exact h.elim
  · exact h.elim
  · exact h.elim
  have h : cond (Nat.blt 0 (fx_kd g) && Nat.blt (fx_kd g) 16) (k nxt lv (.inl (fx_n g : Int) :: r) S) False := h
  obtain ⟨hk, h⟩ := fc_t h
  obtain ⟨hk0, hk⟩ := zx_an hk
  have hk0 := zx_blt.mp hk0
  have hk := zx_blt.mp hk
  obtain ⟨q, vr, rfl, hq, hV⟩ := fv_r hV
  obtain ⟨hT, tys, ws, hK, hW, hP, hD, hAs⟩ := id hHP
  obtain ⟨hi, e0, he, hE⟩ := fr_W_get hW hq (by omega)
  obtain ⟨hn31, -⟩ := fx_arr hi hk
  rcases hE with ⟨h16, -⟩ | ⟨-, -, cA, t0, hty, hE⟩
  · omega
  have kw : W p l e R s m args below meth c H locs cu cw Q (F0 m (pc + 1) ls (.int (Int32.ofInt (fx_n g : Int)) :: vr)) := h2 ▸ kk _ _ _ _ _ _ _ _ h ⟨hS, hHP, hL, ⟨rfl, by omega⟩, hV⟩
  have e1 : Int32.ofNat (fx_n g) = Int32.ofInt (fx_n g : Int) := rfl
  rcases hE with ⟨h4, f, rfl, hf⟩ | ⟨h4, f, rfl⟩ | ⟨h4, f, rfl, hf⟩
  · exact va_alen hx hb hK hP (fx_flat g i) t0 he hty e1 h1 kw
  · exact va_alen hx hb hK hP (fx_flat g i) t0 he hty e1 h1 kw
  · exact va_alen hx hb hK hP (fx_flat g i) t0 he hty e1 h1 kw
noncomputable def fx_Ps : List zkPT := [zp_op .idiv, zp_op .irem, fp_bin, zp_op .ineg, zp_op .dup2, fp_lstore_n, fp_lstore, fp_ldcw, zp_op .pop2]
theorem fx_more_ok : zr_2 (fr_HO cu cw) fx_more fx_Ps := ⟨fo_idiv, fo_irem, fo_bin, fo_ineg, fo_dup2, fo_lstore_n, fo_lstore, fo_ldcw, fo_pop2, trivial⟩
theorem fx_hands_ok (hC : zk_C) : zr_2 (fr_HO cu cw) fx_hands zk_props := ⟨fo_aload_n, fo_iload_n, fo_get hC, fo_iconst, fo_iload, fo_iadd, fo_icmp, fo_if, fo_iald, fo_goto, fo_iinc, fo_bipush, fo_sipush, fo_istore_n, fo_istore, fo_put hC, fo_iast, fo_imul, fo_aald, fo_isub, fo_i2l, fo_lcmp, fo_lload_n, fo_lload, fo_ldc2, fo_lconst, fo_dup, fo_pop, fo_dupx1, fo_aload, fo_astore_n, fo_astore, fo_bald, fo_zald, fo_bast, fo_zast, fo_lald, fo_last, fr_no _, fo_i2b, fo_l2i, fo_lshl, fo_lushr, fo_land, fo_lor, fo_iand, fo_switch, fr_no _, fr_no _, fr_no _, fo_alen, fo_ldc, fr_no _, trivial⟩
end C59
section FM
variable {p : Program} {l : Launch} {e : Env} {R : Room} {s : State} {m : MethodId} {args : Array Value} {below : List Frame} {meth : Method} {c : Code} {Q : State → Prop} {cc : ByteArray} {nL : Nat} {G : va_G} {A : Nat → Prop} {as : List Nat} {pc a b nxt : Nat} {d : List Nat} {lv : fxL} {stk : List fxV} {S : fxS} {k : fxZ} {H : Heap} {locs : List Loc} {ls : Array Slot} {vs : List Value} {own : String}
theorem fz_neg {z : Int} (h : -2147483648 ≤ z ∧ z < 2147483648) (h0 : 0 ≤ z) : ¬ Int32.ofInt z < 0 := by
  intro q
  have q : Int32.ofInt z < Int32.ofInt 0 := q
  rw [fz_lt h ⟨by omega, by omega⟩] at q
  omega
theorem fo_acopy (hx : p.tables.exec = Jvm.exec) (hb : c.code = cc) (hml : c.maxLocals = nL) (hts : ∀ w ∈ zk_T, w.before args s = true) (hown : s.vm.findClass own = some m.cls) (hlink : Cond.methodLink own a arraycopyName ∈ zk_T) (hnat : Cond.native arraycopyName ∈ zk_T) (hstat : Cond.static arraycopyName ∈ zk_T) (hini : Cond.initialized "java/lang/System" ∈ zk_T) (hfr : 1 ≤ R.frames) (hlo : 60 ≤ R.locals) (hdg : decode cc pc = .ok (.invokestatic a, 3)) (hn : nxt = pc + 3) (h : fx_acopy nxt lv stk S k) (r : fr_R G A nL s as H locs ls vs lv stk S) (kk : fr_KK 0 0 p l e R s m args below meth c Q G A nL as k) : W p l e R s m args below meth c H locs 0 0 Q (F0 m pc ls vs) := by
  obtain ⟨hS, hHP, hL, hV⟩ := r
  rcases stk with _ | ⟨n | n | n, _ | ⟨dp | dp | dp, _ | ⟨x | x | ⟨g, i⟩, _ | ⟨sp | sp | sp, _ | ⟨y | y | ⟨g0, i0⟩, _ | ⟨z, rr⟩⟩⟩⟩⟩⟩
  case cons.inl.cons.inl.cons.inr.inr.cons.inl.cons.inr.inr.nil =>
    have h : cond (Nat.beq (fx_kd g) (fx_kd g0) && (Nat.beq (fx_kd g) 1 || Nat.beq (fx_kd g) 2)) (((fx_sl g 0).2.2.2.1 ≤ (fx_sl g0 0).2.2.2.1 ∧ (fx_sl g0 0).2.2.2.2 ≤ (fx_sl g 0).2.2.2.2) ∧ ((0 ≤ sp ∧ 0 ≤ dp) ∧ (0 ≤ n ∧ sp + n ≤ (fx_n g0 : Int) ∧ dp + n ≤ (fx_n g : Int))) ∧ k nxt lv [] (fun g' i' j => if g' = g ∧ i' = i ∧ (dp ≤ (j : Int) ∧ (j : Int) < dp + n) then S g0 i0 ((j : Int) - dp + sp).toNat else S g' i' j)) False := h
    obtain ⟨hk, hty1, hrg, h⟩ := fc_t h
    obtain ⟨hk, hk12⟩ := zx_an hk
    have hk := zx_beq.mp hk
    have hk12 : fx_kd g = 1 ∨ fx_kd g = 2 := (Bool.or_eq_true_iff.mp hk12).imp zx_beq.mp zx_beq.mp
    obtain ⟨vr1, rfl, hn1, hV1⟩ := fv_i hV
    obtain ⟨vr2, rfl, hdp, hV2⟩ := fv_i hV1
    obtain ⟨q, vr3, rfl, hq, hV3⟩ := fv_r hV2
    obtain ⟨vr4, rfl, hsp, hV4⟩ := fv_i hV3
    obtain ⟨q0, vr5, rfl, hq0, hV5⟩ := fv_r hV4
    have := fv_n hV5
    subst this
    obtain ⟨lv', hl, hlv⟩ := hL
    obtain ⟨hT, tys, ws, hK, hW, hP, hD, hAs⟩ := id hHP
    obtain ⟨hi, e1, he, hE⟩ := fr_W_get hW hq (by omega)
    obtain ⟨hi0, e0, he0, hE0⟩ := fr_W_get hW hq0 (by omega)
    have hat := (fr_at_some hq (by omega)).2
    obtain ⟨hn31, so, g', mode, lo, hi2, hsl, hcase⟩ := fx_arr hi (by omega)
    obtain ⟨hn310, so0, g0', mode0, lo0, hi20, hsl0, hcase0⟩ := fx_arr hi0 (by omega)
    rw [hsl, hsl0] at hty1
    have hty1 : lo ≤ lo0 ∧ hi20 ≤ hi2 := hty1
    rcases hE with ⟨h16, -⟩ | ⟨k1, k2, cA, t0, hty, hE⟩
    · omega
    rcases hE0 with ⟨h16, -⟩ | ⟨k10, k20, cA0, t00, hty0, hE0⟩
    · omega
    rcases hE with ⟨h4, f, rfl, hf⟩ | ⟨h4, -⟩ | ⟨h4, -⟩
    · rcases hE0 with ⟨h40, f0, rfl, hf0⟩ | ⟨h40, -⟩ | ⟨h40, -⟩
      · rw [← hk] at hty0
        have hT0 : ∀ j, j < fx_n g0 → lo0 ≤ S g0 i0 j ∧ S g0 i0 j ≤ hi20 := by
          intro j hj
          have := hT g0 i0 j hi0 hj (by rw [hsl0]; show so0 ≠ 2; omega) (by rw [hsl0]; show so0 ≠ 3; omega)
          rw [hsl0] at this
          exact this
        refine va_copyi (ty := zr_ty (fx_kd g)) hx hb (by rw [hml]; exact hl.1.symm) hown (hts _ hlink) (hts _ hnat) (hts _ hstat) (hts _ hini) hK hP hD hS (fx_flat g0 i0) (fx_flat g i) t00 t0 he0 he hty0 hty ?_ (fz_neg hsp (by omega)) (fz_neg hdp (by omega)) (fz_neg hn1 (by omega)) ?_ ?_ ?_ hfr ?_ hdg (fun H1 locs1 hP1 hD1 hS1 => ?_)
        · rcases hk12 with q | q <;> rw [q] <;> rfl
        · rw [fz_cl (by omega) (by omega), fz_cl (by omega) (by omega)]; omega
        · rw [fz_cl (by omega) (by omega), fz_cl (by omega) (by omega)]; omega
        · intro j hj
          rw [fz_cl (by omega) (by omega)] at hj
          rw [fz_cl (by omega) (by omega), hf0 _ (by omega)]
          have hb2 := hT0 (sp.toNat + j) (by omega)
          rcases hk12 with q | q
          · rw [q]; rfl
          · rw [q]
            have hlh : lo0 = -128 ∧ hi20 = 127 := by omega
            show (decide (-128 ≤ Int32.ofInt (S g0 i0 (sp.toNat + j))) && decide (Int32.ofInt (S g0 i0 (sp.toNat + j)) ≤ 127)) = true
            have z0 : (-128 : Int32) = Int32.ofInt (-128) := by decide
            have z1 : (-128 : Int32) ≤ Int32.ofInt (S g0 i0 (sp.toNat + j)) := by
              rw [z0]
              exact (fz_le (x := -128) ⟨by omega, by omega⟩ ⟨by omega, by omega⟩).mpr (by omega)
            have z3 : (127 : Int32) = Int32.ofInt 127 := by decide
            have z2 : Int32.ofInt (S g0 i0 (sp.toNat + j)) ≤ (127 : Int32) := by
              rw [z3]
              exact (fz_le (y := 127) ⟨by omega, by omega⟩ ⟨by omega, by omega⟩).mpr (by omega)
            rw [decide_eq_true z1, decide_eq_true z2]; rfl
        · show 0 + (nativeFrameWords "java/lang/System" "arraycopy" 5 + 11) ≤ R.locals
          exact Nat.le_trans (by decide) hlo
        · rw [fz_cl (by omega) (by omega), fz_cl (by omega) (by omega), fz_cl (by omega) (by omega)] at hP1 hD1
          refine hn ▸ kk _ _ _ _ _ _ _ _ h ⟨hS1, ⟨?_, tys, _, hK, fr_W_set (S' := fun g' i' j => if g' = g ∧ i' = i ∧ (dp ≤ (j : Int) ∧ (j : Int) < dp + n) then S g0 i0 ((j : Int) - dp + sp).toNat else S g' i' j) hW hi he hat (Or.inr ⟨k1, k2, cA, t0, hty, Or.inl ⟨h4, _, rfl, fun j hj => ?_⟩⟩) (fun g' i' hq => ?_), hP1, hD1, hAs⟩, ⟨lv', hl, hlv⟩, trivial⟩
          · intro g' i' j a1 a2 a3 a4
            show _ ≤ (if g' = g ∧ i' = i ∧ (dp ≤ (j : Int) ∧ (j : Int) < dp + n) then S g0 i0 ((j : Int) - dp + sp).toNat else S g' i' j) ∧ (if g' = g ∧ i' = i ∧ (dp ≤ (j : Int) ∧ (j : Int) < dp + n) then S g0 i0 ((j : Int) - dp + sp).toNat else S g' i' j) ≤ _
            by_cases hq : g' = g ∧ i' = i ∧ (dp ≤ (j : Int) ∧ (j : Int) < dp + n)
            · rw [if_pos hq]
              obtain ⟨rfl, rfl, hq1, hq2⟩ := hq
              have := hT0 ((j : Int) - dp + sp).toNat (by omega)
              rw [hsl]
              show lo ≤ _ ∧ _ ≤ hi2
              omega
            · rw [if_neg hq]
              exact hT g' i' j a1 a2 a3 a4
          · show va_cpy f0 f sp.toNat dp.toNat n.toNat j = Int32.ofInt (if g = g ∧ i = i ∧ (dp ≤ (j : Int) ∧ (j : Int) < dp + n) then S g0 i0 ((j : Int) - dp + sp).toNat else S g i j)
            unfold va_cpy
            by_cases hq : dp ≤ (j : Int) ∧ (j : Int) < dp + n
            · rw [if_pos (by omega), if_pos ⟨rfl, rfl, hq⟩, hf0 _ (by omega)]
              rw [show sp.toNat + (j - dp.toNat) = ((j : Int) - dp + sp).toNat by omega]
            · rw [if_neg (by omega), if_neg (fun z => hq z.2.2)]
              exact hf j hj
          · funext j
            exact if_neg (fun z => hq ⟨z.1, z.2.1⟩)
      · omega
      · omega
    · omega
    · omega
  all_goals exact h.elim
theorem fo_math (hx : p.tables.exec = Jvm.exec) (hb : c.code = cc) (hml : c.maxLocals = nL) (hts : ∀ w ∈ zk_T, w.before args s = true) (hown : s.vm.findClass own = some m.cls) (hini : Cond.initialized "java/lang/Math" ∈ zk_T) (hfr : 1 ≤ R.frames) (hlo : 60 ≤ R.locals) (hdg : decode cc pc = .ok (.invokestatic a, 3)) (hn : nxt = pc + 3)
    (hw : (b = 0 ∧ Cond.methodLink own a Lib.Math.max.name ∈ zk_T ∧ Cond.static Lib.Math.max.name ∈ zk_T ∧ Cond.code Lib.Math.max.name Lib.Math.max.code 2 (some .int) ∈ zk_T) ∨ (b = 1 ∧ Cond.methodLink own a Lib.Math.min.name ∈ zk_T ∧ Cond.static Lib.Math.min.name ∈ zk_T ∧ Cond.code Lib.Math.min.name Lib.Math.min.code 2 (some .int) ∈ zk_T) ∨ (b = 2 ∧ Cond.methodLink own a Lib.Math.abs.name ∈ zk_T ∧ Cond.static Lib.Math.abs.name ∈ zk_T ∧ Cond.code Lib.Math.abs.name Lib.Math.abs.code 1 (some .int) ∈ zk_T))
    (h : fx_math b nxt lv stk S k) (r : fr_R G A nL s as H locs ls vs lv stk S) (kk : fr_KK 0 0 p l e R s m args below meth c Q G A nL as k) : W p l e R s m args below meth c H locs 0 0 Q (F0 m pc ls vs) := by
  obtain ⟨hS, hHP, hL, hV⟩ := r
  obtain ⟨lv', hl, hlv⟩ := id hL
  rcases hw with ⟨rfl, w1, w2, w3⟩ | ⟨rfl, w1, w2, w3⟩ | ⟨rfl, w1, w2, w3⟩
  · obtain ⟨x, z, r, rfl, h⟩ := fi_2 (P := fun x y r => cond (Nat.ble (fx_cat r) 8) (∀ z : Int, x ≤ z → y ≤ z → (z = x ∨ z = y) → k nxt lv (.inl z :: r) S) False) h
    obtain ⟨vr, rfl, hz, hV⟩ := fv_i hV
    obtain ⟨vr, rfl, hx1, hV⟩ := fv_i hV
    obtain ⟨h8, h⟩ := fc_t h
    have h8 := zx_ble.mp h8
    refine va_mmax hx hb (by rw [hml]; exact hl.1.symm) hown (hts _ w1) (hts _ w2) (hts _ hini) (hts _ w3) hfr (by rw [(fx_cat_sl hV).2]; omega) (Nat.zero_le _) (Nat.zero_le _) hdg ?_
    by_cases hc : x < z
    · rw [if_pos ((fz_lt hx1 hz).mpr hc)]
      exact hn ▸ kk _ _ _ _ _ _ _ _ (h z (by omega) (by omega) (Or.inr rfl)) ⟨hS, hHP, hL, ⟨rfl, hz⟩, hV⟩
    · rw [if_neg (by rw [fz_lt hx1 hz]; exact hc)]
      exact hn ▸ kk _ _ _ _ _ _ _ _ (h x (by omega) (by omega) (Or.inl rfl)) ⟨hS, hHP, hL, ⟨rfl, hx1⟩, hV⟩
  · obtain ⟨x, z, r, rfl, h⟩ := fi_2 (P := fun x y r => cond (Nat.ble (fx_cat r) 8) (∀ z : Int, z ≤ x → z ≤ y → (z = x ∨ z = y) → k nxt lv (.inl z :: r) S) False) h
    obtain ⟨vr, rfl, hz, hV⟩ := fv_i hV
    obtain ⟨vr, rfl, hx1, hV⟩ := fv_i hV
    obtain ⟨h8, h⟩ := fc_t h
    have h8 := zx_ble.mp h8
    refine va_mmin hx hb (by rw [hml]; exact hl.1.symm) hown (hts _ w1) (hts _ w2) (hts _ hini) (hts _ w3) hfr (by rw [(fx_cat_sl hV).2]; omega) (Nat.zero_le _) (Nat.zero_le _) hdg ?_
    by_cases hc : z < x
    · rw [if_pos ((fz_lt hz hx1).mpr hc)]
      exact hn ▸ kk _ _ _ _ _ _ _ _ (h z (by omega) (by omega) (Or.inr rfl)) ⟨hS, hHP, hL, ⟨rfl, hz⟩, hV⟩
    · rw [if_neg (by rw [fz_lt hz hx1]; exact hc)]
      exact hn ▸ kk _ _ _ _ _ _ _ _ (h x (by omega) (by omega) (Or.inl rfl)) ⟨hS, hHP, hL, ⟨rfl, hx1⟩, hV⟩
  · obtain ⟨x, r, rfl, h⟩ := fi_1 (P := fun x r => cond (Nat.ble (fx_cat r) 8) (∀ z : Int, -2147483648 ≤ z → z < 2147483648 → (-2147483648 < x → 0 ≤ z ∧ (z = x ∨ z = -x)) → k nxt lv (.inl z :: r) S) False) h
    obtain ⟨vr, rfl, hx1, hV⟩ := fv_i hV
    obtain ⟨h8, h⟩ := fc_t h
    have h8 := zx_ble.mp h8
    refine va_mabs hx hb (by rw [hml]; exact hl.1.symm) hown (hts _ w1) (hts _ w2) (hts _ hini) (hts _ w3) hfr (by rw [(fx_cat_sl hV).2]; omega) (Nat.zero_le _) (Nat.zero_le _) hdg ?_
    by_cases hc : 0 ≤ x
    · rw [if_pos (show (0 : Int32) ≤ Int32.ofInt x from (fz_le (x := 0) ⟨by omega, by omega⟩ hx1).mpr hc)]
      exact hn ▸ kk _ _ _ _ _ _ _ _ (h x hx1.1 hx1.2 (fun _ => ⟨hc, Or.inl rfl⟩)) ⟨hS, hHP, hL, ⟨rfl, hx1⟩, hV⟩
    · rw [if_neg (by
        intro q
        exact hc ((fz_le (x := 0) ⟨by omega, by omega⟩ hx1).mp q))]
      refine hn ▸ kk _ _ _ _ _ _ _ _ (h (0 - Int32.ofInt x).toInt (fz_in _).1 (fz_in _).2 (fun q => ?_)) ⟨hS, hHP, hL, fr_int _, hV⟩
      have e0 : (0 : Int32) - Int32.ofInt x = Int32.ofInt (-x) := by
        rw [show (0 : Int32) = Int32.ofInt 0 from rfl, ← Int32.ofInt_sub]
        congr 1
        omega
      rw [e0, fz_to ⟨by omega, by omega⟩]
      omega
end FM
/-- the rows of Math's methods -/
def fx_r90 (y : MethodName) (cc : ByteArray) (pc : Nat) (r : zxRow) : Prop := r.1 = 90 → r.2.2.2.1 = pc + 3 ∧ Cond.initialized "java/lang/Math" ∈ zk_T ∧ decode cc pc = .ok (.invokestatic (r.2.1 % 65536), 3) ∧
  ((r.2.2.1 = 0 ∧ Cond.methodLink y.cls (r.2.1 % 65536) Lib.Math.max.name ∈ zk_T ∧ Cond.static Lib.Math.max.name ∈ zk_T ∧ Cond.code Lib.Math.max.name Lib.Math.max.code 2 (some .int) ∈ zk_T) ∨ (r.2.2.1 = 1 ∧ Cond.methodLink y.cls (r.2.1 % 65536) Lib.Math.min.name ∈ zk_T ∧ Cond.static Lib.Math.min.name ∈ zk_T ∧ Cond.code Lib.Math.min.name Lib.Math.min.code 2 (some .int) ∈ zk_T) ∨ (r.2.2.1 = 2 ∧ Cond.methodLink y.cls (r.2.1 % 65536) Lib.Math.abs.name ∈ zk_T ∧ Cond.static Lib.Math.abs.name ∈ zk_T ∧ Cond.code Lib.Math.abs.name Lib.Math.abs.code 1 (some .int) ∈ zk_T))
noncomputable def fx_c90 (y : MethodName) (cc : ByteArray) (pc : Nat) (r : zxRow) : Bool := match r with
  | (op, a, b, nxt, _) => cond (Nat.beq op 90) (decide (nxt = pc + 3 ∧ decode cc pc = .ok (.invokestatic (a % 65536), 3)) && (decide (zk_h 16 = .initialized "java/lang/Math") &&
      ((Nat.beq b 0 && (decide (zk_h (a / 65536) = .methodLink y.cls (a % 65536) Lib.Math.max.name) && (decide (zk_h 1216 = .static Lib.Math.max.name) && decide (zk_h 1217 = .code Lib.Math.max.name Lib.Math.max.code 2 (some .int))))) ||
       ((Nat.beq b 1 && (decide (zk_h (a / 65536) = .methodLink y.cls (a % 65536) Lib.Math.min.name) && (decide (zk_h 1339 = .static Lib.Math.min.name) && decide (zk_h 1340 = .code Lib.Math.min.name Lib.Math.min.code 2 (some .int))))) ||
        (Nat.beq b 2 && (decide (zk_h (a / 65536) = .methodLink y.cls (a % 65536) Lib.Math.abs.name) && (decide (zk_h 1777 = .static Lib.Math.abs.name) && decide (zk_h 1778 = .code Lib.Math.abs.name Lib.Math.abs.code 1 (some .int))))))))) true
theorem fx_c90_ok {y : MethodName} {cc : ByteArray} {pc : Nat} {r : zxRow} (h : fx_c90 y cc pc r = true) : fx_r90 y cc pc r := by
  obtain ⟨op, a, b, nxt, d⟩ := r
  intro ho
  have ho : op = 90 := ho
  subst ho
  obtain ⟨h1, h2⟩ := zx_an h
  obtain ⟨h2, h3⟩ := zx_an h2
  obtain ⟨g1, g2⟩ := of_decide_eq_true h1
  refine ⟨g1, zk_h_eq h2 rfl rfl, g2, ?_⟩
  rcases Bool.or_eq_true_iff.mp h3 with q | q
  · obtain ⟨q1, q2⟩ := zx_an q
    obtain ⟨q2, q3⟩ := zx_an q2
    obtain ⟨q3, q4⟩ := zx_an q3
    exact Or.inl ⟨zx_beq.mp q1, zk_h_eq q2 rfl rfl, zk_h_eq q3 rfl rfl, zk_h_eq q4 rfl rfl⟩
  rcases Bool.or_eq_true_iff.mp q with q | q
  · obtain ⟨q1, q2⟩ := zx_an q
    obtain ⟨q2, q3⟩ := zx_an q2
    obtain ⟨q3, q4⟩ := zx_an q3
    exact Or.inr (Or.inl ⟨zx_beq.mp q1, zk_h_eq q2 rfl rfl, zk_h_eq q3 rfl rfl, zk_h_eq q4 rfl rfl⟩)
  · obtain ⟨q1, q2⟩ := zx_an q
    obtain ⟨q2, q3⟩ := zx_an q2
    obtain ⟨q3, q4⟩ := zx_an q3
    exact Or.inr (Or.inr ⟨zx_beq.mp q1, zk_h_eq q2 rfl rfl, zk_h_eq q3 rfl rfl, zk_h_eq q4 rfl rfl⟩)
noncomputable def fx_all90 (y : MethodName) (cc : ByteArray) (tb : zxTB) : Bool := (List.range (16 * tb.length)).all (fun pc => fx_c90 y cc pc (zx_row tb pc))
theorem fx_all90_ok {y : MethodName} {cc : ByteArray} {tb : zxTB} (h : fx_all90 y cc tb = true) : ∀ pc, fx_r90 y cc pc (zx_row tb pc) := by
  intro pc
  by_cases hp : pc < 16 * tb.length
  · exact fx_c90_ok (List.all_eq_true.mp h pc (List.mem_range.mpr hp))
  · have e : zx_row tb pc = (999, 0, 0, 0, []) := by
      unfold zx_row
      have e1 : zx_N [] tb (pc / 16) = [] := by
        rw [zx_N_eq, List.getElem?_eq_none (by omega)]; rfl
      rw [e1]; rfl
    rw [e]
    intro q
    exact absurd (show 999 = 90 from q) (by decide)
