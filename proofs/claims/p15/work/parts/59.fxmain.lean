/-! what the second engine computes holds of the machine -/
theorem fr_no (P : zkPT) : fr_HO fh_no P := fun _ _ _ _ _ _ _ _ _ _ _ _ _ _ _ _ _ _ _ _ _ _ _ _ _ _ _ _ _ _ _ _ h _ _ => h.elim
theorem fo_alen : fr_HO fh_alen (zp_op .arraylength) := by
  intro p l e R s m args below meth c Q cc nL G A as y pc a b nxt d lv stk S k H locs ls vs ⟨hx, hb, hml, hown, hts, hnm, hA, hN⟩ ⟨h1, h2⟩ h ⟨hS, hHP, hL, hV⟩ kk
  rcases stk with _ | ⟨x | x | ⟨g, i⟩, r⟩
  · exact h.elim
  · exact h.elim
  · exact h.elim
  have h : cond (Nat.blt 0 (fx_kd g) && Nat.blt (fx_kd g) 16) (k nxt lv (.inl (fx_n g : Int) :: r) S) False := h
  obtain ⟨hk, h⟩ := fc_t h
  obtain ⟨hk0, hk⟩ := zx_an hk
  have hk := zx_blt.mp hk
  obtain ⟨q, vr, rfl, hq, hV⟩ := fv_r hV
  obtain ⟨hT, tys, ws, hK, hW, hP, hD, hAs⟩ := id hHP
  obtain ⟨hi, e0, he, hE⟩ := fr_W_get hW hq
  obtain ⟨hn31, -⟩ := fx_arr hi hk
  rcases hE with ⟨h16, -⟩ | ⟨-, -, cA, t0, hty, hE⟩
  · omega
  have kw : W p l e R s m args below meth c H locs 0 0 Q (F0 m (pc + 1) ls (.int (Int32.ofInt (fx_n g : Int)) :: vr)) := h2 ▸ kk _ _ _ _ _ _ _ _ h ⟨hS, hHP, hL, ⟨rfl, by omega⟩, hV⟩
  have e1 : Int32.ofNat (fx_n g) = Int32.ofInt (fx_n g : Int) := rfl
  rcases hE with ⟨h4, f, rfl, hf⟩ | ⟨h4, f, rfl⟩ | ⟨h4, f, rfl, hf⟩
  · exact va_alen hx hb hK hP (fx_flat g i) t0 he hty e1 h1 kw
  · exact va_alen hx hb hK hP (fx_flat g i) t0 he hty e1 h1 kw
  · exact va_alen hx hb hK hP (fx_flat g i) t0 he hty e1 h1 kw
noncomputable def fx_Ps : List zkPT := [zp_op .idiv, zp_op .irem, fp_bin, zp_op .ineg, zp_op .dup2, fp_lstore_n, fp_lstore, fp_ldcw, zp_op .pop2]
theorem fx_more_ok : zr_2 fr_HO fx_more fx_Ps := ⟨fo_idiv, fo_irem, fo_bin, fo_ineg, fo_dup2, fo_lstore_n, fo_lstore, fo_ldcw, fo_pop2, trivial⟩
theorem fx_hands_ok (hC : zk_C) : zr_2 fr_HO fx_hands zk_props := ⟨fo_aload_n, fo_iload_n, fo_get hC, fo_iconst, fo_iload, fo_iadd, fo_icmp, fo_if, fo_iald, fo_goto, fo_iinc, fo_bipush, fo_sipush, fo_istore_n, fo_istore, fo_put hC, fo_iast, fo_imul, fo_aald, fo_isub, fo_i2l, fo_lcmp, fo_lload_n, fo_lload, fo_ldc2, fo_lconst, fo_dup, fo_pop, fo_dupx1, fo_aload, fo_astore_n, fo_astore, fo_bald, fo_zald, fo_bast, fo_zast, fo_lald, fo_last, fr_no _, fo_i2b, fo_l2i, fo_lshl, fo_lushr, fo_land, fo_lor, fo_iand, fo_switch, fr_no _, fr_no _, fr_no _, fo_alen, fo_ldc, fr_no _, trivial⟩
section FM
variable {p : Program} {l : Launch} {e : Env} {R : Room} {s : State} {m : MethodId} {args : Array Value} {below : List Frame} {meth : Method} {c : Code} {Q : State → Prop} {cc : ByteArray} {nL : Nat} {G : va_G} {A : Nat → Prop} {as : List Nat} {pc a b nxt : Nat} {d : List Nat} {lv : fxL} {stk : List fxV} {S : fxS} {k : fxZ} {H : Heap} {locs : List Loc} {ls : Array Slot} {vs : List Value} {own : String}
theorem fz_neg {z : Int} (h : -2147483648 ≤ z ∧ z < 2147483648) (h0 : 0 ≤ z) : ¬ Int32.ofInt z < 0 := by
  intro q
  have q : Int32.ofInt z < Int32.ofInt 0 := q
  rw [fz_lt h ⟨by omega, by omega⟩] at q
  omega
theorem fo_acopy (hx : p.tables.exec = Jvm.exec) (hb : c.code = cc) (hml : c.maxLocals = nL) (hts : ∀ w ∈ zk_T, w.before args s = true) (hown : s.vm.findClass own = some m.cls) (hlink : Cond.methodLink own a arraycopyName ∈ zk_T) (hnat : Cond.native arraycopyName ∈ zk_T) (hstat : Cond.static arraycopyName ∈ zk_T) (hini : Cond.initialized "java/lang/System" ∈ zk_T) (hfr : 1 ≤ R.frames) (hlo : 60 ≤ R.locals) (hdg : decode cc pc = .ok (.invokestatic a, 3)) (hn : nxt = pc + 3) (h : fx_acopy nxt lv stk S k) (r : fr_R G A nL s as H locs ls vs lv stk S) (kk : fr_KK p l e R s m args below meth c Q G A nL as k) : W p l e R s m args below meth c H locs 0 0 Q (F0 m pc ls vs) := by
  obtain ⟨hS, hHP, hL, hV⟩ := r
  rcases stk with _ | ⟨n | n | n, _ | ⟨dp | dp | dp, _ | ⟨x | x | ⟨g, i⟩, _ | ⟨sp | sp | sp, _ | ⟨y | y | ⟨g0, i0⟩, _ | ⟨z, rr⟩⟩⟩⟩⟩⟩
  case cons.inl.cons.inl.cons.inr.inr.cons.inl.cons.inr.inr.nil =>
    have h : cond (Nat.beq (fx_kd g) (fx_kd g0) && (Nat.beq (fx_kd g) 1 || Nat.beq (fx_kd g) 2)) (((fx_sl g 0).2.2.2.1 ≤ (fx_sl g0 0).2.2.2.1 ∧ (fx_sl g0 0).2.2.2.2 ≤ (fx_sl g 0).2.2.2.2) ∧ ((0 ≤ sp ∧ 0 ≤ dp) ∧ (0 ≤ n ∧ sp + n ≤ (fx_n g0 : Int) ∧ dp + n ≤ (fx_n g : Int))) ∧ k nxt lv [] (fun g' i' j => if g' = g ∧ i' = i ∧ (dp ≤ (j : Int) ∧ (j : Int) < dp + n) then S g0 i0 ((j : Int) - dp + sp).toNat else S g' i' j)) False := h
    obtain ⟨hk, hty1, hrg, h⟩ := fc_t h
    obtain ⟨hk, hk12⟩ := zx_an hk
    have hk := zx_beq.mp hk
    have hk12 : fx_kd g = 1 ∨ fx_kd g = 2 := (Bool.or_eq_true_iff.mp hk12).imp zx_beq.mp zx_beq.mp
    obtain ⟨vr1, rfl, hn1, hV1⟩ := fv_i hV
    obtain ⟨vr2, rfl, hdp, hV2⟩ := fv_i hV1
    obtain ⟨q, vr3, rfl, hq, hV3⟩ := fv_r hV2
    obtain ⟨vr4, rfl, hsp, hV4⟩ := fv_i hV3
    obtain ⟨q0, vr5, rfl, hq0, hV5⟩ := fv_r hV4
    have := fv_n hV5
    subst this
    obtain ⟨lv', hl, hlv⟩ := hL
    obtain ⟨hT, tys, ws, hK, hW, hP, hD, hAs⟩ := id hHP
    obtain ⟨hi, e1, he, hE⟩ := fr_W_get hW hq
    obtain ⟨hi0, e0, he0, hE0⟩ := fr_W_get hW hq0
    have hat := (fr_at_some hq).2
    obtain ⟨hn31, so, g', mode, lo, hi2, hsl, hcase⟩ := fx_arr hi (by omega)
    obtain ⟨hn310, so0, g0', mode0, lo0, hi20, hsl0, hcase0⟩ := fx_arr hi0 (by omega)
    rw [hsl, hsl0] at hty1
    have hty1 : lo ≤ lo0 ∧ hi20 ≤ hi2 := hty1
    rcases hE with ⟨h16, -⟩ | ⟨k1, k2, cA, t0, hty, hE⟩
    · omega
    rcases hE0 with ⟨h16, -⟩ | ⟨k10, k20, cA0, t00, hty0, hE0⟩
    · omega
    rcases hE with ⟨h4, f, rfl, hf⟩ | ⟨h4, -⟩ | ⟨h4, -⟩
    · rcases hE0 with ⟨h40, f0, rfl, hf0⟩ | ⟨h40, -⟩ | ⟨h40, -⟩
      · rw [← hk] at hty0
        have hT0 : ∀ j, j < fx_n g0 → lo0 ≤ S g0 i0 j ∧ S g0 i0 j ≤ hi20 := by
          intro j hj
          have := hT g0 i0 j hi0 hj (by rw [hsl0]; show so0 ≠ 2; omega) (by rw [hsl0]; show so0 ≠ 3; omega)
          rw [hsl0] at this
          exact this
        refine va_copyi (ty := zr_ty (fx_kd g)) hx hb (by rw [hml]; exact hl.1.symm) hown (hts _ hlink) (hts _ hnat) (hts _ hstat) (hts _ hini) hK hP hD hS (fx_flat g0 i0) (fx_flat g i) t00 t0 he0 he hty0 hty ?_ (fz_neg hsp (by omega)) (fz_neg hdp (by omega)) (fz_neg hn1 (by omega)) ?_ ?_ ?_ hfr ?_ hdg (fun H1 locs1 hP1 hD1 hS1 => ?_)
        · rcases hk12 with q | q <;> rw [q] <;> rfl
        · rw [fz_cl (by omega) (by omega), fz_cl (by omega) (by omega)]; omega
        · rw [fz_cl (by omega) (by omega), fz_cl (by omega) (by omega)]; omega
        · intro j hj
          rw [fz_cl (by omega) (by omega)] at hj
          rw [fz_cl (by omega) (by omega), hf0 _ (by omega)]
          have hb2 := hT0 (sp.toNat + j) (by omega)
          rcases hk12 with q | q
          · rw [q]; rfl
          · rw [q]
            have hlh : lo0 = -128 ∧ hi20 = 127 := by omega
            show (decide (-128 ≤ Int32.ofInt (S g0 i0 (sp.toNat + j))) && decide (Int32.ofInt (S g0 i0 (sp.toNat + j)) ≤ 127)) = true
            have z0 : (-128 : Int32) = Int32.ofInt (-128) := by decide
            have z1 : (-128 : Int32) ≤ Int32.ofInt (S g0 i0 (sp.toNat + j)) := by
              rw [z0]
              exact (fz_le (x := -128) ⟨by omega, by omega⟩ ⟨by omega, by omega⟩).mpr (by omega)
            have z3 : (127 : Int32) = Int32.ofInt 127 := by decide
            have z2 : Int32.ofInt (S g0 i0 (sp.toNat + j)) ≤ (127 : Int32) := by
              rw [z3]
              exact (fz_le (y := 127) ⟨by omega, by omega⟩ ⟨by omega, by omega⟩).mpr (by omega)
            rw [decide_eq_true z1, decide_eq_true z2]; rfl
        · show 0 + (nativeFrameWords "java/lang/System" "arraycopy" 5 + 11) ≤ R.locals
          exact Nat.le_trans (by decide) hlo
        · rw [fz_cl (by omega) (by omega), fz_cl (by omega) (by omega), fz_cl (by omega) (by omega)] at hP1 hD1
          refine hn ▸ kk _ _ _ _ _ _ _ _ h ⟨hS1, ⟨?_, tys, _, hK, fr_W_set (S' := fun g' i' j => if g' = g ∧ i' = i ∧ (dp ≤ (j : Int) ∧ (j : Int) < dp + n) then S g0 i0 ((j : Int) - dp + sp).toNat else S g' i' j) hW hi he hat (Or.inr ⟨k1, k2, cA, t0, hty, Or.inl ⟨h4, _, rfl, fun j hj => ?_⟩⟩) (fun g' i' hq => ?_), hP1, hD1, hAs⟩, ⟨lv', hl, hlv⟩, trivial⟩
          · intro g' i' j a1 a2 a3 a4
            show _ ≤ (if g' = g ∧ i' = i ∧ (dp ≤ (j : Int) ∧ (j : Int) < dp + n) then S g0 i0 ((j : Int) - dp + sp).toNat else S g' i' j) ∧ (if g' = g ∧ i' = i ∧ (dp ≤ (j : Int) ∧ (j : Int) < dp + n) then S g0 i0 ((j : Int) - dp + sp).toNat else S g' i' j) ≤ _
            by_cases hq : g' = g ∧ i' = i ∧ (dp ≤ (j : Int) ∧ (j : Int) < dp + n)
            · rw [if_pos hq]
              obtain ⟨rfl, rfl, hq1, hq2⟩ := hq
              have := hT0 ((j : Int) - dp + sp).toNat (by omega)
              rw [hsl]
              show lo ≤ _ ∧ _ ≤ hi2
              omega
            · rw [if_neg hq]
              exact hT g' i' j a1 a2 a3 a4
          · show va_cpy f0 f sp.toNat dp.toNat n.toNat j = Int32.ofInt (if g = g ∧ i = i ∧ (dp ≤ (j : Int) ∧ (j : Int) < dp + n) then S g0 i0 ((j : Int) - dp + sp).toNat else S g i j)
            unfold va_cpy
            by_cases hq : dp ≤ (j : Int) ∧ (j : Int) < dp + n
            · rw [if_pos (by omega), if_pos ⟨rfl, rfl, hq⟩, hf0 _ (by omega)]
              rw [show sp.toNat + (j - dp.toNat) = ((j : Int) - dp + sp).toNat by omega]
            · rw [if_neg (by omega), if_neg (fun z => hq z.2.2)]
              exact hf j hj
          · funext j
            exact if_neg (fun z => hq ⟨z.1, z.2.1⟩)
      · omega
      · omega
    · omega
    · omega
  all_goals exact h.elim
end FM
