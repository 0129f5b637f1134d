/-! rows of numbers and of references -/
section C57
variable {cu cw : Nat}
section FA
variable {p : Program} {l : Launch} {e : Env} {R : Room} {s : State} {m : MethodId} {args : Array Value} {below : List Frame} {meth : Method} {c : Code} {Q : State → Prop} {cc : ByteArray} {nL : Nat} {G : va_G} {A : Nat → Prop} {as : List Nat} {pc a b nxt : Nat} {d : List Nat} {lv : fxL} {stk : List fxV} {S : fxS} {k : fxZ} {H : Heap} {locs : List Loc} {ls : Array Slot} {vs : List Value}
/-- a load: what the machine's row must give -/
theorem fo_ald (ha0 : 0 < a) (ha : a < 5) (h : fh_ald a b nxt d lv stk S k) (r : fr_R G A nL s as H locs ls vs lv stk S) (kk : fr_KK cu cw p l e R s m args below meth c Q G A nL as k)
    (kW : ∀ (tys : List (ClassId × FieldType)) (ws : va_W) (q0 q n : Nat) (x : Int) (e0 : va_E) (vr : List Value) (cA : ClassId) (t0 : Nat), va_K G vwCl tys s → va_P G vwCl ws H → ws[q0]? = some (q, e0) → tys[t0]? = some (cA, zr_ty a) → vs = .int (Int32.ofInt x) :: .ref q :: vr → vp_in (Int32.ofInt x) n →
      ((a < 4 ∧ ∃ f : Nat → Int32, e0 = .inl (cA, n, .inl f) ∧ W p l e R s m args below meth c H locs cu cw Q (F0 m nxt ls (.int (f (Int32.ofInt x).toNatClampNeg) :: vr))) ∨ (a = 4 ∧ ∃ f : Nat → Int64, e0 = .inl (cA, n, .inr (.inl f)) ∧ W p l e R s m args below meth c H locs cu cw Q (F0 m nxt ls (.long (f (Int32.ofInt x).toNatClampNeg) :: vr)))) → W p l e R s m args below meth c H locs cu cw Q (F0 m pc ls vs)) : W p l e R s m args below meth c H locs cu cw Q (F0 m pc ls vs) := by
  obtain ⟨hS, hHP, hL, hV⟩ := r
  rcases stk with _ | ⟨x | x | x, _ | ⟨y | y | ⟨g, i⟩, r⟩⟩
  case cons.inl.cons.inr.inr =>
    have h : cond (Nat.beq (fx_kd g) a) ((0 ≤ x ∧ x < (fx_n g : Int)) ∧ cond (Nat.blt (fx_kd g) 4) (∀ z : Int, (fx_sl g 0).2.2.2.1 ≤ z → z ≤ (fx_sl g 0).2.2.2.2 → z = S g i x.toNat → k nxt lv (.inl z :: r) S) (∀ z : Int, k nxt lv (.inr (.inl z) :: r) S)) False := h
    obtain ⟨hk, hxr, h⟩ := fc_t h
    have hk := zx_beq.mp hk
    obtain ⟨vr, rfl, hz, hV⟩ := fv_i hV
    obtain ⟨q, vr, rfl, hq, hV⟩ := fv_r hV
    obtain ⟨hT, tys, ws, hK, hW, hP, hD, hAs⟩ := id hHP
    obtain ⟨hi, e0, he, hE⟩ := fr_W_get hW hq (by omega)
    obtain ⟨hn31, so, g', mode, lo, hi2, hsl, hcase⟩ := fx_arr hi (by omega)
    rcases hE with ⟨h16, -⟩ | ⟨-, -, cA, t0, hty, hE⟩
    · omega
    rw [hk] at hty
    refine kW tys ws (fx_flat g i) q (fx_n g) x e0 vr cA t0 hK hP he hty rfl (fz_vp hxr.1 hxr.2 hn31) ?_
    rw [fz_cl hxr.1 (by omega)]
    have hxn : x.toNat < fx_n g := by omega
    rcases hE with ⟨h4, f, rfl, hf⟩ | ⟨h4, f, rfl⟩ | ⟨h4, -⟩
    · rw [zx_blt.mpr h4] at h
      have h : ∀ z : Int, (fx_sl g 0).2.2.2.1 ≤ z → z ≤ (fx_sl g 0).2.2.2.2 → z = S g i x.toNat → k nxt lv (.inl z :: r) S := h
      rw [hsl] at h
      have ht := hT g i x.toNat hi hxn (by rw [hsl]; show so ≠ 2; omega) (by rw [hsl]; show so ≠ 3; omega)
      rw [hsl] at ht
      refine Or.inl ⟨by omega, f, rfl, ?_⟩
      rw [hf _ hxn]
      have hlo : -2147483648 ≤ lo ∧ hi2 < 2147483648 := by omega
      have ht : lo ≤ S g i x.toNat ∧ S g i x.toNat ≤ hi2 := ht
      exact kk _ _ _ _ _ _ _ _ (h _ ht.1 ht.2 rfl) ⟨hS, hHP, hL, ⟨rfl, by omega⟩, hV⟩
    · rw [zx_nblt.mpr (by omega)] at h
      have h : ∀ z : Int, k nxt lv (.inr (.inl z) :: r) S := h
      exact Or.inr ⟨by omega, f, rfl, kk _ _ _ _ _ _ _ _ (h (f x.toNat).toInt) ⟨hS, hHP, hL, fr_long _, hV⟩⟩
    · omega
  all_goals exact h.elim
/-- a store -/
theorem fo_ast (ha0 : 0 < a) (ha : a < 5) (h : fh_ast a b nxt d lv stk S k) (r : fr_R G A nL s as H locs ls vs lv stk S) (kk : fr_KK cu cw p l e R s m args below meth c Q G A nL as k)
    (kW : ∀ (tys : List (ClassId × FieldType)) (ws : va_W) (q0 q n : Nat) (x : Int) (e0 : va_E) (vr : List Value) (cA : ClassId) (t0 : Nat), va_K G vwCl tys s → va_P G vwCl ws H → va_D A ws → va_S A s.heap H locs → ws[q0]? = some (q, e0) → tys[t0]? = some (cA, zr_ty a) → vp_in (Int32.ofInt x) n →
      ((a < 4 ∧ ∃ (z : Int) (f : Nat → Int32), vs = .int (Int32.ofInt z) :: .int (Int32.ofInt x) :: .ref q :: vr ∧ (-2147483648 ≤ z ∧ z < 2147483648) ∧ (a = 3 → 0 ≤ z ∧ z ≤ 1) ∧ e0 = .inl (cA, n, .inl f) ∧ ∀ (u : Int32) (H1 : Heap) (locs1 : List Loc), (a = 2 → u = vp_nar .byte (Int32.ofInt z)) → (a ≠ 2 → u = Int32.ofInt z) → va_P G vwCl (ws.set q0 (q, .inl (cA, n, .inl (upd f (Int32.ofInt x).toNatClampNeg u)))) H1 → va_D A (ws.set q0 (q, .inl (cA, n, .inl (upd f (Int32.ofInt x).toNatClampNeg u)))) → va_S A s.heap H1 locs1 → W p l e R s m args below meth c H1 locs1 cu cw Q (F0 m nxt ls vr)) ∨
       (a = 4 ∧ ∃ (z : Int64) (f : Nat → Int64), vs = .long z :: .int (Int32.ofInt x) :: .ref q :: vr ∧ e0 = .inl (cA, n, .inr (.inl f)) ∧ ∀ (H1 : Heap) (locs1 : List Loc), va_P G vwCl (ws.set q0 (q, .inl (cA, n, .inr (.inl (vp_updL f (Int32.ofInt x).toNatClampNeg z))))) H1 → va_D A (ws.set q0 (q, .inl (cA, n, .inr (.inl (vp_updL f (Int32.ofInt x).toNatClampNeg z))))) → va_S A s.heap H1 locs1 → W p l e R s m args below meth c H1 locs1 cu cw Q (F0 m nxt ls vr))) → W p l e R s m args below meth c H locs cu cw Q (F0 m pc ls vs)) : W p l e R s m args below meth c H locs cu cw Q (F0 m pc ls vs) := by
  obtain ⟨hS, hHP, hL, hV⟩ := r
  rcases stk with _ | ⟨v, _ | ⟨x | x | x, _ | ⟨y | y | ⟨g, i⟩, r⟩⟩⟩
  case cons.cons.inl.cons.inr.inr =>
    have h : cond (Nat.beq (fx_kd g) a) ((0 ≤ x ∧ x < (fx_n g : Int)) ∧ cond (Nat.beq (fx_kd g) 4) (fx_pv2 v (k nxt lv r S)) (fx_pv1 v (fun z => cond (Nat.beq (fx_kd g) 2) (∀ y : Int, -128 ≤ y → y ≤ 127 → (-128 ≤ z → z ≤ 127 → y = z) → k nxt lv r (fx_up S g i x.toNat y)) (cond (Nat.beq (fx_kd g) 1 || Nat.beq (fx_kd g) 3) (((fx_sl g 0).2.2.2.1 ≤ z ∧ z ≤ (fx_sl g 0).2.2.2.2) ∧ k nxt lv r (fx_up S g i x.toNat z)) False)))) False := by
      rcases v with v | v | v <;> exact h
    obtain ⟨hk, hxr, h⟩ := fc_t h
    have hk := zx_beq.mp hk
    obtain ⟨w, vr1, rfl, hw, hV1⟩ := fv_c hV
    obtain ⟨vr2, rfl, hz, hV2⟩ := fv_i hV1
    obtain ⟨q, vr, rfl, hq, hV3⟩ := fv_r hV2
    obtain ⟨hT, tys, ws, hK, hW, hP, hD, hAs⟩ := id hHP
    obtain ⟨hi, e0, he, hE⟩ := fr_W_get hW hq (by omega)
    have hat := (fr_at_some hq (by omega)).2
    obtain ⟨hn31, so, g', mode, lo, hi2, hsl, hcase⟩ := fx_arr hi (by omega)
    rcases hE with ⟨h16, -⟩ | ⟨k1, k2, cA, t0, hty, hE⟩
    · omega
    have hty' := hty
    rw [hk] at hty'
    refine kW tys ws (fx_flat g i) q (fx_n g) x e0 vr cA t0 hK hP hD hS he hty' (fz_vp hxr.1 hxr.2 hn31) ?_
    rw [fz_cl hxr.1 (by omega)]
    have hxn : x.toNat < fx_n g := by omega
    rcases hE with ⟨h4, f, rfl, hf⟩ | ⟨h4, f, rfl⟩ | ⟨h4, -⟩
    · rw [zx_nbeq.mpr (by omega)] at h
      rcases v with z | z | z
      · have h : cond (Nat.beq (fx_kd g) 2) (∀ y : Int, -128 ≤ y → y ≤ 127 → (-128 ≤ z → z ≤ 127 → y = z) → k nxt lv r (fx_up S g i x.toNat y)) (cond (Nat.beq (fx_kd g) 1 || Nat.beq (fx_kd g) 3) (((fx_sl g 0).2.2.2.1 ≤ z ∧ z ≤ (fx_sl g 0).2.2.2.2) ∧ k nxt lv r (fx_up S g i x.toNat z)) False) := h
        obtain ⟨rfl, hz2⟩ := hw
        have fin : ∀ (u : Int) (H1 : Heap) (locs1 : List Loc), lo ≤ u → u ≤ hi2 → k nxt lv r (fx_up S g i x.toNat u) → va_P G vwCl (ws.set (fx_flat g i) (q, .inl (cA, fx_n g, .inl (upd f x.toNat (Int32.ofInt u))))) H1 → va_D A (ws.set (fx_flat g i) (q, .inl (cA, fx_n g, .inl (upd f x.toNat (Int32.ofInt u))))) → va_S A s.heap H1 locs1 → W p l e R s m args below meth c H1 locs1 cu cw Q (F0 m nxt ls vr) := by
          intro u H1 locs1 u1 u2 hk' hP1 hD1 hS1
          refine kk _ _ _ _ _ _ _ _ hk' ⟨hS1, ⟨fr_T_up hT (by rw [hsl]; exact u1) (by rw [hsl]; exact u2), tys, _, hK, fr_W_set hW hi he hat (Or.inr ⟨k1, k2, cA, t0, hty, Or.inl ⟨h4, _, rfl, fun j hj => ?_⟩⟩) (fun g' i' hq => fx_up_ne S g i _ u g' i' hq), hP1, hD1, hAs⟩, hL, hV3⟩
          rw [fx_up_eq]
          unfold upd
          by_cases hj2 : j = x.toNat
          · rw [if_pos hj2, if_pos hj2]
          · rw [if_neg hj2, if_neg hj2]; exact hf j hj
        rcases fc_b h with ⟨c2, h⟩ | ⟨c2, h⟩
        · have c2 := zx_beq.mp c2
          have hby := fz_byte z hz2
          refine Or.inl ⟨by omega, z, f, rfl, hz2, by omega, rfl, fun u H1 locs1 hu _ hP1 hD1 hS1 => ?_⟩
          have hu := hu (by omega)
          have hlh : lo = -128 ∧ hi2 = 127 := by omega
          refine fin u.toInt H1 locs1 (by rw [hu]; omega) (by rw [hu]; omega) (h _ (by rw [hu]; exact hby.1) (by rw [hu]; exact hby.2.1) (fun a1 a2 => by rw [hu]; exact hby.2.2 a1 a2)) (by rw [fz_of]; exact hP1) (by rw [fz_of]; exact hD1) hS1
        · have c2 := zx_nbeq.mp c2
          obtain ⟨c3, c4, h⟩ := fc_t h
          rw [hsl] at c4
          have c4 : lo ≤ z ∧ z ≤ hi2 := c4
          refine Or.inl ⟨by omega, z, f, rfl, hz2, fun q3 => by omega, rfl, fun u H1 locs1 _ hu hP1 hD1 hS1 => ?_⟩
          have hu := hu (by omega)
          subst hu
          exact fin z H1 locs1 c4.1 c4.2 h hP1 hD1 hS1
      · exact h.elim
      · exact h.elim
    · have e4 : Nat.beq (fx_kd g) 4 = true := zx_beq.mpr h4
      rw [e4] at h
      rcases v with z | z | z
      · exact h.elim
      · have h : k nxt lv r S := h
        obtain ⟨rfl, hz2⟩ := hw
        refine Or.inr ⟨by omega, _, f, rfl, rfl, fun H1 locs1 hP1 hD1 hS1 => ?_⟩
        exact kk _ _ _ _ _ _ _ _ h ⟨hS1, ⟨hT, tys, _, hK, fr_W_set hW hi he hat (Or.inr ⟨k1, k2, cA, t0, hty, Or.inr (Or.inl ⟨h4, _, rfl⟩)⟩) (fun _ _ _ => rfl), hP1, hD1, hAs⟩, hL, hV3⟩
      · exact h.elim
    · omega
  all_goals
    first
    | exact h.elim
    | (rcases v with v | v | v <;> exact h.elim)
end FA
theorem fo_iald : fr_HO cu cw fh_ald (zp_arr 1 .iaload) := by
  intro p l e R s m args below meth c Q cc nL G A as y pc a b nxt d lv stk S k H locs ls vs ⟨hx, hb, hml, hown, hts, hnm, hA, hN⟩ ⟨h1, h2, h3⟩ h r kk
  subst h1
  refine fo_ald (by decide) (by decide) h r kk fun tys ws q0 q n x e0 vr cA t0 hK hP he ht ev hin h5 => ?_
  subst ev
  rcases h5 with ⟨-, f, rfl, kw⟩ | ⟨g, -⟩
  · exact va_iald hx hb hK hP q0 t0 he ht hin h2 (h3 ▸ kw)
  · exact absurd g (by decide)
theorem fo_bald : fr_HO cu cw fh_ald (zp_arr 2 .baload) := by
  intro p l e R s m args below meth c Q cc nL G A as y pc a b nxt d lv stk S k H locs ls vs ⟨hx, hb, hml, hown, hts, hnm, hA, hN⟩ ⟨h1, h2, h3⟩ h r kk
  subst h1
  refine fo_ald (by decide) (by decide) h r kk fun tys ws q0 q n x e0 vr cA t0 hK hP he ht ev hin h5 => ?_
  subst ev
  rcases h5 with ⟨-, f, rfl, kw⟩ | ⟨g, -⟩
  · exact va_bald hx hb hK hP q0 t0 he ht hin h2 (h3 ▸ kw)
  · exact absurd g (by decide)
theorem fo_zald : fr_HO cu cw fh_ald (zp_arr 3 .baload) := by
  intro p l e R s m args below meth c Q cc nL G A as y pc a b nxt d lv stk S k H locs ls vs ⟨hx, hb, hml, hown, hts, hnm, hA, hN⟩ ⟨h1, h2, h3⟩ h r kk
  subst h1
  refine fo_ald (by decide) (by decide) h r kk fun tys ws q0 q n x e0 vr cA t0 hK hP he ht ev hin h5 => ?_
  subst ev
  rcases h5 with ⟨-, f, rfl, kw⟩ | ⟨g, -⟩
  · exact va_zald hx hb hK hP q0 t0 he ht hin h2 (h3 ▸ kw)
  · exact absurd g (by decide)
theorem fo_lald : fr_HO cu cw fh_ald (zp_arr 4 .laload) := by
  intro p l e R s m args below meth c Q cc nL G A as y pc a b nxt d lv stk S k H locs ls vs ⟨hx, hb, hml, hown, hts, hnm, hA, hN⟩ ⟨h1, h2, h3⟩ h r kk
  subst h1
  refine fo_ald (by decide) (by decide) h r kk fun tys ws q0 q n x e0 vr cA t0 hK hP he ht ev hin h5 => ?_
  subst ev
  rcases h5 with ⟨g, -⟩ | ⟨-, f, rfl, kw⟩
  · exact absurd g (by decide)
  · exact va_lald hx hb hK hP q0 t0 he ht hin h2 (h3 ▸ kw)
theorem fo_iast : fr_HO cu cw fh_ast (zp_arr 1 .iastore) := by
  intro p l e R s m args below meth c Q cc nL G A as y pc a b nxt d lv stk S k H locs ls vs ⟨hx, hb, hml, hown, hts, hnm, hA, hN⟩ ⟨h1, h2, h3⟩ h r kk
  subst h1
  refine fo_ast (by decide) (by decide) h r kk fun tys ws q0 q n x e0 vr cA t0 hK hP hD hS he ht hin h5 => ?_
  rcases h5 with ⟨-, z, f, rfl, -, -, rfl, kw⟩ | ⟨g, -⟩
  · exact va_iast hx hb hK hP hD hS q0 t0 he ht hin h2 fun H1 locs1 hP1 hD1 hS1 => h3 ▸ kw _ H1 locs1 (fun q => absurd q (by decide)) (fun _ => rfl) hP1 hD1 hS1
  · exact absurd g (by decide)
theorem fo_bast : fr_HO cu cw fh_ast (zp_arr 2 .bastore) := by
  intro p l e R s m args below meth c Q cc nL G A as y pc a b nxt d lv stk S k H locs ls vs ⟨hx, hb, hml, hown, hts, hnm, hA, hN⟩ ⟨h1, h2, h3⟩ h r kk
  subst h1
  refine fo_ast (by decide) (by decide) h r kk fun tys ws q0 q n x e0 vr cA t0 hK hP hD hS he ht hin h5 => ?_
  rcases h5 with ⟨-, z, f, rfl, -, -, rfl, kw⟩ | ⟨g, -⟩
  · exact va_bast hx hb hK hP hD hS q0 t0 he ht hin h2 fun H1 locs1 hP1 hD1 hS1 => h3 ▸ kw _ H1 locs1 (fun _ => rfl) (fun q => absurd rfl q) hP1 hD1 hS1
  · exact absurd g (by decide)
theorem fo_zast : fr_HO cu cw fh_ast (zp_arr 3 .bastore) := by
  intro p l e R s m args below meth c Q cc nL G A as y pc a b nxt d lv stk S k H locs ls vs ⟨hx, hb, hml, hown, hts, hnm, hA, hN⟩ ⟨h1, h2, h3⟩ h r kk
  subst h1
  refine fo_ast (by decide) (by decide) h r kk fun tys ws q0 q n x e0 vr cA t0 hK hP hD hS he ht hin h5 => ?_
  rcases h5 with ⟨-, z, f, rfl, -, h01, rfl, kw⟩ | ⟨g, -⟩
  · refine va_zast hx hb hK hP hD hS q0 t0 he ht hin h2 fun H1 locs1 hP1 hD1 hS1 => h3 ▸ kw _ H1 locs1 (fun q => absurd q (by decide)) (fun _ => ?_) hP1 hD1 hS1
    have h01 := h01 rfl
    rcases (show z = 0 ∨ z = 1 by omega) with rfl | rfl
    · decide
    · decide
  · exact absurd g (by decide)
theorem fo_last : fr_HO cu cw fh_ast (zp_arr 4 .lastore) := by
  intro p l e R s m args below meth c Q cc nL G A as y pc a b nxt d lv stk S k H locs ls vs ⟨hx, hb, hml, hown, hts, hnm, hA, hN⟩ ⟨h1, h2, h3⟩ h r kk
  subst h1
  refine fo_ast (by decide) (by decide) h r kk fun tys ws q0 q n x e0 vr cA t0 hK hP hD hS he ht hin h5 => ?_
  rcases h5 with ⟨g, -⟩ | ⟨-, z, f, rfl, rfl, kw⟩
  · exact absurd g (by decide)
  · exact va_last hx hb hK hP hD hS q0 t0 he ht hin h2 fun H1 locs1 hP1 hD1 hS1 => h3 ▸ kw H1 locs1 hP1 hD1 hS1
theorem fo_aald : fr_HO cu cw fh_aald zp_aald := by
  intro p l e R s m args below meth c Q cc nL G A as y pc a b nxt d lv stk S k H locs ls vs ⟨hx, hb, hml, hown, hts, hnm, hA, hN⟩ ⟨h1, h2, h3⟩ h ⟨hS, hHP, hL, hV⟩ kk
  rcases stk with _ | ⟨x | x | x, _ | ⟨y | y | ⟨g, i⟩, r⟩⟩
  case cons.inl.cons.inr.inr =>
    have h : cond (Nat.beq (fx_kd g) a) ((0 ≤ x ∧ x < (fx_n g : Int)) ∧ k nxt lv (.inr (.inr (fx_to (fx_sl g 0).2.1 (fx_sl g 0).2.2.1 i x.toNat)) :: r) S) False := h
    obtain ⟨hk, hxr, h⟩ := fc_t h
    have hk := zx_beq.mp hk
    obtain ⟨vr, rfl, hz, hV⟩ := fv_i hV
    obtain ⟨q, vr, rfl, hq, hV⟩ := fv_r hV
    obtain ⟨hT, tys, ws, hK, hW, hP, hD, hAs⟩ := id hHP
    obtain ⟨hi, e0, he, hE⟩ := fr_W_get hW hq (by omega)
    obtain ⟨hn31, -⟩ := fx_arr hi (by omega)
    rcases hE with ⟨h16, -⟩ | ⟨-, -, cA, t0, hty, hE⟩
    · omega
    rcases hE with ⟨h4, -⟩ | ⟨h4, -⟩ | ⟨h4, f, rfl, hf⟩
    · omega
    · omega
    obtain ⟨a', g1, g2⟩ := hf x.toNat (by omega)
    have hty2 : ∃ C, zr_ty (fx_kd g) = .object C := by
      unfold zr_ty
      rw [if_neg (by omega), if_neg (by omega), if_neg (by omega), if_neg (by omega)]
      by_cases h5 : fx_kd g = 5
      · exact ⟨_, by rw [if_pos h5]⟩
      · exact ⟨_, by rw [if_neg h5]⟩
    obtain ⟨C, hC⟩ := hty2
    rw [hC] at hty
    refine va_aldq hx hb hK hP (fx_flat g i) t0 he hty (fz_vp hxr.1 hxr.2 hn31) h2 ?_
    rw [fz_cl hxr.1 (by omega), g2]
    exact h3 ▸ kk _ _ _ _ _ _ _ _ h ⟨hS, hHP, hL, ⟨a', g1, rfl⟩, hV⟩
  all_goals exact h.elim
end C57
