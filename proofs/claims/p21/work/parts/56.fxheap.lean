/-! cells: fields and rows -/
section C56
variable {cu cw : Nat}
theorem fr_E_T {T T' : Nat → Int} {as : List Nat} {tys : List (ClassId × FieldType)} {g i : Nat} {e : va_E} (h : fr_E T as tys g i e) (hT : T' = T) : fr_E T' as tys g i e := hT ▸ h
theorem fi_g {P : Nat → Nat → Prop} {g : Nat} (h : match fx_g g with | (kd, n, _) => P kd n) : P (fx_kd g) (fx_n g) := h
theorem fi_s {P : Nat → Nat → Nat → Int → Int → Prop} {g j : Nat} (h : match fx_sl g j with | (so, g', mode, lo, hi) => P so g' mode lo hi) : P (fx_sl g j).1 (fx_sl g j).2.1 (fx_sl g j).2.2.1 (fx_sl g j).2.2.2.1 (fx_sl g j).2.2.2.2 := h
theorem fo_get (hC : zk_C) : fr_HO cu cw fh_get zp_get := by
  intro p l e R s m args below meth c Q cc nL G A as y pc a b nxt d lv stk S k H locs ls vs ⟨hx, hb, hml, hown, hts, hnm, hA, hN⟩ ⟨hg, h2, h3⟩ h ⟨hS, hHP, hL, hV⟩ kk
  rcases stk with _ | ⟨x | x | ⟨g, i⟩, r⟩
  · exact h.elim
  · exact h.elim
  · exact h.elim
  have h : cond (zx_mem (fx_kd g) d && Nat.blt b (fx_n g)) (cond (Nat.ble (fx_sl g b).1 1) (∀ z : Int, (fx_sl g b).2.2.2.1 ≤ z → z ≤ (fx_sl g b).2.2.2.2 → z = S g i b → k nxt lv (.inl z :: r) S) (cond (Nat.beq (fx_sl g b).1 2) (∀ z : Int, k nxt lv (.inr (.inl z) :: r) S) (cond (Nat.beq (fx_sl g b).1 3) (k nxt lv (.inr (.inr (fx_to (fx_sl g b).2.1 (fx_sl g b).2.2.1 i b)) :: r) S) False))) False := h
  obtain ⟨q, vr, rfl, hq, hV⟩ := fv_r hV
  obtain ⟨hc, h⟩ := fc_t h
  obtain ⟨hm, hbn⟩ := zx_an hc
  have hbn := zx_blt.mp hbn
  obtain ⟨hT, tys, ws, hK, hW, hP, hD, hAs⟩ := id hHP
  obtain ⟨hi, e0, he, hE⟩ := fr_W_get hW hq (by omega)
  obtain ⟨h16, C, T, N, ref, hcl, hk, hlink, hsame⟩ := hg _ (zx_mem_ok hm)
  rcases hE with ⟨-, fs, rfl, hlen, hfs⟩ | ⟨hlt, -⟩
  · have hjl : b < fs.length := by rw [hlen]; exact hbn
    have hw := List.getElem?_eq_getElem hjl
    have hf := hfs b _ hw
    generalize fs[b] = w at hw hf
    have hsm : ∀ x, s.fieldFound? (T b).1 (T b).2.1 (T b).2.2.1 = some x → s.fieldFound? ref (T b).2.1 (T b).2.2.1 = some x := by
      rcases hsame with hs | hs
      · rw [hs]; exact fun _ h9 => h9
      · exact fun y hy => u_same (hts _ hs) y hy
    refine va_get hx hb hts (hC _ _ _ _ hcl).1 hown hK hP (fx_flat g i) he hcl b hk (hts _ hlink) hsm hw h2 (h3 ▸ ?_)
    have hob := fx_obj hi (Nat.not_lt.mpr h16) hbn
    have hf : ((fx_sl g b).1 ≤ 1 ∧ w = .int (Int32.ofInt (S g i b))) ∨ ((fx_sl g b).1 = 2 ∧ ∃ x, w = .long x) ∨ ((fx_sl g b).1 = 3 ∧ ∃ a, fr_at as (fx_to (fx_sl g b).2.1 (fx_sl g b).2.2.1 i b) = some a ∧ w = .ref a) := hf
    rcases hf with ⟨f1, rfl⟩ | ⟨f1, x, rfl⟩ | ⟨f1, a', f2, rfl⟩
    · rw [zx_ble.mpr f1] at h
      have ht := hT g i b hi hbn (by omega) (by omega)
      exact kk _ _ _ _ _ _ _ _ (h _ ht.1 ht.2 rfl) ⟨hS, hHP, hL, ⟨rfl, by omega⟩, hV⟩
    · have e1 : Nat.ble (fx_sl g b).1 1 = false := by rw [f1]; rfl
      have e2 : Nat.beq (fx_sl g b).1 2 = true := by rw [f1]; rfl
      rw [e1, e2] at h
      have h : ∀ z : Int, k nxt lv (.inr (.inl z) :: r) S := h
      exact kk _ _ _ _ _ _ _ _ (h x.toInt) ⟨hS, hHP, hL, fr_long x, hV⟩
    · have e1 : Nat.ble (fx_sl g b).1 1 = false := by rw [f1]; rfl
      have e2 : Nat.beq (fx_sl g b).1 2 = false := by rw [f1]; rfl
      have e3 : Nat.beq (fx_sl g b).1 3 = true := by rw [f1]; rfl
      rw [e1, e2, e3] at h
      exact kk _ _ _ _ _ _ _ _ h ⟨hS, hHP, hL, ⟨a', f2, rfl⟩, hV⟩
  · exact absurd h16 (Nat.not_le.mpr hlt)
theorem fo_put (hC : zk_C) : fr_HO cu cw fh_put zp_put := by
  intro p l e R s m args below meth c Q cc nL G A as y pc a b nxt d lv stk S k H locs ls vs ⟨hx, hb, hml, hown, hts, hnm, hA, hN⟩ ⟨hg, h2, h3⟩ h ⟨hS, hHP, hL, hV⟩ kk
  rcases stk with _ | ⟨v, _ | ⟨x | x | ⟨g, i⟩, r⟩⟩
  · exact h.elim
  · rcases v with v | v | v <;> exact h.elim
  · rcases v with v | v | v <;> exact h.elim
  · rcases v with v | v | v <;> exact h.elim
  have h : cond (zx_mem (fx_kd g) d && Nat.blt (b % 64) (fx_n g)) (cond (Nat.ble (fx_sl g (b % 64)).1 1) (fx_pv1 v (fun z => cond (Nat.beq (fx_sl g (b % 64)).1 (b / 64 % 4)) (((fx_sl g (b % 64)).2.2.2.1 ≤ z ∧ z ≤ (fx_sl g (b % 64)).2.2.2.2) ∧ k nxt lv r (fx_up S g i (b % 64) z)) False)) (cond (Nat.beq (fx_sl g (b % 64)).1 2 && Nat.beq (b / 64 % 4) 2) (fx_pv2 v (k nxt lv r S)) False)) False := by
    rcases v with v | v | v <;> exact h
  obtain ⟨w, vs1, rfl, hw, hV⟩ := fv_c hV
  obtain ⟨q, vr, rfl, hq, hV⟩ := fv_r hV
  obtain ⟨hc, h⟩ := fc_t h
  obtain ⟨hm, hbn⟩ := zx_an hc
  have hbn := zx_blt.mp hbn
  obtain ⟨hT, tys, ws, hK, hW, hP, hD, hAs⟩ := id hHP
  obtain ⟨hi, e0, he, hE⟩ := fr_W_get hW hq (by omega)
  obtain ⟨h16, C, T, N, ref, hcl, hk, hlink, hsame, hfin, hdecl, ty, hd, hsort⟩ := hg _ (zx_mem_ok hm)
  obtain ⟨hin1, ty0, hty, hnm2⟩ := hC _ _ _ _ hcl
  rcases hE with ⟨-, fs, rfl, hlen, hfs⟩ | ⟨hlt, -⟩
  · have hjl : b % 64 < fs.length := by rw [hlen]; exact hbn
    have hsm : ∀ x, s.fieldFound? (T (b % 64)).1 (T (b % 64)).2.1 (T (b % 64)).2.2.1 = some x → s.fieldFound? ref (T (b % 64)).2.1 (T (b % 64)).2.2.1 = some x := by
      rcases hsame with hs | hs
      · rw [hs]; exact fun _ h9 => h9
      · exact fun y hy => u_same (hts _ hs) y hy
    have hob := fx_obj hi (Nat.not_lt.mpr h16) hbn
    have hat := (fr_at_some hq (by omega)).2
    have fin : ∀ S' : fxS, fr_T S' → (∀ g' i', ¬ (g' = g ∧ i' = i) → S' g' i' = S g' i') → (∀ j u, (fs.set (b % 64) w)[j]? = some u → fr_f (S' g i) as g i j u) → narrow ty w = w → fits ty w = true → k nxt lv r S' → W p l e R s m args below meth c H locs cu cw Q (F0 m pc ls (w :: .ref q :: vr)) := by
      intro S' hT' hne hf' hn1 hf1 hk'
      refine va_put hx hb hts hin1 ty0 hty hnm2 hown hK hP hD hS (fx_flat g i) he hcl (b % 64) hk (hts _ hlink) hsm hfin hd hn1 hf1 hjl h2 (fun H1 locs1 hP1 hD1 hS1 => ?_)
      exact h3 ▸ kk _ _ _ _ _ _ _ _ hk' ⟨hS1, ⟨hT', tys, _, hK, fr_W_set hW hi he hat (Or.inl ⟨h16, _, rfl, by rw [List.length_set]; exact hlen, hf'⟩) hne, hP1, hD1, hAs⟩, hL, hV⟩
    rcases fc_b h with ⟨c1, h⟩ | ⟨c1, h⟩
    · have c1 := zx_ble.mp c1
      rcases v with z | z | z
      · have h : cond (Nat.beq (fx_sl g (b % 64)).1 (b / 64 % 4)) (((fx_sl g (b % 64)).2.2.2.1 ≤ z ∧ z ≤ (fx_sl g (b % 64)).2.2.2.2) ∧ k nxt lv r (fx_up S g i (b % 64) z)) False := h
        obtain ⟨c2, c3, h⟩ := fc_t h
        have c2 := zx_beq.mp c2
        obtain ⟨rfl, hz⟩ := hw
        have hnf : narrow ty (.int (Int32.ofInt z)) = .int (Int32.ofInt z) ∧ fits ty (.int (Int32.ofInt z)) = true := by
          rcases hsort with ⟨s0, rfl⟩ | ⟨s0, rfl⟩ | ⟨s0, -⟩ | ⟨s0, -⟩
          · exact ⟨vp_nar_int _, rfl⟩
          · have hb1 := hob.2.2.2 (by omega)
            have hz01 : z = 0 ∨ z = 1 := by omega
            rcases hz01 with rfl | rfl
            · exact ⟨by decide, by decide⟩
            · exact ⟨by decide, by decide⟩
          · omega
          · omega
        refine fin _ (fr_T_up hT c3.1 c3.2) (fun g' i' hq => fx_up_ne S g i _ z g' i' hq) (fun j u hu => ?_) hnf.1 hnf.2 h
        by_cases hj : j = b % 64
        · subst hj
          rw [List.getElem?_set_self hjl] at hu
          cases hu
          refine Or.inl ⟨c1, ?_⟩
          rw [fx_up_eq, if_pos rfl]
        · rw [List.getElem?_set_ne (Ne.symm hj)] at hu
          have hf := hfs j u hu
          have hf : ((fx_sl g j).1 ≤ 1 ∧ u = .int (Int32.ofInt (S g i j))) ∨ ((fx_sl g j).1 = 2 ∧ ∃ x, u = .long x) ∨ ((fx_sl g j).1 = 3 ∧ ∃ a, fr_at as (fx_to (fx_sl g j).2.1 (fx_sl g j).2.2.1 i j) = some a ∧ u = .ref a) := hf
          show ((fx_sl g j).1 ≤ 1 ∧ u = .int (Int32.ofInt (fx_up S g i (b % 64) z g i j))) ∨ ((fx_sl g j).1 = 2 ∧ ∃ x, u = .long x) ∨ ((fx_sl g j).1 = 3 ∧ ∃ a, fr_at as (fx_to (fx_sl g j).2.1 (fx_sl g j).2.2.1 i j) = some a ∧ u = .ref a)
          rw [fx_up_eq, if_neg hj]
          exact hf
      · exact h.elim
      · exact h.elim
    · obtain ⟨c2, h⟩ := fc_t h
      obtain ⟨c2, c4⟩ := zx_an c2
      have c2 := zx_beq.mp c2
      have c4 := zx_beq.mp c4
      rcases v with z | z | z
      · exact h.elim
      · obtain ⟨rfl, hz⟩ := hw
        have hnf : narrow ty (.long (Int64.ofInt z)) = .long (Int64.ofInt z) ∧ fits ty (.long (Int64.ofInt z)) = true := by
          rcases hsort with ⟨s0, -⟩ | ⟨s0, -⟩ | ⟨s0, rfl⟩ | ⟨s0, -⟩
          · omega
          · omega
          · exact ⟨rfl, rfl⟩
          · omega
        refine fin S hT (fun _ _ _ => rfl) (fun j u hu => ?_) hnf.1 hnf.2 h
        by_cases hj : j = b % 64
        · subst hj
          rw [List.getElem?_set_self hjl] at hu
          cases hu
          exact Or.inr (Or.inl ⟨c2, _, rfl⟩)
        · rw [List.getElem?_set_ne (Ne.symm hj)] at hu
          exact hfs j u hu
      · exact h.elim
  · exact absurd h16 (Nat.not_le.mpr hlt)
theorem fz_byte (x : Int) (hx : -2147483648 ≤ x ∧ x < 2147483648) : -128 ≤ (vp_nar .byte (Int32.ofInt x)).toInt ∧ (vp_nar .byte (Int32.ofInt x)).toInt ≤ 127 ∧ (-128 ≤ x → x ≤ 127 → (vp_nar .byte (Int32.ofInt x)).toInt = x) := by
  rw [vp_nar_byte]
  have e : (Int32.ofInt x).toInt8.toInt32.toInt = (Int32.ofInt x).toInt8.toInt := Int8.toInt_toInt32 _
  have a1 := Int8.le_toInt (Int32.ofInt x).toInt8
  have a2 := Int8.toInt_lt (Int32.ofInt x).toInt8
  refine ⟨by omega, by omega, fun h1 h2 => ?_⟩
  rw [e, Int32.toInt_toInt8, fz_to hx]
  show x.bmod 256 = x
  rw [Int.bmod_def]
  omega
end C56
