/-! the plain instructions -/
section C54
variable {cu cw : Nat}
def fp_lstore_n : zkPT := fun _ cc nL pc a b nxt _ => a < 4 ∧ decode cc pc = .ok (.lstore_n (Fin.ofNat 4 a), 1) ∧ nxt = pc + 1 ∧ b = nL
def fp_lstore : zkPT := fun _ cc nL pc a b nxt _ => decode cc pc = .ok (.lstore a, 2) ∧ nxt = pc + 2 ∧ b = nL
def fp_ldcw : zkPT := fun y cc _ pc a b nxt _ => a % 8 = 0 ∧ Cond.constant y.cls (b % 65536) (nI (a / 8)) ∈ zk_T ∧ decode cc pc = .ok (.ldc_w (b % 65536), 3) ∧ nxt = pc + 3
def fp_bin : zkPT := fun _ cc _ pc a _ nxt _ => ((a = 0 ∧ decode cc pc = .ok (.ishl, 1)) ∨ (a = 1 ∧ decode cc pc = .ok (.iushr, 1)) ∨ (a = 2 ∧ decode cc pc = .ok (.ior, 1)) ∨ (a = 3 ∧ decode cc pc = .ok (.ixor, 1))) ∧ nxt = pc + 1
theorem fo_iload_n : fr_HO cu cw fh_iload zp_iload_n := by
  intro p l e R s m args below meth c Q cc nL G A as y pc a b nxt d lv stk S k H locs ls vs ⟨hx, hb, hml, hown, hts, hnm, hA, hN⟩ ⟨h1, h2, h3⟩ h ⟨hS, hHP, hL, hV⟩ kk
  obtain ⟨lv', hl, hlv⟩ := hL
  have hlk : fx_lk lv a = fx_lk lv a := rfl
  have h : match fx_lk lv a with | some (.inl z) => k nxt lv (.inl z :: stk) S | _ => False := h
  generalize hq : fx_lk lv a = q at h
  rcases q with _ | q
  · exact h.elim
  rcases q with z | z | z
  · obtain ⟨w, m1, rfl, m3⟩ := hlv a _ hq
    exact lv_iload_n hx hb h2 (zx_f4 h1) (hl.2.2 _ m1) (h3 ▸ kk _ _ _ _ _ _ _ _  h ⟨hS, hHP, ⟨lv', hl, hlv⟩, ⟨rfl, m3⟩, hV⟩)
  · exact h.elim
  · exact h.elim
theorem fo_iload : fr_HO cu cw fh_iload zp_iload := by
  intro p l e R s m args below meth c Q cc nL G A as y pc a b nxt d lv stk S k H locs ls vs ⟨hx, hb, hml, hown, hts, hnm, hA, hN⟩ ⟨h2, h3⟩ h ⟨hS, hHP, hL, hV⟩ kk
  obtain ⟨lv', hl, hlv⟩ := hL
  have hlk : fx_lk lv a = fx_lk lv a := rfl
  have h : match fx_lk lv a with | some (.inl z) => k nxt lv (.inl z :: stk) S | _ => False := h
  generalize hq : fx_lk lv a = q at h
  rcases q with _ | q
  · exact h.elim
  rcases q with z | z | z
  · obtain ⟨w, m1, rfl, m3⟩ := hlv a _ hq
    exact lv_iload hx hb h2 (hl.2.2 _ m1) (h3 ▸ kk _ _ _ _ _ _ _ _  h ⟨hS, hHP, ⟨lv', hl, hlv⟩, ⟨rfl, m3⟩, hV⟩)
  · exact h.elim
  · exact h.elim
theorem fo_lload_n : fr_HO cu cw fh_lload zp_lload_n := by
  intro p l e R s m args below meth c Q cc nL G A as y pc a b nxt d lv stk S k H locs ls vs ⟨hx, hb, hml, hown, hts, hnm, hA, hN⟩ ⟨h1, h2, h3⟩ h ⟨hS, hHP, hL, hV⟩ kk
  obtain ⟨lv', hl, hlv⟩ := hL
  have hlk : fx_lk lv a = fx_lk lv a := rfl
  have h : match fx_lk lv a with | some (.inr (.inl z)) => k nxt lv (.inr (.inl z) :: stk) S | _ => False := h
  generalize hq : fx_lk lv a = q at h
  rcases q with _ | q
  · exact h.elim
  rcases q with z | z | z
  · exact h.elim
  · obtain ⟨w, m1, rfl, m3⟩ := hlv a _ hq
    exact lv_lload_n hx hb h2 (zx_f4 h1) (hl.2.2 _ m1) (h3 ▸ kk _ _ _ _ _ _ _ _  h ⟨hS, hHP, ⟨lv', hl, hlv⟩, ⟨rfl, m3⟩, hV⟩)
  · exact h.elim
theorem fo_lload : fr_HO cu cw fh_lload zp_lload := by
  intro p l e R s m args below meth c Q cc nL G A as y pc a b nxt d lv stk S k H locs ls vs ⟨hx, hb, hml, hown, hts, hnm, hA, hN⟩ ⟨h2, h3⟩ h ⟨hS, hHP, hL, hV⟩ kk
  obtain ⟨lv', hl, hlv⟩ := hL
  have hlk : fx_lk lv a = fx_lk lv a := rfl
  have h : match fx_lk lv a with | some (.inr (.inl z)) => k nxt lv (.inr (.inl z) :: stk) S | _ => False := h
  generalize hq : fx_lk lv a = q at h
  rcases q with _ | q
  · exact h.elim
  rcases q with z | z | z
  · exact h.elim
  · obtain ⟨w, m1, rfl, m3⟩ := hlv a _ hq
    exact lv_lload hx hb h2 (hl.2.2 _ m1) (h3 ▸ kk _ _ _ _ _ _ _ _  h ⟨hS, hHP, ⟨lv', hl, hlv⟩, ⟨rfl, m3⟩, hV⟩)
  · exact h.elim
theorem fo_aload_n : fr_HO cu cw fh_aload zp_aload_n := by
  intro p l e R s m args below meth c Q cc nL G A as y pc a b nxt d lv stk S k H locs ls vs ⟨hx, hb, hml, hown, hts, hnm, hA, hN⟩ ⟨h1, h2, h3⟩ h ⟨hS, hHP, hL, hV⟩ kk
  obtain ⟨lv', hl, hlv⟩ := hL
  have hlk : fx_lk lv a = fx_lk lv a := rfl
  have h : match fx_lk lv a with | some (.inr (.inr z)) => k nxt lv (.inr (.inr z) :: stk) S | _ => False := h
  generalize hq : fx_lk lv a = q at h
  rcases q with _ | q
  · exact h.elim
  rcases q with z | z | z
  · exact h.elim
  · exact h.elim
  · obtain ⟨w, m1, m2⟩ := hlv a _ hq
    obtain ⟨q, k1, rfl⟩ := m2
    exact lv_aload_n hx hb h2 (zx_f4 h1) (hl.2.2 _ m1) (h3 ▸ kk _ _ _ _ _ _ _ _  h ⟨hS, hHP, ⟨lv', hl, hlv⟩, ⟨q, k1, rfl⟩, hV⟩)
theorem fo_aload : fr_HO cu cw fh_aload zp_aload := by
  intro p l e R s m args below meth c Q cc nL G A as y pc a b nxt d lv stk S k H locs ls vs ⟨hx, hb, hml, hown, hts, hnm, hA, hN⟩ ⟨h2, h3⟩ h ⟨hS, hHP, hL, hV⟩ kk
  obtain ⟨lv', hl, hlv⟩ := hL
  have hlk : fx_lk lv a = fx_lk lv a := rfl
  have h : match fx_lk lv a with | some (.inr (.inr z)) => k nxt lv (.inr (.inr z) :: stk) S | _ => False := h
  generalize hq : fx_lk lv a = q at h
  rcases q with _ | q
  · exact h.elim
  rcases q with z | z | z
  · exact h.elim
  · exact h.elim
  · obtain ⟨w, m1, m2⟩ := hlv a _ hq
    obtain ⟨q, k1, rfl⟩ := m2
    exact lv_aload hx hb h2 (hl.2.2 _ m1) (h3 ▸ kk _ _ _ _ _ _ _ _  h ⟨hS, hHP, ⟨lv', hl, hlv⟩, ⟨q, k1, rfl⟩, hV⟩)
theorem fo_istore_n : fr_HO cu cw fh_istore zp_istore_n := by
  intro p l e R s m args below meth c Q cc nL G A as y pc a b nxt d lv stk S k H locs ls vs ⟨hx, hb, hml, hown, hts, hnm, hA, hN⟩ ⟨h1, h2, h3, h4⟩ h ⟨hS, hHP, hL, hV⟩ kk
  obtain ⟨lv', hl, hlv⟩ := hL
  obtain ⟨z, r, rfl, h5, h⟩ := fi_1 (P := fun z r => (a < b) ∧ k nxt (fx_sto lv a (.inl z)) r S) h
  obtain ⟨vr, rfl, hz, hV⟩ := fv_i hV
  have hv : fr_v as (.inl z) (.int (Int32.ofInt z)) := ⟨rfl, hz⟩
  exact lv_istore_n hx hb h2 (zx_f4 h1) hl (by omega) rfl (fun ls' hl' => h3 ▸ kk _ _ _ _ _ _ _ _  h ⟨hS, hHP, fr_sto1 (ls := ls) hlv hv rfl hl', hV⟩)
theorem fo_istore : fr_HO cu cw fh_istore zp_istore := by
  intro p l e R s m args below meth c Q cc nL G A as y pc a b nxt d lv stk S k H locs ls vs ⟨hx, hb, hml, hown, hts, hnm, hA, hN⟩ ⟨h2, h3, h4⟩ h ⟨hS, hHP, hL, hV⟩ kk
  obtain ⟨lv', hl, hlv⟩ := hL
  obtain ⟨z, r, rfl, h5, h⟩ := fi_1 (P := fun z r => (a < b) ∧ k nxt (fx_sto lv a (.inl z)) r S) h
  obtain ⟨vr, rfl, hz, hV⟩ := fv_i hV
  have hv : fr_v as (.inl z) (.int (Int32.ofInt z)) := ⟨rfl, hz⟩
  exact lv_istore hx hb h2 hl (by omega) rfl (fun ls' hl' => h3 ▸ kk _ _ _ _ _ _ _ _  h ⟨hS, hHP, fr_sto1 (ls := ls) hlv hv rfl hl', hV⟩)
theorem fo_astore_n : fr_HO cu cw fh_astore zp_astore_n := by
  intro p l e R s m args below meth c Q cc nL G A as y pc a b nxt d lv stk S k H locs ls vs ⟨hx, hb, hml, hown, hts, hnm, hA, hN⟩ ⟨h1, h2, h3, h4⟩ h ⟨hS, hHP, hL, hV⟩ kk
  obtain ⟨lv', hl, hlv⟩ := hL
  obtain ⟨z, r, rfl, h5, h⟩ := fi_r (P := fun z r => (a < b) ∧ k nxt (fx_sto lv a (.inr (.inr z))) r S) h
  obtain ⟨q, vr, rfl, hz, hV⟩ := fv_r hV
  have hv : fr_v as (.inr (.inr z)) (.ref q) := ⟨q, hz, rfl⟩
  exact lv_astore_n hx hb h2 (zx_f4 h1) hl (by omega) rfl (fun ls' hl' => h3 ▸ kk _ _ _ _ _ _ _ _  h ⟨hS, hHP, fr_sto1 (ls := ls) hlv hv rfl hl', hV⟩)
theorem fo_astore : fr_HO cu cw fh_astore zp_astore := by
  intro p l e R s m args below meth c Q cc nL G A as y pc a b nxt d lv stk S k H locs ls vs ⟨hx, hb, hml, hown, hts, hnm, hA, hN⟩ ⟨h2, h3, h4⟩ h ⟨hS, hHP, hL, hV⟩ kk
  obtain ⟨lv', hl, hlv⟩ := hL
  obtain ⟨z, r, rfl, h5, h⟩ := fi_r (P := fun z r => (a < b) ∧ k nxt (fx_sto lv a (.inr (.inr z))) r S) h
  obtain ⟨q, vr, rfl, hz, hV⟩ := fv_r hV
  have hv : fr_v as (.inr (.inr z)) (.ref q) := ⟨q, hz, rfl⟩
  exact lv_astore hx hb h2 hl (by omega) rfl (fun ls' hl' => h3 ▸ kk _ _ _ _ _ _ _ _  h ⟨hS, hHP, fr_sto1 (ls := ls) hlv hv rfl hl', hV⟩)
theorem fo_lstore_n : fr_HO cu cw fh_lstore fp_lstore_n := by
  intro p l e R s m args below meth c Q cc nL G A as y pc a b nxt d lv stk S k H locs ls vs ⟨hx, hb, hml, hown, hts, hnm, hA, hN⟩ ⟨h1, h2, h3, h4⟩ h ⟨hS, hHP, hL, hV⟩ kk
  obtain ⟨lv', hl, hlv⟩ := hL
  obtain ⟨z, r, rfl, h5, h⟩ := fi_l (P := fun z r => (a + 1 < b) ∧ k nxt (fx_sto lv a (.inr (.inl z))) r S) h
  obtain ⟨vr, rfl, hz, hV⟩ := fv_l hV
  have hv : fr_v as (.inr (.inl z)) (.long (Int64.ofInt z)) := ⟨rfl, hz⟩
  exact lv_lstore_n hx hb h2 (zx_f4 h1) hl (by omega) rfl (fun ls' hl' => h3 ▸ kk _ _ _ _ _ _ _ _  h ⟨hS, hHP, fr_sto2 (ls := ls) hlv hv rfl hl', hV⟩)
theorem fo_lstore : fr_HO cu cw fh_lstore fp_lstore := by
  intro p l e R s m args below meth c Q cc nL G A as y pc a b nxt d lv stk S k H locs ls vs ⟨hx, hb, hml, hown, hts, hnm, hA, hN⟩ ⟨h2, h3, h4⟩ h ⟨hS, hHP, hL, hV⟩ kk
  obtain ⟨lv', hl, hlv⟩ := hL
  obtain ⟨z, r, rfl, h5, h⟩ := fi_l (P := fun z r => (a + 1 < b) ∧ k nxt (fx_sto lv a (.inr (.inl z))) r S) h
  obtain ⟨vr, rfl, hz, hV⟩ := fv_l hV
  have hv : fr_v as (.inr (.inl z)) (.long (Int64.ofInt z)) := ⟨rfl, hz⟩
  exact lv_lstore hx hb h2 hl (by omega) rfl (fun ls' hl' => h3 ▸ kk _ _ _ _ _ _ _ _  h ⟨hS, hHP, fr_sto2 (ls := ls) hlv hv rfl hl', hV⟩)
theorem fz_sI {n : Nat} (h : n < 4294967296) : -2147483648 ≤ zx_sI n ∧ zx_sI n < 2147483648 := by
  unfold zx_sI
  split <;> omega
theorem fz_nI {as : List Nat} {n : Nat} (h : n < 4294967296) : fr_v as (.inl (zx_sI n)) (.int (nI n)) := ⟨by rw [zx_sI_ok n h], fz_sI h⟩
theorem fl_sL {n : Nat} (h : n < 18446744073709551616) : -9223372036854775808 ≤ fx_sL n ∧ fx_sL n < 9223372036854775808 := by
  unfold fx_sL
  split <;> omega
theorem fl_lN {as : List Nat} {n : Nat} (h : n < 18446744073709551616) : fr_v as (.inr (.inl (fx_sL n))) (.long (lN n)) := by
  refine ⟨?_, fl_sL h⟩
  have e : Int64.ofInt (fx_sL n) = lN n := by
    apply Int64.toInt_inj.mp
    rw [fl_to (fl_sL h)]
    have h2 : (lN n).toInt = (n : Int).bmod 18446744073709551616 := by
      show (Int64.ofNat n).toInt = _
      rw [Int64.toInt_ofNat']
    rw [h2, Int.bmod_def]
    unfold fx_sL
    split <;> omega
  rw [e]
theorem fo_iconst : fr_HO cu cw fh_push zp_iconst := by
  intro p l e R s m args below meth c Q cc nL G A as y pc a b nxt d lv stk S k H locs ls vs ⟨hx, hb, hml, hown, hts, hnm, hA, hN⟩ ⟨h0, h1, h2, h3⟩ h ⟨hS, hHP, hL, hV⟩ kk
  obtain ⟨h9, h⟩ := fc_t h
  exact lv_iconst hx hb h2 (zx_sI_ok _ h1) (h3 ▸ kk _ _ _ _ _ _ _ _  h ⟨hS, hHP, hL, fz_nI (zx_blt.mp h9), hV⟩)
theorem fo_bipush : fr_HO cu cw fh_push zp_bipush := by
  intro p l e R s m args below meth c Q cc nL G A as y pc a b nxt d lv stk S k H locs ls vs ⟨hx, hb, hml, hown, hts, hnm, hA, hN⟩ ⟨h0, h1, h2, h3⟩ h ⟨hS, hHP, hL, hV⟩ kk
  obtain ⟨h9, h⟩ := fc_t h
  exact lv_bipush hx hb h2 h1 (h3 ▸ kk _ _ _ _ _ _ _ _  h ⟨hS, hHP, hL, fz_nI (zx_blt.mp h9), hV⟩)
theorem fo_sipush : fr_HO cu cw fh_push zp_sipush := by
  intro p l e R s m args below meth c Q cc nL G A as y pc a b nxt d lv stk S k H locs ls vs ⟨hx, hb, hml, hown, hts, hnm, hA, hN⟩ ⟨h0, h1, h2, h3⟩ h ⟨hS, hHP, hL, hV⟩ kk
  obtain ⟨h9, h⟩ := fc_t h
  exact lv_sipush hx hb h2 h1 (h3 ▸ kk _ _ _ _ _ _ _ _  h ⟨hS, hHP, hL, fz_nI (zx_blt.mp h9), hV⟩)
theorem fo_ldc : fr_HO cu cw fh_push zp_ldc := by
  intro p l e R s m args below meth c Q cc nL G A as y pc a b nxt d lv stk S k H locs ls vs ⟨hx, hb, hml, hown, hts, hnm, hA, hN⟩ ⟨h0, h1, h2, h3⟩ h ⟨hS, hHP, hL, hV⟩ kk
  obtain ⟨h9, h⟩ := fc_t h
  exact lv_ldc hx hb hown (hts _ h1) h2 (h3 ▸ kk _ _ _ _ _ _ _ _  h ⟨hS, hHP, hL, fz_nI (zx_blt.mp h9), hV⟩)
theorem fo_ldcw : fr_HO cu cw fh_push fp_ldcw := by
  intro p l e R s m args below meth c Q cc nL G A as y pc a b nxt d lv stk S k H locs ls vs ⟨hx, hb, hml, hown, hts, hnm, hA, hN⟩ ⟨h0, h1, h2, h3⟩ h ⟨hS, hHP, hL, hV⟩ kk
  obtain ⟨h9, h⟩ := fc_t h
  exact lv_ldcw hx hb hown (hts _ h1) h2 (h3 ▸ kk _ _ _ _ _ _ _ _  h ⟨hS, hHP, hL, fz_nI (zx_blt.mp h9), hV⟩)
theorem fo_lconst : fr_HO cu cw fh_pushl zp_lconst := by
  intro p l e R s m args below meth c Q cc nL G A as y pc a b nxt d lv stk S k H locs ls vs ⟨hx, hb, hml, hown, hts, hnm, hA, hN⟩ ⟨h0, h1, h2, h3⟩ h ⟨hS, hHP, hL, hV⟩ kk
  obtain ⟨h9, h⟩ := fc_t h
  exact lv_lconst hx hb h2 (v := lN (a / 8)) (by show Int64.ofNat ((a / 8) % 2) = Int64.ofNat (a / 8); rw [Nat.mod_eq_of_lt h1]) (h3 ▸ kk _ _ _ _ _ _ _ _  h ⟨hS, hHP, hL, fl_lN (zx_blt.mp h9), hV⟩)
theorem fo_ldc2 : fr_HO cu cw fh_pushl zp_ldc2 := by
  intro p l e R s m args below meth c Q cc nL G A as y pc a b nxt d lv stk S k H locs ls vs ⟨hx, hb, hml, hown, hts, hnm, hA, hN⟩ ⟨h0, h1, h2, h3⟩ h ⟨hS, hHP, hL, hV⟩ kk
  obtain ⟨h9, h⟩ := fc_t h
  exact lv_ldc2 hx hb hown (hts _ h1) h2 (h3 ▸ kk _ _ _ _ _ _ _ _  h ⟨hS, hHP, hL, fl_lN (zx_blt.mp h9), hV⟩)
theorem fo_iinc : fr_HO cu cw fh_iinc zp_iinc := by
  intro p l e R s m args below meth c Q cc nL G A as y pc a b nxt d lv stk S k H locs ls vs ⟨hx, hb, hml, hown, hts, hnm, hA, hN⟩ ⟨n, h0, h1, h2, h3, h4⟩ h ⟨hS, hHP, hL, hV⟩ kk
  subst h0
  obtain ⟨lv', hl, hlv⟩ := hL
  have h : match fx_lk lv a with | some (.inl z) => (a < b ∧ n < 4294967296) ∧ (-2147483648 ≤ z + zx_sI n ∧ z + zx_sI n < 2147483648) ∧ k nxt (fx_sto lv a (.inl (z + zx_sI n))) stk S | _ => False := by
    unfold fh_iinc at h
    split at h
    · rename_i e1 e2
      cases e1
      rw [e2]
      exact h
    · exact h.elim
  generalize hq : fx_lk lv a = q at h
  rcases q with _ | q
  · exact h.elim
  rcases q with z | z | z
  · obtain ⟨h5, h6, h⟩ := h
    obtain ⟨w, m1, rfl, m3⟩ := hlv a _ hq
    obtain ⟨i0, hi0⟩ := List.getElem?_of_mem m1
    exact lv_iinc (k := i0) (v := Int32.ofInt (z + zx_sI n)) hx hb h2 hl hi0 (Int32.ofInt_add z (zx_sI n)).symm (by omega) rfl (fun ls' hl' => h3 ▸ kk _ _ _ _ _ _ _ _  h ⟨hS, hHP, fr_sto1 (ls := ls) (w := .int (Int32.ofInt (z + zx_sI n))) hlv ⟨rfl, h6⟩ rfl hl', hV⟩)
  · exact h.elim
  · exact h.elim
theorem fx_ar_ok {a : Nat} {z : Int} {k : Int → Prop} (h : fx_ar a z k) (x : Int32) (hx : Int32.ofInt z = x) : ∃ y, k y ∧ Int32.ofInt y = x ∧ -2147483648 ≤ y ∧ y < 2147483648 := by
  rcases fc_b h with ⟨-, h⟩ | ⟨-, h⟩
  · exact ⟨x.toInt, h _ (fz_in x).1 (fz_in x).2 (fun q => by rw [← hx, fz_to q]), fz_of x, fz_in x⟩
  · rcases fc_b h with ⟨-, h⟩ | ⟨-, h1, h⟩
    · exact ⟨x.toInt, h _ (fz_in x).1 (fz_in x).2 (by rw [← hx]), fz_of x, fz_in x⟩
    · exact ⟨z, h, hx, h1⟩
theorem fo_iadd : fr_HO cu cw fh_iadd (zp_op .iadd) := by
  intro p l e R s m args below meth c Q cc nL G A as y pc a b nxt d lv stk S k H locs ls vs ⟨hx, hb, hml, hown, hts, hnm, hA, hN⟩ ⟨h1, h2⟩ h ⟨hS, hHP, hL, hV⟩ kk
  obtain ⟨x, z, r, rfl, h⟩ := fi_2 (P := fun x y r => fx_ar a (x + y) (fun z => k nxt lv (.inl z :: r) S)) h
  obtain ⟨vr, rfl, hz, hV⟩ := fv_i hV
  obtain ⟨vr, rfl, hx1, hV⟩ := fv_i hV
  obtain ⟨v, h, e1, e2⟩ := fx_ar_ok h _ (Int32.ofInt_add x z)
  exact lv_iadd hx hb h1 (h2 ▸ kk _ _ _ _ _ _ _ _  h ⟨hS, hHP, hL, ⟨by rw [e1], e2⟩, hV⟩)
theorem fo_isub : fr_HO cu cw fh_isub (zp_op .isub) := by
  intro p l e R s m args below meth c Q cc nL G A as y pc a b nxt d lv stk S k H locs ls vs ⟨hx, hb, hml, hown, hts, hnm, hA, hN⟩ ⟨h1, h2⟩ h ⟨hS, hHP, hL, hV⟩ kk
  obtain ⟨x, z, r, rfl, h⟩ := fi_2 (P := fun x y r => fx_ar a (x - y) (fun z => k nxt lv (.inl z :: r) S)) h
  obtain ⟨vr, rfl, hz, hV⟩ := fv_i hV
  obtain ⟨vr, rfl, hx1, hV⟩ := fv_i hV
  obtain ⟨v, h, e1, e2⟩ := fx_ar_ok h _ (Int32.ofInt_sub x z)
  exact lv_isub hx hb h1 (h2 ▸ kk _ _ _ _ _ _ _ _  h ⟨hS, hHP, hL, ⟨by rw [e1], e2⟩, hV⟩)
theorem fo_imul : fr_HO cu cw fh_imul (zp_op .imul) := by
  intro p l e R s m args below meth c Q cc nL G A as y pc a b nxt d lv stk S k H locs ls vs ⟨hx, hb, hml, hown, hts, hnm, hA, hN⟩ ⟨h1, h2⟩ h ⟨hS, hHP, hL, hV⟩ kk
  obtain ⟨x, z, r, rfl, h⟩ := fi_2 (P := fun x y r => fx_ar a (x * y) (fun z => k nxt lv (.inl z :: r) S)) h
  obtain ⟨vr, rfl, hz, hV⟩ := fv_i hV
  obtain ⟨vr, rfl, hx1, hV⟩ := fv_i hV
  obtain ⟨v, h, e1, e2⟩ := fx_ar_ok h _ (Int32.ofInt_mul x z)
  exact lv_imul hx hb h1 (h2 ▸ kk _ _ _ _ _ _ _ _  h ⟨hS, hHP, hL, ⟨by rw [e1], e2⟩, hV⟩)
theorem fz_div {x y : Int} (hx : 0 ≤ x ∧ x < 2147483648) (hy : 0 < y ∧ y < 2147483648) : Int32.ofInt x / Int32.ofInt y = Int32.ofInt (x / y) ∧ 0 ≤ x / y ∧ x / y ≤ x := by
  have h0 : 0 ≤ x / y := Int.ediv_nonneg hx.1 (by omega)
  have h1 : x / y ≤ x := Int.ediv_le_self _ hx.1
  refine ⟨?_, h0, h1⟩
  apply Int32.toInt_inj.mp
  rw [Int32.toInt_div, fz_to ⟨by omega, hx.2⟩, fz_to ⟨by omega, hy.2⟩, fz_to ⟨by omega, by omega⟩, Int.tdiv_eq_ediv_of_nonneg hx.1]
  show (x / y).bmod 4294967296 = x / y
  generalize x / y = q at h0 h1
  rw [Int.bmod_def]
  omega
theorem fz_rem {x y : Int} (hx : 0 ≤ x ∧ x < 2147483648) (hy : 0 < y ∧ y < 2147483648) : Int32.ofInt x - Int32.ofInt x / Int32.ofInt y * Int32.ofInt y = Int32.ofInt (x % y) ∧ 0 ≤ x % y ∧ x % y < y := by
  refine ⟨?_, Int.emod_nonneg _ (by omega), Int.emod_lt_of_pos _ hy.1⟩
  rw [(fz_div hx hy).1, ← Int32.ofInt_mul, ← Int32.ofInt_sub]
  congr 1
  have := Int.emod_add_mul_ediv x y
  rw [Int.mul_comm] at this
  omega
theorem fo_idiv : fr_HO cu cw fh_idiv (zp_op .idiv) := by
  intro p l e R s m args below meth c Q cc nL G A as y pc a b nxt d lv stk S k H locs ls vs ⟨hx, hb, hml, hown, hts, hnm, hA, hN⟩ ⟨h1, h2⟩ h ⟨hS, hHP, hL, hV⟩ kk
  obtain ⟨x, z, r, rfl, h5, h⟩ := fi_2 (P := fun x y r => (0 ≤ x ∧ 0 < y) ∧ k nxt lv (.inl (x / y) :: r) S) h
  obtain ⟨vr, rfl, hz, hV⟩ := fv_i hV
  obtain ⟨vr, rfl, hx1, hV⟩ := fv_i hV
  have hq := fz_div (x := x) (y := z) ⟨h5.1, hx1.2⟩ ⟨h5.2, hz.2⟩
  have hne : ¬ Int32.ofInt z = 0 := fun q => by
    have q : Int32.ofInt z = Int32.ofInt 0 := q
    rw [fz_eq hz ⟨by omega, by omega⟩] at q
    omega
  exact lv_idiv hx hb h1 hne (h2 ▸ kk _ _ _ _ _ _ _ _  h ⟨hS, hHP, hL, ⟨by rw [hq.1], by omega⟩, hV⟩)
theorem fo_irem : fr_HO cu cw fh_irem (zp_op .irem) := by
  intro p l e R s m args below meth c Q cc nL G A as y pc a b nxt d lv stk S k H locs ls vs ⟨hx, hb, hml, hown, hts, hnm, hA, hN⟩ ⟨h1, h2⟩ h ⟨hS, hHP, hL, hV⟩ kk
  obtain ⟨x, z, r, rfl, h5, h⟩ := fi_2 (P := fun x y r => (0 ≤ x ∧ 0 < y) ∧ k nxt lv (.inl (x % y) :: r) S) h
  obtain ⟨vr, rfl, hz, hV⟩ := fv_i hV
  obtain ⟨vr, rfl, hx1, hV⟩ := fv_i hV
  have hq := fz_rem (x := x) (y := z) ⟨h5.1, hx1.2⟩ ⟨h5.2, hz.2⟩
  have hne : ¬ Int32.ofInt z = 0 := fun q => by
    have q : Int32.ofInt z = Int32.ofInt 0 := q
    rw [fz_eq hz ⟨by omega, by omega⟩] at q
    omega
  exact lv_irem hx hb h1 hne (h2 ▸ kk _ _ _ _ _ _ _ _  h ⟨hS, hHP, hL, ⟨by rw [hq.1], by omega⟩, hV⟩)
theorem fz_and (x : Int32) {y : Int} (h0 : 0 ≤ y) (h1 : y < 2147483648) : 0 ≤ (x &&& Int32.ofInt y).toInt ∧ (x &&& Int32.ofInt y).toInt ≤ y := by
  obtain ⟨n, rfl⟩ := Int.eq_ofNat_of_zero_le h0
  have e : (Int32.ofInt (n : Int)).toBitVec.toNat = n := by
    show (BitVec.ofInt 32 (n : Int)).toNat = n
    rw [BitVec.toNat_ofInt]
    omega
  have h2 : (x &&& Int32.ofInt (n : Int)).toBitVec.toNat ≤ n := by
    rw [Int32.toBitVec_and, BitVec.toNat_and, e]
    exact Nat.and_le_right
  have h3 : (x &&& Int32.ofInt (n : Int)).toInt = ((x &&& Int32.ofInt (n : Int)).toBitVec.toNat : Int) := by
    show (x &&& Int32.ofInt (n : Int)).toBitVec.toInt = _
    rw [BitVec.toInt_eq_toNat_cond]
    rw [if_pos (by omega)]
  rw [h3]
  omega
theorem fz_255 (x : Int) : (Int32.ofInt x &&& Int32.ofInt 255).toInt = x % 256 := by
  have e : (Int32.ofInt 255).toBitVec.toNat = 255 := by decide
  have h2 : (Int32.ofInt x &&& Int32.ofInt 255).toBitVec.toNat = (Int32.ofInt x).toBitVec.toNat % 256 := by
    rw [Int32.toBitVec_and, BitVec.toNat_and, e]
    exact Nat.and_two_pow_sub_one_eq_mod _ 8
  have h4 : (Int32.ofInt x).toBitVec.toNat = (x % 4294967296).toNat := by
    show (BitVec.ofInt 32 x).toNat = _
    rw [BitVec.toNat_ofInt]
    rfl
  have h3 : (Int32.ofInt x &&& Int32.ofInt 255).toInt = ((Int32.ofInt x &&& Int32.ofInt 255).toBitVec.toNat : Int) := by
    show (Int32.ofInt x &&& Int32.ofInt 255).toBitVec.toInt = _
    rw [BitVec.toInt_eq_toNat_cond]
    rw [if_pos (by omega)]
  rw [h3, h2, h4]
  omega
theorem fo_iand : fr_HO cu cw fh_iand (zp_op .iand) := by
  intro p l e R s m args below meth c Q cc nL G A as y pc a b nxt d lv stk S k H locs ls vs ⟨hx, hb, hml, hown, hts, hnm, hA, hN⟩ ⟨h1, h2⟩ h ⟨hS, hHP, hL, hV⟩ kk
  obtain ⟨x, z, r, rfl, h5, h⟩ := fi_2 (P := fun x y r => 0 ≤ y ∧ ∀ z : Int, 0 ≤ z → z ≤ y → (y = 255 → z = x % 256) → k nxt lv (.inl z :: r) S) h
  obtain ⟨vr, rfl, hz, hV⟩ := fv_i hV
  obtain ⟨vr, rfl, hx1, hV⟩ := fv_i hV
  have hq := fz_and (Int32.ofInt x) h5 hz.2
  exact lv_iand hx hb h1 (h2 ▸ kk _ _ _ _ _ _ _ _  (h _ hq.1 hq.2 (fun q => by subst q; exact fz_255 x)) ⟨hS, hHP, hL, fr_int _, hV⟩)
theorem fo_bin : fr_HO cu cw fh_bin fp_bin := by
  intro p l e R s m args below meth c Q cc nL G A as y pc a b nxt d lv stk S k H locs ls vs ⟨hx, hb, hml, hown, hts, hnm, hA, hN⟩ ⟨h1, h2⟩ h ⟨hS, hHP, hL, hV⟩ kk
  obtain ⟨x, z, r, rfl, h⟩ := fi_2 (P := fun x y r => ∀ z : Int, -2147483648 ≤ z → z < 2147483648 → z = fx_bop a x y → k nxt lv (.inl z :: r) S) h
  obtain ⟨vr, rfl, hz, hV⟩ := fv_i hV
  obtain ⟨vr, rfl, hx1, hV⟩ := fv_i hV
  have fin : ∀ v : Int32, v.toInt = fx_bop a x z → W p l e R s m args below meth c H locs cu cw Q (F0 m (pc + 1) ls (.int v :: vr)) := fun v hv => h2 ▸ kk _ _ _ _ _ _ _ _  (h _ (fz_in v).1 (fz_in v).2 hv) ⟨hS, hHP, hL, fr_int v, hV⟩
  rcases h1 with ⟨rfl, h1⟩ | ⟨rfl, h1⟩ | ⟨rfl, h1⟩ | ⟨rfl, h1⟩
  · exact lv_ishl hx hb h1 (fin _ rfl)
  · exact lv_iushr hx hb h1 rfl (fin _ rfl)
  · exact lv_ior hx hb h1 (fin _ rfl)
  · exact lv_ixor hx hb h1 (fin _ rfl)
theorem fo_ineg : fr_HO cu cw fh_ineg (zp_op .ineg) := by
  intro p l e R s m args below meth c Q cc nL G A as y pc a b nxt d lv stk S k H locs ls vs ⟨hx, hb, hml, hown, hts, hnm, hA, hN⟩ ⟨h1, h2⟩ h ⟨hS, hHP, hL, hV⟩ kk
  obtain ⟨x, r, rfl, h⟩ := fi_1 (P := fun x r => ∀ z : Int, -2147483648 ≤ z → z < 2147483648 → (-2147483648 < x → z = -x) → k nxt lv (.inl z :: r) S) h
  obtain ⟨vr, rfl, hz, hV⟩ := fv_i hV
  refine lv_ineg hx hb h1 (h2 ▸ kk _ _ _ _ _ _ _ _  (h (-Int32.ofInt x).toInt (fz_in _).1 (fz_in _).2 (fun q => ?_)) ⟨hS, hHP, hL, fr_int _, hV⟩)
  rw [← Int32.ofInt_neg, fz_to ⟨by omega, by omega⟩]
theorem fo_i2b : fr_HO cu cw fh_i2b (zp_op .i2b) := by
  intro p l e R s m args below meth c Q cc nL G A as y pc a b nxt d lv stk S k H locs ls vs ⟨hx, hb, hml, hown, hts, hnm, hA, hN⟩ ⟨h1, h2⟩ h ⟨hS, hHP, hL, hV⟩ kk
  obtain ⟨x, r, rfl, h⟩ := fi_1 (P := fun x r => ∀ z : Int, -128 ≤ z → z ≤ 127 → k nxt lv (.inl z :: r) S) h
  obtain ⟨vr, rfl, hz, hV⟩ := fv_i hV
  have hq : -128 ≤ (Int32.ofInt x).toInt8.toInt32.toInt ∧ (Int32.ofInt x).toInt8.toInt32.toInt ≤ 127 := by
    rw [Int8.toInt_toInt32]
    have a1 := Int8.le_toInt (Int32.ofInt x).toInt8
    have a2 := Int8.toInt_lt (Int32.ofInt x).toInt8
    omega
  exact lv_i2b hx hb h1 rfl (h2 ▸ kk _ _ _ _ _ _ _ _  (h _ hq.1 hq.2) ⟨hS, hHP, hL, fr_int _, hV⟩)
theorem fo_i2l : fr_HO cu cw fh_i2l (zp_op .i2l) := by
  intro p l e R s m args below meth c Q cc nL G A as y pc a b nxt d lv stk S k H locs ls vs ⟨hx, hb, hml, hown, hts, hnm, hA, hN⟩ ⟨h1, h2⟩ h ⟨hS, hHP, hL, hV⟩ kk
  obtain ⟨x, r, rfl, h⟩ := fi_1 (P := fun x r => k nxt lv (.inr (.inl x) :: r) S) h
  obtain ⟨vr, rfl, hz, hV⟩ := fv_i hV
  have e : (Int32.ofInt x).toInt64 = Int64.ofInt x := by
    apply Int64.toInt_inj.mp
    rw [Int32.toInt_toInt64, fz_to hz, fl_to ⟨by omega, by omega⟩]
  exact lv_i2l hx hb h1 e (h2 ▸ kk _ _ _ _ _ _ _ _  h ⟨hS, hHP, hL, ⟨rfl, by omega, by omega⟩, hV⟩)
theorem fo_l2i : fr_HO cu cw fh_l2i (zp_op .l2i) := by
  intro p l e R s m args below meth c Q cc nL G A as y pc a b nxt d lv stk S k H locs ls vs ⟨hx, hb, hml, hown, hts, hnm, hA, hN⟩ ⟨h1, h2⟩ h ⟨hS, hHP, hL, hV⟩ kk
  obtain ⟨x, r, rfl, h⟩ := fi_l (P := fun x r => ∀ z : Int, -2147483648 ≤ z → z < 2147483648 → k nxt lv (.inl z :: r) S) h
  obtain ⟨vr, rfl, hz, hV⟩ := fv_l hV
  exact lv_l2i hx hb h1 rfl (h2 ▸ kk _ _ _ _ _ _ _ _  (h _ (fz_in _).1 (fz_in _).2) ⟨hS, hHP, hL, fr_int _, hV⟩)
theorem fo_lshl : fr_HO cu cw fh_lsh (zp_op .lshl) := by
  intro p l e R s m args below meth c Q cc nL G A as y pc a b nxt d lv stk S k H locs ls vs ⟨hx, hb, hml, hown, hts, hnm, hA, hN⟩ ⟨h1, h2⟩ h ⟨hS, hHP, hL, hV⟩ kk
  obtain ⟨x, z, r, rfl, h⟩ := fi_il (P := fun x y r => ∀ z : Int, k nxt lv (.inr (.inl z) :: r) S) h
  obtain ⟨vr, rfl, hz, hV⟩ := fv_i hV
  obtain ⟨vr, rfl, hx1, hV⟩ := fv_l hV
  exact lv_lshl hx hb h1 rfl (h2 ▸ kk _ _ _ _ _ _ _ _  (h _) ⟨hS, hHP, hL, fr_long _, hV⟩)
theorem fo_lushr : fr_HO cu cw fh_lsh (zp_op .lushr) := by
  intro p l e R s m args below meth c Q cc nL G A as y pc a b nxt d lv stk S k H locs ls vs ⟨hx, hb, hml, hown, hts, hnm, hA, hN⟩ ⟨h1, h2⟩ h ⟨hS, hHP, hL, hV⟩ kk
  obtain ⟨x, z, r, rfl, h⟩ := fi_il (P := fun x y r => ∀ z : Int, k nxt lv (.inr (.inl z) :: r) S) h
  obtain ⟨vr, rfl, hz, hV⟩ := fv_i hV
  obtain ⟨vr, rfl, hx1, hV⟩ := fv_l hV
  exact lv_lushr hx hb h1 rfl (h2 ▸ kk _ _ _ _ _ _ _ _  (h _) ⟨hS, hHP, hL, fr_long _, hV⟩)
theorem fo_land : fr_HO cu cw fh_lbin (zp_op .land) := by
  intro p l e R s m args below meth c Q cc nL G A as y pc a b nxt d lv stk S k H locs ls vs ⟨hx, hb, hml, hown, hts, hnm, hA, hN⟩ ⟨h1, h2⟩ h ⟨hS, hHP, hL, hV⟩ kk
  obtain ⟨x, z, r, rfl, h⟩ := fi_2l (P := fun x y r => ∀ z : Int, k nxt lv (.inr (.inl z) :: r) S) h
  obtain ⟨vr, rfl, hz, hV⟩ := fv_l hV
  obtain ⟨vr, rfl, hx1, hV⟩ := fv_l hV
  exact lv_land hx hb h1 (h2 ▸ kk _ _ _ _ _ _ _ _  (h _) ⟨hS, hHP, hL, fr_long _, hV⟩)
theorem fo_lor : fr_HO cu cw fh_lbin (zp_op .lor) := by
  intro p l e R s m args below meth c Q cc nL G A as y pc a b nxt d lv stk S k H locs ls vs ⟨hx, hb, hml, hown, hts, hnm, hA, hN⟩ ⟨h1, h2⟩ h ⟨hS, hHP, hL, hV⟩ kk
  obtain ⟨x, z, r, rfl, h⟩ := fi_2l (P := fun x y r => ∀ z : Int, k nxt lv (.inr (.inl z) :: r) S) h
  obtain ⟨vr, rfl, hz, hV⟩ := fv_l hV
  obtain ⟨vr, rfl, hx1, hV⟩ := fv_l hV
  exact lv_lor hx hb h1 (h2 ▸ kk _ _ _ _ _ _ _ _  (h _) ⟨hS, hHP, hL, fr_long _, hV⟩)
theorem fo_lcmp : fr_HO cu cw fh_lcmp (zp_op .lcmp) := by
  intro p l e R s m args below meth c Q cc nL G A as y pc a b nxt d lv stk S k H locs ls vs ⟨hx, hb, hml, hown, hts, hnm, hA, hN⟩ ⟨h1, h2⟩ h ⟨hS, hHP, hL, hV⟩ kk
  obtain ⟨x, z, r, rfl, g1, g2, g3⟩ := fi_2l (P := fun x y r => (x < y → k nxt lv (.inl (-1) :: r) S) ∧ (x = y → k nxt lv (.inl 0 :: r) S) ∧ (y < x → k nxt lv (.inl 1 :: r) S)) h
  obtain ⟨vr1, rfl, hz, hV1⟩ := fv_l hV
  obtain ⟨vr, rfl, hx1, hV2⟩ := fv_l hV1
  have lt : ∀ u v : Int, (-9223372036854775808 ≤ u ∧ u < 9223372036854775808) → (-9223372036854775808 ≤ v ∧ v < 9223372036854775808) → (Int64.ofInt u < Int64.ofInt v ↔ u < v) := fun u v hu hv => by rw [Int64.lt_iff_toInt_lt, fl_to hu, fl_to hv]
  refine W.lcmp hx hb h1 (h2 ▸ ?_)
  unfold lg_cmp
  rcases Int.lt_trichotomy x z with g | g | g
  · have a1 : ¬ Int64.ofInt z < Int64.ofInt x := by rw [lt z x hz hx1]; omega
    have a2 : ¬ Int64.ofInt x = Int64.ofInt z := fun q => by
      have := (lt x z hx1 hz).mpr g
      rw [q] at this
      exact Int64.lt_irrefl this
    rw [if_neg a1, if_neg a2]
    exact kk _ _ _ _ _ _ _ _  (g1 g) ⟨hS, hHP, hL, ⟨by decide, by decide, by decide⟩, hV2⟩
  · subst g
    rw [if_neg (fun h => Int64.lt_irrefl h), if_pos rfl]
    exact kk _ _ _ _ _ _ _ _  (g2 rfl) ⟨hS, hHP, hL, ⟨by decide, by decide, by decide⟩, hV2⟩
  · rw [if_pos ((lt z x hz hx1).mpr g)]
    exact kk _ _ _ _ _ _ _ _  (g3 g) ⟨hS, hHP, hL, ⟨by decide, by decide, by decide⟩, hV2⟩
end C54
