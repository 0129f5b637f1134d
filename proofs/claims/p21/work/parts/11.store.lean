theorem zr_W_same {σ : Nat → Int32} {b : zxBB} {as : List Nat} {tys : List (ClassId × FieldType)} {hp : zxHP} {ws : va_W} (h : zr_W σ b as tys hp ws) {k q : Nat} (hk : as[k]? = some q) {e : va_E} (hE : zr_E σ b as tys (zx_G hp k) e) : zr_W σ b as tys hp (ws.set k (q, e)) :=
  zr_W_set h hk rfl (fun j => by
    by_cases hj : j = k
    · rw [if_pos hj, hj]
    · rw [if_neg hj]) hE
theorem zn_z : ∀ p : Nat, vp_nar .boolean (nI p) = nI (p % 2) := by
  intro p
  have h2 := pk_and (nI p) (m := 1) 1 (by decide)
  have h3 : (nI p).toBitVec.toNat % 2 ^ 1 = p % 2 := by
    rw [← zr_nI_mod p, pk_tn (Nat.mod_lt _ (by decide))]
    omega
  rw [h3] at h2
  unfold vp_nar
  simp only [narrow]
  exact h2
section ZS
variable {p : Program} {l : Launch} {e : Env} {R : Room} {s : State} {m : MethodId} {args : Array Value} {below : List Frame} {meth : Method} {c : Code} {Q : State → Prop} {cc : ByteArray} {nL : Nat} {G : va_G} {σ : Nat → Int32} {b : zxBB} {A : Nat → Prop} {pc a a2 nxt : Nat} {d : List Nat} {lv : zxLV} {stk : List Nat} {hp : zxHP} {st : zxST} {u w : Nat} {k : zxKT} {H : Heap} {locs : List Loc} {ls : Array Slot} {vs : List Value} {own : String}
/-- a store into an array of ints or longs: what the row of the machine must give -/
theorem zo_ast (ha16 : a < 5) (h : zh_ast a a2 nxt d lv stk hp st u w k = true) (r : zr_R G σ b A nL s H locs ls vs lv stk hp st) (kk : zr_KK p l e R s m args below meth c Q G σ b A nL k)
    (kW : ∀ (tys : List (ClassId × FieldType)) (ws : va_W) (q0 q i n v : Nat) (e0 : va_E) (vr : List Value) (cA : ClassId) (t0 : Nat) (as : List Nat), va_K G vwCl tys s → va_P G vwCl ws H → va_D A ws → va_S A s.heap H locs → ws[q0]? = some (q, e0) → tys[t0]? = some (cA, zr_ty a) → vp_in (nI i) n → (nI i).toNatClampNeg = i →
      ((a < 4 ∧ ∃ (x : Int32) (f : Nat → Int32), vs = .int x :: .int (nI i) :: .ref q :: vr ∧ zr σ b as v (.int x) ∧ e0 = .inl (cA, n, .inl f) ∧ ∀ (x' : Int32) (H1 : Heap) (locs1 : List Loc), zr σ b as (zx_nar a v) (.int x') → va_P G vwCl (ws.set q0 (q, .inl (cA, n, .inl (upd f i x')))) H1 → va_D A (ws.set q0 (q, .inl (cA, n, .inl (upd f i x')))) → va_S A s.heap H1 locs1 → W p l e R s m args below meth c H1 locs1 u w Q (F0 m nxt ls vr)) ∨
       (a = 4 ∧ ∃ (x : Int64) (f : Nat → Int64), vs = .long x :: .int (nI i) :: .ref q :: vr ∧ e0 = .inl (cA, n, .inr (.inl f)) ∧ ∀ (H1 : Heap) (locs1 : List Loc), va_P G vwCl (ws.set q0 (q, .inl (cA, n, .inr (.inl (vp_updL f i x))))) H1 → va_D A (ws.set q0 (q, .inl (cA, n, .inr (.inl (vp_updL f i x))))) → va_S A s.heap H1 locs1 → W p l e R s m args below meth c H1 locs1 u w Q (F0 m nxt ls vr))) → W p l e R s m args below meth c H locs u w Q (F0 m pc ls vs)) : W p l e R s m args below meth c H locs u w Q (F0 m pc ls vs) := by
  obtain ⟨hσ, hS, as, ⟨tys, ws, hK, hW, hP, hD⟩, hL, hV⟩ := r
  rcases stk with _ | ⟨z, _ | ⟨y, _ | ⟨x, rr⟩⟩⟩
  · exact absurd h Bool.false_ne_true
  · exact absurd h Bool.false_ne_true
  · exact absurd h Bool.false_ne_true
  rcases vs with _ | ⟨vz, _ | ⟨vy, _ | ⟨vx, vr⟩⟩⟩
  · exact hV.elim
  · exact hV.2.elim
  · exact hV.2.2.elim
  obtain ⟨hz, hy, hx1, hr⟩ := hV
  obtain ⟨y', s1, h, hσ, my⟩ := zx_C_ok (show zx_C y st (fun i s => cond (Nat.beq (i % 8) 0 && (Nat.beq (x % 8) 3 && zx_el a z)) (zx_F (x / 8) (fun q => match zx_G hp q with | (t, n, fs, es) => cond (Nat.beq t a && Nat.blt (i / 8) n) (zx_F (i / 8) (fun j => zx_F (zx_nar a z) (fun v => cond (Nat.beq (zx_A es (zx_N 74 fs 0) j) v) (k nxt lv rr hp s u w) (zx_H hp q (t, n, fs, (j, v) :: es) (fun hp2 => k nxt lv rr hp2 s u w))))) false)) false) = true from h) hσ
  have hy := my _ _ _ hy
  obtain ⟨h1, h⟩ := zx_c1 h
  obtain ⟨h1, h2⟩ := zx_an h1
  obtain ⟨h2, h2e⟩ := zx_an h2
  have hy := (zr_0 (zx_beq.mp h1)).mp hy
  subst hy
  obtain ⟨q, hq, rfl⟩ := (zr_3 (zx_beq.mp h2)).mp hx1
  rw [zx_F_eq] at h
  obtain ⟨e0, he, hE⟩ := zr_W_get hW hq
  have hne : (zx_G hp (x / 8)).1 ≠ 0 := by
    rcases hE with ⟨g, -⟩ | ⟨-, g, -⟩ <;> omega
  generalize hGd : zx_G hp (x / 8) = E at h hE
  obtain ⟨t, n0, fs, es⟩ := E
  obtain ⟨h3, h6⟩ := zx_c1 (show cond (Nat.beq t a && Nat.blt (y' / 8) n0) (zx_F (y' / 8) (fun j => zx_F (zx_nar a z) (fun v => cond (Nat.beq (zx_A es (zx_N 74 fs 0) j) v) (k nxt lv rr hp s1 u w) (zx_H hp (x / 8) (t, n0, fs, (j, v) :: es) (fun hp2 => k nxt lv rr hp2 s1 u w))))) false = true from h)
  obtain ⟨h3, h4⟩ := zx_an h3
  have h3 := zx_beq.mp h3
  have h4 := zx_blt.mp h4
  clear h
  subst h3
  rw [zx_F_eq, zx_F_eq] at h6
  have fin : ∀ (e1 : va_E) (H1 : Heap) (locs1 : List Loc), (∀ v, v = zx_nar t z → zr_c (t, n0, fs, es) (y' / 8) = v → zr_E σ b as tys (t, n0, fs, es) e1) → (∀ v, v = zx_nar t z → zr_E σ b as tys (t, n0, fs, (y' / 8, v) :: es) e1) → va_P G vwCl (ws.set (x / 8) (q, e1)) H1 → va_D A (ws.set (x / 8) (q, e1)) → va_S A s.heap H1 locs1 → W p l e R s m args below meth c H1 locs1 u w Q (F0 m nxt ls vr) := by
    intro e1 H1 locs1 k1 k2 hP1 hD1 hS1
    rcases zx_ct h6 with ⟨g1, g2⟩ | ⟨-, g2⟩
    · refine kk _ _ _ _ _ _ _ _ _ _ _ g2 ⟨hσ, hS1, as, ⟨tys, _, hK, zr_W_same hW hq ?_, hP1, hD1⟩, hL, hr⟩
      rw [hGd]
      exact k1 _ rfl (zx_beq.mp g1)
    · obtain ⟨hp', e2, z1, z2⟩ := zx_H_ok hp (x / 8) (t, n0, fs, (y' / 8, zx_nar t z) :: es) (fun hp2 => k nxt lv rr hp2 s1 u w) hne
      rw [e2] at g2
      exact kk _ _ _ _ _ _ _ _ _ _ _ g2 ⟨hσ, hS1, as, ⟨tys, _, hK, zr_W_set hW hq z1 z2 (k2 _ rfl), hP1, hD1⟩, hL, hr⟩
  rcases hE with ⟨g, fs', rfl, -⟩ | ⟨g16, g0, h31, cA, t0, ht, h5⟩
  · exact absurd (show 16 ≤ t from g) (by omega)
  · have hin : vp_in (nI (y' / 8)) n0 := vp_in_nI h4 h31
    have hcl : (nI (y' / 8)).toNatClampNeg = y' / 8 := nI_clamp (Nat.lt_trans h4 h31)
    refine kW tys ws (x / 8) q (y' / 8) n0 z e0 vr cA t0 as hK hP hD hS he ht hin hcl ?_
    rcases h5 with ⟨g, f, e1, hf⟩ | ⟨g, f, e1, hf⟩ | ⟨g, -⟩
    · obtain ⟨xz, rfl⟩ := zr_int (show zx_i z = true from by unfold zx_el at h2e; rw [zx_blt.mpr g] at h2e; exact h2e) hz
      refine Or.inl ⟨g, xz, f, rfl, hz, e1, fun x' H1 locs1 hx' hP1 hD1 hS1 => fin _ H1 locs1 (fun v ev hv => ?_) (fun v ev => ?_) hP1 hD1 hS1⟩
      · refine Or.inr ⟨g16, g0, h31, cA, t0, ht, Or.inl ⟨g, _, rfl, fun j hj => ?_⟩⟩
        by_cases hjq : j = y' / 8
        · rw [hjq, hv, ev]; unfold upd; rw [if_pos rfl]; exact hx'
        · unfold upd; rw [if_neg hjq]; exact hf j hj
      · refine Or.inr ⟨g16, g0, h31, cA, t0, ht, Or.inl ⟨g, _, rfl, fun j hj => ?_⟩⟩
        rw [zr_c_cons]
        by_cases hjq : j = y' / 8
        · rw [hjq, if_pos rfl, ev]; unfold upd; rw [if_pos rfl]; exact hx'
        · rw [if_neg (Ne.symm hjq)]; unfold upd; rw [if_neg hjq]; exact hf j hj
    · have g4 : t = 4 := g
      obtain ⟨xz, rfl⟩ := zr_long (show zx_2 z = true from by unfold zx_el at h2e; rw [zx_nblt.mpr (by omega)] at h2e; exact h2e) hz
      have hnar : zx_nar t z = z := by rw [g4]; rfl
      refine Or.inr ⟨g, xz, f, rfl, e1, fun H1 locs1 hP1 hD1 hS1 => fin _ H1 locs1 (fun v ev hv => ?_) (fun v ev => ?_) hP1 hD1 hS1⟩
      · refine Or.inr ⟨g16, g0, h31, cA, t0, ht, Or.inr (Or.inl ⟨g, _, rfl, fun j hj => ?_⟩)⟩
        by_cases hjq : j = y' / 8
        · rw [hjq, hv, ev, hnar]; unfold vp_updL; rw [if_pos rfl]; exact hz
        · unfold vp_updL; rw [if_neg hjq]; exact hf j hj
      · refine Or.inr ⟨g16, g0, h31, cA, t0, ht, Or.inr (Or.inl ⟨g, _, rfl, fun j hj => ?_⟩)⟩
        rw [zr_c_cons]
        by_cases hjq : j = y' / 8
        · rw [hjq, if_pos rfl, ev, hnar]; unfold vp_updL; rw [if_pos rfl]; exact hz
        · rw [if_neg (Ne.symm hjq)]; unfold vp_updL; rw [if_neg hjq]; exact hf j hj
    · exact absurd (show 4 < t from g) (by omega)
theorem zo_iast (hx : p.tables.exec = Jvm.exec) (hb : c.code = cc) (ha : a = 1) (hdg : decode cc pc = .ok (.iastore, 1)) (hn : nxt = pc + 1) (h : zh_ast a a2 nxt d lv stk hp st u w k = true) (r : zr_R G σ b A nL s H locs ls vs lv stk hp st) (kk : zr_KK p l e R s m args below meth c Q G σ b A nL k) : W p l e R s m args below meth c H locs u w Q (F0 m pc ls vs) := by
  subst ha
  refine zo_ast (by decide) h r kk fun tys ws q0 q i n v e0 vr cA t0 as hK hP hD hS he ht hin hcl h5 => ?_
  rcases h5 with ⟨-, x, f, rfl, hv, rfl, kw⟩ | ⟨g, -⟩
  · refine va_iast hx hb hK hP hD hS q0 t0 he ht hin hdg fun H1 locs1 hP1 hD1 hS1 => hn ▸ kw x H1 locs1 hv ?_ ?_ hS1
    · rw [hcl] at hP1; exact hP1
    · rw [hcl] at hD1; exact hD1
  · exact absurd g (by decide)
theorem zo_bast (hx : p.tables.exec = Jvm.exec) (hb : c.code = cc) (ha : a = 2) (hdg : decode cc pc = .ok (.bastore, 1)) (hn : nxt = pc + 1) (h : zh_ast a a2 nxt d lv stk hp st u w k = true) (r : zr_R G σ b A nL s H locs ls vs lv stk hp st) (kk : zr_KK p l e R s m args below meth c Q G σ b A nL k) : W p l e R s m args below meth c H locs u w Q (F0 m pc ls vs) := by
  subst ha
  refine zo_ast (by decide) h r kk fun tys ws q0 q i n v e0 vr cA t0 as hK hP hD hS he ht hin hcl h5 => ?_
  rcases h5 with ⟨-, x, f, rfl, hv, rfl, kw⟩ | ⟨g, -⟩
  · refine va_bast hx hb hK hP hD hS q0 t0 he ht hin hdg fun H1 locs1 hP1 hD1 hS1 => hn ▸ kw (vp_nar .byte x) H1 locs1 ?_ ?_ ?_ hS1
    · show zr σ b as (cond (Nat.beq (v % 8) 0) (8 * cond (Nat.blt (v / 8 % 256) 128) (v / 8 % 256) (v / 8 % 256 + 4294967040)) 6) _
      cases hq : Nat.beq (v % 8) 0 with
      | false => exact zr_any
      | true =>
        have hx := Value.int.inj ((zr_0 (zx_beq.mp hq)).mp hv)
        refine (zr_0 (by show (8 * _) % 8 = 0; omega)).mpr ?_
        rw [vp_nar_byte, hx, zn_byte]
        show _ = Value.int (nI (8 * _ / 8))
        rw [Nat.mul_div_cancel_left _ (by decide)]
    · rw [hcl] at hP1; exact hP1
    · rw [hcl] at hD1; exact hD1
  · exact absurd g (by decide)
theorem zo_zast (hx : p.tables.exec = Jvm.exec) (hb : c.code = cc) (ha : a = 3) (hdg : decode cc pc = .ok (.bastore, 1)) (hn : nxt = pc + 1) (h : zh_ast a a2 nxt d lv stk hp st u w k = true) (r : zr_R G σ b A nL s H locs ls vs lv stk hp st) (kk : zr_KK p l e R s m args below meth c Q G σ b A nL k) : W p l e R s m args below meth c H locs u w Q (F0 m pc ls vs) := by
  subst ha
  refine zo_ast (by decide) h r kk fun tys ws q0 q i n v e0 vr cA t0 as hK hP hD hS he ht hin hcl h5 => ?_
  rcases h5 with ⟨-, x, f, rfl, hv, rfl, kw⟩ | ⟨g, -⟩
  · refine va_zast hx hb hK hP hD hS q0 t0 he ht hin hdg fun H1 locs1 hP1 hD1 hS1 => hn ▸ kw (vp_nar .boolean x) H1 locs1 ?_ ?_ ?_ hS1
    · show zr σ b as (cond (Nat.beq (v % 8) 0) (8 * (v / 8 % 2)) 6) _
      cases hq : Nat.beq (v % 8) 0 with
      | false => exact zr_any
      | true =>
        have hx := Value.int.inj ((zr_0 (zx_beq.mp hq)).mp hv)
        refine (zr_0 (by show (8 * _) % 8 = 0; omega)).mpr ?_
        rw [hx, zn_z]
        show _ = Value.int (nI (8 * (v / 8 % 2) / 8))
        rw [Nat.mul_div_cancel_left _ (by decide)]
    · rw [hcl] at hP1; exact hP1
    · rw [hcl] at hD1; exact hD1
  · exact absurd g (by decide)
theorem zo_last (hx : p.tables.exec = Jvm.exec) (hb : c.code = cc) (ha : a = 4) (hdg : decode cc pc = .ok (.lastore, 1)) (hn : nxt = pc + 1) (h : zh_ast a a2 nxt d lv stk hp st u w k = true) (r : zr_R G σ b A nL s H locs ls vs lv stk hp st) (kk : zr_KK p l e R s m args below meth c Q G σ b A nL k) : W p l e R s m args below meth c H locs u w Q (F0 m pc ls vs) := by
  subst ha
  refine zo_ast (by decide) h r kk fun tys ws q0 q i n v e0 vr cA t0 as hK hP hD hS he ht hin hcl h5 => ?_
  rcases h5 with ⟨g, -⟩ | ⟨-, x, f, rfl, rfl, kw⟩
  · exact absurd g (by decide)
  · refine va_last hx hb hK hP hD hS q0 t0 he ht hin hdg fun H1 locs1 hP1 hD1 hS1 => hn ▸ kw H1 locs1 ?_ ?_ hS1
    · rw [hcl] at hP1; exact hP1
    · rw [hcl] at hD1; exact hD1
end ZS
