def zk_df (c : Nat) : Option Value := if c = 0 then some (.int 0) else if c = 1 then some (.long 0) else if c = 2 then some .null else none
theorem zk_df_ok {σ : Nat → Int32} {b : zxBB} {as : List Nat} {c : Nat} {v : Value} (h : zk_df c = some v) : zr σ b as c v := by
  unfold zk_df at h
  split at h
  · next h0 => subst h0; cases h; exact (zr_0 rfl).mpr (by rw [← nI_0])
  · split at h
    · next h0 => subst h0; cases h; exact (zr_1 rfl).mpr rfl
    · split at h
      · next h0 => subst h0; cases h; exact (zr_2' rfl).mpr (Or.inl ⟨rfl, rfl⟩)
      · cases h
theorem zk_df_all {σ : Nat → Int32} {b : zxBB} {as : List Nat} : ∀ {d : List Nat}, (∀ c ∈ d, (zk_df c).isSome = true) → zr_2 (zr σ b as) d (d.map (fun c => (zk_df c).getD .null))
  | [], _ => trivial
  | c :: d, h => by
    refine ⟨?_, zk_df_all (fun c hc => h c (List.mem_cons_of_mem _ hc))⟩
    have h1 := h c List.mem_cons_self
    cases hq : zk_df c with
    | none => rw [hq] at h1; cases h1
    | some v => show zr σ b as c ((zk_df c).getD .null); rw [hq]; exact zk_df_ok hq
/-- new's row -/
def zk_new (own : String) (a ci : Nat) (d : List Nat) : Prop := ∃ (C : String) (T : u_T) (N : Nat), vwCl[ci]? = some (C, T, N) ∧ Cond.classLink own a C ∈ zk_T ∧ Cond.instantiable C N ∈ zk_T ∧ Cond.initialized C ∈ zk_T ∧ d.length = N ∧ (∀ c ∈ d, (zk_df c).isSome = true) ∧ ∀ j, j < N → (parseFieldDescriptor (T j).2.2.1).map defaultValue = some ((zk_df (d.getD j 0)).getD .null)
def zk_at (b : Nat) : ArrayType := if b = 1 then .int else if b = 2 then .byte else if b = 3 then .boolean else .long
section ZM
variable {p : Program} {l : Launch} {e : Env} {R : Room} {s : State} {m : MethodId} {args : Array Value} {below : List Frame} {meth : Method} {c : Code} {Q : State → Prop} {cc : ByteArray} {nL : Nat} {G : va_G} {σ : Nat → Int32} {b : zxBB} {A : Nat → Prop} {pc a a2 nxt : Nat} {d : List Nat} {lv : zxLV} {stk : List Nat} {hp : zxHP} {st : zxST} {u w : Nat} {k : zxKT} {H : Heap} {locs : List Loc} {ls : Array Slot} {vs : List Value} {own : String}
theorem zo_astq (hx : p.tables.exec = Jvm.exec) (hb : c.code = cc) (ha : (a = 5 ∧ a2 = 20) ∨ (a = 6 ∧ a2 = 23)) (hdg : decode cc pc = .ok (.aastore, 1)) (hn : nxt = pc + 1) (h : zh_astq a a2 nxt d lv stk hp st u w k = true) (r : zr_R G σ b A nL s H locs ls vs lv stk hp st) (kk : zr_KK p l e R s m args below meth c Q G σ b A nL k) : W p l e R s m args below meth c H locs u w Q (F0 m pc ls vs) := by
  obtain ⟨hσ, hS, as, ⟨tys, ws, hK, hW, hP, hD⟩, hL, hV⟩ := r
  rcases stk with _ | ⟨z, _ | ⟨y, _ | ⟨x, rr⟩⟩⟩
  · exact absurd h Bool.false_ne_true
  · exact absurd h Bool.false_ne_true
  · exact absurd h Bool.false_ne_true
  rcases vs with _ | ⟨vz, _ | ⟨vy, _ | ⟨vx, vr⟩⟩⟩
  · exact hV.elim
  · exact hV.2.elim
  · exact hV.2.2.elim
  obtain ⟨hz, hy, hx1, hr⟩ := hV
  obtain ⟨y', s1, h, hσ, my⟩ := zx_C_ok (show zx_C y st (fun i s => cond (Nat.beq (i % 8) 0 && (Nat.beq (x % 8) 3 && Nat.beq (z % 8) 3)) (match zx_G hp (z / 8) with | (tv, _, _, _) => cond (Nat.beq tv a2) (zx_F (x / 8) (fun q => match zx_G hp q with | (t, n, fs, es) => cond (Nat.beq t a && Nat.blt (i / 8) n) (zx_F (i / 8) (fun j => zx_H hp q (t, n, fs, (j, z) :: es) (fun hp2 => k nxt lv rr hp2 s u w))) false)) false) false) = true from h) hσ
  have hy := my _ _ _ hy
  obtain ⟨h1, h⟩ := zx_c1 h
  obtain ⟨h1, h2⟩ := zx_an h1
  obtain ⟨h2, h2e⟩ := zx_an h2
  have hy := (zr_0 (zx_beq.mp h1)).mp hy
  subst hy
  obtain ⟨q, hq, rfl⟩ := (zr_3 (zx_beq.mp h2)).mp hx1
  obtain ⟨qz, hqz, rfl⟩ := (zr_3 (zx_beq.mp h2e)).mp hz
  obtain ⟨ez, hez, hEz⟩ := zr_W_get hW hqz
  generalize hGz : zx_G hp (z / 8) = Ez at h hEz
  obtain ⟨tz, nz, fz, esz⟩ := Ez
  obtain ⟨h7, h⟩ := zx_c1 (show cond (Nat.beq tz a2) (zx_F (x / 8) (fun q => match zx_G hp q with | (t, n, fs, es) => cond (Nat.beq t a && Nat.blt (y' / 8) n) (zx_F (y' / 8) (fun j => zx_H hp q (t, n, fs, (j, z) :: es) (fun hp2 => k nxt lv rr hp2 s1 u w))) false)) false = true from h)
  have h7 := zx_beq.mp h7
  rw [zx_F_eq] at h
  obtain ⟨e0, he, hE⟩ := zr_W_get hW hq
  have hne : (zx_G hp (x / 8)).1 ≠ 0 := by
    rcases hE with ⟨g, -⟩ | ⟨-, g, -⟩ <;> omega
  generalize hGd : zx_G hp (x / 8) = E at h hE
  obtain ⟨t, n0, fs, es⟩ := E
  obtain ⟨h3, h6⟩ := zx_c1 (show cond (Nat.beq t a && Nat.blt (y' / 8) n0) (zx_F (y' / 8) (fun j => zx_H hp (x / 8) (t, n0, fs, (j, z) :: es) (fun hp2 => k nxt lv rr hp2 s1 u w))) false = true from h)
  obtain ⟨h3, h4⟩ := zx_an h3
  have h3 := zx_beq.mp h3
  have h4 := zx_blt.mp h4
  rw [zx_F_eq] at h6
  obtain ⟨hp', e2, z1, z2⟩ := zx_H_ok hp (x / 8) (t, n0, fs, (y' / 8, z) :: es) (fun hp2 => k nxt lv rr hp2 s1 u w) hne
  rw [e2] at h6
  have ht16 : t < 16 ∧ 4 < t := by rcases ha with ⟨g, -⟩ | ⟨g, -⟩ <;> omega
  have htz : 16 ≤ tz := by rcases ha with ⟨-, g⟩ | ⟨-, g⟩ <;> omega
  rcases hEz with ⟨-, fz', rfl, -⟩ | ⟨g, -⟩
  · rcases hE with ⟨g, -⟩ | ⟨g16, g0, h31, cA, t0, ht, h5⟩
    · exact absurd (show 16 ≤ t from g) (by omega)
    · rcases h5 with ⟨g, -⟩ | ⟨g, -⟩ | ⟨g, f, rfl, hf⟩
      · exact absurd (show t < 4 from g) (by omega)
      · exact absurd (show t = 4 from g) (by omega)
      · have hin : vp_in (nI (y' / 8)) n0 := vp_in_nI h4 h31
        have hcl : (nI (y' / 8)).toNatClampNeg = y' / 8 := nI_clamp (Nat.lt_trans h4 h31)
        have hcc : ∃ r : vw_C, vwCl[tz - 16]? = some r ∧ zr_ty t = .object r.1 := by
          rcases ha with ⟨g1, g2⟩ | ⟨g1, g2⟩
          · rw [h3, g1, h7, g2]; exact ⟨_, rfl, rfl⟩
          · rw [h3, g1, h7, g2]; exact ⟨_, rfl, rfl⟩
        obtain ⟨r, hr1, hr2⟩ := hcc
        have ht : tys[t0]? = some (cA, zr_ty t) := ht
        rw [hr2] at ht
        refine va_astq hx hb hK hP hD hS (x / 8) t0 (z / 8) (tz - 16) he ht hez hr1 hin hdg fun H1 locs1 hP1 hD1 hS1 => ?_
        rw [hcl] at hP1 hD1
        refine hn ▸ kk _ _ _ _ _ _ _ _ _ _ _ h6 ⟨hσ, hS1, as, ⟨tys, _, hK, zr_W_set hW hq z1 z2 ?_, hP1, hD1⟩, hL, hr⟩
        refine Or.inr ⟨g16, g0, h31, cA, t0, by rw [hr2]; exact ht, Or.inr (Or.inr ⟨g, _, rfl, fun j hj => ?_⟩)⟩
        rw [zr_c_cons]
        by_cases hjq : j = y' / 8
        · rw [hjq, if_pos rfl]; unfold va_up; rw [if_pos rfl]; exact hz
        · rw [if_neg (Ne.symm hjq)]; unfold va_up; rw [if_neg hjq]; exact hf j hj
  · exact absurd htz (Nat.not_le.mpr g)
theorem zo_new (hC : zk_C) (hx : p.tables.exec = Jvm.exec) (hb : c.code = cc) (hts : ∀ w ∈ zk_T, w.before args s = true) (hown : s.vm.findClass own = some m.cls) (hA : ∀ q, s.heap.size ≤ q → A q) (hg : zk_new own a a2 d) (hdg : decode cc pc = .ok (.new a, 3)) (hn : nxt = pc + 3) (hk : ∀ pc lv stk hp st u w, k pc lv stk hp st u w = true → u ≤ R.cells ∧ w ≤ R.slots) (h : zh_new a a2 nxt d lv stk hp st u w k = true) (r : zr_R G σ b A nL s H locs ls vs lv stk hp st) (kk : zr_KK p l e R s m args below meth c Q G σ b A nL k) : W p l e R s m args below meth c H locs u w Q (F0 m pc ls vs) := by
  obtain ⟨hσ, hS, as, ⟨tys, ws, hK, hW, hP, hD⟩, ⟨lv', hl, hL⟩, hV⟩ := r
  unfold zh_new at h
  rw [zx_F_eq] at h
  obtain ⟨hp', h, z1, z2, z3⟩ := zx_B_ok h
  rw [zx_F_eq, zx_F_eq, zx_F_eq, zx_Z_eq] at h
  obtain ⟨C, T, N, hcl, hlink, hins, hini, hlen, hdf, hdv⟩ := hg
  obtain ⟨hin1, ty0, hty, hnm⟩ := hC _ _ _ _ hcl
  obtain ⟨hu, hw⟩ := hk _ _ _ _ _ _ _ h
  rw [hlen] at h hw
  refine va_new (fs := d.map (fun c => (zk_df c).getD .null)) hx hb hts hin1 ty0 hty hown (hts _ hlink) (hts _ hins) (hts _ hini) hK hP hD hS hA hcl (fun j hj => ?_) hu hw hdg fun q H1 hP1 hD1 hS1 => ?_
  · have h1 := hdv j hj
    rw [hty j hj] at h1
    have h1 := Option.some.inj h1
    rw [h1]
    unfold vp_V
    have hjd : j < d.length := by rw [hlen]; exact hj
    rw [List.getD_eq_getElem?_getD, List.getD_eq_getElem?_getD, List.getElem?_map, List.getElem?_eq_getElem hjd]
    rfl
  · refine hn ▸ kk _ _ _ _ _ _ _ _ _ _ _ h ⟨hσ, hS1, as ++ [q], ⟨tys, _, hK, ?_, hP1, hD1⟩, ⟨lv', hl, zr_2_mono (fun _ _ h => ⟨h.1, zr_mono [q] h.2⟩) hL⟩, ?_, zr_2_mono (fun _ _ h => zr_mono [q] h) hV⟩
    · have hw2 := zr_W_push (q := q) (E := (16 + a2, 0, d, [])) (e := .inr (a2, d.map (fun c => (zk_df c).getD .null))) hW [] z1 z2 z3 (Or.inl ⟨Nat.le_add_right 16 a2, _, by rw [show (16 + a2, 0, d, ([] : List (Nat × Nat))).1 - 16 = a2 from by show 16 + a2 - 16 = a2; omega], zk_df_all hdf⟩)
      rw [List.append_nil] at hw2
      exact hw2
    · refine (zr_3 (by omega)).mpr ⟨q, ?_, rfl⟩
      rw [show (8 * hp.1 + 3) / 8 = hp.1 by omega, List.getElem?_append_right (by rw [hW.1]; exact Nat.le_refl _), hW.1]
      simp
/-- the arrays of numbers -/
theorem zo_newa (hx : p.tables.exec = Jvm.exec) (hb : c.code = cc) (hA : ∀ q, s.heap.size ≤ q → A q) (ha2 : (a2 < 4 ∧ 0 < a2 ∧ d = [0]) ∨ (a2 = 4 ∧ d = [1])) (harr : (Cond.arrayClass (zr_ty a2)).before args s = true) (hdg : decode cc pc = .ok (.newarray (zk_at a2), 2)) (hn : nxt = pc + 2) (hk : ∀ pc lv stk hp st u w, k pc lv stk hp st u w = true → u ≤ R.cells ∧ w ≤ R.slots) (h : zh_newa a a2 nxt d lv stk hp st u w k = true) (r : zr_R G σ b A nL s H locs ls vs lv stk hp st) (kk : zr_KK p l e R s m args below meth c Q G σ b A nL k) : W p l e R s m args below meth c H locs u w Q (F0 m pc ls vs) := by
  obtain ⟨hσ, hS, as, ⟨tys, ws, hK, hW, hP, hD⟩, ⟨lv', hl, hL⟩, hV⟩ := r
  rcases stk with _ | ⟨x, rr⟩
  · exact absurd h Bool.false_ne_true
  rcases vs with _ | ⟨vx, vr⟩
  · exact hV.elim
  obtain ⟨hx1, hr⟩ := hV
  obtain ⟨h1, h⟩ := zx_c1 (show cond (Nat.beq (x % 8) 0 && Nat.blt (x / 8) 1000000) (zx_F (x / 8) (fun n => zx_B hp (a2, n, d, []) (fun q hp2 => zx_F (8 * q + 3) (fun v => zx_F (Nat.succ u) (fun u2 => zx_F (w + n) (fun w2 => k nxt lv (v :: rr) hp2 st u2 w2)))))) false = true from h)
  obtain ⟨h1, h2⟩ := zx_an h1
  have h2 := zx_blt.mp h2
  have hx1 := (zr_0 (zx_beq.mp h1)).mp hx1
  subst hx1
  rw [zx_F_eq] at h
  obtain ⟨hp', h, z1, z2, z3⟩ := zx_B_ok h
  rw [zx_F_eq, zx_F_eq, zx_F_eq] at h
  obtain ⟨hu, hw⟩ := hk _ _ _ _ _ _ _ h
  have hb31 : x / 8 < 2 ^ 31 := by omega
  have hpush : ∀ (q : Nat) (cA : ClassId) (H1 : Heap) (e1 : va_E), va_K G vwCl (tys ++ [(cA, zr_ty a2)]) s → va_P G vwCl (ws ++ [(q, e1)]) H1 → va_D A (ws ++ [(q, e1)]) → va_S A s.heap H1 locs → zr_E σ b (as ++ [q]) (tys ++ [(cA, zr_ty a2)]) (a2, x / 8, d, []) e1 → W p l e R s m args below meth c H1 locs (u + 1) (w + x / 8) Q (F0 m (pc + 2) ls (.ref q :: vr)) := by
    intro q cA H1 e1 hK1 hP1 hD1 hS1 hE1
    refine hn ▸ kk _ _ _ _ _ _ _ _ _ _ _ h ⟨hσ, hS1, as ++ [q], ⟨_, _, hK1, zr_W_push hW _ z1 z2 z3 hE1, hP1, hD1⟩, ⟨lv', hl, zr_2_mono (fun _ _ h => ⟨h.1, zr_mono [q] h.2⟩) hL⟩, ?_, zr_2_mono (fun _ _ h => zr_mono [q] h) hr⟩
    refine (zr_3 (by omega)).mpr ⟨q, ?_, rfl⟩
    rw [show (8 * hp.1 + 3) / 8 = hp.1 by omega, List.getElem?_append_right (by rw [hW.1]; exact Nat.le_refl _), hW.1]
    simp
  have hty0 : ∀ cA : ClassId, (tys ++ [(cA, zr_ty a2)])[tys.length]? = some (cA, zr_ty a2) := fun cA => by
    rw [List.getElem?_append_right (Nat.le_refl _)]; simp
  have hn0 : ¬ nI (x / 8) < 0 := nI_pos hb31
  have hN : (nI (x / 8)).toNatClampNeg = x / 8 := nI_clamp hb31
  rcases ha2 with ⟨g1, g0, rfl⟩ | ⟨rfl, rfl⟩
  · have hz : ∀ (q j : Nat), zr σ b (as ++ [q]) (zr_c (a2, x / 8, [0], []) j) (.int (0 : Int32)) := fun q j => by rw [show zr_c (a2, x / 8, [0], []) j = 0 from rfl]; exact (zr_0 rfl).mpr (by rw [← nI_0])
    rcases (show a2 = 1 ∨ a2 = 2 ∨ a2 = 3 by omega) with rfl | rfl | rfl
    · exact va_newa (a0 := (x / 8, .inl (fun _ => 0))) hx hb (atype := .int) harr rfl hK hP hD hS hA (fun _ => rfl) hn0 hN (by show x / 8 * 4 ≤ _; omega) hu hw hdg fun q cA H1 hK1 hP1 hD1 hS1 => hpush q cA H1 _ hK1 hP1 hD1 hS1 (Or.inr ⟨(show 1 < 16 by decide), (show 0 < 1 by decide), by show x / 8 < _; omega, cA, _, hty0 cA, Or.inl ⟨(show 1 < 4 by decide), _, rfl, fun j _ => hz q j⟩⟩)
    · exact va_newa (a0 := (x / 8, .inl (fun _ => 0))) hx hb (atype := .byte) harr rfl hK hP hD hS hA (fun _ => rfl) hn0 hN (by show x / 8 * 1 ≤ _; omega) hu hw hdg fun q cA H1 hK1 hP1 hD1 hS1 => hpush q cA H1 _ hK1 hP1 hD1 hS1 (Or.inr ⟨(show 2 < 16 by decide), (show 0 < 2 by decide), by show x / 8 < _; omega, cA, _, hty0 cA, Or.inl ⟨(show 2 < 4 by decide), _, rfl, fun j _ => hz q j⟩⟩)
    · exact va_newa (a0 := (x / 8, .inl (fun _ => 0))) hx hb (atype := .boolean) harr rfl hK hP hD hS hA (fun _ => rfl) hn0 hN (by show x / 8 * 1 ≤ _; omega) hu hw hdg fun q cA H1 hK1 hP1 hD1 hS1 => hpush q cA H1 _ hK1 hP1 hD1 hS1 (Or.inr ⟨(show 3 < 16 by decide), (show 0 < 3 by decide), by show x / 8 < _; omega, cA, _, hty0 cA, Or.inl ⟨(show 3 < 4 by decide), _, rfl, fun j _ => hz q j⟩⟩)
  · have hz : ∀ (q j : Nat), zr σ b (as ++ [q]) (zr_c (4, x / 8, [1], []) j) (.long (0 : Int64)) := fun q j => by rw [show zr_c (4, x / 8, [1], []) j = 1 from rfl]; exact (zr_1 rfl).mpr rfl
    exact va_newa (a0 := (x / 8, .inr (.inl (fun _ => 0)))) hx hb (atype := .long) harr rfl hK hP hD hS hA (fun _ => rfl) hn0 hN (by show x / 8 * 8 ≤ _; omega) hu hw hdg fun q cA H1 hK1 hP1 hD1 hS1 => hpush q cA H1 _ hK1 hP1 hD1 hS1 (Or.inr ⟨(show 4 < 16 by decide), (show 0 < 4 by decide), by show x / 8 < _; omega, cA, _, hty0 cA, Or.inr (Or.inl ⟨rfl, _, rfl, fun j _ => hz q j⟩)⟩)
theorem zo_newq (hx : p.tables.exec = Jvm.exec) (hb : c.code = cc) (hts : ∀ w ∈ zk_T, w.before args s = true) (hown : s.vm.findClass own = some m.cls) (hA : ∀ q, s.heap.size ≤ q → A q) {C : String} (hC : zr_ty a2 = .object C) (ha2 : 4 < a2 ∧ a2 < 16) (hd : d = [2]) (hcl : Cond.classLink own a C ∈ zk_T) (hov : va_AO C s) (hdg : decode cc pc = .ok (.anewarray a, 3)) (hn : nxt = pc + 3) (hk : ∀ pc lv stk hp st u w, k pc lv stk hp st u w = true → u ≤ R.cells ∧ w ≤ R.slots) (h : zh_newa a a2 nxt d lv stk hp st u w k = true) (r : zr_R G σ b A nL s H locs ls vs lv stk hp st) (kk : zr_KK p l e R s m args below meth c Q G σ b A nL k) : W p l e R s m args below meth c H locs u w Q (F0 m pc ls vs) := by
  obtain ⟨hσ, hS, as, ⟨tys, ws, hK, hW, hP, hD⟩, ⟨lv', hl, hL⟩, hV⟩ := r
  rcases stk with _ | ⟨x, rr⟩
  · exact absurd h Bool.false_ne_true
  rcases vs with _ | ⟨vx, vr⟩
  · exact hV.elim
  obtain ⟨hx1, hr⟩ := hV
  obtain ⟨h1, h⟩ := zx_c1 (show cond (Nat.beq (x % 8) 0 && Nat.blt (x / 8) 1000000) (zx_F (x / 8) (fun n => zx_B hp (a2, n, d, []) (fun q hp2 => zx_F (8 * q + 3) (fun v => zx_F (Nat.succ u) (fun u2 => zx_F (w + n) (fun w2 => k nxt lv (v :: rr) hp2 st u2 w2)))))) false = true from h)
  obtain ⟨h1, h2⟩ := zx_an h1
  have h2 := zx_blt.mp h2
  have hx1 := (zr_0 (zx_beq.mp h1)).mp hx1
  subst hx1
  rw [zx_F_eq] at h
  obtain ⟨hp', h, z1, z2, z3⟩ := zx_B_ok h
  rw [zx_F_eq, zx_F_eq, zx_F_eq] at h
  obtain ⟨hu, hw⟩ := hk _ _ _ _ _ _ _ h
  have hb31 : x / 8 < 2 ^ 31 := by omega
  refine va_newq hx hb hown (hts _ hcl) hov hK hP hD hS hA (nI_pos hb31) (nI_clamp hb31) (by omega) hu hw hdg fun q cA H1 hK1 hP1 hD1 hS1 => ?_
  have hE1 : zr_E σ b (as ++ [q]) (tys ++ [(cA, .object C)]) (a2, x / 8, d, []) (.inl (cA, x / 8, .inr (.inr (.inr (.inr (fun _ => none)))))) := by
    refine Or.inr ⟨ha2.2, Nat.lt_trans (by decide) ha2.1, by show x / 8 < _; omega, cA, tys.length, ?_, Or.inr (Or.inr ⟨ha2.1, _, rfl, fun j _ => ?_⟩)⟩
    · rw [List.getElem?_append_right (Nat.le_refl _)]; simp [hC]
    · rw [hd]; exact (zr_2' rfl).mpr (Or.inl ⟨rfl, rfl⟩)
  refine hn ▸ kk _ _ _ _ _ _ _ _ _ _ _ h ⟨hσ, hS1, as ++ [q], ⟨_, _, hK1, zr_W_push hW _ z1 z2 z3 hE1, hP1, hD1⟩, ⟨lv', hl, zr_2_mono (fun _ _ h => ⟨h.1, zr_mono [q] h.2⟩) hL⟩, ?_, zr_2_mono (fun _ _ h => zr_mono [q] h) hr⟩
  refine (zr_3 (by omega)).mpr ⟨q, ?_, rfl⟩
  rw [show (8 * hp.1 + 3) / 8 = hp.1 by omega, List.getElem?_append_right (by rw [hW.1]; exact Nat.le_refl _), hW.1]
  simp
theorem zo_copy (hx : p.tables.exec = Jvm.exec) (hb : c.code = cc) (hml : c.maxLocals = nL) (hts : ∀ w ∈ zk_T, w.before args s = true) (hown : s.vm.findClass own = some m.cls) (hlink : Cond.methodLink own a arraycopyName ∈ zk_T) (hnat : Cond.native arraycopyName ∈ zk_T) (hstat : Cond.static arraycopyName ∈ zk_T) (hini : Cond.initialized "java/lang/System" ∈ zk_T) (hfr : 1 ≤ R.frames) (hlo : 60 ≤ R.locals) (hdg : decode cc pc = .ok (.invokestatic a, 3)) (hn : nxt = pc + 3) (h : zh_copy a a2 nxt d lv stk hp st u w k = true) (r : zr_R G σ b A nL s H locs ls vs lv stk hp st) (kk : zr_KK p l e R s m args below meth c Q G σ b A nL k) : W p l e R s m args below meth c H locs u w Q (F0 m pc ls vs) := by
  obtain ⟨hσ, hS, as, ⟨tys, ws, hK, hW, hP, hD⟩, ⟨lv', hl, hL⟩, hV⟩ := r
  rcases stk with _ | ⟨n, _ | ⟨dp, _ | ⟨x, _ | ⟨sp, _ | ⟨y, rr⟩⟩⟩⟩⟩
  · exact absurd h Bool.false_ne_true
  · exact absurd h Bool.false_ne_true
  · exact absurd h Bool.false_ne_true
  · exact absurd h Bool.false_ne_true
  · exact absurd h Bool.false_ne_true
  rcases vs with _ | ⟨vn, _ | ⟨vdp, _ | ⟨vx, _ | ⟨vsp, _ | ⟨vy, vr⟩⟩⟩⟩⟩
  · exact hV.elim
  · exact hV.2.elim
  · exact hV.2.2.elim
  · exact hV.2.2.2.elim
  · exact hV.2.2.2.2.elim
  obtain ⟨hvn, hvdp, hvx, hvsp, hvy, hr⟩ := hV
  obtain ⟨h1, h⟩ := zx_c1 (show cond (Nat.beq dp 0 && (Nat.beq sp 0 && (Nat.beq (n % 8) 0 && (Nat.beq (x % 8) 3 && (Nat.beq (y % 8) 3 && Nat.ble (zx_Z rr) 0))))) (zx_F (x / 8) (fun q => match zx_G hp q with | (t, m, _, _) => match zx_G hp (y / 8) with | (t2, m2, fs2, es2) => cond (Nat.beq t 1 && (Nat.beq t2 1 && (Nat.beq m (n / 8) && Nat.beq m2 (n / 8)))) (zx_H hp q (t, m, fs2, es2) (fun hp2 => k nxt lv rr hp2 st u w)) false)) false = true from h)
  have q1 := zx_an h1
  have q2 := zx_an q1.2
  have q3 := zx_an q2.2
  have q4 := zx_an q3.2
  have q5 := zx_an q4.2
  rw [zx_beq.mp q1.1] at hvdp
  rw [zx_beq.mp q2.1] at hvsp
  have hvdp := (zr_0 rfl).mp hvdp
  have hvsp := (zr_0 rfl).mp hvsp
  have hvn := (zr_0 (zx_beq.mp q3.1)).mp hvn
  obtain ⟨ax, hax, rfl⟩ := (zr_3 (zx_beq.mp q4.1)).mp hvx
  obtain ⟨ay, hay, rfl⟩ := (zr_3 (zx_beq.mp q5.1)).mp hvy
  subst hvdp
  subst hvsp
  subst hvn
  have hrl : vr = [] := by
    have := zx_ble.mp q5.2
    rw [zx_Z_eq, zr_2_len hr] at this
    exact List.eq_nil_of_length_eq_zero (by omega)
  subst hrl
  rw [zx_F_eq] at h
  obtain ⟨e1, he1, hE1⟩ := zr_W_get hW hax
  obtain ⟨e2, he2, hE2⟩ := zr_W_get hW hay
  have hne : (zx_G hp (x / 8)).1 ≠ 0 := by
    rcases hE1 with ⟨g, -⟩ | ⟨-, g, -⟩ <;> omega
  generalize hG1 : zx_G hp (x / 8) = E1 at h hE1
  generalize hG2 : zx_G hp (y / 8) = E2 at h hE2
  obtain ⟨t1, m1, f1, s1⟩ := E1
  obtain ⟨t2, m2, f2, s2⟩ := E2
  obtain ⟨h2, h⟩ := zx_c1 (show cond (Nat.beq t1 1 && (Nat.beq t2 1 && (Nat.beq m1 (n / 8) && Nat.beq m2 (n / 8)))) (zx_H hp (x / 8) (t1, m1, f2, s2) (fun hp2 => k nxt lv rr hp2 st u w)) false = true from h)
  have g1 := zx_an h2
  have g2 := zx_an g1.2
  have g3 := zx_an g2.2
  have ht1 := zx_beq.mp g1.1
  have ht2 := zx_beq.mp g2.1
  have hm1 := zx_beq.mp g3.1
  have hm2 := zx_beq.mp g3.2
  obtain ⟨hp', e3, z1, z2⟩ := zx_H_ok hp (x / 8) (t1, m1, f2, s2) (fun hp2 => k nxt lv rr hp2 st u w) hne
  rw [e3] at h
  rcases hE1 with ⟨g, -⟩ | ⟨-, -, hb1, cA1, tt1, hty1, h5⟩
  · exact absurd (show 16 ≤ t1 from g) (by omega)
  rcases hE2 with ⟨g, -⟩ | ⟨-, -, hb2, cA2, tt2, hty2, h6⟩
  · exact absurd (show 16 ≤ t2 from g) (by omega)
  rcases h5 with ⟨-, ff1, rfl, hf1⟩ | ⟨g, -⟩ | ⟨g, -⟩
  · rcases h6 with ⟨-, ff2, rfl, hf2⟩ | ⟨g, -⟩ | ⟨g, -⟩
    · have hb31 : n / 8 < 2 ^ 31 := by
        have hb1 : m1 < 2147483648 := hb1
        omega
      have hN : (nI (n / 8)).toNatClampNeg = n / 8 := nI_clamp hb31
      have h00 : (nI (0 / 8)).toNatClampNeg = 0 := nI_clamp (by decide)
      have hty1 : tys[tt1]? = some (cA1, .int) := by rw [show zr_ty (t1, m1, f1, s1).1 = .int from by show zr_ty t1 = .int; rw [ht1]; rfl] at hty1; exact hty1
      have hty2 : tys[tt2]? = some (cA2, .int) := by rw [show zr_ty (t2, m2, f2, s2).1 = .int from by show zr_ty t2 = .int; rw [ht2]; rfl] at hty2; exact hty2
      refine va_copyi hx hb (by rw [hml]; exact hl.1.symm) hown (hts _ hlink) (hts _ hnat) (hts _ hstat) (hts _ hini) hK hP hD hS (y / 8) (x / 8) tt2 tt1 he2 he1 hty2 hty1 rfl (nI_pos (by decide)) (nI_pos (by decide)) (nI_pos hb31) ?_ ?_ (fun _ _ => rfl) hfr (by show 0 + _ ≤ R.locals; exact Nat.le_trans (by decide) hlo) hdg fun H1 locs1 hP1 hD1 hS1 => ?_
      · rw [h00, hN]; show 0 + n / 8 ≤ m2; omega
      · rw [h00, hN]; show 0 + n / 8 ≤ m1; omega
      · rw [h00, hN] at hP1 hD1
        refine hn ▸ kk _ _ _ _ _ _ _ _ _ _ _ h ⟨hσ, hS1, as, ⟨tys, _, hK, zr_W_set hW hax z1 z2 ?_, hP1, hD1⟩, ⟨lv', hl, hL⟩, hr⟩
        refine Or.inr ⟨by show t1 < 16; omega, by show 0 < t1; omega, hb1, cA1, tt1, by rw [hty1]; show _ = some (cA1, zr_ty t1); rw [ht1]; rfl, Or.inl ⟨by show t1 < 4; omega, _, rfl, fun j hj => ?_⟩⟩
        have hj : j < m1 := hj
        rw [pk_cpy_in (by omega) (by omega)]
        have hq := hf2 j (by show j < m2; omega)
        rw [show 0 + (j - 0) = j by omega]
        exact hq
    · exact absurd (show t2 = 4 from g) (by omega)
    · exact absurd (show 4 < t2 from g) (by omega)
  · exact absurd (show t1 = 4 from g) (by omega)
  · exact absurd (show 4 < t1 from g) (by omega)
end ZM
