/-- the tables' words that outlast a call -/
def zk_T : List Cond := lw_tbl.filter goodWord
theorem zk_mem {w : Cond} (h : w ∈ lw_tbl) (hg : goodWord w = true) : w ∈ zk_T := List.mem_filter.mpr ⟨h, hg⟩
theorem zk_good {big ws : List Cond} (hb : ∀ w ∈ zk_T, w ∈ big) (h : ∀ w ∈ ws, w ∈ zk_T) : GoodIn big ws := fun w hw => ⟨hb w (h w hw), good_of_word (List.mem_filter.mp (h w hw)).2⟩
/-- what every class of the worlds brings -/
def zk_C : Prop := ∀ (ci : Nat) (C : String) (T : u_T) (N : Nat), vwCl[ci]? = some (C, T, N) → (∀ w ∈ u_ws C T N, w ∈ zk_T) ∧ ∃ ty0 : Nat → FieldType, (∀ k, k < N → parseFieldDescriptor (T k).2.2.1 = some (ty0 k)) ∧ (∀ a, a < N → ∀ b, b < N → a ≠ b → (T a).2.1 ≠ (T b).2.1)
/-- getfield's row -/
def zk_get (own : String) (a b : Nat) (d : List Nat) : Prop := ∀ t ∈ d, 16 ≤ t ∧ ∃ (C : String) (T : u_T) (N : Nat) (ref : String), vwCl[t - 16]? = some (C, T, N) ∧ b < N ∧ Cond.fieldLink own a ref (T b).2.1 (T b).2.2.1 ∈ zk_T ∧ ((T b).1 = ref ∨ Cond.sameField ref (T b).1 (T b).2.1 (T b).2.2.1 ∈ zk_T)
def zk_sort (sort : Nat) (ty : FieldType) : Prop := (sort = 0 ∧ ty = .int) ∨ (sort = 1 ∧ ty = .boolean) ∨ (sort = 2 ∧ ty = .long) ∨ (sort = 3 ∧ ((∃ n, ty = .object n) ∨ ∃ t, ty = .array t))
def zk_put (fin : Bool) (own : String) (a b : Nat) (d : List Nat) : Prop := ∀ t ∈ d, 16 ≤ t ∧ ∃ (C : String) (T : u_T) (N : Nat) (ref : String), vwCl[t - 16]? = some (C, T, N) ∧ b % 64 < N ∧ Cond.fieldLink own a ref (T (b % 64)).2.1 (T (b % 64)).2.2.1 ∈ zk_T ∧ ((T (b % 64)).1 = ref ∨ Cond.sameField ref (T (b % 64)).1 (T (b % 64)).2.1 (T (b % 64)).2.2.1 ∈ zk_T) ∧ (T (b % 64)).2.2.2 = fin ∧ (fin = true → (T (b % 64)).1 = own) ∧ ∃ ty, parseFieldDescriptor (T (b % 64)).2.2.1 = some ty ∧ zk_sort (b / 64 % 4) ty
theorem zx_mem_ok {t : Nat} : ∀ {d : List Nat}, zx_mem t d = true → t ∈ d
  | [], h => absurd h Bool.false_ne_true
  | x :: l, h => by
    rcases zx_ct (show cond (Nat.beq x t) true (zx_mem t l) = true from h) with ⟨h1, -⟩ | ⟨-, h1⟩
    · rw [zx_beq.mp h1]; exact List.mem_cons_self
    · exact List.mem_cons_of_mem _ (zx_mem_ok h1)
theorem zx_N_some {α : Type} {d : α} {l : List α} {i : Nat} {v : α} (h : zx_N d l i = v) (hv : v ≠ d) : l[i]? = some v := by
  rw [zx_N_eq] at h
  cases hl : l[i]? with
  | none => rw [hl] at h; exact absurd h.symm hv
  | some x => rw [hl] at h; rw [← h]; rfl
theorem zk_fit {σ : Nat → Int32} {b : zxBB} {as : List Nat} {sort n : Nat} {v : Value} {ty : FieldType} (hs : zk_sort sort ty) (hf : zx_fit sort n = true) (hv : zr σ b as n v) : narrow ty v = v ∧ fits ty v = true := by
  rcases hs with ⟨rfl, rfl⟩ | ⟨rfl, rfl⟩ | ⟨rfl, rfl⟩ | ⟨rfl, h⟩
  · obtain ⟨x, rfl⟩ := zr_int (show zx_i n = true from hf) hv
    exact ⟨vp_nar_int x, rfl⟩
  · have hf : (Nat.beq n 0 || Nat.beq n 8) = true := hf
    rcases Bool.or_eq_true_iff.mp hf with q | q
    · rw [zx_beq.mp q] at hv
      have hv := (zr_0 rfl).mp hv
      subst hv
      exact ⟨by decide, by decide⟩
    · rw [zx_beq.mp q] at hv
      have hv := (zr_0 rfl).mp hv
      subst hv
      exact ⟨by decide, by decide⟩
  · obtain ⟨x, rfl⟩ := zr_long (show zx_2 n = true from hf) hv
    exact ⟨rfl, rfl⟩
  · obtain ⟨q, -, rfl⟩ := (zr_3 (zx_beq.mp (show Nat.beq (n % 8) 3 = true from hf))).mp hv
    rcases h with ⟨x, rfl⟩ | ⟨x, rfl⟩ <;> exact ⟨rfl, rfl⟩
theorem zr_c_cons (t n : Nat) (fs : List Nat) (es : List (Nat × Nat)) (j v i : Nat) : zr_c (t, n, fs, (j, v) :: es) i = if j = i then v else zr_c (t, n, fs, es) i := by
  unfold zr_c
  exact zx_A_cons (j, v) es _ i
section ZH
variable {p : Program} {l : Launch} {e : Env} {R : Room} {s : State} {m : MethodId} {args : Array Value} {below : List Frame} {meth : Method} {c : Code} {Q : State → Prop} {cc : ByteArray} {nL : Nat} {G : va_G} {σ : Nat → Int32} {b : zxBB} {A : Nat → Prop} {pc a a2 nxt : Nat} {d : List Nat} {lv : zxLV} {stk : List Nat} {hp : zxHP} {st : zxST} {u w : Nat} {k : zxKT} {H : Heap} {locs : List Loc} {ls : Array Slot} {vs : List Value} {own : String}
theorem zo_get (hC : zk_C) (hx : p.tables.exec = Jvm.exec) (hb : c.code = cc) (hts : ∀ w ∈ zk_T, w.before args s = true) (hown : s.vm.findClass own = some m.cls) (hg : zk_get own a a2 d) (hdg : decode cc pc = .ok (.getfield a, 3)) (hn : nxt = pc + 3) (h : zh_get a a2 nxt d lv stk hp st u w k = true) (r : zr_R G σ b A nL s H locs ls vs lv stk hp st) (kk : zr_KK p l e R s m args below meth c Q G σ b A nL k) : W p l e R s m args below meth c H locs u w Q (F0 m pc ls vs) := by
  obtain ⟨hσ, hS, as, ⟨tys, ws, hK, hW, hP, hD⟩, hL, hV⟩ := r
  rcases stk with _ | ⟨x, rr⟩
  · exact absurd h Bool.false_ne_true
  rcases vs with _ | ⟨vx, vr⟩
  · exact hV.elim
  obtain ⟨hx1, hr⟩ := hV
  obtain ⟨h1, h⟩ := zx_c1 (show cond (Nat.beq (x % 8) 3) (match zx_G hp (x / 8) with | (t, _, fs, _) => cond (zx_mem t d) (zx_F (zx_N 74 fs a2) (fun v => cond (Nat.beq v 74) false (k nxt lv (v :: rr) hp st u w))) false) false = true from h)
  obtain ⟨q, hq, rfl⟩ := (zr_3 (zx_beq.mp h1)).mp hx1
  obtain ⟨e0, he, hE⟩ := zr_W_get hW hq
  generalize zx_G hp (x / 8) = E at h hE
  obtain ⟨t, n0, fs, es⟩ := E
  obtain ⟨h2, h⟩ := zx_c1 (show cond (zx_mem t d) (zx_F (zx_N 74 fs a2) (fun v => cond (Nat.beq v 74) false (k nxt lv (v :: rr) hp st u w))) false = true from h)
  rw [zx_F_eq] at h
  obtain ⟨h3, h⟩ := zx_c0 h
  have h3 := zx_nbeq.mp h3
  obtain ⟨ht, C, T, N, ref, hcl, hk, hlink, hsame⟩ := hg t (zx_mem_ok h2)
  rcases hE with ⟨-, fs', rfl, hfs⟩ | ⟨hlt, -⟩
  · obtain ⟨v, g1, g2⟩ := zr_2_get hfs (zx_N_some rfl h3)
    refine va_get hx hb hts (hC _ _ _ _ hcl).1 hown hK hP (x / 8) he hcl a2 hk (hts _ hlink) ?_ g1 hdg (hn ▸ kk _ _ _ _ _ _ _ _ _ _ _ h ⟨hσ, hS, as, ⟨tys, ws, hK, hW, hP, hD⟩, hL, g2, hr⟩)
    rcases hsame with hs | hs
    · rw [hs]; exact fun _ h9 => h9
    · exact fun y hy => u_same (hts _ hs) y hy
  · exact absurd ht (Nat.not_le.mpr hlt)
theorem zo_put (hC : zk_C) (hx : p.tables.exec = Jvm.exec) (hb : c.code = cc) (hts : ∀ w ∈ zk_T, w.before args s = true) (hown : s.vm.findClass own = some m.cls) {fin : Bool} (hin : fin = true → meth.name = "<init>") (hg : zk_put fin own a a2 d) (hdg : decode cc pc = .ok (.putfield a, 3)) (hn : nxt = pc + 3) (h : zh_put a a2 nxt d lv stk hp st u w k = true) (r : zr_R G σ b A nL s H locs ls vs lv stk hp st) (kk : zr_KK p l e R s m args below meth c Q G σ b A nL k) : W p l e R s m args below meth c H locs u w Q (F0 m pc ls vs) := by
  obtain ⟨hσ, hS, as, ⟨tys, ws, hK, hW, hP, hD⟩, hL, hV⟩ := r
  rcases stk with _ | ⟨y, _ | ⟨x, rr⟩⟩
  · exact absurd h Bool.false_ne_true
  · exact absurd h Bool.false_ne_true
  rcases vs with _ | ⟨vy, _ | ⟨vx, vr⟩⟩
  · exact hV.elim
  · exact hV.2.elim
  obtain ⟨hy, hx1, hr⟩ := hV
  obtain ⟨h1, h⟩ := zx_c1 (show cond (Nat.beq (x % 8) 3) (zx_F (x / 8) (fun q => match zx_G hp q with | (t, n, fs, es) => cond (zx_mem t d) (zx_M y st (fun v => cond (zx_fit (a2 / 64 % 4) v && Nat.blt (a2 % 64) (zx_Z fs)) (zx_S fs (a2 % 64) v (fun fs2 => zx_H hp q (t, n, fs2, es) (fun hp2 => k nxt lv rr hp2 st u w))) false)) false)) false = true from h)
  rw [zx_F_eq] at h
  obtain ⟨q, hq, rfl⟩ := (zr_3 (zx_beq.mp h1)).mp hx1
  obtain ⟨e0, he, hE⟩ := zr_W_get hW hq
  have hne : (zx_G hp (x / 8)).1 ≠ 0 := by
    rcases hE with ⟨g, -⟩ | ⟨-, g, -⟩ <;> omega
  have hGE : zx_G hp (x / 8) = zx_G hp (x / 8) := rfl
  generalize hGd : zx_G hp (x / 8) = E at h hE
  obtain ⟨t, n0, fs, es⟩ := E
  obtain ⟨h2, h⟩ := zx_c1 (show cond (zx_mem t d) (zx_M y st (fun v => cond (zx_fit (a2 / 64 % 4) v && Nat.blt (a2 % 64) (zx_Z fs)) (zx_S fs (a2 % 64) v (fun fs2 => zx_H hp (x / 8) (t, n0, fs2, es) (fun hp2 => k nxt lv rr hp2 st u w))) false)) false = true from h)
  obtain ⟨y', e1, -, -, m1⟩ := zx_M_ok y st (fun v => cond (zx_fit (a2 / 64 % 4) v && Nat.blt (a2 % 64) (zx_Z fs)) (zx_S fs (a2 % 64) v (fun fs2 => zx_H hp (x / 8) (t, n0, fs2, es) (fun hp2 => k nxt lv rr hp2 st u w))) false)
  rw [e1] at h
  have hy := m1 σ b as _ hσ hy
  obtain ⟨h3, h⟩ := zx_c1 h
  obtain ⟨h3, h4⟩ := zx_an h3
  have h4 := zx_blt.mp h4
  rw [zx_Z_eq] at h4
  rw [zx_S_eq] at h
  obtain ⟨hp', e2, z1, z2⟩ := zx_H_ok hp (x / 8) (t, n0, fs.set (a2 % 64) y', es) (fun hp2 => k nxt lv rr hp2 st u w) hne
  rw [e2] at h
  obtain ⟨ht, C, T, N, ref, hcl, hk, hlink, hsame, hfin, hdecl, ty, hd, hsort⟩ := hg t (zx_mem_ok h2)
  obtain ⟨hn1, hf1⟩ := zk_fit hsort h3 hy
  obtain ⟨hin1, ty0, hty, hnm⟩ := hC _ _ _ _ hcl
  have hsm : ∀ y, s.fieldFound? (T (a2 % 64)).1 (T (a2 % 64)).2.1 (T (a2 % 64)).2.2.1 = some y → s.fieldFound? ref (T (a2 % 64)).2.1 (T (a2 % 64)).2.2.1 = some y := by
    rcases hsame with hs | hs
    · rw [hs]; exact fun _ h9 => h9
    · exact fun y hy => u_same (hts _ hs) y hy
  rcases hE with ⟨-, fs', rfl, hfs⟩ | ⟨hlt, -⟩
  · have hlen : a2 % 64 < fs'.length := by rw [← zr_2_len hfs]; exact h4
    have fin' : ∀ (H1 : Heap) (locs1 : List Loc), va_P G vwCl (ws.set (x / 8) (q, .inr (t - 16, fs'.set (a2 % 64) vy))) H1 → va_D A (ws.set (x / 8) (q, .inr (t - 16, fs'.set (a2 % 64) vy))) → va_S A s.heap H1 locs1 → W p l e R s m args below meth c H1 locs1 u w Q (F0 m (pc + 3) ls vr) := by
      intro H1 locs1 hP1 hD1 hS1
      refine hn ▸ kk _ _ _ _ _ _ _ _ _ _ _ h ⟨hσ, hS1, as, ⟨tys, _, hK, zr_W_set hW hq z1 z2 (Or.inl ⟨ht, _, rfl, zr_2_set hy hfs⟩), hP1, hD1⟩, hL, hr⟩
    cases fin with
    | false => exact va_put hx hb hts hin1 ty0 hty hnm hown hK hP hD hS (x / 8) he hcl (a2 % 64) hk (hts _ hlink) hsm hfin hd hn1 hf1 hlen hdg fin'
    | true => exact va_putF hx hb hts hin1 ty0 hty hnm hown hK hP hD hS (x / 8) he hcl (a2 % 64) hk (hts _ hlink) hsm hfin (hin rfl) (hdecl rfl) hd hn1 hf1 hlen hdg fin'
  · exact absurd ht (Nat.not_le.mpr hlt)
theorem zo_alen (hx : p.tables.exec = Jvm.exec) (hb : c.code = cc) (hdg : decode cc pc = .ok (.arraylength, 1)) (hn : nxt = pc + 1) (h : zh_alen a a2 nxt d lv stk hp st u w k = true) (r : zr_R G σ b A nL s H locs ls vs lv stk hp st) (kk : zr_KK p l e R s m args below meth c Q G σ b A nL k) : W p l e R s m args below meth c H locs u w Q (F0 m pc ls vs) := by
  obtain ⟨hσ, hS, as, ⟨tys, ws, hK, hW, hP, hD⟩, hL, hV⟩ := r
  rcases stk with _ | ⟨x, rr⟩
  · exact absurd h Bool.false_ne_true
  rcases vs with _ | ⟨vx, vr⟩
  · exact hV.elim
  obtain ⟨hx1, hr⟩ := hV
  obtain ⟨h1, h⟩ := zx_c1 (show cond (Nat.beq (x % 8) 3) (match zx_G hp (x / 8) with | (t, n, _, _) => cond (Nat.blt 0 t && Nat.blt t 16) (zx_F (8 * n) (fun v => k nxt lv (v :: rr) hp st u w)) false) false = true from h)
  obtain ⟨q, hq, rfl⟩ := (zr_3 (zx_beq.mp h1)).mp hx1
  obtain ⟨e0, he, hE⟩ := zr_W_get hW hq
  generalize zx_G hp (x / 8) = E at h hE
  obtain ⟨t, n0, fs, es⟩ := E
  obtain ⟨h2, h⟩ := zx_c1 (show cond (Nat.blt 0 t && Nat.blt t 16) (zx_F (8 * n0) (fun v => k nxt lv (v :: rr) hp st u w)) false = true from h)
  obtain ⟨-, h2⟩ := zx_an h2
  have h2 := zx_blt.mp h2
  rw [zx_F_eq] at h
  rcases hE with ⟨g, -⟩ | ⟨-, -, -, cA, t0, h4, h5⟩
  · exact absurd g (Nat.not_le.mpr h2)
  · have hz : zr σ b as (8 * n0) (.int (nI n0)) := (zr_0 (by omega)).mpr (by rw [Nat.mul_div_cancel_left _ (by decide)])
    have kk2 : W p l e R s m args below meth c H locs u w Q (F0 m (pc + 1) ls (.int (nI n0) :: vr)) := hn ▸ kk _ _ _ _ _ _ _ _ _ _ _ h ⟨hσ, hS, as, ⟨tys, ws, hK, hW, hP, hD⟩, hL, hz, hr⟩
    rcases h5 with ⟨-, f, rfl, -⟩ | ⟨-, f, rfl, -⟩ | ⟨-, f, rfl, -⟩
    · exact va_alen hx hb hK hP (x / 8) t0 he h4 rfl hdg kk2
    · exact va_alen hx hb hK hP (x / 8) t0 he h4 rfl hdg kk2
    · exact va_alen hx hb hK hP (x / 8) t0 he h4 rfl hdg kk2
/-- a load from an array: what the row of the machine must give -/
theorem zo_ald (ha16 : a < 16) (h : zh_ald a a2 nxt d lv stk hp st u w k = true) (r : zr_R G σ b A nL s H locs ls vs lv stk hp st) (kk : zr_KK p l e R s m args below meth c Q G σ b A nL k)
    (kW : ∀ (tys : List (ClassId × FieldType)) (ws : va_W) (q0 q i n : Nat) (e0 : va_E) (vr : List Value) (cA : ClassId) (t0 : Nat), va_K G vwCl tys s → va_P G vwCl ws H → ws[q0]? = some (q, e0) → tys[t0]? = some (cA, zr_ty a) → vs = .int (nI i) :: .ref q :: vr → vp_in (nI i) n → (nI i).toNatClampNeg = i →
      ((a < 4 ∧ ∃ f : Nat → Int32, e0 = .inl (cA, n, .inl f) ∧ (W p l e R s m args below meth c H locs u w Q (F0 m nxt ls (.int (f i) :: vr)))) ∨ (a = 4 ∧ ∃ f : Nat → Int64, e0 = .inl (cA, n, .inr (.inl f)) ∧ (W p l e R s m args below meth c H locs u w Q (F0 m nxt ls (.long (f i) :: vr)))) ∨ (4 < a ∧ ∃ f : Nat → Option Nat, e0 = .inl (cA, n, .inr (.inr (.inr (.inr f)))) ∧ (W p l e R s m args below meth c H locs u w Q (F0 m nxt ls (va_rf (f i) :: vr))))) → W p l e R s m args below meth c H locs u w Q (F0 m pc ls vs)) : W p l e R s m args below meth c H locs u w Q (F0 m pc ls vs) := by
  obtain ⟨hσ, hS, as, ⟨tys, ws, hK, hW, hP, hD⟩, hL, hV⟩ := r
  rcases stk with _ | ⟨y, _ | ⟨x, rr⟩⟩
  · exact absurd h Bool.false_ne_true
  · exact absurd h Bool.false_ne_true
  rcases vs with _ | ⟨vy, _ | ⟨vx, vr⟩⟩
  · exact hV.elim
  · exact hV.2.elim
  obtain ⟨hy, hx1, hr⟩ := hV
  obtain ⟨y', s1, h, hσ, my⟩ := zx_C_ok (show zx_C y st (fun i s => cond (Nat.beq (i % 8) 0 && Nat.beq (x % 8) 3) (match zx_G hp (x / 8) with | (t, n, fs, es) => cond (Nat.beq t a && Nat.blt (i / 8) n) (zx_F (zx_A es (zx_N 74 fs 0) (i / 8)) (fun v => k nxt lv (v :: rr) hp s u w)) false) false) = true from h) hσ
  have hy := my _ _ _ hy
  obtain ⟨h1, h⟩ := zx_c1 h
  obtain ⟨h1, h2⟩ := zx_an h1
  have hy := (zr_0 (zx_beq.mp h1)).mp hy
  subst hy
  obtain ⟨q, hq, rfl⟩ := (zr_3 (zx_beq.mp h2)).mp hx1
  obtain ⟨e0, he, hE⟩ := zr_W_get hW hq
  generalize zx_G hp (x / 8) = E at h hE
  obtain ⟨t, n0, fs, es⟩ := E
  obtain ⟨h3, h6⟩ := zx_c1 (show cond (Nat.beq t a && Nat.blt (y' / 8) n0) (zx_F (zx_A es (zx_N 74 fs 0) (y' / 8)) (fun v => k nxt lv (v :: rr) hp s1 u w)) false = true from h)
  obtain ⟨h3, h4⟩ := zx_an h3
  have h3 := zx_beq.mp h3
  have h4 := zx_blt.mp h4
  clear h
  subst h3
  rw [zx_F_eq] at h6
  rcases hE with ⟨g, fs', rfl, -⟩ | ⟨-, -, h31, cA, t0, ht, h5⟩
  · exact absurd g (Nat.not_le.mpr ha16)
  · have hin : vp_in (nI (y' / 8)) n0 := vp_in_nI h4 h31
    have hcl : (nI (y' / 8)).toNatClampNeg = y' / 8 := nI_clamp (Nat.lt_trans h4 h31)
    refine kW tys ws (x / 8) q (y' / 8) n0 e0 vr cA t0 hK hP he ht rfl hin hcl ?_
    rcases h5 with ⟨g, f, e1, hf⟩ | ⟨g, f, e1, hf⟩ | ⟨g, f, e1, hf⟩
    · exact Or.inl ⟨g, f, e1, kk _ _ _ _ _ _ _ _ _ _ _ h6 ⟨hσ, hS, as, ⟨tys, ws, hK, hW, hP, hD⟩, hL, hf _ h4, hr⟩⟩
    · exact Or.inr (Or.inl ⟨g, f, e1, kk _ _ _ _ _ _ _ _ _ _ _ h6 ⟨hσ, hS, as, ⟨tys, ws, hK, hW, hP, hD⟩, hL, hf _ h4, hr⟩⟩)
    · exact Or.inr (Or.inr ⟨g, f, e1, kk _ _ _ _ _ _ _ _ _ _ _ h6 ⟨hσ, hS, as, ⟨tys, ws, hK, hW, hP, hD⟩, hL, hf _ h4, hr⟩⟩)
theorem zo_iald (hx : p.tables.exec = Jvm.exec) (hb : c.code = cc) (ha : a = 1) (hdg : decode cc pc = .ok (.iaload, 1)) (hn : nxt = pc + 1) (h : zh_ald a a2 nxt d lv stk hp st u w k = true) (r : zr_R G σ b A nL s H locs ls vs lv stk hp st) (kk : zr_KK p l e R s m args below meth c Q G σ b A nL k) : W p l e R s m args below meth c H locs u w Q (F0 m pc ls vs) := by
  subst ha
  refine zo_ald (by decide) h r kk fun tys ws q0 q i n e0 vr cA t0 hK hP he ht ev hin hcl h5 => ?_
  subst ev
  rcases h5 with ⟨-, f, rfl, kw⟩ | ⟨g, -⟩ | ⟨g, -⟩
  · exact va_iald hx hb hK hP q0 t0 he ht hin hdg (by rw [hcl]; exact hn ▸ kw)
  · exact absurd g (by decide)
  · exact absurd g (by decide)
theorem zo_bald (hx : p.tables.exec = Jvm.exec) (hb : c.code = cc) (ha : a = 2) (hdg : decode cc pc = .ok (.baload, 1)) (hn : nxt = pc + 1) (h : zh_ald a a2 nxt d lv stk hp st u w k = true) (r : zr_R G σ b A nL s H locs ls vs lv stk hp st) (kk : zr_KK p l e R s m args below meth c Q G σ b A nL k) : W p l e R s m args below meth c H locs u w Q (F0 m pc ls vs) := by
  subst ha
  refine zo_ald (by decide) h r kk fun tys ws q0 q i n e0 vr cA t0 hK hP he ht ev hin hcl h5 => ?_
  subst ev
  rcases h5 with ⟨-, f, rfl, kw⟩ | ⟨g, -⟩ | ⟨g, -⟩
  · exact va_bald hx hb hK hP q0 t0 he ht hin hdg (by rw [hcl]; exact hn ▸ kw)
  · exact absurd g (by decide)
  · exact absurd g (by decide)
theorem zo_zald (hx : p.tables.exec = Jvm.exec) (hb : c.code = cc) (ha : a = 3) (hdg : decode cc pc = .ok (.baload, 1)) (hn : nxt = pc + 1) (h : zh_ald a a2 nxt d lv stk hp st u w k = true) (r : zr_R G σ b A nL s H locs ls vs lv stk hp st) (kk : zr_KK p l e R s m args below meth c Q G σ b A nL k) : W p l e R s m args below meth c H locs u w Q (F0 m pc ls vs) := by
  subst ha
  refine zo_ald (by decide) h r kk fun tys ws q0 q i n e0 vr cA t0 hK hP he ht ev hin hcl h5 => ?_
  subst ev
  rcases h5 with ⟨-, f, rfl, kw⟩ | ⟨g, -⟩ | ⟨g, -⟩
  · exact va_zald hx hb hK hP q0 t0 he ht hin hdg (by rw [hcl]; exact hn ▸ kw)
  · exact absurd g (by decide)
  · exact absurd g (by decide)
theorem zo_lald (hx : p.tables.exec = Jvm.exec) (hb : c.code = cc) (ha : a = 4) (hdg : decode cc pc = .ok (.laload, 1)) (hn : nxt = pc + 1) (h : zh_ald a a2 nxt d lv stk hp st u w k = true) (r : zr_R G σ b A nL s H locs ls vs lv stk hp st) (kk : zr_KK p l e R s m args below meth c Q G σ b A nL k) : W p l e R s m args below meth c H locs u w Q (F0 m pc ls vs) := by
  subst ha
  refine zo_ald (by decide) h r kk fun tys ws q0 q i n e0 vr cA t0 hK hP he ht ev hin hcl h5 => ?_
  subst ev
  rcases h5 with ⟨g, -⟩ | ⟨-, f, rfl, kw⟩ | ⟨g, -⟩
  · exact absurd g (by decide)
  · exact va_lald hx hb hK hP q0 t0 he ht hin hdg (by rw [hcl]; exact hn ▸ kw)
  · exact absurd g (by decide)
theorem zr_ty_q {t : Nat} (h : 4 < t) : ∃ C, zr_ty t = .object C := by
  unfold zr_ty
  rw [if_neg (by omega), if_neg (by omega), if_neg (by omega), if_neg (by omega)]
  split
  · exact ⟨_, rfl⟩
  · exact ⟨_, rfl⟩
theorem zo_aald (hx : p.tables.exec = Jvm.exec) (hb : c.code = cc) (ha : 4 < a ∧ a < 16) (hdg : decode cc pc = .ok (.aaload, 1)) (hn : nxt = pc + 1) (h : zh_ald a a2 nxt d lv stk hp st u w k = true) (r : zr_R G σ b A nL s H locs ls vs lv stk hp st) (kk : zr_KK p l e R s m args below meth c Q G σ b A nL k) : W p l e R s m args below meth c H locs u w Q (F0 m pc ls vs) := by
  refine zo_ald ha.2 h r kk fun tys ws q0 q i n e0 vr cA t0 hK hP he ht ev hin hcl h5 => ?_
  subst ev
  rcases h5 with ⟨g, -⟩ | ⟨g, -⟩ | ⟨-, f, rfl, kw⟩
  · exact absurd g (by omega)
  · exact absurd g (by omega)
  · obtain ⟨C, hC⟩ := zr_ty_q ha.1
    rw [hC] at ht
    exact va_aldq hx hb hK hP q0 t0 he ht hin hdg (by rw [hcl]; exact hn ▸ kw)
end ZH
