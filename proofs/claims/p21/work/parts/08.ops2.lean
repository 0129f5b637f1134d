theorem zr_l_hi {σ : Nat → Int32} {i : Nat} (h : i < 100) : zr_l σ (100 + i) = zr_hi σ i := by
  unfold zr_l
  rw [if_pos (by omega), show 100 + i - 100 = i by omega]
theorem zr_l_lo {σ : Nat → Int32} {i : Nat} (h : i < 100) : zr_l σ (200 + i) = zr_lo σ i := by
  unfold zr_l
  rw [if_neg (by omega), if_pos (by omega), show 200 + i - 200 = i by omega]
theorem zr_l_pair {σ : Nat → Int32} {i j : Nat} (h : j < 8) : zr_l σ (1000 + 8 * i + j) = zr_hi σ i ||| zr_lo σ j := by
  unfold zr_l
  rw [if_neg (by omega), if_neg (by omega), show (1000 + 8 * i + j - 1000) / 8 = i by omega, show (1000 + 8 * i + j - 1000) % 8 = j by omega]
theorem zr_d_s {σ : Nat → Int32} {i : Nat} (h : i < 100) : zr_d σ i = σ i := by unfold zr_d; rw [if_pos h]
section ZO2
variable {p : Program} {l : Launch} {e : Env} {R : Room} {s : State} {m : MethodId} {args : Array Value} {below : List Frame} {meth : Method} {c : Code} {Q : State → Prop} {cc : ByteArray} {nL : Nat} {G : va_G} {σ : Nat → Int32} {b : zxBB} {A : Nat → Prop} {pc a a2 nxt : Nat} {d : List Nat} {lv : zxLV} {stk : List Nat} {hp : zxHP} {st : zxST} {u w : Nat} {k : zxKT} {H : Heap} {locs : List Loc} {ls : Array Slot} {vs : List Value}
theorem zo_iand (hx : p.tables.exec = Jvm.exec) (hb : c.code = cc) (hdg : decode cc pc = .ok (.iand, 1)) (hn : nxt = pc + 1) (h : zh_iand a a2 nxt d lv stk hp st u w k = true) (r : zr_R G σ b A nL s H locs ls vs lv stk hp st) (kk : zr_KK p l e R s m args below meth c Q G σ b A nL k) : W p l e R s m args below meth c H locs u w Q (F0 m pc ls vs) := by
  obtain ⟨hσ, hS, as, hH, hL, hV⟩ := r
  rcases stk with _ | ⟨y, _ | ⟨x, rr⟩⟩
  · exact absurd h Bool.false_ne_true
  · exact absurd h Bool.false_ne_true
  rcases vs with _ | ⟨vy, _ | ⟨vx, vr⟩⟩
  · exact hV.elim
  · exact hV.2.elim
  obtain ⟨hy, hx1, hr⟩ := hV
  obtain ⟨h1, h⟩ := zx_c1 (show cond (Nat.beq y 248 && zx_i x) (zx_R 32 (fun j => zx_F (8 * j) (fun v => k nxt lv (v :: rr) hp st u w))) false = true from h)
  obtain ⟨h1, h2⟩ := zx_an h1
  rw [zx_beq.mp h1] at hy
  have hy := (zr_0 rfl).mp hy
  subst hy
  obtain ⟨x, rfl⟩ := zr_int h2 hx1
  obtain ⟨j, hj, e1⟩ := pk_andE x (m := nI (248 / 8)) 5 (by decide)
  have h := zx_R_ok h j hj
  rw [zx_F_eq] at h
  refine lv_iand hx hb hdg (hn ▸ kk _ _ _ _ _ _ _ _ _ _ _ h ⟨hσ, hS, as, hH, hL, ?_, hr⟩)
  refine (zr_0 (by omega)).mpr ?_
  rw [e1, Nat.mul_div_cancel_left _ (by decide)]
theorem zo_i2b (hx : p.tables.exec = Jvm.exec) (hb : c.code = cc) (hdg : decode cc pc = .ok (.i2b, 1)) (hn : nxt = pc + 1) (h : zh_i2b a a2 nxt d lv stk hp st u w k = true) (r : zr_R G σ b A nL s H locs ls vs lv stk hp st) (kk : zr_KK p l e R s m args below meth c Q G σ b A nL k) : W p l e R s m args below meth c H locs u w Q (F0 m pc ls vs) := by
  obtain ⟨hσ, hS, as, hH, hL, hV⟩ := r
  rcases stk with _ | ⟨x, rr⟩
  · exact absurd h Bool.false_ne_true
  rcases vs with _ | ⟨vx, vr⟩
  · exact hV.elim
  obtain ⟨hx1, hr⟩ := hV
  obtain ⟨h1, h⟩ := zx_c1 (show cond (zx_i x) (zx_M x st (fun c => zx_F (cond (Nat.beq (c % 8) 0) (8 * cond (Nat.blt (c / 8 % 256) 128) (c / 8 % 256) (c / 8 % 256 + 4294967040)) 6) (fun v => k nxt lv (v :: rr) hp st u w))) false = true from h)
  obtain ⟨x', e1, -, -, m1⟩ := zx_M_ok x st (fun c => zx_F (cond (Nat.beq (c % 8) 0) (8 * cond (Nat.blt (c / 8 % 256) 128) (c / 8 % 256) (c / 8 % 256 + 4294967040)) 6) (fun v => k nxt lv (v :: rr) hp st u w))
  rw [e1, zx_F_eq] at h
  obtain ⟨xv, rfl⟩ := zr_int h1 hx1
  have hx1 := m1 σ b as _ hσ hx1
  refine lv_i2b hx hb hdg rfl (hn ▸ kk _ _ _ _ _ _ _ _ _ _ _ h ⟨hσ, hS, as, hH, hL, ?_, hr⟩)
  cases q3 : Nat.beq (x' % 8) 0 with
  | false => exact zr_any
  | true =>
    have e1 := Value.int.inj ((zr_0 (zx_beq.mp q3)).mp hx1)
    show zr σ b as (8 * cond (Nat.blt (x' / 8 % 256) 128) (x' / 8 % 256) (x' / 8 % 256 + 4294967040)) _
    refine (zr_0 (by omega)).mpr ?_
    rw [Nat.mul_div_cancel_left _ (by decide), e1, zn_byte]
theorem zo_i2l (hx : p.tables.exec = Jvm.exec) (hb : c.code = cc) (hdg : decode cc pc = .ok (.i2l, 1)) (hn : nxt = pc + 1) (h : zh_i2l a a2 nxt d lv stk hp st u w k = true) (r : zr_R G σ b A nL s H locs ls vs lv stk hp st) (kk : zr_KK p l e R s m args below meth c Q G σ b A nL k) : W p l e R s m args below meth c H locs u w Q (F0 m pc ls vs) := by
  obtain ⟨hσ, hS, as, hH, hL, hV⟩ := r
  rcases stk with _ | ⟨x, rr⟩
  · exact absurd h Bool.false_ne_true
  rcases vs with _ | ⟨vx, vr⟩
  · exact hV.elim
  obtain ⟨hx1, hr⟩ := hV
  obtain ⟨h1, h⟩ := zx_c1 (show cond (zx_i x) (zx_M x st (fun c => zx_F (cond (Nat.beq (c % 8) 0) (8 * cond (Nat.blt (c / 8 % 4294967296) 2147483648) (c / 8 % 4294967296) (c / 8 % 4294967296 + 18446744069414584320) + 1) (cond (Nat.beq (c % 8) 4) (Nat.succ c) 7)) (fun v => k nxt lv (v :: rr) hp st u w))) false = true from h)
  obtain ⟨x', e1, -, -, m1⟩ := zx_M_ok x st (fun c => zx_F (cond (Nat.beq (c % 8) 0) (8 * cond (Nat.blt (c / 8 % 4294967296) 2147483648) (c / 8 % 4294967296) (c / 8 % 4294967296 + 18446744069414584320) + 1) (cond (Nat.beq (c % 8) 4) (Nat.succ c) 7)) (fun v => k nxt lv (v :: rr) hp st u w))
  rw [e1, zx_F_eq] at h
  obtain ⟨xv, rfl⟩ := zr_int h1 hx1
  have hx1 := m1 σ b as _ hσ hx1
  refine lv_i2l hx hb hdg rfl (hn ▸ kk _ _ _ _ _ _ _ _ _ _ _ h ⟨hσ, hS, as, hH, hL, ?_, hr⟩)
  cases q3 : Nat.beq (x' % 8) 0 with
  | false =>
    cases q4 : Nat.beq (x' % 8) 4 with
    | false => exact zr_anyl
    | true =>
      have q4 := zx_beq.mp q4
      have e1 := Value.int.inj ((zr_4 q4).mp hx1)
      show zr σ b as (Nat.succ x') _
      refine (zr_5 (by omega)).mpr ?_
      rw [e1, show Nat.succ x' / 8 = x' / 8 by omega]
  | true =>
    have e1 := Value.int.inj ((zr_0 (zx_beq.mp q3)).mp hx1)
    show zr σ b as (8 * cond (Nat.blt (x' / 8 % 4294967296) 2147483648) (x' / 8 % 4294967296) (x' / 8 % 4294967296 + 18446744069414584320) + 1) _
    refine (zr_1 (by omega)).mpr ?_
    rw [e1, zn_i2l]
    congr 2
    generalize cond (Nat.blt (x' / 8 % 4294967296) 2147483648) (x' / 8 % 4294967296) (x' / 8 % 4294967296 + 18446744069414584320) = z
    omega
theorem zo_l2i (hx : p.tables.exec = Jvm.exec) (hb : c.code = cc) (hdg : decode cc pc = .ok (.l2i, 1)) (hn : nxt = pc + 1) (h : zh_l2i a a2 nxt d lv stk hp st u w k = true) (r : zr_R G σ b A nL s H locs ls vs lv stk hp st) (kk : zr_KK p l e R s m args below meth c Q G σ b A nL k) : W p l e R s m args below meth c H locs u w Q (F0 m pc ls vs) := by
  obtain ⟨hσ, hS, as, hH, hL, hV⟩ := r
  rcases stk with _ | ⟨x, rr⟩
  · exact absurd h Bool.false_ne_true
  rcases vs with _ | ⟨vx, vr⟩
  · exact hV.elim
  obtain ⟨hx1, hr⟩ := hV
  obtain ⟨h1, h⟩ := zx_c1 (show cond (zx_2 x) (zx_F (cond (Nat.beq (x % 8) 1) (8 * (x / 8 % 4294967296)) 6) (fun v => k nxt lv (v :: rr) hp st u w)) false = true from h)
  rw [zx_F_eq] at h
  obtain ⟨xv, rfl⟩ := zr_long h1 hx1
  refine lv_l2i hx hb hdg rfl (hn ▸ kk _ _ _ _ _ _ _ _ _ _ _ h ⟨hσ, hS, as, hH, hL, ?_, hr⟩)
  cases q3 : Nat.beq (x % 8) 1 with
  | false => exact zr_any
  | true =>
    have e1 := Value.long.inj ((zr_1 (zx_beq.mp q3)).mp hx1)
    show zr σ b as (8 * (x / 8 % 4294967296)) _
    refine (zr_0 (by omega)).mpr ?_
    rw [e1, lN_i, Nat.mul_div_cancel_left _ (by decide), zr_nI_mod]
theorem zo_lshl (hx : p.tables.exec = Jvm.exec) (hb : c.code = cc) (hdg : decode cc pc = .ok (.lshl, 1)) (hn : nxt = pc + 1) (h : zh_lshl a a2 nxt d lv stk hp st u w k = true) (r : zr_R G σ b A nL s H locs ls vs lv stk hp st) (kk : zr_KK p l e R s m args below meth c Q G σ b A nL k) : W p l e R s m args below meth c H locs u w Q (F0 m pc ls vs) := by
  obtain ⟨hσ, hS, as, hH, hL, hV⟩ := r
  rcases stk with _ | ⟨y, _ | ⟨x, rr⟩⟩
  · exact absurd h Bool.false_ne_true
  · exact absurd h Bool.false_ne_true
  rcases vs with _ | ⟨vy, _ | ⟨vx, vr⟩⟩
  · exact hV.elim
  · exact hV.2.elim
  obtain ⟨hy, hx1, hr⟩ := hV
  obtain ⟨h1, h⟩ := zx_c1 (show cond (zx_2 x && zx_i y) (zx_F (cond (Nat.beq (x % 8) 5 && (Nat.beq y 256 && Nat.blt (x / 8) 100)) (8 * (100 + x / 8) + 7) 7) (fun v => k nxt lv (v :: rr) hp st u w)) false = true from h)
  obtain ⟨h1, h2⟩ := zx_an h1
  obtain ⟨xv, rfl⟩ := zr_long h1 hx1
  obtain ⟨yv, rfl⟩ := zr_int h2 hy
  rw [zx_F_eq] at h
  refine lv_lshl hx hb hdg rfl (hn ▸ kk _ _ _ _ _ _ _ _ _ _ _ h ⟨hσ, hS, as, hH, hL, ?_, hr⟩)
  cases q3 : (Nat.beq (x % 8) 5 && (Nat.beq y 256 && Nat.blt (x / 8) 100)) with
  | false => exact zr_anyl
  | true =>
    obtain ⟨q3, q4⟩ := zx_an q3
    obtain ⟨q4, q5⟩ := zx_an q4
    have q5 := zx_blt.mp q5
    rw [zx_beq.mp q4] at hy
    have e1 := Value.long.inj ((zr_5 (zx_beq.mp q3)).mp hx1)
    have e2 := Value.int.inj ((zr_0 rfl).mp hy)
    show zr σ b as (8 * (100 + x / 8) + 7) _
    refine (zr_7 (by omega)).mpr ⟨_, rfl, fun _ => ?_⟩
    rw [show (8 * (100 + x / 8) + 7) / 8 = 100 + x / 8 by omega, e1, e2, zr_l_hi q5, zr_d_s q5]
    rfl
theorem zo_lushr (hx : p.tables.exec = Jvm.exec) (hb : c.code = cc) (hdg : decode cc pc = .ok (.lushr, 1)) (hn : nxt = pc + 1) (h : zh_lushr a a2 nxt d lv stk hp st u w k = true) (r : zr_R G σ b A nL s H locs ls vs lv stk hp st) (kk : zr_KK p l e R s m args below meth c Q G σ b A nL k) : W p l e R s m args below meth c H locs u w Q (F0 m pc ls vs) := by
  obtain ⟨hσ, hS, as, hH, hL, hV⟩ := r
  rcases stk with _ | ⟨y, _ | ⟨x, rr⟩⟩
  · exact absurd h Bool.false_ne_true
  · exact absurd h Bool.false_ne_true
  rcases vs with _ | ⟨vy, _ | ⟨vx, vr⟩⟩
  · exact hV.elim
  · exact hV.2.elim
  obtain ⟨hy, hx1, hr⟩ := hV
  obtain ⟨h1, h⟩ := zx_c1 (show cond (zx_2 x && zx_i y) (k nxt lv (7 :: rr) hp st u w) false = true from h)
  obtain ⟨h1, h2⟩ := zx_an h1
  obtain ⟨xv, rfl⟩ := zr_long h1 hx1
  obtain ⟨yv, rfl⟩ := zr_int h2 hy
  exact lv_lushr hx hb hdg rfl (hn ▸ kk _ _ _ _ _ _ _ _ _ _ _ h ⟨hσ, hS, as, hH, hL, zr_anyl, hr⟩)
theorem zo_land (hx : p.tables.exec = Jvm.exec) (hb : c.code = cc) (hdg : decode cc pc = .ok (.land, 1)) (hn : nxt = pc + 1) (h : zh_land a a2 nxt d lv stk hp st u w k = true) (r : zr_R G σ b A nL s H locs ls vs lv stk hp st) (kk : zr_KK p l e R s m args below meth c Q G σ b A nL k) : W p l e R s m args below meth c H locs u w Q (F0 m pc ls vs) := by
  obtain ⟨hσ, hS, as, hH, hL, hV⟩ := r
  rcases stk with _ | ⟨y, _ | ⟨x, rr⟩⟩
  · exact absurd h Bool.false_ne_true
  · exact absurd h Bool.false_ne_true
  rcases vs with _ | ⟨vy, _ | ⟨vx, vr⟩⟩
  · exact hV.elim
  · exact hV.2.elim
  obtain ⟨hy, hx1, hr⟩ := hV
  obtain ⟨h1, h⟩ := zx_c1 (show cond (zx_2 x && zx_2 y) (zx_F (cond (Nat.beq (x % 8) 5 && (Nat.beq y 34359738361 && Nat.blt (x / 8) 100)) (8 * (200 + x / 8) + 7) 7) (fun v => k nxt lv (v :: rr) hp st u w)) false = true from h)
  obtain ⟨h1, h2⟩ := zx_an h1
  obtain ⟨xv, rfl⟩ := zr_long h1 hx1
  obtain ⟨yv, rfl⟩ := zr_long h2 hy
  rw [zx_F_eq] at h
  refine lv_land hx hb hdg (hn ▸ kk _ _ _ _ _ _ _ _ _ _ _ h ⟨hσ, hS, as, hH, hL, ?_, hr⟩)
  cases q3 : (Nat.beq (x % 8) 5 && (Nat.beq y 34359738361 && Nat.blt (x / 8) 100)) with
  | false => exact zr_anyl
  | true =>
    obtain ⟨q3, q4⟩ := zx_an q3
    obtain ⟨q4, q5⟩ := zx_an q4
    have q4 := zx_beq.mp q4
    have q5 := zx_blt.mp q5
    have q3 := zx_beq.mp q3
    rw [q4] at hy
    have e1 := Value.long.inj ((zr_5 q3).mp hx1)
    have e2 := Value.long.inj ((zr_1 (by decide)).mp hy)
    show zr σ b as (8 * (200 + x / 8) + 7) _
    refine (zr_7 (by omega)).mpr ⟨_, rfl, fun _ => ?_⟩
    rw [show (8 * (200 + x / 8) + 7) / 8 = 200 + x / 8 by omega, e1, e2, zr_l_lo q5, zr_d_s q5]
    rfl
set_option maxRecDepth 20000 in
theorem zo_lor (hx : p.tables.exec = Jvm.exec) (hb : c.code = cc) (hdg : decode cc pc = .ok (.lor, 1)) (hn : nxt = pc + 1) (h : zh_lor a a2 nxt d lv stk hp st u w k = true) (r : zr_R G σ b A nL s H locs ls vs lv stk hp st) (kk : zr_KK p l e R s m args below meth c Q G σ b A nL k) : W p l e R s m args below meth c H locs u w Q (F0 m pc ls vs) := by
  obtain ⟨hσ, hS, as, hH, hL, hV⟩ := r
  rcases stk with _ | ⟨y, _ | ⟨x, rr⟩⟩
  · exact absurd h Bool.false_ne_true
  · exact absurd h Bool.false_ne_true
  rcases vs with _ | ⟨vy, _ | ⟨vx, vr⟩⟩
  · exact hV.elim
  · exact hV.2.elim
  obtain ⟨hy, hx1, hr⟩ := hV
  obtain ⟨h1, h⟩ := zx_c1 (show cond (zx_2 x && zx_2 y) (zx_F (cond (Nat.beq (x % 8) 7 && (Nat.beq (y % 8) 7 && (Nat.ble 100 (x / 8) && (Nat.blt (x / 8) 108 && (Nat.ble 200 (y / 8) && Nat.blt (y / 8) 208))))) (8 * (1000 + 8 * (x / 8 - 100) + (y / 8 - 200)) + 7) 7) (fun v => k nxt lv (v :: rr) hp st u w)) false = true from h)
  obtain ⟨h1, h2⟩ := zx_an h1
  obtain ⟨xv, rfl⟩ := zr_long h1 hx1
  obtain ⟨yv, rfl⟩ := zr_long h2 hy
  rw [zx_F_eq] at h
  refine lv_lor hx hb hdg (hn ▸ kk _ _ _ _ _ _ _ _ _ _ _ h ⟨hσ, hS, as, hH, hL, ?_, hr⟩)
  cases q3 : (Nat.beq (x % 8) 7 && (Nat.beq (y % 8) 7 && (Nat.ble 100 (x / 8) && (Nat.blt (x / 8) 108 && (Nat.ble 200 (y / 8) && Nat.blt (y / 8) 208))))) with
  | false => exact zr_anyl
  | true =>
    have q := zx_an q3
    have q1 := q.1
    have q := zx_an q.2
    have q2 := q.1
    have q := zx_an q.2
    have q3 := q.1
    have q := zx_an q.2
    have q4 := q.1
    have q := zx_an q.2
    have q5 := q.1
    have q6 := q.2
    have q1 := zx_beq.mp q1
    have q2 := zx_beq.mp q2
    have q3 := zx_ble.mp q3
    have q4 := zx_blt.mp q4
    have q5 := zx_ble.mp q5
    have q6 := zx_blt.mp q6
    obtain ⟨x1, e1, f1⟩ := (zr_7 q1).mp hx1
    obtain ⟨y1, e2, f2⟩ := (zr_7 q2).mp hy
    cases e1
    cases e2
    have f1 := f1 (by omega)
    have f2 := f2 (by omega)
    show zr σ b as (8 * (1000 + 8 * (x / 8 - 100) + (y / 8 - 200)) + 7) _
    refine (zr_7 (by omega)).mpr ⟨_, rfl, fun _ => ?_⟩
    rw [show (8 * (1000 + 8 * (x / 8 - 100) + (y / 8 - 200)) + 7) / 8 = 1000 + 8 * (x / 8 - 100) + (y / 8 - 200) by omega, f1, f2, zr_l_pair (by omega)]
    rw [show zr_l σ (x / 8) = zr_hi σ (x / 8 - 100) by rw [← zr_l_hi (by omega), show 100 + (x / 8 - 100) = x / 8 by omega]]
    rw [show zr_l σ (y / 8) = zr_lo σ (y / 8 - 200) by rw [← zr_l_lo (by omega), show 200 + (y / 8 - 200) = y / 8 by omega]]
theorem zo_dup (hx : p.tables.exec = Jvm.exec) (hb : c.code = cc) (hdg : decode cc pc = .ok (.dup, 1)) (hn : nxt = pc + 1) (h : zh_dup a a2 nxt d lv stk hp st u w k = true) (r : zr_R G σ b A nL s H locs ls vs lv stk hp st) (kk : zr_KK p l e R s m args below meth c Q G σ b A nL k) : W p l e R s m args below meth c H locs u w Q (F0 m pc ls vs) := by
  obtain ⟨hσ, hS, as, hH, hL, hV⟩ := r
  rcases stk with _ | ⟨x, rr⟩
  · exact absurd h Bool.false_ne_true
  rcases vs with _ | ⟨vx, vr⟩
  · exact hV.elim
  obtain ⟨h1, h⟩ := zx_c0 (show cond (zx_2 x) false (k nxt lv (x :: x :: rr) hp st u w) = true from h)
  exact lv_dup hx hb hdg (zr_cat1 h1 hV.1) (hn ▸ kk _ _ _ _ _ _ _ _ _ _ _ h ⟨hσ, hS, as, hH, hL, hV.1, hV⟩)
theorem zo_pop (hx : p.tables.exec = Jvm.exec) (hb : c.code = cc) (hdg : decode cc pc = .ok (.pop, 1)) (hn : nxt = pc + 1) (h : zh_pop a a2 nxt d lv stk hp st u w k = true) (r : zr_R G σ b A nL s H locs ls vs lv stk hp st) (kk : zr_KK p l e R s m args below meth c Q G σ b A nL k) : W p l e R s m args below meth c H locs u w Q (F0 m pc ls vs) := by
  obtain ⟨hσ, hS, as, hH, hL, hV⟩ := r
  rcases stk with _ | ⟨x, rr⟩
  · exact absurd h Bool.false_ne_true
  rcases vs with _ | ⟨vx, vr⟩
  · exact hV.elim
  obtain ⟨h1, h⟩ := zx_c0 (show cond (zx_2 x) false (k nxt lv rr hp st u w) = true from h)
  exact lv_pop hx hb hdg (zr_cat1 h1 hV.1) (hn ▸ kk _ _ _ _ _ _ _ _ _ _ _ h ⟨hσ, hS, as, hH, hL, hV.2⟩)
theorem zo_dupx1 (hx : p.tables.exec = Jvm.exec) (hb : c.code = cc) (hdg : decode cc pc = .ok (.dup_x1, 1)) (hn : nxt = pc + 1) (h : zh_dupx1 a a2 nxt d lv stk hp st u w k = true) (r : zr_R G σ b A nL s H locs ls vs lv stk hp st) (kk : zr_KK p l e R s m args below meth c Q G σ b A nL k) : W p l e R s m args below meth c H locs u w Q (F0 m pc ls vs) := by
  obtain ⟨hσ, hS, as, hH, hL, hV⟩ := r
  rcases stk with _ | ⟨y, _ | ⟨x, rr⟩⟩
  · exact absurd h Bool.false_ne_true
  · exact absurd h Bool.false_ne_true
  rcases vs with _ | ⟨vy, _ | ⟨vx, vr⟩⟩
  · exact hV.elim
  · exact hV.2.elim
  obtain ⟨hy, hx1, hr⟩ := hV
  obtain ⟨h1, h⟩ := zx_c0 (show cond (zx_2 y || zx_2 x) false (k nxt lv (y :: x :: y :: rr) hp st u w) = true from h)
  have h1 := Bool.or_eq_false_iff.mp h1
  exact lv_dup_x1 hx hb hdg (zr_cat1 h1.1 hy) (zr_cat1 h1.2 hx1) (hn ▸ kk _ _ _ _ _ _ _ _ _ _ _ h ⟨hσ, hS, as, hH, hL, hy, hx1, hy, hr⟩)
theorem zo_goto {off : Int} (hx : p.tables.exec = Jvm.exec) (hb : c.code = cc) (hdg : decode cc pc = .ok (.goto off, 3)) (ht : (pc : Int) + off = (a : Int)) (h : zh_goto a a2 nxt d lv stk hp st u w k = true) (r : zr_R G σ b A nL s H locs ls vs lv stk hp st) (kk : zr_KK p l e R s m args below meth c Q G σ b A nL k) : W p l e R s m args below meth c H locs u w Q (F0 m pc ls vs) :=
  lv_goto hx hb hdg ht (kk _ _ _ _ _ _ _ _ _ _ _ h r)
end ZO2
