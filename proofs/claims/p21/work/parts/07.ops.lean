theorem zr_any {σ : Nat → Int32} {b : zxBB} {as : List Nat} {x : Int32} : zr σ b as 6 (.int x) := (zr_6 rfl).mpr ⟨x, rfl⟩
theorem zr_anyl {σ : Nat → Int32} {b : zxBB} {as : List Nat} {x : Int64} : zr σ b as 7 (.long x) := (zr_7 rfl).mpr ⟨x, rfl, fun h => absurd rfl h⟩
section ZO
variable {p : Program} {l : Launch} {e : Env} {R : Room} {s : State} {m : MethodId} {args : Array Value} {below : List Frame} {meth : Method} {c : Code} {Q : State → Prop} {cc : ByteArray} {nL : Nat} {G : va_G} {σ : Nat → Int32} {b : zxBB} {A : Nat → Prop} {pc a a2 nxt : Nat} {d : List Nat} {lv : zxLV} {stk : List Nat} {hp : zxHP} {st : zxST} {u w : Nat} {k : zxKT} {H : Heap} {locs : List Loc} {ls : Array Slot} {vs : List Value}
theorem zo_push {v : Value} (h : zh_push a a2 nxt d lv stk hp st u w k = true) (r : zr_R G σ b A nL s H locs ls vs lv stk hp st) (kk : zr_KK p l e R s m args below meth c Q G σ b A nL k) (hv : ∀ as, zr σ b as a v)
    (kW : W p l e R s m args below meth c H locs u w Q (F0 m nxt ls (v :: vs)) → W p l e R s m args below meth c H locs u w Q (F0 m pc ls vs)) : W p l e R s m args below meth c H locs u w Q (F0 m pc ls vs) := by
  obtain ⟨hσ, hS, as, hH, hL, hV⟩ := r
  exact kW (kk _ _ _ _ _ _ _ _ _ _ _ h ⟨hσ, hS, as, hH, hL, hv as, hV⟩)
theorem zo_iload (h : zh_iload a a2 nxt d lv stk hp st u w k = true) (r : zr_R G σ b A nL s H locs ls vs lv stk hp st) (kk : zr_KK p l e R s m args below meth c Q G σ b A nL k)
    (kW : ∀ x : Int32, ls[a]? = some (.val (.int x)) → W p l e R s m args below meth c H locs u w Q (F0 m nxt ls (.int x :: vs)) → W p l e R s m args below meth c H locs u w Q (F0 m pc ls vs)) : W p l e R s m args below meth c H locs u w Q (F0 m pc ls vs) := by
  obtain ⟨hσ, hS, as, hH, ⟨lv', hl, hL⟩, hV⟩ := r
  unfold zh_iload at h
  rw [zx_F_eq] at h
  obtain ⟨h1, h2⟩ := zx_c1 h
  obtain ⟨v, g1, g2⟩ := zr_LV_get (fun q => by rw [q] at h1; exact absurd h1 (by decide)) hL (rfl : zx_A lv 74 a = zx_A lv 74 a)
  obtain ⟨x, rfl⟩ := zr_int h1 g2
  exact kW x (hl.2.2 _ g1) (kk _ _ _ _ _ _ _ _ _ _ _ h2 ⟨hσ, hS, as, hH, ⟨lv', hl, hL⟩, g2, hV⟩)
theorem zo_lload (h : zh_lload a a2 nxt d lv stk hp st u w k = true) (r : zr_R G σ b A nL s H locs ls vs lv stk hp st) (kk : zr_KK p l e R s m args below meth c Q G σ b A nL k)
    (kW : ∀ x : Int64, ls[a]? = some (.val (.long x)) → W p l e R s m args below meth c H locs u w Q (F0 m nxt ls (.long x :: vs)) → W p l e R s m args below meth c H locs u w Q (F0 m pc ls vs)) : W p l e R s m args below meth c H locs u w Q (F0 m pc ls vs) := by
  obtain ⟨hσ, hS, as, hH, ⟨lv', hl, hL⟩, hV⟩ := r
  unfold zh_lload at h
  rw [zx_F_eq] at h
  obtain ⟨h1, h2⟩ := zx_c1 h
  obtain ⟨v, g1, g2⟩ := zr_LV_get (fun q => by rw [q] at h1; exact absurd h1 (by decide)) hL (rfl : zx_A lv 74 a = zx_A lv 74 a)
  obtain ⟨x, rfl⟩ := zr_long h1 g2
  exact kW x (hl.2.2 _ g1) (kk _ _ _ _ _ _ _ _ _ _ _ h2 ⟨hσ, hS, as, hH, ⟨lv', hl, hL⟩, g2, hV⟩)
theorem zo_aload (h : zh_aload a a2 nxt d lv stk hp st u w k = true) (r : zr_R G σ b A nL s H locs ls vs lv stk hp st) (kk : zr_KK p l e R s m args below meth c Q G σ b A nL k)
    (kW : ∀ x : Nat, ls[a]? = some (.val (.ref x)) → W p l e R s m args below meth c H locs u w Q (F0 m nxt ls (.ref x :: vs)) → W p l e R s m args below meth c H locs u w Q (F0 m pc ls vs)) : W p l e R s m args below meth c H locs u w Q (F0 m pc ls vs) := by
  obtain ⟨hσ, hS, as, hH, ⟨lv', hl, hL⟩, hV⟩ := r
  unfold zh_aload at h
  rw [zx_F_eq] at h
  obtain ⟨h1, h2⟩ := zx_c1 h
  obtain ⟨v, g1, g2⟩ := zr_LV_get (fun q => by rw [q] at h1; exact absurd h1 (by decide)) hL (rfl : zx_A lv 74 a = zx_A lv 74 a)
  obtain ⟨x, rfl⟩ := zr_ref h1 g2
  exact kW x (hl.2.2 _ g1) (kk _ _ _ _ _ _ _ _ _ _ _ h2 ⟨hσ, hS, as, hH, ⟨lv', hl, hL⟩, g2, hV⟩)
theorem zo_istore (ha2 : a2 = nL) (h : zh_istore a a2 nxt d lv stk hp st u w k = true) (r : zr_R G σ b A nL s H locs ls vs lv stk hp st) (kk : zr_KK p l e R s m args below meth c Q G σ b A nL k)
    (kW : ∀ (x : Int32) (vs' : List Value) (lv' : List (Nat × Value)), vs = .int x :: vs' → lv_has ls nL lv' → a < nL → (∀ ls' : Array Slot, lv_has ls' nL ((a, Value.int x) :: lv'.filter (fun q => !(q.1 == a) && !(q.1 + 1 == a && q.2.category == 2))) → W p l e R s m args below meth c H locs u w Q (F0 m nxt ls' vs')) → W p l e R s m args below meth c H locs u w Q (F0 m pc ls vs)) : W p l e R s m args below meth c H locs u w Q (F0 m pc ls vs) := by
  obtain ⟨hσ, hS, as, hH, ⟨lv', hl, hL⟩, hV⟩ := r
  rcases stk with _ | ⟨x, rr⟩
  · exact absurd h Bool.false_ne_true
  rcases vs with _ | ⟨v, vr⟩
  · exact hV.elim
  obtain ⟨h1, h2⟩ := zx_c1 (show cond (zx_i x && Nat.blt a a2) (zx_L false a lv (fun l => k nxt ((a, x) :: l) rr hp st u w)) false = true from h)
  obtain ⟨h1, h3⟩ := zx_an h1
  have h3 := zx_blt.mp h3
  rw [zx_L_eq] at h2
  obtain ⟨xv, rfl⟩ := zr_int h1 hV.1
  refine kW xv vr lv' rfl hl (ha2 ▸ h3) (fun ls' hl' => kk _ _ _ _ _ _ _ _ _ _ _ h2 ⟨hσ, hS, as, hH, ⟨_, hl', ?_⟩, hV.2⟩)
  exact ⟨⟨rfl, hV.1⟩, zr_LV_fil (zr_P1 a) hL⟩
theorem zo_astore (ha2 : a2 = nL) (h : zh_astore a a2 nxt d lv stk hp st u w k = true) (r : zr_R G σ b A nL s H locs ls vs lv stk hp st) (kk : zr_KK p l e R s m args below meth c Q G σ b A nL k)
    (kW : ∀ (x : Nat) (vs' : List Value) (lv' : List (Nat × Value)), vs = .ref x :: vs' → lv_has ls nL lv' → a < nL → (∀ ls' : Array Slot, lv_has ls' nL ((a, Value.ref x) :: lv'.filter (fun q => !(q.1 == a) && !(q.1 + 1 == a && q.2.category == 2))) → W p l e R s m args below meth c H locs u w Q (F0 m nxt ls' vs')) → W p l e R s m args below meth c H locs u w Q (F0 m pc ls vs)) : W p l e R s m args below meth c H locs u w Q (F0 m pc ls vs) := by
  obtain ⟨hσ, hS, as, hH, ⟨lv', hl, hL⟩, hV⟩ := r
  rcases stk with _ | ⟨x, rr⟩
  · exact absurd h Bool.false_ne_true
  rcases vs with _ | ⟨v, vr⟩
  · exact hV.elim
  obtain ⟨h1, h2⟩ := zx_c1 (show cond (zx_r x && Nat.blt a a2) (zx_L false a lv (fun l => k nxt ((a, x) :: l) rr hp st u w)) false = true from h)
  obtain ⟨h1, h3⟩ := zx_an h1
  have h3 := zx_blt.mp h3
  rw [zx_L_eq] at h2
  obtain ⟨xv, rfl⟩ := zr_ref h1 hV.1
  refine kW xv vr lv' rfl hl (ha2 ▸ h3) (fun ls' hl' => kk _ _ _ _ _ _ _ _ _ _ _ h2 ⟨hσ, hS, as, hH, ⟨_, hl', ?_⟩, hV.2⟩)
  exact ⟨⟨rfl, hV.1⟩, zr_LV_fil (zr_P1 a) hL⟩
theorem zo_iinc {n : Nat} {z : Int} (hz : Int32.ofInt z = nI n) (hx : p.tables.exec = Jvm.exec) (hb : c.code = cc) (hdg : decode cc pc = .ok (.iinc a z, 3)) (ha2 : a2 = nL) (hn : nxt = pc + 3) (h : zh_iinc a a2 nxt [n] lv stk hp st u w k = true) (r : zr_R G σ b A nL s H locs ls vs lv stk hp st) (kk : zr_KK p l e R s m args below meth c Q G σ b A nL k) : W p l e R s m args below meth c H locs u w Q (F0 m pc ls vs) := by
  obtain ⟨hσ, hS, as, hH, ⟨lv', hl, hL⟩, hV⟩ := r
  have h : zx_F (zx_A lv 74 a) (fun c => cond (zx_i c && Nat.blt a a2) (zx_F (cond (Nat.beq (c % 8) 0) (8 * ((c / 8 + n) % 4294967296)) 6) (fun v => zx_L false a lv (fun l => k nxt ((a, v) :: l) stk hp st u w))) false) = true := h
  rw [zx_F_eq] at h
  obtain ⟨h1, h2⟩ := zx_c1 h
  obtain ⟨h1, h3⟩ := zx_an h1
  have h3 := zx_blt.mp h3
  obtain ⟨v, g1, g2⟩ := zr_LV_get (fun q => by rw [q] at h1; exact absurd h1 (by decide)) hL (rfl : zx_A lv 74 a = zx_A lv 74 a)
  obtain ⟨x, rfl⟩ := zr_int h1 g2
  rw [zx_F_eq, zx_L_eq] at h2
  obtain ⟨kq, g3⟩ := List.getElem?_of_mem g1
  refine lv_iinc (k := kq) hx hb hdg hl g3 rfl (ha2 ▸ h3) rfl (fun ls' hl' => hn ▸ kk _ _ _ _ _ _ _ _ _ _ _ h2 ⟨hσ, hS, as, hH, ⟨_, hl', ?_⟩, hV⟩)
  refine ⟨⟨rfl, ?_⟩, zr_LV_fil (zr_P1 a) hL⟩
  show zr σ b as (cond (Nat.beq (zx_A lv 74 a % 8) 0) (8 * ((zx_A lv 74 a / 8 + n) % 4294967296)) 6) (.int (x + Int32.ofInt z))
  generalize zx_A lv 74 a = q at g2
  cases hq : Nat.beq (q % 8) 0 with
  | false => exact zr_any
  | true =>
    have hx := Value.int.inj ((zr_0 (zx_beq.mp hq)).mp g2)
    refine (zr_0 (by show (8 * ((q / 8 + n) % 4294967296)) % 8 = 0; omega)).mpr ?_
    show Value.int (x + Int32.ofInt z) = .int (nI (8 * ((q / 8 + n) % 4294967296) / 8))
    rw [Nat.mul_div_cancel_left _ (by decide), zr_nI_mod, hx, hz, nI_add]
theorem zo_iadd (hx : p.tables.exec = Jvm.exec) (hb : c.code = cc) (hdg : decode cc pc = .ok (.iadd, 1)) (hn : nxt = pc + 1) (h : zh_iadd a a2 nxt d lv stk hp st u w k = true) (r : zr_R G σ b A nL s H locs ls vs lv stk hp st) (kk : zr_KK p l e R s m args below meth c Q G σ b A nL k) : W p l e R s m args below meth c H locs u w Q (F0 m pc ls vs) := by
  obtain ⟨hσ, hS, as, hH, hL, hV⟩ := r
  rcases stk with _ | ⟨y, _ | ⟨x, rr⟩⟩
  · exact absurd h Bool.false_ne_true
  · exact absurd h Bool.false_ne_true
  rcases vs with _ | ⟨vy, _ | ⟨vx, vr⟩⟩
  · exact hV.elim
  · exact hV.2.elim
  obtain ⟨hy, hx1, hr⟩ := hV
  obtain ⟨y', s1, h, hσ, my⟩ := zx_C_ok (show zx_C y st (fun y s1 => zx_C x s1 (fun x s2 => cond (zx_i x && zx_i y) (zx_F (cond (Nat.beq x 0) y (cond (Nat.beq y 0) x (cond (Nat.beq (x % 8) 0 && Nat.beq (y % 8) 0) (8 * ((x / 8 + y / 8) % 4294967296)) 6))) (fun v => k nxt lv (v :: rr) hp s2 u w)) false)) = true from h) hσ
  obtain ⟨x', s2, h, hσ, mx⟩ := zx_C_ok h hσ
  have hy := my _ _ _ hy
  have hx1 := mx _ _ _ hx1
  obtain ⟨h1, h⟩ := zx_c1 h
  obtain ⟨h1, h2⟩ := zx_an h1
  obtain ⟨x, rfl⟩ := zr_int h1 hx1
  obtain ⟨y, rfl⟩ := zr_int h2 hy
  rw [zx_F_eq] at h
  refine lv_iadd hx hb hdg (hn ▸ kk _ _ _ _ _ _ _ _ _ _ _ h ⟨hσ, hS, as, hH, hL, ?_, hr⟩)
  cases q1 : Nat.beq x' 0 with
  | true =>
    have := zx_beq.mp q1; subst this
    have e := Value.int.inj ((zr_0 rfl).mp hx1)
    show zr σ b as y' _
    rw [show x + y = y by rw [e]; show nI 0 + y = y; rw [nI_0]; exact Int32.zero_add y]
    exact hy
  | false =>
    cases q2 : Nat.beq y' 0 with
    | true =>
      have := zx_beq.mp q2; subst this
      have e := Value.int.inj ((zr_0 rfl).mp hy)
      show zr σ b as x' _
      rw [show x + y = x by rw [e]; show x + nI 0 = x; rw [nI_0]; exact Int32.add_zero x]
      exact hx1
    | false =>
      cases q3 : (Nat.beq (x' % 8) 0 && Nat.beq (y' % 8) 0) with
      | false => exact zr_any
      | true =>
        obtain ⟨q3, q4⟩ := zx_an q3
        have e1 := Value.int.inj ((zr_0 (zx_beq.mp q3)).mp hx1)
        have e2 := Value.int.inj ((zr_0 (zx_beq.mp q4)).mp hy)
        show zr σ b as (8 * ((x' / 8 + y' / 8) % 4294967296)) _
        refine (zr_0 (by omega)).mpr ?_
        rw [Nat.mul_div_cancel_left _ (by decide), zr_nI_mod, e1, e2, nI_add]
theorem zo_isub (hx : p.tables.exec = Jvm.exec) (hb : c.code = cc) (hdg : decode cc pc = .ok (.isub, 1)) (hn : nxt = pc + 1) (h : zh_isub a a2 nxt d lv stk hp st u w k = true) (r : zr_R G σ b A nL s H locs ls vs lv stk hp st) (kk : zr_KK p l e R s m args below meth c Q G σ b A nL k) : W p l e R s m args below meth c H locs u w Q (F0 m pc ls vs) := by
  obtain ⟨hσ, hS, as, hH, hL, hV⟩ := r
  rcases stk with _ | ⟨y, _ | ⟨x, rr⟩⟩
  · exact absurd h Bool.false_ne_true
  · exact absurd h Bool.false_ne_true
  rcases vs with _ | ⟨vy, _ | ⟨vx, vr⟩⟩
  · exact hV.elim
  · exact hV.2.elim
  obtain ⟨hy, hx1, hr⟩ := hV
  obtain ⟨y', s1, h, hσ, my⟩ := zx_C_ok (show zx_C y st (fun y s1 => zx_C x s1 (fun x s2 => cond (zx_i x && zx_i y) (zx_F (cond (Nat.beq (x % 8) 0 && Nat.beq (y % 8) 0) (8 * ((x / 8 + (4294967296 - y / 8 % 4294967296)) % 4294967296)) 6) (fun v => k nxt lv (v :: rr) hp s2 u w)) false)) = true from h) hσ
  obtain ⟨x', s2, h, hσ, mx⟩ := zx_C_ok h hσ
  have hy := my _ _ _ hy
  have hx1 := mx _ _ _ hx1
  obtain ⟨h1, h⟩ := zx_c1 h
  obtain ⟨h1, h2⟩ := zx_an h1
  obtain ⟨x, rfl⟩ := zr_int h1 hx1
  obtain ⟨y, rfl⟩ := zr_int h2 hy
  rw [zx_F_eq] at h
  refine lv_isub hx hb hdg (hn ▸ kk _ _ _ _ _ _ _ _ _ _ _ h ⟨hσ, hS, as, hH, hL, ?_, hr⟩)
  cases q3 : (Nat.beq (x' % 8) 0 && Nat.beq (y' % 8) 0) with
  | false => exact zr_any
  | true =>
    obtain ⟨q3, q4⟩ := zx_an q3
    have e1 := Value.int.inj ((zr_0 (zx_beq.mp q3)).mp hx1)
    have e2 := Value.int.inj ((zr_0 (zx_beq.mp q4)).mp hy)
    show zr σ b as (8 * ((x' / 8 + (4294967296 - y' / 8 % 4294967296)) % 4294967296)) _
    refine (zr_0 (by omega)).mpr ?_
    rw [Nat.mul_div_cancel_left _ (by decide), zr_nI_mod, e1, e2, ← zr_nI_mod (y' / 8), ← nI_add, ← pk_sub (Nat.le_of_lt (Nat.mod_lt _ (by decide)))]
    rw [show nI 4294967296 = 0 by decide, Int32.zero_sub, ← Int32.sub_eq_add_neg]
theorem zo_imul (hx : p.tables.exec = Jvm.exec) (hb : c.code = cc) (hdg : decode cc pc = .ok (.imul, 1)) (hn : nxt = pc + 1) (h : zh_imul a a2 nxt d lv stk hp st u w k = true) (r : zr_R G σ b A nL s H locs ls vs lv stk hp st) (kk : zr_KK p l e R s m args below meth c Q G σ b A nL k) : W p l e R s m args below meth c H locs u w Q (F0 m pc ls vs) := by
  obtain ⟨hσ, hS, as, hH, hL, hV⟩ := r
  rcases stk with _ | ⟨y, _ | ⟨x, rr⟩⟩
  · exact absurd h Bool.false_ne_true
  · exact absurd h Bool.false_ne_true
  rcases vs with _ | ⟨vy, _ | ⟨vx, vr⟩⟩
  · exact hV.elim
  · exact hV.2.elim
  obtain ⟨hy, hx1, hr⟩ := hV
  obtain ⟨y', s1, h, hσ, my⟩ := zx_C_ok (show zx_C y st (fun y s1 => zx_C x s1 (fun x s2 => cond (zx_i x && zx_i y) (zx_F (cond (Nat.beq (x % 8) 0 && Nat.beq (y % 8) 0) (8 * ((x / 8 * (y / 8)) % 4294967296)) 6) (fun v => k nxt lv (v :: rr) hp s2 u w)) false)) = true from h) hσ
  obtain ⟨x', s2, h, hσ, mx⟩ := zx_C_ok h hσ
  have hy := my _ _ _ hy
  have hx1 := mx _ _ _ hx1
  obtain ⟨h1, h⟩ := zx_c1 h
  obtain ⟨h1, h2⟩ := zx_an h1
  obtain ⟨x, rfl⟩ := zr_int h1 hx1
  obtain ⟨y, rfl⟩ := zr_int h2 hy
  rw [zx_F_eq] at h
  refine lv_imul hx hb hdg (hn ▸ kk _ _ _ _ _ _ _ _ _ _ _ h ⟨hσ, hS, as, hH, hL, ?_, hr⟩)
  cases q3 : (Nat.beq (x' % 8) 0 && Nat.beq (y' % 8) 0) with
  | false => exact zr_any
  | true =>
    obtain ⟨q3, q4⟩ := zx_an q3
    have e1 := Value.int.inj ((zr_0 (zx_beq.mp q3)).mp hx1)
    have e2 := Value.int.inj ((zr_0 (zx_beq.mp q4)).mp hy)
    show zr σ b as (8 * ((x' / 8 * (y' / 8)) % 4294967296)) _
    refine (zr_0 (by omega)).mpr ?_
    rw [Nat.mul_div_cancel_left _ (by decide), zr_nI_mod, e1, e2, pk_mul]
end ZO
