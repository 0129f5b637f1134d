theorem zt_1 {p q : Nat} : zx_T 1 (zx_ord p q) = true ↔ p < q := by
  rcases Nat.lt_trichotomy p q with h | h | h
  · rw [zx_ord_0.mpr h]; exact ⟨fun _ => h, fun _ => by decide⟩
  · rw [zx_ord_1.mpr h]; exact ⟨fun g => absurd g (by decide), fun g => absurd g (by omega)⟩
  · rw [zx_ord_2.mpr h]; exact ⟨fun g => absurd g (by decide), fun g => absurd g (by omega)⟩
theorem zt_2 {p q : Nat} : zx_T 2 (zx_ord p q) = true ↔ p = q := by
  rcases Nat.lt_trichotomy p q with h | h | h
  · rw [zx_ord_0.mpr h]; exact ⟨fun g => absurd g (by decide), fun g => absurd g (by omega)⟩
  · rw [zx_ord_1.mpr h]; exact ⟨fun _ => h, fun _ => by decide⟩
  · rw [zx_ord_2.mpr h]; exact ⟨fun g => absurd g (by decide), fun g => absurd g (by omega)⟩
theorem zt_3 {p q : Nat} : zx_T 3 (zx_ord p q) = true ↔ p ≤ q := by
  rcases Nat.lt_trichotomy p q with h | h | h
  · rw [zx_ord_0.mpr h]; exact ⟨fun _ => by omega, fun _ => by decide⟩
  · rw [zx_ord_1.mpr h]; exact ⟨fun _ => by omega, fun _ => by decide⟩
  · rw [zx_ord_2.mpr h]; exact ⟨fun g => absurd g (by decide), fun g => absurd g (by omega)⟩
theorem zt_4 {p q : Nat} : zx_T 4 (zx_ord p q) = true ↔ q < p := by
  rcases Nat.lt_trichotomy p q with h | h | h
  · rw [zx_ord_0.mpr h]; exact ⟨fun g => absurd g (by decide), fun g => absurd g (by omega)⟩
  · rw [zx_ord_1.mpr h]; exact ⟨fun g => absurd g (by decide), fun g => absurd g (by omega)⟩
  · rw [zx_ord_2.mpr h]; exact ⟨fun _ => h, fun _ => by decide⟩
theorem zt_5 {p q : Nat} : zx_T 5 (zx_ord p q) = true ↔ ¬ p = q := by
  rcases Nat.lt_trichotomy p q with h | h | h
  · rw [zx_ord_0.mpr h]; exact ⟨fun _ => by omega, fun _ => by decide⟩
  · rw [zx_ord_1.mpr h]; exact ⟨fun g => absurd g (by decide), fun g => absurd h g⟩
  · rw [zx_ord_2.mpr h]; exact ⟨fun _ => by omega, fun _ => by decide⟩
theorem zt_6 {p q : Nat} : zx_T 6 (zx_ord p q) = true ↔ q ≤ p := by
  rcases Nat.lt_trichotomy p q with h | h | h
  · rw [zx_ord_0.mpr h]; exact ⟨fun g => absurd g (by decide), fun g => absurd g (by omega)⟩
  · rw [zx_ord_1.mpr h]; exact ⟨fun _ => by omega, fun _ => by decide⟩
  · rw [zx_ord_2.mpr h]; exact ⟨fun _ => by omega, fun _ => by decide⟩
theorem zx_cT {c a b : Bool} {P : Prop} (hc : c = true ↔ P) (h : cond c a b = true) : (P → a = true) ∧ (¬ P → b = true) := by
  cases c with
  | true => exact ⟨fun _ => h, fun g => absurd (hc.mp rfl) g⟩
  | false => exact ⟨fun g => absurd (hc.mpr g) Bool.false_ne_true, fun _ => h⟩
def zx_cd (b : Nat) : ClassFile.Cond := if b = 2 then .eq else if b = 5 then .ne else if b = 1 then .lt else if b = 6 then .ge else if b = 4 then .gt else .le
theorem zn_cmp {x y : Int64} {p q : Nat} (h : x.toInt < y.toInt ↔ p < q) (h2 : x.toInt = y.toInt ↔ p = q) : lg_cmp x y = nI (cond (Nat.beq (zx_ord p q) 0) 4294967295 (zx_ord p q - 1)) := by
  rcases Nat.lt_trichotomy p q with g | g | g
  · rw [zx_ord_0.mpr g]
    have h3 := h.mpr g
    have a1 : ¬ y < x := by rw [Int64.lt_iff_toInt_lt]; omega
    have a2 : ¬ x = y := fun q => by rw [q] at h3; omega
    simp [lg_cmp, a1, a2]
    decide
  · rw [zx_ord_1.mpr g]
    have h3 : x = y := Int64.toInt_inj.mp (h2.mpr g)
    subst h3
    simp [lg_cmp]
    decide
  · rw [zx_ord_2.mpr g]
    have h3 : y.toInt < x.toInt := by
      rcases Int.lt_trichotomy x.toInt y.toInt with c | c | c
      · exact absurd (h.mp c) (by omega)
      · exact absurd (h2.mp c) (by omega)
      · exact c
    have a1 : y < x := by rw [Int64.lt_iff_toInt_lt]; exact h3
    simp [lg_cmp, a1]
    decide
section ZB
variable {p : Program} {l : Launch} {e : Env} {R : Room} {s : State} {m : MethodId} {args : Array Value} {below : List Frame} {meth : Method} {c : Code} {Q : State → Prop} {cc : ByteArray} {nL : Nat} {G : va_G} {σ : Nat → Int32} {b : zxBB} {A : Nat → Prop} {pc a a2 nxt : Nat} {d : List Nat} {lv : zxLV} {stk : List Nat} {hp : zxHP} {st : zxST} {u w : Nat} {k : zxKT} {H : Heap} {locs : List Loc} {ls : Array Slot} {vs : List Value}
theorem zo_icmp {off : Int} (hx : p.tables.exec = Jvm.exec) (hb : c.code = cc) (hdg : decode cc pc = .ok (.if_icmp (zx_cd a2) off, 3)) (ha2 : 1 ≤ a2 ∧ a2 ≤ 6) (ht : (pc : Int) + off = (a : Int)) (hn : nxt = pc + 3) (h : zh_icmp a a2 nxt d lv stk hp st u w k = true) (r : zr_R G σ b A nL s H locs ls vs lv stk hp st) (kk : zr_KK p l e R s m args below meth c Q G σ b A nL k) : W p l e R s m args below meth c H locs u w Q (F0 m pc ls vs) := by
  obtain ⟨hσ, hS, as, hH, hL, hV⟩ := r
  rcases stk with _ | ⟨y, _ | ⟨x, rr⟩⟩
  · exact absurd h Bool.false_ne_true
  · exact absurd h Bool.false_ne_true
  rcases vs with _ | ⟨vy, _ | ⟨vx, vr⟩⟩
  · exact hV.elim
  · exact hV.2.elim
  obtain ⟨hy, hx1, hr⟩ := hV
  have h : (zx_i x && zx_i y) = true ∧ zx_K x y st (fun o s => cond (zx_T a2 o) (k a lv rr hp s u w) (k nxt lv rr hp s u w)) = true := zx_c1 h
  obtain ⟨h1, h⟩ := h
  obtain ⟨h1, h2⟩ := zx_an h1
  obtain ⟨xv, rfl⟩ := zr_int h1 hx1
  obtain ⟨yv, rfl⟩ := zr_int h2 hy
  obtain ⟨s2, h, hσ2⟩ := zx_K_ok h hσ hx1 hy
  have kt : k a lv rr hp s2 u w = true → W p l e R s m args below meth c H locs u w Q (F0 m a ls vr) := fun q => kk _ _ _ _ _ _ _ _ _ _ _ q ⟨hσ2, hS, as, hH, hL, hr⟩
  have kf : k nxt lv rr hp s2 u w = true → W p l e R s m args below meth c H locs u w Q (F0 m (pc + 3) ls vr) := fun q => hn ▸ kk _ _ _ _ _ _ _ _ _ _ _ q ⟨hσ2, hS, as, hH, hL, hr⟩
  rcases (show a2 = 1 ∨ a2 = 2 ∨ a2 = 3 ∨ a2 = 4 ∨ a2 = 5 ∨ a2 = 6 by omega) with q | q | q | q | q | q
  · rw [q] at hdg h
    obtain ⟨g1, g2⟩ := zx_cT (zt_1.trans zr_lt.symm) h
    exact lv_icmp_lt hx hb hdg ht (fun hc => kt (g1 hc)) (fun hc => kf (g2 hc))
  · rw [q] at hdg h
    obtain ⟨g1, g2⟩ := zx_cT (zt_2.trans zr_eq.symm) h
    exact lv_icmp_eq hx hb hdg ht (fun hc => kt (g1 hc)) (fun hc => kf (g2 hc))
  · rw [q] at hdg h
    obtain ⟨g1, g2⟩ := zx_cT (zt_3.trans zr_le.symm) h
    exact lv_icmp_le hx hb hdg ht (fun hc => kt (g1 hc)) (fun hc => kf (g2 hc))
  · rw [q] at hdg h
    obtain ⟨g1, g2⟩ := zx_cT (zt_4.trans zr_lt.symm) h
    exact lv_icmp_gt hx hb hdg ht (fun hc => kt (g1 hc)) (fun hc => kf (g2 hc))
  · rw [q] at hdg h
    obtain ⟨g1, g2⟩ := zx_cT (zt_5.trans (not_congr zr_eq.symm)) h
    exact lv_icmp_ne hx hb hdg ht (fun hc => kt (g1 hc)) (fun hc => kf (g2 (fun q => q hc)))
  · rw [q] at hdg h
    obtain ⟨g1, g2⟩ := zx_cT (zt_6.trans zr_le.symm) h
    exact lv_icmp_ge hx hb hdg ht (fun hc => kt (g1 hc)) (fun hc => kf (g2 hc))
theorem zo_if {off : Int} (hx : p.tables.exec = Jvm.exec) (hb : c.code = cc) (hdg : decode cc pc = .ok (.ifCond (zx_cd a2) off, 3)) (ha2 : 1 ≤ a2 ∧ a2 ≤ 6) (ht : (pc : Int) + off = (a : Int)) (hn : nxt = pc + 3) (h : zh_if a a2 nxt d lv stk hp st u w k = true) (r : zr_R G σ b A nL s H locs ls vs lv stk hp st) (kk : zr_KK p l e R s m args below meth c Q G σ b A nL k) : W p l e R s m args below meth c H locs u w Q (F0 m pc ls vs) := by
  obtain ⟨hσ, hS, as, hH, hL, hV⟩ := r
  rcases stk with _ | ⟨x, rr⟩
  · exact absurd h Bool.false_ne_true
  rcases vs with _ | ⟨vx, vr⟩
  · exact hV.elim
  obtain ⟨hx1, hr⟩ := hV
  have h : zx_i x = true ∧ zx_K x 0 st (fun o s => cond (zx_T a2 o) (k a lv rr hp s u w) (k nxt lv rr hp s u w)) = true := zx_c1 h
  obtain ⟨h1, h⟩ := h
  obtain ⟨xv, rfl⟩ := zr_int h1 hx1
  have hy : zr σ b as 0 (.int (0 : Int32)) := (zr_0 rfl).mpr (by rw [← nI_0])
  obtain ⟨s2, h, hσ2⟩ := zx_K_ok h hσ hx1 hy
  have kt : k a lv rr hp s2 u w = true → W p l e R s m args below meth c H locs u w Q (F0 m a ls vr) := fun q => kk _ _ _ _ _ _ _ _ _ _ _ q ⟨hσ2, hS, as, hH, hL, hr⟩
  have kf : k nxt lv rr hp s2 u w = true → W p l e R s m args below meth c H locs u w Q (F0 m (pc + 3) ls vr) := fun q => hn ▸ kk _ _ _ _ _ _ _ _ _ _ _ q ⟨hσ2, hS, as, hH, hL, hr⟩
  rcases (show a2 = 1 ∨ a2 = 2 ∨ a2 = 3 ∨ a2 = 4 ∨ a2 = 5 ∨ a2 = 6 by omega) with q | q | q | q | q | q
  · rw [q] at hdg h
    obtain ⟨g1, g2⟩ := zx_cT (zt_1.trans zr_lt.symm) h
    exact lv_if_lt hx hb hdg ht (fun hc => kt (g1 hc)) (fun hc => kf (g2 hc))
  · rw [q] at hdg h
    obtain ⟨g1, g2⟩ := zx_cT (zt_2.trans zr_eq.symm) h
    exact lv_if_eq hx hb hdg ht (fun hc => kt (g1 hc)) (fun hc => kf (g2 hc))
  · rw [q] at hdg h
    obtain ⟨g1, g2⟩ := zx_cT (zt_3.trans zr_le.symm) h
    exact lv_if_le hx hb hdg ht (fun hc => kt (g1 hc)) (fun hc => kf (g2 hc))
  · rw [q] at hdg h
    obtain ⟨g1, g2⟩ := zx_cT (zt_4.trans zr_lt.symm) h
    exact lv_if_gt hx hb hdg ht (fun hc => kt (g1 hc)) (fun hc => kf (g2 hc))
  · rw [q] at hdg h
    obtain ⟨g1, g2⟩ := zx_cT (zt_5.trans (not_congr zr_eq.symm)) h
    exact lv_if_ne hx hb hdg ht (fun hc => kt (g1 hc)) (fun hc => kf (g2 (fun q => q hc)))
  · rw [q] at hdg h
    obtain ⟨g1, g2⟩ := zx_cT (zt_6.trans zr_le.symm) h
    exact lv_if_ge hx hb hdg ht (fun hc => kt (g1 hc)) (fun hc => kf (g2 hc))
theorem zn_w (p : Nat) : (zx_w p : Int) = (lN p).toInt + 9223372036854775808 := by
  rw [zn_lN_toInt]
  unfold zx_w
  rw [Int.bmod_def]
  omega
theorem zx_sm_ok {p : Nat} (h : zx_sm p = true) : (lN p).toInt = ((zx_lb p : Nat) : Int) - 2147483648 := by
  have hw := zn_w p
  unfold zx_w at hw
  unfold zx_lb
  rcases Bool.or_eq_true_iff.mp h with g | g
  · have g := zx_blt.mp g
    omega
  · have g1 := zx_ble.mp (zx_an g).1
    have g2 := zx_blt.mp (zx_an g).2
    omega
set_option maxRecDepth 20000 in
theorem zo_lcmp (hx : p.tables.exec = Jvm.exec) (hb : c.code = cc) (hdg : decode cc pc = .ok (.lcmp, 1)) (hn : nxt = pc + 1) (h : zh_lcmp a a2 nxt d lv stk hp st u w k = true) (r : zr_R G σ b A nL s H locs ls vs lv stk hp st) (kk : zr_KK p l e R s m args below meth c Q G σ b A nL k) : W p l e R s m args below meth c H locs u w Q (F0 m pc ls vs) := by
  obtain ⟨hσ, hS, as, hH, hL, hV⟩ := r
  rcases stk with _ | ⟨y, _ | ⟨x, rr⟩⟩
  · exact absurd h Bool.false_ne_true
  · exact absurd h Bool.false_ne_true
  rcases vs with _ | ⟨vy, _ | ⟨vx, vr⟩⟩
  · exact hV.elim
  · exact hV.2.elim
  obtain ⟨hy, hx1, hr⟩ := hV
  rcases zx_ct h with ⟨h1, h2⟩ | ⟨-, h2⟩
  · have e1 := (zr_1 (zx_beq.mp h1)).mp hx1
    rcases zx_ct h2 with ⟨h3, h4⟩ | ⟨-, h4⟩
    · have e2 := (zr_1 (zx_beq.mp h3)).mp hy
      subst e1
      subst e2
      rw [zx_F_eq] at h4
      refine W.lcmp hx hb hdg (hn ▸ kk _ _ _ _ _ _ _ _ _ _ _ h4 ⟨hσ, hS, as, hH, hL, ?_, hr⟩)
      have w1 := zn_w (x / 8)
      have w2 := zn_w (y / 8)
      rw [zn_cmp (p := zx_w (x / 8)) (q := zx_w (y / 8)) (by omega) (by omega)]
      generalize zx_w (x / 8) = P
      generalize zx_w (y / 8) = Q2
      have hz : (cond (Nat.blt P Q2) 4294967295 (cond (Nat.beq P Q2) 0 1)) = cond (Nat.beq (zx_ord P Q2) 0) 4294967295 (zx_ord P Q2 - 1) := by
        unfold zx_ord
        cases Nat.blt P Q2 <;> cases Nat.beq P Q2 <;> rfl
      rw [hz]
      refine (zr_0 (by omega)).mpr ?_
      rw [Nat.mul_div_cancel_left _ (by decide)]
    · obtain ⟨h3, h4⟩ := zx_c1 h4
      have g1 := zx_an h3
      have g2 := zx_an g1.2
      have h5 := zx_blt.mp g2.1
      have h8 := zx_blt.mp g2.2
      have e2 := (zr_5 (zx_beq.mp g1.1)).mp hy
      subst e1
      subst e2
      rw [zx_F_eq, zx_F_eq] at h4
      obtain ⟨s2, h7, hσ2⟩ := zx_X_ok h4 hσ
      rw [zx_F_eq, zx_ord_sw] at h7
      refine W.lcmp hx hb hdg (hn ▸ kk _ _ _ _ _ _ _ _ _ _ _ h7 ⟨hσ2, hS, as, hH, hL, ?_, hr⟩)
      have w1 := zr_b_toInt (zr_d σ (y / 8))
      have w2 : (lN (x / 8)).toInt = ((x / 8 : Nat) : Int) := lN_toInt h8
      have w3 := Int32.toInt_toInt64 (zr_d σ (y / 8))
      rw [zr_n_s h5]
      rw [zn_cmp (p := x / 8 + 2147483648) (q := zr_b (zr_d σ (y / 8))) (by rw [w2, w3]; omega) (by rw [w2, w3]; omega)]
      refine (zr_0 (by omega)).mpr ?_
      rw [Nat.mul_div_cancel_left _ (by decide)]
  · obtain ⟨h3, h4⟩ := zx_c1 h2
    obtain ⟨h3, h5⟩ := zx_an h3
    have h5 := zx_blt.mp h5
    have e1 := (zr_5 (zx_beq.mp h3)).mp hx1
    subst e1
    rcases zx_ct h4 with ⟨h6, h7⟩ | ⟨-, h7⟩
    · obtain ⟨h6, h8⟩ := zx_an h6
      have h8 := zx_sm_ok h8
      have e2 := (zr_1 (zx_beq.mp h6)).mp hy
      subst e2
      rw [zx_F_eq, zx_F_eq] at h7
      obtain ⟨s2, h7, hσ2⟩ := zx_X_ok h7 hσ
      rw [zx_F_eq] at h7
      refine W.lcmp hx hb hdg (hn ▸ kk _ _ _ _ _ _ _ _ _ _ _ h7 ⟨hσ2, hS, as, hH, hL, ?_, hr⟩)
      have w1 := zr_b_toInt (zr_d σ (x / 8))
      have w2 : (lN (y / 8)).toInt = ((zx_lb (y / 8) : Nat) : Int) - 2147483648 := h8
      have w3 := Int32.toInt_toInt64 (zr_d σ (x / 8))
      rw [zr_n_s h5]
      rw [zn_cmp (p := zr_b (zr_d σ (x / 8))) (q := zx_lb (y / 8)) (by rw [w2, w3]; omega) (by rw [w2, w3]; omega)]
      refine (zr_0 (by omega)).mpr ?_
      rw [Nat.mul_div_cancel_left _ (by decide)]
    · obtain ⟨h6, h7⟩ := zx_c1 h7
      have e2 := (zr_5 (zx_beq.mp h6)).mp hy
      subst e2
      rw [zx_F_eq, zx_F_eq] at h7
      obtain ⟨s2, h7, hσ2⟩ := zx_Y_ok h7 hσ
      rw [zx_F_eq] at h7
      refine W.lcmp hx hb hdg (hn ▸ kk _ _ _ _ _ _ _ _ _ _ _ h7 ⟨hσ2, hS, as, hH, hL, ?_, hr⟩)
      have w1 := zr_b_toInt (zr_d σ (x / 8))
      have w2 := zr_b_toInt (zr_d σ (y / 8))
      have w3 := Int32.toInt_toInt64 (zr_d σ (x / 8))
      have w4 := Int32.toInt_toInt64 (zr_d σ (y / 8))
      rw [zn_cmp (p := zr_b (zr_d σ (x / 8))) (q := zr_b (zr_d σ (y / 8))) (by rw [w3, w4]; omega) (by rw [w3, w4]; omega)]
      refine (zr_0 (by omega)).mpr ?_
      rw [Nat.mul_div_cancel_left _ (by decide)]
theorem zx_W_ok {dflt id : Nat} {kk : Nat → zxST → Bool} : ∀ {d : List Nat} {b : Nat} {st : zxST}, zx_W d dflt id kk b st = true → zr_in σ st → ∃ st', kk (if zr_n σ id < b then dflt else zx_N dflt d (zr_n σ id - b)) st' = true ∧ zr_in σ st'
  | [], b, st, h, hσ => by
    refine ⟨st, ?_, hσ⟩
    rw [show (if zr_n σ id < b then dflt else zx_N dflt [] (zr_n σ id - b)) = dflt by split <;> rfl]
    exact h
  | t :: ts, b, st, h, hσ => by
    obtain ⟨s2, h, hσ2⟩ := zx_X_ok (show zx_X st id b (fun o s2 => cond (Nat.beq o 0) (kk dflt s2) (cond (Nat.beq o 1) (kk t s2) (zx_F (Nat.succ b) (fun b2 => zx_W ts dflt id kk b2 s2)))) = true from h) hσ
    rcases Nat.lt_trichotomy (zr_n σ id) b with g | g | g
    · rw [zx_ord_0.mpr g] at h
      rw [if_pos g]
      exact ⟨s2, h, hσ2⟩
    · rw [zx_ord_1.mpr g] at h
      rw [if_neg (by omega), show zr_n σ id - b = 0 by omega]
      exact ⟨s2, h, hσ2⟩
    · rw [zx_ord_2.mpr g] at h
      have h : zx_F (Nat.succ b) (fun b2 => zx_W ts dflt id kk b2 s2) = true := h
      rw [zx_F_eq] at h
      obtain ⟨s3, h, hσ3⟩ := zx_W_ok h hσ2
      rw [if_neg (by omega)] at h
      rw [if_neg (by omega), show zr_n σ id - b = (zr_n σ id - Nat.succ b) + 1 by omega]
      exact ⟨s3, h, hσ3⟩
theorem zo_switchW {x : Int32} {len t : Nat} (hx : p.tables.exec = Jvm.exec) (hb : c.code = cc) (hdg : decode cc pc = .ok (.tableswitch ((a : Int) - pc) ((a2 : Int) - 2147483648) ((a2 : Int) - 2147483648 + d.length - 1) (d.map (fun t : Nat => (t : Int) - (pc : Int))).toArray, len))
    (ht : t = if zr_b x < a2 then a else zx_N a d (zr_b x - a2)) (kW : W p l e R s m args below meth c H locs u w Q (F0 m t ls vs)) : W p l e R s m args below meth c H locs u w Q (F0 m pc ls (.int x :: vs)) := by
  have hz := zr_b_toInt x
  by_cases h1 : zr_b x < a2
  · rw [if_pos h1] at ht
    subst ht
    exact lv_tableOut hx hb hdg (Or.inl (by omega)) (by omega) kW
  · rw [if_neg h1, zx_N_eq] at ht
    by_cases h2 : zr_b x - a2 < d.length
    · rw [List.getElem?_eq_getElem h2] at ht
      refine lv_tableIn hx hb hdg (by omega) (by omega) (off := (d[zr_b x - a2] : Int) - pc) ?_ (by rw [ht]; simp only [Option.getD_some]; omega) kW
      rw [show (x.toInt - ((a2 : Int) - 2147483648)).toNat = zr_b x - a2 by omega]
      simp [h2]
    · rw [List.getElem?_eq_none (by omega)] at ht
      have ht : t = a := ht
      subst ht
      exact lv_tableOut hx hb hdg (Or.inr (by omega)) (by omega) kW
theorem zo_switch {len : Nat} (hx : p.tables.exec = Jvm.exec) (hb : c.code = cc) (hdg : decode cc pc = .ok (.tableswitch ((a : Int) - pc) ((a2 : Int) - 2147483648) ((a2 : Int) - 2147483648 + d.length - 1) (d.map (fun t : Nat => (t : Int) - (pc : Int))).toArray, len)) (h : zh_switch a a2 nxt d lv stk hp st u w k = true) (r : zr_R G σ b A nL s H locs ls vs lv stk hp st) (kk : zr_KK p l e R s m args below meth c Q G σ b A nL k) : W p l e R s m args below meth c H locs u w Q (F0 m pc ls vs) := by
  obtain ⟨hσ, hS, as, hH, hL, hV⟩ := r
  rcases stk with _ | ⟨x, rr⟩
  · exact absurd h Bool.false_ne_true
  rcases vs with _ | ⟨vx, vr⟩
  · exact hV.elim
  obtain ⟨hx1, hr⟩ := hV
  obtain ⟨x', e1, -, -, m1⟩ := zx_M_ok x st (fun c => cond (Nat.beq (c % 8) 0) (zx_F (cond (Nat.blt (zx_u (c / 8)) a2) a (zx_N a d (zx_u (c / 8) - a2))) (fun t => k t lv rr hp st u w)) (cond (Nat.beq (c % 8) 4 && Nat.blt (c / 8) 300) (zx_F (c / 8) (fun id => zx_W d a id (fun t s => k t lv rr hp s u w) a2 st)) false))
  have h := e1.symm.trans (show zx_M x st (fun c => cond (Nat.beq (c % 8) 0) (zx_F (cond (Nat.blt (zx_u (c / 8)) a2) a (zx_N a d (zx_u (c / 8) - a2))) (fun t => k t lv rr hp st u w)) (cond (Nat.beq (c % 8) 4 && Nat.blt (c / 8) 300) (zx_F (c / 8) (fun id => zx_W d a id (fun t s => k t lv rr hp s u w) a2 st)) false)) = true from h)
  have hx1 := m1 σ b as _ hσ hx1
  rcases zx_ct h with ⟨h1, h⟩ | ⟨-, h⟩
  · have e2 := (zr_0 (zx_beq.mp h1)).mp hx1
    subst e2
    rw [zx_F_eq] at h
    refine zo_switchW hx hb hdg ?_ (kk _ _ _ _ _ _ _ _ _ _ _ h ⟨hσ, hS, as, hH, hL, hr⟩)
    rw [zr_b_nI]
    by_cases g : zx_u (x' / 8) < a2
    · rw [zx_blt.mpr g, if_pos g]; rfl
    · rw [zx_nblt.mpr g, if_neg g]; rfl
  · obtain ⟨h1, h⟩ := zx_c1 h
    obtain ⟨h1, h2⟩ := zx_an h1
    have h2 := zx_blt.mp h2
    have e2 := (zr_4 (zx_beq.mp h1)).mp hx1
    subst e2
    rw [zx_F_eq] at h
    obtain ⟨s2, h, hσ2⟩ := zx_W_ok h hσ
    rw [zr_n_s h2] at h
    exact zo_switchW hx hb hdg rfl (kk _ _ _ _ _ _ _ _ _ _ _ h ⟨hσ2, hS, as, hH, hL, hr⟩)
end ZB
