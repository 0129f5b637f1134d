/-- java.util.Arrays.fill's loop as one instruction: at 5, with i = 0; on at 20 -/
noncomputable def zq_fill : zxHD := fun _ _ nxt _ lv stk hp st u w k => match stk with
  | [] => zx_F (zx_A lv 74 0) (fun c => zx_F (zx_A lv 74 1) (fun v => cond (Nat.beq (c % 8) 3 && (zx_i v && Nat.beq (zx_A lv 74 2) 0)) (zx_F (c / 8) (fun q => match zx_G hp q with | (t, n, _, _) => cond (Nat.beq t 1 && Nat.beq (zx_A lv 74 3) (8 * n)) (zx_H hp q (1, n, [v], []) (fun hp2 => zx_F (8 * n) (fun nv => k nxt [(2, nv), (0, c), (1, v), (3, nv)] [] hp2 st u w))) false)) false))
  | _ => false
def zq_Pfill : zkPT := fun _ cc nL pc _ _ nxt _ => cc = prog_17_method_103_code ∧ nL = 4 ∧ pc = 5 ∧ nxt = 20
section ZQ0
variable {p : Program} {l : Launch} {e : Env} {R : Room} {s : State} {m : MethodId} {args : Array Value} {below : List Frame} {meth : Method} {c : Code} {Q : State → Prop} {G : va_G} {A : Nat → Prop} {u w : Nat}
theorem zq_fill_loop (hx : p.tables.exec = Jvm.exec) (hb : c.code = prog_17_method_103_code) {tys : List (ClassId × FieldType)} {ws : va_W} {K q n t0 : Nat} {cA : ClassId} {x : Int32} (hK : va_K G vwCl tys s) (hn : n < 2147483648) (ht : tys[t0]? = some (cA, .int)) (hlen : K < ws.length)
    (kk : ∀ (g : Nat → Int32) (H : Heap) (locs : List Loc) (ls : Array Slot), (∀ j, j < n → g j = x) → va_P G vwCl (ws.set K (q, .inl (cA, n, .inl g))) H → va_D A (ws.set K (q, .inl (cA, n, .inl g))) → va_S A s.heap H locs → lv_has ls 4 [(2, .int (nI n)), (0, .ref q), (1, .int x), (3, .int (nI n))] → W p l e R s m args below meth c H locs u w Q (F0 m 20 ls [])) :
    ∀ (k i : Nat) (g : Nat → Int32) (H : Heap) (locs : List Loc) (ls : Array Slot), i + k = n → (∀ j, j < i → g j = x) → va_P G vwCl (ws.set K (q, .inl (cA, n, .inl g))) H → va_D A (ws.set K (q, .inl (cA, n, .inl g))) → va_S A s.heap H locs → lv_has ls 4 [(2, .int (nI i)), (0, .ref q), (1, .int x), (3, .int (nI n))] → W p l e R s m args below meth c H locs u w Q (F0 m 5 ls []) := by
  intro k
  induction k with
  | zero =>
    intro i g H locs ls hi hg hP hD hS hl
    have hi : i = n := hi
    subst hi
    refine lv_iload_n hx hb (k := 2) (by decide +kernel) rfl (lv_at hl 0 rfl) ?_
    refine lv_iload_n hx hb (k := 3) (by decide +kernel) rfl (lv_at hl 3 rfl) ?_
    refine lv_icmp_ge (tgt := 20) (off := 13) hx hb (by decide +kernel) (by decide) (fun _ => ?_) (fun q => absurd (Int32.le_refl _) q)
    exact kk g H locs ls hg hP hD hS hl
  | succ k ih =>
    intro i g H locs ls hi hg hP hD hS hl
    have hin : i < n := by omega
    refine lv_iload_n hx hb (k := 2) (by decide +kernel) rfl (lv_at hl 0 rfl) ?_
    refine lv_iload_n hx hb (k := 3) (by decide +kernel) rfl (lv_at hl 3 rfl) ?_
    refine lv_icmp_ge (tgt := 20) (off := 13) hx hb (by decide +kernel) (by decide) (fun q => absurd q (nI_ge hin (by omega))) (fun _ => ?_)
    refine lv_aload_n hx hb (k := 0) (by decide +kernel) rfl (lv_at hl 1 rfl) ?_
    refine lv_iload_n hx hb (k := 2) (by decide +kernel) rfl (lv_at hl 0 rfl) ?_
    refine lv_iload_n hx hb (k := 1) (by decide +kernel) rfl (lv_at hl 2 rfl) ?_
    refine va_iast hx hb hK hP hD hS K t0 (List.getElem?_set_self hlen) ht (vp_in_nI hin (by omega)) (by decide +kernel) (fun H locs hP hD hS => ?_)
    rw [List.set_set, nI_clamp (by omega)] at hP hD
    refine lv_iinc (k := 0) (v := nI (i + 1)) (lv' := [(2, .int (nI (i + 1))), (0, .ref q), (1, .int x), (3, .int (nI n))]) (n := 1) hx hb (by decide +kernel) hl rfl (nI_1 i) (by decide) rfl (fun ls hl => ?_)
    refine lv_goto (tgt := 5) (off := -12) hx hb (by decide +kernel) (by decide) ?_
    refine ih (i + 1) _ H locs ls (by omega) (fun j hj => ?_) hP hD hS hl
    unfold upd
    by_cases hji : j = i
    · rw [if_pos hji]
    · rw [if_neg hji]; exact hg j (by omega)
end ZQ0
theorem zq_fill_ok : zk_HO zq_fill zq_Pfill := by
  intro p l e R s m args below meth c Q cc nL G σ b A y pc a a2 nxt d lv stk hp st u w k H locs ls vs ⟨hx, hb, hml, hown, hts, hnm, hA, hN⟩ ⟨h1, h2, h3, h4⟩ hk h r kk
  subst h1
  subst h2
  subst h3
  subst h4
  obtain ⟨hσ, hS, as, ⟨tys, ws, hK, hW, hP, hD⟩, ⟨lv', hl, hL⟩, hV⟩ := r
  rcases stk with _ | ⟨x, rr⟩
  · rcases vs with _ | ⟨vx, vr⟩
    · have h : zx_F (zx_A lv 74 0) (fun c => zx_F (zx_A lv 74 1) (fun v => cond (Nat.beq (c % 8) 3 && (zx_i v && Nat.beq (zx_A lv 74 2) 0)) (zx_F (c / 8) (fun q => match zx_G hp q with | (t, n, _, _) => cond (Nat.beq t 1 && Nat.beq (zx_A lv 74 3) (8 * n)) (zx_H hp q (1, n, [v], []) (fun hp2 => zx_F (8 * n) (fun nv => k 20 [(2, nv), (0, c), (1, v), (3, nv)] [] hp2 st u w))) false)) false)) = true := h
      rw [zx_F_eq, zx_F_eq] at h
      obtain ⟨g, h⟩ := zx_c1 h
      rw [zx_F_eq] at h
      have g1 := zx_an g
      have g2 := zx_an g1.2
      have q0 := zx_beq.mp g1.1
      have q2 := zx_beq.mp g2.2
      obtain ⟨v0, m0, z0⟩ := zr_LV_get (fun q => by rw [q] at q0; exact absurd q0 (by decide)) hL (rfl : zx_A lv 74 0 = _)
      obtain ⟨v1, m1, z1⟩ := zr_LV_get (fun q => by rw [q] at g2; exact absurd g2.1 (by decide)) hL (rfl : zx_A lv 74 1 = _)
      obtain ⟨v2, m2, z2⟩ := zr_LV_get (by decide) hL q2
      obtain ⟨qa, hqa, rfl⟩ := (zr_3 q0).mp z0
      obtain ⟨x, rfl⟩ := zr_int g2.1 z1
      have z2 := (zr_0 rfl).mp z2
      obtain ⟨e0, he, hE⟩ := zr_W_get hW hqa
      have hne : (zx_G hp (zx_A lv 74 0 / 8)).1 ≠ 0 := by
        rcases hE with ⟨g, -⟩ | ⟨-, g, -⟩ <;> omega
      generalize hGd : zx_G hp (zx_A lv 74 0 / 8) = E at h hE
      obtain ⟨t, n, fs, es⟩ := E
      obtain ⟨g3, h6⟩ := zx_c1 (show cond (Nat.beq t 1 && Nat.beq (zx_A lv 74 3) (8 * n)) (zx_H hp (zx_A lv 74 0 / 8) (1, n, [zx_A lv 74 1], []) (fun hp2 => zx_F (8 * n) (fun nv => k 20 [(2, nv), (0, zx_A lv 74 0), (1, zx_A lv 74 1), (3, nv)] [] hp2 st u w))) false = true from h)
      obtain ⟨ht1, q3⟩ := zx_an g3
      have ht1 := zx_beq.mp ht1
      have q3 := zx_beq.mp q3
      clear h
      subst ht1
      obtain ⟨v3, m3, z3⟩ := zr_LV_get (by omega) hL q3
      have z3 := (zr_0 (by omega)).mp z3
      rw [Nat.mul_div_cancel_left _ (by decide)] at z3
      obtain ⟨hp', e2, y1, y2⟩ := zx_H_ok hp (zx_A lv 74 0 / 8) (1, n, [zx_A lv 74 1], []) (fun hp2 => zx_F (8 * n) (fun nv => k 20 [(2, nv), (0, zx_A lv 74 0), (1, zx_A lv 74 1), (3, nv)] [] hp2 st u w)) hne
      rw [e2, zx_F_eq] at h6
      rcases hE with ⟨g, -⟩ | ⟨-, -, hn31, cA, t0, hty, h5⟩
      · exact absurd (show 16 ≤ 1 from g) (by decide)
      rcases h5 with ⟨-, f, rfl, hf⟩ | ⟨g, -⟩ | ⟨g, -⟩
      · have hn31 : n < 2147483648 := hn31
        have hl4 : lv_has ls 4 [(2, .int (nI 0)), (0, .ref qa), (1, .int x), (3, .int (nI n))] := by
          refine ⟨hl.1, hl.2.1, fun q hq => ?_⟩
          simp only [List.mem_cons, List.not_mem_nil, or_false] at hq
          rcases hq with rfl | rfl | rfl | rfl
          · have := hl.2.2 _ m2; rw [z2] at this; exact this
          · exact hl.2.2 _ m0
          · exact hl.2.2 _ m1
          · have := hl.2.2 _ m3; rw [z3] at this; exact this
        have hset : ws.set (zx_A lv 74 0 / 8) (qa, .inl (cA, n, .inl f)) = ws := by
          apply List.ext_getElem?
          intro j
          by_cases hj : zx_A lv 74 0 / 8 = j
          · subst hj
            rw [List.getElem?_set_self (List.getElem?_eq_some_iff.mp he).1, he]
          · rw [List.getElem?_set_ne hj]
        refine zq_fill_loop hx hb (K := zx_A lv 74 0 / 8) (q := qa) (n := n) (cA := cA) (t0 := t0) (x := x) (ws := ws) hK hn31 hty (List.getElem?_eq_some_iff.mp he).1 ?_ n 0 f H locs ls (Nat.zero_add n) (fun j hj => absurd hj (Nat.not_lt_zero j)) (by rw [hset]; exact hP) (by rw [hset]; exact hD) hS hl4
        intro g H1 locs1 ls1 hg hP1 hD1 hS1 hl1
        refine kk _ _ _ _ _ _ _ _ _ _ _ h6 ⟨hσ, hS1, as, ⟨tys, _, hK, zr_W_set hW hqa y1 y2 ?_, hP1, hD1⟩, ⟨_, hl1, ?_⟩, trivial⟩
        · refine Or.inr ⟨show 1 < 16 by decide, show 0 < 1 by decide, hn31, cA, t0, hty, Or.inl ⟨show 1 < 4 by decide, g, rfl, fun j hj => ?_⟩⟩
          rw [hg j hj]
          exact z1
        · refine ⟨⟨rfl, ?_⟩, ⟨rfl, z0⟩, ⟨rfl, z1⟩, ⟨rfl, ?_⟩, trivial⟩
          · exact (zr_0 (by omega)).mpr (by rw [Nat.mul_div_cancel_left _ (by decide)])
          · exact (zr_0 (by omega)).mpr (by rw [Nat.mul_div_cancel_left _ (by decide)])
      · exact absurd (show 1 = 4 from g) (by decide)
      · exact absurd (show 4 < 1 from g) (by decide)
    · exact hV.elim
  · exact absurd h Bool.false_ne_true
