/-! branches, the stack, cells -/
section C55
variable {cu cw : Nat}
section FB
variable {p : Program} {l : Launch} {e : Env} {R : Room} {s : State} {m : MethodId} {args : Array Value} {below : List Frame} {meth : Method} {c : Code} {Q : State → Prop} {H : Heap} {locs : List Loc} {ls : Array Slot} {vr : List Value} {cc : ByteArray}
theorem fx_cmp_W {a b nxt pc : Nat} {x y : Int} {t f : Prop} (hx0 : p.tables.exec = Jvm.exec) (hb : c.code = cc) (hx : -2147483648 ≤ x ∧ x < 2147483648) (hy : -2147483648 ≤ y ∧ y < 2147483648) (hb6 : 1 ≤ b ∧ b ≤ 6) (hd : decode cc pc = .ok (.if_icmp (zx_cd b) ((a : Int) - (pc : Int)), 3)) (h : fx_cmp b x y t f) (ht : t → W p l e R s m args below meth c H locs cu cw Q (F0 m a ls vr)) (hf : f → W p l e R s m args below meth c H locs cu cw Q (F0 m (pc + 3) ls vr)) : W p l e R s m args below meth c H locs cu cw Q (F0 m pc ls (.int (Int32.ofInt y) :: .int (Int32.ofInt x) :: vr)) := by
  have ha : (pc : Int) + ((a : Int) - (pc : Int)) = (a : Int) := by omega
  rcases (show b = 1 ∨ b = 2 ∨ b = 3 ∨ b = 4 ∨ b = 5 ∨ b = 6 by omega) with rfl | rfl | rfl | rfl | rfl | rfl
  · have h : (x < y → t) ∧ (y ≤ x → f) := h
    exact lv_icmp_lt hx0 hb hd ha (fun g => ht (h.1 ((fz_lt hx hy).mp g))) (fun g => hf (h.2 (by rw [fz_lt hx hy] at g; omega)))
  · have h : (x = y → t) ∧ (x ≠ y → f) := h
    exact lv_icmp_eq hx0 hb hd ha (fun g => ht (h.1 ((fz_eq hx hy).mp g))) (fun g => hf (h.2 (by rw [fz_eq hx hy] at g; exact g)))
  · have h : (x ≤ y → t) ∧ (y < x → f) := h
    exact lv_icmp_le hx0 hb hd ha (fun g => ht (h.1 ((fz_le hx hy).mp g))) (fun g => hf (h.2 (by rw [fz_le hx hy] at g; omega)))
  · have h : (y < x → t) ∧ (x ≤ y → f) := h
    exact lv_icmp_gt hx0 hb hd ha (fun g => ht (h.1 ((fz_lt hy hx).mp g))) (fun g => hf (h.2 (by rw [fz_lt hy hx] at g; omega)))
  · have h : (x ≠ y → t) ∧ (x = y → f) := h
    exact lv_icmp_ne hx0 hb hd ha (fun g => ht (h.1 (fun q => g ((fz_eq hx hy).mpr q)))) (fun g => hf (h.2 ((fz_eq hx hy).mp g)))
  · have h : (y ≤ x → t) ∧ (x < y → f) := h
    exact lv_icmp_ge hx0 hb hd ha (fun g => ht (h.1 ((fz_le hy hx).mp g))) (fun g => hf (h.2 (by rw [fz_le hy hx] at g; omega)))
theorem fx_if_W {a b nxt pc : Nat} {x : Int} {t f : Prop} (hx0 : p.tables.exec = Jvm.exec) (hb : c.code = cc) (hx : -2147483648 ≤ x ∧ x < 2147483648) (hb6 : 1 ≤ b ∧ b ≤ 6) (hd : decode cc pc = .ok (.ifCond (zx_cd b) ((a : Int) - (pc : Int)), 3)) (h : fx_cmp b x 0 t f) (ht : t → W p l e R s m args below meth c H locs cu cw Q (F0 m a ls vr)) (hf : f → W p l e R s m args below meth c H locs cu cw Q (F0 m (pc + 3) ls vr)) : W p l e R s m args below meth c H locs cu cw Q (F0 m pc ls (.int (Int32.ofInt x) :: vr)) := by
  have ha : (pc : Int) + ((a : Int) - (pc : Int)) = (a : Int) := by omega
  have hy : -2147483648 ≤ (0 : Int) ∧ (0 : Int) < 2147483648 := ⟨by decide, by decide⟩
  have e0 : (0 : Int32) = Int32.ofInt 0 := rfl
  rcases (show b = 1 ∨ b = 2 ∨ b = 3 ∨ b = 4 ∨ b = 5 ∨ b = 6 by omega) with rfl | rfl | rfl | rfl | rfl | rfl
  · have h : (x < 0 → t) ∧ (0 ≤ x → f) := h
    exact lv_if_lt hx0 hb hd ha (fun g => ht (h.1 ((fz_lt hx hy).mp g))) (fun g => hf (h.2 (by rw [e0, fz_lt hx hy] at g; omega)))
  · have h : (x = 0 → t) ∧ (x ≠ 0 → f) := h
    exact lv_if_eq hx0 hb hd ha (fun g => ht (h.1 ((fz_eq hx hy).mp g))) (fun g => hf (h.2 (by rw [e0, fz_eq hx hy] at g; exact g)))
  · have h : (x ≤ 0 → t) ∧ (0 < x → f) := h
    exact lv_if_le hx0 hb hd ha (fun g => ht (h.1 ((fz_le hx hy).mp g))) (fun g => hf (h.2 (by rw [e0, fz_le hx hy] at g; omega)))
  · have h : (0 < x → t) ∧ (x ≤ 0 → f) := h
    exact lv_if_gt hx0 hb hd ha (fun g => ht (h.1 ((fz_lt hy hx).mp g))) (fun g => hf (h.2 (by rw [e0, fz_lt hy hx] at g; omega)))
  · have h : (x ≠ 0 → t) ∧ (x = 0 → f) := h
    exact lv_if_ne hx0 hb hd ha (fun g => ht (h.1 (fun q => g ((fz_eq hx hy).mpr q)))) (fun g => hf (h.2 ((fz_eq hx hy).mp g)))
  · have h : (0 ≤ x → t) ∧ (x < 0 → f) := h
    exact lv_if_ge hx0 hb hd ha (fun g => ht (h.1 ((fz_le hy hx).mp g))) (fun g => hf (h.2 (by rw [e0, fz_le hy hx] at g; omega)))
end FB
theorem fo_icmp : fr_HO cu cw fh_icmp zp_icmp := by
  intro p l e R s m args below meth c Q cc nL G A as y pc a b nxt d lv stk S k H locs ls vs ⟨hx, hb, hml, hown, hts, hnm, hA, hN⟩ ⟨h1, h2, h3⟩ h ⟨hS, hHP, hL, hV⟩ kk
  obtain ⟨x, z, r, rfl, h⟩ := fi_2 (P := fun x y r => fx_cmp b x y (k a lv r S) (k nxt lv r S)) h
  obtain ⟨vr, rfl, hz, hV⟩ := fv_i hV
  obtain ⟨vr, rfl, hx1, hV⟩ := fv_i hV
  exact fx_cmp_W (nxt := nxt) hx hb hx1 hz h1 h2 h (fun g => kk _ _ _ _ _ _ _ _ g ⟨hS, hHP, hL, hV⟩) (fun g => h3 ▸ kk _ _ _ _ _ _ _ _ g ⟨hS, hHP, hL, hV⟩)
theorem fo_if : fr_HO cu cw fh_if zp_if := by
  intro p l e R s m args below meth c Q cc nL G A as y pc a b nxt d lv stk S k H locs ls vs ⟨hx, hb, hml, hown, hts, hnm, hA, hN⟩ ⟨h1, h2, h3⟩ h ⟨hS, hHP, hL, hV⟩ kk
  obtain ⟨x, r, rfl, h⟩ := fi_1 (P := fun x r => fx_cmp b x 0 (k a lv r S) (k nxt lv r S)) h
  obtain ⟨vr, rfl, hx1, hV⟩ := fv_i hV
  exact fx_if_W (nxt := nxt) hx hb hx1 h1 h2 h (fun g => kk _ _ _ _ _ _ _ _ g ⟨hS, hHP, hL, hV⟩) (fun g => h3 ▸ kk _ _ _ _ _ _ _ _ g ⟨hS, hHP, hL, hV⟩)
theorem fo_goto : fr_HO cu cw fh_goto zp_goto := by
  intro p l e R s m args below meth c Q cc nL G A as y pc a b nxt d lv stk S k H locs ls vs ⟨hx, hb, hml, hown, hts, hnm, hA, hN⟩ h2 h ⟨hS, hHP, hL, hV⟩ kk
  exact lv_goto (tgt := a) hx hb h2 (by omega) (kk _ _ _ _ _ _ _ _ h ⟨hS, hHP, hL, hV⟩)
theorem fx_sw_ok {t : Nat} {z : Int} {k : Nat → Prop} : ∀ {d : List Nat} {b : Int}, fx_sw d t z b k → (∃ q, 0 ≤ z - b ∧ d[(z - b).toNat]? = some q ∧ k q) ∨ ((z < b ∨ b + d.length - 1 < z) ∧ k t)
  | [], b, h => Or.inr ⟨by simp; omega, h⟩
  | q :: d, b, h => by
    by_cases hz : z = b
    · refine Or.inl ⟨q, by omega, ?_, h.1 hz⟩
      rw [show (z - b).toNat = 0 by omega]; rfl
    · rcases fx_sw_ok (h.2 hz) with ⟨q', h1, h2, h3⟩ | ⟨h1, h2⟩
      · refine Or.inl ⟨q', by omega, ?_, h3⟩
        rw [show (z - b).toNat = (z - (b + 1)).toNat + 1 by omega]; exact h2
      · refine Or.inr ⟨?_, h2⟩
        simp only [List.length_cons]
        omega
theorem fo_switch : fr_HO cu cw fh_switch zp_switch := by
  intro p l e R s m args below meth c Q cc nL G A as y pc a b nxt d lv stk S k H locs ls vs ⟨hx, hb, hml, hown, hts, hnm, hA, hN⟩ h2 h ⟨hS, hHP, hL, hV⟩ kk
  obtain ⟨z, r, rfl, h⟩ := fi_1 (P := fun z r => fx_sw d a z ((b : Int) - 2147483648) (fun t => k t lv r S)) h
  obtain ⟨vr, rfl, hz, hV⟩ := fv_i hV
  rcases fx_sw_ok h with ⟨q, h3, h4, h5⟩ | ⟨h3, h5⟩
  · have hl := (List.getElem?_eq_some_iff.mp h4).1
    refine lv_tableIn (off := (q : Int) - (pc : Int)) (tgt := q) hx hb h2 (by rw [fz_to hz]; omega) (by rw [fz_to hz]; omega) ?_ (by omega) (kk _ _ _ _ _ _ _ _ h5 ⟨hS, hHP, hL, hV⟩)
    rw [fz_to hz]
    simp [h4]
  · exact lv_tableOut (tgt := a) hx hb h2 (by rw [fz_to hz]; exact h3) (by omega) (kk _ _ _ _ _ _ _ _ h5 ⟨hS, hHP, hL, hV⟩)
theorem fc1 {as : List Nat} {v : fxV} {w : Value} (h : fr_v as v w) (hl : fx_long v = false) : w.category = 1 := by
  rw [fr_cat h, hl]; rfl
theorem fo_dup : fr_HO cu cw fh_dup (zp_op .dup) := by
  intro p l e R s m args below meth c Q cc nL G A as y pc a b nxt d lv stk S k H locs ls vs ⟨hx, hb, hml, hown, hts, hnm, hA, hN⟩ ⟨h1, h2⟩ h ⟨hS, hHP, hL, hV⟩ kk
  obtain ⟨v, r, rfl, h⟩ := fi_c (P := fun c r => cond (fx_long c) False (k nxt lv (c :: c :: r) S)) h
  obtain ⟨w, vr, rfl, hw, hV⟩ := fv_c hV
  obtain ⟨h3, h⟩ := fc_f h
  exact lv_dup hx hb h1 (fc1 hw h3) (h2 ▸ kk _ _ _ _ _ _ _ _ h ⟨hS, hHP, hL, hw, hw, hV⟩)
theorem fo_pop : fr_HO cu cw fh_pop (zp_op .pop) := by
  intro p l e R s m args below meth c Q cc nL G A as y pc a b nxt d lv stk S k H locs ls vs ⟨hx, hb, hml, hown, hts, hnm, hA, hN⟩ ⟨h1, h2⟩ h ⟨hS, hHP, hL, hV⟩ kk
  obtain ⟨v, r, rfl, h⟩ := fi_c (P := fun c r => cond (fx_long c) False (k nxt lv r S)) h
  obtain ⟨w, vr, rfl, hw, hV⟩ := fv_c hV
  obtain ⟨h3, h⟩ := fc_f h
  exact lv_pop hx hb h1 (fc1 hw h3) (h2 ▸ kk _ _ _ _ _ _ _ _ h ⟨hS, hHP, hL, hV⟩)
theorem fo_dupx1 : fr_HO cu cw fh_dupx1 (zp_op .dup_x1) := by
  intro p l e R s m args below meth c Q cc nL G A as y pc a b nxt d lv stk S k H locs ls vs ⟨hx, hb, hml, hown, hts, hnm, hA, hN⟩ ⟨h1, h2⟩ h ⟨hS, hHP, hL, hV⟩ kk
  obtain ⟨v, v2, r, rfl, h⟩ := fi_cc (P := fun c e r => cond (fx_long c || fx_long e) False (k nxt lv (c :: e :: c :: r) S)) h
  obtain ⟨w, vr, rfl, hw, hV⟩ := fv_c hV
  obtain ⟨w2, vr, rfl, hw2, hV⟩ := fv_c hV
  obtain ⟨h3, h⟩ := fc_f h
  obtain ⟨h3, h4⟩ := Bool.or_eq_false_iff.mp h3
  exact lv_dup_x1 hx hb h1 (fc1 hw h3) (fc1 hw2 h4) (h2 ▸ kk _ _ _ _ _ _ _ _ h ⟨hS, hHP, hL, hw, hw2, hw, hV⟩)
theorem fo_dup2 : fr_HO cu cw fh_dup2 (zp_op .dup2) := by
  intro p l e R s m args below meth c Q cc nL G A as y pc a b nxt d lv stk S k H locs ls vs ⟨hx, hb, hml, hown, hts, hnm, hA, hN⟩ ⟨h1, h2⟩ h ⟨hS, hHP, hL, hV⟩ kk
  obtain ⟨v, v2, r, rfl, h⟩ := fi_cc (P := fun c e r => cond (fx_long c || fx_long e) False (k nxt lv (c :: e :: c :: e :: r) S)) h
  obtain ⟨w, vr, rfl, hw, hV⟩ := fv_c hV
  obtain ⟨w2, vr, rfl, hw2, hV⟩ := fv_c hV
  obtain ⟨h3, h⟩ := fc_f h
  obtain ⟨h3, h4⟩ := Bool.or_eq_false_iff.mp h3
  exact lv_dup2_11 hx hb h1 (fc1 hw h3) (fc1 hw2 h4) (h2 ▸ kk _ _ _ _ _ _ _ _ h ⟨hS, hHP, hL, hw, hw2, hw, hw2, hV⟩)
theorem fo_pop2 : fr_HO cu cw fh_pop2 (zp_op .pop2) := by
  intro p l e R s m args below meth c Q cc nL G A as y pc a b nxt d lv stk S k H locs ls vs ⟨hx, hb, hml, hown, hts, hnm, hA, hN⟩ ⟨h1, h2⟩ h ⟨hS, hHP, hL, hV⟩ kk
  obtain ⟨x, r, rfl, h⟩ := fi_l (P := fun x r => k nxt lv r S) h
  obtain ⟨vr, rfl, hz, hV⟩ := fv_l hV
  exact lv_pop2_2 hx hb h1 rfl (h2 ▸ kk _ _ _ _ _ _ _ _ h ⟨hS, hHP, hL, hV⟩)
end C55
