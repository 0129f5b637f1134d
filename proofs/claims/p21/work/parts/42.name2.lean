section ZQ9
variable {p : Program} {l : Launch} {e : Env} {R : Room} {s : State} {m : MethodId} {args : Array Value} {below : List Frame} {meth : Method} {c : Code} {Q : State → Prop} {G : va_G} {A : Nat → Prop} {u w : Nat} {H : Heap} {locs : List Loc} {ls : Array Slot}
/-- a call that changes nothing -/
theorem zn_quiet {pc : Nat} {v0 : Option Value} {vs0 rest : List Value} (hr : va_Run p l e R s m args below meth c H locs u w 0 0 (F0 m pc ls vs0) rest (fun st0 oc t => oc = .returned v0 ∧ t.heap = st0.heap) (fun _ => False)) (kk : W p l e R s m args below meth c H locs u w Q (F0 m (pc + 3) ls (v0.toList ++ rest))) : W p l e R s m args below meth c H locs u w Q (F0 m pc ls vs0) := by
  intro T hT X
  obtain ⟨v, st₀, t, T', L, h0, X', hLL, e1, e2, ⟨k1, k2⟩, stp⟩ := hr T hT X
  cases k1
  have hLn : L = [] := by
    rcases L with _ | ⟨x0, L⟩
    · rfl
    · exact (hLL x0 List.mem_cons_self).elim
  subst hLn
  rw [List.append_nil] at X'
  obtain ⟨t2, a1, b1⟩ := kk T' (by rw [e1, k2, h0]) X'
  exact ⟨t2, stp t2 a1, b1⟩
end ZQ9
/-! the reference's check of a name -/
theorem zn_in (l : Launch) (x a b : Int64) : Met l ⟨"StubHouseModel", "in", "(JJJ)Z"⟩ (Cond.code ⟨"StubHouseModel", "in", "(JJJ)Z"⟩ prog_14_method_2_code 6 (some .boolean) :: zk_T) { frames := 0, cells := 0, slots := 0, locals := 0 } (va_Pc [.long x, .long a, .long b] (fun _ => True)) (fun _ st0 oc t => oc = .returned (some (.int (if a ≤ x ∧ x ≤ b then 1 else 0))) ∧ t.heap = st0.heap) 0 0 (fun _ => False) := by
  refine Met.ofW (cc := prog_14_method_2_code) (maxL := 6) (ret := some .boolean) (by decide) rfl ?_
  intro p e s m args below meth c s₁ B hml hv
  obtain ⟨rfl, -⟩ := hv
  have hx := B.exec
  have hb := B.bytes
  have hr := B.returns
  have hlocks : meth.locks = false := B.notSynchronized
  have hl := lv_entry ([.long x, .long a, .long b]) (n := 6) (Nat.le_of_ble_eq_true rfl)
  rw [lg_entry_eq]
  generalize (lg_sl ([.long x, .long a, .long b]) ++ List.replicate (6 - (lg_sl ([.long x, .long a, .long b])).length) Slot.unset).toArray = ls at hl ⊢
  have hl : lv_has ls 6 [(0, .long x), (2, .long a), (4, .long b)] := hl
  have K0 : ¬ (a ≤ x ∧ x ≤ b) → W p l e { frames := 0, cells := 0, slots := 0, locals := 0 } s m ([Value.long x, .long a, .long b] : List Value).toArray below meth c s.heap [] 0 0 (MQ below (fun _ st0 oc t => oc = .returned (some (.int (if a ≤ x ∧ x ≤ b then 1 else 0))) ∧ t.heap = st0.heap) ([Value.long x, .long a, .long b] : List Value).toArray s 0 0 (fun _ => False)) (F0 m 17 ls []) := fun g => by
    refine lv_iconst (v := 0) (n := 0) hx hb (by decide +kernel) (by decide) ?_
    exact W.zret hx hb hr (by decide) (fun t ht _ => ⟨by rw [if_neg g], ht⟩) (fun q h => by cases h) (by decide +kernel)
  refine lv_lload_n hx hb (k := 0) (by decide +kernel) rfl (lv_at hl 0 rfl) ?_
  refine lv_lload_n hx hb (k := 2) (by decide +kernel) rfl (lv_at hl 1 rfl) ?_
  refine W.lcmp hx hb (by decide +kernel) ?_
  refine lv_if_lt (tgt := 17) (off := 14) hx hb (by decide +kernel) (by decide) (fun g => ?_) (fun g => ?_)
  · have g := (lg_cmp_lt _ _).mp g
    exact K0 (fun q => absurd q.1 (Int64.not_le.mpr g))
  have g1 : a ≤ x := Int64.not_lt.mp (fun q => g ((lg_cmp_lt _ _).mpr q))
  refine lv_lload_n hx hb (k := 0) (by decide +kernel) rfl (lv_at hl 0 rfl) ?_
  refine lv_lload hx hb (by decide +kernel) (lv_at hl 2 rfl) ?_
  refine W.lcmp hx hb (by decide +kernel) ?_
  refine lv_if_gt (tgt := 17) (off := 7) hx hb (by decide +kernel) (by decide) (fun g => ?_) (fun g => ?_)
  · have g := (lg_cmp_gt _ _).mp g
    exact K0 (fun q => absurd q.2 (Int64.not_le.mpr g))
  have g2 : x ≤ b := Int64.not_lt.mp (fun q => g ((lg_cmp_gt _ _).mpr q))
  refine lv_iconst (v := 1) (n := 1) hx hb (by decide +kernel) (by decide) ?_
  refine lv_goto (tgt := 18) (off := 4) hx hb (by decide +kernel) (by decide) ?_
  exact W.zret hx hb hr (by decide) (fun t ht _ => ⟨by rw [if_pos ⟨g1, g2⟩], ht⟩) (fun q h => by cases h) (by decide +kernel)
theorem zn_lle {a b : Nat} (ha : a < 256) (hb : b < 256) : lN a ≤ lN b ↔ a ≤ b := lN_le (by omega) (by omega)
section ZN2
variable {p : Program} {l : Launch} {e : Env} {R : Room} {s : State} {m : MethodId} {args : Array Value} {below : List Frame} {meth : Method} {c : Code} {Q : State → Prop} {u w : Nat} {H : Heap} {locs : List Loc}
theorem zn_call (hx : p.tables.exec = Jvm.exec) (hb : c.code = prog_14_method_13_code) (hml : c.maxLocals = 7) (hts : ∀ w ∈ zk_T, w.before args s = true) (hown : s.vm.findClass "StubHouseModel" = some m.cls) (hfr : 1 ≤ R.frames) (hlo : 30 ≤ R.locals) (hu : u ≤ R.cells) (hw : w ≤ R.slots) {k a2 b2 pc : Nat} (hk : k < 256) (ha : a2 < 256) (hb2 : b2 < 256) (hd : decode prog_14_method_13_code pc = .ok (.invokestatic 139, 3)) {ls : Array Slot} (hs : ls.size = 7)
    (kk : W p l e R s m args below meth c H locs u w Q (F0 m (pc + 3) ls [.int (nI (if a2 ≤ k ∧ k ≤ b2 then 1 else 0))])) : W p l e R s m args below meth c H locs u w Q (F0 m pc ls [.long (lN b2), .long (lN a2), .long (lN k)]) := by
  refine zn_quiet (v0 := some (.int (if lN a2 ≤ lN k ∧ lN k ≤ lN b2 then 1 else 0))) (rest := []) (va_runS (l := l) (e := e) (below := below) (meth := meth) (H := H) (locs := locs) (cells := u) (slots := w) (rest := []) (g := F0 m pc ls [.long (lN b2), .long (lN a2), .long (lN k)]) (R := R) (As := [.long (lN k), .long (lN a2), .long (lN b2)]) ⟨hx, hb, hml, hown, hts⟩ (zn_in l (lN k) (lN a2) (lN b2)) ⟨callB_of 3 hts (zk_good (fun w h => h) (fun w hw => by rcases List.mem_cons.mp hw with rfl | hw; exact zk_h_eq (n := 2806) (by decide +kernel) rfl rfl; exact hw)) rfl rfl rfl (hts _ (zk_h_eq (n := 14) (by decide +kernel) rfl rfl)) (hts _ (zk_h_eq (n := 2804) (by decide +kernel) rfl rfl)) (by decide +kernel) ⟨hfr, Nat.le_trans (by decide) hlo⟩, hts _ (zk_h_eq (n := 2805) (by decide +kernel) rfl rfl)⟩ ⟨fun _ _ _ _ q => q, fun _ _ _ => ⟨rfl, trivial⟩⟩ rfl rfl hs rfl (lv_room (by decide)) hd ⟨hu, hw⟩) ?_
  have e1 : (if lN a2 ≤ lN k ∧ lN k ≤ lN b2 then (1 : Int32) else 0) = nI (if a2 ≤ k ∧ k ≤ b2 then 1 else 0) := by
    by_cases h9 : a2 ≤ k ∧ k ≤ b2
    · rw [if_pos h9, if_pos ⟨(zn_lle ha hk).mpr h9.1, (zn_lle hk hb2).mpr h9.2⟩]; rfl
    · rw [if_neg h9, if_neg (fun q => h9 ⟨(zn_lle ha hk).mp q.1, (zn_lle hk hb2).mp q.2⟩)]; rfl
  rw [e1]
  exact kk
/-- is the byte a sign: at 28, on at 65 -/
theorem zn_m_a (hx : p.tables.exec = Jvm.exec) (hb : c.code = prog_14_method_13_code) (hml : c.maxLocals = 7) (hts : ∀ w ∈ zk_T, w.before args s = true) (hown : s.vm.findClass "StubHouseModel" = some m.cls) (hfr : 1 ≤ R.frames) (hlo : 30 ≤ R.locals) (hu : u ≤ R.cells) (hw : w ≤ R.slots) {k i ok en : Nat} {x : Int64} (hk : k < 256) {ls : Array Slot} (hl : lv_has ls 7 [(5, .int (nI k)), (4, .int (nI i)), (3, .int (nI ok)), (2, .int (nI en)), (0, .long x)])
    (kk : ∀ ls : Array Slot, lv_has ls 7 [(6, .int (nI (if zr_sign k = true then 1 else 0))), (5, .int (nI k)), (4, .int (nI i)), (3, .int (nI ok)), (2, .int (nI en)), (0, .long x)] → W p l e R s m args below meth c H locs u w Q (F0 m 65 ls [])) : W p l e R s m args below meth c H locs u w Q (F0 m 28 ls []) := by
  have K1 : zr_sign k = true → W p l e R s m args below meth c H locs u w Q (F0 m 58 ls []) := fun g => by
    refine lv_iconst (v := nI 1) (n := 1) hx hb (by decide +kernel) (by decide) ?_
    refine lv_goto (tgt := 63) (off := 4) hx hb (by decide +kernel) (by decide) ?_
    refine lv_istore (lv' := [(6, .int (nI 1)), (5, .int (nI k)), (4, .int (nI i)), (3, .int (nI ok)), (2, .int (nI en)), (0, .long x)]) hx hb (by decide +kernel) hl (by decide) rfl (fun ls hl => ?_)
    exact kk ls (by rw [if_pos g]; exact hl)
  refine lv_iload hx hb (by decide +kernel) (lv_at hl 0 rfl) ?_
  refine lv_i2l (v := lN k) hx hb (by decide +kernel) (nI_l (by omega)) ?_
  refine lv_ldc2 (own := "StubHouseModel") (index := 149) (v := lN 97) hx hb hown (hts _ (zk_h_eq (n := 2815) (by decide +kernel) rfl rfl)) (by decide +kernel) ?_
  refine lv_ldc2 (own := "StubHouseModel") (index := 151) (v := lN 122) hx hb hown (hts _ (zk_h_eq (n := 2816) (by decide +kernel) rfl rfl)) (by decide +kernel) ?_
  refine zn_call hx hb hml hts hown hfr hlo hu hw hk (by decide) (by decide) (by decide +kernel) hl.1 ?_
  refine lv_if_ne (tgt := 58) (off := 18) hx hb (by decide +kernel) (by decide) (fun g => ?_) (fun g1 => ?_)
  · refine K1 ((zn_sign _).mpr (Or.inl ?_))
    by_cases h9 : 97 ≤ k ∧ k ≤ 122
    · exact h9
    · rw [if_neg h9] at g; exact absurd nI_0 g
  refine lv_iload hx hb (by decide +kernel) (lv_at hl 0 rfl) ?_
  refine lv_i2l (v := lN k) hx hb (by decide +kernel) (nI_l (by omega)) ?_
  refine lv_ldc2 (own := "StubHouseModel") (index := 153) (v := lN 48) hx hb hown (hts _ (zk_h_eq (n := 2817) (by decide +kernel) rfl rfl)) (by decide +kernel) ?_
  refine lv_ldc2 (own := "StubHouseModel") (index := 155) (v := lN 57) hx hb hown (hts _ (zk_h_eq (n := 2818) (by decide +kernel) rfl rfl)) (by decide +kernel) ?_
  refine zn_call hx hb hml hts hown hfr hlo hu hw hk (by decide) (by decide) (by decide +kernel) hl.1 ?_
  refine lv_if_eq (tgt := 62) (off := 7) hx hb (by decide +kernel) (by decide) (fun g2 => ?_) (fun g => ?_)
  · have hns : zr_sign k = false := zn_nsign (by
      rintro (h9 | h9)
      · rw [if_pos h9] at g1; exact absurd g1 (by decide)
      · rw [if_pos h9] at g2; exact absurd g2 (by decide))
    refine lv_iconst (v := nI 0) (n := 0) hx hb (by decide +kernel) (by decide) ?_
    refine lv_istore (lv' := [(6, .int (nI 0)), (5, .int (nI k)), (4, .int (nI i)), (3, .int (nI ok)), (2, .int (nI en)), (0, .long x)]) hx hb (by decide +kernel) hl (by decide) rfl (fun ls hl => ?_)
    exact kk ls (by rw [if_neg (by rw [hns]; decide)]; exact hl)
  · refine K1 ((zn_sign _).mpr (Or.inr ?_))
    by_cases h9 : 48 ≤ k ∧ k ≤ 57
    · exact h9
    · rw [if_neg h9] at g; exact absurd nI_0 g
/-- is it still a name: at 65, on at 94 -/
theorem zn_m_b (hx : p.tables.exec = Jvm.exec) (hb : c.code = prog_14_method_13_code) {k i ok en f : Nat} {x : Int64} (hk : k < 256) (hi : i < 256) (hen : en < 256) (hok : ok < 2) (hf : f < 2) {ls : Array Slot} (hl : lv_has ls 7 [(6, .int (nI f)), (5, .int (nI k)), (4, .int (nI i)), (3, .int (nI ok)), (2, .int (nI en)), (0, .long x)])
    (kk : ∀ ls : Array Slot, lv_has ls 7 [(3, .int (nI (if ok = 1 ∧ ((f = 1 ∧ en = i) ∨ (f = 0 ∧ k = 0)) then 1 else 0))), (6, .int (nI f)), (5, .int (nI k)), (4, .int (nI i)), (2, .int (nI en)), (0, .long x)] → W p l e R s m args below meth c H locs u w Q (F0 m 94 ls [])) : W p l e R s m args below meth c H locs u w Q (F0 m 65 ls []) := by
  have K0 : ¬ (ok = 1 ∧ ((f = 1 ∧ en = i) ∨ (f = 0 ∧ k = 0))) → W p l e R s m args below meth c H locs u w Q (F0 m 92 ls []) := fun g => by
    refine lv_iconst (v := nI 0) (n := 0) hx hb (by decide +kernel) (by decide) ?_
    refine lv_istore_n (k := 3) (lv' := [(3, .int (nI 0)), (6, .int (nI f)), (5, .int (nI k)), (4, .int (nI i)), (2, .int (nI en)), (0, .long x)]) hx hb (by decide +kernel) rfl hl (by decide) rfl (fun ls hl => ?_)
    exact kk ls (by rw [if_neg g]; exact hl)
  have K1 : (ok = 1 ∧ ((f = 1 ∧ en = i) ∨ (f = 0 ∧ k = 0))) → W p l e R s m args below meth c H locs u w Q (F0 m 88 ls []) := fun g => by
    refine lv_iconst (v := nI 1) (n := 1) hx hb (by decide +kernel) (by decide) ?_
    refine lv_goto (tgt := 93) (off := 4) hx hb (by decide +kernel) (by decide) ?_
    refine lv_istore_n (k := 3) (lv' := [(3, .int (nI 1)), (6, .int (nI f)), (5, .int (nI k)), (4, .int (nI i)), (2, .int (nI en)), (0, .long x)]) hx hb (by decide +kernel) rfl hl (by decide) rfl (fun ls hl => ?_)
    exact kk ls (by rw [if_pos g]; exact hl)
  refine lv_iload_n hx hb (k := 3) (by decide +kernel) rfl (lv_at hl 3 rfl) ?_
  refine lv_if_eq (tgt := 92) (off := 26) hx hb (by decide +kernel) (by decide) (fun g => ?_) (fun g => ?_)
  · have g : ok = 0 := by
      by_cases h9 : ok = 0
      · exact h9
      · exact absurd g (nI_ne0 (by omega) (by omega))
    exact K0 (by omega)
  have h1 : ok = 1 := by
    by_cases h9 : ok = 0
    · rw [h9] at g; exact absurd nI_0 g
    · omega
  refine lv_iload hx hb (by decide +kernel) (lv_at hl 0 rfl) ?_
  refine lv_if_eq (tgt := 83) (off := 12) hx hb (by decide +kernel) (by decide) (fun g => ?_) (fun g => ?_)
  · have g : f = 0 := by
      by_cases h9 : f = 0
      · exact h9
      · exact absurd g (nI_ne0 (by omega) (by omega))
    refine lv_iload hx hb (by decide +kernel) (lv_at hl 1 rfl) ?_
    refine lv_if_ne (tgt := 92) (off := 7) hx hb (by decide +kernel) (by decide) (fun g2 => ?_) (fun g2 => ?_)
    · have g2 : k ≠ 0 := fun q => by rw [q] at g2; exact g2 nI_0
      exact K0 (by omega)
    · have g2 : k = 0 := by
        by_cases h9 : k = 0
        · exact h9
        · exact absurd g2 (nI_ne0 (by omega) (by omega))
      exact K1 (by omega)
  have h2 : f = 1 := by
    by_cases h9 : f = 0
    · rw [h9] at g; exact absurd nI_0 g
    · omega
  refine lv_iload_n hx hb (k := 2) (by decide +kernel) rfl (lv_at hl 4 rfl) ?_
  refine lv_iload hx hb (by decide +kernel) (lv_at hl 2 rfl) ?_
  refine lv_icmp_ne (tgt := 92) (off := 15) hx hb (by decide +kernel) (by decide) (fun g2 => ?_) (fun g2 => ?_)
  · have g2 : en ≠ i := fun q => by rw [q] at g2; exact g2 rfl
    exact K0 (by omega)
  · have g2 : en = i := by
      exact (nI_eq (by omega) (by omega)).mp g2
    refine lv_goto (tgt := 88) (off := 8) hx hb (by decide +kernel) (by decide) ?_
    exact K1 (by omega)
/-- the end's new place: at 94, on at 108 -/
theorem zn_m_c (hx : p.tables.exec = Jvm.exec) (hb : c.code = prog_14_method_13_code) {k i ok en f : Nat} {x : Int64} (hf : f < 2) {ls : Array Slot} (hl : lv_has ls 7 [(3, .int (nI ok)), (6, .int (nI f)), (5, .int (nI k)), (4, .int (nI i)), (2, .int (nI en)), (0, .long x)])
    (kk : ∀ ls : Array Slot, lv_has ls 7 [(2, .int (nI (if f = 1 then i + 1 else en))), (3, .int (nI ok)), (6, .int (nI f)), (5, .int (nI k)), (4, .int (nI i)), (0, .long x)] → W p l e R s m args below meth c H locs u w Q (F0 m 108 ls [])) : W p l e R s m args below meth c H locs u w Q (F0 m 94 ls []) := by
  refine lv_iload hx hb (by decide +kernel) (lv_at hl 1 rfl) ?_
  refine lv_if_eq (tgt := 106) (off := 10) hx hb (by decide +kernel) (by decide) (fun g => ?_) (fun g => ?_)
  · have g : f ≠ 1 := fun q => by rw [q] at g; exact absurd g (by decide)
    refine lv_iload_n hx hb (k := 2) (by decide +kernel) rfl (lv_at hl 4 rfl) ?_
    refine lv_istore_n (k := 2) (lv' := [(2, .int (nI en)), (3, .int (nI ok)), (6, .int (nI f)), (5, .int (nI k)), (4, .int (nI i)), (0, .long x)]) hx hb (by decide +kernel) rfl hl (by decide) rfl (fun ls hl => ?_)
    exact kk ls (by rw [if_neg g]; exact hl)
  · have g : f = 1 := by
      by_cases h9 : f = 0
      · rw [h9] at g; exact absurd nI_0 g
      · omega
    refine lv_iload hx hb (by decide +kernel) (lv_at hl 3 rfl) ?_
    refine lv_iconst (v := 1) (n := 1) hx hb (by decide +kernel) (by decide) ?_
    refine lv_iadd hx hb (by decide +kernel) ?_
    rw [nI_1]
    refine lv_goto (tgt := 107) (off := 4) hx hb (by decide +kernel) (by decide) ?_
    refine lv_istore_n (k := 2) (lv' := [(2, .int (nI (i + 1))), (3, .int (nI ok)), (6, .int (nI f)), (5, .int (nI k)), (4, .int (nI i)), (0, .long x)]) hx hb (by decide +kernel) rfl hl (by decide) rfl (fun ls hl => ?_)
    exact kk ls (by rw [if_pos g]; exact hl)
/-- what holds of end and ok behind i bytes -/
def zn_I (n i en ok : Nat) : Prop := en ≤ i ∧ ok < 2 ∧ (ok = 1 → (∀ j, j < en → zr_sign (n / 256 ^ j % 256) = true) ∧ ∀ j, en ≤ j → j < i → n / 256 ^ j % 256 = 0) ∧ (ok = 0 → zr_nmN n = false)
theorem zn_I_step {n i en ok : Nat} (hi : i < 8) (h : zn_I n i en ok) : zn_I n (i + 1) (if (if zr_sign (n / 256 ^ i % 256) = true then 1 else 0) = 1 then i + 1 else en) (if ok = 1 ∧ (((if zr_sign (n / 256 ^ i % 256) = true then 1 else 0) = 1 ∧ en = i) ∨ ((if zr_sign (n / 256 ^ i % 256) = true then 1 else 0) = 0 ∧ n / 256 ^ i % 256 = 0)) then 1 else 0) := by
  obtain ⟨h1, h2, h3, h4⟩ := h
  cases hs : zr_sign (n / 256 ^ i % 256) with
  | true =>
    simp only [if_true, true_and, Nat.one_ne_zero, false_and, or_false]
    refine ⟨Nat.le_refl _, by split <;> decide, fun q => ?_, fun q => ?_⟩
    · by_cases g : ok = 1 ∧ en = i
      · obtain ⟨g1, g2⟩ := g
        refine ⟨fun j hj => ?_, fun j q1 q2 => absurd q2 (by omega)⟩
        by_cases hji : j = i
        · rw [hji]; exact hs
        · exact (h3 g1).1 j (by omega)
      · rw [if_neg g] at q; exact absurd q (by decide)
    · by_cases g : ok = 1 ∧ en = i
      · rw [if_pos g] at q; exact absurd q (by decide)
      · by_cases g1 : ok = 1
        · have hlt : en < i := by omega
          have hz := (h3 g1).2 en (Nat.le_refl _) hlt
          refine zn_false (j := en) (by omega) (fun q2 => ?_) (by rw [hz]; rfl)
          have := zn_mono (Nat.le_of_lt hlt) q2
          rw [this] at hs
          exact absurd hs (by decide)
        · exact h4 (by omega)
  | false =>
    simp only [Bool.false_eq_true, if_false, false_and, true_and, false_or, Nat.zero_ne_one]
    refine ⟨by omega, by split <;> decide, fun q => ?_, fun q => ?_⟩
    · by_cases g : ok = 1 ∧ n / 256 ^ i % 256 = 0
      · obtain ⟨g1, g2⟩ := g
        refine ⟨(h3 g1).1, fun j q1 q2 => ?_⟩
        by_cases hji : j = i
        · rw [hji]; exact g2
        · exact (h3 g1).2 j q1 (by omega)
      · rw [if_neg g] at q; exact absurd q (by decide)
    · by_cases g : ok = 1 ∧ n / 256 ^ i % 256 = 0
      · rw [if_pos g] at q; exact absurd q (by decide)
      · by_cases g1 : ok = 1
        · have hz : n / 256 ^ i % 256 ≠ 0 := fun q => g ⟨g1, q⟩
          refine zn_false (j := i) hi (fun q2 => ?_) hs
          rw [q2] at hz
          exact hz rfl
        · exact h4 (by omega)
theorem zn_I_end {n en ok : Nat} (hn : n < 2 ^ 64) (h : zn_I n 8 en ok) : zr_nmN n = true ↔ ok = 1 ∧ 0 < en := by
  obtain ⟨h1, h2, h3, h4⟩ := h
  constructor
  · intro h
    have hok : ok = 1 := by
      by_cases g : ok = 0
      · rw [h4 g] at h; exact absurd h (by decide)
      · omega
    refine ⟨hok, ?_⟩
    rcases Nat.eq_zero_or_pos en with g | g
    · exfalso
      have hz := zn_zero hn 8 0 rfl (fun t _ ht => (h3 hok).2 t (by omega) ht)
      rw [Nat.pow_zero, Nat.div_one] at hz
      rw [hz] at h
      exact absurd h (by decide)
    · exact g
  · rintro ⟨hok, hen⟩
    refine zn_true (fun q => ?_) (fun j hj => ?_)
    · have := (h3 hok).1 0 hen
      rw [q] at this
      exact absurd this (by decide)
    · by_cases g : j < en
      · exact Or.inr ((h3 hok).1 j g)
      · exact Or.inl (zn_zero hn (8 - j) j (by omega) (fun t q1 q2 => (h3 hok).2 t (by omega) q2))
theorem zn_m_loop (hx : p.tables.exec = Jvm.exec) (hb : c.code = prog_14_method_13_code) (hml : c.maxLocals = 7) (hts : ∀ w ∈ zk_T, w.before args s = true) (hown : s.vm.findClass "StubHouseModel" = some m.cls) (hfr : 1 ≤ R.frames) (hlo : 30 ≤ R.locals) (hu : u ≤ R.cells) (hw : w ≤ R.slots) {n : Nat} (hn : n < 2 ^ 64)
    (kk : ∀ (v : Nat) (ls : Array Slot), v = (if zr_nmN n = true then 1 else 0) → W p l e R s m args below meth c H locs u w Q (F0 m 127 ls [.int (nI v)])) :
    ∀ (k i en ok : Nat) (ls : Array Slot), i + k = 8 → zn_I n i en ok → lv_has ls 7 [(4, .int (nI i)), (3, .int (nI ok)), (2, .int (nI en)), (0, .long (lN n))] → W p l e R s m args below meth c H locs u w Q (F0 m 7 ls []) := by
  intro k
  induction k with
  | zero =>
    intro i en ok ls hi hI hl
    have hi : i = 8 := hi
    subst hi
    have hE := zn_I_end hn hI
    obtain ⟨i1, i2, -, -⟩ := hI
    have K0 : ¬ (ok = 1 ∧ 0 < en) → W p l e R s m args below meth c H locs u w Q (F0 m 126 ls []) := fun g => by
      refine lv_iconst (v := nI 0) (n := 0) hx hb (by decide +kernel) (by decide) ?_
      exact kk 0 ls (by rw [if_neg (mt hE.mp g)])
    refine lv_iload hx hb (by decide +kernel) (lv_at hl 0 rfl) ?_
    refine lv_bipush (v := nI 8) (n := 8) hx hb (by decide +kernel) (by decide) ?_
    refine lv_icmp_ge (tgt := 114) (off := 103) hx hb (by decide +kernel) (by decide) (fun _ => ?_) (fun q => absurd (Int32.le_refl _) q)
    refine lv_iload_n hx hb (k := 3) (by decide +kernel) rfl (lv_at hl 1 rfl) ?_
    refine lv_if_eq (tgt := 126) (off := 11) hx hb (by decide +kernel) (by decide) (fun g => ?_) (fun g => ?_)
    · refine K0 (fun q => ?_)
      rw [q.1] at g; exact absurd g (by decide)
    have h1 : ok = 1 := by
      by_cases h9 : ok = 0
      · rw [h9] at g; exact absurd nI_0 g
      · omega
    refine lv_iload_n hx hb (k := 2) (by decide +kernel) rfl (lv_at hl 2 rfl) ?_
    refine lv_if_le (tgt := 126) (off := 7) hx hb (by decide +kernel) (by decide) (fun g => ?_) (fun g => ?_)
    · exact K0 (fun q => absurd g (nI_nle q.2 (by omega)))
    have h2 : 0 < en := by
      rcases Nat.eq_zero_or_pos en with h9 | h9
      · rw [h9] at g; exact absurd (by decide) g
      · exact h9
    refine lv_iconst (v := nI 1) (n := 1) hx hb (by decide +kernel) (by decide) ?_
    refine lv_goto (tgt := 127) (off := 4) hx hb (by decide +kernel) (by decide) ?_
    exact kk 1 ls (by rw [if_pos (hE.mpr ⟨h1, h2⟩)])
  | succ k ih =>
    intro i en ok ls hi hI hl
    have hin : i < 8 := by omega
    have hst := zn_I_step hin hI
    obtain ⟨i1, i2, -, -⟩ := hI
    refine lv_iload hx hb (by decide +kernel) (lv_at hl 0 rfl) ?_
    refine lv_bipush (v := nI 8) (n := 8) hx hb (by decide +kernel) (by decide) ?_
    refine lv_icmp_ge (tgt := 114) (off := 103) hx hb (by decide +kernel) (by decide) (fun q => absurd q (nI_ge hin (by decide))) (fun _ => ?_)
    refine lv_lload_n hx hb (k := 0) (by decide +kernel) rfl (lv_at hl 3 rfl) ?_
    refine lv_bipush (v := nI 8) (n := 8) hx hb (by decide +kernel) (by decide) ?_
    refine lv_iload hx hb (by decide +kernel) (lv_at hl 0 rfl) ?_
    refine lv_imul hx hb (by decide +kernel) ?_
    rw [show nI 8 * nI i = nI (8 * i) from (Int32.ofNat_mul 8 i).symm]
    refine lv_lushr (v := lN (n / 256 ^ i)) hx hb (by decide +kernel) (by rw [zn_shr hn (by omega), zn_256]) ?_
    refine lv_ldc2 (own := "StubHouseModel") (index := 147) (v := lN 255) hx hb hown (hts _ (zk_h_eq (n := 2814) (by decide +kernel) rfl rfl)) (by decide +kernel) ?_
    refine lv_land hx hb (by decide +kernel) ?_
    rw [zn_and]
    refine lv_l2i (v := nI (n / 256 ^ i % 256)) hx hb (by decide +kernel) (lN_i _) ?_
    have hc : n / 256 ^ i % 256 < 256 := Nat.mod_lt _ (by decide)
    generalize n / 256 ^ i % 256 = cb at hst hc ⊢
    refine lv_istore (lv' := [(5, .int (nI cb)), (4, .int (nI i)), (3, .int (nI ok)), (2, .int (nI en)), (0, .long (lN n))]) hx hb (by decide +kernel) hl (by decide) rfl (fun ls hl => ?_)
    refine zn_m_a hx hb hml hts hown hfr hlo hu hw hc hl (fun ls hl => ?_)
    have hf : (if zr_sign cb = true then 1 else 0) < 2 := by split <;> decide
    generalize (if zr_sign cb = true then 1 else 0) = f at hf hst hl
    refine zn_m_b hx hb hc (by omega) (by omega) i2 hf hl (fun ls hl => ?_)
    generalize (if ok = 1 ∧ (f = 1 ∧ en = i ∨ f = 0 ∧ cb = 0) then 1 else 0) = ok2 at hst hl
    refine zn_m_c hx hb hf hl (fun ls hl => ?_)
    generalize (if f = 1 then i + 1 else en) = en2 at hst hl
    refine lv_iinc (k := 4) (v := nI (i + 1)) (lv' := [(4, .int (nI (i + 1))), (2, .int (nI en2)), (3, .int (nI ok2)), (6, .int (nI f)), (5, .int (nI cb)), (0, .long (lN n))]) (n := 1) hx hb (by decide +kernel) hl rfl (nI_1 i) (by decide) rfl (fun ls hl => ?_)
    refine lv_goto (tgt := 7) (off := -104) hx hb (by decide +kernel) (by decide) ?_
    exact ih (i + 1) en2 ok2 ls (by omega) hst (lv_sub hl [0, 2, 1, 5] rfl)
end ZN2
theorem zn_model : zk_nm ⟨"StubHouseModel", "isName", "(J)Z"⟩ prog_14_method_13_code 7 := by
  intro l x
  refine Met.ofW (cc := prog_14_method_13_code) (maxL := 7) (ret := some .boolean) (by decide) rfl ?_
  intro p e s m args below meth c s₁ B hml hv
  obtain ⟨rfl, -⟩ := hv
  have hx := B.exec
  have hb := B.bytes
  have hr := B.returns
  have hts := atoms_spec (ws := Cond.code ⟨"StubHouseModel", "isName", "(J)Z"⟩ prog_14_method_13_code 7 (some .boolean) :: zk_T) B.pre
  have hown : s.vm.findClass "StubHouseModel" = some m.cls := findClass_of_methodNamed B.named
  have hlocks : meth.locks = false := B.notSynchronized
  have hl := lv_entry ([.long x]) (n := 7) (Nat.le_of_ble_eq_true rfl)
  rw [lg_entry_eq]
  generalize (lg_sl ([.long x]) ++ List.replicate (7 - (lg_sl ([.long x])).length) Slot.unset).toArray = ls at hl ⊢
  have hl : lv_has ls 7 [(0, .long x)] := hl
  have hn : x.toBitVec.toNat < 2 ^ 64 := x.toBitVec.isLt
  refine lv_iconst (v := nI 0) (n := 0) hx hb (by decide +kernel) (by decide) ?_
  refine lv_istore_n (k := 2) (lv' := [(2, .int (nI 0)), (0, .long x)]) hx hb (by decide +kernel) rfl hl (by decide) rfl (fun ls hl => ?_)
  refine lv_iconst (v := nI 1) (n := 1) hx hb (by decide +kernel) (by decide) ?_
  refine lv_istore_n (k := 3) (lv' := [(3, .int (nI 1)), (2, .int (nI 0)), (0, .long x)]) hx hb (by decide +kernel) rfl hl (by decide) rfl (fun ls hl => ?_)
  refine lv_iconst (v := nI 0) (n := 0) hx hb (by decide +kernel) (by decide) ?_
  refine lv_istore (lv' := [(4, .int (nI 0)), (3, .int (nI 1)), (2, .int (nI 0)), (0, .long x)]) hx hb (by decide +kernel) hl (by decide) rfl (fun ls hl => ?_)
  refine zn_m_loop hx hb hml (fun w hw => hts w (List.mem_cons_of_mem _ hw)) hown (by decide) (by decide) (by decide) (by decide) hn ?_ 8 0 0 1 ls rfl ⟨by decide, by decide, fun _ => ⟨fun j hj => absurd hj (Nat.not_lt_zero j), fun j _ hj => absurd hj (Nat.not_lt_zero j)⟩, fun q => absurd q (by decide)⟩ (by rw [← zn_of x]; exact hl)
  intro v ls hv
  refine W.zret hx hb hr ?_ (fun t ht _ => ⟨?_, ht⟩) (fun q h => by cases h) (by decide +kernel)
  · rw [hv]; split <;> decide
  · show Outcome.returned (some (Value.int (nI v))) = Outcome.returned (some (Value.int (if zr_nmN x.toBitVec.toNat = true then 1 else 0)))
    rw [hv]; split <;> rfl
