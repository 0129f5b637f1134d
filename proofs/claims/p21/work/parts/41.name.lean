/-! the two checks of a name -/
theorem zn_of (x : Int64) : x = lN x.toBitVec.toNat := by
  apply Int64.toBitVec_inj.mp
  show x.toBitVec = BitVec.ofNat 64 x.toBitVec.toNat
  exact (BitVec.ofNat_toNat 64 x.toBitVec ▸ by simp)
theorem zn_63 : ∀ t, t < 64 → ((nI t).toInt64.toUInt64 &&& Int64.toUInt64 63) = UInt64.ofNat t := by decide +kernel
theorem zn_shr {k t : Nat} (hk : k < 2 ^ 64) (ht : t < 64) : ((lN k).toUInt64 >>> ((nI t).toInt64.toUInt64 &&& Int64.toUInt64 63)).toInt64 = lN (k / 2 ^ t) := by
  rw [zn_63 t ht]
  have e1 : (lN k).toUInt64 = UInt64.ofNat k := rfl
  have e2 : UInt64.ofNat k >>> UInt64.ofNat t = UInt64.ofNat (k / 2 ^ t) := by
    apply UInt64.toNat_inj.mp
    have h3 : k / 2 ^ t < 2 ^ 64 := Nat.lt_of_le_of_lt (Nat.div_le_self _ _) hk
    rw [UInt64.toNat_shiftRight, UInt64.toNat_ofNat', UInt64.toNat_ofNat', UInt64.toNat_ofNat', Nat.mod_eq_of_lt hk, Nat.mod_eq_of_lt h3, Nat.mod_eq_of_lt (show t < 2 ^ 64 by omega), Nat.mod_eq_of_lt ht, Nat.shiftRight_eq_div_pow]
  rw [e1, e2]
  rfl
theorem zn_and (k : Nat) : lN k &&& lN 255 = lN (k % 256) := by
  apply Int64.toBitVec_inj.mp
  rw [Int64.toBitVec_and]
  apply BitVec.eq_of_toNat_eq
  rw [BitVec.toNat_and]
  show (k % 2 ^ 64) &&& (255 % 2 ^ 64) = (k % 256) % 2 ^ 64
  have h := Nat.and_two_pow_sub_one_eq_mod (k % 2 ^ 64) 8
  have h : (k % 2 ^ 64) &&& 255 = k % 2 ^ 64 % 256 := h
  rw [show 255 % 2 ^ 64 = 255 from rfl, h]
  omega
theorem zn_0 {k : Nat} (hk : k < 2 ^ 64) : lN k = 0 ↔ k = 0 := by
  constructor
  · intro h
    have h2 : (lN k).toBitVec.toNat = (0 : Int64).toBitVec.toNat := by rw [h]
    have h3 : k % 2 ^ 64 = 0 := h2
    omega
  · intro h; rw [h]; rfl
theorem zn_256 (i : Nat) : 2 ^ (8 * i) = 256 ^ i := by
  rw [Nat.pow_mul]
theorem zn_div (n i : Nat) : n / 256 ^ i / 256 = n / 256 ^ (i + 1) := by
  rw [Nat.div_div_eq_div_mul, Nat.pow_succ]
theorem zn_zero {n : Nat} (hn : n < 2 ^ 64) : ∀ (k j : Nat), j + k = 8 → (∀ t, j ≤ t → t < 8 → n / 256 ^ t % 256 = 0) → n / 256 ^ j = 0
  | 0, j, hj, _ => by
    have hj : j = 8 := hj
    subst hj
    exact Nat.div_eq_of_lt hn
  | k + 1, j, hj, h => by
    have h1 := zn_zero hn k (j + 1) (by omega) (fun t h2 h3 => h t (by omega) h3)
    have h2 := h j (Nat.le_refl j) (by omega)
    rw [← zn_div] at h1
    omega
theorem zn_mono {n e i : Nat} (hei : e ≤ i) (h : n / 256 ^ e = 0) : n / 256 ^ i = 0 := by
  have h1 : n / 256 ^ i ≤ n / 256 ^ e := Nat.div_le_div_left (Nat.pow_le_pow_right (by decide) hei) (Nat.pow_pos (by decide))
  rw [h] at h1
  exact Nat.le_zero.mp h1
theorem zn_true {n : Nat} (h0 : n ≠ 0) (h : ∀ j, j < 8 → n / 256 ^ j = 0 ∨ zr_sign (n / 256 ^ j % 256) = true) : zr_nmN n = true := by
  unfold zr_nmN
  rw [zx_nbeq.mpr h0]
  refine List.all_eq_true.mpr (fun j hj => ?_)
  rcases h j (List.mem_range.mp hj) with g | g
  · rw [g]; rfl
  · rw [g]; exact Bool.or_true _
theorem zn_false {n j : Nat} (hj : j < 8) (h1 : n / 256 ^ j ≠ 0) (h2 : zr_sign (n / 256 ^ j % 256) = false) : zr_nmN n = false := by
  apply Bool.eq_false_iff.mpr
  intro h
  have h := (Bool.and_eq_true_iff.mp h).2
  have h := List.all_eq_true.mp h j (List.mem_range.mpr hj)
  rw [zx_nbeq.mpr h1, h2] at h
  exact absurd h (by decide)
theorem zn_sign (c : Nat) : zr_sign c = true ↔ (97 ≤ c ∧ c ≤ 122) ∨ (48 ≤ c ∧ c ≤ 57) := by
  unfold zr_sign
  simp only [Bool.or_eq_true, Bool.and_eq_true, zx_ble]
theorem zn_nsign {c : Nat} (h : ¬ ((97 ≤ c ∧ c ≤ 122) ∨ (48 ≤ c ∧ c ≤ 57))) : zr_sign c = false := Bool.eq_false_iff.mpr (fun q => h ((zn_sign c).mp q))
section ZN
variable {p : Program} {l : Launch} {e : Env} {R : Room} {s : State} {m : MethodId} {args : Array Value} {below : List Frame} {meth : Method} {c : Code} {Q : State → Prop} {u w : Nat} {H : Heap} {locs : List Loc}
theorem zn_tree_a (hx : p.tables.exec = Jvm.exec) (hb : c.code = prog_11_method_3_code) {k i : Nat} {r x : Int64} (hk : k < 256) {ls : Array Slot} (hl : lv_has ls 8 [(5, .int (nI k)), (4, .int (nI i)), (2, .long r), (0, .long x)])
    (kk : ∀ ls : Array Slot, lv_has ls 8 [(6, .int (nI (if 97 ≤ k ∧ k ≤ 122 then 1 else 0))), (5, .int (nI k)), (4, .int (nI i)), (2, .long r), (0, .long x)] → W p l e R s m args below meth c H locs u w Q (F0 m 55 ls [])) : W p l e R s m args below meth c H locs u w Q (F0 m 34 ls []) := by
  have K0 : ¬ (97 ≤ k ∧ k ≤ 122) → W p l e R s m args below meth c H locs u w Q (F0 m 52 ls []) := fun g => by
    refine lv_iconst (v := nI 0) (n := 0) hx hb (by decide +kernel) (by decide) ?_
    refine lv_istore (lv' := [(6, .int (nI 0)), (5, .int (nI k)), (4, .int (nI i)), (2, .long r), (0, .long x)]) hx hb (by decide +kernel) hl (by decide) rfl (fun ls hl => ?_)
    exact kk ls (by rw [if_neg g]; exact hl)
  refine lv_iload hx hb (by decide +kernel) (lv_at hl 0 rfl) ?_
  refine lv_bipush (v := nI 97) (n := 97) hx hb (by decide +kernel) (by decide) ?_
  refine lv_icmp_lt (tgt := 52) (off := 14) hx hb (by decide +kernel) (by decide) (fun g => ?_) (fun g => ?_)
  · have g := (nI_ltI (by omega) (by omega)).mp g
    exact K0 (by omega)
  have g1 : 97 ≤ k := by
    have := mt (nI_ltI (by omega) (by omega)).mpr g
    omega
  refine lv_iload hx hb (by decide +kernel) (lv_at hl 0 rfl) ?_
  refine lv_bipush (v := nI 122) (n := 122) hx hb (by decide +kernel) (by decide) ?_
  refine lv_icmp_gt (tgt := 52) (off := 7) hx hb (by decide +kernel) (by decide) (fun g => ?_) (fun g => ?_)
  · have g := (nI_ltI (by omega) (by omega)).mp g
    exact K0 (by omega)
  have g2 : k ≤ 122 := by
    have := mt (nI_ltI (by omega) (by omega)).mpr g
    omega
  refine lv_iconst (v := nI 1) (n := 1) hx hb (by decide +kernel) (by decide) ?_
  refine lv_goto (tgt := 53) (off := 4) hx hb (by decide +kernel) (by decide) ?_
  refine lv_istore (lv' := [(6, .int (nI 1)), (5, .int (nI k)), (4, .int (nI i)), (2, .long r), (0, .long x)]) hx hb (by decide +kernel) hl (by decide) rfl (fun ls hl => ?_)
  exact kk ls (by rw [if_pos ⟨g1, g2⟩]; exact hl)
theorem zn_tree_b (hx : p.tables.exec = Jvm.exec) (hb : c.code = prog_11_method_3_code) {k i f : Nat} {r x : Int64} (hk : k < 256) {ls : Array Slot} (hl : lv_has ls 8 [(6, .int (nI f)), (5, .int (nI k)), (4, .int (nI i)), (2, .long r), (0, .long x)])
    (kk : ∀ ls : Array Slot, lv_has ls 8 [(7, .int (nI (if 48 ≤ k ∧ k ≤ 57 then 1 else 0))), (6, .int (nI f)), (5, .int (nI k)), (4, .int (nI i)), (2, .long r), (0, .long x)] → W p l e R s m args below meth c H locs u w Q (F0 m 76 ls [])) : W p l e R s m args below meth c H locs u w Q (F0 m 55 ls []) := by
  have K0 : ¬ (48 ≤ k ∧ k ≤ 57) → W p l e R s m args below meth c H locs u w Q (F0 m 73 ls []) := fun g => by
    refine lv_iconst (v := nI 0) (n := 0) hx hb (by decide +kernel) (by decide) ?_
    refine lv_istore (lv' := [(7, .int (nI 0)), (6, .int (nI f)), (5, .int (nI k)), (4, .int (nI i)), (2, .long r), (0, .long x)]) hx hb (by decide +kernel) hl (by decide) rfl (fun ls hl => ?_)
    exact kk ls (by rw [if_neg g]; exact hl)
  refine lv_iload hx hb (by decide +kernel) (lv_at hl 1 rfl) ?_
  refine lv_bipush (v := nI 48) (n := 48) hx hb (by decide +kernel) (by decide) ?_
  refine lv_icmp_lt (tgt := 73) (off := 14) hx hb (by decide +kernel) (by decide) (fun g => ?_) (fun g => ?_)
  · have g := (nI_ltI (by omega) (by omega)).mp g
    exact K0 (by omega)
  have g1 : 48 ≤ k := by
    have := mt (nI_ltI (by omega) (by omega)).mpr g
    omega
  refine lv_iload hx hb (by decide +kernel) (lv_at hl 1 rfl) ?_
  refine lv_bipush (v := nI 57) (n := 57) hx hb (by decide +kernel) (by decide) ?_
  refine lv_icmp_gt (tgt := 73) (off := 7) hx hb (by decide +kernel) (by decide) (fun g => ?_) (fun g => ?_)
  · have g := (nI_ltI (by omega) (by omega)).mp g
    exact K0 (by omega)
  have g2 : k ≤ 57 := by
    have := mt (nI_ltI (by omega) (by omega)).mpr g
    omega
  refine lv_iconst (v := nI 1) (n := 1) hx hb (by decide +kernel) (by decide) ?_
  refine lv_goto (tgt := 74) (off := 4) hx hb (by decide +kernel) (by decide) ?_
  refine lv_istore (lv' := [(7, .int (nI 1)), (6, .int (nI f)), (5, .int (nI k)), (4, .int (nI i)), (2, .long r), (0, .long x)]) hx hb (by decide +kernel) hl (by decide) rfl (fun ls hl => ?_)
  exact kk ls (by rw [if_pos ⟨g1, g2⟩]; exact hl)
theorem zn_tree_loop (hx : p.tables.exec = Jvm.exec) (hb : c.code = prog_11_method_3_code) (hts : ∀ w ∈ zk_T, w.before args s = true) (hown : s.vm.findClass "StubHouse$Tree" = some m.cls) {n : Nat} (hn : n < 2 ^ 64) (hn0 : n ≠ 0) {x : Int64} (k1 : zr_nmN n = true → ∀ ls : Array Slot, W p l e R s m args below meth c H locs u w Q (F0 m 99 ls [])) (k0 : zr_nmN n = false → ∀ ls : Array Slot, W p l e R s m args below meth c H locs u w Q (F0 m 86 ls [])) :
    ∀ (k i : Nat) (ls : Array Slot), i + k = 8 → (∀ j, j < i → zr_sign (n / 256 ^ j % 256) = true) → lv_has ls 8 [(4, .int (nI i)), (2, .long (lN (n / 256 ^ i))), (0, .long x)] → W p l e R s m args below meth c H locs u w Q (F0 m 13 ls []) := by
  intro k
  induction k with
  | zero =>
    intro i ls hi hs hl
    have hi : i = 8 := hi
    subst hi
    refine lv_iload hx hb (by decide +kernel) (lv_at hl 0 rfl) ?_
    refine lv_bipush (v := nI 8) (n := 8) hx hb (by decide +kernel) (by decide) ?_
    refine lv_icmp_ge (tgt := 99) (off := 82) hx hb (by decide +kernel) (by decide) (fun _ => ?_) (fun q => absurd (Int32.le_refl _) q)
    exact k1 (zn_true hn0 (fun j hj => Or.inr (hs j hj))) ls
  | succ k ih =>
    intro i ls hi hs hl
    have hin : i < 8 := by omega
    have hr : n / 256 ^ i < 2 ^ 64 := Nat.lt_of_le_of_lt (Nat.div_le_self _ _) hn
    refine lv_iload hx hb (by decide +kernel) (lv_at hl 0 rfl) ?_
    refine lv_bipush (v := nI 8) (n := 8) hx hb (by decide +kernel) (by decide) ?_
    refine lv_icmp_ge (tgt := 99) (off := 82) hx hb (by decide +kernel) (by decide) (fun q => absurd q (nI_ge hin (by decide))) (fun _ => ?_)
    refine lv_lload_n hx hb (k := 2) (by decide +kernel) rfl (lv_at hl 1 rfl) ?_
    refine lv_lconst (v := 0) (n := 0) hx hb (by decide +kernel) (by decide) ?_
    refine W.lcmp hx hb (by decide +kernel) ?_
    refine lv_if_eq (tgt := 99) (off := 76) hx hb (by decide +kernel) (by decide) (fun g => ?_) (fun g => ?_)
    · have g := (zn_0 hr).mp ((lg_cmp_eq _ _).mp g)
      refine k1 (zn_true hn0 (fun j hj => ?_)) ls
      by_cases hji : j < i
      · exact Or.inr (hs j hji)
      · exact Or.inl (zn_mono (by omega) g)
    have hr0 : n / 256 ^ i ≠ 0 := fun q => g ((lg_cmp_eq _ _).mpr ((zn_0 hr).mpr q))
    refine lv_lload_n hx hb (k := 2) (by decide +kernel) rfl (lv_at hl 1 rfl) ?_
    refine lv_ldc2 (own := "StubHouse$Tree") (index := 34) (v := lN 255) hx hb hown (hts _ (zk_h_eq (n := 921) (by decide +kernel) rfl rfl)) (by decide +kernel) ?_
    refine lv_land hx hb (by decide +kernel) ?_
    rw [zn_and]
    refine lv_l2i (v := nI (n / 256 ^ i % 256)) hx hb (by decide +kernel) (lN_i _) ?_
    refine lv_istore (lv' := [(5, .int (nI (n / 256 ^ i % 256))), (4, .int (nI i)), (2, .long (lN (n / 256 ^ i))), (0, .long x)]) hx hb (by decide +kernel) hl (by decide) rfl (fun ls hl => ?_)
    have hc : n / 256 ^ i % 256 < 256 := Nat.mod_lt _ (by decide)
    refine zn_tree_a hx hb hc hl (fun ls hl => ?_)
    refine zn_tree_b hx hb hc hl (fun ls hl => ?_)
    have K88 : zr_sign (n / 256 ^ i % 256) = true → W p l e R s m args below meth c H locs u w Q (F0 m 88 ls []) := fun hsg => by
      refine lv_lload_n hx hb (k := 2) (by decide +kernel) rfl (lv_at hl 4 rfl) ?_
      refine lv_bipush (v := nI 8) (n := 8) hx hb (by decide +kernel) (by decide) ?_
      refine lv_lushr (v := lN (n / 256 ^ (i + 1))) hx hb (by decide +kernel) (by rw [zn_shr hr (by decide), ← zn_div]) ?_
      refine lv_lstore_n (k := 2) (lv' := [(2, .long (lN (n / 256 ^ (i + 1)))), (7, .int (nI (if 48 ≤ n / 256 ^ i % 256 ∧ n / 256 ^ i % 256 ≤ 57 then 1 else 0))), (6, .int (nI (if 97 ≤ n / 256 ^ i % 256 ∧ n / 256 ^ i % 256 ≤ 122 then 1 else 0))), (5, .int (nI (n / 256 ^ i % 256))), (4, .int (nI i)), (0, .long x)]) hx hb (by decide +kernel) rfl hl (by decide) rfl (fun ls hl => ?_)
      refine lv_iinc (k := 4) (v := nI (i + 1)) (lv' := [(4, .int (nI (i + 1))), (2, .long (lN (n / 256 ^ (i + 1)))), (7, .int (nI (if 48 ≤ n / 256 ^ i % 256 ∧ n / 256 ^ i % 256 ≤ 57 then 1 else 0))), (6, .int (nI (if 97 ≤ n / 256 ^ i % 256 ∧ n / 256 ^ i % 256 ≤ 122 then 1 else 0))), (5, .int (nI (n / 256 ^ i % 256))), (0, .long x)]) (n := 1) hx hb (by decide +kernel) hl rfl (nI_1 i) (by decide) rfl (fun ls hl => ?_)
      refine lv_goto (tgt := 13) (off := -83) hx hb (by decide +kernel) (by decide) ?_
      refine ih (i + 1) ls (by omega) (fun j hj => ?_) (lv_sub hl [0, 1, 5] rfl)
      by_cases hji : j = i
      · rw [hji]; exact hsg
      · exact hs j (by omega)
    refine lv_iload hx hb (by decide +kernel) (lv_at hl 1 rfl) ?_
    refine lv_if_ne (tgt := 88) (off := 10) hx hb (by decide +kernel) (by decide) (fun g => ?_) (fun g1 => ?_)
    · refine K88 ((zn_sign _).mpr (Or.inl ?_))
      by_cases h9 : 97 ≤ n / 256 ^ i % 256 ∧ n / 256 ^ i % 256 ≤ 122
      · exact h9
      · rw [if_neg h9] at g; exact absurd nI_0 g
    refine lv_iload hx hb (by decide +kernel) (lv_at hl 0 rfl) ?_
    refine lv_if_ne (tgt := 88) (off := 5) hx hb (by decide +kernel) (by decide) (fun g => ?_) (fun g2 => ?_)
    · refine K88 ((zn_sign _).mpr (Or.inr ?_))
      by_cases h9 : 48 ≤ n / 256 ^ i % 256 ∧ n / 256 ^ i % 256 ≤ 57
      · exact h9
      · rw [if_neg h9] at g; exact absurd nI_0 g
    refine k0 (zn_false hin hr0 (zn_nsign ?_)) ls
    rintro (h9 | h9)
    · rw [if_pos h9] at g1; exact absurd g1 (by decide)
    · rw [if_pos h9] at g2; exact absurd g2 (by decide)
end ZN
theorem zn_tree : zk_nm ⟨"StubHouse$Tree", "isName", "(J)Z"⟩ prog_11_method_3_code 8 := by
  intro l x
  refine Met.ofW (cc := prog_11_method_3_code) (maxL := 8) (ret := some .boolean) (by decide) rfl ?_
  intro p e s m args below meth c s₁ B hml hv
  obtain ⟨rfl, -⟩ := hv
  have hx := B.exec
  have hb := B.bytes
  have hr := B.returns
  have hts := atoms_spec (ws := Cond.code ⟨"StubHouse$Tree", "isName", "(J)Z"⟩ prog_11_method_3_code 8 (some .boolean) :: zk_T) B.pre
  have hown : s.vm.findClass "StubHouse$Tree" = some m.cls := findClass_of_methodNamed B.named
  have hlocks : meth.locks = false := B.notSynchronized
  have hl := lv_entry ([.long x]) (n := 8) (Nat.le_of_ble_eq_true rfl)
  rw [lg_entry_eq]
  generalize (lg_sl ([.long x]) ++ List.replicate (8 - (lg_sl ([.long x])).length) Slot.unset).toArray = ls at hl ⊢
  have hl : lv_has ls 8 [(0, .long x)] := hl
  have hn : x.toBitVec.toNat < 2 ^ 64 := x.toBitVec.isLt
  have hq : ∀ (v : Int32), v = (if zr_nm x = true then 1 else 0) → ∀ t : State, t.heap = s.heap → s.WarmedH t.vm → (fun (_ : Array Value) (st0 : State) (oc : Outcome) (t : State) => oc = .returned (some (.int (if zr_nm x = true then 1 else 0))) ∧ t.heap = st0.heap) ([Value.long x] : List Value).toArray s (.returned (some (.int v))) t := fun v hv t ht _ => ⟨by rw [hv], ht⟩
  have k1 : zr_nm x = true → ∀ ls : Array Slot, W p l e { frames := 1, cells := 0, slots := 0, locals := 30 } s m ([Value.long x] : List Value).toArray below meth c s.heap [] 0 0 (MQ below (fun _ st0 oc t => oc = .returned (some (.int (if zr_nm x = true then 1 else 0))) ∧ t.heap = st0.heap) ([Value.long x] : List Value).toArray s 0 0 (fun _ => False)) (F0 m 99 ls []) := fun h ls => by
    refine lv_iconst (v := 1) (n := 1) hx hb (by decide +kernel) (by decide) ?_
    exact W.zret hx hb hr (by decide) (hq 1 (by rw [if_pos h])) (fun q h => by cases h) (by decide +kernel)
  have k0 : ∀ pc, decode prog_11_method_3_code pc = .ok (.iconst 0, 1) → decode prog_11_method_3_code (pc + 1) = .ok (.ireturn, 1) → zr_nm x = false → ∀ ls : Array Slot, W p l e { frames := 1, cells := 0, slots := 0, locals := 30 } s m ([Value.long x] : List Value).toArray below meth c s.heap [] 0 0 (MQ below (fun _ st0 oc t => oc = .returned (some (.int (if zr_nm x = true then 1 else 0))) ∧ t.heap = st0.heap) ([Value.long x] : List Value).toArray s 0 0 (fun _ => False)) (F0 m pc ls []) := fun pc d1 d2 h ls => by
    refine lv_iconst (v := 0) (n := 0) hx hb d1 (by decide) ?_
    exact W.zret hx hb hr (by decide) (hq 0 (by rw [if_neg (by rw [h]; decide)])) (fun q h => by cases h) d2
  refine lv_lload_n hx hb (k := 0) (by decide +kernel) rfl (lv_at hl 0 rfl) ?_
  refine lv_lconst (v := 0) (n := 0) hx hb (by decide +kernel) (by decide) ?_
  refine W.lcmp hx hb (by decide +kernel) ?_
  refine lv_if_ne (tgt := 8) (off := 5) hx hb (by decide +kernel) (by decide) (fun g => ?_) (fun g => ?_)
  · have hn0 : x.toBitVec.toNat ≠ 0 := fun q => g ((lg_cmp_eq _ _).mpr (by rw [zn_of x, q]; rfl))
    refine lv_lload_n hx hb (k := 0) (by decide +kernel) rfl (lv_at hl 0 rfl) ?_
    refine lv_lstore_n (k := 2) (lv' := [(2, .long x), (0, .long x)]) hx hb (by decide +kernel) rfl hl (by decide) rfl (fun ls hl => ?_)
    refine lv_iconst (v := nI 0) (n := 0) hx hb (by decide +kernel) (by decide) ?_
    refine lv_istore (lv' := [(4, .int (nI 0)), (2, .long x), (0, .long x)]) hx hb (by decide +kernel) hl (by decide) rfl (fun ls hl => ?_)
    refine zn_tree_loop hx hb (fun w hw => hts w (List.mem_cons_of_mem _ hw)) hown hn hn0 k1 (k0 86 (by decide +kernel) (by decide +kernel)) 8 0 ls rfl (fun j hj => absurd hj (Nat.not_lt_zero j)) ?_ (x := x)
    rw [Nat.pow_zero, Nat.div_one, ← zn_of x]
    exact hl
  · have g := (lg_cmp_eq x 0).mp g
    refine k0 6 (by decide +kernel) (by decide +kernel) ?_ ls
    rw [g]; decide
