/-! contracts of the reference: tapes -/
theorem c_StubHouseModel_tapeByte {l : Launch} {k : fxK} {S : fxS} {t : Int} {p : Int} (p0 : 0 ≤ t ∧ t ≤ 5) (p1 : 0 ≤ p ∧ p < 6000) (hk : ∀ (r : Int) , (r = tB S t p ∧ 0 ≤ r ∧ r ≤ 255) → k (some (.inl r)) S) : fC l 63 [.inr (.inr (49, 0)), .inl t, .inl p] S k := by
  refine fxe_63 (Nat.le_of_ble_eq_true rfl) (fxz_63 400 ?_)
  refine And.intro (show -2147483648 ≤ ((6000 : Int) * t) ∧ ((6000 : Int) * t) < 2147483648 by omega) ?_
  refine And.intro (show -2147483648 ≤ (((6000 : Int) * t) + p) ∧ (((6000 : Int) * t) + p) < 2147483648 by omega) ?_
  refine And.intro (show 0 ≤ (((6000 : Int) * t) + p) ∧ (((6000 : Int) * t) + p) < 36000 by omega) ?_
  intro z1 (z1a : (-128 : Int) ≤ z1) (z1b : z1 ≤ (127 : Int)) (z1c : z1 = S 62 0 ((((6000 : Int) * t) + p)).toNat)
  refine And.intro (show (0 : Int) ≤ (255 : Int) by omega) ?_
  intro z2 (z2a : 0 ≤ z2) (z2b : z2 ≤ (255 : Int)) z2d
  have z2c : z2 = z1 % 256 := z2d rfl
  exact hk z2 (by exact ⟨by show _ = S 62 0 (6000 * t + p).toNat % 256; omega, by omega, by omega⟩)
theorem z_number2 {l : Launch} {k : fxK} {S : fxS} {t : Int} {p : Int} (p0 : 0 ≤ t ∧ t ≤ 5) (p1 : 0 ≤ p ∧ p + 2 ≤ 6000) (hk : ∀ (r : Int) , (r = nB S t p ∧ 0 ≤ r ∧ r ≤ 65535) → k (some (.inl r)) S) : ∀ m : Nat, (∀ (v j : Int), (0 ≤ j ∧ j ≤ 2) → (v = sN S 62 0 (6000 * t + p) (j).toNat) → (-2147483648 ≤ v ∧ v < 2147483648) → 9 - j ≤ (m : Int) → fZ l 64 k 6 [some (.inr (.inr (49, 0))), some (.inl t), some (.inl p), some (.inl (2 : Int)), some (.inl v), some (.inl j)] [] S) := by
  intro m
  induction m with
  | zero =>
    intro v j  i0 i1 i2 hmu
    exfalso
    omega
  | succ m ih =>
    intro v j  i0 i1 i2 hmu
    refine fxz_64 400 ?_
    refine And.intro (fun (h1 : ((2 : Int) ≤ j : Prop)) => ?_) (fun (h1 : (j < (2 : Int) : Prop)) => ?_)
    ·
      exact hk v (by have e2 : v = nB S t p := (by rw [i1, show j = 2 by omega]; rfl); have e3 := sN_2 S 62 0 (6000 * t + p); exact ⟨e2, by rw [e2]; exact e3.1, by rw [e2]; exact e3.2⟩)
    ·
      refine And.intro (show -2147483648 ≤ (p + j) ∧ (p + j) < 2147483648 by omega) ?_
      refine c_StubHouseModel_tapeByte (t := t) (p := (p + j)) (show 0 ≤ t ∧ t ≤ 5 by omega) (show 0 ≤ (p + j) ∧ (p + j) < 6000 by omega) (fun (z2 : Int) (q3 : z2 = tB S t (p + j) ∧ 0 ≤ z2 ∧ z2 ≤ 255) => ?_)
      have hb : z2 = S 62 0 (6000 * t + (p + j)).toNat % 256 := q3.1
      refine And.intro (show -2147483648 ≤ ((8 : Int) * j) ∧ ((8 : Int) * j) < 2147483648 by omega) ?_
      intro z4 z4a z4b (z4c : z4 = fx_bop 0 z2 ((8 : Int) * j))
      intro z5 z5a z5b (z5c : z5 = fx_bop 2 v z4)
      refine And.intro (by decide) ?_
      refine And.intro (by decide) (And.intro (show -2147483648 ≤ j + (1 : Int) ∧ j + (1 : Int) < 2147483648 by omega) ?_)
      exact ih z5 (j + (1 : Int))  (by first | omega | rfl | (rw [sN_succ (by omega), show 6000 * t + p + j = 6000 * t + (p + j) by omega]; subst_vars; rfl)) (by first | omega | rfl | (rw [sN_succ (by omega), show 6000 * t + p + j = 6000 * t + (p + j) by omega]; subst_vars; rfl)) (by first | omega | rfl | (rw [sN_succ (by omega), show 6000 * t + p + j = 6000 * t + (p + j) by omega]; subst_vars; rfl)) (by omega)
theorem c_number2 {l : Launch} {k : fxK} {S : fxS} {t : Int} {p : Int} (p0 : 0 ≤ t ∧ t ≤ 5) (p1 : 0 ≤ p ∧ p + 2 ≤ 6000) (hk : ∀ (r : Int) , (r = nB S t p ∧ 0 ≤ r ∧ r ≤ 65535) → k (some (.inl r)) S) : fC l 64 [.inr (.inr (49, 0)), .inl t, .inl p, .inl (2 : Int)] S k := by
  refine fxe_64 (Nat.le_of_ble_eq_true rfl) (fxz_64 400 ?_)
  refine And.intro (by decide) ?_
  refine And.intro (by decide) ?_
  exact (z_number2 p0 p1 hk (9 - (0 : Int)).toNat) (0 : Int) (0 : Int)  (by first | omega | rfl | (rw [sN_succ (by omega), show 6000 * t + p + j = 6000 * t + (p + j) by omega]; subst_vars; rfl)) (by first | omega | rfl | (rw [sN_succ (by omega), show 6000 * t + p + j = 6000 * t + (p + j) by omega]; subst_vars; rfl)) (by first | omega | rfl | (rw [sN_succ (by omega), show 6000 * t + p + j = 6000 * t + (p + j) by omega]; subst_vars; rfl)) (by omega)
theorem z_number4 {l : Launch} {k : fxK} {S : fxS} {t : Int} {p : Int} (p0 : 0 ≤ t ∧ t ≤ 5) (p1 : 0 ≤ p ∧ p + 4 ≤ 6000) (hk : ∀ (r : Int) , (-2147483648 ≤ r ∧ r < 2147483648) → k (some (.inl r)) S) : ∀ m : Nat, (∀ (v j : Int), (0 ≤ j ∧ j ≤ 4) → (-2147483648 ≤ v ∧ v < 2147483648) → 9 - j ≤ (m : Int) → fZ l 64 k 6 [some (.inr (.inr (49, 0))), some (.inl t), some (.inl p), some (.inl (4 : Int)), some (.inl v), some (.inl j)] [] S) := by
  intro m
  induction m with
  | zero =>
    intro v j  i0 i1 hmu
    exfalso
    omega
  | succ m ih =>
    intro v j  i0 i1 hmu
    refine fxz_64 400 ?_
    refine And.intro (fun (h1 : ((4 : Int) ≤ j : Prop)) => ?_) (fun (h1 : (j < (4 : Int) : Prop)) => ?_)
    ·
      exact hk v (by omega)
    ·
      refine And.intro (show -2147483648 ≤ (p + j) ∧ (p + j) < 2147483648 by omega) ?_
      refine c_StubHouseModel_tapeByte (t := t) (p := (p + j)) (show 0 ≤ t ∧ t ≤ 5 by omega) (show 0 ≤ (p + j) ∧ (p + j) < 6000 by omega) (fun (z2 : Int) (q3 : z2 = tB S t (p + j) ∧ 0 ≤ z2 ∧ z2 ≤ 255) => ?_)
      have hb : z2 = S 62 0 (6000 * t + (p + j)).toNat % 256 := q3.1
      refine And.intro (show -2147483648 ≤ ((8 : Int) * j) ∧ ((8 : Int) * j) < 2147483648 by omega) ?_
      intro z4 z4a z4b (z4c : z4 = fx_bop 0 z2 ((8 : Int) * j))
      intro z5 z5a z5b (z5c : z5 = fx_bop 2 v z4)
      refine And.intro (by decide) ?_
      refine And.intro (by decide) (And.intro (show -2147483648 ≤ j + (1 : Int) ∧ j + (1 : Int) < 2147483648 by omega) ?_)
      exact ih z5 (j + (1 : Int))  (by first | omega | rfl | (rw [sN_succ (by omega), show 6000 * t + p + j = 6000 * t + (p + j) by omega]; subst_vars; rfl)) (by first | omega | rfl | (rw [sN_succ (by omega), show 6000 * t + p + j = 6000 * t + (p + j) by omega]; subst_vars; rfl)) (by omega)
theorem c_number4 {l : Launch} {k : fxK} {S : fxS} {t : Int} {p : Int} (p0 : 0 ≤ t ∧ t ≤ 5) (p1 : 0 ≤ p ∧ p + 4 ≤ 6000) (hk : ∀ (r : Int) , (-2147483648 ≤ r ∧ r < 2147483648) → k (some (.inl r)) S) : fC l 64 [.inr (.inr (49, 0)), .inl t, .inl p, .inl (4 : Int)] S k := by
  refine fxe_64 (Nat.le_of_ble_eq_true rfl) (fxz_64 400 ?_)
  refine And.intro (by decide) ?_
  refine And.intro (by decide) ?_
  exact (z_number4 p0 p1 hk (9 - (0 : Int)).toNat) (0 : Int) (0 : Int)  (by first | omega | rfl | (rw [sN_succ (by omega), show 6000 * t + p + j = 6000 * t + (p + j) by omega]; subst_vars; rfl)) (by first | omega | rfl | (rw [sN_succ (by omega), show 6000 * t + p + j = 6000 * t + (p + j) by omega]; subst_vars; rfl)) (by omega)
theorem c_StubHouseModel_mixed {l : Launch} {k : fxK} {S : fxS} {h : Int} {b : Int} (p0 : -2147483648 ≤ h ∧ h < 2147483648) (p1 : -2147483648 ≤ b ∧ b < 2147483648) (hk : ∀ (r : Int) , (-2147483648 ≤ r ∧ r < 2147483648) → k (some (.inl r)) S) : fC l 67 [.inl h, .inl b] S k := by
  refine fxe_67 (Nat.le_of_ble_eq_true rfl) (fxz_67 400 ?_)
  intro z1 z1a z1b (z1c : z1 = fx_bop 3 h b)
  intro z2 (z2a : -2147483648 ≤ z2) (z2b : z2 < 2147483648) (z2c : -2147483648 ≤ (z1 * (16777619 : Int)) ∧ (z1 * (16777619 : Int)) < 2147483648 → z2 = (z1 * (16777619 : Int)))
  refine And.intro (by decide) ?_
  intro z3 z3a z3b (z3c : z3 = fx_bop 1 z2 (15 : Int))
  intro z4 z4a z4b (z4c : z4 = fx_bop 3 z2 z3)
  exact hk z4 (by omega)
theorem z_StubHouseModel_check {l : Launch} {k : fxK} {S : fxS} {t : Int} {a : Int} {e : Int} (p0 : 0 ≤ t ∧ t ≤ 5) (p1 : 0 ≤ a ∧ a ≤ 6000) (p2 : e ≤ 6000) (hk : ∀ (r : Int) , (-2147483648 ≤ r ∧ r < 2147483648) → k (some (.inl r)) S) : ∀ m : Nat, (∀ (h j : Int), (0 ≤ j ∧ j ≤ 6000) → (-2147483648 ≤ h ∧ h < 2147483648) → 6001 - j ≤ (m : Int) → fZ l 68 k 7 [some (.inr (.inr (49, 0))), some (.inl t), none, some (.inl e), some (.inl h), some (.inl j)] [] S) := by
  intro m
  induction m with
  | zero =>
    intro h j  i0 i1 hmu
    exfalso
    omega
  | succ m ih =>
    intro h j  i0 i1 hmu
    refine fxz_68 400 ?_
    refine And.intro (fun (h1 : (e ≤ j : Prop)) => ?_) (fun (h1 : (j < e : Prop)) => ?_)
    ·
      exact hk h (by omega)
    ·
      refine c_StubHouseModel_tapeByte (t := t) (p := j) (show 0 ≤ t ∧ t ≤ 5 by omega) (show 0 ≤ j ∧ j < 6000 by omega) (fun (z2 : Int) (q3 : z2 = tB S t j ∧ 0 ≤ z2 ∧ z2 ≤ 255) => ?_)
      refine c_StubHouseModel_mixed (h := h) (b := z2) (show -2147483648 ≤ h ∧ h < 2147483648 by omega) (show -2147483648 ≤ z2 ∧ z2 < 2147483648 by omega) (fun (z4 : Int) (q5 : -2147483648 ≤ z4 ∧ z4 < 2147483648) => ?_)
      refine And.intro (by decide) ?_
      refine And.intro (by decide) (And.intro (show -2147483648 ≤ j + (1 : Int) ∧ j + (1 : Int) < 2147483648 by omega) ?_)
      exact ih z4 (j + (1 : Int))  (by omega) (by omega) (by omega)
theorem c_StubHouseModel_check {l : Launch} {k : fxK} {S : fxS} {t : Int} {a : Int} {e : Int} (p0 : 0 ≤ t ∧ t ≤ 5) (p1 : 0 ≤ a ∧ a ≤ 6000) (p2 : e ≤ 6000) (hk : ∀ (r : Int) , (-2147483648 ≤ r ∧ r < 2147483648) → k (some (.inl r)) S) : fC l 68 [.inr (.inr (49, 0)), .inl t, .inl a, .inl e] S k := by
  refine fxe_68 (Nat.le_of_ble_eq_true rfl) (fxz_68 400 ?_)
  refine And.intro (by decide) ?_
  refine And.intro (by decide) ?_
  exact (z_StubHouseModel_check p0 p1 p2 hk (6001 - a).toNat) (17 : Int) a  (by omega) (by omega) (by omega)
theorem c_StubHouseModel_seg {l : Launch} {k : fxK} {S : fxS} {t : Int} {i : Int} {w : Int} (p0 : 0 ≤ t ∧ t ≤ 5) (p1 : 0 ≤ i ∧ i < 300) (p2 : 0 ≤ w ∧ w < 8) (hk : ∀ (r : Int) , (r = sgN S (300 * t + i) w ∧ -2147483648 ≤ r ∧ r < 2147483648) → k (some (.inl r)) S) : fC l 72 [.inr (.inr (49, 0)), .inl t, .inl i, .inl w] S k := by
  refine fxe_72 (Nat.le_of_ble_eq_true rfl) (fxz_72 400 ?_)
  refine And.intro (show -2147483648 ≤ ((300 : Int) * t) ∧ ((300 : Int) * t) < 2147483648 by omega) ?_
  refine And.intro (show -2147483648 ≤ (((300 : Int) * t) + i) ∧ (((300 : Int) * t) + i) < 2147483648 by omega) ?_
  refine And.intro (show -2147483648 ≤ ((8 : Int) * (((300 : Int) * t) + i)) ∧ ((8 : Int) * (((300 : Int) * t) + i)) < 2147483648 by omega) ?_
  refine And.intro (show -2147483648 ≤ (((8 : Int) * (((300 : Int) * t) + i)) + w) ∧ (((8 : Int) * (((300 : Int) * t) + i)) + w) < 2147483648 by omega) ?_
  refine And.intro (show 0 ≤ (((8 : Int) * (((300 : Int) * t) + i)) + w) ∧ (((8 : Int) * (((300 : Int) * t) + i)) + w) < 14400 by omega) ?_
  intro z1 (z1a : (-2147483648 : Int) ≤ z1) (z1b : z1 ≤ (2147483647 : Int)) (z1c : z1 = S 65 0 ((((8 : Int) * (((300 : Int) * t) + i)) + w)).toNat)
  exact hk z1 (by exact ⟨by assumption, by omega, by omega⟩)
theorem c_StubHouseModel_headSize {l : Launch} {k : fxK} {S : fxS} {d : Int} (p0 : 0 ≤ d ∧ d ≤ 255) (hk : ∀ (r : Int) , (r = 21 + 8 * d) → k (some (.inl r)) S) : fC l 65 [.inl d] S k := by
  refine fxe_65 (Nat.le_of_ble_eq_true rfl) (fxz_65 400 ?_)
  refine And.intro (show -2147483648 ≤ ((8 : Int) * d) ∧ ((8 : Int) * d) < 2147483648 by omega) ?_
  refine And.intro (show -2147483648 ≤ ((21 : Int) + ((8 : Int) * d)) ∧ ((21 : Int) + ((8 : Int) * d)) < 2147483648 by omega) ?_
  exact hk ((21 : Int) + ((8 : Int) * d)) (by omega)
theorem c_StubHouseModel_wholeSize {l : Launch} {k : fxK} {S : fxS} {s : Int} {d : Int} {z : Int} (p0 : 0 ≤ d ∧ d ≤ 255) (p1 : 0 ≤ z ∧ z ≤ 65535) (p2 : -2147483648 ≤ s ∧ s < 2147483648) (hk : ∀ (r : Int) , ((s = 1 → r = 25 + 8 * d + z) ∧ (s ≠ 1 → r = 21 + 8 * d)) → k (some (.inl r)) S) : fC l 66 [.inl s, .inl d, .inl z] S k := by
  refine fxe_66 (Nat.le_of_ble_eq_true rfl) (fxz_66 400 ?_)
  refine c_StubHouseModel_headSize (d := d) (show 0 ≤ d ∧ d ≤ 255 by omega) (fun (z1 : Int) (q2 : z1 = 21 + 8 * d) => ?_)
  refine And.intro (fun (h3 : (s ≠ (1 : Int) : Prop)) => ?_) (fun (h3 : (s = (1 : Int) : Prop)) => ?_)
  ·
    refine And.intro (show -2147483648 ≤ (z1 + (0 : Int)) ∧ (z1 + (0 : Int)) < 2147483648 by omega) ?_
    exact hk (z1 + (0 : Int)) (by omega)
  ·
    refine And.intro (show -2147483648 ≤ (z + (4 : Int)) ∧ (z + (4 : Int)) < 2147483648 by omega) ?_
    refine And.intro (show -2147483648 ≤ (z1 + (z + (4 : Int))) ∧ (z1 + (z + (4 : Int))) < 2147483648 by omega) ?_
    exact hk (z1 + (z + (4 : Int))) (by omega)
theorem z_StubHouseModel_segmentAt {l : Launch} {k : fxK} {S : fxS} {t : Int} {p : Int} (p0 : 0 ≤ t ∧ t ≤ 5) (p1 : 8 ≤ p ∧ p < 6000) (hk : ∀ (r : Int) , (0 ≤ r ∧ (0 < r → 21 ≤ r ∧ p + r ≤ 6000 ∧ 1 ≤ tB S t (p + 1) ∧ tB S t (p + 1) ≤ 2 ∧ 0 ≤ tB S t (p + 14) ∧ tB S t (p + 14) ≤ 5 ∧ 0 ≤ nB S t (p + (21 + 8 * tB S t (p + 14)) - 6) ∧ nB S t (p + (21 + 8 * tB S t (p + 14)) - 6) ≤ 1024 ∧ (tB S t (p + 1) = 1 → r = 25 + 8 * tB S t (p + 14) + nB S t (p + (21 + 8 * tB S t (p + 14)) - 6)) ∧ (tB S t (p + 1) ≠ 1 → r = 21 + 8 * tB S t (p + 14)))) → k (some (.inl r)) S) : ∀ m : Nat, (∀ (e a d j : Int), (p + 21 ≤ e ∧ e ≤ 6000) → (a = tB S t (p + 1) ∧ 1 ≤ a ∧ a ≤ 2) → (d = tB S t (p + 14) ∧ 0 ≤ d ∧ d ≤ 5) → (0 ≤ j ∧ j ≤ 3) → 4 - j ≤ (m : Int) → fZ l 69 k 94 [some (.inr (.inr (49, 0))), some (.inl t), some (.inl p), some (.inl e), some (.inl a), some (.inl d), some (.inl j), none, none] [] S) := by
  intro m
  induction m with
  | zero =>
    intro e a d j  i0 i1 i2 i3 hmu
    exfalso
    omega
  | succ m ih =>
    intro e a d j  i0 i1 i2 i3 hmu
    refine fxz_69 400 ?_
    refine And.intro (fun (h1 : ((3 : Int) ≤ j : Prop)) => ?_) (fun (h1 : (j < (3 : Int) : Prop)) => ?_)
    ·
      refine c_StubHouseModel_headSize (d := d) (show 0 ≤ d ∧ d ≤ 255 by omega) (fun (z2 : Int) (q3 : z2 = 21 + 8 * d) => ?_)
      refine And.intro (by decide) ?_
      refine And.intro (show -2147483648 ≤ (p + z2) ∧ (p + z2) < 2147483648 by omega) ?_
      refine And.intro (fun (h4 : ((p + z2) ≤ e : Prop)) => ?_) (fun (h4 : (e < (p + z2) : Prop)) => ?_)
      ·
        refine And.intro (show -2147483648 ≤ (p + z2) ∧ (p + z2) < 2147483648 by omega) ?_
        refine And.intro (show -2147483648 ≤ ((p + z2) - (6 : Int)) ∧ ((p + z2) - (6 : Int)) < 2147483648 by omega) ?_
        refine c_number2 (t := t) (p := ((p + z2) - (6 : Int))) (show 0 ≤ t ∧ t ≤ 5 by omega) (show 0 ≤ ((p + z2) - (6 : Int)) ∧ ((p + z2) - (6 : Int)) + 2 ≤ 6000 by omega) (fun (z5 : Int) (q6 : z5 = nB S t ((p + z2) - (6 : Int)) ∧ 0 ≤ z5 ∧ z5 ≤ 65535) => ?_)
        have sz : z5 = nB S t (p + (21 + 8 * tB S t (p + 14)) - 6) := by rw [q6.1]; congr 1; omega
        refine And.intro (by decide) ?_
        refine And.intro (fun (h7 : (a ≠ (1 : Int) : Prop)) => ?_) (fun (h7 : (a = (1 : Int) : Prop)) => ?_)
        ·
          refine And.intro (fun (h8 : (z5 = (0 : Int) : Prop)) => ?_) (fun (h8 : (z5 ≠ (0 : Int) : Prop)) => ?_)
          ·
            refine c_StubHouseModel_wholeSize (s := a) (d := d) (z := z5) (show 0 ≤ d ∧ d ≤ 255 by omega) (show 0 ≤ z5 ∧ z5 ≤ 65535 by omega) (show -2147483648 ≤ a ∧ a < 2147483648 by omega) (fun (z9 : Int) (q10 : (a = 1 → z9 = 25 + 8 * d + z5) ∧ (a ≠ 1 → z9 = 21 + 8 * d)) => ?_)
            refine And.intro (by decide) ?_
            refine And.intro (show -2147483648 ≤ (p + z9) ∧ (p + z9) < 2147483648 by omega) ?_
            refine And.intro (fun (h11 : (e < (p + z9) : Prop)) => ?_) (fun (h11 : ((p + z9) ≤ e : Prop)) => ?_)
            ·
              exact hk (0 : Int) (by omega)
            ·
              refine And.intro (show -2147483648 ≤ (p + z2) ∧ (p + z2) < 2147483648 by omega) ?_
              refine And.intro (show -2147483648 ≤ ((p + z2) - (4 : Int)) ∧ ((p + z2) - (4 : Int)) < 2147483648 by omega) ?_
              refine c_StubHouseModel_check (t := t) (a := p) (e := ((p + z2) - (4 : Int))) (show 0 ≤ t ∧ t ≤ 5 by omega) (show 0 ≤ p ∧ p ≤ 6000 by omega) (show ((p + z2) - (4 : Int)) ≤ 6000 by omega) (fun (z12 : Int) (q13 : -2147483648 ≤ z12 ∧ z12 < 2147483648) => ?_)
              refine And.intro (show -2147483648 ≤ (p + z2) ∧ (p + z2) < 2147483648 by omega) ?_
              refine And.intro (show -2147483648 ≤ ((p + z2) - (4 : Int)) ∧ ((p + z2) - (4 : Int)) < 2147483648 by omega) ?_
              refine c_number4 (t := t) (p := ((p + z2) - (4 : Int))) (show 0 ≤ t ∧ t ≤ 5 by omega) (show 0 ≤ ((p + z2) - (4 : Int)) ∧ ((p + z2) - (4 : Int)) + 4 ≤ 6000 by omega) (fun (z14 : Int) (q15 : -2147483648 ≤ z14 ∧ z14 < 2147483648) => ?_)
              refine And.intro (fun (h16 : (z12 ≠ z14 : Prop)) => ?_) (fun (h16 : (z12 = z14 : Prop)) => ?_)
              ·
                exact hk (0 : Int) (by omega)
              ·
                exact hk z9 (by omega)
          ·
            exact hk (0 : Int) (by omega)
        ·
          refine And.intro (fun (h17 : (z5 ≤ (1024 : Int) : Prop)) => ?_) (fun (h17 : ((1024 : Int) < z5 : Prop)) => ?_)
          ·
            refine c_StubHouseModel_wholeSize (s := a) (d := d) (z := z5) (show 0 ≤ d ∧ d ≤ 255 by omega) (show 0 ≤ z5 ∧ z5 ≤ 65535 by omega) (show -2147483648 ≤ a ∧ a < 2147483648 by omega) (fun (z18 : Int) (q19 : (a = 1 → z18 = 25 + 8 * d + z5) ∧ (a ≠ 1 → z18 = 21 + 8 * d)) => ?_)
            refine And.intro (by decide) ?_
            refine And.intro (show -2147483648 ≤ (p + z18) ∧ (p + z18) < 2147483648 by omega) ?_
            refine And.intro (fun (h20 : (e < (p + z18) : Prop)) => ?_) (fun (h20 : ((p + z18) ≤ e : Prop)) => ?_)
            ·
              exact hk (0 : Int) (by omega)
            ·
              refine And.intro (show -2147483648 ≤ (p + z2) ∧ (p + z2) < 2147483648 by omega) ?_
              refine And.intro (show -2147483648 ≤ ((p + z2) - (4 : Int)) ∧ ((p + z2) - (4 : Int)) < 2147483648 by omega) ?_
              refine c_StubHouseModel_check (t := t) (a := p) (e := ((p + z2) - (4 : Int))) (show 0 ≤ t ∧ t ≤ 5 by omega) (show 0 ≤ p ∧ p ≤ 6000 by omega) (show ((p + z2) - (4 : Int)) ≤ 6000 by omega) (fun (z21 : Int) (q22 : -2147483648 ≤ z21 ∧ z21 < 2147483648) => ?_)
              refine And.intro (show -2147483648 ≤ (p + z2) ∧ (p + z2) < 2147483648 by omega) ?_
              refine And.intro (show -2147483648 ≤ ((p + z2) - (4 : Int)) ∧ ((p + z2) - (4 : Int)) < 2147483648 by omega) ?_
              refine c_number4 (t := t) (p := ((p + z2) - (4 : Int))) (show 0 ≤ t ∧ t ≤ 5 by omega) (show 0 ≤ ((p + z2) - (4 : Int)) ∧ ((p + z2) - (4 : Int)) + 4 ≤ 6000 by omega) (fun (z23 : Int) (q24 : -2147483648 ≤ z23 ∧ z23 < 2147483648) => ?_)
              refine And.intro (fun (h25 : (z21 ≠ z23 : Prop)) => ?_) (fun (h25 : (z21 = z23 : Prop)) => ?_)
              ·
                exact hk (0 : Int) (by omega)
              ·
                exact hk z18 (by omega)
          ·
            exact hk (0 : Int) (by omega)
      ·
        exact hk (0 : Int) (by omega)
    ·
      refine And.intro (show -2147483648 ≤ (p + (2 : Int)) ∧ (p + (2 : Int)) < 2147483648 by omega) ?_
      refine And.intro (show -2147483648 ≤ ((4 : Int) * j) ∧ ((4 : Int) * j) < 2147483648 by omega) ?_
      refine And.intro (show -2147483648 ≤ ((p + (2 : Int)) + ((4 : Int) * j)) ∧ ((p + (2 : Int)) + ((4 : Int) * j)) < 2147483648 by omega) ?_
      refine c_number4 (t := t) (p := ((p + (2 : Int)) + ((4 : Int) * j))) (show 0 ≤ t ∧ t ≤ 5 by omega) (show 0 ≤ ((p + (2 : Int)) + ((4 : Int) * j)) ∧ ((p + (2 : Int)) + ((4 : Int) * j)) + 4 ≤ 6000 by omega) (fun (z26 : Int) (q27 : -2147483648 ≤ z26 ∧ z26 < 2147483648) => ?_)
      refine c_StubHouseModel_in (x := z26) (a := (1 : Int)) (b := (16777215 : Int))  (fun (z28 : Int) (q29 : 0 ≤ z28 ∧ z28 ≤ 1 ∧ (z28 = 1 → (1 : Int) ≤ z26 ∧ z26 ≤ (16777215 : Int)) ∧ (z28 = 0 → z26 < (1 : Int) ∨ (16777215 : Int) < z26)) => ?_)
      refine And.intro (fun (h30 : (z28 ≠ (0 : Int) : Prop)) => ?_) (fun (h30 : (z28 = (0 : Int) : Prop)) => ?_)
      ·
        refine And.intro (by decide) (And.intro (show -2147483648 ≤ j + (1 : Int) ∧ j + (1 : Int) < 2147483648 by omega) ?_)
        exact ih e a d (j + (1 : Int))  (by omega) (by omega) (by omega) (by omega) (by omega)
      ·
        exact hk (0 : Int) (by omega)
theorem c_StubHouseModel_segmentAt {l : Launch} {k : fxK} {S : fxS} {t : Int} {p : Int} (p0 : 0 ≤ t ∧ t ≤ 5) (p1 : 8 ≤ p ∧ p < 6000) (hk : ∀ (r : Int) , (0 ≤ r ∧ (0 < r → 21 ≤ r ∧ p + r ≤ 6000 ∧ 1 ≤ tB S t (p + 1) ∧ tB S t (p + 1) ≤ 2 ∧ 0 ≤ tB S t (p + 14) ∧ tB S t (p + 14) ≤ 5 ∧ 0 ≤ nB S t (p + (21 + 8 * tB S t (p + 14)) - 6) ∧ nB S t (p + (21 + 8 * tB S t (p + 14)) - 6) ≤ 1024 ∧ (tB S t (p + 1) = 1 → r = 25 + 8 * tB S t (p + 14) + nB S t (p + (21 + 8 * tB S t (p + 14)) - 6)) ∧ (tB S t (p + 1) ≠ 1 → r = 21 + 8 * tB S t (p + 14)))) → k (some (.inl r)) S) : fC l 69 [.inr (.inr (49, 0)), .inl t, .inl p] S k := by
  refine fxe_69 (Nat.le_of_ble_eq_true rfl) (fxz_69 400 ?_)
  refine And.intro (show 0 ≤ t ∧ t < 6 by omega) ?_
  intro z32 (z32a : (0 : Int) ≤ z32) (z32b : z32 ≤ (6000 : Int)) (z32c : z32 = S 63 0 (t).toNat)
  refine And.intro (by decide) ?_
  refine And.intro (show -2147483648 ≤ (p + (21 : Int)) ∧ (p + (21 : Int)) < 2147483648 by omega) ?_
  refine And.intro (fun (h33 : (z32 < (p + (21 : Int)) : Prop)) => ?_) (fun (h33 : ((p + (21 : Int)) ≤ z32 : Prop)) => ?_)
  ·
    exact hk (0 : Int) (by omega)
  ·
    refine c_StubHouseModel_tapeByte (t := t) (p := p) (show 0 ≤ t ∧ t ≤ 5 by omega) (show 0 ≤ p ∧ p < 6000 by omega) (fun (z34 : Int) (q35 : z34 = tB S t p ∧ 0 ≤ z34 ∧ z34 ≤ 255) => ?_)
    refine And.intro (fun (h36 : (z34 = (83 : Int) : Prop)) => ?_) (fun (h36 : (z34 ≠ (83 : Int) : Prop)) => ?_)
    ·
      refine And.intro (show -2147483648 ≤ (p + (1 : Int)) ∧ (p + (1 : Int)) < 2147483648 by omega) ?_
      refine c_StubHouseModel_tapeByte (t := t) (p := (p + (1 : Int))) (show 0 ≤ t ∧ t ≤ 5 by omega) (show 0 ≤ (p + (1 : Int)) ∧ (p + (1 : Int)) < 6000 by omega) (fun (z37 : Int) (q38 : z37 = tB S t (p + (1 : Int)) ∧ 0 ≤ z37 ∧ z37 ≤ 255) => ?_)
      refine And.intro (by decide) ?_
      refine And.intro (show -2147483648 ≤ (p + (14 : Int)) ∧ (p + (14 : Int)) < 2147483648 by omega) ?_
      refine c_StubHouseModel_tapeByte (t := t) (p := (p + (14 : Int))) (show 0 ≤ t ∧ t ≤ 5 by omega) (show 0 ≤ (p + (14 : Int)) ∧ (p + (14 : Int)) < 6000 by omega) (fun (z39 : Int) (q40 : z39 = tB S t (p + (14 : Int)) ∧ 0 ≤ z39 ∧ z39 ≤ 255) => ?_)
      refine And.intro (by decide) ?_
      refine c_StubHouseModel_in (x := z37) (a := (1 : Int)) (b := (2 : Int))  (fun (z41 : Int) (q42 : 0 ≤ z41 ∧ z41 ≤ 1 ∧ (z41 = 1 → (1 : Int) ≤ z37 ∧ z37 ≤ (2 : Int)) ∧ (z41 = 0 → z37 < (1 : Int) ∨ (2 : Int) < z37)) => ?_)
      refine And.intro (fun (h43 : (z41 = (0 : Int) : Prop)) => ?_) (fun (h43 : (z41 ≠ (0 : Int) : Prop)) => ?_)
      ·
        exact hk (0 : Int) (by omega)
      ·
        refine And.intro (fun (h44 : (z37 ≠ (1 : Int) : Prop)) => ?_) (fun (h44 : (z37 = (1 : Int) : Prop)) => ?_)
        ·
          refine And.intro (fun (h45 : (z39 = (0 : Int) : Prop)) => ?_) (fun (h45 : (z39 ≠ (0 : Int) : Prop)) => ?_)
          ·
            refine And.intro (by decide) ?_
            exact (z_StubHouseModel_segmentAt p0 p1 hk (4 - (0 : Int)).toNat) z32 z37 z39 (0 : Int)  (by omega) (by omega) (by omega) (by omega) (by omega)
          ·
            exact hk (0 : Int) (by omega)
        ·
          refine c_StubHouseModel_in (x := z39) (a := (1 : Int)) (b := (5 : Int))  (fun (z46 : Int) (q47 : 0 ≤ z46 ∧ z46 ≤ 1 ∧ (z46 = 1 → (1 : Int) ≤ z39 ∧ z39 ≤ (5 : Int)) ∧ (z46 = 0 → z39 < (1 : Int) ∨ (5 : Int) < z39)) => ?_)
          refine And.intro (fun (h48 : (z46 ≠ (0 : Int) : Prop)) => ?_) (fun (h48 : (z46 = (0 : Int) : Prop)) => ?_)
          ·
            refine And.intro (by decide) ?_
            exact (z_StubHouseModel_segmentAt p0 p1 hk (4 - (0 : Int)).toNat) z32 z37 z39 (0 : Int)  (by omega) (by omega) (by omega) (by omega) (by omega)
          ·
            exact hk (0 : Int) (by omega)
    ·
      exact hk (0 : Int) (by omega)
theorem z_StubHouseModel_scan {l : Launch} {k : fxK} {S : fxS} {t : Int} (p0 : SGM S) (p1 : 0 ≤ t ∧ t ≤ 5) (hk : ∀ (S' : fxS) , (fxfr [(65, 9999), (66, 9999), (67, 9999)] S S' ∧ (S' 67 0 (t).toNat = 1) ∧ (SGM S') ∧ (KPA S S')) → k none S') : ∀ m : Nat, (∀ (c p : Int) (S1 : fxS), (fxfr [(65, 9999), (66, 9999), (67, 9999)] S S1) → (0 ≤ c ∧ 21 * c + 8 ≤ p) → (p ≤ 6000) → (S1 67 0 (t).toNat = 1 ∧ S 67 0 (t).toNat ≠ 1) → (SGM S1) → (KPX t S S1) → 6001 - p ≤ (m : Int) → fZ l 70 k 22 [some (.inr (.inr (49, 0))), some (.inl t), some (.inl c), some (.inl p), none, none, none, none, none, none] [] S1) := by
  intro m
  induction m with
  | zero =>
    intro c p S1 hf i0 i1 i2 i3 i4 hmu
    exfalso
    omega
  | succ m ih =>
    intro c p S1 hf i0 i1 i2 i3 i4 hmu
    refine fxz_70 400 ?_
    refine And.intro (show 0 ≤ t ∧ t < 6 by omega) ?_
    intro z1 (z1a : (0 : Int) ≤ z1) (z1b : z1 ≤ (6000 : Int)) (z1c : z1 = S1 63 0 (t).toNat)
    refine And.intro (fun (h2 : (z1 ≤ p : Prop)) => ?_) (fun (h2 : (p < z1 : Prop)) => ?_)
    ·
      refine And.intro (show 0 ≤ t ∧ t < 6 by omega) ?_
      refine And.intro (show (0 : Int) ≤ c ∧ c ≤ (285 : Int) by omega) ?_
      have w3 : (fx_up S1 66 0 (t).toNat c) 67 0 (t).toNat = S1 67 0 (t).toNat := rfl
      have g4 : SGM (fx_up S1 66 0 (t).toNat c) := fx_pup SGM_stab rfl i3
      have g5 : KPX t S (fx_up S1 66 0 (t).toNat c) := fx_pup KPX_stab rfl i4
      exact hk (fx_up S1 66 0 (t).toNat c) ⟨(fxfr_up hf rfl), by omega, g4, by exact KPA_of (by assumption) (by omega)⟩
    ·
      refine c_StubHouseModel_segmentAt (t := t) (p := p) (show 0 ≤ t ∧ t ≤ 5 by omega) (show 8 ≤ p ∧ p < 6000 by omega) (fun (z6 : Int) (q7 : 0 ≤ z6 ∧ (0 < z6 → 21 ≤ z6 ∧ p + z6 ≤ 6000 ∧ 1 ≤ tB S1 t (p + 1) ∧ tB S1 t (p + 1) ≤ 2 ∧ 0 ≤ tB S1 t (p + 14) ∧ tB S1 t (p + 14) ≤ 5 ∧ 0 ≤ nB S1 t (p + (21 + 8 * tB S1 t (p + 14)) - 6) ∧ nB S1 t (p + (21 + 8 * tB S1 t (p + 14)) - 6) ≤ 1024 ∧ (tB S1 t (p + 1) = 1 → z6 = 25 + 8 * tB S1 t (p + 14) + nB S1 t (p + (21 + 8 * tB S1 t (p + 14)) - 6)) ∧ (tB S1 t (p + 1) ≠ 1 → z6 = 21 + 8 * tB S1 t (p + 14)))) => ?_)
      refine And.intro (by decide) ?_
      refine And.intro (fun (h8 : (z6 ≤ (0 : Int) : Prop)) => ?_) (fun (h8 : ((0 : Int) < z6 : Prop)) => ?_)
      ·
        refine And.intro (by decide) (And.intro (show -2147483648 ≤ p + (1 : Int) ∧ p + (1 : Int) < 2147483648 by omega) ?_)
        exact ih c (p + (1 : Int)) S1 hf (by omega) (by omega) (by omega) i3 i4 (by omega)
      ·
        refine And.intro (show -2147483648 ≤ ((300 : Int) * t) ∧ ((300 : Int) * t) < 2147483648 by omega) ?_
        refine And.intro (show -2147483648 ≤ (((300 : Int) * t) + c) ∧ (((300 : Int) * t) + c) < 2147483648 by omega) ?_
        refine And.intro (show -2147483648 ≤ ((8 : Int) * (((300 : Int) * t) + c)) ∧ ((8 : Int) * (((300 : Int) * t) + c)) < 2147483648 by omega) ?_
        refine And.intro (by decide) ?_
        refine And.intro (show -2147483648 ≤ (p + (1 : Int)) ∧ (p + (1 : Int)) < 2147483648 by omega) ?_
        refine c_StubHouseModel_tapeByte (t := t) (p := (p + (1 : Int))) (show 0 ≤ t ∧ t ≤ 5 by omega) (show 0 ≤ (p + (1 : Int)) ∧ (p + (1 : Int)) < 6000 by omega) (fun (z10 : Int) (q11 : z10 = tB S1 t (p + (1 : Int)) ∧ 0 ≤ z10 ∧ z10 ≤ 255) => ?_)
        refine And.intro (by decide) ?_
        refine And.intro (show -2147483648 ≤ (p + (14 : Int)) ∧ (p + (14 : Int)) < 2147483648 by omega) ?_
        refine c_StubHouseModel_tapeByte (t := t) (p := (p + (14 : Int))) (show 0 ≤ t ∧ t ≤ 5 by omega) (show 0 ≤ (p + (14 : Int)) ∧ (p + (14 : Int)) < 6000 by omega) (fun (z12 : Int) (q13 : z12 = tB S1 t (p + (14 : Int)) ∧ 0 ≤ z12 ∧ z12 ≤ 255) => ?_)
        refine And.intro (by decide) ?_
        refine c_StubHouseModel_headSize (d := z12) (show 0 ≤ z12 ∧ z12 ≤ 255 by omega) (fun (z14 : Int) (q15 : z14 = 21 + 8 * z12) => ?_)
        refine And.intro (show -2147483648 ≤ (p + z14) ∧ (p + z14) < 2147483648 by omega) ?_
        refine And.intro (show -2147483648 ≤ ((p + z14) - (6 : Int)) ∧ ((p + z14) - (6 : Int)) < 2147483648 by omega) ?_
        refine c_number2 (t := t) (p := ((p + z14) - (6 : Int))) (show 0 ≤ t ∧ t ≤ 5 by omega) (show 0 ≤ ((p + z14) - (6 : Int)) ∧ ((p + z14) - (6 : Int)) + 2 ≤ 6000 by omega) (fun (z16 : Int) (q17 : z16 = nB S1 t ((p + z14) - (6 : Int)) ∧ 0 ≤ z16 ∧ z16 ≤ 65535) => ?_)
        have sz : z16 = nB S1 t (p + (21 + 8 * tB S1 t (p + 14)) - 6) := by rw [q17.1]; congr 1; omega
        refine And.intro (by decide) ?_
        refine And.intro (show -2147483648 ≤ (((8 : Int) * (((300 : Int) * t) + c)) + (0 : Int)) ∧ (((8 : Int) * (((300 : Int) * t) + c)) + (0 : Int)) < 2147483648 by omega) ?_
        refine And.intro (show 0 ≤ (((8 : Int) * (((300 : Int) * t) + c)) + (0 : Int)) ∧ (((8 : Int) * (((300 : Int) * t) + c)) + (0 : Int)) < 14400 by omega) ?_
        refine And.intro (show (-2147483648 : Int) ≤ p ∧ p ≤ (2147483647 : Int) by omega) ?_
        have w18 : (fx_up S1 65 0 ((((8 : Int) * (((300 : Int) * t) + c)) + (0 : Int))).toNat p) 67 0 (t).toNat = S1 67 0 (t).toNat := rfl
        have g19 : KPX t S (fx_up S1 65 0 ((((8 : Int) * (((300 : Int) * t) + c)) + (0 : Int))).toNat p) := KPX_up i4 (by omega) (by omega) (by omega)
        refine And.intro (show -2147483648 ≤ (((8 : Int) * (((300 : Int) * t) + c)) + (1 : Int)) ∧ (((8 : Int) * (((300 : Int) * t) + c)) + (1 : Int)) < 2147483648 by omega) ?_
        refine And.intro (show 0 ≤ (((8 : Int) * (((300 : Int) * t) + c)) + (1 : Int)) ∧ (((8 : Int) * (((300 : Int) * t) + c)) + (1 : Int)) < 14400 by omega) ?_
        refine And.intro (show (-2147483648 : Int) ≤ z10 ∧ z10 ≤ (2147483647 : Int) by omega) ?_
        have w20 : (fx_up (fx_up S1 65 0 ((((8 : Int) * (((300 : Int) * t) + c)) + (0 : Int))).toNat p) 65 0 ((((8 : Int) * (((300 : Int) * t) + c)) + (1 : Int))).toNat z10) 67 0 (t).toNat = (fx_up S1 65 0 ((((8 : Int) * (((300 : Int) * t) + c)) + (0 : Int))).toNat p) 67 0 (t).toNat := rfl
        have g21 : KPX t S (fx_up (fx_up S1 65 0 ((((8 : Int) * (((300 : Int) * t) + c)) + (0 : Int))).toNat p) 65 0 ((((8 : Int) * (((300 : Int) * t) + c)) + (1 : Int))).toNat z10) := KPX_up g19 (by omega) (by omega) (by omega)
        refine And.intro (show -2147483648 ≤ (((8 : Int) * (((300 : Int) * t) + c)) + (2 : Int)) ∧ (((8 : Int) * (((300 : Int) * t) + c)) + (2 : Int)) < 2147483648 by omega) ?_
        refine And.intro (show -2147483648 ≤ (p + (2 : Int)) ∧ (p + (2 : Int)) < 2147483648 by omega) ?_
        refine c_number4 (t := t) (p := (p + (2 : Int))) (show 0 ≤ t ∧ t ≤ 5 by omega) (show 0 ≤ (p + (2 : Int)) ∧ (p + (2 : Int)) + 4 ≤ 6000 by omega) (fun (z22 : Int) (q23 : -2147483648 ≤ z22 ∧ z22 < 2147483648) => ?_)
        refine And.intro (show 0 ≤ (((8 : Int) * (((300 : Int) * t) + c)) + (2 : Int)) ∧ (((8 : Int) * (((300 : Int) * t) + c)) + (2 : Int)) < 14400 by omega) ?_
        refine And.intro (show (-2147483648 : Int) ≤ z22 ∧ z22 ≤ (2147483647 : Int) by omega) ?_
        have w24 : (fx_up (fx_up (fx_up S1 65 0 ((((8 : Int) * (((300 : Int) * t) + c)) + (0 : Int))).toNat p) 65 0 ((((8 : Int) * (((300 : Int) * t) + c)) + (1 : Int))).toNat z10) 65 0 ((((8 : Int) * (((300 : Int) * t) + c)) + (2 : Int))).toNat z22) 67 0 (t).toNat = (fx_up (fx_up S1 65 0 ((((8 : Int) * (((300 : Int) * t) + c)) + (0 : Int))).toNat p) 65 0 ((((8 : Int) * (((300 : Int) * t) + c)) + (1 : Int))).toNat z10) 67 0 (t).toNat := rfl
        have g25 : KPX t S (fx_up (fx_up (fx_up S1 65 0 ((((8 : Int) * (((300 : Int) * t) + c)) + (0 : Int))).toNat p) 65 0 ((((8 : Int) * (((300 : Int) * t) + c)) + (1 : Int))).toNat z10) 65 0 ((((8 : Int) * (((300 : Int) * t) + c)) + (2 : Int))).toNat z22) := KPX_up g21 (by omega) (by omega) (by omega)
        refine And.intro (show -2147483648 ≤ (((8 : Int) * (((300 : Int) * t) + c)) + (3 : Int)) ∧ (((8 : Int) * (((300 : Int) * t) + c)) + (3 : Int)) < 2147483648 by omega) ?_
        refine And.intro (show -2147483648 ≤ (p + (6 : Int)) ∧ (p + (6 : Int)) < 2147483648 by omega) ?_
        refine c_number4 (t := t) (p := (p + (6 : Int))) (show 0 ≤ t ∧ t ≤ 5 by omega) (show 0 ≤ (p + (6 : Int)) ∧ (p + (6 : Int)) + 4 ≤ 6000 by omega) (fun (z26 : Int) (q27 : -2147483648 ≤ z26 ∧ z26 < 2147483648) => ?_)
        refine And.intro (show 0 ≤ (((8 : Int) * (((300 : Int) * t) + c)) + (3 : Int)) ∧ (((8 : Int) * (((300 : Int) * t) + c)) + (3 : Int)) < 14400 by omega) ?_
        refine And.intro (show (-2147483648 : Int) ≤ z26 ∧ z26 ≤ (2147483647 : Int) by omega) ?_
        have w28 : (fx_up (fx_up (fx_up (fx_up S1 65 0 ((((8 : Int) * (((300 : Int) * t) + c)) + (0 : Int))).toNat p) 65 0 ((((8 : Int) * (((300 : Int) * t) + c)) + (1 : Int))).toNat z10) 65 0 ((((8 : Int) * (((300 : Int) * t) + c)) + (2 : Int))).toNat z22) 65 0 ((((8 : Int) * (((300 : Int) * t) + c)) + (3 : Int))).toNat z26) 67 0 (t).toNat = (fx_up (fx_up (fx_up S1 65 0 ((((8 : Int) * (((300 : Int) * t) + c)) + (0 : Int))).toNat p) 65 0 ((((8 : Int) * (((300 : Int) * t) + c)) + (1 : Int))).toNat z10) 65 0 ((((8 : Int) * (((300 : Int) * t) + c)) + (2 : Int))).toNat z22) 67 0 (t).toNat := rfl
        have g29 : KPX t S (fx_up (fx_up (fx_up (fx_up S1 65 0 ((((8 : Int) * (((300 : Int) * t) + c)) + (0 : Int))).toNat p) 65 0 ((((8 : Int) * (((300 : Int) * t) + c)) + (1 : Int))).toNat z10) 65 0 ((((8 : Int) * (((300 : Int) * t) + c)) + (2 : Int))).toNat z22) 65 0 ((((8 : Int) * (((300 : Int) * t) + c)) + (3 : Int))).toNat z26) := KPX_up g25 (by omega) (by omega) (by omega)
        refine And.intro (show -2147483648 ≤ (((8 : Int) * (((300 : Int) * t) + c)) + (4 : Int)) ∧ (((8 : Int) * (((300 : Int) * t) + c)) + (4 : Int)) < 2147483648 by omega) ?_
        refine And.intro (show -2147483648 ≤ (p + (10 : Int)) ∧ (p + (10 : Int)) < 2147483648 by omega) ?_
        refine c_number4 (t := t) (p := (p + (10 : Int))) (show 0 ≤ t ∧ t ≤ 5 by omega) (show 0 ≤ (p + (10 : Int)) ∧ (p + (10 : Int)) + 4 ≤ 6000 by omega) (fun (z30 : Int) (q31 : -2147483648 ≤ z30 ∧ z30 < 2147483648) => ?_)
        refine And.intro (show 0 ≤ (((8 : Int) * (((300 : Int) * t) + c)) + (4 : Int)) ∧ (((8 : Int) * (((300 : Int) * t) + c)) + (4 : Int)) < 14400 by omega) ?_
        refine And.intro (show (-2147483648 : Int) ≤ z30 ∧ z30 ≤ (2147483647 : Int) by omega) ?_
        have w32 : (fx_up (fx_up (fx_up (fx_up (fx_up S1 65 0 ((((8 : Int) * (((300 : Int) * t) + c)) + (0 : Int))).toNat p) 65 0 ((((8 : Int) * (((300 : Int) * t) + c)) + (1 : Int))).toNat z10) 65 0 ((((8 : Int) * (((300 : Int) * t) + c)) + (2 : Int))).toNat z22) 65 0 ((((8 : Int) * (((300 : Int) * t) + c)) + (3 : Int))).toNat z26) 65 0 ((((8 : Int) * (((300 : Int) * t) + c)) + (4 : Int))).toNat z30) 67 0 (t).toNat = (fx_up (fx_up (fx_up (fx_up S1 65 0 ((((8 : Int) * (((300 : Int) * t) + c)) + (0 : Int))).toNat p) 65 0 ((((8 : Int) * (((300 : Int) * t) + c)) + (1 : Int))).toNat z10) 65 0 ((((8 : Int) * (((300 : Int) * t) + c)) + (2 : Int))).toNat z22) 65 0 ((((8 : Int) * (((300 : Int) * t) + c)) + (3 : Int))).toNat z26) 67 0 (t).toNat := rfl
        have g33 : KPX t S (fx_up (fx_up (fx_up (fx_up (fx_up S1 65 0 ((((8 : Int) * (((300 : Int) * t) + c)) + (0 : Int))).toNat p) 65 0 ((((8 : Int) * (((300 : Int) * t) + c)) + (1 : Int))).toNat z10) 65 0 ((((8 : Int) * (((300 : Int) * t) + c)) + (2 : Int))).toNat z22) 65 0 ((((8 : Int) * (((300 : Int) * t) + c)) + (3 : Int))).toNat z26) 65 0 ((((8 : Int) * (((300 : Int) * t) + c)) + (4 : Int))).toNat z30) := KPX_up g29 (by omega) (by omega) (by omega)
        refine And.intro (show -2147483648 ≤ (((8 : Int) * (((300 : Int) * t) + c)) + (5 : Int)) ∧ (((8 : Int) * (((300 : Int) * t) + c)) + (5 : Int)) < 2147483648 by omega) ?_
        refine And.intro (show 0 ≤ (((8 : Int) * (((300 : Int) * t) + c)) + (5 : Int)) ∧ (((8 : Int) * (((300 : Int) * t) + c)) + (5 : Int)) < 14400 by omega) ?_
        refine And.intro (show (-2147483648 : Int) ≤ z12 ∧ z12 ≤ (2147483647 : Int) by omega) ?_
        have w34 : (fx_up (fx_up (fx_up (fx_up (fx_up (fx_up S1 65 0 ((((8 : Int) * (((300 : Int) * t) + c)) + (0 : Int))).toNat p) 65 0 ((((8 : Int) * (((300 : Int) * t) + c)) + (1 : Int))).toNat z10) 65 0 ((((8 : Int) * (((300 : Int) * t) + c)) + (2 : Int))).toNat z22) 65 0 ((((8 : Int) * (((300 : Int) * t) + c)) + (3 : Int))).toNat z26) 65 0 ((((8 : Int) * (((300 : Int) * t) + c)) + (4 : Int))).toNat z30) 65 0 ((((8 : Int) * (((300 : Int) * t) + c)) + (5 : Int))).toNat z12) 67 0 (t).toNat = (fx_up (fx_up (fx_up (fx_up (fx_up S1 65 0 ((((8 : Int) * (((300 : Int) * t) + c)) + (0 : Int))).toNat p) 65 0 ((((8 : Int) * (((300 : Int) * t) + c)) + (1 : Int))).toNat z10) 65 0 ((((8 : Int) * (((300 : Int) * t) + c)) + (2 : Int))).toNat z22) 65 0 ((((8 : Int) * (((300 : Int) * t) + c)) + (3 : Int))).toNat z26) 65 0 ((((8 : Int) * (((300 : Int) * t) + c)) + (4 : Int))).toNat z30) 67 0 (t).toNat := rfl
        have g35 : KPX t S (fx_up (fx_up (fx_up (fx_up (fx_up (fx_up S1 65 0 ((((8 : Int) * (((300 : Int) * t) + c)) + (0 : Int))).toNat p) 65 0 ((((8 : Int) * (((300 : Int) * t) + c)) + (1 : Int))).toNat z10) 65 0 ((((8 : Int) * (((300 : Int) * t) + c)) + (2 : Int))).toNat z22) 65 0 ((((8 : Int) * (((300 : Int) * t) + c)) + (3 : Int))).toNat z26) 65 0 ((((8 : Int) * (((300 : Int) * t) + c)) + (4 : Int))).toNat z30) 65 0 ((((8 : Int) * (((300 : Int) * t) + c)) + (5 : Int))).toNat z12) := KPX_up g33 (by omega) (by omega) (by omega)
        refine And.intro (show -2147483648 ≤ (((8 : Int) * (((300 : Int) * t) + c)) + (6 : Int)) ∧ (((8 : Int) * (((300 : Int) * t) + c)) + (6 : Int)) < 2147483648 by omega) ?_
        refine And.intro (show 0 ≤ (((8 : Int) * (((300 : Int) * t) + c)) + (6 : Int)) ∧ (((8 : Int) * (((300 : Int) * t) + c)) + (6 : Int)) < 14400 by omega) ?_
        refine And.intro (show (-2147483648 : Int) ≤ z16 ∧ z16 ≤ (2147483647 : Int) by omega) ?_
        have w36 : (fx_up (fx_up (fx_up (fx_up (fx_up (fx_up (fx_up S1 65 0 ((((8 : Int) * (((300 : Int) * t) + c)) + (0 : Int))).toNat p) 65 0 ((((8 : Int) * (((300 : Int) * t) + c)) + (1 : Int))).toNat z10) 65 0 ((((8 : Int) * (((300 : Int) * t) + c)) + (2 : Int))).toNat z22) 65 0 ((((8 : Int) * (((300 : Int) * t) + c)) + (3 : Int))).toNat z26) 65 0 ((((8 : Int) * (((300 : Int) * t) + c)) + (4 : Int))).toNat z30) 65 0 ((((8 : Int) * (((300 : Int) * t) + c)) + (5 : Int))).toNat z12) 65 0 ((((8 : Int) * (((300 : Int) * t) + c)) + (6 : Int))).toNat z16) 67 0 (t).toNat = (fx_up (fx_up (fx_up (fx_up (fx_up (fx_up S1 65 0 ((((8 : Int) * (((300 : Int) * t) + c)) + (0 : Int))).toNat p) 65 0 ((((8 : Int) * (((300 : Int) * t) + c)) + (1 : Int))).toNat z10) 65 0 ((((8 : Int) * (((300 : Int) * t) + c)) + (2 : Int))).toNat z22) 65 0 ((((8 : Int) * (((300 : Int) * t) + c)) + (3 : Int))).toNat z26) 65 0 ((((8 : Int) * (((300 : Int) * t) + c)) + (4 : Int))).toNat z30) 65 0 ((((8 : Int) * (((300 : Int) * t) + c)) + (5 : Int))).toNat z12) 67 0 (t).toNat := rfl
        have g37 : KPX t S (fx_up (fx_up (fx_up (fx_up (fx_up (fx_up (fx_up S1 65 0 ((((8 : Int) * (((300 : Int) * t) + c)) + (0 : Int))).toNat p) 65 0 ((((8 : Int) * (((300 : Int) * t) + c)) + (1 : Int))).toNat z10) 65 0 ((((8 : Int) * (((300 : Int) * t) + c)) + (2 : Int))).toNat z22) 65 0 ((((8 : Int) * (((300 : Int) * t) + c)) + (3 : Int))).toNat z26) 65 0 ((((8 : Int) * (((300 : Int) * t) + c)) + (4 : Int))).toNat z30) 65 0 ((((8 : Int) * (((300 : Int) * t) + c)) + (5 : Int))).toNat z12) 65 0 ((((8 : Int) * (((300 : Int) * t) + c)) + (6 : Int))).toNat z16) := KPX_up g35 (by omega) (by omega) (by omega)
        refine c_StubHouseModel_headSize (d := z12) (show 0 ≤ z12 ∧ z12 ≤ 255 by omega) (fun (z38 : Int) (q39 : z38 = 21 + 8 * z12) => ?_)
        refine And.intro (show -2147483648 ≤ (p + z38) ∧ (p + z38) < 2147483648 by omega) ?_
        refine And.intro (by decide) ?_
        refine And.intro (show -2147483648 ≤ (((8 : Int) * (((300 : Int) * t) + c)) + (7 : Int)) ∧ (((8 : Int) * (((300 : Int) * t) + c)) + (7 : Int)) < 2147483648 by omega) ?_
        refine And.intro (fun (h40 : (z10 = (2 : Int) : Prop)) => ?_) (fun (h40 : (z10 ≠ (2 : Int) : Prop)) => ?_)
        ·
          refine And.intro (show 0 ≤ (((8 : Int) * (((300 : Int) * t) + c)) + (7 : Int)) ∧ (((8 : Int) * (((300 : Int) * t) + c)) + (7 : Int)) < 14400 by omega) ?_
          refine And.intro (show (-2147483648 : Int) ≤ (1 : Int) ∧ (1 : Int) ≤ (2147483647 : Int) by omega) ?_
          have w41 : (fx_up (fx_up (fx_up (fx_up (fx_up (fx_up (fx_up (fx_up S1 65 0 ((((8 : Int) * (((300 : Int) * t) + c)) + (0 : Int))).toNat p) 65 0 ((((8 : Int) * (((300 : Int) * t) + c)) + (1 : Int))).toNat z10) 65 0 ((((8 : Int) * (((300 : Int) * t) + c)) + (2 : Int))).toNat z22) 65 0 ((((8 : Int) * (((300 : Int) * t) + c)) + (3 : Int))).toNat z26) 65 0 ((((8 : Int) * (((300 : Int) * t) + c)) + (4 : Int))).toNat z30) 65 0 ((((8 : Int) * (((300 : Int) * t) + c)) + (5 : Int))).toNat z12) 65 0 ((((8 : Int) * (((300 : Int) * t) + c)) + (6 : Int))).toNat z16) 65 0 ((((8 : Int) * (((300 : Int) * t) + c)) + (7 : Int))).toNat (1 : Int)) 67 0 (t).toNat = (fx_up (fx_up (fx_up (fx_up (fx_up (fx_up (fx_up S1 65 0 ((((8 : Int) * (((300 : Int) * t) + c)) + (0 : Int))).toNat p) 65 0 ((((8 : Int) * (((300 : Int) * t) + c)) + (1 : Int))).toNat z10) 65 0 ((((8 : Int) * (((300 : Int) * t) + c)) + (2 : Int))).toNat z22) 65 0 ((((8 : Int) * (((300 : Int) * t) + c)) + (3 : Int))).toNat z26) 65 0 ((((8 : Int) * (((300 : Int) * t) + c)) + (4 : Int))).toNat z30) 65 0 ((((8 : Int) * (((300 : Int) * t) + c)) + (5 : Int))).toNat z12) 65 0 ((((8 : Int) * (((300 : Int) * t) + c)) + (6 : Int))).toNat z16) 67 0 (t).toNat := rfl
          have g42 : KPX t S (fx_up (fx_up (fx_up (fx_up (fx_up (fx_up (fx_up (fx_up S1 65 0 ((((8 : Int) * (((300 : Int) * t) + c)) + (0 : Int))).toNat p) 65 0 ((((8 : Int) * (((300 : Int) * t) + c)) + (1 : Int))).toNat z10) 65 0 ((((8 : Int) * (((300 : Int) * t) + c)) + (2 : Int))).toNat z22) 65 0 ((((8 : Int) * (((300 : Int) * t) + c)) + (3 : Int))).toNat z26) 65 0 ((((8 : Int) * (((300 : Int) * t) + c)) + (4 : Int))).toNat z30) 65 0 ((((8 : Int) * (((300 : Int) * t) + c)) + (5 : Int))).toNat z12) 65 0 ((((8 : Int) * (((300 : Int) * t) + c)) + (6 : Int))).toNat z16) 65 0 ((((8 : Int) * (((300 : Int) * t) + c)) + (7 : Int))).toNat (1 : Int)) := KPX_up g37 (by omega) (by omega) (by omega)
          have sm : SGM (fx_up (fx_up (fx_up (fx_up (fx_up (fx_up (fx_up (fx_up S1 65 0 ((((8 : Int) * (((300 : Int) * t) + c)) + (0 : Int))).toNat p) 65 0 ((((8 : Int) * (((300 : Int) * t) + c)) + (1 : Int))).toNat z10) 65 0 ((((8 : Int) * (((300 : Int) * t) + c)) + (2 : Int))).toNat z22) 65 0 ((((8 : Int) * (((300 : Int) * t) + c)) + (3 : Int))).toNat z26) 65 0 ((((8 : Int) * (((300 : Int) * t) + c)) + (4 : Int))).toNat z30) 65 0 ((((8 : Int) * (((300 : Int) * t) + c)) + (5 : Int))).toNat z12) 65 0 ((((8 : Int) * (((300 : Int) * t) + c)) + (6 : Int))).toNat z16) 65 0 ((((8 : Int) * (((300 : Int) * t) + c)) + (7 : Int))).toNat (1 : Int)) := SGM_row i3 (by omega) (show _ ∧ _ ∧ _ ∧ _ ∧ _ ∧ _ ∧ _ ∧ _ ∧ _ ∧ _ by omega)
          refine And.intro (by decide) (And.intro (show -2147483648 ≤ c + (1 : Int) ∧ c + (1 : Int) < 2147483648 by omega) ?_)
          refine And.intro (show -2147483648 ≤ (p + z6) ∧ (p + z6) < 2147483648 by omega) ?_
          refine And.intro (by decide) ?_
          exact ih (c + (1 : Int)) (p + z6) (fx_up (fx_up (fx_up (fx_up (fx_up (fx_up (fx_up (fx_up S1 65 0 ((((8 : Int) * (((300 : Int) * t) + c)) + (0 : Int))).toNat p) 65 0 ((((8 : Int) * (((300 : Int) * t) + c)) + (1 : Int))).toNat z10) 65 0 ((((8 : Int) * (((300 : Int) * t) + c)) + (2 : Int))).toNat z22) 65 0 ((((8 : Int) * (((300 : Int) * t) + c)) + (3 : Int))).toNat z26) 65 0 ((((8 : Int) * (((300 : Int) * t) + c)) + (4 : Int))).toNat z30) 65 0 ((((8 : Int) * (((300 : Int) * t) + c)) + (5 : Int))).toNat z12) 65 0 ((((8 : Int) * (((300 : Int) * t) + c)) + (6 : Int))).toNat z16) 65 0 ((((8 : Int) * (((300 : Int) * t) + c)) + (7 : Int))).toNat (1 : Int)) (fxfr_up (fxfr_up (fxfr_up (fxfr_up (fxfr_up (fxfr_up (fxfr_up (fxfr_up hf rfl) rfl) rfl) rfl) rfl) rfl) rfl) rfl) (by omega) (by omega) (by omega) sm g42 (by omega)
        ·
          intro z44 (z44a : -2147483648 ≤ z44) (z44b : z44 < 2147483648) (z44c : -2147483648 ≤ ((p + z38) + z16) ∧ ((p + z38) + z16) < 2147483648 → z44 = ((p + z38) + z16))
          refine c_StubHouseModel_check (t := t) (a := (p + z38)) (e := z44) (show 0 ≤ t ∧ t ≤ 5 by omega) (show 0 ≤ (p + z38) ∧ (p + z38) ≤ 6000 by omega) (show z44 ≤ 6000 by omega) (fun (z45 : Int) (q46 : -2147483648 ≤ z45 ∧ z45 < 2147483648) => ?_)
          intro z47 (z47a : -2147483648 ≤ z47) (z47b : z47 < 2147483648) (z47c : -2147483648 ≤ ((p + z38) + z16) ∧ ((p + z38) + z16) < 2147483648 → z47 = ((p + z38) + z16))
          refine c_number4 (t := t) (p := z47) (show 0 ≤ t ∧ t ≤ 5 by omega) (show 0 ≤ z47 ∧ z47 + 4 ≤ 6000 by omega) (fun (z48 : Int) (q49 : -2147483648 ≤ z48 ∧ z48 < 2147483648) => ?_)
          refine And.intro (fun (h50 : (z45 ≠ z48 : Prop)) => ?_) (fun (h50 : (z45 = z48 : Prop)) => ?_)
          ·
            refine And.intro (show 0 ≤ (((8 : Int) * (((300 : Int) * t) + c)) + (7 : Int)) ∧ (((8 : Int) * (((300 : Int) * t) + c)) + (7 : Int)) < 14400 by omega) ?_
            refine And.intro (show (-2147483648 : Int) ≤ (0 : Int) ∧ (0 : Int) ≤ (2147483647 : Int) by omega) ?_
            have w51 : (fx_up (fx_up (fx_up (fx_up (fx_up (fx_up (fx_up (fx_up S1 65 0 ((((8 : Int) * (((300 : Int) * t) + c)) + (0 : Int))).toNat p) 65 0 ((((8 : Int) * (((300 : Int) * t) + c)) + (1 : Int))).toNat z10) 65 0 ((((8 : Int) * (((300 : Int) * t) + c)) + (2 : Int))).toNat z22) 65 0 ((((8 : Int) * (((300 : Int) * t) + c)) + (3 : Int))).toNat z26) 65 0 ((((8 : Int) * (((300 : Int) * t) + c)) + (4 : Int))).toNat z30) 65 0 ((((8 : Int) * (((300 : Int) * t) + c)) + (5 : Int))).toNat z12) 65 0 ((((8 : Int) * (((300 : Int) * t) + c)) + (6 : Int))).toNat z16) 65 0 ((((8 : Int) * (((300 : Int) * t) + c)) + (7 : Int))).toNat (0 : Int)) 67 0 (t).toNat = (fx_up (fx_up (fx_up (fx_up (fx_up (fx_up (fx_up S1 65 0 ((((8 : Int) * (((300 : Int) * t) + c)) + (0 : Int))).toNat p) 65 0 ((((8 : Int) * (((300 : Int) * t) + c)) + (1 : Int))).toNat z10) 65 0 ((((8 : Int) * (((300 : Int) * t) + c)) + (2 : Int))).toNat z22) 65 0 ((((8 : Int) * (((300 : Int) * t) + c)) + (3 : Int))).toNat z26) 65 0 ((((8 : Int) * (((300 : Int) * t) + c)) + (4 : Int))).toNat z30) 65 0 ((((8 : Int) * (((300 : Int) * t) + c)) + (5 : Int))).toNat z12) 65 0 ((((8 : Int) * (((300 : Int) * t) + c)) + (6 : Int))).toNat z16) 67 0 (t).toNat := rfl
            have g52 : KPX t S (fx_up (fx_up (fx_up (fx_up (fx_up (fx_up (fx_up (fx_up S1 65 0 ((((8 : Int) * (((300 : Int) * t) + c)) + (0 : Int))).toNat p) 65 0 ((((8 : Int) * (((300 : Int) * t) + c)) + (1 : Int))).toNat z10) 65 0 ((((8 : Int) * (((300 : Int) * t) + c)) + (2 : Int))).toNat z22) 65 0 ((((8 : Int) * (((300 : Int) * t) + c)) + (3 : Int))).toNat z26) 65 0 ((((8 : Int) * (((300 : Int) * t) + c)) + (4 : Int))).toNat z30) 65 0 ((((8 : Int) * (((300 : Int) * t) + c)) + (5 : Int))).toNat z12) 65 0 ((((8 : Int) * (((300 : Int) * t) + c)) + (6 : Int))).toNat z16) 65 0 ((((8 : Int) * (((300 : Int) * t) + c)) + (7 : Int))).toNat (0 : Int)) := KPX_up g37 (by omega) (by omega) (by omega)
            have sm : SGM (fx_up (fx_up (fx_up (fx_up (fx_up (fx_up (fx_up (fx_up S1 65 0 ((((8 : Int) * (((300 : Int) * t) + c)) + (0 : Int))).toNat p) 65 0 ((((8 : Int) * (((300 : Int) * t) + c)) + (1 : Int))).toNat z10) 65 0 ((((8 : Int) * (((300 : Int) * t) + c)) + (2 : Int))).toNat z22) 65 0 ((((8 : Int) * (((300 : Int) * t) + c)) + (3 : Int))).toNat z26) 65 0 ((((8 : Int) * (((300 : Int) * t) + c)) + (4 : Int))).toNat z30) 65 0 ((((8 : Int) * (((300 : Int) * t) + c)) + (5 : Int))).toNat z12) 65 0 ((((8 : Int) * (((300 : Int) * t) + c)) + (6 : Int))).toNat z16) 65 0 ((((8 : Int) * (((300 : Int) * t) + c)) + (7 : Int))).toNat (0 : Int)) := SGM_row i3 (by omega) (show _ ∧ _ ∧ _ ∧ _ ∧ _ ∧ _ ∧ _ ∧ _ ∧ _ ∧ _ by omega)
            refine And.intro (by decide) (And.intro (show -2147483648 ≤ c + (1 : Int) ∧ c + (1 : Int) < 2147483648 by omega) ?_)
            refine And.intro (show -2147483648 ≤ (p + z6) ∧ (p + z6) < 2147483648 by omega) ?_
            refine And.intro (by decide) ?_
            exact ih (c + (1 : Int)) (p + z6) (fx_up (fx_up (fx_up (fx_up (fx_up (fx_up (fx_up (fx_up S1 65 0 ((((8 : Int) * (((300 : Int) * t) + c)) + (0 : Int))).toNat p) 65 0 ((((8 : Int) * (((300 : Int) * t) + c)) + (1 : Int))).toNat z10) 65 0 ((((8 : Int) * (((300 : Int) * t) + c)) + (2 : Int))).toNat z22) 65 0 ((((8 : Int) * (((300 : Int) * t) + c)) + (3 : Int))).toNat z26) 65 0 ((((8 : Int) * (((300 : Int) * t) + c)) + (4 : Int))).toNat z30) 65 0 ((((8 : Int) * (((300 : Int) * t) + c)) + (5 : Int))).toNat z12) 65 0 ((((8 : Int) * (((300 : Int) * t) + c)) + (6 : Int))).toNat z16) 65 0 ((((8 : Int) * (((300 : Int) * t) + c)) + (7 : Int))).toNat (0 : Int)) (fxfr_up (fxfr_up (fxfr_up (fxfr_up (fxfr_up (fxfr_up (fxfr_up (fxfr_up hf rfl) rfl) rfl) rfl) rfl) rfl) rfl) rfl) (by omega) (by omega) (by omega) sm g52 (by omega)
          ·
            refine And.intro (show 0 ≤ (((8 : Int) * (((300 : Int) * t) + c)) + (7 : Int)) ∧ (((8 : Int) * (((300 : Int) * t) + c)) + (7 : Int)) < 14400 by omega) ?_
            refine And.intro (show (-2147483648 : Int) ≤ (1 : Int) ∧ (1 : Int) ≤ (2147483647 : Int) by omega) ?_
            have w54 : (fx_up (fx_up (fx_up (fx_up (fx_up (fx_up (fx_up (fx_up S1 65 0 ((((8 : Int) * (((300 : Int) * t) + c)) + (0 : Int))).toNat p) 65 0 ((((8 : Int) * (((300 : Int) * t) + c)) + (1 : Int))).toNat z10) 65 0 ((((8 : Int) * (((300 : Int) * t) + c)) + (2 : Int))).toNat z22) 65 0 ((((8 : Int) * (((300 : Int) * t) + c)) + (3 : Int))).toNat z26) 65 0 ((((8 : Int) * (((300 : Int) * t) + c)) + (4 : Int))).toNat z30) 65 0 ((((8 : Int) * (((300 : Int) * t) + c)) + (5 : Int))).toNat z12) 65 0 ((((8 : Int) * (((300 : Int) * t) + c)) + (6 : Int))).toNat z16) 65 0 ((((8 : Int) * (((300 : Int) * t) + c)) + (7 : Int))).toNat (1 : Int)) 67 0 (t).toNat = (fx_up (fx_up (fx_up (fx_up (fx_up (fx_up (fx_up S1 65 0 ((((8 : Int) * (((300 : Int) * t) + c)) + (0 : Int))).toNat p) 65 0 ((((8 : Int) * (((300 : Int) * t) + c)) + (1 : Int))).toNat z10) 65 0 ((((8 : Int) * (((300 : Int) * t) + c)) + (2 : Int))).toNat z22) 65 0 ((((8 : Int) * (((300 : Int) * t) + c)) + (3 : Int))).toNat z26) 65 0 ((((8 : Int) * (((300 : Int) * t) + c)) + (4 : Int))).toNat z30) 65 0 ((((8 : Int) * (((300 : Int) * t) + c)) + (5 : Int))).toNat z12) 65 0 ((((8 : Int) * (((300 : Int) * t) + c)) + (6 : Int))).toNat z16) 67 0 (t).toNat := rfl
            have g55 : KPX t S (fx_up (fx_up (fx_up (fx_up (fx_up (fx_up (fx_up (fx_up S1 65 0 ((((8 : Int) * (((300 : Int) * t) + c)) + (0 : Int))).toNat p) 65 0 ((((8 : Int) * (((300 : Int) * t) + c)) + (1 : Int))).toNat z10) 65 0 ((((8 : Int) * (((300 : Int) * t) + c)) + (2 : Int))).toNat z22) 65 0 ((((8 : Int) * (((300 : Int) * t) + c)) + (3 : Int))).toNat z26) 65 0 ((((8 : Int) * (((300 : Int) * t) + c)) + (4 : Int))).toNat z30) 65 0 ((((8 : Int) * (((300 : Int) * t) + c)) + (5 : Int))).toNat z12) 65 0 ((((8 : Int) * (((300 : Int) * t) + c)) + (6 : Int))).toNat z16) 65 0 ((((8 : Int) * (((300 : Int) * t) + c)) + (7 : Int))).toNat (1 : Int)) := KPX_up g37 (by omega) (by omega) (by omega)
            have sm : SGM (fx_up (fx_up (fx_up (fx_up (fx_up (fx_up (fx_up (fx_up S1 65 0 ((((8 : Int) * (((300 : Int) * t) + c)) + (0 : Int))).toNat p) 65 0 ((((8 : Int) * (((300 : Int) * t) + c)) + (1 : Int))).toNat z10) 65 0 ((((8 : Int) * (((300 : Int) * t) + c)) + (2 : Int))).toNat z22) 65 0 ((((8 : Int) * (((300 : Int) * t) + c)) + (3 : Int))).toNat z26) 65 0 ((((8 : Int) * (((300 : Int) * t) + c)) + (4 : Int))).toNat z30) 65 0 ((((8 : Int) * (((300 : Int) * t) + c)) + (5 : Int))).toNat z12) 65 0 ((((8 : Int) * (((300 : Int) * t) + c)) + (6 : Int))).toNat z16) 65 0 ((((8 : Int) * (((300 : Int) * t) + c)) + (7 : Int))).toNat (1 : Int)) := SGM_row i3 (by omega) (show _ ∧ _ ∧ _ ∧ _ ∧ _ ∧ _ ∧ _ ∧ _ ∧ _ ∧ _ by omega)
            refine And.intro (by decide) (And.intro (show -2147483648 ≤ c + (1 : Int) ∧ c + (1 : Int) < 2147483648 by omega) ?_)
            refine And.intro (show -2147483648 ≤ (p + z6) ∧ (p + z6) < 2147483648 by omega) ?_
            refine And.intro (by decide) ?_
            exact ih (c + (1 : Int)) (p + z6) (fx_up (fx_up (fx_up (fx_up (fx_up (fx_up (fx_up (fx_up S1 65 0 ((((8 : Int) * (((300 : Int) * t) + c)) + (0 : Int))).toNat p) 65 0 ((((8 : Int) * (((300 : Int) * t) + c)) + (1 : Int))).toNat z10) 65 0 ((((8 : Int) * (((300 : Int) * t) + c)) + (2 : Int))).toNat z22) 65 0 ((((8 : Int) * (((300 : Int) * t) + c)) + (3 : Int))).toNat z26) 65 0 ((((8 : Int) * (((300 : Int) * t) + c)) + (4 : Int))).toNat z30) 65 0 ((((8 : Int) * (((300 : Int) * t) + c)) + (5 : Int))).toNat z12) 65 0 ((((8 : Int) * (((300 : Int) * t) + c)) + (6 : Int))).toNat z16) 65 0 ((((8 : Int) * (((300 : Int) * t) + c)) + (7 : Int))).toNat (1 : Int)) (fxfr_up (fxfr_up (fxfr_up (fxfr_up (fxfr_up (fxfr_up (fxfr_up (fxfr_up hf rfl) rfl) rfl) rfl) rfl) rfl) rfl) rfl) (by omega) (by omega) (by omega) sm g55 (by omega)
theorem c_StubHouseModel_scan {l : Launch} {k : fxK} {S : fxS} {t : Int} (p0 : SGM S) (p1 : 0 ≤ t ∧ t ≤ 5) (hk : ∀ (S' : fxS) , (fxfr [(65, 9999), (66, 9999), (67, 9999)] S S' ∧ (S' 67 0 (t).toNat = 1) ∧ (SGM S') ∧ (KPA S S')) → k none S') : fC l 70 [.inr (.inr (49, 0)), .inl t] S k := by
  have n57 : KPA S S := KPA_rfl
  refine fxe_70 (Nat.le_of_ble_eq_true rfl) (fxz_70 400 ?_)
  refine And.intro (show 0 ≤ t ∧ t < 6 by omega) ?_
  intro z58 (z58a : (0 : Int) ≤ z58) (z58b : z58 ≤ (1 : Int)) (z58c : z58 = S 67 0 (t).toNat)
  refine And.intro (fun (h59 : (z58 = (0 : Int) : Prop)) => ?_) (fun (h59 : (z58 ≠ (0 : Int) : Prop)) => ?_)
  ·
    refine And.intro (show 0 ≤ t ∧ t < 6 by omega) ?_
    refine And.intro (show (0 : Int) ≤ (1 : Int) ∧ (1 : Int) ≤ (1 : Int) by omega) ?_
    have w60 : (fx_up S 67 0 (t).toNat (1 : Int)) 67 0 (t).toNat = (1 : Int) := fx_up_at _ _ _ _ _
    have g61 : SGM (fx_up S 67 0 (t).toNat (1 : Int)) := fx_pup SGM_stab rfl p0
    have kx : KPX t S (fx_up S 67 0 (t).toNat (1 : Int)) := KPX_0 (by omega)
    refine And.intro (by decide) ?_
    refine And.intro (by decide) ?_
    exact (z_StubHouseModel_scan p0 p1 hk (6001 - (8 : Int)).toNat) (0 : Int) (8 : Int) (fx_up S 67 0 (t).toNat (1 : Int)) (fxfr_up fxfr_rfl rfl) (by omega) (by omega) (by omega) g61 kx (by omega)
  ·
    exact hk S ⟨fxfr_rfl, by omega, p0, n57⟩
theorem z_StubHouseModel_scanAll {l : Launch} {k : fxK} {S : fxS}  (p0 : SGM S) (hk : ∀ (S' : fxS) , (fxfr [(65, 9999), (66, 9999), (67, 9999)] S S' ∧ (SGM S') ∧ (KPA S S')) → k none S') : ∀ m : Nat, (∀ (t : Int) (S1 : fxS), (fxfr [(65, 9999), (66, 9999), (67, 9999)] S S1) → (0 ≤ t ∧ t ≤ 6) → (SGM S1) → (KPA S S1) → 7 - t ≤ (m : Int) → fZ l 71 k 2 [some (.inr (.inr (49, 0))), some (.inl t)] [] S1) := by
  intro m
  induction m with
  | zero =>
    intro t S1 hf i0 i1 i2 hmu
    exfalso
    omega
  | succ m ih =>
    intro t S1 hf i0 i1 i2 hmu
    refine fxz_71 400 ?_
    refine And.intro (fun (h1 : ((6 : Int) ≤ t : Prop)) => ?_) (fun (h1 : (t < (6 : Int) : Prop)) => ?_)
    ·
      exact hk S1 ⟨hf, i1, i2⟩
    ·
      refine c_StubHouseModel_scan (t := t) i1 (show 0 ≤ t ∧ t ≤ 5 by omega) (fun (S2 : fxS) ⟨(f3 : fxfr [(65, 9999), (66, 9999), (67, 9999)] S1 S2), (q4 : S2 67 0 (t).toNat = 1), (g5 : SGM S2), (g6 : KPA S1 S2)⟩ => ?_)
      have g7 : KPA S S2 := KPA_tr i2 g6
      refine And.intro (by decide) (And.intro (show -2147483648 ≤ t + (1 : Int) ∧ t + (1 : Int) < 2147483648 by omega) ?_)
      exact ih (t + (1 : Int)) S2 (fxfr_tr hf f3 rfl) (by omega) g5 g7 (by omega)
theorem c_StubHouseModel_scanAll {l : Launch} {k : fxK} {S : fxS}  (p0 : SGM S) (hk : ∀ (S' : fxS) , (fxfr [(65, 9999), (66, 9999), (67, 9999)] S S' ∧ (SGM S') ∧ (KPA S S')) → k none S') : fC l 71 [.inr (.inr (49, 0))] S k := by
  have n9 : KPA S S := KPA_rfl
  refine fxe_71 (Nat.le_of_ble_eq_true rfl) (fxz_71 400 ?_)
  refine And.intro (by decide) ?_
  exact (z_StubHouseModel_scanAll p0 hk (7 - (0 : Int)).toNat) (0 : Int) S fxfr_rfl (by omega) p0 n9 (by omega)
theorem z_StubHouseModel_isOnTape {l : Launch} {k : fxK} {S : fxS} {d : Int} (p0 : SGM S) (p1 : -2147483648 ≤ d ∧ d < 2147483648) (hk : ∀ (r : Int) (S' : fxS) , (fxfr [(65, 9999), (66, 9999), (67, 9999)] S S' ∧ (0 ≤ r ∧ r ≤ 1) ∧ (SGM S')) → k (some (.inl r)) S') : ∀ m : Nat, (∀ (t : Int) (S1 : fxS), (fxfr [(65, 9999), (66, 9999), (67, 9999)] S S1) → (0 ≤ t ∧ t ≤ 6) → (SGM S1) → (7 - t) * 1000 + 500 ≤ (m : Int) → fZ l 73 k 6 [some (.inr (.inr (49, 0))), some (.inl d), some (.inl t), none] [] S1) ∧ (∀ (t i : Int) (S1 : fxS), (fxfr [(65, 9999), (66, 9999), (67, 9999)] S S1) → (0 ≤ t ∧ t < 6) → (0 ≤ i ∧ i ≤ 285) → (SGM S1) → (7 - t) * 1000 + 300 - i ≤ (m : Int) → fZ l 73 k 14 [some (.inr (.inr (49, 0))), some (.inl d), some (.inl t), some (.inl i)] [] S1) := by
  intro m
  induction m with
  | zero =>
    refine ⟨?_, ?_⟩
    · intro t S1 hf i0 i1 hmu
      exfalso
      omega
    · intro t i S1 hf i0 i1 i2 hmu
      exfalso
      omega
  | succ m ih =>
    refine ⟨?_, ?_⟩
    · intro t S1 hf i0 i1 hmu
      refine fxz_73 400 ?_
      refine And.intro (fun (h1 : ((6 : Int) ≤ t : Prop)) => ?_) (fun (h1 : (t < (6 : Int) : Prop)) => ?_)
      ·
        refine And.intro (show 0 ≤ (0 : Int) ∧ (0 : Int) ≤ 1 by omega) ?_
        exact hk (0 : Int) S1 ⟨hf, by omega, i1⟩
      ·
        refine And.intro (by decide) ?_
        exact ih.2 t (0 : Int) S1 hf (by omega) (by omega) i1 (by omega)
    · intro t i S1 hf i0 i1 i2 hmu
      refine fxz_73 400 ?_
      refine And.intro (show 0 ≤ t ∧ t < 6 by omega) ?_
      intro z2 (z2a : (0 : Int) ≤ z2) (z2b : z2 ≤ (285 : Int)) (z2c : z2 = S1 66 0 (t).toNat)
      refine And.intro (fun (h3 : (z2 ≤ i : Prop)) => ?_) (fun (h3 : (i < z2 : Prop)) => ?_)
      ·
        refine And.intro (by decide) (And.intro (show -2147483648 ≤ t + (1 : Int) ∧ t + (1 : Int) < 2147483648 by omega) ?_)
        exact ih.1 (t + (1 : Int)) S1 hf (by omega) i2 (by omega)
      ·
        refine c_StubHouseModel_seg (t := t) (i := i) (w := (2 : Int)) (show 0 ≤ t ∧ t ≤ 5 by omega) (show 0 ≤ i ∧ i < 300 by omega) (show 0 ≤ (2 : Int) ∧ (2 : Int) < 8 by omega) (fun (z5 : Int) (q6 : z5 = sgN S1 (300 * t + i) (2 : Int) ∧ -2147483648 ≤ z5 ∧ z5 < 2147483648) => ?_)
        refine And.intro (fun (h7 : (z5 ≠ d : Prop)) => ?_) (fun (h7 : (z5 = d : Prop)) => ?_)
        ·
          refine And.intro (by decide) (And.intro (show -2147483648 ≤ i + (1 : Int) ∧ i + (1 : Int) < 2147483648 by omega) ?_)
          exact ih.2 t (i + (1 : Int)) S1 hf (by omega) (by omega) i2 (by omega)
        ·
          refine And.intro (show 0 ≤ (1 : Int) ∧ (1 : Int) ≤ 1 by omega) ?_
          exact hk (1 : Int) S1 ⟨hf, by omega, i2⟩
theorem c_StubHouseModel_isOnTape {l : Launch} {k : fxK} {S : fxS} {d : Int} (p0 : SGM S) (p1 : -2147483648 ≤ d ∧ d < 2147483648) (hk : ∀ (r : Int) (S' : fxS) , (fxfr [(65, 9999), (66, 9999), (67, 9999)] S S' ∧ (0 ≤ r ∧ r ≤ 1) ∧ (SGM S')) → k (some (.inl r)) S') : fC l 73 [.inr (.inr (49, 0)), .inl d] S k := by
  refine fxe_73 (Nat.le_of_ble_eq_true rfl) (fxz_73 400 ?_)
  refine c_StubHouseModel_scanAll  p0 (fun (S9 : fxS) ⟨(f10 : fxfr [(65, 9999), (66, 9999), (67, 9999)] S S9), (g11 : SGM S9), (g12 : KPA S S9)⟩ => ?_)
  refine And.intro (by decide) ?_
  exact (z_StubHouseModel_isOnTape p0 p1 hk ((7 - (0 : Int)) * 1000 + 500).toNat).1 (0 : Int) S9 (fxfr_tr fxfr_rfl f10 rfl) (by omega) g11 (by omega)
theorem c_StubHouseModel_isBeingWritten {l : Launch} {k : fxK} {S : fxS} {d : Int} (p0 : -2147483648 ≤ d ∧ d < 2147483648) (hk : ∀ (r : Int) , (0 ≤ r ∧ r ≤ 1) → k (some (.inl r)) S) : fC l 74 [.inr (.inr (49, 0)), .inl d] S k := by
  refine fxe_74 (Nat.le_of_ble_eq_true rfl) (fxz_74 400 ?_)
  refine And.intro (show 0 ≤ (0 : Int) ∧ (0 : Int) < 2 by omega) ?_
  intro z1 (z1a : (0 : Int) ≤ z1) (z1b : z1 ≤ (5 : Int)) (z1c : z1 = S 72 0 0)
  refine And.intro (fun (h2 : (z1 ≠ (5 : Int) : Prop)) => ?_) (fun (h2 : (z1 = (5 : Int) : Prop)) => ?_)
  ·
    refine And.intro (show 0 ≤ (0 : Int) ∧ (0 : Int) ≤ 1 by omega) ?_
    exact hk (0 : Int) (by omega)
  ·
    intro z3 (z3a : (-2147483648 : Int) ≤ z3) (z3b : z3 ≤ (2147483647 : Int)) (z3c : z3 = S 49 0 53)
    refine And.intro (fun (h4 : (z3 ≠ d : Prop)) => ?_) (fun (h4 : (z3 = d : Prop)) => ?_)
    ·
      refine And.intro (show 0 ≤ (0 : Int) ∧ (0 : Int) ≤ 1 by omega) ?_
      exact hk (0 : Int) (by omega)
    ·
      refine And.intro (show 0 ≤ (1 : Int) ∧ (1 : Int) ≤ 1 by omega) ?_
      exact hk (1 : Int) (by omega)
theorem z_StubHouseModel_fits {l : Launch} {k : fxK} {S : fxS} {f : Int} {t : Int} {p : Int} (p0 : COL S) (p1 : SGM S) (p2 : 0 ≤ f ∧ f < 60) (p3 : 0 ≤ t ∧ t ≤ 5) (p4 : -2147483648 ≤ p ∧ p < 2147483648) (hk : ∀ (r : Int) (S' : fxS) , (fxfr [(65, 9999), (66, 9999), (67, 9999)] S S' ∧ (-2 ≤ r ∧ r ≤ 284 ∧ r ≠ -1 ∧ (0 ≤ r → sgN S' (300 * t + r) 0 = p ∧ sgN S' (300 * t + r) 1 = 1 ∧ sgN S' (300 * t + r) 6 = aN S' f 3)) ∧ (SGM S') ∧ (KPA S S')) → k (some (.inl r)) S') : ∀ m : Nat, (∀ (i : Int) (S1 : fxS), (fxfr [(65, 9999), (66, 9999), (67, 9999)] S S1) → (0 ≤ i ∧ i ≤ 285) → (COL S1) → (SGM S1) → (KPA S S1) → 286 - i ≤ (m : Int) → fZ l 185 k 8 [some (.inr (.inr (49, 0))), some (.inl f), some (.inl t), some (.inl p), some (.inl i), none] [] S1) := by
  intro m
  induction m with
  | zero =>
    intro i S1 hf i0 i1 i2 i3 hmu
    exfalso
    omega
  | succ m ih =>
    intro i S1 hf i0 i1 i2 i3 hmu
    refine fxz_185 400 ?_
    refine And.intro (show 0 ≤ t ∧ t < 6 by omega) ?_
    intro z1 (z1a : (0 : Int) ≤ z1) (z1b : z1 ≤ (285 : Int)) (z1c : z1 = S1 66 0 (t).toNat)
    refine And.intro (fun (h2 : (z1 ≤ i : Prop)) => ?_) (fun (h2 : (i < z1 : Prop)) => ?_)
    ·
      exact hk (-2 : Int) S1 ⟨hf, by omega, i2, i3⟩
    ·
      refine c_StubHouseModel_seg (t := t) (i := i) (w := (0 : Int)) (show 0 ≤ t ∧ t ≤ 5 by omega) (show 0 ≤ i ∧ i < 300 by omega) (show 0 ≤ (0 : Int) ∧ (0 : Int) < 8 by omega) (fun (z3 : Int) (q4 : z3 = sgN S1 (300 * t + i) (0 : Int) ∧ -2147483648 ≤ z3 ∧ z3 < 2147483648) => ?_)
      refine And.intro (fun (h5 : (z3 ≠ p : Prop)) => ?_) (fun (h5 : (z3 = p : Prop)) => ?_)
      ·
        refine And.intro (by decide) ?_
        refine And.intro (fun _ => ?_) (fun h => absurd h (by decide))
        refine And.intro (by decide) (And.intro (show -2147483648 ≤ i + (1 : Int) ∧ i + (1 : Int) < 2147483648 by omega) ?_)
        exact ih (i + (1 : Int)) S1 hf (by omega) i1 i2 i3 (by omega)
      ·
        refine c_StubHouseModel_seg (t := t) (i := i) (w := (1 : Int)) (show 0 ≤ t ∧ t ≤ 5 by omega) (show 0 ≤ i ∧ i < 300 by omega) (show 0 ≤ (1 : Int) ∧ (1 : Int) < 8 by omega) (fun (z7 : Int) (q8 : z7 = sgN S1 (300 * t + i) (1 : Int) ∧ -2147483648 ≤ z7 ∧ z7 < 2147483648) => ?_)
        refine And.intro (fun (h9 : (z7 ≠ (1 : Int) : Prop)) => ?_) (fun (h9 : (z7 = (1 : Int) : Prop)) => ?_)
        ·
          refine And.intro (by decide) ?_
          refine And.intro (fun _ => ?_) (fun h => absurd h (by decide))
          refine And.intro (by decide) (And.intro (show -2147483648 ≤ i + (1 : Int) ∧ i + (1 : Int) < 2147483648 by omega) ?_)
          exact ih (i + (1 : Int)) S1 hf (by omega) i1 i2 i3 (by omega)
        ·
          refine c_StubHouseModel_seg (t := t) (i := i) (w := (7 : Int)) (show 0 ≤ t ∧ t ≤ 5 by omega) (show 0 ≤ i ∧ i < 300 by omega) (show 0 ≤ (7 : Int) ∧ (7 : Int) < 8 by omega) (fun (z11 : Int) (q12 : z11 = sgN S1 (300 * t + i) (7 : Int) ∧ -2147483648 ≤ z11 ∧ z11 < 2147483648) => ?_)
          refine And.intro (fun (h13 : (z11 ≠ (1 : Int) : Prop)) => ?_) (fun (h13 : (z11 = (1 : Int) : Prop)) => ?_)
          ·
            refine And.intro (by decide) ?_
            refine And.intro (fun _ => ?_) (fun h => absurd h (by decide))
            refine And.intro (by decide) (And.intro (show -2147483648 ≤ i + (1 : Int) ∧ i + (1 : Int) < 2147483648 by omega) ?_)
            exact ih (i + (1 : Int)) S1 hf (by omega) i1 i2 i3 (by omega)
          ·
            refine And.intro (by decide) ?_
            refine And.intro (fun h => absurd h (by decide)) (fun _ => ?_)
            refine c_StubHouseModel_seg (t := t) (i := i) (w := (2 : Int)) (show 0 ≤ t ∧ t ≤ 5 by omega) (show 0 ≤ i ∧ i < 300 by omega) (show 0 ≤ (2 : Int) ∧ (2 : Int) < 8 by omega) (fun (z15 : Int) (q16 : z15 = sgN S1 (300 * t + i) (2 : Int) ∧ -2147483648 ≤ z15 ∧ z15 < 2147483648) => ?_)
            refine c_at2 (n := f) i1 (show 0 ≤ f ∧ f < 60 by omega) (fun (z17 : Int) (q18 : z17 = aN S1 f 2 ∧ -2147483648 ≤ z17 ∧ z17 < 2147483648) => ?_)
            refine And.intro (fun (h19 : (z15 ≠ z17 : Prop)) => ?_) (fun (h19 : (z15 = z17 : Prop)) => ?_)
            ·
              refine And.intro (by decide) (And.intro (show -2147483648 ≤ i + (1 : Int) ∧ i + (1 : Int) < 2147483648 by omega) ?_)
              exact ih (i + (1 : Int)) S1 hf (by omega) i1 i2 i3 (by omega)
            ·
              refine c_StubHouseModel_seg (t := t) (i := i) (w := (3 : Int)) (show 0 ≤ t ∧ t ≤ 5 by omega) (show 0 ≤ i ∧ i < 300 by omega) (show 0 ≤ (3 : Int) ∧ (3 : Int) < 8 by omega) (fun (z21 : Int) (q22 : z21 = sgN S1 (300 * t + i) (3 : Int) ∧ -2147483648 ≤ z21 ∧ z21 < 2147483648) => ?_)
              refine c_at4 (n := f) i1 (show 0 ≤ f ∧ f < 60 by omega) (fun (z23 : Int) (q24 : z23 = aN S1 f 4 ∧ -2147483648 ≤ z23 ∧ z23 < 2147483648) => ?_)
              refine And.intro (fun (h25 : (z21 ≠ z23 : Prop)) => ?_) (fun (h25 : (z21 = z23 : Prop)) => ?_)
              ·
                refine And.intro (by decide) (And.intro (show -2147483648 ≤ i + (1 : Int) ∧ i + (1 : Int) < 2147483648 by omega) ?_)
                exact ih (i + (1 : Int)) S1 hf (by omega) i1 i2 i3 (by omega)
              ·
                refine c_StubHouseModel_seg (t := t) (i := i) (w := (6 : Int)) (show 0 ≤ t ∧ t ≤ 5 by omega) (show 0 ≤ i ∧ i < 300 by omega) (show 0 ≤ (6 : Int) ∧ (6 : Int) < 8 by omega) (fun (z27 : Int) (q28 : z27 = sgN S1 (300 * t + i) (6 : Int) ∧ -2147483648 ≤ z27 ∧ z27 < 2147483648) => ?_)
                refine c_at3 (n := f) i1 (show 0 ≤ f ∧ f < 60 by omega) (fun (z29 : Int) (q30 : z29 = aN S1 f 3 ∧ 0 ≤ z29 ∧ z29 ≤ 1024) => ?_)
                refine And.intro (fun (h31 : (z27 ≠ z29 : Prop)) => ?_) (fun (h31 : (z27 = z29 : Prop)) => ?_)
                ·
                  refine And.intro (by decide) (And.intro (show -2147483648 ≤ i + (1 : Int) ∧ i + (1 : Int) < 2147483648 by omega) ?_)
                  exact ih (i + (1 : Int)) S1 hf (by omega) i1 i2 i3 (by omega)
                ·
                  exact hk i S1 ⟨hf, by omega, i2, i3⟩
theorem c_StubHouseModel_fits {l : Launch} {k : fxK} {S : fxS} {f : Int} {t : Int} {p : Int} (p0 : COL S) (p1 : SGM S) (p2 : 0 ≤ f ∧ f < 60) (p3 : 0 ≤ t ∧ t ≤ 5) (p4 : -2147483648 ≤ p ∧ p < 2147483648) (hk : ∀ (r : Int) (S' : fxS) , (fxfr [(65, 9999), (66, 9999), (67, 9999)] S S' ∧ (-2 ≤ r ∧ r ≤ 284 ∧ r ≠ -1 ∧ (0 ≤ r → sgN S' (300 * t + r) 0 = p ∧ sgN S' (300 * t + r) 1 = 1 ∧ sgN S' (300 * t + r) 6 = aN S' f 3)) ∧ (SGM S') ∧ (KPA S S')) → k (some (.inl r)) S') : fC l 185 [.inr (.inr (49, 0)), .inl f, .inl t, .inl p] S k := by
  have n33 : KPA S S := KPA_rfl
  refine fxe_185 (Nat.le_of_ble_eq_true rfl) (fxz_185 400 ?_)
  refine c_StubHouseModel_scan (t := t) p1 (show 0 ≤ t ∧ t ≤ 5 by omega) (fun (S34 : fxS) ⟨(f35 : fxfr [(65, 9999), (66, 9999), (67, 9999)] S S34), (q36 : S34 67 0 (t).toNat = 1), (g37 : SGM S34), (g38 : KPA S S34)⟩ => ?_)
  have g39 : COL S34 := fx_pfr COL_stab f35 rfl p0
  refine And.intro (by decide) ?_
  exact (z_StubHouseModel_fits p0 p1 p2 p3 p4 hk (286 - (0 : Int)).toNat) (0 : Int) S34 (fxfr_tr fxfr_rfl f35 rfl) (by omega) g39 g37 g38 (by omega)
theorem z_StubHouseModel_copyAt {l : Launch} {k : fxK} {S : fxS} {f : Int} {t : Int} {p : Int} (p0 : COL S) (p1 : 0 ≤ f ∧ f < 60) (p2 : -2147483648 ≤ t ∧ t < 2147483648) (p3 : -2147483648 ≤ p ∧ p < 2147483648) (hk : ∀ (r : Int) , (-2 ≤ r ∧ r ≤ 1 ∧ r ≠ -1 ∧ (0 ≤ r → r < aN S f 5) ∧ (0 ≤ r → CAT f t p S) ∧ (r < 0 → ¬ CAT f t p S)) → k (some (.inl r)) S) : ∀ m : Nat, (∀ (j : Int), (0 ≤ j ∧ j ≤ 2) → (NCA f t p j S) → 3 - j ≤ (m : Int) → fZ l 260 k 3 [some (.inr (.inr (49, 0))), some (.inl f), some (.inl t), some (.inl p), some (.inl j)] [] S) := by
  intro m
  induction m with
  | zero =>
    intro j  i0 i1 hmu
    exfalso
    omega
  | succ m ih =>
    intro j  i0 i1 hmu
    refine fxz_260 400 ?_
    refine c_at5 (n := f) p0 (show 0 ≤ f ∧ f < 60 by omega) (fun (z1 : Int) (q2 : z1 = aN S f 5 ∧ 0 ≤ z1 ∧ z1 ≤ 2) => ?_)
    refine And.intro (fun (h3 : (z1 ≤ j : Prop)) => ?_) (fun (h3 : (j < z1 : Prop)) => ?_)
    ·
      exact hk (-2 : Int) (by first | exact ⟨by omega, by omega, by omega, fun _ => by omega, fun _ => ⟨j, by omega, by omega, by omega, by omega⟩, fun h => absurd h (by omega)⟩ | exact ⟨by omega, by omega, by omega, fun h => absurd h (by omega), fun h => absurd h (by omega), fun _ => NCA_cat i1 (by omega)⟩)
    ·
      refine And.intro (show -2147483648 ≤ ((2 : Int) * j) ∧ ((2 : Int) * j) < 2147483648 by omega) ?_
      refine And.intro (show -2147483648 ≤ ((6 : Int) + ((2 : Int) * j)) ∧ ((6 : Int) + ((2 : Int) * j)) < 2147483648 by omega) ?_
      refine c_att (n := f) (w := ((6 : Int) + ((2 : Int) * j))) p0 (show 0 ≤ f ∧ f < 60 by omega) (show ((6 : Int) + ((2 : Int) * j)) = 6 ∨ ((6 : Int) + ((2 : Int) * j)) = 8 by omega) (fun (z4 : Int) (q5 : z4 = aN S f ((6 : Int) + ((2 : Int) * j)) ∧ 0 ≤ z4 ∧ z4 ≤ 5) => ?_)
      refine And.intro (fun (h6 : (z4 ≠ t : Prop)) => ?_) (fun (h6 : (z4 = t : Prop)) => ?_)
      ·
        refine And.intro (by decide) (And.intro (show -2147483648 ≤ j + (1 : Int) ∧ j + (1 : Int) < 2147483648 by omega) ?_)
        exact ih (j + (1 : Int))  (by first | omega | exact NCA_0 | exact NCA_step i1 (by omega)) (by first | omega | exact NCA_0 | exact NCA_step i1 (by omega)) (by omega)
      ·
        refine And.intro (show -2147483648 ≤ ((2 : Int) * j) ∧ ((2 : Int) * j) < 2147483648 by omega) ?_
        refine And.intro (show -2147483648 ≤ ((6 : Int) + ((2 : Int) * j)) ∧ ((6 : Int) + ((2 : Int) * j)) < 2147483648 by omega) ?_
        refine And.intro (show -2147483648 ≤ (((6 : Int) + ((2 : Int) * j)) + (1 : Int)) ∧ (((6 : Int) + ((2 : Int) * j)) + (1 : Int)) < 2147483648 by omega) ?_
        refine c_atp (n := f) (w := (((6 : Int) + ((2 : Int) * j)) + (1 : Int))) p0 (show 0 ≤ f ∧ f < 60 by omega) (show (((6 : Int) + ((2 : Int) * j)) + (1 : Int)) = 7 ∨ (((6 : Int) + ((2 : Int) * j)) + (1 : Int)) = 9 by omega) (fun (z8 : Int) (q9 : z8 = aN S f (((6 : Int) + ((2 : Int) * j)) + (1 : Int)) ∧ 0 ≤ z8 ∧ z8 ≤ 6000) => ?_)
        refine And.intro (fun (h10 : (z8 ≠ p : Prop)) => ?_) (fun (h10 : (z8 = p : Prop)) => ?_)
        ·
          refine And.intro (by decide) (And.intro (show -2147483648 ≤ j + (1 : Int) ∧ j + (1 : Int) < 2147483648 by omega) ?_)
          exact ih (j + (1 : Int))  (by first | omega | exact NCA_0 | exact NCA_step i1 (by omega)) (by first | omega | exact NCA_0 | exact NCA_step i1 (by omega)) (by omega)
        ·
          exact hk j (by first | exact ⟨by omega, by omega, by omega, fun _ => by omega, fun _ => ⟨j, by omega, by omega, by omega, by omega⟩, fun h => absurd h (by omega)⟩ | exact ⟨by omega, by omega, by omega, fun h => absurd h (by omega), fun h => absurd h (by omega), fun _ => NCA_cat i1 (by omega)⟩)
theorem c_StubHouseModel_copyAt {l : Launch} {k : fxK} {S : fxS} {f : Int} {t : Int} {p : Int} (p0 : COL S) (p1 : 0 ≤ f ∧ f < 60) (p2 : -2147483648 ≤ t ∧ t < 2147483648) (p3 : -2147483648 ≤ p ∧ p < 2147483648) (hk : ∀ (r : Int) , (-2 ≤ r ∧ r ≤ 1 ∧ r ≠ -1 ∧ (0 ≤ r → r < aN S f 5) ∧ (0 ≤ r → CAT f t p S) ∧ (r < 0 → ¬ CAT f t p S)) → k (some (.inl r)) S) : fC l 260 [.inr (.inr (49, 0)), .inl f, .inl t, .inl p] S k := by
  refine fxe_260 (Nat.le_of_ble_eq_true rfl) (fxz_260 400 ?_)
  refine And.intro (by decide) ?_
  exact (z_StubHouseModel_copyAt p0 p1 p2 p3 hk (3 - (0 : Int)).toNat) (0 : Int)  (by first | omega | exact NCA_0 | exact NCA_step i1 (by omega)) (by first | omega | exact NCA_0 | exact NCA_step i1 (by omega)) (by omega)
