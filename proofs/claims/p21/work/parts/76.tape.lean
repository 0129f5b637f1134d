/-! contracts: a tape of the class -/
theorem z_numberAt33 {l : Launch} {k : fxK} {S : fxS} {i : Nat} {p : Int} {c : Int} (p0 : 0 ≤ p) (p1 : 0 ≤ c ∧ c ≤ 8 ∧ p + c ≤ 6000) (hk : ∀ (r : Int) , (r = sN S 33 i p c.toNat ∧ -2147483648 ≤ r ∧ r < 2147483648) → k (some (.inl r)) S) : ∀ m : Nat, (∀ (n j : Int), (0 ≤ j ∧ j ≤ c) → (-2147483648 ≤ n ∧ n < 2147483648) → (n = sN S 33 i p j.toNat) → 9 - j ≤ (m : Int) → fZ l 37 k 5 [some (.inr (.inr (33, i))), some (.inl p), some (.inl c), some (.inl n), some (.inl j)] [] S) := by
  intro m
  induction m with
  | zero =>
    intro n j  i0 i1 i2 hmu
    exfalso
    omega
  | succ m ih =>
    intro n j  i0 i1 i2 hmu
    refine fxz_37 400 ?_
    refine And.intro (fun (h1 : (c ≤ j : Prop)) => ?_) (fun (h1 : (j < c : Prop)) => ?_)
    ·
      exact hk n (by first | omega | (subst_vars; exact ⟨by congr 1; omega, by omega, by omega⟩) | exact ⟨by rw [i2]; congr 1; omega, by omega, by omega⟩)
    ·
      refine And.intro (show -2147483648 ≤ (p + j) ∧ (p + j) < 2147483648 by omega) ?_
      refine And.intro (show 0 ≤ (p + j) ∧ (p + j) < 6000 by omega) ?_
      intro z2 (z2a : (-128 : Int) ≤ z2) (z2b : z2 ≤ (127 : Int)) (z2c : z2 = S 33 i ((p + j)).toNat)
      refine And.intro (show (0 : Int) ≤ (255 : Int) by omega) ?_
      intro z3 (z3a : 0 ≤ z3) (z3b : z3 ≤ (255 : Int)) z3d
      have z3c : z3 = z2 % 256 := z3d rfl
      refine And.intro (show -2147483648 ≤ ((8 : Int) * j) ∧ ((8 : Int) * j) < 2147483648 by omega) ?_
      intro z4 z4a z4b (z4c : z4 = fx_bop 0 z3 ((8 : Int) * j))
      intro z5 z5a z5b (z5c : z5 = fx_bop 2 n z4)
      refine And.intro (by decide) ?_
      refine And.intro (by decide) (And.intro (show -2147483648 ≤ j + (1 : Int) ∧ j + (1 : Int) < 2147483648 by omega) ?_)
      exact ih z5 (j + (1 : Int))  (by first | omega | rfl | (subst_vars; rw [sN_succ (by omega)])) (by first | omega | rfl | (subst_vars; rw [sN_succ (by omega)])) (by first | omega | rfl | (subst_vars; rw [sN_succ (by omega)])) (by omega)
theorem c_numberAt33 {l : Launch} {k : fxK} {S : fxS} {i : Nat} {p : Int} {c : Int} (p0 : 0 ≤ p) (p1 : 0 ≤ c ∧ c ≤ 8 ∧ p + c ≤ 6000) (hk : ∀ (r : Int) , (r = sN S 33 i p c.toNat ∧ -2147483648 ≤ r ∧ r < 2147483648) → k (some (.inl r)) S) : fC l 37 [.inr (.inr (33, i)), .inl p, .inl c] S k := by
  refine fxe_37 (Nat.le_of_ble_eq_true rfl) (fxz_37 400 ?_)
  refine And.intro (by decide) ?_
  refine And.intro (by decide) ?_
  exact (z_numberAt33 p0 p1 hk (9 - (0 : Int)).toNat) (0 : Int) (0 : Int)  (by first | omega | rfl | (subst_vars; rw [sN_succ (by omega)])) (by first | omega | rfl | (subst_vars; rw [sN_succ (by omega)])) (by first | omega | rfl | (subst_vars; rw [sN_succ (by omega)])) (by omega)
theorem z_numberAt43 {l : Launch} {k : fxK} {S : fxS} {p : Int} {c : Int} (p0 : 0 ≤ p) (p1 : 0 ≤ c ∧ c ≤ 8 ∧ p + c ≤ 1089) (hk : ∀ (r : Int) , (-2147483648 ≤ r ∧ r < 2147483648) → k (some (.inl r)) S) : ∀ m : Nat, (∀ (n j : Int), (0 ≤ j ∧ j ≤ c) → (-2147483648 ≤ n ∧ n < 2147483648) → 9 - j ≤ (m : Int) → fZ l 37 k 5 [some (.inr (.inr (43, 0))), some (.inl p), some (.inl c), some (.inl n), some (.inl j)] [] S) := by
  intro m
  induction m with
  | zero =>
    intro n j  i0 i1 hmu
    exfalso
    omega
  | succ m ih =>
    intro n j  i0 i1 hmu
    refine fxz_37 400 ?_
    refine And.intro (fun (h1 : (c ≤ j : Prop)) => ?_) (fun (h1 : (j < c : Prop)) => ?_)
    ·
      exact hk n (by omega)
    ·
      refine And.intro (show -2147483648 ≤ (p + j) ∧ (p + j) < 2147483648 by omega) ?_
      refine And.intro (show 0 ≤ (p + j) ∧ (p + j) < 1089 by omega) ?_
      intro z2 (z2a : (-128 : Int) ≤ z2) (z2b : z2 ≤ (127 : Int)) (z2c : z2 = S 43 0 ((p + j)).toNat)
      refine And.intro (show (0 : Int) ≤ (255 : Int) by omega) ?_
      intro z3 (z3a : 0 ≤ z3) (z3b : z3 ≤ (255 : Int)) z3d
      have z3c : z3 = z2 % 256 := z3d rfl
      refine And.intro (show -2147483648 ≤ ((8 : Int) * j) ∧ ((8 : Int) * j) < 2147483648 by omega) ?_
      intro z4 z4a z4b (z4c : z4 = fx_bop 0 z3 ((8 : Int) * j))
      intro z5 z5a z5b (z5c : z5 = fx_bop 2 n z4)
      refine And.intro (by decide) ?_
      refine And.intro (by decide) (And.intro (show -2147483648 ≤ j + (1 : Int) ∧ j + (1 : Int) < 2147483648 by omega) ?_)
      exact ih z5 (j + (1 : Int))  (by omega) (by omega) (by omega)
theorem c_numberAt43 {l : Launch} {k : fxK} {S : fxS} {p : Int} {c : Int} (p0 : 0 ≤ p) (p1 : 0 ≤ c ∧ c ≤ 8 ∧ p + c ≤ 1089) (hk : ∀ (r : Int) , (-2147483648 ≤ r ∧ r < 2147483648) → k (some (.inl r)) S) : fC l 37 [.inr (.inr (43, 0)), .inl p, .inl c] S k := by
  refine fxe_37 (Nat.le_of_ble_eq_true rfl) (fxz_37 400 ?_)
  refine And.intro (by decide) ?_
  refine And.intro (by decide) ?_
  exact (z_numberAt43 p0 p1 hk (9 - (0 : Int)).toNat) (0 : Int) (0 : Int)  (by omega) (by omega) (by omega)
theorem z_checkOf33 {l : Launch} {k : fxK} {S : fxS} {i : Nat} {f : Int} {e : Int} (p0 : 0 ≤ f ∧ f ≤ 6000) (p1 : e ≤ 6000) (hk : ∀ (r : Int) , (-2147483648 ≤ r ∧ r < 2147483648) → k (some (.inl r)) S) : ∀ m : Nat, (∀ (h j : Int), (0 ≤ j ∧ j ≤ 6000) → (-2147483648 ≤ h ∧ h < 2147483648) → 6001 - j ≤ (m : Int) → fZ l 42 k 6 [some (.inr (.inr (33, i))), none, some (.inl e), some (.inl h), some (.inl j)] [] S) := by
  intro m
  induction m with
  | zero =>
    intro h j  i0 i1 hmu
    exfalso
    omega
  | succ m ih =>
    intro h j  i0 i1 hmu
    refine fxz_42 400 ?_
    refine And.intro (fun (h1 : (e ≤ j : Prop)) => ?_) (fun (h1 : (j < e : Prop)) => ?_)
    ·
      exact hk h (by omega)
    ·
      refine And.intro (show 0 ≤ j ∧ j < 6000 by omega) ?_
      intro z2 (z2a : (-128 : Int) ≤ z2) (z2b : z2 ≤ (127 : Int)) (z2c : z2 = S 33 i (j).toNat)
      refine And.intro (show (0 : Int) ≤ (255 : Int) by omega) ?_
      intro z3 (z3a : 0 ≤ z3) (z3b : z3 ≤ (255 : Int)) z3d
      have z3c : z3 = z2 % 256 := z3d rfl
      intro z4 z4a z4b (z4c : z4 = fx_bop 3 h z3)
      intro z5 (z5a : -2147483648 ≤ z5) (z5b : z5 < 2147483648) (z5c : -2147483648 ≤ (z4 * (16777619 : Int)) ∧ (z4 * (16777619 : Int)) < 2147483648 → z5 = (z4 * (16777619 : Int)))
      refine And.intro (by decide) ?_
      intro z6 z6a z6b (z6c : z6 = fx_bop 1 z5 (15 : Int))
      intro z7 z7a z7b (z7c : z7 = fx_bop 3 z5 z6)
      refine And.intro (by decide) ?_
      refine And.intro (by decide) (And.intro (show -2147483648 ≤ j + (1 : Int) ∧ j + (1 : Int) < 2147483648 by omega) ?_)
      exact ih z7 (j + (1 : Int))  (by omega) (by omega) (by omega)
theorem c_checkOf33 {l : Launch} {k : fxK} {S : fxS} {i : Nat} {f : Int} {e : Int} (p0 : 0 ≤ f ∧ f ≤ 6000) (p1 : e ≤ 6000) (hk : ∀ (r : Int) , (-2147483648 ≤ r ∧ r < 2147483648) → k (some (.inl r)) S) : fC l 42 [.inr (.inr (33, i)), .inl f, .inl e] S k := by
  refine fxe_42 (Nat.le_of_ble_eq_true rfl) (fxz_42 400 ?_)
  refine And.intro (by decide) ?_
  refine And.intro (by decide) ?_
  exact (z_checkOf33 p0 p1 hk (6001 - f).toNat) (17 : Int) f  (by omega) (by omega) (by omega)
theorem z_checkOf43 {l : Launch} {k : fxK} {S : fxS} {f : Int} {e : Int} (p0 : 0 ≤ f ∧ f ≤ 1089) (p1 : e ≤ 1089) (hk : ∀ (r : Int) , (-2147483648 ≤ r ∧ r < 2147483648) → k (some (.inl r)) S) : ∀ m : Nat, (∀ (h j : Int), (0 ≤ j ∧ j ≤ 1089) → (-2147483648 ≤ h ∧ h < 2147483648) → 1090 - j ≤ (m : Int) → fZ l 42 k 6 [some (.inr (.inr (43, 0))), none, some (.inl e), some (.inl h), some (.inl j)] [] S) := by
  intro m
  induction m with
  | zero =>
    intro h j  i0 i1 hmu
    exfalso
    omega
  | succ m ih =>
    intro h j  i0 i1 hmu
    refine fxz_42 400 ?_
    refine And.intro (fun (h1 : (e ≤ j : Prop)) => ?_) (fun (h1 : (j < e : Prop)) => ?_)
    ·
      exact hk h (by omega)
    ·
      refine And.intro (show 0 ≤ j ∧ j < 1089 by omega) ?_
      intro z2 (z2a : (-128 : Int) ≤ z2) (z2b : z2 ≤ (127 : Int)) (z2c : z2 = S 43 0 (j).toNat)
      refine And.intro (show (0 : Int) ≤ (255 : Int) by omega) ?_
      intro z3 (z3a : 0 ≤ z3) (z3b : z3 ≤ (255 : Int)) z3d
      have z3c : z3 = z2 % 256 := z3d rfl
      intro z4 z4a z4b (z4c : z4 = fx_bop 3 h z3)
      intro z5 (z5a : -2147483648 ≤ z5) (z5b : z5 < 2147483648) (z5c : -2147483648 ≤ (z4 * (16777619 : Int)) ∧ (z4 * (16777619 : Int)) < 2147483648 → z5 = (z4 * (16777619 : Int)))
      refine And.intro (by decide) ?_
      intro z6 z6a z6b (z6c : z6 = fx_bop 1 z5 (15 : Int))
      intro z7 z7a z7b (z7c : z7 = fx_bop 3 z5 z6)
      refine And.intro (by decide) ?_
      refine And.intro (by decide) (And.intro (show -2147483648 ≤ j + (1 : Int) ∧ j + (1 : Int) < 2147483648 by omega) ?_)
      exact ih z7 (j + (1 : Int))  (by omega) (by omega) (by omega)
theorem c_checkOf43 {l : Launch} {k : fxK} {S : fxS} {f : Int} {e : Int} (p0 : 0 ≤ f ∧ f ≤ 1089) (p1 : e ≤ 1089) (hk : ∀ (r : Int) , (-2147483648 ≤ r ∧ r < 2147483648) → k (some (.inl r)) S) : fC l 42 [.inr (.inr (43, 0)), .inl f, .inl e] S k := by
  refine fxe_42 (Nat.le_of_ble_eq_true rfl) (fxz_42 400 ?_)
  refine And.intro (by decide) ?_
  refine And.intro (by decide) ?_
  exact (z_checkOf43 p0 p1 hk (1090 - f).toNat) (17 : Int) f  (by omega) (by omega) (by omega)
theorem c_Tape_byteAt {l : Launch} {k : fxK} {S : fxS} {i : Nat} {p : Int} (p0 : 0 ≤ p ∧ p < 6000) (hk : ∀ (r : Int) , (r = S 33 i p.toNat % 256 ∧ 0 ≤ r ∧ r ≤ 255) → k (some (.inl r)) S) : fC l 35 [.inr (.inr (32, i)), .inl p] S k := by
  refine fxe_35 (Nat.le_of_ble_eq_true rfl) (fxz_35 400 ?_)
  refine And.intro (show 0 ≤ p ∧ p < 6000 by omega) ?_
  intro z1 (z1a : (-128 : Int) ≤ z1) (z1b : z1 ≤ (127 : Int)) (z1c : z1 = S 33 i (p).toNat)
  refine And.intro (show (0 : Int) ≤ (255 : Int) by omega) ?_
  intro z2 (z2a : 0 ≤ z2) (z2b : z2 ≤ (255 : Int)) z2d
  have z2c : z2 = z1 % 256 := z2d rfl
  exact hk z2 (by omega)
theorem c_Tape_sortAt {l : Launch} {k : fxK} {S : fxS} {i : Nat} {p : Int} (p0 : 0 ≤ p ∧ p < 5999) (hk : ∀ (r : Int) , (r = S 33 i (p + 1).toNat % 256 ∧ 0 ≤ r ∧ r ≤ 255) → k (some (.inl r)) S) : fC l 36 [.inr (.inr (32, i)), .inl p] S k := by
  refine fxe_36 (Nat.le_of_ble_eq_true rfl) (fxz_36 400 ?_)
  refine And.intro (show -2147483648 ≤ (p + (1 : Int)) ∧ (p + (1 : Int)) < 2147483648 by omega) ?_
  refine c_Tape_byteAt (i := i) (p := (p + (1 : Int))) (show 0 ≤ (p + (1 : Int)) ∧ (p + (1 : Int)) < 6000 by omega) (fun (z1 : Int) (q2 : z1 = S 33 i (p + (1 : Int)).toNat % 256 ∧ 0 ≤ z1 ∧ z1 ≤ 255) => ?_)
  exact hk z1 (by omega)
theorem c_Tape_depthAt {l : Launch} {k : fxK} {S : fxS} {i : Nat} {p : Int} (p0 : 0 ≤ p ∧ p < 5986) (hk : ∀ (r : Int) , (r = (S 33 i (p + 14).toNat % 256) ∧ 0 ≤ r ∧ r ≤ 255) → k (some (.inl r)) S) : fC l 39 [.inr (.inr (32, i)), .inl p] S k := by
  refine fxe_39 (Nat.le_of_ble_eq_true rfl) (fxz_39 400 ?_)
  refine And.intro (show -2147483648 ≤ (p + (14 : Int)) ∧ (p + (14 : Int)) < 2147483648 by omega) ?_
  refine And.intro (show 0 ≤ (p + (14 : Int)) ∧ (p + (14 : Int)) < 6000 by omega) ?_
  intro z1 (z1a : (-128 : Int) ≤ z1) (z1b : z1 ≤ (127 : Int)) (z1c : z1 = S 33 i ((p + (14 : Int))).toNat)
  refine And.intro (show (0 : Int) ≤ (255 : Int) by omega) ?_
  intro z2 (z2a : 0 ≤ z2) (z2b : z2 ≤ (255 : Int)) z2d
  have z2c : z2 = z1 % 256 := z2d rfl
  exact hk z2 (by omega)
theorem c_Tape_versionAt {l : Launch} {k : fxK} {S : fxS} {i : Nat} {p : Int} (p0 : 0 ≤ p ∧ p ≤ 5990) (hk : ∀ (r : Int) , (-2147483648 ≤ r ∧ r < 2147483648) → k (some (.inl r)) S) : fC l 172 [.inr (.inr (32, i)), .inl p] S k := by
  refine fxe_172 (Nat.le_of_ble_eq_true rfl) (fxz_172 400 ?_)
  refine And.intro (show -2147483648 ≤ (p + (6 : Int)) ∧ (p + (6 : Int)) < 2147483648 by omega) ?_
  refine c_numberAt33 (i := i) (p := (p + (6 : Int))) (c := (4 : Int)) (show 0 ≤ (p + (6 : Int)) by omega) (show 0 ≤ (4 : Int) ∧ (4 : Int) ≤ 8 ∧ (p + (6 : Int)) + (4 : Int) ≤ 6000 by omega) (fun (z1 : Int) (q2 : z1 = sN S 33 i (p + (6 : Int)) (4 : Int).toNat ∧ -2147483648 ≤ z1 ∧ z1 < 2147483648) => ?_)
  exact hk z1 (by omega)
theorem c_Tape_isGivenAt {l : Launch} {k : fxK} {S : fxS} {i : Nat} {p : Int} (p0 : 0 ≤ p ∧ p ≤ 5996) (hk : ∀ (r : Int) , (r = 0 ∨ r = 1) → k (some (.inl r)) S) : fC l 38 [.inr (.inr (32, i)), .inl p] S k := by
  refine fxe_38 (Nat.le_of_ble_eq_true rfl) (fxz_38 400 ?_)
  refine c_numberAt33 (i := i) (p := p) (c := (4 : Int)) (show 0 ≤ p by omega) (show 0 ≤ (4 : Int) ∧ (4 : Int) ≤ 8 ∧ p + (4 : Int) ≤ 6000 by omega) (fun (z1 : Int) (q2 : z1 = sN S 33 i p (4 : Int).toNat ∧ -2147483648 ≤ z1 ∧ z1 < 2147483648) => ?_)
  refine And.intro (by decide) ?_
  refine And.intro (fun (h3 : (z1 < (1 : Int) : Prop)) => ?_) (fun (h3 : ((1 : Int) ≤ z1 : Prop)) => ?_)
  ·
    refine And.intro (show 0 ≤ (0 : Int) ∧ (0 : Int) ≤ 1 by omega) ?_
    exact hk (0 : Int) (by omega)
  ·
    refine And.intro (fun (h4 : ((16777215 : Int) < z1 : Prop)) => ?_) (fun (h4 : (z1 ≤ (16777215 : Int) : Prop)) => ?_)
    ·
      refine And.intro (show 0 ≤ (0 : Int) ∧ (0 : Int) ≤ 1 by omega) ?_
      exact hk (0 : Int) (by omega)
    ·
      refine And.intro (show 0 ≤ (1 : Int) ∧ (1 : Int) ≤ 1 by omega) ?_
      exact hk (1 : Int) (by omega)
theorem c_Tape_sizeAt {l : Launch} {k : fxK} {S : fxS} {i : Nat} {p : Int} (p0 : 0 ≤ p ∧ p < 5986 ∧ p + 17 + 8 * (S 33 i (p + 14).toNat % 256) ≤ 6000) (hk : ∀ (r : Int) , (r = sN S 33 i (p + 15 + 8 * (S 33 i (p + 14).toNat % 256)) 2 ∧ 0 ≤ r ∧ r ≤ 65535) → k (some (.inl r)) S) : fC l 40 [.inr (.inr (32, i)), .inl p] S k := by
  refine fxe_40 (Nat.le_of_ble_eq_true rfl) (fxz_40 400 ?_)
  refine And.intro (show -2147483648 ≤ (p + (15 : Int)) ∧ (p + (15 : Int)) < 2147483648 by omega) ?_
  refine c_Tape_depthAt (i := i) (p := p) (show 0 ≤ p ∧ p < 5986 by omega) (fun (z1 : Int) (q2 : z1 = (S 33 i (p + 14).toNat % 256) ∧ 0 ≤ z1 ∧ z1 ≤ 255) => ?_)
  refine And.intro (show -2147483648 ≤ ((8 : Int) * z1) ∧ ((8 : Int) * z1) < 2147483648 by omega) ?_
  refine And.intro (show -2147483648 ≤ ((p + (15 : Int)) + ((8 : Int) * z1)) ∧ ((p + (15 : Int)) + ((8 : Int) * z1)) < 2147483648 by omega) ?_
  refine c_numberAt33 (i := i) (p := ((p + (15 : Int)) + ((8 : Int) * z1))) (c := (2 : Int)) (show 0 ≤ ((p + (15 : Int)) + ((8 : Int) * z1)) by omega) (show 0 ≤ (2 : Int) ∧ (2 : Int) ≤ 8 ∧ ((p + (15 : Int)) + ((8 : Int) * z1)) + (2 : Int) ≤ 6000 by omega) (fun (z3 : Int) (q4 : z3 = sN S 33 i ((p + (15 : Int)) + ((8 : Int) * z1)) (2 : Int).toNat ∧ -2147483648 ≤ z3 ∧ z3 < 2147483648) => ?_)
  exact hk z3 (by first | omega | (subst_vars; exact ⟨rfl, sN_2 _ _ _ _⟩) | (obtain ⟨qa, -⟩ := q4; subst qa; obtain ⟨qb, -⟩ := q2; subst qb; exact ⟨rfl, sN_2 _ _ _ _⟩))
theorem c_Tape_wholeLength {l : Launch} {k : fxK} {S : fxS} {i : Nat} {p : Int} (p0 : 0 ≤ p ∧ p < 5986 ∧ p + 17 + 8 * (S 33 i (p + 14).toNat % 256) ≤ 6000) (hk : ∀ (r : Int) , ((S 33 i (p + 1).toNat % 256 = 1 → r = 25 + 8 * (S 33 i (p + 14).toNat % 256) + sN S 33 i (p + 15 + 8 * (S 33 i (p + 14).toNat % 256)) 2) ∧ (S 33 i (p + 1).toNat % 256 ≠ 1 → r = 21 + 8 * (S 33 i (p + 14).toNat % 256)) ∧ 0 ≤ r ∧ r ≤ 100000) → k (some (.inl r)) S) : fC l 41 [.inr (.inr (32, i)), .inl p] S k := by
  refine fxe_41 (Nat.le_of_ble_eq_true rfl) (fxz_41 400 ?_)
  refine c_Tape_sortAt (i := i) (p := p) (show 0 ≤ p ∧ p < 5999 by omega) (fun (z1 : Int) (q2 : z1 = S 33 i (p + 1).toNat % 256 ∧ 0 ≤ z1 ∧ z1 ≤ 255) => ?_)
  refine And.intro (fun (h3 : (z1 ≠ (1 : Int) : Prop)) => ?_) (fun (h3 : (z1 = (1 : Int) : Prop)) => ?_)
  ·
    refine And.intro (by decide) ?_
    refine c_Tape_depthAt (i := i) (p := p) (show 0 ≤ p ∧ p < 5986 by omega) (fun (z4 : Int) (q5 : z4 = (S 33 i (p + 14).toNat % 256) ∧ 0 ≤ z4 ∧ z4 ≤ 255) => ?_)
    refine And.intro (show -2147483648 ≤ ((8 : Int) * z4) ∧ ((8 : Int) * z4) < 2147483648 by omega) ?_
    refine And.intro (show -2147483648 ≤ ((21 : Int) + ((8 : Int) * z4)) ∧ ((21 : Int) + ((8 : Int) * z4)) < 2147483648 by omega) ?_
    refine And.intro (show -2147483648 ≤ (((21 : Int) + ((8 : Int) * z4)) + (0 : Int)) ∧ (((21 : Int) + ((8 : Int) * z4)) + (0 : Int)) < 2147483648 by omega) ?_
    exact hk (((21 : Int) + ((8 : Int) * z4)) + (0 : Int)) (by omega)
  ·
    refine c_Tape_sizeAt (i := i) (p := p) (show 0 ≤ p ∧ p < 5986 ∧ p + 17 + 8 * (S 33 i (p + 14).toNat % 256) ≤ 6000 by omega) (fun (z6 : Int) (q7 : z6 = sN S 33 i (p + 15 + 8 * (S 33 i (p + 14).toNat % 256)) 2 ∧ 0 ≤ z6 ∧ z6 ≤ 65535) => ?_)
    refine And.intro (show -2147483648 ≤ (z6 + (4 : Int)) ∧ (z6 + (4 : Int)) < 2147483648 by omega) ?_
    refine And.intro (by decide) ?_
    refine c_Tape_depthAt (i := i) (p := p) (show 0 ≤ p ∧ p < 5986 by omega) (fun (z8 : Int) (q9 : z8 = (S 33 i (p + 14).toNat % 256) ∧ 0 ≤ z8 ∧ z8 ≤ 255) => ?_)
    refine And.intro (show -2147483648 ≤ ((8 : Int) * z8) ∧ ((8 : Int) * z8) < 2147483648 by omega) ?_
    refine And.intro (show -2147483648 ≤ ((21 : Int) + ((8 : Int) * z8)) ∧ ((21 : Int) + ((8 : Int) * z8)) < 2147483648 by omega) ?_
    refine And.intro (show -2147483648 ≤ (((21 : Int) + ((8 : Int) * z8)) + (z6 + (4 : Int))) ∧ (((21 : Int) + ((8 : Int) * z8)) + (z6 + (4 : Int))) < 2147483648 by omega) ?_
    exact hk (((21 : Int) + ((8 : Int) * z8)) + (z6 + (4 : Int))) (by omega)
theorem c_Tape_dataPlace {l : Launch} {k : fxK} {S : fxS} {i : Nat} {p : Int} (p0 : 0 ≤ p ∧ p < 5986) (hk : ∀ (r : Int) , (r = p + 21 + 8 * (S 33 i (p + 14).toNat % 256)) → k (some (.inl r)) S) : fC l 44 [.inr (.inr (32, i)), .inl p] S k := by
  refine fxe_44 (Nat.le_of_ble_eq_true rfl) (fxz_44 400 ?_)
  refine And.intro (show -2147483648 ≤ (p + (21 : Int)) ∧ (p + (21 : Int)) < 2147483648 by omega) ?_
  refine c_Tape_depthAt (i := i) (p := p) (show 0 ≤ p ∧ p < 5986 by omega) (fun (z1 : Int) (q2 : z1 = (S 33 i (p + 14).toNat % 256) ∧ 0 ≤ z1 ∧ z1 ≤ 255) => ?_)
  refine And.intro (show -2147483648 ≤ ((8 : Int) * z1) ∧ ((8 : Int) * z1) < 2147483648 by omega) ?_
  refine And.intro (show -2147483648 ≤ ((p + (21 : Int)) + ((8 : Int) * z1)) ∧ ((p + (21 : Int)) + ((8 : Int) * z1)) < 2147483648 by omega) ?_
  exact hk ((p + (21 : Int)) + ((8 : Int) * z1)) (by omega)
