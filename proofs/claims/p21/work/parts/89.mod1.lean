/-! contracts of the reference: nodes -/
theorem c_StubHouseModel_in {l : Launch} {k : fxK} {S : fxS} {x : Int} {a : Int} {b : Int}  (hk : ∀ (r : Int) , (0 ≤ r ∧ r ≤ 1 ∧ (r = 1 → a ≤ x ∧ x ≤ b) ∧ (r = 0 → x < a ∨ b < x)) → k (some (.inl r)) S) : fC l 17 [.inr (.inl x), .inr (.inl a), .inr (.inl b)] S k := by
  refine fxe_17 (Nat.le_of_ble_eq_true rfl) (fxz_17 400 ?_)
  refine And.intro (fun (_ : x < a) => ?_) (And.intro (fun (_ : x = a) => ?_) (fun (_ : a < x) => ?_))
  ·
    refine And.intro (fun _ => ?_) (fun h => absurd h (by decide))
    refine And.intro (show 0 ≤ (0 : Int) ∧ (0 : Int) ≤ 1 by omega) ?_
    exact hk (0 : Int) (by omega)
  ·
    refine And.intro (fun h => absurd h (by decide)) (fun _ => ?_)
    refine And.intro (fun (_ : x < b) => ?_) (And.intro (fun (_ : x = b) => ?_) (fun (_ : b < x) => ?_))
    ·
      refine And.intro (fun h => absurd h (by decide)) (fun _ => ?_)
      refine And.intro (show 0 ≤ (1 : Int) ∧ (1 : Int) ≤ 1 by omega) ?_
      exact hk (1 : Int) (by omega)
    ·
      refine And.intro (fun h => absurd h (by decide)) (fun _ => ?_)
      refine And.intro (show 0 ≤ (1 : Int) ∧ (1 : Int) ≤ 1 by omega) ?_
      exact hk (1 : Int) (by omega)
    ·
      refine And.intro (fun _ => ?_) (fun h => absurd h (by decide))
      refine And.intro (show 0 ≤ (0 : Int) ∧ (0 : Int) ≤ 1 by omega) ?_
      exact hk (0 : Int) (by omega)
  ·
    refine And.intro (fun h => absurd h (by decide)) (fun _ => ?_)
    refine And.intro (fun (_ : x < b) => ?_) (And.intro (fun (_ : x = b) => ?_) (fun (_ : b < x) => ?_))
    ·
      refine And.intro (fun h => absurd h (by decide)) (fun _ => ?_)
      refine And.intro (show 0 ≤ (1 : Int) ∧ (1 : Int) ≤ 1 by omega) ?_
      exact hk (1 : Int) (by omega)
    ·
      refine And.intro (fun h => absurd h (by decide)) (fun _ => ?_)
      refine And.intro (show 0 ≤ (1 : Int) ∧ (1 : Int) ≤ 1 by omega) ?_
      exact hk (1 : Int) (by omega)
    ·
      refine And.intro (fun _ => ?_) (fun h => absurd h (by decide))
      refine And.intro (show 0 ≤ (0 : Int) ∧ (0 : Int) ≤ 1 by omega) ?_
      exact hk (0 : Int) (by omega)
theorem c_StubHouseModel_at {l : Launch} {k : fxK} {S : fxS} {n : Int} {w : Int} (p0 : COL S) (p1 : 0 ≤ n ∧ n < 60) (p2 : 0 ≤ w ∧ w < 42) (hk : ∀ (r : Int) , (r = aN S n w ∧ (w = 0 → 0 ≤ r ∧ r ≤ 2) ∧ (w = 1 → -1 ≤ r ∧ r < 60) ∧ (w = 3 → 0 ≤ r ∧ r ≤ 1024) ∧ (w = 5 → 0 ≤ r ∧ r ≤ 2) ∧ (w = 6 ∨ w = 8 → 0 ≤ r ∧ r ≤ 5) ∧ (w = 7 ∨ w = 9 → 0 ≤ r ∧ r ≤ 6000) ∧ (10 ≤ w → -1 ≤ r ∧ r ≤ 207)) → k (some (.inl r)) S) : fC l 18 [.inr (.inr (49, 0)), .inl n, .inl w] S k := by
  refine fxe_18 (Nat.le_of_ble_eq_true rfl) (fxz_18 400 ?_)
  refine And.intro (show -2147483648 ≤ ((42 : Int) * n) ∧ ((42 : Int) * n) < 2147483648 by omega) ?_
  refine And.intro (show -2147483648 ≤ (((42 : Int) * n) + w) ∧ (((42 : Int) * n) + w) < 2147483648 by omega) ?_
  refine And.intro (show 0 ≤ (((42 : Int) * n) + w) ∧ (((42 : Int) * n) + w) < 2561 by omega) ?_
  intro z1 (z1a : (-2147483648 : Int) ≤ z1) (z1b : z1 ≤ (2147483647 : Int)) (z1c : z1 = S 50 0 ((((42 : Int) * n) + w)).toNat)
  exact hk z1 (by exact COL_at p0 (by omega) (by omega) (by assumption))
theorem c_at0 {l : Launch} {k : fxK} {S : fxS} {n : Int} (p0 : COL S) (p1 : 0 ≤ n ∧ n < 60) (hk : ∀ (r : Int) , (r = aN S n 0 ∧ 0 ≤ r ∧ r ≤ 2) → k (some (.inl r)) S) : fC l 18 [.inr (.inr (49, 0)), .inl n, .inl (0 : Int)] S k := by
  refine fxe_18 (Nat.le_of_ble_eq_true rfl) (fxz_18 400 ?_)
  refine And.intro (show -2147483648 ≤ ((42 : Int) * n) ∧ ((42 : Int) * n) < 2147483648 by omega) ?_
  refine And.intro (show -2147483648 ≤ (((42 : Int) * n) + (0 : Int)) ∧ (((42 : Int) * n) + (0 : Int)) < 2147483648 by omega) ?_
  refine And.intro (show 0 ≤ (((42 : Int) * n) + (0 : Int)) ∧ (((42 : Int) * n) + (0 : Int)) < 2561 by omega) ?_
  intro z1 (z1a : (-2147483648 : Int) ≤ z1) (z1b : z1 ≤ (2147483647 : Int)) (z1c : z1 = S 50 0 ((((42 : Int) * n) + (0 : Int))).toNat)
  exact hk z1 (by have ca := COL_at (w := 0) p0 (by omega) (by omega) (by assumption); exact ⟨ca.1, by omega⟩)
theorem c_at1 {l : Launch} {k : fxK} {S : fxS} {n : Int} (p0 : COL S) (p1 : 0 ≤ n ∧ n < 60) (hk : ∀ (r : Int) , (r = aN S n 1 ∧ -1 ≤ r ∧ r < 60) → k (some (.inl r)) S) : fC l 18 [.inr (.inr (49, 0)), .inl n, .inl (1 : Int)] S k := by
  refine fxe_18 (Nat.le_of_ble_eq_true rfl) (fxz_18 400 ?_)
  refine And.intro (show -2147483648 ≤ ((42 : Int) * n) ∧ ((42 : Int) * n) < 2147483648 by omega) ?_
  refine And.intro (show -2147483648 ≤ (((42 : Int) * n) + (1 : Int)) ∧ (((42 : Int) * n) + (1 : Int)) < 2147483648 by omega) ?_
  refine And.intro (show 0 ≤ (((42 : Int) * n) + (1 : Int)) ∧ (((42 : Int) * n) + (1 : Int)) < 2561 by omega) ?_
  intro z1 (z1a : (-2147483648 : Int) ≤ z1) (z1b : z1 ≤ (2147483647 : Int)) (z1c : z1 = S 50 0 ((((42 : Int) * n) + (1 : Int))).toNat)
  exact hk z1 (by have ca := COL_at (w := 1) p0 (by omega) (by omega) (by assumption); exact ⟨ca.1, by omega⟩)
theorem c_at2 {l : Launch} {k : fxK} {S : fxS} {n : Int} (p0 : COL S) (p1 : 0 ≤ n ∧ n < 60) (hk : ∀ (r : Int) , (r = aN S n 2 ∧ -2147483648 ≤ r ∧ r < 2147483648) → k (some (.inl r)) S) : fC l 18 [.inr (.inr (49, 0)), .inl n, .inl (2 : Int)] S k := by
  refine fxe_18 (Nat.le_of_ble_eq_true rfl) (fxz_18 400 ?_)
  refine And.intro (show -2147483648 ≤ ((42 : Int) * n) ∧ ((42 : Int) * n) < 2147483648 by omega) ?_
  refine And.intro (show -2147483648 ≤ (((42 : Int) * n) + (2 : Int)) ∧ (((42 : Int) * n) + (2 : Int)) < 2147483648 by omega) ?_
  refine And.intro (show 0 ≤ (((42 : Int) * n) + (2 : Int)) ∧ (((42 : Int) * n) + (2 : Int)) < 2561 by omega) ?_
  intro z1 (z1a : (-2147483648 : Int) ≤ z1) (z1b : z1 ≤ (2147483647 : Int)) (z1c : z1 = S 50 0 ((((42 : Int) * n) + (2 : Int))).toNat)
  exact hk z1 (by have ca := COL_at (w := 2) p0 (by omega) (by omega) (by assumption); exact ⟨ca.1, by omega⟩)
theorem c_at3 {l : Launch} {k : fxK} {S : fxS} {n : Int} (p0 : COL S) (p1 : 0 ≤ n ∧ n < 60) (hk : ∀ (r : Int) , (r = aN S n 3 ∧ 0 ≤ r ∧ r ≤ 1024) → k (some (.inl r)) S) : fC l 18 [.inr (.inr (49, 0)), .inl n, .inl (3 : Int)] S k := by
  refine fxe_18 (Nat.le_of_ble_eq_true rfl) (fxz_18 400 ?_)
  refine And.intro (show -2147483648 ≤ ((42 : Int) * n) ∧ ((42 : Int) * n) < 2147483648 by omega) ?_
  refine And.intro (show -2147483648 ≤ (((42 : Int) * n) + (3 : Int)) ∧ (((42 : Int) * n) + (3 : Int)) < 2147483648 by omega) ?_
  refine And.intro (show 0 ≤ (((42 : Int) * n) + (3 : Int)) ∧ (((42 : Int) * n) + (3 : Int)) < 2561 by omega) ?_
  intro z1 (z1a : (-2147483648 : Int) ≤ z1) (z1b : z1 ≤ (2147483647 : Int)) (z1c : z1 = S 50 0 ((((42 : Int) * n) + (3 : Int))).toNat)
  exact hk z1 (by have ca := COL_at (w := 3) p0 (by omega) (by omega) (by assumption); exact ⟨ca.1, by omega⟩)
theorem c_at4 {l : Launch} {k : fxK} {S : fxS} {n : Int} (p0 : COL S) (p1 : 0 ≤ n ∧ n < 60) (hk : ∀ (r : Int) , (r = aN S n 4 ∧ -2147483648 ≤ r ∧ r < 2147483648) → k (some (.inl r)) S) : fC l 18 [.inr (.inr (49, 0)), .inl n, .inl (4 : Int)] S k := by
  refine fxe_18 (Nat.le_of_ble_eq_true rfl) (fxz_18 400 ?_)
  refine And.intro (show -2147483648 ≤ ((42 : Int) * n) ∧ ((42 : Int) * n) < 2147483648 by omega) ?_
  refine And.intro (show -2147483648 ≤ (((42 : Int) * n) + (4 : Int)) ∧ (((42 : Int) * n) + (4 : Int)) < 2147483648 by omega) ?_
  refine And.intro (show 0 ≤ (((42 : Int) * n) + (4 : Int)) ∧ (((42 : Int) * n) + (4 : Int)) < 2561 by omega) ?_
  intro z1 (z1a : (-2147483648 : Int) ≤ z1) (z1b : z1 ≤ (2147483647 : Int)) (z1c : z1 = S 50 0 ((((42 : Int) * n) + (4 : Int))).toNat)
  exact hk z1 (by have ca := COL_at (w := 4) p0 (by omega) (by omega) (by assumption); exact ⟨ca.1, by omega⟩)
theorem c_at5 {l : Launch} {k : fxK} {S : fxS} {n : Int} (p0 : COL S) (p1 : 0 ≤ n ∧ n < 60) (hk : ∀ (r : Int) , (r = aN S n 5 ∧ 0 ≤ r ∧ r ≤ 2) → k (some (.inl r)) S) : fC l 18 [.inr (.inr (49, 0)), .inl n, .inl (5 : Int)] S k := by
  refine fxe_18 (Nat.le_of_ble_eq_true rfl) (fxz_18 400 ?_)
  refine And.intro (show -2147483648 ≤ ((42 : Int) * n) ∧ ((42 : Int) * n) < 2147483648 by omega) ?_
  refine And.intro (show -2147483648 ≤ (((42 : Int) * n) + (5 : Int)) ∧ (((42 : Int) * n) + (5 : Int)) < 2147483648 by omega) ?_
  refine And.intro (show 0 ≤ (((42 : Int) * n) + (5 : Int)) ∧ (((42 : Int) * n) + (5 : Int)) < 2561 by omega) ?_
  intro z1 (z1a : (-2147483648 : Int) ≤ z1) (z1b : z1 ≤ (2147483647 : Int)) (z1c : z1 = S 50 0 ((((42 : Int) * n) + (5 : Int))).toNat)
  exact hk z1 (by have ca := COL_at (w := 5) p0 (by omega) (by omega) (by assumption); exact ⟨ca.1, by omega⟩)
theorem c_at6 {l : Launch} {k : fxK} {S : fxS} {n : Int} (p0 : COL S) (p1 : 0 ≤ n ∧ n < 60) (hk : ∀ (r : Int) , (r = aN S n 6 ∧ 0 ≤ r ∧ r ≤ 5) → k (some (.inl r)) S) : fC l 18 [.inr (.inr (49, 0)), .inl n, .inl (6 : Int)] S k := by
  refine fxe_18 (Nat.le_of_ble_eq_true rfl) (fxz_18 400 ?_)
  refine And.intro (show -2147483648 ≤ ((42 : Int) * n) ∧ ((42 : Int) * n) < 2147483648 by omega) ?_
  refine And.intro (show -2147483648 ≤ (((42 : Int) * n) + (6 : Int)) ∧ (((42 : Int) * n) + (6 : Int)) < 2147483648 by omega) ?_
  refine And.intro (show 0 ≤ (((42 : Int) * n) + (6 : Int)) ∧ (((42 : Int) * n) + (6 : Int)) < 2561 by omega) ?_
  intro z1 (z1a : (-2147483648 : Int) ≤ z1) (z1b : z1 ≤ (2147483647 : Int)) (z1c : z1 = S 50 0 ((((42 : Int) * n) + (6 : Int))).toNat)
  exact hk z1 (by have ca := COL_at (w := 6) p0 (by omega) (by omega) (by assumption); exact ⟨ca.1, by omega⟩)
theorem c_at7 {l : Launch} {k : fxK} {S : fxS} {n : Int} (p0 : COL S) (p1 : 0 ≤ n ∧ n < 60) (hk : ∀ (r : Int) , (r = aN S n 7 ∧ 0 ≤ r ∧ r ≤ 6000) → k (some (.inl r)) S) : fC l 18 [.inr (.inr (49, 0)), .inl n, .inl (7 : Int)] S k := by
  refine fxe_18 (Nat.le_of_ble_eq_true rfl) (fxz_18 400 ?_)
  refine And.intro (show -2147483648 ≤ ((42 : Int) * n) ∧ ((42 : Int) * n) < 2147483648 by omega) ?_
  refine And.intro (show -2147483648 ≤ (((42 : Int) * n) + (7 : Int)) ∧ (((42 : Int) * n) + (7 : Int)) < 2147483648 by omega) ?_
  refine And.intro (show 0 ≤ (((42 : Int) * n) + (7 : Int)) ∧ (((42 : Int) * n) + (7 : Int)) < 2561 by omega) ?_
  intro z1 (z1a : (-2147483648 : Int) ≤ z1) (z1b : z1 ≤ (2147483647 : Int)) (z1c : z1 = S 50 0 ((((42 : Int) * n) + (7 : Int))).toNat)
  exact hk z1 (by have ca := COL_at (w := 7) p0 (by omega) (by omega) (by assumption); exact ⟨ca.1, by omega⟩)
theorem c_at8 {l : Launch} {k : fxK} {S : fxS} {n : Int} (p0 : COL S) (p1 : 0 ≤ n ∧ n < 60) (hk : ∀ (r : Int) , (r = aN S n 8 ∧ 0 ≤ r ∧ r ≤ 5) → k (some (.inl r)) S) : fC l 18 [.inr (.inr (49, 0)), .inl n, .inl (8 : Int)] S k := by
  refine fxe_18 (Nat.le_of_ble_eq_true rfl) (fxz_18 400 ?_)
  refine And.intro (show -2147483648 ≤ ((42 : Int) * n) ∧ ((42 : Int) * n) < 2147483648 by omega) ?_
  refine And.intro (show -2147483648 ≤ (((42 : Int) * n) + (8 : Int)) ∧ (((42 : Int) * n) + (8 : Int)) < 2147483648 by omega) ?_
  refine And.intro (show 0 ≤ (((42 : Int) * n) + (8 : Int)) ∧ (((42 : Int) * n) + (8 : Int)) < 2561 by omega) ?_
  intro z1 (z1a : (-2147483648 : Int) ≤ z1) (z1b : z1 ≤ (2147483647 : Int)) (z1c : z1 = S 50 0 ((((42 : Int) * n) + (8 : Int))).toNat)
  exact hk z1 (by have ca := COL_at (w := 8) p0 (by omega) (by omega) (by assumption); exact ⟨ca.1, by omega⟩)
theorem c_at9 {l : Launch} {k : fxK} {S : fxS} {n : Int} (p0 : COL S) (p1 : 0 ≤ n ∧ n < 60) (hk : ∀ (r : Int) , (r = aN S n 9 ∧ 0 ≤ r ∧ r ≤ 6000) → k (some (.inl r)) S) : fC l 18 [.inr (.inr (49, 0)), .inl n, .inl (9 : Int)] S k := by
  refine fxe_18 (Nat.le_of_ble_eq_true rfl) (fxz_18 400 ?_)
  refine And.intro (show -2147483648 ≤ ((42 : Int) * n) ∧ ((42 : Int) * n) < 2147483648 by omega) ?_
  refine And.intro (show -2147483648 ≤ (((42 : Int) * n) + (9 : Int)) ∧ (((42 : Int) * n) + (9 : Int)) < 2147483648 by omega) ?_
  refine And.intro (show 0 ≤ (((42 : Int) * n) + (9 : Int)) ∧ (((42 : Int) * n) + (9 : Int)) < 2561 by omega) ?_
  intro z1 (z1a : (-2147483648 : Int) ≤ z1) (z1b : z1 ≤ (2147483647 : Int)) (z1c : z1 = S 50 0 ((((42 : Int) * n) + (9 : Int))).toNat)
  exact hk z1 (by have ca := COL_at (w := 9) p0 (by omega) (by omega) (by assumption); exact ⟨ca.1, by omega⟩)
theorem c_at10 {l : Launch} {k : fxK} {S : fxS} {n : Int} (p0 : COL S) (p1 : 0 ≤ n ∧ n < 60) (hk : ∀ (r : Int) , (r = aN S n 10 ∧ -1 ≤ r ∧ r ≤ 207) → k (some (.inl r)) S) : fC l 18 [.inr (.inr (49, 0)), .inl n, .inl (10 : Int)] S k := by
  refine fxe_18 (Nat.le_of_ble_eq_true rfl) (fxz_18 400 ?_)
  refine And.intro (show -2147483648 ≤ ((42 : Int) * n) ∧ ((42 : Int) * n) < 2147483648 by omega) ?_
  refine And.intro (show -2147483648 ≤ (((42 : Int) * n) + (10 : Int)) ∧ (((42 : Int) * n) + (10 : Int)) < 2147483648 by omega) ?_
  refine And.intro (show 0 ≤ (((42 : Int) * n) + (10 : Int)) ∧ (((42 : Int) * n) + (10 : Int)) < 2561 by omega) ?_
  intro z1 (z1a : (-2147483648 : Int) ≤ z1) (z1b : z1 ≤ (2147483647 : Int)) (z1c : z1 = S 50 0 ((((42 : Int) * n) + (10 : Int))).toNat)
  exact hk z1 (by have ca := COL_at (w := 10) p0 (by omega) (by omega) (by assumption); exact ⟨ca.1, by omega⟩)
theorem c_atb {l : Launch} {k : fxK} {S : fxS} {n : Int} {w : Int} (p0 : COL S) (p1 : 0 ≤ n ∧ n < 60) (p2 : 10 ≤ w ∧ w < 42) (hk : ∀ (r : Int) , (r = aN S n w ∧ -1 ≤ r ∧ r ≤ 207) → k (some (.inl r)) S) : fC l 18 [.inr (.inr (49, 0)), .inl n, .inl w] S k := by
  refine fxe_18 (Nat.le_of_ble_eq_true rfl) (fxz_18 400 ?_)
  refine And.intro (show -2147483648 ≤ ((42 : Int) * n) ∧ ((42 : Int) * n) < 2147483648 by omega) ?_
  refine And.intro (show -2147483648 ≤ (((42 : Int) * n) + w) ∧ (((42 : Int) * n) + w) < 2147483648 by omega) ?_
  refine And.intro (show 0 ≤ (((42 : Int) * n) + w) ∧ (((42 : Int) * n) + w) < 2561 by omega) ?_
  intro z1 (z1a : (-2147483648 : Int) ≤ z1) (z1b : z1 ≤ (2147483647 : Int)) (z1c : z1 = S 50 0 ((((42 : Int) * n) + w)).toNat)
  exact hk z1 (by have ca := COL_at (w := w) p0 (by omega) (by omega) (by assumption); exact ⟨ca.1, by omega⟩)
theorem c_att {l : Launch} {k : fxK} {S : fxS} {n : Int} {w : Int} (p0 : COL S) (p1 : 0 ≤ n ∧ n < 60) (p2 : w = 6 ∨ w = 8) (hk : ∀ (r : Int) , (r = aN S n w ∧ 0 ≤ r ∧ r ≤ 5) → k (some (.inl r)) S) : fC l 18 [.inr (.inr (49, 0)), .inl n, .inl w] S k := by
  refine fxe_18 (Nat.le_of_ble_eq_true rfl) (fxz_18 400 ?_)
  refine And.intro (show -2147483648 ≤ ((42 : Int) * n) ∧ ((42 : Int) * n) < 2147483648 by omega) ?_
  refine And.intro (show -2147483648 ≤ (((42 : Int) * n) + w) ∧ (((42 : Int) * n) + w) < 2147483648 by omega) ?_
  refine And.intro (show 0 ≤ (((42 : Int) * n) + w) ∧ (((42 : Int) * n) + w) < 2561 by omega) ?_
  intro z1 (z1a : (-2147483648 : Int) ≤ z1) (z1b : z1 ≤ (2147483647 : Int)) (z1c : z1 = S 50 0 ((((42 : Int) * n) + w)).toNat)
  exact hk z1 (by have ca := COL_at (w := w) p0 (by omega) (by omega) (by assumption); exact ⟨ca.1, by omega⟩)
theorem c_atp {l : Launch} {k : fxK} {S : fxS} {n : Int} {w : Int} (p0 : COL S) (p1 : 0 ≤ n ∧ n < 60) (p2 : w = 7 ∨ w = 9) (hk : ∀ (r : Int) , (r = aN S n w ∧ 0 ≤ r ∧ r ≤ 6000) → k (some (.inl r)) S) : fC l 18 [.inr (.inr (49, 0)), .inl n, .inl w] S k := by
  refine fxe_18 (Nat.le_of_ble_eq_true rfl) (fxz_18 400 ?_)
  refine And.intro (show -2147483648 ≤ ((42 : Int) * n) ∧ ((42 : Int) * n) < 2147483648 by omega) ?_
  refine And.intro (show -2147483648 ≤ (((42 : Int) * n) + w) ∧ (((42 : Int) * n) + w) < 2147483648 by omega) ?_
  refine And.intro (show 0 ≤ (((42 : Int) * n) + w) ∧ (((42 : Int) * n) + w) < 2561 by omega) ?_
  intro z1 (z1a : (-2147483648 : Int) ≤ z1) (z1b : z1 ≤ (2147483647 : Int)) (z1c : z1 = S 50 0 ((((42 : Int) * n) + w)).toNat)
  exact hk z1 (by have ca := COL_at (w := w) p0 (by omega) (by omega) (by assumption); exact ⟨ca.1, by omega⟩)
theorem c_set {l : Launch} {k : fxK} {S : fxS} {n w v : Int} (p0 : 0 ≤ n ∧ n < 60) (p1 : 0 ≤ w ∧ w < 42) (p2 : -2147483648 ≤ v ∧ v < 2147483648) (hk : k none (fx_up S 50 0 (42 * n + w).toNat v)) : fC l 26 [.inr (.inr (49, 0)), .inl n, .inl w, .inl v] S k := by
  refine fxe_26 (Nat.le_of_ble_eq_true rfl) (fxz_26 400 ?_)
  refine And.intro (show -2147483648 ≤ ((42 : Int) * n) ∧ ((42 : Int) * n) < 2147483648 by omega) ?_
  refine And.intro (show -2147483648 ≤ (((42 : Int) * n) + w) ∧ (((42 : Int) * n) + w) < 2147483648 by omega) ?_
  refine And.intro (show 0 ≤ (((42 : Int) * n) + w) ∧ (((42 : Int) * n) + w) < 2561 by omega) ?_
  refine And.intro (show (-2147483648 : Int) ≤ v ∧ v ≤ (2147483647 : Int) by omega) ?_
  exact hk
theorem c_StubHouseModel_isDirectory {l : Launch} {k : fxK} {S : fxS} {n : Int} (p0 : COL S) (p1 : -2147483648 ≤ n ∧ n < 2147483648) (hk : ∀ (r : Int) , (0 ≤ r ∧ r ≤ 1 ∧ (r = 1 → 0 ≤ n ∧ n < 60 ∧ aN S n 0 = 1)) → k (some (.inl r)) S) : fC l 19 [.inr (.inr (49, 0)), .inl n] S k := by
  refine fxe_19 (Nat.le_of_ble_eq_true rfl) (fxz_19 400 ?_)
  refine c_StubHouseModel_in (x := n) (a := (0 : Int)) (b := (59 : Int))  (fun (z1 : Int) (q2 : 0 ≤ z1 ∧ z1 ≤ 1 ∧ (z1 = 1 → (0 : Int) ≤ n ∧ n ≤ (59 : Int)) ∧ (z1 = 0 → n < (0 : Int) ∨ (59 : Int) < n)) => ?_)
  refine And.intro (fun (h3 : (z1 = (0 : Int) : Prop)) => ?_) (fun (h3 : (z1 ≠ (0 : Int) : Prop)) => ?_)
  ·
    refine And.intro (show 0 ≤ (0 : Int) ∧ (0 : Int) ≤ 1 by omega) ?_
    exact hk (0 : Int) (by omega)
  ·
    refine c_at0 (n := n) p0 (show 0 ≤ n ∧ n < 60 by omega) (fun (z4 : Int) (q5 : z4 = aN S n 0 ∧ 0 ≤ z4 ∧ z4 ≤ 2) => ?_)
    refine And.intro (fun (h6 : (z4 ≠ (1 : Int) : Prop)) => ?_) (fun (h6 : (z4 = (1 : Int) : Prop)) => ?_)
    ·
      refine And.intro (show 0 ≤ (0 : Int) ∧ (0 : Int) ≤ 1 by omega) ?_
      exact hk (0 : Int) (by omega)
    ·
      refine And.intro (show 0 ≤ (1 : Int) ∧ (1 : Int) ≤ 1 by omega) ?_
      exact hk (1 : Int) (by omega)
theorem c_StubHouseModel_isFile {l : Launch} {k : fxK} {S : fxS} {n : Int} (p0 : COL S) (p1 : -2147483648 ≤ n ∧ n < 2147483648) (hk : ∀ (r : Int) , (0 ≤ r ∧ r ≤ 1 ∧ (r = 1 → 0 ≤ n ∧ n < 60 ∧ aN S n 0 = 2)) → k (some (.inl r)) S) : fC l 103 [.inr (.inr (49, 0)), .inl n] S k := by
  refine fxe_103 (Nat.le_of_ble_eq_true rfl) (fxz_103 400 ?_)
  refine c_StubHouseModel_in (x := n) (a := (0 : Int)) (b := (59 : Int))  (fun (z1 : Int) (q2 : 0 ≤ z1 ∧ z1 ≤ 1 ∧ (z1 = 1 → (0 : Int) ≤ n ∧ n ≤ (59 : Int)) ∧ (z1 = 0 → n < (0 : Int) ∨ (59 : Int) < n)) => ?_)
  refine And.intro (fun (h3 : (z1 = (0 : Int) : Prop)) => ?_) (fun (h3 : (z1 ≠ (0 : Int) : Prop)) => ?_)
  ·
    refine And.intro (show 0 ≤ (0 : Int) ∧ (0 : Int) ≤ 1 by omega) ?_
    exact hk (0 : Int) (by omega)
  ·
    refine c_at0 (n := n) p0 (show 0 ≤ n ∧ n < 60 by omega) (fun (z4 : Int) (q5 : z4 = aN S n 0 ∧ 0 ≤ z4 ∧ z4 ≤ 2) => ?_)
    refine And.intro (fun (h6 : (z4 ≠ (2 : Int) : Prop)) => ?_) (fun (h6 : (z4 = (2 : Int) : Prop)) => ?_)
    ·
      refine And.intro (show 0 ≤ (0 : Int) ∧ (0 : Int) ≤ 1 by omega) ?_
      exact hk (0 : Int) (by omega)
    ·
      refine And.intro (show 0 ≤ (1 : Int) ∧ (1 : Int) ≤ 1 by omega) ?_
      exact hk (1 : Int) (by omega)
theorem z_StubHouseModel_look {l : Launch} {k : fxK} {S : fxS} {o : Int} {x : Int} (p0 : COL S) (p1 : -2147483648 ≤ o ∧ o < 2147483648) (hk : ∀ (r : Int) , (-2 ≤ r ∧ r < 60 ∧ r ≠ -1 ∧ r ≠ 0 ∧ (0 ≤ r → aN S r 0 ≠ 0 ∧ aN S r 1 = o)) → k (some (.inl r)) S) : ∀ m : Nat, (∀ (j : Int), (1 ≤ j ∧ j ≤ 60) → 61 - j ≤ (m : Int) → fZ l 20 k 3 [some (.inr (.inr (49, 0))), some (.inl o), some (.inr (.inl x)), none, some (.inl j)] [] S) := by
  intro m
  induction m with
  | zero =>
    intro j  i0 hmu
    exfalso
    omega
  | succ m ih =>
    intro j  i0 hmu
    refine fxz_20 400 ?_
    refine And.intro (fun (h1 : ((60 : Int) ≤ j : Prop)) => ?_) (fun (h1 : (j < (60 : Int) : Prop)) => ?_)
    ·
      exact hk (-2 : Int) (by omega)
    ·
      refine c_at0 (n := j) p0 (show 0 ≤ j ∧ j < 60 by omega) (fun (z2 : Int) (q3 : z2 = aN S j 0 ∧ 0 ≤ z2 ∧ z2 ≤ 2) => ?_)
      refine And.intro (fun (h4 : (z2 = (0 : Int) : Prop)) => ?_) (fun (h4 : (z2 ≠ (0 : Int) : Prop)) => ?_)
      ·
        refine And.intro (by decide) (And.intro (show -2147483648 ≤ j + (1 : Int) ∧ j + (1 : Int) < 2147483648 by omega) ?_)
        exact ih (j + (1 : Int))  (by omega) (by omega)
      ·
        refine c_at1 (n := j) p0 (show 0 ≤ j ∧ j < 60 by omega) (fun (z6 : Int) (q7 : z6 = aN S j 1 ∧ -1 ≤ z6 ∧ z6 < 60) => ?_)
        refine And.intro (fun (h8 : (z6 ≠ o : Prop)) => ?_) (fun (h8 : (z6 = o : Prop)) => ?_)
        ·
          refine And.intro (by decide) (And.intro (show -2147483648 ≤ j + (1 : Int) ∧ j + (1 : Int) < 2147483648 by omega) ?_)
          exact ih (j + (1 : Int))  (by omega) (by omega)
        ·
          refine And.intro (show 0 ≤ j ∧ j < 60 by omega) ?_
          intro z10
          refine And.intro (fun (_ : z10 < x) => ?_) (And.intro (fun (_ : z10 = x) => ?_) (fun (_ : x < z10) => ?_))
          ·
            refine And.intro (fun _ => ?_) (fun h => absurd h (by decide))
            refine And.intro (by decide) (And.intro (show -2147483648 ≤ j + (1 : Int) ∧ j + (1 : Int) < 2147483648 by omega) ?_)
            exact ih (j + (1 : Int))  (by omega) (by omega)
          ·
            refine And.intro (fun h => absurd h (by decide)) (fun _ => ?_)
            exact hk j (by omega)
          ·
            refine And.intro (fun _ => ?_) (fun h => absurd h (by decide))
            refine And.intro (by decide) (And.intro (show -2147483648 ≤ j + (1 : Int) ∧ j + (1 : Int) < 2147483648 by omega) ?_)
            exact ih (j + (1 : Int))  (by omega) (by omega)
theorem c_StubHouseModel_look {l : Launch} {k : fxK} {S : fxS} {o : Int} {x : Int} (p0 : COL S) (p1 : -2147483648 ≤ o ∧ o < 2147483648) (hk : ∀ (r : Int) , (-2 ≤ r ∧ r < 60 ∧ r ≠ -1 ∧ r ≠ 0 ∧ (0 ≤ r → aN S r 0 ≠ 0 ∧ aN S r 1 = o)) → k (some (.inl r)) S) : fC l 20 [.inr (.inr (49, 0)), .inl o, .inr (.inl x)] S k := by
  refine fxe_20 (Nat.le_of_ble_eq_true rfl) (fxz_20 400 ?_)
  refine And.intro (by decide) ?_
  exact (z_StubHouseModel_look p0 p1 hk (61 - (1 : Int)).toNat) (1 : Int)  (by omega) (by omega)
theorem z_StubHouseModel_freeNode {l : Launch} {k : fxK} {S : fxS}  (p0 : COL S) (hk : ∀ (r : Int) , (-2 ≤ r ∧ r < 60 ∧ r ≠ -1 ∧ r ≠ 0 ∧ (0 ≤ r → aN S r 0 = 0)) → k (some (.inl r)) S) : ∀ m : Nat, (∀ (j : Int), (1 ≤ j ∧ j ≤ 60) → 61 - j ≤ (m : Int) → fZ l 21 k 2 [some (.inr (.inr (49, 0))), some (.inl j)] [] S) := by
  intro m
  induction m with
  | zero =>
    intro j  i0 hmu
    exfalso
    omega
  | succ m ih =>
    intro j  i0 hmu
    refine fxz_21 400 ?_
    refine And.intro (fun (h1 : ((60 : Int) ≤ j : Prop)) => ?_) (fun (h1 : (j < (60 : Int) : Prop)) => ?_)
    ·
      exact hk (-2 : Int) (by omega)
    ·
      refine c_at0 (n := j) p0 (show 0 ≤ j ∧ j < 60 by omega) (fun (z2 : Int) (q3 : z2 = aN S j 0 ∧ 0 ≤ z2 ∧ z2 ≤ 2) => ?_)
      refine And.intro (fun (h4 : (z2 ≠ (0 : Int) : Prop)) => ?_) (fun (h4 : (z2 = (0 : Int) : Prop)) => ?_)
      ·
        refine And.intro (by decide) (And.intro (show -2147483648 ≤ j + (1 : Int) ∧ j + (1 : Int) < 2147483648 by omega) ?_)
        exact ih (j + (1 : Int))  (by omega) (by omega)
      ·
        exact hk j (by omega)
theorem c_StubHouseModel_freeNode {l : Launch} {k : fxK} {S : fxS}  (p0 : COL S) (hk : ∀ (r : Int) , (-2 ≤ r ∧ r < 60 ∧ r ≠ -1 ∧ r ≠ 0 ∧ (0 ≤ r → aN S r 0 = 0)) → k (some (.inl r)) S) : fC l 21 [.inr (.inr (49, 0))] S k := by
  refine fxe_21 (Nat.le_of_ble_eq_true rfl) (fxz_21 400 ?_)
  refine And.intro (by decide) ?_
  exact (z_StubHouseModel_freeNode p0 hk (61 - (1 : Int)).toNat) (1 : Int)  (by omega) (by omega)
theorem z_StubHouseModel_fileOf {l : Launch} {k : fxK} {S : fxS} {d : Int} (p0 : COL S) (p1 : -2147483648 ≤ d ∧ d < 2147483648) (hk : ∀ (r : Int) , (-2 ≤ r ∧ r < 60 ∧ r ≠ -1 ∧ r ≠ 0 ∧ (0 ≤ r → aN S r 0 = 2 ∧ aN S r 2 = d) ∧ FOF d r S) → k (some (.inl r)) S) : ∀ m : Nat, (∀ (j : Int), (1 ≤ j ∧ j ≤ 60) → (NOF d j S) → 61 - j ≤ (m : Int) → fZ l 75 k 2 [some (.inr (.inr (49, 0))), some (.inl d), some (.inl j)] [] S) := by
  intro m
  induction m with
  | zero =>
    intro j  i0 i1 hmu
    exfalso
    omega
  | succ m ih =>
    intro j  i0 i1 hmu
    refine fxz_75 400 ?_
    refine And.intro (fun (h1 : ((60 : Int) ≤ j : Prop)) => ?_) (fun (h1 : (j < (60 : Int) : Prop)) => ?_)
    ·
      exact hk (-2 : Int) (by first | exact ⟨by omega, by omega, by omega, by omega, fun _ => ⟨by omega, by omega⟩, Or.inr ⟨by omega, by omega, by omega, i1⟩⟩ | exact ⟨by omega, by omega, by omega, by omega, fun h => absurd h (by omega), Or.inl ⟨rfl, fun n a b => i1 n a (by omega)⟩⟩)
    ·
      refine c_at0 (n := j) p0 (show 0 ≤ j ∧ j < 60 by omega) (fun (z2 : Int) (q3 : z2 = aN S j 0 ∧ 0 ≤ z2 ∧ z2 ≤ 2) => ?_)
      refine And.intro (fun (h4 : (z2 ≠ (2 : Int) : Prop)) => ?_) (fun (h4 : (z2 = (2 : Int) : Prop)) => ?_)
      ·
        refine And.intro (by decide) (And.intro (show -2147483648 ≤ j + (1 : Int) ∧ j + (1 : Int) < 2147483648 by omega) ?_)
        exact ih (j + (1 : Int))  (by first | omega | exact NOF_0 | exact NOF_step i1 (by omega)) (by first | omega | exact NOF_0 | exact NOF_step i1 (by omega)) (by omega)
      ·
        refine c_at2 (n := j) p0 (show 0 ≤ j ∧ j < 60 by omega) (fun (z6 : Int) (q7 : z6 = aN S j 2 ∧ -2147483648 ≤ z6 ∧ z6 < 2147483648) => ?_)
        refine And.intro (fun (h8 : (z6 ≠ d : Prop)) => ?_) (fun (h8 : (z6 = d : Prop)) => ?_)
        ·
          refine And.intro (by decide) (And.intro (show -2147483648 ≤ j + (1 : Int) ∧ j + (1 : Int) < 2147483648 by omega) ?_)
          exact ih (j + (1 : Int))  (by first | omega | exact NOF_0 | exact NOF_step i1 (by omega)) (by first | omega | exact NOF_0 | exact NOF_step i1 (by omega)) (by omega)
        ·
          exact hk j (by first | exact ⟨by omega, by omega, by omega, by omega, fun _ => ⟨by omega, by omega⟩, Or.inr ⟨by omega, by omega, by omega, i1⟩⟩ | exact ⟨by omega, by omega, by omega, by omega, fun h => absurd h (by omega), Or.inl ⟨rfl, fun n a b => i1 n a (by omega)⟩⟩)
theorem c_StubHouseModel_fileOf {l : Launch} {k : fxK} {S : fxS} {d : Int} (p0 : COL S) (p1 : -2147483648 ≤ d ∧ d < 2147483648) (hk : ∀ (r : Int) , (-2 ≤ r ∧ r < 60 ∧ r ≠ -1 ∧ r ≠ 0 ∧ (0 ≤ r → aN S r 0 = 2 ∧ aN S r 2 = d) ∧ FOF d r S) → k (some (.inl r)) S) : fC l 75 [.inr (.inr (49, 0)), .inl d] S k := by
  refine fxe_75 (Nat.le_of_ble_eq_true rfl) (fxz_75 400 ?_)
  refine And.intro (by decide) ?_
  exact (z_StubHouseModel_fileOf p0 p1 hk (61 - (1 : Int)).toNat) (1 : Int)  (by first | omega | exact NOF_0 | exact NOF_step i1 (by omega)) (by first | omega | exact NOF_0 | exact NOF_step i1 (by omega)) (by omega)
theorem c_StubHouseModel_blocks {l : Launch} {k : fxK} {S : fxS} {n : Int} (p0 : COL S) (p1 : 0 ≤ n ∧ n < 60) (hk : ∀ (r : Int) , (r = (aN S n 3 + 31) / 32 ∧ 0 ≤ r ∧ r ≤ 32) → k (some (.inl r)) S) : fC l 109 [.inr (.inr (49, 0)), .inl n] S k := by
  refine fxe_109 (Nat.le_of_ble_eq_true rfl) (fxz_109 400 ?_)
  refine c_at3 (n := n) p0 (show 0 ≤ n ∧ n < 60 by omega) (fun (z1 : Int) (q2 : z1 = aN S n 3 ∧ 0 ≤ z1 ∧ z1 ≤ 1024) => ?_)
  refine And.intro (show -2147483648 ≤ (z1 + (32 : Int)) ∧ (z1 + (32 : Int)) < 2147483648 by omega) ?_
  refine And.intro (show -2147483648 ≤ ((z1 + (32 : Int)) - (1 : Int)) ∧ ((z1 + (32 : Int)) - (1 : Int)) < 2147483648 by omega) ?_
  refine And.intro (show 0 ≤ ((z1 + (32 : Int)) - (1 : Int)) ∧ 0 < (32 : Int) by omega) ?_
  exact hk (((z1 + (32 : Int)) - (1 : Int)) / (32 : Int)) (by omega)
theorem c_StubHouseModel_isStub {l : Launch} {k : fxK} {S : fxS} {n : Int} (p0 : COL S) (p1 : 0 ≤ n ∧ n < 60) (hk : ∀ (r : Int) , (0 ≤ r ∧ r ≤ 1 ∧ (r = 1 → 0 < aN S n 3 ∧ aN S n 10 < 0) ∧ (r = 0 → aN S n 3 ≤ 0 ∨ 0 ≤ aN S n 10)) → k (some (.inl r)) S) : fC l 76 [.inr (.inr (49, 0)), .inl n] S k := by
  refine fxe_76 (Nat.le_of_ble_eq_true rfl) (fxz_76 400 ?_)
  refine c_at3 (n := n) p0 (show 0 ≤ n ∧ n < 60 by omega) (fun (z1 : Int) (q2 : z1 = aN S n 3 ∧ 0 ≤ z1 ∧ z1 ≤ 1024) => ?_)
  refine And.intro (fun (h3 : (z1 ≤ (0 : Int) : Prop)) => ?_) (fun (h3 : ((0 : Int) < z1 : Prop)) => ?_)
  ·
    refine And.intro (show 0 ≤ (0 : Int) ∧ (0 : Int) ≤ 1 by omega) ?_
    exact hk (0 : Int) (by omega)
  ·
    refine c_at10 (n := n) p0 (show 0 ≤ n ∧ n < 60 by omega) (fun (z4 : Int) (q5 : z4 = aN S n 10 ∧ -1 ≤ z4 ∧ z4 ≤ 207) => ?_)
    refine And.intro (fun (h6 : ((0 : Int) ≤ z4 : Prop)) => ?_) (fun (h6 : (z4 < (0 : Int) : Prop)) => ?_)
    ·
      refine And.intro (show 0 ≤ (0 : Int) ∧ (0 : Int) ≤ 1 by omega) ?_
      exact hk (0 : Int) (by omega)
    ·
      refine And.intro (show 0 ≤ (1 : Int) ∧ (1 : Int) ≤ 1 by omega) ?_
      exact hk (1 : Int) (by omega)
theorem c_StubHouseModel_hasCopies {l : Launch} {k : fxK} {S : fxS} {n : Int} (p0 : COL S) (p1 : 0 ≤ n ∧ n < 60) (hk : ∀ (r : Int) , (0 ≤ r ∧ r ≤ 1) → k (some (.inl r)) S) : fC l 123 [.inr (.inr (49, 0)), .inl n] S k := by
  refine fxe_123 (Nat.le_of_ble_eq_true rfl) (fxz_123 400 ?_)
  refine c_at5 (n := n) p0 (show 0 ≤ n ∧ n < 60 by omega) (fun (z1 : Int) (q2 : z1 = aN S n 5 ∧ 0 ≤ z1 ∧ z1 ≤ 2) => ?_)
  intro z3 (z3a : (1 : Int) ≤ z3) (z3b : z3 ≤ (2 : Int)) (z3c : z3 = S 49 0 18)
  refine And.intro (fun (h4 : (z1 < z3 : Prop)) => ?_) (fun (h4 : (z3 ≤ z1 : Prop)) => ?_)
  ·
    refine And.intro (show 0 ≤ (0 : Int) ∧ (0 : Int) ≤ 1 by omega) ?_
    exact hk (0 : Int) (by omega)
  ·
    refine And.intro (show 0 ≤ (1 : Int) ∧ (1 : Int) ≤ 1 by omega) ?_
    exact hk (1 : Int) (by omega)
theorem z_StubHouseModel_depth {l : Launch} {k : fxK} {S : fxS} {n : Int} (p0 : COL S) (p1 : WTM S) (p2 : 0 ≤ n ∧ n < 60) (hk : ∀ (r : Int) , (r = (depF (ovf (S 50 0)) 60 n : Int) ∧ 0 ≤ r ∧ r ≤ 5) → k (some (.inl r)) S) : ∀ m : Nat, (∀ (d u : Int), (0 ≤ u ∧ u < 60) → (0 ≤ d) → (d + (depF (ovf (S 50 0)) 60 u : Int) = (depF (ovf (S 50 0)) 60 n : Int) ∧ (depF (ovf (S 50 0)) 60 n : Int) ≤ 5) → (depF (ovf (S 50 0)) 60 u : Int) + 1 ≤ (m : Int) → fZ l 22 k 4 [some (.inr (.inr (49, 0))), none, some (.inl d), some (.inl u)] [] S) := by
  intro m
  induction m with
  | zero =>
    intro d u  i0 i1 i2 hmu
    exfalso
    omega
  | succ m ih =>
    intro d u  i0 i1 i2 hmu
    refine fxz_22 400 ?_
    refine And.intro (fun (h1 : (u ≤ (0 : Int) : Prop)) => ?_) (fun (h1 : ((0 : Int) < u : Prop)) => ?_)
    ·
      exact hk d (by exact ⟨by have e0 := depF_0 (ov := ovf (S 50 0)) (k := 60) (a := u) (by omega); omega, by omega, by have e0 := WTM_dep (n := n) p1 (by omega); omega⟩)
    ·
      refine And.intro (by decide) (And.intro (show -2147483648 ≤ d + (1 : Int) ∧ d + (1 : Int) < 2147483648 by omega) ?_)
      refine c_at1 (n := u) p0 (show 0 ≤ u ∧ u < 60 by omega) (fun (z3 : Int) (q4 : z3 = aN S u 1 ∧ -1 ≤ z3 ∧ z3 < 60) => ?_)
      have ch : (depF (ovf (S 50 0)) 60 u : Int) = 1 + (depF (ovf (S 50 0)) 60 z3 : Int) := by rw [q4.1]; exact WTM_child p1 (by omega)
      have rg := WTM_rng (n := u) p1 (by omega)
      refine And.intro (by decide) ?_
      exact ih (d + (1 : Int)) z3  (by omega) (by omega) (by omega) (by omega)
theorem c_StubHouseModel_depth {l : Launch} {k : fxK} {S : fxS} {n : Int} (p0 : COL S) (p1 : WTM S) (p2 : 0 ≤ n ∧ n < 60) (hk : ∀ (r : Int) , (r = (depF (ovf (S 50 0)) 60 n : Int) ∧ 0 ≤ r ∧ r ≤ 5) → k (some (.inl r)) S) : fC l 22 [.inr (.inr (49, 0)), .inl n] S k := by
  refine fxe_22 (Nat.le_of_ble_eq_true rfl) (fxz_22 400 ?_)
  have d5 := WTM_dep (n := n) p1 (by omega)
  refine And.intro (by decide) ?_
  refine And.intro (by decide) ?_
  exact (z_StubHouseModel_depth p0 p1 p2 hk ((depF (ovf (S 50 0)) 60 n : Int) + 1).toNat) (0 : Int) n  (by omega) (by omega) (by omega) (by omega)
