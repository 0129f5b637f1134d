/-! contracts: the tree of the class -/
theorem c_Tree_isThere {l : Launch} {k : fxK} {S : fxS} {n : Int} (p0 : -2147483648 ≤ n ∧ n < 2147483648) (hk : ∀ (r : Int) , ((r = 0 ∨ r = 1) ∧ (r = 1 → 0 ≤ n ∧ n < 60 ∧ S 4 (n).toNat 0 ≠ 0)) → k (some (.inl r)) S) : fC l 0 [.inr (.inr (2, 0)), .inl n] S k := by
  refine fxe_0 (Nat.le_of_ble_eq_true rfl) (fxz_0 400 ?_)
  refine And.intro (fun (h1 : (n < (0 : Int) : Prop)) => ?_) (fun (h1 : ((0 : Int) ≤ n : Prop)) => ?_)
  ·
    refine And.intro (show 0 ≤ (0 : Int) ∧ (0 : Int) ≤ 1 by omega) ?_
    exact hk (0 : Int) (by omega)
  ·
    refine And.intro (fun (h2 : ((60 : Int) ≤ n : Prop)) => ?_) (fun (h2 : (n < (60 : Int) : Prop)) => ?_)
    ·
      refine And.intro (show 0 ≤ (0 : Int) ∧ (0 : Int) ≤ 1 by omega) ?_
      exact hk (0 : Int) (by omega)
    ·
      refine And.intro (show 0 ≤ n ∧ n < 60 by omega) ?_
      intro z3 (z3a : (0 : Int) ≤ z3) (z3b : z3 ≤ (2 : Int)) (z3c : z3 = S 4 (n).toNat 0)
      refine And.intro (fun (h4 : (z3 = (0 : Int) : Prop)) => ?_) (fun (h4 : (z3 ≠ (0 : Int) : Prop)) => ?_)
      ·
        refine And.intro (show 0 ≤ (0 : Int) ∧ (0 : Int) ≤ 1 by omega) ?_
        exact hk (0 : Int) (by omega)
      ·
        refine And.intro (show 0 ≤ (1 : Int) ∧ (1 : Int) ≤ 1 by omega) ?_
        exact hk (1 : Int) (by omega)
theorem c_Tree_isDirectory {l : Launch} {k : fxK} {S : fxS} {n : Int} (p0 : -2147483648 ≤ n ∧ n < 2147483648) (hk : ∀ (r : Int) , ((r = 0 ∨ r = 1) ∧ (r = 1 → 0 ≤ n ∧ n < 60 ∧ S 4 (n).toNat 0 = 1)) → k (some (.inl r)) S) : fC l 1 [.inr (.inr (2, 0)), .inl n] S k := by
  refine fxe_1 (Nat.le_of_ble_eq_true rfl) (fxz_1 400 ?_)
  refine c_Tree_isThere (n := n) (show -2147483648 ≤ n ∧ n < 2147483648 by omega) (fun (z1 : Int) (q2 : (z1 = 0 ∨ z1 = 1) ∧ (z1 = 1 → 0 ≤ n ∧ n < 60 ∧ S 4 (n).toNat 0 ≠ 0)) => ?_)
  refine And.intro (fun (h3 : (z1 = (0 : Int) : Prop)) => ?_) (fun (h3 : (z1 ≠ (0 : Int) : Prop)) => ?_)
  ·
    refine And.intro (show 0 ≤ (0 : Int) ∧ (0 : Int) ≤ 1 by omega) ?_
    exact hk (0 : Int) (by omega)
  ·
    refine And.intro (show 0 ≤ n ∧ n < 60 by omega) ?_
    intro z4 (z4a : (0 : Int) ≤ z4) (z4b : z4 ≤ (2 : Int)) (z4c : z4 = S 4 (n).toNat 0)
    refine And.intro (fun (h5 : (z4 ≠ (1 : Int) : Prop)) => ?_) (fun (h5 : (z4 = (1 : Int) : Prop)) => ?_)
    ·
      refine And.intro (show 0 ≤ (0 : Int) ∧ (0 : Int) ≤ 1 by omega) ?_
      exact hk (0 : Int) (by omega)
    ·
      refine And.intro (show 0 ≤ (1 : Int) ∧ (1 : Int) ≤ 1 by omega) ?_
      exact hk (1 : Int) (by omega)
theorem c_Tree_isFile {l : Launch} {k : fxK} {S : fxS} {n : Int} (p0 : -2147483648 ≤ n ∧ n < 2147483648) (hk : ∀ (r : Int) , ((r = 0 ∨ r = 1) ∧ (r = 1 → 0 ≤ n ∧ n < 60 ∧ S 4 (n).toNat 0 = 2)) → k (some (.inl r)) S) : fC l 34 [.inr (.inr (2, 0)), .inl n] S k := by
  refine fxe_34 (Nat.le_of_ble_eq_true rfl) (fxz_34 400 ?_)
  refine c_Tree_isThere (n := n) (show -2147483648 ≤ n ∧ n < 2147483648 by omega) (fun (z1 : Int) (q2 : (z1 = 0 ∨ z1 = 1) ∧ (z1 = 1 → 0 ≤ n ∧ n < 60 ∧ S 4 (n).toNat 0 ≠ 0)) => ?_)
  refine And.intro (fun (h3 : (z1 = (0 : Int) : Prop)) => ?_) (fun (h3 : (z1 ≠ (0 : Int) : Prop)) => ?_)
  ·
    refine And.intro (show 0 ≤ (0 : Int) ∧ (0 : Int) ≤ 1 by omega) ?_
    exact hk (0 : Int) (by omega)
  ·
    refine And.intro (show 0 ≤ n ∧ n < 60 by omega) ?_
    intro z4 (z4a : (0 : Int) ≤ z4) (z4b : z4 ≤ (2 : Int)) (z4c : z4 = S 4 (n).toNat 0)
    refine And.intro (fun (h5 : (z4 ≠ (2 : Int) : Prop)) => ?_) (fun (h5 : (z4 = (2 : Int) : Prop)) => ?_)
    ·
      refine And.intro (show 0 ≤ (0 : Int) ∧ (0 : Int) ≤ 1 by omega) ?_
      exact hk (0 : Int) (by omega)
    ·
      refine And.intro (show 0 ≤ (1 : Int) ∧ (1 : Int) ≤ 1 by omega) ?_
      exact hk (1 : Int) (by omega)
theorem z_Tree_seek {l : Launch} {k : fxK} {S : fxS} {n : Int} {x : Int} (p0 : -2147483648 ≤ n ∧ n < 2147483648) (hk : ∀ (r : Int) , (-1 ≤ r ∧ r < 60 ∧ r ≠ 0 ∧ (0 ≤ r → S 4 (r).toNat 0 ≠ 0 ∧ S 4 (r).toNat 1 = n)) → k (some (.inl r)) S) : ∀ m : Nat, (∀ (j : Int), (1 ≤ j ∧ j ≤ 60) → 61 - j ≤ (m : Int) → fZ l 2 k 3 [some (.inr (.inr (2, 0))), some (.inl n), some (.inr (.inl x)), none, some (.inl j), none] [] S) := by
  intro m
  induction m with
  | zero =>
    intro j  i0 hmu
    exfalso
    omega
  | succ m ih =>
    intro j  i0 hmu
    refine fxz_2 400 ?_
    refine And.intro (fun (h1 : ((60 : Int) ≤ j : Prop)) => ?_) (fun (h1 : (j < (60 : Int) : Prop)) => ?_)
    ·
      exact hk (-1 : Int) (by omega)
    ·
      refine And.intro (show 0 ≤ j ∧ j < 60 by omega) ?_
      refine And.intro (by decide) ?_
      intro z2 (z2a : (0 : Int) ≤ z2) (z2b : z2 ≤ (2 : Int)) (z2c : z2 = S 4 (j).toNat 0)
      refine And.intro (fun (h3 : (z2 = (0 : Int) : Prop)) => ?_) (fun (h3 : (z2 ≠ (0 : Int) : Prop)) => ?_)
      ·
        refine And.intro (by decide) (And.intro (show -2147483648 ≤ j + (1 : Int) ∧ j + (1 : Int) < 2147483648 by omega) ?_)
        exact ih (j + (1 : Int))  (by omega) (by omega)
      ·
        intro z5 (z5a : (0 : Int) ≤ z5) (z5b : z5 ≤ (59 : Int)) (z5c : z5 = S 4 (j).toNat 1)
        refine And.intro (fun (h6 : (z5 ≠ n : Prop)) => ?_) (fun (h6 : (z5 = n : Prop)) => ?_)
        ·
          refine And.intro (by decide) (And.intro (show -2147483648 ≤ j + (1 : Int) ∧ j + (1 : Int) < 2147483648 by omega) ?_)
          exact ih (j + (1 : Int))  (by omega) (by omega)
        ·
          intro z8
          refine And.intro (fun (_ : z8 < x) => ?_) (And.intro (fun (_ : z8 = x) => ?_) (fun (_ : x < z8) => ?_))
          ·
            refine And.intro (fun _ => ?_) (fun h => absurd h (by decide))
            refine And.intro (by decide) (And.intro (show -2147483648 ≤ j + (1 : Int) ∧ j + (1 : Int) < 2147483648 by omega) ?_)
            exact ih (j + (1 : Int))  (by omega) (by omega)
          ·
            refine And.intro (fun h => absurd h (by decide)) (fun _ => ?_)
            exact hk j (by omega)
          ·
            refine And.intro (fun _ => ?_) (fun h => absurd h (by decide))
            refine And.intro (by decide) (And.intro (show -2147483648 ≤ j + (1 : Int) ∧ j + (1 : Int) < 2147483648 by omega) ?_)
            exact ih (j + (1 : Int))  (by omega) (by omega)
theorem c_Tree_seek {l : Launch} {k : fxK} {S : fxS} {n : Int} {x : Int} (p0 : -2147483648 ≤ n ∧ n < 2147483648) (hk : ∀ (r : Int) , (-1 ≤ r ∧ r < 60 ∧ r ≠ 0 ∧ (0 ≤ r → S 4 (r).toNat 0 ≠ 0 ∧ S 4 (r).toNat 1 = n)) → k (some (.inl r)) S) : fC l 2 [.inr (.inr (2, 0)), .inl n, .inr (.inl x)] S k := by
  refine fxe_2 (Nat.le_of_ble_eq_true rfl) (fxz_2 400 ?_)
  refine And.intro (by decide) ?_
  exact (z_Tree_seek p0 hk (61 - (1 : Int)).toNat) (1 : Int)  (by omega) (by omega)
theorem z_Tree_leastAbsent {l : Launch} {k : fxK} {S : fxS}   (hk : ∀ (r : Int) , (-1 ≤ r ∧ r < 60 ∧ r ≠ 0 ∧ (0 ≤ r → S 4 (r).toNat 0 = 0)) → k (some (.inl r)) S) : ∀ m : Nat, (∀ (j : Int), (1 ≤ j ∧ j ≤ 60) → 61 - j ≤ (m : Int) → fZ l 3 k 2 [some (.inr (.inr (2, 0))), some (.inl j)] [] S) := by
  intro m
  induction m with
  | zero =>
    intro j  i0 hmu
    exfalso
    omega
  | succ m ih =>
    intro j  i0 hmu
    refine fxz_3 400 ?_
    refine And.intro (fun (h1 : ((60 : Int) ≤ j : Prop)) => ?_) (fun (h1 : (j < (60 : Int) : Prop)) => ?_)
    ·
      exact hk (-1 : Int) (by omega)
    ·
      refine And.intro (show 0 ≤ j ∧ j < 60 by omega) ?_
      intro z2 (z2a : (0 : Int) ≤ z2) (z2b : z2 ≤ (2 : Int)) (z2c : z2 = S 4 (j).toNat 0)
      refine And.intro (fun (h3 : (z2 ≠ (0 : Int) : Prop)) => ?_) (fun (h3 : (z2 = (0 : Int) : Prop)) => ?_)
      ·
        refine And.intro (by decide) (And.intro (show -2147483648 ≤ j + (1 : Int) ∧ j + (1 : Int) < 2147483648 by omega) ?_)
        exact ih (j + (1 : Int))  (by omega) (by omega)
      ·
        exact hk j (by omega)
theorem c_Tree_leastAbsent {l : Launch} {k : fxK} {S : fxS}   (hk : ∀ (r : Int) , (-1 ≤ r ∧ r < 60 ∧ r ≠ 0 ∧ (0 ≤ r → S 4 (r).toNat 0 = 0)) → k (some (.inl r)) S) : fC l 3 [.inr (.inr (2, 0))] S k := by
  refine fxe_3 (Nat.le_of_ble_eq_true rfl) (fxz_3 400 ?_)
  refine And.intro (by decide) ?_
  exact (z_Tree_leastAbsent  hk (61 - (1 : Int)).toNat) (1 : Int)  (by omega) (by omega)
theorem z_Tree_depthOf {l : Launch} {k : fxK} {S : fxS} {n : Int} (p0 : 0 ≤ n ∧ n < 60) (hk : ∀ (r : Int) , (0 ≤ r ∧ r ≤ 60 ∧ r = (depF (fun m => S 4 m 1) 60 n : Int)) → k (some (.inl r)) S) : ∀ m : Nat, (∀ (d a : Int), (0 ≤ d ∧ d ≤ 60) → (0 ≤ a ∧ a < 60) → (d + (depF (fun m => S 4 m 1) ((60 : Int) - d).toNat a : Int) = (depF (fun m => S 4 m 1) 60 n : Int)) → 61 - d ≤ (m : Int) → fZ l 4 k 4 [some (.inr (.inr (2, 0))), none, some (.inl d), some (.inl a)] [] S) := by
  intro m
  induction m with
  | zero =>
    intro d a  i0 i1 i2 hmu
    exfalso
    omega
  | succ m ih =>
    intro d a  i0 i1 i2 hmu
    refine fxz_4 400 ?_
    refine And.intro (fun (h1 : (a ≤ (0 : Int) : Prop)) => ?_) (fun (h1 : ((0 : Int) < a : Prop)) => ?_)
    ·
      exact hk d (by exact ⟨by omega, by omega, dI_end i2 (by omega)⟩)
    ·
      refine And.intro (fun (h2 : ((60 : Int) ≤ d : Prop)) => ?_) (fun (h2 : (d < (60 : Int) : Prop)) => ?_)
      ·
        exact hk d (by exact ⟨by omega, by omega, dI_end i2 (by omega)⟩)
      ·
        refine And.intro (show 0 ≤ a ∧ a < 60 by omega) ?_
        intro z3 (z3a : (0 : Int) ≤ z3) (z3b : z3 ≤ (59 : Int)) (z3c : z3 = S 4 (a).toNat 1)
        refine And.intro (by decide) ?_
        refine And.intro (by decide) (And.intro (show -2147483648 ≤ d + (1 : Int) ∧ d + (1 : Int) < 2147483648 by omega) ?_)
        exact ih (d + (1 : Int)) z3  (by first | omega | exact dI_0 | exact dI_step i2 (by omega) (by omega) (by assumption)) (by first | omega | exact dI_0 | exact dI_step i2 (by omega) (by omega) (by assumption)) (by first | omega | exact dI_0 | exact dI_step i2 (by omega) (by omega) (by assumption)) (by omega)
theorem c_Tree_depthOf {l : Launch} {k : fxK} {S : fxS} {n : Int} (p0 : 0 ≤ n ∧ n < 60) (hk : ∀ (r : Int) , (0 ≤ r ∧ r ≤ 60 ∧ r = (depF (fun m => S 4 m 1) 60 n : Int)) → k (some (.inl r)) S) : fC l 4 [.inr (.inr (2, 0)), .inl n] S k := by
  refine fxe_4 (Nat.le_of_ble_eq_true rfl) (fxz_4 400 ?_)
  refine And.intro (by decide) ?_
  refine And.intro (by decide) ?_
  exact (z_Tree_depthOf p0 hk (61 - (0 : Int)).toNat) (0 : Int) n  (by first | omega | exact dI_0 | exact dI_step i2 (by omega) (by omega) (by assumption)) (by first | omega | exact dI_0 | exact dI_step i2 (by omega) (by omega) (by assumption)) (by first | omega | exact dI_0 | exact dI_step i2 (by omega) (by omega) (by assumption)) (by omega)
theorem z_Tree_hasNodes {l : Launch} {k : fxK} {S : fxS} {n : Int} (p0 : -2147483648 ≤ n ∧ n < 2147483648) (hk : ∀ (r : Int) , ((r = 0 ∨ r = 1) ∧ (r = 0 → NoC n S)) → k (some (.inl r)) S) : ∀ m : Nat, (∀ (j : Int), (1 ≤ j ∧ j ≤ 60) → (NCJ n j S) → 61 - j ≤ (m : Int) → fZ l 33 k 2 [some (.inr (.inr (2, 0))), some (.inl n), some (.inl j)] [] S) := by
  intro m
  induction m with
  | zero =>
    intro j  i0 i1 hmu
    exfalso
    omega
  | succ m ih =>
    intro j  i0 i1 hmu
    refine fxz_33 400 ?_
    refine And.intro (fun (h1 : ((60 : Int) ≤ j : Prop)) => ?_) (fun (h1 : (j < (60 : Int) : Prop)) => ?_)
    ·
      refine And.intro (show 0 ≤ (0 : Int) ∧ (0 : Int) ≤ 1 by omega) ?_
      exact hk (0 : Int) (by first | exact ⟨by omega, fun h => absurd h (by decide)⟩ | exact ⟨by omega, fun _ => NC_end i1 (by omega)⟩)
    ·
      refine And.intro (show 0 ≤ j ∧ j < 60 by omega) ?_
      intro z2 (z2a : (0 : Int) ≤ z2) (z2b : z2 ≤ (2 : Int)) (z2c : z2 = S 4 (j).toNat 0)
      refine And.intro (fun (h3 : (z2 = (0 : Int) : Prop)) => ?_) (fun (h3 : (z2 ≠ (0 : Int) : Prop)) => ?_)
      ·
        refine And.intro (by decide) (And.intro (show -2147483648 ≤ j + (1 : Int) ∧ j + (1 : Int) < 2147483648 by omega) ?_)
        exact ih (j + (1 : Int))  (by first | omega | exact NC_0 | exact NC_step i1 (by omega) (by omega)) (by first | omega | exact NC_0 | exact NC_step i1 (by omega) (by omega)) (by omega)
      ·
        refine And.intro (show 0 ≤ j ∧ j < 60 by omega) ?_
        intro z5 (z5a : (0 : Int) ≤ z5) (z5b : z5 ≤ (59 : Int)) (z5c : z5 = S 4 (j).toNat 1)
        refine And.intro (fun (h6 : (z5 ≠ n : Prop)) => ?_) (fun (h6 : (z5 = n : Prop)) => ?_)
        ·
          refine And.intro (by decide) (And.intro (show -2147483648 ≤ j + (1 : Int) ∧ j + (1 : Int) < 2147483648 by omega) ?_)
          exact ih (j + (1 : Int))  (by first | omega | exact NC_0 | exact NC_step i1 (by omega) (by omega)) (by first | omega | exact NC_0 | exact NC_step i1 (by omega) (by omega)) (by omega)
        ·
          refine And.intro (show 0 ≤ (1 : Int) ∧ (1 : Int) ≤ 1 by omega) ?_
          exact hk (1 : Int) (by first | exact ⟨by omega, fun h => absurd h (by decide)⟩ | exact ⟨by omega, fun _ => NC_end i1 (by omega)⟩)
theorem c_Tree_hasNodes {l : Launch} {k : fxK} {S : fxS} {n : Int} (p0 : -2147483648 ≤ n ∧ n < 2147483648) (hk : ∀ (r : Int) , ((r = 0 ∨ r = 1) ∧ (r = 0 → NoC n S)) → k (some (.inl r)) S) : fC l 33 [.inr (.inr (2, 0)), .inl n] S k := by
  refine fxe_33 (Nat.le_of_ble_eq_true rfl) (fxz_33 400 ?_)
  refine And.intro (by decide) ?_
  exact (z_Tree_hasNodes p0 hk (61 - (1 : Int)).toNat) (1 : Int)  (by first | omega | exact NC_0 | exact NC_step i1 (by omega) (by omega)) (by first | omega | exact NC_0 | exact NC_step i1 (by omega) (by omega)) (by omega)
theorem z_Tree_isWithin {l : Launch} {k : fxK} {S : fxS} {n : Int} {t : Int} (p0 : 0 ≤ n ∧ n < 60) (p1 : -2147483648 ≤ t ∧ t < 2147483648) (hk : ∀ (r : Int) , ((r = 0 ∨ r = 1) ∧ (r = 1 → wiF (fun m => S 4 m 1) t 60 n = true) ∧ (r = 0 → wiF (fun m => S 4 m 1) t 60 n = false)) → k (some (.inl r)) S) : ∀ m : Nat, (∀ (a j : Int), (0 ≤ a ∧ a < 60) → (0 ≤ j ∧ j ≤ 60) → (wiF (fun m => S 4 m 1) t ((60 : Int) - j).toNat a = wiF (fun m => S 4 m 1) t 60 n) → 61 - j ≤ (m : Int) → fZ l 79 k 5 [some (.inr (.inr (2, 0))), none, some (.inl t), some (.inl a), some (.inl j)] [] S) := by
  intro m
  induction m with
  | zero =>
    intro a j  i0 i1 i2 hmu
    exfalso
    omega
  | succ m ih =>
    intro a j  i0 i1 i2 hmu
    refine fxz_79 400 ?_
    refine And.intro (fun (h1 : ((60 : Int) ≤ j : Prop)) => ?_) (fun (h1 : (j < (60 : Int) : Prop)) => ?_)
    ·
      refine And.intro (show 0 ≤ (0 : Int) ∧ (0 : Int) ≤ 1 by omega) ?_
      exact hk (0 : Int) (by first | exact ⟨by omega, fun h => absurd h (by decide), fun _ => wI_no i2 (by omega)⟩ | exact ⟨by omega, fun _ => wI_yes i2 (by omega) (by omega) (by omega), fun h => absurd h (by decide)⟩)
    ·
      refine And.intro (fun (h2 : (a ≤ (0 : Int) : Prop)) => ?_) (fun (h2 : ((0 : Int) < a : Prop)) => ?_)
      ·
        refine And.intro (show 0 ≤ (0 : Int) ∧ (0 : Int) ≤ 1 by omega) ?_
        exact hk (0 : Int) (by first | exact ⟨by omega, fun h => absurd h (by decide), fun _ => wI_no i2 (by omega)⟩ | exact ⟨by omega, fun _ => wI_yes i2 (by omega) (by omega) (by omega), fun h => absurd h (by decide)⟩)
      ·
        refine And.intro (fun (h3 : (a ≠ t : Prop)) => ?_) (fun (h3 : (a = t : Prop)) => ?_)
        ·
          refine And.intro (show 0 ≤ a ∧ a < 60 by omega) ?_
          intro z4 (z4a : (0 : Int) ≤ z4) (z4b : z4 ≤ (59 : Int)) (z4c : z4 = S 4 (a).toNat 1)
          refine And.intro (by decide) ?_
          refine And.intro (by decide) (And.intro (show -2147483648 ≤ j + (1 : Int) ∧ j + (1 : Int) < 2147483648 by omega) ?_)
          exact ih z4 (j + (1 : Int))  (by first | omega | exact wI_0 | exact wI_step i2 (by omega) (by omega) (by omega) (by assumption)) (by first | omega | exact wI_0 | exact wI_step i2 (by omega) (by omega) (by omega) (by assumption)) (by first | omega | exact wI_0 | exact wI_step i2 (by omega) (by omega) (by omega) (by assumption)) (by omega)
        ·
          refine And.intro (show 0 ≤ (1 : Int) ∧ (1 : Int) ≤ 1 by omega) ?_
          exact hk (1 : Int) (by first | exact ⟨by omega, fun h => absurd h (by decide), fun _ => wI_no i2 (by omega)⟩ | exact ⟨by omega, fun _ => wI_yes i2 (by omega) (by omega) (by omega), fun h => absurd h (by decide)⟩)
theorem c_Tree_isWithin {l : Launch} {k : fxK} {S : fxS} {n : Int} {t : Int} (p0 : 0 ≤ n ∧ n < 60) (p1 : -2147483648 ≤ t ∧ t < 2147483648) (hk : ∀ (r : Int) , ((r = 0 ∨ r = 1) ∧ (r = 1 → wiF (fun m => S 4 m 1) t 60 n = true) ∧ (r = 0 → wiF (fun m => S 4 m 1) t 60 n = false)) → k (some (.inl r)) S) : fC l 79 [.inr (.inr (2, 0)), .inl n, .inl t] S k := by
  refine fxe_79 (Nat.le_of_ble_eq_true rfl) (fxz_79 400 ?_)
  refine And.intro (by decide) ?_
  refine And.intro (by decide) ?_
  exact (z_Tree_isWithin p0 p1 hk (61 - (0 : Int)).toNat) n (0 : Int)  (by first | omega | exact wI_0 | exact wI_step i2 (by omega) (by omega) (by omega) (by assumption)) (by first | omega | exact wI_0 | exact wI_step i2 (by omega) (by omega) (by omega) (by assumption)) (by first | omega | exact wI_0 | exact wI_step i2 (by omega) (by omega) (by omega) (by assumption)) (by omega)
theorem z_Tree_count {l : Launch} {k : fxK} {S : fxS} {n : Int} (p0 : -2147483648 ≤ n ∧ n < 2147483648) (hk : ∀ (r : Int) , (0 ≤ r ∧ r ≤ 60) → k (some (.inl r)) S) : ∀ m : Nat, (∀ (u j : Int), (0 ≤ u ∧ u ≤ j) → (0 ≤ j ∧ j ≤ 60) → 61 - j ≤ (m : Int) → fZ l 151 k 4 [some (.inr (.inr (2, 0))), some (.inl n), some (.inl u), some (.inl j)] [] S) := by
  intro m
  induction m with
  | zero =>
    intro u j  i0 i1 hmu
    exfalso
    omega
  | succ m ih =>
    intro u j  i0 i1 hmu
    refine fxz_151 400 ?_
    refine And.intro (fun (h1 : ((60 : Int) ≤ j : Prop)) => ?_) (fun (h1 : (j < (60 : Int) : Prop)) => ?_)
    ·
      exact hk u (by omega)
    ·
      refine And.intro (show 0 ≤ j ∧ j < 60 by omega) ?_
      intro z2 (z2a : (0 : Int) ≤ z2) (z2b : z2 ≤ (2 : Int)) (z2c : z2 = S 4 (j).toNat 0)
      refine And.intro (fun (h3 : (z2 ≠ n : Prop)) => ?_) (fun (h3 : (z2 = n : Prop)) => ?_)
      ·
        refine And.intro (by decide) (And.intro (show -2147483648 ≤ j + (1 : Int) ∧ j + (1 : Int) < 2147483648 by omega) ?_)
        exact ih u (j + (1 : Int))  (by omega) (by omega) (by omega)
      ·
        refine And.intro (by decide) (And.intro (show -2147483648 ≤ u + (1 : Int) ∧ u + (1 : Int) < 2147483648 by omega) ?_)
        refine And.intro (by decide) (And.intro (show -2147483648 ≤ j + (1 : Int) ∧ j + (1 : Int) < 2147483648 by omega) ?_)
        exact ih (u + (1 : Int)) (j + (1 : Int))  (by omega) (by omega) (by omega)
theorem c_Tree_count {l : Launch} {k : fxK} {S : fxS} {n : Int} (p0 : -2147483648 ≤ n ∧ n < 2147483648) (hk : ∀ (r : Int) , (0 ≤ r ∧ r ≤ 60) → k (some (.inl r)) S) : fC l 151 [.inr (.inr (2, 0)), .inl n] S k := by
  refine fxe_151 (Nat.le_of_ble_eq_true rfl) (fxz_151 400 ?_)
  refine And.intro (by decide) ?_
  refine And.intro (by decide) ?_
  exact (z_Tree_count p0 hk (61 - (0 : Int)).toNat) (0 : Int) (0 : Int)  (by omega) (by omega) (by omega)
