/-! contracts of the reference: the tree, what is copied out -/
theorem z_StubHouseModel_isBelow {l : Launch} {k : fxK} {S : fxS} {n : Int} {t : Int} (p0 : COL S) (p1 : WTM S) (p2 : 0 ≤ n ∧ n < 60) (p3 : 1 ≤ t) (hk : ∀ (r : Int) , (0 ≤ r ∧ r ≤ 1 ∧ (r = 1 → wiF (ovf (S 50 0)) t 60 n = true) ∧ (r = 0 → wiF (ovf (S 50 0)) t 60 n = false)) → k (some (.inl r)) S) : ∀ m : Nat, (∀ (u : Int), (0 ≤ u ∧ u < 60) → (wiF (ovf (S 50 0)) t 60 u = wiF (ovf (S 50 0)) t 60 n) → (depF (ovf (S 50 0)) 60 u : Int) + 1 ≤ (m : Int) → fZ l 83 k 2 [some (.inr (.inr (49, 0))), none, some (.inl t), some (.inl u)] [] S) := by
  intro m
  induction m with
  | zero =>
    intro u  i0 i1 hmu
    exfalso
    omega
  | succ m ih =>
    intro u  i0 i1 hmu
    refine fxz_83 400 ?_
    refine And.intro (fun (h1 : (u ≤ (0 : Int) : Prop)) => ?_) (fun (h1 : ((0 : Int) < u : Prop)) => ?_)
    ·
      refine And.intro (fun (h2 : (u ≠ t : Prop)) => ?_) (fun (h2 : (u = t : Prop)) => ?_)
      ·
        refine And.intro (show 0 ≤ (0 : Int) ∧ (0 : Int) ≤ 1 by omega) ?_
        exact hk (0 : Int) (by first | (exfalso; omega) | exact ⟨by omega, by omega, fun _ => by rw [← i1, show u = t by omega]; exact wiF_t (by omega), fun h => absurd h (by decide)⟩ | exact ⟨by omega, by omega, fun h => absurd h (by decide), fun _ => by rw [← i1]; exact wiF_0 (by omega)⟩)
      ·
        refine And.intro (show 0 ≤ (1 : Int) ∧ (1 : Int) ≤ 1 by omega) ?_
        exact hk (1 : Int) (by first | (exfalso; omega) | exact ⟨by omega, by omega, fun _ => by rw [← i1, show u = t by omega]; exact wiF_t (by omega), fun h => absurd h (by decide)⟩ | exact ⟨by omega, by omega, fun h => absurd h (by decide), fun _ => by rw [← i1]; exact wiF_0 (by omega)⟩)
    ·
      refine And.intro (fun (h3 : (u = t : Prop)) => ?_) (fun (h3 : (u ≠ t : Prop)) => ?_)
      ·
        refine And.intro (fun (h4 : (u ≠ t : Prop)) => ?_) (fun (h4 : (u = t : Prop)) => ?_)
        ·
          refine And.intro (show 0 ≤ (0 : Int) ∧ (0 : Int) ≤ 1 by omega) ?_
          exact hk (0 : Int) (by first | (exfalso; omega) | exact ⟨by omega, by omega, fun _ => by rw [← i1, show u = t by omega]; exact wiF_t (by omega), fun h => absurd h (by decide)⟩ | exact ⟨by omega, by omega, fun h => absurd h (by decide), fun _ => by rw [← i1]; exact wiF_0 (by omega)⟩)
        ·
          refine And.intro (show 0 ≤ (1 : Int) ∧ (1 : Int) ≤ 1 by omega) ?_
          exact hk (1 : Int) (by first | (exfalso; omega) | exact ⟨by omega, by omega, fun _ => by rw [← i1, show u = t by omega]; exact wiF_t (by omega), fun h => absurd h (by decide)⟩ | exact ⟨by omega, by omega, fun h => absurd h (by decide), fun _ => by rw [← i1]; exact wiF_0 (by omega)⟩)
      ·
        refine c_at1 (n := u) p0 (show 0 ≤ u ∧ u < 60 by omega) (fun (z5 : Int) (q6 : z5 = aN S u 1 ∧ -1 ≤ z5 ∧ z5 < 60) => ?_)
        have ch : (depF (ovf (S 50 0)) 60 u : Int) = 1 + (depF (ovf (S 50 0)) 60 z5 : Int) := by rw [q6.1]; exact WTM_child p1 (by omega)
        have rg := WTM_rng (n := u) p1 (by omega)
        have wi : wiF (ovf (S 50 0)) t 60 u = wiF (ovf (S 50 0)) t 60 z5 := by rw [q6.1]; exact WTM_wi p1 (by omega) (by omega)
        refine And.intro (by decide) ?_
        exact ih z5  (by first | omega | rfl | exact wi.symm.trans i1) (by first | omega | rfl | exact wi.symm.trans i1) (by omega)
theorem c_StubHouseModel_isBelow {l : Launch} {k : fxK} {S : fxS} {n : Int} {t : Int} (p0 : COL S) (p1 : WTM S) (p2 : 0 ≤ n ∧ n < 60) (p3 : 1 ≤ t) (hk : ∀ (r : Int) , (0 ≤ r ∧ r ≤ 1 ∧ (r = 1 → wiF (ovf (S 50 0)) t 60 n = true) ∧ (r = 0 → wiF (ovf (S 50 0)) t 60 n = false)) → k (some (.inl r)) S) : fC l 83 [.inr (.inr (49, 0)), .inl n, .inl t] S k := by
  refine fxe_83 (Nat.le_of_ble_eq_true rfl) (fxz_83 400 ?_)
  refine And.intro (by decide) ?_
  exact (z_StubHouseModel_isBelow p0 p1 p2 p3 hk ((depF (ovf (S 50 0)) 60 n : Int) + 1).toNat) n  (by first | omega | rfl | exact wi.symm.trans i1) (by first | omega | rfl | exact wi.symm.trans i1) (by omega)
theorem z_StubHouseModel_hasNodes {l : Launch} {k : fxK} {S : fxS} {n : Int} (p0 : COL S) (p1 : -2147483648 ≤ n ∧ n < 2147483648) (hk : ∀ (r : Int) , (0 ≤ r ∧ r ≤ 1 ∧ (r = 0 → NoM n 60 S)) → k (some (.inl r)) S) : ∀ m : Nat, (∀ (j : Int), (1 ≤ j ∧ j ≤ 60) → (NoM n j S) → 61 - j ≤ (m : Int) → fZ l 61 k 2 [some (.inr (.inr (49, 0))), some (.inl n), some (.inl j)] [] S) := by
  intro m
  induction m with
  | zero =>
    intro j  i0 i1 hmu
    exfalso
    omega
  | succ m ih =>
    intro j  i0 i1 hmu
    refine fxz_61 400 ?_
    refine And.intro (fun (h1 : ((60 : Int) ≤ j : Prop)) => ?_) (fun (h1 : (j < (60 : Int) : Prop)) => ?_)
    ·
      refine And.intro (show 0 ≤ (0 : Int) ∧ (0 : Int) ≤ 1 by omega) ?_
      exact hk (0 : Int) (by first | exact ⟨by omega, by omega, fun h => absurd h (by decide)⟩ | exact ⟨by omega, by omega, fun _ => NoM_le i1 (by omega)⟩)
    ·
      refine c_at0 (n := j) p0 (show 0 ≤ j ∧ j < 60 by omega) (fun (z2 : Int) (q3 : z2 = aN S j 0 ∧ 0 ≤ z2 ∧ z2 ≤ 2) => ?_)
      refine And.intro (fun (h4 : (z2 = (0 : Int) : Prop)) => ?_) (fun (h4 : (z2 ≠ (0 : Int) : Prop)) => ?_)
      ·
        refine And.intro (by decide) (And.intro (show -2147483648 ≤ j + (1 : Int) ∧ j + (1 : Int) < 2147483648 by omega) ?_)
        exact ih (j + (1 : Int))  (by first | omega | exact NoM_0 | exact NoM_step i1 (by omega)) (by first | omega | exact NoM_0 | exact NoM_step i1 (by omega)) (by omega)
      ·
        refine c_at1 (n := j) p0 (show 0 ≤ j ∧ j < 60 by omega) (fun (z6 : Int) (q7 : z6 = aN S j 1 ∧ -1 ≤ z6 ∧ z6 < 60) => ?_)
        refine And.intro (fun (h8 : (z6 ≠ n : Prop)) => ?_) (fun (h8 : (z6 = n : Prop)) => ?_)
        ·
          refine And.intro (by decide) (And.intro (show -2147483648 ≤ j + (1 : Int) ∧ j + (1 : Int) < 2147483648 by omega) ?_)
          exact ih (j + (1 : Int))  (by first | omega | exact NoM_0 | exact NoM_step i1 (by omega)) (by first | omega | exact NoM_0 | exact NoM_step i1 (by omega)) (by omega)
        ·
          refine And.intro (show 0 ≤ (1 : Int) ∧ (1 : Int) ≤ 1 by omega) ?_
          exact hk (1 : Int) (by first | exact ⟨by omega, by omega, fun h => absurd h (by decide)⟩ | exact ⟨by omega, by omega, fun _ => NoM_le i1 (by omega)⟩)
theorem c_StubHouseModel_hasNodes {l : Launch} {k : fxK} {S : fxS} {n : Int} (p0 : COL S) (p1 : -2147483648 ≤ n ∧ n < 2147483648) (hk : ∀ (r : Int) , (0 ≤ r ∧ r ≤ 1 ∧ (r = 0 → NoM n 60 S)) → k (some (.inl r)) S) : fC l 61 [.inr (.inr (49, 0)), .inl n] S k := by
  refine fxe_61 (Nat.le_of_ble_eq_true rfl) (fxz_61 400 ?_)
  refine And.intro (by decide) ?_
  exact (z_StubHouseModel_hasNodes p0 p1 hk (61 - (1 : Int)).toNat) (1 : Int)  (by first | omega | exact NoM_0 | exact NoM_step i1 (by omega)) (by first | omega | exact NoM_0 | exact NoM_step i1 (by omega)) (by omega)
theorem z_StubHouseModel_inStore {l : Launch} {k : fxK} {S : fxS} {f : Int} {s : Int} (p0 : COL S) (p1 : 0 ≤ f ∧ f < 60) (p2 : -2147483648 ≤ s ∧ s < 2147483648) (hk : ∀ (r : Int) , (0 ≤ r ∧ r ≤ 32 ∧ (0 < r → SOM f s S)) → k (some (.inl r)) S) : ∀ m : Nat, (∀ (u j : Int), (0 ≤ j ∧ j ≤ 32) → (0 ≤ u ∧ u ≤ j) → (0 < u → SOM f s S) → 33 - j ≤ (m : Int) → fZ l 122 k 5 [some (.inr (.inr (49, 0))), some (.inl f), some (.inl s), some (.inl u), some (.inl j), none] [] S) := by
  intro m
  induction m with
  | zero =>
    intro u j  i0 i1 i2 hmu
    exfalso
    omega
  | succ m ih =>
    intro u j  i0 i1 i2 hmu
    refine fxz_122 400 ?_
    refine And.intro (fun (h1 : ((32 : Int) ≤ j : Prop)) => ?_) (fun (h1 : (j < (32 : Int) : Prop)) => ?_)
    ·
      exact hk u (by exact ⟨by omega, by omega, i2⟩)
    ·
      refine And.intro (show -2147483648 ≤ ((10 : Int) + j) ∧ ((10 : Int) + j) < 2147483648 by omega) ?_
      refine c_atb (n := f) (w := ((10 : Int) + j)) p0 (show 0 ≤ f ∧ f < 60 by omega) (show 10 ≤ ((10 : Int) + j) ∧ ((10 : Int) + j) < 42 by omega) (fun (z2 : Int) (q3 : z2 = aN S f ((10 : Int) + j) ∧ -1 ≤ z2 ∧ z2 ≤ 207) => ?_)
      refine And.intro (by decide) ?_
      refine And.intro (fun (h4 : (z2 < (0 : Int) : Prop)) => ?_) (fun (h4 : ((0 : Int) ≤ z2 : Prop)) => ?_)
      ·
        refine And.intro (show -2147483648 ≤ (u + (0 : Int)) ∧ (u + (0 : Int)) < 2147483648 by omega) ?_
        refine And.intro (by decide) ?_
        refine And.intro (by decide) (And.intro (show -2147483648 ≤ j + (1 : Int) ∧ j + (1 : Int) < 2147483648 by omega) ?_)
        exact ih (u + (0 : Int)) (j + (1 : Int))  (by first | omega | exact fun h => absurd h (by omega) | exact fun h => i2 (by omega) | exact fun _ => ⟨j, by omega, by omega, by omega⟩) (by first | omega | exact fun h => absurd h (by omega) | exact fun h => i2 (by omega) | exact fun _ => ⟨j, by omega, by omega, by omega⟩) (by first | omega | exact fun h => absurd h (by omega) | exact fun h => i2 (by omega) | exact fun _ => ⟨j, by omega, by omega, by omega⟩) (by omega)
      ·
        refine And.intro (fun (h6 : (s ≠ (0 : Int) : Prop)) => ?_) (fun (h6 : (s = (0 : Int) : Prop)) => ?_)
        ·
          refine And.intro (fun (h7 : (z2 < (48 : Int) : Prop)) => ?_) (fun (h7 : ((48 : Int) ≤ z2 : Prop)) => ?_)
          ·
            refine And.intro (show -2147483648 ≤ (u + (0 : Int)) ∧ (u + (0 : Int)) < 2147483648 by omega) ?_
            refine And.intro (by decide) ?_
            refine And.intro (by decide) (And.intro (show -2147483648 ≤ j + (1 : Int) ∧ j + (1 : Int) < 2147483648 by omega) ?_)
            exact ih (u + (0 : Int)) (j + (1 : Int))  (by first | omega | exact fun h => absurd h (by omega) | exact fun h => i2 (by omega) | exact fun _ => ⟨j, by omega, by omega, by omega⟩) (by first | omega | exact fun h => absurd h (by omega) | exact fun h => i2 (by omega) | exact fun _ => ⟨j, by omega, by omega, by omega⟩) (by first | omega | exact fun h => absurd h (by omega) | exact fun h => i2 (by omega) | exact fun _ => ⟨j, by omega, by omega, by omega⟩) (by omega)
          ·
            refine And.intro (show -2147483648 ≤ (u + (1 : Int)) ∧ (u + (1 : Int)) < 2147483648 by omega) ?_
            refine And.intro (by decide) ?_
            refine And.intro (by decide) (And.intro (show -2147483648 ≤ j + (1 : Int) ∧ j + (1 : Int) < 2147483648 by omega) ?_)
            exact ih (u + (1 : Int)) (j + (1 : Int))  (by first | omega | exact fun h => absurd h (by omega) | exact fun h => i2 (by omega) | exact fun _ => ⟨j, by omega, by omega, by omega⟩) (by first | omega | exact fun h => absurd h (by omega) | exact fun h => i2 (by omega) | exact fun _ => ⟨j, by omega, by omega, by omega⟩) (by first | omega | exact fun h => absurd h (by omega) | exact fun h => i2 (by omega) | exact fun _ => ⟨j, by omega, by omega, by omega⟩) (by omega)
        ·
          refine And.intro (fun (h10 : ((48 : Int) ≤ z2 : Prop)) => ?_) (fun (h10 : (z2 < (48 : Int) : Prop)) => ?_)
          ·
            refine And.intro (show -2147483648 ≤ (u + (0 : Int)) ∧ (u + (0 : Int)) < 2147483648 by omega) ?_
            refine And.intro (by decide) ?_
            refine And.intro (by decide) (And.intro (show -2147483648 ≤ j + (1 : Int) ∧ j + (1 : Int) < 2147483648 by omega) ?_)
            exact ih (u + (0 : Int)) (j + (1 : Int))  (by first | omega | exact fun h => absurd h (by omega) | exact fun h => i2 (by omega) | exact fun _ => ⟨j, by omega, by omega, by omega⟩) (by first | omega | exact fun h => absurd h (by omega) | exact fun h => i2 (by omega) | exact fun _ => ⟨j, by omega, by omega, by omega⟩) (by first | omega | exact fun h => absurd h (by omega) | exact fun h => i2 (by omega) | exact fun _ => ⟨j, by omega, by omega, by omega⟩) (by omega)
          ·
            refine And.intro (show -2147483648 ≤ (u + (1 : Int)) ∧ (u + (1 : Int)) < 2147483648 by omega) ?_
            refine And.intro (by decide) ?_
            refine And.intro (by decide) (And.intro (show -2147483648 ≤ j + (1 : Int) ∧ j + (1 : Int) < 2147483648 by omega) ?_)
            exact ih (u + (1 : Int)) (j + (1 : Int))  (by first | omega | exact fun h => absurd h (by omega) | exact fun h => i2 (by omega) | exact fun _ => ⟨j, by omega, by omega, by omega⟩) (by first | omega | exact fun h => absurd h (by omega) | exact fun h => i2 (by omega) | exact fun _ => ⟨j, by omega, by omega, by omega⟩) (by first | omega | exact fun h => absurd h (by omega) | exact fun h => i2 (by omega) | exact fun _ => ⟨j, by omega, by omega, by omega⟩) (by omega)
theorem c_StubHouseModel_inStore {l : Launch} {k : fxK} {S : fxS} {f : Int} {s : Int} (p0 : COL S) (p1 : 0 ≤ f ∧ f < 60) (p2 : -2147483648 ≤ s ∧ s < 2147483648) (hk : ∀ (r : Int) , (0 ≤ r ∧ r ≤ 32 ∧ (0 < r → SOM f s S)) → k (some (.inl r)) S) : fC l 122 [.inr (.inr (49, 0)), .inl f, .inl s] S k := by
  refine fxe_122 (Nat.le_of_ble_eq_true rfl) (fxz_122 400 ?_)
  refine And.intro (by decide) ?_
  refine And.intro (by decide) ?_
  exact (z_StubHouseModel_inStore p0 p1 p2 hk (33 - (0 : Int)).toNat) (0 : Int) (0 : Int)  (by first | omega | exact fun h => absurd h (by omega) | exact fun h => i2 (by omega) | exact fun _ => ⟨j, by omega, by omega, by omega⟩) (by first | omega | exact fun h => absurd h (by omega) | exact fun h => i2 (by omega) | exact fun _ => ⟨j, by omega, by omega, by omega⟩) (by first | omega | exact fun h => absurd h (by omega) | exact fun h => i2 (by omega) | exact fun _ => ⟨j, by omega, by omega, by omega⟩) (by omega)
theorem z_freeIn_0_208 {l : Launch} {k : fxK} {S : fxS}   (hk : ∀ (r : Int) , (r = fcn (S 56 0) 0 208 ∧ 0 ≤ r ∧ r ≤ 208) → k (some (.inl r)) S) : ∀ m : Nat, (∀ (u j : Int), (0 ≤ j ∧ j ≤ 208) → (u = fcn (S 56 0) 0 (j - 0).toNat) → (0 ≤ u ∧ u ≤ j - 0) → 209 - j ≤ (m : Int) → fZ l 105 k 5 [some (.inr (.inr (49, 0))), none, some (.inl (208 : Int)), some (.inl u), some (.inl j)] [] S) := by
  intro m
  induction m with
  | zero =>
    intro u j  i0 i1 i2 hmu
    exfalso
    omega
  | succ m ih =>
    intro u j  i0 i1 i2 hmu
    refine fxz_105 400 ?_
    refine And.intro (fun (h1 : ((208 : Int) ≤ j : Prop)) => ?_) (fun (h1 : (j < (208 : Int) : Prop)) => ?_)
    ·
      exact hk u (by exact ⟨by rw [i1, show j = 208 by omega]; rfl, by omega, by omega⟩)
    ·
      refine And.intro (show 0 ≤ j ∧ j < 208 by omega) ?_
      intro z2 (z2a : (0 : Int) ≤ z2) (z2b : z2 ≤ (2 : Int)) (z2c : z2 = S 56 0 (j).toNat)
      refine And.intro (fun (h3 : (z2 ≠ (0 : Int) : Prop)) => ?_) (fun (h3 : (z2 = (0 : Int) : Prop)) => ?_)
      ·
        refine And.intro (show -2147483648 ≤ (u + (0 : Int)) ∧ (u + (0 : Int)) < 2147483648 by omega) ?_
        refine And.intro (by decide) ?_
        refine And.intro (by decide) (And.intro (show -2147483648 ≤ j + (1 : Int) ∧ j + (1 : Int) < 2147483648 by omega) ?_)
        exact ih (u + (0 : Int)) (j + (1 : Int))  (by first | omega | rfl | (rw [fcn_s (by omega), if_pos (by omega)]; omega) | (rw [fcn_s (by omega), if_neg (by omega)]; omega)) (by first | omega | rfl | (rw [fcn_s (by omega), if_pos (by omega)]; omega) | (rw [fcn_s (by omega), if_neg (by omega)]; omega)) (by first | omega | rfl | (rw [fcn_s (by omega), if_pos (by omega)]; omega) | (rw [fcn_s (by omega), if_neg (by omega)]; omega)) (by omega)
      ·
        refine And.intro (show -2147483648 ≤ (u + (1 : Int)) ∧ (u + (1 : Int)) < 2147483648 by omega) ?_
        refine And.intro (by decide) ?_
        refine And.intro (by decide) (And.intro (show -2147483648 ≤ j + (1 : Int) ∧ j + (1 : Int) < 2147483648 by omega) ?_)
        exact ih (u + (1 : Int)) (j + (1 : Int))  (by first | omega | rfl | (rw [fcn_s (by omega), if_pos (by omega)]; omega) | (rw [fcn_s (by omega), if_neg (by omega)]; omega)) (by first | omega | rfl | (rw [fcn_s (by omega), if_pos (by omega)]; omega) | (rw [fcn_s (by omega), if_neg (by omega)]; omega)) (by first | omega | rfl | (rw [fcn_s (by omega), if_pos (by omega)]; omega) | (rw [fcn_s (by omega), if_neg (by omega)]; omega)) (by omega)
theorem c_freeIn_0_208 {l : Launch} {k : fxK} {S : fxS}   (hk : ∀ (r : Int) , (r = fcn (S 56 0) 0 208 ∧ 0 ≤ r ∧ r ≤ 208) → k (some (.inl r)) S) : fC l 105 [.inr (.inr (49, 0)), .inl (0 : Int), .inl (208 : Int)] S k := by
  refine fxe_105 (Nat.le_of_ble_eq_true rfl) (fxz_105 400 ?_)
  refine And.intro (by decide) ?_
  refine And.intro (by decide) ?_
  exact (z_freeIn_0_208  hk (209 - (0 : Int)).toNat) (0 : Int) (0 : Int)  (by first | omega | rfl | (rw [fcn_s (by omega), if_pos (by omega)]; omega) | (rw [fcn_s (by omega), if_neg (by omega)]; omega)) (by first | omega | rfl | (rw [fcn_s (by omega), if_pos (by omega)]; omega) | (rw [fcn_s (by omega), if_neg (by omega)]; omega)) (by first | omega | rfl | (rw [fcn_s (by omega), if_pos (by omega)]; omega) | (rw [fcn_s (by omega), if_neg (by omega)]; omega)) (by omega)
theorem z_freeIn_0_48 {l : Launch} {k : fxK} {S : fxS}   (hk : ∀ (r : Int) , (r = fcn (S 56 0) 0 48 ∧ 0 ≤ r ∧ r ≤ 208) → k (some (.inl r)) S) : ∀ m : Nat, (∀ (u j : Int), (0 ≤ j ∧ j ≤ 48) → (u = fcn (S 56 0) 0 (j - 0).toNat) → (0 ≤ u ∧ u ≤ j - 0) → 49 - j ≤ (m : Int) → fZ l 105 k 5 [some (.inr (.inr (49, 0))), none, some (.inl (48 : Int)), some (.inl u), some (.inl j)] [] S) := by
  intro m
  induction m with
  | zero =>
    intro u j  i0 i1 i2 hmu
    exfalso
    omega
  | succ m ih =>
    intro u j  i0 i1 i2 hmu
    refine fxz_105 400 ?_
    refine And.intro (fun (h1 : ((48 : Int) ≤ j : Prop)) => ?_) (fun (h1 : (j < (48 : Int) : Prop)) => ?_)
    ·
      exact hk u (by exact ⟨by rw [i1, show j = 48 by omega]; rfl, by omega, by omega⟩)
    ·
      refine And.intro (show 0 ≤ j ∧ j < 208 by omega) ?_
      intro z2 (z2a : (0 : Int) ≤ z2) (z2b : z2 ≤ (2 : Int)) (z2c : z2 = S 56 0 (j).toNat)
      refine And.intro (fun (h3 : (z2 ≠ (0 : Int) : Prop)) => ?_) (fun (h3 : (z2 = (0 : Int) : Prop)) => ?_)
      ·
        refine And.intro (show -2147483648 ≤ (u + (0 : Int)) ∧ (u + (0 : Int)) < 2147483648 by omega) ?_
        refine And.intro (by decide) ?_
        refine And.intro (by decide) (And.intro (show -2147483648 ≤ j + (1 : Int) ∧ j + (1 : Int) < 2147483648 by omega) ?_)
        exact ih (u + (0 : Int)) (j + (1 : Int))  (by first | omega | rfl | (rw [fcn_s (by omega), if_pos (by omega)]; omega) | (rw [fcn_s (by omega), if_neg (by omega)]; omega)) (by first | omega | rfl | (rw [fcn_s (by omega), if_pos (by omega)]; omega) | (rw [fcn_s (by omega), if_neg (by omega)]; omega)) (by first | omega | rfl | (rw [fcn_s (by omega), if_pos (by omega)]; omega) | (rw [fcn_s (by omega), if_neg (by omega)]; omega)) (by omega)
      ·
        refine And.intro (show -2147483648 ≤ (u + (1 : Int)) ∧ (u + (1 : Int)) < 2147483648 by omega) ?_
        refine And.intro (by decide) ?_
        refine And.intro (by decide) (And.intro (show -2147483648 ≤ j + (1 : Int) ∧ j + (1 : Int) < 2147483648 by omega) ?_)
        exact ih (u + (1 : Int)) (j + (1 : Int))  (by first | omega | rfl | (rw [fcn_s (by omega), if_pos (by omega)]; omega) | (rw [fcn_s (by omega), if_neg (by omega)]; omega)) (by first | omega | rfl | (rw [fcn_s (by omega), if_pos (by omega)]; omega) | (rw [fcn_s (by omega), if_neg (by omega)]; omega)) (by first | omega | rfl | (rw [fcn_s (by omega), if_pos (by omega)]; omega) | (rw [fcn_s (by omega), if_neg (by omega)]; omega)) (by omega)
theorem c_freeIn_0_48 {l : Launch} {k : fxK} {S : fxS}   (hk : ∀ (r : Int) , (r = fcn (S 56 0) 0 48 ∧ 0 ≤ r ∧ r ≤ 208) → k (some (.inl r)) S) : fC l 105 [.inr (.inr (49, 0)), .inl (0 : Int), .inl (48 : Int)] S k := by
  refine fxe_105 (Nat.le_of_ble_eq_true rfl) (fxz_105 400 ?_)
  refine And.intro (by decide) ?_
  refine And.intro (by decide) ?_
  exact (z_freeIn_0_48  hk (49 - (0 : Int)).toNat) (0 : Int) (0 : Int)  (by first | omega | rfl | (rw [fcn_s (by omega), if_pos (by omega)]; omega) | (rw [fcn_s (by omega), if_neg (by omega)]; omega)) (by first | omega | rfl | (rw [fcn_s (by omega), if_pos (by omega)]; omega) | (rw [fcn_s (by omega), if_neg (by omega)]; omega)) (by first | omega | rfl | (rw [fcn_s (by omega), if_pos (by omega)]; omega) | (rw [fcn_s (by omega), if_neg (by omega)]; omega)) (by omega)
theorem z_freeIn_48_208 {l : Launch} {k : fxK} {S : fxS}   (hk : ∀ (r : Int) , (r = fcn (S 56 0) 48 160 ∧ 0 ≤ r ∧ r ≤ 208) → k (some (.inl r)) S) : ∀ m : Nat, (∀ (u j : Int), (48 ≤ j ∧ j ≤ 208) → (u = fcn (S 56 0) 48 (j - 48).toNat) → (0 ≤ u ∧ u ≤ j - 48) → 209 - j ≤ (m : Int) → fZ l 105 k 5 [some (.inr (.inr (49, 0))), none, some (.inl (208 : Int)), some (.inl u), some (.inl j)] [] S) := by
  intro m
  induction m with
  | zero =>
    intro u j  i0 i1 i2 hmu
    exfalso
    omega
  | succ m ih =>
    intro u j  i0 i1 i2 hmu
    refine fxz_105 400 ?_
    refine And.intro (fun (h1 : ((208 : Int) ≤ j : Prop)) => ?_) (fun (h1 : (j < (208 : Int) : Prop)) => ?_)
    ·
      exact hk u (by exact ⟨by rw [i1, show j = 208 by omega]; rfl, by omega, by omega⟩)
    ·
      refine And.intro (show 0 ≤ j ∧ j < 208 by omega) ?_
      intro z2 (z2a : (0 : Int) ≤ z2) (z2b : z2 ≤ (2 : Int)) (z2c : z2 = S 56 0 (j).toNat)
      refine And.intro (fun (h3 : (z2 ≠ (0 : Int) : Prop)) => ?_) (fun (h3 : (z2 = (0 : Int) : Prop)) => ?_)
      ·
        refine And.intro (show -2147483648 ≤ (u + (0 : Int)) ∧ (u + (0 : Int)) < 2147483648 by omega) ?_
        refine And.intro (by decide) ?_
        refine And.intro (by decide) (And.intro (show -2147483648 ≤ j + (1 : Int) ∧ j + (1 : Int) < 2147483648 by omega) ?_)
        exact ih (u + (0 : Int)) (j + (1 : Int))  (by first | omega | rfl | (rw [fcn_s (by omega), if_pos (by omega)]; omega) | (rw [fcn_s (by omega), if_neg (by omega)]; omega)) (by first | omega | rfl | (rw [fcn_s (by omega), if_pos (by omega)]; omega) | (rw [fcn_s (by omega), if_neg (by omega)]; omega)) (by first | omega | rfl | (rw [fcn_s (by omega), if_pos (by omega)]; omega) | (rw [fcn_s (by omega), if_neg (by omega)]; omega)) (by omega)
      ·
        refine And.intro (show -2147483648 ≤ (u + (1 : Int)) ∧ (u + (1 : Int)) < 2147483648 by omega) ?_
        refine And.intro (by decide) ?_
        refine And.intro (by decide) (And.intro (show -2147483648 ≤ j + (1 : Int) ∧ j + (1 : Int) < 2147483648 by omega) ?_)
        exact ih (u + (1 : Int)) (j + (1 : Int))  (by first | omega | rfl | (rw [fcn_s (by omega), if_pos (by omega)]; omega) | (rw [fcn_s (by omega), if_neg (by omega)]; omega)) (by first | omega | rfl | (rw [fcn_s (by omega), if_pos (by omega)]; omega) | (rw [fcn_s (by omega), if_neg (by omega)]; omega)) (by first | omega | rfl | (rw [fcn_s (by omega), if_pos (by omega)]; omega) | (rw [fcn_s (by omega), if_neg (by omega)]; omega)) (by omega)
theorem c_freeIn_48_208 {l : Launch} {k : fxK} {S : fxS}   (hk : ∀ (r : Int) , (r = fcn (S 56 0) 48 160 ∧ 0 ≤ r ∧ r ≤ 208) → k (some (.inl r)) S) : fC l 105 [.inr (.inr (49, 0)), .inl (48 : Int), .inl (208 : Int)] S k := by
  refine fxe_105 (Nat.le_of_ble_eq_true rfl) (fxz_105 400 ?_)
  refine And.intro (by decide) ?_
  refine And.intro (by decide) ?_
  exact (z_freeIn_48_208  hk (209 - (48 : Int)).toNat) (0 : Int) (48 : Int)  (by first | omega | rfl | (rw [fcn_s (by omega), if_pos (by omega)]; omega) | (rw [fcn_s (by omega), if_neg (by omega)]; omega)) (by first | omega | rfl | (rw [fcn_s (by omega), if_pos (by omega)]; omega) | (rw [fcn_s (by omega), if_neg (by omega)]; omega)) (by first | omega | rfl | (rw [fcn_s (by omega), if_pos (by omega)]; omega) | (rw [fcn_s (by omega), if_neg (by omega)]; omega)) (by omega)
theorem z_give_0_208 {l : Launch} {k : fxK} {S : fxS}  (p0 : USE S) (hk : ∀ (r : Int) (S' : fxS) , (fxfr [(56, 9999)] S S' ∧ (-2 ≤ r ∧ r < 208 ∧ r ≠ -1 ∧ (0 ≤ r → 0 ≤ r ∧ S 56 0 (r).toNat = 0) ∧ (r < 0 → fcn (S 56 0) 0 208 ≤ 0)) ∧ (USE S') ∧ (UP1 r S S')) → k (some (.inl r)) S') : ∀ m : Nat, (∀ (j : Int) (S1 : fxS), (fxfr [(56, 9999)] S S1) → (0 ≤ j ∧ j ≤ 208) → (∀ x, S1 56 0 x = S 56 0 x) → (NZU 0 j S) → (USE S1) → 209 - j ≤ (m : Int) → fZ l 106 k 2 [some (.inr (.inr (49, 0))), none, some (.inl (208 : Int)), some (.inl j)] [] S1) := by
  intro m
  induction m with
  | zero =>
    intro j S1 hf i0 i1 i2 i3 hmu
    exfalso
    omega
  | succ m ih =>
    intro j S1 hf i0 i1 i2 i3 hmu
    refine fxz_106 400 ?_
    refine And.intro (fun (h1 : ((208 : Int) ≤ j : Prop)) => ?_) (fun (h1 : (j < (208 : Int) : Prop)) => ?_)
    ·
      exact hk (-2 : Int) S1 ⟨hf, by first | omega | exact ⟨by omega, by omega, by omega, fun _ => ⟨by omega, by rw [← i1]; omega⟩, fun h => absurd h (by omega)⟩ | exact ⟨by omega, by omega, by omega, fun h => absurd h (by omega), fun _ => NZU_fcn i2 (by omega)⟩, i3, by first | assumption | exact UP1_up2 i1 (by omega) | exact UP1_no2 i1 (by omega)⟩
    ·
      refine And.intro (show 0 ≤ j ∧ j < 208 by omega) ?_
      intro z2 (z2a : (0 : Int) ≤ z2) (z2b : z2 ≤ (2 : Int)) (z2c : z2 = S1 56 0 (j).toNat)
      refine And.intro (fun (h3 : (z2 ≠ (0 : Int) : Prop)) => ?_) (fun (h3 : (z2 = (0 : Int) : Prop)) => ?_)
      ·
        refine And.intro (by decide) (And.intro (show -2147483648 ≤ j + (1 : Int) ∧ j + (1 : Int) < 2147483648 by omega) ?_)
        exact ih (j + (1 : Int)) S1 hf (by first | omega | exact fun _ => rfl | assumption | exact NZU_0 | exact NZU_step i2 (by rw [← i1]; omega)) (by first | omega | exact fun _ => rfl | assumption | exact NZU_0 | exact NZU_step i2 (by rw [← i1]; omega)) (by first | omega | exact fun _ => rfl | assumption | exact NZU_0 | exact NZU_step i2 (by rw [← i1]; omega)) i3 (by omega)
      ·
        refine And.intro (show 0 ≤ j ∧ j < 208 by omega) ?_
        refine And.intro (show (0 : Int) ≤ (1 : Int) ∧ (1 : Int) ≤ (2 : Int) by omega) ?_
        have us : USE (fx_up S1 56 0 (j).toNat (1 : Int)) := USE_put (by assumption) (by omega)
        exact hk j (fx_up S1 56 0 (j).toNat (1 : Int)) ⟨(fxfr_up hf rfl), by first | omega | exact ⟨by omega, by omega, by omega, fun _ => ⟨by omega, by rw [← i1]; omega⟩, fun h => absurd h (by omega)⟩ | exact ⟨by omega, by omega, by omega, fun h => absurd h (by omega), fun _ => NZU_fcn i2 (by omega)⟩, us, by first | assumption | exact UP1_up2 i1 (by omega) | exact UP1_no2 i1 (by omega)⟩
theorem c_give_0_208 {l : Launch} {k : fxK} {S : fxS}  (p0 : USE S) (hk : ∀ (r : Int) (S' : fxS) , (fxfr [(56, 9999)] S S' ∧ (-2 ≤ r ∧ r < 208 ∧ r ≠ -1 ∧ (0 ≤ r → 0 ≤ r ∧ S 56 0 (r).toNat = 0) ∧ (r < 0 → fcn (S 56 0) 0 208 ≤ 0)) ∧ (USE S') ∧ (UP1 r S S')) → k (some (.inl r)) S') : fC l 106 [.inr (.inr (49, 0)), .inl (0 : Int), .inl (208 : Int)] S k := by
  refine fxe_106 (Nat.le_of_ble_eq_true rfl) (fxz_106 400 ?_)
  refine And.intro (by decide) ?_
  exact (z_give_0_208 p0 hk (209 - (0 : Int)).toNat) (0 : Int) S fxfr_rfl (by first | omega | exact fun _ => rfl | assumption | exact NZU_0 | exact NZU_step i2 (by rw [← i1]; omega)) (by first | omega | exact fun _ => rfl | assumption | exact NZU_0 | exact NZU_step i2 (by rw [← i1]; omega)) (by first | omega | exact fun _ => rfl | assumption | exact NZU_0 | exact NZU_step i2 (by rw [← i1]; omega)) p0 (by omega)
theorem z_give_0_48 {l : Launch} {k : fxK} {S : fxS}  (p0 : USE S) (hk : ∀ (r : Int) (S' : fxS) , (fxfr [(56, 9999)] S S' ∧ (-2 ≤ r ∧ r < 48 ∧ r ≠ -1 ∧ (0 ≤ r → 0 ≤ r ∧ S 56 0 (r).toNat = 0) ∧ (r < 0 → fcn (S 56 0) 0 48 ≤ 0)) ∧ (USE S') ∧ (UP1 r S S')) → k (some (.inl r)) S') : ∀ m : Nat, (∀ (j : Int) (S1 : fxS), (fxfr [(56, 9999)] S S1) → (0 ≤ j ∧ j ≤ 48) → (∀ x, S1 56 0 x = S 56 0 x) → (NZU 0 j S) → (USE S1) → 49 - j ≤ (m : Int) → fZ l 106 k 2 [some (.inr (.inr (49, 0))), none, some (.inl (48 : Int)), some (.inl j)] [] S1) := by
  intro m
  induction m with
  | zero =>
    intro j S1 hf i0 i1 i2 i3 hmu
    exfalso
    omega
  | succ m ih =>
    intro j S1 hf i0 i1 i2 i3 hmu
    refine fxz_106 400 ?_
    refine And.intro (fun (h1 : ((48 : Int) ≤ j : Prop)) => ?_) (fun (h1 : (j < (48 : Int) : Prop)) => ?_)
    ·
      exact hk (-2 : Int) S1 ⟨hf, by first | omega | exact ⟨by omega, by omega, by omega, fun _ => ⟨by omega, by rw [← i1]; omega⟩, fun h => absurd h (by omega)⟩ | exact ⟨by omega, by omega, by omega, fun h => absurd h (by omega), fun _ => NZU_fcn i2 (by omega)⟩, i3, by first | assumption | exact UP1_up2 i1 (by omega) | exact UP1_no2 i1 (by omega)⟩
    ·
      refine And.intro (show 0 ≤ j ∧ j < 208 by omega) ?_
      intro z2 (z2a : (0 : Int) ≤ z2) (z2b : z2 ≤ (2 : Int)) (z2c : z2 = S1 56 0 (j).toNat)
      refine And.intro (fun (h3 : (z2 ≠ (0 : Int) : Prop)) => ?_) (fun (h3 : (z2 = (0 : Int) : Prop)) => ?_)
      ·
        refine And.intro (by decide) (And.intro (show -2147483648 ≤ j + (1 : Int) ∧ j + (1 : Int) < 2147483648 by omega) ?_)
        exact ih (j + (1 : Int)) S1 hf (by first | omega | exact fun _ => rfl | assumption | exact NZU_0 | exact NZU_step i2 (by rw [← i1]; omega)) (by first | omega | exact fun _ => rfl | assumption | exact NZU_0 | exact NZU_step i2 (by rw [← i1]; omega)) (by first | omega | exact fun _ => rfl | assumption | exact NZU_0 | exact NZU_step i2 (by rw [← i1]; omega)) i3 (by omega)
      ·
        refine And.intro (show 0 ≤ j ∧ j < 208 by omega) ?_
        refine And.intro (show (0 : Int) ≤ (1 : Int) ∧ (1 : Int) ≤ (2 : Int) by omega) ?_
        have us : USE (fx_up S1 56 0 (j).toNat (1 : Int)) := USE_put (by assumption) (by omega)
        exact hk j (fx_up S1 56 0 (j).toNat (1 : Int)) ⟨(fxfr_up hf rfl), by first | omega | exact ⟨by omega, by omega, by omega, fun _ => ⟨by omega, by rw [← i1]; omega⟩, fun h => absurd h (by omega)⟩ | exact ⟨by omega, by omega, by omega, fun h => absurd h (by omega), fun _ => NZU_fcn i2 (by omega)⟩, us, by first | assumption | exact UP1_up2 i1 (by omega) | exact UP1_no2 i1 (by omega)⟩
theorem c_give_0_48 {l : Launch} {k : fxK} {S : fxS}  (p0 : USE S) (hk : ∀ (r : Int) (S' : fxS) , (fxfr [(56, 9999)] S S' ∧ (-2 ≤ r ∧ r < 48 ∧ r ≠ -1 ∧ (0 ≤ r → 0 ≤ r ∧ S 56 0 (r).toNat = 0) ∧ (r < 0 → fcn (S 56 0) 0 48 ≤ 0)) ∧ (USE S') ∧ (UP1 r S S')) → k (some (.inl r)) S') : fC l 106 [.inr (.inr (49, 0)), .inl (0 : Int), .inl (48 : Int)] S k := by
  refine fxe_106 (Nat.le_of_ble_eq_true rfl) (fxz_106 400 ?_)
  refine And.intro (by decide) ?_
  exact (z_give_0_48 p0 hk (49 - (0 : Int)).toNat) (0 : Int) S fxfr_rfl (by first | omega | exact fun _ => rfl | assumption | exact NZU_0 | exact NZU_step i2 (by rw [← i1]; omega)) (by first | omega | exact fun _ => rfl | assumption | exact NZU_0 | exact NZU_step i2 (by rw [← i1]; omega)) (by first | omega | exact fun _ => rfl | assumption | exact NZU_0 | exact NZU_step i2 (by rw [← i1]; omega)) p0 (by omega)
theorem z_give_48_208 {l : Launch} {k : fxK} {S : fxS}  (p0 : USE S) (hk : ∀ (r : Int) (S' : fxS) , (fxfr [(56, 9999)] S S' ∧ (-2 ≤ r ∧ r < 208 ∧ r ≠ -1 ∧ (0 ≤ r → 48 ≤ r ∧ S 56 0 (r).toNat = 0) ∧ (r < 0 → fcn (S 56 0) 48 160 ≤ 0)) ∧ (USE S') ∧ (UP1 r S S')) → k (some (.inl r)) S') : ∀ m : Nat, (∀ (j : Int) (S1 : fxS), (fxfr [(56, 9999)] S S1) → (48 ≤ j ∧ j ≤ 208) → (∀ x, S1 56 0 x = S 56 0 x) → (NZU 48 j S) → (USE S1) → 209 - j ≤ (m : Int) → fZ l 106 k 2 [some (.inr (.inr (49, 0))), none, some (.inl (208 : Int)), some (.inl j)] [] S1) := by
  intro m
  induction m with
  | zero =>
    intro j S1 hf i0 i1 i2 i3 hmu
    exfalso
    omega
  | succ m ih =>
    intro j S1 hf i0 i1 i2 i3 hmu
    refine fxz_106 400 ?_
    refine And.intro (fun (h1 : ((208 : Int) ≤ j : Prop)) => ?_) (fun (h1 : (j < (208 : Int) : Prop)) => ?_)
    ·
      exact hk (-2 : Int) S1 ⟨hf, by first | omega | exact ⟨by omega, by omega, by omega, fun _ => ⟨by omega, by rw [← i1]; omega⟩, fun h => absurd h (by omega)⟩ | exact ⟨by omega, by omega, by omega, fun h => absurd h (by omega), fun _ => NZU_fcn i2 (by omega)⟩, i3, by first | assumption | exact UP1_up2 i1 (by omega) | exact UP1_no2 i1 (by omega)⟩
    ·
      refine And.intro (show 0 ≤ j ∧ j < 208 by omega) ?_
      intro z2 (z2a : (0 : Int) ≤ z2) (z2b : z2 ≤ (2 : Int)) (z2c : z2 = S1 56 0 (j).toNat)
      refine And.intro (fun (h3 : (z2 ≠ (0 : Int) : Prop)) => ?_) (fun (h3 : (z2 = (0 : Int) : Prop)) => ?_)
      ·
        refine And.intro (by decide) (And.intro (show -2147483648 ≤ j + (1 : Int) ∧ j + (1 : Int) < 2147483648 by omega) ?_)
        exact ih (j + (1 : Int)) S1 hf (by first | omega | exact fun _ => rfl | assumption | exact NZU_0 | exact NZU_step i2 (by rw [← i1]; omega)) (by first | omega | exact fun _ => rfl | assumption | exact NZU_0 | exact NZU_step i2 (by rw [← i1]; omega)) (by first | omega | exact fun _ => rfl | assumption | exact NZU_0 | exact NZU_step i2 (by rw [← i1]; omega)) i3 (by omega)
      ·
        refine And.intro (show 0 ≤ j ∧ j < 208 by omega) ?_
        refine And.intro (show (0 : Int) ≤ (1 : Int) ∧ (1 : Int) ≤ (2 : Int) by omega) ?_
        have us : USE (fx_up S1 56 0 (j).toNat (1 : Int)) := USE_put (by assumption) (by omega)
        exact hk j (fx_up S1 56 0 (j).toNat (1 : Int)) ⟨(fxfr_up hf rfl), by first | omega | exact ⟨by omega, by omega, by omega, fun _ => ⟨by omega, by rw [← i1]; omega⟩, fun h => absurd h (by omega)⟩ | exact ⟨by omega, by omega, by omega, fun h => absurd h (by omega), fun _ => NZU_fcn i2 (by omega)⟩, us, by first | assumption | exact UP1_up2 i1 (by omega) | exact UP1_no2 i1 (by omega)⟩
theorem c_give_48_208 {l : Launch} {k : fxK} {S : fxS}  (p0 : USE S) (hk : ∀ (r : Int) (S' : fxS) , (fxfr [(56, 9999)] S S' ∧ (-2 ≤ r ∧ r < 208 ∧ r ≠ -1 ∧ (0 ≤ r → 48 ≤ r ∧ S 56 0 (r).toNat = 0) ∧ (r < 0 → fcn (S 56 0) 48 160 ≤ 0)) ∧ (USE S') ∧ (UP1 r S S')) → k (some (.inl r)) S') : fC l 106 [.inr (.inr (49, 0)), .inl (48 : Int), .inl (208 : Int)] S k := by
  refine fxe_106 (Nat.le_of_ble_eq_true rfl) (fxz_106 400 ?_)
  refine And.intro (by decide) ?_
  exact (z_give_48_208 p0 hk (209 - (48 : Int)).toNat) (48 : Int) S fxfr_rfl (by first | omega | exact fun _ => rfl | assumption | exact NZU_0 | exact NZU_step i2 (by rw [← i1]; omega)) (by first | omega | exact fun _ => rfl | assumption | exact NZU_0 | exact NZU_step i2 (by rw [← i1]; omega)) (by first | omega | exact fun _ => rfl | assumption | exact NZU_0 | exact NZU_step i2 (by rw [← i1]; omega)) p0 (by omega)
theorem z_StubHouseModel_copyOut {l : Launch} {k : fxK} {S : fxS}  (p0 : COL S) (p1 : WTM S) (p2 : INJ S) (p3 : AON S) (p4 : SNL S) (p5 : 0 ≤ S 49 0 7 ∧ S 49 0 7 ≤ 200) (hk : ∀ (S' : fxS) , (fxfr [(53, 9999)] S S' ∧ (S' 49 0 7 = S 49 0 7) ∧ (SNP S')) → k none S') : ∀ m : Nat, (∀ (j : Int) (S1 : fxS), (fxfr [(53, 9999)] S S1) → (0 ≤ j ∧ j ≤ 2561) → (S1 49 0 7 = S 49 0 7) → (COL S1) → (WTM S1) → (INJ S1) → (AON S1) → (SNL S1) → (CPJ j S1) → 10000 - j ≤ (m : Int) → fZ l 23 k 2 [some (.inr (.inr (49, 0))), some (.inl j)] [] S1) ∧ (∀ (j : Int) (S1 : fxS), (fxfr [(53, 9999)] S S1) → (0 ≤ j ∧ j ≤ 60) → (S1 49 0 7 = S 49 0 7) → (SNP S1) → 100 - j ≤ (m : Int) → fZ l 23 k 38 [some (.inr (.inr (49, 0))), some (.inl j)] [] S1) := by
  intro m
  induction m with
  | zero =>
    refine ⟨?_, ?_⟩
    · intro j S1 hf i0 i1 i2 i3 i4 i5 i6 i7 hmu
      exfalso
      omega
    · intro j S1 hf i0 i1 i2 hmu
      exfalso
      omega
  | succ m ih =>
    refine ⟨?_, ?_⟩
    · intro j S1 hf i0 i1 i2 i3 i4 i5 i6 i7 hmu
      refine fxz_23 400 ?_
      refine And.intro (fun (h1 : ((2561 : Int) ≤ j : Prop)) => ?_) (fun (h1 : (j < (2561 : Int) : Prop)) => ?_)
      ·
        refine And.intro (by decide) ?_
        have sp : SNP S1 := SNP_of (j := j) (by assumption) (by assumption) (by omega) (by omega) (by assumption) (by assumption) (by assumption) (by assumption)
        exact ih.2 (0 : Int) S1 hf (by omega) (by omega) sp (by omega)
      ·
        intro z2 (z2a : (0 : Int) ≤ z2) (z2b : z2 ≤ (200 : Int)) (z2c : z2 = S1 49 0 7)
        refine And.intro (show -2147483648 ≤ ((2561 : Int) * z2) ∧ ((2561 : Int) * z2) < 2147483648 by omega) ?_
        refine And.intro (show -2147483648 ≤ (((2561 : Int) * z2) + j) ∧ (((2561 : Int) * z2) + j) < 2147483648 by omega) ?_
        refine And.intro (show 0 ≤ j ∧ j < 2561 by omega) ?_
        intro z3 (z3a : (-2147483648 : Int) ≤ z3) (z3b : z3 ≤ (2147483647 : Int)) (z3c : z3 = S1 50 0 (j).toNat)
        refine And.intro (show 0 ≤ (((2561 : Int) * z2) + j) ∧ (((2561 : Int) * z2) + j) < 514761 by omega) ?_
        refine And.intro (show (-2147483648 : Int) ≤ z3 ∧ z3 ≤ (2147483647 : Int) by omega) ?_
        have w4 : (fx_up S1 53 0 ((((2561 : Int) * z2) + j)).toNat z3) 49 0 7 = S1 49 0 7 := rfl
        have g5 : COL (fx_up S1 53 0 ((((2561 : Int) * z2) + j)).toNat z3) := fx_pup COL_stab rfl i2
        have g6 : WTM (fx_up S1 53 0 ((((2561 : Int) * z2) + j)).toNat z3) := fx_pup WTM_stab rfl i3
        have g7 : INJ (fx_up S1 53 0 ((((2561 : Int) * z2) + j)).toNat z3) := fx_pup INJ_stab rfl i4
        have g8 : AON (fx_up S1 53 0 ((((2561 : Int) * z2) + j)).toNat z3) := fx_pup AON_stab rfl i5
        have sl : SNL (fx_up S1 53 0 ((((2561 : Int) * z2) + j)).toNat z3) := SNL_up (by assumption) (by omega) (by omega) (by omega)
        have cj : CPJ (j + (1 : Int)) (fx_up S1 53 0 ((((2561 : Int) * z2) + j)).toNat z3) := CPJ_step (by assumption) (by omega) (by omega) (by omega) (by omega)
        refine And.intro (by decide) (And.intro (show -2147483648 ≤ j + (1 : Int) ∧ j + (1 : Int) < 2147483648 by omega) ?_)
        exact ih.1 (j + (1 : Int)) (fx_up S1 53 0 ((((2561 : Int) * z2) + j)).toNat z3) (fxfr_up hf rfl) (by omega) (by omega) g5 g6 g7 g8 sl cj (by omega)
    · intro j S1 hf i0 i1 i2 hmu
      refine fxz_23 400 ?_
      refine And.intro (fun (h10 : ((60 : Int) ≤ j : Prop)) => ?_) (fun (h10 : (j < (60 : Int) : Prop)) => ?_)
      ·
        exact hk S1 ⟨hf, by omega, i2⟩
      ·
        intro z11 (z11a : (0 : Int) ≤ z11) (z11b : z11 ≤ (200 : Int)) (z11c : z11 = S1 49 0 7)
        refine And.intro (show -2147483648 ≤ ((60 : Int) * z11) ∧ ((60 : Int) * z11) < 2147483648 by omega) ?_
        refine And.intro (show -2147483648 ≤ (((60 : Int) * z11) + j) ∧ (((60 : Int) * z11) + j) < 2147483648 by omega) ?_
        refine And.intro (show 0 ≤ j ∧ j < 60 by omega) ?_
        intro z12
        refine And.intro (show 0 ≤ (((60 : Int) * z11) + j) ∧ (((60 : Int) * z11) + j) < 12060 by omega) ?_
        refine And.intro (by decide) (And.intro (show -2147483648 ≤ j + (1 : Int) ∧ j + (1 : Int) < 2147483648 by omega) ?_)
        exact ih.2 (j + (1 : Int)) S1 hf (by omega) (by omega) i2 (by omega)
theorem c_StubHouseModel_copyOut {l : Launch} {k : fxK} {S : fxS}  (p0 : COL S) (p1 : WTM S) (p2 : INJ S) (p3 : AON S) (p4 : SNL S) (p5 : 0 ≤ S 49 0 7 ∧ S 49 0 7 ≤ 200) (hk : ∀ (S' : fxS) , (fxfr [(53, 9999)] S S' ∧ (S' 49 0 7 = S 49 0 7) ∧ (SNP S')) → k none S') : fC l 23 [.inr (.inr (49, 0))] S k := by
  refine fxe_23 (Nat.le_of_ble_eq_true rfl) (fxz_23 400 ?_)
  refine And.intro (by decide) ?_
  have c0 : CPJ (0 : Int) S := CPJ_0
  exact (z_StubHouseModel_copyOut p0 p1 p2 p3 p4 p5 hk (10000 - (0 : Int)).toNat).1 (0 : Int) S fxfr_rfl (by omega) (by omega) p0 p1 p2 p3 p4 c0 (by omega)
theorem z_StubHouseModel_syncAll {l : Launch} {k : fxK} {S : fxS}  (p0 : COL S) (p1 : WTM S) (p2 : INJ S) (p3 : AON S) (p4 : USE S) (hk : ∀ (r : Int) (S' : fxS) , (fxfr [(49, 7), (53, 9999), (56, 9999), (58, 9999)] S S' ∧ (0 ≤ r ∧ r ≤ 200 ∧ S' 49 0 7 = 0) ∧ (SNP S') ∧ (USE S') ∧ (UZ S S')) → k (some (.inl r)) S') : ∀ m : Nat, (∀ (c b : Int) (S1 : fxS), (fxfr [(49, 7), (53, 9999), (56, 9999), (58, 9999)] S S1) → (0 ≤ b ∧ b ≤ 208) → (0 ≤ c ∧ c ≤ 200) → (S1 49 0 7 = 0) → (COL S1) → (WTM S1) → (INJ S1) → (AON S1) → (USE S1) → (SNP S1) → (UZ S S1) → 1000 - b ≤ (m : Int) → fZ l 24 k 16 [some (.inr (.inr (49, 0))), some (.inl c), some (.inl b)] [] S1) ∧ (∀ (c b : Int) (S1 : fxS), (fxfr [(49, 7), (53, 9999), (56, 9999), (58, 9999)] S S1) → (0 ≤ b ∧ b ≤ 40) → (0 ≤ c ∧ c ≤ 200) → (S1 49 0 7 = 0) → (USE S1) → (SNP S1) → (UZ S S1) → 100 - b ≤ (m : Int) → fZ l 24 k 57 [some (.inr (.inr (49, 0))), some (.inl c), some (.inl b)] [] S1) := by
  intro m
  induction m with
  | zero =>
    refine ⟨?_, ?_⟩
    · intro c b S1 hf i0 i1 i2 i3 i4 i5 i6 i7 i8 i9 hmu
      exfalso
      omega
    · intro c b S1 hf i0 i1 i2 i3 i4 i5 hmu
      exfalso
      omega
  | succ m ih =>
    refine ⟨?_, ?_⟩
    · intro c b S1 hf i0 i1 i2 i3 i4 i5 i6 i7 i8 i9 hmu
      refine fxz_24 400 ?_
      refine And.intro (fun (h1 : ((208 : Int) ≤ b : Prop)) => ?_) (fun (h1 : (b < (208 : Int) : Prop)) => ?_)
      ·
        refine And.intro (by decide) ?_
        exact ih.2 c (0 : Int) S1 hf (by omega) (by omega) (by omega) i7 i8 i9 (by omega)
      ·
        refine And.intro (show 0 ≤ b ∧ b < 208 by omega) ?_
        intro z2 (z2a : (0 : Int) ≤ z2) (z2b : z2 ≤ (2 : Int)) (z2c : z2 = S1 56 0 (b).toNat)
        refine And.intro (fun (h3 : (z2 ≠ (2 : Int) : Prop)) => ?_) (fun (h3 : (z2 = (2 : Int) : Prop)) => ?_)
        ·
          refine And.intro (show 0 ≤ b ∧ b < 208 by omega) ?_
          intro z4 (z4a : (0 : Int) ≤ z4) (z4b : z4 ≤ (2 : Int)) (z4c : z4 = S1 56 0 (b).toNat)
          refine And.intro (show 0 ≤ b ∧ b < 208 by omega) ?_
          refine And.intro (show (0 : Int) ≤ z4 ∧ z4 ≤ (2 : Int) by omega) ?_
          have w5 : (fx_up S1 56 0 (b).toNat z4) 49 0 7 = S1 49 0 7 := rfl
          have g6 : COL (fx_up S1 56 0 (b).toNat z4) := fx_pup COL_stab rfl i3
          have g7 : WTM (fx_up S1 56 0 (b).toNat z4) := fx_pup WTM_stab rfl i4
          have g8 : INJ (fx_up S1 56 0 (b).toNat z4) := fx_pup INJ_stab rfl i5
          have g9 : AON (fx_up S1 56 0 (b).toNat z4) := fx_pup AON_stab rfl i6
          have g10 : SNP (fx_up S1 56 0 (b).toNat z4) := fx_pup SNP_stab rfl i8
          have us : USE (fx_up S1 56 0 (b).toNat z4) := USE_put (by assumption) (by omega)
          have uz : UZ S (fx_up S1 56 0 (b).toNat z4) := UZ_put (by assumption) (by omega)
          refine And.intro (by decide) (And.intro (show -2147483648 ≤ b + (1 : Int) ∧ b + (1 : Int) < 2147483648 by omega) ?_)
          exact ih.1 c (b + (1 : Int)) (fx_up S1 56 0 (b).toNat z4) (fxfr_up hf rfl) (by omega) (by omega) (by omega) g6 g7 g8 g9 us g10 uz (by omega)
        ·
          refine And.intro (show 0 ≤ b ∧ b < 208 by omega) ?_
          refine And.intro (show (0 : Int) ≤ (0 : Int) ∧ (0 : Int) ≤ (2 : Int) by omega) ?_
          have w12 : (fx_up S1 56 0 (b).toNat (0 : Int)) 49 0 7 = S1 49 0 7 := rfl
          have g13 : COL (fx_up S1 56 0 (b).toNat (0 : Int)) := fx_pup COL_stab rfl i3
          have g14 : WTM (fx_up S1 56 0 (b).toNat (0 : Int)) := fx_pup WTM_stab rfl i4
          have g15 : INJ (fx_up S1 56 0 (b).toNat (0 : Int)) := fx_pup INJ_stab rfl i5
          have g16 : AON (fx_up S1 56 0 (b).toNat (0 : Int)) := fx_pup AON_stab rfl i6
          have g17 : SNP (fx_up S1 56 0 (b).toNat (0 : Int)) := fx_pup SNP_stab rfl i8
          have us : USE (fx_up S1 56 0 (b).toNat (0 : Int)) := USE_put (by assumption) (by omega)
          have uz : UZ S (fx_up S1 56 0 (b).toNat (0 : Int)) := UZ_put (by assumption) (by omega)
          refine And.intro (by decide) (And.intro (show -2147483648 ≤ b + (1 : Int) ∧ b + (1 : Int) < 2147483648 by omega) ?_)
          exact ih.1 c (b + (1 : Int)) (fx_up S1 56 0 (b).toNat (0 : Int)) (fxfr_up hf rfl) (by omega) (by omega) (by omega) g13 g14 g15 g16 us g17 uz (by omega)
    · intro c b S1 hf i0 i1 i2 i3 i4 i5 hmu
      refine fxz_24 400 ?_
      refine And.intro (fun (h19 : ((40 : Int) ≤ b : Prop)) => ?_) (fun (h19 : (b < (40 : Int) : Prop)) => ?_)
      ·
        exact hk c S1 ⟨hf, by omega, i4, i3, i5⟩
      ·
        refine And.intro (show 0 ≤ b ∧ b < 40 by omega) ?_
        refine And.intro (show (0 : Int) ≤ (1 : Int) ∧ (1 : Int) ≤ (1 : Int) by omega) ?_
        have w20 : (fx_up S1 58 0 (b).toNat (1 : Int)) 49 0 7 = S1 49 0 7 := rfl
        have g21 : USE (fx_up S1 58 0 (b).toNat (1 : Int)) := fx_pup USE_stab rfl i3
        have g22 : SNP (fx_up S1 58 0 (b).toNat (1 : Int)) := fx_pup SNP_stab rfl i4
        have g23 : UZ S (fx_up S1 58 0 (b).toNat (1 : Int)) := fx_pup UZ_stab rfl i5
        refine And.intro (by decide) (And.intro (show -2147483648 ≤ b + (1 : Int) ∧ b + (1 : Int) < 2147483648 by omega) ?_)
        exact ih.2 c (b + (1 : Int)) (fx_up S1 58 0 (b).toNat (1 : Int)) (fxfr_up hf rfl) (by omega) (by omega) (by omega) g21 g22 g23 (by omega)
theorem c_StubHouseModel_syncAll {l : Launch} {k : fxK} {S : fxS}  (p0 : COL S) (p1 : WTM S) (p2 : INJ S) (p3 : AON S) (p4 : USE S) (hk : ∀ (r : Int) (S' : fxS) , (fxfr [(49, 7), (53, 9999), (56, 9999), (58, 9999)] S S' ∧ (0 ≤ r ∧ r ≤ 200 ∧ S' 49 0 7 = 0) ∧ (SNP S') ∧ (USE S') ∧ (UZ S S')) → k (some (.inl r)) S') : fC l 24 [.inr (.inr (49, 0))] S k := by
  have n25 : UZ S S := UZ_rfl
  refine fxe_24 (Nat.le_of_ble_eq_true rfl) (fxz_24 400 ?_)
  intro z26 (z26a : (0 : Int) ≤ z26) (z26b : z26 ≤ (200 : Int)) (z26c : z26 = S 49 0 7)
  refine And.intro (by decide) ?_
  refine And.intro (show (0 : Int) ≤ (0 : Int) ∧ (0 : Int) ≤ (200 : Int) by omega) ?_
  have w27 : (fx_up S 49 0 7 (0 : Int)) 49 0 7 = (0 : Int) := fx_up_at _ _ _ _ _
  have g28 : COL (fx_up S 49 0 7 (0 : Int)) := fx_pup COL_stab rfl p0
  have g29 : WTM (fx_up S 49 0 7 (0 : Int)) := fx_pup WTM_stab rfl p1
  have g30 : INJ (fx_up S 49 0 7 (0 : Int)) := fx_pup INJ_stab rfl p2
  have g31 : AON (fx_up S 49 0 7 (0 : Int)) := fx_pup AON_stab rfl p3
  have g32 : USE (fx_up S 49 0 7 (0 : Int)) := fx_pup USE_stab rfl p4
  have g33 : UZ S (fx_up S 49 0 7 (0 : Int)) := fx_pup UZ_stab rfl n25
  have sl : SNL (fx_up S 49 0 7 (0 : Int)) := SNL_z
  refine c_StubHouseModel_copyOut  g28 g29 g30 g31 sl (show 0 ≤ (0 : Int) ∧ (0 : Int) ≤ 200 by omega) (fun (S34 : fxS) ⟨(f35 : fxfr [(53, 9999)] (fx_up S 49 0 7 (0 : Int)) S34), (q36 : S34 49 0 7 = (0 : Int)), (g37 : SNP S34)⟩ => ?_)
  have w38 : S34 49 0 7 = (fx_up S 49 0 7 (0 : Int)) 49 0 7 := f35 49 0 7 rfl
  have g39 : COL S34 := fx_pfr COL_stab f35 rfl g28
  have g40 : WTM S34 := fx_pfr WTM_stab f35 rfl g29
  have g41 : INJ S34 := fx_pfr INJ_stab f35 rfl g30
  have g42 : AON S34 := fx_pfr AON_stab f35 rfl g31
  have g43 : USE S34 := fx_pfr USE_stab f35 rfl g32
  have g44 : UZ S S34 := fx_pfr UZ_stab f35 rfl g33
  refine And.intro (by decide) ?_
  exact (z_StubHouseModel_syncAll p0 p1 p2 p3 p4 hk (1000 - (0 : Int)).toNat).1 z26 (0 : Int) S34 (fxfr_tr (fxfr_up fxfr_rfl rfl) f35 rfl) (by omega) (by omega) (by omega) g39 g40 g41 g42 g43 g37 g44 (by omega)
theorem c_StubHouseModel_ahead {l : Launch} {k : fxK} {S : fxS}  (p0 : COL S) (p1 : WTM S) (p2 : INJ S) (p3 : AON S) (p4 : USE S) (p5 : SNP S) (hk : ∀ (S' : fxS) , (fxfr [(49, 7), (53, 9999), (56, 9999), (58, 9999)] S S' ∧ (0 ≤ S' 49 0 7 ∧ S' 49 0 7 ≤ 199) ∧ (SNP S') ∧ (USE S') ∧ (UZ S S')) → k none S') : fC l 25 [.inr (.inr (49, 0))] S k := by
  have n1 : UZ S S := UZ_rfl
  refine fxe_25 (Nat.le_of_ble_eq_true rfl) (fxz_25 400 ?_)
  intro z2 (z2a : (0 : Int) ≤ z2) (z2b : z2 ≤ (200 : Int)) (z2c : z2 = S 49 0 7)
  refine And.intro (fun (h3 : (z2 ≠ (200 : Int) : Prop)) => ?_) (fun (h3 : (z2 = (200 : Int) : Prop)) => ?_)
  ·
    exact hk S ⟨fxfr_rfl, by omega, p5, p4, n1⟩
  ·
    refine c_StubHouseModel_syncAll  p0 p1 p2 p3 p4 (fun (z4 : Int) (S5 : fxS) ⟨(f6 : fxfr [(49, 7), (53, 9999), (56, 9999), (58, 9999)] S S5), (q7 : 0 ≤ z4 ∧ z4 ≤ 200 ∧ S5 49 0 7 = 0), (g8 : SNP S5), (g9 : USE S5), (g10 : UZ S S5)⟩ => ?_)
    have g11 : COL S5 := fx_pfr COL_stab f6 rfl p0
    have g12 : WTM S5 := fx_pfr WTM_stab f6 rfl p1
    have g13 : INJ S5 := fx_pfr INJ_stab f6 rfl p2
    have g14 : AON S5 := fx_pfr AON_stab f6 rfl p3
    refine And.intro (by decide) ?_
    exact hk S5 ⟨(fxfr_tr fxfr_rfl f6 rfl), by omega, g8, g9, g10⟩
theorem c_StubHouseModel_record {l : Launch} {k : fxK} {S : fxS} {e : Int} (p0 : COL S) (p1 : WTM S) (p2 : INJ S) (p3 : AON S) (p4 : SNP S) (p5 : S 49 0 7 ≤ 199) (p6 : 0 ≤ e ∧ e ≤ 1000) (hk : ∀ (S' : fxS) , (fxfr [(49, 7), (53, 9999), (55, 9999)] S S' ∧ (SNP S')) → k none S') : fC l 29 [.inr (.inr (49, 0)), .inl e] S k := by
  refine fxe_29 (Nat.le_of_ble_eq_true rfl) (fxz_29 400 ?_)
  intro z1 (z1a : (0 : Int) ≤ z1) (z1b : z1 ≤ (200 : Int)) (z1c : z1 = S 49 0 7)
  refine And.intro (show 0 ≤ z1 ∧ z1 < 200 by omega) ?_
  refine And.intro (show (0 : Int) ≤ e ∧ e ≤ (1000 : Int) by omega) ?_
  have w2 : (fx_up S 55 0 (z1).toNat e) 49 0 7 = S 49 0 7 := rfl
  have g3 : COL (fx_up S 55 0 (z1).toNat e) := fx_pup COL_stab rfl p0
  have g4 : WTM (fx_up S 55 0 (z1).toNat e) := fx_pup WTM_stab rfl p1
  have g5 : INJ (fx_up S 55 0 (z1).toNat e) := fx_pup INJ_stab rfl p2
  have g6 : AON (fx_up S 55 0 (z1).toNat e) := fx_pup AON_stab rfl p3
  have g7 : SNP (fx_up S 55 0 (z1).toNat e) := fx_pup SNP_stab rfl p4
  intro z8 (z8a : (0 : Int) ≤ z8) (z8b : z8 ≤ (200 : Int)) (z8c : z8 = S 49 0 7)
  refine And.intro (show -2147483648 ≤ (z8 + (1 : Int)) ∧ (z8 + (1 : Int)) < 2147483648 by omega) ?_
  refine And.intro (show (0 : Int) ≤ (z8 + (1 : Int)) ∧ (z8 + (1 : Int)) ≤ (200 : Int) by omega) ?_
  have w9 : (fx_up (fx_up S 55 0 (z1).toNat e) 49 0 7 (z8 + (1 : Int))) 49 0 7 = (z8 + (1 : Int)) := fx_up_at _ _ _ _ _
  have g10 : COL (fx_up (fx_up S 55 0 (z1).toNat e) 49 0 7 (z8 + (1 : Int))) := fx_pup COL_stab rfl g3
  have g11 : WTM (fx_up (fx_up S 55 0 (z1).toNat e) 49 0 7 (z8 + (1 : Int))) := fx_pup WTM_stab rfl g4
  have g12 : INJ (fx_up (fx_up S 55 0 (z1).toNat e) 49 0 7 (z8 + (1 : Int))) := fx_pup INJ_stab rfl g5
  have g13 : AON (fx_up (fx_up S 55 0 (z1).toNat e) 49 0 7 (z8 + (1 : Int))) := fx_pup AON_stab rfl g6
  have sl : SNL (fx_up (fx_up S 55 0 (z1).toNat e) 49 0 7 (z8 + (1 : Int))) := SNL_next (by assumption) (by first | assumption | omega)
  refine c_StubHouseModel_copyOut  g10 g11 g12 g13 sl (show 0 ≤ (z8 + (1 : Int)) ∧ (z8 + (1 : Int)) ≤ 200 by omega) (fun (S14 : fxS) ⟨(f15 : fxfr [(53, 9999)] (fx_up (fx_up S 55 0 (z1).toNat e) 49 0 7 (z8 + (1 : Int))) S14), (q16 : S14 49 0 7 = (z8 + (1 : Int))), (g17 : SNP S14)⟩ => ?_)
  have w18 : S14 49 0 7 = (fx_up (fx_up S 55 0 (z1).toNat e) 49 0 7 (z8 + (1 : Int))) 49 0 7 := f15 49 0 7 rfl
  have g19 : COL S14 := fx_pfr COL_stab f15 rfl g10
  have g20 : WTM S14 := fx_pfr WTM_stab f15 rfl g11
  have g21 : INJ S14 := fx_pfr INJ_stab f15 rfl g12
  have g22 : AON S14 := fx_pfr AON_stab f15 rfl g13
  exact hk S14 ⟨(fxfr_tr (fxfr_up (fxfr_up fxfr_rfl rfl) rfl) f15 rfl), g17⟩
theorem z_StubHouseModel_noBlocks {l : Launch} {k : fxK} {S : fxS} {n : Int} (p0 : COL S) (p1 : 0 ≤ n ∧ n < 60) (hk : ∀ (S' : fxS) , (fxfr [(50, 9999)] S S' ∧ (COL S') ∧ (NBK n 32 S S')) → k none S') : ∀ m : Nat, (∀ (j : Int) (S1 : fxS), (fxfr [(50, 9999)] S S1) → (0 ≤ j ∧ j ≤ 32) → (COL S1) → (NBK n j S S1) → 33 - j ≤ (m : Int) → fZ l 27 k 2 [some (.inr (.inr (49, 0))), some (.inl n), some (.inl j)] [] S1) := by
  intro m
  induction m with
  | zero =>
    intro j S1 hf i0 i1 i2 hmu
    exfalso
    omega
  | succ m ih =>
    intro j S1 hf i0 i1 i2 hmu
    refine fxz_27 400 ?_
    refine And.intro (fun (h1 : ((32 : Int) ≤ j : Prop)) => ?_) (fun (h1 : (j < (32 : Int) : Prop)) => ?_)
    ·
      exact hk S1 ⟨hf, i1, by first | assumption | exact NBK_le (by assumption) (by omega)⟩
    ·
      refine And.intro (show -2147483648 ≤ ((10 : Int) + j) ∧ ((10 : Int) + j) < 2147483648 by omega) ?_
      refine c_set (n := n) (w := ((10 : Int) + j)) (v := (-1 : Int)) (show 0 ≤ n ∧ n < 60 by omega) (show 0 ≤ ((10 : Int) + j) ∧ ((10 : Int) + j) < 42 by omega) (show -2147483648 ≤ (-1 : Int) ∧ (-1 : Int) < 2147483648 by omega) ?_
      have g2 : COL (fx_up S1 50 0 (42 * n + ((10 : Int) + j)).toNat (-1 : Int)) := COL_set i1 (by omega) (by omega) (by omega)
      have ns : NBK n (j + (1 : Int)) S (fx_up S1 50 0 (42 * n + ((10 : Int) + j)).toNat (-1 : Int)) := NBK_step (by assumption) (by omega) (by omega)
      refine And.intro (by decide) (And.intro (show -2147483648 ≤ j + (1 : Int) ∧ j + (1 : Int) < 2147483648 by omega) ?_)
      exact ih (j + (1 : Int)) (fx_up S1 50 0 (42 * n + ((10 : Int) + j)).toNat (-1 : Int)) (fxfr_up hf rfl) (by omega) g2 ns (by omega)
theorem c_StubHouseModel_noBlocks {l : Launch} {k : fxK} {S : fxS} {n : Int} (p0 : COL S) (p1 : 0 ≤ n ∧ n < 60) (hk : ∀ (S' : fxS) , (fxfr [(50, 9999)] S S' ∧ (COL S') ∧ (NBK n 32 S S')) → k none S') : fC l 27 [.inr (.inr (49, 0)), .inl n] S k := by
  refine fxe_27 (Nat.le_of_ble_eq_true rfl) (fxz_27 400 ?_)
  refine And.intro (by decide) ?_
  have n0 : NBK n (0 : Int) S S := NBK_0
  exact (z_StubHouseModel_noBlocks p0 p1 hk (33 - (0 : Int)).toNat) (0 : Int) S fxfr_rfl (by omega) p0 n0 (by omega)
theorem z_StubHouseModel_plant {l : Launch} {k : fxK} {S : fxS} {n : Int} {q : Int} {o : Int} {x : Int} (p0 : COL S) (p1 : 0 ≤ n ∧ n < 60) (p2 : 0 ≤ q ∧ q ≤ 2) (p3 : -1 ≤ o ∧ o < 60) (hk : ∀ (S' : fxS) , (fxfr [(50, 9999), (52, 9999)] S S' ∧ (COL S') ∧ (PLN n q o S S')) → k none S') : ∀ m : Nat, (∀ (j : Int) (S1 : fxS), (fxfr [(50, 9999), (52, 9999)] S S1) → (0 ≤ j ∧ j ≤ 42) → (COL S1) → (EQR n S S1) → (ZRW n j S1) → 43 - j ≤ (m : Int) → fZ l 28 k 3 [some (.inr (.inr (49, 0))), some (.inl n), some (.inl q), some (.inl o), some (.inr (.inl x)), none, some (.inl j)] [] S1) := by
  intro m
  induction m with
  | zero =>
    intro j S1 hf i0 i1 i2 i3 hmu
    exfalso
    omega
  | succ m ih =>
    intro j S1 hf i0 i1 i2 i3 hmu
    refine fxz_28 400 ?_
    refine And.intro (fun (h1 : ((42 : Int) ≤ j : Prop)) => ?_) (fun (h1 : (j < (42 : Int) : Prop)) => ?_)
    ·
      refine c_set (n := n) (w := (0 : Int)) (v := q) (show 0 ≤ n ∧ n < 60 by omega) (show 0 ≤ (0 : Int) ∧ (0 : Int) < 42 by omega) (show -2147483648 ≤ q ∧ q < 2147483648 by omega) ?_
      have g2 : COL (fx_up S1 50 0 (42 * n + (0 : Int)).toNat q) := COL_set i1 (by omega) (by omega) (by omega)
      have g3 : EQR n S (fx_up S1 50 0 (42 * n + (0 : Int)).toNat q) := EQR_set i2 (by omega) (by omega)
      refine c_set (n := n) (w := (1 : Int)) (v := o) (show 0 ≤ n ∧ n < 60 by omega) (show 0 ≤ (1 : Int) ∧ (1 : Int) < 42 by omega) (show -2147483648 ≤ o ∧ o < 2147483648 by omega) ?_
      have g4 : COL (fx_up (fx_up S1 50 0 (42 * n + (0 : Int)).toNat q) 50 0 (42 * n + (1 : Int)).toNat o) := COL_set g2 (by omega) (by omega) (by omega)
      have g5 : EQR n S (fx_up (fx_up S1 50 0 (42 * n + (0 : Int)).toNat q) 50 0 (42 * n + (1 : Int)).toNat o) := EQR_set g3 (by omega) (by omega)
      refine c_StubHouseModel_noBlocks (n := n) g4 (show 0 ≤ n ∧ n < 60 by omega) (fun (S6 : fxS) ⟨(f7 : fxfr [(50, 9999)] (fx_up (fx_up S1 50 0 (42 * n + (0 : Int)).toNat q) 50 0 (42 * n + (1 : Int)).toNat o) S6), (g8 : COL S6), (g9 : NBK n 32 (fx_up (fx_up S1 50 0 (42 * n + (0 : Int)).toNat q) 50 0 (42 * n + (1 : Int)).toNat o) S6)⟩ => ?_)
      have pl : PLN n q o S S6 := PLN_of2 (by assumption) (by assumption) (ZRW_le (by assumption) (by omega)) (by omega)
      refine And.intro (show 0 ≤ n ∧ n < 60 by omega) ?_
      intro z10 (z10a : (-2147483648 : Int) ≤ z10) (z10b : z10 ≤ (2147483647 : Int)) (z10c : z10 = S6 49 0 11)
      refine And.intro (show 0 ≤ n ∧ n < 60 by omega) ?_
      refine And.intro (show (-2147483648 : Int) ≤ z10 ∧ z10 ≤ (2147483647 : Int) by omega) ?_
      have g11 : COL (fx_up S6 52 0 (n).toNat z10) := fx_pup COL_stab rfl g8
      have g12 : PLN n q o S (fx_up S6 52 0 (n).toNat z10) := fx_pup PLN_stab rfl pl
      exact hk (fx_up S6 52 0 (n).toNat z10) ⟨(fxfr_up (fxfr_tr (fxfr_up (fxfr_up hf rfl) rfl) f7 rfl) rfl), g11, g12⟩
    ·
      refine c_set (n := n) (w := j) (v := (0 : Int)) (show 0 ≤ n ∧ n < 60 by omega) (show 0 ≤ j ∧ j < 42 by omega) (show -2147483648 ≤ (0 : Int) ∧ (0 : Int) < 2147483648 by omega) ?_
      have g13 : COL (fx_up S1 50 0 (42 * n + j).toNat (0 : Int)) := COL_set i1 (by omega) (by omega) (by omega)
      have g14 : EQR n S (fx_up S1 50 0 (42 * n + j).toNat (0 : Int)) := EQR_set i2 (by omega) (by omega)
      have zs : ZRW n (j + (1 : Int)) (fx_up S1 50 0 (42 * n + j).toNat (0 : Int)) := ZRW_step (by assumption) (by omega) (by omega)
      refine And.intro (by decide) (And.intro (show -2147483648 ≤ j + (1 : Int) ∧ j + (1 : Int) < 2147483648 by omega) ?_)
      exact ih (j + (1 : Int)) (fx_up S1 50 0 (42 * n + j).toNat (0 : Int)) (fxfr_up hf rfl) (by omega) g13 g14 zs (by omega)
theorem c_StubHouseModel_plant {l : Launch} {k : fxK} {S : fxS} {n : Int} {q : Int} {o : Int} {x : Int} (p0 : COL S) (p1 : 0 ≤ n ∧ n < 60) (p2 : 0 ≤ q ∧ q ≤ 2) (p3 : -1 ≤ o ∧ o < 60) (hk : ∀ (S' : fxS) , (fxfr [(50, 9999), (52, 9999)] S S' ∧ (COL S') ∧ (PLN n q o S S')) → k none S') : fC l 28 [.inr (.inr (49, 0)), .inl n, .inl q, .inl o, .inr (.inl x)] S k := by
  have n16 : EQR n S S := EQR_rfl
  refine fxe_28 (Nat.le_of_ble_eq_true rfl) (fxz_28 400 ?_)
  refine And.intro (by decide) ?_
  have z0 : ZRW n (0 : Int) S := ZRW_0
  exact (z_StubHouseModel_plant p0 p1 p2 p3 hk (43 - (0 : Int)).toNat) (0 : Int) S fxfr_rfl (by omega) p0 n16 z0 (by omega)
theorem c_StubHouseModel_make {l : Launch} {k : fxK} {S : fxS} {o : Int} {x : Int} {q : Int} (p0 : COL S) (p1 : WTM S) (p2 : INJ S) (p3 : AON S) (p4 : USE S) (p5 : SNP S) (p6 : REC S) (p7 : 0 ≤ q ∧ q ≤ 1) (p8 : -2147483648 ≤ o ∧ o < 2147483648) (hk : ∀ (r : Int) (S' : fxS) , (fxfr [(49, 0), (49, 7), (49, 12), (49, 14), (50, 9999), (52, 9999), (53, 9999), (55, 9999), (56, 9999), (58, 9999)] S S' ∧ (-2147483648 ≤ r ∧ r < 2147483648) ∧ (COL S') ∧ (WTM S') ∧ (INJ S') ∧ (AON S') ∧ (USE S') ∧ (SNP S') ∧ (REC S')) → k (some (.inl r)) S') : fC l 30 [.inr (.inr (49, 0)), .inl o, .inr (.inl x), .inl q] S k := by
  refine fxe_30 (Nat.le_of_ble_eq_true rfl) (fxz_30 400 ?_)
  refine And.intro (show (-2147483648 : Int) ≤ (0 : Int) ∧ (0 : Int) ≤ (2147483647 : Int) by omega) ?_
  have w1 : (fx_up S 49 0 0 (0 : Int)) 49 0 7 = S 49 0 7 := if_neg (fun q => absurd q.2.2 (by decide))
  have g2 : COL (fx_up S 49 0 0 (0 : Int)) := fx_pup COL_stab rfl p0
  have g3 : WTM (fx_up S 49 0 0 (0 : Int)) := fx_pup WTM_stab rfl p1
  have g4 : INJ (fx_up S 49 0 0 (0 : Int)) := fx_pup INJ_stab rfl p2
  have g5 : AON (fx_up S 49 0 0 (0 : Int)) := fx_pup AON_stab rfl p3
  have g6 : USE (fx_up S 49 0 0 (0 : Int)) := fx_pup USE_stab rfl p4
  have g7 : SNP (fx_up S 49 0 0 (0 : Int)) := fx_pup SNP_stab rfl p5
  have g8 : REC (fx_up S 49 0 0 (0 : Int)) := fx_pup REC_stab rfl p6
  intro z9 (z9a : (0 : Int) ≤ z9) (z9b : z9 ≤ (1 : Int)) (z9c : z9 = S 49 0 15)
  refine And.intro (fun (h10 : (z9 = (0 : Int) : Prop)) => ?_) (fun (h10 : (z9 ≠ (0 : Int) : Prop)) => ?_)
  ·
    refine c_StubHouseModel_isDirectory (n := o) g2 (show -2147483648 ≤ o ∧ o < 2147483648 by omega) (fun (z11 : Int) (q12 : 0 ≤ z11 ∧ z11 ≤ 1 ∧ (z11 = 1 → 0 ≤ o ∧ o < 60 ∧ aN S o 0 = 1)) => ?_)
    refine And.intro (fun (h13 : (z11 = (0 : Int) : Prop)) => ?_) (fun (h13 : (z11 ≠ (0 : Int) : Prop)) => ?_)
    ·
      exact hk (-1 : Int) (fx_up S 49 0 0 (0 : Int)) ⟨(fxfr_up fxfr_rfl rfl), by omega, g2, g3, g4, g5, g6, g7, g8⟩
    ·
      intro z14 (z14a : 0 ≤ z14) (z14b : z14 ≤ 1)
      refine And.intro (fun (h15 : (z14 ≠ (0 : Int) : Prop)) => ?_) (fun (h15 : (z14 = (0 : Int) : Prop)) => ?_)
      ·
        refine c_StubHouseModel_look (o := o) (x := x) g2 (show -2147483648 ≤ o ∧ o < 2147483648 by omega) (fun (z16 : Int) (q17 : -2 ≤ z16 ∧ z16 < 60 ∧ z16 ≠ -1 ∧ z16 ≠ 0 ∧ (0 ≤ z16 → aN S z16 0 ≠ 0 ∧ aN S z16 1 = o)) => ?_)
        refine And.intro (fun (h18 : (z16 < (0 : Int) : Prop)) => ?_) (fun (h18 : ((0 : Int) ≤ z16 : Prop)) => ?_)
        ·
          refine c_StubHouseModel_freeNode  g2 (fun (z19 : Int) (q20 : -2 ≤ z19 ∧ z19 < 60 ∧ z19 ≠ -1 ∧ z19 ≠ 0 ∧ (0 ≤ z19 → aN S z19 0 = 0)) => ?_)
          refine And.intro (by decide) ?_
          refine And.intro (fun (h21 : (z19 < (0 : Int) : Prop)) => ?_) (fun (h21 : ((0 : Int) ≤ z19 : Prop)) => ?_)
          ·
            exact hk (-3 : Int) (fx_up S 49 0 0 (0 : Int)) ⟨(fxfr_up fxfr_rfl rfl), by omega, g2, g3, g4, g5, g6, g7, g8⟩
          ·
            refine c_StubHouseModel_depth (n := o) g2 g3 (show 0 ≤ o ∧ o < 60 by omega) (fun (z22 : Int) (q23 : z22 = (depF (ovf (S 50 0)) 60 o : Int) ∧ 0 ≤ z22 ∧ z22 ≤ 5) => ?_)
            refine And.intro (fun (h24 : (z22 ≠ (5 : Int) : Prop)) => ?_) (fun (h24 : (z22 = (5 : Int) : Prop)) => ?_)
            ·
              have av : AV z19 0 0 (fx_up S 49 0 0 (0 : Int)) := (by omega : aN S z19 0 = 0)
              have ao : AV o 0 1 (fx_up S 49 0 0 (0 : Int)) := (by omega : aN S o 0 = 1)
              have dp : DPL o 4 (fx_up S 49 0 0 (0 : Int)) := (by omega : (depF (ovf (S 50 0)) 60 o : Int) ≤ 4)
              refine c_StubHouseModel_ahead  g2 g3 g4 g5 g6 g7 (fun (S25 : fxS) ⟨(f26 : fxfr [(49, 7), (53, 9999), (56, 9999), (58, 9999)] (fx_up S 49 0 0 (0 : Int)) S25), (q27 : 0 ≤ S25 49 0 7 ∧ S25 49 0 7 ≤ 199), (g28 : SNP S25), (g29 : USE S25), (g30 : UZ (fx_up S 49 0 0 (0 : Int)) S25)⟩ => ?_)
              have g31 : COL S25 := fx_pfr COL_stab f26 rfl g2
              have g32 : WTM S25 := fx_pfr WTM_stab f26 rfl g3
              have g33 : INJ S25 := fx_pfr INJ_stab f26 rfl g4
              have g34 : AON S25 := fx_pfr AON_stab f26 rfl g5
              have g35 : REC S25 := fx_pfr REC_stab f26 rfl g8
              have g36 : AV z19 0 0 S25 := fx_pfr AV_stab f26 rfl av
              have g37 : AV o 0 1 S25 := fx_pfr AV_stab f26 rfl ao
              have g38 : DPL o 4 S25 := fx_pfr DPL_stab f26 rfl dp
              refine And.intro (fun (h39 : (q = (0 : Int) : Prop)) => ?_) (fun (h39 : (q ≠ (0 : Int) : Prop)) => ?_)
              ·
                refine c_StubHouseModel_plant (n := z19) (q := (2 : Int)) (o := o) (x := x) g31 (show 0 ≤ z19 ∧ z19 < 60 by omega) (show 0 ≤ (2 : Int) ∧ (2 : Int) ≤ 2 by omega) (show -1 ≤ o ∧ o < 60 by omega) (fun (S40 : fxS) ⟨(f41 : fxfr [(50, 9999), (52, 9999)] S25 S40), (g42 : COL S40), (g43 : PLN z19 (2 : Int) o S25 S40)⟩ => ?_)
                have w44 : S40 49 0 7 = S25 49 0 7 := f41 49 0 7 rfl
                have g45 : SNP S40 := fx_pfr SNP_stab f41 rfl g28
                have g46 : UZ (fx_up S 49 0 0 (0 : Int)) S40 := fx_pfr UZ_stab f41 rfl g30
                have pn : PLN z19 (2 : Int) o S25 S40 := by assumption
                have ek : aN S25 z19 0 = 0 := (by assumption : AV z19 0 0 S25)
                have wt : WTM S40 := PLN_wt pn (by assumption) (by omega) ek (by omega) (by assumption : AV o 0 1 S25) (by assumption : DPL o 4 S25) (by omega)
                have ij : INJ S40 := PLN_inj pn (by assumption)
                have ao2 : AON S40 := PLN_aon pn (by assumption)
                have us : USE S40 := PLN_use pn (fun b => f41 56 0 b rfl) (by assumption)
                have rx : RECX z19 S40 := RECX_eqr pn.1 (by assumption) (by omega) (f41 49 0 36 rfl) (fun k => f41 75 0 k rfl)
                refine And.intro (fun (h47 : (q ≠ (0 : Int) : Prop)) => ?_) (fun (h47 : (q = (0 : Int) : Prop)) => ?_)
                ·
                  refine c_StubHouseModel_record (e := (16 : Int)) g42 wt ij ao2 g45 (show S40 49 0 7 ≤ 199 by omega) (show 0 ≤ (16 : Int) ∧ (16 : Int) ≤ 1000 by omega) (fun (S48 : fxS) ⟨(f49 : fxfr [(49, 7), (53, 9999), (55, 9999)] S40 S48), (g50 : SNP S48)⟩ => ?_)
                  have g51 : COL S48 := fx_pfr COL_stab f49 rfl g42
                  have g52 : UZ (fx_up S 49 0 0 (0 : Int)) S48 := fx_pfr UZ_stab f49 rfl g46
                  have g53 : PLN z19 (2 : Int) o S25 S48 := fx_pfr PLN_stab f49 rfl pn
                  have g54 : WTM S48 := fx_pfr WTM_stab f49 rfl wt
                  have g55 : INJ S48 := fx_pfr INJ_stab f49 rfl ij
                  have g56 : AON S48 := fx_pfr AON_stab f49 rfl ao2
                  have g57 : USE S48 := fx_pfr USE_stab f49 rfl us
                  have g58 : RECX z19 S48 := fx_pfr RECX_stab f49 rfl rx
                  exact hk z19 S48 ⟨(fxfr_tr (fxfr_tr (fxfr_tr (fxfr_up fxfr_rfl rfl) f26 rfl) f41 rfl) f49 rfl), by omega, g51, g54, g55, g56, g57, g50, by first | assumption | exact REC_x (by assumption)⟩
                ·
                  intro z59 (z59a : (-2147483648 : Int) ≤ z59) (z59b : z59 ≤ (2147483647 : Int)) (z59c : z59 = S40 49 0 12)
                  refine c_set (n := z19) (w := (2 : Int)) (v := z59) (show 0 ≤ z19 ∧ z19 < 60 by omega) (show 0 ≤ (2 : Int) ∧ (2 : Int) < 42 by omega) (show -2147483648 ≤ z59 ∧ z59 < 2147483648 by omega) ?_
                  have w60 : (fx_up S40 50 0 (42 * z19 + (2 : Int)).toNat z59) 49 0 7 = S40 49 0 7 := rfl
                  have g61 : COL (fx_up S40 50 0 (42 * z19 + (2 : Int)).toNat z59) := COL_set g42 (by omega) (by omega) (by omega)
                  have g62 : SNP (fx_up S40 50 0 (42 * z19 + (2 : Int)).toNat z59) := fx_pup SNP_stab rfl g45
                  have g63 : UZ (fx_up S 49 0 0 (0 : Int)) (fx_up S40 50 0 (42 * z19 + (2 : Int)).toNat z59) := fx_pup UZ_stab rfl g46
                  have g64 : WTM (fx_up S40 50 0 (42 * z19 + (2 : Int)).toNat z59) := WTM_set wt (by omega) (by omega)
                  have g65 : INJ (fx_up S40 50 0 (42 * z19 + (2 : Int)).toNat z59) := INJ_set ij (by omega) (by omega)
                  have g66 : AON (fx_up S40 50 0 (42 * z19 + (2 : Int)).toNat z59) := AON_set ao2 (by omega) (by omega)
                  have g67 : USE (fx_up S40 50 0 (42 * z19 + (2 : Int)).toNat z59) := USE_set us (by omega) (by omega)
                  have g68 : RECX z19 (fx_up S40 50 0 (42 * z19 + (2 : Int)).toNat z59) := RECX_set rx (by omega) (by omega)
                  intro z69 (z69a : (-2147483648 : Int) ≤ z69) (z69b : z69 ≤ (2147483647 : Int)) (z69c : z69 = S40 49 0 12)
                  intro z70 (z70a : -2147483648 ≤ z70) (z70b : z70 < 2147483648) (z70c : -2147483648 ≤ (z69 + (1 : Int)) ∧ (z69 + (1 : Int)) < 2147483648 → z70 = (z69 + (1 : Int)))
                  refine And.intro (show (-2147483648 : Int) ≤ z70 ∧ z70 ≤ (2147483647 : Int) by omega) ?_
                  have w71 : (fx_up (fx_up S40 50 0 (42 * z19 + (2 : Int)).toNat z59) 49 0 12 z70) 49 0 7 = (fx_up S40 50 0 (42 * z19 + (2 : Int)).toNat z59) 49 0 7 := if_neg (fun q => absurd q.2.2 (by decide))
                  have g72 : COL (fx_up (fx_up S40 50 0 (42 * z19 + (2 : Int)).toNat z59) 49 0 12 z70) := fx_pup COL_stab rfl g61
                  have g73 : SNP (fx_up (fx_up S40 50 0 (42 * z19 + (2 : Int)).toNat z59) 49 0 12 z70) := fx_pup SNP_stab rfl g62
                  have g74 : UZ (fx_up S 49 0 0 (0 : Int)) (fx_up (fx_up S40 50 0 (42 * z19 + (2 : Int)).toNat z59) 49 0 12 z70) := fx_pup UZ_stab rfl g63
                  have g75 : WTM (fx_up (fx_up S40 50 0 (42 * z19 + (2 : Int)).toNat z59) 49 0 12 z70) := fx_pup WTM_stab rfl g64
                  have g76 : INJ (fx_up (fx_up S40 50 0 (42 * z19 + (2 : Int)).toNat z59) 49 0 12 z70) := fx_pup INJ_stab rfl g65
                  have g77 : AON (fx_up (fx_up S40 50 0 (42 * z19 + (2 : Int)).toNat z59) 49 0 12 z70) := fx_pup AON_stab rfl g66
                  have g78 : USE (fx_up (fx_up S40 50 0 (42 * z19 + (2 : Int)).toNat z59) 49 0 12 z70) := fx_pup USE_stab rfl g67
                  have g79 : RECX z19 (fx_up (fx_up S40 50 0 (42 * z19 + (2 : Int)).toNat z59) 49 0 12 z70) := fx_pup RECX_stab rfl g68
                  intro z80 (z80a : (-2147483648 : Int) ≤ z80) (z80b : z80 ≤ (2147483647 : Int)) (z80c : z80 = S40 49 0 14)
                  refine c_set (n := z19) (w := (4 : Int)) (v := z80) (show 0 ≤ z19 ∧ z19 < 60 by omega) (show 0 ≤ (4 : Int) ∧ (4 : Int) < 42 by omega) (show -2147483648 ≤ z80 ∧ z80 < 2147483648 by omega) ?_
                  have w81 : (fx_up (fx_up (fx_up S40 50 0 (42 * z19 + (2 : Int)).toNat z59) 49 0 12 z70) 50 0 (42 * z19 + (4 : Int)).toNat z80) 49 0 7 = (fx_up (fx_up S40 50 0 (42 * z19 + (2 : Int)).toNat z59) 49 0 12 z70) 49 0 7 := rfl
                  have g82 : COL (fx_up (fx_up (fx_up S40 50 0 (42 * z19 + (2 : Int)).toNat z59) 49 0 12 z70) 50 0 (42 * z19 + (4 : Int)).toNat z80) := COL_set g72 (by omega) (by omega) (by omega)
                  have g83 : SNP (fx_up (fx_up (fx_up S40 50 0 (42 * z19 + (2 : Int)).toNat z59) 49 0 12 z70) 50 0 (42 * z19 + (4 : Int)).toNat z80) := fx_pup SNP_stab rfl g73
                  have g84 : UZ (fx_up S 49 0 0 (0 : Int)) (fx_up (fx_up (fx_up S40 50 0 (42 * z19 + (2 : Int)).toNat z59) 49 0 12 z70) 50 0 (42 * z19 + (4 : Int)).toNat z80) := fx_pup UZ_stab rfl g74
                  have g85 : WTM (fx_up (fx_up (fx_up S40 50 0 (42 * z19 + (2 : Int)).toNat z59) 49 0 12 z70) 50 0 (42 * z19 + (4 : Int)).toNat z80) := WTM_set g75 (by omega) (by omega)
                  have g86 : INJ (fx_up (fx_up (fx_up S40 50 0 (42 * z19 + (2 : Int)).toNat z59) 49 0 12 z70) 50 0 (42 * z19 + (4 : Int)).toNat z80) := INJ_set g76 (by omega) (by omega)
                  have g87 : AON (fx_up (fx_up (fx_up S40 50 0 (42 * z19 + (2 : Int)).toNat z59) 49 0 12 z70) 50 0 (42 * z19 + (4 : Int)).toNat z80) := AON_set g77 (by omega) (by omega)
                  have g88 : USE (fx_up (fx_up (fx_up S40 50 0 (42 * z19 + (2 : Int)).toNat z59) 49 0 12 z70) 50 0 (42 * z19 + (4 : Int)).toNat z80) := USE_set g78 (by omega) (by omega)
                  have g89 : RECX z19 (fx_up (fx_up (fx_up S40 50 0 (42 * z19 + (2 : Int)).toNat z59) 49 0 12 z70) 50 0 (42 * z19 + (4 : Int)).toNat z80) := RECX_set g79 (by omega) (by omega)
                  intro z90 (z90a : (-2147483648 : Int) ≤ z90) (z90b : z90 ≤ (2147483647 : Int)) (z90c : z90 = S40 49 0 14)
                  intro z91 (z91a : -2147483648 ≤ z91) (z91b : z91 < 2147483648) (z91c : -2147483648 ≤ (z90 + (1 : Int)) ∧ (z90 + (1 : Int)) < 2147483648 → z91 = (z90 + (1 : Int)))
                  refine And.intro (show (-2147483648 : Int) ≤ z91 ∧ z91 ≤ (2147483647 : Int) by omega) ?_
                  have w92 : (fx_up (fx_up (fx_up (fx_up S40 50 0 (42 * z19 + (2 : Int)).toNat z59) 49 0 12 z70) 50 0 (42 * z19 + (4 : Int)).toNat z80) 49 0 14 z91) 49 0 7 = (fx_up (fx_up (fx_up S40 50 0 (42 * z19 + (2 : Int)).toNat z59) 49 0 12 z70) 50 0 (42 * z19 + (4 : Int)).toNat z80) 49 0 7 := if_neg (fun q => absurd q.2.2 (by decide))
                  have g93 : COL (fx_up (fx_up (fx_up (fx_up S40 50 0 (42 * z19 + (2 : Int)).toNat z59) 49 0 12 z70) 50 0 (42 * z19 + (4 : Int)).toNat z80) 49 0 14 z91) := fx_pup COL_stab rfl g82
                  have g94 : SNP (fx_up (fx_up (fx_up (fx_up S40 50 0 (42 * z19 + (2 : Int)).toNat z59) 49 0 12 z70) 50 0 (42 * z19 + (4 : Int)).toNat z80) 49 0 14 z91) := fx_pup SNP_stab rfl g83
                  have g95 : UZ (fx_up S 49 0 0 (0 : Int)) (fx_up (fx_up (fx_up (fx_up S40 50 0 (42 * z19 + (2 : Int)).toNat z59) 49 0 12 z70) 50 0 (42 * z19 + (4 : Int)).toNat z80) 49 0 14 z91) := fx_pup UZ_stab rfl g84
                  have g96 : WTM (fx_up (fx_up (fx_up (fx_up S40 50 0 (42 * z19 + (2 : Int)).toNat z59) 49 0 12 z70) 50 0 (42 * z19 + (4 : Int)).toNat z80) 49 0 14 z91) := fx_pup WTM_stab rfl g85
                  have g97 : INJ (fx_up (fx_up (fx_up (fx_up S40 50 0 (42 * z19 + (2 : Int)).toNat z59) 49 0 12 z70) 50 0 (42 * z19 + (4 : Int)).toNat z80) 49 0 14 z91) := fx_pup INJ_stab rfl g86
                  have g98 : AON (fx_up (fx_up (fx_up (fx_up S40 50 0 (42 * z19 + (2 : Int)).toNat z59) 49 0 12 z70) 50 0 (42 * z19 + (4 : Int)).toNat z80) 49 0 14 z91) := fx_pup AON_stab rfl g87
                  have g99 : USE (fx_up (fx_up (fx_up (fx_up S40 50 0 (42 * z19 + (2 : Int)).toNat z59) 49 0 12 z70) 50 0 (42 * z19 + (4 : Int)).toNat z80) 49 0 14 z91) := fx_pup USE_stab rfl g88
                  have g100 : RECX z19 (fx_up (fx_up (fx_up (fx_up S40 50 0 (42 * z19 + (2 : Int)).toNat z59) 49 0 12 z70) 50 0 (42 * z19 + (4 : Int)).toNat z80) 49 0 14 z91) := fx_pup RECX_stab rfl g89
                  refine c_StubHouseModel_record (e := (16 : Int)) g93 g96 g97 g98 g94 (show S40 49 0 7 ≤ 199 by omega) (show 0 ≤ (16 : Int) ∧ (16 : Int) ≤ 1000 by omega) (fun (S101 : fxS) ⟨(f102 : fxfr [(49, 7), (53, 9999), (55, 9999)] (fx_up (fx_up (fx_up (fx_up S40 50 0 (42 * z19 + (2 : Int)).toNat z59) 49 0 12 z70) 50 0 (42 * z19 + (4 : Int)).toNat z80) 49 0 14 z91) S101), (g103 : SNP S101)⟩ => ?_)
                  have g104 : COL S101 := fx_pfr COL_stab f102 rfl g93
                  have g105 : UZ (fx_up S 49 0 0 (0 : Int)) S101 := fx_pfr UZ_stab f102 rfl g95
                  have g106 : WTM S101 := fx_pfr WTM_stab f102 rfl g96
                  have g107 : INJ S101 := fx_pfr INJ_stab f102 rfl g97
                  have g108 : AON S101 := fx_pfr AON_stab f102 rfl g98
                  have g109 : USE S101 := fx_pfr USE_stab f102 rfl g99
                  have g110 : RECX z19 S101 := fx_pfr RECX_stab f102 rfl g100
                  exact hk z19 S101 ⟨(fxfr_tr (fxfr_up (fxfr_up (fxfr_up (fxfr_up (fxfr_tr (fxfr_tr (fxfr_up fxfr_rfl rfl) f26 rfl) f41 rfl) rfl) rfl) rfl) rfl) f102 rfl), by omega, g104, g106, g107, g108, g109, g103, by first | assumption | exact REC_x (by assumption)⟩
              ·
                refine c_StubHouseModel_plant (n := z19) (q := (1 : Int)) (o := o) (x := x) g31 (show 0 ≤ z19 ∧ z19 < 60 by omega) (show 0 ≤ (1 : Int) ∧ (1 : Int) ≤ 2 by omega) (show -1 ≤ o ∧ o < 60 by omega) (fun (S111 : fxS) ⟨(f112 : fxfr [(50, 9999), (52, 9999)] S25 S111), (g113 : COL S111), (g114 : PLN z19 (1 : Int) o S25 S111)⟩ => ?_)
                have w115 : S111 49 0 7 = S25 49 0 7 := f112 49 0 7 rfl
                have g116 : SNP S111 := fx_pfr SNP_stab f112 rfl g28
                have g117 : UZ (fx_up S 49 0 0 (0 : Int)) S111 := fx_pfr UZ_stab f112 rfl g30
                have pn : PLN z19 (1 : Int) o S25 S111 := by assumption
                have ek : aN S25 z19 0 = 0 := (by assumption : AV z19 0 0 S25)
                have wt : WTM S111 := PLN_wt pn (by assumption) (by omega) ek (by omega) (by assumption : AV o 0 1 S25) (by assumption : DPL o 4 S25) (by omega)
                have ij : INJ S111 := PLN_inj pn (by assumption)
                have ao2 : AON S111 := PLN_aon pn (by assumption)
                have us : USE S111 := PLN_use pn (fun b => f112 56 0 b rfl) (by assumption)
                have rx : RECX z19 S111 := RECX_eqr pn.1 (by assumption) (by omega) (f112 49 0 36 rfl) (fun k => f112 75 0 k rfl)
                refine And.intro (fun (h118 : (q ≠ (0 : Int) : Prop)) => ?_) (fun (h118 : (q = (0 : Int) : Prop)) => ?_)
                ·
                  refine c_StubHouseModel_record (e := (16 : Int)) g113 wt ij ao2 g116 (show S111 49 0 7 ≤ 199 by omega) (show 0 ≤ (16 : Int) ∧ (16 : Int) ≤ 1000 by omega) (fun (S119 : fxS) ⟨(f120 : fxfr [(49, 7), (53, 9999), (55, 9999)] S111 S119), (g121 : SNP S119)⟩ => ?_)
                  have g122 : COL S119 := fx_pfr COL_stab f120 rfl g113
                  have g123 : UZ (fx_up S 49 0 0 (0 : Int)) S119 := fx_pfr UZ_stab f120 rfl g117
                  have g124 : PLN z19 (1 : Int) o S25 S119 := fx_pfr PLN_stab f120 rfl pn
                  have g125 : WTM S119 := fx_pfr WTM_stab f120 rfl wt
                  have g126 : INJ S119 := fx_pfr INJ_stab f120 rfl ij
                  have g127 : AON S119 := fx_pfr AON_stab f120 rfl ao2
                  have g128 : USE S119 := fx_pfr USE_stab f120 rfl us
                  have g129 : RECX z19 S119 := fx_pfr RECX_stab f120 rfl rx
                  exact hk z19 S119 ⟨(fxfr_tr (fxfr_tr (fxfr_tr (fxfr_up fxfr_rfl rfl) f26 rfl) f112 rfl) f120 rfl), by omega, g122, g125, g126, g127, g128, g121, by first | assumption | exact REC_x (by assumption)⟩
                ·
                  intro z130 (z130a : (-2147483648 : Int) ≤ z130) (z130b : z130 ≤ (2147483647 : Int)) (z130c : z130 = S111 49 0 12)
                  refine c_set (n := z19) (w := (2 : Int)) (v := z130) (show 0 ≤ z19 ∧ z19 < 60 by omega) (show 0 ≤ (2 : Int) ∧ (2 : Int) < 42 by omega) (show -2147483648 ≤ z130 ∧ z130 < 2147483648 by omega) ?_
                  have w131 : (fx_up S111 50 0 (42 * z19 + (2 : Int)).toNat z130) 49 0 7 = S111 49 0 7 := rfl
                  have g132 : COL (fx_up S111 50 0 (42 * z19 + (2 : Int)).toNat z130) := COL_set g113 (by omega) (by omega) (by omega)
                  have g133 : SNP (fx_up S111 50 0 (42 * z19 + (2 : Int)).toNat z130) := fx_pup SNP_stab rfl g116
                  have g134 : UZ (fx_up S 49 0 0 (0 : Int)) (fx_up S111 50 0 (42 * z19 + (2 : Int)).toNat z130) := fx_pup UZ_stab rfl g117
                  have g135 : WTM (fx_up S111 50 0 (42 * z19 + (2 : Int)).toNat z130) := WTM_set wt (by omega) (by omega)
                  have g136 : INJ (fx_up S111 50 0 (42 * z19 + (2 : Int)).toNat z130) := INJ_set ij (by omega) (by omega)
                  have g137 : AON (fx_up S111 50 0 (42 * z19 + (2 : Int)).toNat z130) := AON_set ao2 (by omega) (by omega)
                  have g138 : USE (fx_up S111 50 0 (42 * z19 + (2 : Int)).toNat z130) := USE_set us (by omega) (by omega)
                  have g139 : RECX z19 (fx_up S111 50 0 (42 * z19 + (2 : Int)).toNat z130) := RECX_set rx (by omega) (by omega)
                  intro z140 (z140a : (-2147483648 : Int) ≤ z140) (z140b : z140 ≤ (2147483647 : Int)) (z140c : z140 = S111 49 0 12)
                  intro z141 (z141a : -2147483648 ≤ z141) (z141b : z141 < 2147483648) (z141c : -2147483648 ≤ (z140 + (1 : Int)) ∧ (z140 + (1 : Int)) < 2147483648 → z141 = (z140 + (1 : Int)))
                  refine And.intro (show (-2147483648 : Int) ≤ z141 ∧ z141 ≤ (2147483647 : Int) by omega) ?_
                  have w142 : (fx_up (fx_up S111 50 0 (42 * z19 + (2 : Int)).toNat z130) 49 0 12 z141) 49 0 7 = (fx_up S111 50 0 (42 * z19 + (2 : Int)).toNat z130) 49 0 7 := if_neg (fun q => absurd q.2.2 (by decide))
                  have g143 : COL (fx_up (fx_up S111 50 0 (42 * z19 + (2 : Int)).toNat z130) 49 0 12 z141) := fx_pup COL_stab rfl g132
                  have g144 : SNP (fx_up (fx_up S111 50 0 (42 * z19 + (2 : Int)).toNat z130) 49 0 12 z141) := fx_pup SNP_stab rfl g133
                  have g145 : UZ (fx_up S 49 0 0 (0 : Int)) (fx_up (fx_up S111 50 0 (42 * z19 + (2 : Int)).toNat z130) 49 0 12 z141) := fx_pup UZ_stab rfl g134
                  have g146 : WTM (fx_up (fx_up S111 50 0 (42 * z19 + (2 : Int)).toNat z130) 49 0 12 z141) := fx_pup WTM_stab rfl g135
                  have g147 : INJ (fx_up (fx_up S111 50 0 (42 * z19 + (2 : Int)).toNat z130) 49 0 12 z141) := fx_pup INJ_stab rfl g136
                  have g148 : AON (fx_up (fx_up S111 50 0 (42 * z19 + (2 : Int)).toNat z130) 49 0 12 z141) := fx_pup AON_stab rfl g137
                  have g149 : USE (fx_up (fx_up S111 50 0 (42 * z19 + (2 : Int)).toNat z130) 49 0 12 z141) := fx_pup USE_stab rfl g138
                  have g150 : RECX z19 (fx_up (fx_up S111 50 0 (42 * z19 + (2 : Int)).toNat z130) 49 0 12 z141) := fx_pup RECX_stab rfl g139
                  intro z151 (z151a : (-2147483648 : Int) ≤ z151) (z151b : z151 ≤ (2147483647 : Int)) (z151c : z151 = S111 49 0 14)
                  refine c_set (n := z19) (w := (4 : Int)) (v := z151) (show 0 ≤ z19 ∧ z19 < 60 by omega) (show 0 ≤ (4 : Int) ∧ (4 : Int) < 42 by omega) (show -2147483648 ≤ z151 ∧ z151 < 2147483648 by omega) ?_
                  have w152 : (fx_up (fx_up (fx_up S111 50 0 (42 * z19 + (2 : Int)).toNat z130) 49 0 12 z141) 50 0 (42 * z19 + (4 : Int)).toNat z151) 49 0 7 = (fx_up (fx_up S111 50 0 (42 * z19 + (2 : Int)).toNat z130) 49 0 12 z141) 49 0 7 := rfl
                  have g153 : COL (fx_up (fx_up (fx_up S111 50 0 (42 * z19 + (2 : Int)).toNat z130) 49 0 12 z141) 50 0 (42 * z19 + (4 : Int)).toNat z151) := COL_set g143 (by omega) (by omega) (by omega)
                  have g154 : SNP (fx_up (fx_up (fx_up S111 50 0 (42 * z19 + (2 : Int)).toNat z130) 49 0 12 z141) 50 0 (42 * z19 + (4 : Int)).toNat z151) := fx_pup SNP_stab rfl g144
                  have g155 : UZ (fx_up S 49 0 0 (0 : Int)) (fx_up (fx_up (fx_up S111 50 0 (42 * z19 + (2 : Int)).toNat z130) 49 0 12 z141) 50 0 (42 * z19 + (4 : Int)).toNat z151) := fx_pup UZ_stab rfl g145
                  have g156 : WTM (fx_up (fx_up (fx_up S111 50 0 (42 * z19 + (2 : Int)).toNat z130) 49 0 12 z141) 50 0 (42 * z19 + (4 : Int)).toNat z151) := WTM_set g146 (by omega) (by omega)
                  have g157 : INJ (fx_up (fx_up (fx_up S111 50 0 (42 * z19 + (2 : Int)).toNat z130) 49 0 12 z141) 50 0 (42 * z19 + (4 : Int)).toNat z151) := INJ_set g147 (by omega) (by omega)
                  have g158 : AON (fx_up (fx_up (fx_up S111 50 0 (42 * z19 + (2 : Int)).toNat z130) 49 0 12 z141) 50 0 (42 * z19 + (4 : Int)).toNat z151) := AON_set g148 (by omega) (by omega)
                  have g159 : USE (fx_up (fx_up (fx_up S111 50 0 (42 * z19 + (2 : Int)).toNat z130) 49 0 12 z141) 50 0 (42 * z19 + (4 : Int)).toNat z151) := USE_set g149 (by omega) (by omega)
                  have g160 : RECX z19 (fx_up (fx_up (fx_up S111 50 0 (42 * z19 + (2 : Int)).toNat z130) 49 0 12 z141) 50 0 (42 * z19 + (4 : Int)).toNat z151) := RECX_set g150 (by omega) (by omega)
                  intro z161 (z161a : (-2147483648 : Int) ≤ z161) (z161b : z161 ≤ (2147483647 : Int)) (z161c : z161 = S111 49 0 14)
                  intro z162 (z162a : -2147483648 ≤ z162) (z162b : z162 < 2147483648) (z162c : -2147483648 ≤ (z161 + (1 : Int)) ∧ (z161 + (1 : Int)) < 2147483648 → z162 = (z161 + (1 : Int)))
                  refine And.intro (show (-2147483648 : Int) ≤ z162 ∧ z162 ≤ (2147483647 : Int) by omega) ?_
                  have w163 : (fx_up (fx_up (fx_up (fx_up S111 50 0 (42 * z19 + (2 : Int)).toNat z130) 49 0 12 z141) 50 0 (42 * z19 + (4 : Int)).toNat z151) 49 0 14 z162) 49 0 7 = (fx_up (fx_up (fx_up S111 50 0 (42 * z19 + (2 : Int)).toNat z130) 49 0 12 z141) 50 0 (42 * z19 + (4 : Int)).toNat z151) 49 0 7 := if_neg (fun q => absurd q.2.2 (by decide))
                  have g164 : COL (fx_up (fx_up (fx_up (fx_up S111 50 0 (42 * z19 + (2 : Int)).toNat z130) 49 0 12 z141) 50 0 (42 * z19 + (4 : Int)).toNat z151) 49 0 14 z162) := fx_pup COL_stab rfl g153
                  have g165 : SNP (fx_up (fx_up (fx_up (fx_up S111 50 0 (42 * z19 + (2 : Int)).toNat z130) 49 0 12 z141) 50 0 (42 * z19 + (4 : Int)).toNat z151) 49 0 14 z162) := fx_pup SNP_stab rfl g154
                  have g166 : UZ (fx_up S 49 0 0 (0 : Int)) (fx_up (fx_up (fx_up (fx_up S111 50 0 (42 * z19 + (2 : Int)).toNat z130) 49 0 12 z141) 50 0 (42 * z19 + (4 : Int)).toNat z151) 49 0 14 z162) := fx_pup UZ_stab rfl g155
                  have g167 : WTM (fx_up (fx_up (fx_up (fx_up S111 50 0 (42 * z19 + (2 : Int)).toNat z130) 49 0 12 z141) 50 0 (42 * z19 + (4 : Int)).toNat z151) 49 0 14 z162) := fx_pup WTM_stab rfl g156
                  have g168 : INJ (fx_up (fx_up (fx_up (fx_up S111 50 0 (42 * z19 + (2 : Int)).toNat z130) 49 0 12 z141) 50 0 (42 * z19 + (4 : Int)).toNat z151) 49 0 14 z162) := fx_pup INJ_stab rfl g157
                  have g169 : AON (fx_up (fx_up (fx_up (fx_up S111 50 0 (42 * z19 + (2 : Int)).toNat z130) 49 0 12 z141) 50 0 (42 * z19 + (4 : Int)).toNat z151) 49 0 14 z162) := fx_pup AON_stab rfl g158
                  have g170 : USE (fx_up (fx_up (fx_up (fx_up S111 50 0 (42 * z19 + (2 : Int)).toNat z130) 49 0 12 z141) 50 0 (42 * z19 + (4 : Int)).toNat z151) 49 0 14 z162) := fx_pup USE_stab rfl g159
                  have g171 : RECX z19 (fx_up (fx_up (fx_up (fx_up S111 50 0 (42 * z19 + (2 : Int)).toNat z130) 49 0 12 z141) 50 0 (42 * z19 + (4 : Int)).toNat z151) 49 0 14 z162) := fx_pup RECX_stab rfl g160
                  refine c_StubHouseModel_record (e := (16 : Int)) g164 g167 g168 g169 g165 (show S111 49 0 7 ≤ 199 by omega) (show 0 ≤ (16 : Int) ∧ (16 : Int) ≤ 1000 by omega) (fun (S172 : fxS) ⟨(f173 : fxfr [(49, 7), (53, 9999), (55, 9999)] (fx_up (fx_up (fx_up (fx_up S111 50 0 (42 * z19 + (2 : Int)).toNat z130) 49 0 12 z141) 50 0 (42 * z19 + (4 : Int)).toNat z151) 49 0 14 z162) S172), (g174 : SNP S172)⟩ => ?_)
                  have g175 : COL S172 := fx_pfr COL_stab f173 rfl g164
                  have g176 : UZ (fx_up S 49 0 0 (0 : Int)) S172 := fx_pfr UZ_stab f173 rfl g166
                  have g177 : WTM S172 := fx_pfr WTM_stab f173 rfl g167
                  have g178 : INJ S172 := fx_pfr INJ_stab f173 rfl g168
                  have g179 : AON S172 := fx_pfr AON_stab f173 rfl g169
                  have g180 : USE S172 := fx_pfr USE_stab f173 rfl g170
                  have g181 : RECX z19 S172 := fx_pfr RECX_stab f173 rfl g171
                  exact hk z19 S172 ⟨(fxfr_tr (fxfr_up (fxfr_up (fxfr_up (fxfr_up (fxfr_tr (fxfr_tr (fxfr_up fxfr_rfl rfl) f26 rfl) f112 rfl) rfl) rfl) rfl) rfl) f173 rfl), by omega, g175, g177, g178, g179, g180, g174, by first | assumption | exact REC_x (by assumption)⟩
            ·
              exact hk (-3 : Int) (fx_up S 49 0 0 (0 : Int)) ⟨(fxfr_up fxfr_rfl rfl), by omega, g2, g3, g4, g5, g6, g7, g8⟩
        ·
          exact hk (-7 : Int) (fx_up S 49 0 0 (0 : Int)) ⟨(fxfr_up fxfr_rfl rfl), by omega, g2, g3, g4, g5, g6, g7, g8⟩
      ·
        exact hk (-1 : Int) (fx_up S 49 0 0 (0 : Int)) ⟨(fxfr_up fxfr_rfl rfl), by omega, g2, g3, g4, g5, g6, g7, g8⟩
  ·
    exact hk (-8 : Int) (fx_up S 49 0 0 (0 : Int)) ⟨(fxfr_up fxfr_rfl rfl), by omega, g2, g3, g4, g5, g6, g7, g8⟩
theorem c_StubHouseModel_find {l : Launch} {k : fxK} {S : fxS} {o : Int} {x : Int} (p0 : COL S) (p1 : -2147483648 ≤ o ∧ o < 2147483648) (hk : ∀ (r : Int) (S' : fxS) , (fxfr [(49, 0)] S S' ∧ (-2147483648 ≤ r ∧ r < 2147483648)) → k (some (.inl r)) S') : fC l 32 [.inr (.inr (49, 0)), .inl o, .inr (.inl x)] S k := by
  refine fxe_32 (Nat.le_of_ble_eq_true rfl) (fxz_32 400 ?_)
  refine And.intro (show (-2147483648 : Int) ≤ (0 : Int) ∧ (0 : Int) ≤ (2147483647 : Int) by omega) ?_
  have g1 : COL (fx_up S 49 0 0 (0 : Int)) := fx_pup COL_stab rfl p0
  intro z2 (z2a : (0 : Int) ≤ z2) (z2b : z2 ≤ (1 : Int)) (z2c : z2 = S 49 0 15)
  refine And.intro (fun (h3 : (z2 = (0 : Int) : Prop)) => ?_) (fun (h3 : (z2 ≠ (0 : Int) : Prop)) => ?_)
  ·
    refine c_StubHouseModel_isDirectory (n := o) g1 (show -2147483648 ≤ o ∧ o < 2147483648 by omega) (fun (z4 : Int) (q5 : 0 ≤ z4 ∧ z4 ≤ 1 ∧ (z4 = 1 → 0 ≤ o ∧ o < 60 ∧ aN S o 0 = 1)) => ?_)
    refine And.intro (fun (h6 : (z4 = (0 : Int) : Prop)) => ?_) (fun (h6 : (z4 ≠ (0 : Int) : Prop)) => ?_)
    ·
      exact hk (-1 : Int) (fx_up S 49 0 0 (0 : Int)) ⟨(fxfr_up fxfr_rfl rfl), by omega⟩
    ·
      refine c_StubHouseModel_look (o := o) (x := x) g1 (show -2147483648 ≤ o ∧ o < 2147483648 by omega) (fun (z7 : Int) (q8 : -2 ≤ z7 ∧ z7 < 60 ∧ z7 ≠ -1 ∧ z7 ≠ 0 ∧ (0 ≤ z7 → aN S z7 0 ≠ 0 ∧ aN S z7 1 = o)) => ?_)
      exact hk z7 (fx_up S 49 0 0 (0 : Int)) ⟨(fxfr_up fxfr_rfl rfl), by omega⟩
  ·
    exact hk (-8 : Int) (fx_up S 49 0 0 (0 : Int)) ⟨(fxfr_up fxfr_rfl rfl), by omega⟩
